/-! numbers modulo P = 2^61 - 1: 37 has the order P - 1, so every y that is not 0 is a power of it, and y^(P-1) = 1 -/
abbrev PP : Nat := 2305843009213693951
def m_pm : Nat → Nat → Nat → Nat
  | 0, _, _ => 1
  | k + 1, a, n => if n = 0 then 1 else if n % 2 = 1 then a * m_pm k (a * a % PP) (n / 2) % PP else m_pm k (a * a % PP) (n / 2)
theorem m_pm_eq : ∀ (k a n : Nat), n < 2 ^ k → m_pm k a n % PP = a ^ n % PP
  | 0, a, n, h => by
    have : n = 0 := by simpa using h
    subst this
    simp [m_pm]
  | k + 1, a, n, h => by
    rw [m_pm]
    by_cases h0 : n = 0
    · subst h0; simp
    · rw [if_neg h0]
      have h2 : n / 2 < 2 ^ k := by rw [Nat.pow_succ] at h; omega
      have ih := m_pm_eq k (a * a % PP) (n / 2) h2
      have e1 : (a * a % PP) ^ (n / 2) % PP = a ^ (2 * (n / 2)) % PP := by
        rw [← Nat.pow_mod, ← Nat.pow_two, ← Nat.pow_mul]
      by_cases h1 : n % 2 = 1
      · rw [if_pos h1, Nat.mod_mod, Nat.mul_mod, ih, e1, ← Nat.mul_mod, Nat.mul_comm, ← Nat.pow_succ]
        congr 2
        omega
      · rw [if_neg h1, ih, e1]
        congr 2
        omega
theorem m_pow1 {a b : Nat} (h : a ^ b % PP = 1) (k : Nat) : a ^ (b * k) % PP = 1 := by
  rw [Nat.pow_mul, Nat.pow_mod, h, Nat.one_pow]
  rfl
theorem m_gN : 37 ^ 2305843009213693950 % PP = 1 := by
  rw [← m_pm_eq 61 37 2305843009213693950 (by decide)]
  decide +kernel
theorem m_gq {q e : Nat} (he : q < 2 ^ 61) (h : m_pm 61 37 q % PP = e) : 37 ^ q % PP = e := by
  rw [← m_pm_eq 61 37 q he]; exact h
/-- d with 37^d = 1: also the greatest common divisor -/
theorem m_gcd {a : Nat} : ∀ m n : Nat, a ^ m % PP = 1 → a ^ n % PP = 1 → a ^ (Nat.gcd m n) % PP = 1 := by
  intro m n
  induction m, n using Nat.gcd.induction with
  | H0 n => intro _ h; simpa using h
  | H1 m n hm ih =>
    intro h1 h2
    rw [Nat.gcd_rec]
    refine ih ?_ h1
    have e : n = m * (n / m) + n % m := (Nat.div_add_mod n m).symm
    rw [e, Nat.pow_add, Nat.mul_mod, m_pow1 h1, Nat.one_mul, Nat.mod_mod] at h2
    exact h2
theorem m_pr {q : Nat} (h : ∀ d, d ≤ q → d ∣ q → d = 1 ∨ d = q) (hq : 0 < q) {k : Nat} (hk : ¬ q ∣ k) : Nat.Coprime k q := by
  have h1 : Nat.gcd k q ∣ q := Nat.gcd_dvd_right k q
  rcases h _ (Nat.le_of_dvd hq h1) h1 with h2 | h2
  · exact h2
  · exact absurd (h2 ▸ Nat.gcd_dvd_left k q) hk
def m_qs : List Nat := [2, 3, 3, 5, 5, 7, 11, 13, 31, 41, 61, 151, 331, 1321]
theorem m_qs_prod : m_qs.foldr (fun a b => a * b) 1 = 2305843009213693950 := by decide
theorem m_qs_prime : ∀ q ∈ m_qs, 0 < q ∧ ∀ d, d ≤ q → d ∣ q → d = 1 ∨ d = q := by decide +kernel
theorem m_qs_div : ∀ q ∈ m_qs, q ∣ 2305843009213693950 ∧ ¬ m_pm 61 37 (2305843009213693950 / q) % PP = 1 := by decide +kernel
theorem m_cop {k : Nat} : ∀ l : List Nat, (∀ q ∈ l, Nat.Coprime k q) → Nat.Coprime k (l.foldr (fun a b => a * b) 1)
  | [], _ => Nat.coprime_one_right k
  | q :: l, h => Nat.Coprime.mul_right (h q List.mem_cons_self) (m_cop l (fun x hx => h x (List.mem_cons_of_mem _ hx)))
theorem m_ord {d : Nat} (h0 : 0 < d) (h1 : d < 2305843009213693950) : ¬ 37 ^ d % PP = 1 := by
  intro h
  have hg := m_gcd d 2305843009213693950 h m_gN
  generalize he : Nat.gcd d 2305843009213693950 = e at hg
  have e1 : e ∣ 2305843009213693950 := he ▸ Nat.gcd_dvd_right _ _
  have e2 : e ∣ d := he ▸ Nat.gcd_dvd_left _ _
  have e3 : e ≤ d := Nat.le_of_dvd h0 e2
  obtain ⟨k, hk⟩ := e1
  have hk1 : k ≠ 1 := by intro z; subst z; omega
  have hkN : k ∣ 2305843009213693950 := ⟨e, by rw [hk]; exact Nat.mul_comm _ _⟩
  have : ∃ q ∈ m_qs, q ∣ k := by
    apply Classical.byContradiction
    intro hn
    have hc : Nat.Coprime k (m_qs.foldr (fun a b => a * b) 1) := m_cop _ (fun q hq => m_pr (m_qs_prime q hq).2 (m_qs_prime q hq).1 (fun z => hn ⟨q, hq, z⟩))
    rw [m_qs_prod] at hc
    have : Nat.gcd k 2305843009213693950 = k := Nat.gcd_eq_left hkN
    rw [hc] at this
    exact hk1 this.symm
  obtain ⟨q, hq, j, hj⟩ := this
  obtain ⟨-, h9⟩ := m_qs_div q hq
  apply h9
  have hq0 := (m_qs_prime q hq).1
  have e5 : 2305843009213693950 / q = e * j := by
    rw [hk, hj, show e * (q * j) = q * (e * j) from by rw [Nat.mul_left_comm], Nat.mul_div_cancel_left _ hq0]
  have hlt : 2305843009213693950 / q < 2 ^ 61 := Nat.lt_of_le_of_lt (Nat.div_le_self _ _) (by decide)
  rw [m_pm_eq 61 37 _ hlt, e5]
  exact m_pow1 hg j
theorem m_inj {i j : Nat} (hij : i < j) (hj : j < 2305843009213693950) : ¬ 37 ^ i % PP = 37 ^ j % PP := by
  intro h
  refine m_ord (d := j - i) (by omega) (by omega) ?_
  have h1 : 37 ^ (j + (2305843009213693950 - i)) % PP = 1 := by
    rw [Nat.pow_add, Nat.mul_mod, ← h, ← Nat.mul_mod, ← Nat.pow_add, show i + (2305843009213693950 - i) = 2305843009213693950 by omega]
    exact m_gN
  have h2 : j + (2305843009213693950 - i) = (j - i) + 2305843009213693950 := by omega
  rw [h2, Nat.pow_add, Nat.mul_mod, m_gN, Nat.mul_one, Nat.mod_mod] at h1
  exact h1
/-- a map of n numbers into n numbers that sends no two to one reaches all -/
theorem m_pig : ∀ (n : Nat) (f : Nat → Nat), (∀ i, i < n → f i < n) → (∀ i j, i < j → j < n → f i ≠ f j) → ∀ y, y < n → ∃ i, i < n ∧ f i = y
  | 0, _, _, _, y, hy => absurd hy (Nat.not_lt_zero _)
  | n + 1, f, h1, h2, y, hy => by
    have key : ∀ i, i < n → (if f i = n then f n else f i) < n := by
      intro i hi
      have a1 := h1 i (by omega)
      have a2 := h1 n (by omega)
      have a3 := h2 i n hi (by omega)
      by_cases h : f i = n
      · rw [if_pos h]; omega
      · rw [if_neg h]; omega
    have inj : ∀ i j, i < j → j < n → (if f i = n then f n else f i) ≠ (if f j = n then f n else f j) := by
      intro i j hij hj
      have a1 := h2 i j hij (by omega)
      have a2 := h2 i n (by omega) (by omega)
      have a3 := h2 j n (by omega) (by omega)
      by_cases h : f i = n <;> by_cases h' : f j = n
      · omega
      · rw [if_pos h, if_neg h']; omega
      · rw [if_neg h, if_pos h']; omega
      · rw [if_neg h, if_neg h']; omega
    have ih := m_pig n (fun i => if f i = n then f n else f i) key inj
    by_cases hyn : f n = y
    · exact ⟨n, by omega, hyn⟩
    · by_cases hy2 : y = n
      · subst hy2
        have a2 : f y < y := by have := h1 y (by omega); omega
        obtain ⟨i, hi, e⟩ := ih (f y) a2
        refine ⟨i, by omega, ?_⟩
        by_cases h : f i = y
        · exact h
        · simp only [if_neg h] at e
          exact absurd e (h2 i y hi (by omega))
      · obtain ⟨i, hi, e⟩ := ih y (by omega)
        refine ⟨i, by omega, ?_⟩
        by_cases h : f i = n
        · simp only [if_pos h] at e
          exact absurd e hyn
        · simp only [if_neg h] at e
          exact e
theorem m_pos (i : Nat) : 0 < 37 ^ i % PP := by
  rcases Nat.eq_zero_or_pos (37 ^ i % PP) with h | h
  · have h1 : 37 ^ (i * 2305843009213693950) % PP = 0 := by
      rw [Nat.pow_mul, Nat.pow_mod, h, Nat.zero_pow (by decide)]
      rfl
    rw [Nat.mul_comm, m_pow1 m_gN] at h1
    exact absurd h1 (by decide)
  · exact h
theorem m_gen {y : Nat} (h0 : 0 < y) (h1 : y < PP) : ∃ i, 37 ^ i % PP = y := by
  have hPP : PP = 2305843009213693951 := rfl
  obtain ⟨i, -, e⟩ := m_pig 2305843009213693950 (fun i => 37 ^ i % PP - 1) (fun i _ => by
      have a1 := m_pos i
      have a2 : 37 ^ i % PP < PP := Nat.mod_lt _ (by decide)
      show 37 ^ i % PP - 1 < 2305843009213693950
      omega) (fun i j hij hj => by
      have a1 := m_pos i
      have a2 := m_pos j
      have a3 := m_inj hij hj
      show 37 ^ i % PP - 1 ≠ 37 ^ j % PP - 1
      omega) (y - 1) (by omega)
  refine ⟨i, ?_⟩
  have a1 := m_pos i
  have e' : 37 ^ i % PP - 1 = y - 1 := e
  omega
theorem m_fermat {y : Nat} (h0 : 0 < y) (h1 : y < PP) : y ^ 2305843009213693950 % PP = 1 := by
  obtain ⟨i, rfl⟩ := m_gen h0 h1
  rw [← Nat.pow_mod, ← Nat.pow_mul, Nat.mul_comm]
  exact m_pow1 m_gN i
/-- what y is multiplied with to give 1 -/
theorem m_inv {y : Nat} (h0 : 0 < y) (h1 : y < PP) : y * (y ^ 2305843009213693949 % PP) % PP = 1 := by
  rw [Nat.mul_mod, Nat.mod_mod, ← Nat.mul_mod, Nat.mul_comm, ← Nat.pow_succ]
  exact m_fermat h0 h1
theorem m_uniq {y u : Nat} (h0 : 0 < y) (h1 : y < PP) (hu : u * y % PP = 1) : u % PP = y ^ 2305843009213693949 % PP := by
  have h := m_inv h0 h1
  have e1 : u * (y * (y ^ 2305843009213693949 % PP)) % PP = u % PP := by
    rw [Nat.mul_mod, h, Nat.mul_one, Nat.mod_mod]
  rw [← Nat.mul_assoc, Nat.mul_mod, hu, Nat.one_mul, Nat.mod_mod, Nat.mod_mod] at e1
  exact e1.symm
