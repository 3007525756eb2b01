/-! words: bits -/
def wb (n i : Nat) : Nat := n / 2 ^ i % 2
theorem wb_le (n i : Nat) : wb n i ≤ 1 := by unfold wb; omega
theorem y_and {a b : Nat} (ha : a < 2 ^ 32) (hb : b < 2 ^ 32) : nI a &&& nI b = nI (a &&& b) := by
  apply Int32.toBitVec_inj.mp
  apply BitVec.eq_of_toNat_eq
  rw [pk_tn (Nat.lt_of_le_of_lt Nat.and_le_left ha)]
  show ((nI a).toBitVec &&& (nI b).toBitVec).toNat = _
  rw [BitVec.toNat_and, pk_tn ha, pk_tn hb]
theorem y_win (f s t : Nat) : f &&& ((2 ^ t - 1) * 2 ^ s) = f / 2 ^ s % 2 ^ t * 2 ^ s := by
  apply Nat.eq_of_testBit_eq
  intro i
  rw [Nat.testBit_and, Nat.testBit_mul_two_pow, Nat.testBit_mul_two_pow, Nat.testBit_mod_two_pow, Nat.testBit_two_pow_sub_one, Nat.testBit_div_two_pow]
  by_cases h : s ≤ i
  · rw [decide_eq_true h, show i - s + s = i by omega]
    cases f.testBit i <;> cases decide (i - s < t) <;> rfl
  · rw [decide_eq_false h]; simp
theorem y_z {f : Nat} (hf : f < 2 ^ 15) (s t : Nat) {M : Nat} (hM : M = (2 ^ t - 1) * 2 ^ s) (hM2 : M < 2 ^ 15) : nI f &&& nI M = nI (f / 2 ^ s % 2 ^ t * 2 ^ s) := by
  rw [y_and (by omega) (by omega), hM, y_win]
theorem y_z0 {f : Nat} (hf : f < 2 ^ 15) (s t : Nat) {M : Nat} (hM : M = (2 ^ t - 1) * 2 ^ s) (hM2 : M < 2 ^ 15) : (nI f &&& nI M = 0) ↔ f / 2 ^ s % 2 ^ t = 0 := by
  have h1 : f / 2 ^ s % 2 ^ t * 2 ^ s ≤ f := Nat.le_trans (Nat.mul_le_mul_right _ (Nat.mod_le _ _)) (Nat.div_mul_le_self _ _)
  rw [y_z hf s t hM hM2, show (0 : Int32) = nI 0 from rfl, nI_eq (by omega) (by decide), Nat.mul_eq_zero]
  have h2 := Nat.two_pow_pos s
  omega
theorem y_or {f a b : Nat} (hf : f < 2 ^ 15) (ha : a < 2 ^ 15) (hb : b < 2 ^ 15) : (nI f &&& nI (a ||| b) = 0) ↔ (nI f &&& nI a = 0) ∧ (nI f &&& nI b = 0) := by
  have h1 : f &&& a ≤ f := Nat.and_le_left
  have h2 : f &&& b ≤ f := Nat.and_le_left
  have h3 : f &&& (a ||| b) ≤ f := Nat.and_le_left
  have h4 : a ||| b < 2 ^ 15 := Nat.or_lt_two_pow ha hb
  rw [y_and (by omega) (by omega), y_and (by omega) (by omega), y_and (by omega) (by omega), show (0 : Int32) = nI 0 from rfl, nI_eq (by omega) (by decide), nI_eq (by omega) (by decide), nI_eq (by omega) (by decide), Nat.and_or_distrib_left, Nat.or_eq_zero_iff]
theorem w_flags {n : Nat} (hn : n < 2 ^ 45) : f_X5_flagsOf (lN n) = nI (n / 2 ^ 30) := by
  unfold f_X5_flagsOf
  rw [show (30 : Int32) = nI 30 from rfl, z_ushr (by omega) (by decide), lN_i, pk_andN (by omega) 15 rfl]
  congr 1
  omega
theorem w_sh {n i : Nat} (hn : n < 2 ^ 63) (hi : i < 64) : (lN n >>> ((nI i : Int32).toInt64 &&& 63)) &&& 1 = lN (wb n i) := by
  rw [z_sshr hn hi]
  exact z_mask (m := 1) (k := 1) (Nat.lt_of_le_of_lt (Nat.div_le_self _ _) (by omega)) (by decide) rfl
theorem w_off {n : Nat} (hn : n < 2 ^ 63) (i : Nat) (hi : i < 3) : f_X7_offset (lN n) (nI i) = nI (n / 2 ^ (10 * i) % 1024) - 512 := by
  unfold f_X7_offset
  rw [show (10 : Int32) = nI 10 from rfl, pk_mul, z_sshr hn (by omega)]
  congr 1
  rw [← lN_i]
  congr 1
  exact z_mask (m := 1023) (k := 10) (Nat.lt_of_le_of_lt (Nat.div_le_self _ _) (by omega)) (by decide) rfl
theorem w_off5 {n : Nat} (hn : n < 2 ^ 63) (i : Nat) (hi : i < 3) : f_X5_offsetOf (lN n) (nI i) = f_X7_offset (lN n) (nI i) := by
  rw [w_off hn i hi]
  unfold f_X5_offsetOf
  rw [show (10 : Int32) = nI 10 from rfl, pk_mul, Nat.mul_comm i, z_ushr (by omega) (by omega)]
  congr 1
  rw [← lN_i]
  congr 1
  exact z_mask (m := 1023) (k := 10) (Nat.lt_of_le_of_lt (Nat.div_le_self _ _) (by omega)) (by decide) rfl
theorem w_off1 {n : Nat} (hn : n < 2 ^ 63) : f_X7_offset (lN n) 2 = 1 ↔ n / 2 ^ 20 % 1024 = 513 := by
  rw [show (2 : Int32) = nI 2 from rfl, w_off hn 2 (by decide)]
  have h : n / 2 ^ (10 * 2) % 1024 < 1024 := Nat.mod_lt _ (by decide)
  have e : (nI (n / 2 ^ (10 * 2) % 1024) - 512).toInt = ((n / 2 ^ (10 * 2) % 1024 : Nat) : Int) - 512 := pk_sub_toInt (b := 512) (by omega) (by decide)
  rw [← Int32.toInt_inj, e, show (1 : Int32).toInt = 1 from rfl, show 10 * 2 = 20 from rfl]
  omega
theorem w_one {n : Nat} (hn : n < 2 ^ 63) {hi : Int32} {fu acc v : Nat} (hv : v < 64) (h : nI v ≤ hi) : f_X7_many_L6 (lN n) hi (fu + 1) (nI acc) (nI v) = f_X7_many_L6 (lN n) hi fu (nI (acc + wb n v)) (nI (v + 1)) := by
  rw [f_X7_many_L6, if_neg (fun z => by have := Int32.le_iff_toInt_le.mp h; have := Int32.lt_iff_toInt_lt.mp z; omega), w_sh hn hv, lN_i, nI_add, nI_1]
theorem w_end {n : Nat} {hi : Int32} {fu acc v : Nat} (h : hi < nI v) : f_X7_many_L6 (lN n) hi (fu + 1) (nI acc) (nI v) = nI acc := by
  rw [f_X7_many_L6, if_pos h]
theorem w_m1 {n : Nat} (hn : n < 2 ^ 63) (v : Nat) (hv : v < 64) : f_X7_many (lN n) (nI v) (nI v) = nI (wb n v) := by
  unfold f_X7_many
  have e : (((nI v).toInt + 1 - (nI v).toInt).toNat + 1) = 2 := by omega
  rw [e, show (0 : Int32) = nI 0 from rfl, w_one hn hv (nI_le (Nat.le_refl _) (by omega)), w_end (nI_lt (by omega) (by omega)), Nat.zero_add]
theorem w_m2 {n : Nat} (hn : n < 2 ^ 63) (v : Nat) (hv : v + 1 < 64) : f_X7_many (lN n) (nI v) (nI (v + 1)) = nI (wb n v + wb n (v + 1)) := by
  unfold f_X7_many
  have e : (((nI (v + 1)).toInt + 1 - (nI v).toInt).toNat + 1) = 3 := by rw [nI_toInt (by omega), nI_toInt (by omega)]; omega
  rw [e, show (0 : Int32) = nI 0 from rfl, w_one hn (by omega) (nI_le (by omega) (by omega)), w_one hn (by omega) (nI_le (by omega) (by omega)), w_end (nI_lt (by omega) (by omega)), Nat.zero_add]
theorem w_m3 {n : Nat} (hn : n < 2 ^ 63) (v : Nat) (hv : v + 2 < 64) : f_X7_many (lN n) (nI v) (nI (v + 2)) = nI (wb n v + wb n (v + 1) + wb n (v + 2)) := by
  unfold f_X7_many
  have e : (((nI (v + 2)).toInt + 1 - (nI v).toInt).toNat + 1) = 4 := by rw [nI_toInt (by omega), nI_toInt (by omega)]; omega
  rw [e, show (0 : Int32) = nI 0 from rfl, w_one hn (by omega) (nI_le (by omega) (by omega)), w_one hn (by omega) (nI_le (by omega) (by omega)), w_one hn (by omega) (nI_le (by omega) (by omega)), w_end (nI_lt (by omega) (by omega)), Nat.zero_add]
/-- a good word -/
def okW (n : Nat) : Prop := wb n 32 + wb n 33 + wb n 34 ≤ 1 ∧ wb n 35 + wb n 36 ≤ 1 ∧ wb n 37 + wb n 38 + wb n 39 ≤ 1 ∧ wb n 40 + wb n 41 ≤ 1 ∧ wb n 42 + wb n 43 + wb n 44 ≤ 1 ∧ (wb n 32 = 1 → n / 2 ^ 20 % 1024 = 513) ∧ (wb n 39 = 1 → wb n 35 + wb n 36 + wb n 40 + wb n 42 + wb n 43 + wb n 44 = 0) ∧ (wb n 42 = 1 → wb n 40 + wb n 41 = 0)
theorem w_bad {n : Nat} (hn : n < 2 ^ 45) : f_X7_isBad (lN n) = 0 ↔ okW n := by
  have hn3 : n < 2 ^ 63 := by omega
  have b (i : Nat) := wb_le n i
  unfold f_X7_isBad f_X7_isBad_J71 f_X7_isBad_J76 f_X7_isBad_J102 f_X7_isBad_J103 f_X7_isBad_J149 f_X7_isBad_J150
  rw [show (45 : Int32) = nI 45 from rfl, z_sshr hn3 (by decide), show n / 2 ^ 45 = 0 by omega, if_pos (show lN 0 = 0 from rfl)]
  rw [show f_X7_many (lN n) 32 34 = _ from w_m3 hn3 32 (by decide), show f_X7_many (lN n) 35 36 = _ from w_m2 hn3 35 (by decide), show f_X7_many (lN n) 37 39 = _ from w_m3 hn3 37 (by decide), show f_X7_many (lN n) 40 41 = _ from w_m2 hn3 40 (by decide), show f_X7_many (lN n) 42 44 = _ from w_m3 hn3 42 (by decide), show f_X7_many (lN n) 32 32 = _ from w_m1 hn3 32 (by decide), show f_X7_many (lN n) 39 39 = _ from w_m1 hn3 39 (by decide), show f_X7_many (lN n) 40 40 = _ from w_m1 hn3 40 (by decide), show f_X7_many (lN n) 42 42 = _ from w_m1 hn3 42 (by decide)]
  have b32 := b 32
  have b33 := b 33
  have b34 := b 34
  have b35 := b 35
  have b36 := b 36
  have b37 := b 37
  have b38 := b 38
  have b39 := b 39
  have b40 := b 40
  have b41 := b 41
  have b42 := b 42
  have b43 := b 43
  have b44 := b 44
  clear b
  unfold okW
  simp only [nI_add, show (1 : Int32) = nI 1 from rfl, show (0 : Int32) = nI 0 from rfl] at *
  generalize wb n 32 = x32 at *
  generalize wb n 33 = x33 at *
  generalize wb n 34 = x34 at *
  generalize wb n 35 = x35 at *
  generalize wb n 36 = x36 at *
  generalize wb n 37 = x37 at *
  generalize wb n 38 = x38 at *
  generalize wb n 39 = x39 at *
  generalize wb n 40 = x40 at *
  generalize wb n 41 = x41 at *
  generalize wb n 42 = x42 at *
  generalize wb n 43 = x43 at *
  generalize wb n 44 = x44 at *
  have hoff : (f_X7_offset (lN n) 2 = nI 1) ↔ n / 2 ^ 20 % 1024 = 513 := w_off1 hn3
  generalize n / 2 ^ 20 % 1024 = off at *
  have e10 : (nI 1 = nI 0) ↔ False := by decide
  have k1 : (nI 1 < nI (x32 + x33 + x34)) ↔ 1 < x32 + x33 + x34 := nI_ltI (by decide) (by omega)
  have k2 : (nI 1 < nI (x35 + x36)) ↔ 1 < x35 + x36 := nI_ltI (by decide) (by omega)
  have k3 : (nI 1 < nI (x37 + x38 + x39)) ↔ 1 < x37 + x38 + x39 := nI_ltI (by decide) (by omega)
  have k4 : (nI 1 < nI (x40 + x41)) ↔ 1 < x40 + x41 := nI_ltI (by decide) (by omega)
  have k5 : (nI (x42 + x43 + x44) ≤ nI 1) ↔ x42 + x43 + x44 ≤ 1 := nI_leI (by omega) (by decide)
  have k6 : (nI x32 = nI 1) ↔ x32 = 1 := nI_eq (by omega) (by decide)
  have k7 : (nI x39 = nI 1) ↔ x39 = 1 := nI_eq (by omega) (by decide)
  have k8 : (nI x42 = nI 1) ↔ x42 = 1 := nI_eq (by omega) (by decide)
  have k9 : (nI (x40 + x41) ≤ nI 0) ↔ x40 + x41 ≤ 0 := nI_leI (by omega) (by decide)
  have k10 : (nI (x35 + x36 + x40 + (x42 + x43 + x44)) ≤ nI 0) ↔ x35 + x36 + x40 + (x42 + x43 + x44) ≤ 0 := nI_leI (by omega) (by decide)
  simp only [k1, k2, k3, k4, k5, k6, k7, k8, k9, k10, hoff, e10, if_true, if_false, ite_self]
  clear k1 k2 k3 k4 k5 k6 k7 k8 k9 k10 hoff hn hn3
  repeat' split
  all_goals try simp only [e10, true_iff, false_iff]
  all_goals clear e10
  all_goals omega

theorem w_neg {w : Int64} (h : w < 0) : ¬ f_X7_isBad w = 0 := by
  unfold f_X7_isBad
  rw [if_neg]
  · decide
  · intro z
    have e : (w >>> ((45 : Int32).toInt64 &&& 63)).toInt = w.toInt >>> 45 := by
      show (w.toBitVec.sshiftRight' (((45 : Int32).toInt64 &&& 63).toBitVec.smod 64)).toInt = _
      rw [BitVec.sshiftRight', show (((45 : Int32).toInt64 &&& 63).toBitVec.smod 64).toNat = 45 by decide, BitVec.toInt_sshiftRight]
      rfl
    rw [z, Int.shiftRight_eq_div_pow, show (0 : Int64).toInt = 0 from rfl] at e
    have h1 := Int64.lt_iff_toInt_lt.mp h
    rw [show (0 : Int64).toInt = 0 from rfl] at h1
    omega
theorem w_big {n : Nat} (h : n < 2 ^ 63) (h2 : 2 ^ 45 ≤ n) : ¬ f_X7_isBad (lN n) = 0 := by
  unfold f_X7_isBad
  rw [show (45 : Int32) = nI 45 from rfl, z_sshr h (by decide), if_neg]
  · decide
  · intro z
    rw [show (0 : Int64) = lN 0 from rfl, pk_lEQ (by omega) (by decide)] at z
    omega
theorem w_b150 (w : Int64) (a b c : Int32) : f_X7_isBad_J150 w a b c = 0 ∨ f_X7_isBad_J150 w a b c = 1 := by
  unfold f_X7_isBad_J150
  repeat' split
  all_goals first | exact Or.inl rfl | exact Or.inr rfl
theorem w_b103 (w : Int64) (a b : Int32) : f_X7_isBad_J103 w a b = 0 ∨ f_X7_isBad_J103 w a b = 1 := by
  unfold f_X7_isBad_J103 f_X7_isBad_J149
  repeat' split
  all_goals exact w_b150 _ _ _ _
theorem w_b76 (w : Int64) (a : Int32) : f_X7_isBad_J76 w a = 0 ∨ f_X7_isBad_J76 w a = 1 := by
  unfold f_X7_isBad_J76 f_X7_isBad_J102
  repeat' split
  all_goals exact w_b103 _ _ _
theorem w_isbad01 (w : Int64) : f_X7_isBad w = 0 ∨ f_X7_isBad w = 1 := by
  unfold f_X7_isBad f_X7_isBad_J71
  repeat' split
  all_goals first | exact w_b76 _ _ | exact Or.inr rfl
theorem w_w3 (f s : Nat) : f / 2 ^ s % 2 ^ 3 = wb f s + 2 * wb f (s + 1) + 4 * wb f (s + 2) := by
  unfold wb
  rw [Nat.pow_add, Nat.pow_add, ← Nat.div_div_eq_div_mul, ← Nat.div_div_eq_div_mul]
  generalize f / 2 ^ s = g
  omega
theorem w_w2 (f s : Nat) : f / 2 ^ s % 2 ^ 2 = wb f s + 2 * wb f (s + 1) := by
  unfold wb
  rw [Nat.pow_add, ← Nat.div_div_eq_div_mul]
  generalize f / 2 ^ s = g
  omega
theorem w_w1 (f s : Nat) : f / 2 ^ s % 2 ^ 1 = wb f s := rfl
theorem w_wf (n i : Nat) : wb (n / 2 ^ 30) i = wb n (30 + i) := by
  unfold wb
  rw [Nat.pow_add, ← Nat.div_div_eq_div_mul]
theorem w_more1 : ∀ a, a < 2 → ∀ b, b < 2 → ∀ c, c < 2 → ((f_X5_moreThanOne (nI ((a + 2 * b + 4 * c) * 2 ^ 2)) = 0) ↔ a + b + c ≤ 1) := by decide +kernel
theorem w_more2 : ∀ a, a < 2 → ∀ b, b < 2 → ((f_X5_moreThanOne (nI ((a + 2 * b) * 2 ^ 5)) = 0) ↔ a + b ≤ 1) := by decide +kernel
theorem w_more3 : ∀ a, a < 2 → ∀ b, b < 2 → ∀ c, c < 2 → ((f_X5_moreThanOne (nI ((a + 2 * b + 4 * c) * 2 ^ 7)) = 0) ↔ a + b + c ≤ 1) := by decide +kernel
theorem w_more4 : ∀ a, a < 2 → ∀ b, b < 2 → ((f_X5_moreThanOne (nI ((a + 2 * b) * 2 ^ 10)) = 0) ↔ a + b ≤ 1) := by decide +kernel
theorem w_more5 : ∀ a, a < 2 → ∀ b, b < 2 → ∀ c, c < 2 → ((f_X5_moreThanOne (nI ((a + 2 * b + 4 * c) * 2 ^ 12)) = 0) ↔ a + b + c ≤ 1) := by decide +kernel
theorem wb_lt (n i : Nat) : wb n i < 2 := by unfold wb; omega
theorem w_riv {f : Nat} (hf : f < 2 ^ 15) : f_X5_hasRivals (nI f) = 0 ↔ (wb f 2 + wb f 3 + wb f 4 ≤ 1 ∧ wb f 5 + wb f 6 ≤ 1 ∧ wb f 7 + wb f 8 + wb f 9 ≤ 1 ∧ wb f 10 + wb f 11 ≤ 1 ∧ wb f 12 + wb f 13 + wb f 14 ≤ 1) := by
  unfold f_X5_hasRivals
  rw [show nI f &&& 28 = _ from y_z (M := 28) hf 2 3 rfl (by decide), show nI f &&& 96 = _ from y_z (M := 96) hf 5 2 rfl (by decide), show nI f &&& 896 = _ from y_z (M := 896) hf 7 3 rfl (by decide), show nI f &&& 3072 = _ from y_z (M := 3072) hf 10 2 rfl (by decide), show nI f &&& 28672 = _ from y_z (M := 28672) hf 12 3 rfl (by decide), w_w3, w_w3, w_w3, w_w2, w_w2]
  have b (i : Nat) := wb_lt f i
  have k1 := w_more1 _ (b 2) _ (b 3) _ (b 4)
  have k2 := w_more2 _ (b 5) _ (b 6)
  have k3 := w_more3 _ (b 7) _ (b 8) _ (b 9)
  have k4 := w_more4 _ (b 10) _ (b 11)
  have k5 := w_more5 _ (b 12) _ (b 13) _ (b 14)
  simp only [k1, k2, k3, k4, k5]
  have e10 : ((1 : Int32) = 0) ↔ False := by decide
  clear k1 k2 k3 k4 k5
  by_cases c1 : wb f 2 + wb f 3 + wb f 4 ≤ 1
  · by_cases c2 : wb f 5 + wb f 6 ≤ 1
    · by_cases c3 : wb f 7 + wb f 8 + wb f 9 ≤ 1
      · by_cases c4 : wb f 10 + wb f 11 ≤ 1
        · by_cases c5 : wb f 12 + wb f 13 + wb f 14 ≤ 1
          · simp only [c1, c2, c3, c4, c5, if_true, and_self]
          · simp only [c1, c2, c3, c4, c5, if_true, if_false, e10, and_false]
        · simp only [c1, c2, c3, c4, if_true, if_false, e10, and_false, false_and]
      · simp only [c1, c2, c3, if_true, if_false, e10, and_false, false_and]
    · simp only [c1, c2, if_true, if_false, e10, and_false, false_and]
  · simp only [c1, if_false, e10, false_and]
theorem w_cla {f : Nat} (hf : f < 2 ^ 15) : f_X5_hasClash (nI f) = 0 ↔ ((wb f 9 = 1 → wb f 5 + wb f 6 + wb f 10 + wb f 12 + wb f 13 + wb f 14 = 0) ∧ (wb f 12 = 1 → wb f 10 + wb f 11 = 0)) := by
  unfold f_X5_hasClash f_X5_hasClash_J13 f_X5_hasClash_J27
  have k1 : (nI f &&& 29792 = 0) ↔ wb f 5 + 2 * wb f 6 = 0 ∧ wb f 10 = 0 ∧ wb f 12 + 2 * wb f 13 + 4 * wb f 14 = 0 := by
    rw [show (29792 : Int32) = nI (96 ||| (1024 ||| 28672)) from rfl, y_or hf (by decide) (by decide), y_or hf (by decide) (by decide), y_z0 hf 5 2 rfl (by decide), y_z0 hf 10 1 rfl (by decide), y_z0 hf 12 3 rfl (by decide), w_w3, w_w2, w_w1]
  have k2 : (nI f &&& 3072 = 0) ↔ wb f 10 + 2 * wb f 11 = 0 := by rw [← w_w2]; exact y_z0 (M := 3072) hf 10 2 rfl (by decide)
  have k3 : (nI f &&& 512 = 0) ↔ wb f 9 = 0 := y_z0 (M := 512) hf 9 1 rfl (by decide)
  have k4 : (nI f &&& 4096 = 0) ↔ wb f 12 = 0 := y_z0 (M := 4096) hf 12 1 rfl (by decide)
  have e10 : ((1 : Int32) = 0) ↔ False := by decide
  have b (i : Nat) := wb_lt f i
  have b5 := b 5
  have b6 := b 6
  have b9 := b 9
  have b10 := b 10
  have b11 := b 11
  have b12 := b 12
  have b13 := b 13
  have b14 := b 14
  clear b
  simp only [k1, k2, k3, k4, e10, if_true, if_false]
  clear k1 k2 k3 k4 hf
  generalize wb f 5 = x5 at *
  generalize wb f 6 = x6 at *
  generalize wb f 9 = x9 at *
  generalize wb f 10 = x10 at *
  generalize wb f 11 = x11 at *
  generalize wb f 12 = x12 at *
  generalize wb f 13 = x13 at *
  generalize wb f 14 = x14 at *
  repeat' split
  all_goals try simp only [e10, true_iff, false_iff]
  all_goals clear e10
  all_goals omega
theorem w_ins {n : Nat} (hn : n < 2 ^ 45) : f_X5_isInstruction (lN n) = 0 ↔ ¬ okW n := by
  unfold f_X5_isInstruction f_X5_isInstruction_J40 f_X5_isInstruction_J41
  have hf : n / 2 ^ 30 < 2 ^ 15 := by omega
  rw [if_neg (fun z => by have := Int64.lt_iff_toInt_lt.mp z; rw [pk_lT (by omega), show (0 : Int64).toInt = 0 from rfl] at this; omega), show (35184372088832 : Int64) = lN 35184372088832 from rfl, if_pos ((pk_lLT (by omega) (by decide)).mpr (by omega)), w_flags hn, show f_X5_offsetOf (lN n) 2 = f_X7_offset (lN n) 2 from w_off5 (by omega) 2 (by decide)]
  have k1 : (nI (n / 2 ^ 30) &&& 4 = 0) ↔ wb (n / 2 ^ 30) 2 = 0 := y_z0 (M := 4) hf 2 1 rfl (by decide)
  have e10 : ((1 : Int32) = 0) ↔ False := by decide
  have hr := w_riv hf
  have hc := w_cla hf
  have ho := w_off1 (show n < 2 ^ 63 by omega)
  simp only [w_wf] at hr hc k1
  have b2 := wb_lt n 32
  unfold okW
  by_cases c0 : f_X7_offset (lN n) 2 = 1
  · have c0' := ho.mp c0
    by_cases c1 : f_X5_hasRivals (nI (n / 2 ^ 30)) = 0
    · by_cases c2 : f_X5_hasClash (nI (n / 2 ^ 30)) = 0
      · have h1 := hr.mp c1
        have h2 := hc.mp c2
        simp only [c0, c1, c2, if_true, if_false, e10, ite_self, false_iff, Classical.not_not]
        exact ⟨h1.1, h1.2.1, h1.2.2.1, h1.2.2.2.1, h1.2.2.2.2, fun _ => c0', h2.1, h2.2⟩
      · simp only [c0, c1, c2, if_true, if_false, e10, ite_self, true_iff]
        exact fun z => c2 (hc.mpr ⟨z.2.2.2.2.2.2.1, z.2.2.2.2.2.2.2⟩)
    · simp only [c0, c1, if_true, if_false, e10, ite_self, true_iff]
      exact fun z => c1 (hr.mpr ⟨z.1, z.2.1, z.2.2.1, z.2.2.2.1, z.2.2.2.2.1⟩)
  · have c0' : ¬ n / 2 ^ 20 % 1024 = 513 := fun z => c0 (ho.mpr z)
    by_cases c3 : nI (n / 2 ^ 30) &&& 4 = 0
    · have c3' : wb n 32 = 0 := k1.mp c3
      by_cases c1 : f_X5_hasRivals (nI (n / 2 ^ 30)) = 0
      · by_cases c2 : f_X5_hasClash (nI (n / 2 ^ 30)) = 0
        · have h1 := hr.mp c1
          have h2 := hc.mp c2
          simp only [c0, c1, c2, c3, if_true, if_false, e10, false_iff, Classical.not_not]
          exact ⟨h1.1, h1.2.1, h1.2.2.1, h1.2.2.2.1, h1.2.2.2.2, fun z => absurd (c3'.symm.trans z) (by decide), h2.1, h2.2⟩
        · simp only [c0, c1, c2, c3, if_true, if_false, e10, true_iff]
          exact fun z => c2 (hc.mpr ⟨z.2.2.2.2.2.2.1, z.2.2.2.2.2.2.2⟩)
      · simp only [c0, c1, c3, if_true, if_false, e10, true_iff]
        exact fun z => c1 (hr.mpr ⟨z.1, z.2.1, z.2.2.1, z.2.2.2.1, z.2.2.2.2.1⟩)
    · have c3' : ¬ wb n 32 = 0 := fun z => c3 (k1.mpr z)
      simp only [c0, c3, if_true, if_false, e10, true_iff]
      exact fun z => c0' (z.2.2.2.2.2.1 (by omega))
/-- every long: an instruction on the one side, not bad on the other -/
theorem w_any (w : Int64) : (f_X5_isInstruction w = 0 ↔ ¬ f_X7_isBad w = 0) ∧ (f_X7_isBad w = 0 → ∃ n, n < 2 ^ 45 ∧ w = lN n ∧ okW n) := by
  by_cases h : w < 0
  · have := w_neg h
    refine ⟨⟨fun _ => this, fun _ => ?_⟩, fun z => absurd z this⟩
    unfold f_X5_isInstruction
    rw [if_pos h]
  · obtain ⟨n, hn, rfl⟩ := pk_lOf h
    rcases Nat.lt_or_ge n (2 ^ 45) with h2 | h2
    · refine ⟨by rw [w_ins h2, w_bad h2], fun z => ⟨n, h2, rfl, (w_bad h2).mp z⟩⟩
    · have := w_big hn h2
      refine ⟨⟨fun _ => this, fun _ => ?_⟩, fun z => absurd z this⟩
      unfold f_X5_isInstruction
      rw [if_neg h, show (35184372088832 : Int64) = lN 35184372088832 from rfl, if_neg (fun z => by have := (pk_lLT hn (by decide)).mp z; omega)]
