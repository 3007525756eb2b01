/-! bits of longs, by naturals -/
theorem z_bv (n : Nat) : (lN n).toBitVec = BitVec.ofNat 64 n := rfl
theorem z_nat {n : Nat} (h : n < 2 ^ 64) : (lN n).toBitVec.toNat = n := by rw [z_bv, BitVec.toNat_ofNat]; exact Nat.mod_eq_of_lt h
theorem z_inj {a b : Int64} (h : a.toBitVec.toNat = b.toBitVec.toNat) : a = b := Int64.toBitVec_inj.mp (BitVec.eq_of_toNat_eq h)
theorem z_of (x : Int64) : x = lN x.toBitVec.toNat := z_inj (z_nat x.toBitVec.isLt).symm
theorem z_cu : ∀ k, k < 64 → ((nI k).toInt64.toUInt64 &&& Int64.toUInt64 63).toNat % 64 = k := by decide +kernel
theorem z_cs : ∀ k, k < 64 → (((nI k).toInt64 &&& 63).toBitVec.smod 64).toNat = k := by decide +kernel
/-- unsigned shift to the right -/
theorem z_ushr {n k : Nat} (hn : n < 2 ^ 64) (hk : k < 64) : ((lN n).toUInt64 >>> ((nI k).toInt64.toUInt64 &&& Int64.toUInt64 63)).toInt64 = lN (n / 2 ^ k) := by
  apply z_inj
  have h1 : n / 2 ^ k < 2 ^ 64 := Nat.lt_of_le_of_lt (Nat.div_le_self _ _) hn
  rw [z_nat h1]
  show ((lN n).toUInt64 >>> ((nI k).toInt64.toUInt64 &&& Int64.toUInt64 63)).toNat = _
  rw [UInt64.toNat_shiftRight, z_cu k hk, Nat.shiftRight_eq_div_pow]
  congr 1
  exact z_nat hn
theorem z_sshr {n k : Nat} (hn : n < 2 ^ 63) (hk : k < 64) : lN n >>> ((nI k).toInt64 &&& 63) = lN (n / 2 ^ k) := by
  have h1 : n / 2 ^ k < 2 ^ 63 := Nat.lt_of_le_of_lt (Nat.div_le_self _ _) hn
  apply Int64.toInt_inj.mp
  rw [pk_lT h1]
  show ((lN n).toBitVec.sshiftRight' (((nI k).toInt64 &&& 63).toBitVec.smod 64)).toInt = _
  rw [BitVec.sshiftRight', z_cs k hk, BitVec.toInt_sshiftRight]
  show (lN n).toInt >>> k = _
  rw [pk_lT hn, Int.shiftRight_eq_div_pow]
  norm_cast
theorem z_shl {n k : Nat} (hk : k < 64) : lN n <<< ((nI k).toInt64 &&& 63) = lN (n * 2 ^ k) := by
  apply z_inj
  show ((lN n).toBitVec <<< (((nI k).toInt64 &&& 63).toBitVec.smod 64)).toNat = _
  rw [BitVec.shiftLeft_eq', z_cs k hk, BitVec.toNat_shiftLeft, z_bv, z_bv, BitVec.toNat_ofNat, BitVec.toNat_ofNat, Nat.shiftLeft_eq, Nat.mod_mul_mod]
theorem z_and {a b : Nat} (ha : a < 2 ^ 64) (hb : b < 2 ^ 64) : lN a &&& lN b = lN (a &&& b) := by
  apply z_inj
  rw [z_nat (Nat.lt_of_le_of_lt Nat.and_le_left ha)]
  show ((lN a).toBitVec &&& (lN b).toBitVec).toNat = _
  rw [BitVec.toNat_and, z_nat ha, z_nat hb]
theorem z_or {a b : Nat} (ha : a < 2 ^ 64) (hb : b < 2 ^ 64) : lN a ||| lN b = lN (a ||| b) := by
  apply z_inj
  rw [z_nat (Nat.or_lt_two_pow ha hb)]
  show ((lN a).toBitVec ||| (lN b).toBitVec).toNat = _
  rw [BitVec.toNat_or, z_nat ha, z_nat hb]
theorem z_xor {a b : Nat} (ha : a < 2 ^ 64) (hb : b < 2 ^ 64) : lN a ^^^ lN b = lN (a ^^^ b) := by
  apply z_inj
  rw [z_nat (Nat.xor_lt_two_pow ha hb)]
  show ((lN a).toBitVec ^^^ (lN b).toBitVec).toNat = _
  rw [BitVec.toNat_xor, z_nat ha, z_nat hb]
theorem z_mask {n m k : Nat} (hn : n < 2 ^ 64) (hk : k < 64) (hm : m = 2 ^ k - 1) : lN n &&& lN m = lN (n % 2 ^ k) := by
  subst hm
  rw [z_and hn (Nat.lt_of_lt_of_le (Nat.sub_lt (Nat.two_pow_pos k) (by decide)) (Nat.pow_le_pow_right (by decide) (Nat.le_of_lt hk))), Nat.and_two_pow_sub_one_eq_mod]
/-! the field -/
def inF (a : Int64) : Prop := ∃ x : Nat, x < PP ∧ a = lN x
theorem hPP : PP = 2305843009213693951 := rfl
theorem PPl : (2305843009213693951 : Int64) = lN PP := rfl
theorem f_rem {x : Nat} (h : x < 2 ^ 63) : lN x - lN x / 2305843009213693951 * 2305843009213693951 = lN (x % PP) := pk_lRem (b := PP) h (by decide) (by decide)
theorem f_tm {a b : Int64} (h : ¬ b = 0) : (a - a / b * b).toInt = a.toInt.tmod b.toInt := by
  have t : (a.toInt.tmod b.toInt).natAbs = a.toInt.natAbs % b.toInt.natAbs := Int.natAbs_tmod _ _
  have t2 := Nat.mod_le a.toInt.natAbs b.toInt.natAbs
  have t3 : (a.toInt.tmod b.toInt).natAbs < b.toInt.natAbs := by
    rw [t]; exact Nat.mod_lt _ (Int.natAbs_pos.mpr (fun z => h (Int64.toInt_inj.mp z)))
  have b1 := b.le_toInt
  have b2 := b.toInt_lt
  rw [Int64.toInt_sub, Int64.toInt_mul, Int64.toInt_div, Int.bmod_mul_bmod, Int.sub_bmod_bmod, Int.mul_comm, ← Int.tmod_def]
  exact Int.bmod_eq_of_le (by omega) (by omega)
theorem f_neg {a : Int64} (h : a < 0) : ∃ k : Nat, 0 < k ∧ k ≤ 2 ^ 63 ∧ a.toInt = -(k : Int) := by
  have h1 := Int64.lt_iff_toInt_lt.mp h
  have h2 := a.le_toInt
  rw [show (0 : Int64).toInt = 0 from rfl] at h1
  exact ⟨(-a.toInt).toNat, by omega, by omega, by omega⟩
theorem f_modN {x : Nat} (h : x < 2 ^ 63) : f_X7_modulo (lN x) = lN (x % PP) := by
  unfold f_X7_modulo
  have h1 : x % PP < PP := Nat.mod_lt _ (by decide)
  have h2 : PP < 2 ^ 63 := by decide
  rw [f_rem h, if_pos (show (0 : Int64) ≤ lN (x % PP) from Int64.le_iff_toInt_le.mpr (by rw [pk_lT (by omega)]; exact Int.natCast_nonneg _))]
/-- what is below 0: its remainder -/
theorem f_modI {a : Int64} {k : Nat} (hk : 0 < k) (hk2 : k ≤ 2 ^ 63) (e : a.toInt = -(k : Int)) : (a - a / 2305843009213693951 * 2305843009213693951).toInt = -((k % PP : Nat) : Int) := by
  rw [f_tm (by decide), e, show (2305843009213693951 : Int64).toInt = ((PP : Nat) : Int) from rfl, Int.neg_tmod]
  rfl
theorem f_modM {a : Int64} {k : Nat} (hk : 0 < k) (hk2 : k ≤ 2 ^ 63) (e : a.toInt = -(k : Int)) : f_X7_modulo a = lN ((PP - k % PP) % PP) := by
  have h1 : k % PP < PP := Nat.mod_lt _ (by decide)
  have h3 := hPP
  have e1 := f_modI hk hk2 e
  unfold f_X7_modulo
  rcases Nat.eq_zero_or_pos (k % PP) with h0 | h0
  · rw [h0] at e1 ⊢
    have e2 : a - a / 2305843009213693951 * 2305843009213693951 = 0 := Int64.toInt_inj.mp e1
    rw [e2]
    rfl
  · rw [if_neg (fun z => by have := Int64.le_iff_toInt_le.mp z; rw [e1, show (0 : Int64).toInt = 0 from rfl] at this; omega)]
    apply Int64.toInt_inj.mp
    rw [Int64.toInt_add, e1, show (2305843009213693951 : Int64).toInt = 2305843009213693951 from rfl, Nat.mod_eq_of_lt (show PP - k % PP < PP by omega), pk_lT (by omega), Int.bmod_eq_of_le (by omega) (by omega)]
    omega
theorem f_xs (a : Int64) : (0 ≤ a ^^^ 2305843009213693951) ↔ 0 ≤ a := by
  have key : ∀ b : Int64, 0 ≤ b ↔ b.toBitVec.msb = false := fun b => by
    rw [Int64.le_iff_toInt_le, show (0 : Int64).toInt = 0 from rfl, BitVec.msb_eq_toInt]
    show 0 ≤ b.toBitVec.toInt ↔ _
    rw [decide_eq_false_iff_not]
    omega
  rw [key, key, show (a ^^^ 2305843009213693951).toBitVec = a.toBitVec ^^^ (2305843009213693951 : Int64).toBitVec from rfl, BitVec.msb_xor, show (2305843009213693951 : Int64).toBitVec.msb = false by decide, Bool.xor_false]
/-- the two remainders are one -/
theorem e_mod (a : Int64) : f_X0_reduce a = f_X7_modulo a := by
  unfold f_X0_reduce f_J9_floorMod_f86c9
  by_cases h : a < 0
  · obtain ⟨k, h1, h2, e⟩ := f_neg h
    rw [if_neg (fun z => by have := Int64.le_iff_toInt_le.mp ((f_xs a).mp z); rw [e, show (0 : Int64).toInt = 0 from rfl] at this; omega)]
    have e1 := f_modI h1 h2 e
    unfold f_X7_modulo
    by_cases h0 : a - a / 2305843009213693951 * 2305843009213693951 = 0
    · rw [if_pos h0, h0]; rfl
    · have h3 : ¬ k % PP = 0 := fun z => h0 (Int64.toInt_inj.mp (by rw [e1, z]; rfl))
      rw [if_neg h0, if_neg (fun z => by have := Int64.le_iff_toInt_le.mp z; rw [e1, show (0 : Int64).toInt = 0 from rfl] at this; omega)]
  · obtain ⟨k, h1, rfl⟩ := pk_lOf h
    have h0 : (0 : Int64) ≤ lN k := Int64.le_iff_toInt_le.mpr (by rw [pk_lT h1]; exact Int.natCast_nonneg _)
    rw [if_pos ((f_xs _).mpr h0), f_modN h1, f_rem h1]
theorem f_modF (a : Int64) : inF (f_X7_modulo a) := by
  by_cases h : a < 0
  · obtain ⟨k, h1, h2, e⟩ := f_neg h
    exact ⟨_, Nat.mod_lt _ (by decide), f_modM h1 h2 e⟩
  · obtain ⟨k, h1, rfl⟩ := pk_lOf h
    exact ⟨_, Nat.mod_lt _ (by decide), f_modN h1⟩
theorem f_sum {x y : Nat} (hx : x < PP) (hy : y < PP) : f_X0_sum (lN x) (lN y) = lN ((x + y) % PP) := by
  have h3 := hPP
  unfold f_X0_sum
  rw [lN_add, f_rem (by omega)]
theorem f_op0 {x y : Nat} (hx : x < PP) (hy : y < PP) : f_X7_operate 0 (lN x) (lN y) = lN ((x + y) % PP) := by
  have h3 := hPP
  unfold f_X7_operate
  rw [if_pos rfl, lN_add, f_modN (by omega)]
theorem f_sub {x y : Nat} (hx : x < PP) (hy : y < PP) : f_X7_modulo (lN x - lN y) = lN ((x + (PP - y)) % PP) := by
  have h3 := hPP
  rcases Nat.lt_or_ge x y with h | h
  · have e : (lN x - lN y).toInt = -((y - x : Nat) : Int) := by
      rw [Int64.toInt_sub, pk_lT (by omega), pk_lT (by omega), Int.bmod_eq_of_le (by omega) (by omega)]
      omega
    rw [f_modM (by omega) (by omega) e, Nat.mod_eq_of_lt (show y - x < PP by omega)]
    congr 2
    omega
  · rw [lN_sub h, f_modN (by omega), show x + (PP - y) = x - y + PP by omega, Nat.add_mod_right]
theorem f_dif {x y : Nat} (hx : x < PP) (hy : y < PP) : f_X0_difference (lN x) (lN y) = lN ((x + (PP - y)) % PP) := by
  have h3 := hPP
  unfold f_X0_difference
  have e : lN x - lN y + 2305843009213693951 = lN (x + (PP - y)) := by
    apply Int64.toInt_inj.mp
    rw [Int64.toInt_add, Int64.toInt_sub, pk_lT (by omega), pk_lT (by omega), pk_lT (by omega), show (2305843009213693951 : Int64).toInt = 2305843009213693951 from rfl, Int.bmod_eq_of_le (n := (x : Int) - y) (by omega) (by omega), Int.bmod_eq_of_le (by omega) (by omega)]
    omega
  rw [e, f_rem (by omega)]
theorem f_op1 {x y : Nat} (hx : x < PP) (hy : y < PP) : f_X7_operate 1 (lN x) (lN y) = lN ((x + (PP - y)) % PP) := by
  unfold f_X7_operate
  rw [if_neg (by decide), if_pos rfl, f_sub hx hy]
/-- the halves -/
theorem f_hm (x y : Nat) : (2 * (x / 2 ^ 31 * (y / 2 ^ 31)) + (x / 2 ^ 31 * (y % 2 ^ 31) + x % 2 ^ 31 * (y / 2 ^ 31)) % 2 ^ 30 * 2 ^ 31 + (x % 2 ^ 31 * (y % 2 ^ 31) + (x / 2 ^ 31 * (y % 2 ^ 31) + x % 2 ^ 31 * (y / 2 ^ 31)) / 2 ^ 30)) % PP = x * y % PP := by
  have ex : x = 2 ^ 31 * (x / 2 ^ 31) + x % 2 ^ 31 := (Nat.div_add_mod x (2 ^ 31)).symm
  have ey : y = 2 ^ 31 * (y / 2 ^ 31) + y % 2 ^ 31 := (Nat.div_add_mod y (2 ^ 31)).symm
  generalize x / 2 ^ 31 = a at *
  generalize x % 2 ^ 31 = b at *
  generalize y / 2 ^ 31 = c at *
  generalize y % 2 ^ 31 = d at *
  have em : a * d + b * c = 2 ^ 30 * ((a * d + b * c) / 2 ^ 30) + (a * d + b * c) % 2 ^ 30 := (Nat.div_add_mod _ _).symm
  generalize hm : a * d + b * c = m at *
  generalize m / 2 ^ 30 = h at *
  generalize m % 2 ^ 30 = g at *
  have e1 : x * y = (2 * (a * c) + g * 2 ^ 31 + (b * d + h)) + PP * (2 * (a * c) + h) := by
    rw [ex, ey, hPP]
    have e2 : (2 ^ 31 * a + b) * (2 ^ 31 * c + d) = 2 ^ 62 * (a * c) + 2 ^ 31 * (a * d + b * c) + b * d := by
      grind
    rw [e2, hm, em]
    generalize a * c = w
    generalize b * d = v
    omega
  rw [e1, Nat.add_mul_mod_self_left]

theorem f_h {x : Nat} (hx : x < PP) : ((lN x).toUInt64 >>> ((31 : Int32).toInt64.toUInt64 &&& Int64.toUInt64 63)).toInt64 = lN (x / 2 ^ 31) := z_ushr (k := 31) (by have := hPP; omega) (by decide)
theorem f_l {x : Nat} (hx : x < PP) : lN x &&& 2147483647 = lN (x % 2 ^ 31) := z_mask (m := 2147483647) (k := 31) (by have := hPP; omega) (by decide) rfl
theorem f_mul {x y : Nat} (hx : x < PP) (hy : y < PP) : f_X0_product (lN x) (lN y) = lN (x * y % PP) := by
  have h3 := hPP
  unfold f_X0_product
  rw [f_h hx, f_h hy, f_l hx, f_l hy]
  have a1 : x / 2 ^ 31 < 2 ^ 30 := by omega
  have a2 : y / 2 ^ 31 < 2 ^ 30 := by omega
  have a3 : x % 2 ^ 31 < 2 ^ 31 := Nat.mod_lt _ (by decide)
  have a4 : y % 2 ^ 31 < 2 ^ 31 := Nat.mod_lt _ (by decide)
  rw [← f_hm x y]
  generalize x / 2 ^ 31 = a at *
  generalize x % 2 ^ 31 = b at *
  generalize y / 2 ^ 31 = c at *
  generalize y % 2 ^ 31 = d at *
  have b1 : a * c < 2 ^ 30 * 2 ^ 30 := Nat.mul_lt_mul'' a1 a2
  have b2 : a * d < 2 ^ 30 * 2 ^ 31 := Nat.mul_lt_mul'' a1 a4
  have b3 : b * c < 2 ^ 31 * 2 ^ 30 := Nat.mul_lt_mul'' a3 a2
  have b4 : b * d < 2 ^ 31 * 2 ^ 31 := Nat.mul_lt_mul'' a3 a4
  rw [lN_mul, lN_mul, lN_mul, lN_mul, lN_add]
  generalize a * c = w at *
  generalize b * d = v at *
  generalize hm : a * d + b * c = m at *
  have b5 : m < 2 ^ 62 := by omega
  rw [show (2 : Int64) = lN 2 from rfl, lN_mul, f_rem (show 2 * w < 2 ^ 63 by omega), f_rem (show v < 2 ^ 63 by omega), show (1073741823 : Int64) = lN 1073741823 from rfl, z_mask (k := 30) (show m < 2 ^ 64 by omega) (by decide) rfl, show (30 : Int32) = nI 30 from rfl, z_ushr (k := 30) (show m < 2 ^ 64 by omega) (by decide), show (31 : Int32) = nI 31 from rfl, z_shl (by decide)]
  have b6 : m % 2 ^ 30 < 2 ^ 30 := Nat.mod_lt _ (by decide)
  rw [f_rem (show m % 2 ^ 30 * 2 ^ 31 < 2 ^ 63 by omega), f_sum (Nat.mod_lt _ (by decide)) (Nat.mod_lt _ (by decide)), f_sum (Nat.mod_lt _ (by decide)) (show m / 2 ^ 30 < PP by omega), f_sum (Nat.mod_lt _ (by decide)) (Nat.mod_lt _ (by decide))]
  congr 1
  rw [← Nat.add_mod, Nat.add_mod, ← Nat.add_mod (2 * w), Nat.mod_add_mod, Nat.mod_add_mod, Nat.add_mod_mod]
theorem m_c {a b c d p : Nat} (h : a % p = b % p) : (a * c + d) % p = (b * c + d) % p := by rw [Nat.add_mod, Nat.mul_mod, h, ← Nat.mul_mod, ← Nat.add_mod]
/-- double and add -/
theorem m_sb {t p q : Nat} (h : p ≤ t) (e : t % p = q % p) : (t - p) % p = q % p := by rw [← e, Nat.mod_eq_sub_mod h]
theorem f_pL {x y : Nat} (hx : x < PP) (hy : y < PP) : ∀ (k : Nat), k ≤ 61 → ∀ (acc : Nat), acc < PP → ∀ (v : Int32), v.toInt = (k : Int) - 1 → ∀ fu, k < fu → f_X7_product_L7 (lN x) (lN y) fu (lN acc) v = lN ((acc * 2 ^ k + x * (y % 2 ^ k)) % PP)
  | 0, _, acc, ha, v, hv, fu, hf => by
    obtain ⟨n, rfl⟩ : ∃ n, fu = n + 1 := ⟨fu - 1, by omega⟩
    rw [f_X7_product_L7, if_pos (Int32.lt_iff_toInt_lt.mpr (by rw [hv]; decide)), Nat.pow_zero, Nat.mod_one, Nat.mul_one, Nat.mul_zero, Nat.add_zero, Nat.mod_eq_of_lt ha]
  | k + 1, hk, acc, ha, v, hv, fu, hf => by
    have h3 := hPP
    obtain ⟨n, rfl⟩ : ∃ n, fu = n + 1 := ⟨fu - 1, by omega⟩
    have ev : v = nI k := Int32.toInt_inj.mp (by rw [hv, nI_toInt (by omega)]; omega)
    have hv1 : (v + (-1)).toInt = (k : Int) - 1 := by
      rw [Int32.toInt_add, hv, show (-1 : Int32).toInt = -1 from rfl, Int.bmod_eq_of_le (by omega) (by omega)]
      omega
    have hb : ((lN y >>> ((v : Int32).toInt64 &&& 63)) &&& 1) = lN (y / 2 ^ k % 2) := by
      rw [ev, z_sshr (by omega) (by omega)]
      exact z_mask (m := 1) (k := 1) (Nat.lt_of_le_of_lt (Nat.div_le_self _ _) (by omega)) (by decide) rfl
    have ey : y % 2 ^ (k + 1) = 2 ^ k * (y / 2 ^ k % 2) + y % 2 ^ k := by
      rw [Nat.pow_succ, Nat.mod_mul, Nat.add_comm]
    rw [f_X7_product_L7, if_neg (fun z => by have := Int32.lt_iff_toInt_lt.mp z; rw [hv, show (0 : Int32).toInt = 0 from rfl] at this; omega)]
    have step : ∀ t : Nat, t < PP → t % PP = (2 * acc) % PP → f_X7_product_J39 (lN x) (lN y) v (f_X7_product_L7 (lN x) (lN y) n) (lN t) = lN ((acc * 2 ^ (k + 1) + x * (y % 2 ^ (k + 1))) % PP) := by
      intro t ht et
      unfold f_X7_product_J39 f_X7_product_J58 f_X7_product_J78
      rw [hb]
      have fin : ∀ u : Nat, u < PP → u % PP = (t + x * (y / 2 ^ k % 2)) % PP → f_X7_product_L7 (lN x) (lN y) n (lN u) (v + (-1)) = lN ((acc * 2 ^ (k + 1) + x * (y % 2 ^ (k + 1))) % PP) := by
        intro u hu eu
        rw [f_pL hx hy k (by omega) u hu _ hv1 n (by omega)]
        refine congrArg lN ?_
        rw [ey, m_c eu]
        have e2 : (t + x * (y / 2 ^ k % 2)) * 2 ^ k + x * (y % 2 ^ k) = t * 2 ^ k + x * (2 ^ k * (y / 2 ^ k % 2) + y % 2 ^ k) := by grind
        rw [e2, m_c et]
        refine congrArg (fun z => z % PP) ?_
        rw [Nat.pow_succ]; grind
      rcases Nat.mod_two_eq_zero_or_one (y / 2 ^ k) with h0 | h0
      · rw [h0, if_neg (by decide), if_pos (by rw [PPl]; exact (pk_lLT (by omega) (by decide)).mpr ht)]
        exact fin t ht (by rw [h0, Nat.mul_zero, Nat.add_zero])
      · rw [h0, if_pos (show lN 1 = 1 from rfl), lN_add, PPl]
        by_cases hl : t + x < PP
        · rw [if_pos ((pk_lLT (by omega) (by decide)).mpr hl)]
          exact fin _ hl (by rw [h0, Nat.mul_one])
        · rw [if_neg (fun z => hl ((pk_lLT (by omega) (by decide)).mp z)), lN_sub (by omega)]
          exact fin _ (by omega) (m_sb (by omega) (by rw [h0, Nat.mul_one]))
    rw [lN_add, PPl]
    by_cases hl : acc + acc < PP
    · rw [if_pos ((pk_lLT (by omega) (by decide)).mpr hl)]
      exact step _ hl (by rw [Nat.two_mul])
    · rw [if_neg (fun z => hl ((pk_lLT (by omega) (by decide)).mp z)), lN_sub (by omega)]
      exact step _ (by omega) (m_sb (by omega) (by rw [Nat.two_mul]))
theorem f_mul7 {x y : Nat} (hx : x < PP) (hy : y < PP) : f_X7_product (lN x) (lN y) = lN (x * y % PP) := by
  unfold f_X7_product
  have h := f_pL hx hy 61 (by decide) 0 (by decide) (nI 60) (by rw [nI_toInt (by decide)]; rfl) 62 (by decide)
  rw [show (0 : Int64) = lN 0 from rfl, show (60 : Int32) = nI 60 from rfl, h, Nat.zero_mul, Nat.zero_add, Nat.mod_eq_of_lt (show y < 2 ^ 61 by have := hPP; omega)]
/-- square and multiply -/
theorem f_qL : ∀ (k : Nat) (acc p i : Nat) (fu : Nat), acc < PP → p < PP → i + k = 61 → k < fu → f_X0_quotient_L9 fu (lN acc) (lN p) (nI i) = lN (acc * p ^ (2305843009213693949 / 2 ^ i) % PP)
  | 0, acc, p, i, fu, ha, hp, hi, hf => by
    obtain ⟨n, rfl⟩ : ∃ n, fu = n + 1 := ⟨fu - 1, by omega⟩
    have : i = 61 := by omega
    subst this
    rw [f_X0_quotient_L9, if_pos (by decide), show 2305843009213693949 / 2 ^ 61 = 0 by decide, Nat.pow_zero, Nat.mul_one, Nat.mod_eq_of_lt ha]
  | k + 1, acc, p, i, fu, ha, hp, hi, hf => by
    have h3 := hPP
    obtain ⟨n, rfl⟩ : ∃ n, fu = n + 1 := ⟨fu - 1, by omega⟩
    have hb : ((((2305843009213693949 : Int64).toUInt64 >>> ((nI i : Int32).toInt64.toUInt64 &&& Int64.toUInt64 63)).toInt64) &&& 1) = lN (2305843009213693949 / 2 ^ i % 2) := by
      rw [show (2305843009213693949 : Int64) = lN 2305843009213693949 from rfl, z_ushr (by decide) (by omega)]
      exact z_mask (m := 1) (k := 1) (Nat.lt_of_le_of_lt (Nat.div_le_self _ _) (by decide)) (by decide) rfl
    have ee : 2305843009213693949 / 2 ^ i = 2 * (2305843009213693949 / 2 ^ (i + 1)) + 2305843009213693949 / 2 ^ i % 2 := by
      rw [Nat.pow_succ, ← Nat.div_div_eq_div_mul]
      exact (Nat.div_add_mod _ 2).symm
    rw [f_X0_quotient_L9, if_neg (by rw [show (61 : Int32) = nI 61 from rfl, nI_leI (by decide) (by omega)]; omega), hb]
    unfold f_X0_quotient_J38
    rw [f_mul hp hp, f_mul ha hp, nI_1]
    have hpp : p * p % PP < PP := Nat.mod_lt _ (by decide)
    have hap : acc * p % PP < PP := Nat.mod_lt _ (by decide)
    rcases Nat.mod_two_eq_zero_or_one (2305843009213693949 / 2 ^ i) with h0 | h0
    · rw [h0, if_pos (show lN 0 = 0 from rfl), f_qL k acc _ (i + 1) n ha hpp (by omega) (by omega)]
      rw [h0, Nat.add_zero] at ee
      congr 1
      generalize 2305843009213693949 / 2 ^ (i + 1) = w at *
      rw [ee, Nat.pow_mul, Nat.mul_mod, ← Nat.pow_mod, ← Nat.mul_mod, Nat.pow_two]
    · rw [h0, if_neg (by decide), f_qL k _ _ (i + 1) n hap hpp (by omega) (by omega)]
      rw [h0] at ee
      congr 1
      generalize 2305843009213693949 / 2 ^ (i + 1) = w at *
      rw [ee, Nat.mul_mod, Nat.mod_mod, ← Nat.pow_mod, ← Nat.mul_mod, Nat.pow_succ, Nat.pow_mul, Nat.pow_two]
      congr 1
      grind
theorem f_quo {x y : Nat} (hx : x < PP) (hy : y < PP) : f_X0_quotient (lN x) (lN y) = lN (x * y ^ 2305843009213693949 % PP) := by
  unfold f_X0_quotient
  have h := f_qL 61 x y 0 62 hx hy (by decide) (by decide)
  rw [nI_0] at h
  rw [h, Nat.pow_zero, Nat.div_one]
/-- Euclid -/
theorem f_iL {y : Nat} : ∀ (fu r0 r1 t0 t1 : Nat), r1 < fu → r0 ≤ PP → r1 ≤ PP → t0 < PP → t1 < PP → Nat.gcd r0 r1 = 1 → ((PP : Int) ∣ t0 * y - r0) → ((PP : Int) ∣ t1 * y - r1) → ∃ u : Nat, u < PP ∧ f_X7_inverse_L13 fu (lN r0) (lN r1) (lN t0) (lN t1) = lN u ∧ ((PP : Int) ∣ u * y - 1)
  | 0, _, r1, _, _, h, _, _, _, _, _, _, _ => absurd h (Nat.not_lt_zero _)
  | fu + 1, r0, r1, t0, t1, hf, h0, h1, k0, k1, hg, d0, d1 => by
    have h3 := hPP
    rw [f_X7_inverse_L13]
    rcases Nat.eq_zero_or_pos r1 with hz | hz
    · subst hz
      rw [Nat.gcd_zero_right] at hg
      subst hg
      rw [if_pos (show lN 0 = 0 from rfl)]
      exact ⟨t0, k0, rfl, d0⟩
    · rw [if_neg (fun z => by have := (pk_lEQ (b := 0) (show r1 < 2 ^ 63 by omega) (by decide)).mp z; omega), pk_lRem (by omega) hz (by omega), pk_lDiv (by omega) hz (by omega)]
      have hq : r0 / r1 ≤ PP := Nat.le_trans (Nat.div_le_self _ _) h0
      have hqm : r0 / r1 % PP < PP := Nat.mod_lt _ (by decide)
      rw [f_modN (show r0 / r1 < 2 ^ 63 by omega), f_mul7 hqm k1, f_sub k0 (Nat.mod_lt _ (by decide))]
      have hm : r0 % r1 < r1 := Nat.mod_lt _ hz
      refine f_iL fu r1 (r0 % r1) t1 _ (by omega) h1 (by omega) k1 (Nat.mod_lt _ (by decide)) ?_ d1 ?_
      · rw [Nat.gcd_comm, ← Nat.gcd_rec, Nat.gcd_comm]; exact hg
      · have e1 : ((r0 % r1 : Nat) : Int) = r0 - r1 * (r0 / r1 : Nat) := by
          have := Nat.div_add_mod r0 r1
          have e9 : ((r1 * (r0 / r1) + r0 % r1 : Nat) : Int) = (r0 : Int) := congrArg _ this
          push_cast at e9 ⊢
          omega
        have e2 : ∃ z : Int, (((t0 + (PP - r0 / r1 % PP * t1 % PP)) % PP : Nat) : Int) = t0 - (r0 / r1 : Nat) * t1 + PP * z := by
          have a1 := Nat.div_add_mod (t0 + (PP - r0 / r1 % PP * t1 % PP)) PP
          have a2 := Nat.div_add_mod (r0 / r1 % PP * t1) PP
          have a3 := Nat.div_add_mod (r0 / r1) PP
          have a4 : r0 / r1 % PP * t1 % PP < PP := Nat.mod_lt _ (by decide)
          generalize (t0 + (PP - r0 / r1 % PP * t1 % PP)) / PP = A at a1
          generalize r0 / r1 % PP * t1 / PP = B at a2
          generalize (t0 + (PP - r0 / r1 % PP * t1 % PP)) % PP = C at a1 ⊢
          generalize r0 / r1 / PP = E at a3
          generalize r0 / r1 % PP * t1 % PP = F at a1 a2 a4
          generalize r0 / r1 % PP = G at a2 a3
          generalize r0 / r1 = q at a3 ⊢
          refine ⟨1 + B - A + E * t1, ?_⟩
          have b1 : ((PP : Int) * A + C) = t0 + (PP - F) := by omega
          have b2 : ((PP : Int) * B + F) = G * t1 := by exact_mod_cast a2
          have b3 : ((PP : Int) * E + G) = q := by exact_mod_cast a3
          generalize (PP : Int) = p at b1 b2 b3 ⊢
          grind
        obtain ⟨z, e2⟩ := e2
        obtain ⟨z0, e3⟩ := d0
        obtain ⟨z1, e4⟩ := d1
        rw [e1, e2]
        refine ⟨z0 - (r0 / r1 : Nat) * z1 + z * y, ?_⟩
        clear e1 e2 hm hqm hq hf hg
        generalize ((r0 / r1 : Nat) : Int) = q
        generalize (PP : Int) = p at *
        have w1 : (r0 : Int) = t0 * y - p * z0 := by omega
        have w2 : (r1 : Int) = t1 * y - p * z1 := by omega
        rw [w1, w2]
        generalize (t0 : Int) = T0
        generalize (t1 : Int) = T1
        generalize (y : Int) = Y
        clear w1 w2 e3 e4 h0 h1 k0 k1 h3 hz
        grind
theorem f_pr {y : Nat} (h0 : 0 < y) (h1 : y < PP) : Nat.gcd PP y = 1 := by
  have h := m_inv h0 h1
  have d1 : Nat.gcd PP y ∣ PP := Nat.gcd_dvd_left _ _
  have d2 : Nat.gcd PP y ∣ y := Nat.gcd_dvd_right _ _
  have d3 : Nat.gcd PP y ∣ y * (y ^ 2305843009213693949 % PP) % PP := (Nat.dvd_mod_iff d1).mpr (Nat.dvd_mul_right_of_dvd d2 _)
  rw [h] at d3
  exact Nat.dvd_one.mp d3
theorem f_inv {y : Nat} (h0 : 0 < y) (h1 : y < PP) : f_X7_inverse (lN y) = lN (y ^ 2305843009213693949 % PP) := by
  have h3 := hPP
  unfold f_X7_inverse
  have e : (lN y).toInt.natAbs = y := by rw [pk_lT (by omega)]; rfl
  obtain ⟨u, hu, e2, z, e3⟩ := f_iL (y := y) (y + 1) PP y 0 1 (by omega) (by omega) (by omega) (by decide) (by decide) (f_pr h0 h1) ⟨-1, by omega⟩ ⟨0, by omega⟩
  rw [e, PPl]
  refine e2.trans ?_
  congr 1
  rw [← Nat.mod_eq_of_lt hu]
  refine m_uniq h0 h1 ?_
  have hz : 0 ≤ z := by
    rcases Int.lt_or_le z 0 with h | h
    · exfalso
      have hm : (PP : Int) * z ≤ (PP : Int) * (-1) := Int.mul_le_mul_of_nonneg_left (by omega) (by omega)
      have hu0 : (0 : Int) ≤ (u : Int) * y := Int.mul_nonneg (by omega) (by omega)
      omega
    · exact h
  obtain ⟨w, rfl⟩ := Int.eq_ofNat_of_zero_le hz
  have e4 : u * y = PP * w + 1 := by
    have e5 : (u : Int) * y = PP * w + 1 := by omega
    exact_mod_cast e5
  rw [e4, Nat.mul_add_mod]
  rfl
theorem e_sum {a b : Int64} (ha : inF a) (hb : inF b) : f_X0_sum a b = f_X7_operate 0 a b ∧ inF (f_X7_operate 0 a b) := by
  obtain ⟨x, hx, rfl⟩ := ha
  obtain ⟨y, hy, rfl⟩ := hb
  rw [f_sum hx hy, f_op0 hx hy]
  exact ⟨rfl, _, Nat.mod_lt _ (by decide), rfl⟩
theorem e_dif {a b : Int64} (ha : inF a) (hb : inF b) : f_X0_difference a b = f_X7_operate 1 a b ∧ inF (f_X7_operate 1 a b) := by
  obtain ⟨x, hx, rfl⟩ := ha
  obtain ⟨y, hy, rfl⟩ := hb
  rw [f_dif hx hy, f_op1 hx hy]
  exact ⟨rfl, _, Nat.mod_lt _ (by decide), rfl⟩
theorem e_mul {a b : Int64} (ha : inF a) (hb : inF b) : f_X0_product a b = f_X7_operate 2 a b ∧ inF (f_X7_operate 2 a b) := by
  obtain ⟨x, hx, rfl⟩ := ha
  obtain ⟨y, hy, rfl⟩ := hb
  have e : f_X7_operate 2 (lN x) (lN y) = lN (x * y % PP) := by
    unfold f_X7_operate
    rw [if_neg (by decide), if_neg (by decide), if_pos rfl, f_mul7 hx hy]
  rw [f_mul hx hy, e]
  exact ⟨rfl, _, Nat.mod_lt _ (by decide), rfl⟩
theorem e_quo {a b : Int64} (ha : inF a) (hb : inF b) (h0 : ¬ b = 0) : f_X0_quotient a b = f_X7_operate 3 a b ∧ inF (f_X7_operate 3 a b) := by
  obtain ⟨x, hx, rfl⟩ := ha
  obtain ⟨y, hy, rfl⟩ := hb
  have hy0 : 0 < y := by
    rcases Nat.eq_zero_or_pos y with rfl | h
    · exact absurd rfl h0
    · exact h
  have e : f_X7_operate 3 (lN x) (lN y) = lN (x * y ^ 2305843009213693949 % PP) := by
    unfold f_X7_operate
    rw [if_neg (by decide), if_neg (by decide), if_neg (by decide), f_inv hy0 hy, f_mul7 hx (Nat.mod_lt _ (by decide)), Nat.mul_mod, Nat.mod_mod, ← Nat.mul_mod]
  rw [f_quo hx hy, e]
  exact ⟨rfl, _, Nat.mod_lt _ (by decide), rfl⟩
