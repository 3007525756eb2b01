/-! values: what the class holds in one long, the reference holds as a kind and a long -/
def enc (k : Int32) (n : Int64) : Int64 := if k = 0 then n else 4611686018427387904 + k.toInt64 * 2048 + (n + 1000)
def Vok (k : Int32) (n : Int64) : Prop := (k = 0 ∧ inF n) ∨ ∃ j c : Nat, 1 ≤ j ∧ j ≤ 5 ∧ c ≤ 2000 ∧ k = nI j ∧ n = lN c - 1000
theorem v_of {k : Int32} {n : Int64} (h : Vok k n) : (k = 0 ∧ ∃ x : Nat, x < PP ∧ n = lN x ∧ enc k n = lN x) ∨ ∃ j c : Nat, 1 ≤ j ∧ j ≤ 5 ∧ c ≤ 2000 ∧ k = nI j ∧ n = lN c - 1000 ∧ enc k n = lN (4611686018427387904 + 2048 * j + c) := by
  rcases h with ⟨rfl, x, hx, rfl⟩ | ⟨j, c, h1, h2, h3, rfl, rfl⟩
  · exact Or.inl ⟨rfl, x, hx, rfl, if_pos rfl⟩
  · refine Or.inr ⟨j, c, h1, h2, h3, rfl, rfl, ?_⟩
    unfold enc
    rw [if_neg (nI_ne0 (by omega) (by omega)), nI_l (by omega), Int64.sub_add_cancel, show (2048 : Int64) = lN 2048 from rfl, lN_mul, show (4611686018427387904 : Int64) = lN 4611686018427387904 from rfl, lN_add, lN_add, Nat.mul_comm j]
theorem v_kind {k : Int32} {n : Int64} (h : Vok k n) : vp_in k 6 := by
  rcases h with ⟨rfl, -⟩ | ⟨j, c, h1, h2, h3, rfl, rfl⟩
  · exact q_vi (by decide)
  · exact vp_in_nI (by omega) (by decide)
/-! numbers -/
theorem v_nN {x : Nat} (hx : x < PP) : f_X4_isNumber (lN x) = 1 := by
  have h3 := hPP
  unfold f_X4_isNumber
  rw [if_neg (fun z => by have := Int64.lt_iff_toInt_lt.mp z; rw [pk_lT (by omega), show (0 : Int64).toInt = 0 from rfl] at this; omega), show (4611686018427387904 : Int64) = lN 4611686018427387904 from rfl, if_neg (fun z => by have := (pk_lLE (by decide) (by omega)).mp z; omega)]
theorem v_nA {x : Nat} (hx : x < PP) : f_X4_isAddress (lN x) = 0 := by
  have h3 := hPP
  unfold f_X4_isAddress
  rw [show (4611686018427387904 : Int64) = lN 4611686018427387904 from rfl, if_pos ((pk_lLT (by omega) (by decide)).mpr (by omega))]
theorem v_pos {x : Nat} (hx : x < 2 ^ 63) : ¬ lN x = -1 := fun z => by
  have := congrArg Int64.toInt z
  rw [pk_lT hx, show (-1 : Int64).toInt = -1 from rfl] at this
  omega
theorem v_aN {j c : Nat} (h2 : j ≤ 5) (h3 : c ≤ 2000) : f_X4_isNumber (lN (4611686018427387904 + 2048 * j + c)) = 0 := by
  unfold f_X4_isNumber
  rw [if_neg (fun z => by have := Int64.lt_iff_toInt_lt.mp z; rw [pk_lT (by omega), show (0 : Int64).toInt = 0 from rfl] at this; omega), show (4611686018427387904 : Int64) = lN 4611686018427387904 from rfl, if_pos ((pk_lLE (by decide) (by omega)).mpr (by omega))]
theorem v_aA {j c : Nat} (h2 : j ≤ 5) (h3 : c ≤ 2000) : f_X4_isAddress (lN (4611686018427387904 + 2048 * j + c)) = 1 := by
  unfold f_X4_isAddress
  rw [show (4611686018427387904 : Int64) = lN 4611686018427387904 from rfl, if_neg (fun z => by have := (pk_lLT (by omega) (by decide)).mp z; omega)]
theorem v_aS {j c : Nat} (h2 : j ≤ 5) (h3 : c ≤ 2000) : f_X4_segmentOf (lN (4611686018427387904 + 2048 * j + c)) = nI j := by
  unfold f_X4_segmentOf
  rw [show (4611686018427387904 : Int64) = lN 4611686018427387904 from rfl, lN_sub (by omega), show (11 : Int32) = nI 11 from rfl, z_ushr (by omega) (by decide), lN_i]
  congr 1
  omega
theorem v_aC {j c : Nat} (h2 : j ≤ 5) (h3 : c ≤ 2000) : f_X4_cellOf (lN (4611686018427387904 + 2048 * j + c)) = nI c - 1000 := by
  unfold f_X4_cellOf
  rw [show (4611686018427387904 : Int64) = lN 4611686018427387904 from rfl, lN_sub (by omega), show (2047 : Int64) = lN 2047 from rfl, z_mask (k := 11) (by omega) (by decide) rfl, lN_i, show (4611686018427387904 + 2048 * j + c - 4611686018427387904) % 2 ^ 11 = c by omega]
theorem v_cI {c : Nat} (h : c ≤ 2000) : (nI c - 1000).toInt = (c : Int) - 1000 := by
  rw [Int32.toInt_sub, nI_toInt (by omega), show (1000 : Int32).toInt = 1000 from rfl, Int.bmod_eq_of_le (by omega) (by omega)]
theorem v_cL {c : Nat} (h : c ≤ 2000) : (lN c - 1000).toInt = (c : Int) - 1000 := by
  rw [Int64.toInt_sub, pk_lT (by omega), show (1000 : Int64).toInt = 1000 from rfl, Int.bmod_eq_of_le (by omega) (by omega)]
theorem v_c64 {c : Nat} (h : c ≤ 2000) : (nI c - 1000).toInt64 = lN c - 1000 := Int64.toInt_inj.mp (by rw [Int32.toInt_toInt64, v_cI h, v_cL h])
theorem v_c32 {c : Nat} (h : c ≤ 2000) : (lN c - 1000).toInt32 = nI c - 1000 := by rw [lg_l2i_sub, lN_i]; rfl
/-- an address out of a segment and a long -/
theorem v_ofA {j : Nat} (h1 : 1 ≤ j) (h2 : j ≤ 5) (a : Int64) : f_X4_ofAddress (nI j) a = if a < -1000 then -1 else if 1000 < a then -1 else enc (nI j) a := by
  unfold f_X4_ofAddress
  by_cases c1 : a < -1000
  · rw [if_pos c1, if_pos c1]
  · rw [if_neg c1, if_neg c1]
    by_cases c2 : a ≤ 1000
    · rw [if_pos c2, if_neg (lg_le_not_lt c2)]
      unfold enc
      rw [if_neg (nI_ne0 (by omega) (by omega)), nI_l (by omega), show (11 : Int32) = nI 11 from rfl, z_shl (by decide), show (2048 : Int64) = lN 2048 from rfl, lN_mul]
    · rw [if_neg c2, if_pos (Int64.lt_iff_toInt_lt.mpr (q_nleL c2))]
theorem v_rng {a : Int64} (c1 : ¬ a < -1000) (c2 : ¬ 1000 < a) : ∃ c : Nat, c ≤ 2000 ∧ a = lN c - 1000 := by
  have g1 := q_nltL c1
  have g2 := q_nltL c2
  rw [show (-1000 : Int64).toInt = -1000 from rfl] at g1
  rw [show (1000 : Int64).toInt = 1000 from rfl] at g2
  refine ⟨(a.toInt + 1000).toNat, by omega, Int64.toInt_inj.mp ?_⟩
  rw [v_cL (by omega)]
  omega
theorem v_adr {j : Nat} (h1 : 1 ≤ j) (h2 : j ≤ 5) {a : Int64} (c1 : ¬ a < -1000) (c2 : ¬ 1000 < a) : Vok (nI j) a := by
  obtain ⟨c, hc, rfl⟩ := v_rng c1 c2
  exact Or.inr ⟨j, c, h1, h2, hc, rfl, rfl⟩
theorem v_m1N : f_X4_isNumber (-1) = 0 := by decide +kernel
theorem v_m1A : f_X4_isAddress (-1) = 0 := by decide +kernel
theorem v_ne {k : Int32} {n : Int64} (h : Vok k n) : ¬ enc k n = -1 := by
  have h3 := hPP
  rcases v_of h with ⟨-, x, hx, -, e⟩ | ⟨j, c, h1, h2, h3, -, -, e⟩ <;> rw [e] <;> exact v_pos (by omega)
theorem v_isN {k : Int32} {n : Int64} (h : Vok k n) : (f_X4_isNumber (enc k n) = 0) ↔ ¬ k = 0 := by
  rcases v_of h with ⟨rfl, x, hx, -, e⟩ | ⟨j, c, h1, h2, h3, rfl, -, e⟩
  · rw [e, v_nN hx]; try decide
  · rw [e, v_aN h2 h3]; simp only [true_iff]; exact nI_ne0 (by omega) (by omega)
theorem v_isA {k : Int32} {n : Int64} (h : Vok k n) : (f_X4_isAddress (enc k n) = 0) ↔ k = 0 := by
  rcases v_of h with ⟨rfl, x, hx, -, e⟩ | ⟨j, c, h1, h2, h3, rfl, -, e⟩
  · rw [e, v_nA hx]; try decide
  · rw [e, v_aA h2 h3]
    constructor
    · intro z; exact absurd z (by decide)
    · intro z; exact absurd z (nI_ne0 (by omega) (by omega))
theorem v_seg {k : Int32} {n : Int64} (h : Vok k n) (hk : ¬ k = 0) : f_X4_segmentOf (enc k n) = k := by
  rcases v_of h with ⟨rfl, -⟩ | ⟨j, c, h1, h2, h3, rfl, -, e⟩
  · exact absurd rfl hk
  · rw [e, v_aS h2 h3]
theorem v_cel {k : Int32} {n : Int64} (h : Vok k n) (hk : ¬ k = 0) : f_X4_cellOf (enc k n) = n.toInt32 ∧ (f_X4_cellOf (enc k n)).toInt64 = n := by
  rcases v_of h with ⟨rfl, -⟩ | ⟨j, c, h1, h2, h3, rfl, rfl, e⟩
  · exact absurd rfl hk
  · rw [e, v_aC h2 h3, v_c32 h3, v_c64 h3]; exact ⟨rfl, rfl⟩
theorem v_inj {k k' : Int32} {n n' : Int64} (h : Vok k n) (h' : Vok k' n') : enc k n = enc k' n' ↔ k = k' ∧ n = n' := by
  constructor
  · intro e
    by_cases hk : k = 0
    · have a1 := (v_isA h).mpr hk
      rw [e] at a1
      have a2 := (v_isA h').mp a1
      subst hk; subst a2
      exact ⟨rfl, by simpa [enc] using e⟩
    · have hk' : ¬ k' = 0 := fun z => hk ((v_isA h).mp (by rw [e]; exact (v_isA h').mpr z))
      refine ⟨by rw [← v_seg h hk, e, v_seg h' hk'], ?_⟩
      rw [← (v_cel h hk).2, e, (v_cel h' hk').2]
  · rintro ⟨rfl, rfl⟩; rfl
/-! what the reference's last reckoning gave, as the class has it -/
def res (N : NS) : Int64 := if pN_there N = 0 then -1 else enc (pN_gotKind N) (pN_got N)
def Gd (N : NS) : Prop := pN_there N = 0 ∨ (pN_there N = 1 ∧ Vok (pN_gotKind N) (pN_got N))
def Fr (S T : NS) : Prop := ∃ t g k, T = sN_got (sN_gotKind (sN_there S t) g) k
abbrev sg (S : NS) (a : Int32) : Int32 := pN_segment S a.toNatClampNeg
abbrev vl (S : NS) (a : Int32) : Int64 := pN_value S a.toNatClampNeg
theorem fr_rf (S : NS) : Fr S S := ⟨_, _, _, rfl⟩
theorem fr_tr {S T U : NS} (h : Fr S T) (h2 : Fr T U) : Fr S U := by
  obtain ⟨a, b, c, rfl⟩ := h
  obtain ⟨d, e, f, rfl⟩ := h2
  exact ⟨_, _, _, rfl⟩
theorem fr_there (S : NS) (t : Int32) : Fr S (sN_there S t) := ⟨t, pN_gotKind S, pN_got S, rfl⟩
theorem fr_further (S : NS) (a : Int32) (d : Int64) : Fr S (f_X7_further S a d) := by
  unfold f_X7_further f_X7_give
  repeat' split
  all_goals exact ⟨_, _, _, rfl⟩
theorem r_further {S : NS} {a : Int32} (h : Vok (sg S a) (vl S a)) (hk : ¬ sg S a = 0) (d : Int64) : f_X4_shifted (enc (sg S a) (vl S a)) d = res (f_X7_further S a d) ∧ Gd (f_X7_further S a d) ∧ pN_gotKind (f_X7_further S a d) = sg S a ∧ pN_got (f_X7_further S a d) = vl S a + d := by
  have e1 : f_X4_shifted (enc (sg S a) (vl S a)) d = f_X4_ofAddress (sg S a) (vl S a + d) := by
    unfold f_X4_shifted
    rw [v_seg h hk, (v_cel h hk).2]
  rw [e1]
  obtain ⟨j, h1, h2, e⟩ : ∃ j : Nat, 1 ≤ j ∧ j ≤ 5 ∧ sg S a = nI j := by
    rcases h with ⟨z, -⟩ | ⟨j, c, h1, h2, -, e, -⟩
    · exact absurd z hk
    · exact ⟨j, h1, h2, e⟩
  unfold f_X7_further f_X7_give
  show f_X4_ofAddress (sg S a) (vl S a + d) = res (if vl S a + d < -1000 then _ else if 1000 < vl S a + d then _ else _) ∧ Gd (if vl S a + d < -1000 then _ else if 1000 < vl S a + d then _ else _) ∧ pN_gotKind (if vl S a + d < -1000 then _ else if 1000 < vl S a + d then _ else _) = _ ∧ pN_got (if vl S a + d < -1000 then _ else if 1000 < vl S a + d then _ else _) = _
  rw [e, v_ofA h1 h2]
  by_cases c1 : vl S a + d < -1000
  · simp only [if_pos c1]
    exact ⟨rfl, Or.inl rfl, e, by first | rfl | trivial⟩
  · by_cases c2 : 1000 < vl S a + d
    · simp only [if_neg c1, if_pos c2]
      exact ⟨rfl, Or.inl rfl, e, by first | rfl | trivial⟩
    · simp only [if_neg c1, if_neg c2]
      refine ⟨?_, Or.inr ⟨rfl, ?_⟩, e, by first | rfl | trivial⟩
      · show _ = enc (sg S a) (vl S a + d)
        rw [e]
      · show Vok (sg S a) (vl S a + d)
        rw [e]; exact v_adr h1 h2 c1 c2

theorem r_st1 {S : NS} {a : Int32} {d : Int64} (h : Gd (f_X7_further S a d)) : res (f_X7_stepped_J66 S a 1 d) = res (f_X7_further S a d) ∧ Gd (f_X7_stepped_J66 S a 1 d) := by
  unfold f_X7_stepped_J66
  rcases h with h | ⟨h, hv⟩
  · rw [if_pos h]
    exact ⟨by unfold res; rw [if_pos h]; rfl, Or.inl rfl⟩
  · rw [if_neg (by rw [h]; decide), if_neg (by decide)]
    exact ⟨by unfold res; rw [if_neg (c := pN_there (f_X7_further S a d) = 0) (by rw [h]; decide)]; rfl, Or.inr ⟨rfl, hv⟩⟩
theorem r_st0 {S : NS} {a : Int32} {d : Int64} : res (f_X7_stepped_J66 S a 0 d) = -1 ∧ Gd (f_X7_stepped_J66 S a 0 d) := by
  unfold f_X7_stepped_J66
  split
  · exact ⟨rfl, Or.inl rfl⟩
  · exact ⟨rfl, Or.inl rfl⟩
theorem fr_stepped (S : NS) (a : Int32) (x : Int64) (z : Int32) : Fr S (f_X7_stepped S a x z) := by
  have key : ∀ t d, Fr S (f_X7_stepped_J66 S a t d) := fun t d => by
    unfold f_X7_stepped_J66
    have h := fr_further S a d
    generalize f_X7_further S a d = T at h ⊢
    repeat' split
    all_goals exact fr_tr h (fr_there _ _)
  unfold f_X7_stepped f_X7_stepped_J16 f_X7_stepped_J21 f_X7_stepped_J40
  repeat' split
  all_goals exact key _ _
theorem v_sub {x : Nat} (hx : x < 2 ^ 62) : (lN x - 2305843009213693951).toInt = (x : Int) - 2305843009213693951 := by
  rw [Int64.toInt_sub, pk_lT (by omega), show (2305843009213693951 : Int64).toInt = 2305843009213693951 from rfl, Int.bmod_eq_of_le (by omega) (by omega)]
theorem v_neg {x : Nat} (hx : x < 2 ^ 62) : (-lN x).toInt = -(x : Int) := by
  rw [Int64.toInt_neg, pk_lT (by omega), Int.bmod_eq_of_le (by omega) (by omega)]
theorem r_step0 {S : NS} {a : Int32} (h : Vok (sg S a) (vl S a)) (hk : ¬ sg S a = 0) {x : Nat} (hx : x < PP) : f_X4_further (enc (sg S a) (vl S a)) (lN x) = res (f_X7_stepped S a (lN x) 0) ∧ Gd (f_X7_stepped S a (lN x) 0) := by
  have h3 := hPP
  unfold f_X4_further f_X7_stepped f_X7_stepped_J16 f_X7_stepped_J21 f_X7_stepped_J40
  rw [show (1000 : Int64) = lN 1000 from rfl, show (2305843009213692951 : Int64) = lN 2305843009213692951 from rfl]
  by_cases c1 : x ≤ 1000
  · rw [if_neg (fun z => by have := (pk_lLT (by decide) (by omega)).mp z; omega), if_pos ((pk_lLE (by omega) (by decide)).mpr c1), if_neg (fun z => by have := (pk_lLT (by decide) (by omega)).mp z; omega), if_neg (by decide), if_pos rfl]
    obtain ⟨e1, e2, -, -⟩ := r_further h hk (lN x)
    rw [e1, (r_st1 e2).1]
    exact ⟨rfl, (r_st1 e2).2⟩
  · have c1' : lN 1000 < lN x := (pk_lLT (by decide) (by omega)).mpr (by omega)
    rw [if_pos c1', if_neg (fun z => c1 ((pk_lLE (by omega) (by decide)).mp z))]
    by_cases c2 : x < 2305843009213692951
    · rw [if_pos ((pk_lLT (by omega) (by decide)).mpr c2), if_pos ((pk_lLT (by omega) (by decide)).mpr c2), if_pos c1', if_pos rfl, r_st0.1]
      exact ⟨rfl, r_st0.2⟩
    · rw [if_neg (fun z => c2 ((pk_lLT (by omega) (by decide)).mp z)), if_neg (fun z => c2 ((pk_lLT (by omega) (by decide)).mp z)), if_pos c1', if_neg (by decide), if_pos rfl]
      obtain ⟨e1, e2, -, -⟩ := r_further h hk (lN x - 2305843009213693951)
      rw [e1, (r_st1 e2).1]
      exact ⟨rfl, (r_st1 e2).2⟩
theorem r_step1 {S : NS} {a : Int32} (h : Vok (sg S a) (vl S a)) (hk : ¬ sg S a = 0) {x : Nat} (hx : x < PP) : f_X4_further (enc (sg S a) (vl S a)) (f_X0_difference 0 (lN x)) = res (f_X7_stepped S a (lN x) 1) ∧ Gd (f_X7_stepped S a (lN x) 1) := by
  have h3 := hPP
  rw [show (0 : Int64) = lN 0 from rfl, f_dif (by decide) hx, Nat.zero_add]
  have ed : (PP - x) % PP = if x = 0 then 0 else PP - x := by
    split
    · next z => subst z; decide
    · rw [Nat.mod_eq_of_lt]; omega
  rw [ed]
  unfold f_X4_further f_X7_stepped f_X7_stepped_J16 f_X7_stepped_J21 f_X7_stepped_J40
  rw [show (1000 : Int64) = lN 1000 from rfl, show (2305843009213692951 : Int64) = lN 2305843009213692951 from rfl]
  by_cases c1 : x ≤ 1000
  · rw [if_pos ((pk_lLE (by omega) (by decide)).mpr c1), if_neg (c := lN 1000 < lN x) (fun z => by have := (pk_lLT (by decide) (by omega)).mp z; omega), if_neg (show ¬ (1 : Int32) = 0 by decide), if_neg (show ¬ (1 : Int32) = 0 by decide)]
    obtain ⟨e1, e2, -, -⟩ := r_further h hk (-lN x)
    rw [(r_st1 e2).1, ← e1]
    refine ⟨?_, (r_st1 e2).2⟩
    by_cases z : x = 0
    · subst z
      rw [if_pos rfl, if_neg (by decide)]
      rfl
    · rw [if_neg z, if_pos ((pk_lLT (by decide) (by omega)).mpr (by omega)), if_neg (fun q => by have := (pk_lLT (by omega) (by decide)).mp q; omega)]
      congr 1
      apply Int64.toInt_inj.mp
      rw [v_sub (by omega), v_neg (by omega)]
      omega
  · have c1' : lN 1000 < lN x := (pk_lLT (by decide) (by omega)).mpr (by omega)
    rw [if_neg (c := lN x ≤ lN 1000) (fun z => c1 ((pk_lLE (by omega) (by decide)).mp z)), if_neg (show ¬ x = 0 by omega)]
    by_cases c2 : x < 2305843009213692951
    · rw [if_pos (c := lN x < lN 2305843009213692951) ((pk_lLT (by omega) (by decide)).mpr c2), if_pos c1', if_pos (show (0 : Int32) = 0 from rfl), r_st0.1, if_pos ((pk_lLT (by decide) (by omega)).mpr (by omega)), if_pos ((pk_lLT (by omega) (by decide)).mpr (by omega))]
      exact ⟨rfl, r_st0.2⟩
    · rw [if_neg (c := lN x < lN 2305843009213692951) (fun z => c2 ((pk_lLT (by omega) (by decide)).mp z)), if_pos c1', if_neg (show ¬ (1 : Int32) = 0 by decide), if_neg (show ¬ (1 : Int32) = 0 by decide), if_neg (c := lN 1000 < lN (PP - x)) (fun z => by have := (pk_lLT (by decide) (by omega)).mp z; omega)]
      obtain ⟨e1, e2, -, -⟩ := r_further h hk (-(lN x - 2305843009213693951))
      rw [(r_st1 e2).1, ← e1]
      refine ⟨?_, (r_st1 e2).2⟩
      congr 1
      apply Int64.toInt_inj.mp
      rw [pk_lT (by omega), Int64.toInt_neg, v_sub (by omega), Int.bmod_eq_of_le (by omega) (by omega)]
      omega
theorem r_give {S : NS} {x : Int64} (h : inF x) : res (f_X7_give S 0 x) = x ∧ Gd (f_X7_give S 0 x) := by
  unfold f_X7_give
  exact ⟨by unfold res enc; rfl, Or.inr ⟨rfl, Or.inl ⟨rfl, h⟩⟩⟩
theorem fr_give (S : NS) (k : Int32) (x : Int64) : Fr S (f_X7_give S k x) := ⟨_, _, _, rfl⟩
theorem v_num {k : Int32} {n : Int64} (h : Vok k n) (hk : k = 0) : inF n ∧ enc k n = n := by
  rcases h with ⟨-, h⟩ | ⟨j, c, h1, h2, h3, rfl, -⟩
  · exact ⟨h, if_pos hk⟩
  · exact absurd hk (nI_ne0 (by omega) (by omega))
theorem r_plus {S : NS} {a b : Int32} (ha : Vok (sg S a) (vl S a)) (hb : Vok (sg S b) (vl S b)) : f_X4_plus (enc (sg S a) (vl S a)) (enc (sg S b) (vl S b)) = res (f_X7_plus S a b) ∧ Gd (f_X7_plus S a b) := by
  unfold f_X4_plus f_X4_plus_J20 f_X4_plus_J40 f_X7_plus f_X7_plus_J42 f_X7_plus_J68
  by_cases ka : sg S a = 0
  · by_cases kb : sg S b = 0
    · rw [if_neg (fun z => (v_isN ha).mp z ka), if_neg (fun z => (v_isN hb).mp z kb), if_pos ka, if_pos kb, (v_num ha ka).2, (v_num hb kb).2]
      have e := e_sum (v_num ha ka).1 (v_num hb kb).1
      rw [e.1, (r_give e.2).1]
      exact ⟨rfl, (r_give e.2).2⟩
    · obtain ⟨x, hx, ex⟩ := (v_num ha ka).1
      rw [if_neg (fun z => (v_isN ha).mp z ka), if_pos ((v_isN hb).mpr kb), if_pos ((v_isA ha).mpr ka), if_neg (fun z => (v_isN ha).mp z ka), if_neg (fun z => kb ((v_isA hb).mp z)), if_pos ka, if_neg kb, if_pos ka, if_pos ka, (v_num ha ka).2]
      rw [ex, show pN_value S a.toNatClampNeg = lN x from ex]
      exact r_step0 hb kb hx
  · rw [if_pos ((v_isN ha).mpr ka), if_neg (fun z => ka ((v_isA ha).mp z)), if_pos ((v_isN ha).mpr ka), if_neg ka, if_neg ka]
    by_cases kb : sg S b = 0
    · obtain ⟨x, hx, ex⟩ := (v_num hb kb).1
      rw [if_neg (fun z => (v_isN hb).mp z kb), if_pos kb, if_neg ka, (v_num hb kb).2, ex, show pN_value S b.toNatClampNeg = lN x from ex]
      exact r_step0 ha ka hx
    · rw [if_pos ((v_isN hb).mpr kb), if_neg kb]
      exact ⟨rfl, Or.inl rfl⟩
theorem fr_plus (S : NS) (a b : Int32) : Fr S (f_X7_plus S a b) := by
  unfold f_X7_plus f_X7_plus_J42 f_X7_plus_J68
  repeat' split
  all_goals first | exact fr_give _ _ _ | exact fr_stepped _ _ _ _ | exact fr_there _ _
theorem fr_minus (S : NS) (a b : Int32) : Fr S (f_X7_minus S a b) := by
  unfold f_X7_minus
  repeat' split
  all_goals first | exact fr_give _ _ _ | exact fr_stepped _ _ _ _ | exact fr_there _ _
theorem fr_times (S : NS) (a b z : Int32) : Fr S (f_X7_times S a b z) := by
  unfold f_X7_times f_X7_times_J34 f_X7_times_J38 f_X7_times_J39 f_X7_times_J60
  repeat' split
  all_goals first | exact fr_there _ _ | exact fr_tr (fr_there _ _) (fr_give _ _ _)
theorem r_minus {S : NS} {a b : Int32} (ha : Vok (sg S a) (vl S a)) (hb : Vok (sg S b) (vl S b)) : f_X4_minus (enc (sg S a) (vl S a)) (enc (sg S b) (vl S b)) = res (f_X7_minus S a b) ∧ Gd (f_X7_minus S a b) := by
  unfold f_X4_minus f_X4_minus_J20 f_X4_minus_J44 f_X7_minus
  by_cases ka : sg S a = 0
  · by_cases kb : sg S b = 0
    · rw [if_neg (fun z => (v_isN ha).mp z ka), if_neg (fun z => (v_isN hb).mp z kb), if_pos (ka.trans kb.symm), (v_num ha ka).2, (v_num hb kb).2]
      have e := e_dif (v_num ha ka).1 (v_num hb kb).1
      rw [e.1, (r_give e.2).1]
      exact ⟨rfl, (r_give e.2).2⟩
    · rw [if_neg (fun z => (v_isN ha).mp z ka), if_pos ((v_isN hb).mpr kb), if_pos ((v_isA ha).mpr ka), if_pos ((v_isA ha).mpr ka), if_neg (fun z => kb (z.symm.trans ka)), if_neg kb]
      exact ⟨rfl, Or.inl rfl⟩
  · rw [if_pos ((v_isN ha).mpr ka), if_neg (fun z => ka ((v_isA ha).mp z)), if_neg (fun z => ka ((v_isA ha).mp z))]
    by_cases kb : sg S b = 0
    · obtain ⟨x, hx, ex⟩ := (v_num hb kb).1
      rw [if_neg (fun z => (v_isN hb).mp z kb), if_neg (fun z => ka (z.trans kb)), if_pos kb, (v_num hb kb).2, ex, show pN_value S b.toNatClampNeg = lN x from ex]
      exact r_step1 ha ka hx
    · rw [if_pos ((v_isN hb).mpr kb), if_neg (fun z => kb ((v_isA hb).mp z)), v_seg ha ka, v_seg hb kb]
      by_cases kk : sg S a = sg S b
      · rw [if_pos kk, if_pos kk, e_mod]
        have e : f_X7_operate 1 (vl S a) (vl S b) = f_X7_modulo (vl S a - vl S b) := by
          unfold f_X7_operate
          rw [if_neg (by decide), if_pos rfl]
        have e2 : (f_X4_cellOf (enc (sg S a) (vl S a)) - f_X4_cellOf (enc (sg S b) (vl S b))).toInt64 = vl S a - vl S b := by
          rcases v_of ha with ⟨z, -⟩ | ⟨j, c, h1, h2, h3, -, f1, e1⟩
          · exact absurd z ka
          · rcases v_of hb with ⟨z, -⟩ | ⟨j', c', h1', h2', h3', -, f2, e2⟩
            · exact absurd z kb
            · rw [e1, e2, v_aC h2 h3, v_aC h2' h3', f1, f2]
              apply Int64.toInt_inj.mp
              rw [Int32.toInt_toInt64, Int32.toInt_sub, Int64.toInt_sub, v_cI h3, v_cI h3', v_cL h3, v_cL h3', Int.bmod_eq_of_le (by omega) (by omega), Int.bmod_eq_of_le (by omega) (by omega)]
        rw [e2]
        show _ = res (f_X7_give S 0 (f_X7_operate 1 (vl S a) (vl S b))) ∧ Gd (f_X7_give S 0 (f_X7_operate 1 (vl S a) (vl S b)))
        rw [e, (r_give (f_modF _)).1]
        exact ⟨rfl, (r_give (f_modF _)).2⟩
      · rw [if_neg kk, if_neg kk, if_neg kb]
        exact ⟨rfl, Or.inl rfl⟩
theorem r_tno {S : NS} {a b z : Int32} : res (f_X7_times_J38 S a b z) = -1 ∧ Gd (f_X7_times_J38 S a b z) := by
  unfold f_X7_times_J38 f_X7_times_J39
  rw [if_pos rfl]
  exact ⟨rfl, Or.inl rfl⟩
theorem r_times {S : NS} {a b : Int32} (ha : Vok (sg S a) (vl S a)) (hb : Vok (sg S b) (vl S b)) : f_X4_times (enc (sg S a) (vl S a)) (enc (sg S b) (vl S b)) = res (f_X7_times S a b 0) ∧ Gd (f_X7_times S a b 0) := by
  unfold f_X4_times f_X7_times
  by_cases ka : sg S a = 0
  · by_cases kb : sg S b = 0
    · rw [if_neg (fun z => (v_isN ha).mp z ka), if_neg (fun z => (v_isN hb).mp z kb), if_pos ka, if_pos kb, if_pos rfl, (v_num ha ka).2, (v_num hb kb).2]
      have e := e_mul (v_num ha ka).1 (v_num hb kb).1
      unfold f_X7_times_J34 f_X7_times_J39 f_X7_times_J60
      rw [if_neg (show ¬ pN_there (sN_there S 1) = 0 by show ¬ (1 : Int32) = 0; decide), if_pos rfl, e.1]
      show _ = res (f_X7_give (sN_there S 1) 0 (f_X7_operate 2 (vl S a) (vl S b))) ∧ Gd (f_X7_give (sN_there S 1) 0 (f_X7_operate 2 (vl S a) (vl S b)))
      rw [(r_give e.2).1]
      exact ⟨rfl, (r_give e.2).2⟩
    · rw [if_neg (fun z => (v_isN ha).mp z ka), if_pos ((v_isN hb).mpr kb), if_pos ka, if_neg kb, r_tno.1]
      exact ⟨rfl, r_tno.2⟩
  · rw [if_pos ((v_isN ha).mpr ka), if_neg ka, r_tno.1]
    exact ⟨rfl, r_tno.2⟩
theorem r_over {S : NS} {a b : Int32} (ha : Vok (sg S a) (vl S a)) (hb : Vok (sg S b) (vl S b)) : f_X4_over (enc (sg S a) (vl S a)) (enc (sg S b) (vl S b)) = res (f_X7_times S a b 1) ∧ Gd (f_X7_times S a b 1) := by
  unfold f_X4_over f_X7_times
  by_cases ka : sg S a = 0
  · by_cases kb : sg S b = 0
    · rw [if_neg (fun z => (v_isN ha).mp z ka), if_neg (fun z => (v_isN hb).mp z kb), if_pos ka, if_pos kb, if_neg (show ¬ (1 : Int32) = 0 by decide), (v_num ha ka).2, (v_num hb kb).2]
      by_cases z : vl S b = 0
      · rw [if_pos z, if_pos z, r_tno.1]
        exact ⟨rfl, r_tno.2⟩
      · rw [if_neg z, if_neg z]
        have e := e_quo (v_num ha ka).1 (v_num hb kb).1 z
        unfold f_X7_times_J34 f_X7_times_J39 f_X7_times_J60
        rw [if_neg (show ¬ pN_there (sN_there S 1) = 0 by show ¬ (1 : Int32) = 0; decide), if_neg (show ¬ (1 : Int32) = 0 by decide), e.1]
        show _ = res (f_X7_give (sN_there S 1) 0 (f_X7_operate 3 (vl S a) (vl S b))) ∧ Gd (f_X7_give (sN_there S 1) 0 (f_X7_operate 3 (vl S a) (vl S b)))
        rw [(r_give e.2).1]
        exact ⟨rfl, (r_give e.2).2⟩
    · rw [if_neg (fun z => (v_isN ha).mp z ka), if_pos ((v_isN hb).mpr kb), if_pos ka, if_neg kb, r_tno.1]
      exact ⟨rfl, r_tno.2⟩
  · rw [if_pos ((v_isN ha).mpr ka), if_neg ka, r_tno.1]
    exact ⟨rfl, r_tno.2⟩
