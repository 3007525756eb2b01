/-! lengths, beginnings, moved values -/
theorem i_pred (c : Nat) : nI (c + 1) - 1 = nI c ∧ nI (c + 1) + (-1) = nI c := by
  have h : nI (c + 1) - 1 = nI c := by rw [show (1 : Int32) = nI 1 from rfl, pk_sub (by omega)]; rfl
  exact ⟨h, by rw [← h, Int32.sub_eq_add_neg]⟩
theorem ln_L3 {M : Nat → Int64} {N : NS} (h : MR M N) {j : Nat} (j1 : 1 ≤ j) (j2 : j ≤ 5) : ∀ (c fu : Nat), c ≤ 64 → c < fu → f_X1_lengthOf_L3 M (nI j) fu (nI c) = nI (lnS N j c)
  | _, 0, _, hf => absurd hf (Nat.not_lt_zero _)
  | 0, fu + 1, _, _ => by rw [f_X1_lengthOf_L3, if_pos (show nI 0 ≤ 0 by decide), lnS]
  | c + 1, fu + 1, hc, hf => by
    rw [f_X1_lengthOf_L3, if_neg (nI_nle (by omega) (by omega)), (i_pred c).1, (i_pred c).2, x_look j1 j2 (by omega), lnS]
    have hC := h.1 j c j1 j2 (by omega)
    by_cases u : iS N (64 * j + c) = 0
    · rw [if_pos ((cel_un hC).mp u), if_pos (show pN_isSet N (64 * j + c) = 0 from u)]
      exact ln_L3 h j1 j2 c fu (by omega) (by omega)
    · rw [if_neg (fun z => u ((cel_un hC).mpr z)), if_neg (show ¬ pN_isSet N (64 * j + c) = 0 from u)]
theorem ln_eq {M : Nat → Int64} {N : NS} (h : MR M N) {j : Nat} (j1 : 1 ≤ j) (j2 : j ≤ 5) : f_X1_lengthOf M (nI j) = nI (lnS N j 64) := ln_L3 h j1 j2 64 65 (by decide) (by decide)
theorem be_L4 {M : Nat → Int64} {N : NS} (h : MR M N) {t : Nat} (ht : t ≤ 6) : ∀ (fu j : Nat), 1 ≤ j → j ≤ t → t - j < fu → f_X1_beginningOf_L4 M (nI t) fu (nI (boS N j)) (nI j) = nI (boS N t)
  | 0, _, _, _, h => absurd h (Nat.not_lt_zero _)
  | fu + 1, j, h1, h2, hf => by
    rw [f_X1_beginningOf_L4]
    rcases Nat.lt_or_ge j t with g | g
    · rw [if_neg (nI_ge g (by omega)), if_neg (show ¬ (5 : Int32) < nI j from nI_nlt (a := 5) (by omega) (by decide)), ln_eq h h1 (by omega), nI_add, ← boS_s N h1, nI_1]
      exact be_L4 h ht fu (j + 1) (by omega) g (by omega)
    · have : j = t := by omega
      subst this
      rw [if_pos (nI_le (Nat.le_refl _) (by omega))]
theorem be_eq {M : Nat → Int64} {N : NS} (h : MR M N) {t : Nat} (h1 : 1 ≤ t) (ht : t ≤ 6) : f_X1_beginningOf M (nI t) = nI (boS N t) := by
  unfold f_X1_beginningOf
  exact be_L4 h ht 7 1 (by decide) h1 (by omega)
theorem mv_eq {M : Nat → Int64} {N : NS} (h : MR M N) {k : Int32} {x : Int64} (hv : Vok k x) : f_X1_relocate M (enc k x) = f_X7_moved N k x := by
  unfold f_X1_relocate f_X7_moved
  by_cases k0 : k = 0
  · rw [if_pos ((v_isA hv).mpr k0), if_pos k0]; exact (v_num hv k0).2
  · rw [if_neg (fun z => k0 ((v_isA hv).mp z)), if_neg k0, v_seg hv k0, e_mod]
    obtain ⟨c1, c2⟩ := v_cel hv k0
    rcases hv with ⟨z, -⟩ | ⟨j, c, j1, j2, hc, rfl, rfl⟩
    · exact absurd z k0
    · rw [be_eq h j1 (by omega), bo_eq N j1 (by omega), c1, v_c32 hc]
      have hb := boS_le N j
      congr 1
      apply Int64.toInt_inj.mp
      rw [Int32.toInt_toInt64, Int32.toInt_add, v_cI hc, nI_toInt (by omega), Int.bmod_eq_of_le (by omega) (by omega), Int64.toInt_add, v_cL hc, nI_l (by omega), pk_lT (by omega), Int.bmod_eq_of_le (by omega) (by omega)]
theorem E_begins {S : XS} {N : NS} (h : RX S N) (a : Int32) : Eq2 (fun k => k) (f_X6_begins S a) (f_X7_begins N a) ∧ ((f_X6_begins S a).1 = 0 ∨ (f_X6_begins S a).1 = 1) := by
  unfold f_X6_begins f_X7_begins
  by_cases ha : f_X7_out a 1 6 = 0
  · have h1 := out_iff.mp ha
    rw [show (1 : Int32).toInt = 1 from rfl, show (6 : Int32).toInt = 6 from rfl] at h1
    rw [if_neg (fun z => by have := lt_iff.mp z; rw [show (1 : Int32).toInt = 1 from rfl] at this; omega), if_pos (le_iff.mpr h1.2), ha, thr0, if_pos rfl]
    obtain ⟨i, hi, rfl⟩ := vp_in_of (x := a) (n := 7) (vp_in_iff.mpr ⟨by omega, by omega⟩) (by decide)
    rw [nI_toInt (by omega)] at h1
    have m : MR (pP_mem (pX_p S)) (sN_thrown N 0) := h.1.1
    exact ⟨⟨rfl, fun _ => (be_eq m (by omega) (by omega)).trans (bo_eq _ (by omega) (by omega)).symm, rx_th h 0⟩, Or.inl rfl⟩
  · rw [thr1 N ha, if_neg (show ¬ (1 : Int32) = 0 by decide)]
    have h1 : ¬ ((1 : Int32).toInt ≤ a.toInt ∧ a.toInt ≤ (6 : Int32).toInt) := fun z => ha (out_iff.mpr z)
    by_cases z : a < 1
    · rw [if_pos z]; exact ⟨⟨rfl, fun z => absurd (show (1 : Int32) = 0 from z) (by decide), rx_th h 1⟩, Or.inr rfl⟩
    · rw [if_neg z, if_neg (fun y => h1 ⟨q_nlt z, le_iff.mp y⟩)]; exact ⟨⟨rfl, fun z => absurd (show (1 : Int32) = 0 from z) (by decide), rx_th h 1⟩, Or.inr rfl⟩
theorem E_traced {S : XS} {N : NS} (h : RX S N) (a b : Int32) : Eq2 cd3 (f_X6_traced S a b) (f_X7_traced N a b) ∧ ((f_X6_traced S a b).1 = 0 ∨ (f_X6_traced S a b).1 = 1 ∨ (f_X6_traced S a b).1 = 3) := by
  obtain ⟨r1, r2⟩ := reg_iff (a := b)
  obtain ⟨k, k0, k1, k2, k3⟩ := h.2.2.1
  unfold f_X6_traced f_X7_traced
  rw [k1, k2]
  by_cases hb : f_X7_out b 0 2 = 0
  · rw [if_pos (r1.mpr hb), hb]
    have hi : f_X7_out a 0 (nI k - 1) = 0 ↔ 0 ≤ a.toInt ∧ a.toInt < k := by
      rw [out_iff, show (0 : Int32).toInt = 0 from rfl, show (1 : Int32) = nI 1 from rfl, pk_sub_toInt (by omega) (by decide)]
      constructor
      · rintro ⟨x, y⟩; exact ⟨x, by omega⟩
      · rintro ⟨x, y⟩; exact ⟨x, by omega⟩
    by_cases ha : f_X7_out a 0 (nI k - 1) = 0
    · obtain ⟨g1, g2⟩ := hi.mp ha
      obtain ⟨i, hi2, rfl⟩ := vp_in_of (x := a) (n := 64) (vp_in_iff.mpr ⟨g1, by omega⟩) (by decide)
      have h1 := out_iff.mp hb
      rw [show (0 : Int32).toInt = 0 from rfl, show (2 : Int32).toInt = 2 from rfl] at h1
      obtain ⟨r, hr, rfl⟩ := vp_in_of (x := b) (n := 3) (vp_in_iff.mpr ⟨by omega, by omega⟩) (by decide)
      rw [nI_toInt (by omega)] at g2
      obtain ⟨q1, q2⟩ := k3 i r (by omega) hr
      have eA : f_X3_at (pX_t S) (nI i) (nI r) = pT_row (pX_t S) (3 * i + r) := by
        unfold f_X3_at
        rw [if_neg (nI_pos (by omega)), k1, if_neg (nI_ge (by omega) (by omega)), if_neg (nI_pos (by omega)), if_pos (show nI r < 3 from nI_lt (b := 3) hr (by decide)), show (3 : Int32) = nI 3 from rfl, pk_mul, nI_add, x_cl (by omega), Nat.mul_comm i 3]
      have eI : (3 * nI i + nI r).toNatClampNeg = 3 * i + r := it_k hi2 r hr
      have m : MR (pP_mem (pX_p S)) (sN_thrown N 0) := h.1.1
      rw [if_neg (nI_pos (by omega)), if_pos (nI_lt (by omega) (by omega)), ha, thr0, if_pos rfl, eA, eI, q1]
      exact ⟨⟨rfl, fun _ => mv_eq m q2, rx_th h 0⟩, Or.inl rfl⟩
    · rw [thr2 N ha, if_neg (show ¬ (1 : Int32) = 0 by decide)]
      have no : Eq2 cd3 (3, 0, S) ((0 : Int64), sN_thrown N 2) ∧ ((3 : Int32) = 0 ∨ (3 : Int32) = 1 ∨ (3 : Int32) = 3) := ⟨⟨rfl, fun z => absurd (show (3 : Int32) = 0 from z) (by decide), rx_th h 2⟩, Or.inr (Or.inr rfl)⟩
      by_cases z : a < 0
      · rw [if_pos z]; exact no
      · have z1 := q_nlt z
        rw [show (0 : Int32).toInt = 0 from rfl] at z1
        rw [if_neg z, if_neg (fun y => ha (hi.mpr ⟨z1, by have := lt_iff.mp y; rw [nI_toInt (by omega)] at this; exact this⟩))]; exact no
  · rw [if_neg (fun z => hb (r1.mp z)), thr1 N hb, if_neg (show ¬ (1 : Int32) = 0 by decide)]
    rcases r2 with z | z
    · exact absurd (r1.mp z) hb
    · rw [z]; exact ⟨⟨rfl, fun y => absurd (show (1 : Int32) = 0 from y) (by decide), rx_th h 1⟩, Or.inr (Or.inl rfl)⟩
/-! relocated: the class takes the largest segment that begins at or before, the model the smallest whose next begins behind -/
def cdA (k : Int32) : Int32 := if k = 3 then 1 else k
theorem boS_mono (N : NS) {i : Nat} (h1 : 1 ≤ i) : ∀ d, boS N i ≤ boS N (i + d)
  | 0 => Nat.le_refl _
  | d + 1 => by
    have := boS_mono N h1 d
    rw [← Nat.add_assoc, boS_s N (by omega)]
    omega
theorem rl_C {M : Nat → Int64} {N : NS} (h : MR M N) {q : Nat} (hq : q < 1000) {s : Nat} (s1 : 1 ≤ s) (s2 : boS N s ≤ q) : ∀ (fu t : Nat), s ≤ t → t ≤ 5 → t - s < fu → (∀ u, s < u → u ≤ 5 → q < boS N u) → f_X1_relocatedAt_L2 M (nI q) fu (nI t) = f_X1_relocatedAt_J22 M (nI q) (nI s)
  | 0, _, _, _, hf, _ => absurd hf (Nat.not_lt_zero _)
  | fu + 1, t, t1, t2, hf, hu => by
    rw [f_X1_relocatedAt_L2]
    have hb := boS_le N t
    rcases Nat.lt_or_ge s t with g | g
    · have hlt := hu t g t2
      rw [if_neg (show ¬ nI t ≤ 1 from nI_ge (b := t) (a := 1) (by omega) (by omega)), be_eq h (by omega) (by omega), if_neg (nI_ge hlt (by omega))]
      obtain ⟨d, rfl⟩ : ∃ d, t = d + 1 := ⟨t - 1, by omega⟩
      rw [(i_pred d).2]
      exact rl_C h hq s1 s2 fu d (by omega) (by omega) (by omega) hu
    · have : s = t := by omega
      subst this
      rw [be_eq h s1 (by omega), if_pos (nI_le s2 (by omega)), ite_self]
theorem rl_M {N X : NS} {q b6 : Nat} (hq : q < 1000) {s : Nat} (s1 : 1 ≤ s) (s5 : s ≤ 5) (s3 : q < boS X (s + 1)) (e : (f_X7_throwing N (f_X7_out (nI q) 1 (f_X7_beginOf N 6 - 1)) 0).2 = X) : ∀ (fu t : Nat), 1 ≤ t → t ≤ s → s - t < fu → (∀ u, 1 ≤ u → u ≤ s → boS X u ≤ q) → f_X7_relocated_L25 N (nI q) fu (nI t) = if pN_isSet X (64 * s + (q - boS X s)) = 0 then (0, X) else (f_X7_moved X (pN_kind X (64 * s + (q - boS X s))) (pN_number X (64 * s + (q - boS X s))), X)
  | 0, _, _, _, hf, _ => absurd hf (Nat.not_lt_zero _)
  | fu + 1, t, t1, t2, hf, hu => by
    have hb := boS_le X (t + 1)
    have hs := hu s s1 (Nat.le_refl _)
    rw [f_X7_relocated_L25, e, nI_1, bo_eq X (by omega) (by omega)]
    rcases Nat.lt_or_ge t s with g | g
    · rw [if_neg (nI_nlt (hu (t + 1) (by omega) (by omega)) (by omega))]
      exact rl_M (b6 := b6) hq s1 s5 s3 e fu (t + 1) (by omega) (by omega) (by omega) hu
    · have : t = s := by omega
      subst this
      rw [if_pos (nI_lt s3 (by omega)), bo_eq X s1 (by omega), show (64 : Int32) * nI t + nI q = nI (64 * t + q) by rw [show (64 : Int32) = nI 64 from rfl, pk_mul, nI_add], pk_sub (by omega), x_cl (by omega), show 64 * t + q - boS X t = 64 * t + (q - boS X t) by omega]
theorem rl_pick (N : NS) {q : Nat} (h1 : 1 ≤ q) (h6 : q < boS N 6) : ∃ s, 1 ≤ s ∧ s ≤ 5 ∧ boS N s ≤ q ∧ q < boS N (s + 1) ∧ (∀ u, s < u → u ≤ 5 → q < boS N u) ∧ (∀ u, 1 ≤ u → u ≤ s → boS N u ≤ q) := by
  have go : ∀ d s, s + d = 5 → 1 ≤ s → boS N s ≤ q → (∀ u, 1 ≤ u → u ≤ s → boS N u ≤ q) → ∃ s, 1 ≤ s ∧ s ≤ 5 ∧ boS N s ≤ q ∧ q < boS N (s + 1) ∧ (∀ u, s < u → u ≤ 5 → q < boS N u) ∧ (∀ u, 1 ≤ u → u ≤ s → boS N u ≤ q) := by
    intro d
    induction d with
    | zero =>
      intro s e s1 hs hu
      have : s = 5 := by omega
      subst this
      exact ⟨5, by decide, by decide, hs, h6, fun u x y => by omega, hu⟩
    | succ d ih =>
      intro s e s1 hs hu
      rcases Nat.lt_or_ge q (boS N (s + 1)) with g | g
      · refine ⟨s, s1, by omega, hs, g, fun u x y => ?_, hu⟩
        obtain ⟨w, rfl⟩ : ∃ w, u = s + 1 + w := ⟨u - (s + 1), by omega⟩
        have := boS_mono N (i := s + 1) (by omega) w
        omega
      · refine ih (s + 1) (by omega) (by omega) g (fun u x y => ?_)
        rcases Nat.lt_or_ge u (s + 1) with z | z
        · exact hu u x (by omega)
        · have : u = s + 1 := by omega
          subst this; exact g
  refine go 4 1 rfl (by decide) (by rw [boS_1]; exact h1) (fun u x y => ?_)
  have : u = 1 := by omega
  subst this; rw [boS_1]; exact h1
theorem boS_6 (N : NS) : 1 ≤ boS N 6 ∧ boS N 6 ≤ 400 := by
  have h := boS_mono N (i := 1) (by decide) 5
  have h2 := boS_le N 6
  rw [boS_1] at h
  exact ⟨h, by omega⟩
theorem E_relocated {S : XS} {N : NS} (h : RX S N) (a : Int32) : Eq2 cdA (f_X6_relocated S a) (f_X7_relocated N a) ∧ ((f_X6_relocated S a).1 = 0 ∨ (f_X6_relocated S a).1 = 3) := by
  obtain ⟨b1, b2⟩ := boS_6 N
  have m : MR (pP_mem (pX_p S)) N := h.1.1
  have m0 : MR (pP_mem (pX_p S)) (sN_thrown N 0) := h.1.1
  have hi : f_X7_out a 1 (f_X7_beginOf N 6 - 1) = 0 ↔ 1 ≤ a.toInt ∧ a.toInt < boS N 6 := by
    rw [out_iff, show (6 : Int32) = nI 6 from rfl, bo_eq N (by decide) (by decide), show (1 : Int32) = nI 1 from rfl, pk_sub_toInt (by omega) (by decide), nI_toInt (by decide)]
    constructor
    · rintro ⟨x, y⟩; exact ⟨x, by omega⟩
    · rintro ⟨x, y⟩; exact ⟨x, by omega⟩
  unfold f_X6_relocated f_X7_relocated
  by_cases ha : f_X7_out a 1 (f_X7_beginOf N 6 - 1) = 0
  · obtain ⟨g1, g2⟩ := hi.mp ha
    obtain ⟨q, hq, rfl⟩ := vp_in_of (x := a) (n := 1000) (vp_in_iff.mpr ⟨by omega, by omega⟩) (by decide)
    rw [nI_toInt (by omega)] at g1 g2
    have et : f_X7_throwing N (f_X7_out (nI q) 1 (f_X7_beginOf N 6 - 1)) 0 = (0, sN_thrown N 0) := by rw [ha, thr0]
    have e2 : (f_X7_throwing N (f_X7_out (nI q) 1 (f_X7_beginOf N 6 - 1)) 0).2 = sN_thrown N 0 := by rw [et]
    have e1 : (f_X7_throwing N (f_X7_out (nI q) 1 (f_X7_beginOf N 6 - 1)) 0).1 = 0 := by rw [et]
    rw [if_neg (show ¬ nI q < 1 from nI_nlt (b := 1) (by omega) (by omega)), show (6 : Int32) = nI 6 from rfl, be_eq m (by decide) (by decide), if_pos (nI_lt (by omega) (by omega)), show nI 6 = (6 : Int32) from rfl, if_pos e1]
    refine ⟨?_, Or.inl rfl⟩
    have eb : boS (sN_thrown N 0) 6 = boS N 6 := rfl
    obtain ⟨s, s1, s5, p1, p2, p3, p4⟩ := rl_pick (sN_thrown N 0) (q := q) (by omega) (by rw [eb]; omega)
    have r1 := rl_C m0 hq s1 p1 6 5 s5 (by decide) (by omega) p3
    have r2 := rl_M (b6 := 0) hq s1 s5 p2 e2 7 1 (by decide) s1 (by omega) p4
    have hl := lnS_le (sN_thrown N 0) s 64
    rw [boS_s _ s1] at p2
    have hc : q - boS (sN_thrown N 0) s < 64 := by omega
    have hbl := boS_le (sN_thrown N 0) s
    have hC := m0.1 s (q - boS (sN_thrown N 0) s) s1 s5 hc
    refine ⟨?_, ?_, ?_⟩
    · rw [show f_X7_relocated_L25 N (nI q) 7 1 = _ from r2]
      split <;> rfl
    · intro _
      rw [show f_X7_relocated_L25 N (nI q) 7 1 = _ from r2]
      show f_X1_relocatedAt (pP_mem (pX_p S)) (nI q) = _
      unfold f_X1_relocatedAt
      rw [show f_X1_relocatedAt_L2 (pP_mem (pX_p S)) (nI q) 6 5 = _ from r1]
      unfold f_X1_relocatedAt_J22
      rw [be_eq m0 s1 (by omega), pk_sub p1, x_look s1 s5 hc]
      by_cases u : iS (sN_thrown N 0) (64 * s + (q - boS (sN_thrown N 0) s)) = 0
      · rw [if_pos ((cel_un hC).mp u), if_pos (show pN_isSet (sN_thrown N 0) (64 * s + (q - boS (sN_thrown N 0) s)) = 0 from u)]
      · obtain ⟨-, d2, d3⟩ := cel_set hC u
        rw [if_neg (fun z => u ((cel_un hC).mpr z)), if_neg (show ¬ pN_isSet (sN_thrown N 0) (64 * s + (q - boS (sN_thrown N 0) s)) = 0 from u), d2]
        exact mv_eq m0 d3
    · rw [show f_X7_relocated_L25 N (nI q) 7 1 = _ from r2]
      split <;> exact rx_th h 0
  · have et : f_X7_throwing N (f_X7_out a 1 (f_X7_beginOf N 6 - 1)) 0 = (1, sN_thrown N 1) := thr1 N ha 0
    rw [et, if_neg (show ¬ (1 : Int32) = 0 by decide)]
    have no : Eq2 cdA (3, 0, S) ((0 : Int64), sN_thrown N 1) ∧ ((3 : Int32) = 0 ∨ (3 : Int32) = 3) := ⟨⟨rfl, fun z => absurd (show (3 : Int32) = 0 from z) (by decide), rx_th h 1⟩, Or.inr rfl⟩
    by_cases z : a < 1
    · rw [if_pos z]; exact no
    · have z1 := q_nlt z
      rw [show (1 : Int32).toInt = 1 from rfl] at z1
      rw [if_neg z, show (6 : Int32) = nI 6 from rfl, be_eq m (by decide) (by decide), if_neg (fun y => ha (hi.mpr ⟨z1, by have := lt_iff.mp y; rw [nI_toInt (by omega)] at this; exact this⟩))]; exact no
/-! reckon -/
def cd4 (k : Int32) : Int32 := if k = 4 then 2 else k
theorem E_reckon {S : XS} {N : NS} (h : RX S N) (a : Int32) (x y : Int64) : Eq2 cd4 (f_X6_reckon S a x y) (f_X7_reckon N a x y) ∧ ((f_X6_reckon S a x y).1 = 0 ∨ (f_X6_reckon S a x y).1 = 1 ∨ (f_X6_reckon S a x y).1 = 4) := by
  have hx := f_modF x
  have hy := f_modF y
  have no : ∀ t, ¬ f_X7_out a 0 3 = 0 → Eq2 cd4 (1, 0, S) (f_X7_reckon_J31 N a x y t) ∧ ((1 : Int32) = 0 ∨ (1 : Int32) = 1 ∨ (1 : Int32) = 4) := by
    intro t ha
    unfold f_X7_reckon_J31
    rw [thr1 N ha, if_neg (show ¬ (1 : Int32) = 0 by decide)]
    exact ⟨⟨rfl, fun z => absurd (show (1 : Int32) = 0 from z) (by decide), rx_th h 1⟩, Or.inr (Or.inl rfl)⟩
  have no' : ¬ f_X7_out a 0 3 = 0 → Eq2 cd4 (1, 0, S) (f_X7_reckon N a x y) ∧ ((1 : Int32) = 0 ∨ (1 : Int32) = 1 ∨ (1 : Int32) = 4) := by
    intro ha
    unfold f_X7_reckon f_X7_reckon_J30
    repeat' split
    all_goals exact no _ ha
  have yes : f_X7_out a 0 3 = 0 → (a = 3 → ¬ f_X7_modulo y = 0) → Eq2 cd4 (f_X6_reckon_J54 S a x y) (f_X7_reckon_J31 N a x y 0) ∧ ((f_X6_reckon_J54 S a x y).1 = 0 ∨ (f_X6_reckon_J54 S a x y).1 = 1 ∨ (f_X6_reckon_J54 S a x y).1 = 4) := by
    intro ha hz
    unfold f_X6_reckon_J54 f_X7_reckon_J31
    rw [ha, thr0, if_pos rfl, e_mod, e_mod]
    have h1 := out_iff.mp ha
    rw [show (0 : Int32).toInt = 0 from rfl, show (3 : Int32).toInt = 3 from rfl] at h1
    obtain ⟨i, hi, rfl⟩ := vp_in_of (x := a) (n := 4) (vp_in_iff.mpr ⟨by omega, by omega⟩) (by decide)
    rcases (by omega : i = 0 ∨ i = 1 ∨ i = 2 ∨ i = 3) with rfl | rfl | rfl | rfl
    · rw [if_pos (show nI 0 = 0 from rfl)]
      exact ⟨⟨rfl, fun _ => (e_sum hx hy).1, rx_th h 0⟩, Or.inl rfl⟩
    · rw [if_neg (show ¬ nI 1 = 0 by decide), if_pos (show nI 1 = 1 from rfl)]
      exact ⟨⟨rfl, fun _ => (e_dif hx hy).1, rx_th h 0⟩, Or.inl rfl⟩
    · rw [if_neg (show ¬ nI 2 = 0 by decide), if_neg (show ¬ nI 2 = 1 by decide), if_pos (show nI 2 = 2 from rfl)]
      exact ⟨⟨rfl, fun _ => (e_mul hx hy).1, rx_th h 0⟩, Or.inl rfl⟩
    · rw [if_neg (show ¬ nI 3 = 0 by decide), if_neg (show ¬ nI 3 = 1 by decide), if_neg (show ¬ nI 3 = 2 by decide)]
      have hz3 : ¬ f_X7_modulo y = 0 := hz (by decide)
      have hq := (e_quo hx hy hz3).1
      generalize f_X0_quotient (f_X7_modulo x) (f_X7_modulo y) = qq at hq ⊢
      have hq : qq = f_X7_operate (nI 3) (f_X7_modulo x) (f_X7_modulo y) := hq
      generalize f_X7_operate (nI 3) (f_X7_modulo x) (f_X7_modulo y) = oo at hq ⊢
      exact ⟨⟨rfl, fun _ => hq, rx_th h 0⟩, Or.inl rfl⟩
  by_cases ha : f_X7_out a 0 3 = 0
  · have h1 := out_iff.mp ha
    rw [show (0 : Int32).toInt = 0 from rfl, show (3 : Int32).toInt = 3 from rfl] at h1
    unfold f_X6_reckon f_X7_reckon f_X7_reckon_J30
    rw [if_neg (fun z => by have := lt_iff.mp z; rw [show (0 : Int32).toInt = 0 from rfl] at this; omega), if_pos (le_iff.mpr h1.2), e_mod]
    by_cases h3 : a = 3
    · rw [if_pos h3, if_pos h3]
      by_cases hz : f_X7_modulo y = 0
      · rw [if_pos hz, if_pos hz]
        unfold f_X7_reckon_J31
        rw [ha, thr2 N (b := 1) (by decide), if_neg (show ¬ (1 : Int32) = 0 by decide)]
        exact ⟨⟨rfl, fun z => absurd (show (4 : Int32) = 0 from z) (by decide), rx_th h 2⟩, Or.inr (Or.inr rfl)⟩
      · rw [if_neg hz, if_neg hz]; exact yes ha (fun _ => hz)
    · rw [if_neg h3, if_neg h3]; exact yes ha (fun z => absurd z h3)
  · have h1 : ¬ ((0 : Int32).toInt ≤ a.toInt ∧ a.toInt ≤ (3 : Int32).toInt) := fun z => ha (out_iff.mpr z)
    have e : f_X6_reckon S a x y = (1, 0, S) := by
      unfold f_X6_reckon
      by_cases z : a < 0
      · rw [if_pos z]
      · rw [if_neg z, if_neg (fun y => h1 ⟨q_nlt z, le_iff.mp y⟩)]
    rw [e]; exact no' ha
/-! run -/
theorem u3L (f : Nat → Int64) (k : Nat) (p a g : Int64) : vp_updL (vp_updL (vp_updL f (3 * k) p) (3 * k + 1) a) (3 * k + 2) g (3 * k + 0) = p ∧ vp_updL (vp_updL (vp_updL f (3 * k) p) (3 * k + 1) a) (3 * k + 2) g (3 * k + 1) = a ∧ vp_updL (vp_updL (vp_updL f (3 * k) p) (3 * k + 1) a) (3 * k + 2) g (3 * k + 2) = g := by
  refine ⟨?_, ?_, pk_uLs⟩
  · rw [pk_uLn (by omega), pk_uLn (by omega)]; exact pk_uLs
  · rw [pk_uLn (by omega)]; exact pk_uLs
theorem u3I (f : Nat → Int32) (k : Nat) (p a g : Int32) : upd (upd (upd f (3 * k) p) (3 * k + 1) a) (3 * k + 2) g (3 * k + 0) = p ∧ upd (upd (upd f (3 * k) p) (3 * k + 1) a) (3 * k + 2) g (3 * k + 1) = a ∧ upd (upd (upd f (3 * k) p) (3 * k + 1) a) (3 * k + 2) g (3 * k + 2) = g := by
  refine ⟨?_, ?_, pk_us⟩
  · rw [pk_un (by omega), pk_un (by omega)]; exact pk_us
  · rw [pk_un (by omega)]; exact pk_us
theorem tr_add {T : TS} {N Y : NS} {k : Nat} (hk : k < 64) (hT : Tr T N k) {p a f : Int64} (h0 : p = enc (sg N 0) (vl N 0)) (h1 : a = enc (sg N 1) (vl N 1)) (h2 : f = enc (sg N 2) (vl N 2)) (v0 : Ad N 0) (v1 : Ad N 1) (v2 : Ad N 2) (hr : pN_rows Y = nI (k + 1)) (hs : pN_traceSegment Y = upd (upd (upd (pN_traceSegment N) (3 * k) (sg N 0)) (3 * k + 1) (sg N 1)) (3 * k + 2) (sg N 2)) (hc : pN_traceCell Y = vp_updL (vp_updL (vp_updL (pN_traceCell N) (3 * k) (vl N 0)) (3 * k + 1) (vl N 1)) (3 * k + 2) (vl N 2)) : Tr (f_X3_add T p a f) Y (k + 1) := by
  obtain ⟨k0, k1, k2, k3⟩ := hT
  have hF : f_X3_isFull T = 0 := by
    unfold f_X3_isFull
    rw [k1, if_pos (show nI k < 64 from nI_lt (b := 64) hk (by decide))]
  have e0 : (nI k * 3).toNatClampNeg = 3 * k := by rw [show (3 : Int32) = nI 3 from rfl, pk_mul, x_cl (by omega)]; omega
  have e1 : (nI k * 3 + 1).toNatClampNeg = 3 * k + 1 := by rw [show (3 : Int32) = nI 3 from rfl, pk_mul, nI_1, x_cl (by omega)]; omega
  have e2 : (nI k * 3 + 2).toNatClampNeg = 3 * k + 2 := by rw [show (3 : Int32) = nI 3 from rfl, pk_mul, show (2 : Int32) = nI 2 from rfl, nI_add, x_cl (by omega)]; omega
  have eA : f_X3_add T p a f = sT_length (sT_row T (vp_updL (vp_updL (vp_updL (pT_row T) (3 * k) p) (3 * k + 1) a) (3 * k + 2) f)) (nI (k + 1)) := by
    unfold f_X3_add
    rw [if_pos hF]
    show sT_length (sT_row T (vp_updL (vp_updL (vp_updL (pT_row T) (pT_length T * 3).toNatClampNeg p) (pT_length T * 3 + 1).toNatClampNeg a) (pT_length T * 3 + 2).toNatClampNeg f)) (pT_length T + 1) = _
    rw [k1, e0, e1, e2, nI_1]
  rw [eA]
  refine ⟨by omega, rfl, hr, ?_⟩
  intro i r hi hr3
  show vp_updL (vp_updL (vp_updL (pT_row T) (3 * k) p) (3 * k + 1) a) (3 * k + 2) f (3 * i + r) = _ ∧ _
  rw [hs, hc]
  rcases Nat.lt_or_ge i k with g | g
  · rw [pk_uLn (by omega), pk_uLn (by omega), pk_uLn (by omega), pk_un (by omega), pk_un (by omega), pk_un (by omega), pk_uLn (by omega), pk_uLn (by omega), pk_uLn (by omega)]
    exact k3 i r g hr3
  · have : i = k := by omega
    subst this
    rcases (by omega : r = 0 ∨ r = 1 ∨ r = 2) with rfl | rfl | rfl
    · rw [(u3L _ _ _ _ _).1, (u3L _ _ _ _ _).1, (u3I _ _ _ _ _).1]
      exact ⟨h0, v0.1⟩
    · rw [(u3L _ _ _ _ _).2.1, (u3L _ _ _ _ _).2.1, (u3I _ _ _ _ _).2.1]
      exact ⟨h1, v1.1⟩
    · rw [(u3L _ _ _ _ _).2.2, (u3L _ _ _ _ _).2.2, (u3I _ _ _ _ _).2.2]
      exact ⟨h2, v2.1⟩
theorem run_L {n : Nat} (hn : n ≤ 100) : ∀ (fu i : Nat) (S : XS) (N : NS), i ≤ n → n - i < fu → RX S N → pN_thrown N = 0 → ∃ r, (f_X6_run_L23 (nI n) fu (nI i) S).1 = 0 ∧ (f_X6_run_L23 (nI n) fu (nI i) S).2.1 = r ∧ (f_X7_run_L19 (nI n) fu (nI i) N).1 = r ∧ pN_thrown (f_X7_run_L19 (nI n) fu (nI i) N).2 = 0 ∧ RX (f_X6_run_L23 (nI n) fu (nI i) S).2.2 (f_X7_run_L19 (nI n) fu (nI i) N).2
  | 0, _, _, _, _, hf, _, _ => absurd hf (Nat.not_lt_zero _)
  | fu + 1, i, S, N, hi, hf, h, h0 => by
    rw [f_X6_run_L23, f_X7_run_L19]
    rcases Nat.lt_or_ge i n with g | g
    · rw [if_neg (nI_ge g (by omega)), if_neg (nI_ge g (by omega))]
      obtain ⟨hg, hfl, ⟨k, hT⟩, hI⟩ := h
      obtain ⟨k0, k1, k2, k3⟩ := hT
      rcases Nat.lt_or_ge k 64 with c | c
      · have hF : f_X3_isFull (pX_t S) = 0 := by
          unfold f_X3_isFull
          rw [k1, if_pos (show nI k < 64 from nI_lt (b := 64) c (by decide))]
        rw [if_pos hF, if_neg (show ¬ (64 : Int32) ≤ pN_rows N by rw [k2]; exact nI_ge (b := 64) c (by decide))]
        have hst := step_r hg k2 c
        have hok := (ok_X7_step hI (by rw [k2]; exact vp_in_nI c (by decide))).1
        have hth := (th_step N).trans h0
        generalize f_X2_step (pX_p S) = C at hst ⊢
        generalize f_X7_step N = T at hst hok hth ⊢
        rcases hst with ⟨a1, a2, a3, a4, a5, a6, a7⟩ | ⟨a1, a2, a3, a4, a5, a6, a7⟩
        · rw [if_neg (show ¬ pX_latestFailure (sX_latestFailure (sX_p S C.2) C.1) = 0 from a1), if_pos a2]
          exact ⟨nI i, rfl, rfl, rfl, hth, a4, a3.symm, ⟨k, k0, k1, a5, by rw [a6, a7]; exact k3⟩, hok⟩
        · rw [if_pos (show pX_latestFailure (sX_latestFailure (sX_p S C.2) C.1) = 0 from a1), if_neg (by rw [a2]; decide), nI_1]
          refine run_L hn fu (i + 1) _ _ (by omega) (by omega) ?_ hth
          exact ⟨a4, a1.trans a3.symm, ⟨k + 1, tr_add c ⟨k0, k1, k2, k3⟩ hg.2.2.2.2.1 hg.2.2.2.2.2.1 hg.2.2.2.2.2.2 hg.2.1 hg.2.2.1 hg.2.2.2.1 a5 a6 a7⟩, hok⟩
      · have hF : ¬ f_X3_isFull (pX_t S) = 0 := by
          unfold f_X3_isFull
          rw [k1, if_neg (show ¬ nI k < 64 from nI_nlt (b := 64) c (by omega))]
          decide
        rw [if_neg hF, if_pos (show (64 : Int32) ≤ pN_rows N by rw [k2]; exact nI_le (a := 64) c (by omega))]
        exact ⟨nI i, rfl, rfl, rfl, h0, hg, hfl, ⟨k, k0, k1, k2, k3⟩, hI⟩
    · have : i = n := by omega
      subst this
      rw [if_pos (nI_le (Nat.le_refl _) (by omega)), if_pos (nI_le (Nat.le_refl _) (by omega))]
      exact ⟨nI i, rfl, rfl, rfl, h0, h⟩
theorem E_run {S : XS} {N : NS} (h : RX S N) (a : Int32) : Eq2 (fun k => k) (f_X6_run S a) (f_X7_run N a) ∧ ((f_X6_run S a).1 = 0 ∨ (f_X6_run S a).1 = 1) := by
  unfold f_X6_run f_X7_run
  by_cases ha : f_X7_out a 1 100 = 0
  · have h1 := out_iff.mp ha
    rw [show (1 : Int32).toInt = 1 from rfl, show (100 : Int32).toInt = 100 from rfl] at h1
    rw [if_neg (fun z => by have := lt_iff.mp z; rw [show (1 : Int32).toInt = 1 from rfl] at this; omega), if_pos (le_iff.mpr h1.2), ha, thr0, if_pos rfl]
    obtain ⟨n, hn, rfl⟩ := vp_in_of (x := a) (n := 101) (vp_in_iff.mpr ⟨by omega, by omega⟩) (by decide)
    obtain ⟨r, r1, r2, r3, r4, r5⟩ := run_L (n := n) (by omega) 101 0 S (sN_thrown N 0) (by omega) (by omega) (rx_th h 0) rfl
    exact ⟨⟨r4.trans r1.symm, fun _ => r2.trans r3.symm, r5⟩, Or.inl r1⟩
  · rw [thr1 N ha, if_neg (show ¬ (1 : Int32) = 0 by decide)]
    have h1 : ¬ ((1 : Int32).toInt ≤ a.toInt ∧ a.toInt ≤ (100 : Int32).toInt) := fun z => ha (out_iff.mpr z)
    by_cases z : a < 1
    · rw [if_pos z]; exact ⟨⟨rfl, fun z => absurd (show (1 : Int32) = 0 from z) (by decide), rx_th h 1⟩, Or.inr rfl⟩
    · rw [if_neg z, if_neg (fun y => h1 ⟨q_nlt z, le_iff.mp y⟩)]; exact ⟨⟨rfl, fun z => absurd (show (1 : Int32) = 0 from z) (by decide), rx_th h 1⟩, Or.inr rfl⟩
