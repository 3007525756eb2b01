/-! RES, and the assertion -/
def K6 (N T : NS) : Prop := K5 N T ∧ sg T 6 = sg N 6 ∧ vl T 6 = vl N 6
theorem k6_rf (N : NS) : K6 N N := ⟨k5_rf N, rfl, rfl⟩
theorem k6_tr {A B C : NS} (h : K6 A B) (g : K6 B C) : K6 A C := ⟨k5_tr h.1 g.1, g.2.1.trans h.2.1, g.2.2.trans h.2.2⟩
theorem k6_fr {N T : NS} (h : Fr N T) : K6 N T := ⟨k5_fr h, (fr_sg h 6).1, (fr_sg h 6).2.1⟩
theorem k6_fw {N T : NS} (h : Fw N T) : K6 N T := ⟨k5_fw h, (fw_sg h 6).1, (fw_sg h 6).2.1⟩
theorem k6_t (N : NS) (t : Int32) : K6 N (sN_trouble N t) := k6_rf N
theorem k6_keep (N : NS) {a : Int32} (h : 6 < a.toNatClampNeg) : K6 N (f_X7_keep N a) := ⟨k5_keep N (by omega), (keep_ne N (b := 6) (a := a) (by rw [show (6 : Int32).toNatClampNeg = 6 by decide]; omega)).1, (keep_ne N (b := 6) (a := a) (by rw [show (6 : Int32).toNatClampNeg = 6 by decide]; omega)).2⟩
/-- RES is known where it is used -/
def R3 (n : Nat) (P : PS) (N : NS) : Prop := R2 n P N ∧ ((wb n 37 = 0 ∧ wb n 38 = 0 ∧ wb n 40 = 0 ∧ wb n 44 = 0) ∨ (Vok (sg N 6) (vl N 6) ∧ pP_res P = enc (sg N 6) (vl N 6)))
def C6 (P Q : PS) : Prop := C5 P Q ∧ pP_res Q = pP_res P
theorem c6_rf (P : PS) : C6 P P := ⟨c5_rf P, rfl⟩
theorem c6_tr {A B C : PS} (h : C6 A B) (g : C6 B C) : C6 A C := ⟨⟨⟨kc_tr h.1.1.1 g.1.1.1, g.1.1.2.1.trans h.1.1.2.1, g.1.1.2.2.1.trans h.1.1.2.2.1, g.1.1.2.2.2.1.trans h.1.1.2.2.2.1, g.1.1.2.2.2.2.trans h.1.1.2.2.2.2⟩, g.1.2.trans h.1.2⟩, g.2.trans h.2⟩
theorem r3_k6 {n : Nat} {P Q : PS} {N T : NS} (h : R3 n P N) (hm : MR (pP_mem Q) T) (ht : pN_trouble T = 0) (hc : C6 P Q) (hk : K6 N T) : R3 n Q T := by
  refine ⟨r2_k5 h.1 hm ht hc.1 hk.1, ?_⟩
  rcases h.2 with q | ⟨q1, q2⟩
  · exact Or.inl q
  · refine Or.inr ⟨by rw [hk.2.1, hk.2.2]; exact q1, by rw [hc.2, hk.2.1, hk.2.2]; exact q2⟩
def cl4 (P : PS) : Int32 × PS := if f_X2_has P 17792 = 0 then (0, P) else f_X2_findRes P
theorem fres_eq (P : PS) : f_X2_findRes P = if f_X2_look P (pP_op1Place P) = -1 then (1, sP_res P (f_X2_look P (pP_op1Place P))) else if f_X2_has P 96 = 0 then (0, sP_res P (f_X2_look P (pP_op1Place P))) else if f_X2_look P (pP_op0Place P) = -1 then (1, sP_res P (f_X2_look P (pP_op1Place P))) else if f_X2_has P 32 = 0 then (f_X2_reckoned (f_X4_times (f_X2_look P (pP_op0Place P)) (f_X2_look P (pP_op1Place P))), sP_res P (f_X4_times (f_X2_look P (pP_op0Place P)) (f_X2_look P (pP_op1Place P)))) else (f_X2_reckoned (f_X4_plus (f_X2_look P (pP_op0Place P)) (f_X2_look P (pP_op1Place P))), sP_res P (f_X4_plus (f_X2_look P (pP_op0Place P)) (f_X2_look P (pP_op1Place P)))) := by
  unfold f_X2_findRes
  generalize f_X2_look P (pP_op1Place P) = a
  have h1 : ∀ y, sP_res (sP_res P a) y = sP_res P y := fun _ => rfl
  have h2 : ∀ z, f_X2_look (sP_res P a) z = f_X2_look P z := fun _ => rfl
  have h3 : ∀ m, f_X2_has (sP_res P a) m = f_X2_has P m := fun _ => rfl
  have h4 : ∀ x, pP_res (sP_res P x) = x := fun _ => rfl
  have h5 : pP_op0Place (sP_res P a) = pP_op0Place P := rfl
  rw [h4 a, h5, h2, h3, h3, h1, h1, h4, h4]
def m100 (X : NS) : NS := if pN_trouble X ≤ 0 then (if f_X7_flag X 35 = 0 then f_X7_sure (f_X7_times X 10 11 0) 6 else f_X7_sure (f_X7_plus X 10 11) 6) else X
theorem m44_eq (N : NS) : f_X7_result_J44 N = if f_X7_flag N 35 = 0 then (if f_X7_flag N 36 = 0 then f_X7_sure (f_X7_needed N 5) 6 else m100 (f_X7_sure (f_X7_needed (f_X7_sure (f_X7_needed N 4) 10) 5) 11)) else m100 (f_X7_sure (f_X7_needed (f_X7_sure (f_X7_needed N 4) 10) 5) 11) := by
  unfold f_X7_result_J44 f_X7_result_J62 f_X7_result_J67 f_X7_result_J83 f_X7_result_J100 m100
  have e10 : ((1 : Int32) = 0) ↔ False := by decide
  simp only [e10, if_true, if_false]
theorem p4_res {n : Nat} {P : PS} {N : NS} (h : R2 n P N) : Pt (R3 n) P N (f_X2_findRes P) (f_X7_result_J44 N) := by
  have hn := h.1.2.2.1
  have hf := h.1.2.2.2.2.2.2.1
  have hw := h.1.2.2.2.2.2.1
  have h4 := h.1.2.2.2.2.2.2.2.2.2.1
  have p4 := h.1.2.2.2.2.2.2.2.2.2.2.1
  have mm := r2_mr h
  have t0 := r2_t h
  have h96 := (w_flag2 hn hf).1
  rw [fres_eq, m44_eq]
  -- one operand
  have single : f_X2_has P 96 = 0 → Pt (R3 n) P N (if f_X2_look P (pP_op1Place P) = -1 then (1, sP_res P (f_X2_look P (pP_op1Place P))) else (0, sP_res P (f_X2_look P (pP_op1Place P)))) (f_X7_sure (f_X7_needed N 5) 6) := by
    intro _
    have fB := fr_read N 5
    have lB := r_look mm h.2.1
    rw [← h.2.2] at lB
    rcases gd_m1 lB.2 with ⟨b1, b2⟩ | ⟨b1, b2, b3, b4⟩
    · rw [if_pos (lB.1.trans b1), o_needed0 t0 5 b2, s_sure (show ¬ pN_trouble (sN_trouble (f_X7_read N 5) 1) ≤ 0 by show ¬ (1 : Int32) ≤ 0; decide)]
      exact Or.inl ⟨1, st4 (by decide) (by decide) rfl ⟨rfl, rfl, rfl⟩ (kp_tr (kp_fr fB) (kp_t _ _)) (t_mr (fr_mr mm fB) 1), rfl⟩
    · have tB : pN_trouble (f_X7_read N 5) = 0 := (fr_tr0 fB).trans t0
      rw [if_neg (show ¬ f_X2_look P (pP_op1Place P) = -1 by rw [lB.1]; exact b1), o_needed1 t0 5 b2, o_sure1 tB b2 6, lB.1]
      have k := k5_tr (k5_fr fB) (k5_keep (f_X7_read N 5) (a := 6) (by decide))
      have ko := keep_own (f_X7_read N 5) 6
      exact Or.inr ⟨rfl, ⟨r2_k5 h (keep_mr (fr_mr mm fB) 6) tB (c5_res P _) k, Or.inr ⟨by rw [ko.1, ko.2]; exact b3, by rw [ko.1, ko.2]; exact b4⟩⟩, ⟨rfl, rfl, rfl⟩, k.1.1⟩
  -- two operands
  have double : Pt (R3 n) P N (if f_X2_look P (pP_op1Place P) = -1 then (1, sP_res P (f_X2_look P (pP_op1Place P))) else if f_X2_look P (pP_op0Place P) = -1 then (1, sP_res P (f_X2_look P (pP_op1Place P))) else if f_X2_has P 32 = 0 then (f_X2_reckoned (f_X4_times (f_X2_look P (pP_op0Place P)) (f_X2_look P (pP_op1Place P))), sP_res P (f_X4_times (f_X2_look P (pP_op0Place P)) (f_X2_look P (pP_op1Place P)))) else (f_X2_reckoned (f_X4_plus (f_X2_look P (pP_op0Place P)) (f_X2_look P (pP_op1Place P))), sP_res P (f_X4_plus (f_X2_look P (pP_op0Place P)) (f_X2_look P (pP_op1Place P))))) (m100 (f_X7_sure (f_X7_needed (f_X7_sure (f_X7_needed N 4) 10) 5) 11)) := by
    have fA := fr_read N 4
    have lA := r_look mm h4
    rw [← p4] at lA
    rcases gd_m1 lA.2 with ⟨a1, a2⟩ | ⟨a1, a2, a3, a4⟩
    · have q1 : ¬ pN_trouble (sN_trouble (f_X7_read N 4) 1) ≤ 0 := by show ¬ (1 : Int32) ≤ 0; decide
      rw [o_needed0 t0 4 a2, s_sure q1, s_needed q1, s_sure q1]
      unfold m100
      rw [if_neg q1, if_pos (lA.1.trans a1), ite_self]
      exact Or.inl ⟨1, st4 (by decide) (by decide) rfl ⟨rfl, rfl, rfl⟩ (kp_tr (kp_fr fA) (kp_t _ _)) (t_mr (fr_mr mm fA) 1), rfl⟩
    · have tA : pN_trouble (f_X7_read N 4) = 0 := (fr_tr0 fA).trans t0
      rw [o_needed1 t0 4 a2, o_sure1 tA a2 10]
      have kS := k5_tr (k5_fr fA) (k5_keep (f_X7_read N 4) (a := 10) (by decide))
      have oS := keep_own (f_X7_read N 4) 10
      have mS : MR (pP_mem P) (f_X7_keep (f_X7_read N 4) 10) := keep_mr (fr_mr mm fA) 10
      have tS : pN_trouble (f_X7_keep (f_X7_read N 4) 10) = 0 := tA
      have vS : Vok (sg (f_X7_keep (f_X7_read N 4) 10) 10) (vl (f_X7_keep (f_X7_read N 4) 10) 10) := by rw [oS.1, oS.2]; exact a3
      have eS : f_X2_look P (pP_op0Place P) = enc (sg (f_X7_keep (f_X7_read N 4) 10) 10) (vl (f_X7_keep (f_X7_read N 4) 10) 10) := by rw [oS.1, oS.2, lA.1]; exact a4
      have nz : ¬ f_X2_look P (pP_op0Place P) = -1 := by rw [lA.1]; exact a1
      generalize f_X7_keep (f_X7_read N 4) 10 = S at *
      have hS := r2_k5 h mS tS (c5_rf P) kS
      have fB := fr_read S 5
      have lB := r_look mS hS.2.1
      rw [← hS.2.2] at lB
      rcases gd_m1 lB.2 with ⟨b1, b2⟩ | ⟨b1, b2, b3, b4⟩
      · have q1 : ¬ pN_trouble (sN_trouble (f_X7_read S 5) 1) ≤ 0 := by show ¬ (1 : Int32) ≤ 0; decide
        rw [o_needed0 tS 5 b2, s_sure q1]
        unfold m100
        rw [if_neg q1, if_pos (lB.1.trans b1)]
        exact Or.inl ⟨1, st4 (by decide) (by decide) rfl ⟨rfl, rfl, rfl⟩ (kp_tr kS.1.1 (kp_tr (kp_fr fB) (kp_t _ _))) (t_mr (fr_mr mS fB) 1), rfl⟩
      · have tB : pN_trouble (f_X7_read S 5) = 0 := (fr_tr0 fB).trans tS
        rw [o_needed1 tS 5 b2, o_sure1 tB b2 11, if_neg (show ¬ f_X2_look P (pP_op1Place P) = -1 by rw [lB.1]; exact b1), if_neg nz]
        have kX := k5_tr kS (k5_tr (k5_fr fB) (k5_keep (f_X7_read S 5) (a := 11) (by decide)))
        have oX := keep_own (f_X7_read S 5) 11
        have nX := keep_ne (f_X7_read S 5) (a := 11) (b := 10) (by decide)
        have sB := fr_sg fB 10
        have mX : MR (pP_mem P) (f_X7_keep (f_X7_read S 5) 11) := keep_mr (fr_mr mS fB) 11
        have tX : pN_trouble (f_X7_keep (f_X7_read S 5) 11) = 0 := tB
        have v10 : Vok (sg (f_X7_keep (f_X7_read S 5) 11) 10) (vl (f_X7_keep (f_X7_read S 5) 11) 10) := by rw [nX.1, nX.2, sB.1, sB.2.1]; exact vS
        have v11 : Vok (sg (f_X7_keep (f_X7_read S 5) 11) 11) (vl (f_X7_keep (f_X7_read S 5) 11) 11) := by rw [oX.1, oX.2]; exact b3
        have e10 : f_X2_look P (pP_op0Place P) = enc (sg (f_X7_keep (f_X7_read S 5) 11) 10) (vl (f_X7_keep (f_X7_read S 5) 11) 10) := by rw [nX.1, nX.2, sB.1, sB.2.1]; exact eS
        have e11 : f_X2_look P (pP_op1Place P) = enc (sg (f_X7_keep (f_X7_read S 5) 11) 11) (vl (f_X7_keep (f_X7_read S 5) 11) 11) := by rw [oX.1, oX.2, lB.1]; exact b4
        rw [e10, e11]
        generalize f_X7_keep (f_X7_read S 5) 11 = X at *
        have wX : pN_word X = lN n := kX.1.2.1.trans hw
        have fin : ∀ {E : NS} {r : Int64}, Fr X E → r = res E → Gd E → Pt (R3 n) P N (f_X2_reckoned r, sP_res P r) (f_X7_sure E 6) := by
          intro E r hE hr hg
          have tE : pN_trouble E = 0 := (fr_tr0 hE).trans tX
          rcases gd_m1 hg with ⟨g1, g2⟩ | ⟨g1, g2, g3, g4⟩
          · rw [hr, g1, reck_m1, o_sure0 tE g2 6]
            have k := k5_tr kX (k5_fr hE)
            exact Or.inl ⟨4, st4 (by decide) (by decide) rfl ⟨rfl, rfl, rfl⟩ (kp_tr k.1.1 (kp_tr (kp_t E 4) (kp_keep (sN_trouble E 4) (by decide) (by decide) (by decide)))) (keep_mr (t_mr (fr_mr mX hE) 4) 6), rfl⟩
          · rw [hr, reck_no g1, o_sure1 tE g2 6]
            have k := k5_tr kX (k5_tr (k5_fr hE) (k5_keep E (a := 6) (by decide)))
            have ko := keep_own E 6
            exact Or.inr ⟨rfl, ⟨r2_k5 h (keep_mr (fr_mr mX hE) 6) tE (c5_res P _) k, Or.inr ⟨by rw [ko.1, ko.2]; exact g3, by rw [ko.1, ko.2]; exact g4⟩⟩, ⟨rfl, rfl, rfl⟩, k.1.1⟩
        unfold m100
        rw [if_pos (o_le tX)]
        rcases w_flag (P := P) hn hf wX 5 (by decide) (m := 32) (i := 35) rfl rfl with ⟨c1, c2, -⟩ | ⟨c1, c2, -⟩
        · rw [if_pos c1, if_pos c2]
          exact fin (fr_times X 10 11 0) (r_times v10 v11).1 (r_times v10 v11).2
        · rw [if_neg (c := f_X2_has P 32 = 0) (by rw [c1]; decide), if_neg (c := f_X7_flag X 35 = 0) (by rw [c2]; decide)]
          exact fin (fr_plus X 10 11) (r_plus v10 v11).1 (r_plus v10 v11).2
  rcases w_flag (P := P) hn hf hw 5 (by decide) (m := 32) (i := 35) rfl rfl with ⟨-, b2, b3⟩ | ⟨-, b2, b3⟩
  · rw [if_pos (c := f_X7_flag N 35 = 0) b2]
    rcases w_flag (P := P) hn hf hw 6 (by decide) (m := 64) (i := 36) rfl rfl with ⟨-, c2, c3⟩ | ⟨-, c2, c3⟩
    · have z := h96.mpr ⟨b3, c3⟩
      rw [if_pos z, if_pos (c := f_X7_flag N 36 = 0) c2]; exact single z
    · rw [if_neg (c := f_X2_has P 96 = 0) (fun z => by have := (h96.mp z).2; rw [this] at c3; exact absurd c3 (by decide)), if_neg (c := f_X7_flag N 36 = 0) (by rw [c2]; decide)]; exact double
  · rw [if_neg (c := f_X2_has P 96 = 0) (fun z => by have := (h96.mp z).1; rw [this] at b3; exact absurd b3 (by decide)), if_neg (c := f_X7_flag N 35 = 0) (by rw [b2]; decide)]; exact double
theorem p4 {n : Nat} {P : PS} {N : NS} (h : R2 n P N) : Pt (R3 n) P N (cl4 P) (f_X7_result N) := by
  have hn := h.1.2.2.1
  have hf := h.1.2.2.2.2.2.2.1
  have hw := h.1.2.2.2.2.2.1
  have hm := (w_flag2 hn hf).2
  unfold cl4 f_X7_result
  rw [if_neg (c := 0 < pN_trouble N) (by rw [r2_t h]; decide)]
  rcases w_flag (P := P) hn hf hw 14 (by decide) (m := 16384) (i := 44) rfl rfl with ⟨-, a2, a3⟩ | ⟨-, a2, a3⟩
  · rw [if_pos (c := f_X7_flag N 44 = 0) a2]
    rcases w_flag (P := P) hn hf hw 7 (by decide) (m := 128) (i := 37) rfl rfl with ⟨-, b2, b3⟩ | ⟨-, b2, b3⟩
    · rw [if_pos (c := f_X7_flag N 37 = 0) b2]
      rcases w_flag (P := P) hn hf hw 8 (by decide) (m := 256) (i := 38) rfl rfl with ⟨-, c2, c3⟩ | ⟨-, c2, c3⟩
      · rw [if_pos (c := f_X7_flag N 38 = 0) c2]
        rcases w_flag (P := P) hn hf hw 10 (by decide) (m := 1024) (i := 40) rfl rfl with ⟨-, d2, d3⟩ | ⟨-, d2, d3⟩
        · rw [if_pos (c := f_X7_flag N 40 = 0) d2, if_pos (hm.mpr ⟨b3, c3, d3, a3⟩)]
          exact Or.inr ⟨rfl, ⟨h, Or.inl ⟨b3, c3, d3, a3⟩⟩, kc_rf P, kp_rf N⟩
        · rw [if_neg (c := f_X7_flag N 40 = 0) (by rw [d2]; decide), if_neg (c := f_X2_has P 17792 = 0) (fun z => by have := (hm.mp z).2.2.1; rw [this] at d3; exact absurd d3 (by decide))]
          exact p4_res h
      · rw [if_neg (c := f_X7_flag N 38 = 0) (by rw [c2]; decide), if_neg (c := f_X2_has P 17792 = 0) (fun z => by have := (hm.mp z).2.1; rw [this] at c3; exact absurd c3 (by decide))]
        exact p4_res h
    · rw [if_neg (c := f_X7_flag N 37 = 0) (by rw [b2]; decide), if_neg (c := f_X2_has P 17792 = 0) (fun z => by have := (hm.mp z).1; rw [this] at b3; exact absurd b3 (by decide))]
      exact p4_res h
  · rw [if_neg (c := f_X7_flag N 44 = 0) (by rw [a2]; decide), if_neg (c := f_X2_has P 17792 = 0) (fun z => by have := (hm.mp z).2.2.2; rw [this] at a3; exact absurd a3 (by decide))]
    exact p4_res h
def cl5 (P : PS) : Int32 × PS := if f_X2_has P 16384 = 0 then (0, P) else f_X2_put P (pP_dstPlace P) (pP_res P)
theorem p5 {n : Nat} {P : PS} {N : NS} (h : R3 n P N) : Pt (R3 n) P N (cl5 P) (if f_X7_flag N 44 = 0 then N else f_X7_store N 3 6) := by
  have hn := h.1.1.2.2.1
  have hf := h.1.1.2.2.2.2.2.2.1
  have hw := h.1.1.2.2.2.2.2.1
  unfold cl5
  rcases w_flag (P := P) hn hf hw 14 (by decide) (m := 16384) (i := 44) rfl rfl with ⟨a1, a2, -⟩ | ⟨a1, a2, a3⟩
  · rw [if_pos a1, if_pos a2]
    exact Or.inr ⟨rfl, h, kc_rf P, kp_rf N⟩
  · rw [if_neg (c := f_X2_has P 16384 = 0) (by rw [a1]; decide), if_neg (c := f_X7_flag N 44 = 0) (by rw [a2]; decide)]
    rcases h.2 with q | ⟨q1, q2⟩
    · rw [q.2.2.2] at a3; exact absurd a3 (by decide)
    · obtain ⟨W, hw1, hw2, m1, hw3, hw4⟩ := r_put (r2_mr h.1) h.1.1.2.2.2.2.2.2.2.1 q1 (r2_t h.1)
      rw [← h.1.1.2.2.2.2.2.2.2.2.1, ← q2] at hw2 hw3 hw4
      have kW := k6_fw hw1
      generalize f_X2_put P (pP_dstPlace P) (pP_res P) = C at *
      obtain ⟨C1, C2⟩ := C
      simp only at hw2 hw3 hw4
      subst hw3
      rcases hw4 with ⟨c1, c2⟩ | ⟨c1, c2⟩
      · rw [c1, c2]
        exact Or.inr ⟨rfl, r3_k6 h hw2 ((fw_sg hw1 0).2.2.2.trans (r2_t h.1)) ⟨c5_mem P m1, rfl⟩ kW, ⟨rfl, rfl, rfl⟩, kW.1.1.1⟩
      · rw [c1, c2]
        exact Or.inl ⟨2, st4 (by decide) (by decide) rfl ⟨rfl, rfl, rfl⟩ (kp_tr kW.1.1.1 (kp_t _ _)) (t_mr hw2 2), rfl⟩
