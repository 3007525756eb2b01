def K5 (N T : NS) : Prop := K4 N T ∧ sg T 5 = sg N 5 ∧ vl T 5 = vl N 5
theorem k5_rf (N : NS) : K5 N N := ⟨k4_rf N, rfl, rfl⟩
theorem k5_tr {A B C : NS} (h : K5 A B) (g : K5 B C) : K5 A C := ⟨k4_tr h.1 g.1, g.2.1.trans h.2.1, g.2.2.trans h.2.2⟩
theorem k5_fr {N T : NS} (h : Fr N T) : K5 N T := ⟨k4_fr h, (fr_sg h 5).1, (fr_sg h 5).2.1⟩
theorem k5_fw {N T : NS} (h : Fw N T) : K5 N T := ⟨k4_fw h, (fw_sg h 5).1, (fw_sg h 5).2.1⟩
theorem k5_t (N : NS) (t : Int32) : K5 N (sN_trouble N t) := k5_rf N
theorem k5_keep (N : NS) {a : Int32} (h : 5 < a.toNatClampNeg) : K5 N (f_X7_keep N a) := ⟨k4_keep N (by omega), (keep_ne N (b := 5) (a := a) (by rw [show (5 : Int32).toNatClampNeg = 5 by decide]; omega)).1, (keep_ne N (b := 5) (a := a) (by rw [show (5 : Int32).toNatClampNeg = 5 by decide]; omega)).2⟩
def C5 (P Q : PS) : Prop := C4 P Q ∧ pP_op1Place Q = pP_op1Place P
theorem c5_mem (P : PS) (m : Nat → Int64) : C5 P (sP_mem P m) := ⟨⟨⟨rfl, rfl, rfl⟩, rfl, rfl, rfl, rfl⟩, rfl⟩
theorem c5_res (P : PS) (m : Int64) : C5 P (sP_res P m) := ⟨⟨⟨rfl, rfl, rfl⟩, rfl, rfl, rfl, rfl⟩, rfl⟩
theorem c5_rf (P : PS) : C5 P P := ⟨⟨⟨rfl, rfl, rfl⟩, rfl, rfl, rfl, rfl⟩, rfl⟩
theorem r2_k5 {n : Nat} {P Q : PS} {N T : NS} (h : R2 n P N) (hm : MR (pP_mem Q) T) (ht : pN_trouble T = 0) (hc : C5 P Q) (hk : K5 N T) : R2 n Q T := ⟨r1_k4 h.1 hm ht hc.1 hk.1, ad_eq h.2.1 hk.2.1 hk.2.2, by rw [hc.2, hk.2.1, hk.2.2]; exact h.2.2⟩
theorem r2_mr {n : Nat} {P : PS} {N : NS} (h : R2 n P N) : MR (pP_mem P) N := h.1.1.1
theorem r2_t {n : Nat} {P : PS} {N : NS} (h : R2 n P N) : pN_trouble N = 0 := h.1.2.1
def m130 (q : Int32) (D : NS) : NS := if f_X7_flag D 35 = 0 then f_X7_store (f_X7_sure (f_X7_times D 10 11 1) 10) q 10 else f_X7_store (f_X7_sure (f_X7_minus D 10 11) 10) q 10
def m98 (q : Int32) (D : NS) : NS := if f_X7_flag D 36 = 0 then m130 q D else (if sg D 11 = 0 then (if vl D 11 = 0 then D else m130 q D) else m130 q D)
theorem m98_eq (N D : NS) : f_X7_deduce_J98 N D = if pN_there (f_X7_read (f_X7_keep (f_X7_read N 3) 10) 5) = 0 then m98 5 D else m98 4 D := by
  unfold f_X7_deduce_J98 f_X7_deduce_J130 f_X7_deduce_J159 m98 m130
  by_cases c : pN_there (f_X7_read (f_X7_keep (f_X7_read N 3) 10) 5) = 0
  · simp only [if_pos c]
  · simp only [if_neg c]
/-- the sum or product is solved, and put -/
theorem p3_put {n : Nat} {P : PS} {D E : NS} (h : R2 n P D) {q : Int32} (hq : Ad D q) (hq10 : q.toNatClampNeg ≠ 10) {pl r : Int64} (hpl : pl = enc (sg D q) (vl D q)) (hE : Fr D E) (hr : r = res E) (hg : Gd E) : Pt (R2 n) P D (if r = -1 then (4, P) else ((f_X2_put P pl r).1, (f_X2_put P pl r).2)) (f_X7_store (f_X7_sure E 10) q 10) := by
  have hE0 : pN_trouble E = 0 := (fr_tr0 hE).trans (r2_t h)
  have mE : MR (pP_mem P) E := fr_mr (r2_mr h) hE
  rcases gd_m1 hg with ⟨g1, g2⟩ | ⟨g1, g2, g3, g4⟩
  · rw [hr, g1, if_pos rfl, o_sure0 hE0 g2 10, s_store (show ¬ pN_trouble (f_X7_keep (sN_trouble E 4) 10) ≤ 0 by show ¬ (4 : Int32) ≤ 0; decide)]
    have k := k5_tr (k5_fr hE) (k5_tr (k5_t E 4) (k5_keep (sN_trouble E 4) (a := 10) (by decide)))
    exact Or.inl ⟨4, st4 (by decide) (by decide) rfl ⟨rfl, rfl, rfl⟩ k.1.1 (keep_mr (t_mr mE 4) 10), rfl⟩
  · rw [hr, if_neg g1, o_sure1 hE0 g2 10]
    have k := k5_tr (k5_fr hE) (k5_keep E (a := 10) (by decide))
    have ko := keep_own E 10
    have kq := keep_ne E (a := 10) (b := q) (by rw [show (10 : Int32).toNatClampNeg = 10 by decide]; exact hq10)
    have fq := fr_sg hE q
    have aq : Ad (f_X7_keep E 10) q := ad_eq hq (kq.1.trans fq.1) (kq.2.trans fq.2.1)
    have v10 : Vok (sg (f_X7_keep E 10) 10) (vl (f_X7_keep E 10) 10) := by rw [ko.1, ko.2]; exact g3
    have hF0 : pN_trouble (f_X7_keep E 10) = 0 := hE0
    have mF : MR (pP_mem P) (f_X7_keep E 10) := keep_mr mE 10
    obtain ⟨W, hw1, hw2, m1, hw3, hw4⟩ := r_put mF aq v10 hF0
    have e1 : pl = enc (sg (f_X7_keep E 10) q) (vl (f_X7_keep E 10) q) := by rw [kq.1, kq.2, fq.1, fq.2.1]; exact hpl
    have e2 : res E = enc (sg (f_X7_keep E 10) 10) (vl (f_X7_keep E 10) 10) := by rw [ko.1, ko.2]; exact g4
    rw [← e1, ← e2] at hw2 hw3 hw4
    have kW := k5_tr k (k5_fw hw1)
    rw [hw3] at hw2 ⊢
    rcases hw4 with ⟨c1, c2⟩ | ⟨c1, c2⟩
    · rw [c1, c2]
      exact Or.inr ⟨rfl, r2_k5 h hw2 ((fw_sg hw1 0).2.2.2.trans hF0) (c5_mem P m1) kW, ⟨rfl, rfl, rfl⟩, kW.1.1⟩
    · rw [c1, c2]
      exact Or.inl ⟨2, st4 (by decide) (by decide) rfl ⟨rfl, rfl, rfl⟩ (kp_tr kW.1.1 (kp_t _ _)) (t_mr hw2 2), rfl⟩
theorem enc_0 {k : Int32} {x : Int64} (h : Vok k x) : enc k x = 0 ↔ k = 0 ∧ x = 0 := by
  have r := v_inj h (Or.inl ⟨rfl, 0, by decide, rfl⟩ : Vok 0 0)
  rw [enc0] at r
  exact r
theorem p3_tail {n : Nat} {P : PS} {D : NS} (h : R2 n P D) {q t : Int32} (hqt : (t = 0 ∧ q = 5) ∨ (t = 1 ∧ q = 4)) (h10 : Vok (sg D 10) (vl D 10)) (h11 : Vok (sg D 11) (vl D 11)) (hd : f_X2_look P (pP_dstPlace P) = enc (sg D 10) (vl D 10)) {v : Int64} (hv : v = enc (sg D 11) (vl D 11)) : Pt (R2 n) P D (f_X2_deduce_J87 P t v) (m98 q D) := by
  have hn := h.1.2.2.1
  have hf := h.1.2.2.2.2.2.2.1
  have hw := h.1.2.2.2.2.2.1
  have hq : Ad D q ∧ q.toNatClampNeg ≠ 10 := by
    rcases hqt with ⟨-, rfl⟩ | ⟨-, rfl⟩
    · exact ⟨h.2.1, by decide⟩
    · exact ⟨h.1.2.2.2.2.2.2.2.2.2.1, by decide⟩
  have j131 : ∀ {E : NS} {r : Int64}, Fr D E → r = res E → Gd E → Pt (R2 n) P D (f_X2_deduce_J131 P t r) (f_X7_store (f_X7_sure E 10) q 10) := by
    intro E r hE hr hg
    unfold f_X2_deduce_J131
    rcases hqt with ⟨rfl, rfl⟩ | ⟨rfl, rfl⟩
    · rw [if_pos (show (0 : Int32) = 0 from rfl)]
      exact p3_put h hq.1 hq.2 h.2.2 hE hr hg
    · rw [if_neg (show ¬ (1 : Int32) = 0 by decide)]
      exact p3_put h hq.1 hq.2 h.1.2.2.2.2.2.2.2.2.2.2.1 hE hr hg
  have j107 : Pt (R2 n) P D (f_X2_deduce_J107 P t v) (m130 q D) := by
    unfold f_X2_deduce_J107 m130
    rw [hd, hv]
    rcases w_flag (P := P) hn hf hw 5 (by decide) (m := 32) (i := 35) rfl rfl with ⟨a1, a2, -⟩ | ⟨a1, a2, -⟩
    · rw [if_pos a1, if_pos a2]
      exact j131 (fr_times D 10 11 1) (r_over h10 h11).1 (r_over h10 h11).2
    · rw [if_neg (by rw [a1]; decide), if_neg (by rw [a2]; decide)]
      exact j131 (fr_minus D 10 11) (r_minus h10 h11).1 (r_minus h10 h11).2
  unfold f_X2_deduce_J87 m98
  rcases w_flag (P := P) hn hf hw 6 (by decide) (m := 64) (i := 36) rfl rfl with ⟨a1, a2, -⟩ | ⟨a1, a2, -⟩
  · rw [if_pos a1, if_pos a2]; exact j107
  · rw [if_neg (by rw [a1]; decide), if_neg (c := f_X7_flag D 36 = 0) (by rw [a2]; decide)]
    by_cases z : v = 0
    · have z2 := (enc_0 h11).mp (hv ▸ z)
      rw [if_pos z, if_pos z2.1, if_pos z2.2]
      exact Or.inr ⟨rfl, h, kc_rf P, kp_rf D⟩
    · rw [if_neg z]
      by_cases z1 : sg D 11 = 0
      · rw [if_pos z1, if_neg (fun z2 => z (by rw [hv]; exact (enc_0 h11).mpr ⟨z1, z2⟩))]; exact j107
      · rw [if_neg z1]; exact j107
theorem p3_ded {n : Nat} {P : PS} {N : NS} (h : R2 n P N) : Pt (R2 n) P N (f_X2_deduce P) (f_X7_deduce_J35 N) := by
  have h3 := h.1.2.2.2.2.2.2.2.1
  have p3 := h.1.2.2.2.2.2.2.2.2.1
  have h4 := h.1.2.2.2.2.2.2.2.2.2.1
  have p4 := h.1.2.2.2.2.2.2.2.2.2.2.1
  have h5 := h.2.1
  have p5 := h.2.2
  have mm := r2_mr h
  have t0 := r2_t h
  have fA := fr_read N 3
  have lA := r_look mm h3
  rw [← p3] at lA
  have hJ57 : ∀ a b : Int32, f_X2_look P (pP_dstPlace P) = -1 → f_X2_deduce_J57 P a b = (0, P) := fun a b e => by unfold f_X2_deduce_J57; rw [if_pos e]
  have hded : f_X2_deduce P = f_X2_deduce_J57 P (if f_X2_look P (pP_op0Place P) = -1 then 1 else 0) (if f_X2_look P (pP_op1Place P) = -1 then 1 else 0) := by
    unfold f_X2_deduce f_X2_deduce_J41
    by_cases x : f_X2_look P (pP_op0Place P) = -1 <;> by_cases y : f_X2_look P (pP_op1Place P) = -1 <;> simp only [x, y, if_true, if_false]
  rw [hded]
  unfold f_X7_deduce_J35
  rcases gd_m1 lA.2 with ⟨g1, g2⟩ | ⟨g1, g2, g3, g4⟩
  · rw [if_pos g2, hJ57 _ _ (lA.1.trans g1)]
    exact Or.inr ⟨rfl, r2_k5 h (fr_mr mm fA) ((fr_tr0 fA).trans t0) (c5_rf P) (k5_fr fA), kc_rf P, kp_fr fA⟩
  · rw [if_neg (c := pN_there (f_X7_read N 3) = 0) (by rw [g2]; decide)]
    have hdst : ¬ f_X2_look P (pP_dstPlace P) = -1 := by rw [lA.1]; exact g1
    unfold f_X7_deduce_J74
    simp only [m98_eq]
    have kA := k5_tr (k5_fr fA) (k5_keep (f_X7_read N 3) (a := 10) (by decide))
    have oA := keep_own (f_X7_read N 3) 10
    have mA : MR (pP_mem P) (f_X7_keep (f_X7_read N 3) 10) := keep_mr (fr_mr mm fA) 10
    have tA : pN_trouble (f_X7_keep (f_X7_read N 3) 10) = 0 := (fr_tr0 fA).trans t0
    have vA : Vok (sg (f_X7_keep (f_X7_read N 3) 10) 10) (vl (f_X7_keep (f_X7_read N 3) 10) 10) := by rw [oA.1, oA.2]; exact g3
    have eA : f_X2_look P (pP_dstPlace P) = enc (sg (f_X7_keep (f_X7_read N 3) 10) 10) (vl (f_X7_keep (f_X7_read N 3) 10) 10) := by rw [oA.1, oA.2, lA.1]; exact g4
    generalize f_X7_keep (f_X7_read N 3) 10 = A at *
    have hA := r2_k5 h mA tA (c5_rf P) kA
    have fB := fr_read A 5
    have lB := r_look mA hA.2.1
    rw [← hA.2.2] at lB
    have mB := fr_mr mA fB
    have kB := k5_tr kA (k5_fr fB)
    have tB : pN_trouble (f_X7_read A 5) = 0 := (fr_tr0 fB).trans tA
    have sB := fr_sg fB 10
    rcases gd_m1 lB.2 with ⟨b1, b2⟩ | ⟨b1, b2, b3, b4⟩
    · rw [if_pos b2, if_pos b2]
      have hB := r2_k5 h mB tB (c5_rf P) kB
      rw [if_pos (lB.1.trans b1)]
      generalize f_X7_read A 5 = B at *
      have fC := fr_read B 4
      have lC := r_look mB hB.1.2.2.2.2.2.2.2.2.2.1
      rw [← hB.1.2.2.2.2.2.2.2.2.2.2.1] at lC
      have mC := fr_mr mB fC
      have tC : pN_trouble (f_X7_read B 4) = 0 := (fr_tr0 fC).trans tB
      have sC := fr_sg fC 10
      have kC := k5_tr kB (k5_fr fC)
      rcases gd_m1 lC.2 with ⟨c1, c2⟩ | ⟨c1, c2, c3, c4⟩
      · rw [if_pos (c2.trans b2.symm), if_pos (lC.1.trans c1)]
        unfold f_X2_deduce_J57
        rw [if_neg hdst, if_pos rfl]
        exact Or.inr ⟨rfl, r2_k5 h mC tC (c5_rf P) kC, kc_rf P, kC.1.1⟩
      · rw [if_neg (c := pN_there (f_X7_read B 4) = pN_there B) (by rw [c2, b2]; decide), if_neg (c := f_X2_look P (pP_op0Place P) = -1) (by rw [lC.1]; exact c1), if_pos b2]
        unfold f_X2_deduce_J57
        rw [if_neg hdst, if_neg (show ¬ (0 : Int32) = 1 by decide), if_pos (show (0 : Int32) = 0 from rfl)]
        have kD := k5_tr kC (k5_keep (f_X7_read B 4) (a := 11) (by decide))
        have oD := keep_own (f_X7_read B 4) 11
        have nD := keep_ne (f_X7_read B 4) (a := 11) (b := 10) (by decide)
        have hD : R2 n P (f_X7_keep (f_X7_read B 4) 11) := r2_k5 h (keep_mr mC 11) tC (c5_rf P) kD
        refine pt_pre (p3_tail hD (q := 5) (t := 0) (Or.inl ⟨rfl, rfl⟩) ?_ ?_ ?_ ?_) (kc_rf P) kD.1.1
        · rw [nD.1, nD.2, sC.1, sC.2.1, sB.1, sB.2.1]; exact vA
        · rw [oD.1, oD.2]; exact c3
        · rw [nD.1, nD.2, sC.1, sC.2.1, sB.1, sB.2.1]; exact eA
        · rw [oD.1, oD.2, lC.1]; exact c4
    · have nz : ¬ pN_there (f_X7_read A 5) = 0 := by rw [b2]; decide
      rw [if_neg nz, if_neg nz]
      have kS := k5_tr kB (k5_keep (f_X7_read A 5) (a := 11) (by decide))
      have oS := keep_own (f_X7_read A 5) 11
      have nS := keep_ne (f_X7_read A 5) (a := 11) (b := 10) (by decide)
      have mS : MR (pP_mem P) (f_X7_keep (f_X7_read A 5) 11) := keep_mr mB 11
      have tS : pN_trouble (f_X7_keep (f_X7_read A 5) 11) = 0 := tB
      have hS := r2_k5 h mS tS (c5_rf P) kS
      have vS : Vok (sg (f_X7_keep (f_X7_read A 5) 11) 11) (vl (f_X7_keep (f_X7_read A 5) 11) 11) := by rw [oS.1, oS.2]; exact b3
      have eS : f_X2_look P (pP_op1Place P) = enc (sg (f_X7_keep (f_X7_read A 5) 11) 11) (vl (f_X7_keep (f_X7_read A 5) 11) 11) := by rw [oS.1, oS.2, lB.1]; exact b4
      rw [if_neg (show ¬ f_X2_look P (pP_op1Place P) = -1 by rw [lB.1]; exact b1), b2]
      have n10 : sg (f_X7_keep (f_X7_read A 5) 11) 10 = sg A 10 ∧ vl (f_X7_keep (f_X7_read A 5) 11) 10 = vl A 10 := ⟨nS.1.trans sB.1, nS.2.trans sB.2.1⟩
      generalize f_X7_keep (f_X7_read A 5) 11 = S at *
      have fC := fr_read S 4
      have lC := r_look mS hS.1.2.2.2.2.2.2.2.2.2.1
      rw [← hS.1.2.2.2.2.2.2.2.2.2.2.1] at lC
      have mC := fr_mr mS fC
      have tC : pN_trouble (f_X7_read S 4) = 0 := (fr_tr0 fC).trans tS
      have sC := fr_sg fC 10
      have s11 := fr_sg fC 11
      have kC := k5_tr kS (k5_fr fC)
      rcases gd_m1 lC.2 with ⟨c1, c2⟩ | ⟨c1, c2, c3, c4⟩
      · rw [if_neg (c := pN_there (f_X7_read S 4) = 1) (by rw [c2]; decide), if_pos (lC.1.trans c1), if_neg (show ¬ (1 : Int32) = 0 by decide)]
        unfold f_X2_deduce_J57
        rw [if_neg hdst, if_neg (show ¬ (1 : Int32) = 0 by decide), if_neg (show ¬ (1 : Int32) = 0 by decide)]
        have hD : R2 n P (f_X7_read S 4) := r2_k5 h mC tC (c5_rf P) kC
        refine pt_pre (p3_tail hD (q := 4) (t := 1) (Or.inr ⟨rfl, rfl⟩) ?_ ?_ ?_ ?_) (kc_rf P) kC.1.1
        · rw [sC.1, sC.2.1, n10.1, n10.2]; exact vA
        · rw [s11.1, s11.2.1]; exact vS
        · rw [sC.1, sC.2.1, n10.1, n10.2]; exact eA
        · rw [s11.1, s11.2.1]; exact eS
      · rw [if_pos c2, if_neg (show ¬ f_X2_look P (pP_op0Place P) = -1 by rw [lC.1]; exact c1)]
        unfold f_X2_deduce_J57
        rw [if_neg hdst, if_pos rfl]
        exact Or.inr ⟨rfl, r2_k5 h mC tC (c5_rf P) kC, kc_rf P, kC.1.1⟩
def cl3 (P : PS) : Int32 × PS := if f_X2_has P 16384 = 0 then (0, P) else if f_X2_has P 96 = 0 then (0, P) else f_X2_deduce P
theorem p3 {n : Nat} {P : PS} {N : NS} (h : R2 n P N) : Pt (R2 n) P N (cl3 P) (f_X7_deduce N) := by
  have hn := h.1.2.2.1
  have hf := h.1.2.2.2.2.2.2.1
  have hw := h.1.2.2.2.2.2.1
  have same : Pt (R2 n) P N (0, P) N := Or.inr ⟨rfl, h, kc_rf P, kp_rf N⟩
  unfold cl3 f_X7_deduce
  rw [if_neg (c := 0 < pN_trouble N) (by rw [r2_t h]; decide)]
  rcases w_flag (P := P) hn hf hw 14 (by decide) (m := 16384) (i := 44) rfl rfl with ⟨a1, a2, -⟩ | ⟨a1, a2, -⟩
  · rw [if_pos a1, if_pos a2]; exact same
  · rw [if_neg (by rw [a1]; decide), if_neg (c := f_X7_flag N 44 = 0) (by rw [a2]; decide)]
    have h96 := (w_flag2 hn hf).1
    rcases w_flag (P := P) hn hf hw 5 (by decide) (m := 32) (i := 35) rfl rfl with ⟨-, b2, b3⟩ | ⟨-, b2, b3⟩
    · rw [if_pos (c := f_X7_flag N 35 = 0) b2]
      rcases w_flag (P := P) hn hf hw 6 (by decide) (m := 64) (i := 36) rfl rfl with ⟨-, c2, c3⟩ | ⟨-, c2, c3⟩
      · rw [if_pos (h96.mpr ⟨b3, c3⟩), if_pos c2]; exact same
      · rw [if_neg (fun z => by have := (h96.mp z).2; rw [this] at c3; exact absurd c3 (by decide)), if_neg (by rw [c2]; decide)]; exact p3_ded h
    · rw [if_neg (fun z => by have := (h96.mp z).1; rw [this] at b3; exact absurd b3 (by decide)), if_neg (by rw [b2]; decide)]; exact p3_ded h
