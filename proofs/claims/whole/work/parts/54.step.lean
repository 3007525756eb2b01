/-! a whole step -/
theorem j_stop {v : Int32} (hv : ¬ v = 0) (S : PS) : f_X2_step_J116 v S = (v, S) ∧ f_X2_step_J89 v S = (v, S) ∧ f_X2_step_J70 v S = (v, S) ∧ f_X2_step_J42 v S = (v, S) ∧ f_X2_step_J33 v S = (v, S) := by
  have a1 : f_X2_step_J116 v S = (v, S) := by unfold f_X2_step_J116; rw [if_neg hv]
  have a2 : f_X2_step_J89 v S = (v, S) := by unfold f_X2_step_J89; rw [if_neg hv, a1]
  have a3 : f_X2_step_J70 v S = (v, S) := by unfold f_X2_step_J70; rw [if_neg hv, a2]
  have a4 : f_X2_step_J42 v S = (v, S) := by unfold f_X2_step_J42; rw [if_neg hv, a3]
  exact ⟨a1, a2, a3, a4, by unfold f_X2_step_J33; rw [if_neg hv, a4]⟩
theorem j33 (S : PS) : f_X2_step_J33 0 S = f_X2_step_J42 (f_X2_placeOp1 S).1 (f_X2_placeOp1 S).2 := by unfold f_X2_step_J33; rw [if_pos rfl]
theorem j42 (S : PS) : f_X2_step_J42 0 S = f_X2_step_J70 (cl3 S).1 (cl3 S).2 := by
  unfold f_X2_step_J42 cl3
  rw [if_pos rfl]
  by_cases a : f_X2_has S 16384 = 0
  · rw [if_pos a, if_pos a]
  · rw [if_neg a, if_neg a]
    by_cases b : f_X2_has S 96 = 0
    · rw [if_pos b, if_pos b]
    · rw [if_neg b, if_neg b]
theorem j70 (S : PS) : f_X2_step_J70 0 S = f_X2_step_J89 (cl4 S).1 (cl4 S).2 := by
  unfold f_X2_step_J70 cl4
  rw [if_pos rfl]
  by_cases a : f_X2_has S 17792 = 0
  · rw [if_pos a, if_pos a]
  · rw [if_neg a, if_neg a]
theorem j89 (S : PS) : f_X2_step_J89 0 S = f_X2_step_J116 (cl5 S).1 (cl5 S).2 := by
  unfold f_X2_step_J89 cl5
  rw [if_pos rfl]
  by_cases a : f_X2_has S 16384 = 0
  · rw [if_pos a, if_pos a]
  · rw [if_neg a, if_neg a]
theorem j116 (S : PS) : f_X2_step_J116 0 S = f_X2_moveRegisters S := by unfold f_X2_step_J116; rw [if_pos rfl]
/-! the reference, stopped -/
theorem s66 {S : NS} (h1 : ¬ pN_trouble S ≤ 0) (t : Int32) : f_X7_step_J66 S t = (0, sN_failure S (pN_trouble S)) := by
  have a : f_X7_jump S t = S := by unfold f_X7_jump; rw [if_neg h1]
  have b : f_X7_move S = S := by unfold f_X7_move; rw [if_neg h1]
  unfold f_X7_step_J66
  rw [a, b, if_neg (show ¬ pN_trouble (sN_failure S (pN_trouble S)) ≤ 0 from h1)]
theorem s51 {S : NS} (h1 : ¬ pN_trouble S ≤ 0) : f_X7_step_J51 S = (0, sN_failure S (pN_trouble S)) := by
  unfold f_X7_step_J51
  rw [s66 h1, s66 h1, ite_self]
theorem n_pos {c : Int32} (h : ¬ c ≤ 0) : 0 < c := Int32.lt_iff_toInt_lt.mpr (q_nle h)
theorem s_res {S : NS} (h1 : ¬ pN_trouble S ≤ 0) : f_X7_result S = S := by unfold f_X7_result; rw [if_pos (n_pos h1)]
theorem s_ded {S : NS} (h1 : ¬ pN_trouble S ≤ 0) : f_X7_deduce S = S := by unfold f_X7_deduce; rw [if_pos (n_pos h1)]
theorem s20a {S D : NS} (hD : f_X7_result (f_X7_deduce S) = D) (h0 : ¬ pN_trouble D = 0) (h1 : ¬ pN_trouble D ≤ 0) : f_X7_step_J20 S = (0, sN_failure D (pN_trouble D)) := by
  unfold f_X7_step_J20
  rw [hD, if_neg h0, s51 h1]
def Sr (k : Nat) (N : NS) (C : Int32 × PS) (T : Int32 × NS) : Prop := (¬ C.1 = 0 ∧ T.1 = 0 ∧ pN_failure T.2 = C.1 ∧ Rg C.2 T.2 ∧ pN_rows T.2 = nI k ∧ pN_traceSegment T.2 = pN_traceSegment N ∧ pN_traceCell T.2 = pN_traceCell N) ∨ (C.1 = 0 ∧ T.1 = 1 ∧ pN_failure T.2 = 0 ∧ Rg C.2 T.2 ∧ pN_rows T.2 = nI (k + 1) ∧ pN_traceSegment T.2 = upd (upd (upd (pN_traceSegment N) (3 * k) (sg N 0)) (3 * k + 1) (sg N 1)) (3 * k + 2) (sg N 2) ∧ pN_traceCell T.2 = vp_updL (vp_updL (vp_updL (pN_traceCell N) (3 * k) (vl N 0)) (3 * k + 1) (vl N 1)) (3 * k + 2) (vl N 2))
theorem sr_stop {k : Nat} {P Q : PS} {N S : NS} {c : Int32} (hg : Rg P N) (hk : pN_rows N = nI k) (h : St c P N Q S) : Sr k N (c, Q) (0, sN_failure S (pN_trouble S)) := by
  obtain ⟨n0, n1, n2, n3, n4, n5⟩ := h
  have r := rg_kp hg n5 n3 n4
  exact Or.inl ⟨n0, rfl, n2, r, n4.2.2.2.2.2.2.1.trans hk, n4.2.2.2.2.2.2.2.1, n4.2.2.2.2.2.2.2.2⟩
/-! the last loop -/
def it1 (S : NS) (r : Int32) : NS := sN_value (sN_segment (sN_traceCell (sN_traceSegment S (upd (pN_traceSegment S) (3 * pN_rows S + r).toNatClampNeg (sg S r))) (vp_updL (pN_traceCell S) (3 * pN_rows S + r).toNatClampNeg (vl S r))) (upd (pN_segment S) r.toNatClampNeg (pN_segment S (7 + r).toNatClampNeg))) (vp_updL (pN_value S) r.toNatClampNeg (pN_value S (7 + r).toNatClampNeg))
theorem it_one (fu : Nat) (v : Int32) (S : NS) : f_X7_step_L92 (fu + 1) v S = if 3 ≤ v then (1, sN_rows S (pN_rows S + 1)) else f_X7_step_L92 fu (v + 1) (it1 S v) := rfl
theorem it_all (S : NS) : f_X7_step_L92 4 0 S = (1, sN_rows (it1 (it1 (it1 S 0) 1) 2) (pN_rows S + 1)) := by
  rw [it_one, if_neg (by decide), show (0 : Int32) + 1 = 1 from rfl, it_one, if_neg (by decide), show (1 : Int32) + 1 = 2 from rfl, it_one, if_neg (by decide), show (2 : Int32) + 1 = 3 from rfl, it_one, if_pos (by decide)]
  rfl
theorem it_k {k : Nat} (hk : k < 64) (r : Nat) (hr : r < 3) : (3 * nI k + nI r).toNatClampNeg = 3 * k + r := by
  rw [show (3 : Int32) = nI 3 from rfl, pk_mul, nI_add, x_cl (by omega)]
theorem it_own (S : NS) (r q : Int32) (h : 7 + r = q) : sg (it1 S r) r = sg S q ∧ vl (it1 S r) r = vl S q := by
  subst h
  exact ⟨pk_us, pk_uLs⟩
theorem it_ne (S : NS) (r : Int32) {b : Int32} (h : b.toNatClampNeg ≠ r.toNatClampNeg) : sg (it1 S r) b = sg S b ∧ vl (it1 S r) b = vl S b := ⟨pk_un h, pk_uLn h⟩
theorem it_fin {S : NS} {k : Nat} (hk : k < 64) (hr : pN_rows S = nI k) : pN_traceSegment (it1 (it1 (it1 S 0) 1) 2) = upd (upd (upd (pN_traceSegment S) (3 * k) (sg S 0)) (3 * k + 1) (sg S 1)) (3 * k + 2) (sg S 2) ∧ pN_traceCell (it1 (it1 (it1 S 0) 1) 2) = vp_updL (vp_updL (vp_updL (pN_traceCell S) (3 * k) (vl S 0)) (3 * k + 1) (vl S 1)) (3 * k + 2) (vl S 2) ∧ sg (it1 (it1 (it1 S 0) 1) 2) 0 = sg S 7 ∧ vl (it1 (it1 (it1 S 0) 1) 2) 0 = vl S 7 ∧ sg (it1 (it1 (it1 S 0) 1) 2) 1 = sg S 8 ∧ vl (it1 (it1 (it1 S 0) 1) 2) 1 = vl S 8 ∧ sg (it1 (it1 (it1 S 0) 1) 2) 2 = sg S 9 ∧ vl (it1 (it1 (it1 S 0) 1) 2) 2 = vl S 9 := by
  have r0 : (3 * pN_rows S + 0).toNatClampNeg = 3 * k := by rw [hr]; exact it_k hk 0 (by decide)
  have r1 : (3 * pN_rows S + 1).toNatClampNeg = 3 * k + 1 := by rw [hr]; exact it_k hk 1 (by decide)
  have r2 : (3 * pN_rows S + 2).toNatClampNeg = 3 * k + 2 := by rw [hr]; exact it_k hk 2 (by decide)
  have a0 := it_own S 0 7 (by decide)
  have a1 := it_own (it1 S 0) 1 8 (by decide)
  have a2 := it_own (it1 (it1 S 0) 1) 2 9 (by decide)
  have b0 := it_ne (it1 S 0) 1 (b := 0) (by decide)
  have c0 := it_ne (it1 (it1 S 0) 1) 2 (b := 0) (by decide)
  have c1 := it_ne (it1 (it1 S 0) 1) 2 (b := 1) (by decide)
  have d8 := it_ne S 0 (b := 8) (by decide)
  have d9 := it_ne S 0 (b := 9) (by decide)
  have e9 := it_ne (it1 S 0) 1 (b := 9) (by decide)
  have x1 := it_ne S 0 (b := 1) (by decide)
  have x2 := it_ne S 0 (b := 2) (by decide)
  have y2 := it_ne (it1 S 0) 1 (b := 2) (by decide)
  refine ⟨?_, ?_, c0.1.trans (b0.1.trans a0.1), c0.2.trans (b0.2.trans a0.2), c1.1.trans (a1.1.trans d8.1), c1.2.trans (a1.2.trans d8.2), a2.1.trans (e9.1.trans d9.1), a2.2.trans (e9.2.trans d9.2)⟩
  · show upd (upd (upd (pN_traceSegment S) (3 * pN_rows S + 0).toNatClampNeg (sg S 0)) (3 * pN_rows S + 1).toNatClampNeg (sg (it1 S 0) 1)) (3 * pN_rows S + 2).toNatClampNeg (sg (it1 (it1 S 0) 1) 2) = _
    rw [r0, r1, r2, x1.1, y2.1, x2.1]
  · show vp_updL (vp_updL (vp_updL (pN_traceCell S) (3 * pN_rows S + 0).toNatClampNeg (vl S 0)) (3 * pN_rows S + 1).toNatClampNeg (vl (it1 S 0) 1)) (3 * pN_rows S + 2).toNatClampNeg (vl (it1 (it1 S 0) 1) 2) = _
    rw [r0, r1, r2, x1.2, y2.2, x2.2]
theorem rg_rows {P : PS} {X : NS} (m : MR (pP_mem P) X) (a0 : Ad X 0) (a1 : Ad X 1) (a2 : Ad X 2) (e0 : pP_pc P = enc (sg X 0) (vl X 0)) (e1 : pP_ap P = enc (sg X 1) (vl X 1)) (e2 : pP_fp P = enc (sg X 2) (vl X 2)) (r : Int32) : Rg P (sN_rows X r) := ⟨mr_fr m rfl rfl rfl, a0, a1, a2, e0, e1, e2⟩
theorem it_mr {M : Nat → Int64} {S : NS} (h : MR M S) (r : Int32) : MR M (it1 S r) := mr_fr h rfl rfl rfl
theorem it_fl (S : NS) (r : Int32) : pN_failure (it1 S r) = pN_failure S := rfl
theorem ad_fl {S : NS} {a : Int32} (h : Ad S a) (x : Int32) : Ad (sN_failure S x) a := h
theorem kp_fl (S : NS) (x : Int32) : Kp S (sN_failure S x) := kp_rf S
theorem fl_sg (S : NS) (x a : Int32) : sg (sN_failure S x) a = sg S a ∧ vl (sN_failure S x) a = vl S a := ⟨rfl, rfl⟩
theorem rows_x (X : NS) (r : Int32) : pN_failure (sN_rows X r) = pN_failure X ∧ pN_rows (sN_rows X r) = r ∧ pN_traceSegment (sN_rows X r) = pN_traceSegment X ∧ pN_traceCell (sN_rows X r) = pN_traceCell X := ⟨rfl, rfl, rfl, rfl⟩
theorem sr_go {k n : Nat} (hk : k < 64) {N M : NS} {Q : PS} (hr : pN_rows N = nI k) (hR : R6 n Q M) (hp : Kp N M) {C : Int32 × PS} (e1 : C.1 = 0) (e2 : C.2 = sP_fp (sP_ap (sP_pc Q (pP_newPc Q)) (pP_newAp Q)) (pP_newFp Q)) (t : Int32) {S : NS} (hM : f_X7_move (f_X7_jump S t) = M) : Sr k N C (f_X7_step_J66 S t) := by
  have t0 := r2_t hR.1.1.1.1
  unfold f_X7_step_J66
  rw [hM, if_pos (show pN_trouble (sN_failure M (pN_trouble M)) ≤ 0 from o_le t0), it_all]
  have mM : MR (pP_mem Q) (sN_failure M (pN_trouble M)) := mr_fr (r2_mr hR.1.1.1.1) rfl rfl rfl
  have hpM : Kp N (sN_failure M (pN_trouble M)) := kp_tr hp (kp_fl M _)
  have fM : pN_failure (sN_failure M (pN_trouble M)) = 0 := t0
  have a7 := ad_fl hR.1.1.2.1 (pN_trouble M)
  have a8 := ad_fl hR.1.2.1 (pN_trouble M)
  have a9 := ad_fl hR.2.1 (pN_trouble M)
  have v7 : pP_newPc Q = enc (sg (sN_failure M (pN_trouble M)) 7) (vl (sN_failure M (pN_trouble M)) 7) := hR.1.1.2.2
  have v8 : pP_newAp Q = enc (sg (sN_failure M (pN_trouble M)) 8) (vl (sN_failure M (pN_trouble M)) 8) := hR.1.2.2
  have v9 : pP_newFp Q = enc (sg (sN_failure M (pN_trouble M)) 9) (vl (sN_failure M (pN_trouble M)) 9) := hR.2.2
  generalize sN_failure M (pN_trouble M) = F at *
  have hrM : pN_rows F = nI k := hpM.2.2.2.2.2.2.1.trans hr
  obtain ⟨f1, f2, f3, f4, f5, f6, f7, f8⟩ := it_fin hk hrM
  have m := it_mr (it_mr (it_mr mM 0) 1) 2
  have fl : pN_failure (it1 (it1 (it1 F 0) 1) 2) = 0 := by rw [it_fl, it_fl, it_fl]; exact fM
  rw [hpM.1, hpM.2.2.1, hpM.2.2.2.2.1, hpM.2.2.2.2.2.2.2.1] at f1
  rw [hpM.2.1, hpM.2.2.2.1, hpM.2.2.2.2.2.1, hpM.2.2.2.2.2.2.2.2] at f2
  have b7 := ad_eq a7 f3 f4
  have b8 := ad_eq a8 f5 f6
  have b9 := ad_eq a9 f7 f8
  rw [← f3, ← f4] at v7
  rw [← f5, ← f6] at v8
  rw [← f7, ← f8] at v9
  generalize it1 (it1 (it1 F 0) 1) 2 = X at *
  rw [hrM, nI_1]
  obtain ⟨x1, x2, x3, x4⟩ := rows_x X (nI (k + 1))
  refine Or.inr ⟨e1, rfl, x1.trans fl, ?_, x2, x3.trans f1, x4.trans f2⟩
  rw [e2]
  exact rg_rows (P := sP_fp (sP_ap (sP_pc Q (pP_newPc Q)) (pP_newAp Q)) (pP_newFp Q)) m b7 b8 b9 v7 v8 v9 _
theorem step_r {P : PS} {N : NS} (hg : Rg P N) {k : Nat} (hr : pN_rows N = nI k) (hk : k < 64) : Sr k N (f_X2_step P) (f_X7_step N) := by
  have hg0 : Rg P (sN_trouble N 0) := hg
  have stop : ∀ {c : Int32} {Q : PS} {S : NS}, St c P (sN_trouble N 0) Q S → Sr k N (c, Q) (0, sN_failure S (pN_trouble S)) := fun h => sr_stop hg hr (st_pre h (kc_rf P) (kp_t N 0))
  rw [cl1_eq]
  unfold f_X7_step
  rcases p1 hg0 rfl with ⟨c, hs, e⟩ | ⟨e, ⟨n, hR⟩, hc, hp⟩
  · rw [if_neg (c := pN_trouble (f_X7_places (sN_trouble N 0)) = 0) (by rw [hs.2.2.1]; exact hs.1), e, (j_stop hs.1 _).2.2.2.2]
    have q1 : ¬ pN_trouble (f_X7_places (sN_trouble N 0)) ≤ 0 := by rw [hs.2.2.1]; exact hs.2.1
    rw [s20a (by rw [s_ded q1, s_res q1]) (by rw [hs.2.2.1]; exact hs.1) q1]
    exact stop hs
  · rw [if_pos hR.2.1, e, j33]
    generalize (cl1 P).2 = P1 at *
    generalize f_X7_places (sN_trouble N 0) = N1 at *
    rcases p2 hR with ⟨c, hs, e⟩ | ⟨e, hR2, hc2, hp2⟩
    · have q1 : ¬ pN_trouble (f_X7_placeOfOp1 N1) ≤ 0 := by rw [hs.2.2.1]; exact hs.2.1
      rw [e, (j_stop hs.1 _).2.2.2.1, s20a (by rw [s_ded q1, s_res q1]) (by rw [hs.2.2.1]; exact hs.1) q1]
      exact stop (st_pre hs hc hp)
    · rw [e, j42]
      generalize (f_X2_placeOp1 P1).2 = P2 at *
      generalize f_X7_placeOfOp1 N1 = N2 at *
      have hc2' := kc_tr hc hc2
      have hp2' := kp_tr hp hp2
      rcases p3 hR2 with ⟨c, hs, e⟩ | ⟨e, hR3, hc3, hp3⟩
      · have q1 : ¬ pN_trouble (f_X7_deduce N2) ≤ 0 := by rw [hs.2.2.1]; exact hs.2.1
        rw [e, (j_stop hs.1 _).2.2.1, s20a (D := f_X7_deduce N2) (s_res q1) (by rw [hs.2.2.1]; exact hs.1) q1]
        exact stop (st_pre hs hc2' hp2')
      · rw [e, j70]
        have hc3' := kc_tr hc2' hc3
        have hp3' := kp_tr hp2' hp3
        rcases p4 hR3 with ⟨c, hs, e⟩ | ⟨e, hR4, hc4, hp4⟩
        · have q1 : ¬ pN_trouble (f_X7_result (f_X7_deduce N2)) ≤ 0 := by rw [hs.2.2.1]; exact hs.2.1
          rw [e, (j_stop hs.1 _).2.1, s20a (D := f_X7_result (f_X7_deduce N2)) rfl (by rw [hs.2.2.1]; exact hs.1) q1]
          exact stop (st_pre hs hc3' hp3')
        · rw [e, j89]
          have hc4' := kc_tr hc3' hc4
          have hp4' := kp_tr hp3' hp4
          have e20 : f_X7_step_J20 N2 = f_X7_step_J51 (if f_X7_flag (f_X7_result (f_X7_deduce N2)) 44 = 0 then f_X7_result (f_X7_deduce N2) else f_X7_store (f_X7_result (f_X7_deduce N2)) 3 6) := by
            unfold f_X7_step_J20
            rw [if_pos (r2_t hR4.1)]
            split <;> rfl
          rw [e20]
          generalize (cl4 (cl3 P2).2).2 = P4 at *
          generalize f_X7_result (f_X7_deduce N2) = N4 at *
          rcases p5 hR4 with ⟨c, hs, e⟩ | ⟨e, hR5, hc5, hp5⟩
          · have q1 : ¬ pN_trouble (if f_X7_flag N4 44 = 0 then N4 else f_X7_store N4 3 6) ≤ 0 := by rw [hs.2.2.1]; exact hs.2.1
            rw [e, (j_stop hs.1 _).1, s51 q1]
            exact stop (st_pre hs hc4' hp4')
          · rw [e, j116]
            have hc5' := kc_tr hc4' hc5
            have hp5' := kp_tr hp4' hp5
            generalize (cl5 P4).2 = P5 at *
            generalize (if f_X7_flag N4 44 = 0 then N4 else f_X7_store N4 3 6) = N5 at *
            have h1 := hR5.1.1
            have go : ∀ a : Int32, ((wb n 32 = 0 ∧ a = 1) ∨ (wb n 32 = 1 ∧ a = 2)) → Sr k N (f_X2_moveRegisters P5) (f_X7_step_J66 N5 a) := by
              intro a ha
              rcases p7 hR5 ha with ⟨c, hs, e⟩ | ⟨e, hp7, Q, hR7, e7⟩
              · have q1 : ¬ pN_trouble (f_X7_move (f_X7_jump N5 a)) ≤ 0 := by rw [hs.2.2.1]; exact hs.2.1
                unfold f_X7_step_J66
                rw [if_neg (show ¬ pN_trouble (sN_failure (f_X7_move (f_X7_jump N5 a)) (pN_trouble (f_X7_move (f_X7_jump N5 a)))) ≤ 0 from q1)]
                have r := stop (st_pre hs hc5' hp5')
                rw [← e] at r
                exact r
              · exact sr_go hk hr hR7 (kp_tr (kp_t N 0) (kp_tr hp5' hp7)) e e7 a rfl
            unfold f_X7_step_J51
            rcases w_flag (P := P5) h1.2.2.1 h1.2.2.2.2.2.2.1 h1.2.2.2.2.2.1 2 (by decide) (m := 4) (i := 32) rfl rfl with ⟨-, b2, b3⟩ | ⟨-, b2, b3⟩
            · rw [if_pos (c := f_X7_flag N5 32 = 0) b2]; exact go 1 (Or.inl ⟨b3, rfl⟩)
            · rw [if_neg (c := f_X7_flag N5 32 = 0) (by rw [b2]; decide)]; exact go 2 (Or.inr ⟨b3, rfl⟩)
