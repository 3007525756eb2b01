/-! ap and fp -/
def R5 (n : Nat) (P : PS) (N : NS) : Prop := R4 n P N ∧ Ad N 8 ∧ pP_newAp P = enc (sg N 8) (vl N 8)
def R6 (n : Nat) (P : PS) (N : NS) : Prop := R5 n P N ∧ Ad N 9 ∧ pP_newFp P = enc (sg N 9) (vl N 9)
theorem fap_eq (P : PS) : f_X2_findAp P = if f_X2_has P 1024 = 0 then (if f_X2_has P 2048 = 0 then (if f_X2_has P 4096 = 0 then (f_X2_reckoned (pP_ap P), sP_newAp P (pP_ap P)) else (f_X2_reckoned (f_X4_shifted (pP_ap P) 2), sP_newAp P (f_X4_shifted (pP_ap P) 2))) else (f_X2_reckoned (f_X4_shifted (pP_ap P) 1), sP_newAp P (f_X4_shifted (pP_ap P) 1))) else (f_X2_reckoned (f_X4_plus (pP_ap P) (pP_res P)), sP_newAp P (f_X4_plus (pP_ap P) (pP_res P))) := by
  have h4 : ∀ x, pP_newAp (sP_newAp P x) = x := fun _ => rfl
  unfold f_X2_findAp
  rw [h4, h4, h4, h4]
theorem ffp_eq (P : PS) : f_X2_findFp P = if f_X2_has P 4096 = 0 then (if f_X2_has P 8192 = 0 then f_X2_findFp_J64 (sP_newFp P (pP_fp P)) else if f_X2_look P (pP_dstPlace P) = -1 then (1, sP_newFp P (f_X2_look P (pP_dstPlace P))) else f_X2_findFp_J64 (sP_newFp P (f_X2_look P (pP_dstPlace P)))) else f_X2_findFp_J64 (sP_newFp P (pP_newAp P)) := by
  have h1 : ∀ x y, sP_newFp (sP_newFp P x) y = sP_newFp P y := fun _ _ => rfl
  have h2 : ∀ x z, f_X2_look (sP_newFp P x) z = f_X2_look P z := fun _ _ => rfl
  have h3 : ∀ x m, f_X2_has (sP_newFp P x) m = f_X2_has P m := fun _ _ => rfl
  have h4 : ∀ x, pP_newFp (sP_newFp P x) = x := fun _ => rfl
  have h5 : ∀ x, pP_dstPlace (sP_newFp P x) = pP_dstPlace P := fun _ => rfl
  have h6 : ∀ x, pP_newAp (sP_newFp P x) = pP_newAp P := fun _ => rfl
  unfold f_X2_findFp
  rw [h3 (pP_fp P) 4096, h3 (pP_fp P) 8192, h5, h2, h1 (pP_fp P) (f_X2_look P (pP_dstPlace P)), h6, h1 (pP_fp P) (pP_newAp P), h4]
theorem j64_eq (P : PS) (x : Int64) : f_X2_findFp_J64 (sP_newFp P x) = if f_X4_isAddress x = 0 then (4, sP_newFp P x) else (0, sP_newFp P x) := rfl
theorem fin8 {n : Nat} {P : PS} {N F X : NS} (h : R4 n P N) (kF : K6 N F) (s7 : sg F 7 = sg N 7 ∧ vl F 7 = vl N 7) (mF : MR (pP_mem P) F) (tF : pN_trouble F = 0) (hX : Fr F X) {r : Int64} (hr : r = res X) (hg : Gd X) (hk : pN_there X = 1 → ¬ pN_gotKind X = 0) : Pt (R5 n) P N (f_X2_reckoned r, sP_newAp P r) (f_X7_place X 8) := by
  rcases fin_q kF mF tF hX hg hk 8 (by decide) with ⟨g1, g2, g3, g4⟩ | ⟨g1, g2, g3, g4, g5, g6, g7⟩
  · rw [hr, g1, reck_m1]
    exact Or.inl ⟨4, st4 (by decide) (by decide) g2 ⟨rfl, rfl, rfl⟩ g3.1.1.1 g4, rfl⟩
  · rw [hr, reck_no g1, g2]
    have k8 := keep_ne X (a := 8) (b := 7) (by decide)
    have f8 := fr_sg hX 7
    have e7 : sg (f_X7_keep X 8) 7 = sg N 7 ∧ vl (f_X7_keep X 8) 7 = vl N 7 := ⟨k8.1.trans (f8.1.trans s7.1), k8.2.trans (f8.2.1.trans s7.2)⟩
    exact Or.inr ⟨rfl, ⟨⟨r3_k6 h.1 g5 g3 (c6_ap P _) g4, ad_eq h.2.1 e7.1 e7.2, by rw [e7.1, e7.2]; exact h.2.2⟩, g6, g7⟩, ⟨rfl, rfl, rfl⟩, g4.1.1.1⟩
theorem p7_ap {n : Nat} {P : PS} {N : NS} (h : R4 n P N) : ∃ X, f_X7_move N = f_X7_move_J72 X ∧ Pt (R5 n) P N (f_X2_findAp P) (f_X7_place X 8) := by
  have h1 := h.1.1.1
  have hn := h1.2.2.1
  have hok := h1.2.2.2.1
  have hf := h1.2.2.2.2.2.2.1
  have hw := h1.2.2.2.2.2.1
  have mm := r2_mr h.1.1
  have t0 := r2_t h.1.1
  obtain ⟨-, d0, d1, d2, e0, e1, e2⟩ := h1.1
  unfold f_X7_move
  rw [if_pos (o_le t0)]
  change ∃ X, (if f_X7_flag (f_X7_give N (sg N 1) (vl N 1)) 40 = 0 then f_X7_move_J40 (f_X7_give N (sg N 1) (vl N 1)) else f_X7_move_J40 (f_X7_plus (f_X7_give N (sg N 1) (vl N 1)) 1 6)) = f_X7_move_J72 X ∧ _
  have fG := fr_give N (sg N 1) (vl N 1)
  have gG : Gd (f_X7_give N (sg N 1) (vl N 1)) := Or.inr ⟨rfl, d1.1⟩
  have rG : res (f_X7_give N (sg N 1) (vl N 1)) = enc (sg N 1) (vl N 1) := res1 rfl
  have kG : ¬ pN_gotKind (f_X7_give N (sg N 1) (vl N 1)) = 0 := d1.2
  have tG : pN_trouble (f_X7_give N (sg N 1) (vl N 1)) = 0 := t0
  have wG : pN_word (f_X7_give N (sg N 1) (vl N 1)) = lN n := hw
  generalize f_X7_give N (sg N 1) (vl N 1) = G at *
  have mG := fr_mr mm fG
  have s7 := fr_sg fG 7
  have s1 := fr_sg fG 1
  have s6 := fr_sg fG 6
  have aG1 : Ad G 1 := ad_eq d1 s1.1 s1.2.1
  have eG1 : pP_ap P = enc (sg G 1) (vl G 1) := by rw [s1.1, s1.2.1]; exact e1
  have k6G := k6_fr fG
  obtain ⟨-, -, -, ok4, ok5, -, -, ok8⟩ := hok
  rw [fap_eq]
  rcases w_flag (P := P) hn hf wG 10 (by decide) (m := 1024) (i := 40) rfl rfl with ⟨a1, a2, a3⟩ | ⟨a1, a2, a3⟩
  · rw [if_pos a1, if_pos (c := f_X7_flag G 40 = 0) a2]
    unfold f_X7_move_J40
    rcases w_flag (P := P) hn hf wG 11 (by decide) (m := 2048) (i := 41) rfl rfl with ⟨b1, b2, b3⟩ | ⟨b1, b2, b3⟩
    · rw [if_pos b1, if_pos (c := f_X7_flag G 41 = 0) b2]
      unfold f_X7_move_J55
      rcases w_flag (P := P) hn hf wG 12 (by decide) (m := 4096) (i := 42) rfl rfl with ⟨c1, c2, c3⟩ | ⟨c1, c2, c3⟩
      · rw [if_pos c1, if_pos (c := f_X7_flag G 42 = 0) c2]
        exact ⟨G, rfl, fin8 h k6G ⟨s7.1, s7.2.1⟩ mG tG (fr_rf G) (by rw [rG]; exact e1) gG (fun _ => kG)⟩
      · rw [if_neg (c := f_X2_has P 4096 = 0) (by rw [c1]; decide), if_neg (c := f_X7_flag G 42 = 0) (by rw [c2]; decide)]
        obtain ⟨x1, x2, x3, -⟩ := r_further aG1.1 aG1.2 2
        exact ⟨_, rfl, fin8 h k6G ⟨s7.1, s7.2.1⟩ mG tG (fr_further G 1 2) (by rw [eG1]; exact x1) x2 (fun _ => by rw [x3]; exact aG1.2)⟩
    · rw [if_neg (c := f_X2_has P 2048 = 0) (by rw [b1]; decide), if_neg (c := f_X7_flag G 41 = 0) (by rw [b2]; decide)]
      unfold f_X7_move_J55
      have w2 : pN_word (f_X7_further G 1 1) = lN n := (fr_sg (fr_further G 1 1) 0).2.2.trans wG
      rcases w_flag (P := P) hn hf w2 12 (by decide) (m := 4096) (i := 42) rfl rfl with ⟨c1, c2, c3⟩ | ⟨c1, c2, c3⟩
      · rw [if_pos (c := f_X7_flag (f_X7_further G 1 1) 42 = 0) c2]
        obtain ⟨x1, x2, x3, -⟩ := r_further aG1.1 aG1.2 1
        exact ⟨_, rfl, fin8 h k6G ⟨s7.1, s7.2.1⟩ mG tG (fr_further G 1 1) (by rw [eG1]; exact x1) x2 (fun _ => by rw [x3]; exact aG1.2)⟩
      · exact absurd (ok8 c3) (by rw [show wb n 41 = 1 from b3]; omega)
  · rw [if_neg (c := f_X2_has P 1024 = 0) (by rw [a1]; decide), if_neg (c := f_X7_flag G 40 = 0) (by rw [a2]; decide)]
    have w2 : pN_word (f_X7_plus G 1 6) = lN n := (fr_sg (fr_plus G 1 6) 0).2.2.trans wG
    unfold f_X7_move_J40
    rcases w_flag (P := P) hn hf w2 11 (by decide) (m := 2048) (i := 41) rfl rfl with ⟨b1, b2, b3⟩ | ⟨b1, b2, b3⟩
    · rw [if_pos (c := f_X7_flag (f_X7_plus G 1 6) 41 = 0) b2]
      unfold f_X7_move_J55
      rcases w_flag (P := P) hn hf w2 12 (by decide) (m := 4096) (i := 42) rfl rfl with ⟨c1, c2, c3⟩ | ⟨c1, c2, c3⟩
      · rw [if_pos (c := f_X7_flag (f_X7_plus G 1 6) 42 = 0) c2]
        rcases h.1.2 with q | ⟨q1, q2⟩
        · rw [q.2.2.1] at a3; exact absurd a3 (by decide)
        · have v6 : Vok (sg G 6) (vl G 6) := by rw [s6.1, s6.2.1]; exact q1
          have rp := r_plus aG1.1 v6
          rw [← eG1, s6.1, s6.2.1, ← q2] at rp
          exact ⟨_, rfl, fin8 h k6G ⟨s7.1, s7.2.1⟩ mG tG (fr_plus G 1 6) rp.1 rp.2 (plus_kind aG1.2)⟩
      · exact absurd (ok8 c3) (by rw [show wb n 40 = 1 from a3]; omega)
    · exact absurd ok4 (by rw [show wb n 40 = 1 from a3, show wb n 41 = 1 from b3]; omega)
def m72 (Y : NS) : NS := if f_X7_flag (f_X7_give Y (sg Y 2) (vl Y 2)) 42 = 0 then f_X7_move_J129 (f_X7_give Y (sg Y 2) (vl Y 2)) else f_X7_move_J129 (f_X7_give (f_X7_give Y (sg Y 2) (vl Y 2)) (sg (f_X7_give Y (sg Y 2) (vl Y 2)) 8) (vl (f_X7_give Y (sg Y 2) (vl Y 2)) 8))
theorem m72_eq (X : NS) : f_X7_move_J72 X = if pN_trouble (f_X7_place X 8) ≤ 0 then m72 (f_X7_place X 8) else f_X7_place X 8 := by
  unfold f_X7_move_J72 m72
  generalize f_X7_place X 8 = Y
  rfl
theorem c6_fp (P : PS) (x : Int64) : C6 P (sP_newFp P x) := ⟨⟨⟨⟨rfl, rfl, rfl⟩, rfl, rfl, rfl, rfl⟩, rfl⟩, rfl⟩
theorem fin9 {n : Nat} {P : PS} {N F X : NS} (h : R5 n P N) (hF : Fr N F) (hX : Fr F X) (ht : pN_there X = 1) (hv : Vok (pN_gotKind X) (pN_got X)) {r : Int64} (hr : r = enc (pN_gotKind X) (pN_got X)) : Pt (R6 n) P N (f_X2_findFp_J64 (sP_newFp P r)) (f_X7_place X 9) := by
  have h3 := h.1.1
  have mX := fr_mr (fr_mr (r2_mr h3.1) hF) hX
  have tX : pN_trouble X = 0 := (fr_tr0 hX).trans ((fr_tr0 hF).trans (r2_t h3.1))
  have kX := k6_tr (k6_fr hF) (k6_fr hX)
  rw [j64_eq]
  by_cases k0 : pN_gotKind X = 0
  · rw [o_place2 tX ht k0 9, if_pos (show f_X4_isAddress r = 0 by rw [hr]; exact (v_isA hv).mpr k0)]
    have k := k6_tr kX (k6_keep X (a := 9) (by decide))
    exact Or.inl ⟨4, st4 (by decide) (by decide) rfl ⟨rfl, rfl, rfl⟩ (kp_tr k.1.1.1 (kp_t _ _)) (t_mr (keep_mr mX 9) 4), rfl⟩
  · rw [o_place1 tX ht k0 9, if_neg (show ¬ f_X4_isAddress r = 0 by rw [hr]; exact fun z => k0 ((v_isA hv).mp z))]
    have k := k6_tr kX (k6_keep X (a := 9) (by decide))
    have ko := keep_own X 9
    have n7 := keep_ne X (a := 9) (b := 7) (by decide)
    have n8 := keep_ne X (a := 9) (b := 8) (by decide)
    have a7 := fr_sg hF 7
    have b7 := fr_sg hX 7
    have a8 := fr_sg hF 8
    have b8 := fr_sg hX 8
    have e7 : sg (f_X7_keep X 9) 7 = sg N 7 ∧ vl (f_X7_keep X 9) 7 = vl N 7 := ⟨n7.1.trans (b7.1.trans a7.1), n7.2.trans (b7.2.1.trans a7.2.1)⟩
    have e8 : sg (f_X7_keep X 9) 8 = sg N 8 ∧ vl (f_X7_keep X 9) 8 = vl N 8 := ⟨n8.1.trans (b8.1.trans a8.1), n8.2.trans (b8.2.1.trans a8.2.1)⟩
    refine Or.inr ⟨rfl, ⟨⟨⟨r3_k6 h3 (keep_mr mX 9) tX (c6_fp P r) k, ad_eq h.1.2.1 e7.1 e7.2, by rw [e7.1, e7.2]; exact h.1.2.2⟩, ad_eq h.2.1 e8.1 e8.2, by rw [e8.1, e8.2]; exact h.2.2⟩, ⟨by rw [ko.1, ko.2]; exact hv, by rw [ko.1]; exact k0⟩, by rw [ko.1, ko.2]; exact hr⟩, ⟨rfl, rfl, rfl⟩, k.1.1.1⟩
theorem p7_fp {n : Nat} {P : PS} {N : NS} (h : R5 n P N) : Pt (R6 n) P N (f_X2_findFp P) (m72 N) := by
  have h3 := h.1.1
  have h1 := h3.1.1
  have hn := h1.2.2.1
  have hok := h1.2.2.2.1
  have hf := h1.2.2.2.2.2.2.1
  have hw := h1.2.2.2.2.2.1
  have mm := r2_mr h3.1
  have t0 := r2_t h3.1
  obtain ⟨-, d0, d1, d2, e0, e1, e2⟩ := h1.1
  unfold m72
  have fH := fr_give N (sg N 2) (vl N 2)
  have vH : Vok (pN_gotKind (f_X7_give N (sg N 2) (vl N 2))) (pN_got (f_X7_give N (sg N 2) (vl N 2))) := d2.1
  have eH : pP_fp P = enc (pN_gotKind (f_X7_give N (sg N 2) (vl N 2))) (pN_got (f_X7_give N (sg N 2) (vl N 2))) := e2
  have tH : pN_there (f_X7_give N (sg N 2) (vl N 2)) = 1 := rfl
  have wH : pN_word (f_X7_give N (sg N 2) (vl N 2)) = lN n := hw
  have rH : pN_trouble (f_X7_give N (sg N 2) (vl N 2)) = 0 := t0
  generalize f_X7_give N (sg N 2) (vl N 2) = H at *
  have s8 := fr_sg fH 8
  have s3 := fr_sg fH 3
  have mH := fr_mr mm fH
  obtain ⟨-, -, -, -, ok5, -⟩ := hok
  rw [ffp_eq]
  rcases w_flag (P := P) hn hf wH 12 (by decide) (m := 4096) (i := 42) rfl rfl with ⟨a1, a2, a3⟩ | ⟨a1, a2, a3⟩
  · rw [if_pos a1, if_pos (c := f_X7_flag H 42 = 0) a2]
    unfold f_X7_move_J129
    rcases w_flag (P := P) hn hf wH 13 (by decide) (m := 8192) (i := 43) rfl rfl with ⟨b1, b2, b3⟩ | ⟨b1, b2, b3⟩
    · rw [if_pos b1, if_pos (c := f_X7_flag H 43 = 0) b2]
      exact fin9 h fH (fr_rf H) tH vH eH
    · rw [if_neg (c := f_X2_has P 8192 = 0) (by rw [b1]; decide), if_neg (c := f_X7_flag H 43 = 0) (by rw [b2]; decide)]
      have a3' : Ad H 3 := ad_eq h1.2.2.2.2.2.2.2.1 s3.1 s3.2.1
      have l3 := r_look mH a3'
      rw [s3.1, s3.2.1, ← h1.2.2.2.2.2.2.2.2.1] at l3
      have f3 := fr_read H 3
      rcases gd_m1 l3.2 with ⟨g1, g2⟩ | ⟨g1, g2, g3, g4⟩
      · have q1 : ¬ pN_trouble (sN_trouble (f_X7_read H 3) 1) ≤ 0 := by show ¬ (1 : Int32) ≤ 0; decide
        have q2 : ¬ pN_trouble (sN_trouble (f_X7_read H 3) 1) = 0 := by show ¬ (1 : Int32) = 0; decide
        rw [o_needed0 rH 3 g2, s_place q1 q2, if_pos (l3.1.trans g1)]
        exact Or.inl ⟨1, st4 (by decide) (by decide) rfl ⟨rfl, rfl, rfl⟩ (kp_tr (kp_fr fH) (kp_tr (kp_fr f3) (kp_t _ _))) (t_mr (fr_mr mH f3) 1), rfl⟩
      · rw [o_needed1 rH 3 g2, if_neg (c := f_X2_look P (pP_dstPlace P) = -1) (by rw [l3.1]; exact g1)]
        exact fin9 h fH f3 g2 g3 (by rw [l3.1]; exact g4)
  · rw [if_neg (c := f_X2_has P 4096 = 0) (by rw [a1]; decide), if_neg (c := f_X7_flag H 42 = 0) (by rw [a2]; decide)]
    unfold f_X7_move_J129
    have fZ := fr_give H (sg H 8) (vl H 8)
    have wZ : pN_word (f_X7_give H (sg H 8) (vl H 8)) = lN n := wH
    rcases w_flag (P := P) hn hf wZ 13 (by decide) (m := 8192) (i := 43) rfl rfl with ⟨b1, b2, b3⟩ | ⟨b1, b2, b3⟩
    · rw [if_pos (c := f_X7_flag (f_X7_give H (sg H 8) (vl H 8)) 43 = 0) b2]
      refine fin9 h fH fZ rfl ?_ ?_
      · show Vok (sg H 8) (vl H 8)
        rw [s8.1, s8.2.1]; exact h.2.1.1
      · show pP_newAp P = enc (sg H 8) (vl H 8)
        rw [s8.1, s8.2.1]; exact h.2.2
    · exact absurd ok5 (by rw [show wb n 42 = 1 from a3, show wb n 43 = 1 from b3]; omega)
/-- all three -/
theorem p7 {n : Nat} {P : PS} {N : NS} (h : R3 n P N) {a : Int32} (ha : (wb n 32 = 0 ∧ a = 1) ∨ (wb n 32 = 1 ∧ a = 2)) : (∃ c, St c P N (f_X2_moveRegisters P).2 (f_X7_move (f_X7_jump N a)) ∧ (f_X2_moveRegisters P).1 = c) ∨ ((f_X2_moveRegisters P).1 = 0 ∧ Kp N (f_X7_move (f_X7_jump N a)) ∧ ∃ Q, R6 n Q (f_X7_move (f_X7_jump N a)) ∧ (f_X2_moveRegisters P).2 = sP_fp (sP_ap (sP_pc Q (pP_newPc Q)) (pP_newAp Q)) (pP_newFp Q)) := by
  have e : f_X2_moveRegisters P = f_X2_moveRegisters_J21 (cl6 P).1 (cl6 P).2 := by
    unfold f_X2_moveRegisters cl6
    split <;> rfl
  rw [e]
  unfold f_X2_moveRegisters_J21 f_X2_moveRegisters_J31 f_X2_moveRegisters_J40
  rcases p6_pc h ha with ⟨c, hs, ec⟩ | ⟨e1, hR, hc, hk⟩
  · obtain ⟨n0, n1, n2, n3, n4, n5⟩ := hs
    have nm : f_X7_move (f_X7_jump N a) = f_X7_jump N a := by unfold f_X7_move; rw [if_neg (by rw [n2]; exact n1)]
    rw [ec, if_neg n0, if_neg n0, if_neg n0, nm]
    exact Or.inl ⟨c, ⟨n0, n1, n2, n3, n4, n5⟩, rfl⟩
  · rw [e1, if_pos (show (0 : Int32) = 0 from rfl)]
    generalize (cl6 P).2 = P1 at *
    generalize f_X7_jump N a = J at *
    obtain ⟨X, eX, hX⟩ := p7_ap hR
    rw [eX, m72_eq]
    rcases hX with ⟨c, ⟨n0, n1, n2, n3, n4, n5⟩, ec⟩ | ⟨e2, hR5, hc5, hk5⟩
    · rw [if_neg (c := pN_trouble (f_X7_place X 8) ≤ 0) (by rw [n2]; exact n1), ec, if_neg n0, if_neg n0]
      exact Or.inl ⟨c, ⟨n0, n1, n2, kc_tr hc n3, kp_tr hk n4, n5⟩, rfl⟩
    · rw [if_pos (o_le (r2_t hR5.1.1.1)), e2, if_pos (show (0 : Int32) = 0 from rfl)]
      generalize (f_X2_findAp P1).2 = P2 at *
      generalize f_X7_place X 8 = Y at *
      rcases p7_fp hR5 with ⟨c, ⟨n0, n1, n2, n3, n4, n5⟩, ec⟩ | ⟨e3, hR6, hc6, hk6⟩
      · rw [ec, if_neg n0]
        exact Or.inl ⟨c, ⟨n0, n1, n2, kc_tr hc (kc_tr hc5 n3), kp_tr hk (kp_tr hk5 n4), n5⟩, rfl⟩
      · rw [e3, if_pos (show (0 : Int32) = 0 from rfl)]
        exact Or.inr ⟨rfl, kp_tr hk (kp_tr hk5 hk6), (f_X2_findFp P2).2, hR6, rfl⟩
