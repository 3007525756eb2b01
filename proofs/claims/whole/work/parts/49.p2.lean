/-! a step, further parts: OP1's place; what is deduced; RES; the assertion -/
/-- the second part of what is kept: the word, and the places 3 and 4 -/
def K4 (N T : NS) : Prop := Kp N T ∧ pN_word T = pN_word N ∧ sg T 3 = sg N 3 ∧ vl T 3 = vl N 3 ∧ sg T 4 = sg N 4 ∧ vl T 4 = vl N 4
theorem k4_rf (N : NS) : K4 N N := ⟨kp_rf N, rfl, rfl, rfl, rfl, rfl⟩
theorem k4_tr {A B C : NS} (h : K4 A B) (g : K4 B C) : K4 A C := ⟨kp_tr h.1 g.1, g.2.1.trans h.2.1, g.2.2.1.trans h.2.2.1, g.2.2.2.1.trans h.2.2.2.1, g.2.2.2.2.1.trans h.2.2.2.2.1, g.2.2.2.2.2.trans h.2.2.2.2.2⟩
theorem k4_fr {N T : NS} (h : Fr N T) : K4 N T := ⟨kp_fr h, (fr_sg h 0).2.2, (fr_sg h 3).1, (fr_sg h 3).2.1, (fr_sg h 4).1, (fr_sg h 4).2.1⟩
theorem k4_fw {N T : NS} (h : Fw N T) : K4 N T := ⟨kp_fw h, (fw_sg h 0).2.2.1, (fw_sg h 3).1, (fw_sg h 3).2.1, (fw_sg h 4).1, (fw_sg h 4).2.1⟩
theorem k4_t (N : NS) (t : Int32) : K4 N (sN_trouble N t) := k4_rf N
theorem k4_keep (N : NS) {a : Int32} (h : 4 < a.toNatClampNeg) : K4 N (f_X7_keep N a) := ⟨kp_keep N (by omega) (by omega) (by omega), rfl, (keep_ne N (b := 3) (a := a) (by rw [show (3 : Int32).toNatClampNeg = 3 by decide]; omega)).1, (keep_ne N (b := 3) (a := a) (by rw [show (3 : Int32).toNatClampNeg = 3 by decide]; omega)).2, (keep_ne N (b := 4) (a := a) (by rw [show (4 : Int32).toNatClampNeg = 4 by decide]; omega)).1, (keep_ne N (b := 4) (a := a) (by rw [show (4 : Int32).toNatClampNeg = 4 by decide]; omega)).2⟩
def C4 (P Q : PS) : Prop := Kc P Q ∧ pP_word Q = pP_word P ∧ pP_flags Q = pP_flags P ∧ pP_dstPlace Q = pP_dstPlace P ∧ pP_op0Place Q = pP_op0Place P
theorem r1_k4 {n : Nat} {P Q : PS} {N T : NS} (h : R1 n P N) (hm : MR (pP_mem Q) T) (ht : pN_trouble T = 0) (hc : C4 P Q) (hk : K4 N T) : R1 n Q T := by
  obtain ⟨hg, h0, hn, hok, w1, w2, hf, d3, p3, d4, p4, c0, hc0, ec0⟩ := h
  exact ⟨rg_kp hg hm hc.1 hk.1, ht, hn, hok, hc.2.1.trans w1, hk.2.1.trans w2, hc.2.2.1.trans hf, ad_eq d3 hk.2.2.1 hk.2.2.2.1, by rw [hc.2.2.2.1, hk.2.2.1, hk.2.2.2.1]; exact p3, ad_eq d4 hk.2.2.2.2.1 hk.2.2.2.2.2, by rw [hc.2.2.2.2, hk.2.2.2.2.1, hk.2.2.2.2.2]; exact p4, c0, hc0, hk.1.2.1.trans ec0⟩
def R2 (n : Nat) (P : PS) (N : NS) : Prop := R1 n P N ∧ Ad N 5 ∧ pP_op1Place P = enc (sg N 5) (vl N 5)
/-- one place, also an address -/
theorem one_placeP {N : NS} {a q : Int32} (h : Ad N a) (h0 : pN_trouble N = 0) (d : Int64) : (f_X4_shifted (enc (sg N a) (vl N a)) d = -1 ∧ f_X7_place (f_X7_further N a d) q = f_X7_keep (sN_trouble (f_X7_further N a d) 4) q) ∨ (f_X7_place (f_X7_further N a d) q = f_X7_keep (f_X7_further N a d) q ∧ Ad (f_X7_keep (f_X7_further N a d) q) q ∧ f_X4_shifted (enc (sg N a) (vl N a)) d = enc (sg (f_X7_keep (f_X7_further N a d) q) q) (vl (f_X7_keep (f_X7_further N a d) q) q) ∧ ¬ f_X4_shifted (enc (sg N a) (vl N a)) d = -1) := by
  obtain ⟨e1, e2, e3, e4⟩ := r_further h.1 h.2 d
  have ht : pN_trouble (f_X7_further N a d) = 0 := (fr_tr0 (fr_further N a d)).trans h0
  rcases gd_m1 e2 with ⟨g1, g2⟩ | ⟨g1, g2, g3, g4⟩
  · exact Or.inl ⟨e1.trans g1, o_place0 ht g2 q⟩
  · have ko := keep_own (f_X7_further N a d) q
    refine Or.inr ⟨o_place1 ht g2 (by rw [e3]; exact h.2) q, ⟨by rw [ko.1, ko.2]; exact g3, by rw [ko.1, e3]; exact h.2⟩, by rw [ko.1, ko.2, e1]; exact g4, by rw [e1]; exact g1⟩
theorem st4 {c : Int32} {P Q : PS} {N T : NS} (h0 : ¬ c = 0) (h1 : ¬ c ≤ 0) (ht : pN_trouble T = c) (hc : Kc P Q) (hk : Kp N T) (hm : MR (pP_mem Q) T) : St c P N Q T := ⟨h0, h1, ht, hc, hk, hm⟩
/-- OP1 at a register, or at what OP0 holds -/
theorem p2_reg {n : Nat} {P : PS} {N X : NS} (h : R1 n P N) (hX : K4 N X) (hXm : MR (pP_mem P) X) (hX0 : pN_trouble X = 0) {a : Int32} (ha : Ad X a) {d : Int64} (hd : d = (f_X5_offsetOf (pP_word P) 2).toInt64) : Pt (R2 n) P N (f_X2_placeOp1_J80 P (enc (sg X a) (vl X a))) (f_X7_place (f_X7_further X a d) 5) := by
  unfold f_X2_placeOp1_J80
  change Pt (R2 n) P N (f_X2_reckoned (f_X4_shifted (enc (sg X a) (vl X a)) ((f_X5_offsetOf (pP_word P) 2 : Int32).toInt64)), sP_op1Place P (f_X4_shifted (enc (sg X a) (vl X a)) ((f_X5_offsetOf (pP_word P) 2 : Int32).toInt64))) _
  rw [← hd]
  have ff := fr_further X a d
  rcases one_placeP (q := 5) ha hX0 d with ⟨q1, q2⟩ | ⟨q1, q2, q3, q4⟩
  · rw [q1, q2, reck_m1]
    have k := k4_tr hX (k4_tr (k4_fr ff) (k4_tr (k4_t _ 4) (k4_keep (sN_trouble (f_X7_further X a d) 4) (a := 5) (by decide))))
    exact Or.inl ⟨4, st4 (by decide) (by decide) rfl ⟨rfl, rfl, rfl⟩ k.1 (keep_mr (t_mr (fr_mr hXm ff) 4) 5), rfl⟩
  · rw [reck_no q4, q1]
    have k := k4_tr hX (k4_tr (k4_fr ff) (k4_keep (f_X7_further X a d) (a := 5) (by decide)))
    have ht : pN_trouble (f_X7_keep (f_X7_further X a d) 5) = 0 := (fr_tr0 ff).trans hX0
    exact Or.inr ⟨rfl, ⟨r1_k4 h (keep_mr (fr_mr hXm ff) 5) ht ⟨⟨rfl, rfl, rfl⟩, rfl, rfl, rfl, rfl⟩ k, q2, q3⟩, ⟨rfl, rfl, rfl⟩, k.1⟩
theorem p2 {n : Nat} {P : PS} {N : NS} (h : R1 n P N) : Pt (R2 n) P N (f_X2_placeOp1 P) (f_X7_placeOfOp1 N) := by
  have h' := h
  obtain ⟨hg, h0, hn, hok, w1, w2, hf, d3, p3, d4, p4, -⟩ := h
  obtain ⟨mm, d0, d1, d2, e0, e1, e2⟩ := hg
  have hoff : (f_X7_offset (pN_word N) 2).toInt64 = (f_X5_offsetOf (pP_word P) 2).toInt64 := by rw [off_eq hn w1 w2 2 (by decide) (j := 2) rfl]
  unfold f_X2_placeOp1 f_X7_placeOfOp1 f_X7_placeOfOp1_J27 f_X7_placeOfOp1_J55
  have r0 := p2_reg h' (k4_rf N) mm h0 d0 hoff
  have r1 := p2_reg h' (k4_rf N) mm h0 d1 hoff
  have r2 := p2_reg h' (k4_rf N) mm h0 d2 hoff
  rw [← e0] at r0
  rw [← e1] at r1
  rw [← e2] at r2
  rcases w_flag (P := P) hn hf w2 2 (by decide) (m := 4) (i := 32) rfl rfl with ⟨a1, a2, -⟩ | ⟨a1, a2, -⟩
  · rw [if_pos a1, if_pos a2]
    rcases w_flag (P := P) hn hf w2 3 (by decide) (m := 8) (i := 33) rfl rfl with ⟨b1, b2, -⟩ | ⟨b1, b2, -⟩
    · rw [if_pos b1, if_pos b2, if_pos a2, if_pos b2]
      rcases w_flag (P := P) hn hf w2 4 (by decide) (m := 16) (i := 34) rfl rfl with ⟨c1, c2, -⟩ | ⟨c1, c2, -⟩
      · rw [if_pos c1, if_pos c2]
        obtain ⟨k1, k2⟩ := r_look mm d4
        rw [← p4] at k1
        have ff := fr_read N 4
        rw [k1]
        rcases gd_m1 k2 with ⟨g1, g2⟩ | ⟨g1, g2, g3, g4⟩
        · rw [o_needed0 h0 4 g2, g1, v_m1A, if_pos (show (0 : Int32) = 0 from rfl), if_pos (show (-1 : Int64) = -1 from rfl)]
          have q1 : ¬ pN_trouble (sN_trouble (f_X7_read N 4) 1) ≤ 0 := by show ¬ (1 : Int32) ≤ 0; decide
          have q2 : ¬ pN_trouble (sN_trouble (f_X7_read N 4) 1) = 0 := by show ¬ (1 : Int32) = 0; decide
          rw [s_place q1 q2, if_neg q2, s_place q1 q2]
          exact Or.inl ⟨1, st4 (by decide) (by decide) rfl ⟨rfl, rfl, rfl⟩ (kp_tr (kp_fr ff) (kp_t _ _)) (t_mr (fr_mr mm ff) 1), rfl⟩
        · have hT0 : pN_trouble (f_X7_read N 4) = 0 := (fr_tr0 ff).trans h0
          rw [o_needed1 h0 4 g2]
          by_cases kz : pN_gotKind (f_X7_read N 4) = 0
          · rw [o_place2 hT0 g2 kz 10]
            have q1 : ¬ pN_trouble (sN_trouble (f_X7_keep (f_X7_read N 4) 10) 4) ≤ 0 := by show ¬ (4 : Int32) ≤ 0; decide
            have q2 : ¬ pN_trouble (sN_trouble (f_X7_keep (f_X7_read N 4) 10) 4) = 0 := by show ¬ (4 : Int32) = 0; decide
            rw [if_neg q2, s_place q1 q2, if_pos (show f_X4_isAddress (res (f_X7_read N 4)) = 0 by rw [g4]; exact (v_isA g3).mpr kz), if_neg g1]
            have k := k4_tr (k4_fr ff) (k4_keep (f_X7_read N 4) (a := 10) (by decide))
            exact Or.inl ⟨4, st4 (by decide) (by decide) rfl ⟨rfl, rfl, rfl⟩ (kp_tr k.1 (kp_t _ _)) (t_mr (keep_mr (fr_mr mm ff) 10) 4), rfl⟩
          · rw [o_place1 hT0 g2 kz 10]
            have k := k4_tr (k4_fr ff) (k4_keep (f_X7_read N 4) (a := 10) (by decide))
            have ko := keep_own (f_X7_read N 4) 10
            have ht : pN_trouble (f_X7_keep (f_X7_read N 4) 10) = 0 := hT0
            have mk : MR (pP_mem P) (f_X7_keep (f_X7_read N 4) 10) := keep_mr (fr_mr mm ff) 10
            rw [if_pos ht, if_neg (show ¬ f_X4_isAddress (res (f_X7_read N 4)) = 0 by rw [g4]; exact fun z => kz ((v_isA g3).mp z)), g4, ← ko.1, ← ko.2]
            have ha : Ad (f_X7_keep (f_X7_read N 4) 10) 10 := ⟨by rw [ko.1, ko.2]; exact g3, by rw [ko.1]; exact kz⟩
            generalize f_X7_keep (f_X7_read N 4) 10 = X at *
            exact p2_reg h' k mk ht ha (by rw [← hoff, k.2.1])
      · rw [if_neg (by rw [c1]; decide), if_neg (by rw [c2]; decide)]
        exact r1
    · rw [if_neg (by rw [b1]; decide), if_neg (by rw [b2]; decide), if_pos a2, if_neg (by rw [b2]; decide)]
      exact r2
  · rw [if_neg (by rw [a1]; decide), if_neg (by rw [a2]; decide), if_neg (by rw [a2]; decide)]
    exact r0
