/-! a step, its first part: the word, the places of DST and OP0, what a call saves -/
def Rg (P : PS) (N : NS) : Prop := MR (pP_mem P) N ∧ Ad N 0 ∧ Ad N 1 ∧ Ad N 2 ∧ pP_pc P = enc (sg N 0) (vl N 0) ∧ pP_ap P = enc (sg N 1) (vl N 1) ∧ pP_fp P = enc (sg N 2) (vl N 2)
def Kc (P Q : PS) : Prop := pP_pc Q = pP_pc P ∧ pP_ap Q = pP_ap P ∧ pP_fp Q = pP_fp P
theorem kc_rf (P : PS) : Kc P P := ⟨rfl, rfl, rfl⟩
theorem kc_tr {A B C : PS} (h : Kc A B) (g : Kc B C) : Kc A C := ⟨g.1.trans h.1, g.2.1.trans h.2.1, g.2.2.trans h.2.2⟩
theorem rg_kp {P Q : PS} {N T : NS} (h : Rg P N) (hm : MR (pP_mem Q) T) (hc : Kc P Q) (hk : Kp N T) : Rg Q T := by
  obtain ⟨-, a0, a1, a2, e0, e1, e2⟩ := h
  obtain ⟨k1, k2, k3, k4, k5, k6, -⟩ := hk
  unfold Rg Ad at *
  rw [k1, k2, k3, k4, k5, k6, hc.1, hc.2.1, hc.2.2]
  exact ⟨hm, a0, a1, a2, e0, e1, e2⟩
/-- stopped with the failure c -/
def St (c : Int32) (P : PS) (N : NS) (Q : PS) (T : NS) : Prop := ¬ c = 0 ∧ ¬ c ≤ 0 ∧ pN_trouble T = c ∧ Kc P Q ∧ Kp N T ∧ MR (pP_mem Q) T
def R1 (n : Nat) (P : PS) (N : NS) : Prop := Rg P N ∧ pN_trouble N = 0 ∧ n < 2 ^ 45 ∧ okW n ∧ pP_word P = lN n ∧ pN_word N = lN n ∧ pP_flags P = nI (n / 2 ^ 30) ∧ Ad N 3 ∧ pP_dstPlace P = enc (sg N 3) (vl N 3) ∧ Ad N 4 ∧ pP_op0Place P = enc (sg N 4) (vl N 4) ∧ ∃ c, c < 64 ∧ vl N 0 = lN c
theorem read_cel {N : NS} {a : Int32} (h : Ad N a) (ht : pN_there (f_X7_read N a) = 1) : ∃ c, c < 64 ∧ vl N a = lN c := by
  rcases x_both (v_rt h.1 h.2) with ⟨c1, -⟩ | ⟨c, hc, e, -⟩
  · exfalso
    unfold f_X7_read f_X7_read_J52 f_X7_read_J53 at ht
    rw [if_pos c1, if_pos (show (0 : Int32) ≤ 0 by decide)] at ht
    exact absurd (show (0 : Int32) = 1 from ht) (by decide)
  · exact ⟨c, hc, e⟩
def pl3 (W : NS) (sz : Int64) : NS := if f_X7_flag (f_X7_sure (f_X7_further W 0 sz) 7) 42 = 0 then f_X7_sure (f_X7_further W 0 sz) 7 else f_X7_store (f_X7_store (f_X7_sure (f_X7_further W 0 sz) 7) 3 2) 4 7
def pl2 (V : NS) (b : Int32) : NS := if f_X7_flag (f_X7_sure (f_X7_further V b ((f_X7_offset (pN_word V) 1 : Int32).toInt64)) 4) 32 = 0 then pl3 (f_X7_sure (f_X7_further V b ((f_X7_offset (pN_word V) 1 : Int32).toInt64)) 4) 1 else pl3 (f_X7_sure (f_X7_further V b ((f_X7_offset (pN_word V) 1 : Int32).toInt64)) 4) 2
def pl1 (U : NS) (a : Int32) : NS := if f_X7_flag (f_X7_sure (f_X7_further U a ((f_X7_offset (pN_word U) 0 : Int32).toInt64)) 3) 31 = 0 then pl2 (f_X7_sure (f_X7_further U a ((f_X7_offset (pN_word U) 0 : Int32).toInt64)) 3) 1 else pl2 (f_X7_sure (f_X7_further U a ((f_X7_offset (pN_word U) 0 : Int32).toInt64)) 3) 2
def pl0 (U : NS) : NS := if pN_trouble U ≤ 0 then (if f_X7_flag U 30 = 0 then pl1 U 1 else pl1 U 2) else U
theorem pl_eq (N : NS) : f_X7_places N = if pN_trouble (f_X7_needed N 0) ≤ 0 then (if pN_gotKind (f_X7_needed N 0) = 0 then (if f_X7_isBad (pN_got (f_X7_needed N 0)) = 0 then pl0 (f_X7_trouble (sN_word (f_X7_needed N 0) (pN_got (f_X7_needed N 0))) 0 3) else pl0 (f_X7_trouble (sN_word (f_X7_needed N 0) (pN_got (f_X7_needed N 0))) 1 3)) else pl0 (f_X7_trouble (sN_word (f_X7_needed N 0) (pN_got (f_X7_needed N 0))) 1 3)) else f_X7_needed N 0 := rfl
/-! with trouble -/
theorem fr_le {N T : NS} (h : Fr N T) (ht : ¬ pN_trouble N ≤ 0) : ¬ pN_trouble T ≤ 0 := by rw [fr_tr0 h]; exact ht
theorem pl3_s {W : NS} (h : ¬ pN_trouble W ≤ 0) (sz : Int64) : Fr W (pl3 W sz) := by
  have f := fr_further W 0 sz
  have g := fr_le f h
  unfold pl3
  rw [s_sure g, s_store g, s_store g, ite_self]
  exact f
theorem pl2_s {W : NS} (h : ¬ pN_trouble W ≤ 0) (b : Int32) : Fr W (pl2 W b) := by
  unfold pl2
  have f := fr_further W b ((f_X7_offset (pN_word W) 1 : Int32).toInt64)
  have g := fr_le f h
  rw [s_sure g]
  split
  · exact fr_tr f (pl3_s g _)
  · exact fr_tr f (pl3_s g _)
/-! the places -/
theorem k3 (N : NS) : Kp N (f_X7_keep N 3) := kp_keep N (by decide) (by decide) (by decide)
theorem k4 (N : NS) : Kp N (f_X7_keep N 4) := kp_keep N (by decide) (by decide) (by decide)
theorem k7 (N : NS) : Kp N (f_X7_keep N 7) := kp_keep N (by decide) (by decide) (by decide)
theorem fr_sg {N T : NS} (h : Fr N T) (a : Int32) : sg T a = sg N a ∧ vl T a = vl N a ∧ pN_word T = pN_word N := by obtain ⟨x, y, z, rfl⟩ := h; exact ⟨rfl, rfl, rfl⟩
theorem fw_sg {N T : NS} (h : Fw N T) (a : Int32) : sg T a = sg N a ∧ vl T a = vl N a ∧ pN_word T = pN_word N ∧ pN_trouble T = pN_trouble N := by obtain ⟨x, y, z, rfl⟩ := h; exact ⟨rfl, rfl, rfl, rfl⟩
theorem ad_eq {N T : NS} {a b : Int32} (h : Ad N a) (e1 : sg T b = sg N a) (e2 : vl T b = vl N a) : Ad T b := by unfold Ad; rw [e1, e2]; exact h
/-- one place: a register and an offset, kept at q -/
theorem one_place {N : NS} {a q : Int32} (h : Ad N a) (h0 : pN_trouble N = 0) (d : Int64) : (f_X4_shifted (enc (sg N a) (vl N a)) d = -1 ∧ pN_there (f_X7_further N a d) = 0 ∧ f_X7_sure (f_X7_further N a d) q = f_X7_keep (sN_trouble (f_X7_further N a d) 4) q) ∨ (f_X7_sure (f_X7_further N a d) q = f_X7_keep (f_X7_further N a d) q ∧ Ad (f_X7_keep (f_X7_further N a d) q) q ∧ f_X4_shifted (enc (sg N a) (vl N a)) d = enc (sg (f_X7_keep (f_X7_further N a d) q) q) (vl (f_X7_keep (f_X7_further N a d) q) q) ∧ ¬ f_X4_shifted (enc (sg N a) (vl N a)) d = -1) := by
  obtain ⟨e1, e2, e3, e4⟩ := r_further h.1 h.2 d
  have ht : pN_trouble (f_X7_further N a d) = 0 := (fr_tr0 (fr_further N a d)).trans h0
  rcases gd_m1 e2 with ⟨g1, g2⟩ | ⟨g1, g2, g3, g4⟩
  · exact Or.inl ⟨e1.trans g1, g2, o_sure0 ht g2 q⟩
  · have ko := keep_own (f_X7_further N a d) q
    refine Or.inr ⟨o_sure1 ht g2 q, ⟨by rw [ko.1, ko.2]; exact g3, by rw [ko.1, e3]; exact h.2⟩, by rw [ko.1, ko.2, e1]; exact g4, by rw [e1]; exact g1⟩
/-- the end of the first part: the cell behind, and a call -/
theorem p1_end {n : Nat} {P : PS} {N : NS} (h : R1 n P N) {sz : Int64} (hsz : (wb n 32 = 0 ∧ sz = 1) ∨ (wb n 32 = 1 ∧ sz = 2)) :
    (∃ c, St c P N (if f_X2_has P 4096 = 0 then (0, P) else f_X2_saveForReturn P).2 (pl3 N sz) ∧ (if f_X2_has P 4096 = 0 then (0, P) else f_X2_saveForReturn P).1 = c) ∨ ((if f_X2_has P 4096 = 0 then (0, P) else f_X2_saveForReturn P).1 = 0 ∧ R1 n (if f_X2_has P 4096 = 0 then (0, P) else f_X2_saveForReturn P).2 (pl3 N sz) ∧ Kc P (if f_X2_has P 4096 = 0 then (0, P) else f_X2_saveForReturn P).2 ∧ Kp N (pl3 N sz)) := by
  obtain ⟨hg, h0, hn, hok, w1, w2, hf, d3, p3, d4, p4, c0, hc0, ec0⟩ := h
  have hbeh : f_X2_behindInstruction P = f_X4_shifted (enc (sg N 0) (vl N 0)) sz := by
    unfold f_X2_behindInstruction f_X5_sizeOf
    rw [hg.2.2.2.2.1, w1, w_flags hn]
    have hz : (nI (n / 2 ^ 30) &&& 4 = 0) ↔ wb n 32 = 0 := by
      rw [← w_wf n 2]
      exact y_z0 (M := 4) (by omega) 2 1 rfl (by decide)
    rcases hsz with ⟨b, rfl⟩ | ⟨b, rfl⟩
    · rw [if_pos (hz.mpr b)]; rfl
    · rw [if_neg (fun z => by rw [hz.mp z] at b; exact absurd b (by decide))]; rfl
  have hsz' : sz = lN 1 ∨ sz = lN 2 := by rcases hsz with ⟨-, rfl⟩ | ⟨-, rfl⟩ <;> first | exact Or.inl rfl | exact Or.inr rfl
  rcases one_place (q := 7) hg.2.1 h0 sz with ⟨q1, q2, -⟩ | ⟨q1, q2, q3, -⟩
  · exfalso
    obtain ⟨-, -, -, e4⟩ := r_further hg.2.1.1 hg.2.1.2 sz
    unfold f_X7_further f_X7_give at q2
    change pN_there (if vl N 0 + sz < -1000 then _ else if 1000 < vl N 0 + sz then _ else _) = 0 at q2
    have e5 : ∃ m, m < 70 ∧ vl N 0 + sz = lN m := by
      rw [ec0]
      rcases hsz' with e | e <;> rw [e, lN_add]
      · exact ⟨_, by omega, rfl⟩
      · exact ⟨_, by omega, rfl⟩
    obtain ⟨m, hm, e5⟩ := e5
    rw [e5, if_neg (fun z => by have := Int64.lt_iff_toInt_lt.mp z; rw [pk_lT (by omega), show (-1000 : Int64).toInt = -1000 from rfl] at this; omega), if_neg (fun z => by have := Int64.lt_iff_toInt_lt.mp z; rw [pk_lT (by omega), show (1000 : Int64).toInt = 1000 from rfl] at this; omega)] at q2
    exact absurd (show (1 : Int32) = 0 from q2) (by decide)
  · have ff := fr_further N 0 sz
    have hx0 : pN_trouble (f_X7_keep (f_X7_further N 0 sz) 7) = 0 := (fr_tr0 ff).trans h0
    have kk : Kp N (f_X7_keep (f_X7_further N 0 sz) 7) := kp_tr (kp_fr ff) (k7 _)
    have mm : MR (pP_mem P) (f_X7_keep (f_X7_further N 0 sz) 7) := keep_mr (fr_mr hg.1 ff) 7
    have hw : pN_word (f_X7_keep (f_X7_further N 0 sz) 7) = lN n := (fr_sg ff 0).2.2.trans w2
    have s3 := keep_ne (f_X7_further N 0 sz) (a := 7) (b := 3) (by decide)
    have s4 := keep_ne (f_X7_further N 0 sz) (a := 7) (b := 4) (by decide)
    have f3 := fr_sg ff 3
    have f4 := fr_sg ff 4
    unfold pl3
    rw [q1]
    rw [hbeh.symm] at q3
    generalize f_X7_keep (f_X7_further N 0 sz) 7 = X at *
    have a3 : Ad X 3 := ad_eq d3 (s3.1.trans f3.1) (s3.2.trans f3.2.1)
    have a4 : Ad X 4 := ad_eq d4 (s4.1.trans f4.1) (s4.2.trans f4.2.1)
    have v3 : pP_dstPlace P = enc (sg X 3) (vl X 3) := by rw [s3.1, s3.2, f3.1, f3.2.1]; exact p3
    have v4 : pP_op0Place P = enc (sg X 4) (vl X 4) := by rw [s4.1, s4.2, f4.1, f4.2.1]; exact p4
    have hgX : Rg P X := rg_kp hg mm (kc_rf P) kk
    have ec : vl X 0 = lN c0 := kk.2.1.trans ec0
    rcases w_flag hn hf hw 12 (by decide) (m := 4096) (i := 42) rfl rfl with ⟨b1, b2, -⟩ | ⟨b1, b2, -⟩
    · rw [if_pos b1, if_pos b2]
      exact Or.inr ⟨rfl, ⟨hgX, hx0, hn, hok, w1, hw, hf, a3, v3, a4, v4, c0, hc0, ec⟩, kc_rf P, kk⟩
    · rw [if_neg (by rw [b1]; decide), if_neg (by rw [b2]; decide)]
      unfold f_X2_saveForReturn
      obtain ⟨W, hw1, hw2, m1, hw3, hw4⟩ := r_put mm a3 hgX.2.2.2.1.1 hx0
      rw [← v3, ← hgX.2.2.2.2.2.2] at hw2 hw3 hw4
      rcases hw4 with ⟨c1, c2⟩ | ⟨c1, c2⟩
      · rw [if_pos c1, c2]
        rw [hw3] at hw2 ⊢
        have fw := fw_sg hw1
        have a4' : Ad W 4 := ad_eq a4 (fw 4).1 (fw 4).2.1
        have a7' : Ad W 7 := ad_eq q2 (fw 7).1 (fw 7).2.1
        obtain ⟨W2, hy1, hy2, m2, hy3, hy4⟩ := r_put (P := sP_mem P m1) hw2 a4' a7'.1 ((fw 0).2.2.2.trans hx0)
        have e4 : pP_op0Place (sP_mem P m1) = enc (sg W 4) (vl W 4) := by rw [(fw 4).1, (fw 4).2.1]; exact v4
        have e7 : f_X2_behindInstruction (sP_mem P m1) = enc (sg W 7) (vl W 7) := by rw [(fw 7).1, (fw 7).2.1]; exact q3
        rw [← e4, ← e7] at hy2 hy3 hy4
        have kk2 : Kp N W2 := kp_tr kk (kp_tr (kp_fw hw1) (kp_fw hy1))
        have fw2 := fw_sg hy1
        rcases hy4 with ⟨g1, g2⟩ | ⟨g1, g2⟩
        · rw [g1, g2]
          rw [hy3] at hy2 ⊢
          refine Or.inr ⟨rfl, ⟨rg_kp hg hy2 ⟨rfl, rfl, rfl⟩ kk2, (fw2 0).2.2.2.trans ((fw 0).2.2.2.trans hx0), hn, hok, w1, (fw2 0).2.2.1.trans ((fw 0).2.2.1.trans hw), hf, ?_, ?_, ?_, ?_, c0, hc0, kk2.2.1.trans ec0⟩, ⟨rfl, rfl, rfl⟩, kk2⟩
          · exact ad_eq a3 ((fw2 3).1.trans (fw 3).1) ((fw2 3).2.1.trans (fw 3).2.1)
          · rw [(fw2 3).1, (fw 3).1, (fw2 3).2.1, (fw 3).2.1]; exact v3
          · exact ad_eq a4 ((fw2 4).1.trans (fw 4).1) ((fw2 4).2.1.trans (fw 4).2.1)
          · rw [(fw2 4).1, (fw 4).1, (fw2 4).2.1, (fw 4).2.1]; exact v4
        · rw [g1, g2]
          rw [hy3] at hy2 ⊢
          exact Or.inl ⟨2, ⟨by decide, by decide, rfl, ⟨rfl, rfl, rfl⟩, kp_tr kk2 (kp_t _ _), t_mr hy2 2⟩, rfl⟩
      · rw [if_neg (by rw [c1]; decide), c1, c2]
        rw [hw3] at hw2 ⊢
        rw [s_store (show ¬ pN_trouble (sN_trouble W 2) ≤ 0 by show ¬ (2 : Int32) ≤ 0; decide)]
        exact Or.inl ⟨2, ⟨by decide, by decide, rfl, ⟨rfl, rfl, rfl⟩, kp_tr (kp_tr kk (kp_fw hw1)) (kp_t _ _), t_mr hw2 2⟩, rfl⟩
