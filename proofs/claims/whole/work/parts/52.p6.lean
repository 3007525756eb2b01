/-! the registers' moves -/
theorem st_kind (S : NS) (a : Int32) (x : Int64) (z : Int32) : pN_gotKind (f_X7_stepped S a x z) = sg S a := by
  have key : ∀ t d, pN_gotKind (f_X7_stepped_J66 S a t d) = sg S a := fun t d => by
    have h : pN_gotKind (f_X7_further S a d) = sg S a := by
      unfold f_X7_further f_X7_give
      repeat' split
      all_goals rfl
    unfold f_X7_stepped_J66
    generalize f_X7_further S a d = T at h ⊢
    repeat' split
    all_goals exact h
  unfold f_X7_stepped f_X7_stepped_J16 f_X7_stepped_J21 f_X7_stepped_J40
  repeat' split
  all_goals exact key _ _
theorem plus_kind {S : NS} {a b : Int32} (ha : ¬ sg S a = 0) (ht : pN_there (f_X7_plus S a b) = 1) : ¬ pN_gotKind (f_X7_plus S a b) = 0 := by
  unfold f_X7_plus f_X7_plus_J42 f_X7_plus_J68 at *
  rw [if_neg (c := sg S a = 0) ha, if_neg (c := sg S a = 0) ha] at *
  by_cases kb : sg S b = 0
  · rw [if_pos (c := sg S b = 0) kb] at *
    rw [if_neg (c := sg S a = 0) ha] at *
    rw [st_kind]; exact ha
  · rw [if_neg (c := sg S b = 0) kb] at *
    exact absurd (show (0 : Int32) = 1 from ht) (by decide)
def R4 (n : Nat) (P : PS) (N : NS) : Prop := R3 n P N ∧ Ad N 7 ∧ pP_newPc P = enc (sg N 7) (vl N 7)
theorem c6_pc (P : PS) (x : Int64) : C6 P (sP_newPc P x) := ⟨⟨⟨⟨rfl, rfl, rfl⟩, rfl, rfl, rfl, rfl⟩, rfl⟩, rfl⟩
theorem c6_ap (P : PS) (x : Int64) : C6 P (sP_newAp P x) := ⟨⟨⟨⟨rfl, rfl, rfl⟩, rfl, rfl, rfl, rfl⟩, rfl⟩, rfl⟩
/-- a place that must be an address, kept at q behind 6 -/
theorem fin_q {N F X : NS} {M : Nat → Int64} (kF : K6 N F) (mF : MR M F) (tF : pN_trouble F = 0) (hX : Fr F X) (hg : Gd X) (hk : pN_there X = 1 → ¬ pN_gotKind X = 0) (q : Int32) (hq : 6 < q.toNatClampNeg) : (res X = -1 ∧ pN_trouble (f_X7_place X q) = 4 ∧ K6 N (f_X7_place X q) ∧ MR M (f_X7_place X q)) ∨ (¬ res X = -1 ∧ f_X7_place X q = f_X7_keep X q ∧ pN_trouble (f_X7_keep X q) = 0 ∧ K6 N (f_X7_keep X q) ∧ MR M (f_X7_keep X q) ∧ Ad (f_X7_keep X q) q ∧ res X = enc (sg (f_X7_keep X q) q) (vl (f_X7_keep X q) q)) := by
  have tX : pN_trouble X = 0 := (fr_tr0 hX).trans tF
  rcases gd_m1 hg with ⟨g1, g2⟩ | ⟨g1, g2, g3, g4⟩
  · rw [o_place0 tX g2 q]
    exact Or.inl ⟨g1, rfl, k6_tr kF (k6_tr (k6_fr hX) (k6_tr (k6_t X 4) (k6_keep (sN_trouble X 4) hq))), keep_mr (t_mr (fr_mr mF hX) 4) q⟩
  · have ko := keep_own X q
    exact Or.inr ⟨g1, o_place1 tX g2 (hk g2) q, tX, k6_tr kF (k6_tr (k6_fr hX) (k6_keep X hq)), keep_mr (fr_mr mF hX) q, ⟨by rw [ko.1, ko.2]; exact g3, by rw [ko.1]; exact hk g2⟩, by rw [ko.1, ko.2]; exact g4⟩
theorem fin7 {n : Nat} {P : PS} {N F X : NS} (h : R3 n P N) (kF : K6 N F) (mF : MR (pP_mem P) F) (tF : pN_trouble F = 0) (hX : Fr F X) {r : Int64} (hr : r = res X) (hg : Gd X) (hk : pN_there X = 1 → ¬ pN_gotKind X = 0) : Pt (R4 n) P N (f_X2_reckoned r, sP_newPc P r) (f_X7_place X 7) := by
  rcases fin_q kF mF tF hX hg hk 7 (by decide) with ⟨g1, g2, g3, g4⟩ | ⟨g1, g2, g3, g4, g5, g6, g7⟩
  · rw [hr, g1, reck_m1]
    exact Or.inl ⟨4, st4 (by decide) (by decide) g2 ⟨rfl, rfl, rfl⟩ g3.1.1.1 g4, rfl⟩
  · rw [hr, reck_no g1, g2]
    exact Or.inr ⟨rfl, ⟨r3_k6 h g5 g3 (c6_pc P _) g4, g6, g7⟩, ⟨rfl, rfl, rfl⟩, g4.1.1.1⟩
theorem far1 {N : NS} {c : Nat} (hc : c < 64) (e : vl N 0 = lN c) {sz : Int64} (hs : sz = lN 1 ∨ sz = lN 2) : pN_there (f_X7_further N 0 sz) = 1 := by
  have e5 : ∃ m, m < 70 ∧ vl N 0 + sz = lN m := by
    rw [e]
    rcases hs with e | e <;> rw [e, lN_add]
    · exact ⟨_, by omega, rfl⟩
    · exact ⟨_, by omega, rfl⟩
  obtain ⟨m, hm, e5⟩ := e5
  unfold f_X7_further f_X7_give
  change pN_there (if vl N 0 + sz < -1000 then _ else if 1000 < vl N 0 + sz then _ else _) = 1
  rw [e5, if_neg (fun z => by have := Int64.lt_iff_toInt_lt.mp z; rw [pk_lT (by omega), show (-1000 : Int64).toInt = -1000 from rfl] at this; omega), if_neg (fun z => by have := Int64.lt_iff_toInt_lt.mp z; rw [pk_lT (by omega), show (1000 : Int64).toInt = 1000 from rfl] at this; omega)]
theorem beh_eq {n : Nat} {P : PS} {N : NS} (h : R1 n P N) {sz : Int64} (hsz : (wb n 32 = 0 ∧ sz = 1) ∨ (wb n 32 = 1 ∧ sz = 2)) : f_X2_behindInstruction P = f_X4_shifted (enc (sg N 0) (vl N 0)) sz := by
  obtain ⟨hg, h0, hn, hok, w1, w2, hf, -⟩ := h
  unfold f_X2_behindInstruction f_X5_sizeOf
  rw [hg.2.2.2.2.1, w1, w_flags hn]
  have hz : (nI (n / 2 ^ 30) &&& 4 = 0) ↔ wb n 32 = 0 := by
    rw [← w_wf n 2]
    exact y_z0 (M := 4) (by omega) 2 1 rfl (by decide)
  rcases hsz with ⟨b, rfl⟩ | ⟨b, rfl⟩
  · rw [if_pos (hz.mpr b)]; rfl
  · rw [if_neg (fun z => by rw [hz.mp z] at b; exact absurd b (by decide))]; rfl
theorem fpc_eq (P : PS) : f_X2_findPc P = if f_X2_has P 128 = 0 then (if f_X2_has P 256 = 0 then (f_X2_reckoned (f_X2_behindInstruction P), sP_newPc P (f_X2_behindInstruction P)) else (f_X2_reckoned (f_X4_plus (pP_pc P) (pP_res P)), sP_newPc P (f_X4_plus (pP_pc P) (pP_res P)))) else if f_X4_isAddress (pP_res P) = 0 then (f_X2_reckoned (-1), sP_newPc P (-1)) else (f_X2_reckoned (pP_res P), sP_newPc P (pP_res P)) := by
  have h4 : ∀ x, pP_newPc (sP_newPc P x) = x := fun _ => rfl
  unfold f_X2_findPc f_X2_findPc_J31
  rw [h4, h4, h4, h4]
theorem fpz_eq (P : PS) : f_X2_findPcUnlessDstIsZero P = if f_X2_look P (pP_dstPlace P) = -1 then (1, P) else if f_X2_look P (pP_dstPlace P) = 0 then (f_X2_reckoned (f_X2_behindInstruction P), sP_newPc P (f_X2_behindInstruction P)) else if f_X2_look P (pP_op1Place P) = -1 then (1, sP_newPc P (f_X4_plus (pP_pc P) (f_X2_look P (pP_op1Place P)))) else (f_X2_reckoned (f_X4_plus (pP_pc P) (f_X2_look P (pP_op1Place P))), sP_newPc P (f_X4_plus (pP_pc P) (f_X2_look P (pP_op1Place P)))) := by
  have h4 : ∀ x, pP_newPc (sP_newPc P x) = x := fun _ => rfl
  unfold f_X2_findPcUnlessDstIsZero
  rw [h4, h4]
def cl6 (P : PS) : Int32 × PS := if f_X2_has P 512 = 0 then f_X2_findPc P else f_X2_findPcUnlessDstIsZero P
theorem wd_place (N : NS) (a : Int32) : pN_word (f_X7_place N a) = pN_word N := by
  have t : ∀ (S : NS) (x y : Int32), pN_word (f_X7_trouble S x y) = pN_word S := fun S x y => by
    unfold f_X7_trouble
    repeat' split
    all_goals rfl
  have s : ∀ (S : NS) (x : Int32), pN_word (f_X7_sure S x) = pN_word S := fun S x => by
    unfold f_X7_sure f_X7_sure_J21
    repeat' split
    · rw [keep_word, t]
    · rw [keep_word, t]
    · rfl
  unfold f_X7_place
  split
  · rw [t, s]
  · rw [t, s]
theorem p6_pc {n : Nat} {P : PS} {N : NS} (h : R3 n P N) {a : Int32} (ha : (wb n 32 = 0 ∧ a = 1) ∨ (wb n 32 = 1 ∧ a = 2)) : Pt (R4 n) P N (cl6 P) (f_X7_jump N a) := by
  have h1 := h.1.1
  have hn := h1.2.2.1
  have hok := h1.2.2.2.1
  have hf := h1.2.2.2.2.2.2.1
  have hw := h1.2.2.2.2.2.1
  have mm := r2_mr h.1
  have t0 := r2_t h.1
  obtain ⟨c0, hc0, ec0⟩ := h1.2.2.2.2.2.2.2.2.2.2.2
  obtain ⟨-, d0, d1, d2, e0, e1, e2⟩ := h1.1
  have hsz : (wb n 32 = 0 ∧ (a : Int32).toInt64 = 1) ∨ (wb n 32 = 1 ∧ (a : Int32).toInt64 = 2) := by
    rcases ha with ⟨b, rfl⟩ | ⟨b, rfl⟩
    · exact Or.inl ⟨b, rfl⟩
    · exact Or.inr ⟨b, rfl⟩
  have hs' : (a : Int32).toInt64 = lN 1 ∨ (a : Int32).toInt64 = lN 2 := by
    rcases hsz with ⟨-, e⟩ | ⟨-, e⟩
    · exact Or.inl e
    · exact Or.inr e
  have hb := beh_eq h1 hsz
  unfold f_X7_jump
  rw [if_pos (o_le t0)]
  generalize (a : Int32).toInt64 = sz at hsz hs' hb ⊢
  have hthere := far1 hc0 ec0 hs'
  obtain ⟨x1, x2, x3, -⟩ := r_further d0.1 d0.2 sz
  have ff := fr_further N 0 sz
  have kF : K6 N (f_X7_keep (f_X7_further N 0 sz) 7) := k6_tr (k6_fr ff) (k6_keep _ (by decide))
  have mF : MR (pP_mem P) (f_X7_keep (f_X7_further N 0 sz) 7) := keep_mr (fr_mr mm ff) 7
  have tF : pN_trouble (f_X7_keep (f_X7_further N 0 sz) 7) = 0 := (fr_tr0 ff).trans t0
  have wF : pN_word (f_X7_keep (f_X7_further N 0 sz) 7) = lN n := (fr_sg ff 0).2.2.trans hw
  have oF := keep_own (f_X7_further N 0 sz) 7
  have aF : Ad (f_X7_keep (f_X7_further N 0 sz) 7) 7 := by
    rcases gd_m1 x2 with ⟨-, z⟩ | ⟨-, -, z, -⟩
    · rw [hthere] at z; exact absurd z (by decide)
    · exact ⟨by rw [oF.1, oF.2]; exact z, by rw [oF.1, x3]; exact d0.2⟩
  have bF : f_X2_behindInstruction P = enc (sg (f_X7_keep (f_X7_further N 0 sz) 7) 7) (vl (f_X7_keep (f_X7_further N 0 sz) 7) 7) := by rw [oF.1, oF.2, hb, x1, res1 hthere]
  generalize f_X7_keep (f_X7_further N 0 sz) 7 = F at *
  have b9 : ¬ f_X2_behindInstruction P = -1 := by rw [bF]; exact v_ne aF.1
  have F0 : sg F 0 = sg N 0 ∧ vl F 0 = vl N 0 := ⟨kF.1.1.1.1, kF.1.1.1.2.1⟩
  have aF0 : Ad F 0 := ad_eq d0 F0.1 F0.2
  have stay : Pt (R4 n) P N (f_X2_reckoned (f_X2_behindInstruction P), sP_newPc P (f_X2_behindInstruction P)) F := by
    rw [reck_no b9]
    exact Or.inr ⟨rfl, ⟨r3_k6 h mF tF (c6_pc P _) kF, aF, bF⟩, ⟨rfl, rfl, rfl⟩, kF.1.1.1⟩
  obtain ⟨-, -, ok3, -⟩ := hok
  unfold cl6
  change Pt (R4 n) P N _ (if f_X7_flag F 37 = 0 then f_X7_jump_J54 F else f_X7_jump_J54 (f_X7_place (f_X7_give F (sg F 6) (vl F 6)) 7))
  rcases w_flag (P := P) hn hf wF 7 (by decide) (m := 128) (i := 37) rfl rfl with ⟨a1, a2, a3⟩ | ⟨a1, a2, a3⟩
  · rw [if_pos (c := f_X7_flag F 37 = 0) a2]
    unfold f_X7_jump_J54
    rcases w_flag (P := P) hn hf wF 8 (by decide) (m := 256) (i := 38) rfl rfl with ⟨b1, b2, b3⟩ | ⟨b1, b2, b3⟩
    · rw [if_pos (c := f_X7_flag F 38 = 0) b2]
      unfold f_X7_jump_J76
      rcases w_flag (P := P) hn hf wF 9 (by decide) (m := 512) (i := 39) rfl rfl with ⟨c1, c2, c3⟩ | ⟨c1, c2, c3⟩
      · rw [if_pos (c := f_X7_flag F 39 = 0) c2, if_pos c1, fpc_eq, if_pos a1, if_pos b1]
        exact stay
      · rw [if_neg (c := f_X7_flag F 39 = 0) (by rw [c2]; decide), if_neg (c := f_X2_has P 512 = 0) (by rw [c1]; decide), fpz_eq]
        have hF3 := r3_k6 h mF tF (c6_rf P) kF
        have l3 := r_look mF hF3.1.1.2.2.2.2.2.2.2.1
        rw [← hF3.1.1.2.2.2.2.2.2.2.2.1] at l3
        have f3 := fr_read F 3
        rcases gd_m1 l3.2 with ⟨g1, g2⟩ | ⟨g1, g2, g3, g4⟩
        · rw [o_needed0 tF 3 g2, if_pos (show 0 < pN_trouble (sN_trouble (f_X7_read F 3) 1) by show (0 : Int32) < 1; decide), if_pos (l3.1.trans g1)]
          exact Or.inl ⟨1, st4 (by decide) (by decide) rfl ⟨rfl, rfl, rfl⟩ (kp_tr kF.1.1.1 (kp_tr (kp_fr f3) (kp_t _ _))) (t_mr (fr_mr mF f3) 1), rfl⟩
        · have tD : pN_trouble (f_X7_read F 3) = 0 := (fr_tr0 f3).trans tF
          have kD := k6_tr kF (k6_fr f3)
          have mD := fr_mr mF f3
          have s7 := fr_sg f3 7
          have s0 := fr_sg f3 0
          unfold f_X7_jump_J115
          rw [o_needed1 tF 3 g2, if_neg (c := 0 < pN_trouble (f_X7_read F 3)) (by rw [tD]; decide), if_neg (c := f_X2_look P (pP_dstPlace P) = -1) (by rw [l3.1]; exact g1)]
          have z1 : f_X2_look P (pP_dstPlace P) = 0 ↔ pN_gotKind (f_X7_read F 3) = 0 ∧ pN_got (f_X7_read F 3) = 0 := by rw [l3.1, g4]; exact enc_0 g3
          by_cases z : f_X2_look P (pP_dstPlace P) = 0
          · rw [if_pos z, if_pos (z1.mp z).1, if_pos (z1.mp z).2, reck_no b9]
            refine Or.inr ⟨rfl, ⟨r3_k6 h mD tD (c6_pc P _) kD, ad_eq aF s7.1 s7.2.1, ?_⟩, ⟨rfl, rfl, rfl⟩, kD.1.1.1⟩
            rw [s7.1, s7.2.1]; exact bF
          · rw [if_neg z]
            have jj : ∀ A B : NS, (if pN_gotKind (f_X7_read F 3) = 0 then (if pN_got (f_X7_read F 3) = 0 then A else B) else B) = B := fun A B => by
              by_cases y1 : pN_gotKind (f_X7_read F 3) = 0
              · rw [if_pos y1, if_neg (fun y2 => z (z1.mpr ⟨y1, y2⟩))]
              · rw [if_neg y1]
            rw [jj]
            generalize f_X7_read F 3 = D at *
            have hD := r3_k6 h mD tD (c6_rf P) kD
            have l5 := r_look mD hD.1.2.1
            rw [← hD.1.2.2] at l5
            have f5 := fr_read D 5
            rcases gd_m1 l5.2 with ⟨i1, i2⟩ | ⟨i1, i2, i3, i4⟩
            · have q1 : ¬ pN_trouble (sN_trouble (f_X7_read D 5) 1) ≤ 0 := by show ¬ (1 : Int32) ≤ 0; decide
              rw [o_needed0 tD 5 i2, s_sure q1, if_neg q1, if_pos (l5.1.trans i1)]
              exact Or.inl ⟨1, st4 (by decide) (by decide) rfl ⟨rfl, rfl, rfl⟩ (kp_tr kD.1.1.1 (kp_tr (kp_fr f5) (kp_t _ _))) (t_mr (fr_mr mD f5) 1), rfl⟩
            · have t5 : pN_trouble (f_X7_read D 5) = 0 := (fr_tr0 f5).trans tD
              rw [o_needed1 tD 5 i2, o_sure1 t5 i2 10, if_neg (c := f_X2_look P (pP_op1Place P) = -1) (by rw [l5.1]; exact i1)]
              have kG := k6_tr kD (k6_tr (k6_fr f5) (k6_keep (f_X7_read D 5) (a := 10) (by decide)))
              have oG := keep_own (f_X7_read D 5) 10
              have mG : MR (pP_mem P) (f_X7_keep (f_X7_read D 5) 10) := keep_mr (fr_mr mD f5) 10
              have tG : pN_trouble (f_X7_keep (f_X7_read D 5) 10) = 0 := t5
              have v10 : Vok (sg (f_X7_keep (f_X7_read D 5) 10) 10) (vl (f_X7_keep (f_X7_read D 5) 10) 10) := by rw [oG.1, oG.2]; exact i3
              have e10 : f_X2_look P (pP_op1Place P) = enc (sg (f_X7_keep (f_X7_read D 5) 10) 10) (vl (f_X7_keep (f_X7_read D 5) 10) 10) := by rw [oG.1, oG.2, l5.1]; exact i4
              generalize f_X7_keep (f_X7_read D 5) 10 = G at *
              rw [if_pos (o_le tG)]
              have aG0 : Ad G 0 := ad_eq d0 kG.1.1.1.1 kG.1.1.1.2.1
              have eG0 : pP_pc P = enc (sg G 0) (vl G 0) := by rw [kG.1.1.1.1, kG.1.1.1.2.1]; exact e0
              have rp := r_plus aG0.1 v10
              rw [← eG0, ← e10] at rp
              exact fin7 h kG mG tG (fr_plus G 0 10) rp.1 rp.2 (plus_kind aG0.2)
    · rw [if_neg (c := f_X7_flag F 38 = 0) (by rw [b2]; decide)]
      have w2 : pN_word (f_X7_place (f_X7_plus F 0 6) 7) = lN n := (wd_place _ _).trans ((fr_sg (fr_plus F 0 6) 0).2.2.trans wF)
      unfold f_X7_jump_J76
      rcases w_flag (P := P) hn hf w2 9 (by decide) (m := 512) (i := 39) rfl rfl with ⟨c1, c2, c3⟩ | ⟨c1, c2, c3⟩
      · rw [if_pos (c := f_X7_flag (f_X7_place (f_X7_plus F 0 6) 7) 39 = 0) c2, if_pos c1, fpc_eq, if_pos a1, if_neg (c := f_X2_has P 256 = 0) (by rw [b1]; decide)]
        rcases h.2 with q | ⟨q1, q2⟩
        · rw [q.2.1] at b3; exact absurd b3 (by decide)
        · have v6 : Vok (sg F 6) (vl F 6) := by rw [kF.2.1, kF.2.2]; exact q1
          have rp := r_plus aF0.1 v6
          rw [kF.2.1, kF.2.2, ← q2, F0.1, F0.2, ← e0] at rp
          exact fin7 h kF mF tF (fr_plus F 0 6) rp.1 rp.2 (plus_kind aF0.2)
      · exact absurd ok3 (by rw [show wb n 38 = 1 from b3, show wb n 39 = 1 from c3]; omega)
  · rw [if_neg (c := f_X7_flag F 37 = 0) (by rw [a2]; decide)]
    have w2 : pN_word (f_X7_place (f_X7_give F (sg F 6) (vl F 6)) 7) = lN n := (wd_place _ _).trans wF
    unfold f_X7_jump_J54
    rcases w_flag (P := P) hn hf w2 8 (by decide) (m := 256) (i := 38) rfl rfl with ⟨b1, b2, b3⟩ | ⟨b1, b2, b3⟩
    · rw [if_pos (c := f_X7_flag (f_X7_place (f_X7_give F (sg F 6) (vl F 6)) 7) 38 = 0) b2]
      unfold f_X7_jump_J76
      rcases w_flag (P := P) hn hf w2 9 (by decide) (m := 512) (i := 39) rfl rfl with ⟨c1, c2, c3⟩ | ⟨c1, c2, c3⟩
      · rw [if_pos (c := f_X7_flag (f_X7_place (f_X7_give F (sg F 6) (vl F 6)) 7) 39 = 0) c2, if_pos c1, fpc_eq, if_neg (c := f_X2_has P 128 = 0) (by rw [a1]; decide)]
        rcases h.2 with q | ⟨q1, q2⟩
        · rw [q.1] at a3; exact absurd a3 (by decide)
        · have v6 : Vok (sg F 6) (vl F 6) := by rw [kF.2.1, kF.2.2]; exact q1
          have e6 : pP_res P = enc (sg F 6) (vl F 6) := by rw [kF.2.1, kF.2.2]; exact q2
          have fg := fr_give F (sg F 6) (vl F 6)
          by_cases k0 : sg F 6 = 0
          · rw [o_place2 (N := f_X7_give F (sg F 6) (vl F 6)) tF rfl k0 7, if_pos (show f_X4_isAddress (pP_res P) = 0 by rw [e6]; exact (v_isA v6).mpr k0), reck_m1]
            exact Or.inl ⟨4, st4 (by decide) (by decide) rfl ⟨rfl, rfl, rfl⟩ (kp_tr kF.1.1.1 (kp_tr (kp_fr fg) (kp_tr (k7 _) (kp_t _ _)))) (t_mr (keep_mr (fr_mr mF fg) 7) 4), rfl⟩
          · rw [if_neg (show ¬ f_X4_isAddress (pP_res P) = 0 by rw [e6]; exact fun z => k0 ((v_isA v6).mp z))]
            exact fin7 h kF mF tF fg (by rw [e6]; exact (res1 (N := f_X7_give F (sg F 6) (vl F 6)) rfl).symm) (Or.inr ⟨rfl, v6⟩) (fun _ => k0)
      · exact absurd ok3 (by rw [show wb n 37 = 1 from a3, show wb n 39 = 1 from c3]; omega)
    · exact absurd ok3 (by rw [show wb n 37 = 1 from a3, show wb n 38 = 1 from b3]; omega)
