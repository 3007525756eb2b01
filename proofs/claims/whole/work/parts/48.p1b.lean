def cl (G : Int32 × PS) : Int32 × PS := if G.1 = 0 then (if f_X2_has G.2 4096 = 0 then (0, G.2) else f_X2_saveForReturn G.2) else G
/-- what a part of a step comes to, on both sides -/
def Pt (R : PS → NS → Prop) (P : PS) (N : NS) (C : Int32 × PS) (T : NS) : Prop := (∃ c, St c P N C.2 T ∧ C.1 = c) ∨ (C.1 = 0 ∧ R C.2 T ∧ Kc P C.2 ∧ Kp N T)
theorem reck_no {x : Int64} (h : ¬ x = -1) : f_X2_reckoned x = 0 := by unfold f_X2_reckoned; rw [if_neg h]
theorem reck_m1 : f_X2_reckoned (-1) = 4 := by unfold f_X2_reckoned; rw [if_pos rfl]
theorem st_pre {c : Int32} {P P' Q : PS} {N N' T : NS} (h : St c P' N' Q T) (hc : Kc P P') (hk : Kp N N') : St c P N Q T := ⟨h.1, h.2.1, h.2.2.1, kc_tr hc h.2.2.2.1, kp_tr hk h.2.2.2.2.1, h.2.2.2.2.2⟩
theorem pt_pre {R : PS → NS → Prop} {P P' : PS} {N N' T : NS} {C : Int32 × PS} (h : Pt R P' N' C T) (hc : Kc P P') (hk : Kp N N') : Pt R P N C T := by
  rcases h with ⟨c, h1, h2⟩ | ⟨h1, h2, h3, h4⟩
  · exact Or.inl ⟨c, st_pre h1 hc hk, h2⟩
  · exact Or.inr ⟨h1, h2, kc_tr hc h3, kp_tr hk h4⟩
/-- before the places are known -/
def R0 (n : Nat) (P : PS) (N : NS) : Prop := Rg P N ∧ pN_trouble N = 0 ∧ n < 2 ^ 45 ∧ okW n ∧ pP_word P = lN n ∧ pN_word N = lN n ∧ pP_flags P = nI (n / 2 ^ 30) ∧ ∃ c, c < 64 ∧ vl N 0 = lN c
theorem off_eq {n : Nat} (hn : n < 2 ^ 45) {P : PS} {N : NS} (w1 : pP_word P = lN n) (w2 : pN_word N = lN n) (i : Nat) (hi : i < 3) {j : Int32} (hj : j = nI i) : f_X5_offsetOf (pP_word P) j = f_X7_offset (pN_word N) j := by
  rw [w1, w2, hj]; exact w_off5 (by omega) i hi
theorem p1_ab {n : Nat} {P : PS} {U : NS} (h : R0 n P U) {a b : Int32} (ha : Ad U a) (hb : Ad U b) (hb3 : b.toNatClampNeg ≠ 3) : Pt (R1 n) P U (cl (f_X2_placeDstAndOp0_J55 P (enc (sg U a) (vl U a)) (enc (sg U b) (vl U b)))) (pl2 (f_X7_sure (f_X7_further U a ((f_X7_offset (pN_word U) 0 : Int32).toInt64)) 3) b) := by
  obtain ⟨hg, h0, hn, hok, w1, w2, hf, c0, hc0, ec0⟩ := h
  unfold f_X2_placeDstAndOp0_J55
  change Pt (R1 n) P U (cl (if f_X2_reckoned (f_X4_shifted (enc (sg U a) (vl U a)) ((f_X5_offsetOf (pP_word P) 0 : Int32).toInt64)) = 0 then (f_X2_reckoned (f_X4_shifted (enc (sg U b) (vl U b)) ((f_X5_offsetOf (pP_word P) 1 : Int32).toInt64)), sP_op0Place (sP_dstPlace P (f_X4_shifted (enc (sg U a) (vl U a)) ((f_X5_offsetOf (pP_word P) 0 : Int32).toInt64))) (f_X4_shifted (enc (sg U b) (vl U b)) ((f_X5_offsetOf (pP_word P) 1 : Int32).toInt64))) else (4, sP_op0Place (sP_dstPlace P (f_X4_shifted (enc (sg U a) (vl U a)) ((f_X5_offsetOf (pP_word P) 0 : Int32).toInt64))) (f_X4_shifted (enc (sg U b) (vl U b)) ((f_X5_offsetOf (pP_word P) 1 : Int32).toInt64))))) _
  rw [off_eq hn w1 w2 0 (by decide) (j := 0) rfl, off_eq hn w1 w2 1 (by decide) (j := 1) rfl]
  generalize hd0 : (f_X7_offset (pN_word U) 0 : Int32).toInt64 = d0
  generalize hd1 : (f_X7_offset (pN_word U) 1 : Int32).toInt64 = d1
  have ff := fr_further U a d0
  rcases one_place (q := 3) ha h0 d0 with ⟨q1, q2, q3⟩ | ⟨q1, q2, q3, q4⟩
  · rw [q1, q3, reck_m1, if_neg (by decide)]
    unfold cl
    rw [if_neg (show ¬ (4 : Int32) = 0 by decide)]
    have hs : ¬ pN_trouble (f_X7_keep (sN_trouble (f_X7_further U a d0) 4) 3) ≤ 0 := by show ¬ (4 : Int32) ≤ 0; decide
    have f2 := pl2_s hs b
    have kk : Kp U (f_X7_keep (sN_trouble (f_X7_further U a d0) 4) 3) := kp_tr (kp_fr ff) (kp_tr (kp_t _ _) (k3 _))
    exact Or.inl ⟨4, ⟨by decide, by decide, fr_tr0 f2, ⟨rfl, rfl, rfl⟩, kp_tr kk (kp_fr f2), fr_mr (keep_mr (t_mr (fr_mr hg.1 ff) 4) 3) f2⟩, rfl⟩
  · rw [reck_no q4, if_pos rfl, q1]
    have hV0 : pN_trouble (f_X7_keep (f_X7_further U a d0) 3) = 0 := (fr_tr0 ff).trans h0
    have kk : Kp U (f_X7_keep (f_X7_further U a d0) 3) := kp_tr (kp_fr ff) (k3 _)
    have mm : MR (pP_mem P) (f_X7_keep (f_X7_further U a d0) 3) := keep_mr (fr_mr hg.1 ff) 3
    have hwV : pN_word (f_X7_keep (f_X7_further U a d0) 3) = pN_word U := (fr_sg ff 0).2.2
    have sb := keep_ne (f_X7_further U a d0) (a := 3) (b := b) hb3
    have fb := fr_sg ff b
    rw [q3]
    generalize f_X7_keep (f_X7_further U a d0) 3 = V at *
    have hbV : Ad V b := ad_eq hb (sb.1.trans fb.1) (sb.2.trans fb.2.1)
    have eb : enc (sg U b) (vl U b) = enc (sg V b) (vl V b) := by rw [sb.1, sb.2, fb.1, fb.2.1]
    rw [eb]
    unfold pl2
    rw [hwV, hd1]
    have f2 := fr_further V b d1
    rcases one_place (q := 4) hbV hV0 d1 with ⟨r1, r2, r3⟩ | ⟨r1, r2, r3, r4⟩
    · rw [r1, r3, reck_m1]
      unfold cl
      rw [if_neg (show ¬ (4 : Int32) = 0 by decide)]
      have hs : ¬ pN_trouble (f_X7_keep (sN_trouble (f_X7_further V b d1) 4) 4) ≤ 0 := by show ¬ (4 : Int32) ≤ 0; decide
      have k2 : Kp U (f_X7_keep (sN_trouble (f_X7_further V b d1) 4) 4) := kp_tr kk (kp_tr (kp_fr f2) (kp_tr (kp_t _ _) (k4 _)))
      have m2 := keep_mr (t_mr (fr_mr mm f2) 4) 4
      refine Or.inl ⟨4, ?_, rfl⟩
      split
      · have g := pl3_s hs 1
        exact ⟨by decide, by decide, fr_tr0 g, ⟨rfl, rfl, rfl⟩, kp_tr k2 (kp_fr g), fr_mr m2 g⟩
      · have g := pl3_s hs 2
        exact ⟨by decide, by decide, fr_tr0 g, ⟨rfl, rfl, rfl⟩, kp_tr k2 (kp_fr g), fr_mr m2 g⟩
    · rw [reck_no r4, r1]
      unfold cl
      rw [if_pos (show (0 : Int32) = 0 from rfl)]
      have kW : Kp V (f_X7_keep (f_X7_further V b d1) 4) := kp_tr (kp_fr f2) (k4 _)
      have mW : MR (pP_mem P) (f_X7_keep (f_X7_further V b d1) 4) := keep_mr (fr_mr mm f2) 4
      have tW : pN_trouble (f_X7_keep (f_X7_further V b d1) 4) = 0 := (fr_tr0 f2).trans hV0
      have wW : pN_word (f_X7_keep (f_X7_further V b d1) 4) = lN n := (fr_sg f2 0).2.2.trans (hwV.trans w2)
      have s3 := keep_ne (f_X7_further V b d1) (a := 4) (b := 3) (by decide)
      have f3 := fr_sg f2 3
      rw [r3]
      generalize f_X7_keep (f_X7_further V b d1) 4 = W at *
      have a3 : Ad W 3 := ad_eq q2 (s3.1.trans f3.1) (s3.2.trans f3.2.1)
      have e3 : enc (sg V 3) (vl V 3) = enc (sg W 3) (vl W 3) := by rw [s3.1, s3.2, f3.1, f3.2.1]
      rw [e3]
      have kUW : Kp U W := kp_tr kk kW
      have hR : R1 n (sP_op0Place (sP_dstPlace P (enc (sg W 3) (vl W 3))) (enc (sg W 4) (vl W 4))) W := ⟨rg_kp hg mW ⟨rfl, rfl, rfl⟩ kUW, tW, hn, hok, w1, wW, hf, a3, rfl, r2, rfl, c0, hc0, kUW.2.1.trans ec0⟩
      have go : ∀ sz : Int64, ((wb n 32 = 0 ∧ sz = 1) ∨ (wb n 32 = 1 ∧ sz = 2)) → Pt (R1 n) P U (if f_X2_has (sP_op0Place (sP_dstPlace P (enc (sg W 3) (vl W 3))) (enc (sg W 4) (vl W 4))) 4096 = 0 then (0, sP_op0Place (sP_dstPlace P (enc (sg W 3) (vl W 3))) (enc (sg W 4) (vl W 4))) else f_X2_saveForReturn (sP_op0Place (sP_dstPlace P (enc (sg W 3) (vl W 3))) (enc (sg W 4) (vl W 4)))) (pl3 W sz) := fun sz hsz => pt_pre (p1_end hR hsz) ⟨rfl, rfl, rfl⟩ kUW
      rcases w_flag (P := P) hn hf wW 2 (by decide) (m := 4) (i := 32) rfl rfl with ⟨-, b2, b3⟩ | ⟨-, b2, b3⟩
      · rw [if_pos (c := f_X7_flag W 32 = 0) b2]; exact go 1 (Or.inl ⟨b3, rfl⟩)
      · rw [if_neg (c := f_X7_flag W 32 = 0) (by rw [b2]; decide)]; exact go 2 (Or.inr ⟨b3, rfl⟩)
theorem keep_word (N : NS) (a : Int32) : pN_word (f_X7_keep N a) = pN_word N := rfl
theorem t_word (N : NS) (t : Int32) : pN_word (sN_trouble N t) = pN_word N := rfl
theorem p1_mid {n : Nat} {P : PS} {U : NS} (h : R0 n P U) : Pt (R1 n) P U (cl (f_X2_placeDstAndOp0 P)) (pl0 U) := by
  have h' := h
  obtain ⟨hg, h0, hn, hok, w1, w2, hf, -⟩ := h
  obtain ⟨mm, d0, d1, d2, e0, e1, e2⟩ := hg
  unfold f_X2_placeDstAndOp0 pl0
  rw [if_pos (o_le h0)]
  have go : ∀ a : Int32, Ad U a → Pt (R1 n) P U (cl (f_X2_placeDstAndOp0_J20 P (enc (sg U a) (vl U a)))) (pl1 U a) := by
    intro a ha
    have hb1 : ∀ x, f_X2_has (sP_dstPlace P x) 2 = f_X2_has P 2 := fun x => rfl
    have hap : ∀ x, pP_ap (sP_dstPlace P x) = pP_ap P := fun x => rfl
    have hfp : ∀ x, pP_fp (sP_dstPlace P x) = pP_fp P := fun x => rfl
    unfold f_X2_placeDstAndOp0_J20 pl1
    rw [hb1, hap, hfp]
    have hw : pN_word (f_X7_sure (f_X7_further U a ((f_X7_offset (pN_word U) 0 : Int32).toInt64)) 3) = lN n := by
      rcases one_place (q := 3) ha h0 ((f_X7_offset (pN_word U) 0 : Int32).toInt64) with ⟨-, -, q⟩ | ⟨q, -⟩
      · rw [q, keep_word, t_word, (fr_sg (fr_further U a ((f_X7_offset (pN_word U) 0 : Int32).toInt64)) 0).2.2, w2]
      · rw [q, keep_word, (fr_sg (fr_further U a ((f_X7_offset (pN_word U) 0 : Int32).toInt64)) 0).2.2, w2]
    rcases w_flag (P := P) hn hf hw 1 (by decide) (m := 2) (i := 31) rfl rfl with ⟨b1, b2, -⟩ | ⟨b1, b2, -⟩
    · rw [if_pos b1, if_pos b2]
      have r := p1_ab h' ha d1 (by decide)
      rw [← e1] at r
      exact r
    · rw [if_neg (c := f_X2_has P 2 = 0) (by rw [b1]; decide), if_neg (by rw [b2]; decide)]
      have r := p1_ab h' ha d2 (by decide)
      rw [← e2] at r
      exact r
  rcases w_flag (P := P) hn hf w2 0 (by decide) (m := 1) (i := 30) rfl rfl with ⟨b1, b2, -⟩ | ⟨b1, b2, -⟩
  · rw [if_pos b1, if_pos b2, e1]; exact go 1 d1
  · rw [if_neg (by rw [b1]; decide), if_neg (by rw [b2]; decide), e2]; exact go 2 d2
def cl1 (P : PS) : Int32 × PS := if (f_X2_fetch P).1 = 0 then cl (f_X2_placeDstAndOp0 (f_X2_fetch P).2) else f_X2_fetch P
theorem cl1_eq (P : PS) : f_X2_step P = f_X2_step_J33 (cl1 P).1 (cl1 P).2 := by
  unfold f_X2_step cl1 cl f_X2_step_J14
  by_cases c1 : (f_X2_fetch P).1 = 0
  · rw [if_pos c1, if_pos c1]
    by_cases c2 : (f_X2_placeDstAndOp0 (f_X2_fetch P).2).1 = 0
    · rw [if_pos c2, if_pos c2]
      by_cases c3 : f_X2_has (f_X2_placeDstAndOp0 (f_X2_fetch P).2).2 4096 = 0
      · rw [if_pos c3, if_pos c3, c2]
      · rw [if_neg c3, if_neg c3]
    · rw [if_neg c2, if_neg c2]
  · rw [if_neg c1, if_neg c1, if_neg c1]
theorem fetch_eq (P : PS) : f_X2_fetch P = if f_X2_look P (pP_pc P) = -1 then (1, sP_word P (f_X2_look P (pP_pc P))) else if f_X4_isNumber (f_X2_look P (pP_pc P)) = 0 then (3, sP_word P (f_X2_look P (pP_pc P))) else if f_X5_isInstruction (f_X2_look P (pP_pc P)) = 0 then (3, sP_word P (f_X2_look P (pP_pc P))) else (0, sP_flags (sP_word P (f_X2_look P (pP_pc P))) (f_X5_flagsOf (f_X2_look P (pP_pc P)))) := rfl
theorem p1 {P : PS} {N : NS} (hg : Rg P N) (h0 : pN_trouble N = 0) : Pt (fun Q T => ∃ n, R1 n Q T) P N (cl1 P) (f_X7_places N) := by
  have hg' := hg
  obtain ⟨mm, d0, d1, d2, e0, e1, e2⟩ := hg
  obtain ⟨k1, k2⟩ := r_look mm d0
  rw [← e0] at k1
  have ff := fr_read N 0
  rw [pl_eq]
  unfold cl1
  rw [fetch_eq, k1]
  rcases gd_m1 k2 with ⟨g1, g2⟩ | ⟨g1, g2, g3, g4⟩
  · rw [o_needed0 h0 0 g2, if_neg (show ¬ pN_trouble (sN_trouble (f_X7_read N 0) 1) ≤ 0 by show ¬ (1 : Int32) ≤ 0; decide), if_pos g1, if_neg (show ¬ (1 : Int32) = 0 by decide)]
    exact Or.inl ⟨1, ⟨by decide, by decide, rfl, ⟨rfl, rfl, rfl⟩, kp_tr (kp_fr ff) (kp_t _ _), t_mr (fr_mr mm ff) 1⟩, rfl⟩
  · rw [o_needed1 h0 0 g2, if_pos (o_le ((fr_tr0 ff).trans h0)), if_neg g1, g4]
    obtain ⟨c0, hc0, ec0⟩ := read_cel d0 g2
    have tr : pN_trouble (sN_word (f_X7_read N 0) (pN_got (f_X7_read N 0))) = 0 := (fr_tr0 ff).trans h0
    have kk : Kp N (sN_word (f_X7_read N 0) (pN_got (f_X7_read N 0))) := kp_tr (kp_fr ff) (kp_w _ _)
    have mU : MR (pP_mem P) (sN_word (f_X7_read N 0) (pN_got (f_X7_read N 0))) := mr_fr (fr_mr mm ff) rfl rfl rfl
    have bad : ∀ x : Int64, Pt (fun Q T => ∃ n, R1 n Q T) P N (3, sP_word P x) (pl0 (f_X7_trouble (sN_word (f_X7_read N 0) (pN_got (f_X7_read N 0))) 1 3)) := by
      intro x
      rw [o_tr1 tr]
      unfold pl0
      rw [if_neg (show ¬ pN_trouble (sN_trouble (sN_word (f_X7_read N 0) (pN_got (f_X7_read N 0))) 3) ≤ 0 by show ¬ (3 : Int32) ≤ 0; decide)]
      exact Or.inl ⟨3, ⟨by decide, by decide, rfl, ⟨rfl, rfl, rfl⟩, kp_tr kk (kp_t _ _), t_mr mU 3⟩, rfl⟩
    by_cases kz : pN_gotKind (f_X7_read N 0) = 0
    · rw [if_pos kz, if_neg (fun z => (v_isN g3).mp z kz), (v_num g3 kz).2]
      obtain ⟨wa, wc⟩ := w_any (pN_got (f_X7_read N 0))
      by_cases bz : f_X7_isBad (pN_got (f_X7_read N 0)) = 0
      · rw [if_pos bz, if_neg (fun z => wa.mp z bz), if_pos (show (0 : Int32) = 0 from rfl), o_tr0]
        obtain ⟨n, hn, en, hok⟩ := wc bz
        have hR : R0 n (sP_flags (sP_word P (pN_got (f_X7_read N 0))) (f_X5_flagsOf (pN_got (f_X7_read N 0)))) (sN_word (f_X7_read N 0) (pN_got (f_X7_read N 0))) := ⟨rg_kp hg' mU ⟨rfl, rfl, rfl⟩ kk, tr, hn, hok, en, en, by show f_X5_flagsOf (pN_got (f_X7_read N 0)) = _; rw [en, w_flags hn], c0, hc0, kk.2.1.trans ec0⟩
        rcases pt_pre (p1_mid hR) ⟨rfl, rfl, rfl⟩ kk with q | ⟨q1, q2, q3, q4⟩
        · exact Or.inl q
        · exact Or.inr ⟨q1, ⟨n, q2⟩, q3, q4⟩
      · rw [if_neg bz, if_pos (wa.mpr bz), if_neg (show ¬ (3 : Int32) = 0 by decide)]
        exact bad _
    · rw [if_neg kz, if_pos ((v_isN g3).mpr kz), if_neg (show ¬ (3 : Int32) = 0 by decide)]
      exact bad _
