set_option maxHeartbeats 4000000 in
set_option maxRecDepth 100000 in
theorem k_case8 {p : Program} {l : Launch} {e : Env} {s : State} {m : MethodId} {below : List Frame} {meth : Method} {c : Code} {b L : Nat} {xs : Nat → Int32} {Q : State → Prop} {D : va_G} {A : Nat → Prop} {aX aP aM aC aT aR aN aIs aKd aNu aSg aVl aTs aTc aO : Nat} {cJ cI cZ : ClassId} (hlk : l.stackTraces = false) (C0 : lw_At p s m meth c b L xs) (hA : ∀ q, s.heap.size ≤ q → A q) (hbA : ¬ A b) (hE : q_E s) (hZ : q_Z A s s.heap) (hN3 : q_N3 s) (hK : va_K D vwCl [(cJ, .long), (cI, .int), (cZ, .boolean)] s) {S : XS} {N : NS} {o : Nat → Int64} (hR : RX S N) {i : Nat} {x1 : Int32} (v1 : vp_in (nI i + 1) L) (g1 : xs (nI i + 1).toNatClampNeg = x1) {x2 : Int32} (v2 : vp_in (nI i + 2) L) (g2 : xs (nI i + 2).toNatClampNeg = x2) {x3 : Int32} (v3 : vp_in (nI i + 3) L) (g3 : xs (nI i + 3).toNatClampNeg = x3) {x4 : Int32} (v4 : vp_in (nI i + 4) L) (g4 : xs (nI i + 4).toNatClampNeg = x4) {x5 : Int32} (v5 : vp_in (nI i + 5) L) (g5 : xs (nI i + 5).toNatClampNeg = x5) {cells slots : Nat} (hc1 : cells + 2 ≤ 1055) (hc2 : slots + 12 ≤ 10398) {H : Heap} {locs : List Loc} (hP : va_P D vwCl (wL aX aP aM aC aT aR aN aIs aKd aNu aSg aVl aTs aTc aO cJ cI cZ S N o) H) (hD : va_D A (wL aX aP aM aC aT aR aN aIs aKd aNu aSg aVl aTs aTc aO cJ cI cZ S N o)) (hS : va_S A s.heap H locs) {ls : Array Slot} (hl : lv_has ls 8 [(0, .ref b), (1, .ref aX), (2, .ref aN), (3, .ref aO), (4, .int (nI i))]) (kk : ∀ (S : XS) (N : NS) (o : Nat → Int64) (H : Heap) (locs : List Loc) (ls : Array Slot), RX S N → va_P D vwCl (wL aX aP aM aC aT aR aN aIs aKd aNu aSg aVl aTs aTc aO cJ cI cZ S N o) H → va_D A (wL aX aP aM aC aT aR aN aIs aKd aNu aSg aVl aTs aTc aO cJ cI cZ S N o) → va_S A s.heap H locs → lv_has ls 8 [(0, .ref b), (1, .ref aX), (2, .ref aN), (3, .ref aO), (4, .int (nI i))] → W p l e room_1 s m #[Value.ref b] below meth c H locs (cells + 2) (slots + 12) Q (F0 m 1153 ls [])) : W p l e room_1 s m #[Value.ref b] below meth c H locs cells slots Q (F0 m 684 ls []) := by
  obtain ⟨hx, hb, hr, hml, hown, htt, hX, hbl, hlocks, hgv⟩ := C0
  have hown : s.vm.findClass RL = some m.cls := hown
  have hts : ∀ w ∈ wsL_law, w.before #[Value.ref b] s = true := fun w h => htt w (wsL_law_in w h)
  have hfix : CallFix p m c cL_law 8 s #[Value.ref b] wsL_law RL := ⟨hx, hb, hml, hown, hts⟩
  refine lv_aload_n hx hb dL_law_684 rfl (lv_at hl 1 rfl) ?_
  refine lv_aload_n hx hb dL_law_685 rfl (lv_at hl 0 rfl) ?_
  refine lv_iload hx hb dL_law_686 (lv_at hl 4 rfl) ?_
  refine lv_iconst (v := 1) hx hb dL_law_688 (by decide) ?_
  refine lv_iadd hx hb dL_law_689 ?_
  refine q_sld hx hb hX hbl hbA hS v1 g1 dL_law_690 ?_
  refine lv_aload_n hx hb dL_law_691 rfl (lv_at hl 0 rfl) ?_
  refine lv_iload hx hb dL_law_692 (lv_at hl 4 rfl) ?_
  refine lv_iconst (v := 2) hx hb dL_law_694 (by decide) ?_
  refine lv_iadd hx hb dL_law_695 ?_
  refine q_sld hx hb hX hbl hbA hS v2 g2 dL_law_696 ?_
  refine lv_aload_n hx hb dL_law_697 rfl (lv_at hl 3 rfl) ?_
  refine q_ycall (As := [.ref aX, .int x1, .int x2, .ref aO]) (rest := []) (wr := (wN aN aIs aKd aNu aSg aVl aTs aTc cJ cI cZ N)) (Wn := (fun u : XS × (Nat → Int64) => (wL aX aP aM aC aT aR aN aIs aKd aNu aSg aVl aTs aTc aO cJ cI cZ u.1 N u.2))) (c_L_segment l hlk D aX aP aM aC aT aR aO cJ S o x1 x2 (E_segment hR x1 x2).2) hfix (vx_cwSW 4 hts gL_law_L_segment rfl rfl rfl (by decide +kernel) ⟨Nat.le_of_ble_eq_true rfl, Nat.le_of_ble_eq_true rfl⟩) rfl hl.1 rfl (Nat.le_of_ble_eq_true rfl) ⟨by show cells + 2 ≤ 1055; omega, by show slots + 12 ≤ 10398; omega⟩ hP hK hD hS hA hE hZ hN3 [0, 1, 2, 3, 4, 5, 14] [6, 7, 8, 9, 10, 11, 12, 13] [8, 9, 10, 11, 12, 13, 0, 1, 2, 3, 4, 5, 6, 7, 14] [0] rfl rfl rfl (by decide) (by decide) (by decide) (by decide) (fun _ => rfl) (fun _ => rfl) rfl dL_law_698 (fun r u H locs hw hP hD hS => ?_)
  have hP : va_P D vwCl (wL aX aP aM aC aT aR aN aIs aKd aNu aSg aVl aTs aTc aO cJ cI cZ u.1 N u.2) H := hP
  have hD : va_D A (wL aX aP aM aC aT aR aN aIs aKd aNu aSg aVl aTs aTc aO cJ cI cZ u.1 N u.2) := hD
  refine lv_istore (lv' := [(5, .int r), (0, .ref b), (1, .ref aX), (2, .ref aN), (3, .ref aO), (4, .int (nI i))]) hx hb dL_law_701 hl (by decide) rfl (fun ls hl => ?_)
  refine lv_aload_n hx hb dL_law_703 rfl (lv_at hl 3 rfl) ?_
  refine lv_aload_n hx hb dL_law_704 rfl (lv_at hl 1 rfl) ?_
  refine lv_iload hx hb dL_law_705 (lv_at hl 5 rfl) ?_
  refine lv_iconst (v := 1) hx hb dL_law_707 (by decide) ?_
  refine lv_iadd hx hb dL_law_708 ?_
  refine q_sld hx hb hX hbl hbA hS v1 g1 dL_law_709 ?_
  refine lv_aload_n hx hb dL_law_710 rfl (lv_at hl 1 rfl) ?_
  refine lv_iload hx hb dL_law_711 (lv_at hl 5 rfl) ?_
  refine lv_iconst (v := 2) hx hb dL_law_713 (by decide) ?_
  refine lv_iadd hx hb dL_law_714 ?_
  refine q_sld hx hb hX hbl hbA hS v2 g2 dL_law_715 ?_
  refine q_callMi (As := [.int x1, .int x2]) (rest := []) (wr := [(aX, .inr (3, [.ref aM, .ref aP, .ref aT, .int (pX_latestFailure u.1)])), (aP, .inr (1, [.ref aM, .long (pP_pc (pX_p u.1)), .long (pP_ap (pX_p u.1)), .long (pP_fp (pX_p u.1)), .long (pP_newPc (pX_p u.1)), .long (pP_newAp (pX_p u.1)), .long (pP_newFp (pX_p u.1)), .long (pP_word (pX_p u.1)), .int (pP_flags (pX_p u.1)), .long (pP_dstPlace (pX_p u.1)), .long (pP_op0Place (pX_p u.1)), .long (pP_op1Place (pX_p u.1)), .long (pP_res (pX_p u.1))])), (aM, .inr (0, [.ref aC])), (aC, .inl (cJ, 320, .inr (.inl (pP_mem (pX_p u.1))))), (aT, .inr (2, [.ref aR, .int (pT_length (pX_t u.1))])), (aR, .inl (cJ, 192, .inr (.inl (pT_row (pX_t u.1))))), (aO, .inl (cJ, 1, .inr (.inl u.2)))]) (Wn := (fun v : NS => (wL aX aP aM aC aT aR aN aIs aKd aNu aSg aVl aTs aTc aO cJ cI cZ u.1 v u.2))) (q0 := 0) (ci := 4) (C := RX7) (c_X7_segment l D aN aIs aKd aNu aSg aVl aTs aTc cJ cI cZ N x1 x2) hfix (cwV 2 hts gL_law_X7_segment rfl rfl rfl (by decide +kernel) ⟨Nat.le_of_ble_eq_true rfl, Nat.le_of_ble_eq_true rfl⟩) rfl hl.1 rfl (Nat.le_of_ble_eq_true rfl) ⟨by show cells + 2 ≤ 1055; omega, by show slots + 12 ≤ 10398; omega⟩ hP hK hD hS hA [6, 7, 8, 9, 10, 11, 12, 13] [0, 1, 2, 3, 4, 5, 14] [0, 1, 2, 3, 4, 5, 7, 8, 9, 10, 11, 12, 13, 14, 6] [0, 1, 2] rfl rfl rfl (by decide) (by decide) (by decide) (by decide) (fun _ => rfl) (fun _ => rfl) rfl rfl rfl rfl dL_law_716 (fun r2 v H locs hw2 hP hD hS => ?_)
  have hJ := J2 (fun z : Int32 => z.toInt64) (E_segment hR x1 x2).1 cd3_0 hw hw2
  have hP : va_P D vwCl (wL aX aP aM aC aT aR aN aIs aKd aNu aSg aVl aTs aTc aO cJ cI cZ u.1 v u.2) H := hP
  have hD : va_D A (wL aX aP aM aC aT aR aN aIs aKd aNu aSg aVl aTs aTc aO cJ cI cZ u.1 v u.2) := hD
  refine lv_istore (lv' := [(6, .int r2), (5, .int r), (0, .ref b), (1, .ref aX), (2, .ref aN), (3, .ref aO), (4, .int (nI i))]) hx hb dL_law_719 hl (by decide) rfl (fun ls hl => ?_)
  refine lv_aload_n hx hb dL_law_721 rfl (lv_at hl 4 rfl) ?_
  refine q_callVi (As := []) (rest := []) (q0 := 0) (ci := 4) (C := RX7) (c_X7_thrown l D aN aIs aKd aNu aSg aVl aTs aTc cJ cI cZ v) hfix (cwV 0 hts gL_law_X7_thrown rfl rfl rfl (by decide +kernel) ⟨Nat.le_of_ble_eq_true rfl, Nat.le_of_ble_eq_true rfl⟩) rfl hl.1 rfl (Nat.le_of_ble_eq_true rfl) ⟨by show cells + 2 ≤ 1055; omega, by show slots + 12 ≤ 10398; omega⟩ hP hK hS hA [6, 7, 8, 9, 10, 11, 12, 13] [0, 1, 2] rfl rfl rfl rfl rfl dL_law_722 (fun H locs hP hS => ?_)
  refine lv_iload hx hb dL_law_725 (lv_at hl 1 rfl) ?_
  refine lv_icmp_eq (tgt := 732) hx hb dL_law_727 (by decide) (fun c1 => ?_) (fun c1 => absurd hJ.1 c1)
  refine lv_iload hx hb dL_law_732 (lv_at hl 1 rfl) ?_
  refine lv_if_ne (tgt := 749) hx hb dL_law_734 (by decide) (fun c2 => ?_) (fun c2 => ?_)
  · refine lv_goto (tgt := 1153) hx hb dL_law_749 (by decide) ?_
    exact kk u.1 v u.2 _ _ _ hJ.2.2 hP hD hS (lv_sub hl [2, 3, 4, 5, 6] rfl)
  · refine lv_aload_n hx hb dL_law_737 rfl (lv_at hl 5 rfl) ?_
    refine lv_iconst (v := 0) hx hb dL_law_738 (by decide) ?_
    refine va_lald hx hb hK hP 14 0 rfl rfl (q_vi (by decide)) dL_law_739 ?_
    refine lv_iload hx hb dL_law_740 (lv_at hl 0 rfl) ?_
    refine lv_i2l hx hb dL_law_742 rfl ?_
    refine q_eq (tgt := 749) hx hb dL_law_743 dL_law_744 (by decide) (fun c3 => ?_) (fun c3 => absurd (hJ.2.1 c2) c3)
    refine lv_goto (tgt := 1153) hx hb dL_law_749 (by decide) ?_
    exact kk u.1 v u.2 _ _ _ hJ.2.2 hP hD hS (lv_sub hl [2, 3, 4, 5, 6] rfl)

set_option maxHeartbeats 4000000 in
set_option maxRecDepth 100000 in
theorem k_case9 {p : Program} {l : Launch} {e : Env} {s : State} {m : MethodId} {below : List Frame} {meth : Method} {c : Code} {b L : Nat} {xs : Nat → Int32} {Q : State → Prop} {D : va_G} {A : Nat → Prop} {aX aP aM aC aT aR aN aIs aKd aNu aSg aVl aTs aTc aO : Nat} {cJ cI cZ : ClassId} (hlk : l.stackTraces = false) (C0 : lw_At p s m meth c b L xs) (hA : ∀ q, s.heap.size ≤ q → A q) (hbA : ¬ A b) (hE : q_E s) (hZ : q_Z A s s.heap) (hN3 : q_N3 s) (hK : va_K D vwCl [(cJ, .long), (cI, .int), (cZ, .boolean)] s) {S : XS} {N : NS} {o : Nat → Int64} (hR : RX S N) {i : Nat} {x1 : Int32} (v1 : vp_in (nI i + 1) L) (g1 : xs (nI i + 1).toNatClampNeg = x1) {x2 : Int32} (v2 : vp_in (nI i + 2) L) (g2 : xs (nI i + 2).toNatClampNeg = x2) {x3 : Int32} (v3 : vp_in (nI i + 3) L) (g3 : xs (nI i + 3).toNatClampNeg = x3) {x4 : Int32} (v4 : vp_in (nI i + 4) L) (g4 : xs (nI i + 4).toNatClampNeg = x4) {x5 : Int32} (v5 : vp_in (nI i + 5) L) (g5 : xs (nI i + 5).toNatClampNeg = x5) {cells slots : Nat} (hc1 : cells + 2 ≤ 1055) (hc2 : slots + 12 ≤ 10398) {H : Heap} {locs : List Loc} (hP : va_P D vwCl (wL aX aP aM aC aT aR aN aIs aKd aNu aSg aVl aTs aTc aO cJ cI cZ S N o) H) (hD : va_D A (wL aX aP aM aC aT aR aN aIs aKd aNu aSg aVl aTs aTc aO cJ cI cZ S N o)) (hS : va_S A s.heap H locs) {ls : Array Slot} (hl : lv_has ls 8 [(0, .ref b), (1, .ref aX), (2, .ref aN), (3, .ref aO), (4, .int (nI i))]) (kk : ∀ (S : XS) (N : NS) (o : Nat → Int64) (H : Heap) (locs : List Loc) (ls : Array Slot), RX S N → va_P D vwCl (wL aX aP aM aC aT aR aN aIs aKd aNu aSg aVl aTs aTc aO cJ cI cZ S N o) H → va_D A (wL aX aP aM aC aT aR aN aIs aKd aNu aSg aVl aTs aTc aO cJ cI cZ S N o) → va_S A s.heap H locs → lv_has ls 8 [(0, .ref b), (1, .ref aX), (2, .ref aN), (3, .ref aO), (4, .int (nI i))] → W p l e room_1 s m #[Value.ref b] below meth c H locs (cells + 2) (slots + 12) Q (F0 m 1153 ls [])) : W p l e room_1 s m #[Value.ref b] below meth c H locs cells slots Q (F0 m 752 ls []) := by
  obtain ⟨hx, hb, hr, hml, hown, htt, hX, hbl, hlocks, hgv⟩ := C0
  have hown : s.vm.findClass RL = some m.cls := hown
  have hts : ∀ w ∈ wsL_law, w.before #[Value.ref b] s = true := fun w h => htt w (wsL_law_in w h)
  have hfix : CallFix p m c cL_law 8 s #[Value.ref b] wsL_law RL := ⟨hx, hb, hml, hown, hts⟩
  refine lv_aload_n hx hb dL_law_752 rfl (lv_at hl 1 rfl) ?_
  refine lv_aload_n hx hb dL_law_753 rfl (lv_at hl 0 rfl) ?_
  refine lv_iload hx hb dL_law_754 (lv_at hl 4 rfl) ?_
  refine lv_iconst (v := 1) hx hb dL_law_756 (by decide) ?_
  refine lv_iadd hx hb dL_law_757 ?_
  refine q_sld hx hb hX hbl hbA hS v1 g1 dL_law_758 ?_
  refine lv_aload_n hx hb dL_law_759 rfl (lv_at hl 0 rfl) ?_
  refine lv_iload hx hb dL_law_760 (lv_at hl 4 rfl) ?_
  refine lv_iconst (v := 2) hx hb dL_law_762 (by decide) ?_
  refine lv_iadd hx hb dL_law_763 ?_
  refine q_sld hx hb hX hbl hbA hS v2 g2 dL_law_764 ?_
  refine lv_aload_n hx hb dL_law_765 rfl (lv_at hl 3 rfl) ?_
  refine q_ycall (As := [.ref aX, .int x1, .int x2, .ref aO]) (rest := []) (wr := (wN aN aIs aKd aNu aSg aVl aTs aTc cJ cI cZ N)) (Wn := (fun u : XS × (Nat → Int64) => (wL aX aP aM aC aT aR aN aIs aKd aNu aSg aVl aTs aTc aO cJ cI cZ u.1 N u.2))) (c_L_value l hlk D aX aP aM aC aT aR aO cJ S o x1 x2 (E_value hR x1 x2).2) hfix (vx_cwSW 4 hts gL_law_L_value rfl rfl rfl (by decide +kernel) ⟨Nat.le_of_ble_eq_true rfl, Nat.le_of_ble_eq_true rfl⟩) rfl hl.1 rfl (Nat.le_of_ble_eq_true rfl) ⟨by show cells + 2 ≤ 1055; omega, by show slots + 12 ≤ 10398; omega⟩ hP hK hD hS hA hE hZ hN3 [0, 1, 2, 3, 4, 5, 14] [6, 7, 8, 9, 10, 11, 12, 13] [8, 9, 10, 11, 12, 13, 0, 1, 2, 3, 4, 5, 6, 7, 14] [0] rfl rfl rfl (by decide) (by decide) (by decide) (by decide) (fun _ => rfl) (fun _ => rfl) rfl dL_law_766 (fun r u H locs hw hP hD hS => ?_)
  have hP : va_P D vwCl (wL aX aP aM aC aT aR aN aIs aKd aNu aSg aVl aTs aTc aO cJ cI cZ u.1 N u.2) H := hP
  have hD : va_D A (wL aX aP aM aC aT aR aN aIs aKd aNu aSg aVl aTs aTc aO cJ cI cZ u.1 N u.2) := hD
  refine lv_istore (lv' := [(5, .int r), (0, .ref b), (1, .ref aX), (2, .ref aN), (3, .ref aO), (4, .int (nI i))]) hx hb dL_law_769 hl (by decide) rfl (fun ls hl => ?_)
  refine lv_aload_n hx hb dL_law_771 rfl (lv_at hl 3 rfl) ?_
  refine lv_aload_n hx hb dL_law_772 rfl (lv_at hl 1 rfl) ?_
  refine lv_iload hx hb dL_law_773 (lv_at hl 5 rfl) ?_
  refine lv_iconst (v := 1) hx hb dL_law_775 (by decide) ?_
  refine lv_iadd hx hb dL_law_776 ?_
  refine q_sld hx hb hX hbl hbA hS v1 g1 dL_law_777 ?_
  refine lv_aload_n hx hb dL_law_778 rfl (lv_at hl 1 rfl) ?_
  refine lv_iload hx hb dL_law_779 (lv_at hl 5 rfl) ?_
  refine lv_iconst (v := 2) hx hb dL_law_781 (by decide) ?_
  refine lv_iadd hx hb dL_law_782 ?_
  refine q_sld hx hb hX hbl hbA hS v2 g2 dL_law_783 ?_
  refine q_callMl (As := [.int x1, .int x2]) (rest := []) (wr := [(aX, .inr (3, [.ref aM, .ref aP, .ref aT, .int (pX_latestFailure u.1)])), (aP, .inr (1, [.ref aM, .long (pP_pc (pX_p u.1)), .long (pP_ap (pX_p u.1)), .long (pP_fp (pX_p u.1)), .long (pP_newPc (pX_p u.1)), .long (pP_newAp (pX_p u.1)), .long (pP_newFp (pX_p u.1)), .long (pP_word (pX_p u.1)), .int (pP_flags (pX_p u.1)), .long (pP_dstPlace (pX_p u.1)), .long (pP_op0Place (pX_p u.1)), .long (pP_op1Place (pX_p u.1)), .long (pP_res (pX_p u.1))])), (aM, .inr (0, [.ref aC])), (aC, .inl (cJ, 320, .inr (.inl (pP_mem (pX_p u.1))))), (aT, .inr (2, [.ref aR, .int (pT_length (pX_t u.1))])), (aR, .inl (cJ, 192, .inr (.inl (pT_row (pX_t u.1))))), (aO, .inl (cJ, 1, .inr (.inl u.2)))]) (Wn := (fun v : NS => (wL aX aP aM aC aT aR aN aIs aKd aNu aSg aVl aTs aTc aO cJ cI cZ u.1 v u.2))) (q0 := 0) (ci := 4) (C := RX7) (c_X7_value l D aN aIs aKd aNu aSg aVl aTs aTc cJ cI cZ N x1 x2) hfix (cwV 2 hts gL_law_X7_value rfl rfl rfl (by decide +kernel) ⟨Nat.le_of_ble_eq_true rfl, Nat.le_of_ble_eq_true rfl⟩) rfl hl.1 rfl (Nat.le_of_ble_eq_true rfl) ⟨by show cells + 2 ≤ 1055; omega, by show slots + 12 ≤ 10398; omega⟩ hP hK hD hS hA [6, 7, 8, 9, 10, 11, 12, 13] [0, 1, 2, 3, 4, 5, 14] [0, 1, 2, 3, 4, 5, 7, 8, 9, 10, 11, 12, 13, 14, 6] [0, 1, 2] rfl rfl rfl (by decide) (by decide) (by decide) (by decide) (fun _ => rfl) (fun _ => rfl) rfl rfl rfl rfl dL_law_784 (fun r2 v H locs hw2 hP hD hS => ?_)
  have hJ := J2 (fun z : Int64 => z) (E_value hR x1 x2).1 cd3_0 hw hw2
  have hP : va_P D vwCl (wL aX aP aM aC aT aR aN aIs aKd aNu aSg aVl aTs aTc aO cJ cI cZ u.1 v u.2) H := hP
  have hD : va_D A (wL aX aP aM aC aT aR aN aIs aKd aNu aSg aVl aTs aTc aO cJ cI cZ u.1 v u.2) := hD
  refine lv_lstore (lv' := [(6, .long r2), (5, .int r), (0, .ref b), (1, .ref aX), (2, .ref aN), (3, .ref aO), (4, .int (nI i))]) hx hb dL_law_787 hl (by decide) rfl (fun ls hl => ?_)
  refine lv_aload_n hx hb dL_law_789 rfl (lv_at hl 4 rfl) ?_
  refine q_callVi (As := []) (rest := []) (q0 := 0) (ci := 4) (C := RX7) (c_X7_thrown l D aN aIs aKd aNu aSg aVl aTs aTc cJ cI cZ v) hfix (cwV 0 hts gL_law_X7_thrown rfl rfl rfl (by decide +kernel) ⟨Nat.le_of_ble_eq_true rfl, Nat.le_of_ble_eq_true rfl⟩) rfl hl.1 rfl (Nat.le_of_ble_eq_true rfl) ⟨by show cells + 2 ≤ 1055; omega, by show slots + 12 ≤ 10398; omega⟩ hP hK hS hA [6, 7, 8, 9, 10, 11, 12, 13] [0, 1, 2] rfl rfl rfl rfl rfl dL_law_790 (fun H locs hP hS => ?_)
  refine lv_iload hx hb dL_law_793 (lv_at hl 1 rfl) ?_
  refine lv_icmp_eq (tgt := 800) hx hb dL_law_795 (by decide) (fun c1 => ?_) (fun c1 => absurd hJ.1 c1)
  refine lv_iload hx hb dL_law_800 (lv_at hl 1 rfl) ?_
  refine lv_if_ne (tgt := 816) hx hb dL_law_802 (by decide) (fun c2 => ?_) (fun c2 => ?_)
  · refine lv_goto (tgt := 1153) hx hb dL_law_816 (by decide) ?_
    exact kk u.1 v u.2 _ _ _ hJ.2.2 hP hD hS (lv_sub hl [2, 3, 4, 5, 6] rfl)
  · refine lv_aload_n hx hb dL_law_805 rfl (lv_at hl 5 rfl) ?_
    refine lv_iconst (v := 0) hx hb dL_law_806 (by decide) ?_
    refine va_lald hx hb hK hP 14 0 rfl rfl (q_vi (by decide)) dL_law_807 ?_
    refine lv_lload hx hb dL_law_808 (lv_at hl 0 rfl) ?_
    refine q_eq (tgt := 816) hx hb dL_law_810 dL_law_811 (by decide) (fun c3 => ?_) (fun c3 => absurd (hJ.2.1 c2) c3)
    refine lv_goto (tgt := 1153) hx hb dL_law_816 (by decide) ?_
    exact kk u.1 v u.2 _ _ _ hJ.2.2 hP hD hS (lv_sub hl [2, 3, 4, 5, 6] rfl)

set_option maxHeartbeats 4000000 in
set_option maxRecDepth 100000 in
theorem k_case10 {p : Program} {l : Launch} {e : Env} {s : State} {m : MethodId} {below : List Frame} {meth : Method} {c : Code} {b L : Nat} {xs : Nat → Int32} {Q : State → Prop} {D : va_G} {A : Nat → Prop} {aX aP aM aC aT aR aN aIs aKd aNu aSg aVl aTs aTc aO : Nat} {cJ cI cZ : ClassId} (hlk : l.stackTraces = false) (C0 : lw_At p s m meth c b L xs) (hA : ∀ q, s.heap.size ≤ q → A q) (hbA : ¬ A b) (hE : q_E s) (hZ : q_Z A s s.heap) (hN3 : q_N3 s) (hK : va_K D vwCl [(cJ, .long), (cI, .int), (cZ, .boolean)] s) {S : XS} {N : NS} {o : Nat → Int64} (hR : RX S N) {i : Nat} {x1 : Int32} (v1 : vp_in (nI i + 1) L) (g1 : xs (nI i + 1).toNatClampNeg = x1) {x2 : Int32} (v2 : vp_in (nI i + 2) L) (g2 : xs (nI i + 2).toNatClampNeg = x2) {x3 : Int32} (v3 : vp_in (nI i + 3) L) (g3 : xs (nI i + 3).toNatClampNeg = x3) {x4 : Int32} (v4 : vp_in (nI i + 4) L) (g4 : xs (nI i + 4).toNatClampNeg = x4) {x5 : Int32} (v5 : vp_in (nI i + 5) L) (g5 : xs (nI i + 5).toNatClampNeg = x5) {cells slots : Nat} (hc1 : cells + 2 ≤ 1055) (hc2 : slots + 12 ≤ 10398) {H : Heap} {locs : List Loc} (hP : va_P D vwCl (wL aX aP aM aC aT aR aN aIs aKd aNu aSg aVl aTs aTc aO cJ cI cZ S N o) H) (hD : va_D A (wL aX aP aM aC aT aR aN aIs aKd aNu aSg aVl aTs aTc aO cJ cI cZ S N o)) (hS : va_S A s.heap H locs) {ls : Array Slot} (hl : lv_has ls 8 [(0, .ref b), (1, .ref aX), (2, .ref aN), (3, .ref aO), (4, .int (nI i))]) (kk : ∀ (S : XS) (N : NS) (o : Nat → Int64) (H : Heap) (locs : List Loc) (ls : Array Slot), RX S N → va_P D vwCl (wL aX aP aM aC aT aR aN aIs aKd aNu aSg aVl aTs aTc aO cJ cI cZ S N o) H → va_D A (wL aX aP aM aC aT aR aN aIs aKd aNu aSg aVl aTs aTc aO cJ cI cZ S N o) → va_S A s.heap H locs → lv_has ls 8 [(0, .ref b), (1, .ref aX), (2, .ref aN), (3, .ref aO), (4, .int (nI i))] → W p l e room_1 s m #[Value.ref b] below meth c H locs (cells + 2) (slots + 12) Q (F0 m 1153 ls [])) : W p l e room_1 s m #[Value.ref b] below meth c H locs cells slots Q (F0 m 819 ls []) := by
  obtain ⟨hx, hb, hr, hml, hown, htt, hX, hbl, hlocks, hgv⟩ := C0
  have hown : s.vm.findClass RL = some m.cls := hown
  have hts : ∀ w ∈ wsL_law, w.before #[Value.ref b] s = true := fun w h => htt w (wsL_law_in w h)
  have hfix : CallFix p m c cL_law 8 s #[Value.ref b] wsL_law RL := ⟨hx, hb, hml, hown, hts⟩
  refine lv_aload_n hx hb dL_law_819 rfl (lv_at hl 1 rfl) ?_
  refine q_xcallVi (As := []) (rest := []) (wr := [(aN, .inr (4, [.int (pN_thrown N), .ref aIs, .ref aKd, .ref aNu, .ref aSg, .ref aVl, .int (pN_there N), .int (pN_gotKind N), .long (pN_got N), .int (pN_trouble N), .int (pN_failure N), .long (pN_word N), .int (pN_rows N), .ref aTs, .ref aTc])), (aIs, .inl (cZ, 384, .inl (pN_isSet N))), (aKd, .inl (cI, 384, .inl (pN_kind N))), (aNu, .inl (cJ, 384, .inr (.inl (pN_number N)))), (aSg, .inl (cI, 13, .inl (pN_segment N))), (aVl, .inl (cJ, 13, .inr (.inl (pN_value N)))), (aTs, .inl (cI, 192, .inl (pN_traceSegment N))), (aTc, .inl (cJ, 192, .inr (.inl (pN_traceCell N)))), (aO, .inl (cJ, 1, .inr (.inl o)))]) (Wn := (fun u : XS => (wL aX aP aM aC aT aR aN aIs aKd aNu aSg aVl aTs aTc aO cJ cI cZ u N o))) (q0 := 0) (ci := 3) (C := RX6) (c_X6_rows l hlk D aX aP aM aC aT aR cJ S) hfix (cwV 0 hts gL_law_X6_rows rfl rfl rfl (by decide +kernel) ⟨Nat.le_of_ble_eq_true rfl, Nat.le_of_ble_eq_true rfl⟩) rfl hl.1 rfl (Nat.le_of_ble_eq_true rfl) ⟨by show cells ≤ 1055; omega, by show slots ≤ 10398; omega⟩ hP hK hD hS hA hE hZ [0, 1, 2, 3, 4, 5] [6, 7, 8, 9, 10, 11, 12, 13, 14] [9, 10, 11, 12, 13, 14, 0, 1, 2, 3, 4, 5, 6, 7, 8] [0] rfl rfl rfl (by decide) (by decide) (by decide) (by decide) (fun _ => rfl) (fun _ => rfl) rfl rfl rfl rfl dL_law_820 (fun E ce q9 k u H locs hw hEk hP hD hS hce hcv hcl => absurd (E_rows hR).2 hw.1) (fun r u H locs hw hP hD hS => ?_)
  have hP : va_P D vwCl (wL aX aP aM aC aT aR aN aIs aKd aNu aSg aVl aTs aTc aO cJ cI cZ u N o) H := hP
  have hD : va_D A (wL aX aP aM aC aT aR aN aIs aKd aNu aSg aVl aTs aTc aO cJ cI cZ u N o) := hD
  refine lv_aload_n hx hb dL_law_823 rfl (lv_at hl 2 rfl) ?_
  refine q_callMi (As := []) (rest := [.int r]) (wr := [(aX, .inr (3, [.ref aM, .ref aP, .ref aT, .int (pX_latestFailure u)])), (aP, .inr (1, [.ref aM, .long (pP_pc (pX_p u)), .long (pP_ap (pX_p u)), .long (pP_fp (pX_p u)), .long (pP_newPc (pX_p u)), .long (pP_newAp (pX_p u)), .long (pP_newFp (pX_p u)), .long (pP_word (pX_p u)), .int (pP_flags (pX_p u)), .long (pP_dstPlace (pX_p u)), .long (pP_op0Place (pX_p u)), .long (pP_op1Place (pX_p u)), .long (pP_res (pX_p u))])), (aM, .inr (0, [.ref aC])), (aC, .inl (cJ, 320, .inr (.inl (pP_mem (pX_p u))))), (aT, .inr (2, [.ref aR, .int (pT_length (pX_t u))])), (aR, .inl (cJ, 192, .inr (.inl (pT_row (pX_t u))))), (aO, .inl (cJ, 1, .inr (.inl o)))]) (Wn := (fun v : NS => (wL aX aP aM aC aT aR aN aIs aKd aNu aSg aVl aTs aTc aO cJ cI cZ u v o))) (q0 := 0) (ci := 4) (C := RX7) (c_X7_rows l D aN aIs aKd aNu aSg aVl aTs aTc cJ cI cZ N ) hfix (cwV 0 hts gL_law_X7_rows rfl rfl rfl (by decide +kernel) ⟨Nat.le_of_ble_eq_true rfl, Nat.le_of_ble_eq_true rfl⟩) rfl hl.1 rfl (Nat.le_of_ble_eq_true rfl) ⟨by show cells ≤ 1055; omega, by show slots ≤ 10398; omega⟩ hP hK hD hS hA [6, 7, 8, 9, 10, 11, 12, 13] [0, 1, 2, 3, 4, 5, 14] [0, 1, 2, 3, 4, 5, 7, 8, 9, 10, 11, 12, 13, 14, 6] [0, 1, 2] rfl rfl rfl (by decide) (by decide) (by decide) (by decide) (fun _ => rfl) (fun _ => rfl) rfl rfl rfl rfl dL_law_824 (fun r2 v H locs hw2 hP hD hS => ?_)
  have hJ := J3 (E_rows hR).1 hw hw2
  have hP : va_P D vwCl (wL aX aP aM aC aT aR aN aIs aKd aNu aSg aVl aTs aTc aO cJ cI cZ u v o) H := hP
  have hD : va_D A (wL aX aP aM aC aT aR aN aIs aKd aNu aSg aVl aTs aTc aO cJ cI cZ u v o) := hD
  refine lv_icmp_eq (tgt := 1153) hx hb dL_law_827 (by decide) (fun c1 => ?_) (fun c1 => absurd hJ.1 c1)
  refine W.widen (k := cells + 2) (n := slots + 12) (by omega) (by omega) ?_
  exact kk u v o _ _ _ hJ.2 hP hD hS (lv_sub hl [0, 1, 2, 3, 4] rfl)

set_option maxHeartbeats 4000000 in
set_option maxRecDepth 100000 in
theorem k_case11 {p : Program} {l : Launch} {e : Env} {s : State} {m : MethodId} {below : List Frame} {meth : Method} {c : Code} {b L : Nat} {xs : Nat → Int32} {Q : State → Prop} {D : va_G} {A : Nat → Prop} {aX aP aM aC aT aR aN aIs aKd aNu aSg aVl aTs aTc aO : Nat} {cJ cI cZ : ClassId} (hlk : l.stackTraces = false) (C0 : lw_At p s m meth c b L xs) (hA : ∀ q, s.heap.size ≤ q → A q) (hbA : ¬ A b) (hE : q_E s) (hZ : q_Z A s s.heap) (hN3 : q_N3 s) (hK : va_K D vwCl [(cJ, .long), (cI, .int), (cZ, .boolean)] s) {S : XS} {N : NS} {o : Nat → Int64} (hR : RX S N) {i : Nat} {x1 : Int32} (v1 : vp_in (nI i + 1) L) (g1 : xs (nI i + 1).toNatClampNeg = x1) {x2 : Int32} (v2 : vp_in (nI i + 2) L) (g2 : xs (nI i + 2).toNatClampNeg = x2) {x3 : Int32} (v3 : vp_in (nI i + 3) L) (g3 : xs (nI i + 3).toNatClampNeg = x3) {x4 : Int32} (v4 : vp_in (nI i + 4) L) (g4 : xs (nI i + 4).toNatClampNeg = x4) {x5 : Int32} (v5 : vp_in (nI i + 5) L) (g5 : xs (nI i + 5).toNatClampNeg = x5) {cells slots : Nat} (hc1 : cells + 2 ≤ 1055) (hc2 : slots + 12 ≤ 10398) {H : Heap} {locs : List Loc} (hP : va_P D vwCl (wL aX aP aM aC aT aR aN aIs aKd aNu aSg aVl aTs aTc aO cJ cI cZ S N o) H) (hD : va_D A (wL aX aP aM aC aT aR aN aIs aKd aNu aSg aVl aTs aTc aO cJ cI cZ S N o)) (hS : va_S A s.heap H locs) {ls : Array Slot} (hl : lv_has ls 8 [(0, .ref b), (1, .ref aX), (2, .ref aN), (3, .ref aO), (4, .int (nI i))]) (kk : ∀ (S : XS) (N : NS) (o : Nat → Int64) (H : Heap) (locs : List Loc) (ls : Array Slot), RX S N → va_P D vwCl (wL aX aP aM aC aT aR aN aIs aKd aNu aSg aVl aTs aTc aO cJ cI cZ S N o) H → va_D A (wL aX aP aM aC aT aR aN aIs aKd aNu aSg aVl aTs aTc aO cJ cI cZ S N o) → va_S A s.heap H locs → lv_has ls 8 [(0, .ref b), (1, .ref aX), (2, .ref aN), (3, .ref aO), (4, .int (nI i))] → W p l e room_1 s m #[Value.ref b] below meth c H locs (cells + 2) (slots + 12) Q (F0 m 1153 ls [])) : W p l e room_1 s m #[Value.ref b] below meth c H locs cells slots Q (F0 m 832 ls []) := by
  obtain ⟨hx, hb, hr, hml, hown, htt, hX, hbl, hlocks, hgv⟩ := C0
  have hown : s.vm.findClass RL = some m.cls := hown
  have hts : ∀ w ∈ wsL_law, w.before #[Value.ref b] s = true := fun w h => htt w (wsL_law_in w h)
  have hfix : CallFix p m c cL_law 8 s #[Value.ref b] wsL_law RL := ⟨hx, hb, hml, hown, hts⟩
  refine lv_aload_n hx hb dL_law_832 rfl (lv_at hl 1 rfl) ?_
  refine lv_aload_n hx hb dL_law_833 rfl (lv_at hl 0 rfl) ?_
  refine lv_iload hx hb dL_law_834 (lv_at hl 4 rfl) ?_
  refine lv_iconst (v := 1) hx hb dL_law_836 (by decide) ?_
  refine lv_iadd hx hb dL_law_837 ?_
  refine q_sld hx hb hX hbl hbA hS v1 g1 dL_law_838 ?_
  refine lv_aload_n hx hb dL_law_839 rfl (lv_at hl 0 rfl) ?_
  refine lv_iload hx hb dL_law_840 (lv_at hl 4 rfl) ?_
  refine lv_iconst (v := 2) hx hb dL_law_842 (by decide) ?_
  refine lv_iadd hx hb dL_law_843 ?_
  refine q_sld hx hb hX hbl hbA hS v2 g2 dL_law_844 ?_
  refine lv_aload_n hx hb dL_law_845 rfl (lv_at hl 3 rfl) ?_
  refine q_ycall (As := [.ref aX, .int x1, .int x2, .ref aO]) (rest := []) (wr := (wN aN aIs aKd aNu aSg aVl aTs aTc cJ cI cZ N)) (Wn := (fun u : XS × (Nat → Int64) => (wL aX aP aM aC aT aR aN aIs aKd aNu aSg aVl aTs aTc aO cJ cI cZ u.1 N u.2))) (c_L_traced l hlk D aX aP aM aC aT aR aO cJ S o x1 x2 (rx_len hR).2.1 (E_traced hR x1 x2).2) hfix (vx_cwSW 4 hts gL_law_L_traced rfl rfl rfl (by decide +kernel) ⟨Nat.le_of_ble_eq_true rfl, Nat.le_of_ble_eq_true rfl⟩) rfl hl.1 rfl (Nat.le_of_ble_eq_true rfl) ⟨by show cells + 2 ≤ 1055; omega, by show slots + 12 ≤ 10398; omega⟩ hP hK hD hS hA hE hZ hN3 [0, 1, 2, 3, 4, 5, 14] [6, 7, 8, 9, 10, 11, 12, 13] [8, 9, 10, 11, 12, 13, 0, 1, 2, 3, 4, 5, 6, 7, 14] [0] rfl rfl rfl (by decide) (by decide) (by decide) (by decide) (fun _ => rfl) (fun _ => rfl) rfl dL_law_846 (fun r u H locs hw hP hD hS => ?_)
  have hP : va_P D vwCl (wL aX aP aM aC aT aR aN aIs aKd aNu aSg aVl aTs aTc aO cJ cI cZ u.1 N u.2) H := hP
  have hD : va_D A (wL aX aP aM aC aT aR aN aIs aKd aNu aSg aVl aTs aTc aO cJ cI cZ u.1 N u.2) := hD
  refine lv_istore (lv' := [(5, .int r), (0, .ref b), (1, .ref aX), (2, .ref aN), (3, .ref aO), (4, .int (nI i))]) hx hb dL_law_849 hl (by decide) rfl (fun ls hl => ?_)
  refine lv_aload_n hx hb dL_law_851 rfl (lv_at hl 3 rfl) ?_
  refine lv_aload_n hx hb dL_law_852 rfl (lv_at hl 1 rfl) ?_
  refine lv_iload hx hb dL_law_853 (lv_at hl 5 rfl) ?_
  refine lv_iconst (v := 1) hx hb dL_law_855 (by decide) ?_
  refine lv_iadd hx hb dL_law_856 ?_
  refine q_sld hx hb hX hbl hbA hS v1 g1 dL_law_857 ?_
  refine lv_aload_n hx hb dL_law_858 rfl (lv_at hl 1 rfl) ?_
  refine lv_iload hx hb dL_law_859 (lv_at hl 5 rfl) ?_
  refine lv_iconst (v := 2) hx hb dL_law_861 (by decide) ?_
  refine lv_iadd hx hb dL_law_862 ?_
  refine q_sld hx hb hX hbl hbA hS v2 g2 dL_law_863 ?_
  refine q_callMl (As := [.int x1, .int x2]) (rest := []) (wr := [(aX, .inr (3, [.ref aM, .ref aP, .ref aT, .int (pX_latestFailure u.1)])), (aP, .inr (1, [.ref aM, .long (pP_pc (pX_p u.1)), .long (pP_ap (pX_p u.1)), .long (pP_fp (pX_p u.1)), .long (pP_newPc (pX_p u.1)), .long (pP_newAp (pX_p u.1)), .long (pP_newFp (pX_p u.1)), .long (pP_word (pX_p u.1)), .int (pP_flags (pX_p u.1)), .long (pP_dstPlace (pX_p u.1)), .long (pP_op0Place (pX_p u.1)), .long (pP_op1Place (pX_p u.1)), .long (pP_res (pX_p u.1))])), (aM, .inr (0, [.ref aC])), (aC, .inl (cJ, 320, .inr (.inl (pP_mem (pX_p u.1))))), (aT, .inr (2, [.ref aR, .int (pT_length (pX_t u.1))])), (aR, .inl (cJ, 192, .inr (.inl (pT_row (pX_t u.1))))), (aO, .inl (cJ, 1, .inr (.inl u.2)))]) (Wn := (fun v : NS => (wL aX aP aM aC aT aR aN aIs aKd aNu aSg aVl aTs aTc aO cJ cI cZ u.1 v u.2))) (q0 := 0) (ci := 4) (C := RX7) (c_X7_traced l D aN aIs aKd aNu aSg aVl aTs aTc cJ cI cZ N x1 x2 (rx_len hR).2.2.2 (rx_len hR).2.2.1) hfix (cwV 2 hts gL_law_X7_traced rfl rfl rfl (by decide +kernel) ⟨Nat.le_of_ble_eq_true rfl, Nat.le_of_ble_eq_true rfl⟩) rfl hl.1 rfl (Nat.le_of_ble_eq_true rfl) ⟨by show cells + 2 ≤ 1055; omega, by show slots + 12 ≤ 10398; omega⟩ hP hK hD hS hA [6, 7, 8, 9, 10, 11, 12, 13] [0, 1, 2, 3, 4, 5, 14] [0, 1, 2, 3, 4, 5, 7, 8, 9, 10, 11, 12, 13, 14, 6] [0, 1, 2] rfl rfl rfl (by decide) (by decide) (by decide) (by decide) (fun _ => rfl) (fun _ => rfl) rfl rfl rfl rfl dL_law_864 (fun r2 v H locs hw2 hP hD hS => ?_)
  have hJ := J2 (fun z : Int64 => z) (E_traced hR x1 x2).1 cd3_0 hw hw2
  have hP : va_P D vwCl (wL aX aP aM aC aT aR aN aIs aKd aNu aSg aVl aTs aTc aO cJ cI cZ u.1 v u.2) H := hP
  have hD : va_D A (wL aX aP aM aC aT aR aN aIs aKd aNu aSg aVl aTs aTc aO cJ cI cZ u.1 v u.2) := hD
  refine lv_lstore (lv' := [(6, .long r2), (5, .int r), (0, .ref b), (1, .ref aX), (2, .ref aN), (3, .ref aO), (4, .int (nI i))]) hx hb dL_law_867 hl (by decide) rfl (fun ls hl => ?_)
  refine lv_aload_n hx hb dL_law_869 rfl (lv_at hl 4 rfl) ?_
  refine q_callVi (As := []) (rest := []) (q0 := 0) (ci := 4) (C := RX7) (c_X7_thrown l D aN aIs aKd aNu aSg aVl aTs aTc cJ cI cZ v) hfix (cwV 0 hts gL_law_X7_thrown rfl rfl rfl (by decide +kernel) ⟨Nat.le_of_ble_eq_true rfl, Nat.le_of_ble_eq_true rfl⟩) rfl hl.1 rfl (Nat.le_of_ble_eq_true rfl) ⟨by show cells + 2 ≤ 1055; omega, by show slots + 12 ≤ 10398; omega⟩ hP hK hS hA [6, 7, 8, 9, 10, 11, 12, 13] [0, 1, 2] rfl rfl rfl rfl rfl dL_law_870 (fun H locs hP hS => ?_)
  refine lv_iload hx hb dL_law_873 (lv_at hl 1 rfl) ?_
  refine lv_icmp_eq (tgt := 880) hx hb dL_law_875 (by decide) (fun c1 => ?_) (fun c1 => absurd hJ.1 c1)
  refine lv_iload hx hb dL_law_880 (lv_at hl 1 rfl) ?_
  refine lv_if_ne (tgt := 896) hx hb dL_law_882 (by decide) (fun c2 => ?_) (fun c2 => ?_)
  · refine lv_goto (tgt := 1153) hx hb dL_law_896 (by decide) ?_
    exact kk u.1 v u.2 _ _ _ hJ.2.2 hP hD hS (lv_sub hl [2, 3, 4, 5, 6] rfl)
  · refine lv_aload_n hx hb dL_law_885 rfl (lv_at hl 5 rfl) ?_
    refine lv_iconst (v := 0) hx hb dL_law_886 (by decide) ?_
    refine va_lald hx hb hK hP 14 0 rfl rfl (q_vi (by decide)) dL_law_887 ?_
    refine lv_lload hx hb dL_law_888 (lv_at hl 0 rfl) ?_
    refine q_eq (tgt := 896) hx hb dL_law_890 dL_law_891 (by decide) (fun c3 => ?_) (fun c3 => absurd (hJ.2.1 c2) c3)
    refine lv_goto (tgt := 1153) hx hb dL_law_896 (by decide) ?_
    exact kk u.1 v u.2 _ _ _ hJ.2.2 hP hD hS (lv_sub hl [2, 3, 4, 5, 6] rfl)
