set_option maxHeartbeats 4000000 in
set_option maxRecDepth 100000 in
theorem k_case4 {p : Program} {l : Launch} {e : Env} {s : State} {m : MethodId} {below : List Frame} {meth : Method} {c : Code} {b L : Nat} {xs : Nat → Int32} {Q : State → Prop} {D : va_G} {A : Nat → Prop} {aX aP aM aC aT aR aN aIs aKd aNu aSg aVl aTs aTc aO : Nat} {cJ cI cZ : ClassId} (hlk : l.stackTraces = false) (C0 : lw_At p s m meth c b L xs) (hA : ∀ q, s.heap.size ≤ q → A q) (hbA : ¬ A b) (hE : q_E s) (hZ : q_Z A s s.heap) (hN3 : q_N3 s) (hK : va_K D vwCl [(cJ, .long), (cI, .int), (cZ, .boolean)] s) {S : XS} {N : NS} {o : Nat → Int64} (hR : RX S N) {i : Nat} {x1 : Int32} (v1 : vp_in (nI i + 1) L) (g1 : xs (nI i + 1).toNatClampNeg = x1) {x2 : Int32} (v2 : vp_in (nI i + 2) L) (g2 : xs (nI i + 2).toNatClampNeg = x2) {x3 : Int32} (v3 : vp_in (nI i + 3) L) (g3 : xs (nI i + 3).toNatClampNeg = x3) {x4 : Int32} (v4 : vp_in (nI i + 4) L) (g4 : xs (nI i + 4).toNatClampNeg = x4) {x5 : Int32} (v5 : vp_in (nI i + 5) L) (g5 : xs (nI i + 5).toNatClampNeg = x5) {cells slots : Nat} (hc1 : cells + 2 ≤ 1055) (hc2 : slots + 12 ≤ 10398) {H : Heap} {locs : List Loc} (hP : va_P D vwCl (wL aX aP aM aC aT aR aN aIs aKd aNu aSg aVl aTs aTc aO cJ cI cZ S N o) H) (hD : va_D A (wL aX aP aM aC aT aR aN aIs aKd aNu aSg aVl aTs aTc aO cJ cI cZ S N o)) (hS : va_S A s.heap H locs) {ls : Array Slot} (hl : lv_has ls 8 [(0, .ref b), (1, .ref aX), (2, .ref aN), (3, .ref aO), (4, .int (nI i))]) (kk : ∀ (S : XS) (N : NS) (o : Nat → Int64) (H : Heap) (locs : List Loc) (ls : Array Slot), RX S N → va_P D vwCl (wL aX aP aM aC aT aR aN aIs aKd aNu aSg aVl aTs aTc aO cJ cI cZ S N o) H → va_D A (wL aX aP aM aC aT aR aN aIs aKd aNu aSg aVl aTs aTc aO cJ cI cZ S N o) → va_S A s.heap H locs → lv_has ls 8 [(0, .ref b), (1, .ref aX), (2, .ref aN), (3, .ref aO), (4, .int (nI i))] → W p l e room_1 s m #[Value.ref b] below meth c H locs (cells + 2) (slots + 12) Q (F0 m 1153 ls [])) : W p l e room_1 s m #[Value.ref b] below meth c H locs cells slots Q (F0 m 471 ls []) := by
  obtain ⟨hx, hb, hr, hml, hown, htt, hX, hbl, hlocks, hgv⟩ := C0
  have hown : s.vm.findClass RL = some m.cls := hown
  have hts : ∀ w ∈ wsL_law, w.before #[Value.ref b] s = true := fun w h => htt w (wsL_law_in w h)
  have hfix : CallFix p m c cL_law 8 s #[Value.ref b] wsL_law RL := ⟨hx, hb, hml, hown, hts⟩
  refine lv_aload_n hx hb dL_law_471 rfl (lv_at hl 1 rfl) ?_
  refine lv_aload_n hx hb dL_law_472 rfl (lv_at hl 0 rfl) ?_
  refine lv_iload hx hb dL_law_473 (lv_at hl 4 rfl) ?_
  refine lv_iconst (v := 1) hx hb dL_law_475 (by decide) ?_
  refine lv_iadd hx hb dL_law_476 ?_
  refine q_sld hx hb hX hbl hbA hS v1 g1 dL_law_477 ?_
  refine lv_aload_n hx hb dL_law_478 rfl (lv_at hl 0 rfl) ?_
  refine lv_iload hx hb dL_law_479 (lv_at hl 4 rfl) ?_
  refine lv_iconst (v := 2) hx hb dL_law_481 (by decide) ?_
  refine lv_iadd hx hb dL_law_482 ?_
  refine q_sld hx hb hX hbl hbA hS v2 g2 dL_law_483 ?_
  refine lv_aload_n hx hb dL_law_484 rfl (lv_at hl 0 rfl) ?_
  refine lv_iload hx hb dL_law_485 (lv_at hl 4 rfl) ?_
  refine lv_iconst (v := 3) hx hb dL_law_487 (by decide) ?_
  refine lv_iadd hx hb dL_law_488 ?_
  refine q_sld hx hb hX hbl hbA hS v3 g3 dL_law_489 ?_
  refine q_ycall (As := [.ref aX, .int x1, .int x2, .int x3]) (rest := []) (wr := [(aN, .inr (4, [.int (pN_thrown N), .ref aIs, .ref aKd, .ref aNu, .ref aSg, .ref aVl, .int (pN_there N), .int (pN_gotKind N), .long (pN_got N), .int (pN_trouble N), .int (pN_failure N), .long (pN_word N), .int (pN_rows N), .ref aTs, .ref aTc])), (aIs, .inl (cZ, 384, .inl (pN_isSet N))), (aKd, .inl (cI, 384, .inl (pN_kind N))), (aNu, .inl (cJ, 384, .inr (.inl (pN_number N)))), (aSg, .inl (cI, 13, .inl (pN_segment N))), (aVl, .inl (cJ, 13, .inr (.inl (pN_value N)))), (aTs, .inl (cI, 192, .inl (pN_traceSegment N))), (aTc, .inl (cJ, 192, .inr (.inl (pN_traceCell N)))), (aO, .inl (cJ, 1, .inr (.inl o)))]) (Wn := (fun u : XS => (wL aX aP aM aC aT aR aN aIs aKd aNu aSg aVl aTs aTc aO cJ cI cZ u N o))) (c_L_start l hlk D aX aP aM aC aT aR cJ S x1 x2 x3 (E_start hR x1 x2 x3).2) hfix (vx_cwSW 4 hts gL_law_L_start rfl rfl rfl (by decide +kernel) ⟨Nat.le_of_ble_eq_true rfl, Nat.le_of_ble_eq_true rfl⟩) rfl hl.1 rfl (Nat.le_of_ble_eq_true rfl) ⟨by show cells + 1 ≤ 1055; omega, by show slots + 6 ≤ 10398; omega⟩ hP hK hD hS hA hE hZ hN3 [0, 1, 2, 3, 4, 5] [6, 7, 8, 9, 10, 11, 12, 13, 14] [9, 10, 11, 12, 13, 14, 0, 1, 2, 3, 4, 5, 6, 7, 8] [0] rfl rfl rfl (by decide) (by decide) (by decide) (by decide) (fun _ => rfl) (fun _ => rfl) rfl dL_law_490 (fun r u H locs hw hP hD hS => ?_)
  have hP : va_P D vwCl (wL aX aP aM aC aT aR aN aIs aKd aNu aSg aVl aTs aTc aO cJ cI cZ u N o) H := hP
  have hD : va_D A (wL aX aP aM aC aT aR aN aIs aKd aNu aSg aVl aTs aTc aO cJ cI cZ u N o) := hD
  refine lv_istore (lv' := [(5, .int r), (0, .ref b), (1, .ref aX), (2, .ref aN), (3, .ref aO), (4, .int (nI i))]) hx hb dL_law_493 hl (by decide) rfl (fun ls hl => ?_)
  refine lv_aload_n hx hb dL_law_495 rfl (lv_at hl 3 rfl) ?_
  refine lv_aload_n hx hb dL_law_496 rfl (lv_at hl 1 rfl) ?_
  refine lv_iload hx hb dL_law_497 (lv_at hl 5 rfl) ?_
  refine lv_iconst (v := 1) hx hb dL_law_499 (by decide) ?_
  refine lv_iadd hx hb dL_law_500 ?_
  refine q_sld hx hb hX hbl hbA hS v1 g1 dL_law_501 ?_
  refine lv_aload_n hx hb dL_law_502 rfl (lv_at hl 1 rfl) ?_
  refine lv_iload hx hb dL_law_503 (lv_at hl 5 rfl) ?_
  refine lv_iconst (v := 2) hx hb dL_law_505 (by decide) ?_
  refine lv_iadd hx hb dL_law_506 ?_
  refine q_sld hx hb hX hbl hbA hS v2 g2 dL_law_507 ?_
  refine lv_aload_n hx hb dL_law_508 rfl (lv_at hl 1 rfl) ?_
  refine lv_iload hx hb dL_law_509 (lv_at hl 5 rfl) ?_
  refine lv_iconst (v := 3) hx hb dL_law_511 (by decide) ?_
  refine lv_iadd hx hb dL_law_512 ?_
  refine q_sld hx hb hX hbl hbA hS v3 g3 dL_law_513 ?_
  refine q_callMv (As := [.int x1, .int x2, .int x3]) (rest := []) (wr := [(aX, .inr (3, [.ref aM, .ref aP, .ref aT, .int (pX_latestFailure u)])), (aP, .inr (1, [.ref aM, .long (pP_pc (pX_p u)), .long (pP_ap (pX_p u)), .long (pP_fp (pX_p u)), .long (pP_newPc (pX_p u)), .long (pP_newAp (pX_p u)), .long (pP_newFp (pX_p u)), .long (pP_word (pX_p u)), .int (pP_flags (pX_p u)), .long (pP_dstPlace (pX_p u)), .long (pP_op0Place (pX_p u)), .long (pP_op1Place (pX_p u)), .long (pP_res (pX_p u))])), (aM, .inr (0, [.ref aC])), (aC, .inl (cJ, 320, .inr (.inl (pP_mem (pX_p u))))), (aT, .inr (2, [.ref aR, .int (pT_length (pX_t u))])), (aR, .inl (cJ, 192, .inr (.inl (pT_row (pX_t u))))), (aO, .inl (cJ, 1, .inr (.inl o)))]) (Wn := (fun v : NS => (wL aX aP aM aC aT aR aN aIs aKd aNu aSg aVl aTs aTc aO cJ cI cZ u v o))) (q0 := 0) (ci := 4) (C := RX7) (c_X7_start l D aN aIs aKd aNu aSg aVl aTs aTc cJ cI cZ N x1 x2 x3) hfix (cwV 3 hts gL_law_X7_start rfl rfl rfl (by decide +kernel) ⟨Nat.le_of_ble_eq_true rfl, Nat.le_of_ble_eq_true rfl⟩) rfl hl.1 rfl (Nat.le_of_ble_eq_true rfl) ⟨by show cells + 1 ≤ 1055; omega, by show slots + 6 ≤ 10398; omega⟩ hP hK hD hS hA [6, 7, 8, 9, 10, 11, 12, 13] [0, 1, 2, 3, 4, 5, 14] [0, 1, 2, 3, 4, 5, 7, 8, 9, 10, 11, 12, 13, 14, 6] [0, 1, 2] rfl rfl rfl (by decide) (by decide) (by decide) (by decide) (fun _ => rfl) (fun _ => rfl) rfl rfl rfl rfl dL_law_514 (fun v H locs hw2 hP hD hS => ?_)
  have hJ := J1 (E_start hR x1 x2 x3).1 hw hw2
  have hP : va_P D vwCl (wL aX aP aM aC aT aR aN aIs aKd aNu aSg aVl aTs aTc aO cJ cI cZ u v o) H := hP
  have hD : va_D A (wL aX aP aM aC aT aR aN aIs aKd aNu aSg aVl aTs aTc aO cJ cI cZ u v o) := hD
  refine lv_aload_n hx hb dL_law_517 rfl (lv_at hl 3 rfl) ?_
  refine q_callVi (As := []) (rest := []) (q0 := 0) (ci := 4) (C := RX7) (c_X7_thrown l D aN aIs aKd aNu aSg aVl aTs aTc cJ cI cZ v) hfix (cwV 0 hts gL_law_X7_thrown rfl rfl rfl (by decide +kernel) ⟨Nat.le_of_ble_eq_true rfl, Nat.le_of_ble_eq_true rfl⟩) rfl hl.1 rfl (Nat.le_of_ble_eq_true rfl) ⟨by show cells + 1 ≤ 1055; omega, by show slots + 6 ≤ 10398; omega⟩ hP hK hS hA [6, 7, 8, 9, 10, 11, 12, 13] [0, 1, 2] rfl rfl rfl rfl rfl dL_law_518 (fun H locs hP hS => ?_)
  refine lv_iload hx hb dL_law_521 (lv_at hl 0 rfl) ?_
  refine lv_icmp_eq (tgt := 528) hx hb dL_law_523 (by decide) (fun c1 => ?_) (fun c1 => absurd hJ.1 c1)
  refine lv_goto (tgt := 1153) hx hb dL_law_528 (by decide) ?_
  refine W.widen (k := cells + 2) (n := slots + 12) (by omega) (by omega) ?_
  exact kk u v o _ _ _ hJ.2 hP hD hS (lv_sub hl [1, 2, 3, 4, 5] rfl)

set_option maxHeartbeats 4000000 in
set_option maxRecDepth 100000 in
theorem k_case5 {p : Program} {l : Launch} {e : Env} {s : State} {m : MethodId} {below : List Frame} {meth : Method} {c : Code} {b L : Nat} {xs : Nat → Int32} {Q : State → Prop} {D : va_G} {A : Nat → Prop} {aX aP aM aC aT aR aN aIs aKd aNu aSg aVl aTs aTc aO : Nat} {cJ cI cZ : ClassId} (hlk : l.stackTraces = false) (C0 : lw_At p s m meth c b L xs) (hA : ∀ q, s.heap.size ≤ q → A q) (hbA : ¬ A b) (hE : q_E s) (hZ : q_Z A s s.heap) (hN3 : q_N3 s) (hK : va_K D vwCl [(cJ, .long), (cI, .int), (cZ, .boolean)] s) {S : XS} {N : NS} {o : Nat → Int64} (hR : RX S N) {i : Nat} {x1 : Int32} (v1 : vp_in (nI i + 1) L) (g1 : xs (nI i + 1).toNatClampNeg = x1) {x2 : Int32} (v2 : vp_in (nI i + 2) L) (g2 : xs (nI i + 2).toNatClampNeg = x2) {x3 : Int32} (v3 : vp_in (nI i + 3) L) (g3 : xs (nI i + 3).toNatClampNeg = x3) {x4 : Int32} (v4 : vp_in (nI i + 4) L) (g4 : xs (nI i + 4).toNatClampNeg = x4) {x5 : Int32} (v5 : vp_in (nI i + 5) L) (g5 : xs (nI i + 5).toNatClampNeg = x5) {cells slots : Nat} (hc1 : cells + 2 ≤ 1055) (hc2 : slots + 12 ≤ 10398) {H : Heap} {locs : List Loc} (hP : va_P D vwCl (wL aX aP aM aC aT aR aN aIs aKd aNu aSg aVl aTs aTc aO cJ cI cZ S N o) H) (hD : va_D A (wL aX aP aM aC aT aR aN aIs aKd aNu aSg aVl aTs aTc aO cJ cI cZ S N o)) (hS : va_S A s.heap H locs) {ls : Array Slot} (hl : lv_has ls 8 [(0, .ref b), (1, .ref aX), (2, .ref aN), (3, .ref aO), (4, .int (nI i))]) (kk : ∀ (S : XS) (N : NS) (o : Nat → Int64) (H : Heap) (locs : List Loc) (ls : Array Slot), RX S N → va_P D vwCl (wL aX aP aM aC aT aR aN aIs aKd aNu aSg aVl aTs aTc aO cJ cI cZ S N o) H → va_D A (wL aX aP aM aC aT aR aN aIs aKd aNu aSg aVl aTs aTc aO cJ cI cZ S N o) → va_S A s.heap H locs → lv_has ls 8 [(0, .ref b), (1, .ref aX), (2, .ref aN), (3, .ref aO), (4, .int (nI i))] → W p l e room_1 s m #[Value.ref b] below meth c H locs (cells + 2) (slots + 12) Q (F0 m 1153 ls [])) : W p l e room_1 s m #[Value.ref b] below meth c H locs cells slots Q (F0 m 531 ls []) := by
  obtain ⟨hx, hb, hr, hml, hown, htt, hX, hbl, hlocks, hgv⟩ := C0
  have hown : s.vm.findClass RL = some m.cls := hown
  have hts : ∀ w ∈ wsL_law, w.before #[Value.ref b] s = true := fun w h => htt w (wsL_law_in w h)
  have hfix : CallFix p m c cL_law 8 s #[Value.ref b] wsL_law RL := ⟨hx, hb, hml, hown, hts⟩
  refine lv_aload_n hx hb dL_law_531 rfl (lv_at hl 1 rfl) ?_
  refine lv_aload_n hx hb dL_law_532 rfl (lv_at hl 0 rfl) ?_
  refine lv_iload hx hb dL_law_533 (lv_at hl 4 rfl) ?_
  refine lv_iconst (v := 1) hx hb dL_law_535 (by decide) ?_
  refine lv_iadd hx hb dL_law_536 ?_
  refine q_sld hx hb hX hbl hbA hS v1 g1 dL_law_537 ?_
  refine lv_aload_n hx hb dL_law_538 rfl (lv_at hl 3 rfl) ?_
  refine q_ycall (As := [.ref aX, .int x1, .ref aO]) (rest := []) (wr := (wN aN aIs aKd aNu aSg aVl aTs aTc cJ cI cZ N)) (Wn := (fun u : XS × (Nat → Int64) => (wL aX aP aM aC aT aR aN aIs aKd aNu aSg aVl aTs aTc aO cJ cI cZ u.1 N u.2))) (c_L_run l hlk D aX aP aM aC aT aR aO cJ S o x1 (rx_len hR).1 (E_run hR x1).2) hfix (vx_cwSW 3 hts gL_law_L_run rfl rfl rfl (by decide +kernel) ⟨Nat.le_of_ble_eq_true rfl, Nat.le_of_ble_eq_true rfl⟩) rfl hl.1 rfl (Nat.le_of_ble_eq_true rfl) ⟨by show cells + 1 ≤ 1055; omega, by show slots + 6 ≤ 10398; omega⟩ hP hK hD hS hA hE hZ hN3 [0, 1, 2, 3, 4, 5, 14] [6, 7, 8, 9, 10, 11, 12, 13] [8, 9, 10, 11, 12, 13, 0, 1, 2, 3, 4, 5, 6, 7, 14] [0] rfl rfl rfl (by decide) (by decide) (by decide) (by decide) (fun _ => rfl) (fun _ => rfl) rfl dL_law_539 (fun r u H locs hw hP hD hS => ?_)
  have hP : va_P D vwCl (wL aX aP aM aC aT aR aN aIs aKd aNu aSg aVl aTs aTc aO cJ cI cZ u.1 N u.2) H := hP
  have hD : va_D A (wL aX aP aM aC aT aR aN aIs aKd aNu aSg aVl aTs aTc aO cJ cI cZ u.1 N u.2) := hD
  refine lv_istore (lv' := [(5, .int r), (0, .ref b), (1, .ref aX), (2, .ref aN), (3, .ref aO), (4, .int (nI i))]) hx hb dL_law_542 hl (by decide) rfl (fun ls hl => ?_)
  refine lv_aload_n hx hb dL_law_544 rfl (lv_at hl 3 rfl) ?_
  refine lv_aload_n hx hb dL_law_545 rfl (lv_at hl 1 rfl) ?_
  refine lv_iload hx hb dL_law_546 (lv_at hl 5 rfl) ?_
  refine lv_iconst (v := 1) hx hb dL_law_548 (by decide) ?_
  refine lv_iadd hx hb dL_law_549 ?_
  refine q_sld hx hb hX hbl hbA hS v1 g1 dL_law_550 ?_
  refine q_callMi (As := [.int x1]) (rest := []) (wr := [(aX, .inr (3, [.ref aM, .ref aP, .ref aT, .int (pX_latestFailure u.1)])), (aP, .inr (1, [.ref aM, .long (pP_pc (pX_p u.1)), .long (pP_ap (pX_p u.1)), .long (pP_fp (pX_p u.1)), .long (pP_newPc (pX_p u.1)), .long (pP_newAp (pX_p u.1)), .long (pP_newFp (pX_p u.1)), .long (pP_word (pX_p u.1)), .int (pP_flags (pX_p u.1)), .long (pP_dstPlace (pX_p u.1)), .long (pP_op0Place (pX_p u.1)), .long (pP_op1Place (pX_p u.1)), .long (pP_res (pX_p u.1))])), (aM, .inr (0, [.ref aC])), (aC, .inl (cJ, 320, .inr (.inl (pP_mem (pX_p u.1))))), (aT, .inr (2, [.ref aR, .int (pT_length (pX_t u.1))])), (aR, .inl (cJ, 192, .inr (.inl (pT_row (pX_t u.1))))), (aO, .inl (cJ, 1, .inr (.inl u.2)))]) (Wn := (fun v : NS => (wL aX aP aM aC aT aR aN aIs aKd aNu aSg aVl aTs aTc aO cJ cI cZ u.1 v u.2))) (q0 := 0) (ci := 4) (C := RX7) (c_X7_run l D aN aIs aKd aNu aSg aVl aTs aTc cJ cI cZ N x1 (rx_len hR).2.2.2 (rx_len hR).2.2.1) hfix (cwV 1 hts gL_law_X7_run rfl rfl rfl (by decide +kernel) ⟨Nat.le_of_ble_eq_true rfl, Nat.le_of_ble_eq_true rfl⟩) rfl hl.1 rfl (Nat.le_of_ble_eq_true rfl) ⟨by show cells + 1 ≤ 1055; omega, by show slots + 6 ≤ 10398; omega⟩ hP hK hD hS hA [6, 7, 8, 9, 10, 11, 12, 13] [0, 1, 2, 3, 4, 5, 14] [0, 1, 2, 3, 4, 5, 7, 8, 9, 10, 11, 12, 13, 14, 6] [0, 1, 2] rfl rfl rfl (by decide) (by decide) (by decide) (by decide) (fun _ => rfl) (fun _ => rfl) rfl rfl rfl rfl dL_law_551 (fun r2 v H locs hw2 hP hD hS => ?_)
  have hJ := J2 (fun z : Int32 => z.toInt64) (E_run hR x1).1 (fun _ z => z) hw hw2
  have hP : va_P D vwCl (wL aX aP aM aC aT aR aN aIs aKd aNu aSg aVl aTs aTc aO cJ cI cZ u.1 v u.2) H := hP
  have hD : va_D A (wL aX aP aM aC aT aR aN aIs aKd aNu aSg aVl aTs aTc aO cJ cI cZ u.1 v u.2) := hD
  refine lv_istore (lv' := [(6, .int r2), (5, .int r), (0, .ref b), (1, .ref aX), (2, .ref aN), (3, .ref aO), (4, .int (nI i))]) hx hb dL_law_554 hl (by decide) rfl (fun ls hl => ?_)
  refine lv_aload_n hx hb dL_law_556 rfl (lv_at hl 4 rfl) ?_
  refine q_callVi (As := []) (rest := []) (q0 := 0) (ci := 4) (C := RX7) (c_X7_thrown l D aN aIs aKd aNu aSg aVl aTs aTc cJ cI cZ v) hfix (cwV 0 hts gL_law_X7_thrown rfl rfl rfl (by decide +kernel) ⟨Nat.le_of_ble_eq_true rfl, Nat.le_of_ble_eq_true rfl⟩) rfl hl.1 rfl (Nat.le_of_ble_eq_true rfl) ⟨by show cells + 1 ≤ 1055; omega, by show slots + 6 ≤ 10398; omega⟩ hP hK hS hA [6, 7, 8, 9, 10, 11, 12, 13] [0, 1, 2] rfl rfl rfl rfl rfl dL_law_557 (fun H locs hP hS => ?_)
  refine lv_iload hx hb dL_law_560 (lv_at hl 1 rfl) ?_
  refine lv_icmp_eq (tgt := 567) hx hb dL_law_562 (by decide) (fun c1 => ?_) (fun c1 => absurd hJ.1 c1)
  refine lv_iload hx hb dL_law_567 (lv_at hl 1 rfl) ?_
  refine lv_if_ne (tgt := 584) hx hb dL_law_569 (by decide) (fun c2 => ?_) (fun c2 => ?_)
  · refine lv_goto (tgt := 1153) hx hb dL_law_584 (by decide) ?_
    refine W.widen (k := cells + 2) (n := slots + 12) (by omega) (by omega) ?_
    exact kk u.1 v u.2 _ _ _ hJ.2.2 hP hD hS (lv_sub hl [2, 3, 4, 5, 6] rfl)
  · refine lv_aload_n hx hb dL_law_572 rfl (lv_at hl 5 rfl) ?_
    refine lv_iconst (v := 0) hx hb dL_law_573 (by decide) ?_
    refine va_lald hx hb hK hP 14 0 rfl rfl (q_vi (by decide)) dL_law_574 ?_
    refine lv_iload hx hb dL_law_575 (lv_at hl 0 rfl) ?_
    refine lv_i2l hx hb dL_law_577 rfl ?_
    refine q_eq (tgt := 584) hx hb dL_law_578 dL_law_579 (by decide) (fun c3 => ?_) (fun c3 => absurd (hJ.2.1 c2) c3)
    refine lv_goto (tgt := 1153) hx hb dL_law_584 (by decide) ?_
    refine W.widen (k := cells + 2) (n := slots + 12) (by omega) (by omega) ?_
    exact kk u.1 v u.2 _ _ _ hJ.2.2 hP hD hS (lv_sub hl [2, 3, 4, 5, 6] rfl)

set_option maxHeartbeats 4000000 in
set_option maxRecDepth 100000 in
theorem k_case6 {p : Program} {l : Launch} {e : Env} {s : State} {m : MethodId} {below : List Frame} {meth : Method} {c : Code} {b L : Nat} {xs : Nat → Int32} {Q : State → Prop} {D : va_G} {A : Nat → Prop} {aX aP aM aC aT aR aN aIs aKd aNu aSg aVl aTs aTc aO : Nat} {cJ cI cZ : ClassId} (hlk : l.stackTraces = false) (C0 : lw_At p s m meth c b L xs) (hA : ∀ q, s.heap.size ≤ q → A q) (hbA : ¬ A b) (hE : q_E s) (hZ : q_Z A s s.heap) (hN3 : q_N3 s) (hK : va_K D vwCl [(cJ, .long), (cI, .int), (cZ, .boolean)] s) {S : XS} {N : NS} {o : Nat → Int64} (hR : RX S N) {i : Nat} {x1 : Int32} (v1 : vp_in (nI i + 1) L) (g1 : xs (nI i + 1).toNatClampNeg = x1) {x2 : Int32} (v2 : vp_in (nI i + 2) L) (g2 : xs (nI i + 2).toNatClampNeg = x2) {x3 : Int32} (v3 : vp_in (nI i + 3) L) (g3 : xs (nI i + 3).toNatClampNeg = x3) {x4 : Int32} (v4 : vp_in (nI i + 4) L) (g4 : xs (nI i + 4).toNatClampNeg = x4) {x5 : Int32} (v5 : vp_in (nI i + 5) L) (g5 : xs (nI i + 5).toNatClampNeg = x5) {cells slots : Nat} (hc1 : cells + 2 ≤ 1055) (hc2 : slots + 12 ≤ 10398) {H : Heap} {locs : List Loc} (hP : va_P D vwCl (wL aX aP aM aC aT aR aN aIs aKd aNu aSg aVl aTs aTc aO cJ cI cZ S N o) H) (hD : va_D A (wL aX aP aM aC aT aR aN aIs aKd aNu aSg aVl aTs aTc aO cJ cI cZ S N o)) (hS : va_S A s.heap H locs) {ls : Array Slot} (hl : lv_has ls 8 [(0, .ref b), (1, .ref aX), (2, .ref aN), (3, .ref aO), (4, .int (nI i))]) (kk : ∀ (S : XS) (N : NS) (o : Nat → Int64) (H : Heap) (locs : List Loc) (ls : Array Slot), RX S N → va_P D vwCl (wL aX aP aM aC aT aR aN aIs aKd aNu aSg aVl aTs aTc aO cJ cI cZ S N o) H → va_D A (wL aX aP aM aC aT aR aN aIs aKd aNu aSg aVl aTs aTc aO cJ cI cZ S N o) → va_S A s.heap H locs → lv_has ls 8 [(0, .ref b), (1, .ref aX), (2, .ref aN), (3, .ref aO), (4, .int (nI i))] → W p l e room_1 s m #[Value.ref b] below meth c H locs (cells + 2) (slots + 12) Q (F0 m 1153 ls [])) : W p l e room_1 s m #[Value.ref b] below meth c H locs cells slots Q (F0 m 587 ls []) := by
  obtain ⟨hx, hb, hr, hml, hown, htt, hX, hbl, hlocks, hgv⟩ := C0
  have hown : s.vm.findClass RL = some m.cls := hown
  have hts : ∀ w ∈ wsL_law, w.before #[Value.ref b] s = true := fun w h => htt w (wsL_law_in w h)
  have hfix : CallFix p m c cL_law 8 s #[Value.ref b] wsL_law RL := ⟨hx, hb, hml, hown, hts⟩
  refine lv_aload_n hx hb dL_law_587 rfl (lv_at hl 1 rfl) ?_
  refine q_xcallVi (As := []) (rest := []) (wr := [(aN, .inr (4, [.int (pN_thrown N), .ref aIs, .ref aKd, .ref aNu, .ref aSg, .ref aVl, .int (pN_there N), .int (pN_gotKind N), .long (pN_got N), .int (pN_trouble N), .int (pN_failure N), .long (pN_word N), .int (pN_rows N), .ref aTs, .ref aTc])), (aIs, .inl (cZ, 384, .inl (pN_isSet N))), (aKd, .inl (cI, 384, .inl (pN_kind N))), (aNu, .inl (cJ, 384, .inr (.inl (pN_number N)))), (aSg, .inl (cI, 13, .inl (pN_segment N))), (aVl, .inl (cJ, 13, .inr (.inl (pN_value N)))), (aTs, .inl (cI, 192, .inl (pN_traceSegment N))), (aTc, .inl (cJ, 192, .inr (.inl (pN_traceCell N)))), (aO, .inl (cJ, 1, .inr (.inl o)))]) (Wn := (fun u : XS => (wL aX aP aM aC aT aR aN aIs aKd aNu aSg aVl aTs aTc aO cJ cI cZ u N o))) (q0 := 0) (ci := 3) (C := RX6) (c_X6_failure l hlk D aX aP aM aC aT aR cJ S) hfix (cwV 0 hts gL_law_X6_failure rfl rfl rfl (by decide +kernel) ⟨Nat.le_of_ble_eq_true rfl, Nat.le_of_ble_eq_true rfl⟩) rfl hl.1 rfl (Nat.le_of_ble_eq_true rfl) ⟨by show cells ≤ 1055; omega, by show slots ≤ 10398; omega⟩ hP hK hD hS hA hE hZ [0, 1, 2, 3, 4, 5] [6, 7, 8, 9, 10, 11, 12, 13, 14] [9, 10, 11, 12, 13, 14, 0, 1, 2, 3, 4, 5, 6, 7, 8] [0] rfl rfl rfl (by decide) (by decide) (by decide) (by decide) (fun _ => rfl) (fun _ => rfl) rfl rfl rfl rfl dL_law_588 (fun E ce q9 k u H locs hw hEk hP hD hS hce hcv hcl => absurd (E_failure hR).2 hw.1) (fun r u H locs hw hP hD hS => ?_)
  have hP : va_P D vwCl (wL aX aP aM aC aT aR aN aIs aKd aNu aSg aVl aTs aTc aO cJ cI cZ u N o) H := hP
  have hD : va_D A (wL aX aP aM aC aT aR aN aIs aKd aNu aSg aVl aTs aTc aO cJ cI cZ u N o) := hD
  refine lv_aload_n hx hb dL_law_591 rfl (lv_at hl 2 rfl) ?_
  refine q_callMi (As := []) (rest := [.int r]) (wr := [(aX, .inr (3, [.ref aM, .ref aP, .ref aT, .int (pX_latestFailure u)])), (aP, .inr (1, [.ref aM, .long (pP_pc (pX_p u)), .long (pP_ap (pX_p u)), .long (pP_fp (pX_p u)), .long (pP_newPc (pX_p u)), .long (pP_newAp (pX_p u)), .long (pP_newFp (pX_p u)), .long (pP_word (pX_p u)), .int (pP_flags (pX_p u)), .long (pP_dstPlace (pX_p u)), .long (pP_op0Place (pX_p u)), .long (pP_op1Place (pX_p u)), .long (pP_res (pX_p u))])), (aM, .inr (0, [.ref aC])), (aC, .inl (cJ, 320, .inr (.inl (pP_mem (pX_p u))))), (aT, .inr (2, [.ref aR, .int (pT_length (pX_t u))])), (aR, .inl (cJ, 192, .inr (.inl (pT_row (pX_t u))))), (aO, .inl (cJ, 1, .inr (.inl o)))]) (Wn := (fun v : NS => (wL aX aP aM aC aT aR aN aIs aKd aNu aSg aVl aTs aTc aO cJ cI cZ u v o))) (q0 := 0) (ci := 4) (C := RX7) (c_X7_failure l D aN aIs aKd aNu aSg aVl aTs aTc cJ cI cZ N ) hfix (cwV 0 hts gL_law_X7_failure rfl rfl rfl (by decide +kernel) ⟨Nat.le_of_ble_eq_true rfl, Nat.le_of_ble_eq_true rfl⟩) rfl hl.1 rfl (Nat.le_of_ble_eq_true rfl) ⟨by show cells ≤ 1055; omega, by show slots ≤ 10398; omega⟩ hP hK hD hS hA [6, 7, 8, 9, 10, 11, 12, 13] [0, 1, 2, 3, 4, 5, 14] [0, 1, 2, 3, 4, 5, 7, 8, 9, 10, 11, 12, 13, 14, 6] [0, 1, 2] rfl rfl rfl (by decide) (by decide) (by decide) (by decide) (fun _ => rfl) (fun _ => rfl) rfl rfl rfl rfl dL_law_592 (fun r2 v H locs hw2 hP hD hS => ?_)
  have hJ := J3 (E_failure hR).1 hw hw2
  have hP : va_P D vwCl (wL aX aP aM aC aT aR aN aIs aKd aNu aSg aVl aTs aTc aO cJ cI cZ u v o) H := hP
  have hD : va_D A (wL aX aP aM aC aT aR aN aIs aKd aNu aSg aVl aTs aTc aO cJ cI cZ u v o) := hD
  refine lv_icmp_eq (tgt := 1153) hx hb dL_law_595 (by decide) (fun c1 => ?_) (fun c1 => absurd hJ.1 c1)
  refine W.widen (k := cells + 2) (n := slots + 12) (by omega) (by omega) ?_
  exact kk u v o _ _ _ hJ.2 hP hD hS (lv_sub hl [0, 1, 2, 3, 4] rfl)

set_option maxHeartbeats 4000000 in
set_option maxRecDepth 100000 in
theorem k_case7 {p : Program} {l : Launch} {e : Env} {s : State} {m : MethodId} {below : List Frame} {meth : Method} {c : Code} {b L : Nat} {xs : Nat → Int32} {Q : State → Prop} {D : va_G} {A : Nat → Prop} {aX aP aM aC aT aR aN aIs aKd aNu aSg aVl aTs aTc aO : Nat} {cJ cI cZ : ClassId} (hlk : l.stackTraces = false) (C0 : lw_At p s m meth c b L xs) (hA : ∀ q, s.heap.size ≤ q → A q) (hbA : ¬ A b) (hE : q_E s) (hZ : q_Z A s s.heap) (hN3 : q_N3 s) (hK : va_K D vwCl [(cJ, .long), (cI, .int), (cZ, .boolean)] s) {S : XS} {N : NS} {o : Nat → Int64} (hR : RX S N) {i : Nat} {x1 : Int32} (v1 : vp_in (nI i + 1) L) (g1 : xs (nI i + 1).toNatClampNeg = x1) {x2 : Int32} (v2 : vp_in (nI i + 2) L) (g2 : xs (nI i + 2).toNatClampNeg = x2) {x3 : Int32} (v3 : vp_in (nI i + 3) L) (g3 : xs (nI i + 3).toNatClampNeg = x3) {x4 : Int32} (v4 : vp_in (nI i + 4) L) (g4 : xs (nI i + 4).toNatClampNeg = x4) {x5 : Int32} (v5 : vp_in (nI i + 5) L) (g5 : xs (nI i + 5).toNatClampNeg = x5) {cells slots : Nat} (hc1 : cells + 2 ≤ 1055) (hc2 : slots + 12 ≤ 10398) {H : Heap} {locs : List Loc} (hP : va_P D vwCl (wL aX aP aM aC aT aR aN aIs aKd aNu aSg aVl aTs aTc aO cJ cI cZ S N o) H) (hD : va_D A (wL aX aP aM aC aT aR aN aIs aKd aNu aSg aVl aTs aTc aO cJ cI cZ S N o)) (hS : va_S A s.heap H locs) {ls : Array Slot} (hl : lv_has ls 8 [(0, .ref b), (1, .ref aX), (2, .ref aN), (3, .ref aO), (4, .int (nI i))]) (kk : ∀ (S : XS) (N : NS) (o : Nat → Int64) (H : Heap) (locs : List Loc) (ls : Array Slot), RX S N → va_P D vwCl (wL aX aP aM aC aT aR aN aIs aKd aNu aSg aVl aTs aTc aO cJ cI cZ S N o) H → va_D A (wL aX aP aM aC aT aR aN aIs aKd aNu aSg aVl aTs aTc aO cJ cI cZ S N o) → va_S A s.heap H locs → lv_has ls 8 [(0, .ref b), (1, .ref aX), (2, .ref aN), (3, .ref aO), (4, .int (nI i))] → W p l e room_1 s m #[Value.ref b] below meth c H locs (cells + 2) (slots + 12) Q (F0 m 1153 ls [])) : W p l e room_1 s m #[Value.ref b] below meth c H locs cells slots Q (F0 m 600 ls []) := by
  obtain ⟨hx, hb, hr, hml, hown, htt, hX, hbl, hlocks, hgv⟩ := C0
  have hown : s.vm.findClass RL = some m.cls := hown
  have hts : ∀ w ∈ wsL_law, w.before #[Value.ref b] s = true := fun w h => htt w (wsL_law_in w h)
  have hfix : CallFix p m c cL_law 8 s #[Value.ref b] wsL_law RL := ⟨hx, hb, hml, hown, hts⟩
  refine lv_aload_n hx hb dL_law_600 rfl (lv_at hl 1 rfl) ?_
  refine lv_aload_n hx hb dL_law_601 rfl (lv_at hl 0 rfl) ?_
  refine lv_iload hx hb dL_law_602 (lv_at hl 4 rfl) ?_
  refine lv_iconst (v := 1) hx hb dL_law_604 (by decide) ?_
  refine lv_iadd hx hb dL_law_605 ?_
  refine q_sld hx hb hX hbl hbA hS v1 g1 dL_law_606 ?_
  refine lv_aload_n hx hb dL_law_607 rfl (lv_at hl 0 rfl) ?_
  refine lv_iload hx hb dL_law_608 (lv_at hl 4 rfl) ?_
  refine lv_iconst (v := 2) hx hb dL_law_610 (by decide) ?_
  refine lv_iadd hx hb dL_law_611 ?_
  refine q_sld hx hb hX hbl hbA hS v2 g2 dL_law_612 ?_
  refine lv_if_eq (tgt := 620) hx hb dL_law_613 (by decide) (fun z => ?_) (fun z => ?_)
  · refine lv_iconst (v := 0) hx hb dL_law_620 (by decide) ?_
    refine lv_aload_n hx hb dL_law_621 rfl (lv_at hl 3 rfl) ?_
    refine q_ycall (As := [.ref aX, .int x1, .int 0, .ref aO]) (rest := []) (wr := (wN aN aIs aKd aNu aSg aVl aTs aTc cJ cI cZ N)) (Wn := (fun u : XS × (Nat → Int64) => (wL aX aP aM aC aT aR aN aIs aKd aNu aSg aVl aTs aTc aO cJ cI cZ u.1 N u.2))) (c_L_register l hlk D aX aP aM aC aT aR aO cJ S o x1 0 (E_register hR x1 0).2) hfix (vx_cwSW 4 hts gL_law_L_register rfl rfl rfl (by decide +kernel) ⟨Nat.le_of_ble_eq_true rfl, Nat.le_of_ble_eq_true rfl⟩) rfl hl.1 rfl (Nat.le_of_ble_eq_true rfl) ⟨by show cells + 1 ≤ 1055; omega, by show slots + 6 ≤ 10398; omega⟩ hP hK hD hS hA hE hZ hN3 [0, 1, 2, 3, 4, 5, 14] [6, 7, 8, 9, 10, 11, 12, 13] [8, 9, 10, 11, 12, 13, 0, 1, 2, 3, 4, 5, 6, 7, 14] [0] rfl rfl rfl (by decide) (by decide) (by decide) (by decide) (fun _ => rfl) (fun _ => rfl) rfl dL_law_622 (fun r u H locs hw hP hD hS => ?_)
    have hP : va_P D vwCl (wL aX aP aM aC aT aR aN aIs aKd aNu aSg aVl aTs aTc aO cJ cI cZ u.1 N u.2) H := hP
    have hD : va_D A (wL aX aP aM aC aT aR aN aIs aKd aNu aSg aVl aTs aTc aO cJ cI cZ u.1 N u.2) := hD
    refine lv_istore (lv' := [(5, .int r), (0, .ref b), (1, .ref aX), (2, .ref aN), (3, .ref aO), (4, .int (nI i))]) hx hb dL_law_625 hl (by decide) rfl (fun ls hl => ?_)
    refine lv_aload_n hx hb dL_law_627 rfl (lv_at hl 3 rfl) ?_
    refine lv_aload_n hx hb dL_law_628 rfl (lv_at hl 1 rfl) ?_
    refine lv_iload hx hb dL_law_629 (lv_at hl 5 rfl) ?_
    refine lv_iconst (v := 1) hx hb dL_law_631 (by decide) ?_
    refine lv_iadd hx hb dL_law_632 ?_
    refine q_sld hx hb hX hbl hbA hS v1 g1 dL_law_633 ?_
    refine lv_aload_n hx hb dL_law_634 rfl (lv_at hl 1 rfl) ?_
    refine lv_iload hx hb dL_law_635 (lv_at hl 5 rfl) ?_
    refine lv_iconst (v := 2) hx hb dL_law_637 (by decide) ?_
    refine lv_iadd hx hb dL_law_638 ?_
    refine q_sld hx hb hX hbl hbA hS v2 g2 dL_law_639 ?_
    refine lv_if_eq (tgt := 647) hx hb dL_law_640 (by decide) (fun _ => ?_) (fun z9 => absurd z z9)
    refine lv_iconst (v := 0) hx hb dL_law_647 (by decide) ?_
    refine q_callMi (As := [.int x1, .int 0]) (rest := []) (wr := [(aX, .inr (3, [.ref aM, .ref aP, .ref aT, .int (pX_latestFailure u.1)])), (aP, .inr (1, [.ref aM, .long (pP_pc (pX_p u.1)), .long (pP_ap (pX_p u.1)), .long (pP_fp (pX_p u.1)), .long (pP_newPc (pX_p u.1)), .long (pP_newAp (pX_p u.1)), .long (pP_newFp (pX_p u.1)), .long (pP_word (pX_p u.1)), .int (pP_flags (pX_p u.1)), .long (pP_dstPlace (pX_p u.1)), .long (pP_op0Place (pX_p u.1)), .long (pP_op1Place (pX_p u.1)), .long (pP_res (pX_p u.1))])), (aM, .inr (0, [.ref aC])), (aC, .inl (cJ, 320, .inr (.inl (pP_mem (pX_p u.1))))), (aT, .inr (2, [.ref aR, .int (pT_length (pX_t u.1))])), (aR, .inl (cJ, 192, .inr (.inl (pT_row (pX_t u.1))))), (aO, .inl (cJ, 1, .inr (.inl u.2)))]) (Wn := (fun v : NS => (wL aX aP aM aC aT aR aN aIs aKd aNu aSg aVl aTs aTc aO cJ cI cZ u.1 v u.2))) (q0 := 0) (ci := 4) (C := RX7) (c_X7_register l D aN aIs aKd aNu aSg aVl aTs aTc cJ cI cZ N x1 0) hfix (cwV 2 hts gL_law_X7_register rfl rfl rfl (by decide +kernel) ⟨Nat.le_of_ble_eq_true rfl, Nat.le_of_ble_eq_true rfl⟩) rfl hl.1 rfl (Nat.le_of_ble_eq_true rfl) ⟨by show cells + 1 ≤ 1055; omega, by show slots + 6 ≤ 10398; omega⟩ hP hK hD hS hA [6, 7, 8, 9, 10, 11, 12, 13] [0, 1, 2, 3, 4, 5, 14] [0, 1, 2, 3, 4, 5, 7, 8, 9, 10, 11, 12, 13, 14, 6] [0, 1, 2] rfl rfl rfl (by decide) (by decide) (by decide) (by decide) (fun _ => rfl) (fun _ => rfl) rfl rfl rfl rfl dL_law_648 (fun r2 v H locs hw2 hP hD hS => ?_)
    have hJ := J2 (fun z : Int32 => z.toInt64) (E_register hR x1 0).1 (fun _ z => z) hw hw2
    have hP : va_P D vwCl (wL aX aP aM aC aT aR aN aIs aKd aNu aSg aVl aTs aTc aO cJ cI cZ u.1 v u.2) H := hP
    have hD : va_D A (wL aX aP aM aC aT aR aN aIs aKd aNu aSg aVl aTs aTc aO cJ cI cZ u.1 v u.2) := hD
    refine lv_istore (lv' := [(6, .int r2), (5, .int r), (0, .ref b), (1, .ref aX), (2, .ref aN), (3, .ref aO), (4, .int (nI i))]) hx hb dL_law_651 hl (by decide) rfl (fun ls hl => ?_)
    refine lv_aload_n hx hb dL_law_653 rfl (lv_at hl 4 rfl) ?_
    refine q_callVi (As := []) (rest := []) (q0 := 0) (ci := 4) (C := RX7) (c_X7_thrown l D aN aIs aKd aNu aSg aVl aTs aTc cJ cI cZ v) hfix (cwV 0 hts gL_law_X7_thrown rfl rfl rfl (by decide +kernel) ⟨Nat.le_of_ble_eq_true rfl, Nat.le_of_ble_eq_true rfl⟩) rfl hl.1 rfl (Nat.le_of_ble_eq_true rfl) ⟨by show cells + 1 ≤ 1055; omega, by show slots + 6 ≤ 10398; omega⟩ hP hK hS hA [6, 7, 8, 9, 10, 11, 12, 13] [0, 1, 2] rfl rfl rfl rfl rfl dL_law_654 (fun H locs hP hS => ?_)
    refine lv_iload hx hb dL_law_657 (lv_at hl 1 rfl) ?_
    refine lv_icmp_eq (tgt := 664) hx hb dL_law_659 (by decide) (fun c1 => ?_) (fun c1 => absurd hJ.1 c1)
    refine lv_iload hx hb dL_law_664 (lv_at hl 1 rfl) ?_
    refine lv_if_ne (tgt := 681) hx hb dL_law_666 (by decide) (fun c2 => ?_) (fun c2 => ?_)
    · refine lv_goto (tgt := 1153) hx hb dL_law_681 (by decide) ?_
      refine W.widen (k := cells + 2) (n := slots + 12) (by omega) (by omega) ?_
      exact kk u.1 v u.2 _ _ _ hJ.2.2 hP hD hS (lv_sub hl [2, 3, 4, 5, 6] rfl)
    · refine lv_aload_n hx hb dL_law_669 rfl (lv_at hl 5 rfl) ?_
      refine lv_iconst (v := 0) hx hb dL_law_670 (by decide) ?_
      refine va_lald hx hb hK hP 14 0 rfl rfl (q_vi (by decide)) dL_law_671 ?_
      refine lv_iload hx hb dL_law_672 (lv_at hl 0 rfl) ?_
      refine lv_i2l hx hb dL_law_674 rfl ?_
      refine q_eq (tgt := 681) hx hb dL_law_675 dL_law_676 (by decide) (fun c3 => ?_) (fun c3 => absurd (hJ.2.1 c2) c3)
      refine lv_goto (tgt := 1153) hx hb dL_law_681 (by decide) ?_
      refine W.widen (k := cells + 2) (n := slots + 12) (by omega) (by omega) ?_
      exact kk u.1 v u.2 _ _ _ hJ.2.2 hP hD hS (lv_sub hl [2, 3, 4, 5, 6] rfl)
  · refine lv_iconst (v := 1) hx hb dL_law_616 (by decide) ?_
    refine lv_goto (tgt := 621) hx hb dL_law_617 (by decide) ?_
    refine lv_aload_n hx hb dL_law_621 rfl (lv_at hl 3 rfl) ?_
    refine q_ycall (As := [.ref aX, .int x1, .int 1, .ref aO]) (rest := []) (wr := (wN aN aIs aKd aNu aSg aVl aTs aTc cJ cI cZ N)) (Wn := (fun u : XS × (Nat → Int64) => (wL aX aP aM aC aT aR aN aIs aKd aNu aSg aVl aTs aTc aO cJ cI cZ u.1 N u.2))) (c_L_register l hlk D aX aP aM aC aT aR aO cJ S o x1 1 (E_register hR x1 1).2) hfix (vx_cwSW 4 hts gL_law_L_register rfl rfl rfl (by decide +kernel) ⟨Nat.le_of_ble_eq_true rfl, Nat.le_of_ble_eq_true rfl⟩) rfl hl.1 rfl (Nat.le_of_ble_eq_true rfl) ⟨by show cells + 1 ≤ 1055; omega, by show slots + 6 ≤ 10398; omega⟩ hP hK hD hS hA hE hZ hN3 [0, 1, 2, 3, 4, 5, 14] [6, 7, 8, 9, 10, 11, 12, 13] [8, 9, 10, 11, 12, 13, 0, 1, 2, 3, 4, 5, 6, 7, 14] [0] rfl rfl rfl (by decide) (by decide) (by decide) (by decide) (fun _ => rfl) (fun _ => rfl) rfl dL_law_622 (fun r u H locs hw hP hD hS => ?_)
    have hP : va_P D vwCl (wL aX aP aM aC aT aR aN aIs aKd aNu aSg aVl aTs aTc aO cJ cI cZ u.1 N u.2) H := hP
    have hD : va_D A (wL aX aP aM aC aT aR aN aIs aKd aNu aSg aVl aTs aTc aO cJ cI cZ u.1 N u.2) := hD
    refine lv_istore (lv' := [(5, .int r), (0, .ref b), (1, .ref aX), (2, .ref aN), (3, .ref aO), (4, .int (nI i))]) hx hb dL_law_625 hl (by decide) rfl (fun ls hl => ?_)
    refine lv_aload_n hx hb dL_law_627 rfl (lv_at hl 3 rfl) ?_
    refine lv_aload_n hx hb dL_law_628 rfl (lv_at hl 1 rfl) ?_
    refine lv_iload hx hb dL_law_629 (lv_at hl 5 rfl) ?_
    refine lv_iconst (v := 1) hx hb dL_law_631 (by decide) ?_
    refine lv_iadd hx hb dL_law_632 ?_
    refine q_sld hx hb hX hbl hbA hS v1 g1 dL_law_633 ?_
    refine lv_aload_n hx hb dL_law_634 rfl (lv_at hl 1 rfl) ?_
    refine lv_iload hx hb dL_law_635 (lv_at hl 5 rfl) ?_
    refine lv_iconst (v := 2) hx hb dL_law_637 (by decide) ?_
    refine lv_iadd hx hb dL_law_638 ?_
    refine q_sld hx hb hX hbl hbA hS v2 g2 dL_law_639 ?_
    refine lv_if_eq (tgt := 647) hx hb dL_law_640 (by decide) (fun z9 => absurd z9 z) (fun _ => ?_)
    refine lv_iconst (v := 1) hx hb dL_law_643 (by decide) ?_
    refine lv_goto (tgt := 648) hx hb dL_law_644 (by decide) ?_
    refine q_callMi (As := [.int x1, .int 1]) (rest := []) (wr := [(aX, .inr (3, [.ref aM, .ref aP, .ref aT, .int (pX_latestFailure u.1)])), (aP, .inr (1, [.ref aM, .long (pP_pc (pX_p u.1)), .long (pP_ap (pX_p u.1)), .long (pP_fp (pX_p u.1)), .long (pP_newPc (pX_p u.1)), .long (pP_newAp (pX_p u.1)), .long (pP_newFp (pX_p u.1)), .long (pP_word (pX_p u.1)), .int (pP_flags (pX_p u.1)), .long (pP_dstPlace (pX_p u.1)), .long (pP_op0Place (pX_p u.1)), .long (pP_op1Place (pX_p u.1)), .long (pP_res (pX_p u.1))])), (aM, .inr (0, [.ref aC])), (aC, .inl (cJ, 320, .inr (.inl (pP_mem (pX_p u.1))))), (aT, .inr (2, [.ref aR, .int (pT_length (pX_t u.1))])), (aR, .inl (cJ, 192, .inr (.inl (pT_row (pX_t u.1))))), (aO, .inl (cJ, 1, .inr (.inl u.2)))]) (Wn := (fun v : NS => (wL aX aP aM aC aT aR aN aIs aKd aNu aSg aVl aTs aTc aO cJ cI cZ u.1 v u.2))) (q0 := 0) (ci := 4) (C := RX7) (c_X7_register l D aN aIs aKd aNu aSg aVl aTs aTc cJ cI cZ N x1 1) hfix (cwV 2 hts gL_law_X7_register rfl rfl rfl (by decide +kernel) ⟨Nat.le_of_ble_eq_true rfl, Nat.le_of_ble_eq_true rfl⟩) rfl hl.1 rfl (Nat.le_of_ble_eq_true rfl) ⟨by show cells + 1 ≤ 1055; omega, by show slots + 6 ≤ 10398; omega⟩ hP hK hD hS hA [6, 7, 8, 9, 10, 11, 12, 13] [0, 1, 2, 3, 4, 5, 14] [0, 1, 2, 3, 4, 5, 7, 8, 9, 10, 11, 12, 13, 14, 6] [0, 1, 2] rfl rfl rfl (by decide) (by decide) (by decide) (by decide) (fun _ => rfl) (fun _ => rfl) rfl rfl rfl rfl dL_law_648 (fun r2 v H locs hw2 hP hD hS => ?_)
    have hJ := J2 (fun z : Int32 => z.toInt64) (E_register hR x1 1).1 (fun _ z => z) hw hw2
    have hP : va_P D vwCl (wL aX aP aM aC aT aR aN aIs aKd aNu aSg aVl aTs aTc aO cJ cI cZ u.1 v u.2) H := hP
    have hD : va_D A (wL aX aP aM aC aT aR aN aIs aKd aNu aSg aVl aTs aTc aO cJ cI cZ u.1 v u.2) := hD
    refine lv_istore (lv' := [(6, .int r2), (5, .int r), (0, .ref b), (1, .ref aX), (2, .ref aN), (3, .ref aO), (4, .int (nI i))]) hx hb dL_law_651 hl (by decide) rfl (fun ls hl => ?_)
    refine lv_aload_n hx hb dL_law_653 rfl (lv_at hl 4 rfl) ?_
    refine q_callVi (As := []) (rest := []) (q0 := 0) (ci := 4) (C := RX7) (c_X7_thrown l D aN aIs aKd aNu aSg aVl aTs aTc cJ cI cZ v) hfix (cwV 0 hts gL_law_X7_thrown rfl rfl rfl (by decide +kernel) ⟨Nat.le_of_ble_eq_true rfl, Nat.le_of_ble_eq_true rfl⟩) rfl hl.1 rfl (Nat.le_of_ble_eq_true rfl) ⟨by show cells + 1 ≤ 1055; omega, by show slots + 6 ≤ 10398; omega⟩ hP hK hS hA [6, 7, 8, 9, 10, 11, 12, 13] [0, 1, 2] rfl rfl rfl rfl rfl dL_law_654 (fun H locs hP hS => ?_)
    refine lv_iload hx hb dL_law_657 (lv_at hl 1 rfl) ?_
    refine lv_icmp_eq (tgt := 664) hx hb dL_law_659 (by decide) (fun c1 => ?_) (fun c1 => absurd hJ.1 c1)
    refine lv_iload hx hb dL_law_664 (lv_at hl 1 rfl) ?_
    refine lv_if_ne (tgt := 681) hx hb dL_law_666 (by decide) (fun c2 => ?_) (fun c2 => ?_)
    · refine lv_goto (tgt := 1153) hx hb dL_law_681 (by decide) ?_
      refine W.widen (k := cells + 2) (n := slots + 12) (by omega) (by omega) ?_
      exact kk u.1 v u.2 _ _ _ hJ.2.2 hP hD hS (lv_sub hl [2, 3, 4, 5, 6] rfl)
    · refine lv_aload_n hx hb dL_law_669 rfl (lv_at hl 5 rfl) ?_
      refine lv_iconst (v := 0) hx hb dL_law_670 (by decide) ?_
      refine va_lald hx hb hK hP 14 0 rfl rfl (q_vi (by decide)) dL_law_671 ?_
      refine lv_iload hx hb dL_law_672 (lv_at hl 0 rfl) ?_
      refine lv_i2l hx hb dL_law_674 rfl ?_
      refine q_eq (tgt := 681) hx hb dL_law_675 dL_law_676 (by decide) (fun c3 => ?_) (fun c3 => absurd (hJ.2.1 c2) c3)
      refine lv_goto (tgt := 1153) hx hb dL_law_681 (by decide) ?_
      refine W.widen (k := cells + 2) (n := slots + 12) (by omega) (by omega) ?_
      exact kk u.1 v u.2 _ _ _ hJ.2.2 hP hD hS (lv_sub hl [2, 3, 4, 5, 6] rfl)
