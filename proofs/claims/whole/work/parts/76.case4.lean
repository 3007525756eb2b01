set_option maxHeartbeats 4000000 in
set_option maxRecDepth 100000 in
theorem k_case12 {p : Program} {l : Launch} {e : Env} {s : State} {m : MethodId} {below : List Frame} {meth : Method} {c : Code} {b L : Nat} {xs : Nat → Int32} {Q : State → Prop} {D : va_G} {A : Nat → Prop} {aX aP aM aC aT aR aN aIs aKd aNu aSg aVl aTs aTc aO : Nat} {cJ cI cZ : ClassId} (hlk : l.stackTraces = false) (C0 : lw_At p s m meth c b L xs) (hA : ∀ q, s.heap.size ≤ q → A q) (hbA : ¬ A b) (hE : q_E s) (hZ : q_Z A s s.heap) (hN3 : q_N3 s) (hK : va_K D vwCl [(cJ, .long), (cI, .int), (cZ, .boolean)] s) {S : XS} {N : NS} {o : Nat → Int64} (hR : RX S N) {i : Nat} {x1 : Int32} (v1 : vp_in (nI i + 1) L) (g1 : xs (nI i + 1).toNatClampNeg = x1) {x2 : Int32} (v2 : vp_in (nI i + 2) L) (g2 : xs (nI i + 2).toNatClampNeg = x2) {x3 : Int32} (v3 : vp_in (nI i + 3) L) (g3 : xs (nI i + 3).toNatClampNeg = x3) {x4 : Int32} (v4 : vp_in (nI i + 4) L) (g4 : xs (nI i + 4).toNatClampNeg = x4) {x5 : Int32} (v5 : vp_in (nI i + 5) L) (g5 : xs (nI i + 5).toNatClampNeg = x5) {cells slots : Nat} (hc1 : cells + 2 ≤ 1055) (hc2 : slots + 12 ≤ 10398) {H : Heap} {locs : List Loc} (hP : va_P D vwCl (wL aX aP aM aC aT aR aN aIs aKd aNu aSg aVl aTs aTc aO cJ cI cZ S N o) H) (hD : va_D A (wL aX aP aM aC aT aR aN aIs aKd aNu aSg aVl aTs aTc aO cJ cI cZ S N o)) (hS : va_S A s.heap H locs) {ls : Array Slot} (hl : lv_has ls 8 [(0, .ref b), (1, .ref aX), (2, .ref aN), (3, .ref aO), (4, .int (nI i))]) (kk : ∀ (S : XS) (N : NS) (o : Nat → Int64) (H : Heap) (locs : List Loc) (ls : Array Slot), RX S N → va_P D vwCl (wL aX aP aM aC aT aR aN aIs aKd aNu aSg aVl aTs aTc aO cJ cI cZ S N o) H → va_D A (wL aX aP aM aC aT aR aN aIs aKd aNu aSg aVl aTs aTc aO cJ cI cZ S N o) → va_S A s.heap H locs → lv_has ls 8 [(0, .ref b), (1, .ref aX), (2, .ref aN), (3, .ref aO), (4, .int (nI i))] → W p l e room_1 s m #[Value.ref b] below meth c H locs (cells + 2) (slots + 12) Q (F0 m 1153 ls [])) : W p l e room_1 s m #[Value.ref b] below meth c H locs cells slots Q (F0 m 899 ls []) := by
  obtain ⟨hx, hb, hr, hml, hown, htt, hX, hbl, hlocks, hgv⟩ := C0
  have hown : s.vm.findClass RL = some m.cls := hown
  have hts : ∀ w ∈ wsL_law, w.before #[Value.ref b] s = true := fun w h => htt w (wsL_law_in w h)
  have hfix : CallFix p m c cL_law 8 s #[Value.ref b] wsL_law RL := ⟨hx, hb, hml, hown, hts⟩
  refine lv_aload_n hx hb dL_law_899 rfl (lv_at hl 1 rfl) ?_
  refine lv_aload_n hx hb dL_law_900 rfl (lv_at hl 0 rfl) ?_
  refine lv_iload hx hb dL_law_901 (lv_at hl 4 rfl) ?_
  refine lv_iconst (v := 1) hx hb dL_law_903 (by decide) ?_
  refine lv_iadd hx hb dL_law_904 ?_
  refine q_sld hx hb hX hbl hbA hS v1 g1 dL_law_905 ?_
  refine lv_aload_n hx hb dL_law_906 rfl (lv_at hl 3 rfl) ?_
  refine q_ycall (As := [.ref aX, .int x1, .ref aO]) (rest := []) (wr := (wN aN aIs aKd aNu aSg aVl aTs aTc cJ cI cZ N)) (Wn := (fun u : XS × (Nat → Int64) => (wL aX aP aM aC aT aR aN aIs aKd aNu aSg aVl aTs aTc aO cJ cI cZ u.1 N u.2))) (c_L_begins l hlk D aX aP aM aC aT aR aO cJ S o x1 (E_begins hR x1).2) hfix (vx_cwSW 3 hts gL_law_L_begins rfl rfl rfl (by decide +kernel) ⟨Nat.le_of_ble_eq_true rfl, Nat.le_of_ble_eq_true rfl⟩) rfl hl.1 rfl (Nat.le_of_ble_eq_true rfl) ⟨by show cells + 1 ≤ 1055; omega, by show slots + 6 ≤ 10398; omega⟩ hP hK hD hS hA hE hZ hN3 [0, 1, 2, 3, 4, 5, 14] [6, 7, 8, 9, 10, 11, 12, 13] [8, 9, 10, 11, 12, 13, 0, 1, 2, 3, 4, 5, 6, 7, 14] [0] rfl rfl rfl (by decide) (by decide) (by decide) (by decide) (fun _ => rfl) (fun _ => rfl) rfl dL_law_907 (fun r u H locs hw hP hD hS => ?_)
  have hP : va_P D vwCl (wL aX aP aM aC aT aR aN aIs aKd aNu aSg aVl aTs aTc aO cJ cI cZ u.1 N u.2) H := hP
  have hD : va_D A (wL aX aP aM aC aT aR aN aIs aKd aNu aSg aVl aTs aTc aO cJ cI cZ u.1 N u.2) := hD
  refine lv_istore (lv' := [(5, .int r), (0, .ref b), (1, .ref aX), (2, .ref aN), (3, .ref aO), (4, .int (nI i))]) hx hb dL_law_910 hl (by decide) rfl (fun ls hl => ?_)
  refine lv_aload_n hx hb dL_law_912 rfl (lv_at hl 3 rfl) ?_
  refine lv_aload_n hx hb dL_law_913 rfl (lv_at hl 1 rfl) ?_
  refine lv_iload hx hb dL_law_914 (lv_at hl 5 rfl) ?_
  refine lv_iconst (v := 1) hx hb dL_law_916 (by decide) ?_
  refine lv_iadd hx hb dL_law_917 ?_
  refine q_sld hx hb hX hbl hbA hS v1 g1 dL_law_918 ?_
  refine q_callMi (As := [.int x1]) (rest := []) (wr := [(aX, .inr (3, [.ref aM, .ref aP, .ref aT, .int (pX_latestFailure u.1)])), (aP, .inr (1, [.ref aM, .long (pP_pc (pX_p u.1)), .long (pP_ap (pX_p u.1)), .long (pP_fp (pX_p u.1)), .long (pP_newPc (pX_p u.1)), .long (pP_newAp (pX_p u.1)), .long (pP_newFp (pX_p u.1)), .long (pP_word (pX_p u.1)), .int (pP_flags (pX_p u.1)), .long (pP_dstPlace (pX_p u.1)), .long (pP_op0Place (pX_p u.1)), .long (pP_op1Place (pX_p u.1)), .long (pP_res (pX_p u.1))])), (aM, .inr (0, [.ref aC])), (aC, .inl (cJ, 320, .inr (.inl (pP_mem (pX_p u.1))))), (aT, .inr (2, [.ref aR, .int (pT_length (pX_t u.1))])), (aR, .inl (cJ, 192, .inr (.inl (pT_row (pX_t u.1))))), (aO, .inl (cJ, 1, .inr (.inl u.2)))]) (Wn := (fun v : NS => (wL aX aP aM aC aT aR aN aIs aKd aNu aSg aVl aTs aTc aO cJ cI cZ u.1 v u.2))) (q0 := 0) (ci := 4) (C := RX7) (c_X7_begins l D aN aIs aKd aNu aSg aVl aTs aTc cJ cI cZ N x1) hfix (cwV 1 hts gL_law_X7_begins rfl rfl rfl (by decide +kernel) ⟨Nat.le_of_ble_eq_true rfl, Nat.le_of_ble_eq_true rfl⟩) rfl hl.1 rfl (Nat.le_of_ble_eq_true rfl) ⟨by show cells + 1 ≤ 1055; omega, by show slots + 6 ≤ 10398; omega⟩ hP hK hD hS hA [6, 7, 8, 9, 10, 11, 12, 13] [0, 1, 2, 3, 4, 5, 14] [0, 1, 2, 3, 4, 5, 7, 8, 9, 10, 11, 12, 13, 14, 6] [0, 1, 2] rfl rfl rfl (by decide) (by decide) (by decide) (by decide) (fun _ => rfl) (fun _ => rfl) rfl rfl rfl rfl dL_law_919 (fun r2 v H locs hw2 hP hD hS => ?_)
  have hJ := J2 (fun z : Int32 => z.toInt64) (E_begins hR x1).1 (fun _ z => z) hw hw2
  have hP : va_P D vwCl (wL aX aP aM aC aT aR aN aIs aKd aNu aSg aVl aTs aTc aO cJ cI cZ u.1 v u.2) H := hP
  have hD : va_D A (wL aX aP aM aC aT aR aN aIs aKd aNu aSg aVl aTs aTc aO cJ cI cZ u.1 v u.2) := hD
  refine lv_istore (lv' := [(6, .int r2), (5, .int r), (0, .ref b), (1, .ref aX), (2, .ref aN), (3, .ref aO), (4, .int (nI i))]) hx hb dL_law_922 hl (by decide) rfl (fun ls hl => ?_)
  refine lv_aload_n hx hb dL_law_924 rfl (lv_at hl 4 rfl) ?_
  refine q_callVi (As := []) (rest := []) (q0 := 0) (ci := 4) (C := RX7) (c_X7_thrown l D aN aIs aKd aNu aSg aVl aTs aTc cJ cI cZ v) hfix (cwV 0 hts gL_law_X7_thrown rfl rfl rfl (by decide +kernel) ⟨Nat.le_of_ble_eq_true rfl, Nat.le_of_ble_eq_true rfl⟩) rfl hl.1 rfl (Nat.le_of_ble_eq_true rfl) ⟨by show cells + 1 ≤ 1055; omega, by show slots + 6 ≤ 10398; omega⟩ hP hK hS hA [6, 7, 8, 9, 10, 11, 12, 13] [0, 1, 2] rfl rfl rfl rfl rfl dL_law_925 (fun H locs hP hS => ?_)
  refine lv_iload hx hb dL_law_928 (lv_at hl 1 rfl) ?_
  refine lv_icmp_eq (tgt := 935) hx hb dL_law_930 (by decide) (fun c1 => ?_) (fun c1 => absurd hJ.1 c1)
  refine lv_iload hx hb dL_law_935 (lv_at hl 1 rfl) ?_
  refine lv_if_ne (tgt := 952) hx hb dL_law_937 (by decide) (fun c2 => ?_) (fun c2 => ?_)
  · refine lv_goto (tgt := 1153) hx hb dL_law_952 (by decide) ?_
    refine W.widen (k := cells + 2) (n := slots + 12) (by omega) (by omega) ?_
    exact kk u.1 v u.2 _ _ _ hJ.2.2 hP hD hS (lv_sub hl [2, 3, 4, 5, 6] rfl)
  · refine lv_aload_n hx hb dL_law_940 rfl (lv_at hl 5 rfl) ?_
    refine lv_iconst (v := 0) hx hb dL_law_941 (by decide) ?_
    refine va_lald hx hb hK hP 14 0 rfl rfl (q_vi (by decide)) dL_law_942 ?_
    refine lv_iload hx hb dL_law_943 (lv_at hl 0 rfl) ?_
    refine lv_i2l hx hb dL_law_945 rfl ?_
    refine q_eq (tgt := 952) hx hb dL_law_946 dL_law_947 (by decide) (fun c3 => ?_) (fun c3 => absurd (hJ.2.1 c2) c3)
    refine lv_goto (tgt := 1153) hx hb dL_law_952 (by decide) ?_
    refine W.widen (k := cells + 2) (n := slots + 12) (by omega) (by omega) ?_
    exact kk u.1 v u.2 _ _ _ hJ.2.2 hP hD hS (lv_sub hl [2, 3, 4, 5, 6] rfl)

set_option maxHeartbeats 4000000 in
set_option maxRecDepth 100000 in
theorem k_case13 {p : Program} {l : Launch} {e : Env} {s : State} {m : MethodId} {below : List Frame} {meth : Method} {c : Code} {b L : Nat} {xs : Nat → Int32} {Q : State → Prop} {D : va_G} {A : Nat → Prop} {aX aP aM aC aT aR aN aIs aKd aNu aSg aVl aTs aTc aO : Nat} {cJ cI cZ : ClassId} (hlk : l.stackTraces = false) (C0 : lw_At p s m meth c b L xs) (hA : ∀ q, s.heap.size ≤ q → A q) (hbA : ¬ A b) (hE : q_E s) (hZ : q_Z A s s.heap) (hN3 : q_N3 s) (hK : va_K D vwCl [(cJ, .long), (cI, .int), (cZ, .boolean)] s) {S : XS} {N : NS} {o : Nat → Int64} (hR : RX S N) {i : Nat} {x1 : Int32} (v1 : vp_in (nI i + 1) L) (g1 : xs (nI i + 1).toNatClampNeg = x1) {x2 : Int32} (v2 : vp_in (nI i + 2) L) (g2 : xs (nI i + 2).toNatClampNeg = x2) {x3 : Int32} (v3 : vp_in (nI i + 3) L) (g3 : xs (nI i + 3).toNatClampNeg = x3) {x4 : Int32} (v4 : vp_in (nI i + 4) L) (g4 : xs (nI i + 4).toNatClampNeg = x4) {x5 : Int32} (v5 : vp_in (nI i + 5) L) (g5 : xs (nI i + 5).toNatClampNeg = x5) {cells slots : Nat} (hc1 : cells + 2 ≤ 1055) (hc2 : slots + 12 ≤ 10398) {H : Heap} {locs : List Loc} (hP : va_P D vwCl (wL aX aP aM aC aT aR aN aIs aKd aNu aSg aVl aTs aTc aO cJ cI cZ S N o) H) (hD : va_D A (wL aX aP aM aC aT aR aN aIs aKd aNu aSg aVl aTs aTc aO cJ cI cZ S N o)) (hS : va_S A s.heap H locs) {ls : Array Slot} (hl : lv_has ls 8 [(0, .ref b), (1, .ref aX), (2, .ref aN), (3, .ref aO), (4, .int (nI i))]) (kk : ∀ (S : XS) (N : NS) (o : Nat → Int64) (H : Heap) (locs : List Loc) (ls : Array Slot), RX S N → va_P D vwCl (wL aX aP aM aC aT aR aN aIs aKd aNu aSg aVl aTs aTc aO cJ cI cZ S N o) H → va_D A (wL aX aP aM aC aT aR aN aIs aKd aNu aSg aVl aTs aTc aO cJ cI cZ S N o) → va_S A s.heap H locs → lv_has ls 8 [(0, .ref b), (1, .ref aX), (2, .ref aN), (3, .ref aO), (4, .int (nI i))] → W p l e room_1 s m #[Value.ref b] below meth c H locs (cells + 2) (slots + 12) Q (F0 m 1153 ls [])) : W p l e room_1 s m #[Value.ref b] below meth c H locs cells slots Q (F0 m 955 ls []) := by
  obtain ⟨hx, hb, hr, hml, hown, htt, hX, hbl, hlocks, hgv⟩ := C0
  have hown : s.vm.findClass RL = some m.cls := hown
  have hts : ∀ w ∈ wsL_law, w.before #[Value.ref b] s = true := fun w h => htt w (wsL_law_in w h)
  have hfix : CallFix p m c cL_law 8 s #[Value.ref b] wsL_law RL := ⟨hx, hb, hml, hown, hts⟩
  refine lv_aload_n hx hb dL_law_955 rfl (lv_at hl 1 rfl) ?_
  refine lv_aload_n hx hb dL_law_956 rfl (lv_at hl 0 rfl) ?_
  refine lv_iload hx hb dL_law_957 (lv_at hl 4 rfl) ?_
  refine lv_iconst (v := 1) hx hb dL_law_959 (by decide) ?_
  refine lv_iadd hx hb dL_law_960 ?_
  refine q_sld hx hb hX hbl hbA hS v1 g1 dL_law_961 ?_
  refine lv_aload_n hx hb dL_law_962 rfl (lv_at hl 3 rfl) ?_
  refine q_ycall (As := [.ref aX, .int x1, .ref aO]) (rest := []) (wr := (wN aN aIs aKd aNu aSg aVl aTs aTc cJ cI cZ N)) (Wn := (fun u : XS × (Nat → Int64) => (wL aX aP aM aC aT aR aN aIs aKd aNu aSg aVl aTs aTc aO cJ cI cZ u.1 N u.2))) (c_L_relocated l hlk D aX aP aM aC aT aR aO cJ S o x1 (E_relocated hR x1).2) hfix (vx_cwSW 3 hts gL_law_L_relocated rfl rfl rfl (by decide +kernel) ⟨Nat.le_of_ble_eq_true rfl, Nat.le_of_ble_eq_true rfl⟩) rfl hl.1 rfl (Nat.le_of_ble_eq_true rfl) ⟨by show cells + 1 ≤ 1055; omega, by show slots + 6 ≤ 10398; omega⟩ hP hK hD hS hA hE hZ hN3 [0, 1, 2, 3, 4, 5, 14] [6, 7, 8, 9, 10, 11, 12, 13] [8, 9, 10, 11, 12, 13, 0, 1, 2, 3, 4, 5, 6, 7, 14] [0] rfl rfl rfl (by decide) (by decide) (by decide) (by decide) (fun _ => rfl) (fun _ => rfl) rfl dL_law_963 (fun r u H locs hw hP hD hS => ?_)
  have hP : va_P D vwCl (wL aX aP aM aC aT aR aN aIs aKd aNu aSg aVl aTs aTc aO cJ cI cZ u.1 N u.2) H := hP
  have hD : va_D A (wL aX aP aM aC aT aR aN aIs aKd aNu aSg aVl aTs aTc aO cJ cI cZ u.1 N u.2) := hD
  refine lv_istore (lv' := [(5, .int r), (0, .ref b), (1, .ref aX), (2, .ref aN), (3, .ref aO), (4, .int (nI i))]) hx hb dL_law_966 hl (by decide) rfl (fun ls hl => ?_)
  refine lv_aload_n hx hb dL_law_968 rfl (lv_at hl 3 rfl) ?_
  refine lv_aload_n hx hb dL_law_969 rfl (lv_at hl 1 rfl) ?_
  refine lv_iload hx hb dL_law_970 (lv_at hl 5 rfl) ?_
  refine lv_iconst (v := 1) hx hb dL_law_972 (by decide) ?_
  refine lv_iadd hx hb dL_law_973 ?_
  refine q_sld hx hb hX hbl hbA hS v1 g1 dL_law_974 ?_
  refine q_callMl (As := [.int x1]) (rest := []) (wr := [(aX, .inr (3, [.ref aM, .ref aP, .ref aT, .int (pX_latestFailure u.1)])), (aP, .inr (1, [.ref aM, .long (pP_pc (pX_p u.1)), .long (pP_ap (pX_p u.1)), .long (pP_fp (pX_p u.1)), .long (pP_newPc (pX_p u.1)), .long (pP_newAp (pX_p u.1)), .long (pP_newFp (pX_p u.1)), .long (pP_word (pX_p u.1)), .int (pP_flags (pX_p u.1)), .long (pP_dstPlace (pX_p u.1)), .long (pP_op0Place (pX_p u.1)), .long (pP_op1Place (pX_p u.1)), .long (pP_res (pX_p u.1))])), (aM, .inr (0, [.ref aC])), (aC, .inl (cJ, 320, .inr (.inl (pP_mem (pX_p u.1))))), (aT, .inr (2, [.ref aR, .int (pT_length (pX_t u.1))])), (aR, .inl (cJ, 192, .inr (.inl (pT_row (pX_t u.1))))), (aO, .inl (cJ, 1, .inr (.inl u.2)))]) (Wn := (fun v : NS => (wL aX aP aM aC aT aR aN aIs aKd aNu aSg aVl aTs aTc aO cJ cI cZ u.1 v u.2))) (q0 := 0) (ci := 4) (C := RX7) (c_X7_relocated l D aN aIs aKd aNu aSg aVl aTs aTc cJ cI cZ N x1 (rx_len hR).2.2.2) hfix (cwV 1 hts gL_law_X7_relocated rfl rfl rfl (by decide +kernel) ⟨Nat.le_of_ble_eq_true rfl, Nat.le_of_ble_eq_true rfl⟩) rfl hl.1 rfl (Nat.le_of_ble_eq_true rfl) ⟨by show cells + 1 ≤ 1055; omega, by show slots + 6 ≤ 10398; omega⟩ hP hK hD hS hA [6, 7, 8, 9, 10, 11, 12, 13] [0, 1, 2, 3, 4, 5, 14] [0, 1, 2, 3, 4, 5, 7, 8, 9, 10, 11, 12, 13, 14, 6] [0, 1, 2] rfl rfl rfl (by decide) (by decide) (by decide) (by decide) (fun _ => rfl) (fun _ => rfl) rfl rfl rfl rfl dL_law_975 (fun r2 v H locs hw2 hP hD hS => ?_)
  have hJ := J2 (fun z : Int64 => z) (E_relocated hR x1).1 cdA_0 hw hw2
  have hP : va_P D vwCl (wL aX aP aM aC aT aR aN aIs aKd aNu aSg aVl aTs aTc aO cJ cI cZ u.1 v u.2) H := hP
  have hD : va_D A (wL aX aP aM aC aT aR aN aIs aKd aNu aSg aVl aTs aTc aO cJ cI cZ u.1 v u.2) := hD
  refine lv_lstore (lv' := [(6, .long r2), (5, .int r), (0, .ref b), (1, .ref aX), (2, .ref aN), (3, .ref aO), (4, .int (nI i))]) hx hb dL_law_978 hl (by decide) rfl (fun ls hl => ?_)
  refine lv_aload_n hx hb dL_law_980 rfl (lv_at hl 4 rfl) ?_
  refine q_callVi (As := []) (rest := []) (q0 := 0) (ci := 4) (C := RX7) (c_X7_thrown l D aN aIs aKd aNu aSg aVl aTs aTc cJ cI cZ v) hfix (cwV 0 hts gL_law_X7_thrown rfl rfl rfl (by decide +kernel) ⟨Nat.le_of_ble_eq_true rfl, Nat.le_of_ble_eq_true rfl⟩) rfl hl.1 rfl (Nat.le_of_ble_eq_true rfl) ⟨by show cells + 1 ≤ 1055; omega, by show slots + 6 ≤ 10398; omega⟩ hP hK hS hA [6, 7, 8, 9, 10, 11, 12, 13] [0, 1, 2] rfl rfl rfl rfl rfl dL_law_981 (fun H locs hP hS => ?_)
  refine lv_iload hx hb dL_law_984 (lv_at hl 1 rfl) ?_
  refine lv_icmp_eq (tgt := 991) hx hb dL_law_986 (by decide) (fun c1 => ?_) (fun c1 => absurd hJ.1 c1)
  refine lv_iload hx hb dL_law_991 (lv_at hl 1 rfl) ?_
  refine lv_if_ne (tgt := 1007) hx hb dL_law_993 (by decide) (fun c2 => ?_) (fun c2 => ?_)
  · refine lv_goto (tgt := 1153) hx hb dL_law_1007 (by decide) ?_
    refine W.widen (k := cells + 2) (n := slots + 12) (by omega) (by omega) ?_
    exact kk u.1 v u.2 _ _ _ hJ.2.2 hP hD hS (lv_sub hl [2, 3, 4, 5, 6] rfl)
  · refine lv_aload_n hx hb dL_law_996 rfl (lv_at hl 5 rfl) ?_
    refine lv_iconst (v := 0) hx hb dL_law_997 (by decide) ?_
    refine va_lald hx hb hK hP 14 0 rfl rfl (q_vi (by decide)) dL_law_998 ?_
    refine lv_lload hx hb dL_law_999 (lv_at hl 0 rfl) ?_
    refine q_eq (tgt := 1007) hx hb dL_law_1001 dL_law_1002 (by decide) (fun c3 => ?_) (fun c3 => absurd (hJ.2.1 c2) c3)
    refine lv_goto (tgt := 1153) hx hb dL_law_1007 (by decide) ?_
    refine W.widen (k := cells + 2) (n := slots + 12) (by omega) (by omega) ?_
    exact kk u.1 v u.2 _ _ _ hJ.2.2 hP hD hS (lv_sub hl [2, 3, 4, 5, 6] rfl)

set_option maxHeartbeats 4000000 in
set_option maxRecDepth 100000 in
theorem k_case14 {p : Program} {l : Launch} {e : Env} {s : State} {m : MethodId} {below : List Frame} {meth : Method} {c : Code} {b L : Nat} {xs : Nat → Int32} {Q : State → Prop} {D : va_G} {A : Nat → Prop} {aX aP aM aC aT aR aN aIs aKd aNu aSg aVl aTs aTc aO : Nat} {cJ cI cZ : ClassId} (hlk : l.stackTraces = false) (C0 : lw_At p s m meth c b L xs) (hA : ∀ q, s.heap.size ≤ q → A q) (hbA : ¬ A b) (hE : q_E s) (hZ : q_Z A s s.heap) (hN3 : q_N3 s) (hK : va_K D vwCl [(cJ, .long), (cI, .int), (cZ, .boolean)] s) {S : XS} {N : NS} {o : Nat → Int64} (hR : RX S N) {i : Nat} {x1 : Int32} (v1 : vp_in (nI i + 1) L) (g1 : xs (nI i + 1).toNatClampNeg = x1) {x2 : Int32} (v2 : vp_in (nI i + 2) L) (g2 : xs (nI i + 2).toNatClampNeg = x2) {x3 : Int32} (v3 : vp_in (nI i + 3) L) (g3 : xs (nI i + 3).toNatClampNeg = x3) {x4 : Int32} (v4 : vp_in (nI i + 4) L) (g4 : xs (nI i + 4).toNatClampNeg = x4) {x5 : Int32} (v5 : vp_in (nI i + 5) L) (g5 : xs (nI i + 5).toNatClampNeg = x5) {cells slots : Nat} (hc1 : cells + 2 ≤ 1055) (hc2 : slots + 12 ≤ 10398) {H : Heap} {locs : List Loc} (hP : va_P D vwCl (wL aX aP aM aC aT aR aN aIs aKd aNu aSg aVl aTs aTc aO cJ cI cZ S N o) H) (hD : va_D A (wL aX aP aM aC aT aR aN aIs aKd aNu aSg aVl aTs aTc aO cJ cI cZ S N o)) (hS : va_S A s.heap H locs) {ls : Array Slot} (hl : lv_has ls 8 [(0, .ref b), (1, .ref aX), (2, .ref aN), (3, .ref aO), (4, .int (nI i))]) (kk : ∀ (S : XS) (N : NS) (o : Nat → Int64) (H : Heap) (locs : List Loc) (ls : Array Slot), RX S N → va_P D vwCl (wL aX aP aM aC aT aR aN aIs aKd aNu aSg aVl aTs aTc aO cJ cI cZ S N o) H → va_D A (wL aX aP aM aC aT aR aN aIs aKd aNu aSg aVl aTs aTc aO cJ cI cZ S N o) → va_S A s.heap H locs → lv_has ls 8 [(0, .ref b), (1, .ref aX), (2, .ref aN), (3, .ref aO), (4, .int (nI i))] → W p l e room_1 s m #[Value.ref b] below meth c H locs (cells + 2) (slots + 12) Q (F0 m 1153 ls [])) : W p l e room_1 s m #[Value.ref b] below meth c H locs cells slots Q (F0 m 1010 ls []) := by
  obtain ⟨hx, hb, hr, hml, hown, htt, hX, hbl, hlocks, hgv⟩ := C0
  have hown : s.vm.findClass RL = some m.cls := hown
  have hts : ∀ w ∈ wsL_law, w.before #[Value.ref b] s = true := fun w h => htt w (wsL_law_in w h)
  have hfix : CallFix p m c cL_law 8 s #[Value.ref b] wsL_law RL := ⟨hx, hb, hml, hown, hts⟩
  refine lv_aload_n hx hb dL_law_1010 rfl (lv_at hl 1 rfl) ?_
  refine lv_aload_n hx hb dL_law_1011 rfl (lv_at hl 0 rfl) ?_
  refine lv_iload hx hb dL_law_1012 (lv_at hl 4 rfl) ?_
  refine lv_iconst (v := 1) hx hb dL_law_1014 (by decide) ?_
  refine lv_iadd hx hb dL_law_1015 ?_
  refine q_sld hx hb hX hbl hbA hS v1 g1 dL_law_1016 ?_
  refine lv_aload_n hx hb dL_law_1017 rfl (lv_at hl 0 rfl) ?_
  refine lv_iload hx hb dL_law_1018 (lv_at hl 4 rfl) ?_
  refine lv_iconst (v := 2) hx hb dL_law_1020 (by decide) ?_
  refine lv_iadd hx hb dL_law_1021 ?_
  refine q_sld hx hb hX hbl hbA hS v2 g2 dL_law_1022 ?_
  refine lv_i2l hx hb dL_law_1023 rfl ?_
  refine lv_bipush (v := 32) hx hb dL_law_1024 (by decide) ?_
  refine lv_lshl hx hb dL_law_1026 rfl ?_
  refine lv_aload_n hx hb dL_law_1027 rfl (lv_at hl 0 rfl) ?_
  refine lv_iload hx hb dL_law_1028 (lv_at hl 4 rfl) ?_
  refine lv_iconst (v := 3) hx hb dL_law_1030 (by decide) ?_
  refine lv_iadd hx hb dL_law_1031 ?_
  refine q_sld hx hb hX hbl hbA hS v3 g3 dL_law_1032 ?_
  refine lv_i2l hx hb dL_law_1033 rfl ?_
  refine lv_ldc2 (v := 4294967295) hx hb hown (hts (.constantLong RL 81 (4294967295)) (by decide +kernel)) dL_law_1034 ?_
  refine lv_land hx hb dL_law_1037 ?_
  refine lv_lor hx hb dL_law_1038 ?_
  refine lv_aload_n hx hb dL_law_1039 rfl (lv_at hl 0 rfl) ?_
  refine lv_iload hx hb dL_law_1040 (lv_at hl 4 rfl) ?_
  refine lv_iconst (v := 4) hx hb dL_law_1042 (by decide) ?_
  refine lv_iadd hx hb dL_law_1043 ?_
  refine q_sld hx hb hX hbl hbA hS v4 g4 dL_law_1044 ?_
  refine lv_i2l hx hb dL_law_1045 rfl ?_
  refine lv_bipush (v := 32) hx hb dL_law_1046 (by decide) ?_
  refine lv_lshl hx hb dL_law_1048 rfl ?_
  refine lv_aload_n hx hb dL_law_1049 rfl (lv_at hl 0 rfl) ?_
  refine lv_iload hx hb dL_law_1050 (lv_at hl 4 rfl) ?_
  refine lv_iconst (v := 5) hx hb dL_law_1052 (by decide) ?_
  refine lv_iadd hx hb dL_law_1053 ?_
  refine q_sld hx hb hX hbl hbA hS v5 g5 dL_law_1054 ?_
  refine lv_i2l hx hb dL_law_1055 rfl ?_
  refine lv_ldc2 (v := 4294967295) hx hb hown (hts (.constantLong RL 81 (4294967295)) (by decide +kernel)) dL_law_1056 ?_
  refine lv_land hx hb dL_law_1059 ?_
  refine lv_lor hx hb dL_law_1060 ?_
  refine lv_aload_n hx hb dL_law_1061 rfl (lv_at hl 3 rfl) ?_
  refine q_ycall (As := [.ref aX, .int x1, .long ((((x2 : Int32).toInt64) <<< ((32 : Int32).toInt64 &&& 63)) ||| (((x3 : Int32).toInt64) &&& 4294967295)), .long ((((x4 : Int32).toInt64) <<< ((32 : Int32).toInt64 &&& 63)) ||| (((x5 : Int32).toInt64) &&& 4294967295)), .ref aO]) (rest := []) (wr := (wN aN aIs aKd aNu aSg aVl aTs aTc cJ cI cZ N)) (Wn := (fun u : XS × (Nat → Int64) => (wL aX aP aM aC aT aR aN aIs aKd aNu aSg aVl aTs aTc aO cJ cI cZ u.1 N u.2))) (c_L_reckon l hlk D aX aP aM aC aT aR aO cJ S o x1 ((((x2 : Int32).toInt64) <<< ((32 : Int32).toInt64 &&& 63)) ||| (((x3 : Int32).toInt64) &&& 4294967295)) ((((x4 : Int32).toInt64) <<< ((32 : Int32).toInt64 &&& 63)) ||| (((x5 : Int32).toInt64) &&& 4294967295)) (E_reckon hR x1 ((((x2 : Int32).toInt64) <<< ((32 : Int32).toInt64 &&& 63)) ||| (((x3 : Int32).toInt64) &&& 4294967295)) ((((x4 : Int32).toInt64) <<< ((32 : Int32).toInt64 &&& 63)) ||| (((x5 : Int32).toInt64) &&& 4294967295))).2) hfix (vx_cwSW 5 hts gL_law_L_reckon rfl rfl rfl (by decide +kernel) ⟨Nat.le_of_ble_eq_true rfl, Nat.le_of_ble_eq_true rfl⟩) rfl hl.1 rfl (Nat.le_of_ble_eq_true rfl) ⟨by show cells + 1 ≤ 1055; omega, by show slots + 6 ≤ 10398; omega⟩ hP hK hD hS hA hE hZ hN3 [0, 1, 2, 3, 4, 5, 14] [6, 7, 8, 9, 10, 11, 12, 13] [8, 9, 10, 11, 12, 13, 0, 1, 2, 3, 4, 5, 6, 7, 14] [0] rfl rfl rfl (by decide) (by decide) (by decide) (by decide) (fun _ => rfl) (fun _ => rfl) rfl dL_law_1062 (fun r u H locs hw hP hD hS => ?_)
  have hP : va_P D vwCl (wL aX aP aM aC aT aR aN aIs aKd aNu aSg aVl aTs aTc aO cJ cI cZ u.1 N u.2) H := hP
  have hD : va_D A (wL aX aP aM aC aT aR aN aIs aKd aNu aSg aVl aTs aTc aO cJ cI cZ u.1 N u.2) := hD
  refine lv_istore (lv' := [(5, .int r), (0, .ref b), (1, .ref aX), (2, .ref aN), (3, .ref aO), (4, .int (nI i))]) hx hb dL_law_1065 hl (by decide) rfl (fun ls hl => ?_)
  refine lv_aload_n hx hb dL_law_1067 rfl (lv_at hl 3 rfl) ?_
  refine lv_aload_n hx hb dL_law_1068 rfl (lv_at hl 1 rfl) ?_
  refine lv_iload hx hb dL_law_1069 (lv_at hl 5 rfl) ?_
  refine lv_iconst (v := 1) hx hb dL_law_1071 (by decide) ?_
  refine lv_iadd hx hb dL_law_1072 ?_
  refine q_sld hx hb hX hbl hbA hS v1 g1 dL_law_1073 ?_
  refine lv_aload_n hx hb dL_law_1074 rfl (lv_at hl 1 rfl) ?_
  refine lv_iload hx hb dL_law_1075 (lv_at hl 5 rfl) ?_
  refine lv_iconst (v := 2) hx hb dL_law_1077 (by decide) ?_
  refine lv_iadd hx hb dL_law_1078 ?_
  refine q_sld hx hb hX hbl hbA hS v2 g2 dL_law_1079 ?_
  refine lv_i2l hx hb dL_law_1080 rfl ?_
  refine lv_bipush (v := 32) hx hb dL_law_1081 (by decide) ?_
  refine lv_lshl hx hb dL_law_1083 rfl ?_
  refine lv_aload_n hx hb dL_law_1084 rfl (lv_at hl 1 rfl) ?_
  refine lv_iload hx hb dL_law_1085 (lv_at hl 5 rfl) ?_
  refine lv_iconst (v := 3) hx hb dL_law_1087 (by decide) ?_
  refine lv_iadd hx hb dL_law_1088 ?_
  refine q_sld hx hb hX hbl hbA hS v3 g3 dL_law_1089 ?_
  refine lv_i2l hx hb dL_law_1090 rfl ?_
  refine lv_ldc2 (v := 4294967295) hx hb hown (hts (.constantLong RL 81 (4294967295)) (by decide +kernel)) dL_law_1091 ?_
  refine lv_land hx hb dL_law_1094 ?_
  refine lv_lor hx hb dL_law_1095 ?_
  refine lv_aload_n hx hb dL_law_1096 rfl (lv_at hl 1 rfl) ?_
  refine lv_iload hx hb dL_law_1097 (lv_at hl 5 rfl) ?_
  refine lv_iconst (v := 4) hx hb dL_law_1099 (by decide) ?_
  refine lv_iadd hx hb dL_law_1100 ?_
  refine q_sld hx hb hX hbl hbA hS v4 g4 dL_law_1101 ?_
  refine lv_i2l hx hb dL_law_1102 rfl ?_
  refine lv_bipush (v := 32) hx hb dL_law_1103 (by decide) ?_
  refine lv_lshl hx hb dL_law_1105 rfl ?_
  refine lv_aload_n hx hb dL_law_1106 rfl (lv_at hl 1 rfl) ?_
  refine lv_iload hx hb dL_law_1107 (lv_at hl 5 rfl) ?_
  refine lv_iconst (v := 5) hx hb dL_law_1109 (by decide) ?_
  refine lv_iadd hx hb dL_law_1110 ?_
  refine q_sld hx hb hX hbl hbA hS v5 g5 dL_law_1111 ?_
  refine lv_i2l hx hb dL_law_1112 rfl ?_
  refine lv_ldc2 (v := 4294967295) hx hb hown (hts (.constantLong RL 81 (4294967295)) (by decide +kernel)) dL_law_1113 ?_
  refine lv_land hx hb dL_law_1116 ?_
  refine lv_lor hx hb dL_law_1117 ?_
  refine q_callMl (As := [.int x1, .long ((((x2 : Int32).toInt64) <<< ((32 : Int32).toInt64 &&& 63)) ||| (((x3 : Int32).toInt64) &&& 4294967295)), .long ((((x4 : Int32).toInt64) <<< ((32 : Int32).toInt64 &&& 63)) ||| (((x5 : Int32).toInt64) &&& 4294967295))]) (rest := []) (wr := [(aX, .inr (3, [.ref aM, .ref aP, .ref aT, .int (pX_latestFailure u.1)])), (aP, .inr (1, [.ref aM, .long (pP_pc (pX_p u.1)), .long (pP_ap (pX_p u.1)), .long (pP_fp (pX_p u.1)), .long (pP_newPc (pX_p u.1)), .long (pP_newAp (pX_p u.1)), .long (pP_newFp (pX_p u.1)), .long (pP_word (pX_p u.1)), .int (pP_flags (pX_p u.1)), .long (pP_dstPlace (pX_p u.1)), .long (pP_op0Place (pX_p u.1)), .long (pP_op1Place (pX_p u.1)), .long (pP_res (pX_p u.1))])), (aM, .inr (0, [.ref aC])), (aC, .inl (cJ, 320, .inr (.inl (pP_mem (pX_p u.1))))), (aT, .inr (2, [.ref aR, .int (pT_length (pX_t u.1))])), (aR, .inl (cJ, 192, .inr (.inl (pT_row (pX_t u.1))))), (aO, .inl (cJ, 1, .inr (.inl u.2)))]) (Wn := (fun v : NS => (wL aX aP aM aC aT aR aN aIs aKd aNu aSg aVl aTs aTc aO cJ cI cZ u.1 v u.2))) (q0 := 0) (ci := 4) (C := RX7) (c_X7_reckon l D aN aIs aKd aNu aSg aVl aTs aTc cJ cI cZ N x1 ((((x2 : Int32).toInt64) <<< ((32 : Int32).toInt64 &&& 63)) ||| (((x3 : Int32).toInt64) &&& 4294967295)) ((((x4 : Int32).toInt64) <<< ((32 : Int32).toInt64 &&& 63)) ||| (((x5 : Int32).toInt64) &&& 4294967295))) hfix (cwV 3 hts gL_law_X7_reckon rfl rfl rfl (by decide +kernel) ⟨Nat.le_of_ble_eq_true rfl, Nat.le_of_ble_eq_true rfl⟩) rfl hl.1 rfl (Nat.le_of_ble_eq_true rfl) ⟨by show cells + 1 ≤ 1055; omega, by show slots + 6 ≤ 10398; omega⟩ hP hK hD hS hA [6, 7, 8, 9, 10, 11, 12, 13] [0, 1, 2, 3, 4, 5, 14] [0, 1, 2, 3, 4, 5, 7, 8, 9, 10, 11, 12, 13, 14, 6] [0, 1, 2] rfl rfl rfl (by decide) (by decide) (by decide) (by decide) (fun _ => rfl) (fun _ => rfl) rfl rfl rfl rfl dL_law_1118 (fun r2 v H locs hw2 hP hD hS => ?_)
  have hJ := J2 (fun z : Int64 => z) (E_reckon hR x1 ((((x2 : Int32).toInt64) <<< ((32 : Int32).toInt64 &&& 63)) ||| (((x3 : Int32).toInt64) &&& 4294967295)) ((((x4 : Int32).toInt64) <<< ((32 : Int32).toInt64 &&& 63)) ||| (((x5 : Int32).toInt64) &&& 4294967295))).1 cd4_0 hw hw2
  have hP : va_P D vwCl (wL aX aP aM aC aT aR aN aIs aKd aNu aSg aVl aTs aTc aO cJ cI cZ u.1 v u.2) H := hP
  have hD : va_D A (wL aX aP aM aC aT aR aN aIs aKd aNu aSg aVl aTs aTc aO cJ cI cZ u.1 v u.2) := hD
  refine lv_lstore (lv' := [(6, .long r2), (5, .int r), (0, .ref b), (1, .ref aX), (2, .ref aN), (3, .ref aO), (4, .int (nI i))]) hx hb dL_law_1121 hl (by decide) rfl (fun ls hl => ?_)
  refine lv_aload_n hx hb dL_law_1123 rfl (lv_at hl 4 rfl) ?_
  refine q_callVi (As := []) (rest := []) (q0 := 0) (ci := 4) (C := RX7) (c_X7_thrown l D aN aIs aKd aNu aSg aVl aTs aTc cJ cI cZ v) hfix (cwV 0 hts gL_law_X7_thrown rfl rfl rfl (by decide +kernel) ⟨Nat.le_of_ble_eq_true rfl, Nat.le_of_ble_eq_true rfl⟩) rfl hl.1 rfl (Nat.le_of_ble_eq_true rfl) ⟨by show cells + 1 ≤ 1055; omega, by show slots + 6 ≤ 10398; omega⟩ hP hK hS hA [6, 7, 8, 9, 10, 11, 12, 13] [0, 1, 2] rfl rfl rfl rfl rfl dL_law_1124 (fun H locs hP hS => ?_)
  refine lv_iload hx hb dL_law_1127 (lv_at hl 1 rfl) ?_
  refine lv_icmp_eq (tgt := 1134) hx hb dL_law_1129 (by decide) (fun c1 => ?_) (fun c1 => absurd hJ.1 c1)
  refine lv_iload hx hb dL_law_1134 (lv_at hl 1 rfl) ?_
  refine lv_if_ne (tgt := 1150) hx hb dL_law_1136 (by decide) (fun c2 => ?_) (fun c2 => ?_)
  · refine lv_goto (tgt := 1153) hx hb dL_law_1150 (by decide) ?_
    refine W.widen (k := cells + 2) (n := slots + 12) (by omega) (by omega) ?_
    exact kk u.1 v u.2 _ _ _ hJ.2.2 hP hD hS (lv_sub hl [2, 3, 4, 5, 6] rfl)
  · refine lv_aload_n hx hb dL_law_1139 rfl (lv_at hl 5 rfl) ?_
    refine lv_iconst (v := 0) hx hb dL_law_1140 (by decide) ?_
    refine va_lald hx hb hK hP 14 0 rfl rfl (q_vi (by decide)) dL_law_1141 ?_
    refine lv_lload hx hb dL_law_1142 (lv_at hl 0 rfl) ?_
    refine q_eq (tgt := 1150) hx hb dL_law_1144 dL_law_1145 (by decide) (fun c3 => ?_) (fun c3 => absurd (hJ.2.1 c2) c3)
    refine lv_goto (tgt := 1153) hx hb dL_law_1150 (by decide) ?_
    refine W.widen (k := cells + 2) (n := slots + 12) (by omega) (by omega) ?_
    exact kk u.1 v u.2 _ _ _ hJ.2.2 hP hD hS (lv_sub hl [2, 3, 4, 5, 6] rfl)
