/-! what the Statement gives of the start -/
theorem k_nest : ∀ w ∈ q_nest, w ∈ lw_tbl := by decide +kernel
theorem k_E {b : Nat} {s : State} (htt : ∀ w ∈ lw_tbl, w.before #[Value.ref b] s = true) (hgv : (Jvm.Cond.and given_1 narrow_1).before #[Value.ref b] s = true) : q_E s := by
  have hs := flat_of_before _ hgv
  have one : ∀ (k : Nat) (tx : String), (Cond.stringRef RX6 k tx).before #[Value.ref b] s = true → (Cond.exactly (.string RX6 k) "java/lang/String").before #[Value.ref b] s = true → ∃ sa, vk_R RX6 k tx sa s := by
    intro k tx h1 h2
    obtain ⟨a, _, _, _, q1, -⟩ := Cond.exactly_spec h2
    exact ⟨a, vk_R.of h1 q1⟩
  refine ⟨fun q hq => ?_, fun w hw => va_Nw.of (q_nest_ot w hw) (htt w (k_nest w hw))⟩
  simp only [q_strs, List.mem_cons, List.not_mem_nil, or_false] at hq
  rcases hq with rfl | rfl | rfl | rfl | rfl | rfl | rfl | rfl | rfl | rfl | rfl | rfl | rfl | rfl | rfl | rfl
  · exact one 44 "an offset is not -512 .. 511" (htt _ (by decide +kernel)) (hs _ (by decide +kernel))
  · exact one 49 "the flags are not 0 .. 32767" (htt _ (by decide +kernel)) (hs _ (by decide +kernel))
  · exact one 55 "what is not 0 .. 4" (htt _ (by decide +kernel)) (hs _ (by decide +kernel))
  · exact one 63 "the word is no instruction, or a bad one" (htt _ (by decide +kernel)) (hs _ (by decide +kernel))
  · exact one 98 "target and at are no address" (htt _ (by decide +kernel)) (hs _ (by decide +kernel))
  · exact one 103 "a register is not 0 .. 63" (htt _ (by decide +kernel)) (hs _ (by decide +kernel))
  · exact one 112 "n is not 1 .. 100" (htt _ (by decide +kernel)) (hs _ (by decide +kernel))
  · exact one 158 "there is no such row" (htt _ (by decide +kernel)) (hs _ (by decide +kernel))
  · exact one 167 "the segment is not 1 .. 6" (htt _ (by decide +kernel)) (hs _ (by decide +kernel))
  · exact one 173 "there is no such address" (htt _ (by decide +kernel)) (hs _ (by decide +kernel))
  · exact one 179 "the operation is not 0 .. 3" (htt _ (by decide +kernel)) (hs _ (by decide +kernel))
  · exact one 183 "a division by 0" (htt _ (by decide +kernel)) (hs _ (by decide +kernel))
  · exact one 207 "the cell does not take the value" (htt _ (by decide +kernel)) (hs _ (by decide +kernel))
  · exact one 212 "the cell is not set" (htt _ (by decide +kernel)) (hs _ (by decide +kernel))
  · exact one 214 "there is no such segment or cell" (htt _ (by decide +kernel)) (hs _ (by decide +kernel))
  · exact one 216 "there is no such register" (htt _ (by decide +kernel)) (hs _ (by decide +kernel))
theorem k_Z {b : Nat} {s : State} {A : Nat → Prop} (htt : ∀ w ∈ lw_tbl, w.before #[Value.ref b] s = true) (hgv : (Jvm.Cond.and given_1 narrow_1).before #[Value.ref b] s = true) (hA : ∀ a : Nat, a < s.heap.size → ¬ A a) : q_Z A s s.heap := by
  have hs := flat_of_before _ hgv
  exact ⟨vx_Zqof (htt (.laysStatic Bundle.tN "UNASSIGNED_STACK" Bundle.steD) (by decide +kernel)) (htt (.initialized Bundle.tN) (by decide +kernel)) (hs (.isRef (.static Bundle.tN "UNASSIGNED_STACK" Bundle.steD)) (by decide +kernel)) hA, vx_Zqof (htt (.laysStatic Bundle.tN "SUPPRESSED_SENTINEL" Bundle.listD) (by decide +kernel)) (htt (.initialized Bundle.tN) (by decide +kernel)) (hs (.isRef (.static Bundle.tN "SUPPRESSED_SENTINEL" Bundle.listD)) (by decide +kernel)) hA⟩
theorem k_N3 {b : Nat} {s : State} (hgv : (Jvm.Cond.and given_1 narrow_1).before #[Value.ref b] s = true) : q_N3 s := by
  have hs := flat_of_before _ hgv
  exact ⟨va_Nc.of (hs (.not (.castable "java/lang/IllegalStateException" "java/lang/IllegalArgumentException")) (by decide +kernel)), va_Nc.of (hs (.not (.castable "java/util/NoSuchElementException" "java/lang/IllegalArgumentException")) (by decide +kernel)), va_Nc.of (hs (.not (.castable "java/lang/ArithmeticException" "java/lang/IllegalArgumentException")) (by decide +kernel))⟩
/-! the two new objects -/
theorem rx_new {S : XS} (h : q_X0 S) : RX S q_N0 := by
  obtain ⟨mm, tt, h1, h2, rfl⟩ := h
  have a0 : Ad q_N0 0 := ⟨Or.inr ⟨1, 1000, by decide, by decide, by decide, by decide +kernel, by decide +kernel⟩, by decide +kernel⟩
  have a1 : Ad q_N0 1 := ⟨Or.inr ⟨2, 1000, by decide, by decide, by decide, by decide +kernel, by decide +kernel⟩, by decide +kernel⟩
  have a2 : Ad q_N0 2 := ⟨Or.inr ⟨2, 1000, by decide, by decide, by decide, by decide +kernel, by decide +kernel⟩, by decide +kernel⟩
  refine ⟨⟨⟨fun s c x1 x2 x3 => Or.inl ⟨rfl, h1 _ (by omega)⟩, fun c _ _ z => absurd (show (0 : Int32) = 1 from z) (by decide), fun c _ z => absurd (show (0 : Int32) = 1 from z) (by decide)⟩, a0, a1, a2, ?_, ?_, ?_⟩, rfl, ⟨0, by decide, h2, rfl, fun i r hi => absurd hi (Nat.not_lt_zero _)⟩, ?_⟩
  · show f_X4_ofAddress 1 0 = enc (sg q_N0 0) (vl q_N0 0)
    decide +kernel
  · show f_X4_ofAddress 2 0 = enc (sg q_N0 1) (vl q_N0 1)
    decide +kernel
  · show f_X4_ofAddress 2 0 = enc (sg q_N0 2) (vl q_N0 2)
    decide +kernel
  · exact ⟨n_upd (n_upd (n_upd (fun _ => q_vi (by decide)) (q_vi (by decide))) (q_vi (by decide))) (q_vi (by decide)), fun _ => show vp_in (0 : Int32) 6 from q_vi (by decide), show vp_in (0 : Int32) 6 from q_vi (by decide), fun _ => show vp_in (0 : Int32) 6 from q_vi (by decide), rfl⟩
set_option maxHeartbeats 4000000 in
set_option maxRecDepth 100000 in
/-- the law's loop: at its head, with k calls made, the two objects stand in RX -/
theorem k_loop {p : Program} {l : Launch} {e : Env} {s : State} {m : MethodId} {below : List Frame} {meth : Method} {c : Code} {b L : Nat} {xs : Nat → Int32} {D : va_G} {A : Nat → Prop} {aX aP aM aC aT aR aN aIs aKd aNu aSg aVl aTs aTc aO : Nat} {cJ cI cZ : ClassId} (hlk : l.stackTraces = false) (hL : L ≤ 3072) (C0 : lw_At p s m meth c b L xs) (hA : ∀ q, s.heap.size ≤ q → A q) (hA2 : ∀ q, A q → s.heap.size ≤ q) (hbA : ¬ A b) (hE : q_E s) (hZ : q_Z A s s.heap) (hN3 : q_N3 s) (hK : va_K D vwCl [(cJ, .long), (cI, .int), (cZ, .boolean)] s) :
    ∀ (n k : Nat) (S : XS) (N : NS) (o : Nat → Int64) (H : Heap) (locs : List Loc) (ls : Array Slot), 6 * k ≤ L → L < 6 * (k + n) → RX S N → va_P D vwCl (wL aX aP aM aC aT aR aN aIs aKd aNu aSg aVl aTs aTc aO cJ cI cZ S N o) H → va_D A (wL aX aP aM aC aT aR aN aIs aKd aNu aSg aVl aTs aTc aO cJ cI cZ S N o) → va_S A s.heap H locs → lv_has ls 8 [(0, .ref b), (1, .ref aX), (2, .ref aN), (3, .ref aO), (4, .int (nI (6 * k)))] → W p l e room_1 s m #[Value.ref b] below meth c H locs (15 + 2 * k) (2110 + 12 * k) (lw_Z below #[Value.ref b] s) (F0 m 23 ls [])
  | 0, k, _, _, _, _, _, _, h1, h2, _, _, _, _, _ => absurd h2 (by omega)
  | n + 1, k, S, N, o, H, locs, ls, h1, h2, hR, hP, hD, hS, hl => by
    obtain ⟨hx, hb, hr, hml, hown, htt, hX, hbl, hlocks, hgv⟩ := id C0
    refine lv_iload hx hb dL_law_23 (lv_at hl 4 rfl) ?_
    refine lv_aload_n hx hb dL_law_25 rfl (lv_at hl 0 rfl) ?_
    refine va_slen hx hb hX hbl hbA hS dL_law_26 ?_
    refine lv_bipush (v := 6) hx hb dL_law_27 (by decide) ?_
    refine lv_isub hx hb dL_law_29 ?_
    have e6 : (Int32.ofNat L - 6).toInt = (L : Int) - 6 := pk_sub_toInt (a := L) (b := 6) (by omega) (by decide)
    refine lv_icmp_gt (tgt := 1159) hx hb dL_law_30 (by decide) (fun c1 => ?_) (fun c1 => ?_)
    · refine lv_iconst (v := 1) hx hb dL_law_1159 (by decide) ?_
      refine va_forget (fun q hq => hA2 _ (hS.2.2 q hq)) ?_
      refine W.widen (k := 1055) (n := 10398) (by omega) (by omega) ?_
      exact lw_ret hx hb hr hlocks dL_law_1160
    · have h6 : 6 * k + 6 ≤ L := by
        have z := q_nlt c1
        rw [e6, nI_toInt (by omega)] at z
        omega
      refine lv_aload_n hx hb dL_law_33 rfl (lv_at hl 0 rfl) ?_
      refine lv_iload hx hb dL_law_34 (lv_at hl 4 rfl) ?_
      refine va_sld hx hb hX hbl hbA hS (vp_in_nI (by omega) (by omega)) dL_law_36 ?_
      refine lv_bipush (v := 15) hx hb dL_law_37 (by decide) ?_
      refine lv_iand hx hb dL_law_39 ?_
      have v1 : vp_in (nI (6 * k) + 1) L := by rw [show (1 : Int32) = nI 1 from rfl, nI_add]; exact vp_in_nI (by omega) (by omega)
      have v2 : vp_in (nI (6 * k) + 2) L := by rw [show (2 : Int32) = nI 2 from rfl, nI_add]; exact vp_in_nI (by omega) (by omega)
      have v3 : vp_in (nI (6 * k) + 3) L := by rw [show (3 : Int32) = nI 3 from rfl, nI_add]; exact vp_in_nI (by omega) (by omega)
      have v4 : vp_in (nI (6 * k) + 4) L := by rw [show (4 : Int32) = nI 4 from rfl, nI_add]; exact vp_in_nI (by omega) (by omega)
      have v5 : vp_in (nI (6 * k) + 5) L := by rw [show (5 : Int32) = nI 5 from rfl, nI_add]; exact vp_in_nI (by omega) (by omega)
      have kk : ∀ (S : XS) (N : NS) (o : Nat → Int64) (H : Heap) (locs : List Loc) (ls : Array Slot), RX S N → va_P D vwCl (wL aX aP aM aC aT aR aN aIs aKd aNu aSg aVl aTs aTc aO cJ cI cZ S N o) H → va_D A (wL aX aP aM aC aT aR aN aIs aKd aNu aSg aVl aTs aTc aO cJ cI cZ S N o) → va_S A s.heap H locs → lv_has ls 8 [(0, .ref b), (1, .ref aX), (2, .ref aN), (3, .ref aO), (4, .int (nI (6 * k)))] → W p l e room_1 s m #[Value.ref b] below meth c H locs (15 + 2 * k + 2) (2110 + 12 * k + 12) (lw_Z below #[Value.ref b] s) (F0 m 1153 ls []) := by
        intro S N o H locs ls hR hP hD hS hl
        refine lv_iinc (v := nI (6 * (k + 1))) (lv' := [(4, .int (nI (6 * (k + 1)))), (0, .ref b), (1, .ref aX), (2, .ref aN), (3, .ref aO)]) hx hb dL_law_1153 hl (k := 4) rfl ?_ (by decide) rfl (fun ls hl => ?_)
        · first | exact (show nI (6 * k) + 6 = nI (6 * (k + 1)) by rw [show (6 : Int32) = nI 6 from rfl, nI_add]; rfl) | exact (show nI (6 * (k + 1)) = nI (6 * k) + 6 by rw [show (6 : Int32) = nI 6 from rfl, nI_add]; rfl)
        · refine lv_goto (tgt := 23) hx hb dL_law_1156 (by decide) ?_
          have z := k_loop (e := e) (below := below) hlk hL C0 hA hA2 hbA hE hZ hN3 hK n (k + 1) S N o H locs ls (by omega) (by omega) hR hP hD hS (lv_sub hl [1, 2, 3, 4, 0] rfl)
          rw [show 15 + 2 * (k + 1) = 15 + 2 * k + 2 by omega, show 2110 + 12 * (k + 1) = 2110 + 12 * k + 12 by omega] at z
          exact z
      generalize hT : xs (nI (6 * k)).toNatClampNeg &&& 15 = t
      by_cases c10 : t = 0
      · refine lv_tableIn (off := 76) (tgt := 116) hx hb dL_law_40 (by rw [c10]; decide) (by rw [c10]; decide) (by rw [c10]; rfl) (by decide) ?_
        exact k_case0 hlk C0 hA hbA hE hZ hN3 hK hR v1 rfl v2 rfl v3 rfl v4 rfl v5 rfl (by omega) (by omega) hP hD hS hl kk
      by_cases c11 : t = 1
      · refine lv_tableIn (off := 167) (tgt := 207) hx hb dL_law_40 (by rw [c11]; decide) (by rw [c11]; decide) (by rw [c11]; rfl) (by decide) ?_
        exact k_case1 hlk C0 hA hbA hE hZ hN3 hK hR v1 rfl v2 rfl v3 rfl v4 rfl v5 rfl (by omega) (by omega) hP hD hS hl kk
      by_cases c12 : t = 2
      · refine lv_tableIn (off := 267) (tgt := 307) hx hb dL_law_40 (by rw [c12]; decide) (by rw [c12]; decide) (by rw [c12]; rfl) (by decide) ?_
        exact k_case2 hlk C0 hA hbA hE hZ hN3 hK hR v1 rfl v2 rfl v3 rfl v4 rfl v5 rfl (by omega) (by omega) hP hD hS hl kk
      by_cases c13 : t = 3
      · refine lv_tableIn (off := 359) (tgt := 399) hx hb dL_law_40 (by rw [c13]; decide) (by rw [c13]; decide) (by rw [c13]; rfl) (by decide) ?_
        exact k_case3 hlk C0 hA hbA hE hZ hN3 hK hR v1 rfl v2 rfl v3 rfl v4 rfl v5 rfl (by omega) (by omega) hP hD hS hl kk
      by_cases c14 : t = 4
      · refine lv_tableIn (off := 431) (tgt := 471) hx hb dL_law_40 (by rw [c14]; decide) (by rw [c14]; decide) (by rw [c14]; rfl) (by decide) ?_
        exact k_case4 hlk C0 hA hbA hE hZ hN3 hK hR v1 rfl v2 rfl v3 rfl v4 rfl v5 rfl (by omega) (by omega) hP hD hS hl kk
      by_cases c15 : t = 5
      · refine lv_tableIn (off := 491) (tgt := 531) hx hb dL_law_40 (by rw [c15]; decide) (by rw [c15]; decide) (by rw [c15]; rfl) (by decide) ?_
        exact k_case5 hlk C0 hA hbA hE hZ hN3 hK hR v1 rfl v2 rfl v3 rfl v4 rfl v5 rfl (by omega) (by omega) hP hD hS hl kk
      by_cases c16 : t = 6
      · refine lv_tableIn (off := 547) (tgt := 587) hx hb dL_law_40 (by rw [c16]; decide) (by rw [c16]; decide) (by rw [c16]; rfl) (by decide) ?_
        exact k_case6 hlk C0 hA hbA hE hZ hN3 hK hR v1 rfl v2 rfl v3 rfl v4 rfl v5 rfl (by omega) (by omega) hP hD hS hl kk
      by_cases c17 : t = 7
      · refine lv_tableIn (off := 560) (tgt := 600) hx hb dL_law_40 (by rw [c17]; decide) (by rw [c17]; decide) (by rw [c17]; rfl) (by decide) ?_
        exact k_case7 hlk C0 hA hbA hE hZ hN3 hK hR v1 rfl v2 rfl v3 rfl v4 rfl v5 rfl (by omega) (by omega) hP hD hS hl kk
      by_cases c18 : t = 8
      · refine lv_tableIn (off := 644) (tgt := 684) hx hb dL_law_40 (by rw [c18]; decide) (by rw [c18]; decide) (by rw [c18]; rfl) (by decide) ?_
        exact k_case8 hlk C0 hA hbA hE hZ hN3 hK hR v1 rfl v2 rfl v3 rfl v4 rfl v5 rfl (by omega) (by omega) hP hD hS hl kk
      by_cases c19 : t = 9
      · refine lv_tableIn (off := 712) (tgt := 752) hx hb dL_law_40 (by rw [c19]; decide) (by rw [c19]; decide) (by rw [c19]; rfl) (by decide) ?_
        exact k_case9 hlk C0 hA hbA hE hZ hN3 hK hR v1 rfl v2 rfl v3 rfl v4 rfl v5 rfl (by omega) (by omega) hP hD hS hl kk
      by_cases c20 : t = 10
      · refine lv_tableIn (off := 779) (tgt := 819) hx hb dL_law_40 (by rw [c20]; decide) (by rw [c20]; decide) (by rw [c20]; rfl) (by decide) ?_
        exact k_case10 hlk C0 hA hbA hE hZ hN3 hK hR v1 rfl v2 rfl v3 rfl v4 rfl v5 rfl (by omega) (by omega) hP hD hS hl kk
      by_cases c21 : t = 11
      · refine lv_tableIn (off := 792) (tgt := 832) hx hb dL_law_40 (by rw [c21]; decide) (by rw [c21]; decide) (by rw [c21]; rfl) (by decide) ?_
        exact k_case11 hlk C0 hA hbA hE hZ hN3 hK hR v1 rfl v2 rfl v3 rfl v4 rfl v5 rfl (by omega) (by omega) hP hD hS hl kk
      by_cases c22 : t = 12
      · refine lv_tableIn (off := 859) (tgt := 899) hx hb dL_law_40 (by rw [c22]; decide) (by rw [c22]; decide) (by rw [c22]; rfl) (by decide) ?_
        exact k_case12 hlk C0 hA hbA hE hZ hN3 hK hR v1 rfl v2 rfl v3 rfl v4 rfl v5 rfl (by omega) (by omega) hP hD hS hl kk
      by_cases c23 : t = 13
      · refine lv_tableIn (off := 915) (tgt := 955) hx hb dL_law_40 (by rw [c23]; decide) (by rw [c23]; decide) (by rw [c23]; rfl) (by decide) ?_
        exact k_case13 hlk C0 hA hbA hE hZ hN3 hK hR v1 rfl v2 rfl v3 rfl v4 rfl v5 rfl (by omega) (by omega) hP hD hS hl kk
      by_cases c24 : t = 14
      · refine lv_tableIn (off := 970) (tgt := 1010) hx hb dL_law_40 (by rw [c24]; decide) (by rw [c24]; decide) (by rw [c24]; rfl) (by decide) ?_
        exact k_case14 hlk C0 hA hbA hE hZ hN3 hK hR v1 rfl v2 rfl v3 rfl v4 rfl v5 rfl (by omega) (by omega) hP hD hS hl kk
      refine lv_tableOut (tgt := 1153) hx hb dL_law_40 (by have z0 := lv_neT c10 (a := 0) rfl; have z1 := lv_neT c11 (a := 1) rfl; have z2 := lv_neT c12 (a := 2) rfl; have z3 := lv_neT c13 (a := 3) rfl; have z4 := lv_neT c14 (a := 4) rfl; have z5 := lv_neT c15 (a := 5) rfl; have z6 := lv_neT c16 (a := 6) rfl; have z7 := lv_neT c17 (a := 7) rfl; have z8 := lv_neT c18 (a := 8) rfl; have z9 := lv_neT c19 (a := 9) rfl; have z10 := lv_neT c20 (a := 10) rfl; have z11 := lv_neT c21 (a := 11) rfl; have z12 := lv_neT c22 (a := 12) rfl; have z13 := lv_neT c23 (a := 13) rfl; have z14 := lv_neT c24 (a := 14) rfl; omega) (by decide) ?_
      refine W.widen (k := 15 + 2 * k + 2) (n := 2110 + 12 * k + 12) (by omega) (by omega) ?_
      exact kk S N o H locs ls hR hP hD hS hl
set_option maxHeartbeats 4000000 in
set_option maxRecDepth 100000 in
theorem whole_start {p : Program} {e : Env} {s : State} {m : MethodId} {below : List Frame} {meth : Method} {c : Code} (l : Launch) (hlk : l.stackTraces = false) {b L : Nat} {xs : Nat → Int32} (hL : L ≤ 3072) (C0 : lw_At p s m meth c b L xs) : W p l e room_1 s m #[Value.ref b] below meth c s.heap [] 0 0 (lw_Z below #[Value.ref b] s) (entryFrame m ([Value.ref b] : List Value).toArray 8) := by
  obtain ⟨hx, hb, hr, hml, hown, htt, hX, hbl, hlocks, hgv⟩ := id C0
  have hown : s.vm.findClass RL = some m.cls := hown
  have hts : ∀ w ∈ wsL_law, w.before #[Value.ref b] s = true := fun w h => htt w (wsL_law_in w h)
  have hfix : CallFix p m c cL_law 8 s #[Value.ref b] wsL_law RL := ⟨hx, hb, hml, hown, hts⟩
  obtain ⟨A, hAe⟩ : ∃ A : Nat → Prop, A = fun q : Nat => s.heap.size ≤ q := ⟨_, rfl⟩
  have hA : ∀ q, s.heap.size ≤ q → A q := fun q h => by rw [hAe]; exact h
  have hA2 : ∀ q, A q → s.heap.size ≤ q := fun q h => by rw [hAe] at h; exact h
  have hbA : ¬ A b := fun h => absurd (hA2 b h) (Nat.not_le.mpr hbl)
  have hE : q_E s := k_E htt hgv
  have hZ : q_Z A s s.heap := k_Z htt hgv (fun a h z => absurd (hA2 a z) (Nat.not_le.mpr h))
  have hN3 : q_N3 s := k_N3 hgv
  obtain ⟨c0, iS0, hKn0⟩ := u_known (C := RX1) (T := TX1) (N := 1) (n := 1) htt lwx_1 (htt (.instantiable RX1 1) (by decide +kernel))
  obtain ⟨c1, iS1, hKn1⟩ := u_known (C := RX2) (T := TX2) (N := 13) (n := 13) htt lwx_2 (htt (.instantiable RX2 13) (by decide +kernel))
  obtain ⟨c2, iS2, hKn2⟩ := u_known (C := RX3) (T := TX3) (N := 2) (n := 2) htt lwx_3 (htt (.instantiable RX3 2) (by decide +kernel))
  obtain ⟨c3, iS3, hKn3⟩ := u_known (C := RX6) (T := TX6) (N := 4) (n := 4) htt lwx_6 (htt (.instantiable RX6 4) (by decide +kernel))
  obtain ⟨c4, iS4, hKn4⟩ := u_known (C := RX7) (T := TX7) (N := 15) (n := 15) htt lwx_7 (htt (.instantiable RX7 15) (by decide +kernel))
  obtain ⟨D, hKc⟩ : ∃ D : va_G, ∀ (k : Nat) (q : vw_C), vwCl[k]? = some q → u_Kn s q.1 q.2.1 q.2.2 (D.1 k) (D.2 k) := by
    refine ⟨(fun k => if k = 0 then c0 else if k = 1 then c1 else if k = 2 then c2 else if k = 3 then c3 else c4, fun k => if k = 0 then iS0 else if k = 1 then iS1 else if k = 2 then iS2 else if k = 3 then iS3 else iS4), ?_⟩
    intro k q hq
    match k, hq with
    | 0, hq => cases hq; exact hKn0
    | 1, hq => cases hq; exact hKn1
    | 2, hq => cases hq; exact hKn2
    | 3, hq => cases hq; exact hKn3
    | 4, hq => cases hq; exact hKn4
    | k + 5, hq => simp [vwCl] at hq
  have hS : va_S A s.heap s.heap [] := va_S.rf
  have hK : va_K D vwCl [] s := ⟨hKc, fun k q h => by simp at h⟩
  have hP : va_P D vwCl [] s.heap := fun k q h => by simp at h
  have hD : va_D A [] := ⟨fun i j p q h => by simp at h, fun k q h => by simp at h⟩
  have hl := lv_entry ([.ref b]) (n := 8) (Nat.le_of_ble_eq_true rfl)
  rw [lg_entry_eq]
  generalize (lg_sl ([.ref b]) ++ List.replicate (8 - (lg_sl ([.ref b])).length) Slot.unset).toArray = ls at hl ⊢
  have hl : lv_has ls 8 [(0, .ref b)] := hl
  refine va_new (ci := 3) (fs := [.null, .null, .null, .int 0]) (C := RX6) (T := TX6) (N := 4) hx hb htt lwx_6 tyX6 tyX6_ok hown (hts (.classLink RL 8 RX6) (by decide +kernel)) (hts (.instantiable RX6 4) (by decide +kernel)) (hts (.initialized RX6) (by decide +kernel)) hK hP hD hS hA rfl (fun j hj => by rcases (show j = 0 ∨ j = 1 ∨ j = 2 ∨ j = 3 by omega) with rfl | rfl | rfl | rfl <;> rfl) (Nat.le_of_ble_eq_true rfl) (Nat.le_of_ble_eq_true rfl) dL_law_0 (fun aX H hP hD hS => ?_)
  have hP : va_P D vwCl [(aX, .inr (3, [.null, .null, .null, .int 0]))] H := hP
  have hD : va_D A [(aX, .inr (3, [.null, .null, .null, .int 0]))] := hD
  refine W.widen (k := 1) (n := 4) (by decide) (by decide) ?_
  refine lv_dup hx hb dL_law_3 rfl ?_
  refine q_callI (As := []) (rest := [.ref aX]) (wr := []) (Wn := fun (u : (Nat × Nat × Nat × Nat × Nat) × ClassId × XS) => wX aX u.1.1 u.1.2.1 u.1.2.2.1 u.1.2.2.2.1 u.1.2.2.2.2 u.2.1 u.2.2) (Kf := fun (u : (Nat × Nat × Nat × Nat × Nat) × ClassId × XS) => [(u.2.1, .long)]) (c_X6_init l D aX) hfix (cwI 0 hts gL_law_X6_init rfl rfl rfl (hts (.initialized RX6) (by decide +kernel)) (hts (.methodLink RL 67 yX6_init) (by decide +kernel)) (hts (.instanceMethod yX6_init) (by decide +kernel)) rfl (by decide +kernel) ⟨Nat.le_of_ble_eq_true rfl, Nat.le_of_ble_eq_true rfl⟩) rfl hl.1 rfl (Nat.le_of_ble_eq_true rfl) ⟨Nat.le_of_ble_eq_true rfl, Nat.le_of_ble_eq_true rfl⟩ hP hK hD hS hA [0] [] [0, 1, 2, 3, 4, 5] [] rfl rfl rfl (by decide) (by decide) (by decide) (by decide) (fun _ => rfl) (fun _ => rfl) rfl dL_law_4 (fun u H locs hq hK hP hD hS => ?_)
  obtain ⟨⟨aP, aM, aC, aT, aR⟩, cJ, S⟩ := u
  have hR : RX S q_N0 := rx_new hq
  have hP : va_P D vwCl (wX aX aP aM aC aT aR cJ S) H := hP
  have hD : va_D A (wX aX aP aM aC aT aR cJ S) := hD
  have hK : va_K D vwCl [(cJ, .long)] s := hK
  refine W.widen (k := 6) (n := 532) (by decide) (by decide) ?_
  refine lv_astore_n (lv' := [(1, .ref aX), (0, .ref b)]) hx hb dL_law_7 rfl hl (by decide) rfl (fun ls hl => ?_)
  refine va_new (ci := 4) (fs := [.int 0, .null, .null, .null, .null, .null, .int 0, .int 0, .long 0, .int 0, .int 0, .long 0, .int 0, .null, .null]) (C := RX7) (T := TX7) (N := 15) hx hb htt lwx_7 tyX7 tyX7_ok hown (hts (.classLink RL 68 RX7) (by decide +kernel)) (hts (.instantiable RX7 15) (by decide +kernel)) (hts (.initialized RX7) (by decide +kernel)) hK hP hD hS hA rfl (fun j hj => by rcases (show j = 0 ∨ j = 1 ∨ j = 2 ∨ j = 3 ∨ j = 4 ∨ j = 5 ∨ j = 6 ∨ j = 7 ∨ j = 8 ∨ j = 9 ∨ j = 10 ∨ j = 11 ∨ j = 12 ∨ j = 13 ∨ j = 14 by omega) with rfl | rfl | rfl | rfl | rfl | rfl | rfl | rfl | rfl | rfl | rfl | rfl | rfl | rfl | rfl <;> rfl) (Nat.le_of_ble_eq_true rfl) (Nat.le_of_ble_eq_true rfl) dL_law_8 (fun aN H hP hD hS => ?_)
  have hP : va_P D vwCl [(aX, .inr (3, [.ref aM, .ref aP, .ref aT, .int (pX_latestFailure S)])), (aP, .inr (1, [.ref aM, .long (pP_pc (pX_p S)), .long (pP_ap (pX_p S)), .long (pP_fp (pX_p S)), .long (pP_newPc (pX_p S)), .long (pP_newAp (pX_p S)), .long (pP_newFp (pX_p S)), .long (pP_word (pX_p S)), .int (pP_flags (pX_p S)), .long (pP_dstPlace (pX_p S)), .long (pP_op0Place (pX_p S)), .long (pP_op1Place (pX_p S)), .long (pP_res (pX_p S))])), (aM, .inr (0, [.ref aC])), (aC, .inl (cJ, 320, .inr (.inl (pP_mem (pX_p S))))), (aT, .inr (2, [.ref aR, .int (pT_length (pX_t S))])), (aR, .inl (cJ, 192, .inr (.inl (pT_row (pX_t S))))), (aN, .inr (4, [.int 0, .null, .null, .null, .null, .null, .int 0, .int 0, .long 0, .int 0, .int 0, .long 0, .int 0, .null, .null]))] H := hP
  have hD : va_D A [(aX, .inr (3, [.ref aM, .ref aP, .ref aT, .int (pX_latestFailure S)])), (aP, .inr (1, [.ref aM, .long (pP_pc (pX_p S)), .long (pP_ap (pX_p S)), .long (pP_fp (pX_p S)), .long (pP_newPc (pX_p S)), .long (pP_newAp (pX_p S)), .long (pP_newFp (pX_p S)), .long (pP_word (pX_p S)), .int (pP_flags (pX_p S)), .long (pP_dstPlace (pX_p S)), .long (pP_op0Place (pX_p S)), .long (pP_op1Place (pX_p S)), .long (pP_res (pX_p S))])), (aM, .inr (0, [.ref aC])), (aC, .inl (cJ, 320, .inr (.inl (pP_mem (pX_p S))))), (aT, .inr (2, [.ref aR, .int (pT_length (pX_t S))])), (aR, .inl (cJ, 192, .inr (.inl (pT_row (pX_t S))))), (aN, .inr (4, [.int 0, .null, .null, .null, .null, .null, .int 0, .int 0, .long 0, .int 0, .int 0, .long 0, .int 0, .null, .null]))] := hD
  refine W.widen (k := 7) (n := 547) (by decide) (by decide) ?_
  refine lv_dup hx hb dL_law_11 rfl ?_
  refine q_callI (As := []) (rest := [.ref aN]) (wr := [(aX, .inr (3, [.ref aM, .ref aP, .ref aT, .int (pX_latestFailure S)])), (aP, .inr (1, [.ref aM, .long (pP_pc (pX_p S)), .long (pP_ap (pX_p S)), .long (pP_fp (pX_p S)), .long (pP_newPc (pX_p S)), .long (pP_newAp (pX_p S)), .long (pP_newFp (pX_p S)), .long (pP_word (pX_p S)), .int (pP_flags (pX_p S)), .long (pP_dstPlace (pX_p S)), .long (pP_op0Place (pX_p S)), .long (pP_op1Place (pX_p S)), .long (pP_res (pX_p S))])), (aM, .inr (0, [.ref aC])), (aC, .inl (cJ, 320, .inr (.inl (pP_mem (pX_p S))))), (aT, .inr (2, [.ref aR, .int (pT_length (pX_t S))])), (aR, .inl (cJ, 192, .inr (.inl (pT_row (pX_t S)))))]) (Wn := fun (u : (Nat × Nat × Nat × Nat × Nat × Nat × Nat) × ClassId × ClassId × ClassId) => wX aX aP aM aC aT aR cJ S ++ wN aN u.1.1 u.1.2.1 u.1.2.2.1 u.1.2.2.2.1 u.1.2.2.2.2.1 u.1.2.2.2.2.2.1 u.1.2.2.2.2.2.2 u.2.1 u.2.2.1 u.2.2.2 q_N0) (Kf := fun (u : (Nat × Nat × Nat × Nat × Nat × Nat × Nat) × ClassId × ClassId × ClassId) => [(u.2.1, .long), (u.2.2.1, .int), (u.2.2.2, .boolean)]) (c_X7_init l D aN) hfix (cwI 0 hts gL_law_X7_init rfl rfl rfl (hts (.initialized RX7) (by decide +kernel)) (hts (.methodLink RL 70 yX7_init) (by decide +kernel)) (hts (.instanceMethod yX7_init) (by decide +kernel)) rfl (by decide +kernel) ⟨Nat.le_of_ble_eq_true rfl, Nat.le_of_ble_eq_true rfl⟩) rfl hl.1 rfl (Nat.le_of_ble_eq_true rfl) ⟨Nat.le_of_ble_eq_true rfl, Nat.le_of_ble_eq_true rfl⟩ hP hK hD hS hA [6] [0, 1, 2, 3, 4, 5] [0, 1, 2, 3, 4, 5, 6, 7, 8, 9, 10, 11, 12, 13] [] rfl rfl rfl (by decide) (by decide) (by decide) (by decide) (fun _ => rfl) (fun _ => rfl) rfl dL_law_12 (fun u H locs _ hK hP hD hS => ?_)
  obtain ⟨⟨aIs, aKd, aNu, aSg, aVl, aTs, aTc⟩, cJ2, cI, cZ⟩ := u
  generalize q_N0 = N at hR hP hD
  have hK : va_K D vwCl [(cJ, .long), (cJ2, .long), (cI, .int), (cZ, .boolean)] s := hK
  have eJ : cJ = cJ2 := by
    have g1 : s.vm.findClass ("[" ++ (FieldType.long).toString) = some cJ := (hK.2 0 (cJ, .long) rfl).2
    have g2 : s.vm.findClass ("[" ++ (FieldType.long).toString) = some cJ2 := (hK.2 1 (cJ2, .long) rfl).2
    exact Option.some.inj (g1.symm.trans g2)
  subst eJ
  have hK := hK.sub (tys' := [(cJ, .long), (cI, .int), (cZ, .boolean)]) [0, 2, 3] rfl
  have hP : va_P D vwCl [(aX, .inr (3, [.ref aM, .ref aP, .ref aT, .int (pX_latestFailure S)])), (aP, .inr (1, [.ref aM, .long (pP_pc (pX_p S)), .long (pP_ap (pX_p S)), .long (pP_fp (pX_p S)), .long (pP_newPc (pX_p S)), .long (pP_newAp (pX_p S)), .long (pP_newFp (pX_p S)), .long (pP_word (pX_p S)), .int (pP_flags (pX_p S)), .long (pP_dstPlace (pX_p S)), .long (pP_op0Place (pX_p S)), .long (pP_op1Place (pX_p S)), .long (pP_res (pX_p S))])), (aM, .inr (0, [.ref aC])), (aC, .inl (cJ, 320, .inr (.inl (pP_mem (pX_p S))))), (aT, .inr (2, [.ref aR, .int (pT_length (pX_t S))])), (aR, .inl (cJ, 192, .inr (.inl (pT_row (pX_t S))))), (aN, .inr (4, [.int (pN_thrown N), .ref aIs, .ref aKd, .ref aNu, .ref aSg, .ref aVl, .int (pN_there N), .int (pN_gotKind N), .long (pN_got N), .int (pN_trouble N), .int (pN_failure N), .long (pN_word N), .int (pN_rows N), .ref aTs, .ref aTc])), (aIs, .inl (cZ, 384, .inl (pN_isSet N))), (aKd, .inl (cI, 384, .inl (pN_kind N))), (aNu, .inl (cJ, 384, .inr (.inl (pN_number N)))), (aSg, .inl (cI, 13, .inl (pN_segment N))), (aVl, .inl (cJ, 13, .inr (.inl (pN_value N)))), (aTs, .inl (cI, 192, .inl (pN_traceSegment N))), (aTc, .inl (cJ, 192, .inr (.inl (pN_traceCell N))))] H := hP
  have hD : va_D A [(aX, .inr (3, [.ref aM, .ref aP, .ref aT, .int (pX_latestFailure S)])), (aP, .inr (1, [.ref aM, .long (pP_pc (pX_p S)), .long (pP_ap (pX_p S)), .long (pP_fp (pX_p S)), .long (pP_newPc (pX_p S)), .long (pP_newAp (pX_p S)), .long (pP_newFp (pX_p S)), .long (pP_word (pX_p S)), .int (pP_flags (pX_p S)), .long (pP_dstPlace (pX_p S)), .long (pP_op0Place (pX_p S)), .long (pP_op1Place (pX_p S)), .long (pP_res (pX_p S))])), (aM, .inr (0, [.ref aC])), (aC, .inl (cJ, 320, .inr (.inl (pP_mem (pX_p S))))), (aT, .inr (2, [.ref aR, .int (pT_length (pX_t S))])), (aR, .inl (cJ, 192, .inr (.inl (pT_row (pX_t S))))), (aN, .inr (4, [.int (pN_thrown N), .ref aIs, .ref aKd, .ref aNu, .ref aSg, .ref aVl, .int (pN_there N), .int (pN_gotKind N), .long (pN_got N), .int (pN_trouble N), .int (pN_failure N), .long (pN_word N), .int (pN_rows N), .ref aTs, .ref aTc])), (aIs, .inl (cZ, 384, .inl (pN_isSet N))), (aKd, .inl (cI, 384, .inl (pN_kind N))), (aNu, .inl (cJ, 384, .inr (.inl (pN_number N)))), (aSg, .inl (cI, 13, .inl (pN_segment N))), (aVl, .inl (cJ, 13, .inr (.inl (pN_value N)))), (aTs, .inl (cI, 192, .inl (pN_traceSegment N))), (aTc, .inl (cJ, 192, .inr (.inl (pN_traceCell N))))] := hD
  refine W.widen (k := 14) (n := 2109) (by decide) (by decide) ?_
  refine lv_astore_n (lv' := [(2, .ref aN), (1, .ref aX), (0, .ref b)]) hx hb dL_law_15 rfl hl (by decide) rfl (fun ls hl => ?_)
  refine lv_iconst (v := 1) hx hb dL_law_16 (by decide) ?_
  refine va_newa (atype := .long) (ty := .long) (a0 := (1, .inr (.inl (fun _ => 0)))) (N' := 1) hx hb (hts (.arrayClass .long) (by decide +kernel)) rfl hK hP hD hS hA (fun cA => rfl) (by decide) (by decide) (by decide) (Nat.le_of_ble_eq_true rfl) (Nat.le_of_ble_eq_true rfl) dL_law_17 (fun aO cJ3 H hK hP hD hS => ?_)
  have hK : va_K D vwCl [(cJ, .long), (cI, .int), (cZ, .boolean), (cJ3, .long)] s := hK
  have eJ : cJ3 = cJ := by
    have g1 : s.vm.findClass ("[" ++ (FieldType.long).toString) = some cJ := (hK.2 0 (cJ, .long) rfl).2
    have g2 : s.vm.findClass ("[" ++ (FieldType.long).toString) = some cJ3 := (hK.2 3 (cJ3, .long) rfl).2
    exact Option.some.inj (g2.symm.trans g1)
  subst eJ
  have hK := hK.sub (tys' := [(cJ3, .long), (cI, .int), (cZ, .boolean)]) [0, 1, 2] rfl
  have hP : va_P D vwCl (wL aX aP aM aC aT aR aN aIs aKd aNu aSg aVl aTs aTc aO cJ3 cI cZ S N (fun _ => 0)) H := hP
  have hD : va_D A (wL aX aP aM aC aT aR aN aIs aKd aNu aSg aVl aTs aTc aO cJ3 cI cZ S N (fun _ => 0)) := hD
  refine W.widen (k := 15) (n := 2110) (by decide) (by decide) ?_
  refine lv_astore_n (lv' := [(3, .ref aO), (2, .ref aN), (1, .ref aX), (0, .ref b)]) hx hb dL_law_19 rfl hl (by decide) rfl (fun ls hl => ?_)
  refine lv_iconst (v := 0) hx hb dL_law_20 (by decide) ?_
  refine lv_istore (lv' := [(4, .int 0), (3, .ref aO), (2, .ref aN), (1, .ref aX), (0, .ref b)]) hx hb dL_law_21 hl (by decide) rfl (fun ls hl => ?_)
  exact k_loop hlk hL C0 hA hA2 hbA hE hZ hN3 hK (L + 1) 0 S N (fun _ => 0) H _ ls (by omega) (by omega) hR hP hD hS (lv_sub hl [4, 3, 2, 1, 0] rfl)
