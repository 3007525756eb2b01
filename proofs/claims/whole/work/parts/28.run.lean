
theorem q_addlen {T : TS} {a b c : Int64} (h : 0 ≤ pT_length T) : 0 ≤ pT_length (f_X3_add T a b c) := by
  unfold f_X3_add
  by_cases h1 : f_X3_isFull T = 0
  · rw [if_pos h1]
    obtain ⟨k, hk, e⟩ := q_full h1 h
    show 0 ≤ pT_length T + 1
    rw [e, nI_1]
    exact nI_pos' (by omega)
  · rw [if_neg h1]; exact h

def f_X6_run_L23 (a0 : Int32) : Nat → Int32 → XS → Int32 × Int32 × XS
  | 0, _, _ => default
  | fu_23 + 1, v2_23, S_23 => (if a0 ≤ v2_23 then (0, a0, S_23) else (if (f_X3_isFull (pX_t S_23)) = 0 then (if (pX_latestFailure (sX_latestFailure (sX_p S_23 (f_X2_step (pX_p S_23)).2) (f_X2_step (pX_p S_23)).1)) = 0 then (f_X6_run_L23 a0 fu_23 (v2_23 + 1) (sX_t (sX_latestFailure (sX_p S_23 (f_X2_step (pX_p S_23)).2) (f_X2_step (pX_p S_23)).1) (f_X3_add (pX_t (sX_latestFailure (sX_p S_23 (f_X2_step (pX_p S_23)).2) (f_X2_step (pX_p S_23)).1)) (pP_pc (pX_p S_23)) (pP_ap (pX_p S_23)) (pP_fp (pX_p S_23))))) else (0, v2_23, (sX_latestFailure (sX_p S_23 (f_X2_step (pX_p S_23)).2) (f_X2_step (pX_p S_23)).1))) else (0, v2_23, S_23)))

def f_X6_run (S : XS) (a0 : Int32) : Int32 × Int32 × XS :=
  (if a0 < 1 then (1, 0, S) else (if a0 ≤ 100 then (f_X6_run_L23 a0 101 0 S) else (1, 0, S)))

set_option maxHeartbeats 4000000 in
set_option maxRecDepth 100000 in
theorem c_X6_run (l : Launch) (hlk : l.stackTraces = false) (D : va_G) (aX aP aM aC aT aR : Nat) (cJ : ClassId) (S : XS) (a0 : Int32) (h0 : 0 ≤ (pT_length (pX_t S))) : q_xI l yX6_run wsX6_run ({ frames := 7, cells := 1, slots := 6, locals := 169 }) D [(cJ, .long)] (wX aX aP aM aC aT aR cJ S) [.ref aX, .int a0] (fun r u => (f_X6_run S a0).1 = 0 ∧ r = (f_X6_run S a0).2.1 ∧ u = (f_X6_run S a0).2.2) (fun k u => ¬ (f_X6_run S a0).1 = 0 ∧ k = (f_X6_run S a0).1 ∧ u = (f_X6_run S a0).2.2) (fun u => (wX aX aP aM aC aT aR cJ u)) 1 6 := by
  refine fun sz => q_x_of (cc := cX6_run) (maxL := 9) (ret := (some .int)) (by decide) rfl (Nat.le_of_ble_eq_true rfl) ?_
  intro p e s m below meth c ls hx hb hr hml hown hts hlocks hout hsz hP hK hD hE hZ hl
  subst hsz
  generalize hAe : va_A (wX aX aP aM aC aT aR cJ S) s.heap.size = A at hD hZ ⊢
  have hA : ∀ q, s.heap.size ≤ q → A q := fun q h => by rw [← hAe]; exact Or.inr h
  have hS : va_S A s.heap s.heap [] := va_S.rf
  have hown : s.vm.findClass RX6 = some m.cls := hown
  have hl : lv_has ls 9 [(0, .ref aX), (1, .int a0)] := hl
  have hfix : CallFix p m c cX6_run 9 s [.ref aX, .int a0].toArray wsX6_run RX6 := ⟨hx, hb, hml, hown, hts⟩
  have hin1 : ∀ w ∈ wsX20, w ∈ wsX6_run := by decide +kernel
  have hin3 : ∀ w ∈ wsX60, w ∈ wsX6_run := by decide +kernel
  refine lv_iload_n hx hb dX6_run_0 rfl (lv_at hl 1 rfl) ?_
  refine lv_iconst (v := 1) hx hb dX6_run_1 (by decide) ?_
  refine lv_icmp_lt (tgt := 11) hx hb dX6_run_2 (by decide) (fun c1 => ?_) (fun c1 => ?_)
  · obtain ⟨sa, hsa⟩ := hE.1 (112, "n is not 1 .. 100") (by decide +kernel)
    exact q_throw (cls := "java/lang/IllegalArgumentException") (text := "n is not 1 .. 100") (names := ["java/lang/RuntimeException", "java/lang/Exception"]) (ik := 42) (is := 112) (ic := 46) 1 S hx hb hlk hown (by decide +kernel) (by decide +kernel) (hts (.classLink RX6 42 "java/lang/IllegalArgumentException") (by decide +kernel)) (hts (.initialized "java/lang/IllegalArgumentException") (by decide +kernel)) hsa (vx_hat (fun w h => hts w (List.mem_cons_of_mem _ (List.mem_append_right _ h))) q_bd46 (q_nw hE)) q_ok46 hZ hS (hl.1.trans hml.symm) dX6_run_11 dX6_run_14 dX6_run_15 dX6_run_17 dX6_run_20 hout (by decide) (by decide) (by decide) (by decide) hlocks hP hD (by decide) (q_x3 (by rw [f_X6_run, if_pos c1]) (by decide)) (by decide) (by decide)
  · refine lv_iload_n hx hb dX6_run_5 rfl (lv_at hl 1 rfl) ?_
    refine lv_bipush (v := 100) hx hb dX6_run_6 (by decide) ?_
    refine lv_icmp_le (tgt := 21) hx hb dX6_run_8 (by decide) (fun c2 => ?_) (fun c2 => ?_)
    · refine lv_iconst (v := 0) hx hb dX6_run_21 (by decide) ?_
      refine lv_istore_n (lv' := [(2, .int 0), (0, .ref aX), (1, .int a0)]) hx hb dX6_run_22 rfl hl (by decide) rfl (fun ls hl => ?_)
      have kL23 : ∀ (fu_23 : Nat) (v2_23 : Int32) (S_23 : XS) (H : Heap) (locs : List Loc) (ls : Array Slot), (a0.toInt - v2_23.toInt).toNat < fu_23 → 0 ≤ (pT_length (pX_t S_23)) → (f_X6_run S a0) = (f_X6_run_L23 a0 fu_23 v2_23 S_23) → va_P D vwCl (wX aX aP aM aC aT aR cJ S_23) H → va_D A (wX aX aP aM aC aT aR cJ S_23) → va_S A s.heap H locs → lv_has ls 9 [(0, .ref aX), (1, .int a0), (2, .int v2_23)] → W p l e ({ frames := 7, cells := 1, slots := 6, locals := 169 }) s m [.ref aX, .int a0].toArray below meth c H locs 0 0 (vx_MQ below (va_Qi (fun r u => (f_X6_run S a0).1 = 0 ∧ r = (f_X6_run S a0).2.1 ∧ u = (f_X6_run S a0).2.2) (fun u t => va_P D vwCl ((fun u => (wX aX aP aM aC aT aR cJ u)) u) t.heap ∧ va_D A ((fun u => (wX aX aP aM aC aT aR cJ u)) u)) A) (q_XX D A (fun k u => ¬ (f_X6_run S a0).1 = 0 ∧ k = (f_X6_run S a0).1 ∧ u = (f_X6_run S a0).2.2) (fun u => (wX aX aP aM aC aT aR cJ u))) [.ref aX, .int a0].toArray s 1 6 A) (F0 m 23 ls []) := by
        intro fu_23
        induction fu_23 with
        | zero => intro v2_23 S_23 H locs ls hmu; exact absurd hmu (Nat.not_lt_zero _)
        | succ fu_23 ih23 =>
          intro v2_23 S_23 H locs ls hmu23 hinv23 hL23 hP hD hS hl
          refine lv_iload_n hx hb dX6_run_23 rfl (lv_at hl 2 rfl) ?_
          refine lv_iload_n hx hb dX6_run_24 rfl (lv_at hl 1 rfl) ?_
          refine lv_icmp_ge (tgt := 104) hx hb dX6_run_25 (by decide) (fun c3 => ?_) (fun c3 => ?_)
          · refine lv_iload_n hx hb dX6_run_104 rfl (lv_at hl 1 rfl) ?_
            exact q_xri S_23 hx hb hr hlocks (by decide) (by decide) hP hD hS (q_p3 (by rw [hL23, f_X6_run_L23, if_pos c3])) dX6_run_105
          · refine lv_aload_n hx hb dX6_run_28 rfl (lv_at hl 0 rfl) ?_
            refine va_get (D := D) (ci := 3) (v := .ref aT) (C := RX6) (T := TX6) (N := 4) hx hb hts hin3 hown hK hP 0 rfl rfl 2 (by decide) (hts (.fieldLink RX6 28 "FieldTrace" "trace" "LFieldTrace$Trace;") (by decide +kernel)) (fun _ h9 => h9) rfl dX6_run_29 ?_
            refine q_callVi (As := []) (rest := []) (q0 := 0) (ci := 2) (C := RX3) (c_X3_isFull l D aT aR cJ (pX_t S_23)) hfix (cwV 0 hts gX6_run_X3_isFull rfl rfl rfl (by decide +kernel) ⟨Nat.le_of_ble_eq_true rfl, Nat.le_of_ble_eq_true rfl⟩) rfl hl.1 rfl (Nat.le_of_ble_eq_true rfl) ⟨by decide, by decide⟩ hP hK hS hA [4, 5] [0] rfl rfl rfl rfl rfl dX6_run_32 (fun H locs hP hS => ?_)
            refine lv_if_eq (tgt := 40) hx hb dX6_run_35 (by decide) (fun c4 => ?_) (fun c4 => ?_)
            · refine lv_aload_n hx hb dX6_run_40 rfl (lv_at hl 0 rfl) ?_
              refine va_get (D := D) (ci := 3) (v := .ref aP) (C := RX6) (T := TX6) (N := 4) hx hb hts hin3 hown hK hP 0 rfl rfl 1 (by decide) (hts (.fieldLink RX6 21 "FieldTrace" "processor" "LFieldTrace$Processor;") (by decide +kernel)) (fun _ h9 => h9) rfl dX6_run_41 ?_
              refine va_getN (D := D) (ci := 1) (v := .long (pP_pc (pX_p S_23))) (C := RX2) (T := TX2) (N := 13) (host := "FieldTrace") hx hb hts hin1 hown hK hP 1 rfl rfl 1 (by decide) (va_Nw.use rfl (hE.2 (.fieldLinkNest "FieldTrace" 118 "FieldTrace$Processor" "pc" "J" "FieldTrace") (by decide +kernel))) (fun _ h9 => h9) rfl dX6_run_44 ?_
              refine lv_lstore_n (lv' := [(3, .long (pP_pc (pX_p S_23))), (0, .ref aX), (1, .int a0), (2, .int v2_23)]) hx hb dX6_run_47 rfl hl (by decide) rfl (fun ls hl => ?_)
              refine lv_aload_n hx hb dX6_run_48 rfl (lv_at hl 1 rfl) ?_
              refine va_get (D := D) (ci := 3) (v := .ref aP) (C := RX6) (T := TX6) (N := 4) hx hb hts hin3 hown hK hP 0 rfl rfl 1 (by decide) (hts (.fieldLink RX6 21 "FieldTrace" "processor" "LFieldTrace$Processor;") (by decide +kernel)) (fun _ h9 => h9) rfl dX6_run_49 ?_
              refine va_getN (D := D) (ci := 1) (v := .long (pP_ap (pX_p S_23))) (C := RX2) (T := TX2) (N := 13) (host := "FieldTrace") hx hb hts hin1 hown hK hP 1 rfl rfl 2 (by decide) (va_Nw.use rfl (hE.2 (.fieldLinkNest "FieldTrace" 122 "FieldTrace$Processor" "ap" "J" "FieldTrace") (by decide +kernel))) (fun _ h9 => h9) rfl dX6_run_52 ?_
              refine lv_lstore (lv' := [(5, .long (pP_ap (pX_p S_23))), (3, .long (pP_pc (pX_p S_23))), (0, .ref aX), (1, .int a0), (2, .int v2_23)]) hx hb dX6_run_55 hl (by decide) rfl (fun ls hl => ?_)
              refine lv_aload_n hx hb dX6_run_57 rfl (lv_at hl 2 rfl) ?_
              refine va_get (D := D) (ci := 3) (v := .ref aP) (C := RX6) (T := TX6) (N := 4) hx hb hts hin3 hown hK hP 0 rfl rfl 1 (by decide) (hts (.fieldLink RX6 21 "FieldTrace" "processor" "LFieldTrace$Processor;") (by decide +kernel)) (fun _ h9 => h9) rfl dX6_run_58 ?_
              refine va_getN (D := D) (ci := 1) (v := .long (pP_fp (pX_p S_23))) (C := RX2) (T := TX2) (N := 13) (host := "FieldTrace") hx hb hts hin1 hown hK hP 1 rfl rfl 3 (by decide) (va_Nw.use rfl (hE.2 (.fieldLinkNest "FieldTrace" 125 "FieldTrace$Processor" "fp" "J" "FieldTrace") (by decide +kernel))) (fun _ h9 => h9) rfl dX6_run_61 ?_
              refine lv_lstore (lv' := [(7, .long (pP_fp (pX_p S_23))), (5, .long (pP_ap (pX_p S_23))), (3, .long (pP_pc (pX_p S_23))), (0, .ref aX), (1, .int a0), (2, .int v2_23)]) hx hb dX6_run_64 hl (by decide) rfl (fun ls hl => ?_)
              refine lv_aload_n hx hb dX6_run_66 rfl (lv_at hl 3 rfl) ?_
              refine lv_aload_n hx hb dX6_run_67 rfl (lv_at hl 3 rfl) ?_
              refine va_get (D := D) (ci := 3) (v := .ref aP) (C := RX6) (T := TX6) (N := 4) hx hb hts hin3 hown hK hP 0 rfl rfl 1 (by decide) (hts (.fieldLink RX6 21 "FieldTrace" "processor" "LFieldTrace$Processor;") (by decide +kernel)) (fun _ h9 => h9) rfl dX6_run_68 ?_
              obtain ⟨F71, hF71⟩ : ∃ F, F = (f_X2_step (pX_p S_23)) := ⟨_, rfl⟩
              have cF71 := c_X2_step l D aP aM aC cJ (pX_p S_23)
              rw [← hF71] at cF71
              refine q_callMi1 (As := []) (rest := [.ref aX]) (wr := [(aX, .inr (3, [.ref aM, .ref aP, .ref aT, .int (pX_latestFailure S_23)])), (aT, .inr (2, [.ref aR, .int (pT_length (pX_t S_23))])), (aR, .inl (cJ, 192, .inr (.inl (pT_row (pX_t S_23)))))]) (Wn := (fun u => (wX aX aP aM aC aT aR cJ (sX_p S_23 u)))) (q0 := 0) (ci := 1) (C := RX2) (cF71) hfix (cwV 0 hts gX6_run_X2_step rfl rfl rfl (by decide +kernel) ⟨Nat.le_of_ble_eq_true rfl, Nat.le_of_ble_eq_true rfl⟩) rfl hl.1 rfl (Nat.le_of_ble_eq_true rfl) ⟨by decide, by decide⟩ hP hK hD hS hA [1, 2, 3] [0, 4, 5] [0, 3, 4, 5, 1, 2] [0] rfl rfl rfl (by decide) (by decide) (by decide) (by decide) (fun _ => rfl) (fun _ => rfl) rfl rfl rfl rfl dX6_run_71 (fun H locs hP hD hS => ?_)
              have hP : va_P D vwCl (wX aX aP aM aC aT aR cJ (sX_p S_23 F71.2)) H := hP
              have hD : va_D A (wX aX aP aM aC aT aR cJ (sX_p S_23 F71.2)) := hD
              refine va_put (D := D) (ci := 3) (v := .int F71.1) (ty := .int) (C := RX6) (T := TX6) (N := 4) hx hb hts hin3 tyX6 tyX6_ok nmX6 hown hK hP hD hS 0 rfl rfl 3 (by decide) (hts (.fieldLink RX6 32 "FieldTrace" "latestFailure" "I") (by decide +kernel)) (fun _ h9 => h9) rfl (by decide +kernel) (rfl) (rfl) (Nat.le_of_ble_eq_true rfl) dX6_run_74 (fun H locs hP hD hS => ?_)
              have hP : va_P D vwCl (wX aX aP aM aC aT aR cJ (sX_latestFailure (sX_p S_23 F71.2) F71.1)) H := hP
              have hD : va_D A (wX aX aP aM aC aT aR cJ (sX_latestFailure (sX_p S_23 F71.2) F71.1)) := hD
              refine lv_aload_n hx hb dX6_run_77 rfl (lv_at hl 3 rfl) ?_
              refine va_get (D := D) (ci := 3) (v := .int (pX_latestFailure (sX_latestFailure (sX_p S_23 F71.2) F71.1))) (C := RX6) (T := TX6) (N := 4) hx hb hts hin3 hown hK hP 0 rfl rfl 3 (by decide) (hts (.fieldLink RX6 32 "FieldTrace" "latestFailure" "I") (by decide +kernel)) (fun _ h9 => h9) rfl dX6_run_78 ?_
              refine lv_if_eq (tgt := 86) hx hb dX6_run_81 (by decide) (fun c5 => ?_) (fun c5 => ?_)
              · refine lv_aload_n hx hb dX6_run_86 rfl (lv_at hl 3 rfl) ?_
                refine va_get (D := D) (ci := 3) (v := .ref aT) (C := RX6) (T := TX6) (N := 4) hx hb hts hin3 hown hK hP 0 rfl rfl 2 (by decide) (hts (.fieldLink RX6 28 "FieldTrace" "trace" "LFieldTrace$Trace;") (by decide +kernel)) (fun _ h9 => h9) rfl dX6_run_87 ?_
                refine lv_lload_n hx hb dX6_run_90 rfl (lv_at hl 2 rfl) ?_
                refine lv_lload hx hb dX6_run_91 (lv_at hl 1 rfl) ?_
                refine lv_lload hx hb dX6_run_93 (lv_at hl 0 rfl) ?_
                obtain ⟨F95, hF95⟩ : ∃ F, F = (f_X3_add (pX_t (sX_latestFailure (sX_p S_23 F71.2) F71.1)) (pP_pc (pX_p S_23)) (pP_ap (pX_p S_23)) (pP_fp (pX_p S_23))) := ⟨_, rfl⟩
                have cF95 := c_X3_add l D aT aR cJ (pX_t (sX_latestFailure (sX_p S_23 F71.2) F71.1)) (pP_pc (pX_p S_23)) (pP_ap (pX_p S_23)) (pP_fp (pX_p S_23)) (hinv23)
                rw [← hF95] at cF95
                refine q_callMv1 (As := [.long (pP_pc (pX_p S_23)), .long (pP_ap (pX_p S_23)), .long (pP_fp (pX_p S_23))]) (rest := []) (wr := [(aX, .inr (3, [.ref aM, .ref aP, .ref aT, .int (pX_latestFailure (sX_latestFailure (sX_p S_23 F71.2) F71.1))])), (aP, .inr (1, [.ref aM, .long (pP_pc (pX_p (sX_latestFailure (sX_p S_23 F71.2) F71.1))), .long (pP_ap (pX_p (sX_latestFailure (sX_p S_23 F71.2) F71.1))), .long (pP_fp (pX_p (sX_latestFailure (sX_p S_23 F71.2) F71.1))), .long (pP_newPc (pX_p (sX_latestFailure (sX_p S_23 F71.2) F71.1))), .long (pP_newAp (pX_p (sX_latestFailure (sX_p S_23 F71.2) F71.1))), .long (pP_newFp (pX_p (sX_latestFailure (sX_p S_23 F71.2) F71.1))), .long (pP_word (pX_p (sX_latestFailure (sX_p S_23 F71.2) F71.1))), .int (pP_flags (pX_p (sX_latestFailure (sX_p S_23 F71.2) F71.1))), .long (pP_dstPlace (pX_p (sX_latestFailure (sX_p S_23 F71.2) F71.1))), .long (pP_op0Place (pX_p (sX_latestFailure (sX_p S_23 F71.2) F71.1))), .long (pP_op1Place (pX_p (sX_latestFailure (sX_p S_23 F71.2) F71.1))), .long (pP_res (pX_p (sX_latestFailure (sX_p S_23 F71.2) F71.1)))])), (aM, .inr (0, [.ref aC])), (aC, .inl (cJ, 320, .inr (.inl (pP_mem (pX_p (sX_latestFailure (sX_p S_23 F71.2) F71.1))))))]) (Wn := (fun u => (wX aX aP aM aC aT aR cJ (sX_t (sX_latestFailure (sX_p S_23 F71.2) F71.1) u)))) (q0 := 0) (ci := 2) (C := RX3) (cF95) hfix (cwV 3 hts gX6_run_X3_add rfl rfl rfl (by decide +kernel) ⟨Nat.le_of_ble_eq_true rfl, Nat.le_of_ble_eq_true rfl⟩) rfl hl.1 rfl (Nat.le_of_ble_eq_true rfl) ⟨by decide, by decide⟩ hP hK hD hS hA [4, 5] [0, 1, 2, 3] [0, 1, 2, 3, 4, 5] [0] rfl rfl rfl (by decide) (by decide) (by decide) (by decide) (fun _ => rfl) (fun _ => rfl) rfl rfl rfl rfl dX6_run_95 (fun H locs hP hD hS => ?_)
                have hP : va_P D vwCl (wX aX aP aM aC aT aR cJ (sX_t (sX_latestFailure (sX_p S_23 F71.2) F71.1) F95)) H := hP
                have hD : va_D A (wX aX aP aM aC aT aR cJ (sX_t (sX_latestFailure (sX_p S_23 F71.2) F71.1) F95)) := hD
                refine lv_iinc (v := v2_23 + 1) (lv' := [(2, .int (v2_23 + 1)), (7, .long (pP_fp (pX_p S_23))), (5, .long (pP_ap (pX_p S_23))), (3, .long (pP_pc (pX_p S_23))), (0, .ref aX), (1, .int a0)]) hx hb dX6_run_98 hl (k := 5) rfl rfl (by decide) rfl (fun ls hl => ?_)
                refine lv_goto (tgt := 23) hx hb dX6_run_101 (by decide) ?_
                exact ih23 (v2_23 + 1) (sX_t (sX_latestFailure (sX_p S_23 F71.2) F71.1) F95) _ _ _ (q_dec rfl c3 hmu23) (by subst hF95; exact q_addlen hinv23) (by subst hF71; subst hF95; rw [hL23, f_X6_run_L23, if_neg c3, if_pos c4, if_pos c5]) hP hD hS (lv_sub hl [4, 5, 0] rfl)
              · refine lv_iload_n hx hb dX6_run_84 rfl (lv_at hl 5 rfl) ?_
                exact q_xri (sX_latestFailure (sX_p S_23 F71.2) F71.1) hx hb hr hlocks (by decide) (by decide) hP hD hS (q_p3 (by subst hF71; rw [hL23, f_X6_run_L23, if_neg c3, if_pos c4, if_neg c5])) dX6_run_85
            · refine lv_iload_n hx hb dX6_run_38 rfl (lv_at hl 2 rfl) ?_
              exact q_xri S_23 hx hb hr hlocks (by decide) (by decide) hP hD hS (q_p3 (by rw [hL23, f_X6_run_L23, if_neg c3, if_neg c4])) dX6_run_39
      exact kL23 101 0 S _ _ _ (q_fu100 c2) (h0) (by rw [f_X6_run, if_neg c1, if_pos c2]) hP hD hS (lv_sub hl [1, 2, 0] rfl)
    · obtain ⟨sa, hsa⟩ := hE.1 (112, "n is not 1 .. 100") (by decide +kernel)
      exact q_throw (cls := "java/lang/IllegalArgumentException") (text := "n is not 1 .. 100") (names := ["java/lang/RuntimeException", "java/lang/Exception"]) (ik := 42) (is := 112) (ic := 46) 1 S hx hb hlk hown (by decide +kernel) (by decide +kernel) (hts (.classLink RX6 42 "java/lang/IllegalArgumentException") (by decide +kernel)) (hts (.initialized "java/lang/IllegalArgumentException") (by decide +kernel)) hsa (vx_hat (fun w h => hts w (List.mem_cons_of_mem _ (List.mem_append_right _ h))) q_bd46 (q_nw hE)) q_ok46 hZ hS (hl.1.trans hml.symm) dX6_run_11 dX6_run_14 dX6_run_15 dX6_run_17 dX6_run_20 hout (by decide) (by decide) (by decide) (by decide) hlocks hP hD (by decide) (q_x3 (by rw [f_X6_run, if_neg c1, if_neg c2]) (by decide)) (by decide) (by decide)

