def f_X6_failure (S : XS) : Int32 × Int32 × XS :=
  (0, (pX_latestFailure S), S)

set_option maxHeartbeats 4000000 in
set_option maxRecDepth 100000 in
theorem c_X6_failure (l : Launch) (hlk : l.stackTraces = false) (D : va_G) (aX aP aM aC aT aR : Nat) (cJ : ClassId) (S : XS) : q_xI l yX6_failure wsX6_failure ({ frames := 0, cells := 0, slots := 0, locals := 0 }) D [(cJ, .long)] (wX aX aP aM aC aT aR cJ S) [.ref aX] (fun r u => (f_X6_failure S).1 = 0 ∧ r = (f_X6_failure S).2.1 ∧ u = (f_X6_failure S).2.2) (fun k u => ¬ (f_X6_failure S).1 = 0 ∧ k = (f_X6_failure S).1 ∧ u = (f_X6_failure S).2.2) (fun u => (wX aX aP aM aC aT aR cJ u)) 0 0 := by
  refine fun sz => q_x_of (cc := cX6_failure) (maxL := 1) (ret := (some .int)) (by decide) rfl (Nat.le_of_ble_eq_true rfl) ?_
  intro p e s m below meth c ls hx hb hr hml hown hts hlocks hout hsz hP hK hD hE hZ hl
  subst hsz
  generalize hAe : va_A (wX aX aP aM aC aT aR cJ S) s.heap.size = A at hD hZ ⊢
  have hA : ∀ q, s.heap.size ≤ q → A q := fun q h => by rw [← hAe]; exact Or.inr h
  have hS : va_S A s.heap s.heap [] := va_S.rf
  have hown : s.vm.findClass RX6 = some m.cls := hown
  have hl : lv_has ls 1 [(0, .ref aX)] := hl
  have hin3 : ∀ w ∈ wsX60, w ∈ wsX6_failure := by decide +kernel
  refine lv_aload_n hx hb dX6_failure_0 rfl (lv_at hl 0 rfl) ?_
  refine va_get (D := D) (ci := 3) (v := .int (pX_latestFailure S)) (C := RX6) (T := TX6) (N := 4) hx hb hts hin3 hown hK hP 0 rfl rfl 3 (by decide) (hts (.fieldLink RX6 32 "FieldTrace" "latestFailure" "I") (by decide +kernel)) (fun _ h9 => h9) rfl dX6_failure_1 ?_
  exact q_xri S hx hb hr hlocks (by decide) (by decide) hP hD hS (q_p3 (by rw [f_X6_failure])) dX6_failure_4

def f_X6_register_J40 (S : XS) (a1 : Int32) (t0_40 : Int64) : Int32 × Int32 × XS :=
  (if a1 = 0 then (0, (f_X4_segmentOf t0_40), S) else (0, (f_X4_cellOf t0_40), S))

def f_X6_register (S : XS) (a0 : Int32) (a1 : Int32) : Int32 × Int32 × XS :=
  (if (f_X6_requireRegister a0) = 0 then (if a0 = 0 then (f_X6_register_J40 S a1 (pP_pc (pX_p S))) else (if a0 = 1 then (f_X6_register_J40 S a1 (pP_ap (pX_p S))) else (f_X6_register_J40 S a1 (pP_fp (pX_p S))))) else ((f_X6_requireRegister a0), 0, S))

set_option maxHeartbeats 4000000 in
set_option maxRecDepth 100000 in
theorem c_X6_register (l : Launch) (hlk : l.stackTraces = false) (D : va_G) (aX aP aM aC aT aR : Nat) (cJ : ClassId) (S : XS) (a0 : Int32) (a1 : Int32) : q_xI l yX6_register wsX6_register ({ frames := 7, cells := 1, slots := 6, locals := 102 }) D [(cJ, .long)] (wX aX aP aM aC aT aR cJ S) [.ref aX, .int a0, .int a1] (fun r u => (f_X6_register S a0 a1).1 = 0 ∧ r = (f_X6_register S a0 a1).2.1 ∧ u = (f_X6_register S a0 a1).2.2) (fun k u => ¬ (f_X6_register S a0 a1).1 = 0 ∧ k = (f_X6_register S a0 a1).1 ∧ u = (f_X6_register S a0 a1).2.2) (fun u => (wX aX aP aM aC aT aR cJ u)) 1 6 := by
  refine fun sz => q_x_of (cc := cX6_register) (maxL := 5) (ret := (some .int)) (by decide) rfl (Nat.le_of_ble_eq_true rfl) ?_
  intro p e s m below meth c ls hx hb hr hml hown hts hlocks hout hsz hP hK hD hE hZ hl
  subst hsz
  generalize hAe : va_A (wX aX aP aM aC aT aR cJ S) s.heap.size = A at hD hZ ⊢
  have hA : ∀ q, s.heap.size ≤ q → A q := fun q h => by rw [← hAe]; exact Or.inr h
  have hS : va_S A s.heap s.heap [] := va_S.rf
  have hown : s.vm.findClass RX6 = some m.cls := hown
  have hl : lv_has ls 5 [(0, .ref aX), (1, .int a0), (2, .int a1)] := hl
  have hfix : CallFix p m c cX6_register 5 s [.ref aX, .int a0, .int a1].toArray wsX6_register RX6 := ⟨hx, hb, hml, hown, hts⟩
  have hin1 : ∀ w ∈ wsX20, w ∈ wsX6_register := by decide +kernel
  have hin3 : ∀ w ∈ wsX60, w ∈ wsX6_register := by decide +kernel
  refine lv_iload_n hx hb dX6_register_0 rfl (lv_at hl 1 rfl) ?_
  refine q_xcallSv (As := [.int a0]) (rest := []) (wr := [(aX, .inr (3, [.ref aM, .ref aP, .ref aT, .int (pX_latestFailure S)])), (aP, .inr (1, [.ref aM, .long (pP_pc (pX_p S)), .long (pP_ap (pX_p S)), .long (pP_fp (pX_p S)), .long (pP_newPc (pX_p S)), .long (pP_newAp (pX_p S)), .long (pP_newFp (pX_p S)), .long (pP_word (pX_p S)), .int (pP_flags (pX_p S)), .long (pP_dstPlace (pX_p S)), .long (pP_op0Place (pX_p S)), .long (pP_op1Place (pX_p S)), .long (pP_res (pX_p S))])), (aM, .inr (0, [.ref aC])), (aC, .inl (cJ, 320, .inr (.inl (pP_mem (pX_p S))))), (aT, .inr (2, [.ref aR, .int (pT_length (pX_t S))])), (aR, .inl (cJ, 192, .inr (.inl (pT_row (pX_t S)))))]) (Wn := (fun (_ : Unit) => (wX aX aP aM aC aT aR cJ S))) (c_X6_requireRegister l hlk D a0) hfix (va_cwS 1 hts gX6_register_X6_requireRegister rfl rfl rfl (by decide +kernel) ⟨Nat.le_of_ble_eq_true rfl, Nat.le_of_ble_eq_true rfl⟩) rfl hl.1 rfl (Nat.le_of_ble_eq_true rfl) ⟨by decide, by decide⟩ hP hK hD hS hA hE hZ [] [0, 1, 2, 3, 4, 5] [0, 1, 2, 3, 4, 5] [] rfl rfl rfl (by decide) (by decide) (by decide) (by decide) (fun _ => rfl) (fun _ => rfl) rfl dX6_register_1 (fun E ce q9 k u H locs hw hEk hP hD hS hce hcv hcl => ?_) (fun u H locs hw hP hD hS => ?_)
  · obtain ⟨c1, rfl⟩ := hw
    exact q_pass (f_X6_requireRegister a0) S hout hlocks hce hcv hcl hEk hP hD hS (q_x3 (by rw [f_X6_register, if_neg c1]) c1) (by decide) (by decide)
  · have c1 : (f_X6_requireRegister a0) = 0 := hw
    have hP : va_P D vwCl (wX aX aP aM aC aT aR cJ S) H := hP
    have hD : va_D A (wX aX aP aM aC aT aR cJ S) := hD
    refine W.widen (k := 1) (n := 6) (by decide) (by decide) ?_
    refine lv_iload_n hx hb dX6_register_4 rfl (lv_at hl 1 rfl) ?_
    have kJ40 : ∀ (t0_40 : Int64) (H : Heap) (locs : List Loc) (ls : Array Slot), (f_X6_register S a0 a1) = (f_X6_register_J40 S a1 t0_40) → va_P D vwCl (wX aX aP aM aC aT aR cJ S) H → va_D A (wX aX aP aM aC aT aR cJ S) → va_S A s.heap H locs → lv_has ls 5 [(0, .ref aX), (1, .int a0), (2, .int a1)] → W p l e ({ frames := 7, cells := 1, slots := 6, locals := 102 }) s m [.ref aX, .int a0, .int a1].toArray below meth c H locs 1 6 (vx_MQ below (va_Qi (fun r u => (f_X6_register S a0 a1).1 = 0 ∧ r = (f_X6_register S a0 a1).2.1 ∧ u = (f_X6_register S a0 a1).2.2) (fun u t => va_P D vwCl ((fun u => (wX aX aP aM aC aT aR cJ u)) u) t.heap ∧ va_D A ((fun u => (wX aX aP aM aC aT aR cJ u)) u)) A) (q_XX D A (fun k u => ¬ (f_X6_register S a0 a1).1 = 0 ∧ k = (f_X6_register S a0 a1).1 ∧ u = (f_X6_register S a0 a1).2.2) (fun u => (wX aX aP aM aC aT aR cJ u))) [.ref aX, .int a0, .int a1].toArray s 1 6 A) (F0 m 40 ls [.long t0_40]) := by
      intro t0_40 H locs ls hJ40 hP hD hS hl
      refine lv_lstore_n (lv' := [(3, .long t0_40), (0, .ref aX), (1, .int a0), (2, .int a1)]) hx hb dX6_register_40 rfl hl (by decide) rfl (fun ls hl => ?_)
      refine lv_iload_n hx hb dX6_register_41 rfl (lv_at hl 3 rfl) ?_
      refine lv_if_eq (tgt := 52) hx hb dX6_register_42 (by decide) (fun c4 => ?_) (fun c4 => ?_)
      · refine lv_lload_n hx hb dX6_register_52 rfl (lv_at hl 0 rfl) ?_
        refine q_callSi (As := [.long t0_40]) (rest := []) (c_X4_segmentOf l D t0_40) hfix (va_cwS 1 hts gX6_register_X4_segmentOf rfl rfl rfl (by decide +kernel) ⟨Nat.le_of_ble_eq_true rfl, Nat.le_of_ble_eq_true rfl⟩) rfl hl.1 rfl (Nat.le_of_ble_eq_true rfl) ⟨by decide, by decide⟩ hP hK hS hA [] [] rfl rfl dX6_register_53 (fun H locs hP hS => ?_)
        exact q_xri S hx hb hr hlocks (by decide) (by decide) hP hD hS (q_p3 (by rw [hJ40, f_X6_register_J40, if_pos c4])) dX6_register_56
      · refine lv_lload_n hx hb dX6_register_45 rfl (lv_at hl 0 rfl) ?_
        refine q_callSi (As := [.long t0_40]) (rest := []) (c_X4_cellOf l D t0_40) hfix (va_cwS 1 hts gX6_register_X4_cellOf rfl rfl rfl (by decide +kernel) ⟨Nat.le_of_ble_eq_true rfl, Nat.le_of_ble_eq_true rfl⟩) rfl hl.1 rfl (Nat.le_of_ble_eq_true rfl) ⟨by decide, by decide⟩ hP hK hS hA [] [] rfl rfl dX6_register_46 (fun H locs hP hS => ?_)
        refine lv_goto (tgt := 56) hx hb dX6_register_49 (by decide) ?_
        exact q_xri S hx hb hr hlocks (by decide) (by decide) hP hD hS (q_p3 (by rw [hJ40, f_X6_register_J40, if_neg c4])) dX6_register_56
    refine lv_if_ne (tgt := 18) hx hb dX6_register_5 (by decide) (fun c2 => ?_) (fun c2 => ?_)
    · refine lv_iload_n hx hb dX6_register_18 rfl (lv_at hl 1 rfl) ?_
      refine lv_iconst (v := 1) hx hb dX6_register_19 (by decide) ?_
      refine lv_icmp_ne (tgt := 33) hx hb dX6_register_20 (by decide) (fun c3 => ?_) (fun c3 => ?_)
      · refine lv_aload_n hx hb dX6_register_33 rfl (lv_at hl 0 rfl) ?_
        refine va_get (D := D) (ci := 3) (v := .ref aP) (C := RX6) (T := TX6) (N := 4) hx hb hts hin3 hown hK hP 0 rfl rfl 1 (by decide) (hts (.fieldLink RX6 21 "FieldTrace" "processor" "LFieldTrace$Processor;") (by decide +kernel)) (fun _ h9 => h9) rfl dX6_register_34 ?_
        refine va_getN (D := D) (ci := 1) (v := .long (pP_fp (pX_p S))) (C := RX2) (T := TX2) (N := 13) (host := "FieldTrace") hx hb hts hin1 hown hK hP 1 rfl rfl 3 (by decide) (va_Nw.use rfl (hE.2 (.fieldLinkNest "FieldTrace" 125 "FieldTrace$Processor" "fp" "J" "FieldTrace") (by decide +kernel))) (fun _ h9 => h9) rfl dX6_register_37 ?_
        exact kJ40 (pP_fp (pX_p S)) _ _ _ (by rw [f_X6_register, if_pos c1, if_neg c2, if_neg c3]) hP hD hS (lv_sub hl [0, 1, 2] rfl)
      · refine lv_aload_n hx hb dX6_register_23 rfl (lv_at hl 0 rfl) ?_
        refine va_get (D := D) (ci := 3) (v := .ref aP) (C := RX6) (T := TX6) (N := 4) hx hb hts hin3 hown hK hP 0 rfl rfl 1 (by decide) (hts (.fieldLink RX6 21 "FieldTrace" "processor" "LFieldTrace$Processor;") (by decide +kernel)) (fun _ h9 => h9) rfl dX6_register_24 ?_
        refine va_getN (D := D) (ci := 1) (v := .long (pP_ap (pX_p S))) (C := RX2) (T := TX2) (N := 13) (host := "FieldTrace") hx hb hts hin1 hown hK hP 1 rfl rfl 2 (by decide) (va_Nw.use rfl (hE.2 (.fieldLinkNest "FieldTrace" 122 "FieldTrace$Processor" "ap" "J" "FieldTrace") (by decide +kernel))) (fun _ h9 => h9) rfl dX6_register_27 ?_
        refine lv_goto (tgt := 40) hx hb dX6_register_30 (by decide) ?_
        exact kJ40 (pP_ap (pX_p S)) _ _ _ (by rw [f_X6_register, if_pos c1, if_neg c2, if_pos c3]) hP hD hS (lv_sub hl [0, 1, 2] rfl)
    · refine lv_aload_n hx hb dX6_register_8 rfl (lv_at hl 0 rfl) ?_
      refine va_get (D := D) (ci := 3) (v := .ref aP) (C := RX6) (T := TX6) (N := 4) hx hb hts hin3 hown hK hP 0 rfl rfl 1 (by decide) (hts (.fieldLink RX6 21 "FieldTrace" "processor" "LFieldTrace$Processor;") (by decide +kernel)) (fun _ h9 => h9) rfl dX6_register_9 ?_
      refine va_getN (D := D) (ci := 1) (v := .long (pP_pc (pX_p S))) (C := RX2) (T := TX2) (N := 13) (host := "FieldTrace") hx hb hts hin1 hown hK hP 1 rfl rfl 1 (by decide) (va_Nw.use rfl (hE.2 (.fieldLinkNest "FieldTrace" 118 "FieldTrace$Processor" "pc" "J" "FieldTrace") (by decide +kernel))) (fun _ h9 => h9) rfl dX6_register_12 ?_
      refine lv_goto (tgt := 40) hx hb dX6_register_15 (by decide) ?_
      exact kJ40 (pP_pc (pX_p S)) _ _ _ (by rw [f_X6_register, if_pos c1, if_pos c2]) hP hD hS (lv_sub hl [0, 1, 2] rfl)

def f_X6_segment (S : XS) (a0 : Int32) (a1 : Int32) : Int32 × Int32 × XS :=
  (if (f_X6_requireSet S a0 a1).1 = 0 then (if (f_X4_isAddress ((f_X6_requireSet S a0 a1).2.1)) = 0 then (0, 0, (f_X6_requireSet S a0 a1).2.2) else (0, (f_X4_segmentOf ((f_X6_requireSet S a0 a1).2.1)), (f_X6_requireSet S a0 a1).2.2)) else ((f_X6_requireSet S a0 a1).1, 0, (f_X6_requireSet S a0 a1).2.2))

set_option maxHeartbeats 4000000 in
set_option maxRecDepth 100000 in
theorem c_X6_segment (l : Launch) (hlk : l.stackTraces = false) (D : va_G) (aX aP aM aC aT aR : Nat) (cJ : ClassId) (S : XS) (a0 : Int32) (a1 : Int32) : q_xI l yX6_segment wsX6_segment ({ frames := 8, cells := 2, slots := 12, locals := 127 }) D [(cJ, .long)] (wX aX aP aM aC aT aR cJ S) [.ref aX, .int a0, .int a1] (fun r u => (f_X6_segment S a0 a1).1 = 0 ∧ r = (f_X6_segment S a0 a1).2.1 ∧ u = (f_X6_segment S a0 a1).2.2) (fun k u => ¬ (f_X6_segment S a0 a1).1 = 0 ∧ k = (f_X6_segment S a0 a1).1 ∧ u = (f_X6_segment S a0 a1).2.2) (fun u => (wX aX aP aM aC aT aR cJ u)) 2 12 := by
  refine fun sz => q_x_of (cc := cX6_segment) (maxL := 5) (ret := (some .int)) (by decide) rfl (Nat.le_of_ble_eq_true rfl) ?_
  intro p e s m below meth c ls hx hb hr hml hown hts hlocks hout hsz hP hK hD hE hZ hl
  subst hsz
  generalize hAe : va_A (wX aX aP aM aC aT aR cJ S) s.heap.size = A at hD hZ ⊢
  have hA : ∀ q, s.heap.size ≤ q → A q := fun q h => by rw [← hAe]; exact Or.inr h
  have hS : va_S A s.heap s.heap [] := va_S.rf
  have hown : s.vm.findClass RX6 = some m.cls := hown
  have hl : lv_has ls 5 [(0, .ref aX), (1, .int a0), (2, .int a1)] := hl
  have hfix : CallFix p m c cX6_segment 5 s [.ref aX, .int a0, .int a1].toArray wsX6_segment RX6 := ⟨hx, hb, hml, hown, hts⟩
  refine lv_aload_n hx hb dX6_segment_0 rfl (lv_at hl 0 rfl) ?_
  refine lv_iload_n hx hb dX6_segment_1 rfl (lv_at hl 1 rfl) ?_
  refine lv_iload_n hx hb dX6_segment_2 rfl (lv_at hl 2 rfl) ?_
  refine q_xcallVl (As := [.int a0, .int a1]) (rest := []) (wr := []) (Wn := (fun u => (wX aX aP aM aC aT aR cJ u))) (q0 := 0) (ci := 3) (C := RX6) (c_X6_requireSet l hlk D aX aP aM aC aT aR cJ S a0 a1) hfix (cwV 2 hts gX6_segment_X6_requireSet rfl rfl rfl (by decide +kernel) ⟨Nat.le_of_ble_eq_true rfl, Nat.le_of_ble_eq_true rfl⟩) rfl hl.1 rfl (Nat.le_of_ble_eq_true rfl) ⟨by decide, by decide⟩ hP hK hD hS hA hE hZ [0, 1, 2, 3, 4, 5] [] [0, 1, 2, 3, 4, 5] [0] rfl rfl rfl (by decide) (by decide) (by decide) (by decide) (fun _ => rfl) (fun _ => rfl) rfl rfl rfl rfl dX6_segment_3 (fun E ce q9 k u H locs hw hEk hP hD hS hce hcv hcl => ?_) (fun r u H locs hw hP hD hS => ?_)
  · obtain ⟨c1, rfl, rfl⟩ := hw
    have hP : va_P D vwCl (wX aX aP aM aC aT aR cJ (f_X6_requireSet S a0 a1).2.2) H := hP
    have hD : va_D A (wX aX aP aM aC aT aR cJ (f_X6_requireSet S a0 a1).2.2) := hD
    exact q_pass ((f_X6_requireSet S a0 a1).1) ((f_X6_requireSet S a0 a1).2.2) hout hlocks hce hcv hcl hEk hP hD hS (q_x3 (by rw [f_X6_segment, if_neg c1]) c1) (by decide) (by decide)
  · obtain ⟨c1, rfl, rfl⟩ := hw
    have hP : va_P D vwCl (wX aX aP aM aC aT aR cJ (f_X6_requireSet S a0 a1).2.2) H := hP
    have hD : va_D A (wX aX aP aM aC aT aR cJ (f_X6_requireSet S a0 a1).2.2) := hD
    refine W.widen (k := 2) (n := 12) (by decide) (by decide) ?_
    refine lv_lstore_n (lv' := [(3, .long ((f_X6_requireSet S a0 a1).2.1)), (0, .ref aX), (1, .int a0), (2, .int a1)]) hx hb dX6_segment_6 rfl hl (by decide) rfl (fun ls hl => ?_)
    refine lv_lload_n hx hb dX6_segment_7 rfl (lv_at hl 0 rfl) ?_
    refine q_callSi (As := [.long ((f_X6_requireSet S a0 a1).2.1)]) (rest := []) (c_X4_isAddress l D ((f_X6_requireSet S a0 a1).2.1)) hfix (va_cwS 1 hts gX6_segment_X4_isAddress rfl rfl rfl (by decide +kernel) ⟨Nat.le_of_ble_eq_true rfl, Nat.le_of_ble_eq_true rfl⟩) rfl hl.1 rfl (Nat.le_of_ble_eq_true rfl) ⟨by decide, by decide⟩ hP hK hS hA [] [] rfl rfl dX6_segment_8 (fun H locs hP hS => ?_)
    refine lv_if_eq (tgt := 21) hx hb dX6_segment_11 (by decide) (fun c2 => ?_) (fun c2 => ?_)
    · refine lv_iconst (v := 0) hx hb dX6_segment_21 (by decide) ?_
      exact q_xri ((f_X6_requireSet S a0 a1).2.2) hx hb hr hlocks (by decide) (by decide) hP hD hS (q_p3 (by rw [f_X6_segment, if_pos c1, if_pos c2])) dX6_segment_22
    · refine lv_lload_n hx hb dX6_segment_14 rfl (lv_at hl 0 rfl) ?_
      refine q_callSi (As := [.long ((f_X6_requireSet S a0 a1).2.1)]) (rest := []) (c_X4_segmentOf l D ((f_X6_requireSet S a0 a1).2.1)) hfix (va_cwS 1 hts gX6_segment_X4_segmentOf rfl rfl rfl (by decide +kernel) ⟨Nat.le_of_ble_eq_true rfl, Nat.le_of_ble_eq_true rfl⟩) rfl hl.1 rfl (Nat.le_of_ble_eq_true rfl) ⟨by decide, by decide⟩ hP hK hS hA [] [] rfl rfl dX6_segment_15 (fun H locs hP hS => ?_)
      refine lv_goto (tgt := 22) hx hb dX6_segment_18 (by decide) ?_
      exact q_xri ((f_X6_requireSet S a0 a1).2.2) hx hb hr hlocks (by decide) (by decide) hP hD hS (q_p3 (by rw [f_X6_segment, if_pos c1, if_neg c2])) dX6_segment_22

def f_X6_value (S : XS) (a0 : Int32) (a1 : Int32) : Int32 × Int64 × XS :=
  (if (f_X6_requireSet S a0 a1).1 = 0 then (if (f_X4_isAddress ((f_X6_requireSet S a0 a1).2.1)) = 0 then (0, (f_X6_requireSet S a0 a1).2.1, (f_X6_requireSet S a0 a1).2.2) else (0, ((f_X4_cellOf ((f_X6_requireSet S a0 a1).2.1)) : Int32).toInt64, (f_X6_requireSet S a0 a1).2.2)) else ((f_X6_requireSet S a0 a1).1, 0, (f_X6_requireSet S a0 a1).2.2))

set_option maxHeartbeats 4000000 in
set_option maxRecDepth 100000 in
theorem c_X6_value (l : Launch) (hlk : l.stackTraces = false) (D : va_G) (aX aP aM aC aT aR : Nat) (cJ : ClassId) (S : XS) (a0 : Int32) (a1 : Int32) : q_xL l yX6_value wsX6_value ({ frames := 8, cells := 2, slots := 12, locals := 127 }) D [(cJ, .long)] (wX aX aP aM aC aT aR cJ S) [.ref aX, .int a0, .int a1] (fun r u => (f_X6_value S a0 a1).1 = 0 ∧ r = (f_X6_value S a0 a1).2.1 ∧ u = (f_X6_value S a0 a1).2.2) (fun k u => ¬ (f_X6_value S a0 a1).1 = 0 ∧ k = (f_X6_value S a0 a1).1 ∧ u = (f_X6_value S a0 a1).2.2) (fun u => (wX aX aP aM aC aT aR cJ u)) 2 12 := by
  refine fun sz => q_x_of (cc := cX6_value) (maxL := 5) (ret := (some .long)) (by decide) rfl (Nat.le_of_ble_eq_true rfl) ?_
  intro p e s m below meth c ls hx hb hr hml hown hts hlocks hout hsz hP hK hD hE hZ hl
  subst hsz
  generalize hAe : va_A (wX aX aP aM aC aT aR cJ S) s.heap.size = A at hD hZ ⊢
  have hA : ∀ q, s.heap.size ≤ q → A q := fun q h => by rw [← hAe]; exact Or.inr h
  have hS : va_S A s.heap s.heap [] := va_S.rf
  have hown : s.vm.findClass RX6 = some m.cls := hown
  have hl : lv_has ls 5 [(0, .ref aX), (1, .int a0), (2, .int a1)] := hl
  have hfix : CallFix p m c cX6_value 5 s [.ref aX, .int a0, .int a1].toArray wsX6_value RX6 := ⟨hx, hb, hml, hown, hts⟩
  refine lv_aload_n hx hb dX6_value_0 rfl (lv_at hl 0 rfl) ?_
  refine lv_iload_n hx hb dX6_value_1 rfl (lv_at hl 1 rfl) ?_
  refine lv_iload_n hx hb dX6_value_2 rfl (lv_at hl 2 rfl) ?_
  refine q_xcallVl (As := [.int a0, .int a1]) (rest := []) (wr := []) (Wn := (fun u => (wX aX aP aM aC aT aR cJ u))) (q0 := 0) (ci := 3) (C := RX6) (c_X6_requireSet l hlk D aX aP aM aC aT aR cJ S a0 a1) hfix (cwV 2 hts gX6_value_X6_requireSet rfl rfl rfl (by decide +kernel) ⟨Nat.le_of_ble_eq_true rfl, Nat.le_of_ble_eq_true rfl⟩) rfl hl.1 rfl (Nat.le_of_ble_eq_true rfl) ⟨by decide, by decide⟩ hP hK hD hS hA hE hZ [0, 1, 2, 3, 4, 5] [] [0, 1, 2, 3, 4, 5] [0] rfl rfl rfl (by decide) (by decide) (by decide) (by decide) (fun _ => rfl) (fun _ => rfl) rfl rfl rfl rfl dX6_value_3 (fun E ce q9 k u H locs hw hEk hP hD hS hce hcv hcl => ?_) (fun r u H locs hw hP hD hS => ?_)
  · obtain ⟨c1, rfl, rfl⟩ := hw
    have hP : va_P D vwCl (wX aX aP aM aC aT aR cJ (f_X6_requireSet S a0 a1).2.2) H := hP
    have hD : va_D A (wX aX aP aM aC aT aR cJ (f_X6_requireSet S a0 a1).2.2) := hD
    exact q_pass ((f_X6_requireSet S a0 a1).1) ((f_X6_requireSet S a0 a1).2.2) hout hlocks hce hcv hcl hEk hP hD hS (q_x3 (by rw [f_X6_value, if_neg c1]) c1) (by decide) (by decide)
  · obtain ⟨c1, rfl, rfl⟩ := hw
    have hP : va_P D vwCl (wX aX aP aM aC aT aR cJ (f_X6_requireSet S a0 a1).2.2) H := hP
    have hD : va_D A (wX aX aP aM aC aT aR cJ (f_X6_requireSet S a0 a1).2.2) := hD
    refine W.widen (k := 2) (n := 12) (by decide) (by decide) ?_
    refine lv_lstore_n (lv' := [(3, .long ((f_X6_requireSet S a0 a1).2.1)), (0, .ref aX), (1, .int a0), (2, .int a1)]) hx hb dX6_value_6 rfl hl (by decide) rfl (fun ls hl => ?_)
    refine lv_lload_n hx hb dX6_value_7 rfl (lv_at hl 0 rfl) ?_
    refine q_callSi (As := [.long ((f_X6_requireSet S a0 a1).2.1)]) (rest := []) (c_X4_isAddress l D ((f_X6_requireSet S a0 a1).2.1)) hfix (va_cwS 1 hts gX6_value_X4_isAddress rfl rfl rfl (by decide +kernel) ⟨Nat.le_of_ble_eq_true rfl, Nat.le_of_ble_eq_true rfl⟩) rfl hl.1 rfl (Nat.le_of_ble_eq_true rfl) ⟨by decide, by decide⟩ hP hK hS hA [] [] rfl rfl dX6_value_8 (fun H locs hP hS => ?_)
    refine lv_if_eq (tgt := 22) hx hb dX6_value_11 (by decide) (fun c2 => ?_) (fun c2 => ?_)
    · refine lv_lload_n hx hb dX6_value_22 rfl (lv_at hl 0 rfl) ?_
      exact q_xrl ((f_X6_requireSet S a0 a1).2.2) hx hb hr hlocks (by decide) (by decide) hP hD hS (q_p3 (by rw [f_X6_value, if_pos c1, if_pos c2])) dX6_value_23
    · refine lv_lload_n hx hb dX6_value_14 rfl (lv_at hl 0 rfl) ?_
      refine q_callSi (As := [.long ((f_X6_requireSet S a0 a1).2.1)]) (rest := []) (c_X4_cellOf l D ((f_X6_requireSet S a0 a1).2.1)) hfix (va_cwS 1 hts gX6_value_X4_cellOf rfl rfl rfl (by decide +kernel) ⟨Nat.le_of_ble_eq_true rfl, Nat.le_of_ble_eq_true rfl⟩) rfl hl.1 rfl (Nat.le_of_ble_eq_true rfl) ⟨by decide, by decide⟩ hP hK hS hA [] [] rfl rfl dX6_value_15 (fun H locs hP hS => ?_)
      refine lv_i2l hx hb dX6_value_18 rfl ?_
      refine lv_goto (tgt := 23) hx hb dX6_value_19 (by decide) ?_
      exact q_xrl ((f_X6_requireSet S a0 a1).2.2) hx hb hr hlocks (by decide) (by decide) hP hD hS (q_p3 (by rw [f_X6_value, if_pos c1, if_neg c2])) dX6_value_23

def f_X6_rows (S : XS) : Int32 × Int32 × XS :=
  (0, (pT_length (pX_t S)), S)

set_option maxHeartbeats 4000000 in
set_option maxRecDepth 100000 in
theorem c_X6_rows (l : Launch) (hlk : l.stackTraces = false) (D : va_G) (aX aP aM aC aT aR : Nat) (cJ : ClassId) (S : XS) : q_xI l yX6_rows wsX6_rows ({ frames := 0, cells := 0, slots := 0, locals := 0 }) D [(cJ, .long)] (wX aX aP aM aC aT aR cJ S) [.ref aX] (fun r u => (f_X6_rows S).1 = 0 ∧ r = (f_X6_rows S).2.1 ∧ u = (f_X6_rows S).2.2) (fun k u => ¬ (f_X6_rows S).1 = 0 ∧ k = (f_X6_rows S).1 ∧ u = (f_X6_rows S).2.2) (fun u => (wX aX aP aM aC aT aR cJ u)) 0 0 := by
  refine fun sz => q_x_of (cc := cX6_rows) (maxL := 1) (ret := (some .int)) (by decide) rfl (Nat.le_of_ble_eq_true rfl) ?_
  intro p e s m below meth c ls hx hb hr hml hown hts hlocks hout hsz hP hK hD hE hZ hl
  subst hsz
  generalize hAe : va_A (wX aX aP aM aC aT aR cJ S) s.heap.size = A at hD hZ ⊢
  have hA : ∀ q, s.heap.size ≤ q → A q := fun q h => by rw [← hAe]; exact Or.inr h
  have hS : va_S A s.heap s.heap [] := va_S.rf
  have hown : s.vm.findClass RX6 = some m.cls := hown
  have hl : lv_has ls 1 [(0, .ref aX)] := hl
  have hin2 : ∀ w ∈ wsX30, w ∈ wsX6_rows := by decide +kernel
  have hin3 : ∀ w ∈ wsX60, w ∈ wsX6_rows := by decide +kernel
  refine lv_aload_n hx hb dX6_rows_0 rfl (lv_at hl 0 rfl) ?_
  refine va_get (D := D) (ci := 3) (v := .ref aT) (C := RX6) (T := TX6) (N := 4) hx hb hts hin3 hown hK hP 0 rfl rfl 2 (by decide) (hts (.fieldLink RX6 28 "FieldTrace" "trace" "LFieldTrace$Trace;") (by decide +kernel)) (fun _ h9 => h9) rfl dX6_rows_1 ?_
  refine va_getN (D := D) (ci := 2) (v := .int (pT_length (pX_t S))) (C := RX3) (T := TX3) (N := 2) (host := "FieldTrace") hx hb hts hin2 hown hK hP 4 rfl rfl 1 (by decide) (va_Nw.use rfl (hE.2 (.fieldLinkNest "FieldTrace" 153 "FieldTrace$Trace" "length" "I" "FieldTrace") (by decide +kernel))) (fun _ h9 => h9) rfl dX6_rows_4 ?_
  exact q_xri S hx hb hr hlocks (by decide) (by decide) hP hD hS (q_p3 (by rw [f_X6_rows])) dX6_rows_7

def f_X6_traced (S : XS) (a0 : Int32) (a1 : Int32) : Int32 × Int64 × XS :=
  (if (f_X6_requireRegister a1) = 0 then (if a0 < 0 then (3, 0, S) else (if a0 < (pT_length (pX_t S)) then (0, (f_X1_relocate (pP_mem (pX_p S)) (f_X3_at (pX_t S) a0 a1)), S) else (3, 0, S))) else ((f_X6_requireRegister a1), 0, S))

set_option maxHeartbeats 4000000 in
set_option maxRecDepth 100000 in
theorem c_X6_traced (l : Launch) (hlk : l.stackTraces = false) (D : va_G) (aX aP aM aC aT aR : Nat) (cJ : ClassId) (S : XS) (a0 : Int32) (a1 : Int32) (hn : (pT_length (pX_t S)) ≤ 64) : q_xL l yX6_traced wsX6_traced ({ frames := 7, cells := 2, slots := 12, locals := 110 }) D [(cJ, .long)] (wX aX aP aM aC aT aR cJ S) [.ref aX, .int a0, .int a1] (fun r u => (f_X6_traced S a0 a1).1 = 0 ∧ r = (f_X6_traced S a0 a1).2.1 ∧ u = (f_X6_traced S a0 a1).2.2) (fun k u => ¬ (f_X6_traced S a0 a1).1 = 0 ∧ k = (f_X6_traced S a0 a1).1 ∧ u = (f_X6_traced S a0 a1).2.2) (fun u => (wX aX aP aM aC aT aR cJ u)) 2 12 := by
  refine fun sz => q_x_of (cc := cX6_traced) (maxL := 3) (ret := (some .long)) (by decide) rfl (Nat.le_of_ble_eq_true rfl) ?_
  intro p e s m below meth c ls hx hb hr hml hown hts hlocks hout hsz hP hK hD hE hZ hl
  subst hsz
  generalize hAe : va_A (wX aX aP aM aC aT aR cJ S) s.heap.size = A at hD hZ ⊢
  have hA : ∀ q, s.heap.size ≤ q → A q := fun q h => by rw [← hAe]; exact Or.inr h
  have hS : va_S A s.heap s.heap [] := va_S.rf
  have hown : s.vm.findClass RX6 = some m.cls := hown
  have hl : lv_has ls 3 [(0, .ref aX), (1, .int a0), (2, .int a1)] := hl
  have hfix : CallFix p m c cX6_traced 3 s [.ref aX, .int a0, .int a1].toArray wsX6_traced RX6 := ⟨hx, hb, hml, hown, hts⟩
  have hin2 : ∀ w ∈ wsX30, w ∈ wsX6_traced := by decide +kernel
  have hin3 : ∀ w ∈ wsX60, w ∈ wsX6_traced := by decide +kernel
  refine lv_iload_n hx hb dX6_traced_0 rfl (lv_at hl 2 rfl) ?_
  refine q_xcallSv (As := [.int a1]) (rest := []) (wr := [(aX, .inr (3, [.ref aM, .ref aP, .ref aT, .int (pX_latestFailure S)])), (aP, .inr (1, [.ref aM, .long (pP_pc (pX_p S)), .long (pP_ap (pX_p S)), .long (pP_fp (pX_p S)), .long (pP_newPc (pX_p S)), .long (pP_newAp (pX_p S)), .long (pP_newFp (pX_p S)), .long (pP_word (pX_p S)), .int (pP_flags (pX_p S)), .long (pP_dstPlace (pX_p S)), .long (pP_op0Place (pX_p S)), .long (pP_op1Place (pX_p S)), .long (pP_res (pX_p S))])), (aM, .inr (0, [.ref aC])), (aC, .inl (cJ, 320, .inr (.inl (pP_mem (pX_p S))))), (aT, .inr (2, [.ref aR, .int (pT_length (pX_t S))])), (aR, .inl (cJ, 192, .inr (.inl (pT_row (pX_t S)))))]) (Wn := (fun (_ : Unit) => (wX aX aP aM aC aT aR cJ S))) (c_X6_requireRegister l hlk D a1) hfix (va_cwS 1 hts gX6_traced_X6_requireRegister rfl rfl rfl (by decide +kernel) ⟨Nat.le_of_ble_eq_true rfl, Nat.le_of_ble_eq_true rfl⟩) rfl hl.1 rfl (Nat.le_of_ble_eq_true rfl) ⟨by decide, by decide⟩ hP hK hD hS hA hE hZ [] [0, 1, 2, 3, 4, 5] [0, 1, 2, 3, 4, 5] [] rfl rfl rfl (by decide) (by decide) (by decide) (by decide) (fun _ => rfl) (fun _ => rfl) rfl dX6_traced_1 (fun E ce q9 k u H locs hw hEk hP hD hS hce hcv hcl => ?_) (fun u H locs hw hP hD hS => ?_)
  · obtain ⟨c1, rfl⟩ := hw
    exact q_pass (f_X6_requireRegister a1) S hout hlocks hce hcv hcl hEk hP hD hS (q_x3 (by rw [f_X6_traced, if_neg c1]) c1) (by decide) (by decide)
  · have c1 : (f_X6_requireRegister a1) = 0 := hw
    have hP : va_P D vwCl (wX aX aP aM aC aT aR cJ S) H := hP
    have hD : va_D A (wX aX aP aM aC aT aR cJ S) := hD
    refine W.widen (k := 1) (n := 6) (by decide) (by decide) ?_
    refine lv_iload_n hx hb dX6_traced_4 rfl (lv_at hl 1 rfl) ?_
    refine lv_if_lt (tgt := 19) hx hb dX6_traced_5 (by decide) (fun c2 => ?_) (fun c2 => ?_)
    · obtain ⟨sa, hsa⟩ := hE.1 (158, "there is no such row") (by decide +kernel)
      exact q_throwN (cls := "java/util/NoSuchElementException") (text := "there is no such row") (names := ["java/lang/RuntimeException", "java/lang/Exception"]) (ik := 156) (is := 158) (ic := 160) 3 S hx hb hlk hown (by decide +kernel) (by decide +kernel) (hts (.classLink RX6 156 "java/util/NoSuchElementException") (by decide +kernel)) (hts (.initialized "java/util/NoSuchElementException") (by decide +kernel)) hsa (vx_hat (fun w h => hts w (List.mem_cons_of_mem _ (List.mem_append_left _ (List.mem_append_right _ h)))) q_bd160 (q_nw hE)) q_ok160 hZ hS (hl.1.trans hml.symm) dX6_traced_19 dX6_traced_22 dX6_traced_23 dX6_traced_25 dX6_traced_28 hout (by decide) (by decide) (by decide) (by decide) hlocks hP hD (by decide) (q_x3 (by rw [f_X6_traced, if_pos c1, if_pos c2]) (by decide)) (by decide) (by decide)
    · refine lv_iload_n hx hb dX6_traced_8 rfl (lv_at hl 1 rfl) ?_
      refine lv_aload_n hx hb dX6_traced_9 rfl (lv_at hl 0 rfl) ?_
      refine va_get (D := D) (ci := 3) (v := .ref aT) (C := RX6) (T := TX6) (N := 4) hx hb hts hin3 hown hK hP 0 rfl rfl 2 (by decide) (hts (.fieldLink RX6 28 "FieldTrace" "trace" "LFieldTrace$Trace;") (by decide +kernel)) (fun _ h9 => h9) rfl dX6_traced_10 ?_
      refine va_getN (D := D) (ci := 2) (v := .int (pT_length (pX_t S))) (C := RX3) (T := TX3) (N := 2) (host := "FieldTrace") hx hb hts hin2 hown hK hP 4 rfl rfl 1 (by decide) (va_Nw.use rfl (hE.2 (.fieldLinkNest "FieldTrace" 153 "FieldTrace$Trace" "length" "I" "FieldTrace") (by decide +kernel))) (fun _ h9 => h9) rfl dX6_traced_13 ?_
      refine lv_icmp_lt (tgt := 29) hx hb dX6_traced_16 (by decide) (fun c3 => ?_) (fun c3 => ?_)
      · refine lv_aload_n hx hb dX6_traced_29 rfl (lv_at hl 0 rfl) ?_
        refine va_get (D := D) (ci := 3) (v := .ref aM) (C := RX6) (T := TX6) (N := 4) hx hb hts hin3 hown hK hP 0 rfl rfl 0 (by decide) (hts (.fieldLink RX6 10 "FieldTrace" "memory" "LFieldTrace$Memory;") (by decide +kernel)) (fun _ h9 => h9) rfl dX6_traced_30 ?_
        refine lv_aload_n hx hb dX6_traced_33 rfl (lv_at hl 0 rfl) ?_
        refine va_get (D := D) (ci := 3) (v := .ref aT) (C := RX6) (T := TX6) (N := 4) hx hb hts hin3 hown hK hP 0 rfl rfl 2 (by decide) (hts (.fieldLink RX6 28 "FieldTrace" "trace" "LFieldTrace$Trace;") (by decide +kernel)) (fun _ h9 => h9) rfl dX6_traced_34 ?_
        refine lv_iload_n hx hb dX6_traced_37 rfl (lv_at hl 1 rfl) ?_
        refine lv_iload_n hx hb dX6_traced_38 rfl (lv_at hl 2 rfl) ?_
        refine q_callVl (As := [.int a0, .int a1]) (rest := [.ref aM]) (q0 := 0) (ci := 2) (C := RX3) (c_X3_at l D aT aR cJ (pX_t S) a0 a1 (hn)) hfix (cwV 2 hts gX6_traced_X3_at rfl rfl rfl (by decide +kernel) ⟨Nat.le_of_ble_eq_true rfl, Nat.le_of_ble_eq_true rfl⟩) rfl hl.1 rfl (Nat.le_of_ble_eq_true rfl) ⟨by decide, by decide⟩ hP hK hS hA [4, 5] [0] rfl rfl rfl rfl rfl dX6_traced_39 (fun H locs hP hS => ?_)
        refine q_callVl (As := [.long (f_X3_at (pX_t S) a0 a1)]) (rest := []) (q0 := 0) (ci := 0) (C := RX1) (c_X1_relocate l D aM aC cJ (pP_mem (pX_p S)) (f_X3_at (pX_t S) a0 a1)) hfix (cwV 1 hts gX6_traced_X1_relocate rfl rfl rfl (by decide +kernel) ⟨Nat.le_of_ble_eq_true rfl, Nat.le_of_ble_eq_true rfl⟩) rfl hl.1 rfl (Nat.le_of_ble_eq_true rfl) ⟨by decide, by decide⟩ hP hK hS hA [2, 3] [0] rfl rfl rfl rfl rfl dX6_traced_42 (fun H locs hP hS => ?_)
        exact q_xrl S hx hb hr hlocks (by decide) (by decide) hP hD hS (q_p3 (by rw [f_X6_traced, if_pos c1, if_neg c2, if_pos c3])) dX6_traced_45
      · obtain ⟨sa, hsa⟩ := hE.1 (158, "there is no such row") (by decide +kernel)
        exact q_throwN (cls := "java/util/NoSuchElementException") (text := "there is no such row") (names := ["java/lang/RuntimeException", "java/lang/Exception"]) (ik := 156) (is := 158) (ic := 160) 3 S hx hb hlk hown (by decide +kernel) (by decide +kernel) (hts (.classLink RX6 156 "java/util/NoSuchElementException") (by decide +kernel)) (hts (.initialized "java/util/NoSuchElementException") (by decide +kernel)) hsa (vx_hat (fun w h => hts w (List.mem_cons_of_mem _ (List.mem_append_left _ (List.mem_append_right _ h)))) q_bd160 (q_nw hE)) q_ok160 hZ hS (hl.1.trans hml.symm) dX6_traced_19 dX6_traced_22 dX6_traced_23 dX6_traced_25 dX6_traced_28 hout (by decide) (by decide) (by decide) (by decide) hlocks hP hD (by decide) (q_x3 (by rw [f_X6_traced, if_pos c1, if_neg c2, if_neg c3]) (by decide)) (by decide) (by decide)

def f_X6_begins (S : XS) (a0 : Int32) : Int32 × Int32 × XS :=
  (if a0 < 1 then (1, 0, S) else (if a0 ≤ 6 then (0, (f_X1_beginningOf (pP_mem (pX_p S)) a0), S) else (1, 0, S)))

set_option maxHeartbeats 4000000 in
set_option maxRecDepth 100000 in
theorem c_X6_begins (l : Launch) (hlk : l.stackTraces = false) (D : va_G) (aX aP aM aC aT aR : Nat) (cJ : ClassId) (S : XS) (a0 : Int32) : q_xI l yX6_begins wsX6_begins ({ frames := 6, cells := 1, slots := 6, locals := 88 }) D [(cJ, .long)] (wX aX aP aM aC aT aR cJ S) [.ref aX, .int a0] (fun r u => (f_X6_begins S a0).1 = 0 ∧ r = (f_X6_begins S a0).2.1 ∧ u = (f_X6_begins S a0).2.2) (fun k u => ¬ (f_X6_begins S a0).1 = 0 ∧ k = (f_X6_begins S a0).1 ∧ u = (f_X6_begins S a0).2.2) (fun u => (wX aX aP aM aC aT aR cJ u)) 1 6 := by
  refine fun sz => q_x_of (cc := cX6_begins) (maxL := 2) (ret := (some .int)) (by decide) rfl (Nat.le_of_ble_eq_true rfl) ?_
  intro p e s m below meth c ls hx hb hr hml hown hts hlocks hout hsz hP hK hD hE hZ hl
  subst hsz
  generalize hAe : va_A (wX aX aP aM aC aT aR cJ S) s.heap.size = A at hD hZ ⊢
  have hA : ∀ q, s.heap.size ≤ q → A q := fun q h => by rw [← hAe]; exact Or.inr h
  have hS : va_S A s.heap s.heap [] := va_S.rf
  have hown : s.vm.findClass RX6 = some m.cls := hown
  have hl : lv_has ls 2 [(0, .ref aX), (1, .int a0)] := hl
  have hfix : CallFix p m c cX6_begins 2 s [.ref aX, .int a0].toArray wsX6_begins RX6 := ⟨hx, hb, hml, hown, hts⟩
  have hin3 : ∀ w ∈ wsX60, w ∈ wsX6_begins := by decide +kernel
  refine lv_iload_n hx hb dX6_begins_0 rfl (lv_at hl 1 rfl) ?_
  refine lv_iconst (v := 1) hx hb dX6_begins_1 (by decide) ?_
  refine lv_icmp_lt (tgt := 11) hx hb dX6_begins_2 (by decide) (fun c1 => ?_) (fun c1 => ?_)
  · obtain ⟨sa, hsa⟩ := hE.1 (167, "the segment is not 1 .. 6") (by decide +kernel)
    exact q_throw (cls := "java/lang/IllegalArgumentException") (text := "the segment is not 1 .. 6") (names := ["java/lang/RuntimeException", "java/lang/Exception"]) (ik := 42) (is := 167) (ic := 46) 1 S hx hb hlk hown (by decide +kernel) (by decide +kernel) (hts (.classLink RX6 42 "java/lang/IllegalArgumentException") (by decide +kernel)) (hts (.initialized "java/lang/IllegalArgumentException") (by decide +kernel)) hsa (vx_hat (fun w h => hts w (List.mem_cons_of_mem _ (List.mem_append_right _ h))) q_bd46 (q_nw hE)) q_ok46 hZ hS (hl.1.trans hml.symm) dX6_begins_11 dX6_begins_14 dX6_begins_15 dX6_begins_17 dX6_begins_20 hout (by decide) (by decide) (by decide) (by decide) hlocks hP hD (by decide) (q_x3 (by rw [f_X6_begins, if_pos c1]) (by decide)) (by decide) (by decide)
  · refine lv_iload_n hx hb dX6_begins_5 rfl (lv_at hl 1 rfl) ?_
    refine lv_bipush (v := 6) hx hb dX6_begins_6 (by decide) ?_
    refine lv_icmp_le (tgt := 21) hx hb dX6_begins_8 (by decide) (fun c2 => ?_) (fun c2 => ?_)
    · refine lv_aload_n hx hb dX6_begins_21 rfl (lv_at hl 0 rfl) ?_
      refine va_get (D := D) (ci := 3) (v := .ref aM) (C := RX6) (T := TX6) (N := 4) hx hb hts hin3 hown hK hP 0 rfl rfl 0 (by decide) (hts (.fieldLink RX6 10 "FieldTrace" "memory" "LFieldTrace$Memory;") (by decide +kernel)) (fun _ h9 => h9) rfl dX6_begins_22 ?_
      refine lv_iload_n hx hb dX6_begins_25 rfl (lv_at hl 1 rfl) ?_
      refine q_callVi (As := [.int a0]) (rest := []) (q0 := 0) (ci := 0) (C := RX1) (c_X1_beginningOf l D aM aC cJ (pP_mem (pX_p S)) a0) hfix (cwV 1 hts gX6_begins_X1_beginningOf rfl rfl rfl (by decide +kernel) ⟨Nat.le_of_ble_eq_true rfl, Nat.le_of_ble_eq_true rfl⟩) rfl hl.1 rfl (Nat.le_of_ble_eq_true rfl) ⟨by decide, by decide⟩ hP hK hS hA [2, 3] [0] rfl rfl rfl rfl rfl dX6_begins_26 (fun H locs hP hS => ?_)
      exact q_xri S hx hb hr hlocks (by decide) (by decide) hP hD hS (q_p3 (by rw [f_X6_begins, if_neg c1, if_pos c2])) dX6_begins_29
    · obtain ⟨sa, hsa⟩ := hE.1 (167, "the segment is not 1 .. 6") (by decide +kernel)
      exact q_throw (cls := "java/lang/IllegalArgumentException") (text := "the segment is not 1 .. 6") (names := ["java/lang/RuntimeException", "java/lang/Exception"]) (ik := 42) (is := 167) (ic := 46) 1 S hx hb hlk hown (by decide +kernel) (by decide +kernel) (hts (.classLink RX6 42 "java/lang/IllegalArgumentException") (by decide +kernel)) (hts (.initialized "java/lang/IllegalArgumentException") (by decide +kernel)) hsa (vx_hat (fun w h => hts w (List.mem_cons_of_mem _ (List.mem_append_right _ h))) q_bd46 (q_nw hE)) q_ok46 hZ hS (hl.1.trans hml.symm) dX6_begins_11 dX6_begins_14 dX6_begins_15 dX6_begins_17 dX6_begins_20 hout (by decide) (by decide) (by decide) (by decide) hlocks hP hD (by decide) (q_x3 (by rw [f_X6_begins, if_neg c1, if_neg c2]) (by decide)) (by decide) (by decide)

def f_X6_relocated (S : XS) (a0 : Int32) : Int32 × Int64 × XS :=
  (if a0 < 1 then (3, 0, S) else (if a0 < (f_X1_beginningOf (pP_mem (pX_p S)) 6) then (0, (f_X1_relocatedAt (pP_mem (pX_p S)) a0), S) else (3, 0, S)))

set_option maxHeartbeats 4000000 in
set_option maxRecDepth 100000 in
theorem c_X6_relocated (l : Launch) (hlk : l.stackTraces = false) (D : va_G) (aX aP aM aC aT aR : Nat) (cJ : ClassId) (S : XS) (a0 : Int32) : q_xL l yX6_relocated wsX6_relocated ({ frames := 6, cells := 1, slots := 6, locals := 134 }) D [(cJ, .long)] (wX aX aP aM aC aT aR cJ S) [.ref aX, .int a0] (fun r u => (f_X6_relocated S a0).1 = 0 ∧ r = (f_X6_relocated S a0).2.1 ∧ u = (f_X6_relocated S a0).2.2) (fun k u => ¬ (f_X6_relocated S a0).1 = 0 ∧ k = (f_X6_relocated S a0).1 ∧ u = (f_X6_relocated S a0).2.2) (fun u => (wX aX aP aM aC aT aR cJ u)) 1 6 := by
  refine fun sz => q_x_of (cc := cX6_relocated) (maxL := 2) (ret := (some .long)) (by decide) rfl (Nat.le_of_ble_eq_true rfl) ?_
  intro p e s m below meth c ls hx hb hr hml hown hts hlocks hout hsz hP hK hD hE hZ hl
  subst hsz
  generalize hAe : va_A (wX aX aP aM aC aT aR cJ S) s.heap.size = A at hD hZ ⊢
  have hA : ∀ q, s.heap.size ≤ q → A q := fun q h => by rw [← hAe]; exact Or.inr h
  have hS : va_S A s.heap s.heap [] := va_S.rf
  have hown : s.vm.findClass RX6 = some m.cls := hown
  have hl : lv_has ls 2 [(0, .ref aX), (1, .int a0)] := hl
  have hfix : CallFix p m c cX6_relocated 2 s [.ref aX, .int a0].toArray wsX6_relocated RX6 := ⟨hx, hb, hml, hown, hts⟩
  have hin3 : ∀ w ∈ wsX60, w ∈ wsX6_relocated := by decide +kernel
  refine lv_iload_n hx hb dX6_relocated_0 rfl (lv_at hl 1 rfl) ?_
  refine lv_iconst (v := 1) hx hb dX6_relocated_1 (by decide) ?_
  refine lv_icmp_lt (tgt := 18) hx hb dX6_relocated_2 (by decide) (fun c1 => ?_) (fun c1 => ?_)
  · obtain ⟨sa, hsa⟩ := hE.1 (173, "there is no such address") (by decide +kernel)
    exact q_throwN (cls := "java/util/NoSuchElementException") (text := "there is no such address") (names := ["java/lang/RuntimeException", "java/lang/Exception"]) (ik := 156) (is := 173) (ic := 160) 3 S hx hb hlk hown (by decide +kernel) (by decide +kernel) (hts (.classLink RX6 156 "java/util/NoSuchElementException") (by decide +kernel)) (hts (.initialized "java/util/NoSuchElementException") (by decide +kernel)) hsa (vx_hat (fun w h => hts w (List.mem_cons_of_mem _ (List.mem_append_right _ h))) q_bd160 (q_nw hE)) q_ok160 hZ hS (hl.1.trans hml.symm) dX6_relocated_18 dX6_relocated_21 dX6_relocated_22 dX6_relocated_24 dX6_relocated_27 hout (by decide) (by decide) (by decide) (by decide) hlocks hP hD (by decide) (q_x3 (by rw [f_X6_relocated, if_pos c1]) (by decide)) (by decide) (by decide)
  · refine lv_iload_n hx hb dX6_relocated_5 rfl (lv_at hl 1 rfl) ?_
    refine lv_aload_n hx hb dX6_relocated_6 rfl (lv_at hl 0 rfl) ?_
    refine va_get (D := D) (ci := 3) (v := .ref aM) (C := RX6) (T := TX6) (N := 4) hx hb hts hin3 hown hK hP 0 rfl rfl 0 (by decide) (hts (.fieldLink RX6 10 "FieldTrace" "memory" "LFieldTrace$Memory;") (by decide +kernel)) (fun _ h9 => h9) rfl dX6_relocated_7 ?_
    refine lv_bipush (v := 6) hx hb dX6_relocated_10 (by decide) ?_
    refine q_callVi (As := [.int 6]) (rest := [.int a0]) (q0 := 0) (ci := 0) (C := RX1) (c_X1_beginningOf l D aM aC cJ (pP_mem (pX_p S)) 6) hfix (cwV 1 hts gX6_relocated_X1_beginningOf rfl rfl rfl (by decide +kernel) ⟨Nat.le_of_ble_eq_true rfl, Nat.le_of_ble_eq_true rfl⟩) rfl hl.1 rfl (Nat.le_of_ble_eq_true rfl) ⟨by decide, by decide⟩ hP hK hS hA [2, 3] [0] rfl rfl rfl rfl rfl dX6_relocated_12 (fun H locs hP hS => ?_)
    refine lv_icmp_lt (tgt := 28) hx hb dX6_relocated_15 (by decide) (fun c2 => ?_) (fun c2 => ?_)
    · refine lv_aload_n hx hb dX6_relocated_28 rfl (lv_at hl 0 rfl) ?_
      refine va_get (D := D) (ci := 3) (v := .ref aM) (C := RX6) (T := TX6) (N := 4) hx hb hts hin3 hown hK hP 0 rfl rfl 0 (by decide) (hts (.fieldLink RX6 10 "FieldTrace" "memory" "LFieldTrace$Memory;") (by decide +kernel)) (fun _ h9 => h9) rfl dX6_relocated_29 ?_
      refine lv_iload_n hx hb dX6_relocated_32 rfl (lv_at hl 1 rfl) ?_
      refine q_callVl (As := [.int a0]) (rest := []) (q0 := 0) (ci := 0) (C := RX1) (c_X1_relocatedAt l D aM aC cJ (pP_mem (pX_p S)) a0) hfix (cwV 1 hts gX6_relocated_X1_relocatedAt rfl rfl rfl (by decide +kernel) ⟨Nat.le_of_ble_eq_true rfl, Nat.le_of_ble_eq_true rfl⟩) rfl hl.1 rfl (Nat.le_of_ble_eq_true rfl) ⟨by decide, by decide⟩ hP hK hS hA [2, 3] [0] rfl rfl rfl rfl rfl dX6_relocated_33 (fun H locs hP hS => ?_)
      exact q_xrl S hx hb hr hlocks (by decide) (by decide) hP hD hS (q_p3 (by rw [f_X6_relocated, if_neg c1, if_pos c2])) dX6_relocated_36
    · obtain ⟨sa, hsa⟩ := hE.1 (173, "there is no such address") (by decide +kernel)
      exact q_throwN (cls := "java/util/NoSuchElementException") (text := "there is no such address") (names := ["java/lang/RuntimeException", "java/lang/Exception"]) (ik := 156) (is := 173) (ic := 160) 3 S hx hb hlk hown (by decide +kernel) (by decide +kernel) (hts (.classLink RX6 156 "java/util/NoSuchElementException") (by decide +kernel)) (hts (.initialized "java/util/NoSuchElementException") (by decide +kernel)) hsa (vx_hat (fun w h => hts w (List.mem_cons_of_mem _ (List.mem_append_right _ h))) q_bd160 (q_nw hE)) q_ok160 hZ hS (hl.1.trans hml.symm) dX6_relocated_18 dX6_relocated_21 dX6_relocated_22 dX6_relocated_24 dX6_relocated_27 hout (by decide) (by decide) (by decide) (by decide) hlocks hP hD (by decide) (q_x3 (by rw [f_X6_relocated, if_neg c1, if_neg c2]) (by decide)) (by decide) (by decide)

def f_X6_reckon_J54 (S : XS) (a0 : Int32) (a1 : Int64) (a2 : Int64) : Int32 × Int64 × XS :=
  (if a0 = 0 then (0, (f_X0_sum (f_X0_reduce a1) (f_X0_reduce a2)), S) else (if a0 = 1 then (0, (f_X0_difference (f_X0_reduce a1) (f_X0_reduce a2)), S) else (if a0 = 2 then (0, (f_X0_product (f_X0_reduce a1) (f_X0_reduce a2)), S) else (0, (f_X0_quotient (f_X0_reduce a1) (f_X0_reduce a2)), S))))

def f_X6_reckon (S : XS) (a0 : Int32) (a1 : Int64) (a2 : Int64) : Int32 × Int64 × XS :=
  (if a0 < 0 then (1, 0, S) else (if a0 ≤ 3 then (if a0 = 3 then (if (f_X0_reduce a2) = 0 then (4, 0, S) else (f_X6_reckon_J54 S a0 a1 a2)) else (f_X6_reckon_J54 S a0 a1 a2)) else (1, 0, S)))

set_option maxHeartbeats 4000000 in
set_option maxRecDepth 100000 in
theorem c_X6_reckon (l : Launch) (hlk : l.stackTraces = false) (D : va_G) (aX aP aM aC aT aR : Nat) (cJ : ClassId) (S : XS) (a0 : Int32) (a1 : Int64) (a2 : Int64) : q_xL l yX6_reckon wsX6_reckon ({ frames := 6, cells := 1, slots := 6, locals := 92 }) D [(cJ, .long)] (wX aX aP aM aC aT aR cJ S) [.ref aX, .int a0, .long a1, .long a2] (fun r u => (f_X6_reckon S a0 a1 a2).1 = 0 ∧ r = (f_X6_reckon S a0 a1 a2).2.1 ∧ u = (f_X6_reckon S a0 a1 a2).2.2) (fun k u => ¬ (f_X6_reckon S a0 a1 a2).1 = 0 ∧ k = (f_X6_reckon S a0 a1 a2).1 ∧ u = (f_X6_reckon S a0 a1 a2).2.2) (fun u => (wX aX aP aM aC aT aR cJ u)) 1 6 := by
  refine fun sz => q_x_of (cc := cX6_reckon) (maxL := 10) (ret := (some .long)) (by decide) rfl (Nat.le_of_ble_eq_true rfl) ?_
  intro p e s m below meth c ls hx hb hr hml hown hts hlocks hout hsz hP hK hD hE hZ hl
  subst hsz
  generalize hAe : va_A (wX aX aP aM aC aT aR cJ S) s.heap.size = A at hD hZ ⊢
  have hA : ∀ q, s.heap.size ≤ q → A q := fun q h => by rw [← hAe]; exact Or.inr h
  have hS : va_S A s.heap s.heap [] := va_S.rf
  have hown : s.vm.findClass RX6 = some m.cls := hown
  have hl : lv_has ls 10 [(0, .ref aX), (1, .int a0), (2, .long a1), (4, .long a2)] := hl
  have hfix : CallFix p m c cX6_reckon 10 s [.ref aX, .int a0, .long a1, .long a2].toArray wsX6_reckon RX6 := ⟨hx, hb, hml, hown, hts⟩
  refine lv_iload_n hx hb dX6_reckon_0 rfl (lv_at hl 1 rfl) ?_
  refine lv_if_lt (tgt := 9) hx hb dX6_reckon_1 (by decide) (fun c1 => ?_) (fun c1 => ?_)
  · obtain ⟨sa, hsa⟩ := hE.1 (179, "the operation is not 0 .. 3") (by decide +kernel)
    exact q_throw (cls := "java/lang/IllegalArgumentException") (text := "the operation is not 0 .. 3") (names := ["java/lang/RuntimeException", "java/lang/Exception"]) (ik := 42) (is := 179) (ic := 46) 1 S hx hb hlk hown (by decide +kernel) (by decide +kernel) (hts (.classLink RX6 42 "java/lang/IllegalArgumentException") (by decide +kernel)) (hts (.initialized "java/lang/IllegalArgumentException") (by decide +kernel)) hsa (vx_hat (fun w h => hts w (List.mem_cons_of_mem _ (List.mem_append_left _ (List.mem_append_right _ h)))) q_bd46 (q_nw hE)) q_ok46 hZ hS (hl.1.trans hml.symm) dX6_reckon_9 dX6_reckon_12 dX6_reckon_13 dX6_reckon_15 dX6_reckon_18 hout (by decide) (by decide) (by decide) (by decide) hlocks hP hD (by decide) (q_x3 (by rw [f_X6_reckon, if_pos c1]) (by decide)) (by decide) (by decide)
  · refine lv_iload_n hx hb dX6_reckon_4 rfl (lv_at hl 1 rfl) ?_
    refine lv_iconst (v := 3) hx hb dX6_reckon_5 (by decide) ?_
    refine lv_icmp_le (tgt := 19) hx hb dX6_reckon_6 (by decide) (fun c2 => ?_) (fun c2 => ?_)
    · refine lv_lload_n hx hb dX6_reckon_19 rfl (lv_at hl 2 rfl) ?_
      refine q_callSl (As := [.long a1]) (rest := []) (c_X0_reduce l D a1) hfix (va_cwS 1 hts gX6_reckon_X0_reduce rfl rfl rfl (by decide +kernel) ⟨Nat.le_of_ble_eq_true rfl, Nat.le_of_ble_eq_true rfl⟩) rfl hl.1 rfl (Nat.le_of_ble_eq_true rfl) ⟨by decide, by decide⟩ hP hK hS hA [] [] rfl rfl dX6_reckon_20 (fun H locs hP hS => ?_)
      refine lv_lstore (lv' := [(6, .long (f_X0_reduce a1)), (0, .ref aX), (1, .int a0), (2, .long a1), (4, .long a2)]) hx hb dX6_reckon_23 hl (by decide) rfl (fun ls hl => ?_)
      refine lv_lload hx hb dX6_reckon_25 (lv_at hl 4 rfl) ?_
      refine q_callSl (As := [.long a2]) (rest := []) (c_X0_reduce l D a2) hfix (va_cwS 1 hts gX6_reckon_X0_reduce rfl rfl rfl (by decide +kernel) ⟨Nat.le_of_ble_eq_true rfl, Nat.le_of_ble_eq_true rfl⟩) rfl hl.1 rfl (Nat.le_of_ble_eq_true rfl) ⟨by decide, by decide⟩ hP hK hS hA [] [] rfl rfl dX6_reckon_27 (fun H locs hP hS => ?_)
      refine lv_lstore (lv' := [(8, .long (f_X0_reduce a2)), (6, .long (f_X0_reduce a1)), (0, .ref aX), (1, .int a0), (2, .long a1), (4, .long a2)]) hx hb dX6_reckon_30 hl (by decide) rfl (fun ls hl => ?_)
      refine lv_iload_n hx hb dX6_reckon_32 rfl (lv_at hl 3 rfl) ?_
      refine lv_iconst (v := 3) hx hb dX6_reckon_33 (by decide) ?_
      have kJ54 : ∀ (H : Heap) (locs : List Loc) (ls : Array Slot), (f_X6_reckon S a0 a1 a2) = (f_X6_reckon_J54 S a0 a1 a2) → va_P D vwCl (wX aX aP aM aC aT aR cJ S) H → va_D A (wX aX aP aM aC aT aR cJ S) → va_S A s.heap H locs → lv_has ls 10 [(0, .ref aX), (1, .int a0), (2, .long a1), (4, .long a2), (6, .long (f_X0_reduce a1)), (8, .long (f_X0_reduce a2))] → W p l e ({ frames := 6, cells := 1, slots := 6, locals := 92 }) s m [.ref aX, .int a0, .long a1, .long a2].toArray below meth c H locs 0 0 (vx_MQ below (va_Ql (fun r u => (f_X6_reckon S a0 a1 a2).1 = 0 ∧ r = (f_X6_reckon S a0 a1 a2).2.1 ∧ u = (f_X6_reckon S a0 a1 a2).2.2) (fun u t => va_P D vwCl ((fun u => (wX aX aP aM aC aT aR cJ u)) u) t.heap ∧ va_D A ((fun u => (wX aX aP aM aC aT aR cJ u)) u)) A) (q_XX D A (fun k u => ¬ (f_X6_reckon S a0 a1 a2).1 = 0 ∧ k = (f_X6_reckon S a0 a1 a2).1 ∧ u = (f_X6_reckon S a0 a1 a2).2.2) (fun u => (wX aX aP aM aC aT aR cJ u))) [.ref aX, .int a0, .long a1, .long a2].toArray s 1 6 A) (F0 m 54 ls []) := by
        intro H locs ls hJ54 hP hD hS hl
        refine lv_iload_n hx hb dX6_reckon_54 rfl (lv_at hl 1 rfl) ?_
        by_cases c5 : a0 = 0
        · refine lv_tableIn (off := 25) (tgt := 80) hx hb dX6_reckon_55 (by rw [c5]; decide) (by rw [c5]; decide) (by rw [c5]; rfl) (by decide) ?_
          refine lv_lload hx hb dX6_reckon_80 (lv_at hl 4 rfl) ?_
          refine lv_lload hx hb dX6_reckon_82 (lv_at hl 5 rfl) ?_
          refine q_callSl (As := [.long (f_X0_reduce a1), .long (f_X0_reduce a2)]) (rest := []) (c_X0_sum l D (f_X0_reduce a1) (f_X0_reduce a2)) hfix (va_cwS 2 hts gX6_reckon_X0_sum rfl rfl rfl (by decide +kernel) ⟨Nat.le_of_ble_eq_true rfl, Nat.le_of_ble_eq_true rfl⟩) rfl hl.1 rfl (Nat.le_of_ble_eq_true rfl) ⟨by decide, by decide⟩ hP hK hS hA [] [] rfl rfl dX6_reckon_84 (fun H locs hP hS => ?_)
          exact q_xrl S hx hb hr hlocks (by decide) (by decide) hP hD hS (q_p3 (by rw [hJ54, f_X6_reckon_J54, if_pos c5])) dX6_reckon_87
        · by_cases c6 : a0 = 1
          · refine lv_tableIn (off := 33) (tgt := 88) hx hb dX6_reckon_55 (by rw [c6]; decide) (by rw [c6]; decide) (by rw [c6]; rfl) (by decide) ?_
            refine lv_lload hx hb dX6_reckon_88 (lv_at hl 4 rfl) ?_
            refine lv_lload hx hb dX6_reckon_90 (lv_at hl 5 rfl) ?_
            refine q_callSl (As := [.long (f_X0_reduce a1), .long (f_X0_reduce a2)]) (rest := []) (c_X0_difference l D (f_X0_reduce a1) (f_X0_reduce a2)) hfix (va_cwS 2 hts gX6_reckon_X0_difference rfl rfl rfl (by decide +kernel) ⟨Nat.le_of_ble_eq_true rfl, Nat.le_of_ble_eq_true rfl⟩) rfl hl.1 rfl (Nat.le_of_ble_eq_true rfl) ⟨by decide, by decide⟩ hP hK hS hA [] [] rfl rfl dX6_reckon_92 (fun H locs hP hS => ?_)
            exact q_xrl S hx hb hr hlocks (by decide) (by decide) hP hD hS (q_p3 (by rw [hJ54, f_X6_reckon_J54, if_neg c5, if_pos c6])) dX6_reckon_95
          · by_cases c7 : a0 = 2
            · refine lv_tableIn (off := 41) (tgt := 96) hx hb dX6_reckon_55 (by rw [c7]; decide) (by rw [c7]; decide) (by rw [c7]; rfl) (by decide) ?_
              refine lv_lload hx hb dX6_reckon_96 (lv_at hl 4 rfl) ?_
              refine lv_lload hx hb dX6_reckon_98 (lv_at hl 5 rfl) ?_
              refine q_callSl (As := [.long (f_X0_reduce a1), .long (f_X0_reduce a2)]) (rest := []) (c_X0_product l D (f_X0_reduce a1) (f_X0_reduce a2)) hfix (va_cwS 2 hts gX6_reckon_X0_product rfl rfl rfl (by decide +kernel) ⟨Nat.le_of_ble_eq_true rfl, Nat.le_of_ble_eq_true rfl⟩) rfl hl.1 rfl (Nat.le_of_ble_eq_true rfl) ⟨by decide, by decide⟩ hP hK hS hA [] [] rfl rfl dX6_reckon_100 (fun H locs hP hS => ?_)
              exact q_xrl S hx hb hr hlocks (by decide) (by decide) hP hD hS (q_p3 (by rw [hJ54, f_X6_reckon_J54, if_neg c5, if_neg c6, if_pos c7])) dX6_reckon_103
            · refine lv_tableOut (tgt := 104) hx hb dX6_reckon_55 (by have z0 := lv_neT c5 (a := 0) rfl; have z1 := lv_neT c6 (a := 1) rfl; have z2 := lv_neT c7 (a := 2) rfl; omega) (by decide) ?_
              refine lv_lload hx hb dX6_reckon_104 (lv_at hl 4 rfl) ?_
              refine lv_lload hx hb dX6_reckon_106 (lv_at hl 5 rfl) ?_
              refine q_callSl (As := [.long (f_X0_reduce a1), .long (f_X0_reduce a2)]) (rest := []) (c_X0_quotient l D (f_X0_reduce a1) (f_X0_reduce a2)) hfix (va_cwS 2 hts gX6_reckon_X0_quotient rfl rfl rfl (by decide +kernel) ⟨Nat.le_of_ble_eq_true rfl, Nat.le_of_ble_eq_true rfl⟩) rfl hl.1 rfl (Nat.le_of_ble_eq_true rfl) ⟨by decide, by decide⟩ hP hK hS hA [] [] rfl rfl dX6_reckon_108 (fun H locs hP hS => ?_)
              exact q_xrl S hx hb hr hlocks (by decide) (by decide) hP hD hS (q_p3 (by rw [hJ54, f_X6_reckon_J54, if_neg c5, if_neg c6, if_neg c7])) dX6_reckon_111
      refine lv_icmp_ne (tgt := 54) hx hb dX6_reckon_34 (by decide) (fun c3 => ?_) (fun c3 => ?_)
      · exact kJ54 _ _ _ (by rw [f_X6_reckon, if_neg c1, if_pos c2, if_neg c3]) hP hD hS (lv_sub hl [2, 3, 4, 5, 1, 0] rfl)
      · refine lv_lload hx hb dX6_reckon_37 (lv_at hl 0 rfl) ?_
        refine lv_lconst (v := 0) hx hb dX6_reckon_39 (by decide) ?_
        refine q_ne (tgt := 54) hx hb dX6_reckon_40 dX6_reckon_41 (by decide) (fun c4 => ?_) (fun c4 => ?_)
        · exact kJ54 _ _ _ (by rw [f_X6_reckon, if_neg c1, if_pos c2, if_pos c3, if_neg c4]) hP hD hS (lv_sub hl [2, 3, 4, 5, 1, 0] rfl)
        · obtain ⟨sa, hsa⟩ := hE.1 (183, "a division by 0") (by decide +kernel)
          exact q_throw (cls := "java/lang/ArithmeticException") (text := "a division by 0") (names := ["java/lang/RuntimeException", "java/lang/Exception"]) (ik := 181) (is := 183) (ic := 185) 4 S hx hb hlk hown (by decide +kernel) (by decide +kernel) (hts (.classLink RX6 181 "java/lang/ArithmeticException") (by decide +kernel)) (hts (.initialized "java/lang/ArithmeticException") (by decide +kernel)) hsa (vx_hat (fun w h => hts w (List.mem_cons_of_mem _ (List.mem_append_right _ h))) q_bd185 (q_nw hE)) q_ok185 hZ hS (hl.1.trans hml.symm) dX6_reckon_44 dX6_reckon_47 dX6_reckon_48 dX6_reckon_50 dX6_reckon_53 hout (by decide) (by decide) (by decide) (by decide) hlocks hP hD (by decide) (q_x3 (by rw [f_X6_reckon, if_neg c1, if_pos c2, if_pos c3, if_pos c4]) (by decide)) (by decide) (by decide)
    · obtain ⟨sa, hsa⟩ := hE.1 (179, "the operation is not 0 .. 3") (by decide +kernel)
      exact q_throw (cls := "java/lang/IllegalArgumentException") (text := "the operation is not 0 .. 3") (names := ["java/lang/RuntimeException", "java/lang/Exception"]) (ik := 42) (is := 179) (ic := 46) 1 S hx hb hlk hown (by decide +kernel) (by decide +kernel) (hts (.classLink RX6 42 "java/lang/IllegalArgumentException") (by decide +kernel)) (hts (.initialized "java/lang/IllegalArgumentException") (by decide +kernel)) hsa (vx_hat (fun w h => hts w (List.mem_cons_of_mem _ (List.mem_append_left _ (List.mem_append_right _ h)))) q_bd46 (q_nw hE)) q_ok46 hZ hS (hl.1.trans hml.symm) dX6_reckon_9 dX6_reckon_12 dX6_reckon_13 dX6_reckon_15 dX6_reckon_18 hout (by decide) (by decide) (by decide) (by decide) hlocks hP hD (by decide) (q_x3 (by rw [f_X6_reckon, if_neg c1, if_neg c2]) (by decide)) (by decide) (by decide)

