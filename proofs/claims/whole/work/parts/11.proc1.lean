def f_X2_reckoned (a0 : Int64) : Int32 :=
  (if a0 = (-1) then 4 else 0)

set_option maxHeartbeats 4000000 in
set_option maxRecDepth 100000 in
theorem c_X2_reckoned (l : Launch) (D : va_G) (a0 : Int64) : q_roI l yX2_reckoned wsX2_reckoned ({ frames := 0, cells := 0, slots := 0, locals := 0 }) D [] [] [.long a0] (f_X2_reckoned a0) := by
  refine q_roI_of (cc := cX2_reckoned) (maxL := 2) (ret := (some .int)) (plainFor_of_name (by decide)) rfl (Nat.le_of_ble_eq_true rfl) ?_
  intro p e s m below meth c ls A hx hb hr hml hown hts hlocks hP hK hA hS hl
  have hown : s.vm.findClass RX2 = some m.cls := hown
  have hl : lv_has ls 2 [(0, .long a0)] := hl
  refine lv_lload_n hx hb dX2_reckoned_0 rfl (lv_at hl 0 rfl) ?_
  refine lv_ldc2 (v := -1) hx hb hown (hts (.constantLong RX2 95 (-1)) (by decide +kernel)) dX2_reckoned_1 ?_
  refine q_ne (tgt := 12) hx hb dX2_reckoned_4 dX2_reckoned_5 (by decide) (fun c1 => ?_) (fun c1 => ?_)
  · refine lv_iconst (v := 0) hx hb dX2_reckoned_12 (by decide) ?_
    exact q_ri hx hb hr hlocks hS (Eq.symm (by rw [f_X2_reckoned, if_neg c1])) dX2_reckoned_13
  · refine lv_iconst (v := 4) hx hb dX2_reckoned_8 (by decide) ?_
    refine lv_goto (tgt := 13) hx hb dX2_reckoned_9 (by decide) ?_
    exact q_ri hx hb hr hlocks hS (Eq.symm (by rw [f_X2_reckoned, if_pos c1])) dX2_reckoned_13

def f_X2_has (S : PS) (a0 : Int32) : Int32 :=
  (if ((pP_flags S) &&& a0) = 0 then 0 else 1)

set_option maxHeartbeats 4000000 in
set_option maxRecDepth 100000 in
theorem c_X2_has (l : Launch) (D : va_G) (aP aM aC : Nat) (cJ : ClassId) (S : PS) (a0 : Int32) : q_roI l yX2_has wsX2_has ({ frames := 0, cells := 0, slots := 0, locals := 0 }) D [(cJ, .long)] (wP aP aM aC cJ S) [.ref aP, .int a0] (f_X2_has S a0) := by
  refine q_roI_of (cc := cX2_has) (maxL := 2) (ret := (some .boolean)) (plainFor_of_name (by decide)) rfl (Nat.le_of_ble_eq_true rfl) ?_
  intro p e s m below meth c ls A hx hb hr hml hown hts hlocks hP hK hA hS hl
  have hown : s.vm.findClass RX2 = some m.cls := hown
  have hl : lv_has ls 2 [(0, .ref aP), (1, .int a0)] := hl
  have hin1 : ∀ w ∈ wsX20, w ∈ wsX2_has := by decide +kernel
  refine lv_aload_n hx hb dX2_has_0 rfl (lv_at hl 0 rfl) ?_
  refine va_get (D := D) (ci := 1) (v := .int (pP_flags S)) (C := RX2) (T := TX2) (N := 13) hx hb hts hin1 hown hK hP 0 rfl rfl 8 (by decide) (hts (.fieldLink RX2 108 "FieldTrace$Processor" "flags" "I") (by decide +kernel)) (fun _ h9 => h9) rfl dX2_has_1 ?_
  refine lv_iload_n hx hb dX2_has_4 rfl (lv_at hl 1 rfl) ?_
  refine lv_iand hx hb dX2_has_5 ?_
  refine lv_if_eq (tgt := 13) hx hb dX2_has_6 (by decide) (fun c1 => ?_) (fun c1 => ?_)
  · refine lv_iconst (v := 0) hx hb dX2_has_13 (by decide) ?_
    exact q_rz hx hb hr hlocks (rfl) hS (Eq.symm (by rw [f_X2_has, if_pos c1])) dX2_has_14
  · refine lv_iconst (v := 1) hx hb dX2_has_9 (by decide) ?_
    refine lv_goto (tgt := 14) hx hb dX2_has_10 (by decide) ?_
    exact q_rz hx hb hr hlocks (rfl) hS (Eq.symm (by rw [f_X2_has, if_neg c1])) dX2_has_14

def f_X2_behindInstruction (S : PS) : Int64 :=
  (f_X4_shifted (pP_pc S) (((f_X5_sizeOf (pP_word S)) : Int32).toInt64))

set_option maxHeartbeats 4000000 in
set_option maxRecDepth 100000 in
theorem c_X2_behindInstruction (l : Launch) (D : va_G) (aP aM aC : Nat) (cJ : ClassId) (S : PS) : q_roL l yX2_behindInstruction wsX2_behindInstruction ({ frames := 2, cells := 0, slots := 0, locals := 45 }) D [(cJ, .long)] (wP aP aM aC cJ S) [.ref aP] (f_X2_behindInstruction S) := by
  refine q_roL_of (cc := cX2_behindInstruction) (maxL := 1) (ret := (some .long)) (plainFor_of_name (by decide)) rfl (Nat.le_of_ble_eq_true rfl) ?_
  intro p e s m below meth c ls A hx hb hr hml hown hts hlocks hP hK hA hS hl
  have hown : s.vm.findClass RX2 = some m.cls := hown
  have hl : lv_has ls 1 [(0, .ref aP)] := hl
  have hfix : CallFix p m c cX2_behindInstruction 1 s [.ref aP].toArray wsX2_behindInstruction RX2 := ⟨hx, hb, hml, hown, hts⟩
  have hin1 : ∀ w ∈ wsX20, w ∈ wsX2_behindInstruction := by decide +kernel
  refine lv_aload_n hx hb dX2_behindInstruction_0 rfl (lv_at hl 0 rfl) ?_
  refine va_get (D := D) (ci := 1) (v := .long (pP_pc S)) (C := RX2) (T := TX2) (N := 13) hx hb hts hin1 hown hK hP 0 rfl rfl 1 (by decide) (hts (.fieldLink RX2 19 "FieldTrace$Processor" "pc" "J") (by decide +kernel)) (fun _ h9 => h9) rfl dX2_behindInstruction_1 ?_
  refine lv_aload_n hx hb dX2_behindInstruction_4 rfl (lv_at hl 0 rfl) ?_
  refine va_get (D := D) (ci := 1) (v := .long (pP_word S)) (C := RX2) (T := TX2) (N := 13) hx hb hts hin1 hown hK hP 0 rfl rfl 7 (by decide) (hts (.fieldLink RX2 92 "FieldTrace$Processor" "word" "J") (by decide +kernel)) (fun _ h9 => h9) rfl dX2_behindInstruction_5 ?_
  refine q_callSi (As := [.long (pP_word S)]) (rest := [.long (pP_pc S)]) (c_X5_sizeOf l D (pP_word S)) hfix (va_cwS 1 hts gX2_behindInstruction_X5_sizeOf rfl rfl rfl (by decide +kernel) ⟨Nat.le_of_ble_eq_true rfl, Nat.le_of_ble_eq_true rfl⟩) rfl hl.1 rfl (Nat.le_of_ble_eq_true rfl) ⟨Nat.zero_le _, Nat.zero_le _⟩ hP hK hS hA [] [] rfl rfl dX2_behindInstruction_8 (fun H locs hP hS => ?_)
  refine lv_i2l hx hb dX2_behindInstruction_11 rfl ?_
  refine q_callSl (As := [.long (pP_pc S), .long (((f_X5_sizeOf (pP_word S)) : Int32).toInt64)]) (rest := []) (c_X4_shifted l D (pP_pc S) (((f_X5_sizeOf (pP_word S)) : Int32).toInt64)) hfix (va_cwS 2 hts gX2_behindInstruction_X4_shifted rfl rfl rfl (by decide +kernel) ⟨Nat.le_of_ble_eq_true rfl, Nat.le_of_ble_eq_true rfl⟩) rfl hl.1 rfl (Nat.le_of_ble_eq_true rfl) ⟨Nat.zero_le _, Nat.zero_le _⟩ hP hK hS hA [] [] rfl rfl dX2_behindInstruction_12 (fun H locs hP hS => ?_)
  exact q_rl hx hb hr hlocks hS (Eq.symm (by rw [f_X2_behindInstruction])) dX2_behindInstruction_15

def f_X2_look (S : PS) (a0 : Int64) : Int64 :=
  (f_X1_look (pP_mem S) (f_X4_segmentOf a0) (f_X4_cellOf a0))

set_option maxHeartbeats 4000000 in
set_option maxRecDepth 100000 in
theorem c_X2_look (l : Launch) (D : va_G) (aP aM aC : Nat) (cJ : ClassId) (S : PS) (a0 : Int64) : q_roL l yX2_look wsX2_look ({ frames := 2, cells := 0, slots := 0, locals := 43 }) D [(cJ, .long)] (wP aP aM aC cJ S) [.ref aP, .long a0] (f_X2_look S a0) := by
  refine q_roL_of (cc := cX2_look) (maxL := 3) (ret := (some .long)) (plainFor_of_name (by decide)) rfl (Nat.le_of_ble_eq_true rfl) ?_
  intro p e s m below meth c ls A hx hb hr hml hown hts hlocks hP hK hA hS hl
  have hown : s.vm.findClass RX2 = some m.cls := hown
  have hl : lv_has ls 3 [(0, .ref aP), (1, .long a0)] := hl
  have hfix : CallFix p m c cX2_look 3 s [.ref aP, .long a0].toArray wsX2_look RX2 := ⟨hx, hb, hml, hown, hts⟩
  have hin1 : ∀ w ∈ wsX20, w ∈ wsX2_look := by decide +kernel
  refine lv_aload_n hx hb dX2_look_0 rfl (lv_at hl 0 rfl) ?_
  refine va_get (D := D) (ci := 1) (v := .ref aM) (C := RX2) (T := TX2) (N := 13) hx hb hts hin1 hown hK hP 0 rfl rfl 0 (by decide) (hts (.fieldLink RX2 7 "FieldTrace$Processor" "memory" "LFieldTrace$Memory;") (by decide +kernel)) (fun _ h9 => h9) rfl dX2_look_1 ?_
  refine lv_lload_n hx hb dX2_look_4 rfl (lv_at hl 1 rfl) ?_
  refine q_callSi (As := [.long a0]) (rest := [.ref aM]) (c_X4_segmentOf l D a0) hfix (va_cwS 1 hts gX2_look_X4_segmentOf rfl rfl rfl (by decide +kernel) ⟨Nat.le_of_ble_eq_true rfl, Nat.le_of_ble_eq_true rfl⟩) rfl hl.1 rfl (Nat.le_of_ble_eq_true rfl) ⟨Nat.zero_le _, Nat.zero_le _⟩ hP hK hS hA [] [] rfl rfl dX2_look_5 (fun H locs hP hS => ?_)
  refine lv_lload_n hx hb dX2_look_8 rfl (lv_at hl 1 rfl) ?_
  refine q_callSi (As := [.long a0]) (rest := [.int (f_X4_segmentOf a0), .ref aM]) (c_X4_cellOf l D a0) hfix (va_cwS 1 hts gX2_look_X4_cellOf rfl rfl rfl (by decide +kernel) ⟨Nat.le_of_ble_eq_true rfl, Nat.le_of_ble_eq_true rfl⟩) rfl hl.1 rfl (Nat.le_of_ble_eq_true rfl) ⟨Nat.zero_le _, Nat.zero_le _⟩ hP hK hS hA [] [] rfl rfl dX2_look_9 (fun H locs hP hS => ?_)
  refine q_callVl (As := [.int (f_X4_segmentOf a0), .int (f_X4_cellOf a0)]) (rest := []) (q0 := 0) (ci := 0) (C := RX1) (c_X1_look l D aM aC cJ (pP_mem S) (f_X4_segmentOf a0) (f_X4_cellOf a0)) hfix (cwV 2 hts gX2_look_X1_look rfl rfl rfl (by decide +kernel) ⟨Nat.le_of_ble_eq_true rfl, Nat.le_of_ble_eq_true rfl⟩) rfl hl.1 rfl (Nat.le_of_ble_eq_true rfl) ⟨Nat.zero_le _, Nat.zero_le _⟩ hP hK hS hA [1, 2] [0] rfl rfl rfl rfl rfl dX2_look_12 (fun H locs hP hS => ?_)
  exact q_rl hx hb hr hlocks hS (Eq.symm (by rw [f_X2_look])) dX2_look_15

def f_X2_put (S : PS) (a0 : Int64) (a1 : Int64) : Int32 × PS :=
  (if ((f_X1_write (pP_mem S) (f_X4_segmentOf a0) (f_X4_cellOf a0) a1).1) = 0 then (2, (sP_mem S (f_X1_write (pP_mem S) (f_X4_segmentOf a0) (f_X4_cellOf a0) a1).2)) else (0, (sP_mem S (f_X1_write (pP_mem S) (f_X4_segmentOf a0) (f_X4_cellOf a0) a1).2)))

set_option maxHeartbeats 4000000 in
set_option maxRecDepth 100000 in
theorem c_X2_put (l : Launch) (D : va_G) (aP aM aC : Nat) (cJ : ClassId) (S : PS) (a0 : Int64) (a1 : Int64) : q_muI l yX2_put wsX2_put ({ frames := 4, cells := 0, slots := 0, locals := 92 }) D [(cJ, .long)] (wP aP aM aC cJ S) [.ref aP, .long a0, .long a1] (fun r u => r = (f_X2_put S a0 a1).1 ∧ u = (f_X2_put S a0 a1).2) (fun u => (wP aP aM aC cJ u)) := by
  refine q_muI_of (cc := cX2_put) (maxL := 5) (ret := (some .int)) (plainFor_of_name (by decide)) rfl (Nat.le_of_ble_eq_true rfl) ?_
  intro p e s m below meth c ls A hx hb hr hml hown hts hlocks hP hK hD hA hS hl
  have hown : s.vm.findClass RX2 = some m.cls := hown
  have hl : lv_has ls 5 [(0, .ref aP), (1, .long a0), (3, .long a1)] := hl
  have hfix : CallFix p m c cX2_put 5 s [.ref aP, .long a0, .long a1].toArray wsX2_put RX2 := ⟨hx, hb, hml, hown, hts⟩
  have hin1 : ∀ w ∈ wsX20, w ∈ wsX2_put := by decide +kernel
  refine lv_aload_n hx hb dX2_put_0 rfl (lv_at hl 0 rfl) ?_
  refine va_get (D := D) (ci := 1) (v := .ref aM) (C := RX2) (T := TX2) (N := 13) hx hb hts hin1 hown hK hP 0 rfl rfl 0 (by decide) (hts (.fieldLink RX2 7 "FieldTrace$Processor" "memory" "LFieldTrace$Memory;") (by decide +kernel)) (fun _ h9 => h9) rfl dX2_put_1 ?_
  refine lv_lload_n hx hb dX2_put_4 rfl (lv_at hl 1 rfl) ?_
  refine q_callSi (As := [.long a0]) (rest := [.ref aM]) (c_X4_segmentOf l D a0) hfix (va_cwS 1 hts gX2_put_X4_segmentOf rfl rfl rfl (by decide +kernel) ⟨Nat.le_of_ble_eq_true rfl, Nat.le_of_ble_eq_true rfl⟩) rfl hl.1 rfl (Nat.le_of_ble_eq_true rfl) ⟨Nat.zero_le _, Nat.zero_le _⟩ hP hK hS hA [] [] rfl rfl dX2_put_5 (fun H locs hP hS => ?_)
  refine lv_lload_n hx hb dX2_put_8 rfl (lv_at hl 1 rfl) ?_
  refine q_callSi (As := [.long a0]) (rest := [.int (f_X4_segmentOf a0), .ref aM]) (c_X4_cellOf l D a0) hfix (va_cwS 1 hts gX2_put_X4_cellOf rfl rfl rfl (by decide +kernel) ⟨Nat.le_of_ble_eq_true rfl, Nat.le_of_ble_eq_true rfl⟩) rfl hl.1 rfl (Nat.le_of_ble_eq_true rfl) ⟨Nat.zero_le _, Nat.zero_le _⟩ hP hK hS hA [] [] rfl rfl dX2_put_9 (fun H locs hP hS => ?_)
  refine lv_lload_n hx hb dX2_put_12 rfl (lv_at hl 2 rfl) ?_
  refine q_callMi (As := [.int (f_X4_segmentOf a0), .int (f_X4_cellOf a0), .long a1]) (rest := []) (wr := [(aP, .inr (1, [.ref aM, .long (pP_pc S), .long (pP_ap S), .long (pP_fp S), .long (pP_newPc S), .long (pP_newAp S), .long (pP_newFp S), .long (pP_word S), .int (pP_flags S), .long (pP_dstPlace S), .long (pP_op0Place S), .long (pP_op1Place S), .long (pP_res S)]))]) (Wn := (fun u => (wP aP aM aC cJ (sP_mem S u)))) (q0 := 0) (ci := 0) (C := RX1) (c_X1_write l D aM aC cJ (pP_mem S) (f_X4_segmentOf a0) (f_X4_cellOf a0) a1) hfix (cwV 3 hts gX2_put_X1_write rfl rfl rfl (by decide +kernel) ⟨Nat.le_of_ble_eq_true rfl, Nat.le_of_ble_eq_true rfl⟩) rfl hl.1 rfl (Nat.le_of_ble_eq_true rfl) ⟨Nat.zero_le _, Nat.zero_le _⟩ hP hK hD hS hA [1, 2] [0] [0, 1, 2] [0] rfl rfl rfl (by decide) (by decide) (by decide) (by decide) (fun _ => rfl) (fun _ => rfl) rfl rfl rfl rfl dX2_put_13 (fun r u H locs hw hP hD hS => ?_)
  obtain ⟨rfl, rfl⟩ := hw
  have hP : va_P D vwCl (wP aP aM aC cJ (sP_mem S (f_X1_write (pP_mem S) (f_X4_segmentOf a0) (f_X4_cellOf a0) a1).2)) H := hP
  have hD : va_D A (wP aP aM aC cJ (sP_mem S (f_X1_write (pP_mem S) (f_X4_segmentOf a0) (f_X4_cellOf a0) a1).2)) := hD
  refine lv_if_eq (tgt := 23) hx hb dX2_put_16 (by decide) (fun c1 => ?_) (fun c1 => ?_)
  · refine lv_iconst (v := 2) hx hb dX2_put_23 (by decide) ?_
    exact q_mi (sP_mem S (f_X1_write (pP_mem S) (f_X4_segmentOf a0) (f_X4_cellOf a0) a1).2) hx hb hr hlocks hP hD hS (q_pair (by rw [f_X2_put, if_pos c1])) dX2_put_24
  · refine lv_iconst (v := 0) hx hb dX2_put_19 (by decide) ?_
    refine lv_goto (tgt := 24) hx hb dX2_put_20 (by decide) ?_
    exact q_mi (sP_mem S (f_X1_write (pP_mem S) (f_X4_segmentOf a0) (f_X4_cellOf a0) a1).2) hx hb hr hlocks hP hD hS (q_pair (by rw [f_X2_put, if_neg c1])) dX2_put_24

def f_X2_fetch (S : PS) : Int32 × PS :=
  (if (pP_word (sP_word S (f_X2_look S (pP_pc S)))) = (-1) then (1, (sP_word S (f_X2_look S (pP_pc S)))) else (if (f_X4_isNumber (pP_word (sP_word S (f_X2_look S (pP_pc S))))) = 0 then (3, (sP_word S (f_X2_look S (pP_pc S)))) else (if (f_X5_isInstruction (pP_word (sP_word S (f_X2_look S (pP_pc S))))) = 0 then (3, (sP_word S (f_X2_look S (pP_pc S)))) else (0, (sP_flags (sP_word S (f_X2_look S (pP_pc S))) (f_X5_flagsOf (pP_word (sP_word S (f_X2_look S (pP_pc S))))))))))

set_option maxHeartbeats 4000000 in
set_option maxRecDepth 100000 in
theorem c_X2_fetch (l : Launch) (D : va_G) (aP aM aC : Nat) (cJ : ClassId) (S : PS) : q_muI l yX2_fetch wsX2_fetch ({ frames := 4, cells := 0, slots := 0, locals := 83 }) D [(cJ, .long)] (wP aP aM aC cJ S) [.ref aP] (fun r u => r = (f_X2_fetch S).1 ∧ u = (f_X2_fetch S).2) (fun u => (wP aP aM aC cJ u)) := by
  refine q_muI_of (cc := cX2_fetch) (maxL := 1) (ret := (some .int)) (plainFor_of_name (by decide)) rfl (Nat.le_of_ble_eq_true rfl) ?_
  intro p e s m below meth c ls A hx hb hr hml hown hts hlocks hP hK hD hA hS hl
  have hown : s.vm.findClass RX2 = some m.cls := hown
  have hl : lv_has ls 1 [(0, .ref aP)] := hl
  have hfix : CallFix p m c cX2_fetch 1 s [.ref aP].toArray wsX2_fetch RX2 := ⟨hx, hb, hml, hown, hts⟩
  have hin1 : ∀ w ∈ wsX20, w ∈ wsX2_fetch := by decide +kernel
  refine lv_aload_n hx hb dX2_fetch_0 rfl (lv_at hl 0 rfl) ?_
  refine lv_aload_n hx hb dX2_fetch_1 rfl (lv_at hl 0 rfl) ?_
  refine lv_aload_n hx hb dX2_fetch_2 rfl (lv_at hl 0 rfl) ?_
  refine va_get (D := D) (ci := 1) (v := .long (pP_pc S)) (C := RX2) (T := TX2) (N := 13) hx hb hts hin1 hown hK hP 0 rfl rfl 1 (by decide) (hts (.fieldLink RX2 19 "FieldTrace$Processor" "pc" "J") (by decide +kernel)) (fun _ h9 => h9) rfl dX2_fetch_3 ?_
  refine q_callVl (As := [.long (pP_pc S)]) (rest := [.ref aP]) (q0 := 0) (ci := 1) (C := RX2) (c_X2_look l D aP aM aC cJ S (pP_pc S)) hfix (cwV 1 hts gX2_fetch_X2_look rfl rfl rfl (by decide +kernel) ⟨Nat.le_of_ble_eq_true rfl, Nat.le_of_ble_eq_true rfl⟩) rfl hl.1 rfl (Nat.le_of_ble_eq_true rfl) ⟨Nat.zero_le _, Nat.zero_le _⟩ hP hK hS hA [0, 1, 2] [0] rfl rfl rfl rfl rfl dX2_fetch_6 (fun H locs hP hS => ?_)
  refine va_put (D := D) (ci := 1) (v := .long (f_X2_look S (pP_pc S))) (ty := .long) (C := RX2) (T := TX2) (N := 13) hx hb hts hin1 tyX2 tyX2_ok nmX2 hown hK hP hD hS 0 rfl rfl 7 (by decide) (hts (.fieldLink RX2 92 "FieldTrace$Processor" "word" "J") (by decide +kernel)) (fun _ h9 => h9) rfl (by decide +kernel) (rfl) (rfl) (Nat.le_of_ble_eq_true rfl) dX2_fetch_9 (fun H locs hP hD hS => ?_)
  have hP : va_P D vwCl (wP aP aM aC cJ (sP_word S (f_X2_look S (pP_pc S)))) H := hP
  have hD : va_D A (wP aP aM aC cJ (sP_word S (f_X2_look S (pP_pc S)))) := hD
  refine lv_aload_n hx hb dX2_fetch_12 rfl (lv_at hl 0 rfl) ?_
  refine va_get (D := D) (ci := 1) (v := .long (pP_word (sP_word S (f_X2_look S (pP_pc S))))) (C := RX2) (T := TX2) (N := 13) hx hb hts hin1 hown hK hP 0 rfl rfl 7 (by decide) (hts (.fieldLink RX2 92 "FieldTrace$Processor" "word" "J") (by decide +kernel)) (fun _ h9 => h9) rfl dX2_fetch_13 ?_
  refine lv_ldc2 (v := -1) hx hb hown (hts (.constantLong RX2 95 (-1)) (by decide +kernel)) dX2_fetch_16 ?_
  refine q_ne (tgt := 25) hx hb dX2_fetch_19 dX2_fetch_20 (by decide) (fun c1 => ?_) (fun c1 => ?_)
  · refine lv_aload_n hx hb dX2_fetch_25 rfl (lv_at hl 0 rfl) ?_
    refine va_get (D := D) (ci := 1) (v := .long (pP_word (sP_word S (f_X2_look S (pP_pc S))))) (C := RX2) (T := TX2) (N := 13) hx hb hts hin1 hown hK hP 0 rfl rfl 7 (by decide) (hts (.fieldLink RX2 92 "FieldTrace$Processor" "word" "J") (by decide +kernel)) (fun _ h9 => h9) rfl dX2_fetch_26 ?_
    refine q_callSi (As := [.long (pP_word (sP_word S (f_X2_look S (pP_pc S))))]) (rest := []) (c_X4_isNumber l D (pP_word (sP_word S (f_X2_look S (pP_pc S))))) hfix (va_cwS 1 hts gX2_fetch_X4_isNumber rfl rfl rfl (by decide +kernel) ⟨Nat.le_of_ble_eq_true rfl, Nat.le_of_ble_eq_true rfl⟩) rfl hl.1 rfl (Nat.le_of_ble_eq_true rfl) ⟨Nat.zero_le _, Nat.zero_le _⟩ hP hK hS hA [] [] rfl rfl dX2_fetch_29 (fun H locs hP hS => ?_)
    refine lv_if_eq (tgt := 45) hx hb dX2_fetch_32 (by decide) (fun c2 => ?_) (fun c2 => ?_)
    · refine lv_iconst (v := 3) hx hb dX2_fetch_45 (by decide) ?_
      exact q_mi (sP_word S (f_X2_look S (pP_pc S))) hx hb hr hlocks hP hD hS (q_pair (by rw [f_X2_fetch, if_neg c1, if_pos c2])) dX2_fetch_46
    · refine lv_aload_n hx hb dX2_fetch_35 rfl (lv_at hl 0 rfl) ?_
      refine va_get (D := D) (ci := 1) (v := .long (pP_word (sP_word S (f_X2_look S (pP_pc S))))) (C := RX2) (T := TX2) (N := 13) hx hb hts hin1 hown hK hP 0 rfl rfl 7 (by decide) (hts (.fieldLink RX2 92 "FieldTrace$Processor" "word" "J") (by decide +kernel)) (fun _ h9 => h9) rfl dX2_fetch_36 ?_
      refine q_callSi (As := [.long (pP_word (sP_word S (f_X2_look S (pP_pc S))))]) (rest := []) (c_X5_isInstruction l D (pP_word (sP_word S (f_X2_look S (pP_pc S))))) hfix (va_cwS 1 hts gX2_fetch_X5_isInstruction rfl rfl rfl (by decide +kernel) ⟨Nat.le_of_ble_eq_true rfl, Nat.le_of_ble_eq_true rfl⟩) rfl hl.1 rfl (Nat.le_of_ble_eq_true rfl) ⟨Nat.zero_le _, Nat.zero_le _⟩ hP hK hS hA [] [] rfl rfl dX2_fetch_39 (fun H locs hP hS => ?_)
      refine lv_if_ne (tgt := 47) hx hb dX2_fetch_42 (by decide) (fun c3 => ?_) (fun c3 => ?_)
      · refine lv_aload_n hx hb dX2_fetch_47 rfl (lv_at hl 0 rfl) ?_
        refine lv_aload_n hx hb dX2_fetch_48 rfl (lv_at hl 0 rfl) ?_
        refine va_get (D := D) (ci := 1) (v := .long (pP_word (sP_word S (f_X2_look S (pP_pc S))))) (C := RX2) (T := TX2) (N := 13) hx hb hts hin1 hown hK hP 0 rfl rfl 7 (by decide) (hts (.fieldLink RX2 92 "FieldTrace$Processor" "word" "J") (by decide +kernel)) (fun _ h9 => h9) rfl dX2_fetch_49 ?_
        refine q_callSi (As := [.long (pP_word (sP_word S (f_X2_look S (pP_pc S))))]) (rest := [.ref aP]) (c_X5_flagsOf l D (pP_word (sP_word S (f_X2_look S (pP_pc S))))) hfix (va_cwS 1 hts gX2_fetch_X5_flagsOf rfl rfl rfl (by decide +kernel) ⟨Nat.le_of_ble_eq_true rfl, Nat.le_of_ble_eq_true rfl⟩) rfl hl.1 rfl (Nat.le_of_ble_eq_true rfl) ⟨Nat.zero_le _, Nat.zero_le _⟩ hP hK hS hA [] [] rfl rfl dX2_fetch_52 (fun H locs hP hS => ?_)
        refine va_put (D := D) (ci := 1) (v := .int (f_X5_flagsOf (pP_word (sP_word S (f_X2_look S (pP_pc S)))))) (ty := .int) (C := RX2) (T := TX2) (N := 13) hx hb hts hin1 tyX2 tyX2_ok nmX2 hown hK hP hD hS 0 rfl rfl 8 (by decide) (hts (.fieldLink RX2 108 "FieldTrace$Processor" "flags" "I") (by decide +kernel)) (fun _ h9 => h9) rfl (by decide +kernel) (rfl) (rfl) (Nat.le_of_ble_eq_true rfl) dX2_fetch_55 (fun H locs hP hD hS => ?_)
        have hP : va_P D vwCl (wP aP aM aC cJ (sP_flags (sP_word S (f_X2_look S (pP_pc S))) (f_X5_flagsOf (pP_word (sP_word S (f_X2_look S (pP_pc S))))))) H := hP
        have hD : va_D A (wP aP aM aC cJ (sP_flags (sP_word S (f_X2_look S (pP_pc S))) (f_X5_flagsOf (pP_word (sP_word S (f_X2_look S (pP_pc S))))))) := hD
        refine lv_iconst (v := 0) hx hb dX2_fetch_58 (by decide) ?_
        exact q_mi (sP_flags (sP_word S (f_X2_look S (pP_pc S))) (f_X5_flagsOf (pP_word (sP_word S (f_X2_look S (pP_pc S)))))) hx hb hr hlocks hP hD hS (q_pair (by rw [f_X2_fetch, if_neg c1, if_neg c2, if_neg c3])) dX2_fetch_59
      · refine lv_iconst (v := 3) hx hb dX2_fetch_45 (by decide) ?_
        exact q_mi (sP_word S (f_X2_look S (pP_pc S))) hx hb hr hlocks hP hD hS (q_pair (by rw [f_X2_fetch, if_neg c1, if_neg c2, if_pos c3])) dX2_fetch_46
  · refine lv_iconst (v := 1) hx hb dX2_fetch_23 (by decide) ?_
    exact q_mi (sP_word S (f_X2_look S (pP_pc S))) hx hb hr hlocks hP hD hS (q_pair (by rw [f_X2_fetch, if_pos c1])) dX2_fetch_24

def f_X2_placeDstAndOp0_J55 (S : PS) (t0_20 : Int64) (t0_55 : Int64) : Int32 × PS :=
  (if (f_X2_reckoned (pP_dstPlace (sP_op0Place (sP_dstPlace S (f_X4_shifted t0_20 (((f_X5_offsetOf (pP_word S) 0) : Int32).toInt64))) (f_X4_shifted t0_55 (((f_X5_offsetOf (pP_word (sP_dstPlace S (f_X4_shifted t0_20 (((f_X5_offsetOf (pP_word S) 0) : Int32).toInt64)))) 1) : Int32).toInt64))))) = 0 then ((f_X2_reckoned (pP_op0Place (sP_op0Place (sP_dstPlace S (f_X4_shifted t0_20 (((f_X5_offsetOf (pP_word S) 0) : Int32).toInt64))) (f_X4_shifted t0_55 (((f_X5_offsetOf (pP_word (sP_dstPlace S (f_X4_shifted t0_20 (((f_X5_offsetOf (pP_word S) 0) : Int32).toInt64)))) 1) : Int32).toInt64))))), (sP_op0Place (sP_dstPlace S (f_X4_shifted t0_20 (((f_X5_offsetOf (pP_word S) 0) : Int32).toInt64))) (f_X4_shifted t0_55 (((f_X5_offsetOf (pP_word (sP_dstPlace S (f_X4_shifted t0_20 (((f_X5_offsetOf (pP_word S) 0) : Int32).toInt64)))) 1) : Int32).toInt64)))) else (4, (sP_op0Place (sP_dstPlace S (f_X4_shifted t0_20 (((f_X5_offsetOf (pP_word S) 0) : Int32).toInt64))) (f_X4_shifted t0_55 (((f_X5_offsetOf (pP_word (sP_dstPlace S (f_X4_shifted t0_20 (((f_X5_offsetOf (pP_word S) 0) : Int32).toInt64)))) 1) : Int32).toInt64)))))

def f_X2_placeDstAndOp0_J20 (S : PS) (t0_20 : Int64) : Int32 × PS :=
  (if (f_X2_has (sP_dstPlace S (f_X4_shifted t0_20 (((f_X5_offsetOf (pP_word S) 0) : Int32).toInt64))) 2) = 0 then (f_X2_placeDstAndOp0_J55 S t0_20 (pP_ap (sP_dstPlace S (f_X4_shifted t0_20 (((f_X5_offsetOf (pP_word S) 0) : Int32).toInt64))))) else (f_X2_placeDstAndOp0_J55 S t0_20 (pP_fp (sP_dstPlace S (f_X4_shifted t0_20 (((f_X5_offsetOf (pP_word S) 0) : Int32).toInt64))))))

def f_X2_placeDstAndOp0 (S : PS) : Int32 × PS :=
  (if (f_X2_has S 1) = 0 then (f_X2_placeDstAndOp0_J20 S (pP_ap S)) else (f_X2_placeDstAndOp0_J20 S (pP_fp S)))

set_option maxHeartbeats 4000000 in
set_option maxRecDepth 100000 in
theorem c_X2_placeDstAndOp0 (l : Launch) (D : va_G) (aP aM aC : Nat) (cJ : ClassId) (S : PS) : q_muI l yX2_placeDstAndOp0 wsX2_placeDstAndOp0 ({ frames := 2, cells := 0, slots := 0, locals := 45 }) D [(cJ, .long)] (wP aP aM aC cJ S) [.ref aP] (fun r u => r = (f_X2_placeDstAndOp0 S).1 ∧ u = (f_X2_placeDstAndOp0 S).2) (fun u => (wP aP aM aC cJ u)) := by
  refine q_muI_of (cc := cX2_placeDstAndOp0) (maxL := 1) (ret := (some .int)) (plainFor_of_name (by decide)) rfl (Nat.le_of_ble_eq_true rfl) ?_
  intro p e s m below meth c ls A hx hb hr hml hown hts hlocks hP hK hD hA hS hl
  have hown : s.vm.findClass RX2 = some m.cls := hown
  have hl : lv_has ls 1 [(0, .ref aP)] := hl
  have hfix : CallFix p m c cX2_placeDstAndOp0 1 s [.ref aP].toArray wsX2_placeDstAndOp0 RX2 := ⟨hx, hb, hml, hown, hts⟩
  have hin1 : ∀ w ∈ wsX20, w ∈ wsX2_placeDstAndOp0 := by decide +kernel
  refine lv_aload_n hx hb dX2_placeDstAndOp0_0 rfl (lv_at hl 0 rfl) ?_
  refine lv_aload_n hx hb dX2_placeDstAndOp0_1 rfl (lv_at hl 0 rfl) ?_
  refine lv_iconst (v := 1) hx hb dX2_placeDstAndOp0_2 (by decide) ?_
  refine q_callVi (As := [.int 1]) (rest := [.ref aP]) (q0 := 0) (ci := 1) (C := RX2) (c_X2_has l D aP aM aC cJ S 1) hfix (cwV 1 hts gX2_placeDstAndOp0_X2_has rfl rfl rfl (by decide +kernel) ⟨Nat.le_of_ble_eq_true rfl, Nat.le_of_ble_eq_true rfl⟩) rfl hl.1 rfl (Nat.le_of_ble_eq_true rfl) ⟨Nat.zero_le _, Nat.zero_le _⟩ hP hK hS hA [0, 1, 2] [0] rfl rfl rfl rfl rfl dX2_placeDstAndOp0_3 (fun H locs hP hS => ?_)
  have kJ20 : ∀ (t0_20 : Int64) (H : Heap) (locs : List Loc) (ls : Array Slot), (f_X2_placeDstAndOp0 S) = (f_X2_placeDstAndOp0_J20 S t0_20) → va_P D vwCl (wP aP aM aC cJ S) H → va_D A (wP aP aM aC cJ S) → va_S A s.heap H locs → lv_has ls 1 [(0, .ref aP)] → W p l e ({ frames := 2, cells := 0, slots := 0, locals := 45 }) s m [.ref aP].toArray below meth c H locs 0 0 (MQ below (va_Qi (fun r u => r = (f_X2_placeDstAndOp0 S).1 ∧ u = (f_X2_placeDstAndOp0 S).2) (fun u t => va_P D vwCl ((fun u => (wP aP aM aC cJ u)) u) t.heap ∧ va_D A ((fun u => (wP aP aM aC cJ u)) u)) A) [.ref aP].toArray s 0 0 A) (F0 m 20 ls [.long t0_20, .ref aP]) := by
    intro t0_20 H locs ls hJ20 hP hD hS hl
    refine lv_aload_n hx hb dX2_placeDstAndOp0_20 rfl (lv_at hl 0 rfl) ?_
    refine va_get (D := D) (ci := 1) (v := .long (pP_word S)) (C := RX2) (T := TX2) (N := 13) hx hb hts hin1 hown hK hP 0 rfl rfl 7 (by decide) (hts (.fieldLink RX2 92 "FieldTrace$Processor" "word" "J") (by decide +kernel)) (fun _ h9 => h9) rfl dX2_placeDstAndOp0_21 ?_
    refine lv_iconst (v := 0) hx hb dX2_placeDstAndOp0_24 (by decide) ?_
    refine q_callSi (As := [.long (pP_word S), .int 0]) (rest := [.long t0_20, .ref aP]) (c_X5_offsetOf l D (pP_word S) 0) hfix (va_cwS 2 hts gX2_placeDstAndOp0_X5_offsetOf rfl rfl rfl (by decide +kernel) ⟨Nat.le_of_ble_eq_true rfl, Nat.le_of_ble_eq_true rfl⟩) rfl hl.1 rfl (Nat.le_of_ble_eq_true rfl) ⟨Nat.zero_le _, Nat.zero_le _⟩ hP hK hS hA [] [] rfl rfl dX2_placeDstAndOp0_25 (fun H locs hP hS => ?_)
    refine lv_i2l hx hb dX2_placeDstAndOp0_28 rfl ?_
    refine q_callSl (As := [.long t0_20, .long (((f_X5_offsetOf (pP_word S) 0) : Int32).toInt64)]) (rest := [.ref aP]) (c_X4_shifted l D t0_20 (((f_X5_offsetOf (pP_word S) 0) : Int32).toInt64)) hfix (va_cwS 2 hts gX2_placeDstAndOp0_X4_shifted rfl rfl rfl (by decide +kernel) ⟨Nat.le_of_ble_eq_true rfl, Nat.le_of_ble_eq_true rfl⟩) rfl hl.1 rfl (Nat.le_of_ble_eq_true rfl) ⟨Nat.zero_le _, Nat.zero_le _⟩ hP hK hS hA [] [] rfl rfl dX2_placeDstAndOp0_29 (fun H locs hP hS => ?_)
    refine va_put (D := D) (ci := 1) (v := .long (f_X4_shifted t0_20 (((f_X5_offsetOf (pP_word S) 0) : Int32).toInt64))) (ty := .long) (C := RX2) (T := TX2) (N := 13) hx hb hts hin1 tyX2 tyX2_ok nmX2 hown hK hP hD hS 0 rfl rfl 9 (by decide) (hts (.fieldLink RX2 54 "FieldTrace$Processor" "dstPlace" "J") (by decide +kernel)) (fun _ h9 => h9) rfl (by decide +kernel) (rfl) (rfl) (Nat.le_of_ble_eq_true rfl) dX2_placeDstAndOp0_32 (fun H locs hP hD hS => ?_)
    have hP : va_P D vwCl (wP aP aM aC cJ (sP_dstPlace S (f_X4_shifted t0_20 (((f_X5_offsetOf (pP_word S) 0) : Int32).toInt64)))) H := hP
    have hD : va_D A (wP aP aM aC cJ (sP_dstPlace S (f_X4_shifted t0_20 (((f_X5_offsetOf (pP_word S) 0) : Int32).toInt64)))) := hD
    refine lv_aload_n hx hb dX2_placeDstAndOp0_35 rfl (lv_at hl 0 rfl) ?_
    refine lv_aload_n hx hb dX2_placeDstAndOp0_36 rfl (lv_at hl 0 rfl) ?_
    refine lv_iconst (v := 2) hx hb dX2_placeDstAndOp0_37 (by decide) ?_
    refine q_callVi (As := [.int 2]) (rest := [.ref aP]) (q0 := 0) (ci := 1) (C := RX2) (c_X2_has l D aP aM aC cJ (sP_dstPlace S (f_X4_shifted t0_20 (((f_X5_offsetOf (pP_word S) 0) : Int32).toInt64))) 2) hfix (cwV 1 hts gX2_placeDstAndOp0_X2_has rfl rfl rfl (by decide +kernel) ⟨Nat.le_of_ble_eq_true rfl, Nat.le_of_ble_eq_true rfl⟩) rfl hl.1 rfl (Nat.le_of_ble_eq_true rfl) ⟨Nat.zero_le _, Nat.zero_le _⟩ hP hK hS hA [0, 1, 2] [0] rfl rfl rfl rfl rfl dX2_placeDstAndOp0_38 (fun H locs hP hS => ?_)
    have kJ55 : ∀ (t0_55 : Int64) (H : Heap) (locs : List Loc) (ls : Array Slot), (f_X2_placeDstAndOp0 S) = (f_X2_placeDstAndOp0_J55 S t0_20 t0_55) → va_P D vwCl (wP aP aM aC cJ (sP_dstPlace S (f_X4_shifted t0_20 (((f_X5_offsetOf (pP_word S) 0) : Int32).toInt64)))) H → va_D A (wP aP aM aC cJ (sP_dstPlace S (f_X4_shifted t0_20 (((f_X5_offsetOf (pP_word S) 0) : Int32).toInt64)))) → va_S A s.heap H locs → lv_has ls 1 [(0, .ref aP)] → W p l e ({ frames := 2, cells := 0, slots := 0, locals := 45 }) s m [.ref aP].toArray below meth c H locs 0 0 (MQ below (va_Qi (fun r u => r = (f_X2_placeDstAndOp0 S).1 ∧ u = (f_X2_placeDstAndOp0 S).2) (fun u t => va_P D vwCl ((fun u => (wP aP aM aC cJ u)) u) t.heap ∧ va_D A ((fun u => (wP aP aM aC cJ u)) u)) A) [.ref aP].toArray s 0 0 A) (F0 m 55 ls [.long t0_55, .ref aP]) := by
      intro t0_55 H locs ls hJ55 hP hD hS hl
      refine lv_aload_n hx hb dX2_placeDstAndOp0_55 rfl (lv_at hl 0 rfl) ?_
      refine va_get (D := D) (ci := 1) (v := .long (pP_word (sP_dstPlace S (f_X4_shifted t0_20 (((f_X5_offsetOf (pP_word S) 0) : Int32).toInt64))))) (C := RX2) (T := TX2) (N := 13) hx hb hts hin1 hown hK hP 0 rfl rfl 7 (by decide) (hts (.fieldLink RX2 92 "FieldTrace$Processor" "word" "J") (by decide +kernel)) (fun _ h9 => h9) rfl dX2_placeDstAndOp0_56 ?_
      refine lv_iconst (v := 1) hx hb dX2_placeDstAndOp0_59 (by decide) ?_
      refine q_callSi (As := [.long (pP_word (sP_dstPlace S (f_X4_shifted t0_20 (((f_X5_offsetOf (pP_word S) 0) : Int32).toInt64)))), .int 1]) (rest := [.long t0_55, .ref aP]) (c_X5_offsetOf l D (pP_word (sP_dstPlace S (f_X4_shifted t0_20 (((f_X5_offsetOf (pP_word S) 0) : Int32).toInt64)))) 1) hfix (va_cwS 2 hts gX2_placeDstAndOp0_X5_offsetOf rfl rfl rfl (by decide +kernel) ⟨Nat.le_of_ble_eq_true rfl, Nat.le_of_ble_eq_true rfl⟩) rfl hl.1 rfl (Nat.le_of_ble_eq_true rfl) ⟨Nat.zero_le _, Nat.zero_le _⟩ hP hK hS hA [] [] rfl rfl dX2_placeDstAndOp0_60 (fun H locs hP hS => ?_)
      refine lv_i2l hx hb dX2_placeDstAndOp0_63 rfl ?_
      refine q_callSl (As := [.long t0_55, .long (((f_X5_offsetOf (pP_word (sP_dstPlace S (f_X4_shifted t0_20 (((f_X5_offsetOf (pP_word S) 0) : Int32).toInt64)))) 1) : Int32).toInt64)]) (rest := [.ref aP]) (c_X4_shifted l D t0_55 (((f_X5_offsetOf (pP_word (sP_dstPlace S (f_X4_shifted t0_20 (((f_X5_offsetOf (pP_word S) 0) : Int32).toInt64)))) 1) : Int32).toInt64)) hfix (va_cwS 2 hts gX2_placeDstAndOp0_X4_shifted rfl rfl rfl (by decide +kernel) ⟨Nat.le_of_ble_eq_true rfl, Nat.le_of_ble_eq_true rfl⟩) rfl hl.1 rfl (Nat.le_of_ble_eq_true rfl) ⟨Nat.zero_le _, Nat.zero_le _⟩ hP hK hS hA [] [] rfl rfl dX2_placeDstAndOp0_64 (fun H locs hP hS => ?_)
      refine va_put (D := D) (ci := 1) (v := .long (f_X4_shifted t0_55 (((f_X5_offsetOf (pP_word (sP_dstPlace S (f_X4_shifted t0_20 (((f_X5_offsetOf (pP_word S) 0) : Int32).toInt64)))) 1) : Int32).toInt64))) (ty := .long) (C := RX2) (T := TX2) (N := 13) hx hb hts hin1 tyX2 tyX2_ok nmX2 hown hK hP hD hS 0 rfl rfl 10 (by decide) (hts (.fieldLink RX2 120 "FieldTrace$Processor" "op0Place" "J") (by decide +kernel)) (fun _ h9 => h9) rfl (by decide +kernel) (rfl) (rfl) (Nat.le_of_ble_eq_true rfl) dX2_placeDstAndOp0_67 (fun H locs hP hD hS => ?_)
      have hP : va_P D vwCl (wP aP aM aC cJ (sP_op0Place (sP_dstPlace S (f_X4_shifted t0_20 (((f_X5_offsetOf (pP_word S) 0) : Int32).toInt64))) (f_X4_shifted t0_55 (((f_X5_offsetOf (pP_word (sP_dstPlace S (f_X4_shifted t0_20 (((f_X5_offsetOf (pP_word S) 0) : Int32).toInt64)))) 1) : Int32).toInt64)))) H := hP
      have hD : va_D A (wP aP aM aC cJ (sP_op0Place (sP_dstPlace S (f_X4_shifted t0_20 (((f_X5_offsetOf (pP_word S) 0) : Int32).toInt64))) (f_X4_shifted t0_55 (((f_X5_offsetOf (pP_word (sP_dstPlace S (f_X4_shifted t0_20 (((f_X5_offsetOf (pP_word S) 0) : Int32).toInt64)))) 1) : Int32).toInt64)))) := hD
      refine lv_aload_n hx hb dX2_placeDstAndOp0_70 rfl (lv_at hl 0 rfl) ?_
      refine va_get (D := D) (ci := 1) (v := .long (pP_dstPlace (sP_op0Place (sP_dstPlace S (f_X4_shifted t0_20 (((f_X5_offsetOf (pP_word S) 0) : Int32).toInt64))) (f_X4_shifted t0_55 (((f_X5_offsetOf (pP_word (sP_dstPlace S (f_X4_shifted t0_20 (((f_X5_offsetOf (pP_word S) 0) : Int32).toInt64)))) 1) : Int32).toInt64))))) (C := RX2) (T := TX2) (N := 13) hx hb hts hin1 hown hK hP 0 rfl rfl 9 (by decide) (hts (.fieldLink RX2 54 "FieldTrace$Processor" "dstPlace" "J") (by decide +kernel)) (fun _ h9 => h9) rfl dX2_placeDstAndOp0_71 ?_
      refine q_callSi (As := [.long (pP_dstPlace (sP_op0Place (sP_dstPlace S (f_X4_shifted t0_20 (((f_X5_offsetOf (pP_word S) 0) : Int32).toInt64))) (f_X4_shifted t0_55 (((f_X5_offsetOf (pP_word (sP_dstPlace S (f_X4_shifted t0_20 (((f_X5_offsetOf (pP_word S) 0) : Int32).toInt64)))) 1) : Int32).toInt64))))]) (rest := []) (c_X2_reckoned l D (pP_dstPlace (sP_op0Place (sP_dstPlace S (f_X4_shifted t0_20 (((f_X5_offsetOf (pP_word S) 0) : Int32).toInt64))) (f_X4_shifted t0_55 (((f_X5_offsetOf (pP_word (sP_dstPlace S (f_X4_shifted t0_20 (((f_X5_offsetOf (pP_word S) 0) : Int32).toInt64)))) 1) : Int32).toInt64))))) hfix (va_cwS 1 hts gX2_placeDstAndOp0_X2_reckoned rfl rfl rfl (by decide +kernel) ⟨Nat.le_of_ble_eq_true rfl, Nat.le_of_ble_eq_true rfl⟩) rfl hl.1 rfl (Nat.le_of_ble_eq_true rfl) ⟨Nat.zero_le _, Nat.zero_le _⟩ hP hK hS hA [] [] rfl rfl dX2_placeDstAndOp0_74 (fun H locs hP hS => ?_)
      refine lv_if_ne (tgt := 90) hx hb dX2_placeDstAndOp0_77 (by decide) (fun c3 => ?_) (fun c3 => ?_)
      · refine lv_iconst (v := 4) hx hb dX2_placeDstAndOp0_90 (by decide) ?_
        exact q_mi (sP_op0Place (sP_dstPlace S (f_X4_shifted t0_20 (((f_X5_offsetOf (pP_word S) 0) : Int32).toInt64))) (f_X4_shifted t0_55 (((f_X5_offsetOf (pP_word (sP_dstPlace S (f_X4_shifted t0_20 (((f_X5_offsetOf (pP_word S) 0) : Int32).toInt64)))) 1) : Int32).toInt64))) hx hb hr hlocks hP hD hS (q_pair (by rw [hJ55, f_X2_placeDstAndOp0_J55, if_neg c3])) dX2_placeDstAndOp0_91
      · refine lv_aload_n hx hb dX2_placeDstAndOp0_80 rfl (lv_at hl 0 rfl) ?_
        refine va_get (D := D) (ci := 1) (v := .long (pP_op0Place (sP_op0Place (sP_dstPlace S (f_X4_shifted t0_20 (((f_X5_offsetOf (pP_word S) 0) : Int32).toInt64))) (f_X4_shifted t0_55 (((f_X5_offsetOf (pP_word (sP_dstPlace S (f_X4_shifted t0_20 (((f_X5_offsetOf (pP_word S) 0) : Int32).toInt64)))) 1) : Int32).toInt64))))) (C := RX2) (T := TX2) (N := 13) hx hb hts hin1 hown hK hP 0 rfl rfl 10 (by decide) (hts (.fieldLink RX2 120 "FieldTrace$Processor" "op0Place" "J") (by decide +kernel)) (fun _ h9 => h9) rfl dX2_placeDstAndOp0_81 ?_
        refine q_callSi (As := [.long (pP_op0Place (sP_op0Place (sP_dstPlace S (f_X4_shifted t0_20 (((f_X5_offsetOf (pP_word S) 0) : Int32).toInt64))) (f_X4_shifted t0_55 (((f_X5_offsetOf (pP_word (sP_dstPlace S (f_X4_shifted t0_20 (((f_X5_offsetOf (pP_word S) 0) : Int32).toInt64)))) 1) : Int32).toInt64))))]) (rest := []) (c_X2_reckoned l D (pP_op0Place (sP_op0Place (sP_dstPlace S (f_X4_shifted t0_20 (((f_X5_offsetOf (pP_word S) 0) : Int32).toInt64))) (f_X4_shifted t0_55 (((f_X5_offsetOf (pP_word (sP_dstPlace S (f_X4_shifted t0_20 (((f_X5_offsetOf (pP_word S) 0) : Int32).toInt64)))) 1) : Int32).toInt64))))) hfix (va_cwS 1 hts gX2_placeDstAndOp0_X2_reckoned rfl rfl rfl (by decide +kernel) ⟨Nat.le_of_ble_eq_true rfl, Nat.le_of_ble_eq_true rfl⟩) rfl hl.1 rfl (Nat.le_of_ble_eq_true rfl) ⟨Nat.zero_le _, Nat.zero_le _⟩ hP hK hS hA [] [] rfl rfl dX2_placeDstAndOp0_84 (fun H locs hP hS => ?_)
        refine lv_goto (tgt := 91) hx hb dX2_placeDstAndOp0_87 (by decide) ?_
        exact q_mi (sP_op0Place (sP_dstPlace S (f_X4_shifted t0_20 (((f_X5_offsetOf (pP_word S) 0) : Int32).toInt64))) (f_X4_shifted t0_55 (((f_X5_offsetOf (pP_word (sP_dstPlace S (f_X4_shifted t0_20 (((f_X5_offsetOf (pP_word S) 0) : Int32).toInt64)))) 1) : Int32).toInt64))) hx hb hr hlocks hP hD hS (q_pair (by rw [hJ55, f_X2_placeDstAndOp0_J55, if_pos c3])) dX2_placeDstAndOp0_91
    refine lv_if_eq (tgt := 51) hx hb dX2_placeDstAndOp0_41 (by decide) (fun c2 => ?_) (fun c2 => ?_)
    · refine lv_aload_n hx hb dX2_placeDstAndOp0_51 rfl (lv_at hl 0 rfl) ?_
      refine va_get (D := D) (ci := 1) (v := .long (pP_ap (sP_dstPlace S (f_X4_shifted t0_20 (((f_X5_offsetOf (pP_word S) 0) : Int32).toInt64))))) (C := RX2) (T := TX2) (N := 13) hx hb hts hin1 hown hK hP 0 rfl rfl 2 (by decide) (hts (.fieldLink RX2 23 "FieldTrace$Processor" "ap" "J") (by decide +kernel)) (fun _ h9 => h9) rfl dX2_placeDstAndOp0_52 ?_
      exact kJ55 (pP_ap (sP_dstPlace S (f_X4_shifted t0_20 (((f_X5_offsetOf (pP_word S) 0) : Int32).toInt64)))) _ _ _ (by rw [hJ20, f_X2_placeDstAndOp0_J20, if_pos c2]) hP hD hS (lv_sub hl [0] rfl)
    · refine lv_aload_n hx hb dX2_placeDstAndOp0_44 rfl (lv_at hl 0 rfl) ?_
      refine va_get (D := D) (ci := 1) (v := .long (pP_fp (sP_dstPlace S (f_X4_shifted t0_20 (((f_X5_offsetOf (pP_word S) 0) : Int32).toInt64))))) (C := RX2) (T := TX2) (N := 13) hx hb hts hin1 hown hK hP 0 rfl rfl 3 (by decide) (hts (.fieldLink RX2 26 "FieldTrace$Processor" "fp" "J") (by decide +kernel)) (fun _ h9 => h9) rfl dX2_placeDstAndOp0_45 ?_
      refine lv_goto (tgt := 55) hx hb dX2_placeDstAndOp0_48 (by decide) ?_
      exact kJ55 (pP_fp (sP_dstPlace S (f_X4_shifted t0_20 (((f_X5_offsetOf (pP_word S) 0) : Int32).toInt64)))) _ _ _ (by rw [hJ20, f_X2_placeDstAndOp0_J20, if_neg c2]) hP hD hS (lv_sub hl [0] rfl)
  refine lv_if_eq (tgt := 16) hx hb dX2_placeDstAndOp0_6 (by decide) (fun c1 => ?_) (fun c1 => ?_)
  · refine lv_aload_n hx hb dX2_placeDstAndOp0_16 rfl (lv_at hl 0 rfl) ?_
    refine va_get (D := D) (ci := 1) (v := .long (pP_ap S)) (C := RX2) (T := TX2) (N := 13) hx hb hts hin1 hown hK hP 0 rfl rfl 2 (by decide) (hts (.fieldLink RX2 23 "FieldTrace$Processor" "ap" "J") (by decide +kernel)) (fun _ h9 => h9) rfl dX2_placeDstAndOp0_17 ?_
    exact kJ20 (pP_ap S) _ _ _ (by rw [f_X2_placeDstAndOp0, if_pos c1]) hP hD hS (lv_sub hl [0] rfl)
  · refine lv_aload_n hx hb dX2_placeDstAndOp0_9 rfl (lv_at hl 0 rfl) ?_
    refine va_get (D := D) (ci := 1) (v := .long (pP_fp S)) (C := RX2) (T := TX2) (N := 13) hx hb hts hin1 hown hK hP 0 rfl rfl 3 (by decide) (hts (.fieldLink RX2 26 "FieldTrace$Processor" "fp" "J") (by decide +kernel)) (fun _ h9 => h9) rfl dX2_placeDstAndOp0_10 ?_
    refine lv_goto (tgt := 20) hx hb dX2_placeDstAndOp0_13 (by decide) ?_
    exact kJ20 (pP_fp S) _ _ _ (by rw [f_X2_placeDstAndOp0, if_neg c1]) hP hD hS (lv_sub hl [0] rfl)

def f_X2_saveForReturn (S : PS) : Int32 × PS :=
  (if ((f_X2_put S (pP_dstPlace S) (pP_fp S)).1) = 0 then ((f_X2_put (f_X2_put S (pP_dstPlace S) (pP_fp S)).2 (pP_op0Place (f_X2_put S (pP_dstPlace S) (pP_fp S)).2) (f_X2_behindInstruction (f_X2_put S (pP_dstPlace S) (pP_fp S)).2)).1, (f_X2_put (f_X2_put S (pP_dstPlace S) (pP_fp S)).2 (pP_op0Place (f_X2_put S (pP_dstPlace S) (pP_fp S)).2) (f_X2_behindInstruction (f_X2_put S (pP_dstPlace S) (pP_fp S)).2)).2) else ((f_X2_put S (pP_dstPlace S) (pP_fp S)).1, (f_X2_put S (pP_dstPlace S) (pP_fp S)).2))

set_option maxHeartbeats 4000000 in
set_option maxRecDepth 100000 in
theorem c_X2_saveForReturn (l : Launch) (D : va_G) (aP aM aC : Nat) (cJ : ClassId) (S : PS) : q_muI l yX2_saveForReturn wsX2_saveForReturn ({ frames := 5, cells := 0, slots := 0, locals := 116 }) D [(cJ, .long)] (wP aP aM aC cJ S) [.ref aP] (fun r u => r = (f_X2_saveForReturn S).1 ∧ u = (f_X2_saveForReturn S).2) (fun u => (wP aP aM aC cJ u)) := by
  refine q_muI_of (cc := cX2_saveForReturn) (maxL := 2) (ret := (some .int)) (plainFor_of_name (by decide)) rfl (Nat.le_of_ble_eq_true rfl) ?_
  intro p e s m below meth c ls A hx hb hr hml hown hts hlocks hP hK hD hA hS hl
  have hown : s.vm.findClass RX2 = some m.cls := hown
  have hl : lv_has ls 2 [(0, .ref aP)] := hl
  have hfix : CallFix p m c cX2_saveForReturn 2 s [.ref aP].toArray wsX2_saveForReturn RX2 := ⟨hx, hb, hml, hown, hts⟩
  have hin1 : ∀ w ∈ wsX20, w ∈ wsX2_saveForReturn := by decide +kernel
  refine lv_aload_n hx hb dX2_saveForReturn_0 rfl (lv_at hl 0 rfl) ?_
  refine lv_aload_n hx hb dX2_saveForReturn_1 rfl (lv_at hl 0 rfl) ?_
  refine va_get (D := D) (ci := 1) (v := .long (pP_dstPlace S)) (C := RX2) (T := TX2) (N := 13) hx hb hts hin1 hown hK hP 0 rfl rfl 9 (by decide) (hts (.fieldLink RX2 54 "FieldTrace$Processor" "dstPlace" "J") (by decide +kernel)) (fun _ h9 => h9) rfl dX2_saveForReturn_2 ?_
  refine lv_aload_n hx hb dX2_saveForReturn_5 rfl (lv_at hl 0 rfl) ?_
  refine va_get (D := D) (ci := 1) (v := .long (pP_fp S)) (C := RX2) (T := TX2) (N := 13) hx hb hts hin1 hown hK hP 0 rfl rfl 3 (by decide) (hts (.fieldLink RX2 26 "FieldTrace$Processor" "fp" "J") (by decide +kernel)) (fun _ h9 => h9) rfl dX2_saveForReturn_6 ?_
  refine q_callMi (As := [.long (pP_dstPlace S), .long (pP_fp S)]) (rest := []) (wr := []) (Wn := (fun u => (wP aP aM aC cJ u))) (q0 := 0) (ci := 1) (C := RX2) (c_X2_put l D aP aM aC cJ S (pP_dstPlace S) (pP_fp S)) hfix (cwV 2 hts gX2_saveForReturn_X2_put rfl rfl rfl (by decide +kernel) ⟨Nat.le_of_ble_eq_true rfl, Nat.le_of_ble_eq_true rfl⟩) rfl hl.1 rfl (Nat.le_of_ble_eq_true rfl) ⟨Nat.zero_le _, Nat.zero_le _⟩ hP hK hD hS hA [0, 1, 2] [] [0, 1, 2] [0] rfl rfl rfl (by decide) (by decide) (by decide) (by decide) (fun _ => rfl) (fun _ => rfl) rfl rfl rfl rfl dX2_saveForReturn_9 (fun r u H locs hw hP hD hS => ?_)
  obtain ⟨rfl, rfl⟩ := hw
  have hP : va_P D vwCl (wP aP aM aC cJ (f_X2_put S (pP_dstPlace S) (pP_fp S)).2) H := hP
  have hD : va_D A (wP aP aM aC cJ (f_X2_put S (pP_dstPlace S) (pP_fp S)).2) := hD
  refine lv_istore_n (lv' := [(1, .int ((f_X2_put S (pP_dstPlace S) (pP_fp S)).1)), (0, .ref aP)]) hx hb dX2_saveForReturn_12 rfl hl (by decide) rfl (fun ls hl => ?_)
  refine lv_iload_n hx hb dX2_saveForReturn_13 rfl (lv_at hl 0 rfl) ?_
  refine lv_if_ne (tgt := 32) hx hb dX2_saveForReturn_14 (by decide) (fun c1 => ?_) (fun c1 => ?_)
  · refine lv_iload_n hx hb dX2_saveForReturn_32 rfl (lv_at hl 0 rfl) ?_
    exact q_mi ((f_X2_put S (pP_dstPlace S) (pP_fp S)).2) hx hb hr hlocks hP hD hS (q_pair (by rw [f_X2_saveForReturn, if_neg c1])) dX2_saveForReturn_33
  · refine lv_aload_n hx hb dX2_saveForReturn_17 rfl (lv_at hl 1 rfl) ?_
    refine lv_aload_n hx hb dX2_saveForReturn_18 rfl (lv_at hl 1 rfl) ?_
    refine va_get (D := D) (ci := 1) (v := .long (pP_op0Place (f_X2_put S (pP_dstPlace S) (pP_fp S)).2)) (C := RX2) (T := TX2) (N := 13) hx hb hts hin1 hown hK hP 0 rfl rfl 10 (by decide) (hts (.fieldLink RX2 120 "FieldTrace$Processor" "op0Place" "J") (by decide +kernel)) (fun _ h9 => h9) rfl dX2_saveForReturn_19 ?_
    refine lv_aload_n hx hb dX2_saveForReturn_22 rfl (lv_at hl 1 rfl) ?_
    refine q_callVl (As := []) (rest := [.long (pP_op0Place (f_X2_put S (pP_dstPlace S) (pP_fp S)).2), .ref aP]) (q0 := 0) (ci := 1) (C := RX2) (c_X2_behindInstruction l D aP aM aC cJ ((f_X2_put S (pP_dstPlace S) (pP_fp S)).2)) hfix (cwV 0 hts gX2_saveForReturn_X2_behindInstruction rfl rfl rfl (by decide +kernel) ⟨Nat.le_of_ble_eq_true rfl, Nat.le_of_ble_eq_true rfl⟩) rfl hl.1 rfl (Nat.le_of_ble_eq_true rfl) ⟨Nat.zero_le _, Nat.zero_le _⟩ hP hK hS hA [0, 1, 2] [0] rfl rfl rfl rfl rfl dX2_saveForReturn_23 (fun H locs hP hS => ?_)
    refine q_callMi (As := [.long (pP_op0Place (f_X2_put S (pP_dstPlace S) (pP_fp S)).2), .long (f_X2_behindInstruction (f_X2_put S (pP_dstPlace S) (pP_fp S)).2)]) (rest := []) (wr := []) (Wn := (fun u => (wP aP aM aC cJ u))) (q0 := 0) (ci := 1) (C := RX2) (c_X2_put l D aP aM aC cJ ((f_X2_put S (pP_dstPlace S) (pP_fp S)).2) (pP_op0Place (f_X2_put S (pP_dstPlace S) (pP_fp S)).2) (f_X2_behindInstruction (f_X2_put S (pP_dstPlace S) (pP_fp S)).2)) hfix (cwV 2 hts gX2_saveForReturn_X2_put rfl rfl rfl (by decide +kernel) ⟨Nat.le_of_ble_eq_true rfl, Nat.le_of_ble_eq_true rfl⟩) rfl hl.1 rfl (Nat.le_of_ble_eq_true rfl) ⟨Nat.zero_le _, Nat.zero_le _⟩ hP hK hD hS hA [0, 1, 2] [] [0, 1, 2] [0] rfl rfl rfl (by decide) (by decide) (by decide) (by decide) (fun _ => rfl) (fun _ => rfl) rfl rfl rfl rfl dX2_saveForReturn_26 (fun r u H locs hw hP hD hS => ?_)
    obtain ⟨rfl, rfl⟩ := hw
    have hP : va_P D vwCl (wP aP aM aC cJ (f_X2_put (f_X2_put S (pP_dstPlace S) (pP_fp S)).2 (pP_op0Place (f_X2_put S (pP_dstPlace S) (pP_fp S)).2) (f_X2_behindInstruction (f_X2_put S (pP_dstPlace S) (pP_fp S)).2)).2) H := hP
    have hD : va_D A (wP aP aM aC cJ (f_X2_put (f_X2_put S (pP_dstPlace S) (pP_fp S)).2 (pP_op0Place (f_X2_put S (pP_dstPlace S) (pP_fp S)).2) (f_X2_behindInstruction (f_X2_put S (pP_dstPlace S) (pP_fp S)).2)).2) := hD
    refine lv_goto (tgt := 33) hx hb dX2_saveForReturn_29 (by decide) ?_
    exact q_mi ((f_X2_put (f_X2_put S (pP_dstPlace S) (pP_fp S)).2 (pP_op0Place (f_X2_put S (pP_dstPlace S) (pP_fp S)).2) (f_X2_behindInstruction (f_X2_put S (pP_dstPlace S) (pP_fp S)).2)).2) hx hb hr hlocks hP hD hS (q_pair (by rw [f_X2_saveForReturn, if_pos c1])) dX2_saveForReturn_33

def f_X2_placeOp1_J80 (S : PS) (v1_80 : Int64) : Int32 × PS :=
  ((f_X2_reckoned (pP_op1Place (sP_op1Place S (f_X4_shifted v1_80 (((f_X5_offsetOf (pP_word S) 2) : Int32).toInt64))))), (sP_op1Place S (f_X4_shifted v1_80 (((f_X5_offsetOf (pP_word S) 2) : Int32).toInt64))))

def f_X2_placeOp1 (S : PS) : Int32 × PS :=
  (if (f_X2_has S 4) = 0 then (if (f_X2_has S 8) = 0 then (if (f_X2_has S 16) = 0 then (if (f_X4_isAddress (f_X2_look S (pP_op0Place S))) = 0 then (if (f_X2_look S (pP_op0Place S)) = (-1) then (1, S) else (4, S)) else (f_X2_placeOp1_J80 S (f_X2_look S (pP_op0Place S)))) else (f_X2_placeOp1_J80 S (pP_ap S))) else (f_X2_placeOp1_J80 S (pP_fp S))) else (f_X2_placeOp1_J80 S (pP_pc S)))

set_option maxHeartbeats 4000000 in
set_option maxRecDepth 100000 in
theorem c_X2_placeOp1 (l : Launch) (D : va_G) (aP aM aC : Nat) (cJ : ClassId) (S : PS) : q_muI l yX2_placeOp1 wsX2_placeOp1 ({ frames := 3, cells := 0, slots := 0, locals := 65 }) D [(cJ, .long)] (wP aP aM aC cJ S) [.ref aP] (fun r u => r = (f_X2_placeOp1 S).1 ∧ u = (f_X2_placeOp1 S).2) (fun u => (wP aP aM aC cJ u)) := by
  refine q_muI_of (cc := cX2_placeOp1) (maxL := 3) (ret := (some .int)) (plainFor_of_name (by decide)) rfl (Nat.le_of_ble_eq_true rfl) ?_
  intro p e s m below meth c ls A hx hb hr hml hown hts hlocks hP hK hD hA hS hl
  have hown : s.vm.findClass RX2 = some m.cls := hown
  have hl : lv_has ls 3 [(0, .ref aP)] := hl
  have hfix : CallFix p m c cX2_placeOp1 3 s [.ref aP].toArray wsX2_placeOp1 RX2 := ⟨hx, hb, hml, hown, hts⟩
  have hin1 : ∀ w ∈ wsX20, w ∈ wsX2_placeOp1 := by decide +kernel
  refine lv_aload_n hx hb dX2_placeOp1_0 rfl (lv_at hl 0 rfl) ?_
  refine lv_iconst (v := 4) hx hb dX2_placeOp1_1 (by decide) ?_
  refine q_callVi (As := [.int 4]) (rest := []) (q0 := 0) (ci := 1) (C := RX2) (c_X2_has l D aP aM aC cJ S 4) hfix (cwV 1 hts gX2_placeOp1_X2_has rfl rfl rfl (by decide +kernel) ⟨Nat.le_of_ble_eq_true rfl, Nat.le_of_ble_eq_true rfl⟩) rfl hl.1 rfl (Nat.le_of_ble_eq_true rfl) ⟨Nat.zero_le _, Nat.zero_le _⟩ hP hK hS hA [0, 1, 2] [0] rfl rfl rfl rfl rfl dX2_placeOp1_2 (fun H locs hP hS => ?_)
  have kJ80 : ∀ (v1_80 : Int64) (H : Heap) (locs : List Loc) (ls : Array Slot), (f_X2_placeOp1 S) = (f_X2_placeOp1_J80 S v1_80) → va_P D vwCl (wP aP aM aC cJ S) H → va_D A (wP aP aM aC cJ S) → va_S A s.heap H locs → lv_has ls 3 [(0, .ref aP), (1, .long v1_80)] → W p l e ({ frames := 3, cells := 0, slots := 0, locals := 65 }) s m [.ref aP].toArray below meth c H locs 0 0 (MQ below (va_Qi (fun r u => r = (f_X2_placeOp1 S).1 ∧ u = (f_X2_placeOp1 S).2) (fun u t => va_P D vwCl ((fun u => (wP aP aM aC cJ u)) u) t.heap ∧ va_D A ((fun u => (wP aP aM aC cJ u)) u)) A) [.ref aP].toArray s 0 0 A) (F0 m 80 ls []) := by
    intro v1_80 H locs ls hJ80 hP hD hS hl
    refine lv_aload_n hx hb dX2_placeOp1_80 rfl (lv_at hl 0 rfl) ?_
    refine lv_lload_n hx hb dX2_placeOp1_81 rfl (lv_at hl 1 rfl) ?_
    refine lv_aload_n hx hb dX2_placeOp1_82 rfl (lv_at hl 0 rfl) ?_
    refine va_get (D := D) (ci := 1) (v := .long (pP_word S)) (C := RX2) (T := TX2) (N := 13) hx hb hts hin1 hown hK hP 0 rfl rfl 7 (by decide) (hts (.fieldLink RX2 92 "FieldTrace$Processor" "word" "J") (by decide +kernel)) (fun _ h9 => h9) rfl dX2_placeOp1_83 ?_
    refine lv_iconst (v := 2) hx hb dX2_placeOp1_86 (by decide) ?_
    refine q_callSi (As := [.long (pP_word S), .int 2]) (rest := [.long v1_80, .ref aP]) (c_X5_offsetOf l D (pP_word S) 2) hfix (va_cwS 2 hts gX2_placeOp1_X5_offsetOf rfl rfl rfl (by decide +kernel) ⟨Nat.le_of_ble_eq_true rfl, Nat.le_of_ble_eq_true rfl⟩) rfl hl.1 rfl (Nat.le_of_ble_eq_true rfl) ⟨Nat.zero_le _, Nat.zero_le _⟩ hP hK hS hA [] [] rfl rfl dX2_placeOp1_87 (fun H locs hP hS => ?_)
    refine lv_i2l hx hb dX2_placeOp1_90 rfl ?_
    refine q_callSl (As := [.long v1_80, .long (((f_X5_offsetOf (pP_word S) 2) : Int32).toInt64)]) (rest := [.ref aP]) (c_X4_shifted l D v1_80 (((f_X5_offsetOf (pP_word S) 2) : Int32).toInt64)) hfix (va_cwS 2 hts gX2_placeOp1_X4_shifted rfl rfl rfl (by decide +kernel) ⟨Nat.le_of_ble_eq_true rfl, Nat.le_of_ble_eq_true rfl⟩) rfl hl.1 rfl (Nat.le_of_ble_eq_true rfl) ⟨Nat.zero_le _, Nat.zero_le _⟩ hP hK hS hA [] [] rfl rfl dX2_placeOp1_91 (fun H locs hP hS => ?_)
    refine va_put (D := D) (ci := 1) (v := .long (f_X4_shifted v1_80 (((f_X5_offsetOf (pP_word S) 2) : Int32).toInt64))) (ty := .long) (C := RX2) (T := TX2) (N := 13) hx hb hts hin1 tyX2 tyX2_ok nmX2 hown hK hP hD hS 0 rfl rfl 11 (by decide) (hts (.fieldLink RX2 133 "FieldTrace$Processor" "op1Place" "J") (by decide +kernel)) (fun _ h9 => h9) rfl (by decide +kernel) (rfl) (rfl) (Nat.le_of_ble_eq_true rfl) dX2_placeOp1_94 (fun H locs hP hD hS => ?_)
    have hP : va_P D vwCl (wP aP aM aC cJ (sP_op1Place S (f_X4_shifted v1_80 (((f_X5_offsetOf (pP_word S) 2) : Int32).toInt64)))) H := hP
    have hD : va_D A (wP aP aM aC cJ (sP_op1Place S (f_X4_shifted v1_80 (((f_X5_offsetOf (pP_word S) 2) : Int32).toInt64)))) := hD
    refine lv_aload_n hx hb dX2_placeOp1_97 rfl (lv_at hl 0 rfl) ?_
    refine va_get (D := D) (ci := 1) (v := .long (pP_op1Place (sP_op1Place S (f_X4_shifted v1_80 (((f_X5_offsetOf (pP_word S) 2) : Int32).toInt64))))) (C := RX2) (T := TX2) (N := 13) hx hb hts hin1 hown hK hP 0 rfl rfl 11 (by decide) (hts (.fieldLink RX2 133 "FieldTrace$Processor" "op1Place" "J") (by decide +kernel)) (fun _ h9 => h9) rfl dX2_placeOp1_98 ?_
    refine q_callSi (As := [.long (pP_op1Place (sP_op1Place S (f_X4_shifted v1_80 (((f_X5_offsetOf (pP_word S) 2) : Int32).toInt64))))]) (rest := []) (c_X2_reckoned l D (pP_op1Place (sP_op1Place S (f_X4_shifted v1_80 (((f_X5_offsetOf (pP_word S) 2) : Int32).toInt64))))) hfix (va_cwS 1 hts gX2_placeOp1_X2_reckoned rfl rfl rfl (by decide +kernel) ⟨Nat.le_of_ble_eq_true rfl, Nat.le_of_ble_eq_true rfl⟩) rfl hl.1 rfl (Nat.le_of_ble_eq_true rfl) ⟨Nat.zero_le _, Nat.zero_le _⟩ hP hK hS hA [] [] rfl rfl dX2_placeOp1_101 (fun H locs hP hS => ?_)
    exact q_mi (sP_op1Place S (f_X4_shifted v1_80 (((f_X5_offsetOf (pP_word S) 2) : Int32).toInt64))) hx hb hr hlocks hP hD hS (q_pair (by rw [hJ80, f_X2_placeOp1_J80])) dX2_placeOp1_104
  refine lv_if_eq (tgt := 16) hx hb dX2_placeOp1_5 (by decide) (fun c1 => ?_) (fun c1 => ?_)
  · refine lv_aload_n hx hb dX2_placeOp1_16 rfl (lv_at hl 0 rfl) ?_
    refine lv_bipush (v := 8) hx hb dX2_placeOp1_17 (by decide) ?_
    refine q_callVi (As := [.int 8]) (rest := []) (q0 := 0) (ci := 1) (C := RX2) (c_X2_has l D aP aM aC cJ S 8) hfix (cwV 1 hts gX2_placeOp1_X2_has rfl rfl rfl (by decide +kernel) ⟨Nat.le_of_ble_eq_true rfl, Nat.le_of_ble_eq_true rfl⟩) rfl hl.1 rfl (Nat.le_of_ble_eq_true rfl) ⟨Nat.zero_le _, Nat.zero_le _⟩ hP hK hS hA [0, 1, 2] [0] rfl rfl rfl rfl rfl dX2_placeOp1_19 (fun H locs hP hS => ?_)
    refine lv_if_eq (tgt := 33) hx hb dX2_placeOp1_22 (by decide) (fun c2 => ?_) (fun c2 => ?_)
    · refine lv_aload_n hx hb dX2_placeOp1_33 rfl (lv_at hl 0 rfl) ?_
      refine lv_bipush (v := 16) hx hb dX2_placeOp1_34 (by decide) ?_
      refine q_callVi (As := [.int 16]) (rest := []) (q0 := 0) (ci := 1) (C := RX2) (c_X2_has l D aP aM aC cJ S 16) hfix (cwV 1 hts gX2_placeOp1_X2_has rfl rfl rfl (by decide +kernel) ⟨Nat.le_of_ble_eq_true rfl, Nat.le_of_ble_eq_true rfl⟩) rfl hl.1 rfl (Nat.le_of_ble_eq_true rfl) ⟨Nat.zero_le _, Nat.zero_le _⟩ hP hK hS hA [0, 1, 2] [0] rfl rfl rfl rfl rfl dX2_placeOp1_36 (fun H locs hP hS => ?_)
      refine lv_if_eq (tgt := 50) hx hb dX2_placeOp1_39 (by decide) (fun c3 => ?_) (fun c3 => ?_)
      · refine lv_aload_n hx hb dX2_placeOp1_50 rfl (lv_at hl 0 rfl) ?_
        refine lv_aload_n hx hb dX2_placeOp1_51 rfl (lv_at hl 0 rfl) ?_
        refine va_get (D := D) (ci := 1) (v := .long (pP_op0Place S)) (C := RX2) (T := TX2) (N := 13) hx hb hts hin1 hown hK hP 0 rfl rfl 10 (by decide) (hts (.fieldLink RX2 120 "FieldTrace$Processor" "op0Place" "J") (by decide +kernel)) (fun _ h9 => h9) rfl dX2_placeOp1_52 ?_
        refine q_callVl (As := [.long (pP_op0Place S)]) (rest := []) (q0 := 0) (ci := 1) (C := RX2) (c_X2_look l D aP aM aC cJ S (pP_op0Place S)) hfix (cwV 1 hts gX2_placeOp1_X2_look rfl rfl rfl (by decide +kernel) ⟨Nat.le_of_ble_eq_true rfl, Nat.le_of_ble_eq_true rfl⟩) rfl hl.1 rfl (Nat.le_of_ble_eq_true rfl) ⟨Nat.zero_le _, Nat.zero_le _⟩ hP hK hS hA [0, 1, 2] [0] rfl rfl rfl rfl rfl dX2_placeOp1_55 (fun H locs hP hS => ?_)
        refine lv_lstore_n (lv' := [(1, .long (f_X2_look S (pP_op0Place S))), (0, .ref aP)]) hx hb dX2_placeOp1_58 rfl hl (by decide) rfl (fun ls hl => ?_)
        refine lv_lload_n hx hb dX2_placeOp1_59 rfl (lv_at hl 0 rfl) ?_
        refine q_callSi (As := [.long (f_X2_look S (pP_op0Place S))]) (rest := []) (c_X4_isAddress l D (f_X2_look S (pP_op0Place S))) hfix (va_cwS 1 hts gX2_placeOp1_X4_isAddress rfl rfl rfl (by decide +kernel) ⟨Nat.le_of_ble_eq_true rfl, Nat.le_of_ble_eq_true rfl⟩) rfl hl.1 rfl (Nat.le_of_ble_eq_true rfl) ⟨Nat.zero_le _, Nat.zero_le _⟩ hP hK hS hA [] [] rfl rfl dX2_placeOp1_60 (fun H locs hP hS => ?_)
        refine lv_if_ne (tgt := 80) hx hb dX2_placeOp1_63 (by decide) (fun c4 => ?_) (fun c4 => ?_)
        · exact kJ80 (f_X2_look S (pP_op0Place S)) _ _ _ (by rw [f_X2_placeOp1, if_pos c1, if_pos c2, if_pos c3, if_neg c4]) hP hD hS (lv_sub hl [1, 0] rfl)
        · refine lv_lload_n hx hb dX2_placeOp1_66 rfl (lv_at hl 0 rfl) ?_
          refine lv_ldc2 (v := -1) hx hb hown (hts (.constantLong RX2 95 (-1)) (by decide +kernel)) dX2_placeOp1_67 ?_
          refine q_ne (tgt := 78) hx hb dX2_placeOp1_70 dX2_placeOp1_71 (by decide) (fun c5 => ?_) (fun c5 => ?_)
          · refine lv_iconst (v := 4) hx hb dX2_placeOp1_78 (by decide) ?_
            exact q_mi S hx hb hr hlocks hP hD hS (q_pair (by rw [f_X2_placeOp1, if_pos c1, if_pos c2, if_pos c3, if_pos c4, if_neg c5])) dX2_placeOp1_79
          · refine lv_iconst (v := 1) hx hb dX2_placeOp1_74 (by decide) ?_
            refine lv_goto (tgt := 79) hx hb dX2_placeOp1_75 (by decide) ?_
            exact q_mi S hx hb hr hlocks hP hD hS (q_pair (by rw [f_X2_placeOp1, if_pos c1, if_pos c2, if_pos c3, if_pos c4, if_pos c5])) dX2_placeOp1_79
      · refine lv_aload_n hx hb dX2_placeOp1_42 rfl (lv_at hl 0 rfl) ?_
        refine va_get (D := D) (ci := 1) (v := .long (pP_ap S)) (C := RX2) (T := TX2) (N := 13) hx hb hts hin1 hown hK hP 0 rfl rfl 2 (by decide) (hts (.fieldLink RX2 23 "FieldTrace$Processor" "ap" "J") (by decide +kernel)) (fun _ h9 => h9) rfl dX2_placeOp1_43 ?_
        refine lv_lstore_n (lv' := [(1, .long (pP_ap S)), (0, .ref aP)]) hx hb dX2_placeOp1_46 rfl hl (by decide) rfl (fun ls hl => ?_)
        refine lv_goto (tgt := 80) hx hb dX2_placeOp1_47 (by decide) ?_
        exact kJ80 (pP_ap S) _ _ _ (by rw [f_X2_placeOp1, if_pos c1, if_pos c2, if_neg c3]) hP hD hS (lv_sub hl [1, 0] rfl)
    · refine lv_aload_n hx hb dX2_placeOp1_25 rfl (lv_at hl 0 rfl) ?_
      refine va_get (D := D) (ci := 1) (v := .long (pP_fp S)) (C := RX2) (T := TX2) (N := 13) hx hb hts hin1 hown hK hP 0 rfl rfl 3 (by decide) (hts (.fieldLink RX2 26 "FieldTrace$Processor" "fp" "J") (by decide +kernel)) (fun _ h9 => h9) rfl dX2_placeOp1_26 ?_
      refine lv_lstore_n (lv' := [(1, .long (pP_fp S)), (0, .ref aP)]) hx hb dX2_placeOp1_29 rfl hl (by decide) rfl (fun ls hl => ?_)
      refine lv_goto (tgt := 80) hx hb dX2_placeOp1_30 (by decide) ?_
      exact kJ80 (pP_fp S) _ _ _ (by rw [f_X2_placeOp1, if_pos c1, if_neg c2]) hP hD hS (lv_sub hl [1, 0] rfl)
  · refine lv_aload_n hx hb dX2_placeOp1_8 rfl (lv_at hl 0 rfl) ?_
    refine va_get (D := D) (ci := 1) (v := .long (pP_pc S)) (C := RX2) (T := TX2) (N := 13) hx hb hts hin1 hown hK hP 0 rfl rfl 1 (by decide) (hts (.fieldLink RX2 19 "FieldTrace$Processor" "pc" "J") (by decide +kernel)) (fun _ h9 => h9) rfl dX2_placeOp1_9 ?_
    refine lv_lstore_n (lv' := [(1, .long (pP_pc S)), (0, .ref aP)]) hx hb dX2_placeOp1_12 rfl hl (by decide) rfl (fun ls hl => ?_)
    refine lv_goto (tgt := 80) hx hb dX2_placeOp1_13 (by decide) ?_
    exact kJ80 (pP_pc S) _ _ _ (by rw [f_X2_placeOp1, if_neg c1]) hP hD hS (lv_sub hl [1, 0] rfl)

