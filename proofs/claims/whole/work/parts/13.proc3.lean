def f_X2_moveRegisters_J40 (v1_40 : Int32) (S_40 : PS) : Int32 × PS :=
  (if v1_40 = 0 then (v1_40, (sP_fp (sP_ap (sP_pc S_40 (pP_newPc S_40)) (pP_newAp (sP_pc S_40 (pP_newPc S_40)))) (pP_newFp (sP_ap (sP_pc S_40 (pP_newPc S_40)) (pP_newAp (sP_pc S_40 (pP_newPc S_40))))))) else (v1_40, S_40))

def f_X2_moveRegisters_J31 (v1_31 : Int32) (S_31 : PS) : Int32 × PS :=
  (if v1_31 = 0 then (f_X2_moveRegisters_J40 ((f_X2_findFp S_31).1) ((f_X2_findFp S_31).2)) else (f_X2_moveRegisters_J40 v1_31 S_31))

def f_X2_moveRegisters_J21 (t0_21 : Int32) (S_21 : PS) : Int32 × PS :=
  (if t0_21 = 0 then (f_X2_moveRegisters_J31 ((f_X2_findAp S_21).1) ((f_X2_findAp S_21).2)) else (f_X2_moveRegisters_J31 t0_21 S_21))

def f_X2_moveRegisters (S : PS) : Int32 × PS :=
  (if (f_X2_has S 512) = 0 then (f_X2_moveRegisters_J21 ((f_X2_findPc S).1) ((f_X2_findPc S).2)) else (f_X2_moveRegisters_J21 ((f_X2_findPcUnlessDstIsZero S).1) ((f_X2_findPcUnlessDstIsZero S).2)))

set_option maxHeartbeats 4000000 in
set_option maxRecDepth 100000 in
theorem c_X2_moveRegisters (l : Launch) (D : va_G) (aP aM aC : Nat) (cJ : ClassId) (S : PS) : q_muI l yX2_moveRegisters wsX2_moveRegisters ({ frames := 5, cells := 0, slots := 0, locals := 115 }) D [(cJ, .long)] (wP aP aM aC cJ S) [.ref aP] (fun r u => r = (f_X2_moveRegisters S).1 ∧ u = (f_X2_moveRegisters S).2) (fun u => (wP aP aM aC cJ u)) := by
  refine q_muI_of (cc := cX2_moveRegisters) (maxL := 2) (ret := (some .int)) (plainFor_of_name (by decide)) rfl (Nat.le_of_ble_eq_true rfl) ?_
  intro p e s m below meth c ls A hx hb hr hml hown hts hlocks hP hK hD hA hS hl
  have hown : s.vm.findClass RX2 = some m.cls := hown
  have hl : lv_has ls 2 [(0, .ref aP)] := hl
  have hfix : CallFix p m c cX2_moveRegisters 2 s [.ref aP].toArray wsX2_moveRegisters RX2 := ⟨hx, hb, hml, hown, hts⟩
  have hin1 : ∀ w ∈ wsX20, w ∈ wsX2_moveRegisters := by decide +kernel
  refine lv_aload_n hx hb dX2_moveRegisters_0 rfl (lv_at hl 0 rfl) ?_
  refine lv_sipush (v := 512) hx hb dX2_moveRegisters_1 (by decide) ?_
  refine q_callVi (As := [.int 512]) (rest := []) (q0 := 0) (ci := 1) (C := RX2) (c_X2_has l D aP aM aC cJ S 512) hfix (cwV 1 hts gX2_moveRegisters_X2_has rfl rfl rfl (by decide +kernel) ⟨Nat.le_of_ble_eq_true rfl, Nat.le_of_ble_eq_true rfl⟩) rfl hl.1 rfl (Nat.le_of_ble_eq_true rfl) ⟨Nat.zero_le _, Nat.zero_le _⟩ hP hK hS hA [0, 1, 2] [0] rfl rfl rfl rfl rfl dX2_moveRegisters_4 (fun H locs hP hS => ?_)
  have kJ21 : ∀ (t0_21 : Int32) (S_21 : PS) (H : Heap) (locs : List Loc) (ls : Array Slot), (f_X2_moveRegisters S) = (f_X2_moveRegisters_J21 t0_21 S_21) → va_P D vwCl (wP aP aM aC cJ S_21) H → va_D A (wP aP aM aC cJ S_21) → va_S A s.heap H locs → lv_has ls 2 [(0, .ref aP)] → W p l e ({ frames := 5, cells := 0, slots := 0, locals := 115 }) s m [.ref aP].toArray below meth c H locs 0 0 (MQ below (va_Qi (fun r u => r = (f_X2_moveRegisters S).1 ∧ u = (f_X2_moveRegisters S).2) (fun u t => va_P D vwCl ((fun u => (wP aP aM aC cJ u)) u) t.heap ∧ va_D A ((fun u => (wP aP aM aC cJ u)) u)) A) [.ref aP].toArray s 0 0 A) (F0 m 21 ls [.int t0_21]) := by
    intro t0_21 S_21 H locs ls hJ21 hP hD hS hl
    refine lv_istore_n (lv' := [(1, .int t0_21), (0, .ref aP)]) hx hb dX2_moveRegisters_21 rfl hl (by decide) rfl (fun ls hl => ?_)
    refine lv_iload_n hx hb dX2_moveRegisters_22 rfl (lv_at hl 0 rfl) ?_
    have kJ31 : ∀ (v1_31 : Int32) (S_31 : PS) (H : Heap) (locs : List Loc) (ls : Array Slot), (f_X2_moveRegisters S) = (f_X2_moveRegisters_J31 v1_31 S_31) → va_P D vwCl (wP aP aM aC cJ S_31) H → va_D A (wP aP aM aC cJ S_31) → va_S A s.heap H locs → lv_has ls 2 [(0, .ref aP), (1, .int v1_31)] → W p l e ({ frames := 5, cells := 0, slots := 0, locals := 115 }) s m [.ref aP].toArray below meth c H locs 0 0 (MQ below (va_Qi (fun r u => r = (f_X2_moveRegisters S).1 ∧ u = (f_X2_moveRegisters S).2) (fun u t => va_P D vwCl ((fun u => (wP aP aM aC cJ u)) u) t.heap ∧ va_D A ((fun u => (wP aP aM aC cJ u)) u)) A) [.ref aP].toArray s 0 0 A) (F0 m 31 ls []) := by
      intro v1_31 S_31 H locs ls hJ31 hP hD hS hl
      refine lv_iload_n hx hb dX2_moveRegisters_31 rfl (lv_at hl 1 rfl) ?_
      have kJ40 : ∀ (v1_40 : Int32) (S_40 : PS) (H : Heap) (locs : List Loc) (ls : Array Slot), (f_X2_moveRegisters S) = (f_X2_moveRegisters_J40 v1_40 S_40) → va_P D vwCl (wP aP aM aC cJ S_40) H → va_D A (wP aP aM aC cJ S_40) → va_S A s.heap H locs → lv_has ls 2 [(0, .ref aP), (1, .int v1_40)] → W p l e ({ frames := 5, cells := 0, slots := 0, locals := 115 }) s m [.ref aP].toArray below meth c H locs 0 0 (MQ below (va_Qi (fun r u => r = (f_X2_moveRegisters S).1 ∧ u = (f_X2_moveRegisters S).2) (fun u t => va_P D vwCl ((fun u => (wP aP aM aC cJ u)) u) t.heap ∧ va_D A ((fun u => (wP aP aM aC cJ u)) u)) A) [.ref aP].toArray s 0 0 A) (F0 m 40 ls []) := by
        intro v1_40 S_40 H locs ls hJ40 hP hD hS hl
        refine lv_iload_n hx hb dX2_moveRegisters_40 rfl (lv_at hl 1 rfl) ?_
        refine lv_if_ne (tgt := 68) hx hb dX2_moveRegisters_41 (by decide) (fun c4 => ?_) (fun c4 => ?_)
        · refine lv_iload_n hx hb dX2_moveRegisters_68 rfl (lv_at hl 1 rfl) ?_
          exact q_mi S_40 hx hb hr hlocks hP hD hS (q_pair (by rw [hJ40, f_X2_moveRegisters_J40, if_neg c4])) dX2_moveRegisters_69
        · refine lv_aload_n hx hb dX2_moveRegisters_44 rfl (lv_at hl 0 rfl) ?_
          refine lv_aload_n hx hb dX2_moveRegisters_45 rfl (lv_at hl 0 rfl) ?_
          refine va_get (D := D) (ci := 1) (v := .long (pP_newPc S_40)) (C := RX2) (T := TX2) (N := 13) hx hb hts hin1 hown hK hP 0 rfl rfl 4 (by decide) (hts (.fieldLink RX2 79 "FieldTrace$Processor" "newPc" "J") (by decide +kernel)) (fun _ h9 => h9) rfl dX2_moveRegisters_46 ?_
          refine va_put (D := D) (ci := 1) (v := .long (pP_newPc S_40)) (ty := .long) (C := RX2) (T := TX2) (N := 13) hx hb hts hin1 tyX2 tyX2_ok nmX2 hown hK hP hD hS 0 rfl rfl 1 (by decide) (hts (.fieldLink RX2 19 "FieldTrace$Processor" "pc" "J") (by decide +kernel)) (fun _ h9 => h9) rfl (by decide +kernel) (rfl) (rfl) (Nat.le_of_ble_eq_true rfl) dX2_moveRegisters_49 (fun H locs hP hD hS => ?_)
          have hP : va_P D vwCl (wP aP aM aC cJ (sP_pc S_40 (pP_newPc S_40))) H := hP
          have hD : va_D A (wP aP aM aC cJ (sP_pc S_40 (pP_newPc S_40))) := hD
          refine lv_aload_n hx hb dX2_moveRegisters_52 rfl (lv_at hl 0 rfl) ?_
          refine lv_aload_n hx hb dX2_moveRegisters_53 rfl (lv_at hl 0 rfl) ?_
          refine va_get (D := D) (ci := 1) (v := .long (pP_newAp (sP_pc S_40 (pP_newPc S_40)))) (C := RX2) (T := TX2) (N := 13) hx hb hts hin1 hown hK hP 0 rfl rfl 5 (by decide) (hts (.fieldLink RX2 82 "FieldTrace$Processor" "newAp" "J") (by decide +kernel)) (fun _ h9 => h9) rfl dX2_moveRegisters_54 ?_
          refine va_put (D := D) (ci := 1) (v := .long (pP_newAp (sP_pc S_40 (pP_newPc S_40)))) (ty := .long) (C := RX2) (T := TX2) (N := 13) hx hb hts hin1 tyX2 tyX2_ok nmX2 hown hK hP hD hS 0 rfl rfl 2 (by decide) (hts (.fieldLink RX2 23 "FieldTrace$Processor" "ap" "J") (by decide +kernel)) (fun _ h9 => h9) rfl (by decide +kernel) (rfl) (rfl) (Nat.le_of_ble_eq_true rfl) dX2_moveRegisters_57 (fun H locs hP hD hS => ?_)
          have hP : va_P D vwCl (wP aP aM aC cJ (sP_ap (sP_pc S_40 (pP_newPc S_40)) (pP_newAp (sP_pc S_40 (pP_newPc S_40))))) H := hP
          have hD : va_D A (wP aP aM aC cJ (sP_ap (sP_pc S_40 (pP_newPc S_40)) (pP_newAp (sP_pc S_40 (pP_newPc S_40))))) := hD
          refine lv_aload_n hx hb dX2_moveRegisters_60 rfl (lv_at hl 0 rfl) ?_
          refine lv_aload_n hx hb dX2_moveRegisters_61 rfl (lv_at hl 0 rfl) ?_
          refine va_get (D := D) (ci := 1) (v := .long (pP_newFp (sP_ap (sP_pc S_40 (pP_newPc S_40)) (pP_newAp (sP_pc S_40 (pP_newPc S_40)))))) (C := RX2) (T := TX2) (N := 13) hx hb hts hin1 hown hK hP 0 rfl rfl 6 (by decide) (hts (.fieldLink RX2 85 "FieldTrace$Processor" "newFp" "J") (by decide +kernel)) (fun _ h9 => h9) rfl dX2_moveRegisters_62 ?_
          refine va_put (D := D) (ci := 1) (v := .long (pP_newFp (sP_ap (sP_pc S_40 (pP_newPc S_40)) (pP_newAp (sP_pc S_40 (pP_newPc S_40)))))) (ty := .long) (C := RX2) (T := TX2) (N := 13) hx hb hts hin1 tyX2 tyX2_ok nmX2 hown hK hP hD hS 0 rfl rfl 3 (by decide) (hts (.fieldLink RX2 26 "FieldTrace$Processor" "fp" "J") (by decide +kernel)) (fun _ h9 => h9) rfl (by decide +kernel) (rfl) (rfl) (Nat.le_of_ble_eq_true rfl) dX2_moveRegisters_65 (fun H locs hP hD hS => ?_)
          have hP : va_P D vwCl (wP aP aM aC cJ (sP_fp (sP_ap (sP_pc S_40 (pP_newPc S_40)) (pP_newAp (sP_pc S_40 (pP_newPc S_40)))) (pP_newFp (sP_ap (sP_pc S_40 (pP_newPc S_40)) (pP_newAp (sP_pc S_40 (pP_newPc S_40))))))) H := hP
          have hD : va_D A (wP aP aM aC cJ (sP_fp (sP_ap (sP_pc S_40 (pP_newPc S_40)) (pP_newAp (sP_pc S_40 (pP_newPc S_40)))) (pP_newFp (sP_ap (sP_pc S_40 (pP_newPc S_40)) (pP_newAp (sP_pc S_40 (pP_newPc S_40))))))) := hD
          refine lv_iload_n hx hb dX2_moveRegisters_68 rfl (lv_at hl 1 rfl) ?_
          exact q_mi (sP_fp (sP_ap (sP_pc S_40 (pP_newPc S_40)) (pP_newAp (sP_pc S_40 (pP_newPc S_40)))) (pP_newFp (sP_ap (sP_pc S_40 (pP_newPc S_40)) (pP_newAp (sP_pc S_40 (pP_newPc S_40)))))) hx hb hr hlocks hP hD hS (q_pair (by rw [hJ40, f_X2_moveRegisters_J40, if_pos c4])) dX2_moveRegisters_69
      refine lv_if_ne (tgt := 40) hx hb dX2_moveRegisters_32 (by decide) (fun c3 => ?_) (fun c3 => ?_)
      · exact kJ40 v1_31 S_31 _ _ _ (by rw [hJ31, f_X2_moveRegisters_J31, if_neg c3]) hP hD hS (lv_sub hl [0, 1] rfl)
      · refine lv_aload_n hx hb dX2_moveRegisters_35 rfl (lv_at hl 0 rfl) ?_
        refine q_callMi (As := []) (rest := []) (wr := []) (Wn := (fun u => (wP aP aM aC cJ u))) (q0 := 0) (ci := 1) (C := RX2) (c_X2_findFp l D aP aM aC cJ S_31) hfix (cwV 0 hts gX2_moveRegisters_X2_findFp rfl rfl rfl (by decide +kernel) ⟨Nat.le_of_ble_eq_true rfl, Nat.le_of_ble_eq_true rfl⟩) rfl hl.1 rfl (Nat.le_of_ble_eq_true rfl) ⟨Nat.zero_le _, Nat.zero_le _⟩ hP hK hD hS hA [0, 1, 2] [] [0, 1, 2] [0] rfl rfl rfl (by decide) (by decide) (by decide) (by decide) (fun _ => rfl) (fun _ => rfl) rfl rfl rfl rfl dX2_moveRegisters_36 (fun r u H locs hw hP hD hS => ?_)
        obtain ⟨rfl, rfl⟩ := hw
        have hP : va_P D vwCl (wP aP aM aC cJ (f_X2_findFp S_31).2) H := hP
        have hD : va_D A (wP aP aM aC cJ (f_X2_findFp S_31).2) := hD
        refine lv_istore_n (lv' := [(1, .int ((f_X2_findFp S_31).1)), (0, .ref aP)]) hx hb dX2_moveRegisters_39 rfl hl (by decide) rfl (fun ls hl => ?_)
        exact kJ40 ((f_X2_findFp S_31).1) ((f_X2_findFp S_31).2) _ _ _ (by rw [hJ31, f_X2_moveRegisters_J31, if_pos c3]) hP hD hS (lv_sub hl [1, 0] rfl)
    refine lv_if_ne (tgt := 31) hx hb dX2_moveRegisters_23 (by decide) (fun c2 => ?_) (fun c2 => ?_)
    · exact kJ31 t0_21 S_21 _ _ _ (by rw [hJ21, f_X2_moveRegisters_J21, if_neg c2]) hP hD hS (lv_sub hl [1, 0] rfl)
    · refine lv_aload_n hx hb dX2_moveRegisters_26 rfl (lv_at hl 1 rfl) ?_
      refine q_callMi (As := []) (rest := []) (wr := []) (Wn := (fun u => (wP aP aM aC cJ u))) (q0 := 0) (ci := 1) (C := RX2) (c_X2_findAp l D aP aM aC cJ S_21) hfix (cwV 0 hts gX2_moveRegisters_X2_findAp rfl rfl rfl (by decide +kernel) ⟨Nat.le_of_ble_eq_true rfl, Nat.le_of_ble_eq_true rfl⟩) rfl hl.1 rfl (Nat.le_of_ble_eq_true rfl) ⟨Nat.zero_le _, Nat.zero_le _⟩ hP hK hD hS hA [0, 1, 2] [] [0, 1, 2] [0] rfl rfl rfl (by decide) (by decide) (by decide) (by decide) (fun _ => rfl) (fun _ => rfl) rfl rfl rfl rfl dX2_moveRegisters_27 (fun r u H locs hw hP hD hS => ?_)
      obtain ⟨rfl, rfl⟩ := hw
      have hP : va_P D vwCl (wP aP aM aC cJ (f_X2_findAp S_21).2) H := hP
      have hD : va_D A (wP aP aM aC cJ (f_X2_findAp S_21).2) := hD
      refine lv_istore_n (lv' := [(1, .int ((f_X2_findAp S_21).1)), (0, .ref aP)]) hx hb dX2_moveRegisters_30 rfl hl (by decide) rfl (fun ls hl => ?_)
      exact kJ31 ((f_X2_findAp S_21).1) ((f_X2_findAp S_21).2) _ _ _ (by rw [hJ21, f_X2_moveRegisters_J21, if_pos c2]) hP hD hS (lv_sub hl [1, 0] rfl)
  refine lv_if_eq (tgt := 17) hx hb dX2_moveRegisters_7 (by decide) (fun c1 => ?_) (fun c1 => ?_)
  · refine lv_aload_n hx hb dX2_moveRegisters_17 rfl (lv_at hl 0 rfl) ?_
    refine q_callMi (As := []) (rest := []) (wr := []) (Wn := (fun u => (wP aP aM aC cJ u))) (q0 := 0) (ci := 1) (C := RX2) (c_X2_findPc l D aP aM aC cJ S) hfix (cwV 0 hts gX2_moveRegisters_X2_findPc rfl rfl rfl (by decide +kernel) ⟨Nat.le_of_ble_eq_true rfl, Nat.le_of_ble_eq_true rfl⟩) rfl hl.1 rfl (Nat.le_of_ble_eq_true rfl) ⟨Nat.zero_le _, Nat.zero_le _⟩ hP hK hD hS hA [0, 1, 2] [] [0, 1, 2] [0] rfl rfl rfl (by decide) (by decide) (by decide) (by decide) (fun _ => rfl) (fun _ => rfl) rfl rfl rfl rfl dX2_moveRegisters_18 (fun r u H locs hw hP hD hS => ?_)
    obtain ⟨rfl, rfl⟩ := hw
    have hP : va_P D vwCl (wP aP aM aC cJ (f_X2_findPc S).2) H := hP
    have hD : va_D A (wP aP aM aC cJ (f_X2_findPc S).2) := hD
    exact kJ21 ((f_X2_findPc S).1) ((f_X2_findPc S).2) _ _ _ (by rw [f_X2_moveRegisters, if_pos c1]) hP hD hS (lv_sub hl [0] rfl)
  · refine lv_aload_n hx hb dX2_moveRegisters_10 rfl (lv_at hl 0 rfl) ?_
    refine q_callMi (As := []) (rest := []) (wr := []) (Wn := (fun u => (wP aP aM aC cJ u))) (q0 := 0) (ci := 1) (C := RX2) (c_X2_findPcUnlessDstIsZero l D aP aM aC cJ S) hfix (cwV 0 hts gX2_moveRegisters_X2_findPcUnlessDstIsZero rfl rfl rfl (by decide +kernel) ⟨Nat.le_of_ble_eq_true rfl, Nat.le_of_ble_eq_true rfl⟩) rfl hl.1 rfl (Nat.le_of_ble_eq_true rfl) ⟨Nat.zero_le _, Nat.zero_le _⟩ hP hK hD hS hA [0, 1, 2] [] [0, 1, 2] [0] rfl rfl rfl (by decide) (by decide) (by decide) (by decide) (fun _ => rfl) (fun _ => rfl) rfl rfl rfl rfl dX2_moveRegisters_11 (fun r u H locs hw hP hD hS => ?_)
    obtain ⟨rfl, rfl⟩ := hw
    have hP : va_P D vwCl (wP aP aM aC cJ (f_X2_findPcUnlessDstIsZero S).2) H := hP
    have hD : va_D A (wP aP aM aC cJ (f_X2_findPcUnlessDstIsZero S).2) := hD
    refine lv_goto (tgt := 21) hx hb dX2_moveRegisters_14 (by decide) ?_
    exact kJ21 ((f_X2_findPcUnlessDstIsZero S).1) ((f_X2_findPcUnlessDstIsZero S).2) _ _ _ (by rw [f_X2_moveRegisters, if_neg c1]) hP hD hS (lv_sub hl [0] rfl)

def f_X2_step_J116 (v1_116 : Int32) (S_116 : PS) : Int32 × PS :=
  (if v1_116 = 0 then ((f_X2_moveRegisters S_116).1, (f_X2_moveRegisters S_116).2) else (v1_116, S_116))

def f_X2_step_J89 (v1_89 : Int32) (S_89 : PS) : Int32 × PS :=
  (if v1_89 = 0 then (if (f_X2_has S_89 16384) = 0 then (f_X2_step_J116 v1_89 S_89) else (f_X2_step_J116 ((f_X2_put S_89 (pP_dstPlace S_89) (pP_res S_89)).1) ((f_X2_put S_89 (pP_dstPlace S_89) (pP_res S_89)).2))) else (f_X2_step_J116 v1_89 S_89))

def f_X2_step_J70 (v1_70 : Int32) (S_70 : PS) : Int32 × PS :=
  (if v1_70 = 0 then (if (f_X2_has S_70 17792) = 0 then (f_X2_step_J89 v1_70 S_70) else (f_X2_step_J89 ((f_X2_findRes S_70).1) ((f_X2_findRes S_70).2))) else (f_X2_step_J89 v1_70 S_70))

def f_X2_step_J42 (v1_42 : Int32) (S_42 : PS) : Int32 × PS :=
  (if v1_42 = 0 then (if (f_X2_has S_42 16384) = 0 then (f_X2_step_J70 v1_42 S_42) else (if (f_X2_has S_42 96) = 0 then (f_X2_step_J70 v1_42 S_42) else (f_X2_step_J70 ((f_X2_deduce S_42).1) ((f_X2_deduce S_42).2)))) else (f_X2_step_J70 v1_42 S_42))

def f_X2_step_J33 (v1_33 : Int32) (S_33 : PS) : Int32 × PS :=
  (if v1_33 = 0 then (f_X2_step_J42 ((f_X2_placeOp1 S_33).1) ((f_X2_placeOp1 S_33).2)) else (f_X2_step_J42 v1_33 S_33))

def f_X2_step_J14 (v1_14 : Int32) (S_14 : PS) : Int32 × PS :=
  (if v1_14 = 0 then (if (f_X2_has S_14 4096) = 0 then (f_X2_step_J33 v1_14 S_14) else (f_X2_step_J33 ((f_X2_saveForReturn S_14).1) ((f_X2_saveForReturn S_14).2))) else (f_X2_step_J33 v1_14 S_14))

def f_X2_step (S : PS) : Int32 × PS :=
  (if ((f_X2_fetch S).1) = 0 then (f_X2_step_J14 ((f_X2_placeDstAndOp0 (f_X2_fetch S).2).1) ((f_X2_placeDstAndOp0 (f_X2_fetch S).2).2)) else (f_X2_step_J14 ((f_X2_fetch S).1) ((f_X2_fetch S).2)))

set_option maxHeartbeats 4000000 in
set_option maxRecDepth 100000 in
theorem c_X2_step (l : Launch) (D : va_G) (aP aM aC : Nat) (cJ : ClassId) (S : PS) : q_muI l yX2_step wsX2_step ({ frames := 6, cells := 0, slots := 0, locals := 148 }) D [(cJ, .long)] (wP aP aM aC cJ S) [.ref aP] (fun r u => r = (f_X2_step S).1 ∧ u = (f_X2_step S).2) (fun u => (wP aP aM aC cJ u)) := by
  refine q_muI_of (cc := cX2_step) (maxL := 2) (ret := (some .int)) (plainFor_of_name (by decide)) rfl (Nat.le_of_ble_eq_true rfl) ?_
  intro p e s m below meth c ls A hx hb hr hml hown hts hlocks hP hK hD hA hS hl
  have hown : s.vm.findClass RX2 = some m.cls := hown
  have hl : lv_has ls 2 [(0, .ref aP)] := hl
  have hfix : CallFix p m c cX2_step 2 s [.ref aP].toArray wsX2_step RX2 := ⟨hx, hb, hml, hown, hts⟩
  have hin1 : ∀ w ∈ wsX20, w ∈ wsX2_step := by decide +kernel
  refine lv_aload_n hx hb dX2_step_0 rfl (lv_at hl 0 rfl) ?_
  refine q_callMi (As := []) (rest := []) (wr := []) (Wn := (fun u => (wP aP aM aC cJ u))) (q0 := 0) (ci := 1) (C := RX2) (c_X2_fetch l D aP aM aC cJ S) hfix (cwV 0 hts gX2_step_X2_fetch rfl rfl rfl (by decide +kernel) ⟨Nat.le_of_ble_eq_true rfl, Nat.le_of_ble_eq_true rfl⟩) rfl hl.1 rfl (Nat.le_of_ble_eq_true rfl) ⟨Nat.zero_le _, Nat.zero_le _⟩ hP hK hD hS hA [0, 1, 2] [] [0, 1, 2] [0] rfl rfl rfl (by decide) (by decide) (by decide) (by decide) (fun _ => rfl) (fun _ => rfl) rfl rfl rfl rfl dX2_step_1 (fun r u H locs hw hP hD hS => ?_)
  obtain ⟨rfl, rfl⟩ := hw
  have hP : va_P D vwCl (wP aP aM aC cJ (f_X2_fetch S).2) H := hP
  have hD : va_D A (wP aP aM aC cJ (f_X2_fetch S).2) := hD
  refine lv_istore_n (lv' := [(1, .int ((f_X2_fetch S).1)), (0, .ref aP)]) hx hb dX2_step_4 rfl hl (by decide) rfl (fun ls hl => ?_)
  refine lv_iload_n hx hb dX2_step_5 rfl (lv_at hl 0 rfl) ?_
  have kJ14 : ∀ (v1_14 : Int32) (S_14 : PS) (H : Heap) (locs : List Loc) (ls : Array Slot), (f_X2_step S) = (f_X2_step_J14 v1_14 S_14) → va_P D vwCl (wP aP aM aC cJ S_14) H → va_D A (wP aP aM aC cJ S_14) → va_S A s.heap H locs → lv_has ls 2 [(0, .ref aP), (1, .int v1_14)] → W p l e ({ frames := 6, cells := 0, slots := 0, locals := 148 }) s m [.ref aP].toArray below meth c H locs 0 0 (MQ below (va_Qi (fun r u => r = (f_X2_step S).1 ∧ u = (f_X2_step S).2) (fun u t => va_P D vwCl ((fun u => (wP aP aM aC cJ u)) u) t.heap ∧ va_D A ((fun u => (wP aP aM aC cJ u)) u)) A) [.ref aP].toArray s 0 0 A) (F0 m 14 ls []) := by
    intro v1_14 S_14 H locs ls hJ14 hP hD hS hl
    refine lv_iload_n hx hb dX2_step_14 rfl (lv_at hl 1 rfl) ?_
    have kJ33 : ∀ (v1_33 : Int32) (S_33 : PS) (H : Heap) (locs : List Loc) (ls : Array Slot), (f_X2_step S) = (f_X2_step_J33 v1_33 S_33) → va_P D vwCl (wP aP aM aC cJ S_33) H → va_D A (wP aP aM aC cJ S_33) → va_S A s.heap H locs → lv_has ls 2 [(0, .ref aP), (1, .int v1_33)] → W p l e ({ frames := 6, cells := 0, slots := 0, locals := 148 }) s m [.ref aP].toArray below meth c H locs 0 0 (MQ below (va_Qi (fun r u => r = (f_X2_step S).1 ∧ u = (f_X2_step S).2) (fun u t => va_P D vwCl ((fun u => (wP aP aM aC cJ u)) u) t.heap ∧ va_D A ((fun u => (wP aP aM aC cJ u)) u)) A) [.ref aP].toArray s 0 0 A) (F0 m 33 ls []) := by
      intro v1_33 S_33 H locs ls hJ33 hP hD hS hl
      refine lv_iload_n hx hb dX2_step_33 rfl (lv_at hl 1 rfl) ?_
      have kJ42 : ∀ (v1_42 : Int32) (S_42 : PS) (H : Heap) (locs : List Loc) (ls : Array Slot), (f_X2_step S) = (f_X2_step_J42 v1_42 S_42) → va_P D vwCl (wP aP aM aC cJ S_42) H → va_D A (wP aP aM aC cJ S_42) → va_S A s.heap H locs → lv_has ls 2 [(0, .ref aP), (1, .int v1_42)] → W p l e ({ frames := 6, cells := 0, slots := 0, locals := 148 }) s m [.ref aP].toArray below meth c H locs 0 0 (MQ below (va_Qi (fun r u => r = (f_X2_step S).1 ∧ u = (f_X2_step S).2) (fun u t => va_P D vwCl ((fun u => (wP aP aM aC cJ u)) u) t.heap ∧ va_D A ((fun u => (wP aP aM aC cJ u)) u)) A) [.ref aP].toArray s 0 0 A) (F0 m 42 ls []) := by
        intro v1_42 S_42 H locs ls hJ42 hP hD hS hl
        refine lv_iload_n hx hb dX2_step_42 rfl (lv_at hl 1 rfl) ?_
        have kJ70 : ∀ (v1_70 : Int32) (S_70 : PS) (H : Heap) (locs : List Loc) (ls : Array Slot), (f_X2_step S) = (f_X2_step_J70 v1_70 S_70) → va_P D vwCl (wP aP aM aC cJ S_70) H → va_D A (wP aP aM aC cJ S_70) → va_S A s.heap H locs → lv_has ls 2 [(0, .ref aP), (1, .int v1_70)] → W p l e ({ frames := 6, cells := 0, slots := 0, locals := 148 }) s m [.ref aP].toArray below meth c H locs 0 0 (MQ below (va_Qi (fun r u => r = (f_X2_step S).1 ∧ u = (f_X2_step S).2) (fun u t => va_P D vwCl ((fun u => (wP aP aM aC cJ u)) u) t.heap ∧ va_D A ((fun u => (wP aP aM aC cJ u)) u)) A) [.ref aP].toArray s 0 0 A) (F0 m 70 ls []) := by
          intro v1_70 S_70 H locs ls hJ70 hP hD hS hl
          refine lv_iload_n hx hb dX2_step_70 rfl (lv_at hl 1 rfl) ?_
          have kJ89 : ∀ (v1_89 : Int32) (S_89 : PS) (H : Heap) (locs : List Loc) (ls : Array Slot), (f_X2_step S) = (f_X2_step_J89 v1_89 S_89) → va_P D vwCl (wP aP aM aC cJ S_89) H → va_D A (wP aP aM aC cJ S_89) → va_S A s.heap H locs → lv_has ls 2 [(0, .ref aP), (1, .int v1_89)] → W p l e ({ frames := 6, cells := 0, slots := 0, locals := 148 }) s m [.ref aP].toArray below meth c H locs 0 0 (MQ below (va_Qi (fun r u => r = (f_X2_step S).1 ∧ u = (f_X2_step S).2) (fun u t => va_P D vwCl ((fun u => (wP aP aM aC cJ u)) u) t.heap ∧ va_D A ((fun u => (wP aP aM aC cJ u)) u)) A) [.ref aP].toArray s 0 0 A) (F0 m 89 ls []) := by
            intro v1_89 S_89 H locs ls hJ89 hP hD hS hl
            refine lv_iload_n hx hb dX2_step_89 rfl (lv_at hl 1 rfl) ?_
            have kJ116 : ∀ (v1_116 : Int32) (S_116 : PS) (H : Heap) (locs : List Loc) (ls : Array Slot), (f_X2_step S) = (f_X2_step_J116 v1_116 S_116) → va_P D vwCl (wP aP aM aC cJ S_116) H → va_D A (wP aP aM aC cJ S_116) → va_S A s.heap H locs → lv_has ls 2 [(0, .ref aP), (1, .int v1_116)] → W p l e ({ frames := 6, cells := 0, slots := 0, locals := 148 }) s m [.ref aP].toArray below meth c H locs 0 0 (MQ below (va_Qi (fun r u => r = (f_X2_step S).1 ∧ u = (f_X2_step S).2) (fun u t => va_P D vwCl ((fun u => (wP aP aM aC cJ u)) u) t.heap ∧ va_D A ((fun u => (wP aP aM aC cJ u)) u)) A) [.ref aP].toArray s 0 0 A) (F0 m 116 ls []) := by
              intro v1_116 S_116 H locs ls hJ116 hP hD hS hl
              refine lv_iload_n hx hb dX2_step_116 rfl (lv_at hl 1 rfl) ?_
              refine lv_if_ne (tgt := 127) hx hb dX2_step_117 (by decide) (fun c12 => ?_) (fun c12 => ?_)
              · refine lv_iload_n hx hb dX2_step_127 rfl (lv_at hl 1 rfl) ?_
                exact q_mi S_116 hx hb hr hlocks hP hD hS (q_pair (by rw [hJ116, f_X2_step_J116, if_neg c12])) dX2_step_128
              · refine lv_aload_n hx hb dX2_step_120 rfl (lv_at hl 0 rfl) ?_
                refine q_callMi (As := []) (rest := []) (wr := []) (Wn := (fun u => (wP aP aM aC cJ u))) (q0 := 0) (ci := 1) (C := RX2) (c_X2_moveRegisters l D aP aM aC cJ S_116) hfix (cwV 0 hts gX2_step_X2_moveRegisters rfl rfl rfl (by decide +kernel) ⟨Nat.le_of_ble_eq_true rfl, Nat.le_of_ble_eq_true rfl⟩) rfl hl.1 rfl (Nat.le_of_ble_eq_true rfl) ⟨Nat.zero_le _, Nat.zero_le _⟩ hP hK hD hS hA [0, 1, 2] [] [0, 1, 2] [0] rfl rfl rfl (by decide) (by decide) (by decide) (by decide) (fun _ => rfl) (fun _ => rfl) rfl rfl rfl rfl dX2_step_121 (fun r u H locs hw hP hD hS => ?_)
                obtain ⟨rfl, rfl⟩ := hw
                have hP : va_P D vwCl (wP aP aM aC cJ (f_X2_moveRegisters S_116).2) H := hP
                have hD : va_D A (wP aP aM aC cJ (f_X2_moveRegisters S_116).2) := hD
                refine lv_goto (tgt := 128) hx hb dX2_step_124 (by decide) ?_
                exact q_mi ((f_X2_moveRegisters S_116).2) hx hb hr hlocks hP hD hS (q_pair (by rw [hJ116, f_X2_step_J116, if_pos c12])) dX2_step_128
            refine lv_if_ne (tgt := 116) hx hb dX2_step_90 (by decide) (fun c10 => ?_) (fun c10 => ?_)
            · exact kJ116 v1_89 S_89 _ _ _ (by rw [hJ89, f_X2_step_J89, if_neg c10]) hP hD hS (lv_sub hl [0, 1] rfl)
            · refine lv_aload_n hx hb dX2_step_93 rfl (lv_at hl 0 rfl) ?_
              refine lv_sipush (v := 16384) hx hb dX2_step_94 (by decide) ?_
              refine q_callVi (As := [.int 16384]) (rest := []) (q0 := 0) (ci := 1) (C := RX2) (c_X2_has l D aP aM aC cJ S_89 16384) hfix (cwV 1 hts gX2_step_X2_has rfl rfl rfl (by decide +kernel) ⟨Nat.le_of_ble_eq_true rfl, Nat.le_of_ble_eq_true rfl⟩) rfl hl.1 rfl (Nat.le_of_ble_eq_true rfl) ⟨Nat.zero_le _, Nat.zero_le _⟩ hP hK hS hA [0, 1, 2] [0] rfl rfl rfl rfl rfl dX2_step_97 (fun H locs hP hS => ?_)
              refine lv_if_eq (tgt := 116) hx hb dX2_step_100 (by decide) (fun c11 => ?_) (fun c11 => ?_)
              · exact kJ116 v1_89 S_89 _ _ _ (by rw [hJ89, f_X2_step_J89, if_pos c10, if_pos c11]) hP hD hS (lv_sub hl [0, 1] rfl)
              · refine lv_aload_n hx hb dX2_step_103 rfl (lv_at hl 0 rfl) ?_
                refine lv_aload_n hx hb dX2_step_104 rfl (lv_at hl 0 rfl) ?_
                refine va_get (D := D) (ci := 1) (v := .long (pP_dstPlace S_89)) (C := RX2) (T := TX2) (N := 13) hx hb hts hin1 hown hK hP 0 rfl rfl 9 (by decide) (hts (.fieldLink RX2 54 "FieldTrace$Processor" "dstPlace" "J") (by decide +kernel)) (fun _ h9 => h9) rfl dX2_step_105 ?_
                refine lv_aload_n hx hb dX2_step_108 rfl (lv_at hl 0 rfl) ?_
                refine va_get (D := D) (ci := 1) (v := .long (pP_res S_89)) (C := RX2) (T := TX2) (N := 13) hx hb hts hin1 hown hK hP 0 rfl rfl 12 (by decide) (hts (.fieldLink RX2 57 "FieldTrace$Processor" "res" "J") (by decide +kernel)) (fun _ h9 => h9) rfl dX2_step_109 ?_
                refine q_callMi (As := [.long (pP_dstPlace S_89), .long (pP_res S_89)]) (rest := []) (wr := []) (Wn := (fun u => (wP aP aM aC cJ u))) (q0 := 0) (ci := 1) (C := RX2) (c_X2_put l D aP aM aC cJ S_89 (pP_dstPlace S_89) (pP_res S_89)) hfix (cwV 2 hts gX2_step_X2_put rfl rfl rfl (by decide +kernel) ⟨Nat.le_of_ble_eq_true rfl, Nat.le_of_ble_eq_true rfl⟩) rfl hl.1 rfl (Nat.le_of_ble_eq_true rfl) ⟨Nat.zero_le _, Nat.zero_le _⟩ hP hK hD hS hA [0, 1, 2] [] [0, 1, 2] [0] rfl rfl rfl (by decide) (by decide) (by decide) (by decide) (fun _ => rfl) (fun _ => rfl) rfl rfl rfl rfl dX2_step_112 (fun r u H locs hw hP hD hS => ?_)
                obtain ⟨rfl, rfl⟩ := hw
                have hP : va_P D vwCl (wP aP aM aC cJ (f_X2_put S_89 (pP_dstPlace S_89) (pP_res S_89)).2) H := hP
                have hD : va_D A (wP aP aM aC cJ (f_X2_put S_89 (pP_dstPlace S_89) (pP_res S_89)).2) := hD
                refine lv_istore_n (lv' := [(1, .int ((f_X2_put S_89 (pP_dstPlace S_89) (pP_res S_89)).1)), (0, .ref aP)]) hx hb dX2_step_115 rfl hl (by decide) rfl (fun ls hl => ?_)
                exact kJ116 ((f_X2_put S_89 (pP_dstPlace S_89) (pP_res S_89)).1) ((f_X2_put S_89 (pP_dstPlace S_89) (pP_res S_89)).2) _ _ _ (by rw [hJ89, f_X2_step_J89, if_pos c10, if_neg c11]) hP hD hS (lv_sub hl [1, 0] rfl)
          refine lv_if_ne (tgt := 89) hx hb dX2_step_71 (by decide) (fun c8 => ?_) (fun c8 => ?_)
          · exact kJ89 v1_70 S_70 _ _ _ (by rw [hJ70, f_X2_step_J70, if_neg c8]) hP hD hS (lv_sub hl [0, 1] rfl)
          · refine lv_aload_n hx hb dX2_step_74 rfl (lv_at hl 0 rfl) ?_
            refine lv_sipush (v := 17792) hx hb dX2_step_75 (by decide) ?_
            refine q_callVi (As := [.int 17792]) (rest := []) (q0 := 0) (ci := 1) (C := RX2) (c_X2_has l D aP aM aC cJ S_70 17792) hfix (cwV 1 hts gX2_step_X2_has rfl rfl rfl (by decide +kernel) ⟨Nat.le_of_ble_eq_true rfl, Nat.le_of_ble_eq_true rfl⟩) rfl hl.1 rfl (Nat.le_of_ble_eq_true rfl) ⟨Nat.zero_le _, Nat.zero_le _⟩ hP hK hS hA [0, 1, 2] [0] rfl rfl rfl rfl rfl dX2_step_78 (fun H locs hP hS => ?_)
            refine lv_if_eq (tgt := 89) hx hb dX2_step_81 (by decide) (fun c9 => ?_) (fun c9 => ?_)
            · exact kJ89 v1_70 S_70 _ _ _ (by rw [hJ70, f_X2_step_J70, if_pos c8, if_pos c9]) hP hD hS (lv_sub hl [0, 1] rfl)
            · refine lv_aload_n hx hb dX2_step_84 rfl (lv_at hl 0 rfl) ?_
              refine q_callMi (As := []) (rest := []) (wr := []) (Wn := (fun u => (wP aP aM aC cJ u))) (q0 := 0) (ci := 1) (C := RX2) (c_X2_findRes l D aP aM aC cJ S_70) hfix (cwV 0 hts gX2_step_X2_findRes rfl rfl rfl (by decide +kernel) ⟨Nat.le_of_ble_eq_true rfl, Nat.le_of_ble_eq_true rfl⟩) rfl hl.1 rfl (Nat.le_of_ble_eq_true rfl) ⟨Nat.zero_le _, Nat.zero_le _⟩ hP hK hD hS hA [0, 1, 2] [] [0, 1, 2] [0] rfl rfl rfl (by decide) (by decide) (by decide) (by decide) (fun _ => rfl) (fun _ => rfl) rfl rfl rfl rfl dX2_step_85 (fun r u H locs hw hP hD hS => ?_)
              obtain ⟨rfl, rfl⟩ := hw
              have hP : va_P D vwCl (wP aP aM aC cJ (f_X2_findRes S_70).2) H := hP
              have hD : va_D A (wP aP aM aC cJ (f_X2_findRes S_70).2) := hD
              refine lv_istore_n (lv' := [(1, .int ((f_X2_findRes S_70).1)), (0, .ref aP)]) hx hb dX2_step_88 rfl hl (by decide) rfl (fun ls hl => ?_)
              exact kJ89 ((f_X2_findRes S_70).1) ((f_X2_findRes S_70).2) _ _ _ (by rw [hJ70, f_X2_step_J70, if_pos c8, if_neg c9]) hP hD hS (lv_sub hl [1, 0] rfl)
        refine lv_if_ne (tgt := 70) hx hb dX2_step_43 (by decide) (fun c5 => ?_) (fun c5 => ?_)
        · exact kJ70 v1_42 S_42 _ _ _ (by rw [hJ42, f_X2_step_J42, if_neg c5]) hP hD hS (lv_sub hl [0, 1] rfl)
        · refine lv_aload_n hx hb dX2_step_46 rfl (lv_at hl 0 rfl) ?_
          refine lv_sipush (v := 16384) hx hb dX2_step_47 (by decide) ?_
          refine q_callVi (As := [.int 16384]) (rest := []) (q0 := 0) (ci := 1) (C := RX2) (c_X2_has l D aP aM aC cJ S_42 16384) hfix (cwV 1 hts gX2_step_X2_has rfl rfl rfl (by decide +kernel) ⟨Nat.le_of_ble_eq_true rfl, Nat.le_of_ble_eq_true rfl⟩) rfl hl.1 rfl (Nat.le_of_ble_eq_true rfl) ⟨Nat.zero_le _, Nat.zero_le _⟩ hP hK hS hA [0, 1, 2] [0] rfl rfl rfl rfl rfl dX2_step_50 (fun H locs hP hS => ?_)
          refine lv_if_eq (tgt := 70) hx hb dX2_step_53 (by decide) (fun c6 => ?_) (fun c6 => ?_)
          · exact kJ70 v1_42 S_42 _ _ _ (by rw [hJ42, f_X2_step_J42, if_pos c5, if_pos c6]) hP hD hS (lv_sub hl [0, 1] rfl)
          · refine lv_aload_n hx hb dX2_step_56 rfl (lv_at hl 0 rfl) ?_
            refine lv_bipush (v := 96) hx hb dX2_step_57 (by decide) ?_
            refine q_callVi (As := [.int 96]) (rest := []) (q0 := 0) (ci := 1) (C := RX2) (c_X2_has l D aP aM aC cJ S_42 96) hfix (cwV 1 hts gX2_step_X2_has rfl rfl rfl (by decide +kernel) ⟨Nat.le_of_ble_eq_true rfl, Nat.le_of_ble_eq_true rfl⟩) rfl hl.1 rfl (Nat.le_of_ble_eq_true rfl) ⟨Nat.zero_le _, Nat.zero_le _⟩ hP hK hS hA [0, 1, 2] [0] rfl rfl rfl rfl rfl dX2_step_59 (fun H locs hP hS => ?_)
            refine lv_if_eq (tgt := 70) hx hb dX2_step_62 (by decide) (fun c7 => ?_) (fun c7 => ?_)
            · exact kJ70 v1_42 S_42 _ _ _ (by rw [hJ42, f_X2_step_J42, if_pos c5, if_neg c6, if_pos c7]) hP hD hS (lv_sub hl [0, 1] rfl)
            · refine lv_aload_n hx hb dX2_step_65 rfl (lv_at hl 0 rfl) ?_
              refine q_callMi (As := []) (rest := []) (wr := []) (Wn := (fun u => (wP aP aM aC cJ u))) (q0 := 0) (ci := 1) (C := RX2) (c_X2_deduce l D aP aM aC cJ S_42) hfix (cwV 0 hts gX2_step_X2_deduce rfl rfl rfl (by decide +kernel) ⟨Nat.le_of_ble_eq_true rfl, Nat.le_of_ble_eq_true rfl⟩) rfl hl.1 rfl (Nat.le_of_ble_eq_true rfl) ⟨Nat.zero_le _, Nat.zero_le _⟩ hP hK hD hS hA [0, 1, 2] [] [0, 1, 2] [0] rfl rfl rfl (by decide) (by decide) (by decide) (by decide) (fun _ => rfl) (fun _ => rfl) rfl rfl rfl rfl dX2_step_66 (fun r u H locs hw hP hD hS => ?_)
              obtain ⟨rfl, rfl⟩ := hw
              have hP : va_P D vwCl (wP aP aM aC cJ (f_X2_deduce S_42).2) H := hP
              have hD : va_D A (wP aP aM aC cJ (f_X2_deduce S_42).2) := hD
              refine lv_istore_n (lv' := [(1, .int ((f_X2_deduce S_42).1)), (0, .ref aP)]) hx hb dX2_step_69 rfl hl (by decide) rfl (fun ls hl => ?_)
              exact kJ70 ((f_X2_deduce S_42).1) ((f_X2_deduce S_42).2) _ _ _ (by rw [hJ42, f_X2_step_J42, if_pos c5, if_neg c6, if_neg c7]) hP hD hS (lv_sub hl [1, 0] rfl)
      refine lv_if_ne (tgt := 42) hx hb dX2_step_34 (by decide) (fun c4 => ?_) (fun c4 => ?_)
      · exact kJ42 v1_33 S_33 _ _ _ (by rw [hJ33, f_X2_step_J33, if_neg c4]) hP hD hS (lv_sub hl [0, 1] rfl)
      · refine lv_aload_n hx hb dX2_step_37 rfl (lv_at hl 0 rfl) ?_
        refine q_callMi (As := []) (rest := []) (wr := []) (Wn := (fun u => (wP aP aM aC cJ u))) (q0 := 0) (ci := 1) (C := RX2) (c_X2_placeOp1 l D aP aM aC cJ S_33) hfix (cwV 0 hts gX2_step_X2_placeOp1 rfl rfl rfl (by decide +kernel) ⟨Nat.le_of_ble_eq_true rfl, Nat.le_of_ble_eq_true rfl⟩) rfl hl.1 rfl (Nat.le_of_ble_eq_true rfl) ⟨Nat.zero_le _, Nat.zero_le _⟩ hP hK hD hS hA [0, 1, 2] [] [0, 1, 2] [0] rfl rfl rfl (by decide) (by decide) (by decide) (by decide) (fun _ => rfl) (fun _ => rfl) rfl rfl rfl rfl dX2_step_38 (fun r u H locs hw hP hD hS => ?_)
        obtain ⟨rfl, rfl⟩ := hw
        have hP : va_P D vwCl (wP aP aM aC cJ (f_X2_placeOp1 S_33).2) H := hP
        have hD : va_D A (wP aP aM aC cJ (f_X2_placeOp1 S_33).2) := hD
        refine lv_istore_n (lv' := [(1, .int ((f_X2_placeOp1 S_33).1)), (0, .ref aP)]) hx hb dX2_step_41 rfl hl (by decide) rfl (fun ls hl => ?_)
        exact kJ42 ((f_X2_placeOp1 S_33).1) ((f_X2_placeOp1 S_33).2) _ _ _ (by rw [hJ33, f_X2_step_J33, if_pos c4]) hP hD hS (lv_sub hl [1, 0] rfl)
    refine lv_if_ne (tgt := 33) hx hb dX2_step_15 (by decide) (fun c2 => ?_) (fun c2 => ?_)
    · exact kJ33 v1_14 S_14 _ _ _ (by rw [hJ14, f_X2_step_J14, if_neg c2]) hP hD hS (lv_sub hl [0, 1] rfl)
    · refine lv_aload_n hx hb dX2_step_18 rfl (lv_at hl 0 rfl) ?_
      refine lv_sipush (v := 4096) hx hb dX2_step_19 (by decide) ?_
      refine q_callVi (As := [.int 4096]) (rest := []) (q0 := 0) (ci := 1) (C := RX2) (c_X2_has l D aP aM aC cJ S_14 4096) hfix (cwV 1 hts gX2_step_X2_has rfl rfl rfl (by decide +kernel) ⟨Nat.le_of_ble_eq_true rfl, Nat.le_of_ble_eq_true rfl⟩) rfl hl.1 rfl (Nat.le_of_ble_eq_true rfl) ⟨Nat.zero_le _, Nat.zero_le _⟩ hP hK hS hA [0, 1, 2] [0] rfl rfl rfl rfl rfl dX2_step_22 (fun H locs hP hS => ?_)
      refine lv_if_eq (tgt := 33) hx hb dX2_step_25 (by decide) (fun c3 => ?_) (fun c3 => ?_)
      · exact kJ33 v1_14 S_14 _ _ _ (by rw [hJ14, f_X2_step_J14, if_pos c2, if_pos c3]) hP hD hS (lv_sub hl [0, 1] rfl)
      · refine lv_aload_n hx hb dX2_step_28 rfl (lv_at hl 0 rfl) ?_
        refine q_callMi (As := []) (rest := []) (wr := []) (Wn := (fun u => (wP aP aM aC cJ u))) (q0 := 0) (ci := 1) (C := RX2) (c_X2_saveForReturn l D aP aM aC cJ S_14) hfix (cwV 0 hts gX2_step_X2_saveForReturn rfl rfl rfl (by decide +kernel) ⟨Nat.le_of_ble_eq_true rfl, Nat.le_of_ble_eq_true rfl⟩) rfl hl.1 rfl (Nat.le_of_ble_eq_true rfl) ⟨Nat.zero_le _, Nat.zero_le _⟩ hP hK hD hS hA [0, 1, 2] [] [0, 1, 2] [0] rfl rfl rfl (by decide) (by decide) (by decide) (by decide) (fun _ => rfl) (fun _ => rfl) rfl rfl rfl rfl dX2_step_29 (fun r u H locs hw hP hD hS => ?_)
        obtain ⟨rfl, rfl⟩ := hw
        have hP : va_P D vwCl (wP aP aM aC cJ (f_X2_saveForReturn S_14).2) H := hP
        have hD : va_D A (wP aP aM aC cJ (f_X2_saveForReturn S_14).2) := hD
        refine lv_istore_n (lv' := [(1, .int ((f_X2_saveForReturn S_14).1)), (0, .ref aP)]) hx hb dX2_step_32 rfl hl (by decide) rfl (fun ls hl => ?_)
        exact kJ33 ((f_X2_saveForReturn S_14).1) ((f_X2_saveForReturn S_14).2) _ _ _ (by rw [hJ14, f_X2_step_J14, if_pos c2, if_neg c3]) hP hD hS (lv_sub hl [1, 0] rfl)
  refine lv_if_ne (tgt := 14) hx hb dX2_step_6 (by decide) (fun c1 => ?_) (fun c1 => ?_)
  · exact kJ14 ((f_X2_fetch S).1) ((f_X2_fetch S).2) _ _ _ (by rw [f_X2_step, if_neg c1]) hP hD hS (lv_sub hl [1, 0] rfl)
  · refine lv_aload_n hx hb dX2_step_9 rfl (lv_at hl 1 rfl) ?_
    refine q_callMi (As := []) (rest := []) (wr := []) (Wn := (fun u => (wP aP aM aC cJ u))) (q0 := 0) (ci := 1) (C := RX2) (c_X2_placeDstAndOp0 l D aP aM aC cJ ((f_X2_fetch S).2)) hfix (cwV 0 hts gX2_step_X2_placeDstAndOp0 rfl rfl rfl (by decide +kernel) ⟨Nat.le_of_ble_eq_true rfl, Nat.le_of_ble_eq_true rfl⟩) rfl hl.1 rfl (Nat.le_of_ble_eq_true rfl) ⟨Nat.zero_le _, Nat.zero_le _⟩ hP hK hD hS hA [0, 1, 2] [] [0, 1, 2] [0] rfl rfl rfl (by decide) (by decide) (by decide) (by decide) (fun _ => rfl) (fun _ => rfl) rfl rfl rfl rfl dX2_step_10 (fun r u H locs hw hP hD hS => ?_)
    obtain ⟨rfl, rfl⟩ := hw
    have hP : va_P D vwCl (wP aP aM aC cJ (f_X2_placeDstAndOp0 (f_X2_fetch S).2).2) H := hP
    have hD : va_D A (wP aP aM aC cJ (f_X2_placeDstAndOp0 (f_X2_fetch S).2).2) := hD
    refine lv_istore_n (lv' := [(1, .int ((f_X2_placeDstAndOp0 (f_X2_fetch S).2).1)), (0, .ref aP)]) hx hb dX2_step_13 rfl hl (by decide) rfl (fun ls hl => ?_)
    exact kJ14 ((f_X2_placeDstAndOp0 (f_X2_fetch S).2).1) ((f_X2_placeDstAndOp0 (f_X2_fetch S).2).2) _ _ _ (by rw [f_X2_step, if_pos c1]) hP hD hS (lv_sub hl [1, 0] rfl)

def f_X2_place (S : PS) (a0 : Int32) (a1 : Int32) (a2 : Int32) : PS :=
  (sP_fp (sP_ap (sP_pc S (f_X4_ofAddress 1 ((a0 : Int32).toInt64))) (f_X4_ofAddress 2 ((a1 : Int32).toInt64))) (f_X4_ofAddress 2 ((a2 : Int32).toInt64)))

set_option maxHeartbeats 4000000 in
set_option maxRecDepth 100000 in
theorem c_X2_place (l : Launch) (D : va_G) (aP aM aC : Nat) (cJ : ClassId) (S : PS) (a0 : Int32) (a1 : Int32) (a2 : Int32) : q_muV l yX2_place wsX2_place ({ frames := 1, cells := 0, slots := 0, locals := 22 }) D [(cJ, .long)] (wP aP aM aC cJ S) [.ref aP, .int a0, .int a1, .int a2] (fun u => u = (f_X2_place S a0 a1 a2)) (fun u => (wP aP aM aC cJ u)) := by
  refine q_muV_of (cc := cX2_place) (maxL := 4) (ret := none) (plainFor_of_name (by decide)) rfl (Nat.le_of_ble_eq_true rfl) ?_
  intro p e s m below meth c ls A hx hb hr hml hown hts hlocks hP hK hD hA hS hl
  have hown : s.vm.findClass RX2 = some m.cls := hown
  have hl : lv_has ls 4 [(0, .ref aP), (1, .int a0), (2, .int a1), (3, .int a2)] := hl
  have hfix : CallFix p m c cX2_place 4 s [.ref aP, .int a0, .int a1, .int a2].toArray wsX2_place RX2 := ⟨hx, hb, hml, hown, hts⟩
  have hin1 : ∀ w ∈ wsX20, w ∈ wsX2_place := by decide +kernel
  refine lv_aload_n hx hb dX2_place_0 rfl (lv_at hl 0 rfl) ?_
  refine lv_iconst (v := 1) hx hb dX2_place_1 (by decide) ?_
  refine lv_iload_n hx hb dX2_place_2 rfl (lv_at hl 1 rfl) ?_
  refine lv_i2l hx hb dX2_place_3 rfl ?_
  refine q_callSl (As := [.int 1, .long ((a0 : Int32).toInt64)]) (rest := [.ref aP]) (c_X4_ofAddress l D 1 ((a0 : Int32).toInt64)) hfix (va_cwS 2 hts gX2_place_X4_ofAddress rfl rfl rfl (by decide +kernel) ⟨Nat.le_of_ble_eq_true rfl, Nat.le_of_ble_eq_true rfl⟩) rfl hl.1 rfl (Nat.le_of_ble_eq_true rfl) ⟨Nat.zero_le _, Nat.zero_le _⟩ hP hK hS hA [] [] rfl rfl dX2_place_4 (fun H locs hP hS => ?_)
  refine va_put (D := D) (ci := 1) (v := .long (f_X4_ofAddress 1 ((a0 : Int32).toInt64))) (ty := .long) (C := RX2) (T := TX2) (N := 13) hx hb hts hin1 tyX2 tyX2_ok nmX2 hown hK hP hD hS 0 rfl rfl 1 (by decide) (hts (.fieldLink RX2 19 "FieldTrace$Processor" "pc" "J") (by decide +kernel)) (fun _ h9 => h9) rfl (by decide +kernel) (rfl) (rfl) (Nat.le_of_ble_eq_true rfl) dX2_place_7 (fun H locs hP hD hS => ?_)
  have hP : va_P D vwCl (wP aP aM aC cJ (sP_pc S (f_X4_ofAddress 1 ((a0 : Int32).toInt64)))) H := hP
  have hD : va_D A (wP aP aM aC cJ (sP_pc S (f_X4_ofAddress 1 ((a0 : Int32).toInt64)))) := hD
  refine lv_aload_n hx hb dX2_place_10 rfl (lv_at hl 0 rfl) ?_
  refine lv_iconst (v := 2) hx hb dX2_place_11 (by decide) ?_
  refine lv_iload_n hx hb dX2_place_12 rfl (lv_at hl 2 rfl) ?_
  refine lv_i2l hx hb dX2_place_13 rfl ?_
  refine q_callSl (As := [.int 2, .long ((a1 : Int32).toInt64)]) (rest := [.ref aP]) (c_X4_ofAddress l D 2 ((a1 : Int32).toInt64)) hfix (va_cwS 2 hts gX2_place_X4_ofAddress rfl rfl rfl (by decide +kernel) ⟨Nat.le_of_ble_eq_true rfl, Nat.le_of_ble_eq_true rfl⟩) rfl hl.1 rfl (Nat.le_of_ble_eq_true rfl) ⟨Nat.zero_le _, Nat.zero_le _⟩ hP hK hS hA [] [] rfl rfl dX2_place_14 (fun H locs hP hS => ?_)
  refine va_put (D := D) (ci := 1) (v := .long (f_X4_ofAddress 2 ((a1 : Int32).toInt64))) (ty := .long) (C := RX2) (T := TX2) (N := 13) hx hb hts hin1 tyX2 tyX2_ok nmX2 hown hK hP hD hS 0 rfl rfl 2 (by decide) (hts (.fieldLink RX2 23 "FieldTrace$Processor" "ap" "J") (by decide +kernel)) (fun _ h9 => h9) rfl (by decide +kernel) (rfl) (rfl) (Nat.le_of_ble_eq_true rfl) dX2_place_17 (fun H locs hP hD hS => ?_)
  have hP : va_P D vwCl (wP aP aM aC cJ (sP_ap (sP_pc S (f_X4_ofAddress 1 ((a0 : Int32).toInt64))) (f_X4_ofAddress 2 ((a1 : Int32).toInt64)))) H := hP
  have hD : va_D A (wP aP aM aC cJ (sP_ap (sP_pc S (f_X4_ofAddress 1 ((a0 : Int32).toInt64))) (f_X4_ofAddress 2 ((a1 : Int32).toInt64)))) := hD
  refine lv_aload_n hx hb dX2_place_20 rfl (lv_at hl 0 rfl) ?_
  refine lv_iconst (v := 2) hx hb dX2_place_21 (by decide) ?_
  refine lv_iload_n hx hb dX2_place_22 rfl (lv_at hl 3 rfl) ?_
  refine lv_i2l hx hb dX2_place_23 rfl ?_
  refine q_callSl (As := [.int 2, .long ((a2 : Int32).toInt64)]) (rest := [.ref aP]) (c_X4_ofAddress l D 2 ((a2 : Int32).toInt64)) hfix (va_cwS 2 hts gX2_place_X4_ofAddress rfl rfl rfl (by decide +kernel) ⟨Nat.le_of_ble_eq_true rfl, Nat.le_of_ble_eq_true rfl⟩) rfl hl.1 rfl (Nat.le_of_ble_eq_true rfl) ⟨Nat.zero_le _, Nat.zero_le _⟩ hP hK hS hA [] [] rfl rfl dX2_place_24 (fun H locs hP hS => ?_)
  refine va_put (D := D) (ci := 1) (v := .long (f_X4_ofAddress 2 ((a2 : Int32).toInt64))) (ty := .long) (C := RX2) (T := TX2) (N := 13) hx hb hts hin1 tyX2 tyX2_ok nmX2 hown hK hP hD hS 0 rfl rfl 3 (by decide) (hts (.fieldLink RX2 26 "FieldTrace$Processor" "fp" "J") (by decide +kernel)) (fun _ h9 => h9) rfl (by decide +kernel) (rfl) (rfl) (Nat.le_of_ble_eq_true rfl) dX2_place_27 (fun H locs hP hD hS => ?_)
  have hP : va_P D vwCl (wP aP aM aC cJ (sP_fp (sP_ap (sP_pc S (f_X4_ofAddress 1 ((a0 : Int32).toInt64))) (f_X4_ofAddress 2 ((a1 : Int32).toInt64))) (f_X4_ofAddress 2 ((a2 : Int32).toInt64)))) H := hP
  have hD : va_D A (wP aP aM aC cJ (sP_fp (sP_ap (sP_pc S (f_X4_ofAddress 1 ((a0 : Int32).toInt64))) (f_X4_ofAddress 2 ((a1 : Int32).toInt64))) (f_X4_ofAddress 2 ((a2 : Int32).toInt64)))) := hD
  exact q_mv (sP_fp (sP_ap (sP_pc S (f_X4_ofAddress 1 ((a0 : Int32).toInt64))) (f_X4_ofAddress 2 ((a1 : Int32).toInt64))) (f_X4_ofAddress 2 ((a2 : Int32).toInt64))) hx hb hr hlocks hP hD hS (Eq.symm (by rw [f_X2_place])) dX2_place_30

