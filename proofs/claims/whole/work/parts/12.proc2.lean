def f_X2_deduce_J131 (S : PS) (t0_41 : Int32) (t0_131 : Int64) : Int32 × PS :=
  (if t0_131 = (-1) then (4, S) else (if t0_41 = 0 then ((f_X2_put S (pP_op1Place S) t0_131).1, (f_X2_put S (pP_op1Place S) t0_131).2) else ((f_X2_put S (pP_op0Place S) t0_131).1, (f_X2_put S (pP_op0Place S) t0_131).2)))

def f_X2_deduce_J107 (S : PS) (t0_41 : Int32) (t0_87 : Int64) : Int32 × PS :=
  (if (f_X2_has S 32) = 0 then (f_X2_deduce_J131 S t0_41 (f_X4_over (f_X2_look S (pP_dstPlace S)) t0_87)) else (f_X2_deduce_J131 S t0_41 (f_X4_minus (f_X2_look S (pP_dstPlace S)) t0_87)))

def f_X2_deduce_J87 (S : PS) (t0_41 : Int32) (t0_87 : Int64) : Int32 × PS :=
  (if (f_X2_has S 64) = 0 then (f_X2_deduce_J107 S t0_41 t0_87) else (if t0_87 = 0 then (0, S) else (f_X2_deduce_J107 S t0_41 t0_87)))

def f_X2_deduce_J57 (S : PS) (t0_41 : Int32) (t0_57 : Int32) : Int32 × PS :=
  (if (f_X2_look S (pP_dstPlace S)) = (-1) then (0, S) else (if t0_41 = t0_57 then (0, S) else (if t0_41 = 0 then (f_X2_deduce_J87 S t0_41 (f_X2_look S (pP_op0Place S))) else (f_X2_deduce_J87 S t0_41 (f_X2_look S (pP_op1Place S))))))

def f_X2_deduce_J41 (S : PS) (t0_41 : Int32) : Int32 × PS :=
  (if (f_X2_look S (pP_op1Place S)) = (-1) then (f_X2_deduce_J57 S t0_41 1) else (f_X2_deduce_J57 S t0_41 0))

def f_X2_deduce (S : PS) : Int32 × PS :=
  (if (f_X2_look S (pP_op0Place S)) = (-1) then (f_X2_deduce_J41 S 1) else (f_X2_deduce_J41 S 0))

set_option maxHeartbeats 4000000 in
set_option maxRecDepth 100000 in
theorem c_X2_deduce (l : Launch) (D : va_G) (aP aM aC : Nat) (cJ : ClassId) (S : PS) : q_muI l yX2_deduce wsX2_deduce ({ frames := 5, cells := 0, slots := 0, locals := 116 }) D [(cJ, .long)] (wP aP aM aC cJ S) [.ref aP] (fun r u => r = (f_X2_deduce S).1 ∧ u = (f_X2_deduce S).2) (fun u => (wP aP aM aC cJ u)) := by
  refine q_muI_of (cc := cX2_deduce) (maxL := 13) (ret := (some .int)) (plainFor_of_name (by decide)) rfl (Nat.le_of_ble_eq_true rfl) ?_
  intro p e s m below meth c ls A hx hb hr hml hown hts hlocks hP hK hD hA hS hl
  have hown : s.vm.findClass RX2 = some m.cls := hown
  have hl : lv_has ls 13 [(0, .ref aP)] := hl
  have hfix : CallFix p m c cX2_deduce 13 s [.ref aP].toArray wsX2_deduce RX2 := ⟨hx, hb, hml, hown, hts⟩
  have hin1 : ∀ w ∈ wsX20, w ∈ wsX2_deduce := by decide +kernel
  refine lv_aload_n hx hb dX2_deduce_0 rfl (lv_at hl 0 rfl) ?_
  refine lv_aload_n hx hb dX2_deduce_1 rfl (lv_at hl 0 rfl) ?_
  refine va_get (D := D) (ci := 1) (v := .long (pP_dstPlace S)) (C := RX2) (T := TX2) (N := 13) hx hb hts hin1 hown hK hP 0 rfl rfl 9 (by decide) (hts (.fieldLink RX2 54 "FieldTrace$Processor" "dstPlace" "J") (by decide +kernel)) (fun _ h9 => h9) rfl dX2_deduce_2 ?_
  refine q_callVl (As := [.long (pP_dstPlace S)]) (rest := []) (q0 := 0) (ci := 1) (C := RX2) (c_X2_look l D aP aM aC cJ S (pP_dstPlace S)) hfix (cwV 1 hts gX2_deduce_X2_look rfl rfl rfl (by decide +kernel) ⟨Nat.le_of_ble_eq_true rfl, Nat.le_of_ble_eq_true rfl⟩) rfl hl.1 rfl (Nat.le_of_ble_eq_true rfl) ⟨Nat.zero_le _, Nat.zero_le _⟩ hP hK hS hA [0, 1, 2] [0] rfl rfl rfl rfl rfl dX2_deduce_5 (fun H locs hP hS => ?_)
  refine lv_lstore_n (lv' := [(1, .long (f_X2_look S (pP_dstPlace S))), (0, .ref aP)]) hx hb dX2_deduce_8 rfl hl (by decide) rfl (fun ls hl => ?_)
  refine lv_aload_n hx hb dX2_deduce_9 rfl (lv_at hl 1 rfl) ?_
  refine lv_aload_n hx hb dX2_deduce_10 rfl (lv_at hl 1 rfl) ?_
  refine va_get (D := D) (ci := 1) (v := .long (pP_op0Place S)) (C := RX2) (T := TX2) (N := 13) hx hb hts hin1 hown hK hP 0 rfl rfl 10 (by decide) (hts (.fieldLink RX2 120 "FieldTrace$Processor" "op0Place" "J") (by decide +kernel)) (fun _ h9 => h9) rfl dX2_deduce_11 ?_
  refine q_callVl (As := [.long (pP_op0Place S)]) (rest := []) (q0 := 0) (ci := 1) (C := RX2) (c_X2_look l D aP aM aC cJ S (pP_op0Place S)) hfix (cwV 1 hts gX2_deduce_X2_look rfl rfl rfl (by decide +kernel) ⟨Nat.le_of_ble_eq_true rfl, Nat.le_of_ble_eq_true rfl⟩) rfl hl.1 rfl (Nat.le_of_ble_eq_true rfl) ⟨Nat.zero_le _, Nat.zero_le _⟩ hP hK hS hA [0, 1, 2] [0] rfl rfl rfl rfl rfl dX2_deduce_14 (fun H locs hP hS => ?_)
  refine lv_lstore_n (lv' := [(3, .long (f_X2_look S (pP_op0Place S))), (1, .long (f_X2_look S (pP_dstPlace S))), (0, .ref aP)]) hx hb dX2_deduce_17 rfl hl (by decide) rfl (fun ls hl => ?_)
  refine lv_aload_n hx hb dX2_deduce_18 rfl (lv_at hl 2 rfl) ?_
  refine lv_aload_n hx hb dX2_deduce_19 rfl (lv_at hl 2 rfl) ?_
  refine va_get (D := D) (ci := 1) (v := .long (pP_op1Place S)) (C := RX2) (T := TX2) (N := 13) hx hb hts hin1 hown hK hP 0 rfl rfl 11 (by decide) (hts (.fieldLink RX2 133 "FieldTrace$Processor" "op1Place" "J") (by decide +kernel)) (fun _ h9 => h9) rfl dX2_deduce_20 ?_
  refine q_callVl (As := [.long (pP_op1Place S)]) (rest := []) (q0 := 0) (ci := 1) (C := RX2) (c_X2_look l D aP aM aC cJ S (pP_op1Place S)) hfix (cwV 1 hts gX2_deduce_X2_look rfl rfl rfl (by decide +kernel) ⟨Nat.le_of_ble_eq_true rfl, Nat.le_of_ble_eq_true rfl⟩) rfl hl.1 rfl (Nat.le_of_ble_eq_true rfl) ⟨Nat.zero_le _, Nat.zero_le _⟩ hP hK hS hA [0, 1, 2] [0] rfl rfl rfl rfl rfl dX2_deduce_23 (fun H locs hP hS => ?_)
  refine lv_lstore (lv' := [(5, .long (f_X2_look S (pP_op1Place S))), (3, .long (f_X2_look S (pP_op0Place S))), (1, .long (f_X2_look S (pP_dstPlace S))), (0, .ref aP)]) hx hb dX2_deduce_26 hl (by decide) rfl (fun ls hl => ?_)
  refine lv_lload_n hx hb dX2_deduce_28 rfl (lv_at hl 1 rfl) ?_
  refine lv_ldc2 (v := -1) hx hb hown (hts (.constantLong RX2 95 (-1)) (by decide +kernel)) dX2_deduce_29 ?_
  have kJ41 : ∀ (t0_41 : Int32) (H : Heap) (locs : List Loc) (ls : Array Slot), (t0_41 = 0 ∨ t0_41 = 1) → (f_X2_deduce S) = (f_X2_deduce_J41 S t0_41) → va_P D vwCl (wP aP aM aC cJ S) H → va_D A (wP aP aM aC cJ S) → va_S A s.heap H locs → lv_has ls 13 [(0, .ref aP), (1, .long (f_X2_look S (pP_dstPlace S))), (3, .long (f_X2_look S (pP_op0Place S))), (5, .long (f_X2_look S (pP_op1Place S)))] → W p l e ({ frames := 5, cells := 0, slots := 0, locals := 116 }) s m [.ref aP].toArray below meth c H locs 0 0 (MQ below (va_Qi (fun r u => r = (f_X2_deduce S).1 ∧ u = (f_X2_deduce S).2) (fun u t => va_P D vwCl ((fun u => (wP aP aM aC cJ u)) u) t.heap ∧ va_D A ((fun u => (wP aP aM aC cJ u)) u)) A) [.ref aP].toArray s 0 0 A) (F0 m 41 ls [.int t0_41]) := by
    intro t0_41 H locs ls hb_t0_41 hJ41 hP hD hS hl
    refine lv_istore (lv' := [(7, .int t0_41), (0, .ref aP), (1, .long (f_X2_look S (pP_dstPlace S))), (3, .long (f_X2_look S (pP_op0Place S))), (5, .long (f_X2_look S (pP_op1Place S)))]) hx hb dX2_deduce_41 hl (by decide) rfl (fun ls hl => ?_)
    refine lv_lload hx hb dX2_deduce_43 (lv_at hl 4 rfl) ?_
    refine lv_ldc2 (v := -1) hx hb hown (hts (.constantLong RX2 95 (-1)) (by decide +kernel)) dX2_deduce_45 ?_
    have kJ57 : ∀ (t0_57 : Int32) (H : Heap) (locs : List Loc) (ls : Array Slot), (t0_57 = 0 ∨ t0_57 = 1) → (f_X2_deduce S) = (f_X2_deduce_J57 S t0_41 t0_57) → va_P D vwCl (wP aP aM aC cJ S) H → va_D A (wP aP aM aC cJ S) → va_S A s.heap H locs → lv_has ls 13 [(0, .ref aP), (1, .long (f_X2_look S (pP_dstPlace S))), (3, .long (f_X2_look S (pP_op0Place S))), (5, .long (f_X2_look S (pP_op1Place S))), (7, .int t0_41)] → W p l e ({ frames := 5, cells := 0, slots := 0, locals := 116 }) s m [.ref aP].toArray below meth c H locs 0 0 (MQ below (va_Qi (fun r u => r = (f_X2_deduce S).1 ∧ u = (f_X2_deduce S).2) (fun u t => va_P D vwCl ((fun u => (wP aP aM aC cJ u)) u) t.heap ∧ va_D A ((fun u => (wP aP aM aC cJ u)) u)) A) [.ref aP].toArray s 0 0 A) (F0 m 57 ls [.int t0_57]) := by
      intro t0_57 H locs ls hb_t0_57 hJ57 hP hD hS hl
      refine lv_istore (lv' := [(8, .int t0_57), (0, .ref aP), (1, .long (f_X2_look S (pP_dstPlace S))), (3, .long (f_X2_look S (pP_op0Place S))), (5, .long (f_X2_look S (pP_op1Place S))), (7, .int t0_41)]) hx hb dX2_deduce_57 hl (by decide) rfl (fun ls hl => ?_)
      refine lv_lload_n hx hb dX2_deduce_59 rfl (lv_at hl 2 rfl) ?_
      refine lv_ldc2 (v := -1) hx hb hown (hts (.constantLong RX2 95 (-1)) (by decide +kernel)) dX2_deduce_60 ?_
      refine q_eq (tgt := 74) hx hb dX2_deduce_63 dX2_deduce_64 (by decide) (fun c3 => ?_) (fun c3 => ?_)
      · refine lv_iconst (v := 0) hx hb dX2_deduce_74 (by decide) ?_
        exact q_mi S hx hb hr hlocks hP hD hS (q_pair (by rw [hJ57, f_X2_deduce_J57, if_pos c3])) dX2_deduce_75
      · refine lv_iload hx hb dX2_deduce_67 (lv_at hl 5 rfl) ?_
        refine lv_iload hx hb dX2_deduce_69 (lv_at hl 0 rfl) ?_
        refine lv_icmp_ne (tgt := 76) hx hb dX2_deduce_71 (by decide) (fun c4 => ?_) (fun c4 => ?_)
        · refine lv_iload hx hb dX2_deduce_76 (lv_at hl 5 rfl) ?_
          have kJ87 : ∀ (t0_87 : Int64) (H : Heap) (locs : List Loc) (ls : Array Slot), (f_X2_deduce S) = (f_X2_deduce_J87 S t0_41 t0_87) → va_P D vwCl (wP aP aM aC cJ S) H → va_D A (wP aP aM aC cJ S) → va_S A s.heap H locs → lv_has ls 13 [(0, .ref aP), (1, .long (f_X2_look S (pP_dstPlace S))), (3, .long (f_X2_look S (pP_op0Place S))), (5, .long (f_X2_look S (pP_op1Place S))), (7, .int t0_41), (8, .int t0_57)] → W p l e ({ frames := 5, cells := 0, slots := 0, locals := 116 }) s m [.ref aP].toArray below meth c H locs 0 0 (MQ below (va_Qi (fun r u => r = (f_X2_deduce S).1 ∧ u = (f_X2_deduce S).2) (fun u t => va_P D vwCl ((fun u => (wP aP aM aC cJ u)) u) t.heap ∧ va_D A ((fun u => (wP aP aM aC cJ u)) u)) A) [.ref aP].toArray s 0 0 A) (F0 m 87 ls [.long t0_87]) := by
            intro t0_87 H locs ls hJ87 hP hD hS hl
            refine lv_lstore (lv' := [(9, .long t0_87), (0, .ref aP), (1, .long (f_X2_look S (pP_dstPlace S))), (3, .long (f_X2_look S (pP_op0Place S))), (5, .long (f_X2_look S (pP_op1Place S))), (7, .int t0_41), (8, .int t0_57)]) hx hb dX2_deduce_87 hl (by decide) rfl (fun ls hl => ?_)
            refine lv_aload_n hx hb dX2_deduce_89 rfl (lv_at hl 1 rfl) ?_
            refine lv_bipush (v := 64) hx hb dX2_deduce_90 (by decide) ?_
            refine q_callVi (As := [.int 64]) (rest := []) (q0 := 0) (ci := 1) (C := RX2) (c_X2_has l D aP aM aC cJ S 64) hfix (cwV 1 hts gX2_deduce_X2_has rfl rfl rfl (by decide +kernel) ⟨Nat.le_of_ble_eq_true rfl, Nat.le_of_ble_eq_true rfl⟩) rfl hl.1 rfl (Nat.le_of_ble_eq_true rfl) ⟨Nat.zero_le _, Nat.zero_le _⟩ hP hK hS hA [0, 1, 2] [0] rfl rfl rfl rfl rfl dX2_deduce_92 (fun H locs hP hS => ?_)
            have kJ107 : ∀ (H : Heap) (locs : List Loc) (ls : Array Slot), (f_X2_deduce S) = (f_X2_deduce_J107 S t0_41 t0_87) → va_P D vwCl (wP aP aM aC cJ S) H → va_D A (wP aP aM aC cJ S) → va_S A s.heap H locs → lv_has ls 13 [(0, .ref aP), (1, .long (f_X2_look S (pP_dstPlace S))), (3, .long (f_X2_look S (pP_op0Place S))), (5, .long (f_X2_look S (pP_op1Place S))), (7, .int t0_41), (8, .int t0_57), (9, .long t0_87)] → W p l e ({ frames := 5, cells := 0, slots := 0, locals := 116 }) s m [.ref aP].toArray below meth c H locs 0 0 (MQ below (va_Qi (fun r u => r = (f_X2_deduce S).1 ∧ u = (f_X2_deduce S).2) (fun u t => va_P D vwCl ((fun u => (wP aP aM aC cJ u)) u) t.heap ∧ va_D A ((fun u => (wP aP aM aC cJ u)) u)) A) [.ref aP].toArray s 0 0 A) (F0 m 107 ls []) := by
              intro H locs ls hJ107 hP hD hS hl
              refine lv_aload_n hx hb dX2_deduce_107 rfl (lv_at hl 0 rfl) ?_
              refine lv_bipush (v := 32) hx hb dX2_deduce_108 (by decide) ?_
              refine q_callVi (As := [.int 32]) (rest := []) (q0 := 0) (ci := 1) (C := RX2) (c_X2_has l D aP aM aC cJ S 32) hfix (cwV 1 hts gX2_deduce_X2_has rfl rfl rfl (by decide +kernel) ⟨Nat.le_of_ble_eq_true rfl, Nat.le_of_ble_eq_true rfl⟩) rfl hl.1 rfl (Nat.le_of_ble_eq_true rfl) ⟨Nat.zero_le _, Nat.zero_le _⟩ hP hK hS hA [0, 1, 2] [0] rfl rfl rfl rfl rfl dX2_deduce_110 (fun H locs hP hS => ?_)
              have kJ131 : ∀ (t0_131 : Int64) (H : Heap) (locs : List Loc) (ls : Array Slot), (f_X2_deduce S) = (f_X2_deduce_J131 S t0_41 t0_131) → va_P D vwCl (wP aP aM aC cJ S) H → va_D A (wP aP aM aC cJ S) → va_S A s.heap H locs → lv_has ls 13 [(0, .ref aP), (1, .long (f_X2_look S (pP_dstPlace S))), (3, .long (f_X2_look S (pP_op0Place S))), (5, .long (f_X2_look S (pP_op1Place S))), (7, .int t0_41), (8, .int t0_57), (9, .long t0_87)] → W p l e ({ frames := 5, cells := 0, slots := 0, locals := 116 }) s m [.ref aP].toArray below meth c H locs 0 0 (MQ below (va_Qi (fun r u => r = (f_X2_deduce S).1 ∧ u = (f_X2_deduce S).2) (fun u t => va_P D vwCl ((fun u => (wP aP aM aC cJ u)) u) t.heap ∧ va_D A ((fun u => (wP aP aM aC cJ u)) u)) A) [.ref aP].toArray s 0 0 A) (F0 m 131 ls [.long t0_131]) := by
                intro t0_131 H locs ls hJ131 hP hD hS hl
                refine lv_lstore (lv' := [(11, .long t0_131), (0, .ref aP), (1, .long (f_X2_look S (pP_dstPlace S))), (3, .long (f_X2_look S (pP_op0Place S))), (5, .long (f_X2_look S (pP_op1Place S))), (7, .int t0_41), (8, .int t0_57), (9, .long t0_87)]) hx hb dX2_deduce_131 hl (by decide) rfl (fun ls hl => ?_)
                refine lv_lload hx hb dX2_deduce_133 (lv_at hl 0 rfl) ?_
                refine lv_ldc2 (v := -1) hx hb hown (hts (.constantLong RX2 95 (-1)) (by decide +kernel)) dX2_deduce_135 ?_
                refine q_ne (tgt := 146) hx hb dX2_deduce_138 dX2_deduce_139 (by decide) (fun c9 => ?_) (fun c9 => ?_)
                · refine lv_aload_n hx hb dX2_deduce_146 rfl (lv_at hl 1 rfl) ?_
                  refine lv_iload hx hb dX2_deduce_147 (lv_at hl 5 rfl) ?_
                  refine lv_if_eq (tgt := 159) hx hb dX2_deduce_149 (by decide) (fun c10 => ?_) (fun c10 => ?_)
                  · refine lv_aload_n hx hb dX2_deduce_159 rfl (lv_at hl 1 rfl) ?_
                    refine va_get (D := D) (ci := 1) (v := .long (pP_op1Place S)) (C := RX2) (T := TX2) (N := 13) hx hb hts hin1 hown hK hP 0 rfl rfl 11 (by decide) (hts (.fieldLink RX2 133 "FieldTrace$Processor" "op1Place" "J") (by decide +kernel)) (fun _ h9 => h9) rfl dX2_deduce_160 ?_
                    refine lv_lload hx hb dX2_deduce_163 (lv_at hl 0 rfl) ?_
                    refine q_callMi (As := [.long (pP_op1Place S), .long t0_131]) (rest := []) (wr := []) (Wn := (fun u => (wP aP aM aC cJ u))) (q0 := 0) (ci := 1) (C := RX2) (c_X2_put l D aP aM aC cJ S (pP_op1Place S) t0_131) hfix (cwV 2 hts gX2_deduce_X2_put rfl rfl rfl (by decide +kernel) ⟨Nat.le_of_ble_eq_true rfl, Nat.le_of_ble_eq_true rfl⟩) rfl hl.1 rfl (Nat.le_of_ble_eq_true rfl) ⟨Nat.zero_le _, Nat.zero_le _⟩ hP hK hD hS hA [0, 1, 2] [] [0, 1, 2] [0] rfl rfl rfl (by decide) (by decide) (by decide) (by decide) (fun _ => rfl) (fun _ => rfl) rfl rfl rfl rfl dX2_deduce_165 (fun r u H locs hw hP hD hS => ?_)
                    obtain ⟨rfl, rfl⟩ := hw
                    have hP : va_P D vwCl (wP aP aM aC cJ (f_X2_put S (pP_op1Place S) t0_131).2) H := hP
                    have hD : va_D A (wP aP aM aC cJ (f_X2_put S (pP_op1Place S) t0_131).2) := hD
                    exact q_mi ((f_X2_put S (pP_op1Place S) t0_131).2) hx hb hr hlocks hP hD hS (q_pair (by rw [hJ131, f_X2_deduce_J131, if_neg c9, if_pos c10])) dX2_deduce_168
                  · refine lv_aload_n hx hb dX2_deduce_152 rfl (lv_at hl 1 rfl) ?_
                    refine va_get (D := D) (ci := 1) (v := .long (pP_op0Place S)) (C := RX2) (T := TX2) (N := 13) hx hb hts hin1 hown hK hP 0 rfl rfl 10 (by decide) (hts (.fieldLink RX2 120 "FieldTrace$Processor" "op0Place" "J") (by decide +kernel)) (fun _ h9 => h9) rfl dX2_deduce_153 ?_
                    refine lv_goto (tgt := 163) hx hb dX2_deduce_156 (by decide) ?_
                    refine lv_lload hx hb dX2_deduce_163 (lv_at hl 0 rfl) ?_
                    refine q_callMi (As := [.long (pP_op0Place S), .long t0_131]) (rest := []) (wr := []) (Wn := (fun u => (wP aP aM aC cJ u))) (q0 := 0) (ci := 1) (C := RX2) (c_X2_put l D aP aM aC cJ S (pP_op0Place S) t0_131) hfix (cwV 2 hts gX2_deduce_X2_put rfl rfl rfl (by decide +kernel) ⟨Nat.le_of_ble_eq_true rfl, Nat.le_of_ble_eq_true rfl⟩) rfl hl.1 rfl (Nat.le_of_ble_eq_true rfl) ⟨Nat.zero_le _, Nat.zero_le _⟩ hP hK hD hS hA [0, 1, 2] [] [0, 1, 2] [0] rfl rfl rfl (by decide) (by decide) (by decide) (by decide) (fun _ => rfl) (fun _ => rfl) rfl rfl rfl rfl dX2_deduce_165 (fun r u H locs hw hP hD hS => ?_)
                    obtain ⟨rfl, rfl⟩ := hw
                    have hP : va_P D vwCl (wP aP aM aC cJ (f_X2_put S (pP_op0Place S) t0_131).2) H := hP
                    have hD : va_D A (wP aP aM aC cJ (f_X2_put S (pP_op0Place S) t0_131).2) := hD
                    exact q_mi ((f_X2_put S (pP_op0Place S) t0_131).2) hx hb hr hlocks hP hD hS (q_pair (by rw [hJ131, f_X2_deduce_J131, if_neg c9, if_neg c10])) dX2_deduce_168
                · refine lv_iconst (v := 4) hx hb dX2_deduce_142 (by decide) ?_
                  refine lv_goto (tgt := 168) hx hb dX2_deduce_143 (by decide) ?_
                  exact q_mi S hx hb hr hlocks hP hD hS (q_pair (by rw [hJ131, f_X2_deduce_J131, if_pos c9])) dX2_deduce_168
              refine lv_if_eq (tgt := 125) hx hb dX2_deduce_113 (by decide) (fun c8 => ?_) (fun c8 => ?_)
              · refine lv_lload_n hx hb dX2_deduce_125 rfl (lv_at hl 1 rfl) ?_
                refine lv_lload hx hb dX2_deduce_126 (lv_at hl 6 rfl) ?_
                refine q_callSl (As := [.long (f_X2_look S (pP_dstPlace S)), .long t0_87]) (rest := []) (c_X4_over l D (f_X2_look S (pP_dstPlace S)) t0_87) hfix (va_cwS 2 hts gX2_deduce_X4_over rfl rfl rfl (by decide +kernel) ⟨Nat.le_of_ble_eq_true rfl, Nat.le_of_ble_eq_true rfl⟩) rfl hl.1 rfl (Nat.le_of_ble_eq_true rfl) ⟨Nat.zero_le _, Nat.zero_le _⟩ hP hK hS hA [] [] rfl rfl dX2_deduce_128 (fun H locs hP hS => ?_)
                exact kJ131 (f_X4_over (f_X2_look S (pP_dstPlace S)) t0_87) _ _ _ (by rw [hJ107, f_X2_deduce_J107, if_pos c8]) hP hD hS (lv_sub hl [0, 1, 2, 3, 4, 5, 6] rfl)
              · refine lv_lload_n hx hb dX2_deduce_116 rfl (lv_at hl 1 rfl) ?_
                refine lv_lload hx hb dX2_deduce_117 (lv_at hl 6 rfl) ?_
                refine q_callSl (As := [.long (f_X2_look S (pP_dstPlace S)), .long t0_87]) (rest := []) (c_X4_minus l D (f_X2_look S (pP_dstPlace S)) t0_87) hfix (va_cwS 2 hts gX2_deduce_X4_minus rfl rfl rfl (by decide +kernel) ⟨Nat.le_of_ble_eq_true rfl, Nat.le_of_ble_eq_true rfl⟩) rfl hl.1 rfl (Nat.le_of_ble_eq_true rfl) ⟨Nat.zero_le _, Nat.zero_le _⟩ hP hK hS hA [] [] rfl rfl dX2_deduce_119 (fun H locs hP hS => ?_)
                refine lv_goto (tgt := 131) hx hb dX2_deduce_122 (by decide) ?_
                exact kJ131 (f_X4_minus (f_X2_look S (pP_dstPlace S)) t0_87) _ _ _ (by rw [hJ107, f_X2_deduce_J107, if_neg c8]) hP hD hS (lv_sub hl [0, 1, 2, 3, 4, 5, 6] rfl)
            refine lv_if_eq (tgt := 107) hx hb dX2_deduce_95 (by decide) (fun c6 => ?_) (fun c6 => ?_)
            · exact kJ107 _ _ _ (by rw [hJ87, f_X2_deduce_J87, if_pos c6]) hP hD hS (lv_sub hl [1, 2, 3, 4, 5, 6, 0] rfl)
            · refine lv_lload hx hb dX2_deduce_98 (lv_at hl 0 rfl) ?_
              refine lv_lconst (v := 0) hx hb dX2_deduce_100 (by decide) ?_
              refine q_ne (tgt := 107) hx hb dX2_deduce_101 dX2_deduce_102 (by decide) (fun c7 => ?_) (fun c7 => ?_)
              · exact kJ107 _ _ _ (by rw [hJ87, f_X2_deduce_J87, if_neg c6, if_neg c7]) hP hD hS (lv_sub hl [1, 2, 3, 4, 5, 6, 0] rfl)
              · refine lv_iconst (v := 0) hx hb dX2_deduce_105 (by decide) ?_
                exact q_mi S hx hb hr hlocks hP hD hS (q_pair (by rw [hJ87, f_X2_deduce_J87, if_neg c6, if_pos c7])) dX2_deduce_106
          refine lv_if_eq (tgt := 86) hx hb dX2_deduce_78 (by decide) (fun c5 => ?_) (fun c5 => ?_)
          · refine lv_lload_n hx hb dX2_deduce_86 rfl (lv_at hl 3 rfl) ?_
            exact kJ87 (f_X2_look S (pP_op0Place S)) _ _ _ (by rw [hJ57, f_X2_deduce_J57, if_neg c3, if_neg c4, if_pos c5]) hP hD hS (lv_sub hl [1, 2, 3, 4, 5, 0] rfl)
          · refine lv_lload hx hb dX2_deduce_81 (lv_at hl 4 rfl) ?_
            refine lv_goto (tgt := 87) hx hb dX2_deduce_83 (by decide) ?_
            exact kJ87 (f_X2_look S (pP_op1Place S)) _ _ _ (by rw [hJ57, f_X2_deduce_J57, if_neg c3, if_neg c4, if_neg c5]) hP hD hS (lv_sub hl [1, 2, 3, 4, 5, 0] rfl)
        · refine lv_iconst (v := 0) hx hb dX2_deduce_74 (by decide) ?_
          exact q_mi S hx hb hr hlocks hP hD hS (q_pair (by rw [hJ57, f_X2_deduce_J57, if_neg c3, if_pos c4])) dX2_deduce_75
    refine q_ne (tgt := 56) hx hb dX2_deduce_48 dX2_deduce_49 (by decide) (fun c2 => ?_) (fun c2 => ?_)
    · refine lv_iconst (v := 0) hx hb dX2_deduce_56 (by decide) ?_
      exact kJ57 0 _ _ _ (Or.inl rfl) (by rw [hJ41, f_X2_deduce_J41, if_neg c2]) hP hD hS (lv_sub hl [1, 2, 3, 4, 0] rfl)
    · refine lv_iconst (v := 1) hx hb dX2_deduce_52 (by decide) ?_
      refine lv_goto (tgt := 57) hx hb dX2_deduce_53 (by decide) ?_
      exact kJ57 1 _ _ _ (Or.inr rfl) (by rw [hJ41, f_X2_deduce_J41, if_pos c2]) hP hD hS (lv_sub hl [1, 2, 3, 4, 0] rfl)
  refine q_ne (tgt := 40) hx hb dX2_deduce_32 dX2_deduce_33 (by decide) (fun c1 => ?_) (fun c1 => ?_)
  · refine lv_iconst (v := 0) hx hb dX2_deduce_40 (by decide) ?_
    exact kJ41 0 _ _ _ (Or.inl rfl) (by rw [f_X2_deduce, if_neg c1]) hP hD hS (lv_sub hl [3, 2, 1, 0] rfl)
  · refine lv_iconst (v := 1) hx hb dX2_deduce_36 (by decide) ?_
    refine lv_goto (tgt := 41) hx hb dX2_deduce_37 (by decide) ?_
    exact kJ41 1 _ _ _ (Or.inr rfl) (by rw [f_X2_deduce, if_pos c1]) hP hD hS (lv_sub hl [3, 2, 1, 0] rfl)

def f_X2_findRes (S : PS) : Int32 × PS :=
  (if (pP_res (sP_res S (f_X2_look S (pP_op1Place S)))) = (-1) then (1, (sP_res S (f_X2_look S (pP_op1Place S)))) else (if (f_X2_has (sP_res S (f_X2_look S (pP_op1Place S))) 96) = 0 then (0, (sP_res S (f_X2_look S (pP_op1Place S)))) else (if (f_X2_look (sP_res S (f_X2_look S (pP_op1Place S))) (pP_op0Place (sP_res S (f_X2_look S (pP_op1Place S))))) = (-1) then (1, (sP_res S (f_X2_look S (pP_op1Place S)))) else (if (f_X2_has (sP_res S (f_X2_look S (pP_op1Place S))) 32) = 0 then ((f_X2_reckoned (pP_res (sP_res (sP_res S (f_X2_look S (pP_op1Place S))) (f_X4_times (f_X2_look (sP_res S (f_X2_look S (pP_op1Place S))) (pP_op0Place (sP_res S (f_X2_look S (pP_op1Place S))))) (pP_res (sP_res S (f_X2_look S (pP_op1Place S)))))))), (sP_res (sP_res S (f_X2_look S (pP_op1Place S))) (f_X4_times (f_X2_look (sP_res S (f_X2_look S (pP_op1Place S))) (pP_op0Place (sP_res S (f_X2_look S (pP_op1Place S))))) (pP_res (sP_res S (f_X2_look S (pP_op1Place S))))))) else ((f_X2_reckoned (pP_res (sP_res (sP_res S (f_X2_look S (pP_op1Place S))) (f_X4_plus (f_X2_look (sP_res S (f_X2_look S (pP_op1Place S))) (pP_op0Place (sP_res S (f_X2_look S (pP_op1Place S))))) (pP_res (sP_res S (f_X2_look S (pP_op1Place S)))))))), (sP_res (sP_res S (f_X2_look S (pP_op1Place S))) (f_X4_plus (f_X2_look (sP_res S (f_X2_look S (pP_op1Place S))) (pP_op0Place (sP_res S (f_X2_look S (pP_op1Place S))))) (pP_res (sP_res S (f_X2_look S (pP_op1Place S)))))))))))

set_option maxHeartbeats 4000000 in
set_option maxRecDepth 100000 in
theorem c_X2_findRes (l : Launch) (D : va_G) (aP aM aC : Nat) (cJ : ClassId) (S : PS) : q_muI l yX2_findRes wsX2_findRes ({ frames := 4, cells := 0, slots := 0, locals := 91 }) D [(cJ, .long)] (wP aP aM aC cJ S) [.ref aP] (fun r u => r = (f_X2_findRes S).1 ∧ u = (f_X2_findRes S).2) (fun u => (wP aP aM aC cJ u)) := by
  refine q_muI_of (cc := cX2_findRes) (maxL := 3) (ret := (some .int)) (plainFor_of_name (by decide)) rfl (Nat.le_of_ble_eq_true rfl) ?_
  intro p e s m below meth c ls A hx hb hr hml hown hts hlocks hP hK hD hA hS hl
  have hown : s.vm.findClass RX2 = some m.cls := hown
  have hl : lv_has ls 3 [(0, .ref aP)] := hl
  have hfix : CallFix p m c cX2_findRes 3 s [.ref aP].toArray wsX2_findRes RX2 := ⟨hx, hb, hml, hown, hts⟩
  have hin1 : ∀ w ∈ wsX20, w ∈ wsX2_findRes := by decide +kernel
  refine lv_aload_n hx hb dX2_findRes_0 rfl (lv_at hl 0 rfl) ?_
  refine lv_aload_n hx hb dX2_findRes_1 rfl (lv_at hl 0 rfl) ?_
  refine lv_aload_n hx hb dX2_findRes_2 rfl (lv_at hl 0 rfl) ?_
  refine va_get (D := D) (ci := 1) (v := .long (pP_op1Place S)) (C := RX2) (T := TX2) (N := 13) hx hb hts hin1 hown hK hP 0 rfl rfl 11 (by decide) (hts (.fieldLink RX2 133 "FieldTrace$Processor" "op1Place" "J") (by decide +kernel)) (fun _ h9 => h9) rfl dX2_findRes_3 ?_
  refine q_callVl (As := [.long (pP_op1Place S)]) (rest := [.ref aP]) (q0 := 0) (ci := 1) (C := RX2) (c_X2_look l D aP aM aC cJ S (pP_op1Place S)) hfix (cwV 1 hts gX2_findRes_X2_look rfl rfl rfl (by decide +kernel) ⟨Nat.le_of_ble_eq_true rfl, Nat.le_of_ble_eq_true rfl⟩) rfl hl.1 rfl (Nat.le_of_ble_eq_true rfl) ⟨Nat.zero_le _, Nat.zero_le _⟩ hP hK hS hA [0, 1, 2] [0] rfl rfl rfl rfl rfl dX2_findRes_6 (fun H locs hP hS => ?_)
  refine va_put (D := D) (ci := 1) (v := .long (f_X2_look S (pP_op1Place S))) (ty := .long) (C := RX2) (T := TX2) (N := 13) hx hb hts hin1 tyX2 tyX2_ok nmX2 hown hK hP hD hS 0 rfl rfl 12 (by decide) (hts (.fieldLink RX2 57 "FieldTrace$Processor" "res" "J") (by decide +kernel)) (fun _ h9 => h9) rfl (by decide +kernel) (rfl) (rfl) (Nat.le_of_ble_eq_true rfl) dX2_findRes_9 (fun H locs hP hD hS => ?_)
  have hP : va_P D vwCl (wP aP aM aC cJ (sP_res S (f_X2_look S (pP_op1Place S)))) H := hP
  have hD : va_D A (wP aP aM aC cJ (sP_res S (f_X2_look S (pP_op1Place S)))) := hD
  refine lv_aload_n hx hb dX2_findRes_12 rfl (lv_at hl 0 rfl) ?_
  refine va_get (D := D) (ci := 1) (v := .long (pP_res (sP_res S (f_X2_look S (pP_op1Place S))))) (C := RX2) (T := TX2) (N := 13) hx hb hts hin1 hown hK hP 0 rfl rfl 12 (by decide) (hts (.fieldLink RX2 57 "FieldTrace$Processor" "res" "J") (by decide +kernel)) (fun _ h9 => h9) rfl dX2_findRes_13 ?_
  refine lv_ldc2 (v := -1) hx hb hown (hts (.constantLong RX2 95 (-1)) (by decide +kernel)) dX2_findRes_16 ?_
  refine q_ne (tgt := 25) hx hb dX2_findRes_19 dX2_findRes_20 (by decide) (fun c1 => ?_) (fun c1 => ?_)
  · refine lv_aload_n hx hb dX2_findRes_25 rfl (lv_at hl 0 rfl) ?_
    refine lv_bipush (v := 96) hx hb dX2_findRes_26 (by decide) ?_
    refine q_callVi (As := [.int 96]) (rest := []) (q0 := 0) (ci := 1) (C := RX2) (c_X2_has l D aP aM aC cJ (sP_res S (f_X2_look S (pP_op1Place S))) 96) hfix (cwV 1 hts gX2_findRes_X2_has rfl rfl rfl (by decide +kernel) ⟨Nat.le_of_ble_eq_true rfl, Nat.le_of_ble_eq_true rfl⟩) rfl hl.1 rfl (Nat.le_of_ble_eq_true rfl) ⟨Nat.zero_le _, Nat.zero_le _⟩ hP hK hS hA [0, 1, 2] [0] rfl rfl rfl rfl rfl dX2_findRes_28 (fun H locs hP hS => ?_)
    refine lv_if_ne (tgt := 36) hx hb dX2_findRes_31 (by decide) (fun c2 => ?_) (fun c2 => ?_)
    · refine lv_aload_n hx hb dX2_findRes_36 rfl (lv_at hl 0 rfl) ?_
      refine lv_aload_n hx hb dX2_findRes_37 rfl (lv_at hl 0 rfl) ?_
      refine va_get (D := D) (ci := 1) (v := .long (pP_op0Place (sP_res S (f_X2_look S (pP_op1Place S))))) (C := RX2) (T := TX2) (N := 13) hx hb hts hin1 hown hK hP 0 rfl rfl 10 (by decide) (hts (.fieldLink RX2 120 "FieldTrace$Processor" "op0Place" "J") (by decide +kernel)) (fun _ h9 => h9) rfl dX2_findRes_38 ?_
      refine q_callVl (As := [.long (pP_op0Place (sP_res S (f_X2_look S (pP_op1Place S))))]) (rest := []) (q0 := 0) (ci := 1) (C := RX2) (c_X2_look l D aP aM aC cJ (sP_res S (f_X2_look S (pP_op1Place S))) (pP_op0Place (sP_res S (f_X2_look S (pP_op1Place S))))) hfix (cwV 1 hts gX2_findRes_X2_look rfl rfl rfl (by decide +kernel) ⟨Nat.le_of_ble_eq_true rfl, Nat.le_of_ble_eq_true rfl⟩) rfl hl.1 rfl (Nat.le_of_ble_eq_true rfl) ⟨Nat.zero_le _, Nat.zero_le _⟩ hP hK hS hA [0, 1, 2] [0] rfl rfl rfl rfl rfl dX2_findRes_41 (fun H locs hP hS => ?_)
      refine lv_lstore_n (lv' := [(1, .long (f_X2_look (sP_res S (f_X2_look S (pP_op1Place S))) (pP_op0Place (sP_res S (f_X2_look S (pP_op1Place S)))))), (0, .ref aP)]) hx hb dX2_findRes_44 rfl hl (by decide) rfl (fun ls hl => ?_)
      refine lv_lload_n hx hb dX2_findRes_45 rfl (lv_at hl 0 rfl) ?_
      refine lv_ldc2 (v := -1) hx hb hown (hts (.constantLong RX2 95 (-1)) (by decide +kernel)) dX2_findRes_46 ?_
      refine q_ne (tgt := 55) hx hb dX2_findRes_49 dX2_findRes_50 (by decide) (fun c3 => ?_) (fun c3 => ?_)
      · refine lv_aload_n hx hb dX2_findRes_55 rfl (lv_at hl 1 rfl) ?_
        refine lv_aload_n hx hb dX2_findRes_56 rfl (lv_at hl 1 rfl) ?_
        refine lv_bipush (v := 32) hx hb dX2_findRes_57 (by decide) ?_
        refine q_callVi (As := [.int 32]) (rest := [.ref aP]) (q0 := 0) (ci := 1) (C := RX2) (c_X2_has l D aP aM aC cJ (sP_res S (f_X2_look S (pP_op1Place S))) 32) hfix (cwV 1 hts gX2_findRes_X2_has rfl rfl rfl (by decide +kernel) ⟨Nat.le_of_ble_eq_true rfl, Nat.le_of_ble_eq_true rfl⟩) rfl hl.1 rfl (Nat.le_of_ble_eq_true rfl) ⟨Nat.zero_le _, Nat.zero_le _⟩ hP hK hS hA [0, 1, 2] [0] rfl rfl rfl rfl rfl dX2_findRes_59 (fun H locs hP hS => ?_)
        refine lv_if_eq (tgt := 76) hx hb dX2_findRes_62 (by decide) (fun c4 => ?_) (fun c4 => ?_)
        · refine lv_lload_n hx hb dX2_findRes_76 rfl (lv_at hl 0 rfl) ?_
          refine lv_aload_n hx hb dX2_findRes_77 rfl (lv_at hl 1 rfl) ?_
          refine va_get (D := D) (ci := 1) (v := .long (pP_res (sP_res S (f_X2_look S (pP_op1Place S))))) (C := RX2) (T := TX2) (N := 13) hx hb hts hin1 hown hK hP 0 rfl rfl 12 (by decide) (hts (.fieldLink RX2 57 "FieldTrace$Processor" "res" "J") (by decide +kernel)) (fun _ h9 => h9) rfl dX2_findRes_78 ?_
          refine q_callSl (As := [.long (f_X2_look (sP_res S (f_X2_look S (pP_op1Place S))) (pP_op0Place (sP_res S (f_X2_look S (pP_op1Place S))))), .long (pP_res (sP_res S (f_X2_look S (pP_op1Place S))))]) (rest := [.ref aP]) (c_X4_times l D (f_X2_look (sP_res S (f_X2_look S (pP_op1Place S))) (pP_op0Place (sP_res S (f_X2_look S (pP_op1Place S))))) (pP_res (sP_res S (f_X2_look S (pP_op1Place S))))) hfix (va_cwS 2 hts gX2_findRes_X4_times rfl rfl rfl (by decide +kernel) ⟨Nat.le_of_ble_eq_true rfl, Nat.le_of_ble_eq_true rfl⟩) rfl hl.1 rfl (Nat.le_of_ble_eq_true rfl) ⟨Nat.zero_le _, Nat.zero_le _⟩ hP hK hS hA [] [] rfl rfl dX2_findRes_81 (fun H locs hP hS => ?_)
          refine va_put (D := D) (ci := 1) (v := .long (f_X4_times (f_X2_look (sP_res S (f_X2_look S (pP_op1Place S))) (pP_op0Place (sP_res S (f_X2_look S (pP_op1Place S))))) (pP_res (sP_res S (f_X2_look S (pP_op1Place S)))))) (ty := .long) (C := RX2) (T := TX2) (N := 13) hx hb hts hin1 tyX2 tyX2_ok nmX2 hown hK hP hD hS 0 rfl rfl 12 (by decide) (hts (.fieldLink RX2 57 "FieldTrace$Processor" "res" "J") (by decide +kernel)) (fun _ h9 => h9) rfl (by decide +kernel) (rfl) (rfl) (Nat.le_of_ble_eq_true rfl) dX2_findRes_84 (fun H locs hP hD hS => ?_)
          have hP : va_P D vwCl (wP aP aM aC cJ (sP_res (sP_res S (f_X2_look S (pP_op1Place S))) (f_X4_times (f_X2_look (sP_res S (f_X2_look S (pP_op1Place S))) (pP_op0Place (sP_res S (f_X2_look S (pP_op1Place S))))) (pP_res (sP_res S (f_X2_look S (pP_op1Place S))))))) H := hP
          have hD : va_D A (wP aP aM aC cJ (sP_res (sP_res S (f_X2_look S (pP_op1Place S))) (f_X4_times (f_X2_look (sP_res S (f_X2_look S (pP_op1Place S))) (pP_op0Place (sP_res S (f_X2_look S (pP_op1Place S))))) (pP_res (sP_res S (f_X2_look S (pP_op1Place S))))))) := hD
          refine lv_aload_n hx hb dX2_findRes_87 rfl (lv_at hl 1 rfl) ?_
          refine va_get (D := D) (ci := 1) (v := .long (pP_res (sP_res (sP_res S (f_X2_look S (pP_op1Place S))) (f_X4_times (f_X2_look (sP_res S (f_X2_look S (pP_op1Place S))) (pP_op0Place (sP_res S (f_X2_look S (pP_op1Place S))))) (pP_res (sP_res S (f_X2_look S (pP_op1Place S)))))))) (C := RX2) (T := TX2) (N := 13) hx hb hts hin1 hown hK hP 0 rfl rfl 12 (by decide) (hts (.fieldLink RX2 57 "FieldTrace$Processor" "res" "J") (by decide +kernel)) (fun _ h9 => h9) rfl dX2_findRes_88 ?_
          refine q_callSi (As := [.long (pP_res (sP_res (sP_res S (f_X2_look S (pP_op1Place S))) (f_X4_times (f_X2_look (sP_res S (f_X2_look S (pP_op1Place S))) (pP_op0Place (sP_res S (f_X2_look S (pP_op1Place S))))) (pP_res (sP_res S (f_X2_look S (pP_op1Place S)))))))]) (rest := []) (c_X2_reckoned l D (pP_res (sP_res (sP_res S (f_X2_look S (pP_op1Place S))) (f_X4_times (f_X2_look (sP_res S (f_X2_look S (pP_op1Place S))) (pP_op0Place (sP_res S (f_X2_look S (pP_op1Place S))))) (pP_res (sP_res S (f_X2_look S (pP_op1Place S)))))))) hfix (va_cwS 1 hts gX2_findRes_X2_reckoned rfl rfl rfl (by decide +kernel) ⟨Nat.le_of_ble_eq_true rfl, Nat.le_of_ble_eq_true rfl⟩) rfl hl.1 rfl (Nat.le_of_ble_eq_true rfl) ⟨Nat.zero_le _, Nat.zero_le _⟩ hP hK hS hA [] [] rfl rfl dX2_findRes_91 (fun H locs hP hS => ?_)
          exact q_mi (sP_res (sP_res S (f_X2_look S (pP_op1Place S))) (f_X4_times (f_X2_look (sP_res S (f_X2_look S (pP_op1Place S))) (pP_op0Place (sP_res S (f_X2_look S (pP_op1Place S))))) (pP_res (sP_res S (f_X2_look S (pP_op1Place S)))))) hx hb hr hlocks hP hD hS (q_pair (by rw [f_X2_findRes, if_neg c1, if_neg c2, if_neg c3, if_pos c4])) dX2_findRes_94
        · refine lv_lload_n hx hb dX2_findRes_65 rfl (lv_at hl 0 rfl) ?_
          refine lv_aload_n hx hb dX2_findRes_66 rfl (lv_at hl 1 rfl) ?_
          refine va_get (D := D) (ci := 1) (v := .long (pP_res (sP_res S (f_X2_look S (pP_op1Place S))))) (C := RX2) (T := TX2) (N := 13) hx hb hts hin1 hown hK hP 0 rfl rfl 12 (by decide) (hts (.fieldLink RX2 57 "FieldTrace$Processor" "res" "J") (by decide +kernel)) (fun _ h9 => h9) rfl dX2_findRes_67 ?_
          refine q_callSl (As := [.long (f_X2_look (sP_res S (f_X2_look S (pP_op1Place S))) (pP_op0Place (sP_res S (f_X2_look S (pP_op1Place S))))), .long (pP_res (sP_res S (f_X2_look S (pP_op1Place S))))]) (rest := [.ref aP]) (c_X4_plus l D (f_X2_look (sP_res S (f_X2_look S (pP_op1Place S))) (pP_op0Place (sP_res S (f_X2_look S (pP_op1Place S))))) (pP_res (sP_res S (f_X2_look S (pP_op1Place S))))) hfix (va_cwS 2 hts gX2_findRes_X4_plus rfl rfl rfl (by decide +kernel) ⟨Nat.le_of_ble_eq_true rfl, Nat.le_of_ble_eq_true rfl⟩) rfl hl.1 rfl (Nat.le_of_ble_eq_true rfl) ⟨Nat.zero_le _, Nat.zero_le _⟩ hP hK hS hA [] [] rfl rfl dX2_findRes_70 (fun H locs hP hS => ?_)
          refine lv_goto (tgt := 84) hx hb dX2_findRes_73 (by decide) ?_
          refine va_put (D := D) (ci := 1) (v := .long (f_X4_plus (f_X2_look (sP_res S (f_X2_look S (pP_op1Place S))) (pP_op0Place (sP_res S (f_X2_look S (pP_op1Place S))))) (pP_res (sP_res S (f_X2_look S (pP_op1Place S)))))) (ty := .long) (C := RX2) (T := TX2) (N := 13) hx hb hts hin1 tyX2 tyX2_ok nmX2 hown hK hP hD hS 0 rfl rfl 12 (by decide) (hts (.fieldLink RX2 57 "FieldTrace$Processor" "res" "J") (by decide +kernel)) (fun _ h9 => h9) rfl (by decide +kernel) (rfl) (rfl) (Nat.le_of_ble_eq_true rfl) dX2_findRes_84 (fun H locs hP hD hS => ?_)
          have hP : va_P D vwCl (wP aP aM aC cJ (sP_res (sP_res S (f_X2_look S (pP_op1Place S))) (f_X4_plus (f_X2_look (sP_res S (f_X2_look S (pP_op1Place S))) (pP_op0Place (sP_res S (f_X2_look S (pP_op1Place S))))) (pP_res (sP_res S (f_X2_look S (pP_op1Place S))))))) H := hP
          have hD : va_D A (wP aP aM aC cJ (sP_res (sP_res S (f_X2_look S (pP_op1Place S))) (f_X4_plus (f_X2_look (sP_res S (f_X2_look S (pP_op1Place S))) (pP_op0Place (sP_res S (f_X2_look S (pP_op1Place S))))) (pP_res (sP_res S (f_X2_look S (pP_op1Place S))))))) := hD
          refine lv_aload_n hx hb dX2_findRes_87 rfl (lv_at hl 1 rfl) ?_
          refine va_get (D := D) (ci := 1) (v := .long (pP_res (sP_res (sP_res S (f_X2_look S (pP_op1Place S))) (f_X4_plus (f_X2_look (sP_res S (f_X2_look S (pP_op1Place S))) (pP_op0Place (sP_res S (f_X2_look S (pP_op1Place S))))) (pP_res (sP_res S (f_X2_look S (pP_op1Place S)))))))) (C := RX2) (T := TX2) (N := 13) hx hb hts hin1 hown hK hP 0 rfl rfl 12 (by decide) (hts (.fieldLink RX2 57 "FieldTrace$Processor" "res" "J") (by decide +kernel)) (fun _ h9 => h9) rfl dX2_findRes_88 ?_
          refine q_callSi (As := [.long (pP_res (sP_res (sP_res S (f_X2_look S (pP_op1Place S))) (f_X4_plus (f_X2_look (sP_res S (f_X2_look S (pP_op1Place S))) (pP_op0Place (sP_res S (f_X2_look S (pP_op1Place S))))) (pP_res (sP_res S (f_X2_look S (pP_op1Place S)))))))]) (rest := []) (c_X2_reckoned l D (pP_res (sP_res (sP_res S (f_X2_look S (pP_op1Place S))) (f_X4_plus (f_X2_look (sP_res S (f_X2_look S (pP_op1Place S))) (pP_op0Place (sP_res S (f_X2_look S (pP_op1Place S))))) (pP_res (sP_res S (f_X2_look S (pP_op1Place S)))))))) hfix (va_cwS 1 hts gX2_findRes_X2_reckoned rfl rfl rfl (by decide +kernel) ⟨Nat.le_of_ble_eq_true rfl, Nat.le_of_ble_eq_true rfl⟩) rfl hl.1 rfl (Nat.le_of_ble_eq_true rfl) ⟨Nat.zero_le _, Nat.zero_le _⟩ hP hK hS hA [] [] rfl rfl dX2_findRes_91 (fun H locs hP hS => ?_)
          exact q_mi (sP_res (sP_res S (f_X2_look S (pP_op1Place S))) (f_X4_plus (f_X2_look (sP_res S (f_X2_look S (pP_op1Place S))) (pP_op0Place (sP_res S (f_X2_look S (pP_op1Place S))))) (pP_res (sP_res S (f_X2_look S (pP_op1Place S)))))) hx hb hr hlocks hP hD hS (q_pair (by rw [f_X2_findRes, if_neg c1, if_neg c2, if_neg c3, if_neg c4])) dX2_findRes_94
      · refine lv_iconst (v := 1) hx hb dX2_findRes_53 (by decide) ?_
        exact q_mi (sP_res S (f_X2_look S (pP_op1Place S))) hx hb hr hlocks hP hD hS (q_pair (by rw [f_X2_findRes, if_neg c1, if_neg c2, if_pos c3])) dX2_findRes_54
    · refine lv_iconst (v := 0) hx hb dX2_findRes_34 (by decide) ?_
      exact q_mi (sP_res S (f_X2_look S (pP_op1Place S))) hx hb hr hlocks hP hD hS (q_pair (by rw [f_X2_findRes, if_neg c1, if_pos c2])) dX2_findRes_35
  · refine lv_iconst (v := 1) hx hb dX2_findRes_23 (by decide) ?_
    exact q_mi (sP_res S (f_X2_look S (pP_op1Place S))) hx hb hr hlocks hP hD hS (q_pair (by rw [f_X2_findRes, if_pos c1])) dX2_findRes_24

def f_X2_findPc_J31 (S : PS) (t0_31 : Int64) : Int32 × PS :=
  ((f_X2_reckoned (pP_newPc (sP_newPc S t0_31))), (sP_newPc S t0_31))

def f_X2_findPc (S : PS) : Int32 × PS :=
  (if (f_X2_has S 128) = 0 then (if (f_X2_has S 256) = 0 then ((f_X2_reckoned (pP_newPc (sP_newPc S (f_X2_behindInstruction S)))), (sP_newPc S (f_X2_behindInstruction S))) else ((f_X2_reckoned (pP_newPc (sP_newPc S (f_X4_plus (pP_pc S) (pP_res S))))), (sP_newPc S (f_X4_plus (pP_pc S) (pP_res S))))) else (if (f_X4_isAddress (pP_res S)) = 0 then (f_X2_findPc_J31 S (-1)) else (f_X2_findPc_J31 S (pP_res S))))

set_option maxHeartbeats 4000000 in
set_option maxRecDepth 100000 in
theorem c_X2_findPc (l : Launch) (D : va_G) (aP aM aC : Nat) (cJ : ClassId) (S : PS) : q_muI l yX2_findPc wsX2_findPc ({ frames := 4, cells := 0, slots := 0, locals := 91 }) D [(cJ, .long)] (wP aP aM aC cJ S) [.ref aP] (fun r u => r = (f_X2_findPc S).1 ∧ u = (f_X2_findPc S).2) (fun u => (wP aP aM aC cJ u)) := by
  refine q_muI_of (cc := cX2_findPc) (maxL := 1) (ret := (some .int)) (plainFor_of_name (by decide)) rfl (Nat.le_of_ble_eq_true rfl) ?_
  intro p e s m below meth c ls A hx hb hr hml hown hts hlocks hP hK hD hA hS hl
  have hown : s.vm.findClass RX2 = some m.cls := hown
  have hl : lv_has ls 1 [(0, .ref aP)] := hl
  have hfix : CallFix p m c cX2_findPc 1 s [.ref aP].toArray wsX2_findPc RX2 := ⟨hx, hb, hml, hown, hts⟩
  have hin1 : ∀ w ∈ wsX20, w ∈ wsX2_findPc := by decide +kernel
  refine lv_aload_n hx hb dX2_findPc_0 rfl (lv_at hl 0 rfl) ?_
  refine lv_sipush (v := 128) hx hb dX2_findPc_1 (by decide) ?_
  refine q_callVi (As := [.int 128]) (rest := []) (q0 := 0) (ci := 1) (C := RX2) (c_X2_has l D aP aM aC cJ S 128) hfix (cwV 1 hts gX2_findPc_X2_has rfl rfl rfl (by decide +kernel) ⟨Nat.le_of_ble_eq_true rfl, Nat.le_of_ble_eq_true rfl⟩) rfl hl.1 rfl (Nat.le_of_ble_eq_true rfl) ⟨Nat.zero_le _, Nat.zero_le _⟩ hP hK hS hA [0, 1, 2] [0] rfl rfl rfl rfl rfl dX2_findPc_4 (fun H locs hP hS => ?_)
  refine lv_if_eq (tgt := 37) hx hb dX2_findPc_7 (by decide) (fun c1 => ?_) (fun c1 => ?_)
  · refine lv_aload_n hx hb dX2_findPc_37 rfl (lv_at hl 0 rfl) ?_
    refine lv_sipush (v := 256) hx hb dX2_findPc_38 (by decide) ?_
    refine q_callVi (As := [.int 256]) (rest := []) (q0 := 0) (ci := 1) (C := RX2) (c_X2_has l D aP aM aC cJ S 256) hfix (cwV 1 hts gX2_findPc_X2_has rfl rfl rfl (by decide +kernel) ⟨Nat.le_of_ble_eq_true rfl, Nat.le_of_ble_eq_true rfl⟩) rfl hl.1 rfl (Nat.le_of_ble_eq_true rfl) ⟨Nat.zero_le _, Nat.zero_le _⟩ hP hK hS hA [0, 1, 2] [0] rfl rfl rfl rfl rfl dX2_findPc_41 (fun H locs hP hS => ?_)
    refine lv_if_eq (tgt := 65) hx hb dX2_findPc_44 (by decide) (fun c2 => ?_) (fun c2 => ?_)
    · refine lv_aload_n hx hb dX2_findPc_65 rfl (lv_at hl 0 rfl) ?_
      refine lv_aload_n hx hb dX2_findPc_66 rfl (lv_at hl 0 rfl) ?_
      refine q_callVl (As := []) (rest := [.ref aP]) (q0 := 0) (ci := 1) (C := RX2) (c_X2_behindInstruction l D aP aM aC cJ S) hfix (cwV 0 hts gX2_findPc_X2_behindInstruction rfl rfl rfl (by decide +kernel) ⟨Nat.le_of_ble_eq_true rfl, Nat.le_of_ble_eq_true rfl⟩) rfl hl.1 rfl (Nat.le_of_ble_eq_true rfl) ⟨Nat.zero_le _, Nat.zero_le _⟩ hP hK hS hA [0, 1, 2] [0] rfl rfl rfl rfl rfl dX2_findPc_67 (fun H locs hP hS => ?_)
      refine va_put (D := D) (ci := 1) (v := .long (f_X2_behindInstruction S)) (ty := .long) (C := RX2) (T := TX2) (N := 13) hx hb hts hin1 tyX2 tyX2_ok nmX2 hown hK hP hD hS 0 rfl rfl 4 (by decide) (hts (.fieldLink RX2 79 "FieldTrace$Processor" "newPc" "J") (by decide +kernel)) (fun _ h9 => h9) rfl (by decide +kernel) (rfl) (rfl) (Nat.le_of_ble_eq_true rfl) dX2_findPc_70 (fun H locs hP hD hS => ?_)
      have hP : va_P D vwCl (wP aP aM aC cJ (sP_newPc S (f_X2_behindInstruction S))) H := hP
      have hD : va_D A (wP aP aM aC cJ (sP_newPc S (f_X2_behindInstruction S))) := hD
      refine lv_aload_n hx hb dX2_findPc_73 rfl (lv_at hl 0 rfl) ?_
      refine va_get (D := D) (ci := 1) (v := .long (pP_newPc (sP_newPc S (f_X2_behindInstruction S)))) (C := RX2) (T := TX2) (N := 13) hx hb hts hin1 hown hK hP 0 rfl rfl 4 (by decide) (hts (.fieldLink RX2 79 "FieldTrace$Processor" "newPc" "J") (by decide +kernel)) (fun _ h9 => h9) rfl dX2_findPc_74 ?_
      refine q_callSi (As := [.long (pP_newPc (sP_newPc S (f_X2_behindInstruction S)))]) (rest := []) (c_X2_reckoned l D (pP_newPc (sP_newPc S (f_X2_behindInstruction S)))) hfix (va_cwS 1 hts gX2_findPc_X2_reckoned rfl rfl rfl (by decide +kernel) ⟨Nat.le_of_ble_eq_true rfl, Nat.le_of_ble_eq_true rfl⟩) rfl hl.1 rfl (Nat.le_of_ble_eq_true rfl) ⟨Nat.zero_le _, Nat.zero_le _⟩ hP hK hS hA [] [] rfl rfl dX2_findPc_77 (fun H locs hP hS => ?_)
      exact q_mi (sP_newPc S (f_X2_behindInstruction S)) hx hb hr hlocks hP hD hS (q_pair (by rw [f_X2_findPc, if_pos c1, if_pos c2])) dX2_findPc_80
    · refine lv_aload_n hx hb dX2_findPc_47 rfl (lv_at hl 0 rfl) ?_
      refine lv_aload_n hx hb dX2_findPc_48 rfl (lv_at hl 0 rfl) ?_
      refine va_get (D := D) (ci := 1) (v := .long (pP_pc S)) (C := RX2) (T := TX2) (N := 13) hx hb hts hin1 hown hK hP 0 rfl rfl 1 (by decide) (hts (.fieldLink RX2 19 "FieldTrace$Processor" "pc" "J") (by decide +kernel)) (fun _ h9 => h9) rfl dX2_findPc_49 ?_
      refine lv_aload_n hx hb dX2_findPc_52 rfl (lv_at hl 0 rfl) ?_
      refine va_get (D := D) (ci := 1) (v := .long (pP_res S)) (C := RX2) (T := TX2) (N := 13) hx hb hts hin1 hown hK hP 0 rfl rfl 12 (by decide) (hts (.fieldLink RX2 57 "FieldTrace$Processor" "res" "J") (by decide +kernel)) (fun _ h9 => h9) rfl dX2_findPc_53 ?_
      refine q_callSl (As := [.long (pP_pc S), .long (pP_res S)]) (rest := [.ref aP]) (c_X4_plus l D (pP_pc S) (pP_res S)) hfix (va_cwS 2 hts gX2_findPc_X4_plus rfl rfl rfl (by decide +kernel) ⟨Nat.le_of_ble_eq_true rfl, Nat.le_of_ble_eq_true rfl⟩) rfl hl.1 rfl (Nat.le_of_ble_eq_true rfl) ⟨Nat.zero_le _, Nat.zero_le _⟩ hP hK hS hA [] [] rfl rfl dX2_findPc_56 (fun H locs hP hS => ?_)
      refine va_put (D := D) (ci := 1) (v := .long (f_X4_plus (pP_pc S) (pP_res S))) (ty := .long) (C := RX2) (T := TX2) (N := 13) hx hb hts hin1 tyX2 tyX2_ok nmX2 hown hK hP hD hS 0 rfl rfl 4 (by decide) (hts (.fieldLink RX2 79 "FieldTrace$Processor" "newPc" "J") (by decide +kernel)) (fun _ h9 => h9) rfl (by decide +kernel) (rfl) (rfl) (Nat.le_of_ble_eq_true rfl) dX2_findPc_59 (fun H locs hP hD hS => ?_)
      have hP : va_P D vwCl (wP aP aM aC cJ (sP_newPc S (f_X4_plus (pP_pc S) (pP_res S)))) H := hP
      have hD : va_D A (wP aP aM aC cJ (sP_newPc S (f_X4_plus (pP_pc S) (pP_res S)))) := hD
      refine lv_goto (tgt := 73) hx hb dX2_findPc_62 (by decide) ?_
      refine lv_aload_n hx hb dX2_findPc_73 rfl (lv_at hl 0 rfl) ?_
      refine va_get (D := D) (ci := 1) (v := .long (pP_newPc (sP_newPc S (f_X4_plus (pP_pc S) (pP_res S))))) (C := RX2) (T := TX2) (N := 13) hx hb hts hin1 hown hK hP 0 rfl rfl 4 (by decide) (hts (.fieldLink RX2 79 "FieldTrace$Processor" "newPc" "J") (by decide +kernel)) (fun _ h9 => h9) rfl dX2_findPc_74 ?_
      refine q_callSi (As := [.long (pP_newPc (sP_newPc S (f_X4_plus (pP_pc S) (pP_res S))))]) (rest := []) (c_X2_reckoned l D (pP_newPc (sP_newPc S (f_X4_plus (pP_pc S) (pP_res S))))) hfix (va_cwS 1 hts gX2_findPc_X2_reckoned rfl rfl rfl (by decide +kernel) ⟨Nat.le_of_ble_eq_true rfl, Nat.le_of_ble_eq_true rfl⟩) rfl hl.1 rfl (Nat.le_of_ble_eq_true rfl) ⟨Nat.zero_le _, Nat.zero_le _⟩ hP hK hS hA [] [] rfl rfl dX2_findPc_77 (fun H locs hP hS => ?_)
      exact q_mi (sP_newPc S (f_X4_plus (pP_pc S) (pP_res S))) hx hb hr hlocks hP hD hS (q_pair (by rw [f_X2_findPc, if_pos c1, if_neg c2])) dX2_findPc_80
  · refine lv_aload_n hx hb dX2_findPc_10 rfl (lv_at hl 0 rfl) ?_
    refine lv_aload_n hx hb dX2_findPc_11 rfl (lv_at hl 0 rfl) ?_
    refine va_get (D := D) (ci := 1) (v := .long (pP_res S)) (C := RX2) (T := TX2) (N := 13) hx hb hts hin1 hown hK hP 0 rfl rfl 12 (by decide) (hts (.fieldLink RX2 57 "FieldTrace$Processor" "res" "J") (by decide +kernel)) (fun _ h9 => h9) rfl dX2_findPc_12 ?_
    refine q_callSi (As := [.long (pP_res S)]) (rest := [.ref aP]) (c_X4_isAddress l D (pP_res S)) hfix (va_cwS 1 hts gX2_findPc_X4_isAddress rfl rfl rfl (by decide +kernel) ⟨Nat.le_of_ble_eq_true rfl, Nat.le_of_ble_eq_true rfl⟩) rfl hl.1 rfl (Nat.le_of_ble_eq_true rfl) ⟨Nat.zero_le _, Nat.zero_le _⟩ hP hK hS hA [] [] rfl rfl dX2_findPc_15 (fun H locs hP hS => ?_)
    have kJ31 : ∀ (t0_31 : Int64) (H : Heap) (locs : List Loc) (ls : Array Slot), (f_X2_findPc S) = (f_X2_findPc_J31 S t0_31) → va_P D vwCl (wP aP aM aC cJ S) H → va_D A (wP aP aM aC cJ S) → va_S A s.heap H locs → lv_has ls 1 [(0, .ref aP)] → W p l e ({ frames := 4, cells := 0, slots := 0, locals := 91 }) s m [.ref aP].toArray below meth c H locs 0 0 (MQ below (va_Qi (fun r u => r = (f_X2_findPc S).1 ∧ u = (f_X2_findPc S).2) (fun u t => va_P D vwCl ((fun u => (wP aP aM aC cJ u)) u) t.heap ∧ va_D A ((fun u => (wP aP aM aC cJ u)) u)) A) [.ref aP].toArray s 0 0 A) (F0 m 31 ls [.long t0_31, .ref aP]) := by
      intro t0_31 H locs ls hJ31 hP hD hS hl
      refine va_put (D := D) (ci := 1) (v := .long t0_31) (ty := .long) (C := RX2) (T := TX2) (N := 13) hx hb hts hin1 tyX2 tyX2_ok nmX2 hown hK hP hD hS 0 rfl rfl 4 (by decide) (hts (.fieldLink RX2 79 "FieldTrace$Processor" "newPc" "J") (by decide +kernel)) (fun _ h9 => h9) rfl (by decide +kernel) (rfl) (rfl) (Nat.le_of_ble_eq_true rfl) dX2_findPc_31 (fun H locs hP hD hS => ?_)
      have hP : va_P D vwCl (wP aP aM aC cJ (sP_newPc S t0_31)) H := hP
      have hD : va_D A (wP aP aM aC cJ (sP_newPc S t0_31)) := hD
      refine lv_goto (tgt := 73) hx hb dX2_findPc_34 (by decide) ?_
      refine lv_aload_n hx hb dX2_findPc_73 rfl (lv_at hl 0 rfl) ?_
      refine va_get (D := D) (ci := 1) (v := .long (pP_newPc (sP_newPc S t0_31))) (C := RX2) (T := TX2) (N := 13) hx hb hts hin1 hown hK hP 0 rfl rfl 4 (by decide) (hts (.fieldLink RX2 79 "FieldTrace$Processor" "newPc" "J") (by decide +kernel)) (fun _ h9 => h9) rfl dX2_findPc_74 ?_
      refine q_callSi (As := [.long (pP_newPc (sP_newPc S t0_31))]) (rest := []) (c_X2_reckoned l D (pP_newPc (sP_newPc S t0_31))) hfix (va_cwS 1 hts gX2_findPc_X2_reckoned rfl rfl rfl (by decide +kernel) ⟨Nat.le_of_ble_eq_true rfl, Nat.le_of_ble_eq_true rfl⟩) rfl hl.1 rfl (Nat.le_of_ble_eq_true rfl) ⟨Nat.zero_le _, Nat.zero_le _⟩ hP hK hS hA [] [] rfl rfl dX2_findPc_77 (fun H locs hP hS => ?_)
      exact q_mi (sP_newPc S t0_31) hx hb hr hlocks hP hD hS (q_pair (by rw [hJ31, f_X2_findPc_J31])) dX2_findPc_80
    refine lv_if_eq (tgt := 28) hx hb dX2_findPc_18 (by decide) (fun c3 => ?_) (fun c3 => ?_)
    · refine lv_ldc2 (v := -1) hx hb hown (hts (.constantLong RX2 95 (-1)) (by decide +kernel)) dX2_findPc_28 ?_
      exact kJ31 (-1) _ _ _ (by rw [f_X2_findPc, if_neg c1, if_pos c3]) hP hD hS (lv_sub hl [0] rfl)
    · refine lv_aload_n hx hb dX2_findPc_21 rfl (lv_at hl 0 rfl) ?_
      refine va_get (D := D) (ci := 1) (v := .long (pP_res S)) (C := RX2) (T := TX2) (N := 13) hx hb hts hin1 hown hK hP 0 rfl rfl 12 (by decide) (hts (.fieldLink RX2 57 "FieldTrace$Processor" "res" "J") (by decide +kernel)) (fun _ h9 => h9) rfl dX2_findPc_22 ?_
      refine lv_goto (tgt := 31) hx hb dX2_findPc_25 (by decide) ?_
      exact kJ31 (pP_res S) _ _ _ (by rw [f_X2_findPc, if_neg c1, if_neg c3]) hP hD hS (lv_sub hl [0] rfl)

def f_X2_findPcUnlessDstIsZero (S : PS) : Int32 × PS :=
  (if (f_X2_look S (pP_dstPlace S)) = (-1) then (1, S) else (if (f_X2_look S (pP_dstPlace S)) = 0 then ((f_X2_reckoned (pP_newPc (sP_newPc S (f_X2_behindInstruction S)))), (sP_newPc S (f_X2_behindInstruction S))) else (if (f_X2_look S (pP_op1Place S)) = (-1) then (1, (sP_newPc S (f_X4_plus (pP_pc S) (f_X2_look S (pP_op1Place S))))) else ((f_X2_reckoned (pP_newPc (sP_newPc S (f_X4_plus (pP_pc S) (f_X2_look S (pP_op1Place S)))))), (sP_newPc S (f_X4_plus (pP_pc S) (f_X2_look S (pP_op1Place S))))))))

set_option maxHeartbeats 4000000 in
set_option maxRecDepth 100000 in
theorem c_X2_findPcUnlessDstIsZero (l : Launch) (D : va_G) (aP aM aC : Nat) (cJ : ClassId) (S : PS) : q_muI l yX2_findPcUnlessDstIsZero wsX2_findPcUnlessDstIsZero ({ frames := 4, cells := 0, slots := 0, locals := 91 }) D [(cJ, .long)] (wP aP aM aC cJ S) [.ref aP] (fun r u => r = (f_X2_findPcUnlessDstIsZero S).1 ∧ u = (f_X2_findPcUnlessDstIsZero S).2) (fun u => (wP aP aM aC cJ u)) := by
  refine q_muI_of (cc := cX2_findPcUnlessDstIsZero) (maxL := 5) (ret := (some .int)) (plainFor_of_name (by decide)) rfl (Nat.le_of_ble_eq_true rfl) ?_
  intro p e s m below meth c ls A hx hb hr hml hown hts hlocks hP hK hD hA hS hl
  have hown : s.vm.findClass RX2 = some m.cls := hown
  have hl : lv_has ls 5 [(0, .ref aP)] := hl
  have hfix : CallFix p m c cX2_findPcUnlessDstIsZero 5 s [.ref aP].toArray wsX2_findPcUnlessDstIsZero RX2 := ⟨hx, hb, hml, hown, hts⟩
  have hin1 : ∀ w ∈ wsX20, w ∈ wsX2_findPcUnlessDstIsZero := by decide +kernel
  refine lv_aload_n hx hb dX2_findPcUnlessDstIsZero_0 rfl (lv_at hl 0 rfl) ?_
  refine lv_aload_n hx hb dX2_findPcUnlessDstIsZero_1 rfl (lv_at hl 0 rfl) ?_
  refine va_get (D := D) (ci := 1) (v := .long (pP_dstPlace S)) (C := RX2) (T := TX2) (N := 13) hx hb hts hin1 hown hK hP 0 rfl rfl 9 (by decide) (hts (.fieldLink RX2 54 "FieldTrace$Processor" "dstPlace" "J") (by decide +kernel)) (fun _ h9 => h9) rfl dX2_findPcUnlessDstIsZero_2 ?_
  refine q_callVl (As := [.long (pP_dstPlace S)]) (rest := []) (q0 := 0) (ci := 1) (C := RX2) (c_X2_look l D aP aM aC cJ S (pP_dstPlace S)) hfix (cwV 1 hts gX2_findPcUnlessDstIsZero_X2_look rfl rfl rfl (by decide +kernel) ⟨Nat.le_of_ble_eq_true rfl, Nat.le_of_ble_eq_true rfl⟩) rfl hl.1 rfl (Nat.le_of_ble_eq_true rfl) ⟨Nat.zero_le _, Nat.zero_le _⟩ hP hK hS hA [0, 1, 2] [0] rfl rfl rfl rfl rfl dX2_findPcUnlessDstIsZero_5 (fun H locs hP hS => ?_)
  refine lv_lstore_n (lv' := [(1, .long (f_X2_look S (pP_dstPlace S))), (0, .ref aP)]) hx hb dX2_findPcUnlessDstIsZero_8 rfl hl (by decide) rfl (fun ls hl => ?_)
  refine lv_lload_n hx hb dX2_findPcUnlessDstIsZero_9 rfl (lv_at hl 0 rfl) ?_
  refine lv_ldc2 (v := -1) hx hb hown (hts (.constantLong RX2 95 (-1)) (by decide +kernel)) dX2_findPcUnlessDstIsZero_10 ?_
  refine q_ne (tgt := 19) hx hb dX2_findPcUnlessDstIsZero_13 dX2_findPcUnlessDstIsZero_14 (by decide) (fun c1 => ?_) (fun c1 => ?_)
  · refine lv_lload_n hx hb dX2_findPcUnlessDstIsZero_19 rfl (lv_at hl 0 rfl) ?_
    refine lv_lconst (v := 0) hx hb dX2_findPcUnlessDstIsZero_20 (by decide) ?_
    refine q_ne (tgt := 41) hx hb dX2_findPcUnlessDstIsZero_21 dX2_findPcUnlessDstIsZero_22 (by decide) (fun c2 => ?_) (fun c2 => ?_)
    · refine lv_aload_n hx hb dX2_findPcUnlessDstIsZero_41 rfl (lv_at hl 1 rfl) ?_
      refine lv_aload_n hx hb dX2_findPcUnlessDstIsZero_42 rfl (lv_at hl 1 rfl) ?_
      refine va_get (D := D) (ci := 1) (v := .long (pP_op1Place S)) (C := RX2) (T := TX2) (N := 13) hx hb hts hin1 hown hK hP 0 rfl rfl 11 (by decide) (hts (.fieldLink RX2 133 "FieldTrace$Processor" "op1Place" "J") (by decide +kernel)) (fun _ h9 => h9) rfl dX2_findPcUnlessDstIsZero_43 ?_
      refine q_callVl (As := [.long (pP_op1Place S)]) (rest := []) (q0 := 0) (ci := 1) (C := RX2) (c_X2_look l D aP aM aC cJ S (pP_op1Place S)) hfix (cwV 1 hts gX2_findPcUnlessDstIsZero_X2_look rfl rfl rfl (by decide +kernel) ⟨Nat.le_of_ble_eq_true rfl, Nat.le_of_ble_eq_true rfl⟩) rfl hl.1 rfl (Nat.le_of_ble_eq_true rfl) ⟨Nat.zero_le _, Nat.zero_le _⟩ hP hK hS hA [0, 1, 2] [0] rfl rfl rfl rfl rfl dX2_findPcUnlessDstIsZero_46 (fun H locs hP hS => ?_)
      refine lv_lstore_n (lv' := [(3, .long (f_X2_look S (pP_op1Place S))), (1, .long (f_X2_look S (pP_dstPlace S))), (0, .ref aP)]) hx hb dX2_findPcUnlessDstIsZero_49 rfl hl (by decide) rfl (fun ls hl => ?_)
      refine lv_aload_n hx hb dX2_findPcUnlessDstIsZero_50 rfl (lv_at hl 2 rfl) ?_
      refine lv_aload_n hx hb dX2_findPcUnlessDstIsZero_51 rfl (lv_at hl 2 rfl) ?_
      refine va_get (D := D) (ci := 1) (v := .long (pP_pc S)) (C := RX2) (T := TX2) (N := 13) hx hb hts hin1 hown hK hP 0 rfl rfl 1 (by decide) (hts (.fieldLink RX2 19 "FieldTrace$Processor" "pc" "J") (by decide +kernel)) (fun _ h9 => h9) rfl dX2_findPcUnlessDstIsZero_52 ?_
      refine lv_lload_n hx hb dX2_findPcUnlessDstIsZero_55 rfl (lv_at hl 0 rfl) ?_
      refine q_callSl (As := [.long (pP_pc S), .long (f_X2_look S (pP_op1Place S))]) (rest := [.ref aP]) (c_X4_plus l D (pP_pc S) (f_X2_look S (pP_op1Place S))) hfix (va_cwS 2 hts gX2_findPcUnlessDstIsZero_X4_plus rfl rfl rfl (by decide +kernel) ⟨Nat.le_of_ble_eq_true rfl, Nat.le_of_ble_eq_true rfl⟩) rfl hl.1 rfl (Nat.le_of_ble_eq_true rfl) ⟨Nat.zero_le _, Nat.zero_le _⟩ hP hK hS hA [] [] rfl rfl dX2_findPcUnlessDstIsZero_56 (fun H locs hP hS => ?_)
      refine va_put (D := D) (ci := 1) (v := .long (f_X4_plus (pP_pc S) (f_X2_look S (pP_op1Place S)))) (ty := .long) (C := RX2) (T := TX2) (N := 13) hx hb hts hin1 tyX2 tyX2_ok nmX2 hown hK hP hD hS 0 rfl rfl 4 (by decide) (hts (.fieldLink RX2 79 "FieldTrace$Processor" "newPc" "J") (by decide +kernel)) (fun _ h9 => h9) rfl (by decide +kernel) (rfl) (rfl) (Nat.le_of_ble_eq_true rfl) dX2_findPcUnlessDstIsZero_59 (fun H locs hP hD hS => ?_)
      have hP : va_P D vwCl (wP aP aM aC cJ (sP_newPc S (f_X4_plus (pP_pc S) (f_X2_look S (pP_op1Place S))))) H := hP
      have hD : va_D A (wP aP aM aC cJ (sP_newPc S (f_X4_plus (pP_pc S) (f_X2_look S (pP_op1Place S))))) := hD
      refine lv_lload_n hx hb dX2_findPcUnlessDstIsZero_62 rfl (lv_at hl 0 rfl) ?_
      refine lv_ldc2 (v := -1) hx hb hown (hts (.constantLong RX2 95 (-1)) (by decide +kernel)) dX2_findPcUnlessDstIsZero_63 ?_
      refine q_ne (tgt := 74) hx hb dX2_findPcUnlessDstIsZero_66 dX2_findPcUnlessDstIsZero_67 (by decide) (fun c3 => ?_) (fun c3 => ?_)
      · refine lv_aload_n hx hb dX2_findPcUnlessDstIsZero_74 rfl (lv_at hl 2 rfl) ?_
        refine va_get (D := D) (ci := 1) (v := .long (pP_newPc (sP_newPc S (f_X4_plus (pP_pc S) (f_X2_look S (pP_op1Place S)))))) (C := RX2) (T := TX2) (N := 13) hx hb hts hin1 hown hK hP 0 rfl rfl 4 (by decide) (hts (.fieldLink RX2 79 "FieldTrace$Processor" "newPc" "J") (by decide +kernel)) (fun _ h9 => h9) rfl dX2_findPcUnlessDstIsZero_75 ?_
        refine q_callSi (As := [.long (pP_newPc (sP_newPc S (f_X4_plus (pP_pc S) (f_X2_look S (pP_op1Place S)))))]) (rest := []) (c_X2_reckoned l D (pP_newPc (sP_newPc S (f_X4_plus (pP_pc S) (f_X2_look S (pP_op1Place S)))))) hfix (va_cwS 1 hts gX2_findPcUnlessDstIsZero_X2_reckoned rfl rfl rfl (by decide +kernel) ⟨Nat.le_of_ble_eq_true rfl, Nat.le_of_ble_eq_true rfl⟩) rfl hl.1 rfl (Nat.le_of_ble_eq_true rfl) ⟨Nat.zero_le _, Nat.zero_le _⟩ hP hK hS hA [] [] rfl rfl dX2_findPcUnlessDstIsZero_78 (fun H locs hP hS => ?_)
        exact q_mi (sP_newPc S (f_X4_plus (pP_pc S) (f_X2_look S (pP_op1Place S)))) hx hb hr hlocks hP hD hS (q_pair (by rw [f_X2_findPcUnlessDstIsZero, if_neg c1, if_neg c2, if_neg c3])) dX2_findPcUnlessDstIsZero_81
      · refine lv_iconst (v := 1) hx hb dX2_findPcUnlessDstIsZero_70 (by decide) ?_
        refine lv_goto (tgt := 81) hx hb dX2_findPcUnlessDstIsZero_71 (by decide) ?_
        exact q_mi (sP_newPc S (f_X4_plus (pP_pc S) (f_X2_look S (pP_op1Place S)))) hx hb hr hlocks hP hD hS (q_pair (by rw [f_X2_findPcUnlessDstIsZero, if_neg c1, if_neg c2, if_pos c3])) dX2_findPcUnlessDstIsZero_81
    · refine lv_aload_n hx hb dX2_findPcUnlessDstIsZero_25 rfl (lv_at hl 1 rfl) ?_
      refine lv_aload_n hx hb dX2_findPcUnlessDstIsZero_26 rfl (lv_at hl 1 rfl) ?_
      refine q_callVl (As := []) (rest := [.ref aP]) (q0 := 0) (ci := 1) (C := RX2) (c_X2_behindInstruction l D aP aM aC cJ S) hfix (cwV 0 hts gX2_findPcUnlessDstIsZero_X2_behindInstruction rfl rfl rfl (by decide +kernel) ⟨Nat.le_of_ble_eq_true rfl, Nat.le_of_ble_eq_true rfl⟩) rfl hl.1 rfl (Nat.le_of_ble_eq_true rfl) ⟨Nat.zero_le _, Nat.zero_le _⟩ hP hK hS hA [0, 1, 2] [0] rfl rfl rfl rfl rfl dX2_findPcUnlessDstIsZero_27 (fun H locs hP hS => ?_)
      refine va_put (D := D) (ci := 1) (v := .long (f_X2_behindInstruction S)) (ty := .long) (C := RX2) (T := TX2) (N := 13) hx hb hts hin1 tyX2 tyX2_ok nmX2 hown hK hP hD hS 0 rfl rfl 4 (by decide) (hts (.fieldLink RX2 79 "FieldTrace$Processor" "newPc" "J") (by decide +kernel)) (fun _ h9 => h9) rfl (by decide +kernel) (rfl) (rfl) (Nat.le_of_ble_eq_true rfl) dX2_findPcUnlessDstIsZero_30 (fun H locs hP hD hS => ?_)
      have hP : va_P D vwCl (wP aP aM aC cJ (sP_newPc S (f_X2_behindInstruction S))) H := hP
      have hD : va_D A (wP aP aM aC cJ (sP_newPc S (f_X2_behindInstruction S))) := hD
      refine lv_aload_n hx hb dX2_findPcUnlessDstIsZero_33 rfl (lv_at hl 1 rfl) ?_
      refine va_get (D := D) (ci := 1) (v := .long (pP_newPc (sP_newPc S (f_X2_behindInstruction S)))) (C := RX2) (T := TX2) (N := 13) hx hb hts hin1 hown hK hP 0 rfl rfl 4 (by decide) (hts (.fieldLink RX2 79 "FieldTrace$Processor" "newPc" "J") (by decide +kernel)) (fun _ h9 => h9) rfl dX2_findPcUnlessDstIsZero_34 ?_
      refine q_callSi (As := [.long (pP_newPc (sP_newPc S (f_X2_behindInstruction S)))]) (rest := []) (c_X2_reckoned l D (pP_newPc (sP_newPc S (f_X2_behindInstruction S)))) hfix (va_cwS 1 hts gX2_findPcUnlessDstIsZero_X2_reckoned rfl rfl rfl (by decide +kernel) ⟨Nat.le_of_ble_eq_true rfl, Nat.le_of_ble_eq_true rfl⟩) rfl hl.1 rfl (Nat.le_of_ble_eq_true rfl) ⟨Nat.zero_le _, Nat.zero_le _⟩ hP hK hS hA [] [] rfl rfl dX2_findPcUnlessDstIsZero_37 (fun H locs hP hS => ?_)
      exact q_mi (sP_newPc S (f_X2_behindInstruction S)) hx hb hr hlocks hP hD hS (q_pair (by rw [f_X2_findPcUnlessDstIsZero, if_neg c1, if_pos c2])) dX2_findPcUnlessDstIsZero_40
  · refine lv_iconst (v := 1) hx hb dX2_findPcUnlessDstIsZero_17 (by decide) ?_
    exact q_mi S hx hb hr hlocks hP hD hS (q_pair (by rw [f_X2_findPcUnlessDstIsZero, if_pos c1])) dX2_findPcUnlessDstIsZero_18

def f_X2_findAp (S : PS) : Int32 × PS :=
  (if (f_X2_has S 1024) = 0 then (if (f_X2_has S 2048) = 0 then (if (f_X2_has S 4096) = 0 then ((f_X2_reckoned (pP_newAp (sP_newAp S (pP_ap S)))), (sP_newAp S (pP_ap S))) else ((f_X2_reckoned (pP_newAp (sP_newAp S (f_X4_shifted (pP_ap S) 2)))), (sP_newAp S (f_X4_shifted (pP_ap S) 2)))) else ((f_X2_reckoned (pP_newAp (sP_newAp S (f_X4_shifted (pP_ap S) 1)))), (sP_newAp S (f_X4_shifted (pP_ap S) 1)))) else ((f_X2_reckoned (pP_newAp (sP_newAp S (f_X4_plus (pP_ap S) (pP_res S))))), (sP_newAp S (f_X4_plus (pP_ap S) (pP_res S)))))

set_option maxHeartbeats 4000000 in
set_option maxRecDepth 100000 in
theorem c_X2_findAp (l : Launch) (D : va_G) (aP aM aC : Nat) (cJ : ClassId) (S : PS) : q_muI l yX2_findAp wsX2_findAp ({ frames := 4, cells := 0, slots := 0, locals := 91 }) D [(cJ, .long)] (wP aP aM aC cJ S) [.ref aP] (fun r u => r = (f_X2_findAp S).1 ∧ u = (f_X2_findAp S).2) (fun u => (wP aP aM aC cJ u)) := by
  refine q_muI_of (cc := cX2_findAp) (maxL := 1) (ret := (some .int)) (plainFor_of_name (by decide)) rfl (Nat.le_of_ble_eq_true rfl) ?_
  intro p e s m below meth c ls A hx hb hr hml hown hts hlocks hP hK hD hA hS hl
  have hown : s.vm.findClass RX2 = some m.cls := hown
  have hl : lv_has ls 1 [(0, .ref aP)] := hl
  have hfix : CallFix p m c cX2_findAp 1 s [.ref aP].toArray wsX2_findAp RX2 := ⟨hx, hb, hml, hown, hts⟩
  have hin1 : ∀ w ∈ wsX20, w ∈ wsX2_findAp := by decide +kernel
  refine lv_aload_n hx hb dX2_findAp_0 rfl (lv_at hl 0 rfl) ?_
  refine lv_sipush (v := 1024) hx hb dX2_findAp_1 (by decide) ?_
  refine q_callVi (As := [.int 1024]) (rest := []) (q0 := 0) (ci := 1) (C := RX2) (c_X2_has l D aP aM aC cJ S 1024) hfix (cwV 1 hts gX2_findAp_X2_has rfl rfl rfl (by decide +kernel) ⟨Nat.le_of_ble_eq_true rfl, Nat.le_of_ble_eq_true rfl⟩) rfl hl.1 rfl (Nat.le_of_ble_eq_true rfl) ⟨Nat.zero_le _, Nat.zero_le _⟩ hP hK hS hA [0, 1, 2] [0] rfl rfl rfl rfl rfl dX2_findAp_4 (fun H locs hP hS => ?_)
  refine lv_if_eq (tgt := 28) hx hb dX2_findAp_7 (by decide) (fun c1 => ?_) (fun c1 => ?_)
  · refine lv_aload_n hx hb dX2_findAp_28 rfl (lv_at hl 0 rfl) ?_
    refine lv_sipush (v := 2048) hx hb dX2_findAp_29 (by decide) ?_
    refine q_callVi (As := [.int 2048]) (rest := []) (q0 := 0) (ci := 1) (C := RX2) (c_X2_has l D aP aM aC cJ S 2048) hfix (cwV 1 hts gX2_findAp_X2_has rfl rfl rfl (by decide +kernel) ⟨Nat.le_of_ble_eq_true rfl, Nat.le_of_ble_eq_true rfl⟩) rfl hl.1 rfl (Nat.le_of_ble_eq_true rfl) ⟨Nat.zero_le _, Nat.zero_le _⟩ hP hK hS hA [0, 1, 2] [0] rfl rfl rfl rfl rfl dX2_findAp_32 (fun H locs hP hS => ?_)
    refine lv_if_eq (tgt := 53) hx hb dX2_findAp_35 (by decide) (fun c2 => ?_) (fun c2 => ?_)
    · refine lv_aload_n hx hb dX2_findAp_53 rfl (lv_at hl 0 rfl) ?_
      refine lv_aload_n hx hb dX2_findAp_54 rfl (lv_at hl 0 rfl) ?_
      refine lv_sipush (v := 4096) hx hb dX2_findAp_55 (by decide) ?_
      refine q_callVi (As := [.int 4096]) (rest := [.ref aP]) (q0 := 0) (ci := 1) (C := RX2) (c_X2_has l D aP aM aC cJ S 4096) hfix (cwV 1 hts gX2_findAp_X2_has rfl rfl rfl (by decide +kernel) ⟨Nat.le_of_ble_eq_true rfl, Nat.le_of_ble_eq_true rfl⟩) rfl hl.1 rfl (Nat.le_of_ble_eq_true rfl) ⟨Nat.zero_le _, Nat.zero_le _⟩ hP hK hS hA [0, 1, 2] [0] rfl rfl rfl rfl rfl dX2_findAp_58 (fun H locs hP hS => ?_)
      refine lv_if_eq (tgt := 77) hx hb dX2_findAp_61 (by decide) (fun c3 => ?_) (fun c3 => ?_)
      · refine lv_aload_n hx hb dX2_findAp_77 rfl (lv_at hl 0 rfl) ?_
        refine va_get (D := D) (ci := 1) (v := .long (pP_ap S)) (C := RX2) (T := TX2) (N := 13) hx hb hts hin1 hown hK hP 0 rfl rfl 2 (by decide) (hts (.fieldLink RX2 23 "FieldTrace$Processor" "ap" "J") (by decide +kernel)) (fun _ h9 => h9) rfl dX2_findAp_78 ?_
        refine va_put (D := D) (ci := 1) (v := .long (pP_ap S)) (ty := .long) (C := RX2) (T := TX2) (N := 13) hx hb hts hin1 tyX2 tyX2_ok nmX2 hown hK hP hD hS 0 rfl rfl 5 (by decide) (hts (.fieldLink RX2 82 "FieldTrace$Processor" "newAp" "J") (by decide +kernel)) (fun _ h9 => h9) rfl (by decide +kernel) (rfl) (rfl) (Nat.le_of_ble_eq_true rfl) dX2_findAp_81 (fun H locs hP hD hS => ?_)
        have hP : va_P D vwCl (wP aP aM aC cJ (sP_newAp S (pP_ap S))) H := hP
        have hD : va_D A (wP aP aM aC cJ (sP_newAp S (pP_ap S))) := hD
        refine lv_aload_n hx hb dX2_findAp_84 rfl (lv_at hl 0 rfl) ?_
        refine va_get (D := D) (ci := 1) (v := .long (pP_newAp (sP_newAp S (pP_ap S)))) (C := RX2) (T := TX2) (N := 13) hx hb hts hin1 hown hK hP 0 rfl rfl 5 (by decide) (hts (.fieldLink RX2 82 "FieldTrace$Processor" "newAp" "J") (by decide +kernel)) (fun _ h9 => h9) rfl dX2_findAp_85 ?_
        refine q_callSi (As := [.long (pP_newAp (sP_newAp S (pP_ap S)))]) (rest := []) (c_X2_reckoned l D (pP_newAp (sP_newAp S (pP_ap S)))) hfix (va_cwS 1 hts gX2_findAp_X2_reckoned rfl rfl rfl (by decide +kernel) ⟨Nat.le_of_ble_eq_true rfl, Nat.le_of_ble_eq_true rfl⟩) rfl hl.1 rfl (Nat.le_of_ble_eq_true rfl) ⟨Nat.zero_le _, Nat.zero_le _⟩ hP hK hS hA [] [] rfl rfl dX2_findAp_88 (fun H locs hP hS => ?_)
        exact q_mi (sP_newAp S (pP_ap S)) hx hb hr hlocks hP hD hS (q_pair (by rw [f_X2_findAp, if_pos c1, if_pos c2, if_pos c3])) dX2_findAp_91
      · refine lv_aload_n hx hb dX2_findAp_64 rfl (lv_at hl 0 rfl) ?_
        refine va_get (D := D) (ci := 1) (v := .long (pP_ap S)) (C := RX2) (T := TX2) (N := 13) hx hb hts hin1 hown hK hP 0 rfl rfl 2 (by decide) (hts (.fieldLink RX2 23 "FieldTrace$Processor" "ap" "J") (by decide +kernel)) (fun _ h9 => h9) rfl dX2_findAp_65 ?_
        refine lv_ldc2 (v := 2) hx hb hown (hts (.constantLong RX2 148 (2)) (by decide +kernel)) dX2_findAp_68 ?_
        refine q_callSl (As := [.long (pP_ap S), .long 2]) (rest := [.ref aP]) (c_X4_shifted l D (pP_ap S) 2) hfix (va_cwS 2 hts gX2_findAp_X4_shifted rfl rfl rfl (by decide +kernel) ⟨Nat.le_of_ble_eq_true rfl, Nat.le_of_ble_eq_true rfl⟩) rfl hl.1 rfl (Nat.le_of_ble_eq_true rfl) ⟨Nat.zero_le _, Nat.zero_le _⟩ hP hK hS hA [] [] rfl rfl dX2_findAp_71 (fun H locs hP hS => ?_)
        refine lv_goto (tgt := 81) hx hb dX2_findAp_74 (by decide) ?_
        refine va_put (D := D) (ci := 1) (v := .long (f_X4_shifted (pP_ap S) 2)) (ty := .long) (C := RX2) (T := TX2) (N := 13) hx hb hts hin1 tyX2 tyX2_ok nmX2 hown hK hP hD hS 0 rfl rfl 5 (by decide) (hts (.fieldLink RX2 82 "FieldTrace$Processor" "newAp" "J") (by decide +kernel)) (fun _ h9 => h9) rfl (by decide +kernel) (rfl) (rfl) (Nat.le_of_ble_eq_true rfl) dX2_findAp_81 (fun H locs hP hD hS => ?_)
        have hP : va_P D vwCl (wP aP aM aC cJ (sP_newAp S (f_X4_shifted (pP_ap S) 2))) H := hP
        have hD : va_D A (wP aP aM aC cJ (sP_newAp S (f_X4_shifted (pP_ap S) 2))) := hD
        refine lv_aload_n hx hb dX2_findAp_84 rfl (lv_at hl 0 rfl) ?_
        refine va_get (D := D) (ci := 1) (v := .long (pP_newAp (sP_newAp S (f_X4_shifted (pP_ap S) 2)))) (C := RX2) (T := TX2) (N := 13) hx hb hts hin1 hown hK hP 0 rfl rfl 5 (by decide) (hts (.fieldLink RX2 82 "FieldTrace$Processor" "newAp" "J") (by decide +kernel)) (fun _ h9 => h9) rfl dX2_findAp_85 ?_
        refine q_callSi (As := [.long (pP_newAp (sP_newAp S (f_X4_shifted (pP_ap S) 2)))]) (rest := []) (c_X2_reckoned l D (pP_newAp (sP_newAp S (f_X4_shifted (pP_ap S) 2)))) hfix (va_cwS 1 hts gX2_findAp_X2_reckoned rfl rfl rfl (by decide +kernel) ⟨Nat.le_of_ble_eq_true rfl, Nat.le_of_ble_eq_true rfl⟩) rfl hl.1 rfl (Nat.le_of_ble_eq_true rfl) ⟨Nat.zero_le _, Nat.zero_le _⟩ hP hK hS hA [] [] rfl rfl dX2_findAp_88 (fun H locs hP hS => ?_)
        exact q_mi (sP_newAp S (f_X4_shifted (pP_ap S) 2)) hx hb hr hlocks hP hD hS (q_pair (by rw [f_X2_findAp, if_pos c1, if_pos c2, if_neg c3])) dX2_findAp_91
    · refine lv_aload_n hx hb dX2_findAp_38 rfl (lv_at hl 0 rfl) ?_
      refine lv_aload_n hx hb dX2_findAp_39 rfl (lv_at hl 0 rfl) ?_
      refine va_get (D := D) (ci := 1) (v := .long (pP_ap S)) (C := RX2) (T := TX2) (N := 13) hx hb hts hin1 hown hK hP 0 rfl rfl 2 (by decide) (hts (.fieldLink RX2 23 "FieldTrace$Processor" "ap" "J") (by decide +kernel)) (fun _ h9 => h9) rfl dX2_findAp_40 ?_
      refine lv_lconst (v := 1) hx hb dX2_findAp_43 (by decide) ?_
      refine q_callSl (As := [.long (pP_ap S), .long 1]) (rest := [.ref aP]) (c_X4_shifted l D (pP_ap S) 1) hfix (va_cwS 2 hts gX2_findAp_X4_shifted rfl rfl rfl (by decide +kernel) ⟨Nat.le_of_ble_eq_true rfl, Nat.le_of_ble_eq_true rfl⟩) rfl hl.1 rfl (Nat.le_of_ble_eq_true rfl) ⟨Nat.zero_le _, Nat.zero_le _⟩ hP hK hS hA [] [] rfl rfl dX2_findAp_44 (fun H locs hP hS => ?_)
      refine va_put (D := D) (ci := 1) (v := .long (f_X4_shifted (pP_ap S) 1)) (ty := .long) (C := RX2) (T := TX2) (N := 13) hx hb hts hin1 tyX2 tyX2_ok nmX2 hown hK hP hD hS 0 rfl rfl 5 (by decide) (hts (.fieldLink RX2 82 "FieldTrace$Processor" "newAp" "J") (by decide +kernel)) (fun _ h9 => h9) rfl (by decide +kernel) (rfl) (rfl) (Nat.le_of_ble_eq_true rfl) dX2_findAp_47 (fun H locs hP hD hS => ?_)
      have hP : va_P D vwCl (wP aP aM aC cJ (sP_newAp S (f_X4_shifted (pP_ap S) 1))) H := hP
      have hD : va_D A (wP aP aM aC cJ (sP_newAp S (f_X4_shifted (pP_ap S) 1))) := hD
      refine lv_goto (tgt := 84) hx hb dX2_findAp_50 (by decide) ?_
      refine lv_aload_n hx hb dX2_findAp_84 rfl (lv_at hl 0 rfl) ?_
      refine va_get (D := D) (ci := 1) (v := .long (pP_newAp (sP_newAp S (f_X4_shifted (pP_ap S) 1)))) (C := RX2) (T := TX2) (N := 13) hx hb hts hin1 hown hK hP 0 rfl rfl 5 (by decide) (hts (.fieldLink RX2 82 "FieldTrace$Processor" "newAp" "J") (by decide +kernel)) (fun _ h9 => h9) rfl dX2_findAp_85 ?_
      refine q_callSi (As := [.long (pP_newAp (sP_newAp S (f_X4_shifted (pP_ap S) 1)))]) (rest := []) (c_X2_reckoned l D (pP_newAp (sP_newAp S (f_X4_shifted (pP_ap S) 1)))) hfix (va_cwS 1 hts gX2_findAp_X2_reckoned rfl rfl rfl (by decide +kernel) ⟨Nat.le_of_ble_eq_true rfl, Nat.le_of_ble_eq_true rfl⟩) rfl hl.1 rfl (Nat.le_of_ble_eq_true rfl) ⟨Nat.zero_le _, Nat.zero_le _⟩ hP hK hS hA [] [] rfl rfl dX2_findAp_88 (fun H locs hP hS => ?_)
      exact q_mi (sP_newAp S (f_X4_shifted (pP_ap S) 1)) hx hb hr hlocks hP hD hS (q_pair (by rw [f_X2_findAp, if_pos c1, if_neg c2])) dX2_findAp_91
  · refine lv_aload_n hx hb dX2_findAp_10 rfl (lv_at hl 0 rfl) ?_
    refine lv_aload_n hx hb dX2_findAp_11 rfl (lv_at hl 0 rfl) ?_
    refine va_get (D := D) (ci := 1) (v := .long (pP_ap S)) (C := RX2) (T := TX2) (N := 13) hx hb hts hin1 hown hK hP 0 rfl rfl 2 (by decide) (hts (.fieldLink RX2 23 "FieldTrace$Processor" "ap" "J") (by decide +kernel)) (fun _ h9 => h9) rfl dX2_findAp_12 ?_
    refine lv_aload_n hx hb dX2_findAp_15 rfl (lv_at hl 0 rfl) ?_
    refine va_get (D := D) (ci := 1) (v := .long (pP_res S)) (C := RX2) (T := TX2) (N := 13) hx hb hts hin1 hown hK hP 0 rfl rfl 12 (by decide) (hts (.fieldLink RX2 57 "FieldTrace$Processor" "res" "J") (by decide +kernel)) (fun _ h9 => h9) rfl dX2_findAp_16 ?_
    refine q_callSl (As := [.long (pP_ap S), .long (pP_res S)]) (rest := [.ref aP]) (c_X4_plus l D (pP_ap S) (pP_res S)) hfix (va_cwS 2 hts gX2_findAp_X4_plus rfl rfl rfl (by decide +kernel) ⟨Nat.le_of_ble_eq_true rfl, Nat.le_of_ble_eq_true rfl⟩) rfl hl.1 rfl (Nat.le_of_ble_eq_true rfl) ⟨Nat.zero_le _, Nat.zero_le _⟩ hP hK hS hA [] [] rfl rfl dX2_findAp_19 (fun H locs hP hS => ?_)
    refine va_put (D := D) (ci := 1) (v := .long (f_X4_plus (pP_ap S) (pP_res S))) (ty := .long) (C := RX2) (T := TX2) (N := 13) hx hb hts hin1 tyX2 tyX2_ok nmX2 hown hK hP hD hS 0 rfl rfl 5 (by decide) (hts (.fieldLink RX2 82 "FieldTrace$Processor" "newAp" "J") (by decide +kernel)) (fun _ h9 => h9) rfl (by decide +kernel) (rfl) (rfl) (Nat.le_of_ble_eq_true rfl) dX2_findAp_22 (fun H locs hP hD hS => ?_)
    have hP : va_P D vwCl (wP aP aM aC cJ (sP_newAp S (f_X4_plus (pP_ap S) (pP_res S)))) H := hP
    have hD : va_D A (wP aP aM aC cJ (sP_newAp S (f_X4_plus (pP_ap S) (pP_res S)))) := hD
    refine lv_goto (tgt := 84) hx hb dX2_findAp_25 (by decide) ?_
    refine lv_aload_n hx hb dX2_findAp_84 rfl (lv_at hl 0 rfl) ?_
    refine va_get (D := D) (ci := 1) (v := .long (pP_newAp (sP_newAp S (f_X4_plus (pP_ap S) (pP_res S))))) (C := RX2) (T := TX2) (N := 13) hx hb hts hin1 hown hK hP 0 rfl rfl 5 (by decide) (hts (.fieldLink RX2 82 "FieldTrace$Processor" "newAp" "J") (by decide +kernel)) (fun _ h9 => h9) rfl dX2_findAp_85 ?_
    refine q_callSi (As := [.long (pP_newAp (sP_newAp S (f_X4_plus (pP_ap S) (pP_res S))))]) (rest := []) (c_X2_reckoned l D (pP_newAp (sP_newAp S (f_X4_plus (pP_ap S) (pP_res S))))) hfix (va_cwS 1 hts gX2_findAp_X2_reckoned rfl rfl rfl (by decide +kernel) ⟨Nat.le_of_ble_eq_true rfl, Nat.le_of_ble_eq_true rfl⟩) rfl hl.1 rfl (Nat.le_of_ble_eq_true rfl) ⟨Nat.zero_le _, Nat.zero_le _⟩ hP hK hS hA [] [] rfl rfl dX2_findAp_88 (fun H locs hP hS => ?_)
    exact q_mi (sP_newAp S (f_X4_plus (pP_ap S) (pP_res S))) hx hb hr hlocks hP hD hS (q_pair (by rw [f_X2_findAp, if_neg c1])) dX2_findAp_91

def f_X2_findFp_J64 (S_64 : PS) : Int32 × PS :=
  (if (f_X4_isAddress (pP_newFp S_64)) = 0 then (4, S_64) else (0, S_64))

def f_X2_findFp (S : PS) : Int32 × PS :=
  (if (f_X2_has (sP_newFp S (pP_fp S)) 4096) = 0 then (if (f_X2_has (sP_newFp S (pP_fp S)) 8192) = 0 then (f_X2_findFp_J64 (sP_newFp S (pP_fp S))) else (if (pP_newFp (sP_newFp (sP_newFp S (pP_fp S)) (f_X2_look (sP_newFp S (pP_fp S)) (pP_dstPlace (sP_newFp S (pP_fp S)))))) = (-1) then (1, (sP_newFp (sP_newFp S (pP_fp S)) (f_X2_look (sP_newFp S (pP_fp S)) (pP_dstPlace (sP_newFp S (pP_fp S)))))) else (f_X2_findFp_J64 (sP_newFp (sP_newFp S (pP_fp S)) (f_X2_look (sP_newFp S (pP_fp S)) (pP_dstPlace (sP_newFp S (pP_fp S)))))))) else (f_X2_findFp_J64 (sP_newFp (sP_newFp S (pP_fp S)) (pP_newAp (sP_newFp S (pP_fp S))))))

set_option maxHeartbeats 4000000 in
set_option maxRecDepth 100000 in
theorem c_X2_findFp (l : Launch) (D : va_G) (aP aM aC : Nat) (cJ : ClassId) (S : PS) : q_muI l yX2_findFp wsX2_findFp ({ frames := 3, cells := 0, slots := 0, locals := 65 }) D [(cJ, .long)] (wP aP aM aC cJ S) [.ref aP] (fun r u => r = (f_X2_findFp S).1 ∧ u = (f_X2_findFp S).2) (fun u => (wP aP aM aC cJ u)) := by
  refine q_muI_of (cc := cX2_findFp) (maxL := 1) (ret := (some .int)) (plainFor_of_name (by decide)) rfl (Nat.le_of_ble_eq_true rfl) ?_
  intro p e s m below meth c ls A hx hb hr hml hown hts hlocks hP hK hD hA hS hl
  have hown : s.vm.findClass RX2 = some m.cls := hown
  have hl : lv_has ls 1 [(0, .ref aP)] := hl
  have hfix : CallFix p m c cX2_findFp 1 s [.ref aP].toArray wsX2_findFp RX2 := ⟨hx, hb, hml, hown, hts⟩
  have hin1 : ∀ w ∈ wsX20, w ∈ wsX2_findFp := by decide +kernel
  refine lv_aload_n hx hb dX2_findFp_0 rfl (lv_at hl 0 rfl) ?_
  refine lv_aload_n hx hb dX2_findFp_1 rfl (lv_at hl 0 rfl) ?_
  refine va_get (D := D) (ci := 1) (v := .long (pP_fp S)) (C := RX2) (T := TX2) (N := 13) hx hb hts hin1 hown hK hP 0 rfl rfl 3 (by decide) (hts (.fieldLink RX2 26 "FieldTrace$Processor" "fp" "J") (by decide +kernel)) (fun _ h9 => h9) rfl dX2_findFp_2 ?_
  refine va_put (D := D) (ci := 1) (v := .long (pP_fp S)) (ty := .long) (C := RX2) (T := TX2) (N := 13) hx hb hts hin1 tyX2 tyX2_ok nmX2 hown hK hP hD hS 0 rfl rfl 6 (by decide) (hts (.fieldLink RX2 85 "FieldTrace$Processor" "newFp" "J") (by decide +kernel)) (fun _ h9 => h9) rfl (by decide +kernel) (rfl) (rfl) (Nat.le_of_ble_eq_true rfl) dX2_findFp_5 (fun H locs hP hD hS => ?_)
  have hP : va_P D vwCl (wP aP aM aC cJ (sP_newFp S (pP_fp S))) H := hP
  have hD : va_D A (wP aP aM aC cJ (sP_newFp S (pP_fp S))) := hD
  refine lv_aload_n hx hb dX2_findFp_8 rfl (lv_at hl 0 rfl) ?_
  refine lv_sipush (v := 4096) hx hb dX2_findFp_9 (by decide) ?_
  refine q_callVi (As := [.int 4096]) (rest := []) (q0 := 0) (ci := 1) (C := RX2) (c_X2_has l D aP aM aC cJ (sP_newFp S (pP_fp S)) 4096) hfix (cwV 1 hts gX2_findFp_X2_has rfl rfl rfl (by decide +kernel) ⟨Nat.le_of_ble_eq_true rfl, Nat.le_of_ble_eq_true rfl⟩) rfl hl.1 rfl (Nat.le_of_ble_eq_true rfl) ⟨Nat.zero_le _, Nat.zero_le _⟩ hP hK hS hA [0, 1, 2] [0] rfl rfl rfl rfl rfl dX2_findFp_12 (fun H locs hP hS => ?_)
  have kJ64 : ∀ (S_64 : PS) (H : Heap) (locs : List Loc) (ls : Array Slot), (f_X2_findFp S) = (f_X2_findFp_J64 S_64) → va_P D vwCl (wP aP aM aC cJ S_64) H → va_D A (wP aP aM aC cJ S_64) → va_S A s.heap H locs → lv_has ls 1 [(0, .ref aP)] → W p l e ({ frames := 3, cells := 0, slots := 0, locals := 65 }) s m [.ref aP].toArray below meth c H locs 0 0 (MQ below (va_Qi (fun r u => r = (f_X2_findFp S).1 ∧ u = (f_X2_findFp S).2) (fun u t => va_P D vwCl ((fun u => (wP aP aM aC cJ u)) u) t.heap ∧ va_D A ((fun u => (wP aP aM aC cJ u)) u)) A) [.ref aP].toArray s 0 0 A) (F0 m 64 ls []) := by
    intro S_64 H locs ls hJ64 hP hD hS hl
    refine lv_aload_n hx hb dX2_findFp_64 rfl (lv_at hl 0 rfl) ?_
    refine va_get (D := D) (ci := 1) (v := .long (pP_newFp S_64)) (C := RX2) (T := TX2) (N := 13) hx hb hts hin1 hown hK hP 0 rfl rfl 6 (by decide) (hts (.fieldLink RX2 85 "FieldTrace$Processor" "newFp" "J") (by decide +kernel)) (fun _ h9 => h9) rfl dX2_findFp_65 ?_
    refine q_callSi (As := [.long (pP_newFp S_64)]) (rest := []) (c_X4_isAddress l D (pP_newFp S_64)) hfix (va_cwS 1 hts gX2_findFp_X4_isAddress rfl rfl rfl (by decide +kernel) ⟨Nat.le_of_ble_eq_true rfl, Nat.le_of_ble_eq_true rfl⟩) rfl hl.1 rfl (Nat.le_of_ble_eq_true rfl) ⟨Nat.zero_le _, Nat.zero_le _⟩ hP hK hS hA [] [] rfl rfl dX2_findFp_68 (fun H locs hP hS => ?_)
    refine lv_if_eq (tgt := 78) hx hb dX2_findFp_71 (by decide) (fun c4 => ?_) (fun c4 => ?_)
    · refine lv_iconst (v := 4) hx hb dX2_findFp_78 (by decide) ?_
      exact q_mi S_64 hx hb hr hlocks hP hD hS (q_pair (by rw [hJ64, f_X2_findFp_J64, if_pos c4])) dX2_findFp_79
    · refine lv_iconst (v := 0) hx hb dX2_findFp_74 (by decide) ?_
      refine lv_goto (tgt := 79) hx hb dX2_findFp_75 (by decide) ?_
      exact q_mi S_64 hx hb hr hlocks hP hD hS (q_pair (by rw [hJ64, f_X2_findFp_J64, if_neg c4])) dX2_findFp_79
  refine lv_if_eq (tgt := 29) hx hb dX2_findFp_15 (by decide) (fun c1 => ?_) (fun c1 => ?_)
  · refine lv_aload_n hx hb dX2_findFp_29 rfl (lv_at hl 0 rfl) ?_
    refine lv_sipush (v := 8192) hx hb dX2_findFp_30 (by decide) ?_
    refine q_callVi (As := [.int 8192]) (rest := []) (q0 := 0) (ci := 1) (C := RX2) (c_X2_has l D aP aM aC cJ (sP_newFp S (pP_fp S)) 8192) hfix (cwV 1 hts gX2_findFp_X2_has rfl rfl rfl (by decide +kernel) ⟨Nat.le_of_ble_eq_true rfl, Nat.le_of_ble_eq_true rfl⟩) rfl hl.1 rfl (Nat.le_of_ble_eq_true rfl) ⟨Nat.zero_le _, Nat.zero_le _⟩ hP hK hS hA [0, 1, 2] [0] rfl rfl rfl rfl rfl dX2_findFp_33 (fun H locs hP hS => ?_)
    refine lv_if_eq (tgt := 64) hx hb dX2_findFp_36 (by decide) (fun c2 => ?_) (fun c2 => ?_)
    · exact kJ64 (sP_newFp S (pP_fp S)) _ _ _ (by rw [f_X2_findFp, if_pos c1, if_pos c2]) hP hD hS (lv_sub hl [0] rfl)
    · refine lv_aload_n hx hb dX2_findFp_39 rfl (lv_at hl 0 rfl) ?_
      refine lv_aload_n hx hb dX2_findFp_40 rfl (lv_at hl 0 rfl) ?_
      refine lv_aload_n hx hb dX2_findFp_41 rfl (lv_at hl 0 rfl) ?_
      refine va_get (D := D) (ci := 1) (v := .long (pP_dstPlace (sP_newFp S (pP_fp S)))) (C := RX2) (T := TX2) (N := 13) hx hb hts hin1 hown hK hP 0 rfl rfl 9 (by decide) (hts (.fieldLink RX2 54 "FieldTrace$Processor" "dstPlace" "J") (by decide +kernel)) (fun _ h9 => h9) rfl dX2_findFp_42 ?_
      refine q_callVl (As := [.long (pP_dstPlace (sP_newFp S (pP_fp S)))]) (rest := [.ref aP]) (q0 := 0) (ci := 1) (C := RX2) (c_X2_look l D aP aM aC cJ (sP_newFp S (pP_fp S)) (pP_dstPlace (sP_newFp S (pP_fp S)))) hfix (cwV 1 hts gX2_findFp_X2_look rfl rfl rfl (by decide +kernel) ⟨Nat.le_of_ble_eq_true rfl, Nat.le_of_ble_eq_true rfl⟩) rfl hl.1 rfl (Nat.le_of_ble_eq_true rfl) ⟨Nat.zero_le _, Nat.zero_le _⟩ hP hK hS hA [0, 1, 2] [0] rfl rfl rfl rfl rfl dX2_findFp_45 (fun H locs hP hS => ?_)
      refine va_put (D := D) (ci := 1) (v := .long (f_X2_look (sP_newFp S (pP_fp S)) (pP_dstPlace (sP_newFp S (pP_fp S))))) (ty := .long) (C := RX2) (T := TX2) (N := 13) hx hb hts hin1 tyX2 tyX2_ok nmX2 hown hK hP hD hS 0 rfl rfl 6 (by decide) (hts (.fieldLink RX2 85 "FieldTrace$Processor" "newFp" "J") (by decide +kernel)) (fun _ h9 => h9) rfl (by decide +kernel) (rfl) (rfl) (Nat.le_of_ble_eq_true rfl) dX2_findFp_48 (fun H locs hP hD hS => ?_)
      have hP : va_P D vwCl (wP aP aM aC cJ (sP_newFp (sP_newFp S (pP_fp S)) (f_X2_look (sP_newFp S (pP_fp S)) (pP_dstPlace (sP_newFp S (pP_fp S)))))) H := hP
      have hD : va_D A (wP aP aM aC cJ (sP_newFp (sP_newFp S (pP_fp S)) (f_X2_look (sP_newFp S (pP_fp S)) (pP_dstPlace (sP_newFp S (pP_fp S)))))) := hD
      refine lv_aload_n hx hb dX2_findFp_51 rfl (lv_at hl 0 rfl) ?_
      refine va_get (D := D) (ci := 1) (v := .long (pP_newFp (sP_newFp (sP_newFp S (pP_fp S)) (f_X2_look (sP_newFp S (pP_fp S)) (pP_dstPlace (sP_newFp S (pP_fp S))))))) (C := RX2) (T := TX2) (N := 13) hx hb hts hin1 hown hK hP 0 rfl rfl 6 (by decide) (hts (.fieldLink RX2 85 "FieldTrace$Processor" "newFp" "J") (by decide +kernel)) (fun _ h9 => h9) rfl dX2_findFp_52 ?_
      refine lv_ldc2 (v := -1) hx hb hown (hts (.constantLong RX2 95 (-1)) (by decide +kernel)) dX2_findFp_55 ?_
      refine q_ne (tgt := 64) hx hb dX2_findFp_58 dX2_findFp_59 (by decide) (fun c3 => ?_) (fun c3 => ?_)
      · exact kJ64 (sP_newFp (sP_newFp S (pP_fp S)) (f_X2_look (sP_newFp S (pP_fp S)) (pP_dstPlace (sP_newFp S (pP_fp S))))) _ _ _ (by rw [f_X2_findFp, if_pos c1, if_neg c2, if_neg c3]) hP hD hS (lv_sub hl [0] rfl)
      · refine lv_iconst (v := 1) hx hb dX2_findFp_62 (by decide) ?_
        exact q_mi (sP_newFp (sP_newFp S (pP_fp S)) (f_X2_look (sP_newFp S (pP_fp S)) (pP_dstPlace (sP_newFp S (pP_fp S))))) hx hb hr hlocks hP hD hS (q_pair (by rw [f_X2_findFp, if_pos c1, if_neg c2, if_pos c3])) dX2_findFp_63
  · refine lv_aload_n hx hb dX2_findFp_18 rfl (lv_at hl 0 rfl) ?_
    refine lv_aload_n hx hb dX2_findFp_19 rfl (lv_at hl 0 rfl) ?_
    refine va_get (D := D) (ci := 1) (v := .long (pP_newAp (sP_newFp S (pP_fp S)))) (C := RX2) (T := TX2) (N := 13) hx hb hts hin1 hown hK hP 0 rfl rfl 5 (by decide) (hts (.fieldLink RX2 82 "FieldTrace$Processor" "newAp" "J") (by decide +kernel)) (fun _ h9 => h9) rfl dX2_findFp_20 ?_
    refine va_put (D := D) (ci := 1) (v := .long (pP_newAp (sP_newFp S (pP_fp S)))) (ty := .long) (C := RX2) (T := TX2) (N := 13) hx hb hts hin1 tyX2 tyX2_ok nmX2 hown hK hP hD hS 0 rfl rfl 6 (by decide) (hts (.fieldLink RX2 85 "FieldTrace$Processor" "newFp" "J") (by decide +kernel)) (fun _ h9 => h9) rfl (by decide +kernel) (rfl) (rfl) (Nat.le_of_ble_eq_true rfl) dX2_findFp_23 (fun H locs hP hD hS => ?_)
    have hP : va_P D vwCl (wP aP aM aC cJ (sP_newFp (sP_newFp S (pP_fp S)) (pP_newAp (sP_newFp S (pP_fp S))))) H := hP
    have hD : va_D A (wP aP aM aC cJ (sP_newFp (sP_newFp S (pP_fp S)) (pP_newAp (sP_newFp S (pP_fp S))))) := hD
    refine lv_goto (tgt := 64) hx hb dX2_findFp_26 (by decide) ?_
    exact kJ64 (sP_newFp (sP_newFp S (pP_fp S)) (pP_newAp (sP_newFp S (pP_fp S)))) _ _ _ (by rw [f_X2_findFp, if_neg c1]) hP hD hS (lv_sub hl [0] rfl)

