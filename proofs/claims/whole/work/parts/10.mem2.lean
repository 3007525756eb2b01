def f_X1_lengthOf_L3 (S : (Nat → Int64)) (a0 : Int32) : Nat → Int32 → Int32
  | 0, _ => default
  | fu_3 + 1, v2_3 => (if v2_3 ≤ 0 then v2_3 else (if (f_X1_look S a0 (v2_3 - 1)) = (-1) then (f_X1_lengthOf_L3 S a0 fu_3 (v2_3 + (-1))) else v2_3))

def f_X1_lengthOf (S : (Nat → Int64)) (a0 : Int32) : Int32 :=
  (f_X1_lengthOf_L3 S a0 65 64)

set_option maxHeartbeats 4000000 in
set_option maxRecDepth 100000 in
theorem c_X1_lengthOf (l : Launch) (D : va_G) (aM aC : Nat) (cJ : ClassId) (S : (Nat → Int64)) (a0 : Int32) : q_roI l yX1_lengthOf wsX1_lengthOf ({ frames := 2, cells := 0, slots := 0, locals := 43 }) D [(cJ, .long)] (wM aM aC cJ S) [.ref aM, .int a0] (f_X1_lengthOf S a0) := by
  refine q_roI_of (cc := cX1_lengthOf) (maxL := 3) (ret := (some .int)) (plainFor_of_name (by decide)) rfl (Nat.le_of_ble_eq_true rfl) ?_
  intro p e s m below meth c ls A hx hb hr hml hown hts hlocks hP hK hA hS hl
  have hown : s.vm.findClass RX1 = some m.cls := hown
  have hl : lv_has ls 3 [(0, .ref aM), (1, .int a0)] := hl
  have hfix : CallFix p m c cX1_lengthOf 3 s [.ref aM, .int a0].toArray wsX1_lengthOf RX1 := ⟨hx, hb, hml, hown, hts⟩
  refine lv_bipush (v := 64) hx hb dX1_lengthOf_0 (by decide) ?_
  refine lv_istore_n (lv' := [(2, .int 64), (0, .ref aM), (1, .int a0)]) hx hb dX1_lengthOf_2 rfl hl (by decide) rfl (fun ls hl => ?_)
  have kL3 : ∀ (fu_3 : Nat) (v2_3 : Int32) (H : Heap) (locs : List Loc) (ls : Array Slot), (v2_3.toInt - (0 : Int)).toNat < fu_3 → (f_X1_lengthOf S a0) = (f_X1_lengthOf_L3 S a0 fu_3 v2_3) → va_P D vwCl (wM aM aC cJ S) H → va_S A s.heap H locs → lv_has ls 3 [(0, .ref aM), (1, .int a0), (2, .int v2_3)] → W p l e ({ frames := 2, cells := 0, slots := 0, locals := 43 }) s m [.ref aM, .int a0].toArray below meth c H locs 0 0 (MQ below (va_Qi (fun r (_ : Unit) => r = (f_X1_lengthOf S a0)) (fun _ _ => True) A) [.ref aM, .int a0].toArray s 0 0 A) (F0 m 3 ls []) := by
    intro fu_3
    induction fu_3 with
    | zero => intro v2_3 H locs ls hmu; exact absurd hmu (Nat.not_lt_zero _)
    | succ fu_3 ih3 =>
      intro v2_3 H locs ls hmu3 hL3 hP hS hl
      refine lv_iload_n hx hb dX1_lengthOf_3 rfl (lv_at hl 2 rfl) ?_
      refine lv_if_le (tgt := 28) hx hb dX1_lengthOf_4 (by decide) (fun c1 => ?_) (fun c1 => ?_)
      · refine lv_iload_n hx hb dX1_lengthOf_28 rfl (lv_at hl 2 rfl) ?_
        exact q_ri hx hb hr hlocks hS (Eq.symm (by rw [hL3, f_X1_lengthOf_L3, if_pos c1])) dX1_lengthOf_29
      · refine lv_aload_n hx hb dX1_lengthOf_7 rfl (lv_at hl 0 rfl) ?_
        refine lv_iload_n hx hb dX1_lengthOf_8 rfl (lv_at hl 1 rfl) ?_
        refine lv_iload_n hx hb dX1_lengthOf_9 rfl (lv_at hl 2 rfl) ?_
        refine lv_iconst (v := 1) hx hb dX1_lengthOf_10 (by decide) ?_
        refine lv_isub hx hb dX1_lengthOf_11 ?_
        refine q_callVl (As := [.int a0, .int (v2_3 - 1)]) (rest := []) (q0 := 0) (ci := 0) (C := RX1) (c_X1_look l D aM aC cJ S a0 (v2_3 - 1)) hfix (cwV 2 hts gX1_lengthOf_X1_look rfl rfl rfl (by decide +kernel) ⟨Nat.le_of_ble_eq_true rfl, Nat.le_of_ble_eq_true rfl⟩) rfl hl.1 rfl (Nat.le_of_ble_eq_true rfl) ⟨Nat.zero_le _, Nat.zero_le _⟩ hP hK hS hA [0, 1] [0] rfl rfl rfl rfl rfl dX1_lengthOf_12 (fun H locs hP hS => ?_)
        refine lv_ldc2 (v := -1) hx hb hown (hts (.constantLong RX1 15 (-1)) (by decide +kernel)) dX1_lengthOf_15 ?_
        refine q_ne (tgt := 28) hx hb dX1_lengthOf_18 dX1_lengthOf_19 (by decide) (fun c2 => ?_) (fun c2 => ?_)
        · refine lv_iload_n hx hb dX1_lengthOf_28 rfl (lv_at hl 2 rfl) ?_
          exact q_ri hx hb hr hlocks hS (Eq.symm (by rw [hL3, f_X1_lengthOf_L3, if_neg c1, if_neg c2])) dX1_lengthOf_29
        · refine lv_iinc (v := v2_3 + (-1)) (lv' := [(2, .int (v2_3 + (-1))), (0, .ref aM), (1, .int a0)]) hx hb dX1_lengthOf_22 hl (k := 2) rfl rfl (by decide) rfl (fun ls hl => ?_)
          refine lv_goto (tgt := 3) hx hb dX1_lengthOf_25 (by decide) ?_
          exact ih3 (v2_3 + (-1)) _ _ _ (q_dec3 rfl c1 hmu3) (by rw [hL3, f_X1_lengthOf_L3, if_neg c1, if_pos c2]) hP hS (lv_sub hl [1, 2, 0] rfl)
  exact kL3 65 64 _ _ _ (by decide) (by rw [f_X1_lengthOf]) hP hS (lv_sub hl [1, 2, 0] rfl)

def f_X1_beginningOf_L4 (S : (Nat → Int64)) (a0 : Int32) : Nat → Int32 → Int32 → Int32
  | 0, _, _ => default
  | fu_4 + 1, v2_4, v3_4 => (if a0 ≤ v3_4 then v2_4 else (if 5 < v3_4 then v2_4 else (f_X1_beginningOf_L4 S a0 fu_4 (v2_4 + (f_X1_lengthOf S v3_4)) (v3_4 + 1))))

def f_X1_beginningOf (S : (Nat → Int64)) (a0 : Int32) : Int32 :=
  (f_X1_beginningOf_L4 S a0 7 1 1)

set_option maxHeartbeats 4000000 in
set_option maxRecDepth 100000 in
theorem c_X1_beginningOf (l : Launch) (D : va_G) (aM aC : Nat) (cJ : ClassId) (S : (Nat → Int64)) (a0 : Int32) : q_roI l yX1_beginningOf wsX1_beginningOf ({ frames := 3, cells := 0, slots := 0, locals := 65 }) D [(cJ, .long)] (wM aM aC cJ S) [.ref aM, .int a0] (f_X1_beginningOf S a0) := by
  refine q_roI_of (cc := cX1_beginningOf) (maxL := 4) (ret := (some .int)) (plainFor_of_name (by decide)) rfl (Nat.le_of_ble_eq_true rfl) ?_
  intro p e s m below meth c ls A hx hb hr hml hown hts hlocks hP hK hA hS hl
  have hown : s.vm.findClass RX1 = some m.cls := hown
  have hl : lv_has ls 4 [(0, .ref aM), (1, .int a0)] := hl
  have hfix : CallFix p m c cX1_beginningOf 4 s [.ref aM, .int a0].toArray wsX1_beginningOf RX1 := ⟨hx, hb, hml, hown, hts⟩
  refine lv_iconst (v := 1) hx hb dX1_beginningOf_0 (by decide) ?_
  refine lv_istore_n (lv' := [(2, .int 1), (0, .ref aM), (1, .int a0)]) hx hb dX1_beginningOf_1 rfl hl (by decide) rfl (fun ls hl => ?_)
  refine lv_iconst (v := 1) hx hb dX1_beginningOf_2 (by decide) ?_
  refine lv_istore_n (lv' := [(3, .int 1), (2, .int 1), (0, .ref aM), (1, .int a0)]) hx hb dX1_beginningOf_3 rfl hl (by decide) rfl (fun ls hl => ?_)
  have kL4 : ∀ (fu_4 : Nat) (v2_4 : Int32) (v3_4 : Int32) (H : Heap) (locs : List Loc) (ls : Array Slot), ((5 : Int) + 1 - v3_4.toInt).toNat < fu_4 → (f_X1_beginningOf S a0) = (f_X1_beginningOf_L4 S a0 fu_4 v2_4 v3_4) → va_P D vwCl (wM aM aC cJ S) H → va_S A s.heap H locs → lv_has ls 4 [(0, .ref aM), (1, .int a0), (2, .int v2_4), (3, .int v3_4)] → W p l e ({ frames := 3, cells := 0, slots := 0, locals := 65 }) s m [.ref aM, .int a0].toArray below meth c H locs 0 0 (MQ below (va_Qi (fun r (_ : Unit) => r = (f_X1_beginningOf S a0)) (fun _ _ => True) A) [.ref aM, .int a0].toArray s 0 0 A) (F0 m 4 ls []) := by
    intro fu_4
    induction fu_4 with
    | zero => intro v2_4 v3_4 H locs ls hmu; exact absurd hmu (Nat.not_lt_zero _)
    | succ fu_4 ih4 =>
      intro v2_4 v3_4 H locs ls hmu4 hL4 hP hS hl
      refine lv_iload_n hx hb dX1_beginningOf_4 rfl (lv_at hl 3 rfl) ?_
      refine lv_iload_n hx hb dX1_beginningOf_5 rfl (lv_at hl 1 rfl) ?_
      refine lv_icmp_ge (tgt := 28) hx hb dX1_beginningOf_6 (by decide) (fun c1 => ?_) (fun c1 => ?_)
      · refine lv_iload_n hx hb dX1_beginningOf_28 rfl (lv_at hl 2 rfl) ?_
        exact q_ri hx hb hr hlocks hS (Eq.symm (by rw [hL4, f_X1_beginningOf_L4, if_pos c1])) dX1_beginningOf_29
      · refine lv_iload_n hx hb dX1_beginningOf_9 rfl (lv_at hl 3 rfl) ?_
        refine lv_iconst (v := 5) hx hb dX1_beginningOf_10 (by decide) ?_
        refine lv_icmp_gt (tgt := 28) hx hb dX1_beginningOf_11 (by decide) (fun c2 => ?_) (fun c2 => ?_)
        · refine lv_iload_n hx hb dX1_beginningOf_28 rfl (lv_at hl 2 rfl) ?_
          exact q_ri hx hb hr hlocks hS (Eq.symm (by rw [hL4, f_X1_beginningOf_L4, if_neg c1, if_pos c2])) dX1_beginningOf_29
        · refine lv_iload_n hx hb dX1_beginningOf_14 rfl (lv_at hl 2 rfl) ?_
          refine lv_aload_n hx hb dX1_beginningOf_15 rfl (lv_at hl 0 rfl) ?_
          refine lv_iload_n hx hb dX1_beginningOf_16 rfl (lv_at hl 3 rfl) ?_
          refine q_callVi (As := [.int v3_4]) (rest := [.int v2_4]) (q0 := 0) (ci := 0) (C := RX1) (c_X1_lengthOf l D aM aC cJ S v3_4) hfix (cwV 1 hts gX1_beginningOf_X1_lengthOf rfl rfl rfl (by decide +kernel) ⟨Nat.le_of_ble_eq_true rfl, Nat.le_of_ble_eq_true rfl⟩) rfl hl.1 rfl (Nat.le_of_ble_eq_true rfl) ⟨Nat.zero_le _, Nat.zero_le _⟩ hP hK hS hA [0, 1] [0] rfl rfl rfl rfl rfl dX1_beginningOf_17 (fun H locs hP hS => ?_)
          refine lv_iadd hx hb dX1_beginningOf_20 ?_
          refine lv_istore_n (lv' := [(2, .int (v2_4 + (f_X1_lengthOf S v3_4))), (0, .ref aM), (1, .int a0), (3, .int v3_4)]) hx hb dX1_beginningOf_21 rfl hl (by decide) rfl (fun ls hl => ?_)
          refine lv_iinc (v := v3_4 + 1) (lv' := [(3, .int (v3_4 + 1)), (2, .int (v2_4 + (f_X1_lengthOf S v3_4))), (0, .ref aM), (1, .int a0)]) hx hb dX1_beginningOf_22 hl (k := 3) rfl rfl (by decide) rfl (fun ls hl => ?_)
          refine lv_goto (tgt := 4) hx hb dX1_beginningOf_25 (by decide) ?_
          exact ih4 (v2_4 + (f_X1_lengthOf S v3_4)) (v3_4 + 1) _ _ _ (q_dec2 rfl (by decide) c2 hmu4) (by rw [hL4, f_X1_beginningOf_L4, if_neg c1, if_neg c2]) hP hS (lv_sub hl [2, 3, 1, 0] rfl)
  exact kL4 7 1 1 _ _ _ (by decide) (by rw [f_X1_beginningOf]) hP hS (lv_sub hl [2, 3, 1, 0] rfl)

def f_X1_relocate (S : (Nat → Int64)) (a0 : Int64) : Int64 :=
  (if (f_X4_isAddress a0) = 0 then a0 else (f_X0_reduce (((f_X1_beginningOf S (f_X4_segmentOf a0)) + (f_X4_cellOf a0) : Int32).toInt64)))

set_option maxHeartbeats 4000000 in
set_option maxRecDepth 100000 in
theorem c_X1_relocate (l : Launch) (D : va_G) (aM aC : Nat) (cJ : ClassId) (S : (Nat → Int64)) (a0 : Int64) : q_roL l yX1_relocate wsX1_relocate ({ frames := 4, cells := 0, slots := 0, locals := 88 }) D [(cJ, .long)] (wM aM aC cJ S) [.ref aM, .long a0] (f_X1_relocate S a0) := by
  refine q_roL_of (cc := cX1_relocate) (maxL := 3) (ret := (some .long)) (plainFor_of_name (by decide)) rfl (Nat.le_of_ble_eq_true rfl) ?_
  intro p e s m below meth c ls A hx hb hr hml hown hts hlocks hP hK hA hS hl
  have hown : s.vm.findClass RX1 = some m.cls := hown
  have hl : lv_has ls 3 [(0, .ref aM), (1, .long a0)] := hl
  have hfix : CallFix p m c cX1_relocate 3 s [.ref aM, .long a0].toArray wsX1_relocate RX1 := ⟨hx, hb, hml, hown, hts⟩
  refine lv_lload_n hx hb dX1_relocate_0 rfl (lv_at hl 1 rfl) ?_
  refine q_callSi (As := [.long a0]) (rest := []) (c_X4_isAddress l D a0) hfix (va_cwS 1 hts gX1_relocate_X4_isAddress rfl rfl rfl (by decide +kernel) ⟨Nat.le_of_ble_eq_true rfl, Nat.le_of_ble_eq_true rfl⟩) rfl hl.1 rfl (Nat.le_of_ble_eq_true rfl) ⟨Nat.zero_le _, Nat.zero_le _⟩ hP hK hS hA [] [] rfl rfl dX1_relocate_1 (fun H locs hP hS => ?_)
  refine lv_if_ne (tgt := 9) hx hb dX1_relocate_4 (by decide) (fun c1 => ?_) (fun c1 => ?_)
  · refine lv_aload_n hx hb dX1_relocate_9 rfl (lv_at hl 0 rfl) ?_
    refine lv_lload_n hx hb dX1_relocate_10 rfl (lv_at hl 1 rfl) ?_
    refine q_callSi (As := [.long a0]) (rest := [.ref aM]) (c_X4_segmentOf l D a0) hfix (va_cwS 1 hts gX1_relocate_X4_segmentOf rfl rfl rfl (by decide +kernel) ⟨Nat.le_of_ble_eq_true rfl, Nat.le_of_ble_eq_true rfl⟩) rfl hl.1 rfl (Nat.le_of_ble_eq_true rfl) ⟨Nat.zero_le _, Nat.zero_le _⟩ hP hK hS hA [] [] rfl rfl dX1_relocate_11 (fun H locs hP hS => ?_)
    refine q_callVi (As := [.int (f_X4_segmentOf a0)]) (rest := []) (q0 := 0) (ci := 0) (C := RX1) (c_X1_beginningOf l D aM aC cJ S (f_X4_segmentOf a0)) hfix (cwV 1 hts gX1_relocate_X1_beginningOf rfl rfl rfl (by decide +kernel) ⟨Nat.le_of_ble_eq_true rfl, Nat.le_of_ble_eq_true rfl⟩) rfl hl.1 rfl (Nat.le_of_ble_eq_true rfl) ⟨Nat.zero_le _, Nat.zero_le _⟩ hP hK hS hA [0, 1] [0] rfl rfl rfl rfl rfl dX1_relocate_14 (fun H locs hP hS => ?_)
    refine lv_lload_n hx hb dX1_relocate_17 rfl (lv_at hl 1 rfl) ?_
    refine q_callSi (As := [.long a0]) (rest := [.int (f_X1_beginningOf S (f_X4_segmentOf a0))]) (c_X4_cellOf l D a0) hfix (va_cwS 1 hts gX1_relocate_X4_cellOf rfl rfl rfl (by decide +kernel) ⟨Nat.le_of_ble_eq_true rfl, Nat.le_of_ble_eq_true rfl⟩) rfl hl.1 rfl (Nat.le_of_ble_eq_true rfl) ⟨Nat.zero_le _, Nat.zero_le _⟩ hP hK hS hA [] [] rfl rfl dX1_relocate_18 (fun H locs hP hS => ?_)
    refine lv_iadd hx hb dX1_relocate_21 ?_
    refine lv_i2l hx hb dX1_relocate_22 rfl ?_
    refine q_callSl (As := [.long (((f_X1_beginningOf S (f_X4_segmentOf a0)) + (f_X4_cellOf a0) : Int32).toInt64)]) (rest := []) (c_X0_reduce l D (((f_X1_beginningOf S (f_X4_segmentOf a0)) + (f_X4_cellOf a0) : Int32).toInt64)) hfix (va_cwS 1 hts gX1_relocate_X0_reduce rfl rfl rfl (by decide +kernel) ⟨Nat.le_of_ble_eq_true rfl, Nat.le_of_ble_eq_true rfl⟩) rfl hl.1 rfl (Nat.le_of_ble_eq_true rfl) ⟨Nat.zero_le _, Nat.zero_le _⟩ hP hK hS hA [] [] rfl rfl dX1_relocate_23 (fun H locs hP hS => ?_)
    exact q_rl hx hb hr hlocks hS (Eq.symm (by rw [f_X1_relocate, if_neg c1])) dX1_relocate_26
  · refine lv_lload_n hx hb dX1_relocate_7 rfl (lv_at hl 1 rfl) ?_
    exact q_rl hx hb hr hlocks hS (Eq.symm (by rw [f_X1_relocate, if_pos c1])) dX1_relocate_8

def f_X1_relocatedAt_J22 (S : (Nat → Int64)) (a0 : Int32) (v2_2 : Int32) : Int64 :=
  (if (f_X1_look S v2_2 (a0 - (f_X1_beginningOf S v2_2))) = (-1) then 0 else (f_X1_relocate S (f_X1_look S v2_2 (a0 - (f_X1_beginningOf S v2_2)))))

def f_X1_relocatedAt_L2 (S : (Nat → Int64)) (a0 : Int32) : Nat → Int32 → Int64
  | 0, _ => default
  | fu_2 + 1, v2_2 => (if v2_2 ≤ 1 then (f_X1_relocatedAt_J22 S a0 v2_2) else (if (f_X1_beginningOf S v2_2) ≤ a0 then (f_X1_relocatedAt_J22 S a0 v2_2) else (f_X1_relocatedAt_L2 S a0 fu_2 (v2_2 + (-1)))))

def f_X1_relocatedAt (S : (Nat → Int64)) (a0 : Int32) : Int64 :=
  (f_X1_relocatedAt_L2 S a0 6 5)

set_option maxHeartbeats 4000000 in
set_option maxRecDepth 100000 in
theorem c_X1_relocatedAt (l : Launch) (D : va_G) (aM aC : Nat) (cJ : ClassId) (S : (Nat → Int64)) (a0 : Int32) : q_roL l yX1_relocatedAt wsX1_relocatedAt ({ frames := 5, cells := 0, slots := 0, locals := 110 }) D [(cJ, .long)] (wM aM aC cJ S) [.ref aM, .int a0] (f_X1_relocatedAt S a0) := by
  refine q_roL_of (cc := cX1_relocatedAt) (maxL := 5) (ret := (some .long)) (plainFor_of_name (by decide)) rfl (Nat.le_of_ble_eq_true rfl) ?_
  intro p e s m below meth c ls A hx hb hr hml hown hts hlocks hP hK hA hS hl
  have hown : s.vm.findClass RX1 = some m.cls := hown
  have hl : lv_has ls 5 [(0, .ref aM), (1, .int a0)] := hl
  have hfix : CallFix p m c cX1_relocatedAt 5 s [.ref aM, .int a0].toArray wsX1_relocatedAt RX1 := ⟨hx, hb, hml, hown, hts⟩
  refine lv_iconst (v := 5) hx hb dX1_relocatedAt_0 (by decide) ?_
  refine lv_istore_n (lv' := [(2, .int 5), (0, .ref aM), (1, .int a0)]) hx hb dX1_relocatedAt_1 rfl hl (by decide) rfl (fun ls hl => ?_)
  have kL2 : ∀ (fu_2 : Nat) (v2_2 : Int32) (H : Heap) (locs : List Loc) (ls : Array Slot), (v2_2.toInt - (1 : Int)).toNat < fu_2 → (f_X1_relocatedAt S a0) = (f_X1_relocatedAt_L2 S a0 fu_2 v2_2) → va_P D vwCl (wM aM aC cJ S) H → va_S A s.heap H locs → lv_has ls 5 [(0, .ref aM), (1, .int a0), (2, .int v2_2)] → W p l e ({ frames := 5, cells := 0, slots := 0, locals := 110 }) s m [.ref aM, .int a0].toArray below meth c H locs 0 0 (MQ below (va_Ql (fun r (_ : Unit) => r = (f_X1_relocatedAt S a0)) (fun _ _ => True) A) [.ref aM, .int a0].toArray s 0 0 A) (F0 m 2 ls []) := by
    intro fu_2
    induction fu_2 with
    | zero => intro v2_2 H locs ls hmu; exact absurd hmu (Nat.not_lt_zero _)
    | succ fu_2 ih2 =>
      intro v2_2 H locs ls hmu2 hL2 hP hS hl
      refine lv_iload_n hx hb dX1_relocatedAt_2 rfl (lv_at hl 2 rfl) ?_
      refine lv_iconst (v := 1) hx hb dX1_relocatedAt_3 (by decide) ?_
      have kJ22 : ∀ (H : Heap) (locs : List Loc) (ls : Array Slot), (f_X1_relocatedAt S a0) = (f_X1_relocatedAt_J22 S a0 v2_2) → va_P D vwCl (wM aM aC cJ S) H → va_S A s.heap H locs → lv_has ls 5 [(0, .ref aM), (1, .int a0), (2, .int v2_2)] → W p l e ({ frames := 5, cells := 0, slots := 0, locals := 110 }) s m [.ref aM, .int a0].toArray below meth c H locs 0 0 (MQ below (va_Ql (fun r (_ : Unit) => r = (f_X1_relocatedAt S a0)) (fun _ _ => True) A) [.ref aM, .int a0].toArray s 0 0 A) (F0 m 22 ls []) := by
        intro H locs ls hJ22 hP hS hl
        refine lv_aload_n hx hb dX1_relocatedAt_22 rfl (lv_at hl 0 rfl) ?_
        refine lv_iload_n hx hb dX1_relocatedAt_23 rfl (lv_at hl 2 rfl) ?_
        refine lv_iload_n hx hb dX1_relocatedAt_24 rfl (lv_at hl 1 rfl) ?_
        refine lv_aload_n hx hb dX1_relocatedAt_25 rfl (lv_at hl 0 rfl) ?_
        refine lv_iload_n hx hb dX1_relocatedAt_26 rfl (lv_at hl 2 rfl) ?_
        refine q_callVi (As := [.int v2_2]) (rest := [.int a0, .int v2_2, .ref aM]) (q0 := 0) (ci := 0) (C := RX1) (c_X1_beginningOf l D aM aC cJ S v2_2) hfix (cwV 1 hts gX1_relocatedAt_X1_beginningOf rfl rfl rfl (by decide +kernel) ⟨Nat.le_of_ble_eq_true rfl, Nat.le_of_ble_eq_true rfl⟩) rfl hl.1 rfl (Nat.le_of_ble_eq_true rfl) ⟨Nat.zero_le _, Nat.zero_le _⟩ hP hK hS hA [0, 1] [0] rfl rfl rfl rfl rfl dX1_relocatedAt_27 (fun H locs hP hS => ?_)
        refine lv_isub hx hb dX1_relocatedAt_30 ?_
        refine q_callVl (As := [.int v2_2, .int (a0 - (f_X1_beginningOf S v2_2))]) (rest := []) (q0 := 0) (ci := 0) (C := RX1) (c_X1_look l D aM aC cJ S v2_2 (a0 - (f_X1_beginningOf S v2_2))) hfix (cwV 2 hts gX1_relocatedAt_X1_look rfl rfl rfl (by decide +kernel) ⟨Nat.le_of_ble_eq_true rfl, Nat.le_of_ble_eq_true rfl⟩) rfl hl.1 rfl (Nat.le_of_ble_eq_true rfl) ⟨Nat.zero_le _, Nat.zero_le _⟩ hP hK hS hA [0, 1] [0] rfl rfl rfl rfl rfl dX1_relocatedAt_31 (fun H locs hP hS => ?_)
        refine lv_lstore_n (lv' := [(3, .long (f_X1_look S v2_2 (a0 - (f_X1_beginningOf S v2_2)))), (0, .ref aM), (1, .int a0), (2, .int v2_2)]) hx hb dX1_relocatedAt_34 rfl hl (by decide) rfl (fun ls hl => ?_)
        refine lv_lload_n hx hb dX1_relocatedAt_35 rfl (lv_at hl 0 rfl) ?_
        refine lv_ldc2 (v := -1) hx hb hown (hts (.constantLong RX1 15 (-1)) (by decide +kernel)) dX1_relocatedAt_36 ?_
        refine q_ne (tgt := 47) hx hb dX1_relocatedAt_39 dX1_relocatedAt_40 (by decide) (fun c3 => ?_) (fun c3 => ?_)
        · refine lv_aload_n hx hb dX1_relocatedAt_47 rfl (lv_at hl 1 rfl) ?_
          refine lv_lload_n hx hb dX1_relocatedAt_48 rfl (lv_at hl 0 rfl) ?_
          refine q_callVl (As := [.long (f_X1_look S v2_2 (a0 - (f_X1_beginningOf S v2_2)))]) (rest := []) (q0 := 0) (ci := 0) (C := RX1) (c_X1_relocate l D aM aC cJ S (f_X1_look S v2_2 (a0 - (f_X1_beginningOf S v2_2)))) hfix (cwV 1 hts gX1_relocatedAt_X1_relocate rfl rfl rfl (by decide +kernel) ⟨Nat.le_of_ble_eq_true rfl, Nat.le_of_ble_eq_true rfl⟩) rfl hl.1 rfl (Nat.le_of_ble_eq_true rfl) ⟨Nat.zero_le _, Nat.zero_le _⟩ hP hK hS hA [0, 1] [0] rfl rfl rfl rfl rfl dX1_relocatedAt_49 (fun H locs hP hS => ?_)
          exact q_rl hx hb hr hlocks hS (Eq.symm (by rw [hJ22, f_X1_relocatedAt_J22, if_neg c3])) dX1_relocatedAt_52
        · refine lv_lconst (v := 0) hx hb dX1_relocatedAt_43 (by decide) ?_
          refine lv_goto (tgt := 52) hx hb dX1_relocatedAt_44 (by decide) ?_
          exact q_rl hx hb hr hlocks hS (Eq.symm (by rw [hJ22, f_X1_relocatedAt_J22, if_pos c3])) dX1_relocatedAt_52
      refine lv_icmp_le (tgt := 22) hx hb dX1_relocatedAt_4 (by decide) (fun c1 => ?_) (fun c1 => ?_)
      · exact kJ22 _ _ _ (by rw [hL2, f_X1_relocatedAt_L2, if_pos c1]) hP hS (lv_sub hl [0, 1, 2] rfl)
      · refine lv_iload_n hx hb dX1_relocatedAt_7 rfl (lv_at hl 1 rfl) ?_
        refine lv_aload_n hx hb dX1_relocatedAt_8 rfl (lv_at hl 0 rfl) ?_
        refine lv_iload_n hx hb dX1_relocatedAt_9 rfl (lv_at hl 2 rfl) ?_
        refine q_callVi (As := [.int v2_2]) (rest := [.int a0]) (q0 := 0) (ci := 0) (C := RX1) (c_X1_beginningOf l D aM aC cJ S v2_2) hfix (cwV 1 hts gX1_relocatedAt_X1_beginningOf rfl rfl rfl (by decide +kernel) ⟨Nat.le_of_ble_eq_true rfl, Nat.le_of_ble_eq_true rfl⟩) rfl hl.1 rfl (Nat.le_of_ble_eq_true rfl) ⟨Nat.zero_le _, Nat.zero_le _⟩ hP hK hS hA [0, 1] [0] rfl rfl rfl rfl rfl dX1_relocatedAt_10 (fun H locs hP hS => ?_)
        refine lv_icmp_ge (tgt := 22) hx hb dX1_relocatedAt_13 (by decide) (fun c2 => ?_) (fun c2 => ?_)
        · exact kJ22 _ _ _ (by rw [hL2, f_X1_relocatedAt_L2, if_neg c1, if_pos c2]) hP hS (lv_sub hl [0, 1, 2] rfl)
        · refine lv_iinc (v := v2_2 + (-1)) (lv' := [(2, .int (v2_2 + (-1))), (0, .ref aM), (1, .int a0)]) hx hb dX1_relocatedAt_16 hl (k := 2) rfl rfl (by decide) rfl (fun ls hl => ?_)
          refine lv_goto (tgt := 2) hx hb dX1_relocatedAt_19 (by decide) ?_
          exact ih2 (v2_2 + (-1)) _ _ _ (q_dec3 rfl c1 hmu2) (by rw [hL2, f_X1_relocatedAt_L2, if_neg c1, if_neg c2]) hP hS (lv_sub hl [1, 2, 0] rfl)
  exact kL2 6 5 _ _ _ (by decide) (by rw [f_X1_relocatedAt]) hP hS (lv_sub hl [1, 2, 0] rfl)

