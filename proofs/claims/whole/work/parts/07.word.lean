def f_J6_bitCount_0f7a4 (a0 : Int32) : Int32 :=
  (((((((a0 - ((((a0).toUInt32 >>> ((1 : Int32).toUInt32 &&& Int32.toUInt32 31)).toInt32) &&& 1431655765)) &&& 858993459) + ((((a0 - ((((a0).toUInt32 >>> ((1 : Int32).toUInt32 &&& Int32.toUInt32 31)).toInt32) &&& 1431655765)).toUInt32 >>> ((2 : Int32).toUInt32 &&& Int32.toUInt32 31)).toInt32) &&& 858993459)) + (((((a0 - ((((a0).toUInt32 >>> ((1 : Int32).toUInt32 &&& Int32.toUInt32 31)).toInt32) &&& 1431655765)) &&& 858993459) + ((((a0 - ((((a0).toUInt32 >>> ((1 : Int32).toUInt32 &&& Int32.toUInt32 31)).toInt32) &&& 1431655765)).toUInt32 >>> ((2 : Int32).toUInt32 &&& Int32.toUInt32 31)).toInt32) &&& 858993459)).toUInt32 >>> ((4 : Int32).toUInt32 &&& Int32.toUInt32 31)).toInt32)) &&& 252645135) + (((((((a0 - ((((a0).toUInt32 >>> ((1 : Int32).toUInt32 &&& Int32.toUInt32 31)).toInt32) &&& 1431655765)) &&& 858993459) + ((((a0 - ((((a0).toUInt32 >>> ((1 : Int32).toUInt32 &&& Int32.toUInt32 31)).toInt32) &&& 1431655765)).toUInt32 >>> ((2 : Int32).toUInt32 &&& Int32.toUInt32 31)).toInt32) &&& 858993459)) + (((((a0 - ((((a0).toUInt32 >>> ((1 : Int32).toUInt32 &&& Int32.toUInt32 31)).toInt32) &&& 1431655765)) &&& 858993459) + ((((a0 - ((((a0).toUInt32 >>> ((1 : Int32).toUInt32 &&& Int32.toUInt32 31)).toInt32) &&& 1431655765)).toUInt32 >>> ((2 : Int32).toUInt32 &&& Int32.toUInt32 31)).toInt32) &&& 858993459)).toUInt32 >>> ((4 : Int32).toUInt32 &&& Int32.toUInt32 31)).toInt32)) &&& 252645135).toUInt32 >>> ((8 : Int32).toUInt32 &&& Int32.toUInt32 31)).toInt32)) + ((((((((a0 - ((((a0).toUInt32 >>> ((1 : Int32).toUInt32 &&& Int32.toUInt32 31)).toInt32) &&& 1431655765)) &&& 858993459) + ((((a0 - ((((a0).toUInt32 >>> ((1 : Int32).toUInt32 &&& Int32.toUInt32 31)).toInt32) &&& 1431655765)).toUInt32 >>> ((2 : Int32).toUInt32 &&& Int32.toUInt32 31)).toInt32) &&& 858993459)) + (((((a0 - ((((a0).toUInt32 >>> ((1 : Int32).toUInt32 &&& Int32.toUInt32 31)).toInt32) &&& 1431655765)) &&& 858993459) + ((((a0 - ((((a0).toUInt32 >>> ((1 : Int32).toUInt32 &&& Int32.toUInt32 31)).toInt32) &&& 1431655765)).toUInt32 >>> ((2 : Int32).toUInt32 &&& Int32.toUInt32 31)).toInt32) &&& 858993459)).toUInt32 >>> ((4 : Int32).toUInt32 &&& Int32.toUInt32 31)).toInt32)) &&& 252645135) + (((((((a0 - ((((a0).toUInt32 >>> ((1 : Int32).toUInt32 &&& Int32.toUInt32 31)).toInt32) &&& 1431655765)) &&& 858993459) + ((((a0 - ((((a0).toUInt32 >>> ((1 : Int32).toUInt32 &&& Int32.toUInt32 31)).toInt32) &&& 1431655765)).toUInt32 >>> ((2 : Int32).toUInt32 &&& Int32.toUInt32 31)).toInt32) &&& 858993459)) + (((((a0 - ((((a0).toUInt32 >>> ((1 : Int32).toUInt32 &&& Int32.toUInt32 31)).toInt32) &&& 1431655765)) &&& 858993459) + ((((a0 - ((((a0).toUInt32 >>> ((1 : Int32).toUInt32 &&& Int32.toUInt32 31)).toInt32) &&& 1431655765)).toUInt32 >>> ((2 : Int32).toUInt32 &&& Int32.toUInt32 31)).toInt32) &&& 858993459)).toUInt32 >>> ((4 : Int32).toUInt32 &&& Int32.toUInt32 31)).toInt32)) &&& 252645135).toUInt32 >>> ((8 : Int32).toUInt32 &&& Int32.toUInt32 31)).toInt32)).toUInt32 >>> ((16 : Int32).toUInt32 &&& Int32.toUInt32 31)).toInt32)) &&& 63

set_option maxHeartbeats 4000000 in
set_option maxRecDepth 100000 in
theorem c_J6_bitCount_0f7a4 (l : Launch) (D : va_G) (a0 : Int32) : q_roI l yJ6_bitCount_0f7a4 wsJ6_bitCount_0f7a4 ({ frames := 0, cells := 0, slots := 0, locals := 0 }) D [] [] [.int a0] (f_J6_bitCount_0f7a4 a0) := by
  refine q_roI_of (cc := cJ6_bitCount_0f7a4) (maxL := 1) (ret := (some .int)) (by decide +kernel) rfl (Nat.le_of_ble_eq_true rfl) ?_
  intro p e s m below meth c ls A hx hb hr hml hown hts hlocks hP hK hA hS hl
  have hown : s.vm.findClass RJ6 = some m.cls := hown
  have hl : lv_has ls 1 [(0, .int a0)] := hl
  refine lv_iload_n hx hb dJ6_bitCount_0f7a4_0 rfl (lv_at hl 0 rfl) ?_
  refine lv_iload_n hx hb dJ6_bitCount_0f7a4_1 rfl (lv_at hl 0 rfl) ?_
  refine lv_iconst (v := 1) hx hb dJ6_bitCount_0f7a4_2 (by decide) ?_
  refine lv_iushr hx hb dJ6_bitCount_0f7a4_3 rfl ?_
  refine lv_ldcw (v := 1431655765) hx hb hown (hts (.constant RJ6 265 (1431655765)) (by decide +kernel)) dJ6_bitCount_0f7a4_4 ?_
  refine lv_iand hx hb dJ6_bitCount_0f7a4_7 ?_
  refine lv_isub hx hb dJ6_bitCount_0f7a4_8 ?_
  refine lv_istore_n (lv' := [(0, .int (a0 - ((((a0).toUInt32 >>> ((1 : Int32).toUInt32 &&& Int32.toUInt32 31)).toInt32) &&& 1431655765)))]) hx hb dJ6_bitCount_0f7a4_9 rfl hl (by decide) rfl (fun ls hl => ?_)
  refine lv_iload_n hx hb dJ6_bitCount_0f7a4_10 rfl (lv_at hl 0 rfl) ?_
  refine lv_ldcw (v := 858993459) hx hb hown (hts (.constant RJ6 266 (858993459)) (by decide +kernel)) dJ6_bitCount_0f7a4_11 ?_
  refine lv_iand hx hb dJ6_bitCount_0f7a4_14 ?_
  refine lv_iload_n hx hb dJ6_bitCount_0f7a4_15 rfl (lv_at hl 0 rfl) ?_
  refine lv_iconst (v := 2) hx hb dJ6_bitCount_0f7a4_16 (by decide) ?_
  refine lv_iushr hx hb dJ6_bitCount_0f7a4_17 rfl ?_
  refine lv_ldcw (v := 858993459) hx hb hown (hts (.constant RJ6 266 (858993459)) (by decide +kernel)) dJ6_bitCount_0f7a4_18 ?_
  refine lv_iand hx hb dJ6_bitCount_0f7a4_21 ?_
  refine lv_iadd hx hb dJ6_bitCount_0f7a4_22 ?_
  refine lv_istore_n (lv' := [(0, .int (((a0 - ((((a0).toUInt32 >>> ((1 : Int32).toUInt32 &&& Int32.toUInt32 31)).toInt32) &&& 1431655765)) &&& 858993459) + ((((a0 - ((((a0).toUInt32 >>> ((1 : Int32).toUInt32 &&& Int32.toUInt32 31)).toInt32) &&& 1431655765)).toUInt32 >>> ((2 : Int32).toUInt32 &&& Int32.toUInt32 31)).toInt32) &&& 858993459)))]) hx hb dJ6_bitCount_0f7a4_23 rfl hl (by decide) rfl (fun ls hl => ?_)
  refine lv_iload_n hx hb dJ6_bitCount_0f7a4_24 rfl (lv_at hl 0 rfl) ?_
  refine lv_iload_n hx hb dJ6_bitCount_0f7a4_25 rfl (lv_at hl 0 rfl) ?_
  refine lv_iconst (v := 4) hx hb dJ6_bitCount_0f7a4_26 (by decide) ?_
  refine lv_iushr hx hb dJ6_bitCount_0f7a4_27 rfl ?_
  refine lv_iadd hx hb dJ6_bitCount_0f7a4_28 ?_
  refine lv_ldcw (v := 252645135) hx hb hown (hts (.constant RJ6 267 (252645135)) (by decide +kernel)) dJ6_bitCount_0f7a4_29 ?_
  refine lv_iand hx hb dJ6_bitCount_0f7a4_32 ?_
  refine lv_istore_n (lv' := [(0, .int (((((a0 - ((((a0).toUInt32 >>> ((1 : Int32).toUInt32 &&& Int32.toUInt32 31)).toInt32) &&& 1431655765)) &&& 858993459) + ((((a0 - ((((a0).toUInt32 >>> ((1 : Int32).toUInt32 &&& Int32.toUInt32 31)).toInt32) &&& 1431655765)).toUInt32 >>> ((2 : Int32).toUInt32 &&& Int32.toUInt32 31)).toInt32) &&& 858993459)) + (((((a0 - ((((a0).toUInt32 >>> ((1 : Int32).toUInt32 &&& Int32.toUInt32 31)).toInt32) &&& 1431655765)) &&& 858993459) + ((((a0 - ((((a0).toUInt32 >>> ((1 : Int32).toUInt32 &&& Int32.toUInt32 31)).toInt32) &&& 1431655765)).toUInt32 >>> ((2 : Int32).toUInt32 &&& Int32.toUInt32 31)).toInt32) &&& 858993459)).toUInt32 >>> ((4 : Int32).toUInt32 &&& Int32.toUInt32 31)).toInt32)) &&& 252645135))]) hx hb dJ6_bitCount_0f7a4_33 rfl hl (by decide) rfl (fun ls hl => ?_)
  refine lv_iload_n hx hb dJ6_bitCount_0f7a4_34 rfl (lv_at hl 0 rfl) ?_
  refine lv_iload_n hx hb dJ6_bitCount_0f7a4_35 rfl (lv_at hl 0 rfl) ?_
  refine lv_bipush (v := 8) hx hb dJ6_bitCount_0f7a4_36 (by decide) ?_
  refine lv_iushr hx hb dJ6_bitCount_0f7a4_38 rfl ?_
  refine lv_iadd hx hb dJ6_bitCount_0f7a4_39 ?_
  refine lv_istore_n (lv' := [(0, .int ((((((a0 - ((((a0).toUInt32 >>> ((1 : Int32).toUInt32 &&& Int32.toUInt32 31)).toInt32) &&& 1431655765)) &&& 858993459) + ((((a0 - ((((a0).toUInt32 >>> ((1 : Int32).toUInt32 &&& Int32.toUInt32 31)).toInt32) &&& 1431655765)).toUInt32 >>> ((2 : Int32).toUInt32 &&& Int32.toUInt32 31)).toInt32) &&& 858993459)) + (((((a0 - ((((a0).toUInt32 >>> ((1 : Int32).toUInt32 &&& Int32.toUInt32 31)).toInt32) &&& 1431655765)) &&& 858993459) + ((((a0 - ((((a0).toUInt32 >>> ((1 : Int32).toUInt32 &&& Int32.toUInt32 31)).toInt32) &&& 1431655765)).toUInt32 >>> ((2 : Int32).toUInt32 &&& Int32.toUInt32 31)).toInt32) &&& 858993459)).toUInt32 >>> ((4 : Int32).toUInt32 &&& Int32.toUInt32 31)).toInt32)) &&& 252645135) + (((((((a0 - ((((a0).toUInt32 >>> ((1 : Int32).toUInt32 &&& Int32.toUInt32 31)).toInt32) &&& 1431655765)) &&& 858993459) + ((((a0 - ((((a0).toUInt32 >>> ((1 : Int32).toUInt32 &&& Int32.toUInt32 31)).toInt32) &&& 1431655765)).toUInt32 >>> ((2 : Int32).toUInt32 &&& Int32.toUInt32 31)).toInt32) &&& 858993459)) + (((((a0 - ((((a0).toUInt32 >>> ((1 : Int32).toUInt32 &&& Int32.toUInt32 31)).toInt32) &&& 1431655765)) &&& 858993459) + ((((a0 - ((((a0).toUInt32 >>> ((1 : Int32).toUInt32 &&& Int32.toUInt32 31)).toInt32) &&& 1431655765)).toUInt32 >>> ((2 : Int32).toUInt32 &&& Int32.toUInt32 31)).toInt32) &&& 858993459)).toUInt32 >>> ((4 : Int32).toUInt32 &&& Int32.toUInt32 31)).toInt32)) &&& 252645135).toUInt32 >>> ((8 : Int32).toUInt32 &&& Int32.toUInt32 31)).toInt32)))]) hx hb dJ6_bitCount_0f7a4_40 rfl hl (by decide) rfl (fun ls hl => ?_)
  refine lv_iload_n hx hb dJ6_bitCount_0f7a4_41 rfl (lv_at hl 0 rfl) ?_
  refine lv_iload_n hx hb dJ6_bitCount_0f7a4_42 rfl (lv_at hl 0 rfl) ?_
  refine lv_bipush (v := 16) hx hb dJ6_bitCount_0f7a4_43 (by decide) ?_
  refine lv_iushr hx hb dJ6_bitCount_0f7a4_45 rfl ?_
  refine lv_iadd hx hb dJ6_bitCount_0f7a4_46 ?_
  refine lv_istore_n (lv' := [(0, .int (((((((a0 - ((((a0).toUInt32 >>> ((1 : Int32).toUInt32 &&& Int32.toUInt32 31)).toInt32) &&& 1431655765)) &&& 858993459) + ((((a0 - ((((a0).toUInt32 >>> ((1 : Int32).toUInt32 &&& Int32.toUInt32 31)).toInt32) &&& 1431655765)).toUInt32 >>> ((2 : Int32).toUInt32 &&& Int32.toUInt32 31)).toInt32) &&& 858993459)) + (((((a0 - ((((a0).toUInt32 >>> ((1 : Int32).toUInt32 &&& Int32.toUInt32 31)).toInt32) &&& 1431655765)) &&& 858993459) + ((((a0 - ((((a0).toUInt32 >>> ((1 : Int32).toUInt32 &&& Int32.toUInt32 31)).toInt32) &&& 1431655765)).toUInt32 >>> ((2 : Int32).toUInt32 &&& Int32.toUInt32 31)).toInt32) &&& 858993459)).toUInt32 >>> ((4 : Int32).toUInt32 &&& Int32.toUInt32 31)).toInt32)) &&& 252645135) + (((((((a0 - ((((a0).toUInt32 >>> ((1 : Int32).toUInt32 &&& Int32.toUInt32 31)).toInt32) &&& 1431655765)) &&& 858993459) + ((((a0 - ((((a0).toUInt32 >>> ((1 : Int32).toUInt32 &&& Int32.toUInt32 31)).toInt32) &&& 1431655765)).toUInt32 >>> ((2 : Int32).toUInt32 &&& Int32.toUInt32 31)).toInt32) &&& 858993459)) + (((((a0 - ((((a0).toUInt32 >>> ((1 : Int32).toUInt32 &&& Int32.toUInt32 31)).toInt32) &&& 1431655765)) &&& 858993459) + ((((a0 - ((((a0).toUInt32 >>> ((1 : Int32).toUInt32 &&& Int32.toUInt32 31)).toInt32) &&& 1431655765)).toUInt32 >>> ((2 : Int32).toUInt32 &&& Int32.toUInt32 31)).toInt32) &&& 858993459)).toUInt32 >>> ((4 : Int32).toUInt32 &&& Int32.toUInt32 31)).toInt32)) &&& 252645135).toUInt32 >>> ((8 : Int32).toUInt32 &&& Int32.toUInt32 31)).toInt32)) + ((((((((a0 - ((((a0).toUInt32 >>> ((1 : Int32).toUInt32 &&& Int32.toUInt32 31)).toInt32) &&& 1431655765)) &&& 858993459) + ((((a0 - ((((a0).toUInt32 >>> ((1 : Int32).toUInt32 &&& Int32.toUInt32 31)).toInt32) &&& 1431655765)).toUInt32 >>> ((2 : Int32).toUInt32 &&& Int32.toUInt32 31)).toInt32) &&& 858993459)) + (((((a0 - ((((a0).toUInt32 >>> ((1 : Int32).toUInt32 &&& Int32.toUInt32 31)).toInt32) &&& 1431655765)) &&& 858993459) + ((((a0 - ((((a0).toUInt32 >>> ((1 : Int32).toUInt32 &&& Int32.toUInt32 31)).toInt32) &&& 1431655765)).toUInt32 >>> ((2 : Int32).toUInt32 &&& Int32.toUInt32 31)).toInt32) &&& 858993459)).toUInt32 >>> ((4 : Int32).toUInt32 &&& Int32.toUInt32 31)).toInt32)) &&& 252645135) + (((((((a0 - ((((a0).toUInt32 >>> ((1 : Int32).toUInt32 &&& Int32.toUInt32 31)).toInt32) &&& 1431655765)) &&& 858993459) + ((((a0 - ((((a0).toUInt32 >>> ((1 : Int32).toUInt32 &&& Int32.toUInt32 31)).toInt32) &&& 1431655765)).toUInt32 >>> ((2 : Int32).toUInt32 &&& Int32.toUInt32 31)).toInt32) &&& 858993459)) + (((((a0 - ((((a0).toUInt32 >>> ((1 : Int32).toUInt32 &&& Int32.toUInt32 31)).toInt32) &&& 1431655765)) &&& 858993459) + ((((a0 - ((((a0).toUInt32 >>> ((1 : Int32).toUInt32 &&& Int32.toUInt32 31)).toInt32) &&& 1431655765)).toUInt32 >>> ((2 : Int32).toUInt32 &&& Int32.toUInt32 31)).toInt32) &&& 858993459)).toUInt32 >>> ((4 : Int32).toUInt32 &&& Int32.toUInt32 31)).toInt32)) &&& 252645135).toUInt32 >>> ((8 : Int32).toUInt32 &&& Int32.toUInt32 31)).toInt32)).toUInt32 >>> ((16 : Int32).toUInt32 &&& Int32.toUInt32 31)).toInt32)))]) hx hb dJ6_bitCount_0f7a4_47 rfl hl (by decide) rfl (fun ls hl => ?_)
  refine lv_iload_n hx hb dJ6_bitCount_0f7a4_48 rfl (lv_at hl 0 rfl) ?_
  refine lv_bipush (v := 63) hx hb dJ6_bitCount_0f7a4_49 (by decide) ?_
  refine lv_iand hx hb dJ6_bitCount_0f7a4_51 ?_
  exact q_ri hx hb hr hlocks hS (Eq.symm (by rw [f_J6_bitCount_0f7a4])) dJ6_bitCount_0f7a4_52

def f_X5_isOffset (a0 : Int32) : Int32 :=
  (if a0 < (-512) then 0 else (if 512 ≤ a0 then 0 else 1))

set_option maxHeartbeats 4000000 in
set_option maxRecDepth 100000 in
theorem c_X5_isOffset (l : Launch) (D : va_G) (a0 : Int32) : q_roI l yX5_isOffset wsX5_isOffset ({ frames := 0, cells := 0, slots := 0, locals := 0 }) D [] [] [.int a0] (f_X5_isOffset a0) := by
  refine q_roI_of (cc := cX5_isOffset) (maxL := 1) (ret := (some .boolean)) (plainFor_of_name (by decide)) rfl (Nat.le_of_ble_eq_true rfl) ?_
  intro p e s m below meth c ls A hx hb hr hml hown hts hlocks hP hK hA hS hl
  have hown : s.vm.findClass RX5 = some m.cls := hown
  have hl : lv_has ls 1 [(0, .int a0)] := hl
  refine lv_iload_n hx hb dX5_isOffset_0 rfl (lv_at hl 0 rfl) ?_
  refine lv_sipush (v := -512) hx hb dX5_isOffset_1 (by decide) ?_
  refine lv_icmp_lt (tgt := 18) hx hb dX5_isOffset_4 (by decide) (fun c1 => ?_) (fun c1 => ?_)
  · refine lv_iconst (v := 0) hx hb dX5_isOffset_18 (by decide) ?_
    exact q_rz hx hb hr hlocks (rfl) hS (Eq.symm (by rw [f_X5_isOffset, if_pos c1])) dX5_isOffset_19
  · refine lv_iload_n hx hb dX5_isOffset_7 rfl (lv_at hl 0 rfl) ?_
    refine lv_sipush (v := 512) hx hb dX5_isOffset_8 (by decide) ?_
    refine lv_icmp_ge (tgt := 18) hx hb dX5_isOffset_11 (by decide) (fun c2 => ?_) (fun c2 => ?_)
    · refine lv_iconst (v := 0) hx hb dX5_isOffset_18 (by decide) ?_
      exact q_rz hx hb hr hlocks (rfl) hS (Eq.symm (by rw [f_X5_isOffset, if_neg c1, if_pos c2])) dX5_isOffset_19
    · refine lv_iconst (v := 1) hx hb dX5_isOffset_14 (by decide) ?_
      refine lv_goto (tgt := 19) hx hb dX5_isOffset_15 (by decide) ?_
      exact q_rz hx hb hr hlocks (rfl) hS (Eq.symm (by rw [f_X5_isOffset, if_neg c1, if_neg c2])) dX5_isOffset_19

def f_X5_of (a0 : Int32) (a1 : Int32) (a2 : Int32) (a3 : Int32) : Int64 :=
  ((((a0 + 512 : Int32).toInt64) ||| (((a1 + 512 : Int32).toInt64) <<< ((10 : Int32).toInt64 &&& 63))) ||| (((a2 + 512 : Int32).toInt64) <<< ((20 : Int32).toInt64 &&& 63))) ||| (((a3 : Int32).toInt64) <<< ((30 : Int32).toInt64 &&& 63))

set_option maxHeartbeats 4000000 in
set_option maxRecDepth 100000 in
theorem c_X5_of (l : Launch) (D : va_G) (a0 : Int32) (a1 : Int32) (a2 : Int32) (a3 : Int32) : q_roL l yX5_of wsX5_of ({ frames := 0, cells := 0, slots := 0, locals := 0 }) D [] [] [.int a0, .int a1, .int a2, .int a3] (f_X5_of a0 a1 a2 a3) := by
  refine q_roL_of (cc := cX5_of) (maxL := 4) (ret := (some .long)) (plainFor_of_name (by decide)) rfl (Nat.le_of_ble_eq_true rfl) ?_
  intro p e s m below meth c ls A hx hb hr hml hown hts hlocks hP hK hA hS hl
  have hown : s.vm.findClass RX5 = some m.cls := hown
  have hl : lv_has ls 4 [(0, .int a0), (1, .int a1), (2, .int a2), (3, .int a3)] := hl
  refine lv_iload_n hx hb dX5_of_0 rfl (lv_at hl 0 rfl) ?_
  refine lv_sipush (v := 512) hx hb dX5_of_1 (by decide) ?_
  refine lv_iadd hx hb dX5_of_4 ?_
  refine lv_i2l hx hb dX5_of_5 rfl ?_
  refine lv_iload_n hx hb dX5_of_6 rfl (lv_at hl 1 rfl) ?_
  refine lv_sipush (v := 512) hx hb dX5_of_7 (by decide) ?_
  refine lv_iadd hx hb dX5_of_10 ?_
  refine lv_i2l hx hb dX5_of_11 rfl ?_
  refine lv_bipush (v := 10) hx hb dX5_of_12 (by decide) ?_
  refine lv_lshl hx hb dX5_of_14 rfl ?_
  refine lv_lor hx hb dX5_of_15 ?_
  refine lv_iload_n hx hb dX5_of_16 rfl (lv_at hl 2 rfl) ?_
  refine lv_sipush (v := 512) hx hb dX5_of_17 (by decide) ?_
  refine lv_iadd hx hb dX5_of_20 ?_
  refine lv_i2l hx hb dX5_of_21 rfl ?_
  refine lv_bipush (v := 20) hx hb dX5_of_22 (by decide) ?_
  refine lv_lshl hx hb dX5_of_24 rfl ?_
  refine lv_lor hx hb dX5_of_25 ?_
  refine lv_iload_n hx hb dX5_of_26 rfl (lv_at hl 3 rfl) ?_
  refine lv_i2l hx hb dX5_of_27 rfl ?_
  refine lv_bipush (v := 30) hx hb dX5_of_28 (by decide) ?_
  refine lv_lshl hx hb dX5_of_30 rfl ?_
  refine lv_lor hx hb dX5_of_31 ?_
  exact q_rl hx hb hr hlocks hS (Eq.symm (by rw [f_X5_of])) dX5_of_32

def f_X5_offsetOf (a0 : Int64) (a1 : Int32) : Int32 :=
  (((((a0 : Int64).toUInt64 >>> ((a1 * 10 : Int32).toInt64.toUInt64 &&& Int64.toUInt64 63)).toInt64) &&& 1023 : Int64).toInt32) - 512

set_option maxHeartbeats 4000000 in
set_option maxRecDepth 100000 in
theorem c_X5_offsetOf (l : Launch) (D : va_G) (a0 : Int64) (a1 : Int32) : q_roI l yX5_offsetOf wsX5_offsetOf ({ frames := 0, cells := 0, slots := 0, locals := 0 }) D [] [] [.long a0, .int a1] (f_X5_offsetOf a0 a1) := by
  refine q_roI_of (cc := cX5_offsetOf) (maxL := 3) (ret := (some .int)) (plainFor_of_name (by decide)) rfl (Nat.le_of_ble_eq_true rfl) ?_
  intro p e s m below meth c ls A hx hb hr hml hown hts hlocks hP hK hA hS hl
  have hown : s.vm.findClass RX5 = some m.cls := hown
  have hl : lv_has ls 3 [(0, .long a0), (2, .int a1)] := hl
  refine lv_lload_n hx hb dX5_offsetOf_0 rfl (lv_at hl 0 rfl) ?_
  refine lv_iload_n hx hb dX5_offsetOf_1 rfl (lv_at hl 1 rfl) ?_
  refine lv_bipush (v := 10) hx hb dX5_offsetOf_2 (by decide) ?_
  refine lv_imul hx hb dX5_offsetOf_4 ?_
  refine lv_lushr hx hb dX5_offsetOf_5 rfl ?_
  refine lv_ldc2 (v := 1023) hx hb hown (hts (.constantLong RX5 9 (1023)) (by decide +kernel)) dX5_offsetOf_6 ?_
  refine lv_land hx hb dX5_offsetOf_9 ?_
  refine lv_l2i hx hb dX5_offsetOf_10 rfl ?_
  refine lv_sipush (v := 512) hx hb dX5_offsetOf_11 (by decide) ?_
  refine lv_isub hx hb dX5_offsetOf_14 ?_
  exact q_ri hx hb hr hlocks hS (Eq.symm (by rw [f_X5_offsetOf])) dX5_offsetOf_15

def f_X5_flagsOf (a0 : Int64) : Int32 :=
  ((((a0 : Int64).toUInt64 >>> ((30 : Int32).toInt64.toUInt64 &&& Int64.toUInt64 63)).toInt64 : Int64).toInt32) &&& 32767

set_option maxHeartbeats 4000000 in
set_option maxRecDepth 100000 in
theorem c_X5_flagsOf (l : Launch) (D : va_G) (a0 : Int64) : q_roI l yX5_flagsOf wsX5_flagsOf ({ frames := 0, cells := 0, slots := 0, locals := 0 }) D [] [] [.long a0] (f_X5_flagsOf a0) := by
  refine q_roI_of (cc := cX5_flagsOf) (maxL := 2) (ret := (some .int)) (plainFor_of_name (by decide)) rfl (Nat.le_of_ble_eq_true rfl) ?_
  intro p e s m below meth c ls A hx hb hr hml hown hts hlocks hP hK hA hS hl
  have hown : s.vm.findClass RX5 = some m.cls := hown
  have hl : lv_has ls 2 [(0, .long a0)] := hl
  refine lv_lload_n hx hb dX5_flagsOf_0 rfl (lv_at hl 0 rfl) ?_
  refine lv_bipush (v := 30) hx hb dX5_flagsOf_1 (by decide) ?_
  refine lv_lushr hx hb dX5_flagsOf_3 rfl ?_
  refine lv_l2i hx hb dX5_flagsOf_4 rfl ?_
  refine lv_sipush (v := 32767) hx hb dX5_flagsOf_5 (by decide) ?_
  refine lv_iand hx hb dX5_flagsOf_8 ?_
  exact q_ri hx hb hr hlocks hS (Eq.symm (by rw [f_X5_flagsOf])) dX5_flagsOf_9

def f_X5_sizeOf (a0 : Int64) : Int32 :=
  (if ((f_X5_flagsOf a0) &&& 4) = 0 then 1 else 2)

set_option maxHeartbeats 4000000 in
set_option maxRecDepth 100000 in
theorem c_X5_sizeOf (l : Launch) (D : va_G) (a0 : Int64) : q_roI l yX5_sizeOf wsX5_sizeOf ({ frames := 1, cells := 0, slots := 0, locals := 21 }) D [] [] [.long a0] (f_X5_sizeOf a0) := by
  refine q_roI_of (cc := cX5_sizeOf) (maxL := 2) (ret := (some .int)) (plainFor_of_name (by decide)) rfl (Nat.le_of_ble_eq_true rfl) ?_
  intro p e s m below meth c ls A hx hb hr hml hown hts hlocks hP hK hA hS hl
  have hown : s.vm.findClass RX5 = some m.cls := hown
  have hl : lv_has ls 2 [(0, .long a0)] := hl
  have hfix : CallFix p m c cX5_sizeOf 2 s [.long a0].toArray wsX5_sizeOf RX5 := ⟨hx, hb, hml, hown, hts⟩
  refine lv_lload_n hx hb dX5_sizeOf_0 rfl (lv_at hl 0 rfl) ?_
  refine q_callSi (As := [.long a0]) (rest := []) (c_X5_flagsOf l D a0) hfix (va_cwS 1 hts gX5_sizeOf_X5_flagsOf rfl rfl rfl (by decide +kernel) ⟨Nat.le_of_ble_eq_true rfl, Nat.le_of_ble_eq_true rfl⟩) rfl hl.1 rfl (Nat.le_of_ble_eq_true rfl) ⟨Nat.zero_le _, Nat.zero_le _⟩ hP hK hS hA [] [] rfl rfl dX5_sizeOf_1 (fun H locs hP hS => ?_)
  refine lv_iconst (v := 4) hx hb dX5_sizeOf_4 (by decide) ?_
  refine lv_iand hx hb dX5_sizeOf_5 ?_
  refine lv_if_eq (tgt := 13) hx hb dX5_sizeOf_6 (by decide) (fun c1 => ?_) (fun c1 => ?_)
  · refine lv_iconst (v := 1) hx hb dX5_sizeOf_13 (by decide) ?_
    exact q_ri hx hb hr hlocks hS (Eq.symm (by rw [f_X5_sizeOf, if_pos c1])) dX5_sizeOf_14
  · refine lv_iconst (v := 2) hx hb dX5_sizeOf_9 (by decide) ?_
    refine lv_goto (tgt := 14) hx hb dX5_sizeOf_10 (by decide) ?_
    exact q_ri hx hb hr hlocks hS (Eq.symm (by rw [f_X5_sizeOf, if_neg c1])) dX5_sizeOf_14

def f_X5_moreThanOne (a0 : Int32) : Int32 :=
  (if (f_J6_bitCount_0f7a4 a0) ≤ 1 then 0 else 1)

set_option maxHeartbeats 4000000 in
set_option maxRecDepth 100000 in
theorem c_X5_moreThanOne (l : Launch) (D : va_G) (a0 : Int32) : q_roI l yX5_moreThanOne wsX5_moreThanOne ({ frames := 1, cells := 0, slots := 0, locals := 20 }) D [] [] [.int a0] (f_X5_moreThanOne a0) := by
  refine q_roI_of (cc := cX5_moreThanOne) (maxL := 1) (ret := (some .boolean)) (plainFor_of_name (by decide)) rfl (Nat.le_of_ble_eq_true rfl) ?_
  intro p e s m below meth c ls A hx hb hr hml hown hts hlocks hP hK hA hS hl
  have hown : s.vm.findClass RX5 = some m.cls := hown
  have hl : lv_has ls 1 [(0, .int a0)] := hl
  have hfix : CallFix p m c cX5_moreThanOne 1 s [.int a0].toArray wsX5_moreThanOne RX5 := ⟨hx, hb, hml, hown, hts⟩
  refine lv_iload_n hx hb dX5_moreThanOne_0 rfl (lv_at hl 0 rfl) ?_
  refine q_callSi (As := [.int a0]) (rest := []) (c_J6_bitCount_0f7a4 l D a0) hfix (va_cwS 1 hts gX5_moreThanOne_J6_bitCount_0f7a4 rfl rfl rfl (by decide +kernel) ⟨Nat.le_of_ble_eq_true rfl, Nat.le_of_ble_eq_true rfl⟩) rfl hl.1 rfl (Nat.le_of_ble_eq_true rfl) ⟨Nat.zero_le _, Nat.zero_le _⟩ hP hK hS hA [] [] rfl rfl dX5_moreThanOne_1 (fun H locs hP hS => ?_)
  refine lv_iconst (v := 1) hx hb dX5_moreThanOne_4 (by decide) ?_
  refine lv_icmp_le (tgt := 12) hx hb dX5_moreThanOne_5 (by decide) (fun c1 => ?_) (fun c1 => ?_)
  · refine lv_iconst (v := 0) hx hb dX5_moreThanOne_12 (by decide) ?_
    exact q_rz hx hb hr hlocks (rfl) hS (Eq.symm (by rw [f_X5_moreThanOne, if_pos c1])) dX5_moreThanOne_13
  · refine lv_iconst (v := 1) hx hb dX5_moreThanOne_8 (by decide) ?_
    refine lv_goto (tgt := 13) hx hb dX5_moreThanOne_9 (by decide) ?_
    exact q_rz hx hb hr hlocks (rfl) hS (Eq.symm (by rw [f_X5_moreThanOne, if_neg c1])) dX5_moreThanOne_13

def f_X5_hasRivals (a0 : Int32) : Int32 :=
  (if (f_X5_moreThanOne (a0 &&& 28)) = 0 then (if (f_X5_moreThanOne (a0 &&& 96)) = 0 then (if (f_X5_moreThanOne (a0 &&& 896)) = 0 then (if (f_X5_moreThanOne (a0 &&& 3072)) = 0 then (if (f_X5_moreThanOne (a0 &&& 28672)) = 0 then 0 else 1) else 1) else 1) else 1) else 1)

set_option maxHeartbeats 4000000 in
set_option maxRecDepth 100000 in
theorem c_X5_hasRivals (l : Launch) (D : va_G) (a0 : Int32) : q_roI l yX5_hasRivals wsX5_hasRivals ({ frames := 2, cells := 0, slots := 0, locals := 40 }) D [] [] [.int a0] (f_X5_hasRivals a0) := by
  refine q_roI_of (cc := cX5_hasRivals) (maxL := 1) (ret := (some .boolean)) (plainFor_of_name (by decide)) rfl (Nat.le_of_ble_eq_true rfl) ?_
  intro p e s m below meth c ls A hx hb hr hml hown hts hlocks hP hK hA hS hl
  have hown : s.vm.findClass RX5 = some m.cls := hown
  have hl : lv_has ls 1 [(0, .int a0)] := hl
  have hfix : CallFix p m c cX5_hasRivals 1 s [.int a0].toArray wsX5_hasRivals RX5 := ⟨hx, hb, hml, hown, hts⟩
  refine lv_iload_n hx hb dX5_hasRivals_0 rfl (lv_at hl 0 rfl) ?_
  refine lv_bipush (v := 28) hx hb dX5_hasRivals_1 (by decide) ?_
  refine lv_iand hx hb dX5_hasRivals_3 ?_
  refine q_callSi (As := [.int (a0 &&& 28)]) (rest := []) (c_X5_moreThanOne l D (a0 &&& 28)) hfix (va_cwS 1 hts gX5_hasRivals_X5_moreThanOne rfl rfl rfl (by decide +kernel) ⟨Nat.le_of_ble_eq_true rfl, Nat.le_of_ble_eq_true rfl⟩) rfl hl.1 rfl (Nat.le_of_ble_eq_true rfl) ⟨Nat.zero_le _, Nat.zero_le _⟩ hP hK hS hA [] [] rfl rfl dX5_hasRivals_4 (fun H locs hP hS => ?_)
  refine lv_if_ne (tgt := 53) hx hb dX5_hasRivals_7 (by decide) (fun c1 => ?_) (fun c1 => ?_)
  · refine lv_iconst (v := 1) hx hb dX5_hasRivals_53 (by decide) ?_
    refine lv_goto (tgt := 58) hx hb dX5_hasRivals_54 (by decide) ?_
    exact q_rz hx hb hr hlocks (rfl) hS (Eq.symm (by rw [f_X5_hasRivals, if_neg c1])) dX5_hasRivals_58
  · refine lv_iload_n hx hb dX5_hasRivals_10 rfl (lv_at hl 0 rfl) ?_
    refine lv_bipush (v := 96) hx hb dX5_hasRivals_11 (by decide) ?_
    refine lv_iand hx hb dX5_hasRivals_13 ?_
    refine q_callSi (As := [.int (a0 &&& 96)]) (rest := []) (c_X5_moreThanOne l D (a0 &&& 96)) hfix (va_cwS 1 hts gX5_hasRivals_X5_moreThanOne rfl rfl rfl (by decide +kernel) ⟨Nat.le_of_ble_eq_true rfl, Nat.le_of_ble_eq_true rfl⟩) rfl hl.1 rfl (Nat.le_of_ble_eq_true rfl) ⟨Nat.zero_le _, Nat.zero_le _⟩ hP hK hS hA [] [] rfl rfl dX5_hasRivals_14 (fun H locs hP hS => ?_)
    refine lv_if_ne (tgt := 53) hx hb dX5_hasRivals_17 (by decide) (fun c2 => ?_) (fun c2 => ?_)
    · refine lv_iconst (v := 1) hx hb dX5_hasRivals_53 (by decide) ?_
      refine lv_goto (tgt := 58) hx hb dX5_hasRivals_54 (by decide) ?_
      exact q_rz hx hb hr hlocks (rfl) hS (Eq.symm (by rw [f_X5_hasRivals, if_pos c1, if_neg c2])) dX5_hasRivals_58
    · refine lv_iload_n hx hb dX5_hasRivals_20 rfl (lv_at hl 0 rfl) ?_
      refine lv_sipush (v := 896) hx hb dX5_hasRivals_21 (by decide) ?_
      refine lv_iand hx hb dX5_hasRivals_24 ?_
      refine q_callSi (As := [.int (a0 &&& 896)]) (rest := []) (c_X5_moreThanOne l D (a0 &&& 896)) hfix (va_cwS 1 hts gX5_hasRivals_X5_moreThanOne rfl rfl rfl (by decide +kernel) ⟨Nat.le_of_ble_eq_true rfl, Nat.le_of_ble_eq_true rfl⟩) rfl hl.1 rfl (Nat.le_of_ble_eq_true rfl) ⟨Nat.zero_le _, Nat.zero_le _⟩ hP hK hS hA [] [] rfl rfl dX5_hasRivals_25 (fun H locs hP hS => ?_)
      refine lv_if_ne (tgt := 53) hx hb dX5_hasRivals_28 (by decide) (fun c3 => ?_) (fun c3 => ?_)
      · refine lv_iconst (v := 1) hx hb dX5_hasRivals_53 (by decide) ?_
        refine lv_goto (tgt := 58) hx hb dX5_hasRivals_54 (by decide) ?_
        exact q_rz hx hb hr hlocks (rfl) hS (Eq.symm (by rw [f_X5_hasRivals, if_pos c1, if_pos c2, if_neg c3])) dX5_hasRivals_58
      · refine lv_iload_n hx hb dX5_hasRivals_31 rfl (lv_at hl 0 rfl) ?_
        refine lv_sipush (v := 3072) hx hb dX5_hasRivals_32 (by decide) ?_
        refine lv_iand hx hb dX5_hasRivals_35 ?_
        refine q_callSi (As := [.int (a0 &&& 3072)]) (rest := []) (c_X5_moreThanOne l D (a0 &&& 3072)) hfix (va_cwS 1 hts gX5_hasRivals_X5_moreThanOne rfl rfl rfl (by decide +kernel) ⟨Nat.le_of_ble_eq_true rfl, Nat.le_of_ble_eq_true rfl⟩) rfl hl.1 rfl (Nat.le_of_ble_eq_true rfl) ⟨Nat.zero_le _, Nat.zero_le _⟩ hP hK hS hA [] [] rfl rfl dX5_hasRivals_36 (fun H locs hP hS => ?_)
        refine lv_if_ne (tgt := 53) hx hb dX5_hasRivals_39 (by decide) (fun c4 => ?_) (fun c4 => ?_)
        · refine lv_iconst (v := 1) hx hb dX5_hasRivals_53 (by decide) ?_
          refine lv_goto (tgt := 58) hx hb dX5_hasRivals_54 (by decide) ?_
          exact q_rz hx hb hr hlocks (rfl) hS (Eq.symm (by rw [f_X5_hasRivals, if_pos c1, if_pos c2, if_pos c3, if_neg c4])) dX5_hasRivals_58
        · refine lv_iload_n hx hb dX5_hasRivals_42 rfl (lv_at hl 0 rfl) ?_
          refine lv_sipush (v := 28672) hx hb dX5_hasRivals_43 (by decide) ?_
          refine lv_iand hx hb dX5_hasRivals_46 ?_
          refine q_callSi (As := [.int (a0 &&& 28672)]) (rest := []) (c_X5_moreThanOne l D (a0 &&& 28672)) hfix (va_cwS 1 hts gX5_hasRivals_X5_moreThanOne rfl rfl rfl (by decide +kernel) ⟨Nat.le_of_ble_eq_true rfl, Nat.le_of_ble_eq_true rfl⟩) rfl hl.1 rfl (Nat.le_of_ble_eq_true rfl) ⟨Nat.zero_le _, Nat.zero_le _⟩ hP hK hS hA [] [] rfl rfl dX5_hasRivals_47 (fun H locs hP hS => ?_)
          refine lv_if_eq (tgt := 57) hx hb dX5_hasRivals_50 (by decide) (fun c5 => ?_) (fun c5 => ?_)
          · refine lv_iconst (v := 0) hx hb dX5_hasRivals_57 (by decide) ?_
            exact q_rz hx hb hr hlocks (rfl) hS (Eq.symm (by rw [f_X5_hasRivals, if_pos c1, if_pos c2, if_pos c3, if_pos c4, if_pos c5])) dX5_hasRivals_58
          · refine lv_iconst (v := 1) hx hb dX5_hasRivals_53 (by decide) ?_
            refine lv_goto (tgt := 58) hx hb dX5_hasRivals_54 (by decide) ?_
            exact q_rz hx hb hr hlocks (rfl) hS (Eq.symm (by rw [f_X5_hasRivals, if_pos c1, if_pos c2, if_pos c3, if_pos c4, if_neg c5])) dX5_hasRivals_58

def f_X5_hasClash_J27 (a0 : Int32) (t0_13 : Int32) (t0_27 : Int32) : Int32 :=
  (if (a0 &&& 512) = 0 then (if (a0 &&& 4096) = 0 then 0 else (if t0_27 = 0 then 0 else 1)) else (if t0_13 = 0 then (if (a0 &&& 4096) = 0 then 0 else (if t0_27 = 0 then 0 else 1)) else 1))

def f_X5_hasClash_J13 (a0 : Int32) (t0_13 : Int32) : Int32 :=
  (if (a0 &&& 3072) = 0 then (f_X5_hasClash_J27 a0 t0_13 0) else (f_X5_hasClash_J27 a0 t0_13 1))

def f_X5_hasClash (a0 : Int32) : Int32 :=
  (if (a0 &&& 29792) = 0 then (f_X5_hasClash_J13 a0 0) else (f_X5_hasClash_J13 a0 1))

set_option maxHeartbeats 4000000 in
set_option maxRecDepth 100000 in
theorem c_X5_hasClash (l : Launch) (D : va_G) (a0 : Int32) : q_roI l yX5_hasClash wsX5_hasClash ({ frames := 0, cells := 0, slots := 0, locals := 0 }) D [] [] [.int a0] (f_X5_hasClash a0) := by
  refine q_roI_of (cc := cX5_hasClash) (maxL := 3) (ret := (some .boolean)) (plainFor_of_name (by decide)) rfl (Nat.le_of_ble_eq_true rfl) ?_
  intro p e s m below meth c ls A hx hb hr hml hown hts hlocks hP hK hA hS hl
  have hown : s.vm.findClass RX5 = some m.cls := hown
  have hl : lv_has ls 3 [(0, .int a0)] := hl
  refine lv_iload_n hx hb dX5_hasClash_0 rfl (lv_at hl 0 rfl) ?_
  refine lv_sipush (v := 29792) hx hb dX5_hasClash_1 (by decide) ?_
  refine lv_iand hx hb dX5_hasClash_4 ?_
  have kJ13 : ∀ (t0_13 : Int32) (H : Heap) (locs : List Loc) (ls : Array Slot), (t0_13 = 0 ∨ t0_13 = 1) → (f_X5_hasClash a0) = (f_X5_hasClash_J13 a0 t0_13) → va_P D vwCl [] H → va_S A s.heap H locs → lv_has ls 3 [(0, .int a0)] → W p l e ({ frames := 0, cells := 0, slots := 0, locals := 0 }) s m [.int a0].toArray below meth c H locs 0 0 (MQ below (va_Qi (fun r (_ : Unit) => r = (f_X5_hasClash a0)) (fun _ _ => True) A) [.int a0].toArray s 0 0 A) (F0 m 13 ls [.int t0_13]) := by
    intro t0_13 H locs ls hb_t0_13 hJ13 hP hS hl
    refine lv_istore_n (lv' := [(1, .int t0_13), (0, .int a0)]) hx hb dX5_hasClash_13 rfl hl (by decide) rfl (fun ls hl => ?_)
    refine lv_iload_n hx hb dX5_hasClash_14 rfl (lv_at hl 1 rfl) ?_
    refine lv_sipush (v := 3072) hx hb dX5_hasClash_15 (by decide) ?_
    refine lv_iand hx hb dX5_hasClash_18 ?_
    have kJ27 : ∀ (t0_27 : Int32) (H : Heap) (locs : List Loc) (ls : Array Slot), (t0_27 = 0 ∨ t0_27 = 1) → (f_X5_hasClash a0) = (f_X5_hasClash_J27 a0 t0_13 t0_27) → va_P D vwCl [] H → va_S A s.heap H locs → lv_has ls 3 [(0, .int a0), (1, .int t0_13)] → W p l e ({ frames := 0, cells := 0, slots := 0, locals := 0 }) s m [.int a0].toArray below meth c H locs 0 0 (MQ below (va_Qi (fun r (_ : Unit) => r = (f_X5_hasClash a0)) (fun _ _ => True) A) [.int a0].toArray s 0 0 A) (F0 m 27 ls [.int t0_27]) := by
      intro t0_27 H locs ls hb_t0_27 hJ27 hP hS hl
      refine lv_istore_n (lv' := [(2, .int t0_27), (0, .int a0), (1, .int t0_13)]) hx hb dX5_hasClash_27 rfl hl (by decide) rfl (fun ls hl => ?_)
      refine lv_iload_n hx hb dX5_hasClash_28 rfl (lv_at hl 1 rfl) ?_
      refine lv_sipush (v := 512) hx hb dX5_hasClash_29 (by decide) ?_
      refine lv_iand hx hb dX5_hasClash_32 ?_
      refine lv_if_eq (tgt := 40) hx hb dX5_hasClash_33 (by decide) (fun c3 => ?_) (fun c3 => ?_)
      · refine lv_iload_n hx hb dX5_hasClash_40 rfl (lv_at hl 1 rfl) ?_
        refine lv_sipush (v := 4096) hx hb dX5_hasClash_41 (by decide) ?_
        refine lv_iand hx hb dX5_hasClash_44 ?_
        refine lv_if_eq (tgt := 56) hx hb dX5_hasClash_45 (by decide) (fun c4 => ?_) (fun c4 => ?_)
        · refine lv_iconst (v := 0) hx hb dX5_hasClash_56 (by decide) ?_
          exact q_rz hx hb hr hlocks (rfl) hS (Eq.symm (by rw [hJ27, f_X5_hasClash_J27, if_pos c3, if_pos c4])) dX5_hasClash_57
        · refine lv_iload_n hx hb dX5_hasClash_48 rfl (lv_at hl 0 rfl) ?_
          refine lv_if_eq (tgt := 56) hx hb dX5_hasClash_49 (by decide) (fun c5 => ?_) (fun c5 => ?_)
          · refine lv_iconst (v := 0) hx hb dX5_hasClash_56 (by decide) ?_
            exact q_rz hx hb hr hlocks (rfl) hS (Eq.symm (by rw [hJ27, f_X5_hasClash_J27, if_pos c3, if_neg c4, if_pos c5])) dX5_hasClash_57
          · refine lv_iconst (v := 1) hx hb dX5_hasClash_52 (by decide) ?_
            refine lv_goto (tgt := 57) hx hb dX5_hasClash_53 (by decide) ?_
            exact q_rz hx hb hr hlocks (rfl) hS (Eq.symm (by rw [hJ27, f_X5_hasClash_J27, if_pos c3, if_neg c4, if_neg c5])) dX5_hasClash_57
      · refine lv_iload_n hx hb dX5_hasClash_36 rfl (lv_at hl 2 rfl) ?_
        refine lv_if_ne (tgt := 52) hx hb dX5_hasClash_37 (by decide) (fun c6 => ?_) (fun c6 => ?_)
        · refine lv_iconst (v := 1) hx hb dX5_hasClash_52 (by decide) ?_
          refine lv_goto (tgt := 57) hx hb dX5_hasClash_53 (by decide) ?_
          exact q_rz hx hb hr hlocks (rfl) hS (Eq.symm (by rw [hJ27, f_X5_hasClash_J27, if_neg c3, if_neg c6])) dX5_hasClash_57
        · refine lv_iload_n hx hb dX5_hasClash_40 rfl (lv_at hl 1 rfl) ?_
          refine lv_sipush (v := 4096) hx hb dX5_hasClash_41 (by decide) ?_
          refine lv_iand hx hb dX5_hasClash_44 ?_
          refine lv_if_eq (tgt := 56) hx hb dX5_hasClash_45 (by decide) (fun c7 => ?_) (fun c7 => ?_)
          · refine lv_iconst (v := 0) hx hb dX5_hasClash_56 (by decide) ?_
            exact q_rz hx hb hr hlocks (rfl) hS (Eq.symm (by rw [hJ27, f_X5_hasClash_J27, if_neg c3, if_pos c6, if_pos c7])) dX5_hasClash_57
          · refine lv_iload_n hx hb dX5_hasClash_48 rfl (lv_at hl 0 rfl) ?_
            refine lv_if_eq (tgt := 56) hx hb dX5_hasClash_49 (by decide) (fun c8 => ?_) (fun c8 => ?_)
            · refine lv_iconst (v := 0) hx hb dX5_hasClash_56 (by decide) ?_
              exact q_rz hx hb hr hlocks (rfl) hS (Eq.symm (by rw [hJ27, f_X5_hasClash_J27, if_neg c3, if_pos c6, if_neg c7, if_pos c8])) dX5_hasClash_57
            · refine lv_iconst (v := 1) hx hb dX5_hasClash_52 (by decide) ?_
              refine lv_goto (tgt := 57) hx hb dX5_hasClash_53 (by decide) ?_
              exact q_rz hx hb hr hlocks (rfl) hS (Eq.symm (by rw [hJ27, f_X5_hasClash_J27, if_neg c3, if_pos c6, if_neg c7, if_neg c8])) dX5_hasClash_57
    refine lv_if_eq (tgt := 26) hx hb dX5_hasClash_19 (by decide) (fun c2 => ?_) (fun c2 => ?_)
    · refine lv_iconst (v := 0) hx hb dX5_hasClash_26 (by decide) ?_
      exact kJ27 0 _ _ _ (Or.inl rfl) (by rw [hJ13, f_X5_hasClash_J13, if_pos c2]) hP hS (lv_sub hl [1, 0] rfl)
    · refine lv_iconst (v := 1) hx hb dX5_hasClash_22 (by decide) ?_
      refine lv_goto (tgt := 27) hx hb dX5_hasClash_23 (by decide) ?_
      exact kJ27 1 _ _ _ (Or.inr rfl) (by rw [hJ13, f_X5_hasClash_J13, if_neg c2]) hP hS (lv_sub hl [1, 0] rfl)
  refine lv_if_eq (tgt := 12) hx hb dX5_hasClash_5 (by decide) (fun c1 => ?_) (fun c1 => ?_)
  · refine lv_iconst (v := 0) hx hb dX5_hasClash_12 (by decide) ?_
    exact kJ13 0 _ _ _ (Or.inl rfl) (by rw [f_X5_hasClash, if_pos c1]) hP hS (lv_sub hl [0] rfl)
  · refine lv_iconst (v := 1) hx hb dX5_hasClash_8 (by decide) ?_
    refine lv_goto (tgt := 13) hx hb dX5_hasClash_9 (by decide) ?_
    exact kJ13 1 _ _ _ (Or.inr rfl) (by rw [f_X5_hasClash, if_neg c1]) hP hS (lv_sub hl [0] rfl)

def f_X5_isInstruction_J41 (a0 : Int64) (t0_41 : Int32) : Int32 :=
  (if t0_41 = 0 then (if (f_X5_hasRivals (f_X5_flagsOf a0)) = 0 then (if (f_X5_hasClash (f_X5_flagsOf a0)) = 0 then 1 else 0) else 0) else 0)

def f_X5_isInstruction_J40 (a0 : Int64) : Int32 :=
  (f_X5_isInstruction_J41 a0 0)

def f_X5_isInstruction (a0 : Int64) : Int32 :=
  (if a0 < 0 then 0 else (if a0 < 35184372088832 then (if ((f_X5_flagsOf a0) &&& 4) = 0 then (f_X5_isInstruction_J40 a0) else (if (f_X5_offsetOf a0 2) = 1 then (f_X5_isInstruction_J40 a0) else (f_X5_isInstruction_J41 a0 1))) else 0))

set_option maxHeartbeats 4000000 in
set_option maxRecDepth 100000 in
theorem c_X5_isInstruction (l : Launch) (D : va_G) (a0 : Int64) : q_roI l yX5_isInstruction wsX5_isInstruction ({ frames := 3, cells := 0, slots := 0, locals := 60 }) D [] [] [.long a0] (f_X5_isInstruction a0) := by
  refine q_roI_of (cc := cX5_isInstruction) (maxL := 4) (ret := (some .boolean)) (plainFor_of_name (by decide)) rfl (Nat.le_of_ble_eq_true rfl) ?_
  intro p e s m below meth c ls A hx hb hr hml hown hts hlocks hP hK hA hS hl
  have hown : s.vm.findClass RX5 = some m.cls := hown
  have hl : lv_has ls 4 [(0, .long a0)] := hl
  have hfix : CallFix p m c cX5_isInstruction 4 s [.long a0].toArray wsX5_isInstruction RX5 := ⟨hx, hb, hml, hown, hts⟩
  refine lv_lload_n hx hb dX5_isInstruction_0 rfl (lv_at hl 0 rfl) ?_
  refine lv_lconst (v := 0) hx hb dX5_isInstruction_1 (by decide) ?_
  refine q_lt (tgt := 14) hx hb dX5_isInstruction_2 dX5_isInstruction_3 (by decide) (fun c1 => ?_) (fun c1 => ?_)
  · refine lv_iconst (v := 0) hx hb dX5_isInstruction_14 (by decide) ?_
    exact q_rz hx hb hr hlocks (rfl) hS (Eq.symm (by rw [f_X5_isInstruction, if_pos c1])) dX5_isInstruction_15
  · refine lv_lload_n hx hb dX5_isInstruction_6 rfl (lv_at hl 0 rfl) ?_
    refine lv_ldc2 (v := 35184372088832) hx hb hown (hts (.constantLong RX5 15 (35184372088832)) (by decide +kernel)) dX5_isInstruction_7 ?_
    refine q_lt (tgt := 16) hx hb dX5_isInstruction_10 dX5_isInstruction_11 (by decide) (fun c2 => ?_) (fun c2 => ?_)
    · refine lv_lload_n hx hb dX5_isInstruction_16 rfl (lv_at hl 0 rfl) ?_
      refine q_callSi (As := [.long a0]) (rest := []) (c_X5_flagsOf l D a0) hfix (va_cwS 1 hts gX5_isInstruction_X5_flagsOf rfl rfl rfl (by decide +kernel) ⟨Nat.le_of_ble_eq_true rfl, Nat.le_of_ble_eq_true rfl⟩) rfl hl.1 rfl (Nat.le_of_ble_eq_true rfl) ⟨Nat.zero_le _, Nat.zero_le _⟩ hP hK hS hA [] [] rfl rfl dX5_isInstruction_17 (fun H locs hP hS => ?_)
      refine lv_istore_n (lv' := [(2, .int (f_X5_flagsOf a0)), (0, .long a0)]) hx hb dX5_isInstruction_20 rfl hl (by decide) rfl (fun ls hl => ?_)
      refine lv_iload_n hx hb dX5_isInstruction_21 rfl (lv_at hl 0 rfl) ?_
      refine lv_iconst (v := 4) hx hb dX5_isInstruction_22 (by decide) ?_
      refine lv_iand hx hb dX5_isInstruction_23 ?_
      have kJ41 : ∀ (t0_41 : Int32) (H : Heap) (locs : List Loc) (ls : Array Slot), (t0_41 = 0 ∨ t0_41 = 1) → (f_X5_isInstruction a0) = (f_X5_isInstruction_J41 a0 t0_41) → va_P D vwCl [] H → va_S A s.heap H locs → lv_has ls 4 [(0, .long a0), (2, .int (f_X5_flagsOf a0))] → W p l e ({ frames := 3, cells := 0, slots := 0, locals := 60 }) s m [.long a0].toArray below meth c H locs 0 0 (MQ below (va_Qi (fun r (_ : Unit) => r = (f_X5_isInstruction a0)) (fun _ _ => True) A) [.long a0].toArray s 0 0 A) (F0 m 41 ls [.int t0_41]) := by
        intro t0_41 H locs ls hb_t0_41 hJ41 hP hS hl
        refine lv_istore_n (lv' := [(3, .int t0_41), (0, .long a0), (2, .int (f_X5_flagsOf a0))]) hx hb dX5_isInstruction_41 rfl hl (by decide) rfl (fun ls hl => ?_)
        refine lv_iload_n hx hb dX5_isInstruction_42 rfl (lv_at hl 0 rfl) ?_
        refine lv_if_ne (tgt := 64) hx hb dX5_isInstruction_43 (by decide) (fun c5 => ?_) (fun c5 => ?_)
        · refine lv_iconst (v := 0) hx hb dX5_isInstruction_64 (by decide) ?_
          exact q_rz hx hb hr hlocks (rfl) hS (Eq.symm (by rw [hJ41, f_X5_isInstruction_J41, if_neg c5])) dX5_isInstruction_65
        · refine lv_iload_n hx hb dX5_isInstruction_46 rfl (lv_at hl 2 rfl) ?_
          refine q_callSi (As := [.int (f_X5_flagsOf a0)]) (rest := []) (c_X5_hasRivals l D (f_X5_flagsOf a0)) hfix (va_cwS 1 hts gX5_isInstruction_X5_hasRivals rfl rfl rfl (by decide +kernel) ⟨Nat.le_of_ble_eq_true rfl, Nat.le_of_ble_eq_true rfl⟩) rfl hl.1 rfl (Nat.le_of_ble_eq_true rfl) ⟨Nat.zero_le _, Nat.zero_le _⟩ hP hK hS hA [] [] rfl rfl dX5_isInstruction_47 (fun H locs hP hS => ?_)
          refine lv_if_ne (tgt := 64) hx hb dX5_isInstruction_50 (by decide) (fun c6 => ?_) (fun c6 => ?_)
          · refine lv_iconst (v := 0) hx hb dX5_isInstruction_64 (by decide) ?_
            exact q_rz hx hb hr hlocks (rfl) hS (Eq.symm (by rw [hJ41, f_X5_isInstruction_J41, if_pos c5, if_neg c6])) dX5_isInstruction_65
          · refine lv_iload_n hx hb dX5_isInstruction_53 rfl (lv_at hl 2 rfl) ?_
            refine q_callSi (As := [.int (f_X5_flagsOf a0)]) (rest := []) (c_X5_hasClash l D (f_X5_flagsOf a0)) hfix (va_cwS 1 hts gX5_isInstruction_X5_hasClash rfl rfl rfl (by decide +kernel) ⟨Nat.le_of_ble_eq_true rfl, Nat.le_of_ble_eq_true rfl⟩) rfl hl.1 rfl (Nat.le_of_ble_eq_true rfl) ⟨Nat.zero_le _, Nat.zero_le _⟩ hP hK hS hA [] [] rfl rfl dX5_isInstruction_54 (fun H locs hP hS => ?_)
            refine lv_if_ne (tgt := 64) hx hb dX5_isInstruction_57 (by decide) (fun c7 => ?_) (fun c7 => ?_)
            · refine lv_iconst (v := 0) hx hb dX5_isInstruction_64 (by decide) ?_
              exact q_rz hx hb hr hlocks (rfl) hS (Eq.symm (by rw [hJ41, f_X5_isInstruction_J41, if_pos c5, if_pos c6, if_neg c7])) dX5_isInstruction_65
            · refine lv_iconst (v := 1) hx hb dX5_isInstruction_60 (by decide) ?_
              refine lv_goto (tgt := 65) hx hb dX5_isInstruction_61 (by decide) ?_
              exact q_rz hx hb hr hlocks (rfl) hS (Eq.symm (by rw [hJ41, f_X5_isInstruction_J41, if_pos c5, if_pos c6, if_pos c7])) dX5_isInstruction_65
      have kJ40 : ∀ (H : Heap) (locs : List Loc) (ls : Array Slot), (f_X5_isInstruction a0) = (f_X5_isInstruction_J40 a0) → va_P D vwCl [] H → va_S A s.heap H locs → lv_has ls 4 [(0, .long a0), (2, .int (f_X5_flagsOf a0))] → W p l e ({ frames := 3, cells := 0, slots := 0, locals := 60 }) s m [.long a0].toArray below meth c H locs 0 0 (MQ below (va_Qi (fun r (_ : Unit) => r = (f_X5_isInstruction a0)) (fun _ _ => True) A) [.long a0].toArray s 0 0 A) (F0 m 40 ls []) := by
        intro H locs ls hJ40 hP hS hl
        refine lv_iconst (v := 0) hx hb dX5_isInstruction_40 (by decide) ?_
        exact kJ41 0 _ _ _ (Or.inl rfl) (by rw [hJ40, f_X5_isInstruction_J40]) hP hS (lv_sub hl [0, 1] rfl)
      refine lv_if_eq (tgt := 40) hx hb dX5_isInstruction_24 (by decide) (fun c3 => ?_) (fun c3 => ?_)
      · exact kJ40 _ _ _ (by rw [f_X5_isInstruction, if_neg c1, if_pos c2, if_pos c3]) hP hS (lv_sub hl [1, 0] rfl)
      · refine lv_lload_n hx hb dX5_isInstruction_27 rfl (lv_at hl 1 rfl) ?_
        refine lv_iconst (v := 2) hx hb dX5_isInstruction_28 (by decide) ?_
        refine q_callSi (As := [.long a0, .int 2]) (rest := []) (c_X5_offsetOf l D a0 2) hfix (va_cwS 2 hts gX5_isInstruction_X5_offsetOf rfl rfl rfl (by decide +kernel) ⟨Nat.le_of_ble_eq_true rfl, Nat.le_of_ble_eq_true rfl⟩) rfl hl.1 rfl (Nat.le_of_ble_eq_true rfl) ⟨Nat.zero_le _, Nat.zero_le _⟩ hP hK hS hA [] [] rfl rfl dX5_isInstruction_29 (fun H locs hP hS => ?_)
        refine lv_iconst (v := 1) hx hb dX5_isInstruction_32 (by decide) ?_
        refine lv_icmp_eq (tgt := 40) hx hb dX5_isInstruction_33 (by decide) (fun c4 => ?_) (fun c4 => ?_)
        · exact kJ40 _ _ _ (by rw [f_X5_isInstruction, if_neg c1, if_pos c2, if_neg c3, if_pos c4]) hP hS (lv_sub hl [1, 0] rfl)
        · refine lv_iconst (v := 1) hx hb dX5_isInstruction_36 (by decide) ?_
          refine lv_goto (tgt := 41) hx hb dX5_isInstruction_37 (by decide) ?_
          exact kJ41 1 _ _ _ (Or.inr rfl) (by rw [f_X5_isInstruction, if_neg c1, if_pos c2, if_neg c3, if_neg c4]) hP hS (lv_sub hl [1, 0] rfl)
    · refine lv_iconst (v := 0) hx hb dX5_isInstruction_14 (by decide) ?_
      exact q_rz hx hb hr hlocks (rfl) hS (Eq.symm (by rw [f_X5_isInstruction, if_neg c1, if_neg c2])) dX5_isInstruction_15

