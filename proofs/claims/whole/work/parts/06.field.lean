def f_J9_floorMod_f86c9 (a0 : Int64) (a1 : Int64) : Int64 :=
  (if 0 ≤ (a0 ^^^ a1) then a0 - a0 / a1 * a1 else (if (a0 - a0 / a1 * a1) = 0 then a0 - a0 / a1 * a1 else (a0 - a0 / a1 * a1) + a1))

set_option maxHeartbeats 4000000 in
set_option maxRecDepth 100000 in
theorem c_J9_floorMod_f86c9 (l : Launch) (D : va_G) (a0 : Int64) (a1 : Int64) (hne : ¬ a1 = 0) : q_roL l yJ9_floorMod_f86c9 wsJ9_floorMod_f86c9 ({ frames := 0, cells := 0, slots := 0, locals := 0 }) D [] [] [.long a0, .long a1] (f_J9_floorMod_f86c9 a0 a1) := by
  refine q_roL_of (cc := cJ9_floorMod_f86c9) (maxL := 6) (ret := (some .long)) (by decide +kernel) rfl (Nat.le_of_ble_eq_true rfl) ?_
  intro p e s m below meth c ls A hx hb hr hml hown hts hlocks hP hK hA hS hl
  have hown : s.vm.findClass RJ9 = some m.cls := hown
  have hl : lv_has ls 6 [(0, .long a0), (2, .long a1)] := hl
  refine lv_lload_n hx hb dJ9_floorMod_f86c9_0 rfl (lv_at hl 0 rfl) ?_
  refine lv_lload_n hx hb dJ9_floorMod_f86c9_1 rfl (lv_at hl 1 rfl) ?_
  refine lv_lrem hx hb dJ9_floorMod_f86c9_2 (hne) ?_
  refine lv_lstore (lv' := [(4, .long (a0 - a0 / a1 * a1)), (0, .long a0), (2, .long a1)]) hx hb dJ9_floorMod_f86c9_3 hl (by decide) rfl (fun ls hl => ?_)
  refine lv_lload_n hx hb dJ9_floorMod_f86c9_5 rfl (lv_at hl 1 rfl) ?_
  refine lv_lload_n hx hb dJ9_floorMod_f86c9_6 rfl (lv_at hl 2 rfl) ?_
  refine lv_lxor hx hb dJ9_floorMod_f86c9_7 ?_
  refine lv_lconst (v := 0) hx hb dJ9_floorMod_f86c9_8 (by decide) ?_
  refine q_ge (tgt := 25) hx hb dJ9_floorMod_f86c9_9 dJ9_floorMod_f86c9_10 (by decide) (fun c1 => ?_) (fun c1 => ?_)
  · refine lv_lload hx hb dJ9_floorMod_f86c9_25 (lv_at hl 0 rfl) ?_
    exact q_rl hx hb hr hlocks hS (Eq.symm (by rw [f_J9_floorMod_f86c9, if_pos c1])) dJ9_floorMod_f86c9_27
  · refine lv_lload hx hb dJ9_floorMod_f86c9_13 (lv_at hl 0 rfl) ?_
    refine lv_lconst (v := 0) hx hb dJ9_floorMod_f86c9_15 (by decide) ?_
    refine q_eq (tgt := 25) hx hb dJ9_floorMod_f86c9_16 dJ9_floorMod_f86c9_17 (by decide) (fun c2 => ?_) (fun c2 => ?_)
    · refine lv_lload hx hb dJ9_floorMod_f86c9_25 (lv_at hl 0 rfl) ?_
      exact q_rl hx hb hr hlocks hS (Eq.symm (by rw [f_J9_floorMod_f86c9, if_neg c1, if_pos c2])) dJ9_floorMod_f86c9_27
    · refine lv_lload hx hb dJ9_floorMod_f86c9_20 (lv_at hl 0 rfl) ?_
      refine lv_lload_n hx hb dJ9_floorMod_f86c9_22 rfl (lv_at hl 2 rfl) ?_
      refine lv_ladd hx hb dJ9_floorMod_f86c9_23 ?_
      exact q_rl hx hb hr hlocks hS (Eq.symm (by rw [f_J9_floorMod_f86c9, if_neg c1, if_neg c2])) dJ9_floorMod_f86c9_24

def f_X0_reduce (a0 : Int64) : Int64 :=
  (f_J9_floorMod_f86c9 a0 2305843009213693951)

set_option maxHeartbeats 4000000 in
set_option maxRecDepth 100000 in
theorem c_X0_reduce (l : Launch) (D : va_G) (a0 : Int64) : q_roL l yX0_reduce wsX0_reduce ({ frames := 1, cells := 0, slots := 0, locals := 25 }) D [] [] [.long a0] (f_X0_reduce a0) := by
  refine q_roL_of (cc := cX0_reduce) (maxL := 2) (ret := (some .long)) (plainFor_of_name (by decide)) rfl (Nat.le_of_ble_eq_true rfl) ?_
  intro p e s m below meth c ls A hx hb hr hml hown hts hlocks hP hK hA hS hl
  have hown : s.vm.findClass RX0 = some m.cls := hown
  have hl : lv_has ls 2 [(0, .long a0)] := hl
  have hfix : CallFix p m c cX0_reduce 2 s [.long a0].toArray wsX0_reduce RX0 := ⟨hx, hb, hml, hown, hts⟩
  refine lv_lload_n hx hb dX0_reduce_0 rfl (lv_at hl 0 rfl) ?_
  refine lv_ldc2 (v := 2305843009213693951) hx hb hown (hts (.constantLong RX0 9 (2305843009213693951)) (by decide +kernel)) dX0_reduce_1 ?_
  refine q_callSl (As := [.long a0, .long 2305843009213693951]) (rest := []) (c_J9_floorMod_f86c9 l D a0 2305843009213693951 (by decide)) hfix (va_cwS 2 hts gX0_reduce_J9_floorMod_f86c9 rfl rfl rfl (by decide +kernel) ⟨Nat.le_of_ble_eq_true rfl, Nat.le_of_ble_eq_true rfl⟩) rfl hl.1 rfl (Nat.le_of_ble_eq_true rfl) ⟨Nat.zero_le _, Nat.zero_le _⟩ hP hK hS hA [] [] rfl rfl dX0_reduce_4 (fun H locs hP hS => ?_)
  exact q_rl hx hb hr hlocks hS (Eq.symm (by rw [f_X0_reduce])) dX0_reduce_7

def f_X0_sum (a0 : Int64) (a1 : Int64) : Int64 :=
  (a0 + a1) - (a0 + a1) / 2305843009213693951 * 2305843009213693951

set_option maxHeartbeats 4000000 in
set_option maxRecDepth 100000 in
theorem c_X0_sum (l : Launch) (D : va_G) (a0 : Int64) (a1 : Int64) : q_roL l yX0_sum wsX0_sum ({ frames := 0, cells := 0, slots := 0, locals := 0 }) D [] [] [.long a0, .long a1] (f_X0_sum a0 a1) := by
  refine q_roL_of (cc := cX0_sum) (maxL := 4) (ret := (some .long)) (plainFor_of_name (by decide)) rfl (Nat.le_of_ble_eq_true rfl) ?_
  intro p e s m below meth c ls A hx hb hr hml hown hts hlocks hP hK hA hS hl
  have hown : s.vm.findClass RX0 = some m.cls := hown
  have hl : lv_has ls 4 [(0, .long a0), (2, .long a1)] := hl
  refine lv_lload_n hx hb dX0_sum_0 rfl (lv_at hl 0 rfl) ?_
  refine lv_lload_n hx hb dX0_sum_1 rfl (lv_at hl 1 rfl) ?_
  refine lv_ladd hx hb dX0_sum_2 ?_
  refine lv_ldc2 (v := 2305843009213693951) hx hb hown (hts (.constantLong RX0 9 (2305843009213693951)) (by decide +kernel)) dX0_sum_3 ?_
  refine lv_lrem hx hb dX0_sum_6 (by decide) ?_
  exact q_rl hx hb hr hlocks hS (Eq.symm (by rw [f_X0_sum])) dX0_sum_7

def f_X0_difference (a0 : Int64) (a1 : Int64) : Int64 :=
  ((a0 - a1) + 2305843009213693951) - ((a0 - a1) + 2305843009213693951) / 2305843009213693951 * 2305843009213693951

set_option maxHeartbeats 4000000 in
set_option maxRecDepth 100000 in
theorem c_X0_difference (l : Launch) (D : va_G) (a0 : Int64) (a1 : Int64) : q_roL l yX0_difference wsX0_difference ({ frames := 0, cells := 0, slots := 0, locals := 0 }) D [] [] [.long a0, .long a1] (f_X0_difference a0 a1) := by
  refine q_roL_of (cc := cX0_difference) (maxL := 4) (ret := (some .long)) (plainFor_of_name (by decide)) rfl (Nat.le_of_ble_eq_true rfl) ?_
  intro p e s m below meth c ls A hx hb hr hml hown hts hlocks hP hK hA hS hl
  have hown : s.vm.findClass RX0 = some m.cls := hown
  have hl : lv_has ls 4 [(0, .long a0), (2, .long a1)] := hl
  refine lv_lload_n hx hb dX0_difference_0 rfl (lv_at hl 0 rfl) ?_
  refine lv_lload_n hx hb dX0_difference_1 rfl (lv_at hl 1 rfl) ?_
  refine lv_lsub hx hb dX0_difference_2 ?_
  refine lv_ldc2 (v := 2305843009213693951) hx hb hown (hts (.constantLong RX0 9 (2305843009213693951)) (by decide +kernel)) dX0_difference_3 ?_
  refine lv_ladd hx hb dX0_difference_6 ?_
  refine lv_ldc2 (v := 2305843009213693951) hx hb hown (hts (.constantLong RX0 9 (2305843009213693951)) (by decide +kernel)) dX0_difference_7 ?_
  refine lv_lrem hx hb dX0_difference_10 (by decide) ?_
  exact q_rl hx hb hr hlocks hS (Eq.symm (by rw [f_X0_difference])) dX0_difference_11

def f_X0_product (a0 : Int64) (a1 : Int64) : Int64 :=
  (f_X0_sum (f_X0_sum ((2 * ((((a0 : Int64).toUInt64 >>> ((31 : Int32).toInt64.toUInt64 &&& Int64.toUInt64 63)).toInt64) * (((a1 : Int64).toUInt64 >>> ((31 : Int32).toInt64.toUInt64 &&& Int64.toUInt64 63)).toInt64))) - (2 * ((((a0 : Int64).toUInt64 >>> ((31 : Int32).toInt64.toUInt64 &&& Int64.toUInt64 63)).toInt64) * (((a1 : Int64).toUInt64 >>> ((31 : Int32).toInt64.toUInt64 &&& Int64.toUInt64 63)).toInt64))) / 2305843009213693951 * 2305843009213693951) ((((((((a0 : Int64).toUInt64 >>> ((31 : Int32).toInt64.toUInt64 &&& Int64.toUInt64 63)).toInt64) * (a1 &&& 2147483647)) + ((a0 &&& 2147483647) * (((a1 : Int64).toUInt64 >>> ((31 : Int32).toInt64.toUInt64 &&& Int64.toUInt64 63)).toInt64))) &&& 1073741823) <<< ((31 : Int32).toInt64 &&& 63)) - (((((((a0 : Int64).toUInt64 >>> ((31 : Int32).toInt64.toUInt64 &&& Int64.toUInt64 63)).toInt64) * (a1 &&& 2147483647)) + ((a0 &&& 2147483647) * (((a1 : Int64).toUInt64 >>> ((31 : Int32).toInt64.toUInt64 &&& Int64.toUInt64 63)).toInt64))) &&& 1073741823) <<< ((31 : Int32).toInt64 &&& 63)) / 2305843009213693951 * 2305843009213693951)) (f_X0_sum (((a0 &&& 2147483647) * (a1 &&& 2147483647)) - ((a0 &&& 2147483647) * (a1 &&& 2147483647)) / 2305843009213693951 * 2305843009213693951) (((((((a0 : Int64).toUInt64 >>> ((31 : Int32).toInt64.toUInt64 &&& Int64.toUInt64 63)).toInt64) * (a1 &&& 2147483647)) + ((a0 &&& 2147483647) * (((a1 : Int64).toUInt64 >>> ((31 : Int32).toInt64.toUInt64 &&& Int64.toUInt64 63)).toInt64)) : Int64).toUInt64 >>> ((30 : Int32).toInt64.toUInt64 &&& Int64.toUInt64 63)).toInt64)))

set_option maxHeartbeats 4000000 in
set_option maxRecDepth 100000 in
theorem c_X0_product (l : Launch) (D : va_G) (a0 : Int64) (a1 : Int64) : q_roL l yX0_product wsX0_product ({ frames := 1, cells := 0, slots := 0, locals := 23 }) D [] [] [.long a0, .long a1] (f_X0_product a0 a1) := by
  refine q_roL_of (cc := cX0_product) (maxL := 22) (ret := (some .long)) (plainFor_of_name (by decide)) rfl (Nat.le_of_ble_eq_true rfl) ?_
  intro p e s m below meth c ls A hx hb hr hml hown hts hlocks hP hK hA hS hl
  have hown : s.vm.findClass RX0 = some m.cls := hown
  have hl : lv_has ls 22 [(0, .long a0), (2, .long a1)] := hl
  have hfix : CallFix p m c cX0_product 22 s [.long a0, .long a1].toArray wsX0_product RX0 := ⟨hx, hb, hml, hown, hts⟩
  refine lv_lload_n hx hb dX0_product_0 rfl (lv_at hl 0 rfl) ?_
  refine lv_bipush (v := 31) hx hb dX0_product_1 (by decide) ?_
  refine lv_lushr hx hb dX0_product_3 rfl ?_
  refine lv_lstore (lv' := [(4, .long (((a0 : Int64).toUInt64 >>> ((31 : Int32).toInt64.toUInt64 &&& Int64.toUInt64 63)).toInt64)), (0, .long a0), (2, .long a1)]) hx hb dX0_product_4 hl (by decide) rfl (fun ls hl => ?_)
  refine lv_lload_n hx hb dX0_product_6 rfl (lv_at hl 1 rfl) ?_
  refine lv_ldc2 (v := 2147483647) hx hb hown (hts (.constantLong RX0 17 (2147483647)) (by decide +kernel)) dX0_product_7 ?_
  refine lv_land hx hb dX0_product_10 ?_
  refine lv_lstore (lv' := [(6, .long (a0 &&& 2147483647)), (4, .long (((a0 : Int64).toUInt64 >>> ((31 : Int32).toInt64.toUInt64 &&& Int64.toUInt64 63)).toInt64)), (0, .long a0), (2, .long a1)]) hx hb dX0_product_11 hl (by decide) rfl (fun ls hl => ?_)
  refine lv_lload_n hx hb dX0_product_13 rfl (lv_at hl 3 rfl) ?_
  refine lv_bipush (v := 31) hx hb dX0_product_14 (by decide) ?_
  refine lv_lushr hx hb dX0_product_16 rfl ?_
  refine lv_lstore (lv' := [(8, .long (((a1 : Int64).toUInt64 >>> ((31 : Int32).toInt64.toUInt64 &&& Int64.toUInt64 63)).toInt64)), (6, .long (a0 &&& 2147483647)), (4, .long (((a0 : Int64).toUInt64 >>> ((31 : Int32).toInt64.toUInt64 &&& Int64.toUInt64 63)).toInt64)), (0, .long a0), (2, .long a1)]) hx hb dX0_product_17 hl (by decide) rfl (fun ls hl => ?_)
  refine lv_lload_n hx hb dX0_product_19 rfl (lv_at hl 4 rfl) ?_
  refine lv_ldc2 (v := 2147483647) hx hb hown (hts (.constantLong RX0 17 (2147483647)) (by decide +kernel)) dX0_product_20 ?_
  refine lv_land hx hb dX0_product_23 ?_
  refine lv_lstore (lv' := [(10, .long (a1 &&& 2147483647)), (8, .long (((a1 : Int64).toUInt64 >>> ((31 : Int32).toInt64.toUInt64 &&& Int64.toUInt64 63)).toInt64)), (6, .long (a0 &&& 2147483647)), (4, .long (((a0 : Int64).toUInt64 >>> ((31 : Int32).toInt64.toUInt64 &&& Int64.toUInt64 63)).toInt64)), (0, .long a0), (2, .long a1)]) hx hb dX0_product_24 hl (by decide) rfl (fun ls hl => ?_)
  refine lv_ldc2 (v := 2) hx hb hown (hts (.constantLong RX0 19 (2)) (by decide +kernel)) dX0_product_26 ?_
  refine lv_lload hx hb dX0_product_29 (lv_at hl 3 rfl) ?_
  refine lv_lload hx hb dX0_product_31 (lv_at hl 1 rfl) ?_
  refine lv_lmul hx hb dX0_product_33 ?_
  refine lv_lmul hx hb dX0_product_34 ?_
  refine lv_ldc2 (v := 2305843009213693951) hx hb hown (hts (.constantLong RX0 9 (2305843009213693951)) (by decide +kernel)) dX0_product_35 ?_
  refine lv_lrem hx hb dX0_product_38 (by decide) ?_
  refine lv_lstore (lv' := [(12, .long ((2 * ((((a0 : Int64).toUInt64 >>> ((31 : Int32).toInt64.toUInt64 &&& Int64.toUInt64 63)).toInt64) * (((a1 : Int64).toUInt64 >>> ((31 : Int32).toInt64.toUInt64 &&& Int64.toUInt64 63)).toInt64))) - (2 * ((((a0 : Int64).toUInt64 >>> ((31 : Int32).toInt64.toUInt64 &&& Int64.toUInt64 63)).toInt64) * (((a1 : Int64).toUInt64 >>> ((31 : Int32).toInt64.toUInt64 &&& Int64.toUInt64 63)).toInt64))) / 2305843009213693951 * 2305843009213693951)), (10, .long (a1 &&& 2147483647)), (8, .long (((a1 : Int64).toUInt64 >>> ((31 : Int32).toInt64.toUInt64 &&& Int64.toUInt64 63)).toInt64)), (6, .long (a0 &&& 2147483647)), (4, .long (((a0 : Int64).toUInt64 >>> ((31 : Int32).toInt64.toUInt64 &&& Int64.toUInt64 63)).toInt64)), (0, .long a0), (2, .long a1)]) hx hb dX0_product_39 hl (by decide) rfl (fun ls hl => ?_)
  refine lv_lload hx hb dX0_product_41 (lv_at hl 4 rfl) ?_
  refine lv_lload hx hb dX0_product_43 (lv_at hl 1 rfl) ?_
  refine lv_lmul hx hb dX0_product_45 ?_
  refine lv_lload hx hb dX0_product_46 (lv_at hl 3 rfl) ?_
  refine lv_lload hx hb dX0_product_48 (lv_at hl 2 rfl) ?_
  refine lv_lmul hx hb dX0_product_50 ?_
  refine lv_ladd hx hb dX0_product_51 ?_
  refine lv_lstore (lv' := [(14, .long (((((a0 : Int64).toUInt64 >>> ((31 : Int32).toInt64.toUInt64 &&& Int64.toUInt64 63)).toInt64) * (a1 &&& 2147483647)) + ((a0 &&& 2147483647) * (((a1 : Int64).toUInt64 >>> ((31 : Int32).toInt64.toUInt64 &&& Int64.toUInt64 63)).toInt64)))), (12, .long ((2 * ((((a0 : Int64).toUInt64 >>> ((31 : Int32).toInt64.toUInt64 &&& Int64.toUInt64 63)).toInt64) * (((a1 : Int64).toUInt64 >>> ((31 : Int32).toInt64.toUInt64 &&& Int64.toUInt64 63)).toInt64))) - (2 * ((((a0 : Int64).toUInt64 >>> ((31 : Int32).toInt64.toUInt64 &&& Int64.toUInt64 63)).toInt64) * (((a1 : Int64).toUInt64 >>> ((31 : Int32).toInt64.toUInt64 &&& Int64.toUInt64 63)).toInt64))) / 2305843009213693951 * 2305843009213693951)), (10, .long (a1 &&& 2147483647)), (8, .long (((a1 : Int64).toUInt64 >>> ((31 : Int32).toInt64.toUInt64 &&& Int64.toUInt64 63)).toInt64)), (6, .long (a0 &&& 2147483647)), (4, .long (((a0 : Int64).toUInt64 >>> ((31 : Int32).toInt64.toUInt64 &&& Int64.toUInt64 63)).toInt64)), (0, .long a0), (2, .long a1)]) hx hb dX0_product_52 hl (by decide) rfl (fun ls hl => ?_)
  refine lv_lload hx hb dX0_product_54 (lv_at hl 0 rfl) ?_
  refine lv_bipush (v := 30) hx hb dX0_product_56 (by decide) ?_
  refine lv_lushr hx hb dX0_product_58 rfl ?_
  refine lv_lstore (lv' := [(16, .long (((((((a0 : Int64).toUInt64 >>> ((31 : Int32).toInt64.toUInt64 &&& Int64.toUInt64 63)).toInt64) * (a1 &&& 2147483647)) + ((a0 &&& 2147483647) * (((a1 : Int64).toUInt64 >>> ((31 : Int32).toInt64.toUInt64 &&& Int64.toUInt64 63)).toInt64)) : Int64).toUInt64 >>> ((30 : Int32).toInt64.toUInt64 &&& Int64.toUInt64 63)).toInt64)), (14, .long (((((a0 : Int64).toUInt64 >>> ((31 : Int32).toInt64.toUInt64 &&& Int64.toUInt64 63)).toInt64) * (a1 &&& 2147483647)) + ((a0 &&& 2147483647) * (((a1 : Int64).toUInt64 >>> ((31 : Int32).toInt64.toUInt64 &&& Int64.toUInt64 63)).toInt64)))), (12, .long ((2 * ((((a0 : Int64).toUInt64 >>> ((31 : Int32).toInt64.toUInt64 &&& Int64.toUInt64 63)).toInt64) * (((a1 : Int64).toUInt64 >>> ((31 : Int32).toInt64.toUInt64 &&& Int64.toUInt64 63)).toInt64))) - (2 * ((((a0 : Int64).toUInt64 >>> ((31 : Int32).toInt64.toUInt64 &&& Int64.toUInt64 63)).toInt64) * (((a1 : Int64).toUInt64 >>> ((31 : Int32).toInt64.toUInt64 &&& Int64.toUInt64 63)).toInt64))) / 2305843009213693951 * 2305843009213693951)), (10, .long (a1 &&& 2147483647)), (8, .long (((a1 : Int64).toUInt64 >>> ((31 : Int32).toInt64.toUInt64 &&& Int64.toUInt64 63)).toInt64)), (6, .long (a0 &&& 2147483647)), (4, .long (((a0 : Int64).toUInt64 >>> ((31 : Int32).toInt64.toUInt64 &&& Int64.toUInt64 63)).toInt64)), (0, .long a0), (2, .long a1)]) hx hb dX0_product_59 hl (by decide) rfl (fun ls hl => ?_)
  refine lv_lload hx hb dX0_product_61 (lv_at hl 1 rfl) ?_
  refine lv_ldc2 (v := 1073741823) hx hb hown (hts (.constantLong RX0 21 (1073741823)) (by decide +kernel)) dX0_product_63 ?_
  refine lv_land hx hb dX0_product_66 ?_
  refine lv_bipush (v := 31) hx hb dX0_product_67 (by decide) ?_
  refine lv_lshl hx hb dX0_product_69 rfl ?_
  refine lv_ldc2 (v := 2305843009213693951) hx hb hown (hts (.constantLong RX0 9 (2305843009213693951)) (by decide +kernel)) dX0_product_70 ?_
  refine lv_lrem hx hb dX0_product_73 (by decide) ?_
  refine lv_lstore (lv' := [(18, .long ((((((((a0 : Int64).toUInt64 >>> ((31 : Int32).toInt64.toUInt64 &&& Int64.toUInt64 63)).toInt64) * (a1 &&& 2147483647)) + ((a0 &&& 2147483647) * (((a1 : Int64).toUInt64 >>> ((31 : Int32).toInt64.toUInt64 &&& Int64.toUInt64 63)).toInt64))) &&& 1073741823) <<< ((31 : Int32).toInt64 &&& 63)) - (((((((a0 : Int64).toUInt64 >>> ((31 : Int32).toInt64.toUInt64 &&& Int64.toUInt64 63)).toInt64) * (a1 &&& 2147483647)) + ((a0 &&& 2147483647) * (((a1 : Int64).toUInt64 >>> ((31 : Int32).toInt64.toUInt64 &&& Int64.toUInt64 63)).toInt64))) &&& 1073741823) <<< ((31 : Int32).toInt64 &&& 63)) / 2305843009213693951 * 2305843009213693951)), (16, .long (((((((a0 : Int64).toUInt64 >>> ((31 : Int32).toInt64.toUInt64 &&& Int64.toUInt64 63)).toInt64) * (a1 &&& 2147483647)) + ((a0 &&& 2147483647) * (((a1 : Int64).toUInt64 >>> ((31 : Int32).toInt64.toUInt64 &&& Int64.toUInt64 63)).toInt64)) : Int64).toUInt64 >>> ((30 : Int32).toInt64.toUInt64 &&& Int64.toUInt64 63)).toInt64)), (14, .long (((((a0 : Int64).toUInt64 >>> ((31 : Int32).toInt64.toUInt64 &&& Int64.toUInt64 63)).toInt64) * (a1 &&& 2147483647)) + ((a0 &&& 2147483647) * (((a1 : Int64).toUInt64 >>> ((31 : Int32).toInt64.toUInt64 &&& Int64.toUInt64 63)).toInt64)))), (12, .long ((2 * ((((a0 : Int64).toUInt64 >>> ((31 : Int32).toInt64.toUInt64 &&& Int64.toUInt64 63)).toInt64) * (((a1 : Int64).toUInt64 >>> ((31 : Int32).toInt64.toUInt64 &&& Int64.toUInt64 63)).toInt64))) - (2 * ((((a0 : Int64).toUInt64 >>> ((31 : Int32).toInt64.toUInt64 &&& Int64.toUInt64 63)).toInt64) * (((a1 : Int64).toUInt64 >>> ((31 : Int32).toInt64.toUInt64 &&& Int64.toUInt64 63)).toInt64))) / 2305843009213693951 * 2305843009213693951)), (10, .long (a1 &&& 2147483647)), (8, .long (((a1 : Int64).toUInt64 >>> ((31 : Int32).toInt64.toUInt64 &&& Int64.toUInt64 63)).toInt64)), (6, .long (a0 &&& 2147483647)), (4, .long (((a0 : Int64).toUInt64 >>> ((31 : Int32).toInt64.toUInt64 &&& Int64.toUInt64 63)).toInt64)), (0, .long a0), (2, .long a1)]) hx hb dX0_product_74 hl (by decide) rfl (fun ls hl => ?_)
  refine lv_lload hx hb dX0_product_76 (lv_at hl 6 rfl) ?_
  refine lv_lload hx hb dX0_product_78 (lv_at hl 4 rfl) ?_
  refine lv_lmul hx hb dX0_product_80 ?_
  refine lv_ldc2 (v := 2305843009213693951) hx hb hown (hts (.constantLong RX0 9 (2305843009213693951)) (by decide +kernel)) dX0_product_81 ?_
  refine lv_lrem hx hb dX0_product_84 (by decide) ?_
  refine lv_lstore (lv' := [(20, .long (((a0 &&& 2147483647) * (a1 &&& 2147483647)) - ((a0 &&& 2147483647) * (a1 &&& 2147483647)) / 2305843009213693951 * 2305843009213693951)), (18, .long ((((((((a0 : Int64).toUInt64 >>> ((31 : Int32).toInt64.toUInt64 &&& Int64.toUInt64 63)).toInt64) * (a1 &&& 2147483647)) + ((a0 &&& 2147483647) * (((a1 : Int64).toUInt64 >>> ((31 : Int32).toInt64.toUInt64 &&& Int64.toUInt64 63)).toInt64))) &&& 1073741823) <<< ((31 : Int32).toInt64 &&& 63)) - (((((((a0 : Int64).toUInt64 >>> ((31 : Int32).toInt64.toUInt64 &&& Int64.toUInt64 63)).toInt64) * (a1 &&& 2147483647)) + ((a0 &&& 2147483647) * (((a1 : Int64).toUInt64 >>> ((31 : Int32).toInt64.toUInt64 &&& Int64.toUInt64 63)).toInt64))) &&& 1073741823) <<< ((31 : Int32).toInt64 &&& 63)) / 2305843009213693951 * 2305843009213693951)), (16, .long (((((((a0 : Int64).toUInt64 >>> ((31 : Int32).toInt64.toUInt64 &&& Int64.toUInt64 63)).toInt64) * (a1 &&& 2147483647)) + ((a0 &&& 2147483647) * (((a1 : Int64).toUInt64 >>> ((31 : Int32).toInt64.toUInt64 &&& Int64.toUInt64 63)).toInt64)) : Int64).toUInt64 >>> ((30 : Int32).toInt64.toUInt64 &&& Int64.toUInt64 63)).toInt64)), (14, .long (((((a0 : Int64).toUInt64 >>> ((31 : Int32).toInt64.toUInt64 &&& Int64.toUInt64 63)).toInt64) * (a1 &&& 2147483647)) + ((a0 &&& 2147483647) * (((a1 : Int64).toUInt64 >>> ((31 : Int32).toInt64.toUInt64 &&& Int64.toUInt64 63)).toInt64)))), (12, .long ((2 * ((((a0 : Int64).toUInt64 >>> ((31 : Int32).toInt64.toUInt64 &&& Int64.toUInt64 63)).toInt64) * (((a1 : Int64).toUInt64 >>> ((31 : Int32).toInt64.toUInt64 &&& Int64.toUInt64 63)).toInt64))) - (2 * ((((a0 : Int64).toUInt64 >>> ((31 : Int32).toInt64.toUInt64 &&& Int64.toUInt64 63)).toInt64) * (((a1 : Int64).toUInt64 >>> ((31 : Int32).toInt64.toUInt64 &&& Int64.toUInt64 63)).toInt64))) / 2305843009213693951 * 2305843009213693951)), (10, .long (a1 &&& 2147483647)), (8, .long (((a1 : Int64).toUInt64 >>> ((31 : Int32).toInt64.toUInt64 &&& Int64.toUInt64 63)).toInt64)), (6, .long (a0 &&& 2147483647)), (4, .long (((a0 : Int64).toUInt64 >>> ((31 : Int32).toInt64.toUInt64 &&& Int64.toUInt64 63)).toInt64)), (0, .long a0), (2, .long a1)]) hx hb dX0_product_85 hl (by decide) rfl (fun ls hl => ?_)
  refine lv_lload hx hb dX0_product_87 (lv_at hl 4 rfl) ?_
  refine lv_lload hx hb dX0_product_89 (lv_at hl 1 rfl) ?_
  refine q_callSl (As := [.long ((2 * ((((a0 : Int64).toUInt64 >>> ((31 : Int32).toInt64.toUInt64 &&& Int64.toUInt64 63)).toInt64) * (((a1 : Int64).toUInt64 >>> ((31 : Int32).toInt64.toUInt64 &&& Int64.toUInt64 63)).toInt64))) - (2 * ((((a0 : Int64).toUInt64 >>> ((31 : Int32).toInt64.toUInt64 &&& Int64.toUInt64 63)).toInt64) * (((a1 : Int64).toUInt64 >>> ((31 : Int32).toInt64.toUInt64 &&& Int64.toUInt64 63)).toInt64))) / 2305843009213693951 * 2305843009213693951), .long ((((((((a0 : Int64).toUInt64 >>> ((31 : Int32).toInt64.toUInt64 &&& Int64.toUInt64 63)).toInt64) * (a1 &&& 2147483647)) + ((a0 &&& 2147483647) * (((a1 : Int64).toUInt64 >>> ((31 : Int32).toInt64.toUInt64 &&& Int64.toUInt64 63)).toInt64))) &&& 1073741823) <<< ((31 : Int32).toInt64 &&& 63)) - (((((((a0 : Int64).toUInt64 >>> ((31 : Int32).toInt64.toUInt64 &&& Int64.toUInt64 63)).toInt64) * (a1 &&& 2147483647)) + ((a0 &&& 2147483647) * (((a1 : Int64).toUInt64 >>> ((31 : Int32).toInt64.toUInt64 &&& Int64.toUInt64 63)).toInt64))) &&& 1073741823) <<< ((31 : Int32).toInt64 &&& 63)) / 2305843009213693951 * 2305843009213693951)]) (rest := []) (c_X0_sum l D ((2 * ((((a0 : Int64).toUInt64 >>> ((31 : Int32).toInt64.toUInt64 &&& Int64.toUInt64 63)).toInt64) * (((a1 : Int64).toUInt64 >>> ((31 : Int32).toInt64.toUInt64 &&& Int64.toUInt64 63)).toInt64))) - (2 * ((((a0 : Int64).toUInt64 >>> ((31 : Int32).toInt64.toUInt64 &&& Int64.toUInt64 63)).toInt64) * (((a1 : Int64).toUInt64 >>> ((31 : Int32).toInt64.toUInt64 &&& Int64.toUInt64 63)).toInt64))) / 2305843009213693951 * 2305843009213693951) ((((((((a0 : Int64).toUInt64 >>> ((31 : Int32).toInt64.toUInt64 &&& Int64.toUInt64 63)).toInt64) * (a1 &&& 2147483647)) + ((a0 &&& 2147483647) * (((a1 : Int64).toUInt64 >>> ((31 : Int32).toInt64.toUInt64 &&& Int64.toUInt64 63)).toInt64))) &&& 1073741823) <<< ((31 : Int32).toInt64 &&& 63)) - (((((((a0 : Int64).toUInt64 >>> ((31 : Int32).toInt64.toUInt64 &&& Int64.toUInt64 63)).toInt64) * (a1 &&& 2147483647)) + ((a0 &&& 2147483647) * (((a1 : Int64).toUInt64 >>> ((31 : Int32).toInt64.toUInt64 &&& Int64.toUInt64 63)).toInt64))) &&& 1073741823) <<< ((31 : Int32).toInt64 &&& 63)) / 2305843009213693951 * 2305843009213693951)) hfix (va_cwS 2 hts gX0_product_X0_sum rfl rfl rfl (by decide +kernel) ⟨Nat.le_of_ble_eq_true rfl, Nat.le_of_ble_eq_true rfl⟩) rfl hl.1 rfl (Nat.le_of_ble_eq_true rfl) ⟨Nat.zero_le _, Nat.zero_le _⟩ hP hK hS hA [] [] rfl rfl dX0_product_91 (fun H locs hP hS => ?_)
  refine lv_lload hx hb dX0_product_94 (lv_at hl 0 rfl) ?_
  refine lv_lload hx hb dX0_product_96 (lv_at hl 2 rfl) ?_
  refine q_callSl (As := [.long (((a0 &&& 2147483647) * (a1 &&& 2147483647)) - ((a0 &&& 2147483647) * (a1 &&& 2147483647)) / 2305843009213693951 * 2305843009213693951), .long (((((((a0 : Int64).toUInt64 >>> ((31 : Int32).toInt64.toUInt64 &&& Int64.toUInt64 63)).toInt64) * (a1 &&& 2147483647)) + ((a0 &&& 2147483647) * (((a1 : Int64).toUInt64 >>> ((31 : Int32).toInt64.toUInt64 &&& Int64.toUInt64 63)).toInt64)) : Int64).toUInt64 >>> ((30 : Int32).toInt64.toUInt64 &&& Int64.toUInt64 63)).toInt64)]) (rest := [.long (f_X0_sum ((2 * ((((a0 : Int64).toUInt64 >>> ((31 : Int32).toInt64.toUInt64 &&& Int64.toUInt64 63)).toInt64) * (((a1 : Int64).toUInt64 >>> ((31 : Int32).toInt64.toUInt64 &&& Int64.toUInt64 63)).toInt64))) - (2 * ((((a0 : Int64).toUInt64 >>> ((31 : Int32).toInt64.toUInt64 &&& Int64.toUInt64 63)).toInt64) * (((a1 : Int64).toUInt64 >>> ((31 : Int32).toInt64.toUInt64 &&& Int64.toUInt64 63)).toInt64))) / 2305843009213693951 * 2305843009213693951) ((((((((a0 : Int64).toUInt64 >>> ((31 : Int32).toInt64.toUInt64 &&& Int64.toUInt64 63)).toInt64) * (a1 &&& 2147483647)) + ((a0 &&& 2147483647) * (((a1 : Int64).toUInt64 >>> ((31 : Int32).toInt64.toUInt64 &&& Int64.toUInt64 63)).toInt64))) &&& 1073741823) <<< ((31 : Int32).toInt64 &&& 63)) - (((((((a0 : Int64).toUInt64 >>> ((31 : Int32).toInt64.toUInt64 &&& Int64.toUInt64 63)).toInt64) * (a1 &&& 2147483647)) + ((a0 &&& 2147483647) * (((a1 : Int64).toUInt64 >>> ((31 : Int32).toInt64.toUInt64 &&& Int64.toUInt64 63)).toInt64))) &&& 1073741823) <<< ((31 : Int32).toInt64 &&& 63)) / 2305843009213693951 * 2305843009213693951))]) (c_X0_sum l D (((a0 &&& 2147483647) * (a1 &&& 2147483647)) - ((a0 &&& 2147483647) * (a1 &&& 2147483647)) / 2305843009213693951 * 2305843009213693951) (((((((a0 : Int64).toUInt64 >>> ((31 : Int32).toInt64.toUInt64 &&& Int64.toUInt64 63)).toInt64) * (a1 &&& 2147483647)) + ((a0 &&& 2147483647) * (((a1 : Int64).toUInt64 >>> ((31 : Int32).toInt64.toUInt64 &&& Int64.toUInt64 63)).toInt64)) : Int64).toUInt64 >>> ((30 : Int32).toInt64.toUInt64 &&& Int64.toUInt64 63)).toInt64)) hfix (va_cwS 2 hts gX0_product_X0_sum rfl rfl rfl (by decide +kernel) ⟨Nat.le_of_ble_eq_true rfl, Nat.le_of_ble_eq_true rfl⟩) rfl hl.1 rfl (Nat.le_of_ble_eq_true rfl) ⟨Nat.zero_le _, Nat.zero_le _⟩ hP hK hS hA [] [] rfl rfl dX0_product_98 (fun H locs hP hS => ?_)
  refine q_callSl (As := [.long (f_X0_sum ((2 * ((((a0 : Int64).toUInt64 >>> ((31 : Int32).toInt64.toUInt64 &&& Int64.toUInt64 63)).toInt64) * (((a1 : Int64).toUInt64 >>> ((31 : Int32).toInt64.toUInt64 &&& Int64.toUInt64 63)).toInt64))) - (2 * ((((a0 : Int64).toUInt64 >>> ((31 : Int32).toInt64.toUInt64 &&& Int64.toUInt64 63)).toInt64) * (((a1 : Int64).toUInt64 >>> ((31 : Int32).toInt64.toUInt64 &&& Int64.toUInt64 63)).toInt64))) / 2305843009213693951 * 2305843009213693951) ((((((((a0 : Int64).toUInt64 >>> ((31 : Int32).toInt64.toUInt64 &&& Int64.toUInt64 63)).toInt64) * (a1 &&& 2147483647)) + ((a0 &&& 2147483647) * (((a1 : Int64).toUInt64 >>> ((31 : Int32).toInt64.toUInt64 &&& Int64.toUInt64 63)).toInt64))) &&& 1073741823) <<< ((31 : Int32).toInt64 &&& 63)) - (((((((a0 : Int64).toUInt64 >>> ((31 : Int32).toInt64.toUInt64 &&& Int64.toUInt64 63)).toInt64) * (a1 &&& 2147483647)) + ((a0 &&& 2147483647) * (((a1 : Int64).toUInt64 >>> ((31 : Int32).toInt64.toUInt64 &&& Int64.toUInt64 63)).toInt64))) &&& 1073741823) <<< ((31 : Int32).toInt64 &&& 63)) / 2305843009213693951 * 2305843009213693951)), .long (f_X0_sum (((a0 &&& 2147483647) * (a1 &&& 2147483647)) - ((a0 &&& 2147483647) * (a1 &&& 2147483647)) / 2305843009213693951 * 2305843009213693951) (((((((a0 : Int64).toUInt64 >>> ((31 : Int32).toInt64.toUInt64 &&& Int64.toUInt64 63)).toInt64) * (a1 &&& 2147483647)) + ((a0 &&& 2147483647) * (((a1 : Int64).toUInt64 >>> ((31 : Int32).toInt64.toUInt64 &&& Int64.toUInt64 63)).toInt64)) : Int64).toUInt64 >>> ((30 : Int32).toInt64.toUInt64 &&& Int64.toUInt64 63)).toInt64))]) (rest := []) (c_X0_sum l D (f_X0_sum ((2 * ((((a0 : Int64).toUInt64 >>> ((31 : Int32).toInt64.toUInt64 &&& Int64.toUInt64 63)).toInt64) * (((a1 : Int64).toUInt64 >>> ((31 : Int32).toInt64.toUInt64 &&& Int64.toUInt64 63)).toInt64))) - (2 * ((((a0 : Int64).toUInt64 >>> ((31 : Int32).toInt64.toUInt64 &&& Int64.toUInt64 63)).toInt64) * (((a1 : Int64).toUInt64 >>> ((31 : Int32).toInt64.toUInt64 &&& Int64.toUInt64 63)).toInt64))) / 2305843009213693951 * 2305843009213693951) ((((((((a0 : Int64).toUInt64 >>> ((31 : Int32).toInt64.toUInt64 &&& Int64.toUInt64 63)).toInt64) * (a1 &&& 2147483647)) + ((a0 &&& 2147483647) * (((a1 : Int64).toUInt64 >>> ((31 : Int32).toInt64.toUInt64 &&& Int64.toUInt64 63)).toInt64))) &&& 1073741823) <<< ((31 : Int32).toInt64 &&& 63)) - (((((((a0 : Int64).toUInt64 >>> ((31 : Int32).toInt64.toUInt64 &&& Int64.toUInt64 63)).toInt64) * (a1 &&& 2147483647)) + ((a0 &&& 2147483647) * (((a1 : Int64).toUInt64 >>> ((31 : Int32).toInt64.toUInt64 &&& Int64.toUInt64 63)).toInt64))) &&& 1073741823) <<< ((31 : Int32).toInt64 &&& 63)) / 2305843009213693951 * 2305843009213693951)) (f_X0_sum (((a0 &&& 2147483647) * (a1 &&& 2147483647)) - ((a0 &&& 2147483647) * (a1 &&& 2147483647)) / 2305843009213693951 * 2305843009213693951) (((((((a0 : Int64).toUInt64 >>> ((31 : Int32).toInt64.toUInt64 &&& Int64.toUInt64 63)).toInt64) * (a1 &&& 2147483647)) + ((a0 &&& 2147483647) * (((a1 : Int64).toUInt64 >>> ((31 : Int32).toInt64.toUInt64 &&& Int64.toUInt64 63)).toInt64)) : Int64).toUInt64 >>> ((30 : Int32).toInt64.toUInt64 &&& Int64.toUInt64 63)).toInt64))) hfix (va_cwS 2 hts gX0_product_X0_sum rfl rfl rfl (by decide +kernel) ⟨Nat.le_of_ble_eq_true rfl, Nat.le_of_ble_eq_true rfl⟩) rfl hl.1 rfl (Nat.le_of_ble_eq_true rfl) ⟨Nat.zero_le _, Nat.zero_le _⟩ hP hK hS hA [] [] rfl rfl dX0_product_101 (fun H locs hP hS => ?_)
  exact q_rl hx hb hr hlocks hS (Eq.symm (by rw [f_X0_product])) dX0_product_104

def f_X0_quotient_J38 (v6_9 : Int64) (v8_9 : Int32) (k_9 : Int64 → Int64 → Int32 → Int64) (v4_38 : Int64) : Int64 :=
  (k_9 v4_38 (f_X0_product v6_9 v6_9) (v8_9 + 1))

def f_X0_quotient_L9 : Nat → Int64 → Int64 → Int32 → Int64
  | 0, _, _, _ => default
  | fu_9 + 1, v4_9, v6_9, v8_9 => (if 61 ≤ v8_9 then v4_9 else (if ((((2305843009213693949 : Int64).toUInt64 >>> ((v8_9 : Int32).toInt64.toUInt64 &&& Int64.toUInt64 63)).toInt64) &&& 1) = 0 then (f_X0_quotient_J38 v6_9 v8_9 (f_X0_quotient_L9 fu_9) v4_9) else (f_X0_quotient_J38 v6_9 v8_9 (f_X0_quotient_L9 fu_9) (f_X0_product v4_9 v6_9))))

def f_X0_quotient (a0 : Int64) (a1 : Int64) : Int64 :=
  (f_X0_quotient_L9 62 a0 a1 0)

set_option maxHeartbeats 4000000 in
set_option maxRecDepth 100000 in
theorem c_X0_quotient (l : Launch) (D : va_G) (a0 : Int64) (a1 : Int64) : q_roL l yX0_quotient wsX0_quotient ({ frames := 2, cells := 0, slots := 0, locals := 64 }) D [] [] [.long a0, .long a1] (f_X0_quotient a0 a1) := by
  refine q_roL_of (cc := cX0_quotient) (maxL := 9) (ret := (some .long)) (plainFor_of_name (by decide)) rfl (Nat.le_of_ble_eq_true rfl) ?_
  intro p e s m below meth c ls A hx hb hr hml hown hts hlocks hP hK hA hS hl
  have hown : s.vm.findClass RX0 = some m.cls := hown
  have hl : lv_has ls 9 [(0, .long a0), (2, .long a1)] := hl
  have hfix : CallFix p m c cX0_quotient 9 s [.long a0, .long a1].toArray wsX0_quotient RX0 := ⟨hx, hb, hml, hown, hts⟩
  refine lv_lload_n hx hb dX0_quotient_0 rfl (lv_at hl 0 rfl) ?_
  refine lv_lstore (lv' := [(4, .long a0), (0, .long a0), (2, .long a1)]) hx hb dX0_quotient_1 hl (by decide) rfl (fun ls hl => ?_)
  refine lv_lload_n hx hb dX0_quotient_3 rfl (lv_at hl 2 rfl) ?_
  refine lv_lstore (lv' := [(6, .long a1), (4, .long a0), (0, .long a0), (2, .long a1)]) hx hb dX0_quotient_4 hl (by decide) rfl (fun ls hl => ?_)
  refine lv_iconst (v := 0) hx hb dX0_quotient_6 (by decide) ?_
  refine lv_istore (lv' := [(8, .int 0), (6, .long a1), (4, .long a0), (0, .long a0), (2, .long a1)]) hx hb dX0_quotient_7 hl (by decide) rfl (fun ls hl => ?_)
  have kL9 : ∀ (fu_9 : Nat) (v4_9 : Int64) (v6_9 : Int64) (v8_9 : Int32) (H : Heap) (locs : List Loc) (ls : Array Slot), ((61 : Int) - v8_9.toInt).toNat < fu_9 → (f_X0_quotient a0 a1) = (f_X0_quotient_L9 fu_9 v4_9 v6_9 v8_9) → va_P D vwCl [] H → va_S A s.heap H locs → lv_has ls 9 [(0, .long a0), (2, .long a1), (4, .long v4_9), (6, .long v6_9), (8, .int v8_9)] → W p l e ({ frames := 2, cells := 0, slots := 0, locals := 64 }) s m [.long a0, .long a1].toArray below meth c H locs 0 0 (MQ below (va_Ql (fun r (_ : Unit) => r = (f_X0_quotient a0 a1)) (fun _ _ => True) A) [.long a0, .long a1].toArray s 0 0 A) (F0 m 9 ls []) := by
    intro fu_9
    induction fu_9 with
    | zero => intro v4_9 v6_9 v8_9 H locs ls hmu; exact absurd hmu (Nat.not_lt_zero _)
    | succ fu_9 ih9 =>
      intro v4_9 v6_9 v8_9 H locs ls hmu9 hL9 hP hS hl
      refine lv_iload hx hb dX0_quotient_9 (lv_at hl 4 rfl) ?_
      refine lv_bipush (v := 61) hx hb dX0_quotient_11 (by decide) ?_
      refine lv_icmp_ge (tgt := 53) hx hb dX0_quotient_13 (by decide) (fun c1 => ?_) (fun c1 => ?_)
      · refine lv_lload hx hb dX0_quotient_53 (lv_at hl 2 rfl) ?_
        exact q_rl hx hb hr hlocks hS (Eq.symm (by rw [hL9, f_X0_quotient_L9, if_pos c1])) dX0_quotient_55
      · refine lv_ldc2 (v := 2305843009213693949) hx hb hown (hts (.constantLong RX0 26 (2305843009213693949)) (by decide +kernel)) dX0_quotient_16 ?_
        refine lv_iload hx hb dX0_quotient_19 (lv_at hl 4 rfl) ?_
        refine lv_lushr hx hb dX0_quotient_21 rfl ?_
        refine lv_lconst (v := 1) hx hb dX0_quotient_22 (by decide) ?_
        refine lv_land hx hb dX0_quotient_23 ?_
        refine lv_lconst (v := 0) hx hb dX0_quotient_24 (by decide) ?_
        have kJ38 : ∀ (v4_38 : Int64) (H : Heap) (locs : List Loc) (ls : Array Slot), (f_X0_quotient a0 a1) = (f_X0_quotient_J38 v6_9 v8_9 (f_X0_quotient_L9 fu_9) v4_38) → va_P D vwCl [] H → va_S A s.heap H locs → lv_has ls 9 [(0, .long a0), (2, .long a1), (4, .long v4_38), (6, .long v6_9), (8, .int v8_9)] → W p l e ({ frames := 2, cells := 0, slots := 0, locals := 64 }) s m [.long a0, .long a1].toArray below meth c H locs 0 0 (MQ below (va_Ql (fun r (_ : Unit) => r = (f_X0_quotient a0 a1)) (fun _ _ => True) A) [.long a0, .long a1].toArray s 0 0 A) (F0 m 38 ls []) := by
          intro v4_38 H locs ls hJ38 hP hS hl
          refine lv_lload hx hb dX0_quotient_38 (lv_at hl 3 rfl) ?_
          refine lv_lload hx hb dX0_quotient_40 (lv_at hl 3 rfl) ?_
          refine q_callSl (As := [.long v6_9, .long v6_9]) (rest := []) (c_X0_product l D v6_9 v6_9) hfix (va_cwS 2 hts gX0_quotient_X0_product rfl rfl rfl (by decide +kernel) ⟨Nat.le_of_ble_eq_true rfl, Nat.le_of_ble_eq_true rfl⟩) rfl hl.1 rfl (Nat.le_of_ble_eq_true rfl) ⟨Nat.zero_le _, Nat.zero_le _⟩ hP hK hS hA [] [] rfl rfl dX0_quotient_42 (fun H locs hP hS => ?_)
          refine lv_lstore (lv' := [(6, .long (f_X0_product v6_9 v6_9)), (0, .long a0), (2, .long a1), (4, .long v4_38), (8, .int v8_9)]) hx hb dX0_quotient_45 hl (by decide) rfl (fun ls hl => ?_)
          refine lv_iinc (v := v8_9 + 1) (lv' := [(8, .int (v8_9 + 1)), (6, .long (f_X0_product v6_9 v6_9)), (0, .long a0), (2, .long a1), (4, .long v4_38)]) hx hb dX0_quotient_47 hl (k := 4) rfl rfl (by decide) rfl (fun ls hl => ?_)
          refine lv_goto (tgt := 9) hx hb dX0_quotient_50 (by decide) ?_
          exact ih9 v4_38 (f_X0_product v6_9 v6_9) (v8_9 + 1) _ _ _ (q_dec rfl c1 hmu9) (by rw [hJ38, f_X0_quotient_J38]) hP hS (lv_sub hl [2, 3, 4, 1, 0] rfl)
        refine q_eq (tgt := 38) hx hb dX0_quotient_25 dX0_quotient_26 (by decide) (fun c2 => ?_) (fun c2 => ?_)
        · exact kJ38 v4_9 _ _ _ (by rw [hL9, f_X0_quotient_L9, if_neg c1, if_pos c2]) hP hS (lv_sub hl [0, 1, 2, 3, 4] rfl)
        · refine lv_lload hx hb dX0_quotient_29 (lv_at hl 2 rfl) ?_
          refine lv_lload hx hb dX0_quotient_31 (lv_at hl 3 rfl) ?_
          refine q_callSl (As := [.long v4_9, .long v6_9]) (rest := []) (c_X0_product l D v4_9 v6_9) hfix (va_cwS 2 hts gX0_quotient_X0_product rfl rfl rfl (by decide +kernel) ⟨Nat.le_of_ble_eq_true rfl, Nat.le_of_ble_eq_true rfl⟩) rfl hl.1 rfl (Nat.le_of_ble_eq_true rfl) ⟨Nat.zero_le _, Nat.zero_le _⟩ hP hK hS hA [] [] rfl rfl dX0_quotient_33 (fun H locs hP hS => ?_)
          refine lv_lstore (lv' := [(4, .long (f_X0_product v4_9 v6_9)), (0, .long a0), (2, .long a1), (6, .long v6_9), (8, .int v8_9)]) hx hb dX0_quotient_36 hl (by decide) rfl (fun ls hl => ?_)
          exact kJ38 (f_X0_product v4_9 v6_9) _ _ _ (by rw [hL9, f_X0_quotient_L9, if_neg c1, if_neg c2]) hP hS (lv_sub hl [1, 2, 0, 3, 4] rfl)
  exact kL9 62 a0 a1 0 _ _ _ (by decide) (by rw [f_X0_quotient]) hP hS (lv_sub hl [3, 4, 2, 1, 0] rfl)

def f_X4_ofAddress (a0 : Int32) (a1 : Int64) : Int64 :=
  (if a1 < (-1000) then (-1) else (if a1 ≤ 1000 then (4611686018427387904 + (((a0 : Int32).toInt64) <<< ((11 : Int32).toInt64 &&& 63))) + (a1 + 1000) else (-1)))

set_option maxHeartbeats 4000000 in
set_option maxRecDepth 100000 in
theorem c_X4_ofAddress (l : Launch) (D : va_G) (a0 : Int32) (a1 : Int64) : q_roL l yX4_ofAddress wsX4_ofAddress ({ frames := 0, cells := 0, slots := 0, locals := 0 }) D [] [] [.int a0, .long a1] (f_X4_ofAddress a0 a1) := by
  refine q_roL_of (cc := cX4_ofAddress) (maxL := 3) (ret := (some .long)) (plainFor_of_name (by decide)) rfl (Nat.le_of_ble_eq_true rfl) ?_
  intro p e s m below meth c ls A hx hb hr hml hown hts hlocks hP hK hA hS hl
  have hown : s.vm.findClass RX4 = some m.cls := hown
  have hl : lv_has ls 3 [(0, .int a0), (1, .long a1)] := hl
  refine lv_lload_n hx hb dX4_ofAddress_0 rfl (lv_at hl 1 rfl) ?_
  refine lv_ldc2 (v := -1000) hx hb hown (hts (.constantLong RX4 9 (-1000)) (by decide +kernel)) dX4_ofAddress_1 ?_
  refine q_lt (tgt := 16) hx hb dX4_ofAddress_4 dX4_ofAddress_5 (by decide) (fun c1 => ?_) (fun c1 => ?_)
  · refine lv_ldc2 (v := -1) hx hb hown (hts (.constantLong RX4 13 (-1)) (by decide +kernel)) dX4_ofAddress_16 ?_
    exact q_rl hx hb hr hlocks hS (Eq.symm (by rw [f_X4_ofAddress, if_pos c1])) dX4_ofAddress_19
  · refine lv_lload_n hx hb dX4_ofAddress_8 rfl (lv_at hl 1 rfl) ?_
    refine lv_ldc2 (v := 1000) hx hb hown (hts (.constantLong RX4 11 (1000)) (by decide +kernel)) dX4_ofAddress_9 ?_
    refine q_le (tgt := 20) hx hb dX4_ofAddress_12 dX4_ofAddress_13 (by decide) (fun c2 => ?_) (fun c2 => ?_)
    · refine lv_ldc2 (v := 4611686018427387904) hx hb hown (hts (.constantLong RX4 15 (4611686018427387904)) (by decide +kernel)) dX4_ofAddress_20 ?_
      refine lv_iload_n hx hb dX4_ofAddress_23 rfl (lv_at hl 0 rfl) ?_
      refine lv_i2l hx hb dX4_ofAddress_24 rfl ?_
      refine lv_bipush (v := 11) hx hb dX4_ofAddress_25 (by decide) ?_
      refine lv_lshl hx hb dX4_ofAddress_27 rfl ?_
      refine lv_ladd hx hb dX4_ofAddress_28 ?_
      refine lv_lload_n hx hb dX4_ofAddress_29 rfl (lv_at hl 1 rfl) ?_
      refine lv_ldc2 (v := 1000) hx hb hown (hts (.constantLong RX4 11 (1000)) (by decide +kernel)) dX4_ofAddress_30 ?_
      refine lv_ladd hx hb dX4_ofAddress_33 ?_
      refine lv_ladd hx hb dX4_ofAddress_34 ?_
      exact q_rl hx hb hr hlocks hS (Eq.symm (by rw [f_X4_ofAddress, if_neg c1, if_pos c2])) dX4_ofAddress_35
    · refine lv_ldc2 (v := -1) hx hb hown (hts (.constantLong RX4 13 (-1)) (by decide +kernel)) dX4_ofAddress_16 ?_
      exact q_rl hx hb hr hlocks hS (Eq.symm (by rw [f_X4_ofAddress, if_neg c1, if_neg c2])) dX4_ofAddress_19

def f_X4_isNumber (a0 : Int64) : Int32 :=
  (if a0 < 0 then 0 else (if 4611686018427387904 ≤ a0 then 0 else 1))

set_option maxHeartbeats 4000000 in
set_option maxRecDepth 100000 in
theorem c_X4_isNumber (l : Launch) (D : va_G) (a0 : Int64) : q_roI l yX4_isNumber wsX4_isNumber ({ frames := 0, cells := 0, slots := 0, locals := 0 }) D [] [] [.long a0] (f_X4_isNumber a0) := by
  refine q_roI_of (cc := cX4_isNumber) (maxL := 2) (ret := (some .boolean)) (plainFor_of_name (by decide)) rfl (Nat.le_of_ble_eq_true rfl) ?_
  intro p e s m below meth c ls A hx hb hr hml hown hts hlocks hP hK hA hS hl
  have hown : s.vm.findClass RX4 = some m.cls := hown
  have hl : lv_has ls 2 [(0, .long a0)] := hl
  refine lv_lload_n hx hb dX4_isNumber_0 rfl (lv_at hl 0 rfl) ?_
  refine lv_lconst (v := 0) hx hb dX4_isNumber_1 (by decide) ?_
  refine q_lt (tgt := 18) hx hb dX4_isNumber_2 dX4_isNumber_3 (by decide) (fun c1 => ?_) (fun c1 => ?_)
  · refine lv_iconst (v := 0) hx hb dX4_isNumber_18 (by decide) ?_
    exact q_rz hx hb hr hlocks (rfl) hS (Eq.symm (by rw [f_X4_isNumber, if_pos c1])) dX4_isNumber_19
  · refine lv_lload_n hx hb dX4_isNumber_6 rfl (lv_at hl 0 rfl) ?_
    refine lv_ldc2 (v := 4611686018427387904) hx hb hown (hts (.constantLong RX4 15 (4611686018427387904)) (by decide +kernel)) dX4_isNumber_7 ?_
    refine q_ge (tgt := 18) hx hb dX4_isNumber_10 dX4_isNumber_11 (by decide) (fun c2 => ?_) (fun c2 => ?_)
    · refine lv_iconst (v := 0) hx hb dX4_isNumber_18 (by decide) ?_
      exact q_rz hx hb hr hlocks (rfl) hS (Eq.symm (by rw [f_X4_isNumber, if_neg c1, if_pos c2])) dX4_isNumber_19
    · refine lv_iconst (v := 1) hx hb dX4_isNumber_14 (by decide) ?_
      refine lv_goto (tgt := 19) hx hb dX4_isNumber_15 (by decide) ?_
      exact q_rz hx hb hr hlocks (rfl) hS (Eq.symm (by rw [f_X4_isNumber, if_neg c1, if_neg c2])) dX4_isNumber_19

def f_X4_isAddress (a0 : Int64) : Int32 :=
  (if a0 < 4611686018427387904 then 0 else 1)

set_option maxHeartbeats 4000000 in
set_option maxRecDepth 100000 in
theorem c_X4_isAddress (l : Launch) (D : va_G) (a0 : Int64) : q_roI l yX4_isAddress wsX4_isAddress ({ frames := 0, cells := 0, slots := 0, locals := 0 }) D [] [] [.long a0] (f_X4_isAddress a0) := by
  refine q_roI_of (cc := cX4_isAddress) (maxL := 2) (ret := (some .boolean)) (plainFor_of_name (by decide)) rfl (Nat.le_of_ble_eq_true rfl) ?_
  intro p e s m below meth c ls A hx hb hr hml hown hts hlocks hP hK hA hS hl
  have hown : s.vm.findClass RX4 = some m.cls := hown
  have hl : lv_has ls 2 [(0, .long a0)] := hl
  refine lv_lload_n hx hb dX4_isAddress_0 rfl (lv_at hl 0 rfl) ?_
  refine lv_ldc2 (v := 4611686018427387904) hx hb hown (hts (.constantLong RX4 15 (4611686018427387904)) (by decide +kernel)) dX4_isAddress_1 ?_
  refine q_lt (tgt := 12) hx hb dX4_isAddress_4 dX4_isAddress_5 (by decide) (fun c1 => ?_) (fun c1 => ?_)
  · refine lv_iconst (v := 0) hx hb dX4_isAddress_12 (by decide) ?_
    exact q_rz hx hb hr hlocks (rfl) hS (Eq.symm (by rw [f_X4_isAddress, if_pos c1])) dX4_isAddress_13
  · refine lv_iconst (v := 1) hx hb dX4_isAddress_8 (by decide) ?_
    refine lv_goto (tgt := 13) hx hb dX4_isAddress_9 (by decide) ?_
    exact q_rz hx hb hr hlocks (rfl) hS (Eq.symm (by rw [f_X4_isAddress, if_neg c1])) dX4_isAddress_13

def f_X4_segmentOf (a0 : Int64) : Int32 :=
  (((a0 - 4611686018427387904 : Int64).toUInt64 >>> ((11 : Int32).toInt64.toUInt64 &&& Int64.toUInt64 63)).toInt64 : Int64).toInt32

set_option maxHeartbeats 4000000 in
set_option maxRecDepth 100000 in
theorem c_X4_segmentOf (l : Launch) (D : va_G) (a0 : Int64) : q_roI l yX4_segmentOf wsX4_segmentOf ({ frames := 0, cells := 0, slots := 0, locals := 0 }) D [] [] [.long a0] (f_X4_segmentOf a0) := by
  refine q_roI_of (cc := cX4_segmentOf) (maxL := 2) (ret := (some .int)) (plainFor_of_name (by decide)) rfl (Nat.le_of_ble_eq_true rfl) ?_
  intro p e s m below meth c ls A hx hb hr hml hown hts hlocks hP hK hA hS hl
  have hown : s.vm.findClass RX4 = some m.cls := hown
  have hl : lv_has ls 2 [(0, .long a0)] := hl
  refine lv_lload_n hx hb dX4_segmentOf_0 rfl (lv_at hl 0 rfl) ?_
  refine lv_ldc2 (v := 4611686018427387904) hx hb hown (hts (.constantLong RX4 15 (4611686018427387904)) (by decide +kernel)) dX4_segmentOf_1 ?_
  refine lv_lsub hx hb dX4_segmentOf_4 ?_
  refine lv_bipush (v := 11) hx hb dX4_segmentOf_5 (by decide) ?_
  refine lv_lushr hx hb dX4_segmentOf_7 rfl ?_
  refine lv_l2i hx hb dX4_segmentOf_8 rfl ?_
  exact q_ri hx hb hr hlocks hS (Eq.symm (by rw [f_X4_segmentOf])) dX4_segmentOf_9

def f_X4_cellOf (a0 : Int64) : Int32 :=
  (((a0 - 4611686018427387904) &&& 2047 : Int64).toInt32) - 1000

set_option maxHeartbeats 4000000 in
set_option maxRecDepth 100000 in
theorem c_X4_cellOf (l : Launch) (D : va_G) (a0 : Int64) : q_roI l yX4_cellOf wsX4_cellOf ({ frames := 0, cells := 0, slots := 0, locals := 0 }) D [] [] [.long a0] (f_X4_cellOf a0) := by
  refine q_roI_of (cc := cX4_cellOf) (maxL := 2) (ret := (some .int)) (plainFor_of_name (by decide)) rfl (Nat.le_of_ble_eq_true rfl) ?_
  intro p e s m below meth c ls A hx hb hr hml hown hts hlocks hP hK hA hS hl
  have hown : s.vm.findClass RX4 = some m.cls := hown
  have hl : lv_has ls 2 [(0, .long a0)] := hl
  refine lv_lload_n hx hb dX4_cellOf_0 rfl (lv_at hl 0 rfl) ?_
  refine lv_ldc2 (v := 4611686018427387904) hx hb hown (hts (.constantLong RX4 15 (4611686018427387904)) (by decide +kernel)) dX4_cellOf_1 ?_
  refine lv_lsub hx hb dX4_cellOf_4 ?_
  refine lv_ldc2 (v := 2047) hx hb hown (hts (.constantLong RX4 17 (2047)) (by decide +kernel)) dX4_cellOf_5 ?_
  refine lv_land hx hb dX4_cellOf_8 ?_
  refine lv_l2i hx hb dX4_cellOf_9 rfl ?_
  refine lv_sipush (v := 1000) hx hb dX4_cellOf_10 (by decide) ?_
  refine lv_isub hx hb dX4_cellOf_13 ?_
  exact q_ri hx hb hr hlocks hS (Eq.symm (by rw [f_X4_cellOf])) dX4_cellOf_14

def f_X4_shifted (a0 : Int64) (a1 : Int64) : Int64 :=
  (f_X4_ofAddress (f_X4_segmentOf a0) ((((f_X4_cellOf a0) : Int32).toInt64) + a1))

set_option maxHeartbeats 4000000 in
set_option maxRecDepth 100000 in
theorem c_X4_shifted (l : Launch) (D : va_G) (a0 : Int64) (a1 : Int64) : q_roL l yX4_shifted wsX4_shifted ({ frames := 1, cells := 0, slots := 0, locals := 22 }) D [] [] [.long a0, .long a1] (f_X4_shifted a0 a1) := by
  refine q_roL_of (cc := cX4_shifted) (maxL := 4) (ret := (some .long)) (plainFor_of_name (by decide)) rfl (Nat.le_of_ble_eq_true rfl) ?_
  intro p e s m below meth c ls A hx hb hr hml hown hts hlocks hP hK hA hS hl
  have hown : s.vm.findClass RX4 = some m.cls := hown
  have hl : lv_has ls 4 [(0, .long a0), (2, .long a1)] := hl
  have hfix : CallFix p m c cX4_shifted 4 s [.long a0, .long a1].toArray wsX4_shifted RX4 := ⟨hx, hb, hml, hown, hts⟩
  refine lv_lload_n hx hb dX4_shifted_0 rfl (lv_at hl 0 rfl) ?_
  refine q_callSi (As := [.long a0]) (rest := []) (c_X4_segmentOf l D a0) hfix (va_cwS 1 hts gX4_shifted_X4_segmentOf rfl rfl rfl (by decide +kernel) ⟨Nat.le_of_ble_eq_true rfl, Nat.le_of_ble_eq_true rfl⟩) rfl hl.1 rfl (Nat.le_of_ble_eq_true rfl) ⟨Nat.zero_le _, Nat.zero_le _⟩ hP hK hS hA [] [] rfl rfl dX4_shifted_1 (fun H locs hP hS => ?_)
  refine lv_lload_n hx hb dX4_shifted_4 rfl (lv_at hl 0 rfl) ?_
  refine q_callSi (As := [.long a0]) (rest := [.int (f_X4_segmentOf a0)]) (c_X4_cellOf l D a0) hfix (va_cwS 1 hts gX4_shifted_X4_cellOf rfl rfl rfl (by decide +kernel) ⟨Nat.le_of_ble_eq_true rfl, Nat.le_of_ble_eq_true rfl⟩) rfl hl.1 rfl (Nat.le_of_ble_eq_true rfl) ⟨Nat.zero_le _, Nat.zero_le _⟩ hP hK hS hA [] [] rfl rfl dX4_shifted_5 (fun H locs hP hS => ?_)
  refine lv_i2l hx hb dX4_shifted_8 rfl ?_
  refine lv_lload_n hx hb dX4_shifted_9 rfl (lv_at hl 1 rfl) ?_
  refine lv_ladd hx hb dX4_shifted_10 ?_
  refine q_callSl (As := [.int (f_X4_segmentOf a0), .long ((((f_X4_cellOf a0) : Int32).toInt64) + a1)]) (rest := []) (c_X4_ofAddress l D (f_X4_segmentOf a0) ((((f_X4_cellOf a0) : Int32).toInt64) + a1)) hfix (va_cwS 2 hts gX4_shifted_X4_ofAddress rfl rfl rfl (by decide +kernel) ⟨Nat.le_of_ble_eq_true rfl, Nat.le_of_ble_eq_true rfl⟩) rfl hl.1 rfl (Nat.le_of_ble_eq_true rfl) ⟨Nat.zero_le _, Nat.zero_le _⟩ hP hK hS hA [] [] rfl rfl dX4_shifted_11 (fun H locs hP hS => ?_)
  exact q_rl hx hb hr hlocks hS (Eq.symm (by rw [f_X4_shifted])) dX4_shifted_14

def f_X4_further (a0 : Int64) (a1 : Int64) : Int64 :=
  (if 1000 < a1 then (if a1 < 2305843009213692951 then (-1) else (f_X4_shifted a0 (a1 - 2305843009213693951))) else (f_X4_shifted a0 a1))

set_option maxHeartbeats 4000000 in
set_option maxRecDepth 100000 in
theorem c_X4_further (l : Launch) (D : va_G) (a0 : Int64) (a1 : Int64) : q_roL l yX4_further wsX4_further ({ frames := 2, cells := 0, slots := 0, locals := 45 }) D [] [] [.long a0, .long a1] (f_X4_further a0 a1) := by
  refine q_roL_of (cc := cX4_further) (maxL := 4) (ret := (some .long)) (plainFor_of_name (by decide)) rfl (Nat.le_of_ble_eq_true rfl) ?_
  intro p e s m below meth c ls A hx hb hr hml hown hts hlocks hP hK hA hS hl
  have hown : s.vm.findClass RX4 = some m.cls := hown
  have hl : lv_has ls 4 [(0, .long a0), (2, .long a1)] := hl
  have hfix : CallFix p m c cX4_further 4 s [.long a0, .long a1].toArray wsX4_further RX4 := ⟨hx, hb, hml, hown, hts⟩
  refine lv_lload_n hx hb dX4_further_0 rfl (lv_at hl 1 rfl) ?_
  refine lv_ldc2 (v := 1000) hx hb hown (hts (.constantLong RX4 11 (1000)) (by decide +kernel)) dX4_further_1 ?_
  refine q_gt (tgt := 14) hx hb dX4_further_4 dX4_further_5 (by decide) (fun c1 => ?_) (fun c1 => ?_)
  · refine lv_lload_n hx hb dX4_further_14 rfl (lv_at hl 1 rfl) ?_
    refine lv_ldc2 (v := 2305843009213692951) hx hb hown (hts (.constantLong RX4 62 (2305843009213692951)) (by decide +kernel)) dX4_further_15 ?_
    refine q_lt (tgt := 34) hx hb dX4_further_18 dX4_further_19 (by decide) (fun c2 => ?_) (fun c2 => ?_)
    · refine lv_ldc2 (v := -1) hx hb hown (hts (.constantLong RX4 13 (-1)) (by decide +kernel)) dX4_further_34 ?_
      exact q_rl hx hb hr hlocks hS (Eq.symm (by rw [f_X4_further, if_pos c1, if_pos c2])) dX4_further_37
    · refine lv_lload_n hx hb dX4_further_22 rfl (lv_at hl 0 rfl) ?_
      refine lv_lload_n hx hb dX4_further_23 rfl (lv_at hl 1 rfl) ?_
      refine lv_ldc2 (v := 2305843009213693951) hx hb hown (hts (.constantLong RX4 64 (2305843009213693951)) (by decide +kernel)) dX4_further_24 ?_
      refine lv_lsub hx hb dX4_further_27 ?_
      refine q_callSl (As := [.long a0, .long (a1 - 2305843009213693951)]) (rest := []) (c_X4_shifted l D a0 (a1 - 2305843009213693951)) hfix (va_cwS 2 hts gX4_further_X4_shifted rfl rfl rfl (by decide +kernel) ⟨Nat.le_of_ble_eq_true rfl, Nat.le_of_ble_eq_true rfl⟩) rfl hl.1 rfl (Nat.le_of_ble_eq_true rfl) ⟨Nat.zero_le _, Nat.zero_le _⟩ hP hK hS hA [] [] rfl rfl dX4_further_28 (fun H locs hP hS => ?_)
      refine lv_goto (tgt := 37) hx hb dX4_further_31 (by decide) ?_
      exact q_rl hx hb hr hlocks hS (Eq.symm (by rw [f_X4_further, if_pos c1, if_neg c2])) dX4_further_37
  · refine lv_lload_n hx hb dX4_further_8 rfl (lv_at hl 0 rfl) ?_
    refine lv_lload_n hx hb dX4_further_9 rfl (lv_at hl 1 rfl) ?_
    refine q_callSl (As := [.long a0, .long a1]) (rest := []) (c_X4_shifted l D a0 a1) hfix (va_cwS 2 hts gX4_further_X4_shifted rfl rfl rfl (by decide +kernel) ⟨Nat.le_of_ble_eq_true rfl, Nat.le_of_ble_eq_true rfl⟩) rfl hl.1 rfl (Nat.le_of_ble_eq_true rfl) ⟨Nat.zero_le _, Nat.zero_le _⟩ hP hK hS hA [] [] rfl rfl dX4_further_10 (fun H locs hP hS => ?_)
    exact q_rl hx hb hr hlocks hS (Eq.symm (by rw [f_X4_further, if_neg c1])) dX4_further_13

def f_X4_plus_J40 (a0 : Int64) (a1 : Int64) : Int64 :=
  (if (f_X4_isNumber a0) = 0 then (-1) else (if (f_X4_isAddress a1) = 0 then (-1) else (f_X4_further a1 a0)))

def f_X4_plus_J20 (a0 : Int64) (a1 : Int64) : Int64 :=
  (if (f_X4_isAddress a0) = 0 then (f_X4_plus_J40 a0 a1) else (if (f_X4_isNumber a1) = 0 then (f_X4_plus_J40 a0 a1) else (f_X4_further a0 a1)))

def f_X4_plus (a0 : Int64) (a1 : Int64) : Int64 :=
  (if (f_X4_isNumber a0) = 0 then (f_X4_plus_J20 a0 a1) else (if (f_X4_isNumber a1) = 0 then (f_X4_plus_J20 a0 a1) else (f_X0_sum a0 a1)))

set_option maxHeartbeats 4000000 in
set_option maxRecDepth 100000 in
theorem c_X4_plus (l : Launch) (D : va_G) (a0 : Int64) (a1 : Int64) : q_roL l yX4_plus wsX4_plus ({ frames := 3, cells := 0, slots := 0, locals := 68 }) D [] [] [.long a0, .long a1] (f_X4_plus a0 a1) := by
  refine q_roL_of (cc := cX4_plus) (maxL := 4) (ret := (some .long)) (plainFor_of_name (by decide)) rfl (Nat.le_of_ble_eq_true rfl) ?_
  intro p e s m below meth c ls A hx hb hr hml hown hts hlocks hP hK hA hS hl
  have hown : s.vm.findClass RX4 = some m.cls := hown
  have hl : lv_has ls 4 [(0, .long a0), (2, .long a1)] := hl
  have hfix : CallFix p m c cX4_plus 4 s [.long a0, .long a1].toArray wsX4_plus RX4 := ⟨hx, hb, hml, hown, hts⟩
  refine lv_lload_n hx hb dX4_plus_0 rfl (lv_at hl 0 rfl) ?_
  refine q_callSi (As := [.long a0]) (rest := []) (c_X4_isNumber l D a0) hfix (va_cwS 1 hts gX4_plus_X4_isNumber rfl rfl rfl (by decide +kernel) ⟨Nat.le_of_ble_eq_true rfl, Nat.le_of_ble_eq_true rfl⟩) rfl hl.1 rfl (Nat.le_of_ble_eq_true rfl) ⟨Nat.zero_le _, Nat.zero_le _⟩ hP hK hS hA [] [] rfl rfl dX4_plus_1 (fun H locs hP hS => ?_)
  have kJ20 : ∀ (H : Heap) (locs : List Loc) (ls : Array Slot), (f_X4_plus a0 a1) = (f_X4_plus_J20 a0 a1) → va_P D vwCl [] H → va_S A s.heap H locs → lv_has ls 4 [(0, .long a0), (2, .long a1)] → W p l e ({ frames := 3, cells := 0, slots := 0, locals := 68 }) s m [.long a0, .long a1].toArray below meth c H locs 0 0 (MQ below (va_Ql (fun r (_ : Unit) => r = (f_X4_plus a0 a1)) (fun _ _ => True) A) [.long a0, .long a1].toArray s 0 0 A) (F0 m 20 ls []) := by
    intro H locs ls hJ20 hP hS hl
    refine lv_lload_n hx hb dX4_plus_20 rfl (lv_at hl 0 rfl) ?_
    refine q_callSi (As := [.long a0]) (rest := []) (c_X4_isAddress l D a0) hfix (va_cwS 1 hts gX4_plus_X4_isAddress rfl rfl rfl (by decide +kernel) ⟨Nat.le_of_ble_eq_true rfl, Nat.le_of_ble_eq_true rfl⟩) rfl hl.1 rfl (Nat.le_of_ble_eq_true rfl) ⟨Nat.zero_le _, Nat.zero_le _⟩ hP hK hS hA [] [] rfl rfl dX4_plus_21 (fun H locs hP hS => ?_)
    have kJ40 : ∀ (H : Heap) (locs : List Loc) (ls : Array Slot), (f_X4_plus a0 a1) = (f_X4_plus_J40 a0 a1) → va_P D vwCl [] H → va_S A s.heap H locs → lv_has ls 4 [(0, .long a0), (2, .long a1)] → W p l e ({ frames := 3, cells := 0, slots := 0, locals := 68 }) s m [.long a0, .long a1].toArray below meth c H locs 0 0 (MQ below (va_Ql (fun r (_ : Unit) => r = (f_X4_plus a0 a1)) (fun _ _ => True) A) [.long a0, .long a1].toArray s 0 0 A) (F0 m 40 ls []) := by
      intro H locs ls hJ40 hP hS hl
      refine lv_lload_n hx hb dX4_plus_40 rfl (lv_at hl 0 rfl) ?_
      refine q_callSi (As := [.long a0]) (rest := []) (c_X4_isNumber l D a0) hfix (va_cwS 1 hts gX4_plus_X4_isNumber rfl rfl rfl (by decide +kernel) ⟨Nat.le_of_ble_eq_true rfl, Nat.le_of_ble_eq_true rfl⟩) rfl hl.1 rfl (Nat.le_of_ble_eq_true rfl) ⟨Nat.zero_le _, Nat.zero_le _⟩ hP hK hS hA [] [] rfl rfl dX4_plus_41 (fun H locs hP hS => ?_)
      refine lv_if_eq (tgt := 60) hx hb dX4_plus_44 (by decide) (fun c5 => ?_) (fun c5 => ?_)
      · refine lv_ldc2 (v := -1) hx hb hown (hts (.constantLong RX4 13 (-1)) (by decide +kernel)) dX4_plus_60 ?_
        exact q_rl hx hb hr hlocks hS (Eq.symm (by rw [hJ40, f_X4_plus_J40, if_pos c5])) dX4_plus_63
      · refine lv_lload_n hx hb dX4_plus_47 rfl (lv_at hl 1 rfl) ?_
        refine q_callSi (As := [.long a1]) (rest := []) (c_X4_isAddress l D a1) hfix (va_cwS 1 hts gX4_plus_X4_isAddress rfl rfl rfl (by decide +kernel) ⟨Nat.le_of_ble_eq_true rfl, Nat.le_of_ble_eq_true rfl⟩) rfl hl.1 rfl (Nat.le_of_ble_eq_true rfl) ⟨Nat.zero_le _, Nat.zero_le _⟩ hP hK hS hA [] [] rfl rfl dX4_plus_48 (fun H locs hP hS => ?_)
        refine lv_if_eq (tgt := 60) hx hb dX4_plus_51 (by decide) (fun c6 => ?_) (fun c6 => ?_)
        · refine lv_ldc2 (v := -1) hx hb hown (hts (.constantLong RX4 13 (-1)) (by decide +kernel)) dX4_plus_60 ?_
          exact q_rl hx hb hr hlocks hS (Eq.symm (by rw [hJ40, f_X4_plus_J40, if_neg c5, if_pos c6])) dX4_plus_63
        · refine lv_lload_n hx hb dX4_plus_54 rfl (lv_at hl 1 rfl) ?_
          refine lv_lload_n hx hb dX4_plus_55 rfl (lv_at hl 0 rfl) ?_
          refine q_callSl (As := [.long a1, .long a0]) (rest := []) (c_X4_further l D a1 a0) hfix (va_cwS 2 hts gX4_plus_X4_further rfl rfl rfl (by decide +kernel) ⟨Nat.le_of_ble_eq_true rfl, Nat.le_of_ble_eq_true rfl⟩) rfl hl.1 rfl (Nat.le_of_ble_eq_true rfl) ⟨Nat.zero_le _, Nat.zero_le _⟩ hP hK hS hA [] [] rfl rfl dX4_plus_56 (fun H locs hP hS => ?_)
          exact q_rl hx hb hr hlocks hS (Eq.symm (by rw [hJ40, f_X4_plus_J40, if_neg c5, if_neg c6])) dX4_plus_59
    refine lv_if_eq (tgt := 40) hx hb dX4_plus_24 (by decide) (fun c3 => ?_) (fun c3 => ?_)
    · exact kJ40 _ _ _ (by rw [hJ20, f_X4_plus_J20, if_pos c3]) hP hS (lv_sub hl [0, 1] rfl)
    · refine lv_lload_n hx hb dX4_plus_27 rfl (lv_at hl 1 rfl) ?_
      refine q_callSi (As := [.long a1]) (rest := []) (c_X4_isNumber l D a1) hfix (va_cwS 1 hts gX4_plus_X4_isNumber rfl rfl rfl (by decide +kernel) ⟨Nat.le_of_ble_eq_true rfl, Nat.le_of_ble_eq_true rfl⟩) rfl hl.1 rfl (Nat.le_of_ble_eq_true rfl) ⟨Nat.zero_le _, Nat.zero_le _⟩ hP hK hS hA [] [] rfl rfl dX4_plus_28 (fun H locs hP hS => ?_)
      refine lv_if_eq (tgt := 40) hx hb dX4_plus_31 (by decide) (fun c4 => ?_) (fun c4 => ?_)
      · exact kJ40 _ _ _ (by rw [hJ20, f_X4_plus_J20, if_neg c3, if_pos c4]) hP hS (lv_sub hl [0, 1] rfl)
      · refine lv_lload_n hx hb dX4_plus_34 rfl (lv_at hl 0 rfl) ?_
        refine lv_lload_n hx hb dX4_plus_35 rfl (lv_at hl 1 rfl) ?_
        refine q_callSl (As := [.long a0, .long a1]) (rest := []) (c_X4_further l D a0 a1) hfix (va_cwS 2 hts gX4_plus_X4_further rfl rfl rfl (by decide +kernel) ⟨Nat.le_of_ble_eq_true rfl, Nat.le_of_ble_eq_true rfl⟩) rfl hl.1 rfl (Nat.le_of_ble_eq_true rfl) ⟨Nat.zero_le _, Nat.zero_le _⟩ hP hK hS hA [] [] rfl rfl dX4_plus_36 (fun H locs hP hS => ?_)
        exact q_rl hx hb hr hlocks hS (Eq.symm (by rw [hJ20, f_X4_plus_J20, if_neg c3, if_neg c4])) dX4_plus_39
  refine lv_if_eq (tgt := 20) hx hb dX4_plus_4 (by decide) (fun c1 => ?_) (fun c1 => ?_)
  · exact kJ20 _ _ _ (by rw [f_X4_plus, if_pos c1]) hP hS (lv_sub hl [0, 1] rfl)
  · refine lv_lload_n hx hb dX4_plus_7 rfl (lv_at hl 1 rfl) ?_
    refine q_callSi (As := [.long a1]) (rest := []) (c_X4_isNumber l D a1) hfix (va_cwS 1 hts gX4_plus_X4_isNumber rfl rfl rfl (by decide +kernel) ⟨Nat.le_of_ble_eq_true rfl, Nat.le_of_ble_eq_true rfl⟩) rfl hl.1 rfl (Nat.le_of_ble_eq_true rfl) ⟨Nat.zero_le _, Nat.zero_le _⟩ hP hK hS hA [] [] rfl rfl dX4_plus_8 (fun H locs hP hS => ?_)
    refine lv_if_eq (tgt := 20) hx hb dX4_plus_11 (by decide) (fun c2 => ?_) (fun c2 => ?_)
    · exact kJ20 _ _ _ (by rw [f_X4_plus, if_neg c1, if_pos c2]) hP hS (lv_sub hl [0, 1] rfl)
    · refine lv_lload_n hx hb dX4_plus_14 rfl (lv_at hl 0 rfl) ?_
      refine lv_lload_n hx hb dX4_plus_15 rfl (lv_at hl 1 rfl) ?_
      refine q_callSl (As := [.long a0, .long a1]) (rest := []) (c_X0_sum l D a0 a1) hfix (va_cwS 2 hts gX4_plus_X0_sum rfl rfl rfl (by decide +kernel) ⟨Nat.le_of_ble_eq_true rfl, Nat.le_of_ble_eq_true rfl⟩) rfl hl.1 rfl (Nat.le_of_ble_eq_true rfl) ⟨Nat.zero_le _, Nat.zero_le _⟩ hP hK hS hA [] [] rfl rfl dX4_plus_16 (fun H locs hP hS => ?_)
      exact q_rl hx hb hr hlocks hS (Eq.symm (by rw [f_X4_plus, if_neg c1, if_neg c2])) dX4_plus_19

def f_X4_minus_J44 (a0 : Int64) (a1 : Int64) : Int64 :=
  (if (f_X4_isAddress a0) = 0 then (-1) else (if (f_X4_isAddress a1) = 0 then (-1) else (if (f_X4_segmentOf a0) = (f_X4_segmentOf a1) then (f_X0_reduce (((f_X4_cellOf a0) - (f_X4_cellOf a1) : Int32).toInt64)) else (-1))))

def f_X4_minus_J20 (a0 : Int64) (a1 : Int64) : Int64 :=
  (if (f_X4_isAddress a0) = 0 then (f_X4_minus_J44 a0 a1) else (if (f_X4_isNumber a1) = 0 then (f_X4_minus_J44 a0 a1) else (f_X4_further a0 (f_X0_difference 0 a1))))

def f_X4_minus (a0 : Int64) (a1 : Int64) : Int64 :=
  (if (f_X4_isNumber a0) = 0 then (f_X4_minus_J20 a0 a1) else (if (f_X4_isNumber a1) = 0 then (f_X4_minus_J20 a0 a1) else (f_X0_difference a0 a1)))

set_option maxHeartbeats 4000000 in
set_option maxRecDepth 100000 in
theorem c_X4_minus (l : Launch) (D : va_G) (a0 : Int64) (a1 : Int64) : q_roL l yX4_minus wsX4_minus ({ frames := 3, cells := 0, slots := 0, locals := 68 }) D [] [] [.long a0, .long a1] (f_X4_minus a0 a1) := by
  refine q_roL_of (cc := cX4_minus) (maxL := 4) (ret := (some .long)) (plainFor_of_name (by decide)) rfl (Nat.le_of_ble_eq_true rfl) ?_
  intro p e s m below meth c ls A hx hb hr hml hown hts hlocks hP hK hA hS hl
  have hown : s.vm.findClass RX4 = some m.cls := hown
  have hl : lv_has ls 4 [(0, .long a0), (2, .long a1)] := hl
  have hfix : CallFix p m c cX4_minus 4 s [.long a0, .long a1].toArray wsX4_minus RX4 := ⟨hx, hb, hml, hown, hts⟩
  refine lv_lload_n hx hb dX4_minus_0 rfl (lv_at hl 0 rfl) ?_
  refine q_callSi (As := [.long a0]) (rest := []) (c_X4_isNumber l D a0) hfix (va_cwS 1 hts gX4_minus_X4_isNumber rfl rfl rfl (by decide +kernel) ⟨Nat.le_of_ble_eq_true rfl, Nat.le_of_ble_eq_true rfl⟩) rfl hl.1 rfl (Nat.le_of_ble_eq_true rfl) ⟨Nat.zero_le _, Nat.zero_le _⟩ hP hK hS hA [] [] rfl rfl dX4_minus_1 (fun H locs hP hS => ?_)
  have kJ20 : ∀ (H : Heap) (locs : List Loc) (ls : Array Slot), (f_X4_minus a0 a1) = (f_X4_minus_J20 a0 a1) → va_P D vwCl [] H → va_S A s.heap H locs → lv_has ls 4 [(0, .long a0), (2, .long a1)] → W p l e ({ frames := 3, cells := 0, slots := 0, locals := 68 }) s m [.long a0, .long a1].toArray below meth c H locs 0 0 (MQ below (va_Ql (fun r (_ : Unit) => r = (f_X4_minus a0 a1)) (fun _ _ => True) A) [.long a0, .long a1].toArray s 0 0 A) (F0 m 20 ls []) := by
    intro H locs ls hJ20 hP hS hl
    refine lv_lload_n hx hb dX4_minus_20 rfl (lv_at hl 0 rfl) ?_
    refine q_callSi (As := [.long a0]) (rest := []) (c_X4_isAddress l D a0) hfix (va_cwS 1 hts gX4_minus_X4_isAddress rfl rfl rfl (by decide +kernel) ⟨Nat.le_of_ble_eq_true rfl, Nat.le_of_ble_eq_true rfl⟩) rfl hl.1 rfl (Nat.le_of_ble_eq_true rfl) ⟨Nat.zero_le _, Nat.zero_le _⟩ hP hK hS hA [] [] rfl rfl dX4_minus_21 (fun H locs hP hS => ?_)
    have kJ44 : ∀ (H : Heap) (locs : List Loc) (ls : Array Slot), (f_X4_minus a0 a1) = (f_X4_minus_J44 a0 a1) → va_P D vwCl [] H → va_S A s.heap H locs → lv_has ls 4 [(0, .long a0), (2, .long a1)] → W p l e ({ frames := 3, cells := 0, slots := 0, locals := 68 }) s m [.long a0, .long a1].toArray below meth c H locs 0 0 (MQ below (va_Ql (fun r (_ : Unit) => r = (f_X4_minus a0 a1)) (fun _ _ => True) A) [.long a0, .long a1].toArray s 0 0 A) (F0 m 44 ls []) := by
      intro H locs ls hJ44 hP hS hl
      refine lv_lload_n hx hb dX4_minus_44 rfl (lv_at hl 0 rfl) ?_
      refine q_callSi (As := [.long a0]) (rest := []) (c_X4_isAddress l D a0) hfix (va_cwS 1 hts gX4_minus_X4_isAddress rfl rfl rfl (by decide +kernel) ⟨Nat.le_of_ble_eq_true rfl, Nat.le_of_ble_eq_true rfl⟩) rfl hl.1 rfl (Nat.le_of_ble_eq_true rfl) ⟨Nat.zero_le _, Nat.zero_le _⟩ hP hK hS hA [] [] rfl rfl dX4_minus_45 (fun H locs hP hS => ?_)
      refine lv_if_eq (tgt := 83) hx hb dX4_minus_48 (by decide) (fun c5 => ?_) (fun c5 => ?_)
      · refine lv_ldc2 (v := -1) hx hb hown (hts (.constantLong RX4 13 (-1)) (by decide +kernel)) dX4_minus_83 ?_
        exact q_rl hx hb hr hlocks hS (Eq.symm (by rw [hJ44, f_X4_minus_J44, if_pos c5])) dX4_minus_86
      · refine lv_lload_n hx hb dX4_minus_51 rfl (lv_at hl 1 rfl) ?_
        refine q_callSi (As := [.long a1]) (rest := []) (c_X4_isAddress l D a1) hfix (va_cwS 1 hts gX4_minus_X4_isAddress rfl rfl rfl (by decide +kernel) ⟨Nat.le_of_ble_eq_true rfl, Nat.le_of_ble_eq_true rfl⟩) rfl hl.1 rfl (Nat.le_of_ble_eq_true rfl) ⟨Nat.zero_le _, Nat.zero_le _⟩ hP hK hS hA [] [] rfl rfl dX4_minus_52 (fun H locs hP hS => ?_)
        refine lv_if_eq (tgt := 83) hx hb dX4_minus_55 (by decide) (fun c6 => ?_) (fun c6 => ?_)
        · refine lv_ldc2 (v := -1) hx hb hown (hts (.constantLong RX4 13 (-1)) (by decide +kernel)) dX4_minus_83 ?_
          exact q_rl hx hb hr hlocks hS (Eq.symm (by rw [hJ44, f_X4_minus_J44, if_neg c5, if_pos c6])) dX4_minus_86
        · refine lv_lload_n hx hb dX4_minus_58 rfl (lv_at hl 0 rfl) ?_
          refine q_callSi (As := [.long a0]) (rest := []) (c_X4_segmentOf l D a0) hfix (va_cwS 1 hts gX4_minus_X4_segmentOf rfl rfl rfl (by decide +kernel) ⟨Nat.le_of_ble_eq_true rfl, Nat.le_of_ble_eq_true rfl⟩) rfl hl.1 rfl (Nat.le_of_ble_eq_true rfl) ⟨Nat.zero_le _, Nat.zero_le _⟩ hP hK hS hA [] [] rfl rfl dX4_minus_59 (fun H locs hP hS => ?_)
          refine lv_lload_n hx hb dX4_minus_62 rfl (lv_at hl 1 rfl) ?_
          refine q_callSi (As := [.long a1]) (rest := [.int (f_X4_segmentOf a0)]) (c_X4_segmentOf l D a1) hfix (va_cwS 1 hts gX4_minus_X4_segmentOf rfl rfl rfl (by decide +kernel) ⟨Nat.le_of_ble_eq_true rfl, Nat.le_of_ble_eq_true rfl⟩) rfl hl.1 rfl (Nat.le_of_ble_eq_true rfl) ⟨Nat.zero_le _, Nat.zero_le _⟩ hP hK hS hA [] [] rfl rfl dX4_minus_63 (fun H locs hP hS => ?_)
          refine lv_icmp_ne (tgt := 83) hx hb dX4_minus_66 (by decide) (fun c7 => ?_) (fun c7 => ?_)
          · refine lv_ldc2 (v := -1) hx hb hown (hts (.constantLong RX4 13 (-1)) (by decide +kernel)) dX4_minus_83 ?_
            exact q_rl hx hb hr hlocks hS (Eq.symm (by rw [hJ44, f_X4_minus_J44, if_neg c5, if_neg c6, if_neg c7])) dX4_minus_86
          · refine lv_lload_n hx hb dX4_minus_69 rfl (lv_at hl 0 rfl) ?_
            refine q_callSi (As := [.long a0]) (rest := []) (c_X4_cellOf l D a0) hfix (va_cwS 1 hts gX4_minus_X4_cellOf rfl rfl rfl (by decide +kernel) ⟨Nat.le_of_ble_eq_true rfl, Nat.le_of_ble_eq_true rfl⟩) rfl hl.1 rfl (Nat.le_of_ble_eq_true rfl) ⟨Nat.zero_le _, Nat.zero_le _⟩ hP hK hS hA [] [] rfl rfl dX4_minus_70 (fun H locs hP hS => ?_)
            refine lv_lload_n hx hb dX4_minus_73 rfl (lv_at hl 1 rfl) ?_
            refine q_callSi (As := [.long a1]) (rest := [.int (f_X4_cellOf a0)]) (c_X4_cellOf l D a1) hfix (va_cwS 1 hts gX4_minus_X4_cellOf rfl rfl rfl (by decide +kernel) ⟨Nat.le_of_ble_eq_true rfl, Nat.le_of_ble_eq_true rfl⟩) rfl hl.1 rfl (Nat.le_of_ble_eq_true rfl) ⟨Nat.zero_le _, Nat.zero_le _⟩ hP hK hS hA [] [] rfl rfl dX4_minus_74 (fun H locs hP hS => ?_)
            refine lv_isub hx hb dX4_minus_77 ?_
            refine lv_i2l hx hb dX4_minus_78 rfl ?_
            refine q_callSl (As := [.long (((f_X4_cellOf a0) - (f_X4_cellOf a1) : Int32).toInt64)]) (rest := []) (c_X0_reduce l D (((f_X4_cellOf a0) - (f_X4_cellOf a1) : Int32).toInt64)) hfix (va_cwS 1 hts gX4_minus_X0_reduce rfl rfl rfl (by decide +kernel) ⟨Nat.le_of_ble_eq_true rfl, Nat.le_of_ble_eq_true rfl⟩) rfl hl.1 rfl (Nat.le_of_ble_eq_true rfl) ⟨Nat.zero_le _, Nat.zero_le _⟩ hP hK hS hA [] [] rfl rfl dX4_minus_79 (fun H locs hP hS => ?_)
            exact q_rl hx hb hr hlocks hS (Eq.symm (by rw [hJ44, f_X4_minus_J44, if_neg c5, if_neg c6, if_pos c7])) dX4_minus_82
    refine lv_if_eq (tgt := 44) hx hb dX4_minus_24 (by decide) (fun c3 => ?_) (fun c3 => ?_)
    · exact kJ44 _ _ _ (by rw [hJ20, f_X4_minus_J20, if_pos c3]) hP hS (lv_sub hl [0, 1] rfl)
    · refine lv_lload_n hx hb dX4_minus_27 rfl (lv_at hl 1 rfl) ?_
      refine q_callSi (As := [.long a1]) (rest := []) (c_X4_isNumber l D a1) hfix (va_cwS 1 hts gX4_minus_X4_isNumber rfl rfl rfl (by decide +kernel) ⟨Nat.le_of_ble_eq_true rfl, Nat.le_of_ble_eq_true rfl⟩) rfl hl.1 rfl (Nat.le_of_ble_eq_true rfl) ⟨Nat.zero_le _, Nat.zero_le _⟩ hP hK hS hA [] [] rfl rfl dX4_minus_28 (fun H locs hP hS => ?_)
      refine lv_if_eq (tgt := 44) hx hb dX4_minus_31 (by decide) (fun c4 => ?_) (fun c4 => ?_)
      · exact kJ44 _ _ _ (by rw [hJ20, f_X4_minus_J20, if_neg c3, if_pos c4]) hP hS (lv_sub hl [0, 1] rfl)
      · refine lv_lload_n hx hb dX4_minus_34 rfl (lv_at hl 0 rfl) ?_
        refine lv_lconst (v := 0) hx hb dX4_minus_35 (by decide) ?_
        refine lv_lload_n hx hb dX4_minus_36 rfl (lv_at hl 1 rfl) ?_
        refine q_callSl (As := [.long 0, .long a1]) (rest := [.long a0]) (c_X0_difference l D 0 a1) hfix (va_cwS 2 hts gX4_minus_X0_difference rfl rfl rfl (by decide +kernel) ⟨Nat.le_of_ble_eq_true rfl, Nat.le_of_ble_eq_true rfl⟩) rfl hl.1 rfl (Nat.le_of_ble_eq_true rfl) ⟨Nat.zero_le _, Nat.zero_le _⟩ hP hK hS hA [] [] rfl rfl dX4_minus_37 (fun H locs hP hS => ?_)
        refine q_callSl (As := [.long a0, .long (f_X0_difference 0 a1)]) (rest := []) (c_X4_further l D a0 (f_X0_difference 0 a1)) hfix (va_cwS 2 hts gX4_minus_X4_further rfl rfl rfl (by decide +kernel) ⟨Nat.le_of_ble_eq_true rfl, Nat.le_of_ble_eq_true rfl⟩) rfl hl.1 rfl (Nat.le_of_ble_eq_true rfl) ⟨Nat.zero_le _, Nat.zero_le _⟩ hP hK hS hA [] [] rfl rfl dX4_minus_40 (fun H locs hP hS => ?_)
        exact q_rl hx hb hr hlocks hS (Eq.symm (by rw [hJ20, f_X4_minus_J20, if_neg c3, if_neg c4])) dX4_minus_43
  refine lv_if_eq (tgt := 20) hx hb dX4_minus_4 (by decide) (fun c1 => ?_) (fun c1 => ?_)
  · exact kJ20 _ _ _ (by rw [f_X4_minus, if_pos c1]) hP hS (lv_sub hl [0, 1] rfl)
  · refine lv_lload_n hx hb dX4_minus_7 rfl (lv_at hl 1 rfl) ?_
    refine q_callSi (As := [.long a1]) (rest := []) (c_X4_isNumber l D a1) hfix (va_cwS 1 hts gX4_minus_X4_isNumber rfl rfl rfl (by decide +kernel) ⟨Nat.le_of_ble_eq_true rfl, Nat.le_of_ble_eq_true rfl⟩) rfl hl.1 rfl (Nat.le_of_ble_eq_true rfl) ⟨Nat.zero_le _, Nat.zero_le _⟩ hP hK hS hA [] [] rfl rfl dX4_minus_8 (fun H locs hP hS => ?_)
    refine lv_if_eq (tgt := 20) hx hb dX4_minus_11 (by decide) (fun c2 => ?_) (fun c2 => ?_)
    · exact kJ20 _ _ _ (by rw [f_X4_minus, if_neg c1, if_pos c2]) hP hS (lv_sub hl [0, 1] rfl)
    · refine lv_lload_n hx hb dX4_minus_14 rfl (lv_at hl 0 rfl) ?_
      refine lv_lload_n hx hb dX4_minus_15 rfl (lv_at hl 1 rfl) ?_
      refine q_callSl (As := [.long a0, .long a1]) (rest := []) (c_X0_difference l D a0 a1) hfix (va_cwS 2 hts gX4_minus_X0_difference rfl rfl rfl (by decide +kernel) ⟨Nat.le_of_ble_eq_true rfl, Nat.le_of_ble_eq_true rfl⟩) rfl hl.1 rfl (Nat.le_of_ble_eq_true rfl) ⟨Nat.zero_le _, Nat.zero_le _⟩ hP hK hS hA [] [] rfl rfl dX4_minus_16 (fun H locs hP hS => ?_)
      exact q_rl hx hb hr hlocks hS (Eq.symm (by rw [f_X4_minus, if_neg c1, if_neg c2])) dX4_minus_19

def f_X4_times (a0 : Int64) (a1 : Int64) : Int64 :=
  (if (f_X4_isNumber a0) = 0 then (-1) else (if (f_X4_isNumber a1) = 0 then (-1) else (f_X0_product a0 a1)))

set_option maxHeartbeats 4000000 in
set_option maxRecDepth 100000 in
theorem c_X4_times (l : Launch) (D : va_G) (a0 : Int64) (a1 : Int64) : q_roL l yX4_times wsX4_times ({ frames := 2, cells := 0, slots := 0, locals := 64 }) D [] [] [.long a0, .long a1] (f_X4_times a0 a1) := by
  refine q_roL_of (cc := cX4_times) (maxL := 4) (ret := (some .long)) (plainFor_of_name (by decide)) rfl (Nat.le_of_ble_eq_true rfl) ?_
  intro p e s m below meth c ls A hx hb hr hml hown hts hlocks hP hK hA hS hl
  have hown : s.vm.findClass RX4 = some m.cls := hown
  have hl : lv_has ls 4 [(0, .long a0), (2, .long a1)] := hl
  have hfix : CallFix p m c cX4_times 4 s [.long a0, .long a1].toArray wsX4_times RX4 := ⟨hx, hb, hml, hown, hts⟩
  refine lv_lload_n hx hb dX4_times_0 rfl (lv_at hl 0 rfl) ?_
  refine q_callSi (As := [.long a0]) (rest := []) (c_X4_isNumber l D a0) hfix (va_cwS 1 hts gX4_times_X4_isNumber rfl rfl rfl (by decide +kernel) ⟨Nat.le_of_ble_eq_true rfl, Nat.le_of_ble_eq_true rfl⟩) rfl hl.1 rfl (Nat.le_of_ble_eq_true rfl) ⟨Nat.zero_le _, Nat.zero_le _⟩ hP hK hS hA [] [] rfl rfl dX4_times_1 (fun H locs hP hS => ?_)
  refine lv_if_eq (tgt := 22) hx hb dX4_times_4 (by decide) (fun c1 => ?_) (fun c1 => ?_)
  · refine lv_ldc2 (v := -1) hx hb hown (hts (.constantLong RX4 13 (-1)) (by decide +kernel)) dX4_times_22 ?_
    exact q_rl hx hb hr hlocks hS (Eq.symm (by rw [f_X4_times, if_pos c1])) dX4_times_25
  · refine lv_lload_n hx hb dX4_times_7 rfl (lv_at hl 1 rfl) ?_
    refine q_callSi (As := [.long a1]) (rest := []) (c_X4_isNumber l D a1) hfix (va_cwS 1 hts gX4_times_X4_isNumber rfl rfl rfl (by decide +kernel) ⟨Nat.le_of_ble_eq_true rfl, Nat.le_of_ble_eq_true rfl⟩) rfl hl.1 rfl (Nat.le_of_ble_eq_true rfl) ⟨Nat.zero_le _, Nat.zero_le _⟩ hP hK hS hA [] [] rfl rfl dX4_times_8 (fun H locs hP hS => ?_)
    refine lv_if_eq (tgt := 22) hx hb dX4_times_11 (by decide) (fun c2 => ?_) (fun c2 => ?_)
    · refine lv_ldc2 (v := -1) hx hb hown (hts (.constantLong RX4 13 (-1)) (by decide +kernel)) dX4_times_22 ?_
      exact q_rl hx hb hr hlocks hS (Eq.symm (by rw [f_X4_times, if_neg c1, if_pos c2])) dX4_times_25
    · refine lv_lload_n hx hb dX4_times_14 rfl (lv_at hl 0 rfl) ?_
      refine lv_lload_n hx hb dX4_times_15 rfl (lv_at hl 1 rfl) ?_
      refine q_callSl (As := [.long a0, .long a1]) (rest := []) (c_X0_product l D a0 a1) hfix (va_cwS 2 hts gX4_times_X0_product rfl rfl rfl (by decide +kernel) ⟨Nat.le_of_ble_eq_true rfl, Nat.le_of_ble_eq_true rfl⟩) rfl hl.1 rfl (Nat.le_of_ble_eq_true rfl) ⟨Nat.zero_le _, Nat.zero_le _⟩ hP hK hS hA [] [] rfl rfl dX4_times_16 (fun H locs hP hS => ?_)
      refine lv_goto (tgt := 25) hx hb dX4_times_19 (by decide) ?_
      exact q_rl hx hb hr hlocks hS (Eq.symm (by rw [f_X4_times, if_neg c1, if_neg c2])) dX4_times_25

def f_X4_over (a0 : Int64) (a1 : Int64) : Int64 :=
  (if (f_X4_isNumber a0) = 0 then (-1) else (if (f_X4_isNumber a1) = 0 then (-1) else (if a1 = 0 then (-1) else (f_X0_quotient a0 a1))))

set_option maxHeartbeats 4000000 in
set_option maxRecDepth 100000 in
theorem c_X4_over (l : Launch) (D : va_G) (a0 : Int64) (a1 : Int64) : q_roL l yX4_over wsX4_over ({ frames := 3, cells := 0, slots := 0, locals := 92 }) D [] [] [.long a0, .long a1] (f_X4_over a0 a1) := by
  refine q_roL_of (cc := cX4_over) (maxL := 4) (ret := (some .long)) (plainFor_of_name (by decide)) rfl (Nat.le_of_ble_eq_true rfl) ?_
  intro p e s m below meth c ls A hx hb hr hml hown hts hlocks hP hK hA hS hl
  have hown : s.vm.findClass RX4 = some m.cls := hown
  have hl : lv_has ls 4 [(0, .long a0), (2, .long a1)] := hl
  have hfix : CallFix p m c cX4_over 4 s [.long a0, .long a1].toArray wsX4_over RX4 := ⟨hx, hb, hml, hown, hts⟩
  refine lv_lload_n hx hb dX4_over_0 rfl (lv_at hl 0 rfl) ?_
  refine q_callSi (As := [.long a0]) (rest := []) (c_X4_isNumber l D a0) hfix (va_cwS 1 hts gX4_over_X4_isNumber rfl rfl rfl (by decide +kernel) ⟨Nat.le_of_ble_eq_true rfl, Nat.le_of_ble_eq_true rfl⟩) rfl hl.1 rfl (Nat.le_of_ble_eq_true rfl) ⟨Nat.zero_le _, Nat.zero_le _⟩ hP hK hS hA [] [] rfl rfl dX4_over_1 (fun H locs hP hS => ?_)
  refine lv_if_eq (tgt := 28) hx hb dX4_over_4 (by decide) (fun c1 => ?_) (fun c1 => ?_)
  · refine lv_ldc2 (v := -1) hx hb hown (hts (.constantLong RX4 13 (-1)) (by decide +kernel)) dX4_over_28 ?_
    exact q_rl hx hb hr hlocks hS (Eq.symm (by rw [f_X4_over, if_pos c1])) dX4_over_31
  · refine lv_lload_n hx hb dX4_over_7 rfl (lv_at hl 1 rfl) ?_
    refine q_callSi (As := [.long a1]) (rest := []) (c_X4_isNumber l D a1) hfix (va_cwS 1 hts gX4_over_X4_isNumber rfl rfl rfl (by decide +kernel) ⟨Nat.le_of_ble_eq_true rfl, Nat.le_of_ble_eq_true rfl⟩) rfl hl.1 rfl (Nat.le_of_ble_eq_true rfl) ⟨Nat.zero_le _, Nat.zero_le _⟩ hP hK hS hA [] [] rfl rfl dX4_over_8 (fun H locs hP hS => ?_)
    refine lv_if_eq (tgt := 28) hx hb dX4_over_11 (by decide) (fun c2 => ?_) (fun c2 => ?_)
    · refine lv_ldc2 (v := -1) hx hb hown (hts (.constantLong RX4 13 (-1)) (by decide +kernel)) dX4_over_28 ?_
      exact q_rl hx hb hr hlocks hS (Eq.symm (by rw [f_X4_over, if_neg c1, if_pos c2])) dX4_over_31
    · refine lv_lload_n hx hb dX4_over_14 rfl (lv_at hl 1 rfl) ?_
      refine lv_lconst (v := 0) hx hb dX4_over_15 (by decide) ?_
      refine q_eq (tgt := 28) hx hb dX4_over_16 dX4_over_17 (by decide) (fun c3 => ?_) (fun c3 => ?_)
      · refine lv_ldc2 (v := -1) hx hb hown (hts (.constantLong RX4 13 (-1)) (by decide +kernel)) dX4_over_28 ?_
        exact q_rl hx hb hr hlocks hS (Eq.symm (by rw [f_X4_over, if_neg c1, if_neg c2, if_pos c3])) dX4_over_31
      · refine lv_lload_n hx hb dX4_over_20 rfl (lv_at hl 0 rfl) ?_
        refine lv_lload_n hx hb dX4_over_21 rfl (lv_at hl 1 rfl) ?_
        refine q_callSl (As := [.long a0, .long a1]) (rest := []) (c_X0_quotient l D a0 a1) hfix (va_cwS 2 hts gX4_over_X0_quotient rfl rfl rfl (by decide +kernel) ⟨Nat.le_of_ble_eq_true rfl, Nat.le_of_ble_eq_true rfl⟩) rfl hl.1 rfl (Nat.le_of_ble_eq_true rfl) ⟨Nat.zero_le _, Nat.zero_le _⟩ hP hK hS hA [] [] rfl rfl dX4_over_22 (fun H locs hP hS => ?_)
        refine lv_goto (tgt := 31) hx hb dX4_over_25 (by decide) ?_
        exact q_rl hx hb hr hlocks hS (Eq.symm (by rw [f_X4_over, if_neg c1, if_neg c2, if_neg c3])) dX4_over_31

