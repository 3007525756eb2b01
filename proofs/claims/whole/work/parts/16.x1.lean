def f_X6_requireCell (a0 : Int32) (a1 : Int32) : Int32 :=
  (if (f_X1_isSegment a0) = 0 then 1 else (if (f_X1_isCell a1) = 0 then 1 else 0))

set_option maxHeartbeats 4000000 in
set_option maxRecDepth 100000 in
theorem c_X6_requireCell (l : Launch) (hlk : l.stackTraces = false) (D : va_G) (a0 : Int32) (a1 : Int32) : q_xV l yX6_requireCell wsX6_requireCell ({ frames := 6, cells := 1, slots := 6, locals := 82 }) D [] [] [.int a0, .int a1] (fun (_ : Unit) => (f_X6_requireCell a0 a1) = 0) (fun k (_ : Unit) => ¬ (f_X6_requireCell a0 a1) = 0 ∧ k = (f_X6_requireCell a0 a1)) (fun (_ : Unit) => []) 1 6 := by
  refine fun sz => q_x_of (cc := cX6_requireCell) (maxL := 2) (ret := none) (by decide) rfl (Nat.le_of_ble_eq_true rfl) ?_
  intro p e s m below meth c ls hx hb hr hml hown hts hlocks hout hsz hP hK hD hE hZ hl
  subst hsz
  generalize hAe : va_A [] s.heap.size = A at hD hZ ⊢
  have hA : ∀ q, s.heap.size ≤ q → A q := fun q h => by rw [← hAe]; exact Or.inr h
  have hS : va_S A s.heap s.heap [] := va_S.rf
  have hown : s.vm.findClass RX6 = some m.cls := hown
  have hl : lv_has ls 2 [(0, .int a0), (1, .int a1)] := hl
  have hfix : CallFix p m c cX6_requireCell 2 s [.int a0, .int a1].toArray wsX6_requireCell RX6 := ⟨hx, hb, hml, hown, hts⟩
  refine lv_iload_n hx hb dX6_requireCell_0 rfl (lv_at hl 0 rfl) ?_
  refine q_callSi (As := [.int a0]) (rest := []) (c_X1_isSegment l D a0) hfix (va_cwS 1 hts gX6_requireCell_X1_isSegment rfl rfl rfl (by decide +kernel) ⟨Nat.le_of_ble_eq_true rfl, Nat.le_of_ble_eq_true rfl⟩) rfl hl.1 rfl (Nat.le_of_ble_eq_true rfl) ⟨by decide, by decide⟩ hP hK hS hA [] [] rfl rfl dX6_requireCell_1 (fun H locs hP hS => ?_)
  refine lv_if_eq (tgt := 14) hx hb dX6_requireCell_4 (by decide) (fun c1 => ?_) (fun c1 => ?_)
  · obtain ⟨sa, hsa⟩ := hE.1 (214, "there is no such segment or cell") (by decide +kernel)
    exact q_throw (cls := "java/lang/IllegalArgumentException") (text := "there is no such segment or cell") (names := ["java/lang/RuntimeException", "java/lang/Exception"]) (ik := 42) (is := 214) (ic := 46) 1 () hx hb hlk hown (by decide +kernel) (by decide +kernel) (hts (.classLink RX6 42 "java/lang/IllegalArgumentException") (by decide +kernel)) (hts (.initialized "java/lang/IllegalArgumentException") (by decide +kernel)) hsa (vx_hat (fun w h => hts w (List.mem_cons_of_mem _ (List.mem_append_right _ h))) q_bd46 (q_nw hE)) q_ok46 hZ hS (hl.1.trans hml.symm) dX6_requireCell_14 dX6_requireCell_17 dX6_requireCell_18 dX6_requireCell_20 dX6_requireCell_23 hout (by decide) (by decide) (by decide) (by decide) hlocks hP hD (by decide) (⟨by rw [f_X6_requireCell, if_pos c1]; decide, Eq.symm (by rw [f_X6_requireCell, if_pos c1])⟩) (by decide) (by decide)
  · refine lv_iload_n hx hb dX6_requireCell_7 rfl (lv_at hl 1 rfl) ?_
    refine q_callSi (As := [.int a1]) (rest := []) (c_X1_isCell l D a1) hfix (va_cwS 1 hts gX6_requireCell_X1_isCell rfl rfl rfl (by decide +kernel) ⟨Nat.le_of_ble_eq_true rfl, Nat.le_of_ble_eq_true rfl⟩) rfl hl.1 rfl (Nat.le_of_ble_eq_true rfl) ⟨by decide, by decide⟩ hP hK hS hA [] [] rfl rfl dX6_requireCell_8 (fun H locs hP hS => ?_)
    refine lv_if_ne (tgt := 24) hx hb dX6_requireCell_11 (by decide) (fun c2 => ?_) (fun c2 => ?_)
    · exact q_xrv () hx hb hr hlocks (by decide) (by decide) hP hD hS (by rw [f_X6_requireCell, if_neg c1, if_neg c2]) dX6_requireCell_24
    · obtain ⟨sa, hsa⟩ := hE.1 (214, "there is no such segment or cell") (by decide +kernel)
      exact q_throw (cls := "java/lang/IllegalArgumentException") (text := "there is no such segment or cell") (names := ["java/lang/RuntimeException", "java/lang/Exception"]) (ik := 42) (is := 214) (ic := 46) 1 () hx hb hlk hown (by decide +kernel) (by decide +kernel) (hts (.classLink RX6 42 "java/lang/IllegalArgumentException") (by decide +kernel)) (hts (.initialized "java/lang/IllegalArgumentException") (by decide +kernel)) hsa (vx_hat (fun w h => hts w (List.mem_cons_of_mem _ (List.mem_append_right _ h))) q_bd46 (q_nw hE)) q_ok46 hZ hS (hl.1.trans hml.symm) dX6_requireCell_14 dX6_requireCell_17 dX6_requireCell_18 dX6_requireCell_20 dX6_requireCell_23 hout (by decide) (by decide) (by decide) (by decide) hlocks hP hD (by decide) (⟨by rw [f_X6_requireCell, if_neg c1, if_pos c2]; decide, Eq.symm (by rw [f_X6_requireCell, if_neg c1, if_pos c2])⟩) (by decide) (by decide)

def f_X6_requireRegister (a0 : Int32) : Int32 :=
  (if a0 < 0 then 1 else (if a0 ≤ 2 then 0 else 1))

set_option maxHeartbeats 4000000 in
set_option maxRecDepth 100000 in
theorem c_X6_requireRegister (l : Launch) (hlk : l.stackTraces = false) (D : va_G) (a0 : Int32) : q_xV l yX6_requireRegister wsX6_requireRegister ({ frames := 6, cells := 1, slots := 6, locals := 82 }) D [] [] [.int a0] (fun (_ : Unit) => (f_X6_requireRegister a0) = 0) (fun k (_ : Unit) => ¬ (f_X6_requireRegister a0) = 0 ∧ k = (f_X6_requireRegister a0)) (fun (_ : Unit) => []) 1 6 := by
  refine fun sz => q_x_of (cc := cX6_requireRegister) (maxL := 1) (ret := none) (by decide) rfl (Nat.le_of_ble_eq_true rfl) ?_
  intro p e s m below meth c ls hx hb hr hml hown hts hlocks hout hsz hP hK hD hE hZ hl
  subst hsz
  generalize hAe : va_A [] s.heap.size = A at hD hZ ⊢
  have hA : ∀ q, s.heap.size ≤ q → A q := fun q h => by rw [← hAe]; exact Or.inr h
  have hS : va_S A s.heap s.heap [] := va_S.rf
  have hown : s.vm.findClass RX6 = some m.cls := hown
  have hl : lv_has ls 1 [(0, .int a0)] := hl
  refine lv_iload_n hx hb dX6_requireRegister_0 rfl (lv_at hl 0 rfl) ?_
  refine lv_if_lt (tgt := 9) hx hb dX6_requireRegister_1 (by decide) (fun c1 => ?_) (fun c1 => ?_)
  · obtain ⟨sa, hsa⟩ := hE.1 (216, "there is no such register") (by decide +kernel)
    exact q_throw (cls := "java/lang/IllegalArgumentException") (text := "there is no such register") (names := ["java/lang/RuntimeException", "java/lang/Exception"]) (ik := 42) (is := 216) (ic := 46) 1 () hx hb hlk hown (by decide +kernel) (by decide +kernel) (hts (.classLink RX6 42 "java/lang/IllegalArgumentException") (by decide +kernel)) (hts (.initialized "java/lang/IllegalArgumentException") (by decide +kernel)) hsa (vx_hat (fun w h => hts w (List.mem_cons_of_mem _ (List.mem_append_right _ h))) q_bd46 (q_nw hE)) q_ok46 hZ hS (hl.1.trans hml.symm) dX6_requireRegister_9 dX6_requireRegister_12 dX6_requireRegister_13 dX6_requireRegister_15 dX6_requireRegister_18 hout (by decide) (by decide) (by decide) (by decide) hlocks hP hD (by decide) (⟨by rw [f_X6_requireRegister, if_pos c1]; decide, Eq.symm (by rw [f_X6_requireRegister, if_pos c1])⟩) (by decide) (by decide)
  · refine lv_iload_n hx hb dX6_requireRegister_4 rfl (lv_at hl 0 rfl) ?_
    refine lv_iconst (v := 2) hx hb dX6_requireRegister_5 (by decide) ?_
    refine lv_icmp_le (tgt := 19) hx hb dX6_requireRegister_6 (by decide) (fun c2 => ?_) (fun c2 => ?_)
    · exact q_xrv () hx hb hr hlocks (by decide) (by decide) hP hD hS (by rw [f_X6_requireRegister, if_neg c1, if_pos c2]) dX6_requireRegister_19
    · obtain ⟨sa, hsa⟩ := hE.1 (216, "there is no such register") (by decide +kernel)
      exact q_throw (cls := "java/lang/IllegalArgumentException") (text := "there is no such register") (names := ["java/lang/RuntimeException", "java/lang/Exception"]) (ik := 42) (is := 216) (ic := 46) 1 () hx hb hlk hown (by decide +kernel) (by decide +kernel) (hts (.classLink RX6 42 "java/lang/IllegalArgumentException") (by decide +kernel)) (hts (.initialized "java/lang/IllegalArgumentException") (by decide +kernel)) hsa (vx_hat (fun w h => hts w (List.mem_cons_of_mem _ (List.mem_append_right _ h))) q_bd46 (q_nw hE)) q_ok46 hZ hS (hl.1.trans hml.symm) dX6_requireRegister_9 dX6_requireRegister_12 dX6_requireRegister_13 dX6_requireRegister_15 dX6_requireRegister_18 hout (by decide) (by decide) (by decide) (by decide) hlocks hP hD (by decide) (⟨by rw [f_X6_requireRegister, if_neg c1, if_neg c2]; decide, Eq.symm (by rw [f_X6_requireRegister, if_neg c1, if_neg c2])⟩) (by decide) (by decide)

def f_X6_encode (S : XS) (a0 : Int32) (a1 : Int32) (a2 : Int32) (a3 : Int32) : Int32 × Int64 × XS :=
  (if (f_X5_isOffset a0) = 0 then (1, 0, S) else (if (f_X5_isOffset a1) = 0 then (1, 0, S) else (if (f_X5_isOffset a2) = 0 then (1, 0, S) else (if a3 < 0 then (1, 0, S) else (if a3 ≤ 32767 then (0, (f_X5_of a0 a1 a2 a3), S) else (1, 0, S))))))

set_option maxHeartbeats 4000000 in
set_option maxRecDepth 100000 in
theorem c_X6_encode (l : Launch) (hlk : l.stackTraces = false) (D : va_G) (aX aP aM aC aT aR : Nat) (cJ : ClassId) (S : XS) (a0 : Int32) (a1 : Int32) (a2 : Int32) (a3 : Int32) : q_xL l yX6_encode wsX6_encode ({ frames := 6, cells := 1, slots := 6, locals := 82 }) D [(cJ, .long)] (wX aX aP aM aC aT aR cJ S) [.ref aX, .int a0, .int a1, .int a2, .int a3] (fun r u => (f_X6_encode S a0 a1 a2 a3).1 = 0 ∧ r = (f_X6_encode S a0 a1 a2 a3).2.1 ∧ u = (f_X6_encode S a0 a1 a2 a3).2.2) (fun k u => ¬ (f_X6_encode S a0 a1 a2 a3).1 = 0 ∧ k = (f_X6_encode S a0 a1 a2 a3).1 ∧ u = (f_X6_encode S a0 a1 a2 a3).2.2) (fun u => (wX aX aP aM aC aT aR cJ u)) 1 6 := by
  refine fun sz => q_x_of (cc := cX6_encode) (maxL := 5) (ret := (some .long)) (by decide) rfl (Nat.le_of_ble_eq_true rfl) ?_
  intro p e s m below meth c ls hx hb hr hml hown hts hlocks hout hsz hP hK hD hE hZ hl
  subst hsz
  generalize hAe : va_A (wX aX aP aM aC aT aR cJ S) s.heap.size = A at hD hZ ⊢
  have hA : ∀ q, s.heap.size ≤ q → A q := fun q h => by rw [← hAe]; exact Or.inr h
  have hS : va_S A s.heap s.heap [] := va_S.rf
  have hown : s.vm.findClass RX6 = some m.cls := hown
  have hl : lv_has ls 5 [(0, .ref aX), (1, .int a0), (2, .int a1), (3, .int a2), (4, .int a3)] := hl
  have hfix : CallFix p m c cX6_encode 5 s [.ref aX, .int a0, .int a1, .int a2, .int a3].toArray wsX6_encode RX6 := ⟨hx, hb, hml, hown, hts⟩
  refine lv_iload_n hx hb dX6_encode_0 rfl (lv_at hl 1 rfl) ?_
  refine q_callSi (As := [.int a0]) (rest := []) (c_X5_isOffset l D a0) hfix (va_cwS 1 hts gX6_encode_X5_isOffset rfl rfl rfl (by decide +kernel) ⟨Nat.le_of_ble_eq_true rfl, Nat.le_of_ble_eq_true rfl⟩) rfl hl.1 rfl (Nat.le_of_ble_eq_true rfl) ⟨by decide, by decide⟩ hP hK hS hA [] [] rfl rfl dX6_encode_1 (fun H locs hP hS => ?_)
  refine lv_if_eq (tgt := 21) hx hb dX6_encode_4 (by decide) (fun c1 => ?_) (fun c1 => ?_)
  · obtain ⟨sa, hsa⟩ := hE.1 (44, "an offset is not -512 .. 511") (by decide +kernel)
    exact q_throw (cls := "java/lang/IllegalArgumentException") (text := "an offset is not -512 .. 511") (names := ["java/lang/RuntimeException", "java/lang/Exception"]) (ik := 42) (is := 44) (ic := 46) 1 S hx hb hlk hown (by decide +kernel) (by decide +kernel) (hts (.classLink RX6 42 "java/lang/IllegalArgumentException") (by decide +kernel)) (hts (.initialized "java/lang/IllegalArgumentException") (by decide +kernel)) hsa (vx_hat (fun w h => hts w (List.mem_cons_of_mem _ (List.mem_append_right _ h))) q_bd46 (q_nw hE)) q_ok46 hZ hS (hl.1.trans hml.symm) dX6_encode_21 dX6_encode_24 dX6_encode_25 dX6_encode_27 dX6_encode_30 hout (by decide) (by decide) (by decide) (by decide) hlocks hP hD (by decide) (q_x3 (by rw [f_X6_encode, if_pos c1]) (by decide)) (by decide) (by decide)
  · refine lv_iload_n hx hb dX6_encode_7 rfl (lv_at hl 2 rfl) ?_
    refine q_callSi (As := [.int a1]) (rest := []) (c_X5_isOffset l D a1) hfix (va_cwS 1 hts gX6_encode_X5_isOffset rfl rfl rfl (by decide +kernel) ⟨Nat.le_of_ble_eq_true rfl, Nat.le_of_ble_eq_true rfl⟩) rfl hl.1 rfl (Nat.le_of_ble_eq_true rfl) ⟨by decide, by decide⟩ hP hK hS hA [] [] rfl rfl dX6_encode_8 (fun H locs hP hS => ?_)
    refine lv_if_eq (tgt := 21) hx hb dX6_encode_11 (by decide) (fun c2 => ?_) (fun c2 => ?_)
    · obtain ⟨sa, hsa⟩ := hE.1 (44, "an offset is not -512 .. 511") (by decide +kernel)
      exact q_throw (cls := "java/lang/IllegalArgumentException") (text := "an offset is not -512 .. 511") (names := ["java/lang/RuntimeException", "java/lang/Exception"]) (ik := 42) (is := 44) (ic := 46) 1 S hx hb hlk hown (by decide +kernel) (by decide +kernel) (hts (.classLink RX6 42 "java/lang/IllegalArgumentException") (by decide +kernel)) (hts (.initialized "java/lang/IllegalArgumentException") (by decide +kernel)) hsa (vx_hat (fun w h => hts w (List.mem_cons_of_mem _ (List.mem_append_right _ h))) q_bd46 (q_nw hE)) q_ok46 hZ hS (hl.1.trans hml.symm) dX6_encode_21 dX6_encode_24 dX6_encode_25 dX6_encode_27 dX6_encode_30 hout (by decide) (by decide) (by decide) (by decide) hlocks hP hD (by decide) (q_x3 (by rw [f_X6_encode, if_neg c1, if_pos c2]) (by decide)) (by decide) (by decide)
    · refine lv_iload_n hx hb dX6_encode_14 rfl (lv_at hl 3 rfl) ?_
      refine q_callSi (As := [.int a2]) (rest := []) (c_X5_isOffset l D a2) hfix (va_cwS 1 hts gX6_encode_X5_isOffset rfl rfl rfl (by decide +kernel) ⟨Nat.le_of_ble_eq_true rfl, Nat.le_of_ble_eq_true rfl⟩) rfl hl.1 rfl (Nat.le_of_ble_eq_true rfl) ⟨by decide, by decide⟩ hP hK hS hA [] [] rfl rfl dX6_encode_15 (fun H locs hP hS => ?_)
      refine lv_if_ne (tgt := 31) hx hb dX6_encode_18 (by decide) (fun c3 => ?_) (fun c3 => ?_)
      · refine lv_iload hx hb dX6_encode_31 (lv_at hl 4 rfl) ?_
        refine lv_if_lt (tgt := 44) hx hb dX6_encode_33 (by decide) (fun c4 => ?_) (fun c4 => ?_)
        · obtain ⟨sa, hsa⟩ := hE.1 (49, "the flags are not 0 .. 32767") (by decide +kernel)
          exact q_throw (cls := "java/lang/IllegalArgumentException") (text := "the flags are not 0 .. 32767") (names := ["java/lang/RuntimeException", "java/lang/Exception"]) (ik := 42) (is := 49) (ic := 46) 1 S hx hb hlk hown (by decide +kernel) (by decide +kernel) (hts (.classLink RX6 42 "java/lang/IllegalArgumentException") (by decide +kernel)) (hts (.initialized "java/lang/IllegalArgumentException") (by decide +kernel)) hsa (vx_hat (fun w h => hts w (List.mem_cons_of_mem _ (List.mem_append_right _ h))) q_bd46 (q_nw hE)) q_ok46 hZ hS (hl.1.trans hml.symm) dX6_encode_44 dX6_encode_47 dX6_encode_48 dX6_encode_50 dX6_encode_53 hout (by decide) (by decide) (by decide) (by decide) hlocks hP hD (by decide) (q_x3 (by rw [f_X6_encode, if_neg c1, if_neg c2, if_neg c3, if_pos c4]) (by decide)) (by decide) (by decide)
        · refine lv_iload hx hb dX6_encode_36 (lv_at hl 4 rfl) ?_
          refine lv_sipush (v := 32767) hx hb dX6_encode_38 (by decide) ?_
          refine lv_icmp_le (tgt := 54) hx hb dX6_encode_41 (by decide) (fun c5 => ?_) (fun c5 => ?_)
          · refine lv_iload_n hx hb dX6_encode_54 rfl (lv_at hl 1 rfl) ?_
            refine lv_iload_n hx hb dX6_encode_55 rfl (lv_at hl 2 rfl) ?_
            refine lv_iload_n hx hb dX6_encode_56 rfl (lv_at hl 3 rfl) ?_
            refine lv_iload hx hb dX6_encode_57 (lv_at hl 4 rfl) ?_
            refine q_callSl (As := [.int a0, .int a1, .int a2, .int a3]) (rest := []) (c_X5_of l D a0 a1 a2 a3) hfix (va_cwS 4 hts gX6_encode_X5_of rfl rfl rfl (by decide +kernel) ⟨Nat.le_of_ble_eq_true rfl, Nat.le_of_ble_eq_true rfl⟩) rfl hl.1 rfl (Nat.le_of_ble_eq_true rfl) ⟨by decide, by decide⟩ hP hK hS hA [] [] rfl rfl dX6_encode_59 (fun H locs hP hS => ?_)
            exact q_xrl S hx hb hr hlocks (by decide) (by decide) hP hD hS (q_p3 (by rw [f_X6_encode, if_neg c1, if_neg c2, if_neg c3, if_neg c4, if_pos c5])) dX6_encode_62
          · obtain ⟨sa, hsa⟩ := hE.1 (49, "the flags are not 0 .. 32767") (by decide +kernel)
            exact q_throw (cls := "java/lang/IllegalArgumentException") (text := "the flags are not 0 .. 32767") (names := ["java/lang/RuntimeException", "java/lang/Exception"]) (ik := 42) (is := 49) (ic := 46) 1 S hx hb hlk hown (by decide +kernel) (by decide +kernel) (hts (.classLink RX6 42 "java/lang/IllegalArgumentException") (by decide +kernel)) (hts (.initialized "java/lang/IllegalArgumentException") (by decide +kernel)) hsa (vx_hat (fun w h => hts w (List.mem_cons_of_mem _ (List.mem_append_right _ h))) q_bd46 (q_nw hE)) q_ok46 hZ hS (hl.1.trans hml.symm) dX6_encode_44 dX6_encode_47 dX6_encode_48 dX6_encode_50 dX6_encode_53 hout (by decide) (by decide) (by decide) (by decide) hlocks hP hD (by decide) (q_x3 (by rw [f_X6_encode, if_neg c1, if_neg c2, if_neg c3, if_neg c4, if_neg c5]) (by decide)) (by decide) (by decide)
      · obtain ⟨sa, hsa⟩ := hE.1 (44, "an offset is not -512 .. 511") (by decide +kernel)
        exact q_throw (cls := "java/lang/IllegalArgumentException") (text := "an offset is not -512 .. 511") (names := ["java/lang/RuntimeException", "java/lang/Exception"]) (ik := 42) (is := 44) (ic := 46) 1 S hx hb hlk hown (by decide +kernel) (by decide +kernel) (hts (.classLink RX6 42 "java/lang/IllegalArgumentException") (by decide +kernel)) (hts (.initialized "java/lang/IllegalArgumentException") (by decide +kernel)) hsa (vx_hat (fun w h => hts w (List.mem_cons_of_mem _ (List.mem_append_right _ h))) q_bd46 (q_nw hE)) q_ok46 hZ hS (hl.1.trans hml.symm) dX6_encode_21 dX6_encode_24 dX6_encode_25 dX6_encode_27 dX6_encode_30 hout (by decide) (by decide) (by decide) (by decide) hlocks hP hD (by decide) (q_x3 (by rw [f_X6_encode, if_neg c1, if_neg c2, if_pos c3]) (by decide)) (by decide) (by decide)

def f_X6_decode (S : XS) (a0 : Int64) (a1 : Int32) : Int32 × Int32 × XS :=
  (if a1 < 0 then (1, 0, S) else (if a1 ≤ 4 then (if (f_X5_isInstruction a0) = 0 then (2, 0, S) else (if a1 = 3 then (0, (f_X5_flagsOf a0), S) else (if a1 = 4 then (0, (f_X5_sizeOf a0), S) else (0, (f_X5_offsetOf a0 a1), S)))) else (1, 0, S)))

set_option maxHeartbeats 4000000 in
set_option maxRecDepth 100000 in
theorem c_X6_decode (l : Launch) (hlk : l.stackTraces = false) (D : va_G) (aX aP aM aC aT aR : Nat) (cJ : ClassId) (S : XS) (a0 : Int64) (a1 : Int32) : q_xI l yX6_decode wsX6_decode ({ frames := 6, cells := 1, slots := 6, locals := 83 }) D [(cJ, .long)] (wX aX aP aM aC aT aR cJ S) [.ref aX, .long a0, .int a1] (fun r u => (f_X6_decode S a0 a1).1 = 0 ∧ r = (f_X6_decode S a0 a1).2.1 ∧ u = (f_X6_decode S a0 a1).2.2) (fun k u => ¬ (f_X6_decode S a0 a1).1 = 0 ∧ k = (f_X6_decode S a0 a1).1 ∧ u = (f_X6_decode S a0 a1).2.2) (fun u => (wX aX aP aM aC aT aR cJ u)) 1 6 := by
  refine fun sz => q_x_of (cc := cX6_decode) (maxL := 4) (ret := (some .int)) (by decide) rfl (Nat.le_of_ble_eq_true rfl) ?_
  intro p e s m below meth c ls hx hb hr hml hown hts hlocks hout hsz hP hK hD hE hZ hl
  subst hsz
  generalize hAe : va_A (wX aX aP aM aC aT aR cJ S) s.heap.size = A at hD hZ ⊢
  have hA : ∀ q, s.heap.size ≤ q → A q := fun q h => by rw [← hAe]; exact Or.inr h
  have hS : va_S A s.heap s.heap [] := va_S.rf
  have hown : s.vm.findClass RX6 = some m.cls := hown
  have hl : lv_has ls 4 [(0, .ref aX), (1, .long a0), (3, .int a1)] := hl
  have hfix : CallFix p m c cX6_decode 4 s [.ref aX, .long a0, .int a1].toArray wsX6_decode RX6 := ⟨hx, hb, hml, hown, hts⟩
  refine lv_iload_n hx hb dX6_decode_0 rfl (lv_at hl 2 rfl) ?_
  refine lv_if_lt (tgt := 9) hx hb dX6_decode_1 (by decide) (fun c1 => ?_) (fun c1 => ?_)
  · obtain ⟨sa, hsa⟩ := hE.1 (55, "what is not 0 .. 4") (by decide +kernel)
    exact q_throw (cls := "java/lang/IllegalArgumentException") (text := "what is not 0 .. 4") (names := ["java/lang/RuntimeException", "java/lang/Exception"]) (ik := 42) (is := 55) (ic := 46) 1 S hx hb hlk hown (by decide +kernel) (by decide +kernel) (hts (.classLink RX6 42 "java/lang/IllegalArgumentException") (by decide +kernel)) (hts (.initialized "java/lang/IllegalArgumentException") (by decide +kernel)) hsa (vx_hat (fun w h => hts w (List.mem_cons_of_mem _ (List.mem_append_left _ (List.mem_append_right _ h)))) q_bd46 (q_nw hE)) q_ok46 hZ hS (hl.1.trans hml.symm) dX6_decode_9 dX6_decode_12 dX6_decode_13 dX6_decode_15 dX6_decode_18 hout (by decide) (by decide) (by decide) (by decide) hlocks hP hD (by decide) (q_x3 (by rw [f_X6_decode, if_pos c1]) (by decide)) (by decide) (by decide)
  · refine lv_iload_n hx hb dX6_decode_4 rfl (lv_at hl 2 rfl) ?_
    refine lv_iconst (v := 4) hx hb dX6_decode_5 (by decide) ?_
    refine lv_icmp_le (tgt := 19) hx hb dX6_decode_6 (by decide) (fun c2 => ?_) (fun c2 => ?_)
    · refine lv_lload_n hx hb dX6_decode_19 rfl (lv_at hl 1 rfl) ?_
      refine q_callSi (As := [.long a0]) (rest := []) (c_X5_isInstruction l D a0) hfix (va_cwS 1 hts gX6_decode_X5_isInstruction rfl rfl rfl (by decide +kernel) ⟨Nat.le_of_ble_eq_true rfl, Nat.le_of_ble_eq_true rfl⟩) rfl hl.1 rfl (Nat.le_of_ble_eq_true rfl) ⟨by decide, by decide⟩ hP hK hS hA [] [] rfl rfl dX6_decode_20 (fun H locs hP hS => ?_)
      refine lv_if_ne (tgt := 36) hx hb dX6_decode_23 (by decide) (fun c3 => ?_) (fun c3 => ?_)
      · refine lv_iload_n hx hb dX6_decode_36 rfl (lv_at hl 2 rfl) ?_
        refine lv_iconst (v := 3) hx hb dX6_decode_37 (by decide) ?_
        refine lv_icmp_ne (tgt := 46) hx hb dX6_decode_38 (by decide) (fun c4 => ?_) (fun c4 => ?_)
        · refine lv_iload_n hx hb dX6_decode_46 rfl (lv_at hl 2 rfl) ?_
          refine lv_iconst (v := 4) hx hb dX6_decode_47 (by decide) ?_
          refine lv_icmp_ne (tgt := 58) hx hb dX6_decode_48 (by decide) (fun c5 => ?_) (fun c5 => ?_)
          · refine lv_lload_n hx hb dX6_decode_58 rfl (lv_at hl 1 rfl) ?_
            refine lv_iload_n hx hb dX6_decode_59 rfl (lv_at hl 2 rfl) ?_
            refine q_callSi (As := [.long a0, .int a1]) (rest := []) (c_X5_offsetOf l D a0 a1) hfix (va_cwS 2 hts gX6_decode_X5_offsetOf rfl rfl rfl (by decide +kernel) ⟨Nat.le_of_ble_eq_true rfl, Nat.le_of_ble_eq_true rfl⟩) rfl hl.1 rfl (Nat.le_of_ble_eq_true rfl) ⟨by decide, by decide⟩ hP hK hS hA [] [] rfl rfl dX6_decode_60 (fun H locs hP hS => ?_)
            exact q_xri S hx hb hr hlocks (by decide) (by decide) hP hD hS (q_p3 (by rw [f_X6_decode, if_neg c1, if_pos c2, if_neg c3, if_neg c4, if_neg c5])) dX6_decode_63
          · refine lv_lload_n hx hb dX6_decode_51 rfl (lv_at hl 1 rfl) ?_
            refine q_callSi (As := [.long a0]) (rest := []) (c_X5_sizeOf l D a0) hfix (va_cwS 1 hts gX6_decode_X5_sizeOf rfl rfl rfl (by decide +kernel) ⟨Nat.le_of_ble_eq_true rfl, Nat.le_of_ble_eq_true rfl⟩) rfl hl.1 rfl (Nat.le_of_ble_eq_true rfl) ⟨by decide, by decide⟩ hP hK hS hA [] [] rfl rfl dX6_decode_52 (fun H locs hP hS => ?_)
            refine lv_goto (tgt := 63) hx hb dX6_decode_55 (by decide) ?_
            exact q_xri S hx hb hr hlocks (by decide) (by decide) hP hD hS (q_p3 (by rw [f_X6_decode, if_neg c1, if_pos c2, if_neg c3, if_neg c4, if_pos c5])) dX6_decode_63
        · refine lv_lload_n hx hb dX6_decode_41 rfl (lv_at hl 1 rfl) ?_
          refine q_callSi (As := [.long a0]) (rest := []) (c_X5_flagsOf l D a0) hfix (va_cwS 1 hts gX6_decode_X5_flagsOf rfl rfl rfl (by decide +kernel) ⟨Nat.le_of_ble_eq_true rfl, Nat.le_of_ble_eq_true rfl⟩) rfl hl.1 rfl (Nat.le_of_ble_eq_true rfl) ⟨by decide, by decide⟩ hP hK hS hA [] [] rfl rfl dX6_decode_42 (fun H locs hP hS => ?_)
          exact q_xri S hx hb hr hlocks (by decide) (by decide) hP hD hS (q_p3 (by rw [f_X6_decode, if_neg c1, if_pos c2, if_neg c3, if_pos c4])) dX6_decode_45
      · obtain ⟨sa, hsa⟩ := hE.1 (63, "the word is no instruction, or a bad one") (by decide +kernel)
        exact q_throw (cls := "java/lang/IllegalStateException") (text := "the word is no instruction, or a bad one") (names := ["java/lang/RuntimeException", "java/lang/Exception"]) (ik := 61) (is := 63) (ic := 65) 2 S hx hb hlk hown (by decide +kernel) (by decide +kernel) (hts (.classLink RX6 61 "java/lang/IllegalStateException") (by decide +kernel)) (hts (.initialized "java/lang/IllegalStateException") (by decide +kernel)) hsa (vx_hat (fun w h => hts w (List.mem_cons_of_mem _ (List.mem_append_right _ h))) q_bd65 (q_nw hE)) q_ok65 hZ hS (hl.1.trans hml.symm) dX6_decode_26 dX6_decode_29 dX6_decode_30 dX6_decode_32 dX6_decode_35 hout (by decide) (by decide) (by decide) (by decide) hlocks hP hD (by decide) (q_x3 (by rw [f_X6_decode, if_neg c1, if_pos c2, if_pos c3]) (by decide)) (by decide) (by decide)
    · obtain ⟨sa, hsa⟩ := hE.1 (55, "what is not 0 .. 4") (by decide +kernel)
      exact q_throw (cls := "java/lang/IllegalArgumentException") (text := "what is not 0 .. 4") (names := ["java/lang/RuntimeException", "java/lang/Exception"]) (ik := 42) (is := 55) (ic := 46) 1 S hx hb hlk hown (by decide +kernel) (by decide +kernel) (hts (.classLink RX6 42 "java/lang/IllegalArgumentException") (by decide +kernel)) (hts (.initialized "java/lang/IllegalArgumentException") (by decide +kernel)) hsa (vx_hat (fun w h => hts w (List.mem_cons_of_mem _ (List.mem_append_left _ (List.mem_append_right _ h)))) q_bd46 (q_nw hE)) q_ok46 hZ hS (hl.1.trans hml.symm) dX6_decode_9 dX6_decode_12 dX6_decode_13 dX6_decode_15 dX6_decode_18 hout (by decide) (by decide) (by decide) (by decide) hlocks hP hD (by decide) (q_x3 (by rw [f_X6_decode, if_neg c1, if_neg c2]) (by decide)) (by decide) (by decide)

def f_X6_writeByHost (S : XS) (a0 : Int32) (a1 : Int32) (a2 : Int64) : Int32 × XS :=
  (if (f_X6_requireCell a0 a1) = 0 then (if ((f_X1_write (pP_mem (pX_p S)) a0 a1 a2).1) = 0 then (2, (sX_p S (sP_mem (pX_p S) (f_X1_write (pP_mem (pX_p S)) a0 a1 a2).2))) else (0, (sX_p S (sP_mem (pX_p S) (f_X1_write (pP_mem (pX_p S)) a0 a1 a2).2)))) else ((f_X6_requireCell a0 a1), S))

set_option maxHeartbeats 4000000 in
set_option maxRecDepth 100000 in
theorem c_X6_writeByHost (l : Launch) (hlk : l.stackTraces = false) (D : va_G) (aX aP aM aC aT aR : Nat) (cJ : ClassId) (S : XS) (a0 : Int32) (a1 : Int32) (a2 : Int64) : q_xV l yX6_writeByHost wsX6_writeByHost ({ frames := 7, cells := 2, slots := 12, locals := 103 }) D [(cJ, .long)] (wX aX aP aM aC aT aR cJ S) [.ref aX, .int a0, .int a1, .long a2] (fun u => (f_X6_writeByHost S a0 a1 a2).1 = 0 ∧ u = (f_X6_writeByHost S a0 a1 a2).2) (fun k u => ¬ (f_X6_writeByHost S a0 a1 a2).1 = 0 ∧ k = (f_X6_writeByHost S a0 a1 a2).1 ∧ u = (f_X6_writeByHost S a0 a1 a2).2) (fun u => (wX aX aP aM aC aT aR cJ u)) 2 12 := by
  refine fun sz => q_x_of (cc := cX6_writeByHost) (maxL := 5) (ret := none) (by decide) rfl (Nat.le_of_ble_eq_true rfl) ?_
  intro p e s m below meth c ls hx hb hr hml hown hts hlocks hout hsz hP hK hD hE hZ hl
  subst hsz
  generalize hAe : va_A (wX aX aP aM aC aT aR cJ S) s.heap.size = A at hD hZ ⊢
  have hA : ∀ q, s.heap.size ≤ q → A q := fun q h => by rw [← hAe]; exact Or.inr h
  have hS : va_S A s.heap s.heap [] := va_S.rf
  have hown : s.vm.findClass RX6 = some m.cls := hown
  have hl : lv_has ls 5 [(0, .ref aX), (1, .int a0), (2, .int a1), (3, .long a2)] := hl
  have hfix : CallFix p m c cX6_writeByHost 5 s [.ref aX, .int a0, .int a1, .long a2].toArray wsX6_writeByHost RX6 := ⟨hx, hb, hml, hown, hts⟩
  have hin3 : ∀ w ∈ wsX60, w ∈ wsX6_writeByHost := by decide +kernel
  refine lv_iload_n hx hb dX6_writeByHost_0 rfl (lv_at hl 1 rfl) ?_
  refine lv_iload_n hx hb dX6_writeByHost_1 rfl (lv_at hl 2 rfl) ?_
  refine q_xcallSv (As := [.int a0, .int a1]) (rest := []) (wr := [(aX, .inr (3, [.ref aM, .ref aP, .ref aT, .int (pX_latestFailure S)])), (aP, .inr (1, [.ref aM, .long (pP_pc (pX_p S)), .long (pP_ap (pX_p S)), .long (pP_fp (pX_p S)), .long (pP_newPc (pX_p S)), .long (pP_newAp (pX_p S)), .long (pP_newFp (pX_p S)), .long (pP_word (pX_p S)), .int (pP_flags (pX_p S)), .long (pP_dstPlace (pX_p S)), .long (pP_op0Place (pX_p S)), .long (pP_op1Place (pX_p S)), .long (pP_res (pX_p S))])), (aM, .inr (0, [.ref aC])), (aC, .inl (cJ, 320, .inr (.inl (pP_mem (pX_p S))))), (aT, .inr (2, [.ref aR, .int (pT_length (pX_t S))])), (aR, .inl (cJ, 192, .inr (.inl (pT_row (pX_t S)))))]) (Wn := (fun (_ : Unit) => (wX aX aP aM aC aT aR cJ S))) (c_X6_requireCell l hlk D a0 a1) hfix (va_cwS 2 hts gX6_writeByHost_X6_requireCell rfl rfl rfl (by decide +kernel) ⟨Nat.le_of_ble_eq_true rfl, Nat.le_of_ble_eq_true rfl⟩) rfl hl.1 rfl (Nat.le_of_ble_eq_true rfl) ⟨by decide, by decide⟩ hP hK hD hS hA hE hZ [] [0, 1, 2, 3, 4, 5] [0, 1, 2, 3, 4, 5] [] rfl rfl rfl (by decide) (by decide) (by decide) (by decide) (fun _ => rfl) (fun _ => rfl) rfl dX6_writeByHost_2 (fun E ce q9 k u H locs hw hEk hP hD hS hce hcv hcl => ?_) (fun u H locs hw hP hD hS => ?_)
  · obtain ⟨c1, rfl⟩ := hw
    exact q_pass (f_X6_requireCell a0 a1) S hout hlocks hce hcv hcl hEk hP hD hS (q_x2 (by rw [f_X6_writeByHost, if_neg c1]) c1) (by decide) (by decide)
  · have c1 : (f_X6_requireCell a0 a1) = 0 := hw
    have hP : va_P D vwCl (wX aX aP aM aC aT aR cJ S) H := hP
    have hD : va_D A (wX aX aP aM aC aT aR cJ S) := hD
    refine W.widen (k := 1) (n := 6) (by decide) (by decide) ?_
    refine lv_aload_n hx hb dX6_writeByHost_5 rfl (lv_at hl 0 rfl) ?_
    refine va_get (D := D) (ci := 3) (v := .ref aM) (C := RX6) (T := TX6) (N := 4) hx hb hts hin3 hown hK hP 0 rfl rfl 0 (by decide) (hts (.fieldLink RX6 10 "FieldTrace" "memory" "LFieldTrace$Memory;") (by decide +kernel)) (fun _ h9 => h9) rfl dX6_writeByHost_6 ?_
    refine lv_iload_n hx hb dX6_writeByHost_9 rfl (lv_at hl 1 rfl) ?_
    refine lv_iload_n hx hb dX6_writeByHost_10 rfl (lv_at hl 2 rfl) ?_
    refine lv_lload_n hx hb dX6_writeByHost_11 rfl (lv_at hl 3 rfl) ?_
    refine q_callMi (As := [.int a0, .int a1, .long a2]) (rest := []) (wr := [(aX, .inr (3, [.ref aM, .ref aP, .ref aT, .int (pX_latestFailure S)])), (aP, .inr (1, [.ref aM, .long (pP_pc (pX_p S)), .long (pP_ap (pX_p S)), .long (pP_fp (pX_p S)), .long (pP_newPc (pX_p S)), .long (pP_newAp (pX_p S)), .long (pP_newFp (pX_p S)), .long (pP_word (pX_p S)), .int (pP_flags (pX_p S)), .long (pP_dstPlace (pX_p S)), .long (pP_op0Place (pX_p S)), .long (pP_op1Place (pX_p S)), .long (pP_res (pX_p S))])), (aT, .inr (2, [.ref aR, .int (pT_length (pX_t S))])), (aR, .inl (cJ, 192, .inr (.inl (pT_row (pX_t S)))))]) (Wn := (fun u => (wX aX aP aM aC aT aR cJ (sX_p S (sP_mem (pX_p S) u))))) (q0 := 0) (ci := 0) (C := RX1) (c_X1_write l D aM aC cJ (pP_mem (pX_p S)) a0 a1 a2) hfix (cwV 3 hts gX6_writeByHost_X1_write rfl rfl rfl (by decide +kernel) ⟨Nat.le_of_ble_eq_true rfl, Nat.le_of_ble_eq_true rfl⟩) rfl hl.1 rfl (Nat.le_of_ble_eq_true rfl) ⟨by decide, by decide⟩ hP hK hD hS hA [2, 3] [0, 1, 4, 5] [0, 1, 4, 5, 2, 3] [0] rfl rfl rfl (by decide) (by decide) (by decide) (by decide) (fun _ => rfl) (fun _ => rfl) rfl rfl rfl rfl dX6_writeByHost_12 (fun r u H locs hw hP hD hS => ?_)
    obtain ⟨rfl, rfl⟩ := hw
    have hP : va_P D vwCl (wX aX aP aM aC aT aR cJ (sX_p S (sP_mem (pX_p S) (f_X1_write (pP_mem (pX_p S)) a0 a1 a2).2))) H := hP
    have hD : va_D A (wX aX aP aM aC aT aR cJ (sX_p S (sP_mem (pX_p S) (f_X1_write (pP_mem (pX_p S)) a0 a1 a2).2))) := hD
    refine lv_if_ne (tgt := 28) hx hb dX6_writeByHost_15 (by decide) (fun c2 => ?_) (fun c2 => ?_)
    · exact q_xrv (sX_p S (sP_mem (pX_p S) (f_X1_write (pP_mem (pX_p S)) a0 a1 a2).2)) hx hb hr hlocks (by decide) (by decide) hP hD hS (q_p2 (by rw [f_X6_writeByHost, if_pos c1, if_neg c2])) dX6_writeByHost_28
    · obtain ⟨sa, hsa⟩ := hE.1 (207, "the cell does not take the value") (by decide +kernel)
      exact q_throw (cls := "java/lang/IllegalStateException") (text := "the cell does not take the value") (names := ["java/lang/RuntimeException", "java/lang/Exception"]) (ik := 61) (is := 207) (ic := 65) 2 (sX_p S (sP_mem (pX_p S) (f_X1_write (pP_mem (pX_p S)) a0 a1 a2).2)) hx hb hlk hown (by decide +kernel) (by decide +kernel) (hts (.classLink RX6 61 "java/lang/IllegalStateException") (by decide +kernel)) (hts (.initialized "java/lang/IllegalStateException") (by decide +kernel)) hsa (vx_hat (fun w h => hts w (List.mem_cons_of_mem _ (List.mem_append_left _ (List.mem_append_right _ h)))) q_bd65 (q_nw hE)) q_ok65 hZ hS (hl.1.trans hml.symm) dX6_writeByHost_18 dX6_writeByHost_21 dX6_writeByHost_22 dX6_writeByHost_24 dX6_writeByHost_27 hout (by decide) (by decide) (by decide) (by decide) hlocks hP hD (by decide) (q_x2 (by rw [f_X6_writeByHost, if_pos c1, if_pos c2]) (by decide)) (by decide) (by decide)

def f_X6_requireSet (S : XS) (a0 : Int32) (a1 : Int32) : Int32 × Int64 × XS :=
  (if (f_X6_requireCell a0 a1) = 0 then (if (f_X1_look (pP_mem (pX_p S)) a0 a1) = (-1) then (3, 0, S) else (0, (f_X1_look (pP_mem (pX_p S)) a0 a1), S)) else ((f_X6_requireCell a0 a1), 0, S))

set_option maxHeartbeats 4000000 in
set_option maxRecDepth 100000 in
theorem c_X6_requireSet (l : Launch) (hlk : l.stackTraces = false) (D : va_G) (aX aP aM aC aT aR : Nat) (cJ : ClassId) (S : XS) (a0 : Int32) (a1 : Int32) : q_xL l yX6_requireSet wsX6_requireSet ({ frames := 7, cells := 2, slots := 12, locals := 103 }) D [(cJ, .long)] (wX aX aP aM aC aT aR cJ S) [.ref aX, .int a0, .int a1] (fun r u => (f_X6_requireSet S a0 a1).1 = 0 ∧ r = (f_X6_requireSet S a0 a1).2.1 ∧ u = (f_X6_requireSet S a0 a1).2.2) (fun k u => ¬ (f_X6_requireSet S a0 a1).1 = 0 ∧ k = (f_X6_requireSet S a0 a1).1 ∧ u = (f_X6_requireSet S a0 a1).2.2) (fun u => (wX aX aP aM aC aT aR cJ u)) 2 12 := by
  refine fun sz => q_x_of (cc := cX6_requireSet) (maxL := 5) (ret := (some .long)) (by decide) rfl (Nat.le_of_ble_eq_true rfl) ?_
  intro p e s m below meth c ls hx hb hr hml hown hts hlocks hout hsz hP hK hD hE hZ hl
  subst hsz
  generalize hAe : va_A (wX aX aP aM aC aT aR cJ S) s.heap.size = A at hD hZ ⊢
  have hA : ∀ q, s.heap.size ≤ q → A q := fun q h => by rw [← hAe]; exact Or.inr h
  have hS : va_S A s.heap s.heap [] := va_S.rf
  have hown : s.vm.findClass RX6 = some m.cls := hown
  have hl : lv_has ls 5 [(0, .ref aX), (1, .int a0), (2, .int a1)] := hl
  have hfix : CallFix p m c cX6_requireSet 5 s [.ref aX, .int a0, .int a1].toArray wsX6_requireSet RX6 := ⟨hx, hb, hml, hown, hts⟩
  have hin3 : ∀ w ∈ wsX60, w ∈ wsX6_requireSet := by decide +kernel
  refine lv_iload_n hx hb dX6_requireSet_0 rfl (lv_at hl 1 rfl) ?_
  refine lv_iload_n hx hb dX6_requireSet_1 rfl (lv_at hl 2 rfl) ?_
  refine q_xcallSv (As := [.int a0, .int a1]) (rest := []) (wr := [(aX, .inr (3, [.ref aM, .ref aP, .ref aT, .int (pX_latestFailure S)])), (aP, .inr (1, [.ref aM, .long (pP_pc (pX_p S)), .long (pP_ap (pX_p S)), .long (pP_fp (pX_p S)), .long (pP_newPc (pX_p S)), .long (pP_newAp (pX_p S)), .long (pP_newFp (pX_p S)), .long (pP_word (pX_p S)), .int (pP_flags (pX_p S)), .long (pP_dstPlace (pX_p S)), .long (pP_op0Place (pX_p S)), .long (pP_op1Place (pX_p S)), .long (pP_res (pX_p S))])), (aM, .inr (0, [.ref aC])), (aC, .inl (cJ, 320, .inr (.inl (pP_mem (pX_p S))))), (aT, .inr (2, [.ref aR, .int (pT_length (pX_t S))])), (aR, .inl (cJ, 192, .inr (.inl (pT_row (pX_t S)))))]) (Wn := (fun (_ : Unit) => (wX aX aP aM aC aT aR cJ S))) (c_X6_requireCell l hlk D a0 a1) hfix (va_cwS 2 hts gX6_requireSet_X6_requireCell rfl rfl rfl (by decide +kernel) ⟨Nat.le_of_ble_eq_true rfl, Nat.le_of_ble_eq_true rfl⟩) rfl hl.1 rfl (Nat.le_of_ble_eq_true rfl) ⟨by decide, by decide⟩ hP hK hD hS hA hE hZ [] [0, 1, 2, 3, 4, 5] [0, 1, 2, 3, 4, 5] [] rfl rfl rfl (by decide) (by decide) (by decide) (by decide) (fun _ => rfl) (fun _ => rfl) rfl dX6_requireSet_2 (fun E ce q9 k u H locs hw hEk hP hD hS hce hcv hcl => ?_) (fun u H locs hw hP hD hS => ?_)
  · obtain ⟨c1, rfl⟩ := hw
    exact q_pass (f_X6_requireCell a0 a1) S hout hlocks hce hcv hcl hEk hP hD hS (q_x3 (by rw [f_X6_requireSet, if_neg c1]) c1) (by decide) (by decide)
  · have c1 : (f_X6_requireCell a0 a1) = 0 := hw
    have hP : va_P D vwCl (wX aX aP aM aC aT aR cJ S) H := hP
    have hD : va_D A (wX aX aP aM aC aT aR cJ S) := hD
    refine W.widen (k := 1) (n := 6) (by decide) (by decide) ?_
    refine lv_aload_n hx hb dX6_requireSet_5 rfl (lv_at hl 0 rfl) ?_
    refine va_get (D := D) (ci := 3) (v := .ref aM) (C := RX6) (T := TX6) (N := 4) hx hb hts hin3 hown hK hP 0 rfl rfl 0 (by decide) (hts (.fieldLink RX6 10 "FieldTrace" "memory" "LFieldTrace$Memory;") (by decide +kernel)) (fun _ h9 => h9) rfl dX6_requireSet_6 ?_
    refine lv_iload_n hx hb dX6_requireSet_9 rfl (lv_at hl 1 rfl) ?_
    refine lv_iload_n hx hb dX6_requireSet_10 rfl (lv_at hl 2 rfl) ?_
    refine q_callVl (As := [.int a0, .int a1]) (rest := []) (q0 := 0) (ci := 0) (C := RX1) (c_X1_look l D aM aC cJ (pP_mem (pX_p S)) a0 a1) hfix (cwV 2 hts gX6_requireSet_X1_look rfl rfl rfl (by decide +kernel) ⟨Nat.le_of_ble_eq_true rfl, Nat.le_of_ble_eq_true rfl⟩) rfl hl.1 rfl (Nat.le_of_ble_eq_true rfl) ⟨by decide, by decide⟩ hP hK hS hA [2, 3] [0] rfl rfl rfl rfl rfl dX6_requireSet_11 (fun H locs hP hS => ?_)
    refine lv_lstore_n (lv' := [(3, .long (f_X1_look (pP_mem (pX_p S)) a0 a1)), (0, .ref aX), (1, .int a0), (2, .int a1)]) hx hb dX6_requireSet_14 rfl hl (by decide) rfl (fun ls hl => ?_)
    refine lv_lload_n hx hb dX6_requireSet_15 rfl (lv_at hl 0 rfl) ?_
    refine lv_ldc2 (v := -1) hx hb hown (hts (.constantLong RX6 96 (-1)) (by decide +kernel)) dX6_requireSet_16 ?_
    refine q_ne (tgt := 33) hx hb dX6_requireSet_19 dX6_requireSet_20 (by decide) (fun c2 => ?_) (fun c2 => ?_)
    · refine lv_lload_n hx hb dX6_requireSet_33 rfl (lv_at hl 0 rfl) ?_
      exact q_xrl S hx hb hr hlocks (by decide) (by decide) hP hD hS (q_p3 (by rw [f_X6_requireSet, if_pos c1, if_neg c2])) dX6_requireSet_34
    · obtain ⟨sa, hsa⟩ := hE.1 (212, "the cell is not set") (by decide +kernel)
      exact q_throwN (cls := "java/util/NoSuchElementException") (text := "the cell is not set") (names := ["java/lang/RuntimeException", "java/lang/Exception"]) (ik := 156) (is := 212) (ic := 160) 3 S hx hb hlk hown (by decide +kernel) (by decide +kernel) (hts (.classLink RX6 156 "java/util/NoSuchElementException") (by decide +kernel)) (hts (.initialized "java/util/NoSuchElementException") (by decide +kernel)) hsa (vx_hat (fun w h => hts w (List.mem_cons_of_mem _ (List.mem_append_left _ (List.mem_append_right _ h)))) q_bd160 (q_nw hE)) q_ok160 hZ hS (hl.1.trans hml.symm) dX6_requireSet_23 dX6_requireSet_26 dX6_requireSet_27 dX6_requireSet_29 dX6_requireSet_32 hout (by decide) (by decide) (by decide) (by decide) hlocks hP hD (by decide) (q_x3 (by rw [f_X6_requireSet, if_pos c1, if_pos c2]) (by decide)) (by decide) (by decide)

def f_X6_number (S : XS) (a0 : Int32) (a1 : Int32) (a2 : Int64) : Int32 × XS :=
  (if (f_X6_writeByHost S a0 a1 (f_X0_reduce a2)).1 = 0 then (0, (f_X6_writeByHost S a0 a1 (f_X0_reduce a2)).2) else ((f_X6_writeByHost S a0 a1 (f_X0_reduce a2)).1, (f_X6_writeByHost S a0 a1 (f_X0_reduce a2)).2))

set_option maxHeartbeats 4000000 in
set_option maxRecDepth 100000 in
theorem c_X6_number (l : Launch) (hlk : l.stackTraces = false) (D : va_G) (aX aP aM aC aT aR : Nat) (cJ : ClassId) (S : XS) (a0 : Int32) (a1 : Int32) (a2 : Int64) : q_xV l yX6_number wsX6_number ({ frames := 8, cells := 2, slots := 12, locals := 127 }) D [(cJ, .long)] (wX aX aP aM aC aT aR cJ S) [.ref aX, .int a0, .int a1, .long a2] (fun u => (f_X6_number S a0 a1 a2).1 = 0 ∧ u = (f_X6_number S a0 a1 a2).2) (fun k u => ¬ (f_X6_number S a0 a1 a2).1 = 0 ∧ k = (f_X6_number S a0 a1 a2).1 ∧ u = (f_X6_number S a0 a1 a2).2) (fun u => (wX aX aP aM aC aT aR cJ u)) 2 12 := by
  refine fun sz => q_x_of (cc := cX6_number) (maxL := 5) (ret := none) (by decide) rfl (Nat.le_of_ble_eq_true rfl) ?_
  intro p e s m below meth c ls hx hb hr hml hown hts hlocks hout hsz hP hK hD hE hZ hl
  subst hsz
  generalize hAe : va_A (wX aX aP aM aC aT aR cJ S) s.heap.size = A at hD hZ ⊢
  have hA : ∀ q, s.heap.size ≤ q → A q := fun q h => by rw [← hAe]; exact Or.inr h
  have hS : va_S A s.heap s.heap [] := va_S.rf
  have hown : s.vm.findClass RX6 = some m.cls := hown
  have hl : lv_has ls 5 [(0, .ref aX), (1, .int a0), (2, .int a1), (3, .long a2)] := hl
  have hfix : CallFix p m c cX6_number 5 s [.ref aX, .int a0, .int a1, .long a2].toArray wsX6_number RX6 := ⟨hx, hb, hml, hown, hts⟩
  refine lv_aload_n hx hb dX6_number_0 rfl (lv_at hl 0 rfl) ?_
  refine lv_iload_n hx hb dX6_number_1 rfl (lv_at hl 1 rfl) ?_
  refine lv_iload_n hx hb dX6_number_2 rfl (lv_at hl 2 rfl) ?_
  refine lv_lload_n hx hb dX6_number_3 rfl (lv_at hl 3 rfl) ?_
  refine q_callSl (As := [.long a2]) (rest := [.int a1, .int a0, .ref aX]) (c_X0_reduce l D a2) hfix (va_cwS 1 hts gX6_number_X0_reduce rfl rfl rfl (by decide +kernel) ⟨Nat.le_of_ble_eq_true rfl, Nat.le_of_ble_eq_true rfl⟩) rfl hl.1 rfl (Nat.le_of_ble_eq_true rfl) ⟨by decide, by decide⟩ hP hK hS hA [] [] rfl rfl dX6_number_4 (fun H locs hP hS => ?_)
  refine q_xcallVv (As := [.int a0, .int a1, .long (f_X0_reduce a2)]) (rest := []) (wr := []) (Wn := (fun u => (wX aX aP aM aC aT aR cJ u))) (q0 := 0) (ci := 3) (C := RX6) (c_X6_writeByHost l hlk D aX aP aM aC aT aR cJ S a0 a1 (f_X0_reduce a2)) hfix (cwV 3 hts gX6_number_X6_writeByHost rfl rfl rfl (by decide +kernel) ⟨Nat.le_of_ble_eq_true rfl, Nat.le_of_ble_eq_true rfl⟩) rfl hl.1 rfl (Nat.le_of_ble_eq_true rfl) ⟨by decide, by decide⟩ hP hK hD hS hA hE hZ [0, 1, 2, 3, 4, 5] [] [0, 1, 2, 3, 4, 5] [0] rfl rfl rfl (by decide) (by decide) (by decide) (by decide) (fun _ => rfl) (fun _ => rfl) rfl rfl rfl rfl dX6_number_7 (fun E ce q9 k u H locs hw hEk hP hD hS hce hcv hcl => ?_) (fun u H locs hw hP hD hS => ?_)
  · obtain ⟨c1, rfl, rfl⟩ := hw
    have hP : va_P D vwCl (wX aX aP aM aC aT aR cJ (f_X6_writeByHost S a0 a1 (f_X0_reduce a2)).2) H := hP
    have hD : va_D A (wX aX aP aM aC aT aR cJ (f_X6_writeByHost S a0 a1 (f_X0_reduce a2)).2) := hD
    exact q_pass ((f_X6_writeByHost S a0 a1 (f_X0_reduce a2)).1) ((f_X6_writeByHost S a0 a1 (f_X0_reduce a2)).2) hout hlocks hce hcv hcl hEk hP hD hS (q_x2 (by rw [f_X6_number, if_neg c1]) c1) (by decide) (by decide)
  · obtain ⟨c1, rfl⟩ := hw
    have hP : va_P D vwCl (wX aX aP aM aC aT aR cJ (f_X6_writeByHost S a0 a1 (f_X0_reduce a2)).2) H := hP
    have hD : va_D A (wX aX aP aM aC aT aR cJ (f_X6_writeByHost S a0 a1 (f_X0_reduce a2)).2) := hD
    refine W.widen (k := 2) (n := 12) (by decide) (by decide) ?_
    exact q_xrv ((f_X6_writeByHost S a0 a1 (f_X0_reduce a2)).2) hx hb hr hlocks (by decide) (by decide) hP hD hS (q_p2 (by rw [f_X6_number, if_pos c1])) dX6_number_10

def f_X6_address (S : XS) (a0 : Int32) (a1 : Int32) (a2 : Int32) (a3 : Int32) : Int32 × XS :=
  (if (f_X1_isSegment a2) = 0 then (1, S) else (if (f_X4_ofAddress a2 ((a3 : Int32).toInt64)) = (-1) then (1, S) else (if (f_X6_writeByHost S a0 a1 (f_X4_ofAddress a2 ((a3 : Int32).toInt64))).1 = 0 then (0, (f_X6_writeByHost S a0 a1 (f_X4_ofAddress a2 ((a3 : Int32).toInt64))).2) else ((f_X6_writeByHost S a0 a1 (f_X4_ofAddress a2 ((a3 : Int32).toInt64))).1, (f_X6_writeByHost S a0 a1 (f_X4_ofAddress a2 ((a3 : Int32).toInt64))).2))))

set_option maxHeartbeats 4000000 in
set_option maxRecDepth 100000 in
theorem c_X6_address (l : Launch) (hlk : l.stackTraces = false) (D : va_G) (aX aP aM aC aT aR : Nat) (cJ : ClassId) (S : XS) (a0 : Int32) (a1 : Int32) (a2 : Int32) (a3 : Int32) : q_xV l yX6_address wsX6_address ({ frames := 8, cells := 2, slots := 12, locals := 127 }) D [(cJ, .long)] (wX aX aP aM aC aT aR cJ S) [.ref aX, .int a0, .int a1, .int a2, .int a3] (fun u => (f_X6_address S a0 a1 a2 a3).1 = 0 ∧ u = (f_X6_address S a0 a1 a2 a3).2) (fun k u => ¬ (f_X6_address S a0 a1 a2 a3).1 = 0 ∧ k = (f_X6_address S a0 a1 a2 a3).1 ∧ u = (f_X6_address S a0 a1 a2 a3).2) (fun u => (wX aX aP aM aC aT aR cJ u)) 2 12 := by
  refine fun sz => q_x_of (cc := cX6_address) (maxL := 7) (ret := none) (by decide) rfl (Nat.le_of_ble_eq_true rfl) ?_
  intro p e s m below meth c ls hx hb hr hml hown hts hlocks hout hsz hP hK hD hE hZ hl
  subst hsz
  generalize hAe : va_A (wX aX aP aM aC aT aR cJ S) s.heap.size = A at hD hZ ⊢
  have hA : ∀ q, s.heap.size ≤ q → A q := fun q h => by rw [← hAe]; exact Or.inr h
  have hS : va_S A s.heap s.heap [] := va_S.rf
  have hown : s.vm.findClass RX6 = some m.cls := hown
  have hl : lv_has ls 7 [(0, .ref aX), (1, .int a0), (2, .int a1), (3, .int a2), (4, .int a3)] := hl
  have hfix : CallFix p m c cX6_address 7 s [.ref aX, .int a0, .int a1, .int a2, .int a3].toArray wsX6_address RX6 := ⟨hx, hb, hml, hown, hts⟩
  refine lv_iload_n hx hb dX6_address_0 rfl (lv_at hl 3 rfl) ?_
  refine lv_iload hx hb dX6_address_1 (lv_at hl 4 rfl) ?_
  refine lv_i2l hx hb dX6_address_3 rfl ?_
  refine q_callSl (As := [.int a2, .long ((a3 : Int32).toInt64)]) (rest := []) (c_X4_ofAddress l D a2 ((a3 : Int32).toInt64)) hfix (va_cwS 2 hts gX6_address_X4_ofAddress rfl rfl rfl (by decide +kernel) ⟨Nat.le_of_ble_eq_true rfl, Nat.le_of_ble_eq_true rfl⟩) rfl hl.1 rfl (Nat.le_of_ble_eq_true rfl) ⟨by decide, by decide⟩ hP hK hS hA [] [] rfl rfl dX6_address_4 (fun H locs hP hS => ?_)
  refine lv_lstore (lv' := [(5, .long (f_X4_ofAddress a2 ((a3 : Int32).toInt64))), (0, .ref aX), (1, .int a0), (2, .int a1), (3, .int a2), (4, .int a3)]) hx hb dX6_address_7 hl (by decide) rfl (fun ls hl => ?_)
  refine lv_iload_n hx hb dX6_address_9 rfl (lv_at hl 4 rfl) ?_
  refine q_callSi (As := [.int a2]) (rest := []) (c_X1_isSegment l D a2) hfix (va_cwS 1 hts gX6_address_X1_isSegment rfl rfl rfl (by decide +kernel) ⟨Nat.le_of_ble_eq_true rfl, Nat.le_of_ble_eq_true rfl⟩) rfl hl.1 rfl (Nat.le_of_ble_eq_true rfl) ⟨by decide, by decide⟩ hP hK hS hA [] [] rfl rfl dX6_address_10 (fun H locs hP hS => ?_)
  refine lv_if_eq (tgt := 25) hx hb dX6_address_13 (by decide) (fun c1 => ?_) (fun c1 => ?_)
  · obtain ⟨sa, hsa⟩ := hE.1 (98, "target and at are no address") (by decide +kernel)
    exact q_throw (cls := "java/lang/IllegalArgumentException") (text := "target and at are no address") (names := ["java/lang/RuntimeException", "java/lang/Exception"]) (ik := 42) (is := 98) (ic := 46) 1 S hx hb hlk hown (by decide +kernel) (by decide +kernel) (hts (.classLink RX6 42 "java/lang/IllegalArgumentException") (by decide +kernel)) (hts (.initialized "java/lang/IllegalArgumentException") (by decide +kernel)) hsa (vx_hat (fun w h => hts w (List.mem_cons_of_mem _ (List.mem_append_left _ (List.mem_append_right _ h)))) q_bd46 (q_nw hE)) q_ok46 hZ hS (hl.1.trans hml.symm) dX6_address_25 dX6_address_28 dX6_address_29 dX6_address_31 dX6_address_34 hout (by decide) (by decide) (by decide) (by decide) hlocks hP hD (by decide) (q_x2 (by rw [f_X6_address, if_pos c1]) (by decide)) (by decide) (by decide)
  · refine lv_lload hx hb dX6_address_16 (lv_at hl 0 rfl) ?_
    refine lv_ldc2 (v := -1) hx hb hown (hts (.constantLong RX6 96 (-1)) (by decide +kernel)) dX6_address_18 ?_
    refine q_ne (tgt := 35) hx hb dX6_address_21 dX6_address_22 (by decide) (fun c2 => ?_) (fun c2 => ?_)
    · refine lv_aload_n hx hb dX6_address_35 rfl (lv_at hl 1 rfl) ?_
      refine lv_iload_n hx hb dX6_address_36 rfl (lv_at hl 2 rfl) ?_
      refine lv_iload_n hx hb dX6_address_37 rfl (lv_at hl 3 rfl) ?_
      refine lv_lload hx hb dX6_address_38 (lv_at hl 0 rfl) ?_
      refine q_xcallVv (As := [.int a0, .int a1, .long (f_X4_ofAddress a2 ((a3 : Int32).toInt64))]) (rest := []) (wr := []) (Wn := (fun u => (wX aX aP aM aC aT aR cJ u))) (q0 := 0) (ci := 3) (C := RX6) (c_X6_writeByHost l hlk D aX aP aM aC aT aR cJ S a0 a1 (f_X4_ofAddress a2 ((a3 : Int32).toInt64))) hfix (cwV 3 hts gX6_address_X6_writeByHost rfl rfl rfl (by decide +kernel) ⟨Nat.le_of_ble_eq_true rfl, Nat.le_of_ble_eq_true rfl⟩) rfl hl.1 rfl (Nat.le_of_ble_eq_true rfl) ⟨by decide, by decide⟩ hP hK hD hS hA hE hZ [0, 1, 2, 3, 4, 5] [] [0, 1, 2, 3, 4, 5] [0] rfl rfl rfl (by decide) (by decide) (by decide) (by decide) (fun _ => rfl) (fun _ => rfl) rfl rfl rfl rfl dX6_address_40 (fun E ce q9 k u H locs hw hEk hP hD hS hce hcv hcl => ?_) (fun u H locs hw hP hD hS => ?_)
      · obtain ⟨c3, rfl, rfl⟩ := hw
        have hP : va_P D vwCl (wX aX aP aM aC aT aR cJ (f_X6_writeByHost S a0 a1 (f_X4_ofAddress a2 ((a3 : Int32).toInt64))).2) H := hP
        have hD : va_D A (wX aX aP aM aC aT aR cJ (f_X6_writeByHost S a0 a1 (f_X4_ofAddress a2 ((a3 : Int32).toInt64))).2) := hD
        exact q_pass ((f_X6_writeByHost S a0 a1 (f_X4_ofAddress a2 ((a3 : Int32).toInt64))).1) ((f_X6_writeByHost S a0 a1 (f_X4_ofAddress a2 ((a3 : Int32).toInt64))).2) hout hlocks hce hcv hcl hEk hP hD hS (q_x2 (by rw [f_X6_address, if_neg c1, if_neg c2, if_neg c3]) c3) (by decide) (by decide)
      · obtain ⟨c3, rfl⟩ := hw
        have hP : va_P D vwCl (wX aX aP aM aC aT aR cJ (f_X6_writeByHost S a0 a1 (f_X4_ofAddress a2 ((a3 : Int32).toInt64))).2) H := hP
        have hD : va_D A (wX aX aP aM aC aT aR cJ (f_X6_writeByHost S a0 a1 (f_X4_ofAddress a2 ((a3 : Int32).toInt64))).2) := hD
        refine W.widen (k := 2) (n := 12) (by decide) (by decide) ?_
        exact q_xrv ((f_X6_writeByHost S a0 a1 (f_X4_ofAddress a2 ((a3 : Int32).toInt64))).2) hx hb hr hlocks (by decide) (by decide) hP hD hS (q_p2 (by rw [f_X6_address, if_neg c1, if_neg c2, if_pos c3])) dX6_address_43
    · obtain ⟨sa, hsa⟩ := hE.1 (98, "target and at are no address") (by decide +kernel)
      exact q_throw (cls := "java/lang/IllegalArgumentException") (text := "target and at are no address") (names := ["java/lang/RuntimeException", "java/lang/Exception"]) (ik := 42) (is := 98) (ic := 46) 1 S hx hb hlk hown (by decide +kernel) (by decide +kernel) (hts (.classLink RX6 42 "java/lang/IllegalArgumentException") (by decide +kernel)) (hts (.initialized "java/lang/IllegalArgumentException") (by decide +kernel)) hsa (vx_hat (fun w h => hts w (List.mem_cons_of_mem _ (List.mem_append_left _ (List.mem_append_right _ h)))) q_bd46 (q_nw hE)) q_ok46 hZ hS (hl.1.trans hml.symm) dX6_address_25 dX6_address_28 dX6_address_29 dX6_address_31 dX6_address_34 hout (by decide) (by decide) (by decide) (by decide) hlocks hP hD (by decide) (q_x2 (by rw [f_X6_address, if_neg c1, if_pos c2]) (by decide)) (by decide) (by decide)

def f_X6_start (S : XS) (a0 : Int32) (a1 : Int32) (a2 : Int32) : Int32 × XS :=
  (if (f_X1_isCell a0) = 0 then (1, S) else (if (f_X1_isCell a1) = 0 then (1, S) else (if (f_X1_isCell a2) = 0 then (1, S) else (0, (sX_latestFailure (sX_t (sX_p S (f_X2_place (pX_p S) a0 a1 a2)) (f_X3_empty (pX_t (sX_p S (f_X2_place (pX_p S) a0 a1 a2))))) 0)))))

set_option maxHeartbeats 4000000 in
set_option maxRecDepth 100000 in
theorem c_X6_start (l : Launch) (hlk : l.stackTraces = false) (D : va_G) (aX aP aM aC aT aR : Nat) (cJ : ClassId) (S : XS) (a0 : Int32) (a1 : Int32) (a2 : Int32) : q_xV l yX6_start wsX6_start ({ frames := 6, cells := 1, slots := 6, locals := 82 }) D [(cJ, .long)] (wX aX aP aM aC aT aR cJ S) [.ref aX, .int a0, .int a1, .int a2] (fun u => (f_X6_start S a0 a1 a2).1 = 0 ∧ u = (f_X6_start S a0 a1 a2).2) (fun k u => ¬ (f_X6_start S a0 a1 a2).1 = 0 ∧ k = (f_X6_start S a0 a1 a2).1 ∧ u = (f_X6_start S a0 a1 a2).2) (fun u => (wX aX aP aM aC aT aR cJ u)) 1 6 := by
  refine fun sz => q_x_of (cc := cX6_start) (maxL := 4) (ret := none) (by decide) rfl (Nat.le_of_ble_eq_true rfl) ?_
  intro p e s m below meth c ls hx hb hr hml hown hts hlocks hout hsz hP hK hD hE hZ hl
  subst hsz
  generalize hAe : va_A (wX aX aP aM aC aT aR cJ S) s.heap.size = A at hD hZ ⊢
  have hA : ∀ q, s.heap.size ≤ q → A q := fun q h => by rw [← hAe]; exact Or.inr h
  have hS : va_S A s.heap s.heap [] := va_S.rf
  have hown : s.vm.findClass RX6 = some m.cls := hown
  have hl : lv_has ls 4 [(0, .ref aX), (1, .int a0), (2, .int a1), (3, .int a2)] := hl
  have hfix : CallFix p m c cX6_start 4 s [.ref aX, .int a0, .int a1, .int a2].toArray wsX6_start RX6 := ⟨hx, hb, hml, hown, hts⟩
  have hin3 : ∀ w ∈ wsX60, w ∈ wsX6_start := by decide +kernel
  refine lv_iload_n hx hb dX6_start_0 rfl (lv_at hl 1 rfl) ?_
  refine q_callSi (As := [.int a0]) (rest := []) (c_X1_isCell l D a0) hfix (va_cwS 1 hts gX6_start_X1_isCell rfl rfl rfl (by decide +kernel) ⟨Nat.le_of_ble_eq_true rfl, Nat.le_of_ble_eq_true rfl⟩) rfl hl.1 rfl (Nat.le_of_ble_eq_true rfl) ⟨by decide, by decide⟩ hP hK hS hA [] [] rfl rfl dX6_start_1 (fun H locs hP hS => ?_)
  refine lv_if_eq (tgt := 21) hx hb dX6_start_4 (by decide) (fun c1 => ?_) (fun c1 => ?_)
  · obtain ⟨sa, hsa⟩ := hE.1 (103, "a register is not 0 .. 63") (by decide +kernel)
    exact q_throw (cls := "java/lang/IllegalArgumentException") (text := "a register is not 0 .. 63") (names := ["java/lang/RuntimeException", "java/lang/Exception"]) (ik := 42) (is := 103) (ic := 46) 1 S hx hb hlk hown (by decide +kernel) (by decide +kernel) (hts (.classLink RX6 42 "java/lang/IllegalArgumentException") (by decide +kernel)) (hts (.initialized "java/lang/IllegalArgumentException") (by decide +kernel)) hsa (vx_hat (fun w h => hts w (List.mem_cons_of_mem _ (List.mem_append_right _ h))) q_bd46 (q_nw hE)) q_ok46 hZ hS (hl.1.trans hml.symm) dX6_start_21 dX6_start_24 dX6_start_25 dX6_start_27 dX6_start_30 hout (by decide) (by decide) (by decide) (by decide) hlocks hP hD (by decide) (q_x2 (by rw [f_X6_start, if_pos c1]) (by decide)) (by decide) (by decide)
  · refine lv_iload_n hx hb dX6_start_7 rfl (lv_at hl 2 rfl) ?_
    refine q_callSi (As := [.int a1]) (rest := []) (c_X1_isCell l D a1) hfix (va_cwS 1 hts gX6_start_X1_isCell rfl rfl rfl (by decide +kernel) ⟨Nat.le_of_ble_eq_true rfl, Nat.le_of_ble_eq_true rfl⟩) rfl hl.1 rfl (Nat.le_of_ble_eq_true rfl) ⟨by decide, by decide⟩ hP hK hS hA [] [] rfl rfl dX6_start_8 (fun H locs hP hS => ?_)
    refine lv_if_eq (tgt := 21) hx hb dX6_start_11 (by decide) (fun c2 => ?_) (fun c2 => ?_)
    · obtain ⟨sa, hsa⟩ := hE.1 (103, "a register is not 0 .. 63") (by decide +kernel)
      exact q_throw (cls := "java/lang/IllegalArgumentException") (text := "a register is not 0 .. 63") (names := ["java/lang/RuntimeException", "java/lang/Exception"]) (ik := 42) (is := 103) (ic := 46) 1 S hx hb hlk hown (by decide +kernel) (by decide +kernel) (hts (.classLink RX6 42 "java/lang/IllegalArgumentException") (by decide +kernel)) (hts (.initialized "java/lang/IllegalArgumentException") (by decide +kernel)) hsa (vx_hat (fun w h => hts w (List.mem_cons_of_mem _ (List.mem_append_right _ h))) q_bd46 (q_nw hE)) q_ok46 hZ hS (hl.1.trans hml.symm) dX6_start_21 dX6_start_24 dX6_start_25 dX6_start_27 dX6_start_30 hout (by decide) (by decide) (by decide) (by decide) hlocks hP hD (by decide) (q_x2 (by rw [f_X6_start, if_neg c1, if_pos c2]) (by decide)) (by decide) (by decide)
    · refine lv_iload_n hx hb dX6_start_14 rfl (lv_at hl 3 rfl) ?_
      refine q_callSi (As := [.int a2]) (rest := []) (c_X1_isCell l D a2) hfix (va_cwS 1 hts gX6_start_X1_isCell rfl rfl rfl (by decide +kernel) ⟨Nat.le_of_ble_eq_true rfl, Nat.le_of_ble_eq_true rfl⟩) rfl hl.1 rfl (Nat.le_of_ble_eq_true rfl) ⟨by decide, by decide⟩ hP hK hS hA [] [] rfl rfl dX6_start_15 (fun H locs hP hS => ?_)
      refine lv_if_ne (tgt := 31) hx hb dX6_start_18 (by decide) (fun c3 => ?_) (fun c3 => ?_)
      · refine lv_aload_n hx hb dX6_start_31 rfl (lv_at hl 0 rfl) ?_
        refine va_get (D := D) (ci := 3) (v := .ref aP) (C := RX6) (T := TX6) (N := 4) hx hb hts hin3 hown hK hP 0 rfl rfl 1 (by decide) (hts (.fieldLink RX6 21 "FieldTrace" "processor" "LFieldTrace$Processor;") (by decide +kernel)) (fun _ h9 => h9) rfl dX6_start_32 ?_
        refine lv_iload_n hx hb dX6_start_35 rfl (lv_at hl 1 rfl) ?_
        refine lv_iload_n hx hb dX6_start_36 rfl (lv_at hl 2 rfl) ?_
        refine lv_iload_n hx hb dX6_start_37 rfl (lv_at hl 3 rfl) ?_
        refine q_callMv (As := [.int a0, .int a1, .int a2]) (rest := []) (wr := [(aX, .inr (3, [.ref aM, .ref aP, .ref aT, .int (pX_latestFailure S)])), (aT, .inr (2, [.ref aR, .int (pT_length (pX_t S))])), (aR, .inl (cJ, 192, .inr (.inl (pT_row (pX_t S)))))]) (Wn := (fun u => (wX aX aP aM aC aT aR cJ (sX_p S u)))) (q0 := 0) (ci := 1) (C := RX2) (c_X2_place l D aP aM aC cJ (pX_p S) a0 a1 a2) hfix (cwV 3 hts gX6_start_X2_place rfl rfl rfl (by decide +kernel) ⟨Nat.le_of_ble_eq_true rfl, Nat.le_of_ble_eq_true rfl⟩) rfl hl.1 rfl (Nat.le_of_ble_eq_true rfl) ⟨by decide, by decide⟩ hP hK hD hS hA [1, 2, 3] [0, 4, 5] [0, 3, 4, 5, 1, 2] [0] rfl rfl rfl (by decide) (by decide) (by decide) (by decide) (fun _ => rfl) (fun _ => rfl) rfl rfl rfl rfl dX6_start_38 (fun u H locs hw hP hD hS => ?_)
        obtain rfl := hw
        have hP : va_P D vwCl (wX aX aP aM aC aT aR cJ (sX_p S (f_X2_place (pX_p S) a0 a1 a2))) H := hP
        have hD : va_D A (wX aX aP aM aC aT aR cJ (sX_p S (f_X2_place (pX_p S) a0 a1 a2))) := hD
        refine lv_aload_n hx hb dX6_start_41 rfl (lv_at hl 0 rfl) ?_
        refine va_get (D := D) (ci := 3) (v := .ref aT) (C := RX6) (T := TX6) (N := 4) hx hb hts hin3 hown hK hP 0 rfl rfl 2 (by decide) (hts (.fieldLink RX6 28 "FieldTrace" "trace" "LFieldTrace$Trace;") (by decide +kernel)) (fun _ h9 => h9) rfl dX6_start_42 ?_
        refine q_callMv (As := []) (rest := []) (wr := [(aX, .inr (3, [.ref aM, .ref aP, .ref aT, .int (pX_latestFailure (sX_p S (f_X2_place (pX_p S) a0 a1 a2)))])), (aP, .inr (1, [.ref aM, .long (pP_pc (pX_p (sX_p S (f_X2_place (pX_p S) a0 a1 a2)))), .long (pP_ap (pX_p (sX_p S (f_X2_place (pX_p S) a0 a1 a2)))), .long (pP_fp (pX_p (sX_p S (f_X2_place (pX_p S) a0 a1 a2)))), .long (pP_newPc (pX_p (sX_p S (f_X2_place (pX_p S) a0 a1 a2)))), .long (pP_newAp (pX_p (sX_p S (f_X2_place (pX_p S) a0 a1 a2)))), .long (pP_newFp (pX_p (sX_p S (f_X2_place (pX_p S) a0 a1 a2)))), .long (pP_word (pX_p (sX_p S (f_X2_place (pX_p S) a0 a1 a2)))), .int (pP_flags (pX_p (sX_p S (f_X2_place (pX_p S) a0 a1 a2)))), .long (pP_dstPlace (pX_p (sX_p S (f_X2_place (pX_p S) a0 a1 a2)))), .long (pP_op0Place (pX_p (sX_p S (f_X2_place (pX_p S) a0 a1 a2)))), .long (pP_op1Place (pX_p (sX_p S (f_X2_place (pX_p S) a0 a1 a2)))), .long (pP_res (pX_p (sX_p S (f_X2_place (pX_p S) a0 a1 a2))))])), (aM, .inr (0, [.ref aC])), (aC, .inl (cJ, 320, .inr (.inl (pP_mem (pX_p (sX_p S (f_X2_place (pX_p S) a0 a1 a2)))))))]) (Wn := (fun u => (wX aX aP aM aC aT aR cJ (sX_t (sX_p S (f_X2_place (pX_p S) a0 a1 a2)) u)))) (q0 := 0) (ci := 2) (C := RX3) (c_X3_empty l D aT aR cJ (pX_t (sX_p S (f_X2_place (pX_p S) a0 a1 a2)))) hfix (cwV 0 hts gX6_start_X3_empty rfl rfl rfl (by decide +kernel) ⟨Nat.le_of_ble_eq_true rfl, Nat.le_of_ble_eq_true rfl⟩) rfl hl.1 rfl (Nat.le_of_ble_eq_true rfl) ⟨by decide, by decide⟩ hP hK hD hS hA [4, 5] [0, 1, 2, 3] [0, 1, 2, 3, 4, 5] [0] rfl rfl rfl (by decide) (by decide) (by decide) (by decide) (fun _ => rfl) (fun _ => rfl) rfl rfl rfl rfl dX6_start_45 (fun u H locs hw hP hD hS => ?_)
        obtain rfl := hw
        have hP : va_P D vwCl (wX aX aP aM aC aT aR cJ (sX_t (sX_p S (f_X2_place (pX_p S) a0 a1 a2)) (f_X3_empty (pX_t (sX_p S (f_X2_place (pX_p S) a0 a1 a2)))))) H := hP
        have hD : va_D A (wX aX aP aM aC aT aR cJ (sX_t (sX_p S (f_X2_place (pX_p S) a0 a1 a2)) (f_X3_empty (pX_t (sX_p S (f_X2_place (pX_p S) a0 a1 a2)))))) := hD
        refine lv_aload_n hx hb dX6_start_48 rfl (lv_at hl 0 rfl) ?_
        refine lv_iconst (v := 0) hx hb dX6_start_49 (by decide) ?_
        refine va_put (D := D) (ci := 3) (v := .int 0) (ty := .int) (C := RX6) (T := TX6) (N := 4) hx hb hts hin3 tyX6 tyX6_ok nmX6 hown hK hP hD hS 0 rfl rfl 3 (by decide) (hts (.fieldLink RX6 32 "FieldTrace" "latestFailure" "I") (by decide +kernel)) (fun _ h9 => h9) rfl (by decide +kernel) (rfl) (rfl) (Nat.le_of_ble_eq_true rfl) dX6_start_50 (fun H locs hP hD hS => ?_)
        have hP : va_P D vwCl (wX aX aP aM aC aT aR cJ (sX_latestFailure (sX_t (sX_p S (f_X2_place (pX_p S) a0 a1 a2)) (f_X3_empty (pX_t (sX_p S (f_X2_place (pX_p S) a0 a1 a2))))) 0)) H := hP
        have hD : va_D A (wX aX aP aM aC aT aR cJ (sX_latestFailure (sX_t (sX_p S (f_X2_place (pX_p S) a0 a1 a2)) (f_X3_empty (pX_t (sX_p S (f_X2_place (pX_p S) a0 a1 a2))))) 0)) := hD
        exact q_xrv (sX_latestFailure (sX_t (sX_p S (f_X2_place (pX_p S) a0 a1 a2)) (f_X3_empty (pX_t (sX_p S (f_X2_place (pX_p S) a0 a1 a2))))) 0) hx hb hr hlocks (by decide) (by decide) hP hD hS (q_p2 (by rw [f_X6_start, if_neg c1, if_neg c2, if_neg c3])) dX6_start_53
      · obtain ⟨sa, hsa⟩ := hE.1 (103, "a register is not 0 .. 63") (by decide +kernel)
        exact q_throw (cls := "java/lang/IllegalArgumentException") (text := "a register is not 0 .. 63") (names := ["java/lang/RuntimeException", "java/lang/Exception"]) (ik := 42) (is := 103) (ic := 46) 1 S hx hb hlk hown (by decide +kernel) (by decide +kernel) (hts (.classLink RX6 42 "java/lang/IllegalArgumentException") (by decide +kernel)) (hts (.initialized "java/lang/IllegalArgumentException") (by decide +kernel)) hsa (vx_hat (fun w h => hts w (List.mem_cons_of_mem _ (List.mem_append_right _ h))) q_bd46 (q_nw hE)) q_ok46 hZ hS (hl.1.trans hml.symm) dX6_start_21 dX6_start_24 dX6_start_25 dX6_start_27 dX6_start_30 hout (by decide) (by decide) (by decide) (by decide) hlocks hP hD (by decide) (q_x2 (by rw [f_X6_start, if_neg c1, if_neg c2, if_pos c3]) (by decide)) (by decide) (by decide)

