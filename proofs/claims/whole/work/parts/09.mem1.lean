def f_X1_look (S : (Nat → Int64)) (a0 : Int32) (a1 : Int32) : Int64 :=
  (if (f_X1_isSegment a0) = 0 then (-1) else (if (f_X1_isCell a1) = 0 then (-1) else S (f_X1_indexOf a0 a1).toNatClampNeg))

set_option maxHeartbeats 4000000 in
set_option maxRecDepth 100000 in
theorem c_X1_look (l : Launch) (D : va_G) (aM aC : Nat) (cJ : ClassId) (S : (Nat → Int64)) (a0 : Int32) (a1 : Int32) : q_roL l yX1_look wsX1_look ({ frames := 1, cells := 0, slots := 0, locals := 21 }) D [(cJ, .long)] (wM aM aC cJ S) [.ref aM, .int a0, .int a1] (f_X1_look S a0 a1) := by
  refine q_roL_of (cc := cX1_look) (maxL := 3) (ret := (some .long)) (plainFor_of_name (by decide)) rfl (Nat.le_of_ble_eq_true rfl) ?_
  intro p e s m below meth c ls A hx hb hr hml hown hts hlocks hP hK hA hS hl
  have hown : s.vm.findClass RX1 = some m.cls := hown
  have hl : lv_has ls 3 [(0, .ref aM), (1, .int a0), (2, .int a1)] := hl
  have hfix : CallFix p m c cX1_look 3 s [.ref aM, .int a0, .int a1].toArray wsX1_look RX1 := ⟨hx, hb, hml, hown, hts⟩
  have hin0 : ∀ w ∈ wsX10, w ∈ wsX1_look := by decide +kernel
  refine lv_iload_n hx hb dX1_look_0 rfl (lv_at hl 1 rfl) ?_
  refine q_callSi (As := [.int a0]) (rest := []) (c_X1_isSegment l D a0) hfix (va_cwS 1 hts gX1_look_X1_isSegment rfl rfl rfl (by decide +kernel) ⟨Nat.le_of_ble_eq_true rfl, Nat.le_of_ble_eq_true rfl⟩) rfl hl.1 rfl (Nat.le_of_ble_eq_true rfl) ⟨Nat.zero_le _, Nat.zero_le _⟩ hP hK hS hA [] [] rfl rfl dX1_look_1 (fun H locs hP hS => ?_)
  refine lv_if_eq (tgt := 27) hx hb dX1_look_4 (by decide) (fun c1 => ?_) (fun c1 => ?_)
  · refine lv_ldc2 (v := -1) hx hb hown (hts (.constantLong RX1 15 (-1)) (by decide +kernel)) dX1_look_27 ?_
    exact q_rl hx hb hr hlocks hS (Eq.symm (by rw [f_X1_look, if_pos c1])) dX1_look_30
  · refine lv_iload_n hx hb dX1_look_7 rfl (lv_at hl 2 rfl) ?_
    refine q_callSi (As := [.int a1]) (rest := []) (c_X1_isCell l D a1) hfix (va_cwS 1 hts gX1_look_X1_isCell rfl rfl rfl (by decide +kernel) ⟨Nat.le_of_ble_eq_true rfl, Nat.le_of_ble_eq_true rfl⟩) rfl hl.1 rfl (Nat.le_of_ble_eq_true rfl) ⟨Nat.zero_le _, Nat.zero_le _⟩ hP hK hS hA [] [] rfl rfl dX1_look_8 (fun H locs hP hS => ?_)
    refine lv_if_eq (tgt := 27) hx hb dX1_look_11 (by decide) (fun c2 => ?_) (fun c2 => ?_)
    · refine lv_ldc2 (v := -1) hx hb hown (hts (.constantLong RX1 15 (-1)) (by decide +kernel)) dX1_look_27 ?_
      exact q_rl hx hb hr hlocks hS (Eq.symm (by rw [f_X1_look, if_neg c1, if_pos c2])) dX1_look_30
    · refine lv_aload_n hx hb dX1_look_14 rfl (lv_at hl 0 rfl) ?_
      refine va_get (D := D) (ci := 0) (v := .ref aC) (C := RX1) (T := TX1) (N := 1) hx hb hts hin0 hown hK hP 0 rfl rfl 0 (by decide) (hts (.fieldLink RX1 9 "FieldTrace$Memory" "cells" "[J") (by decide +kernel)) (fun _ h9 => h9) rfl dX1_look_15 ?_
      refine lv_iload_n hx hb dX1_look_18 rfl (lv_at hl 1 rfl) ?_
      refine lv_iload_n hx hb dX1_look_19 rfl (lv_at hl 2 rfl) ?_
      refine q_callSi (As := [.int a0, .int a1]) (rest := [.ref aC]) (c_X1_indexOf l D a0 a1) hfix (va_cwS 2 hts gX1_look_X1_indexOf rfl rfl rfl (by decide +kernel) ⟨Nat.le_of_ble_eq_true rfl, Nat.le_of_ble_eq_true rfl⟩) rfl hl.1 rfl (Nat.le_of_ble_eq_true rfl) ⟨Nat.zero_le _, Nat.zero_le _⟩ hP hK hS hA [] [] rfl rfl dX1_look_20 (fun H locs hP hS => ?_)
      refine va_lald hx hb hK hP 1 0 rfl rfl (q_ixin c1 c2) dX1_look_23 ?_
      refine lv_goto (tgt := 30) hx hb dX1_look_24 (by decide) ?_
      exact q_rl hx hb hr hlocks hS (Eq.symm (by rw [f_X1_look, if_neg c1, if_neg c2])) dX1_look_30

def f_X1_isOpenTo (S : (Nat → Int64)) (a0 : Int32) (a1 : Int64) : Int32 :=
  (if (S a0.toNatClampNeg) = (-1) then 1 else (if (S a0.toNatClampNeg) = a1 then 1 else 0))

set_option maxHeartbeats 4000000 in
set_option maxRecDepth 100000 in
theorem c_X1_isOpenTo (l : Launch) (D : va_G) (aM aC : Nat) (cJ : ClassId) (S : (Nat → Int64)) (a0 : Int32) (a1 : Int64) (hin : vp_in a0 320) : q_roI l yX1_isOpenTo wsX1_isOpenTo ({ frames := 0, cells := 0, slots := 0, locals := 0 }) D [(cJ, .long)] (wM aM aC cJ S) [.ref aM, .int a0, .long a1] (f_X1_isOpenTo S a0 a1) := by
  refine q_roI_of (cc := cX1_isOpenTo) (maxL := 4) (ret := (some .boolean)) (plainFor_of_name (by decide)) rfl (Nat.le_of_ble_eq_true rfl) ?_
  intro p e s m below meth c ls A hx hb hr hml hown hts hlocks hP hK hA hS hl
  have hown : s.vm.findClass RX1 = some m.cls := hown
  have hl : lv_has ls 4 [(0, .ref aM), (1, .int a0), (2, .long a1)] := hl
  have hin0 : ∀ w ∈ wsX10, w ∈ wsX1_isOpenTo := by decide +kernel
  refine lv_aload_n hx hb dX1_isOpenTo_0 rfl (lv_at hl 0 rfl) ?_
  refine va_get (D := D) (ci := 0) (v := .ref aC) (C := RX1) (T := TX1) (N := 1) hx hb hts hin0 hown hK hP 0 rfl rfl 0 (by decide) (hts (.fieldLink RX1 9 "FieldTrace$Memory" "cells" "[J") (by decide +kernel)) (fun _ h9 => h9) rfl dX1_isOpenTo_1 ?_
  refine lv_iload_n hx hb dX1_isOpenTo_4 rfl (lv_at hl 1 rfl) ?_
  refine va_lald hx hb hK hP 1 0 rfl rfl (hin) dX1_isOpenTo_5 ?_
  refine lv_ldc2 (v := -1) hx hb hown (hts (.constantLong RX1 15 (-1)) (by decide +kernel)) dX1_isOpenTo_6 ?_
  refine q_eq (tgt := 24) hx hb dX1_isOpenTo_9 dX1_isOpenTo_10 (by decide) (fun c1 => ?_) (fun c1 => ?_)
  · refine lv_iconst (v := 1) hx hb dX1_isOpenTo_24 (by decide) ?_
    refine lv_goto (tgt := 29) hx hb dX1_isOpenTo_25 (by decide) ?_
    exact q_rz hx hb hr hlocks (rfl) hS (Eq.symm (by rw [f_X1_isOpenTo, if_pos c1])) dX1_isOpenTo_29
  · refine lv_aload_n hx hb dX1_isOpenTo_13 rfl (lv_at hl 0 rfl) ?_
    refine va_get (D := D) (ci := 0) (v := .ref aC) (C := RX1) (T := TX1) (N := 1) hx hb hts hin0 hown hK hP 0 rfl rfl 0 (by decide) (hts (.fieldLink RX1 9 "FieldTrace$Memory" "cells" "[J") (by decide +kernel)) (fun _ h9 => h9) rfl dX1_isOpenTo_14 ?_
    refine lv_iload_n hx hb dX1_isOpenTo_17 rfl (lv_at hl 1 rfl) ?_
    refine va_lald hx hb hK hP 1 0 rfl rfl (hin) dX1_isOpenTo_18 ?_
    refine lv_lload_n hx hb dX1_isOpenTo_19 rfl (lv_at hl 2 rfl) ?_
    refine q_ne (tgt := 28) hx hb dX1_isOpenTo_20 dX1_isOpenTo_21 (by decide) (fun c2 => ?_) (fun c2 => ?_)
    · refine lv_iconst (v := 0) hx hb dX1_isOpenTo_28 (by decide) ?_
      exact q_rz hx hb hr hlocks (rfl) hS (Eq.symm (by rw [f_X1_isOpenTo, if_neg c1, if_neg c2])) dX1_isOpenTo_29
    · refine lv_iconst (v := 1) hx hb dX1_isOpenTo_24 (by decide) ?_
      refine lv_goto (tgt := 29) hx hb dX1_isOpenTo_25 (by decide) ?_
      exact q_rz hx hb hr hlocks (rfl) hS (Eq.symm (by rw [f_X1_isOpenTo, if_neg c1, if_pos c2])) dX1_isOpenTo_29

def f_X1_takes (S : (Nat → Int64)) (a0 : Int32) (a1 : Int32) (a2 : Int64) : Int32 :=
  (if a0 = 3 then (if (f_X4_isNumber a2) = 0 then 0 else (if 65536 ≤ a2 then 0 else 1)) else (if a0 = 4 then (if 1 < (a1 - a1 / 5 * 5) then 1 else (if (f_X4_isNumber a2) = 0 then 0 else (if 1152921504606846976 ≤ a2 then 0 else 1))) else (if a0 = 5 then (if a1 = 0 then 1 else (if (f_X1_look S 5 (a1 - 1)) = (-1) then 0 else 1)) else 1)))

set_option maxHeartbeats 4000000 in
set_option maxRecDepth 100000 in
theorem c_X1_takes (l : Launch) (D : va_G) (aM aC : Nat) (cJ : ClassId) (S : (Nat → Int64)) (a0 : Int32) (a1 : Int32) (a2 : Int64) : q_roI l yX1_takes wsX1_takes ({ frames := 2, cells := 0, slots := 0, locals := 43 }) D [(cJ, .long)] (wM aM aC cJ S) [.ref aM, .int a0, .int a1, .long a2] (f_X1_takes S a0 a1 a2) := by
  refine q_roI_of (cc := cX1_takes) (maxL := 5) (ret := (some .boolean)) (plainFor_of_name (by decide)) rfl (Nat.le_of_ble_eq_true rfl) ?_
  intro p e s m below meth c ls A hx hb hr hml hown hts hlocks hP hK hA hS hl
  have hown : s.vm.findClass RX1 = some m.cls := hown
  have hl : lv_has ls 5 [(0, .ref aM), (1, .int a0), (2, .int a1), (3, .long a2)] := hl
  have hfix : CallFix p m c cX1_takes 5 s [.ref aM, .int a0, .int a1, .long a2].toArray wsX1_takes RX1 := ⟨hx, hb, hml, hown, hts⟩
  refine lv_iload_n hx hb dX1_takes_0 rfl (lv_at hl 1 rfl) ?_
  by_cases c1 : a0 = 3
  · refine lv_tableIn (off := 27) (tgt := 28) hx hb dX1_takes_1 (by rw [c1]; decide) (by rw [c1]; decide) (by rw [c1]; rfl) (by decide) ?_
    refine lv_lload_n hx hb dX1_takes_28 rfl (lv_at hl 3 rfl) ?_
    refine q_callSi (As := [.long a2]) (rest := []) (c_X4_isNumber l D a2) hfix (va_cwS 1 hts gX1_takes_X4_isNumber rfl rfl rfl (by decide +kernel) ⟨Nat.le_of_ble_eq_true rfl, Nat.le_of_ble_eq_true rfl⟩) rfl hl.1 rfl (Nat.le_of_ble_eq_true rfl) ⟨Nat.zero_le _, Nat.zero_le _⟩ hP hK hS hA [] [] rfl rfl dX1_takes_29 (fun H locs hP hS => ?_)
    refine lv_if_eq (tgt := 47) hx hb dX1_takes_32 (by decide) (fun c2 => ?_) (fun c2 => ?_)
    · refine lv_iconst (v := 0) hx hb dX1_takes_47 (by decide) ?_
      exact q_rz hx hb hr hlocks (rfl) hS (Eq.symm (by rw [f_X1_takes, if_pos c1, if_pos c2])) dX1_takes_48
    · refine lv_lload_n hx hb dX1_takes_35 rfl (lv_at hl 3 rfl) ?_
      refine lv_ldc2 (v := 65536) hx hb hown (hts (.constantLong RX1 76 (65536)) (by decide +kernel)) dX1_takes_36 ?_
      refine q_ge (tgt := 47) hx hb dX1_takes_39 dX1_takes_40 (by decide) (fun c3 => ?_) (fun c3 => ?_)
      · refine lv_iconst (v := 0) hx hb dX1_takes_47 (by decide) ?_
        exact q_rz hx hb hr hlocks (rfl) hS (Eq.symm (by rw [f_X1_takes, if_pos c1, if_neg c2, if_pos c3])) dX1_takes_48
      · refine lv_iconst (v := 1) hx hb dX1_takes_43 (by decide) ?_
        refine lv_goto (tgt := 48) hx hb dX1_takes_44 (by decide) ?_
        exact q_rz hx hb hr hlocks (rfl) hS (Eq.symm (by rw [f_X1_takes, if_pos c1, if_neg c2, if_neg c3])) dX1_takes_48
  · by_cases c4 : a0 = 4
    · refine lv_tableIn (off := 48) (tgt := 49) hx hb dX1_takes_1 (by rw [c4]; decide) (by rw [c4]; decide) (by rw [c4]; rfl) (by decide) ?_
      refine lv_iload_n hx hb dX1_takes_49 rfl (lv_at hl 2 rfl) ?_
      refine lv_iconst (v := 5) hx hb dX1_takes_50 (by decide) ?_
      refine lv_irem hx hb dX1_takes_51 (by decide) ?_
      refine lv_iconst (v := 1) hx hb dX1_takes_52 (by decide) ?_
      refine lv_icmp_gt (tgt := 71) hx hb dX1_takes_53 (by decide) (fun c5 => ?_) (fun c5 => ?_)
      · refine lv_iconst (v := 1) hx hb dX1_takes_71 (by decide) ?_
        refine lv_goto (tgt := 76) hx hb dX1_takes_72 (by decide) ?_
        exact q_rz hx hb hr hlocks (rfl) hS (Eq.symm (by rw [f_X1_takes, if_neg c1, if_pos c4, if_pos c5])) dX1_takes_76
      · refine lv_lload_n hx hb dX1_takes_56 rfl (lv_at hl 3 rfl) ?_
        refine q_callSi (As := [.long a2]) (rest := []) (c_X4_isNumber l D a2) hfix (va_cwS 1 hts gX1_takes_X4_isNumber rfl rfl rfl (by decide +kernel) ⟨Nat.le_of_ble_eq_true rfl, Nat.le_of_ble_eq_true rfl⟩) rfl hl.1 rfl (Nat.le_of_ble_eq_true rfl) ⟨Nat.zero_le _, Nat.zero_le _⟩ hP hK hS hA [] [] rfl rfl dX1_takes_57 (fun H locs hP hS => ?_)
        refine lv_if_eq (tgt := 75) hx hb dX1_takes_60 (by decide) (fun c6 => ?_) (fun c6 => ?_)
        · refine lv_iconst (v := 0) hx hb dX1_takes_75 (by decide) ?_
          exact q_rz hx hb hr hlocks (rfl) hS (Eq.symm (by rw [f_X1_takes, if_neg c1, if_pos c4, if_neg c5, if_pos c6])) dX1_takes_76
        · refine lv_lload_n hx hb dX1_takes_63 rfl (lv_at hl 3 rfl) ?_
          refine lv_ldc2 (v := 1152921504606846976) hx hb hown (hts (.constantLong RX1 78 (1152921504606846976)) (by decide +kernel)) dX1_takes_64 ?_
          refine q_ge (tgt := 75) hx hb dX1_takes_67 dX1_takes_68 (by decide) (fun c7 => ?_) (fun c7 => ?_)
          · refine lv_iconst (v := 0) hx hb dX1_takes_75 (by decide) ?_
            exact q_rz hx hb hr hlocks (rfl) hS (Eq.symm (by rw [f_X1_takes, if_neg c1, if_pos c4, if_neg c5, if_neg c6, if_pos c7])) dX1_takes_76
          · refine lv_iconst (v := 1) hx hb dX1_takes_71 (by decide) ?_
            refine lv_goto (tgt := 76) hx hb dX1_takes_72 (by decide) ?_
            exact q_rz hx hb hr hlocks (rfl) hS (Eq.symm (by rw [f_X1_takes, if_neg c1, if_pos c4, if_neg c5, if_neg c6, if_neg c7])) dX1_takes_76
    · by_cases c8 : a0 = 5
      · refine lv_tableIn (off := 76) (tgt := 77) hx hb dX1_takes_1 (by rw [c8]; decide) (by rw [c8]; decide) (by rw [c8]; rfl) (by decide) ?_
        refine lv_iload_n hx hb dX1_takes_77 rfl (lv_at hl 2 rfl) ?_
        refine lv_if_eq (tgt := 96) hx hb dX1_takes_78 (by decide) (fun c9 => ?_) (fun c9 => ?_)
        · refine lv_iconst (v := 1) hx hb dX1_takes_96 (by decide) ?_
          refine lv_goto (tgt := 101) hx hb dX1_takes_97 (by decide) ?_
          exact q_rz hx hb hr hlocks (rfl) hS (Eq.symm (by rw [f_X1_takes, if_neg c1, if_neg c4, if_pos c8, if_pos c9])) dX1_takes_101
        · refine lv_aload_n hx hb dX1_takes_81 rfl (lv_at hl 0 rfl) ?_
          refine lv_iconst (v := 5) hx hb dX1_takes_82 (by decide) ?_
          refine lv_iload_n hx hb dX1_takes_83 rfl (lv_at hl 2 rfl) ?_
          refine lv_iconst (v := 1) hx hb dX1_takes_84 (by decide) ?_
          refine lv_isub hx hb dX1_takes_85 ?_
          refine q_callVl (As := [.int 5, .int (a1 - 1)]) (rest := []) (q0 := 0) (ci := 0) (C := RX1) (c_X1_look l D aM aC cJ S 5 (a1 - 1)) hfix (cwV 2 hts gX1_takes_X1_look rfl rfl rfl (by decide +kernel) ⟨Nat.le_of_ble_eq_true rfl, Nat.le_of_ble_eq_true rfl⟩) rfl hl.1 rfl (Nat.le_of_ble_eq_true rfl) ⟨Nat.zero_le _, Nat.zero_le _⟩ hP hK hS hA [0, 1] [0] rfl rfl rfl rfl rfl dX1_takes_86 (fun H locs hP hS => ?_)
          refine lv_ldc2 (v := -1) hx hb hown (hts (.constantLong RX1 15 (-1)) (by decide +kernel)) dX1_takes_89 ?_
          refine q_eq (tgt := 100) hx hb dX1_takes_92 dX1_takes_93 (by decide) (fun c10 => ?_) (fun c10 => ?_)
          · refine lv_iconst (v := 0) hx hb dX1_takes_100 (by decide) ?_
            exact q_rz hx hb hr hlocks (rfl) hS (Eq.symm (by rw [f_X1_takes, if_neg c1, if_neg c4, if_pos c8, if_neg c9, if_pos c10])) dX1_takes_101
          · refine lv_iconst (v := 1) hx hb dX1_takes_96 (by decide) ?_
            refine lv_goto (tgt := 101) hx hb dX1_takes_97 (by decide) ?_
            exact q_rz hx hb hr hlocks (rfl) hS (Eq.symm (by rw [f_X1_takes, if_neg c1, if_neg c4, if_pos c8, if_neg c9, if_neg c10])) dX1_takes_101
      · refine lv_tableOut (tgt := 102) hx hb dX1_takes_1 (by have z3 := lv_neT c1 (a := 3) rfl; have z4 := lv_neT c4 (a := 4) rfl; have z5 := lv_neT c8 (a := 5) rfl; omega) (by decide) ?_
        refine lv_iconst (v := 1) hx hb dX1_takes_102 (by decide) ?_
        exact q_rz hx hb hr hlocks (rfl) hS (Eq.symm (by rw [f_X1_takes, if_neg c1, if_neg c4, if_neg c8])) dX1_takes_103

def f_X1_completesGroup (S : (Nat → Int64)) (a0 : Int32) (a1 : Int64) : Int32 × (Nat → Int64) :=
  (if ((a0 - (a0 - a0 / 5 * 5)) + 1) < a0 then (1, S) else (if ((a0 - (a0 - a0 / 5 * 5)) + 5) ≤ 64 then (if a0 = (a0 - (a0 - a0 / 5 * 5)) then (if (S ((f_X1_indexOf 4 ((a0 - (a0 - a0 / 5 * 5)) + 2)) - 1).toNatClampNeg) = (-1) then (1, S) else (if (f_X1_isOpenTo S (f_X1_indexOf 4 ((a0 - (a0 - a0 / 5 * 5)) + 2)) (a1 &&& (S ((f_X1_indexOf 4 ((a0 - (a0 - a0 / 5 * 5)) + 2)) - 1).toNatClampNeg))) = 0 then (0, S) else (if (f_X1_isOpenTo S ((f_X1_indexOf 4 ((a0 - (a0 - a0 / 5 * 5)) + 2)) + 1) (a1 ^^^ (S ((f_X1_indexOf 4 ((a0 - (a0 - a0 / 5 * 5)) + 2)) - 1).toNatClampNeg))) = 0 then (0, S) else (if (f_X1_isOpenTo S ((f_X1_indexOf 4 ((a0 - (a0 - a0 / 5 * 5)) + 2)) + 2) (a1 ||| (S ((f_X1_indexOf 4 ((a0 - (a0 - a0 / 5 * 5)) + 2)) - 1).toNatClampNeg))) = 0 then (0, S) else (1, (vp_updL (vp_updL (vp_updL S ((f_X1_indexOf 4 ((a0 - (a0 - a0 / 5 * 5)) + 2)) : Int32).toNatClampNeg (a1 &&& (S ((f_X1_indexOf 4 ((a0 - (a0 - a0 / 5 * 5)) + 2)) - 1).toNatClampNeg))) ((f_X1_indexOf 4 ((a0 - (a0 - a0 / 5 * 5)) + 2)) + 1 : Int32).toNatClampNeg (a1 ^^^ (S ((f_X1_indexOf 4 ((a0 - (a0 - a0 / 5 * 5)) + 2)) - 1).toNatClampNeg))) ((f_X1_indexOf 4 ((a0 - (a0 - a0 / 5 * 5)) + 2)) + 2 : Int32).toNatClampNeg (a1 ||| (S ((f_X1_indexOf 4 ((a0 - (a0 - a0 / 5 * 5)) + 2)) - 1).toNatClampNeg)))))))) else (if (S ((f_X1_indexOf 4 ((a0 - (a0 - a0 / 5 * 5)) + 2)) - 2).toNatClampNeg) = (-1) then (1, S) else (if (f_X1_isOpenTo S (f_X1_indexOf 4 ((a0 - (a0 - a0 / 5 * 5)) + 2)) (a1 &&& (S ((f_X1_indexOf 4 ((a0 - (a0 - a0 / 5 * 5)) + 2)) - 2).toNatClampNeg))) = 0 then (0, S) else (if (f_X1_isOpenTo S ((f_X1_indexOf 4 ((a0 - (a0 - a0 / 5 * 5)) + 2)) + 1) (a1 ^^^ (S ((f_X1_indexOf 4 ((a0 - (a0 - a0 / 5 * 5)) + 2)) - 2).toNatClampNeg))) = 0 then (0, S) else (if (f_X1_isOpenTo S ((f_X1_indexOf 4 ((a0 - (a0 - a0 / 5 * 5)) + 2)) + 2) (a1 ||| (S ((f_X1_indexOf 4 ((a0 - (a0 - a0 / 5 * 5)) + 2)) - 2).toNatClampNeg))) = 0 then (0, S) else (1, (vp_updL (vp_updL (vp_updL S ((f_X1_indexOf 4 ((a0 - (a0 - a0 / 5 * 5)) + 2)) : Int32).toNatClampNeg (a1 &&& (S ((f_X1_indexOf 4 ((a0 - (a0 - a0 / 5 * 5)) + 2)) - 2).toNatClampNeg))) ((f_X1_indexOf 4 ((a0 - (a0 - a0 / 5 * 5)) + 2)) + 1 : Int32).toNatClampNeg (a1 ^^^ (S ((f_X1_indexOf 4 ((a0 - (a0 - a0 / 5 * 5)) + 2)) - 2).toNatClampNeg))) ((f_X1_indexOf 4 ((a0 - (a0 - a0 / 5 * 5)) + 2)) + 2 : Int32).toNatClampNeg (a1 ||| (S ((f_X1_indexOf 4 ((a0 - (a0 - a0 / 5 * 5)) + 2)) - 2).toNatClampNeg))))))))) else (1, S)))

set_option maxHeartbeats 4000000 in
set_option maxRecDepth 100000 in
theorem c_X1_completesGroup (l : Launch) (D : va_G) (aM aC : Nat) (cJ : ClassId) (S : (Nat → Int64)) (a0 : Int32) (a1 : Int64) (hk : vp_in a0 64) : q_muI l yX1_completesGroup wsX1_completesGroup ({ frames := 1, cells := 0, slots := 0, locals := 23 }) D [(cJ, .long)] (wM aM aC cJ S) [.ref aM, .int a0, .long a1] (fun r u => r = (f_X1_completesGroup S a0 a1).1 ∧ u = (f_X1_completesGroup S a0 a1).2) (fun u => (wM aM aC cJ u)) := by
  refine q_muI_of (cc := cX1_completesGroup) (maxL := 8) (ret := (some .boolean)) (plainFor_of_name (by decide)) rfl (Nat.le_of_ble_eq_true rfl) ?_
  intro p e s m below meth c ls A hx hb hr hml hown hts hlocks hP hK hD hA hS hl
  have hown : s.vm.findClass RX1 = some m.cls := hown
  have hl : lv_has ls 8 [(0, .ref aM), (1, .int a0), (2, .long a1)] := hl
  have hfix : CallFix p m c cX1_completesGroup 8 s [.ref aM, .int a0, .long a1].toArray wsX1_completesGroup RX1 := ⟨hx, hb, hml, hown, hts⟩
  have hin0 : ∀ w ∈ wsX10, w ∈ wsX1_completesGroup := by decide +kernel
  refine lv_iload_n hx hb dX1_completesGroup_0 rfl (lv_at hl 1 rfl) ?_
  refine lv_iload_n hx hb dX1_completesGroup_1 rfl (lv_at hl 1 rfl) ?_
  refine lv_iconst (v := 5) hx hb dX1_completesGroup_2 (by decide) ?_
  refine lv_irem hx hb dX1_completesGroup_3 (by decide) ?_
  refine lv_isub hx hb dX1_completesGroup_4 ?_
  refine lv_istore (lv' := [(4, .int (a0 - (a0 - a0 / 5 * 5))), (0, .ref aM), (1, .int a0), (2, .long a1)]) hx hb dX1_completesGroup_5 hl (by decide) rfl (fun ls hl => ?_)
  refine lv_iload_n hx hb dX1_completesGroup_7 rfl (lv_at hl 2 rfl) ?_
  refine lv_iload hx hb dX1_completesGroup_8 (lv_at hl 0 rfl) ?_
  refine lv_iconst (v := 1) hx hb dX1_completesGroup_10 (by decide) ?_
  refine lv_iadd hx hb dX1_completesGroup_11 ?_
  refine lv_icmp_gt (tgt := 24) hx hb dX1_completesGroup_12 (by decide) (fun c1 => ?_) (fun c1 => ?_)
  · refine lv_iconst (v := 1) hx hb dX1_completesGroup_24 (by decide) ?_
    exact q_mz S hx hb hr hlocks (rfl) hP hD hS (q_pair (by rw [f_X1_completesGroup, if_pos c1])) dX1_completesGroup_25
  · refine lv_iload hx hb dX1_completesGroup_15 (lv_at hl 0 rfl) ?_
    refine lv_iconst (v := 5) hx hb dX1_completesGroup_17 (by decide) ?_
    refine lv_iadd hx hb dX1_completesGroup_18 ?_
    refine lv_bipush (v := 64) hx hb dX1_completesGroup_19 (by decide) ?_
    refine lv_icmp_le (tgt := 26) hx hb dX1_completesGroup_21 (by decide) (fun c2 => ?_) (fun c2 => ?_)
    · refine lv_iconst (v := 4) hx hb dX1_completesGroup_26 (by decide) ?_
      refine lv_iload hx hb dX1_completesGroup_27 (lv_at hl 0 rfl) ?_
      refine lv_iconst (v := 2) hx hb dX1_completesGroup_29 (by decide) ?_
      refine lv_iadd hx hb dX1_completesGroup_30 ?_
      refine q_callSi (As := [.int 4, .int ((a0 - (a0 - a0 / 5 * 5)) + 2)]) (rest := []) (c_X1_indexOf l D 4 ((a0 - (a0 - a0 / 5 * 5)) + 2)) hfix (va_cwS 2 hts gX1_completesGroup_X1_indexOf rfl rfl rfl (by decide +kernel) ⟨Nat.le_of_ble_eq_true rfl, Nat.le_of_ble_eq_true rfl⟩) rfl hl.1 rfl (Nat.le_of_ble_eq_true rfl) ⟨Nat.zero_le _, Nat.zero_le _⟩ hP hK hS hA [] [] rfl rfl dX1_completesGroup_31 (fun H locs hP hS => ?_)
      refine lv_istore (lv' := [(5, .int (f_X1_indexOf 4 ((a0 - (a0 - a0 / 5 * 5)) + 2))), (4, .int (a0 - (a0 - a0 / 5 * 5))), (0, .ref aM), (1, .int a0), (2, .long a1)]) hx hb dX1_completesGroup_34 hl (by decide) rfl (fun ls hl => ?_)
      refine lv_aload_n hx hb dX1_completesGroup_36 rfl (lv_at hl 2 rfl) ?_
      refine va_get (D := D) (ci := 0) (v := .ref aC) (C := RX1) (T := TX1) (N := 1) hx hb hts hin0 hown hK hP 0 rfl rfl 0 (by decide) (hts (.fieldLink RX1 9 "FieldTrace$Memory" "cells" "[J") (by decide +kernel)) (fun _ h9 => h9) rfl dX1_completesGroup_37 ?_
      refine lv_iload_n hx hb dX1_completesGroup_40 rfl (lv_at hl 3 rfl) ?_
      refine lv_iload hx hb dX1_completesGroup_41 (lv_at hl 1 rfl) ?_
      refine lv_icmp_ne (tgt := 53) hx hb dX1_completesGroup_43 (by decide) (fun c3 => ?_) (fun c3 => ?_)
      · refine lv_iload hx hb dX1_completesGroup_53 (lv_at hl 0 rfl) ?_
        refine lv_iconst (v := 2) hx hb dX1_completesGroup_55 (by decide) ?_
        refine lv_isub hx hb dX1_completesGroup_56 ?_
        refine va_lald hx hb hK hP 1 0 rfl rfl (q_gm2 hk c2) dX1_completesGroup_57 ?_
        refine lv_lstore (lv' := [(6, .long (S ((f_X1_indexOf 4 ((a0 - (a0 - a0 / 5 * 5)) + 2)) - 2).toNatClampNeg)), (5, .int (f_X1_indexOf 4 ((a0 - (a0 - a0 / 5 * 5)) + 2))), (4, .int (a0 - (a0 - a0 / 5 * 5))), (0, .ref aM), (1, .int a0), (2, .long a1)]) hx hb dX1_completesGroup_58 hl (by decide) rfl (fun ls hl => ?_)
        refine lv_lload hx hb dX1_completesGroup_60 (lv_at hl 0 rfl) ?_
        refine lv_ldc2 (v := -1) hx hb hown (hts (.constantLong RX1 15 (-1)) (by decide +kernel)) dX1_completesGroup_62 ?_
        refine q_ne (tgt := 71) hx hb dX1_completesGroup_65 dX1_completesGroup_66 (by decide) (fun c4 => ?_) (fun c4 => ?_)
        · refine lv_aload_n hx hb dX1_completesGroup_71 rfl (lv_at hl 3 rfl) ?_
          refine lv_iload hx hb dX1_completesGroup_72 (lv_at hl 1 rfl) ?_
          refine lv_lload_n hx hb dX1_completesGroup_74 rfl (lv_at hl 5 rfl) ?_
          refine lv_lload hx hb dX1_completesGroup_75 (lv_at hl 0 rfl) ?_
          refine lv_land hx hb dX1_completesGroup_77 ?_
          refine q_callVi (As := [.int (f_X1_indexOf 4 ((a0 - (a0 - a0 / 5 * 5)) + 2)), .long (a1 &&& (S ((f_X1_indexOf 4 ((a0 - (a0 - a0 / 5 * 5)) + 2)) - 2).toNatClampNeg))]) (rest := []) (q0 := 0) (ci := 0) (C := RX1) (c_X1_isOpenTo l D aM aC cJ S (f_X1_indexOf 4 ((a0 - (a0 - a0 / 5 * 5)) + 2)) (a1 &&& (S ((f_X1_indexOf 4 ((a0 - (a0 - a0 / 5 * 5)) + 2)) - 2).toNatClampNeg)) (q_gI hk c2)) hfix (cwV 2 hts gX1_completesGroup_X1_isOpenTo rfl rfl rfl (by decide +kernel) ⟨Nat.le_of_ble_eq_true rfl, Nat.le_of_ble_eq_true rfl⟩) rfl hl.1 rfl (Nat.le_of_ble_eq_true rfl) ⟨Nat.zero_le _, Nat.zero_le _⟩ hP hK hS hA [0, 1] [0] rfl rfl rfl rfl rfl dX1_completesGroup_78 (fun H locs hP hS => ?_)
          refine lv_if_eq (tgt := 114) hx hb dX1_completesGroup_81 (by decide) (fun c5 => ?_) (fun c5 => ?_)
          · refine lv_iconst (v := 0) hx hb dX1_completesGroup_114 (by decide) ?_
            exact q_mz S hx hb hr hlocks (rfl) hP hD hS (q_pair (by rw [f_X1_completesGroup, if_neg c1, if_pos c2, if_neg c3, if_neg c4, if_pos c5])) dX1_completesGroup_115
          · refine lv_aload_n hx hb dX1_completesGroup_84 rfl (lv_at hl 3 rfl) ?_
            refine lv_iload hx hb dX1_completesGroup_85 (lv_at hl 1 rfl) ?_
            refine lv_iconst (v := 1) hx hb dX1_completesGroup_87 (by decide) ?_
            refine lv_iadd hx hb dX1_completesGroup_88 ?_
            refine lv_lload_n hx hb dX1_completesGroup_89 rfl (lv_at hl 5 rfl) ?_
            refine lv_lload hx hb dX1_completesGroup_90 (lv_at hl 0 rfl) ?_
            refine lv_lxor hx hb dX1_completesGroup_92 ?_
            refine q_callVi (As := [.int ((f_X1_indexOf 4 ((a0 - (a0 - a0 / 5 * 5)) + 2)) + 1), .long (a1 ^^^ (S ((f_X1_indexOf 4 ((a0 - (a0 - a0 / 5 * 5)) + 2)) - 2).toNatClampNeg))]) (rest := []) (q0 := 0) (ci := 0) (C := RX1) (c_X1_isOpenTo l D aM aC cJ S ((f_X1_indexOf 4 ((a0 - (a0 - a0 / 5 * 5)) + 2)) + 1) (a1 ^^^ (S ((f_X1_indexOf 4 ((a0 - (a0 - a0 / 5 * 5)) + 2)) - 2).toNatClampNeg)) (q_gp1 hk c2)) hfix (cwV 2 hts gX1_completesGroup_X1_isOpenTo rfl rfl rfl (by decide +kernel) ⟨Nat.le_of_ble_eq_true rfl, Nat.le_of_ble_eq_true rfl⟩) rfl hl.1 rfl (Nat.le_of_ble_eq_true rfl) ⟨Nat.zero_le _, Nat.zero_le _⟩ hP hK hS hA [0, 1] [0] rfl rfl rfl rfl rfl dX1_completesGroup_93 (fun H locs hP hS => ?_)
            refine lv_if_eq (tgt := 114) hx hb dX1_completesGroup_96 (by decide) (fun c6 => ?_) (fun c6 => ?_)
            · refine lv_iconst (v := 0) hx hb dX1_completesGroup_114 (by decide) ?_
              exact q_mz S hx hb hr hlocks (rfl) hP hD hS (q_pair (by rw [f_X1_completesGroup, if_neg c1, if_pos c2, if_neg c3, if_neg c4, if_neg c5, if_pos c6])) dX1_completesGroup_115
            · refine lv_aload_n hx hb dX1_completesGroup_99 rfl (lv_at hl 3 rfl) ?_
              refine lv_iload hx hb dX1_completesGroup_100 (lv_at hl 1 rfl) ?_
              refine lv_iconst (v := 2) hx hb dX1_completesGroup_102 (by decide) ?_
              refine lv_iadd hx hb dX1_completesGroup_103 ?_
              refine lv_lload_n hx hb dX1_completesGroup_104 rfl (lv_at hl 5 rfl) ?_
              refine lv_lload hx hb dX1_completesGroup_105 (lv_at hl 0 rfl) ?_
              refine lv_lor hx hb dX1_completesGroup_107 ?_
              refine q_callVi (As := [.int ((f_X1_indexOf 4 ((a0 - (a0 - a0 / 5 * 5)) + 2)) + 2), .long (a1 ||| (S ((f_X1_indexOf 4 ((a0 - (a0 - a0 / 5 * 5)) + 2)) - 2).toNatClampNeg))]) (rest := []) (q0 := 0) (ci := 0) (C := RX1) (c_X1_isOpenTo l D aM aC cJ S ((f_X1_indexOf 4 ((a0 - (a0 - a0 / 5 * 5)) + 2)) + 2) (a1 ||| (S ((f_X1_indexOf 4 ((a0 - (a0 - a0 / 5 * 5)) + 2)) - 2).toNatClampNeg)) (q_gp2 hk c2)) hfix (cwV 2 hts gX1_completesGroup_X1_isOpenTo rfl rfl rfl (by decide +kernel) ⟨Nat.le_of_ble_eq_true rfl, Nat.le_of_ble_eq_true rfl⟩) rfl hl.1 rfl (Nat.le_of_ble_eq_true rfl) ⟨Nat.zero_le _, Nat.zero_le _⟩ hP hK hS hA [0, 1] [0] rfl rfl rfl rfl rfl dX1_completesGroup_108 (fun H locs hP hS => ?_)
              refine lv_if_ne (tgt := 116) hx hb dX1_completesGroup_111 (by decide) (fun c7 => ?_) (fun c7 => ?_)
              · refine lv_aload_n hx hb dX1_completesGroup_116 rfl (lv_at hl 3 rfl) ?_
                refine va_get (D := D) (ci := 0) (v := .ref aC) (C := RX1) (T := TX1) (N := 1) hx hb hts hin0 hown hK hP 0 rfl rfl 0 (by decide) (hts (.fieldLink RX1 9 "FieldTrace$Memory" "cells" "[J") (by decide +kernel)) (fun _ h9 => h9) rfl dX1_completesGroup_117 ?_
                refine lv_iload hx hb dX1_completesGroup_120 (lv_at hl 1 rfl) ?_
                refine lv_lload_n hx hb dX1_completesGroup_122 rfl (lv_at hl 5 rfl) ?_
                refine lv_lload hx hb dX1_completesGroup_123 (lv_at hl 0 rfl) ?_
                refine lv_land hx hb dX1_completesGroup_125 ?_
                refine va_last hx hb hK hP hD hS 1 0 rfl rfl (q_gI hk c2) dX1_completesGroup_126 (fun H locs hP hD hS => ?_)
                have hP : va_P D vwCl (wM aM aC cJ (vp_updL S ((f_X1_indexOf 4 ((a0 - (a0 - a0 / 5 * 5)) + 2)) : Int32).toNatClampNeg (a1 &&& (S ((f_X1_indexOf 4 ((a0 - (a0 - a0 / 5 * 5)) + 2)) - 2).toNatClampNeg)))) H := hP
                have hD : va_D A (wM aM aC cJ (vp_updL S ((f_X1_indexOf 4 ((a0 - (a0 - a0 / 5 * 5)) + 2)) : Int32).toNatClampNeg (a1 &&& (S ((f_X1_indexOf 4 ((a0 - (a0 - a0 / 5 * 5)) + 2)) - 2).toNatClampNeg)))) := hD
                refine lv_aload_n hx hb dX1_completesGroup_127 rfl (lv_at hl 3 rfl) ?_
                refine va_get (D := D) (ci := 0) (v := .ref aC) (C := RX1) (T := TX1) (N := 1) hx hb hts hin0 hown hK hP 0 rfl rfl 0 (by decide) (hts (.fieldLink RX1 9 "FieldTrace$Memory" "cells" "[J") (by decide +kernel)) (fun _ h9 => h9) rfl dX1_completesGroup_128 ?_
                refine lv_iload hx hb dX1_completesGroup_131 (lv_at hl 1 rfl) ?_
                refine lv_iconst (v := 1) hx hb dX1_completesGroup_133 (by decide) ?_
                refine lv_iadd hx hb dX1_completesGroup_134 ?_
                refine lv_lload_n hx hb dX1_completesGroup_135 rfl (lv_at hl 5 rfl) ?_
                refine lv_lload hx hb dX1_completesGroup_136 (lv_at hl 0 rfl) ?_
                refine lv_lxor hx hb dX1_completesGroup_138 ?_
                refine va_last hx hb hK hP hD hS 1 0 rfl rfl (q_gp1 hk c2) dX1_completesGroup_139 (fun H locs hP hD hS => ?_)
                have hP : va_P D vwCl (wM aM aC cJ (vp_updL (vp_updL S ((f_X1_indexOf 4 ((a0 - (a0 - a0 / 5 * 5)) + 2)) : Int32).toNatClampNeg (a1 &&& (S ((f_X1_indexOf 4 ((a0 - (a0 - a0 / 5 * 5)) + 2)) - 2).toNatClampNeg))) ((f_X1_indexOf 4 ((a0 - (a0 - a0 / 5 * 5)) + 2)) + 1 : Int32).toNatClampNeg (a1 ^^^ (S ((f_X1_indexOf 4 ((a0 - (a0 - a0 / 5 * 5)) + 2)) - 2).toNatClampNeg)))) H := hP
                have hD : va_D A (wM aM aC cJ (vp_updL (vp_updL S ((f_X1_indexOf 4 ((a0 - (a0 - a0 / 5 * 5)) + 2)) : Int32).toNatClampNeg (a1 &&& (S ((f_X1_indexOf 4 ((a0 - (a0 - a0 / 5 * 5)) + 2)) - 2).toNatClampNeg))) ((f_X1_indexOf 4 ((a0 - (a0 - a0 / 5 * 5)) + 2)) + 1 : Int32).toNatClampNeg (a1 ^^^ (S ((f_X1_indexOf 4 ((a0 - (a0 - a0 / 5 * 5)) + 2)) - 2).toNatClampNeg)))) := hD
                refine lv_aload_n hx hb dX1_completesGroup_140 rfl (lv_at hl 3 rfl) ?_
                refine va_get (D := D) (ci := 0) (v := .ref aC) (C := RX1) (T := TX1) (N := 1) hx hb hts hin0 hown hK hP 0 rfl rfl 0 (by decide) (hts (.fieldLink RX1 9 "FieldTrace$Memory" "cells" "[J") (by decide +kernel)) (fun _ h9 => h9) rfl dX1_completesGroup_141 ?_
                refine lv_iload hx hb dX1_completesGroup_144 (lv_at hl 1 rfl) ?_
                refine lv_iconst (v := 2) hx hb dX1_completesGroup_146 (by decide) ?_
                refine lv_iadd hx hb dX1_completesGroup_147 ?_
                refine lv_lload_n hx hb dX1_completesGroup_148 rfl (lv_at hl 5 rfl) ?_
                refine lv_lload hx hb dX1_completesGroup_149 (lv_at hl 0 rfl) ?_
                refine lv_lor hx hb dX1_completesGroup_151 ?_
                refine va_last hx hb hK hP hD hS 1 0 rfl rfl (q_gp2 hk c2) dX1_completesGroup_152 (fun H locs hP hD hS => ?_)
                have hP : va_P D vwCl (wM aM aC cJ (vp_updL (vp_updL (vp_updL S ((f_X1_indexOf 4 ((a0 - (a0 - a0 / 5 * 5)) + 2)) : Int32).toNatClampNeg (a1 &&& (S ((f_X1_indexOf 4 ((a0 - (a0 - a0 / 5 * 5)) + 2)) - 2).toNatClampNeg))) ((f_X1_indexOf 4 ((a0 - (a0 - a0 / 5 * 5)) + 2)) + 1 : Int32).toNatClampNeg (a1 ^^^ (S ((f_X1_indexOf 4 ((a0 - (a0 - a0 / 5 * 5)) + 2)) - 2).toNatClampNeg))) ((f_X1_indexOf 4 ((a0 - (a0 - a0 / 5 * 5)) + 2)) + 2 : Int32).toNatClampNeg (a1 ||| (S ((f_X1_indexOf 4 ((a0 - (a0 - a0 / 5 * 5)) + 2)) - 2).toNatClampNeg)))) H := hP
                have hD : va_D A (wM aM aC cJ (vp_updL (vp_updL (vp_updL S ((f_X1_indexOf 4 ((a0 - (a0 - a0 / 5 * 5)) + 2)) : Int32).toNatClampNeg (a1 &&& (S ((f_X1_indexOf 4 ((a0 - (a0 - a0 / 5 * 5)) + 2)) - 2).toNatClampNeg))) ((f_X1_indexOf 4 ((a0 - (a0 - a0 / 5 * 5)) + 2)) + 1 : Int32).toNatClampNeg (a1 ^^^ (S ((f_X1_indexOf 4 ((a0 - (a0 - a0 / 5 * 5)) + 2)) - 2).toNatClampNeg))) ((f_X1_indexOf 4 ((a0 - (a0 - a0 / 5 * 5)) + 2)) + 2 : Int32).toNatClampNeg (a1 ||| (S ((f_X1_indexOf 4 ((a0 - (a0 - a0 / 5 * 5)) + 2)) - 2).toNatClampNeg)))) := hD
                refine lv_iconst (v := 1) hx hb dX1_completesGroup_153 (by decide) ?_
                exact q_mz (vp_updL (vp_updL (vp_updL S ((f_X1_indexOf 4 ((a0 - (a0 - a0 / 5 * 5)) + 2)) : Int32).toNatClampNeg (a1 &&& (S ((f_X1_indexOf 4 ((a0 - (a0 - a0 / 5 * 5)) + 2)) - 2).toNatClampNeg))) ((f_X1_indexOf 4 ((a0 - (a0 - a0 / 5 * 5)) + 2)) + 1 : Int32).toNatClampNeg (a1 ^^^ (S ((f_X1_indexOf 4 ((a0 - (a0 - a0 / 5 * 5)) + 2)) - 2).toNatClampNeg))) ((f_X1_indexOf 4 ((a0 - (a0 - a0 / 5 * 5)) + 2)) + 2 : Int32).toNatClampNeg (a1 ||| (S ((f_X1_indexOf 4 ((a0 - (a0 - a0 / 5 * 5)) + 2)) - 2).toNatClampNeg))) hx hb hr hlocks (rfl) hP hD hS (q_pair (by rw [f_X1_completesGroup, if_neg c1, if_pos c2, if_neg c3, if_neg c4, if_neg c5, if_neg c6, if_neg c7])) dX1_completesGroup_154
              · refine lv_iconst (v := 0) hx hb dX1_completesGroup_114 (by decide) ?_
                exact q_mz S hx hb hr hlocks (rfl) hP hD hS (q_pair (by rw [f_X1_completesGroup, if_neg c1, if_pos c2, if_neg c3, if_neg c4, if_neg c5, if_neg c6, if_pos c7])) dX1_completesGroup_115
        · refine lv_iconst (v := 1) hx hb dX1_completesGroup_69 (by decide) ?_
          exact q_mz S hx hb hr hlocks (rfl) hP hD hS (q_pair (by rw [f_X1_completesGroup, if_neg c1, if_pos c2, if_neg c3, if_pos c4])) dX1_completesGroup_70
      · refine lv_iload hx hb dX1_completesGroup_46 (lv_at hl 0 rfl) ?_
        refine lv_iconst (v := 1) hx hb dX1_completesGroup_48 (by decide) ?_
        refine lv_isub hx hb dX1_completesGroup_49 ?_
        refine lv_goto (tgt := 57) hx hb dX1_completesGroup_50 (by decide) ?_
        refine va_lald hx hb hK hP 1 0 rfl rfl (q_gm1 hk c2) dX1_completesGroup_57 ?_
        refine lv_lstore (lv' := [(6, .long (S ((f_X1_indexOf 4 ((a0 - (a0 - a0 / 5 * 5)) + 2)) - 1).toNatClampNeg)), (5, .int (f_X1_indexOf 4 ((a0 - (a0 - a0 / 5 * 5)) + 2))), (4, .int (a0 - (a0 - a0 / 5 * 5))), (0, .ref aM), (1, .int a0), (2, .long a1)]) hx hb dX1_completesGroup_58 hl (by decide) rfl (fun ls hl => ?_)
        refine lv_lload hx hb dX1_completesGroup_60 (lv_at hl 0 rfl) ?_
        refine lv_ldc2 (v := -1) hx hb hown (hts (.constantLong RX1 15 (-1)) (by decide +kernel)) dX1_completesGroup_62 ?_
        refine q_ne (tgt := 71) hx hb dX1_completesGroup_65 dX1_completesGroup_66 (by decide) (fun c8 => ?_) (fun c8 => ?_)
        · refine lv_aload_n hx hb dX1_completesGroup_71 rfl (lv_at hl 3 rfl) ?_
          refine lv_iload hx hb dX1_completesGroup_72 (lv_at hl 1 rfl) ?_
          refine lv_lload_n hx hb dX1_completesGroup_74 rfl (lv_at hl 5 rfl) ?_
          refine lv_lload hx hb dX1_completesGroup_75 (lv_at hl 0 rfl) ?_
          refine lv_land hx hb dX1_completesGroup_77 ?_
          refine q_callVi (As := [.int (f_X1_indexOf 4 ((a0 - (a0 - a0 / 5 * 5)) + 2)), .long (a1 &&& (S ((f_X1_indexOf 4 ((a0 - (a0 - a0 / 5 * 5)) + 2)) - 1).toNatClampNeg))]) (rest := []) (q0 := 0) (ci := 0) (C := RX1) (c_X1_isOpenTo l D aM aC cJ S (f_X1_indexOf 4 ((a0 - (a0 - a0 / 5 * 5)) + 2)) (a1 &&& (S ((f_X1_indexOf 4 ((a0 - (a0 - a0 / 5 * 5)) + 2)) - 1).toNatClampNeg)) (q_gI hk c2)) hfix (cwV 2 hts gX1_completesGroup_X1_isOpenTo rfl rfl rfl (by decide +kernel) ⟨Nat.le_of_ble_eq_true rfl, Nat.le_of_ble_eq_true rfl⟩) rfl hl.1 rfl (Nat.le_of_ble_eq_true rfl) ⟨Nat.zero_le _, Nat.zero_le _⟩ hP hK hS hA [0, 1] [0] rfl rfl rfl rfl rfl dX1_completesGroup_78 (fun H locs hP hS => ?_)
          refine lv_if_eq (tgt := 114) hx hb dX1_completesGroup_81 (by decide) (fun c9 => ?_) (fun c9 => ?_)
          · refine lv_iconst (v := 0) hx hb dX1_completesGroup_114 (by decide) ?_
            exact q_mz S hx hb hr hlocks (rfl) hP hD hS (q_pair (by rw [f_X1_completesGroup, if_neg c1, if_pos c2, if_pos c3, if_neg c8, if_pos c9])) dX1_completesGroup_115
          · refine lv_aload_n hx hb dX1_completesGroup_84 rfl (lv_at hl 3 rfl) ?_
            refine lv_iload hx hb dX1_completesGroup_85 (lv_at hl 1 rfl) ?_
            refine lv_iconst (v := 1) hx hb dX1_completesGroup_87 (by decide) ?_
            refine lv_iadd hx hb dX1_completesGroup_88 ?_
            refine lv_lload_n hx hb dX1_completesGroup_89 rfl (lv_at hl 5 rfl) ?_
            refine lv_lload hx hb dX1_completesGroup_90 (lv_at hl 0 rfl) ?_
            refine lv_lxor hx hb dX1_completesGroup_92 ?_
            refine q_callVi (As := [.int ((f_X1_indexOf 4 ((a0 - (a0 - a0 / 5 * 5)) + 2)) + 1), .long (a1 ^^^ (S ((f_X1_indexOf 4 ((a0 - (a0 - a0 / 5 * 5)) + 2)) - 1).toNatClampNeg))]) (rest := []) (q0 := 0) (ci := 0) (C := RX1) (c_X1_isOpenTo l D aM aC cJ S ((f_X1_indexOf 4 ((a0 - (a0 - a0 / 5 * 5)) + 2)) + 1) (a1 ^^^ (S ((f_X1_indexOf 4 ((a0 - (a0 - a0 / 5 * 5)) + 2)) - 1).toNatClampNeg)) (q_gp1 hk c2)) hfix (cwV 2 hts gX1_completesGroup_X1_isOpenTo rfl rfl rfl (by decide +kernel) ⟨Nat.le_of_ble_eq_true rfl, Nat.le_of_ble_eq_true rfl⟩) rfl hl.1 rfl (Nat.le_of_ble_eq_true rfl) ⟨Nat.zero_le _, Nat.zero_le _⟩ hP hK hS hA [0, 1] [0] rfl rfl rfl rfl rfl dX1_completesGroup_93 (fun H locs hP hS => ?_)
            refine lv_if_eq (tgt := 114) hx hb dX1_completesGroup_96 (by decide) (fun c10 => ?_) (fun c10 => ?_)
            · refine lv_iconst (v := 0) hx hb dX1_completesGroup_114 (by decide) ?_
              exact q_mz S hx hb hr hlocks (rfl) hP hD hS (q_pair (by rw [f_X1_completesGroup, if_neg c1, if_pos c2, if_pos c3, if_neg c8, if_neg c9, if_pos c10])) dX1_completesGroup_115
            · refine lv_aload_n hx hb dX1_completesGroup_99 rfl (lv_at hl 3 rfl) ?_
              refine lv_iload hx hb dX1_completesGroup_100 (lv_at hl 1 rfl) ?_
              refine lv_iconst (v := 2) hx hb dX1_completesGroup_102 (by decide) ?_
              refine lv_iadd hx hb dX1_completesGroup_103 ?_
              refine lv_lload_n hx hb dX1_completesGroup_104 rfl (lv_at hl 5 rfl) ?_
              refine lv_lload hx hb dX1_completesGroup_105 (lv_at hl 0 rfl) ?_
              refine lv_lor hx hb dX1_completesGroup_107 ?_
              refine q_callVi (As := [.int ((f_X1_indexOf 4 ((a0 - (a0 - a0 / 5 * 5)) + 2)) + 2), .long (a1 ||| (S ((f_X1_indexOf 4 ((a0 - (a0 - a0 / 5 * 5)) + 2)) - 1).toNatClampNeg))]) (rest := []) (q0 := 0) (ci := 0) (C := RX1) (c_X1_isOpenTo l D aM aC cJ S ((f_X1_indexOf 4 ((a0 - (a0 - a0 / 5 * 5)) + 2)) + 2) (a1 ||| (S ((f_X1_indexOf 4 ((a0 - (a0 - a0 / 5 * 5)) + 2)) - 1).toNatClampNeg)) (q_gp2 hk c2)) hfix (cwV 2 hts gX1_completesGroup_X1_isOpenTo rfl rfl rfl (by decide +kernel) ⟨Nat.le_of_ble_eq_true rfl, Nat.le_of_ble_eq_true rfl⟩) rfl hl.1 rfl (Nat.le_of_ble_eq_true rfl) ⟨Nat.zero_le _, Nat.zero_le _⟩ hP hK hS hA [0, 1] [0] rfl rfl rfl rfl rfl dX1_completesGroup_108 (fun H locs hP hS => ?_)
              refine lv_if_ne (tgt := 116) hx hb dX1_completesGroup_111 (by decide) (fun c11 => ?_) (fun c11 => ?_)
              · refine lv_aload_n hx hb dX1_completesGroup_116 rfl (lv_at hl 3 rfl) ?_
                refine va_get (D := D) (ci := 0) (v := .ref aC) (C := RX1) (T := TX1) (N := 1) hx hb hts hin0 hown hK hP 0 rfl rfl 0 (by decide) (hts (.fieldLink RX1 9 "FieldTrace$Memory" "cells" "[J") (by decide +kernel)) (fun _ h9 => h9) rfl dX1_completesGroup_117 ?_
                refine lv_iload hx hb dX1_completesGroup_120 (lv_at hl 1 rfl) ?_
                refine lv_lload_n hx hb dX1_completesGroup_122 rfl (lv_at hl 5 rfl) ?_
                refine lv_lload hx hb dX1_completesGroup_123 (lv_at hl 0 rfl) ?_
                refine lv_land hx hb dX1_completesGroup_125 ?_
                refine va_last hx hb hK hP hD hS 1 0 rfl rfl (q_gI hk c2) dX1_completesGroup_126 (fun H locs hP hD hS => ?_)
                have hP : va_P D vwCl (wM aM aC cJ (vp_updL S ((f_X1_indexOf 4 ((a0 - (a0 - a0 / 5 * 5)) + 2)) : Int32).toNatClampNeg (a1 &&& (S ((f_X1_indexOf 4 ((a0 - (a0 - a0 / 5 * 5)) + 2)) - 1).toNatClampNeg)))) H := hP
                have hD : va_D A (wM aM aC cJ (vp_updL S ((f_X1_indexOf 4 ((a0 - (a0 - a0 / 5 * 5)) + 2)) : Int32).toNatClampNeg (a1 &&& (S ((f_X1_indexOf 4 ((a0 - (a0 - a0 / 5 * 5)) + 2)) - 1).toNatClampNeg)))) := hD
                refine lv_aload_n hx hb dX1_completesGroup_127 rfl (lv_at hl 3 rfl) ?_
                refine va_get (D := D) (ci := 0) (v := .ref aC) (C := RX1) (T := TX1) (N := 1) hx hb hts hin0 hown hK hP 0 rfl rfl 0 (by decide) (hts (.fieldLink RX1 9 "FieldTrace$Memory" "cells" "[J") (by decide +kernel)) (fun _ h9 => h9) rfl dX1_completesGroup_128 ?_
                refine lv_iload hx hb dX1_completesGroup_131 (lv_at hl 1 rfl) ?_
                refine lv_iconst (v := 1) hx hb dX1_completesGroup_133 (by decide) ?_
                refine lv_iadd hx hb dX1_completesGroup_134 ?_
                refine lv_lload_n hx hb dX1_completesGroup_135 rfl (lv_at hl 5 rfl) ?_
                refine lv_lload hx hb dX1_completesGroup_136 (lv_at hl 0 rfl) ?_
                refine lv_lxor hx hb dX1_completesGroup_138 ?_
                refine va_last hx hb hK hP hD hS 1 0 rfl rfl (q_gp1 hk c2) dX1_completesGroup_139 (fun H locs hP hD hS => ?_)
                have hP : va_P D vwCl (wM aM aC cJ (vp_updL (vp_updL S ((f_X1_indexOf 4 ((a0 - (a0 - a0 / 5 * 5)) + 2)) : Int32).toNatClampNeg (a1 &&& (S ((f_X1_indexOf 4 ((a0 - (a0 - a0 / 5 * 5)) + 2)) - 1).toNatClampNeg))) ((f_X1_indexOf 4 ((a0 - (a0 - a0 / 5 * 5)) + 2)) + 1 : Int32).toNatClampNeg (a1 ^^^ (S ((f_X1_indexOf 4 ((a0 - (a0 - a0 / 5 * 5)) + 2)) - 1).toNatClampNeg)))) H := hP
                have hD : va_D A (wM aM aC cJ (vp_updL (vp_updL S ((f_X1_indexOf 4 ((a0 - (a0 - a0 / 5 * 5)) + 2)) : Int32).toNatClampNeg (a1 &&& (S ((f_X1_indexOf 4 ((a0 - (a0 - a0 / 5 * 5)) + 2)) - 1).toNatClampNeg))) ((f_X1_indexOf 4 ((a0 - (a0 - a0 / 5 * 5)) + 2)) + 1 : Int32).toNatClampNeg (a1 ^^^ (S ((f_X1_indexOf 4 ((a0 - (a0 - a0 / 5 * 5)) + 2)) - 1).toNatClampNeg)))) := hD
                refine lv_aload_n hx hb dX1_completesGroup_140 rfl (lv_at hl 3 rfl) ?_
                refine va_get (D := D) (ci := 0) (v := .ref aC) (C := RX1) (T := TX1) (N := 1) hx hb hts hin0 hown hK hP 0 rfl rfl 0 (by decide) (hts (.fieldLink RX1 9 "FieldTrace$Memory" "cells" "[J") (by decide +kernel)) (fun _ h9 => h9) rfl dX1_completesGroup_141 ?_
                refine lv_iload hx hb dX1_completesGroup_144 (lv_at hl 1 rfl) ?_
                refine lv_iconst (v := 2) hx hb dX1_completesGroup_146 (by decide) ?_
                refine lv_iadd hx hb dX1_completesGroup_147 ?_
                refine lv_lload_n hx hb dX1_completesGroup_148 rfl (lv_at hl 5 rfl) ?_
                refine lv_lload hx hb dX1_completesGroup_149 (lv_at hl 0 rfl) ?_
                refine lv_lor hx hb dX1_completesGroup_151 ?_
                refine va_last hx hb hK hP hD hS 1 0 rfl rfl (q_gp2 hk c2) dX1_completesGroup_152 (fun H locs hP hD hS => ?_)
                have hP : va_P D vwCl (wM aM aC cJ (vp_updL (vp_updL (vp_updL S ((f_X1_indexOf 4 ((a0 - (a0 - a0 / 5 * 5)) + 2)) : Int32).toNatClampNeg (a1 &&& (S ((f_X1_indexOf 4 ((a0 - (a0 - a0 / 5 * 5)) + 2)) - 1).toNatClampNeg))) ((f_X1_indexOf 4 ((a0 - (a0 - a0 / 5 * 5)) + 2)) + 1 : Int32).toNatClampNeg (a1 ^^^ (S ((f_X1_indexOf 4 ((a0 - (a0 - a0 / 5 * 5)) + 2)) - 1).toNatClampNeg))) ((f_X1_indexOf 4 ((a0 - (a0 - a0 / 5 * 5)) + 2)) + 2 : Int32).toNatClampNeg (a1 ||| (S ((f_X1_indexOf 4 ((a0 - (a0 - a0 / 5 * 5)) + 2)) - 1).toNatClampNeg)))) H := hP
                have hD : va_D A (wM aM aC cJ (vp_updL (vp_updL (vp_updL S ((f_X1_indexOf 4 ((a0 - (a0 - a0 / 5 * 5)) + 2)) : Int32).toNatClampNeg (a1 &&& (S ((f_X1_indexOf 4 ((a0 - (a0 - a0 / 5 * 5)) + 2)) - 1).toNatClampNeg))) ((f_X1_indexOf 4 ((a0 - (a0 - a0 / 5 * 5)) + 2)) + 1 : Int32).toNatClampNeg (a1 ^^^ (S ((f_X1_indexOf 4 ((a0 - (a0 - a0 / 5 * 5)) + 2)) - 1).toNatClampNeg))) ((f_X1_indexOf 4 ((a0 - (a0 - a0 / 5 * 5)) + 2)) + 2 : Int32).toNatClampNeg (a1 ||| (S ((f_X1_indexOf 4 ((a0 - (a0 - a0 / 5 * 5)) + 2)) - 1).toNatClampNeg)))) := hD
                refine lv_iconst (v := 1) hx hb dX1_completesGroup_153 (by decide) ?_
                exact q_mz (vp_updL (vp_updL (vp_updL S ((f_X1_indexOf 4 ((a0 - (a0 - a0 / 5 * 5)) + 2)) : Int32).toNatClampNeg (a1 &&& (S ((f_X1_indexOf 4 ((a0 - (a0 - a0 / 5 * 5)) + 2)) - 1).toNatClampNeg))) ((f_X1_indexOf 4 ((a0 - (a0 - a0 / 5 * 5)) + 2)) + 1 : Int32).toNatClampNeg (a1 ^^^ (S ((f_X1_indexOf 4 ((a0 - (a0 - a0 / 5 * 5)) + 2)) - 1).toNatClampNeg))) ((f_X1_indexOf 4 ((a0 - (a0 - a0 / 5 * 5)) + 2)) + 2 : Int32).toNatClampNeg (a1 ||| (S ((f_X1_indexOf 4 ((a0 - (a0 - a0 / 5 * 5)) + 2)) - 1).toNatClampNeg))) hx hb hr hlocks (rfl) hP hD hS (q_pair (by rw [f_X1_completesGroup, if_neg c1, if_pos c2, if_pos c3, if_neg c8, if_neg c9, if_neg c10, if_neg c11])) dX1_completesGroup_154
              · refine lv_iconst (v := 0) hx hb dX1_completesGroup_114 (by decide) ?_
                exact q_mz S hx hb hr hlocks (rfl) hP hD hS (q_pair (by rw [f_X1_completesGroup, if_neg c1, if_pos c2, if_pos c3, if_neg c8, if_neg c9, if_neg c10, if_pos c11])) dX1_completesGroup_115
        · refine lv_iconst (v := 1) hx hb dX1_completesGroup_69 (by decide) ?_
          exact q_mz S hx hb hr hlocks (rfl) hP hD hS (q_pair (by rw [f_X1_completesGroup, if_neg c1, if_pos c2, if_pos c3, if_pos c8])) dX1_completesGroup_70
    · refine lv_iconst (v := 1) hx hb dX1_completesGroup_24 (by decide) ?_
      exact q_mz S hx hb hr hlocks (rfl) hP hD hS (q_pair (by rw [f_X1_completesGroup, if_neg c1, if_neg c2])) dX1_completesGroup_25

def f_X1_write (S : (Nat → Int64)) (a0 : Int32) (a1 : Int32) (a2 : Int64) : Int32 × (Nat → Int64) :=
  (if (f_X1_isSegment a0) = 0 then (0, S) else (if (f_X1_isCell a1) = 0 then (0, S) else (if a2 = (-1) then (0, S) else (if (S (f_X1_indexOf a0 a1).toNatClampNeg) = (-1) then (if (f_X1_takes S a0 a1 a2) = 0 then (0, S) else (if a0 = 4 then (if ((f_X1_completesGroup S a1 a2).1) = 0 then (0, (f_X1_completesGroup S a1 a2).2) else (1, (vp_updL (f_X1_completesGroup S a1 a2).2 ((f_X1_indexOf a0 a1) : Int32).toNatClampNeg a2))) else (1, (vp_updL S ((f_X1_indexOf a0 a1) : Int32).toNatClampNeg a2)))) else (if (S (f_X1_indexOf a0 a1).toNatClampNeg) = a2 then (1, S) else (0, S))))))

set_option maxHeartbeats 4000000 in
set_option maxRecDepth 100000 in
theorem c_X1_write (l : Launch) (D : va_G) (aM aC : Nat) (cJ : ClassId) (S : (Nat → Int64)) (a0 : Int32) (a1 : Int32) (a2 : Int64) : q_muI l yX1_write wsX1_write ({ frames := 3, cells := 0, slots := 0, locals := 67 }) D [(cJ, .long)] (wM aM aC cJ S) [.ref aM, .int a0, .int a1, .long a2] (fun r u => r = (f_X1_write S a0 a1 a2).1 ∧ u = (f_X1_write S a0 a1 a2).2) (fun u => (wM aM aC cJ u)) := by
  refine q_muI_of (cc := cX1_write) (maxL := 6) (ret := (some .boolean)) (plainFor_of_name (by decide)) rfl (Nat.le_of_ble_eq_true rfl) ?_
  intro p e s m below meth c ls A hx hb hr hml hown hts hlocks hP hK hD hA hS hl
  have hown : s.vm.findClass RX1 = some m.cls := hown
  have hl : lv_has ls 6 [(0, .ref aM), (1, .int a0), (2, .int a1), (3, .long a2)] := hl
  have hfix : CallFix p m c cX1_write 6 s [.ref aM, .int a0, .int a1, .long a2].toArray wsX1_write RX1 := ⟨hx, hb, hml, hown, hts⟩
  have hin0 : ∀ w ∈ wsX10, w ∈ wsX1_write := by decide +kernel
  refine lv_iload_n hx hb dX1_write_0 rfl (lv_at hl 1 rfl) ?_
  refine q_callSi (As := [.int a0]) (rest := []) (c_X1_isSegment l D a0) hfix (va_cwS 1 hts gX1_write_X1_isSegment rfl rfl rfl (by decide +kernel) ⟨Nat.le_of_ble_eq_true rfl, Nat.le_of_ble_eq_true rfl⟩) rfl hl.1 rfl (Nat.le_of_ble_eq_true rfl) ⟨Nat.zero_le _, Nat.zero_le _⟩ hP hK hS hA [] [] rfl rfl dX1_write_1 (fun H locs hP hS => ?_)
  refine lv_if_eq (tgt := 22) hx hb dX1_write_4 (by decide) (fun c1 => ?_) (fun c1 => ?_)
  · refine lv_iconst (v := 0) hx hb dX1_write_22 (by decide) ?_
    exact q_mz S hx hb hr hlocks (rfl) hP hD hS (q_pair (by rw [f_X1_write, if_pos c1])) dX1_write_23
  · refine lv_iload_n hx hb dX1_write_7 rfl (lv_at hl 2 rfl) ?_
    refine q_callSi (As := [.int a1]) (rest := []) (c_X1_isCell l D a1) hfix (va_cwS 1 hts gX1_write_X1_isCell rfl rfl rfl (by decide +kernel) ⟨Nat.le_of_ble_eq_true rfl, Nat.le_of_ble_eq_true rfl⟩) rfl hl.1 rfl (Nat.le_of_ble_eq_true rfl) ⟨Nat.zero_le _, Nat.zero_le _⟩ hP hK hS hA [] [] rfl rfl dX1_write_8 (fun H locs hP hS => ?_)
    refine lv_if_eq (tgt := 22) hx hb dX1_write_11 (by decide) (fun c2 => ?_) (fun c2 => ?_)
    · refine lv_iconst (v := 0) hx hb dX1_write_22 (by decide) ?_
      exact q_mz S hx hb hr hlocks (rfl) hP hD hS (q_pair (by rw [f_X1_write, if_neg c1, if_pos c2])) dX1_write_23
    · refine lv_lload_n hx hb dX1_write_14 rfl (lv_at hl 3 rfl) ?_
      refine lv_ldc2 (v := -1) hx hb hown (hts (.constantLong RX1 15 (-1)) (by decide +kernel)) dX1_write_15 ?_
      refine q_ne (tgt := 24) hx hb dX1_write_18 dX1_write_19 (by decide) (fun c3 => ?_) (fun c3 => ?_)
      · refine lv_iload_n hx hb dX1_write_24 rfl (lv_at hl 1 rfl) ?_
        refine lv_iload_n hx hb dX1_write_25 rfl (lv_at hl 2 rfl) ?_
        refine q_callSi (As := [.int a0, .int a1]) (rest := []) (c_X1_indexOf l D a0 a1) hfix (va_cwS 2 hts gX1_write_X1_indexOf rfl rfl rfl (by decide +kernel) ⟨Nat.le_of_ble_eq_true rfl, Nat.le_of_ble_eq_true rfl⟩) rfl hl.1 rfl (Nat.le_of_ble_eq_true rfl) ⟨Nat.zero_le _, Nat.zero_le _⟩ hP hK hS hA [] [] rfl rfl dX1_write_26 (fun H locs hP hS => ?_)
        refine lv_istore (lv' := [(5, .int (f_X1_indexOf a0 a1)), (0, .ref aM), (1, .int a0), (2, .int a1), (3, .long a2)]) hx hb dX1_write_29 hl (by decide) rfl (fun ls hl => ?_)
        refine lv_aload_n hx hb dX1_write_31 rfl (lv_at hl 1 rfl) ?_
        refine va_get (D := D) (ci := 0) (v := .ref aC) (C := RX1) (T := TX1) (N := 1) hx hb hts hin0 hown hK hP 0 rfl rfl 0 (by decide) (hts (.fieldLink RX1 9 "FieldTrace$Memory" "cells" "[J") (by decide +kernel)) (fun _ h9 => h9) rfl dX1_write_32 ?_
        refine lv_iload hx hb dX1_write_35 (lv_at hl 0 rfl) ?_
        refine va_lald hx hb hK hP 1 0 rfl rfl (q_ixin c1 c2) dX1_write_37 ?_
        refine lv_ldc2 (v := -1) hx hb hown (hts (.constantLong RX1 15 (-1)) (by decide +kernel)) dX1_write_38 ?_
        refine q_eq (tgt := 63) hx hb dX1_write_41 dX1_write_42 (by decide) (fun c4 => ?_) (fun c4 => ?_)
        · refine lv_aload_n hx hb dX1_write_63 rfl (lv_at hl 1 rfl) ?_
          refine lv_iload_n hx hb dX1_write_64 rfl (lv_at hl 2 rfl) ?_
          refine lv_iload_n hx hb dX1_write_65 rfl (lv_at hl 3 rfl) ?_
          refine lv_lload_n hx hb dX1_write_66 rfl (lv_at hl 4 rfl) ?_
          refine q_callVi (As := [.int a0, .int a1, .long a2]) (rest := []) (q0 := 0) (ci := 0) (C := RX1) (c_X1_takes l D aM aC cJ S a0 a1 a2) hfix (cwV 3 hts gX1_write_X1_takes rfl rfl rfl (by decide +kernel) ⟨Nat.le_of_ble_eq_true rfl, Nat.le_of_ble_eq_true rfl⟩) rfl hl.1 rfl (Nat.le_of_ble_eq_true rfl) ⟨Nat.zero_le _, Nat.zero_le _⟩ hP hK hS hA [0, 1] [0] rfl rfl rfl rfl rfl dX1_write_67 (fun H locs hP hS => ?_)
          refine lv_if_eq (tgt := 87) hx hb dX1_write_70 (by decide) (fun c5 => ?_) (fun c5 => ?_)
          · refine lv_iconst (v := 0) hx hb dX1_write_87 (by decide) ?_
            exact q_mz S hx hb hr hlocks (rfl) hP hD hS (q_pair (by rw [f_X1_write, if_neg c1, if_neg c2, if_neg c3, if_pos c4, if_pos c5])) dX1_write_88
          · refine lv_iload_n hx hb dX1_write_73 rfl (lv_at hl 2 rfl) ?_
            refine lv_iconst (v := 4) hx hb dX1_write_74 (by decide) ?_
            refine lv_icmp_ne (tgt := 89) hx hb dX1_write_75 (by decide) (fun c6 => ?_) (fun c6 => ?_)
            · refine lv_aload_n hx hb dX1_write_89 rfl (lv_at hl 1 rfl) ?_
              refine va_get (D := D) (ci := 0) (v := .ref aC) (C := RX1) (T := TX1) (N := 1) hx hb hts hin0 hown hK hP 0 rfl rfl 0 (by decide) (hts (.fieldLink RX1 9 "FieldTrace$Memory" "cells" "[J") (by decide +kernel)) (fun _ h9 => h9) rfl dX1_write_90 ?_
              refine lv_iload hx hb dX1_write_93 (lv_at hl 0 rfl) ?_
              refine lv_lload_n hx hb dX1_write_95 rfl (lv_at hl 4 rfl) ?_
              refine va_last hx hb hK hP hD hS 1 0 rfl rfl (q_ixin c1 c2) dX1_write_96 (fun H locs hP hD hS => ?_)
              have hP : va_P D vwCl (wM aM aC cJ (vp_updL S ((f_X1_indexOf a0 a1) : Int32).toNatClampNeg a2)) H := hP
              have hD : va_D A (wM aM aC cJ (vp_updL S ((f_X1_indexOf a0 a1) : Int32).toNatClampNeg a2)) := hD
              refine lv_iconst (v := 1) hx hb dX1_write_97 (by decide) ?_
              exact q_mz (vp_updL S ((f_X1_indexOf a0 a1) : Int32).toNatClampNeg a2) hx hb hr hlocks (rfl) hP hD hS (q_pair (by rw [f_X1_write, if_neg c1, if_neg c2, if_neg c3, if_pos c4, if_neg c5, if_neg c6])) dX1_write_98
            · refine lv_aload_n hx hb dX1_write_78 rfl (lv_at hl 1 rfl) ?_
              refine lv_iload_n hx hb dX1_write_79 rfl (lv_at hl 3 rfl) ?_
              refine lv_lload_n hx hb dX1_write_80 rfl (lv_at hl 4 rfl) ?_
              refine q_callMi (As := [.int a1, .long a2]) (rest := []) (wr := []) (Wn := (fun u => (wM aM aC cJ u))) (q0 := 0) (ci := 0) (C := RX1) (c_X1_completesGroup l D aM aC cJ S a1 a2 (q_celin c2)) hfix (cwV 2 hts gX1_write_X1_completesGroup rfl rfl rfl (by decide +kernel) ⟨Nat.le_of_ble_eq_true rfl, Nat.le_of_ble_eq_true rfl⟩) rfl hl.1 rfl (Nat.le_of_ble_eq_true rfl) ⟨Nat.zero_le _, Nat.zero_le _⟩ hP hK hD hS hA [0, 1] [] [0, 1] [0] rfl rfl rfl (by decide) (by decide) (by decide) (by decide) (fun _ => rfl) (fun _ => rfl) rfl rfl rfl rfl dX1_write_81 (fun r u H locs hw hP hD hS => ?_)
              obtain ⟨rfl, rfl⟩ := hw
              have hP : va_P D vwCl (wM aM aC cJ (f_X1_completesGroup S a1 a2).2) H := hP
              have hD : va_D A (wM aM aC cJ (f_X1_completesGroup S a1 a2).2) := hD
              refine lv_if_ne (tgt := 89) hx hb dX1_write_84 (by decide) (fun c7 => ?_) (fun c7 => ?_)
              · refine lv_aload_n hx hb dX1_write_89 rfl (lv_at hl 1 rfl) ?_
                refine va_get (D := D) (ci := 0) (v := .ref aC) (C := RX1) (T := TX1) (N := 1) hx hb hts hin0 hown hK hP 0 rfl rfl 0 (by decide) (hts (.fieldLink RX1 9 "FieldTrace$Memory" "cells" "[J") (by decide +kernel)) (fun _ h9 => h9) rfl dX1_write_90 ?_
                refine lv_iload hx hb dX1_write_93 (lv_at hl 0 rfl) ?_
                refine lv_lload_n hx hb dX1_write_95 rfl (lv_at hl 4 rfl) ?_
                refine va_last hx hb hK hP hD hS 1 0 rfl rfl (q_ixin c1 c2) dX1_write_96 (fun H locs hP hD hS => ?_)
                have hP : va_P D vwCl (wM aM aC cJ (vp_updL (f_X1_completesGroup S a1 a2).2 ((f_X1_indexOf a0 a1) : Int32).toNatClampNeg a2)) H := hP
                have hD : va_D A (wM aM aC cJ (vp_updL (f_X1_completesGroup S a1 a2).2 ((f_X1_indexOf a0 a1) : Int32).toNatClampNeg a2)) := hD
                refine lv_iconst (v := 1) hx hb dX1_write_97 (by decide) ?_
                exact q_mz (vp_updL (f_X1_completesGroup S a1 a2).2 ((f_X1_indexOf a0 a1) : Int32).toNatClampNeg a2) hx hb hr hlocks (rfl) hP hD hS (q_pair (by rw [f_X1_write, if_neg c1, if_neg c2, if_neg c3, if_pos c4, if_neg c5, if_pos c6, if_neg c7])) dX1_write_98
              · refine lv_iconst (v := 0) hx hb dX1_write_87 (by decide) ?_
                exact q_mz ((f_X1_completesGroup S a1 a2).2) hx hb hr hlocks (rfl) hP hD hS (q_pair (by rw [f_X1_write, if_neg c1, if_neg c2, if_neg c3, if_pos c4, if_neg c5, if_pos c6, if_pos c7])) dX1_write_88
        · refine lv_aload_n hx hb dX1_write_45 rfl (lv_at hl 1 rfl) ?_
          refine va_get (D := D) (ci := 0) (v := .ref aC) (C := RX1) (T := TX1) (N := 1) hx hb hts hin0 hown hK hP 0 rfl rfl 0 (by decide) (hts (.fieldLink RX1 9 "FieldTrace$Memory" "cells" "[J") (by decide +kernel)) (fun _ h9 => h9) rfl dX1_write_46 ?_
          refine lv_iload hx hb dX1_write_49 (lv_at hl 0 rfl) ?_
          refine va_lald hx hb hK hP 1 0 rfl rfl (q_ixin c1 c2) dX1_write_51 ?_
          refine lv_lload_n hx hb dX1_write_52 rfl (lv_at hl 4 rfl) ?_
          refine q_ne (tgt := 61) hx hb dX1_write_53 dX1_write_54 (by decide) (fun c8 => ?_) (fun c8 => ?_)
          · refine lv_iconst (v := 0) hx hb dX1_write_61 (by decide) ?_
            exact q_mz S hx hb hr hlocks (rfl) hP hD hS (q_pair (by rw [f_X1_write, if_neg c1, if_neg c2, if_neg c3, if_neg c4, if_neg c8])) dX1_write_62
          · refine lv_iconst (v := 1) hx hb dX1_write_57 (by decide) ?_
            refine lv_goto (tgt := 62) hx hb dX1_write_58 (by decide) ?_
            exact q_mz S hx hb hr hlocks (rfl) hP hD hS (q_pair (by rw [f_X1_write, if_neg c1, if_neg c2, if_neg c3, if_neg c4, if_pos c8])) dX1_write_62
      · refine lv_iconst (v := 0) hx hb dX1_write_22 (by decide) ?_
        exact q_mz S hx hb hr hlocks (rfl) hP hD hS (q_pair (by rw [f_X1_write, if_neg c1, if_neg c2, if_pos c3])) dX1_write_23

