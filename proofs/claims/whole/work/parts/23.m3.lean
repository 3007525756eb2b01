
theorem ok_w_L {R : Int32} {a0 : Int32} {a1 : Int64} : ∀ (fu : Nat) (v : Int32) (S : NS), ((5 : Int) - v.toInt).toNat < fu → n_ok R S → n_ok R (f_X7_written_L148 a0 a1 fu v S).2
  | 0, _, _, h, _ => absurd h (Nat.not_lt_zero _)
  | fu + 1, v, S, h, hI => by
    rw [f_X7_written_L148]
    by_cases c : 5 ≤ v
    · rw [if_pos c]; exact hI
    · rw [if_neg c]; exact ok_w_L fu _ _ (q_dec rfl c h) (ok_X7_set hI (q_vi (by decide)))
theorem ok_X7_written {R : Int32} {S : NS} {a0 : Int32} {a1 : Int64} {a2 : Int32} {a3 : Int64} (h : n_ok R S) (hs : vp_in a2 6) : n_ok R (f_X7_written S a0 a1 a2 a3).2 := by
  unfold f_X7_written
  repeat' split
  all_goals first | exact h | exact ok_X7_set h hs | exact ok_w_L 4 2 _ (by decide) (ok_X7_set h hs)

def f_X7_needed (S : NS) (a0 : Int32) : NS :=
  (if (pN_trouble S) ≤ 0 then (if (pN_there (f_X7_read S a0)) = 0 then (f_X7_trouble (f_X7_read S a0) 1 1) else (f_X7_trouble (f_X7_read S a0) 0 1)) else S)

set_option maxHeartbeats 4000000 in
set_option maxRecDepth 100000 in
theorem c_X7_needed (l : Launch) (D : va_G) (aN aIs aKd aNu aSg aVl aTs aTc : Nat) (cJ cI cZ : ClassId) (S : NS) (a0 : Int32) (h_a0 : vp_in a0 13) (hs : vp_in (pN_segment S a0.toNatClampNeg) 6) : q_muV l yX7_needed wsX7_needed ({ frames := 2, cells := 0, slots := 0, locals := 43 }) D [(cJ, .long), (cI, .int), (cZ, .boolean)] (wN aN aIs aKd aNu aSg aVl aTs aTc cJ cI cZ S) [.ref aN, .int a0] (fun u => u = (f_X7_needed S a0)) (fun u => (wN aN aIs aKd aNu aSg aVl aTs aTc cJ cI cZ u)) := by
  refine q_muV_of (cc := cX7_needed) (maxL := 2) (ret := none) (plainFor_of_name (by decide)) rfl (Nat.le_of_ble_eq_true rfl) ?_
  intro p e s m below meth c ls A hx hb hr hml hown hts hlocks hP hK hD hA hS hl
  have hown : s.vm.findClass RX7 = some m.cls := hown
  have hl : lv_has ls 2 [(0, .ref aN), (1, .int a0)] := hl
  have hfix : CallFix p m c cX7_needed 2 s [.ref aN, .int a0].toArray wsX7_needed RX7 := ⟨hx, hb, hml, hown, hts⟩
  have hin4 : ∀ w ∈ wsX70, w ∈ wsX7_needed := by decide +kernel
  refine lv_aload_n hx hb dX7_needed_0 rfl (lv_at hl 0 rfl) ?_
  refine va_get (D := D) (ci := 4) (v := .int (pN_trouble S)) (C := RX7) (T := TX7) (N := 15) hx hb hts hin4 hown hK hP 0 rfl rfl 9 (by decide) (hts (.fieldLink RX7 114 "FieldTraceModel" "trouble" "I") (by decide +kernel)) (fun _ h9 => h9) rfl dX7_needed_1 ?_
  refine lv_if_le (tgt := 8) hx hb dX7_needed_4 (by decide) (fun c1 => ?_) (fun c1 => ?_)
  · refine lv_aload_n hx hb dX7_needed_8 rfl (lv_at hl 0 rfl) ?_
    refine lv_iload_n hx hb dX7_needed_9 rfl (lv_at hl 1 rfl) ?_
    refine q_callMv1 (As := [.int a0]) (rest := []) (wr := []) (Wn := (fun u => (wN aN aIs aKd aNu aSg aVl aTs aTc cJ cI cZ u))) (q0 := 0) (ci := 4) (C := RX7) (c_X7_read l D aN aIs aKd aNu aSg aVl aTs aTc cJ cI cZ S a0 (h_a0) (hs)) hfix (cwV 1 hts gX7_needed_X7_read rfl rfl rfl (by decide +kernel) ⟨Nat.le_of_ble_eq_true rfl, Nat.le_of_ble_eq_true rfl⟩) rfl hl.1 rfl (Nat.le_of_ble_eq_true rfl) ⟨Nat.zero_le _, Nat.zero_le _⟩ hP hK hD hS hA [0, 1, 2, 3, 4, 5, 6, 7] [] [0, 1, 2, 3, 4, 5, 6, 7] [0, 1, 2] rfl rfl rfl (by decide) (by decide) (by decide) (by decide) (fun _ => rfl) (fun _ => rfl) rfl rfl rfl rfl dX7_needed_10 (fun H locs hP hD hS => ?_)
    have hP : va_P D vwCl (wN aN aIs aKd aNu aSg aVl aTs aTc cJ cI cZ (f_X7_read S a0)) H := hP
    have hD : va_D A (wN aN aIs aKd aNu aSg aVl aTs aTc cJ cI cZ (f_X7_read S a0)) := hD
    refine lv_aload_n hx hb dX7_needed_13 rfl (lv_at hl 0 rfl) ?_
    refine lv_aload_n hx hb dX7_needed_14 rfl (lv_at hl 0 rfl) ?_
    refine va_get (D := D) (ci := 4) (v := .int (pN_there (f_X7_read S a0))) (C := RX7) (T := TX7) (N := 15) hx hb hts hin4 hown hK hP 0 rfl rfl 6 (by decide) (hts (.fieldLink RX7 57 "FieldTraceModel" "there" "Z") (by decide +kernel)) (fun _ h9 => h9) rfl dX7_needed_15 ?_
    refine lv_if_ne (tgt := 25) hx hb dX7_needed_18 (by decide) (fun c2 => ?_) (fun c2 => ?_)
    · refine lv_iconst (v := 0) hx hb dX7_needed_25 (by decide) ?_
      refine lv_iconst (v := 1) hx hb dX7_needed_26 (by decide) ?_
      refine q_callMv1 (As := [.int 0, .int 1]) (rest := []) (wr := []) (Wn := (fun u => (wN aN aIs aKd aNu aSg aVl aTs aTc cJ cI cZ u))) (q0 := 0) (ci := 4) (C := RX7) (c_X7_trouble l D aN aIs aKd aNu aSg aVl aTs aTc cJ cI cZ (f_X7_read S a0) 0 1) hfix (cwV 2 hts gX7_needed_X7_trouble rfl rfl rfl (by decide +kernel) ⟨Nat.le_of_ble_eq_true rfl, Nat.le_of_ble_eq_true rfl⟩) rfl hl.1 rfl (Nat.le_of_ble_eq_true rfl) ⟨Nat.zero_le _, Nat.zero_le _⟩ hP hK hD hS hA [0, 1, 2, 3, 4, 5, 6, 7] [] [0, 1, 2, 3, 4, 5, 6, 7] [0, 1, 2] rfl rfl rfl (by decide) (by decide) (by decide) (by decide) (fun _ => rfl) (fun _ => rfl) rfl rfl rfl rfl dX7_needed_27 (fun H locs hP hD hS => ?_)
      have hP : va_P D vwCl (wN aN aIs aKd aNu aSg aVl aTs aTc cJ cI cZ (f_X7_trouble (f_X7_read S a0) 0 1)) H := hP
      have hD : va_D A (wN aN aIs aKd aNu aSg aVl aTs aTc cJ cI cZ (f_X7_trouble (f_X7_read S a0) 0 1)) := hD
      exact q_mv (f_X7_trouble (f_X7_read S a0) 0 1) hx hb hr hlocks hP hD hS (Eq.symm (by rw [f_X7_needed, if_pos c1, if_neg c2])) dX7_needed_30
    · refine lv_iconst (v := 1) hx hb dX7_needed_21 (by decide) ?_
      refine lv_goto (tgt := 26) hx hb dX7_needed_22 (by decide) ?_
      refine lv_iconst (v := 1) hx hb dX7_needed_26 (by decide) ?_
      refine q_callMv1 (As := [.int 1, .int 1]) (rest := []) (wr := []) (Wn := (fun u => (wN aN aIs aKd aNu aSg aVl aTs aTc cJ cI cZ u))) (q0 := 0) (ci := 4) (C := RX7) (c_X7_trouble l D aN aIs aKd aNu aSg aVl aTs aTc cJ cI cZ (f_X7_read S a0) 1 1) hfix (cwV 2 hts gX7_needed_X7_trouble rfl rfl rfl (by decide +kernel) ⟨Nat.le_of_ble_eq_true rfl, Nat.le_of_ble_eq_true rfl⟩) rfl hl.1 rfl (Nat.le_of_ble_eq_true rfl) ⟨Nat.zero_le _, Nat.zero_le _⟩ hP hK hD hS hA [0, 1, 2, 3, 4, 5, 6, 7] [] [0, 1, 2, 3, 4, 5, 6, 7] [0, 1, 2] rfl rfl rfl (by decide) (by decide) (by decide) (by decide) (fun _ => rfl) (fun _ => rfl) rfl rfl rfl rfl dX7_needed_27 (fun H locs hP hD hS => ?_)
      have hP : va_P D vwCl (wN aN aIs aKd aNu aSg aVl aTs aTc cJ cI cZ (f_X7_trouble (f_X7_read S a0) 1 1)) H := hP
      have hD : va_D A (wN aN aIs aKd aNu aSg aVl aTs aTc cJ cI cZ (f_X7_trouble (f_X7_read S a0) 1 1)) := hD
      exact q_mv (f_X7_trouble (f_X7_read S a0) 1 1) hx hb hr hlocks hP hD hS (Eq.symm (by rw [f_X7_needed, if_pos c1, if_pos c2])) dX7_needed_30
  · exact q_mv S hx hb hr hlocks hP hD hS (Eq.symm (by rw [f_X7_needed, if_neg c1])) dX7_needed_7

theorem ok_X7_needed {R : Int32} {S : NS} {a0 : Int32} (hI : n_ok R S) : n_ok R (f_X7_needed S a0) := by
  unfold f_X7_needed
  exact ok_ite (P := fun x => n_ok R x) (ok_ite (P := fun x => n_ok R x) ((ok_X7_trouble (ok_X7_read hI))) ((ok_X7_trouble (ok_X7_read hI)))) (hI)

def f_X7_store (S : NS) (a0 : Int32) (a1 : Int32) : NS :=
  (if (pN_trouble S) ≤ 0 then (if ((f_X7_written S ((pN_segment S) a0.toNatClampNeg) ((pN_value S) a0.toNatClampNeg) ((pN_segment S) a1.toNatClampNeg) ((pN_value S) a1.toNatClampNeg)).1) = 0 then (f_X7_trouble (f_X7_written S ((pN_segment S) a0.toNatClampNeg) ((pN_value S) a0.toNatClampNeg) ((pN_segment S) a1.toNatClampNeg) ((pN_value S) a1.toNatClampNeg)).2 1 2) else (f_X7_trouble (f_X7_written S ((pN_segment S) a0.toNatClampNeg) ((pN_value S) a0.toNatClampNeg) ((pN_segment S) a1.toNatClampNeg) ((pN_value S) a1.toNatClampNeg)).2 0 2)) else S)

set_option maxHeartbeats 4000000 in
set_option maxRecDepth 100000 in
theorem c_X7_store (l : Launch) (D : va_G) (aN aIs aKd aNu aSg aVl aTs aTc : Nat) (cJ cI cZ : ClassId) (S : NS) (a0 : Int32) (a1 : Int32) (h_a0 : vp_in a0 13) (h_a1 : vp_in a1 13) (hs : vp_in (pN_segment S a0.toNatClampNeg) 6) : q_muV l yX7_store wsX7_store ({ frames := 3, cells := 0, slots := 0, locals := 84 }) D [(cJ, .long), (cI, .int), (cZ, .boolean)] (wN aN aIs aKd aNu aSg aVl aTs aTc cJ cI cZ S) [.ref aN, .int a0, .int a1] (fun u => u = (f_X7_store S a0 a1)) (fun u => (wN aN aIs aKd aNu aSg aVl aTs aTc cJ cI cZ u)) := by
  refine q_muV_of (cc := cX7_store) (maxL := 3) (ret := none) (plainFor_of_name (by decide)) rfl (Nat.le_of_ble_eq_true rfl) ?_
  intro p e s m below meth c ls A hx hb hr hml hown hts hlocks hP hK hD hA hS hl
  have hown : s.vm.findClass RX7 = some m.cls := hown
  have hl : lv_has ls 3 [(0, .ref aN), (1, .int a0), (2, .int a1)] := hl
  have hfix : CallFix p m c cX7_store 3 s [.ref aN, .int a0, .int a1].toArray wsX7_store RX7 := ⟨hx, hb, hml, hown, hts⟩
  have hin4 : ∀ w ∈ wsX70, w ∈ wsX7_store := by decide +kernel
  refine lv_aload_n hx hb dX7_store_0 rfl (lv_at hl 0 rfl) ?_
  refine va_get (D := D) (ci := 4) (v := .int (pN_trouble S)) (C := RX7) (T := TX7) (N := 15) hx hb hts hin4 hown hK hP 0 rfl rfl 9 (by decide) (hts (.fieldLink RX7 114 "FieldTraceModel" "trouble" "I") (by decide +kernel)) (fun _ h9 => h9) rfl dX7_store_1 ?_
  refine lv_if_le (tgt := 8) hx hb dX7_store_4 (by decide) (fun c1 => ?_) (fun c1 => ?_)
  · refine lv_aload_n hx hb dX7_store_8 rfl (lv_at hl 0 rfl) ?_
    refine lv_aload_n hx hb dX7_store_9 rfl (lv_at hl 0 rfl) ?_
    refine lv_aload_n hx hb dX7_store_10 rfl (lv_at hl 0 rfl) ?_
    refine va_get (D := D) (ci := 4) (v := .ref aSg) (C := RX7) (T := TX7) (N := 15) hx hb hts hin4 hown hK hP 0 rfl rfl 4 (by decide) (hts (.fieldLink RX7 21 "FieldTraceModel" "segment" "[I") (by decide +kernel)) (fun _ h9 => h9) rfl dX7_store_11 ?_
    refine lv_iload_n hx hb dX7_store_14 rfl (lv_at hl 1 rfl) ?_
    refine va_iald hx hb hK hP 4 1 rfl rfl (h_a0) dX7_store_15 ?_
    refine lv_aload_n hx hb dX7_store_16 rfl (lv_at hl 0 rfl) ?_
    refine va_get (D := D) (ci := 4) (v := .ref aVl) (C := RX7) (T := TX7) (N := 15) hx hb hts hin4 hown hK hP 0 rfl rfl 5 (by decide) (hts (.fieldLink RX7 24 "FieldTraceModel" "value" "[J") (by decide +kernel)) (fun _ h9 => h9) rfl dX7_store_17 ?_
    refine lv_iload_n hx hb dX7_store_20 rfl (lv_at hl 1 rfl) ?_
    refine va_lald hx hb hK hP 5 0 rfl rfl (h_a0) dX7_store_21 ?_
    refine lv_aload_n hx hb dX7_store_22 rfl (lv_at hl 0 rfl) ?_
    refine va_get (D := D) (ci := 4) (v := .ref aSg) (C := RX7) (T := TX7) (N := 15) hx hb hts hin4 hown hK hP 0 rfl rfl 4 (by decide) (hts (.fieldLink RX7 21 "FieldTraceModel" "segment" "[I") (by decide +kernel)) (fun _ h9 => h9) rfl dX7_store_23 ?_
    refine lv_iload_n hx hb dX7_store_26 rfl (lv_at hl 2 rfl) ?_
    refine va_iald hx hb hK hP 4 1 rfl rfl (h_a1) dX7_store_27 ?_
    refine lv_aload_n hx hb dX7_store_28 rfl (lv_at hl 0 rfl) ?_
    refine va_get (D := D) (ci := 4) (v := .ref aVl) (C := RX7) (T := TX7) (N := 15) hx hb hts hin4 hown hK hP 0 rfl rfl 5 (by decide) (hts (.fieldLink RX7 24 "FieldTraceModel" "value" "[J") (by decide +kernel)) (fun _ h9 => h9) rfl dX7_store_29 ?_
    refine lv_iload_n hx hb dX7_store_32 rfl (lv_at hl 2 rfl) ?_
    refine va_lald hx hb hK hP 5 0 rfl rfl (h_a1) dX7_store_33 ?_
    refine q_callMi1 (As := [.int ((pN_segment S) a0.toNatClampNeg), .long ((pN_value S) a0.toNatClampNeg), .int ((pN_segment S) a1.toNatClampNeg), .long ((pN_value S) a1.toNatClampNeg)]) (rest := [.ref aN]) (wr := []) (Wn := (fun u => (wN aN aIs aKd aNu aSg aVl aTs aTc cJ cI cZ u))) (q0 := 0) (ci := 4) (C := RX7) (c_X7_written l D aN aIs aKd aNu aSg aVl aTs aTc cJ cI cZ S ((pN_segment S) a0.toNatClampNeg) ((pN_value S) a0.toNatClampNeg) ((pN_segment S) a1.toNatClampNeg) ((pN_value S) a1.toNatClampNeg) (hs)) hfix (cwV 4 hts gX7_store_X7_written rfl rfl rfl (by decide +kernel) ⟨Nat.le_of_ble_eq_true rfl, Nat.le_of_ble_eq_true rfl⟩) rfl hl.1 rfl (Nat.le_of_ble_eq_true rfl) ⟨Nat.zero_le _, Nat.zero_le _⟩ hP hK hD hS hA [0, 1, 2, 3, 4, 5, 6, 7] [] [0, 1, 2, 3, 4, 5, 6, 7] [0, 1, 2] rfl rfl rfl (by decide) (by decide) (by decide) (by decide) (fun _ => rfl) (fun _ => rfl) rfl rfl rfl rfl dX7_store_34 (fun H locs hP hD hS => ?_)
    have hP : va_P D vwCl (wN aN aIs aKd aNu aSg aVl aTs aTc cJ cI cZ (f_X7_written S ((pN_segment S) a0.toNatClampNeg) ((pN_value S) a0.toNatClampNeg) ((pN_segment S) a1.toNatClampNeg) ((pN_value S) a1.toNatClampNeg)).2) H := hP
    have hD : va_D A (wN aN aIs aKd aNu aSg aVl aTs aTc cJ cI cZ (f_X7_written S ((pN_segment S) a0.toNatClampNeg) ((pN_value S) a0.toNatClampNeg) ((pN_segment S) a1.toNatClampNeg) ((pN_value S) a1.toNatClampNeg)).2) := hD
    refine lv_if_ne (tgt := 44) hx hb dX7_store_37 (by decide) (fun c2 => ?_) (fun c2 => ?_)
    · refine lv_iconst (v := 0) hx hb dX7_store_44 (by decide) ?_
      refine lv_iconst (v := 2) hx hb dX7_store_45 (by decide) ?_
      refine q_callMv1 (As := [.int 0, .int 2]) (rest := []) (wr := []) (Wn := (fun u => (wN aN aIs aKd aNu aSg aVl aTs aTc cJ cI cZ u))) (q0 := 0) (ci := 4) (C := RX7) (c_X7_trouble l D aN aIs aKd aNu aSg aVl aTs aTc cJ cI cZ ((f_X7_written S ((pN_segment S) a0.toNatClampNeg) ((pN_value S) a0.toNatClampNeg) ((pN_segment S) a1.toNatClampNeg) ((pN_value S) a1.toNatClampNeg)).2) 0 2) hfix (cwV 2 hts gX7_store_X7_trouble rfl rfl rfl (by decide +kernel) ⟨Nat.le_of_ble_eq_true rfl, Nat.le_of_ble_eq_true rfl⟩) rfl hl.1 rfl (Nat.le_of_ble_eq_true rfl) ⟨Nat.zero_le _, Nat.zero_le _⟩ hP hK hD hS hA [0, 1, 2, 3, 4, 5, 6, 7] [] [0, 1, 2, 3, 4, 5, 6, 7] [0, 1, 2] rfl rfl rfl (by decide) (by decide) (by decide) (by decide) (fun _ => rfl) (fun _ => rfl) rfl rfl rfl rfl dX7_store_46 (fun H locs hP hD hS => ?_)
      have hP : va_P D vwCl (wN aN aIs aKd aNu aSg aVl aTs aTc cJ cI cZ (f_X7_trouble (f_X7_written S ((pN_segment S) a0.toNatClampNeg) ((pN_value S) a0.toNatClampNeg) ((pN_segment S) a1.toNatClampNeg) ((pN_value S) a1.toNatClampNeg)).2 0 2)) H := hP
      have hD : va_D A (wN aN aIs aKd aNu aSg aVl aTs aTc cJ cI cZ (f_X7_trouble (f_X7_written S ((pN_segment S) a0.toNatClampNeg) ((pN_value S) a0.toNatClampNeg) ((pN_segment S) a1.toNatClampNeg) ((pN_value S) a1.toNatClampNeg)).2 0 2)) := hD
      exact q_mv (f_X7_trouble (f_X7_written S ((pN_segment S) a0.toNatClampNeg) ((pN_value S) a0.toNatClampNeg) ((pN_segment S) a1.toNatClampNeg) ((pN_value S) a1.toNatClampNeg)).2 0 2) hx hb hr hlocks hP hD hS (Eq.symm (by rw [f_X7_store, if_pos c1, if_neg c2])) dX7_store_49
    · refine lv_iconst (v := 1) hx hb dX7_store_40 (by decide) ?_
      refine lv_goto (tgt := 45) hx hb dX7_store_41 (by decide) ?_
      refine lv_iconst (v := 2) hx hb dX7_store_45 (by decide) ?_
      refine q_callMv1 (As := [.int 1, .int 2]) (rest := []) (wr := []) (Wn := (fun u => (wN aN aIs aKd aNu aSg aVl aTs aTc cJ cI cZ u))) (q0 := 0) (ci := 4) (C := RX7) (c_X7_trouble l D aN aIs aKd aNu aSg aVl aTs aTc cJ cI cZ ((f_X7_written S ((pN_segment S) a0.toNatClampNeg) ((pN_value S) a0.toNatClampNeg) ((pN_segment S) a1.toNatClampNeg) ((pN_value S) a1.toNatClampNeg)).2) 1 2) hfix (cwV 2 hts gX7_store_X7_trouble rfl rfl rfl (by decide +kernel) ⟨Nat.le_of_ble_eq_true rfl, Nat.le_of_ble_eq_true rfl⟩) rfl hl.1 rfl (Nat.le_of_ble_eq_true rfl) ⟨Nat.zero_le _, Nat.zero_le _⟩ hP hK hD hS hA [0, 1, 2, 3, 4, 5, 6, 7] [] [0, 1, 2, 3, 4, 5, 6, 7] [0, 1, 2] rfl rfl rfl (by decide) (by decide) (by decide) (by decide) (fun _ => rfl) (fun _ => rfl) rfl rfl rfl rfl dX7_store_46 (fun H locs hP hD hS => ?_)
      have hP : va_P D vwCl (wN aN aIs aKd aNu aSg aVl aTs aTc cJ cI cZ (f_X7_trouble (f_X7_written S ((pN_segment S) a0.toNatClampNeg) ((pN_value S) a0.toNatClampNeg) ((pN_segment S) a1.toNatClampNeg) ((pN_value S) a1.toNatClampNeg)).2 1 2)) H := hP
      have hD : va_D A (wN aN aIs aKd aNu aSg aVl aTs aTc cJ cI cZ (f_X7_trouble (f_X7_written S ((pN_segment S) a0.toNatClampNeg) ((pN_value S) a0.toNatClampNeg) ((pN_segment S) a1.toNatClampNeg) ((pN_value S) a1.toNatClampNeg)).2 1 2)) := hD
      exact q_mv (f_X7_trouble (f_X7_written S ((pN_segment S) a0.toNatClampNeg) ((pN_value S) a0.toNatClampNeg) ((pN_segment S) a1.toNatClampNeg) ((pN_value S) a1.toNatClampNeg)).2 1 2) hx hb hr hlocks hP hD hS (Eq.symm (by rw [f_X7_store, if_pos c1, if_pos c2])) dX7_store_49
  · exact q_mv S hx hb hr hlocks hP hD hS (Eq.symm (by rw [f_X7_store, if_neg c1])) dX7_store_7

theorem ok_X7_store {R : Int32} {S : NS} {a0 : Int32} {a1 : Int32} (hI : n_ok R S) : n_ok R (f_X7_store S a0 a1) := by
  unfold f_X7_store
  exact ok_ite (P := fun x => n_ok R x) (ok_ite (P := fun x => n_ok R x) ((ok_X7_trouble (ok_X7_written hI (hI.1 _)))) ((ok_X7_trouble (ok_X7_written hI (hI.1 _))))) (hI)

def f_X7_sure_J21 (S : NS) (a0 : Int32) (t0_21 : Int32) : NS :=
  (f_X7_keep (f_X7_trouble S t0_21 4) a0)

def f_X7_sure (S : NS) (a0 : Int32) : NS :=
  (if (pN_trouble S) ≤ 0 then (if (pN_there S) = 0 then (f_X7_sure_J21 S a0 1) else (f_X7_sure_J21 S a0 0)) else S)

set_option maxHeartbeats 4000000 in
set_option maxRecDepth 100000 in
theorem c_X7_sure (l : Launch) (D : va_G) (aN aIs aKd aNu aSg aVl aTs aTc : Nat) (cJ cI cZ : ClassId) (S : NS) (a0 : Int32) (h_a0 : vp_in a0 13) : q_muV l yX7_sure wsX7_sure ({ frames := 1, cells := 0, slots := 0, locals := 22 }) D [(cJ, .long), (cI, .int), (cZ, .boolean)] (wN aN aIs aKd aNu aSg aVl aTs aTc cJ cI cZ S) [.ref aN, .int a0] (fun u => u = (f_X7_sure S a0)) (fun u => (wN aN aIs aKd aNu aSg aVl aTs aTc cJ cI cZ u)) := by
  refine q_muV_of (cc := cX7_sure) (maxL := 2) (ret := none) (plainFor_of_name (by decide)) rfl (Nat.le_of_ble_eq_true rfl) ?_
  intro p e s m below meth c ls A hx hb hr hml hown hts hlocks hP hK hD hA hS hl
  have hown : s.vm.findClass RX7 = some m.cls := hown
  have hl : lv_has ls 2 [(0, .ref aN), (1, .int a0)] := hl
  have hfix : CallFix p m c cX7_sure 2 s [.ref aN, .int a0].toArray wsX7_sure RX7 := ⟨hx, hb, hml, hown, hts⟩
  have hin4 : ∀ w ∈ wsX70, w ∈ wsX7_sure := by decide +kernel
  refine lv_aload_n hx hb dX7_sure_0 rfl (lv_at hl 0 rfl) ?_
  refine va_get (D := D) (ci := 4) (v := .int (pN_trouble S)) (C := RX7) (T := TX7) (N := 15) hx hb hts hin4 hown hK hP 0 rfl rfl 9 (by decide) (hts (.fieldLink RX7 114 "FieldTraceModel" "trouble" "I") (by decide +kernel)) (fun _ h9 => h9) rfl dX7_sure_1 ?_
  refine lv_if_le (tgt := 8) hx hb dX7_sure_4 (by decide) (fun c1 => ?_) (fun c1 => ?_)
  · refine lv_aload_n hx hb dX7_sure_8 rfl (lv_at hl 0 rfl) ?_
    refine lv_aload_n hx hb dX7_sure_9 rfl (lv_at hl 0 rfl) ?_
    refine va_get (D := D) (ci := 4) (v := .int (pN_there S)) (C := RX7) (T := TX7) (N := 15) hx hb hts hin4 hown hK hP 0 rfl rfl 6 (by decide) (hts (.fieldLink RX7 57 "FieldTraceModel" "there" "Z") (by decide +kernel)) (fun _ h9 => h9) rfl dX7_sure_10 ?_
    have kJ21 : ∀ (t0_21 : Int32) (H : Heap) (locs : List Loc) (ls : Array Slot), (t0_21 = 0 ∨ t0_21 = 1) → (f_X7_sure S a0) = (f_X7_sure_J21 S a0 t0_21) → va_P D vwCl (wN aN aIs aKd aNu aSg aVl aTs aTc cJ cI cZ S) H → va_D A (wN aN aIs aKd aNu aSg aVl aTs aTc cJ cI cZ S) → va_S A s.heap H locs → lv_has ls 2 [(0, .ref aN), (1, .int a0)] → W p l e ({ frames := 1, cells := 0, slots := 0, locals := 22 }) s m [.ref aN, .int a0].toArray below meth c H locs 0 0 (MQ below (va_Qv (fun u => u = (f_X7_sure S a0)) (fun u t => va_P D vwCl ((fun u => (wN aN aIs aKd aNu aSg aVl aTs aTc cJ cI cZ u)) u) t.heap ∧ va_D A ((fun u => (wN aN aIs aKd aNu aSg aVl aTs aTc cJ cI cZ u)) u)) A) [.ref aN, .int a0].toArray s 0 0 A) (F0 m 21 ls [.int t0_21, .ref aN]) := by
      intro t0_21 H locs ls hb_t0_21 hJ21 hP hD hS hl
      refine lv_iconst (v := 4) hx hb dX7_sure_21 (by decide) ?_
      refine q_callMv1 (As := [.int t0_21, .int 4]) (rest := []) (wr := []) (Wn := (fun u => (wN aN aIs aKd aNu aSg aVl aTs aTc cJ cI cZ u))) (q0 := 0) (ci := 4) (C := RX7) (c_X7_trouble l D aN aIs aKd aNu aSg aVl aTs aTc cJ cI cZ S t0_21 4) hfix (cwV 2 hts gX7_sure_X7_trouble rfl rfl rfl (by decide +kernel) ⟨Nat.le_of_ble_eq_true rfl, Nat.le_of_ble_eq_true rfl⟩) rfl hl.1 rfl (Nat.le_of_ble_eq_true rfl) ⟨Nat.zero_le _, Nat.zero_le _⟩ hP hK hD hS hA [0, 1, 2, 3, 4, 5, 6, 7] [] [0, 1, 2, 3, 4, 5, 6, 7] [0, 1, 2] rfl rfl rfl (by decide) (by decide) (by decide) (by decide) (fun _ => rfl) (fun _ => rfl) rfl rfl rfl rfl dX7_sure_22 (fun H locs hP hD hS => ?_)
      have hP : va_P D vwCl (wN aN aIs aKd aNu aSg aVl aTs aTc cJ cI cZ (f_X7_trouble S t0_21 4)) H := hP
      have hD : va_D A (wN aN aIs aKd aNu aSg aVl aTs aTc cJ cI cZ (f_X7_trouble S t0_21 4)) := hD
      refine lv_aload_n hx hb dX7_sure_25 rfl (lv_at hl 0 rfl) ?_
      refine lv_iload_n hx hb dX7_sure_26 rfl (lv_at hl 1 rfl) ?_
      refine q_callMv1 (As := [.int a0]) (rest := []) (wr := []) (Wn := (fun u => (wN aN aIs aKd aNu aSg aVl aTs aTc cJ cI cZ u))) (q0 := 0) (ci := 4) (C := RX7) (c_X7_keep l D aN aIs aKd aNu aSg aVl aTs aTc cJ cI cZ (f_X7_trouble S t0_21 4) a0 (h_a0)) hfix (cwV 1 hts gX7_sure_X7_keep rfl rfl rfl (by decide +kernel) ⟨Nat.le_of_ble_eq_true rfl, Nat.le_of_ble_eq_true rfl⟩) rfl hl.1 rfl (Nat.le_of_ble_eq_true rfl) ⟨Nat.zero_le _, Nat.zero_le _⟩ hP hK hD hS hA [0, 1, 2, 3, 4, 5, 6, 7] [] [0, 1, 2, 3, 4, 5, 6, 7] [0, 1, 2] rfl rfl rfl (by decide) (by decide) (by decide) (by decide) (fun _ => rfl) (fun _ => rfl) rfl rfl rfl rfl dX7_sure_27 (fun H locs hP hD hS => ?_)
      have hP : va_P D vwCl (wN aN aIs aKd aNu aSg aVl aTs aTc cJ cI cZ (f_X7_keep (f_X7_trouble S t0_21 4) a0)) H := hP
      have hD : va_D A (wN aN aIs aKd aNu aSg aVl aTs aTc cJ cI cZ (f_X7_keep (f_X7_trouble S t0_21 4) a0)) := hD
      exact q_mv (f_X7_keep (f_X7_trouble S t0_21 4) a0) hx hb hr hlocks hP hD hS (Eq.symm (by rw [hJ21, f_X7_sure_J21])) dX7_sure_30
    refine lv_if_ne (tgt := 20) hx hb dX7_sure_13 (by decide) (fun c2 => ?_) (fun c2 => ?_)
    · refine lv_iconst (v := 0) hx hb dX7_sure_20 (by decide) ?_
      exact kJ21 0 _ _ _ (Or.inl rfl) (by rw [f_X7_sure, if_pos c1, if_neg c2]) hP hD hS (lv_sub hl [0, 1] rfl)
    · refine lv_iconst (v := 1) hx hb dX7_sure_16 (by decide) ?_
      refine lv_goto (tgt := 21) hx hb dX7_sure_17 (by decide) ?_
      exact kJ21 1 _ _ _ (Or.inr rfl) (by rw [f_X7_sure, if_pos c1, if_pos c2]) hP hD hS (lv_sub hl [0, 1] rfl)
  · exact q_mv S hx hb hr hlocks hP hD hS (Eq.symm (by rw [f_X7_sure, if_neg c1])) dX7_sure_7

theorem ok_f_X7_sure_J21 {R : Int32} {S : NS} {a0 : Int32} {t0_21 : Int32} (hI : n_ok R S) : n_ok R (f_X7_sure_J21 S a0 t0_21) := by
  unfold f_X7_sure_J21
  exact (ok_X7_keep (ok_X7_trouble hI))

theorem ok_X7_sure {R : Int32} {S : NS} {a0 : Int32} (hI : n_ok R S) : n_ok R (f_X7_sure S a0) := by
  unfold f_X7_sure
  exact ok_ite (P := fun x => n_ok R x) (ok_ite (P := fun x => n_ok R x) (ok_f_X7_sure_J21 hI) (ok_f_X7_sure_J21 hI)) (hI)

def f_X7_place (S : NS) (a0 : Int32) : NS :=
  (if ((pN_segment (f_X7_sure S a0)) a0.toNatClampNeg) = 0 then (f_X7_trouble (f_X7_sure S a0) 1 4) else (f_X7_trouble (f_X7_sure S a0) 0 4))

set_option maxHeartbeats 4000000 in
set_option maxRecDepth 100000 in
theorem c_X7_place (l : Launch) (D : va_G) (aN aIs aKd aNu aSg aVl aTs aTc : Nat) (cJ cI cZ : ClassId) (S : NS) (a0 : Int32) (h_a0 : vp_in a0 13) : q_muV l yX7_place wsX7_place ({ frames := 2, cells := 0, slots := 0, locals := 43 }) D [(cJ, .long), (cI, .int), (cZ, .boolean)] (wN aN aIs aKd aNu aSg aVl aTs aTc cJ cI cZ S) [.ref aN, .int a0] (fun u => u = (f_X7_place S a0)) (fun u => (wN aN aIs aKd aNu aSg aVl aTs aTc cJ cI cZ u)) := by
  refine q_muV_of (cc := cX7_place) (maxL := 2) (ret := none) (plainFor_of_name (by decide)) rfl (Nat.le_of_ble_eq_true rfl) ?_
  intro p e s m below meth c ls A hx hb hr hml hown hts hlocks hP hK hD hA hS hl
  have hown : s.vm.findClass RX7 = some m.cls := hown
  have hl : lv_has ls 2 [(0, .ref aN), (1, .int a0)] := hl
  have hfix : CallFix p m c cX7_place 2 s [.ref aN, .int a0].toArray wsX7_place RX7 := ⟨hx, hb, hml, hown, hts⟩
  have hin4 : ∀ w ∈ wsX70, w ∈ wsX7_place := by decide +kernel
  refine lv_aload_n hx hb dX7_place_0 rfl (lv_at hl 0 rfl) ?_
  refine lv_iload_n hx hb dX7_place_1 rfl (lv_at hl 1 rfl) ?_
  refine q_callMv1 (As := [.int a0]) (rest := []) (wr := []) (Wn := (fun u => (wN aN aIs aKd aNu aSg aVl aTs aTc cJ cI cZ u))) (q0 := 0) (ci := 4) (C := RX7) (c_X7_sure l D aN aIs aKd aNu aSg aVl aTs aTc cJ cI cZ S a0 (h_a0)) hfix (cwV 1 hts gX7_place_X7_sure rfl rfl rfl (by decide +kernel) ⟨Nat.le_of_ble_eq_true rfl, Nat.le_of_ble_eq_true rfl⟩) rfl hl.1 rfl (Nat.le_of_ble_eq_true rfl) ⟨Nat.zero_le _, Nat.zero_le _⟩ hP hK hD hS hA [0, 1, 2, 3, 4, 5, 6, 7] [] [0, 1, 2, 3, 4, 5, 6, 7] [0, 1, 2] rfl rfl rfl (by decide) (by decide) (by decide) (by decide) (fun _ => rfl) (fun _ => rfl) rfl rfl rfl rfl dX7_place_2 (fun H locs hP hD hS => ?_)
  have hP : va_P D vwCl (wN aN aIs aKd aNu aSg aVl aTs aTc cJ cI cZ (f_X7_sure S a0)) H := hP
  have hD : va_D A (wN aN aIs aKd aNu aSg aVl aTs aTc cJ cI cZ (f_X7_sure S a0)) := hD
  refine lv_aload_n hx hb dX7_place_5 rfl (lv_at hl 0 rfl) ?_
  refine lv_aload_n hx hb dX7_place_6 rfl (lv_at hl 0 rfl) ?_
  refine va_get (D := D) (ci := 4) (v := .ref aSg) (C := RX7) (T := TX7) (N := 15) hx hb hts hin4 hown hK hP 0 rfl rfl 4 (by decide) (hts (.fieldLink RX7 21 "FieldTraceModel" "segment" "[I") (by decide +kernel)) (fun _ h9 => h9) rfl dX7_place_7 ?_
  refine lv_iload_n hx hb dX7_place_10 rfl (lv_at hl 1 rfl) ?_
  refine va_iald hx hb hK hP 4 1 rfl rfl (h_a0) dX7_place_11 ?_
  refine lv_if_ne (tgt := 19) hx hb dX7_place_12 (by decide) (fun c1 => ?_) (fun c1 => ?_)
  · refine lv_iconst (v := 0) hx hb dX7_place_19 (by decide) ?_
    refine lv_iconst (v := 4) hx hb dX7_place_20 (by decide) ?_
    refine q_callMv1 (As := [.int 0, .int 4]) (rest := []) (wr := []) (Wn := (fun u => (wN aN aIs aKd aNu aSg aVl aTs aTc cJ cI cZ u))) (q0 := 0) (ci := 4) (C := RX7) (c_X7_trouble l D aN aIs aKd aNu aSg aVl aTs aTc cJ cI cZ (f_X7_sure S a0) 0 4) hfix (cwV 2 hts gX7_place_X7_trouble rfl rfl rfl (by decide +kernel) ⟨Nat.le_of_ble_eq_true rfl, Nat.le_of_ble_eq_true rfl⟩) rfl hl.1 rfl (Nat.le_of_ble_eq_true rfl) ⟨Nat.zero_le _, Nat.zero_le _⟩ hP hK hD hS hA [0, 1, 2, 3, 4, 5, 6, 7] [] [0, 1, 2, 3, 4, 5, 6, 7] [0, 1, 2] rfl rfl rfl (by decide) (by decide) (by decide) (by decide) (fun _ => rfl) (fun _ => rfl) rfl rfl rfl rfl dX7_place_21 (fun H locs hP hD hS => ?_)
    have hP : va_P D vwCl (wN aN aIs aKd aNu aSg aVl aTs aTc cJ cI cZ (f_X7_trouble (f_X7_sure S a0) 0 4)) H := hP
    have hD : va_D A (wN aN aIs aKd aNu aSg aVl aTs aTc cJ cI cZ (f_X7_trouble (f_X7_sure S a0) 0 4)) := hD
    exact q_mv (f_X7_trouble (f_X7_sure S a0) 0 4) hx hb hr hlocks hP hD hS (Eq.symm (by rw [f_X7_place, if_neg c1])) dX7_place_24
  · refine lv_iconst (v := 1) hx hb dX7_place_15 (by decide) ?_
    refine lv_goto (tgt := 20) hx hb dX7_place_16 (by decide) ?_
    refine lv_iconst (v := 4) hx hb dX7_place_20 (by decide) ?_
    refine q_callMv1 (As := [.int 1, .int 4]) (rest := []) (wr := []) (Wn := (fun u => (wN aN aIs aKd aNu aSg aVl aTs aTc cJ cI cZ u))) (q0 := 0) (ci := 4) (C := RX7) (c_X7_trouble l D aN aIs aKd aNu aSg aVl aTs aTc cJ cI cZ (f_X7_sure S a0) 1 4) hfix (cwV 2 hts gX7_place_X7_trouble rfl rfl rfl (by decide +kernel) ⟨Nat.le_of_ble_eq_true rfl, Nat.le_of_ble_eq_true rfl⟩) rfl hl.1 rfl (Nat.le_of_ble_eq_true rfl) ⟨Nat.zero_le _, Nat.zero_le _⟩ hP hK hD hS hA [0, 1, 2, 3, 4, 5, 6, 7] [] [0, 1, 2, 3, 4, 5, 6, 7] [0, 1, 2] rfl rfl rfl (by decide) (by decide) (by decide) (by decide) (fun _ => rfl) (fun _ => rfl) rfl rfl rfl rfl dX7_place_21 (fun H locs hP hD hS => ?_)
    have hP : va_P D vwCl (wN aN aIs aKd aNu aSg aVl aTs aTc cJ cI cZ (f_X7_trouble (f_X7_sure S a0) 1 4)) H := hP
    have hD : va_D A (wN aN aIs aKd aNu aSg aVl aTs aTc cJ cI cZ (f_X7_trouble (f_X7_sure S a0) 1 4)) := hD
    exact q_mv (f_X7_trouble (f_X7_sure S a0) 1 4) hx hb hr hlocks hP hD hS (Eq.symm (by rw [f_X7_place, if_pos c1])) dX7_place_24

theorem ok_X7_place {R : Int32} {S : NS} {a0 : Int32} (hI : n_ok R S) : n_ok R (f_X7_place S a0) := by
  unfold f_X7_place
  exact ok_ite (P := fun x => n_ok R x) ((ok_X7_trouble (ok_X7_sure hI))) ((ok_X7_trouble (ok_X7_sure hI)))

def f_X7_placeOfOp1_J55 (S : NS) (t0_55 : Int32) : NS :=
  (f_X7_place (f_X7_further S t0_55 (((f_X7_offset (pN_word S) 2) : Int32).toInt64)) 5)

def f_X7_placeOfOp1_J27 (S : NS) : NS :=
  (if (f_X7_flag S 32) = 0 then (if (f_X7_flag S 33) = 0 then (f_X7_placeOfOp1_J55 S 1) else (f_X7_placeOfOp1_J55 S 2)) else (f_X7_placeOfOp1_J55 S 0))

def f_X7_placeOfOp1 (S : NS) : NS :=
  (if (f_X7_flag S 32) = 0 then (if (f_X7_flag S 33) = 0 then (if (f_X7_flag S 34) = 0 then (if (pN_trouble (f_X7_place (f_X7_needed S 4) 10)) = 0 then (f_X7_place (f_X7_further (f_X7_place (f_X7_needed S 4) 10) 10 (((f_X7_offset (pN_word (f_X7_place (f_X7_needed S 4) 10)) 2) : Int32).toInt64)) 5) else (f_X7_place (f_X7_place (f_X7_needed S 4) 10) 5)) else (f_X7_placeOfOp1_J27 S)) else (f_X7_placeOfOp1_J27 S)) else (f_X7_placeOfOp1_J27 S))

set_option maxHeartbeats 4000000 in
set_option maxRecDepth 100000 in
theorem c_X7_placeOfOp1 (l : Launch) (D : va_G) (aN aIs aKd aNu aSg aVl aTs aTc : Nat) (cJ cI cZ : ClassId) (S : NS) (hI : n_ok (pN_rows S) S) : q_muV l yX7_placeOfOp1 wsX7_placeOfOp1 ({ frames := 3, cells := 0, slots := 0, locals := 64 }) D [(cJ, .long), (cI, .int), (cZ, .boolean)] (wN aN aIs aKd aNu aSg aVl aTs aTc cJ cI cZ S) [.ref aN] (fun u => u = (f_X7_placeOfOp1 S)) (fun u => (wN aN aIs aKd aNu aSg aVl aTs aTc cJ cI cZ u)) := by
  refine q_muV_of (cc := cX7_placeOfOp1) (maxL := 1) (ret := none) (plainFor_of_name (by decide)) rfl (Nat.le_of_ble_eq_true rfl) ?_
  intro p e s m below meth c ls A hx hb hr hml hown hts hlocks hP hK hD hA hS hl
  have hown : s.vm.findClass RX7 = some m.cls := hown
  have hl : lv_has ls 1 [(0, .ref aN)] := hl
  have hfix : CallFix p m c cX7_placeOfOp1 1 s [.ref aN].toArray wsX7_placeOfOp1 RX7 := ⟨hx, hb, hml, hown, hts⟩
  have hin4 : ∀ w ∈ wsX70, w ∈ wsX7_placeOfOp1 := by decide +kernel
  refine lv_aload_n hx hb dX7_placeOfOp1_0 rfl (lv_at hl 0 rfl) ?_
  refine lv_bipush (v := 32) hx hb dX7_placeOfOp1_1 (by decide) ?_
  refine q_callVi (As := [.int 32]) (rest := []) (q0 := 0) (ci := 4) (C := RX7) (c_X7_flag l D aN aIs aKd aNu aSg aVl aTs aTc cJ cI cZ S 32) hfix (cwV 1 hts gX7_placeOfOp1_X7_flag rfl rfl rfl (by decide +kernel) ⟨Nat.le_of_ble_eq_true rfl, Nat.le_of_ble_eq_true rfl⟩) rfl hl.1 rfl (Nat.le_of_ble_eq_true rfl) ⟨Nat.zero_le _, Nat.zero_le _⟩ hP hK hS hA [0, 1, 2, 3, 4, 5, 6, 7] [0, 1, 2] rfl rfl rfl rfl rfl dX7_placeOfOp1_3 (fun H locs hP hS => ?_)
  have kJ27 : ∀ (H : Heap) (locs : List Loc) (ls : Array Slot), (f_X7_placeOfOp1 S) = (f_X7_placeOfOp1_J27 S) → va_P D vwCl (wN aN aIs aKd aNu aSg aVl aTs aTc cJ cI cZ S) H → va_D A (wN aN aIs aKd aNu aSg aVl aTs aTc cJ cI cZ S) → va_S A s.heap H locs → lv_has ls 1 [(0, .ref aN)] → W p l e ({ frames := 3, cells := 0, slots := 0, locals := 64 }) s m [.ref aN].toArray below meth c H locs 0 0 (MQ below (va_Qv (fun u => u = (f_X7_placeOfOp1 S)) (fun u t => va_P D vwCl ((fun u => (wN aN aIs aKd aNu aSg aVl aTs aTc cJ cI cZ u)) u) t.heap ∧ va_D A ((fun u => (wN aN aIs aKd aNu aSg aVl aTs aTc cJ cI cZ u)) u)) A) [.ref aN].toArray s 0 0 A) (F0 m 27 ls []) := by
    intro H locs ls hJ27 hP hD hS hl
    refine lv_aload_n hx hb dX7_placeOfOp1_27 rfl (lv_at hl 0 rfl) ?_
    refine lv_aload_n hx hb dX7_placeOfOp1_28 rfl (lv_at hl 0 rfl) ?_
    refine lv_bipush (v := 32) hx hb dX7_placeOfOp1_29 (by decide) ?_
    refine q_callVi (As := [.int 32]) (rest := [.ref aN]) (q0 := 0) (ci := 4) (C := RX7) (c_X7_flag l D aN aIs aKd aNu aSg aVl aTs aTc cJ cI cZ S 32) hfix (cwV 1 hts gX7_placeOfOp1_X7_flag rfl rfl rfl (by decide +kernel) ⟨Nat.le_of_ble_eq_true rfl, Nat.le_of_ble_eq_true rfl⟩) rfl hl.1 rfl (Nat.le_of_ble_eq_true rfl) ⟨Nat.zero_le _, Nat.zero_le _⟩ hP hK hS hA [0, 1, 2, 3, 4, 5, 6, 7] [0, 1, 2] rfl rfl rfl rfl rfl dX7_placeOfOp1_31 (fun H locs hP hS => ?_)
    have kJ55 : ∀ (t0_55 : Int32) (H : Heap) (locs : List Loc) (ls : Array Slot), (vp_in t0_55 13) → (f_X7_placeOfOp1 S) = (f_X7_placeOfOp1_J55 S t0_55) → va_P D vwCl (wN aN aIs aKd aNu aSg aVl aTs aTc cJ cI cZ S) H → va_D A (wN aN aIs aKd aNu aSg aVl aTs aTc cJ cI cZ S) → va_S A s.heap H locs → lv_has ls 1 [(0, .ref aN)] → W p l e ({ frames := 3, cells := 0, slots := 0, locals := 64 }) s m [.ref aN].toArray below meth c H locs 0 0 (MQ below (va_Qv (fun u => u = (f_X7_placeOfOp1 S)) (fun u t => va_P D vwCl ((fun u => (wN aN aIs aKd aNu aSg aVl aTs aTc cJ cI cZ u)) u) t.heap ∧ va_D A ((fun u => (wN aN aIs aKd aNu aSg aVl aTs aTc cJ cI cZ u)) u)) A) [.ref aN].toArray s 0 0 A) (F0 m 55 ls [.int t0_55, .ref aN]) := by
      intro t0_55 H locs ls hj_55 hJ55 hP hD hS hl
      refine lv_aload_n hx hb dX7_placeOfOp1_55 rfl (lv_at hl 0 rfl) ?_
      refine va_get (D := D) (ci := 4) (v := .long (pN_word S)) (C := RX7) (T := TX7) (N := 15) hx hb hts hin4 hown hK hP 0 rfl rfl 11 (by decide) (hts (.fieldLink RX7 103 "FieldTraceModel" "word" "J") (by decide +kernel)) (fun _ h9 => h9) rfl dX7_placeOfOp1_56 ?_
      refine lv_iconst (v := 2) hx hb dX7_placeOfOp1_59 (by decide) ?_
      refine q_callSi (As := [.long (pN_word S), .int 2]) (rest := [.int t0_55, .ref aN]) (c_X7_offset l D (pN_word S) 2) hfix (va_cwS 2 hts gX7_placeOfOp1_X7_offset rfl rfl rfl (by decide +kernel) ⟨Nat.le_of_ble_eq_true rfl, Nat.le_of_ble_eq_true rfl⟩) rfl hl.1 rfl (Nat.le_of_ble_eq_true rfl) ⟨Nat.zero_le _, Nat.zero_le _⟩ hP hK hS hA [] [] rfl rfl dX7_placeOfOp1_60 (fun H locs hP hS => ?_)
      refine lv_i2l hx hb dX7_placeOfOp1_63 rfl ?_
      refine q_callMv1 (As := [.int t0_55, .long (((f_X7_offset (pN_word S) 2) : Int32).toInt64)]) (rest := []) (wr := []) (Wn := (fun u => (wN aN aIs aKd aNu aSg aVl aTs aTc cJ cI cZ u))) (q0 := 0) (ci := 4) (C := RX7) (c_X7_further l D aN aIs aKd aNu aSg aVl aTs aTc cJ cI cZ S t0_55 (((f_X7_offset (pN_word S) 2) : Int32).toInt64) (hj_55)) hfix (cwV 2 hts gX7_placeOfOp1_X7_further rfl rfl rfl (by decide +kernel) ⟨Nat.le_of_ble_eq_true rfl, Nat.le_of_ble_eq_true rfl⟩) rfl hl.1 rfl (Nat.le_of_ble_eq_true rfl) ⟨Nat.zero_le _, Nat.zero_le _⟩ hP hK hD hS hA [0, 1, 2, 3, 4, 5, 6, 7] [] [0, 1, 2, 3, 4, 5, 6, 7] [0, 1, 2] rfl rfl rfl (by decide) (by decide) (by decide) (by decide) (fun _ => rfl) (fun _ => rfl) rfl rfl rfl rfl dX7_placeOfOp1_64 (fun H locs hP hD hS => ?_)
      have hP : va_P D vwCl (wN aN aIs aKd aNu aSg aVl aTs aTc cJ cI cZ (f_X7_further S t0_55 (((f_X7_offset (pN_word S) 2) : Int32).toInt64))) H := hP
      have hD : va_D A (wN aN aIs aKd aNu aSg aVl aTs aTc cJ cI cZ (f_X7_further S t0_55 (((f_X7_offset (pN_word S) 2) : Int32).toInt64))) := hD
      refine lv_goto (tgt := 103) hx hb dX7_placeOfOp1_67 (by decide) ?_
      refine lv_aload_n hx hb dX7_placeOfOp1_103 rfl (lv_at hl 0 rfl) ?_
      refine lv_iconst (v := 5) hx hb dX7_placeOfOp1_104 (by decide) ?_
      refine q_callMv1 (As := [.int 5]) (rest := []) (wr := []) (Wn := (fun u => (wN aN aIs aKd aNu aSg aVl aTs aTc cJ cI cZ u))) (q0 := 0) (ci := 4) (C := RX7) (c_X7_place l D aN aIs aKd aNu aSg aVl aTs aTc cJ cI cZ (f_X7_further S t0_55 (((f_X7_offset (pN_word S) 2) : Int32).toInt64)) 5 (q_vi (by decide))) hfix (cwV 1 hts gX7_placeOfOp1_X7_place rfl rfl rfl (by decide +kernel) ⟨Nat.le_of_ble_eq_true rfl, Nat.le_of_ble_eq_true rfl⟩) rfl hl.1 rfl (Nat.le_of_ble_eq_true rfl) ⟨Nat.zero_le _, Nat.zero_le _⟩ hP hK hD hS hA [0, 1, 2, 3, 4, 5, 6, 7] [] [0, 1, 2, 3, 4, 5, 6, 7] [0, 1, 2] rfl rfl rfl (by decide) (by decide) (by decide) (by decide) (fun _ => rfl) (fun _ => rfl) rfl rfl rfl rfl dX7_placeOfOp1_105 (fun H locs hP hD hS => ?_)
      have hP : va_P D vwCl (wN aN aIs aKd aNu aSg aVl aTs aTc cJ cI cZ (f_X7_place (f_X7_further S t0_55 (((f_X7_offset (pN_word S) 2) : Int32).toInt64)) 5)) H := hP
      have hD : va_D A (wN aN aIs aKd aNu aSg aVl aTs aTc cJ cI cZ (f_X7_place (f_X7_further S t0_55 (((f_X7_offset (pN_word S) 2) : Int32).toInt64)) 5)) := hD
      exact q_mv (f_X7_place (f_X7_further S t0_55 (((f_X7_offset (pN_word S) 2) : Int32).toInt64)) 5) hx hb hr hlocks hP hD hS (Eq.symm (by rw [hJ55, f_X7_placeOfOp1_J55])) dX7_placeOfOp1_108
    refine lv_if_eq (tgt := 41) hx hb dX7_placeOfOp1_34 (by decide) (fun c5 => ?_) (fun c5 => ?_)
    · refine lv_aload_n hx hb dX7_placeOfOp1_41 rfl (lv_at hl 0 rfl) ?_
      refine lv_bipush (v := 33) hx hb dX7_placeOfOp1_42 (by decide) ?_
      refine q_callVi (As := [.int 33]) (rest := [.ref aN]) (q0 := 0) (ci := 4) (C := RX7) (c_X7_flag l D aN aIs aKd aNu aSg aVl aTs aTc cJ cI cZ S 33) hfix (cwV 1 hts gX7_placeOfOp1_X7_flag rfl rfl rfl (by decide +kernel) ⟨Nat.le_of_ble_eq_true rfl, Nat.le_of_ble_eq_true rfl⟩) rfl hl.1 rfl (Nat.le_of_ble_eq_true rfl) ⟨Nat.zero_le _, Nat.zero_le _⟩ hP hK hS hA [0, 1, 2, 3, 4, 5, 6, 7] [0, 1, 2] rfl rfl rfl rfl rfl dX7_placeOfOp1_44 (fun H locs hP hS => ?_)
      refine lv_if_eq (tgt := 54) hx hb dX7_placeOfOp1_47 (by decide) (fun c6 => ?_) (fun c6 => ?_)
      · refine lv_iconst (v := 1) hx hb dX7_placeOfOp1_54 (by decide) ?_
        exact kJ55 1 _ _ _ (q_vi (by decide)) (by rw [hJ27, f_X7_placeOfOp1_J27, if_pos c5, if_pos c6]) hP hD hS (lv_sub hl [0] rfl)
      · refine lv_iconst (v := 2) hx hb dX7_placeOfOp1_50 (by decide) ?_
        refine lv_goto (tgt := 55) hx hb dX7_placeOfOp1_51 (by decide) ?_
        exact kJ55 2 _ _ _ (q_vi (by decide)) (by rw [hJ27, f_X7_placeOfOp1_J27, if_pos c5, if_neg c6]) hP hD hS (lv_sub hl [0] rfl)
    · refine lv_iconst (v := 0) hx hb dX7_placeOfOp1_37 (by decide) ?_
      refine lv_goto (tgt := 55) hx hb dX7_placeOfOp1_38 (by decide) ?_
      exact kJ55 0 _ _ _ (q_vi (by decide)) (by rw [hJ27, f_X7_placeOfOp1_J27, if_neg c5]) hP hD hS (lv_sub hl [0] rfl)
  refine lv_if_ne (tgt := 27) hx hb dX7_placeOfOp1_6 (by decide) (fun c1 => ?_) (fun c1 => ?_)
  · exact kJ27 _ _ _ (by rw [f_X7_placeOfOp1, if_neg c1]) hP hD hS (lv_sub hl [0] rfl)
  · refine lv_aload_n hx hb dX7_placeOfOp1_9 rfl (lv_at hl 0 rfl) ?_
    refine lv_bipush (v := 33) hx hb dX7_placeOfOp1_10 (by decide) ?_
    refine q_callVi (As := [.int 33]) (rest := []) (q0 := 0) (ci := 4) (C := RX7) (c_X7_flag l D aN aIs aKd aNu aSg aVl aTs aTc cJ cI cZ S 33) hfix (cwV 1 hts gX7_placeOfOp1_X7_flag rfl rfl rfl (by decide +kernel) ⟨Nat.le_of_ble_eq_true rfl, Nat.le_of_ble_eq_true rfl⟩) rfl hl.1 rfl (Nat.le_of_ble_eq_true rfl) ⟨Nat.zero_le _, Nat.zero_le _⟩ hP hK hS hA [0, 1, 2, 3, 4, 5, 6, 7] [0, 1, 2] rfl rfl rfl rfl rfl dX7_placeOfOp1_12 (fun H locs hP hS => ?_)
    refine lv_if_ne (tgt := 27) hx hb dX7_placeOfOp1_15 (by decide) (fun c2 => ?_) (fun c2 => ?_)
    · exact kJ27 _ _ _ (by rw [f_X7_placeOfOp1, if_pos c1, if_neg c2]) hP hD hS (lv_sub hl [0] rfl)
    · refine lv_aload_n hx hb dX7_placeOfOp1_18 rfl (lv_at hl 0 rfl) ?_
      refine lv_bipush (v := 34) hx hb dX7_placeOfOp1_19 (by decide) ?_
      refine q_callVi (As := [.int 34]) (rest := []) (q0 := 0) (ci := 4) (C := RX7) (c_X7_flag l D aN aIs aKd aNu aSg aVl aTs aTc cJ cI cZ S 34) hfix (cwV 1 hts gX7_placeOfOp1_X7_flag rfl rfl rfl (by decide +kernel) ⟨Nat.le_of_ble_eq_true rfl, Nat.le_of_ble_eq_true rfl⟩) rfl hl.1 rfl (Nat.le_of_ble_eq_true rfl) ⟨Nat.zero_le _, Nat.zero_le _⟩ hP hK hS hA [0, 1, 2, 3, 4, 5, 6, 7] [0, 1, 2] rfl rfl rfl rfl rfl dX7_placeOfOp1_21 (fun H locs hP hS => ?_)
      refine lv_if_eq (tgt := 70) hx hb dX7_placeOfOp1_24 (by decide) (fun c3 => ?_) (fun c3 => ?_)
      · refine lv_aload_n hx hb dX7_placeOfOp1_70 rfl (lv_at hl 0 rfl) ?_
        refine lv_iconst (v := 4) hx hb dX7_placeOfOp1_71 (by decide) ?_
        refine q_callMv1 (As := [.int 4]) (rest := []) (wr := []) (Wn := (fun u => (wN aN aIs aKd aNu aSg aVl aTs aTc cJ cI cZ u))) (q0 := 0) (ci := 4) (C := RX7) (c_X7_needed l D aN aIs aKd aNu aSg aVl aTs aTc cJ cI cZ S 4 (q_vi (by decide)) (hI.1 _)) hfix (cwV 1 hts gX7_placeOfOp1_X7_needed rfl rfl rfl (by decide +kernel) ⟨Nat.le_of_ble_eq_true rfl, Nat.le_of_ble_eq_true rfl⟩) rfl hl.1 rfl (Nat.le_of_ble_eq_true rfl) ⟨Nat.zero_le _, Nat.zero_le _⟩ hP hK hD hS hA [0, 1, 2, 3, 4, 5, 6, 7] [] [0, 1, 2, 3, 4, 5, 6, 7] [0, 1, 2] rfl rfl rfl (by decide) (by decide) (by decide) (by decide) (fun _ => rfl) (fun _ => rfl) rfl rfl rfl rfl dX7_placeOfOp1_72 (fun H locs hP hD hS => ?_)
        have hP : va_P D vwCl (wN aN aIs aKd aNu aSg aVl aTs aTc cJ cI cZ (f_X7_needed S 4)) H := hP
        have hD : va_D A (wN aN aIs aKd aNu aSg aVl aTs aTc cJ cI cZ (f_X7_needed S 4)) := hD
        refine lv_aload_n hx hb dX7_placeOfOp1_75 rfl (lv_at hl 0 rfl) ?_
        refine lv_bipush (v := 10) hx hb dX7_placeOfOp1_76 (by decide) ?_
        refine q_callMv1 (As := [.int 10]) (rest := []) (wr := []) (Wn := (fun u => (wN aN aIs aKd aNu aSg aVl aTs aTc cJ cI cZ u))) (q0 := 0) (ci := 4) (C := RX7) (c_X7_place l D aN aIs aKd aNu aSg aVl aTs aTc cJ cI cZ (f_X7_needed S 4) 10 (q_vi (by decide))) hfix (cwV 1 hts gX7_placeOfOp1_X7_place rfl rfl rfl (by decide +kernel) ⟨Nat.le_of_ble_eq_true rfl, Nat.le_of_ble_eq_true rfl⟩) rfl hl.1 rfl (Nat.le_of_ble_eq_true rfl) ⟨Nat.zero_le _, Nat.zero_le _⟩ hP hK hD hS hA [0, 1, 2, 3, 4, 5, 6, 7] [] [0, 1, 2, 3, 4, 5, 6, 7] [0, 1, 2] rfl rfl rfl (by decide) (by decide) (by decide) (by decide) (fun _ => rfl) (fun _ => rfl) rfl rfl rfl rfl dX7_placeOfOp1_78 (fun H locs hP hD hS => ?_)
        have hP : va_P D vwCl (wN aN aIs aKd aNu aSg aVl aTs aTc cJ cI cZ (f_X7_place (f_X7_needed S 4) 10)) H := hP
        have hD : va_D A (wN aN aIs aKd aNu aSg aVl aTs aTc cJ cI cZ (f_X7_place (f_X7_needed S 4) 10)) := hD
        refine lv_aload_n hx hb dX7_placeOfOp1_81 rfl (lv_at hl 0 rfl) ?_
        refine va_get (D := D) (ci := 4) (v := .int (pN_trouble (f_X7_place (f_X7_needed S 4) 10))) (C := RX7) (T := TX7) (N := 15) hx hb hts hin4 hown hK hP 0 rfl rfl 9 (by decide) (hts (.fieldLink RX7 114 "FieldTraceModel" "trouble" "I") (by decide +kernel)) (fun _ h9 => h9) rfl dX7_placeOfOp1_82 ?_
        refine lv_if_ne (tgt := 103) hx hb dX7_placeOfOp1_85 (by decide) (fun c4 => ?_) (fun c4 => ?_)
        · refine lv_aload_n hx hb dX7_placeOfOp1_103 rfl (lv_at hl 0 rfl) ?_
          refine lv_iconst (v := 5) hx hb dX7_placeOfOp1_104 (by decide) ?_
          refine q_callMv1 (As := [.int 5]) (rest := []) (wr := []) (Wn := (fun u => (wN aN aIs aKd aNu aSg aVl aTs aTc cJ cI cZ u))) (q0 := 0) (ci := 4) (C := RX7) (c_X7_place l D aN aIs aKd aNu aSg aVl aTs aTc cJ cI cZ (f_X7_place (f_X7_needed S 4) 10) 5 (q_vi (by decide))) hfix (cwV 1 hts gX7_placeOfOp1_X7_place rfl rfl rfl (by decide +kernel) ⟨Nat.le_of_ble_eq_true rfl, Nat.le_of_ble_eq_true rfl⟩) rfl hl.1 rfl (Nat.le_of_ble_eq_true rfl) ⟨Nat.zero_le _, Nat.zero_le _⟩ hP hK hD hS hA [0, 1, 2, 3, 4, 5, 6, 7] [] [0, 1, 2, 3, 4, 5, 6, 7] [0, 1, 2] rfl rfl rfl (by decide) (by decide) (by decide) (by decide) (fun _ => rfl) (fun _ => rfl) rfl rfl rfl rfl dX7_placeOfOp1_105 (fun H locs hP hD hS => ?_)
          have hP : va_P D vwCl (wN aN aIs aKd aNu aSg aVl aTs aTc cJ cI cZ (f_X7_place (f_X7_place (f_X7_needed S 4) 10) 5)) H := hP
          have hD : va_D A (wN aN aIs aKd aNu aSg aVl aTs aTc cJ cI cZ (f_X7_place (f_X7_place (f_X7_needed S 4) 10) 5)) := hD
          exact q_mv (f_X7_place (f_X7_place (f_X7_needed S 4) 10) 5) hx hb hr hlocks hP hD hS (Eq.symm (by rw [f_X7_placeOfOp1, if_pos c1, if_pos c2, if_pos c3, if_neg c4])) dX7_placeOfOp1_108
        · refine lv_aload_n hx hb dX7_placeOfOp1_88 rfl (lv_at hl 0 rfl) ?_
          refine lv_bipush (v := 10) hx hb dX7_placeOfOp1_89 (by decide) ?_
          refine lv_aload_n hx hb dX7_placeOfOp1_91 rfl (lv_at hl 0 rfl) ?_
          refine va_get (D := D) (ci := 4) (v := .long (pN_word (f_X7_place (f_X7_needed S 4) 10))) (C := RX7) (T := TX7) (N := 15) hx hb hts hin4 hown hK hP 0 rfl rfl 11 (by decide) (hts (.fieldLink RX7 103 "FieldTraceModel" "word" "J") (by decide +kernel)) (fun _ h9 => h9) rfl dX7_placeOfOp1_92 ?_
          refine lv_iconst (v := 2) hx hb dX7_placeOfOp1_95 (by decide) ?_
          refine q_callSi (As := [.long (pN_word (f_X7_place (f_X7_needed S 4) 10)), .int 2]) (rest := [.int 10, .ref aN]) (c_X7_offset l D (pN_word (f_X7_place (f_X7_needed S 4) 10)) 2) hfix (va_cwS 2 hts gX7_placeOfOp1_X7_offset rfl rfl rfl (by decide +kernel) ⟨Nat.le_of_ble_eq_true rfl, Nat.le_of_ble_eq_true rfl⟩) rfl hl.1 rfl (Nat.le_of_ble_eq_true rfl) ⟨Nat.zero_le _, Nat.zero_le _⟩ hP hK hS hA [] [] rfl rfl dX7_placeOfOp1_96 (fun H locs hP hS => ?_)
          refine lv_i2l hx hb dX7_placeOfOp1_99 rfl ?_
          refine q_callMv1 (As := [.int 10, .long (((f_X7_offset (pN_word (f_X7_place (f_X7_needed S 4) 10)) 2) : Int32).toInt64)]) (rest := []) (wr := []) (Wn := (fun u => (wN aN aIs aKd aNu aSg aVl aTs aTc cJ cI cZ u))) (q0 := 0) (ci := 4) (C := RX7) (c_X7_further l D aN aIs aKd aNu aSg aVl aTs aTc cJ cI cZ (f_X7_place (f_X7_needed S 4) 10) 10 (((f_X7_offset (pN_word (f_X7_place (f_X7_needed S 4) 10)) 2) : Int32).toInt64) (q_vi (by decide))) hfix (cwV 2 hts gX7_placeOfOp1_X7_further rfl rfl rfl (by decide +kernel) ⟨Nat.le_of_ble_eq_true rfl, Nat.le_of_ble_eq_true rfl⟩) rfl hl.1 rfl (Nat.le_of_ble_eq_true rfl) ⟨Nat.zero_le _, Nat.zero_le _⟩ hP hK hD hS hA [0, 1, 2, 3, 4, 5, 6, 7] [] [0, 1, 2, 3, 4, 5, 6, 7] [0, 1, 2] rfl rfl rfl (by decide) (by decide) (by decide) (by decide) (fun _ => rfl) (fun _ => rfl) rfl rfl rfl rfl dX7_placeOfOp1_100 (fun H locs hP hD hS => ?_)
          have hP : va_P D vwCl (wN aN aIs aKd aNu aSg aVl aTs aTc cJ cI cZ (f_X7_further (f_X7_place (f_X7_needed S 4) 10) 10 (((f_X7_offset (pN_word (f_X7_place (f_X7_needed S 4) 10)) 2) : Int32).toInt64))) H := hP
          have hD : va_D A (wN aN aIs aKd aNu aSg aVl aTs aTc cJ cI cZ (f_X7_further (f_X7_place (f_X7_needed S 4) 10) 10 (((f_X7_offset (pN_word (f_X7_place (f_X7_needed S 4) 10)) 2) : Int32).toInt64))) := hD
          refine lv_aload_n hx hb dX7_placeOfOp1_103 rfl (lv_at hl 0 rfl) ?_
          refine lv_iconst (v := 5) hx hb dX7_placeOfOp1_104 (by decide) ?_
          refine q_callMv1 (As := [.int 5]) (rest := []) (wr := []) (Wn := (fun u => (wN aN aIs aKd aNu aSg aVl aTs aTc cJ cI cZ u))) (q0 := 0) (ci := 4) (C := RX7) (c_X7_place l D aN aIs aKd aNu aSg aVl aTs aTc cJ cI cZ (f_X7_further (f_X7_place (f_X7_needed S 4) 10) 10 (((f_X7_offset (pN_word (f_X7_place (f_X7_needed S 4) 10)) 2) : Int32).toInt64)) 5 (q_vi (by decide))) hfix (cwV 1 hts gX7_placeOfOp1_X7_place rfl rfl rfl (by decide +kernel) ⟨Nat.le_of_ble_eq_true rfl, Nat.le_of_ble_eq_true rfl⟩) rfl hl.1 rfl (Nat.le_of_ble_eq_true rfl) ⟨Nat.zero_le _, Nat.zero_le _⟩ hP hK hD hS hA [0, 1, 2, 3, 4, 5, 6, 7] [] [0, 1, 2, 3, 4, 5, 6, 7] [0, 1, 2] rfl rfl rfl (by decide) (by decide) (by decide) (by decide) (fun _ => rfl) (fun _ => rfl) rfl rfl rfl rfl dX7_placeOfOp1_105 (fun H locs hP hD hS => ?_)
          have hP : va_P D vwCl (wN aN aIs aKd aNu aSg aVl aTs aTc cJ cI cZ (f_X7_place (f_X7_further (f_X7_place (f_X7_needed S 4) 10) 10 (((f_X7_offset (pN_word (f_X7_place (f_X7_needed S 4) 10)) 2) : Int32).toInt64)) 5)) H := hP
          have hD : va_D A (wN aN aIs aKd aNu aSg aVl aTs aTc cJ cI cZ (f_X7_place (f_X7_further (f_X7_place (f_X7_needed S 4) 10) 10 (((f_X7_offset (pN_word (f_X7_place (f_X7_needed S 4) 10)) 2) : Int32).toInt64)) 5)) := hD
          exact q_mv (f_X7_place (f_X7_further (f_X7_place (f_X7_needed S 4) 10) 10 (((f_X7_offset (pN_word (f_X7_place (f_X7_needed S 4) 10)) 2) : Int32).toInt64)) 5) hx hb hr hlocks hP hD hS (Eq.symm (by rw [f_X7_placeOfOp1, if_pos c1, if_pos c2, if_pos c3, if_pos c4])) dX7_placeOfOp1_108
      · exact kJ27 _ _ _ (by rw [f_X7_placeOfOp1, if_pos c1, if_pos c2, if_neg c3]) hP hD hS (lv_sub hl [0] rfl)

theorem ok_f_X7_placeOfOp1_J55 {R : Int32} {S : NS} {t0_55 : Int32} (hI : n_ok R S) : n_ok R (f_X7_placeOfOp1_J55 S t0_55) := by
  unfold f_X7_placeOfOp1_J55
  exact (ok_X7_place (ok_X7_further hI))

theorem ok_f_X7_placeOfOp1_J27 {R : Int32} {S : NS} (hI : n_ok R S) : n_ok R (f_X7_placeOfOp1_J27 S) := by
  unfold f_X7_placeOfOp1_J27
  exact ok_ite (P := fun x => n_ok R x) (ok_ite (P := fun x => n_ok R x) (ok_f_X7_placeOfOp1_J55 hI) (ok_f_X7_placeOfOp1_J55 hI)) (ok_f_X7_placeOfOp1_J55 hI)

theorem ok_X7_placeOfOp1 {R : Int32} {S : NS} (hI : n_ok R S) : n_ok R (f_X7_placeOfOp1 S) := by
  unfold f_X7_placeOfOp1
  exact ok_ite (P := fun x => n_ok R x) (ok_ite (P := fun x => n_ok R x) (ok_ite (P := fun x => n_ok R x) (ok_ite (P := fun x => n_ok R x) ((ok_X7_place (ok_X7_further (ok_X7_place (ok_X7_needed hI))))) ((ok_X7_place (ok_X7_place (ok_X7_needed hI))))) (ok_f_X7_placeOfOp1_J27 hI)) (ok_f_X7_placeOfOp1_J27 hI)) (ok_f_X7_placeOfOp1_J27 hI)

def f_X7_deduce_J159 (S : NS) (S_159 : NS) : NS :=
  (if (pN_there (f_X7_read (f_X7_keep (f_X7_read S 3) 10) 5)) = 0 then (f_X7_store (f_X7_sure S_159 10) 5 10) else (f_X7_store (f_X7_sure S_159 10) 4 10))

def f_X7_deduce_J130 (S : NS) (S_98 : NS) : NS :=
  (if (f_X7_flag S_98 35) = 0 then (f_X7_deduce_J159 S (f_X7_times S_98 10 11 1)) else (f_X7_deduce_J159 S (f_X7_minus S_98 10 11)))

def f_X7_deduce_J98 (S : NS) (S_98 : NS) : NS :=
  (if (f_X7_flag S_98 36) = 0 then (f_X7_deduce_J130 S S_98) else (if ((pN_segment S_98) (11 : Int32).toNatClampNeg) = 0 then (if ((pN_value S_98) (11 : Int32).toNatClampNeg) = 0 then S_98 else (f_X7_deduce_J130 S S_98)) else (f_X7_deduce_J130 S S_98)))

def f_X7_deduce_J74 (S : NS) (S_74 : NS) : NS :=
  (if (pN_there (f_X7_read S_74 4)) = (pN_there (f_X7_read (f_X7_keep (f_X7_read S 3) 10) 5)) then (f_X7_read S_74 4) else (if (pN_there (f_X7_read (f_X7_keep (f_X7_read S 3) 10) 5)) = 0 then (f_X7_deduce_J98 S (f_X7_keep (f_X7_read S_74 4) 11)) else (f_X7_deduce_J98 S (f_X7_read S_74 4))))

def f_X7_deduce_J35 (S : NS) : NS :=
  (if (pN_there (f_X7_read S 3)) = 0 then (f_X7_read S 3) else (if (pN_there (f_X7_read (f_X7_keep (f_X7_read S 3) 10) 5)) = 0 then (f_X7_deduce_J74 S (f_X7_read (f_X7_keep (f_X7_read S 3) 10) 5)) else (f_X7_deduce_J74 S (f_X7_keep (f_X7_read (f_X7_keep (f_X7_read S 3) 10) 5) 11))))

def f_X7_deduce (S : NS) : NS :=
  (if 0 < (pN_trouble S) then S else (if (f_X7_flag S 44) = 0 then S else (if (f_X7_flag S 35) = 0 then (if (f_X7_flag S 36) = 0 then S else (f_X7_deduce_J35 S)) else (f_X7_deduce_J35 S))))

set_option maxHeartbeats 4000000 in
set_option maxRecDepth 100000 in
theorem c_X7_deduce (l : Launch) (D : va_G) (aN aIs aKd aNu aSg aVl aTs aTc : Nat) (cJ cI cZ : ClassId) (S : NS) (hI : n_ok (pN_rows S) S) : q_muV l yX7_deduce wsX7_deduce ({ frames := 4, cells := 0, slots := 0, locals := 108 }) D [(cJ, .long), (cI, .int), (cZ, .boolean)] (wN aN aIs aKd aNu aSg aVl aTs aTc cJ cI cZ S) [.ref aN] (fun u => u = (f_X7_deduce S)) (fun u => (wN aN aIs aKd aNu aSg aVl aTs aTc cJ cI cZ u)) := by
  refine q_muV_of (cc := cX7_deduce) (maxL := 2) (ret := none) (plainFor_of_name (by decide)) rfl (Nat.le_of_ble_eq_true rfl) ?_
  intro p e s m below meth c ls A hx hb hr hml hown hts hlocks hP hK hD hA hS hl
  have hown : s.vm.findClass RX7 = some m.cls := hown
  have hl : lv_has ls 2 [(0, .ref aN)] := hl
  have hfix : CallFix p m c cX7_deduce 2 s [.ref aN].toArray wsX7_deduce RX7 := ⟨hx, hb, hml, hown, hts⟩
  have hin4 : ∀ w ∈ wsX70, w ∈ wsX7_deduce := by decide +kernel
  refine lv_aload_n hx hb dX7_deduce_0 rfl (lv_at hl 0 rfl) ?_
  refine va_get (D := D) (ci := 4) (v := .int (pN_trouble S)) (C := RX7) (T := TX7) (N := 15) hx hb hts hin4 hown hK hP 0 rfl rfl 9 (by decide) (hts (.fieldLink RX7 114 "FieldTraceModel" "trouble" "I") (by decide +kernel)) (fun _ h9 => h9) rfl dX7_deduce_1 ?_
  refine lv_if_gt (tgt := 34) hx hb dX7_deduce_4 (by decide) (fun c1 => ?_) (fun c1 => ?_)
  · exact q_mv S hx hb hr hlocks hP hD hS (Eq.symm (by rw [f_X7_deduce, if_pos c1])) dX7_deduce_34
  · refine lv_aload_n hx hb dX7_deduce_7 rfl (lv_at hl 0 rfl) ?_
    refine lv_bipush (v := 44) hx hb dX7_deduce_8 (by decide) ?_
    refine q_callVi (As := [.int 44]) (rest := []) (q0 := 0) (ci := 4) (C := RX7) (c_X7_flag l D aN aIs aKd aNu aSg aVl aTs aTc cJ cI cZ S 44) hfix (cwV 1 hts gX7_deduce_X7_flag rfl rfl rfl (by decide +kernel) ⟨Nat.le_of_ble_eq_true rfl, Nat.le_of_ble_eq_true rfl⟩) rfl hl.1 rfl (Nat.le_of_ble_eq_true rfl) ⟨Nat.zero_le _, Nat.zero_le _⟩ hP hK hS hA [0, 1, 2, 3, 4, 5, 6, 7] [0, 1, 2] rfl rfl rfl rfl rfl dX7_deduce_10 (fun H locs hP hS => ?_)
    refine lv_if_eq (tgt := 34) hx hb dX7_deduce_13 (by decide) (fun c2 => ?_) (fun c2 => ?_)
    · exact q_mv S hx hb hr hlocks hP hD hS (Eq.symm (by rw [f_X7_deduce, if_neg c1, if_pos c2])) dX7_deduce_34
    · refine lv_aload_n hx hb dX7_deduce_16 rfl (lv_at hl 0 rfl) ?_
      refine lv_bipush (v := 35) hx hb dX7_deduce_17 (by decide) ?_
      refine q_callVi (As := [.int 35]) (rest := []) (q0 := 0) (ci := 4) (C := RX7) (c_X7_flag l D aN aIs aKd aNu aSg aVl aTs aTc cJ cI cZ S 35) hfix (cwV 1 hts gX7_deduce_X7_flag rfl rfl rfl (by decide +kernel) ⟨Nat.le_of_ble_eq_true rfl, Nat.le_of_ble_eq_true rfl⟩) rfl hl.1 rfl (Nat.le_of_ble_eq_true rfl) ⟨Nat.zero_le _, Nat.zero_le _⟩ hP hK hS hA [0, 1, 2, 3, 4, 5, 6, 7] [0, 1, 2] rfl rfl rfl rfl rfl dX7_deduce_19 (fun H locs hP hS => ?_)
      have kJ35 : ∀ (H : Heap) (locs : List Loc) (ls : Array Slot), (f_X7_deduce S) = (f_X7_deduce_J35 S) → va_P D vwCl (wN aN aIs aKd aNu aSg aVl aTs aTc cJ cI cZ S) H → va_D A (wN aN aIs aKd aNu aSg aVl aTs aTc cJ cI cZ S) → va_S A s.heap H locs → lv_has ls 2 [(0, .ref aN)] → W p l e ({ frames := 4, cells := 0, slots := 0, locals := 108 }) s m [.ref aN].toArray below meth c H locs 0 0 (MQ below (va_Qv (fun u => u = (f_X7_deduce S)) (fun u t => va_P D vwCl ((fun u => (wN aN aIs aKd aNu aSg aVl aTs aTc cJ cI cZ u)) u) t.heap ∧ va_D A ((fun u => (wN aN aIs aKd aNu aSg aVl aTs aTc cJ cI cZ u)) u)) A) [.ref aN].toArray s 0 0 A) (F0 m 35 ls []) := by
        intro H locs ls hJ35 hP hD hS hl
        refine lv_aload_n hx hb dX7_deduce_35 rfl (lv_at hl 0 rfl) ?_
        refine lv_iconst (v := 3) hx hb dX7_deduce_36 (by decide) ?_
        refine q_callMv1 (As := [.int 3]) (rest := []) (wr := []) (Wn := (fun u => (wN aN aIs aKd aNu aSg aVl aTs aTc cJ cI cZ u))) (q0 := 0) (ci := 4) (C := RX7) (c_X7_read l D aN aIs aKd aNu aSg aVl aTs aTc cJ cI cZ S 3 (q_vi (by decide)) (hI.1 _)) hfix (cwV 1 hts gX7_deduce_X7_read rfl rfl rfl (by decide +kernel) ⟨Nat.le_of_ble_eq_true rfl, Nat.le_of_ble_eq_true rfl⟩) rfl hl.1 rfl (Nat.le_of_ble_eq_true rfl) ⟨Nat.zero_le _, Nat.zero_le _⟩ hP hK hD hS hA [0, 1, 2, 3, 4, 5, 6, 7] [] [0, 1, 2, 3, 4, 5, 6, 7] [0, 1, 2] rfl rfl rfl (by decide) (by decide) (by decide) (by decide) (fun _ => rfl) (fun _ => rfl) rfl rfl rfl rfl dX7_deduce_37 (fun H locs hP hD hS => ?_)
        have hP : va_P D vwCl (wN aN aIs aKd aNu aSg aVl aTs aTc cJ cI cZ (f_X7_read S 3)) H := hP
        have hD : va_D A (wN aN aIs aKd aNu aSg aVl aTs aTc cJ cI cZ (f_X7_read S 3)) := hD
        refine lv_aload_n hx hb dX7_deduce_40 rfl (lv_at hl 0 rfl) ?_
        refine va_get (D := D) (ci := 4) (v := .int (pN_there (f_X7_read S 3))) (C := RX7) (T := TX7) (N := 15) hx hb hts hin4 hown hK hP 0 rfl rfl 6 (by decide) (hts (.fieldLink RX7 57 "FieldTraceModel" "there" "Z") (by decide +kernel)) (fun _ h9 => h9) rfl dX7_deduce_41 ?_
        refine lv_if_ne (tgt := 48) hx hb dX7_deduce_44 (by decide) (fun c5 => ?_) (fun c5 => ?_)
        · refine lv_aload_n hx hb dX7_deduce_48 rfl (lv_at hl 0 rfl) ?_
          refine lv_bipush (v := 10) hx hb dX7_deduce_49 (by decide) ?_
          refine q_callMv1 (As := [.int 10]) (rest := []) (wr := []) (Wn := (fun u => (wN aN aIs aKd aNu aSg aVl aTs aTc cJ cI cZ u))) (q0 := 0) (ci := 4) (C := RX7) (c_X7_keep l D aN aIs aKd aNu aSg aVl aTs aTc cJ cI cZ (f_X7_read S 3) 10 (q_vi (by decide))) hfix (cwV 1 hts gX7_deduce_X7_keep rfl rfl rfl (by decide +kernel) ⟨Nat.le_of_ble_eq_true rfl, Nat.le_of_ble_eq_true rfl⟩) rfl hl.1 rfl (Nat.le_of_ble_eq_true rfl) ⟨Nat.zero_le _, Nat.zero_le _⟩ hP hK hD hS hA [0, 1, 2, 3, 4, 5, 6, 7] [] [0, 1, 2, 3, 4, 5, 6, 7] [0, 1, 2] rfl rfl rfl (by decide) (by decide) (by decide) (by decide) (fun _ => rfl) (fun _ => rfl) rfl rfl rfl rfl dX7_deduce_51 (fun H locs hP hD hS => ?_)
          have hP : va_P D vwCl (wN aN aIs aKd aNu aSg aVl aTs aTc cJ cI cZ (f_X7_keep (f_X7_read S 3) 10)) H := hP
          have hD : va_D A (wN aN aIs aKd aNu aSg aVl aTs aTc cJ cI cZ (f_X7_keep (f_X7_read S 3) 10)) := hD
          refine lv_aload_n hx hb dX7_deduce_54 rfl (lv_at hl 0 rfl) ?_
          refine lv_iconst (v := 5) hx hb dX7_deduce_55 (by decide) ?_
          refine q_callMv1 (As := [.int 5]) (rest := []) (wr := []) (Wn := (fun u => (wN aN aIs aKd aNu aSg aVl aTs aTc cJ cI cZ u))) (q0 := 0) (ci := 4) (C := RX7) (c_X7_read l D aN aIs aKd aNu aSg aVl aTs aTc cJ cI cZ (f_X7_keep (f_X7_read S 3) 10) 5 (q_vi (by decide)) ((ok_X7_keep (ok_X7_read hI)).1 _)) hfix (cwV 1 hts gX7_deduce_X7_read rfl rfl rfl (by decide +kernel) ⟨Nat.le_of_ble_eq_true rfl, Nat.le_of_ble_eq_true rfl⟩) rfl hl.1 rfl (Nat.le_of_ble_eq_true rfl) ⟨Nat.zero_le _, Nat.zero_le _⟩ hP hK hD hS hA [0, 1, 2, 3, 4, 5, 6, 7] [] [0, 1, 2, 3, 4, 5, 6, 7] [0, 1, 2] rfl rfl rfl (by decide) (by decide) (by decide) (by decide) (fun _ => rfl) (fun _ => rfl) rfl rfl rfl rfl dX7_deduce_56 (fun H locs hP hD hS => ?_)
          have hP : va_P D vwCl (wN aN aIs aKd aNu aSg aVl aTs aTc cJ cI cZ (f_X7_read (f_X7_keep (f_X7_read S 3) 10) 5)) H := hP
          have hD : va_D A (wN aN aIs aKd aNu aSg aVl aTs aTc cJ cI cZ (f_X7_read (f_X7_keep (f_X7_read S 3) 10) 5)) := hD
          refine lv_aload_n hx hb dX7_deduce_59 rfl (lv_at hl 0 rfl) ?_
          refine va_get (D := D) (ci := 4) (v := .int (pN_there (f_X7_read (f_X7_keep (f_X7_read S 3) 10) 5))) (C := RX7) (T := TX7) (N := 15) hx hb hts hin4 hown hK hP 0 rfl rfl 6 (by decide) (hts (.fieldLink RX7 57 "FieldTraceModel" "there" "Z") (by decide +kernel)) (fun _ h9 => h9) rfl dX7_deduce_60 ?_
          refine lv_istore_n (lv' := [(1, .int (pN_there (f_X7_read (f_X7_keep (f_X7_read S 3) 10) 5))), (0, .ref aN)]) hx hb dX7_deduce_63 rfl hl (by decide) rfl (fun ls hl => ?_)
          refine lv_iload_n hx hb dX7_deduce_64 rfl (lv_at hl 0 rfl) ?_
          have kJ74 : ∀ (S_74 : NS) (H : Heap) (locs : List Loc) (ls : Array Slot), n_ok (pN_rows S) S_74 → (f_X7_deduce S) = (f_X7_deduce_J74 S S_74) → va_P D vwCl (wN aN aIs aKd aNu aSg aVl aTs aTc cJ cI cZ S_74) H → va_D A (wN aN aIs aKd aNu aSg aVl aTs aTc cJ cI cZ S_74) → va_S A s.heap H locs → lv_has ls 2 [(0, .ref aN), (1, .int (pN_there (f_X7_read (f_X7_keep (f_X7_read S 3) 10) 5)))] → W p l e ({ frames := 4, cells := 0, slots := 0, locals := 108 }) s m [.ref aN].toArray below meth c H locs 0 0 (MQ below (va_Qv (fun u => u = (f_X7_deduce S)) (fun u t => va_P D vwCl ((fun u => (wN aN aIs aKd aNu aSg aVl aTs aTc cJ cI cZ u)) u) t.heap ∧ va_D A ((fun u => (wN aN aIs aKd aNu aSg aVl aTs aTc cJ cI cZ u)) u)) A) [.ref aN].toArray s 0 0 A) (F0 m 74 ls []) := by
            intro S_74 H locs ls hok_74 hJ74 hP hD hS hl
            refine lv_aload_n hx hb dX7_deduce_74 rfl (lv_at hl 0 rfl) ?_
            refine lv_iconst (v := 4) hx hb dX7_deduce_75 (by decide) ?_
            refine q_callMv1 (As := [.int 4]) (rest := []) (wr := []) (Wn := (fun u => (wN aN aIs aKd aNu aSg aVl aTs aTc cJ cI cZ u))) (q0 := 0) (ci := 4) (C := RX7) (c_X7_read l D aN aIs aKd aNu aSg aVl aTs aTc cJ cI cZ S_74 4 (q_vi (by decide)) (hok_74.1 _)) hfix (cwV 1 hts gX7_deduce_X7_read rfl rfl rfl (by decide +kernel) ⟨Nat.le_of_ble_eq_true rfl, Nat.le_of_ble_eq_true rfl⟩) rfl hl.1 rfl (Nat.le_of_ble_eq_true rfl) ⟨Nat.zero_le _, Nat.zero_le _⟩ hP hK hD hS hA [0, 1, 2, 3, 4, 5, 6, 7] [] [0, 1, 2, 3, 4, 5, 6, 7] [0, 1, 2] rfl rfl rfl (by decide) (by decide) (by decide) (by decide) (fun _ => rfl) (fun _ => rfl) rfl rfl rfl rfl dX7_deduce_76 (fun H locs hP hD hS => ?_)
            have hP : va_P D vwCl (wN aN aIs aKd aNu aSg aVl aTs aTc cJ cI cZ (f_X7_read S_74 4)) H := hP
            have hD : va_D A (wN aN aIs aKd aNu aSg aVl aTs aTc cJ cI cZ (f_X7_read S_74 4)) := hD
            refine lv_aload_n hx hb dX7_deduce_79 rfl (lv_at hl 0 rfl) ?_
            refine va_get (D := D) (ci := 4) (v := .int (pN_there (f_X7_read S_74 4))) (C := RX7) (T := TX7) (N := 15) hx hb hts hin4 hown hK hP 0 rfl rfl 6 (by decide) (hts (.fieldLink RX7 57 "FieldTraceModel" "there" "Z") (by decide +kernel)) (fun _ h9 => h9) rfl dX7_deduce_80 ?_
            refine lv_iload_n hx hb dX7_deduce_83 rfl (lv_at hl 1 rfl) ?_
            refine lv_icmp_ne (tgt := 88) hx hb dX7_deduce_84 (by decide) (fun c7 => ?_) (fun c7 => ?_)
            · refine lv_iload_n hx hb dX7_deduce_88 rfl (lv_at hl 1 rfl) ?_
              have kJ98 : ∀ (S_98 : NS) (H : Heap) (locs : List Loc) (ls : Array Slot), n_ok (pN_rows S) S_98 → (f_X7_deduce S) = (f_X7_deduce_J98 S S_98) → va_P D vwCl (wN aN aIs aKd aNu aSg aVl aTs aTc cJ cI cZ S_98) H → va_D A (wN aN aIs aKd aNu aSg aVl aTs aTc cJ cI cZ S_98) → va_S A s.heap H locs → lv_has ls 2 [(0, .ref aN), (1, .int (pN_there (f_X7_read (f_X7_keep (f_X7_read S 3) 10) 5)))] → W p l e ({ frames := 4, cells := 0, slots := 0, locals := 108 }) s m [.ref aN].toArray below meth c H locs 0 0 (MQ below (va_Qv (fun u => u = (f_X7_deduce S)) (fun u t => va_P D vwCl ((fun u => (wN aN aIs aKd aNu aSg aVl aTs aTc cJ cI cZ u)) u) t.heap ∧ va_D A ((fun u => (wN aN aIs aKd aNu aSg aVl aTs aTc cJ cI cZ u)) u)) A) [.ref aN].toArray s 0 0 A) (F0 m 98 ls []) := by
                intro S_98 H locs ls hok_98 hJ98 hP hD hS hl
                refine lv_aload_n hx hb dX7_deduce_98 rfl (lv_at hl 0 rfl) ?_
                refine lv_bipush (v := 36) hx hb dX7_deduce_99 (by decide) ?_
                refine q_callVi (As := [.int 36]) (rest := []) (q0 := 0) (ci := 4) (C := RX7) (c_X7_flag l D aN aIs aKd aNu aSg aVl aTs aTc cJ cI cZ S_98 36) hfix (cwV 1 hts gX7_deduce_X7_flag rfl rfl rfl (by decide +kernel) ⟨Nat.le_of_ble_eq_true rfl, Nat.le_of_ble_eq_true rfl⟩) rfl hl.1 rfl (Nat.le_of_ble_eq_true rfl) ⟨Nat.zero_le _, Nat.zero_le _⟩ hP hK hS hA [0, 1, 2, 3, 4, 5, 6, 7] [0, 1, 2] rfl rfl rfl rfl rfl dX7_deduce_101 (fun H locs hP hS => ?_)
                have kJ130 : ∀ (H : Heap) (locs : List Loc) (ls : Array Slot), (f_X7_deduce S) = (f_X7_deduce_J130 S S_98) → va_P D vwCl (wN aN aIs aKd aNu aSg aVl aTs aTc cJ cI cZ S_98) H → va_D A (wN aN aIs aKd aNu aSg aVl aTs aTc cJ cI cZ S_98) → va_S A s.heap H locs → lv_has ls 2 [(0, .ref aN), (1, .int (pN_there (f_X7_read (f_X7_keep (f_X7_read S 3) 10) 5)))] → W p l e ({ frames := 4, cells := 0, slots := 0, locals := 108 }) s m [.ref aN].toArray below meth c H locs 0 0 (MQ below (va_Qv (fun u => u = (f_X7_deduce S)) (fun u t => va_P D vwCl ((fun u => (wN aN aIs aKd aNu aSg aVl aTs aTc cJ cI cZ u)) u) t.heap ∧ va_D A ((fun u => (wN aN aIs aKd aNu aSg aVl aTs aTc cJ cI cZ u)) u)) A) [.ref aN].toArray s 0 0 A) (F0 m 130 ls []) := by
                  intro H locs ls hJ130 hP hD hS hl
                  refine lv_aload_n hx hb dX7_deduce_130 rfl (lv_at hl 0 rfl) ?_
                  refine lv_bipush (v := 35) hx hb dX7_deduce_131 (by decide) ?_
                  refine q_callVi (As := [.int 35]) (rest := []) (q0 := 0) (ci := 4) (C := RX7) (c_X7_flag l D aN aIs aKd aNu aSg aVl aTs aTc cJ cI cZ S_98 35) hfix (cwV 1 hts gX7_deduce_X7_flag rfl rfl rfl (by decide +kernel) ⟨Nat.le_of_ble_eq_true rfl, Nat.le_of_ble_eq_true rfl⟩) rfl hl.1 rfl (Nat.le_of_ble_eq_true rfl) ⟨Nat.zero_le _, Nat.zero_le _⟩ hP hK hS hA [0, 1, 2, 3, 4, 5, 6, 7] [0, 1, 2] rfl rfl rfl rfl rfl dX7_deduce_133 (fun H locs hP hS => ?_)
                  have kJ159 : ∀ (S_159 : NS) (H : Heap) (locs : List Loc) (ls : Array Slot), n_ok (pN_rows S) S_159 → (f_X7_deduce S) = (f_X7_deduce_J159 S S_159) → va_P D vwCl (wN aN aIs aKd aNu aSg aVl aTs aTc cJ cI cZ S_159) H → va_D A (wN aN aIs aKd aNu aSg aVl aTs aTc cJ cI cZ S_159) → va_S A s.heap H locs → lv_has ls 2 [(0, .ref aN), (1, .int (pN_there (f_X7_read (f_X7_keep (f_X7_read S 3) 10) 5)))] → W p l e ({ frames := 4, cells := 0, slots := 0, locals := 108 }) s m [.ref aN].toArray below meth c H locs 0 0 (MQ below (va_Qv (fun u => u = (f_X7_deduce S)) (fun u t => va_P D vwCl ((fun u => (wN aN aIs aKd aNu aSg aVl aTs aTc cJ cI cZ u)) u) t.heap ∧ va_D A ((fun u => (wN aN aIs aKd aNu aSg aVl aTs aTc cJ cI cZ u)) u)) A) [.ref aN].toArray s 0 0 A) (F0 m 159 ls []) := by
                    intro S_159 H locs ls hok_159 hJ159 hP hD hS hl
                    refine lv_aload_n hx hb dX7_deduce_159 rfl (lv_at hl 0 rfl) ?_
                    refine lv_bipush (v := 10) hx hb dX7_deduce_160 (by decide) ?_
                    refine q_callMv1 (As := [.int 10]) (rest := []) (wr := []) (Wn := (fun u => (wN aN aIs aKd aNu aSg aVl aTs aTc cJ cI cZ u))) (q0 := 0) (ci := 4) (C := RX7) (c_X7_sure l D aN aIs aKd aNu aSg aVl aTs aTc cJ cI cZ S_159 10 (q_vi (by decide))) hfix (cwV 1 hts gX7_deduce_X7_sure rfl rfl rfl (by decide +kernel) ⟨Nat.le_of_ble_eq_true rfl, Nat.le_of_ble_eq_true rfl⟩) rfl hl.1 rfl (Nat.le_of_ble_eq_true rfl) ⟨Nat.zero_le _, Nat.zero_le _⟩ hP hK hD hS hA [0, 1, 2, 3, 4, 5, 6, 7] [] [0, 1, 2, 3, 4, 5, 6, 7] [0, 1, 2] rfl rfl rfl (by decide) (by decide) (by decide) (by decide) (fun _ => rfl) (fun _ => rfl) rfl rfl rfl rfl dX7_deduce_162 (fun H locs hP hD hS => ?_)
                    have hP : va_P D vwCl (wN aN aIs aKd aNu aSg aVl aTs aTc cJ cI cZ (f_X7_sure S_159 10)) H := hP
                    have hD : va_D A (wN aN aIs aKd aNu aSg aVl aTs aTc cJ cI cZ (f_X7_sure S_159 10)) := hD
                    refine lv_aload_n hx hb dX7_deduce_165 rfl (lv_at hl 0 rfl) ?_
                    refine lv_iload_n hx hb dX7_deduce_166 rfl (lv_at hl 1 rfl) ?_
                    refine lv_if_eq (tgt := 174) hx hb dX7_deduce_167 (by decide) (fun c13 => ?_) (fun c13 => ?_)
                    · refine lv_iconst (v := 5) hx hb dX7_deduce_174 (by decide) ?_
                      refine lv_bipush (v := 10) hx hb dX7_deduce_175 (by decide) ?_
                      refine q_callMv1 (As := [.int 5, .int 10]) (rest := []) (wr := []) (Wn := (fun u => (wN aN aIs aKd aNu aSg aVl aTs aTc cJ cI cZ u))) (q0 := 0) (ci := 4) (C := RX7) (c_X7_store l D aN aIs aKd aNu aSg aVl aTs aTc cJ cI cZ (f_X7_sure S_159 10) 5 10 (q_vi (by decide)) (q_vi (by decide)) ((ok_X7_sure hok_159).1 _)) hfix (cwV 2 hts gX7_deduce_X7_store rfl rfl rfl (by decide +kernel) ⟨Nat.le_of_ble_eq_true rfl, Nat.le_of_ble_eq_true rfl⟩) rfl hl.1 rfl (Nat.le_of_ble_eq_true rfl) ⟨Nat.zero_le _, Nat.zero_le _⟩ hP hK hD hS hA [0, 1, 2, 3, 4, 5, 6, 7] [] [0, 1, 2, 3, 4, 5, 6, 7] [0, 1, 2] rfl rfl rfl (by decide) (by decide) (by decide) (by decide) (fun _ => rfl) (fun _ => rfl) rfl rfl rfl rfl dX7_deduce_177 (fun H locs hP hD hS => ?_)
                      have hP : va_P D vwCl (wN aN aIs aKd aNu aSg aVl aTs aTc cJ cI cZ (f_X7_store (f_X7_sure S_159 10) 5 10)) H := hP
                      have hD : va_D A (wN aN aIs aKd aNu aSg aVl aTs aTc cJ cI cZ (f_X7_store (f_X7_sure S_159 10) 5 10)) := hD
                      exact q_mv (f_X7_store (f_X7_sure S_159 10) 5 10) hx hb hr hlocks hP hD hS (Eq.symm (by rw [hJ159, f_X7_deduce_J159, if_pos c13])) dX7_deduce_180
                    · refine lv_iconst (v := 4) hx hb dX7_deduce_170 (by decide) ?_
                      refine lv_goto (tgt := 175) hx hb dX7_deduce_171 (by decide) ?_
                      refine lv_bipush (v := 10) hx hb dX7_deduce_175 (by decide) ?_
                      refine q_callMv1 (As := [.int 4, .int 10]) (rest := []) (wr := []) (Wn := (fun u => (wN aN aIs aKd aNu aSg aVl aTs aTc cJ cI cZ u))) (q0 := 0) (ci := 4) (C := RX7) (c_X7_store l D aN aIs aKd aNu aSg aVl aTs aTc cJ cI cZ (f_X7_sure S_159 10) 4 10 (q_vi (by decide)) (q_vi (by decide)) ((ok_X7_sure hok_159).1 _)) hfix (cwV 2 hts gX7_deduce_X7_store rfl rfl rfl (by decide +kernel) ⟨Nat.le_of_ble_eq_true rfl, Nat.le_of_ble_eq_true rfl⟩) rfl hl.1 rfl (Nat.le_of_ble_eq_true rfl) ⟨Nat.zero_le _, Nat.zero_le _⟩ hP hK hD hS hA [0, 1, 2, 3, 4, 5, 6, 7] [] [0, 1, 2, 3, 4, 5, 6, 7] [0, 1, 2] rfl rfl rfl (by decide) (by decide) (by decide) (by decide) (fun _ => rfl) (fun _ => rfl) rfl rfl rfl rfl dX7_deduce_177 (fun H locs hP hD hS => ?_)
                      have hP : va_P D vwCl (wN aN aIs aKd aNu aSg aVl aTs aTc cJ cI cZ (f_X7_store (f_X7_sure S_159 10) 4 10)) H := hP
                      have hD : va_D A (wN aN aIs aKd aNu aSg aVl aTs aTc cJ cI cZ (f_X7_store (f_X7_sure S_159 10) 4 10)) := hD
                      exact q_mv (f_X7_store (f_X7_sure S_159 10) 4 10) hx hb hr hlocks hP hD hS (Eq.symm (by rw [hJ159, f_X7_deduce_J159, if_neg c13])) dX7_deduce_180
                  refine lv_if_eq (tgt := 150) hx hb dX7_deduce_136 (by decide) (fun c12 => ?_) (fun c12 => ?_)
                  · refine lv_aload_n hx hb dX7_deduce_150 rfl (lv_at hl 0 rfl) ?_
                    refine lv_bipush (v := 10) hx hb dX7_deduce_151 (by decide) ?_
                    refine lv_bipush (v := 11) hx hb dX7_deduce_153 (by decide) ?_
                    refine lv_iconst (v := 1) hx hb dX7_deduce_155 (by decide) ?_
                    refine q_callMv1 (As := [.int 10, .int 11, .int 1]) (rest := []) (wr := []) (Wn := (fun u => (wN aN aIs aKd aNu aSg aVl aTs aTc cJ cI cZ u))) (q0 := 0) (ci := 4) (C := RX7) (c_X7_times l D aN aIs aKd aNu aSg aVl aTs aTc cJ cI cZ S_98 10 11 1 (q_vi (by decide)) (q_vi (by decide))) hfix (cwV 3 hts gX7_deduce_X7_times rfl rfl rfl (by decide +kernel) ⟨Nat.le_of_ble_eq_true rfl, Nat.le_of_ble_eq_true rfl⟩) rfl hl.1 rfl (Nat.le_of_ble_eq_true rfl) ⟨Nat.zero_le _, Nat.zero_le _⟩ hP hK hD hS hA [0, 1, 2, 3, 4, 5, 6, 7] [] [0, 1, 2, 3, 4, 5, 6, 7] [0, 1, 2] rfl rfl rfl (by decide) (by decide) (by decide) (by decide) (fun _ => rfl) (fun _ => rfl) rfl rfl rfl rfl dX7_deduce_156 (fun H locs hP hD hS => ?_)
                    have hP : va_P D vwCl (wN aN aIs aKd aNu aSg aVl aTs aTc cJ cI cZ (f_X7_times S_98 10 11 1)) H := hP
                    have hD : va_D A (wN aN aIs aKd aNu aSg aVl aTs aTc cJ cI cZ (f_X7_times S_98 10 11 1)) := hD
                    exact kJ159 (f_X7_times S_98 10 11 1) _ _ _ (ok_X7_times hok_98) (by rw [hJ130, f_X7_deduce_J130, if_pos c12]) hP hD hS (lv_sub hl [0, 1] rfl)
                  · refine lv_aload_n hx hb dX7_deduce_139 rfl (lv_at hl 0 rfl) ?_
                    refine lv_bipush (v := 10) hx hb dX7_deduce_140 (by decide) ?_
                    refine lv_bipush (v := 11) hx hb dX7_deduce_142 (by decide) ?_
                    refine q_callMv1 (As := [.int 10, .int 11]) (rest := []) (wr := []) (Wn := (fun u => (wN aN aIs aKd aNu aSg aVl aTs aTc cJ cI cZ u))) (q0 := 0) (ci := 4) (C := RX7) (c_X7_minus l D aN aIs aKd aNu aSg aVl aTs aTc cJ cI cZ S_98 10 11 (q_vi (by decide)) (q_vi (by decide))) hfix (cwV 2 hts gX7_deduce_X7_minus rfl rfl rfl (by decide +kernel) ⟨Nat.le_of_ble_eq_true rfl, Nat.le_of_ble_eq_true rfl⟩) rfl hl.1 rfl (Nat.le_of_ble_eq_true rfl) ⟨Nat.zero_le _, Nat.zero_le _⟩ hP hK hD hS hA [0, 1, 2, 3, 4, 5, 6, 7] [] [0, 1, 2, 3, 4, 5, 6, 7] [0, 1, 2] rfl rfl rfl (by decide) (by decide) (by decide) (by decide) (fun _ => rfl) (fun _ => rfl) rfl rfl rfl rfl dX7_deduce_144 (fun H locs hP hD hS => ?_)
                    have hP : va_P D vwCl (wN aN aIs aKd aNu aSg aVl aTs aTc cJ cI cZ (f_X7_minus S_98 10 11)) H := hP
                    have hD : va_D A (wN aN aIs aKd aNu aSg aVl aTs aTc cJ cI cZ (f_X7_minus S_98 10 11)) := hD
                    refine lv_goto (tgt := 159) hx hb dX7_deduce_147 (by decide) ?_
                    exact kJ159 (f_X7_minus S_98 10 11) _ _ _ (ok_X7_minus hok_98) (by rw [hJ130, f_X7_deduce_J130, if_neg c12]) hP hD hS (lv_sub hl [0, 1] rfl)
                refine lv_if_eq (tgt := 130) hx hb dX7_deduce_104 (by decide) (fun c9 => ?_) (fun c9 => ?_)
                · exact kJ130 _ _ _ (by rw [hJ98, f_X7_deduce_J98, if_pos c9]) hP hD hS (lv_sub hl [0, 1] rfl)
                · refine lv_aload_n hx hb dX7_deduce_107 rfl (lv_at hl 0 rfl) ?_
                  refine va_get (D := D) (ci := 4) (v := .ref aSg) (C := RX7) (T := TX7) (N := 15) hx hb hts hin4 hown hK hP 0 rfl rfl 4 (by decide) (hts (.fieldLink RX7 21 "FieldTraceModel" "segment" "[I") (by decide +kernel)) (fun _ h9 => h9) rfl dX7_deduce_108 ?_
                  refine lv_bipush (v := 11) hx hb dX7_deduce_111 (by decide) ?_
                  refine va_iald hx hb hK hP 4 1 rfl rfl (q_vi (by decide)) dX7_deduce_113 ?_
                  refine lv_if_ne (tgt := 130) hx hb dX7_deduce_114 (by decide) (fun c10 => ?_) (fun c10 => ?_)
                  · exact kJ130 _ _ _ (by rw [hJ98, f_X7_deduce_J98, if_neg c9, if_neg c10]) hP hD hS (lv_sub hl [0, 1] rfl)
                  · refine lv_aload_n hx hb dX7_deduce_117 rfl (lv_at hl 0 rfl) ?_
                    refine va_get (D := D) (ci := 4) (v := .ref aVl) (C := RX7) (T := TX7) (N := 15) hx hb hts hin4 hown hK hP 0 rfl rfl 5 (by decide) (hts (.fieldLink RX7 24 "FieldTraceModel" "value" "[J") (by decide +kernel)) (fun _ h9 => h9) rfl dX7_deduce_118 ?_
                    refine lv_bipush (v := 11) hx hb dX7_deduce_121 (by decide) ?_
                    refine va_lald hx hb hK hP 5 0 rfl rfl (q_vi (by decide)) dX7_deduce_123 ?_
                    refine lv_lconst (v := 0) hx hb dX7_deduce_124 (by decide) ?_
                    refine q_ne (tgt := 130) hx hb dX7_deduce_125 dX7_deduce_126 (by decide) (fun c11 => ?_) (fun c11 => ?_)
                    · exact kJ130 _ _ _ (by rw [hJ98, f_X7_deduce_J98, if_neg c9, if_pos c10, if_neg c11]) hP hD hS (lv_sub hl [0, 1] rfl)
                    · exact q_mv S_98 hx hb hr hlocks hP hD hS (Eq.symm (by rw [hJ98, f_X7_deduce_J98, if_neg c9, if_pos c10, if_pos c11])) dX7_deduce_129
              refine lv_if_ne (tgt := 98) hx hb dX7_deduce_89 (by decide) (fun c8 => ?_) (fun c8 => ?_)
              · exact kJ98 (f_X7_read S_74 4) _ _ _ (ok_X7_read hok_74) (by rw [hJ74, f_X7_deduce_J74, if_neg c7, if_neg c8]) hP hD hS (lv_sub hl [0, 1] rfl)
              · refine lv_aload_n hx hb dX7_deduce_92 rfl (lv_at hl 0 rfl) ?_
                refine lv_bipush (v := 11) hx hb dX7_deduce_93 (by decide) ?_
                refine q_callMv1 (As := [.int 11]) (rest := []) (wr := []) (Wn := (fun u => (wN aN aIs aKd aNu aSg aVl aTs aTc cJ cI cZ u))) (q0 := 0) (ci := 4) (C := RX7) (c_X7_keep l D aN aIs aKd aNu aSg aVl aTs aTc cJ cI cZ (f_X7_read S_74 4) 11 (q_vi (by decide))) hfix (cwV 1 hts gX7_deduce_X7_keep rfl rfl rfl (by decide +kernel) ⟨Nat.le_of_ble_eq_true rfl, Nat.le_of_ble_eq_true rfl⟩) rfl hl.1 rfl (Nat.le_of_ble_eq_true rfl) ⟨Nat.zero_le _, Nat.zero_le _⟩ hP hK hD hS hA [0, 1, 2, 3, 4, 5, 6, 7] [] [0, 1, 2, 3, 4, 5, 6, 7] [0, 1, 2] rfl rfl rfl (by decide) (by decide) (by decide) (by decide) (fun _ => rfl) (fun _ => rfl) rfl rfl rfl rfl dX7_deduce_95 (fun H locs hP hD hS => ?_)
                have hP : va_P D vwCl (wN aN aIs aKd aNu aSg aVl aTs aTc cJ cI cZ (f_X7_keep (f_X7_read S_74 4) 11)) H := hP
                have hD : va_D A (wN aN aIs aKd aNu aSg aVl aTs aTc cJ cI cZ (f_X7_keep (f_X7_read S_74 4) 11)) := hD
                exact kJ98 (f_X7_keep (f_X7_read S_74 4) 11) _ _ _ (ok_X7_keep (ok_X7_read hok_74)) (by rw [hJ74, f_X7_deduce_J74, if_neg c7, if_pos c8]) hP hD hS (lv_sub hl [0, 1] rfl)
            · exact q_mv (f_X7_read S_74 4) hx hb hr hlocks hP hD hS (Eq.symm (by rw [hJ74, f_X7_deduce_J74, if_pos c7])) dX7_deduce_87
          refine lv_if_eq (tgt := 74) hx hb dX7_deduce_65 (by decide) (fun c6 => ?_) (fun c6 => ?_)
          · exact kJ74 (f_X7_read (f_X7_keep (f_X7_read S 3) 10) 5) _ _ _ (ok_X7_read (ok_X7_keep (ok_X7_read hI))) (by rw [hJ35, f_X7_deduce_J35, if_neg c5, if_pos c6]) hP hD hS (lv_sub hl [1, 0] rfl)
          · refine lv_aload_n hx hb dX7_deduce_68 rfl (lv_at hl 1 rfl) ?_
            refine lv_bipush (v := 11) hx hb dX7_deduce_69 (by decide) ?_
            refine q_callMv1 (As := [.int 11]) (rest := []) (wr := []) (Wn := (fun u => (wN aN aIs aKd aNu aSg aVl aTs aTc cJ cI cZ u))) (q0 := 0) (ci := 4) (C := RX7) (c_X7_keep l D aN aIs aKd aNu aSg aVl aTs aTc cJ cI cZ (f_X7_read (f_X7_keep (f_X7_read S 3) 10) 5) 11 (q_vi (by decide))) hfix (cwV 1 hts gX7_deduce_X7_keep rfl rfl rfl (by decide +kernel) ⟨Nat.le_of_ble_eq_true rfl, Nat.le_of_ble_eq_true rfl⟩) rfl hl.1 rfl (Nat.le_of_ble_eq_true rfl) ⟨Nat.zero_le _, Nat.zero_le _⟩ hP hK hD hS hA [0, 1, 2, 3, 4, 5, 6, 7] [] [0, 1, 2, 3, 4, 5, 6, 7] [0, 1, 2] rfl rfl rfl (by decide) (by decide) (by decide) (by decide) (fun _ => rfl) (fun _ => rfl) rfl rfl rfl rfl dX7_deduce_71 (fun H locs hP hD hS => ?_)
            have hP : va_P D vwCl (wN aN aIs aKd aNu aSg aVl aTs aTc cJ cI cZ (f_X7_keep (f_X7_read (f_X7_keep (f_X7_read S 3) 10) 5) 11)) H := hP
            have hD : va_D A (wN aN aIs aKd aNu aSg aVl aTs aTc cJ cI cZ (f_X7_keep (f_X7_read (f_X7_keep (f_X7_read S 3) 10) 5) 11)) := hD
            exact kJ74 (f_X7_keep (f_X7_read (f_X7_keep (f_X7_read S 3) 10) 5) 11) _ _ _ (ok_X7_keep (ok_X7_read (ok_X7_keep (ok_X7_read hI)))) (by rw [hJ35, f_X7_deduce_J35, if_neg c5, if_neg c6]) hP hD hS (lv_sub hl [1, 0] rfl)
        · exact q_mv (f_X7_read S 3) hx hb hr hlocks hP hD hS (Eq.symm (by rw [hJ35, f_X7_deduce_J35, if_pos c5])) dX7_deduce_47
      refine lv_if_ne (tgt := 35) hx hb dX7_deduce_22 (by decide) (fun c3 => ?_) (fun c3 => ?_)
      · exact kJ35 _ _ _ (by rw [f_X7_deduce, if_neg c1, if_neg c2, if_neg c3]) hP hD hS (lv_sub hl [0] rfl)
      · refine lv_aload_n hx hb dX7_deduce_25 rfl (lv_at hl 0 rfl) ?_
        refine lv_bipush (v := 36) hx hb dX7_deduce_26 (by decide) ?_
        refine q_callVi (As := [.int 36]) (rest := []) (q0 := 0) (ci := 4) (C := RX7) (c_X7_flag l D aN aIs aKd aNu aSg aVl aTs aTc cJ cI cZ S 36) hfix (cwV 1 hts gX7_deduce_X7_flag rfl rfl rfl (by decide +kernel) ⟨Nat.le_of_ble_eq_true rfl, Nat.le_of_ble_eq_true rfl⟩) rfl hl.1 rfl (Nat.le_of_ble_eq_true rfl) ⟨Nat.zero_le _, Nat.zero_le _⟩ hP hK hS hA [0, 1, 2, 3, 4, 5, 6, 7] [0, 1, 2] rfl rfl rfl rfl rfl dX7_deduce_28 (fun H locs hP hS => ?_)
        refine lv_if_ne (tgt := 35) hx hb dX7_deduce_31 (by decide) (fun c4 => ?_) (fun c4 => ?_)
        · exact kJ35 _ _ _ (by rw [f_X7_deduce, if_neg c1, if_neg c2, if_pos c3, if_neg c4]) hP hD hS (lv_sub hl [0] rfl)
        · exact q_mv S hx hb hr hlocks hP hD hS (Eq.symm (by rw [f_X7_deduce, if_neg c1, if_neg c2, if_pos c3, if_pos c4])) dX7_deduce_34

theorem ok_f_X7_deduce_J159 {R : Int32} {S : NS} {S_159 : NS} (hok_159 : n_ok R S_159) : n_ok R (f_X7_deduce_J159 S S_159) := by
  unfold f_X7_deduce_J159
  exact ok_ite (P := fun x => n_ok R x) ((ok_X7_store (ok_X7_sure hok_159))) ((ok_X7_store (ok_X7_sure hok_159)))

theorem ok_f_X7_deduce_J130 {R : Int32} {S : NS} {S_98 : NS} (hok_98 : n_ok R S_98) : n_ok R (f_X7_deduce_J130 S S_98) := by
  unfold f_X7_deduce_J130
  exact ok_ite (P := fun x => n_ok R x) (ok_f_X7_deduce_J159 (ok_X7_times hok_98)) (ok_f_X7_deduce_J159 (ok_X7_minus hok_98))

theorem ok_f_X7_deduce_J98 {R : Int32} {S : NS} {S_98 : NS} (hok_98 : n_ok R S_98) : n_ok R (f_X7_deduce_J98 S S_98) := by
  unfold f_X7_deduce_J98
  exact ok_ite (P := fun x => n_ok R x) (ok_f_X7_deduce_J130 hok_98) (ok_ite (P := fun x => n_ok R x) (ok_ite (P := fun x => n_ok R x) (hok_98) (ok_f_X7_deduce_J130 hok_98)) (ok_f_X7_deduce_J130 hok_98))

theorem ok_f_X7_deduce_J74 {R : Int32} {S : NS} {S_74 : NS} (hok_74 : n_ok R S_74) : n_ok R (f_X7_deduce_J74 S S_74) := by
  unfold f_X7_deduce_J74
  exact ok_ite (P := fun x => n_ok R x) ((ok_X7_read hok_74)) (ok_ite (P := fun x => n_ok R x) (ok_f_X7_deduce_J98 (ok_X7_keep (ok_X7_read hok_74))) (ok_f_X7_deduce_J98 (ok_X7_read hok_74)))

theorem ok_f_X7_deduce_J35 {R : Int32} {S : NS} (hI : n_ok R S) : n_ok R (f_X7_deduce_J35 S) := by
  unfold f_X7_deduce_J35
  exact ok_ite (P := fun x => n_ok R x) ((ok_X7_read hI)) (ok_ite (P := fun x => n_ok R x) (ok_f_X7_deduce_J74 (ok_X7_read (ok_X7_keep (ok_X7_read hI)))) (ok_f_X7_deduce_J74 (ok_X7_keep (ok_X7_read (ok_X7_keep (ok_X7_read hI))))))

theorem ok_X7_deduce {R : Int32} {S : NS} (hI : n_ok R S) : n_ok R (f_X7_deduce S) := by
  unfold f_X7_deduce
  exact ok_ite (P := fun x => n_ok R x) (hI) (ok_ite (P := fun x => n_ok R x) (hI) (ok_ite (P := fun x => n_ok R x) (ok_ite (P := fun x => n_ok R x) (hI) (ok_f_X7_deduce_J35 hI)) (ok_f_X7_deduce_J35 hI)))

def f_X7_result_J100 (t0_67 : Int32) (S_83 : NS) (t0_100 : Int32) : NS :=
  (if t0_67 = 0 then (f_X7_sure (f_X7_needed S_83 5) t0_100) else (if (pN_trouble (f_X7_sure (f_X7_needed S_83 5) t0_100)) ≤ 0 then (if (f_X7_flag (f_X7_sure (f_X7_needed S_83 5) t0_100) 35) = 0 then (f_X7_sure (f_X7_times (f_X7_sure (f_X7_needed S_83 5) t0_100) 10 11 0) 6) else (f_X7_sure (f_X7_plus (f_X7_sure (f_X7_needed S_83 5) t0_100) 10 11) 6)) else (f_X7_sure (f_X7_needed S_83 5) t0_100)))

def f_X7_result_J83 (t0_67 : Int32) (S_83 : NS) : NS :=
  (if t0_67 = 0 then (f_X7_result_J100 t0_67 S_83 6) else (f_X7_result_J100 t0_67 S_83 11))

def f_X7_result_J67 (S : NS) (t0_67 : Int32) : NS :=
  (if t0_67 = 0 then (f_X7_result_J83 t0_67 S) else (f_X7_result_J83 t0_67 (f_X7_sure (f_X7_needed S 4) 10)))

def f_X7_result_J62 (S : NS) : NS :=
  (f_X7_result_J67 S 1)

def f_X7_result_J44 (S : NS) : NS :=
  (if (f_X7_flag S 35) = 0 then (if (f_X7_flag S 36) = 0 then (f_X7_result_J67 S 0) else (f_X7_result_J62 S)) else (f_X7_result_J62 S))

def f_X7_result (S : NS) : NS :=
  (if 0 < (pN_trouble S) then S else (if (f_X7_flag S 44) = 0 then (if (f_X7_flag S 37) = 0 then (if (f_X7_flag S 38) = 0 then (if (f_X7_flag S 40) = 0 then S else (f_X7_result_J44 S)) else (f_X7_result_J44 S)) else (f_X7_result_J44 S)) else (f_X7_result_J44 S)))

set_option maxHeartbeats 4000000 in
set_option maxRecDepth 100000 in
theorem c_X7_result (l : Launch) (D : va_G) (aN aIs aKd aNu aSg aVl aTs aTc : Nat) (cJ cI cZ : ClassId) (S : NS) (hI : n_ok (pN_rows S) S) : q_muV l yX7_result wsX7_result ({ frames := 4, cells := 0, slots := 0, locals := 108 }) D [(cJ, .long), (cI, .int), (cZ, .boolean)] (wN aN aIs aKd aNu aSg aVl aTs aTc cJ cI cZ S) [.ref aN] (fun u => u = (f_X7_result S)) (fun u => (wN aN aIs aKd aNu aSg aVl aTs aTc cJ cI cZ u)) := by
  refine q_muV_of (cc := cX7_result) (maxL := 2) (ret := none) (plainFor_of_name (by decide)) rfl (Nat.le_of_ble_eq_true rfl) ?_
  intro p e s m below meth c ls A hx hb hr hml hown hts hlocks hP hK hD hA hS hl
  have hown : s.vm.findClass RX7 = some m.cls := hown
  have hl : lv_has ls 2 [(0, .ref aN)] := hl
  have hfix : CallFix p m c cX7_result 2 s [.ref aN].toArray wsX7_result RX7 := ⟨hx, hb, hml, hown, hts⟩
  have hin4 : ∀ w ∈ wsX70, w ∈ wsX7_result := by decide +kernel
  refine lv_aload_n hx hb dX7_result_0 rfl (lv_at hl 0 rfl) ?_
  refine va_get (D := D) (ci := 4) (v := .int (pN_trouble S)) (C := RX7) (T := TX7) (N := 15) hx hb hts hin4 hown hK hP 0 rfl rfl 9 (by decide) (hts (.fieldLink RX7 114 "FieldTraceModel" "trouble" "I") (by decide +kernel)) (fun _ h9 => h9) rfl dX7_result_1 ?_
  refine lv_if_gt (tgt := 43) hx hb dX7_result_4 (by decide) (fun c1 => ?_) (fun c1 => ?_)
  · exact q_mv S hx hb hr hlocks hP hD hS (Eq.symm (by rw [f_X7_result, if_pos c1])) dX7_result_43
  · refine lv_aload_n hx hb dX7_result_7 rfl (lv_at hl 0 rfl) ?_
    refine lv_bipush (v := 44) hx hb dX7_result_8 (by decide) ?_
    refine q_callVi (As := [.int 44]) (rest := []) (q0 := 0) (ci := 4) (C := RX7) (c_X7_flag l D aN aIs aKd aNu aSg aVl aTs aTc cJ cI cZ S 44) hfix (cwV 1 hts gX7_result_X7_flag rfl rfl rfl (by decide +kernel) ⟨Nat.le_of_ble_eq_true rfl, Nat.le_of_ble_eq_true rfl⟩) rfl hl.1 rfl (Nat.le_of_ble_eq_true rfl) ⟨Nat.zero_le _, Nat.zero_le _⟩ hP hK hS hA [0, 1, 2, 3, 4, 5, 6, 7] [0, 1, 2] rfl rfl rfl rfl rfl dX7_result_10 (fun H locs hP hS => ?_)
    have kJ44 : ∀ (H : Heap) (locs : List Loc) (ls : Array Slot), (f_X7_result S) = (f_X7_result_J44 S) → va_P D vwCl (wN aN aIs aKd aNu aSg aVl aTs aTc cJ cI cZ S) H → va_D A (wN aN aIs aKd aNu aSg aVl aTs aTc cJ cI cZ S) → va_S A s.heap H locs → lv_has ls 2 [(0, .ref aN)] → W p l e ({ frames := 4, cells := 0, slots := 0, locals := 108 }) s m [.ref aN].toArray below meth c H locs 0 0 (MQ below (va_Qv (fun u => u = (f_X7_result S)) (fun u t => va_P D vwCl ((fun u => (wN aN aIs aKd aNu aSg aVl aTs aTc cJ cI cZ u)) u) t.heap ∧ va_D A ((fun u => (wN aN aIs aKd aNu aSg aVl aTs aTc cJ cI cZ u)) u)) A) [.ref aN].toArray s 0 0 A) (F0 m 44 ls []) := by
      intro H locs ls hJ44 hP hD hS hl
      refine lv_aload_n hx hb dX7_result_44 rfl (lv_at hl 0 rfl) ?_
      refine lv_bipush (v := 35) hx hb dX7_result_45 (by decide) ?_
      refine q_callVi (As := [.int 35]) (rest := []) (q0 := 0) (ci := 4) (C := RX7) (c_X7_flag l D aN aIs aKd aNu aSg aVl aTs aTc cJ cI cZ S 35) hfix (cwV 1 hts gX7_result_X7_flag rfl rfl rfl (by decide +kernel) ⟨Nat.le_of_ble_eq_true rfl, Nat.le_of_ble_eq_true rfl⟩) rfl hl.1 rfl (Nat.le_of_ble_eq_true rfl) ⟨Nat.zero_le _, Nat.zero_le _⟩ hP hK hS hA [0, 1, 2, 3, 4, 5, 6, 7] [0, 1, 2] rfl rfl rfl rfl rfl dX7_result_47 (fun H locs hP hS => ?_)
      have kJ67 : ∀ (t0_67 : Int32) (H : Heap) (locs : List Loc) (ls : Array Slot), (t0_67 = 0 ∨ t0_67 = 1) → (f_X7_result S) = (f_X7_result_J67 S t0_67) → va_P D vwCl (wN aN aIs aKd aNu aSg aVl aTs aTc cJ cI cZ S) H → va_D A (wN aN aIs aKd aNu aSg aVl aTs aTc cJ cI cZ S) → va_S A s.heap H locs → lv_has ls 2 [(0, .ref aN)] → W p l e ({ frames := 4, cells := 0, slots := 0, locals := 108 }) s m [.ref aN].toArray below meth c H locs 0 0 (MQ below (va_Qv (fun u => u = (f_X7_result S)) (fun u t => va_P D vwCl ((fun u => (wN aN aIs aKd aNu aSg aVl aTs aTc cJ cI cZ u)) u) t.heap ∧ va_D A ((fun u => (wN aN aIs aKd aNu aSg aVl aTs aTc cJ cI cZ u)) u)) A) [.ref aN].toArray s 0 0 A) (F0 m 67 ls [.int t0_67]) := by
        intro t0_67 H locs ls hb_t0_67 hJ67 hP hD hS hl
        refine lv_istore_n (lv' := [(1, .int t0_67), (0, .ref aN)]) hx hb dX7_result_67 rfl hl (by decide) rfl (fun ls hl => ?_)
        refine lv_iload_n hx hb dX7_result_68 rfl (lv_at hl 0 rfl) ?_
        have kJ83 : ∀ (S_83 : NS) (H : Heap) (locs : List Loc) (ls : Array Slot), n_ok (pN_rows S) S_83 → (f_X7_result S) = (f_X7_result_J83 t0_67 S_83) → va_P D vwCl (wN aN aIs aKd aNu aSg aVl aTs aTc cJ cI cZ S_83) H → va_D A (wN aN aIs aKd aNu aSg aVl aTs aTc cJ cI cZ S_83) → va_S A s.heap H locs → lv_has ls 2 [(0, .ref aN), (1, .int t0_67)] → W p l e ({ frames := 4, cells := 0, slots := 0, locals := 108 }) s m [.ref aN].toArray below meth c H locs 0 0 (MQ below (va_Qv (fun u => u = (f_X7_result S)) (fun u t => va_P D vwCl ((fun u => (wN aN aIs aKd aNu aSg aVl aTs aTc cJ cI cZ u)) u) t.heap ∧ va_D A ((fun u => (wN aN aIs aKd aNu aSg aVl aTs aTc cJ cI cZ u)) u)) A) [.ref aN].toArray s 0 0 A) (F0 m 83 ls []) := by
          intro S_83 H locs ls hok_83 hJ83 hP hD hS hl
          refine lv_aload_n hx hb dX7_result_83 rfl (lv_at hl 0 rfl) ?_
          refine lv_iconst (v := 5) hx hb dX7_result_84 (by decide) ?_
          refine q_callMv1 (As := [.int 5]) (rest := []) (wr := []) (Wn := (fun u => (wN aN aIs aKd aNu aSg aVl aTs aTc cJ cI cZ u))) (q0 := 0) (ci := 4) (C := RX7) (c_X7_needed l D aN aIs aKd aNu aSg aVl aTs aTc cJ cI cZ S_83 5 (q_vi (by decide)) (hok_83.1 _)) hfix (cwV 1 hts gX7_result_X7_needed rfl rfl rfl (by decide +kernel) ⟨Nat.le_of_ble_eq_true rfl, Nat.le_of_ble_eq_true rfl⟩) rfl hl.1 rfl (Nat.le_of_ble_eq_true rfl) ⟨Nat.zero_le _, Nat.zero_le _⟩ hP hK hD hS hA [0, 1, 2, 3, 4, 5, 6, 7] [] [0, 1, 2, 3, 4, 5, 6, 7] [0, 1, 2] rfl rfl rfl (by decide) (by decide) (by decide) (by decide) (fun _ => rfl) (fun _ => rfl) rfl rfl rfl rfl dX7_result_85 (fun H locs hP hD hS => ?_)
          have hP : va_P D vwCl (wN aN aIs aKd aNu aSg aVl aTs aTc cJ cI cZ (f_X7_needed S_83 5)) H := hP
          have hD : va_D A (wN aN aIs aKd aNu aSg aVl aTs aTc cJ cI cZ (f_X7_needed S_83 5)) := hD
          refine lv_aload_n hx hb dX7_result_88 rfl (lv_at hl 0 rfl) ?_
          refine lv_iload_n hx hb dX7_result_89 rfl (lv_at hl 1 rfl) ?_
          have kJ100 : ∀ (t0_100 : Int32) (H : Heap) (locs : List Loc) (ls : Array Slot), (vp_in t0_100 13) → (f_X7_result S) = (f_X7_result_J100 t0_67 S_83 t0_100) → va_P D vwCl (wN aN aIs aKd aNu aSg aVl aTs aTc cJ cI cZ (f_X7_needed S_83 5)) H → va_D A (wN aN aIs aKd aNu aSg aVl aTs aTc cJ cI cZ (f_X7_needed S_83 5)) → va_S A s.heap H locs → lv_has ls 2 [(0, .ref aN), (1, .int t0_67)] → W p l e ({ frames := 4, cells := 0, slots := 0, locals := 108 }) s m [.ref aN].toArray below meth c H locs 0 0 (MQ below (va_Qv (fun u => u = (f_X7_result S)) (fun u t => va_P D vwCl ((fun u => (wN aN aIs aKd aNu aSg aVl aTs aTc cJ cI cZ u)) u) t.heap ∧ va_D A ((fun u => (wN aN aIs aKd aNu aSg aVl aTs aTc cJ cI cZ u)) u)) A) [.ref aN].toArray s 0 0 A) (F0 m 100 ls [.int t0_100, .ref aN]) := by
            intro t0_100 H locs ls hj_100 hJ100 hP hD hS hl
            refine q_callMv1 (As := [.int t0_100]) (rest := []) (wr := []) (Wn := (fun u => (wN aN aIs aKd aNu aSg aVl aTs aTc cJ cI cZ u))) (q0 := 0) (ci := 4) (C := RX7) (c_X7_sure l D aN aIs aKd aNu aSg aVl aTs aTc cJ cI cZ (f_X7_needed S_83 5) t0_100 (hj_100)) hfix (cwV 1 hts gX7_result_X7_sure rfl rfl rfl (by decide +kernel) ⟨Nat.le_of_ble_eq_true rfl, Nat.le_of_ble_eq_true rfl⟩) rfl hl.1 rfl (Nat.le_of_ble_eq_true rfl) ⟨Nat.zero_le _, Nat.zero_le _⟩ hP hK hD hS hA [0, 1, 2, 3, 4, 5, 6, 7] [] [0, 1, 2, 3, 4, 5, 6, 7] [0, 1, 2] rfl rfl rfl (by decide) (by decide) (by decide) (by decide) (fun _ => rfl) (fun _ => rfl) rfl rfl rfl rfl dX7_result_100 (fun H locs hP hD hS => ?_)
            have hP : va_P D vwCl (wN aN aIs aKd aNu aSg aVl aTs aTc cJ cI cZ (f_X7_sure (f_X7_needed S_83 5) t0_100)) H := hP
            have hD : va_D A (wN aN aIs aKd aNu aSg aVl aTs aTc cJ cI cZ (f_X7_sure (f_X7_needed S_83 5) t0_100)) := hD
            refine lv_iload_n hx hb dX7_result_103 rfl (lv_at hl 1 rfl) ?_
            refine lv_if_eq (tgt := 114) hx hb dX7_result_104 (by decide) (fun c10 => ?_) (fun c10 => ?_)
            · exact q_mv (f_X7_sure (f_X7_needed S_83 5) t0_100) hx hb hr hlocks hP hD hS (Eq.symm (by rw [hJ100, f_X7_result_J100, if_pos c10])) dX7_result_114
            · refine lv_aload_n hx hb dX7_result_107 rfl (lv_at hl 0 rfl) ?_
              refine va_get (D := D) (ci := 4) (v := .int (pN_trouble (f_X7_sure (f_X7_needed S_83 5) t0_100))) (C := RX7) (T := TX7) (N := 15) hx hb hts hin4 hown hK hP 0 rfl rfl 9 (by decide) (hts (.fieldLink RX7 114 "FieldTraceModel" "trouble" "I") (by decide +kernel)) (fun _ h9 => h9) rfl dX7_result_108 ?_
              refine lv_if_le (tgt := 115) hx hb dX7_result_111 (by decide) (fun c11 => ?_) (fun c11 => ?_)
              · refine lv_aload_n hx hb dX7_result_115 rfl (lv_at hl 0 rfl) ?_
                refine lv_bipush (v := 35) hx hb dX7_result_116 (by decide) ?_
                refine q_callVi (As := [.int 35]) (rest := []) (q0 := 0) (ci := 4) (C := RX7) (c_X7_flag l D aN aIs aKd aNu aSg aVl aTs aTc cJ cI cZ (f_X7_sure (f_X7_needed S_83 5) t0_100) 35) hfix (cwV 1 hts gX7_result_X7_flag rfl rfl rfl (by decide +kernel) ⟨Nat.le_of_ble_eq_true rfl, Nat.le_of_ble_eq_true rfl⟩) rfl hl.1 rfl (Nat.le_of_ble_eq_true rfl) ⟨Nat.zero_le _, Nat.zero_le _⟩ hP hK hS hA [0, 1, 2, 3, 4, 5, 6, 7] [0, 1, 2] rfl rfl rfl rfl rfl dX7_result_118 (fun H locs hP hS => ?_)
                refine lv_if_eq (tgt := 135) hx hb dX7_result_121 (by decide) (fun c12 => ?_) (fun c12 => ?_)
                · refine lv_aload_n hx hb dX7_result_135 rfl (lv_at hl 0 rfl) ?_
                  refine lv_bipush (v := 10) hx hb dX7_result_136 (by decide) ?_
                  refine lv_bipush (v := 11) hx hb dX7_result_138 (by decide) ?_
                  refine lv_iconst (v := 0) hx hb dX7_result_140 (by decide) ?_
                  refine q_callMv1 (As := [.int 10, .int 11, .int 0]) (rest := []) (wr := []) (Wn := (fun u => (wN aN aIs aKd aNu aSg aVl aTs aTc cJ cI cZ u))) (q0 := 0) (ci := 4) (C := RX7) (c_X7_times l D aN aIs aKd aNu aSg aVl aTs aTc cJ cI cZ (f_X7_sure (f_X7_needed S_83 5) t0_100) 10 11 0 (q_vi (by decide)) (q_vi (by decide))) hfix (cwV 3 hts gX7_result_X7_times rfl rfl rfl (by decide +kernel) ⟨Nat.le_of_ble_eq_true rfl, Nat.le_of_ble_eq_true rfl⟩) rfl hl.1 rfl (Nat.le_of_ble_eq_true rfl) ⟨Nat.zero_le _, Nat.zero_le _⟩ hP hK hD hS hA [0, 1, 2, 3, 4, 5, 6, 7] [] [0, 1, 2, 3, 4, 5, 6, 7] [0, 1, 2] rfl rfl rfl (by decide) (by decide) (by decide) (by decide) (fun _ => rfl) (fun _ => rfl) rfl rfl rfl rfl dX7_result_141 (fun H locs hP hD hS => ?_)
                  have hP : va_P D vwCl (wN aN aIs aKd aNu aSg aVl aTs aTc cJ cI cZ (f_X7_times (f_X7_sure (f_X7_needed S_83 5) t0_100) 10 11 0)) H := hP
                  have hD : va_D A (wN aN aIs aKd aNu aSg aVl aTs aTc cJ cI cZ (f_X7_times (f_X7_sure (f_X7_needed S_83 5) t0_100) 10 11 0)) := hD
                  refine lv_aload_n hx hb dX7_result_144 rfl (lv_at hl 0 rfl) ?_
                  refine lv_bipush (v := 6) hx hb dX7_result_145 (by decide) ?_
                  refine q_callMv1 (As := [.int 6]) (rest := []) (wr := []) (Wn := (fun u => (wN aN aIs aKd aNu aSg aVl aTs aTc cJ cI cZ u))) (q0 := 0) (ci := 4) (C := RX7) (c_X7_sure l D aN aIs aKd aNu aSg aVl aTs aTc cJ cI cZ (f_X7_times (f_X7_sure (f_X7_needed S_83 5) t0_100) 10 11 0) 6 (q_vi (by decide))) hfix (cwV 1 hts gX7_result_X7_sure rfl rfl rfl (by decide +kernel) ⟨Nat.le_of_ble_eq_true rfl, Nat.le_of_ble_eq_true rfl⟩) rfl hl.1 rfl (Nat.le_of_ble_eq_true rfl) ⟨Nat.zero_le _, Nat.zero_le _⟩ hP hK hD hS hA [0, 1, 2, 3, 4, 5, 6, 7] [] [0, 1, 2, 3, 4, 5, 6, 7] [0, 1, 2] rfl rfl rfl (by decide) (by decide) (by decide) (by decide) (fun _ => rfl) (fun _ => rfl) rfl rfl rfl rfl dX7_result_147 (fun H locs hP hD hS => ?_)
                  have hP : va_P D vwCl (wN aN aIs aKd aNu aSg aVl aTs aTc cJ cI cZ (f_X7_sure (f_X7_times (f_X7_sure (f_X7_needed S_83 5) t0_100) 10 11 0) 6)) H := hP
                  have hD : va_D A (wN aN aIs aKd aNu aSg aVl aTs aTc cJ cI cZ (f_X7_sure (f_X7_times (f_X7_sure (f_X7_needed S_83 5) t0_100) 10 11 0) 6)) := hD
                  exact q_mv (f_X7_sure (f_X7_times (f_X7_sure (f_X7_needed S_83 5) t0_100) 10 11 0) 6) hx hb hr hlocks hP hD hS (Eq.symm (by rw [hJ100, f_X7_result_J100, if_neg c10, if_pos c11, if_pos c12])) dX7_result_150
                · refine lv_aload_n hx hb dX7_result_124 rfl (lv_at hl 0 rfl) ?_
                  refine lv_bipush (v := 10) hx hb dX7_result_125 (by decide) ?_
                  refine lv_bipush (v := 11) hx hb dX7_result_127 (by decide) ?_
                  refine q_callMv1 (As := [.int 10, .int 11]) (rest := []) (wr := []) (Wn := (fun u => (wN aN aIs aKd aNu aSg aVl aTs aTc cJ cI cZ u))) (q0 := 0) (ci := 4) (C := RX7) (c_X7_plus l D aN aIs aKd aNu aSg aVl aTs aTc cJ cI cZ (f_X7_sure (f_X7_needed S_83 5) t0_100) 10 11 (q_vi (by decide)) (q_vi (by decide))) hfix (cwV 2 hts gX7_result_X7_plus rfl rfl rfl (by decide +kernel) ⟨Nat.le_of_ble_eq_true rfl, Nat.le_of_ble_eq_true rfl⟩) rfl hl.1 rfl (Nat.le_of_ble_eq_true rfl) ⟨Nat.zero_le _, Nat.zero_le _⟩ hP hK hD hS hA [0, 1, 2, 3, 4, 5, 6, 7] [] [0, 1, 2, 3, 4, 5, 6, 7] [0, 1, 2] rfl rfl rfl (by decide) (by decide) (by decide) (by decide) (fun _ => rfl) (fun _ => rfl) rfl rfl rfl rfl dX7_result_129 (fun H locs hP hD hS => ?_)
                  have hP : va_P D vwCl (wN aN aIs aKd aNu aSg aVl aTs aTc cJ cI cZ (f_X7_plus (f_X7_sure (f_X7_needed S_83 5) t0_100) 10 11)) H := hP
                  have hD : va_D A (wN aN aIs aKd aNu aSg aVl aTs aTc cJ cI cZ (f_X7_plus (f_X7_sure (f_X7_needed S_83 5) t0_100) 10 11)) := hD
                  refine lv_goto (tgt := 144) hx hb dX7_result_132 (by decide) ?_
                  refine lv_aload_n hx hb dX7_result_144 rfl (lv_at hl 0 rfl) ?_
                  refine lv_bipush (v := 6) hx hb dX7_result_145 (by decide) ?_
                  refine q_callMv1 (As := [.int 6]) (rest := []) (wr := []) (Wn := (fun u => (wN aN aIs aKd aNu aSg aVl aTs aTc cJ cI cZ u))) (q0 := 0) (ci := 4) (C := RX7) (c_X7_sure l D aN aIs aKd aNu aSg aVl aTs aTc cJ cI cZ (f_X7_plus (f_X7_sure (f_X7_needed S_83 5) t0_100) 10 11) 6 (q_vi (by decide))) hfix (cwV 1 hts gX7_result_X7_sure rfl rfl rfl (by decide +kernel) ⟨Nat.le_of_ble_eq_true rfl, Nat.le_of_ble_eq_true rfl⟩) rfl hl.1 rfl (Nat.le_of_ble_eq_true rfl) ⟨Nat.zero_le _, Nat.zero_le _⟩ hP hK hD hS hA [0, 1, 2, 3, 4, 5, 6, 7] [] [0, 1, 2, 3, 4, 5, 6, 7] [0, 1, 2] rfl rfl rfl (by decide) (by decide) (by decide) (by decide) (fun _ => rfl) (fun _ => rfl) rfl rfl rfl rfl dX7_result_147 (fun H locs hP hD hS => ?_)
                  have hP : va_P D vwCl (wN aN aIs aKd aNu aSg aVl aTs aTc cJ cI cZ (f_X7_sure (f_X7_plus (f_X7_sure (f_X7_needed S_83 5) t0_100) 10 11) 6)) H := hP
                  have hD : va_D A (wN aN aIs aKd aNu aSg aVl aTs aTc cJ cI cZ (f_X7_sure (f_X7_plus (f_X7_sure (f_X7_needed S_83 5) t0_100) 10 11) 6)) := hD
                  exact q_mv (f_X7_sure (f_X7_plus (f_X7_sure (f_X7_needed S_83 5) t0_100) 10 11) 6) hx hb hr hlocks hP hD hS (Eq.symm (by rw [hJ100, f_X7_result_J100, if_neg c10, if_pos c11, if_neg c12])) dX7_result_150
              · exact q_mv (f_X7_sure (f_X7_needed S_83 5) t0_100) hx hb hr hlocks hP hD hS (Eq.symm (by rw [hJ100, f_X7_result_J100, if_neg c10, if_neg c11])) dX7_result_114
          refine lv_if_eq (tgt := 98) hx hb dX7_result_90 (by decide) (fun c9 => ?_) (fun c9 => ?_)
          · refine lv_bipush (v := 6) hx hb dX7_result_98 (by decide) ?_
            exact kJ100 6 _ _ _ (q_vi (by decide)) (by rw [hJ83, f_X7_result_J83, if_pos c9]) hP hD hS (lv_sub hl [0, 1] rfl)
          · refine lv_bipush (v := 11) hx hb dX7_result_93 (by decide) ?_
            refine lv_goto (tgt := 100) hx hb dX7_result_95 (by decide) ?_
            exact kJ100 11 _ _ _ (q_vi (by decide)) (by rw [hJ83, f_X7_result_J83, if_neg c9]) hP hD hS (lv_sub hl [0, 1] rfl)
        refine lv_if_eq (tgt := 83) hx hb dX7_result_69 (by decide) (fun c8 => ?_) (fun c8 => ?_)
        · exact kJ83 S _ _ _ hI (by rw [hJ67, f_X7_result_J67, if_pos c8]) hP hD hS (lv_sub hl [1, 0] rfl)
        · refine lv_aload_n hx hb dX7_result_72 rfl (lv_at hl 1 rfl) ?_
          refine lv_iconst (v := 4) hx hb dX7_result_73 (by decide) ?_
          refine q_callMv1 (As := [.int 4]) (rest := []) (wr := []) (Wn := (fun u => (wN aN aIs aKd aNu aSg aVl aTs aTc cJ cI cZ u))) (q0 := 0) (ci := 4) (C := RX7) (c_X7_needed l D aN aIs aKd aNu aSg aVl aTs aTc cJ cI cZ S 4 (q_vi (by decide)) (hI.1 _)) hfix (cwV 1 hts gX7_result_X7_needed rfl rfl rfl (by decide +kernel) ⟨Nat.le_of_ble_eq_true rfl, Nat.le_of_ble_eq_true rfl⟩) rfl hl.1 rfl (Nat.le_of_ble_eq_true rfl) ⟨Nat.zero_le _, Nat.zero_le _⟩ hP hK hD hS hA [0, 1, 2, 3, 4, 5, 6, 7] [] [0, 1, 2, 3, 4, 5, 6, 7] [0, 1, 2] rfl rfl rfl (by decide) (by decide) (by decide) (by decide) (fun _ => rfl) (fun _ => rfl) rfl rfl rfl rfl dX7_result_74 (fun H locs hP hD hS => ?_)
          have hP : va_P D vwCl (wN aN aIs aKd aNu aSg aVl aTs aTc cJ cI cZ (f_X7_needed S 4)) H := hP
          have hD : va_D A (wN aN aIs aKd aNu aSg aVl aTs aTc cJ cI cZ (f_X7_needed S 4)) := hD
          refine lv_aload_n hx hb dX7_result_77 rfl (lv_at hl 1 rfl) ?_
          refine lv_bipush (v := 10) hx hb dX7_result_78 (by decide) ?_
          refine q_callMv1 (As := [.int 10]) (rest := []) (wr := []) (Wn := (fun u => (wN aN aIs aKd aNu aSg aVl aTs aTc cJ cI cZ u))) (q0 := 0) (ci := 4) (C := RX7) (c_X7_sure l D aN aIs aKd aNu aSg aVl aTs aTc cJ cI cZ (f_X7_needed S 4) 10 (q_vi (by decide))) hfix (cwV 1 hts gX7_result_X7_sure rfl rfl rfl (by decide +kernel) ⟨Nat.le_of_ble_eq_true rfl, Nat.le_of_ble_eq_true rfl⟩) rfl hl.1 rfl (Nat.le_of_ble_eq_true rfl) ⟨Nat.zero_le _, Nat.zero_le _⟩ hP hK hD hS hA [0, 1, 2, 3, 4, 5, 6, 7] [] [0, 1, 2, 3, 4, 5, 6, 7] [0, 1, 2] rfl rfl rfl (by decide) (by decide) (by decide) (by decide) (fun _ => rfl) (fun _ => rfl) rfl rfl rfl rfl dX7_result_80 (fun H locs hP hD hS => ?_)
          have hP : va_P D vwCl (wN aN aIs aKd aNu aSg aVl aTs aTc cJ cI cZ (f_X7_sure (f_X7_needed S 4) 10)) H := hP
          have hD : va_D A (wN aN aIs aKd aNu aSg aVl aTs aTc cJ cI cZ (f_X7_sure (f_X7_needed S 4) 10)) := hD
          exact kJ83 (f_X7_sure (f_X7_needed S 4) 10) _ _ _ (ok_X7_sure (ok_X7_needed hI)) (by rw [hJ67, f_X7_result_J67, if_neg c8]) hP hD hS (lv_sub hl [1, 0] rfl)
      have kJ62 : ∀ (H : Heap) (locs : List Loc) (ls : Array Slot), (f_X7_result S) = (f_X7_result_J62 S) → va_P D vwCl (wN aN aIs aKd aNu aSg aVl aTs aTc cJ cI cZ S) H → va_D A (wN aN aIs aKd aNu aSg aVl aTs aTc cJ cI cZ S) → va_S A s.heap H locs → lv_has ls 2 [(0, .ref aN)] → W p l e ({ frames := 4, cells := 0, slots := 0, locals := 108 }) s m [.ref aN].toArray below meth c H locs 0 0 (MQ below (va_Qv (fun u => u = (f_X7_result S)) (fun u t => va_P D vwCl ((fun u => (wN aN aIs aKd aNu aSg aVl aTs aTc cJ cI cZ u)) u) t.heap ∧ va_D A ((fun u => (wN aN aIs aKd aNu aSg aVl aTs aTc cJ cI cZ u)) u)) A) [.ref aN].toArray s 0 0 A) (F0 m 62 ls []) := by
        intro H locs ls hJ62 hP hD hS hl
        refine lv_iconst (v := 1) hx hb dX7_result_62 (by decide) ?_
        refine lv_goto (tgt := 67) hx hb dX7_result_63 (by decide) ?_
        exact kJ67 1 _ _ _ (Or.inr rfl) (by rw [hJ62, f_X7_result_J62]) hP hD hS (lv_sub hl [0] rfl)
      refine lv_if_ne (tgt := 62) hx hb dX7_result_50 (by decide) (fun c6 => ?_) (fun c6 => ?_)
      · exact kJ62 _ _ _ (by rw [hJ44, f_X7_result_J44, if_neg c6]) hP hD hS (lv_sub hl [0] rfl)
      · refine lv_aload_n hx hb dX7_result_53 rfl (lv_at hl 0 rfl) ?_
        refine lv_bipush (v := 36) hx hb dX7_result_54 (by decide) ?_
        refine q_callVi (As := [.int 36]) (rest := []) (q0 := 0) (ci := 4) (C := RX7) (c_X7_flag l D aN aIs aKd aNu aSg aVl aTs aTc cJ cI cZ S 36) hfix (cwV 1 hts gX7_result_X7_flag rfl rfl rfl (by decide +kernel) ⟨Nat.le_of_ble_eq_true rfl, Nat.le_of_ble_eq_true rfl⟩) rfl hl.1 rfl (Nat.le_of_ble_eq_true rfl) ⟨Nat.zero_le _, Nat.zero_le _⟩ hP hK hS hA [0, 1, 2, 3, 4, 5, 6, 7] [0, 1, 2] rfl rfl rfl rfl rfl dX7_result_56 (fun H locs hP hS => ?_)
        refine lv_if_eq (tgt := 66) hx hb dX7_result_59 (by decide) (fun c7 => ?_) (fun c7 => ?_)
        · refine lv_iconst (v := 0) hx hb dX7_result_66 (by decide) ?_
          exact kJ67 0 _ _ _ (Or.inl rfl) (by rw [hJ44, f_X7_result_J44, if_pos c6, if_pos c7]) hP hD hS (lv_sub hl [0] rfl)
        · exact kJ62 _ _ _ (by rw [hJ44, f_X7_result_J44, if_pos c6, if_neg c7]) hP hD hS (lv_sub hl [0] rfl)
    refine lv_if_ne (tgt := 44) hx hb dX7_result_13 (by decide) (fun c2 => ?_) (fun c2 => ?_)
    · exact kJ44 _ _ _ (by rw [f_X7_result, if_neg c1, if_neg c2]) hP hD hS (lv_sub hl [0] rfl)
    · refine lv_aload_n hx hb dX7_result_16 rfl (lv_at hl 0 rfl) ?_
      refine lv_bipush (v := 37) hx hb dX7_result_17 (by decide) ?_
      refine q_callVi (As := [.int 37]) (rest := []) (q0 := 0) (ci := 4) (C := RX7) (c_X7_flag l D aN aIs aKd aNu aSg aVl aTs aTc cJ cI cZ S 37) hfix (cwV 1 hts gX7_result_X7_flag rfl rfl rfl (by decide +kernel) ⟨Nat.le_of_ble_eq_true rfl, Nat.le_of_ble_eq_true rfl⟩) rfl hl.1 rfl (Nat.le_of_ble_eq_true rfl) ⟨Nat.zero_le _, Nat.zero_le _⟩ hP hK hS hA [0, 1, 2, 3, 4, 5, 6, 7] [0, 1, 2] rfl rfl rfl rfl rfl dX7_result_19 (fun H locs hP hS => ?_)
      refine lv_if_ne (tgt := 44) hx hb dX7_result_22 (by decide) (fun c3 => ?_) (fun c3 => ?_)
      · exact kJ44 _ _ _ (by rw [f_X7_result, if_neg c1, if_pos c2, if_neg c3]) hP hD hS (lv_sub hl [0] rfl)
      · refine lv_aload_n hx hb dX7_result_25 rfl (lv_at hl 0 rfl) ?_
        refine lv_bipush (v := 38) hx hb dX7_result_26 (by decide) ?_
        refine q_callVi (As := [.int 38]) (rest := []) (q0 := 0) (ci := 4) (C := RX7) (c_X7_flag l D aN aIs aKd aNu aSg aVl aTs aTc cJ cI cZ S 38) hfix (cwV 1 hts gX7_result_X7_flag rfl rfl rfl (by decide +kernel) ⟨Nat.le_of_ble_eq_true rfl, Nat.le_of_ble_eq_true rfl⟩) rfl hl.1 rfl (Nat.le_of_ble_eq_true rfl) ⟨Nat.zero_le _, Nat.zero_le _⟩ hP hK hS hA [0, 1, 2, 3, 4, 5, 6, 7] [0, 1, 2] rfl rfl rfl rfl rfl dX7_result_28 (fun H locs hP hS => ?_)
        refine lv_if_ne (tgt := 44) hx hb dX7_result_31 (by decide) (fun c4 => ?_) (fun c4 => ?_)
        · exact kJ44 _ _ _ (by rw [f_X7_result, if_neg c1, if_pos c2, if_pos c3, if_neg c4]) hP hD hS (lv_sub hl [0] rfl)
        · refine lv_aload_n hx hb dX7_result_34 rfl (lv_at hl 0 rfl) ?_
          refine lv_bipush (v := 40) hx hb dX7_result_35 (by decide) ?_
          refine q_callVi (As := [.int 40]) (rest := []) (q0 := 0) (ci := 4) (C := RX7) (c_X7_flag l D aN aIs aKd aNu aSg aVl aTs aTc cJ cI cZ S 40) hfix (cwV 1 hts gX7_result_X7_flag rfl rfl rfl (by decide +kernel) ⟨Nat.le_of_ble_eq_true rfl, Nat.le_of_ble_eq_true rfl⟩) rfl hl.1 rfl (Nat.le_of_ble_eq_true rfl) ⟨Nat.zero_le _, Nat.zero_le _⟩ hP hK hS hA [0, 1, 2, 3, 4, 5, 6, 7] [0, 1, 2] rfl rfl rfl rfl rfl dX7_result_37 (fun H locs hP hS => ?_)
          refine lv_if_ne (tgt := 44) hx hb dX7_result_40 (by decide) (fun c5 => ?_) (fun c5 => ?_)
          · exact kJ44 _ _ _ (by rw [f_X7_result, if_neg c1, if_pos c2, if_pos c3, if_pos c4, if_neg c5]) hP hD hS (lv_sub hl [0] rfl)
          · exact q_mv S hx hb hr hlocks hP hD hS (Eq.symm (by rw [f_X7_result, if_neg c1, if_pos c2, if_pos c3, if_pos c4, if_pos c5])) dX7_result_43

theorem ok_f_X7_result_J100 {R : Int32} {t0_67 : Int32} {S_83 : NS} {t0_100 : Int32} (hok_83 : n_ok R S_83) : n_ok R (f_X7_result_J100 t0_67 S_83 t0_100) := by
  unfold f_X7_result_J100
  exact ok_ite (P := fun x => n_ok R x) ((ok_X7_sure (ok_X7_needed hok_83))) (ok_ite (P := fun x => n_ok R x) (ok_ite (P := fun x => n_ok R x) ((ok_X7_sure (ok_X7_times (ok_X7_sure (ok_X7_needed hok_83))))) ((ok_X7_sure (ok_X7_plus (ok_X7_sure (ok_X7_needed hok_83)))))) ((ok_X7_sure (ok_X7_needed hok_83))))

theorem ok_f_X7_result_J83 {R : Int32} {t0_67 : Int32} {S_83 : NS} (hok_83 : n_ok R S_83) : n_ok R (f_X7_result_J83 t0_67 S_83) := by
  unfold f_X7_result_J83
  exact ok_ite (P := fun x => n_ok R x) (ok_f_X7_result_J100 hok_83) (ok_f_X7_result_J100 hok_83)

theorem ok_f_X7_result_J67 {R : Int32} {S : NS} {t0_67 : Int32} (hI : n_ok R S) : n_ok R (f_X7_result_J67 S t0_67) := by
  unfold f_X7_result_J67
  exact ok_ite (P := fun x => n_ok R x) (ok_f_X7_result_J83 hI) (ok_f_X7_result_J83 (ok_X7_sure (ok_X7_needed hI)))

theorem ok_f_X7_result_J62 {R : Int32} {S : NS} (hI : n_ok R S) : n_ok R (f_X7_result_J62 S) := by
  unfold f_X7_result_J62
  exact ok_f_X7_result_J67 hI

theorem ok_f_X7_result_J44 {R : Int32} {S : NS} (hI : n_ok R S) : n_ok R (f_X7_result_J44 S) := by
  unfold f_X7_result_J44
  exact ok_ite (P := fun x => n_ok R x) (ok_ite (P := fun x => n_ok R x) (ok_f_X7_result_J67 hI) (ok_f_X7_result_J62 hI)) (ok_f_X7_result_J62 hI)

theorem ok_X7_result {R : Int32} {S : NS} (hI : n_ok R S) : n_ok R (f_X7_result S) := by
  unfold f_X7_result
  exact ok_ite (P := fun x => n_ok R x) (hI) (ok_ite (P := fun x => n_ok R x) (ok_ite (P := fun x => n_ok R x) (ok_ite (P := fun x => n_ok R x) (ok_ite (P := fun x => n_ok R x) (hI) (ok_f_X7_result_J44 hI)) (ok_f_X7_result_J44 hI)) (ok_f_X7_result_J44 hI)) (ok_f_X7_result_J44 hI))

