
theorem n_cel {v : Int64} (h : ¬ f_X7_isCell v = 0) : vp_in v.toInt32 64 := by
  unfold f_X7_isCell at h
  by_cases h1 : v < 0
  · simp [h1] at h
  · by_cases h2 : 64 ≤ v
    · simp [h1, h2] at h
    · have g1 := q_nltL h1
      have g2 := q_nleL h2
      rw [show (0 : Int64).toInt = 0 from rfl] at g1
      rw [show (64 : Int64).toInt = 64 from rfl] at g2
      obtain ⟨k, hk, rfl⟩ := pk_lOf h1
      rw [pk_lT hk] at g2
      rw [lN_i]
      exact vp_in_nI (by omega) (by decide)
/-- what the reference's state keeps to; R: how many rows -/
def n_ok (R : Int32) (S : NS) : Prop := (∀ j, vp_in (pN_segment S j) 6) ∧ (∀ j, vp_in (pN_kind S j) 6) ∧ vp_in (pN_gotKind S) 6 ∧ (∀ j, vp_in (pN_traceSegment S j) 6) ∧ pN_rows S = R
theorem n_upd {f : Nat → Int32} {k : Nat} {x : Int32} (hf : ∀ j, vp_in (f j) 6) (hx : vp_in x 6) : ∀ j, vp_in (upd f k x j) 6 := fun j => by
  unfold upd
  split
  · exact hx
  · exact hf j

theorem ok_p_thrown {R : Int32} {S : NS} {v : Int32} (h : n_ok R S) : n_ok R (sN_thrown S v) := ⟨h.1, h.2.1, h.2.2.1, h.2.2.2.1, h.2.2.2.2⟩
theorem ok_p_there {R : Int32} {S : NS} {v : Int32} (h : n_ok R S) : n_ok R (sN_there S v) := ⟨h.1, h.2.1, h.2.2.1, h.2.2.2.1, h.2.2.2.2⟩
theorem ok_p_got {R : Int32} {S : NS} {v : Int64} (h : n_ok R S) : n_ok R (sN_got S v) := ⟨h.1, h.2.1, h.2.2.1, h.2.2.2.1, h.2.2.2.2⟩
theorem ok_p_trouble {R : Int32} {S : NS} {v : Int32} (h : n_ok R S) : n_ok R (sN_trouble S v) := ⟨h.1, h.2.1, h.2.2.1, h.2.2.2.1, h.2.2.2.2⟩
theorem ok_p_failure {R : Int32} {S : NS} {v : Int32} (h : n_ok R S) : n_ok R (sN_failure S v) := ⟨h.1, h.2.1, h.2.2.1, h.2.2.2.1, h.2.2.2.2⟩
theorem ok_p_word {R : Int32} {S : NS} {v : Int64} (h : n_ok R S) : n_ok R (sN_word S v) := ⟨h.1, h.2.1, h.2.2.1, h.2.2.2.1, h.2.2.2.2⟩
theorem ok_ite {T : Type} {c : Prop} [Decidable c] {a b : T} {P : T → Prop} (h1 : P a) (h2 : P b) : P (if c then a else b) := by split <;> assumption
theorem n_self {R : Int32} {S : NS} (h : n_ok R S) : n_ok (pN_rows S) S := ⟨h.1, h.2.1, h.2.2.1, h.2.2.2.1, rfl⟩

def f_X7_thrown (S : NS) : Int32 :=
  (pN_thrown S)

set_option maxHeartbeats 4000000 in
set_option maxRecDepth 100000 in
theorem c_X7_thrown (l : Launch) (D : va_G) (aN aIs aKd aNu aSg aVl aTs aTc : Nat) (cJ cI cZ : ClassId) (S : NS) : q_roI l yX7_thrown wsX7_thrown ({ frames := 0, cells := 0, slots := 0, locals := 0 }) D [(cJ, .long), (cI, .int), (cZ, .boolean)] (wN aN aIs aKd aNu aSg aVl aTs aTc cJ cI cZ S) [.ref aN] (f_X7_thrown S) := by
  refine q_roI_of (cc := cX7_thrown) (maxL := 1) (ret := (some .int)) (plainFor_of_name (by decide)) rfl (Nat.le_of_ble_eq_true rfl) ?_
  intro p e s m below meth c ls A hx hb hr hml hown hts hlocks hP hK hA hS hl
  have hown : s.vm.findClass RX7 = some m.cls := hown
  have hl : lv_has ls 1 [(0, .ref aN)] := hl
  have hin4 : ∀ w ∈ wsX70, w ∈ wsX7_thrown := by decide +kernel
  refine lv_aload_n hx hb dX7_thrown_0 rfl (lv_at hl 0 rfl) ?_
  refine va_get (D := D) (ci := 4) (v := .int (pN_thrown S)) (C := RX7) (T := TX7) (N := 15) hx hb hts hin4 hown hK hP 0 rfl rfl 0 (by decide) (hts (.fieldLink RX7 33 "FieldTraceModel" "thrown" "I") (by decide +kernel)) (fun _ h9 => h9) rfl dX7_thrown_1 ?_
  exact q_ri hx hb hr hlocks hS (Eq.symm (by rw [f_X7_thrown])) dX7_thrown_4

def f_X7_throwing (S : NS) (a0 : Int32) (a1 : Int32) : Int32 × NS :=
  (if a0 = 0 then (if a1 = 0 then (if (pN_thrown (sN_thrown S 0)) ≤ 0 then (0, (sN_thrown S 0)) else (1, (sN_thrown S 0))) else (if (pN_thrown (sN_thrown S 2)) ≤ 0 then (0, (sN_thrown S 2)) else (1, (sN_thrown S 2)))) else (if (pN_thrown (sN_thrown S 1)) ≤ 0 then (0, (sN_thrown S 1)) else (1, (sN_thrown S 1))))

set_option maxHeartbeats 4000000 in
set_option maxRecDepth 100000 in
theorem c_X7_throwing (l : Launch) (D : va_G) (aN aIs aKd aNu aSg aVl aTs aTc : Nat) (cJ cI cZ : ClassId) (S : NS) (a0 : Int32) (a1 : Int32) : q_muI l yX7_throwing wsX7_throwing ({ frames := 0, cells := 0, slots := 0, locals := 0 }) D [(cJ, .long), (cI, .int), (cZ, .boolean)] (wN aN aIs aKd aNu aSg aVl aTs aTc cJ cI cZ S) [.ref aN, .int a0, .int a1] (fun r u => r = (f_X7_throwing S a0 a1).1 ∧ u = (f_X7_throwing S a0 a1).2) (fun u => (wN aN aIs aKd aNu aSg aVl aTs aTc cJ cI cZ u)) := by
  refine q_muI_of (cc := cX7_throwing) (maxL := 3) (ret := (some .boolean)) (plainFor_of_name (by decide)) rfl (Nat.le_of_ble_eq_true rfl) ?_
  intro p e s m below meth c ls A hx hb hr hml hown hts hlocks hP hK hD hA hS hl
  have hown : s.vm.findClass RX7 = some m.cls := hown
  have hl : lv_has ls 3 [(0, .ref aN), (1, .int a0), (2, .int a1)] := hl
  have hin4 : ∀ w ∈ wsX70, w ∈ wsX7_throwing := by decide +kernel
  refine lv_aload_n hx hb dX7_throwing_0 rfl (lv_at hl 0 rfl) ?_
  refine lv_iload_n hx hb dX7_throwing_1 rfl (lv_at hl 1 rfl) ?_
  refine lv_if_eq (tgt := 9) hx hb dX7_throwing_2 (by decide) (fun c1 => ?_) (fun c1 => ?_)
  · refine lv_iload_n hx hb dX7_throwing_9 rfl (lv_at hl 2 rfl) ?_
    refine lv_if_eq (tgt := 17) hx hb dX7_throwing_10 (by decide) (fun c2 => ?_) (fun c2 => ?_)
    · refine lv_iconst (v := 0) hx hb dX7_throwing_17 (by decide) ?_
      refine va_put (D := D) (ci := 4) (v := .int 0) (ty := .int) (C := RX7) (T := TX7) (N := 15) hx hb hts hin4 tyX7 tyX7_ok nmX7 hown hK hP hD hS 0 rfl rfl 0 (by decide) (hts (.fieldLink RX7 33 "FieldTraceModel" "thrown" "I") (by decide +kernel)) (fun _ h9 => h9) rfl (by decide +kernel) (rfl) (rfl) (Nat.le_of_ble_eq_true rfl) dX7_throwing_18 (fun H locs hP hD hS => ?_)
      have hP : va_P D vwCl (wN aN aIs aKd aNu aSg aVl aTs aTc cJ cI cZ (sN_thrown S 0)) H := hP
      have hD : va_D A (wN aN aIs aKd aNu aSg aVl aTs aTc cJ cI cZ (sN_thrown S 0)) := hD
      refine lv_aload_n hx hb dX7_throwing_21 rfl (lv_at hl 0 rfl) ?_
      refine va_get (D := D) (ci := 4) (v := .int (pN_thrown (sN_thrown S 0))) (C := RX7) (T := TX7) (N := 15) hx hb hts hin4 hown hK hP 0 rfl rfl 0 (by decide) (hts (.fieldLink RX7 33 "FieldTraceModel" "thrown" "I") (by decide +kernel)) (fun _ h9 => h9) rfl dX7_throwing_22 ?_
      refine lv_if_le (tgt := 32) hx hb dX7_throwing_25 (by decide) (fun c3 => ?_) (fun c3 => ?_)
      · refine lv_iconst (v := 0) hx hb dX7_throwing_32 (by decide) ?_
        exact q_mz (sN_thrown S 0) hx hb hr hlocks (rfl) hP hD hS (q_pair (by rw [f_X7_throwing, if_pos c1, if_pos c2, if_pos c3])) dX7_throwing_33
      · refine lv_iconst (v := 1) hx hb dX7_throwing_28 (by decide) ?_
        refine lv_goto (tgt := 33) hx hb dX7_throwing_29 (by decide) ?_
        exact q_mz (sN_thrown S 0) hx hb hr hlocks (rfl) hP hD hS (q_pair (by rw [f_X7_throwing, if_pos c1, if_pos c2, if_neg c3])) dX7_throwing_33
    · refine lv_iconst (v := 2) hx hb dX7_throwing_13 (by decide) ?_
      refine lv_goto (tgt := 18) hx hb dX7_throwing_14 (by decide) ?_
      refine va_put (D := D) (ci := 4) (v := .int 2) (ty := .int) (C := RX7) (T := TX7) (N := 15) hx hb hts hin4 tyX7 tyX7_ok nmX7 hown hK hP hD hS 0 rfl rfl 0 (by decide) (hts (.fieldLink RX7 33 "FieldTraceModel" "thrown" "I") (by decide +kernel)) (fun _ h9 => h9) rfl (by decide +kernel) (rfl) (rfl) (Nat.le_of_ble_eq_true rfl) dX7_throwing_18 (fun H locs hP hD hS => ?_)
      have hP : va_P D vwCl (wN aN aIs aKd aNu aSg aVl aTs aTc cJ cI cZ (sN_thrown S 2)) H := hP
      have hD : va_D A (wN aN aIs aKd aNu aSg aVl aTs aTc cJ cI cZ (sN_thrown S 2)) := hD
      refine lv_aload_n hx hb dX7_throwing_21 rfl (lv_at hl 0 rfl) ?_
      refine va_get (D := D) (ci := 4) (v := .int (pN_thrown (sN_thrown S 2))) (C := RX7) (T := TX7) (N := 15) hx hb hts hin4 hown hK hP 0 rfl rfl 0 (by decide) (hts (.fieldLink RX7 33 "FieldTraceModel" "thrown" "I") (by decide +kernel)) (fun _ h9 => h9) rfl dX7_throwing_22 ?_
      refine lv_if_le (tgt := 32) hx hb dX7_throwing_25 (by decide) (fun c4 => ?_) (fun c4 => ?_)
      · refine lv_iconst (v := 0) hx hb dX7_throwing_32 (by decide) ?_
        exact q_mz (sN_thrown S 2) hx hb hr hlocks (rfl) hP hD hS (q_pair (by rw [f_X7_throwing, if_pos c1, if_neg c2, if_pos c4])) dX7_throwing_33
      · refine lv_iconst (v := 1) hx hb dX7_throwing_28 (by decide) ?_
        refine lv_goto (tgt := 33) hx hb dX7_throwing_29 (by decide) ?_
        exact q_mz (sN_thrown S 2) hx hb hr hlocks (rfl) hP hD hS (q_pair (by rw [f_X7_throwing, if_pos c1, if_neg c2, if_neg c4])) dX7_throwing_33
  · refine lv_iconst (v := 1) hx hb dX7_throwing_5 (by decide) ?_
    refine lv_goto (tgt := 18) hx hb dX7_throwing_6 (by decide) ?_
    refine va_put (D := D) (ci := 4) (v := .int 1) (ty := .int) (C := RX7) (T := TX7) (N := 15) hx hb hts hin4 tyX7 tyX7_ok nmX7 hown hK hP hD hS 0 rfl rfl 0 (by decide) (hts (.fieldLink RX7 33 "FieldTraceModel" "thrown" "I") (by decide +kernel)) (fun _ h9 => h9) rfl (by decide +kernel) (rfl) (rfl) (Nat.le_of_ble_eq_true rfl) dX7_throwing_18 (fun H locs hP hD hS => ?_)
    have hP : va_P D vwCl (wN aN aIs aKd aNu aSg aVl aTs aTc cJ cI cZ (sN_thrown S 1)) H := hP
    have hD : va_D A (wN aN aIs aKd aNu aSg aVl aTs aTc cJ cI cZ (sN_thrown S 1)) := hD
    refine lv_aload_n hx hb dX7_throwing_21 rfl (lv_at hl 0 rfl) ?_
    refine va_get (D := D) (ci := 4) (v := .int (pN_thrown (sN_thrown S 1))) (C := RX7) (T := TX7) (N := 15) hx hb hts hin4 hown hK hP 0 rfl rfl 0 (by decide) (hts (.fieldLink RX7 33 "FieldTraceModel" "thrown" "I") (by decide +kernel)) (fun _ h9 => h9) rfl dX7_throwing_22 ?_
    refine lv_if_le (tgt := 32) hx hb dX7_throwing_25 (by decide) (fun c5 => ?_) (fun c5 => ?_)
    · refine lv_iconst (v := 0) hx hb dX7_throwing_32 (by decide) ?_
      exact q_mz (sN_thrown S 1) hx hb hr hlocks (rfl) hP hD hS (q_pair (by rw [f_X7_throwing, if_neg c1, if_pos c5])) dX7_throwing_33
    · refine lv_iconst (v := 1) hx hb dX7_throwing_28 (by decide) ?_
      refine lv_goto (tgt := 33) hx hb dX7_throwing_29 (by decide) ?_
      exact q_mz (sN_thrown S 1) hx hb hr hlocks (rfl) hP hD hS (q_pair (by rw [f_X7_throwing, if_neg c1, if_neg c5])) dX7_throwing_33


theorem ok_X7_throwing {R : Int32} {S : NS} {a0 a1 : Int32} (hI : n_ok R S) : n_ok R (f_X7_throwing S a0 a1).2 := by
  unfold f_X7_throwing
  repeat' split
  all_goals exact ok_p_thrown hI

def f_X7_keep (S : NS) (a0 : Int32) : NS :=
  (sN_value (sN_segment S (upd (pN_segment S) (a0 : Int32).toNatClampNeg (pN_gotKind S))) (vp_updL (pN_value (sN_segment S (upd (pN_segment S) (a0 : Int32).toNatClampNeg (pN_gotKind S)))) (a0 : Int32).toNatClampNeg (pN_got (sN_segment S (upd (pN_segment S) (a0 : Int32).toNatClampNeg (pN_gotKind S))))))

set_option maxHeartbeats 4000000 in
set_option maxRecDepth 100000 in
theorem c_X7_keep (l : Launch) (D : va_G) (aN aIs aKd aNu aSg aVl aTs aTc : Nat) (cJ cI cZ : ClassId) (S : NS) (a0 : Int32) (h_a0 : vp_in a0 13) : q_muV l yX7_keep wsX7_keep ({ frames := 0, cells := 0, slots := 0, locals := 0 }) D [(cJ, .long), (cI, .int), (cZ, .boolean)] (wN aN aIs aKd aNu aSg aVl aTs aTc cJ cI cZ S) [.ref aN, .int a0] (fun u => u = (f_X7_keep S a0)) (fun u => (wN aN aIs aKd aNu aSg aVl aTs aTc cJ cI cZ u)) := by
  refine q_muV_of (cc := cX7_keep) (maxL := 2) (ret := none) (plainFor_of_name (by decide)) rfl (Nat.le_of_ble_eq_true rfl) ?_
  intro p e s m below meth c ls A hx hb hr hml hown hts hlocks hP hK hD hA hS hl
  have hown : s.vm.findClass RX7 = some m.cls := hown
  have hl : lv_has ls 2 [(0, .ref aN), (1, .int a0)] := hl
  have hin4 : ∀ w ∈ wsX70, w ∈ wsX7_keep := by decide +kernel
  refine lv_aload_n hx hb dX7_keep_0 rfl (lv_at hl 0 rfl) ?_
  refine va_get (D := D) (ci := 4) (v := .ref aSg) (C := RX7) (T := TX7) (N := 15) hx hb hts hin4 hown hK hP 0 rfl rfl 4 (by decide) (hts (.fieldLink RX7 21 "FieldTraceModel" "segment" "[I") (by decide +kernel)) (fun _ h9 => h9) rfl dX7_keep_1 ?_
  refine lv_iload_n hx hb dX7_keep_4 rfl (lv_at hl 1 rfl) ?_
  refine lv_aload_n hx hb dX7_keep_5 rfl (lv_at hl 0 rfl) ?_
  refine va_get (D := D) (ci := 4) (v := .int (pN_gotKind S)) (C := RX7) (T := TX7) (N := 15) hx hb hts hin4 hown hK hP 0 rfl rfl 7 (by decide) (hts (.fieldLink RX7 50 "FieldTraceModel" "gotKind" "I") (by decide +kernel)) (fun _ h9 => h9) rfl dX7_keep_6 ?_
  refine va_iast hx hb hK hP hD hS 4 1 rfl rfl (h_a0) dX7_keep_9 (fun H locs hP hD hS => ?_)
  have hP : va_P D vwCl (wN aN aIs aKd aNu aSg aVl aTs aTc cJ cI cZ (sN_segment S (upd (pN_segment S) (a0 : Int32).toNatClampNeg (pN_gotKind S)))) H := hP
  have hD : va_D A (wN aN aIs aKd aNu aSg aVl aTs aTc cJ cI cZ (sN_segment S (upd (pN_segment S) (a0 : Int32).toNatClampNeg (pN_gotKind S)))) := hD
  refine lv_aload_n hx hb dX7_keep_10 rfl (lv_at hl 0 rfl) ?_
  refine va_get (D := D) (ci := 4) (v := .ref aVl) (C := RX7) (T := TX7) (N := 15) hx hb hts hin4 hown hK hP 0 rfl rfl 5 (by decide) (hts (.fieldLink RX7 24 "FieldTraceModel" "value" "[J") (by decide +kernel)) (fun _ h9 => h9) rfl dX7_keep_11 ?_
  refine lv_iload_n hx hb dX7_keep_14 rfl (lv_at hl 1 rfl) ?_
  refine lv_aload_n hx hb dX7_keep_15 rfl (lv_at hl 0 rfl) ?_
  refine va_get (D := D) (ci := 4) (v := .long (pN_got (sN_segment S (upd (pN_segment S) (a0 : Int32).toNatClampNeg (pN_gotKind S))))) (C := RX7) (T := TX7) (N := 15) hx hb hts hin4 hown hK hP 0 rfl rfl 8 (by decide) (hts (.fieldLink RX7 53 "FieldTraceModel" "got" "J") (by decide +kernel)) (fun _ h9 => h9) rfl dX7_keep_16 ?_
  refine va_last hx hb hK hP hD hS 5 0 rfl rfl (h_a0) dX7_keep_19 (fun H locs hP hD hS => ?_)
  have hP : va_P D vwCl (wN aN aIs aKd aNu aSg aVl aTs aTc cJ cI cZ (sN_value (sN_segment S (upd (pN_segment S) (a0 : Int32).toNatClampNeg (pN_gotKind S))) (vp_updL (pN_value (sN_segment S (upd (pN_segment S) (a0 : Int32).toNatClampNeg (pN_gotKind S)))) (a0 : Int32).toNatClampNeg (pN_got (sN_segment S (upd (pN_segment S) (a0 : Int32).toNatClampNeg (pN_gotKind S))))))) H := hP
  have hD : va_D A (wN aN aIs aKd aNu aSg aVl aTs aTc cJ cI cZ (sN_value (sN_segment S (upd (pN_segment S) (a0 : Int32).toNatClampNeg (pN_gotKind S))) (vp_updL (pN_value (sN_segment S (upd (pN_segment S) (a0 : Int32).toNatClampNeg (pN_gotKind S)))) (a0 : Int32).toNatClampNeg (pN_got (sN_segment S (upd (pN_segment S) (a0 : Int32).toNatClampNeg (pN_gotKind S))))))) := hD
  exact q_mv (sN_value (sN_segment S (upd (pN_segment S) (a0 : Int32).toNatClampNeg (pN_gotKind S))) (vp_updL (pN_value (sN_segment S (upd (pN_segment S) (a0 : Int32).toNatClampNeg (pN_gotKind S)))) (a0 : Int32).toNatClampNeg (pN_got (sN_segment S (upd (pN_segment S) (a0 : Int32).toNatClampNeg (pN_gotKind S)))))) hx hb hr hlocks hP hD hS (Eq.symm (by rw [f_X7_keep])) dX7_keep_20

def f_X7_give (S : NS) (a0 : Int32) (a1 : Int64) : NS :=
  (sN_got (sN_gotKind (sN_there S 1) a0) a1)

set_option maxHeartbeats 4000000 in
set_option maxRecDepth 100000 in
theorem c_X7_give (l : Launch) (D : va_G) (aN aIs aKd aNu aSg aVl aTs aTc : Nat) (cJ cI cZ : ClassId) (S : NS) (a0 : Int32) (a1 : Int64) : q_muV l yX7_give wsX7_give ({ frames := 0, cells := 0, slots := 0, locals := 0 }) D [(cJ, .long), (cI, .int), (cZ, .boolean)] (wN aN aIs aKd aNu aSg aVl aTs aTc cJ cI cZ S) [.ref aN, .int a0, .long a1] (fun u => u = (f_X7_give S a0 a1)) (fun u => (wN aN aIs aKd aNu aSg aVl aTs aTc cJ cI cZ u)) := by
  refine q_muV_of (cc := cX7_give) (maxL := 4) (ret := none) (plainFor_of_name (by decide)) rfl (Nat.le_of_ble_eq_true rfl) ?_
  intro p e s m below meth c ls A hx hb hr hml hown hts hlocks hP hK hD hA hS hl
  have hown : s.vm.findClass RX7 = some m.cls := hown
  have hl : lv_has ls 4 [(0, .ref aN), (1, .int a0), (2, .long a1)] := hl
  have hin4 : ∀ w ∈ wsX70, w ∈ wsX7_give := by decide +kernel
  refine lv_aload_n hx hb dX7_give_0 rfl (lv_at hl 0 rfl) ?_
  refine lv_iconst (v := 1) hx hb dX7_give_1 (by decide) ?_
  refine va_put (D := D) (ci := 4) (v := .int 1) (ty := .boolean) (C := RX7) (T := TX7) (N := 15) hx hb hts hin4 tyX7 tyX7_ok nmX7 hown hK hP hD hS 0 rfl rfl 6 (by decide) (hts (.fieldLink RX7 57 "FieldTraceModel" "there" "Z") (by decide +kernel)) (fun _ h9 => h9) rfl (by decide +kernel) (rfl) (rfl) (Nat.le_of_ble_eq_true rfl) dX7_give_2 (fun H locs hP hD hS => ?_)
  have hP : va_P D vwCl (wN aN aIs aKd aNu aSg aVl aTs aTc cJ cI cZ (sN_there S 1)) H := hP
  have hD : va_D A (wN aN aIs aKd aNu aSg aVl aTs aTc cJ cI cZ (sN_there S 1)) := hD
  refine lv_aload_n hx hb dX7_give_5 rfl (lv_at hl 0 rfl) ?_
  refine lv_iload_n hx hb dX7_give_6 rfl (lv_at hl 1 rfl) ?_
  refine va_put (D := D) (ci := 4) (v := .int a0) (ty := .int) (C := RX7) (T := TX7) (N := 15) hx hb hts hin4 tyX7 tyX7_ok nmX7 hown hK hP hD hS 0 rfl rfl 7 (by decide) (hts (.fieldLink RX7 50 "FieldTraceModel" "gotKind" "I") (by decide +kernel)) (fun _ h9 => h9) rfl (by decide +kernel) (rfl) (rfl) (Nat.le_of_ble_eq_true rfl) dX7_give_7 (fun H locs hP hD hS => ?_)
  have hP : va_P D vwCl (wN aN aIs aKd aNu aSg aVl aTs aTc cJ cI cZ (sN_gotKind (sN_there S 1) a0)) H := hP
  have hD : va_D A (wN aN aIs aKd aNu aSg aVl aTs aTc cJ cI cZ (sN_gotKind (sN_there S 1) a0)) := hD
  refine lv_aload_n hx hb dX7_give_10 rfl (lv_at hl 0 rfl) ?_
  refine lv_lload_n hx hb dX7_give_11 rfl (lv_at hl 2 rfl) ?_
  refine va_put (D := D) (ci := 4) (v := .long a1) (ty := .long) (C := RX7) (T := TX7) (N := 15) hx hb hts hin4 tyX7 tyX7_ok nmX7 hown hK hP hD hS 0 rfl rfl 8 (by decide) (hts (.fieldLink RX7 53 "FieldTraceModel" "got" "J") (by decide +kernel)) (fun _ h9 => h9) rfl (by decide +kernel) (rfl) (rfl) (Nat.le_of_ble_eq_true rfl) dX7_give_12 (fun H locs hP hD hS => ?_)
  have hP : va_P D vwCl (wN aN aIs aKd aNu aSg aVl aTs aTc cJ cI cZ (sN_got (sN_gotKind (sN_there S 1) a0) a1)) H := hP
  have hD : va_D A (wN aN aIs aKd aNu aSg aVl aTs aTc cJ cI cZ (sN_got (sN_gotKind (sN_there S 1) a0) a1)) := hD
  exact q_mv (sN_got (sN_gotKind (sN_there S 1) a0) a1) hx hb hr hlocks hP hD hS (Eq.symm (by rw [f_X7_give])) dX7_give_15


theorem ok_X7_keep {R : Int32} {S : NS} {a0 : Int32} (h : n_ok R S) : n_ok R (f_X7_keep S a0) := ⟨n_upd h.1 h.2.2.1, h.2.1, h.2.2.1, h.2.2.2.1, h.2.2.2.2⟩
theorem ok_X7_give {R : Int32} {S : NS} {a0 : Int32} {a1 : Int64} (h : n_ok R S) (hs : vp_in a0 6) : n_ok R (f_X7_give S a0 a1) := ⟨h.1, h.2.1, hs, h.2.2.2.1, h.2.2.2.2⟩

def f_X7_further (S : NS) (a0 : Int32) (a1 : Int64) : NS :=
  (if (pN_got (f_X7_give S ((pN_segment S) a0.toNatClampNeg) (((pN_value S) a0.toNatClampNeg) + a1))) < (-1000) then (sN_there (f_X7_give S ((pN_segment S) a0.toNatClampNeg) (((pN_value S) a0.toNatClampNeg) + a1)) 0) else (if 1000 < (pN_got (f_X7_give S ((pN_segment S) a0.toNatClampNeg) (((pN_value S) a0.toNatClampNeg) + a1))) then (sN_there (f_X7_give S ((pN_segment S) a0.toNatClampNeg) (((pN_value S) a0.toNatClampNeg) + a1)) 0) else (sN_there (f_X7_give S ((pN_segment S) a0.toNatClampNeg) (((pN_value S) a0.toNatClampNeg) + a1)) 1)))

set_option maxHeartbeats 4000000 in
set_option maxRecDepth 100000 in
theorem c_X7_further (l : Launch) (D : va_G) (aN aIs aKd aNu aSg aVl aTs aTc : Nat) (cJ cI cZ : ClassId) (S : NS) (a0 : Int32) (a1 : Int64) (h_a0 : vp_in a0 13) : q_muV l yX7_further wsX7_further ({ frames := 1, cells := 0, slots := 0, locals := 23 }) D [(cJ, .long), (cI, .int), (cZ, .boolean)] (wN aN aIs aKd aNu aSg aVl aTs aTc cJ cI cZ S) [.ref aN, .int a0, .long a1] (fun u => u = (f_X7_further S a0 a1)) (fun u => (wN aN aIs aKd aNu aSg aVl aTs aTc cJ cI cZ u)) := by
  refine q_muV_of (cc := cX7_further) (maxL := 4) (ret := none) (plainFor_of_name (by decide)) rfl (Nat.le_of_ble_eq_true rfl) ?_
  intro p e s m below meth c ls A hx hb hr hml hown hts hlocks hP hK hD hA hS hl
  have hown : s.vm.findClass RX7 = some m.cls := hown
  have hl : lv_has ls 4 [(0, .ref aN), (1, .int a0), (2, .long a1)] := hl
  have hfix : CallFix p m c cX7_further 4 s [.ref aN, .int a0, .long a1].toArray wsX7_further RX7 := ⟨hx, hb, hml, hown, hts⟩
  have hin4 : ∀ w ∈ wsX70, w ∈ wsX7_further := by decide +kernel
  refine lv_aload_n hx hb dX7_further_0 rfl (lv_at hl 0 rfl) ?_
  refine lv_aload_n hx hb dX7_further_1 rfl (lv_at hl 0 rfl) ?_
  refine va_get (D := D) (ci := 4) (v := .ref aSg) (C := RX7) (T := TX7) (N := 15) hx hb hts hin4 hown hK hP 0 rfl rfl 4 (by decide) (hts (.fieldLink RX7 21 "FieldTraceModel" "segment" "[I") (by decide +kernel)) (fun _ h9 => h9) rfl dX7_further_2 ?_
  refine lv_iload_n hx hb dX7_further_5 rfl (lv_at hl 1 rfl) ?_
  refine va_iald hx hb hK hP 4 1 rfl rfl (h_a0) dX7_further_6 ?_
  refine lv_aload_n hx hb dX7_further_7 rfl (lv_at hl 0 rfl) ?_
  refine va_get (D := D) (ci := 4) (v := .ref aVl) (C := RX7) (T := TX7) (N := 15) hx hb hts hin4 hown hK hP 0 rfl rfl 5 (by decide) (hts (.fieldLink RX7 24 "FieldTraceModel" "value" "[J") (by decide +kernel)) (fun _ h9 => h9) rfl dX7_further_8 ?_
  refine lv_iload_n hx hb dX7_further_11 rfl (lv_at hl 1 rfl) ?_
  refine va_lald hx hb hK hP 5 0 rfl rfl (h_a0) dX7_further_12 ?_
  refine lv_lload_n hx hb dX7_further_13 rfl (lv_at hl 2 rfl) ?_
  refine lv_ladd hx hb dX7_further_14 ?_
  refine q_callMv (As := [.int ((pN_segment S) a0.toNatClampNeg), .long (((pN_value S) a0.toNatClampNeg) + a1)]) (rest := []) (wr := []) (Wn := (fun u => (wN aN aIs aKd aNu aSg aVl aTs aTc cJ cI cZ u))) (q0 := 0) (ci := 4) (C := RX7) (c_X7_give l D aN aIs aKd aNu aSg aVl aTs aTc cJ cI cZ S ((pN_segment S) a0.toNatClampNeg) (((pN_value S) a0.toNatClampNeg) + a1)) hfix (cwV 2 hts gX7_further_X7_give rfl rfl rfl (by decide +kernel) ⟨Nat.le_of_ble_eq_true rfl, Nat.le_of_ble_eq_true rfl⟩) rfl hl.1 rfl (Nat.le_of_ble_eq_true rfl) ⟨Nat.zero_le _, Nat.zero_le _⟩ hP hK hD hS hA [0, 1, 2, 3, 4, 5, 6, 7] [] [0, 1, 2, 3, 4, 5, 6, 7] [0, 1, 2] rfl rfl rfl (by decide) (by decide) (by decide) (by decide) (fun _ => rfl) (fun _ => rfl) rfl rfl rfl rfl dX7_further_15 (fun u H locs hw hP hD hS => ?_)
  obtain rfl := hw
  have hP : va_P D vwCl (wN aN aIs aKd aNu aSg aVl aTs aTc cJ cI cZ (f_X7_give S ((pN_segment S) a0.toNatClampNeg) (((pN_value S) a0.toNatClampNeg) + a1))) H := hP
  have hD : va_D A (wN aN aIs aKd aNu aSg aVl aTs aTc cJ cI cZ (f_X7_give S ((pN_segment S) a0.toNatClampNeg) (((pN_value S) a0.toNatClampNeg) + a1))) := hD
  refine lv_aload_n hx hb dX7_further_18 rfl (lv_at hl 0 rfl) ?_
  refine lv_aload_n hx hb dX7_further_19 rfl (lv_at hl 0 rfl) ?_
  refine va_get (D := D) (ci := 4) (v := .long (pN_got (f_X7_give S ((pN_segment S) a0.toNatClampNeg) (((pN_value S) a0.toNatClampNeg) + a1)))) (C := RX7) (T := TX7) (N := 15) hx hb hts hin4 hown hK hP 0 rfl rfl 8 (by decide) (hts (.fieldLink RX7 53 "FieldTraceModel" "got" "J") (by decide +kernel)) (fun _ h9 => h9) rfl dX7_further_20 ?_
  refine lv_ldc2 (v := -1000) hx hb hown (hts (.constantLong RX7 65 (-1000)) (by decide +kernel)) dX7_further_23 ?_
  refine q_lt (tgt := 45) hx hb dX7_further_26 dX7_further_27 (by decide) (fun c1 => ?_) (fun c1 => ?_)
  · refine lv_iconst (v := 0) hx hb dX7_further_45 (by decide) ?_
    refine va_put (D := D) (ci := 4) (v := .int 0) (ty := .boolean) (C := RX7) (T := TX7) (N := 15) hx hb hts hin4 tyX7 tyX7_ok nmX7 hown hK hP hD hS 0 rfl rfl 6 (by decide) (hts (.fieldLink RX7 57 "FieldTraceModel" "there" "Z") (by decide +kernel)) (fun _ h9 => h9) rfl (by decide +kernel) (rfl) (rfl) (Nat.le_of_ble_eq_true rfl) dX7_further_46 (fun H locs hP hD hS => ?_)
    have hP : va_P D vwCl (wN aN aIs aKd aNu aSg aVl aTs aTc cJ cI cZ (sN_there (f_X7_give S ((pN_segment S) a0.toNatClampNeg) (((pN_value S) a0.toNatClampNeg) + a1)) 0)) H := hP
    have hD : va_D A (wN aN aIs aKd aNu aSg aVl aTs aTc cJ cI cZ (sN_there (f_X7_give S ((pN_segment S) a0.toNatClampNeg) (((pN_value S) a0.toNatClampNeg) + a1)) 0)) := hD
    exact q_mv (sN_there (f_X7_give S ((pN_segment S) a0.toNatClampNeg) (((pN_value S) a0.toNatClampNeg) + a1)) 0) hx hb hr hlocks hP hD hS (Eq.symm (by rw [f_X7_further, if_pos c1])) dX7_further_49
  · refine lv_aload_n hx hb dX7_further_30 rfl (lv_at hl 0 rfl) ?_
    refine va_get (D := D) (ci := 4) (v := .long (pN_got (f_X7_give S ((pN_segment S) a0.toNatClampNeg) (((pN_value S) a0.toNatClampNeg) + a1)))) (C := RX7) (T := TX7) (N := 15) hx hb hts hin4 hown hK hP 0 rfl rfl 8 (by decide) (hts (.fieldLink RX7 53 "FieldTraceModel" "got" "J") (by decide +kernel)) (fun _ h9 => h9) rfl dX7_further_31 ?_
    refine lv_ldc2 (v := 1000) hx hb hown (hts (.constantLong RX7 67 (1000)) (by decide +kernel)) dX7_further_34 ?_
    refine q_gt (tgt := 45) hx hb dX7_further_37 dX7_further_38 (by decide) (fun c2 => ?_) (fun c2 => ?_)
    · refine lv_iconst (v := 0) hx hb dX7_further_45 (by decide) ?_
      refine va_put (D := D) (ci := 4) (v := .int 0) (ty := .boolean) (C := RX7) (T := TX7) (N := 15) hx hb hts hin4 tyX7 tyX7_ok nmX7 hown hK hP hD hS 0 rfl rfl 6 (by decide) (hts (.fieldLink RX7 57 "FieldTraceModel" "there" "Z") (by decide +kernel)) (fun _ h9 => h9) rfl (by decide +kernel) (rfl) (rfl) (Nat.le_of_ble_eq_true rfl) dX7_further_46 (fun H locs hP hD hS => ?_)
      have hP : va_P D vwCl (wN aN aIs aKd aNu aSg aVl aTs aTc cJ cI cZ (sN_there (f_X7_give S ((pN_segment S) a0.toNatClampNeg) (((pN_value S) a0.toNatClampNeg) + a1)) 0)) H := hP
      have hD : va_D A (wN aN aIs aKd aNu aSg aVl aTs aTc cJ cI cZ (sN_there (f_X7_give S ((pN_segment S) a0.toNatClampNeg) (((pN_value S) a0.toNatClampNeg) + a1)) 0)) := hD
      exact q_mv (sN_there (f_X7_give S ((pN_segment S) a0.toNatClampNeg) (((pN_value S) a0.toNatClampNeg) + a1)) 0) hx hb hr hlocks hP hD hS (Eq.symm (by rw [f_X7_further, if_neg c1, if_pos c2])) dX7_further_49
    · refine lv_iconst (v := 1) hx hb dX7_further_41 (by decide) ?_
      refine lv_goto (tgt := 46) hx hb dX7_further_42 (by decide) ?_
      refine va_put (D := D) (ci := 4) (v := .int 1) (ty := .boolean) (C := RX7) (T := TX7) (N := 15) hx hb hts hin4 tyX7 tyX7_ok nmX7 hown hK hP hD hS 0 rfl rfl 6 (by decide) (hts (.fieldLink RX7 57 "FieldTraceModel" "there" "Z") (by decide +kernel)) (fun _ h9 => h9) rfl (by decide +kernel) (rfl) (rfl) (Nat.le_of_ble_eq_true rfl) dX7_further_46 (fun H locs hP hD hS => ?_)
      have hP : va_P D vwCl (wN aN aIs aKd aNu aSg aVl aTs aTc cJ cI cZ (sN_there (f_X7_give S ((pN_segment S) a0.toNatClampNeg) (((pN_value S) a0.toNatClampNeg) + a1)) 1)) H := hP
      have hD : va_D A (wN aN aIs aKd aNu aSg aVl aTs aTc cJ cI cZ (sN_there (f_X7_give S ((pN_segment S) a0.toNatClampNeg) (((pN_value S) a0.toNatClampNeg) + a1)) 1)) := hD
      exact q_mv (sN_there (f_X7_give S ((pN_segment S) a0.toNatClampNeg) (((pN_value S) a0.toNatClampNeg) + a1)) 1) hx hb hr hlocks hP hD hS (Eq.symm (by rw [f_X7_further, if_neg c1, if_neg c2])) dX7_further_49

theorem ok_X7_further {R : Int32} {S : NS} {a0 : Int32} {a1 : Int64} (hI : n_ok R S) : n_ok R (f_X7_further S a0 a1) := by
  unfold f_X7_further
  exact ok_ite (P := fun x => n_ok R x) ((ok_p_there (ok_X7_give hI (hI.1 _)))) (ok_ite (P := fun x => n_ok R x) ((ok_p_there (ok_X7_give hI (hI.1 _)))) ((ok_p_there (ok_X7_give hI (hI.1 _)))))

def f_X7_stepped_J66 (S : NS) (a0 : Int32) (t0_21 : Int32) (t0_66 : Int64) : NS :=
  (if (pN_there (f_X7_further S a0 t0_66)) = 0 then (sN_there (f_X7_further S a0 t0_66) 0) else (if t0_21 = 0 then (sN_there (f_X7_further S a0 t0_66) 0) else (sN_there (f_X7_further S a0 t0_66) 1)))

def f_X7_stepped_J40 (S : NS) (a0 : Int32) (a2 : Int32) (t0_21 : Int32) (t0_40 : Int64) : NS :=
  (if t0_21 = 0 then (f_X7_stepped_J66 S a0 t0_21 0) else (if a2 = 0 then (f_X7_stepped_J66 S a0 t0_21 t0_40) else (f_X7_stepped_J66 S a0 t0_21 (-t0_40))))

def f_X7_stepped_J21 (S : NS) (a0 : Int32) (a1 : Int64) (a2 : Int32) (t0_21 : Int32) : NS :=
  (if 1000 < a1 then (f_X7_stepped_J40 S a0 a2 t0_21 (a1 - 2305843009213693951)) else (f_X7_stepped_J40 S a0 a2 t0_21 a1))

def f_X7_stepped_J16 (S : NS) (a0 : Int32) (a1 : Int64) (a2 : Int32) : NS :=
  (f_X7_stepped_J21 S a0 a1 a2 1)

def f_X7_stepped (S : NS) (a0 : Int32) (a1 : Int64) (a2 : Int32) : NS :=
  (if a1 ≤ 1000 then (f_X7_stepped_J16 S a0 a1 a2) else (if a1 < 2305843009213692951 then (f_X7_stepped_J21 S a0 a1 a2 0) else (f_X7_stepped_J16 S a0 a1 a2)))

set_option maxHeartbeats 4000000 in
set_option maxRecDepth 100000 in
theorem c_X7_stepped (l : Launch) (D : va_G) (aN aIs aKd aNu aSg aVl aTs aTc : Nat) (cJ cI cZ : ClassId) (S : NS) (a0 : Int32) (a1 : Int64) (a2 : Int32) (h_a0 : vp_in a0 13) : q_muV l yX7_stepped wsX7_stepped ({ frames := 2, cells := 0, slots := 0, locals := 46 }) D [(cJ, .long), (cI, .int), (cZ, .boolean)] (wN aN aIs aKd aNu aSg aVl aTs aTc cJ cI cZ S) [.ref aN, .int a0, .long a1, .int a2] (fun u => u = (f_X7_stepped S a0 a1 a2)) (fun u => (wN aN aIs aKd aNu aSg aVl aTs aTc cJ cI cZ u)) := by
  refine q_muV_of (cc := cX7_stepped) (maxL := 8) (ret := none) (plainFor_of_name (by decide)) rfl (Nat.le_of_ble_eq_true rfl) ?_
  intro p e s m below meth c ls A hx hb hr hml hown hts hlocks hP hK hD hA hS hl
  have hown : s.vm.findClass RX7 = some m.cls := hown
  have hl : lv_has ls 8 [(0, .ref aN), (1, .int a0), (2, .long a1), (4, .int a2)] := hl
  have hfix : CallFix p m c cX7_stepped 8 s [.ref aN, .int a0, .long a1, .int a2].toArray wsX7_stepped RX7 := ⟨hx, hb, hml, hown, hts⟩
  have hin4 : ∀ w ∈ wsX70, w ∈ wsX7_stepped := by decide +kernel
  refine lv_lload_n hx hb dX7_stepped_0 rfl (lv_at hl 2 rfl) ?_
  refine lv_ldc2 (v := 1000) hx hb hown (hts (.constantLong RX7 67 (1000)) (by decide +kernel)) dX7_stepped_1 ?_
  have kJ21 : ∀ (t0_21 : Int32) (H : Heap) (locs : List Loc) (ls : Array Slot), (t0_21 = 0 ∨ t0_21 = 1) → (f_X7_stepped S a0 a1 a2) = (f_X7_stepped_J21 S a0 a1 a2 t0_21) → va_P D vwCl (wN aN aIs aKd aNu aSg aVl aTs aTc cJ cI cZ S) H → va_D A (wN aN aIs aKd aNu aSg aVl aTs aTc cJ cI cZ S) → va_S A s.heap H locs → lv_has ls 8 [(0, .ref aN), (1, .int a0), (2, .long a1), (4, .int a2)] → W p l e ({ frames := 2, cells := 0, slots := 0, locals := 46 }) s m [.ref aN, .int a0, .long a1, .int a2].toArray below meth c H locs 0 0 (MQ below (va_Qv (fun u => u = (f_X7_stepped S a0 a1 a2)) (fun u t => va_P D vwCl ((fun u => (wN aN aIs aKd aNu aSg aVl aTs aTc cJ cI cZ u)) u) t.heap ∧ va_D A ((fun u => (wN aN aIs aKd aNu aSg aVl aTs aTc cJ cI cZ u)) u)) A) [.ref aN, .int a0, .long a1, .int a2].toArray s 0 0 A) (F0 m 21 ls [.int t0_21]) := by
    intro t0_21 H locs ls hb_t0_21 hJ21 hP hD hS hl
    refine lv_istore (lv' := [(5, .int t0_21), (0, .ref aN), (1, .int a0), (2, .long a1), (4, .int a2)]) hx hb dX7_stepped_21 hl (by decide) rfl (fun ls hl => ?_)
    refine lv_lload_n hx hb dX7_stepped_23 rfl (lv_at hl 3 rfl) ?_
    refine lv_ldc2 (v := 1000) hx hb hown (hts (.constantLong RX7 67 (1000)) (by decide +kernel)) dX7_stepped_24 ?_
    have kJ40 : ∀ (t0_40 : Int64) (H : Heap) (locs : List Loc) (ls : Array Slot), (f_X7_stepped S a0 a1 a2) = (f_X7_stepped_J40 S a0 a2 t0_21 t0_40) → va_P D vwCl (wN aN aIs aKd aNu aSg aVl aTs aTc cJ cI cZ S) H → va_D A (wN aN aIs aKd aNu aSg aVl aTs aTc cJ cI cZ S) → va_S A s.heap H locs → lv_has ls 8 [(0, .ref aN), (1, .int a0), (2, .long a1), (4, .int a2), (5, .int t0_21)] → W p l e ({ frames := 2, cells := 0, slots := 0, locals := 46 }) s m [.ref aN, .int a0, .long a1, .int a2].toArray below meth c H locs 0 0 (MQ below (va_Qv (fun u => u = (f_X7_stepped S a0 a1 a2)) (fun u t => va_P D vwCl ((fun u => (wN aN aIs aKd aNu aSg aVl aTs aTc cJ cI cZ u)) u) t.heap ∧ va_D A ((fun u => (wN aN aIs aKd aNu aSg aVl aTs aTc cJ cI cZ u)) u)) A) [.ref aN, .int a0, .long a1, .int a2].toArray s 0 0 A) (F0 m 40 ls [.long t0_40]) := by
      intro t0_40 H locs ls hJ40 hP hD hS hl
      refine lv_lstore (lv' := [(6, .long t0_40), (0, .ref aN), (1, .int a0), (2, .long a1), (4, .int a2), (5, .int t0_21)]) hx hb dX7_stepped_40 hl (by decide) rfl (fun ls hl => ?_)
      refine lv_aload_n hx hb dX7_stepped_42 rfl (lv_at hl 1 rfl) ?_
      refine lv_iload_n hx hb dX7_stepped_43 rfl (lv_at hl 2 rfl) ?_
      refine lv_iload hx hb dX7_stepped_44 (lv_at hl 5 rfl) ?_
      have kJ66 : ∀ (t0_66 : Int64) (H : Heap) (locs : List Loc) (ls : Array Slot), (f_X7_stepped S a0 a1 a2) = (f_X7_stepped_J66 S a0 t0_21 t0_66) → va_P D vwCl (wN aN aIs aKd aNu aSg aVl aTs aTc cJ cI cZ S) H → va_D A (wN aN aIs aKd aNu aSg aVl aTs aTc cJ cI cZ S) → va_S A s.heap H locs → lv_has ls 8 [(0, .ref aN), (1, .int a0), (2, .long a1), (4, .int a2), (5, .int t0_21), (6, .long t0_40)] → W p l e ({ frames := 2, cells := 0, slots := 0, locals := 46 }) s m [.ref aN, .int a0, .long a1, .int a2].toArray below meth c H locs 0 0 (MQ below (va_Qv (fun u => u = (f_X7_stepped S a0 a1 a2)) (fun u t => va_P D vwCl ((fun u => (wN aN aIs aKd aNu aSg aVl aTs aTc cJ cI cZ u)) u) t.heap ∧ va_D A ((fun u => (wN aN aIs aKd aNu aSg aVl aTs aTc cJ cI cZ u)) u)) A) [.ref aN, .int a0, .long a1, .int a2].toArray s 0 0 A) (F0 m 66 ls [.long t0_66, .int a0, .ref aN]) := by
        intro t0_66 H locs ls hJ66 hP hD hS hl
        refine q_callMv (As := [.int a0, .long t0_66]) (rest := []) (wr := []) (Wn := (fun u => (wN aN aIs aKd aNu aSg aVl aTs aTc cJ cI cZ u))) (q0 := 0) (ci := 4) (C := RX7) (c_X7_further l D aN aIs aKd aNu aSg aVl aTs aTc cJ cI cZ S a0 t0_66 (h_a0)) hfix (cwV 2 hts gX7_stepped_X7_further rfl rfl rfl (by decide +kernel) ⟨Nat.le_of_ble_eq_true rfl, Nat.le_of_ble_eq_true rfl⟩) rfl hl.1 rfl (Nat.le_of_ble_eq_true rfl) ⟨Nat.zero_le _, Nat.zero_le _⟩ hP hK hD hS hA [0, 1, 2, 3, 4, 5, 6, 7] [] [0, 1, 2, 3, 4, 5, 6, 7] [0, 1, 2] rfl rfl rfl (by decide) (by decide) (by decide) (by decide) (fun _ => rfl) (fun _ => rfl) rfl rfl rfl rfl dX7_stepped_66 (fun u H locs hw hP hD hS => ?_)
        obtain rfl := hw
        have hP : va_P D vwCl (wN aN aIs aKd aNu aSg aVl aTs aTc cJ cI cZ (f_X7_further S a0 t0_66)) H := hP
        have hD : va_D A (wN aN aIs aKd aNu aSg aVl aTs aTc cJ cI cZ (f_X7_further S a0 t0_66)) := hD
        refine lv_aload_n hx hb dX7_stepped_69 rfl (lv_at hl 0 rfl) ?_
        refine lv_aload_n hx hb dX7_stepped_70 rfl (lv_at hl 0 rfl) ?_
        refine va_get (D := D) (ci := 4) (v := .int (pN_there (f_X7_further S a0 t0_66))) (C := RX7) (T := TX7) (N := 15) hx hb hts hin4 hown hK hP 0 rfl rfl 6 (by decide) (hts (.fieldLink RX7 57 "FieldTraceModel" "there" "Z") (by decide +kernel)) (fun _ h9 => h9) rfl dX7_stepped_71 ?_
        refine lv_if_eq (tgt := 86) hx hb dX7_stepped_74 (by decide) (fun c6 => ?_) (fun c6 => ?_)
        · refine lv_iconst (v := 0) hx hb dX7_stepped_86 (by decide) ?_
          refine va_put (D := D) (ci := 4) (v := .int 0) (ty := .boolean) (C := RX7) (T := TX7) (N := 15) hx hb hts hin4 tyX7 tyX7_ok nmX7 hown hK hP hD hS 0 rfl rfl 6 (by decide) (hts (.fieldLink RX7 57 "FieldTraceModel" "there" "Z") (by decide +kernel)) (fun _ h9 => h9) rfl (by decide +kernel) (rfl) (rfl) (Nat.le_of_ble_eq_true rfl) dX7_stepped_87 (fun H locs hP hD hS => ?_)
          have hP : va_P D vwCl (wN aN aIs aKd aNu aSg aVl aTs aTc cJ cI cZ (sN_there (f_X7_further S a0 t0_66) 0)) H := hP
          have hD : va_D A (wN aN aIs aKd aNu aSg aVl aTs aTc cJ cI cZ (sN_there (f_X7_further S a0 t0_66) 0)) := hD
          exact q_mv (sN_there (f_X7_further S a0 t0_66) 0) hx hb hr hlocks hP hD hS (Eq.symm (by rw [hJ66, f_X7_stepped_J66, if_pos c6])) dX7_stepped_90
        · refine lv_iload hx hb dX7_stepped_77 (lv_at hl 4 rfl) ?_
          refine lv_if_eq (tgt := 86) hx hb dX7_stepped_79 (by decide) (fun c7 => ?_) (fun c7 => ?_)
          · refine lv_iconst (v := 0) hx hb dX7_stepped_86 (by decide) ?_
            refine va_put (D := D) (ci := 4) (v := .int 0) (ty := .boolean) (C := RX7) (T := TX7) (N := 15) hx hb hts hin4 tyX7 tyX7_ok nmX7 hown hK hP hD hS 0 rfl rfl 6 (by decide) (hts (.fieldLink RX7 57 "FieldTraceModel" "there" "Z") (by decide +kernel)) (fun _ h9 => h9) rfl (by decide +kernel) (rfl) (rfl) (Nat.le_of_ble_eq_true rfl) dX7_stepped_87 (fun H locs hP hD hS => ?_)
            have hP : va_P D vwCl (wN aN aIs aKd aNu aSg aVl aTs aTc cJ cI cZ (sN_there (f_X7_further S a0 t0_66) 0)) H := hP
            have hD : va_D A (wN aN aIs aKd aNu aSg aVl aTs aTc cJ cI cZ (sN_there (f_X7_further S a0 t0_66) 0)) := hD
            exact q_mv (sN_there (f_X7_further S a0 t0_66) 0) hx hb hr hlocks hP hD hS (Eq.symm (by rw [hJ66, f_X7_stepped_J66, if_neg c6, if_pos c7])) dX7_stepped_90
          · refine lv_iconst (v := 1) hx hb dX7_stepped_82 (by decide) ?_
            refine lv_goto (tgt := 87) hx hb dX7_stepped_83 (by decide) ?_
            refine va_put (D := D) (ci := 4) (v := .int 1) (ty := .boolean) (C := RX7) (T := TX7) (N := 15) hx hb hts hin4 tyX7 tyX7_ok nmX7 hown hK hP hD hS 0 rfl rfl 6 (by decide) (hts (.fieldLink RX7 57 "FieldTraceModel" "there" "Z") (by decide +kernel)) (fun _ h9 => h9) rfl (by decide +kernel) (rfl) (rfl) (Nat.le_of_ble_eq_true rfl) dX7_stepped_87 (fun H locs hP hD hS => ?_)
            have hP : va_P D vwCl (wN aN aIs aKd aNu aSg aVl aTs aTc cJ cI cZ (sN_there (f_X7_further S a0 t0_66) 1)) H := hP
            have hD : va_D A (wN aN aIs aKd aNu aSg aVl aTs aTc cJ cI cZ (sN_there (f_X7_further S a0 t0_66) 1)) := hD
            exact q_mv (sN_there (f_X7_further S a0 t0_66) 1) hx hb hr hlocks hP hD hS (Eq.symm (by rw [hJ66, f_X7_stepped_J66, if_neg c6, if_neg c7])) dX7_stepped_90
      refine lv_if_ne (tgt := 53) hx hb dX7_stepped_46 (by decide) (fun c4 => ?_) (fun c4 => ?_)
      · refine lv_iload hx hb dX7_stepped_53 (lv_at hl 4 rfl) ?_
        refine lv_if_eq (tgt := 64) hx hb dX7_stepped_55 (by decide) (fun c5 => ?_) (fun c5 => ?_)
        · refine lv_lload hx hb dX7_stepped_64 (lv_at hl 0 rfl) ?_
          exact kJ66 t0_40 _ _ _ (by rw [hJ40, f_X7_stepped_J40, if_neg c4, if_pos c5]) hP hD hS (lv_sub hl [1, 2, 3, 4, 5, 0] rfl)
        · refine lv_lload hx hb dX7_stepped_58 (lv_at hl 0 rfl) ?_
          refine lv_lneg hx hb dX7_stepped_60 ?_
          refine lv_goto (tgt := 66) hx hb dX7_stepped_61 (by decide) ?_
          exact kJ66 (-t0_40) _ _ _ (by rw [hJ40, f_X7_stepped_J40, if_neg c4, if_neg c5]) hP hD hS (lv_sub hl [1, 2, 3, 4, 5, 0] rfl)
      · refine lv_lconst (v := 0) hx hb dX7_stepped_49 (by decide) ?_
        refine lv_goto (tgt := 66) hx hb dX7_stepped_50 (by decide) ?_
        exact kJ66 0 _ _ _ (by rw [hJ40, f_X7_stepped_J40, if_pos c4]) hP hD hS (lv_sub hl [1, 2, 3, 4, 5, 0] rfl)
    refine q_gt (tgt := 35) hx hb dX7_stepped_27 dX7_stepped_28 (by decide) (fun c3 => ?_) (fun c3 => ?_)
    · refine lv_lload_n hx hb dX7_stepped_35 rfl (lv_at hl 3 rfl) ?_
      refine lv_ldc2 (v := 2305843009213693951) hx hb hown (hts (.constantLong RX7 37 (2305843009213693951)) (by decide +kernel)) dX7_stepped_36 ?_
      refine lv_lsub hx hb dX7_stepped_39 ?_
      exact kJ40 (a1 - 2305843009213693951) _ _ _ (by rw [hJ21, f_X7_stepped_J21, if_pos c3]) hP hD hS (lv_sub hl [1, 2, 3, 4, 0] rfl)
    · refine lv_lload_n hx hb dX7_stepped_31 rfl (lv_at hl 3 rfl) ?_
      refine lv_goto (tgt := 40) hx hb dX7_stepped_32 (by decide) ?_
      exact kJ40 a1 _ _ _ (by rw [hJ21, f_X7_stepped_J21, if_neg c3]) hP hD hS (lv_sub hl [1, 2, 3, 4, 0] rfl)
  have kJ16 : ∀ (H : Heap) (locs : List Loc) (ls : Array Slot), (f_X7_stepped S a0 a1 a2) = (f_X7_stepped_J16 S a0 a1 a2) → va_P D vwCl (wN aN aIs aKd aNu aSg aVl aTs aTc cJ cI cZ S) H → va_D A (wN aN aIs aKd aNu aSg aVl aTs aTc cJ cI cZ S) → va_S A s.heap H locs → lv_has ls 8 [(0, .ref aN), (1, .int a0), (2, .long a1), (4, .int a2)] → W p l e ({ frames := 2, cells := 0, slots := 0, locals := 46 }) s m [.ref aN, .int a0, .long a1, .int a2].toArray below meth c H locs 0 0 (MQ below (va_Qv (fun u => u = (f_X7_stepped S a0 a1 a2)) (fun u t => va_P D vwCl ((fun u => (wN aN aIs aKd aNu aSg aVl aTs aTc cJ cI cZ u)) u) t.heap ∧ va_D A ((fun u => (wN aN aIs aKd aNu aSg aVl aTs aTc cJ cI cZ u)) u)) A) [.ref aN, .int a0, .long a1, .int a2].toArray s 0 0 A) (F0 m 16 ls []) := by
    intro H locs ls hJ16 hP hD hS hl
    refine lv_iconst (v := 1) hx hb dX7_stepped_16 (by decide) ?_
    refine lv_goto (tgt := 21) hx hb dX7_stepped_17 (by decide) ?_
    exact kJ21 1 _ _ _ (Or.inr rfl) (by rw [hJ16, f_X7_stepped_J16]) hP hD hS (lv_sub hl [0, 1, 2, 3] rfl)
  refine q_le (tgt := 16) hx hb dX7_stepped_4 dX7_stepped_5 (by decide) (fun c1 => ?_) (fun c1 => ?_)
  · exact kJ16 _ _ _ (by rw [f_X7_stepped, if_pos c1]) hP hD hS (lv_sub hl [0, 1, 2, 3] rfl)
  · refine lv_lload_n hx hb dX7_stepped_8 rfl (lv_at hl 2 rfl) ?_
    refine lv_ldc2 (v := 2305843009213692951) hx hb hown (hts (.constantLong RX7 69 (2305843009213692951)) (by decide +kernel)) dX7_stepped_9 ?_
    refine q_lt (tgt := 20) hx hb dX7_stepped_12 dX7_stepped_13 (by decide) (fun c2 => ?_) (fun c2 => ?_)
    · refine lv_iconst (v := 0) hx hb dX7_stepped_20 (by decide) ?_
      exact kJ21 0 _ _ _ (Or.inl rfl) (by rw [f_X7_stepped, if_neg c1, if_pos c2]) hP hD hS (lv_sub hl [0, 1, 2, 3] rfl)
    · exact kJ16 _ _ _ (by rw [f_X7_stepped, if_neg c1, if_neg c2]) hP hD hS (lv_sub hl [0, 1, 2, 3] rfl)

theorem ok_f_X7_stepped_J66 {R : Int32} {S : NS} {a0 : Int32} {t0_21 : Int32} {t0_66 : Int64} (hI : n_ok R S) : n_ok R (f_X7_stepped_J66 S a0 t0_21 t0_66) := by
  unfold f_X7_stepped_J66
  exact ok_ite (P := fun x => n_ok R x) ((ok_p_there (ok_X7_further hI))) (ok_ite (P := fun x => n_ok R x) ((ok_p_there (ok_X7_further hI))) ((ok_p_there (ok_X7_further hI))))

theorem ok_f_X7_stepped_J40 {R : Int32} {S : NS} {a0 : Int32} {a2 : Int32} {t0_21 : Int32} {t0_40 : Int64} (hI : n_ok R S) : n_ok R (f_X7_stepped_J40 S a0 a2 t0_21 t0_40) := by
  unfold f_X7_stepped_J40
  exact ok_ite (P := fun x => n_ok R x) (ok_f_X7_stepped_J66 hI) (ok_ite (P := fun x => n_ok R x) (ok_f_X7_stepped_J66 hI) (ok_f_X7_stepped_J66 hI))

theorem ok_f_X7_stepped_J21 {R : Int32} {S : NS} {a0 : Int32} {a1 : Int64} {a2 : Int32} {t0_21 : Int32} (hI : n_ok R S) : n_ok R (f_X7_stepped_J21 S a0 a1 a2 t0_21) := by
  unfold f_X7_stepped_J21
  exact ok_ite (P := fun x => n_ok R x) (ok_f_X7_stepped_J40 hI) (ok_f_X7_stepped_J40 hI)

theorem ok_f_X7_stepped_J16 {R : Int32} {S : NS} {a0 : Int32} {a1 : Int64} {a2 : Int32} (hI : n_ok R S) : n_ok R (f_X7_stepped_J16 S a0 a1 a2) := by
  unfold f_X7_stepped_J16
  exact ok_f_X7_stepped_J21 hI

theorem ok_X7_stepped {R : Int32} {S : NS} {a0 : Int32} {a1 : Int64} {a2 : Int32} (hI : n_ok R S) : n_ok R (f_X7_stepped S a0 a1 a2) := by
  unfold f_X7_stepped
  exact ok_ite (P := fun x => n_ok R x) (ok_f_X7_stepped_J16 hI) (ok_ite (P := fun x => n_ok R x) (ok_f_X7_stepped_J21 hI) (ok_f_X7_stepped_J16 hI))

def f_X7_plus_J68 (S : NS) (a0 : Int32) (a1 : Int32) : NS :=
  (if ((pN_segment S) a0.toNatClampNeg) = 0 then (f_X7_stepped S a1 ((pN_value S) a0.toNatClampNeg) 0) else (f_X7_stepped S a0 ((pN_value S) a1.toNatClampNeg) 0))

def f_X7_plus_J42 (S : NS) (a0 : Int32) (a1 : Int32) : NS :=
  (if ((pN_segment S) a0.toNatClampNeg) = 0 then (f_X7_plus_J68 S a0 a1) else (if ((pN_segment S) a1.toNatClampNeg) = 0 then (f_X7_plus_J68 S a0 a1) else (sN_there S 0)))

def f_X7_plus (S : NS) (a0 : Int32) (a1 : Int32) : NS :=
  (if ((pN_segment S) a0.toNatClampNeg) = 0 then (if ((pN_segment S) a1.toNatClampNeg) = 0 then (f_X7_give S 0 (f_X7_operate 0 ((pN_value S) a0.toNatClampNeg) ((pN_value S) a1.toNatClampNeg))) else (f_X7_plus_J42 S a0 a1)) else (f_X7_plus_J42 S a0 a1))

set_option maxHeartbeats 4000000 in
set_option maxRecDepth 100000 in
theorem c_X7_plus (l : Launch) (D : va_G) (aN aIs aKd aNu aSg aVl aTs aTc : Nat) (cJ cI cZ : ClassId) (S : NS) (a0 : Int32) (a1 : Int32) (h_a0 : vp_in a0 13) (h_a1 : vp_in a1 13) : q_muV l yX7_plus wsX7_plus ({ frames := 3, cells := 0, slots := 0, locals := 85 }) D [(cJ, .long), (cI, .int), (cZ, .boolean)] (wN aN aIs aKd aNu aSg aVl aTs aTc cJ cI cZ S) [.ref aN, .int a0, .int a1] (fun u => u = (f_X7_plus S a0 a1)) (fun u => (wN aN aIs aKd aNu aSg aVl aTs aTc cJ cI cZ u)) := by
  refine q_muV_of (cc := cX7_plus) (maxL := 3) (ret := none) (plainFor_of_name (by decide)) rfl (Nat.le_of_ble_eq_true rfl) ?_
  intro p e s m below meth c ls A hx hb hr hml hown hts hlocks hP hK hD hA hS hl
  have hown : s.vm.findClass RX7 = some m.cls := hown
  have hl : lv_has ls 3 [(0, .ref aN), (1, .int a0), (2, .int a1)] := hl
  have hfix : CallFix p m c cX7_plus 3 s [.ref aN, .int a0, .int a1].toArray wsX7_plus RX7 := ⟨hx, hb, hml, hown, hts⟩
  have hin4 : ∀ w ∈ wsX70, w ∈ wsX7_plus := by decide +kernel
  refine lv_aload_n hx hb dX7_plus_0 rfl (lv_at hl 0 rfl) ?_
  refine va_get (D := D) (ci := 4) (v := .ref aSg) (C := RX7) (T := TX7) (N := 15) hx hb hts hin4 hown hK hP 0 rfl rfl 4 (by decide) (hts (.fieldLink RX7 21 "FieldTraceModel" "segment" "[I") (by decide +kernel)) (fun _ h9 => h9) rfl dX7_plus_1 ?_
  refine lv_iload_n hx hb dX7_plus_4 rfl (lv_at hl 1 rfl) ?_
  refine va_iald hx hb hK hP 4 1 rfl rfl (h_a0) dX7_plus_5 ?_
  have kJ42 : ∀ (H : Heap) (locs : List Loc) (ls : Array Slot), (f_X7_plus S a0 a1) = (f_X7_plus_J42 S a0 a1) → va_P D vwCl (wN aN aIs aKd aNu aSg aVl aTs aTc cJ cI cZ S) H → va_D A (wN aN aIs aKd aNu aSg aVl aTs aTc cJ cI cZ S) → va_S A s.heap H locs → lv_has ls 3 [(0, .ref aN), (1, .int a0), (2, .int a1)] → W p l e ({ frames := 3, cells := 0, slots := 0, locals := 85 }) s m [.ref aN, .int a0, .int a1].toArray below meth c H locs 0 0 (MQ below (va_Qv (fun u => u = (f_X7_plus S a0 a1)) (fun u t => va_P D vwCl ((fun u => (wN aN aIs aKd aNu aSg aVl aTs aTc cJ cI cZ u)) u) t.heap ∧ va_D A ((fun u => (wN aN aIs aKd aNu aSg aVl aTs aTc cJ cI cZ u)) u)) A) [.ref aN, .int a0, .int a1].toArray s 0 0 A) (F0 m 42 ls []) := by
    intro H locs ls hJ42 hP hD hS hl
    refine lv_aload_n hx hb dX7_plus_42 rfl (lv_at hl 0 rfl) ?_
    refine va_get (D := D) (ci := 4) (v := .ref aSg) (C := RX7) (T := TX7) (N := 15) hx hb hts hin4 hown hK hP 0 rfl rfl 4 (by decide) (hts (.fieldLink RX7 21 "FieldTraceModel" "segment" "[I") (by decide +kernel)) (fun _ h9 => h9) rfl dX7_plus_43 ?_
    refine lv_iload_n hx hb dX7_plus_46 rfl (lv_at hl 1 rfl) ?_
    refine va_iald hx hb hK hP 4 1 rfl rfl (h_a0) dX7_plus_47 ?_
    have kJ68 : ∀ (H : Heap) (locs : List Loc) (ls : Array Slot), (f_X7_plus S a0 a1) = (f_X7_plus_J68 S a0 a1) → va_P D vwCl (wN aN aIs aKd aNu aSg aVl aTs aTc cJ cI cZ S) H → va_D A (wN aN aIs aKd aNu aSg aVl aTs aTc cJ cI cZ S) → va_S A s.heap H locs → lv_has ls 3 [(0, .ref aN), (1, .int a0), (2, .int a1)] → W p l e ({ frames := 3, cells := 0, slots := 0, locals := 85 }) s m [.ref aN, .int a0, .int a1].toArray below meth c H locs 0 0 (MQ below (va_Qv (fun u => u = (f_X7_plus S a0 a1)) (fun u t => va_P D vwCl ((fun u => (wN aN aIs aKd aNu aSg aVl aTs aTc cJ cI cZ u)) u) t.heap ∧ va_D A ((fun u => (wN aN aIs aKd aNu aSg aVl aTs aTc cJ cI cZ u)) u)) A) [.ref aN, .int a0, .int a1].toArray s 0 0 A) (F0 m 68 ls []) := by
      intro H locs ls hJ68 hP hD hS hl
      refine lv_aload_n hx hb dX7_plus_68 rfl (lv_at hl 0 rfl) ?_
      refine va_get (D := D) (ci := 4) (v := .ref aSg) (C := RX7) (T := TX7) (N := 15) hx hb hts hin4 hown hK hP 0 rfl rfl 4 (by decide) (hts (.fieldLink RX7 21 "FieldTraceModel" "segment" "[I") (by decide +kernel)) (fun _ h9 => h9) rfl dX7_plus_69 ?_
      refine lv_iload_n hx hb dX7_plus_72 rfl (lv_at hl 1 rfl) ?_
      refine va_iald hx hb hK hP 4 1 rfl rfl (h_a0) dX7_plus_73 ?_
      refine lv_if_eq (tgt := 92) hx hb dX7_plus_74 (by decide) (fun c5 => ?_) (fun c5 => ?_)
      · refine lv_aload_n hx hb dX7_plus_92 rfl (lv_at hl 0 rfl) ?_
        refine lv_iload_n hx hb dX7_plus_93 rfl (lv_at hl 2 rfl) ?_
        refine lv_aload_n hx hb dX7_plus_94 rfl (lv_at hl 0 rfl) ?_
        refine va_get (D := D) (ci := 4) (v := .ref aVl) (C := RX7) (T := TX7) (N := 15) hx hb hts hin4 hown hK hP 0 rfl rfl 5 (by decide) (hts (.fieldLink RX7 24 "FieldTraceModel" "value" "[J") (by decide +kernel)) (fun _ h9 => h9) rfl dX7_plus_95 ?_
        refine lv_iload_n hx hb dX7_plus_98 rfl (lv_at hl 1 rfl) ?_
        refine va_lald hx hb hK hP 5 0 rfl rfl (h_a0) dX7_plus_99 ?_
        refine lv_iconst (v := 0) hx hb dX7_plus_100 (by decide) ?_
        refine q_callMv (As := [.int a1, .long ((pN_value S) a0.toNatClampNeg), .int 0]) (rest := []) (wr := []) (Wn := (fun u => (wN aN aIs aKd aNu aSg aVl aTs aTc cJ cI cZ u))) (q0 := 0) (ci := 4) (C := RX7) (c_X7_stepped l D aN aIs aKd aNu aSg aVl aTs aTc cJ cI cZ S a1 ((pN_value S) a0.toNatClampNeg) 0 (h_a1)) hfix (cwV 3 hts gX7_plus_X7_stepped rfl rfl rfl (by decide +kernel) ⟨Nat.le_of_ble_eq_true rfl, Nat.le_of_ble_eq_true rfl⟩) rfl hl.1 rfl (Nat.le_of_ble_eq_true rfl) ⟨Nat.zero_le _, Nat.zero_le _⟩ hP hK hD hS hA [0, 1, 2, 3, 4, 5, 6, 7] [] [0, 1, 2, 3, 4, 5, 6, 7] [0, 1, 2] rfl rfl rfl (by decide) (by decide) (by decide) (by decide) (fun _ => rfl) (fun _ => rfl) rfl rfl rfl rfl dX7_plus_101 (fun u H locs hw hP hD hS => ?_)
        obtain rfl := hw
        have hP : va_P D vwCl (wN aN aIs aKd aNu aSg aVl aTs aTc cJ cI cZ (f_X7_stepped S a1 ((pN_value S) a0.toNatClampNeg) 0)) H := hP
        have hD : va_D A (wN aN aIs aKd aNu aSg aVl aTs aTc cJ cI cZ (f_X7_stepped S a1 ((pN_value S) a0.toNatClampNeg) 0)) := hD
        exact q_mv (f_X7_stepped S a1 ((pN_value S) a0.toNatClampNeg) 0) hx hb hr hlocks hP hD hS (Eq.symm (by rw [hJ68, f_X7_plus_J68, if_pos c5])) dX7_plus_104
      · refine lv_aload_n hx hb dX7_plus_77 rfl (lv_at hl 0 rfl) ?_
        refine lv_iload_n hx hb dX7_plus_78 rfl (lv_at hl 1 rfl) ?_
        refine lv_aload_n hx hb dX7_plus_79 rfl (lv_at hl 0 rfl) ?_
        refine va_get (D := D) (ci := 4) (v := .ref aVl) (C := RX7) (T := TX7) (N := 15) hx hb hts hin4 hown hK hP 0 rfl rfl 5 (by decide) (hts (.fieldLink RX7 24 "FieldTraceModel" "value" "[J") (by decide +kernel)) (fun _ h9 => h9) rfl dX7_plus_80 ?_
        refine lv_iload_n hx hb dX7_plus_83 rfl (lv_at hl 2 rfl) ?_
        refine va_lald hx hb hK hP 5 0 rfl rfl (h_a1) dX7_plus_84 ?_
        refine lv_iconst (v := 0) hx hb dX7_plus_85 (by decide) ?_
        refine q_callMv (As := [.int a0, .long ((pN_value S) a1.toNatClampNeg), .int 0]) (rest := []) (wr := []) (Wn := (fun u => (wN aN aIs aKd aNu aSg aVl aTs aTc cJ cI cZ u))) (q0 := 0) (ci := 4) (C := RX7) (c_X7_stepped l D aN aIs aKd aNu aSg aVl aTs aTc cJ cI cZ S a0 ((pN_value S) a1.toNatClampNeg) 0 (h_a0)) hfix (cwV 3 hts gX7_plus_X7_stepped rfl rfl rfl (by decide +kernel) ⟨Nat.le_of_ble_eq_true rfl, Nat.le_of_ble_eq_true rfl⟩) rfl hl.1 rfl (Nat.le_of_ble_eq_true rfl) ⟨Nat.zero_le _, Nat.zero_le _⟩ hP hK hD hS hA [0, 1, 2, 3, 4, 5, 6, 7] [] [0, 1, 2, 3, 4, 5, 6, 7] [0, 1, 2] rfl rfl rfl (by decide) (by decide) (by decide) (by decide) (fun _ => rfl) (fun _ => rfl) rfl rfl rfl rfl dX7_plus_86 (fun u H locs hw hP hD hS => ?_)
        obtain rfl := hw
        have hP : va_P D vwCl (wN aN aIs aKd aNu aSg aVl aTs aTc cJ cI cZ (f_X7_stepped S a0 ((pN_value S) a1.toNatClampNeg) 0)) H := hP
        have hD : va_D A (wN aN aIs aKd aNu aSg aVl aTs aTc cJ cI cZ (f_X7_stepped S a0 ((pN_value S) a1.toNatClampNeg) 0)) := hD
        refine lv_goto (tgt := 104) hx hb dX7_plus_89 (by decide) ?_
        exact q_mv (f_X7_stepped S a0 ((pN_value S) a1.toNatClampNeg) 0) hx hb hr hlocks hP hD hS (Eq.symm (by rw [hJ68, f_X7_plus_J68, if_neg c5])) dX7_plus_104
    refine lv_if_eq (tgt := 68) hx hb dX7_plus_48 (by decide) (fun c3 => ?_) (fun c3 => ?_)
    · exact kJ68 _ _ _ (by rw [hJ42, f_X7_plus_J42, if_pos c3]) hP hD hS (lv_sub hl [0, 1, 2] rfl)
    · refine lv_aload_n hx hb dX7_plus_51 rfl (lv_at hl 0 rfl) ?_
      refine va_get (D := D) (ci := 4) (v := .ref aSg) (C := RX7) (T := TX7) (N := 15) hx hb hts hin4 hown hK hP 0 rfl rfl 4 (by decide) (hts (.fieldLink RX7 21 "FieldTraceModel" "segment" "[I") (by decide +kernel)) (fun _ h9 => h9) rfl dX7_plus_52 ?_
      refine lv_iload_n hx hb dX7_plus_55 rfl (lv_at hl 2 rfl) ?_
      refine va_iald hx hb hK hP 4 1 rfl rfl (h_a1) dX7_plus_56 ?_
      refine lv_if_eq (tgt := 68) hx hb dX7_plus_57 (by decide) (fun c4 => ?_) (fun c4 => ?_)
      · exact kJ68 _ _ _ (by rw [hJ42, f_X7_plus_J42, if_neg c3, if_pos c4]) hP hD hS (lv_sub hl [0, 1, 2] rfl)
      · refine lv_aload_n hx hb dX7_plus_60 rfl (lv_at hl 0 rfl) ?_
        refine lv_iconst (v := 0) hx hb dX7_plus_61 (by decide) ?_
        refine va_put (D := D) (ci := 4) (v := .int 0) (ty := .boolean) (C := RX7) (T := TX7) (N := 15) hx hb hts hin4 tyX7 tyX7_ok nmX7 hown hK hP hD hS 0 rfl rfl 6 (by decide) (hts (.fieldLink RX7 57 "FieldTraceModel" "there" "Z") (by decide +kernel)) (fun _ h9 => h9) rfl (by decide +kernel) (rfl) (rfl) (Nat.le_of_ble_eq_true rfl) dX7_plus_62 (fun H locs hP hD hS => ?_)
        have hP : va_P D vwCl (wN aN aIs aKd aNu aSg aVl aTs aTc cJ cI cZ (sN_there S 0)) H := hP
        have hD : va_D A (wN aN aIs aKd aNu aSg aVl aTs aTc cJ cI cZ (sN_there S 0)) := hD
        refine lv_goto (tgt := 104) hx hb dX7_plus_65 (by decide) ?_
        exact q_mv (sN_there S 0) hx hb hr hlocks hP hD hS (Eq.symm (by rw [hJ42, f_X7_plus_J42, if_neg c3, if_neg c4])) dX7_plus_104
  refine lv_if_ne (tgt := 42) hx hb dX7_plus_6 (by decide) (fun c1 => ?_) (fun c1 => ?_)
  · exact kJ42 _ _ _ (by rw [f_X7_plus, if_neg c1]) hP hD hS (lv_sub hl [0, 1, 2] rfl)
  · refine lv_aload_n hx hb dX7_plus_9 rfl (lv_at hl 0 rfl) ?_
    refine va_get (D := D) (ci := 4) (v := .ref aSg) (C := RX7) (T := TX7) (N := 15) hx hb hts hin4 hown hK hP 0 rfl rfl 4 (by decide) (hts (.fieldLink RX7 21 "FieldTraceModel" "segment" "[I") (by decide +kernel)) (fun _ h9 => h9) rfl dX7_plus_10 ?_
    refine lv_iload_n hx hb dX7_plus_13 rfl (lv_at hl 2 rfl) ?_
    refine va_iald hx hb hK hP 4 1 rfl rfl (h_a1) dX7_plus_14 ?_
    refine lv_if_ne (tgt := 42) hx hb dX7_plus_15 (by decide) (fun c2 => ?_) (fun c2 => ?_)
    · exact kJ42 _ _ _ (by rw [f_X7_plus, if_pos c1, if_neg c2]) hP hD hS (lv_sub hl [0, 1, 2] rfl)
    · refine lv_aload_n hx hb dX7_plus_18 rfl (lv_at hl 0 rfl) ?_
      refine lv_iconst (v := 0) hx hb dX7_plus_19 (by decide) ?_
      refine lv_iconst (v := 0) hx hb dX7_plus_20 (by decide) ?_
      refine lv_aload_n hx hb dX7_plus_21 rfl (lv_at hl 0 rfl) ?_
      refine va_get (D := D) (ci := 4) (v := .ref aVl) (C := RX7) (T := TX7) (N := 15) hx hb hts hin4 hown hK hP 0 rfl rfl 5 (by decide) (hts (.fieldLink RX7 24 "FieldTraceModel" "value" "[J") (by decide +kernel)) (fun _ h9 => h9) rfl dX7_plus_22 ?_
      refine lv_iload_n hx hb dX7_plus_25 rfl (lv_at hl 1 rfl) ?_
      refine va_lald hx hb hK hP 5 0 rfl rfl (h_a0) dX7_plus_26 ?_
      refine lv_aload_n hx hb dX7_plus_27 rfl (lv_at hl 0 rfl) ?_
      refine va_get (D := D) (ci := 4) (v := .ref aVl) (C := RX7) (T := TX7) (N := 15) hx hb hts hin4 hown hK hP 0 rfl rfl 5 (by decide) (hts (.fieldLink RX7 24 "FieldTraceModel" "value" "[J") (by decide +kernel)) (fun _ h9 => h9) rfl dX7_plus_28 ?_
      refine lv_iload_n hx hb dX7_plus_31 rfl (lv_at hl 2 rfl) ?_
      refine va_lald hx hb hK hP 5 0 rfl rfl (h_a1) dX7_plus_32 ?_
      refine q_callSl (As := [.int 0, .long ((pN_value S) a0.toNatClampNeg), .long ((pN_value S) a1.toNatClampNeg)]) (rest := [.int 0, .ref aN]) (c_X7_operate l D 0 ((pN_value S) a0.toNatClampNeg) ((pN_value S) a1.toNatClampNeg)) hfix (va_cwS 3 hts gX7_plus_X7_operate rfl rfl rfl (by decide +kernel) ⟨Nat.le_of_ble_eq_true rfl, Nat.le_of_ble_eq_true rfl⟩) rfl hl.1 rfl (Nat.le_of_ble_eq_true rfl) ⟨Nat.zero_le _, Nat.zero_le _⟩ hP hK hS hA [] [] rfl rfl dX7_plus_33 (fun H locs hP hS => ?_)
      refine q_callMv (As := [.int 0, .long (f_X7_operate 0 ((pN_value S) a0.toNatClampNeg) ((pN_value S) a1.toNatClampNeg))]) (rest := []) (wr := []) (Wn := (fun u => (wN aN aIs aKd aNu aSg aVl aTs aTc cJ cI cZ u))) (q0 := 0) (ci := 4) (C := RX7) (c_X7_give l D aN aIs aKd aNu aSg aVl aTs aTc cJ cI cZ S 0 (f_X7_operate 0 ((pN_value S) a0.toNatClampNeg) ((pN_value S) a1.toNatClampNeg))) hfix (cwV 2 hts gX7_plus_X7_give rfl rfl rfl (by decide +kernel) ⟨Nat.le_of_ble_eq_true rfl, Nat.le_of_ble_eq_true rfl⟩) rfl hl.1 rfl (Nat.le_of_ble_eq_true rfl) ⟨Nat.zero_le _, Nat.zero_le _⟩ hP hK hD hS hA [0, 1, 2, 3, 4, 5, 6, 7] [] [0, 1, 2, 3, 4, 5, 6, 7] [0, 1, 2] rfl rfl rfl (by decide) (by decide) (by decide) (by decide) (fun _ => rfl) (fun _ => rfl) rfl rfl rfl rfl dX7_plus_36 (fun u H locs hw hP hD hS => ?_)
      obtain rfl := hw
      have hP : va_P D vwCl (wN aN aIs aKd aNu aSg aVl aTs aTc cJ cI cZ (f_X7_give S 0 (f_X7_operate 0 ((pN_value S) a0.toNatClampNeg) ((pN_value S) a1.toNatClampNeg)))) H := hP
      have hD : va_D A (wN aN aIs aKd aNu aSg aVl aTs aTc cJ cI cZ (f_X7_give S 0 (f_X7_operate 0 ((pN_value S) a0.toNatClampNeg) ((pN_value S) a1.toNatClampNeg)))) := hD
      refine lv_goto (tgt := 104) hx hb dX7_plus_39 (by decide) ?_
      exact q_mv (f_X7_give S 0 (f_X7_operate 0 ((pN_value S) a0.toNatClampNeg) ((pN_value S) a1.toNatClampNeg))) hx hb hr hlocks hP hD hS (Eq.symm (by rw [f_X7_plus, if_pos c1, if_pos c2])) dX7_plus_104

theorem ok_f_X7_plus_J68 {R : Int32} {S : NS} {a0 : Int32} {a1 : Int32} (hI : n_ok R S) : n_ok R (f_X7_plus_J68 S a0 a1) := by
  unfold f_X7_plus_J68
  exact ok_ite (P := fun x => n_ok R x) ((ok_X7_stepped hI)) ((ok_X7_stepped hI))

theorem ok_f_X7_plus_J42 {R : Int32} {S : NS} {a0 : Int32} {a1 : Int32} (hI : n_ok R S) : n_ok R (f_X7_plus_J42 S a0 a1) := by
  unfold f_X7_plus_J42
  exact ok_ite (P := fun x => n_ok R x) (ok_f_X7_plus_J68 hI) (ok_ite (P := fun x => n_ok R x) (ok_f_X7_plus_J68 hI) ((ok_p_there hI)))

theorem ok_X7_plus {R : Int32} {S : NS} {a0 : Int32} {a1 : Int32} (hI : n_ok R S) : n_ok R (f_X7_plus S a0 a1) := by
  unfold f_X7_plus
  exact ok_ite (P := fun x => n_ok R x) (ok_ite (P := fun x => n_ok R x) ((ok_X7_give hI (q_vi (by decide)))) (ok_f_X7_plus_J42 hI)) (ok_f_X7_plus_J42 hI)

def f_X7_minus (S : NS) (a0 : Int32) (a1 : Int32) : NS :=
  (if ((pN_segment S) a0.toNatClampNeg) = ((pN_segment S) a1.toNatClampNeg) then (f_X7_give S 0 (f_X7_operate 1 ((pN_value S) a0.toNatClampNeg) ((pN_value S) a1.toNatClampNeg))) else (if ((pN_segment S) a1.toNatClampNeg) = 0 then (f_X7_stepped S a0 ((pN_value S) a1.toNatClampNeg) 1) else (sN_there S 0)))

set_option maxHeartbeats 4000000 in
set_option maxRecDepth 100000 in
theorem c_X7_minus (l : Launch) (D : va_G) (aN aIs aKd aNu aSg aVl aTs aTc : Nat) (cJ cI cZ : ClassId) (S : NS) (a0 : Int32) (a1 : Int32) (h_a0 : vp_in a0 13) (h_a1 : vp_in a1 13) : q_muV l yX7_minus wsX7_minus ({ frames := 3, cells := 0, slots := 0, locals := 85 }) D [(cJ, .long), (cI, .int), (cZ, .boolean)] (wN aN aIs aKd aNu aSg aVl aTs aTc cJ cI cZ S) [.ref aN, .int a0, .int a1] (fun u => u = (f_X7_minus S a0 a1)) (fun u => (wN aN aIs aKd aNu aSg aVl aTs aTc cJ cI cZ u)) := by
  refine q_muV_of (cc := cX7_minus) (maxL := 3) (ret := none) (plainFor_of_name (by decide)) rfl (Nat.le_of_ble_eq_true rfl) ?_
  intro p e s m below meth c ls A hx hb hr hml hown hts hlocks hP hK hD hA hS hl
  have hown : s.vm.findClass RX7 = some m.cls := hown
  have hl : lv_has ls 3 [(0, .ref aN), (1, .int a0), (2, .int a1)] := hl
  have hfix : CallFix p m c cX7_minus 3 s [.ref aN, .int a0, .int a1].toArray wsX7_minus RX7 := ⟨hx, hb, hml, hown, hts⟩
  have hin4 : ∀ w ∈ wsX70, w ∈ wsX7_minus := by decide +kernel
  refine lv_aload_n hx hb dX7_minus_0 rfl (lv_at hl 0 rfl) ?_
  refine va_get (D := D) (ci := 4) (v := .ref aSg) (C := RX7) (T := TX7) (N := 15) hx hb hts hin4 hown hK hP 0 rfl rfl 4 (by decide) (hts (.fieldLink RX7 21 "FieldTraceModel" "segment" "[I") (by decide +kernel)) (fun _ h9 => h9) rfl dX7_minus_1 ?_
  refine lv_iload_n hx hb dX7_minus_4 rfl (lv_at hl 1 rfl) ?_
  refine va_iald hx hb hK hP 4 1 rfl rfl (h_a0) dX7_minus_5 ?_
  refine lv_aload_n hx hb dX7_minus_6 rfl (lv_at hl 0 rfl) ?_
  refine va_get (D := D) (ci := 4) (v := .ref aSg) (C := RX7) (T := TX7) (N := 15) hx hb hts hin4 hown hK hP 0 rfl rfl 4 (by decide) (hts (.fieldLink RX7 21 "FieldTraceModel" "segment" "[I") (by decide +kernel)) (fun _ h9 => h9) rfl dX7_minus_7 ?_
  refine lv_iload_n hx hb dX7_minus_10 rfl (lv_at hl 2 rfl) ?_
  refine va_iald hx hb hK hP 4 1 rfl rfl (h_a1) dX7_minus_11 ?_
  refine lv_icmp_ne (tgt := 39) hx hb dX7_minus_12 (by decide) (fun c1 => ?_) (fun c1 => ?_)
  · refine lv_aload_n hx hb dX7_minus_39 rfl (lv_at hl 0 rfl) ?_
    refine va_get (D := D) (ci := 4) (v := .ref aSg) (C := RX7) (T := TX7) (N := 15) hx hb hts hin4 hown hK hP 0 rfl rfl 4 (by decide) (hts (.fieldLink RX7 21 "FieldTraceModel" "segment" "[I") (by decide +kernel)) (fun _ h9 => h9) rfl dX7_minus_40 ?_
    refine lv_iload_n hx hb dX7_minus_43 rfl (lv_at hl 2 rfl) ?_
    refine va_iald hx hb hK hP 4 1 rfl rfl (h_a1) dX7_minus_44 ?_
    refine lv_if_ne (tgt := 63) hx hb dX7_minus_45 (by decide) (fun c2 => ?_) (fun c2 => ?_)
    · refine lv_aload_n hx hb dX7_minus_63 rfl (lv_at hl 0 rfl) ?_
      refine lv_iconst (v := 0) hx hb dX7_minus_64 (by decide) ?_
      refine va_put (D := D) (ci := 4) (v := .int 0) (ty := .boolean) (C := RX7) (T := TX7) (N := 15) hx hb hts hin4 tyX7 tyX7_ok nmX7 hown hK hP hD hS 0 rfl rfl 6 (by decide) (hts (.fieldLink RX7 57 "FieldTraceModel" "there" "Z") (by decide +kernel)) (fun _ h9 => h9) rfl (by decide +kernel) (rfl) (rfl) (Nat.le_of_ble_eq_true rfl) dX7_minus_65 (fun H locs hP hD hS => ?_)
      have hP : va_P D vwCl (wN aN aIs aKd aNu aSg aVl aTs aTc cJ cI cZ (sN_there S 0)) H := hP
      have hD : va_D A (wN aN aIs aKd aNu aSg aVl aTs aTc cJ cI cZ (sN_there S 0)) := hD
      exact q_mv (sN_there S 0) hx hb hr hlocks hP hD hS (Eq.symm (by rw [f_X7_minus, if_neg c1, if_neg c2])) dX7_minus_68
    · refine lv_aload_n hx hb dX7_minus_48 rfl (lv_at hl 0 rfl) ?_
      refine lv_iload_n hx hb dX7_minus_49 rfl (lv_at hl 1 rfl) ?_
      refine lv_aload_n hx hb dX7_minus_50 rfl (lv_at hl 0 rfl) ?_
      refine va_get (D := D) (ci := 4) (v := .ref aVl) (C := RX7) (T := TX7) (N := 15) hx hb hts hin4 hown hK hP 0 rfl rfl 5 (by decide) (hts (.fieldLink RX7 24 "FieldTraceModel" "value" "[J") (by decide +kernel)) (fun _ h9 => h9) rfl dX7_minus_51 ?_
      refine lv_iload_n hx hb dX7_minus_54 rfl (lv_at hl 2 rfl) ?_
      refine va_lald hx hb hK hP 5 0 rfl rfl (h_a1) dX7_minus_55 ?_
      refine lv_iconst (v := 1) hx hb dX7_minus_56 (by decide) ?_
      refine q_callMv (As := [.int a0, .long ((pN_value S) a1.toNatClampNeg), .int 1]) (rest := []) (wr := []) (Wn := (fun u => (wN aN aIs aKd aNu aSg aVl aTs aTc cJ cI cZ u))) (q0 := 0) (ci := 4) (C := RX7) (c_X7_stepped l D aN aIs aKd aNu aSg aVl aTs aTc cJ cI cZ S a0 ((pN_value S) a1.toNatClampNeg) 1 (h_a0)) hfix (cwV 3 hts gX7_minus_X7_stepped rfl rfl rfl (by decide +kernel) ⟨Nat.le_of_ble_eq_true rfl, Nat.le_of_ble_eq_true rfl⟩) rfl hl.1 rfl (Nat.le_of_ble_eq_true rfl) ⟨Nat.zero_le _, Nat.zero_le _⟩ hP hK hD hS hA [0, 1, 2, 3, 4, 5, 6, 7] [] [0, 1, 2, 3, 4, 5, 6, 7] [0, 1, 2] rfl rfl rfl (by decide) (by decide) (by decide) (by decide) (fun _ => rfl) (fun _ => rfl) rfl rfl rfl rfl dX7_minus_57 (fun u H locs hw hP hD hS => ?_)
      obtain rfl := hw
      have hP : va_P D vwCl (wN aN aIs aKd aNu aSg aVl aTs aTc cJ cI cZ (f_X7_stepped S a0 ((pN_value S) a1.toNatClampNeg) 1)) H := hP
      have hD : va_D A (wN aN aIs aKd aNu aSg aVl aTs aTc cJ cI cZ (f_X7_stepped S a0 ((pN_value S) a1.toNatClampNeg) 1)) := hD
      refine lv_goto (tgt := 68) hx hb dX7_minus_60 (by decide) ?_
      exact q_mv (f_X7_stepped S a0 ((pN_value S) a1.toNatClampNeg) 1) hx hb hr hlocks hP hD hS (Eq.symm (by rw [f_X7_minus, if_neg c1, if_pos c2])) dX7_minus_68
  · refine lv_aload_n hx hb dX7_minus_15 rfl (lv_at hl 0 rfl) ?_
    refine lv_iconst (v := 0) hx hb dX7_minus_16 (by decide) ?_
    refine lv_iconst (v := 1) hx hb dX7_minus_17 (by decide) ?_
    refine lv_aload_n hx hb dX7_minus_18 rfl (lv_at hl 0 rfl) ?_
    refine va_get (D := D) (ci := 4) (v := .ref aVl) (C := RX7) (T := TX7) (N := 15) hx hb hts hin4 hown hK hP 0 rfl rfl 5 (by decide) (hts (.fieldLink RX7 24 "FieldTraceModel" "value" "[J") (by decide +kernel)) (fun _ h9 => h9) rfl dX7_minus_19 ?_
    refine lv_iload_n hx hb dX7_minus_22 rfl (lv_at hl 1 rfl) ?_
    refine va_lald hx hb hK hP 5 0 rfl rfl (h_a0) dX7_minus_23 ?_
    refine lv_aload_n hx hb dX7_minus_24 rfl (lv_at hl 0 rfl) ?_
    refine va_get (D := D) (ci := 4) (v := .ref aVl) (C := RX7) (T := TX7) (N := 15) hx hb hts hin4 hown hK hP 0 rfl rfl 5 (by decide) (hts (.fieldLink RX7 24 "FieldTraceModel" "value" "[J") (by decide +kernel)) (fun _ h9 => h9) rfl dX7_minus_25 ?_
    refine lv_iload_n hx hb dX7_minus_28 rfl (lv_at hl 2 rfl) ?_
    refine va_lald hx hb hK hP 5 0 rfl rfl (h_a1) dX7_minus_29 ?_
    refine q_callSl (As := [.int 1, .long ((pN_value S) a0.toNatClampNeg), .long ((pN_value S) a1.toNatClampNeg)]) (rest := [.int 0, .ref aN]) (c_X7_operate l D 1 ((pN_value S) a0.toNatClampNeg) ((pN_value S) a1.toNatClampNeg)) hfix (va_cwS 3 hts gX7_minus_X7_operate rfl rfl rfl (by decide +kernel) ⟨Nat.le_of_ble_eq_true rfl, Nat.le_of_ble_eq_true rfl⟩) rfl hl.1 rfl (Nat.le_of_ble_eq_true rfl) ⟨Nat.zero_le _, Nat.zero_le _⟩ hP hK hS hA [] [] rfl rfl dX7_minus_30 (fun H locs hP hS => ?_)
    refine q_callMv (As := [.int 0, .long (f_X7_operate 1 ((pN_value S) a0.toNatClampNeg) ((pN_value S) a1.toNatClampNeg))]) (rest := []) (wr := []) (Wn := (fun u => (wN aN aIs aKd aNu aSg aVl aTs aTc cJ cI cZ u))) (q0 := 0) (ci := 4) (C := RX7) (c_X7_give l D aN aIs aKd aNu aSg aVl aTs aTc cJ cI cZ S 0 (f_X7_operate 1 ((pN_value S) a0.toNatClampNeg) ((pN_value S) a1.toNatClampNeg))) hfix (cwV 2 hts gX7_minus_X7_give rfl rfl rfl (by decide +kernel) ⟨Nat.le_of_ble_eq_true rfl, Nat.le_of_ble_eq_true rfl⟩) rfl hl.1 rfl (Nat.le_of_ble_eq_true rfl) ⟨Nat.zero_le _, Nat.zero_le _⟩ hP hK hD hS hA [0, 1, 2, 3, 4, 5, 6, 7] [] [0, 1, 2, 3, 4, 5, 6, 7] [0, 1, 2] rfl rfl rfl (by decide) (by decide) (by decide) (by decide) (fun _ => rfl) (fun _ => rfl) rfl rfl rfl rfl dX7_minus_33 (fun u H locs hw hP hD hS => ?_)
    obtain rfl := hw
    have hP : va_P D vwCl (wN aN aIs aKd aNu aSg aVl aTs aTc cJ cI cZ (f_X7_give S 0 (f_X7_operate 1 ((pN_value S) a0.toNatClampNeg) ((pN_value S) a1.toNatClampNeg)))) H := hP
    have hD : va_D A (wN aN aIs aKd aNu aSg aVl aTs aTc cJ cI cZ (f_X7_give S 0 (f_X7_operate 1 ((pN_value S) a0.toNatClampNeg) ((pN_value S) a1.toNatClampNeg)))) := hD
    refine lv_goto (tgt := 68) hx hb dX7_minus_36 (by decide) ?_
    exact q_mv (f_X7_give S 0 (f_X7_operate 1 ((pN_value S) a0.toNatClampNeg) ((pN_value S) a1.toNatClampNeg))) hx hb hr hlocks hP hD hS (Eq.symm (by rw [f_X7_minus, if_pos c1])) dX7_minus_68

theorem ok_X7_minus {R : Int32} {S : NS} {a0 : Int32} {a1 : Int32} (hI : n_ok R S) : n_ok R (f_X7_minus S a0 a1) := by
  unfold f_X7_minus
  exact ok_ite (P := fun x => n_ok R x) ((ok_X7_give hI (q_vi (by decide)))) (ok_ite (P := fun x => n_ok R x) ((ok_X7_stepped hI)) ((ok_p_there hI)))

def f_X7_times_J60 (S : NS) (a0 : Int32) (a1 : Int32) (t0_39 : Int32) (t0_60 : Int32) : NS :=
  (f_X7_give (sN_there S t0_39) 0 (f_X7_operate t0_60 ((pN_value (sN_there S t0_39)) a0.toNatClampNeg) ((pN_value (sN_there S t0_39)) a1.toNatClampNeg)))

def f_X7_times_J39 (S : NS) (a0 : Int32) (a1 : Int32) (a2 : Int32) (t0_39 : Int32) : NS :=
  (if (pN_there (sN_there S t0_39)) = 0 then (sN_there S t0_39) else (if a2 = 0 then (f_X7_times_J60 S a0 a1 t0_39 2) else (f_X7_times_J60 S a0 a1 t0_39 3)))

def f_X7_times_J34 (S : NS) (a0 : Int32) (a1 : Int32) (a2 : Int32) : NS :=
  (f_X7_times_J39 S a0 a1 a2 1)

def f_X7_times_J38 (S : NS) (a0 : Int32) (a1 : Int32) (a2 : Int32) : NS :=
  (f_X7_times_J39 S a0 a1 a2 0)

def f_X7_times (S : NS) (a0 : Int32) (a1 : Int32) (a2 : Int32) : NS :=
  (if ((pN_segment S) a0.toNatClampNeg) = 0 then (if ((pN_segment S) a1.toNatClampNeg) = 0 then (if a2 = 0 then (f_X7_times_J34 S a0 a1 a2) else (if ((pN_value S) a1.toNatClampNeg) = 0 then (f_X7_times_J38 S a0 a1 a2) else (f_X7_times_J34 S a0 a1 a2))) else (f_X7_times_J38 S a0 a1 a2)) else (f_X7_times_J38 S a0 a1 a2))

set_option maxHeartbeats 4000000 in
set_option maxRecDepth 100000 in
theorem c_X7_times (l : Launch) (D : va_G) (aN aIs aKd aNu aSg aVl aTs aTc : Nat) (cJ cI cZ : ClassId) (S : NS) (a0 : Int32) (a1 : Int32) (a2 : Int32) (h_a0 : vp_in a0 13) (h_a1 : vp_in a1 13) : q_muV l yX7_times wsX7_times ({ frames := 3, cells := 0, slots := 0, locals := 85 }) D [(cJ, .long), (cI, .int), (cZ, .boolean)] (wN aN aIs aKd aNu aSg aVl aTs aTc cJ cI cZ S) [.ref aN, .int a0, .int a1, .int a2] (fun u => u = (f_X7_times S a0 a1 a2)) (fun u => (wN aN aIs aKd aNu aSg aVl aTs aTc cJ cI cZ u)) := by
  refine q_muV_of (cc := cX7_times) (maxL := 4) (ret := none) (plainFor_of_name (by decide)) rfl (Nat.le_of_ble_eq_true rfl) ?_
  intro p e s m below meth c ls A hx hb hr hml hown hts hlocks hP hK hD hA hS hl
  have hown : s.vm.findClass RX7 = some m.cls := hown
  have hl : lv_has ls 4 [(0, .ref aN), (1, .int a0), (2, .int a1), (3, .int a2)] := hl
  have hfix : CallFix p m c cX7_times 4 s [.ref aN, .int a0, .int a1, .int a2].toArray wsX7_times RX7 := ⟨hx, hb, hml, hown, hts⟩
  have hin4 : ∀ w ∈ wsX70, w ∈ wsX7_times := by decide +kernel
  refine lv_aload_n hx hb dX7_times_0 rfl (lv_at hl 0 rfl) ?_
  refine lv_aload_n hx hb dX7_times_1 rfl (lv_at hl 0 rfl) ?_
  refine va_get (D := D) (ci := 4) (v := .ref aSg) (C := RX7) (T := TX7) (N := 15) hx hb hts hin4 hown hK hP 0 rfl rfl 4 (by decide) (hts (.fieldLink RX7 21 "FieldTraceModel" "segment" "[I") (by decide +kernel)) (fun _ h9 => h9) rfl dX7_times_2 ?_
  refine lv_iload_n hx hb dX7_times_5 rfl (lv_at hl 1 rfl) ?_
  refine va_iald hx hb hK hP 4 1 rfl rfl (h_a0) dX7_times_6 ?_
  have kJ39 : ∀ (t0_39 : Int32) (H : Heap) (locs : List Loc) (ls : Array Slot), (t0_39 = 0 ∨ t0_39 = 1) → (f_X7_times S a0 a1 a2) = (f_X7_times_J39 S a0 a1 a2 t0_39) → va_P D vwCl (wN aN aIs aKd aNu aSg aVl aTs aTc cJ cI cZ S) H → va_D A (wN aN aIs aKd aNu aSg aVl aTs aTc cJ cI cZ S) → va_S A s.heap H locs → lv_has ls 4 [(0, .ref aN), (1, .int a0), (2, .int a1), (3, .int a2)] → W p l e ({ frames := 3, cells := 0, slots := 0, locals := 85 }) s m [.ref aN, .int a0, .int a1, .int a2].toArray below meth c H locs 0 0 (MQ below (va_Qv (fun u => u = (f_X7_times S a0 a1 a2)) (fun u t => va_P D vwCl ((fun u => (wN aN aIs aKd aNu aSg aVl aTs aTc cJ cI cZ u)) u) t.heap ∧ va_D A ((fun u => (wN aN aIs aKd aNu aSg aVl aTs aTc cJ cI cZ u)) u)) A) [.ref aN, .int a0, .int a1, .int a2].toArray s 0 0 A) (F0 m 39 ls [.int t0_39, .ref aN]) := by
    intro t0_39 H locs ls hb_t0_39 hJ39 hP hD hS hl
    refine va_put (D := D) (ci := 4) (v := .int t0_39) (ty := .boolean) (C := RX7) (T := TX7) (N := 15) hx hb hts hin4 tyX7 tyX7_ok nmX7 hown hK hP hD hS 0 rfl rfl 6 (by decide) (hts (.fieldLink RX7 57 "FieldTraceModel" "there" "Z") (by decide +kernel)) (fun _ h9 => h9) rfl (by decide +kernel) (q_nb hb_t0_39) (q_fb hb_t0_39) (Nat.le_of_ble_eq_true rfl) dX7_times_39 (fun H locs hP hD hS => ?_)
    have hP : va_P D vwCl (wN aN aIs aKd aNu aSg aVl aTs aTc cJ cI cZ (sN_there S t0_39)) H := hP
    have hD : va_D A (wN aN aIs aKd aNu aSg aVl aTs aTc cJ cI cZ (sN_there S t0_39)) := hD
    refine lv_aload_n hx hb dX7_times_42 rfl (lv_at hl 0 rfl) ?_
    refine va_get (D := D) (ci := 4) (v := .int (pN_there (sN_there S t0_39))) (C := RX7) (T := TX7) (N := 15) hx hb hts hin4 hown hK hP 0 rfl rfl 6 (by decide) (hts (.fieldLink RX7 57 "FieldTraceModel" "there" "Z") (by decide +kernel)) (fun _ h9 => h9) rfl dX7_times_43 ?_
    refine lv_if_eq (tgt := 78) hx hb dX7_times_46 (by decide) (fun c5 => ?_) (fun c5 => ?_)
    · exact q_mv (sN_there S t0_39) hx hb hr hlocks hP hD hS (Eq.symm (by rw [hJ39, f_X7_times_J39, if_pos c5])) dX7_times_78
    · refine lv_aload_n hx hb dX7_times_49 rfl (lv_at hl 0 rfl) ?_
      refine lv_iconst (v := 0) hx hb dX7_times_50 (by decide) ?_
      refine lv_iload_n hx hb dX7_times_51 rfl (lv_at hl 3 rfl) ?_
      have kJ60 : ∀ (t0_60 : Int32) (H : Heap) (locs : List Loc) (ls : Array Slot), (f_X7_times S a0 a1 a2) = (f_X7_times_J60 S a0 a1 t0_39 t0_60) → va_P D vwCl (wN aN aIs aKd aNu aSg aVl aTs aTc cJ cI cZ (sN_there S t0_39)) H → va_D A (wN aN aIs aKd aNu aSg aVl aTs aTc cJ cI cZ (sN_there S t0_39)) → va_S A s.heap H locs → lv_has ls 4 [(0, .ref aN), (1, .int a0), (2, .int a1), (3, .int a2)] → W p l e ({ frames := 3, cells := 0, slots := 0, locals := 85 }) s m [.ref aN, .int a0, .int a1, .int a2].toArray below meth c H locs 0 0 (MQ below (va_Qv (fun u => u = (f_X7_times S a0 a1 a2)) (fun u t => va_P D vwCl ((fun u => (wN aN aIs aKd aNu aSg aVl aTs aTc cJ cI cZ u)) u) t.heap ∧ va_D A ((fun u => (wN aN aIs aKd aNu aSg aVl aTs aTc cJ cI cZ u)) u)) A) [.ref aN, .int a0, .int a1, .int a2].toArray s 0 0 A) (F0 m 60 ls [.int t0_60, .int 0, .ref aN]) := by
        intro t0_60 H locs ls hJ60 hP hD hS hl
        refine lv_aload_n hx hb dX7_times_60 rfl (lv_at hl 0 rfl) ?_
        refine va_get (D := D) (ci := 4) (v := .ref aVl) (C := RX7) (T := TX7) (N := 15) hx hb hts hin4 hown hK hP 0 rfl rfl 5 (by decide) (hts (.fieldLink RX7 24 "FieldTraceModel" "value" "[J") (by decide +kernel)) (fun _ h9 => h9) rfl dX7_times_61 ?_
        refine lv_iload_n hx hb dX7_times_64 rfl (lv_at hl 1 rfl) ?_
        refine va_lald hx hb hK hP 5 0 rfl rfl (h_a0) dX7_times_65 ?_
        refine lv_aload_n hx hb dX7_times_66 rfl (lv_at hl 0 rfl) ?_
        refine va_get (D := D) (ci := 4) (v := .ref aVl) (C := RX7) (T := TX7) (N := 15) hx hb hts hin4 hown hK hP 0 rfl rfl 5 (by decide) (hts (.fieldLink RX7 24 "FieldTraceModel" "value" "[J") (by decide +kernel)) (fun _ h9 => h9) rfl dX7_times_67 ?_
        refine lv_iload_n hx hb dX7_times_70 rfl (lv_at hl 2 rfl) ?_
        refine va_lald hx hb hK hP 5 0 rfl rfl (h_a1) dX7_times_71 ?_
        refine q_callSl (As := [.int t0_60, .long ((pN_value (sN_there S t0_39)) a0.toNatClampNeg), .long ((pN_value (sN_there S t0_39)) a1.toNatClampNeg)]) (rest := [.int 0, .ref aN]) (c_X7_operate l D t0_60 ((pN_value (sN_there S t0_39)) a0.toNatClampNeg) ((pN_value (sN_there S t0_39)) a1.toNatClampNeg)) hfix (va_cwS 3 hts gX7_times_X7_operate rfl rfl rfl (by decide +kernel) ⟨Nat.le_of_ble_eq_true rfl, Nat.le_of_ble_eq_true rfl⟩) rfl hl.1 rfl (Nat.le_of_ble_eq_true rfl) ⟨Nat.zero_le _, Nat.zero_le _⟩ hP hK hS hA [] [] rfl rfl dX7_times_72 (fun H locs hP hS => ?_)
        refine q_callMv (As := [.int 0, .long (f_X7_operate t0_60 ((pN_value (sN_there S t0_39)) a0.toNatClampNeg) ((pN_value (sN_there S t0_39)) a1.toNatClampNeg))]) (rest := []) (wr := []) (Wn := (fun u => (wN aN aIs aKd aNu aSg aVl aTs aTc cJ cI cZ u))) (q0 := 0) (ci := 4) (C := RX7) (c_X7_give l D aN aIs aKd aNu aSg aVl aTs aTc cJ cI cZ (sN_there S t0_39) 0 (f_X7_operate t0_60 ((pN_value (sN_there S t0_39)) a0.toNatClampNeg) ((pN_value (sN_there S t0_39)) a1.toNatClampNeg))) hfix (cwV 2 hts gX7_times_X7_give rfl rfl rfl (by decide +kernel) ⟨Nat.le_of_ble_eq_true rfl, Nat.le_of_ble_eq_true rfl⟩) rfl hl.1 rfl (Nat.le_of_ble_eq_true rfl) ⟨Nat.zero_le _, Nat.zero_le _⟩ hP hK hD hS hA [0, 1, 2, 3, 4, 5, 6, 7] [] [0, 1, 2, 3, 4, 5, 6, 7] [0, 1, 2] rfl rfl rfl (by decide) (by decide) (by decide) (by decide) (fun _ => rfl) (fun _ => rfl) rfl rfl rfl rfl dX7_times_75 (fun u H locs hw hP hD hS => ?_)
        obtain rfl := hw
        have hP : va_P D vwCl (wN aN aIs aKd aNu aSg aVl aTs aTc cJ cI cZ (f_X7_give (sN_there S t0_39) 0 (f_X7_operate t0_60 ((pN_value (sN_there S t0_39)) a0.toNatClampNeg) ((pN_value (sN_there S t0_39)) a1.toNatClampNeg)))) H := hP
        have hD : va_D A (wN aN aIs aKd aNu aSg aVl aTs aTc cJ cI cZ (f_X7_give (sN_there S t0_39) 0 (f_X7_operate t0_60 ((pN_value (sN_there S t0_39)) a0.toNatClampNeg) ((pN_value (sN_there S t0_39)) a1.toNatClampNeg)))) := hD
        exact q_mv (f_X7_give (sN_there S t0_39) 0 (f_X7_operate t0_60 ((pN_value (sN_there S t0_39)) a0.toNatClampNeg) ((pN_value (sN_there S t0_39)) a1.toNatClampNeg))) hx hb hr hlocks hP hD hS (Eq.symm (by rw [hJ60, f_X7_times_J60])) dX7_times_78
      refine lv_if_eq (tgt := 59) hx hb dX7_times_52 (by decide) (fun c6 => ?_) (fun c6 => ?_)
      · refine lv_iconst (v := 2) hx hb dX7_times_59 (by decide) ?_
        exact kJ60 2 _ _ _ (by rw [hJ39, f_X7_times_J39, if_neg c5, if_pos c6]) hP hD hS (lv_sub hl [0, 1, 2, 3] rfl)
      · refine lv_iconst (v := 3) hx hb dX7_times_55 (by decide) ?_
        refine lv_goto (tgt := 60) hx hb dX7_times_56 (by decide) ?_
        exact kJ60 3 _ _ _ (by rw [hJ39, f_X7_times_J39, if_neg c5, if_neg c6]) hP hD hS (lv_sub hl [0, 1, 2, 3] rfl)
  have kJ38 : ∀ (H : Heap) (locs : List Loc) (ls : Array Slot), (f_X7_times S a0 a1 a2) = (f_X7_times_J38 S a0 a1 a2) → va_P D vwCl (wN aN aIs aKd aNu aSg aVl aTs aTc cJ cI cZ S) H → va_D A (wN aN aIs aKd aNu aSg aVl aTs aTc cJ cI cZ S) → va_S A s.heap H locs → lv_has ls 4 [(0, .ref aN), (1, .int a0), (2, .int a1), (3, .int a2)] → W p l e ({ frames := 3, cells := 0, slots := 0, locals := 85 }) s m [.ref aN, .int a0, .int a1, .int a2].toArray below meth c H locs 0 0 (MQ below (va_Qv (fun u => u = (f_X7_times S a0 a1 a2)) (fun u t => va_P D vwCl ((fun u => (wN aN aIs aKd aNu aSg aVl aTs aTc cJ cI cZ u)) u) t.heap ∧ va_D A ((fun u => (wN aN aIs aKd aNu aSg aVl aTs aTc cJ cI cZ u)) u)) A) [.ref aN, .int a0, .int a1, .int a2].toArray s 0 0 A) (F0 m 38 ls [.ref aN]) := by
    intro H locs ls hJ38 hP hD hS hl
    refine lv_iconst (v := 0) hx hb dX7_times_38 (by decide) ?_
    exact kJ39 0 _ _ _ (Or.inl rfl) (by rw [hJ38, f_X7_times_J38]) hP hD hS (lv_sub hl [0, 1, 2, 3] rfl)
  refine lv_if_ne (tgt := 38) hx hb dX7_times_7 (by decide) (fun c1 => ?_) (fun c1 => ?_)
  · exact kJ38 _ _ _ (by rw [f_X7_times, if_neg c1]) hP hD hS (lv_sub hl [0, 1, 2, 3] rfl)
  · refine lv_aload_n hx hb dX7_times_10 rfl (lv_at hl 0 rfl) ?_
    refine va_get (D := D) (ci := 4) (v := .ref aSg) (C := RX7) (T := TX7) (N := 15) hx hb hts hin4 hown hK hP 0 rfl rfl 4 (by decide) (hts (.fieldLink RX7 21 "FieldTraceModel" "segment" "[I") (by decide +kernel)) (fun _ h9 => h9) rfl dX7_times_11 ?_
    refine lv_iload_n hx hb dX7_times_14 rfl (lv_at hl 2 rfl) ?_
    refine va_iald hx hb hK hP 4 1 rfl rfl (h_a1) dX7_times_15 ?_
    refine lv_if_ne (tgt := 38) hx hb dX7_times_16 (by decide) (fun c2 => ?_) (fun c2 => ?_)
    · exact kJ38 _ _ _ (by rw [f_X7_times, if_pos c1, if_neg c2]) hP hD hS (lv_sub hl [0, 1, 2, 3] rfl)
    · refine lv_iload_n hx hb dX7_times_19 rfl (lv_at hl 3 rfl) ?_
      have kJ34 : ∀ (H : Heap) (locs : List Loc) (ls : Array Slot), (f_X7_times S a0 a1 a2) = (f_X7_times_J34 S a0 a1 a2) → va_P D vwCl (wN aN aIs aKd aNu aSg aVl aTs aTc cJ cI cZ S) H → va_D A (wN aN aIs aKd aNu aSg aVl aTs aTc cJ cI cZ S) → va_S A s.heap H locs → lv_has ls 4 [(0, .ref aN), (1, .int a0), (2, .int a1), (3, .int a2)] → W p l e ({ frames := 3, cells := 0, slots := 0, locals := 85 }) s m [.ref aN, .int a0, .int a1, .int a2].toArray below meth c H locs 0 0 (MQ below (va_Qv (fun u => u = (f_X7_times S a0 a1 a2)) (fun u t => va_P D vwCl ((fun u => (wN aN aIs aKd aNu aSg aVl aTs aTc cJ cI cZ u)) u) t.heap ∧ va_D A ((fun u => (wN aN aIs aKd aNu aSg aVl aTs aTc cJ cI cZ u)) u)) A) [.ref aN, .int a0, .int a1, .int a2].toArray s 0 0 A) (F0 m 34 ls [.ref aN]) := by
        intro H locs ls hJ34 hP hD hS hl
        refine lv_iconst (v := 1) hx hb dX7_times_34 (by decide) ?_
        refine lv_goto (tgt := 39) hx hb dX7_times_35 (by decide) ?_
        exact kJ39 1 _ _ _ (Or.inr rfl) (by rw [hJ34, f_X7_times_J34]) hP hD hS (lv_sub hl [0, 1, 2, 3] rfl)
      refine lv_if_eq (tgt := 34) hx hb dX7_times_20 (by decide) (fun c3 => ?_) (fun c3 => ?_)
      · exact kJ34 _ _ _ (by rw [f_X7_times, if_pos c1, if_pos c2, if_pos c3]) hP hD hS (lv_sub hl [0, 1, 2, 3] rfl)
      · refine lv_aload_n hx hb dX7_times_23 rfl (lv_at hl 0 rfl) ?_
        refine va_get (D := D) (ci := 4) (v := .ref aVl) (C := RX7) (T := TX7) (N := 15) hx hb hts hin4 hown hK hP 0 rfl rfl 5 (by decide) (hts (.fieldLink RX7 24 "FieldTraceModel" "value" "[J") (by decide +kernel)) (fun _ h9 => h9) rfl dX7_times_24 ?_
        refine lv_iload_n hx hb dX7_times_27 rfl (lv_at hl 2 rfl) ?_
        refine va_lald hx hb hK hP 5 0 rfl rfl (h_a1) dX7_times_28 ?_
        refine lv_lconst (v := 0) hx hb dX7_times_29 (by decide) ?_
        refine q_eq (tgt := 38) hx hb dX7_times_30 dX7_times_31 (by decide) (fun c4 => ?_) (fun c4 => ?_)
        · exact kJ38 _ _ _ (by rw [f_X7_times, if_pos c1, if_pos c2, if_neg c3, if_pos c4]) hP hD hS (lv_sub hl [0, 1, 2, 3] rfl)
        · exact kJ34 _ _ _ (by rw [f_X7_times, if_pos c1, if_pos c2, if_neg c3, if_neg c4]) hP hD hS (lv_sub hl [0, 1, 2, 3] rfl)

theorem ok_f_X7_times_J60 {R : Int32} {S : NS} {a0 : Int32} {a1 : Int32} {t0_39 : Int32} {t0_60 : Int32} (hI : n_ok R S) : n_ok R (f_X7_times_J60 S a0 a1 t0_39 t0_60) := by
  unfold f_X7_times_J60
  exact (ok_X7_give (ok_p_there hI) (q_vi (by decide)))

theorem ok_f_X7_times_J39 {R : Int32} {S : NS} {a0 : Int32} {a1 : Int32} {a2 : Int32} {t0_39 : Int32} (hI : n_ok R S) : n_ok R (f_X7_times_J39 S a0 a1 a2 t0_39) := by
  unfold f_X7_times_J39
  exact ok_ite (P := fun x => n_ok R x) ((ok_p_there hI)) (ok_ite (P := fun x => n_ok R x) (ok_f_X7_times_J60 hI) (ok_f_X7_times_J60 hI))

theorem ok_f_X7_times_J34 {R : Int32} {S : NS} {a0 : Int32} {a1 : Int32} {a2 : Int32} (hI : n_ok R S) : n_ok R (f_X7_times_J34 S a0 a1 a2) := by
  unfold f_X7_times_J34
  exact ok_f_X7_times_J39 hI

theorem ok_f_X7_times_J38 {R : Int32} {S : NS} {a0 : Int32} {a1 : Int32} {a2 : Int32} (hI : n_ok R S) : n_ok R (f_X7_times_J38 S a0 a1 a2) := by
  unfold f_X7_times_J38
  exact ok_f_X7_times_J39 hI

theorem ok_X7_times {R : Int32} {S : NS} {a0 : Int32} {a1 : Int32} {a2 : Int32} (hI : n_ok R S) : n_ok R (f_X7_times S a0 a1 a2) := by
  unfold f_X7_times
  exact ok_ite (P := fun x => n_ok R x) (ok_ite (P := fun x => n_ok R x) (ok_ite (P := fun x => n_ok R x) (ok_f_X7_times_J34 hI) (ok_ite (P := fun x => n_ok R x) (ok_f_X7_times_J38 hI) (ok_f_X7_times_J34 hI))) (ok_f_X7_times_J38 hI)) (ok_f_X7_times_J38 hI)

def f_X7_read_J53 (S : NS) (t0_53 : Int32) : NS :=
  (sN_got (sN_gotKind (sN_there S t0_53) ((pN_kind (sN_there S t0_53)) (0 : Int32).toNatClampNeg)) ((pN_number (sN_gotKind (sN_there S t0_53) ((pN_kind (sN_there S t0_53)) (0 : Int32).toNatClampNeg))) (0 : Int32).toNatClampNeg))

def f_X7_read_J52 (S : NS) : NS :=
  (f_X7_read_J53 S 0)

def f_X7_read_J53b (S : NS) (a0 : Int32) (t0_53 : Int32) : NS :=
  (sN_got (sN_gotKind (sN_there S t0_53) ((pN_kind (sN_there S t0_53)) ((64 * ((pN_segment S) a0.toNatClampNeg)) + (((pN_value S) a0.toNatClampNeg : Int64).toInt32)).toNatClampNeg)) ((pN_number (sN_gotKind (sN_there S t0_53) ((pN_kind (sN_there S t0_53)) ((64 * ((pN_segment S) a0.toNatClampNeg)) + (((pN_value S) a0.toNatClampNeg : Int64).toInt32)).toNatClampNeg))) ((64 * ((pN_segment S) a0.toNatClampNeg)) + (((pN_value S) a0.toNatClampNeg : Int64).toInt32)).toNatClampNeg))

def f_X7_read_J52b (S : NS) (a0 : Int32) : NS :=
  (f_X7_read_J53b S a0 0)

def f_X7_read (S : NS) (a0 : Int32) : NS :=
  (if (f_X7_isCell ((pN_value S) a0.toNatClampNeg)) = 0 then (if (0 : Int32) ≤ 0 then (f_X7_read_J52 S) else (if ((pN_isSet S) (0 : Int32).toNatClampNeg) = 0 then (f_X7_read_J52 S) else (f_X7_read_J53 S 1))) else (if ((64 * ((pN_segment S) a0.toNatClampNeg)) + (((pN_value S) a0.toNatClampNeg : Int64).toInt32)) ≤ 0 then (f_X7_read_J52b S a0) else (if ((pN_isSet S) ((64 * ((pN_segment S) a0.toNatClampNeg)) + (((pN_value S) a0.toNatClampNeg : Int64).toInt32)).toNatClampNeg) = 0 then (f_X7_read_J52b S a0) else (f_X7_read_J53b S a0 1))))

set_option maxHeartbeats 4000000 in
set_option maxRecDepth 100000 in
theorem c_X7_read (l : Launch) (D : va_G) (aN aIs aKd aNu aSg aVl aTs aTc : Nat) (cJ cI cZ : ClassId) (S : NS) (a0 : Int32) (h_a0 : vp_in a0 13) (hs : vp_in (pN_segment S a0.toNatClampNeg) 6) : q_muV l yX7_read wsX7_read ({ frames := 1, cells := 0, slots := 0, locals := 21 }) D [(cJ, .long), (cI, .int), (cZ, .boolean)] (wN aN aIs aKd aNu aSg aVl aTs aTc cJ cI cZ S) [.ref aN, .int a0] (fun u => u = (f_X7_read S a0)) (fun u => (wN aN aIs aKd aNu aSg aVl aTs aTc cJ cI cZ u)) := by
  refine q_muV_of (cc := cX7_read) (maxL := 3) (ret := none) (plainFor_of_name (by decide)) rfl (Nat.le_of_ble_eq_true rfl) ?_
  intro p e s m below meth c ls A hx hb hr hml hown hts hlocks hP hK hD hA hS hl
  have hown : s.vm.findClass RX7 = some m.cls := hown
  have hl : lv_has ls 3 [(0, .ref aN), (1, .int a0)] := hl
  have hfix : CallFix p m c cX7_read 3 s [.ref aN, .int a0].toArray wsX7_read RX7 := ⟨hx, hb, hml, hown, hts⟩
  have hin4 : ∀ w ∈ wsX70, w ∈ wsX7_read := by decide +kernel
  refine lv_aload_n hx hb dX7_read_0 rfl (lv_at hl 0 rfl) ?_
  refine va_get (D := D) (ci := 4) (v := .ref aVl) (C := RX7) (T := TX7) (N := 15) hx hb hts hin4 hown hK hP 0 rfl rfl 5 (by decide) (hts (.fieldLink RX7 24 "FieldTraceModel" "value" "[J") (by decide +kernel)) (fun _ h9 => h9) rfl dX7_read_1 ?_
  refine lv_iload_n hx hb dX7_read_4 rfl (lv_at hl 1 rfl) ?_
  refine va_lald hx hb hK hP 5 0 rfl rfl (h_a0) dX7_read_5 ?_
  refine q_callSi (As := [.long ((pN_value S) a0.toNatClampNeg)]) (rest := []) (c_X7_isCell l D ((pN_value S) a0.toNatClampNeg)) hfix (va_cwS 1 hts gX7_read_X7_isCell rfl rfl rfl (by decide +kernel) ⟨Nat.le_of_ble_eq_true rfl, Nat.le_of_ble_eq_true rfl⟩) rfl hl.1 rfl (Nat.le_of_ble_eq_true rfl) ⟨Nat.zero_le _, Nat.zero_le _⟩ hP hK hS hA [] [] rfl rfl dX7_read_6 (fun H locs hP hS => ?_)
  refine lv_if_eq (tgt := 32) hx hb dX7_read_9 (by decide) (fun c1 => ?_) (fun c1 => ?_)
  · refine lv_iconst (v := 0) hx hb dX7_read_32 (by decide) ?_
    refine lv_istore_n (lv' := [(2, .int 0), (0, .ref aN), (1, .int a0)]) hx hb dX7_read_33 rfl hl (by decide) rfl (fun ls hl => ?_)
    refine lv_aload_n hx hb dX7_read_34 rfl (lv_at hl 1 rfl) ?_
    refine lv_iload_n hx hb dX7_read_35 rfl (lv_at hl 0 rfl) ?_
    have kJ53 : ∀ (t0_53 : Int32) (H : Heap) (locs : List Loc) (ls : Array Slot), (t0_53 = 0 ∨ t0_53 = 1) → (f_X7_read S a0) = (f_X7_read_J53 S t0_53) → va_P D vwCl (wN aN aIs aKd aNu aSg aVl aTs aTc cJ cI cZ S) H → va_D A (wN aN aIs aKd aNu aSg aVl aTs aTc cJ cI cZ S) → va_S A s.heap H locs → lv_has ls 3 [(0, .ref aN), (1, .int a0), (2, .int 0)] → W p l e ({ frames := 1, cells := 0, slots := 0, locals := 21 }) s m [.ref aN, .int a0].toArray below meth c H locs 0 0 (MQ below (va_Qv (fun u => u = (f_X7_read S a0)) (fun u t => va_P D vwCl ((fun u => (wN aN aIs aKd aNu aSg aVl aTs aTc cJ cI cZ u)) u) t.heap ∧ va_D A ((fun u => (wN aN aIs aKd aNu aSg aVl aTs aTc cJ cI cZ u)) u)) A) [.ref aN, .int a0].toArray s 0 0 A) (F0 m 53 ls [.int t0_53, .ref aN]) := by
      intro t0_53 H locs ls hb_t0_53 hJ53 hP hD hS hl
      refine va_put (D := D) (ci := 4) (v := .int t0_53) (ty := .boolean) (C := RX7) (T := TX7) (N := 15) hx hb hts hin4 tyX7 tyX7_ok nmX7 hown hK hP hD hS 0 rfl rfl 6 (by decide) (hts (.fieldLink RX7 57 "FieldTraceModel" "there" "Z") (by decide +kernel)) (fun _ h9 => h9) rfl (by decide +kernel) (q_nb hb_t0_53) (q_fb hb_t0_53) (Nat.le_of_ble_eq_true rfl) dX7_read_53 (fun H locs hP hD hS => ?_)
      have hP : va_P D vwCl (wN aN aIs aKd aNu aSg aVl aTs aTc cJ cI cZ (sN_there S t0_53)) H := hP
      have hD : va_D A (wN aN aIs aKd aNu aSg aVl aTs aTc cJ cI cZ (sN_there S t0_53)) := hD
      refine lv_aload_n hx hb dX7_read_56 rfl (lv_at hl 0 rfl) ?_
      refine lv_aload_n hx hb dX7_read_57 rfl (lv_at hl 0 rfl) ?_
      refine va_get (D := D) (ci := 4) (v := .ref aKd) (C := RX7) (T := TX7) (N := 15) hx hb hts hin4 hown hK hP 0 rfl rfl 2 (by decide) (hts (.fieldLink RX7 13 "FieldTraceModel" "kind" "[I") (by decide +kernel)) (fun _ h9 => h9) rfl dX7_read_58 ?_
      refine lv_iload_n hx hb dX7_read_61 rfl (lv_at hl 2 rfl) ?_
      refine va_iald hx hb hK hP 2 1 rfl rfl (q_vi (by decide)) dX7_read_62 ?_
      refine va_put (D := D) (ci := 4) (v := .int ((pN_kind (sN_there S t0_53)) (0 : Int32).toNatClampNeg)) (ty := .int) (C := RX7) (T := TX7) (N := 15) hx hb hts hin4 tyX7 tyX7_ok nmX7 hown hK hP hD hS 0 rfl rfl 7 (by decide) (hts (.fieldLink RX7 50 "FieldTraceModel" "gotKind" "I") (by decide +kernel)) (fun _ h9 => h9) rfl (by decide +kernel) (rfl) (rfl) (Nat.le_of_ble_eq_true rfl) dX7_read_63 (fun H locs hP hD hS => ?_)
      have hP : va_P D vwCl (wN aN aIs aKd aNu aSg aVl aTs aTc cJ cI cZ (sN_gotKind (sN_there S t0_53) ((pN_kind (sN_there S t0_53)) (0 : Int32).toNatClampNeg))) H := hP
      have hD : va_D A (wN aN aIs aKd aNu aSg aVl aTs aTc cJ cI cZ (sN_gotKind (sN_there S t0_53) ((pN_kind (sN_there S t0_53)) (0 : Int32).toNatClampNeg))) := hD
      refine lv_aload_n hx hb dX7_read_66 rfl (lv_at hl 0 rfl) ?_
      refine lv_aload_n hx hb dX7_read_67 rfl (lv_at hl 0 rfl) ?_
      refine va_get (D := D) (ci := 4) (v := .ref aNu) (C := RX7) (T := TX7) (N := 15) hx hb hts hin4 hown hK hP 0 rfl rfl 3 (by decide) (hts (.fieldLink RX7 17 "FieldTraceModel" "number" "[J") (by decide +kernel)) (fun _ h9 => h9) rfl dX7_read_68 ?_
      refine lv_iload_n hx hb dX7_read_71 rfl (lv_at hl 2 rfl) ?_
      refine va_lald hx hb hK hP 3 0 rfl rfl (q_vi (by decide)) dX7_read_72 ?_
      refine va_put (D := D) (ci := 4) (v := .long ((pN_number (sN_gotKind (sN_there S t0_53) ((pN_kind (sN_there S t0_53)) (0 : Int32).toNatClampNeg))) (0 : Int32).toNatClampNeg)) (ty := .long) (C := RX7) (T := TX7) (N := 15) hx hb hts hin4 tyX7 tyX7_ok nmX7 hown hK hP hD hS 0 rfl rfl 8 (by decide) (hts (.fieldLink RX7 53 "FieldTraceModel" "got" "J") (by decide +kernel)) (fun _ h9 => h9) rfl (by decide +kernel) (rfl) (rfl) (Nat.le_of_ble_eq_true rfl) dX7_read_73 (fun H locs hP hD hS => ?_)
      have hP : va_P D vwCl (wN aN aIs aKd aNu aSg aVl aTs aTc cJ cI cZ (sN_got (sN_gotKind (sN_there S t0_53) ((pN_kind (sN_there S t0_53)) (0 : Int32).toNatClampNeg)) ((pN_number (sN_gotKind (sN_there S t0_53) ((pN_kind (sN_there S t0_53)) (0 : Int32).toNatClampNeg))) (0 : Int32).toNatClampNeg))) H := hP
      have hD : va_D A (wN aN aIs aKd aNu aSg aVl aTs aTc cJ cI cZ (sN_got (sN_gotKind (sN_there S t0_53) ((pN_kind (sN_there S t0_53)) (0 : Int32).toNatClampNeg)) ((pN_number (sN_gotKind (sN_there S t0_53) ((pN_kind (sN_there S t0_53)) (0 : Int32).toNatClampNeg))) (0 : Int32).toNatClampNeg))) := hD
      exact q_mv (sN_got (sN_gotKind (sN_there S t0_53) ((pN_kind (sN_there S t0_53)) (0 : Int32).toNatClampNeg)) ((pN_number (sN_gotKind (sN_there S t0_53) ((pN_kind (sN_there S t0_53)) (0 : Int32).toNatClampNeg))) (0 : Int32).toNatClampNeg)) hx hb hr hlocks hP hD hS (Eq.symm (by rw [hJ53, f_X7_read_J53])) dX7_read_76
    have kJ52 : ∀ (H : Heap) (locs : List Loc) (ls : Array Slot), (f_X7_read S a0) = (f_X7_read_J52 S) → va_P D vwCl (wN aN aIs aKd aNu aSg aVl aTs aTc cJ cI cZ S) H → va_D A (wN aN aIs aKd aNu aSg aVl aTs aTc cJ cI cZ S) → va_S A s.heap H locs → lv_has ls 3 [(0, .ref aN), (1, .int a0), (2, .int 0)] → W p l e ({ frames := 1, cells := 0, slots := 0, locals := 21 }) s m [.ref aN, .int a0].toArray below meth c H locs 0 0 (MQ below (va_Qv (fun u => u = (f_X7_read S a0)) (fun u t => va_P D vwCl ((fun u => (wN aN aIs aKd aNu aSg aVl aTs aTc cJ cI cZ u)) u) t.heap ∧ va_D A ((fun u => (wN aN aIs aKd aNu aSg aVl aTs aTc cJ cI cZ u)) u)) A) [.ref aN, .int a0].toArray s 0 0 A) (F0 m 52 ls [.ref aN]) := by
      intro H locs ls hJ52 hP hD hS hl
      refine lv_iconst (v := 0) hx hb dX7_read_52 (by decide) ?_
      exact kJ53 0 _ _ _ (Or.inl rfl) (by rw [hJ52, f_X7_read_J52]) hP hD hS (lv_sub hl [0, 1, 2] rfl)
    refine lv_if_le (tgt := 52) hx hb dX7_read_36 (by decide) (fun c2 => ?_) (fun c2 => ?_)
    · exact kJ52 _ _ _ (by rw [f_X7_read, if_pos c1, if_pos c2]) hP hD hS (lv_sub hl [1, 2, 0] rfl)
    · refine lv_aload_n hx hb dX7_read_39 rfl (lv_at hl 1 rfl) ?_
      refine va_get (D := D) (ci := 4) (v := .ref aIs) (C := RX7) (T := TX7) (N := 15) hx hb hts hin4 hown hK hP 0 rfl rfl 1 (by decide) (hts (.fieldLink RX7 7 "FieldTraceModel" "isSet" "[Z") (by decide +kernel)) (fun _ h9 => h9) rfl dX7_read_40 ?_
      refine lv_iload_n hx hb dX7_read_43 rfl (lv_at hl 0 rfl) ?_
      refine va_zald hx hb hK hP 1 2 rfl rfl (q_vi (by decide)) dX7_read_44 ?_
      refine lv_if_eq (tgt := 52) hx hb dX7_read_45 (by decide) (fun c3 => ?_) (fun c3 => ?_)
      · exact kJ52 _ _ _ (by rw [f_X7_read, if_pos c1, if_neg c2, if_pos c3]) hP hD hS (lv_sub hl [1, 2, 0] rfl)
      · refine lv_iconst (v := 1) hx hb dX7_read_48 (by decide) ?_
        refine lv_goto (tgt := 53) hx hb dX7_read_49 (by decide) ?_
        exact kJ53 1 _ _ _ (Or.inr rfl) (by rw [f_X7_read, if_pos c1, if_neg c2, if_neg c3]) hP hD hS (lv_sub hl [1, 2, 0] rfl)
  · refine lv_bipush (v := 64) hx hb dX7_read_12 (by decide) ?_
    refine lv_aload_n hx hb dX7_read_14 rfl (lv_at hl 0 rfl) ?_
    refine va_get (D := D) (ci := 4) (v := .ref aSg) (C := RX7) (T := TX7) (N := 15) hx hb hts hin4 hown hK hP 0 rfl rfl 4 (by decide) (hts (.fieldLink RX7 21 "FieldTraceModel" "segment" "[I") (by decide +kernel)) (fun _ h9 => h9) rfl dX7_read_15 ?_
    refine lv_iload_n hx hb dX7_read_18 rfl (lv_at hl 1 rfl) ?_
    refine va_iald hx hb hK hP 4 1 rfl rfl (h_a0) dX7_read_19 ?_
    refine lv_imul hx hb dX7_read_20 ?_
    refine lv_aload_n hx hb dX7_read_21 rfl (lv_at hl 0 rfl) ?_
    refine va_get (D := D) (ci := 4) (v := .ref aVl) (C := RX7) (T := TX7) (N := 15) hx hb hts hin4 hown hK hP 0 rfl rfl 5 (by decide) (hts (.fieldLink RX7 24 "FieldTraceModel" "value" "[J") (by decide +kernel)) (fun _ h9 => h9) rfl dX7_read_22 ?_
    refine lv_iload_n hx hb dX7_read_25 rfl (lv_at hl 1 rfl) ?_
    refine va_lald hx hb hK hP 5 0 rfl rfl (h_a0) dX7_read_26 ?_
    refine lv_l2i hx hb dX7_read_27 rfl ?_
    refine lv_iadd hx hb dX7_read_28 ?_
    refine lv_goto (tgt := 33) hx hb dX7_read_29 (by decide) ?_
    refine lv_istore_n (lv' := [(2, .int ((64 * ((pN_segment S) a0.toNatClampNeg)) + (((pN_value S) a0.toNatClampNeg : Int64).toInt32))), (0, .ref aN), (1, .int a0)]) hx hb dX7_read_33 rfl hl (by decide) rfl (fun ls hl => ?_)
    refine lv_aload_n hx hb dX7_read_34 rfl (lv_at hl 1 rfl) ?_
    refine lv_iload_n hx hb dX7_read_35 rfl (lv_at hl 0 rfl) ?_
    have kJ53 : ∀ (t0_53 : Int32) (H : Heap) (locs : List Loc) (ls : Array Slot), (t0_53 = 0 ∨ t0_53 = 1) → (f_X7_read S a0) = (f_X7_read_J53b S a0 t0_53) → va_P D vwCl (wN aN aIs aKd aNu aSg aVl aTs aTc cJ cI cZ S) H → va_D A (wN aN aIs aKd aNu aSg aVl aTs aTc cJ cI cZ S) → va_S A s.heap H locs → lv_has ls 3 [(0, .ref aN), (1, .int a0), (2, .int ((64 * ((pN_segment S) a0.toNatClampNeg)) + (((pN_value S) a0.toNatClampNeg : Int64).toInt32)))] → W p l e ({ frames := 1, cells := 0, slots := 0, locals := 21 }) s m [.ref aN, .int a0].toArray below meth c H locs 0 0 (MQ below (va_Qv (fun u => u = (f_X7_read S a0)) (fun u t => va_P D vwCl ((fun u => (wN aN aIs aKd aNu aSg aVl aTs aTc cJ cI cZ u)) u) t.heap ∧ va_D A ((fun u => (wN aN aIs aKd aNu aSg aVl aTs aTc cJ cI cZ u)) u)) A) [.ref aN, .int a0].toArray s 0 0 A) (F0 m 53 ls [.int t0_53, .ref aN]) := by
      intro t0_53 H locs ls hb_t0_53 hJ53 hP hD hS hl
      refine va_put (D := D) (ci := 4) (v := .int t0_53) (ty := .boolean) (C := RX7) (T := TX7) (N := 15) hx hb hts hin4 tyX7 tyX7_ok nmX7 hown hK hP hD hS 0 rfl rfl 6 (by decide) (hts (.fieldLink RX7 57 "FieldTraceModel" "there" "Z") (by decide +kernel)) (fun _ h9 => h9) rfl (by decide +kernel) (q_nb hb_t0_53) (q_fb hb_t0_53) (Nat.le_of_ble_eq_true rfl) dX7_read_53 (fun H locs hP hD hS => ?_)
      have hP : va_P D vwCl (wN aN aIs aKd aNu aSg aVl aTs aTc cJ cI cZ (sN_there S t0_53)) H := hP
      have hD : va_D A (wN aN aIs aKd aNu aSg aVl aTs aTc cJ cI cZ (sN_there S t0_53)) := hD
      refine lv_aload_n hx hb dX7_read_56 rfl (lv_at hl 0 rfl) ?_
      refine lv_aload_n hx hb dX7_read_57 rfl (lv_at hl 0 rfl) ?_
      refine va_get (D := D) (ci := 4) (v := .ref aKd) (C := RX7) (T := TX7) (N := 15) hx hb hts hin4 hown hK hP 0 rfl rfl 2 (by decide) (hts (.fieldLink RX7 13 "FieldTraceModel" "kind" "[I") (by decide +kernel)) (fun _ h9 => h9) rfl dX7_read_58 ?_
      refine lv_iload_n hx hb dX7_read_61 rfl (lv_at hl 2 rfl) ?_
      refine va_iald hx hb hK hP 2 1 rfl rfl (n_c hs (n_cel c1)) dX7_read_62 ?_
      refine va_put (D := D) (ci := 4) (v := .int ((pN_kind (sN_there S t0_53)) ((64 * ((pN_segment S) a0.toNatClampNeg)) + (((pN_value S) a0.toNatClampNeg : Int64).toInt32)).toNatClampNeg)) (ty := .int) (C := RX7) (T := TX7) (N := 15) hx hb hts hin4 tyX7 tyX7_ok nmX7 hown hK hP hD hS 0 rfl rfl 7 (by decide) (hts (.fieldLink RX7 50 "FieldTraceModel" "gotKind" "I") (by decide +kernel)) (fun _ h9 => h9) rfl (by decide +kernel) (rfl) (rfl) (Nat.le_of_ble_eq_true rfl) dX7_read_63 (fun H locs hP hD hS => ?_)
      have hP : va_P D vwCl (wN aN aIs aKd aNu aSg aVl aTs aTc cJ cI cZ (sN_gotKind (sN_there S t0_53) ((pN_kind (sN_there S t0_53)) ((64 * ((pN_segment S) a0.toNatClampNeg)) + (((pN_value S) a0.toNatClampNeg : Int64).toInt32)).toNatClampNeg))) H := hP
      have hD : va_D A (wN aN aIs aKd aNu aSg aVl aTs aTc cJ cI cZ (sN_gotKind (sN_there S t0_53) ((pN_kind (sN_there S t0_53)) ((64 * ((pN_segment S) a0.toNatClampNeg)) + (((pN_value S) a0.toNatClampNeg : Int64).toInt32)).toNatClampNeg))) := hD
      refine lv_aload_n hx hb dX7_read_66 rfl (lv_at hl 0 rfl) ?_
      refine lv_aload_n hx hb dX7_read_67 rfl (lv_at hl 0 rfl) ?_
      refine va_get (D := D) (ci := 4) (v := .ref aNu) (C := RX7) (T := TX7) (N := 15) hx hb hts hin4 hown hK hP 0 rfl rfl 3 (by decide) (hts (.fieldLink RX7 17 "FieldTraceModel" "number" "[J") (by decide +kernel)) (fun _ h9 => h9) rfl dX7_read_68 ?_
      refine lv_iload_n hx hb dX7_read_71 rfl (lv_at hl 2 rfl) ?_
      refine va_lald hx hb hK hP 3 0 rfl rfl (n_c hs (n_cel c1)) dX7_read_72 ?_
      refine va_put (D := D) (ci := 4) (v := .long ((pN_number (sN_gotKind (sN_there S t0_53) ((pN_kind (sN_there S t0_53)) ((64 * ((pN_segment S) a0.toNatClampNeg)) + (((pN_value S) a0.toNatClampNeg : Int64).toInt32)).toNatClampNeg))) ((64 * ((pN_segment S) a0.toNatClampNeg)) + (((pN_value S) a0.toNatClampNeg : Int64).toInt32)).toNatClampNeg)) (ty := .long) (C := RX7) (T := TX7) (N := 15) hx hb hts hin4 tyX7 tyX7_ok nmX7 hown hK hP hD hS 0 rfl rfl 8 (by decide) (hts (.fieldLink RX7 53 "FieldTraceModel" "got" "J") (by decide +kernel)) (fun _ h9 => h9) rfl (by decide +kernel) (rfl) (rfl) (Nat.le_of_ble_eq_true rfl) dX7_read_73 (fun H locs hP hD hS => ?_)
      have hP : va_P D vwCl (wN aN aIs aKd aNu aSg aVl aTs aTc cJ cI cZ (sN_got (sN_gotKind (sN_there S t0_53) ((pN_kind (sN_there S t0_53)) ((64 * ((pN_segment S) a0.toNatClampNeg)) + (((pN_value S) a0.toNatClampNeg : Int64).toInt32)).toNatClampNeg)) ((pN_number (sN_gotKind (sN_there S t0_53) ((pN_kind (sN_there S t0_53)) ((64 * ((pN_segment S) a0.toNatClampNeg)) + (((pN_value S) a0.toNatClampNeg : Int64).toInt32)).toNatClampNeg))) ((64 * ((pN_segment S) a0.toNatClampNeg)) + (((pN_value S) a0.toNatClampNeg : Int64).toInt32)).toNatClampNeg))) H := hP
      have hD : va_D A (wN aN aIs aKd aNu aSg aVl aTs aTc cJ cI cZ (sN_got (sN_gotKind (sN_there S t0_53) ((pN_kind (sN_there S t0_53)) ((64 * ((pN_segment S) a0.toNatClampNeg)) + (((pN_value S) a0.toNatClampNeg : Int64).toInt32)).toNatClampNeg)) ((pN_number (sN_gotKind (sN_there S t0_53) ((pN_kind (sN_there S t0_53)) ((64 * ((pN_segment S) a0.toNatClampNeg)) + (((pN_value S) a0.toNatClampNeg : Int64).toInt32)).toNatClampNeg))) ((64 * ((pN_segment S) a0.toNatClampNeg)) + (((pN_value S) a0.toNatClampNeg : Int64).toInt32)).toNatClampNeg))) := hD
      exact q_mv (sN_got (sN_gotKind (sN_there S t0_53) ((pN_kind (sN_there S t0_53)) ((64 * ((pN_segment S) a0.toNatClampNeg)) + (((pN_value S) a0.toNatClampNeg : Int64).toInt32)).toNatClampNeg)) ((pN_number (sN_gotKind (sN_there S t0_53) ((pN_kind (sN_there S t0_53)) ((64 * ((pN_segment S) a0.toNatClampNeg)) + (((pN_value S) a0.toNatClampNeg : Int64).toInt32)).toNatClampNeg))) ((64 * ((pN_segment S) a0.toNatClampNeg)) + (((pN_value S) a0.toNatClampNeg : Int64).toInt32)).toNatClampNeg)) hx hb hr hlocks hP hD hS (Eq.symm (by rw [hJ53, f_X7_read_J53b])) dX7_read_76
    have kJ52 : ∀ (H : Heap) (locs : List Loc) (ls : Array Slot), (f_X7_read S a0) = (f_X7_read_J52b S a0) → va_P D vwCl (wN aN aIs aKd aNu aSg aVl aTs aTc cJ cI cZ S) H → va_D A (wN aN aIs aKd aNu aSg aVl aTs aTc cJ cI cZ S) → va_S A s.heap H locs → lv_has ls 3 [(0, .ref aN), (1, .int a0), (2, .int ((64 * ((pN_segment S) a0.toNatClampNeg)) + (((pN_value S) a0.toNatClampNeg : Int64).toInt32)))] → W p l e ({ frames := 1, cells := 0, slots := 0, locals := 21 }) s m [.ref aN, .int a0].toArray below meth c H locs 0 0 (MQ below (va_Qv (fun u => u = (f_X7_read S a0)) (fun u t => va_P D vwCl ((fun u => (wN aN aIs aKd aNu aSg aVl aTs aTc cJ cI cZ u)) u) t.heap ∧ va_D A ((fun u => (wN aN aIs aKd aNu aSg aVl aTs aTc cJ cI cZ u)) u)) A) [.ref aN, .int a0].toArray s 0 0 A) (F0 m 52 ls [.ref aN]) := by
      intro H locs ls hJ52 hP hD hS hl
      refine lv_iconst (v := 0) hx hb dX7_read_52 (by decide) ?_
      exact kJ53 0 _ _ _ (Or.inl rfl) (by rw [hJ52, f_X7_read_J52b]) hP hD hS (lv_sub hl [0, 1, 2] rfl)
    refine lv_if_le (tgt := 52) hx hb dX7_read_36 (by decide) (fun c4 => ?_) (fun c4 => ?_)
    · exact kJ52 _ _ _ (by rw [f_X7_read, if_neg c1, if_pos c4]) hP hD hS (lv_sub hl [1, 2, 0] rfl)
    · refine lv_aload_n hx hb dX7_read_39 rfl (lv_at hl 1 rfl) ?_
      refine va_get (D := D) (ci := 4) (v := .ref aIs) (C := RX7) (T := TX7) (N := 15) hx hb hts hin4 hown hK hP 0 rfl rfl 1 (by decide) (hts (.fieldLink RX7 7 "FieldTraceModel" "isSet" "[Z") (by decide +kernel)) (fun _ h9 => h9) rfl dX7_read_40 ?_
      refine lv_iload_n hx hb dX7_read_43 rfl (lv_at hl 0 rfl) ?_
      refine va_zald hx hb hK hP 1 2 rfl rfl (n_c hs (n_cel c1)) dX7_read_44 ?_
      refine lv_if_eq (tgt := 52) hx hb dX7_read_45 (by decide) (fun c5 => ?_) (fun c5 => ?_)
      · exact kJ52 _ _ _ (by rw [f_X7_read, if_neg c1, if_neg c4, if_pos c5]) hP hD hS (lv_sub hl [1, 2, 0] rfl)
      · refine lv_iconst (v := 1) hx hb dX7_read_48 (by decide) ?_
        refine lv_goto (tgt := 53) hx hb dX7_read_49 (by decide) ?_
        exact kJ53 1 _ _ _ (Or.inr rfl) (by rw [f_X7_read, if_neg c1, if_neg c4, if_neg c5]) hP hD hS (lv_sub hl [1, 2, 0] rfl)


theorem ok_X7_read {R : Int32} {S : NS} {a0 : Int32} (h : n_ok R S) : n_ok R (f_X7_read S a0) := by
  unfold f_X7_read
  repeat' split
  all_goals exact ⟨h.1, h.2.1, h.2.1 _, h.2.2.2.1, h.2.2.2.2⟩

def f_X7_flag (S : NS) (a0 : Int32) : Int32 :=
  (if (((pN_word S) >>> ((a0 : Int32).toInt64 &&& 63)) &&& 1) = 1 then 1 else 0)

set_option maxHeartbeats 4000000 in
set_option maxRecDepth 100000 in
theorem c_X7_flag (l : Launch) (D : va_G) (aN aIs aKd aNu aSg aVl aTs aTc : Nat) (cJ cI cZ : ClassId) (S : NS) (a0 : Int32) : q_roI l yX7_flag wsX7_flag ({ frames := 0, cells := 0, slots := 0, locals := 0 }) D [(cJ, .long), (cI, .int), (cZ, .boolean)] (wN aN aIs aKd aNu aSg aVl aTs aTc cJ cI cZ S) [.ref aN, .int a0] (f_X7_flag S a0) := by
  refine q_roI_of (cc := cX7_flag) (maxL := 2) (ret := (some .boolean)) (plainFor_of_name (by decide)) rfl (Nat.le_of_ble_eq_true rfl) ?_
  intro p e s m below meth c ls A hx hb hr hml hown hts hlocks hP hK hA hS hl
  have hown : s.vm.findClass RX7 = some m.cls := hown
  have hl : lv_has ls 2 [(0, .ref aN), (1, .int a0)] := hl
  have hin4 : ∀ w ∈ wsX70, w ∈ wsX7_flag := by decide +kernel
  refine lv_aload_n hx hb dX7_flag_0 rfl (lv_at hl 0 rfl) ?_
  refine va_get (D := D) (ci := 4) (v := .long (pN_word S)) (C := RX7) (T := TX7) (N := 15) hx hb hts hin4 hown hK hP 0 rfl rfl 11 (by decide) (hts (.fieldLink RX7 103 "FieldTraceModel" "word" "J") (by decide +kernel)) (fun _ h9 => h9) rfl dX7_flag_1 ?_
  refine lv_iload_n hx hb dX7_flag_4 rfl (lv_at hl 1 rfl) ?_
  refine lv_lshr hx hb dX7_flag_5 rfl ?_
  refine lv_lconst (v := 1) hx hb dX7_flag_6 (by decide) ?_
  refine lv_land hx hb dX7_flag_7 ?_
  refine lv_lconst (v := 1) hx hb dX7_flag_8 (by decide) ?_
  refine q_ne (tgt := 17) hx hb dX7_flag_9 dX7_flag_10 (by decide) (fun c1 => ?_) (fun c1 => ?_)
  · refine lv_iconst (v := 0) hx hb dX7_flag_17 (by decide) ?_
    exact q_rz hx hb hr hlocks (rfl) hS (Eq.symm (by rw [f_X7_flag, if_neg c1])) dX7_flag_18
  · refine lv_iconst (v := 1) hx hb dX7_flag_13 (by decide) ?_
    refine lv_goto (tgt := 18) hx hb dX7_flag_14 (by decide) ?_
    exact q_rz hx hb hr hlocks (rfl) hS (Eq.symm (by rw [f_X7_flag, if_pos c1])) dX7_flag_18

def f_X7_trouble (S : NS) (a0 : Int32) (a1 : Int32) : NS :=
  (if (pN_trouble S) = 0 then (if a0 = 0 then S else (sN_trouble S a1)) else S)

set_option maxHeartbeats 4000000 in
set_option maxRecDepth 100000 in
theorem c_X7_trouble (l : Launch) (D : va_G) (aN aIs aKd aNu aSg aVl aTs aTc : Nat) (cJ cI cZ : ClassId) (S : NS) (a0 : Int32) (a1 : Int32) : q_muV l yX7_trouble wsX7_trouble ({ frames := 0, cells := 0, slots := 0, locals := 0 }) D [(cJ, .long), (cI, .int), (cZ, .boolean)] (wN aN aIs aKd aNu aSg aVl aTs aTc cJ cI cZ S) [.ref aN, .int a0, .int a1] (fun u => u = (f_X7_trouble S a0 a1)) (fun u => (wN aN aIs aKd aNu aSg aVl aTs aTc cJ cI cZ u)) := by
  refine q_muV_of (cc := cX7_trouble) (maxL := 3) (ret := none) (plainFor_of_name (by decide)) rfl (Nat.le_of_ble_eq_true rfl) ?_
  intro p e s m below meth c ls A hx hb hr hml hown hts hlocks hP hK hD hA hS hl
  have hown : s.vm.findClass RX7 = some m.cls := hown
  have hl : lv_has ls 3 [(0, .ref aN), (1, .int a0), (2, .int a1)] := hl
  have hin4 : ∀ w ∈ wsX70, w ∈ wsX7_trouble := by decide +kernel
  refine lv_aload_n hx hb dX7_trouble_0 rfl (lv_at hl 0 rfl) ?_
  refine va_get (D := D) (ci := 4) (v := .int (pN_trouble S)) (C := RX7) (T := TX7) (N := 15) hx hb hts hin4 hown hK hP 0 rfl rfl 9 (by decide) (hts (.fieldLink RX7 114 "FieldTraceModel" "trouble" "I") (by decide +kernel)) (fun _ h9 => h9) rfl dX7_trouble_1 ?_
  refine lv_if_ne (tgt := 16) hx hb dX7_trouble_4 (by decide) (fun c1 => ?_) (fun c1 => ?_)
  · exact q_mv S hx hb hr hlocks hP hD hS (Eq.symm (by rw [f_X7_trouble, if_neg c1])) dX7_trouble_16
  · refine lv_iload_n hx hb dX7_trouble_7 rfl (lv_at hl 1 rfl) ?_
    refine lv_if_eq (tgt := 16) hx hb dX7_trouble_8 (by decide) (fun c2 => ?_) (fun c2 => ?_)
    · exact q_mv S hx hb hr hlocks hP hD hS (Eq.symm (by rw [f_X7_trouble, if_pos c1, if_pos c2])) dX7_trouble_16
    · refine lv_aload_n hx hb dX7_trouble_11 rfl (lv_at hl 0 rfl) ?_
      refine lv_iload_n hx hb dX7_trouble_12 rfl (lv_at hl 2 rfl) ?_
      refine va_put (D := D) (ci := 4) (v := .int a1) (ty := .int) (C := RX7) (T := TX7) (N := 15) hx hb hts hin4 tyX7 tyX7_ok nmX7 hown hK hP hD hS 0 rfl rfl 9 (by decide) (hts (.fieldLink RX7 114 "FieldTraceModel" "trouble" "I") (by decide +kernel)) (fun _ h9 => h9) rfl (by decide +kernel) (rfl) (rfl) (Nat.le_of_ble_eq_true rfl) dX7_trouble_13 (fun H locs hP hD hS => ?_)
      have hP : va_P D vwCl (wN aN aIs aKd aNu aSg aVl aTs aTc cJ cI cZ (sN_trouble S a1)) H := hP
      have hD : va_D A (wN aN aIs aKd aNu aSg aVl aTs aTc cJ cI cZ (sN_trouble S a1)) := hD
      exact q_mv (sN_trouble S a1) hx hb hr hlocks hP hD hS (Eq.symm (by rw [f_X7_trouble, if_pos c1, if_neg c2])) dX7_trouble_16

theorem ok_X7_trouble {R : Int32} {S : NS} {a0 : Int32} {a1 : Int32} (hI : n_ok R S) : n_ok R (f_X7_trouble S a0 a1) := by
  unfold f_X7_trouble
  exact ok_ite (P := fun x => n_ok R x) (ok_ite (P := fun x => n_ok R x) (hI) ((ok_p_trouble hI))) (hI)

