
theorem q_fu100 {a : Int32} (h : a ≤ 100) : (a.toInt - (0 : Int32).toInt).toNat < 101 := by
  rw [Int32.le_iff_toInt_le, show (100 : Int32).toInt = 100 from rfl] at h
  rw [show (0 : Int32).toInt = 0 from rfl]
  omega
theorem n_thr0 {S : NS} {a b : Int32} (h : (f_X7_throwing S a b).1 = 0) : a = 0 ∧ b = 0 := by
  unfold f_X7_throwing at h
  by_cases c1 : a = 0
  · by_cases c2 : b = 0
    · exact ⟨c1, c2⟩
    · rw [if_pos c1, if_neg c2, if_neg (show ¬ (2 : Int32) ≤ 0 by decide)] at h
      exact absurd (show (1 : Int32) = 0 from h) (by decide)
  · rw [if_neg c1, if_neg (show ¬ (1 : Int32) ≤ 0 by decide)] at h
    exact absurd (show (1 : Int32) = 0 from h) (by decide)
theorem n_thrb {S : NS} {a b : Int32} : (f_X7_throwing S a b).1 = 0 ∨ (f_X7_throwing S a b).1 = 1 := by
  unfold f_X7_throwing
  repeat' split
  all_goals first | exact Or.inl rfl | exact Or.inr rfl
theorem n_out0 {a b c : Int32} (h : f_X7_out a b c = 0) : b ≤ a ∧ a ≤ c := by
  unfold f_X7_out at h
  by_cases c1 : a < b
  · rw [if_pos c1] at h; exact absurd h (by decide)
  · by_cases c2 : a ≤ c
    · exact ⟨Int32.le_iff_toInt_le.mpr (q_nlt c1), c2⟩
    · rw [if_neg c1, if_neg c2] at h; exact absurd h (by decide)
theorem n_outin {a b c : Int32} {N : Nat} (h : f_X7_out a b c = 0) (hb : 0 ≤ b.toInt) (hc : c.toInt < N) : vp_in a N := by
  obtain ⟨h1, h2⟩ := n_out0 h
  rw [Int32.le_iff_toInt_le] at h1 h2
  exact vp_in_iff.mpr ⟨by omega, by omega⟩
theorem n_r65 {R : Int32} {S : NS} (h : n_ok R S) (hr : vp_in R 65) : vp_in (pN_rows S) 65 := by rw [h.2.2.2.2]; exact hr
theorem n_r64 {x : Int32} (h : vp_in x 65) (h2 : ¬ 64 ≤ x) : vp_in x 64 := vp_in_iff.mpr ⟨(vp_in_iff.mp h).1, q_nle h2⟩
theorem ok_st_L {R : Int32} : ∀ (fu : Nat) (v : Int32) (S : NS), ((3 : Int) - v.toInt).toNat < fu → n_ok R S → n_ok (R + 1) (f_X7_step_L92 fu v S).2
  | 0, _, _, h, _ => absurd h (Nat.not_lt_zero _)
  | fu + 1, v, S, h, hI => by
    rw [f_X7_step_L92]
    by_cases c : 3 ≤ v
    · rw [if_pos c]; exact ⟨hI.1, hI.2.1, hI.2.2.1, hI.2.2.2.1, by show pN_rows S + 1 = R + 1; rw [hI.2.2.2.2]⟩
    · rw [if_neg c]; exact ok_st_L fu _ _ (q_dec rfl c h) (ok_p_value (ok_sg (ok_p_traceCell (ok_ts hI (hI.1 _))) ((ok_p_traceCell (ok_ts hI (hI.1 _))).1 _)))
theorem ok_st66 {R : Int32} {S : NS} {t : Int32} (h : n_ok R S) : n_ok R (f_X7_step_J66 S t).2 ∨ n_ok (R + 1) (f_X7_step_J66 S t).2 := by
  unfold f_X7_step_J66
  split
  · exact Or.inr (ok_st_L 4 0 _ (by decide) (ok_p_failure (ok_X7_move (ok_X7_jump h))))
  · exact Or.inl (ok_p_failure (ok_X7_move (ok_X7_jump h)))
theorem ok_st51 {R : Int32} {S : NS} (h : n_ok R S) : n_ok R (f_X7_step_J51 S).2 ∨ n_ok (R + 1) (f_X7_step_J51 S).2 := by
  unfold f_X7_step_J51
  split <;> exact ok_st66 h
theorem ok_st20 {R : Int32} {S : NS} (h : n_ok R S) : n_ok R (f_X7_step_J20 S).2 ∨ n_ok (R + 1) (f_X7_step_J20 S).2 := by
  unfold f_X7_step_J20
  repeat' split
  · exact ok_st51 (ok_X7_result (ok_X7_deduce h))
  · exact ok_st51 (ok_X7_store (ok_X7_result (ok_X7_deduce h)))
  · exact ok_st51 (ok_X7_result (ok_X7_deduce h))
theorem ok_st {R : Int32} {S : NS} (h : n_ok R S) : n_ok R (f_X7_step S).2 ∨ n_ok (R + 1) (f_X7_step S).2 := by
  unfold f_X7_step
  split
  · exact ok_st20 (ok_X7_placeOfOp1 (ok_X7_places (ok_p_trouble h)))
  · exact ok_st20 (ok_X7_places (ok_p_trouble h))
theorem ok_X7_step {S : NS} (h : n_ok (pN_rows S) S) (hR : vp_in (pN_rows S) 64) : n_ok (pN_rows (f_X7_step S).2) (f_X7_step S).2 ∧ vp_in (pN_rows (f_X7_step S).2) 65 := by
  obtain ⟨k, hk, e⟩ := vp_in_of hR (by decide)
  rcases ok_st h with h1 | h1
  · exact ⟨n_self h1, by rw [h1.2.2.2.2, e]; exact vp_in_nI (by omega) (by decide)⟩
  · exact ⟨n_self h1, by rw [h1.2.2.2.2, e, nI_1]; exact vp_in_nI (by omega) (by decide)⟩

def f_X7_run_L19 (a0 : Int32) : Nat → Int32 → NS → Int32 × NS
  | 0, _, _ => default
  | fu_19 + 1, v2_19, S_19 => (if a0 ≤ v2_19 then (v2_19, S_19) else (if 64 ≤ (pN_rows S_19) then (v2_19, S_19) else (if ((f_X7_step S_19).1) = 0 then (v2_19, (f_X7_step S_19).2) else (f_X7_run_L19 a0 fu_19 (v2_19 + 1) ((f_X7_step S_19).2)))))

def f_X7_run (S : NS) (a0 : Int32) : Int32 × NS :=
  (if ((f_X7_throwing S (f_X7_out a0 1 100) 0).1) = 0 then (f_X7_run_L19 a0 101 0 ((f_X7_throwing S (f_X7_out a0 1 100) 0).2)) else (0, (f_X7_throwing S (f_X7_out a0 1 100) 0).2))

set_option maxHeartbeats 4000000 in
set_option maxRecDepth 100000 in
theorem c_X7_run (l : Launch) (D : va_G) (aN aIs aKd aNu aSg aVl aTs aTc : Nat) (cJ cI cZ : ClassId) (S : NS) (a0 : Int32) (hI : n_ok (pN_rows S) S) (h64 : vp_in (pN_rows S) 65) : q_muI l yX7_run wsX7_run ({ frames := 6, cells := 0, slots := 0, locals := 150 }) D [(cJ, .long), (cI, .int), (cZ, .boolean)] (wN aN aIs aKd aNu aSg aVl aTs aTc cJ cI cZ S) [.ref aN, .int a0] (fun r u => r = (f_X7_run S a0).1 ∧ u = (f_X7_run S a0).2) (fun u => (wN aN aIs aKd aNu aSg aVl aTs aTc cJ cI cZ u)) := by
  refine q_muI_of (cc := cX7_run) (maxL := 3) (ret := (some .int)) (plainFor_of_name (by decide)) rfl (Nat.le_of_ble_eq_true rfl) ?_
  intro p e s m below meth c ls A hx hb hr hml hown hts hlocks hP hK hD hA hS hl
  have hown : s.vm.findClass RX7 = some m.cls := hown
  have hl : lv_has ls 3 [(0, .ref aN), (1, .int a0)] := hl
  have hfix : CallFix p m c cX7_run 3 s [.ref aN, .int a0].toArray wsX7_run RX7 := ⟨hx, hb, hml, hown, hts⟩
  have hin4 : ∀ w ∈ wsX70, w ∈ wsX7_run := by decide +kernel
  refine lv_aload_n hx hb dX7_run_0 rfl (lv_at hl 0 rfl) ?_
  refine lv_iload_n hx hb dX7_run_1 rfl (lv_at hl 1 rfl) ?_
  refine lv_iconst (v := 1) hx hb dX7_run_2 (by decide) ?_
  refine lv_bipush (v := 100) hx hb dX7_run_3 (by decide) ?_
  refine q_callSi (As := [.int a0, .int 1, .int 100]) (rest := [.ref aN]) (c_X7_out l D a0 1 100) hfix (va_cwS 3 hts gX7_run_X7_out rfl rfl rfl (by decide +kernel) ⟨Nat.le_of_ble_eq_true rfl, Nat.le_of_ble_eq_true rfl⟩) rfl hl.1 rfl (Nat.le_of_ble_eq_true rfl) ⟨Nat.zero_le _, Nat.zero_le _⟩ hP hK hS hA [] [] rfl rfl dX7_run_5 (fun H locs hP hS => ?_)
  refine lv_iconst (v := 0) hx hb dX7_run_8 (by decide) ?_
  refine q_callMi1 (As := [.int (f_X7_out a0 1 100), .int 0]) (rest := []) (wr := []) (Wn := (fun u => (wN aN aIs aKd aNu aSg aVl aTs aTc cJ cI cZ u))) (q0 := 0) (ci := 4) (C := RX7) (c_X7_throwing l D aN aIs aKd aNu aSg aVl aTs aTc cJ cI cZ S (f_X7_out a0 1 100) 0) hfix (cwV 2 hts gX7_run_X7_throwing rfl rfl rfl (by decide +kernel) ⟨Nat.le_of_ble_eq_true rfl, Nat.le_of_ble_eq_true rfl⟩) rfl hl.1 rfl (Nat.le_of_ble_eq_true rfl) ⟨Nat.zero_le _, Nat.zero_le _⟩ hP hK hD hS hA [0, 1, 2, 3, 4, 5, 6, 7] [] [0, 1, 2, 3, 4, 5, 6, 7] [0, 1, 2] rfl rfl rfl (by decide) (by decide) (by decide) (by decide) (fun _ => rfl) (fun _ => rfl) rfl rfl rfl rfl dX7_run_9 (fun H locs hP hD hS => ?_)
  have hP : va_P D vwCl (wN aN aIs aKd aNu aSg aVl aTs aTc cJ cI cZ (f_X7_throwing S (f_X7_out a0 1 100) 0).2) H := hP
  have hD : va_D A (wN aN aIs aKd aNu aSg aVl aTs aTc cJ cI cZ (f_X7_throwing S (f_X7_out a0 1 100) 0).2) := hD
  refine lv_if_eq (tgt := 17) hx hb dX7_run_12 (by decide) (fun c1 => ?_) (fun c1 => ?_)
  · refine lv_iconst (v := 0) hx hb dX7_run_17 (by decide) ?_
    refine lv_istore_n (lv' := [(2, .int 0), (0, .ref aN), (1, .int a0)]) hx hb dX7_run_18 rfl hl (by decide) rfl (fun ls hl => ?_)
    have kL19 : ∀ (fu_19 : Nat) (v2_19 : Int32) (S_19 : NS) (H : Heap) (locs : List Loc) (ls : Array Slot), (a0.toInt - v2_19.toInt).toNat < fu_19 → (n_ok (pN_rows S_19) S_19 ∧ vp_in (pN_rows S_19) 65) → (f_X7_run S a0) = (f_X7_run_L19 a0 fu_19 v2_19 S_19) → va_P D vwCl (wN aN aIs aKd aNu aSg aVl aTs aTc cJ cI cZ S_19) H → va_D A (wN aN aIs aKd aNu aSg aVl aTs aTc cJ cI cZ S_19) → va_S A s.heap H locs → lv_has ls 3 [(0, .ref aN), (1, .int a0), (2, .int v2_19)] → W p l e ({ frames := 6, cells := 0, slots := 0, locals := 150 }) s m [.ref aN, .int a0].toArray below meth c H locs 0 0 (MQ below (va_Qi (fun r u => r = (f_X7_run S a0).1 ∧ u = (f_X7_run S a0).2) (fun u t => va_P D vwCl ((fun u => (wN aN aIs aKd aNu aSg aVl aTs aTc cJ cI cZ u)) u) t.heap ∧ va_D A ((fun u => (wN aN aIs aKd aNu aSg aVl aTs aTc cJ cI cZ u)) u)) A) [.ref aN, .int a0].toArray s 0 0 A) (F0 m 19 ls []) := by
      intro fu_19
      induction fu_19 with
      | zero => intro v2_19 S_19 H locs ls hmu; exact absurd hmu (Nat.not_lt_zero _)
      | succ fu_19 ih19 =>
        intro v2_19 S_19 H locs ls hmu19 hinv19 hL19 hP hD hS hl
        refine lv_iload_n hx hb dX7_run_19 rfl (lv_at hl 2 rfl) ?_
        refine lv_iload_n hx hb dX7_run_20 rfl (lv_at hl 1 rfl) ?_
        refine lv_icmp_ge (tgt := 46) hx hb dX7_run_21 (by decide) (fun c2 => ?_) (fun c2 => ?_)
        · refine lv_iload_n hx hb dX7_run_46 rfl (lv_at hl 2 rfl) ?_
          exact q_mi S_19 hx hb hr hlocks hP hD hS (q_pair (by rw [hL19, f_X7_run_L19, if_pos c2])) dX7_run_47
        · refine lv_aload_n hx hb dX7_run_24 rfl (lv_at hl 0 rfl) ?_
          refine va_get (D := D) (ci := 4) (v := .int (pN_rows S_19)) (C := RX7) (T := TX7) (N := 15) hx hb hts hin4 hown hK hP 0 rfl rfl 12 (by decide) (hts (.fieldLink RX7 184 "FieldTraceModel" "rows" "I") (by decide +kernel)) (fun _ h9 => h9) rfl dX7_run_25 ?_
          refine lv_bipush (v := 64) hx hb dX7_run_28 (by decide) ?_
          refine lv_icmp_ge (tgt := 46) hx hb dX7_run_30 (by decide) (fun c3 => ?_) (fun c3 => ?_)
          · refine lv_iload_n hx hb dX7_run_46 rfl (lv_at hl 2 rfl) ?_
            exact q_mi S_19 hx hb hr hlocks hP hD hS (q_pair (by rw [hL19, f_X7_run_L19, if_neg c2, if_pos c3])) dX7_run_47
          · refine lv_aload_n hx hb dX7_run_33 rfl (lv_at hl 0 rfl) ?_
            refine q_callMi1 (As := []) (rest := []) (wr := []) (Wn := (fun u => (wN aN aIs aKd aNu aSg aVl aTs aTc cJ cI cZ u))) (q0 := 0) (ci := 4) (C := RX7) (c_X7_step l D aN aIs aKd aNu aSg aVl aTs aTc cJ cI cZ S_19 (hinv19.1) (n_r64 hinv19.2 c3)) hfix (cwV 0 hts gX7_run_X7_step rfl rfl rfl (by decide +kernel) ⟨Nat.le_of_ble_eq_true rfl, Nat.le_of_ble_eq_true rfl⟩) rfl hl.1 rfl (Nat.le_of_ble_eq_true rfl) ⟨Nat.zero_le _, Nat.zero_le _⟩ hP hK hD hS hA [0, 1, 2, 3, 4, 5, 6, 7] [] [0, 1, 2, 3, 4, 5, 6, 7] [0, 1, 2] rfl rfl rfl (by decide) (by decide) (by decide) (by decide) (fun _ => rfl) (fun _ => rfl) rfl rfl rfl rfl dX7_run_34 (fun H locs hP hD hS => ?_)
            have hP : va_P D vwCl (wN aN aIs aKd aNu aSg aVl aTs aTc cJ cI cZ (f_X7_step S_19).2) H := hP
            have hD : va_D A (wN aN aIs aKd aNu aSg aVl aTs aTc cJ cI cZ (f_X7_step S_19).2) := hD
            refine lv_if_eq (tgt := 46) hx hb dX7_run_37 (by decide) (fun c4 => ?_) (fun c4 => ?_)
            · refine lv_iload_n hx hb dX7_run_46 rfl (lv_at hl 2 rfl) ?_
              exact q_mi ((f_X7_step S_19).2) hx hb hr hlocks hP hD hS (q_pair (by rw [hL19, f_X7_run_L19, if_neg c2, if_neg c3, if_pos c4])) dX7_run_47
            · refine lv_iinc (v := v2_19 + 1) (lv' := [(2, .int (v2_19 + 1)), (0, .ref aN), (1, .int a0)]) hx hb dX7_run_40 hl (k := 2) rfl rfl (by decide) rfl (fun ls hl => ?_)
              refine lv_goto (tgt := 19) hx hb dX7_run_43 (by decide) ?_
              exact ih19 (v2_19 + 1) ((f_X7_step S_19).2) _ _ _ (q_dec rfl c2 hmu19) (ok_X7_step hinv19.1 (n_r64 hinv19.2 c3)) (by rw [hL19, f_X7_run_L19, if_neg c2, if_neg c3, if_neg c4]) hP hD hS (lv_sub hl [1, 2, 0] rfl)
    exact kL19 101 0 ((f_X7_throwing S (f_X7_out a0 1 100) 0).2) _ _ _ (q_fu100 (n_out0 (n_thr0 c1).1).2) (⟨n_self (ok_X7_throwing hI), n_r65 (ok_X7_throwing hI) h64⟩) (by rw [f_X7_run, if_pos c1]) hP hD hS (lv_sub hl [1, 2, 0] rfl)
  · refine lv_iconst (v := 0) hx hb dX7_run_15 (by decide) ?_
    exact q_mi ((f_X7_throwing S (f_X7_out a0 1 100) 0).2) hx hb hr hlocks hP hD hS (q_pair (by rw [f_X7_run, if_neg c1])) dX7_run_16

def f_X7_encode_J57 (S : NS) (a0 : Int32) (a1 : Int32) (a2 : Int32) (a3 : Int32) (t0_57 : Int32) : Int64 × NS :=
  (if ((f_X7_throwing S t0_57 0).1) = 0 then (((((((((((a3 : Int32).toInt64) * 1024) + ((a2 : Int32).toInt64)) + 512) * 1024) + ((a1 : Int32).toInt64)) + 512) * 1024) + ((a0 : Int32).toInt64)) + 512, (f_X7_throwing S t0_57 0).2) else (0, (f_X7_throwing S t0_57 0).2))

def f_X7_encode_J52 (S : NS) (a0 : Int32) (a1 : Int32) (a2 : Int32) (a3 : Int32) : Int64 × NS :=
  (f_X7_encode_J57 S a0 a1 a2 a3 1)

def f_X7_encode (S : NS) (a0 : Int32) (a1 : Int32) (a2 : Int32) (a3 : Int32) : Int64 × NS :=
  (if (f_X7_out a0 (-512) 511) = 0 then (if (f_X7_out a1 (-512) 511) = 0 then (if (f_X7_out a2 (-512) 511) = 0 then (if (f_X7_out a3 0 32767) = 0 then (f_X7_encode_J57 S a0 a1 a2 a3 0) else (f_X7_encode_J52 S a0 a1 a2 a3)) else (f_X7_encode_J52 S a0 a1 a2 a3)) else (f_X7_encode_J52 S a0 a1 a2 a3)) else (f_X7_encode_J52 S a0 a1 a2 a3))

set_option maxHeartbeats 4000000 in
set_option maxRecDepth 100000 in
theorem c_X7_encode (l : Launch) (D : va_G) (aN aIs aKd aNu aSg aVl aTs aTc : Nat) (cJ cI cZ : ClassId) (S : NS) (a0 : Int32) (a1 : Int32) (a2 : Int32) (a3 : Int32) : q_muL l yX7_encode wsX7_encode ({ frames := 1, cells := 0, slots := 0, locals := 22 }) D [(cJ, .long), (cI, .int), (cZ, .boolean)] (wN aN aIs aKd aNu aSg aVl aTs aTc cJ cI cZ S) [.ref aN, .int a0, .int a1, .int a2, .int a3] (fun r u => r = (f_X7_encode S a0 a1 a2 a3).1 ∧ u = (f_X7_encode S a0 a1 a2 a3).2) (fun u => (wN aN aIs aKd aNu aSg aVl aTs aTc cJ cI cZ u)) := by
  refine q_muL_of (cc := cX7_encode) (maxL := 5) (ret := (some .long)) (plainFor_of_name (by decide)) rfl (Nat.le_of_ble_eq_true rfl) ?_
  intro p e s m below meth c ls A hx hb hr hml hown hts hlocks hP hK hD hA hS hl
  have hown : s.vm.findClass RX7 = some m.cls := hown
  have hl : lv_has ls 5 [(0, .ref aN), (1, .int a0), (2, .int a1), (3, .int a2), (4, .int a3)] := hl
  have hfix : CallFix p m c cX7_encode 5 s [.ref aN, .int a0, .int a1, .int a2, .int a3].toArray wsX7_encode RX7 := ⟨hx, hb, hml, hown, hts⟩
  refine lv_aload_n hx hb dX7_encode_0 rfl (lv_at hl 0 rfl) ?_
  refine lv_iload_n hx hb dX7_encode_1 rfl (lv_at hl 1 rfl) ?_
  refine lv_sipush (v := -512) hx hb dX7_encode_2 (by decide) ?_
  refine lv_sipush (v := 511) hx hb dX7_encode_5 (by decide) ?_
  refine q_callSi (As := [.int a0, .int (-512), .int 511]) (rest := [.ref aN]) (c_X7_out l D a0 (-512) 511) hfix (va_cwS 3 hts gX7_encode_X7_out rfl rfl rfl (by decide +kernel) ⟨Nat.le_of_ble_eq_true rfl, Nat.le_of_ble_eq_true rfl⟩) rfl hl.1 rfl (Nat.le_of_ble_eq_true rfl) ⟨Nat.zero_le _, Nat.zero_le _⟩ hP hK hS hA [] [] rfl rfl dX7_encode_8 (fun H locs hP hS => ?_)
  have kJ57 : ∀ (t0_57 : Int32) (H : Heap) (locs : List Loc) (ls : Array Slot), (t0_57 = 0 ∨ t0_57 = 1) → (f_X7_encode S a0 a1 a2 a3) = (f_X7_encode_J57 S a0 a1 a2 a3 t0_57) → va_P D vwCl (wN aN aIs aKd aNu aSg aVl aTs aTc cJ cI cZ S) H → va_D A (wN aN aIs aKd aNu aSg aVl aTs aTc cJ cI cZ S) → va_S A s.heap H locs → lv_has ls 5 [(0, .ref aN), (1, .int a0), (2, .int a1), (3, .int a2), (4, .int a3)] → W p l e ({ frames := 1, cells := 0, slots := 0, locals := 22 }) s m [.ref aN, .int a0, .int a1, .int a2, .int a3].toArray below meth c H locs 0 0 (MQ below (va_Ql (fun r u => r = (f_X7_encode S a0 a1 a2 a3).1 ∧ u = (f_X7_encode S a0 a1 a2 a3).2) (fun u t => va_P D vwCl ((fun u => (wN aN aIs aKd aNu aSg aVl aTs aTc cJ cI cZ u)) u) t.heap ∧ va_D A ((fun u => (wN aN aIs aKd aNu aSg aVl aTs aTc cJ cI cZ u)) u)) A) [.ref aN, .int a0, .int a1, .int a2, .int a3].toArray s 0 0 A) (F0 m 57 ls [.int t0_57, .ref aN]) := by
    intro t0_57 H locs ls hb_t0_57 hJ57 hP hD hS hl
    refine lv_iconst (v := 0) hx hb dX7_encode_57 (by decide) ?_
    refine q_callMi1 (As := [.int t0_57, .int 0]) (rest := []) (wr := []) (Wn := (fun u => (wN aN aIs aKd aNu aSg aVl aTs aTc cJ cI cZ u))) (q0 := 0) (ci := 4) (C := RX7) (c_X7_throwing l D aN aIs aKd aNu aSg aVl aTs aTc cJ cI cZ S t0_57 0) hfix (cwV 2 hts gX7_encode_X7_throwing rfl rfl rfl (by decide +kernel) ⟨Nat.le_of_ble_eq_true rfl, Nat.le_of_ble_eq_true rfl⟩) rfl hl.1 rfl (Nat.le_of_ble_eq_true rfl) ⟨Nat.zero_le _, Nat.zero_le _⟩ hP hK hD hS hA [0, 1, 2, 3, 4, 5, 6, 7] [] [0, 1, 2, 3, 4, 5, 6, 7] [0, 1, 2] rfl rfl rfl (by decide) (by decide) (by decide) (by decide) (fun _ => rfl) (fun _ => rfl) rfl rfl rfl rfl dX7_encode_58 (fun H locs hP hD hS => ?_)
    have hP : va_P D vwCl (wN aN aIs aKd aNu aSg aVl aTs aTc cJ cI cZ (f_X7_throwing S t0_57 0).2) H := hP
    have hD : va_D A (wN aN aIs aKd aNu aSg aVl aTs aTc cJ cI cZ (f_X7_throwing S t0_57 0).2) := hD
    refine lv_if_eq (tgt := 66) hx hb dX7_encode_61 (by decide) (fun c5 => ?_) (fun c5 => ?_)
    · refine lv_iload hx hb dX7_encode_66 (lv_at hl 4 rfl) ?_
      refine lv_i2l hx hb dX7_encode_68 rfl ?_
      refine lv_ldc2 (v := 1024) hx hb hown (hts (.constantLong RX7 199 (1024)) (by decide +kernel)) dX7_encode_69 ?_
      refine lv_lmul hx hb dX7_encode_72 ?_
      refine lv_iload_n hx hb dX7_encode_73 rfl (lv_at hl 3 rfl) ?_
      refine lv_i2l hx hb dX7_encode_74 rfl ?_
      refine lv_ladd hx hb dX7_encode_75 ?_
      refine lv_ldc2 (v := 512) hx hb hown (hts (.constantLong RX7 201 (512)) (by decide +kernel)) dX7_encode_76 ?_
      refine lv_ladd hx hb dX7_encode_79 ?_
      refine lv_ldc2 (v := 1024) hx hb hown (hts (.constantLong RX7 199 (1024)) (by decide +kernel)) dX7_encode_80 ?_
      refine lv_lmul hx hb dX7_encode_83 ?_
      refine lv_iload_n hx hb dX7_encode_84 rfl (lv_at hl 2 rfl) ?_
      refine lv_i2l hx hb dX7_encode_85 rfl ?_
      refine lv_ladd hx hb dX7_encode_86 ?_
      refine lv_ldc2 (v := 512) hx hb hown (hts (.constantLong RX7 201 (512)) (by decide +kernel)) dX7_encode_87 ?_
      refine lv_ladd hx hb dX7_encode_90 ?_
      refine lv_ldc2 (v := 1024) hx hb hown (hts (.constantLong RX7 199 (1024)) (by decide +kernel)) dX7_encode_91 ?_
      refine lv_lmul hx hb dX7_encode_94 ?_
      refine lv_iload_n hx hb dX7_encode_95 rfl (lv_at hl 1 rfl) ?_
      refine lv_i2l hx hb dX7_encode_96 rfl ?_
      refine lv_ladd hx hb dX7_encode_97 ?_
      refine lv_ldc2 (v := 512) hx hb hown (hts (.constantLong RX7 201 (512)) (by decide +kernel)) dX7_encode_98 ?_
      refine lv_ladd hx hb dX7_encode_101 ?_
      exact q_ml ((f_X7_throwing S t0_57 0).2) hx hb hr hlocks hP hD hS (q_pair (by rw [hJ57, f_X7_encode_J57, if_pos c5])) dX7_encode_102
    · refine lv_lconst (v := 0) hx hb dX7_encode_64 (by decide) ?_
      exact q_ml ((f_X7_throwing S t0_57 0).2) hx hb hr hlocks hP hD hS (q_pair (by rw [hJ57, f_X7_encode_J57, if_neg c5])) dX7_encode_65
  have kJ52 : ∀ (H : Heap) (locs : List Loc) (ls : Array Slot), (f_X7_encode S a0 a1 a2 a3) = (f_X7_encode_J52 S a0 a1 a2 a3) → va_P D vwCl (wN aN aIs aKd aNu aSg aVl aTs aTc cJ cI cZ S) H → va_D A (wN aN aIs aKd aNu aSg aVl aTs aTc cJ cI cZ S) → va_S A s.heap H locs → lv_has ls 5 [(0, .ref aN), (1, .int a0), (2, .int a1), (3, .int a2), (4, .int a3)] → W p l e ({ frames := 1, cells := 0, slots := 0, locals := 22 }) s m [.ref aN, .int a0, .int a1, .int a2, .int a3].toArray below meth c H locs 0 0 (MQ below (va_Ql (fun r u => r = (f_X7_encode S a0 a1 a2 a3).1 ∧ u = (f_X7_encode S a0 a1 a2 a3).2) (fun u t => va_P D vwCl ((fun u => (wN aN aIs aKd aNu aSg aVl aTs aTc cJ cI cZ u)) u) t.heap ∧ va_D A ((fun u => (wN aN aIs aKd aNu aSg aVl aTs aTc cJ cI cZ u)) u)) A) [.ref aN, .int a0, .int a1, .int a2, .int a3].toArray s 0 0 A) (F0 m 52 ls [.ref aN]) := by
    intro H locs ls hJ52 hP hD hS hl
    refine lv_iconst (v := 1) hx hb dX7_encode_52 (by decide) ?_
    refine lv_goto (tgt := 57) hx hb dX7_encode_53 (by decide) ?_
    exact kJ57 1 _ _ _ (Or.inr rfl) (by rw [hJ52, f_X7_encode_J52]) hP hD hS (lv_sub hl [0, 1, 2, 3, 4] rfl)
  refine lv_if_ne (tgt := 52) hx hb dX7_encode_11 (by decide) (fun c1 => ?_) (fun c1 => ?_)
  · exact kJ52 _ _ _ (by rw [f_X7_encode, if_neg c1]) hP hD hS (lv_sub hl [0, 1, 2, 3, 4] rfl)
  · refine lv_iload_n hx hb dX7_encode_14 rfl (lv_at hl 2 rfl) ?_
    refine lv_sipush (v := -512) hx hb dX7_encode_15 (by decide) ?_
    refine lv_sipush (v := 511) hx hb dX7_encode_18 (by decide) ?_
    refine q_callSi (As := [.int a1, .int (-512), .int 511]) (rest := [.ref aN]) (c_X7_out l D a1 (-512) 511) hfix (va_cwS 3 hts gX7_encode_X7_out rfl rfl rfl (by decide +kernel) ⟨Nat.le_of_ble_eq_true rfl, Nat.le_of_ble_eq_true rfl⟩) rfl hl.1 rfl (Nat.le_of_ble_eq_true rfl) ⟨Nat.zero_le _, Nat.zero_le _⟩ hP hK hS hA [] [] rfl rfl dX7_encode_21 (fun H locs hP hS => ?_)
    refine lv_if_ne (tgt := 52) hx hb dX7_encode_24 (by decide) (fun c2 => ?_) (fun c2 => ?_)
    · exact kJ52 _ _ _ (by rw [f_X7_encode, if_pos c1, if_neg c2]) hP hD hS (lv_sub hl [0, 1, 2, 3, 4] rfl)
    · refine lv_iload_n hx hb dX7_encode_27 rfl (lv_at hl 3 rfl) ?_
      refine lv_sipush (v := -512) hx hb dX7_encode_28 (by decide) ?_
      refine lv_sipush (v := 511) hx hb dX7_encode_31 (by decide) ?_
      refine q_callSi (As := [.int a2, .int (-512), .int 511]) (rest := [.ref aN]) (c_X7_out l D a2 (-512) 511) hfix (va_cwS 3 hts gX7_encode_X7_out rfl rfl rfl (by decide +kernel) ⟨Nat.le_of_ble_eq_true rfl, Nat.le_of_ble_eq_true rfl⟩) rfl hl.1 rfl (Nat.le_of_ble_eq_true rfl) ⟨Nat.zero_le _, Nat.zero_le _⟩ hP hK hS hA [] [] rfl rfl dX7_encode_34 (fun H locs hP hS => ?_)
      refine lv_if_ne (tgt := 52) hx hb dX7_encode_37 (by decide) (fun c3 => ?_) (fun c3 => ?_)
      · exact kJ52 _ _ _ (by rw [f_X7_encode, if_pos c1, if_pos c2, if_neg c3]) hP hD hS (lv_sub hl [0, 1, 2, 3, 4] rfl)
      · refine lv_iload hx hb dX7_encode_40 (lv_at hl 4 rfl) ?_
        refine lv_iconst (v := 0) hx hb dX7_encode_42 (by decide) ?_
        refine lv_sipush (v := 32767) hx hb dX7_encode_43 (by decide) ?_
        refine q_callSi (As := [.int a3, .int 0, .int 32767]) (rest := [.ref aN]) (c_X7_out l D a3 0 32767) hfix (va_cwS 3 hts gX7_encode_X7_out rfl rfl rfl (by decide +kernel) ⟨Nat.le_of_ble_eq_true rfl, Nat.le_of_ble_eq_true rfl⟩) rfl hl.1 rfl (Nat.le_of_ble_eq_true rfl) ⟨Nat.zero_le _, Nat.zero_le _⟩ hP hK hS hA [] [] rfl rfl dX7_encode_46 (fun H locs hP hS => ?_)
        refine lv_if_eq (tgt := 56) hx hb dX7_encode_49 (by decide) (fun c4 => ?_) (fun c4 => ?_)
        · refine lv_iconst (v := 0) hx hb dX7_encode_56 (by decide) ?_
          exact kJ57 0 _ _ _ (Or.inl rfl) (by rw [f_X7_encode, if_pos c1, if_pos c2, if_pos c3, if_pos c4]) hP hD hS (lv_sub hl [0, 1, 2, 3, 4] rfl)
        · exact kJ52 _ _ _ (by rw [f_X7_encode, if_pos c1, if_pos c2, if_pos c3, if_neg c4]) hP hD hS (lv_sub hl [0, 1, 2, 3, 4] rfl)

def f_X7_decode (S : NS) (a0 : Int64) (a1 : Int32) : Int32 × NS :=
  (if ((f_X7_throwing S (f_X7_out a1 0 4) (f_X7_isBad a0)).1) = 0 then (if 3 ≤ a1 then (if a1 = 3 then ((a0 >>> ((30 : Int32).toInt64 &&& 63) : Int64).toInt32, (f_X7_throwing S (f_X7_out a1 0 4) (f_X7_isBad a0)).2) else (1 + (f_X7_many a0 32 32), (f_X7_throwing S (f_X7_out a1 0 4) (f_X7_isBad a0)).2)) else ((f_X7_offset a0 a1), (f_X7_throwing S (f_X7_out a1 0 4) (f_X7_isBad a0)).2)) else (0, (f_X7_throwing S (f_X7_out a1 0 4) (f_X7_isBad a0)).2))

set_option maxHeartbeats 4000000 in
set_option maxRecDepth 100000 in
theorem c_X7_decode (l : Launch) (D : va_G) (aN aIs aKd aNu aSg aVl aTs aTc : Nat) (cJ cI cZ : ClassId) (S : NS) (a0 : Int64) (a1 : Int32) : q_muI l yX7_decode wsX7_decode ({ frames := 2, cells := 0, slots := 0, locals := 49 }) D [(cJ, .long), (cI, .int), (cZ, .boolean)] (wN aN aIs aKd aNu aSg aVl aTs aTc cJ cI cZ S) [.ref aN, .long a0, .int a1] (fun r u => r = (f_X7_decode S a0 a1).1 ∧ u = (f_X7_decode S a0 a1).2) (fun u => (wN aN aIs aKd aNu aSg aVl aTs aTc cJ cI cZ u)) := by
  refine q_muI_of (cc := cX7_decode) (maxL := 4) (ret := (some .int)) (plainFor_of_name (by decide)) rfl (Nat.le_of_ble_eq_true rfl) ?_
  intro p e s m below meth c ls A hx hb hr hml hown hts hlocks hP hK hD hA hS hl
  have hown : s.vm.findClass RX7 = some m.cls := hown
  have hl : lv_has ls 4 [(0, .ref aN), (1, .long a0), (3, .int a1)] := hl
  have hfix : CallFix p m c cX7_decode 4 s [.ref aN, .long a0, .int a1].toArray wsX7_decode RX7 := ⟨hx, hb, hml, hown, hts⟩
  refine lv_aload_n hx hb dX7_decode_0 rfl (lv_at hl 0 rfl) ?_
  refine lv_iload_n hx hb dX7_decode_1 rfl (lv_at hl 2 rfl) ?_
  refine lv_iconst (v := 0) hx hb dX7_decode_2 (by decide) ?_
  refine lv_iconst (v := 4) hx hb dX7_decode_3 (by decide) ?_
  refine q_callSi (As := [.int a1, .int 0, .int 4]) (rest := [.ref aN]) (c_X7_out l D a1 0 4) hfix (va_cwS 3 hts gX7_decode_X7_out rfl rfl rfl (by decide +kernel) ⟨Nat.le_of_ble_eq_true rfl, Nat.le_of_ble_eq_true rfl⟩) rfl hl.1 rfl (Nat.le_of_ble_eq_true rfl) ⟨Nat.zero_le _, Nat.zero_le _⟩ hP hK hS hA [] [] rfl rfl dX7_decode_4 (fun H locs hP hS => ?_)
  refine lv_lload_n hx hb dX7_decode_7 rfl (lv_at hl 1 rfl) ?_
  refine q_callSi (As := [.long a0]) (rest := [.int (f_X7_out a1 0 4), .ref aN]) (c_X7_isBad l D a0) hfix (va_cwS 1 hts gX7_decode_X7_isBad rfl rfl rfl (by decide +kernel) ⟨Nat.le_of_ble_eq_true rfl, Nat.le_of_ble_eq_true rfl⟩) rfl hl.1 rfl (Nat.le_of_ble_eq_true rfl) ⟨Nat.zero_le _, Nat.zero_le _⟩ hP hK hS hA [] [] rfl rfl dX7_decode_8 (fun H locs hP hS => ?_)
  refine q_callMi1 (As := [.int (f_X7_out a1 0 4), .int (f_X7_isBad a0)]) (rest := []) (wr := []) (Wn := (fun u => (wN aN aIs aKd aNu aSg aVl aTs aTc cJ cI cZ u))) (q0 := 0) (ci := 4) (C := RX7) (c_X7_throwing l D aN aIs aKd aNu aSg aVl aTs aTc cJ cI cZ S (f_X7_out a1 0 4) (f_X7_isBad a0)) hfix (cwV 2 hts gX7_decode_X7_throwing rfl rfl rfl (by decide +kernel) ⟨Nat.le_of_ble_eq_true rfl, Nat.le_of_ble_eq_true rfl⟩) rfl hl.1 rfl (Nat.le_of_ble_eq_true rfl) ⟨Nat.zero_le _, Nat.zero_le _⟩ hP hK hD hS hA [0, 1, 2, 3, 4, 5, 6, 7] [] [0, 1, 2, 3, 4, 5, 6, 7] [0, 1, 2] rfl rfl rfl (by decide) (by decide) (by decide) (by decide) (fun _ => rfl) (fun _ => rfl) rfl rfl rfl rfl dX7_decode_11 (fun H locs hP hD hS => ?_)
  have hP : va_P D vwCl (wN aN aIs aKd aNu aSg aVl aTs aTc cJ cI cZ (f_X7_throwing S (f_X7_out a1 0 4) (f_X7_isBad a0)).2) H := hP
  have hD : va_D A (wN aN aIs aKd aNu aSg aVl aTs aTc cJ cI cZ (f_X7_throwing S (f_X7_out a1 0 4) (f_X7_isBad a0)).2) := hD
  refine lv_if_eq (tgt := 19) hx hb dX7_decode_14 (by decide) (fun c1 => ?_) (fun c1 => ?_)
  · refine lv_iload_n hx hb dX7_decode_19 rfl (lv_at hl 2 rfl) ?_
    refine lv_iconst (v := 3) hx hb dX7_decode_20 (by decide) ?_
    refine lv_icmp_ge (tgt := 30) hx hb dX7_decode_21 (by decide) (fun c2 => ?_) (fun c2 => ?_)
    · refine lv_iload_n hx hb dX7_decode_30 rfl (lv_at hl 2 rfl) ?_
      refine lv_iconst (v := 3) hx hb dX7_decode_31 (by decide) ?_
      refine lv_icmp_ne (tgt := 43) hx hb dX7_decode_32 (by decide) (fun c3 => ?_) (fun c3 => ?_)
      · refine lv_iconst (v := 1) hx hb dX7_decode_43 (by decide) ?_
        refine lv_lload_n hx hb dX7_decode_44 rfl (lv_at hl 1 rfl) ?_
        refine lv_bipush (v := 32) hx hb dX7_decode_45 (by decide) ?_
        refine lv_bipush (v := 32) hx hb dX7_decode_47 (by decide) ?_
        refine q_callSi (As := [.long a0, .int 32, .int 32]) (rest := [.int 1]) (c_X7_many l D a0 32 32 (by decide)) hfix (va_cwS 3 hts gX7_decode_X7_many rfl rfl rfl (by decide +kernel) ⟨Nat.le_of_ble_eq_true rfl, Nat.le_of_ble_eq_true rfl⟩) rfl hl.1 rfl (Nat.le_of_ble_eq_true rfl) ⟨Nat.zero_le _, Nat.zero_le _⟩ hP hK hS hA [] [] rfl rfl dX7_decode_49 (fun H locs hP hS => ?_)
        refine lv_iadd hx hb dX7_decode_52 ?_
        exact q_mi ((f_X7_throwing S (f_X7_out a1 0 4) (f_X7_isBad a0)).2) hx hb hr hlocks hP hD hS (q_pair (by rw [f_X7_decode, if_pos c1, if_pos c2, if_neg c3])) dX7_decode_53
      · refine lv_lload_n hx hb dX7_decode_35 rfl (lv_at hl 1 rfl) ?_
        refine lv_bipush (v := 30) hx hb dX7_decode_36 (by decide) ?_
        refine lv_lshr hx hb dX7_decode_38 rfl ?_
        refine lv_l2i hx hb dX7_decode_39 rfl ?_
        refine lv_goto (tgt := 53) hx hb dX7_decode_40 (by decide) ?_
        exact q_mi ((f_X7_throwing S (f_X7_out a1 0 4) (f_X7_isBad a0)).2) hx hb hr hlocks hP hD hS (q_pair (by rw [f_X7_decode, if_pos c1, if_pos c2, if_pos c3])) dX7_decode_53
    · refine lv_lload_n hx hb dX7_decode_24 rfl (lv_at hl 1 rfl) ?_
      refine lv_iload_n hx hb dX7_decode_25 rfl (lv_at hl 2 rfl) ?_
      refine q_callSi (As := [.long a0, .int a1]) (rest := []) (c_X7_offset l D a0 a1) hfix (va_cwS 2 hts gX7_decode_X7_offset rfl rfl rfl (by decide +kernel) ⟨Nat.le_of_ble_eq_true rfl, Nat.le_of_ble_eq_true rfl⟩) rfl hl.1 rfl (Nat.le_of_ble_eq_true rfl) ⟨Nat.zero_le _, Nat.zero_le _⟩ hP hK hS hA [] [] rfl rfl dX7_decode_26 (fun H locs hP hS => ?_)
      exact q_mi ((f_X7_throwing S (f_X7_out a1 0 4) (f_X7_isBad a0)).2) hx hb hr hlocks hP hD hS (q_pair (by rw [f_X7_decode, if_pos c1, if_neg c2])) dX7_decode_29
  · refine lv_iconst (v := 0) hx hb dX7_decode_17 (by decide) ?_
    exact q_mi ((f_X7_throwing S (f_X7_out a1 0 4) (f_X7_isBad a0)).2) hx hb hr hlocks hP hD hS (q_pair (by rw [f_X7_decode, if_neg c1])) dX7_decode_18

def f_X7_number_J24 (S : NS) (a0 : Int32) (a1 : Int32) (a2 : Int64) (t0_24 : Int32) : NS :=
  (if t0_24 = 0 then (if ((f_X7_written S a0 ((a1 : Int32).toInt64) 0 (f_X7_modulo a2)).1) = 0 then (f_X7_throwing (f_X7_written S a0 ((a1 : Int32).toInt64) 0 (f_X7_modulo a2)).2 t0_24 1).2 else (f_X7_throwing (f_X7_written S a0 ((a1 : Int32).toInt64) 0 (f_X7_modulo a2)).2 t0_24 0).2) else (f_X7_throwing S t0_24 0).2)

def f_X7_number_J19 (S : NS) (a0 : Int32) (a1 : Int32) (a2 : Int64) : NS :=
  (f_X7_number_J24 S a0 a1 a2 1)

def f_X7_number (S : NS) (a0 : Int32) (a1 : Int32) (a2 : Int64) : NS :=
  (if (f_X7_out a0 1 5) = 0 then (if (f_X7_out a1 0 63) = 0 then (f_X7_number_J24 S a0 a1 a2 0) else (f_X7_number_J19 S a0 a1 a2)) else (f_X7_number_J19 S a0 a1 a2))

set_option maxHeartbeats 4000000 in
set_option maxRecDepth 100000 in
theorem c_X7_number (l : Launch) (D : va_G) (aN aIs aKd aNu aSg aVl aTs aTc : Nat) (cJ cI cZ : ClassId) (S : NS) (a0 : Int32) (a1 : Int32) (a2 : Int64) : q_muV l yX7_number wsX7_number ({ frames := 3, cells := 0, slots := 0, locals := 84 }) D [(cJ, .long), (cI, .int), (cZ, .boolean)] (wN aN aIs aKd aNu aSg aVl aTs aTc cJ cI cZ S) [.ref aN, .int a0, .int a1, .long a2] (fun u => u = (f_X7_number S a0 a1 a2)) (fun u => (wN aN aIs aKd aNu aSg aVl aTs aTc cJ cI cZ u)) := by
  refine q_muV_of (cc := cX7_number) (maxL := 6) (ret := none) (plainFor_of_name (by decide)) rfl (Nat.le_of_ble_eq_true rfl) ?_
  intro p e s m below meth c ls A hx hb hr hml hown hts hlocks hP hK hD hA hS hl
  have hown : s.vm.findClass RX7 = some m.cls := hown
  have hl : lv_has ls 6 [(0, .ref aN), (1, .int a0), (2, .int a1), (3, .long a2)] := hl
  have hfix : CallFix p m c cX7_number 6 s [.ref aN, .int a0, .int a1, .long a2].toArray wsX7_number RX7 := ⟨hx, hb, hml, hown, hts⟩
  refine lv_iload_n hx hb dX7_number_0 rfl (lv_at hl 1 rfl) ?_
  refine lv_iconst (v := 1) hx hb dX7_number_1 (by decide) ?_
  refine lv_iconst (v := 5) hx hb dX7_number_2 (by decide) ?_
  refine q_callSi (As := [.int a0, .int 1, .int 5]) (rest := []) (c_X7_out l D a0 1 5) hfix (va_cwS 3 hts gX7_number_X7_out rfl rfl rfl (by decide +kernel) ⟨Nat.le_of_ble_eq_true rfl, Nat.le_of_ble_eq_true rfl⟩) rfl hl.1 rfl (Nat.le_of_ble_eq_true rfl) ⟨Nat.zero_le _, Nat.zero_le _⟩ hP hK hS hA [] [] rfl rfl dX7_number_3 (fun H locs hP hS => ?_)
  have kJ24 : ∀ (t0_24 : Int32) (H : Heap) (locs : List Loc) (ls : Array Slot), (t0_24 = 0 ∨ t0_24 = 1) → (t0_24 = 0 → f_X7_out a0 1 5 = 0 ∧ f_X7_out a1 0 63 = 0) → (f_X7_number S a0 a1 a2) = (f_X7_number_J24 S a0 a1 a2 t0_24) → va_P D vwCl (wN aN aIs aKd aNu aSg aVl aTs aTc cJ cI cZ S) H → va_D A (wN aN aIs aKd aNu aSg aVl aTs aTc cJ cI cZ S) → va_S A s.heap H locs → lv_has ls 6 [(0, .ref aN), (1, .int a0), (2, .int a1), (3, .long a2)] → W p l e ({ frames := 3, cells := 0, slots := 0, locals := 84 }) s m [.ref aN, .int a0, .int a1, .long a2].toArray below meth c H locs 0 0 (MQ below (va_Qv (fun u => u = (f_X7_number S a0 a1 a2)) (fun u t => va_P D vwCl ((fun u => (wN aN aIs aKd aNu aSg aVl aTs aTc cJ cI cZ u)) u) t.heap ∧ va_D A ((fun u => (wN aN aIs aKd aNu aSg aVl aTs aTc cJ cI cZ u)) u)) A) [.ref aN, .int a0, .int a1, .long a2].toArray s 0 0 A) (F0 m 24 ls [.int t0_24]) := by
    intro t0_24 H locs ls hb_t0_24 hj_24 hJ24 hP hD hS hl
    refine lv_istore (lv' := [(5, .int t0_24), (0, .ref aN), (1, .int a0), (2, .int a1), (3, .long a2)]) hx hb dX7_number_24 hl (by decide) rfl (fun ls hl => ?_)
    refine lv_aload_n hx hb dX7_number_26 rfl (lv_at hl 1 rfl) ?_
    refine lv_iload hx hb dX7_number_27 (lv_at hl 0 rfl) ?_
    refine lv_iload hx hb dX7_number_29 (lv_at hl 0 rfl) ?_
    refine lv_if_ne (tgt := 53) hx hb dX7_number_31 (by decide) (fun c3 => ?_) (fun c3 => ?_)
    · refine lv_iconst (v := 0) hx hb dX7_number_53 (by decide) ?_
      refine q_callMi1 (As := [.int t0_24, .int 0]) (rest := []) (wr := []) (Wn := (fun u => (wN aN aIs aKd aNu aSg aVl aTs aTc cJ cI cZ u))) (q0 := 0) (ci := 4) (C := RX7) (c_X7_throwing l D aN aIs aKd aNu aSg aVl aTs aTc cJ cI cZ S t0_24 0) hfix (cwV 2 hts gX7_number_X7_throwing rfl rfl rfl (by decide +kernel) ⟨Nat.le_of_ble_eq_true rfl, Nat.le_of_ble_eq_true rfl⟩) rfl hl.1 rfl (Nat.le_of_ble_eq_true rfl) ⟨Nat.zero_le _, Nat.zero_le _⟩ hP hK hD hS hA [0, 1, 2, 3, 4, 5, 6, 7] [] [0, 1, 2, 3, 4, 5, 6, 7] [0, 1, 2] rfl rfl rfl (by decide) (by decide) (by decide) (by decide) (fun _ => rfl) (fun _ => rfl) rfl rfl rfl rfl dX7_number_54 (fun H locs hP hD hS => ?_)
      have hP : va_P D vwCl (wN aN aIs aKd aNu aSg aVl aTs aTc cJ cI cZ (f_X7_throwing S t0_24 0).2) H := hP
      have hD : va_D A (wN aN aIs aKd aNu aSg aVl aTs aTc cJ cI cZ (f_X7_throwing S t0_24 0).2) := hD
      refine lv_pop hx hb dX7_number_57 rfl ?_
      exact q_mv ((f_X7_throwing S t0_24 0).2) hx hb hr hlocks hP hD hS (Eq.symm (by rw [hJ24, f_X7_number_J24, if_neg c3])) dX7_number_58
    · refine lv_aload_n hx hb dX7_number_34 rfl (lv_at hl 1 rfl) ?_
      refine lv_iload_n hx hb dX7_number_35 rfl (lv_at hl 2 rfl) ?_
      refine lv_iload_n hx hb dX7_number_36 rfl (lv_at hl 3 rfl) ?_
      refine lv_i2l hx hb dX7_number_37 rfl ?_
      refine lv_iconst (v := 0) hx hb dX7_number_38 (by decide) ?_
      refine lv_lload_n hx hb dX7_number_39 rfl (lv_at hl 4 rfl) ?_
      refine q_callSl (As := [.long a2]) (rest := [.int 0, .long ((a1 : Int32).toInt64), .int a0, .ref aN, .int t0_24, .ref aN]) (c_X7_modulo l D a2) hfix (va_cwS 1 hts gX7_number_X7_modulo rfl rfl rfl (by decide +kernel) ⟨Nat.le_of_ble_eq_true rfl, Nat.le_of_ble_eq_true rfl⟩) rfl hl.1 rfl (Nat.le_of_ble_eq_true rfl) ⟨Nat.zero_le _, Nat.zero_le _⟩ hP hK hS hA [] [] rfl rfl dX7_number_40 (fun H locs hP hS => ?_)
      refine q_callMi1 (As := [.int a0, .long ((a1 : Int32).toInt64), .int 0, .long (f_X7_modulo a2)]) (rest := [.int t0_24, .ref aN]) (wr := []) (Wn := (fun u => (wN aN aIs aKd aNu aSg aVl aTs aTc cJ cI cZ u))) (q0 := 0) (ci := 4) (C := RX7) (c_X7_written l D aN aIs aKd aNu aSg aVl aTs aTc cJ cI cZ S a0 ((a1 : Int32).toInt64) 0 (f_X7_modulo a2) (n_outin (hj_24 c3).1 (by decide) (by decide))) hfix (cwV 4 hts gX7_number_X7_written rfl rfl rfl (by decide +kernel) ⟨Nat.le_of_ble_eq_true rfl, Nat.le_of_ble_eq_true rfl⟩) rfl hl.1 rfl (Nat.le_of_ble_eq_true rfl) ⟨Nat.zero_le _, Nat.zero_le _⟩ hP hK hD hS hA [0, 1, 2, 3, 4, 5, 6, 7] [] [0, 1, 2, 3, 4, 5, 6, 7] [0, 1, 2] rfl rfl rfl (by decide) (by decide) (by decide) (by decide) (fun _ => rfl) (fun _ => rfl) rfl rfl rfl rfl dX7_number_43 (fun H locs hP hD hS => ?_)
      have hP : va_P D vwCl (wN aN aIs aKd aNu aSg aVl aTs aTc cJ cI cZ (f_X7_written S a0 ((a1 : Int32).toInt64) 0 (f_X7_modulo a2)).2) H := hP
      have hD : va_D A (wN aN aIs aKd aNu aSg aVl aTs aTc cJ cI cZ (f_X7_written S a0 ((a1 : Int32).toInt64) 0 (f_X7_modulo a2)).2) := hD
      refine lv_if_ne (tgt := 53) hx hb dX7_number_46 (by decide) (fun c4 => ?_) (fun c4 => ?_)
      · refine lv_iconst (v := 0) hx hb dX7_number_53 (by decide) ?_
        refine q_callMi1 (As := [.int t0_24, .int 0]) (rest := []) (wr := []) (Wn := (fun u => (wN aN aIs aKd aNu aSg aVl aTs aTc cJ cI cZ u))) (q0 := 0) (ci := 4) (C := RX7) (c_X7_throwing l D aN aIs aKd aNu aSg aVl aTs aTc cJ cI cZ ((f_X7_written S a0 ((a1 : Int32).toInt64) 0 (f_X7_modulo a2)).2) t0_24 0) hfix (cwV 2 hts gX7_number_X7_throwing rfl rfl rfl (by decide +kernel) ⟨Nat.le_of_ble_eq_true rfl, Nat.le_of_ble_eq_true rfl⟩) rfl hl.1 rfl (Nat.le_of_ble_eq_true rfl) ⟨Nat.zero_le _, Nat.zero_le _⟩ hP hK hD hS hA [0, 1, 2, 3, 4, 5, 6, 7] [] [0, 1, 2, 3, 4, 5, 6, 7] [0, 1, 2] rfl rfl rfl (by decide) (by decide) (by decide) (by decide) (fun _ => rfl) (fun _ => rfl) rfl rfl rfl rfl dX7_number_54 (fun H locs hP hD hS => ?_)
        have hP : va_P D vwCl (wN aN aIs aKd aNu aSg aVl aTs aTc cJ cI cZ (f_X7_throwing (f_X7_written S a0 ((a1 : Int32).toInt64) 0 (f_X7_modulo a2)).2 t0_24 0).2) H := hP
        have hD : va_D A (wN aN aIs aKd aNu aSg aVl aTs aTc cJ cI cZ (f_X7_throwing (f_X7_written S a0 ((a1 : Int32).toInt64) 0 (f_X7_modulo a2)).2 t0_24 0).2) := hD
        refine lv_pop hx hb dX7_number_57 rfl ?_
        exact q_mv ((f_X7_throwing (f_X7_written S a0 ((a1 : Int32).toInt64) 0 (f_X7_modulo a2)).2 t0_24 0).2) hx hb hr hlocks hP hD hS (Eq.symm (by rw [hJ24, f_X7_number_J24, if_pos c3, if_neg c4])) dX7_number_58
      · refine lv_iconst (v := 1) hx hb dX7_number_49 (by decide) ?_
        refine lv_goto (tgt := 54) hx hb dX7_number_50 (by decide) ?_
        refine q_callMi1 (As := [.int t0_24, .int 1]) (rest := []) (wr := []) (Wn := (fun u => (wN aN aIs aKd aNu aSg aVl aTs aTc cJ cI cZ u))) (q0 := 0) (ci := 4) (C := RX7) (c_X7_throwing l D aN aIs aKd aNu aSg aVl aTs aTc cJ cI cZ ((f_X7_written S a0 ((a1 : Int32).toInt64) 0 (f_X7_modulo a2)).2) t0_24 1) hfix (cwV 2 hts gX7_number_X7_throwing rfl rfl rfl (by decide +kernel) ⟨Nat.le_of_ble_eq_true rfl, Nat.le_of_ble_eq_true rfl⟩) rfl hl.1 rfl (Nat.le_of_ble_eq_true rfl) ⟨Nat.zero_le _, Nat.zero_le _⟩ hP hK hD hS hA [0, 1, 2, 3, 4, 5, 6, 7] [] [0, 1, 2, 3, 4, 5, 6, 7] [0, 1, 2] rfl rfl rfl (by decide) (by decide) (by decide) (by decide) (fun _ => rfl) (fun _ => rfl) rfl rfl rfl rfl dX7_number_54 (fun H locs hP hD hS => ?_)
        have hP : va_P D vwCl (wN aN aIs aKd aNu aSg aVl aTs aTc cJ cI cZ (f_X7_throwing (f_X7_written S a0 ((a1 : Int32).toInt64) 0 (f_X7_modulo a2)).2 t0_24 1).2) H := hP
        have hD : va_D A (wN aN aIs aKd aNu aSg aVl aTs aTc cJ cI cZ (f_X7_throwing (f_X7_written S a0 ((a1 : Int32).toInt64) 0 (f_X7_modulo a2)).2 t0_24 1).2) := hD
        refine lv_pop hx hb dX7_number_57 rfl ?_
        exact q_mv ((f_X7_throwing (f_X7_written S a0 ((a1 : Int32).toInt64) 0 (f_X7_modulo a2)).2 t0_24 1).2) hx hb hr hlocks hP hD hS (Eq.symm (by rw [hJ24, f_X7_number_J24, if_pos c3, if_pos c4])) dX7_number_58
  have kJ19 : ∀ (H : Heap) (locs : List Loc) (ls : Array Slot), (f_X7_number S a0 a1 a2) = (f_X7_number_J19 S a0 a1 a2) → va_P D vwCl (wN aN aIs aKd aNu aSg aVl aTs aTc cJ cI cZ S) H → va_D A (wN aN aIs aKd aNu aSg aVl aTs aTc cJ cI cZ S) → va_S A s.heap H locs → lv_has ls 6 [(0, .ref aN), (1, .int a0), (2, .int a1), (3, .long a2)] → W p l e ({ frames := 3, cells := 0, slots := 0, locals := 84 }) s m [.ref aN, .int a0, .int a1, .long a2].toArray below meth c H locs 0 0 (MQ below (va_Qv (fun u => u = (f_X7_number S a0 a1 a2)) (fun u t => va_P D vwCl ((fun u => (wN aN aIs aKd aNu aSg aVl aTs aTc cJ cI cZ u)) u) t.heap ∧ va_D A ((fun u => (wN aN aIs aKd aNu aSg aVl aTs aTc cJ cI cZ u)) u)) A) [.ref aN, .int a0, .int a1, .long a2].toArray s 0 0 A) (F0 m 19 ls []) := by
    intro H locs ls hJ19 hP hD hS hl
    refine lv_iconst (v := 1) hx hb dX7_number_19 (by decide) ?_
    refine lv_goto (tgt := 24) hx hb dX7_number_20 (by decide) ?_
    exact kJ24 1 _ _ _ (Or.inr rfl) (fun h => absurd h (by decide)) (by rw [hJ19, f_X7_number_J19]) hP hD hS (lv_sub hl [0, 1, 2, 3] rfl)
  refine lv_if_ne (tgt := 19) hx hb dX7_number_6 (by decide) (fun c1 => ?_) (fun c1 => ?_)
  · exact kJ19 _ _ _ (by rw [f_X7_number, if_neg c1]) hP hD hS (lv_sub hl [0, 1, 2, 3] rfl)
  · refine lv_iload_n hx hb dX7_number_9 rfl (lv_at hl 2 rfl) ?_
    refine lv_iconst (v := 0) hx hb dX7_number_10 (by decide) ?_
    refine lv_bipush (v := 63) hx hb dX7_number_11 (by decide) ?_
    refine q_callSi (As := [.int a1, .int 0, .int 63]) (rest := []) (c_X7_out l D a1 0 63) hfix (va_cwS 3 hts gX7_number_X7_out rfl rfl rfl (by decide +kernel) ⟨Nat.le_of_ble_eq_true rfl, Nat.le_of_ble_eq_true rfl⟩) rfl hl.1 rfl (Nat.le_of_ble_eq_true rfl) ⟨Nat.zero_le _, Nat.zero_le _⟩ hP hK hS hA [] [] rfl rfl dX7_number_13 (fun H locs hP hS => ?_)
    refine lv_if_eq (tgt := 23) hx hb dX7_number_16 (by decide) (fun c2 => ?_) (fun c2 => ?_)
    · refine lv_iconst (v := 0) hx hb dX7_number_23 (by decide) ?_
      exact kJ24 0 _ _ _ (Or.inl rfl) (fun _ => ⟨c1, c2⟩) (by rw [f_X7_number, if_pos c1, if_pos c2]) hP hD hS (lv_sub hl [0, 1, 2, 3] rfl)
    · exact kJ19 _ _ _ (by rw [f_X7_number, if_pos c1, if_neg c2]) hP hD hS (lv_sub hl [0, 1, 2, 3] rfl)

def f_X7_address_J47 (S : NS) (a0 : Int32) (a1 : Int32) (a2 : Int32) (a3 : Int32) (t0_47 : Int32) : NS :=
  (if t0_47 = 0 then (if ((f_X7_written S a0 ((a1 : Int32).toInt64) a2 ((a3 : Int32).toInt64)).1) = 0 then (f_X7_throwing (f_X7_written S a0 ((a1 : Int32).toInt64) a2 ((a3 : Int32).toInt64)).2 t0_47 1).2 else (f_X7_throwing (f_X7_written S a0 ((a1 : Int32).toInt64) a2 ((a3 : Int32).toInt64)).2 t0_47 0).2) else (f_X7_throwing S t0_47 0).2)

def f_X7_address_J42 (S : NS) (a0 : Int32) (a1 : Int32) (a2 : Int32) (a3 : Int32) : NS :=
  (f_X7_address_J47 S a0 a1 a2 a3 1)

def f_X7_address (S : NS) (a0 : Int32) (a1 : Int32) (a2 : Int32) (a3 : Int32) : NS :=
  (if (f_X7_out a0 1 5) = 0 then (if (f_X7_out a1 0 63) = 0 then (if (f_X7_out a2 1 5) = 0 then (if (f_X7_out a3 (-1000) 1000) = 0 then (f_X7_address_J47 S a0 a1 a2 a3 0) else (f_X7_address_J42 S a0 a1 a2 a3)) else (f_X7_address_J42 S a0 a1 a2 a3)) else (f_X7_address_J42 S a0 a1 a2 a3)) else (f_X7_address_J42 S a0 a1 a2 a3))

set_option maxHeartbeats 4000000 in
set_option maxRecDepth 100000 in
theorem c_X7_address (l : Launch) (D : va_G) (aN aIs aKd aNu aSg aVl aTs aTc : Nat) (cJ cI cZ : ClassId) (S : NS) (a0 : Int32) (a1 : Int32) (a2 : Int32) (a3 : Int32) : q_muV l yX7_address wsX7_address ({ frames := 3, cells := 0, slots := 0, locals := 84 }) D [(cJ, .long), (cI, .int), (cZ, .boolean)] (wN aN aIs aKd aNu aSg aVl aTs aTc cJ cI cZ S) [.ref aN, .int a0, .int a1, .int a2, .int a3] (fun u => u = (f_X7_address S a0 a1 a2 a3)) (fun u => (wN aN aIs aKd aNu aSg aVl aTs aTc cJ cI cZ u)) := by
  refine q_muV_of (cc := cX7_address) (maxL := 6) (ret := none) (plainFor_of_name (by decide)) rfl (Nat.le_of_ble_eq_true rfl) ?_
  intro p e s m below meth c ls A hx hb hr hml hown hts hlocks hP hK hD hA hS hl
  have hown : s.vm.findClass RX7 = some m.cls := hown
  have hl : lv_has ls 6 [(0, .ref aN), (1, .int a0), (2, .int a1), (3, .int a2), (4, .int a3)] := hl
  have hfix : CallFix p m c cX7_address 6 s [.ref aN, .int a0, .int a1, .int a2, .int a3].toArray wsX7_address RX7 := ⟨hx, hb, hml, hown, hts⟩
  refine lv_iload_n hx hb dX7_address_0 rfl (lv_at hl 1 rfl) ?_
  refine lv_iconst (v := 1) hx hb dX7_address_1 (by decide) ?_
  refine lv_iconst (v := 5) hx hb dX7_address_2 (by decide) ?_
  refine q_callSi (As := [.int a0, .int 1, .int 5]) (rest := []) (c_X7_out l D a0 1 5) hfix (va_cwS 3 hts gX7_address_X7_out rfl rfl rfl (by decide +kernel) ⟨Nat.le_of_ble_eq_true rfl, Nat.le_of_ble_eq_true rfl⟩) rfl hl.1 rfl (Nat.le_of_ble_eq_true rfl) ⟨Nat.zero_le _, Nat.zero_le _⟩ hP hK hS hA [] [] rfl rfl dX7_address_3 (fun H locs hP hS => ?_)
  have kJ47 : ∀ (t0_47 : Int32) (H : Heap) (locs : List Loc) (ls : Array Slot), (t0_47 = 0 ∨ t0_47 = 1) → (t0_47 = 0 → f_X7_out a0 1 5 = 0 ∧ f_X7_out a1 0 63 = 0 ∧ f_X7_out a2 1 5 = 0) → (f_X7_address S a0 a1 a2 a3) = (f_X7_address_J47 S a0 a1 a2 a3 t0_47) → va_P D vwCl (wN aN aIs aKd aNu aSg aVl aTs aTc cJ cI cZ S) H → va_D A (wN aN aIs aKd aNu aSg aVl aTs aTc cJ cI cZ S) → va_S A s.heap H locs → lv_has ls 6 [(0, .ref aN), (1, .int a0), (2, .int a1), (3, .int a2), (4, .int a3)] → W p l e ({ frames := 3, cells := 0, slots := 0, locals := 84 }) s m [.ref aN, .int a0, .int a1, .int a2, .int a3].toArray below meth c H locs 0 0 (MQ below (va_Qv (fun u => u = (f_X7_address S a0 a1 a2 a3)) (fun u t => va_P D vwCl ((fun u => (wN aN aIs aKd aNu aSg aVl aTs aTc cJ cI cZ u)) u) t.heap ∧ va_D A ((fun u => (wN aN aIs aKd aNu aSg aVl aTs aTc cJ cI cZ u)) u)) A) [.ref aN, .int a0, .int a1, .int a2, .int a3].toArray s 0 0 A) (F0 m 47 ls [.int t0_47]) := by
    intro t0_47 H locs ls hb_t0_47 hj_47 hJ47 hP hD hS hl
    refine lv_istore (lv' := [(5, .int t0_47), (0, .ref aN), (1, .int a0), (2, .int a1), (3, .int a2), (4, .int a3)]) hx hb dX7_address_47 hl (by decide) rfl (fun ls hl => ?_)
    refine lv_aload_n hx hb dX7_address_49 rfl (lv_at hl 1 rfl) ?_
    refine lv_iload hx hb dX7_address_50 (lv_at hl 0 rfl) ?_
    refine lv_iload hx hb dX7_address_52 (lv_at hl 0 rfl) ?_
    refine lv_if_ne (tgt := 75) hx hb dX7_address_54 (by decide) (fun c5 => ?_) (fun c5 => ?_)
    · refine lv_iconst (v := 0) hx hb dX7_address_75 (by decide) ?_
      refine q_callMi1 (As := [.int t0_47, .int 0]) (rest := []) (wr := []) (Wn := (fun u => (wN aN aIs aKd aNu aSg aVl aTs aTc cJ cI cZ u))) (q0 := 0) (ci := 4) (C := RX7) (c_X7_throwing l D aN aIs aKd aNu aSg aVl aTs aTc cJ cI cZ S t0_47 0) hfix (cwV 2 hts gX7_address_X7_throwing rfl rfl rfl (by decide +kernel) ⟨Nat.le_of_ble_eq_true rfl, Nat.le_of_ble_eq_true rfl⟩) rfl hl.1 rfl (Nat.le_of_ble_eq_true rfl) ⟨Nat.zero_le _, Nat.zero_le _⟩ hP hK hD hS hA [0, 1, 2, 3, 4, 5, 6, 7] [] [0, 1, 2, 3, 4, 5, 6, 7] [0, 1, 2] rfl rfl rfl (by decide) (by decide) (by decide) (by decide) (fun _ => rfl) (fun _ => rfl) rfl rfl rfl rfl dX7_address_76 (fun H locs hP hD hS => ?_)
      have hP : va_P D vwCl (wN aN aIs aKd aNu aSg aVl aTs aTc cJ cI cZ (f_X7_throwing S t0_47 0).2) H := hP
      have hD : va_D A (wN aN aIs aKd aNu aSg aVl aTs aTc cJ cI cZ (f_X7_throwing S t0_47 0).2) := hD
      refine lv_pop hx hb dX7_address_79 rfl ?_
      exact q_mv ((f_X7_throwing S t0_47 0).2) hx hb hr hlocks hP hD hS (Eq.symm (by rw [hJ47, f_X7_address_J47, if_neg c5])) dX7_address_80
    · refine lv_aload_n hx hb dX7_address_57 rfl (lv_at hl 1 rfl) ?_
      refine lv_iload_n hx hb dX7_address_58 rfl (lv_at hl 2 rfl) ?_
      refine lv_iload_n hx hb dX7_address_59 rfl (lv_at hl 3 rfl) ?_
      refine lv_i2l hx hb dX7_address_60 rfl ?_
      refine lv_iload_n hx hb dX7_address_61 rfl (lv_at hl 4 rfl) ?_
      refine lv_iload hx hb dX7_address_62 (lv_at hl 5 rfl) ?_
      refine lv_i2l hx hb dX7_address_64 rfl ?_
      refine q_callMi1 (As := [.int a0, .long ((a1 : Int32).toInt64), .int a2, .long ((a3 : Int32).toInt64)]) (rest := [.int t0_47, .ref aN]) (wr := []) (Wn := (fun u => (wN aN aIs aKd aNu aSg aVl aTs aTc cJ cI cZ u))) (q0 := 0) (ci := 4) (C := RX7) (c_X7_written l D aN aIs aKd aNu aSg aVl aTs aTc cJ cI cZ S a0 ((a1 : Int32).toInt64) a2 ((a3 : Int32).toInt64) (n_outin (hj_47 c5).1 (by decide) (by decide))) hfix (cwV 4 hts gX7_address_X7_written rfl rfl rfl (by decide +kernel) ⟨Nat.le_of_ble_eq_true rfl, Nat.le_of_ble_eq_true rfl⟩) rfl hl.1 rfl (Nat.le_of_ble_eq_true rfl) ⟨Nat.zero_le _, Nat.zero_le _⟩ hP hK hD hS hA [0, 1, 2, 3, 4, 5, 6, 7] [] [0, 1, 2, 3, 4, 5, 6, 7] [0, 1, 2] rfl rfl rfl (by decide) (by decide) (by decide) (by decide) (fun _ => rfl) (fun _ => rfl) rfl rfl rfl rfl dX7_address_65 (fun H locs hP hD hS => ?_)
      have hP : va_P D vwCl (wN aN aIs aKd aNu aSg aVl aTs aTc cJ cI cZ (f_X7_written S a0 ((a1 : Int32).toInt64) a2 ((a3 : Int32).toInt64)).2) H := hP
      have hD : va_D A (wN aN aIs aKd aNu aSg aVl aTs aTc cJ cI cZ (f_X7_written S a0 ((a1 : Int32).toInt64) a2 ((a3 : Int32).toInt64)).2) := hD
      refine lv_if_ne (tgt := 75) hx hb dX7_address_68 (by decide) (fun c6 => ?_) (fun c6 => ?_)
      · refine lv_iconst (v := 0) hx hb dX7_address_75 (by decide) ?_
        refine q_callMi1 (As := [.int t0_47, .int 0]) (rest := []) (wr := []) (Wn := (fun u => (wN aN aIs aKd aNu aSg aVl aTs aTc cJ cI cZ u))) (q0 := 0) (ci := 4) (C := RX7) (c_X7_throwing l D aN aIs aKd aNu aSg aVl aTs aTc cJ cI cZ ((f_X7_written S a0 ((a1 : Int32).toInt64) a2 ((a3 : Int32).toInt64)).2) t0_47 0) hfix (cwV 2 hts gX7_address_X7_throwing rfl rfl rfl (by decide +kernel) ⟨Nat.le_of_ble_eq_true rfl, Nat.le_of_ble_eq_true rfl⟩) rfl hl.1 rfl (Nat.le_of_ble_eq_true rfl) ⟨Nat.zero_le _, Nat.zero_le _⟩ hP hK hD hS hA [0, 1, 2, 3, 4, 5, 6, 7] [] [0, 1, 2, 3, 4, 5, 6, 7] [0, 1, 2] rfl rfl rfl (by decide) (by decide) (by decide) (by decide) (fun _ => rfl) (fun _ => rfl) rfl rfl rfl rfl dX7_address_76 (fun H locs hP hD hS => ?_)
        have hP : va_P D vwCl (wN aN aIs aKd aNu aSg aVl aTs aTc cJ cI cZ (f_X7_throwing (f_X7_written S a0 ((a1 : Int32).toInt64) a2 ((a3 : Int32).toInt64)).2 t0_47 0).2) H := hP
        have hD : va_D A (wN aN aIs aKd aNu aSg aVl aTs aTc cJ cI cZ (f_X7_throwing (f_X7_written S a0 ((a1 : Int32).toInt64) a2 ((a3 : Int32).toInt64)).2 t0_47 0).2) := hD
        refine lv_pop hx hb dX7_address_79 rfl ?_
        exact q_mv ((f_X7_throwing (f_X7_written S a0 ((a1 : Int32).toInt64) a2 ((a3 : Int32).toInt64)).2 t0_47 0).2) hx hb hr hlocks hP hD hS (Eq.symm (by rw [hJ47, f_X7_address_J47, if_pos c5, if_neg c6])) dX7_address_80
      · refine lv_iconst (v := 1) hx hb dX7_address_71 (by decide) ?_
        refine lv_goto (tgt := 76) hx hb dX7_address_72 (by decide) ?_
        refine q_callMi1 (As := [.int t0_47, .int 1]) (rest := []) (wr := []) (Wn := (fun u => (wN aN aIs aKd aNu aSg aVl aTs aTc cJ cI cZ u))) (q0 := 0) (ci := 4) (C := RX7) (c_X7_throwing l D aN aIs aKd aNu aSg aVl aTs aTc cJ cI cZ ((f_X7_written S a0 ((a1 : Int32).toInt64) a2 ((a3 : Int32).toInt64)).2) t0_47 1) hfix (cwV 2 hts gX7_address_X7_throwing rfl rfl rfl (by decide +kernel) ⟨Nat.le_of_ble_eq_true rfl, Nat.le_of_ble_eq_true rfl⟩) rfl hl.1 rfl (Nat.le_of_ble_eq_true rfl) ⟨Nat.zero_le _, Nat.zero_le _⟩ hP hK hD hS hA [0, 1, 2, 3, 4, 5, 6, 7] [] [0, 1, 2, 3, 4, 5, 6, 7] [0, 1, 2] rfl rfl rfl (by decide) (by decide) (by decide) (by decide) (fun _ => rfl) (fun _ => rfl) rfl rfl rfl rfl dX7_address_76 (fun H locs hP hD hS => ?_)
        have hP : va_P D vwCl (wN aN aIs aKd aNu aSg aVl aTs aTc cJ cI cZ (f_X7_throwing (f_X7_written S a0 ((a1 : Int32).toInt64) a2 ((a3 : Int32).toInt64)).2 t0_47 1).2) H := hP
        have hD : va_D A (wN aN aIs aKd aNu aSg aVl aTs aTc cJ cI cZ (f_X7_throwing (f_X7_written S a0 ((a1 : Int32).toInt64) a2 ((a3 : Int32).toInt64)).2 t0_47 1).2) := hD
        refine lv_pop hx hb dX7_address_79 rfl ?_
        exact q_mv ((f_X7_throwing (f_X7_written S a0 ((a1 : Int32).toInt64) a2 ((a3 : Int32).toInt64)).2 t0_47 1).2) hx hb hr hlocks hP hD hS (Eq.symm (by rw [hJ47, f_X7_address_J47, if_pos c5, if_pos c6])) dX7_address_80
  have kJ42 : ∀ (H : Heap) (locs : List Loc) (ls : Array Slot), (f_X7_address S a0 a1 a2 a3) = (f_X7_address_J42 S a0 a1 a2 a3) → va_P D vwCl (wN aN aIs aKd aNu aSg aVl aTs aTc cJ cI cZ S) H → va_D A (wN aN aIs aKd aNu aSg aVl aTs aTc cJ cI cZ S) → va_S A s.heap H locs → lv_has ls 6 [(0, .ref aN), (1, .int a0), (2, .int a1), (3, .int a2), (4, .int a3)] → W p l e ({ frames := 3, cells := 0, slots := 0, locals := 84 }) s m [.ref aN, .int a0, .int a1, .int a2, .int a3].toArray below meth c H locs 0 0 (MQ below (va_Qv (fun u => u = (f_X7_address S a0 a1 a2 a3)) (fun u t => va_P D vwCl ((fun u => (wN aN aIs aKd aNu aSg aVl aTs aTc cJ cI cZ u)) u) t.heap ∧ va_D A ((fun u => (wN aN aIs aKd aNu aSg aVl aTs aTc cJ cI cZ u)) u)) A) [.ref aN, .int a0, .int a1, .int a2, .int a3].toArray s 0 0 A) (F0 m 42 ls []) := by
    intro H locs ls hJ42 hP hD hS hl
    refine lv_iconst (v := 1) hx hb dX7_address_42 (by decide) ?_
    refine lv_goto (tgt := 47) hx hb dX7_address_43 (by decide) ?_
    exact kJ47 1 _ _ _ (Or.inr rfl) (fun h => absurd h (by decide)) (by rw [hJ42, f_X7_address_J42]) hP hD hS (lv_sub hl [0, 1, 2, 3, 4] rfl)
  refine lv_if_ne (tgt := 42) hx hb dX7_address_6 (by decide) (fun c1 => ?_) (fun c1 => ?_)
  · exact kJ42 _ _ _ (by rw [f_X7_address, if_neg c1]) hP hD hS (lv_sub hl [0, 1, 2, 3, 4] rfl)
  · refine lv_iload_n hx hb dX7_address_9 rfl (lv_at hl 2 rfl) ?_
    refine lv_iconst (v := 0) hx hb dX7_address_10 (by decide) ?_
    refine lv_bipush (v := 63) hx hb dX7_address_11 (by decide) ?_
    refine q_callSi (As := [.int a1, .int 0, .int 63]) (rest := []) (c_X7_out l D a1 0 63) hfix (va_cwS 3 hts gX7_address_X7_out rfl rfl rfl (by decide +kernel) ⟨Nat.le_of_ble_eq_true rfl, Nat.le_of_ble_eq_true rfl⟩) rfl hl.1 rfl (Nat.le_of_ble_eq_true rfl) ⟨Nat.zero_le _, Nat.zero_le _⟩ hP hK hS hA [] [] rfl rfl dX7_address_13 (fun H locs hP hS => ?_)
    refine lv_if_ne (tgt := 42) hx hb dX7_address_16 (by decide) (fun c2 => ?_) (fun c2 => ?_)
    · exact kJ42 _ _ _ (by rw [f_X7_address, if_pos c1, if_neg c2]) hP hD hS (lv_sub hl [0, 1, 2, 3, 4] rfl)
    · refine lv_iload_n hx hb dX7_address_19 rfl (lv_at hl 3 rfl) ?_
      refine lv_iconst (v := 1) hx hb dX7_address_20 (by decide) ?_
      refine lv_iconst (v := 5) hx hb dX7_address_21 (by decide) ?_
      refine q_callSi (As := [.int a2, .int 1, .int 5]) (rest := []) (c_X7_out l D a2 1 5) hfix (va_cwS 3 hts gX7_address_X7_out rfl rfl rfl (by decide +kernel) ⟨Nat.le_of_ble_eq_true rfl, Nat.le_of_ble_eq_true rfl⟩) rfl hl.1 rfl (Nat.le_of_ble_eq_true rfl) ⟨Nat.zero_le _, Nat.zero_le _⟩ hP hK hS hA [] [] rfl rfl dX7_address_22 (fun H locs hP hS => ?_)
      refine lv_if_ne (tgt := 42) hx hb dX7_address_25 (by decide) (fun c3 => ?_) (fun c3 => ?_)
      · exact kJ42 _ _ _ (by rw [f_X7_address, if_pos c1, if_pos c2, if_neg c3]) hP hD hS (lv_sub hl [0, 1, 2, 3, 4] rfl)
      · refine lv_iload hx hb dX7_address_28 (lv_at hl 4 rfl) ?_
        refine lv_sipush (v := -1000) hx hb dX7_address_30 (by decide) ?_
        refine lv_sipush (v := 1000) hx hb dX7_address_33 (by decide) ?_
        refine q_callSi (As := [.int a3, .int (-1000), .int 1000]) (rest := []) (c_X7_out l D a3 (-1000) 1000) hfix (va_cwS 3 hts gX7_address_X7_out rfl rfl rfl (by decide +kernel) ⟨Nat.le_of_ble_eq_true rfl, Nat.le_of_ble_eq_true rfl⟩) rfl hl.1 rfl (Nat.le_of_ble_eq_true rfl) ⟨Nat.zero_le _, Nat.zero_le _⟩ hP hK hS hA [] [] rfl rfl dX7_address_36 (fun H locs hP hS => ?_)
        refine lv_if_eq (tgt := 46) hx hb dX7_address_39 (by decide) (fun c4 => ?_) (fun c4 => ?_)
        · refine lv_iconst (v := 0) hx hb dX7_address_46 (by decide) ?_
          exact kJ47 0 _ _ _ (Or.inl rfl) (fun _ => ⟨c1, c2, c3⟩) (by rw [f_X7_address, if_pos c1, if_pos c2, if_pos c3, if_pos c4]) hP hD hS (lv_sub hl [0, 1, 2, 3, 4] rfl)
        · exact kJ42 _ _ _ (by rw [f_X7_address, if_pos c1, if_pos c2, if_pos c3, if_neg c4]) hP hD hS (lv_sub hl [0, 1, 2, 3, 4] rfl)

def f_X7_start_J99 (v4_47 : Int32) (S_47 : NS) (t0_69 : Int32) (k_47 : Int32 → NS → NS) (t0_99 : Int64) : NS :=
  (k_47 (v4_47 + 1) (sN_value (sN_segment S_47 (upd (pN_segment S_47) (v4_47 : Int32).toNatClampNeg t0_69)) (vp_updL (pN_value (sN_segment S_47 (upd (pN_segment S_47) (v4_47 : Int32).toNatClampNeg t0_69))) (v4_47 : Int32).toNatClampNeg t0_99)))

def f_X7_start_J69 (a0 : Int32) (a1 : Int32) (a2 : Int32) (v4_47 : Int32) (S_47 : NS) (k_47 : Int32 → NS → NS) (t0_69 : Int32) : NS :=
  (if v4_47 = 0 then (f_X7_start_J99 v4_47 S_47 t0_69 k_47 ((a0 : Int32).toInt64)) else (if v4_47 = 1 then (f_X7_start_J99 v4_47 S_47 t0_69 k_47 ((a1 : Int32).toInt64)) else (f_X7_start_J99 v4_47 S_47 t0_69 k_47 ((a2 : Int32).toInt64))))

def f_X7_start_L47 (a0 : Int32) (a1 : Int32) (a2 : Int32) : Nat → Int32 → NS → NS
  | 0, _, _ => default
  | fu_47 + 1, v4_47, S_47 => (if 3 ≤ v4_47 then (sN_failure (sN_rows S_47 0) 0) else (if v4_47 = 0 then (f_X7_start_J69 a0 a1 a2 v4_47 S_47 (f_X7_start_L47 a0 a1 a2 fu_47) 1) else (f_X7_start_J69 a0 a1 a2 v4_47 S_47 (f_X7_start_L47 a0 a1 a2 fu_47) 2)))

def f_X7_start_J36 (S : NS) (a0 : Int32) (a1 : Int32) (a2 : Int32) (t0_36 : Int32) : NS :=
  (if ((f_X7_throwing S t0_36 0).1) = 0 then (f_X7_start_L47 a0 a1 a2 4 0 ((f_X7_throwing S t0_36 0).2)) else (f_X7_throwing S t0_36 0).2)

def f_X7_start_J31 (S : NS) (a0 : Int32) (a1 : Int32) (a2 : Int32) : NS :=
  (f_X7_start_J36 S a0 a1 a2 1)

def f_X7_start (S : NS) (a0 : Int32) (a1 : Int32) (a2 : Int32) : NS :=
  (if (f_X7_out a0 0 63) = 0 then (if (f_X7_out a1 0 63) = 0 then (if (f_X7_out a2 0 63) = 0 then (f_X7_start_J36 S a0 a1 a2 0) else (f_X7_start_J31 S a0 a1 a2)) else (f_X7_start_J31 S a0 a1 a2)) else (f_X7_start_J31 S a0 a1 a2))

set_option maxHeartbeats 4000000 in
set_option maxRecDepth 100000 in
theorem c_X7_start (l : Launch) (D : va_G) (aN aIs aKd aNu aSg aVl aTs aTc : Nat) (cJ cI cZ : ClassId) (S : NS) (a0 : Int32) (a1 : Int32) (a2 : Int32) : q_muV l yX7_start wsX7_start ({ frames := 1, cells := 0, slots := 0, locals := 22 }) D [(cJ, .long), (cI, .int), (cZ, .boolean)] (wN aN aIs aKd aNu aSg aVl aTs aTc cJ cI cZ S) [.ref aN, .int a0, .int a1, .int a2] (fun u => u = (f_X7_start S a0 a1 a2)) (fun u => (wN aN aIs aKd aNu aSg aVl aTs aTc cJ cI cZ u)) := by
  refine q_muV_of (cc := cX7_start) (maxL := 5) (ret := none) (plainFor_of_name (by decide)) rfl (Nat.le_of_ble_eq_true rfl) ?_
  intro p e s m below meth c ls A hx hb hr hml hown hts hlocks hP hK hD hA hS hl
  have hown : s.vm.findClass RX7 = some m.cls := hown
  have hl : lv_has ls 5 [(0, .ref aN), (1, .int a0), (2, .int a1), (3, .int a2)] := hl
  have hfix : CallFix p m c cX7_start 5 s [.ref aN, .int a0, .int a1, .int a2].toArray wsX7_start RX7 := ⟨hx, hb, hml, hown, hts⟩
  have hin4 : ∀ w ∈ wsX70, w ∈ wsX7_start := by decide +kernel
  refine lv_aload_n hx hb dX7_start_0 rfl (lv_at hl 0 rfl) ?_
  refine lv_iload_n hx hb dX7_start_1 rfl (lv_at hl 1 rfl) ?_
  refine lv_iconst (v := 0) hx hb dX7_start_2 (by decide) ?_
  refine lv_bipush (v := 63) hx hb dX7_start_3 (by decide) ?_
  refine q_callSi (As := [.int a0, .int 0, .int 63]) (rest := [.ref aN]) (c_X7_out l D a0 0 63) hfix (va_cwS 3 hts gX7_start_X7_out rfl rfl rfl (by decide +kernel) ⟨Nat.le_of_ble_eq_true rfl, Nat.le_of_ble_eq_true rfl⟩) rfl hl.1 rfl (Nat.le_of_ble_eq_true rfl) ⟨Nat.zero_le _, Nat.zero_le _⟩ hP hK hS hA [] [] rfl rfl dX7_start_5 (fun H locs hP hS => ?_)
  have kJ36 : ∀ (t0_36 : Int32) (H : Heap) (locs : List Loc) (ls : Array Slot), (t0_36 = 0 ∨ t0_36 = 1) → (f_X7_start S a0 a1 a2) = (f_X7_start_J36 S a0 a1 a2 t0_36) → va_P D vwCl (wN aN aIs aKd aNu aSg aVl aTs aTc cJ cI cZ S) H → va_D A (wN aN aIs aKd aNu aSg aVl aTs aTc cJ cI cZ S) → va_S A s.heap H locs → lv_has ls 5 [(0, .ref aN), (1, .int a0), (2, .int a1), (3, .int a2)] → W p l e ({ frames := 1, cells := 0, slots := 0, locals := 22 }) s m [.ref aN, .int a0, .int a1, .int a2].toArray below meth c H locs 0 0 (MQ below (va_Qv (fun u => u = (f_X7_start S a0 a1 a2)) (fun u t => va_P D vwCl ((fun u => (wN aN aIs aKd aNu aSg aVl aTs aTc cJ cI cZ u)) u) t.heap ∧ va_D A ((fun u => (wN aN aIs aKd aNu aSg aVl aTs aTc cJ cI cZ u)) u)) A) [.ref aN, .int a0, .int a1, .int a2].toArray s 0 0 A) (F0 m 36 ls [.int t0_36, .ref aN]) := by
    intro t0_36 H locs ls hb_t0_36 hJ36 hP hD hS hl
    refine lv_iconst (v := 0) hx hb dX7_start_36 (by decide) ?_
    refine q_callMi1 (As := [.int t0_36, .int 0]) (rest := []) (wr := []) (Wn := (fun u => (wN aN aIs aKd aNu aSg aVl aTs aTc cJ cI cZ u))) (q0 := 0) (ci := 4) (C := RX7) (c_X7_throwing l D aN aIs aKd aNu aSg aVl aTs aTc cJ cI cZ S t0_36 0) hfix (cwV 2 hts gX7_start_X7_throwing rfl rfl rfl (by decide +kernel) ⟨Nat.le_of_ble_eq_true rfl, Nat.le_of_ble_eq_true rfl⟩) rfl hl.1 rfl (Nat.le_of_ble_eq_true rfl) ⟨Nat.zero_le _, Nat.zero_le _⟩ hP hK hD hS hA [0, 1, 2, 3, 4, 5, 6, 7] [] [0, 1, 2, 3, 4, 5, 6, 7] [0, 1, 2] rfl rfl rfl (by decide) (by decide) (by decide) (by decide) (fun _ => rfl) (fun _ => rfl) rfl rfl rfl rfl dX7_start_37 (fun H locs hP hD hS => ?_)
    have hP : va_P D vwCl (wN aN aIs aKd aNu aSg aVl aTs aTc cJ cI cZ (f_X7_throwing S t0_36 0).2) H := hP
    have hD : va_D A (wN aN aIs aKd aNu aSg aVl aTs aTc cJ cI cZ (f_X7_throwing S t0_36 0).2) := hD
    refine lv_if_eq (tgt := 44) hx hb dX7_start_40 (by decide) (fun c4 => ?_) (fun c4 => ?_)
    · refine lv_iconst (v := 0) hx hb dX7_start_44 (by decide) ?_
      refine lv_istore (lv' := [(4, .int 0), (0, .ref aN), (1, .int a0), (2, .int a1), (3, .int a2)]) hx hb dX7_start_45 hl (by decide) rfl (fun ls hl => ?_)
      have kL47 : ∀ (fu_47 : Nat) (v4_47 : Int32) (S_47 : NS) (H : Heap) (locs : List Loc) (ls : Array Slot), ((3 : Int) - v4_47.toInt).toNat < fu_47 → 0 ≤ v4_47 → (f_X7_start S a0 a1 a2) = (f_X7_start_L47 a0 a1 a2 fu_47 v4_47 S_47) → va_P D vwCl (wN aN aIs aKd aNu aSg aVl aTs aTc cJ cI cZ S_47) H → va_D A (wN aN aIs aKd aNu aSg aVl aTs aTc cJ cI cZ S_47) → va_S A s.heap H locs → lv_has ls 5 [(0, .ref aN), (1, .int a0), (2, .int a1), (3, .int a2), (4, .int v4_47)] → W p l e ({ frames := 1, cells := 0, slots := 0, locals := 22 }) s m [.ref aN, .int a0, .int a1, .int a2].toArray below meth c H locs 0 0 (MQ below (va_Qv (fun u => u = (f_X7_start S a0 a1 a2)) (fun u t => va_P D vwCl ((fun u => (wN aN aIs aKd aNu aSg aVl aTs aTc cJ cI cZ u)) u) t.heap ∧ va_D A ((fun u => (wN aN aIs aKd aNu aSg aVl aTs aTc cJ cI cZ u)) u)) A) [.ref aN, .int a0, .int a1, .int a2].toArray s 0 0 A) (F0 m 47 ls []) := by
        intro fu_47
        induction fu_47 with
        | zero => intro v4_47 S_47 H locs ls hmu; exact absurd hmu (Nat.not_lt_zero _)
        | succ fu_47 ih47 =>
          intro v4_47 S_47 H locs ls hmu47 hinv47 hL47 hP hD hS hl
          refine lv_iload hx hb dX7_start_47 (lv_at hl 4 rfl) ?_
          refine lv_iconst (v := 3) hx hb dX7_start_49 (by decide) ?_
          refine lv_icmp_ge (tgt := 106) hx hb dX7_start_50 (by decide) (fun c5 => ?_) (fun c5 => ?_)
          · refine lv_aload_n hx hb dX7_start_106 rfl (lv_at hl 0 rfl) ?_
            refine lv_iconst (v := 0) hx hb dX7_start_107 (by decide) ?_
            refine va_put (D := D) (ci := 4) (v := .int 0) (ty := .int) (C := RX7) (T := TX7) (N := 15) hx hb hts hin4 tyX7 tyX7_ok nmX7 hown hK hP hD hS 0 rfl rfl 12 (by decide) (hts (.fieldLink RX7 184 "FieldTraceModel" "rows" "I") (by decide +kernel)) (fun _ h9 => h9) rfl (by decide +kernel) (rfl) (rfl) (Nat.le_of_ble_eq_true rfl) dX7_start_108 (fun H locs hP hD hS => ?_)
            have hP : va_P D vwCl (wN aN aIs aKd aNu aSg aVl aTs aTc cJ cI cZ (sN_rows S_47 0)) H := hP
            have hD : va_D A (wN aN aIs aKd aNu aSg aVl aTs aTc cJ cI cZ (sN_rows S_47 0)) := hD
            refine lv_aload_n hx hb dX7_start_111 rfl (lv_at hl 0 rfl) ?_
            refine lv_iconst (v := 0) hx hb dX7_start_112 (by decide) ?_
            refine va_put (D := D) (ci := 4) (v := .int 0) (ty := .int) (C := RX7) (T := TX7) (N := 15) hx hb hts hin4 tyX7 tyX7_ok nmX7 hown hK hP hD hS 0 rfl rfl 10 (by decide) (hts (.fieldLink RX7 181 "FieldTraceModel" "failure" "I") (by decide +kernel)) (fun _ h9 => h9) rfl (by decide +kernel) (rfl) (rfl) (Nat.le_of_ble_eq_true rfl) dX7_start_113 (fun H locs hP hD hS => ?_)
            have hP : va_P D vwCl (wN aN aIs aKd aNu aSg aVl aTs aTc cJ cI cZ (sN_failure (sN_rows S_47 0) 0)) H := hP
            have hD : va_D A (wN aN aIs aKd aNu aSg aVl aTs aTc cJ cI cZ (sN_failure (sN_rows S_47 0) 0)) := hD
            exact q_mv (sN_failure (sN_rows S_47 0) 0) hx hb hr hlocks hP hD hS (Eq.symm (by rw [hL47, f_X7_start_L47, if_pos c5])) dX7_start_116
          · refine lv_aload_n hx hb dX7_start_53 rfl (lv_at hl 0 rfl) ?_
            refine va_get (D := D) (ci := 4) (v := .ref aSg) (C := RX7) (T := TX7) (N := 15) hx hb hts hin4 hown hK hP 0 rfl rfl 4 (by decide) (hts (.fieldLink RX7 21 "FieldTraceModel" "segment" "[I") (by decide +kernel)) (fun _ h9 => h9) rfl dX7_start_54 ?_
            refine lv_iload hx hb dX7_start_57 (lv_at hl 4 rfl) ?_
            refine lv_iload hx hb dX7_start_59 (lv_at hl 4 rfl) ?_
            have kJ69 : ∀ (t0_69 : Int32) (H : Heap) (locs : List Loc) (ls : Array Slot), (f_X7_start S a0 a1 a2) = (f_X7_start_J69 a0 a1 a2 v4_47 S_47 (f_X7_start_L47 a0 a1 a2 fu_47) t0_69) → va_P D vwCl (wN aN aIs aKd aNu aSg aVl aTs aTc cJ cI cZ S_47) H → va_D A (wN aN aIs aKd aNu aSg aVl aTs aTc cJ cI cZ S_47) → va_S A s.heap H locs → lv_has ls 5 [(0, .ref aN), (1, .int a0), (2, .int a1), (3, .int a2), (4, .int v4_47)] → W p l e ({ frames := 1, cells := 0, slots := 0, locals := 22 }) s m [.ref aN, .int a0, .int a1, .int a2].toArray below meth c H locs 0 0 (MQ below (va_Qv (fun u => u = (f_X7_start S a0 a1 a2)) (fun u t => va_P D vwCl ((fun u => (wN aN aIs aKd aNu aSg aVl aTs aTc cJ cI cZ u)) u) t.heap ∧ va_D A ((fun u => (wN aN aIs aKd aNu aSg aVl aTs aTc cJ cI cZ u)) u)) A) [.ref aN, .int a0, .int a1, .int a2].toArray s 0 0 A) (F0 m 69 ls [.int t0_69, .int v4_47, .ref aSg]) := by
              intro t0_69 H locs ls hJ69 hP hD hS hl
              refine va_iast hx hb hK hP hD hS 4 1 rfl rfl (n_in3 hinv47 c5) dX7_start_69 (fun H locs hP hD hS => ?_)
              have hP : va_P D vwCl (wN aN aIs aKd aNu aSg aVl aTs aTc cJ cI cZ (sN_segment S_47 (upd (pN_segment S_47) (v4_47 : Int32).toNatClampNeg t0_69))) H := hP
              have hD : va_D A (wN aN aIs aKd aNu aSg aVl aTs aTc cJ cI cZ (sN_segment S_47 (upd (pN_segment S_47) (v4_47 : Int32).toNatClampNeg t0_69))) := hD
              refine lv_aload_n hx hb dX7_start_70 rfl (lv_at hl 0 rfl) ?_
              refine va_get (D := D) (ci := 4) (v := .ref aVl) (C := RX7) (T := TX7) (N := 15) hx hb hts hin4 hown hK hP 0 rfl rfl 5 (by decide) (hts (.fieldLink RX7 24 "FieldTraceModel" "value" "[J") (by decide +kernel)) (fun _ h9 => h9) rfl dX7_start_71 ?_
              refine lv_iload hx hb dX7_start_74 (lv_at hl 4 rfl) ?_
              refine lv_iload hx hb dX7_start_76 (lv_at hl 4 rfl) ?_
              have kJ99 : ∀ (t0_99 : Int64) (H : Heap) (locs : List Loc) (ls : Array Slot), (f_X7_start S a0 a1 a2) = (f_X7_start_J99 v4_47 S_47 t0_69 (f_X7_start_L47 a0 a1 a2 fu_47) t0_99) → va_P D vwCl (wN aN aIs aKd aNu aSg aVl aTs aTc cJ cI cZ (sN_segment S_47 (upd (pN_segment S_47) (v4_47 : Int32).toNatClampNeg t0_69))) H → va_D A (wN aN aIs aKd aNu aSg aVl aTs aTc cJ cI cZ (sN_segment S_47 (upd (pN_segment S_47) (v4_47 : Int32).toNatClampNeg t0_69))) → va_S A s.heap H locs → lv_has ls 5 [(0, .ref aN), (1, .int a0), (2, .int a1), (3, .int a2), (4, .int v4_47)] → W p l e ({ frames := 1, cells := 0, slots := 0, locals := 22 }) s m [.ref aN, .int a0, .int a1, .int a2].toArray below meth c H locs 0 0 (MQ below (va_Qv (fun u => u = (f_X7_start S a0 a1 a2)) (fun u t => va_P D vwCl ((fun u => (wN aN aIs aKd aNu aSg aVl aTs aTc cJ cI cZ u)) u) t.heap ∧ va_D A ((fun u => (wN aN aIs aKd aNu aSg aVl aTs aTc cJ cI cZ u)) u)) A) [.ref aN, .int a0, .int a1, .int a2].toArray s 0 0 A) (F0 m 99 ls [.long t0_99, .int v4_47, .ref aVl]) := by
                intro t0_99 H locs ls hJ99 hP hD hS hl
                refine va_last hx hb hK hP hD hS 5 0 rfl rfl (n_in3 hinv47 c5) dX7_start_99 (fun H locs hP hD hS => ?_)
                have hP : va_P D vwCl (wN aN aIs aKd aNu aSg aVl aTs aTc cJ cI cZ (sN_value (sN_segment S_47 (upd (pN_segment S_47) (v4_47 : Int32).toNatClampNeg t0_69)) (vp_updL (pN_value (sN_segment S_47 (upd (pN_segment S_47) (v4_47 : Int32).toNatClampNeg t0_69))) (v4_47 : Int32).toNatClampNeg t0_99))) H := hP
                have hD : va_D A (wN aN aIs aKd aNu aSg aVl aTs aTc cJ cI cZ (sN_value (sN_segment S_47 (upd (pN_segment S_47) (v4_47 : Int32).toNatClampNeg t0_69)) (vp_updL (pN_value (sN_segment S_47 (upd (pN_segment S_47) (v4_47 : Int32).toNatClampNeg t0_69))) (v4_47 : Int32).toNatClampNeg t0_99))) := hD
                refine lv_iinc (v := v4_47 + 1) (lv' := [(4, .int (v4_47 + 1)), (0, .ref aN), (1, .int a0), (2, .int a1), (3, .int a2)]) hx hb dX7_start_100 hl (k := 4) rfl rfl (by decide) rfl (fun ls hl => ?_)
                refine lv_goto (tgt := 47) hx hb dX7_start_103 (by decide) ?_
                exact ih47 (v4_47 + 1) (sN_value (sN_segment S_47 (upd (pN_segment S_47) (v4_47 : Int32).toNatClampNeg t0_69)) (vp_updL (pN_value (sN_segment S_47 (upd (pN_segment S_47) (v4_47 : Int32).toNatClampNeg t0_69))) (v4_47 : Int32).toNatClampNeg t0_99)) _ _ _ (q_dec rfl c5 hmu47) (n_inc0 hinv47 c5) (by rw [hJ99, f_X7_start_J99]) hP hD hS (lv_sub hl [1, 2, 3, 4, 0] rfl)
              refine lv_if_ne (tgt := 86) hx hb dX7_start_78 (by decide) (fun c7 => ?_) (fun c7 => ?_)
              · refine lv_iload hx hb dX7_start_86 (lv_at hl 4 rfl) ?_
                refine lv_iconst (v := 1) hx hb dX7_start_88 (by decide) ?_
                refine lv_icmp_ne (tgt := 97) hx hb dX7_start_89 (by decide) (fun c8 => ?_) (fun c8 => ?_)
                · refine lv_iload_n hx hb dX7_start_97 rfl (lv_at hl 3 rfl) ?_
                  refine lv_i2l hx hb dX7_start_98 rfl ?_
                  exact kJ99 ((a2 : Int32).toInt64) _ _ _ (by rw [hJ69, f_X7_start_J69, if_neg c7, if_neg c8]) hP hD hS (lv_sub hl [0, 1, 2, 3, 4] rfl)
                · refine lv_iload_n hx hb dX7_start_92 rfl (lv_at hl 2 rfl) ?_
                  refine lv_i2l hx hb dX7_start_93 rfl ?_
                  refine lv_goto (tgt := 99) hx hb dX7_start_94 (by decide) ?_
                  exact kJ99 ((a1 : Int32).toInt64) _ _ _ (by rw [hJ69, f_X7_start_J69, if_neg c7, if_pos c8]) hP hD hS (lv_sub hl [0, 1, 2, 3, 4] rfl)
              · refine lv_iload_n hx hb dX7_start_81 rfl (lv_at hl 1 rfl) ?_
                refine lv_i2l hx hb dX7_start_82 rfl ?_
                refine lv_goto (tgt := 99) hx hb dX7_start_83 (by decide) ?_
                exact kJ99 ((a0 : Int32).toInt64) _ _ _ (by rw [hJ69, f_X7_start_J69, if_pos c7]) hP hD hS (lv_sub hl [0, 1, 2, 3, 4] rfl)
            refine lv_if_ne (tgt := 68) hx hb dX7_start_61 (by decide) (fun c6 => ?_) (fun c6 => ?_)
            · refine lv_iconst (v := 2) hx hb dX7_start_68 (by decide) ?_
              exact kJ69 2 _ _ _ (by rw [hL47, f_X7_start_L47, if_neg c5, if_neg c6]) hP hD hS (lv_sub hl [0, 1, 2, 3, 4] rfl)
            · refine lv_iconst (v := 1) hx hb dX7_start_64 (by decide) ?_
              refine lv_goto (tgt := 69) hx hb dX7_start_65 (by decide) ?_
              exact kJ69 1 _ _ _ (by rw [hL47, f_X7_start_L47, if_neg c5, if_pos c6]) hP hD hS (lv_sub hl [0, 1, 2, 3, 4] rfl)
      exact kL47 4 0 ((f_X7_throwing S t0_36 0).2) _ _ _ (by decide) (by decide) (by rw [hJ36, f_X7_start_J36, if_pos c4]) hP hD hS (lv_sub hl [1, 2, 3, 4, 0] rfl)
    · exact q_mv ((f_X7_throwing S t0_36 0).2) hx hb hr hlocks hP hD hS (Eq.symm (by rw [hJ36, f_X7_start_J36, if_neg c4])) dX7_start_43
  have kJ31 : ∀ (H : Heap) (locs : List Loc) (ls : Array Slot), (f_X7_start S a0 a1 a2) = (f_X7_start_J31 S a0 a1 a2) → va_P D vwCl (wN aN aIs aKd aNu aSg aVl aTs aTc cJ cI cZ S) H → va_D A (wN aN aIs aKd aNu aSg aVl aTs aTc cJ cI cZ S) → va_S A s.heap H locs → lv_has ls 5 [(0, .ref aN), (1, .int a0), (2, .int a1), (3, .int a2)] → W p l e ({ frames := 1, cells := 0, slots := 0, locals := 22 }) s m [.ref aN, .int a0, .int a1, .int a2].toArray below meth c H locs 0 0 (MQ below (va_Qv (fun u => u = (f_X7_start S a0 a1 a2)) (fun u t => va_P D vwCl ((fun u => (wN aN aIs aKd aNu aSg aVl aTs aTc cJ cI cZ u)) u) t.heap ∧ va_D A ((fun u => (wN aN aIs aKd aNu aSg aVl aTs aTc cJ cI cZ u)) u)) A) [.ref aN, .int a0, .int a1, .int a2].toArray s 0 0 A) (F0 m 31 ls [.ref aN]) := by
    intro H locs ls hJ31 hP hD hS hl
    refine lv_iconst (v := 1) hx hb dX7_start_31 (by decide) ?_
    refine lv_goto (tgt := 36) hx hb dX7_start_32 (by decide) ?_
    exact kJ36 1 _ _ _ (Or.inr rfl) (by rw [hJ31, f_X7_start_J31]) hP hD hS (lv_sub hl [0, 1, 2, 3] rfl)
  refine lv_if_ne (tgt := 31) hx hb dX7_start_8 (by decide) (fun c1 => ?_) (fun c1 => ?_)
  · exact kJ31 _ _ _ (by rw [f_X7_start, if_neg c1]) hP hD hS (lv_sub hl [0, 1, 2, 3] rfl)
  · refine lv_iload_n hx hb dX7_start_11 rfl (lv_at hl 2 rfl) ?_
    refine lv_iconst (v := 0) hx hb dX7_start_12 (by decide) ?_
    refine lv_bipush (v := 63) hx hb dX7_start_13 (by decide) ?_
    refine q_callSi (As := [.int a1, .int 0, .int 63]) (rest := [.ref aN]) (c_X7_out l D a1 0 63) hfix (va_cwS 3 hts gX7_start_X7_out rfl rfl rfl (by decide +kernel) ⟨Nat.le_of_ble_eq_true rfl, Nat.le_of_ble_eq_true rfl⟩) rfl hl.1 rfl (Nat.le_of_ble_eq_true rfl) ⟨Nat.zero_le _, Nat.zero_le _⟩ hP hK hS hA [] [] rfl rfl dX7_start_15 (fun H locs hP hS => ?_)
    refine lv_if_ne (tgt := 31) hx hb dX7_start_18 (by decide) (fun c2 => ?_) (fun c2 => ?_)
    · exact kJ31 _ _ _ (by rw [f_X7_start, if_pos c1, if_neg c2]) hP hD hS (lv_sub hl [0, 1, 2, 3] rfl)
    · refine lv_iload_n hx hb dX7_start_21 rfl (lv_at hl 3 rfl) ?_
      refine lv_iconst (v := 0) hx hb dX7_start_22 (by decide) ?_
      refine lv_bipush (v := 63) hx hb dX7_start_23 (by decide) ?_
      refine q_callSi (As := [.int a2, .int 0, .int 63]) (rest := [.ref aN]) (c_X7_out l D a2 0 63) hfix (va_cwS 3 hts gX7_start_X7_out rfl rfl rfl (by decide +kernel) ⟨Nat.le_of_ble_eq_true rfl, Nat.le_of_ble_eq_true rfl⟩) rfl hl.1 rfl (Nat.le_of_ble_eq_true rfl) ⟨Nat.zero_le _, Nat.zero_le _⟩ hP hK hS hA [] [] rfl rfl dX7_start_25 (fun H locs hP hS => ?_)
      refine lv_if_eq (tgt := 35) hx hb dX7_start_28 (by decide) (fun c3 => ?_) (fun c3 => ?_)
      · refine lv_iconst (v := 0) hx hb dX7_start_35 (by decide) ?_
        exact kJ36 0 _ _ _ (Or.inl rfl) (by rw [f_X7_start, if_pos c1, if_pos c2, if_pos c3]) hP hD hS (lv_sub hl [0, 1, 2, 3] rfl)
      · exact kJ31 _ _ _ (by rw [f_X7_start, if_pos c1, if_pos c2, if_neg c3]) hP hD hS (lv_sub hl [0, 1, 2, 3] rfl)

def f_X7_failure (S : NS) : Int32 × NS :=
  ((pN_failure (sN_thrown S 0)), (sN_thrown S 0))

set_option maxHeartbeats 4000000 in
set_option maxRecDepth 100000 in
theorem c_X7_failure (l : Launch) (D : va_G) (aN aIs aKd aNu aSg aVl aTs aTc : Nat) (cJ cI cZ : ClassId) (S : NS) : q_muI l yX7_failure wsX7_failure ({ frames := 0, cells := 0, slots := 0, locals := 0 }) D [(cJ, .long), (cI, .int), (cZ, .boolean)] (wN aN aIs aKd aNu aSg aVl aTs aTc cJ cI cZ S) [.ref aN] (fun r u => r = (f_X7_failure S).1 ∧ u = (f_X7_failure S).2) (fun u => (wN aN aIs aKd aNu aSg aVl aTs aTc cJ cI cZ u)) := by
  refine q_muI_of (cc := cX7_failure) (maxL := 1) (ret := (some .int)) (plainFor_of_name (by decide)) rfl (Nat.le_of_ble_eq_true rfl) ?_
  intro p e s m below meth c ls A hx hb hr hml hown hts hlocks hP hK hD hA hS hl
  have hown : s.vm.findClass RX7 = some m.cls := hown
  have hl : lv_has ls 1 [(0, .ref aN)] := hl
  have hin4 : ∀ w ∈ wsX70, w ∈ wsX7_failure := by decide +kernel
  refine lv_aload_n hx hb dX7_failure_0 rfl (lv_at hl 0 rfl) ?_
  refine lv_iconst (v := 0) hx hb dX7_failure_1 (by decide) ?_
  refine va_put (D := D) (ci := 4) (v := .int 0) (ty := .int) (C := RX7) (T := TX7) (N := 15) hx hb hts hin4 tyX7 tyX7_ok nmX7 hown hK hP hD hS 0 rfl rfl 0 (by decide) (hts (.fieldLink RX7 33 "FieldTraceModel" "thrown" "I") (by decide +kernel)) (fun _ h9 => h9) rfl (by decide +kernel) (rfl) (rfl) (Nat.le_of_ble_eq_true rfl) dX7_failure_2 (fun H locs hP hD hS => ?_)
  have hP : va_P D vwCl (wN aN aIs aKd aNu aSg aVl aTs aTc cJ cI cZ (sN_thrown S 0)) H := hP
  have hD : va_D A (wN aN aIs aKd aNu aSg aVl aTs aTc cJ cI cZ (sN_thrown S 0)) := hD
  refine lv_aload_n hx hb dX7_failure_5 rfl (lv_at hl 0 rfl) ?_
  refine va_get (D := D) (ci := 4) (v := .int (pN_failure (sN_thrown S 0))) (C := RX7) (T := TX7) (N := 15) hx hb hts hin4 hown hK hP 0 rfl rfl 10 (by decide) (hts (.fieldLink RX7 181 "FieldTraceModel" "failure" "I") (by decide +kernel)) (fun _ h9 => h9) rfl dX7_failure_6 ?_
  exact q_mi (sN_thrown S 0) hx hb hr hlocks hP hD hS (q_pair (by rw [f_X7_failure])) dX7_failure_9

def f_X7_register (S : NS) (a0 : Int32) (a1 : Int32) : Int32 × NS :=
  (if ((f_X7_throwing S (f_X7_out a0 0 2) 0).1) = 0 then (if a1 = 0 then ((pN_segment (f_X7_throwing S (f_X7_out a0 0 2) 0).2) a0.toNatClampNeg, (f_X7_throwing S (f_X7_out a0 0 2) 0).2) else (((pN_value (f_X7_throwing S (f_X7_out a0 0 2) 0).2) a0.toNatClampNeg : Int64).toInt32, (f_X7_throwing S (f_X7_out a0 0 2) 0).2)) else (0, (f_X7_throwing S (f_X7_out a0 0 2) 0).2))

set_option maxHeartbeats 4000000 in
set_option maxRecDepth 100000 in
theorem c_X7_register (l : Launch) (D : va_G) (aN aIs aKd aNu aSg aVl aTs aTc : Nat) (cJ cI cZ : ClassId) (S : NS) (a0 : Int32) (a1 : Int32) : q_muI l yX7_register wsX7_register ({ frames := 1, cells := 0, slots := 0, locals := 22 }) D [(cJ, .long), (cI, .int), (cZ, .boolean)] (wN aN aIs aKd aNu aSg aVl aTs aTc cJ cI cZ S) [.ref aN, .int a0, .int a1] (fun r u => r = (f_X7_register S a0 a1).1 ∧ u = (f_X7_register S a0 a1).2) (fun u => (wN aN aIs aKd aNu aSg aVl aTs aTc cJ cI cZ u)) := by
  refine q_muI_of (cc := cX7_register) (maxL := 3) (ret := (some .int)) (plainFor_of_name (by decide)) rfl (Nat.le_of_ble_eq_true rfl) ?_
  intro p e s m below meth c ls A hx hb hr hml hown hts hlocks hP hK hD hA hS hl
  have hown : s.vm.findClass RX7 = some m.cls := hown
  have hl : lv_has ls 3 [(0, .ref aN), (1, .int a0), (2, .int a1)] := hl
  have hfix : CallFix p m c cX7_register 3 s [.ref aN, .int a0, .int a1].toArray wsX7_register RX7 := ⟨hx, hb, hml, hown, hts⟩
  have hin4 : ∀ w ∈ wsX70, w ∈ wsX7_register := by decide +kernel
  refine lv_aload_n hx hb dX7_register_0 rfl (lv_at hl 0 rfl) ?_
  refine lv_iload_n hx hb dX7_register_1 rfl (lv_at hl 1 rfl) ?_
  refine lv_iconst (v := 0) hx hb dX7_register_2 (by decide) ?_
  refine lv_iconst (v := 2) hx hb dX7_register_3 (by decide) ?_
  refine q_callSi (As := [.int a0, .int 0, .int 2]) (rest := [.ref aN]) (c_X7_out l D a0 0 2) hfix (va_cwS 3 hts gX7_register_X7_out rfl rfl rfl (by decide +kernel) ⟨Nat.le_of_ble_eq_true rfl, Nat.le_of_ble_eq_true rfl⟩) rfl hl.1 rfl (Nat.le_of_ble_eq_true rfl) ⟨Nat.zero_le _, Nat.zero_le _⟩ hP hK hS hA [] [] rfl rfl dX7_register_4 (fun H locs hP hS => ?_)
  refine lv_iconst (v := 0) hx hb dX7_register_7 (by decide) ?_
  refine q_callMi1 (As := [.int (f_X7_out a0 0 2), .int 0]) (rest := []) (wr := []) (Wn := (fun u => (wN aN aIs aKd aNu aSg aVl aTs aTc cJ cI cZ u))) (q0 := 0) (ci := 4) (C := RX7) (c_X7_throwing l D aN aIs aKd aNu aSg aVl aTs aTc cJ cI cZ S (f_X7_out a0 0 2) 0) hfix (cwV 2 hts gX7_register_X7_throwing rfl rfl rfl (by decide +kernel) ⟨Nat.le_of_ble_eq_true rfl, Nat.le_of_ble_eq_true rfl⟩) rfl hl.1 rfl (Nat.le_of_ble_eq_true rfl) ⟨Nat.zero_le _, Nat.zero_le _⟩ hP hK hD hS hA [0, 1, 2, 3, 4, 5, 6, 7] [] [0, 1, 2, 3, 4, 5, 6, 7] [0, 1, 2] rfl rfl rfl (by decide) (by decide) (by decide) (by decide) (fun _ => rfl) (fun _ => rfl) rfl rfl rfl rfl dX7_register_8 (fun H locs hP hD hS => ?_)
  have hP : va_P D vwCl (wN aN aIs aKd aNu aSg aVl aTs aTc cJ cI cZ (f_X7_throwing S (f_X7_out a0 0 2) 0).2) H := hP
  have hD : va_D A (wN aN aIs aKd aNu aSg aVl aTs aTc cJ cI cZ (f_X7_throwing S (f_X7_out a0 0 2) 0).2) := hD
  refine lv_if_eq (tgt := 16) hx hb dX7_register_11 (by decide) (fun c1 => ?_) (fun c1 => ?_)
  · refine lv_iload_n hx hb dX7_register_16 rfl (lv_at hl 2 rfl) ?_
    refine lv_if_eq (tgt := 30) hx hb dX7_register_17 (by decide) (fun c2 => ?_) (fun c2 => ?_)
    · refine lv_aload_n hx hb dX7_register_30 rfl (lv_at hl 0 rfl) ?_
      refine va_get (D := D) (ci := 4) (v := .ref aSg) (C := RX7) (T := TX7) (N := 15) hx hb hts hin4 hown hK hP 0 rfl rfl 4 (by decide) (hts (.fieldLink RX7 21 "FieldTraceModel" "segment" "[I") (by decide +kernel)) (fun _ h9 => h9) rfl dX7_register_31 ?_
      refine lv_iload_n hx hb dX7_register_34 rfl (lv_at hl 1 rfl) ?_
      refine va_iald hx hb hK hP 4 1 rfl rfl (n_outin (n_thr0 c1).1 (by decide) (by decide)) dX7_register_35 ?_
      exact q_mi ((f_X7_throwing S (f_X7_out a0 0 2) 0).2) hx hb hr hlocks hP hD hS (q_pair (by rw [f_X7_register, if_pos c1, if_pos c2])) dX7_register_36
    · refine lv_aload_n hx hb dX7_register_20 rfl (lv_at hl 0 rfl) ?_
      refine va_get (D := D) (ci := 4) (v := .ref aVl) (C := RX7) (T := TX7) (N := 15) hx hb hts hin4 hown hK hP 0 rfl rfl 5 (by decide) (hts (.fieldLink RX7 24 "FieldTraceModel" "value" "[J") (by decide +kernel)) (fun _ h9 => h9) rfl dX7_register_21 ?_
      refine lv_iload_n hx hb dX7_register_24 rfl (lv_at hl 1 rfl) ?_
      refine va_lald hx hb hK hP 5 0 rfl rfl (n_outin (n_thr0 c1).1 (by decide) (by decide)) dX7_register_25 ?_
      refine lv_l2i hx hb dX7_register_26 rfl ?_
      refine lv_goto (tgt := 36) hx hb dX7_register_27 (by decide) ?_
      exact q_mi ((f_X7_throwing S (f_X7_out a0 0 2) 0).2) hx hb hr hlocks hP hD hS (q_pair (by rw [f_X7_register, if_pos c1, if_neg c2])) dX7_register_36
  · refine lv_iconst (v := 0) hx hb dX7_register_14 (by decide) ?_
    exact q_mi ((f_X7_throwing S (f_X7_out a0 0 2) 0).2) hx hb hr hlocks hP hD hS (q_pair (by rw [f_X7_register, if_neg c1])) dX7_register_15

def f_X7_hidden_J24 (S : NS) (a0 : Int32) (a1 : Int32) (t0_24 : Int32) : Int32 × NS :=
  (if t0_24 = 0 then (if ((pN_isSet S) ((64 * a0) + a1).toNatClampNeg) = 0 then ((f_X7_throwing S t0_24 1).1, (f_X7_throwing S t0_24 1).2) else ((f_X7_throwing S t0_24 0).1, (f_X7_throwing S t0_24 0).2)) else ((f_X7_throwing S t0_24 0).1, (f_X7_throwing S t0_24 0).2))

def f_X7_hidden_J19 (S : NS) (a0 : Int32) (a1 : Int32) : Int32 × NS :=
  (f_X7_hidden_J24 S a0 a1 1)

def f_X7_hidden (S : NS) (a0 : Int32) (a1 : Int32) : Int32 × NS :=
  (if (f_X7_out a0 1 5) = 0 then (if (f_X7_out a1 0 63) = 0 then (f_X7_hidden_J24 S a0 a1 0) else (f_X7_hidden_J19 S a0 a1)) else (f_X7_hidden_J19 S a0 a1))

set_option maxHeartbeats 4000000 in
set_option maxRecDepth 100000 in
theorem c_X7_hidden (l : Launch) (D : va_G) (aN aIs aKd aNu aSg aVl aTs aTc : Nat) (cJ cI cZ : ClassId) (S : NS) (a0 : Int32) (a1 : Int32) : q_muI l yX7_hidden wsX7_hidden ({ frames := 1, cells := 0, slots := 0, locals := 22 }) D [(cJ, .long), (cI, .int), (cZ, .boolean)] (wN aN aIs aKd aNu aSg aVl aTs aTc cJ cI cZ S) [.ref aN, .int a0, .int a1] (fun r u => r = (f_X7_hidden S a0 a1).1 ∧ u = (f_X7_hidden S a0 a1).2) (fun u => (wN aN aIs aKd aNu aSg aVl aTs aTc cJ cI cZ u)) := by
  refine q_muI_of (cc := cX7_hidden) (maxL := 4) (ret := (some .boolean)) (plainFor_of_name (by decide)) rfl (Nat.le_of_ble_eq_true rfl) ?_
  intro p e s m below meth c ls A hx hb hr hml hown hts hlocks hP hK hD hA hS hl
  have hown : s.vm.findClass RX7 = some m.cls := hown
  have hl : lv_has ls 4 [(0, .ref aN), (1, .int a0), (2, .int a1)] := hl
  have hfix : CallFix p m c cX7_hidden 4 s [.ref aN, .int a0, .int a1].toArray wsX7_hidden RX7 := ⟨hx, hb, hml, hown, hts⟩
  have hin4 : ∀ w ∈ wsX70, w ∈ wsX7_hidden := by decide +kernel
  refine lv_iload_n hx hb dX7_hidden_0 rfl (lv_at hl 1 rfl) ?_
  refine lv_iconst (v := 1) hx hb dX7_hidden_1 (by decide) ?_
  refine lv_iconst (v := 5) hx hb dX7_hidden_2 (by decide) ?_
  refine q_callSi (As := [.int a0, .int 1, .int 5]) (rest := []) (c_X7_out l D a0 1 5) hfix (va_cwS 3 hts gX7_hidden_X7_out rfl rfl rfl (by decide +kernel) ⟨Nat.le_of_ble_eq_true rfl, Nat.le_of_ble_eq_true rfl⟩) rfl hl.1 rfl (Nat.le_of_ble_eq_true rfl) ⟨Nat.zero_le _, Nat.zero_le _⟩ hP hK hS hA [] [] rfl rfl dX7_hidden_3 (fun H locs hP hS => ?_)
  have kJ24 : ∀ (t0_24 : Int32) (H : Heap) (locs : List Loc) (ls : Array Slot), (t0_24 = 0 ∨ t0_24 = 1) → (t0_24 = 0 → f_X7_out a0 1 5 = 0 ∧ f_X7_out a1 0 63 = 0) → (f_X7_hidden S a0 a1) = (f_X7_hidden_J24 S a0 a1 t0_24) → va_P D vwCl (wN aN aIs aKd aNu aSg aVl aTs aTc cJ cI cZ S) H → va_D A (wN aN aIs aKd aNu aSg aVl aTs aTc cJ cI cZ S) → va_S A s.heap H locs → lv_has ls 4 [(0, .ref aN), (1, .int a0), (2, .int a1)] → W p l e ({ frames := 1, cells := 0, slots := 0, locals := 22 }) s m [.ref aN, .int a0, .int a1].toArray below meth c H locs 0 0 (MQ below (va_Qi (fun r u => r = (f_X7_hidden S a0 a1).1 ∧ u = (f_X7_hidden S a0 a1).2) (fun u t => va_P D vwCl ((fun u => (wN aN aIs aKd aNu aSg aVl aTs aTc cJ cI cZ u)) u) t.heap ∧ va_D A ((fun u => (wN aN aIs aKd aNu aSg aVl aTs aTc cJ cI cZ u)) u)) A) [.ref aN, .int a0, .int a1].toArray s 0 0 A) (F0 m 24 ls [.int t0_24]) := by
    intro t0_24 H locs ls hb_t0_24 hj_24 hJ24 hP hD hS hl
    refine lv_istore_n (lv' := [(3, .int t0_24), (0, .ref aN), (1, .int a0), (2, .int a1)]) hx hb dX7_hidden_24 rfl hl (by decide) rfl (fun ls hl => ?_)
    refine lv_aload_n hx hb dX7_hidden_25 rfl (lv_at hl 1 rfl) ?_
    refine lv_iload_n hx hb dX7_hidden_26 rfl (lv_at hl 0 rfl) ?_
    refine lv_iload_n hx hb dX7_hidden_27 rfl (lv_at hl 0 rfl) ?_
    refine lv_if_ne (tgt := 49) hx hb dX7_hidden_28 (by decide) (fun c3 => ?_) (fun c3 => ?_)
    · refine lv_iconst (v := 0) hx hb dX7_hidden_49 (by decide) ?_
      refine q_callMi1 (As := [.int t0_24, .int 0]) (rest := []) (wr := []) (Wn := (fun u => (wN aN aIs aKd aNu aSg aVl aTs aTc cJ cI cZ u))) (q0 := 0) (ci := 4) (C := RX7) (c_X7_throwing l D aN aIs aKd aNu aSg aVl aTs aTc cJ cI cZ S t0_24 0) hfix (cwV 2 hts gX7_hidden_X7_throwing rfl rfl rfl (by decide +kernel) ⟨Nat.le_of_ble_eq_true rfl, Nat.le_of_ble_eq_true rfl⟩) rfl hl.1 rfl (Nat.le_of_ble_eq_true rfl) ⟨Nat.zero_le _, Nat.zero_le _⟩ hP hK hD hS hA [0, 1, 2, 3, 4, 5, 6, 7] [] [0, 1, 2, 3, 4, 5, 6, 7] [0, 1, 2] rfl rfl rfl (by decide) (by decide) (by decide) (by decide) (fun _ => rfl) (fun _ => rfl) rfl rfl rfl rfl dX7_hidden_50 (fun H locs hP hD hS => ?_)
      have hP : va_P D vwCl (wN aN aIs aKd aNu aSg aVl aTs aTc cJ cI cZ (f_X7_throwing S t0_24 0).2) H := hP
      have hD : va_D A (wN aN aIs aKd aNu aSg aVl aTs aTc cJ cI cZ (f_X7_throwing S t0_24 0).2) := hD
      exact q_mz ((f_X7_throwing S t0_24 0).2) hx hb hr hlocks (q_nb n_thrb) hP hD hS (q_pair (by rw [hJ24, f_X7_hidden_J24, if_neg c3])) dX7_hidden_53
    · refine lv_aload_n hx hb dX7_hidden_31 rfl (lv_at hl 1 rfl) ?_
      refine va_get (D := D) (ci := 4) (v := .ref aIs) (C := RX7) (T := TX7) (N := 15) hx hb hts hin4 hown hK hP 0 rfl rfl 1 (by decide) (hts (.fieldLink RX7 7 "FieldTraceModel" "isSet" "[Z") (by decide +kernel)) (fun _ h9 => h9) rfl dX7_hidden_32 ?_
      refine lv_bipush (v := 64) hx hb dX7_hidden_35 (by decide) ?_
      refine lv_iload_n hx hb dX7_hidden_37 rfl (lv_at hl 2 rfl) ?_
      refine lv_imul hx hb dX7_hidden_38 ?_
      refine lv_iload_n hx hb dX7_hidden_39 rfl (lv_at hl 3 rfl) ?_
      refine lv_iadd hx hb dX7_hidden_40 ?_
      refine va_zald hx hb hK hP 1 2 rfl rfl (n_c (n_outin (hj_24 c3).1 (by decide) (by decide)) (n_outin (hj_24 c3).2 (by decide) (by decide))) dX7_hidden_41 ?_
      refine lv_if_ne (tgt := 49) hx hb dX7_hidden_42 (by decide) (fun c4 => ?_) (fun c4 => ?_)
      · refine lv_iconst (v := 0) hx hb dX7_hidden_49 (by decide) ?_
        refine q_callMi1 (As := [.int t0_24, .int 0]) (rest := []) (wr := []) (Wn := (fun u => (wN aN aIs aKd aNu aSg aVl aTs aTc cJ cI cZ u))) (q0 := 0) (ci := 4) (C := RX7) (c_X7_throwing l D aN aIs aKd aNu aSg aVl aTs aTc cJ cI cZ S t0_24 0) hfix (cwV 2 hts gX7_hidden_X7_throwing rfl rfl rfl (by decide +kernel) ⟨Nat.le_of_ble_eq_true rfl, Nat.le_of_ble_eq_true rfl⟩) rfl hl.1 rfl (Nat.le_of_ble_eq_true rfl) ⟨Nat.zero_le _, Nat.zero_le _⟩ hP hK hD hS hA [0, 1, 2, 3, 4, 5, 6, 7] [] [0, 1, 2, 3, 4, 5, 6, 7] [0, 1, 2] rfl rfl rfl (by decide) (by decide) (by decide) (by decide) (fun _ => rfl) (fun _ => rfl) rfl rfl rfl rfl dX7_hidden_50 (fun H locs hP hD hS => ?_)
        have hP : va_P D vwCl (wN aN aIs aKd aNu aSg aVl aTs aTc cJ cI cZ (f_X7_throwing S t0_24 0).2) H := hP
        have hD : va_D A (wN aN aIs aKd aNu aSg aVl aTs aTc cJ cI cZ (f_X7_throwing S t0_24 0).2) := hD
        exact q_mz ((f_X7_throwing S t0_24 0).2) hx hb hr hlocks (q_nb n_thrb) hP hD hS (q_pair (by rw [hJ24, f_X7_hidden_J24, if_pos c3, if_neg c4])) dX7_hidden_53
      · refine lv_iconst (v := 1) hx hb dX7_hidden_45 (by decide) ?_
        refine lv_goto (tgt := 50) hx hb dX7_hidden_46 (by decide) ?_
        refine q_callMi1 (As := [.int t0_24, .int 1]) (rest := []) (wr := []) (Wn := (fun u => (wN aN aIs aKd aNu aSg aVl aTs aTc cJ cI cZ u))) (q0 := 0) (ci := 4) (C := RX7) (c_X7_throwing l D aN aIs aKd aNu aSg aVl aTs aTc cJ cI cZ S t0_24 1) hfix (cwV 2 hts gX7_hidden_X7_throwing rfl rfl rfl (by decide +kernel) ⟨Nat.le_of_ble_eq_true rfl, Nat.le_of_ble_eq_true rfl⟩) rfl hl.1 rfl (Nat.le_of_ble_eq_true rfl) ⟨Nat.zero_le _, Nat.zero_le _⟩ hP hK hD hS hA [0, 1, 2, 3, 4, 5, 6, 7] [] [0, 1, 2, 3, 4, 5, 6, 7] [0, 1, 2] rfl rfl rfl (by decide) (by decide) (by decide) (by decide) (fun _ => rfl) (fun _ => rfl) rfl rfl rfl rfl dX7_hidden_50 (fun H locs hP hD hS => ?_)
        have hP : va_P D vwCl (wN aN aIs aKd aNu aSg aVl aTs aTc cJ cI cZ (f_X7_throwing S t0_24 1).2) H := hP
        have hD : va_D A (wN aN aIs aKd aNu aSg aVl aTs aTc cJ cI cZ (f_X7_throwing S t0_24 1).2) := hD
        exact q_mz ((f_X7_throwing S t0_24 1).2) hx hb hr hlocks (q_nb n_thrb) hP hD hS (q_pair (by rw [hJ24, f_X7_hidden_J24, if_pos c3, if_pos c4])) dX7_hidden_53
  have kJ19 : ∀ (H : Heap) (locs : List Loc) (ls : Array Slot), (f_X7_hidden S a0 a1) = (f_X7_hidden_J19 S a0 a1) → va_P D vwCl (wN aN aIs aKd aNu aSg aVl aTs aTc cJ cI cZ S) H → va_D A (wN aN aIs aKd aNu aSg aVl aTs aTc cJ cI cZ S) → va_S A s.heap H locs → lv_has ls 4 [(0, .ref aN), (1, .int a0), (2, .int a1)] → W p l e ({ frames := 1, cells := 0, slots := 0, locals := 22 }) s m [.ref aN, .int a0, .int a1].toArray below meth c H locs 0 0 (MQ below (va_Qi (fun r u => r = (f_X7_hidden S a0 a1).1 ∧ u = (f_X7_hidden S a0 a1).2) (fun u t => va_P D vwCl ((fun u => (wN aN aIs aKd aNu aSg aVl aTs aTc cJ cI cZ u)) u) t.heap ∧ va_D A ((fun u => (wN aN aIs aKd aNu aSg aVl aTs aTc cJ cI cZ u)) u)) A) [.ref aN, .int a0, .int a1].toArray s 0 0 A) (F0 m 19 ls []) := by
    intro H locs ls hJ19 hP hD hS hl
    refine lv_iconst (v := 1) hx hb dX7_hidden_19 (by decide) ?_
    refine lv_goto (tgt := 24) hx hb dX7_hidden_20 (by decide) ?_
    exact kJ24 1 _ _ _ (Or.inr rfl) (fun h => absurd h (by decide)) (by rw [hJ19, f_X7_hidden_J19]) hP hD hS (lv_sub hl [0, 1, 2] rfl)
  refine lv_if_ne (tgt := 19) hx hb dX7_hidden_6 (by decide) (fun c1 => ?_) (fun c1 => ?_)
  · exact kJ19 _ _ _ (by rw [f_X7_hidden, if_neg c1]) hP hD hS (lv_sub hl [0, 1, 2] rfl)
  · refine lv_iload_n hx hb dX7_hidden_9 rfl (lv_at hl 2 rfl) ?_
    refine lv_iconst (v := 0) hx hb dX7_hidden_10 (by decide) ?_
    refine lv_bipush (v := 63) hx hb dX7_hidden_11 (by decide) ?_
    refine q_callSi (As := [.int a1, .int 0, .int 63]) (rest := []) (c_X7_out l D a1 0 63) hfix (va_cwS 3 hts gX7_hidden_X7_out rfl rfl rfl (by decide +kernel) ⟨Nat.le_of_ble_eq_true rfl, Nat.le_of_ble_eq_true rfl⟩) rfl hl.1 rfl (Nat.le_of_ble_eq_true rfl) ⟨Nat.zero_le _, Nat.zero_le _⟩ hP hK hS hA [] [] rfl rfl dX7_hidden_13 (fun H locs hP hS => ?_)
    refine lv_if_eq (tgt := 23) hx hb dX7_hidden_16 (by decide) (fun c2 => ?_) (fun c2 => ?_)
    · refine lv_iconst (v := 0) hx hb dX7_hidden_23 (by decide) ?_
      exact kJ24 0 _ _ _ (Or.inl rfl) (fun _ => ⟨c1, c2⟩) (by rw [f_X7_hidden, if_pos c1, if_pos c2]) hP hD hS (lv_sub hl [0, 1, 2] rfl)
    · exact kJ19 _ _ _ (by rw [f_X7_hidden, if_pos c1, if_neg c2]) hP hD hS (lv_sub hl [0, 1, 2] rfl)


theorem n_hid1 {S : NS} {a0 a1 : Int32} (h : (f_X7_hidden_J19 S a0 a1).1 = 0) : False := by
  unfold f_X7_hidden_J19 f_X7_hidden_J24 at h
  rw [if_neg (show ¬ (1 : Int32) = 0 by decide)] at h
  exact absurd (n_thr0 h).1 (by decide)
theorem n_hid {S : NS} {a0 a1 : Int32} (h : (f_X7_hidden S a0 a1).1 = 0) : vp_in (64 * a0 + a1) 384 := by
  unfold f_X7_hidden at h
  by_cases c1 : f_X7_out a0 1 5 = 0
  · by_cases c2 : f_X7_out a1 0 63 = 0
    · exact n_c (n_outin c1 (by decide) (by decide)) (n_outin c2 (by decide) (by decide))
    · rw [if_pos c1, if_neg c2] at h; exact (n_hid1 h).elim
  · rw [if_neg c1] at h; exact (n_hid1 h).elim

def f_X7_segment (S : NS) (a0 : Int32) (a1 : Int32) : Int32 × NS :=
  (if ((f_X7_hidden S a0 a1).1) = 0 then ((pN_kind (f_X7_hidden S a0 a1).2) ((64 * a0) + a1).toNatClampNeg, (f_X7_hidden S a0 a1).2) else (0, (f_X7_hidden S a0 a1).2))

set_option maxHeartbeats 4000000 in
set_option maxRecDepth 100000 in
theorem c_X7_segment (l : Launch) (D : va_G) (aN aIs aKd aNu aSg aVl aTs aTc : Nat) (cJ cI cZ : ClassId) (S : NS) (a0 : Int32) (a1 : Int32) : q_muI l yX7_segment wsX7_segment ({ frames := 2, cells := 0, slots := 0, locals := 45 }) D [(cJ, .long), (cI, .int), (cZ, .boolean)] (wN aN aIs aKd aNu aSg aVl aTs aTc cJ cI cZ S) [.ref aN, .int a0, .int a1] (fun r u => r = (f_X7_segment S a0 a1).1 ∧ u = (f_X7_segment S a0 a1).2) (fun u => (wN aN aIs aKd aNu aSg aVl aTs aTc cJ cI cZ u)) := by
  refine q_muI_of (cc := cX7_segment) (maxL := 3) (ret := (some .int)) (plainFor_of_name (by decide)) rfl (Nat.le_of_ble_eq_true rfl) ?_
  intro p e s m below meth c ls A hx hb hr hml hown hts hlocks hP hK hD hA hS hl
  have hown : s.vm.findClass RX7 = some m.cls := hown
  have hl : lv_has ls 3 [(0, .ref aN), (1, .int a0), (2, .int a1)] := hl
  have hfix : CallFix p m c cX7_segment 3 s [.ref aN, .int a0, .int a1].toArray wsX7_segment RX7 := ⟨hx, hb, hml, hown, hts⟩
  have hin4 : ∀ w ∈ wsX70, w ∈ wsX7_segment := by decide +kernel
  refine lv_aload_n hx hb dX7_segment_0 rfl (lv_at hl 0 rfl) ?_
  refine lv_iload_n hx hb dX7_segment_1 rfl (lv_at hl 1 rfl) ?_
  refine lv_iload_n hx hb dX7_segment_2 rfl (lv_at hl 2 rfl) ?_
  refine q_callMi1 (As := [.int a0, .int a1]) (rest := []) (wr := []) (Wn := (fun u => (wN aN aIs aKd aNu aSg aVl aTs aTc cJ cI cZ u))) (q0 := 0) (ci := 4) (C := RX7) (c_X7_hidden l D aN aIs aKd aNu aSg aVl aTs aTc cJ cI cZ S a0 a1) hfix (cwV 2 hts gX7_segment_X7_hidden rfl rfl rfl (by decide +kernel) ⟨Nat.le_of_ble_eq_true rfl, Nat.le_of_ble_eq_true rfl⟩) rfl hl.1 rfl (Nat.le_of_ble_eq_true rfl) ⟨Nat.zero_le _, Nat.zero_le _⟩ hP hK hD hS hA [0, 1, 2, 3, 4, 5, 6, 7] [] [0, 1, 2, 3, 4, 5, 6, 7] [0, 1, 2] rfl rfl rfl (by decide) (by decide) (by decide) (by decide) (fun _ => rfl) (fun _ => rfl) rfl rfl rfl rfl dX7_segment_3 (fun H locs hP hD hS => ?_)
  have hP : va_P D vwCl (wN aN aIs aKd aNu aSg aVl aTs aTc cJ cI cZ (f_X7_hidden S a0 a1).2) H := hP
  have hD : va_D A (wN aN aIs aKd aNu aSg aVl aTs aTc cJ cI cZ (f_X7_hidden S a0 a1).2) := hD
  refine lv_if_eq (tgt := 13) hx hb dX7_segment_6 (by decide) (fun c1 => ?_) (fun c1 => ?_)
  · refine lv_aload_n hx hb dX7_segment_13 rfl (lv_at hl 0 rfl) ?_
    refine va_get (D := D) (ci := 4) (v := .ref aKd) (C := RX7) (T := TX7) (N := 15) hx hb hts hin4 hown hK hP 0 rfl rfl 2 (by decide) (hts (.fieldLink RX7 13 "FieldTraceModel" "kind" "[I") (by decide +kernel)) (fun _ h9 => h9) rfl dX7_segment_14 ?_
    refine lv_bipush (v := 64) hx hb dX7_segment_17 (by decide) ?_
    refine lv_iload_n hx hb dX7_segment_19 rfl (lv_at hl 1 rfl) ?_
    refine lv_imul hx hb dX7_segment_20 ?_
    refine lv_iload_n hx hb dX7_segment_21 rfl (lv_at hl 2 rfl) ?_
    refine lv_iadd hx hb dX7_segment_22 ?_
    refine va_iald hx hb hK hP 2 1 rfl rfl (n_hid c1) dX7_segment_23 ?_
    exact q_mi ((f_X7_hidden S a0 a1).2) hx hb hr hlocks hP hD hS (q_pair (by rw [f_X7_segment, if_pos c1])) dX7_segment_24
  · refine lv_iconst (v := 0) hx hb dX7_segment_9 (by decide) ?_
    refine lv_goto (tgt := 24) hx hb dX7_segment_10 (by decide) ?_
    exact q_mi ((f_X7_hidden S a0 a1).2) hx hb hr hlocks hP hD hS (q_pair (by rw [f_X7_segment, if_neg c1])) dX7_segment_24

def f_X7_value (S : NS) (a0 : Int32) (a1 : Int32) : Int64 × NS :=
  (if ((f_X7_hidden S a0 a1).1) = 0 then ((pN_number (f_X7_hidden S a0 a1).2) ((64 * a0) + a1).toNatClampNeg, (f_X7_hidden S a0 a1).2) else (0, (f_X7_hidden S a0 a1).2))

set_option maxHeartbeats 4000000 in
set_option maxRecDepth 100000 in
theorem c_X7_value (l : Launch) (D : va_G) (aN aIs aKd aNu aSg aVl aTs aTc : Nat) (cJ cI cZ : ClassId) (S : NS) (a0 : Int32) (a1 : Int32) : q_muL l yX7_value wsX7_value ({ frames := 2, cells := 0, slots := 0, locals := 45 }) D [(cJ, .long), (cI, .int), (cZ, .boolean)] (wN aN aIs aKd aNu aSg aVl aTs aTc cJ cI cZ S) [.ref aN, .int a0, .int a1] (fun r u => r = (f_X7_value S a0 a1).1 ∧ u = (f_X7_value S a0 a1).2) (fun u => (wN aN aIs aKd aNu aSg aVl aTs aTc cJ cI cZ u)) := by
  refine q_muL_of (cc := cX7_value) (maxL := 3) (ret := (some .long)) (plainFor_of_name (by decide)) rfl (Nat.le_of_ble_eq_true rfl) ?_
  intro p e s m below meth c ls A hx hb hr hml hown hts hlocks hP hK hD hA hS hl
  have hown : s.vm.findClass RX7 = some m.cls := hown
  have hl : lv_has ls 3 [(0, .ref aN), (1, .int a0), (2, .int a1)] := hl
  have hfix : CallFix p m c cX7_value 3 s [.ref aN, .int a0, .int a1].toArray wsX7_value RX7 := ⟨hx, hb, hml, hown, hts⟩
  have hin4 : ∀ w ∈ wsX70, w ∈ wsX7_value := by decide +kernel
  refine lv_aload_n hx hb dX7_value_0 rfl (lv_at hl 0 rfl) ?_
  refine lv_iload_n hx hb dX7_value_1 rfl (lv_at hl 1 rfl) ?_
  refine lv_iload_n hx hb dX7_value_2 rfl (lv_at hl 2 rfl) ?_
  refine q_callMi1 (As := [.int a0, .int a1]) (rest := []) (wr := []) (Wn := (fun u => (wN aN aIs aKd aNu aSg aVl aTs aTc cJ cI cZ u))) (q0 := 0) (ci := 4) (C := RX7) (c_X7_hidden l D aN aIs aKd aNu aSg aVl aTs aTc cJ cI cZ S a0 a1) hfix (cwV 2 hts gX7_value_X7_hidden rfl rfl rfl (by decide +kernel) ⟨Nat.le_of_ble_eq_true rfl, Nat.le_of_ble_eq_true rfl⟩) rfl hl.1 rfl (Nat.le_of_ble_eq_true rfl) ⟨Nat.zero_le _, Nat.zero_le _⟩ hP hK hD hS hA [0, 1, 2, 3, 4, 5, 6, 7] [] [0, 1, 2, 3, 4, 5, 6, 7] [0, 1, 2] rfl rfl rfl (by decide) (by decide) (by decide) (by decide) (fun _ => rfl) (fun _ => rfl) rfl rfl rfl rfl dX7_value_3 (fun H locs hP hD hS => ?_)
  have hP : va_P D vwCl (wN aN aIs aKd aNu aSg aVl aTs aTc cJ cI cZ (f_X7_hidden S a0 a1).2) H := hP
  have hD : va_D A (wN aN aIs aKd aNu aSg aVl aTs aTc cJ cI cZ (f_X7_hidden S a0 a1).2) := hD
  refine lv_if_eq (tgt := 13) hx hb dX7_value_6 (by decide) (fun c1 => ?_) (fun c1 => ?_)
  · refine lv_aload_n hx hb dX7_value_13 rfl (lv_at hl 0 rfl) ?_
    refine va_get (D := D) (ci := 4) (v := .ref aNu) (C := RX7) (T := TX7) (N := 15) hx hb hts hin4 hown hK hP 0 rfl rfl 3 (by decide) (hts (.fieldLink RX7 17 "FieldTraceModel" "number" "[J") (by decide +kernel)) (fun _ h9 => h9) rfl dX7_value_14 ?_
    refine lv_bipush (v := 64) hx hb dX7_value_17 (by decide) ?_
    refine lv_iload_n hx hb dX7_value_19 rfl (lv_at hl 1 rfl) ?_
    refine lv_imul hx hb dX7_value_20 ?_
    refine lv_iload_n hx hb dX7_value_21 rfl (lv_at hl 2 rfl) ?_
    refine lv_iadd hx hb dX7_value_22 ?_
    refine va_lald hx hb hK hP 3 0 rfl rfl (n_hid c1) dX7_value_23 ?_
    exact q_ml ((f_X7_hidden S a0 a1).2) hx hb hr hlocks hP hD hS (q_pair (by rw [f_X7_value, if_pos c1])) dX7_value_24
  · refine lv_lconst (v := 0) hx hb dX7_value_9 (by decide) ?_
    refine lv_goto (tgt := 24) hx hb dX7_value_10 (by decide) ?_
    exact q_ml ((f_X7_hidden S a0 a1).2) hx hb hr hlocks hP hD hS (q_pair (by rw [f_X7_value, if_neg c1])) dX7_value_24

def f_X7_rows (S : NS) : Int32 × NS :=
  ((pN_rows (sN_thrown S 0)), (sN_thrown S 0))

set_option maxHeartbeats 4000000 in
set_option maxRecDepth 100000 in
theorem c_X7_rows (l : Launch) (D : va_G) (aN aIs aKd aNu aSg aVl aTs aTc : Nat) (cJ cI cZ : ClassId) (S : NS) : q_muI l yX7_rows wsX7_rows ({ frames := 0, cells := 0, slots := 0, locals := 0 }) D [(cJ, .long), (cI, .int), (cZ, .boolean)] (wN aN aIs aKd aNu aSg aVl aTs aTc cJ cI cZ S) [.ref aN] (fun r u => r = (f_X7_rows S).1 ∧ u = (f_X7_rows S).2) (fun u => (wN aN aIs aKd aNu aSg aVl aTs aTc cJ cI cZ u)) := by
  refine q_muI_of (cc := cX7_rows) (maxL := 1) (ret := (some .int)) (plainFor_of_name (by decide)) rfl (Nat.le_of_ble_eq_true rfl) ?_
  intro p e s m below meth c ls A hx hb hr hml hown hts hlocks hP hK hD hA hS hl
  have hown : s.vm.findClass RX7 = some m.cls := hown
  have hl : lv_has ls 1 [(0, .ref aN)] := hl
  have hin4 : ∀ w ∈ wsX70, w ∈ wsX7_rows := by decide +kernel
  refine lv_aload_n hx hb dX7_rows_0 rfl (lv_at hl 0 rfl) ?_
  refine lv_iconst (v := 0) hx hb dX7_rows_1 (by decide) ?_
  refine va_put (D := D) (ci := 4) (v := .int 0) (ty := .int) (C := RX7) (T := TX7) (N := 15) hx hb hts hin4 tyX7 tyX7_ok nmX7 hown hK hP hD hS 0 rfl rfl 0 (by decide) (hts (.fieldLink RX7 33 "FieldTraceModel" "thrown" "I") (by decide +kernel)) (fun _ h9 => h9) rfl (by decide +kernel) (rfl) (rfl) (Nat.le_of_ble_eq_true rfl) dX7_rows_2 (fun H locs hP hD hS => ?_)
  have hP : va_P D vwCl (wN aN aIs aKd aNu aSg aVl aTs aTc cJ cI cZ (sN_thrown S 0)) H := hP
  have hD : va_D A (wN aN aIs aKd aNu aSg aVl aTs aTc cJ cI cZ (sN_thrown S 0)) := hD
  refine lv_aload_n hx hb dX7_rows_5 rfl (lv_at hl 0 rfl) ?_
  refine va_get (D := D) (ci := 4) (v := .int (pN_rows (sN_thrown S 0))) (C := RX7) (T := TX7) (N := 15) hx hb hts hin4 hown hK hP 0 rfl rfl 12 (by decide) (hts (.fieldLink RX7 184 "FieldTraceModel" "rows" "I") (by decide +kernel)) (fun _ h9 => h9) rfl dX7_rows_6 ?_
  exact q_mi (sN_thrown S 0) hx hb hr hlocks hP hD hS (q_pair (by rw [f_X7_rows])) dX7_rows_9

