def f_X3_empty (S : TS) : TS :=
  (sT_length S 0)

set_option maxHeartbeats 4000000 in
set_option maxRecDepth 100000 in
theorem c_X3_empty (l : Launch) (D : va_G) (aT aR : Nat) (cJ : ClassId) (S : TS) : q_muV l yX3_empty wsX3_empty ({ frames := 0, cells := 0, slots := 0, locals := 0 }) D [(cJ, .long)] (wT aT aR cJ S) [.ref aT] (fun u => u = (f_X3_empty S)) (fun u => (wT aT aR cJ u)) := by
  refine q_muV_of (cc := cX3_empty) (maxL := 1) (ret := none) (plainFor_of_name (by decide)) rfl (Nat.le_of_ble_eq_true rfl) ?_
  intro p e s m below meth c ls A hx hb hr hml hown hts hlocks hP hK hD hA hS hl
  have hown : s.vm.findClass RX3 = some m.cls := hown
  have hl : lv_has ls 1 [(0, .ref aT)] := hl
  have hin2 : ∀ w ∈ wsX30, w ∈ wsX3_empty := by decide +kernel
  refine lv_aload_n hx hb dX3_empty_0 rfl (lv_at hl 0 rfl) ?_
  refine lv_iconst (v := 0) hx hb dX3_empty_1 (by decide) ?_
  refine va_put (D := D) (ci := 2) (v := .int 0) (ty := .int) (C := RX3) (T := TX3) (N := 2) hx hb hts hin2 tyX3 tyX3_ok nmX3 hown hK hP hD hS 0 rfl rfl 1 (by decide) (hts (.fieldLink RX3 13 "FieldTrace$Trace" "length" "I") (by decide +kernel)) (fun _ h9 => h9) rfl (by decide +kernel) (rfl) (rfl) (Nat.le_of_ble_eq_true rfl) dX3_empty_2 (fun H locs hP hD hS => ?_)
  have hP : va_P D vwCl (wT aT aR cJ (sT_length S 0)) H := hP
  have hD : va_D A (wT aT aR cJ (sT_length S 0)) := hD
  exact q_mv (sT_length S 0) hx hb hr hlocks hP hD hS (Eq.symm (by rw [f_X3_empty])) dX3_empty_5

def f_X3_isFull (S : TS) : Int32 :=
  (if (pT_length S) < 64 then 0 else 1)

set_option maxHeartbeats 4000000 in
set_option maxRecDepth 100000 in
theorem c_X3_isFull (l : Launch) (D : va_G) (aT aR : Nat) (cJ : ClassId) (S : TS) : q_roI l yX3_isFull wsX3_isFull ({ frames := 0, cells := 0, slots := 0, locals := 0 }) D [(cJ, .long)] (wT aT aR cJ S) [.ref aT] (f_X3_isFull S) := by
  refine q_roI_of (cc := cX3_isFull) (maxL := 1) (ret := (some .boolean)) (plainFor_of_name (by decide)) rfl (Nat.le_of_ble_eq_true rfl) ?_
  intro p e s m below meth c ls A hx hb hr hml hown hts hlocks hP hK hA hS hl
  have hown : s.vm.findClass RX3 = some m.cls := hown
  have hl : lv_has ls 1 [(0, .ref aT)] := hl
  have hin2 : ∀ w ∈ wsX30, w ∈ wsX3_isFull := by decide +kernel
  refine lv_aload_n hx hb dX3_isFull_0 rfl (lv_at hl 0 rfl) ?_
  refine va_get (D := D) (ci := 2) (v := .int (pT_length S)) (C := RX3) (T := TX3) (N := 2) hx hb hts hin2 hown hK hP 0 rfl rfl 1 (by decide) (hts (.fieldLink RX3 13 "FieldTrace$Trace" "length" "I") (by decide +kernel)) (fun _ h9 => h9) rfl dX3_isFull_1 ?_
  refine lv_bipush (v := 64) hx hb dX3_isFull_4 (by decide) ?_
  refine lv_icmp_lt (tgt := 13) hx hb dX3_isFull_6 (by decide) (fun c1 => ?_) (fun c1 => ?_)
  · refine lv_iconst (v := 0) hx hb dX3_isFull_13 (by decide) ?_
    exact q_rz hx hb hr hlocks (rfl) hS (Eq.symm (by rw [f_X3_isFull, if_pos c1])) dX3_isFull_14
  · refine lv_iconst (v := 1) hx hb dX3_isFull_9 (by decide) ?_
    refine lv_goto (tgt := 14) hx hb dX3_isFull_10 (by decide) ?_
    exact q_rz hx hb hr hlocks (rfl) hS (Eq.symm (by rw [f_X3_isFull, if_neg c1])) dX3_isFull_14


theorem q_full {S : TS} (h : f_X3_isFull S = 0) (h0 : 0 ≤ (pT_length S)) : ∃ k : Nat, k < 64 ∧ pT_length S = nI k := by
  unfold f_X3_isFull at h
  by_cases h1 : pT_length S < 64
  · exact vp_in_of (vp_in_iff.mpr ⟨Int32.le_iff_toInt_le.mp h0, Int32.lt_iff_toInt_lt.mp h1⟩) (by decide)
  · rw [if_neg h1] at h; exact absurd h (by decide)
theorem q_tr0 {S : TS} (h : f_X3_isFull S = 0) (h0 : 0 ≤ (pT_length S)) : vp_in (pT_length S * 3) 192 := by
  obtain ⟨k, hk, e⟩ := q_full h h0
  rw [e, show (3 : Int32) = nI 3 from rfl, pk_mul]; exact vp_in_nI (by omega) (by decide)
theorem q_tr1 {S : TS} (h : f_X3_isFull S = 0) (h0 : 0 ≤ (pT_length S)) : vp_in (pT_length S * 3 + 1) 192 := by
  obtain ⟨k, hk, e⟩ := q_full h h0
  rw [e, show (3 : Int32) = nI 3 from rfl, pk_mul, nI_1]; exact vp_in_nI (by omega) (by decide)
theorem q_tr2 {S : TS} (h : f_X3_isFull S = 0) (h0 : 0 ≤ (pT_length S)) : vp_in (pT_length S * 3 + 2) 192 := by
  obtain ⟨k, hk, e⟩ := q_full h h0
  rw [e, show (3 : Int32) = nI 3 from rfl, pk_mul, show (2 : Int32) = nI 2 from rfl, nI_add]; exact vp_in_nI (by omega) (by decide)
theorem q_trat {a b n : Int32} (h1 : ¬ a < 0) (h2 : ¬ n ≤ a) (hn : n ≤ 64) (h3 : ¬ b < 0) (h4 : b < 3) : vp_in (a * 3 + b) 192 := by
  have g1 := q_nlt h1
  have g2 := q_nle h2
  have g3 := Int32.le_iff_toInt_le.mp hn
  rw [show (0 : Int32).toInt = 0 from rfl] at g1
  rw [show (64 : Int32).toInt = 64 from rfl] at g3
  obtain ⟨k, hk, rfl⟩ := vp_in_of (x := a) (n := 64) (vp_in_iff.mpr ⟨g1, by omega⟩) (by decide)
  obtain ⟨j, hj, rfl⟩ := vp_in_of (x := b) (n := 3) (vp_in_iff.mpr ⟨q_nlt h3, Int32.lt_iff_toInt_lt.mp h4⟩) (by decide)
  rw [show (3 : Int32) = nI 3 from rfl, pk_mul, nI_add]; exact vp_in_nI (by omega) (by decide)

def f_X3_add (S : TS) (a0 : Int64) (a1 : Int64) (a2 : Int64) : TS :=
  (if (f_X3_isFull S) = 0 then (sT_length (sT_row (sT_row (sT_row S (vp_updL (pT_row S) ((pT_length S) * 3 : Int32).toNatClampNeg a0)) (vp_updL (pT_row (sT_row S (vp_updL (pT_row S) ((pT_length S) * 3 : Int32).toNatClampNeg a0))) (((pT_length (sT_row S (vp_updL (pT_row S) ((pT_length S) * 3 : Int32).toNatClampNeg a0))) * 3) + 1 : Int32).toNatClampNeg a1)) (vp_updL (pT_row (sT_row (sT_row S (vp_updL (pT_row S) ((pT_length S) * 3 : Int32).toNatClampNeg a0)) (vp_updL (pT_row (sT_row S (vp_updL (pT_row S) ((pT_length S) * 3 : Int32).toNatClampNeg a0))) (((pT_length (sT_row S (vp_updL (pT_row S) ((pT_length S) * 3 : Int32).toNatClampNeg a0))) * 3) + 1 : Int32).toNatClampNeg a1))) (((pT_length (sT_row (sT_row S (vp_updL (pT_row S) ((pT_length S) * 3 : Int32).toNatClampNeg a0)) (vp_updL (pT_row (sT_row S (vp_updL (pT_row S) ((pT_length S) * 3 : Int32).toNatClampNeg a0))) (((pT_length (sT_row S (vp_updL (pT_row S) ((pT_length S) * 3 : Int32).toNatClampNeg a0))) * 3) + 1 : Int32).toNatClampNeg a1))) * 3) + 2 : Int32).toNatClampNeg a2)) ((pT_length (sT_row (sT_row (sT_row S (vp_updL (pT_row S) ((pT_length S) * 3 : Int32).toNatClampNeg a0)) (vp_updL (pT_row (sT_row S (vp_updL (pT_row S) ((pT_length S) * 3 : Int32).toNatClampNeg a0))) (((pT_length (sT_row S (vp_updL (pT_row S) ((pT_length S) * 3 : Int32).toNatClampNeg a0))) * 3) + 1 : Int32).toNatClampNeg a1)) (vp_updL (pT_row (sT_row (sT_row S (vp_updL (pT_row S) ((pT_length S) * 3 : Int32).toNatClampNeg a0)) (vp_updL (pT_row (sT_row S (vp_updL (pT_row S) ((pT_length S) * 3 : Int32).toNatClampNeg a0))) (((pT_length (sT_row S (vp_updL (pT_row S) ((pT_length S) * 3 : Int32).toNatClampNeg a0))) * 3) + 1 : Int32).toNatClampNeg a1))) (((pT_length (sT_row (sT_row S (vp_updL (pT_row S) ((pT_length S) * 3 : Int32).toNatClampNeg a0)) (vp_updL (pT_row (sT_row S (vp_updL (pT_row S) ((pT_length S) * 3 : Int32).toNatClampNeg a0))) (((pT_length (sT_row S (vp_updL (pT_row S) ((pT_length S) * 3 : Int32).toNatClampNeg a0))) * 3) + 1 : Int32).toNatClampNeg a1))) * 3) + 2 : Int32).toNatClampNeg a2))) + 1)) else S)

set_option maxHeartbeats 4000000 in
set_option maxRecDepth 100000 in
theorem c_X3_add (l : Launch) (D : va_G) (aT aR : Nat) (cJ : ClassId) (S : TS) (a0 : Int64) (a1 : Int64) (a2 : Int64) (h0 : 0 ≤ (pT_length S)) : q_muV l yX3_add wsX3_add ({ frames := 1, cells := 0, slots := 0, locals := 20 }) D [(cJ, .long)] (wT aT aR cJ S) [.ref aT, .long a0, .long a1, .long a2] (fun u => u = (f_X3_add S a0 a1 a2)) (fun u => (wT aT aR cJ u)) := by
  refine q_muV_of (cc := cX3_add) (maxL := 7) (ret := none) (plainFor_of_name (by decide)) rfl (Nat.le_of_ble_eq_true rfl) ?_
  intro p e s m below meth c ls A hx hb hr hml hown hts hlocks hP hK hD hA hS hl
  have hown : s.vm.findClass RX3 = some m.cls := hown
  have hl : lv_has ls 7 [(0, .ref aT), (1, .long a0), (3, .long a1), (5, .long a2)] := hl
  have hfix : CallFix p m c cX3_add 7 s [.ref aT, .long a0, .long a1, .long a2].toArray wsX3_add RX3 := ⟨hx, hb, hml, hown, hts⟩
  have hin2 : ∀ w ∈ wsX30, w ∈ wsX3_add := by decide +kernel
  refine lv_aload_n hx hb dX3_add_0 rfl (lv_at hl 0 rfl) ?_
  refine q_callVi (As := []) (rest := []) (q0 := 0) (ci := 2) (C := RX3) (c_X3_isFull l D aT aR cJ S) hfix (cwV 0 hts gX3_add_X3_isFull rfl rfl rfl (by decide +kernel) ⟨Nat.le_of_ble_eq_true rfl, Nat.le_of_ble_eq_true rfl⟩) rfl hl.1 rfl (Nat.le_of_ble_eq_true rfl) ⟨Nat.zero_le _, Nat.zero_le _⟩ hP hK hS hA [0, 1] [0] rfl rfl rfl rfl rfl dX3_add_1 (fun H locs hP hS => ?_)
  refine lv_if_eq (tgt := 8) hx hb dX3_add_4 (by decide) (fun c1 => ?_) (fun c1 => ?_)
  · refine lv_aload_n hx hb dX3_add_8 rfl (lv_at hl 0 rfl) ?_
    refine va_get (D := D) (ci := 2) (v := .ref aR) (C := RX3) (T := TX3) (N := 2) hx hb hts hin2 hown hK hP 0 rfl rfl 0 (by decide) (hts (.fieldLink RX3 9 "FieldTrace$Trace" "row" "[J") (by decide +kernel)) (fun _ h9 => h9) rfl dX3_add_9 ?_
    refine lv_aload_n hx hb dX3_add_12 rfl (lv_at hl 0 rfl) ?_
    refine va_get (D := D) (ci := 2) (v := .int (pT_length S)) (C := RX3) (T := TX3) (N := 2) hx hb hts hin2 hown hK hP 0 rfl rfl 1 (by decide) (hts (.fieldLink RX3 13 "FieldTrace$Trace" "length" "I") (by decide +kernel)) (fun _ h9 => h9) rfl dX3_add_13 ?_
    refine lv_iconst (v := 3) hx hb dX3_add_16 (by decide) ?_
    refine lv_imul hx hb dX3_add_17 ?_
    refine lv_lload_n hx hb dX3_add_18 rfl (lv_at hl 1 rfl) ?_
    refine va_last hx hb hK hP hD hS 1 0 rfl rfl (q_tr0 c1 h0) dX3_add_19 (fun H locs hP hD hS => ?_)
    have hP : va_P D vwCl (wT aT aR cJ (sT_row S (vp_updL (pT_row S) ((pT_length S) * 3 : Int32).toNatClampNeg a0))) H := hP
    have hD : va_D A (wT aT aR cJ (sT_row S (vp_updL (pT_row S) ((pT_length S) * 3 : Int32).toNatClampNeg a0))) := hD
    refine lv_aload_n hx hb dX3_add_20 rfl (lv_at hl 0 rfl) ?_
    refine va_get (D := D) (ci := 2) (v := .ref aR) (C := RX3) (T := TX3) (N := 2) hx hb hts hin2 hown hK hP 0 rfl rfl 0 (by decide) (hts (.fieldLink RX3 9 "FieldTrace$Trace" "row" "[J") (by decide +kernel)) (fun _ h9 => h9) rfl dX3_add_21 ?_
    refine lv_aload_n hx hb dX3_add_24 rfl (lv_at hl 0 rfl) ?_
    refine va_get (D := D) (ci := 2) (v := .int (pT_length (sT_row S (vp_updL (pT_row S) ((pT_length S) * 3 : Int32).toNatClampNeg a0)))) (C := RX3) (T := TX3) (N := 2) hx hb hts hin2 hown hK hP 0 rfl rfl 1 (by decide) (hts (.fieldLink RX3 13 "FieldTrace$Trace" "length" "I") (by decide +kernel)) (fun _ h9 => h9) rfl dX3_add_25 ?_
    refine lv_iconst (v := 3) hx hb dX3_add_28 (by decide) ?_
    refine lv_imul hx hb dX3_add_29 ?_
    refine lv_iconst (v := 1) hx hb dX3_add_30 (by decide) ?_
    refine lv_iadd hx hb dX3_add_31 ?_
    refine lv_lload_n hx hb dX3_add_32 rfl (lv_at hl 2 rfl) ?_
    refine va_last hx hb hK hP hD hS 1 0 rfl rfl (q_tr1 c1 h0) dX3_add_33 (fun H locs hP hD hS => ?_)
    have hP : va_P D vwCl (wT aT aR cJ (sT_row (sT_row S (vp_updL (pT_row S) ((pT_length S) * 3 : Int32).toNatClampNeg a0)) (vp_updL (pT_row (sT_row S (vp_updL (pT_row S) ((pT_length S) * 3 : Int32).toNatClampNeg a0))) (((pT_length (sT_row S (vp_updL (pT_row S) ((pT_length S) * 3 : Int32).toNatClampNeg a0))) * 3) + 1 : Int32).toNatClampNeg a1))) H := hP
    have hD : va_D A (wT aT aR cJ (sT_row (sT_row S (vp_updL (pT_row S) ((pT_length S) * 3 : Int32).toNatClampNeg a0)) (vp_updL (pT_row (sT_row S (vp_updL (pT_row S) ((pT_length S) * 3 : Int32).toNatClampNeg a0))) (((pT_length (sT_row S (vp_updL (pT_row S) ((pT_length S) * 3 : Int32).toNatClampNeg a0))) * 3) + 1 : Int32).toNatClampNeg a1))) := hD
    refine lv_aload_n hx hb dX3_add_34 rfl (lv_at hl 0 rfl) ?_
    refine va_get (D := D) (ci := 2) (v := .ref aR) (C := RX3) (T := TX3) (N := 2) hx hb hts hin2 hown hK hP 0 rfl rfl 0 (by decide) (hts (.fieldLink RX3 9 "FieldTrace$Trace" "row" "[J") (by decide +kernel)) (fun _ h9 => h9) rfl dX3_add_35 ?_
    refine lv_aload_n hx hb dX3_add_38 rfl (lv_at hl 0 rfl) ?_
    refine va_get (D := D) (ci := 2) (v := .int (pT_length (sT_row (sT_row S (vp_updL (pT_row S) ((pT_length S) * 3 : Int32).toNatClampNeg a0)) (vp_updL (pT_row (sT_row S (vp_updL (pT_row S) ((pT_length S) * 3 : Int32).toNatClampNeg a0))) (((pT_length (sT_row S (vp_updL (pT_row S) ((pT_length S) * 3 : Int32).toNatClampNeg a0))) * 3) + 1 : Int32).toNatClampNeg a1)))) (C := RX3) (T := TX3) (N := 2) hx hb hts hin2 hown hK hP 0 rfl rfl 1 (by decide) (hts (.fieldLink RX3 13 "FieldTrace$Trace" "length" "I") (by decide +kernel)) (fun _ h9 => h9) rfl dX3_add_39 ?_
    refine lv_iconst (v := 3) hx hb dX3_add_42 (by decide) ?_
    refine lv_imul hx hb dX3_add_43 ?_
    refine lv_iconst (v := 2) hx hb dX3_add_44 (by decide) ?_
    refine lv_iadd hx hb dX3_add_45 ?_
    refine lv_lload hx hb dX3_add_46 (lv_at hl 3 rfl) ?_
    refine va_last hx hb hK hP hD hS 1 0 rfl rfl (q_tr2 c1 h0) dX3_add_48 (fun H locs hP hD hS => ?_)
    have hP : va_P D vwCl (wT aT aR cJ (sT_row (sT_row (sT_row S (vp_updL (pT_row S) ((pT_length S) * 3 : Int32).toNatClampNeg a0)) (vp_updL (pT_row (sT_row S (vp_updL (pT_row S) ((pT_length S) * 3 : Int32).toNatClampNeg a0))) (((pT_length (sT_row S (vp_updL (pT_row S) ((pT_length S) * 3 : Int32).toNatClampNeg a0))) * 3) + 1 : Int32).toNatClampNeg a1)) (vp_updL (pT_row (sT_row (sT_row S (vp_updL (pT_row S) ((pT_length S) * 3 : Int32).toNatClampNeg a0)) (vp_updL (pT_row (sT_row S (vp_updL (pT_row S) ((pT_length S) * 3 : Int32).toNatClampNeg a0))) (((pT_length (sT_row S (vp_updL (pT_row S) ((pT_length S) * 3 : Int32).toNatClampNeg a0))) * 3) + 1 : Int32).toNatClampNeg a1))) (((pT_length (sT_row (sT_row S (vp_updL (pT_row S) ((pT_length S) * 3 : Int32).toNatClampNeg a0)) (vp_updL (pT_row (sT_row S (vp_updL (pT_row S) ((pT_length S) * 3 : Int32).toNatClampNeg a0))) (((pT_length (sT_row S (vp_updL (pT_row S) ((pT_length S) * 3 : Int32).toNatClampNeg a0))) * 3) + 1 : Int32).toNatClampNeg a1))) * 3) + 2 : Int32).toNatClampNeg a2))) H := hP
    have hD : va_D A (wT aT aR cJ (sT_row (sT_row (sT_row S (vp_updL (pT_row S) ((pT_length S) * 3 : Int32).toNatClampNeg a0)) (vp_updL (pT_row (sT_row S (vp_updL (pT_row S) ((pT_length S) * 3 : Int32).toNatClampNeg a0))) (((pT_length (sT_row S (vp_updL (pT_row S) ((pT_length S) * 3 : Int32).toNatClampNeg a0))) * 3) + 1 : Int32).toNatClampNeg a1)) (vp_updL (pT_row (sT_row (sT_row S (vp_updL (pT_row S) ((pT_length S) * 3 : Int32).toNatClampNeg a0)) (vp_updL (pT_row (sT_row S (vp_updL (pT_row S) ((pT_length S) * 3 : Int32).toNatClampNeg a0))) (((pT_length (sT_row S (vp_updL (pT_row S) ((pT_length S) * 3 : Int32).toNatClampNeg a0))) * 3) + 1 : Int32).toNatClampNeg a1))) (((pT_length (sT_row (sT_row S (vp_updL (pT_row S) ((pT_length S) * 3 : Int32).toNatClampNeg a0)) (vp_updL (pT_row (sT_row S (vp_updL (pT_row S) ((pT_length S) * 3 : Int32).toNatClampNeg a0))) (((pT_length (sT_row S (vp_updL (pT_row S) ((pT_length S) * 3 : Int32).toNatClampNeg a0))) * 3) + 1 : Int32).toNatClampNeg a1))) * 3) + 2 : Int32).toNatClampNeg a2))) := hD
    refine lv_aload_n hx hb dX3_add_49 rfl (lv_at hl 0 rfl) ?_
    refine lv_dup hx hb dX3_add_50 rfl ?_
    refine va_get (D := D) (ci := 2) (v := .int (pT_length (sT_row (sT_row (sT_row S (vp_updL (pT_row S) ((pT_length S) * 3 : Int32).toNatClampNeg a0)) (vp_updL (pT_row (sT_row S (vp_updL (pT_row S) ((pT_length S) * 3 : Int32).toNatClampNeg a0))) (((pT_length (sT_row S (vp_updL (pT_row S) ((pT_length S) * 3 : Int32).toNatClampNeg a0))) * 3) + 1 : Int32).toNatClampNeg a1)) (vp_updL (pT_row (sT_row (sT_row S (vp_updL (pT_row S) ((pT_length S) * 3 : Int32).toNatClampNeg a0)) (vp_updL (pT_row (sT_row S (vp_updL (pT_row S) ((pT_length S) * 3 : Int32).toNatClampNeg a0))) (((pT_length (sT_row S (vp_updL (pT_row S) ((pT_length S) * 3 : Int32).toNatClampNeg a0))) * 3) + 1 : Int32).toNatClampNeg a1))) (((pT_length (sT_row (sT_row S (vp_updL (pT_row S) ((pT_length S) * 3 : Int32).toNatClampNeg a0)) (vp_updL (pT_row (sT_row S (vp_updL (pT_row S) ((pT_length S) * 3 : Int32).toNatClampNeg a0))) (((pT_length (sT_row S (vp_updL (pT_row S) ((pT_length S) * 3 : Int32).toNatClampNeg a0))) * 3) + 1 : Int32).toNatClampNeg a1))) * 3) + 2 : Int32).toNatClampNeg a2)))) (C := RX3) (T := TX3) (N := 2) hx hb hts hin2 hown hK hP 0 rfl rfl 1 (by decide) (hts (.fieldLink RX3 13 "FieldTrace$Trace" "length" "I") (by decide +kernel)) (fun _ h9 => h9) rfl dX3_add_51 ?_
    refine lv_iconst (v := 1) hx hb dX3_add_54 (by decide) ?_
    refine lv_iadd hx hb dX3_add_55 ?_
    refine va_put (D := D) (ci := 2) (v := .int ((pT_length (sT_row (sT_row (sT_row S (vp_updL (pT_row S) ((pT_length S) * 3 : Int32).toNatClampNeg a0)) (vp_updL (pT_row (sT_row S (vp_updL (pT_row S) ((pT_length S) * 3 : Int32).toNatClampNeg a0))) (((pT_length (sT_row S (vp_updL (pT_row S) ((pT_length S) * 3 : Int32).toNatClampNeg a0))) * 3) + 1 : Int32).toNatClampNeg a1)) (vp_updL (pT_row (sT_row (sT_row S (vp_updL (pT_row S) ((pT_length S) * 3 : Int32).toNatClampNeg a0)) (vp_updL (pT_row (sT_row S (vp_updL (pT_row S) ((pT_length S) * 3 : Int32).toNatClampNeg a0))) (((pT_length (sT_row S (vp_updL (pT_row S) ((pT_length S) * 3 : Int32).toNatClampNeg a0))) * 3) + 1 : Int32).toNatClampNeg a1))) (((pT_length (sT_row (sT_row S (vp_updL (pT_row S) ((pT_length S) * 3 : Int32).toNatClampNeg a0)) (vp_updL (pT_row (sT_row S (vp_updL (pT_row S) ((pT_length S) * 3 : Int32).toNatClampNeg a0))) (((pT_length (sT_row S (vp_updL (pT_row S) ((pT_length S) * 3 : Int32).toNatClampNeg a0))) * 3) + 1 : Int32).toNatClampNeg a1))) * 3) + 2 : Int32).toNatClampNeg a2))) + 1)) (ty := .int) (C := RX3) (T := TX3) (N := 2) hx hb hts hin2 tyX3 tyX3_ok nmX3 hown hK hP hD hS 0 rfl rfl 1 (by decide) (hts (.fieldLink RX3 13 "FieldTrace$Trace" "length" "I") (by decide +kernel)) (fun _ h9 => h9) rfl (by decide +kernel) (rfl) (rfl) (Nat.le_of_ble_eq_true rfl) dX3_add_56 (fun H locs hP hD hS => ?_)
    have hP : va_P D vwCl (wT aT aR cJ (sT_length (sT_row (sT_row (sT_row S (vp_updL (pT_row S) ((pT_length S) * 3 : Int32).toNatClampNeg a0)) (vp_updL (pT_row (sT_row S (vp_updL (pT_row S) ((pT_length S) * 3 : Int32).toNatClampNeg a0))) (((pT_length (sT_row S (vp_updL (pT_row S) ((pT_length S) * 3 : Int32).toNatClampNeg a0))) * 3) + 1 : Int32).toNatClampNeg a1)) (vp_updL (pT_row (sT_row (sT_row S (vp_updL (pT_row S) ((pT_length S) * 3 : Int32).toNatClampNeg a0)) (vp_updL (pT_row (sT_row S (vp_updL (pT_row S) ((pT_length S) * 3 : Int32).toNatClampNeg a0))) (((pT_length (sT_row S (vp_updL (pT_row S) ((pT_length S) * 3 : Int32).toNatClampNeg a0))) * 3) + 1 : Int32).toNatClampNeg a1))) (((pT_length (sT_row (sT_row S (vp_updL (pT_row S) ((pT_length S) * 3 : Int32).toNatClampNeg a0)) (vp_updL (pT_row (sT_row S (vp_updL (pT_row S) ((pT_length S) * 3 : Int32).toNatClampNeg a0))) (((pT_length (sT_row S (vp_updL (pT_row S) ((pT_length S) * 3 : Int32).toNatClampNeg a0))) * 3) + 1 : Int32).toNatClampNeg a1))) * 3) + 2 : Int32).toNatClampNeg a2)) ((pT_length (sT_row (sT_row (sT_row S (vp_updL (pT_row S) ((pT_length S) * 3 : Int32).toNatClampNeg a0)) (vp_updL (pT_row (sT_row S (vp_updL (pT_row S) ((pT_length S) * 3 : Int32).toNatClampNeg a0))) (((pT_length (sT_row S (vp_updL (pT_row S) ((pT_length S) * 3 : Int32).toNatClampNeg a0))) * 3) + 1 : Int32).toNatClampNeg a1)) (vp_updL (pT_row (sT_row (sT_row S (vp_updL (pT_row S) ((pT_length S) * 3 : Int32).toNatClampNeg a0)) (vp_updL (pT_row (sT_row S (vp_updL (pT_row S) ((pT_length S) * 3 : Int32).toNatClampNeg a0))) (((pT_length (sT_row S (vp_updL (pT_row S) ((pT_length S) * 3 : Int32).toNatClampNeg a0))) * 3) + 1 : Int32).toNatClampNeg a1))) (((pT_length (sT_row (sT_row S (vp_updL (pT_row S) ((pT_length S) * 3 : Int32).toNatClampNeg a0)) (vp_updL (pT_row (sT_row S (vp_updL (pT_row S) ((pT_length S) * 3 : Int32).toNatClampNeg a0))) (((pT_length (sT_row S (vp_updL (pT_row S) ((pT_length S) * 3 : Int32).toNatClampNeg a0))) * 3) + 1 : Int32).toNatClampNeg a1))) * 3) + 2 : Int32).toNatClampNeg a2))) + 1))) H := hP
    have hD : va_D A (wT aT aR cJ (sT_length (sT_row (sT_row (sT_row S (vp_updL (pT_row S) ((pT_length S) * 3 : Int32).toNatClampNeg a0)) (vp_updL (pT_row (sT_row S (vp_updL (pT_row S) ((pT_length S) * 3 : Int32).toNatClampNeg a0))) (((pT_length (sT_row S (vp_updL (pT_row S) ((pT_length S) * 3 : Int32).toNatClampNeg a0))) * 3) + 1 : Int32).toNatClampNeg a1)) (vp_updL (pT_row (sT_row (sT_row S (vp_updL (pT_row S) ((pT_length S) * 3 : Int32).toNatClampNeg a0)) (vp_updL (pT_row (sT_row S (vp_updL (pT_row S) ((pT_length S) * 3 : Int32).toNatClampNeg a0))) (((pT_length (sT_row S (vp_updL (pT_row S) ((pT_length S) * 3 : Int32).toNatClampNeg a0))) * 3) + 1 : Int32).toNatClampNeg a1))) (((pT_length (sT_row (sT_row S (vp_updL (pT_row S) ((pT_length S) * 3 : Int32).toNatClampNeg a0)) (vp_updL (pT_row (sT_row S (vp_updL (pT_row S) ((pT_length S) * 3 : Int32).toNatClampNeg a0))) (((pT_length (sT_row S (vp_updL (pT_row S) ((pT_length S) * 3 : Int32).toNatClampNeg a0))) * 3) + 1 : Int32).toNatClampNeg a1))) * 3) + 2 : Int32).toNatClampNeg a2)) ((pT_length (sT_row (sT_row (sT_row S (vp_updL (pT_row S) ((pT_length S) * 3 : Int32).toNatClampNeg a0)) (vp_updL (pT_row (sT_row S (vp_updL (pT_row S) ((pT_length S) * 3 : Int32).toNatClampNeg a0))) (((pT_length (sT_row S (vp_updL (pT_row S) ((pT_length S) * 3 : Int32).toNatClampNeg a0))) * 3) + 1 : Int32).toNatClampNeg a1)) (vp_updL (pT_row (sT_row (sT_row S (vp_updL (pT_row S) ((pT_length S) * 3 : Int32).toNatClampNeg a0)) (vp_updL (pT_row (sT_row S (vp_updL (pT_row S) ((pT_length S) * 3 : Int32).toNatClampNeg a0))) (((pT_length (sT_row S (vp_updL (pT_row S) ((pT_length S) * 3 : Int32).toNatClampNeg a0))) * 3) + 1 : Int32).toNatClampNeg a1))) (((pT_length (sT_row (sT_row S (vp_updL (pT_row S) ((pT_length S) * 3 : Int32).toNatClampNeg a0)) (vp_updL (pT_row (sT_row S (vp_updL (pT_row S) ((pT_length S) * 3 : Int32).toNatClampNeg a0))) (((pT_length (sT_row S (vp_updL (pT_row S) ((pT_length S) * 3 : Int32).toNatClampNeg a0))) * 3) + 1 : Int32).toNatClampNeg a1))) * 3) + 2 : Int32).toNatClampNeg a2))) + 1))) := hD
    exact q_mv (sT_length (sT_row (sT_row (sT_row S (vp_updL (pT_row S) ((pT_length S) * 3 : Int32).toNatClampNeg a0)) (vp_updL (pT_row (sT_row S (vp_updL (pT_row S) ((pT_length S) * 3 : Int32).toNatClampNeg a0))) (((pT_length (sT_row S (vp_updL (pT_row S) ((pT_length S) * 3 : Int32).toNatClampNeg a0))) * 3) + 1 : Int32).toNatClampNeg a1)) (vp_updL (pT_row (sT_row (sT_row S (vp_updL (pT_row S) ((pT_length S) * 3 : Int32).toNatClampNeg a0)) (vp_updL (pT_row (sT_row S (vp_updL (pT_row S) ((pT_length S) * 3 : Int32).toNatClampNeg a0))) (((pT_length (sT_row S (vp_updL (pT_row S) ((pT_length S) * 3 : Int32).toNatClampNeg a0))) * 3) + 1 : Int32).toNatClampNeg a1))) (((pT_length (sT_row (sT_row S (vp_updL (pT_row S) ((pT_length S) * 3 : Int32).toNatClampNeg a0)) (vp_updL (pT_row (sT_row S (vp_updL (pT_row S) ((pT_length S) * 3 : Int32).toNatClampNeg a0))) (((pT_length (sT_row S (vp_updL (pT_row S) ((pT_length S) * 3 : Int32).toNatClampNeg a0))) * 3) + 1 : Int32).toNatClampNeg a1))) * 3) + 2 : Int32).toNatClampNeg a2)) ((pT_length (sT_row (sT_row (sT_row S (vp_updL (pT_row S) ((pT_length S) * 3 : Int32).toNatClampNeg a0)) (vp_updL (pT_row (sT_row S (vp_updL (pT_row S) ((pT_length S) * 3 : Int32).toNatClampNeg a0))) (((pT_length (sT_row S (vp_updL (pT_row S) ((pT_length S) * 3 : Int32).toNatClampNeg a0))) * 3) + 1 : Int32).toNatClampNeg a1)) (vp_updL (pT_row (sT_row (sT_row S (vp_updL (pT_row S) ((pT_length S) * 3 : Int32).toNatClampNeg a0)) (vp_updL (pT_row (sT_row S (vp_updL (pT_row S) ((pT_length S) * 3 : Int32).toNatClampNeg a0))) (((pT_length (sT_row S (vp_updL (pT_row S) ((pT_length S) * 3 : Int32).toNatClampNeg a0))) * 3) + 1 : Int32).toNatClampNeg a1))) (((pT_length (sT_row (sT_row S (vp_updL (pT_row S) ((pT_length S) * 3 : Int32).toNatClampNeg a0)) (vp_updL (pT_row (sT_row S (vp_updL (pT_row S) ((pT_length S) * 3 : Int32).toNatClampNeg a0))) (((pT_length (sT_row S (vp_updL (pT_row S) ((pT_length S) * 3 : Int32).toNatClampNeg a0))) * 3) + 1 : Int32).toNatClampNeg a1))) * 3) + 2 : Int32).toNatClampNeg a2))) + 1)) hx hb hr hlocks hP hD hS (Eq.symm (by rw [f_X3_add, if_pos c1])) dX3_add_59
  · exact q_mv S hx hb hr hlocks hP hD hS (Eq.symm (by rw [f_X3_add, if_neg c1])) dX3_add_7

def f_X3_at (S : TS) (a0 : Int32) (a1 : Int32) : Int64 :=
  (if a0 < 0 then (-1) else (if (pT_length S) ≤ a0 then (-1) else (if a1 < 0 then (-1) else (if a1 < 3 then (pT_row S) ((a0 * 3) + a1).toNatClampNeg else (-1)))))

set_option maxHeartbeats 4000000 in
set_option maxRecDepth 100000 in
theorem c_X3_at (l : Launch) (D : va_G) (aT aR : Nat) (cJ : ClassId) (S : TS) (a0 : Int32) (a1 : Int32) (hn : (pT_length S) ≤ 64) : q_roL l yX3_at wsX3_at ({ frames := 0, cells := 0, slots := 0, locals := 0 }) D [(cJ, .long)] (wT aT aR cJ S) [.ref aT, .int a0, .int a1] (f_X3_at S a0 a1) := by
  refine q_roL_of (cc := cX3_at) (maxL := 3) (ret := (some .long)) (plainFor_of_name (by decide)) rfl (Nat.le_of_ble_eq_true rfl) ?_
  intro p e s m below meth c ls A hx hb hr hml hown hts hlocks hP hK hA hS hl
  have hown : s.vm.findClass RX3 = some m.cls := hown
  have hl : lv_has ls 3 [(0, .ref aT), (1, .int a0), (2, .int a1)] := hl
  have hin2 : ∀ w ∈ wsX30, w ∈ wsX3_at := by decide +kernel
  refine lv_iload_n hx hb dX3_at_0 rfl (lv_at hl 1 rfl) ?_
  refine lv_if_lt (tgt := 21) hx hb dX3_at_1 (by decide) (fun c1 => ?_) (fun c1 => ?_)
  · refine lv_ldc2 (v := -1) hx hb hown (hts (.constantLong RX3 23 (-1)) (by decide +kernel)) dX3_at_21 ?_
    exact q_rl hx hb hr hlocks hS (Eq.symm (by rw [f_X3_at, if_pos c1])) dX3_at_24
  · refine lv_iload_n hx hb dX3_at_4 rfl (lv_at hl 1 rfl) ?_
    refine lv_aload_n hx hb dX3_at_5 rfl (lv_at hl 0 rfl) ?_
    refine va_get (D := D) (ci := 2) (v := .int (pT_length S)) (C := RX3) (T := TX3) (N := 2) hx hb hts hin2 hown hK hP 0 rfl rfl 1 (by decide) (hts (.fieldLink RX3 13 "FieldTrace$Trace" "length" "I") (by decide +kernel)) (fun _ h9 => h9) rfl dX3_at_6 ?_
    refine lv_icmp_ge (tgt := 21) hx hb dX3_at_9 (by decide) (fun c2 => ?_) (fun c2 => ?_)
    · refine lv_ldc2 (v := -1) hx hb hown (hts (.constantLong RX3 23 (-1)) (by decide +kernel)) dX3_at_21 ?_
      exact q_rl hx hb hr hlocks hS (Eq.symm (by rw [f_X3_at, if_neg c1, if_pos c2])) dX3_at_24
    · refine lv_iload_n hx hb dX3_at_12 rfl (lv_at hl 2 rfl) ?_
      refine lv_if_lt (tgt := 21) hx hb dX3_at_13 (by decide) (fun c3 => ?_) (fun c3 => ?_)
      · refine lv_ldc2 (v := -1) hx hb hown (hts (.constantLong RX3 23 (-1)) (by decide +kernel)) dX3_at_21 ?_
        exact q_rl hx hb hr hlocks hS (Eq.symm (by rw [f_X3_at, if_neg c1, if_neg c2, if_pos c3])) dX3_at_24
      · refine lv_iload_n hx hb dX3_at_16 rfl (lv_at hl 2 rfl) ?_
        refine lv_iconst (v := 3) hx hb dX3_at_17 (by decide) ?_
        refine lv_icmp_lt (tgt := 25) hx hb dX3_at_18 (by decide) (fun c4 => ?_) (fun c4 => ?_)
        · refine lv_aload_n hx hb dX3_at_25 rfl (lv_at hl 0 rfl) ?_
          refine va_get (D := D) (ci := 2) (v := .ref aR) (C := RX3) (T := TX3) (N := 2) hx hb hts hin2 hown hK hP 0 rfl rfl 0 (by decide) (hts (.fieldLink RX3 9 "FieldTrace$Trace" "row" "[J") (by decide +kernel)) (fun _ h9 => h9) rfl dX3_at_26 ?_
          refine lv_iload_n hx hb dX3_at_29 rfl (lv_at hl 1 rfl) ?_
          refine lv_iconst (v := 3) hx hb dX3_at_30 (by decide) ?_
          refine lv_imul hx hb dX3_at_31 ?_
          refine lv_iload_n hx hb dX3_at_32 rfl (lv_at hl 2 rfl) ?_
          refine lv_iadd hx hb dX3_at_33 ?_
          refine va_lald hx hb hK hP 1 0 rfl rfl (q_trat c1 c2 hn c3 c4) dX3_at_34 ?_
          exact q_rl hx hb hr hlocks hS (Eq.symm (by rw [f_X3_at, if_neg c1, if_neg c2, if_neg c3, if_pos c4])) dX3_at_35
        · refine lv_ldc2 (v := -1) hx hb hown (hts (.constantLong RX3 23 (-1)) (by decide +kernel)) dX3_at_21 ?_
          exact q_rl hx hb hr hlocks hS (Eq.symm (by rw [f_X3_at, if_neg c1, if_neg c2, if_neg c3, if_neg c4])) dX3_at_24

