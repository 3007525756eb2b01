
theorem n_f7 {a : Int32} (h : a ≤ 6) : (a.toInt - (1 : Int32).toInt).toNat < 7 := by
  rw [Int32.le_iff_toInt_le, show (6 : Int32).toInt = 6 from rfl] at h
  rw [show (1 : Int32).toInt = 1 from rfl]
  omega
theorem n_v6 {a v : Int32} (h : a ≤ 6) (h0 : 0 ≤ v) (h2 : ¬ a ≤ v) : vp_in v 6 := by
  have h1 := q_nle h2
  rw [Int32.le_iff_toInt_le, show (6 : Int32).toInt = 6 from rfl] at h
  rw [Int32.le_iff_toInt_le, show (0 : Int32).toInt = 0 from rfl] at h0
  exact vp_in_iff.mpr ⟨h0, by omega⟩
theorem n_le6 {x : Int32} (h : vp_in x 6) : x ≤ 6 := by
  have h1 := (vp_in_iff.mp h).2
  rw [Int32.le_iff_toInt_le, show (6 : Int32).toInt = 6 from rfl]
  omega
theorem n_trx {k r R : Int32} (h1 : f_X7_out r 0 2 = 0) (h2 : f_X7_out k 0 (R - 1) = 0) (hR : vp_in R 65) : vp_in (3 * k + r) 192 := by
  obtain ⟨j, hj, rfl⟩ := vp_in_of (n_outin (N := 3) h1 (by decide) (by decide)) (by decide)
  obtain ⟨q, hq, rfl⟩ := vp_in_of hR (by decide)
  obtain ⟨g1, g2⟩ := n_out0 h2
  have e : (nI q - 1).toInt = (q : Int) - 1 := pk_sub_toInt (b := 1) (by omega) (by decide)
  rw [Int32.le_iff_toInt_le] at g1 g2
  rw [e] at g2
  rw [show (0 : Int32).toInt = 0 from rfl] at g1
  obtain ⟨i, hi, rfl⟩ := vp_in_of (x := k) (n := 64) (vp_in_iff.mpr ⟨g1, by omega⟩) (by decide)
  rw [show (3 : Int32) = nI 3 from rfl, pk_mul, nI_add]
  exact vp_in_nI (by omega) (by decide)

def f_X7_beginOf_J46 (v5_15 : Int32) (k_15 : Int32 → Int32 → Int32) (t0_46 : Int32) : Int32 :=
  (k_15 t0_46 (v5_15 + 1))

def f_X7_beginOf_L15 (S : NS) (v2_4 : Int32) (v3_4 : Int32) (k_4 : Int32 → Int32 → Int32) : Nat → Int32 → Int32 → Int32
  | 0, _, _ => default
  | fu_15 + 1, v4_15, v5_15 => (if 64 ≤ v5_15 then (k_4 (v2_4 + v4_15) (v3_4 + 1)) else (if ((pN_isSet S) ((64 * v3_4) + v5_15).toNatClampNeg) = 0 then (f_X7_beginOf_J46 v5_15 (f_X7_beginOf_L15 S v2_4 v3_4 k_4 fu_15) v4_15) else (f_X7_beginOf_J46 v5_15 (f_X7_beginOf_L15 S v2_4 v3_4 k_4 fu_15) (v5_15 + 1))))

def f_X7_beginOf_L4 (S : NS) (a0 : Int32) : Nat → Int32 → Int32 → Int32
  | 0, _, _ => default
  | fu_4 + 1, v2_4, v3_4 => (if a0 ≤ v3_4 then v2_4 else (f_X7_beginOf_L15 S v2_4 v3_4 (f_X7_beginOf_L4 S a0 fu_4) 65 0 0))

def f_X7_beginOf (S : NS) (a0 : Int32) : Int32 :=
  (f_X7_beginOf_L4 S a0 7 1 1)

set_option maxHeartbeats 4000000 in
set_option maxRecDepth 100000 in
theorem c_X7_beginOf (l : Launch) (D : va_G) (aN aIs aKd aNu aSg aVl aTs aTc : Nat) (cJ cI cZ : ClassId) (S : NS) (a0 : Int32) (h6 : a0 ≤ 6) : q_roI l yX7_beginOf wsX7_beginOf ({ frames := 0, cells := 0, slots := 0, locals := 0 }) D [(cJ, .long), (cI, .int), (cZ, .boolean)] (wN aN aIs aKd aNu aSg aVl aTs aTc cJ cI cZ S) [.ref aN, .int a0] (f_X7_beginOf S a0) := by
  refine q_roI_of (cc := cX7_beginOf) (maxL := 6) (ret := (some .int)) (plainFor_of_name (by decide)) rfl (Nat.le_of_ble_eq_true rfl) ?_
  intro p e s m below meth c ls A hx hb hr hml hown hts hlocks hP hK hA hS hl
  have hown : s.vm.findClass RX7 = some m.cls := hown
  have hl : lv_has ls 6 [(0, .ref aN), (1, .int a0)] := hl
  have hin4 : ∀ w ∈ wsX70, w ∈ wsX7_beginOf := by decide +kernel
  refine lv_iconst (v := 1) hx hb dX7_beginOf_0 (by decide) ?_
  refine lv_istore_n (lv' := [(2, .int 1), (0, .ref aN), (1, .int a0)]) hx hb dX7_beginOf_1 rfl hl (by decide) rfl (fun ls hl => ?_)
  refine lv_iconst (v := 1) hx hb dX7_beginOf_2 (by decide) ?_
  refine lv_istore_n (lv' := [(3, .int 1), (2, .int 1), (0, .ref aN), (1, .int a0)]) hx hb dX7_beginOf_3 rfl hl (by decide) rfl (fun ls hl => ?_)
  have kL4 : ∀ (fu_4 : Nat) (v2_4 : Int32) (v3_4 : Int32) (H : Heap) (locs : List Loc) (ls : Array Slot), (a0.toInt - v3_4.toInt).toNat < fu_4 → 0 ≤ v3_4 → (f_X7_beginOf S a0) = (f_X7_beginOf_L4 S a0 fu_4 v2_4 v3_4) → va_P D vwCl (wN aN aIs aKd aNu aSg aVl aTs aTc cJ cI cZ S) H → va_S A s.heap H locs → lv_has ls 6 [(0, .ref aN), (1, .int a0), (2, .int v2_4), (3, .int v3_4)] → W p l e ({ frames := 0, cells := 0, slots := 0, locals := 0 }) s m [.ref aN, .int a0].toArray below meth c H locs 0 0 (MQ below (va_Qi (fun r (_ : Unit) => r = (f_X7_beginOf S a0)) (fun _ _ => True) A) [.ref aN, .int a0].toArray s 0 0 A) (F0 m 4 ls []) := by
    intro fu_4
    induction fu_4 with
    | zero => intro v2_4 v3_4 H locs ls hmu; exact absurd hmu (Nat.not_lt_zero _)
    | succ fu_4 ih4 =>
      intro v2_4 v3_4 H locs ls hmu4 hinv4 hL4 hP hS hl
      refine lv_iload_n hx hb dX7_beginOf_4 rfl (lv_at hl 3 rfl) ?_
      refine lv_iload_n hx hb dX7_beginOf_5 rfl (lv_at hl 1 rfl) ?_
      refine lv_icmp_ge (tgt := 65) hx hb dX7_beginOf_6 (by decide) (fun c1 => ?_) (fun c1 => ?_)
      · refine lv_iload_n hx hb dX7_beginOf_65 rfl (lv_at hl 2 rfl) ?_
        exact q_ri hx hb hr hlocks hS (Eq.symm (by rw [hL4, f_X7_beginOf_L4, if_pos c1])) dX7_beginOf_66
      · refine lv_iconst (v := 0) hx hb dX7_beginOf_9 (by decide) ?_
        refine lv_istore (lv' := [(4, .int 0), (0, .ref aN), (1, .int a0), (2, .int v2_4), (3, .int v3_4)]) hx hb dX7_beginOf_10 hl (by decide) rfl (fun ls hl => ?_)
        refine lv_iconst (v := 0) hx hb dX7_beginOf_12 (by decide) ?_
        refine lv_istore (lv' := [(5, .int 0), (4, .int 0), (0, .ref aN), (1, .int a0), (2, .int v2_4), (3, .int v3_4)]) hx hb dX7_beginOf_13 hl (by decide) rfl (fun ls hl => ?_)
        have kL15 : ∀ (fu_15 : Nat) (v4_15 : Int32) (v5_15 : Int32) (H : Heap) (locs : List Loc) (ls : Array Slot), ((64 : Int) - v5_15.toInt).toNat < fu_15 → 0 ≤ v5_15 → (f_X7_beginOf S a0) = (f_X7_beginOf_L15 S v2_4 v3_4 (f_X7_beginOf_L4 S a0 fu_4) fu_15 v4_15 v5_15) → va_P D vwCl (wN aN aIs aKd aNu aSg aVl aTs aTc cJ cI cZ S) H → va_S A s.heap H locs → lv_has ls 6 [(0, .ref aN), (1, .int a0), (2, .int v2_4), (3, .int v3_4), (4, .int v4_15), (5, .int v5_15)] → W p l e ({ frames := 0, cells := 0, slots := 0, locals := 0 }) s m [.ref aN, .int a0].toArray below meth c H locs 0 0 (MQ below (va_Qi (fun r (_ : Unit) => r = (f_X7_beginOf S a0)) (fun _ _ => True) A) [.ref aN, .int a0].toArray s 0 0 A) (F0 m 15 ls []) := by
          intro fu_15
          induction fu_15 with
          | zero => intro v4_15 v5_15 H locs ls hmu; exact absurd hmu (Nat.not_lt_zero _)
          | succ fu_15 ih15 =>
            intro v4_15 v5_15 H locs ls hmu15 hinv15 hL15 hP hS hl
            refine lv_iload hx hb dX7_beginOf_15 (lv_at hl 5 rfl) ?_
            refine lv_bipush (v := 64) hx hb dX7_beginOf_17 (by decide) ?_
            refine lv_icmp_ge (tgt := 54) hx hb dX7_beginOf_19 (by decide) (fun c2 => ?_) (fun c2 => ?_)
            · refine lv_iload_n hx hb dX7_beginOf_54 rfl (lv_at hl 2 rfl) ?_
              refine lv_iload hx hb dX7_beginOf_55 (lv_at hl 4 rfl) ?_
              refine lv_iadd hx hb dX7_beginOf_57 ?_
              refine lv_istore_n (lv' := [(2, .int (v2_4 + v4_15)), (0, .ref aN), (1, .int a0), (3, .int v3_4), (4, .int v4_15), (5, .int v5_15)]) hx hb dX7_beginOf_58 rfl hl (by decide) rfl (fun ls hl => ?_)
              refine lv_iinc (v := v3_4 + 1) (lv' := [(3, .int (v3_4 + 1)), (2, .int (v2_4 + v4_15)), (0, .ref aN), (1, .int a0), (4, .int v4_15), (5, .int v5_15)]) hx hb dX7_beginOf_59 hl (k := 3) rfl rfl (by decide) rfl (fun ls hl => ?_)
              refine lv_goto (tgt := 4) hx hb dX7_beginOf_62 (by decide) ?_
              exact ih4 (v2_4 + v4_15) (v3_4 + 1) _ _ _ (q_dec rfl c1 hmu4) (n_inc0 hinv4 c1) (by rw [hL15, f_X7_beginOf_L15, if_pos c2]) hP hS (lv_sub hl [2, 3, 1, 0] rfl)
            · refine lv_aload_n hx hb dX7_beginOf_22 rfl (lv_at hl 0 rfl) ?_
              refine va_get (D := D) (ci := 4) (v := .ref aIs) (C := RX7) (T := TX7) (N := 15) hx hb hts hin4 hown hK hP 0 rfl rfl 1 (by decide) (hts (.fieldLink RX7 7 "FieldTraceModel" "isSet" "[Z") (by decide +kernel)) (fun _ h9 => h9) rfl dX7_beginOf_23 ?_
              refine lv_bipush (v := 64) hx hb dX7_beginOf_26 (by decide) ?_
              refine lv_iload_n hx hb dX7_beginOf_28 rfl (lv_at hl 3 rfl) ?_
              refine lv_imul hx hb dX7_beginOf_29 ?_
              refine lv_iload hx hb dX7_beginOf_30 (lv_at hl 5 rfl) ?_
              refine lv_iadd hx hb dX7_beginOf_32 ?_
              refine va_zald hx hb hK hP 1 2 rfl rfl (n_c (n_v6 h6 hinv4 c1) (n_inx rfl hinv15 c2)) dX7_beginOf_33 ?_
              have kJ46 : ∀ (t0_46 : Int32) (H : Heap) (locs : List Loc) (ls : Array Slot), (f_X7_beginOf S a0) = (f_X7_beginOf_J46 v5_15 (f_X7_beginOf_L15 S v2_4 v3_4 (f_X7_beginOf_L4 S a0 fu_4) fu_15) t0_46) → va_P D vwCl (wN aN aIs aKd aNu aSg aVl aTs aTc cJ cI cZ S) H → va_S A s.heap H locs → lv_has ls 6 [(0, .ref aN), (1, .int a0), (2, .int v2_4), (3, .int v3_4), (4, .int v4_15), (5, .int v5_15)] → W p l e ({ frames := 0, cells := 0, slots := 0, locals := 0 }) s m [.ref aN, .int a0].toArray below meth c H locs 0 0 (MQ below (va_Qi (fun r (_ : Unit) => r = (f_X7_beginOf S a0)) (fun _ _ => True) A) [.ref aN, .int a0].toArray s 0 0 A) (F0 m 46 ls [.int t0_46]) := by
                intro t0_46 H locs ls hJ46 hP hS hl
                refine lv_istore (lv' := [(4, .int t0_46), (0, .ref aN), (1, .int a0), (2, .int v2_4), (3, .int v3_4), (5, .int v5_15)]) hx hb dX7_beginOf_46 hl (by decide) rfl (fun ls hl => ?_)
                refine lv_iinc (v := v5_15 + 1) (lv' := [(5, .int (v5_15 + 1)), (4, .int t0_46), (0, .ref aN), (1, .int a0), (2, .int v2_4), (3, .int v3_4)]) hx hb dX7_beginOf_48 hl (k := 5) rfl rfl (by decide) rfl (fun ls hl => ?_)
                refine lv_goto (tgt := 15) hx hb dX7_beginOf_51 (by decide) ?_
                exact ih15 t0_46 (v5_15 + 1) _ _ _ (q_dec rfl c2 hmu15) (n_inc0 hinv15 c2) (by rw [hJ46, f_X7_beginOf_J46]) hP hS (lv_sub hl [2, 3, 4, 5, 1, 0] rfl)
              refine lv_if_eq (tgt := 44) hx hb dX7_beginOf_34 (by decide) (fun c3 => ?_) (fun c3 => ?_)
              · refine lv_iload hx hb dX7_beginOf_44 (lv_at hl 4 rfl) ?_
                exact kJ46 v4_15 _ _ _ (by rw [hL15, f_X7_beginOf_L15, if_neg c2, if_pos c3]) hP hS (lv_sub hl [0, 1, 2, 3, 4, 5] rfl)
              · refine lv_iload hx hb dX7_beginOf_37 (lv_at hl 5 rfl) ?_
                refine lv_iconst (v := 1) hx hb dX7_beginOf_39 (by decide) ?_
                refine lv_iadd hx hb dX7_beginOf_40 ?_
                refine lv_goto (tgt := 46) hx hb dX7_beginOf_41 (by decide) ?_
                exact kJ46 (v5_15 + 1) _ _ _ (by rw [hL15, f_X7_beginOf_L15, if_neg c2, if_neg c3]) hP hS (lv_sub hl [0, 1, 2, 3, 4, 5] rfl)
        exact kL15 65 0 0 _ _ _ (by decide) (by decide) (by rw [hL4, f_X7_beginOf_L4, if_neg c1]) hP hS (lv_sub hl [2, 3, 4, 5, 1, 0] rfl)
  exact kL4 7 1 1 _ _ _ (n_f7 h6) (by decide) (by rw [f_X7_beginOf]) hP hS (lv_sub hl [2, 3, 1, 0] rfl)

def f_X7_moved (S : NS) (a0 : Int32) (a1 : Int64) : Int64 :=
  (if a0 = 0 then a1 else (f_X7_modulo ((((f_X7_beginOf S a0) : Int32).toInt64) + a1)))

set_option maxHeartbeats 4000000 in
set_option maxRecDepth 100000 in
theorem c_X7_moved (l : Launch) (D : va_G) (aN aIs aKd aNu aSg aVl aTs aTc : Nat) (cJ cI cZ : ClassId) (S : NS) (a0 : Int32) (a1 : Int64) (h6 : a0 ≤ 6) : q_roL l yX7_moved wsX7_moved ({ frames := 1, cells := 0, slots := 0, locals := 25 }) D [(cJ, .long), (cI, .int), (cZ, .boolean)] (wN aN aIs aKd aNu aSg aVl aTs aTc cJ cI cZ S) [.ref aN, .int a0, .long a1] (f_X7_moved S a0 a1) := by
  refine q_roL_of (cc := cX7_moved) (maxL := 4) (ret := (some .long)) (plainFor_of_name (by decide)) rfl (Nat.le_of_ble_eq_true rfl) ?_
  intro p e s m below meth c ls A hx hb hr hml hown hts hlocks hP hK hA hS hl
  have hown : s.vm.findClass RX7 = some m.cls := hown
  have hl : lv_has ls 4 [(0, .ref aN), (1, .int a0), (2, .long a1)] := hl
  have hfix : CallFix p m c cX7_moved 4 s [.ref aN, .int a0, .long a1].toArray wsX7_moved RX7 := ⟨hx, hb, hml, hown, hts⟩
  refine lv_iload_n hx hb dX7_moved_0 rfl (lv_at hl 1 rfl) ?_
  refine lv_if_ne (tgt := 8) hx hb dX7_moved_1 (by decide) (fun c1 => ?_) (fun c1 => ?_)
  · refine lv_aload_n hx hb dX7_moved_8 rfl (lv_at hl 0 rfl) ?_
    refine lv_iload_n hx hb dX7_moved_9 rfl (lv_at hl 1 rfl) ?_
    refine q_callVi (As := [.int a0]) (rest := []) (q0 := 0) (ci := 4) (C := RX7) (c_X7_beginOf l D aN aIs aKd aNu aSg aVl aTs aTc cJ cI cZ S a0 (h6)) hfix (cwV 1 hts gX7_moved_X7_beginOf rfl rfl rfl (by decide +kernel) ⟨Nat.le_of_ble_eq_true rfl, Nat.le_of_ble_eq_true rfl⟩) rfl hl.1 rfl (Nat.le_of_ble_eq_true rfl) ⟨Nat.zero_le _, Nat.zero_le _⟩ hP hK hS hA [0, 1, 2, 3, 4, 5, 6, 7] [0, 1, 2] rfl rfl rfl rfl rfl dX7_moved_10 (fun H locs hP hS => ?_)
    refine lv_i2l hx hb dX7_moved_13 rfl ?_
    refine lv_lload_n hx hb dX7_moved_14 rfl (lv_at hl 2 rfl) ?_
    refine lv_ladd hx hb dX7_moved_15 ?_
    refine q_callSl (As := [.long ((((f_X7_beginOf S a0) : Int32).toInt64) + a1)]) (rest := []) (c_X7_modulo l D ((((f_X7_beginOf S a0) : Int32).toInt64) + a1)) hfix (va_cwS 1 hts gX7_moved_X7_modulo rfl rfl rfl (by decide +kernel) ⟨Nat.le_of_ble_eq_true rfl, Nat.le_of_ble_eq_true rfl⟩) rfl hl.1 rfl (Nat.le_of_ble_eq_true rfl) ⟨Nat.zero_le _, Nat.zero_le _⟩ hP hK hS hA [] [] rfl rfl dX7_moved_16 (fun H locs hP hS => ?_)
    exact q_rl hx hb hr hlocks hS (Eq.symm (by rw [f_X7_moved, if_neg c1])) dX7_moved_19
  · refine lv_lload_n hx hb dX7_moved_4 rfl (lv_at hl 2 rfl) ?_
    refine lv_goto (tgt := 19) hx hb dX7_moved_5 (by decide) ?_
    exact q_rl hx hb hr hlocks hS (Eq.symm (by rw [f_X7_moved, if_pos c1])) dX7_moved_19

def f_X7_traced (S : NS) (a0 : Int32) (a1 : Int32) : Int64 × NS :=
  (if ((f_X7_throwing S (f_X7_out a1 0 2) (f_X7_out a0 0 ((pN_rows S) - 1))).1) = 0 then ((f_X7_moved (f_X7_throwing S (f_X7_out a1 0 2) (f_X7_out a0 0 ((pN_rows S) - 1))).2 ((pN_traceSegment (f_X7_throwing S (f_X7_out a1 0 2) (f_X7_out a0 0 ((pN_rows S) - 1))).2) ((3 * a0) + a1).toNatClampNeg) ((pN_traceCell (f_X7_throwing S (f_X7_out a1 0 2) (f_X7_out a0 0 ((pN_rows S) - 1))).2) ((3 * a0) + a1).toNatClampNeg)), (f_X7_throwing S (f_X7_out a1 0 2) (f_X7_out a0 0 ((pN_rows S) - 1))).2) else (0, (f_X7_throwing S (f_X7_out a1 0 2) (f_X7_out a0 0 ((pN_rows S) - 1))).2))

set_option maxHeartbeats 4000000 in
set_option maxRecDepth 100000 in
theorem c_X7_traced (l : Launch) (D : va_G) (aN aIs aKd aNu aSg aVl aTs aTc : Nat) (cJ cI cZ : ClassId) (S : NS) (a0 : Int32) (a1 : Int32) (hI : n_ok (pN_rows S) S) (h64 : vp_in (pN_rows S) 65) : q_muL l yX7_traced wsX7_traced ({ frames := 2, cells := 0, slots := 0, locals := 48 }) D [(cJ, .long), (cI, .int), (cZ, .boolean)] (wN aN aIs aKd aNu aSg aVl aTs aTc cJ cI cZ S) [.ref aN, .int a0, .int a1] (fun r u => r = (f_X7_traced S a0 a1).1 ∧ u = (f_X7_traced S a0 a1).2) (fun u => (wN aN aIs aKd aNu aSg aVl aTs aTc cJ cI cZ u)) := by
  refine q_muL_of (cc := cX7_traced) (maxL := 3) (ret := (some .long)) (plainFor_of_name (by decide)) rfl (Nat.le_of_ble_eq_true rfl) ?_
  intro p e s m below meth c ls A hx hb hr hml hown hts hlocks hP hK hD hA hS hl
  have hown : s.vm.findClass RX7 = some m.cls := hown
  have hl : lv_has ls 3 [(0, .ref aN), (1, .int a0), (2, .int a1)] := hl
  have hfix : CallFix p m c cX7_traced 3 s [.ref aN, .int a0, .int a1].toArray wsX7_traced RX7 := ⟨hx, hb, hml, hown, hts⟩
  have hin4 : ∀ w ∈ wsX70, w ∈ wsX7_traced := by decide +kernel
  refine lv_aload_n hx hb dX7_traced_0 rfl (lv_at hl 0 rfl) ?_
  refine lv_iload_n hx hb dX7_traced_1 rfl (lv_at hl 2 rfl) ?_
  refine lv_iconst (v := 0) hx hb dX7_traced_2 (by decide) ?_
  refine lv_iconst (v := 2) hx hb dX7_traced_3 (by decide) ?_
  refine q_callSi (As := [.int a1, .int 0, .int 2]) (rest := [.ref aN]) (c_X7_out l D a1 0 2) hfix (va_cwS 3 hts gX7_traced_X7_out rfl rfl rfl (by decide +kernel) ⟨Nat.le_of_ble_eq_true rfl, Nat.le_of_ble_eq_true rfl⟩) rfl hl.1 rfl (Nat.le_of_ble_eq_true rfl) ⟨Nat.zero_le _, Nat.zero_le _⟩ hP hK hS hA [] [] rfl rfl dX7_traced_4 (fun H locs hP hS => ?_)
  refine lv_iload_n hx hb dX7_traced_7 rfl (lv_at hl 1 rfl) ?_
  refine lv_iconst (v := 0) hx hb dX7_traced_8 (by decide) ?_
  refine lv_aload_n hx hb dX7_traced_9 rfl (lv_at hl 0 rfl) ?_
  refine va_get (D := D) (ci := 4) (v := .int (pN_rows S)) (C := RX7) (T := TX7) (N := 15) hx hb hts hin4 hown hK hP 0 rfl rfl 12 (by decide) (hts (.fieldLink RX7 184 "FieldTraceModel" "rows" "I") (by decide +kernel)) (fun _ h9 => h9) rfl dX7_traced_10 ?_
  refine lv_iconst (v := 1) hx hb dX7_traced_13 (by decide) ?_
  refine lv_isub hx hb dX7_traced_14 ?_
  refine q_callSi (As := [.int a0, .int 0, .int ((pN_rows S) - 1)]) (rest := [.int (f_X7_out a1 0 2), .ref aN]) (c_X7_out l D a0 0 ((pN_rows S) - 1)) hfix (va_cwS 3 hts gX7_traced_X7_out rfl rfl rfl (by decide +kernel) ⟨Nat.le_of_ble_eq_true rfl, Nat.le_of_ble_eq_true rfl⟩) rfl hl.1 rfl (Nat.le_of_ble_eq_true rfl) ⟨Nat.zero_le _, Nat.zero_le _⟩ hP hK hS hA [] [] rfl rfl dX7_traced_15 (fun H locs hP hS => ?_)
  refine q_callMi1 (As := [.int (f_X7_out a1 0 2), .int (f_X7_out a0 0 ((pN_rows S) - 1))]) (rest := []) (wr := []) (Wn := (fun u => (wN aN aIs aKd aNu aSg aVl aTs aTc cJ cI cZ u))) (q0 := 0) (ci := 4) (C := RX7) (c_X7_throwing l D aN aIs aKd aNu aSg aVl aTs aTc cJ cI cZ S (f_X7_out a1 0 2) (f_X7_out a0 0 ((pN_rows S) - 1))) hfix (cwV 2 hts gX7_traced_X7_throwing rfl rfl rfl (by decide +kernel) ⟨Nat.le_of_ble_eq_true rfl, Nat.le_of_ble_eq_true rfl⟩) rfl hl.1 rfl (Nat.le_of_ble_eq_true rfl) ⟨Nat.zero_le _, Nat.zero_le _⟩ hP hK hD hS hA [0, 1, 2, 3, 4, 5, 6, 7] [] [0, 1, 2, 3, 4, 5, 6, 7] [0, 1, 2] rfl rfl rfl (by decide) (by decide) (by decide) (by decide) (fun _ => rfl) (fun _ => rfl) rfl rfl rfl rfl dX7_traced_18 (fun H locs hP hD hS => ?_)
  have hP : va_P D vwCl (wN aN aIs aKd aNu aSg aVl aTs aTc cJ cI cZ (f_X7_throwing S (f_X7_out a1 0 2) (f_X7_out a0 0 ((pN_rows S) - 1))).2) H := hP
  have hD : va_D A (wN aN aIs aKd aNu aSg aVl aTs aTc cJ cI cZ (f_X7_throwing S (f_X7_out a1 0 2) (f_X7_out a0 0 ((pN_rows S) - 1))).2) := hD
  refine lv_if_eq (tgt := 26) hx hb dX7_traced_21 (by decide) (fun c1 => ?_) (fun c1 => ?_)
  · refine lv_aload_n hx hb dX7_traced_26 rfl (lv_at hl 0 rfl) ?_
    refine lv_aload_n hx hb dX7_traced_27 rfl (lv_at hl 0 rfl) ?_
    refine va_get (D := D) (ci := 4) (v := .ref aTs) (C := RX7) (T := TX7) (N := 15) hx hb hts hin4 hown hK hP 0 rfl rfl 13 (by decide) (hts (.fieldLink RX7 27 "FieldTraceModel" "traceSegment" "[I") (by decide +kernel)) (fun _ h9 => h9) rfl dX7_traced_28 ?_
    refine lv_iconst (v := 3) hx hb dX7_traced_31 (by decide) ?_
    refine lv_iload_n hx hb dX7_traced_32 rfl (lv_at hl 1 rfl) ?_
    refine lv_imul hx hb dX7_traced_33 ?_
    refine lv_iload_n hx hb dX7_traced_34 rfl (lv_at hl 2 rfl) ?_
    refine lv_iadd hx hb dX7_traced_35 ?_
    refine va_iald hx hb hK hP 6 1 rfl rfl (n_trx (n_thr0 c1).1 (n_thr0 c1).2 h64) dX7_traced_36 ?_
    refine lv_aload_n hx hb dX7_traced_37 rfl (lv_at hl 0 rfl) ?_
    refine va_get (D := D) (ci := 4) (v := .ref aTc) (C := RX7) (T := TX7) (N := 15) hx hb hts hin4 hown hK hP 0 rfl rfl 14 (by decide) (hts (.fieldLink RX7 30 "FieldTraceModel" "traceCell" "[J") (by decide +kernel)) (fun _ h9 => h9) rfl dX7_traced_38 ?_
    refine lv_iconst (v := 3) hx hb dX7_traced_41 (by decide) ?_
    refine lv_iload_n hx hb dX7_traced_42 rfl (lv_at hl 1 rfl) ?_
    refine lv_imul hx hb dX7_traced_43 ?_
    refine lv_iload_n hx hb dX7_traced_44 rfl (lv_at hl 2 rfl) ?_
    refine lv_iadd hx hb dX7_traced_45 ?_
    refine va_lald hx hb hK hP 7 0 rfl rfl (n_trx (n_thr0 c1).1 (n_thr0 c1).2 h64) dX7_traced_46 ?_
    refine q_callVl (As := [.int ((pN_traceSegment (f_X7_throwing S (f_X7_out a1 0 2) (f_X7_out a0 0 ((pN_rows S) - 1))).2) ((3 * a0) + a1).toNatClampNeg), .long ((pN_traceCell (f_X7_throwing S (f_X7_out a1 0 2) (f_X7_out a0 0 ((pN_rows S) - 1))).2) ((3 * a0) + a1).toNatClampNeg)]) (rest := []) (q0 := 0) (ci := 4) (C := RX7) (c_X7_moved l D aN aIs aKd aNu aSg aVl aTs aTc cJ cI cZ ((f_X7_throwing S (f_X7_out a1 0 2) (f_X7_out a0 0 ((pN_rows S) - 1))).2) ((pN_traceSegment (f_X7_throwing S (f_X7_out a1 0 2) (f_X7_out a0 0 ((pN_rows S) - 1))).2) ((3 * a0) + a1).toNatClampNeg) ((pN_traceCell (f_X7_throwing S (f_X7_out a1 0 2) (f_X7_out a0 0 ((pN_rows S) - 1))).2) ((3 * a0) + a1).toNatClampNeg) (n_le6 ((ok_X7_throwing hI).2.2.2.1 _))) hfix (cwV 2 hts gX7_traced_X7_moved rfl rfl rfl (by decide +kernel) ⟨Nat.le_of_ble_eq_true rfl, Nat.le_of_ble_eq_true rfl⟩) rfl hl.1 rfl (Nat.le_of_ble_eq_true rfl) ⟨Nat.zero_le _, Nat.zero_le _⟩ hP hK hS hA [0, 1, 2, 3, 4, 5, 6, 7] [0, 1, 2] rfl rfl rfl rfl rfl dX7_traced_47 (fun H locs hP hS => ?_)
    exact q_ml ((f_X7_throwing S (f_X7_out a1 0 2) (f_X7_out a0 0 ((pN_rows S) - 1))).2) hx hb hr hlocks hP hD hS (q_pair (by rw [f_X7_traced, if_pos c1])) dX7_traced_50
  · refine lv_lconst (v := 0) hx hb dX7_traced_24 (by decide) ?_
    exact q_ml ((f_X7_throwing S (f_X7_out a1 0 2) (f_X7_out a0 0 ((pN_rows S) - 1))).2) hx hb hr hlocks hP hD hS (q_pair (by rw [f_X7_traced, if_neg c1])) dX7_traced_25

def f_X7_begins (S : NS) (a0 : Int32) : Int32 × NS :=
  (if ((f_X7_throwing S (f_X7_out a0 1 6) 0).1) = 0 then ((f_X7_beginOf (f_X7_throwing S (f_X7_out a0 1 6) 0).2 a0), (f_X7_throwing S (f_X7_out a0 1 6) 0).2) else (0, (f_X7_throwing S (f_X7_out a0 1 6) 0).2))

set_option maxHeartbeats 4000000 in
set_option maxRecDepth 100000 in
theorem c_X7_begins (l : Launch) (D : va_G) (aN aIs aKd aNu aSg aVl aTs aTc : Nat) (cJ cI cZ : ClassId) (S : NS) (a0 : Int32) : q_muI l yX7_begins wsX7_begins ({ frames := 1, cells := 0, slots := 0, locals := 25 }) D [(cJ, .long), (cI, .int), (cZ, .boolean)] (wN aN aIs aKd aNu aSg aVl aTs aTc cJ cI cZ S) [.ref aN, .int a0] (fun r u => r = (f_X7_begins S a0).1 ∧ u = (f_X7_begins S a0).2) (fun u => (wN aN aIs aKd aNu aSg aVl aTs aTc cJ cI cZ u)) := by
  refine q_muI_of (cc := cX7_begins) (maxL := 2) (ret := (some .int)) (plainFor_of_name (by decide)) rfl (Nat.le_of_ble_eq_true rfl) ?_
  intro p e s m below meth c ls A hx hb hr hml hown hts hlocks hP hK hD hA hS hl
  have hown : s.vm.findClass RX7 = some m.cls := hown
  have hl : lv_has ls 2 [(0, .ref aN), (1, .int a0)] := hl
  have hfix : CallFix p m c cX7_begins 2 s [.ref aN, .int a0].toArray wsX7_begins RX7 := ⟨hx, hb, hml, hown, hts⟩
  refine lv_aload_n hx hb dX7_begins_0 rfl (lv_at hl 0 rfl) ?_
  refine lv_iload_n hx hb dX7_begins_1 rfl (lv_at hl 1 rfl) ?_
  refine lv_iconst (v := 1) hx hb dX7_begins_2 (by decide) ?_
  refine lv_bipush (v := 6) hx hb dX7_begins_3 (by decide) ?_
  refine q_callSi (As := [.int a0, .int 1, .int 6]) (rest := [.ref aN]) (c_X7_out l D a0 1 6) hfix (va_cwS 3 hts gX7_begins_X7_out rfl rfl rfl (by decide +kernel) ⟨Nat.le_of_ble_eq_true rfl, Nat.le_of_ble_eq_true rfl⟩) rfl hl.1 rfl (Nat.le_of_ble_eq_true rfl) ⟨Nat.zero_le _, Nat.zero_le _⟩ hP hK hS hA [] [] rfl rfl dX7_begins_5 (fun H locs hP hS => ?_)
  refine lv_iconst (v := 0) hx hb dX7_begins_8 (by decide) ?_
  refine q_callMi1 (As := [.int (f_X7_out a0 1 6), .int 0]) (rest := []) (wr := []) (Wn := (fun u => (wN aN aIs aKd aNu aSg aVl aTs aTc cJ cI cZ u))) (q0 := 0) (ci := 4) (C := RX7) (c_X7_throwing l D aN aIs aKd aNu aSg aVl aTs aTc cJ cI cZ S (f_X7_out a0 1 6) 0) hfix (cwV 2 hts gX7_begins_X7_throwing rfl rfl rfl (by decide +kernel) ⟨Nat.le_of_ble_eq_true rfl, Nat.le_of_ble_eq_true rfl⟩) rfl hl.1 rfl (Nat.le_of_ble_eq_true rfl) ⟨Nat.zero_le _, Nat.zero_le _⟩ hP hK hD hS hA [0, 1, 2, 3, 4, 5, 6, 7] [] [0, 1, 2, 3, 4, 5, 6, 7] [0, 1, 2] rfl rfl rfl (by decide) (by decide) (by decide) (by decide) (fun _ => rfl) (fun _ => rfl) rfl rfl rfl rfl dX7_begins_9 (fun H locs hP hD hS => ?_)
  have hP : va_P D vwCl (wN aN aIs aKd aNu aSg aVl aTs aTc cJ cI cZ (f_X7_throwing S (f_X7_out a0 1 6) 0).2) H := hP
  have hD : va_D A (wN aN aIs aKd aNu aSg aVl aTs aTc cJ cI cZ (f_X7_throwing S (f_X7_out a0 1 6) 0).2) := hD
  refine lv_if_eq (tgt := 19) hx hb dX7_begins_12 (by decide) (fun c1 => ?_) (fun c1 => ?_)
  · refine lv_aload_n hx hb dX7_begins_19 rfl (lv_at hl 0 rfl) ?_
    refine lv_iload_n hx hb dX7_begins_20 rfl (lv_at hl 1 rfl) ?_
    refine q_callVi (As := [.int a0]) (rest := []) (q0 := 0) (ci := 4) (C := RX7) (c_X7_beginOf l D aN aIs aKd aNu aSg aVl aTs aTc cJ cI cZ ((f_X7_throwing S (f_X7_out a0 1 6) 0).2) a0 ((n_out0 (n_thr0 c1).1).2)) hfix (cwV 1 hts gX7_begins_X7_beginOf rfl rfl rfl (by decide +kernel) ⟨Nat.le_of_ble_eq_true rfl, Nat.le_of_ble_eq_true rfl⟩) rfl hl.1 rfl (Nat.le_of_ble_eq_true rfl) ⟨Nat.zero_le _, Nat.zero_le _⟩ hP hK hS hA [0, 1, 2, 3, 4, 5, 6, 7] [0, 1, 2] rfl rfl rfl rfl rfl dX7_begins_21 (fun H locs hP hS => ?_)
    exact q_mi ((f_X7_throwing S (f_X7_out a0 1 6) 0).2) hx hb hr hlocks hP hD hS (q_pair (by rw [f_X7_begins, if_pos c1])) dX7_begins_24
  · refine lv_iconst (v := 0) hx hb dX7_begins_15 (by decide) ?_
    refine lv_goto (tgt := 24) hx hb dX7_begins_16 (by decide) ?_
    exact q_mi ((f_X7_throwing S (f_X7_out a0 1 6) 0).2) hx hb hr hlocks hP hD hS (q_pair (by rw [f_X7_begins, if_neg c1])) dX7_begins_24

def f_X7_reckon_J31 (S : NS) (a0 : Int32) (a1 : Int64) (a2 : Int64) (t0_31 : Int32) : Int64 × NS :=
  (if ((f_X7_throwing S (f_X7_out a0 0 3) t0_31).1) = 0 then ((f_X7_operate a0 (f_X7_modulo a1) (f_X7_modulo a2)), (f_X7_throwing S (f_X7_out a0 0 3) t0_31).2) else (0, (f_X7_throwing S (f_X7_out a0 0 3) t0_31).2))

def f_X7_reckon_J30 (S : NS) (a0 : Int32) (a1 : Int64) (a2 : Int64) : Int64 × NS :=
  (f_X7_reckon_J31 S a0 a1 a2 0)

def f_X7_reckon (S : NS) (a0 : Int32) (a1 : Int64) (a2 : Int64) : Int64 × NS :=
  (if a0 = 3 then (if (f_X7_modulo a2) = 0 then (f_X7_reckon_J31 S a0 a1 a2 1) else (f_X7_reckon_J30 S a0 a1 a2)) else (f_X7_reckon_J30 S a0 a1 a2))

set_option maxHeartbeats 4000000 in
set_option maxRecDepth 100000 in
theorem c_X7_reckon (l : Launch) (D : va_G) (aN aIs aKd aNu aSg aVl aTs aTc : Nat) (cJ cI cZ : ClassId) (S : NS) (a0 : Int32) (a1 : Int64) (a2 : Int64) : q_muL l yX7_reckon wsX7_reckon ({ frames := 3, cells := 0, slots := 0, locals := 85 }) D [(cJ, .long), (cI, .int), (cZ, .boolean)] (wN aN aIs aKd aNu aSg aVl aTs aTc cJ cI cZ S) [.ref aN, .int a0, .long a1, .long a2] (fun r u => r = (f_X7_reckon S a0 a1 a2).1 ∧ u = (f_X7_reckon S a0 a1 a2).2) (fun u => (wN aN aIs aKd aNu aSg aVl aTs aTc cJ cI cZ u)) := by
  refine q_muL_of (cc := cX7_reckon) (maxL := 7) (ret := (some .long)) (plainFor_of_name (by decide)) rfl (Nat.le_of_ble_eq_true rfl) ?_
  intro p e s m below meth c ls A hx hb hr hml hown hts hlocks hP hK hD hA hS hl
  have hown : s.vm.findClass RX7 = some m.cls := hown
  have hl : lv_has ls 7 [(0, .ref aN), (1, .int a0), (2, .long a1), (4, .long a2)] := hl
  have hfix : CallFix p m c cX7_reckon 7 s [.ref aN, .int a0, .long a1, .long a2].toArray wsX7_reckon RX7 := ⟨hx, hb, hml, hown, hts⟩
  refine lv_iload_n hx hb dX7_reckon_0 rfl (lv_at hl 1 rfl) ?_
  refine lv_iconst (v := 0) hx hb dX7_reckon_1 (by decide) ?_
  refine lv_iconst (v := 3) hx hb dX7_reckon_2 (by decide) ?_
  refine q_callSi (As := [.int a0, .int 0, .int 3]) (rest := []) (c_X7_out l D a0 0 3) hfix (va_cwS 3 hts gX7_reckon_X7_out rfl rfl rfl (by decide +kernel) ⟨Nat.le_of_ble_eq_true rfl, Nat.le_of_ble_eq_true rfl⟩) rfl hl.1 rfl (Nat.le_of_ble_eq_true rfl) ⟨Nat.zero_le _, Nat.zero_le _⟩ hP hK hS hA [] [] rfl rfl dX7_reckon_3 (fun H locs hP hS => ?_)
  refine lv_istore (lv' := [(6, .int (f_X7_out a0 0 3)), (0, .ref aN), (1, .int a0), (2, .long a1), (4, .long a2)]) hx hb dX7_reckon_6 hl (by decide) rfl (fun ls hl => ?_)
  refine lv_aload_n hx hb dX7_reckon_8 rfl (lv_at hl 1 rfl) ?_
  refine lv_iload hx hb dX7_reckon_9 (lv_at hl 0 rfl) ?_
  refine lv_iload_n hx hb dX7_reckon_11 rfl (lv_at hl 2 rfl) ?_
  refine lv_iconst (v := 3) hx hb dX7_reckon_12 (by decide) ?_
  have kJ31 : ∀ (t0_31 : Int32) (H : Heap) (locs : List Loc) (ls : Array Slot), (t0_31 = 0 ∨ t0_31 = 1) → (f_X7_reckon S a0 a1 a2) = (f_X7_reckon_J31 S a0 a1 a2 t0_31) → va_P D vwCl (wN aN aIs aKd aNu aSg aVl aTs aTc cJ cI cZ S) H → va_D A (wN aN aIs aKd aNu aSg aVl aTs aTc cJ cI cZ S) → va_S A s.heap H locs → lv_has ls 7 [(0, .ref aN), (1, .int a0), (2, .long a1), (4, .long a2), (6, .int (f_X7_out a0 0 3))] → W p l e ({ frames := 3, cells := 0, slots := 0, locals := 85 }) s m [.ref aN, .int a0, .long a1, .long a2].toArray below meth c H locs 0 0 (MQ below (va_Ql (fun r u => r = (f_X7_reckon S a0 a1 a2).1 ∧ u = (f_X7_reckon S a0 a1 a2).2) (fun u t => va_P D vwCl ((fun u => (wN aN aIs aKd aNu aSg aVl aTs aTc cJ cI cZ u)) u) t.heap ∧ va_D A ((fun u => (wN aN aIs aKd aNu aSg aVl aTs aTc cJ cI cZ u)) u)) A) [.ref aN, .int a0, .long a1, .long a2].toArray s 0 0 A) (F0 m 31 ls [.int t0_31, .int (f_X7_out a0 0 3), .ref aN]) := by
    intro t0_31 H locs ls hb_t0_31 hJ31 hP hD hS hl
    refine q_callMi1 (As := [.int (f_X7_out a0 0 3), .int t0_31]) (rest := []) (wr := []) (Wn := (fun u => (wN aN aIs aKd aNu aSg aVl aTs aTc cJ cI cZ u))) (q0 := 0) (ci := 4) (C := RX7) (c_X7_throwing l D aN aIs aKd aNu aSg aVl aTs aTc cJ cI cZ S (f_X7_out a0 0 3) t0_31) hfix (cwV 2 hts gX7_reckon_X7_throwing rfl rfl rfl (by decide +kernel) ⟨Nat.le_of_ble_eq_true rfl, Nat.le_of_ble_eq_true rfl⟩) rfl hl.1 rfl (Nat.le_of_ble_eq_true rfl) ⟨Nat.zero_le _, Nat.zero_le _⟩ hP hK hD hS hA [0, 1, 2, 3, 4, 5, 6, 7] [] [0, 1, 2, 3, 4, 5, 6, 7] [0, 1, 2] rfl rfl rfl (by decide) (by decide) (by decide) (by decide) (fun _ => rfl) (fun _ => rfl) rfl rfl rfl rfl dX7_reckon_31 (fun H locs hP hD hS => ?_)
    have hP : va_P D vwCl (wN aN aIs aKd aNu aSg aVl aTs aTc cJ cI cZ (f_X7_throwing S (f_X7_out a0 0 3) t0_31).2) H := hP
    have hD : va_D A (wN aN aIs aKd aNu aSg aVl aTs aTc cJ cI cZ (f_X7_throwing S (f_X7_out a0 0 3) t0_31).2) := hD
    refine lv_if_eq (tgt := 39) hx hb dX7_reckon_34 (by decide) (fun c3 => ?_) (fun c3 => ?_)
    · refine lv_iload_n hx hb dX7_reckon_39 rfl (lv_at hl 1 rfl) ?_
      refine lv_lload_n hx hb dX7_reckon_40 rfl (lv_at hl 2 rfl) ?_
      refine q_callSl (As := [.long a1]) (rest := [.int a0]) (c_X7_modulo l D a1) hfix (va_cwS 1 hts gX7_reckon_X7_modulo rfl rfl rfl (by decide +kernel) ⟨Nat.le_of_ble_eq_true rfl, Nat.le_of_ble_eq_true rfl⟩) rfl hl.1 rfl (Nat.le_of_ble_eq_true rfl) ⟨Nat.zero_le _, Nat.zero_le _⟩ hP hK hS hA [] [] rfl rfl dX7_reckon_41 (fun H locs hP hS => ?_)
      refine lv_lload hx hb dX7_reckon_44 (lv_at hl 3 rfl) ?_
      refine q_callSl (As := [.long a2]) (rest := [.long (f_X7_modulo a1), .int a0]) (c_X7_modulo l D a2) hfix (va_cwS 1 hts gX7_reckon_X7_modulo rfl rfl rfl (by decide +kernel) ⟨Nat.le_of_ble_eq_true rfl, Nat.le_of_ble_eq_true rfl⟩) rfl hl.1 rfl (Nat.le_of_ble_eq_true rfl) ⟨Nat.zero_le _, Nat.zero_le _⟩ hP hK hS hA [] [] rfl rfl dX7_reckon_46 (fun H locs hP hS => ?_)
      refine q_callSl (As := [.int a0, .long (f_X7_modulo a1), .long (f_X7_modulo a2)]) (rest := []) (c_X7_operate l D a0 (f_X7_modulo a1) (f_X7_modulo a2)) hfix (va_cwS 3 hts gX7_reckon_X7_operate rfl rfl rfl (by decide +kernel) ⟨Nat.le_of_ble_eq_true rfl, Nat.le_of_ble_eq_true rfl⟩) rfl hl.1 rfl (Nat.le_of_ble_eq_true rfl) ⟨Nat.zero_le _, Nat.zero_le _⟩ hP hK hS hA [] [] rfl rfl dX7_reckon_49 (fun H locs hP hS => ?_)
      exact q_ml ((f_X7_throwing S (f_X7_out a0 0 3) t0_31).2) hx hb hr hlocks hP hD hS (q_pair (by rw [hJ31, f_X7_reckon_J31, if_pos c3])) dX7_reckon_52
    · refine lv_lconst (v := 0) hx hb dX7_reckon_37 (by decide) ?_
      exact q_ml ((f_X7_throwing S (f_X7_out a0 0 3) t0_31).2) hx hb hr hlocks hP hD hS (q_pair (by rw [hJ31, f_X7_reckon_J31, if_neg c3])) dX7_reckon_38
  have kJ30 : ∀ (H : Heap) (locs : List Loc) (ls : Array Slot), (f_X7_reckon S a0 a1 a2) = (f_X7_reckon_J30 S a0 a1 a2) → va_P D vwCl (wN aN aIs aKd aNu aSg aVl aTs aTc cJ cI cZ S) H → va_D A (wN aN aIs aKd aNu aSg aVl aTs aTc cJ cI cZ S) → va_S A s.heap H locs → lv_has ls 7 [(0, .ref aN), (1, .int a0), (2, .long a1), (4, .long a2), (6, .int (f_X7_out a0 0 3))] → W p l e ({ frames := 3, cells := 0, slots := 0, locals := 85 }) s m [.ref aN, .int a0, .long a1, .long a2].toArray below meth c H locs 0 0 (MQ below (va_Ql (fun r u => r = (f_X7_reckon S a0 a1 a2).1 ∧ u = (f_X7_reckon S a0 a1 a2).2) (fun u t => va_P D vwCl ((fun u => (wN aN aIs aKd aNu aSg aVl aTs aTc cJ cI cZ u)) u) t.heap ∧ va_D A ((fun u => (wN aN aIs aKd aNu aSg aVl aTs aTc cJ cI cZ u)) u)) A) [.ref aN, .int a0, .long a1, .long a2].toArray s 0 0 A) (F0 m 30 ls [.int (f_X7_out a0 0 3), .ref aN]) := by
    intro H locs ls hJ30 hP hD hS hl
    refine lv_iconst (v := 0) hx hb dX7_reckon_30 (by decide) ?_
    exact kJ31 0 _ _ _ (Or.inl rfl) (by rw [hJ30, f_X7_reckon_J30]) hP hD hS (lv_sub hl [0, 1, 2, 3, 4] rfl)
  refine lv_icmp_ne (tgt := 30) hx hb dX7_reckon_13 (by decide) (fun c1 => ?_) (fun c1 => ?_)
  · exact kJ30 _ _ _ (by rw [f_X7_reckon, if_neg c1]) hP hD hS (lv_sub hl [1, 2, 3, 4, 0] rfl)
  · refine lv_lload hx hb dX7_reckon_16 (lv_at hl 4 rfl) ?_
    refine q_callSl (As := [.long a2]) (rest := [.int (f_X7_out a0 0 3), .ref aN]) (c_X7_modulo l D a2) hfix (va_cwS 1 hts gX7_reckon_X7_modulo rfl rfl rfl (by decide +kernel) ⟨Nat.le_of_ble_eq_true rfl, Nat.le_of_ble_eq_true rfl⟩) rfl hl.1 rfl (Nat.le_of_ble_eq_true rfl) ⟨Nat.zero_le _, Nat.zero_le _⟩ hP hK hS hA [] [] rfl rfl dX7_reckon_18 (fun H locs hP hS => ?_)
    refine lv_lconst (v := 0) hx hb dX7_reckon_21 (by decide) ?_
    refine q_ne (tgt := 30) hx hb dX7_reckon_22 dX7_reckon_23 (by decide) (fun c2 => ?_) (fun c2 => ?_)
    · exact kJ30 _ _ _ (by rw [f_X7_reckon, if_pos c1, if_neg c2]) hP hD hS (lv_sub hl [1, 2, 3, 4, 0] rfl)
    · refine lv_iconst (v := 1) hx hb dX7_reckon_26 (by decide) ?_
      refine lv_goto (tgt := 31) hx hb dX7_reckon_27 (by decide) ?_
      exact kJ31 1 _ _ _ (Or.inr rfl) (by rw [f_X7_reckon, if_pos c1, if_pos c2]) hP hD hS (lv_sub hl [1, 2, 3, 4, 0] rfl)

