
/-! where the segments begin -/
def lnS (S : NS) (j : Nat) : Nat → Nat
  | 0 => 0
  | c + 1 => if pN_isSet S (64 * j + c) = 0 then lnS S j c else c + 1
theorem lnS_le (S : NS) (j : Nat) : ∀ c, lnS S j c ≤ c
  | 0 => Nat.le_refl _
  | c + 1 => by
    rw [lnS]
    split
    · exact Nat.le_succ_of_le (lnS_le S j c)
    · exact Nat.le_refl _
def boS (S : NS) : Nat → Nat
  | 0 => 1
  | j + 1 => if j = 0 then 1 else boS S j + lnS S j 64
theorem boS_1 (S : NS) : boS S 1 = 1 := rfl
theorem boS_s (S : NS) {j : Nat} (h : 1 ≤ j) : boS S (j + 1) = boS S j + lnS S j 64 := by rw [boS, if_neg (by omega)]
theorem boS_le (S : NS) : ∀ j, boS S j ≤ 1 + 64 * j
  | 0 => Nat.le_refl _
  | j + 1 => by
    rw [boS]
    split
    · omega
    · have := boS_le S j
      have := lnS_le S j 64
      omega
theorem bo_L15 (S : NS) {j : Nat} (hj : j ≤ 5) (v2 : Int32) (k : Int32 → Int32 → Int32) : ∀ (fu i : Nat), i ≤ 64 → 64 - i < fu → f_X7_beginOf_L15 S v2 (nI j) k fu (nI (lnS S j i)) (nI i) = k (v2 + nI (lnS S j 64)) (nI (j + 1))
  | 0, _, _, h => absurd h (Nat.not_lt_zero _)
  | fu + 1, i, hi, hf => by
    rw [f_X7_beginOf_L15]
    rcases Nat.lt_or_ge i 64 with h | h
    · rw [if_neg (show ¬ (64 : Int32) ≤ nI i from nI_ge (b := 64) h (by decide)), show (64 : Int32) * nI j + nI i = nI (64 * j + i) by rw [show (64 : Int32) = nI 64 from rfl, pk_mul, nI_add], nI_clamp (by omega)]
      unfold f_X7_beginOf_J46
      rw [nI_1]
      have ih := bo_L15 S hj v2 k fu (i + 1) (by omega) (by omega)
      rw [lnS] at ih
      by_cases h0 : pN_isSet S (64 * j + i) = 0
      · rw [if_pos h0]
        rw [if_pos h0] at ih
        exact ih
      · rw [if_neg h0]
        rw [if_neg h0] at ih
        exact ih
    · have : i = 64 := by omega
      subst this
      rw [if_pos (show (64 : Int32) ≤ nI 64 by decide), nI_1]
theorem bo_L4 (S : NS) {t : Nat} (ht : t ≤ 6) : ∀ (fu j : Nat), 1 ≤ j → j ≤ t → t - j < fu → f_X7_beginOf_L4 S (nI t) fu (nI (boS S j)) (nI j) = nI (boS S t)
  | 0, _, _, _, h => absurd h (Nat.not_lt_zero _)
  | fu + 1, j, h1, h2, hf => by
    rw [f_X7_beginOf_L4]
    rcases Nat.lt_or_ge j t with h | h
    · rw [if_neg (nI_ge h (by omega))]
      have r := bo_L15 S (j := j) (by omega) (nI (boS S j)) (f_X7_beginOf_L4 S (nI t) fu) 65 0 (by decide) (by decide)
      rw [lnS, nI_0] at r
      rw [r, nI_add, ← boS_s S h1]
      exact bo_L4 S ht fu (j + 1) (by omega) h (by omega)
    · have : j = t := by omega
      subst this
      rw [if_pos (nI_le (Nat.le_refl _) (by omega))]
theorem bo_eq (S : NS) {t : Nat} (h1 : 1 ≤ t) (ht : t ≤ 6) : f_X7_beginOf S (nI t) = nI (boS S t) := by
  unfold f_X7_beginOf
  exact bo_L4 S ht 7 1 (by decide) h1 (by omega)
def n_rel (T : NS) (a v : Int32) : Prop := ∃ s q : Nat, 1 ≤ s ∧ s ≤ 5 ∧ v = nI s ∧ a = nI q ∧ boS T s ≤ q ∧ q < boS T 6
theorem n_rel0 {T : NS} {a b : Int32} (hb : b = f_X7_beginOf T 6) (h : f_X7_out a 1 (b - 1) = 0) : n_rel T a 1 := by
  have hB : b = nI (boS T 6) := by rw [hb]; exact bo_eq T (t := 6) (by decide) (by decide)
  have hl := boS_le T 6
  have h0 : 1 ≤ boS T 6 := by rw [boS_s T (j := 5) (by decide), boS_s T (j := 4) (by decide), boS_s T (j := 3) (by decide), boS_s T (j := 2) (by decide), boS_s T (j := 1) (by decide), boS_1]; omega
  obtain ⟨g1, g2⟩ := n_out0 h
  rw [hB, show (1 : Int32) = nI 1 from rfl, pk_sub h0] at g2
  rw [Int32.le_iff_toInt_le] at g1 g2
  rw [nI_toInt (by omega)] at g2
  rw [show (1 : Int32).toInt = 1 from rfl] at g1
  obtain ⟨q, hq, rfl⟩ := vp_in_of (x := a) (n := 1000) (vp_in_iff.mpr ⟨by omega, by omega⟩) (by decide)
  rw [nI_toInt (by omega)] at g1 g2
  exact ⟨1, q, by decide, by decide, rfl, rfl, by rw [boS_1]; omega, by omega⟩
theorem n_relh {T : NS} {a v : Int32} (h : n_rel T a v) : v + 1 ≤ 6 ∧ v ≤ 6 := by
  obtain ⟨s, q, h1, h2, rfl, -⟩ := h
  rw [nI_1]
  exact ⟨nI_le (b := 6) (by omega) (by decide), nI_le (b := 6) (by omega) (by decide)⟩
theorem n_rel1 {T : NS} {a v : Int32} (h : n_rel T a v) (hc : ¬ a < f_X7_beginOf T (v + 1)) : n_rel T a (v + 1) := by
  obtain ⟨s, q, h1, h2, rfl, rfl, h3, h4⟩ := h
  have hl := boS_le T (s + 1)
  have hl6 := boS_le T 6
  rw [nI_1, bo_eq T (by omega) (by omega), nI_ltI (by omega) (by omega)] at hc
  rw [nI_1]
  rcases Nat.lt_or_ge s 5 with h5 | h5
  · exact ⟨s + 1, q, by omega, by omega, rfl, rfl, by omega, h4⟩
  · have : s = 5 := by omega
    subst this
    exact absurd h4 hc
theorem n_reld {T : NS} {a v : Int32} {n : Nat} (h : n_rel T a v) (hm : ((6 : Int) - v.toInt).toNat < n + 1) : ((6 : Int) - (v + 1).toInt).toNat < n := by
  obtain ⟨s, q, h1, h2, rfl, -⟩ := h
  rw [nI_toInt (by omega)] at hm
  rw [nI_1, nI_toInt (by omega)]
  omega
theorem n_relix {T : NS} {a v : Int32} (h : n_rel T a v) (hc : a < f_X7_beginOf T (v + 1)) : vp_in ((64 * v + a) - f_X7_beginOf T v) 384 := by
  obtain ⟨s, q, h1, h2, rfl, rfl, h3, h4⟩ := h
  have hl := boS_le T (s + 1)
  have hl6 := boS_le T 6
  have hn := lnS_le T s 64
  rw [nI_1, bo_eq T (by omega) (by omega), nI_ltI (by omega) (by omega), boS_s T h1] at hc
  rw [bo_eq T h1 (by omega), show (64 : Int32) * nI s + nI q = nI (64 * s + q) by rw [show (64 : Int32) = nI 64 from rfl, pk_mul, nI_add], pk_sub (by omega)]
  exact vp_in_nI (by omega) (by decide)
theorem n_relt {S : NS} {a b : Int32} : f_X7_beginOf (f_X7_throwing S a b).2 6 = f_X7_beginOf S 6 := by
  rw [show (6 : Int32) = nI 6 from rfl, bo_eq _ (by decide) (by decide), bo_eq _ (by decide) (by decide)]
  unfold f_X7_throwing
  have e : ∀ t, boS (sN_thrown S t) 6 = boS S 6 := fun t => rfl
  repeat' split
  all_goals exact congrArg nI (e _)

def f_X7_relocated_L25 (S : NS) (a0 : Int32) : Nat → Int32 → Int64 × NS
  | 0, _ => default
  | fu_25 + 1, v2_25 => (if a0 < (f_X7_beginOf (f_X7_throwing S (f_X7_out a0 1 ((f_X7_beginOf S 6) - 1)) 0).2 (v2_25 + 1)) then (if ((pN_isSet (f_X7_throwing S (f_X7_out a0 1 ((f_X7_beginOf S 6) - 1)) 0).2) (((64 * v2_25) + a0) - (f_X7_beginOf (f_X7_throwing S (f_X7_out a0 1 ((f_X7_beginOf S 6) - 1)) 0).2 v2_25)).toNatClampNeg) = 0 then (0, (f_X7_throwing S (f_X7_out a0 1 ((f_X7_beginOf S 6) - 1)) 0).2) else ((f_X7_moved (f_X7_throwing S (f_X7_out a0 1 ((f_X7_beginOf S 6) - 1)) 0).2 ((pN_kind (f_X7_throwing S (f_X7_out a0 1 ((f_X7_beginOf S 6) - 1)) 0).2) (((64 * v2_25) + a0) - (f_X7_beginOf (f_X7_throwing S (f_X7_out a0 1 ((f_X7_beginOf S 6) - 1)) 0).2 v2_25)).toNatClampNeg) ((pN_number (f_X7_throwing S (f_X7_out a0 1 ((f_X7_beginOf S 6) - 1)) 0).2) (((64 * v2_25) + a0) - (f_X7_beginOf (f_X7_throwing S (f_X7_out a0 1 ((f_X7_beginOf S 6) - 1)) 0).2 v2_25)).toNatClampNeg)), (f_X7_throwing S (f_X7_out a0 1 ((f_X7_beginOf S 6) - 1)) 0).2)) else (f_X7_relocated_L25 S a0 fu_25 (v2_25 + 1)))

def f_X7_relocated (S : NS) (a0 : Int32) : Int64 × NS :=
  (if ((f_X7_throwing S (f_X7_out a0 1 ((f_X7_beginOf S 6) - 1)) 0).1) = 0 then (f_X7_relocated_L25 S a0 7 1) else (0, (f_X7_throwing S (f_X7_out a0 1 ((f_X7_beginOf S 6) - 1)) 0).2))

set_option maxHeartbeats 4000000 in
set_option maxRecDepth 100000 in
theorem c_X7_relocated (l : Launch) (D : va_G) (aN aIs aKd aNu aSg aVl aTs aTc : Nat) (cJ cI cZ : ClassId) (S : NS) (a0 : Int32) (hI : n_ok (pN_rows S) S) : q_muL l yX7_relocated wsX7_relocated ({ frames := 2, cells := 0, slots := 0, locals := 48 }) D [(cJ, .long), (cI, .int), (cZ, .boolean)] (wN aN aIs aKd aNu aSg aVl aTs aTc cJ cI cZ S) [.ref aN, .int a0] (fun r u => r = (f_X7_relocated S a0).1 ∧ u = (f_X7_relocated S a0).2) (fun u => (wN aN aIs aKd aNu aSg aVl aTs aTc cJ cI cZ u)) := by
  refine q_muL_of (cc := cX7_relocated) (maxL := 4) (ret := (some .long)) (plainFor_of_name (by decide)) rfl (Nat.le_of_ble_eq_true rfl) ?_
  intro p e s m below meth c ls A hx hb hr hml hown hts hlocks hP hK hD hA hS hl
  have hown : s.vm.findClass RX7 = some m.cls := hown
  have hl : lv_has ls 4 [(0, .ref aN), (1, .int a0)] := hl
  have hfix : CallFix p m c cX7_relocated 4 s [.ref aN, .int a0].toArray wsX7_relocated RX7 := ⟨hx, hb, hml, hown, hts⟩
  have hin4 : ∀ w ∈ wsX70, w ∈ wsX7_relocated := by decide +kernel
  refine lv_aload_n hx hb dX7_relocated_0 rfl (lv_at hl 0 rfl) ?_
  refine lv_iload_n hx hb dX7_relocated_1 rfl (lv_at hl 1 rfl) ?_
  refine lv_iconst (v := 1) hx hb dX7_relocated_2 (by decide) ?_
  refine lv_aload_n hx hb dX7_relocated_3 rfl (lv_at hl 0 rfl) ?_
  refine lv_bipush (v := 6) hx hb dX7_relocated_4 (by decide) ?_
  refine q_callVi (As := [.int 6]) (rest := [.int 1, .int a0, .ref aN]) (q0 := 0) (ci := 4) (C := RX7) (c_X7_beginOf l D aN aIs aKd aNu aSg aVl aTs aTc cJ cI cZ S 6 (by decide)) hfix (cwV 1 hts gX7_relocated_X7_beginOf rfl rfl rfl (by decide +kernel) ⟨Nat.le_of_ble_eq_true rfl, Nat.le_of_ble_eq_true rfl⟩) rfl hl.1 rfl (Nat.le_of_ble_eq_true rfl) ⟨Nat.zero_le _, Nat.zero_le _⟩ hP hK hS hA [0, 1, 2, 3, 4, 5, 6, 7] [0, 1, 2] rfl rfl rfl rfl rfl dX7_relocated_6 (fun H locs hP hS => ?_)
  refine lv_iconst (v := 1) hx hb dX7_relocated_9 (by decide) ?_
  refine lv_isub hx hb dX7_relocated_10 ?_
  refine q_callSi (As := [.int a0, .int 1, .int ((f_X7_beginOf S 6) - 1)]) (rest := [.ref aN]) (c_X7_out l D a0 1 ((f_X7_beginOf S 6) - 1)) hfix (va_cwS 3 hts gX7_relocated_X7_out rfl rfl rfl (by decide +kernel) ⟨Nat.le_of_ble_eq_true rfl, Nat.le_of_ble_eq_true rfl⟩) rfl hl.1 rfl (Nat.le_of_ble_eq_true rfl) ⟨Nat.zero_le _, Nat.zero_le _⟩ hP hK hS hA [] [] rfl rfl dX7_relocated_11 (fun H locs hP hS => ?_)
  refine lv_iconst (v := 0) hx hb dX7_relocated_14 (by decide) ?_
  refine q_callMi1 (As := [.int (f_X7_out a0 1 ((f_X7_beginOf S 6) - 1)), .int 0]) (rest := []) (wr := []) (Wn := (fun u => (wN aN aIs aKd aNu aSg aVl aTs aTc cJ cI cZ u))) (q0 := 0) (ci := 4) (C := RX7) (c_X7_throwing l D aN aIs aKd aNu aSg aVl aTs aTc cJ cI cZ S (f_X7_out a0 1 ((f_X7_beginOf S 6) - 1)) 0) hfix (cwV 2 hts gX7_relocated_X7_throwing rfl rfl rfl (by decide +kernel) ⟨Nat.le_of_ble_eq_true rfl, Nat.le_of_ble_eq_true rfl⟩) rfl hl.1 rfl (Nat.le_of_ble_eq_true rfl) ⟨Nat.zero_le _, Nat.zero_le _⟩ hP hK hD hS hA [0, 1, 2, 3, 4, 5, 6, 7] [] [0, 1, 2, 3, 4, 5, 6, 7] [0, 1, 2] rfl rfl rfl (by decide) (by decide) (by decide) (by decide) (fun _ => rfl) (fun _ => rfl) rfl rfl rfl rfl dX7_relocated_15 (fun H locs hP hD hS => ?_)
  have hP : va_P D vwCl (wN aN aIs aKd aNu aSg aVl aTs aTc cJ cI cZ (f_X7_throwing S (f_X7_out a0 1 ((f_X7_beginOf S 6) - 1)) 0).2) H := hP
  have hD : va_D A (wN aN aIs aKd aNu aSg aVl aTs aTc cJ cI cZ (f_X7_throwing S (f_X7_out a0 1 ((f_X7_beginOf S 6) - 1)) 0).2) := hD
  refine lv_if_eq (tgt := 23) hx hb dX7_relocated_18 (by decide) (fun c1 => ?_) (fun c1 => ?_)
  · refine lv_iconst (v := 1) hx hb dX7_relocated_23 (by decide) ?_
    refine lv_istore_n (lv' := [(2, .int 1), (0, .ref aN), (1, .int a0)]) hx hb dX7_relocated_24 rfl hl (by decide) rfl (fun ls hl => ?_)
    have kL25 : ∀ (fu_25 : Nat) (v2_25 : Int32) (H : Heap) (locs : List Loc) (ls : Array Slot), ((6 : Int) - v2_25.toInt).toNat < fu_25 → n_rel (f_X7_throwing S (f_X7_out a0 1 ((f_X7_beginOf S 6) - 1)) 0).2 a0 v2_25 → (f_X7_relocated S a0) = (f_X7_relocated_L25 S a0 fu_25 v2_25) → va_P D vwCl (wN aN aIs aKd aNu aSg aVl aTs aTc cJ cI cZ (f_X7_throwing S (f_X7_out a0 1 ((f_X7_beginOf S 6) - 1)) 0).2) H → va_D A (wN aN aIs aKd aNu aSg aVl aTs aTc cJ cI cZ (f_X7_throwing S (f_X7_out a0 1 ((f_X7_beginOf S 6) - 1)) 0).2) → va_S A s.heap H locs → lv_has ls 4 [(0, .ref aN), (1, .int a0), (2, .int v2_25)] → W p l e ({ frames := 2, cells := 0, slots := 0, locals := 48 }) s m [.ref aN, .int a0].toArray below meth c H locs 0 0 (MQ below (va_Ql (fun r u => r = (f_X7_relocated S a0).1 ∧ u = (f_X7_relocated S a0).2) (fun u t => va_P D vwCl ((fun u => (wN aN aIs aKd aNu aSg aVl aTs aTc cJ cI cZ u)) u) t.heap ∧ va_D A ((fun u => (wN aN aIs aKd aNu aSg aVl aTs aTc cJ cI cZ u)) u)) A) [.ref aN, .int a0].toArray s 0 0 A) (F0 m 25 ls []) := by
      intro fu_25
      induction fu_25 with
      | zero => intro v2_25 H locs ls hmu; exact absurd hmu (Nat.not_lt_zero _)
      | succ fu_25 ih25 =>
        intro v2_25 H locs ls hmu25 hinv25 hL25 hP hD hS hl
        refine lv_aload_n hx hb dX7_relocated_25 rfl (lv_at hl 0 rfl) ?_
        refine lv_iload_n hx hb dX7_relocated_26 rfl (lv_at hl 2 rfl) ?_
        refine lv_iconst (v := 1) hx hb dX7_relocated_27 (by decide) ?_
        refine lv_iadd hx hb dX7_relocated_28 ?_
        refine q_callVi (As := [.int (v2_25 + 1)]) (rest := []) (q0 := 0) (ci := 4) (C := RX7) (c_X7_beginOf l D aN aIs aKd aNu aSg aVl aTs aTc cJ cI cZ ((f_X7_throwing S (f_X7_out a0 1 ((f_X7_beginOf S 6) - 1)) 0).2) (v2_25 + 1) ((n_relh hinv25).1)) hfix (cwV 1 hts gX7_relocated_X7_beginOf rfl rfl rfl (by decide +kernel) ⟨Nat.le_of_ble_eq_true rfl, Nat.le_of_ble_eq_true rfl⟩) rfl hl.1 rfl (Nat.le_of_ble_eq_true rfl) ⟨Nat.zero_le _, Nat.zero_le _⟩ hP hK hS hA [0, 1, 2, 3, 4, 5, 6, 7] [0, 1, 2] rfl rfl rfl rfl rfl dX7_relocated_29 (fun H locs hP hS => ?_)
        refine lv_iload_n hx hb dX7_relocated_32 rfl (lv_at hl 1 rfl) ?_
        refine lv_icmp_gt (tgt := 42) hx hb dX7_relocated_33 (by decide) (fun c2 => ?_) (fun c2 => ?_)
        · refine lv_bipush (v := 64) hx hb dX7_relocated_42 (by decide) ?_
          refine lv_iload_n hx hb dX7_relocated_44 rfl (lv_at hl 2 rfl) ?_
          refine lv_imul hx hb dX7_relocated_45 ?_
          refine lv_iload_n hx hb dX7_relocated_46 rfl (lv_at hl 1 rfl) ?_
          refine lv_iadd hx hb dX7_relocated_47 ?_
          refine lv_aload_n hx hb dX7_relocated_48 rfl (lv_at hl 0 rfl) ?_
          refine lv_iload_n hx hb dX7_relocated_49 rfl (lv_at hl 2 rfl) ?_
          refine q_callVi (As := [.int v2_25]) (rest := [.int ((64 * v2_25) + a0)]) (q0 := 0) (ci := 4) (C := RX7) (c_X7_beginOf l D aN aIs aKd aNu aSg aVl aTs aTc cJ cI cZ ((f_X7_throwing S (f_X7_out a0 1 ((f_X7_beginOf S 6) - 1)) 0).2) v2_25 ((n_relh hinv25).2)) hfix (cwV 1 hts gX7_relocated_X7_beginOf rfl rfl rfl (by decide +kernel) ⟨Nat.le_of_ble_eq_true rfl, Nat.le_of_ble_eq_true rfl⟩) rfl hl.1 rfl (Nat.le_of_ble_eq_true rfl) ⟨Nat.zero_le _, Nat.zero_le _⟩ hP hK hS hA [0, 1, 2, 3, 4, 5, 6, 7] [0, 1, 2] rfl rfl rfl rfl rfl dX7_relocated_50 (fun H locs hP hS => ?_)
          refine lv_isub hx hb dX7_relocated_53 ?_
          refine lv_istore_n (lv' := [(3, .int (((64 * v2_25) + a0) - (f_X7_beginOf (f_X7_throwing S (f_X7_out a0 1 ((f_X7_beginOf S 6) - 1)) 0).2 v2_25))), (0, .ref aN), (1, .int a0), (2, .int v2_25)]) hx hb dX7_relocated_54 rfl hl (by decide) rfl (fun ls hl => ?_)
          refine lv_aload_n hx hb dX7_relocated_55 rfl (lv_at hl 1 rfl) ?_
          refine va_get (D := D) (ci := 4) (v := .ref aIs) (C := RX7) (T := TX7) (N := 15) hx hb hts hin4 hown hK hP 0 rfl rfl 1 (by decide) (hts (.fieldLink RX7 7 "FieldTraceModel" "isSet" "[Z") (by decide +kernel)) (fun _ h9 => h9) rfl dX7_relocated_56 ?_
          refine lv_iload_n hx hb dX7_relocated_59 rfl (lv_at hl 0 rfl) ?_
          refine va_zald hx hb hK hP 1 2 rfl rfl (n_relix hinv25 c2) dX7_relocated_60 ?_
          refine lv_if_eq (tgt := 83) hx hb dX7_relocated_61 (by decide) (fun c3 => ?_) (fun c3 => ?_)
          · refine lv_lconst (v := 0) hx hb dX7_relocated_83 (by decide) ?_
            exact q_ml ((f_X7_throwing S (f_X7_out a0 1 ((f_X7_beginOf S 6) - 1)) 0).2) hx hb hr hlocks hP hD hS (q_pair (by rw [hL25, f_X7_relocated_L25, if_pos c2, if_pos c3])) dX7_relocated_84
          · refine lv_aload_n hx hb dX7_relocated_64 rfl (lv_at hl 1 rfl) ?_
            refine lv_aload_n hx hb dX7_relocated_65 rfl (lv_at hl 1 rfl) ?_
            refine va_get (D := D) (ci := 4) (v := .ref aKd) (C := RX7) (T := TX7) (N := 15) hx hb hts hin4 hown hK hP 0 rfl rfl 2 (by decide) (hts (.fieldLink RX7 13 "FieldTraceModel" "kind" "[I") (by decide +kernel)) (fun _ h9 => h9) rfl dX7_relocated_66 ?_
            refine lv_iload_n hx hb dX7_relocated_69 rfl (lv_at hl 0 rfl) ?_
            refine va_iald hx hb hK hP 2 1 rfl rfl (n_relix hinv25 c2) dX7_relocated_70 ?_
            refine lv_aload_n hx hb dX7_relocated_71 rfl (lv_at hl 1 rfl) ?_
            refine va_get (D := D) (ci := 4) (v := .ref aNu) (C := RX7) (T := TX7) (N := 15) hx hb hts hin4 hown hK hP 0 rfl rfl 3 (by decide) (hts (.fieldLink RX7 17 "FieldTraceModel" "number" "[J") (by decide +kernel)) (fun _ h9 => h9) rfl dX7_relocated_72 ?_
            refine lv_iload_n hx hb dX7_relocated_75 rfl (lv_at hl 0 rfl) ?_
            refine va_lald hx hb hK hP 3 0 rfl rfl (n_relix hinv25 c2) dX7_relocated_76 ?_
            refine q_callVl (As := [.int ((pN_kind (f_X7_throwing S (f_X7_out a0 1 ((f_X7_beginOf S 6) - 1)) 0).2) (((64 * v2_25) + a0) - (f_X7_beginOf (f_X7_throwing S (f_X7_out a0 1 ((f_X7_beginOf S 6) - 1)) 0).2 v2_25)).toNatClampNeg), .long ((pN_number (f_X7_throwing S (f_X7_out a0 1 ((f_X7_beginOf S 6) - 1)) 0).2) (((64 * v2_25) + a0) - (f_X7_beginOf (f_X7_throwing S (f_X7_out a0 1 ((f_X7_beginOf S 6) - 1)) 0).2 v2_25)).toNatClampNeg)]) (rest := []) (q0 := 0) (ci := 4) (C := RX7) (c_X7_moved l D aN aIs aKd aNu aSg aVl aTs aTc cJ cI cZ ((f_X7_throwing S (f_X7_out a0 1 ((f_X7_beginOf S 6) - 1)) 0).2) ((pN_kind (f_X7_throwing S (f_X7_out a0 1 ((f_X7_beginOf S 6) - 1)) 0).2) (((64 * v2_25) + a0) - (f_X7_beginOf (f_X7_throwing S (f_X7_out a0 1 ((f_X7_beginOf S 6) - 1)) 0).2 v2_25)).toNatClampNeg) ((pN_number (f_X7_throwing S (f_X7_out a0 1 ((f_X7_beginOf S 6) - 1)) 0).2) (((64 * v2_25) + a0) - (f_X7_beginOf (f_X7_throwing S (f_X7_out a0 1 ((f_X7_beginOf S 6) - 1)) 0).2 v2_25)).toNatClampNeg) (n_le6 ((ok_X7_throwing hI).2.1 _))) hfix (cwV 2 hts gX7_relocated_X7_moved rfl rfl rfl (by decide +kernel) ⟨Nat.le_of_ble_eq_true rfl, Nat.le_of_ble_eq_true rfl⟩) rfl hl.1 rfl (Nat.le_of_ble_eq_true rfl) ⟨Nat.zero_le _, Nat.zero_le _⟩ hP hK hS hA [0, 1, 2, 3, 4, 5, 6, 7] [0, 1, 2] rfl rfl rfl rfl rfl dX7_relocated_77 (fun H locs hP hS => ?_)
            refine lv_goto (tgt := 84) hx hb dX7_relocated_80 (by decide) ?_
            exact q_ml ((f_X7_throwing S (f_X7_out a0 1 ((f_X7_beginOf S 6) - 1)) 0).2) hx hb hr hlocks hP hD hS (q_pair (by rw [hL25, f_X7_relocated_L25, if_pos c2, if_neg c3])) dX7_relocated_84
        · refine lv_iinc (v := v2_25 + 1) (lv' := [(2, .int (v2_25 + 1)), (0, .ref aN), (1, .int a0)]) hx hb dX7_relocated_36 hl (k := 2) rfl rfl (by decide) rfl (fun ls hl => ?_)
          refine lv_goto (tgt := 25) hx hb dX7_relocated_39 (by decide) ?_
          exact ih25 (v2_25 + 1) _ _ _ (n_reld hinv25 hmu25) (n_rel1 hinv25 c2) (by rw [hL25, f_X7_relocated_L25, if_neg c2]) hP hD hS (lv_sub hl [1, 2, 0] rfl)
    exact kL25 7 1 _ _ _ (by decide) (n_rel0 n_relt.symm (n_thr0 c1).1) (by rw [f_X7_relocated, if_pos c1]) hP hD hS (lv_sub hl [1, 2, 0] rfl)
  · refine lv_lconst (v := 0) hx hb dX7_relocated_21 (by decide) ?_
    exact q_ml ((f_X7_throwing S (f_X7_out a0 1 ((f_X7_beginOf S 6) - 1)) 0).2) hx hb hr hlocks hP hD hS (q_pair (by rw [f_X7_relocated, if_neg c1])) dX7_relocated_22

