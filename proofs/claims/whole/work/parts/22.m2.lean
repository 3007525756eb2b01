
theorem n_4 {a : Int32} (h : a = 4) : vp_in a 6 := by rw [h]; exact q_vi (by decide)
theorem n_mod {k : Nat} (hk : k < 64) : nI k - nI k / 5 * 5 = nI (k % 5) := by rw [show (5 : Int32) = nI 5 from rfl, pk_rem (by omega) (by decide) (by decide)]
theorem n_c4 {a k : Int32} (h : a = 4) (hk : vp_in k 64) : vp_in (64 * a + k + 1) 384 ∧ vp_in (64 * a + k - 1) 384 := by
  obtain ⟨i, hi, rfl⟩ := vp_in_of hk (by decide)
  subst h
  rw [show (64 : Int32) = nI 64 from rfl, show (4 : Int32) = nI 4 from rfl, pk_mul, nI_add, nI_1, show (1 : Int32) = nI 1 from rfl, pk_sub (by omega)]
  exact ⟨vp_in_nI (by omega) (by decide), vp_in_nI (by omega) (by decide)⟩
theorem n_b4 {a k : Int32} (h : a = 4) (hk : vp_in k 64) : ∃ b : Nat, b ≤ 319 ∧ 64 * a + k - (k - k / 5 * 5) = nI b := by
  obtain ⟨i, hi, rfl⟩ := vp_in_of hk (by decide)
  subst h
  refine ⟨256 + i - i % 5, by omega, ?_⟩
  rw [n_mod hi, show (64 : Int32) = nI 64 from rfl, show (4 : Int32) = nI 4 from rfl, pk_mul, nI_add, pk_sub (by have := Nat.mod_le i 5; omega)]
theorem n_bi {a k i : Int32} (h : a = 4) (hk : vp_in k 64) (h2 : 0 ≤ i) (h5 : ¬ 5 ≤ i) : vp_in (64 * a + k - (k - k / 5 * 5) + i) 384 := by
  obtain ⟨b, hb, e⟩ := n_b4 h hk
  obtain ⟨j, hj, rfl⟩ := vp_in_of (n_inx (N := 5) rfl h2 h5) (by decide)
  rw [e, nI_add]
  exact vp_in_nI (by omega) (by decide)
theorem n_b0 {a k : Int32} (h : a = 4) (hk : vp_in k 64) : vp_in (64 * a + k - (k - k / 5 * 5)) 384 ∧ vp_in (64 * a + k - (k - k / 5 * 5) + 1) 384 := by
  obtain ⟨b, hb, e⟩ := n_b4 h hk
  rw [e, nI_1]
  exact ⟨vp_in_nI (by omega) (by decide), vp_in_nI (by omega) (by decide)⟩
theorem n_lt {s k x : Int32} (hs : vp_in s 6) (hk : vp_in k 64) (h0 : 0 ≤ x) (h : ¬ 64 * s + k ≤ x) : vp_in x 384 := by
  have h1 := q_nle h
  have h2 := (vp_in_iff.mp (n_c hs hk)).2
  rw [Int32.le_iff_toInt_le, show (0 : Int32).toInt = 0 from rfl] at h0
  exact vp_in_iff.mpr ⟨h0, by omega⟩
theorem n_dc {s k x : Int32} {n : Nat} (hs : vp_in s 6) (hk : vp_in k 64) (h : ¬ 64 * s + k ≤ x) (hm : ((384 : Int) - x.toInt).toNat < n + 1) : ((384 : Int) - (x + 1).toInt).toNat < n := by
  have h1 := q_nle h
  have h2 := (vp_in_iff.mp (n_c hs hk)).2
  have h3 := q_up h
  omega

def f_X7_takes_J246 (v10_176 : Int32) (k_176 : Int32 → Int32 → Int32) (t0_246 : Int32) : Int32 :=
  (k_176 t0_246 (v10_176 + 1))

def f_X7_takes_J241 (v10_176 : Int32) (k_176 : Int32 → Int32 → Int32) : Int32 :=
  (f_X7_takes_J246 v10_176 k_176 1)

def f_X7_takes_J245 (v10_176 : Int32) (k_176 : Int32 → Int32 → Int32) : Int32 :=
  (f_X7_takes_J246 v10_176 k_176 0)

def f_X7_takes_L176 (S : NS) (a0 : Int32) (a1 : Int32) (a3 : Int64) (t0_135 : Int32) : Nat → Int32 → Int32 → Int32
  | 0, _, _ => default
  | fu_176 + 1, v7_176, v10_176 => (if 5 ≤ v10_176 then v7_176 else (if v7_176 = 0 then (f_X7_takes_J245 v10_176 (f_X7_takes_L176 S a0 a1 a3 t0_135 fu_176)) else (if ((pN_isSet S) ((((64 * a0) + a1) - (a1 - a1 / 5 * 5)) + v10_176).toNatClampNeg) = 0 then (f_X7_takes_J241 v10_176 (f_X7_takes_L176 S a0 a1 a3 t0_135 fu_176)) else (if ((pN_kind S) ((((64 * a0) + a1) - (a1 - a1 / 5 * 5)) + v10_176).toNatClampNeg) = 0 then (if ((pN_number S) ((((64 * a0) + a1) - (a1 - a1 / 5 * 5)) + v10_176).toNatClampNeg) = (f_X7_bits v10_176 a3 ((pN_number S) t0_135.toNatClampNeg)) then (f_X7_takes_J241 v10_176 (f_X7_takes_L176 S a0 a1 a3 t0_135 fu_176)) else (f_X7_takes_J245 v10_176 (f_X7_takes_L176 S a0 a1 a3 t0_135 fu_176))) else (f_X7_takes_J245 v10_176 (f_X7_takes_L176 S a0 a1 a3 t0_135 fu_176))))))

def f_X7_takes_J135 (S : NS) (a0 : Int32) (a1 : Int32) (a3 : Int64) (t0_116 : Int32) (t0_135 : Int32) : Int32 :=
  (if t0_116 = 0 then t0_116 else (if (a1 - (a1 - a1 / 5 * 5)) = 60 then t0_116 else (if ((pN_isSet S) t0_135.toNatClampNeg) = 0 then t0_116 else (f_X7_takes_L176 S a0 a1 a3 t0_135 4 t0_116 2))))

def f_X7_takes_J116 (S : NS) (a0 : Int32) (a1 : Int32) (a3 : Int64) (t0_116 : Int32) : Int32 :=
  (if (a1 - a1 / 5 * 5) = 0 then (f_X7_takes_J135 S a0 a1 a3 t0_116 (((64 * a0) + a1) + 1)) else (f_X7_takes_J135 S a0 a1 a3 t0_116 (((64 * a0) + a1) - 1)))

def f_X7_takes_J115 (S : NS) (a0 : Int32) (a1 : Int32) (a3 : Int64) : Int32 :=
  (f_X7_takes_J116 S a0 a1 a3 0)

def f_X7_takes_J72 (v8_45 : Int32) (k_45 : Int32 → Int32 → Int32) (t0_72 : Int32) : Int32 :=
  (k_45 t0_72 (v8_45 + 1))

def f_X7_takes_J71 (v8_45 : Int32) (k_45 : Int32 → Int32 → Int32) : Int32 :=
  (f_X7_takes_J72 v8_45 k_45 0)

def f_X7_takes_L45 (S : NS) (a0 : Int32) (a1 : Int32) : Nat → Int32 → Int32 → Int32
  | 0, _, _ => default
  | fu_45 + 1, v7_45, v8_45 => (if ((64 * a0) + a1) ≤ v8_45 then v7_45 else (if v7_45 = 0 then (f_X7_takes_J71 v8_45 (f_X7_takes_L45 S a0 a1 fu_45)) else (if ((pN_isSet S) v8_45.toNatClampNeg) = 0 then (f_X7_takes_J71 v8_45 (f_X7_takes_L45 S a0 a1 fu_45)) else (f_X7_takes_J72 v8_45 (f_X7_takes_L45 S a0 a1 fu_45) 1))))

def f_X7_takes (S : NS) (a0 : Int32) (a1 : Int32) (a2 : Int32) (a3 : Int64) : Int32 :=
  (if a0 = 3 then (if a2 = 0 then (if 65536 ≤ a3 then 0 else 1) else 0) else (if a0 = 5 then (f_X7_takes_L45 S a0 a1 65 1 320) else (if a0 = 4 then (if (a1 - a1 / 5 * 5) ≤ 1 then (if a2 = 0 then (if (a3 >>> ((60 : Int32).toInt64 &&& 63)) = 0 then (f_X7_takes_J116 S a0 a1 a3 1) else (f_X7_takes_J115 S a0 a1 a3)) else (f_X7_takes_J115 S a0 a1 a3)) else 1) else 1)))

set_option maxHeartbeats 4000000 in
set_option maxRecDepth 100000 in
theorem c_X7_takes (l : Launch) (D : va_G) (aN aIs aKd aNu aSg aVl aTs aTc : Nat) (cJ cI cZ : ClassId) (S : NS) (a0 : Int32) (a1 : Int32) (a2 : Int32) (a3 : Int64) (hs : vp_in a0 6) (hk : vp_in a1 64) : q_roI l yX7_takes wsX7_takes ({ frames := 1, cells := 0, slots := 0, locals := 24 }) D [(cJ, .long), (cI, .int), (cZ, .boolean)] (wN aN aIs aKd aNu aSg aVl aTs aTc cJ cI cZ S) [.ref aN, .int a0, .int a1, .int a2, .long a3] (f_X7_takes S a0 a1 a2 a3) := by
  refine q_roI_of (cc := cX7_takes) (maxL := 11) (ret := (some .boolean)) (plainFor_of_name (by decide)) rfl (Nat.le_of_ble_eq_true rfl) ?_
  intro p e s m below meth c ls A hx hb hr hml hown hts hlocks hP hK hA hS hl
  have hown : s.vm.findClass RX7 = some m.cls := hown
  have hl : lv_has ls 11 [(0, .ref aN), (1, .int a0), (2, .int a1), (3, .int a2), (4, .long a3)] := hl
  have hfix : CallFix p m c cX7_takes 11 s [.ref aN, .int a0, .int a1, .int a2, .long a3].toArray wsX7_takes RX7 := ⟨hx, hb, hml, hown, hts⟩
  have hin4 : ∀ w ∈ wsX70, w ∈ wsX7_takes := by decide +kernel
  refine lv_bipush (v := 64) hx hb dX7_takes_0 (by decide) ?_
  refine lv_iload_n hx hb dX7_takes_2 rfl (lv_at hl 1 rfl) ?_
  refine lv_imul hx hb dX7_takes_3 ?_
  refine lv_iload_n hx hb dX7_takes_4 rfl (lv_at hl 2 rfl) ?_
  refine lv_iadd hx hb dX7_takes_5 ?_
  refine lv_istore (lv' := [(6, .int ((64 * a0) + a1)), (0, .ref aN), (1, .int a0), (2, .int a1), (3, .int a2), (4, .long a3)]) hx hb dX7_takes_6 hl (by decide) rfl (fun ls hl => ?_)
  refine lv_iload_n hx hb dX7_takes_8 rfl (lv_at hl 2 rfl) ?_
  refine lv_iconst (v := 3) hx hb dX7_takes_9 (by decide) ?_
  refine lv_icmp_ne (tgt := 32) hx hb dX7_takes_10 (by decide) (fun c1 => ?_) (fun c1 => ?_)
  · refine lv_iload_n hx hb dX7_takes_32 rfl (lv_at hl 2 rfl) ?_
    refine lv_iconst (v := 5) hx hb dX7_takes_33 (by decide) ?_
    refine lv_icmp_ne (tgt := 83) hx hb dX7_takes_34 (by decide) (fun c2 => ?_) (fun c2 => ?_)
    · refine lv_iload_n hx hb dX7_takes_83 rfl (lv_at hl 2 rfl) ?_
      refine lv_iconst (v := 4) hx hb dX7_takes_84 (by decide) ?_
      refine lv_icmp_ne (tgt := 95) hx hb dX7_takes_85 (by decide) (fun c3 => ?_) (fun c3 => ?_)
      · refine lv_iconst (v := 1) hx hb dX7_takes_95 (by decide) ?_
        exact q_rz hx hb hr hlocks (rfl) hS (Eq.symm (by rw [f_X7_takes, if_neg c1, if_neg c2, if_neg c3])) dX7_takes_96
      · refine lv_iload_n hx hb dX7_takes_88 rfl (lv_at hl 3 rfl) ?_
        refine lv_iconst (v := 5) hx hb dX7_takes_89 (by decide) ?_
        refine lv_irem hx hb dX7_takes_90 (by decide) ?_
        refine lv_iconst (v := 1) hx hb dX7_takes_91 (by decide) ?_
        refine lv_icmp_le (tgt := 97) hx hb dX7_takes_92 (by decide) (fun c4 => ?_) (fun c4 => ?_)
        · refine lv_iload_n hx hb dX7_takes_97 rfl (lv_at hl 4 rfl) ?_
          have kJ116 : ∀ (t0_116 : Int32) (H : Heap) (locs : List Loc) (ls : Array Slot), (t0_116 = 0 ∨ t0_116 = 1) → (f_X7_takes S a0 a1 a2 a3) = (f_X7_takes_J116 S a0 a1 a3 t0_116) → va_P D vwCl (wN aN aIs aKd aNu aSg aVl aTs aTc cJ cI cZ S) H → va_S A s.heap H locs → lv_has ls 11 [(0, .ref aN), (1, .int a0), (2, .int a1), (3, .int a2), (4, .long a3), (6, .int ((64 * a0) + a1))] → W p l e ({ frames := 1, cells := 0, slots := 0, locals := 24 }) s m [.ref aN, .int a0, .int a1, .int a2, .long a3].toArray below meth c H locs 0 0 (MQ below (va_Qi (fun r (_ : Unit) => r = (f_X7_takes S a0 a1 a2 a3)) (fun _ _ => True) A) [.ref aN, .int a0, .int a1, .int a2, .long a3].toArray s 0 0 A) (F0 m 116 ls [.int t0_116]) := by
            intro t0_116 H locs ls hb_t0_116 hJ116 hP hS hl
            refine lv_istore (lv' := [(7, .int t0_116), (0, .ref aN), (1, .int a0), (2, .int a1), (3, .int a2), (4, .long a3), (6, .int ((64 * a0) + a1))]) hx hb dX7_takes_116 hl (by decide) rfl (fun ls hl => ?_)
            refine lv_iload_n hx hb dX7_takes_118 rfl (lv_at hl 3 rfl) ?_
            refine lv_iconst (v := 5) hx hb dX7_takes_119 (by decide) ?_
            refine lv_irem hx hb dX7_takes_120 (by decide) ?_
            have kJ135 : ∀ (t0_135 : Int32) (H : Heap) (locs : List Loc) (ls : Array Slot), (vp_in t0_135 384) → (f_X7_takes S a0 a1 a2 a3) = (f_X7_takes_J135 S a0 a1 a3 t0_116 t0_135) → va_P D vwCl (wN aN aIs aKd aNu aSg aVl aTs aTc cJ cI cZ S) H → va_S A s.heap H locs → lv_has ls 11 [(0, .ref aN), (1, .int a0), (2, .int a1), (3, .int a2), (4, .long a3), (6, .int ((64 * a0) + a1)), (7, .int t0_116)] → W p l e ({ frames := 1, cells := 0, slots := 0, locals := 24 }) s m [.ref aN, .int a0, .int a1, .int a2, .long a3].toArray below meth c H locs 0 0 (MQ below (va_Qi (fun r (_ : Unit) => r = (f_X7_takes S a0 a1 a2 a3)) (fun _ _ => True) A) [.ref aN, .int a0, .int a1, .int a2, .long a3].toArray s 0 0 A) (F0 m 135 ls [.int t0_135]) := by
              intro t0_135 H locs ls hj_135 hJ135 hP hS hl
              refine lv_istore (lv' := [(8, .int t0_135), (0, .ref aN), (1, .int a0), (2, .int a1), (3, .int a2), (4, .long a3), (6, .int ((64 * a0) + a1)), (7, .int t0_116)]) hx hb dX7_takes_135 hl (by decide) rfl (fun ls hl => ?_)
              refine lv_iload hx hb dX7_takes_137 (lv_at hl 6 rfl) ?_
              refine lv_iload_n hx hb dX7_takes_139 rfl (lv_at hl 3 rfl) ?_
              refine lv_iconst (v := 5) hx hb dX7_takes_140 (by decide) ?_
              refine lv_irem hx hb dX7_takes_141 (by decide) ?_
              refine lv_isub hx hb dX7_takes_142 ?_
              refine lv_istore (lv' := [(9, .int (((64 * a0) + a1) - (a1 - a1 / 5 * 5))), (8, .int t0_135), (0, .ref aN), (1, .int a0), (2, .int a1), (3, .int a2), (4, .long a3), (6, .int ((64 * a0) + a1)), (7, .int t0_116)]) hx hb dX7_takes_143 hl (by decide) rfl (fun ls hl => ?_)
              refine lv_iload hx hb dX7_takes_145 (lv_at hl 8 rfl) ?_
              refine lv_if_eq (tgt := 170) hx hb dX7_takes_147 (by decide) (fun c8 => ?_) (fun c8 => ?_)
              · refine lv_iload hx hb dX7_takes_170 (lv_at hl 8 rfl) ?_
                exact q_rz hx hb hr hlocks (q_nb hb_t0_116) hS (Eq.symm (by rw [hJ135, f_X7_takes_J135, if_pos c8])) dX7_takes_172
              · refine lv_iload_n hx hb dX7_takes_150 rfl (lv_at hl 4 rfl) ?_
                refine lv_iload_n hx hb dX7_takes_151 rfl (lv_at hl 4 rfl) ?_
                refine lv_iconst (v := 5) hx hb dX7_takes_152 (by decide) ?_
                refine lv_irem hx hb dX7_takes_153 (by decide) ?_
                refine lv_isub hx hb dX7_takes_154 ?_
                refine lv_bipush (v := 60) hx hb dX7_takes_155 (by decide) ?_
                refine lv_icmp_eq (tgt := 170) hx hb dX7_takes_157 (by decide) (fun c9 => ?_) (fun c9 => ?_)
                · refine lv_iload hx hb dX7_takes_170 (lv_at hl 8 rfl) ?_
                  exact q_rz hx hb hr hlocks (q_nb hb_t0_116) hS (Eq.symm (by rw [hJ135, f_X7_takes_J135, if_neg c8, if_pos c9])) dX7_takes_172
                · refine lv_aload_n hx hb dX7_takes_160 rfl (lv_at hl 2 rfl) ?_
                  refine va_get (D := D) (ci := 4) (v := .ref aIs) (C := RX7) (T := TX7) (N := 15) hx hb hts hin4 hown hK hP 0 rfl rfl 1 (by decide) (hts (.fieldLink RX7 7 "FieldTraceModel" "isSet" "[Z") (by decide +kernel)) (fun _ h9 => h9) rfl dX7_takes_161 ?_
                  refine lv_iload hx hb dX7_takes_164 (lv_at hl 1 rfl) ?_
                  refine va_zald hx hb hK hP 1 2 rfl rfl (hj_135) dX7_takes_166 ?_
                  refine lv_if_ne (tgt := 173) hx hb dX7_takes_167 (by decide) (fun c10 => ?_) (fun c10 => ?_)
                  · refine lv_iconst (v := 2) hx hb dX7_takes_173 (by decide) ?_
                    refine lv_istore (lv' := [(10, .int 2), (9, .int (((64 * a0) + a1) - (a1 - a1 / 5 * 5))), (8, .int t0_135), (0, .ref aN), (1, .int a0), (2, .int a1), (3, .int a2), (4, .long a3), (6, .int ((64 * a0) + a1)), (7, .int t0_116)]) hx hb dX7_takes_174 hl (by decide) rfl (fun ls hl => ?_)
                    have kL176 : ∀ (fu_176 : Nat) (v7_176 : Int32) (v10_176 : Int32) (H : Heap) (locs : List Loc) (ls : Array Slot), ((5 : Int) - v10_176.toInt).toNat < fu_176 → ((v7_176 = 0 ∨ v7_176 = 1) ∧ 0 ≤ v10_176) → (f_X7_takes S a0 a1 a2 a3) = (f_X7_takes_L176 S a0 a1 a3 t0_135 fu_176 v7_176 v10_176) → va_P D vwCl (wN aN aIs aKd aNu aSg aVl aTs aTc cJ cI cZ S) H → va_S A s.heap H locs → lv_has ls 11 [(0, .ref aN), (1, .int a0), (2, .int a1), (3, .int a2), (4, .long a3), (6, .int ((64 * a0) + a1)), (7, .int v7_176), (8, .int t0_135), (9, .int (((64 * a0) + a1) - (a1 - a1 / 5 * 5))), (10, .int v10_176)] → W p l e ({ frames := 1, cells := 0, slots := 0, locals := 24 }) s m [.ref aN, .int a0, .int a1, .int a2, .long a3].toArray below meth c H locs 0 0 (MQ below (va_Qi (fun r (_ : Unit) => r = (f_X7_takes S a0 a1 a2 a3)) (fun _ _ => True) A) [.ref aN, .int a0, .int a1, .int a2, .long a3].toArray s 0 0 A) (F0 m 176 ls []) := by
                      intro fu_176
                      induction fu_176 with
                      | zero => intro v7_176 v10_176 H locs ls hmu; exact absurd hmu (Nat.not_lt_zero _)
                      | succ fu_176 ih176 =>
                        intro v7_176 v10_176 H locs ls hmu176 hinv176 hL176 hP hS hl
                        refine lv_iload hx hb dX7_takes_176 (lv_at hl 9 rfl) ?_
                        refine lv_iconst (v := 5) hx hb dX7_takes_178 (by decide) ?_
                        refine lv_icmp_ge (tgt := 254) hx hb dX7_takes_179 (by decide) (fun c11 => ?_) (fun c11 => ?_)
                        · refine lv_iload hx hb dX7_takes_254 (lv_at hl 6 rfl) ?_
                          exact q_rz hx hb hr hlocks (q_nb hinv176.1) hS (Eq.symm (by rw [hL176, f_X7_takes_L176, if_pos c11])) dX7_takes_256
                        · refine lv_iload hx hb dX7_takes_182 (lv_at hl 6 rfl) ?_
                          have kJ246 : ∀ (t0_246 : Int32) (H : Heap) (locs : List Loc) (ls : Array Slot), (t0_246 = 0 ∨ t0_246 = 1) → (f_X7_takes S a0 a1 a2 a3) = (f_X7_takes_J246 v10_176 (f_X7_takes_L176 S a0 a1 a3 t0_135 fu_176) t0_246) → va_P D vwCl (wN aN aIs aKd aNu aSg aVl aTs aTc cJ cI cZ S) H → va_S A s.heap H locs → lv_has ls 11 [(0, .ref aN), (1, .int a0), (2, .int a1), (3, .int a2), (4, .long a3), (6, .int ((64 * a0) + a1)), (7, .int v7_176), (8, .int t0_135), (9, .int (((64 * a0) + a1) - (a1 - a1 / 5 * 5))), (10, .int v10_176)] → W p l e ({ frames := 1, cells := 0, slots := 0, locals := 24 }) s m [.ref aN, .int a0, .int a1, .int a2, .long a3].toArray below meth c H locs 0 0 (MQ below (va_Qi (fun r (_ : Unit) => r = (f_X7_takes S a0 a1 a2 a3)) (fun _ _ => True) A) [.ref aN, .int a0, .int a1, .int a2, .long a3].toArray s 0 0 A) (F0 m 246 ls [.int t0_246]) := by
                            intro t0_246 H locs ls hb_t0_246 hJ246 hP hS hl
                            refine lv_istore (lv' := [(7, .int t0_246), (0, .ref aN), (1, .int a0), (2, .int a1), (3, .int a2), (4, .long a3), (6, .int ((64 * a0) + a1)), (8, .int t0_135), (9, .int (((64 * a0) + a1) - (a1 - a1 / 5 * 5))), (10, .int v10_176)]) hx hb dX7_takes_246 hl (by decide) rfl (fun ls hl => ?_)
                            refine lv_iinc (v := v10_176 + 1) (lv' := [(10, .int (v10_176 + 1)), (7, .int t0_246), (0, .ref aN), (1, .int a0), (2, .int a1), (3, .int a2), (4, .long a3), (6, .int ((64 * a0) + a1)), (8, .int t0_135), (9, .int (((64 * a0) + a1) - (a1 - a1 / 5 * 5)))]) hx hb dX7_takes_248 hl (k := 9) rfl rfl (by decide) rfl (fun ls hl => ?_)
                            refine lv_goto (tgt := 176) hx hb dX7_takes_251 (by decide) ?_
                            exact ih176 t0_246 (v10_176 + 1) _ _ _ (q_dec rfl c11 hmu176) (⟨hb_t0_246, n_inc0 hinv176.2 c11⟩) (by rw [hJ246, f_X7_takes_J246]) hP hS (lv_sub hl [2, 3, 4, 5, 6, 7, 1, 8, 9, 0] rfl)
                          have kJ245 : ∀ (H : Heap) (locs : List Loc) (ls : Array Slot), (f_X7_takes S a0 a1 a2 a3) = (f_X7_takes_J245 v10_176 (f_X7_takes_L176 S a0 a1 a3 t0_135 fu_176)) → va_P D vwCl (wN aN aIs aKd aNu aSg aVl aTs aTc cJ cI cZ S) H → va_S A s.heap H locs → lv_has ls 11 [(0, .ref aN), (1, .int a0), (2, .int a1), (3, .int a2), (4, .long a3), (6, .int ((64 * a0) + a1)), (7, .int v7_176), (8, .int t0_135), (9, .int (((64 * a0) + a1) - (a1 - a1 / 5 * 5))), (10, .int v10_176)] → W p l e ({ frames := 1, cells := 0, slots := 0, locals := 24 }) s m [.ref aN, .int a0, .int a1, .int a2, .long a3].toArray below meth c H locs 0 0 (MQ below (va_Qi (fun r (_ : Unit) => r = (f_X7_takes S a0 a1 a2 a3)) (fun _ _ => True) A) [.ref aN, .int a0, .int a1, .int a2, .long a3].toArray s 0 0 A) (F0 m 245 ls []) := by
                            intro H locs ls hJ245 hP hS hl
                            refine lv_iconst (v := 0) hx hb dX7_takes_245 (by decide) ?_
                            exact kJ246 0 _ _ _ (Or.inl rfl) (by rw [hJ245, f_X7_takes_J245]) hP hS (lv_sub hl [0, 1, 2, 3, 4, 5, 6, 7, 8, 9] rfl)
                          refine lv_if_eq (tgt := 245) hx hb dX7_takes_184 (by decide) (fun c12 => ?_) (fun c12 => ?_)
                          · exact kJ245 _ _ _ (by rw [hL176, f_X7_takes_L176, if_neg c11, if_pos c12]) hP hS (lv_sub hl [0, 1, 2, 3, 4, 5, 6, 7, 8, 9] rfl)
                          · refine lv_aload_n hx hb dX7_takes_187 rfl (lv_at hl 0 rfl) ?_
                            refine va_get (D := D) (ci := 4) (v := .ref aIs) (C := RX7) (T := TX7) (N := 15) hx hb hts hin4 hown hK hP 0 rfl rfl 1 (by decide) (hts (.fieldLink RX7 7 "FieldTraceModel" "isSet" "[Z") (by decide +kernel)) (fun _ h9 => h9) rfl dX7_takes_188 ?_
                            refine lv_iload hx hb dX7_takes_191 (lv_at hl 8 rfl) ?_
                            refine lv_iload hx hb dX7_takes_193 (lv_at hl 9 rfl) ?_
                            refine lv_iadd hx hb dX7_takes_195 ?_
                            refine va_zald hx hb hK hP 1 2 rfl rfl (n_bi c3 hk hinv176.2 c11) dX7_takes_196 ?_
                            have kJ241 : ∀ (H : Heap) (locs : List Loc) (ls : Array Slot), (f_X7_takes S a0 a1 a2 a3) = (f_X7_takes_J241 v10_176 (f_X7_takes_L176 S a0 a1 a3 t0_135 fu_176)) → va_P D vwCl (wN aN aIs aKd aNu aSg aVl aTs aTc cJ cI cZ S) H → va_S A s.heap H locs → lv_has ls 11 [(0, .ref aN), (1, .int a0), (2, .int a1), (3, .int a2), (4, .long a3), (6, .int ((64 * a0) + a1)), (7, .int v7_176), (8, .int t0_135), (9, .int (((64 * a0) + a1) - (a1 - a1 / 5 * 5))), (10, .int v10_176)] → W p l e ({ frames := 1, cells := 0, slots := 0, locals := 24 }) s m [.ref aN, .int a0, .int a1, .int a2, .long a3].toArray below meth c H locs 0 0 (MQ below (va_Qi (fun r (_ : Unit) => r = (f_X7_takes S a0 a1 a2 a3)) (fun _ _ => True) A) [.ref aN, .int a0, .int a1, .int a2, .long a3].toArray s 0 0 A) (F0 m 241 ls []) := by
                              intro H locs ls hJ241 hP hS hl
                              refine lv_iconst (v := 1) hx hb dX7_takes_241 (by decide) ?_
                              refine lv_goto (tgt := 246) hx hb dX7_takes_242 (by decide) ?_
                              exact kJ246 1 _ _ _ (Or.inr rfl) (by rw [hJ241, f_X7_takes_J241]) hP hS (lv_sub hl [0, 1, 2, 3, 4, 5, 6, 7, 8, 9] rfl)
                            refine lv_if_eq (tgt := 241) hx hb dX7_takes_197 (by decide) (fun c13 => ?_) (fun c13 => ?_)
                            · exact kJ241 _ _ _ (by rw [hL176, f_X7_takes_L176, if_neg c11, if_neg c12, if_pos c13]) hP hS (lv_sub hl [0, 1, 2, 3, 4, 5, 6, 7, 8, 9] rfl)
                            · refine lv_aload_n hx hb dX7_takes_200 rfl (lv_at hl 0 rfl) ?_
                              refine va_get (D := D) (ci := 4) (v := .ref aKd) (C := RX7) (T := TX7) (N := 15) hx hb hts hin4 hown hK hP 0 rfl rfl 2 (by decide) (hts (.fieldLink RX7 13 "FieldTraceModel" "kind" "[I") (by decide +kernel)) (fun _ h9 => h9) rfl dX7_takes_201 ?_
                              refine lv_iload hx hb dX7_takes_204 (lv_at hl 8 rfl) ?_
                              refine lv_iload hx hb dX7_takes_206 (lv_at hl 9 rfl) ?_
                              refine lv_iadd hx hb dX7_takes_208 ?_
                              refine va_iald hx hb hK hP 2 1 rfl rfl (n_bi c3 hk hinv176.2 c11) dX7_takes_209 ?_
                              refine lv_if_ne (tgt := 245) hx hb dX7_takes_210 (by decide) (fun c14 => ?_) (fun c14 => ?_)
                              · exact kJ245 _ _ _ (by rw [hL176, f_X7_takes_L176, if_neg c11, if_neg c12, if_neg c13, if_neg c14]) hP hS (lv_sub hl [0, 1, 2, 3, 4, 5, 6, 7, 8, 9] rfl)
                              · refine lv_aload_n hx hb dX7_takes_213 rfl (lv_at hl 0 rfl) ?_
                                refine va_get (D := D) (ci := 4) (v := .ref aNu) (C := RX7) (T := TX7) (N := 15) hx hb hts hin4 hown hK hP 0 rfl rfl 3 (by decide) (hts (.fieldLink RX7 17 "FieldTraceModel" "number" "[J") (by decide +kernel)) (fun _ h9 => h9) rfl dX7_takes_214 ?_
                                refine lv_iload hx hb dX7_takes_217 (lv_at hl 8 rfl) ?_
                                refine lv_iload hx hb dX7_takes_219 (lv_at hl 9 rfl) ?_
                                refine lv_iadd hx hb dX7_takes_221 ?_
                                refine va_lald hx hb hK hP 3 0 rfl rfl (n_bi c3 hk hinv176.2 c11) dX7_takes_222 ?_
                                refine lv_iload hx hb dX7_takes_223 (lv_at hl 9 rfl) ?_
                                refine lv_lload hx hb dX7_takes_225 (lv_at hl 4 rfl) ?_
                                refine lv_aload_n hx hb dX7_takes_227 rfl (lv_at hl 0 rfl) ?_
                                refine va_get (D := D) (ci := 4) (v := .ref aNu) (C := RX7) (T := TX7) (N := 15) hx hb hts hin4 hown hK hP 0 rfl rfl 3 (by decide) (hts (.fieldLink RX7 17 "FieldTraceModel" "number" "[J") (by decide +kernel)) (fun _ h9 => h9) rfl dX7_takes_228 ?_
                                refine lv_iload hx hb dX7_takes_231 (lv_at hl 7 rfl) ?_
                                refine va_lald hx hb hK hP 3 0 rfl rfl (hj_135) dX7_takes_233 ?_
                                refine q_callSl (As := [.int v10_176, .long a3, .long ((pN_number S) t0_135.toNatClampNeg)]) (rest := [.long ((pN_number S) ((((64 * a0) + a1) - (a1 - a1 / 5 * 5)) + v10_176).toNatClampNeg)]) (c_X7_bits l D v10_176 a3 ((pN_number S) t0_135.toNatClampNeg)) hfix (va_cwS 3 hts gX7_takes_X7_bits rfl rfl rfl (by decide +kernel) ⟨Nat.le_of_ble_eq_true rfl, Nat.le_of_ble_eq_true rfl⟩) rfl hl.1 rfl (Nat.le_of_ble_eq_true rfl) ⟨Nat.zero_le _, Nat.zero_le _⟩ hP hK hS hA [] [] rfl rfl dX7_takes_234 (fun H locs hP hS => ?_)
                                refine q_ne (tgt := 245) hx hb dX7_takes_237 dX7_takes_238 (by decide) (fun c15 => ?_) (fun c15 => ?_)
                                · exact kJ245 _ _ _ (by rw [hL176, f_X7_takes_L176, if_neg c11, if_neg c12, if_neg c13, if_pos c14, if_neg c15]) hP hS (lv_sub hl [0, 1, 2, 3, 4, 5, 6, 7, 8, 9] rfl)
                                · exact kJ241 _ _ _ (by rw [hL176, f_X7_takes_L176, if_neg c11, if_neg c12, if_neg c13, if_pos c14, if_pos c15]) hP hS (lv_sub hl [0, 1, 2, 3, 4, 5, 6, 7, 8, 9] rfl)
                    exact kL176 4 t0_116 2 _ _ _ (by decide) (⟨hb_t0_116, by decide⟩) (by rw [hJ135, f_X7_takes_J135, if_neg c8, if_neg c9, if_neg c10]) hP hS (lv_sub hl [3, 4, 5, 6, 7, 8, 9, 2, 1, 0] rfl)
                  · refine lv_iload hx hb dX7_takes_170 (lv_at hl 8 rfl) ?_
                    exact q_rz hx hb hr hlocks (q_nb hb_t0_116) hS (Eq.symm (by rw [hJ135, f_X7_takes_J135, if_neg c8, if_neg c9, if_pos c10])) dX7_takes_172
            refine lv_if_ne (tgt := 131) hx hb dX7_takes_121 (by decide) (fun c7 => ?_) (fun c7 => ?_)
            · refine lv_iload hx hb dX7_takes_131 (lv_at hl 6 rfl) ?_
              refine lv_iconst (v := 1) hx hb dX7_takes_133 (by decide) ?_
              refine lv_isub hx hb dX7_takes_134 ?_
              exact kJ135 (((64 * a0) + a1) - 1) _ _ _ ((n_c4 c3 hk).2) (by rw [hJ116, f_X7_takes_J116, if_neg c7]) hP hS (lv_sub hl [1, 2, 3, 4, 5, 6, 0] rfl)
            · refine lv_iload hx hb dX7_takes_124 (lv_at hl 6 rfl) ?_
              refine lv_iconst (v := 1) hx hb dX7_takes_126 (by decide) ?_
              refine lv_iadd hx hb dX7_takes_127 ?_
              refine lv_goto (tgt := 135) hx hb dX7_takes_128 (by decide) ?_
              exact kJ135 (((64 * a0) + a1) + 1) _ _ _ ((n_c4 c3 hk).1) (by rw [hJ116, f_X7_takes_J116, if_pos c7]) hP hS (lv_sub hl [1, 2, 3, 4, 5, 6, 0] rfl)
          have kJ115 : ∀ (H : Heap) (locs : List Loc) (ls : Array Slot), (f_X7_takes S a0 a1 a2 a3) = (f_X7_takes_J115 S a0 a1 a3) → va_P D vwCl (wN aN aIs aKd aNu aSg aVl aTs aTc cJ cI cZ S) H → va_S A s.heap H locs → lv_has ls 11 [(0, .ref aN), (1, .int a0), (2, .int a1), (3, .int a2), (4, .long a3), (6, .int ((64 * a0) + a1))] → W p l e ({ frames := 1, cells := 0, slots := 0, locals := 24 }) s m [.ref aN, .int a0, .int a1, .int a2, .long a3].toArray below meth c H locs 0 0 (MQ below (va_Qi (fun r (_ : Unit) => r = (f_X7_takes S a0 a1 a2 a3)) (fun _ _ => True) A) [.ref aN, .int a0, .int a1, .int a2, .long a3].toArray s 0 0 A) (F0 m 115 ls []) := by
            intro H locs ls hJ115 hP hS hl
            refine lv_iconst (v := 0) hx hb dX7_takes_115 (by decide) ?_
            exact kJ116 0 _ _ _ (Or.inl rfl) (by rw [hJ115, f_X7_takes_J115]) hP hS (lv_sub hl [0, 1, 2, 3, 4, 5] rfl)
          refine lv_if_ne (tgt := 115) hx hb dX7_takes_98 (by decide) (fun c5 => ?_) (fun c5 => ?_)
          · exact kJ115 _ _ _ (by rw [f_X7_takes, if_neg c1, if_neg c2, if_pos c3, if_pos c4, if_neg c5]) hP hS (lv_sub hl [1, 2, 3, 4, 5, 0] rfl)
          · refine lv_lload hx hb dX7_takes_101 (lv_at hl 5 rfl) ?_
            refine lv_bipush (v := 60) hx hb dX7_takes_103 (by decide) ?_
            refine lv_lshr hx hb dX7_takes_105 rfl ?_
            refine lv_lconst (v := 0) hx hb dX7_takes_106 (by decide) ?_
            refine q_ne (tgt := 115) hx hb dX7_takes_107 dX7_takes_108 (by decide) (fun c6 => ?_) (fun c6 => ?_)
            · exact kJ115 _ _ _ (by rw [f_X7_takes, if_neg c1, if_neg c2, if_pos c3, if_pos c4, if_pos c5, if_neg c6]) hP hS (lv_sub hl [1, 2, 3, 4, 5, 0] rfl)
            · refine lv_iconst (v := 1) hx hb dX7_takes_111 (by decide) ?_
              refine lv_goto (tgt := 116) hx hb dX7_takes_112 (by decide) ?_
              exact kJ116 1 _ _ _ (Or.inr rfl) (by rw [f_X7_takes, if_neg c1, if_neg c2, if_pos c3, if_pos c4, if_pos c5, if_pos c6]) hP hS (lv_sub hl [1, 2, 3, 4, 5, 0] rfl)
        · refine lv_iconst (v := 1) hx hb dX7_takes_95 (by decide) ?_
          exact q_rz hx hb hr hlocks (rfl) hS (Eq.symm (by rw [f_X7_takes, if_neg c1, if_neg c2, if_pos c3, if_neg c4])) dX7_takes_96
    · refine lv_iconst (v := 1) hx hb dX7_takes_37 (by decide) ?_
      refine lv_istore (lv' := [(7, .int 1), (6, .int ((64 * a0) + a1)), (0, .ref aN), (1, .int a0), (2, .int a1), (3, .int a2), (4, .long a3)]) hx hb dX7_takes_38 hl (by decide) rfl (fun ls hl => ?_)
      refine lv_sipush (v := 320) hx hb dX7_takes_40 (by decide) ?_
      refine lv_istore (lv' := [(8, .int 320), (7, .int 1), (6, .int ((64 * a0) + a1)), (0, .ref aN), (1, .int a0), (2, .int a1), (3, .int a2), (4, .long a3)]) hx hb dX7_takes_43 hl (by decide) rfl (fun ls hl => ?_)
      have kL45 : ∀ (fu_45 : Nat) (v7_45 : Int32) (v8_45 : Int32) (H : Heap) (locs : List Loc) (ls : Array Slot), ((384 : Int) - v8_45.toInt).toNat < fu_45 → ((v7_45 = 0 ∨ v7_45 = 1) ∧ 0 ≤ v8_45) → (f_X7_takes S a0 a1 a2 a3) = (f_X7_takes_L45 S a0 a1 fu_45 v7_45 v8_45) → va_P D vwCl (wN aN aIs aKd aNu aSg aVl aTs aTc cJ cI cZ S) H → va_S A s.heap H locs → lv_has ls 11 [(0, .ref aN), (1, .int a0), (2, .int a1), (3, .int a2), (4, .long a3), (6, .int ((64 * a0) + a1)), (7, .int v7_45), (8, .int v8_45)] → W p l e ({ frames := 1, cells := 0, slots := 0, locals := 24 }) s m [.ref aN, .int a0, .int a1, .int a2, .long a3].toArray below meth c H locs 0 0 (MQ below (va_Qi (fun r (_ : Unit) => r = (f_X7_takes S a0 a1 a2 a3)) (fun _ _ => True) A) [.ref aN, .int a0, .int a1, .int a2, .long a3].toArray s 0 0 A) (F0 m 45 ls []) := by
        intro fu_45
        induction fu_45 with
        | zero => intro v7_45 v8_45 H locs ls hmu; exact absurd hmu (Nat.not_lt_zero _)
        | succ fu_45 ih45 =>
          intro v7_45 v8_45 H locs ls hmu45 hinv45 hL45 hP hS hl
          refine lv_iload hx hb dX7_takes_45 (lv_at hl 7 rfl) ?_
          refine lv_iload hx hb dX7_takes_47 (lv_at hl 5 rfl) ?_
          refine lv_icmp_ge (tgt := 80) hx hb dX7_takes_49 (by decide) (fun c16 => ?_) (fun c16 => ?_)
          · refine lv_iload hx hb dX7_takes_80 (lv_at hl 6 rfl) ?_
            exact q_rz hx hb hr hlocks (q_nb hinv45.1) hS (Eq.symm (by rw [hL45, f_X7_takes_L45, if_pos c16])) dX7_takes_82
          · refine lv_iload hx hb dX7_takes_52 (lv_at hl 6 rfl) ?_
            have kJ72 : ∀ (t0_72 : Int32) (H : Heap) (locs : List Loc) (ls : Array Slot), (t0_72 = 0 ∨ t0_72 = 1) → (f_X7_takes S a0 a1 a2 a3) = (f_X7_takes_J72 v8_45 (f_X7_takes_L45 S a0 a1 fu_45) t0_72) → va_P D vwCl (wN aN aIs aKd aNu aSg aVl aTs aTc cJ cI cZ S) H → va_S A s.heap H locs → lv_has ls 11 [(0, .ref aN), (1, .int a0), (2, .int a1), (3, .int a2), (4, .long a3), (6, .int ((64 * a0) + a1)), (7, .int v7_45), (8, .int v8_45)] → W p l e ({ frames := 1, cells := 0, slots := 0, locals := 24 }) s m [.ref aN, .int a0, .int a1, .int a2, .long a3].toArray below meth c H locs 0 0 (MQ below (va_Qi (fun r (_ : Unit) => r = (f_X7_takes S a0 a1 a2 a3)) (fun _ _ => True) A) [.ref aN, .int a0, .int a1, .int a2, .long a3].toArray s 0 0 A) (F0 m 72 ls [.int t0_72]) := by
              intro t0_72 H locs ls hb_t0_72 hJ72 hP hS hl
              refine lv_istore (lv' := [(7, .int t0_72), (0, .ref aN), (1, .int a0), (2, .int a1), (3, .int a2), (4, .long a3), (6, .int ((64 * a0) + a1)), (8, .int v8_45)]) hx hb dX7_takes_72 hl (by decide) rfl (fun ls hl => ?_)
              refine lv_iinc (v := v8_45 + 1) (lv' := [(8, .int (v8_45 + 1)), (7, .int t0_72), (0, .ref aN), (1, .int a0), (2, .int a1), (3, .int a2), (4, .long a3), (6, .int ((64 * a0) + a1))]) hx hb dX7_takes_74 hl (k := 7) rfl rfl (by decide) rfl (fun ls hl => ?_)
              refine lv_goto (tgt := 45) hx hb dX7_takes_77 (by decide) ?_
              exact ih45 t0_72 (v8_45 + 1) _ _ _ (n_dc hs hk c16 hmu45) (⟨hb_t0_72, n_inc0 hinv45.2 c16⟩) (by rw [hJ72, f_X7_takes_J72]) hP hS (lv_sub hl [2, 3, 4, 5, 6, 7, 1, 0] rfl)
            have kJ71 : ∀ (H : Heap) (locs : List Loc) (ls : Array Slot), (f_X7_takes S a0 a1 a2 a3) = (f_X7_takes_J71 v8_45 (f_X7_takes_L45 S a0 a1 fu_45)) → va_P D vwCl (wN aN aIs aKd aNu aSg aVl aTs aTc cJ cI cZ S) H → va_S A s.heap H locs → lv_has ls 11 [(0, .ref aN), (1, .int a0), (2, .int a1), (3, .int a2), (4, .long a3), (6, .int ((64 * a0) + a1)), (7, .int v7_45), (8, .int v8_45)] → W p l e ({ frames := 1, cells := 0, slots := 0, locals := 24 }) s m [.ref aN, .int a0, .int a1, .int a2, .long a3].toArray below meth c H locs 0 0 (MQ below (va_Qi (fun r (_ : Unit) => r = (f_X7_takes S a0 a1 a2 a3)) (fun _ _ => True) A) [.ref aN, .int a0, .int a1, .int a2, .long a3].toArray s 0 0 A) (F0 m 71 ls []) := by
              intro H locs ls hJ71 hP hS hl
              refine lv_iconst (v := 0) hx hb dX7_takes_71 (by decide) ?_
              exact kJ72 0 _ _ _ (Or.inl rfl) (by rw [hJ71, f_X7_takes_J71]) hP hS (lv_sub hl [0, 1, 2, 3, 4, 5, 6, 7] rfl)
            refine lv_if_eq (tgt := 71) hx hb dX7_takes_54 (by decide) (fun c17 => ?_) (fun c17 => ?_)
            · exact kJ71 _ _ _ (by rw [hL45, f_X7_takes_L45, if_neg c16, if_pos c17]) hP hS (lv_sub hl [0, 1, 2, 3, 4, 5, 6, 7] rfl)
            · refine lv_aload_n hx hb dX7_takes_57 rfl (lv_at hl 0 rfl) ?_
              refine va_get (D := D) (ci := 4) (v := .ref aIs) (C := RX7) (T := TX7) (N := 15) hx hb hts hin4 hown hK hP 0 rfl rfl 1 (by decide) (hts (.fieldLink RX7 7 "FieldTraceModel" "isSet" "[Z") (by decide +kernel)) (fun _ h9 => h9) rfl dX7_takes_58 ?_
              refine lv_iload hx hb dX7_takes_61 (lv_at hl 7 rfl) ?_
              refine va_zald hx hb hK hP 1 2 rfl rfl (n_lt hs hk hinv45.2 c16) dX7_takes_63 ?_
              refine lv_if_eq (tgt := 71) hx hb dX7_takes_64 (by decide) (fun c18 => ?_) (fun c18 => ?_)
              · exact kJ71 _ _ _ (by rw [hL45, f_X7_takes_L45, if_neg c16, if_neg c17, if_pos c18]) hP hS (lv_sub hl [0, 1, 2, 3, 4, 5, 6, 7] rfl)
              · refine lv_iconst (v := 1) hx hb dX7_takes_67 (by decide) ?_
                refine lv_goto (tgt := 72) hx hb dX7_takes_68 (by decide) ?_
                exact kJ72 1 _ _ _ (Or.inr rfl) (by rw [hL45, f_X7_takes_L45, if_neg c16, if_neg c17, if_neg c18]) hP hS (lv_sub hl [0, 1, 2, 3, 4, 5, 6, 7] rfl)
      exact kL45 65 1 320 _ _ _ (by decide) (⟨Or.inr rfl, by decide⟩) (by rw [f_X7_takes, if_neg c1, if_pos c2]) hP hS (lv_sub hl [3, 4, 5, 6, 7, 2, 1, 0] rfl)
  · refine lv_iload_n hx hb dX7_takes_13 rfl (lv_at hl 4 rfl) ?_
    refine lv_if_ne (tgt := 30) hx hb dX7_takes_14 (by decide) (fun c19 => ?_) (fun c19 => ?_)
    · refine lv_iconst (v := 0) hx hb dX7_takes_30 (by decide) ?_
      exact q_rz hx hb hr hlocks (rfl) hS (Eq.symm (by rw [f_X7_takes, if_pos c1, if_neg c19])) dX7_takes_31
    · refine lv_lload hx hb dX7_takes_17 (lv_at hl 5 rfl) ?_
      refine lv_ldc2 (v := 65536) hx hb hown (hts (.constantLong RX7 88 (65536)) (by decide +kernel)) dX7_takes_19 ?_
      refine q_ge (tgt := 30) hx hb dX7_takes_22 dX7_takes_23 (by decide) (fun c20 => ?_) (fun c20 => ?_)
      · refine lv_iconst (v := 0) hx hb dX7_takes_30 (by decide) ?_
        exact q_rz hx hb hr hlocks (rfl) hS (Eq.symm (by rw [f_X7_takes, if_pos c1, if_pos c19, if_pos c20])) dX7_takes_31
      · refine lv_iconst (v := 1) hx hb dX7_takes_26 (by decide) ?_
        refine lv_goto (tgt := 31) hx hb dX7_takes_27 (by decide) ?_
        exact q_rz hx hb hr hlocks (rfl) hS (Eq.symm (by rw [f_X7_takes, if_pos c1, if_pos c19, if_neg c20])) dX7_takes_31

def f_X7_set (S : NS) (a0 : Int32) (a1 : Int32) (a2 : Int64) : NS :=
  (sN_number (sN_kind (sN_isSet S (upd (pN_isSet S) (a0 : Int32).toNatClampNeg (vp_nar .boolean 1))) (upd (pN_kind (sN_isSet S (upd (pN_isSet S) (a0 : Int32).toNatClampNeg (vp_nar .boolean 1)))) (a0 : Int32).toNatClampNeg a1)) (vp_updL (pN_number (sN_kind (sN_isSet S (upd (pN_isSet S) (a0 : Int32).toNatClampNeg (vp_nar .boolean 1))) (upd (pN_kind (sN_isSet S (upd (pN_isSet S) (a0 : Int32).toNatClampNeg (vp_nar .boolean 1)))) (a0 : Int32).toNatClampNeg a1))) (a0 : Int32).toNatClampNeg a2))

set_option maxHeartbeats 4000000 in
set_option maxRecDepth 100000 in
theorem c_X7_set (l : Launch) (D : va_G) (aN aIs aKd aNu aSg aVl aTs aTc : Nat) (cJ cI cZ : ClassId) (S : NS) (a0 : Int32) (a1 : Int32) (a2 : Int64) (hc : vp_in a0 384) : q_muV l yX7_set wsX7_set ({ frames := 0, cells := 0, slots := 0, locals := 0 }) D [(cJ, .long), (cI, .int), (cZ, .boolean)] (wN aN aIs aKd aNu aSg aVl aTs aTc cJ cI cZ S) [.ref aN, .int a0, .int a1, .long a2] (fun u => u = (f_X7_set S a0 a1 a2)) (fun u => (wN aN aIs aKd aNu aSg aVl aTs aTc cJ cI cZ u)) := by
  refine q_muV_of (cc := cX7_set) (maxL := 5) (ret := none) (plainFor_of_name (by decide)) rfl (Nat.le_of_ble_eq_true rfl) ?_
  intro p e s m below meth c ls A hx hb hr hml hown hts hlocks hP hK hD hA hS hl
  have hown : s.vm.findClass RX7 = some m.cls := hown
  have hl : lv_has ls 5 [(0, .ref aN), (1, .int a0), (2, .int a1), (3, .long a2)] := hl
  have hin4 : ∀ w ∈ wsX70, w ∈ wsX7_set := by decide +kernel
  refine lv_aload_n hx hb dX7_set_0 rfl (lv_at hl 0 rfl) ?_
  refine va_get (D := D) (ci := 4) (v := .ref aIs) (C := RX7) (T := TX7) (N := 15) hx hb hts hin4 hown hK hP 0 rfl rfl 1 (by decide) (hts (.fieldLink RX7 7 "FieldTraceModel" "isSet" "[Z") (by decide +kernel)) (fun _ h9 => h9) rfl dX7_set_1 ?_
  refine lv_iload_n hx hb dX7_set_4 rfl (lv_at hl 1 rfl) ?_
  refine lv_iconst (v := 1) hx hb dX7_set_5 (by decide) ?_
  refine va_zast hx hb hK hP hD hS 1 2 rfl rfl (hc) dX7_set_6 (fun H locs hP hD hS => ?_)
  have hP : va_P D vwCl (wN aN aIs aKd aNu aSg aVl aTs aTc cJ cI cZ (sN_isSet S (upd (pN_isSet S) (a0 : Int32).toNatClampNeg (vp_nar .boolean 1)))) H := hP
  have hD : va_D A (wN aN aIs aKd aNu aSg aVl aTs aTc cJ cI cZ (sN_isSet S (upd (pN_isSet S) (a0 : Int32).toNatClampNeg (vp_nar .boolean 1)))) := hD
  refine lv_aload_n hx hb dX7_set_7 rfl (lv_at hl 0 rfl) ?_
  refine va_get (D := D) (ci := 4) (v := .ref aKd) (C := RX7) (T := TX7) (N := 15) hx hb hts hin4 hown hK hP 0 rfl rfl 2 (by decide) (hts (.fieldLink RX7 13 "FieldTraceModel" "kind" "[I") (by decide +kernel)) (fun _ h9 => h9) rfl dX7_set_8 ?_
  refine lv_iload_n hx hb dX7_set_11 rfl (lv_at hl 1 rfl) ?_
  refine lv_iload_n hx hb dX7_set_12 rfl (lv_at hl 2 rfl) ?_
  refine va_iast hx hb hK hP hD hS 2 1 rfl rfl (hc) dX7_set_13 (fun H locs hP hD hS => ?_)
  have hP : va_P D vwCl (wN aN aIs aKd aNu aSg aVl aTs aTc cJ cI cZ (sN_kind (sN_isSet S (upd (pN_isSet S) (a0 : Int32).toNatClampNeg (vp_nar .boolean 1))) (upd (pN_kind (sN_isSet S (upd (pN_isSet S) (a0 : Int32).toNatClampNeg (vp_nar .boolean 1)))) (a0 : Int32).toNatClampNeg a1))) H := hP
  have hD : va_D A (wN aN aIs aKd aNu aSg aVl aTs aTc cJ cI cZ (sN_kind (sN_isSet S (upd (pN_isSet S) (a0 : Int32).toNatClampNeg (vp_nar .boolean 1))) (upd (pN_kind (sN_isSet S (upd (pN_isSet S) (a0 : Int32).toNatClampNeg (vp_nar .boolean 1)))) (a0 : Int32).toNatClampNeg a1))) := hD
  refine lv_aload_n hx hb dX7_set_14 rfl (lv_at hl 0 rfl) ?_
  refine va_get (D := D) (ci := 4) (v := .ref aNu) (C := RX7) (T := TX7) (N := 15) hx hb hts hin4 hown hK hP 0 rfl rfl 3 (by decide) (hts (.fieldLink RX7 17 "FieldTraceModel" "number" "[J") (by decide +kernel)) (fun _ h9 => h9) rfl dX7_set_15 ?_
  refine lv_iload_n hx hb dX7_set_18 rfl (lv_at hl 1 rfl) ?_
  refine lv_lload_n hx hb dX7_set_19 rfl (lv_at hl 3 rfl) ?_
  refine va_last hx hb hK hP hD hS 3 0 rfl rfl (hc) dX7_set_20 (fun H locs hP hD hS => ?_)
  have hP : va_P D vwCl (wN aN aIs aKd aNu aSg aVl aTs aTc cJ cI cZ (sN_number (sN_kind (sN_isSet S (upd (pN_isSet S) (a0 : Int32).toNatClampNeg (vp_nar .boolean 1))) (upd (pN_kind (sN_isSet S (upd (pN_isSet S) (a0 : Int32).toNatClampNeg (vp_nar .boolean 1)))) (a0 : Int32).toNatClampNeg a1)) (vp_updL (pN_number (sN_kind (sN_isSet S (upd (pN_isSet S) (a0 : Int32).toNatClampNeg (vp_nar .boolean 1))) (upd (pN_kind (sN_isSet S (upd (pN_isSet S) (a0 : Int32).toNatClampNeg (vp_nar .boolean 1)))) (a0 : Int32).toNatClampNeg a1))) (a0 : Int32).toNatClampNeg a2))) H := hP
  have hD : va_D A (wN aN aIs aKd aNu aSg aVl aTs aTc cJ cI cZ (sN_number (sN_kind (sN_isSet S (upd (pN_isSet S) (a0 : Int32).toNatClampNeg (vp_nar .boolean 1))) (upd (pN_kind (sN_isSet S (upd (pN_isSet S) (a0 : Int32).toNatClampNeg (vp_nar .boolean 1)))) (a0 : Int32).toNatClampNeg a1)) (vp_updL (pN_number (sN_kind (sN_isSet S (upd (pN_isSet S) (a0 : Int32).toNatClampNeg (vp_nar .boolean 1))) (upd (pN_kind (sN_isSet S (upd (pN_isSet S) (a0 : Int32).toNatClampNeg (vp_nar .boolean 1)))) (a0 : Int32).toNatClampNeg a1))) (a0 : Int32).toNatClampNeg a2))) := hD
  exact q_mv (sN_number (sN_kind (sN_isSet S (upd (pN_isSet S) (a0 : Int32).toNatClampNeg (vp_nar .boolean 1))) (upd (pN_kind (sN_isSet S (upd (pN_isSet S) (a0 : Int32).toNatClampNeg (vp_nar .boolean 1)))) (a0 : Int32).toNatClampNeg a1)) (vp_updL (pN_number (sN_kind (sN_isSet S (upd (pN_isSet S) (a0 : Int32).toNatClampNeg (vp_nar .boolean 1))) (upd (pN_kind (sN_isSet S (upd (pN_isSet S) (a0 : Int32).toNatClampNeg (vp_nar .boolean 1)))) (a0 : Int32).toNatClampNeg a1))) (a0 : Int32).toNatClampNeg a2)) hx hb hr hlocks hP hD hS (Eq.symm (by rw [f_X7_set])) dX7_set_21


theorem n_nar {x : Int32} (h : vp_in x 6) : vp_in x 6 := h
theorem ok_X7_set {R : Int32} {S : NS} {a0 a1 : Int32} {a2 : Int64} (h : n_ok R S) (hs : vp_in a1 6) : n_ok R (f_X7_set S a0 a1 a2) := ⟨h.1, n_upd h.2.1 hs, h.2.2.1, h.2.2.2.1, h.2.2.2.2⟩

def f_X7_written_L148 (a0 : Int32) (a1 : Int64) : Nat → Int32 → NS → Int32 × NS
  | 0, _, _ => default
  | fu_148 + 1, v10_148, S_148 => (if 5 ≤ v10_148 then (1, S_148) else (f_X7_written_L148 a0 a1 fu_148 (v10_148 + 1) (f_X7_set S_148 ((((64 * a0) + ((a1 : Int64).toInt32)) - (((a1 : Int64).toInt32) - ((a1 : Int64).toInt32) / 5 * 5)) + v10_148) 0 (f_X7_bits v10_148 ((pN_number S_148) (((64 * a0) + ((a1 : Int64).toInt32)) - (((a1 : Int64).toInt32) - ((a1 : Int64).toInt32) / 5 * 5)).toNatClampNeg) ((pN_number S_148) ((((64 * a0) + ((a1 : Int64).toInt32)) - (((a1 : Int64).toInt32) - ((a1 : Int64).toInt32) / 5 * 5)) + 1).toNatClampNeg)))))

def f_X7_written (S : NS) (a0 : Int32) (a1 : Int64) (a2 : Int32) (a3 : Int64) : Int32 × NS :=
  (if (f_X7_isCell a1) = 0 then (0, S) else (if ((pN_isSet S) ((64 * a0) + ((a1 : Int64).toInt32)).toNatClampNeg) = 0 then (if (f_X7_takes S a0 ((a1 : Int64).toInt32) a2 a3) = 0 then (0, S) else (if a0 = 4 then (if 2 ≤ (((a1 : Int64).toInt32) - ((a1 : Int64).toInt32) / 5 * 5) then (1, (f_X7_set S ((64 * a0) + ((a1 : Int64).toInt32)) a2 a3)) else (if 60 ≤ (((a1 : Int64).toInt32) - (((a1 : Int64).toInt32) - ((a1 : Int64).toInt32) / 5 * 5)) then (1, (f_X7_set S ((64 * a0) + ((a1 : Int64).toInt32)) a2 a3)) else (if ((pN_isSet (f_X7_set S ((64 * a0) + ((a1 : Int64).toInt32)) a2 a3)) (((64 * a0) + ((a1 : Int64).toInt32)) - (((a1 : Int64).toInt32) - ((a1 : Int64).toInt32) / 5 * 5)).toNatClampNeg) = 0 then (1, (f_X7_set S ((64 * a0) + ((a1 : Int64).toInt32)) a2 a3)) else (if ((pN_isSet (f_X7_set S ((64 * a0) + ((a1 : Int64).toInt32)) a2 a3)) ((((64 * a0) + ((a1 : Int64).toInt32)) - (((a1 : Int64).toInt32) - ((a1 : Int64).toInt32) / 5 * 5)) + 1).toNatClampNeg) = 0 then (1, (f_X7_set S ((64 * a0) + ((a1 : Int64).toInt32)) a2 a3)) else (f_X7_written_L148 a0 a1 4 2 (f_X7_set S ((64 * a0) + ((a1 : Int64).toInt32)) a2 a3)))))) else (1, (f_X7_set S ((64 * a0) + ((a1 : Int64).toInt32)) a2 a3)))) else (if ((pN_kind S) ((64 * a0) + ((a1 : Int64).toInt32)).toNatClampNeg) = a2 then (if ((pN_number S) ((64 * a0) + ((a1 : Int64).toInt32)).toNatClampNeg) = a3 then (1, S) else (0, S)) else (0, S))))

set_option maxHeartbeats 4000000 in
set_option maxRecDepth 100000 in
theorem c_X7_written (l : Launch) (D : va_G) (aN aIs aKd aNu aSg aVl aTs aTc : Nat) (cJ cI cZ : ClassId) (S : NS) (a0 : Int32) (a1 : Int64) (a2 : Int32) (a3 : Int64) (hs : vp_in a0 6) : q_muI l yX7_written wsX7_written ({ frames := 2, cells := 0, slots := 0, locals := 54 }) D [(cJ, .long), (cI, .int), (cZ, .boolean)] (wN aN aIs aKd aNu aSg aVl aTs aTc cJ cI cZ S) [.ref aN, .int a0, .long a1, .int a2, .long a3] (fun r u => r = (f_X7_written S a0 a1 a2 a3).1 ∧ u = (f_X7_written S a0 a1 a2 a3).2) (fun u => (wN aN aIs aKd aNu aSg aVl aTs aTc cJ cI cZ u)) := by
  refine q_muI_of (cc := cX7_written) (maxL := 11) (ret := (some .boolean)) (plainFor_of_name (by decide)) rfl (Nat.le_of_ble_eq_true rfl) ?_
  intro p e s m below meth c ls A hx hb hr hml hown hts hlocks hP hK hD hA hS hl
  have hown : s.vm.findClass RX7 = some m.cls := hown
  have hl : lv_has ls 11 [(0, .ref aN), (1, .int a0), (2, .long a1), (4, .int a2), (5, .long a3)] := hl
  have hfix : CallFix p m c cX7_written 11 s [.ref aN, .int a0, .long a1, .int a2, .long a3].toArray wsX7_written RX7 := ⟨hx, hb, hml, hown, hts⟩
  have hin4 : ∀ w ∈ wsX70, w ∈ wsX7_written := by decide +kernel
  refine lv_lload_n hx hb dX7_written_0 rfl (lv_at hl 2 rfl) ?_
  refine q_callSi (As := [.long a1]) (rest := []) (c_X7_isCell l D a1) hfix (va_cwS 1 hts gX7_written_X7_isCell rfl rfl rfl (by decide +kernel) ⟨Nat.le_of_ble_eq_true rfl, Nat.le_of_ble_eq_true rfl⟩) rfl hl.1 rfl (Nat.le_of_ble_eq_true rfl) ⟨Nat.zero_le _, Nat.zero_le _⟩ hP hK hS hA [] [] rfl rfl dX7_written_1 (fun H locs hP hS => ?_)
  refine lv_if_ne (tgt := 9) hx hb dX7_written_4 (by decide) (fun c1 => ?_) (fun c1 => ?_)
  · refine lv_lload_n hx hb dX7_written_9 rfl (lv_at hl 2 rfl) ?_
    refine lv_l2i hx hb dX7_written_10 rfl ?_
    refine lv_istore (lv' := [(7, .int ((a1 : Int64).toInt32)), (0, .ref aN), (1, .int a0), (2, .long a1), (4, .int a2), (5, .long a3)]) hx hb dX7_written_11 hl (by decide) rfl (fun ls hl => ?_)
    refine lv_bipush (v := 64) hx hb dX7_written_13 (by decide) ?_
    refine lv_iload_n hx hb dX7_written_15 rfl (lv_at hl 2 rfl) ?_
    refine lv_imul hx hb dX7_written_16 ?_
    refine lv_iload hx hb dX7_written_17 (lv_at hl 0 rfl) ?_
    refine lv_iadd hx hb dX7_written_19 ?_
    refine lv_istore (lv' := [(8, .int ((64 * a0) + ((a1 : Int64).toInt32))), (7, .int ((a1 : Int64).toInt32)), (0, .ref aN), (1, .int a0), (2, .long a1), (4, .int a2), (5, .long a3)]) hx hb dX7_written_20 hl (by decide) rfl (fun ls hl => ?_)
    refine lv_aload_n hx hb dX7_written_22 rfl (lv_at hl 2 rfl) ?_
    refine va_get (D := D) (ci := 4) (v := .ref aIs) (C := RX7) (T := TX7) (N := 15) hx hb hts hin4 hown hK hP 0 rfl rfl 1 (by decide) (hts (.fieldLink RX7 7 "FieldTraceModel" "isSet" "[Z") (by decide +kernel)) (fun _ h9 => h9) rfl dX7_written_23 ?_
    refine lv_iload hx hb dX7_written_26 (lv_at hl 0 rfl) ?_
    refine va_zald hx hb hK hP 1 2 rfl rfl (n_c hs (n_cel c1)) dX7_written_28 ?_
    refine lv_if_eq (tgt := 63) hx hb dX7_written_29 (by decide) (fun c2 => ?_) (fun c2 => ?_)
    · refine lv_aload_n hx hb dX7_written_63 rfl (lv_at hl 2 rfl) ?_
      refine lv_iload_n hx hb dX7_written_64 rfl (lv_at hl 3 rfl) ?_
      refine lv_iload hx hb dX7_written_65 (lv_at hl 1 rfl) ?_
      refine lv_iload hx hb dX7_written_67 (lv_at hl 5 rfl) ?_
      refine lv_lload hx hb dX7_written_69 (lv_at hl 6 rfl) ?_
      refine q_callVi (As := [.int a0, .int ((a1 : Int64).toInt32), .int a2, .long a3]) (rest := []) (q0 := 0) (ci := 4) (C := RX7) (c_X7_takes l D aN aIs aKd aNu aSg aVl aTs aTc cJ cI cZ S a0 ((a1 : Int64).toInt32) a2 a3 (hs) (n_cel c1)) hfix (cwV 4 hts gX7_written_X7_takes rfl rfl rfl (by decide +kernel) ⟨Nat.le_of_ble_eq_true rfl, Nat.le_of_ble_eq_true rfl⟩) rfl hl.1 rfl (Nat.le_of_ble_eq_true rfl) ⟨Nat.zero_le _, Nat.zero_le _⟩ hP hK hS hA [0, 1, 2, 3, 4, 5, 6, 7] [0, 1, 2] rfl rfl rfl rfl rfl dX7_written_71 (fun H locs hP hS => ?_)
      refine lv_if_ne (tgt := 79) hx hb dX7_written_74 (by decide) (fun c3 => ?_) (fun c3 => ?_)
      · refine lv_aload_n hx hb dX7_written_79 rfl (lv_at hl 2 rfl) ?_
        refine lv_iload hx hb dX7_written_80 (lv_at hl 0 rfl) ?_
        refine lv_iload hx hb dX7_written_82 (lv_at hl 5 rfl) ?_
        refine lv_lload hx hb dX7_written_84 (lv_at hl 6 rfl) ?_
        refine q_callMv (As := [.int ((64 * a0) + ((a1 : Int64).toInt32)), .int a2, .long a3]) (rest := []) (wr := []) (Wn := (fun u => (wN aN aIs aKd aNu aSg aVl aTs aTc cJ cI cZ u))) (q0 := 0) (ci := 4) (C := RX7) (c_X7_set l D aN aIs aKd aNu aSg aVl aTs aTc cJ cI cZ S ((64 * a0) + ((a1 : Int64).toInt32)) a2 a3 (n_c hs (n_cel c1))) hfix (cwV 3 hts gX7_written_X7_set rfl rfl rfl (by decide +kernel) ⟨Nat.le_of_ble_eq_true rfl, Nat.le_of_ble_eq_true rfl⟩) rfl hl.1 rfl (Nat.le_of_ble_eq_true rfl) ⟨Nat.zero_le _, Nat.zero_le _⟩ hP hK hD hS hA [0, 1, 2, 3, 4, 5, 6, 7] [] [0, 1, 2, 3, 4, 5, 6, 7] [0, 1, 2] rfl rfl rfl (by decide) (by decide) (by decide) (by decide) (fun _ => rfl) (fun _ => rfl) rfl rfl rfl rfl dX7_written_86 (fun u H locs hw hP hD hS => ?_)
        obtain rfl := hw
        have hP : va_P D vwCl (wN aN aIs aKd aNu aSg aVl aTs aTc cJ cI cZ (f_X7_set S ((64 * a0) + ((a1 : Int64).toInt32)) a2 a3)) H := hP
        have hD : va_D A (wN aN aIs aKd aNu aSg aVl aTs aTc cJ cI cZ (f_X7_set S ((64 * a0) + ((a1 : Int64).toInt32)) a2 a3)) := hD
        refine lv_iload hx hb dX7_written_89 (lv_at hl 0 rfl) ?_
        refine lv_iload hx hb dX7_written_91 (lv_at hl 1 rfl) ?_
        refine lv_iconst (v := 5) hx hb dX7_written_93 (by decide) ?_
        refine lv_irem hx hb dX7_written_94 (by decide) ?_
        refine lv_isub hx hb dX7_written_95 ?_
        refine lv_istore (lv' := [(9, .int (((64 * a0) + ((a1 : Int64).toInt32)) - (((a1 : Int64).toInt32) - ((a1 : Int64).toInt32) / 5 * 5))), (8, .int ((64 * a0) + ((a1 : Int64).toInt32))), (7, .int ((a1 : Int64).toInt32)), (0, .ref aN), (1, .int a0), (2, .long a1), (4, .int a2), (5, .long a3)]) hx hb dX7_written_96 hl (by decide) rfl (fun ls hl => ?_)
        refine lv_iload_n hx hb dX7_written_98 rfl (lv_at hl 4 rfl) ?_
        refine lv_iconst (v := 4) hx hb dX7_written_99 (by decide) ?_
        refine lv_icmp_ne (tgt := 191) hx hb dX7_written_100 (by decide) (fun c4 => ?_) (fun c4 => ?_)
        · refine lv_iconst (v := 1) hx hb dX7_written_191 (by decide) ?_
          exact q_mz (f_X7_set S ((64 * a0) + ((a1 : Int64).toInt32)) a2 a3) hx hb hr hlocks (rfl) hP hD hS (q_pair (by rw [f_X7_written, if_neg c1, if_pos c2, if_neg c3, if_neg c4])) dX7_written_192
        · refine lv_iload hx hb dX7_written_103 (lv_at hl 2 rfl) ?_
          refine lv_iconst (v := 5) hx hb dX7_written_105 (by decide) ?_
          refine lv_irem hx hb dX7_written_106 (by decide) ?_
          refine lv_iconst (v := 2) hx hb dX7_written_107 (by decide) ?_
          refine lv_icmp_ge (tgt := 191) hx hb dX7_written_108 (by decide) (fun c5 => ?_) (fun c5 => ?_)
          · refine lv_iconst (v := 1) hx hb dX7_written_191 (by decide) ?_
            exact q_mz (f_X7_set S ((64 * a0) + ((a1 : Int64).toInt32)) a2 a3) hx hb hr hlocks (rfl) hP hD hS (q_pair (by rw [f_X7_written, if_neg c1, if_pos c2, if_neg c3, if_pos c4, if_pos c5])) dX7_written_192
          · refine lv_iload hx hb dX7_written_111 (lv_at hl 2 rfl) ?_
            refine lv_iload hx hb dX7_written_113 (lv_at hl 2 rfl) ?_
            refine lv_iconst (v := 5) hx hb dX7_written_115 (by decide) ?_
            refine lv_irem hx hb dX7_written_116 (by decide) ?_
            refine lv_isub hx hb dX7_written_117 ?_
            refine lv_bipush (v := 60) hx hb dX7_written_118 (by decide) ?_
            refine lv_icmp_ge (tgt := 191) hx hb dX7_written_120 (by decide) (fun c6 => ?_) (fun c6 => ?_)
            · refine lv_iconst (v := 1) hx hb dX7_written_191 (by decide) ?_
              exact q_mz (f_X7_set S ((64 * a0) + ((a1 : Int64).toInt32)) a2 a3) hx hb hr hlocks (rfl) hP hD hS (q_pair (by rw [f_X7_written, if_neg c1, if_pos c2, if_neg c3, if_pos c4, if_neg c5, if_pos c6])) dX7_written_192
            · refine lv_aload_n hx hb dX7_written_123 rfl (lv_at hl 3 rfl) ?_
              refine va_get (D := D) (ci := 4) (v := .ref aIs) (C := RX7) (T := TX7) (N := 15) hx hb hts hin4 hown hK hP 0 rfl rfl 1 (by decide) (hts (.fieldLink RX7 7 "FieldTraceModel" "isSet" "[Z") (by decide +kernel)) (fun _ h9 => h9) rfl dX7_written_124 ?_
              refine lv_iload hx hb dX7_written_127 (lv_at hl 0 rfl) ?_
              refine va_zald hx hb hK hP 1 2 rfl rfl ((n_b0 c4 (n_cel c1)).1) dX7_written_129 ?_
              refine lv_if_eq (tgt := 191) hx hb dX7_written_130 (by decide) (fun c7 => ?_) (fun c7 => ?_)
              · refine lv_iconst (v := 1) hx hb dX7_written_191 (by decide) ?_
                exact q_mz (f_X7_set S ((64 * a0) + ((a1 : Int64).toInt32)) a2 a3) hx hb hr hlocks (rfl) hP hD hS (q_pair (by rw [f_X7_written, if_neg c1, if_pos c2, if_neg c3, if_pos c4, if_neg c5, if_neg c6, if_pos c7])) dX7_written_192
              · refine lv_aload_n hx hb dX7_written_133 rfl (lv_at hl 3 rfl) ?_
                refine va_get (D := D) (ci := 4) (v := .ref aIs) (C := RX7) (T := TX7) (N := 15) hx hb hts hin4 hown hK hP 0 rfl rfl 1 (by decide) (hts (.fieldLink RX7 7 "FieldTraceModel" "isSet" "[Z") (by decide +kernel)) (fun _ h9 => h9) rfl dX7_written_134 ?_
                refine lv_iload hx hb dX7_written_137 (lv_at hl 0 rfl) ?_
                refine lv_iconst (v := 1) hx hb dX7_written_139 (by decide) ?_
                refine lv_iadd hx hb dX7_written_140 ?_
                refine va_zald hx hb hK hP 1 2 rfl rfl ((n_b0 c4 (n_cel c1)).2) dX7_written_141 ?_
                refine lv_if_eq (tgt := 191) hx hb dX7_written_142 (by decide) (fun c8 => ?_) (fun c8 => ?_)
                · refine lv_iconst (v := 1) hx hb dX7_written_191 (by decide) ?_
                  exact q_mz (f_X7_set S ((64 * a0) + ((a1 : Int64).toInt32)) a2 a3) hx hb hr hlocks (rfl) hP hD hS (q_pair (by rw [f_X7_written, if_neg c1, if_pos c2, if_neg c3, if_pos c4, if_neg c5, if_neg c6, if_neg c7, if_pos c8])) dX7_written_192
                · refine lv_iconst (v := 2) hx hb dX7_written_145 (by decide) ?_
                  refine lv_istore (lv' := [(10, .int 2), (9, .int (((64 * a0) + ((a1 : Int64).toInt32)) - (((a1 : Int64).toInt32) - ((a1 : Int64).toInt32) / 5 * 5))), (8, .int ((64 * a0) + ((a1 : Int64).toInt32))), (7, .int ((a1 : Int64).toInt32)), (0, .ref aN), (1, .int a0), (2, .long a1), (4, .int a2), (5, .long a3)]) hx hb dX7_written_146 hl (by decide) rfl (fun ls hl => ?_)
                  have kL148 : ∀ (fu_148 : Nat) (v10_148 : Int32) (S_148 : NS) (H : Heap) (locs : List Loc) (ls : Array Slot), ((5 : Int) - v10_148.toInt).toNat < fu_148 → 0 ≤ v10_148 → (f_X7_written S a0 a1 a2 a3) = (f_X7_written_L148 a0 a1 fu_148 v10_148 S_148) → va_P D vwCl (wN aN aIs aKd aNu aSg aVl aTs aTc cJ cI cZ S_148) H → va_D A (wN aN aIs aKd aNu aSg aVl aTs aTc cJ cI cZ S_148) → va_S A s.heap H locs → lv_has ls 11 [(0, .ref aN), (1, .int a0), (2, .long a1), (4, .int a2), (5, .long a3), (7, .int ((a1 : Int64).toInt32)), (8, .int ((64 * a0) + ((a1 : Int64).toInt32))), (9, .int (((64 * a0) + ((a1 : Int64).toInt32)) - (((a1 : Int64).toInt32) - ((a1 : Int64).toInt32) / 5 * 5))), (10, .int v10_148)] → W p l e ({ frames := 2, cells := 0, slots := 0, locals := 54 }) s m [.ref aN, .int a0, .long a1, .int a2, .long a3].toArray below meth c H locs 0 0 (MQ below (va_Qi (fun r u => r = (f_X7_written S a0 a1 a2 a3).1 ∧ u = (f_X7_written S a0 a1 a2 a3).2) (fun u t => va_P D vwCl ((fun u => (wN aN aIs aKd aNu aSg aVl aTs aTc cJ cI cZ u)) u) t.heap ∧ va_D A ((fun u => (wN aN aIs aKd aNu aSg aVl aTs aTc cJ cI cZ u)) u)) A) [.ref aN, .int a0, .long a1, .int a2, .long a3].toArray s 0 0 A) (F0 m 148 ls []) := by
                    intro fu_148
                    induction fu_148 with
                    | zero => intro v10_148 S_148 H locs ls hmu; exact absurd hmu (Nat.not_lt_zero _)
                    | succ fu_148 ih148 =>
                      intro v10_148 S_148 H locs ls hmu148 hinv148 hL148 hP hD hS hl
                      refine lv_iload hx hb dX7_written_148 (lv_at hl 8 rfl) ?_
                      refine lv_iconst (v := 5) hx hb dX7_written_150 (by decide) ?_
                      refine lv_icmp_ge (tgt := 191) hx hb dX7_written_151 (by decide) (fun c9 => ?_) (fun c9 => ?_)
                      · refine lv_iconst (v := 1) hx hb dX7_written_191 (by decide) ?_
                        exact q_mz S_148 hx hb hr hlocks (rfl) hP hD hS (q_pair (by rw [hL148, f_X7_written_L148, if_pos c9])) dX7_written_192
                      · refine lv_aload_n hx hb dX7_written_154 rfl (lv_at hl 0 rfl) ?_
                        refine lv_iload hx hb dX7_written_155 (lv_at hl 7 rfl) ?_
                        refine lv_iload hx hb dX7_written_157 (lv_at hl 8 rfl) ?_
                        refine lv_iadd hx hb dX7_written_159 ?_
                        refine lv_iconst (v := 0) hx hb dX7_written_160 (by decide) ?_
                        refine lv_iload hx hb dX7_written_161 (lv_at hl 8 rfl) ?_
                        refine lv_aload_n hx hb dX7_written_163 rfl (lv_at hl 0 rfl) ?_
                        refine va_get (D := D) (ci := 4) (v := .ref aNu) (C := RX7) (T := TX7) (N := 15) hx hb hts hin4 hown hK hP 0 rfl rfl 3 (by decide) (hts (.fieldLink RX7 17 "FieldTraceModel" "number" "[J") (by decide +kernel)) (fun _ h9 => h9) rfl dX7_written_164 ?_
                        refine lv_iload hx hb dX7_written_167 (lv_at hl 7 rfl) ?_
                        refine va_lald hx hb hK hP 3 0 rfl rfl ((n_b0 c4 (n_cel c1)).1) dX7_written_169 ?_
                        refine lv_aload_n hx hb dX7_written_170 rfl (lv_at hl 0 rfl) ?_
                        refine va_get (D := D) (ci := 4) (v := .ref aNu) (C := RX7) (T := TX7) (N := 15) hx hb hts hin4 hown hK hP 0 rfl rfl 3 (by decide) (hts (.fieldLink RX7 17 "FieldTraceModel" "number" "[J") (by decide +kernel)) (fun _ h9 => h9) rfl dX7_written_171 ?_
                        refine lv_iload hx hb dX7_written_174 (lv_at hl 7 rfl) ?_
                        refine lv_iconst (v := 1) hx hb dX7_written_176 (by decide) ?_
                        refine lv_iadd hx hb dX7_written_177 ?_
                        refine va_lald hx hb hK hP 3 0 rfl rfl ((n_b0 c4 (n_cel c1)).2) dX7_written_178 ?_
                        refine q_callSl (As := [.int v10_148, .long ((pN_number S_148) (((64 * a0) + ((a1 : Int64).toInt32)) - (((a1 : Int64).toInt32) - ((a1 : Int64).toInt32) / 5 * 5)).toNatClampNeg), .long ((pN_number S_148) ((((64 * a0) + ((a1 : Int64).toInt32)) - (((a1 : Int64).toInt32) - ((a1 : Int64).toInt32) / 5 * 5)) + 1).toNatClampNeg)]) (rest := [.int 0, .int ((((64 * a0) + ((a1 : Int64).toInt32)) - (((a1 : Int64).toInt32) - ((a1 : Int64).toInt32) / 5 * 5)) + v10_148), .ref aN]) (c_X7_bits l D v10_148 ((pN_number S_148) (((64 * a0) + ((a1 : Int64).toInt32)) - (((a1 : Int64).toInt32) - ((a1 : Int64).toInt32) / 5 * 5)).toNatClampNeg) ((pN_number S_148) ((((64 * a0) + ((a1 : Int64).toInt32)) - (((a1 : Int64).toInt32) - ((a1 : Int64).toInt32) / 5 * 5)) + 1).toNatClampNeg)) hfix (va_cwS 3 hts gX7_written_X7_bits rfl rfl rfl (by decide +kernel) ⟨Nat.le_of_ble_eq_true rfl, Nat.le_of_ble_eq_true rfl⟩) rfl hl.1 rfl (Nat.le_of_ble_eq_true rfl) ⟨Nat.zero_le _, Nat.zero_le _⟩ hP hK hS hA [] [] rfl rfl dX7_written_179 (fun H locs hP hS => ?_)
                        refine q_callMv (As := [.int ((((64 * a0) + ((a1 : Int64).toInt32)) - (((a1 : Int64).toInt32) - ((a1 : Int64).toInt32) / 5 * 5)) + v10_148), .int 0, .long (f_X7_bits v10_148 ((pN_number S_148) (((64 * a0) + ((a1 : Int64).toInt32)) - (((a1 : Int64).toInt32) - ((a1 : Int64).toInt32) / 5 * 5)).toNatClampNeg) ((pN_number S_148) ((((64 * a0) + ((a1 : Int64).toInt32)) - (((a1 : Int64).toInt32) - ((a1 : Int64).toInt32) / 5 * 5)) + 1).toNatClampNeg))]) (rest := []) (wr := []) (Wn := (fun u => (wN aN aIs aKd aNu aSg aVl aTs aTc cJ cI cZ u))) (q0 := 0) (ci := 4) (C := RX7) (c_X7_set l D aN aIs aKd aNu aSg aVl aTs aTc cJ cI cZ S_148 ((((64 * a0) + ((a1 : Int64).toInt32)) - (((a1 : Int64).toInt32) - ((a1 : Int64).toInt32) / 5 * 5)) + v10_148) 0 (f_X7_bits v10_148 ((pN_number S_148) (((64 * a0) + ((a1 : Int64).toInt32)) - (((a1 : Int64).toInt32) - ((a1 : Int64).toInt32) / 5 * 5)).toNatClampNeg) ((pN_number S_148) ((((64 * a0) + ((a1 : Int64).toInt32)) - (((a1 : Int64).toInt32) - ((a1 : Int64).toInt32) / 5 * 5)) + 1).toNatClampNeg)) (n_bi c4 (n_cel c1) hinv148 c9)) hfix (cwV 3 hts gX7_written_X7_set rfl rfl rfl (by decide +kernel) ⟨Nat.le_of_ble_eq_true rfl, Nat.le_of_ble_eq_true rfl⟩) rfl hl.1 rfl (Nat.le_of_ble_eq_true rfl) ⟨Nat.zero_le _, Nat.zero_le _⟩ hP hK hD hS hA [0, 1, 2, 3, 4, 5, 6, 7] [] [0, 1, 2, 3, 4, 5, 6, 7] [0, 1, 2] rfl rfl rfl (by decide) (by decide) (by decide) (by decide) (fun _ => rfl) (fun _ => rfl) rfl rfl rfl rfl dX7_written_182 (fun u H locs hw hP hD hS => ?_)
                        obtain rfl := hw
                        have hP : va_P D vwCl (wN aN aIs aKd aNu aSg aVl aTs aTc cJ cI cZ (f_X7_set S_148 ((((64 * a0) + ((a1 : Int64).toInt32)) - (((a1 : Int64).toInt32) - ((a1 : Int64).toInt32) / 5 * 5)) + v10_148) 0 (f_X7_bits v10_148 ((pN_number S_148) (((64 * a0) + ((a1 : Int64).toInt32)) - (((a1 : Int64).toInt32) - ((a1 : Int64).toInt32) / 5 * 5)).toNatClampNeg) ((pN_number S_148) ((((64 * a0) + ((a1 : Int64).toInt32)) - (((a1 : Int64).toInt32) - ((a1 : Int64).toInt32) / 5 * 5)) + 1).toNatClampNeg)))) H := hP
                        have hD : va_D A (wN aN aIs aKd aNu aSg aVl aTs aTc cJ cI cZ (f_X7_set S_148 ((((64 * a0) + ((a1 : Int64).toInt32)) - (((a1 : Int64).toInt32) - ((a1 : Int64).toInt32) / 5 * 5)) + v10_148) 0 (f_X7_bits v10_148 ((pN_number S_148) (((64 * a0) + ((a1 : Int64).toInt32)) - (((a1 : Int64).toInt32) - ((a1 : Int64).toInt32) / 5 * 5)).toNatClampNeg) ((pN_number S_148) ((((64 * a0) + ((a1 : Int64).toInt32)) - (((a1 : Int64).toInt32) - ((a1 : Int64).toInt32) / 5 * 5)) + 1).toNatClampNeg)))) := hD
                        refine lv_iinc (v := v10_148 + 1) (lv' := [(10, .int (v10_148 + 1)), (0, .ref aN), (1, .int a0), (2, .long a1), (4, .int a2), (5, .long a3), (7, .int ((a1 : Int64).toInt32)), (8, .int ((64 * a0) + ((a1 : Int64).toInt32))), (9, .int (((64 * a0) + ((a1 : Int64).toInt32)) - (((a1 : Int64).toInt32) - ((a1 : Int64).toInt32) / 5 * 5)))]) hx hb dX7_written_185 hl (k := 8) rfl rfl (by decide) rfl (fun ls hl => ?_)
                        refine lv_goto (tgt := 148) hx hb dX7_written_188 (by decide) ?_
                        exact ih148 (v10_148 + 1) (f_X7_set S_148 ((((64 * a0) + ((a1 : Int64).toInt32)) - (((a1 : Int64).toInt32) - ((a1 : Int64).toInt32) / 5 * 5)) + v10_148) 0 (f_X7_bits v10_148 ((pN_number S_148) (((64 * a0) + ((a1 : Int64).toInt32)) - (((a1 : Int64).toInt32) - ((a1 : Int64).toInt32) / 5 * 5)).toNatClampNeg) ((pN_number S_148) ((((64 * a0) + ((a1 : Int64).toInt32)) - (((a1 : Int64).toInt32) - ((a1 : Int64).toInt32) / 5 * 5)) + 1).toNatClampNeg))) _ _ _ (q_dec rfl c9 hmu148) (n_inc0 hinv148 c9) (by rw [hL148, f_X7_written_L148, if_neg c9]) hP hD hS (lv_sub hl [1, 2, 3, 4, 5, 6, 7, 8, 0] rfl)
                  exact kL148 4 2 (f_X7_set S ((64 * a0) + ((a1 : Int64).toInt32)) a2 a3) _ _ _ (by decide) (by decide) (by rw [f_X7_written, if_neg c1, if_pos c2, if_neg c3, if_pos c4, if_neg c5, if_neg c6, if_neg c7, if_neg c8]) hP hD hS (lv_sub hl [4, 5, 6, 7, 8, 3, 2, 1, 0] rfl)
      · refine lv_iconst (v := 0) hx hb dX7_written_77 (by decide) ?_
        exact q_mz S hx hb hr hlocks (rfl) hP hD hS (q_pair (by rw [f_X7_written, if_neg c1, if_pos c2, if_pos c3])) dX7_written_78
    · refine lv_aload_n hx hb dX7_written_32 rfl (lv_at hl 2 rfl) ?_
      refine va_get (D := D) (ci := 4) (v := .ref aKd) (C := RX7) (T := TX7) (N := 15) hx hb hts hin4 hown hK hP 0 rfl rfl 2 (by decide) (hts (.fieldLink RX7 13 "FieldTraceModel" "kind" "[I") (by decide +kernel)) (fun _ h9 => h9) rfl dX7_written_33 ?_
      refine lv_iload hx hb dX7_written_36 (lv_at hl 0 rfl) ?_
      refine va_iald hx hb hK hP 2 1 rfl rfl (n_c hs (n_cel c1)) dX7_written_38 ?_
      refine lv_iload hx hb dX7_written_39 (lv_at hl 5 rfl) ?_
      refine lv_icmp_ne (tgt := 61) hx hb dX7_written_41 (by decide) (fun c10 => ?_) (fun c10 => ?_)
      · refine lv_iconst (v := 0) hx hb dX7_written_61 (by decide) ?_
        exact q_mz S hx hb hr hlocks (rfl) hP hD hS (q_pair (by rw [f_X7_written, if_neg c1, if_neg c2, if_neg c10])) dX7_written_62
      · refine lv_aload_n hx hb dX7_written_44 rfl (lv_at hl 2 rfl) ?_
        refine va_get (D := D) (ci := 4) (v := .ref aNu) (C := RX7) (T := TX7) (N := 15) hx hb hts hin4 hown hK hP 0 rfl rfl 3 (by decide) (hts (.fieldLink RX7 17 "FieldTraceModel" "number" "[J") (by decide +kernel)) (fun _ h9 => h9) rfl dX7_written_45 ?_
        refine lv_iload hx hb dX7_written_48 (lv_at hl 0 rfl) ?_
        refine va_lald hx hb hK hP 3 0 rfl rfl (n_c hs (n_cel c1)) dX7_written_50 ?_
        refine lv_lload hx hb dX7_written_51 (lv_at hl 6 rfl) ?_
        refine q_ne (tgt := 61) hx hb dX7_written_53 dX7_written_54 (by decide) (fun c11 => ?_) (fun c11 => ?_)
        · refine lv_iconst (v := 0) hx hb dX7_written_61 (by decide) ?_
          exact q_mz S hx hb hr hlocks (rfl) hP hD hS (q_pair (by rw [f_X7_written, if_neg c1, if_neg c2, if_pos c10, if_neg c11])) dX7_written_62
        · refine lv_iconst (v := 1) hx hb dX7_written_57 (by decide) ?_
          refine lv_goto (tgt := 62) hx hb dX7_written_58 (by decide) ?_
          exact q_mz S hx hb hr hlocks (rfl) hP hD hS (q_pair (by rw [f_X7_written, if_neg c1, if_neg c2, if_pos c10, if_pos c11])) dX7_written_62
  · refine lv_iconst (v := 0) hx hb dX7_written_7 (by decide) ?_
    exact q_mz S hx hb hr hlocks (rfl) hP hD hS (q_pair (by rw [f_X7_written, if_pos c1])) dX7_written_8

