def f_X1_isSegment (a0 : Int32) : Int32 :=
  (if a0 < 1 then 0 else (if 5 < a0 then 0 else 1))

set_option maxHeartbeats 4000000 in
set_option maxRecDepth 100000 in
theorem c_X1_isSegment (l : Launch) (D : va_G) (a0 : Int32) : q_roI l yX1_isSegment wsX1_isSegment ({ frames := 0, cells := 0, slots := 0, locals := 0 }) D [] [] [.int a0] (f_X1_isSegment a0) := by
  refine q_roI_of (cc := cX1_isSegment) (maxL := 1) (ret := (some .boolean)) (plainFor_of_name (by decide)) rfl (Nat.le_of_ble_eq_true rfl) ?_
  intro p e s m below meth c ls A hx hb hr hml hown hts hlocks hP hK hA hS hl
  have hown : s.vm.findClass RX1 = some m.cls := hown
  have hl : lv_has ls 1 [(0, .int a0)] := hl
  refine lv_iload_n hx hb dX1_isSegment_0 rfl (lv_at hl 0 rfl) ?_
  refine lv_iconst (v := 1) hx hb dX1_isSegment_1 (by decide) ?_
  refine lv_icmp_lt (tgt := 14) hx hb dX1_isSegment_2 (by decide) (fun c1 => ?_) (fun c1 => ?_)
  · refine lv_iconst (v := 0) hx hb dX1_isSegment_14 (by decide) ?_
    exact q_rz hx hb hr hlocks (rfl) hS (Eq.symm (by rw [f_X1_isSegment, if_pos c1])) dX1_isSegment_15
  · refine lv_iload_n hx hb dX1_isSegment_5 rfl (lv_at hl 0 rfl) ?_
    refine lv_iconst (v := 5) hx hb dX1_isSegment_6 (by decide) ?_
    refine lv_icmp_gt (tgt := 14) hx hb dX1_isSegment_7 (by decide) (fun c2 => ?_) (fun c2 => ?_)
    · refine lv_iconst (v := 0) hx hb dX1_isSegment_14 (by decide) ?_
      exact q_rz hx hb hr hlocks (rfl) hS (Eq.symm (by rw [f_X1_isSegment, if_neg c1, if_pos c2])) dX1_isSegment_15
    · refine lv_iconst (v := 1) hx hb dX1_isSegment_10 (by decide) ?_
      refine lv_goto (tgt := 15) hx hb dX1_isSegment_11 (by decide) ?_
      exact q_rz hx hb hr hlocks (rfl) hS (Eq.symm (by rw [f_X1_isSegment, if_neg c1, if_neg c2])) dX1_isSegment_15

def f_X1_isCell (a0 : Int32) : Int32 :=
  (if a0 < 0 then 0 else (if 64 ≤ a0 then 0 else 1))

set_option maxHeartbeats 4000000 in
set_option maxRecDepth 100000 in
theorem c_X1_isCell (l : Launch) (D : va_G) (a0 : Int32) : q_roI l yX1_isCell wsX1_isCell ({ frames := 0, cells := 0, slots := 0, locals := 0 }) D [] [] [.int a0] (f_X1_isCell a0) := by
  refine q_roI_of (cc := cX1_isCell) (maxL := 1) (ret := (some .boolean)) (plainFor_of_name (by decide)) rfl (Nat.le_of_ble_eq_true rfl) ?_
  intro p e s m below meth c ls A hx hb hr hml hown hts hlocks hP hK hA hS hl
  have hown : s.vm.findClass RX1 = some m.cls := hown
  have hl : lv_has ls 1 [(0, .int a0)] := hl
  refine lv_iload_n hx hb dX1_isCell_0 rfl (lv_at hl 0 rfl) ?_
  refine lv_if_lt (tgt := 14) hx hb dX1_isCell_1 (by decide) (fun c1 => ?_) (fun c1 => ?_)
  · refine lv_iconst (v := 0) hx hb dX1_isCell_14 (by decide) ?_
    exact q_rz hx hb hr hlocks (rfl) hS (Eq.symm (by rw [f_X1_isCell, if_pos c1])) dX1_isCell_15
  · refine lv_iload_n hx hb dX1_isCell_4 rfl (lv_at hl 0 rfl) ?_
    refine lv_bipush (v := 64) hx hb dX1_isCell_5 (by decide) ?_
    refine lv_icmp_ge (tgt := 14) hx hb dX1_isCell_7 (by decide) (fun c2 => ?_) (fun c2 => ?_)
    · refine lv_iconst (v := 0) hx hb dX1_isCell_14 (by decide) ?_
      exact q_rz hx hb hr hlocks (rfl) hS (Eq.symm (by rw [f_X1_isCell, if_neg c1, if_pos c2])) dX1_isCell_15
    · refine lv_iconst (v := 1) hx hb dX1_isCell_10 (by decide) ?_
      refine lv_goto (tgt := 15) hx hb dX1_isCell_11 (by decide) ?_
      exact q_rz hx hb hr hlocks (rfl) hS (Eq.symm (by rw [f_X1_isCell, if_neg c1, if_neg c2])) dX1_isCell_15

def f_X1_indexOf (a0 : Int32) (a1 : Int32) : Int32 :=
  ((a0 - 1) * 64) + a1

set_option maxHeartbeats 4000000 in
set_option maxRecDepth 100000 in
theorem c_X1_indexOf (l : Launch) (D : va_G) (a0 : Int32) (a1 : Int32) : q_roI l yX1_indexOf wsX1_indexOf ({ frames := 0, cells := 0, slots := 0, locals := 0 }) D [] [] [.int a0, .int a1] (f_X1_indexOf a0 a1) := by
  refine q_roI_of (cc := cX1_indexOf) (maxL := 2) (ret := (some .int)) (plainFor_of_name (by decide)) rfl (Nat.le_of_ble_eq_true rfl) ?_
  intro p e s m below meth c ls A hx hb hr hml hown hts hlocks hP hK hA hS hl
  have hown : s.vm.findClass RX1 = some m.cls := hown
  have hl : lv_has ls 2 [(0, .int a0), (1, .int a1)] := hl
  refine lv_iload_n hx hb dX1_indexOf_0 rfl (lv_at hl 0 rfl) ?_
  refine lv_iconst (v := 1) hx hb dX1_indexOf_1 (by decide) ?_
  refine lv_isub hx hb dX1_indexOf_2 ?_
  refine lv_bipush (v := 64) hx hb dX1_indexOf_3 (by decide) ?_
  refine lv_imul hx hb dX1_indexOf_5 ?_
  refine lv_iload_n hx hb dX1_indexOf_6 rfl (lv_at hl 1 rfl) ?_
  refine lv_iadd hx hb dX1_indexOf_7 ?_
  exact q_ri hx hb hr hlocks hS (Eq.symm (by rw [f_X1_indexOf])) dX1_indexOf_8


theorem q_seg {s : Int32} (h : ¬ f_X1_isSegment s = 0) : ∃ j : Nat, 1 ≤ j ∧ j ≤ 5 ∧ s = nI j := by
  unfold f_X1_isSegment at h
  by_cases h1 : s < 1
  · simp [h1] at h
  · by_cases h2 : 5 < s
    · simp [h1, h2] at h
    · have g1 := q_nlt h1
      have g2 := q_nlt h2
      rw [show (1 : Int32).toInt = 1 from rfl] at g1
      rw [show (5 : Int32).toInt = 5 from rfl] at g2
      obtain ⟨j, hj, rfl⟩ := nI_of2 (x := s) (M := 5) (n := 5) rfl (fun z => by have := Int32.lt_iff_toInt_lt.mp z; rw [show (0 : Int32).toInt = 0 from rfl] at this; omega) (Int32.le_iff_toInt_le.mpr g2)
      refine ⟨j, ?_, hj, rfl⟩
      rcases Nat.eq_zero_or_pos j with rfl | h3
      · exact absurd (by decide) h1
      · exact h3
theorem q_cel {c : Int32} (h : ¬ f_X1_isCell c = 0) : ∃ k : Nat, k < 64 ∧ c = nI k := by
  unfold f_X1_isCell at h
  by_cases h1 : c < 0
  · simp [h1] at h
  · by_cases h2 : 64 ≤ c
    · simp [h1, h2] at h
    · exact vp_in_of (vp_in_iff.mpr ⟨q_nlt h1, q_nle h2⟩) (by decide)
theorem q_ixof {j k : Nat} (h1 : 1 ≤ j) : f_X1_indexOf (nI j) (nI k) = nI ((j - 1) * 64 + k) := by
  unfold f_X1_indexOf
  rw [show (1 : Int32) = nI 1 from rfl, show (64 : Int32) = nI 64 from rfl, pk_sub h1, pk_mul, nI_add]
theorem q_ixin {s c : Int32} (h1 : ¬ f_X1_isSegment s = 0) (h2 : ¬ f_X1_isCell c = 0) : vp_in (f_X1_indexOf s c) 320 := by
  obtain ⟨j, a1, a2, rfl⟩ := q_seg h1
  obtain ⟨k, b1, rfl⟩ := q_cel h2
  rw [q_ixof a1]
  exact vp_in_nI (by omega) (by decide)
theorem q_celin {c : Int32} (h : ¬ f_X1_isCell c = 0) : vp_in c 64 := by
  obtain ⟨k, h1, rfl⟩ := q_cel h
  exact vp_in_nI h1 (by decide)
theorem q_g0 {a0 : Int32} (h : vp_in a0 64) (h2 : ((a0 - (a0 - a0 / 5 * 5)) + 5) ≤ 64) : ∃ b : Nat, b ≤ 59 ∧ f_X1_indexOf 4 ((a0 - (a0 - a0 / 5 * 5)) + 2) = nI (194 + b) := by
  obtain ⟨k, hk, rfl⟩ := vp_in_of h (by decide)
  have e1 : nI k - (nI k - nI k / 5 * 5) = nI (k - k % 5) := by
    rw [show (5 : Int32) = nI 5 from rfl, pk_rem (by omega) (by decide) (by decide), pk_sub (Nat.mod_le _ _)]
  rw [e1] at h2 ⊢
  rw [show (5 : Int32) = nI 5 from rfl, nI_add, show (64 : Int32) = nI 64 from rfl, nI_leI (by omega) (by decide)] at h2
  refine ⟨k - k % 5, by omega, ?_⟩
  rw [show (2 : Int32) = nI 2 from rfl, nI_add, show (4 : Int32) = nI 4 from rfl, q_ixof (by decide)]
  congr 1
  omega
theorem q_gI {a0 : Int32} (h : vp_in a0 64) (h2 : ((a0 - (a0 - a0 / 5 * 5)) + 5) ≤ 64) : vp_in (f_X1_indexOf 4 ((a0 - (a0 - a0 / 5 * 5)) + 2)) 320 := by
  obtain ⟨b, hb, e⟩ := q_g0 h h2
  rw [e]; exact vp_in_nI (by omega) (by decide)
theorem q_gp1 {a0 : Int32} (h : vp_in a0 64) (h2 : ((a0 - (a0 - a0 / 5 * 5)) + 5) ≤ 64) : vp_in (f_X1_indexOf 4 ((a0 - (a0 - a0 / 5 * 5)) + 2) + 1) 320 := by
  obtain ⟨b, hb, e⟩ := q_g0 h h2
  rw [e, nI_1]; exact vp_in_nI (by omega) (by decide)
theorem q_gp2 {a0 : Int32} (h : vp_in a0 64) (h2 : ((a0 - (a0 - a0 / 5 * 5)) + 5) ≤ 64) : vp_in (f_X1_indexOf 4 ((a0 - (a0 - a0 / 5 * 5)) + 2) + 2) 320 := by
  obtain ⟨b, hb, e⟩ := q_g0 h h2
  rw [e, show (2 : Int32) = nI 2 from rfl, nI_add]; exact vp_in_nI (by omega) (by decide)
theorem q_gm1 {a0 : Int32} (h : vp_in a0 64) (h2 : ((a0 - (a0 - a0 / 5 * 5)) + 5) ≤ 64) : vp_in (f_X1_indexOf 4 ((a0 - (a0 - a0 / 5 * 5)) + 2) - 1) 320 := by
  obtain ⟨b, hb, e⟩ := q_g0 h h2
  rw [e, show (1 : Int32) = nI 1 from rfl, pk_sub (by omega)]; exact vp_in_nI (by omega) (by decide)
theorem q_gm2 {a0 : Int32} (h : vp_in a0 64) (h2 : ((a0 - (a0 - a0 / 5 * 5)) + 5) ≤ 64) : vp_in (f_X1_indexOf 4 ((a0 - (a0 - a0 / 5 * 5)) + 2) - 2) 320 := by
  obtain ⟨b, hb, e⟩ := q_g0 h h2
  rw [e, show (2 : Int32) = nI 2 from rfl, pk_sub (by omega)]; exact vp_in_nI (by omega) (by decide)

