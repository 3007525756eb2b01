/-! a step leaves `thrown` alone -/
def n_th (R : Int32) (S : NS) : Prop := (∀ _ : Nat, True) ∧ (∀ _ : Nat, True) ∧ True ∧ (∀ _ : Nat, True) ∧ pN_thrown S = R
theorem th_p_there {R : Int32} {S : NS} {v : Int32} (h : n_th R S) : n_th R (sN_there S v) := ⟨h.1, h.2.1, h.2.2.1, h.2.2.2.1, h.2.2.2.2⟩
theorem th_p_got {R : Int32} {S : NS} {v : Int64} (h : n_th R S) : n_th R (sN_got S v) := ⟨h.1, h.2.1, h.2.2.1, h.2.2.2.1, h.2.2.2.2⟩
theorem th_p_trouble {R : Int32} {S : NS} {v : Int32} (h : n_th R S) : n_th R (sN_trouble S v) := ⟨h.1, h.2.1, h.2.2.1, h.2.2.2.1, h.2.2.2.2⟩
theorem th_p_failure {R : Int32} {S : NS} {v : Int32} (h : n_th R S) : n_th R (sN_failure S v) := ⟨h.1, h.2.1, h.2.2.1, h.2.2.2.1, h.2.2.2.2⟩
theorem th_p_word {R : Int32} {S : NS} {v : Int64} (h : n_th R S) : n_th R (sN_word S v) := ⟨h.1, h.2.1, h.2.2.1, h.2.2.2.1, h.2.2.2.2⟩
theorem th_X7_keep {R : Int32} {S : NS} {a0 : Int32} (h : n_th R S) : n_th R (f_X7_keep S a0) := ⟨fun _ => trivial, h.2.1, h.2.2.1, h.2.2.2.1, h.2.2.2.2⟩
theorem th_X7_give {R : Int32} {S : NS} {a0 : Int32} {a1 : Int64} (h : n_th R S) (hs : True) : n_th R (f_X7_give S a0 a1) := ⟨h.1, h.2.1, hs, h.2.2.2.1, h.2.2.2.2⟩
theorem th_X7_further {R : Int32} {S : NS} {a0 : Int32} {a1 : Int64} (hI : n_th R S) : n_th R (f_X7_further S a0 a1) := by
  unfold f_X7_further
  exact ok_ite (P := fun x => n_th R x) ((th_p_there (th_X7_give hI trivial))) (ok_ite (P := fun x => n_th R x) ((th_p_there (th_X7_give hI trivial))) ((th_p_there (th_X7_give hI trivial))))
theorem th_f_X7_stepped_J66 {R : Int32} {S : NS} {a0 : Int32} {t0_21 : Int32} {t0_66 : Int64} (hI : n_th R S) : n_th R (f_X7_stepped_J66 S a0 t0_21 t0_66) := by
  unfold f_X7_stepped_J66
  exact ok_ite (P := fun x => n_th R x) ((th_p_there (th_X7_further hI))) (ok_ite (P := fun x => n_th R x) ((th_p_there (th_X7_further hI))) ((th_p_there (th_X7_further hI))))
theorem th_f_X7_stepped_J40 {R : Int32} {S : NS} {a0 : Int32} {a2 : Int32} {t0_21 : Int32} {t0_40 : Int64} (hI : n_th R S) : n_th R (f_X7_stepped_J40 S a0 a2 t0_21 t0_40) := by
  unfold f_X7_stepped_J40
  exact ok_ite (P := fun x => n_th R x) (th_f_X7_stepped_J66 hI) (ok_ite (P := fun x => n_th R x) (th_f_X7_stepped_J66 hI) (th_f_X7_stepped_J66 hI))
theorem th_f_X7_stepped_J21 {R : Int32} {S : NS} {a0 : Int32} {a1 : Int64} {a2 : Int32} {t0_21 : Int32} (hI : n_th R S) : n_th R (f_X7_stepped_J21 S a0 a1 a2 t0_21) := by
  unfold f_X7_stepped_J21
  exact ok_ite (P := fun x => n_th R x) (th_f_X7_stepped_J40 hI) (th_f_X7_stepped_J40 hI)
theorem th_f_X7_stepped_J16 {R : Int32} {S : NS} {a0 : Int32} {a1 : Int64} {a2 : Int32} (hI : n_th R S) : n_th R (f_X7_stepped_J16 S a0 a1 a2) := by
  unfold f_X7_stepped_J16
  exact th_f_X7_stepped_J21 hI
theorem th_X7_stepped {R : Int32} {S : NS} {a0 : Int32} {a1 : Int64} {a2 : Int32} (hI : n_th R S) : n_th R (f_X7_stepped S a0 a1 a2) := by
  unfold f_X7_stepped
  exact ok_ite (P := fun x => n_th R x) (th_f_X7_stepped_J16 hI) (ok_ite (P := fun x => n_th R x) (th_f_X7_stepped_J21 hI) (th_f_X7_stepped_J16 hI))
theorem th_f_X7_plus_J68 {R : Int32} {S : NS} {a0 : Int32} {a1 : Int32} (hI : n_th R S) : n_th R (f_X7_plus_J68 S a0 a1) := by
  unfold f_X7_plus_J68
  exact ok_ite (P := fun x => n_th R x) ((th_X7_stepped hI)) ((th_X7_stepped hI))
theorem th_f_X7_plus_J42 {R : Int32} {S : NS} {a0 : Int32} {a1 : Int32} (hI : n_th R S) : n_th R (f_X7_plus_J42 S a0 a1) := by
  unfold f_X7_plus_J42
  exact ok_ite (P := fun x => n_th R x) (th_f_X7_plus_J68 hI) (ok_ite (P := fun x => n_th R x) (th_f_X7_plus_J68 hI) ((th_p_there hI)))
theorem th_X7_plus {R : Int32} {S : NS} {a0 : Int32} {a1 : Int32} (hI : n_th R S) : n_th R (f_X7_plus S a0 a1) := by
  unfold f_X7_plus
  exact ok_ite (P := fun x => n_th R x) (ok_ite (P := fun x => n_th R x) ((th_X7_give hI trivial)) (th_f_X7_plus_J42 hI)) (th_f_X7_plus_J42 hI)
theorem th_X7_minus {R : Int32} {S : NS} {a0 : Int32} {a1 : Int32} (hI : n_th R S) : n_th R (f_X7_minus S a0 a1) := by
  unfold f_X7_minus
  exact ok_ite (P := fun x => n_th R x) ((th_X7_give hI trivial)) (ok_ite (P := fun x => n_th R x) ((th_X7_stepped hI)) ((th_p_there hI)))
theorem th_f_X7_times_J60 {R : Int32} {S : NS} {a0 : Int32} {a1 : Int32} {t0_39 : Int32} {t0_60 : Int32} (hI : n_th R S) : n_th R (f_X7_times_J60 S a0 a1 t0_39 t0_60) := by
  unfold f_X7_times_J60
  exact (th_X7_give (th_p_there hI) trivial)
theorem th_f_X7_times_J39 {R : Int32} {S : NS} {a0 : Int32} {a1 : Int32} {a2 : Int32} {t0_39 : Int32} (hI : n_th R S) : n_th R (f_X7_times_J39 S a0 a1 a2 t0_39) := by
  unfold f_X7_times_J39
  exact ok_ite (P := fun x => n_th R x) ((th_p_there hI)) (ok_ite (P := fun x => n_th R x) (th_f_X7_times_J60 hI) (th_f_X7_times_J60 hI))
theorem th_f_X7_times_J34 {R : Int32} {S : NS} {a0 : Int32} {a1 : Int32} {a2 : Int32} (hI : n_th R S) : n_th R (f_X7_times_J34 S a0 a1 a2) := by
  unfold f_X7_times_J34
  exact th_f_X7_times_J39 hI
theorem th_f_X7_times_J38 {R : Int32} {S : NS} {a0 : Int32} {a1 : Int32} {a2 : Int32} (hI : n_th R S) : n_th R (f_X7_times_J38 S a0 a1 a2) := by
  unfold f_X7_times_J38
  exact th_f_X7_times_J39 hI
theorem th_X7_times {R : Int32} {S : NS} {a0 : Int32} {a1 : Int32} {a2 : Int32} (hI : n_th R S) : n_th R (f_X7_times S a0 a1 a2) := by
  unfold f_X7_times
  exact ok_ite (P := fun x => n_th R x) (ok_ite (P := fun x => n_th R x) (ok_ite (P := fun x => n_th R x) (th_f_X7_times_J34 hI) (ok_ite (P := fun x => n_th R x) (th_f_X7_times_J38 hI) (th_f_X7_times_J34 hI))) (th_f_X7_times_J38 hI)) (th_f_X7_times_J38 hI)
theorem th_X7_read {R : Int32} {S : NS} {a0 : Int32} (h : n_th R S) : n_th R (f_X7_read S a0) := by
  unfold f_X7_read
  repeat' split
  all_goals exact ⟨h.1, h.2.1, trivial, h.2.2.2.1, h.2.2.2.2⟩
theorem th_X7_trouble {R : Int32} {S : NS} {a0 : Int32} {a1 : Int32} (hI : n_th R S) : n_th R (f_X7_trouble S a0 a1) := by
  unfold f_X7_trouble
  exact ok_ite (P := fun x => n_th R x) (ok_ite (P := fun x => n_th R x) (hI) ((th_p_trouble hI))) (hI)
theorem th_X7_set {R : Int32} {S : NS} {a0 a1 : Int32} {a2 : Int64} (h : n_th R S) (hs : True) : n_th R (f_X7_set S a0 a1 a2) := ⟨h.1, fun _ => trivial, h.2.2.1, h.2.2.2.1, h.2.2.2.2⟩
theorem th_w_L {R : Int32} {a0 : Int32} {a1 : Int64} : ∀ (fu : Nat) (v : Int32) (S : NS), ((5 : Int) - v.toInt).toNat < fu → n_th R S → n_th R (f_X7_written_L148 a0 a1 fu v S).2
  | 0, _, _, h, _ => absurd h (Nat.not_lt_zero _)
  | fu + 1, v, S, h, hI => by
    rw [f_X7_written_L148]
    by_cases c : 5 ≤ v
    · rw [if_pos c]; exact hI
    · rw [if_neg c]; exact th_w_L fu _ _ (q_dec rfl c h) (th_X7_set hI trivial)
theorem th_X7_written {R : Int32} {S : NS} {a0 : Int32} {a1 : Int64} {a2 : Int32} {a3 : Int64} (h : n_th R S) (hs : True) : n_th R (f_X7_written S a0 a1 a2 a3).2 := by
  unfold f_X7_written
  repeat' split
  all_goals first | exact h | exact th_X7_set h hs | exact th_w_L 4 2 _ (by decide) (th_X7_set h hs)
theorem th_X7_needed {R : Int32} {S : NS} {a0 : Int32} (hI : n_th R S) : n_th R (f_X7_needed S a0) := by
  unfold f_X7_needed
  exact ok_ite (P := fun x => n_th R x) (ok_ite (P := fun x => n_th R x) ((th_X7_trouble (th_X7_read hI))) ((th_X7_trouble (th_X7_read hI)))) (hI)
theorem th_X7_store {R : Int32} {S : NS} {a0 : Int32} {a1 : Int32} (hI : n_th R S) : n_th R (f_X7_store S a0 a1) := by
  unfold f_X7_store
  exact ok_ite (P := fun x => n_th R x) (ok_ite (P := fun x => n_th R x) ((th_X7_trouble (th_X7_written hI trivial))) ((th_X7_trouble (th_X7_written hI trivial)))) (hI)
theorem th_f_X7_sure_J21 {R : Int32} {S : NS} {a0 : Int32} {t0_21 : Int32} (hI : n_th R S) : n_th R (f_X7_sure_J21 S a0 t0_21) := by
  unfold f_X7_sure_J21
  exact (th_X7_keep (th_X7_trouble hI))
theorem th_X7_sure {R : Int32} {S : NS} {a0 : Int32} (hI : n_th R S) : n_th R (f_X7_sure S a0) := by
  unfold f_X7_sure
  exact ok_ite (P := fun x => n_th R x) (ok_ite (P := fun x => n_th R x) (th_f_X7_sure_J21 hI) (th_f_X7_sure_J21 hI)) (hI)
theorem th_X7_place {R : Int32} {S : NS} {a0 : Int32} (hI : n_th R S) : n_th R (f_X7_place S a0) := by
  unfold f_X7_place
  exact ok_ite (P := fun x => n_th R x) ((th_X7_trouble (th_X7_sure hI))) ((th_X7_trouble (th_X7_sure hI)))
theorem th_f_X7_placeOfOp1_J55 {R : Int32} {S : NS} {t0_55 : Int32} (hI : n_th R S) : n_th R (f_X7_placeOfOp1_J55 S t0_55) := by
  unfold f_X7_placeOfOp1_J55
  exact (th_X7_place (th_X7_further hI))
theorem th_f_X7_placeOfOp1_J27 {R : Int32} {S : NS} (hI : n_th R S) : n_th R (f_X7_placeOfOp1_J27 S) := by
  unfold f_X7_placeOfOp1_J27
  exact ok_ite (P := fun x => n_th R x) (ok_ite (P := fun x => n_th R x) (th_f_X7_placeOfOp1_J55 hI) (th_f_X7_placeOfOp1_J55 hI)) (th_f_X7_placeOfOp1_J55 hI)
theorem th_X7_placeOfOp1 {R : Int32} {S : NS} (hI : n_th R S) : n_th R (f_X7_placeOfOp1 S) := by
  unfold f_X7_placeOfOp1
  exact ok_ite (P := fun x => n_th R x) (ok_ite (P := fun x => n_th R x) (ok_ite (P := fun x => n_th R x) (ok_ite (P := fun x => n_th R x) ((th_X7_place (th_X7_further (th_X7_place (th_X7_needed hI))))) ((th_X7_place (th_X7_place (th_X7_needed hI))))) (th_f_X7_placeOfOp1_J27 hI)) (th_f_X7_placeOfOp1_J27 hI)) (th_f_X7_placeOfOp1_J27 hI)
theorem th_f_X7_deduce_J159 {R : Int32} {S : NS} {S_159 : NS} (hok_159 : n_th R S_159) : n_th R (f_X7_deduce_J159 S S_159) := by
  unfold f_X7_deduce_J159
  exact ok_ite (P := fun x => n_th R x) ((th_X7_store (th_X7_sure hok_159))) ((th_X7_store (th_X7_sure hok_159)))
theorem th_f_X7_deduce_J130 {R : Int32} {S : NS} {S_98 : NS} (hok_98 : n_th R S_98) : n_th R (f_X7_deduce_J130 S S_98) := by
  unfold f_X7_deduce_J130
  exact ok_ite (P := fun x => n_th R x) (th_f_X7_deduce_J159 (th_X7_times hok_98)) (th_f_X7_deduce_J159 (th_X7_minus hok_98))
theorem th_f_X7_deduce_J98 {R : Int32} {S : NS} {S_98 : NS} (hok_98 : n_th R S_98) : n_th R (f_X7_deduce_J98 S S_98) := by
  unfold f_X7_deduce_J98
  exact ok_ite (P := fun x => n_th R x) (th_f_X7_deduce_J130 hok_98) (ok_ite (P := fun x => n_th R x) (ok_ite (P := fun x => n_th R x) (hok_98) (th_f_X7_deduce_J130 hok_98)) (th_f_X7_deduce_J130 hok_98))
theorem th_f_X7_deduce_J74 {R : Int32} {S : NS} {S_74 : NS} (hok_74 : n_th R S_74) : n_th R (f_X7_deduce_J74 S S_74) := by
  unfold f_X7_deduce_J74
  exact ok_ite (P := fun x => n_th R x) ((th_X7_read hok_74)) (ok_ite (P := fun x => n_th R x) (th_f_X7_deduce_J98 (th_X7_keep (th_X7_read hok_74))) (th_f_X7_deduce_J98 (th_X7_read hok_74)))
theorem th_f_X7_deduce_J35 {R : Int32} {S : NS} (hI : n_th R S) : n_th R (f_X7_deduce_J35 S) := by
  unfold f_X7_deduce_J35
  exact ok_ite (P := fun x => n_th R x) ((th_X7_read hI)) (ok_ite (P := fun x => n_th R x) (th_f_X7_deduce_J74 (th_X7_read (th_X7_keep (th_X7_read hI)))) (th_f_X7_deduce_J74 (th_X7_keep (th_X7_read (th_X7_keep (th_X7_read hI))))))
theorem th_X7_deduce {R : Int32} {S : NS} (hI : n_th R S) : n_th R (f_X7_deduce S) := by
  unfold f_X7_deduce
  exact ok_ite (P := fun x => n_th R x) (hI) (ok_ite (P := fun x => n_th R x) (hI) (ok_ite (P := fun x => n_th R x) (ok_ite (P := fun x => n_th R x) (hI) (th_f_X7_deduce_J35 hI)) (th_f_X7_deduce_J35 hI)))
theorem th_f_X7_result_J100 {R : Int32} {t0_67 : Int32} {S_83 : NS} {t0_100 : Int32} (hok_83 : n_th R S_83) : n_th R (f_X7_result_J100 t0_67 S_83 t0_100) := by
  unfold f_X7_result_J100
  exact ok_ite (P := fun x => n_th R x) ((th_X7_sure (th_X7_needed hok_83))) (ok_ite (P := fun x => n_th R x) (ok_ite (P := fun x => n_th R x) ((th_X7_sure (th_X7_times (th_X7_sure (th_X7_needed hok_83))))) ((th_X7_sure (th_X7_plus (th_X7_sure (th_X7_needed hok_83)))))) ((th_X7_sure (th_X7_needed hok_83))))
theorem th_f_X7_result_J83 {R : Int32} {t0_67 : Int32} {S_83 : NS} (hok_83 : n_th R S_83) : n_th R (f_X7_result_J83 t0_67 S_83) := by
  unfold f_X7_result_J83
  exact ok_ite (P := fun x => n_th R x) (th_f_X7_result_J100 hok_83) (th_f_X7_result_J100 hok_83)
theorem th_f_X7_result_J67 {R : Int32} {S : NS} {t0_67 : Int32} (hI : n_th R S) : n_th R (f_X7_result_J67 S t0_67) := by
  unfold f_X7_result_J67
  exact ok_ite (P := fun x => n_th R x) (th_f_X7_result_J83 hI) (th_f_X7_result_J83 (th_X7_sure (th_X7_needed hI)))
theorem th_f_X7_result_J62 {R : Int32} {S : NS} (hI : n_th R S) : n_th R (f_X7_result_J62 S) := by
  unfold f_X7_result_J62
  exact th_f_X7_result_J67 hI
theorem th_f_X7_result_J44 {R : Int32} {S : NS} (hI : n_th R S) : n_th R (f_X7_result_J44 S) := by
  unfold f_X7_result_J44
  exact ok_ite (P := fun x => n_th R x) (ok_ite (P := fun x => n_th R x) (th_f_X7_result_J67 hI) (th_f_X7_result_J62 hI)) (th_f_X7_result_J62 hI)
theorem th_X7_result {R : Int32} {S : NS} (hI : n_th R S) : n_th R (f_X7_result S) := by
  unfold f_X7_result
  exact ok_ite (P := fun x => n_th R x) (hI) (ok_ite (P := fun x => n_th R x) (ok_ite (P := fun x => n_th R x) (ok_ite (P := fun x => n_th R x) (ok_ite (P := fun x => n_th R x) (hI) (th_f_X7_result_J44 hI)) (th_f_X7_result_J44 hI)) (th_f_X7_result_J44 hI)) (th_f_X7_result_J44 hI))
theorem th_f_X7_jump_J115 {R : Int32} {S_76 : NS} (hok_76 : n_th R S_76) : n_th R (f_X7_jump_J115 S_76) := by
  unfold f_X7_jump_J115
  exact ok_ite (P := fun x => n_th R x) ((th_X7_place (th_X7_plus (th_X7_sure (th_X7_needed (th_X7_needed hok_76)))))) ((th_X7_sure (th_X7_needed (th_X7_needed hok_76))))
theorem th_f_X7_jump_J76 {R : Int32} {S_76 : NS} (hok_76 : n_th R S_76) : n_th R (f_X7_jump_J76 S_76) := by
  unfold f_X7_jump_J76
  exact ok_ite (P := fun x => n_th R x) (hok_76) (ok_ite (P := fun x => n_th R x) ((th_X7_needed hok_76)) (ok_ite (P := fun x => n_th R x) (ok_ite (P := fun x => n_th R x) ((th_X7_needed hok_76)) (th_f_X7_jump_J115 hok_76)) (th_f_X7_jump_J115 hok_76)))
theorem th_f_X7_jump_J54 {R : Int32} {S_54 : NS} (hok_54 : n_th R S_54) : n_th R (f_X7_jump_J54 S_54) := by
  unfold f_X7_jump_J54
  exact ok_ite (P := fun x => n_th R x) (th_f_X7_jump_J76 hok_54) (th_f_X7_jump_J76 (th_X7_place (th_X7_plus hok_54)))
theorem th_X7_jump {R : Int32} {S : NS} {a0 : Int32} (hI : n_th R S) : n_th R (f_X7_jump S a0) := by
  unfold f_X7_jump
  exact ok_ite (P := fun x => n_th R x) (ok_ite (P := fun x => n_th R x) (th_f_X7_jump_J54 (th_X7_keep (th_X7_further hI))) (th_f_X7_jump_J54 (th_X7_place (th_X7_give (th_X7_keep (th_X7_further hI)) (trivial))))) (hI)
theorem th_f_X7_move_J129 {R : Int32} {S_129 : NS} (hok_129 : n_th R S_129) : n_th R (f_X7_move_J129 S_129) := by
  unfold f_X7_move_J129
  exact ok_ite (P := fun x => n_th R x) ((th_X7_place hok_129)) ((th_X7_place (th_X7_needed hok_129)))
theorem th_f_X7_move_J72 {R : Int32} {S_72 : NS} (hok_72 : n_th R S_72) : n_th R (f_X7_move_J72 S_72) := by
  unfold f_X7_move_J72
  exact ok_ite (P := fun x => n_th R x) (ok_ite (P := fun x => n_th R x) (th_f_X7_move_J129 (th_X7_give (th_X7_place hok_72) (trivial))) (th_f_X7_move_J129 (th_X7_give (th_X7_give (th_X7_place hok_72) (trivial)) (trivial)))) ((th_X7_place hok_72))
theorem th_f_X7_move_J55 {R : Int32} {S_55 : NS} (hok_55 : n_th R S_55) : n_th R (f_X7_move_J55 S_55) := by
  unfold f_X7_move_J55
  exact ok_ite (P := fun x => n_th R x) (th_f_X7_move_J72 hok_55) (th_f_X7_move_J72 (th_X7_further hok_55))
theorem th_f_X7_move_J40 {R : Int32} {S_40 : NS} (hok_40 : n_th R S_40) : n_th R (f_X7_move_J40 S_40) := by
  unfold f_X7_move_J40
  exact ok_ite (P := fun x => n_th R x) (th_f_X7_move_J55 hok_40) (th_f_X7_move_J55 (th_X7_further hok_40))
theorem th_X7_move {R : Int32} {S : NS} (hI : n_th R S) : n_th R (f_X7_move S) := by
  unfold f_X7_move
  exact ok_ite (P := fun x => n_th R x) (ok_ite (P := fun x => n_th R x) (th_f_X7_move_J40 (th_X7_give hI trivial)) (th_f_X7_move_J40 (th_X7_plus (th_X7_give hI trivial)))) (hI)
theorem th_f_X7_places_J138 {R : Int32} {S : NS} {t0_44 : Int32} {t0_71 : Int32} {t0_103 : Int32} {t0_138 : Int64} (hI : n_th R S) : n_th R (f_X7_places_J138 S t0_44 t0_71 t0_103 t0_138) := by
  unfold f_X7_places_J138
  exact ok_ite (P := fun x => n_th R x) ((th_X7_sure (th_X7_further (th_X7_sure (th_X7_further (th_X7_sure (th_X7_further (th_X7_trouble (th_p_word (th_X7_needed hI)))))))))) ((th_X7_store (th_X7_store (th_X7_sure (th_X7_further (th_X7_sure (th_X7_further (th_X7_sure (th_X7_further (th_X7_trouble (th_p_word (th_X7_needed hI))))))))))))
theorem th_f_X7_places_J103 {R : Int32} {S : NS} {t0_44 : Int32} {t0_71 : Int32} {t0_103 : Int32} (hI : n_th R S) : n_th R (f_X7_places_J103 S t0_44 t0_71 t0_103) := by
  unfold f_X7_places_J103
  exact ok_ite (P := fun x => n_th R x) (th_f_X7_places_J138 hI) (th_f_X7_places_J138 hI)
theorem th_f_X7_places_J71 {R : Int32} {S : NS} {t0_44 : Int32} {t0_71 : Int32} (hI : n_th R S) : n_th R (f_X7_places_J71 S t0_44 t0_71) := by
  unfold f_X7_places_J71
  exact ok_ite (P := fun x => n_th R x) (th_f_X7_places_J103 hI) (th_f_X7_places_J103 hI)
theorem th_f_X7_places_J44 {R : Int32} {S : NS} {t0_44 : Int32} (hI : n_th R S) : n_th R (f_X7_places_J44 S t0_44) := by
  unfold f_X7_places_J44
  exact ok_ite (P := fun x => n_th R x) (ok_ite (P := fun x => n_th R x) (th_f_X7_places_J71 hI) (th_f_X7_places_J71 hI)) ((th_X7_trouble (th_p_word (th_X7_needed hI))))
theorem th_f_X7_places_J39 {R : Int32} {S : NS} (hI : n_th R S) : n_th R (f_X7_places_J39 S) := by
  unfold f_X7_places_J39
  exact th_f_X7_places_J44 hI
theorem th_X7_places {R : Int32} {S : NS} (hI : n_th R S) : n_th R (f_X7_places S) := by
  unfold f_X7_places
  exact ok_ite (P := fun x => n_th R x) (ok_ite (P := fun x => n_th R x) (ok_ite (P := fun x => n_th R x) (th_f_X7_places_J44 hI) (th_f_X7_places_J39 hI)) (th_f_X7_places_J39 hI)) ((th_X7_needed hI))
theorem th_p_value {R : Int32} {S : NS} {v : Nat → Int64} (h : n_th R S) : n_th R (sN_value S v) := ⟨h.1, h.2.1, h.2.2.1, h.2.2.2.1, h.2.2.2.2⟩
theorem th_p_traceCell {R : Int32} {S : NS} {v : Nat → Int64} (h : n_th R S) : n_th R (sN_traceCell S v) := ⟨h.1, h.2.1, h.2.2.1, h.2.2.2.1, h.2.2.2.2⟩
theorem th_p_number {R : Int32} {S : NS} {v : Nat → Int64} (h : n_th R S) : n_th R (sN_number S v) := ⟨h.1, h.2.1, h.2.2.1, h.2.2.2.1, h.2.2.2.2⟩
theorem th_ts {R : Int32} {S : NS} {k : Nat} {x : Int32} (h : n_th R S) (hx : True) : n_th R (sN_traceSegment S (upd (pN_traceSegment S) k x)) := ⟨h.1, h.2.1, h.2.2.1, fun _ => trivial, h.2.2.2.2⟩
theorem th_sg {R : Int32} {S : NS} {k : Nat} {x : Int32} (h : n_th R S) (hx : True) : n_th R (sN_segment S (upd (pN_segment S) k x)) := ⟨fun _ => trivial, h.2.1, h.2.2.1, h.2.2.2.1, h.2.2.2.2⟩
theorem th_st_L {R : Int32} : ∀ (fu : Nat) (v : Int32) (S : NS), ((3 : Int) - v.toInt).toNat < fu → n_th R S → n_th R (f_X7_step_L92 fu v S).2
  | 0, _, _, h, _ => absurd h (Nat.not_lt_zero _)
  | fu + 1, v, S, h, hI => by
    rw [f_X7_step_L92]
    by_cases c : 3 ≤ v
    · rw [if_pos c]; exact ⟨hI.1, hI.2.1, hI.2.2.1, hI.2.2.2.1, hI.2.2.2.2⟩
    · rw [if_neg c]; exact th_st_L fu _ _ (q_dec rfl c h) (th_p_value (th_sg (th_p_traceCell (th_ts hI trivial)) trivial))
theorem th_st66 {R : Int32} {S : NS} {t : Int32} (h : n_th R S) : n_th R (f_X7_step_J66 S t).2 ∨ n_th R (f_X7_step_J66 S t).2 := by
  unfold f_X7_step_J66
  split
  · exact Or.inr (th_st_L 4 0 _ (by decide) (th_p_failure (th_X7_move (th_X7_jump h))))
  · exact Or.inl (th_p_failure (th_X7_move (th_X7_jump h)))
theorem th_st51 {R : Int32} {S : NS} (h : n_th R S) : n_th R (f_X7_step_J51 S).2 ∨ n_th R (f_X7_step_J51 S).2 := by
  unfold f_X7_step_J51
  split <;> exact th_st66 h
theorem th_st20 {R : Int32} {S : NS} (h : n_th R S) : n_th R (f_X7_step_J20 S).2 ∨ n_th R (f_X7_step_J20 S).2 := by
  unfold f_X7_step_J20
  repeat' split
  · exact th_st51 (th_X7_result (th_X7_deduce h))
  · exact th_st51 (th_X7_store (th_X7_result (th_X7_deduce h)))
  · exact th_st51 (th_X7_result (th_X7_deduce h))
theorem th_st {R : Int32} {S : NS} (h : n_th R S) : n_th R (f_X7_step S).2 ∨ n_th R (f_X7_step S).2 := by
  unfold f_X7_step
  split
  · exact th_st20 (th_X7_placeOfOp1 (th_X7_places (th_p_trouble h)))
  · exact th_st20 (th_X7_places (th_p_trouble h))
theorem th_step (S : NS) : pN_thrown (f_X7_step S).2 = pN_thrown S := by
  rcases th_st (R := pN_thrown S) (S := S) ⟨fun _ => trivial, fun _ => trivial, trivial, fun _ => trivial, rfl⟩ with h | h
  · exact h.2.2.2.2
  · exact h.2.2.2.2
