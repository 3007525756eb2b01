/-! the reference's small steps, by whether there is trouble -/
def Ad (N : NS) (a : Int32) : Prop := Vok (sg N a) (vl N a) ∧ ¬ sg N a = 0
def Kp (N T : NS) : Prop := sg T 0 = sg N 0 ∧ vl T 0 = vl N 0 ∧ sg T 1 = sg N 1 ∧ vl T 1 = vl N 1 ∧ sg T 2 = sg N 2 ∧ vl T 2 = vl N 2 ∧ pN_rows T = pN_rows N ∧ pN_traceSegment T = pN_traceSegment N ∧ pN_traceCell T = pN_traceCell N
theorem kp_rf (N : NS) : Kp N N := ⟨rfl, rfl, rfl, rfl, rfl, rfl, rfl, rfl, rfl⟩
theorem kp_tr {A B C : NS} (h : Kp A B) (g : Kp B C) : Kp A C := ⟨g.1.trans h.1, g.2.1.trans h.2.1, g.2.2.1.trans h.2.2.1, g.2.2.2.1.trans h.2.2.2.1, g.2.2.2.2.1.trans h.2.2.2.2.1, g.2.2.2.2.2.1.trans h.2.2.2.2.2.1, g.2.2.2.2.2.2.1.trans h.2.2.2.2.2.2.1, g.2.2.2.2.2.2.2.1.trans h.2.2.2.2.2.2.2.1, g.2.2.2.2.2.2.2.2.trans h.2.2.2.2.2.2.2.2⟩
theorem kp_fr {N T : NS} (h : Fr N T) : Kp N T := by obtain ⟨a, b, c, rfl⟩ := h; exact kp_rf N
theorem kp_fw {N T : NS} (h : Fw N T) : Kp N T := by obtain ⟨a, b, c, rfl⟩ := h; exact kp_rf N
theorem kp_t (N : NS) (t : Int32) : Kp N (sN_trouble N t) := kp_rf N
theorem kp_w (N : NS) (t : Int64) : Kp N (sN_word N t) := kp_rf N
theorem kp_keep (N : NS) {a : Int32} (h0 : a.toNatClampNeg ≠ 0) (h1 : a.toNatClampNeg ≠ 1) (h2 : a.toNatClampNeg ≠ 2) : Kp N (f_X7_keep N a) := by
  unfold f_X7_keep
  exact ⟨pk_un (fun z => h0 z.symm), pk_uLn (fun z => h0 z.symm), pk_un (fun z => h1 z.symm), pk_uLn (fun z => h1 z.symm), pk_un (fun z => h2 z.symm), pk_uLn (fun z => h2 z.symm), rfl, rfl, rfl⟩
theorem keep_own (N : NS) (a : Int32) : sg (f_X7_keep N a) a = pN_gotKind N ∧ vl (f_X7_keep N a) a = pN_got N := by
  unfold f_X7_keep
  exact ⟨pk_us, pk_uLs⟩
theorem keep_ne (N : NS) {a b : Int32} (h : b.toNatClampNeg ≠ a.toNatClampNeg) : sg (f_X7_keep N a) b = sg N b ∧ vl (f_X7_keep N a) b = vl N b := by
  unfold f_X7_keep
  exact ⟨pk_un h, pk_uLn h⟩
theorem keep_mr {M : Nat → Int64} {N : NS} (h : MR M N) (a : Int32) : MR M (f_X7_keep N a) := mr_fr h rfl rfl rfl
theorem fr_mr {M : Nat → Int64} {N T : NS} (h : MR M N) (hf : Fr N T) : MR M T := by obtain ⟨a, b, c, rfl⟩ := hf; exact mr_fr h rfl rfl rfl
theorem t_mr {M : Nat → Int64} {N : NS} (h : MR M N) (t : Int32) : MR M (sN_trouble N t) := mr_fr h rfl rfl rfl
/-! with trouble, nothing happens -/
theorem s_trouble {N : NS} (h : ¬ pN_trouble N = 0) (a b : Int32) : f_X7_trouble N a b = N := by unfold f_X7_trouble; rw [if_neg h]
theorem s_sure {N : NS} (h : ¬ pN_trouble N ≤ 0) (a : Int32) : f_X7_sure N a = N := by unfold f_X7_sure; rw [if_neg h]
theorem s_needed {N : NS} (h : ¬ pN_trouble N ≤ 0) (a : Int32) : f_X7_needed N a = N := by unfold f_X7_needed; rw [if_neg h]
theorem s_store {N : NS} (h : ¬ pN_trouble N ≤ 0) (a b : Int32) : f_X7_store N a b = N := by unfold f_X7_store; rw [if_neg h]
theorem s_place {N : NS} (h : ¬ pN_trouble N ≤ 0) (h0 : ¬ pN_trouble N = 0) (a : Int32) : f_X7_place N a = N := by unfold f_X7_place; rw [s_sure h, s_trouble h0, s_trouble h0, ite_self]
/-! with none -/
theorem o_tr0 {N : NS} (b : Int32) : f_X7_trouble N 0 b = N := by
  unfold f_X7_trouble
  rw [if_pos (show (0 : Int32) = 0 from rfl), ite_self]
theorem o_tr1 {N : NS} (h : pN_trouble N = 0) (b : Int32) : f_X7_trouble N 1 b = sN_trouble N b := by
  unfold f_X7_trouble
  rw [if_pos h, if_neg (by decide)]
theorem o_le {N : NS} (h : pN_trouble N = 0) : pN_trouble N ≤ 0 := by rw [h]; decide
theorem o_sure1 {N : NS} (h : pN_trouble N = 0) (ht : pN_there N = 1) (a : Int32) : f_X7_sure N a = f_X7_keep N a := by
  unfold f_X7_sure f_X7_sure_J21
  rw [if_pos (o_le h), if_neg (by rw [ht]; decide), o_tr0]
theorem o_sure0 {N : NS} (h : pN_trouble N = 0) (ht : pN_there N = 0) (a : Int32) : f_X7_sure N a = f_X7_keep (sN_trouble N 4) a := by
  unfold f_X7_sure f_X7_sure_J21
  rw [if_pos (o_le h), if_pos ht, o_tr1 h]
theorem o_place1 {N : NS} (h : pN_trouble N = 0) (ht : pN_there N = 1) (hk : ¬ pN_gotKind N = 0) (a : Int32) : f_X7_place N a = f_X7_keep N a := by
  unfold f_X7_place
  rw [o_sure1 h ht, if_neg (show ¬ sg (f_X7_keep N a) a = 0 by rw [(keep_own N a).1]; exact hk), o_tr0]
theorem o_place2 {N : NS} (h : pN_trouble N = 0) (ht : pN_there N = 1) (hk : pN_gotKind N = 0) (a : Int32) : f_X7_place N a = sN_trouble (f_X7_keep N a) 4 := by
  unfold f_X7_place
  rw [o_sure1 h ht, if_pos (show sg (f_X7_keep N a) a = 0 by rw [(keep_own N a).1]; exact hk), o_tr1 (show pN_trouble (f_X7_keep N a) = 0 from h)]
theorem o_place0 {N : NS} (h : pN_trouble N = 0) (ht : pN_there N = 0) (a : Int32) : f_X7_place N a = f_X7_keep (sN_trouble N 4) a := by
  unfold f_X7_place
  have e : ¬ pN_trouble (f_X7_keep (sN_trouble N 4) a) = 0 := by show ¬ (4 : Int32) = 0; decide
  rw [o_sure0 h ht, s_trouble e, s_trouble e, ite_self]
theorem fr_tr0 {N T : NS} (h : Fr N T) : pN_trouble T = pN_trouble N := by obtain ⟨a, b, c, rfl⟩ := h; rfl
theorem o_needed1 {N : NS} (h : pN_trouble N = 0) (a : Int32) (ht : pN_there (f_X7_read N a) = 1) : f_X7_needed N a = f_X7_read N a := by
  unfold f_X7_needed
  rw [if_pos (o_le h), if_neg (by rw [ht]; decide), o_tr0]
theorem o_needed0 {N : NS} (h : pN_trouble N = 0) (a : Int32) (ht : pN_there (f_X7_read N a) = 0) : f_X7_needed N a = sN_trouble (f_X7_read N a) 1 := by
  unfold f_X7_needed
  rw [if_pos (o_le h), if_pos ht, o_tr1 ((fr_tr0 (fr_read N a)).trans h)]
/-- the class's look, the reference's read -/
theorem r_look {P : PS} {N : NS} (hM : MR (pP_mem P) N) {a : Int32} (h : Ad N a) : f_X2_look P (enc (sg N a) (vl N a)) = res (f_X7_read N a) ∧ Gd (f_X7_read N a) := r_read hM h.1 h.2
theorem res1 {N : NS} (h : pN_there N = 1) : res N = enc (pN_gotKind N) (pN_got N) := by unfold res; rw [if_neg (by rw [h]; decide)]
theorem res0 {N : NS} (h : pN_there N = 0) : res N = -1 := by unfold res; rw [if_pos h]
theorem gd_m1 {N : NS} (h : Gd N) : (res N = -1 ∧ pN_there N = 0) ∨ (¬ res N = -1 ∧ pN_there N = 1 ∧ Vok (pN_gotKind N) (pN_got N) ∧ res N = enc (pN_gotKind N) (pN_got N)) := by
  rcases h with h | ⟨h, hv⟩
  · exact Or.inl ⟨res0 h, h⟩
  · refine Or.inr ⟨?_, h, hv, res1 h⟩
    rw [res1 h]; exact v_ne hv
/-- the class's put, the reference's store -/
theorem r_put {P : PS} {N : NS} (hM : MR (pP_mem P) N) {a b : Int32} (h : Ad N a) (hb : Vok (sg N b) (vl N b)) (h0 : pN_trouble N = 0) : ∃ W, Fw N W ∧ MR (pP_mem (f_X2_put P (enc (sg N a) (vl N a)) (enc (sg N b) (vl N b))).2) W ∧ ∃ m', (f_X2_put P (enc (sg N a) (vl N a)) (enc (sg N b) (vl N b))).2 = sP_mem P m' ∧ (((f_X2_put P (enc (sg N a) (vl N a)) (enc (sg N b) (vl N b))).1 = 0 ∧ f_X7_store N a b = W) ∨ ((f_X2_put P (enc (sg N a) (vl N a)) (enc (sg N b) (vl N b))).1 = 2 ∧ f_X7_store N a b = sN_trouble W 2)) := by
  obtain ⟨j, j1, j2, e⟩ := v_k5 h.1 h.2
  have hw := r_write hM j1 j2 (v_rt h.1 h.2) hb
  rw [← e] at hw
  have e2 : f_X1_write (pP_mem P) (f_X4_segmentOf (enc (sg N a) (vl N a))) (f_X4_cellOf (enc (sg N a) (vl N a))) (enc (sg N b) (vl N b)) = f_X1_write (pP_mem P) (sg N a) (vl N a).toInt32 (enc (sg N b) (vl N b)) := by rw [v_seg h.1 h.2, (v_cel h.1 h.2).1]
  unfold f_X2_put f_X7_store
  rw [if_pos (o_le h0), e2]
  change ∃ W, Fw N W ∧ _ ∧ ∃ m', _ ∧ ((_ ∧ (if (f_X7_written N (sg N a) (vl N a) (sg N b) (vl N b)).1 = 0 then f_X7_trouble (f_X7_written N (sg N a) (vl N a) (sg N b) (vl N b)).2 1 2 else f_X7_trouble (f_X7_written N (sg N a) (vl N a) (sg N b) (vl N b)).2 0 2) = W) ∨ (_ ∧ (if (f_X7_written N (sg N a) (vl N a) (sg N b) (vl N b)).1 = 0 then f_X7_trouble (f_X7_written N (sg N a) (vl N a) (sg N b) (vl N b)).2 1 2 else f_X7_trouble (f_X7_written N (sg N a) (vl N a) (sg N b) (vl N b)).2 0 2) = sN_trouble W 2))
  generalize f_X1_write (pP_mem P) (sg N a) (vl N a).toInt32 (enc (sg N b) (vl N b)) = C at hw ⊢
  generalize f_X7_written N (sg N a) (vl N a) (sg N b) (vl N b) = V at hw ⊢
  obtain ⟨hc, hm, hf⟩ := hw
  have htr : pN_trouble V.2 = 0 := by obtain ⟨x, y, z, q⟩ := hf; rw [q]; exact h0
  rcases hc with ⟨c1, c2⟩ | ⟨c1, c2⟩
  · rw [if_pos c1, if_pos c2, o_tr1 htr]
    exact ⟨V.2, hf, hm, C.2, rfl, Or.inr ⟨rfl, rfl⟩⟩
  · rw [if_neg (by rw [c1]; decide), if_neg (by rw [c2]; decide), o_tr0]
    exact ⟨V.2, hf, hm, C.2, rfl, Or.inl ⟨rfl, rfl⟩⟩
/-- flags -/
theorem w_flag {P : PS} {N : NS} {n : Nat} (hn : n < 2 ^ 45) (hp : pP_flags P = nI (n / 2 ^ 30)) (hw : pN_word N = lN n) (k : Nat) (hk : k < 15) {m i : Int32} (hm : m = nI (2 ^ k)) (hi : i = nI (30 + k)) : (f_X2_has P m = 0 ∧ f_X7_flag N i = 0 ∧ wb n (30 + k) = 0) ∨ (f_X2_has P m = 1 ∧ f_X7_flag N i = 1 ∧ wb n (30 + k) = 1) := by
  unfold f_X2_has f_X7_flag
  have hf : n / 2 ^ 30 < 2 ^ 15 := by omega
  have hz : (nI (n / 2 ^ 30) &&& nI (2 ^ k) = 0) ↔ wb n (30 + k) = 0 := by
    rw [← w_wf]
    exact y_z0 hf k 1 (by omega) (Nat.pow_lt_pow_right (by decide) hk)
  rw [hp, hw, hm, hi, w_sh (by omega) (by omega)]
  have hb := wb_le n (30 + k)
  rcases (by omega : wb n (30 + k) = 0 ∨ wb n (30 + k) = 1) with h | h
  · rw [if_pos (hz.mpr h), h]
    exact Or.inl ⟨rfl, by rw [if_neg (by decide)], rfl⟩
  · rw [if_neg (fun q => by rw [hz.mp q] at h; exact absurd h (by decide)), h]
    exact Or.inr ⟨rfl, by rw [if_pos (show lN 1 = 1 from rfl)], rfl⟩
theorem w_flag2 {P : PS} {n : Nat} (hn : n < 2 ^ 45) (hp : pP_flags P = nI (n / 2 ^ 30)) : (f_X2_has P 96 = 0 ↔ wb n 35 = 0 ∧ wb n 36 = 0) ∧ (f_X2_has P 17792 = 0 ↔ wb n 37 = 0 ∧ wb n 38 = 0 ∧ wb n 40 = 0 ∧ wb n 44 = 0) := by
  have hf : n / 2 ^ 30 < 2 ^ 15 := by omega
  have key : ∀ m, (f_X2_has P m = 0 ↔ nI (n / 2 ^ 30) &&& m = 0) := fun m => by
    unfold f_X2_has
    rw [hp]
    by_cases h : nI (n / 2 ^ 30) &&& m = 0
    · rw [if_pos h]; simp [h]
    · rw [if_neg h]; simp [h]
  have one : ∀ k, k < 15 → ((nI (n / 2 ^ 30) &&& nI (2 ^ k) = 0) ↔ wb n (30 + k) = 0) := fun k hk => by
    rw [← w_wf]
    exact y_z0 hf k 1 (by omega) (Nat.pow_lt_pow_right (by decide) hk)
  constructor
  · rw [key, show (96 : Int32) = nI (2 ^ 5 ||| 2 ^ 6) from rfl, y_or hf (by decide) (by decide), one 5 (by decide), one 6 (by decide)]
  · rw [key, show (17792 : Int32) = nI (2 ^ 7 ||| (2 ^ 8 ||| (2 ^ 10 ||| 2 ^ 14))) from rfl, y_or hf (by decide) (by decide), y_or hf (by decide) (by decide), y_or hf (by decide) (by decide), one 7 (by decide), one 8 (by decide), one 10 (by decide), one 14 (by decide)]
