def R_law : String := "FieldTraceLaw"
def lw_P (b : Addr) (xs : List Int32) (args : Array Value) (s : State) : Prop := args = #[.ref b] ∧ s.IntsAt b xs ∧ xs.length ≤ 3072 ∧ (Jvm.Cond.and given_1 narrow_1).before args s = true
def lw_Q (_ : Array Value) (s : State) (o : Outcome) (t : State) : Prop := o = .returned (some (.int 1)) ∧ Framed s o t [] 1055 10398
def lw_Z (below : List Frame) (a : Array Value) (s : State) : State → Prop := fun t => ∃ o, t.status = .running ∧ Ended t below o ∧ lw_Q a s o t
/-- the law's own end, with 1 on the stack, nothing written that was there before, its room as the claim has it -/
theorem lw_ret {p : Program} {l : Launch} {e : Env} {s : State} {m : MethodId} {below : List Frame} {meth : Method} {c : Code} {b : Nat} (hx : p.tables.exec = Jvm.exec) (hb : c.code = code) (hr : meth.sig.returnType = ret) (hlocks : meth.locks = false) {pc : Nat} {H : Heap} {ls : Array Slot} (hdg : decode code pc = .ok (.ireturn, 1)) : W p l e room_1 s m #[Value.ref b] below meth c H [] 1055 10398 (lw_Z below #[Value.ref b] s) (F0 m pc ls [.int 1]) := by
  intro T hT X
  obtain ⟨fs, hret, hrun, hended, hW, hframe⟩ := X.leave (v := some (.int 1)) (hlocks := hlocks) (fun h => by rw [hr] at h; cases h)
  have hmeth' : T.vm.method? m = some meth := X.method'
  refine ⟨T.setFrames fs, ?_, .returned (some (.int 1)), hrun, hended, rfl, ⟨_, rfl⟩, hW, hframe⟩
  jvm_step X.here [X.here.top, hx, hb, hdg, hmeth', hr, ret, narrow_b1]
  (try refine ⟨rfl, ?_⟩); (try refine ⟨rfl, ?_⟩)
  first | (intro acts; rw [hret _ acts rfl rfl rfl]) | rw [hret _ _ rfl rfl rfl]
  exact Steps.refl _
/-- what holds at the law's entry: the machine, the code, the tables' words (any of lw_tbl by 'hts w (by decide +kernel)'), the script of L ints xs at the cell b, what the Statement gives of the start (any of its parts by flat_of_before) -/
def lw_At (p : Program) (s : State) (m : MethodId) (meth : Method) (c : Code) (b L : Nat) (xs : Nat → Int32) : Prop :=
  p.tables.exec = Jvm.exec ∧ c.code = code ∧ meth.sig.returnType = ret ∧ c.maxLocals = 8 ∧ s.vm.findClass R_law = some m.cls ∧ (∀ w ∈ lw_tbl, w.before #[Value.ref b] s = true) ∧ va_X b L xs s s.heap ∧ b < s.heap.size ∧ meth.locks = false ∧ (Jvm.Cond.and given_1 narrow_1).before #[Value.ref b] s = true
abbrev wL (aX aP aM aC aT aR aN aIs aKd aNu aSg aVl aTs aTc aO : Nat) (cJ cI cZ : ClassId) (S : XS) (N : NS) (o : Nat → Int64) : va_W := [(aX, .inr (3, [.ref aM, .ref aP, .ref aT, .int (pX_latestFailure S)])), (aP, .inr (1, [.ref aM, .long (pP_pc (pX_p S)), .long (pP_ap (pX_p S)), .long (pP_fp (pX_p S)), .long (pP_newPc (pX_p S)), .long (pP_newAp (pX_p S)), .long (pP_newFp (pX_p S)), .long (pP_word (pX_p S)), .int (pP_flags (pX_p S)), .long (pP_dstPlace (pX_p S)), .long (pP_op0Place (pX_p S)), .long (pP_op1Place (pX_p S)), .long (pP_res (pX_p S))])), (aM, .inr (0, [.ref aC])), (aC, .inl (cJ, 320, .inr (.inl (pP_mem (pX_p S))))), (aT, .inr (2, [.ref aR, .int (pT_length (pX_t S))])), (aR, .inl (cJ, 192, .inr (.inl (pT_row (pX_t S))))), (aN, .inr (4, [.int (pN_thrown N), .ref aIs, .ref aKd, .ref aNu, .ref aSg, .ref aVl, .int (pN_there N), .int (pN_gotKind N), .long (pN_got N), .int (pN_trouble N), .int (pN_failure N), .long (pN_word N), .int (pN_rows N), .ref aTs, .ref aTc])), (aIs, .inl (cZ, 384, .inl (pN_isSet N))), (aKd, .inl (cI, 384, .inl (pN_kind N))), (aNu, .inl (cJ, 384, .inr (.inl (pN_number N)))), (aSg, .inl (cI, 13, .inl (pN_segment N))), (aVl, .inl (cJ, 13, .inr (.inl (pN_value N)))), (aTs, .inl (cI, 192, .inl (pN_traceSegment N))), (aTc, .inl (cJ, 192, .inr (.inl (pN_traceCell N)))), (aO, .inl (cJ, 1, .inr (.inl o)))]
theorem cd3_0 : ∀ k, cd3 k = 0 → k = 0 := fun k h => by
  unfold cd3 at h
  by_cases z : k = 3
  · rw [if_pos z] at h; exact absurd h (by decide)
  · rw [if_neg z] at h; exact h
theorem cdA_0 : ∀ k, cdA k = 0 → k = 0 := fun k h => by
  unfold cdA at h
  by_cases z : k = 3
  · rw [if_pos z] at h; exact absurd h (by decide)
  · rw [if_neg z] at h; exact h
theorem cd4_0 : ∀ k, cd4 k = 0 → k = 0 := fun k h => by
  unfold cd4 at h
  by_cases z : k = 4
  · rw [if_pos z] at h; exact absurd h (by decide)
  · rw [if_neg z] at h; exact h
/-! what the two answers come to -/
theorem J2 {α : Type} {cd : Int32 → Int32} (g : α → Int64) {C : Int32 × α × XS} {M : α × NS} (hE : Eq2 cd C M) (hcd : ∀ k, cd k = 0 → k = 0) {rk : Int32} {u : XS × (Nat → Int64)} {r2 : α} {v : NS} (hw : rk = cd C.1 ∧ u.1 = C.2.2 ∧ (C.1 = 0 → u.2 0 = g C.2.1)) (hw2 : r2 = M.1 ∧ v = M.2) : pN_thrown v = rk ∧ (rk = 0 → u.2 0 = g r2) ∧ RX u.1 v := by
  obtain ⟨e1, e2, e3⟩ := hE
  obtain ⟨w1, w2, w3⟩ := hw
  obtain ⟨m1, m2⟩ := hw2
  refine ⟨by rw [m2, e1, w1], fun z => ?_, by rw [w2, m2]; exact e3⟩
  rw [w1] at z
  have z0 := hcd _ z
  rw [w3 z0, e2 z0, m1]
theorem J1 {cd : Int32 → Int32} {C : Int32 × XS} {M : NS} (hE : Eq1 cd C M) {rk : Int32} {u : XS} {v : NS} (hw : rk = cd C.1 ∧ u = C.2) (hw2 : v = M) : pN_thrown v = rk ∧ RX u v := by
  obtain ⟨e1, e3⟩ := hE
  exact ⟨by rw [hw2, e1, hw.1], by rw [hw.2, hw2]; exact e3⟩
theorem J3 {cd : Int32 → Int32} {C : Int32 × Int32 × XS} {M : Int32 × NS} (hE : Eq2 cd C M) {r r2 : Int32} {u : XS} {v : NS} (hw : C.1 = 0 ∧ r = C.2.1 ∧ u = C.2.2) (hw2 : r2 = M.1 ∧ v = M.2) : r = r2 ∧ RX u v := by
  obtain ⟨-, e2, e3⟩ := hE
  exact ⟨by rw [hw.2.1, e2 hw.1, hw2.1], by rw [hw.2.2, hw2.2]; exact e3⟩
theorem rx_len {S : XS} {N : NS} (h : RX S N) : 0 ≤ pT_length (pX_t S) ∧ pT_length (pX_t S) ≤ 64 ∧ vp_in (pN_rows N) 65 ∧ n_ok (pN_rows N) N := by
  obtain ⟨-, -, ⟨k, k0, k1, k2, -⟩, hI⟩ := h
  exact ⟨by rw [k1]; exact nI_pos' (by omega), by rw [k1]; exact nI_le (b := 64) k0 (by decide), by rw [k2]; exact vp_in_nI (by omega) (by decide), hI⟩
theorem q_sld {p : Program} {l : Launch} {e : Env} {R : Room} {s : State} {m : MethodId} {args : Array Value} {below : List Frame} {meth : Method} {c : Code} {H : Heap} {locs : List Loc} {cells slots : Nat} {Q : State → Prop} {cc : ByteArray} {pc : Nat} {ls : Array Slot} {rest : List Value} {A : Nat → Prop} (hexec : p.tables.exec = Jvm.exec) (hb : c.code = cc) {b L : Nat} {xs : Nat → Int32} (hX : va_X b L xs s s.heap) (hbl : b < s.heap.size) (hbA : ¬ A b) (hS : va_S A s.heap H locs) {i x : Int32} (hin : vp_in i L) (hv : xs i.toNatClampNeg = x) (hdg : decode cc pc = .ok (.iaload, 1))
    (kk : W p l e R s m args below meth c H locs cells slots Q (F0 m (pc + 1) ls (.int x :: rest))) : W p l e R s m args below meth c H locs cells slots Q (F0 m pc ls (.int i :: .ref b :: rest)) := by
  subst hv
  exact va_sld hexec hb hX hbl hbA hS hin hdg kk
