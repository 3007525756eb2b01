/-! own rows: contracts of methods that read (ro), of methods that change their world (mu), their calls and ends -/
def q_Pr (D : va_G) (tys : List (ClassId × FieldType)) (ws : va_W) (av : List Value) (sz : Nat) : Array Value → State → Prop := va_Pc av (fun U => U.heap.size = sz ∧ va_P D vwCl ws U.heap ∧ va_K D vwCl tys U)
def q_Pm (D : va_G) (tys : List (ClassId × FieldType)) (ws : va_W) (av : List Value) (sz : Nat) : Array Value → State → Prop := va_Pc av (fun U => U.heap.size = sz ∧ va_P D vwCl ws U.heap ∧ va_K D vwCl tys U ∧ va_D (fun _ => True) ws)
theorem q_Pr_blind {D : va_G} {tys : List (ClassId × FieldType)} {ws : va_W} {av : List Value} {sz : Nat} : FrameBlind (q_Pr D tys ws av sz) := fun a U g mk q => by
  obtain ⟨q0, q1, qP, qK⟩ := q
  exact ⟨q0, q1, qP, va_K.moved (u := U) (U := U.calling g mk a) (Vm.Alike.refl U.vm) qK⟩
theorem q_Pm_blind {D : va_G} {tys : List (ClassId × FieldType)} {ws : va_W} {av : List Value} {sz : Nat} : FrameBlind (q_Pm D tys ws av sz) := fun a U g mk q => by
  obtain ⟨q0, q1, qP, qK, qD⟩ := q
  exact ⟨q0, q1, qP, va_K.moved (u := U) (U := U.calling g mk a) (Vm.Alike.refl U.vm) qK, qD⟩
def q_roL (l : Launch) (y : MethodName) (w : List Cond) (rm : Room) (D : va_G) (tys : List (ClassId × FieldType)) (ws : va_W) (av : List Value) (v : Int64) : Prop := ∀ sz, Met l y w rm (q_Pr D tys ws av sz) (va_Ql (fun r (_ : Unit) => r = v) (fun _ _ => True) (va_A [] sz)) 0 0 (va_A [] sz)
def q_roI (l : Launch) (y : MethodName) (w : List Cond) (rm : Room) (D : va_G) (tys : List (ClassId × FieldType)) (ws : va_W) (av : List Value) (v : Int32) : Prop := ∀ sz, Met l y w rm (q_Pr D tys ws av sz) (va_Qi (fun r (_ : Unit) => r = v) (fun _ _ => True) (va_A [] sz)) 0 0 (va_A [] sz)
def q_muI {S : Type} (l : Launch) (y : MethodName) (w : List Cond) (rm : Room) (D : va_G) (tys : List (ClassId × FieldType)) (ws : va_W) (av : List Value) (post : Int32 → S → Prop) (Wf : S → va_W) : Prop := ∀ sz, Met l y w rm (q_Pm D tys ws av sz) (va_Qi post (fun u t => va_P D vwCl (Wf u) t.heap ∧ va_D (va_A ws sz) (Wf u)) (va_A ws sz)) 0 0 (va_A ws sz)
def q_muL {S : Type} (l : Launch) (y : MethodName) (w : List Cond) (rm : Room) (D : va_G) (tys : List (ClassId × FieldType)) (ws : va_W) (av : List Value) (post : Int64 → S → Prop) (Wf : S → va_W) : Prop := ∀ sz, Met l y w rm (q_Pm D tys ws av sz) (va_Ql post (fun u t => va_P D vwCl (Wf u) t.heap ∧ va_D (va_A ws sz) (Wf u)) (va_A ws sz)) 0 0 (va_A ws sz)
def q_muV {S : Type} (l : Launch) (y : MethodName) (w : List Cond) (rm : Room) (D : va_G) (tys : List (ClassId × FieldType)) (ws : va_W) (av : List Value) (post : S → Prop) (Wf : S → va_W) : Prop := ∀ sz, Met l y w rm (q_Pm D tys ws av sz) (va_Qv post (fun u t => va_P D vwCl (Wf u) t.heap ∧ va_D (va_A ws sz) (Wf u)) (va_A ws sz)) 0 0 (va_A ws sz)
/-- a body's start -/
theorem q_of {l : Launch} {y : MethodName} {w w' : List Cond} {rm : Room} {Pc : Array Value → State → Prop} {Qc : Array Value → State → Outcome → State → Prop} {free : Addr → Prop} {cc : ByteArray} {maxL mc ms : Nat} {ret : Option FieldType} {av : List Value} {Bp : State → Prop}
    (hy : plainFor y = true) (hw : w = Cond.code y cc maxL ret :: w') (hlen : (lg_sl av).length ≤ maxL) (hPc : Pc = va_Pc av Bp)
    (body : ∀ (p : Program) (e : Env) (s : State) (m : MethodId) (below : List Frame) (meth : Method) (c : Code) (ls : Array Slot), p.tables.exec = Jvm.exec → c.code = cc → meth.sig.returnType = ret → c.maxLocals = maxL → s.vm.findClass y.cls = some m.cls → (∀ x ∈ w, x.before av.toArray s = true) → meth.locks = false → Bp s → lv_has ls maxL (lv_args 0 av) →
      W p l e rm s m av.toArray below meth c s.heap [] 0 0 (MQ below Qc av.toArray s mc ms free) (F0 m 0 ls [])) : Met l y w rm Pc Qc mc ms free := by
  refine va_MetF (cc := cc) (maxL := maxL) (ret := ret) hy hw ?_
  intro p e s m args below meth c s₁ B hml hv
  rw [hPc] at hv
  obtain ⟨rfl, hB⟩ := hv
  have hl := lv_entry av (n := maxL) hlen
  rw [lg_entry_eq]
  exact body p e s m below meth c _ B.exec B.bytes B.returns hml (findClass_of_methodNamed B.named) (atoms_spec (ws := w) B.pre) B.notSynchronized hB hl
theorem q_roL_of {l : Launch} {y : MethodName} {w w' : List Cond} {rm : Room} {D : va_G} {tys : List (ClassId × FieldType)} {ws : va_W} {v : Int64} {cc : ByteArray} {maxL : Nat} {ret : Option FieldType} {av : List Value}
    (hy : plainFor y = true) (hw : w = Cond.code y cc maxL ret :: w') (hlen : (lg_sl av).length ≤ maxL)
    (body : ∀ (p : Program) (e : Env) (s : State) (m : MethodId) (below : List Frame) (meth : Method) (c : Code) (ls : Array Slot) (A : Nat → Prop), p.tables.exec = Jvm.exec → c.code = cc → meth.sig.returnType = ret → c.maxLocals = maxL → s.vm.findClass y.cls = some m.cls → (∀ x ∈ w, x.before av.toArray s = true) → meth.locks = false → va_P D vwCl ws s.heap → va_K D vwCl tys s → (∀ q, s.heap.size ≤ q → A q) → va_S A s.heap s.heap [] → lv_has ls maxL (lv_args 0 av) →
      W p l e rm s m av.toArray below meth c s.heap [] 0 0 (MQ below (va_Ql (fun r (_ : Unit) => r = v) (fun _ _ => True) A) av.toArray s 0 0 A) (F0 m 0 ls [])) : q_roL l y w rm D tys ws av v := fun sz => by
  refine q_of hy hw hlen rfl ?_
  intro p e s m below meth c ls h1 h2 h3 h4 h5 h6 h7 hB h8
  obtain ⟨rfl, hP, hK⟩ := hB
  exact body p e s m below meth c ls (va_A [] s.heap.size) h1 h2 h3 h4 h5 h6 h7 hP hK (fun q h => Or.inr h) va_S.rf h8
theorem q_roI_of {l : Launch} {y : MethodName} {w w' : List Cond} {rm : Room} {D : va_G} {tys : List (ClassId × FieldType)} {ws : va_W} {v : Int32} {cc : ByteArray} {maxL : Nat} {ret : Option FieldType} {av : List Value}
    (hy : plainFor y = true) (hw : w = Cond.code y cc maxL ret :: w') (hlen : (lg_sl av).length ≤ maxL)
    (body : ∀ (p : Program) (e : Env) (s : State) (m : MethodId) (below : List Frame) (meth : Method) (c : Code) (ls : Array Slot) (A : Nat → Prop), p.tables.exec = Jvm.exec → c.code = cc → meth.sig.returnType = ret → c.maxLocals = maxL → s.vm.findClass y.cls = some m.cls → (∀ x ∈ w, x.before av.toArray s = true) → meth.locks = false → va_P D vwCl ws s.heap → va_K D vwCl tys s → (∀ q, s.heap.size ≤ q → A q) → va_S A s.heap s.heap [] → lv_has ls maxL (lv_args 0 av) →
      W p l e rm s m av.toArray below meth c s.heap [] 0 0 (MQ below (va_Qi (fun r (_ : Unit) => r = v) (fun _ _ => True) A) av.toArray s 0 0 A) (F0 m 0 ls [])) : q_roI l y w rm D tys ws av v := fun sz => by
  refine q_of hy hw hlen rfl ?_
  intro p e s m below meth c ls h1 h2 h3 h4 h5 h6 h7 hB h8
  obtain ⟨rfl, hP, hK⟩ := hB
  exact body p e s m below meth c ls (va_A [] s.heap.size) h1 h2 h3 h4 h5 h6 h7 hP hK (fun q h => Or.inr h) va_S.rf h8
theorem q_muI_of {S : Type} {l : Launch} {y : MethodName} {w w' : List Cond} {rm : Room} {D : va_G} {tys : List (ClassId × FieldType)} {ws : va_W} {post : Int32 → S → Prop} {Wf : S → va_W} {cc : ByteArray} {maxL : Nat} {ret : Option FieldType} {av : List Value}
    (hy : plainFor y = true) (hw : w = Cond.code y cc maxL ret :: w') (hlen : (lg_sl av).length ≤ maxL)
    (body : ∀ (p : Program) (e : Env) (s : State) (m : MethodId) (below : List Frame) (meth : Method) (c : Code) (ls : Array Slot) (A : Nat → Prop), p.tables.exec = Jvm.exec → c.code = cc → meth.sig.returnType = ret → c.maxLocals = maxL → s.vm.findClass y.cls = some m.cls → (∀ x ∈ w, x.before av.toArray s = true) → meth.locks = false → va_P D vwCl ws s.heap → va_K D vwCl tys s → va_D A ws → (∀ q, s.heap.size ≤ q → A q) → va_S A s.heap s.heap [] → lv_has ls maxL (lv_args 0 av) →
      W p l e rm s m av.toArray below meth c s.heap [] 0 0 (MQ below (va_Qi post (fun u t => va_P D vwCl (Wf u) t.heap ∧ va_D A (Wf u)) A) av.toArray s 0 0 A) (F0 m 0 ls [])) : q_muI l y w rm D tys ws av post Wf := fun sz => by
  refine q_of hy hw hlen rfl ?_
  intro p e s m below meth c ls h1 h2 h3 h4 h5 h6 h7 hB h8
  obtain ⟨rfl, hP, hK, hD⟩ := hB
  exact body p e s m below meth c ls (va_A ws s.heap.size) h1 h2 h3 h4 h5 h6 h7 hP hK hD.self (fun q h => Or.inr h) va_S.rf h8
theorem q_muL_of {S : Type} {l : Launch} {y : MethodName} {w w' : List Cond} {rm : Room} {D : va_G} {tys : List (ClassId × FieldType)} {ws : va_W} {post : Int64 → S → Prop} {Wf : S → va_W} {cc : ByteArray} {maxL : Nat} {ret : Option FieldType} {av : List Value}
    (hy : plainFor y = true) (hw : w = Cond.code y cc maxL ret :: w') (hlen : (lg_sl av).length ≤ maxL)
    (body : ∀ (p : Program) (e : Env) (s : State) (m : MethodId) (below : List Frame) (meth : Method) (c : Code) (ls : Array Slot) (A : Nat → Prop), p.tables.exec = Jvm.exec → c.code = cc → meth.sig.returnType = ret → c.maxLocals = maxL → s.vm.findClass y.cls = some m.cls → (∀ x ∈ w, x.before av.toArray s = true) → meth.locks = false → va_P D vwCl ws s.heap → va_K D vwCl tys s → va_D A ws → (∀ q, s.heap.size ≤ q → A q) → va_S A s.heap s.heap [] → lv_has ls maxL (lv_args 0 av) →
      W p l e rm s m av.toArray below meth c s.heap [] 0 0 (MQ below (va_Ql post (fun u t => va_P D vwCl (Wf u) t.heap ∧ va_D A (Wf u)) A) av.toArray s 0 0 A) (F0 m 0 ls [])) : q_muL l y w rm D tys ws av post Wf := fun sz => by
  refine q_of hy hw hlen rfl ?_
  intro p e s m below meth c ls h1 h2 h3 h4 h5 h6 h7 hB h8
  obtain ⟨rfl, hP, hK, hD⟩ := hB
  exact body p e s m below meth c ls (va_A ws s.heap.size) h1 h2 h3 h4 h5 h6 h7 hP hK hD.self (fun q h => Or.inr h) va_S.rf h8
theorem q_muV_of {S : Type} {l : Launch} {y : MethodName} {w w' : List Cond} {rm : Room} {D : va_G} {tys : List (ClassId × FieldType)} {ws : va_W} {post : S → Prop} {Wf : S → va_W} {cc : ByteArray} {maxL : Nat} {ret : Option FieldType} {av : List Value}
    (hy : plainFor y = true) (hw : w = Cond.code y cc maxL ret :: w') (hlen : (lg_sl av).length ≤ maxL)
    (body : ∀ (p : Program) (e : Env) (s : State) (m : MethodId) (below : List Frame) (meth : Method) (c : Code) (ls : Array Slot) (A : Nat → Prop), p.tables.exec = Jvm.exec → c.code = cc → meth.sig.returnType = ret → c.maxLocals = maxL → s.vm.findClass y.cls = some m.cls → (∀ x ∈ w, x.before av.toArray s = true) → meth.locks = false → va_P D vwCl ws s.heap → va_K D vwCl tys s → va_D A ws → (∀ q, s.heap.size ≤ q → A q) → va_S A s.heap s.heap [] → lv_has ls maxL (lv_args 0 av) →
      W p l e rm s m av.toArray below meth c s.heap [] 0 0 (MQ below (va_Qv post (fun u t => va_P D vwCl (Wf u) t.heap ∧ va_D A (Wf u)) A) av.toArray s 0 0 A) (F0 m 0 ls [])) : q_muV l y w rm D tys ws av post Wf := fun sz => by
  refine q_of hy hw hlen rfl ?_
  intro p e s m below meth c ls h1 h2 h3 h4 h5 h6 h7 hB h8
  obtain ⟨rfl, hP, hK, hD⟩ := hB
  exact body p e s m below meth c ls (va_A ws s.heap.size) h1 h2 h3 h4 h5 h6 h7 hP hK hD.self (fun q h => Or.inr h) va_S.rf h8
section QW
variable {p : Program} {l : Launch} {e : Env} {R : Room} {s : State} {m : MethodId} {args : Array Value} {below : List Frame} {meth : Method} {c : Code} {H : Heap} {locs : List Loc} {cells slots : Nat} {Q : State → Prop}
variable {cc : ByteArray} {pc : Nat} {ls : Array Slot} {rest : List Value} {D : va_G} {A : Nat → Prop} {tys tysc : List (ClassId × FieldType)} {ws wc : va_W}
/-! ends -/
theorem q_rl {v r : Int64} (hx : p.tables.exec = Jvm.exec) (hb : c.code = cc) (hr : meth.sig.returnType = some .long) (hlocks : meth.locks = false) (hS : va_S A s.heap H locs) (h : r = v) (hdg : decode cc pc = .ok (.lreturn, 1)) :
    W p l e R s m args below meth c H locs cells slots (MQ below (va_Ql (fun r (_ : Unit) => r = v) (fun _ _ => True) A) args s cells slots A) (F0 m pc ls [.long r]) :=
  W.lret (v := r) hx hb hr (fun t ht _ => ⟨⟨r, (), rfl, h, trivial⟩, hS.F ht⟩) hS.2.2 hdg hlocks
theorem q_ri {v r : Int32} (hx : p.tables.exec = Jvm.exec) (hb : c.code = cc) (hr : meth.sig.returnType = some .int) (hlocks : meth.locks = false) (hS : va_S A s.heap H locs) (h : r = v) (hdg : decode cc pc = .ok (.ireturn, 1)) :
    W p l e R s m args below meth c H locs cells slots (MQ below (va_Qi (fun r (_ : Unit) => r = v) (fun _ _ => True) A) args s cells slots A) (F0 m pc ls [.int r]) :=
  W.iret (v := r) hx hb hr (fun t ht _ => ⟨⟨r, (), rfl, h, trivial⟩, hS.F ht⟩) hS.2.2 hdg hlocks
theorem q_rz {v r : Int32} (hx : p.tables.exec = Jvm.exec) (hb : c.code = cc) (hr : meth.sig.returnType = some .boolean) (hlocks : meth.locks = false) (hn : narrow .boolean (.int r) = .int r) (hS : va_S A s.heap H locs) (h : r = v) (hdg : decode cc pc = .ok (.ireturn, 1)) :
    W p l e R s m args below meth c H locs cells slots (MQ below (va_Qi (fun r (_ : Unit) => r = v) (fun _ _ => True) A) args s cells slots A) (F0 m pc ls [.int r]) :=
  W.zret (v := r) hx hb hr hn (fun t ht _ => ⟨⟨r, (), rfl, h, trivial⟩, hS.F ht⟩) hS.2.2 hdg hlocks
theorem q_mi {S : Type} {post : Int32 → S → Prop} {Wf : S → va_W} {r : Int32} (u : S) (hx : p.tables.exec = Jvm.exec) (hb : c.code = cc) (hr : meth.sig.returnType = some .int) (hlocks : meth.locks = false) (hP : va_P D vwCl (Wf u) H) (hD : va_D A (Wf u)) (hS : va_S A s.heap H locs) (h : post r u) (hdg : decode cc pc = .ok (.ireturn, 1)) :
    W p l e R s m args below meth c H locs cells slots (MQ below (va_Qi post (fun u t => va_P D vwCl (Wf u) t.heap ∧ va_D A (Wf u)) A) args s cells slots A) (F0 m pc ls [.int r]) :=
  W.iret (v := r) hx hb hr (fun t ht _ => ⟨⟨r, u, rfl, h, by rw [ht]; exact hP, hD⟩, hS.F ht⟩) hS.2.2 hdg hlocks
theorem q_mz {S : Type} {post : Int32 → S → Prop} {Wf : S → va_W} {r : Int32} (u : S) (hx : p.tables.exec = Jvm.exec) (hb : c.code = cc) (hr : meth.sig.returnType = some .boolean) (hlocks : meth.locks = false) (hn : narrow .boolean (.int r) = .int r) (hP : va_P D vwCl (Wf u) H) (hD : va_D A (Wf u)) (hS : va_S A s.heap H locs) (h : post r u) (hdg : decode cc pc = .ok (.ireturn, 1)) :
    W p l e R s m args below meth c H locs cells slots (MQ below (va_Qi post (fun u t => va_P D vwCl (Wf u) t.heap ∧ va_D A (Wf u)) A) args s cells slots A) (F0 m pc ls [.int r]) :=
  W.zret (v := r) hx hb hr hn (fun t ht _ => ⟨⟨r, u, rfl, h, by rw [ht]; exact hP, hD⟩, hS.F ht⟩) hS.2.2 hdg hlocks
theorem q_ml {S : Type} {post : Int64 → S → Prop} {Wf : S → va_W} {r : Int64} (u : S) (hx : p.tables.exec = Jvm.exec) (hb : c.code = cc) (hr : meth.sig.returnType = some .long) (hlocks : meth.locks = false) (hP : va_P D vwCl (Wf u) H) (hD : va_D A (Wf u)) (hS : va_S A s.heap H locs) (h : post r u) (hdg : decode cc pc = .ok (.lreturn, 1)) :
    W p l e R s m args below meth c H locs cells slots (MQ below (va_Ql post (fun u t => va_P D vwCl (Wf u) t.heap ∧ va_D A (Wf u)) A) args s cells slots A) (F0 m pc ls [.long r]) :=
  W.lret (v := r) hx hb hr (fun t ht _ => ⟨⟨r, u, rfl, h, by rw [ht]; exact hP, hD⟩, hS.F ht⟩) hS.2.2 hdg hlocks
theorem q_mv {S : Type} {post : S → Prop} {Wf : S → va_W} (u : S) (hx : p.tables.exec = Jvm.exec) (hb : c.code = cc) (hr : meth.sig.returnType = none) (hlocks : meth.locks = false) (hP : va_P D vwCl (Wf u) H) (hD : va_D A (Wf u)) (hS : va_S A s.heap H locs) (h : post u) (hdg : decode cc pc = .ok (.return_, 1)) :
    W p l e R s m args below meth c H locs cells slots (MQ below (va_Qv post (fun u t => va_P D vwCl (Wf u) t.heap ∧ va_D A (Wf u)) A) args s cells slots A) (F0 m pc ls []) :=
  W.vret hx hb hr (fun t ht _ => ⟨⟨u, rfl, h, by rw [ht]; exact hP, hD⟩, hS.F ht⟩) hS.2.2 hdg hlocks
/-! lcmp with the branch behind it -/
theorem q_lt {x y : Int64} {off : Int} {tgt : Nat} (hx : p.tables.exec = Jvm.exec) (hb : c.code = cc) (h0 : decode cc pc = .ok (.lcmp, 1)) (h1 : decode cc (pc + 1) = .ok (.ifCond .lt off, 3)) (ht : ((pc + 1 : Nat) : Int) + off = (tgt : Int))
    (kt : x < y → W p l e R s m args below meth c H locs cells slots Q (F0 m tgt ls rest)) (kf : ¬ x < y → W p l e R s m args below meth c H locs cells slots Q (F0 m (pc + 1 + 3) ls rest)) : W p l e R s m args below meth c H locs cells slots Q (F0 m pc ls (.long y :: .long x :: rest)) :=
  W.lcmp hx hb h0 (lv_if_lt hx hb h1 ht (fun h => kt ((lg_cmp_lt x y).mp h)) (fun h => kf (fun z => h ((lg_cmp_lt x y).mpr z))))
theorem q_ge {x y : Int64} {off : Int} {tgt : Nat} (hx : p.tables.exec = Jvm.exec) (hb : c.code = cc) (h0 : decode cc pc = .ok (.lcmp, 1)) (h1 : decode cc (pc + 1) = .ok (.ifCond .ge off, 3)) (ht : ((pc + 1 : Nat) : Int) + off = (tgt : Int))
    (kt : y ≤ x → W p l e R s m args below meth c H locs cells slots Q (F0 m tgt ls rest)) (kf : ¬ y ≤ x → W p l e R s m args below meth c H locs cells slots Q (F0 m (pc + 1 + 3) ls rest)) : W p l e R s m args below meth c H locs cells slots Q (F0 m pc ls (.long y :: .long x :: rest)) :=
  W.lcmp hx hb h0 (lv_if_ge hx hb h1 ht (fun h => kt ((lg_cmp_ge x y).mp h)) (fun h => kf (fun z => h ((lg_cmp_ge x y).mpr z))))
theorem q_gt {x y : Int64} {off : Int} {tgt : Nat} (hx : p.tables.exec = Jvm.exec) (hb : c.code = cc) (h0 : decode cc pc = .ok (.lcmp, 1)) (h1 : decode cc (pc + 1) = .ok (.ifCond .gt off, 3)) (ht : ((pc + 1 : Nat) : Int) + off = (tgt : Int))
    (kt : y < x → W p l e R s m args below meth c H locs cells slots Q (F0 m tgt ls rest)) (kf : ¬ y < x → W p l e R s m args below meth c H locs cells slots Q (F0 m (pc + 1 + 3) ls rest)) : W p l e R s m args below meth c H locs cells slots Q (F0 m pc ls (.long y :: .long x :: rest)) :=
  W.lcmp hx hb h0 (lv_if_gt hx hb h1 ht (fun h => kt ((lg_cmp_gt x y).mp h)) (fun h => kf (fun z => h ((lg_cmp_gt x y).mpr z))))
theorem q_le {x y : Int64} {off : Int} {tgt : Nat} (hx : p.tables.exec = Jvm.exec) (hb : c.code = cc) (h0 : decode cc pc = .ok (.lcmp, 1)) (h1 : decode cc (pc + 1) = .ok (.ifCond .le off, 3)) (ht : ((pc + 1 : Nat) : Int) + off = (tgt : Int))
    (kt : x ≤ y → W p l e R s m args below meth c H locs cells slots Q (F0 m tgt ls rest)) (kf : ¬ x ≤ y → W p l e R s m args below meth c H locs cells slots Q (F0 m (pc + 1 + 3) ls rest)) : W p l e R s m args below meth c H locs cells slots Q (F0 m pc ls (.long y :: .long x :: rest)) :=
  W.lcmp hx hb h0 (lv_if_le hx hb h1 ht (fun h => kt ((lg_cmp_le x y).mp h)) (fun h => kf (fun z => h ((lg_cmp_le x y).mpr z))))
theorem q_eq {x y : Int64} {off : Int} {tgt : Nat} (hx : p.tables.exec = Jvm.exec) (hb : c.code = cc) (h0 : decode cc pc = .ok (.lcmp, 1)) (h1 : decode cc (pc + 1) = .ok (.ifCond .eq off, 3)) (ht : ((pc + 1 : Nat) : Int) + off = (tgt : Int))
    (kt : x = y → W p l e R s m args below meth c H locs cells slots Q (F0 m tgt ls rest)) (kf : ¬ x = y → W p l e R s m args below meth c H locs cells slots Q (F0 m (pc + 1 + 3) ls rest)) : W p l e R s m args below meth c H locs cells slots Q (F0 m pc ls (.long y :: .long x :: rest)) :=
  W.lcmp hx hb h0 (lv_if_eq hx hb h1 ht (fun h => kt ((lg_cmp_eq x y).mp h)) (fun h => kf (fun z => h ((lg_cmp_eq x y).mpr z))))
theorem q_ne {x y : Int64} {off : Int} {tgt : Nat} (hx : p.tables.exec = Jvm.exec) (hb : c.code = cc) (h0 : decode cc pc = .ok (.lcmp, 1)) (h1 : decode cc (pc + 1) = .ok (.ifCond .ne off, 3)) (ht : ((pc + 1 : Nat) : Int) + off = (tgt : Int))
    (kt : ¬ x = y → W p l e R s m args below meth c H locs cells slots Q (F0 m tgt ls rest)) (kf : x = y → W p l e R s m args below meth c H locs cells slots Q (F0 m (pc + 1 + 3) ls rest)) : W p l e R s m args below meth c H locs cells slots Q (F0 m pc ls (.long y :: .long x :: rest)) :=
  W.lcmp hx hb h0 (lv_if_ne hx hb h1 ht (fun h => kt (fun z => h ((lg_cmp_eq x y).mpr z))) (fun h => kf ((lg_cmp_eq x y).mp h)))
/-! calls of what only reads -/
variable {y : MethodName} {bytes : ByteArray} {maxL nL n index : Nat} {ret : Option FieldType} {wy wy' : List Cond} {rm : Room} {Ts : List Cond} {own C : String} {As st0 : List Value}
theorem q_keptP (hP : va_P D vwCl ws H) {H1 : Heap} (hk : ∀ q : Nat, q < H.size → ¬ va_A [] H.size q → H1[q]? = H[q]?) : va_P D vwCl ws H1 := hP.kept fun k q hq => by
  have hl := (hP k q hq).lt
  refine hk q.1 hl fun h => ?_
  rcases h with ⟨j, e9, h⟩ | h
  · simp at h
  · omega
theorem q_new {A : Nat → Prop} (hS : va_S A s.heap H locs) (hA : ∀ q, s.heap.size ≤ q → A q) : ∀ q, va_A [] H.size q → A q := fun q h => by
  rcases h with ⟨j, e9, h⟩ | h
  · simp at h
  · exact hA q (Nat.le_trans hS.1 h)
theorem q_callSl {v : Int64} (hM : q_roL l y wy rm D tysc wc As v) (hfix : CallFix p m c cc nL s args Ts own) (cw : CallB R s args own index y bytes maxL ret wy rm 0 0 n ∧ (Cond.static y).before args s = true) (hn : As.length = n) (hsz : ls.size = nL) (hst : st0 = As.reverse ++ rest) (hW : (rest.map fun v => v.category).sum ≤ 8) (hf : cells ≤ R.cells ∧ slots ≤ R.slots)
    (hP : va_P D vwCl ws H) (hK : va_K D vwCl tys s) (hS : va_S A s.heap H locs) (hA : ∀ q, s.heap.size ≤ q → A q) (isC isT : List Nat) (h1 : isC.filterMap (fun i => ws[i]?) = wc) (h2 : isT.filterMap (fun i => tys[i]?) = tysc) (hdg : decode cc pc = .ok (.invokestatic index, 3))
    (kk : ∀ (H1 : Heap) (locs1 : List Loc), va_P D vwCl ws H1 → va_S A s.heap H1 locs1 → W p l e R s m args below meth c H1 locs1 cells slots Q (F0 m (pc + 3) ls (.long v :: rest))) : W p l e R s m args below meth c H locs cells slots Q (F0 m pc ls st0) := by
  have hPc := hP.sub isC h1
  have hKc := hK.sub isT h2
  refine va_calll (va_runS (As := As) (rest := rest) hfix (hM H.size) cw ⟨q_Pr_blind, fun U hU hWm => ⟨rfl, by rw [hU], by rw [hU]; exact hPc, va_K.moved hWm.alike hKc⟩⟩ rfl hn hsz hst (lv_room hW) hdg hf) hS (fun q _ h => q_new hS hA q h) (q_new hS hA) (fun r u t H1 locs1 ht hvm hw hB hz1 hk1 hS1 => ?_)
  subst hw
  exact kk H1 locs1 (q_keptP hP hk1) hS1
theorem q_callSi {v : Int32} (hM : q_roI l y wy rm D tysc wc As v) (hfix : CallFix p m c cc nL s args Ts own) (cw : CallB R s args own index y bytes maxL ret wy rm 0 0 n ∧ (Cond.static y).before args s = true) (hn : As.length = n) (hsz : ls.size = nL) (hst : st0 = As.reverse ++ rest) (hW : (rest.map fun v => v.category).sum ≤ 8) (hf : cells ≤ R.cells ∧ slots ≤ R.slots)
    (hP : va_P D vwCl ws H) (hK : va_K D vwCl tys s) (hS : va_S A s.heap H locs) (hA : ∀ q, s.heap.size ≤ q → A q) (isC isT : List Nat) (h1 : isC.filterMap (fun i => ws[i]?) = wc) (h2 : isT.filterMap (fun i => tys[i]?) = tysc) (hdg : decode cc pc = .ok (.invokestatic index, 3))
    (kk : ∀ (H1 : Heap) (locs1 : List Loc), va_P D vwCl ws H1 → va_S A s.heap H1 locs1 → W p l e R s m args below meth c H1 locs1 cells slots Q (F0 m (pc + 3) ls (.int v :: rest))) : W p l e R s m args below meth c H locs cells slots Q (F0 m pc ls st0) := by
  have hPc := hP.sub isC h1
  have hKc := hK.sub isT h2
  refine va_calli (va_runS (As := As) (rest := rest) hfix (hM H.size) cw ⟨q_Pr_blind, fun U hU hWm => ⟨rfl, by rw [hU], by rw [hU]; exact hPc, va_K.moved hWm.alike hKc⟩⟩ rfl hn hsz hst (lv_room hW) hdg hf) hS (fun q _ h => q_new hS hA q h) (q_new hS hA) (fun r u t H1 locs1 ht hvm hw hB hz1 hk1 hS1 => ?_)
  subst hw
  exact kk H1 locs1 (q_keptP hP hk1) hS1
theorem q_callVl {v : Int64} {b q0 ci : Nat} {q : vw_C} {fs : List Value} (hM : q_roL l y wy rm D tysc wc (.ref b :: As) v) (hfix : CallFix p m c cc nL s args Ts own) (cw : CallW R s args own C index y bytes maxL ret wy rm 0 0 n) (hn : As.length = n) (hsz : ls.size = nL) (hst : st0 = As.reverse ++ .ref b :: rest) (hW : (rest.map fun v => v.category).sum ≤ 8) (hf : cells ≤ R.cells ∧ slots ≤ R.slots)
    (hP : va_P D vwCl ws H) (hK : va_K D vwCl tys s) (hS : va_S A s.heap H locs) (hA : ∀ q, s.heap.size ≤ q → A q) (isC isT : List Nat) (h1 : isC.filterMap (fun i => ws[i]?) = wc) (h2 : isT.filterMap (fun i => tys[i]?) = tysc) (hc : vwCl[ci]? = some q) (hq : q.1 = C) (he : wc[q0]? = some (b, .inr (ci, fs))) (hdg : decode cc pc = .ok (.invokevirtual index, 3))
    (kk : ∀ (H1 : Heap) (locs1 : List Loc), va_P D vwCl ws H1 → va_S A s.heap H1 locs1 → W p l e R s m args below meth c H1 locs1 cells slots Q (F0 m (pc + 3) ls (.long v :: rest))) : W p l e R s m args below meth c H locs cells slots Q (F0 m pc ls st0) := by
  have hPc := hP.sub isC h1
  have hKc := hK.sub isT h2
  have hrv := va_recv hKc hPc hc he
  rw [hq] at hrv
  refine va_calll (va_runV (As := As) (rest := rest) hfix (hM H.size) cw ⟨q_Pr_blind, hrv, fun U hU hWm => ⟨rfl, by rw [hU], by rw [hU]; exact hPc, va_K.moved hWm.alike hKc⟩⟩ rfl hn hsz hst (lv_room hW) hdg hf) hS (fun q _ h => q_new hS hA q h) (q_new hS hA) (fun r u t H1 locs1 ht hvm hw hB hz1 hk1 hS1 => ?_)
  subst hw
  exact kk H1 locs1 (q_keptP hP hk1) hS1
theorem q_callVi {v : Int32} {b q0 ci : Nat} {q : vw_C} {fs : List Value} (hM : q_roI l y wy rm D tysc wc (.ref b :: As) v) (hfix : CallFix p m c cc nL s args Ts own) (cw : CallW R s args own C index y bytes maxL ret wy rm 0 0 n) (hn : As.length = n) (hsz : ls.size = nL) (hst : st0 = As.reverse ++ .ref b :: rest) (hW : (rest.map fun v => v.category).sum ≤ 8) (hf : cells ≤ R.cells ∧ slots ≤ R.slots)
    (hP : va_P D vwCl ws H) (hK : va_K D vwCl tys s) (hS : va_S A s.heap H locs) (hA : ∀ q, s.heap.size ≤ q → A q) (isC isT : List Nat) (h1 : isC.filterMap (fun i => ws[i]?) = wc) (h2 : isT.filterMap (fun i => tys[i]?) = tysc) (hc : vwCl[ci]? = some q) (hq : q.1 = C) (he : wc[q0]? = some (b, .inr (ci, fs))) (hdg : decode cc pc = .ok (.invokevirtual index, 3))
    (kk : ∀ (H1 : Heap) (locs1 : List Loc), va_P D vwCl ws H1 → va_S A s.heap H1 locs1 → W p l e R s m args below meth c H1 locs1 cells slots Q (F0 m (pc + 3) ls (.int v :: rest))) : W p l e R s m args below meth c H locs cells slots Q (F0 m pc ls st0) := by
  have hPc := hP.sub isC h1
  have hKc := hK.sub isT h2
  have hrv := va_recv hKc hPc hc he
  rw [hq] at hrv
  refine va_calli (va_runV (As := As) (rest := rest) hfix (hM H.size) cw ⟨q_Pr_blind, hrv, fun U hU hWm => ⟨rfl, by rw [hU], by rw [hU]; exact hPc, va_K.moved hWm.alike hKc⟩⟩ rfl hn hsz hst (lv_room hW) hdg hf) hS (fun q _ h => q_new hS hA q h) (q_new hS hA) (fun r u t H1 locs1 ht hvm hw hB hz1 hk1 hS1 => ?_)
  subst hw
  exact kk H1 locs1 (q_keptP hP hk1) hS1
/-! calls of what changes its world: the callee's cells are at the places isC, the rest at isR; behind it the new world is read at the places isN of rest ++ new -/
variable {wr : va_W}
theorem q_callMi {S : Type} {post : Int32 → S → Prop} {Wf Wn : S → va_W} {b q0 ci : Nat} {q : vw_C} {fs : List Value} (hM : q_muI l y wy rm D tysc wc (.ref b :: As) post Wf) (hfix : CallFix p m c cc nL s args Ts own) (cw : CallW R s args own C index y bytes maxL ret wy rm 0 0 n) (hn : As.length = n) (hsz : ls.size = nL) (hst : st0 = As.reverse ++ .ref b :: rest) (hW : (rest.map fun v => v.category).sum ≤ 8) (hf : cells ≤ R.cells ∧ slots ≤ R.slots)
    (hP : va_P D vwCl ws H) (hK : va_K D vwCl tys s) (hD : va_D A ws) (hS : va_S A s.heap H locs) (hA : ∀ q, s.heap.size ≤ q → A q) (isC isR isN isT : List Nat) (h1 : isC.map (fun i => ws[i]?) = wc.map some) (h1' : isC.filterMap (fun i => ws[i]?) = wc) (hR' : isR.map (fun i => ws[i]?) = wr.map some) (hnC : va_nd isC = true) (hnR : va_nd isR = true) (hdis : ∀ i ∈ isR, i ∉ isC) (hnN : va_nd isN = true) (hN : ∀ u, isN.map (fun i => (wr ++ Wf u)[i]?) = (Wn u).map some) (hN' : ∀ u, isN.filterMap (fun i => (wr ++ Wf u)[i]?) = Wn u) (h2 : isT.filterMap (fun i => tys[i]?) = tysc) (hc : vwCl[ci]? = some q) (hq : q.1 = C) (he : wc[q0]? = some (b, .inr (ci, fs))) (hdg : decode cc pc = .ok (.invokevirtual index, 3))
    (kk : ∀ (r : Int32) (u : S) (H1 : Heap) (locs1 : List Loc), post r u → va_P D vwCl (Wn u) H1 → va_D A (Wn u) → va_S A s.heap H1 locs1 → W p l e R s m args below meth c H1 locs1 cells slots Q (F0 m (pc + 3) ls (.int r :: rest))) : W p l e R s m args below meth c H locs cells slots Q (F0 m pc ls st0) := by
  have hPc := hP.sub isC h1'
  have hDc := hD.sub isC hnC h1
  have hKc := hK.sub isT h2
  have hFc := va_free (wc := wc) hD hS hA isC h1
  have hrv := va_recv hKc hPc hc he
  rw [hq] at hrv
  refine va_calli (va_runV (As := As) (rest := rest) hfix (hM H.size) cw ⟨q_Pm_blind, hrv, fun U hU hWm => ⟨rfl, by rw [hU], by rw [hU]; exact hPc, va_K.moved hWm.alike hKc, hDc.weaken (fun _ _ _ _ => trivial)⟩⟩ rfl hn hsz hst (lv_room hW) hdg hf) hS (fun q _ h => hFc q h) hFc (fun r u t H1 locs1 ht hvm hw hB hz1 hk1 hS1 => ?_)
  obtain ⟨hP1, hD1⟩ := hB
  rw [ht] at hP1
  obtain ⟨hP2, hD2⟩ := va_join (wr := wr) hP hD isC isR h1 hR' hnR hdis hk1 hFc hP1 hD1
  exact kk r u H1 locs1 hw (hP2.sub isN (hN' u)) (hD2.sub isN hnN (hN u)) hS1
theorem q_callMl {S : Type} {post : Int64 → S → Prop} {Wf Wn : S → va_W} {b q0 ci : Nat} {q : vw_C} {fs : List Value} (hM : q_muL l y wy rm D tysc wc (.ref b :: As) post Wf) (hfix : CallFix p m c cc nL s args Ts own) (cw : CallW R s args own C index y bytes maxL ret wy rm 0 0 n) (hn : As.length = n) (hsz : ls.size = nL) (hst : st0 = As.reverse ++ .ref b :: rest) (hW : (rest.map fun v => v.category).sum ≤ 8) (hf : cells ≤ R.cells ∧ slots ≤ R.slots)
    (hP : va_P D vwCl ws H) (hK : va_K D vwCl tys s) (hD : va_D A ws) (hS : va_S A s.heap H locs) (hA : ∀ q, s.heap.size ≤ q → A q) (isC isR isN isT : List Nat) (h1 : isC.map (fun i => ws[i]?) = wc.map some) (h1' : isC.filterMap (fun i => ws[i]?) = wc) (hR' : isR.map (fun i => ws[i]?) = wr.map some) (hnC : va_nd isC = true) (hnR : va_nd isR = true) (hdis : ∀ i ∈ isR, i ∉ isC) (hnN : va_nd isN = true) (hN : ∀ u, isN.map (fun i => (wr ++ Wf u)[i]?) = (Wn u).map some) (hN' : ∀ u, isN.filterMap (fun i => (wr ++ Wf u)[i]?) = Wn u) (h2 : isT.filterMap (fun i => tys[i]?) = tysc) (hc : vwCl[ci]? = some q) (hq : q.1 = C) (he : wc[q0]? = some (b, .inr (ci, fs))) (hdg : decode cc pc = .ok (.invokevirtual index, 3))
    (kk : ∀ (r : Int64) (u : S) (H1 : Heap) (locs1 : List Loc), post r u → va_P D vwCl (Wn u) H1 → va_D A (Wn u) → va_S A s.heap H1 locs1 → W p l e R s m args below meth c H1 locs1 cells slots Q (F0 m (pc + 3) ls (.long r :: rest))) : W p l e R s m args below meth c H locs cells slots Q (F0 m pc ls st0) := by
  have hPc := hP.sub isC h1'
  have hDc := hD.sub isC hnC h1
  have hKc := hK.sub isT h2
  have hFc := va_free (wc := wc) hD hS hA isC h1
  have hrv := va_recv hKc hPc hc he
  rw [hq] at hrv
  refine va_calll (va_runV (As := As) (rest := rest) hfix (hM H.size) cw ⟨q_Pm_blind, hrv, fun U hU hWm => ⟨rfl, by rw [hU], by rw [hU]; exact hPc, va_K.moved hWm.alike hKc, hDc.weaken (fun _ _ _ _ => trivial)⟩⟩ rfl hn hsz hst (lv_room hW) hdg hf) hS (fun q _ h => hFc q h) hFc (fun r u t H1 locs1 ht hvm hw hB hz1 hk1 hS1 => ?_)
  obtain ⟨hP1, hD1⟩ := hB
  rw [ht] at hP1
  obtain ⟨hP2, hD2⟩ := va_join (wr := wr) hP hD isC isR h1 hR' hnR hdis hk1 hFc hP1 hD1
  exact kk r u H1 locs1 hw (hP2.sub isN (hN' u)) (hD2.sub isN hnN (hN u)) hS1
theorem q_callMv {S : Type} {post : S → Prop} {Wf Wn : S → va_W} {b q0 ci : Nat} {q : vw_C} {fs : List Value} (hM : q_muV l y wy rm D tysc wc (.ref b :: As) post Wf) (hfix : CallFix p m c cc nL s args Ts own) (cw : CallW R s args own C index y bytes maxL ret wy rm 0 0 n) (hn : As.length = n) (hsz : ls.size = nL) (hst : st0 = As.reverse ++ .ref b :: rest) (hW : (rest.map fun v => v.category).sum ≤ 8) (hf : cells ≤ R.cells ∧ slots ≤ R.slots)
    (hP : va_P D vwCl ws H) (hK : va_K D vwCl tys s) (hD : va_D A ws) (hS : va_S A s.heap H locs) (hA : ∀ q, s.heap.size ≤ q → A q) (isC isR isN isT : List Nat) (h1 : isC.map (fun i => ws[i]?) = wc.map some) (h1' : isC.filterMap (fun i => ws[i]?) = wc) (hR' : isR.map (fun i => ws[i]?) = wr.map some) (hnC : va_nd isC = true) (hnR : va_nd isR = true) (hdis : ∀ i ∈ isR, i ∉ isC) (hnN : va_nd isN = true) (hN : ∀ u, isN.map (fun i => (wr ++ Wf u)[i]?) = (Wn u).map some) (hN' : ∀ u, isN.filterMap (fun i => (wr ++ Wf u)[i]?) = Wn u) (h2 : isT.filterMap (fun i => tys[i]?) = tysc) (hc : vwCl[ci]? = some q) (hq : q.1 = C) (he : wc[q0]? = some (b, .inr (ci, fs))) (hdg : decode cc pc = .ok (.invokevirtual index, 3))
    (kk : ∀ (u : S) (H1 : Heap) (locs1 : List Loc), post u → va_P D vwCl (Wn u) H1 → va_D A (Wn u) → va_S A s.heap H1 locs1 → W p l e R s m args below meth c H1 locs1 cells slots Q (F0 m (pc + 3) ls rest)) : W p l e R s m args below meth c H locs cells slots Q (F0 m pc ls st0) := by
  have hPc := hP.sub isC h1'
  have hDc := hD.sub isC hnC h1
  have hKc := hK.sub isT h2
  have hFc := va_free (wc := wc) hD hS hA isC h1
  have hrv := va_recv hKc hPc hc he
  rw [hq] at hrv
  refine va_callv (va_runV (As := As) (rest := rest) hfix (hM H.size) cw ⟨q_Pm_blind, hrv, fun U hU hWm => ⟨rfl, by rw [hU], by rw [hU]; exact hPc, va_K.moved hWm.alike hKc, hDc.weaken (fun _ _ _ _ => trivial)⟩⟩ rfl hn hsz hst (lv_room hW) hdg hf) hS (fun q _ h => hFc q h) hFc (fun u t H1 locs1 ht hvm hw hB hz1 hk1 hS1 => ?_)
  obtain ⟨hP1, hD1⟩ := hB
  rw [ht] at hP1
  obtain ⟨hP2, hD2⟩ := va_join (wr := wr) hP hD isC isR h1 hR' hnR hdis hk1 hFc hP1 hD1
  exact kk u H1 locs1 hw (hP2.sub isN (hN' u)) (hD2.sub isN hnN (hN u)) hS1
end QW
