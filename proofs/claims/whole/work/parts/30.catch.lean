/-! an exception that a callee threw, caught by a row of this method's table, the class of the row linked or not yet -/
section QCT
/-- the search through the rows l gives h, and the tables vm' -/
def x_To (e : Env) (S : State) (f : JFrame) (a : Addr) (l : List ExceptionTableEntry) (h : Handler) (vm' : Vm) : Prop := ∀ (Q : Handler → Pre) (E : CtlPost) (d : Bool) (acts : List Action), wp (findHandler.go f a l) Q E e d acts S ↔ Q h d acts (S.setVm vm')
theorem x_here {e : Env} {S : State} {f : JFrame} {a : Addr} {x : ExceptionTableEntry} {t : List ExceptionTableEntry} {k : ClassId} {cell : Cell} (hx : covers x f.pc = true) (h0 : x.catchType ≠ 0) (hl : S.vm.ClassLinks e.platform f.method.cls x.catchType k) (hcell : S.heap[a]? = some cell) (hobj : ∀ z, cell.vm ≠ .statics z) (hk : ∃ z, S.vm.classes[cell.cls]? = some z) (hc : ∃ z, S.vm.classes[k]? = some z) (hfit : S.vm.assignable cell.cls k = true) :
    x_To e S f a (x :: t) (.found x.handlerPc) (S.vm.noted f.method.cls x.catchType (.cls k)) := by
  intro Q E d acts
  have hal : S.vm.Alike (S.vm.noted f.method.cls x.catchType (.cls k)) := (Vm.Alike.refl S.vm).noted _ _ _
  obtain ⟨o1, o2⟩ := (resolveClass_links e.toSetting hl).op (op := VmOp.resolveClass f.method.cls x.catchType) rfl
  obtain ⟨z1, g1⟩ := hk
  obtain ⟨z2, g2⟩ := hc
  obtain ⟨y1, w1, -⟩ := hal.2.2 _ _ g1
  obtain ⟨y2, w2, -⟩ := hal.2.2 _ _ g2
  have hf2 : (S.vm.noted f.method.cls x.catchType (.cls k)).assignable cell.cls k = true := (hal.assignable _ _).trans hfit
  have hx2 := hx
  simp only [covers] at hx2
  simp [findHandler.go, hx2, h0, o1, o2, hcell, hobj, w1, w2, hf2, VmOp.dirties, VmOp.acts]
theorem x_next {e : Env} {S : State} {f : JFrame} {a : Addr} {x : ExceptionTableEntry} {t : List ExceptionTableEntry} {k : ClassId} {cell : Cell} {h : Handler} {vm' : Vm} (hx : covers x f.pc = true) (h0 : x.catchType ≠ 0) (hl : S.vm.ClassLinks e.platform f.method.cls x.catchType k) (hcell : S.heap[a]? = some cell) (hobj : ∀ z, cell.vm ≠ .statics z) (hk : ∃ z, S.vm.classes[cell.cls]? = some z) (hc : ∃ z, S.vm.classes[k]? = some z) (hno : S.vm.assignable cell.cls k = false)
    (hn : x_To e (S.setVm (S.vm.noted f.method.cls x.catchType (.cls k))) f a t h vm') : x_To e S f a (x :: t) h vm' := by
  intro Q E d acts
  have hal : S.vm.Alike (S.vm.noted f.method.cls x.catchType (.cls k)) := (Vm.Alike.refl S.vm).noted _ _ _
  obtain ⟨o1, o2⟩ := (resolveClass_links e.toSetting hl).op (op := VmOp.resolveClass f.method.cls x.catchType) rfl
  obtain ⟨z1, g1⟩ := hk
  obtain ⟨z2, g2⟩ := hc
  obtain ⟨y1, w1, -⟩ := hal.2.2 _ _ g1
  obtain ⟨y2, w2, -⟩ := hal.2.2 _ _ g2
  have hf2 : (S.vm.noted f.method.cls x.catchType (.cls k)).assignable cell.cls k = false := (hal.assignable _ _).trans hno
  have hx2 := hx
  simp only [covers] at hx2
  have hstep : wp (findHandler.go f a (x :: t)) Q E e d acts S ↔ wp (findHandler.go f a t) Q E e d acts (S.setVm (S.vm.noted f.method.cls x.catchType (.cls k))) := by
    simp [findHandler.go, hx2, h0, o1, o2, hcell, hobj, w1, w2, hf2, VmOp.dirties, VmOp.acts]
  exact hstep.trans (hn Q E d acts)
theorem x_goes {tb : Tables} {e : Env} {s target : State} {g : JFrame} {c : Code} {below : List Frame} {a : Addr} {meth : Method} {pc : Nat} {vm' : Vm} (h : At s g.method c below) (hm : s.vm.method? g.method = some meth) (hc : meth.code = some c)
    (hf : x_To e ((s.setTop g).pushFrame (.throwing a)) g a c.exceptionTable.toList (.found pc) vm') (hrest : Steps tb e below ((s.setVm vm').setTop { g with pc := pc, stack := [.ref a] }) target) :
    Steps tb e below ((s.setTop g).pushFrame (.throwing a)) target := by
  obtain ⟨hgo, hw⟩ := h.throwing a
  obtain ⟨g₀, hg⟩ := Option.isSome_iff_exists.mp h.top
  obtain ⟨r, hr⟩ := State.topJava?_eq_some.mp hg
  have hm' : ((s.setTop g).pushFrame (.throwing a)).vm.method? g.method = some meth := by simpa [State.pushFrame, State.setFrames] using hm
  have hfind : ∀ (Q : Handler → Pre) (E : CtlPost) (d : Bool) (acts : List Action), wp (findHandler g a) Q E e d acts ((s.setTop g).pushFrame (.throwing a)) ↔ Q (.found pc) d acts (((s.setTop g).pushFrame (.throwing a)).setVm vm') := fun Q E d acts => (W.findHandler_eq hm' hc).trans (hf Q E d acts)
  have hone : (stepThrowing e ((s.setTop g).pushFrame (.throwing a)) a (.java g :: s.frames.tail)).1 = (((s.setTop g).pushFrame (.throwing a)).setVm vm').setFrames (.java { g with pc := pc, stack := [.ref a] } :: s.frames.tail) := by
    simp only [stepThrowing, searchFrame, vmDo]
    generalize hz : Sem.go _ e false [] ((s.setTop g).pushFrame (.throwing a)) = res
    obtain ⟨as, rfl, -⟩ := Sem.eq_ok_of hz (a := Handler.found pc) (s' := ((s.setTop g).pushFrame (.throwing a)).setVm vm') (acts' := []) (by simp [hfind _ _ _ _])
    rfl
  refine Steps.head hgo hw ?_
  rw [stepThread_throwing (frames_entered h.top _), hone]
  have hr' : (s.setVm vm').frames = .java g₀ :: r := hr
  rw [State.setTop_of_frames _ hr'] at hrest
  have e1 : (((s.setTop g).pushFrame (.throwing a)).setVm vm').setFrames (.java { g with pc := pc, stack := [.ref a] } :: s.frames.tail) = (s.setVm vm').setFrames (.java { g with pc := pc, stack := [.ref a] } :: r) := by
    rw [hr, List.tail_cons, State.pushFrame, State.setTop_of_frames _ hr]
    have e2 : ∀ (u : State) (F G : List Frame), ((u.setFrames F).setVm vm').setFrames G = (u.setVm vm').setFrames G := fun u F G => by
      have e3 : (u.setFrames F).setVm vm' = (u.setVm vm').setFrames F := rfl
      rw [e3, State.setFrames_setFrames]
    rw [e2, e2]
  rw [e1]
  exact hrest
variable {p : Program} {l : Launch} {e : Env} {R : Room} {s : State} {m : MethodId} {args : Array Value} {below : List Frame} {meth : Method} {c : Code} {H : Heap} {locs : List Loc} {cells slots : Nat} {Q : State → Prop} {pc : Nat} {ls : Array Slot} {rest : List Value}
theorem q_catch1 {own name E : String} {ce : Cell} {q : Addr} (hown : s.vm.findClass own = some m.cls) (x : ExceptionTableEntry) (suf : List ExceptionTableEntry) (hsplit : c.exceptionTable.toList = x :: suf) (hx : covers x pc = true) (h0 : x.catchType ≠ 0)
    (hlink : (Cond.classLink own x.catchType name).before args s = true) (hcast : (Cond.castable E name).before args s = true) (hcell : H[q]? = some ce) (hv : ce.vm = .none) (hcl : s.vm.findClass E = some ce.cls)
    (kk : W p l e R s m args below meth c H locs cells slots Q (F0 m x.handlerPc ls [.ref q])) : vx_W p l e R s m args below meth c H locs cells slots Q (F0 m pc ls rest) q := by
  intro T hT X
  have hpl : e.platform.magicAccessors = ({} : Platform).magicAccessors := by rw [X.admits.platform]
  obtain ⟨c3, c4, hc3, hc4, hasg⟩ := Cond.castable_spec hcast
  cases Option.some.inj (hc3.symm.trans hcl)
  obtain ⟨c5, hc5, hcl5⟩ := Cond.classLink_spec hown hlink e.platform hpl
  cases Option.some.inj (hc4.symm.trans hc5)
  obtain ⟨dk, _, _, kt, hd, _, _, _, _, hkt, _, hopen⟩ := hcl5.here
  obtain ⟨k9, h9, -⟩ := Vm.findClass_spec hcl
  have hal := X.warmed.alike
  obtain ⟨k9', h9', -⟩ := hal.2.2 _ _ h9
  obtain ⟨kt', hkt', -⟩ := hal.2.2 _ _ hkt
  have hW' : s.WarmedH (T.vm.noted m.cls x.catchType (.cls c4)) := X.warmed.noted hd hopen (State.rightAt_cls hcl5)
  obtain ⟨t, a1, b1⟩ := kk (T.setVm (T.vm.noted m.cls x.catchType (.cls c4))) hT (X.noted hW')
  refine ⟨t, ?_, b1⟩
  refine x_goes (g := F0 m pc ls rest) (pc := x.handlerPc) X.here X.method' X.code ?_ a1
  rw [hsplit]
  exact x_here (S := (T.setTop (F0 m pc ls rest)).pushFrame (.throwing q)) (f := F0 m pc ls rest) hx h0 (X.warmed.classLinks hcl5) (by show T.heap[q]? = some ce; rw [hT]; exact hcell) (fun z => by rw [hv]; exact fun h => by cases h) ⟨k9', h9'⟩ ⟨kt', hkt'⟩ ((hal.assignable _ _).trans hasg)
theorem q_catch2 {own name name1 E : String} {ce : Cell} {q : Addr} (hown : s.vm.findClass own = some m.cls) (z x : ExceptionTableEntry) (suf : List ExceptionTableEntry) (hsplit : c.exceptionTable.toList = z :: x :: suf) (hz : covers z pc = true) (hz0 : z.catchType ≠ 0) (hx : covers x pc = true) (h0 : x.catchType ≠ 0)
    (hlz : (Cond.classLink own z.catchType name1).before args s = true) (hno : va_Nc E name1 s) (hlink : (Cond.classLink own x.catchType name).before args s = true) (hcast : (Cond.castable E name).before args s = true) (hcell : H[q]? = some ce) (hv : ce.vm = .none) (hcl : s.vm.findClass E = some ce.cls)
    (kk : W p l e R s m args below meth c H locs cells slots Q (F0 m x.handlerPc ls [.ref q])) : vx_W p l e R s m args below meth c H locs cells slots Q (F0 m pc ls rest) q := by
  intro T hT X
  have hpl : e.platform.magicAccessors = ({} : Platform).magicAccessors := by rw [X.admits.platform]
  obtain ⟨c3, c4, hc3, hc4, hasg⟩ := Cond.castable_spec hcast
  cases Option.some.inj (hc3.symm.trans hcl)
  obtain ⟨c5, hc5, hcl5⟩ := Cond.classLink_spec hown hlink e.platform hpl
  cases Option.some.inj (hc4.symm.trans hc5)
  obtain ⟨c6, hc6, hcl6⟩ := Cond.classLink_spec hown hlz e.platform hpl
  obtain ⟨a8, b8, n1, n2, n3⟩ := hno
  cases Option.some.inj (n1.symm.trans hcl)
  cases Option.some.inj (n2.symm.trans hc6)
  obtain ⟨dk, _, _, kt, hd, _, _, _, _, hkt, _, hopen⟩ := hcl5.here
  obtain ⟨dz, _, _, kz, hdz, _, _, _, _, hkz, _, hopz⟩ := hcl6.here
  obtain ⟨k9, h9, -⟩ := Vm.findClass_spec hcl
  have hal := X.warmed.alike
  obtain ⟨k9', h9', -⟩ := hal.2.2 _ _ h9
  obtain ⟨kz', hkz', -⟩ := hal.2.2 _ _ hkz
  have hW1 : s.WarmedH (T.vm.noted m.cls z.catchType (.cls c6)) := X.warmed.noted hdz hopz (State.rightAt_cls hcl6)
  have hal1 := hW1.alike
  obtain ⟨k8', h8', -⟩ := hal1.2.2 _ _ h9
  obtain ⟨kt', hkt', -⟩ := hal1.2.2 _ _ hkt
  have hW2 : s.WarmedH ((T.vm.noted m.cls z.catchType (.cls c6)).noted m.cls x.catchType (.cls c4)) := hW1.noted hd hopen (State.rightAt_cls hcl5)
  obtain ⟨t, a1, b1⟩ := kk (T.setVm ((T.vm.noted m.cls z.catchType (.cls c6)).noted m.cls x.catchType (.cls c4))) hT (X.noted hW2)
  refine ⟨t, ?_, b1⟩
  refine x_goes (g := F0 m pc ls rest) (pc := x.handlerPc) X.here X.method' X.code ?_ a1
  rw [hsplit]
  refine x_next (S := (T.setTop (F0 m pc ls rest)).pushFrame (.throwing q)) (f := F0 m pc ls rest) hz hz0 (X.warmed.classLinks hcl6) (by show T.heap[q]? = some ce; rw [hT]; exact hcell) (fun z => by rw [hv]; exact fun h => by cases h) ⟨k9', h9'⟩ ⟨kz', hkz'⟩ ((hal.assignable _ _).trans n3) ?_
  exact x_here (S := ((T.setTop (F0 m pc ls rest)).pushFrame (.throwing q)).setVm (T.vm.noted m.cls z.catchType (.cls c6))) (f := F0 m pc ls rest) hx h0 (hW1.classLinks hcl5) (by show T.heap[q]? = some ce; rw [hT]; exact hcell) (fun z => by rw [hv]; exact fun h => by cases h) ⟨k8', h8'⟩ ⟨kt', hkt'⟩ ((hal1.assignable _ _).trans hasg)
end QCT

