/-! own rows: methods that may throw -/
def q_strs : List (Nat × String) := [(44, "an offset is not -512 .. 511"), (49, "the flags are not 0 .. 32767"), (55, "what is not 0 .. 4"), (63, "the word is no instruction, or a bad one"), (98, "target and at are no address"), (103, "a register is not 0 .. 63"), (112, "n is not 1 .. 100"), (158, "there is no such row"), (167, "the segment is not 1 .. 6"), (173, "there is no such address"), (179, "the operation is not 0 .. 3"), (183, "a division by 0"), (207, "the cell does not take the value"), (212, "the cell is not set"), (214, "there is no such segment or cell"), (216, "there is no such register")]
def q_nest : List Cond := [.fieldLinkNest "FieldTrace" 118 "FieldTrace$Processor" "pc" "J" "FieldTrace", .fieldLinkNest "FieldTrace" 122 "FieldTrace$Processor" "ap" "J" "FieldTrace", .fieldLinkNest "FieldTrace" 125 "FieldTrace$Processor" "fp" "J" "FieldTrace", .fieldLinkNest "FieldTrace" 153 "FieldTrace$Trace" "length" "I" "FieldTrace", .declares (Bundle.initS "java/lang/RuntimeException"), .declares (Bundle.initS "java/lang/Exception"), .declares (Bundle.initS "java/lang/Throwable"), .castable "java/lang/IllegalArgumentException" "java/lang/IllegalArgumentException", .castable "java/lang/IllegalStateException" "java/lang/IllegalStateException", .castable "java/util/NoSuchElementException" "java/util/NoSuchElementException", .castable "java/lang/ArithmeticException" "java/lang/ArithmeticException"]
def q_E (U : State) : Prop := (∀ q ∈ q_strs, ∃ sa : Nat, vk_R RX6 q.1 q.2 sa U) ∧ ∀ w ∈ q_nest, va_Nw w U
theorem q_E.warm {s U : State} (hW : s.WarmedH U.vm) (h : q_E s) : q_E U := by
  refine ⟨fun q hq => ?_, fun w hw => ?_⟩
  · obtain ⟨sa, h1⟩ := h.1 q hq
    exact ⟨sa, vk_R.warm hW h1⟩
  · have h2 := h.2 w hw
    simp only [q_nest, List.mem_cons, List.not_mem_nil, or_false] at hw
    rcases hw with rfl | rfl | rfl | rfl | rfl | rfl | rfl | rfl | rfl | rfl | rfl
    · exact va_Nw.warmF hW h2
    · exact va_Nw.warmF hW h2
    · exact va_Nw.warmF hW h2
    · exact va_Nw.warmF hW h2
    · exact va_Nw.warmD hW h2
    · exact va_Nw.warmD hW h2
    · exact va_Nw.warmD hW h2
    · exact va_Nw.warmC hW h2
    · exact va_Nw.warmC hW h2
    · exact va_Nw.warmC hW h2
    · exact va_Nw.warmC hW h2
theorem q_nest_ot : ∀ w ∈ q_nest, w.onTables = true := by decide +kernel
theorem q_nw {s : State} {args : Array Value} (hE : q_E s) : ∀ w ∈ q_nest, w.before args s = true := fun w hw => va_Nw.use (q_nest_ot w hw) (hE.2 w hw)
def q_Z (A : Nat → Prop) (U : State) (H : Heap) : Prop := vx_Zq Bundle.tN "UNASSIGNED_STACK" Bundle.steD A U H ∧ vx_Zq Bundle.tN "SUPPRESSED_SENTINEL" Bundle.listD A U H
theorem q_Z.moved {A : Nat → Prop} {u U : State} {H : Heap} (hvm : u.vm.Alike U.vm) (h : q_Z A u H) : q_Z A U H := ⟨h.1.moved hvm, h.2.moved hvm⟩
theorem q_Z.kept {A : Nat → Prop} {U : State} {H H1 : Heap} (h : q_Z A U H) (hq : ∀ a : Nat, a < H.size → ¬ A a → H1[a]? = H[a]?) : q_Z A U H1 := ⟨h.1.kept hq, h.2.kept hq⟩
theorem q_Z.narrow {A B : Nat → Prop} {U : State} {H : Heap} (h : q_Z A U H) (hAB : ∀ q, B q → A q) : q_Z B U H := ⟨h.1.narrow hAB, h.2.narrow hAB⟩
def q_Px (D : va_G) (tys : List (ClassId × FieldType)) (ws : va_W) (av : List Value) (sz : Nat) : Array Value → State → Prop := va_Pc av (fun U => U.heap.size = sz ∧ va_P D vwCl ws U.heap ∧ va_K D vwCl tys U ∧ va_D (fun _ => True) ws ∧ q_E U ∧ q_Z (va_A ws sz) U U.heap)
theorem q_Px_blind {D : va_G} {tys : List (ClassId × FieldType)} {ws : va_W} {av : List Value} {sz : Nat} : FrameBlind (q_Px D tys ws av sz) := fun a U g mk q => by
  obtain ⟨q0, q1, qP, qK, qD, qE, qZ⟩ := q
  exact ⟨q0, q1, qP, va_K.moved (u := U) (U := U.calling g mk a) (Vm.Alike.refl U.vm) qK, qD, q_E.warm (s := U) (U := U.calling g mk a) (State.WarmedH.refl U) qE, q_Z.moved (u := U) (U := U.calling g mk a) (Vm.Alike.refl U.vm) qZ⟩
def q_xE (k : Int32) : String := if k = 1 then "java/lang/IllegalArgumentException" else if k = 2 then "java/lang/IllegalStateException" else if k = 3 then "java/util/NoSuchElementException" else "java/lang/ArithmeticException"
def q_BX {S : Type} (D : va_G) (A : Nat → Prop) (Wf : S → va_W) : String → Int32 × S → State → Prop := fun E u t => E = q_xE u.1 ∧ va_P D vwCl (Wf u.2) t.heap ∧ va_D A (Wf u.2)
def q_XX {S : Type} (D : va_G) (A : Nat → Prop) (px : Int32 → S → Prop) (Wf : S → va_W) : String → State → State → Prop := vx_X (fun u : Int32 × S => px u.1 u.2) (q_BX D A Wf) A
def q_xI {S : Type} (l : Launch) (y : MethodName) (w : List Cond) (rm : Room) (D : va_G) (tys : List (ClassId × FieldType)) (ws : va_W) (av : List Value) (post : Int32 → S → Prop) (px : Int32 → S → Prop) (Wf : S → va_W) (mc ms : Nat) : Prop := ∀ sz, vx_Met l y w rm (q_Px D tys ws av sz) (va_Qi post (fun u t => va_P D vwCl (Wf u) t.heap ∧ va_D (va_A ws sz) (Wf u)) (va_A ws sz)) (q_XX D (va_A ws sz) px Wf) mc ms (va_A ws sz)
def q_xL {S : Type} (l : Launch) (y : MethodName) (w : List Cond) (rm : Room) (D : va_G) (tys : List (ClassId × FieldType)) (ws : va_W) (av : List Value) (post : Int64 → S → Prop) (px : Int32 → S → Prop) (Wf : S → va_W) (mc ms : Nat) : Prop := ∀ sz, vx_Met l y w rm (q_Px D tys ws av sz) (va_Ql post (fun u t => va_P D vwCl (Wf u) t.heap ∧ va_D (va_A ws sz) (Wf u)) (va_A ws sz)) (q_XX D (va_A ws sz) px Wf) mc ms (va_A ws sz)
def q_xV {S : Type} (l : Launch) (y : MethodName) (w : List Cond) (rm : Room) (D : va_G) (tys : List (ClassId × FieldType)) (ws : va_W) (av : List Value) (post : S → Prop) (px : Int32 → S → Prop) (Wf : S → va_W) (mc ms : Nat) : Prop := ∀ sz, vx_Met l y w rm (q_Px D tys ws av sz) (va_Qv post (fun u t => va_P D vwCl (Wf u) t.heap ∧ va_D (va_A ws sz) (Wf u)) (va_A ws sz)) (q_XX D (va_A ws sz) px Wf) mc ms (va_A ws sz)
theorem q_x_of {l : Launch} {y : MethodName} {w w' : List Cond} {rm : Room} {Qc : Array Value → State → Outcome → State → Prop} {XC : String → State → State → Prop} {free : Addr → Prop} {cc : ByteArray} {maxL mc ms sz : Nat} {ret : Option FieldType} {av : List Value} {D : va_G} {tys : List (ClassId × FieldType)} {ws : va_W}
    (hy : plainName y.cls = true) (hw : w = Cond.code y cc maxL ret :: w') (hlen : (lg_sl av).length ≤ maxL)
    (body : ∀ (p : Program) (e : Env) (s : State) (m : MethodId) (below : List Frame) (meth : Method) (c : Code) (ls : Array Slot), p.tables.exec = Jvm.exec → c.code = cc → meth.sig.returnType = ret → c.maxLocals = maxL → s.vm.findClass y.cls = some m.cls → (∀ x ∈ w, x.before av.toArray s = true) → meth.locks = false → (∀ x ∈ c.exceptionTable.toList, False) → s.heap.size = sz → va_P D vwCl ws s.heap → va_K D vwCl tys s → va_D (va_A ws sz) ws → q_E s → q_Z (va_A ws sz) s s.heap → lv_has ls maxL (lv_args 0 av) →
      W p l e rm s m av.toArray below meth c s.heap [] 0 0 (vx_MQ below Qc XC av.toArray s mc ms free) (F0 m 0 ls [])) : vx_Met l y w rm (q_Px D tys ws av sz) Qc XC mc ms free := by
  refine vx_ofW (cc := cc) (maxL := maxL) (ret := ret) hy hw ?_
  intro p e s m args below meth c s₁ B hml ht hv
  obtain ⟨rfl, h1, h2, h3, h4, h5, h6⟩ := hv
  have hl := lv_entry av (n := maxL) hlen
  rw [lg_entry_eq]
  exact body p e s m below meth c _ B.exec B.bytes B.returns hml (findClass_of_methodNamed B.named) (atoms_spec (ws := w) B.pre) B.notSynchronized ht h1 h2 h3 (h4.self (sz := sz)) h5 h6 hl
section QX
variable {p : Program} {l : Launch} {e : Env} {R : Room} {s : State} {m : MethodId} {args : Array Value} {below : List Frame} {meth : Method} {c : Code} {H : Heap} {locs : List Loc} {cells slots : Nat} {Q : State → Prop}
variable {cc : ByteArray} {pc : Nat} {ls : Array Slot} {rest : List Value} {D : va_G} {A : Nat → Prop} {tys tysc : List (ClassId × FieldType)} {ws wc wr : va_W} {mc ms : Nat} {Qc : Array Value → State → Outcome → State → Prop}
theorem q_xri {S : Type} {post : Int32 → S → Prop} {XC : String → State → State → Prop} {Wf : S → va_W} {r : Int32} (u : S) (hx : p.tables.exec = Jvm.exec) (hb : c.code = cc) (hr : meth.sig.returnType = some .int) (hlocks : meth.locks = false) (hc : cells ≤ mc) (hs : slots ≤ ms) (hP : va_P D vwCl (Wf u) H) (hD : va_D A (Wf u)) (hS : va_S A s.heap H locs) (h : post r u) (hdg : decode cc pc = .ok (.ireturn, 1)) :
    W p l e R s m args below meth c H locs cells slots (vx_MQ below (va_Qi post (fun u t => va_P D vwCl (Wf u) t.heap ∧ va_D A (Wf u)) A) XC args s mc ms A) (F0 m pc ls [.int r]) :=
  vx_ret (W.widen hc hs (W.iret (v := r) hx hb hr (fun t ht _ => ⟨⟨r, u, rfl, h, by rw [ht]; exact hP, hD⟩, hS.F ht⟩) hS.2.2 hdg hlocks))
theorem q_xrl {S : Type} {post : Int64 → S → Prop} {XC : String → State → State → Prop} {Wf : S → va_W} {r : Int64} (u : S) (hx : p.tables.exec = Jvm.exec) (hb : c.code = cc) (hr : meth.sig.returnType = some .long) (hlocks : meth.locks = false) (hc : cells ≤ mc) (hs : slots ≤ ms) (hP : va_P D vwCl (Wf u) H) (hD : va_D A (Wf u)) (hS : va_S A s.heap H locs) (h : post r u) (hdg : decode cc pc = .ok (.lreturn, 1)) :
    W p l e R s m args below meth c H locs cells slots (vx_MQ below (va_Ql post (fun u t => va_P D vwCl (Wf u) t.heap ∧ va_D A (Wf u)) A) XC args s mc ms A) (F0 m pc ls [.long r]) :=
  vx_ret (W.widen hc hs (W.lret (v := r) hx hb hr (fun t ht _ => ⟨⟨r, u, rfl, h, by rw [ht]; exact hP, hD⟩, hS.F ht⟩) hS.2.2 hdg hlocks))
theorem q_xrv {S : Type} {post : S → Prop} {XC : String → State → State → Prop} {Wf : S → va_W} (u : S) (hx : p.tables.exec = Jvm.exec) (hb : c.code = cc) (hr : meth.sig.returnType = none) (hlocks : meth.locks = false) (hc : cells ≤ mc) (hs : slots ≤ ms) (hP : va_P D vwCl (Wf u) H) (hD : va_D A (Wf u)) (hS : va_S A s.heap H locs) (h : post u) (hdg : decode cc pc = .ok (.return_, 1)) :
    W p l e R s m args below meth c H locs cells slots (vx_MQ below (va_Qv post (fun u t => va_P D vwCl (Wf u) t.heap ∧ va_D A (Wf u)) A) XC args s mc ms A) (F0 m pc ls []) :=
  vx_ret (W.widen hc hs (W.vret hx hb hr (fun t ht _ => ⟨⟨u, rfl, h, by rw [ht]; exact hP, hD⟩, hS.F ht⟩) hS.2.2 hdg hlocks))
/-- throw new E("text") -/
theorem q_throw {S : Type} {px : Int32 → S → Prop} {Wf : S → va_W} {own cls text : String} {names : List String} {ik is ic sa : Nat} (k : Int32) (u : S) (hx : p.tables.exec = Jvm.exec) (hb : c.code = cc) (hst : l.stackTraces = false)
    (hown : s.vm.findClass own = some m.cls) (hcls : Bundle.fit cls = true) (hnames : ∀ n ∈ names, Bundle.fit n = true)
    (hk : (Cond.classLink own ik cls).before args s = true) (hini : (Cond.initialized cls).before args s = true) (hstr : vk_R own is text sa s) (hat : ∀ w ∈ vx_atS own ic cls names, w.before args s = true)
    (hgood : ∀ w ∈ Cond.classLink own ik cls :: Cond.initialized cls :: vx_atS own ic cls names, vx_ot w = true)
    (hZ : q_Z A s s.heap) (hS : va_S A s.heap H locs) (hsize : ls.size = c.maxLocals)
    (d0 : decode cc pc = .ok (.new ik, 3)) (d3 : decode cc (pc + 3) = .ok (.dup, 1)) (d4 : decode cc (pc + 4) = .ok (.ldc is, 2)) (d6 : decode cc (pc + 6) = .ok (.invokespecial ic, 3)) (d9 : decode cc (pc + 9) = .ok (.athrow, 1))
    (hout : ∀ x ∈ c.exceptionTable.toList, False)
    (hRframes : names.length + 3 < R.frames) (hRlocals : (rest.map fun v => v.category).sum + (13 * (names.length + 1) + 43) ≤ R.locals) (hRcells : cells + 1 ≤ R.cells) (hRslots : slots + 6 ≤ R.slots) (hlocks : meth.locks = false)
    (hP : va_P D vwCl (Wf u) H) (hD : va_D A (Wf u)) (hE : cls = q_xE k) (h : px k u) (hc : cells + 1 ≤ mc) (hs : slots + 6 ≤ ms) :
    W p l e R s m args below meth c H locs cells slots (vx_MQ below Qc (q_XX D A px Wf) args s mc ms A) (F0 m pc ls rest) :=
  vx_throwS hx hb hst hown hcls hnames hk hini hstr hat hgood hZ.1 hZ.2 hS hsize d0 d3 d4 d6 d9 (fun x hx => (hout x hx).elim) hRframes hRlocals hRcells hRslots hlocks
    (fun t _ hz hq => ⟨(k, u), h, ⟨hE, hP.kept (fun j q hj => hq q.1 ((hP j q hj).lt)), hD⟩, Nat.le_trans hS.1 hz, fun q h1 h2 => (hq q (Nat.lt_of_lt_of_le h1 hS.1)).trans (hS.2.1 q h1 h2)⟩) hS.2.2 hc hs
/-- throw new E("text") -/
theorem q_throwN {S : Type} {px : Int32 → S → Prop} {Wf : S → va_W} {own cls text : String} {names : List String} {ik is ic sa : Nat} (k : Int32) (u : S) (hx : p.tables.exec = Jvm.exec) (hb : c.code = cc) (hst : l.stackTraces = false)
    (hown : s.vm.findClass own = some m.cls) (hcls : Bundle.fit cls = true) (hnames : ∀ n ∈ names, Bundle.fit n = true)
    (hk : (Cond.classLink own ik cls).before args s = true) (hini : (Cond.initialized cls).before args s = true) (hstr : vk_R own is text sa s) (hat : ∀ w ∈ vx_atN own ic cls names, w.before args s = true)
    (hgood : ∀ w ∈ Cond.classLink own ik cls :: Cond.initialized cls :: vx_atN own ic cls names, vx_ot w = true)
    (hZ : q_Z A s s.heap) (hS : va_S A s.heap H locs) (hsize : ls.size = c.maxLocals)
    (d0 : decode cc pc = .ok (.new ik, 3)) (d3 : decode cc (pc + 3) = .ok (.dup, 1)) (d4 : decode cc (pc + 4) = .ok (.ldc is, 2)) (d6 : decode cc (pc + 6) = .ok (.invokespecial ic, 3)) (d9 : decode cc (pc + 9) = .ok (.athrow, 1))
    (hout : ∀ x ∈ c.exceptionTable.toList, False)
    (hRframes : names.length + 3 < R.frames) (hRlocals : (rest.map fun v => v.category).sum + (13 * (names.length + 1) + 43) ≤ R.locals) (hRcells : cells + 1 ≤ R.cells) (hRslots : slots + 6 ≤ R.slots) (hlocks : meth.locks = false)
    (hP : va_P D vwCl (Wf u) H) (hD : va_D A (Wf u)) (hE : cls = q_xE k) (h : px k u) (hc : cells + 1 ≤ mc) (hs : slots + 6 ≤ ms) :
    W p l e R s m args below meth c H locs cells slots (vx_MQ below Qc (q_XX D A px Wf) args s mc ms A) (F0 m pc ls rest) :=
  vx_throwN hx hb hst hown hcls hnames hk hini hstr hat hgood hZ.1 hZ.2 hS hsize d0 d3 d4 d6 d9 (fun x hx => (hout x hx).elim) hRframes hRlocals hRcells hRslots hlocks
    (fun t _ hz hq => ⟨(k, u), h, ⟨hE, hP.kept (fun j q hj => hq q.1 ((hP j q hj).lt)), hD⟩, Nat.le_trans hS.1 hz, fun q h1 h2 => (hq q (Nat.lt_of_lt_of_le h1 hS.1)).trans (hS.2.1 q h1 h2)⟩) hS.2.2 hc hs
/-- what a callee threw goes on to the caller -/
theorem q_pass {S : Type} {px : Int32 → S → Prop} {Wf : S → va_W} {E : String} {ce : Cell} {q9 : Addr} (k : Int32) (u : S) (hout : ∀ x ∈ c.exceptionTable.toList, False) (hlocks : meth.locks = false) (hcell : H[q9]? = some ce) (hv : ce.vm = .none) (hcl : s.vm.findClass E = some ce.cls) (hE : E = q_xE k)
    (hP : va_P D vwCl (Wf u) H) (hD : va_D A (Wf u)) (hS : va_S A s.heap H locs) (h : px k u) (hc : cells ≤ mc) (hs : slots ≤ ms) :
    vx_W p l e R s m args below meth c H locs cells slots (vx_MQ below Qc (q_XX D A px Wf) args s mc ms A) (F0 m pc ls rest) q9 :=
  vx_out (fun x hx => (hout x hx).elim) hlocks hcell hv hcl (fun t ht _ => ⟨(k, u), h, ⟨hE, by rw [ht]; exact hP, hD⟩, hS.F ht⟩) hS.2.2 hc hs
variable {y : MethodName} {bytes : ByteArray} {maxL nL n index : Nat} {ret : Option FieldType} {wy wy' : List Cond} {rm : Room} {Ts : List Cond} {own C : String} {As st0 : List Value}
/-- what is common to the calls -/
theorem q_xpre {av : List Value} (hP : va_P D vwCl ws H) (hK : va_K D vwCl tys s) (hD : va_D A ws) (hS : va_S A s.heap H locs) (hA : ∀ q, s.heap.size ≤ q → A q) (hE : q_E s) (hZ : q_Z A s s.heap) (isC isT : List Nat) (h1 : isC.map (fun i => ws[i]?) = wc.map some) (h1' : isC.filterMap (fun i => ws[i]?) = wc) (hnC : va_nd isC = true) (h2 : isT.filterMap (fun i => tys[i]?) = tysc) :
    ∀ U : State, U.heap = H → s.WarmedH U.vm → q_Px D tysc wc av H.size av.toArray U := fun U hU hWm =>
  ⟨rfl, by rw [hU], by rw [hU]; exact hP.sub isC h1', va_K.moved hWm.alike (hK.sub isT h2), (hD.sub isC hnC h1).weaken (fun _ _ _ _ => trivial), hE.warm hWm, by rw [hU]; exact ((hZ.kept hS.2.1).moved hWm.alike).narrow (va_free (wc := wc) hD hS hA isC h1)⟩
theorem q_xjoin {S : Type} {Wf Wn : S → va_W} {H1 : Heap} {t : State} (u : S) (ht : t.heap = H1) (hP : va_P D vwCl ws H) (hD : va_D A ws) (hS : va_S A s.heap H locs) (hA : ∀ q, s.heap.size ≤ q → A q) (isC isR isN : List Nat) (h1 : isC.map (fun i => ws[i]?) = wc.map some) (hR' : isR.map (fun i => ws[i]?) = wr.map some) (hnR : va_nd isR = true) (hdis : ∀ i ∈ isR, i ∉ isC) (hnN : va_nd isN = true) (hN : ∀ u, isN.map (fun i => (wr ++ Wf u)[i]?) = (Wn u).map some) (hN' : ∀ u, isN.filterMap (fun i => (wr ++ Wf u)[i]?) = Wn u)
    (hk1 : ∀ q : Nat, q < H.size → ¬ va_A wc H.size q → H1[q]? = H[q]?) (hB : va_P D vwCl (Wf u) t.heap ∧ va_D (va_A wc H.size) (Wf u)) : va_P D vwCl (Wn u) H1 ∧ va_D A (Wn u) := by
  obtain ⟨hP1, hD1⟩ := hB
  rw [ht] at hP1
  obtain ⟨hP2, hD2⟩ := va_join (wr := wr) hP hD isC isR h1 hR' hnR hdis hk1 (va_free (wc := wc) hD hS hA isC h1) hP1 hD1
  exact ⟨hP2.sub isN (hN' u), hD2.sub isN hnN (hN u)⟩
theorem q_xcallSv {S : Type} {post : S → Prop} {px : Int32 → S → Prop} {Wf Wn : S → va_W} (hM : q_xV l y wy rm D tysc wc As post px Wf mc ms) (hfix : CallFix p m c cc nL s args Ts own) (cw : CallB R s args own index y bytes maxL ret wy rm mc ms n ∧ (Cond.static y).before args s = true) (hn : As.length = n) (hsz : ls.size = nL) (hst : st0 = As.reverse ++ rest) (hW : (rest.map fun v => v.category).sum ≤ 8) (hf : cells + mc ≤ R.cells ∧ slots + ms ≤ R.slots)
    (hP : va_P D vwCl ws H) (hK : va_K D vwCl tys s) (hD : va_D A ws) (hS : va_S A s.heap H locs) (hA : ∀ q, s.heap.size ≤ q → A q) (hE : q_E s) (hZ : q_Z A s s.heap) (isC isR isN isT : List Nat) (h1 : isC.map (fun i => ws[i]?) = wc.map some) (h1' : isC.filterMap (fun i => ws[i]?) = wc) (hR' : isR.map (fun i => ws[i]?) = wr.map some) (hnC : va_nd isC = true) (hnR : va_nd isR = true) (hdis : ∀ i ∈ isR, i ∉ isC) (hnN : va_nd isN = true) (hN : ∀ u, isN.map (fun i => (wr ++ Wf u)[i]?) = (Wn u).map some) (hN' : ∀ u, isN.filterMap (fun i => (wr ++ Wf u)[i]?) = Wn u) (h2 : isT.filterMap (fun i => tys[i]?) = tysc) (hdg : decode cc pc = .ok (.invokestatic index, 3))
    (kx : ∀ (E : String) (ce : Cell) (q9 : Addr) (k : Int32) (u : S) (H1 : Heap) (locs1 : List Loc), px k u → E = q_xE k → va_P D vwCl (Wn u) H1 → va_D A (Wn u) → va_S A s.heap H1 locs1 → H1[q9]? = some ce → ce.vm = .none → s.vm.findClass E = some ce.cls → vx_W p l e R s m args below meth c H1 locs1 (cells + mc) (slots + ms) Q (F0 m pc ls rest) q9)
    (kk : ∀ (u : S) (H1 : Heap) (locs1 : List Loc), post u → va_P D vwCl (Wn u) H1 → va_D A (Wn u) → va_S A s.heap H1 locs1 → W p l e R s m args below meth c H1 locs1 (cells + mc) (slots + ms) Q (F0 m (pc + 3) ls rest)) : W p l e R s m args below meth c H locs cells slots Q (F0 m pc ls st0) := by
  have hFc := va_free (wc := wc) hD hS hA isC h1
  refine vx_callv (vx_runS (As := As) (rest := rest) hfix (hM H.size) cw ⟨q_Px_blind, q_xpre hP hK hD hS hA hE hZ isC isT h1 h1' hnC h2⟩ rfl hn hsz hst (lv_room hW) hdg hf) hS (fun q _ h => hFc q h) hFc (fun q _ h => hFc q h)
    (fun E ce q9 u t H1 locs1 ht hvm hw hB hz1 hk1 hS1 hce hcv hcl => ?_) (fun u t H1 locs1 ht hvm hw hB hz1 hk1 hS1 => ?_)
  · obtain ⟨j1, j2⟩ := q_xjoin (Wn := Wn) u.2 ht hP hD hS hA isC isR isN h1 hR' hnR hdis hnN hN hN' hk1 hB.2
    exact kx E ce q9 u.1 u.2 H1 locs1 hw hB.1 j1 j2 hS1 hce hcv hcl
  · obtain ⟨j1, j2⟩ := q_xjoin (Wn := Wn) u ht hP hD hS hA isC isR isN h1 hR' hnR hdis hnN hN hN' hk1 hB
    exact kk u H1 locs1 hw j1 j2 hS1
theorem q_xcallVv {S : Type} {post : S → Prop} {px : Int32 → S → Prop} {Wf Wn : S → va_W} {b q0 ci : Nat} {q : vw_C} {fs : List Value} (hM : q_xV l y wy rm D tysc wc (.ref b :: As) post px Wf mc ms) (hfix : CallFix p m c cc nL s args Ts own) (cw : CallW R s args own C index y bytes maxL ret wy rm mc ms n) (hn : As.length = n) (hsz : ls.size = nL) (hst : st0 = As.reverse ++ .ref b :: rest) (hW : (rest.map fun v => v.category).sum ≤ 8) (hf : cells + mc ≤ R.cells ∧ slots + ms ≤ R.slots)
    (hP : va_P D vwCl ws H) (hK : va_K D vwCl tys s) (hD : va_D A ws) (hS : va_S A s.heap H locs) (hA : ∀ q, s.heap.size ≤ q → A q) (hE : q_E s) (hZ : q_Z A s s.heap) (isC isR isN isT : List Nat) (h1 : isC.map (fun i => ws[i]?) = wc.map some) (h1' : isC.filterMap (fun i => ws[i]?) = wc) (hR' : isR.map (fun i => ws[i]?) = wr.map some) (hnC : va_nd isC = true) (hnR : va_nd isR = true) (hdis : ∀ i ∈ isR, i ∉ isC) (hnN : va_nd isN = true) (hN : ∀ u, isN.map (fun i => (wr ++ Wf u)[i]?) = (Wn u).map some) (hN' : ∀ u, isN.filterMap (fun i => (wr ++ Wf u)[i]?) = Wn u) (h2 : isT.filterMap (fun i => tys[i]?) = tysc) (hc : vwCl[ci]? = some q) (hq : q.1 = C) (he : wc[q0]? = some (b, .inr (ci, fs))) (hdg : decode cc pc = .ok (.invokevirtual index, 3))
    (kx : ∀ (E : String) (ce : Cell) (q9 : Addr) (k : Int32) (u : S) (H1 : Heap) (locs1 : List Loc), px k u → E = q_xE k → va_P D vwCl (Wn u) H1 → va_D A (Wn u) → va_S A s.heap H1 locs1 → H1[q9]? = some ce → ce.vm = .none → s.vm.findClass E = some ce.cls → vx_W p l e R s m args below meth c H1 locs1 (cells + mc) (slots + ms) Q (F0 m pc ls rest) q9)
    (kk : ∀ (u : S) (H1 : Heap) (locs1 : List Loc), post u → va_P D vwCl (Wn u) H1 → va_D A (Wn u) → va_S A s.heap H1 locs1 → W p l e R s m args below meth c H1 locs1 (cells + mc) (slots + ms) Q (F0 m (pc + 3) ls rest)) : W p l e R s m args below meth c H locs cells slots Q (F0 m pc ls st0) := by
  have hFc := va_free (wc := wc) hD hS hA isC h1
  have hrv := va_recv (hK.sub isT h2) (hP.sub isC h1') hc he
  rw [hq] at hrv
  refine vx_callv (vx_runV (As := As) (rest := rest) hfix (hM H.size) cw ⟨q_Px_blind, hrv, q_xpre hP hK hD hS hA hE hZ isC isT h1 h1' hnC h2⟩ rfl hn hsz hst (lv_room hW) hdg hf) hS (fun q _ h => hFc q h) hFc (fun q _ h => hFc q h)
    (fun E ce q9 u t H1 locs1 ht hvm hw hB hz1 hk1 hS1 hce hcv hcl => ?_) (fun u t H1 locs1 ht hvm hw hB hz1 hk1 hS1 => ?_)
  · obtain ⟨j1, j2⟩ := q_xjoin (Wn := Wn) u.2 ht hP hD hS hA isC isR isN h1 hR' hnR hdis hnN hN hN' hk1 hB.2
    exact kx E ce q9 u.1 u.2 H1 locs1 hw hB.1 j1 j2 hS1 hce hcv hcl
  · obtain ⟨j1, j2⟩ := q_xjoin (Wn := Wn) u ht hP hD hS hA isC isR isN h1 hR' hnR hdis hnN hN hN' hk1 hB
    exact kk u H1 locs1 hw j1 j2 hS1
theorem q_xcallVi {S : Type} {post : Int32 → S → Prop} {px : Int32 → S → Prop} {Wf Wn : S → va_W} {b q0 ci : Nat} {q : vw_C} {fs : List Value} (hM : q_xI l y wy rm D tysc wc (.ref b :: As) post px Wf mc ms) (hfix : CallFix p m c cc nL s args Ts own) (cw : CallW R s args own C index y bytes maxL ret wy rm mc ms n) (hn : As.length = n) (hsz : ls.size = nL) (hst : st0 = As.reverse ++ .ref b :: rest) (hW : (rest.map fun v => v.category).sum ≤ 8) (hf : cells + mc ≤ R.cells ∧ slots + ms ≤ R.slots)
    (hP : va_P D vwCl ws H) (hK : va_K D vwCl tys s) (hD : va_D A ws) (hS : va_S A s.heap H locs) (hA : ∀ q, s.heap.size ≤ q → A q) (hE : q_E s) (hZ : q_Z A s s.heap) (isC isR isN isT : List Nat) (h1 : isC.map (fun i => ws[i]?) = wc.map some) (h1' : isC.filterMap (fun i => ws[i]?) = wc) (hR' : isR.map (fun i => ws[i]?) = wr.map some) (hnC : va_nd isC = true) (hnR : va_nd isR = true) (hdis : ∀ i ∈ isR, i ∉ isC) (hnN : va_nd isN = true) (hN : ∀ u, isN.map (fun i => (wr ++ Wf u)[i]?) = (Wn u).map some) (hN' : ∀ u, isN.filterMap (fun i => (wr ++ Wf u)[i]?) = Wn u) (h2 : isT.filterMap (fun i => tys[i]?) = tysc) (hc : vwCl[ci]? = some q) (hq : q.1 = C) (he : wc[q0]? = some (b, .inr (ci, fs))) (hdg : decode cc pc = .ok (.invokevirtual index, 3))
    (kx : ∀ (E : String) (ce : Cell) (q9 : Addr) (k : Int32) (u : S) (H1 : Heap) (locs1 : List Loc), px k u → E = q_xE k → va_P D vwCl (Wn u) H1 → va_D A (Wn u) → va_S A s.heap H1 locs1 → H1[q9]? = some ce → ce.vm = .none → s.vm.findClass E = some ce.cls → vx_W p l e R s m args below meth c H1 locs1 (cells + mc) (slots + ms) Q (F0 m pc ls rest) q9)
    (kk : ∀ (r : Int32) (u : S) (H1 : Heap) (locs1 : List Loc), post r u → va_P D vwCl (Wn u) H1 → va_D A (Wn u) → va_S A s.heap H1 locs1 → W p l e R s m args below meth c H1 locs1 (cells + mc) (slots + ms) Q (F0 m (pc + 3) ls (.int r :: rest))) : W p l e R s m args below meth c H locs cells slots Q (F0 m pc ls st0) := by
  have hFc := va_free (wc := wc) hD hS hA isC h1
  have hrv := va_recv (hK.sub isT h2) (hP.sub isC h1') hc he
  rw [hq] at hrv
  refine vx_calli (vx_runV (As := As) (rest := rest) hfix (hM H.size) cw ⟨q_Px_blind, hrv, q_xpre hP hK hD hS hA hE hZ isC isT h1 h1' hnC h2⟩ rfl hn hsz hst (lv_room hW) hdg hf) hS (fun q _ h => hFc q h) hFc (fun q _ h => hFc q h)
    (fun E ce q9 u t H1 locs1 ht hvm hw hB hz1 hk1 hS1 hce hcv hcl => ?_) (fun r u t H1 locs1 ht hvm hw hB hz1 hk1 hS1 => ?_)
  · obtain ⟨j1, j2⟩ := q_xjoin (Wn := Wn) u.2 ht hP hD hS hA isC isR isN h1 hR' hnR hdis hnN hN hN' hk1 hB.2
    exact kx E ce q9 u.1 u.2 H1 locs1 hw hB.1 j1 j2 hS1 hce hcv hcl
  · obtain ⟨j1, j2⟩ := q_xjoin (Wn := Wn) u ht hP hD hS hA isC isR isN h1 hR' hnR hdis hnN hN hN' hk1 hB
    exact kk r u H1 locs1 hw j1 j2 hS1
theorem q_xcallVl {S : Type} {post : Int64 → S → Prop} {px : Int32 → S → Prop} {Wf Wn : S → va_W} {b q0 ci : Nat} {q : vw_C} {fs : List Value} (hM : q_xL l y wy rm D tysc wc (.ref b :: As) post px Wf mc ms) (hfix : CallFix p m c cc nL s args Ts own) (cw : CallW R s args own C index y bytes maxL ret wy rm mc ms n) (hn : As.length = n) (hsz : ls.size = nL) (hst : st0 = As.reverse ++ .ref b :: rest) (hW : (rest.map fun v => v.category).sum ≤ 8) (hf : cells + mc ≤ R.cells ∧ slots + ms ≤ R.slots)
    (hP : va_P D vwCl ws H) (hK : va_K D vwCl tys s) (hD : va_D A ws) (hS : va_S A s.heap H locs) (hA : ∀ q, s.heap.size ≤ q → A q) (hE : q_E s) (hZ : q_Z A s s.heap) (isC isR isN isT : List Nat) (h1 : isC.map (fun i => ws[i]?) = wc.map some) (h1' : isC.filterMap (fun i => ws[i]?) = wc) (hR' : isR.map (fun i => ws[i]?) = wr.map some) (hnC : va_nd isC = true) (hnR : va_nd isR = true) (hdis : ∀ i ∈ isR, i ∉ isC) (hnN : va_nd isN = true) (hN : ∀ u, isN.map (fun i => (wr ++ Wf u)[i]?) = (Wn u).map some) (hN' : ∀ u, isN.filterMap (fun i => (wr ++ Wf u)[i]?) = Wn u) (h2 : isT.filterMap (fun i => tys[i]?) = tysc) (hc : vwCl[ci]? = some q) (hq : q.1 = C) (he : wc[q0]? = some (b, .inr (ci, fs))) (hdg : decode cc pc = .ok (.invokevirtual index, 3))
    (kx : ∀ (E : String) (ce : Cell) (q9 : Addr) (k : Int32) (u : S) (H1 : Heap) (locs1 : List Loc), px k u → E = q_xE k → va_P D vwCl (Wn u) H1 → va_D A (Wn u) → va_S A s.heap H1 locs1 → H1[q9]? = some ce → ce.vm = .none → s.vm.findClass E = some ce.cls → vx_W p l e R s m args below meth c H1 locs1 (cells + mc) (slots + ms) Q (F0 m pc ls rest) q9)
    (kk : ∀ (r : Int64) (u : S) (H1 : Heap) (locs1 : List Loc), post r u → va_P D vwCl (Wn u) H1 → va_D A (Wn u) → va_S A s.heap H1 locs1 → W p l e R s m args below meth c H1 locs1 (cells + mc) (slots + ms) Q (F0 m (pc + 3) ls (.long r :: rest))) : W p l e R s m args below meth c H locs cells slots Q (F0 m pc ls st0) := by
  have hFc := va_free (wc := wc) hD hS hA isC h1
  have hrv := va_recv (hK.sub isT h2) (hP.sub isC h1') hc he
  rw [hq] at hrv
  refine vx_calll (vx_runV (As := As) (rest := rest) hfix (hM H.size) cw ⟨q_Px_blind, hrv, q_xpre hP hK hD hS hA hE hZ isC isT h1 h1' hnC h2⟩ rfl hn hsz hst (lv_room hW) hdg hf) hS (fun q _ h => hFc q h) hFc (fun q _ h => hFc q h)
    (fun E ce q9 u t H1 locs1 ht hvm hw hB hz1 hk1 hS1 hce hcv hcl => ?_) (fun r u t H1 locs1 ht hvm hw hB hz1 hk1 hS1 => ?_)
  · obtain ⟨j1, j2⟩ := q_xjoin (Wn := Wn) u.2 ht hP hD hS hA isC isR isN h1 hR' hnR hdis hnN hN hN' hk1 hB.2
    exact kx E ce q9 u.1 u.2 H1 locs1 hw hB.1 j1 j2 hS1 hce hcv hcl
  · obtain ⟨j1, j2⟩ := q_xjoin (Wn := Wn) u ht hP hD hS hA isC isR isN h1 hR' hnR hdis hnN hN hN' hk1 hB
    exact kk r u H1 locs1 hw j1 j2 hS1
end QX
theorem q_ok46 : ∀ w ∈ Cond.classLink RX6 42 "java/lang/IllegalArgumentException" :: Cond.initialized "java/lang/IllegalArgumentException" :: vx_atS RX6 46 "java/lang/IllegalArgumentException" ["java/lang/RuntimeException", "java/lang/Exception"], vx_ot w = true := by decide +kernel
theorem q_ok65 : ∀ w ∈ Cond.classLink RX6 61 "java/lang/IllegalStateException" :: Cond.initialized "java/lang/IllegalStateException" :: vx_atS RX6 65 "java/lang/IllegalStateException" ["java/lang/RuntimeException", "java/lang/Exception"], vx_ot w = true := by decide +kernel
theorem q_ok160 : ∀ w ∈ Cond.classLink RX6 156 "java/util/NoSuchElementException" :: Cond.initialized "java/util/NoSuchElementException" :: vx_atN RX6 160 "java/util/NoSuchElementException" ["java/lang/RuntimeException", "java/lang/Exception"], vx_ot w = true := by decide +kernel
theorem q_ok185 : ∀ w ∈ Cond.classLink RX6 181 "java/lang/ArithmeticException" :: Cond.initialized "java/lang/ArithmeticException" :: vx_atS RX6 185 "java/lang/ArithmeticException" ["java/lang/RuntimeException", "java/lang/Exception"], vx_ot w = true := by decide +kernel
theorem q_bd46 : ∀ w ∈ (vx_atS RX6 46 "java/lang/IllegalArgumentException" ["java/lang/RuntimeException", "java/lang/Exception"]).filter (fun w => !goodWord w), w ∈ q_nest := by decide +kernel
theorem q_bd65 : ∀ w ∈ (vx_atS RX6 65 "java/lang/IllegalStateException" ["java/lang/RuntimeException", "java/lang/Exception"]).filter (fun w => !goodWord w), w ∈ q_nest := by decide +kernel
theorem q_bd160 : ∀ w ∈ (vx_atN RX6 160 "java/util/NoSuchElementException" ["java/lang/RuntimeException", "java/lang/Exception"]).filter (fun w => !goodWord w), w ∈ q_nest := by decide +kernel
theorem q_bd185 : ∀ w ∈ (vx_atS RX6 185 "java/lang/ArithmeticException" ["java/lang/RuntimeException", "java/lang/Exception"]).filter (fun w => !goodWord w), w ∈ q_nest := by decide +kernel

theorem q_p3 {α β : Type} {f : Int32 × α × β} {r : α} {u : β} (h : f = (0, r, u)) : f.1 = 0 ∧ r = f.2.1 ∧ u = f.2.2 := by rw [h]; exact ⟨rfl, rfl, rfl⟩
theorem q_x3 {α β : Type} {f : Int32 × α × β} {k : Int32} {r : α} {u : β} (h : f = (k, r, u)) (hk : ¬ k = 0) : ¬ f.1 = 0 ∧ k = f.1 ∧ u = f.2.2 := by rw [h]; exact ⟨hk, rfl, rfl⟩
theorem q_p2 {β : Type} {f : Int32 × β} {u : β} (h : f = (0, u)) : f.1 = 0 ∧ u = f.2 := by rw [h]; exact ⟨rfl, rfl⟩
theorem q_x2 {β : Type} {f : Int32 × β} {k : Int32} {u : β} (h : f = (k, u)) (hk : ¬ k = 0) : ¬ f.1 = 0 ∧ k = f.1 ∧ u = f.2 := by rw [h]; exact ⟨hk, rfl, rfl⟩

