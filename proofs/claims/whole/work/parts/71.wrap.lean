/-! the law's wrappers: one call of the class, its exceptions told as numbers -/
abbrev wXO (aX aP aM aC aT aR aO : Nat) (cJ : ClassId) (S : XS) (o : Nat → Int64) : va_W := [(aX, .inr (3, [.ref aM, .ref aP, .ref aT, .int (pX_latestFailure S)])), (aP, .inr (1, [.ref aM, .long (pP_pc (pX_p S)), .long (pP_ap (pX_p S)), .long (pP_fp (pX_p S)), .long (pP_newPc (pX_p S)), .long (pP_newAp (pX_p S)), .long (pP_newFp (pX_p S)), .long (pP_word (pX_p S)), .int (pP_flags (pX_p S)), .long (pP_dstPlace (pX_p S)), .long (pP_op0Place (pX_p S)), .long (pP_op1Place (pX_p S)), .long (pP_res (pX_p S))])), (aM, .inr (0, [.ref aC])), (aC, .inl (cJ, 320, .inr (.inl (pP_mem (pX_p S))))), (aT, .inr (2, [.ref aR, .int (pT_length (pX_t S))])), (aR, .inl (cJ, 192, .inr (.inl (pT_row (pX_t S))))), (aO, .inl (cJ, 1, .inr (.inl o)))]
def q_N3 (U : State) : Prop := va_Nc "java/lang/IllegalStateException" "java/lang/IllegalArgumentException" U ∧ va_Nc "java/util/NoSuchElementException" "java/lang/IllegalArgumentException" U ∧ va_Nc "java/lang/ArithmeticException" "java/lang/IllegalArgumentException" U
theorem q_N3.moved {u U : State} (hvm : u.vm.Alike U.vm) (h : q_N3 u) : q_N3 U := ⟨h.1.moved hvm, h.2.1.moved hvm, h.2.2.moved hvm⟩
def q_Py (D : va_G) (tys : List (ClassId × FieldType)) (ws : va_W) (av : List Value) (sz : Nat) : Array Value → State → Prop := fun a U => q_Px D tys ws av sz a U ∧ q_N3 U
theorem q_Py_blind {D : va_G} {tys : List (ClassId × FieldType)} {ws : va_W} {av : List Value} {sz : Nat} : FrameBlind (q_Py D tys ws av sz) := fun a U g mk q => ⟨q_Px_blind a U g mk q.1, q_N3.moved (u := U) (U := U.calling g mk a) (Vm.Alike.refl U.vm) q.2⟩
def q_yI {S : Type} (l : Launch) (y : MethodName) (w : List Cond) (rm : Room) (D : va_G) (tys : List (ClassId × FieldType)) (ws : va_W) (av : List Value) (post : Int32 → S → Prop) (Wf : S → va_W) (mc ms : Nat) : Prop := ∀ sz, vx_Met l y w rm (q_Py D tys ws av sz) (va_Qi post (fun u t => va_P D vwCl (Wf u) t.heap ∧ va_D (va_A ws sz) (Wf u)) (va_A ws sz)) (q_XX D (va_A ws sz) (fun (_ : Int32) (_ : S) => False) Wf) mc ms (va_A ws sz)
theorem q_x_ofH {l : Launch} {y : MethodName} {w w' : List Cond} {rm : Room} {Qc : Array Value → State → Outcome → State → Prop} {XC : String → State → State → Prop} {free : Addr → Prop} {cc : ByteArray} {maxL mc ms sz : Nat} {ret : Option FieldType} {av : List Value} {D : va_G} {tys : List (ClassId × FieldType)} {ws : va_W} {hh : List (Nat × Nat × Nat × Nat)}
    (hy : plainName y.cls = true) (hw : w = Cond.codeWith y cc maxL ret hh :: w') (hlen : (lg_sl av).length ≤ maxL)
    (body : ∀ (p : Program) (e : Env) (s : State) (m : MethodId) (below : List Frame) (meth : Method) (c : Code) (ls : Array Slot), p.tables.exec = Jvm.exec → c.code = cc → meth.sig.returnType = ret → c.maxLocals = maxL → s.vm.findClass y.cls = some m.cls → (∀ x ∈ w, x.before av.toArray s = true) → meth.locks = false → c.exceptionTable.toList = tableOf hh → s.heap.size = sz → va_P D vwCl ws s.heap → va_K D vwCl tys s → va_D (va_A ws sz) ws → q_E s → q_Z (va_A ws sz) s s.heap → q_N3 s → lv_has ls maxL (lv_args 0 av) →
      W p l e rm s m av.toArray below meth c s.heap [] 0 0 (vx_MQ below Qc XC av.toArray s mc ms free) (F0 m 0 ls [])) : vx_Met l y w rm (q_Py D tys ws av sz) Qc XC mc ms free := by
  refine vx_ofWH (cc := cc) (maxL := maxL) (ret := ret) (hh := hh) hy hw ?_
  intro p e s m args below meth c s₁ B hml hv
  obtain ⟨⟨rfl, h1, h2, h3, h4, h5, h6⟩, h7⟩ := hv
  have hl := lv_entry av (n := maxL) hlen
  have hts : ∀ x ∈ w, x.before av.toArray s = true := atoms_spec (ws := w) B.pre
  have ht := vx_table (x := y) B (hts _ (by rw [hw]; exact List.mem_cons_self))
  rw [lg_entry_eq]
  exact body p e s m below meth c _ B.exec B.bytes B.returns hml (findClass_of_methodNamed B.named) hts B.notSynchronized ht h1 h2 h3 (h4.self (sz := sz)) h5 h6 h7 hl
section QY
variable {p : Program} {l : Launch} {e : Env} {R : Room} {s : State} {m : MethodId} {args : Array Value} {below : List Frame} {meth : Method} {c : Code} {H : Heap} {locs : List Loc} {cells slots : Nat} {Q : State → Prop}
variable {cc : ByteArray} {pc : Nat} {ls : Array Slot} {rest : List Value} {D : va_G} {A : Nat → Prop} {tys tysc : List (ClassId × FieldType)} {ws wc wr : va_W} {mc ms : Nat}
variable {y : MethodName} {bytes : ByteArray} {maxL nL n index : Nat} {ret : Option FieldType} {wy wy' : List Cond} {rm : Room} {Ts : List Cond} {own C : String} {As st0 : List Value} {hh : List (Nat × Nat × Nat × Nat)}
/-- the law's call of a wrapper -/
theorem q_ycall {S : Type} {post : Int32 → S → Prop} {Wf Wn : S → va_W} (hM : q_yI l y wy rm D tysc wc As post Wf mc ms) (hfix : CallFix p m c cc nL s args Ts own) (cw : vx_CSW R s args own index y bytes maxL ret hh wy rm mc ms n) (hn : As.length = n) (hsz : ls.size = nL) (hst : st0 = As.reverse ++ rest) (hW : (rest.map fun v => v.category).sum ≤ 8) (hf : cells + mc ≤ R.cells ∧ slots + ms ≤ R.slots)
    (hP : va_P D vwCl ws H) (hK : va_K D vwCl tys s) (hD : va_D A ws) (hS : va_S A s.heap H locs) (hA : ∀ q, s.heap.size ≤ q → A q) (hE : q_E s) (hZ : q_Z A s s.heap) (hN3 : q_N3 s) (isC isR isN isT : List Nat) (h1 : isC.map (fun i => ws[i]?) = wc.map some) (h1' : isC.filterMap (fun i => ws[i]?) = wc) (hR' : isR.map (fun i => ws[i]?) = wr.map some) (hnC : va_nd isC = true) (hnR : va_nd isR = true) (hdis : ∀ i ∈ isR, i ∉ isC) (hnN : va_nd isN = true) (hN : ∀ u, isN.map (fun i => (wr ++ Wf u)[i]?) = (Wn u).map some) (hN' : ∀ u, isN.filterMap (fun i => (wr ++ Wf u)[i]?) = Wn u) (h2 : isT.filterMap (fun i => tys[i]?) = tysc) (hdg : decode cc pc = .ok (.invokestatic index, 3))
    (kk : ∀ (r : Int32) (u : S) (H1 : Heap) (locs1 : List Loc), post r u → va_P D vwCl (Wn u) H1 → va_D A (Wn u) → va_S A s.heap H1 locs1 → W p l e R s m args below meth c H1 locs1 (cells + mc) (slots + ms) Q (F0 m (pc + 3) ls (.int r :: rest))) : W p l e R s m args below meth c H locs cells slots Q (F0 m pc ls st0) := by
  have hFc := va_free (wc := wc) hD hS hA isC h1
  refine vx_calli (vx_runSX (As := As) (rest := rest) hfix (hM H.size) cw ⟨q_Py_blind, fun U hU hWm => ⟨q_xpre hP hK hD hS hA hE hZ isC isT h1 h1' hnC h2 U hU hWm, hN3.moved hWm.alike⟩⟩ rfl hn hsz hst (lv_room hW) hdg hf) hS (fun q _ h => hFc q h) hFc (fun q _ h => hFc q h)
    (fun E ce q9 u t H1 locs1 ht hvm hw hB hz1 hk1 hS1 hce hcv hcl => False.elim (show False from hw)) (fun r u t H1 locs1 ht hvm hw hB hz1 hk1 hS1 => ?_)
  obtain ⟨j1, j2⟩ := q_xjoin (Wn := Wn) u ht hP hD hS hA isC isR isN h1 hR' hnR hdis hnN hN hN' hk1 hB
  exact kk r u H1 locs1 hw j1 j2 hS1
end QY
set_option maxHeartbeats 4000000 in
set_option maxRecDepth 100000 in
theorem c_L_encode (l : Launch) (hlk : l.stackTraces = false) (D : va_G) (aX aP aM aC aT aR aO : Nat) (cJ : ClassId) (S : XS) (o : Nat → Int64) (a0 : Int32) (a1 : Int32) (a2 : Int32) (a3 : Int32) (hcode : (f_X6_encode S a0 a1 a2 a3).1 = 0 ∨ (f_X6_encode S a0 a1 a2 a3).1 = 1) : q_yI l yL_encode wsL_encode ({ frames := 7, cells := 1, slots := 6, locals := 106 }) D [(cJ, .long)] (wXO aX aP aM aC aT aR aO cJ S o) [.ref aX, .int a0, .int a1, .int a2, .int a3, .ref aO] (fun r u => r = (fun k : Int32 => k) (f_X6_encode S a0 a1 a2 a3).1 ∧ u.1 = (f_X6_encode S a0 a1 a2 a3).2.2 ∧ ((f_X6_encode S a0 a1 a2 a3).1 = 0 → u.2 0 = (f_X6_encode S a0 a1 a2 a3).2.1)) (fun u : XS × (Nat → Int64) => wXO aX aP aM aC aT aR aO cJ u.1 u.2) 1 6 := by
  refine fun sz => q_x_ofH (cc := cL_encode) (maxL := 7) (ret := (some .int)) (hh := [(0, 13, 16, 13)]) (by decide) rfl (Nat.le_of_ble_eq_true rfl) ?_
  intro p e s m below meth c ls hx hb hr hml hown hts hlocks htab hsz hP hK hD hE hZ hN hl
  subst hsz
  generalize hAe : va_A (wXO aX aP aM aC aT aR aO cJ S o) s.heap.size = A at hD hZ ⊢
  have hA : ∀ q, s.heap.size ≤ q → A q := fun q h => by rw [← hAe]; exact Or.inr h
  have hS : va_S A s.heap s.heap [] := va_S.rf
  have hown : s.vm.findClass RL = some m.cls := hown
  have hl : lv_has ls 7 [(0, .ref aX), (1, .int a0), (2, .int a1), (3, .int a2), (4, .int a3), (5, .ref aO)] := hl
  have hfix : CallFix p m c cL_encode 7 s [.ref aX, .int a0, .int a1, .int a2, .int a3, .ref aO].toArray wsL_encode RL := ⟨hx, hb, hml, hown, hts⟩
  refine lv_aload hx hb dL_encode_0 (lv_at hl 5 rfl) ?_
  refine lv_iconst (v := 0) hx hb dL_encode_2 (by decide) ?_
  refine lv_aload_n hx hb dL_encode_3 rfl (lv_at hl 0 rfl) ?_
  refine lv_iload_n hx hb dL_encode_4 rfl (lv_at hl 1 rfl) ?_
  refine lv_iload_n hx hb dL_encode_5 rfl (lv_at hl 2 rfl) ?_
  refine lv_iload_n hx hb dL_encode_6 rfl (lv_at hl 3 rfl) ?_
  refine lv_iload hx hb dL_encode_7 (lv_at hl 4 rfl) ?_
  refine q_xcallVl (As := [.int a0, .int a1, .int a2, .int a3]) (rest := [.int 0, .ref aO]) (wr := [(aO, .inl (cJ, 1, .inr (.inl o)))]) (Wn := (fun u => wXO aX aP aM aC aT aR aO cJ u o)) (q0 := 0) (ci := 3) (C := RX6) (c_X6_encode l hlk D aX aP aM aC aT aR cJ S a0 a1 a2 a3) hfix (cwV 4 hts gL_encode_X6_encode rfl rfl rfl (by decide +kernel) ⟨Nat.le_of_ble_eq_true rfl, Nat.le_of_ble_eq_true rfl⟩) rfl hl.1 rfl (Nat.le_of_ble_eq_true rfl) ⟨by decide, by decide⟩ hP hK hD hS hA hE hZ [0, 1, 2, 3, 4, 5] [6] [1, 2, 3, 4, 5, 6, 0] [0] rfl rfl rfl (by decide) (by decide) (by decide) (by decide) (fun _ => rfl) (fun _ => rfl) rfl rfl rfl rfl dL_encode_9 (fun E ce q9 k u H locs hw hEk hP hD hS hce hcv hcl => ?_) (fun r u H locs hw hP hD hS => ?_)
  · obtain ⟨hw0, hw1, hw2⟩ := hw
    rcases hcode with z | z
    · exact absurd z hw0
    · have hk : k = 1 := hw1.trans z
      rw [hEk, hk] at hcl
      refine q_catch1 (E := "java/lang/IllegalArgumentException") (name := "java/lang/IllegalArgumentException") hown ⟨0, 13, 16, 13⟩ [] htab (by decide) (by decide) (hts (.classLink RL 13 "java/lang/IllegalArgumentException") (by decide +kernel)) (q_nw hE (.castable "java/lang/IllegalArgumentException" "java/lang/IllegalArgumentException") (by decide +kernel)) hce hcv hcl ?_
      refine lv_astore (lv' := [(6, .ref q9), (0, .ref aX), (1, .int a0), (2, .int a1), (3, .int a2), (4, .int a3), (5, .ref aO)]) hx hb dL_encode_16 hl (by decide) rfl (fun ls hl => ?_)
      refine lv_iconst (v := 1) hx hb dL_encode_18 (by decide) ?_
      exact q_xri (Wf := (fun u : XS × (Nat → Int64) => wXO aX aP aM aC aT aR aO cJ u.1 u.2)) (u, o) hx hb hr hlocks (by decide) (by decide) hP hD hS ⟨by first | (rw [z]; done) | (rw [z]; rfl), hw2, fun z9 => absurd z9 hw0⟩ dL_encode_19
  · obtain ⟨hw0, hw1, hw2⟩ := hw
    refine va_last hx hb hK hP hD hS 6 0 rfl rfl (q_vi (by decide)) dL_encode_12 (fun H locs hP hD hS => ?_)
    have hP : va_P D vwCl (wXO aX aP aM aC aT aR aO cJ u (vp_updL o (0 : Int32).toNatClampNeg r)) H := hP
    have hD : va_D A (wXO aX aP aM aC aT aR aO cJ u (vp_updL o (0 : Int32).toNatClampNeg r)) := hD
    refine lv_goto (tgt := 20) hx hb dL_encode_13 (by decide) ?_
    refine lv_iconst (v := 0) hx hb dL_encode_20 (by decide) ?_
    exact q_xri (Wf := (fun u : XS × (Nat → Int64) => wXO aX aP aM aC aT aR aO cJ u.1 u.2)) (u, (vp_updL o (0 : Int32).toNatClampNeg r)) hx hb hr hlocks (by decide) (by decide) hP hD hS ⟨by first | (rw [hw0]; done) | (rw [hw0]; rfl), hw2, fun _ => by rw [← hw1]; show (vp_updL o (0 : Int32).toNatClampNeg r) 0 = _; rw [show (0 : Int32).toNatClampNeg = 0 from rfl]; exact pk_uLs⟩ dL_encode_21

set_option maxHeartbeats 4000000 in
set_option maxRecDepth 100000 in
theorem c_L_decode (l : Launch) (hlk : l.stackTraces = false) (D : va_G) (aX aP aM aC aT aR aO : Nat) (cJ : ClassId) (S : XS) (o : Nat → Int64) (a0 : Int64) (a1 : Int32) (hcode : (f_X6_decode S a0 a1).1 = 0 ∨ (f_X6_decode S a0 a1).1 = 1 ∨ (f_X6_decode S a0 a1).1 = 2) : q_yI l yL_decode wsL_decode ({ frames := 7, cells := 1, slots := 6, locals := 106 }) D [(cJ, .long)] (wXO aX aP aM aC aT aR aO cJ S o) [.ref aX, .long a0, .int a1, .ref aO] (fun r u => r = (fun k : Int32 => k) (f_X6_decode S a0 a1).1 ∧ u.1 = (f_X6_decode S a0 a1).2.2 ∧ ((f_X6_decode S a0 a1).1 = 0 → u.2 0 = ((f_X6_decode S a0 a1).2.1 : Int32).toInt64)) (fun u : XS × (Nat → Int64) => wXO aX aP aM aC aT aR aO cJ u.1 u.2) 1 6 := by
  refine fun sz => q_x_ofH (cc := cL_decode) (maxL := 6) (ret := (some .int)) (hh := [(0, 11, 14, 13), (0, 11, 18, 19)]) (by decide) rfl (Nat.le_of_ble_eq_true rfl) ?_
  intro p e s m below meth c ls hx hb hr hml hown hts hlocks htab hsz hP hK hD hE hZ hN hl
  subst hsz
  generalize hAe : va_A (wXO aX aP aM aC aT aR aO cJ S o) s.heap.size = A at hD hZ ⊢
  have hA : ∀ q, s.heap.size ≤ q → A q := fun q h => by rw [← hAe]; exact Or.inr h
  have hS : va_S A s.heap s.heap [] := va_S.rf
  have hown : s.vm.findClass RL = some m.cls := hown
  have hl : lv_has ls 6 [(0, .ref aX), (1, .long a0), (3, .int a1), (4, .ref aO)] := hl
  have hfix : CallFix p m c cL_decode 6 s [.ref aX, .long a0, .int a1, .ref aO].toArray wsL_decode RL := ⟨hx, hb, hml, hown, hts⟩
  refine lv_aload hx hb dL_decode_0 (lv_at hl 3 rfl) ?_
  refine lv_iconst (v := 0) hx hb dL_decode_2 (by decide) ?_
  refine lv_aload_n hx hb dL_decode_3 rfl (lv_at hl 0 rfl) ?_
  refine lv_lload_n hx hb dL_decode_4 rfl (lv_at hl 1 rfl) ?_
  refine lv_iload_n hx hb dL_decode_5 rfl (lv_at hl 2 rfl) ?_
  refine q_xcallVi (As := [.long a0, .int a1]) (rest := [.int 0, .ref aO]) (wr := [(aO, .inl (cJ, 1, .inr (.inl o)))]) (Wn := (fun u => wXO aX aP aM aC aT aR aO cJ u o)) (q0 := 0) (ci := 3) (C := RX6) (c_X6_decode l hlk D aX aP aM aC aT aR cJ S a0 a1) hfix (cwV 2 hts gL_decode_X6_decode rfl rfl rfl (by decide +kernel) ⟨Nat.le_of_ble_eq_true rfl, Nat.le_of_ble_eq_true rfl⟩) rfl hl.1 rfl (Nat.le_of_ble_eq_true rfl) ⟨by decide, by decide⟩ hP hK hD hS hA hE hZ [0, 1, 2, 3, 4, 5] [6] [1, 2, 3, 4, 5, 6, 0] [0] rfl rfl rfl (by decide) (by decide) (by decide) (by decide) (fun _ => rfl) (fun _ => rfl) rfl rfl rfl rfl dL_decode_6 (fun E ce q9 k u H locs hw hEk hP hD hS hce hcv hcl => ?_) (fun r u H locs hw hP hD hS => ?_)
  · obtain ⟨hw0, hw1, hw2⟩ := hw
    rcases hcode with z | z | z
    · exact absurd z hw0
    · have hk : k = 1 := hw1.trans z
      rw [hEk, hk] at hcl
      refine q_catch1 (E := "java/lang/IllegalArgumentException") (name := "java/lang/IllegalArgumentException") hown ⟨0, 11, 14, 13⟩ [⟨0, 11, 18, 19⟩] htab (by decide) (by decide) (hts (.classLink RL 13 "java/lang/IllegalArgumentException") (by decide +kernel)) (q_nw hE (.castable "java/lang/IllegalArgumentException" "java/lang/IllegalArgumentException") (by decide +kernel)) hce hcv hcl ?_
      refine lv_astore (lv' := [(5, .ref q9), (0, .ref aX), (1, .long a0), (3, .int a1), (4, .ref aO)]) hx hb dL_decode_14 hl (by decide) rfl (fun ls hl => ?_)
      refine lv_iconst (v := 1) hx hb dL_decode_16 (by decide) ?_
      exact q_xri (Wf := (fun u : XS × (Nat → Int64) => wXO aX aP aM aC aT aR aO cJ u.1 u.2)) (u, o) hx hb hr hlocks (by decide) (by decide) hP hD hS ⟨by first | (rw [z]; done) | (rw [z]; rfl), hw2, fun z9 => absurd z9 hw0⟩ dL_decode_17
    · have hk : k = 2 := hw1.trans z
      rw [hEk, hk] at hcl
      refine q_catch2 (E := "java/lang/IllegalStateException") (name := "java/lang/IllegalStateException") (name1 := "java/lang/IllegalArgumentException") hown ⟨0, 11, 14, 13⟩ ⟨0, 11, 18, 19⟩ [] htab (by decide) (by decide) (by decide) (by decide) (hts (.classLink RL 13 "java/lang/IllegalArgumentException") (by decide +kernel)) hN.1 (hts (.classLink RL 19 "java/lang/IllegalStateException") (by decide +kernel)) (q_nw hE (.castable "java/lang/IllegalStateException" "java/lang/IllegalStateException") (by decide +kernel)) hce hcv hcl ?_
      refine lv_astore (lv' := [(5, .ref q9), (0, .ref aX), (1, .long a0), (3, .int a1), (4, .ref aO)]) hx hb dL_decode_18 hl (by decide) rfl (fun ls hl => ?_)
      refine lv_iconst (v := 2) hx hb dL_decode_20 (by decide) ?_
      exact q_xri (Wf := (fun u : XS × (Nat → Int64) => wXO aX aP aM aC aT aR aO cJ u.1 u.2)) (u, o) hx hb hr hlocks (by decide) (by decide) hP hD hS ⟨by first | (rw [z]; done) | (rw [z]; rfl), hw2, fun z9 => absurd z9 hw0⟩ dL_decode_21
  · obtain ⟨hw0, hw1, hw2⟩ := hw
    refine lv_i2l hx hb dL_decode_9 rfl ?_
    refine va_last hx hb hK hP hD hS 6 0 rfl rfl (q_vi (by decide)) dL_decode_10 (fun H locs hP hD hS => ?_)
    have hP : va_P D vwCl (wXO aX aP aM aC aT aR aO cJ u (vp_updL o (0 : Int32).toNatClampNeg ((r : Int32).toInt64))) H := hP
    have hD : va_D A (wXO aX aP aM aC aT aR aO cJ u (vp_updL o (0 : Int32).toNatClampNeg ((r : Int32).toInt64))) := hD
    refine lv_goto (tgt := 22) hx hb dL_decode_11 (by decide) ?_
    refine lv_iconst (v := 0) hx hb dL_decode_22 (by decide) ?_
    exact q_xri (Wf := (fun u : XS × (Nat → Int64) => wXO aX aP aM aC aT aR aO cJ u.1 u.2)) (u, (vp_updL o (0 : Int32).toNatClampNeg ((r : Int32).toInt64))) hx hb hr hlocks (by decide) (by decide) hP hD hS ⟨by first | (rw [hw0]; done) | (rw [hw0]; rfl), hw2, fun _ => by rw [← hw1]; show (vp_updL o (0 : Int32).toNatClampNeg ((r : Int32).toInt64)) 0 = _; rw [show (0 : Int32).toNatClampNeg = 0 from rfl]; exact pk_uLs⟩ dL_decode_23

set_option maxHeartbeats 4000000 in
set_option maxRecDepth 100000 in
theorem c_L_number (l : Launch) (hlk : l.stackTraces = false) (D : va_G) (aX aP aM aC aT aR : Nat) (cJ : ClassId) (S : XS) (a0 : Int32) (a1 : Int32) (a2 : Int64) (hcode : (f_X6_number S a0 a1 a2).1 = 0 ∨ (f_X6_number S a0 a1 a2).1 = 1 ∨ (f_X6_number S a0 a1 a2).1 = 2) : q_yI l yL_number wsL_number ({ frames := 9, cells := 2, slots := 12, locals := 151 }) D [(cJ, .long)] (wX aX aP aM aC aT aR cJ S) [.ref aX, .int a0, .int a1, .long a2] (fun r u => r = (fun k : Int32 => k) (f_X6_number S a0 a1 a2).1 ∧ u = (f_X6_number S a0 a1 a2).2) (fun u => wX aX aP aM aC aT aR cJ u) 2 12 := by
  refine fun sz => q_x_ofH (cc := cL_number) (maxL := 6) (ret := (some .int)) (hh := [(0, 7, 10, 13), (0, 7, 14, 19)]) (by decide) rfl (Nat.le_of_ble_eq_true rfl) ?_
  intro p e s m below meth c ls hx hb hr hml hown hts hlocks htab hsz hP hK hD hE hZ hN hl
  subst hsz
  generalize hAe : va_A (wX aX aP aM aC aT aR cJ S) s.heap.size = A at hD hZ ⊢
  have hA : ∀ q, s.heap.size ≤ q → A q := fun q h => by rw [← hAe]; exact Or.inr h
  have hS : va_S A s.heap s.heap [] := va_S.rf
  have hown : s.vm.findClass RL = some m.cls := hown
  have hl : lv_has ls 6 [(0, .ref aX), (1, .int a0), (2, .int a1), (3, .long a2)] := hl
  have hfix : CallFix p m c cL_number 6 s [.ref aX, .int a0, .int a1, .long a2].toArray wsL_number RL := ⟨hx, hb, hml, hown, hts⟩
  refine lv_aload_n hx hb dL_number_0 rfl (lv_at hl 0 rfl) ?_
  refine lv_iload_n hx hb dL_number_1 rfl (lv_at hl 1 rfl) ?_
  refine lv_iload_n hx hb dL_number_2 rfl (lv_at hl 2 rfl) ?_
  refine lv_lload_n hx hb dL_number_3 rfl (lv_at hl 3 rfl) ?_
  refine q_xcallVv (As := [.int a0, .int a1, .long a2]) (rest := []) (wr := []) (Wn := (fun u => wX aX aP aM aC aT aR cJ u)) (q0 := 0) (ci := 3) (C := RX6) (c_X6_number l hlk D aX aP aM aC aT aR cJ S a0 a1 a2) hfix (cwV 3 hts gL_number_X6_number rfl rfl rfl (by decide +kernel) ⟨Nat.le_of_ble_eq_true rfl, Nat.le_of_ble_eq_true rfl⟩) rfl hl.1 rfl (Nat.le_of_ble_eq_true rfl) ⟨by decide, by decide⟩ hP hK hD hS hA hE hZ [0, 1, 2, 3, 4, 5] [] [0, 1, 2, 3, 4, 5] [0] rfl rfl rfl (by decide) (by decide) (by decide) (by decide) (fun _ => rfl) (fun _ => rfl) rfl rfl rfl rfl dL_number_4 (fun E ce q9 k u H locs hw hEk hP hD hS hce hcv hcl => ?_) (fun u H locs hw hP hD hS => ?_)
  · obtain ⟨hw0, hw1, hw2⟩ := hw
    rcases hcode with z | z | z
    · exact absurd z hw0
    · have hk : k = 1 := hw1.trans z
      rw [hEk, hk] at hcl
      refine q_catch1 (E := "java/lang/IllegalArgumentException") (name := "java/lang/IllegalArgumentException") hown ⟨0, 7, 10, 13⟩ [⟨0, 7, 14, 19⟩] htab (by decide) (by decide) (hts (.classLink RL 13 "java/lang/IllegalArgumentException") (by decide +kernel)) (q_nw hE (.castable "java/lang/IllegalArgumentException" "java/lang/IllegalArgumentException") (by decide +kernel)) hce hcv hcl ?_
      refine lv_astore (lv' := [(5, .ref q9), (0, .ref aX), (1, .int a0), (2, .int a1), (3, .long a2)]) hx hb dL_number_10 hl (by decide) rfl (fun ls hl => ?_)
      refine lv_iconst (v := 1) hx hb dL_number_12 (by decide) ?_
      exact q_xri (Wf := (fun u => wX aX aP aM aC aT aR cJ u)) u hx hb hr hlocks (by decide) (by decide) hP hD hS ⟨by first | (rw [z]; done) | (rw [z]; rfl), hw2⟩ dL_number_13
    · have hk : k = 2 := hw1.trans z
      rw [hEk, hk] at hcl
      refine q_catch2 (E := "java/lang/IllegalStateException") (name := "java/lang/IllegalStateException") (name1 := "java/lang/IllegalArgumentException") hown ⟨0, 7, 10, 13⟩ ⟨0, 7, 14, 19⟩ [] htab (by decide) (by decide) (by decide) (by decide) (hts (.classLink RL 13 "java/lang/IllegalArgumentException") (by decide +kernel)) hN.1 (hts (.classLink RL 19 "java/lang/IllegalStateException") (by decide +kernel)) (q_nw hE (.castable "java/lang/IllegalStateException" "java/lang/IllegalStateException") (by decide +kernel)) hce hcv hcl ?_
      refine lv_astore (lv' := [(5, .ref q9), (0, .ref aX), (1, .int a0), (2, .int a1), (3, .long a2)]) hx hb dL_number_14 hl (by decide) rfl (fun ls hl => ?_)
      refine lv_iconst (v := 2) hx hb dL_number_16 (by decide) ?_
      exact q_xri (Wf := (fun u => wX aX aP aM aC aT aR cJ u)) u hx hb hr hlocks (by decide) (by decide) hP hD hS ⟨by first | (rw [z]; done) | (rw [z]; rfl), hw2⟩ dL_number_17
  · obtain ⟨hw0, hw2⟩ := hw
    refine lv_goto (tgt := 18) hx hb dL_number_7 (by decide) ?_
    refine lv_iconst (v := 0) hx hb dL_number_18 (by decide) ?_
    exact q_xri (Wf := (fun u => wX aX aP aM aC aT aR cJ u)) u hx hb hr hlocks (by decide) (by decide) hP hD hS ⟨by first | (rw [hw0]; done) | (rw [hw0]; rfl), hw2⟩ dL_number_19

set_option maxHeartbeats 4000000 in
set_option maxRecDepth 100000 in
theorem c_L_address (l : Launch) (hlk : l.stackTraces = false) (D : va_G) (aX aP aM aC aT aR : Nat) (cJ : ClassId) (S : XS) (a0 : Int32) (a1 : Int32) (a2 : Int32) (a3 : Int32) (hcode : (f_X6_address S a0 a1 a2 a3).1 = 0 ∨ (f_X6_address S a0 a1 a2 a3).1 = 1 ∨ (f_X6_address S a0 a1 a2 a3).1 = 2) : q_yI l yL_address wsL_address ({ frames := 9, cells := 2, slots := 12, locals := 153 }) D [(cJ, .long)] (wX aX aP aM aC aT aR cJ S) [.ref aX, .int a0, .int a1, .int a2, .int a3] (fun r u => r = (fun k : Int32 => k) (f_X6_address S a0 a1 a2 a3).1 ∧ u = (f_X6_address S a0 a1 a2 a3).2) (fun u => wX aX aP aM aC aT aR cJ u) 2 12 := by
  refine fun sz => q_x_ofH (cc := cL_address) (maxL := 6) (ret := (some .int)) (hh := [(0, 9, 12, 13), (0, 9, 16, 19)]) (by decide) rfl (Nat.le_of_ble_eq_true rfl) ?_
  intro p e s m below meth c ls hx hb hr hml hown hts hlocks htab hsz hP hK hD hE hZ hN hl
  subst hsz
  generalize hAe : va_A (wX aX aP aM aC aT aR cJ S) s.heap.size = A at hD hZ ⊢
  have hA : ∀ q, s.heap.size ≤ q → A q := fun q h => by rw [← hAe]; exact Or.inr h
  have hS : va_S A s.heap s.heap [] := va_S.rf
  have hown : s.vm.findClass RL = some m.cls := hown
  have hl : lv_has ls 6 [(0, .ref aX), (1, .int a0), (2, .int a1), (3, .int a2), (4, .int a3)] := hl
  have hfix : CallFix p m c cL_address 6 s [.ref aX, .int a0, .int a1, .int a2, .int a3].toArray wsL_address RL := ⟨hx, hb, hml, hown, hts⟩
  refine lv_aload_n hx hb dL_address_0 rfl (lv_at hl 0 rfl) ?_
  refine lv_iload_n hx hb dL_address_1 rfl (lv_at hl 1 rfl) ?_
  refine lv_iload_n hx hb dL_address_2 rfl (lv_at hl 2 rfl) ?_
  refine lv_iload_n hx hb dL_address_3 rfl (lv_at hl 3 rfl) ?_
  refine lv_iload hx hb dL_address_4 (lv_at hl 4 rfl) ?_
  refine q_xcallVv (As := [.int a0, .int a1, .int a2, .int a3]) (rest := []) (wr := []) (Wn := (fun u => wX aX aP aM aC aT aR cJ u)) (q0 := 0) (ci := 3) (C := RX6) (c_X6_address l hlk D aX aP aM aC aT aR cJ S a0 a1 a2 a3) hfix (cwV 4 hts gL_address_X6_address rfl rfl rfl (by decide +kernel) ⟨Nat.le_of_ble_eq_true rfl, Nat.le_of_ble_eq_true rfl⟩) rfl hl.1 rfl (Nat.le_of_ble_eq_true rfl) ⟨by decide, by decide⟩ hP hK hD hS hA hE hZ [0, 1, 2, 3, 4, 5] [] [0, 1, 2, 3, 4, 5] [0] rfl rfl rfl (by decide) (by decide) (by decide) (by decide) (fun _ => rfl) (fun _ => rfl) rfl rfl rfl rfl dL_address_6 (fun E ce q9 k u H locs hw hEk hP hD hS hce hcv hcl => ?_) (fun u H locs hw hP hD hS => ?_)
  · obtain ⟨hw0, hw1, hw2⟩ := hw
    rcases hcode with z | z | z
    · exact absurd z hw0
    · have hk : k = 1 := hw1.trans z
      rw [hEk, hk] at hcl
      refine q_catch1 (E := "java/lang/IllegalArgumentException") (name := "java/lang/IllegalArgumentException") hown ⟨0, 9, 12, 13⟩ [⟨0, 9, 16, 19⟩] htab (by decide) (by decide) (hts (.classLink RL 13 "java/lang/IllegalArgumentException") (by decide +kernel)) (q_nw hE (.castable "java/lang/IllegalArgumentException" "java/lang/IllegalArgumentException") (by decide +kernel)) hce hcv hcl ?_
      refine lv_astore (lv' := [(5, .ref q9), (0, .ref aX), (1, .int a0), (2, .int a1), (3, .int a2), (4, .int a3)]) hx hb dL_address_12 hl (by decide) rfl (fun ls hl => ?_)
      refine lv_iconst (v := 1) hx hb dL_address_14 (by decide) ?_
      exact q_xri (Wf := (fun u => wX aX aP aM aC aT aR cJ u)) u hx hb hr hlocks (by decide) (by decide) hP hD hS ⟨by first | (rw [z]; done) | (rw [z]; rfl), hw2⟩ dL_address_15
    · have hk : k = 2 := hw1.trans z
      rw [hEk, hk] at hcl
      refine q_catch2 (E := "java/lang/IllegalStateException") (name := "java/lang/IllegalStateException") (name1 := "java/lang/IllegalArgumentException") hown ⟨0, 9, 12, 13⟩ ⟨0, 9, 16, 19⟩ [] htab (by decide) (by decide) (by decide) (by decide) (hts (.classLink RL 13 "java/lang/IllegalArgumentException") (by decide +kernel)) hN.1 (hts (.classLink RL 19 "java/lang/IllegalStateException") (by decide +kernel)) (q_nw hE (.castable "java/lang/IllegalStateException" "java/lang/IllegalStateException") (by decide +kernel)) hce hcv hcl ?_
      refine lv_astore (lv' := [(5, .ref q9), (0, .ref aX), (1, .int a0), (2, .int a1), (3, .int a2), (4, .int a3)]) hx hb dL_address_16 hl (by decide) rfl (fun ls hl => ?_)
      refine lv_iconst (v := 2) hx hb dL_address_18 (by decide) ?_
      exact q_xri (Wf := (fun u => wX aX aP aM aC aT aR cJ u)) u hx hb hr hlocks (by decide) (by decide) hP hD hS ⟨by first | (rw [z]; done) | (rw [z]; rfl), hw2⟩ dL_address_19
  · obtain ⟨hw0, hw2⟩ := hw
    refine lv_goto (tgt := 20) hx hb dL_address_9 (by decide) ?_
    refine lv_iconst (v := 0) hx hb dL_address_20 (by decide) ?_
    exact q_xri (Wf := (fun u => wX aX aP aM aC aT aR cJ u)) u hx hb hr hlocks (by decide) (by decide) hP hD hS ⟨by first | (rw [hw0]; done) | (rw [hw0]; rfl), hw2⟩ dL_address_21

set_option maxHeartbeats 4000000 in
set_option maxRecDepth 100000 in
theorem c_L_start (l : Launch) (hlk : l.stackTraces = false) (D : va_G) (aX aP aM aC aT aR : Nat) (cJ : ClassId) (S : XS) (a0 : Int32) (a1 : Int32) (a2 : Int32) (hcode : (f_X6_start S a0 a1 a2).1 = 0 ∨ (f_X6_start S a0 a1 a2).1 = 1) : q_yI l yL_start wsL_start ({ frames := 7, cells := 1, slots := 6, locals := 105 }) D [(cJ, .long)] (wX aX aP aM aC aT aR cJ S) [.ref aX, .int a0, .int a1, .int a2] (fun r u => r = (fun k : Int32 => k) (f_X6_start S a0 a1 a2).1 ∧ u = (f_X6_start S a0 a1 a2).2) (fun u => wX aX aP aM aC aT aR cJ u) 1 6 := by
  refine fun sz => q_x_ofH (cc := cL_start) (maxL := 5) (ret := (some .int)) (hh := [(0, 7, 10, 13)]) (by decide) rfl (Nat.le_of_ble_eq_true rfl) ?_
  intro p e s m below meth c ls hx hb hr hml hown hts hlocks htab hsz hP hK hD hE hZ hN hl
  subst hsz
  generalize hAe : va_A (wX aX aP aM aC aT aR cJ S) s.heap.size = A at hD hZ ⊢
  have hA : ∀ q, s.heap.size ≤ q → A q := fun q h => by rw [← hAe]; exact Or.inr h
  have hS : va_S A s.heap s.heap [] := va_S.rf
  have hown : s.vm.findClass RL = some m.cls := hown
  have hl : lv_has ls 5 [(0, .ref aX), (1, .int a0), (2, .int a1), (3, .int a2)] := hl
  have hfix : CallFix p m c cL_start 5 s [.ref aX, .int a0, .int a1, .int a2].toArray wsL_start RL := ⟨hx, hb, hml, hown, hts⟩
  refine lv_aload_n hx hb dL_start_0 rfl (lv_at hl 0 rfl) ?_
  refine lv_iload_n hx hb dL_start_1 rfl (lv_at hl 1 rfl) ?_
  refine lv_iload_n hx hb dL_start_2 rfl (lv_at hl 2 rfl) ?_
  refine lv_iload_n hx hb dL_start_3 rfl (lv_at hl 3 rfl) ?_
  refine q_xcallVv (As := [.int a0, .int a1, .int a2]) (rest := []) (wr := []) (Wn := (fun u => wX aX aP aM aC aT aR cJ u)) (q0 := 0) (ci := 3) (C := RX6) (c_X6_start l hlk D aX aP aM aC aT aR cJ S a0 a1 a2) hfix (cwV 3 hts gL_start_X6_start rfl rfl rfl (by decide +kernel) ⟨Nat.le_of_ble_eq_true rfl, Nat.le_of_ble_eq_true rfl⟩) rfl hl.1 rfl (Nat.le_of_ble_eq_true rfl) ⟨by decide, by decide⟩ hP hK hD hS hA hE hZ [0, 1, 2, 3, 4, 5] [] [0, 1, 2, 3, 4, 5] [0] rfl rfl rfl (by decide) (by decide) (by decide) (by decide) (fun _ => rfl) (fun _ => rfl) rfl rfl rfl rfl dL_start_4 (fun E ce q9 k u H locs hw hEk hP hD hS hce hcv hcl => ?_) (fun u H locs hw hP hD hS => ?_)
  · obtain ⟨hw0, hw1, hw2⟩ := hw
    rcases hcode with z | z
    · exact absurd z hw0
    · have hk : k = 1 := hw1.trans z
      rw [hEk, hk] at hcl
      refine q_catch1 (E := "java/lang/IllegalArgumentException") (name := "java/lang/IllegalArgumentException") hown ⟨0, 7, 10, 13⟩ [] htab (by decide) (by decide) (hts (.classLink RL 13 "java/lang/IllegalArgumentException") (by decide +kernel)) (q_nw hE (.castable "java/lang/IllegalArgumentException" "java/lang/IllegalArgumentException") (by decide +kernel)) hce hcv hcl ?_
      refine lv_astore (lv' := [(4, .ref q9), (0, .ref aX), (1, .int a0), (2, .int a1), (3, .int a2)]) hx hb dL_start_10 hl (by decide) rfl (fun ls hl => ?_)
      refine lv_iconst (v := 1) hx hb dL_start_12 (by decide) ?_
      exact q_xri (Wf := (fun u => wX aX aP aM aC aT aR cJ u)) u hx hb hr hlocks (by decide) (by decide) hP hD hS ⟨by first | (rw [z]; done) | (rw [z]; rfl), hw2⟩ dL_start_13
  · obtain ⟨hw0, hw2⟩ := hw
    refine lv_goto (tgt := 14) hx hb dL_start_7 (by decide) ?_
    refine lv_iconst (v := 0) hx hb dL_start_14 (by decide) ?_
    exact q_xri (Wf := (fun u => wX aX aP aM aC aT aR cJ u)) u hx hb hr hlocks (by decide) (by decide) hP hD hS ⟨by first | (rw [hw0]; done) | (rw [hw0]; rfl), hw2⟩ dL_start_15

set_option maxHeartbeats 4000000 in
set_option maxRecDepth 100000 in
theorem c_L_run (l : Launch) (hlk : l.stackTraces = false) (D : va_G) (aX aP aM aC aT aR aO : Nat) (cJ : ClassId) (S : XS) (o : Nat → Int64) (a0 : Int32) (h0 : 0 ≤ (pT_length (pX_t S))) (hcode : (f_X6_run S a0).1 = 0 ∨ (f_X6_run S a0).1 = 1) : q_yI l yL_run wsL_run ({ frames := 8, cells := 1, slots := 6, locals := 197 }) D [(cJ, .long)] (wXO aX aP aM aC aT aR aO cJ S o) [.ref aX, .int a0, .ref aO] (fun r u => r = (fun k : Int32 => k) (f_X6_run S a0).1 ∧ u.1 = (f_X6_run S a0).2.2 ∧ ((f_X6_run S a0).1 = 0 → u.2 0 = ((f_X6_run S a0).2.1 : Int32).toInt64)) (fun u : XS × (Nat → Int64) => wXO aX aP aM aC aT aR aO cJ u.1 u.2) 1 6 := by
  refine fun sz => q_x_ofH (cc := cL_run) (maxL := 4) (ret := (some .int)) (hh := [(0, 9, 12, 13)]) (by decide) rfl (Nat.le_of_ble_eq_true rfl) ?_
  intro p e s m below meth c ls hx hb hr hml hown hts hlocks htab hsz hP hK hD hE hZ hN hl
  subst hsz
  generalize hAe : va_A (wXO aX aP aM aC aT aR aO cJ S o) s.heap.size = A at hD hZ ⊢
  have hA : ∀ q, s.heap.size ≤ q → A q := fun q h => by rw [← hAe]; exact Or.inr h
  have hS : va_S A s.heap s.heap [] := va_S.rf
  have hown : s.vm.findClass RL = some m.cls := hown
  have hl : lv_has ls 4 [(0, .ref aX), (1, .int a0), (2, .ref aO)] := hl
  have hfix : CallFix p m c cL_run 4 s [.ref aX, .int a0, .ref aO].toArray wsL_run RL := ⟨hx, hb, hml, hown, hts⟩
  refine lv_aload_n hx hb dL_run_0 rfl (lv_at hl 2 rfl) ?_
  refine lv_iconst (v := 0) hx hb dL_run_1 (by decide) ?_
  refine lv_aload_n hx hb dL_run_2 rfl (lv_at hl 0 rfl) ?_
  refine lv_iload_n hx hb dL_run_3 rfl (lv_at hl 1 rfl) ?_
  refine q_xcallVi (As := [.int a0]) (rest := [.int 0, .ref aO]) (wr := [(aO, .inl (cJ, 1, .inr (.inl o)))]) (Wn := (fun u => wXO aX aP aM aC aT aR aO cJ u o)) (q0 := 0) (ci := 3) (C := RX6) (c_X6_run l hlk D aX aP aM aC aT aR cJ S a0 h0) hfix (cwV 1 hts gL_run_X6_run rfl rfl rfl (by decide +kernel) ⟨Nat.le_of_ble_eq_true rfl, Nat.le_of_ble_eq_true rfl⟩) rfl hl.1 rfl (Nat.le_of_ble_eq_true rfl) ⟨by decide, by decide⟩ hP hK hD hS hA hE hZ [0, 1, 2, 3, 4, 5] [6] [1, 2, 3, 4, 5, 6, 0] [0] rfl rfl rfl (by decide) (by decide) (by decide) (by decide) (fun _ => rfl) (fun _ => rfl) rfl rfl rfl rfl dL_run_4 (fun E ce q9 k u H locs hw hEk hP hD hS hce hcv hcl => ?_) (fun r u H locs hw hP hD hS => ?_)
  · obtain ⟨hw0, hw1, hw2⟩ := hw
    rcases hcode with z | z
    · exact absurd z hw0
    · have hk : k = 1 := hw1.trans z
      rw [hEk, hk] at hcl
      refine q_catch1 (E := "java/lang/IllegalArgumentException") (name := "java/lang/IllegalArgumentException") hown ⟨0, 9, 12, 13⟩ [] htab (by decide) (by decide) (hts (.classLink RL 13 "java/lang/IllegalArgumentException") (by decide +kernel)) (q_nw hE (.castable "java/lang/IllegalArgumentException" "java/lang/IllegalArgumentException") (by decide +kernel)) hce hcv hcl ?_
      refine lv_astore_n (lv' := [(3, .ref q9), (0, .ref aX), (1, .int a0), (2, .ref aO)]) hx hb dL_run_12 rfl hl (by decide) rfl (fun ls hl => ?_)
      refine lv_iconst (v := 1) hx hb dL_run_13 (by decide) ?_
      exact q_xri (Wf := (fun u : XS × (Nat → Int64) => wXO aX aP aM aC aT aR aO cJ u.1 u.2)) (u, o) hx hb hr hlocks (by decide) (by decide) hP hD hS ⟨by first | (rw [z]; done) | (rw [z]; rfl), hw2, fun z9 => absurd z9 hw0⟩ dL_run_14
  · obtain ⟨hw0, hw1, hw2⟩ := hw
    refine lv_i2l hx hb dL_run_7 rfl ?_
    refine va_last hx hb hK hP hD hS 6 0 rfl rfl (q_vi (by decide)) dL_run_8 (fun H locs hP hD hS => ?_)
    have hP : va_P D vwCl (wXO aX aP aM aC aT aR aO cJ u (vp_updL o (0 : Int32).toNatClampNeg ((r : Int32).toInt64))) H := hP
    have hD : va_D A (wXO aX aP aM aC aT aR aO cJ u (vp_updL o (0 : Int32).toNatClampNeg ((r : Int32).toInt64))) := hD
    refine lv_goto (tgt := 15) hx hb dL_run_9 (by decide) ?_
    refine lv_iconst (v := 0) hx hb dL_run_15 (by decide) ?_
    exact q_xri (Wf := (fun u : XS × (Nat → Int64) => wXO aX aP aM aC aT aR aO cJ u.1 u.2)) (u, (vp_updL o (0 : Int32).toNatClampNeg ((r : Int32).toInt64))) hx hb hr hlocks (by decide) (by decide) hP hD hS ⟨by first | (rw [hw0]; done) | (rw [hw0]; rfl), hw2, fun _ => by rw [← hw1]; show (vp_updL o (0 : Int32).toNatClampNeg ((r : Int32).toInt64)) 0 = _; rw [show (0 : Int32).toNatClampNeg = 0 from rfl]; exact pk_uLs⟩ dL_run_16

set_option maxHeartbeats 4000000 in
set_option maxRecDepth 100000 in
theorem c_L_register (l : Launch) (hlk : l.stackTraces = false) (D : va_G) (aX aP aM aC aT aR aO : Nat) (cJ : ClassId) (S : XS) (o : Nat → Int64) (a0 : Int32) (a1 : Int32) (hcode : (f_X6_register S a0 a1).1 = 0 ∨ (f_X6_register S a0 a1).1 = 1) : q_yI l yL_register wsL_register ({ frames := 8, cells := 1, slots := 6, locals := 126 }) D [(cJ, .long)] (wXO aX aP aM aC aT aR aO cJ S o) [.ref aX, .int a0, .int a1, .ref aO] (fun r u => r = (fun k : Int32 => k) (f_X6_register S a0 a1).1 ∧ u.1 = (f_X6_register S a0 a1).2.2 ∧ ((f_X6_register S a0 a1).1 = 0 → u.2 0 = ((f_X6_register S a0 a1).2.1 : Int32).toInt64)) (fun u : XS × (Nat → Int64) => wXO aX aP aM aC aT aR aO cJ u.1 u.2) 1 6 := by
  refine fun sz => q_x_ofH (cc := cL_register) (maxL := 5) (ret := (some .int)) (hh := [(0, 10, 13, 13)]) (by decide) rfl (Nat.le_of_ble_eq_true rfl) ?_
  intro p e s m below meth c ls hx hb hr hml hown hts hlocks htab hsz hP hK hD hE hZ hN hl
  subst hsz
  generalize hAe : va_A (wXO aX aP aM aC aT aR aO cJ S o) s.heap.size = A at hD hZ ⊢
  have hA : ∀ q, s.heap.size ≤ q → A q := fun q h => by rw [← hAe]; exact Or.inr h
  have hS : va_S A s.heap s.heap [] := va_S.rf
  have hown : s.vm.findClass RL = some m.cls := hown
  have hl : lv_has ls 5 [(0, .ref aX), (1, .int a0), (2, .int a1), (3, .ref aO)] := hl
  have hfix : CallFix p m c cL_register 5 s [.ref aX, .int a0, .int a1, .ref aO].toArray wsL_register RL := ⟨hx, hb, hml, hown, hts⟩
  refine lv_aload_n hx hb dL_register_0 rfl (lv_at hl 3 rfl) ?_
  refine lv_iconst (v := 0) hx hb dL_register_1 (by decide) ?_
  refine lv_aload_n hx hb dL_register_2 rfl (lv_at hl 0 rfl) ?_
  refine lv_iload_n hx hb dL_register_3 rfl (lv_at hl 1 rfl) ?_
  refine lv_iload_n hx hb dL_register_4 rfl (lv_at hl 2 rfl) ?_
  refine q_xcallVi (As := [.int a0, .int a1]) (rest := [.int 0, .ref aO]) (wr := [(aO, .inl (cJ, 1, .inr (.inl o)))]) (Wn := (fun u => wXO aX aP aM aC aT aR aO cJ u o)) (q0 := 0) (ci := 3) (C := RX6) (c_X6_register l hlk D aX aP aM aC aT aR cJ S a0 a1) hfix (cwV 2 hts gL_register_X6_register rfl rfl rfl (by decide +kernel) ⟨Nat.le_of_ble_eq_true rfl, Nat.le_of_ble_eq_true rfl⟩) rfl hl.1 rfl (Nat.le_of_ble_eq_true rfl) ⟨by decide, by decide⟩ hP hK hD hS hA hE hZ [0, 1, 2, 3, 4, 5] [6] [1, 2, 3, 4, 5, 6, 0] [0] rfl rfl rfl (by decide) (by decide) (by decide) (by decide) (fun _ => rfl) (fun _ => rfl) rfl rfl rfl rfl dL_register_5 (fun E ce q9 k u H locs hw hEk hP hD hS hce hcv hcl => ?_) (fun r u H locs hw hP hD hS => ?_)
  · obtain ⟨hw0, hw1, hw2⟩ := hw
    rcases hcode with z | z
    · exact absurd z hw0
    · have hk : k = 1 := hw1.trans z
      rw [hEk, hk] at hcl
      refine q_catch1 (E := "java/lang/IllegalArgumentException") (name := "java/lang/IllegalArgumentException") hown ⟨0, 10, 13, 13⟩ [] htab (by decide) (by decide) (hts (.classLink RL 13 "java/lang/IllegalArgumentException") (by decide +kernel)) (q_nw hE (.castable "java/lang/IllegalArgumentException" "java/lang/IllegalArgumentException") (by decide +kernel)) hce hcv hcl ?_
      refine lv_astore (lv' := [(4, .ref q9), (0, .ref aX), (1, .int a0), (2, .int a1), (3, .ref aO)]) hx hb dL_register_13 hl (by decide) rfl (fun ls hl => ?_)
      refine lv_iconst (v := 1) hx hb dL_register_15 (by decide) ?_
      exact q_xri (Wf := (fun u : XS × (Nat → Int64) => wXO aX aP aM aC aT aR aO cJ u.1 u.2)) (u, o) hx hb hr hlocks (by decide) (by decide) hP hD hS ⟨by first | (rw [z]; done) | (rw [z]; rfl), hw2, fun z9 => absurd z9 hw0⟩ dL_register_16
  · obtain ⟨hw0, hw1, hw2⟩ := hw
    refine lv_i2l hx hb dL_register_8 rfl ?_
    refine va_last hx hb hK hP hD hS 6 0 rfl rfl (q_vi (by decide)) dL_register_9 (fun H locs hP hD hS => ?_)
    have hP : va_P D vwCl (wXO aX aP aM aC aT aR aO cJ u (vp_updL o (0 : Int32).toNatClampNeg ((r : Int32).toInt64))) H := hP
    have hD : va_D A (wXO aX aP aM aC aT aR aO cJ u (vp_updL o (0 : Int32).toNatClampNeg ((r : Int32).toInt64))) := hD
    refine lv_goto (tgt := 17) hx hb dL_register_10 (by decide) ?_
    refine lv_iconst (v := 0) hx hb dL_register_17 (by decide) ?_
    exact q_xri (Wf := (fun u : XS × (Nat → Int64) => wXO aX aP aM aC aT aR aO cJ u.1 u.2)) (u, (vp_updL o (0 : Int32).toNatClampNeg ((r : Int32).toInt64))) hx hb hr hlocks (by decide) (by decide) hP hD hS ⟨by first | (rw [hw0]; done) | (rw [hw0]; rfl), hw2, fun _ => by rw [← hw1]; show (vp_updL o (0 : Int32).toNatClampNeg ((r : Int32).toInt64)) 0 = _; rw [show (0 : Int32).toNatClampNeg = 0 from rfl]; exact pk_uLs⟩ dL_register_18

set_option maxHeartbeats 4000000 in
set_option maxRecDepth 100000 in
theorem c_L_segment (l : Launch) (hlk : l.stackTraces = false) (D : va_G) (aX aP aM aC aT aR aO : Nat) (cJ : ClassId) (S : XS) (o : Nat → Int64) (a0 : Int32) (a1 : Int32) (hcode : (f_X6_segment S a0 a1).1 = 0 ∨ (f_X6_segment S a0 a1).1 = 1 ∨ (f_X6_segment S a0 a1).1 = 3) : q_yI l yL_segment wsL_segment ({ frames := 9, cells := 2, slots := 12, locals := 151 }) D [(cJ, .long)] (wXO aX aP aM aC aT aR aO cJ S o) [.ref aX, .int a0, .int a1, .ref aO] (fun r u => r = cd3 (f_X6_segment S a0 a1).1 ∧ u.1 = (f_X6_segment S a0 a1).2.2 ∧ ((f_X6_segment S a0 a1).1 = 0 → u.2 0 = ((f_X6_segment S a0 a1).2.1 : Int32).toInt64)) (fun u : XS × (Nat → Int64) => wXO aX aP aM aC aT aR aO cJ u.1 u.2) 2 12 := by
  refine fun sz => q_x_ofH (cc := cL_segment) (maxL := 5) (ret := (some .int)) (hh := [(0, 10, 13, 13), (0, 10, 17, 45)]) (by decide) rfl (Nat.le_of_ble_eq_true rfl) ?_
  intro p e s m below meth c ls hx hb hr hml hown hts hlocks htab hsz hP hK hD hE hZ hN hl
  subst hsz
  generalize hAe : va_A (wXO aX aP aM aC aT aR aO cJ S o) s.heap.size = A at hD hZ ⊢
  have hA : ∀ q, s.heap.size ≤ q → A q := fun q h => by rw [← hAe]; exact Or.inr h
  have hS : va_S A s.heap s.heap [] := va_S.rf
  have hown : s.vm.findClass RL = some m.cls := hown
  have hl : lv_has ls 5 [(0, .ref aX), (1, .int a0), (2, .int a1), (3, .ref aO)] := hl
  have hfix : CallFix p m c cL_segment 5 s [.ref aX, .int a0, .int a1, .ref aO].toArray wsL_segment RL := ⟨hx, hb, hml, hown, hts⟩
  refine lv_aload_n hx hb dL_segment_0 rfl (lv_at hl 3 rfl) ?_
  refine lv_iconst (v := 0) hx hb dL_segment_1 (by decide) ?_
  refine lv_aload_n hx hb dL_segment_2 rfl (lv_at hl 0 rfl) ?_
  refine lv_iload_n hx hb dL_segment_3 rfl (lv_at hl 1 rfl) ?_
  refine lv_iload_n hx hb dL_segment_4 rfl (lv_at hl 2 rfl) ?_
  refine q_xcallVi (As := [.int a0, .int a1]) (rest := [.int 0, .ref aO]) (wr := [(aO, .inl (cJ, 1, .inr (.inl o)))]) (Wn := (fun u => wXO aX aP aM aC aT aR aO cJ u o)) (q0 := 0) (ci := 3) (C := RX6) (c_X6_segment l hlk D aX aP aM aC aT aR cJ S a0 a1) hfix (cwV 2 hts gL_segment_X6_segment rfl rfl rfl (by decide +kernel) ⟨Nat.le_of_ble_eq_true rfl, Nat.le_of_ble_eq_true rfl⟩) rfl hl.1 rfl (Nat.le_of_ble_eq_true rfl) ⟨by decide, by decide⟩ hP hK hD hS hA hE hZ [0, 1, 2, 3, 4, 5] [6] [1, 2, 3, 4, 5, 6, 0] [0] rfl rfl rfl (by decide) (by decide) (by decide) (by decide) (fun _ => rfl) (fun _ => rfl) rfl rfl rfl rfl dL_segment_5 (fun E ce q9 k u H locs hw hEk hP hD hS hce hcv hcl => ?_) (fun r u H locs hw hP hD hS => ?_)
  · obtain ⟨hw0, hw1, hw2⟩ := hw
    rcases hcode with z | z | z
    · exact absurd z hw0
    · have hk : k = 1 := hw1.trans z
      rw [hEk, hk] at hcl
      refine q_catch1 (E := "java/lang/IllegalArgumentException") (name := "java/lang/IllegalArgumentException") hown ⟨0, 10, 13, 13⟩ [⟨0, 10, 17, 45⟩] htab (by decide) (by decide) (hts (.classLink RL 13 "java/lang/IllegalArgumentException") (by decide +kernel)) (q_nw hE (.castable "java/lang/IllegalArgumentException" "java/lang/IllegalArgumentException") (by decide +kernel)) hce hcv hcl ?_
      refine lv_astore (lv' := [(4, .ref q9), (0, .ref aX), (1, .int a0), (2, .int a1), (3, .ref aO)]) hx hb dL_segment_13 hl (by decide) rfl (fun ls hl => ?_)
      refine lv_iconst (v := 1) hx hb dL_segment_15 (by decide) ?_
      exact q_xri (Wf := (fun u : XS × (Nat → Int64) => wXO aX aP aM aC aT aR aO cJ u.1 u.2)) (u, o) hx hb hr hlocks (by decide) (by decide) hP hD hS ⟨by first | (rw [z]; done) | (rw [z]; rfl), hw2, fun z9 => absurd z9 hw0⟩ dL_segment_16
    · have hk : k = 3 := hw1.trans z
      rw [hEk, hk] at hcl
      refine q_catch2 (E := "java/util/NoSuchElementException") (name := "java/util/NoSuchElementException") (name1 := "java/lang/IllegalArgumentException") hown ⟨0, 10, 13, 13⟩ ⟨0, 10, 17, 45⟩ [] htab (by decide) (by decide) (by decide) (by decide) (hts (.classLink RL 13 "java/lang/IllegalArgumentException") (by decide +kernel)) hN.2.1 (hts (.classLink RL 45 "java/util/NoSuchElementException") (by decide +kernel)) (q_nw hE (.castable "java/util/NoSuchElementException" "java/util/NoSuchElementException") (by decide +kernel)) hce hcv hcl ?_
      refine lv_astore (lv' := [(4, .ref q9), (0, .ref aX), (1, .int a0), (2, .int a1), (3, .ref aO)]) hx hb dL_segment_17 hl (by decide) rfl (fun ls hl => ?_)
      refine lv_iconst (v := 2) hx hb dL_segment_19 (by decide) ?_
      exact q_xri (Wf := (fun u : XS × (Nat → Int64) => wXO aX aP aM aC aT aR aO cJ u.1 u.2)) (u, o) hx hb hr hlocks (by decide) (by decide) hP hD hS ⟨by first | (rw [z]; done) | (rw [z]; rfl), hw2, fun z9 => absurd z9 hw0⟩ dL_segment_20
  · obtain ⟨hw0, hw1, hw2⟩ := hw
    refine lv_i2l hx hb dL_segment_8 rfl ?_
    refine va_last hx hb hK hP hD hS 6 0 rfl rfl (q_vi (by decide)) dL_segment_9 (fun H locs hP hD hS => ?_)
    have hP : va_P D vwCl (wXO aX aP aM aC aT aR aO cJ u (vp_updL o (0 : Int32).toNatClampNeg ((r : Int32).toInt64))) H := hP
    have hD : va_D A (wXO aX aP aM aC aT aR aO cJ u (vp_updL o (0 : Int32).toNatClampNeg ((r : Int32).toInt64))) := hD
    refine lv_goto (tgt := 21) hx hb dL_segment_10 (by decide) ?_
    refine lv_iconst (v := 0) hx hb dL_segment_21 (by decide) ?_
    exact q_xri (Wf := (fun u : XS × (Nat → Int64) => wXO aX aP aM aC aT aR aO cJ u.1 u.2)) (u, (vp_updL o (0 : Int32).toNatClampNeg ((r : Int32).toInt64))) hx hb hr hlocks (by decide) (by decide) hP hD hS ⟨by first | (rw [hw0]; done) | (rw [hw0]; rfl), hw2, fun _ => by rw [← hw1]; show (vp_updL o (0 : Int32).toNatClampNeg ((r : Int32).toInt64)) 0 = _; rw [show (0 : Int32).toNatClampNeg = 0 from rfl]; exact pk_uLs⟩ dL_segment_22

set_option maxHeartbeats 4000000 in
set_option maxRecDepth 100000 in
theorem c_L_value (l : Launch) (hlk : l.stackTraces = false) (D : va_G) (aX aP aM aC aT aR aO : Nat) (cJ : ClassId) (S : XS) (o : Nat → Int64) (a0 : Int32) (a1 : Int32) (hcode : (f_X6_value S a0 a1).1 = 0 ∨ (f_X6_value S a0 a1).1 = 1 ∨ (f_X6_value S a0 a1).1 = 3) : q_yI l yL_value wsL_value ({ frames := 9, cells := 2, slots := 12, locals := 151 }) D [(cJ, .long)] (wXO aX aP aM aC aT aR aO cJ S o) [.ref aX, .int a0, .int a1, .ref aO] (fun r u => r = cd3 (f_X6_value S a0 a1).1 ∧ u.1 = (f_X6_value S a0 a1).2.2 ∧ ((f_X6_value S a0 a1).1 = 0 → u.2 0 = (f_X6_value S a0 a1).2.1)) (fun u : XS × (Nat → Int64) => wXO aX aP aM aC aT aR aO cJ u.1 u.2) 2 12 := by
  refine fun sz => q_x_ofH (cc := cL_value) (maxL := 5) (ret := (some .int)) (hh := [(0, 9, 12, 13), (0, 9, 16, 45)]) (by decide) rfl (Nat.le_of_ble_eq_true rfl) ?_
  intro p e s m below meth c ls hx hb hr hml hown hts hlocks htab hsz hP hK hD hE hZ hN hl
  subst hsz
  generalize hAe : va_A (wXO aX aP aM aC aT aR aO cJ S o) s.heap.size = A at hD hZ ⊢
  have hA : ∀ q, s.heap.size ≤ q → A q := fun q h => by rw [← hAe]; exact Or.inr h
  have hS : va_S A s.heap s.heap [] := va_S.rf
  have hown : s.vm.findClass RL = some m.cls := hown
  have hl : lv_has ls 5 [(0, .ref aX), (1, .int a0), (2, .int a1), (3, .ref aO)] := hl
  have hfix : CallFix p m c cL_value 5 s [.ref aX, .int a0, .int a1, .ref aO].toArray wsL_value RL := ⟨hx, hb, hml, hown, hts⟩
  refine lv_aload_n hx hb dL_value_0 rfl (lv_at hl 3 rfl) ?_
  refine lv_iconst (v := 0) hx hb dL_value_1 (by decide) ?_
  refine lv_aload_n hx hb dL_value_2 rfl (lv_at hl 0 rfl) ?_
  refine lv_iload_n hx hb dL_value_3 rfl (lv_at hl 1 rfl) ?_
  refine lv_iload_n hx hb dL_value_4 rfl (lv_at hl 2 rfl) ?_
  refine q_xcallVl (As := [.int a0, .int a1]) (rest := [.int 0, .ref aO]) (wr := [(aO, .inl (cJ, 1, .inr (.inl o)))]) (Wn := (fun u => wXO aX aP aM aC aT aR aO cJ u o)) (q0 := 0) (ci := 3) (C := RX6) (c_X6_value l hlk D aX aP aM aC aT aR cJ S a0 a1) hfix (cwV 2 hts gL_value_X6_value rfl rfl rfl (by decide +kernel) ⟨Nat.le_of_ble_eq_true rfl, Nat.le_of_ble_eq_true rfl⟩) rfl hl.1 rfl (Nat.le_of_ble_eq_true rfl) ⟨by decide, by decide⟩ hP hK hD hS hA hE hZ [0, 1, 2, 3, 4, 5] [6] [1, 2, 3, 4, 5, 6, 0] [0] rfl rfl rfl (by decide) (by decide) (by decide) (by decide) (fun _ => rfl) (fun _ => rfl) rfl rfl rfl rfl dL_value_5 (fun E ce q9 k u H locs hw hEk hP hD hS hce hcv hcl => ?_) (fun r u H locs hw hP hD hS => ?_)
  · obtain ⟨hw0, hw1, hw2⟩ := hw
    rcases hcode with z | z | z
    · exact absurd z hw0
    · have hk : k = 1 := hw1.trans z
      rw [hEk, hk] at hcl
      refine q_catch1 (E := "java/lang/IllegalArgumentException") (name := "java/lang/IllegalArgumentException") hown ⟨0, 9, 12, 13⟩ [⟨0, 9, 16, 45⟩] htab (by decide) (by decide) (hts (.classLink RL 13 "java/lang/IllegalArgumentException") (by decide +kernel)) (q_nw hE (.castable "java/lang/IllegalArgumentException" "java/lang/IllegalArgumentException") (by decide +kernel)) hce hcv hcl ?_
      refine lv_astore (lv' := [(4, .ref q9), (0, .ref aX), (1, .int a0), (2, .int a1), (3, .ref aO)]) hx hb dL_value_12 hl (by decide) rfl (fun ls hl => ?_)
      refine lv_iconst (v := 1) hx hb dL_value_14 (by decide) ?_
      exact q_xri (Wf := (fun u : XS × (Nat → Int64) => wXO aX aP aM aC aT aR aO cJ u.1 u.2)) (u, o) hx hb hr hlocks (by decide) (by decide) hP hD hS ⟨by first | (rw [z]; done) | (rw [z]; rfl), hw2, fun z9 => absurd z9 hw0⟩ dL_value_15
    · have hk : k = 3 := hw1.trans z
      rw [hEk, hk] at hcl
      refine q_catch2 (E := "java/util/NoSuchElementException") (name := "java/util/NoSuchElementException") (name1 := "java/lang/IllegalArgumentException") hown ⟨0, 9, 12, 13⟩ ⟨0, 9, 16, 45⟩ [] htab (by decide) (by decide) (by decide) (by decide) (hts (.classLink RL 13 "java/lang/IllegalArgumentException") (by decide +kernel)) hN.2.1 (hts (.classLink RL 45 "java/util/NoSuchElementException") (by decide +kernel)) (q_nw hE (.castable "java/util/NoSuchElementException" "java/util/NoSuchElementException") (by decide +kernel)) hce hcv hcl ?_
      refine lv_astore (lv' := [(4, .ref q9), (0, .ref aX), (1, .int a0), (2, .int a1), (3, .ref aO)]) hx hb dL_value_16 hl (by decide) rfl (fun ls hl => ?_)
      refine lv_iconst (v := 2) hx hb dL_value_18 (by decide) ?_
      exact q_xri (Wf := (fun u : XS × (Nat → Int64) => wXO aX aP aM aC aT aR aO cJ u.1 u.2)) (u, o) hx hb hr hlocks (by decide) (by decide) hP hD hS ⟨by first | (rw [z]; done) | (rw [z]; rfl), hw2, fun z9 => absurd z9 hw0⟩ dL_value_19
  · obtain ⟨hw0, hw1, hw2⟩ := hw
    refine va_last hx hb hK hP hD hS 6 0 rfl rfl (q_vi (by decide)) dL_value_8 (fun H locs hP hD hS => ?_)
    have hP : va_P D vwCl (wXO aX aP aM aC aT aR aO cJ u (vp_updL o (0 : Int32).toNatClampNeg r)) H := hP
    have hD : va_D A (wXO aX aP aM aC aT aR aO cJ u (vp_updL o (0 : Int32).toNatClampNeg r)) := hD
    refine lv_goto (tgt := 20) hx hb dL_value_9 (by decide) ?_
    refine lv_iconst (v := 0) hx hb dL_value_20 (by decide) ?_
    exact q_xri (Wf := (fun u : XS × (Nat → Int64) => wXO aX aP aM aC aT aR aO cJ u.1 u.2)) (u, (vp_updL o (0 : Int32).toNatClampNeg r)) hx hb hr hlocks (by decide) (by decide) hP hD hS ⟨by first | (rw [hw0]; done) | (rw [hw0]; rfl), hw2, fun _ => by rw [← hw1]; show (vp_updL o (0 : Int32).toNatClampNeg r) 0 = _; rw [show (0 : Int32).toNatClampNeg = 0 from rfl]; exact pk_uLs⟩ dL_value_21

set_option maxHeartbeats 4000000 in
set_option maxRecDepth 100000 in
theorem c_L_traced (l : Launch) (hlk : l.stackTraces = false) (D : va_G) (aX aP aM aC aT aR aO : Nat) (cJ : ClassId) (S : XS) (o : Nat → Int64) (a0 : Int32) (a1 : Int32) (hn : (pT_length (pX_t S)) ≤ 64) (hcode : (f_X6_traced S a0 a1).1 = 0 ∨ (f_X6_traced S a0 a1).1 = 1 ∨ (f_X6_traced S a0 a1).1 = 3) : q_yI l yL_traced wsL_traced ({ frames := 8, cells := 2, slots := 12, locals := 132 }) D [(cJ, .long)] (wXO aX aP aM aC aT aR aO cJ S o) [.ref aX, .int a0, .int a1, .ref aO] (fun r u => r = cd3 (f_X6_traced S a0 a1).1 ∧ u.1 = (f_X6_traced S a0 a1).2.2 ∧ ((f_X6_traced S a0 a1).1 = 0 → u.2 0 = (f_X6_traced S a0 a1).2.1)) (fun u : XS × (Nat → Int64) => wXO aX aP aM aC aT aR aO cJ u.1 u.2) 2 12 := by
  refine fun sz => q_x_ofH (cc := cL_traced) (maxL := 5) (ret := (some .int)) (hh := [(0, 9, 12, 13), (0, 9, 16, 45)]) (by decide) rfl (Nat.le_of_ble_eq_true rfl) ?_
  intro p e s m below meth c ls hx hb hr hml hown hts hlocks htab hsz hP hK hD hE hZ hN hl
  subst hsz
  generalize hAe : va_A (wXO aX aP aM aC aT aR aO cJ S o) s.heap.size = A at hD hZ ⊢
  have hA : ∀ q, s.heap.size ≤ q → A q := fun q h => by rw [← hAe]; exact Or.inr h
  have hS : va_S A s.heap s.heap [] := va_S.rf
  have hown : s.vm.findClass RL = some m.cls := hown
  have hl : lv_has ls 5 [(0, .ref aX), (1, .int a0), (2, .int a1), (3, .ref aO)] := hl
  have hfix : CallFix p m c cL_traced 5 s [.ref aX, .int a0, .int a1, .ref aO].toArray wsL_traced RL := ⟨hx, hb, hml, hown, hts⟩
  refine lv_aload_n hx hb dL_traced_0 rfl (lv_at hl 3 rfl) ?_
  refine lv_iconst (v := 0) hx hb dL_traced_1 (by decide) ?_
  refine lv_aload_n hx hb dL_traced_2 rfl (lv_at hl 0 rfl) ?_
  refine lv_iload_n hx hb dL_traced_3 rfl (lv_at hl 1 rfl) ?_
  refine lv_iload_n hx hb dL_traced_4 rfl (lv_at hl 2 rfl) ?_
  refine q_xcallVl (As := [.int a0, .int a1]) (rest := [.int 0, .ref aO]) (wr := [(aO, .inl (cJ, 1, .inr (.inl o)))]) (Wn := (fun u => wXO aX aP aM aC aT aR aO cJ u o)) (q0 := 0) (ci := 3) (C := RX6) (c_X6_traced l hlk D aX aP aM aC aT aR cJ S a0 a1 hn) hfix (cwV 2 hts gL_traced_X6_traced rfl rfl rfl (by decide +kernel) ⟨Nat.le_of_ble_eq_true rfl, Nat.le_of_ble_eq_true rfl⟩) rfl hl.1 rfl (Nat.le_of_ble_eq_true rfl) ⟨by decide, by decide⟩ hP hK hD hS hA hE hZ [0, 1, 2, 3, 4, 5] [6] [1, 2, 3, 4, 5, 6, 0] [0] rfl rfl rfl (by decide) (by decide) (by decide) (by decide) (fun _ => rfl) (fun _ => rfl) rfl rfl rfl rfl dL_traced_5 (fun E ce q9 k u H locs hw hEk hP hD hS hce hcv hcl => ?_) (fun r u H locs hw hP hD hS => ?_)
  · obtain ⟨hw0, hw1, hw2⟩ := hw
    rcases hcode with z | z | z
    · exact absurd z hw0
    · have hk : k = 1 := hw1.trans z
      rw [hEk, hk] at hcl
      refine q_catch1 (E := "java/lang/IllegalArgumentException") (name := "java/lang/IllegalArgumentException") hown ⟨0, 9, 12, 13⟩ [⟨0, 9, 16, 45⟩] htab (by decide) (by decide) (hts (.classLink RL 13 "java/lang/IllegalArgumentException") (by decide +kernel)) (q_nw hE (.castable "java/lang/IllegalArgumentException" "java/lang/IllegalArgumentException") (by decide +kernel)) hce hcv hcl ?_
      refine lv_astore (lv' := [(4, .ref q9), (0, .ref aX), (1, .int a0), (2, .int a1), (3, .ref aO)]) hx hb dL_traced_12 hl (by decide) rfl (fun ls hl => ?_)
      refine lv_iconst (v := 1) hx hb dL_traced_14 (by decide) ?_
      exact q_xri (Wf := (fun u : XS × (Nat → Int64) => wXO aX aP aM aC aT aR aO cJ u.1 u.2)) (u, o) hx hb hr hlocks (by decide) (by decide) hP hD hS ⟨by first | (rw [z]; done) | (rw [z]; rfl), hw2, fun z9 => absurd z9 hw0⟩ dL_traced_15
    · have hk : k = 3 := hw1.trans z
      rw [hEk, hk] at hcl
      refine q_catch2 (E := "java/util/NoSuchElementException") (name := "java/util/NoSuchElementException") (name1 := "java/lang/IllegalArgumentException") hown ⟨0, 9, 12, 13⟩ ⟨0, 9, 16, 45⟩ [] htab (by decide) (by decide) (by decide) (by decide) (hts (.classLink RL 13 "java/lang/IllegalArgumentException") (by decide +kernel)) hN.2.1 (hts (.classLink RL 45 "java/util/NoSuchElementException") (by decide +kernel)) (q_nw hE (.castable "java/util/NoSuchElementException" "java/util/NoSuchElementException") (by decide +kernel)) hce hcv hcl ?_
      refine lv_astore (lv' := [(4, .ref q9), (0, .ref aX), (1, .int a0), (2, .int a1), (3, .ref aO)]) hx hb dL_traced_16 hl (by decide) rfl (fun ls hl => ?_)
      refine lv_iconst (v := 2) hx hb dL_traced_18 (by decide) ?_
      exact q_xri (Wf := (fun u : XS × (Nat → Int64) => wXO aX aP aM aC aT aR aO cJ u.1 u.2)) (u, o) hx hb hr hlocks (by decide) (by decide) hP hD hS ⟨by first | (rw [z]; done) | (rw [z]; rfl), hw2, fun z9 => absurd z9 hw0⟩ dL_traced_19
  · obtain ⟨hw0, hw1, hw2⟩ := hw
    refine va_last hx hb hK hP hD hS 6 0 rfl rfl (q_vi (by decide)) dL_traced_8 (fun H locs hP hD hS => ?_)
    have hP : va_P D vwCl (wXO aX aP aM aC aT aR aO cJ u (vp_updL o (0 : Int32).toNatClampNeg r)) H := hP
    have hD : va_D A (wXO aX aP aM aC aT aR aO cJ u (vp_updL o (0 : Int32).toNatClampNeg r)) := hD
    refine lv_goto (tgt := 20) hx hb dL_traced_9 (by decide) ?_
    refine lv_iconst (v := 0) hx hb dL_traced_20 (by decide) ?_
    exact q_xri (Wf := (fun u : XS × (Nat → Int64) => wXO aX aP aM aC aT aR aO cJ u.1 u.2)) (u, (vp_updL o (0 : Int32).toNatClampNeg r)) hx hb hr hlocks (by decide) (by decide) hP hD hS ⟨by first | (rw [hw0]; done) | (rw [hw0]; rfl), hw2, fun _ => by rw [← hw1]; show (vp_updL o (0 : Int32).toNatClampNeg r) 0 = _; rw [show (0 : Int32).toNatClampNeg = 0 from rfl]; exact pk_uLs⟩ dL_traced_21

set_option maxHeartbeats 4000000 in
set_option maxRecDepth 100000 in
theorem c_L_begins (l : Launch) (hlk : l.stackTraces = false) (D : va_G) (aX aP aM aC aT aR aO : Nat) (cJ : ClassId) (S : XS) (o : Nat → Int64) (a0 : Int32) (hcode : (f_X6_begins S a0).1 = 0 ∨ (f_X6_begins S a0).1 = 1) : q_yI l yL_begins wsL_begins ({ frames := 7, cells := 1, slots := 6, locals := 109 }) D [(cJ, .long)] (wXO aX aP aM aC aT aR aO cJ S o) [.ref aX, .int a0, .ref aO] (fun r u => r = (fun k : Int32 => k) (f_X6_begins S a0).1 ∧ u.1 = (f_X6_begins S a0).2.2 ∧ ((f_X6_begins S a0).1 = 0 → u.2 0 = ((f_X6_begins S a0).2.1 : Int32).toInt64)) (fun u : XS × (Nat → Int64) => wXO aX aP aM aC aT aR aO cJ u.1 u.2) 1 6 := by
  refine fun sz => q_x_ofH (cc := cL_begins) (maxL := 4) (ret := (some .int)) (hh := [(0, 9, 12, 13)]) (by decide) rfl (Nat.le_of_ble_eq_true rfl) ?_
  intro p e s m below meth c ls hx hb hr hml hown hts hlocks htab hsz hP hK hD hE hZ hN hl
  subst hsz
  generalize hAe : va_A (wXO aX aP aM aC aT aR aO cJ S o) s.heap.size = A at hD hZ ⊢
  have hA : ∀ q, s.heap.size ≤ q → A q := fun q h => by rw [← hAe]; exact Or.inr h
  have hS : va_S A s.heap s.heap [] := va_S.rf
  have hown : s.vm.findClass RL = some m.cls := hown
  have hl : lv_has ls 4 [(0, .ref aX), (1, .int a0), (2, .ref aO)] := hl
  have hfix : CallFix p m c cL_begins 4 s [.ref aX, .int a0, .ref aO].toArray wsL_begins RL := ⟨hx, hb, hml, hown, hts⟩
  refine lv_aload_n hx hb dL_begins_0 rfl (lv_at hl 2 rfl) ?_
  refine lv_iconst (v := 0) hx hb dL_begins_1 (by decide) ?_
  refine lv_aload_n hx hb dL_begins_2 rfl (lv_at hl 0 rfl) ?_
  refine lv_iload_n hx hb dL_begins_3 rfl (lv_at hl 1 rfl) ?_
  refine q_xcallVi (As := [.int a0]) (rest := [.int 0, .ref aO]) (wr := [(aO, .inl (cJ, 1, .inr (.inl o)))]) (Wn := (fun u => wXO aX aP aM aC aT aR aO cJ u o)) (q0 := 0) (ci := 3) (C := RX6) (c_X6_begins l hlk D aX aP aM aC aT aR cJ S a0) hfix (cwV 1 hts gL_begins_X6_begins rfl rfl rfl (by decide +kernel) ⟨Nat.le_of_ble_eq_true rfl, Nat.le_of_ble_eq_true rfl⟩) rfl hl.1 rfl (Nat.le_of_ble_eq_true rfl) ⟨by decide, by decide⟩ hP hK hD hS hA hE hZ [0, 1, 2, 3, 4, 5] [6] [1, 2, 3, 4, 5, 6, 0] [0] rfl rfl rfl (by decide) (by decide) (by decide) (by decide) (fun _ => rfl) (fun _ => rfl) rfl rfl rfl rfl dL_begins_4 (fun E ce q9 k u H locs hw hEk hP hD hS hce hcv hcl => ?_) (fun r u H locs hw hP hD hS => ?_)
  · obtain ⟨hw0, hw1, hw2⟩ := hw
    rcases hcode with z | z
    · exact absurd z hw0
    · have hk : k = 1 := hw1.trans z
      rw [hEk, hk] at hcl
      refine q_catch1 (E := "java/lang/IllegalArgumentException") (name := "java/lang/IllegalArgumentException") hown ⟨0, 9, 12, 13⟩ [] htab (by decide) (by decide) (hts (.classLink RL 13 "java/lang/IllegalArgumentException") (by decide +kernel)) (q_nw hE (.castable "java/lang/IllegalArgumentException" "java/lang/IllegalArgumentException") (by decide +kernel)) hce hcv hcl ?_
      refine lv_astore_n (lv' := [(3, .ref q9), (0, .ref aX), (1, .int a0), (2, .ref aO)]) hx hb dL_begins_12 rfl hl (by decide) rfl (fun ls hl => ?_)
      refine lv_iconst (v := 1) hx hb dL_begins_13 (by decide) ?_
      exact q_xri (Wf := (fun u : XS × (Nat → Int64) => wXO aX aP aM aC aT aR aO cJ u.1 u.2)) (u, o) hx hb hr hlocks (by decide) (by decide) hP hD hS ⟨by first | (rw [z]; done) | (rw [z]; rfl), hw2, fun z9 => absurd z9 hw0⟩ dL_begins_14
  · obtain ⟨hw0, hw1, hw2⟩ := hw
    refine lv_i2l hx hb dL_begins_7 rfl ?_
    refine va_last hx hb hK hP hD hS 6 0 rfl rfl (q_vi (by decide)) dL_begins_8 (fun H locs hP hD hS => ?_)
    have hP : va_P D vwCl (wXO aX aP aM aC aT aR aO cJ u (vp_updL o (0 : Int32).toNatClampNeg ((r : Int32).toInt64))) H := hP
    have hD : va_D A (wXO aX aP aM aC aT aR aO cJ u (vp_updL o (0 : Int32).toNatClampNeg ((r : Int32).toInt64))) := hD
    refine lv_goto (tgt := 15) hx hb dL_begins_9 (by decide) ?_
    refine lv_iconst (v := 0) hx hb dL_begins_15 (by decide) ?_
    exact q_xri (Wf := (fun u : XS × (Nat → Int64) => wXO aX aP aM aC aT aR aO cJ u.1 u.2)) (u, (vp_updL o (0 : Int32).toNatClampNeg ((r : Int32).toInt64))) hx hb hr hlocks (by decide) (by decide) hP hD hS ⟨by first | (rw [hw0]; done) | (rw [hw0]; rfl), hw2, fun _ => by rw [← hw1]; show (vp_updL o (0 : Int32).toNatClampNeg ((r : Int32).toInt64)) 0 = _; rw [show (0 : Int32).toNatClampNeg = 0 from rfl]; exact pk_uLs⟩ dL_begins_16

set_option maxHeartbeats 4000000 in
set_option maxRecDepth 100000 in
theorem c_L_relocated (l : Launch) (hlk : l.stackTraces = false) (D : va_G) (aX aP aM aC aT aR aO : Nat) (cJ : ClassId) (S : XS) (o : Nat → Int64) (a0 : Int32) (hcode : (f_X6_relocated S a0).1 = 0 ∨ (f_X6_relocated S a0).1 = 3) : q_yI l yL_relocated wsL_relocated ({ frames := 7, cells := 1, slots := 6, locals := 155 }) D [(cJ, .long)] (wXO aX aP aM aC aT aR aO cJ S o) [.ref aX, .int a0, .ref aO] (fun r u => r = cdA (f_X6_relocated S a0).1 ∧ u.1 = (f_X6_relocated S a0).2.2 ∧ ((f_X6_relocated S a0).1 = 0 → u.2 0 = (f_X6_relocated S a0).2.1)) (fun u : XS × (Nat → Int64) => wXO aX aP aM aC aT aR aO cJ u.1 u.2) 1 6 := by
  refine fun sz => q_x_ofH (cc := cL_relocated) (maxL := 4) (ret := (some .int)) (hh := [(0, 8, 11, 45)]) (by decide) rfl (Nat.le_of_ble_eq_true rfl) ?_
  intro p e s m below meth c ls hx hb hr hml hown hts hlocks htab hsz hP hK hD hE hZ hN hl
  subst hsz
  generalize hAe : va_A (wXO aX aP aM aC aT aR aO cJ S o) s.heap.size = A at hD hZ ⊢
  have hA : ∀ q, s.heap.size ≤ q → A q := fun q h => by rw [← hAe]; exact Or.inr h
  have hS : va_S A s.heap s.heap [] := va_S.rf
  have hown : s.vm.findClass RL = some m.cls := hown
  have hl : lv_has ls 4 [(0, .ref aX), (1, .int a0), (2, .ref aO)] := hl
  have hfix : CallFix p m c cL_relocated 4 s [.ref aX, .int a0, .ref aO].toArray wsL_relocated RL := ⟨hx, hb, hml, hown, hts⟩
  refine lv_aload_n hx hb dL_relocated_0 rfl (lv_at hl 2 rfl) ?_
  refine lv_iconst (v := 0) hx hb dL_relocated_1 (by decide) ?_
  refine lv_aload_n hx hb dL_relocated_2 rfl (lv_at hl 0 rfl) ?_
  refine lv_iload_n hx hb dL_relocated_3 rfl (lv_at hl 1 rfl) ?_
  refine q_xcallVl (As := [.int a0]) (rest := [.int 0, .ref aO]) (wr := [(aO, .inl (cJ, 1, .inr (.inl o)))]) (Wn := (fun u => wXO aX aP aM aC aT aR aO cJ u o)) (q0 := 0) (ci := 3) (C := RX6) (c_X6_relocated l hlk D aX aP aM aC aT aR cJ S a0) hfix (cwV 1 hts gL_relocated_X6_relocated rfl rfl rfl (by decide +kernel) ⟨Nat.le_of_ble_eq_true rfl, Nat.le_of_ble_eq_true rfl⟩) rfl hl.1 rfl (Nat.le_of_ble_eq_true rfl) ⟨by decide, by decide⟩ hP hK hD hS hA hE hZ [0, 1, 2, 3, 4, 5] [6] [1, 2, 3, 4, 5, 6, 0] [0] rfl rfl rfl (by decide) (by decide) (by decide) (by decide) (fun _ => rfl) (fun _ => rfl) rfl rfl rfl rfl dL_relocated_4 (fun E ce q9 k u H locs hw hEk hP hD hS hce hcv hcl => ?_) (fun r u H locs hw hP hD hS => ?_)
  · obtain ⟨hw0, hw1, hw2⟩ := hw
    rcases hcode with z | z
    · exact absurd z hw0
    · have hk : k = 3 := hw1.trans z
      rw [hEk, hk] at hcl
      refine q_catch1 (E := "java/util/NoSuchElementException") (name := "java/util/NoSuchElementException") hown ⟨0, 8, 11, 45⟩ [] htab (by decide) (by decide) (hts (.classLink RL 45 "java/util/NoSuchElementException") (by decide +kernel)) (q_nw hE (.castable "java/util/NoSuchElementException" "java/util/NoSuchElementException") (by decide +kernel)) hce hcv hcl ?_
      refine lv_astore_n (lv' := [(3, .ref q9), (0, .ref aX), (1, .int a0), (2, .ref aO)]) hx hb dL_relocated_11 rfl hl (by decide) rfl (fun ls hl => ?_)
      refine lv_iconst (v := 1) hx hb dL_relocated_12 (by decide) ?_
      exact q_xri (Wf := (fun u : XS × (Nat → Int64) => wXO aX aP aM aC aT aR aO cJ u.1 u.2)) (u, o) hx hb hr hlocks (by decide) (by decide) hP hD hS ⟨by first | (rw [z]; done) | (rw [z]; rfl), hw2, fun z9 => absurd z9 hw0⟩ dL_relocated_13
  · obtain ⟨hw0, hw1, hw2⟩ := hw
    refine va_last hx hb hK hP hD hS 6 0 rfl rfl (q_vi (by decide)) dL_relocated_7 (fun H locs hP hD hS => ?_)
    have hP : va_P D vwCl (wXO aX aP aM aC aT aR aO cJ u (vp_updL o (0 : Int32).toNatClampNeg r)) H := hP
    have hD : va_D A (wXO aX aP aM aC aT aR aO cJ u (vp_updL o (0 : Int32).toNatClampNeg r)) := hD
    refine lv_goto (tgt := 14) hx hb dL_relocated_8 (by decide) ?_
    refine lv_iconst (v := 0) hx hb dL_relocated_14 (by decide) ?_
    exact q_xri (Wf := (fun u : XS × (Nat → Int64) => wXO aX aP aM aC aT aR aO cJ u.1 u.2)) (u, (vp_updL o (0 : Int32).toNatClampNeg r)) hx hb hr hlocks (by decide) (by decide) hP hD hS ⟨by first | (rw [hw0]; done) | (rw [hw0]; rfl), hw2, fun _ => by rw [← hw1]; show (vp_updL o (0 : Int32).toNatClampNeg r) 0 = _; rw [show (0 : Int32).toNatClampNeg = 0 from rfl]; exact pk_uLs⟩ dL_relocated_15

set_option maxHeartbeats 4000000 in
set_option maxRecDepth 100000 in
theorem c_L_reckon (l : Launch) (hlk : l.stackTraces = false) (D : va_G) (aX aP aM aC aT aR aO : Nat) (cJ : ClassId) (S : XS) (o : Nat → Int64) (a0 : Int32) (a1 : Int64) (a2 : Int64) (hcode : (f_X6_reckon S a0 a1 a2).1 = 0 ∨ (f_X6_reckon S a0 a1 a2).1 = 1 ∨ (f_X6_reckon S a0 a1 a2).1 = 4) : q_yI l yL_reckon wsL_reckon ({ frames := 7, cells := 1, slots := 6, locals := 121 }) D [(cJ, .long)] (wXO aX aP aM aC aT aR aO cJ S o) [.ref aX, .int a0, .long a1, .long a2, .ref aO] (fun r u => r = cd4 (f_X6_reckon S a0 a1 a2).1 ∧ u.1 = (f_X6_reckon S a0 a1 a2).2.2 ∧ ((f_X6_reckon S a0 a1 a2).1 = 0 → u.2 0 = (f_X6_reckon S a0 a1 a2).2.1)) (fun u : XS × (Nat → Int64) => wXO aX aP aM aC aT aR aO cJ u.1 u.2) 1 6 := by
  refine fun sz => q_x_ofH (cc := cL_reckon) (maxL := 8) (ret := (some .int)) (hh := [(0, 12, 15, 13), (0, 12, 19, 65)]) (by decide) rfl (Nat.le_of_ble_eq_true rfl) ?_
  intro p e s m below meth c ls hx hb hr hml hown hts hlocks htab hsz hP hK hD hE hZ hN hl
  subst hsz
  generalize hAe : va_A (wXO aX aP aM aC aT aR aO cJ S o) s.heap.size = A at hD hZ ⊢
  have hA : ∀ q, s.heap.size ≤ q → A q := fun q h => by rw [← hAe]; exact Or.inr h
  have hS : va_S A s.heap s.heap [] := va_S.rf
  have hown : s.vm.findClass RL = some m.cls := hown
  have hl : lv_has ls 8 [(0, .ref aX), (1, .int a0), (2, .long a1), (4, .long a2), (6, .ref aO)] := hl
  have hfix : CallFix p m c cL_reckon 8 s [.ref aX, .int a0, .long a1, .long a2, .ref aO].toArray wsL_reckon RL := ⟨hx, hb, hml, hown, hts⟩
  refine lv_aload hx hb dL_reckon_0 (lv_at hl 4 rfl) ?_
  refine lv_iconst (v := 0) hx hb dL_reckon_2 (by decide) ?_
  refine lv_aload_n hx hb dL_reckon_3 rfl (lv_at hl 0 rfl) ?_
  refine lv_iload_n hx hb dL_reckon_4 rfl (lv_at hl 1 rfl) ?_
  refine lv_lload_n hx hb dL_reckon_5 rfl (lv_at hl 2 rfl) ?_
  refine lv_lload hx hb dL_reckon_6 (lv_at hl 3 rfl) ?_
  refine q_xcallVl (As := [.int a0, .long a1, .long a2]) (rest := [.int 0, .ref aO]) (wr := [(aO, .inl (cJ, 1, .inr (.inl o)))]) (Wn := (fun u => wXO aX aP aM aC aT aR aO cJ u o)) (q0 := 0) (ci := 3) (C := RX6) (c_X6_reckon l hlk D aX aP aM aC aT aR cJ S a0 a1 a2) hfix (cwV 3 hts gL_reckon_X6_reckon rfl rfl rfl (by decide +kernel) ⟨Nat.le_of_ble_eq_true rfl, Nat.le_of_ble_eq_true rfl⟩) rfl hl.1 rfl (Nat.le_of_ble_eq_true rfl) ⟨by decide, by decide⟩ hP hK hD hS hA hE hZ [0, 1, 2, 3, 4, 5] [6] [1, 2, 3, 4, 5, 6, 0] [0] rfl rfl rfl (by decide) (by decide) (by decide) (by decide) (fun _ => rfl) (fun _ => rfl) rfl rfl rfl rfl dL_reckon_8 (fun E ce q9 k u H locs hw hEk hP hD hS hce hcv hcl => ?_) (fun r u H locs hw hP hD hS => ?_)
  · obtain ⟨hw0, hw1, hw2⟩ := hw
    rcases hcode with z | z | z
    · exact absurd z hw0
    · have hk : k = 1 := hw1.trans z
      rw [hEk, hk] at hcl
      refine q_catch1 (E := "java/lang/IllegalArgumentException") (name := "java/lang/IllegalArgumentException") hown ⟨0, 12, 15, 13⟩ [⟨0, 12, 19, 65⟩] htab (by decide) (by decide) (hts (.classLink RL 13 "java/lang/IllegalArgumentException") (by decide +kernel)) (q_nw hE (.castable "java/lang/IllegalArgumentException" "java/lang/IllegalArgumentException") (by decide +kernel)) hce hcv hcl ?_
      refine lv_astore (lv' := [(7, .ref q9), (0, .ref aX), (1, .int a0), (2, .long a1), (4, .long a2), (6, .ref aO)]) hx hb dL_reckon_15 hl (by decide) rfl (fun ls hl => ?_)
      refine lv_iconst (v := 1) hx hb dL_reckon_17 (by decide) ?_
      exact q_xri (Wf := (fun u : XS × (Nat → Int64) => wXO aX aP aM aC aT aR aO cJ u.1 u.2)) (u, o) hx hb hr hlocks (by decide) (by decide) hP hD hS ⟨by first | (rw [z]; done) | (rw [z]; rfl), hw2, fun z9 => absurd z9 hw0⟩ dL_reckon_18
    · have hk : k = 4 := hw1.trans z
      rw [hEk, hk] at hcl
      refine q_catch2 (E := "java/lang/ArithmeticException") (name := "java/lang/ArithmeticException") (name1 := "java/lang/IllegalArgumentException") hown ⟨0, 12, 15, 13⟩ ⟨0, 12, 19, 65⟩ [] htab (by decide) (by decide) (by decide) (by decide) (hts (.classLink RL 13 "java/lang/IllegalArgumentException") (by decide +kernel)) hN.2.2 (hts (.classLink RL 65 "java/lang/ArithmeticException") (by decide +kernel)) (q_nw hE (.castable "java/lang/ArithmeticException" "java/lang/ArithmeticException") (by decide +kernel)) hce hcv hcl ?_
      refine lv_astore (lv' := [(7, .ref q9), (0, .ref aX), (1, .int a0), (2, .long a1), (4, .long a2), (6, .ref aO)]) hx hb dL_reckon_19 hl (by decide) rfl (fun ls hl => ?_)
      refine lv_iconst (v := 2) hx hb dL_reckon_21 (by decide) ?_
      exact q_xri (Wf := (fun u : XS × (Nat → Int64) => wXO aX aP aM aC aT aR aO cJ u.1 u.2)) (u, o) hx hb hr hlocks (by decide) (by decide) hP hD hS ⟨by first | (rw [z]; done) | (rw [z]; rfl), hw2, fun z9 => absurd z9 hw0⟩ dL_reckon_22
  · obtain ⟨hw0, hw1, hw2⟩ := hw
    refine va_last hx hb hK hP hD hS 6 0 rfl rfl (q_vi (by decide)) dL_reckon_11 (fun H locs hP hD hS => ?_)
    have hP : va_P D vwCl (wXO aX aP aM aC aT aR aO cJ u (vp_updL o (0 : Int32).toNatClampNeg r)) H := hP
    have hD : va_D A (wXO aX aP aM aC aT aR aO cJ u (vp_updL o (0 : Int32).toNatClampNeg r)) := hD
    refine lv_goto (tgt := 23) hx hb dL_reckon_12 (by decide) ?_
    refine lv_iconst (v := 0) hx hb dL_reckon_23 (by decide) ?_
    exact q_xri (Wf := (fun u : XS × (Nat → Int64) => wXO aX aP aM aC aT aR aO cJ u.1 u.2)) (u, (vp_updL o (0 : Int32).toNatClampNeg r)) hx hb hr hlocks (by decide) (by decide) hP hD hS ⟨by first | (rw [hw0]; done) | (rw [hw0]; rfl), hw2, fun _ => by rw [← hw1]; show (vp_updL o (0 : Int32).toNatClampNeg r) 0 = _; rw [show (0 : Int32).toNatClampNeg = 0 from rfl]; exact pk_uLs⟩ dL_reckon_24
