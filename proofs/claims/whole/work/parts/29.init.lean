/-! constructors -/
theorem q_ofI {l : Launch} {y : MethodName} {w w' : List Cond} {rm : Room} {Pc : Array Value → State → Prop} {Qc : Array Value → State → Outcome → State → Prop} {free : Addr → Prop} {cc : ByteArray} {maxL mc ms : Nat} {ret : Option FieldType} {av : List Value} {Bp : State → Prop}
    (hy : plainFor y = true) (hyn : y.name = "<init>") (hw : w = Cond.code y cc maxL ret :: w') (hlen : (lg_sl av).length ≤ maxL) (hPc : Pc = va_Pc av Bp)
    (body : ∀ (p : Program) (e : Env) (s : State) (m : MethodId) (below : List Frame) (meth : Method) (c : Code) (ls : Array Slot), p.tables.exec = Jvm.exec → c.code = cc → meth.sig.returnType = ret → c.maxLocals = maxL → s.vm.findClass y.cls = some m.cls → (∀ x ∈ w, x.before av.toArray s = true) → meth.locks = false → meth.name = "<init>" → Bp s → lv_has ls maxL (lv_args 0 av) →
      W p l e rm s m av.toArray below meth c s.heap [] 0 0 (MQ below Qc av.toArray s mc ms free) (F0 m 0 ls [])) : Met l y w rm Pc Qc mc ms free := by
  refine va_MetF (cc := cc) (maxL := maxL) (ret := ret) hy hw ?_
  intro p e s m args below meth c s₁ B hml hv
  rw [hPc] at hv
  obtain ⟨rfl, hB⟩ := hv
  have hl := lv_entry av (n := maxL) hlen
  rw [lg_entry_eq]
  exact body p e s m below meth c _ B.exec B.bytes B.returns hml (findClass_of_methodNamed B.named) (atoms_spec (ws := w) B.pre) B.notSynchronized (((name_of_methodNamed B.named B.method).1).trans hyn) hB hl
section QI
variable {p : Program} {l : Launch} {e : Env} {R : Room} {s : State} {m : MethodId} {args : Array Value} {below : List Frame} {meth : Method} {c : Code} {H : Heap} {locs : List Loc} {cells slots : Nat} {Q : State → Prop}
variable {cc : ByteArray} {pc : Nat} {ls : Array Slot} {rest : List Value} {D : va_G} {A : Nat → Prop} {tys tysc : List (ClassId × FieldType)} {ws wc wr : va_W}
variable {y : MethodName} {bytes : ByteArray} {maxL nL n index : Nat} {ret : Option FieldType} {wy wy' : List Cond} {rm : Room} {Ts : List Cond} {own C : String} {As st0 : List Value}
theorem q_callMSv {S : Type} {post : S → Prop} {Wf Wn : S → va_W} (hM : q_muV l y wy rm D tysc wc As post Wf) (hfix : CallFix p m c cc nL s args Ts own) (cw : CallB R s args own index y bytes maxL ret wy rm 0 0 n ∧ (Cond.static y).before args s = true) (hn : As.length = n) (hsz : ls.size = nL) (hst : st0 = As.reverse ++ rest) (hW : (rest.map fun v => v.category).sum ≤ 8) (hf : cells ≤ R.cells ∧ slots ≤ R.slots)
    (hP : va_P D vwCl ws H) (hK : va_K D vwCl tys s) (hD : va_D A ws) (hS : va_S A s.heap H locs) (hA : ∀ q, s.heap.size ≤ q → A q) (isC isR isN isT : List Nat) (h1 : isC.map (fun i => ws[i]?) = wc.map some) (h1' : isC.filterMap (fun i => ws[i]?) = wc) (hR' : isR.map (fun i => ws[i]?) = wr.map some) (hnC : va_nd isC = true) (hnR : va_nd isR = true) (hdis : ∀ i ∈ isR, i ∉ isC) (hnN : va_nd isN = true) (hN : ∀ u, isN.map (fun i => (wr ++ Wf u)[i]?) = (Wn u).map some) (hN' : ∀ u, isN.filterMap (fun i => (wr ++ Wf u)[i]?) = Wn u) (h2 : isT.filterMap (fun i => tys[i]?) = tysc) (hdg : decode cc pc = .ok (.invokestatic index, 3))
    (kk : ∀ (u : S) (H1 : Heap) (locs1 : List Loc), post u → va_P D vwCl (Wn u) H1 → va_D A (Wn u) → va_S A s.heap H1 locs1 → W p l e R s m args below meth c H1 locs1 cells slots Q (F0 m (pc + 3) ls rest)) : W p l e R s m args below meth c H locs cells slots Q (F0 m pc ls st0) := by
  have hPc := hP.sub isC h1'
  have hDc := hD.sub isC hnC h1
  have hKc := hK.sub isT h2
  have hFc := va_free (wc := wc) hD hS hA isC h1
  refine va_callv (va_runS (As := As) (rest := rest) hfix (hM H.size) cw ⟨q_Pm_blind, fun U hU hWm => ⟨rfl, by rw [hU], by rw [hU]; exact hPc, va_K.moved hWm.alike hKc, hDc.weaken (fun _ _ _ _ => trivial)⟩⟩ rfl hn hsz hst (lv_room hW) hdg hf) hS (fun q _ h => hFc q h) hFc (fun u t H1 locs1 ht hvm hw hB hz1 hk1 hS1 => ?_)
  obtain ⟨hP1, hD1⟩ := hB
  rw [ht] at hP1
  obtain ⟨hP2, hD2⟩ := va_join (wr := wr) hP hD isC isR h1 hR' hnR hdis hk1 hFc hP1 hD1
  exact kk u H1 locs1 hw (hP2.sub isN (hN' u)) (hD2.sub isN hnN (hN u)) hS1
end QI
set_option maxHeartbeats 4000000 in
set_option maxRecDepth 100000 in
theorem c_fill (l : Launch) (D : va_G) (aC : Nat) (cJ : ClassId) (f : Nat → Int64) (v : Int64) : q_muV l yJ7_fill_d0a16 wsJ7_fill_d0a16 ({ frames := 0, cells := 0, slots := 0, locals := 0 }) D [(cJ, .long)] [(aC, .inl (cJ, 320, .inr (.inl f)))] [.ref aC, .long v] (fun u : Nat → Int64 => ∀ j, j < 320 → u j = v) (fun u => [(aC, .inl (cJ, 320, .inr (.inl u)))]) := by
  refine q_muV_of (cc := cJ7_fill_d0a16) (maxL := 5) (ret := none) (by decide +kernel) rfl (Nat.le_of_ble_eq_true rfl) ?_
  intro p e s m below meth c ls A hx hb hr hml hown hts hlocks hP hK hD hA hS hl
  have hl : lv_has ls 5 [(0, .ref aC), (1, .long v)] := hl
  refine lv_iconst (v := 0) hx hb dJ7_fill_d0a16_0 (by decide) ?_
  refine lv_istore_n (lv' := [(3, .int 0), (0, .ref aC), (1, .long v)]) hx hb dJ7_fill_d0a16_1 rfl hl (by decide) rfl (fun ls hl => ?_)
  refine lv_aload_n hx hb dJ7_fill_d0a16_2 rfl (lv_at hl 1 rfl) ?_
  refine va_alen hx hb hK hP 0 0 rfl rfl (v := 320) rfl dJ7_fill_d0a16_3 ?_
  refine lv_istore (lv' := [(4, .int 320), (3, .int 0), (0, .ref aC), (1, .long v)]) hx hb dJ7_fill_d0a16_4 hl (by decide) rfl (fun ls hl => ?_)
  have kL : ∀ (n i : Nat) (f : Nat → Int64) (H : Heap) (locs : List Loc) (ls : Array Slot), i + n = 320 → (∀ j, j < i → f j = v) → va_P D vwCl [(aC, .inl (cJ, 320, .inr (.inl f)))] H → va_D A [(aC, .inl (cJ, 320, .inr (.inl f)))] → va_S A s.heap H locs → lv_has ls 5 [(3, .int (nI i)), (4, .int 320), (0, .ref aC), (1, .long v)] → W p l e ({ frames := 0, cells := 0, slots := 0, locals := 0 }) s m [.ref aC, .long v].toArray below meth c H locs 0 0 (MQ below (va_Qv (fun u : Nat → Int64 => ∀ j, j < 320 → u j = v) (fun u t => va_P D vwCl ((fun u => [(aC, .inl (cJ, 320, .inr (.inl u)))]) u) t.heap ∧ va_D A ((fun u => [(aC, .inl (cJ, 320, .inr (.inl u)))]) u)) A) [.ref aC, .long v].toArray s 0 0 A) (F0 m 6 ls []) := by
    intro n
    induction n with
    | zero =>
      intro i f H locs ls hi hf hP hD hS hl
      have hi : i = 320 := by omega
      subst hi
      refine lv_iload_n hx hb dJ7_fill_d0a16_6 rfl (lv_at hl 0 rfl) ?_
      refine lv_iload hx hb dJ7_fill_d0a16_7 (lv_at hl 1 rfl) ?_
      refine lv_icmp_ge (tgt := 22) hx hb dJ7_fill_d0a16_9 (by decide) (fun c1 => ?_) (fun c1 => absurd (by decide) c1)
      exact q_mv f hx hb hr hlocks hP hD hS hf dJ7_fill_d0a16_22
    | succ n ih =>
      intro i f H locs ls hi hf hP hD hS hl
      refine lv_iload_n hx hb dJ7_fill_d0a16_6 rfl (lv_at hl 0 rfl) ?_
      refine lv_iload hx hb dJ7_fill_d0a16_7 (lv_at hl 1 rfl) ?_
      refine lv_icmp_ge (tgt := 22) hx hb dJ7_fill_d0a16_9 (by decide) (fun c1 => absurd c1 (nI_ge (b := 320) (by omega) (by decide))) (fun c1 => ?_)
      refine lv_aload_n hx hb dJ7_fill_d0a16_12 rfl (lv_at hl 2 rfl) ?_
      refine lv_iload_n hx hb dJ7_fill_d0a16_13 rfl (lv_at hl 0 rfl) ?_
      refine lv_lload_n hx hb dJ7_fill_d0a16_14 rfl (lv_at hl 3 rfl) ?_
      refine va_last hx hb hK hP hD hS 0 0 rfl rfl (vp_in_nI (by omega) (by decide)) dJ7_fill_d0a16_15 (fun H locs hP hD hS => ?_)
      have hP : va_P D vwCl [(aC, .inl (cJ, 320, .inr (.inl (vp_updL f (nI i).toNatClampNeg v))))] H := hP
      have hD : va_D A [(aC, .inl (cJ, 320, .inr (.inl (vp_updL f (nI i).toNatClampNeg v))))] := hD
      refine lv_iinc (v := nI (i + 1)) (lv' := [(3, .int (nI (i + 1))), (4, .int 320), (0, .ref aC), (1, .long v)]) hx hb dJ7_fill_d0a16_16 hl (k := 0) rfl (by rw [← nI_1]; rfl) (by decide) rfl (fun ls hl => ?_)
      refine lv_goto (tgt := 6) hx hb dJ7_fill_d0a16_19 (by decide) ?_
      refine ih (i + 1) _ _ _ _ (by omega) (fun j hj => ?_) hP hD hS hl
      rw [nI_clamp (by omega)]
      unfold vp_updL
      split
      · rfl
      · exact hf j (by omega)
  exact kL 320 0 f _ _ _ (by omega) (fun j hj => absurd hj (Nat.not_lt_zero _)) hP hD hS (lv_sub hl [1, 0, 2, 3] rfl)
set_option maxHeartbeats 4000000 in
set_option maxRecDepth 100000 in
/-- Memory(): one new row of 320 longs, all -1 -/
theorem c_X1_init (l : Launch) (D : va_G) (aM : Nat) (sz : Nat) : Met l yX1_init wsX1_init ({ frames := 1, cells := 1, slots := 320, locals := 24 }) (q_Pm D [] [(aM, .inr (0, [.null]))] [.ref aM] sz) (va_Qv (fun u : Nat × ClassId × (Nat → Int64) => ∀ j, j < 320 → u.2.2 j = -1) (fun u t => va_P D vwCl (wM aM u.1 u.2.1 u.2.2) t.heap ∧ va_K D vwCl [(u.2.1, .long)] t ∧ va_D (va_A [(aM, .inr (0, [.null]))] sz) (wM aM u.1 u.2.1 u.2.2)) (va_A [(aM, .inr (0, [.null]))] sz)) 1 320 (va_A [(aM, .inr (0, [.null]))] sz) := by
  refine q_ofI (cc := cX1_init) (maxL := 1) (ret := none) (plainFor_of_name (by decide)) rfl rfl (Nat.le_of_ble_eq_true rfl) rfl ?_
  intro p e s m below meth c ls hx hb hr hml hown hts hlocks hin hB hl
  obtain ⟨hsz, hP, hK, hD0⟩ := hB
  subst hsz
  have hD := hD0.self (sz := s.heap.size)
  generalize hAe : va_A [(aM, .inr (0, [.null]))] s.heap.size = A at hD ⊢
  have hA : ∀ q : Nat, s.heap.size ≤ q → A q := fun q h => by rw [← hAe]; exact Or.inr h
  have hS : va_S A s.heap s.heap [] := va_S.rf
  have hown : s.vm.findClass RX1 = some m.cls := hown
  have hl : lv_has ls 1 [(0, .ref aM)] := hl
  have hin0 : ∀ w ∈ wsX10, w ∈ wsX1_init := by decide +kernel
  have hfix : CallFix p m c cX1_init 1 s [.ref aM].toArray wsX1_init RX1 := ⟨hx, hb, hml, hown, hts⟩
  refine lv_aload_n hx hb dX1_init_0 rfl (lv_at hl 0 rfl) ?_
  refine W.objInit hx hb hown (hts (.methodLink RX1 1 objectInit) (by decide +kernel)) (hts (.instanceMethod objectInit) (by decide +kernel)) (hts (.code objectInit ⟨#[0xb1]⟩ 1 none) (by decide +kernel)) rfl (by rw [hml]; exact hl.1) rfl dX1_init_1 (Nat.le_of_ble_eq_true rfl) (Nat.le_of_ble_eq_true rfl) ?_
  refine W.eq (g2 := F0 m 4 ls []) rfl ?_
  refine lv_aload_n hx hb dX1_init_4 rfl (lv_at hl 0 rfl) ?_
  refine lv_sipush (v := 320) hx hb dX1_init_5 (by decide) ?_
  refine va_newa (atype := .long) (ty := .long) (a0 := (320, .inr (.inl (fun _ => 0)))) (N' := 320) hx hb (hts (.arrayClass .long) (by decide +kernel)) rfl hK hP hD hS hA (fun cA => rfl) (by decide) (by decide) (by decide) (by decide) (by decide) dX1_init_8 (fun aC cJ H hK hP hD hS => ?_)
  have hP : va_P D vwCl [(aM, .inr (0, [.null])), (aC, .inl (cJ, 320, .inr (.inl (fun _ => 0))))] H := hP
  have hD : va_D A [(aM, .inr (0, [.null])), (aC, .inl (cJ, 320, .inr (.inl (fun _ => 0))))] := hD
  have hK : va_K D vwCl [(cJ, .long)] s := hK
  refine W.widen (k := 1) (n := 320) (by decide) (by decide) ?_
  refine va_putF (D := D) (ci := 0) (v := .ref aC) (ty := .array .long) (C := RX1) (T := TX1) (N := 1) hx hb hts hin0 tyX1 tyX1_ok nmX1 hown hK hP hD hS 0 rfl rfl 0 (by decide) (hts (.fieldLink RX1 9 "FieldTrace$Memory" "cells" "[J") (by decide +kernel)) (fun _ h9 => h9) rfl hin rfl (by decide +kernel) rfl rfl (Nat.le_of_ble_eq_true rfl) dX1_init_10 (fun H locs hP hD hS => ?_)
  have hP : va_P D vwCl (wM aM aC cJ (fun _ => 0)) H := hP
  have hD : va_D A (wM aM aC cJ (fun _ => 0)) := hD
  refine lv_aload_n hx hb dX1_init_13 rfl (lv_at hl 0 rfl) ?_
  refine va_get (D := D) (ci := 0) (v := .ref aC) (C := RX1) (T := TX1) (N := 1) hx hb hts hin0 hown hK hP 0 rfl rfl 0 (by decide) (hts (.fieldLink RX1 9 "FieldTrace$Memory" "cells" "[J") (by decide +kernel)) (fun _ h9 => h9) rfl dX1_init_14 ?_
  refine lv_ldc2 (v := -1) hx hb hown (hts (.constantLong RX1 15 (-1)) (by decide +kernel)) dX1_init_17 ?_
  refine q_callMSv (As := [.ref aC, .long (-1)]) (rest := []) (wr := [(aM, .inr (0, [.ref aC]))]) (Wn := fun u => wM aM aC cJ u) (c_fill l D aC cJ (fun _ => 0) (-1)) hfix (va_cwS 2 hts gX1_init_J7_fill_d0a16 rfl rfl rfl (by decide +kernel) ⟨Nat.le_of_ble_eq_true rfl, Nat.le_of_ble_eq_true rfl⟩) rfl hl.1 rfl (Nat.le_of_ble_eq_true rfl) ⟨by decide, by decide⟩ hP hK hD hS hA [1] [0] [0, 1] [0] rfl rfl rfl (by decide) (by decide) (by decide) (by decide) (fun _ => rfl) (fun _ => rfl) rfl dX1_init_20 (fun u H locs hw hP hD hS => ?_)
  exact W.vret hx hb hr (fun t ht hW => ⟨⟨(aC, cJ, u), rfl, hw, by rw [ht]; exact hP, va_K.moved hW.alike hK, hD⟩, hS.F ht⟩) hS.2.2 dX1_init_23 hlocks
set_option maxHeartbeats 4000000 in
set_option maxRecDepth 100000 in
/-- Trace(): one new row of 192 longs -/
theorem c_X3_init (l : Launch) (D : va_G) (aT : Nat) (sz : Nat) : Met l yX3_init wsX3_init ({ frames := 1, cells := 1, slots := 192, locals := 12 }) (q_Pm D [] [(aT, .inr (2, [.null, .int 0]))] [.ref aT] sz) (va_Qv (fun u : Nat × ClassId × TS => pT_length u.2.2 = 0) (fun u t => va_P D vwCl (wT aT u.1 u.2.1 u.2.2) t.heap ∧ va_K D vwCl [(u.2.1, .long)] t ∧ va_D (va_A [(aT, .inr (2, [.null, .int 0]))] sz) (wT aT u.1 u.2.1 u.2.2)) (va_A [(aT, .inr (2, [.null, .int 0]))] sz)) 1 192 (va_A [(aT, .inr (2, [.null, .int 0]))] sz) := by
  refine q_ofI (cc := cX3_init) (maxL := 1) (ret := none) (plainFor_of_name (by decide)) rfl rfl (Nat.le_of_ble_eq_true rfl) rfl ?_
  intro p e s m below meth c ls hx hb hr hml hown hts hlocks hin hB hl
  obtain ⟨hsz, hP, hK, hD0⟩ := hB
  subst hsz
  have hD := hD0.self (sz := s.heap.size)
  generalize hAe : va_A [(aT, .inr (2, [.null, .int 0]))] s.heap.size = A at hD ⊢
  have hA : ∀ q : Nat, s.heap.size ≤ q → A q := fun q h => by rw [← hAe]; exact Or.inr h
  have hS : va_S A s.heap s.heap [] := va_S.rf
  have hown : s.vm.findClass RX3 = some m.cls := hown
  have hl : lv_has ls 1 [(0, .ref aT)] := hl
  have hin2 : ∀ w ∈ wsX30, w ∈ wsX3_init := by decide +kernel
  refine lv_aload_n hx hb dX3_init_0 rfl (lv_at hl 0 rfl) ?_
  refine W.objInit hx hb hown (hts (.methodLink RX3 1 objectInit) (by decide +kernel)) (hts (.instanceMethod objectInit) (by decide +kernel)) (hts (.code objectInit ⟨#[0xb1]⟩ 1 none) (by decide +kernel)) rfl (by rw [hml]; exact hl.1) rfl dX3_init_1 (Nat.le_of_ble_eq_true rfl) (Nat.le_of_ble_eq_true rfl) ?_
  refine W.eq (g2 := F0 m 4 ls []) rfl ?_
  refine lv_aload_n hx hb dX3_init_4 rfl (lv_at hl 0 rfl) ?_
  refine lv_sipush (v := 192) hx hb dX3_init_5 (by decide) ?_
  refine va_newa (atype := .long) (ty := .long) (a0 := (192, .inr (.inl (fun _ => 0)))) (N' := 192) hx hb (hts (.arrayClass .long) (by decide +kernel)) rfl hK hP hD hS hA (fun cA => rfl) (by decide) (by decide) (by decide) (by decide) (by decide) dX3_init_8 (fun aR cJ H hK hP hD hS => ?_)
  have hP : va_P D vwCl [(aT, .inr (2, [.null, .int 0])), (aR, .inl (cJ, 192, .inr (.inl (fun _ => 0))))] H := hP
  have hD : va_D A [(aT, .inr (2, [.null, .int 0])), (aR, .inl (cJ, 192, .inr (.inl (fun _ => 0))))] := hD
  have hK : va_K D vwCl [(cJ, .long)] s := hK
  refine W.widen (k := 1) (n := 192) (by decide) (by decide) ?_
  refine va_putF (D := D) (ci := 2) (v := .ref aR) (ty := .array .long) (C := RX3) (T := TX3) (N := 2) hx hb hts hin2 tyX3 tyX3_ok nmX3 hown hK hP hD hS 0 rfl rfl 0 (by decide) (hts (.fieldLink RX3 9 "FieldTrace$Trace" "row" "[J") (by decide +kernel)) (fun _ h9 => h9) rfl hin rfl (by decide +kernel) rfl rfl (Nat.le_of_ble_eq_true rfl) dX3_init_10 (fun H locs hP hD hS => ?_)
  have hP : va_P D vwCl (wT aT aR cJ ((fun _ => 0), 0)) H := hP
  have hD : va_D A (wT aT aR cJ ((fun _ => 0), 0)) := hD
  refine lv_aload_n hx hb dX3_init_13 rfl (lv_at hl 0 rfl) ?_
  refine lv_iconst (v := 0) hx hb dX3_init_14 (by decide) ?_
  refine va_put (D := D) (ci := 2) (v := .int 0) (ty := .int) (C := RX3) (T := TX3) (N := 2) hx hb hts hin2 tyX3 tyX3_ok nmX3 hown hK hP hD hS 0 rfl rfl 1 (by decide) (hts (.fieldLink RX3 13 "FieldTrace$Trace" "length" "I") (by decide +kernel)) (fun _ h9 => h9) rfl (by decide +kernel) rfl rfl (Nat.le_of_ble_eq_true rfl) dX3_init_15 (fun H locs hP hD hS => ?_)
  have hP : va_P D vwCl (wT aT aR cJ ((fun _ => 0), 0)) H := hP
  have hD : va_D A (wT aT aR cJ ((fun _ => 0), 0)) := hD
  exact W.vret hx hb hr (fun t ht hW => ⟨⟨(aR, cJ, ((fun _ => 0), 0)), rfl, rfl, by rw [ht]; exact hP, va_K.moved hW.alike hK, hD⟩, hS.F ht⟩) hS.2.2 dX3_init_18 hlocks

set_option maxHeartbeats 4000000 in
set_option maxRecDepth 100000 in
theorem c_X2_initK (l : Launch) (D : va_G) (aP aM : Nat) (sz : Nat) : Met l yX2_init wsX2_init ({ frames := 1, cells := 0, slots := 0, locals := 24 }) (q_Pm D [] [(aP, .inr (1, [.null, .long 0, .long 0, .long 0, .long 0, .long 0, .long 0, .long 0, .int 0, .long 0, .long 0, .long 0, .long 0]))] [.ref aP, .ref aM] sz) (va_Qv (fun _ : Unit => True) (fun _ t => va_P D vwCl [(aP, .inr (1, [.ref aM, .long (f_X4_ofAddress 1 0), .long (f_X4_ofAddress 2 0), .long (f_X4_ofAddress 2 0), .long 0, .long 0, .long 0, .long 0, .int 0, .long 0, .long 0, .long 0, .long 0]))] t.heap ∧ va_K D vwCl [] t ∧ va_D (va_A [(aP, .inr (1, [.null, .long 0, .long 0, .long 0, .long 0, .long 0, .long 0, .long 0, .int 0, .long 0, .long 0, .long 0, .long 0]))] sz) [(aP, .inr (1, [.ref aM, .long (f_X4_ofAddress 1 0), .long (f_X4_ofAddress 2 0), .long (f_X4_ofAddress 2 0), .long 0, .long 0, .long 0, .long 0, .int 0, .long 0, .long 0, .long 0, .long 0]))]) (va_A [(aP, .inr (1, [.null, .long 0, .long 0, .long 0, .long 0, .long 0, .long 0, .long 0, .int 0, .long 0, .long 0, .long 0, .long 0]))] sz)) 0 0 (va_A [(aP, .inr (1, [.null, .long 0, .long 0, .long 0, .long 0, .long 0, .long 0, .long 0, .int 0, .long 0, .long 0, .long 0, .long 0]))] sz) := by
  refine q_ofI (cc := cX2_init) (maxL := 2) (ret := none) (plainFor_of_name (by decide)) rfl rfl (Nat.le_of_ble_eq_true rfl) rfl ?_
  intro p e s m below meth c ls hx hb hr hml hown hts hlocks hin hB hl
  obtain ⟨hsz, hP, hK, hD0⟩ := hB
  subst hsz
  have hD := hD0.self (sz := s.heap.size)
  generalize hAe : va_A [(aP, .inr (1, [.null, .long 0, .long 0, .long 0, .long 0, .long 0, .long 0, .long 0, .int 0, .long 0, .long 0, .long 0, .long 0]))] s.heap.size = A at hD ⊢
  have hA : ∀ q : Nat, s.heap.size ≤ q → A q := fun q h => by rw [← hAe]; exact Or.inr h
  have hS : va_S A s.heap s.heap [] := va_S.rf
  have hown : s.vm.findClass RX2 = some m.cls := hown
  have hl : lv_has ls 2 [(0, .ref aP), (1, .ref aM)] := hl
  have hin1 : ∀ w ∈ wsX20, w ∈ wsX2_init := by decide +kernel
  have hfix : CallFix p m c cX2_init 2 s [.ref aP, .ref aM].toArray wsX2_init RX2 := ⟨hx, hb, hml, hown, hts⟩
  refine lv_aload_n hx hb dX2_init_0 rfl (lv_at hl 0 rfl) ?_
  refine W.objInit hx hb hown (hts (.methodLink RX2 1 objectInit) (by decide +kernel)) (hts (.instanceMethod objectInit) (by decide +kernel)) (hts (.code objectInit ⟨#[0xb1]⟩ 1 none) (by decide +kernel)) rfl (by rw [hml]; exact hl.1) rfl dX2_init_1 (Nat.le_of_ble_eq_true rfl) (Nat.le_of_ble_eq_true rfl) ?_
  refine W.eq (g2 := F0 m 4 ls []) rfl ?_
  refine lv_aload_n hx hb dX2_init_4 rfl (lv_at hl 0 rfl) ?_
  refine lv_aload_n hx hb dX2_init_5 rfl (lv_at hl 1 rfl) ?_
  refine va_putF (D := D) (ci := 1) (v := .ref aM) (ty := .object "FieldTrace$Memory") (C := RX2) (T := TX2) (N := 13) hx hb hts hin1 tyX2 tyX2_ok nmX2 hown hK hP hD hS 0 rfl rfl 0 (by decide) (hts (.fieldLink RX2 7 "FieldTrace$Processor" "memory" "LFieldTrace$Memory;") (by decide +kernel)) (fun _ h9 => h9) rfl hin rfl (by decide +kernel) rfl rfl (Nat.le_of_ble_eq_true rfl) dX2_init_6 (fun H locs hP hD hS => ?_)
  have hP : va_P D vwCl [(aP, .inr (1, [.ref aM, .long 0, .long 0, .long 0, .long 0, .long 0, .long 0, .long 0, .int 0, .long 0, .long 0, .long 0, .long 0]))] H := hP
  have hD : va_D A [(aP, .inr (1, [.ref aM, .long 0, .long 0, .long 0, .long 0, .long 0, .long 0, .long 0, .int 0, .long 0, .long 0, .long 0, .long 0]))] := hD
  refine lv_aload_n hx hb dX2_init_9 rfl (lv_at hl 0 rfl) ?_
  refine lv_iconst (v := 1) hx hb dX2_init_10 (by decide) ?_
  refine lv_lconst (v := 0) hx hb dX2_init_11 (by decide) ?_
  refine q_callSl (As := [.int 1, .long 0]) (rest := [.ref aP]) (c_X4_ofAddress l D 1 0) hfix (va_cwS 2 hts gX2_init_X4_ofAddress rfl rfl rfl (by decide +kernel) ⟨Nat.le_of_ble_eq_true rfl, Nat.le_of_ble_eq_true rfl⟩) rfl hl.1 rfl (Nat.le_of_ble_eq_true rfl) ⟨Nat.zero_le _, Nat.zero_le _⟩ hP hK hS hA [] [] rfl rfl dX2_init_12 (fun H locs hP hS => ?_)
  refine va_put (D := D) (ci := 1) (v := .long (f_X4_ofAddress 1 0)) (ty := .long) (C := RX2) (T := TX2) (N := 13) hx hb hts hin1 tyX2 tyX2_ok nmX2 hown hK hP hD hS 0 rfl rfl 1 (by decide) (hts (.fieldLink RX2 19 "FieldTrace$Processor" "pc" "J") (by decide +kernel)) (fun _ h9 => h9) rfl (by decide +kernel) rfl rfl (Nat.le_of_ble_eq_true rfl) dX2_init_15 (fun H locs hP hD hS => ?_)
  have hP : va_P D vwCl [(aP, .inr (1, [.ref aM, .long (f_X4_ofAddress 1 0), .long 0, .long 0, .long 0, .long 0, .long 0, .long 0, .int 0, .long 0, .long 0, .long 0, .long 0]))] H := hP
  have hD : va_D A [(aP, .inr (1, [.ref aM, .long (f_X4_ofAddress 1 0), .long 0, .long 0, .long 0, .long 0, .long 0, .long 0, .int 0, .long 0, .long 0, .long 0, .long 0]))] := hD
  refine lv_aload_n hx hb dX2_init_18 rfl (lv_at hl 0 rfl) ?_
  refine lv_iconst (v := 2) hx hb dX2_init_19 (by decide) ?_
  refine lv_lconst (v := 0) hx hb dX2_init_20 (by decide) ?_
  refine q_callSl (As := [.int 2, .long 0]) (rest := [.ref aP]) (c_X4_ofAddress l D 2 0) hfix (va_cwS 2 hts gX2_init_X4_ofAddress rfl rfl rfl (by decide +kernel) ⟨Nat.le_of_ble_eq_true rfl, Nat.le_of_ble_eq_true rfl⟩) rfl hl.1 rfl (Nat.le_of_ble_eq_true rfl) ⟨Nat.zero_le _, Nat.zero_le _⟩ hP hK hS hA [] [] rfl rfl dX2_init_21 (fun H locs hP hS => ?_)
  refine va_put (D := D) (ci := 1) (v := .long (f_X4_ofAddress 2 0)) (ty := .long) (C := RX2) (T := TX2) (N := 13) hx hb hts hin1 tyX2 tyX2_ok nmX2 hown hK hP hD hS 0 rfl rfl 2 (by decide) (hts (.fieldLink RX2 23 "FieldTrace$Processor" "ap" "J") (by decide +kernel)) (fun _ h9 => h9) rfl (by decide +kernel) rfl rfl (Nat.le_of_ble_eq_true rfl) dX2_init_24 (fun H locs hP hD hS => ?_)
  have hP : va_P D vwCl [(aP, .inr (1, [.ref aM, .long (f_X4_ofAddress 1 0), .long (f_X4_ofAddress 2 0), .long 0, .long 0, .long 0, .long 0, .long 0, .int 0, .long 0, .long 0, .long 0, .long 0]))] H := hP
  have hD : va_D A [(aP, .inr (1, [.ref aM, .long (f_X4_ofAddress 1 0), .long (f_X4_ofAddress 2 0), .long 0, .long 0, .long 0, .long 0, .long 0, .int 0, .long 0, .long 0, .long 0, .long 0]))] := hD
  refine lv_aload_n hx hb dX2_init_27 rfl (lv_at hl 0 rfl) ?_
  refine lv_aload_n hx hb dX2_init_28 rfl (lv_at hl 0 rfl) ?_
  refine va_get (D := D) (ci := 1) (v := .long (f_X4_ofAddress 2 0)) (C := RX2) (T := TX2) (N := 13) hx hb hts hin1 hown hK hP 0 rfl rfl 2 (by decide) (hts (.fieldLink RX2 23 "FieldTrace$Processor" "ap" "J") (by decide +kernel)) (fun _ h9 => h9) rfl dX2_init_29 ?_
  refine va_put (D := D) (ci := 1) (v := .long (f_X4_ofAddress 2 0)) (ty := .long) (C := RX2) (T := TX2) (N := 13) hx hb hts hin1 tyX2 tyX2_ok nmX2 hown hK hP hD hS 0 rfl rfl 3 (by decide) (hts (.fieldLink RX2 26 "FieldTrace$Processor" "fp" "J") (by decide +kernel)) (fun _ h9 => h9) rfl (by decide +kernel) rfl rfl (Nat.le_of_ble_eq_true rfl) dX2_init_32 (fun H locs hP hD hS => ?_)
  have hP : va_P D vwCl [(aP, .inr (1, [.ref aM, .long (f_X4_ofAddress 1 0), .long (f_X4_ofAddress 2 0), .long (f_X4_ofAddress 2 0), .long 0, .long 0, .long 0, .long 0, .int 0, .long 0, .long 0, .long 0, .long 0]))] H := hP
  have hD : va_D A [(aP, .inr (1, [.ref aM, .long (f_X4_ofAddress 1 0), .long (f_X4_ofAddress 2 0), .long (f_X4_ofAddress 2 0), .long 0, .long 0, .long 0, .long 0, .int 0, .long 0, .long 0, .long 0, .long 0]))] := hD
  exact W.vret hx hb hr (fun t ht hW => ⟨⟨(), rfl, trivial, by rw [ht]; exact hP, va_K.moved hW.alike hK, hD⟩, hS.F ht⟩) hS.2.2 dX2_init_35 hlocks

/-- the state of a new object, but for what the memory's row and the trace's row hold -/
def q_X0 (S : XS) : Prop := ∃ (mm : Nat → Int64) (tt : TS), (∀ j, j < 320 → mm j = -1) ∧ pT_length tt = 0 ∧ S = (0, (mm, (f_X4_ofAddress 1 0), (f_X4_ofAddress 2 0), (f_X4_ofAddress 2 0), 0, 0, 0, 0, 0, 0, 0, 0, 0), tt)
section QI2
variable {p : Program} {l : Launch} {e : Env} {R : Room} {s : State} {m : MethodId} {args : Array Value} {below : List Frame} {meth : Method} {c : Code} {H : Heap} {locs : List Loc} {cells slots : Nat} {Q : State → Prop}
variable {cc : ByteArray} {pc : Nat} {ls : Array Slot} {rest : List Value} {D : va_G} {A : Nat → Prop} {tys tysc : List (ClassId × FieldType)} {ws wc wr : va_W}
variable {y : MethodName} {bytes : ByteArray} {maxL nL n index mc ms : Nat} {wy wy' : List Cond} {rm : Room} {Ts : List Cond} {own C : String} {As st0 : List Value}
theorem q_callI {S : Type} {post : S → Prop} {Wf Wn : S → va_W} {Kf : S → List (ClassId × FieldType)} {b : Nat} (hM : ∀ sz, Met l y wy rm (q_Pm D tysc wc (.ref b :: As) sz) (va_Qv post (fun u t => va_P D vwCl (Wf u) t.heap ∧ va_K D vwCl (Kf u) t ∧ va_D (va_A wc sz) (Wf u)) (va_A wc sz)) mc ms (va_A wc sz)) (hfix : CallFix p m c cc nL s args Ts own) (cw : CallB R s args own index y bytes maxL none wy rm mc ms n ∧ y.name = "<init>" ∧ (Cond.instanceMethod y).before args s = true) (hn : As.length = n) (hsz : ls.size = nL) (hst : st0 = As.reverse ++ .ref b :: rest) (hW : (rest.map fun v => v.category).sum ≤ 8) (hf : cells + mc ≤ R.cells ∧ slots + ms ≤ R.slots)
    (hP : va_P D vwCl ws H) (hK : va_K D vwCl tys s) (hD : va_D A ws) (hS : va_S A s.heap H locs) (hA : ∀ q, s.heap.size ≤ q → A q) (isC isR isN isT : List Nat) (h1 : isC.map (fun i => ws[i]?) = wc.map some) (h1' : isC.filterMap (fun i => ws[i]?) = wc) (hR' : isR.map (fun i => ws[i]?) = wr.map some) (hnC : va_nd isC = true) (hnR : va_nd isR = true) (hdis : ∀ i ∈ isR, i ∉ isC) (hnN : va_nd isN = true) (hN : ∀ u, isN.map (fun i => (wr ++ Wf u)[i]?) = (Wn u).map some) (hN' : ∀ u, isN.filterMap (fun i => (wr ++ Wf u)[i]?) = Wn u) (h2 : isT.filterMap (fun i => tys[i]?) = tysc) (hdg : decode cc pc = .ok (.invokespecial index, 3))
    (kk : ∀ (u : S) (H1 : Heap) (locs1 : List Loc), post u → va_K D vwCl (tys ++ Kf u) s → va_P D vwCl (Wn u) H1 → va_D A (Wn u) → va_S A s.heap H1 locs1 → W p l e R s m args below meth c H1 locs1 (cells + mc) (slots + ms) Q (F0 m (pc + 3) ls rest)) : W p l e R s m args below meth c H locs cells slots Q (F0 m pc ls st0) := by
  have hPc := hP.sub isC h1'
  have hDc := hD.sub isC hnC h1
  have hKc := hK.sub isT h2
  have hFc := va_free (wc := wc) hD hS hA isC h1
  refine va_callv (va_runI (As := As) (rest := rest) hfix (hM H.size) cw ⟨q_Pm_blind, fun U hU hWm => ⟨rfl, by rw [hU], by rw [hU]; exact hPc, va_K.moved hWm.alike hKc, hDc.weaken (fun _ _ _ _ => trivial)⟩⟩ rfl hn hsz hst (lv_room hW) hdg hf) hS (fun q _ h => hFc q h) hFc (fun u t H1 locs1 ht hvm hw hB hz1 hk1 hS1 => ?_)
  obtain ⟨hP1, hK1, hD1⟩ := hB
  rw [ht] at hP1
  obtain ⟨hP2, hD2⟩ := va_join (wr := wr) hP hD isC isR h1 hR' hnR hdis hk1 hFc hP1 hD1
  exact kk u H1 locs1 hw (hK.app (va_K.moved hvm.symm hK1)) (hP2.sub isN (hN' u)) (hD2.sub isN hnN (hN u)) hS1
end QI2
set_option maxHeartbeats 4000000 in
set_option maxRecDepth 100000 in
theorem c_X6_init (l : Launch) (D : va_G) (aX : Nat) (sz : Nat) : Met l yX6_init wsX6_init ({ frames := 2, cells := 5, slots := 528, locals := 45 }) (q_Pm D [] [(aX, .inr (3, [.null, .null, .null, .int 0]))] [.ref aX] sz) (va_Qv (fun u : (Nat × Nat × Nat × Nat × Nat) × ClassId × XS => q_X0 u.2.2) (fun u t => va_P D vwCl (wX aX u.1.1 u.1.2.1 u.1.2.2.1 u.1.2.2.2.1 u.1.2.2.2.2 u.2.1 u.2.2) t.heap ∧ va_K D vwCl [(u.2.1, .long)] t ∧ va_D (va_A [(aX, .inr (3, [.null, .null, .null, .int 0]))] sz) (wX aX u.1.1 u.1.2.1 u.1.2.2.1 u.1.2.2.2.1 u.1.2.2.2.2 u.2.1 u.2.2)) (va_A [(aX, .inr (3, [.null, .null, .null, .int 0]))] sz)) 5 528 (va_A [(aX, .inr (3, [.null, .null, .null, .int 0]))] sz) := by
  refine q_ofI (cc := cX6_init) (maxL := 1) (ret := none) (plainFor_of_name (by decide)) rfl rfl (Nat.le_of_ble_eq_true rfl) rfl ?_
  intro p e s m below meth c ls hx hb hr hml hown hts hlocks hin hB hl
  obtain ⟨hsz, hP, hK, hD0⟩ := hB
  subst hsz
  have hD := hD0.self (sz := s.heap.size)
  generalize hAe : va_A [(aX, .inr (3, [.null, .null, .null, .int 0]))] s.heap.size = A at hD ⊢
  have hA : ∀ q : Nat, s.heap.size ≤ q → A q := fun q h => by rw [← hAe]; exact Or.inr h
  have hS : va_S A s.heap s.heap [] := va_S.rf
  have hown : s.vm.findClass RX6 = some m.cls := hown
  have hl : lv_has ls 1 [(0, .ref aX)] := hl
  have hin0 : ∀ w ∈ wsX10, w ∈ wsX6_init := by decide +kernel
  have hin1 : ∀ w ∈ wsX20, w ∈ wsX6_init := by decide +kernel
  have hin2 : ∀ w ∈ wsX30, w ∈ wsX6_init := by decide +kernel
  have hin3 : ∀ w ∈ wsX60, w ∈ wsX6_init := by decide +kernel
  have hfix : CallFix p m c cX6_init 1 s [.ref aX].toArray wsX6_init RX6 := ⟨hx, hb, hml, hown, hts⟩
  refine lv_aload_n hx hb dX6_init_0 rfl (lv_at hl 0 rfl) ?_
  refine W.objInit hx hb hown (hts (.methodLink RX6 1 objectInit) (by decide +kernel)) (hts (.instanceMethod objectInit) (by decide +kernel)) (hts (.code objectInit ⟨#[0xb1]⟩ 1 none) (by decide +kernel)) rfl (by rw [hml]; exact hl.1) rfl dX6_init_1 (Nat.le_of_ble_eq_true rfl) (Nat.le_of_ble_eq_true rfl) ?_
  refine W.eq (g2 := F0 m 4 ls []) rfl ?_
  refine lv_aload_n hx hb dX6_init_4 rfl (lv_at hl 0 rfl) ?_
  refine va_new (ci := 0) (fs := [.null]) (C := RX1) (T := TX1) (N := 1) hx hb hts hin0 tyX1 tyX1_ok hown (hts (.classLink RX6 7 RX1) (by decide +kernel)) (hts (.instantiable RX1 1) (by decide +kernel)) (hts (.initialized RX1) (by decide +kernel)) hK hP hD hS hA rfl (fun j hj => by rcases (show j = 0 by omega) with rfl <;> rfl) (by decide) (by decide) dX6_init_5 (fun aM H hP hD hS => ?_)
  have hP : va_P D vwCl [(aX, .inr (3, [.null, .null, .null, .int 0])), (aM, .inr (0, [.null]))] H := hP
  have hD : va_D A [(aX, .inr (3, [.null, .null, .null, .int 0])), (aM, .inr (0, [.null]))] := hD
  refine W.widen (k := 1) (n := 1) (by decide) (by decide) ?_
  refine lv_dup hx hb dX6_init_8 rfl ?_
  refine q_callI (As := []) (rest := [.ref aM, .ref aX]) (wr := [(aX, .inr (3, [.null, .null, .null, .int 0]))]) (Wn := fun (u : Nat × ClassId × (Nat → Int64)) => (aX, .inr (3, [.null, .null, .null, .int 0])) :: wM aM u.1 u.2.1 u.2.2) (Kf := fun (u : Nat × ClassId × (Nat → Int64)) => [(u.2.1, .long)]) (c_X1_init l D aM) hfix (cwI 0 hts gX6_init_X1_init rfl rfl rfl (hts (.initialized RX1) (by decide +kernel)) (hts (.methodLink RX6 9 yX1_init) (by decide +kernel)) (hts (.instanceMethod yX1_init) (by decide +kernel)) rfl (by decide +kernel) ⟨Nat.le_of_ble_eq_true rfl, Nat.le_of_ble_eq_true rfl⟩) rfl hl.1 rfl (Nat.le_of_ble_eq_true rfl) ⟨by decide, by decide⟩ hP hK hD hS hA [1] [0] [0, 1, 2] [] rfl rfl rfl (by decide) (by decide) (by decide) (by decide) (fun _ => rfl) (fun _ => rfl) rfl dX6_init_9 (fun u H locs hm hK hP hD hS => ?_)
  obtain ⟨aC, cJ, mm⟩ := u
  have hP : va_P D vwCl [(aX, .inr (3, [.null, .null, .null, .int 0])), (aM, .inr (0, [.ref aC])), (aC, .inl (cJ, 320, .inr (.inl mm)))] H := hP
  have hD : va_D A [(aX, .inr (3, [.null, .null, .null, .int 0])), (aM, .inr (0, [.ref aC])), (aC, .inl (cJ, 320, .inr (.inl mm)))] := hD
  have hK : va_K D vwCl [(cJ, .long)] s := hK
  have hm : ∀ j, j < 320 → mm j = -1 := hm
  refine W.widen (k := 2) (n := 321) (by decide) (by decide) ?_
  refine va_putF (D := D) (ci := 3) (v := .ref aM) (ty := .object "FieldTrace$Memory") (C := RX6) (T := TX6) (N := 4) hx hb hts hin3 tyX6 tyX6_ok nmX6 hown hK hP hD hS 0 rfl rfl 0 (by decide) (hts (.fieldLink RX6 10 "FieldTrace" "memory" "LFieldTrace$Memory;") (by decide +kernel)) (fun _ h9 => h9) rfl hin rfl (by decide +kernel) rfl rfl (Nat.le_of_ble_eq_true rfl) dX6_init_12 (fun H locs hP hD hS => ?_)
  have hP : va_P D vwCl [(aX, .inr (3, [.ref aM, .null, .null, .int 0])), (aM, .inr (0, [.ref aC])), (aC, .inl (cJ, 320, .inr (.inl mm)))] H := hP
  have hD : va_D A [(aX, .inr (3, [.ref aM, .null, .null, .int 0])), (aM, .inr (0, [.ref aC])), (aC, .inl (cJ, 320, .inr (.inl mm)))] := hD
  refine lv_aload_n hx hb dX6_init_15 rfl (lv_at hl 0 rfl) ?_
  refine va_new (ci := 1) (fs := [.null, .long 0, .long 0, .long 0, .long 0, .long 0, .long 0, .long 0, .int 0, .long 0, .long 0, .long 0, .long 0]) (C := RX2) (T := TX2) (N := 13) hx hb hts hin1 tyX2 tyX2_ok hown (hts (.classLink RX6 16 RX2) (by decide +kernel)) (hts (.instantiable RX2 13) (by decide +kernel)) (hts (.initialized RX2) (by decide +kernel)) hK hP hD hS hA rfl (fun j hj => by rcases (show j = 0 ∨ j = 1 ∨ j = 2 ∨ j = 3 ∨ j = 4 ∨ j = 5 ∨ j = 6 ∨ j = 7 ∨ j = 8 ∨ j = 9 ∨ j = 10 ∨ j = 11 ∨ j = 12 by omega) with rfl | rfl | rfl | rfl | rfl | rfl | rfl | rfl | rfl | rfl | rfl | rfl | rfl <;> rfl) (by decide) (by decide) dX6_init_16 (fun aP H hP hD hS => ?_)
  have hP : va_P D vwCl [(aX, .inr (3, [.ref aM, .null, .null, .int 0])), (aM, .inr (0, [.ref aC])), (aC, .inl (cJ, 320, .inr (.inl mm))), (aP, .inr (1, [.null, .long 0, .long 0, .long 0, .long 0, .long 0, .long 0, .long 0, .int 0, .long 0, .long 0, .long 0, .long 0]))] H := hP
  have hD : va_D A [(aX, .inr (3, [.ref aM, .null, .null, .int 0])), (aM, .inr (0, [.ref aC])), (aC, .inl (cJ, 320, .inr (.inl mm))), (aP, .inr (1, [.null, .long 0, .long 0, .long 0, .long 0, .long 0, .long 0, .long 0, .int 0, .long 0, .long 0, .long 0, .long 0]))] := hD
  refine W.widen (k := 3) (n := 334) (by decide) (by decide) ?_
  refine lv_dup hx hb dX6_init_19 rfl ?_
  refine lv_aload_n hx hb dX6_init_20 rfl (lv_at hl 0 rfl) ?_
  refine va_get (D := D) (ci := 3) (v := .ref aM) (C := RX6) (T := TX6) (N := 4) hx hb hts hin3 hown hK hP 0 rfl rfl 0 (by decide) (hts (.fieldLink RX6 10 "FieldTrace" "memory" "LFieldTrace$Memory;") (by decide +kernel)) (fun _ h9 => h9) rfl dX6_init_21 ?_
  refine q_callI (As := [.ref aM]) (rest := [.ref aP, .ref aX]) (wr := [(aX, .inr (3, [.ref aM, .null, .null, .int 0])), (aM, .inr (0, [.ref aC])), (aC, .inl (cJ, 320, .inr (.inl mm)))]) (Wn := fun _ => [(aX, .inr (3, [.ref aM, .null, .null, .int 0])), (aP, .inr (1, [.ref aM, .long (f_X4_ofAddress 1 0), .long (f_X4_ofAddress 2 0), .long (f_X4_ofAddress 2 0), .long 0, .long 0, .long 0, .long 0, .int 0, .long 0, .long 0, .long 0, .long 0])), (aM, .inr (0, [.ref aC])), (aC, .inl (cJ, 320, .inr (.inl mm)))]) (Kf := fun _ => []) (c_X2_initK l D aP aM) hfix (cwI 1 hts gX6_init_X2_init rfl rfl rfl (hts (.initialized RX2) (by decide +kernel)) (hts (.methodLink RX6 18 yX2_init) (by decide +kernel)) (hts (.instanceMethod yX2_init) (by decide +kernel)) rfl (by decide +kernel) ⟨Nat.le_of_ble_eq_true rfl, Nat.le_of_ble_eq_true rfl⟩) rfl hl.1 rfl (Nat.le_of_ble_eq_true rfl) ⟨by decide, by decide⟩ hP hK hD hS hA [3] [0, 1, 2] [0, 3, 1, 2] [] rfl rfl rfl (by decide) (by decide) (by decide) (by decide) (fun _ => rfl) (fun _ => rfl) rfl dX6_init_24 (fun u H locs _ hK hP hD hS => ?_)
  have hP : va_P D vwCl [(aX, .inr (3, [.ref aM, .null, .null, .int 0])), (aP, .inr (1, [.ref aM, .long (f_X4_ofAddress 1 0), .long (f_X4_ofAddress 2 0), .long (f_X4_ofAddress 2 0), .long 0, .long 0, .long 0, .long 0, .int 0, .long 0, .long 0, .long 0, .long 0])), (aM, .inr (0, [.ref aC])), (aC, .inl (cJ, 320, .inr (.inl mm)))] H := hP
  have hD : va_D A [(aX, .inr (3, [.ref aM, .null, .null, .int 0])), (aP, .inr (1, [.ref aM, .long (f_X4_ofAddress 1 0), .long (f_X4_ofAddress 2 0), .long (f_X4_ofAddress 2 0), .long 0, .long 0, .long 0, .long 0, .int 0, .long 0, .long 0, .long 0, .long 0])), (aM, .inr (0, [.ref aC])), (aC, .inl (cJ, 320, .inr (.inl mm)))] := hD
  have hK : va_K D vwCl [(cJ, .long)] s := hK
  refine va_putF (D := D) (ci := 3) (v := .ref aP) (ty := .object "FieldTrace$Processor") (C := RX6) (T := TX6) (N := 4) hx hb hts hin3 tyX6 tyX6_ok nmX6 hown hK hP hD hS 0 rfl rfl 1 (by decide) (hts (.fieldLink RX6 21 "FieldTrace" "processor" "LFieldTrace$Processor;") (by decide +kernel)) (fun _ h9 => h9) rfl hin rfl (by decide +kernel) rfl rfl (Nat.le_of_ble_eq_true rfl) dX6_init_27 (fun H locs hP hD hS => ?_)
  have hP : va_P D vwCl [(aX, .inr (3, [.ref aM, .ref aP, .null, .int 0])), (aP, .inr (1, [.ref aM, .long (f_X4_ofAddress 1 0), .long (f_X4_ofAddress 2 0), .long (f_X4_ofAddress 2 0), .long 0, .long 0, .long 0, .long 0, .int 0, .long 0, .long 0, .long 0, .long 0])), (aM, .inr (0, [.ref aC])), (aC, .inl (cJ, 320, .inr (.inl mm)))] H := hP
  have hD : va_D A [(aX, .inr (3, [.ref aM, .ref aP, .null, .int 0])), (aP, .inr (1, [.ref aM, .long (f_X4_ofAddress 1 0), .long (f_X4_ofAddress 2 0), .long (f_X4_ofAddress 2 0), .long 0, .long 0, .long 0, .long 0, .int 0, .long 0, .long 0, .long 0, .long 0])), (aM, .inr (0, [.ref aC])), (aC, .inl (cJ, 320, .inr (.inl mm)))] := hD
  refine lv_aload_n hx hb dX6_init_30 rfl (lv_at hl 0 rfl) ?_
  refine va_new (ci := 2) (fs := [.null, .int 0]) (C := RX3) (T := TX3) (N := 2) hx hb hts hin2 tyX3 tyX3_ok hown (hts (.classLink RX6 25 RX3) (by decide +kernel)) (hts (.instantiable RX3 2) (by decide +kernel)) (hts (.initialized RX3) (by decide +kernel)) hK hP hD hS hA rfl (fun j hj => by rcases (show j = 0 ∨ j = 1 by omega) with rfl | rfl <;> rfl) (by decide) (by decide) dX6_init_31 (fun aT H hP hD hS => ?_)
  have hP : va_P D vwCl [(aX, .inr (3, [.ref aM, .ref aP, .null, .int 0])), (aP, .inr (1, [.ref aM, .long (f_X4_ofAddress 1 0), .long (f_X4_ofAddress 2 0), .long (f_X4_ofAddress 2 0), .long 0, .long 0, .long 0, .long 0, .int 0, .long 0, .long 0, .long 0, .long 0])), (aM, .inr (0, [.ref aC])), (aC, .inl (cJ, 320, .inr (.inl mm))), (aT, .inr (2, [.null, .int 0]))] H := hP
  have hD : va_D A [(aX, .inr (3, [.ref aM, .ref aP, .null, .int 0])), (aP, .inr (1, [.ref aM, .long (f_X4_ofAddress 1 0), .long (f_X4_ofAddress 2 0), .long (f_X4_ofAddress 2 0), .long 0, .long 0, .long 0, .long 0, .int 0, .long 0, .long 0, .long 0, .long 0])), (aM, .inr (0, [.ref aC])), (aC, .inl (cJ, 320, .inr (.inl mm))), (aT, .inr (2, [.null, .int 0]))] := hD
  refine W.widen (k := 4) (n := 336) (by decide) (by decide) ?_
  refine lv_dup hx hb dX6_init_34 rfl ?_
  refine q_callI (As := []) (rest := [.ref aT, .ref aX]) (wr := [(aX, .inr (3, [.ref aM, .ref aP, .null, .int 0])), (aP, .inr (1, [.ref aM, .long (f_X4_ofAddress 1 0), .long (f_X4_ofAddress 2 0), .long (f_X4_ofAddress 2 0), .long 0, .long 0, .long 0, .long 0, .int 0, .long 0, .long 0, .long 0, .long 0])), (aM, .inr (0, [.ref aC])), (aC, .inl (cJ, 320, .inr (.inl mm)))]) (Wn := fun (u : Nat × ClassId × TS) => [(aX, .inr (3, [.ref aM, .ref aP, .null, .int 0])), (aP, .inr (1, [.ref aM, .long (f_X4_ofAddress 1 0), .long (f_X4_ofAddress 2 0), .long (f_X4_ofAddress 2 0), .long 0, .long 0, .long 0, .long 0, .int 0, .long 0, .long 0, .long 0, .long 0])), (aM, .inr (0, [.ref aC])), (aC, .inl (cJ, 320, .inr (.inl mm))), (aT, .inr (2, [.ref u.1, .int (pT_length u.2.2)])), (u.1, .inl (u.2.1, 192, .inr (.inl (pT_row u.2.2))))]) (Kf := fun (u : Nat × ClassId × TS) => [(u.2.1, .long)]) (c_X3_init l D aT) hfix (cwI 0 hts gX6_init_X3_init rfl rfl rfl (hts (.initialized RX3) (by decide +kernel)) (hts (.methodLink RX6 27 yX3_init) (by decide +kernel)) (hts (.instanceMethod yX3_init) (by decide +kernel)) rfl (by decide +kernel) ⟨Nat.le_of_ble_eq_true rfl, Nat.le_of_ble_eq_true rfl⟩) rfl hl.1 rfl (Nat.le_of_ble_eq_true rfl) ⟨by decide, by decide⟩ hP hK hD hS hA [4] [0, 1, 2, 3] [0, 1, 2, 3, 4, 5] [] rfl rfl rfl (by decide) (by decide) (by decide) (by decide) (fun _ => rfl) (fun _ => rfl) rfl dX6_init_35 (fun u H locs htt hK hP hD hS => ?_)
  obtain ⟨aR, cJ2, tt⟩ := u
  have htt : pT_length tt = 0 := htt
  have hK : va_K D vwCl [(cJ, .long), (cJ2, .long)] s := hK
  have eJ : cJ2 = cJ := by
    have g1 : s.vm.findClass ("[" ++ (FieldType.long).toString) = some cJ := (hK.2 0 (cJ, .long) rfl).2
    have g2 : s.vm.findClass ("[" ++ (FieldType.long).toString) = some cJ2 := (hK.2 1 (cJ2, .long) rfl).2
    exact Option.some.inj (g2.symm.trans g1)
  subst eJ
  have hK := hK.sub (tys' := [(cJ2, .long)]) [0] rfl
  have hP : va_P D vwCl [(aX, .inr (3, [.ref aM, .ref aP, .null, .int 0])), (aP, .inr (1, [.ref aM, .long (f_X4_ofAddress 1 0), .long (f_X4_ofAddress 2 0), .long (f_X4_ofAddress 2 0), .long 0, .long 0, .long 0, .long 0, .int 0, .long 0, .long 0, .long 0, .long 0])), (aM, .inr (0, [.ref aC])), (aC, .inl (cJ2, 320, .inr (.inl mm))), (aT, .inr (2, [.ref aR, .int (pT_length tt)])), (aR, .inl (cJ2, 192, .inr (.inl (pT_row tt))))] H := hP
  have hD : va_D A [(aX, .inr (3, [.ref aM, .ref aP, .null, .int 0])), (aP, .inr (1, [.ref aM, .long (f_X4_ofAddress 1 0), .long (f_X4_ofAddress 2 0), .long (f_X4_ofAddress 2 0), .long 0, .long 0, .long 0, .long 0, .int 0, .long 0, .long 0, .long 0, .long 0])), (aM, .inr (0, [.ref aC])), (aC, .inl (cJ2, 320, .inr (.inl mm))), (aT, .inr (2, [.ref aR, .int (pT_length tt)])), (aR, .inl (cJ2, 192, .inr (.inl (pT_row tt))))] := hD
  refine W.widen (k := 5) (n := 528) (by decide) (by decide) ?_
  refine va_putF (D := D) (ci := 3) (v := .ref aT) (ty := .object "FieldTrace$Trace") (C := RX6) (T := TX6) (N := 4) hx hb hts hin3 tyX6 tyX6_ok nmX6 hown hK hP hD hS 0 rfl rfl 2 (by decide) (hts (.fieldLink RX6 28 "FieldTrace" "trace" "LFieldTrace$Trace;") (by decide +kernel)) (fun _ h9 => h9) rfl hin rfl (by decide +kernel) rfl rfl (Nat.le_of_ble_eq_true rfl) dX6_init_38 (fun H locs hP hD hS => ?_)
  have hP : va_P D vwCl [(aX, .inr (3, [.ref aM, .ref aP, .ref aT, .int 0])), (aP, .inr (1, [.ref aM, .long (f_X4_ofAddress 1 0), .long (f_X4_ofAddress 2 0), .long (f_X4_ofAddress 2 0), .long 0, .long 0, .long 0, .long 0, .int 0, .long 0, .long 0, .long 0, .long 0])), (aM, .inr (0, [.ref aC])), (aC, .inl (cJ2, 320, .inr (.inl mm))), (aT, .inr (2, [.ref aR, .int (pT_length tt)])), (aR, .inl (cJ2, 192, .inr (.inl (pT_row tt))))] H := hP
  have hD : va_D A [(aX, .inr (3, [.ref aM, .ref aP, .ref aT, .int 0])), (aP, .inr (1, [.ref aM, .long (f_X4_ofAddress 1 0), .long (f_X4_ofAddress 2 0), .long (f_X4_ofAddress 2 0), .long 0, .long 0, .long 0, .long 0, .int 0, .long 0, .long 0, .long 0, .long 0])), (aM, .inr (0, [.ref aC])), (aC, .inl (cJ2, 320, .inr (.inl mm))), (aT, .inr (2, [.ref aR, .int (pT_length tt)])), (aR, .inl (cJ2, 192, .inr (.inl (pT_row tt))))] := hD
  refine lv_aload_n hx hb dX6_init_41 rfl (lv_at hl 0 rfl) ?_
  refine lv_iconst (v := 0) hx hb dX6_init_42 (by decide) ?_
  refine va_put (D := D) (ci := 3) (v := .int 0) (ty := .int) (C := RX6) (T := TX6) (N := 4) hx hb hts hin3 tyX6 tyX6_ok nmX6 hown hK hP hD hS 0 rfl rfl 3 (by decide) (hts (.fieldLink RX6 32 "FieldTrace" "latestFailure" "I") (by decide +kernel)) (fun _ h9 => h9) rfl (by decide +kernel) rfl rfl (Nat.le_of_ble_eq_true rfl) dX6_init_43 (fun H locs hP hD hS => ?_)
  have hP : va_P D vwCl (wX aX aP aM aC aT aR cJ2 (0, (mm, (f_X4_ofAddress 1 0), (f_X4_ofAddress 2 0), (f_X4_ofAddress 2 0), 0, 0, 0, 0, 0, 0, 0, 0, 0), tt)) H := hP
  have hD : va_D A (wX aX aP aM aC aT aR cJ2 (0, (mm, (f_X4_ofAddress 1 0), (f_X4_ofAddress 2 0), (f_X4_ofAddress 2 0), 0, 0, 0, 0, 0, 0, 0, 0, 0), tt)) := hD
  exact W.vret hx hb hr (fun t ht hW => ⟨⟨((aP, aM, aC, aT, aR), cJ2, (0, (mm, (f_X4_ofAddress 1 0), (f_X4_ofAddress 2 0), (f_X4_ofAddress 2 0), 0, 0, 0, 0, 0, 0, 0, 0, 0), tt)), rfl, ⟨mm, tt, hm, htt, rfl⟩, by rw [ht]; exact hP, va_K.moved hW.alike hK, hD⟩, hS.F ht⟩) hS.2.2 dX6_init_46 hlocks
def q_N0 : NS := ((0, (fun _ => 0), (fun _ => 0), (fun _ => 0), (upd (upd (upd (fun _ => 0) 0 1) 1 2) 2 2), (fun _ => 0), 0, 0, 0, 0, 0, 0, 0, (fun _ => 0), (fun _ => 0)) : NS)
set_option maxHeartbeats 4000000 in
set_option maxRecDepth 100000 in
theorem c_X7_init (l : Launch) (D : va_G) (aN : Nat) (sz : Nat) : Met l yX7_init wsX7_init ({ frames := 1, cells := 7, slots := 1562, locals := 12 }) (q_Pm D [] [(aN, .inr (4, [.int 0, .null, .null, .null, .null, .null, .int 0, .int 0, .long 0, .int 0, .int 0, .long 0, .int 0, .null, .null]))] [.ref aN] sz) (va_Qv (fun _ : (Nat × Nat × Nat × Nat × Nat × Nat × Nat) × ClassId × ClassId × ClassId => True) (fun u t => va_P D vwCl (wN aN u.1.1 u.1.2.1 u.1.2.2.1 u.1.2.2.2.1 u.1.2.2.2.2.1 u.1.2.2.2.2.2.1 u.1.2.2.2.2.2.2 u.2.1 u.2.2.1 u.2.2.2 q_N0) t.heap ∧ va_K D vwCl [(u.2.1, .long), (u.2.2.1, .int), (u.2.2.2, .boolean)] t ∧ va_D (va_A [(aN, .inr (4, [.int 0, .null, .null, .null, .null, .null, .int 0, .int 0, .long 0, .int 0, .int 0, .long 0, .int 0, .null, .null]))] sz) (wN aN u.1.1 u.1.2.1 u.1.2.2.1 u.1.2.2.2.1 u.1.2.2.2.2.1 u.1.2.2.2.2.2.1 u.1.2.2.2.2.2.2 u.2.1 u.2.2.1 u.2.2.2 q_N0)) (va_A [(aN, .inr (4, [.int 0, .null, .null, .null, .null, .null, .int 0, .int 0, .long 0, .int 0, .int 0, .long 0, .int 0, .null, .null]))] sz)) 7 1562 (va_A [(aN, .inr (4, [.int 0, .null, .null, .null, .null, .null, .int 0, .int 0, .long 0, .int 0, .int 0, .long 0, .int 0, .null, .null]))] sz) := by
  refine q_ofI (cc := cX7_init) (maxL := 1) (ret := none) (plainFor_of_name (by decide)) rfl rfl (Nat.le_of_ble_eq_true rfl) rfl ?_
  intro p e s m below meth c ls hx hb hr hml hown hts hlocks hin hB hl
  obtain ⟨hsz, hP, hK, hD0⟩ := hB
  subst hsz
  have hD := hD0.self (sz := s.heap.size)
  generalize hAe : va_A [(aN, .inr (4, [.int 0, .null, .null, .null, .null, .null, .int 0, .int 0, .long 0, .int 0, .int 0, .long 0, .int 0, .null, .null]))] s.heap.size = A at hD ⊢
  have hA : ∀ q : Nat, s.heap.size ≤ q → A q := fun q h => by rw [← hAe]; exact Or.inr h
  have hS : va_S A s.heap s.heap [] := va_S.rf
  have hown : s.vm.findClass RX7 = some m.cls := hown
  have hl : lv_has ls 1 [(0, .ref aN)] := hl
  have hin4 : ∀ w ∈ wsX70, w ∈ wsX7_init := by decide +kernel
  refine lv_aload_n hx hb dX7_init_0 rfl (lv_at hl 0 rfl) ?_
  refine W.objInit hx hb hown (hts (.methodLink RX7 1 objectInit) (by decide +kernel)) (hts (.instanceMethod objectInit) (by decide +kernel)) (hts (.code objectInit ⟨#[0xb1]⟩ 1 none) (by decide +kernel)) rfl (by rw [hml]; exact hl.1) rfl dX7_init_1 (Nat.le_of_ble_eq_true rfl) (Nat.le_of_ble_eq_true rfl) ?_
  refine W.eq (g2 := F0 m 4 ls []) rfl ?_
  refine lv_aload_n hx hb dX7_init_4 rfl (lv_at hl 0 rfl) ?_
  refine lv_sipush (v := 384) hx hb dX7_init_5 (by decide) ?_
  refine va_newa (atype := .boolean) (ty := .boolean) (a0 := (384, .inl (fun _ => 0))) (N' := 384) hx hb (hts (.arrayClass .boolean) (by decide +kernel)) rfl hK hP hD hS hA (fun cA => rfl) (by decide) (by decide) (by decide) (by decide) (by decide) dX7_init_8 (fun aIs cZ0 H hK hP hD hS => ?_)
  have hP : va_P D vwCl [(aN, .inr (4, [.int 0, .null, .null, .null, .null, .null, .int 0, .int 0, .long 0, .int 0, .int 0, .long 0, .int 0, .null, .null])), (aIs, .inl (cZ0, 384, .inl (fun _ => 0)))] H := hP
  have hD : va_D A [(aN, .inr (4, [.int 0, .null, .null, .null, .null, .null, .int 0, .int 0, .long 0, .int 0, .int 0, .long 0, .int 0, .null, .null])), (aIs, .inl (cZ0, 384, .inl (fun _ => 0)))] := hD
  have hK : va_K D vwCl [(cZ0, .boolean)] s := hK
  refine W.widen (k := 1) (n := 384) (by decide) (by decide) ?_
  refine va_putF (D := D) (ci := 4) (v := .ref aIs) (ty := .array .boolean) (C := RX7) (T := TX7) (N := 15) hx hb hts hin4 tyX7 tyX7_ok nmX7 hown hK hP hD hS 0 rfl rfl 1 (by decide) (hts (.fieldLink RX7 7 "FieldTraceModel" "isSet" "[Z") (by decide +kernel)) (fun _ h9 => h9) rfl hin rfl (by decide +kernel) rfl rfl (Nat.le_of_ble_eq_true rfl) dX7_init_10 (fun H locs hP hD hS => ?_)
  have hP : va_P D vwCl [(aN, .inr (4, [.int 0, .ref aIs, .null, .null, .null, .null, .int 0, .int 0, .long 0, .int 0, .int 0, .long 0, .int 0, .null, .null])), (aIs, .inl (cZ0, 384, .inl (fun _ => 0)))] H := hP
  have hD : va_D A [(aN, .inr (4, [.int 0, .ref aIs, .null, .null, .null, .null, .int 0, .int 0, .long 0, .int 0, .int 0, .long 0, .int 0, .null, .null])), (aIs, .inl (cZ0, 384, .inl (fun _ => 0)))] := hD
  refine lv_aload_n hx hb dX7_init_13 rfl (lv_at hl 0 rfl) ?_
  refine lv_sipush (v := 384) hx hb dX7_init_14 (by decide) ?_
  refine va_newa (atype := .int) (ty := .int) (a0 := (384, .inl (fun _ => 0))) (N' := 384) hx hb (hts (.arrayClass .int) (by decide +kernel)) rfl hK hP hD hS hA (fun cA => rfl) (by decide) (by decide) (by decide) (by decide) (by decide) dX7_init_17 (fun aKd cI0 H hK hP hD hS => ?_)
  have hP : va_P D vwCl [(aN, .inr (4, [.int 0, .ref aIs, .null, .null, .null, .null, .int 0, .int 0, .long 0, .int 0, .int 0, .long 0, .int 0, .null, .null])), (aIs, .inl (cZ0, 384, .inl (fun _ => 0))), (aKd, .inl (cI0, 384, .inl (fun _ => 0)))] H := hP
  have hD : va_D A [(aN, .inr (4, [.int 0, .ref aIs, .null, .null, .null, .null, .int 0, .int 0, .long 0, .int 0, .int 0, .long 0, .int 0, .null, .null])), (aIs, .inl (cZ0, 384, .inl (fun _ => 0))), (aKd, .inl (cI0, 384, .inl (fun _ => 0)))] := hD
  have hK : va_K D vwCl [(cZ0, .boolean), (cI0, .int)] s := hK
  refine W.widen (k := 2) (n := 768) (by decide) (by decide) ?_
  refine va_putF (D := D) (ci := 4) (v := .ref aKd) (ty := .array .int) (C := RX7) (T := TX7) (N := 15) hx hb hts hin4 tyX7 tyX7_ok nmX7 hown hK hP hD hS 0 rfl rfl 2 (by decide) (hts (.fieldLink RX7 13 "FieldTraceModel" "kind" "[I") (by decide +kernel)) (fun _ h9 => h9) rfl hin rfl (by decide +kernel) rfl rfl (Nat.le_of_ble_eq_true rfl) dX7_init_19 (fun H locs hP hD hS => ?_)
  have hP : va_P D vwCl [(aN, .inr (4, [.int 0, .ref aIs, .ref aKd, .null, .null, .null, .int 0, .int 0, .long 0, .int 0, .int 0, .long 0, .int 0, .null, .null])), (aIs, .inl (cZ0, 384, .inl (fun _ => 0))), (aKd, .inl (cI0, 384, .inl (fun _ => 0)))] H := hP
  have hD : va_D A [(aN, .inr (4, [.int 0, .ref aIs, .ref aKd, .null, .null, .null, .int 0, .int 0, .long 0, .int 0, .int 0, .long 0, .int 0, .null, .null])), (aIs, .inl (cZ0, 384, .inl (fun _ => 0))), (aKd, .inl (cI0, 384, .inl (fun _ => 0)))] := hD
  refine lv_aload_n hx hb dX7_init_22 rfl (lv_at hl 0 rfl) ?_
  refine lv_sipush (v := 384) hx hb dX7_init_23 (by decide) ?_
  refine va_newa (atype := .long) (ty := .long) (a0 := (384, .inr (.inl (fun _ => 0)))) (N' := 384) hx hb (hts (.arrayClass .long) (by decide +kernel)) rfl hK hP hD hS hA (fun cA => rfl) (by decide) (by decide) (by decide) (by decide) (by decide) dX7_init_26 (fun aNu cJ0 H hK hP hD hS => ?_)
  have hP : va_P D vwCl [(aN, .inr (4, [.int 0, .ref aIs, .ref aKd, .null, .null, .null, .int 0, .int 0, .long 0, .int 0, .int 0, .long 0, .int 0, .null, .null])), (aIs, .inl (cZ0, 384, .inl (fun _ => 0))), (aKd, .inl (cI0, 384, .inl (fun _ => 0))), (aNu, .inl (cJ0, 384, .inr (.inl (fun _ => 0))))] H := hP
  have hD : va_D A [(aN, .inr (4, [.int 0, .ref aIs, .ref aKd, .null, .null, .null, .int 0, .int 0, .long 0, .int 0, .int 0, .long 0, .int 0, .null, .null])), (aIs, .inl (cZ0, 384, .inl (fun _ => 0))), (aKd, .inl (cI0, 384, .inl (fun _ => 0))), (aNu, .inl (cJ0, 384, .inr (.inl (fun _ => 0))))] := hD
  have hK : va_K D vwCl [(cZ0, .boolean), (cI0, .int), (cJ0, .long)] s := hK
  refine W.widen (k := 3) (n := 1152) (by decide) (by decide) ?_
  refine va_putF (D := D) (ci := 4) (v := .ref aNu) (ty := .array .long) (C := RX7) (T := TX7) (N := 15) hx hb hts hin4 tyX7 tyX7_ok nmX7 hown hK hP hD hS 0 rfl rfl 3 (by decide) (hts (.fieldLink RX7 17 "FieldTraceModel" "number" "[J") (by decide +kernel)) (fun _ h9 => h9) rfl hin rfl (by decide +kernel) rfl rfl (Nat.le_of_ble_eq_true rfl) dX7_init_28 (fun H locs hP hD hS => ?_)
  have hP : va_P D vwCl [(aN, .inr (4, [.int 0, .ref aIs, .ref aKd, .ref aNu, .null, .null, .int 0, .int 0, .long 0, .int 0, .int 0, .long 0, .int 0, .null, .null])), (aIs, .inl (cZ0, 384, .inl (fun _ => 0))), (aKd, .inl (cI0, 384, .inl (fun _ => 0))), (aNu, .inl (cJ0, 384, .inr (.inl (fun _ => 0))))] H := hP
  have hD : va_D A [(aN, .inr (4, [.int 0, .ref aIs, .ref aKd, .ref aNu, .null, .null, .int 0, .int 0, .long 0, .int 0, .int 0, .long 0, .int 0, .null, .null])), (aIs, .inl (cZ0, 384, .inl (fun _ => 0))), (aKd, .inl (cI0, 384, .inl (fun _ => 0))), (aNu, .inl (cJ0, 384, .inr (.inl (fun _ => 0))))] := hD
  refine lv_aload_n hx hb dX7_init_31 rfl (lv_at hl 0 rfl) ?_
  refine lv_bipush (v := 13) hx hb dX7_init_32 (by decide) ?_
  refine va_newa (atype := .int) (ty := .int) (a0 := (13, .inl (fun _ => 0))) (N' := 13) hx hb (hts (.arrayClass .int) (by decide +kernel)) rfl hK hP hD hS hA (fun cA => rfl) (by decide) (by decide) (by decide) (by decide) (by decide) dX7_init_34 (fun aSg cI1 H hK hP hD hS => ?_)
  have hP : va_P D vwCl [(aN, .inr (4, [.int 0, .ref aIs, .ref aKd, .ref aNu, .null, .null, .int 0, .int 0, .long 0, .int 0, .int 0, .long 0, .int 0, .null, .null])), (aIs, .inl (cZ0, 384, .inl (fun _ => 0))), (aKd, .inl (cI0, 384, .inl (fun _ => 0))), (aNu, .inl (cJ0, 384, .inr (.inl (fun _ => 0)))), (aSg, .inl (cI1, 13, .inl (fun _ => 0)))] H := hP
  have hD : va_D A [(aN, .inr (4, [.int 0, .ref aIs, .ref aKd, .ref aNu, .null, .null, .int 0, .int 0, .long 0, .int 0, .int 0, .long 0, .int 0, .null, .null])), (aIs, .inl (cZ0, 384, .inl (fun _ => 0))), (aKd, .inl (cI0, 384, .inl (fun _ => 0))), (aNu, .inl (cJ0, 384, .inr (.inl (fun _ => 0)))), (aSg, .inl (cI1, 13, .inl (fun _ => 0)))] := hD
  have hK : va_K D vwCl [(cZ0, .boolean), (cI0, .int), (cJ0, .long), (cI1, .int)] s := hK
  refine W.widen (k := 4) (n := 1165) (by decide) (by decide) ?_
  refine va_putF (D := D) (ci := 4) (v := .ref aSg) (ty := .array .int) (C := RX7) (T := TX7) (N := 15) hx hb hts hin4 tyX7 tyX7_ok nmX7 hown hK hP hD hS 0 rfl rfl 4 (by decide) (hts (.fieldLink RX7 21 "FieldTraceModel" "segment" "[I") (by decide +kernel)) (fun _ h9 => h9) rfl hin rfl (by decide +kernel) rfl rfl (Nat.le_of_ble_eq_true rfl) dX7_init_36 (fun H locs hP hD hS => ?_)
  have hP : va_P D vwCl [(aN, .inr (4, [.int 0, .ref aIs, .ref aKd, .ref aNu, .ref aSg, .null, .int 0, .int 0, .long 0, .int 0, .int 0, .long 0, .int 0, .null, .null])), (aIs, .inl (cZ0, 384, .inl (fun _ => 0))), (aKd, .inl (cI0, 384, .inl (fun _ => 0))), (aNu, .inl (cJ0, 384, .inr (.inl (fun _ => 0)))), (aSg, .inl (cI1, 13, .inl (fun _ => 0)))] H := hP
  have hD : va_D A [(aN, .inr (4, [.int 0, .ref aIs, .ref aKd, .ref aNu, .ref aSg, .null, .int 0, .int 0, .long 0, .int 0, .int 0, .long 0, .int 0, .null, .null])), (aIs, .inl (cZ0, 384, .inl (fun _ => 0))), (aKd, .inl (cI0, 384, .inl (fun _ => 0))), (aNu, .inl (cJ0, 384, .inr (.inl (fun _ => 0)))), (aSg, .inl (cI1, 13, .inl (fun _ => 0)))] := hD
  refine lv_aload_n hx hb dX7_init_39 rfl (lv_at hl 0 rfl) ?_
  refine lv_bipush (v := 13) hx hb dX7_init_40 (by decide) ?_
  refine va_newa (atype := .long) (ty := .long) (a0 := (13, .inr (.inl (fun _ => 0)))) (N' := 13) hx hb (hts (.arrayClass .long) (by decide +kernel)) rfl hK hP hD hS hA (fun cA => rfl) (by decide) (by decide) (by decide) (by decide) (by decide) dX7_init_42 (fun aVl cJ1 H hK hP hD hS => ?_)
  have hP : va_P D vwCl [(aN, .inr (4, [.int 0, .ref aIs, .ref aKd, .ref aNu, .ref aSg, .null, .int 0, .int 0, .long 0, .int 0, .int 0, .long 0, .int 0, .null, .null])), (aIs, .inl (cZ0, 384, .inl (fun _ => 0))), (aKd, .inl (cI0, 384, .inl (fun _ => 0))), (aNu, .inl (cJ0, 384, .inr (.inl (fun _ => 0)))), (aSg, .inl (cI1, 13, .inl (fun _ => 0))), (aVl, .inl (cJ1, 13, .inr (.inl (fun _ => 0))))] H := hP
  have hD : va_D A [(aN, .inr (4, [.int 0, .ref aIs, .ref aKd, .ref aNu, .ref aSg, .null, .int 0, .int 0, .long 0, .int 0, .int 0, .long 0, .int 0, .null, .null])), (aIs, .inl (cZ0, 384, .inl (fun _ => 0))), (aKd, .inl (cI0, 384, .inl (fun _ => 0))), (aNu, .inl (cJ0, 384, .inr (.inl (fun _ => 0)))), (aSg, .inl (cI1, 13, .inl (fun _ => 0))), (aVl, .inl (cJ1, 13, .inr (.inl (fun _ => 0))))] := hD
  have hK : va_K D vwCl [(cZ0, .boolean), (cI0, .int), (cJ0, .long), (cI1, .int), (cJ1, .long)] s := hK
  refine W.widen (k := 5) (n := 1178) (by decide) (by decide) ?_
  refine va_putF (D := D) (ci := 4) (v := .ref aVl) (ty := .array .long) (C := RX7) (T := TX7) (N := 15) hx hb hts hin4 tyX7 tyX7_ok nmX7 hown hK hP hD hS 0 rfl rfl 5 (by decide) (hts (.fieldLink RX7 24 "FieldTraceModel" "value" "[J") (by decide +kernel)) (fun _ h9 => h9) rfl hin rfl (by decide +kernel) rfl rfl (Nat.le_of_ble_eq_true rfl) dX7_init_44 (fun H locs hP hD hS => ?_)
  have hP : va_P D vwCl [(aN, .inr (4, [.int 0, .ref aIs, .ref aKd, .ref aNu, .ref aSg, .ref aVl, .int 0, .int 0, .long 0, .int 0, .int 0, .long 0, .int 0, .null, .null])), (aIs, .inl (cZ0, 384, .inl (fun _ => 0))), (aKd, .inl (cI0, 384, .inl (fun _ => 0))), (aNu, .inl (cJ0, 384, .inr (.inl (fun _ => 0)))), (aSg, .inl (cI1, 13, .inl (fun _ => 0))), (aVl, .inl (cJ1, 13, .inr (.inl (fun _ => 0))))] H := hP
  have hD : va_D A [(aN, .inr (4, [.int 0, .ref aIs, .ref aKd, .ref aNu, .ref aSg, .ref aVl, .int 0, .int 0, .long 0, .int 0, .int 0, .long 0, .int 0, .null, .null])), (aIs, .inl (cZ0, 384, .inl (fun _ => 0))), (aKd, .inl (cI0, 384, .inl (fun _ => 0))), (aNu, .inl (cJ0, 384, .inr (.inl (fun _ => 0)))), (aSg, .inl (cI1, 13, .inl (fun _ => 0))), (aVl, .inl (cJ1, 13, .inr (.inl (fun _ => 0))))] := hD
  refine lv_aload_n hx hb dX7_init_47 rfl (lv_at hl 0 rfl) ?_
  refine lv_sipush (v := 192) hx hb dX7_init_48 (by decide) ?_
  refine va_newa (atype := .int) (ty := .int) (a0 := (192, .inl (fun _ => 0))) (N' := 192) hx hb (hts (.arrayClass .int) (by decide +kernel)) rfl hK hP hD hS hA (fun cA => rfl) (by decide) (by decide) (by decide) (by decide) (by decide) dX7_init_51 (fun aTs cI2 H hK hP hD hS => ?_)
  have hP : va_P D vwCl [(aN, .inr (4, [.int 0, .ref aIs, .ref aKd, .ref aNu, .ref aSg, .ref aVl, .int 0, .int 0, .long 0, .int 0, .int 0, .long 0, .int 0, .null, .null])), (aIs, .inl (cZ0, 384, .inl (fun _ => 0))), (aKd, .inl (cI0, 384, .inl (fun _ => 0))), (aNu, .inl (cJ0, 384, .inr (.inl (fun _ => 0)))), (aSg, .inl (cI1, 13, .inl (fun _ => 0))), (aVl, .inl (cJ1, 13, .inr (.inl (fun _ => 0)))), (aTs, .inl (cI2, 192, .inl (fun _ => 0)))] H := hP
  have hD : va_D A [(aN, .inr (4, [.int 0, .ref aIs, .ref aKd, .ref aNu, .ref aSg, .ref aVl, .int 0, .int 0, .long 0, .int 0, .int 0, .long 0, .int 0, .null, .null])), (aIs, .inl (cZ0, 384, .inl (fun _ => 0))), (aKd, .inl (cI0, 384, .inl (fun _ => 0))), (aNu, .inl (cJ0, 384, .inr (.inl (fun _ => 0)))), (aSg, .inl (cI1, 13, .inl (fun _ => 0))), (aVl, .inl (cJ1, 13, .inr (.inl (fun _ => 0)))), (aTs, .inl (cI2, 192, .inl (fun _ => 0)))] := hD
  have hK : va_K D vwCl [(cZ0, .boolean), (cI0, .int), (cJ0, .long), (cI1, .int), (cJ1, .long), (cI2, .int)] s := hK
  refine W.widen (k := 6) (n := 1370) (by decide) (by decide) ?_
  refine va_putF (D := D) (ci := 4) (v := .ref aTs) (ty := .array .int) (C := RX7) (T := TX7) (N := 15) hx hb hts hin4 tyX7 tyX7_ok nmX7 hown hK hP hD hS 0 rfl rfl 13 (by decide) (hts (.fieldLink RX7 27 "FieldTraceModel" "traceSegment" "[I") (by decide +kernel)) (fun _ h9 => h9) rfl hin rfl (by decide +kernel) rfl rfl (Nat.le_of_ble_eq_true rfl) dX7_init_53 (fun H locs hP hD hS => ?_)
  have hP : va_P D vwCl [(aN, .inr (4, [.int 0, .ref aIs, .ref aKd, .ref aNu, .ref aSg, .ref aVl, .int 0, .int 0, .long 0, .int 0, .int 0, .long 0, .int 0, .ref aTs, .null])), (aIs, .inl (cZ0, 384, .inl (fun _ => 0))), (aKd, .inl (cI0, 384, .inl (fun _ => 0))), (aNu, .inl (cJ0, 384, .inr (.inl (fun _ => 0)))), (aSg, .inl (cI1, 13, .inl (fun _ => 0))), (aVl, .inl (cJ1, 13, .inr (.inl (fun _ => 0)))), (aTs, .inl (cI2, 192, .inl (fun _ => 0)))] H := hP
  have hD : va_D A [(aN, .inr (4, [.int 0, .ref aIs, .ref aKd, .ref aNu, .ref aSg, .ref aVl, .int 0, .int 0, .long 0, .int 0, .int 0, .long 0, .int 0, .ref aTs, .null])), (aIs, .inl (cZ0, 384, .inl (fun _ => 0))), (aKd, .inl (cI0, 384, .inl (fun _ => 0))), (aNu, .inl (cJ0, 384, .inr (.inl (fun _ => 0)))), (aSg, .inl (cI1, 13, .inl (fun _ => 0))), (aVl, .inl (cJ1, 13, .inr (.inl (fun _ => 0)))), (aTs, .inl (cI2, 192, .inl (fun _ => 0)))] := hD
  refine lv_aload_n hx hb dX7_init_56 rfl (lv_at hl 0 rfl) ?_
  refine lv_sipush (v := 192) hx hb dX7_init_57 (by decide) ?_
  refine va_newa (atype := .long) (ty := .long) (a0 := (192, .inr (.inl (fun _ => 0)))) (N' := 192) hx hb (hts (.arrayClass .long) (by decide +kernel)) rfl hK hP hD hS hA (fun cA => rfl) (by decide) (by decide) (by decide) (by decide) (by decide) dX7_init_60 (fun aTc cJ2 H hK hP hD hS => ?_)
  have hP : va_P D vwCl [(aN, .inr (4, [.int 0, .ref aIs, .ref aKd, .ref aNu, .ref aSg, .ref aVl, .int 0, .int 0, .long 0, .int 0, .int 0, .long 0, .int 0, .ref aTs, .null])), (aIs, .inl (cZ0, 384, .inl (fun _ => 0))), (aKd, .inl (cI0, 384, .inl (fun _ => 0))), (aNu, .inl (cJ0, 384, .inr (.inl (fun _ => 0)))), (aSg, .inl (cI1, 13, .inl (fun _ => 0))), (aVl, .inl (cJ1, 13, .inr (.inl (fun _ => 0)))), (aTs, .inl (cI2, 192, .inl (fun _ => 0))), (aTc, .inl (cJ2, 192, .inr (.inl (fun _ => 0))))] H := hP
  have hD : va_D A [(aN, .inr (4, [.int 0, .ref aIs, .ref aKd, .ref aNu, .ref aSg, .ref aVl, .int 0, .int 0, .long 0, .int 0, .int 0, .long 0, .int 0, .ref aTs, .null])), (aIs, .inl (cZ0, 384, .inl (fun _ => 0))), (aKd, .inl (cI0, 384, .inl (fun _ => 0))), (aNu, .inl (cJ0, 384, .inr (.inl (fun _ => 0)))), (aSg, .inl (cI1, 13, .inl (fun _ => 0))), (aVl, .inl (cJ1, 13, .inr (.inl (fun _ => 0)))), (aTs, .inl (cI2, 192, .inl (fun _ => 0))), (aTc, .inl (cJ2, 192, .inr (.inl (fun _ => 0))))] := hD
  have hK : va_K D vwCl [(cZ0, .boolean), (cI0, .int), (cJ0, .long), (cI1, .int), (cJ1, .long), (cI2, .int), (cJ2, .long)] s := hK
  refine W.widen (k := 7) (n := 1562) (by decide) (by decide) ?_
  refine va_putF (D := D) (ci := 4) (v := .ref aTc) (ty := .array .long) (C := RX7) (T := TX7) (N := 15) hx hb hts hin4 tyX7 tyX7_ok nmX7 hown hK hP hD hS 0 rfl rfl 14 (by decide) (hts (.fieldLink RX7 30 "FieldTraceModel" "traceCell" "[J") (by decide +kernel)) (fun _ h9 => h9) rfl hin rfl (by decide +kernel) rfl rfl (Nat.le_of_ble_eq_true rfl) dX7_init_62 (fun H locs hP hD hS => ?_)
  have hP : va_P D vwCl [(aN, .inr (4, [.int 0, .ref aIs, .ref aKd, .ref aNu, .ref aSg, .ref aVl, .int 0, .int 0, .long 0, .int 0, .int 0, .long 0, .int 0, .ref aTs, .ref aTc])), (aIs, .inl (cZ0, 384, .inl (fun _ => 0))), (aKd, .inl (cI0, 384, .inl (fun _ => 0))), (aNu, .inl (cJ0, 384, .inr (.inl (fun _ => 0)))), (aSg, .inl (cI1, 13, .inl (fun _ => 0))), (aVl, .inl (cJ1, 13, .inr (.inl (fun _ => 0)))), (aTs, .inl (cI2, 192, .inl (fun _ => 0))), (aTc, .inl (cJ2, 192, .inr (.inl (fun _ => 0))))] H := hP
  have hD : va_D A [(aN, .inr (4, [.int 0, .ref aIs, .ref aKd, .ref aNu, .ref aSg, .ref aVl, .int 0, .int 0, .long 0, .int 0, .int 0, .long 0, .int 0, .ref aTs, .ref aTc])), (aIs, .inl (cZ0, 384, .inl (fun _ => 0))), (aKd, .inl (cI0, 384, .inl (fun _ => 0))), (aNu, .inl (cJ0, 384, .inr (.inl (fun _ => 0)))), (aSg, .inl (cI1, 13, .inl (fun _ => 0))), (aVl, .inl (cJ1, 13, .inr (.inl (fun _ => 0)))), (aTs, .inl (cI2, 192, .inl (fun _ => 0))), (aTc, .inl (cJ2, 192, .inr (.inl (fun _ => 0))))] := hD
  have e1 : cI0 = cI1 := by
    have g1 : s.vm.findClass ("[" ++ (FieldType.int).toString) = some cI0 := (hK.2 1 (cI0, .int) rfl).2
    have g2 : s.vm.findClass ("[" ++ (FieldType.int).toString) = some cI1 := (hK.2 3 (cI1, .int) rfl).2
    exact Option.some.inj (g1.symm.trans g2)
  subst e1
  have e2 : cI0 = cI2 := by
    have g1 : s.vm.findClass ("[" ++ (FieldType.int).toString) = some cI0 := (hK.2 1 (cI0, .int) rfl).2
    have g2 : s.vm.findClass ("[" ++ (FieldType.int).toString) = some cI2 := (hK.2 5 (cI2, .int) rfl).2
    exact Option.some.inj (g1.symm.trans g2)
  subst e2
  have e3 : cJ0 = cJ1 := by
    have g1 : s.vm.findClass ("[" ++ (FieldType.long).toString) = some cJ0 := (hK.2 2 (cJ0, .long) rfl).2
    have g2 : s.vm.findClass ("[" ++ (FieldType.long).toString) = some cJ1 := (hK.2 4 (cJ1, .long) rfl).2
    exact Option.some.inj (g1.symm.trans g2)
  subst e3
  have e4 : cJ0 = cJ2 := by
    have g1 : s.vm.findClass ("[" ++ (FieldType.long).toString) = some cJ0 := (hK.2 2 (cJ0, .long) rfl).2
    have g2 : s.vm.findClass ("[" ++ (FieldType.long).toString) = some cJ2 := (hK.2 6 (cJ2, .long) rfl).2
    exact Option.some.inj (g1.symm.trans g2)
  subst e4
  have hK := hK.sub (tys' := [(cJ0, .long), (cI0, .int), (cZ0, .boolean)]) [2, 1, 0] rfl
  have hP : va_P D vwCl [(aN, .inr (4, [.int 0, .ref aIs, .ref aKd, .ref aNu, .ref aSg, .ref aVl, .int 0, .int 0, .long 0, .int 0, .int 0, .long 0, .int 0, .ref aTs, .ref aTc])), (aIs, .inl (cZ0, 384, .inl (fun _ => 0))), (aKd, .inl (cI0, 384, .inl (fun _ => 0))), (aNu, .inl (cJ0, 384, .inr (.inl (fun _ => 0)))), (aSg, .inl (cI0, 13, .inl (fun _ => 0))), (aVl, .inl (cJ0, 13, .inr (.inl (fun _ => 0)))), (aTs, .inl (cI0, 192, .inl (fun _ => 0))), (aTc, .inl (cJ0, 192, .inr (.inl (fun _ => 0))))] H := hP
  have hD : va_D A [(aN, .inr (4, [.int 0, .ref aIs, .ref aKd, .ref aNu, .ref aSg, .ref aVl, .int 0, .int 0, .long 0, .int 0, .int 0, .long 0, .int 0, .ref aTs, .ref aTc])), (aIs, .inl (cZ0, 384, .inl (fun _ => 0))), (aKd, .inl (cI0, 384, .inl (fun _ => 0))), (aNu, .inl (cJ0, 384, .inr (.inl (fun _ => 0)))), (aSg, .inl (cI0, 13, .inl (fun _ => 0))), (aVl, .inl (cJ0, 13, .inr (.inl (fun _ => 0)))), (aTs, .inl (cI0, 192, .inl (fun _ => 0))), (aTc, .inl (cJ0, 192, .inr (.inl (fun _ => 0))))] := hD
  refine lv_aload_n hx hb dX7_init_65 rfl (lv_at hl 0 rfl) ?_
  refine va_get (D := D) (ci := 4) (v := .ref aSg) (C := RX7) (T := TX7) (N := 15) hx hb hts hin4 hown hK hP 0 rfl rfl 4 (by decide) (hts (.fieldLink RX7 21 "FieldTraceModel" "segment" "[I") (by decide +kernel)) (fun _ h9 => h9) rfl dX7_init_66 ?_
  refine lv_iconst (v := 0) hx hb dX7_init_69 (by decide) ?_
  refine lv_iconst (v := 1) hx hb dX7_init_70 (by decide) ?_
  refine va_iast hx hb hK hP hD hS 4 1 rfl rfl (q_vi (by decide)) dX7_init_71 (fun H locs hP hD hS => ?_)
  have hP : va_P D vwCl [(aN, .inr (4, [.int 0, .ref aIs, .ref aKd, .ref aNu, .ref aSg, .ref aVl, .int 0, .int 0, .long 0, .int 0, .int 0, .long 0, .int 0, .ref aTs, .ref aTc])), (aIs, .inl (cZ0, 384, .inl (fun _ => 0))), (aKd, .inl (cI0, 384, .inl (fun _ => 0))), (aNu, .inl (cJ0, 384, .inr (.inl (fun _ => 0)))), (aSg, .inl (cI0, 13, .inl (upd (fun _ => 0) 0 1))), (aVl, .inl (cJ0, 13, .inr (.inl (fun _ => 0)))), (aTs, .inl (cI0, 192, .inl (fun _ => 0))), (aTc, .inl (cJ0, 192, .inr (.inl (fun _ => 0))))] H := hP
  have hD : va_D A [(aN, .inr (4, [.int 0, .ref aIs, .ref aKd, .ref aNu, .ref aSg, .ref aVl, .int 0, .int 0, .long 0, .int 0, .int 0, .long 0, .int 0, .ref aTs, .ref aTc])), (aIs, .inl (cZ0, 384, .inl (fun _ => 0))), (aKd, .inl (cI0, 384, .inl (fun _ => 0))), (aNu, .inl (cJ0, 384, .inr (.inl (fun _ => 0)))), (aSg, .inl (cI0, 13, .inl (upd (fun _ => 0) 0 1))), (aVl, .inl (cJ0, 13, .inr (.inl (fun _ => 0)))), (aTs, .inl (cI0, 192, .inl (fun _ => 0))), (aTc, .inl (cJ0, 192, .inr (.inl (fun _ => 0))))] := hD
  refine lv_aload_n hx hb dX7_init_72 rfl (lv_at hl 0 rfl) ?_
  refine va_get (D := D) (ci := 4) (v := .ref aSg) (C := RX7) (T := TX7) (N := 15) hx hb hts hin4 hown hK hP 0 rfl rfl 4 (by decide) (hts (.fieldLink RX7 21 "FieldTraceModel" "segment" "[I") (by decide +kernel)) (fun _ h9 => h9) rfl dX7_init_73 ?_
  refine lv_iconst (v := 1) hx hb dX7_init_76 (by decide) ?_
  refine lv_iconst (v := 2) hx hb dX7_init_77 (by decide) ?_
  refine va_iast hx hb hK hP hD hS 4 1 rfl rfl (q_vi (by decide)) dX7_init_78 (fun H locs hP hD hS => ?_)
  have hP : va_P D vwCl [(aN, .inr (4, [.int 0, .ref aIs, .ref aKd, .ref aNu, .ref aSg, .ref aVl, .int 0, .int 0, .long 0, .int 0, .int 0, .long 0, .int 0, .ref aTs, .ref aTc])), (aIs, .inl (cZ0, 384, .inl (fun _ => 0))), (aKd, .inl (cI0, 384, .inl (fun _ => 0))), (aNu, .inl (cJ0, 384, .inr (.inl (fun _ => 0)))), (aSg, .inl (cI0, 13, .inl (upd (upd (fun _ => 0) 0 1) 1 2))), (aVl, .inl (cJ0, 13, .inr (.inl (fun _ => 0)))), (aTs, .inl (cI0, 192, .inl (fun _ => 0))), (aTc, .inl (cJ0, 192, .inr (.inl (fun _ => 0))))] H := hP
  have hD : va_D A [(aN, .inr (4, [.int 0, .ref aIs, .ref aKd, .ref aNu, .ref aSg, .ref aVl, .int 0, .int 0, .long 0, .int 0, .int 0, .long 0, .int 0, .ref aTs, .ref aTc])), (aIs, .inl (cZ0, 384, .inl (fun _ => 0))), (aKd, .inl (cI0, 384, .inl (fun _ => 0))), (aNu, .inl (cJ0, 384, .inr (.inl (fun _ => 0)))), (aSg, .inl (cI0, 13, .inl (upd (upd (fun _ => 0) 0 1) 1 2))), (aVl, .inl (cJ0, 13, .inr (.inl (fun _ => 0)))), (aTs, .inl (cI0, 192, .inl (fun _ => 0))), (aTc, .inl (cJ0, 192, .inr (.inl (fun _ => 0))))] := hD
  refine lv_aload_n hx hb dX7_init_79 rfl (lv_at hl 0 rfl) ?_
  refine va_get (D := D) (ci := 4) (v := .ref aSg) (C := RX7) (T := TX7) (N := 15) hx hb hts hin4 hown hK hP 0 rfl rfl 4 (by decide) (hts (.fieldLink RX7 21 "FieldTraceModel" "segment" "[I") (by decide +kernel)) (fun _ h9 => h9) rfl dX7_init_80 ?_
  refine lv_iconst (v := 2) hx hb dX7_init_83 (by decide) ?_
  refine lv_iconst (v := 2) hx hb dX7_init_84 (by decide) ?_
  refine va_iast hx hb hK hP hD hS 4 1 rfl rfl (q_vi (by decide)) dX7_init_85 (fun H locs hP hD hS => ?_)
  have hP : va_P D vwCl [(aN, .inr (4, [.int 0, .ref aIs, .ref aKd, .ref aNu, .ref aSg, .ref aVl, .int 0, .int 0, .long 0, .int 0, .int 0, .long 0, .int 0, .ref aTs, .ref aTc])), (aIs, .inl (cZ0, 384, .inl (fun _ => 0))), (aKd, .inl (cI0, 384, .inl (fun _ => 0))), (aNu, .inl (cJ0, 384, .inr (.inl (fun _ => 0)))), (aSg, .inl (cI0, 13, .inl (upd (upd (upd (fun _ => 0) 0 1) 1 2) 2 2))), (aVl, .inl (cJ0, 13, .inr (.inl (fun _ => 0)))), (aTs, .inl (cI0, 192, .inl (fun _ => 0))), (aTc, .inl (cJ0, 192, .inr (.inl (fun _ => 0))))] H := hP
  have hD : va_D A [(aN, .inr (4, [.int 0, .ref aIs, .ref aKd, .ref aNu, .ref aSg, .ref aVl, .int 0, .int 0, .long 0, .int 0, .int 0, .long 0, .int 0, .ref aTs, .ref aTc])), (aIs, .inl (cZ0, 384, .inl (fun _ => 0))), (aKd, .inl (cI0, 384, .inl (fun _ => 0))), (aNu, .inl (cJ0, 384, .inr (.inl (fun _ => 0)))), (aSg, .inl (cI0, 13, .inl (upd (upd (upd (fun _ => 0) 0 1) 1 2) 2 2))), (aVl, .inl (cJ0, 13, .inr (.inl (fun _ => 0)))), (aTs, .inl (cI0, 192, .inl (fun _ => 0))), (aTc, .inl (cJ0, 192, .inr (.inl (fun _ => 0))))] := hD
  have hP : va_P D vwCl (wN aN aIs aKd aNu aSg aVl aTs aTc cJ0 cI0 cZ0 q_N0) H := hP
  have hD : va_D A (wN aN aIs aKd aNu aSg aVl aTs aTc cJ0 cI0 cZ0 q_N0) := hD
  exact W.vret hx hb hr (fun t ht hW => ⟨⟨((aIs, aKd, aNu, aSg, aVl, aTs, aTc), cJ0, cI0, cZ0), rfl, trivial, by rw [ht]; exact hP, va_K.moved hW.alike hK, hD⟩, hS.F ht⟩) hS.2.2 dX7_init_86 hlocks

