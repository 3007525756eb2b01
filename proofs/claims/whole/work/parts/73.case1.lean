set_option maxHeartbeats 4000000 in
set_option maxRecDepth 100000 in
theorem k_case0 {p : Program} {l : Launch} {e : Env} {s : State} {m : MethodId} {below : List Frame} {meth : Method} {c : Code} {b L : Nat} {xs : Nat → Int32} {Q : State → Prop} {D : va_G} {A : Nat → Prop} {aX aP aM aC aT aR aN aIs aKd aNu aSg aVl aTs aTc aO : Nat} {cJ cI cZ : ClassId} (hlk : l.stackTraces = false) (C0 : lw_At p s m meth c b L xs) (hA : ∀ q, s.heap.size ≤ q → A q) (hbA : ¬ A b) (hE : q_E s) (hZ : q_Z A s s.heap) (hN3 : q_N3 s) (hK : va_K D vwCl [(cJ, .long), (cI, .int), (cZ, .boolean)] s) {S : XS} {N : NS} {o : Nat → Int64} (hR : RX S N) {i : Nat} {x1 : Int32} (v1 : vp_in (nI i + 1) L) (g1 : xs (nI i + 1).toNatClampNeg = x1) {x2 : Int32} (v2 : vp_in (nI i + 2) L) (g2 : xs (nI i + 2).toNatClampNeg = x2) {x3 : Int32} (v3 : vp_in (nI i + 3) L) (g3 : xs (nI i + 3).toNatClampNeg = x3) {x4 : Int32} (v4 : vp_in (nI i + 4) L) (g4 : xs (nI i + 4).toNatClampNeg = x4) {x5 : Int32} (v5 : vp_in (nI i + 5) L) (g5 : xs (nI i + 5).toNatClampNeg = x5) {cells slots : Nat} (hc1 : cells + 2 ≤ 1055) (hc2 : slots + 12 ≤ 10398) {H : Heap} {locs : List Loc} (hP : va_P D vwCl (wL aX aP aM aC aT aR aN aIs aKd aNu aSg aVl aTs aTc aO cJ cI cZ S N o) H) (hD : va_D A (wL aX aP aM aC aT aR aN aIs aKd aNu aSg aVl aTs aTc aO cJ cI cZ S N o)) (hS : va_S A s.heap H locs) {ls : Array Slot} (hl : lv_has ls 8 [(0, .ref b), (1, .ref aX), (2, .ref aN), (3, .ref aO), (4, .int (nI i))]) (kk : ∀ (S : XS) (N : NS) (o : Nat → Int64) (H : Heap) (locs : List Loc) (ls : Array Slot), RX S N → va_P D vwCl (wL aX aP aM aC aT aR aN aIs aKd aNu aSg aVl aTs aTc aO cJ cI cZ S N o) H → va_D A (wL aX aP aM aC aT aR aN aIs aKd aNu aSg aVl aTs aTc aO cJ cI cZ S N o) → va_S A s.heap H locs → lv_has ls 8 [(0, .ref b), (1, .ref aX), (2, .ref aN), (3, .ref aO), (4, .int (nI i))] → W p l e room_1 s m #[Value.ref b] below meth c H locs (cells + 2) (slots + 12) Q (F0 m 1153 ls [])) : W p l e room_1 s m #[Value.ref b] below meth c H locs cells slots Q (F0 m 116 ls []) := by
  obtain ⟨hx, hb, hr, hml, hown, htt, hX, hbl, hlocks, hgv⟩ := C0
  have hown : s.vm.findClass RL = some m.cls := hown
  have hts : ∀ w ∈ wsL_law, w.before #[Value.ref b] s = true := fun w h => htt w (wsL_law_in w h)
  have hfix : CallFix p m c cL_law 8 s #[Value.ref b] wsL_law RL := ⟨hx, hb, hml, hown, hts⟩
  refine lv_aload_n hx hb dL_law_116 rfl (lv_at hl 1 rfl) ?_
  refine lv_aload_n hx hb dL_law_117 rfl (lv_at hl 0 rfl) ?_
  refine lv_iload hx hb dL_law_118 (lv_at hl 4 rfl) ?_
  refine lv_iconst (v := 1) hx hb dL_law_120 (by decide) ?_
  refine lv_iadd hx hb dL_law_121 ?_
  refine q_sld hx hb hX hbl hbA hS v1 g1 dL_law_122 ?_
  refine lv_aload_n hx hb dL_law_123 rfl (lv_at hl 0 rfl) ?_
  refine lv_iload hx hb dL_law_124 (lv_at hl 4 rfl) ?_
  refine lv_iconst (v := 2) hx hb dL_law_126 (by decide) ?_
  refine lv_iadd hx hb dL_law_127 ?_
  refine q_sld hx hb hX hbl hbA hS v2 g2 dL_law_128 ?_
  refine lv_aload_n hx hb dL_law_129 rfl (lv_at hl 0 rfl) ?_
  refine lv_iload hx hb dL_law_130 (lv_at hl 4 rfl) ?_
  refine lv_iconst (v := 3) hx hb dL_law_132 (by decide) ?_
  refine lv_iadd hx hb dL_law_133 ?_
  refine q_sld hx hb hX hbl hbA hS v3 g3 dL_law_134 ?_
  refine lv_aload_n hx hb dL_law_135 rfl (lv_at hl 0 rfl) ?_
  refine lv_iload hx hb dL_law_136 (lv_at hl 4 rfl) ?_
  refine lv_iconst (v := 4) hx hb dL_law_138 (by decide) ?_
  refine lv_iadd hx hb dL_law_139 ?_
  refine q_sld hx hb hX hbl hbA hS v4 g4 dL_law_140 ?_
  refine lv_aload_n hx hb dL_law_141 rfl (lv_at hl 3 rfl) ?_
  refine q_ycall (As := [.ref aX, .int x1, .int x2, .int x3, .int x4, .ref aO]) (rest := []) (wr := (wN aN aIs aKd aNu aSg aVl aTs aTc cJ cI cZ N)) (Wn := (fun u : XS × (Nat → Int64) => (wL aX aP aM aC aT aR aN aIs aKd aNu aSg aVl aTs aTc aO cJ cI cZ u.1 N u.2))) (c_L_encode l hlk D aX aP aM aC aT aR aO cJ S o x1 x2 x3 x4 (E_encode hR x1 x2 x3 x4).2) hfix (vx_cwSW 6 hts gL_law_L_encode rfl rfl rfl (by decide +kernel) ⟨Nat.le_of_ble_eq_true rfl, Nat.le_of_ble_eq_true rfl⟩) rfl hl.1 rfl (Nat.le_of_ble_eq_true rfl) ⟨by show cells + 1 ≤ 1055; omega, by show slots + 6 ≤ 10398; omega⟩ hP hK hD hS hA hE hZ hN3 [0, 1, 2, 3, 4, 5, 14] [6, 7, 8, 9, 10, 11, 12, 13] [8, 9, 10, 11, 12, 13, 0, 1, 2, 3, 4, 5, 6, 7, 14] [0] rfl rfl rfl (by decide) (by decide) (by decide) (by decide) (fun _ => rfl) (fun _ => rfl) rfl dL_law_142 (fun r u H locs hw hP hD hS => ?_)
  have hP : va_P D vwCl (wL aX aP aM aC aT aR aN aIs aKd aNu aSg aVl aTs aTc aO cJ cI cZ u.1 N u.2) H := hP
  have hD : va_D A (wL aX aP aM aC aT aR aN aIs aKd aNu aSg aVl aTs aTc aO cJ cI cZ u.1 N u.2) := hD
  refine lv_istore (lv' := [(5, .int r), (0, .ref b), (1, .ref aX), (2, .ref aN), (3, .ref aO), (4, .int (nI i))]) hx hb dL_law_145 hl (by decide) rfl (fun ls hl => ?_)
  refine lv_aload_n hx hb dL_law_147 rfl (lv_at hl 3 rfl) ?_
  refine lv_aload_n hx hb dL_law_148 rfl (lv_at hl 1 rfl) ?_
  refine lv_iload hx hb dL_law_149 (lv_at hl 5 rfl) ?_
  refine lv_iconst (v := 1) hx hb dL_law_151 (by decide) ?_
  refine lv_iadd hx hb dL_law_152 ?_
  refine q_sld hx hb hX hbl hbA hS v1 g1 dL_law_153 ?_
  refine lv_aload_n hx hb dL_law_154 rfl (lv_at hl 1 rfl) ?_
  refine lv_iload hx hb dL_law_155 (lv_at hl 5 rfl) ?_
  refine lv_iconst (v := 2) hx hb dL_law_157 (by decide) ?_
  refine lv_iadd hx hb dL_law_158 ?_
  refine q_sld hx hb hX hbl hbA hS v2 g2 dL_law_159 ?_
  refine lv_aload_n hx hb dL_law_160 rfl (lv_at hl 1 rfl) ?_
  refine lv_iload hx hb dL_law_161 (lv_at hl 5 rfl) ?_
  refine lv_iconst (v := 3) hx hb dL_law_163 (by decide) ?_
  refine lv_iadd hx hb dL_law_164 ?_
  refine q_sld hx hb hX hbl hbA hS v3 g3 dL_law_165 ?_
  refine lv_aload_n hx hb dL_law_166 rfl (lv_at hl 1 rfl) ?_
  refine lv_iload hx hb dL_law_167 (lv_at hl 5 rfl) ?_
  refine lv_iconst (v := 4) hx hb dL_law_169 (by decide) ?_
  refine lv_iadd hx hb dL_law_170 ?_
  refine q_sld hx hb hX hbl hbA hS v4 g4 dL_law_171 ?_
  refine q_callMl (As := [.int x1, .int x2, .int x3, .int x4]) (rest := []) (wr := [(aX, .inr (3, [.ref aM, .ref aP, .ref aT, .int (pX_latestFailure u.1)])), (aP, .inr (1, [.ref aM, .long (pP_pc (pX_p u.1)), .long (pP_ap (pX_p u.1)), .long (pP_fp (pX_p u.1)), .long (pP_newPc (pX_p u.1)), .long (pP_newAp (pX_p u.1)), .long (pP_newFp (pX_p u.1)), .long (pP_word (pX_p u.1)), .int (pP_flags (pX_p u.1)), .long (pP_dstPlace (pX_p u.1)), .long (pP_op0Place (pX_p u.1)), .long (pP_op1Place (pX_p u.1)), .long (pP_res (pX_p u.1))])), (aM, .inr (0, [.ref aC])), (aC, .inl (cJ, 320, .inr (.inl (pP_mem (pX_p u.1))))), (aT, .inr (2, [.ref aR, .int (pT_length (pX_t u.1))])), (aR, .inl (cJ, 192, .inr (.inl (pT_row (pX_t u.1))))), (aO, .inl (cJ, 1, .inr (.inl u.2)))]) (Wn := (fun v : NS => (wL aX aP aM aC aT aR aN aIs aKd aNu aSg aVl aTs aTc aO cJ cI cZ u.1 v u.2))) (q0 := 0) (ci := 4) (C := RX7) (c_X7_encode l D aN aIs aKd aNu aSg aVl aTs aTc cJ cI cZ N x1 x2 x3 x4) hfix (cwV 4 hts gL_law_X7_encode rfl rfl rfl (by decide +kernel) ⟨Nat.le_of_ble_eq_true rfl, Nat.le_of_ble_eq_true rfl⟩) rfl hl.1 rfl (Nat.le_of_ble_eq_true rfl) ⟨by show cells + 1 ≤ 1055; omega, by show slots + 6 ≤ 10398; omega⟩ hP hK hD hS hA [6, 7, 8, 9, 10, 11, 12, 13] [0, 1, 2, 3, 4, 5, 14] [0, 1, 2, 3, 4, 5, 7, 8, 9, 10, 11, 12, 13, 14, 6] [0, 1, 2] rfl rfl rfl (by decide) (by decide) (by decide) (by decide) (fun _ => rfl) (fun _ => rfl) rfl rfl rfl rfl dL_law_172 (fun r2 v H locs hw2 hP hD hS => ?_)
  have hJ := J2 (fun z : Int64 => z) (E_encode hR x1 x2 x3 x4).1 (fun _ z => z) hw hw2
  have hP : va_P D vwCl (wL aX aP aM aC aT aR aN aIs aKd aNu aSg aVl aTs aTc aO cJ cI cZ u.1 v u.2) H := hP
  have hD : va_D A (wL aX aP aM aC aT aR aN aIs aKd aNu aSg aVl aTs aTc aO cJ cI cZ u.1 v u.2) := hD
  refine lv_lstore (lv' := [(6, .long r2), (5, .int r), (0, .ref b), (1, .ref aX), (2, .ref aN), (3, .ref aO), (4, .int (nI i))]) hx hb dL_law_175 hl (by decide) rfl (fun ls hl => ?_)
  refine lv_aload_n hx hb dL_law_177 rfl (lv_at hl 4 rfl) ?_
  refine q_callVi (As := []) (rest := []) (q0 := 0) (ci := 4) (C := RX7) (c_X7_thrown l D aN aIs aKd aNu aSg aVl aTs aTc cJ cI cZ v) hfix (cwV 0 hts gL_law_X7_thrown rfl rfl rfl (by decide +kernel) ⟨Nat.le_of_ble_eq_true rfl, Nat.le_of_ble_eq_true rfl⟩) rfl hl.1 rfl (Nat.le_of_ble_eq_true rfl) ⟨by show cells + 1 ≤ 1055; omega, by show slots + 6 ≤ 10398; omega⟩ hP hK hS hA [6, 7, 8, 9, 10, 11, 12, 13] [0, 1, 2] rfl rfl rfl rfl rfl dL_law_178 (fun H locs hP hS => ?_)
  refine lv_iload hx hb dL_law_181 (lv_at hl 1 rfl) ?_
  refine lv_icmp_eq (tgt := 188) hx hb dL_law_183 (by decide) (fun c1 => ?_) (fun c1 => absurd hJ.1 c1)
  refine lv_iload hx hb dL_law_188 (lv_at hl 1 rfl) ?_
  refine lv_if_ne (tgt := 204) hx hb dL_law_190 (by decide) (fun c2 => ?_) (fun c2 => ?_)
  · refine lv_goto (tgt := 1153) hx hb dL_law_204 (by decide) ?_
    refine W.widen (k := cells + 2) (n := slots + 12) (by omega) (by omega) ?_
    exact kk u.1 v u.2 _ _ _ hJ.2.2 hP hD hS (lv_sub hl [2, 3, 4, 5, 6] rfl)
  · refine lv_aload_n hx hb dL_law_193 rfl (lv_at hl 5 rfl) ?_
    refine lv_iconst (v := 0) hx hb dL_law_194 (by decide) ?_
    refine va_lald hx hb hK hP 14 0 rfl rfl (q_vi (by decide)) dL_law_195 ?_
    refine lv_lload hx hb dL_law_196 (lv_at hl 0 rfl) ?_
    refine q_eq (tgt := 204) hx hb dL_law_198 dL_law_199 (by decide) (fun c3 => ?_) (fun c3 => absurd (hJ.2.1 c2) c3)
    refine lv_goto (tgt := 1153) hx hb dL_law_204 (by decide) ?_
    refine W.widen (k := cells + 2) (n := slots + 12) (by omega) (by omega) ?_
    exact kk u.1 v u.2 _ _ _ hJ.2.2 hP hD hS (lv_sub hl [2, 3, 4, 5, 6] rfl)

set_option maxHeartbeats 4000000 in
set_option maxRecDepth 100000 in
theorem k_case1 {p : Program} {l : Launch} {e : Env} {s : State} {m : MethodId} {below : List Frame} {meth : Method} {c : Code} {b L : Nat} {xs : Nat → Int32} {Q : State → Prop} {D : va_G} {A : Nat → Prop} {aX aP aM aC aT aR aN aIs aKd aNu aSg aVl aTs aTc aO : Nat} {cJ cI cZ : ClassId} (hlk : l.stackTraces = false) (C0 : lw_At p s m meth c b L xs) (hA : ∀ q, s.heap.size ≤ q → A q) (hbA : ¬ A b) (hE : q_E s) (hZ : q_Z A s s.heap) (hN3 : q_N3 s) (hK : va_K D vwCl [(cJ, .long), (cI, .int), (cZ, .boolean)] s) {S : XS} {N : NS} {o : Nat → Int64} (hR : RX S N) {i : Nat} {x1 : Int32} (v1 : vp_in (nI i + 1) L) (g1 : xs (nI i + 1).toNatClampNeg = x1) {x2 : Int32} (v2 : vp_in (nI i + 2) L) (g2 : xs (nI i + 2).toNatClampNeg = x2) {x3 : Int32} (v3 : vp_in (nI i + 3) L) (g3 : xs (nI i + 3).toNatClampNeg = x3) {x4 : Int32} (v4 : vp_in (nI i + 4) L) (g4 : xs (nI i + 4).toNatClampNeg = x4) {x5 : Int32} (v5 : vp_in (nI i + 5) L) (g5 : xs (nI i + 5).toNatClampNeg = x5) {cells slots : Nat} (hc1 : cells + 2 ≤ 1055) (hc2 : slots + 12 ≤ 10398) {H : Heap} {locs : List Loc} (hP : va_P D vwCl (wL aX aP aM aC aT aR aN aIs aKd aNu aSg aVl aTs aTc aO cJ cI cZ S N o) H) (hD : va_D A (wL aX aP aM aC aT aR aN aIs aKd aNu aSg aVl aTs aTc aO cJ cI cZ S N o)) (hS : va_S A s.heap H locs) {ls : Array Slot} (hl : lv_has ls 8 [(0, .ref b), (1, .ref aX), (2, .ref aN), (3, .ref aO), (4, .int (nI i))]) (kk : ∀ (S : XS) (N : NS) (o : Nat → Int64) (H : Heap) (locs : List Loc) (ls : Array Slot), RX S N → va_P D vwCl (wL aX aP aM aC aT aR aN aIs aKd aNu aSg aVl aTs aTc aO cJ cI cZ S N o) H → va_D A (wL aX aP aM aC aT aR aN aIs aKd aNu aSg aVl aTs aTc aO cJ cI cZ S N o) → va_S A s.heap H locs → lv_has ls 8 [(0, .ref b), (1, .ref aX), (2, .ref aN), (3, .ref aO), (4, .int (nI i))] → W p l e room_1 s m #[Value.ref b] below meth c H locs (cells + 2) (slots + 12) Q (F0 m 1153 ls [])) : W p l e room_1 s m #[Value.ref b] below meth c H locs cells slots Q (F0 m 207 ls []) := by
  obtain ⟨hx, hb, hr, hml, hown, htt, hX, hbl, hlocks, hgv⟩ := C0
  have hown : s.vm.findClass RL = some m.cls := hown
  have hts : ∀ w ∈ wsL_law, w.before #[Value.ref b] s = true := fun w h => htt w (wsL_law_in w h)
  have hfix : CallFix p m c cL_law 8 s #[Value.ref b] wsL_law RL := ⟨hx, hb, hml, hown, hts⟩
  refine lv_aload_n hx hb dL_law_207 rfl (lv_at hl 1 rfl) ?_
  refine lv_aload_n hx hb dL_law_208 rfl (lv_at hl 0 rfl) ?_
  refine lv_iload hx hb dL_law_209 (lv_at hl 4 rfl) ?_
  refine lv_iconst (v := 1) hx hb dL_law_211 (by decide) ?_
  refine lv_iadd hx hb dL_law_212 ?_
  refine q_sld hx hb hX hbl hbA hS v1 g1 dL_law_213 ?_
  refine lv_i2l hx hb dL_law_214 rfl ?_
  refine lv_bipush (v := 32) hx hb dL_law_215 (by decide) ?_
  refine lv_lshl hx hb dL_law_217 rfl ?_
  refine lv_aload_n hx hb dL_law_218 rfl (lv_at hl 0 rfl) ?_
  refine lv_iload hx hb dL_law_219 (lv_at hl 4 rfl) ?_
  refine lv_iconst (v := 2) hx hb dL_law_221 (by decide) ?_
  refine lv_iadd hx hb dL_law_222 ?_
  refine q_sld hx hb hX hbl hbA hS v2 g2 dL_law_223 ?_
  refine lv_i2l hx hb dL_law_224 rfl ?_
  refine lv_ldc2 (v := 4294967295) hx hb hown (hts (.constantLong RL 81 (4294967295)) (by decide +kernel)) dL_law_225 ?_
  refine lv_land hx hb dL_law_228 ?_
  refine lv_lor hx hb dL_law_229 ?_
  refine lv_aload_n hx hb dL_law_230 rfl (lv_at hl 0 rfl) ?_
  refine lv_iload hx hb dL_law_231 (lv_at hl 4 rfl) ?_
  refine lv_iconst (v := 3) hx hb dL_law_233 (by decide) ?_
  refine lv_iadd hx hb dL_law_234 ?_
  refine q_sld hx hb hX hbl hbA hS v3 g3 dL_law_235 ?_
  refine lv_aload_n hx hb dL_law_236 rfl (lv_at hl 3 rfl) ?_
  refine q_ycall (As := [.ref aX, .long ((((x1 : Int32).toInt64) <<< ((32 : Int32).toInt64 &&& 63)) ||| (((x2 : Int32).toInt64) &&& 4294967295)), .int x3, .ref aO]) (rest := []) (wr := (wN aN aIs aKd aNu aSg aVl aTs aTc cJ cI cZ N)) (Wn := (fun u : XS × (Nat → Int64) => (wL aX aP aM aC aT aR aN aIs aKd aNu aSg aVl aTs aTc aO cJ cI cZ u.1 N u.2))) (c_L_decode l hlk D aX aP aM aC aT aR aO cJ S o ((((x1 : Int32).toInt64) <<< ((32 : Int32).toInt64 &&& 63)) ||| (((x2 : Int32).toInt64) &&& 4294967295)) x3 (E_decode hR ((((x1 : Int32).toInt64) <<< ((32 : Int32).toInt64 &&& 63)) ||| (((x2 : Int32).toInt64) &&& 4294967295)) x3).2) hfix (vx_cwSW 4 hts gL_law_L_decode rfl rfl rfl (by decide +kernel) ⟨Nat.le_of_ble_eq_true rfl, Nat.le_of_ble_eq_true rfl⟩) rfl hl.1 rfl (Nat.le_of_ble_eq_true rfl) ⟨by show cells + 1 ≤ 1055; omega, by show slots + 6 ≤ 10398; omega⟩ hP hK hD hS hA hE hZ hN3 [0, 1, 2, 3, 4, 5, 14] [6, 7, 8, 9, 10, 11, 12, 13] [8, 9, 10, 11, 12, 13, 0, 1, 2, 3, 4, 5, 6, 7, 14] [0] rfl rfl rfl (by decide) (by decide) (by decide) (by decide) (fun _ => rfl) (fun _ => rfl) rfl dL_law_237 (fun r u H locs hw hP hD hS => ?_)
  have hP : va_P D vwCl (wL aX aP aM aC aT aR aN aIs aKd aNu aSg aVl aTs aTc aO cJ cI cZ u.1 N u.2) H := hP
  have hD : va_D A (wL aX aP aM aC aT aR aN aIs aKd aNu aSg aVl aTs aTc aO cJ cI cZ u.1 N u.2) := hD
  refine lv_istore (lv' := [(5, .int r), (0, .ref b), (1, .ref aX), (2, .ref aN), (3, .ref aO), (4, .int (nI i))]) hx hb dL_law_240 hl (by decide) rfl (fun ls hl => ?_)
  refine lv_aload_n hx hb dL_law_242 rfl (lv_at hl 3 rfl) ?_
  refine lv_aload_n hx hb dL_law_243 rfl (lv_at hl 1 rfl) ?_
  refine lv_iload hx hb dL_law_244 (lv_at hl 5 rfl) ?_
  refine lv_iconst (v := 1) hx hb dL_law_246 (by decide) ?_
  refine lv_iadd hx hb dL_law_247 ?_
  refine q_sld hx hb hX hbl hbA hS v1 g1 dL_law_248 ?_
  refine lv_i2l hx hb dL_law_249 rfl ?_
  refine lv_bipush (v := 32) hx hb dL_law_250 (by decide) ?_
  refine lv_lshl hx hb dL_law_252 rfl ?_
  refine lv_aload_n hx hb dL_law_253 rfl (lv_at hl 1 rfl) ?_
  refine lv_iload hx hb dL_law_254 (lv_at hl 5 rfl) ?_
  refine lv_iconst (v := 2) hx hb dL_law_256 (by decide) ?_
  refine lv_iadd hx hb dL_law_257 ?_
  refine q_sld hx hb hX hbl hbA hS v2 g2 dL_law_258 ?_
  refine lv_i2l hx hb dL_law_259 rfl ?_
  refine lv_ldc2 (v := 4294967295) hx hb hown (hts (.constantLong RL 81 (4294967295)) (by decide +kernel)) dL_law_260 ?_
  refine lv_land hx hb dL_law_263 ?_
  refine lv_lor hx hb dL_law_264 ?_
  refine lv_aload_n hx hb dL_law_265 rfl (lv_at hl 1 rfl) ?_
  refine lv_iload hx hb dL_law_266 (lv_at hl 5 rfl) ?_
  refine lv_iconst (v := 3) hx hb dL_law_268 (by decide) ?_
  refine lv_iadd hx hb dL_law_269 ?_
  refine q_sld hx hb hX hbl hbA hS v3 g3 dL_law_270 ?_
  refine q_callMi (As := [.long ((((x1 : Int32).toInt64) <<< ((32 : Int32).toInt64 &&& 63)) ||| (((x2 : Int32).toInt64) &&& 4294967295)), .int x3]) (rest := []) (wr := [(aX, .inr (3, [.ref aM, .ref aP, .ref aT, .int (pX_latestFailure u.1)])), (aP, .inr (1, [.ref aM, .long (pP_pc (pX_p u.1)), .long (pP_ap (pX_p u.1)), .long (pP_fp (pX_p u.1)), .long (pP_newPc (pX_p u.1)), .long (pP_newAp (pX_p u.1)), .long (pP_newFp (pX_p u.1)), .long (pP_word (pX_p u.1)), .int (pP_flags (pX_p u.1)), .long (pP_dstPlace (pX_p u.1)), .long (pP_op0Place (pX_p u.1)), .long (pP_op1Place (pX_p u.1)), .long (pP_res (pX_p u.1))])), (aM, .inr (0, [.ref aC])), (aC, .inl (cJ, 320, .inr (.inl (pP_mem (pX_p u.1))))), (aT, .inr (2, [.ref aR, .int (pT_length (pX_t u.1))])), (aR, .inl (cJ, 192, .inr (.inl (pT_row (pX_t u.1))))), (aO, .inl (cJ, 1, .inr (.inl u.2)))]) (Wn := (fun v : NS => (wL aX aP aM aC aT aR aN aIs aKd aNu aSg aVl aTs aTc aO cJ cI cZ u.1 v u.2))) (q0 := 0) (ci := 4) (C := RX7) (c_X7_decode l D aN aIs aKd aNu aSg aVl aTs aTc cJ cI cZ N ((((x1 : Int32).toInt64) <<< ((32 : Int32).toInt64 &&& 63)) ||| (((x2 : Int32).toInt64) &&& 4294967295)) x3) hfix (cwV 2 hts gL_law_X7_decode rfl rfl rfl (by decide +kernel) ⟨Nat.le_of_ble_eq_true rfl, Nat.le_of_ble_eq_true rfl⟩) rfl hl.1 rfl (Nat.le_of_ble_eq_true rfl) ⟨by show cells + 1 ≤ 1055; omega, by show slots + 6 ≤ 10398; omega⟩ hP hK hD hS hA [6, 7, 8, 9, 10, 11, 12, 13] [0, 1, 2, 3, 4, 5, 14] [0, 1, 2, 3, 4, 5, 7, 8, 9, 10, 11, 12, 13, 14, 6] [0, 1, 2] rfl rfl rfl (by decide) (by decide) (by decide) (by decide) (fun _ => rfl) (fun _ => rfl) rfl rfl rfl rfl dL_law_271 (fun r2 v H locs hw2 hP hD hS => ?_)
  have hJ := J2 (fun z : Int32 => z.toInt64) (E_decode hR ((((x1 : Int32).toInt64) <<< ((32 : Int32).toInt64 &&& 63)) ||| (((x2 : Int32).toInt64) &&& 4294967295)) x3).1 (fun _ z => z) hw hw2
  have hP : va_P D vwCl (wL aX aP aM aC aT aR aN aIs aKd aNu aSg aVl aTs aTc aO cJ cI cZ u.1 v u.2) H := hP
  have hD : va_D A (wL aX aP aM aC aT aR aN aIs aKd aNu aSg aVl aTs aTc aO cJ cI cZ u.1 v u.2) := hD
  refine lv_istore (lv' := [(6, .int r2), (5, .int r), (0, .ref b), (1, .ref aX), (2, .ref aN), (3, .ref aO), (4, .int (nI i))]) hx hb dL_law_274 hl (by decide) rfl (fun ls hl => ?_)
  refine lv_aload_n hx hb dL_law_276 rfl (lv_at hl 4 rfl) ?_
  refine q_callVi (As := []) (rest := []) (q0 := 0) (ci := 4) (C := RX7) (c_X7_thrown l D aN aIs aKd aNu aSg aVl aTs aTc cJ cI cZ v) hfix (cwV 0 hts gL_law_X7_thrown rfl rfl rfl (by decide +kernel) ⟨Nat.le_of_ble_eq_true rfl, Nat.le_of_ble_eq_true rfl⟩) rfl hl.1 rfl (Nat.le_of_ble_eq_true rfl) ⟨by show cells + 1 ≤ 1055; omega, by show slots + 6 ≤ 10398; omega⟩ hP hK hS hA [6, 7, 8, 9, 10, 11, 12, 13] [0, 1, 2] rfl rfl rfl rfl rfl dL_law_277 (fun H locs hP hS => ?_)
  refine lv_iload hx hb dL_law_280 (lv_at hl 1 rfl) ?_
  refine lv_icmp_eq (tgt := 287) hx hb dL_law_282 (by decide) (fun c1 => ?_) (fun c1 => absurd hJ.1 c1)
  refine lv_iload hx hb dL_law_287 (lv_at hl 1 rfl) ?_
  refine lv_if_ne (tgt := 304) hx hb dL_law_289 (by decide) (fun c2 => ?_) (fun c2 => ?_)
  · refine lv_goto (tgt := 1153) hx hb dL_law_304 (by decide) ?_
    refine W.widen (k := cells + 2) (n := slots + 12) (by omega) (by omega) ?_
    exact kk u.1 v u.2 _ _ _ hJ.2.2 hP hD hS (lv_sub hl [2, 3, 4, 5, 6] rfl)
  · refine lv_aload_n hx hb dL_law_292 rfl (lv_at hl 5 rfl) ?_
    refine lv_iconst (v := 0) hx hb dL_law_293 (by decide) ?_
    refine va_lald hx hb hK hP 14 0 rfl rfl (q_vi (by decide)) dL_law_294 ?_
    refine lv_iload hx hb dL_law_295 (lv_at hl 0 rfl) ?_
    refine lv_i2l hx hb dL_law_297 rfl ?_
    refine q_eq (tgt := 304) hx hb dL_law_298 dL_law_299 (by decide) (fun c3 => ?_) (fun c3 => absurd (hJ.2.1 c2) c3)
    refine lv_goto (tgt := 1153) hx hb dL_law_304 (by decide) ?_
    refine W.widen (k := cells + 2) (n := slots + 12) (by omega) (by omega) ?_
    exact kk u.1 v u.2 _ _ _ hJ.2.2 hP hD hS (lv_sub hl [2, 3, 4, 5, 6] rfl)

set_option maxHeartbeats 4000000 in
set_option maxRecDepth 100000 in
theorem k_case2 {p : Program} {l : Launch} {e : Env} {s : State} {m : MethodId} {below : List Frame} {meth : Method} {c : Code} {b L : Nat} {xs : Nat → Int32} {Q : State → Prop} {D : va_G} {A : Nat → Prop} {aX aP aM aC aT aR aN aIs aKd aNu aSg aVl aTs aTc aO : Nat} {cJ cI cZ : ClassId} (hlk : l.stackTraces = false) (C0 : lw_At p s m meth c b L xs) (hA : ∀ q, s.heap.size ≤ q → A q) (hbA : ¬ A b) (hE : q_E s) (hZ : q_Z A s s.heap) (hN3 : q_N3 s) (hK : va_K D vwCl [(cJ, .long), (cI, .int), (cZ, .boolean)] s) {S : XS} {N : NS} {o : Nat → Int64} (hR : RX S N) {i : Nat} {x1 : Int32} (v1 : vp_in (nI i + 1) L) (g1 : xs (nI i + 1).toNatClampNeg = x1) {x2 : Int32} (v2 : vp_in (nI i + 2) L) (g2 : xs (nI i + 2).toNatClampNeg = x2) {x3 : Int32} (v3 : vp_in (nI i + 3) L) (g3 : xs (nI i + 3).toNatClampNeg = x3) {x4 : Int32} (v4 : vp_in (nI i + 4) L) (g4 : xs (nI i + 4).toNatClampNeg = x4) {x5 : Int32} (v5 : vp_in (nI i + 5) L) (g5 : xs (nI i + 5).toNatClampNeg = x5) {cells slots : Nat} (hc1 : cells + 2 ≤ 1055) (hc2 : slots + 12 ≤ 10398) {H : Heap} {locs : List Loc} (hP : va_P D vwCl (wL aX aP aM aC aT aR aN aIs aKd aNu aSg aVl aTs aTc aO cJ cI cZ S N o) H) (hD : va_D A (wL aX aP aM aC aT aR aN aIs aKd aNu aSg aVl aTs aTc aO cJ cI cZ S N o)) (hS : va_S A s.heap H locs) {ls : Array Slot} (hl : lv_has ls 8 [(0, .ref b), (1, .ref aX), (2, .ref aN), (3, .ref aO), (4, .int (nI i))]) (kk : ∀ (S : XS) (N : NS) (o : Nat → Int64) (H : Heap) (locs : List Loc) (ls : Array Slot), RX S N → va_P D vwCl (wL aX aP aM aC aT aR aN aIs aKd aNu aSg aVl aTs aTc aO cJ cI cZ S N o) H → va_D A (wL aX aP aM aC aT aR aN aIs aKd aNu aSg aVl aTs aTc aO cJ cI cZ S N o) → va_S A s.heap H locs → lv_has ls 8 [(0, .ref b), (1, .ref aX), (2, .ref aN), (3, .ref aO), (4, .int (nI i))] → W p l e room_1 s m #[Value.ref b] below meth c H locs (cells + 2) (slots + 12) Q (F0 m 1153 ls [])) : W p l e room_1 s m #[Value.ref b] below meth c H locs cells slots Q (F0 m 307 ls []) := by
  obtain ⟨hx, hb, hr, hml, hown, htt, hX, hbl, hlocks, hgv⟩ := C0
  have hown : s.vm.findClass RL = some m.cls := hown
  have hts : ∀ w ∈ wsL_law, w.before #[Value.ref b] s = true := fun w h => htt w (wsL_law_in w h)
  have hfix : CallFix p m c cL_law 8 s #[Value.ref b] wsL_law RL := ⟨hx, hb, hml, hown, hts⟩
  refine lv_aload_n hx hb dL_law_307 rfl (lv_at hl 1 rfl) ?_
  refine lv_aload_n hx hb dL_law_308 rfl (lv_at hl 0 rfl) ?_
  refine lv_iload hx hb dL_law_309 (lv_at hl 4 rfl) ?_
  refine lv_iconst (v := 1) hx hb dL_law_311 (by decide) ?_
  refine lv_iadd hx hb dL_law_312 ?_
  refine q_sld hx hb hX hbl hbA hS v1 g1 dL_law_313 ?_
  refine lv_aload_n hx hb dL_law_314 rfl (lv_at hl 0 rfl) ?_
  refine lv_iload hx hb dL_law_315 (lv_at hl 4 rfl) ?_
  refine lv_iconst (v := 2) hx hb dL_law_317 (by decide) ?_
  refine lv_iadd hx hb dL_law_318 ?_
  refine q_sld hx hb hX hbl hbA hS v2 g2 dL_law_319 ?_
  refine lv_aload_n hx hb dL_law_320 rfl (lv_at hl 0 rfl) ?_
  refine lv_iload hx hb dL_law_321 (lv_at hl 4 rfl) ?_
  refine lv_iconst (v := 3) hx hb dL_law_323 (by decide) ?_
  refine lv_iadd hx hb dL_law_324 ?_
  refine q_sld hx hb hX hbl hbA hS v3 g3 dL_law_325 ?_
  refine lv_i2l hx hb dL_law_326 rfl ?_
  refine lv_bipush (v := 32) hx hb dL_law_327 (by decide) ?_
  refine lv_lshl hx hb dL_law_329 rfl ?_
  refine lv_aload_n hx hb dL_law_330 rfl (lv_at hl 0 rfl) ?_
  refine lv_iload hx hb dL_law_331 (lv_at hl 4 rfl) ?_
  refine lv_iconst (v := 4) hx hb dL_law_333 (by decide) ?_
  refine lv_iadd hx hb dL_law_334 ?_
  refine q_sld hx hb hX hbl hbA hS v4 g4 dL_law_335 ?_
  refine lv_i2l hx hb dL_law_336 rfl ?_
  refine lv_ldc2 (v := 4294967295) hx hb hown (hts (.constantLong RL 81 (4294967295)) (by decide +kernel)) dL_law_337 ?_
  refine lv_land hx hb dL_law_340 ?_
  refine lv_lor hx hb dL_law_341 ?_
  refine q_ycall (As := [.ref aX, .int x1, .int x2, .long ((((x3 : Int32).toInt64) <<< ((32 : Int32).toInt64 &&& 63)) ||| (((x4 : Int32).toInt64) &&& 4294967295))]) (rest := []) (wr := [(aN, .inr (4, [.int (pN_thrown N), .ref aIs, .ref aKd, .ref aNu, .ref aSg, .ref aVl, .int (pN_there N), .int (pN_gotKind N), .long (pN_got N), .int (pN_trouble N), .int (pN_failure N), .long (pN_word N), .int (pN_rows N), .ref aTs, .ref aTc])), (aIs, .inl (cZ, 384, .inl (pN_isSet N))), (aKd, .inl (cI, 384, .inl (pN_kind N))), (aNu, .inl (cJ, 384, .inr (.inl (pN_number N)))), (aSg, .inl (cI, 13, .inl (pN_segment N))), (aVl, .inl (cJ, 13, .inr (.inl (pN_value N)))), (aTs, .inl (cI, 192, .inl (pN_traceSegment N))), (aTc, .inl (cJ, 192, .inr (.inl (pN_traceCell N)))), (aO, .inl (cJ, 1, .inr (.inl o)))]) (Wn := (fun u : XS => (wL aX aP aM aC aT aR aN aIs aKd aNu aSg aVl aTs aTc aO cJ cI cZ u N o))) (c_L_number l hlk D aX aP aM aC aT aR cJ S x1 x2 ((((x3 : Int32).toInt64) <<< ((32 : Int32).toInt64 &&& 63)) ||| (((x4 : Int32).toInt64) &&& 4294967295)) (E_number hR x1 x2 ((((x3 : Int32).toInt64) <<< ((32 : Int32).toInt64 &&& 63)) ||| (((x4 : Int32).toInt64) &&& 4294967295))).2) hfix (vx_cwSW 4 hts gL_law_L_number rfl rfl rfl (by decide +kernel) ⟨Nat.le_of_ble_eq_true rfl, Nat.le_of_ble_eq_true rfl⟩) rfl hl.1 rfl (Nat.le_of_ble_eq_true rfl) ⟨by show cells + 2 ≤ 1055; omega, by show slots + 12 ≤ 10398; omega⟩ hP hK hD hS hA hE hZ hN3 [0, 1, 2, 3, 4, 5] [6, 7, 8, 9, 10, 11, 12, 13, 14] [9, 10, 11, 12, 13, 14, 0, 1, 2, 3, 4, 5, 6, 7, 8] [0] rfl rfl rfl (by decide) (by decide) (by decide) (by decide) (fun _ => rfl) (fun _ => rfl) rfl dL_law_342 (fun r u H locs hw hP hD hS => ?_)
  have hP : va_P D vwCl (wL aX aP aM aC aT aR aN aIs aKd aNu aSg aVl aTs aTc aO cJ cI cZ u N o) H := hP
  have hD : va_D A (wL aX aP aM aC aT aR aN aIs aKd aNu aSg aVl aTs aTc aO cJ cI cZ u N o) := hD
  refine lv_istore (lv' := [(5, .int r), (0, .ref b), (1, .ref aX), (2, .ref aN), (3, .ref aO), (4, .int (nI i))]) hx hb dL_law_345 hl (by decide) rfl (fun ls hl => ?_)
  refine lv_aload_n hx hb dL_law_347 rfl (lv_at hl 3 rfl) ?_
  refine lv_aload_n hx hb dL_law_348 rfl (lv_at hl 1 rfl) ?_
  refine lv_iload hx hb dL_law_349 (lv_at hl 5 rfl) ?_
  refine lv_iconst (v := 1) hx hb dL_law_351 (by decide) ?_
  refine lv_iadd hx hb dL_law_352 ?_
  refine q_sld hx hb hX hbl hbA hS v1 g1 dL_law_353 ?_
  refine lv_aload_n hx hb dL_law_354 rfl (lv_at hl 1 rfl) ?_
  refine lv_iload hx hb dL_law_355 (lv_at hl 5 rfl) ?_
  refine lv_iconst (v := 2) hx hb dL_law_357 (by decide) ?_
  refine lv_iadd hx hb dL_law_358 ?_
  refine q_sld hx hb hX hbl hbA hS v2 g2 dL_law_359 ?_
  refine lv_aload_n hx hb dL_law_360 rfl (lv_at hl 1 rfl) ?_
  refine lv_iload hx hb dL_law_361 (lv_at hl 5 rfl) ?_
  refine lv_iconst (v := 3) hx hb dL_law_363 (by decide) ?_
  refine lv_iadd hx hb dL_law_364 ?_
  refine q_sld hx hb hX hbl hbA hS v3 g3 dL_law_365 ?_
  refine lv_i2l hx hb dL_law_366 rfl ?_
  refine lv_bipush (v := 32) hx hb dL_law_367 (by decide) ?_
  refine lv_lshl hx hb dL_law_369 rfl ?_
  refine lv_aload_n hx hb dL_law_370 rfl (lv_at hl 1 rfl) ?_
  refine lv_iload hx hb dL_law_371 (lv_at hl 5 rfl) ?_
  refine lv_iconst (v := 4) hx hb dL_law_373 (by decide) ?_
  refine lv_iadd hx hb dL_law_374 ?_
  refine q_sld hx hb hX hbl hbA hS v4 g4 dL_law_375 ?_
  refine lv_i2l hx hb dL_law_376 rfl ?_
  refine lv_ldc2 (v := 4294967295) hx hb hown (hts (.constantLong RL 81 (4294967295)) (by decide +kernel)) dL_law_377 ?_
  refine lv_land hx hb dL_law_380 ?_
  refine lv_lor hx hb dL_law_381 ?_
  refine q_callMv (As := [.int x1, .int x2, .long ((((x3 : Int32).toInt64) <<< ((32 : Int32).toInt64 &&& 63)) ||| (((x4 : Int32).toInt64) &&& 4294967295))]) (rest := []) (wr := [(aX, .inr (3, [.ref aM, .ref aP, .ref aT, .int (pX_latestFailure u)])), (aP, .inr (1, [.ref aM, .long (pP_pc (pX_p u)), .long (pP_ap (pX_p u)), .long (pP_fp (pX_p u)), .long (pP_newPc (pX_p u)), .long (pP_newAp (pX_p u)), .long (pP_newFp (pX_p u)), .long (pP_word (pX_p u)), .int (pP_flags (pX_p u)), .long (pP_dstPlace (pX_p u)), .long (pP_op0Place (pX_p u)), .long (pP_op1Place (pX_p u)), .long (pP_res (pX_p u))])), (aM, .inr (0, [.ref aC])), (aC, .inl (cJ, 320, .inr (.inl (pP_mem (pX_p u))))), (aT, .inr (2, [.ref aR, .int (pT_length (pX_t u))])), (aR, .inl (cJ, 192, .inr (.inl (pT_row (pX_t u))))), (aO, .inl (cJ, 1, .inr (.inl o)))]) (Wn := (fun v : NS => (wL aX aP aM aC aT aR aN aIs aKd aNu aSg aVl aTs aTc aO cJ cI cZ u v o))) (q0 := 0) (ci := 4) (C := RX7) (c_X7_number l D aN aIs aKd aNu aSg aVl aTs aTc cJ cI cZ N x1 x2 ((((x3 : Int32).toInt64) <<< ((32 : Int32).toInt64 &&& 63)) ||| (((x4 : Int32).toInt64) &&& 4294967295))) hfix (cwV 3 hts gL_law_X7_number rfl rfl rfl (by decide +kernel) ⟨Nat.le_of_ble_eq_true rfl, Nat.le_of_ble_eq_true rfl⟩) rfl hl.1 rfl (Nat.le_of_ble_eq_true rfl) ⟨by show cells + 2 ≤ 1055; omega, by show slots + 12 ≤ 10398; omega⟩ hP hK hD hS hA [6, 7, 8, 9, 10, 11, 12, 13] [0, 1, 2, 3, 4, 5, 14] [0, 1, 2, 3, 4, 5, 7, 8, 9, 10, 11, 12, 13, 14, 6] [0, 1, 2] rfl rfl rfl (by decide) (by decide) (by decide) (by decide) (fun _ => rfl) (fun _ => rfl) rfl rfl rfl rfl dL_law_382 (fun v H locs hw2 hP hD hS => ?_)
  have hJ := J1 (E_number hR x1 x2 ((((x3 : Int32).toInt64) <<< ((32 : Int32).toInt64 &&& 63)) ||| (((x4 : Int32).toInt64) &&& 4294967295))).1 hw hw2
  have hP : va_P D vwCl (wL aX aP aM aC aT aR aN aIs aKd aNu aSg aVl aTs aTc aO cJ cI cZ u v o) H := hP
  have hD : va_D A (wL aX aP aM aC aT aR aN aIs aKd aNu aSg aVl aTs aTc aO cJ cI cZ u v o) := hD
  refine lv_aload_n hx hb dL_law_385 rfl (lv_at hl 3 rfl) ?_
  refine q_callVi (As := []) (rest := []) (q0 := 0) (ci := 4) (C := RX7) (c_X7_thrown l D aN aIs aKd aNu aSg aVl aTs aTc cJ cI cZ v) hfix (cwV 0 hts gL_law_X7_thrown rfl rfl rfl (by decide +kernel) ⟨Nat.le_of_ble_eq_true rfl, Nat.le_of_ble_eq_true rfl⟩) rfl hl.1 rfl (Nat.le_of_ble_eq_true rfl) ⟨by show cells + 2 ≤ 1055; omega, by show slots + 12 ≤ 10398; omega⟩ hP hK hS hA [6, 7, 8, 9, 10, 11, 12, 13] [0, 1, 2] rfl rfl rfl rfl rfl dL_law_386 (fun H locs hP hS => ?_)
  refine lv_iload hx hb dL_law_389 (lv_at hl 0 rfl) ?_
  refine lv_icmp_eq (tgt := 396) hx hb dL_law_391 (by decide) (fun c1 => ?_) (fun c1 => absurd hJ.1 c1)
  refine lv_goto (tgt := 1153) hx hb dL_law_396 (by decide) ?_
  exact kk u v o _ _ _ hJ.2 hP hD hS (lv_sub hl [1, 2, 3, 4, 5] rfl)

set_option maxHeartbeats 4000000 in
set_option maxRecDepth 100000 in
theorem k_case3 {p : Program} {l : Launch} {e : Env} {s : State} {m : MethodId} {below : List Frame} {meth : Method} {c : Code} {b L : Nat} {xs : Nat → Int32} {Q : State → Prop} {D : va_G} {A : Nat → Prop} {aX aP aM aC aT aR aN aIs aKd aNu aSg aVl aTs aTc aO : Nat} {cJ cI cZ : ClassId} (hlk : l.stackTraces = false) (C0 : lw_At p s m meth c b L xs) (hA : ∀ q, s.heap.size ≤ q → A q) (hbA : ¬ A b) (hE : q_E s) (hZ : q_Z A s s.heap) (hN3 : q_N3 s) (hK : va_K D vwCl [(cJ, .long), (cI, .int), (cZ, .boolean)] s) {S : XS} {N : NS} {o : Nat → Int64} (hR : RX S N) {i : Nat} {x1 : Int32} (v1 : vp_in (nI i + 1) L) (g1 : xs (nI i + 1).toNatClampNeg = x1) {x2 : Int32} (v2 : vp_in (nI i + 2) L) (g2 : xs (nI i + 2).toNatClampNeg = x2) {x3 : Int32} (v3 : vp_in (nI i + 3) L) (g3 : xs (nI i + 3).toNatClampNeg = x3) {x4 : Int32} (v4 : vp_in (nI i + 4) L) (g4 : xs (nI i + 4).toNatClampNeg = x4) {x5 : Int32} (v5 : vp_in (nI i + 5) L) (g5 : xs (nI i + 5).toNatClampNeg = x5) {cells slots : Nat} (hc1 : cells + 2 ≤ 1055) (hc2 : slots + 12 ≤ 10398) {H : Heap} {locs : List Loc} (hP : va_P D vwCl (wL aX aP aM aC aT aR aN aIs aKd aNu aSg aVl aTs aTc aO cJ cI cZ S N o) H) (hD : va_D A (wL aX aP aM aC aT aR aN aIs aKd aNu aSg aVl aTs aTc aO cJ cI cZ S N o)) (hS : va_S A s.heap H locs) {ls : Array Slot} (hl : lv_has ls 8 [(0, .ref b), (1, .ref aX), (2, .ref aN), (3, .ref aO), (4, .int (nI i))]) (kk : ∀ (S : XS) (N : NS) (o : Nat → Int64) (H : Heap) (locs : List Loc) (ls : Array Slot), RX S N → va_P D vwCl (wL aX aP aM aC aT aR aN aIs aKd aNu aSg aVl aTs aTc aO cJ cI cZ S N o) H → va_D A (wL aX aP aM aC aT aR aN aIs aKd aNu aSg aVl aTs aTc aO cJ cI cZ S N o) → va_S A s.heap H locs → lv_has ls 8 [(0, .ref b), (1, .ref aX), (2, .ref aN), (3, .ref aO), (4, .int (nI i))] → W p l e room_1 s m #[Value.ref b] below meth c H locs (cells + 2) (slots + 12) Q (F0 m 1153 ls [])) : W p l e room_1 s m #[Value.ref b] below meth c H locs cells slots Q (F0 m 399 ls []) := by
  obtain ⟨hx, hb, hr, hml, hown, htt, hX, hbl, hlocks, hgv⟩ := C0
  have hown : s.vm.findClass RL = some m.cls := hown
  have hts : ∀ w ∈ wsL_law, w.before #[Value.ref b] s = true := fun w h => htt w (wsL_law_in w h)
  have hfix : CallFix p m c cL_law 8 s #[Value.ref b] wsL_law RL := ⟨hx, hb, hml, hown, hts⟩
  refine lv_aload_n hx hb dL_law_399 rfl (lv_at hl 1 rfl) ?_
  refine lv_aload_n hx hb dL_law_400 rfl (lv_at hl 0 rfl) ?_
  refine lv_iload hx hb dL_law_401 (lv_at hl 4 rfl) ?_
  refine lv_iconst (v := 1) hx hb dL_law_403 (by decide) ?_
  refine lv_iadd hx hb dL_law_404 ?_
  refine q_sld hx hb hX hbl hbA hS v1 g1 dL_law_405 ?_
  refine lv_aload_n hx hb dL_law_406 rfl (lv_at hl 0 rfl) ?_
  refine lv_iload hx hb dL_law_407 (lv_at hl 4 rfl) ?_
  refine lv_iconst (v := 2) hx hb dL_law_409 (by decide) ?_
  refine lv_iadd hx hb dL_law_410 ?_
  refine q_sld hx hb hX hbl hbA hS v2 g2 dL_law_411 ?_
  refine lv_aload_n hx hb dL_law_412 rfl (lv_at hl 0 rfl) ?_
  refine lv_iload hx hb dL_law_413 (lv_at hl 4 rfl) ?_
  refine lv_iconst (v := 3) hx hb dL_law_415 (by decide) ?_
  refine lv_iadd hx hb dL_law_416 ?_
  refine q_sld hx hb hX hbl hbA hS v3 g3 dL_law_417 ?_
  refine lv_aload_n hx hb dL_law_418 rfl (lv_at hl 0 rfl) ?_
  refine lv_iload hx hb dL_law_419 (lv_at hl 4 rfl) ?_
  refine lv_iconst (v := 4) hx hb dL_law_421 (by decide) ?_
  refine lv_iadd hx hb dL_law_422 ?_
  refine q_sld hx hb hX hbl hbA hS v4 g4 dL_law_423 ?_
  refine q_ycall (As := [.ref aX, .int x1, .int x2, .int x3, .int x4]) (rest := []) (wr := [(aN, .inr (4, [.int (pN_thrown N), .ref aIs, .ref aKd, .ref aNu, .ref aSg, .ref aVl, .int (pN_there N), .int (pN_gotKind N), .long (pN_got N), .int (pN_trouble N), .int (pN_failure N), .long (pN_word N), .int (pN_rows N), .ref aTs, .ref aTc])), (aIs, .inl (cZ, 384, .inl (pN_isSet N))), (aKd, .inl (cI, 384, .inl (pN_kind N))), (aNu, .inl (cJ, 384, .inr (.inl (pN_number N)))), (aSg, .inl (cI, 13, .inl (pN_segment N))), (aVl, .inl (cJ, 13, .inr (.inl (pN_value N)))), (aTs, .inl (cI, 192, .inl (pN_traceSegment N))), (aTc, .inl (cJ, 192, .inr (.inl (pN_traceCell N)))), (aO, .inl (cJ, 1, .inr (.inl o)))]) (Wn := (fun u : XS => (wL aX aP aM aC aT aR aN aIs aKd aNu aSg aVl aTs aTc aO cJ cI cZ u N o))) (c_L_address l hlk D aX aP aM aC aT aR cJ S x1 x2 x3 x4 (E_address hR x1 x2 x3 x4).2) hfix (vx_cwSW 5 hts gL_law_L_address rfl rfl rfl (by decide +kernel) ⟨Nat.le_of_ble_eq_true rfl, Nat.le_of_ble_eq_true rfl⟩) rfl hl.1 rfl (Nat.le_of_ble_eq_true rfl) ⟨by show cells + 2 ≤ 1055; omega, by show slots + 12 ≤ 10398; omega⟩ hP hK hD hS hA hE hZ hN3 [0, 1, 2, 3, 4, 5] [6, 7, 8, 9, 10, 11, 12, 13, 14] [9, 10, 11, 12, 13, 14, 0, 1, 2, 3, 4, 5, 6, 7, 8] [0] rfl rfl rfl (by decide) (by decide) (by decide) (by decide) (fun _ => rfl) (fun _ => rfl) rfl dL_law_424 (fun r u H locs hw hP hD hS => ?_)
  have hP : va_P D vwCl (wL aX aP aM aC aT aR aN aIs aKd aNu aSg aVl aTs aTc aO cJ cI cZ u N o) H := hP
  have hD : va_D A (wL aX aP aM aC aT aR aN aIs aKd aNu aSg aVl aTs aTc aO cJ cI cZ u N o) := hD
  refine lv_istore (lv' := [(5, .int r), (0, .ref b), (1, .ref aX), (2, .ref aN), (3, .ref aO), (4, .int (nI i))]) hx hb dL_law_427 hl (by decide) rfl (fun ls hl => ?_)
  refine lv_aload_n hx hb dL_law_429 rfl (lv_at hl 3 rfl) ?_
  refine lv_aload_n hx hb dL_law_430 rfl (lv_at hl 1 rfl) ?_
  refine lv_iload hx hb dL_law_431 (lv_at hl 5 rfl) ?_
  refine lv_iconst (v := 1) hx hb dL_law_433 (by decide) ?_
  refine lv_iadd hx hb dL_law_434 ?_
  refine q_sld hx hb hX hbl hbA hS v1 g1 dL_law_435 ?_
  refine lv_aload_n hx hb dL_law_436 rfl (lv_at hl 1 rfl) ?_
  refine lv_iload hx hb dL_law_437 (lv_at hl 5 rfl) ?_
  refine lv_iconst (v := 2) hx hb dL_law_439 (by decide) ?_
  refine lv_iadd hx hb dL_law_440 ?_
  refine q_sld hx hb hX hbl hbA hS v2 g2 dL_law_441 ?_
  refine lv_aload_n hx hb dL_law_442 rfl (lv_at hl 1 rfl) ?_
  refine lv_iload hx hb dL_law_443 (lv_at hl 5 rfl) ?_
  refine lv_iconst (v := 3) hx hb dL_law_445 (by decide) ?_
  refine lv_iadd hx hb dL_law_446 ?_
  refine q_sld hx hb hX hbl hbA hS v3 g3 dL_law_447 ?_
  refine lv_aload_n hx hb dL_law_448 rfl (lv_at hl 1 rfl) ?_
  refine lv_iload hx hb dL_law_449 (lv_at hl 5 rfl) ?_
  refine lv_iconst (v := 4) hx hb dL_law_451 (by decide) ?_
  refine lv_iadd hx hb dL_law_452 ?_
  refine q_sld hx hb hX hbl hbA hS v4 g4 dL_law_453 ?_
  refine q_callMv (As := [.int x1, .int x2, .int x3, .int x4]) (rest := []) (wr := [(aX, .inr (3, [.ref aM, .ref aP, .ref aT, .int (pX_latestFailure u)])), (aP, .inr (1, [.ref aM, .long (pP_pc (pX_p u)), .long (pP_ap (pX_p u)), .long (pP_fp (pX_p u)), .long (pP_newPc (pX_p u)), .long (pP_newAp (pX_p u)), .long (pP_newFp (pX_p u)), .long (pP_word (pX_p u)), .int (pP_flags (pX_p u)), .long (pP_dstPlace (pX_p u)), .long (pP_op0Place (pX_p u)), .long (pP_op1Place (pX_p u)), .long (pP_res (pX_p u))])), (aM, .inr (0, [.ref aC])), (aC, .inl (cJ, 320, .inr (.inl (pP_mem (pX_p u))))), (aT, .inr (2, [.ref aR, .int (pT_length (pX_t u))])), (aR, .inl (cJ, 192, .inr (.inl (pT_row (pX_t u))))), (aO, .inl (cJ, 1, .inr (.inl o)))]) (Wn := (fun v : NS => (wL aX aP aM aC aT aR aN aIs aKd aNu aSg aVl aTs aTc aO cJ cI cZ u v o))) (q0 := 0) (ci := 4) (C := RX7) (c_X7_address l D aN aIs aKd aNu aSg aVl aTs aTc cJ cI cZ N x1 x2 x3 x4) hfix (cwV 4 hts gL_law_X7_address rfl rfl rfl (by decide +kernel) ⟨Nat.le_of_ble_eq_true rfl, Nat.le_of_ble_eq_true rfl⟩) rfl hl.1 rfl (Nat.le_of_ble_eq_true rfl) ⟨by show cells + 2 ≤ 1055; omega, by show slots + 12 ≤ 10398; omega⟩ hP hK hD hS hA [6, 7, 8, 9, 10, 11, 12, 13] [0, 1, 2, 3, 4, 5, 14] [0, 1, 2, 3, 4, 5, 7, 8, 9, 10, 11, 12, 13, 14, 6] [0, 1, 2] rfl rfl rfl (by decide) (by decide) (by decide) (by decide) (fun _ => rfl) (fun _ => rfl) rfl rfl rfl rfl dL_law_454 (fun v H locs hw2 hP hD hS => ?_)
  have hJ := J1 (E_address hR x1 x2 x3 x4).1 hw hw2
  have hP : va_P D vwCl (wL aX aP aM aC aT aR aN aIs aKd aNu aSg aVl aTs aTc aO cJ cI cZ u v o) H := hP
  have hD : va_D A (wL aX aP aM aC aT aR aN aIs aKd aNu aSg aVl aTs aTc aO cJ cI cZ u v o) := hD
  refine lv_aload_n hx hb dL_law_457 rfl (lv_at hl 3 rfl) ?_
  refine q_callVi (As := []) (rest := []) (q0 := 0) (ci := 4) (C := RX7) (c_X7_thrown l D aN aIs aKd aNu aSg aVl aTs aTc cJ cI cZ v) hfix (cwV 0 hts gL_law_X7_thrown rfl rfl rfl (by decide +kernel) ⟨Nat.le_of_ble_eq_true rfl, Nat.le_of_ble_eq_true rfl⟩) rfl hl.1 rfl (Nat.le_of_ble_eq_true rfl) ⟨by show cells + 2 ≤ 1055; omega, by show slots + 12 ≤ 10398; omega⟩ hP hK hS hA [6, 7, 8, 9, 10, 11, 12, 13] [0, 1, 2] rfl rfl rfl rfl rfl dL_law_458 (fun H locs hP hS => ?_)
  refine lv_iload hx hb dL_law_461 (lv_at hl 0 rfl) ?_
  refine lv_icmp_eq (tgt := 468) hx hb dL_law_463 (by decide) (fun c1 => ?_) (fun c1 => absurd hJ.1 c1)
  refine lv_goto (tgt := 1153) hx hb dL_law_468 (by decide) ?_
  exact kk u v o _ _ _ hJ.2 hP hD hS (lv_sub hl [1, 2, 3, 4, 5] rfl)
