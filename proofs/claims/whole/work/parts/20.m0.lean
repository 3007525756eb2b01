
theorem q_fb {x : Int32} (h : x = 0 ∨ x = 1) : fits .boolean (.int x) = true := by rcases h with rfl | rfl <;> rfl
theorem q_vi {x : Int32} {n : Nat} (h : (decide (0 ≤ x.toInt) && decide (x.toInt < (n : Int))) = true) : vp_in x n := by
  simp only [Bool.and_eq_true, decide_eq_true_eq] at h
  exact vp_in_iff.mpr h
theorem n_euc {a b : Int64} {n : Nat} (h : ¬ b = 0) (hm : b.toInt.natAbs < n + 1) : (a - a / b * b).toInt.natAbs < n := by
  have e0 : (a - a / b * b).toInt = a.toInt.tmod b.toInt := by
    have t : (a.toInt.tmod b.toInt).natAbs = a.toInt.natAbs % b.toInt.natAbs := Int.natAbs_tmod _ _
    have t2 := Nat.mod_le a.toInt.natAbs b.toInt.natAbs
    have t3 : (a.toInt.tmod b.toInt).natAbs < b.toInt.natAbs := by
      rw [t]; exact Nat.mod_lt _ (Int.natAbs_pos.mpr (fun z => h (Int64.toInt_inj.mp z)))
    have b1 := b.le_toInt
    have b2 := b.toInt_lt
    rw [Int64.toInt_sub, Int64.toInt_mul, Int64.toInt_div, Int.bmod_mul_bmod, Int.sub_bmod_bmod, Int.mul_comm, ← Int.tmod_def]
    exact Int.bmod_eq_of_le (by omega) (by omega)
  rw [e0, Int.natAbs_tmod]
  have h1 : b.toInt ≠ 0 := fun z => h (Int64.toInt_inj.mp z)
  have h2 : 0 < b.toInt.natAbs := Int.natAbs_pos.mpr h1
  have h3 := Nat.mod_lt a.toInt.natAbs h2
  omega
theorem n_dec0 {x : Int32} {n : Nat} (h : ¬ x < 0) (hm : (x.toInt + 1).toNat < n + 1) : ((x + (-1)).toInt + 1).toNat < n := by
  have h1 := q_nlt h
  rw [show (0 : Int32).toInt = 0 from rfl] at h1
  have h2 := x.toInt_lt
  rw [Int32.toInt_add, show (-1 : Int32).toInt = -1 from rfl, Int.bmod_eq_of_le (by omega) (by omega)]
  omega
theorem n_inc0 {x b : Int32} (h0 : 0 ≤ x) (h : ¬ b ≤ x) : 0 ≤ x + 1 := by
  rw [Int32.le_iff_toInt_le] at h0 ⊢
  rw [q_up h]
  rw [show (0 : Int32).toInt = 0 from rfl] at h0 ⊢
  omega
theorem n_inx {x b : Int32} {N : Nat} (hb : b.toInt = N) (h0 : 0 ≤ x) (h : ¬ b ≤ x) : vp_in x N := by
  have h1 := q_nle h
  rw [Int32.le_iff_toInt_le, show (0 : Int32).toInt = 0 from rfl] at h0
  exact vp_in_iff.mpr ⟨h0, by omega⟩
theorem n_c {s k : Int32} (hs : vp_in s 6) (hk : vp_in k 64) : vp_in (64 * s + k) 384 := by
  obtain ⟨j, hj, rfl⟩ := vp_in_of hs (by decide)
  obtain ⟨i, hi, rfl⟩ := vp_in_of hk (by decide)
  rw [show (64 : Int32) = nI 64 from rfl, pk_mul, nI_add]
  exact vp_in_nI (by omega) (by decide)

def f_X7_out (a0 : Int32) (a1 : Int32) (a2 : Int32) : Int32 :=
  (if a0 < a1 then 1 else (if a0 ≤ a2 then 0 else 1))

set_option maxHeartbeats 4000000 in
set_option maxRecDepth 100000 in
theorem c_X7_out (l : Launch) (D : va_G) (a0 : Int32) (a1 : Int32) (a2 : Int32) : q_roI l yX7_out wsX7_out ({ frames := 0, cells := 0, slots := 0, locals := 0 }) D [] [] [.int a0, .int a1, .int a2] (f_X7_out a0 a1 a2) := by
  refine q_roI_of (cc := cX7_out) (maxL := 3) (ret := (some .boolean)) (plainFor_of_name (by decide)) rfl (Nat.le_of_ble_eq_true rfl) ?_
  intro p e s m below meth c ls A hx hb hr hml hown hts hlocks hP hK hA hS hl
  have hown : s.vm.findClass RX7 = some m.cls := hown
  have hl : lv_has ls 3 [(0, .int a0), (1, .int a1), (2, .int a2)] := hl
  refine lv_iload_n hx hb dX7_out_0 rfl (lv_at hl 0 rfl) ?_
  refine lv_iload_n hx hb dX7_out_1 rfl (lv_at hl 1 rfl) ?_
  refine lv_icmp_lt (tgt := 10) hx hb dX7_out_2 (by decide) (fun c1 => ?_) (fun c1 => ?_)
  · refine lv_iconst (v := 1) hx hb dX7_out_10 (by decide) ?_
    refine lv_goto (tgt := 15) hx hb dX7_out_11 (by decide) ?_
    exact q_rz hx hb hr hlocks (rfl) hS (Eq.symm (by rw [f_X7_out, if_pos c1])) dX7_out_15
  · refine lv_iload_n hx hb dX7_out_5 rfl (lv_at hl 0 rfl) ?_
    refine lv_iload_n hx hb dX7_out_6 rfl (lv_at hl 2 rfl) ?_
    refine lv_icmp_le (tgt := 14) hx hb dX7_out_7 (by decide) (fun c2 => ?_) (fun c2 => ?_)
    · refine lv_iconst (v := 0) hx hb dX7_out_14 (by decide) ?_
      exact q_rz hx hb hr hlocks (rfl) hS (Eq.symm (by rw [f_X7_out, if_neg c1, if_pos c2])) dX7_out_15
    · refine lv_iconst (v := 1) hx hb dX7_out_10 (by decide) ?_
      refine lv_goto (tgt := 15) hx hb dX7_out_11 (by decide) ?_
      exact q_rz hx hb hr hlocks (rfl) hS (Eq.symm (by rw [f_X7_out, if_neg c1, if_neg c2])) dX7_out_15

def f_X7_modulo (a0 : Int64) : Int64 :=
  (if 0 ≤ (a0 - a0 / 2305843009213693951 * 2305843009213693951) then a0 - a0 / 2305843009213693951 * 2305843009213693951 else (a0 - a0 / 2305843009213693951 * 2305843009213693951) + 2305843009213693951)

set_option maxHeartbeats 4000000 in
set_option maxRecDepth 100000 in
theorem c_X7_modulo (l : Launch) (D : va_G) (a0 : Int64) : q_roL l yX7_modulo wsX7_modulo ({ frames := 0, cells := 0, slots := 0, locals := 0 }) D [] [] [.long a0] (f_X7_modulo a0) := by
  refine q_roL_of (cc := cX7_modulo) (maxL := 4) (ret := (some .long)) (plainFor_of_name (by decide)) rfl (Nat.le_of_ble_eq_true rfl) ?_
  intro p e s m below meth c ls A hx hb hr hml hown hts hlocks hP hK hA hS hl
  have hown : s.vm.findClass RX7 = some m.cls := hown
  have hl : lv_has ls 4 [(0, .long a0)] := hl
  refine lv_lload_n hx hb dX7_modulo_0 rfl (lv_at hl 0 rfl) ?_
  refine lv_ldc2 (v := 2305843009213693951) hx hb hown (hts (.constantLong RX7 37 (2305843009213693951)) (by decide +kernel)) dX7_modulo_1 ?_
  refine lv_lrem hx hb dX7_modulo_4 (by decide) ?_
  refine lv_lstore_n (lv' := [(2, .long (a0 - a0 / 2305843009213693951 * 2305843009213693951)), (0, .long a0)]) hx hb dX7_modulo_5 rfl hl (by decide) rfl (fun ls hl => ?_)
  refine lv_lload_n hx hb dX7_modulo_6 rfl (lv_at hl 0 rfl) ?_
  refine lv_lconst (v := 0) hx hb dX7_modulo_7 (by decide) ?_
  refine q_ge (tgt := 20) hx hb dX7_modulo_8 dX7_modulo_9 (by decide) (fun c1 => ?_) (fun c1 => ?_)
  · refine lv_lload_n hx hb dX7_modulo_20 rfl (lv_at hl 0 rfl) ?_
    exact q_rl hx hb hr hlocks hS (Eq.symm (by rw [f_X7_modulo, if_pos c1])) dX7_modulo_21
  · refine lv_lload_n hx hb dX7_modulo_12 rfl (lv_at hl 0 rfl) ?_
    refine lv_ldc2 (v := 2305843009213693951) hx hb hown (hts (.constantLong RX7 37 (2305843009213693951)) (by decide +kernel)) dX7_modulo_13 ?_
    refine lv_ladd hx hb dX7_modulo_16 ?_
    refine lv_goto (tgt := 21) hx hb dX7_modulo_17 (by decide) ?_
    exact q_rl hx hb hr hlocks hS (Eq.symm (by rw [f_X7_modulo, if_neg c1])) dX7_modulo_21

def f_X7_product_J78 (v6_7 : Int32) (k_7 : Int64 → Int32 → Int64) (t0_78 : Int64) : Int64 :=
  (k_7 t0_78 (v6_7 + (-1)))

def f_X7_product_J58 (v6_7 : Int32) (k_7 : Int64 → Int32 → Int64) (v4_58 : Int64) : Int64 :=
  (if v4_58 < 2305843009213693951 then (f_X7_product_J78 v6_7 k_7 v4_58) else (f_X7_product_J78 v6_7 k_7 (v4_58 - 2305843009213693951)))

def f_X7_product_J39 (a0 : Int64) (a1 : Int64) (v6_7 : Int32) (k_7 : Int64 → Int32 → Int64) (t0_39 : Int64) : Int64 :=
  (if ((a1 >>> ((v6_7 : Int32).toInt64 &&& 63)) &&& 1) = 1 then (f_X7_product_J58 v6_7 k_7 (t0_39 + a0)) else (f_X7_product_J58 v6_7 k_7 t0_39))

def f_X7_product_L7 (a0 : Int64) (a1 : Int64) : Nat → Int64 → Int32 → Int64
  | 0, _, _ => default
  | fu_7 + 1, v4_7, v6_7 => (if v6_7 < 0 then v4_7 else (if (v4_7 + v4_7) < 2305843009213693951 then (f_X7_product_J39 a0 a1 v6_7 (f_X7_product_L7 a0 a1 fu_7) (v4_7 + v4_7)) else (f_X7_product_J39 a0 a1 v6_7 (f_X7_product_L7 a0 a1 fu_7) ((v4_7 + v4_7) - 2305843009213693951))))

def f_X7_product (a0 : Int64) (a1 : Int64) : Int64 :=
  (f_X7_product_L7 a0 a1 62 0 60)

set_option maxHeartbeats 4000000 in
set_option maxRecDepth 100000 in
theorem c_X7_product (l : Launch) (D : va_G) (a0 : Int64) (a1 : Int64) : q_roL l yX7_product wsX7_product ({ frames := 0, cells := 0, slots := 0, locals := 0 }) D [] [] [.long a0, .long a1] (f_X7_product a0 a1) := by
  refine q_roL_of (cc := cX7_product) (maxL := 7) (ret := (some .long)) (plainFor_of_name (by decide)) rfl (Nat.le_of_ble_eq_true rfl) ?_
  intro p e s m below meth c ls A hx hb hr hml hown hts hlocks hP hK hA hS hl
  have hown : s.vm.findClass RX7 = some m.cls := hown
  have hl : lv_has ls 7 [(0, .long a0), (2, .long a1)] := hl
  refine lv_lconst (v := 0) hx hb dX7_product_0 (by decide) ?_
  refine lv_lstore (lv' := [(4, .long 0), (0, .long a0), (2, .long a1)]) hx hb dX7_product_1 hl (by decide) rfl (fun ls hl => ?_)
  refine lv_bipush (v := 60) hx hb dX7_product_3 (by decide) ?_
  refine lv_istore (lv' := [(6, .int 60), (4, .long 0), (0, .long a0), (2, .long a1)]) hx hb dX7_product_5 hl (by decide) rfl (fun ls hl => ?_)
  have kL7 : ∀ (fu_7 : Nat) (v4_7 : Int64) (v6_7 : Int32) (H : Heap) (locs : List Loc) (ls : Array Slot), (v6_7.toInt + 1).toNat < fu_7 → (f_X7_product a0 a1) = (f_X7_product_L7 a0 a1 fu_7 v4_7 v6_7) → va_P D vwCl [] H → va_S A s.heap H locs → lv_has ls 7 [(0, .long a0), (2, .long a1), (4, .long v4_7), (6, .int v6_7)] → W p l e ({ frames := 0, cells := 0, slots := 0, locals := 0 }) s m [.long a0, .long a1].toArray below meth c H locs 0 0 (MQ below (va_Ql (fun r (_ : Unit) => r = (f_X7_product a0 a1)) (fun _ _ => True) A) [.long a0, .long a1].toArray s 0 0 A) (F0 m 7 ls []) := by
    intro fu_7
    induction fu_7 with
    | zero => intro v4_7 v6_7 H locs ls hmu; exact absurd hmu (Nat.not_lt_zero _)
    | succ fu_7 ih7 =>
      intro v4_7 v6_7 H locs ls hmu7 hL7 hP hS hl
      refine lv_iload hx hb dX7_product_7 (lv_at hl 3 rfl) ?_
      refine lv_if_lt (tgt := 86) hx hb dX7_product_9 (by decide) (fun c1 => ?_) (fun c1 => ?_)
      · refine lv_lload hx hb dX7_product_86 (lv_at hl 2 rfl) ?_
        exact q_rl hx hb hr hlocks hS (Eq.symm (by rw [hL7, f_X7_product_L7, if_pos c1])) dX7_product_88
      · refine lv_lload hx hb dX7_product_12 (lv_at hl 2 rfl) ?_
        refine lv_lload hx hb dX7_product_14 (lv_at hl 2 rfl) ?_
        refine lv_ladd hx hb dX7_product_16 ?_
        refine lv_lstore (lv' := [(4, .long (v4_7 + v4_7)), (0, .long a0), (2, .long a1), (6, .int v6_7)]) hx hb dX7_product_17 hl (by decide) rfl (fun ls hl => ?_)
        refine lv_lload hx hb dX7_product_19 (lv_at hl 0 rfl) ?_
        refine lv_ldc2 (v := 2305843009213693951) hx hb hown (hts (.constantLong RX7 37 (2305843009213693951)) (by decide +kernel)) dX7_product_21 ?_
        have kJ39 : ∀ (t0_39 : Int64) (H : Heap) (locs : List Loc) (ls : Array Slot), (f_X7_product a0 a1) = (f_X7_product_J39 a0 a1 v6_7 (f_X7_product_L7 a0 a1 fu_7) t0_39) → va_P D vwCl [] H → va_S A s.heap H locs → lv_has ls 7 [(0, .long a0), (2, .long a1), (4, .long (v4_7 + v4_7)), (6, .int v6_7)] → W p l e ({ frames := 0, cells := 0, slots := 0, locals := 0 }) s m [.long a0, .long a1].toArray below meth c H locs 0 0 (MQ below (va_Ql (fun r (_ : Unit) => r = (f_X7_product a0 a1)) (fun _ _ => True) A) [.long a0, .long a1].toArray s 0 0 A) (F0 m 39 ls [.long t0_39]) := by
          intro t0_39 H locs ls hJ39 hP hS hl
          refine lv_lstore (lv' := [(4, .long t0_39), (0, .long a0), (2, .long a1), (6, .int v6_7)]) hx hb dX7_product_39 hl (by decide) rfl (fun ls hl => ?_)
          refine lv_lload_n hx hb dX7_product_41 rfl (lv_at hl 2 rfl) ?_
          refine lv_iload hx hb dX7_product_42 (lv_at hl 3 rfl) ?_
          refine lv_lshr hx hb dX7_product_44 rfl ?_
          refine lv_lconst (v := 1) hx hb dX7_product_45 (by decide) ?_
          refine lv_land hx hb dX7_product_46 ?_
          refine lv_lconst (v := 1) hx hb dX7_product_47 (by decide) ?_
          have kJ58 : ∀ (v4_58 : Int64) (H : Heap) (locs : List Loc) (ls : Array Slot), (f_X7_product a0 a1) = (f_X7_product_J58 v6_7 (f_X7_product_L7 a0 a1 fu_7) v4_58) → va_P D vwCl [] H → va_S A s.heap H locs → lv_has ls 7 [(0, .long a0), (2, .long a1), (4, .long v4_58), (6, .int v6_7)] → W p l e ({ frames := 0, cells := 0, slots := 0, locals := 0 }) s m [.long a0, .long a1].toArray below meth c H locs 0 0 (MQ below (va_Ql (fun r (_ : Unit) => r = (f_X7_product a0 a1)) (fun _ _ => True) A) [.long a0, .long a1].toArray s 0 0 A) (F0 m 58 ls []) := by
            intro v4_58 H locs ls hJ58 hP hS hl
            refine lv_lload hx hb dX7_product_58 (lv_at hl 2 rfl) ?_
            refine lv_ldc2 (v := 2305843009213693951) hx hb hown (hts (.constantLong RX7 37 (2305843009213693951)) (by decide +kernel)) dX7_product_60 ?_
            have kJ78 : ∀ (t0_78 : Int64) (H : Heap) (locs : List Loc) (ls : Array Slot), (f_X7_product a0 a1) = (f_X7_product_J78 v6_7 (f_X7_product_L7 a0 a1 fu_7) t0_78) → va_P D vwCl [] H → va_S A s.heap H locs → lv_has ls 7 [(0, .long a0), (2, .long a1), (4, .long v4_58), (6, .int v6_7)] → W p l e ({ frames := 0, cells := 0, slots := 0, locals := 0 }) s m [.long a0, .long a1].toArray below meth c H locs 0 0 (MQ below (va_Ql (fun r (_ : Unit) => r = (f_X7_product a0 a1)) (fun _ _ => True) A) [.long a0, .long a1].toArray s 0 0 A) (F0 m 78 ls [.long t0_78]) := by
              intro t0_78 H locs ls hJ78 hP hS hl
              refine lv_lstore (lv' := [(4, .long t0_78), (0, .long a0), (2, .long a1), (6, .int v6_7)]) hx hb dX7_product_78 hl (by decide) rfl (fun ls hl => ?_)
              refine lv_iinc (v := v6_7 + (-1)) (lv' := [(6, .int (v6_7 + (-1))), (4, .long t0_78), (0, .long a0), (2, .long a1)]) hx hb dX7_product_80 hl (k := 3) rfl rfl (by decide) rfl (fun ls hl => ?_)
              refine lv_goto (tgt := 7) hx hb dX7_product_83 (by decide) ?_
              exact ih7 t0_78 (v6_7 + (-1)) _ _ _ (n_dec0 c1 hmu7) (by rw [hJ78, f_X7_product_J78]) hP hS (lv_sub hl [2, 3, 1, 0] rfl)
            refine q_lt (tgt := 76) hx hb dX7_product_63 dX7_product_64 (by decide) (fun c4 => ?_) (fun c4 => ?_)
            · refine lv_lload hx hb dX7_product_76 (lv_at hl 2 rfl) ?_
              exact kJ78 v4_58 _ _ _ (by rw [hJ58, f_X7_product_J58, if_pos c4]) hP hS (lv_sub hl [0, 1, 2, 3] rfl)
            · refine lv_lload hx hb dX7_product_67 (lv_at hl 2 rfl) ?_
              refine lv_ldc2 (v := 2305843009213693951) hx hb hown (hts (.constantLong RX7 37 (2305843009213693951)) (by decide +kernel)) dX7_product_69 ?_
              refine lv_lsub hx hb dX7_product_72 ?_
              refine lv_goto (tgt := 78) hx hb dX7_product_73 (by decide) ?_
              exact kJ78 (v4_58 - 2305843009213693951) _ _ _ (by rw [hJ58, f_X7_product_J58, if_neg c4]) hP hS (lv_sub hl [0, 1, 2, 3] rfl)
          refine q_ne (tgt := 58) hx hb dX7_product_48 dX7_product_49 (by decide) (fun c3 => ?_) (fun c3 => ?_)
          · exact kJ58 t0_39 _ _ _ (by rw [hJ39, f_X7_product_J39, if_neg c3]) hP hS (lv_sub hl [1, 2, 0, 3] rfl)
          · refine lv_lload hx hb dX7_product_52 (lv_at hl 0 rfl) ?_
            refine lv_lload_n hx hb dX7_product_54 rfl (lv_at hl 1 rfl) ?_
            refine lv_ladd hx hb dX7_product_55 ?_
            refine lv_lstore (lv' := [(4, .long (t0_39 + a0)), (0, .long a0), (2, .long a1), (6, .int v6_7)]) hx hb dX7_product_56 hl (by decide) rfl (fun ls hl => ?_)
            exact kJ58 (t0_39 + a0) _ _ _ (by rw [hJ39, f_X7_product_J39, if_pos c3]) hP hS (lv_sub hl [1, 2, 0, 3] rfl)
        refine q_lt (tgt := 37) hx hb dX7_product_24 dX7_product_25 (by decide) (fun c2 => ?_) (fun c2 => ?_)
        · refine lv_lload hx hb dX7_product_37 (lv_at hl 0 rfl) ?_
          exact kJ39 (v4_7 + v4_7) _ _ _ (by rw [hL7, f_X7_product_L7, if_neg c1, if_pos c2]) hP hS (lv_sub hl [1, 2, 0, 3] rfl)
        · refine lv_lload hx hb dX7_product_28 (lv_at hl 0 rfl) ?_
          refine lv_ldc2 (v := 2305843009213693951) hx hb hown (hts (.constantLong RX7 37 (2305843009213693951)) (by decide +kernel)) dX7_product_30 ?_
          refine lv_lsub hx hb dX7_product_33 ?_
          refine lv_goto (tgt := 39) hx hb dX7_product_34 (by decide) ?_
          exact kJ39 ((v4_7 + v4_7) - 2305843009213693951) _ _ _ (by rw [hL7, f_X7_product_L7, if_neg c1, if_neg c2]) hP hS (lv_sub hl [1, 2, 0, 3] rfl)
  exact kL7 62 0 60 _ _ _ (by decide) (by rw [f_X7_product]) hP hS (lv_sub hl [2, 3, 1, 0] rfl)

def f_X7_inverse_L13 : Nat → Int64 → Int64 → Int64 → Int64 → Int64
  | 0, _, _, _, _ => default
  | fu_13 + 1, v2_13, v4_13, v6_13, v8_13 => (if v4_13 = 0 then v6_13 else (f_X7_inverse_L13 fu_13 v4_13 (v2_13 - ((v2_13 / v4_13) * v4_13)) v8_13 (f_X7_modulo (v6_13 - (f_X7_product (f_X7_modulo (v2_13 / v4_13)) v8_13)))))

def f_X7_inverse (a0 : Int64) : Int64 :=
  (f_X7_inverse_L13 (a0.toInt.natAbs + 1) 2305843009213693951 a0 0 1)

set_option maxHeartbeats 4000000 in
set_option maxRecDepth 100000 in
theorem c_X7_inverse (l : Launch) (D : va_G) (a0 : Int64) : q_roL l yX7_inverse wsX7_inverse ({ frames := 1, cells := 0, slots := 0, locals := 26 }) D [] [] [.long a0] (f_X7_inverse a0) := by
  refine q_roL_of (cc := cX7_inverse) (maxL := 16) (ret := (some .long)) (plainFor_of_name (by decide)) rfl (Nat.le_of_ble_eq_true rfl) ?_
  intro p e s m below meth c ls A hx hb hr hml hown hts hlocks hP hK hA hS hl
  have hown : s.vm.findClass RX7 = some m.cls := hown
  have hl : lv_has ls 16 [(0, .long a0)] := hl
  have hfix : CallFix p m c cX7_inverse 16 s [.long a0].toArray wsX7_inverse RX7 := ⟨hx, hb, hml, hown, hts⟩
  refine lv_ldc2 (v := 2305843009213693951) hx hb hown (hts (.constantLong RX7 37 (2305843009213693951)) (by decide +kernel)) dX7_inverse_0 ?_
  refine lv_lstore_n (lv' := [(2, .long 2305843009213693951), (0, .long a0)]) hx hb dX7_inverse_3 rfl hl (by decide) rfl (fun ls hl => ?_)
  refine lv_lload_n hx hb dX7_inverse_4 rfl (lv_at hl 1 rfl) ?_
  refine lv_lstore (lv' := [(4, .long a0), (2, .long 2305843009213693951), (0, .long a0)]) hx hb dX7_inverse_5 hl (by decide) rfl (fun ls hl => ?_)
  refine lv_lconst (v := 0) hx hb dX7_inverse_7 (by decide) ?_
  refine lv_lstore (lv' := [(6, .long 0), (4, .long a0), (2, .long 2305843009213693951), (0, .long a0)]) hx hb dX7_inverse_8 hl (by decide) rfl (fun ls hl => ?_)
  refine lv_lconst (v := 1) hx hb dX7_inverse_10 (by decide) ?_
  refine lv_lstore (lv' := [(8, .long 1), (6, .long 0), (4, .long a0), (2, .long 2305843009213693951), (0, .long a0)]) hx hb dX7_inverse_11 hl (by decide) rfl (fun ls hl => ?_)
  have kL13 : ∀ (fu_13 : Nat) (v2_13 : Int64) (v4_13 : Int64) (v6_13 : Int64) (v8_13 : Int64) (H : Heap) (locs : List Loc) (ls : Array Slot), v4_13.toInt.natAbs < fu_13 → (f_X7_inverse a0) = (f_X7_inverse_L13 fu_13 v2_13 v4_13 v6_13 v8_13) → va_P D vwCl [] H → va_S A s.heap H locs → lv_has ls 16 [(0, .long a0), (2, .long v2_13), (4, .long v4_13), (6, .long v6_13), (8, .long v8_13)] → W p l e ({ frames := 1, cells := 0, slots := 0, locals := 26 }) s m [.long a0].toArray below meth c H locs 0 0 (MQ below (va_Ql (fun r (_ : Unit) => r = (f_X7_inverse a0)) (fun _ _ => True) A) [.long a0].toArray s 0 0 A) (F0 m 13 ls []) := by
    intro fu_13
    induction fu_13 with
    | zero => intro v2_13 v4_13 v6_13 v8_13 H locs ls hmu; exact absurd hmu (Nat.not_lt_zero _)
    | succ fu_13 ih13 =>
      intro v2_13 v4_13 v6_13 v8_13 H locs ls hmu13 hL13 hP hS hl
      refine lv_lload hx hb dX7_inverse_13 (lv_at hl 2 rfl) ?_
      refine lv_lconst (v := 0) hx hb dX7_inverse_15 (by decide) ?_
      refine q_eq (tgt := 71) hx hb dX7_inverse_16 dX7_inverse_17 (by decide) (fun c1 => ?_) (fun c1 => ?_)
      · refine lv_lload hx hb dX7_inverse_71 (lv_at hl 3 rfl) ?_
        exact q_rl hx hb hr hlocks hS (Eq.symm (by rw [hL13, f_X7_inverse_L13, if_pos c1])) dX7_inverse_73
      · refine lv_lload_n hx hb dX7_inverse_20 rfl (lv_at hl 1 rfl) ?_
        refine lv_lload hx hb dX7_inverse_21 (lv_at hl 2 rfl) ?_
        refine lv_ldiv hx hb dX7_inverse_23 (c1) ?_
        refine lv_lstore (lv' := [(10, .long (v2_13 / v4_13)), (0, .long a0), (2, .long v2_13), (4, .long v4_13), (6, .long v6_13), (8, .long v8_13)]) hx hb dX7_inverse_24 hl (by decide) rfl (fun ls hl => ?_)
        refine lv_lload_n hx hb dX7_inverse_26 rfl (lv_at hl 2 rfl) ?_
        refine lv_lload hx hb dX7_inverse_27 (lv_at hl 0 rfl) ?_
        refine lv_lload hx hb dX7_inverse_29 (lv_at hl 3 rfl) ?_
        refine lv_lmul hx hb dX7_inverse_31 ?_
        refine lv_lsub hx hb dX7_inverse_32 ?_
        refine lv_lstore (lv' := [(12, .long (v2_13 - ((v2_13 / v4_13) * v4_13))), (10, .long (v2_13 / v4_13)), (0, .long a0), (2, .long v2_13), (4, .long v4_13), (6, .long v6_13), (8, .long v8_13)]) hx hb dX7_inverse_33 hl (by decide) rfl (fun ls hl => ?_)
        refine lv_lload hx hb dX7_inverse_35 (lv_at hl 5 rfl) ?_
        refine lv_lload hx hb dX7_inverse_37 (lv_at hl 1 rfl) ?_
        refine q_callSl (As := [.long (v2_13 / v4_13)]) (rest := [.long v6_13]) (c_X7_modulo l D (v2_13 / v4_13)) hfix (va_cwS 1 hts gX7_inverse_X7_modulo rfl rfl rfl (by decide +kernel) ⟨Nat.le_of_ble_eq_true rfl, Nat.le_of_ble_eq_true rfl⟩) rfl hl.1 rfl (Nat.le_of_ble_eq_true rfl) ⟨Nat.zero_le _, Nat.zero_le _⟩ hP hK hS hA [] [] rfl rfl dX7_inverse_39 (fun H locs hP hS => ?_)
        refine lv_lload hx hb dX7_inverse_42 (lv_at hl 6 rfl) ?_
        refine q_callSl (As := [.long (f_X7_modulo (v2_13 / v4_13)), .long v8_13]) (rest := [.long v6_13]) (c_X7_product l D (f_X7_modulo (v2_13 / v4_13)) v8_13) hfix (va_cwS 2 hts gX7_inverse_X7_product rfl rfl rfl (by decide +kernel) ⟨Nat.le_of_ble_eq_true rfl, Nat.le_of_ble_eq_true rfl⟩) rfl hl.1 rfl (Nat.le_of_ble_eq_true rfl) ⟨Nat.zero_le _, Nat.zero_le _⟩ hP hK hS hA [] [] rfl rfl dX7_inverse_44 (fun H locs hP hS => ?_)
        refine lv_lsub hx hb dX7_inverse_47 ?_
        refine q_callSl (As := [.long (v6_13 - (f_X7_product (f_X7_modulo (v2_13 / v4_13)) v8_13))]) (rest := []) (c_X7_modulo l D (v6_13 - (f_X7_product (f_X7_modulo (v2_13 / v4_13)) v8_13))) hfix (va_cwS 1 hts gX7_inverse_X7_modulo rfl rfl rfl (by decide +kernel) ⟨Nat.le_of_ble_eq_true rfl, Nat.le_of_ble_eq_true rfl⟩) rfl hl.1 rfl (Nat.le_of_ble_eq_true rfl) ⟨Nat.zero_le _, Nat.zero_le _⟩ hP hK hS hA [] [] rfl rfl dX7_inverse_48 (fun H locs hP hS => ?_)
        refine lv_lstore (lv' := [(14, .long (f_X7_modulo (v6_13 - (f_X7_product (f_X7_modulo (v2_13 / v4_13)) v8_13)))), (12, .long (v2_13 - ((v2_13 / v4_13) * v4_13))), (10, .long (v2_13 / v4_13)), (0, .long a0), (2, .long v2_13), (4, .long v4_13), (6, .long v6_13), (8, .long v8_13)]) hx hb dX7_inverse_51 hl (by decide) rfl (fun ls hl => ?_)
        refine lv_lload hx hb dX7_inverse_53 (lv_at hl 5 rfl) ?_
        refine lv_lstore_n (lv' := [(2, .long v4_13), (14, .long (f_X7_modulo (v6_13 - (f_X7_product (f_X7_modulo (v2_13 / v4_13)) v8_13)))), (12, .long (v2_13 - ((v2_13 / v4_13) * v4_13))), (10, .long (v2_13 / v4_13)), (0, .long a0), (4, .long v4_13), (6, .long v6_13), (8, .long v8_13)]) hx hb dX7_inverse_55 rfl hl (by decide) rfl (fun ls hl => ?_)
        refine lv_lload hx hb dX7_inverse_56 (lv_at hl 2 rfl) ?_
        refine lv_lstore (lv' := [(4, .long (v2_13 - ((v2_13 / v4_13) * v4_13))), (2, .long v4_13), (14, .long (f_X7_modulo (v6_13 - (f_X7_product (f_X7_modulo (v2_13 / v4_13)) v8_13)))), (12, .long (v2_13 - ((v2_13 / v4_13) * v4_13))), (10, .long (v2_13 / v4_13)), (0, .long a0), (6, .long v6_13), (8, .long v8_13)]) hx hb dX7_inverse_58 hl (by decide) rfl (fun ls hl => ?_)
        refine lv_lload hx hb dX7_inverse_60 (lv_at hl 7 rfl) ?_
        refine lv_lstore (lv' := [(6, .long v8_13), (4, .long (v2_13 - ((v2_13 / v4_13) * v4_13))), (2, .long v4_13), (14, .long (f_X7_modulo (v6_13 - (f_X7_product (f_X7_modulo (v2_13 / v4_13)) v8_13)))), (12, .long (v2_13 - ((v2_13 / v4_13) * v4_13))), (10, .long (v2_13 / v4_13)), (0, .long a0), (8, .long v8_13)]) hx hb dX7_inverse_62 hl (by decide) rfl (fun ls hl => ?_)
        refine lv_lload hx hb dX7_inverse_64 (lv_at hl 3 rfl) ?_
        refine lv_lstore (lv' := [(8, .long (f_X7_modulo (v6_13 - (f_X7_product (f_X7_modulo (v2_13 / v4_13)) v8_13)))), (6, .long v8_13), (4, .long (v2_13 - ((v2_13 / v4_13) * v4_13))), (2, .long v4_13), (14, .long (f_X7_modulo (v6_13 - (f_X7_product (f_X7_modulo (v2_13 / v4_13)) v8_13)))), (12, .long (v2_13 - ((v2_13 / v4_13) * v4_13))), (10, .long (v2_13 / v4_13)), (0, .long a0)]) hx hb dX7_inverse_66 hl (by decide) rfl (fun ls hl => ?_)
        refine lv_goto (tgt := 13) hx hb dX7_inverse_68 (by decide) ?_
        exact ih13 v4_13 (v2_13 - ((v2_13 / v4_13) * v4_13)) v8_13 (f_X7_modulo (v6_13 - (f_X7_product (f_X7_modulo (v2_13 / v4_13)) v8_13))) _ _ _ (n_euc c1 hmu13) (by rw [hL13, f_X7_inverse_L13, if_neg c1]) hP hS (lv_sub hl [7, 3, 2, 1, 0] rfl)
  exact kL13 (a0.toInt.natAbs + 1) 2305843009213693951 a0 0 1 _ _ _ (Nat.lt_succ_self _) (by rw [f_X7_inverse]) hP hS (lv_sub hl [4, 3, 2, 1, 0] rfl)

def f_X7_operate (a0 : Int32) (a1 : Int64) (a2 : Int64) : Int64 :=
  (if a0 = 0 then (f_X7_modulo (a1 + a2)) else (if a0 = 1 then (f_X7_modulo (a1 - a2)) else (if a0 = 2 then (f_X7_product a1 a2) else (f_X7_product a1 (f_X7_inverse a2)))))

set_option maxHeartbeats 4000000 in
set_option maxRecDepth 100000 in
theorem c_X7_operate (l : Launch) (D : va_G) (a0 : Int32) (a1 : Int64) (a2 : Int64) : q_roL l yX7_operate wsX7_operate ({ frames := 2, cells := 0, slots := 0, locals := 61 }) D [] [] [.int a0, .long a1, .long a2] (f_X7_operate a0 a1 a2) := by
  refine q_roL_of (cc := cX7_operate) (maxL := 5) (ret := (some .long)) (plainFor_of_name (by decide)) rfl (Nat.le_of_ble_eq_true rfl) ?_
  intro p e s m below meth c ls A hx hb hr hml hown hts hlocks hP hK hA hS hl
  have hown : s.vm.findClass RX7 = some m.cls := hown
  have hl : lv_has ls 5 [(0, .int a0), (1, .long a1), (3, .long a2)] := hl
  have hfix : CallFix p m c cX7_operate 5 s [.int a0, .long a1, .long a2].toArray wsX7_operate RX7 := ⟨hx, hb, hml, hown, hts⟩
  refine lv_iload_n hx hb dX7_operate_0 rfl (lv_at hl 0 rfl) ?_
  refine lv_if_ne (tgt := 11) hx hb dX7_operate_1 (by decide) (fun c1 => ?_) (fun c1 => ?_)
  · refine lv_iload_n hx hb dX7_operate_11 rfl (lv_at hl 0 rfl) ?_
    refine lv_iconst (v := 1) hx hb dX7_operate_12 (by decide) ?_
    refine lv_icmp_ne (tgt := 23) hx hb dX7_operate_13 (by decide) (fun c2 => ?_) (fun c2 => ?_)
    · refine lv_lload_n hx hb dX7_operate_23 rfl (lv_at hl 1 rfl) ?_
      refine lv_iload_n hx hb dX7_operate_24 rfl (lv_at hl 0 rfl) ?_
      refine lv_iconst (v := 2) hx hb dX7_operate_25 (by decide) ?_
      refine lv_icmp_ne (tgt := 33) hx hb dX7_operate_26 (by decide) (fun c3 => ?_) (fun c3 => ?_)
      · refine lv_lload_n hx hb dX7_operate_33 rfl (lv_at hl 2 rfl) ?_
        refine q_callSl (As := [.long a2]) (rest := [.long a1]) (c_X7_inverse l D a2) hfix (va_cwS 1 hts gX7_operate_X7_inverse rfl rfl rfl (by decide +kernel) ⟨Nat.le_of_ble_eq_true rfl, Nat.le_of_ble_eq_true rfl⟩) rfl hl.1 rfl (Nat.le_of_ble_eq_true rfl) ⟨Nat.zero_le _, Nat.zero_le _⟩ hP hK hS hA [] [] rfl rfl dX7_operate_34 (fun H locs hP hS => ?_)
        refine q_callSl (As := [.long a1, .long (f_X7_inverse a2)]) (rest := []) (c_X7_product l D a1 (f_X7_inverse a2)) hfix (va_cwS 2 hts gX7_operate_X7_product rfl rfl rfl (by decide +kernel) ⟨Nat.le_of_ble_eq_true rfl, Nat.le_of_ble_eq_true rfl⟩) rfl hl.1 rfl (Nat.le_of_ble_eq_true rfl) ⟨Nat.zero_le _, Nat.zero_le _⟩ hP hK hS hA [] [] rfl rfl dX7_operate_37 (fun H locs hP hS => ?_)
        exact q_rl hx hb hr hlocks hS (Eq.symm (by rw [f_X7_operate, if_neg c1, if_neg c2, if_neg c3])) dX7_operate_40
      · refine lv_lload_n hx hb dX7_operate_29 rfl (lv_at hl 2 rfl) ?_
        refine lv_goto (tgt := 37) hx hb dX7_operate_30 (by decide) ?_
        refine q_callSl (As := [.long a1, .long a2]) (rest := []) (c_X7_product l D a1 a2) hfix (va_cwS 2 hts gX7_operate_X7_product rfl rfl rfl (by decide +kernel) ⟨Nat.le_of_ble_eq_true rfl, Nat.le_of_ble_eq_true rfl⟩) rfl hl.1 rfl (Nat.le_of_ble_eq_true rfl) ⟨Nat.zero_le _, Nat.zero_le _⟩ hP hK hS hA [] [] rfl rfl dX7_operate_37 (fun H locs hP hS => ?_)
        exact q_rl hx hb hr hlocks hS (Eq.symm (by rw [f_X7_operate, if_neg c1, if_neg c2, if_pos c3])) dX7_operate_40
    · refine lv_lload_n hx hb dX7_operate_16 rfl (lv_at hl 1 rfl) ?_
      refine lv_lload_n hx hb dX7_operate_17 rfl (lv_at hl 2 rfl) ?_
      refine lv_lsub hx hb dX7_operate_18 ?_
      refine q_callSl (As := [.long (a1 - a2)]) (rest := []) (c_X7_modulo l D (a1 - a2)) hfix (va_cwS 1 hts gX7_operate_X7_modulo rfl rfl rfl (by decide +kernel) ⟨Nat.le_of_ble_eq_true rfl, Nat.le_of_ble_eq_true rfl⟩) rfl hl.1 rfl (Nat.le_of_ble_eq_true rfl) ⟨Nat.zero_le _, Nat.zero_le _⟩ hP hK hS hA [] [] rfl rfl dX7_operate_19 (fun H locs hP hS => ?_)
      exact q_rl hx hb hr hlocks hS (Eq.symm (by rw [f_X7_operate, if_neg c1, if_pos c2])) dX7_operate_22
  · refine lv_lload_n hx hb dX7_operate_4 rfl (lv_at hl 1 rfl) ?_
    refine lv_lload_n hx hb dX7_operate_5 rfl (lv_at hl 2 rfl) ?_
    refine lv_ladd hx hb dX7_operate_6 ?_
    refine q_callSl (As := [.long (a1 + a2)]) (rest := []) (c_X7_modulo l D (a1 + a2)) hfix (va_cwS 1 hts gX7_operate_X7_modulo rfl rfl rfl (by decide +kernel) ⟨Nat.le_of_ble_eq_true rfl, Nat.le_of_ble_eq_true rfl⟩) rfl hl.1 rfl (Nat.le_of_ble_eq_true rfl) ⟨Nat.zero_le _, Nat.zero_le _⟩ hP hK hS hA [] [] rfl rfl dX7_operate_7 (fun H locs hP hS => ?_)
    exact q_rl hx hb hr hlocks hS (Eq.symm (by rw [f_X7_operate, if_pos c1])) dX7_operate_10

def f_X7_isCell (a0 : Int64) : Int32 :=
  (if a0 < 0 then 0 else (if 64 ≤ a0 then 0 else 1))

set_option maxHeartbeats 4000000 in
set_option maxRecDepth 100000 in
theorem c_X7_isCell (l : Launch) (D : va_G) (a0 : Int64) : q_roI l yX7_isCell wsX7_isCell ({ frames := 0, cells := 0, slots := 0, locals := 0 }) D [] [] [.long a0] (f_X7_isCell a0) := by
  refine q_roI_of (cc := cX7_isCell) (maxL := 2) (ret := (some .boolean)) (plainFor_of_name (by decide)) rfl (Nat.le_of_ble_eq_true rfl) ?_
  intro p e s m below meth c ls A hx hb hr hml hown hts hlocks hP hK hA hS hl
  have hown : s.vm.findClass RX7 = some m.cls := hown
  have hl : lv_has ls 2 [(0, .long a0)] := hl
  refine lv_lload_n hx hb dX7_isCell_0 rfl (lv_at hl 0 rfl) ?_
  refine lv_lconst (v := 0) hx hb dX7_isCell_1 (by decide) ?_
  refine q_lt (tgt := 18) hx hb dX7_isCell_2 dX7_isCell_3 (by decide) (fun c1 => ?_) (fun c1 => ?_)
  · refine lv_iconst (v := 0) hx hb dX7_isCell_18 (by decide) ?_
    exact q_rz hx hb hr hlocks (rfl) hS (Eq.symm (by rw [f_X7_isCell, if_pos c1])) dX7_isCell_19
  · refine lv_lload_n hx hb dX7_isCell_6 rfl (lv_at hl 0 rfl) ?_
    refine lv_ldc2 (v := 64) hx hb hown (hts (.constantLong RX7 82 (64)) (by decide +kernel)) dX7_isCell_7 ?_
    refine q_ge (tgt := 18) hx hb dX7_isCell_10 dX7_isCell_11 (by decide) (fun c2 => ?_) (fun c2 => ?_)
    · refine lv_iconst (v := 0) hx hb dX7_isCell_18 (by decide) ?_
      exact q_rz hx hb hr hlocks (rfl) hS (Eq.symm (by rw [f_X7_isCell, if_neg c1, if_pos c2])) dX7_isCell_19
    · refine lv_iconst (v := 1) hx hb dX7_isCell_14 (by decide) ?_
      refine lv_goto (tgt := 19) hx hb dX7_isCell_15 (by decide) ?_
      exact q_rz hx hb hr hlocks (rfl) hS (Eq.symm (by rw [f_X7_isCell, if_neg c1, if_neg c2])) dX7_isCell_19

def f_X7_bits (a0 : Int32) (a1 : Int64) (a2 : Int64) : Int64 :=
  (if a0 = 2 then a1 &&& a2 else (if a0 = 3 then a1 ^^^ a2 else a1 ||| a2))

set_option maxHeartbeats 4000000 in
set_option maxRecDepth 100000 in
theorem c_X7_bits (l : Launch) (D : va_G) (a0 : Int32) (a1 : Int64) (a2 : Int64) : q_roL l yX7_bits wsX7_bits ({ frames := 0, cells := 0, slots := 0, locals := 0 }) D [] [] [.int a0, .long a1, .long a2] (f_X7_bits a0 a1 a2) := by
  refine q_roL_of (cc := cX7_bits) (maxL := 5) (ret := (some .long)) (plainFor_of_name (by decide)) rfl (Nat.le_of_ble_eq_true rfl) ?_
  intro p e s m below meth c ls A hx hb hr hml hown hts hlocks hP hK hA hS hl
  have hown : s.vm.findClass RX7 = some m.cls := hown
  have hl : lv_has ls 5 [(0, .int a0), (1, .long a1), (3, .long a2)] := hl
  refine lv_iload_n hx hb dX7_bits_0 rfl (lv_at hl 0 rfl) ?_
  refine lv_iconst (v := 2) hx hb dX7_bits_1 (by decide) ?_
  refine lv_icmp_ne (tgt := 11) hx hb dX7_bits_2 (by decide) (fun c1 => ?_) (fun c1 => ?_)
  · refine lv_iload_n hx hb dX7_bits_11 rfl (lv_at hl 0 rfl) ?_
    refine lv_iconst (v := 3) hx hb dX7_bits_12 (by decide) ?_
    refine lv_icmp_ne (tgt := 22) hx hb dX7_bits_13 (by decide) (fun c2 => ?_) (fun c2 => ?_)
    · refine lv_lload_n hx hb dX7_bits_22 rfl (lv_at hl 1 rfl) ?_
      refine lv_lload_n hx hb dX7_bits_23 rfl (lv_at hl 2 rfl) ?_
      refine lv_lor hx hb dX7_bits_24 ?_
      exact q_rl hx hb hr hlocks hS (Eq.symm (by rw [f_X7_bits, if_neg c1, if_neg c2])) dX7_bits_25
    · refine lv_lload_n hx hb dX7_bits_16 rfl (lv_at hl 1 rfl) ?_
      refine lv_lload_n hx hb dX7_bits_17 rfl (lv_at hl 2 rfl) ?_
      refine lv_lxor hx hb dX7_bits_18 ?_
      refine lv_goto (tgt := 25) hx hb dX7_bits_19 (by decide) ?_
      exact q_rl hx hb hr hlocks hS (Eq.symm (by rw [f_X7_bits, if_neg c1, if_pos c2])) dX7_bits_25
  · refine lv_lload_n hx hb dX7_bits_5 rfl (lv_at hl 1 rfl) ?_
    refine lv_lload_n hx hb dX7_bits_6 rfl (lv_at hl 2 rfl) ?_
    refine lv_land hx hb dX7_bits_7 ?_
    refine lv_goto (tgt := 25) hx hb dX7_bits_8 (by decide) ?_
    exact q_rl hx hb hr hlocks hS (Eq.symm (by rw [f_X7_bits, if_pos c1])) dX7_bits_25

def f_X7_offset (a0 : Int64) (a1 : Int32) : Int32 :=
  (((a0 >>> ((10 * a1 : Int32).toInt64 &&& 63)) &&& 1023 : Int64).toInt32) - 512

set_option maxHeartbeats 4000000 in
set_option maxRecDepth 100000 in
theorem c_X7_offset (l : Launch) (D : va_G) (a0 : Int64) (a1 : Int32) : q_roI l yX7_offset wsX7_offset ({ frames := 0, cells := 0, slots := 0, locals := 0 }) D [] [] [.long a0, .int a1] (f_X7_offset a0 a1) := by
  refine q_roI_of (cc := cX7_offset) (maxL := 3) (ret := (some .int)) (plainFor_of_name (by decide)) rfl (Nat.le_of_ble_eq_true rfl) ?_
  intro p e s m below meth c ls A hx hb hr hml hown hts hlocks hP hK hA hS hl
  have hown : s.vm.findClass RX7 = some m.cls := hown
  have hl : lv_has ls 3 [(0, .long a0), (2, .int a1)] := hl
  refine lv_lload_n hx hb dX7_offset_0 rfl (lv_at hl 0 rfl) ?_
  refine lv_bipush (v := 10) hx hb dX7_offset_1 (by decide) ?_
  refine lv_iload_n hx hb dX7_offset_3 rfl (lv_at hl 1 rfl) ?_
  refine lv_imul hx hb dX7_offset_4 ?_
  refine lv_lshr hx hb dX7_offset_5 rfl ?_
  refine lv_ldc2 (v := 1023) hx hb hown (hts (.constantLong RX7 101 (1023)) (by decide +kernel)) dX7_offset_6 ?_
  refine lv_land hx hb dX7_offset_9 ?_
  refine lv_l2i hx hb dX7_offset_10 rfl ?_
  refine lv_sipush (v := 512) hx hb dX7_offset_11 (by decide) ?_
  refine lv_isub hx hb dX7_offset_14 ?_
  exact q_ri hx hb hr hlocks hS (Eq.symm (by rw [f_X7_offset])) dX7_offset_15

def f_X7_many_L6 (a0 : Int64) (a2 : Int32) : Nat → Int32 → Int32 → Int32
  | 0, _, _ => default
  | fu_6 + 1, v4_6, v5_6 => (if a2 < v5_6 then v4_6 else (f_X7_many_L6 a0 a2 fu_6 (v4_6 + (((a0 >>> ((v5_6 : Int32).toInt64 &&& 63)) &&& 1 : Int64).toInt32)) (v5_6 + 1)))

def f_X7_many (a0 : Int64) (a1 : Int32) (a2 : Int32) : Int32 :=
  (f_X7_many_L6 a0 a2 ((a2.toInt + 1 - a1.toInt).toNat + 1) 0 a1)

set_option maxHeartbeats 4000000 in
set_option maxRecDepth 100000 in
theorem c_X7_many (l : Launch) (D : va_G) (a0 : Int64) (a1 : Int32) (a2 : Int32) (ht : a2.toInt < 2147483647) : q_roI l yX7_many wsX7_many ({ frames := 0, cells := 0, slots := 0, locals := 0 }) D [] [] [.long a0, .int a1, .int a2] (f_X7_many a0 a1 a2) := by
  refine q_roI_of (cc := cX7_many) (maxL := 6) (ret := (some .int)) (plainFor_of_name (by decide)) rfl (Nat.le_of_ble_eq_true rfl) ?_
  intro p e s m below meth c ls A hx hb hr hml hown hts hlocks hP hK hA hS hl
  have hown : s.vm.findClass RX7 = some m.cls := hown
  have hl : lv_has ls 6 [(0, .long a0), (2, .int a1), (3, .int a2)] := hl
  refine lv_iconst (v := 0) hx hb dX7_many_0 (by decide) ?_
  refine lv_istore (lv' := [(4, .int 0), (0, .long a0), (2, .int a1), (3, .int a2)]) hx hb dX7_many_1 hl (by decide) rfl (fun ls hl => ?_)
  refine lv_iload_n hx hb dX7_many_3 rfl (lv_at hl 2 rfl) ?_
  refine lv_istore (lv' := [(5, .int a1), (4, .int 0), (0, .long a0), (2, .int a1), (3, .int a2)]) hx hb dX7_many_4 hl (by decide) rfl (fun ls hl => ?_)
  have kL6 : ∀ (fu_6 : Nat) (v4_6 : Int32) (v5_6 : Int32) (H : Heap) (locs : List Loc) (ls : Array Slot), (a2.toInt + 1 - v5_6.toInt).toNat < fu_6 → (f_X7_many a0 a1 a2) = (f_X7_many_L6 a0 a2 fu_6 v4_6 v5_6) → va_P D vwCl [] H → va_S A s.heap H locs → lv_has ls 6 [(0, .long a0), (2, .int a1), (3, .int a2), (4, .int v4_6), (5, .int v5_6)] → W p l e ({ frames := 0, cells := 0, slots := 0, locals := 0 }) s m [.long a0, .int a1, .int a2].toArray below meth c H locs 0 0 (MQ below (va_Qi (fun r (_ : Unit) => r = (f_X7_many a0 a1 a2)) (fun _ _ => True) A) [.long a0, .int a1, .int a2].toArray s 0 0 A) (F0 m 6 ls []) := by
    intro fu_6
    induction fu_6 with
    | zero => intro v4_6 v5_6 H locs ls hmu; exact absurd hmu (Nat.not_lt_zero _)
    | succ fu_6 ih6 =>
      intro v4_6 v5_6 H locs ls hmu6 hL6 hP hS hl
      refine lv_iload hx hb dX7_many_6 (lv_at hl 4 rfl) ?_
      refine lv_iload_n hx hb dX7_many_8 rfl (lv_at hl 2 rfl) ?_
      refine lv_icmp_gt (tgt := 30) hx hb dX7_many_9 (by decide) (fun c1 => ?_) (fun c1 => ?_)
      · refine lv_iload hx hb dX7_many_30 (lv_at hl 3 rfl) ?_
        exact q_ri hx hb hr hlocks hS (Eq.symm (by rw [hL6, f_X7_many_L6, if_pos c1])) dX7_many_32
      · refine lv_iload hx hb dX7_many_12 (lv_at hl 3 rfl) ?_
        refine lv_lload_n hx hb dX7_many_14 rfl (lv_at hl 0 rfl) ?_
        refine lv_iload hx hb dX7_many_15 (lv_at hl 4 rfl) ?_
        refine lv_lshr hx hb dX7_many_17 rfl ?_
        refine lv_lconst (v := 1) hx hb dX7_many_18 (by decide) ?_
        refine lv_land hx hb dX7_many_19 ?_
        refine lv_l2i hx hb dX7_many_20 rfl ?_
        refine lv_iadd hx hb dX7_many_21 ?_
        refine lv_istore (lv' := [(4, .int (v4_6 + (((a0 >>> ((v5_6 : Int32).toInt64 &&& 63)) &&& 1 : Int64).toInt32))), (0, .long a0), (2, .int a1), (3, .int a2), (5, .int v5_6)]) hx hb dX7_many_22 hl (by decide) rfl (fun ls hl => ?_)
        refine lv_iinc (v := v5_6 + 1) (lv' := [(5, .int (v5_6 + 1)), (4, .int (v4_6 + (((a0 >>> ((v5_6 : Int32).toInt64 &&& 63)) &&& 1 : Int64).toInt32))), (0, .long a0), (2, .int a1), (3, .int a2)]) hx hb dX7_many_24 hl (k := 4) rfl rfl (by decide) rfl (fun ls hl => ?_)
        refine lv_goto (tgt := 6) hx hb dX7_many_27 (by decide) ?_
        exact ih6 (v4_6 + (((a0 >>> ((v5_6 : Int32).toInt64 &&& 63)) &&& 1 : Int64).toInt32)) (v5_6 + 1) _ _ _ (q_dec2 rfl ht c1 hmu6) (by rw [hL6, f_X7_many_L6, if_neg c1]) hP hS (lv_sub hl [2, 3, 4, 1, 0] rfl)
  exact kL6 ((a2.toInt + 1 - a1.toInt).toNat + 1) 0 a1 _ _ _ (Nat.lt_succ_self _) (by rw [f_X7_many]) hP hS (lv_sub hl [2, 3, 4, 1, 0] rfl)

def f_X7_isBad_J150 (a0 : Int64) (t0_76 : Int32) (t0_103 : Int32) (t0_150 : Int32) : Int32 :=
  (if t0_76 = 0 then (if t0_103 = 0 then (if t0_150 = 0 then (if (f_X7_many a0 42 42) = 1 then (if (f_X7_many a0 40 41) ≤ 0 then 0 else 1) else 0) else 1) else 1) else 1)

def f_X7_isBad_J149 (a0 : Int64) (t0_76 : Int32) (t0_103 : Int32) : Int32 :=
  (f_X7_isBad_J150 a0 t0_76 t0_103 0)

def f_X7_isBad_J103 (a0 : Int64) (t0_76 : Int32) (t0_103 : Int32) : Int32 :=
  (if (f_X7_many a0 39 39) = 1 then (if (((f_X7_many a0 35 36) + (f_X7_many a0 40 40)) + (f_X7_many a0 42 44)) ≤ 0 then (f_X7_isBad_J149 a0 t0_76 t0_103) else (f_X7_isBad_J150 a0 t0_76 t0_103 1)) else (f_X7_isBad_J149 a0 t0_76 t0_103))

def f_X7_isBad_J102 (a0 : Int64) (t0_76 : Int32) : Int32 :=
  (f_X7_isBad_J103 a0 t0_76 0)

def f_X7_isBad_J76 (a0 : Int64) (t0_76 : Int32) : Int32 :=
  (if (f_X7_many a0 32 32) = 1 then (if (f_X7_offset a0 2) = 1 then (f_X7_isBad_J102 a0 t0_76) else (f_X7_isBad_J103 a0 t0_76 1)) else (f_X7_isBad_J102 a0 t0_76))

def f_X7_isBad_J71 (a0 : Int64) : Int32 :=
  (f_X7_isBad_J76 a0 1)

def f_X7_isBad (a0 : Int64) : Int32 :=
  (if (a0 >>> ((45 : Int32).toInt64 &&& 63)) = 0 then (if 1 < (f_X7_many a0 32 34) then (f_X7_isBad_J71 a0) else (if 1 < (f_X7_many a0 35 36) then (f_X7_isBad_J71 a0) else (if 1 < (f_X7_many a0 37 39) then (f_X7_isBad_J71 a0) else (if 1 < (f_X7_many a0 40 41) then (f_X7_isBad_J71 a0) else (if (f_X7_many a0 42 44) ≤ 1 then (f_X7_isBad_J76 a0 0) else (f_X7_isBad_J71 a0)))))) else 1)

set_option maxHeartbeats 4000000 in
set_option maxRecDepth 100000 in
theorem c_X7_isBad (l : Launch) (D : va_G) (a0 : Int64) : q_roI l yX7_isBad wsX7_isBad ({ frames := 1, cells := 0, slots := 0, locals := 25 }) D [] [] [.long a0] (f_X7_isBad a0) := by
  refine q_roI_of (cc := cX7_isBad) (maxL := 5) (ret := (some .boolean)) (plainFor_of_name (by decide)) rfl (Nat.le_of_ble_eq_true rfl) ?_
  intro p e s m below meth c ls A hx hb hr hml hown hts hlocks hP hK hA hS hl
  have hown : s.vm.findClass RX7 = some m.cls := hown
  have hl : lv_has ls 5 [(0, .long a0)] := hl
  have hfix : CallFix p m c cX7_isBad 5 s [.long a0].toArray wsX7_isBad RX7 := ⟨hx, hb, hml, hown, hts⟩
  refine lv_lload_n hx hb dX7_isBad_0 rfl (lv_at hl 0 rfl) ?_
  refine lv_bipush (v := 45) hx hb dX7_isBad_1 (by decide) ?_
  refine lv_lshr hx hb dX7_isBad_3 rfl ?_
  refine lv_lconst (v := 0) hx hb dX7_isBad_4 (by decide) ?_
  refine q_eq (tgt := 11) hx hb dX7_isBad_5 dX7_isBad_6 (by decide) (fun c1 => ?_) (fun c1 => ?_)
  · refine lv_lload_n hx hb dX7_isBad_11 rfl (lv_at hl 0 rfl) ?_
    refine lv_bipush (v := 32) hx hb dX7_isBad_12 (by decide) ?_
    refine lv_bipush (v := 34) hx hb dX7_isBad_14 (by decide) ?_
    refine q_callSi (As := [.long a0, .int 32, .int 34]) (rest := []) (c_X7_many l D a0 32 34 (by decide)) hfix (va_cwS 3 hts gX7_isBad_X7_many rfl rfl rfl (by decide +kernel) ⟨Nat.le_of_ble_eq_true rfl, Nat.le_of_ble_eq_true rfl⟩) rfl hl.1 rfl (Nat.le_of_ble_eq_true rfl) ⟨Nat.zero_le _, Nat.zero_le _⟩ hP hK hS hA [] [] rfl rfl dX7_isBad_16 (fun H locs hP hS => ?_)
    refine lv_iconst (v := 1) hx hb dX7_isBad_19 (by decide) ?_
    have kJ76 : ∀ (t0_76 : Int32) (H : Heap) (locs : List Loc) (ls : Array Slot), (t0_76 = 0 ∨ t0_76 = 1) → (f_X7_isBad a0) = (f_X7_isBad_J76 a0 t0_76) → va_P D vwCl [] H → va_S A s.heap H locs → lv_has ls 5 [(0, .long a0)] → W p l e ({ frames := 1, cells := 0, slots := 0, locals := 25 }) s m [.long a0].toArray below meth c H locs 0 0 (MQ below (va_Qi (fun r (_ : Unit) => r = (f_X7_isBad a0)) (fun _ _ => True) A) [.long a0].toArray s 0 0 A) (F0 m 76 ls [.int t0_76]) := by
      intro t0_76 H locs ls hb_t0_76 hJ76 hP hS hl
      refine lv_istore_n (lv' := [(2, .int t0_76), (0, .long a0)]) hx hb dX7_isBad_76 rfl hl (by decide) rfl (fun ls hl => ?_)
      refine lv_lload_n hx hb dX7_isBad_77 rfl (lv_at hl 1 rfl) ?_
      refine lv_bipush (v := 32) hx hb dX7_isBad_78 (by decide) ?_
      refine lv_bipush (v := 32) hx hb dX7_isBad_80 (by decide) ?_
      refine q_callSi (As := [.long a0, .int 32, .int 32]) (rest := []) (c_X7_many l D a0 32 32 (by decide)) hfix (va_cwS 3 hts gX7_isBad_X7_many rfl rfl rfl (by decide +kernel) ⟨Nat.le_of_ble_eq_true rfl, Nat.le_of_ble_eq_true rfl⟩) rfl hl.1 rfl (Nat.le_of_ble_eq_true rfl) ⟨Nat.zero_le _, Nat.zero_le _⟩ hP hK hS hA [] [] rfl rfl dX7_isBad_82 (fun H locs hP hS => ?_)
      refine lv_iconst (v := 1) hx hb dX7_isBad_85 (by decide) ?_
      have kJ103 : ∀ (t0_103 : Int32) (H : Heap) (locs : List Loc) (ls : Array Slot), (t0_103 = 0 ∨ t0_103 = 1) → (f_X7_isBad a0) = (f_X7_isBad_J103 a0 t0_76 t0_103) → va_P D vwCl [] H → va_S A s.heap H locs → lv_has ls 5 [(0, .long a0), (2, .int t0_76)] → W p l e ({ frames := 1, cells := 0, slots := 0, locals := 25 }) s m [.long a0].toArray below meth c H locs 0 0 (MQ below (va_Qi (fun r (_ : Unit) => r = (f_X7_isBad a0)) (fun _ _ => True) A) [.long a0].toArray s 0 0 A) (F0 m 103 ls [.int t0_103]) := by
        intro t0_103 H locs ls hb_t0_103 hJ103 hP hS hl
        refine lv_istore_n (lv' := [(3, .int t0_103), (0, .long a0), (2, .int t0_76)]) hx hb dX7_isBad_103 rfl hl (by decide) rfl (fun ls hl => ?_)
        refine lv_lload_n hx hb dX7_isBad_104 rfl (lv_at hl 1 rfl) ?_
        refine lv_bipush (v := 39) hx hb dX7_isBad_105 (by decide) ?_
        refine lv_bipush (v := 39) hx hb dX7_isBad_107 (by decide) ?_
        refine q_callSi (As := [.long a0, .int 39, .int 39]) (rest := []) (c_X7_many l D a0 39 39 (by decide)) hfix (va_cwS 3 hts gX7_isBad_X7_many rfl rfl rfl (by decide +kernel) ⟨Nat.le_of_ble_eq_true rfl, Nat.le_of_ble_eq_true rfl⟩) rfl hl.1 rfl (Nat.le_of_ble_eq_true rfl) ⟨Nat.zero_le _, Nat.zero_le _⟩ hP hK hS hA [] [] rfl rfl dX7_isBad_109 (fun H locs hP hS => ?_)
        refine lv_iconst (v := 1) hx hb dX7_isBad_112 (by decide) ?_
        have kJ150 : ∀ (t0_150 : Int32) (H : Heap) (locs : List Loc) (ls : Array Slot), (t0_150 = 0 ∨ t0_150 = 1) → (f_X7_isBad a0) = (f_X7_isBad_J150 a0 t0_76 t0_103 t0_150) → va_P D vwCl [] H → va_S A s.heap H locs → lv_has ls 5 [(0, .long a0), (2, .int t0_76), (3, .int t0_103)] → W p l e ({ frames := 1, cells := 0, slots := 0, locals := 25 }) s m [.long a0].toArray below meth c H locs 0 0 (MQ below (va_Qi (fun r (_ : Unit) => r = (f_X7_isBad a0)) (fun _ _ => True) A) [.long a0].toArray s 0 0 A) (F0 m 150 ls [.int t0_150]) := by
          intro t0_150 H locs ls hb_t0_150 hJ150 hP hS hl
          refine lv_istore (lv' := [(4, .int t0_150), (0, .long a0), (2, .int t0_76), (3, .int t0_103)]) hx hb dX7_isBad_150 hl (by decide) rfl (fun ls hl => ?_)
          refine lv_iload_n hx hb dX7_isBad_152 rfl (lv_at hl 2 rfl) ?_
          refine lv_if_ne (tgt := 188) hx hb dX7_isBad_153 (by decide) (fun c11 => ?_) (fun c11 => ?_)
          · refine lv_iconst (v := 1) hx hb dX7_isBad_188 (by decide) ?_
            refine lv_goto (tgt := 193) hx hb dX7_isBad_189 (by decide) ?_
            exact q_rz hx hb hr hlocks (rfl) hS (Eq.symm (by rw [hJ150, f_X7_isBad_J150, if_neg c11])) dX7_isBad_193
          · refine lv_iload_n hx hb dX7_isBad_156 rfl (lv_at hl 3 rfl) ?_
            refine lv_if_ne (tgt := 188) hx hb dX7_isBad_157 (by decide) (fun c12 => ?_) (fun c12 => ?_)
            · refine lv_iconst (v := 1) hx hb dX7_isBad_188 (by decide) ?_
              refine lv_goto (tgt := 193) hx hb dX7_isBad_189 (by decide) ?_
              exact q_rz hx hb hr hlocks (rfl) hS (Eq.symm (by rw [hJ150, f_X7_isBad_J150, if_pos c11, if_neg c12])) dX7_isBad_193
            · refine lv_iload hx hb dX7_isBad_160 (lv_at hl 0 rfl) ?_
              refine lv_if_ne (tgt := 188) hx hb dX7_isBad_162 (by decide) (fun c13 => ?_) (fun c13 => ?_)
              · refine lv_iconst (v := 1) hx hb dX7_isBad_188 (by decide) ?_
                refine lv_goto (tgt := 193) hx hb dX7_isBad_189 (by decide) ?_
                exact q_rz hx hb hr hlocks (rfl) hS (Eq.symm (by rw [hJ150, f_X7_isBad_J150, if_pos c11, if_pos c12, if_neg c13])) dX7_isBad_193
              · refine lv_lload_n hx hb dX7_isBad_165 rfl (lv_at hl 1 rfl) ?_
                refine lv_bipush (v := 42) hx hb dX7_isBad_166 (by decide) ?_
                refine lv_bipush (v := 42) hx hb dX7_isBad_168 (by decide) ?_
                refine q_callSi (As := [.long a0, .int 42, .int 42]) (rest := []) (c_X7_many l D a0 42 42 (by decide)) hfix (va_cwS 3 hts gX7_isBad_X7_many rfl rfl rfl (by decide +kernel) ⟨Nat.le_of_ble_eq_true rfl, Nat.le_of_ble_eq_true rfl⟩) rfl hl.1 rfl (Nat.le_of_ble_eq_true rfl) ⟨Nat.zero_le _, Nat.zero_le _⟩ hP hK hS hA [] [] rfl rfl dX7_isBad_170 (fun H locs hP hS => ?_)
                refine lv_iconst (v := 1) hx hb dX7_isBad_173 (by decide) ?_
                refine lv_icmp_ne (tgt := 192) hx hb dX7_isBad_174 (by decide) (fun c14 => ?_) (fun c14 => ?_)
                · refine lv_iconst (v := 0) hx hb dX7_isBad_192 (by decide) ?_
                  exact q_rz hx hb hr hlocks (rfl) hS (Eq.symm (by rw [hJ150, f_X7_isBad_J150, if_pos c11, if_pos c12, if_pos c13, if_neg c14])) dX7_isBad_193
                · refine lv_lload_n hx hb dX7_isBad_177 rfl (lv_at hl 1 rfl) ?_
                  refine lv_bipush (v := 40) hx hb dX7_isBad_178 (by decide) ?_
                  refine lv_bipush (v := 41) hx hb dX7_isBad_180 (by decide) ?_
                  refine q_callSi (As := [.long a0, .int 40, .int 41]) (rest := []) (c_X7_many l D a0 40 41 (by decide)) hfix (va_cwS 3 hts gX7_isBad_X7_many rfl rfl rfl (by decide +kernel) ⟨Nat.le_of_ble_eq_true rfl, Nat.le_of_ble_eq_true rfl⟩) rfl hl.1 rfl (Nat.le_of_ble_eq_true rfl) ⟨Nat.zero_le _, Nat.zero_le _⟩ hP hK hS hA [] [] rfl rfl dX7_isBad_182 (fun H locs hP hS => ?_)
                  refine lv_if_le (tgt := 192) hx hb dX7_isBad_185 (by decide) (fun c15 => ?_) (fun c15 => ?_)
                  · refine lv_iconst (v := 0) hx hb dX7_isBad_192 (by decide) ?_
                    exact q_rz hx hb hr hlocks (rfl) hS (Eq.symm (by rw [hJ150, f_X7_isBad_J150, if_pos c11, if_pos c12, if_pos c13, if_pos c14, if_pos c15])) dX7_isBad_193
                  · refine lv_iconst (v := 1) hx hb dX7_isBad_188 (by decide) ?_
                    refine lv_goto (tgt := 193) hx hb dX7_isBad_189 (by decide) ?_
                    exact q_rz hx hb hr hlocks (rfl) hS (Eq.symm (by rw [hJ150, f_X7_isBad_J150, if_pos c11, if_pos c12, if_pos c13, if_pos c14, if_neg c15])) dX7_isBad_193
        have kJ149 : ∀ (H : Heap) (locs : List Loc) (ls : Array Slot), (f_X7_isBad a0) = (f_X7_isBad_J149 a0 t0_76 t0_103) → va_P D vwCl [] H → va_S A s.heap H locs → lv_has ls 5 [(0, .long a0), (2, .int t0_76), (3, .int t0_103)] → W p l e ({ frames := 1, cells := 0, slots := 0, locals := 25 }) s m [.long a0].toArray below meth c H locs 0 0 (MQ below (va_Qi (fun r (_ : Unit) => r = (f_X7_isBad a0)) (fun _ _ => True) A) [.long a0].toArray s 0 0 A) (F0 m 149 ls []) := by
          intro H locs ls hJ149 hP hS hl
          refine lv_iconst (v := 0) hx hb dX7_isBad_149 (by decide) ?_
          exact kJ150 0 _ _ _ (Or.inl rfl) (by rw [hJ149, f_X7_isBad_J149]) hP hS (lv_sub hl [0, 1, 2] rfl)
        refine lv_icmp_ne (tgt := 149) hx hb dX7_isBad_113 (by decide) (fun c9 => ?_) (fun c9 => ?_)
        · exact kJ149 _ _ _ (by rw [hJ103, f_X7_isBad_J103, if_neg c9]) hP hS (lv_sub hl [1, 2, 0] rfl)
        · refine lv_lload_n hx hb dX7_isBad_116 rfl (lv_at hl 1 rfl) ?_
          refine lv_bipush (v := 35) hx hb dX7_isBad_117 (by decide) ?_
          refine lv_bipush (v := 36) hx hb dX7_isBad_119 (by decide) ?_
          refine q_callSi (As := [.long a0, .int 35, .int 36]) (rest := []) (c_X7_many l D a0 35 36 (by decide)) hfix (va_cwS 3 hts gX7_isBad_X7_many rfl rfl rfl (by decide +kernel) ⟨Nat.le_of_ble_eq_true rfl, Nat.le_of_ble_eq_true rfl⟩) rfl hl.1 rfl (Nat.le_of_ble_eq_true rfl) ⟨Nat.zero_le _, Nat.zero_le _⟩ hP hK hS hA [] [] rfl rfl dX7_isBad_121 (fun H locs hP hS => ?_)
          refine lv_lload_n hx hb dX7_isBad_124 rfl (lv_at hl 1 rfl) ?_
          refine lv_bipush (v := 40) hx hb dX7_isBad_125 (by decide) ?_
          refine lv_bipush (v := 40) hx hb dX7_isBad_127 (by decide) ?_
          refine q_callSi (As := [.long a0, .int 40, .int 40]) (rest := [.int (f_X7_many a0 35 36)]) (c_X7_many l D a0 40 40 (by decide)) hfix (va_cwS 3 hts gX7_isBad_X7_many rfl rfl rfl (by decide +kernel) ⟨Nat.le_of_ble_eq_true rfl, Nat.le_of_ble_eq_true rfl⟩) rfl hl.1 rfl (Nat.le_of_ble_eq_true rfl) ⟨Nat.zero_le _, Nat.zero_le _⟩ hP hK hS hA [] [] rfl rfl dX7_isBad_129 (fun H locs hP hS => ?_)
          refine lv_iadd hx hb dX7_isBad_132 ?_
          refine lv_lload_n hx hb dX7_isBad_133 rfl (lv_at hl 1 rfl) ?_
          refine lv_bipush (v := 42) hx hb dX7_isBad_134 (by decide) ?_
          refine lv_bipush (v := 44) hx hb dX7_isBad_136 (by decide) ?_
          refine q_callSi (As := [.long a0, .int 42, .int 44]) (rest := [.int ((f_X7_many a0 35 36) + (f_X7_many a0 40 40))]) (c_X7_many l D a0 42 44 (by decide)) hfix (va_cwS 3 hts gX7_isBad_X7_many rfl rfl rfl (by decide +kernel) ⟨Nat.le_of_ble_eq_true rfl, Nat.le_of_ble_eq_true rfl⟩) rfl hl.1 rfl (Nat.le_of_ble_eq_true rfl) ⟨Nat.zero_le _, Nat.zero_le _⟩ hP hK hS hA [] [] rfl rfl dX7_isBad_138 (fun H locs hP hS => ?_)
          refine lv_iadd hx hb dX7_isBad_141 ?_
          refine lv_if_le (tgt := 149) hx hb dX7_isBad_142 (by decide) (fun c10 => ?_) (fun c10 => ?_)
          · exact kJ149 _ _ _ (by rw [hJ103, f_X7_isBad_J103, if_pos c9, if_pos c10]) hP hS (lv_sub hl [1, 2, 0] rfl)
          · refine lv_iconst (v := 1) hx hb dX7_isBad_145 (by decide) ?_
            refine lv_goto (tgt := 150) hx hb dX7_isBad_146 (by decide) ?_
            exact kJ150 1 _ _ _ (Or.inr rfl) (by rw [hJ103, f_X7_isBad_J103, if_pos c9, if_neg c10]) hP hS (lv_sub hl [1, 2, 0] rfl)
      have kJ102 : ∀ (H : Heap) (locs : List Loc) (ls : Array Slot), (f_X7_isBad a0) = (f_X7_isBad_J102 a0 t0_76) → va_P D vwCl [] H → va_S A s.heap H locs → lv_has ls 5 [(0, .long a0), (2, .int t0_76)] → W p l e ({ frames := 1, cells := 0, slots := 0, locals := 25 }) s m [.long a0].toArray below meth c H locs 0 0 (MQ below (va_Qi (fun r (_ : Unit) => r = (f_X7_isBad a0)) (fun _ _ => True) A) [.long a0].toArray s 0 0 A) (F0 m 102 ls []) := by
        intro H locs ls hJ102 hP hS hl
        refine lv_iconst (v := 0) hx hb dX7_isBad_102 (by decide) ?_
        exact kJ103 0 _ _ _ (Or.inl rfl) (by rw [hJ102, f_X7_isBad_J102]) hP hS (lv_sub hl [0, 1] rfl)
      refine lv_icmp_ne (tgt := 102) hx hb dX7_isBad_86 (by decide) (fun c7 => ?_) (fun c7 => ?_)
      · exact kJ102 _ _ _ (by rw [hJ76, f_X7_isBad_J76, if_neg c7]) hP hS (lv_sub hl [1, 0] rfl)
      · refine lv_lload_n hx hb dX7_isBad_89 rfl (lv_at hl 1 rfl) ?_
        refine lv_iconst (v := 2) hx hb dX7_isBad_90 (by decide) ?_
        refine q_callSi (As := [.long a0, .int 2]) (rest := []) (c_X7_offset l D a0 2) hfix (va_cwS 2 hts gX7_isBad_X7_offset rfl rfl rfl (by decide +kernel) ⟨Nat.le_of_ble_eq_true rfl, Nat.le_of_ble_eq_true rfl⟩) rfl hl.1 rfl (Nat.le_of_ble_eq_true rfl) ⟨Nat.zero_le _, Nat.zero_le _⟩ hP hK hS hA [] [] rfl rfl dX7_isBad_91 (fun H locs hP hS => ?_)
        refine lv_iconst (v := 1) hx hb dX7_isBad_94 (by decide) ?_
        refine lv_icmp_eq (tgt := 102) hx hb dX7_isBad_95 (by decide) (fun c8 => ?_) (fun c8 => ?_)
        · exact kJ102 _ _ _ (by rw [hJ76, f_X7_isBad_J76, if_pos c7, if_pos c8]) hP hS (lv_sub hl [1, 0] rfl)
        · refine lv_iconst (v := 1) hx hb dX7_isBad_98 (by decide) ?_
          refine lv_goto (tgt := 103) hx hb dX7_isBad_99 (by decide) ?_
          exact kJ103 1 _ _ _ (Or.inr rfl) (by rw [hJ76, f_X7_isBad_J76, if_pos c7, if_neg c8]) hP hS (lv_sub hl [1, 0] rfl)
    have kJ71 : ∀ (H : Heap) (locs : List Loc) (ls : Array Slot), (f_X7_isBad a0) = (f_X7_isBad_J71 a0) → va_P D vwCl [] H → va_S A s.heap H locs → lv_has ls 5 [(0, .long a0)] → W p l e ({ frames := 1, cells := 0, slots := 0, locals := 25 }) s m [.long a0].toArray below meth c H locs 0 0 (MQ below (va_Qi (fun r (_ : Unit) => r = (f_X7_isBad a0)) (fun _ _ => True) A) [.long a0].toArray s 0 0 A) (F0 m 71 ls []) := by
      intro H locs ls hJ71 hP hS hl
      refine lv_iconst (v := 1) hx hb dX7_isBad_71 (by decide) ?_
      refine lv_goto (tgt := 76) hx hb dX7_isBad_72 (by decide) ?_
      exact kJ76 1 _ _ _ (Or.inr rfl) (by rw [hJ71, f_X7_isBad_J71]) hP hS (lv_sub hl [0] rfl)
    refine lv_icmp_gt (tgt := 71) hx hb dX7_isBad_20 (by decide) (fun c2 => ?_) (fun c2 => ?_)
    · exact kJ71 _ _ _ (by rw [f_X7_isBad, if_pos c1, if_pos c2]) hP hS (lv_sub hl [0] rfl)
    · refine lv_lload_n hx hb dX7_isBad_23 rfl (lv_at hl 0 rfl) ?_
      refine lv_bipush (v := 35) hx hb dX7_isBad_24 (by decide) ?_
      refine lv_bipush (v := 36) hx hb dX7_isBad_26 (by decide) ?_
      refine q_callSi (As := [.long a0, .int 35, .int 36]) (rest := []) (c_X7_many l D a0 35 36 (by decide)) hfix (va_cwS 3 hts gX7_isBad_X7_many rfl rfl rfl (by decide +kernel) ⟨Nat.le_of_ble_eq_true rfl, Nat.le_of_ble_eq_true rfl⟩) rfl hl.1 rfl (Nat.le_of_ble_eq_true rfl) ⟨Nat.zero_le _, Nat.zero_le _⟩ hP hK hS hA [] [] rfl rfl dX7_isBad_28 (fun H locs hP hS => ?_)
      refine lv_iconst (v := 1) hx hb dX7_isBad_31 (by decide) ?_
      refine lv_icmp_gt (tgt := 71) hx hb dX7_isBad_32 (by decide) (fun c3 => ?_) (fun c3 => ?_)
      · exact kJ71 _ _ _ (by rw [f_X7_isBad, if_pos c1, if_neg c2, if_pos c3]) hP hS (lv_sub hl [0] rfl)
      · refine lv_lload_n hx hb dX7_isBad_35 rfl (lv_at hl 0 rfl) ?_
        refine lv_bipush (v := 37) hx hb dX7_isBad_36 (by decide) ?_
        refine lv_bipush (v := 39) hx hb dX7_isBad_38 (by decide) ?_
        refine q_callSi (As := [.long a0, .int 37, .int 39]) (rest := []) (c_X7_many l D a0 37 39 (by decide)) hfix (va_cwS 3 hts gX7_isBad_X7_many rfl rfl rfl (by decide +kernel) ⟨Nat.le_of_ble_eq_true rfl, Nat.le_of_ble_eq_true rfl⟩) rfl hl.1 rfl (Nat.le_of_ble_eq_true rfl) ⟨Nat.zero_le _, Nat.zero_le _⟩ hP hK hS hA [] [] rfl rfl dX7_isBad_40 (fun H locs hP hS => ?_)
        refine lv_iconst (v := 1) hx hb dX7_isBad_43 (by decide) ?_
        refine lv_icmp_gt (tgt := 71) hx hb dX7_isBad_44 (by decide) (fun c4 => ?_) (fun c4 => ?_)
        · exact kJ71 _ _ _ (by rw [f_X7_isBad, if_pos c1, if_neg c2, if_neg c3, if_pos c4]) hP hS (lv_sub hl [0] rfl)
        · refine lv_lload_n hx hb dX7_isBad_47 rfl (lv_at hl 0 rfl) ?_
          refine lv_bipush (v := 40) hx hb dX7_isBad_48 (by decide) ?_
          refine lv_bipush (v := 41) hx hb dX7_isBad_50 (by decide) ?_
          refine q_callSi (As := [.long a0, .int 40, .int 41]) (rest := []) (c_X7_many l D a0 40 41 (by decide)) hfix (va_cwS 3 hts gX7_isBad_X7_many rfl rfl rfl (by decide +kernel) ⟨Nat.le_of_ble_eq_true rfl, Nat.le_of_ble_eq_true rfl⟩) rfl hl.1 rfl (Nat.le_of_ble_eq_true rfl) ⟨Nat.zero_le _, Nat.zero_le _⟩ hP hK hS hA [] [] rfl rfl dX7_isBad_52 (fun H locs hP hS => ?_)
          refine lv_iconst (v := 1) hx hb dX7_isBad_55 (by decide) ?_
          refine lv_icmp_gt (tgt := 71) hx hb dX7_isBad_56 (by decide) (fun c5 => ?_) (fun c5 => ?_)
          · exact kJ71 _ _ _ (by rw [f_X7_isBad, if_pos c1, if_neg c2, if_neg c3, if_neg c4, if_pos c5]) hP hS (lv_sub hl [0] rfl)
          · refine lv_lload_n hx hb dX7_isBad_59 rfl (lv_at hl 0 rfl) ?_
            refine lv_bipush (v := 42) hx hb dX7_isBad_60 (by decide) ?_
            refine lv_bipush (v := 44) hx hb dX7_isBad_62 (by decide) ?_
            refine q_callSi (As := [.long a0, .int 42, .int 44]) (rest := []) (c_X7_many l D a0 42 44 (by decide)) hfix (va_cwS 3 hts gX7_isBad_X7_many rfl rfl rfl (by decide +kernel) ⟨Nat.le_of_ble_eq_true rfl, Nat.le_of_ble_eq_true rfl⟩) rfl hl.1 rfl (Nat.le_of_ble_eq_true rfl) ⟨Nat.zero_le _, Nat.zero_le _⟩ hP hK hS hA [] [] rfl rfl dX7_isBad_64 (fun H locs hP hS => ?_)
            refine lv_iconst (v := 1) hx hb dX7_isBad_67 (by decide) ?_
            refine lv_icmp_le (tgt := 75) hx hb dX7_isBad_68 (by decide) (fun c6 => ?_) (fun c6 => ?_)
            · refine lv_iconst (v := 0) hx hb dX7_isBad_75 (by decide) ?_
              exact kJ76 0 _ _ _ (Or.inl rfl) (by rw [f_X7_isBad, if_pos c1, if_neg c2, if_neg c3, if_neg c4, if_neg c5, if_pos c6]) hP hS (lv_sub hl [0] rfl)
            · exact kJ71 _ _ _ (by rw [f_X7_isBad, if_pos c1, if_neg c2, if_neg c3, if_neg c4, if_neg c5, if_neg c6]) hP hS (lv_sub hl [0] rfl)
  · refine lv_iconst (v := 1) hx hb dX7_isBad_9 (by decide) ?_
    exact q_rz hx hb hr hlocks (rfl) hS (Eq.symm (by rw [f_X7_isBad, if_neg c1])) dX7_isBad_10

