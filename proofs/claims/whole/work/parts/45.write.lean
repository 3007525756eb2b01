/-! the builtin of segment 4 -/
theorem g_bits {a b : Nat} (ha : a < 2 ^ 60) (hb : b < 2 ^ 60) : (lN a &&& lN b = lN (a &&& b) ∧ a &&& b < 2 ^ 60) ∧ (lN a ^^^ lN b = lN (a ^^^ b) ∧ a ^^^ b < 2 ^ 60) ∧ (lN a ||| lN b = lN (a ||| b) ∧ a ||| b < 2 ^ 60) :=
  ⟨⟨z_and (by omega) (by omega), Nat.lt_of_le_of_lt Nat.and_le_left ha⟩, ⟨z_xor (by omega) (by omega), Nat.xor_lt_two_pow ha hb⟩, ⟨z_or (by omega) (by omega), Nat.or_lt_two_pow ha hb⟩⟩
/-- the number that the cell i of a group must have -/
def gb (i a b : Nat) : Nat := if i = 2 then a &&& b else if i = 3 then a ^^^ b else a ||| b
theorem gb_lt {i a b : Nat} (ha : a < 2 ^ 60) (hb : b < 2 ^ 60) : gb i a b < 2 ^ 60 := by
  have h := g_bits ha hb
  unfold gb
  repeat' split
  · exact h.1.2
  · exact h.2.1.2
  · exact h.2.2.2
theorem gb_comm (i a b : Nat) : gb i a b = gb i b a := by unfold gb; rw [Nat.and_comm, Nat.xor_comm, Nat.or_comm]
theorem gb_bits {i a b : Nat} (hi : 2 ≤ i) (hi4 : i ≤ 4) (ha : a < 2 ^ 60) (hb : b < 2 ^ 60) : f_X7_bits (nI i) (lN a) (lN b) = lN (gb i a b) := by
  have h := g_bits ha hb
  unfold f_X7_bits gb
  rcases (by omega : i = 2 ∨ i = 3 ∨ i = 4) with rfl | rfl | rfl
  · rw [if_pos (show nI 2 = 2 from rfl), if_pos rfl]; exact h.1.1
  · rw [if_neg (show ¬ nI 3 = 2 by decide), if_pos (show nI 3 = 3 from rfl), if_neg (by decide), if_pos rfl]; exact h.2.1.1
  · rw [if_neg (show ¬ nI 4 = 2 by decide), if_neg (show ¬ nI 4 = 3 by decide), if_neg (by decide), if_neg (by decide)]; exact h.2.2.1
def Op (N : NS) (q z : Nat) : Prop := iS N q = 0 ∨ (kd N q = 0 ∧ nu N q = lN z)
theorem v_60 {z : Nat} (h : z < 2 ^ 60) : Vok 0 (lN z) := Or.inl ⟨rfl, z, by have := hPP; omega, rfl⟩
theorem enc0 (x : Int64) : enc 0 x = x := if_pos rfl
/-- open to a number: both sides -/
theorem g_open {M : Nat → Int64} {N : NS} (h : MR M N) {c z : Nat} (hc : c < 64) (hz : z < 2 ^ 60) : (f_X1_isOpenTo M (nI (192 + c)) (lN z) = 1 ∧ Op N (256 + c) z) ∨ (f_X1_isOpenTo M (nI (192 + c)) (lN z) = 0 ∧ ¬ Op N (256 + c) z) := by
  have hC := h.1 4 c (by decide) (by decide) hc
  rw [Cel, show (4 - 1) * 64 + c = 192 + c from rfl, show 64 * 4 + c = 256 + c from rfl] at hC
  unfold f_X1_isOpenTo
  rw [x_cl (by omega)]
  rcases hC with ⟨h1, h2⟩ | ⟨h1, h2, h3⟩
  · rw [if_pos h2]; exact Or.inl ⟨rfl, Or.inl h1⟩
  · rw [if_neg (by rw [h2]; exact v_ne h3)]
    by_cases e : M (192 + c) = lN z
    · rw [if_pos e]
      have e2 := (v_inj h3 (v_60 hz)).mp (by rw [← h2, e, enc0])
      exact Or.inl ⟨rfl, Or.inr e2⟩
    · rw [if_neg e]
      refine Or.inr ⟨rfl, fun q => ?_⟩
      rcases q with q | q
      · rw [h1] at q; exact absurd q (by decide)
      · exact e (by rw [h2, q.1, q.2, enc0])
/-- the reference's loop over the three -/
theorem g_L0 {N : NS} {a1 : Int32} {a3 : Int64} {o : Int32} : ∀ (fu v : Nat), 5 ≤ v + fu → v ≤ 5 → 0 < fu → f_X7_takes_L176 N 4 a1 a3 o (fu + 1) 0 (nI v) = 0
  | 0, v, h, h5, h0 => absurd h0 (Nat.lt_irrefl _)
  | fu + 1, v, h, h5, h0 => by
    rw [f_X7_takes_L176]
    rcases Nat.lt_or_ge v 5 with hv | hv
    · rw [if_neg (show ¬ (5 : Int32) ≤ nI v from nI_ge (b := 5) hv (by decide)), if_pos rfl]
      unfold f_X7_takes_J245 f_X7_takes_J246
      rw [nI_1]
      rcases Nat.eq_zero_or_pos fu with z | z
      · subst z
        have : v = 4 := by omega
        subst this
        rw [f_X7_takes_L176, if_pos (by decide)]
      · exact g_L0 fu (v + 1) (by omega) (by omega) z
    · rw [if_pos (show (5 : Int32) ≤ nI v from nI_le (a := 5) hv (by omega))]
theorem g_ba {c : Nat} (hc : c < 64) (i : Nat) (hi : i ≤ 5) : ((64 * 4 + nI c) - (nI c - nI c / 5 * 5)) + nI i = nI (256 + (c - c % 5 + i)) := by
  rw [n_mod hc, show (4 : Int32) = nI 4 from rfl, x_ix, pk_sub (by have := Nat.mod_le c 5; omega), nI_add]
  congr 1
  have := Nat.mod_le c 5
  omega
theorem g_L1 {N : NS} {c : Nat} (hc : c < 64) {o : Nat} (ho : o < 2 ^ 31) {x y : Nat} (hx : x < 2 ^ 60) (hy : y < 2 ^ 60) (eo : nu N o = lN y) : ∀ (fu v : Nat), 5 ≤ v + fu → 2 ≤ v → v ≤ 5 → 0 < fu → (f_X7_takes_L176 N 4 (nI c) (lN x) (nI o) (fu + 1) 1 (nI v) = 1 ∧ ∀ i, v ≤ i → i < 5 → Op N (256 + (c - c % 5 + i)) (gb i x y)) ∨ (f_X7_takes_L176 N 4 (nI c) (lN x) (nI o) (fu + 1) 1 (nI v) = 0 ∧ ¬ ∀ i, v ≤ i → i < 5 → Op N (256 + (c - c % 5 + i)) (gb i x y))
  | 0, v, _, _, _, h0 => absurd h0 (Nat.lt_irrefl _)
  | fu + 1, v, h, h2, h5, h0 => by
    rw [f_X7_takes_L176]
    rcases Nat.lt_or_ge v 5 with hv | hv
    · rw [if_neg (show ¬ (5 : Int32) ≤ nI v from nI_ge (b := 5) hv (by decide)), if_neg (show ¬ (1 : Int32) = 0 by decide), g_ba hc v (by omega), x_cl (by omega), x_cl ho, show pN_number N o = lN y from eo, gb_bits h2 (by omega) hx hy]
      have yes : Op N (256 + (c - c % 5 + v)) (gb v x y) → (f_X7_takes_J241 (nI v) (f_X7_takes_L176 N 4 (nI c) (lN x) (nI o) (fu + 1)) = 1 ∧ ∀ i, v ≤ i → i < 5 → Op N (256 + (c - c % 5 + i)) (gb i x y)) ∨ (f_X7_takes_J241 (nI v) (f_X7_takes_L176 N 4 (nI c) (lN x) (nI o) (fu + 1)) = 0 ∧ ¬ ∀ i, v ≤ i → i < 5 → Op N (256 + (c - c % 5 + i)) (gb i x y)) := by
        intro hop
        unfold f_X7_takes_J241 f_X7_takes_J246
        rw [nI_1]
        rcases Nat.eq_zero_or_pos fu with z | z
        · subst z
          have : v = 4 := by omega
          subst this
          rw [f_X7_takes_L176, if_pos (by decide)]
          refine Or.inl ⟨rfl, fun i i1 i2 => ?_⟩
          have : i = 4 := by omega
          subst this; exact hop
        · rcases g_L1 hc ho hx hy eo fu (v + 1) (by omega) (by omega) (by omega) z with ⟨g1, g2⟩ | ⟨g1, g2⟩
          · refine Or.inl ⟨g1, fun i i1 i2 => ?_⟩
            rcases Nat.lt_or_ge v i with q | q
            · exact g2 i q i2
            · have : i = v := by omega
              subst this; exact hop
          · exact Or.inr ⟨g1, fun q => g2 (fun i i1 i2 => q i (by omega) i2)⟩
      have no : ¬ Op N (256 + (c - c % 5 + v)) (gb v x y) → (f_X7_takes_J245 (nI v) (f_X7_takes_L176 N 4 (nI c) (lN x) (nI o) (fu + 1)) = 1 ∧ ∀ i, v ≤ i → i < 5 → Op N (256 + (c - c % 5 + i)) (gb i x y)) ∨ (f_X7_takes_J245 (nI v) (f_X7_takes_L176 N 4 (nI c) (lN x) (nI o) (fu + 1)) = 0 ∧ ¬ ∀ i, v ≤ i → i < 5 → Op N (256 + (c - c % 5 + i)) (gb i x y)) := by
        intro hop
        unfold f_X7_takes_J245 f_X7_takes_J246
        rw [nI_1]
        refine Or.inr ⟨?_, fun q => hop (q v (Nat.le_refl _) hv)⟩
        rcases Nat.eq_zero_or_pos fu with z | z
        · subst z
          have : v = 4 := by omega
          subst this
          rw [f_X7_takes_L176, if_pos (by decide)]
        · exact g_L0 fu (v + 1) (by omega) (by omega) z
      by_cases s0 : iS N (256 + (c - c % 5 + v)) = 0
      · rw [if_pos s0]; exact yes (Or.inl s0)
      · rw [if_neg s0]
        by_cases k0 : kd N (256 + (c - c % 5 + v)) = 0
        · rw [if_pos k0]
          by_cases n0 : nu N (256 + (c - c % 5 + v)) = lN (gb v x y)
          · rw [if_pos n0]; exact yes (Or.inr ⟨k0, n0⟩)
          · rw [if_neg n0]; exact no (fun q => q.elim s0 (fun r => n0 r.2))
        · rw [if_neg k0]; exact no (fun q => q.elim s0 (fun r => k0 r.1))
    · rw [if_pos (show (5 : Int32) ≤ nI v from nI_le (a := 5) hv (by omega))]
      exact Or.inl ⟨rfl, fun i i1 i2 => by omega⟩
/-- the three cells of a group, set on both sides -/
theorem g_grp {M : Nat → Int64} {N : NS} (h : MR M N) {b x y : Nat} (hb : b + 5 ≤ 64) (hb5 : b % 5 = 0) (hx : x < 2 ^ 60) (hy : y < 2 ^ 60) :
    MR (vp_updL (vp_updL (vp_updL M (192 + (b + 2)) (lN (gb 2 x y))) (192 + (b + 3)) (lN (gb 3 x y))) (192 + (b + 4)) (lN (gb 4 x y))) (f_X7_set (f_X7_set (f_X7_set N (nI (256 + (b + 2))) 0 (lN (gb 2 x y))) (nI (256 + (b + 3))) 0 (lN (gb 3 x y))) (nI (256 + (b + 4))) 0 (lN (gb 4 x y))) := by
  have r1 := mr_set h (s := 4) (c := b + 2) (by decide) (by decide) (by omega) (v_60 (gb_lt (i := 2) hx hy)) (fun _ g => by omega) (fun g => by omega)
  have r2 := mr_set r1 (s := 4) (c := b + 3) (by decide) (by decide) (by omega) (v_60 (gb_lt (i := 3) hx hy)) (fun _ g => by omega) (fun g => by omega)
  have r3 := mr_set r2 (s := 4) (c := b + 4) (by decide) (by decide) (by omega) (v_60 (gb_lt (i := 4) hx hy)) (fun _ g => by omega) (fun g => by omega)
  rw [enc0] at r1 r2 r3
  exact r3
theorem set_nu (N : NS) {q q' : Nat} (hq : q < 2 ^ 31) (k : Int32) (x : Int64) (h : q' ≠ q) : nu (f_X7_set N (nI q) k x) q' = nu N q' ∧ iS (f_X7_set N (nI q) k x) q' = iS N q' := by
  rw [set_eq N hq]
  exact ⟨pk_uLn h, pk_un h⟩
theorem set_own (N : NS) {q : Nat} (hq : q < 2 ^ 31) (k : Int32) (x : Int64) : nu (f_X7_set N (nI q) k x) q = x ∧ iS (f_X7_set N (nI q) k x) q = 1 := by
  rw [set_eq N hq]
  exact ⟨pk_uLs, pk_us⟩
theorem g_W {N : NS} {c : Nat} (hc : c < 64) (hb : c - c % 5 + 5 ≤ 64) {x y : Nat} (hx : x < 2 ^ 60) (hy : y < 2 ^ 60) (e0 : nu N (256 + (c - c % 5)) = lN x) (e1 : nu N (256 + (c - c % 5 + 1)) = lN y) : f_X7_written_L148 4 (lN c) 4 2 N = (1, f_X7_set (f_X7_set (f_X7_set N (nI (256 + (c - c % 5 + 2))) 0 (lN (gb 2 x y))) (nI (256 + (c - c % 5 + 3))) 0 (lN (gb 3 x y))) (nI (256 + (c - c % 5 + 4))) 0 (lN (gb 4 x y))) := by
  have one : ∀ (T : NS) (fu v : Nat), 2 ≤ v → v ≤ 4 → nu T (256 + (c - c % 5)) = lN x → nu T (256 + (c - c % 5 + 1)) = lN y → f_X7_written_L148 4 (lN c) (fu + 1) (nI v) T = f_X7_written_L148 4 (lN c) fu (nI (v + 1)) (f_X7_set T (nI (256 + (c - c % 5 + v))) 0 (lN (gb v x y))) := by
    intro T fu v h2 h4 f0 f1
    rw [f_X7_written_L148, if_neg (show ¬ (5 : Int32) ≤ nI v from nI_ge (b := 5) (by omega) (by decide)), lN_i, nI_1, g_ba hc v (by omega)]
    have a0 := g_ba hc 0 (by decide)
    have a1 := g_ba hc 1 (by decide)
    rw [nI_0, Int32.add_zero, Nat.add_zero] at a0
    rw [show nI 1 = 1 from rfl] at a1
    rw [a1, a0, x_cl (by omega), x_cl (by omega), show pN_number T (256 + (c - c % 5)) = lN x from f0, show pN_number T (256 + (c - c % 5 + 1)) = lN y from f1, gb_bits h2 h4 hx hy]
  rw [show (2 : Int32) = nI 2 from rfl, one N 3 2 (by decide) (by decide) e0 e1, one _ 2 3 (by decide) (by decide) ((set_nu _ (by omega) _ _ (by omega)).1.trans e0) ((set_nu _ (by omega) _ _ (by omega)).1.trans e1), one _ 1 4 (by decide) (by decide) ((set_nu _ (by omega) _ _ (by omega)).1.trans ((set_nu _ (by omega) _ _ (by omega)).1.trans e0)) ((set_nu _ (by omega) _ _ (by omega)).1.trans ((set_nu _ (by omega) _ _ (by omega)).1.trans e1)), f_X7_written_L148, if_pos (by decide)]

def gbody (M : Nat → Int64) (b : Nat) (v o : Int64) : Int32 × (Nat → Int64) := if o = -1 then (1, M) else if f_X1_isOpenTo M (nI (192 + (b + 2))) (v &&& o) = 0 then (0, M) else if f_X1_isOpenTo M (nI (192 + (b + 3))) (v ^^^ o) = 0 then (0, M) else if f_X1_isOpenTo M (nI (192 + (b + 4))) (v ||| o) = 0 then (0, M) else (1, vp_updL (vp_updL (vp_updL M (192 + (b + 2)) (v &&& o)) (192 + (b + 3)) (v ^^^ o)) (192 + (b + 4)) (v ||| o))
theorem g_cg {M : Nat → Int64} {c : Nat} (hc : c < 64) (v : Int64) : f_X1_completesGroup M (nI c) v = if c - c % 5 + 1 < c then (1, M) else if c - c % 5 + 5 ≤ 64 then (if c = c - c % 5 then gbody M (c - c % 5) v (M (192 + (c - c % 5 + 1))) else gbody M (c - c % 5) v (M (192 + (c - c % 5)))) else (1, M) := by
  have hb : c - c % 5 ≤ c := Nat.sub_le _ _
  have e1 : nI c - (nI c - nI c / 5 * 5) = nI (c - c % 5) := by rw [n_mod hc, pk_sub (Nat.mod_le _ _)]
  unfold f_X1_completesGroup gbody
  rw [e1]
  generalize c - c % 5 = b at *
  have e2 : f_X1_indexOf 4 (nI b + 2) = nI (192 + (b + 2)) := by
    rw [show (2 : Int32) = nI 2 from rfl, nI_add, show (4 : Int32) = nI 4 from rfl, q_ixof (by decide)]
  have k1 : (nI b + 1 < nI c) ↔ b + 1 < c := by rw [nI_1]; exact nI_ltI (by omega) (by omega)
  have k2 : (nI b + 5 ≤ 64) ↔ b + 5 ≤ 64 := by rw [show (5 : Int32) = nI 5 from rfl, nI_add, show (64 : Int32) = nI 64 from rfl]; exact nI_leI (by omega) (by omega)
  have k3 : (nI c = nI b) ↔ c = b := nI_eq (by omega) (by omega)
  have e3 : nI (192 + (b + 2)) - 1 = nI (192 + (b + 1)) := by rw [show (1 : Int32) = nI 1 from rfl, pk_sub (by omega)]; congr 1
  have e4 : nI (192 + (b + 2)) - 2 = nI (192 + b) := by rw [show (2 : Int32) = nI 2 from rfl, pk_sub (by omega)]; congr 1
  have e5 : nI (192 + (b + 2)) + 1 = nI (192 + (b + 3)) := nI_1 _
  have e6 : nI (192 + (b + 2)) + 2 = nI (192 + (b + 4)) := nI_add _ 2
  rw [e2, e3, e4, e5, e6, x_cl (show 192 + (b + 1) < 2 ^ 31 by omega), x_cl (show 192 + b < 2 ^ 31 by omega), x_cl (show 192 + (b + 2) < 2 ^ 31 by omega), x_cl (show 192 + (b + 3) < 2 ^ 31 by omega), x_cl (show 192 + (b + 4) < 2 ^ 31 by omega)]
  simp only [k1, k2, k3]
/-- the body of a group against the reference's three -/
theorem g_body {M : Nat → Int64} {N : NS} (h : MR M N) {b x y : Nat} (hb : b + 5 ≤ 64) (hx : x < 2 ^ 60) (hy : y < 2 ^ 60) : (gbody M b (lN x) (lN y) = (1, vp_updL (vp_updL (vp_updL M (192 + (b + 2)) (lN (gb 2 x y))) (192 + (b + 3)) (lN (gb 3 x y))) (192 + (b + 4)) (lN (gb 4 x y))) ∧ ∀ i, 2 ≤ i → i < 5 → Op N (256 + (b + i)) (gb i x y)) ∨ (gbody M b (lN x) (lN y) = (0, M) ∧ ¬ ∀ i, 2 ≤ i → i < 5 → Op N (256 + (b + i)) (gb i x y)) := by
  have hg := g_bits hx hy
  have q2 : lN x &&& lN y = lN (gb 2 x y) := hg.1.1
  have q3 : lN x ^^^ lN y = lN (gb 3 x y) := hg.2.1.1
  have q4 : lN x ||| lN y = lN (gb 4 x y) := hg.2.2.1
  unfold gbody
  rw [if_neg (v_pos (by omega)), q2, q3, q4]
  rcases g_open h (c := b + 2) (z := gb 2 x y) (by omega) (gb_lt hx hy) with ⟨o1, p1⟩ | ⟨o1, p1⟩
  · rw [if_neg (by rw [o1]; decide)]
    rcases g_open h (c := b + 3) (z := gb 3 x y) (by omega) (gb_lt hx hy) with ⟨o2, p2⟩ | ⟨o2, p2⟩
    · rw [if_neg (by rw [o2]; decide)]
      rcases g_open h (c := b + 4) (z := gb 4 x y) (by omega) (gb_lt hx hy) with ⟨o3, p3⟩ | ⟨o3, p3⟩
      · rw [if_neg (by rw [o3]; decide)]
        refine Or.inl ⟨rfl, fun i i1 i2 => ?_⟩
        rcases (by omega : i = 2 ∨ i = 3 ∨ i = 4) with rfl | rfl | rfl
        · exact p1
        · exact p2
        · exact p3
      · rw [if_pos o3]
        exact Or.inr ⟨rfl, fun q => p3 (q 4 (by decide) (by decide))⟩
    · rw [if_pos o2]
      exact Or.inr ⟨rfl, fun q => p2 (q 3 (by decide) (by decide))⟩
  · rw [if_pos o1]
    exact Or.inr ⟨rfl, fun q => p1 (q 2 (by decide) (by decide))⟩
def Fw (N T : NS) : Prop := ∃ a b c, T = sN_number (sN_kind (sN_isSet N a) b) c
theorem fw_rf (N : NS) : Fw N N := ⟨pN_isSet N, pN_kind N, pN_number N, rfl⟩
theorem fw_set (N : NS) (q : Int32) (k : Int32) (x : Int64) : Fw N (f_X7_set N q k x) := ⟨_, _, _, rfl⟩
theorem fw_tr {S T U : NS} (h : Fw S T) (h2 : Fw T U) : Fw S U := by
  obtain ⟨a, b, c, rfl⟩ := h
  obtain ⟨d, e, f, rfl⟩ := h2
  exact ⟨_, _, _, rfl⟩
def Wr (M : Nat → Int64) (N : NS) (C : Int32 × (Nat → Int64)) (W : Int32 × NS) : Prop := ((C.1 = 0 ∧ W.1 = 0) ∨ (C.1 = 1 ∧ W.1 = 1)) ∧ MR C.2 W.2 ∧ Fw N W.2
theorem wr_no {M : Nat → Int64} {N : NS} (h : MR M N) : Wr M N (0, M) (0, N) := ⟨Or.inl ⟨rfl, rfl⟩, h, fw_rf N⟩
theorem wr_same {M : Nat → Int64} {N : NS} (h : MR M N) : Wr M N (1, M) (1, N) := ⟨Or.inr ⟨rfl, rfl⟩, h, fw_rf N⟩
theorem wr_set {M : Nat → Int64} {N : NS} (h : MR M N) {s c : Nat} (h1 : 1 ≤ s) (h2 : s ≤ 5) (h3 : c < 64) {k : Int32} {x : Int64} (hv : Vok k x) (h4 : s = 4 → c % 5 ≤ 1 → k = 0 ∧ ∃ z, z < 2 ^ 60 ∧ x = lN z) (h5 : s = 5 → c = 0 ∨ iS N (320 + (c - 1)) = 1) : Wr M N (1, vp_updL M ((s - 1) * 64 + c) (enc k x)) (1, f_X7_set N (nI (64 * s + c)) k x) :=
  ⟨Or.inr ⟨rfl, rfl⟩, mr_set h h1 h2 h3 hv h4 h5, fw_set _ _ _ _⟩
theorem wr_4c {M : Nat → Int64} {N : NS} (h : MR M N) {b c o x : Nat} (hb : b + 5 ≤ 64) (hb5 : b = c - c % 5) (hc : c < 64) (hco : (c = b ∧ o = b + 1) ∨ (c = b + 1 ∧ o = b)) (hx : x < 2 ^ 60) (own : Wr M N (1, vp_updL M (192 + c) (lN x)) (1, f_X7_set N (nI (256 + c)) 0 (lN x))) :
    Wr M N (if (gbody M b (lN x) (M (192 + o))).1 = 0 then (0, (gbody M b (lN x) (M (192 + o))).2) else (1, vp_updL (gbody M b (lN x) (M (192 + o))).2 (192 + c) (lN x)))
      (if (if iS N (256 + o) = 0 then (1 : Int32) else f_X7_takes_L176 N 4 (nI c) (lN x) (nI (256 + o)) 4 1 2) = 0 then (0, N) else if iS N (256 + o) = 0 then (1, f_X7_set N (nI (256 + c)) 0 (lN x)) else f_X7_written_L148 4 (lN c) 4 2 (f_X7_set N (nI (256 + c)) 0 (lN x))) := by
  have ho : o < 64 := by omega
  have hm : b % 5 = 0 := by omega
  have hC := h.1 4 o (by decide) (by decide) ho
  rw [Cel, show (4 - 1) * 64 + o = 192 + o from rfl, show 64 * 4 + o = 256 + o from rfl] at hC
  rcases hC with ⟨u1, u2⟩ | ⟨u1, u2, u3⟩
  · rw [if_pos u1, u2, if_pos u1, if_neg (show ¬ (1 : Int32) = 0 by decide)]
    unfold gbody
    rw [if_pos rfl, if_neg (show ¬ (1 : Int32) = 0 by decide)]
    exact own
  · obtain ⟨w1, y, hy, w2⟩ := h.2.1 o ho (by omega) u1
    have nz : ¬ iS N (256 + o) = 0 := by rw [u1]; decide
    rw [if_neg nz, if_neg nz, u2, w1, w2, enc0]
    have hL := g_L1 (N := N) hc (o := 256 + o) (by omega) hx hy w2 3 2 (by decide) (by decide) (by decide) (by decide)
    rw [← hb5] at hL
    rcases g_body h (b := b) hb hx hy with ⟨g1, g2⟩ | ⟨g1, g2⟩
    · rcases hL with ⟨l1, -⟩ | ⟨-, l2⟩
      · rw [g1, show f_X7_takes_L176 N 4 (nI c) (lN x) (nI (256 + o)) 4 1 2 = 1 from l1, if_neg (show ¬ (1 : Int32) = 0 by decide), if_neg (show ¬ (1 : Int32) = 0 by decide)]
        have so := set_own N (q := 256 + c) (by omega) 0 (lN x)
        have sn := set_nu N (q := 256 + c) (q' := 256 + o) (by omega) 0 (lN x) (by omega)
        have hW : f_X7_written_L148 4 (lN c) 4 2 (f_X7_set N (nI (256 + c)) 0 (lN x)) = (1, f_X7_set (f_X7_set (f_X7_set (f_X7_set N (nI (256 + c)) 0 (lN x)) (nI (256 + (b + 2))) 0 (lN (gb 2 x y))) (nI (256 + (b + 3))) 0 (lN (gb 3 x y))) (nI (256 + (b + 4))) 0 (lN (gb 4 x y))) := by
          rcases hco with ⟨q1, q2⟩ | ⟨q1, q2⟩
          · have r := g_W (N := f_X7_set N (nI (256 + c)) 0 (lN x)) hc (by omega) hx hy (by rw [← hb5, ← q1]; exact so.1) (by rw [← hb5, ← q2]; exact sn.1.trans w2)
            rw [← hb5] at r
            exact r
          · have r := g_W (N := f_X7_set N (nI (256 + c)) 0 (lN x)) hc (by omega) hy hx (by rw [← hb5, ← q2]; exact sn.1.trans w2) (by rw [← hb5, ← q1]; exact so.1)
            rw [← hb5, gb_comm 2, gb_comm 3, gb_comm 4] at r
            exact r
        rw [hW]
        refine ⟨Or.inr ⟨rfl, rfl⟩, ?_, fw_tr (fw_set _ _ _ _) (fw_tr (fw_set _ _ _ _) (fw_tr (fw_set _ _ _ _) (fw_set _ _ _ _)))⟩
        have r := g_grp own.2.1 hb hm hx hy
        show MR (vp_updL (vp_updL (vp_updL (vp_updL M (192 + (b + 2)) (lN (gb 2 x y))) (192 + (b + 3)) (lN (gb 3 x y))) (192 + (b + 4)) (lN (gb 4 x y))) (192 + c) (lN x)) _
        rw [up_comm (i := 192 + (b + 4)) (by omega), up_comm (i := 192 + (b + 3)) (j := 192 + c) (by omega), up_comm (i := 192 + (b + 2)) (j := 192 + c) (by omega)]
        exact r
      · exact absurd g2 l2
    · rcases hL with ⟨-, l2⟩ | ⟨l1, -⟩
      · exact absurd l2 g2
      · rw [g1, show f_X7_takes_L176 N 4 (nI c) (lN x) (nI (256 + o)) 4 1 2 = 0 from l1, if_pos rfl, if_pos rfl]
        exact wr_no h
/-- segment 4, an unset cell at 0 or 1 of its group, a number below 2^60 -/
theorem wr_4 {M : Nat → Int64} {N : NS} (h : MR M N) {c x : Nat} (hc : c < 64) (h5 : c % 5 ≤ 1) (hx : x < 2 ^ 60) (hu : iS N (256 + c) = 0) :
    Wr M N (if (f_X1_completesGroup M (nI c) (lN x)).1 = 0 then (0, (f_X1_completesGroup M (nI c) (lN x)).2) else (1, vp_updL (f_X1_completesGroup M (nI c) (lN x)).2 (192 + c) (lN x)))
      (if f_X7_takes_J116 N 4 (nI c) (lN x) 1 = 0 then (0, N) else (if 2 ≤ (nI c - nI c / 5 * 5) then (1, f_X7_set N (nI (256 + c)) 0 (lN x)) else if 60 ≤ nI c - (nI c - nI c / 5 * 5) then (1, f_X7_set N (nI (256 + c)) 0 (lN x)) else if iS (f_X7_set N (nI (256 + c)) 0 (lN x)) ((64 * 4 + nI c) - (nI c - nI c / 5 * 5)).toNatClampNeg = 0 then (1, f_X7_set N (nI (256 + c)) 0 (lN x)) else if iS (f_X7_set N (nI (256 + c)) 0 (lN x)) (((64 * 4 + nI c) - (nI c - nI c / 5 * 5)) + 1).toNatClampNeg = 0 then (1, f_X7_set N (nI (256 + c)) 0 (lN x)) else f_X7_written_L148 4 (lN c) 4 2 (f_X7_set N (nI (256 + c)) 0 (lN x)))) := by
  have hle := Nat.mod_le c 5
  have own : Wr M N (1, vp_updL M (192 + c) (lN x)) (1, f_X7_set N (nI (256 + c)) 0 (lN x)) := by
    have := wr_set h (s := 4) (c := c) (by decide) (by decide) hc (v_60 hx) (fun _ _ => ⟨rfl, x, hx, rfl⟩) (fun g => by omega)
    rw [enc0] at this
    exact this
  have e1 : nI c - (nI c - nI c / 5 * 5) = nI (c - c % 5) := by rw [n_mod hc, pk_sub (Nat.mod_le _ _)]
  have a0 := g_ba hc 0 (by decide)
  have a1 := g_ba hc 1 (by decide)
  rw [nI_0, Int32.add_zero, Nat.add_zero] at a0
  rw [show nI 1 = 1 from rfl] at a1
  have k1 : ¬ (2 : Int32) ≤ nI c - nI c / 5 * 5 := by rw [n_mod hc]; exact nI_ge (b := 2) (by omega) (by decide)
  rw [g_cg hc, if_neg (show ¬ c - c % 5 + 1 < c by omega), if_neg k1, a1, a0, x_cl (by omega), x_cl (by omega), e1]
  unfold f_X7_takes_J116 f_X7_takes_J135
  rw [if_neg (show ¬ (1 : Int32) = 0 by decide), if_neg (show ¬ (1 : Int32) = 0 by decide), e1]
  by_cases hb : c - c % 5 + 5 ≤ 64
  · have k2 : ¬ nI (c - c % 5) = 60 := by rw [show (60 : Int32) = nI 60 from rfl, nI_eq (by omega) (by decide)]; omega
    have k3 : ¬ (60 : Int32) ≤ nI (c - c % 5) := nI_ge (b := 60) (by omega) (by decide)
    rw [if_pos hb, if_neg k2, if_neg k2, if_neg k3]
    by_cases h0 : c % 5 = 0
    · have hcb : c = c - c % 5 := by omega
      have z0 : nI c - nI c / 5 * 5 = 0 := by rw [n_mod hc, h0]; rfl
      have e3 : 64 * 4 + nI c + 1 = nI (256 + (c + 1)) := by rw [show (4 : Int32) = nI 4 from rfl, x_ix, nI_1]; congr 1
      rw [if_pos hcb, ← hcb, if_pos z0, e3, x_cl (by omega), if_neg (show ¬ iS (f_X7_set N (nI (256 + c)) 0 (lN x)) (256 + c) = 0 by rw [(set_own N (by omega) 0 (lN x)).2]; decide), (set_nu N (q' := 256 + (c + 1)) (by omega) 0 (lN x) (by omega)).2]
      exact wr_4c h (b := c) (o := c + 1) (by omega) hcb hc (Or.inl ⟨rfl, rfl⟩) hx own
    · have hcb : ¬ c = c - c % 5 := by omega
      have z0 : ¬ nI c - nI c / 5 * 5 = 0 := by rw [n_mod hc, show (0 : Int32) = nI 0 from rfl, nI_eq (by omega) (by decide)]; exact h0
      have e3 : 64 * 4 + nI c - 1 = nI (256 + (c - c % 5)) := by rw [show (4 : Int32) = nI 4 from rfl, x_ix, show (1 : Int32) = nI 1 from rfl, pk_sub (by omega)]; congr 1; omega
      have e4 : 256 + (c - c % 5 + 1) = 256 + c := by omega
      rw [if_neg hcb, if_neg z0, e3, x_cl (by omega), e4, if_neg (c := iS (f_X7_set N (nI (256 + c)) 0 (lN x)) (256 + c) = 0) (by rw [(set_own N (by omega) 0 (lN x)).2]; decide), (set_nu N (q' := 256 + (c - c % 5)) (by omega) 0 (lN x) (by omega)).2]
      exact wr_4c h (b := c - c % 5) (o := c - c % 5) hb rfl hc (Or.inr ⟨by omega, rfl⟩) hx own
  · have k2 : nI (c - c % 5) = 60 := by rw [show (60 : Int32) = nI 60 from rfl, nI_eq (by omega) (by decide)]; omega
    have k3 : (60 : Int32) ≤ nI (c - c % 5) := nI_le (a := 60) (by omega) (by omega)
    rw [if_neg hb, if_pos k2, if_pos k2, if_pos k3, ite_self, if_neg (show ¬ (1 : Int32) = 0 by decide), if_neg (show ¬ (1 : Int32) = 0 by decide)]
    exact own
/-- writing, both sides -/
theorem r_write {M : Nat → Int64} {N : NS} (h : MR M N) {s : Nat} (h1 : 1 ≤ s) (h2 : s ≤ 5) {v : Int64} (hv : v.toInt32.toInt64 = v) {k : Int32} {x : Int64} (hV : Vok k x) : Wr M N (f_X1_write M (nI s) v.toInt32 (enc k x)) (f_X7_written N (nI s) v k x) := by
  unfold f_X1_write f_X7_written
  rw [x_seg h1 h2, if_neg (show ¬ (1 : Int32) = 0 by decide)]
  rcases x_both hv with ⟨c1, c2⟩ | ⟨c, hc, e1, e2⟩
  · rw [if_pos c1, if_pos c2]; exact wr_no h
  · rw [e2, e1, x_cel hc, x_cel7 hc, if_neg (show ¬ (1 : Int32) = 0 by decide), if_neg (show ¬ (1 : Int32) = 0 by decide), if_neg (v_ne hV), q_ixof h1, x_ix, x_cl (by omega), x_cl (by omega)]
    have hC := h.1 s c h1 h2 hc
    by_cases u : iS N (64 * s + c) = 0
    · rw [if_pos ((cel_un hC).mp u), if_pos u]
      rcases (by omega : s = 1 ∨ s = 2 ∨ s = 3 ∨ s = 4 ∨ s = 5) with rfl | rfl | rfl | rfl | rfl
      · unfold f_X1_takes f_X7_takes
        rw [if_neg (show ¬ nI 1 = 3 by decide), if_neg (show ¬ nI 1 = 4 by decide), if_neg (show ¬ nI 1 = 5 by decide), if_neg (show ¬ (1 : Int32) = 0 by decide), if_neg (show ¬ nI 1 = 4 by decide), if_neg (show ¬ nI 1 = 3 by decide), if_neg (show ¬ nI 1 = 5 by decide), if_neg (show ¬ nI 1 = 4 by decide), if_neg (show ¬ (1 : Int32) = 0 by decide), if_neg (show ¬ nI 1 = 4 by decide)]
        exact wr_set h h1 h2 hc hV (fun g => by omega) (fun g => by omega)
      · unfold f_X1_takes f_X7_takes
        rw [if_neg (show ¬ nI 2 = 3 by decide), if_neg (show ¬ nI 2 = 4 by decide), if_neg (show ¬ nI 2 = 5 by decide), if_neg (show ¬ (1 : Int32) = 0 by decide), if_neg (show ¬ nI 2 = 4 by decide), if_neg (show ¬ nI 2 = 3 by decide), if_neg (show ¬ nI 2 = 5 by decide), if_neg (show ¬ nI 2 = 4 by decide), if_neg (show ¬ (1 : Int32) = 0 by decide), if_neg (show ¬ nI 2 = 4 by decide)]
        exact wr_set h h1 h2 hc hV (fun g => by omega) (fun g => by omega)
      · unfold f_X1_takes f_X7_takes
        rw [if_pos (show nI 3 = 3 from rfl), if_pos (show nI 3 = 3 from rfl)]
        by_cases k0 : k = 0
        · rw [if_neg (fun z => (v_isN hV).mp z k0), if_pos k0, (v_num hV k0).2]
          by_cases big : 65536 ≤ x
          · rw [if_pos big, if_pos rfl, if_pos rfl]; exact wr_no h
          · rw [if_neg big, if_neg (show ¬ (1 : Int32) = 0 by decide), if_neg (show ¬ (1 : Int32) = 0 by decide), if_neg (show ¬ nI 3 = 4 by decide), if_neg (show ¬ nI 3 = 4 by decide)]
            have r := wr_set h h1 h2 hc hV (fun g => by omega) (fun g => by omega)
            rw [(v_num hV k0).2] at r
            exact r
        · rw [if_pos ((v_isN hV).mpr k0), if_neg k0, if_pos rfl, if_pos rfl]; exact wr_no h
      · have t0 : ∀ o, f_X7_takes_J135 N (nI 4) (nI c) x 0 o = 0 := fun o => by unfold f_X7_takes_J135; rw [if_pos rfl]
        have t1 : f_X7_takes_J115 N (nI 4) (nI c) x = 0 := by
          unfold f_X7_takes_J115 f_X7_takes_J116
          rw [t0, t0, ite_self]
        unfold f_X1_takes f_X7_takes
        rw [if_neg (show ¬ nI 4 = 3 by decide), if_pos (show nI 4 = 4 from rfl), if_pos (show nI 4 = 4 from rfl), if_neg (show ¬ nI 4 = 3 by decide), if_neg (show ¬ nI 4 = 5 by decide), if_pos (show nI 4 = 4 from rfl), if_pos (show nI 4 = 4 from rfl)]
        by_cases pos : c % 5 ≤ 1
        · have p1 : ¬ 1 < nI c - nI c / 5 * 5 := by rw [n_mod hc]; exact nI_nlt (a := 1) (b := c % 5) pos (by decide)
          have p2 : nI c - nI c / 5 * 5 ≤ 1 := by rw [n_mod hc]; exact nI_le (b := 1) pos (by decide)
          rw [if_neg p1, if_pos p2]
          by_cases k0 : k = 0
          · rw [if_neg (fun z => (v_isN hV).mp z k0), if_pos k0, (v_num hV k0).2]
            obtain ⟨z, hz, ez⟩ := (v_num hV k0).1
            have hz3 := hPP
            subst k0
            subst ez
            rw [show (60 : Int32) = nI 60 from rfl, z_sshr (by omega) (by decide), show (1152921504606846976 : Int64) = lN 1152921504606846976 from rfl]
            by_cases big : 2 ^ 60 ≤ z
            · rw [if_pos ((pk_lLE (by decide) (by omega)).mpr big), if_pos rfl, if_neg (c := lN (z / 2 ^ 60) = 0) (fun q => by have := (pk_lEQ (b := 0) (by omega) (by decide)).mp q; omega), t1, if_pos rfl]
              exact wr_no h
            · rw [if_neg (fun q => big ((pk_lLE (by decide) (by omega)).mp q)), show z / 2 ^ 60 = 0 by omega, if_pos (show lN 0 = 0 from rfl), if_neg (show ¬ (1 : Int32) = 0 by decide)]
              have r := wr_4 h hc pos (x := z) (by omega) u
              rw [show (64 : Int32) * 4 + nI c = nI (256 + c) from x_ix 4 c] at r
              exact r
          · rw [if_pos ((v_isN hV).mpr k0), if_neg k0, if_pos rfl, t1, if_pos rfl]
            exact wr_no h
        · have p1 : 1 < nI c - nI c / 5 * 5 := by rw [n_mod hc]; exact nI_lt (a := 1) (by omega) (by omega)
          have p2 : ¬ nI c - nI c / 5 * 5 ≤ 1 := by rw [n_mod hc]; exact nI_ge (a := 1) (by omega) (by omega)
          have p3 : (2 : Int32) ≤ nI c - nI c / 5 * 5 := by rw [n_mod hc]; exact nI_le (a := 2) (by omega) (by omega)
          rw [if_pos p1, if_neg p2, if_neg (show ¬ (1 : Int32) = 0 by decide), if_neg (show ¬ (1 : Int32) = 0 by decide), if_pos p3, g_cg hc, if_pos (show c - c % 5 + 1 < c by omega), if_neg (show ¬ (1 : Int32) = 0 by decide)]
          exact wr_set h h1 h2 hc hV (fun _ g => absurd g pos) (fun g => by omega)
      · unfold f_X1_takes f_X7_takes
        rw [if_neg (show ¬ nI 5 = 3 by decide), if_neg (show ¬ nI 5 = 4 by decide), if_pos (show nI 5 = 5 from rfl), if_neg (show ¬ nI 5 = 3 by decide), if_pos (show nI 5 = 5 from rfl)]
        rcases Nat.eq_zero_or_pos c with hz | hz
        · subst hz
          rw [if_pos (show nI 0 = 0 from rfl), show f_X7_takes_L45 N (nI 5) (nI 0) 65 1 320 = 1 from t5_c (c := 0) (by decide) 65 0 (by decide) (by decide) (fun z z1 z2 => by omega), if_neg (show ¬ (1 : Int32) = 0 by decide), if_neg (show ¬ (1 : Int32) = 0 by decide), if_neg (show ¬ nI 5 = 4 by decide), if_neg (show ¬ nI 5 = 4 by decide)]
          exact wr_set h h1 h2 hc hV (fun g => by omega) (fun _ => Or.inl rfl)
        · have e3 : nI c - 1 = nI (c - 1) := by rw [show (1 : Int32) = nI 1 from rfl, pk_sub (by omega)]
          have hP := h.1 5 (c - 1) (by decide) (by decide) (by omega)
          rw [if_neg (nI_ne0 hz (by omega)), e3, show f_X1_look M 5 (nI (c - 1)) = M ((5 - 1) * 64 + (c - 1)) from x_look (by decide) (by decide) (by omega)]
          by_cases w : iS N (64 * 5 + (c - 1)) = 0
          · rw [if_pos ((cel_un hP).mp w), if_pos rfl]
            rcases t5_1 (N := N) hc 65 0 (by omega) (by omega) with g | ⟨-, g2⟩
            · rw [show f_X7_takes_L45 N (nI 5) (nI c) 65 1 320 = 0 from g, if_pos rfl]; exact wr_no h
            · exact absurd w (g2 (c - 1) (by omega) (by omega))
          · rw [if_neg (fun z => w ((cel_un hP).mpr z)), if_neg (show ¬ (1 : Int32) = 0 by decide)]
            have w1 := (cel_set hP w).1
            have all := t5_all h (c - 1) (by omega) w1
            rw [show f_X7_takes_L45 N (nI 5) (nI c) 65 1 320 = 1 from t5_c hc 65 0 (by omega) (by omega) (fun z z1 z2 => by rw [all z (by omega)]; decide), if_neg (show ¬ (1 : Int32) = 0 by decide), if_neg (show ¬ nI 5 = 4 by decide), if_neg (show ¬ nI 5 = 4 by decide)]
            exact wr_set h h1 h2 hc hV (fun g => by omega) (fun _ => Or.inr w1)
    · obtain ⟨d1, d2, d3⟩ := cel_set hC u
      rw [if_neg u, if_neg (fun z => u ((cel_un hC).mpr z)), d2]
      by_cases e : kd N (64 * s + c) = k ∧ nu N (64 * s + c) = x
      · rw [if_pos ((v_inj d3 hV).mpr e), if_pos e.1, if_pos e.2]; exact wr_same h
      · rw [if_neg (fun z => e ((v_inj d3 hV).mp z))]
        by_cases e5 : kd N (64 * s + c) = k
        · rw [if_pos e5, if_neg (fun z => e ⟨e5, z⟩)]; exact wr_no h
        · rw [if_neg e5]; exact wr_no h
