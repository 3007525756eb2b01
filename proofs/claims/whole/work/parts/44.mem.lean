/-! the memory on both sides -/
abbrev iS (N : NS) (q : Nat) : Int32 := pN_isSet N q
abbrev kd (N : NS) (q : Nat) : Int32 := pN_kind N q
abbrev nu (N : NS) (q : Nat) : Int64 := pN_number N q
def Cel (M : Nat → Int64) (N : NS) (s c : Nat) : Prop := (iS N (64 * s + c) = 0 ∧ M ((s - 1) * 64 + c) = -1) ∨ (iS N (64 * s + c) = 1 ∧ M ((s - 1) * 64 + c) = enc (kd N (64 * s + c)) (nu N (64 * s + c)) ∧ Vok (kd N (64 * s + c)) (nu N (64 * s + c)))
def MR (M : Nat → Int64) (N : NS) : Prop := (∀ s c : Nat, 1 ≤ s → s ≤ 5 → c < 64 → Cel M N s c) ∧ (∀ c, c < 64 → c % 5 ≤ 1 → iS N (256 + c) = 1 → kd N (256 + c) = 0 ∧ ∃ x, x < 2 ^ 60 ∧ nu N (256 + c) = lN x) ∧ (∀ c, c + 1 < 64 → iS N (320 + (c + 1)) = 1 → iS N (320 + c) = 1)
theorem mr_fr {M : Nat → Int64} {N T : NS} (h : MR M N) (h1 : pN_isSet T = pN_isSet N) (h2 : pN_kind T = pN_kind N) (h3 : pN_number T = pN_number N) : MR M T := by
  unfold MR Cel iS kd nu at *
  rw [h1, h2, h3]; exact h
theorem cel_un {M : Nat → Int64} {N : NS} {s c : Nat} (h : Cel M N s c) : (iS N (64 * s + c) = 0 ↔ M ((s - 1) * 64 + c) = -1) := by
  rcases h with ⟨h1, h2⟩ | ⟨h1, h2, h3⟩
  · rw [h1, h2]; simp
  · rw [h1, h2]
    constructor
    · intro z; exact absurd z (by decide)
    · intro z; exact absurd z (v_ne h3)
theorem cel_set {M : Nat → Int64} {N : NS} {s c : Nat} (h : Cel M N s c) (h0 : ¬ iS N (64 * s + c) = 0) : iS N (64 * s + c) = 1 ∧ M ((s - 1) * 64 + c) = enc (kd N (64 * s + c)) (nu N (64 * s + c)) ∧ Vok (kd N (64 * s + c)) (nu N (64 * s + c)) := by
  rcases h with ⟨h1, -⟩ | h
  · exact absurd h1 h0
  · exact h
theorem x_seg {s : Nat} (h1 : 1 ≤ s) (h2 : s ≤ 5) : f_X1_isSegment (nI s) = 1 := by
  unfold f_X1_isSegment
  rw [show (1 : Int32) = nI 1 from rfl, show (5 : Int32) = nI 5 from rfl, if_neg (nI_nlt h1 (by omega)), if_neg (nI_nlt h2 (by omega))]
theorem x_cel {c : Nat} (h : c < 64) : f_X1_isCell (nI c) = 1 := by
  unfold f_X1_isCell
  rw [if_neg (nI_pos (by omega)), show (64 : Int32) = nI 64 from rfl, if_neg (nI_ge h (by decide))]
theorem x_cel7 {c : Nat} (h : c < 64) : f_X7_isCell (lN c) = 1 := by
  unfold f_X7_isCell
  rw [if_neg (fun z => by have := Int64.lt_iff_toInt_lt.mp z; rw [pk_lT (by omega), show (0 : Int64).toInt = 0 from rfl] at this; omega), show (64 : Int64) = lN 64 from rfl, if_neg (fun z => by have := (pk_lLE (by decide) (by omega)).mp z; omega)]
/-- a cell's number as a long and as an int -/
theorem x_both {v : Int64} (h : v.toInt32.toInt64 = v) : (f_X7_isCell v = 0 ∧ f_X1_isCell v.toInt32 = 0) ∨ ∃ c : Nat, c < 64 ∧ v = lN c ∧ v.toInt32 = nI c := by
  by_cases h0 : f_X7_isCell v = 0
  · refine Or.inl ⟨h0, ?_⟩
    have hi : v.toInt32.toInt = v.toInt := by rw [← Int32.toInt_toInt64, h]
    unfold f_X7_isCell at h0
    unfold f_X1_isCell
    by_cases c1 : v < 0
    · rw [if_pos (Int32.lt_iff_toInt_lt.mpr (by rw [hi]; exact Int64.lt_iff_toInt_lt.mp c1))]
    · rw [if_neg c1] at h0
      by_cases c2 : 64 ≤ v
      · rw [if_neg (fun z => c1 (Int64.lt_iff_toInt_lt.mpr (by rw [← hi]; exact Int32.lt_iff_toInt_lt.mp z))), if_pos (Int32.le_iff_toInt_le.mpr (by rw [hi]; exact Int64.le_iff_toInt_le.mp c2))]
      · rw [if_neg c2] at h0; exact absurd h0 (by decide)
  · obtain ⟨c, hc, e⟩ := vp_in_of (n_cel h0) (by decide)
    exact Or.inr ⟨c, hc, by rw [← h, e, nI_l (by omega)], e⟩
theorem v_rt {k : Int32} {n : Int64} (h : Vok k n) (hk : ¬ k = 0) : n.toInt32.toInt64 = n := by rw [← (v_cel h hk).1]; exact (v_cel h hk).2
theorem v_k5 {k : Int32} {n : Int64} (h : Vok k n) (hk : ¬ k = 0) : ∃ j : Nat, 1 ≤ j ∧ j ≤ 5 ∧ k = nI j := by
  rcases h with ⟨rfl, -⟩ | ⟨j, c, h1, h2, -, e, -⟩
  · exact absurd rfl hk
  · exact ⟨j, h1, h2, e⟩
theorem x_ix (s c : Nat) : 64 * nI s + nI c = nI (64 * s + c) := by rw [show (64 : Int32) = nI 64 from rfl, pk_mul, nI_add]
theorem x_cl {n : Nat} (h : n < 2 ^ 31) : (nI n).toNatClampNeg = n := nI_clamp h
theorem x_look {M : Nat → Int64} {s c : Nat} (h1 : 1 ≤ s) (h2 : s ≤ 5) (h3 : c < 64) : f_X1_look M (nI s) (nI c) = M ((s - 1) * 64 + c) := by
  unfold f_X1_look
  rw [x_seg h1 h2, x_cel h3, if_neg (by decide), if_neg (by decide), q_ixof h1, x_cl (by omega)]
theorem fr_read (S : NS) (a : Int32) : Fr S (f_X7_read S a) := by
  unfold f_X7_read f_X7_read_J52 f_X7_read_J52b f_X7_read_J53 f_X7_read_J53b
  repeat' split
  all_goals exact ⟨_, _, _, rfl⟩
/-- what is read at a place -/
theorem r_read {M : Nat → Int64} {S : NS} {a : Int32} (hM : MR M S) (h : Vok (sg S a) (vl S a)) (hk : ¬ sg S a = 0) : f_X1_look M (f_X4_segmentOf (enc (sg S a) (vl S a))) (f_X4_cellOf (enc (sg S a) (vl S a))) = res (f_X7_read S a) ∧ Gd (f_X7_read S a) := by
  rw [v_seg h hk, (v_cel h hk).1]
  obtain ⟨j, h1, h2, e⟩ := v_k5 h hk
  unfold f_X7_read
  show _ = res (if f_X7_isCell (vl S a) = 0 then _ else if 64 * sg S a + (vl S a).toInt32 ≤ 0 then _ else if iS S (64 * sg S a + (vl S a).toInt32).toNatClampNeg = 0 then _ else _) ∧ Gd (if f_X7_isCell (vl S a) = 0 then _ else if 64 * sg S a + (vl S a).toInt32 ≤ 0 then _ else if iS S (64 * sg S a + (vl S a).toInt32).toNatClampNeg = 0 then _ else _)
  rcases x_both (v_rt h hk) with ⟨c1, c2⟩ | ⟨c, hc, e1, e2⟩
  · rw [if_pos c1, if_pos (show (0 : Int32) ≤ 0 by decide)]
    unfold f_X1_look
    rw [e, x_seg h1 h2, if_neg (by decide), if_pos c2]
    exact ⟨rfl, Or.inl rfl⟩
  · have e3 : 64 * sg S a + (vl S a).toInt32 = nI (64 * j + c) := by rw [e, e2, x_ix]
    rw [if_neg (by rw [e1, x_cel7 hc]; decide), e, e2, x_look h1 h2 hc]
    rw [← e2, ← e, e3, x_cl (by omega), if_neg (nI_nle (by omega) (by omega))]
    have hc1 := hM.1 j c h1 h2 hc
    by_cases h0 : iS S (64 * j + c) = 0
    · rw [if_pos h0, (cel_un hc1).mp h0]
      exact ⟨rfl, Or.inl rfl⟩
    · obtain ⟨d1, d2, d3⟩ := cel_set hc1 h0
      rw [if_neg h0, d2]
      have e4 : ((64 * pN_segment S a.toNatClampNeg) + ((pN_value S a.toNatClampNeg : Int64).toInt32)).toNatClampNeg = 64 * j + c := by
        rw [show 64 * pN_segment S a.toNatClampNeg + (pN_value S a.toNatClampNeg).toInt32 = nI (64 * j + c) from e3, x_cl (by omega)]
      unfold f_X7_read_J53b
      constructor
      · show _ = enc (kd S _) (nu S _)
        rw [e4]
      · refine Or.inr ⟨rfl, ?_⟩
        show Vok (kd S _) (nu S _)
        rw [e4]; exact d3
/-! writing -/
theorem b1 : vp_nar .boolean 1 = 1 := by decide +kernel
theorem set_eq (N : NS) {q : Nat} (hq : q < 2 ^ 31) (k : Int32) (x : Int64) : f_X7_set N (nI q) k x = sN_number (sN_kind (sN_isSet N (upd (pN_isSet N) q 1)) (upd (pN_kind N) q k)) (vp_updL (pN_number N) q x) := by
  unfold f_X7_set
  rw [x_cl hq, b1]
theorem mr_set {M : Nat → Int64} {N : NS} (h : MR M N) {s c : Nat} (h1 : 1 ≤ s) (h2 : s ≤ 5) (h3 : c < 64) {k : Int32} {x : Int64} (hv : Vok k x) (h4 : s = 4 → c % 5 ≤ 1 → k = 0 ∧ ∃ z, z < 2 ^ 60 ∧ x = lN z) (h5 : s = 5 → c = 0 ∨ iS N (320 + (c - 1)) = 1) : MR (vp_updL M ((s - 1) * 64 + c) (enc k x)) (f_X7_set N (nI (64 * s + c)) k x) := by
  rw [set_eq N (by omega)]
  refine ⟨fun s' c' g1 g2 g3 => ?_, fun c' g3 g4 => ?_, fun c' g3 => ?_⟩
  · unfold Cel
    show ((upd (pN_isSet N) (64 * s + c) 1) (64 * s' + c') = 0 ∧ _) ∨ ((upd (pN_isSet N) (64 * s + c) 1) (64 * s' + c') = 1 ∧ _ = enc ((upd (pN_kind N) (64 * s + c) k) (64 * s' + c')) ((vp_updL (pN_number N) (64 * s + c) x) (64 * s' + c')) ∧ Vok ((upd (pN_kind N) (64 * s + c) k) (64 * s' + c')) ((vp_updL (pN_number N) (64 * s + c) x) (64 * s' + c')))
    by_cases e : s' = s ∧ c' = c
    · obtain ⟨rfl, rfl⟩ := e
      rw [pk_us, pk_us, pk_uLs, pk_uLs]
      exact Or.inr ⟨rfl, rfl, hv⟩
    · have e1 : 64 * s' + c' ≠ 64 * s + c := fun z => e (by omega)
      have e2 : (s' - 1) * 64 + c' ≠ (s - 1) * 64 + c := fun z => e (by omega)
      rw [pk_un e1, pk_un e1, pk_uLn e1, pk_uLn e2]
      exact h.1 s' c' g1 g2 g3
  · show (upd (pN_isSet N) (64 * s + c) 1) (256 + c') = 1 → (upd (pN_kind N) (64 * s + c) k) (256 + c') = 0 ∧ ∃ z, z < 2 ^ 60 ∧ (vp_updL (pN_number N) (64 * s + c) x) (256 + c') = lN z
    by_cases e : s = 4 ∧ c' = c
    · obtain ⟨rfl, rfl⟩ := e
      intro _
      rw [show 64 * 4 + c' = 256 + c' from rfl, pk_us, pk_uLs]
      exact h4 rfl g4
    · have e1 : 256 + c' ≠ 64 * s + c := fun z => e (by omega)
      rw [pk_un e1, pk_un e1, pk_uLn e1]
      exact h.2.1 c' g3 g4
  · show (upd (pN_isSet N) (64 * s + c) 1) (320 + (c' + 1)) = 1 → (upd (pN_isSet N) (64 * s + c) 1) (320 + c') = 1
    intro g
    by_cases e0 : 320 + c' = 64 * s + c
    · rw [e0, pk_us]
    · rw [pk_un e0]
      by_cases e : s = 5 ∧ c' + 1 = c
      · obtain ⟨rfl, rfl⟩ := e
        rcases h5 rfl with z | z
        · omega
        · exact z
      · rw [pk_un (by omega)] at g
        exact h.2.2 c' g3 g
theorem up_comm {f : Nat → Int64} {i j : Nat} {a b : Int64} (h : i ≠ j) : vp_updL (vp_updL f i a) j b = vp_updL (vp_updL f j b) i a := by
  funext z
  unfold vp_updL
  by_cases h1 : z = j
  · rw [if_pos h1, if_neg (fun q => h (by omega)), if_pos h1]
  · rw [if_neg h1]
    by_cases h2 : z = i
    · rw [if_pos h2, if_pos h2]
    · rw [if_neg h2, if_neg h2, if_neg h1]
/-- segment 5: all before are set -/
theorem t5_all {M : Nat → Int64} {N : NS} (h : MR M N) : ∀ c, c < 64 → iS N (320 + c) = 1 → ∀ i, i ≤ c → iS N (320 + i) = 1
  | 0, _, hs, i, hi => by have : i = 0 := by omega
                          subst this; exact hs
  | c + 1, hc, hs, i, hi => by
    rcases Nat.lt_or_ge i (c + 1) with h1 | h1
    · exact t5_all h c (by omega) (h.2.2 c hc hs) i (by omega)
    · have : i = c + 1 := by omega
      subst this; exact hs
theorem t5_0 {N : NS} {c : Nat} (hc : c < 64) : ∀ (fu i : Nat), i ≤ c → c - i < fu → f_X7_takes_L45 N 5 (nI c) fu 0 (nI (320 + i)) = 0
  | 0, _, _, h => absurd h (Nat.not_lt_zero _)
  | fu + 1, i, hi, hf => by
    rw [f_X7_takes_L45, show (5 : Int32) = nI 5 from rfl, x_ix]
    rcases Nat.lt_or_ge i c with h | h
    · rw [if_neg (nI_ge (by omega) (by omega)), if_pos rfl]
      unfold f_X7_takes_J71 f_X7_takes_J72
      rw [nI_1]
      exact t5_0 hc fu (i + 1) (by omega) (by omega)
    · rw [if_pos (nI_le (by omega) (by omega))]
theorem t5_1 {N : NS} {c : Nat} (hc : c < 64) : ∀ (fu i : Nat), i ≤ c → c - i < fu → f_X7_takes_L45 N 5 (nI c) fu 1 (nI (320 + i)) = 0 ∨ (f_X7_takes_L45 N 5 (nI c) fu 1 (nI (320 + i)) = 1 ∧ ∀ z, i ≤ z → z < c → ¬ iS N (320 + z) = 0)
  | 0, _, _, h => absurd h (Nat.not_lt_zero _)
  | fu + 1, i, hi, hf => by
    rw [f_X7_takes_L45, show (5 : Int32) = nI 5 from rfl, x_ix]
    rcases Nat.lt_or_ge i c with h | h
    · rw [if_neg (nI_ge (by omega) (by omega)), if_neg (show ¬ (1 : Int32) = 0 by decide), x_cl (by omega)]
      unfold f_X7_takes_J71 f_X7_takes_J72
      rw [nI_1]
      by_cases h0 : iS N (320 + i) = 0
      · rw [if_pos h0]
        exact Or.inl (t5_0 hc fu (i + 1) (by omega) (by omega))
      · rw [if_neg h0]
        rcases t5_1 hc fu (i + 1) (by omega) (by omega) with g | ⟨g, g2⟩
        · exact Or.inl g
        · refine Or.inr ⟨g, fun z z1 z2 => ?_⟩
          rcases Nat.lt_or_ge i z with z3 | z3
          · exact g2 z z3 z2
          · have : z = i := by omega
            subst this; exact h0
    · rw [if_pos (nI_le (by omega) (by omega))]
      exact Or.inr ⟨rfl, fun z z1 z2 => by omega⟩
theorem t5_c {N : NS} {c : Nat} (hc : c < 64) : ∀ (fu i : Nat), i ≤ c → c - i < fu → (∀ z, i ≤ z → z < c → ¬ iS N (320 + z) = 0) → f_X7_takes_L45 N 5 (nI c) fu 1 (nI (320 + i)) = 1
  | 0, _, _, h, _ => absurd h (Nat.not_lt_zero _)
  | fu + 1, i, hi, hf, hz => by
    rw [f_X7_takes_L45, show (5 : Int32) = nI 5 from rfl, x_ix]
    rcases Nat.lt_or_ge i c with h | h
    · rw [if_neg (nI_ge (by omega) (by omega)), if_neg (show ¬ (1 : Int32) = 0 by decide), x_cl (by omega), if_neg (hz i (by omega) h)]
      unfold f_X7_takes_J72
      rw [nI_1]
      exact t5_c hc fu (i + 1) (by omega) (by omega) (fun z z1 z2 => hz z (by omega) z2)
    · rw [if_pos (nI_le (by omega) (by omega))]
