/-! the two objects, call by call -/
def Tr (T : TS) (N : NS) (k : Nat) : Prop := k ≤ 64 ∧ pT_length T = nI k ∧ pN_rows N = nI k ∧ ∀ i r, i < k → r < 3 → pT_row T (3 * i + r) = enc (pN_traceSegment N (3 * i + r)) (pN_traceCell N (3 * i + r)) ∧ Vok (pN_traceSegment N (3 * i + r)) (pN_traceCell N (3 * i + r))
def RX (S : XS) (N : NS) : Prop := Rg (pX_p S) N ∧ pX_latestFailure S = pN_failure N ∧ (∃ k, Tr (pX_t S) N k) ∧ n_ok (pN_rows N) N
theorem rx_th {S : XS} {N : NS} (h : RX S N) (t : Int32) : RX S (sN_thrown N t) := h
theorem thr0 (N : NS) : f_X7_throwing N 0 0 = (0, sN_thrown N 0) := by
  unfold f_X7_throwing
  rw [if_pos rfl, if_pos rfl]
  exact if_pos (show (0 : Int32) ≤ 0 by decide)
theorem thr1 (N : NS) {a : Int32} (h : ¬ a = 0) (b : Int32) : f_X7_throwing N a b = (1, sN_thrown N 1) := by
  unfold f_X7_throwing
  rw [if_neg h]
  exact if_neg (show ¬ (1 : Int32) ≤ 0 by decide)
theorem thr2 (N : NS) {b : Int32} (h : ¬ b = 0) : f_X7_throwing N 0 b = (1, sN_thrown N 2) := by
  unfold f_X7_throwing
  rw [if_pos rfl, if_neg h]
  exact if_neg (show ¬ (2 : Int32) ≤ 0 by decide)
theorem le_iff {a b : Int32} : a ≤ b ↔ a.toInt ≤ b.toInt := Int32.le_iff_toInt_le
theorem lt_iff {a b : Int32} : a < b ↔ a.toInt < b.toInt := Int32.lt_iff_toInt_lt
theorem out_iff {a b c : Int32} : f_X7_out a b c = 0 ↔ b.toInt ≤ a.toInt ∧ a.toInt ≤ c.toInt := by
  unfold f_X7_out
  by_cases h1 : a < b
  · rw [if_pos h1]; rw [lt_iff] at h1
    exact ⟨fun z => absurd z (by decide), fun z => by omega⟩
  · rw [if_neg h1]
    by_cases h2 : a ≤ c
    · rw [if_pos h2]; rw [lt_iff] at h1; rw [le_iff] at h2
      exact ⟨fun _ => ⟨by omega, h2⟩, fun _ => rfl⟩
    · rw [if_neg h2]; rw [le_iff] at h2
      exact ⟨fun z => absurd z (by decide), fun z => by omega⟩
theorem out01 (a b c : Int32) : f_X7_out a b c = 0 ∨ f_X7_out a b c = 1 := by
  unfold f_X7_out
  repeat' split
  all_goals first | exact Or.inl rfl | exact Or.inr rfl
theorem cel_iff {a : Int32} : f_X1_isCell a = 0 ↔ ¬ f_X7_out a 0 63 = 0 := by
  rw [out_iff]
  unfold f_X1_isCell
  rw [show (0 : Int32).toInt = 0 from rfl, show (63 : Int32).toInt = 63 from rfl]
  by_cases h1 : a < 0
  · rw [if_pos h1]; rw [lt_iff, show (0 : Int32).toInt = 0 from rfl] at h1
    exact ⟨fun _ z => by omega, fun _ => rfl⟩
  · rw [if_neg h1]; rw [lt_iff, show (0 : Int32).toInt = 0 from rfl] at h1
    by_cases h2 : 64 ≤ a
    · rw [if_pos h2]; rw [le_iff, show (64 : Int32).toInt = 64 from rfl] at h2
      exact ⟨fun _ z => by omega, fun _ => rfl⟩
    · rw [if_neg h2]; rw [le_iff, show (64 : Int32).toInt = 64 from rfl] at h2
      exact ⟨fun z => absurd z (by decide), fun z => absurd ⟨by omega, by omega⟩ z⟩
theorem seg_iff {a : Int32} : f_X1_isSegment a = 0 ↔ ¬ f_X7_out a 1 5 = 0 := by
  rw [out_iff]
  unfold f_X1_isSegment
  rw [show (1 : Int32).toInt = 1 from rfl, show (5 : Int32).toInt = 5 from rfl]
  by_cases h1 : a < 1
  · rw [if_pos h1]; rw [lt_iff, show (1 : Int32).toInt = 1 from rfl] at h1
    exact ⟨fun _ z => by omega, fun _ => rfl⟩
  · rw [if_neg h1]; rw [lt_iff, show (1 : Int32).toInt = 1 from rfl] at h1
    by_cases h2 : 5 < a
    · rw [if_pos h2]; rw [lt_iff, show (5 : Int32).toInt = 5 from rfl] at h2
      exact ⟨fun _ z => by omega, fun _ => rfl⟩
    · rw [if_neg h2]; rw [lt_iff, show (5 : Int32).toInt = 5 from rfl] at h2
      exact ⟨fun z => absurd z (by decide), fun z => absurd ⟨by omega, by omega⟩ z⟩
theorem reg_iff {a : Int32} : (f_X6_requireRegister a = 0 ↔ f_X7_out a 0 2 = 0) ∧ (f_X6_requireRegister a = 0 ∨ f_X6_requireRegister a = 1) := by
  rw [out_iff]
  unfold f_X6_requireRegister
  rw [show (0 : Int32).toInt = 0 from rfl, show (2 : Int32).toInt = 2 from rfl]
  by_cases h1 : a < 0
  · rw [if_pos h1]; rw [lt_iff, show (0 : Int32).toInt = 0 from rfl] at h1
    exact ⟨⟨fun z => absurd z (by decide), fun z => by omega⟩, Or.inr rfl⟩
  · rw [if_neg h1]; rw [lt_iff, show (0 : Int32).toInt = 0 from rfl] at h1
    by_cases h2 : a ≤ 2
    · rw [if_pos h2]; rw [le_iff, show (2 : Int32).toInt = 2 from rfl] at h2
      exact ⟨⟨fun _ => ⟨by omega, h2⟩, fun _ => rfl⟩, Or.inl rfl⟩
    · rw [if_neg h2]; rw [le_iff, show (2 : Int32).toInt = 2 from rfl] at h2
      exact ⟨⟨fun z => absurd z (by decide), fun z => by omega⟩, Or.inr rfl⟩
theorem cc_iff {a b : Int32} : (f_X6_requireCell a b = 0 ∧ f_X7_out a 1 5 = 0 ∧ f_X7_out b 0 63 = 0) ∨ (f_X6_requireCell a b = 1 ∧ ¬ (f_X7_out a 1 5 = 0 ∧ f_X7_out b 0 63 = 0)) := by
  unfold f_X6_requireCell
  by_cases h1 : f_X7_out a 1 5 = 0
  · rw [if_neg (fun z => seg_iff.mp z h1)]
    by_cases h2 : f_X7_out b 0 63 = 0
    · rw [if_neg (fun z => cel_iff.mp z h2)]; exact Or.inl ⟨rfl, h1, h2⟩
    · rw [if_pos (cel_iff.mpr h2)]; exact Or.inr ⟨rfl, fun z => h2 z.2⟩
  · rw [if_pos (seg_iff.mpr h1)]; exact Or.inr ⟨rfl, fun z => h1 z.1⟩
theorem in_seg {a : Int32} (h : f_X7_out a 1 5 = 0) : ∃ j : Nat, 1 ≤ j ∧ j ≤ 5 ∧ a = nI j := by
  have h1 := out_iff.mp h
  rw [show (1 : Int32).toInt = 1 from rfl, show (5 : Int32).toInt = 5 from rfl] at h1
  obtain ⟨j, hj, rfl⟩ := vp_in_of (x := a) (n := 6) (vp_in_iff.mpr ⟨by omega, by omega⟩) (by decide)
  rw [nI_toInt (by omega)] at h1
  exact ⟨j, by omega, by omega, rfl⟩
theorem in_cel {a : Int32} (h : f_X7_out a 0 63 = 0) : ∃ c : Nat, c < 64 ∧ a = nI c := by
  have h1 := out_iff.mp h
  rw [show (0 : Int32).toInt = 0 from rfl, show (63 : Int32).toInt = 63 from rfl] at h1
  obtain ⟨c, hc, rfl⟩ := vp_in_of (x := a) (n := 64) (vp_in_iff.mpr ⟨by omega, by omega⟩) (by decide)
  exact ⟨c, hc, rfl⟩
/-- a host's write -/
theorem host {S : XS} {N : NS} (h : RX S N) {a b : Int32} (h1 : f_X7_out a 1 5 = 0) {k : Int32} {x : Int64} (hV : Vok k x) : (((f_X1_write (pP_mem (pX_p S)) a b (enc k x)).1 = 0 ∧ (f_X7_written N a b.toInt64 k x).1 = 0) ∨ ((f_X1_write (pP_mem (pX_p S)) a b (enc k x)).1 = 1 ∧ (f_X7_written N a b.toInt64 k x).1 = 1)) ∧ RX (sX_p S (sP_mem (pX_p S) (f_X1_write (pP_mem (pX_p S)) a b (enc k x)).2)) (f_X7_written N a b.toInt64 k x).2 := by
  obtain ⟨j, j1, j2, rfl⟩ := in_seg h1
  obtain ⟨hg, hf, hT, hI⟩ := h
  have hw := r_write hg.1 j1 j2 (v := b.toInt64) (by rw [lg_l2i_i2l]) hV
  rw [lg_l2i_i2l] at hw
  obtain ⟨w1, w2, w3⟩ := hw
  have kp := kp_fw w3
  have ok := ok_X7_written (a0 := nI j) (a1 := b.toInt64) (a3 := x) hI (v_kind hV)
  have ef : pN_failure (f_X7_written N (nI j) b.toInt64 k x).2 = pN_failure N := by obtain ⟨x1, x2, x3, e⟩ := w3; rw [e]
  refine ⟨w1, rg_kp hg w2 ⟨rfl, rfl, rfl⟩ kp, hf.trans ef.symm, ?_, n_self ok⟩
  obtain ⟨q, q1, q2, q3, q4⟩ := hT
  refine ⟨q, q1, q2, kp.2.2.2.2.2.2.1.trans q3, ?_⟩
  rw [kp.2.2.2.2.2.2.2.1, kp.2.2.2.2.2.2.2.2]; exact q4
/-- what a call comes to: the codes k (of the class's code), the values where there is none -/
def Eq2 {α : Type} (cd : Int32 → Int32) (C : Int32 × α × XS) (M : α × NS) : Prop := pN_thrown M.2 = cd C.1 ∧ (C.1 = 0 → C.2.1 = M.1) ∧ RX C.2.2 M.2
def Eq1 (cd : Int32 → Int32) (C : Int32 × XS) (M : NS) : Prop := pN_thrown M = cd C.1 ∧ RX C.2 M
theorem E_number {S : XS} {N : NS} (h : RX S N) (a b : Int32) (v : Int64) : Eq1 (fun k => k) (f_X6_number S a b v) (f_X7_number N a b v) ∧ ((f_X6_number S a b v).1 = 0 ∨ (f_X6_number S a b v).1 = 1 ∨ (f_X6_number S a b v).1 = 2) := by
  have e0 : f_X6_number S a b v = f_X6_writeByHost S a b (f_X0_reduce v) := by
    unfold f_X6_number
    by_cases z : (f_X6_writeByHost S a b (f_X0_reduce v)).1 = 0
    · rw [if_pos z]; exact Prod.ext z.symm rfl
    · rw [if_neg z]
  rw [e0, e_mod]
  unfold f_X6_writeByHost f_X7_number f_X7_number_J19 f_X7_number_J24
  rcases cc_iff (a := a) (b := b) with ⟨c1, c2, c3⟩ | ⟨c1, c2⟩
  · rw [if_pos c1, if_pos c2, if_pos c3, if_pos rfl]
    have hv : Vok 0 (f_X7_modulo v) := Or.inl ⟨rfl, f_modF v⟩
    have hh := host h (a := a) (b := b) c2 hv
    rw [enc0] at hh
    obtain ⟨h1, h2⟩ := hh
    rcases h1 with ⟨d1, d2⟩ | ⟨d1, d2⟩
    · rw [if_pos d1, if_pos d2, thr2 _ (by decide)]
      exact ⟨⟨rfl, rx_th h2 2⟩, Or.inr (Or.inr rfl)⟩
    · rw [if_neg (by rw [d1]; decide), if_neg (by rw [d2]; decide), thr0]
      exact ⟨⟨rfl, rx_th h2 0⟩, Or.inl rfl⟩
  · rw [if_neg (by rw [c1]; decide), c1, if_neg (show ¬ (1 : Int32) = 0 by decide), thr1 N (a := 1) (by decide)]
    refine ⟨?_, Or.inr (Or.inl rfl)⟩
    by_cases z : f_X7_out a 1 5 = 0
    · rw [if_pos z, if_neg (fun y => c2 ⟨z, y⟩)]; exact ⟨rfl, rx_th h 1⟩
    · rw [if_neg z]; exact ⟨rfl, rx_th h 1⟩
theorem a_iff {b : Int32} {j : Nat} (j1 : 1 ≤ j) (j2 : j ≤ 5) : (f_X7_out b (-1000) 1000 = 0 ∧ f_X4_ofAddress (nI j) b.toInt64 = enc (nI j) b.toInt64 ∧ Vok (nI j) b.toInt64) ∨ (¬ f_X7_out b (-1000) 1000 = 0 ∧ f_X4_ofAddress (nI j) b.toInt64 = -1) := by
  rw [v_ofA j1 j2, out_iff, show (-1000 : Int32).toInt = -1000 from rfl, show (1000 : Int32).toInt = 1000 from rfl]
  by_cases c1 : b.toInt64 < -1000
  · have d1 := Int64.lt_iff_toInt_lt.mp c1
    rw [Int32.toInt_toInt64, show (-1000 : Int64).toInt = -1000 from rfl] at d1
    rw [if_pos c1]; exact Or.inr ⟨fun z => by omega, rfl⟩
  · have d1 := q_nltL c1
    rw [Int32.toInt_toInt64, show (-1000 : Int64).toInt = -1000 from rfl] at d1
    rw [if_neg c1]
    by_cases c2 : 1000 < b.toInt64
    · have d2 := Int64.lt_iff_toInt_lt.mp c2
      rw [Int32.toInt_toInt64, show (1000 : Int64).toInt = 1000 from rfl] at d2
      rw [if_pos c2]; exact Or.inr ⟨fun z => by omega, rfl⟩
    · have d2 := q_nltL c2
      rw [Int32.toInt_toInt64, show (1000 : Int64).toInt = 1000 from rfl] at d2
      rw [if_neg c2]; exact Or.inl ⟨⟨by omega, by omega⟩, rfl, v_adr j1 j2 c1 c2⟩
theorem E_address {S : XS} {N : NS} (h : RX S N) (a b c d : Int32) : Eq1 (fun k => k) (f_X6_address S a b c d) (f_X7_address N a b c d) ∧ ((f_X6_address S a b c d).1 = 0 ∨ (f_X6_address S a b c d).1 = 1 ∨ (f_X6_address S a b c d).1 = 2) := by
  have no : Eq1 (fun k => k) (1, S) (f_X7_address_J42 N a b c d) ∧ ((1 : Int32) = 0 ∨ (1 : Int32) = 1 ∨ (1 : Int32) = 2) := by
    unfold f_X7_address_J42 f_X7_address_J47
    rw [if_neg (show ¬ (1 : Int32) = 0 by decide), thr1 N (a := 1) (by decide)]
    exact ⟨⟨rfl, rx_th h 1⟩, Or.inr (Or.inl rfl)⟩
  unfold f_X6_address f_X7_address
  by_cases hc : f_X7_out c 1 5 = 0
  · rw [if_neg (fun z => seg_iff.mp z hc), if_pos hc]
    obtain ⟨j, j1, j2, rfl⟩ := in_seg hc
    rcases a_iff (b := d) j1 j2 with ⟨o1, o2, o3⟩ | ⟨o1, o2⟩
    · rw [if_neg (show ¬ f_X4_ofAddress (nI j) d.toInt64 = -1 by rw [o2]; exact v_ne o3), if_pos o1, o2]
      have e0 : (if (f_X6_writeByHost S a b (enc (nI j) d.toInt64)).1 = 0 then (0, (f_X6_writeByHost S a b (enc (nI j) d.toInt64)).2) else ((f_X6_writeByHost S a b (enc (nI j) d.toInt64)).1, (f_X6_writeByHost S a b (enc (nI j) d.toInt64)).2)) = f_X6_writeByHost S a b (enc (nI j) d.toInt64) := by
        by_cases z : (f_X6_writeByHost S a b (enc (nI j) d.toInt64)).1 = 0
        · rw [if_pos z]; exact Prod.ext z.symm rfl
        · rw [if_neg z]
      rw [e0]
      unfold f_X6_writeByHost
      rcases cc_iff (a := a) (b := b) with ⟨c1, c2, c3⟩ | ⟨c1, c2⟩
      · rw [if_pos c1, if_pos c2, if_pos c3]
        unfold f_X7_address_J47
        rw [if_pos rfl]
        obtain ⟨h1, h2⟩ := host h (a := a) (b := b) c2 o3
        rcases h1 with ⟨d1, d2⟩ | ⟨d1, d2⟩
        · rw [if_pos d1, if_pos d2, thr2 _ (by decide)]
          exact ⟨⟨rfl, rx_th h2 2⟩, Or.inr (Or.inr rfl)⟩
        · rw [if_neg (by rw [d1]; decide), if_neg (by rw [d2]; decide), thr0]
          exact ⟨⟨rfl, rx_th h2 0⟩, Or.inl rfl⟩
      · rw [if_neg (by rw [c1]; decide), c1]
        by_cases z : f_X7_out a 1 5 = 0
        · rw [if_pos z, if_neg (fun y => c2 ⟨z, y⟩)]; exact no
        · rw [if_neg z]; exact no
    · rw [if_pos o2, if_neg o1, ite_self, ite_self]; exact no
  · rw [if_pos (seg_iff.mpr hc), if_neg hc, ite_self, ite_self]; exact no
