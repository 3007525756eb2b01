theorem off_iff {a : Int32} : f_X5_isOffset a = 0 ↔ ¬ f_X7_out a (-512) 511 = 0 := by
  rw [out_iff]
  unfold f_X5_isOffset
  rw [show (-512 : Int32).toInt = -512 from rfl, show (511 : Int32).toInt = 511 from rfl]
  by_cases h1 : a < -512
  · rw [if_pos h1]; rw [lt_iff, show (-512 : Int32).toInt = -512 from rfl] at h1
    exact ⟨fun _ z => by omega, fun _ => rfl⟩
  · rw [if_neg h1]; rw [lt_iff, show (-512 : Int32).toInt = -512 from rfl] at h1
    by_cases h2 : 512 ≤ a
    · rw [if_pos h2]; rw [le_iff, show (512 : Int32).toInt = 512 from rfl] at h2
      exact ⟨fun _ z => by omega, fun _ => rfl⟩
    · rw [if_neg h2]; rw [le_iff, show (512 : Int32).toInt = 512 from rfl] at h2
      exact ⟨fun z => absurd z (by decide), fun z => absurd ⟨by omega, by omega⟩ z⟩
theorem in_off {a : Int32} (h : f_X7_out a (-512) 511 = 0) : ∃ A : Nat, A < 1024 ∧ (a + 512).toInt64 = lN A ∧ a.toInt64 = lN A - 512 := by
  have h1 := out_iff.mp h
  rw [show (-512 : Int32).toInt = -512 from rfl, show (511 : Int32).toInt = 511 from rfl] at h1
  refine ⟨(a.toInt + 512).toNat, by omega, Int64.toInt_inj.mp ?_, Int64.toInt_inj.mp ?_⟩
  · rw [Int32.toInt_toInt64, Int32.toInt_add, show (512 : Int32).toInt = 512 from rfl, Int.bmod_eq_of_le (by omega) (by omega), pk_lT (by omega)]; omega
  · rw [Int32.toInt_toInt64, Int64.toInt_sub, pk_lT (by omega), show (512 : Int64).toInt = 512 from rfl, Int.bmod_eq_of_le (by omega) (by omega)]; omega
theorem y_orN {a b k : Nat} (h : a < 2 ^ k) : a ||| b * 2 ^ k = a + b * 2 ^ k := by
  rw [Nat.or_comm, ← Nat.shiftLeft_eq, ← Nat.shiftLeft_add_eq_or_of_lt h, Nat.add_comm]
theorem s512 (x : Int64) (A : Nat) : x + (lN A - 512) + 512 = x + lN A := by rw [Int64.add_assoc, Int64.sub_add_cancel]
theorem E_encode {S : XS} {N : NS} (h : RX S N) (a b c d : Int32) : Eq2 (fun k => k) (f_X6_encode S a b c d) (f_X7_encode N a b c d) ∧ ((f_X6_encode S a b c d).1 = 0 ∨ (f_X6_encode S a b c d).1 = 1) := by
  have no : Eq2 (fun k => k) (1, 0, S) (f_X7_encode_J52 N a b c d) ∧ ((1 : Int32) = 0 ∨ (1 : Int32) = 1) := by
    unfold f_X7_encode_J52 f_X7_encode_J57
    rw [thr1 N (a := 1) (by decide), if_neg (show ¬ (1 : Int32) = 0 by decide)]
    exact ⟨⟨rfl, fun z => absurd (show (1 : Int32) = 0 from z) (by decide), rx_th h 1⟩, Or.inr rfl⟩
  unfold f_X6_encode f_X7_encode
  by_cases ha : f_X7_out a (-512) 511 = 0
  · rw [if_neg (fun z => off_iff.mp z ha), if_pos ha]
    by_cases hb : f_X7_out b (-512) 511 = 0
    · rw [if_neg (fun z => off_iff.mp z hb), if_pos hb]
      by_cases hc : f_X7_out c (-512) 511 = 0
      · rw [if_neg (fun z => off_iff.mp z hc), if_pos hc]
        by_cases hd : f_X7_out d 0 32767 = 0
        · have h1 := out_iff.mp hd
          rw [show (0 : Int32).toInt = 0 from rfl, show (32767 : Int32).toInt = 32767 from rfl] at h1
          rw [if_pos hd, if_neg (fun z => by have := lt_iff.mp z; rw [show (0 : Int32).toInt = 0 from rfl] at this; omega), if_pos (le_iff.mpr h1.2)]
          unfold f_X7_encode_J57
          rw [thr0, if_pos rfl]
          refine ⟨⟨rfl, fun _ => ?_, rx_th h 0⟩, Or.inl rfl⟩
          obtain ⟨A, hA, a1, a2⟩ := in_off ha
          obtain ⟨B, hB, b1, b2⟩ := in_off hb
          obtain ⟨C, hC, c1, c2⟩ := in_off hc
          obtain ⟨D, hD, rfl⟩ := vp_in_of (x := d) (n := 32768) (vp_in_iff.mpr ⟨h1.1, by omega⟩) (by decide)
          show f_X5_of a b c (nI D) = _
          unfold f_X5_of
          rw [a1, b1, c1, a2, b2, c2, nI_l (by omega), s512, s512, s512, show (10 : Int32) = nI 10 from rfl, show (20 : Int32) = nI 20 from rfl, show (30 : Int32) = nI 30 from rfl, z_shl (by decide), z_shl (by decide), z_shl (by decide), z_or (by omega) (by omega), y_orN (by omega), z_or (by omega) (by omega), y_orN (by omega), z_or (by omega) (by omega), y_orN (by omega), show (1024 : Int64) = lN 1024 from rfl, lN_mul, lN_add, lN_mul, lN_add, lN_mul, lN_add]
          congr 1
          omega
        · rw [if_neg hd]
          have h1 : ¬ (0 ≤ d.toInt ∧ d.toInt ≤ 32767) := fun z => hd (out_iff.mpr z)
          by_cases z : d < 0
          · rw [if_pos z]; exact no
          · rw [if_neg z, if_neg (fun y => h1 ⟨q_nlt z, le_iff.mp y⟩)]; exact no
      · rw [if_pos (off_iff.mpr hc), if_neg hc]; exact no
    · rw [if_pos (off_iff.mpr hb), if_neg hb]; exact no
  · rw [if_pos (off_iff.mpr ha), if_neg ha]; exact no
theorem E_decode {S : XS} {N : NS} (h : RX S N) (w : Int64) (a : Int32) : Eq2 (fun k => k) (f_X6_decode S w a) (f_X7_decode N w a) ∧ ((f_X6_decode S w a).1 = 0 ∨ (f_X6_decode S w a).1 = 1 ∨ (f_X6_decode S w a).1 = 2) := by
  unfold f_X6_decode f_X7_decode
  by_cases ha : f_X7_out a 0 4 = 0
  · have h1 := out_iff.mp ha
    rw [show (0 : Int32).toInt = 0 from rfl, show (4 : Int32).toInt = 4 from rfl] at h1
    rw [if_neg (fun z => by have := lt_iff.mp z; rw [show (0 : Int32).toInt = 0 from rfl] at this; omega), if_pos (le_iff.mpr h1.2), ha]
    obtain ⟨w1, w2⟩ := w_any w
    by_cases hb : f_X7_isBad w = 0
    · rw [if_neg (fun z => w1.mp z hb), hb, thr0, if_pos rfl]
      obtain ⟨n, hn, rfl, -⟩ := w2 hb
      obtain ⟨i, hi, rfl⟩ := vp_in_of (x := a) (n := 5) (vp_in_iff.mpr ⟨h1.1, by omega⟩) (by decide)
      have hn3 : n < 2 ^ 63 := by omega
      rcases (by omega : i < 3 ∨ i = 3 ∨ i = 4) with h3 | rfl | rfl
      · rw [if_neg (show ¬ nI i = 3 by rw [show (3 : Int32) = nI 3 from rfl, nI_eq (by omega) (by decide)]; omega), if_neg (show ¬ nI i = 4 by rw [show (4 : Int32) = nI 4 from rfl, nI_eq (by omega) (by decide)]; omega), if_neg (show ¬ (3 : Int32) ≤ nI i from nI_ge (b := 3) h3 (by decide))]
        exact ⟨⟨rfl, fun _ => w_off5 hn3 i h3, rx_th h 0⟩, Or.inl rfl⟩
      · rw [if_pos (show nI 3 = 3 from rfl), if_pos (show (3 : Int32) ≤ nI 3 by decide), if_pos (show nI 3 = 3 from rfl)]
        refine ⟨⟨rfl, fun _ => ?_, rx_th h 0⟩, Or.inl rfl⟩
        show f_X5_flagsOf (lN n) = _
        rw [w_flags hn, show (30 : Int32) = nI 30 from rfl, z_sshr hn3 (by decide), lN_i]
      · rw [if_neg (show ¬ nI 4 = 3 by decide), if_pos (show nI 4 = 4 from rfl), if_pos (show (3 : Int32) ≤ nI 4 by decide), if_neg (show ¬ nI 4 = 3 by decide)]
        refine ⟨⟨rfl, fun _ => ?_, rx_th h 0⟩, Or.inl rfl⟩
        show f_X5_sizeOf (lN n) = 1 + f_X7_many (lN n) 32 32
        unfold f_X5_sizeOf
        rw [w_flags hn, show f_X7_many (lN n) 32 32 = _ from w_m1 hn3 32 (by decide)]
        have hz : (nI (n / 2 ^ 30) &&& 4 = 0) ↔ wb n 32 = 0 := by
          rw [← w_wf n 2]
          exact y_z0 (M := 4) (by omega) 2 1 rfl (by decide)
        have hle := wb_le n 32
        rcases (by omega : wb n 32 = 0 ∨ wb n 32 = 1) with b | b
        · rw [if_pos (hz.mpr b), b]; rfl
        · rw [if_neg (fun z => by rw [hz.mp z] at b; exact absurd b (by decide)), b]; rfl
    · rw [if_pos (w1.mpr hb), thr2 N hb, if_neg (show ¬ (1 : Int32) = 0 by decide)]
      exact ⟨⟨rfl, fun z => absurd (show (2 : Int32) = 0 from z) (by decide), rx_th h 2⟩, Or.inr (Or.inr rfl)⟩
  · rw [thr1 N ha, if_neg (show ¬ (1 : Int32) = 0 by decide)]
    have h1 : ¬ (0 ≤ a.toInt ∧ a.toInt ≤ 4) := fun z => ha (out_iff.mpr z)
    by_cases z : a < 0
    · rw [if_pos z]; exact ⟨⟨rfl, fun z => absurd (show (1 : Int32) = 0 from z) (by decide), rx_th h 1⟩, Or.inr (Or.inl rfl)⟩
    · rw [if_neg z, if_neg (fun y => h1 ⟨q_nlt z, le_iff.mp y⟩)]; exact ⟨⟨rfl, fun z => absurd (show (1 : Int32) = 0 from z) (by decide), rx_th h 1⟩, Or.inr (Or.inl rfl)⟩
/-! start -/
def sr1 (S : NS) (v t : Int32) (x : Int64) : NS := sN_value (sN_segment S (upd (pN_segment S) v.toNatClampNeg t)) (vp_updL (pN_value S) v.toNatClampNeg x)
theorem st_one (a b c : Int32) (fu : Nat) (v : Int32) (S : NS) : f_X7_start_L47 a b c (fu + 1) v S = if 3 ≤ v then sN_failure (sN_rows S 0) 0 else f_X7_start_L47 a b c fu (v + 1) (sr1 S v (if v = 0 then 1 else 2) (if v = 0 then a.toInt64 else if v = 1 then b.toInt64 else c.toInt64)) := by
  rw [f_X7_start_L47]
  by_cases h3 : 3 ≤ v
  · rw [if_pos h3, if_pos h3]
  · rw [if_neg h3, if_neg h3]
    unfold f_X7_start_J69 f_X7_start_J99
    by_cases h0 : v = 0
    · rw [if_pos h0, if_pos h0, if_pos h0, if_pos h0]; rfl
    · rw [if_neg h0, if_neg h0, if_neg h0, if_neg h0]
      by_cases h1 : v = 1
      · rw [if_pos h1, if_pos h1]; rfl
      · rw [if_neg h1, if_neg h1]; rfl
theorem st_all (S : NS) (a b c : Int32) : f_X7_start_L47 a b c 4 0 S = sN_failure (sN_rows (sr1 (sr1 (sr1 S 0 1 a.toInt64) 1 2 b.toInt64) 2 2 c.toInt64) 0) 0 := by
  rw [st_one, if_neg (show ¬ (3 : Int32) ≤ 0 by decide), if_pos rfl, if_pos rfl, show (0 : Int32) + 1 = 1 from rfl, st_one, if_neg (show ¬ (3 : Int32) ≤ 1 by decide), if_neg (show ¬ (1 : Int32) = 0 by decide), if_neg (show ¬ (1 : Int32) = 0 by decide), if_pos rfl, show (1 : Int32) + 1 = 2 from rfl, st_one, if_neg (show ¬ (3 : Int32) ≤ 2 by decide), if_neg (show ¬ (2 : Int32) = 0 by decide), if_neg (show ¬ (2 : Int32) = 0 by decide), if_neg (show ¬ (2 : Int32) = 1 by decide), show (2 : Int32) + 1 = 3 from rfl, st_one, if_pos (show (3 : Int32) ≤ 3 by decide)]
theorem sr_own (S : NS) (v t : Int32) (x : Int64) : sg (sr1 S v t x) v = t ∧ vl (sr1 S v t x) v = x := ⟨pk_us, pk_uLs⟩
theorem sr_ne (S : NS) (v t : Int32) (x : Int64) {b : Int32} (h : b.toNatClampNeg ≠ v.toNatClampNeg) : sg (sr1 S v t x) b = sg S b ∧ vl (sr1 S v t x) b = vl S b := ⟨pk_un h, pk_uLn h⟩
theorem sr_mr {M : Nat → Int64} {S : NS} (h : MR M S) (v t : Int32) (x : Int64) : MR M (sr1 S v t x) := mr_fr h rfl rfl rfl
theorem sr_ok {R : Int32} {S : NS} (h : n_ok R S) (v : Int32) {t : Int32} (ht : vp_in t 6) (x : Int64) : n_ok R (sr1 S v t x) := ⟨n_upd h.1 ht, h.2.1, h.2.2.1, h.2.2.2.1, h.2.2.2.2⟩
theorem rx_start {S : XS} {P : PS} {T : TS} {X : NS} (hg : Rg P X) {R : Int32} (ok : n_ok R X) (hT : pT_length T = 0) : RX (0, P, T) (sN_failure (sN_rows X 0) 0) :=
  ⟨hg, rfl, ⟨0, by decide, hT, rfl, fun i r hi _ => absurd hi (Nat.not_lt_zero _)⟩, ok.1, ok.2.1, ok.2.2.1, ok.2.2.2.1, rfl⟩
theorem in_63 {a : Int32} (h : f_X7_out a 0 63 = 0) {j : Nat} (j1 : 1 ≤ j) (j2 : j ≤ 5) : f_X4_ofAddress (nI j) a.toInt64 = enc (nI j) a.toInt64 ∧ Vok (nI j) a.toInt64 := by
  rcases a_iff (b := a) j1 j2 with ⟨-, o2, o3⟩ | ⟨o1, -⟩
  · exact ⟨o2, o3⟩
  · refine absurd (out_iff.mpr ?_) o1
    have h1 := out_iff.mp h
    rw [show (0 : Int32).toInt = 0 from rfl, show (63 : Int32).toInt = 63 from rfl] at h1
    rw [show (-1000 : Int32).toInt = -1000 from rfl, show (1000 : Int32).toInt = 1000 from rfl]
    omega
theorem E_start {S : XS} {N : NS} (h : RX S N) (a b c : Int32) : Eq1 (fun k => k) (f_X6_start S a b c) (f_X7_start N a b c) ∧ ((f_X6_start S a b c).1 = 0 ∨ (f_X6_start S a b c).1 = 1) := by
  have no : Eq1 (fun k => k) (1, S) (f_X7_start_J31 N a b c) ∧ ((1 : Int32) = 0 ∨ (1 : Int32) = 1) := by
    unfold f_X7_start_J31 f_X7_start_J36
    rw [thr1 N (a := 1) (by decide), if_neg (show ¬ (1 : Int32) = 0 by decide)]
    exact ⟨⟨rfl, rx_th h 1⟩, Or.inr rfl⟩
  unfold f_X6_start f_X7_start
  by_cases ha : f_X7_out a 0 63 = 0
  · rw [if_neg (fun z => cel_iff.mp z ha), if_pos ha]
    by_cases hb : f_X7_out b 0 63 = 0
    · rw [if_neg (fun z => cel_iff.mp z hb), if_pos hb]
      by_cases hc : f_X7_out c 0 63 = 0
      · rw [if_neg (fun z => cel_iff.mp z hc), if_pos hc]
        unfold f_X7_start_J36
        rw [thr0, if_pos rfl, st_all]
        refine ⟨⟨rfl, ?_⟩, Or.inl rfl⟩
        obtain ⟨hg, hf, hT, hI⟩ := h
        have mM : MR (pP_mem (pX_p S)) (sN_thrown N 0) := hg.1
        have kI : n_ok (pN_rows N) (sN_thrown N 0) := hI
        generalize sN_thrown N 0 = F at mM kI ⊢
        have m := sr_mr (sr_mr (sr_mr mM 0 1 a.toInt64) 1 2 b.toInt64) 2 2 c.toInt64
        have ok := sr_ok (sr_ok (sr_ok kI 0 (t := 1) (q_vi (by decide)) a.toInt64) 1 (t := 2) (q_vi (by decide)) b.toInt64) 2 (t := 2) (q_vi (by decide)) c.toInt64
        have o2 := sr_own (sr1 (sr1 F 0 1 a.toInt64) 1 2 b.toInt64) 2 2 c.toInt64
        have o1 := sr_own (sr1 F 0 1 a.toInt64) 1 2 b.toInt64
        have o0 := sr_own F 0 1 a.toInt64
        have n1 := sr_ne (sr1 (sr1 F 0 1 a.toInt64) 1 2 b.toInt64) 2 2 c.toInt64 (b := 1) (by decide)
        have n0 := sr_ne (sr1 (sr1 F 0 1 a.toInt64) 1 2 b.toInt64) 2 2 c.toInt64 (b := 0) (by decide)
        have p0 := sr_ne (sr1 F 0 1 a.toInt64) 1 2 b.toInt64 (b := 0) (by decide)
        have e0 : sg (sr1 (sr1 (sr1 F 0 1 a.toInt64) 1 2 b.toInt64) 2 2 c.toInt64) 0 = nI 1 ∧ vl (sr1 (sr1 (sr1 F 0 1 a.toInt64) 1 2 b.toInt64) 2 2 c.toInt64) 0 = a.toInt64 := ⟨n0.1.trans (p0.1.trans o0.1), n0.2.trans (p0.2.trans o0.2)⟩
        have e1 : sg (sr1 (sr1 (sr1 F 0 1 a.toInt64) 1 2 b.toInt64) 2 2 c.toInt64) 1 = nI 2 ∧ vl (sr1 (sr1 (sr1 F 0 1 a.toInt64) 1 2 b.toInt64) 2 2 c.toInt64) 1 = b.toInt64 := ⟨n1.1.trans o1.1, n1.2.trans o1.2⟩
        have e2 : sg (sr1 (sr1 (sr1 F 0 1 a.toInt64) 1 2 b.toInt64) 2 2 c.toInt64) 2 = nI 2 ∧ vl (sr1 (sr1 (sr1 F 0 1 a.toInt64) 1 2 b.toInt64) 2 2 c.toInt64) 2 = c.toInt64 := ⟨o2.1, o2.2⟩
        generalize sr1 (sr1 (sr1 F 0 1 a.toInt64) 1 2 b.toInt64) 2 2 c.toInt64 = X at m ok e0 e1 e2 ⊢
        have i0 := in_63 ha (j := 1) (by decide) (by decide)
        have i1 := in_63 hb (j := 2) (by decide) (by decide)
        have i2 := in_63 hc (j := 2) (by decide) (by decide)
        have hR : Rg (f_X2_place (pX_p S) a b c) X := by
          refine ⟨m, ⟨by rw [e0.1, e0.2]; exact i0.2, by rw [e0.1]; decide⟩, ⟨by rw [e1.1, e1.2]; exact i1.2, by rw [e1.1]; decide⟩, ⟨by rw [e2.1, e2.2]; exact i2.2, by rw [e2.1]; decide⟩, ?_, ?_, ?_⟩
          · rw [e0.1, e0.2]; exact i0.1
          · rw [e1.1, e1.2]; exact i1.1
          · rw [e2.1, e2.2]; exact i2.1
        exact rx_start (S := S) (P := f_X2_place (pX_p S) a b c) (T := f_X3_empty (pX_t S)) hR ok rfl
      · rw [if_pos (cel_iff.mpr hc), if_neg hc]; exact no
    · rw [if_pos (cel_iff.mpr hb), if_neg hb]; exact no
  · rw [if_pos (cel_iff.mpr ha), if_neg ha]; exact no
theorem E_failure {S : XS} {N : NS} (h : RX S N) : Eq2 (fun _ => 0) (f_X6_failure S) (f_X7_failure N) ∧ (f_X6_failure S).1 = 0 := ⟨⟨rfl, fun _ => h.2.1, rx_th h 0⟩, rfl⟩
theorem E_rows {S : XS} {N : NS} (h : RX S N) : Eq2 (fun _ => 0) (f_X6_rows S) (f_X7_rows N) ∧ (f_X6_rows S).1 = 0 := by
  obtain ⟨k, -, k2, k3, -⟩ := h.2.2.1
  exact ⟨⟨rfl, fun _ => k2.trans k3.symm, rx_th h 0⟩, rfl⟩
theorem E_register {S : XS} {N : NS} (h : RX S N) (a b : Int32) : Eq2 (fun k => k) (f_X6_register S a b) (f_X7_register N a b) ∧ ((f_X6_register S a b).1 = 0 ∨ (f_X6_register S a b).1 = 1) := by
  obtain ⟨r1, r2⟩ := reg_iff (a := a)
  unfold f_X6_register f_X7_register
  by_cases ha : f_X7_out a 0 2 = 0
  · rw [if_pos (r1.mpr ha), ha, thr0, if_pos rfl]
    have h1 := out_iff.mp ha
    rw [show (0 : Int32).toInt = 0 from rfl, show (2 : Int32).toInt = 2 from rfl] at h1
    obtain ⟨i, hi, rfl⟩ := vp_in_of (x := a) (n := 3) (vp_in_iff.mpr ⟨h1.1, by omega⟩) (by decide)
    obtain ⟨-, d0, d1, d2, e0, e1, e2⟩ := h.1
    have go : ∀ (q : Int32) (x : Int64), Ad N q → x = enc (sg N q) (vl N q) → Eq2 (fun k => k) (f_X6_register_J40 S b x) (if b = 0 then (pN_segment (0, sN_thrown N 0).2 q.toNatClampNeg, (0, sN_thrown N 0).2) else ((pN_value (0, sN_thrown N 0).2 q.toNatClampNeg : Int64).toInt32, (0, sN_thrown N 0).2)) ∧ ((f_X6_register_J40 S b x).1 = 0 ∨ (f_X6_register_J40 S b x).1 = 1) := by
      intro q x hq ex
      unfold f_X6_register_J40
      by_cases hb : b = 0
      · rw [if_pos hb, if_pos hb]
        exact ⟨⟨rfl, fun _ => by rw [ex]; exact v_seg hq.1 hq.2, rx_th h 0⟩, Or.inl rfl⟩
      · rw [if_neg hb, if_neg hb]
        exact ⟨⟨rfl, fun _ => by rw [ex]; exact (v_cel hq.1 hq.2).1, rx_th h 0⟩, Or.inl rfl⟩
    rcases (by omega : i = 0 ∨ i = 1 ∨ i = 2) with rfl | rfl | rfl
    · rw [if_pos (show nI 0 = 0 from rfl)]; exact go 0 _ d0 e0
    · rw [if_neg (show ¬ nI 1 = 0 by decide), if_pos (show nI 1 = 1 from rfl)]; exact go 1 _ d1 e1
    · rw [if_neg (show ¬ nI 2 = 0 by decide), if_neg (show ¬ nI 2 = 1 by decide)]; exact go 2 _ d2 e2
  · rw [if_neg (fun z => ha (r1.mp z)), thr1 N ha, if_neg (show ¬ (1 : Int32) = 0 by decide)]
    rcases r2 with z | z
    · exact absurd (r1.mp z) ha
    · rw [z]; exact ⟨⟨rfl, fun y => absurd (show (1 : Int32) = 0 from y) (by decide), rx_th h 1⟩, Or.inr rfl⟩
/-- the codes of those that throw NoSuchElement -/
def cd3 (k : Int32) : Int32 := if k = 3 then 2 else k
theorem set_hid {S : XS} {N : NS} (h : RX S N) (a b : Int32) : (f_X6_requireSet S a b = (1, 0, S) ∧ f_X7_hidden N a b = (1, sN_thrown N 1)) ∨ (f_X6_requireSet S a b = (3, 0, S) ∧ f_X7_hidden N a b = (1, sN_thrown N 2)) ∨ (∃ q, (64 * a + b).toNatClampNeg = q ∧ f_X6_requireSet S a b = (0, enc (kd N q) (nu N q), S) ∧ f_X7_hidden N a b = (0, sN_thrown N 0) ∧ Vok (kd N q) (nu N q)) := by
  unfold f_X6_requireSet f_X7_hidden f_X7_hidden_J19 f_X7_hidden_J24
  rcases cc_iff (a := a) (b := b) with ⟨c1, c2, c3⟩ | ⟨c1, c2⟩
  · rw [if_pos c1, if_pos c2, if_pos c3, if_pos rfl]
    obtain ⟨j, j1, j2, rfl⟩ := in_seg c2
    obtain ⟨c, hc, rfl⟩ := in_cel c3
    rw [x_look j1 j2 hc, x_ix, x_cl (by omega)]
    have hC := h.1.1.1 j c j1 j2 hc
    by_cases u : iS N (64 * j + c) = 0
    · rw [if_pos ((cel_un hC).mp u), if_pos u, thr2 N (b := 1) (by decide)]
      exact Or.inr (Or.inl ⟨rfl, rfl⟩)
    · obtain ⟨d1, d2, d3⟩ := cel_set hC u
      rw [if_neg (fun z => u ((cel_un hC).mpr z)), if_neg u, thr0, d2]
      exact Or.inr (Or.inr ⟨64 * j + c, rfl, rfl, rfl, d3⟩)
  · rw [if_neg (by rw [c1]; decide), c1, if_neg (show ¬ (1 : Int32) = 0 by decide), thr1 N (a := 1) (by decide)]
    refine Or.inl ⟨rfl, ?_⟩
    by_cases z : f_X7_out a 1 5 = 0
    · rw [if_pos z, if_neg (fun y => c2 ⟨z, y⟩)]
    · rw [if_neg z]
theorem E_segment {S : XS} {N : NS} (h : RX S N) (a b : Int32) : Eq2 cd3 (f_X6_segment S a b) (f_X7_segment N a b) ∧ ((f_X6_segment S a b).1 = 0 ∨ (f_X6_segment S a b).1 = 1 ∨ (f_X6_segment S a b).1 = 3) := by
  unfold f_X6_segment f_X7_segment
  rcases set_hid h a b with ⟨e1, e2⟩ | ⟨e1, e2⟩ | ⟨q, eq, e1, e2, hv⟩
  · rw [e1, e2, if_neg (show ¬ (1 : Int32) = 0 by decide), if_neg (show ¬ (1 : Int32) = 0 by decide)]
    exact ⟨⟨rfl, fun z => absurd (show (1 : Int32) = 0 from z) (by decide), rx_th h 1⟩, Or.inr (Or.inl rfl)⟩
  · rw [e1, e2, if_neg (show ¬ (3 : Int32) = 0 by decide), if_neg (show ¬ (1 : Int32) = 0 by decide)]
    exact ⟨⟨rfl, fun z => absurd (show (3 : Int32) = 0 from z) (by decide), rx_th h 2⟩, Or.inr (Or.inr rfl)⟩
  · rw [e1, e2, eq, if_pos rfl, if_pos rfl]
    by_cases k0 : kd N q = 0
    · rw [if_pos ((v_isA hv).mpr k0)]
      exact ⟨⟨rfl, fun _ => k0.symm, rx_th h 0⟩, Or.inl rfl⟩
    · rw [if_neg (fun z => k0 ((v_isA hv).mp z))]
      exact ⟨⟨rfl, fun _ => v_seg hv k0, rx_th h 0⟩, Or.inl rfl⟩
theorem E_value {S : XS} {N : NS} (h : RX S N) (a b : Int32) : Eq2 cd3 (f_X6_value S a b) (f_X7_value N a b) ∧ ((f_X6_value S a b).1 = 0 ∨ (f_X6_value S a b).1 = 1 ∨ (f_X6_value S a b).1 = 3) := by
  unfold f_X6_value f_X7_value
  rcases set_hid h a b with ⟨e1, e2⟩ | ⟨e1, e2⟩ | ⟨q, eq, e1, e2, hv⟩
  · rw [e1, e2, if_neg (show ¬ (1 : Int32) = 0 by decide), if_neg (show ¬ (1 : Int32) = 0 by decide)]
    exact ⟨⟨rfl, fun z => absurd (show (1 : Int32) = 0 from z) (by decide), rx_th h 1⟩, Or.inr (Or.inl rfl)⟩
  · rw [e1, e2, if_neg (show ¬ (3 : Int32) = 0 by decide), if_neg (show ¬ (1 : Int32) = 0 by decide)]
    exact ⟨⟨rfl, fun z => absurd (show (3 : Int32) = 0 from z) (by decide), rx_th h 2⟩, Or.inr (Or.inr rfl)⟩
  · rw [e1, e2, eq, if_pos rfl, if_pos rfl]
    by_cases k0 : kd N q = 0
    · rw [if_pos ((v_isA hv).mpr k0)]
      exact ⟨⟨rfl, fun _ => (v_num hv k0).2, rx_th h 0⟩, Or.inl rfl⟩
    · rw [if_neg (fun z => k0 ((v_isA hv).mp z))]
      exact ⟨⟨rfl, fun _ => (v_cel hv k0).2, rx_th h 0⟩, Or.inl rfl⟩
