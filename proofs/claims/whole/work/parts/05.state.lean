/-! small rows -/
theorem q_pair {α β : Type} {f : α × β} {r : α} {u : β} (h : f = (r, u)) : r = f.1 ∧ u = f.2 := by rw [h]; exact ⟨rfl, rfl⟩
theorem q_nb {x : Int32} (h : x = 0 ∨ x = 1) : narrow .boolean (.int x) = .int x := by rcases h with rfl | rfl <;> rfl
theorem q_nlt {a b : Int32} (h : ¬ a < b) : b.toInt ≤ a.toInt := Int.not_lt.mp fun z => h (Int32.lt_iff_toInt_lt.mpr z)
theorem q_nle {a b : Int32} (h : ¬ a ≤ b) : b.toInt < a.toInt := Int.not_le.mp fun z => h (Int32.le_iff_toInt_le.mpr z)
theorem q_nltL {a b : Int64} (h : ¬ a < b) : b.toInt ≤ a.toInt := Int.not_lt.mp fun z => h (Int64.lt_iff_toInt_lt.mpr z)
theorem q_nleL {a b : Int64} (h : ¬ a ≤ b) : b.toInt < a.toInt := Int.not_le.mp fun z => h (Int64.le_iff_toInt_le.mpr z)
theorem q_up {x b : Int32} (h : ¬ b ≤ x) : (x + 1).toInt = x.toInt + 1 := by
  have h1 : ¬ b.toInt ≤ x.toInt := fun z => h (Int32.le_iff_toInt_le.mpr z)
  have h2 := b.toInt_lt
  have h3 := x.le_toInt
  rw [Int32.toInt_add, show (1 : Int32).toInt = 1 from rfl]
  exact Int.bmod_eq_of_le (by omega) (by omega)
theorem q_dec {x b : Int32} {B : Int} {n : Nat} (hB : b.toInt = B) (h : ¬ b ≤ x) (hm : (B - x.toInt).toNat < n + 1) : (B - (x + 1).toInt).toNat < n := by
  have h1 : ¬ b.toInt ≤ x.toInt := fun z => h (Int32.le_iff_toInt_le.mpr z)
  have h2 := q_up h
  omega
theorem q_up2 {x b : Int32} {B : Int} (hB : b.toInt = B) (hb : B < 2147483647) (h : ¬ b < x) : (x + 1).toInt = x.toInt + 1 := by
  have h1 : ¬ b.toInt < x.toInt := fun z => h (Int32.lt_iff_toInt_lt.mpr z)
  have h3 := x.le_toInt
  rw [Int32.toInt_add, show (1 : Int32).toInt = 1 from rfl]
  exact Int.bmod_eq_of_le (by omega) (by omega)
theorem q_dec2 {x b : Int32} {B : Int} {n : Nat} (hB : b.toInt = B) (hb : B < 2147483647) (h : ¬ b < x) (hm : (B + 1 - x.toInt).toNat < n + 1) : (B + 1 - (x + 1).toInt).toNat < n := by
  have h1 : ¬ b.toInt < x.toInt := fun z => h (Int32.lt_iff_toInt_lt.mpr z)
  have h2 := q_up2 hB hb h
  omega
theorem q_dn {x b : Int32} (h : ¬ x ≤ b) : (x + (-1)).toInt = x.toInt - 1 := by
  have h1 : ¬ x.toInt ≤ b.toInt := fun z => h (Int32.le_iff_toInt_le.mpr z)
  have h2 := b.le_toInt
  have h3 := x.toInt_lt
  rw [Int32.toInt_add, show (-1 : Int32).toInt = -1 from rfl]
  exact Int.bmod_eq_of_le (by omega) (by omega)
theorem q_dec3 {x b : Int32} {B : Int} {n : Nat} (hB : b.toInt = B) (h : ¬ x ≤ b) (hm : (x.toInt - B).toNat < n + 1) : ((x + (-1)).toInt - B).toNat < n := by
  have h1 : ¬ x.toInt ≤ b.toInt := fun z => h (Int32.le_iff_toInt_le.mpr z)
  have h2 := q_dn h
  omega
/-! the states of the objects, as tuples; a reader p and a setter s for each part -/
abbrev PS : Type := (Nat → Int64) × Int64 × Int64 × Int64 × Int64 × Int64 × Int64 × Int64 × Int32 × Int64 × Int64 × Int64 × Int64
abbrev pP_mem (s : PS) : (Nat → Int64) := s.1
abbrev pP_pc (s : PS) : Int64 := s.2.1
abbrev pP_ap (s : PS) : Int64 := s.2.2.1
abbrev pP_fp (s : PS) : Int64 := s.2.2.2.1
abbrev pP_newPc (s : PS) : Int64 := s.2.2.2.2.1
abbrev pP_newAp (s : PS) : Int64 := s.2.2.2.2.2.1
abbrev pP_newFp (s : PS) : Int64 := s.2.2.2.2.2.2.1
abbrev pP_word (s : PS) : Int64 := s.2.2.2.2.2.2.2.1
abbrev pP_flags (s : PS) : Int32 := s.2.2.2.2.2.2.2.2.1
abbrev pP_dstPlace (s : PS) : Int64 := s.2.2.2.2.2.2.2.2.2.1
abbrev pP_op0Place (s : PS) : Int64 := s.2.2.2.2.2.2.2.2.2.2.1
abbrev pP_op1Place (s : PS) : Int64 := s.2.2.2.2.2.2.2.2.2.2.2.1
abbrev pP_res (s : PS) : Int64 := s.2.2.2.2.2.2.2.2.2.2.2.2
abbrev sP_mem (s : PS) (v : (Nat → Int64)) : PS := (v, s.2)
abbrev sP_pc (s : PS) (v : Int64) : PS := (s.1, v, s.2.2)
abbrev sP_ap (s : PS) (v : Int64) : PS := (s.1, s.2.1, v, s.2.2.2)
abbrev sP_fp (s : PS) (v : Int64) : PS := (s.1, s.2.1, s.2.2.1, v, s.2.2.2.2)
abbrev sP_newPc (s : PS) (v : Int64) : PS := (s.1, s.2.1, s.2.2.1, s.2.2.2.1, v, s.2.2.2.2.2)
abbrev sP_newAp (s : PS) (v : Int64) : PS := (s.1, s.2.1, s.2.2.1, s.2.2.2.1, s.2.2.2.2.1, v, s.2.2.2.2.2.2)
abbrev sP_newFp (s : PS) (v : Int64) : PS := (s.1, s.2.1, s.2.2.1, s.2.2.2.1, s.2.2.2.2.1, s.2.2.2.2.2.1, v, s.2.2.2.2.2.2.2)
abbrev sP_word (s : PS) (v : Int64) : PS := (s.1, s.2.1, s.2.2.1, s.2.2.2.1, s.2.2.2.2.1, s.2.2.2.2.2.1, s.2.2.2.2.2.2.1, v, s.2.2.2.2.2.2.2.2)
abbrev sP_flags (s : PS) (v : Int32) : PS := (s.1, s.2.1, s.2.2.1, s.2.2.2.1, s.2.2.2.2.1, s.2.2.2.2.2.1, s.2.2.2.2.2.2.1, s.2.2.2.2.2.2.2.1, v, s.2.2.2.2.2.2.2.2.2)
abbrev sP_dstPlace (s : PS) (v : Int64) : PS := (s.1, s.2.1, s.2.2.1, s.2.2.2.1, s.2.2.2.2.1, s.2.2.2.2.2.1, s.2.2.2.2.2.2.1, s.2.2.2.2.2.2.2.1, s.2.2.2.2.2.2.2.2.1, v, s.2.2.2.2.2.2.2.2.2.2)
abbrev sP_op0Place (s : PS) (v : Int64) : PS := (s.1, s.2.1, s.2.2.1, s.2.2.2.1, s.2.2.2.2.1, s.2.2.2.2.2.1, s.2.2.2.2.2.2.1, s.2.2.2.2.2.2.2.1, s.2.2.2.2.2.2.2.2.1, s.2.2.2.2.2.2.2.2.2.1, v, s.2.2.2.2.2.2.2.2.2.2.2)
abbrev sP_op1Place (s : PS) (v : Int64) : PS := (s.1, s.2.1, s.2.2.1, s.2.2.2.1, s.2.2.2.2.1, s.2.2.2.2.2.1, s.2.2.2.2.2.2.1, s.2.2.2.2.2.2.2.1, s.2.2.2.2.2.2.2.2.1, s.2.2.2.2.2.2.2.2.2.1, s.2.2.2.2.2.2.2.2.2.2.1, v, s.2.2.2.2.2.2.2.2.2.2.2.2)
abbrev sP_res (s : PS) (v : Int64) : PS := (s.1, s.2.1, s.2.2.1, s.2.2.2.1, s.2.2.2.2.1, s.2.2.2.2.2.1, s.2.2.2.2.2.2.1, s.2.2.2.2.2.2.2.1, s.2.2.2.2.2.2.2.2.1, s.2.2.2.2.2.2.2.2.2.1, s.2.2.2.2.2.2.2.2.2.2.1, s.2.2.2.2.2.2.2.2.2.2.2.1, v)
abbrev TS : Type := (Nat → Int64) × Int32
abbrev pT_row (s : TS) : (Nat → Int64) := s.1
abbrev pT_length (s : TS) : Int32 := s.2
abbrev sT_row (s : TS) (v : (Nat → Int64)) : TS := (v, s.2)
abbrev sT_length (s : TS) (v : Int32) : TS := (s.1, v)
abbrev XS : Type := Int32 × PS × TS
abbrev pX_latestFailure (s : XS) : Int32 := s.1
abbrev pX_p (s : XS) : PS := s.2.1
abbrev pX_t (s : XS) : TS := s.2.2
abbrev sX_latestFailure (s : XS) (v : Int32) : XS := (v, s.2)
abbrev sX_p (s : XS) (v : PS) : XS := (s.1, v, s.2.2)
abbrev sX_t (s : XS) (v : TS) : XS := (s.1, s.2.1, v)
abbrev NS : Type := Int32 × (Nat → Int32) × (Nat → Int32) × (Nat → Int64) × (Nat → Int32) × (Nat → Int64) × Int32 × Int32 × Int64 × Int32 × Int32 × Int64 × Int32 × (Nat → Int32) × (Nat → Int64)
abbrev pN_thrown (s : NS) : Int32 := s.1
abbrev pN_isSet (s : NS) : (Nat → Int32) := s.2.1
abbrev pN_kind (s : NS) : (Nat → Int32) := s.2.2.1
abbrev pN_number (s : NS) : (Nat → Int64) := s.2.2.2.1
abbrev pN_segment (s : NS) : (Nat → Int32) := s.2.2.2.2.1
abbrev pN_value (s : NS) : (Nat → Int64) := s.2.2.2.2.2.1
abbrev pN_there (s : NS) : Int32 := s.2.2.2.2.2.2.1
abbrev pN_gotKind (s : NS) : Int32 := s.2.2.2.2.2.2.2.1
abbrev pN_got (s : NS) : Int64 := s.2.2.2.2.2.2.2.2.1
abbrev pN_trouble (s : NS) : Int32 := s.2.2.2.2.2.2.2.2.2.1
abbrev pN_failure (s : NS) : Int32 := s.2.2.2.2.2.2.2.2.2.2.1
abbrev pN_word (s : NS) : Int64 := s.2.2.2.2.2.2.2.2.2.2.2.1
abbrev pN_rows (s : NS) : Int32 := s.2.2.2.2.2.2.2.2.2.2.2.2.1
abbrev pN_traceSegment (s : NS) : (Nat → Int32) := s.2.2.2.2.2.2.2.2.2.2.2.2.2.1
abbrev pN_traceCell (s : NS) : (Nat → Int64) := s.2.2.2.2.2.2.2.2.2.2.2.2.2.2
abbrev sN_thrown (s : NS) (v : Int32) : NS := (v, s.2)
abbrev sN_isSet (s : NS) (v : (Nat → Int32)) : NS := (s.1, v, s.2.2)
abbrev sN_kind (s : NS) (v : (Nat → Int32)) : NS := (s.1, s.2.1, v, s.2.2.2)
abbrev sN_number (s : NS) (v : (Nat → Int64)) : NS := (s.1, s.2.1, s.2.2.1, v, s.2.2.2.2)
abbrev sN_segment (s : NS) (v : (Nat → Int32)) : NS := (s.1, s.2.1, s.2.2.1, s.2.2.2.1, v, s.2.2.2.2.2)
abbrev sN_value (s : NS) (v : (Nat → Int64)) : NS := (s.1, s.2.1, s.2.2.1, s.2.2.2.1, s.2.2.2.2.1, v, s.2.2.2.2.2.2)
abbrev sN_there (s : NS) (v : Int32) : NS := (s.1, s.2.1, s.2.2.1, s.2.2.2.1, s.2.2.2.2.1, s.2.2.2.2.2.1, v, s.2.2.2.2.2.2.2)
abbrev sN_gotKind (s : NS) (v : Int32) : NS := (s.1, s.2.1, s.2.2.1, s.2.2.2.1, s.2.2.2.2.1, s.2.2.2.2.2.1, s.2.2.2.2.2.2.1, v, s.2.2.2.2.2.2.2.2)
abbrev sN_got (s : NS) (v : Int64) : NS := (s.1, s.2.1, s.2.2.1, s.2.2.2.1, s.2.2.2.2.1, s.2.2.2.2.2.1, s.2.2.2.2.2.2.1, s.2.2.2.2.2.2.2.1, v, s.2.2.2.2.2.2.2.2.2)
abbrev sN_trouble (s : NS) (v : Int32) : NS := (s.1, s.2.1, s.2.2.1, s.2.2.2.1, s.2.2.2.2.1, s.2.2.2.2.2.1, s.2.2.2.2.2.2.1, s.2.2.2.2.2.2.2.1, s.2.2.2.2.2.2.2.2.1, v, s.2.2.2.2.2.2.2.2.2.2)
abbrev sN_failure (s : NS) (v : Int32) : NS := (s.1, s.2.1, s.2.2.1, s.2.2.2.1, s.2.2.2.2.1, s.2.2.2.2.2.1, s.2.2.2.2.2.2.1, s.2.2.2.2.2.2.2.1, s.2.2.2.2.2.2.2.2.1, s.2.2.2.2.2.2.2.2.2.1, v, s.2.2.2.2.2.2.2.2.2.2.2)
abbrev sN_word (s : NS) (v : Int64) : NS := (s.1, s.2.1, s.2.2.1, s.2.2.2.1, s.2.2.2.2.1, s.2.2.2.2.2.1, s.2.2.2.2.2.2.1, s.2.2.2.2.2.2.2.1, s.2.2.2.2.2.2.2.2.1, s.2.2.2.2.2.2.2.2.2.1, s.2.2.2.2.2.2.2.2.2.2.1, v, s.2.2.2.2.2.2.2.2.2.2.2.2)
abbrev sN_rows (s : NS) (v : Int32) : NS := (s.1, s.2.1, s.2.2.1, s.2.2.2.1, s.2.2.2.2.1, s.2.2.2.2.2.1, s.2.2.2.2.2.2.1, s.2.2.2.2.2.2.2.1, s.2.2.2.2.2.2.2.2.1, s.2.2.2.2.2.2.2.2.2.1, s.2.2.2.2.2.2.2.2.2.2.1, s.2.2.2.2.2.2.2.2.2.2.2.1, v, s.2.2.2.2.2.2.2.2.2.2.2.2.2)
abbrev sN_traceSegment (s : NS) (v : (Nat → Int32)) : NS := (s.1, s.2.1, s.2.2.1, s.2.2.2.1, s.2.2.2.2.1, s.2.2.2.2.2.1, s.2.2.2.2.2.2.1, s.2.2.2.2.2.2.2.1, s.2.2.2.2.2.2.2.2.1, s.2.2.2.2.2.2.2.2.2.1, s.2.2.2.2.2.2.2.2.2.2.1, s.2.2.2.2.2.2.2.2.2.2.2.1, s.2.2.2.2.2.2.2.2.2.2.2.2.1, v, s.2.2.2.2.2.2.2.2.2.2.2.2.2.2)
abbrev sN_traceCell (s : NS) (v : (Nat → Int64)) : NS := (s.1, s.2.1, s.2.2.1, s.2.2.2.1, s.2.2.2.2.1, s.2.2.2.2.2.1, s.2.2.2.2.2.2.1, s.2.2.2.2.2.2.2.1, s.2.2.2.2.2.2.2.2.1, s.2.2.2.2.2.2.2.2.2.1, s.2.2.2.2.2.2.2.2.2.2.1, s.2.2.2.2.2.2.2.2.2.2.2.1, s.2.2.2.2.2.2.2.2.2.2.2.2.1, s.2.2.2.2.2.2.2.2.2.2.2.2.2.1, v)
abbrev wM (aM aC : Nat) (cJ : ClassId) (s : (Nat → Int64)) : va_W := [(aM, .inr (0, [.ref aC])), (aC, .inl (cJ, 320, .inr (.inl s)))]
abbrev wP (aP aM aC : Nat) (cJ : ClassId) (s : PS) : va_W := [(aP, .inr (1, [.ref aM, .long (pP_pc s), .long (pP_ap s), .long (pP_fp s), .long (pP_newPc s), .long (pP_newAp s), .long (pP_newFp s), .long (pP_word s), .int (pP_flags s), .long (pP_dstPlace s), .long (pP_op0Place s), .long (pP_op1Place s), .long (pP_res s)])), (aM, .inr (0, [.ref aC])), (aC, .inl (cJ, 320, .inr (.inl (pP_mem s))))]
abbrev wT (aT aR : Nat) (cJ : ClassId) (s : TS) : va_W := [(aT, .inr (2, [.ref aR, .int (pT_length s)])), (aR, .inl (cJ, 192, .inr (.inl (pT_row s))))]
abbrev wX (aX aP aM aC aT aR : Nat) (cJ : ClassId) (s : XS) : va_W := [(aX, .inr (3, [.ref aM, .ref aP, .ref aT, .int (pX_latestFailure s)])), (aP, .inr (1, [.ref aM, .long (pP_pc (pX_p s)), .long (pP_ap (pX_p s)), .long (pP_fp (pX_p s)), .long (pP_newPc (pX_p s)), .long (pP_newAp (pX_p s)), .long (pP_newFp (pX_p s)), .long (pP_word (pX_p s)), .int (pP_flags (pX_p s)), .long (pP_dstPlace (pX_p s)), .long (pP_op0Place (pX_p s)), .long (pP_op1Place (pX_p s)), .long (pP_res (pX_p s))])), (aM, .inr (0, [.ref aC])), (aC, .inl (cJ, 320, .inr (.inl (pP_mem (pX_p s))))), (aT, .inr (2, [.ref aR, .int (pT_length (pX_t s))])), (aR, .inl (cJ, 192, .inr (.inl (pT_row (pX_t s)))))]
abbrev wN (aN aIs aKd aNu aSg aVl aTs aTc : Nat) (cJ cI cZ : ClassId) (s : NS) : va_W := [(aN, .inr (4, [.int (pN_thrown s), .ref aIs, .ref aKd, .ref aNu, .ref aSg, .ref aVl, .int (pN_there s), .int (pN_gotKind s), .long (pN_got s), .int (pN_trouble s), .int (pN_failure s), .long (pN_word s), .int (pN_rows s), .ref aTs, .ref aTc])), (aIs, .inl (cZ, 384, .inl (pN_isSet s))), (aKd, .inl (cI, 384, .inl (pN_kind s))), (aNu, .inl (cJ, 384, .inr (.inl (pN_number s)))), (aSg, .inl (cI, 13, .inl (pN_segment s))), (aVl, .inl (cJ, 13, .inr (.inl (pN_value s)))), (aTs, .inl (cI, 192, .inl (pN_traceSegment s))), (aTc, .inl (cJ, 192, .inr (.inl (pN_traceCell s))))]

