/-! ===== Int32 by its bits: bt x i ===== -/
def bt (x : Int32) (i : Nat) : Bool := x.toBitVec.getLsbD i
theorem b_ext {x y : Int32} (h : ∀ i, i < 32 → bt x i = bt y i) : x = y := Int32.toBitVec_inj.mp (BitVec.eq_of_getLsbD_eq (fun i hi => h i hi))
theorem b_or (x y : Int32) (i : Nat) : bt (x ||| y) i = (bt x i || bt y i) := by unfold bt; rw [Int32.toBitVec_or, BitVec.getLsbD_or]
theorem b_and (x y : Int32) (i : Nat) : bt (x &&& y) i = (bt x i && bt y i) := by unfold bt; rw [Int32.toBitVec_and, BitVec.getLsbD_and]
theorem b_xor (x y : Int32) (i : Nat) : bt (x ^^^ y) i = (bt x i ^^ bt y i) := by unfold bt; rw [Int32.toBitVec_xor, BitVec.getLsbD_xor]
theorem b_big {x : Int32} {i : Nat} (h : 32 ≤ i) : bt x i = false := BitVec.getLsbD_of_ge _ _ h
theorem b_255 (i : Nat) : bt 255 i = decide (i < 8) := by
  rcases Nat.lt_or_ge i 32 with h | h
  · exact (by decide +kernel : ∀ i, i < 32 → bt 255 i = decide (i < 8)) i h
  · rw [b_big h, decide_eq_false (by omega)]
theorem b_65535 (i : Nat) : bt 65535 i = decide (i < 16) := by
  rcases Nat.lt_or_ge i 32 with h | h
  · exact (by decide +kernel : ∀ i, i < 32 → bt 65535 i = decide (i < 16)) i h
  · rw [b_big h, decide_eq_false (by omega)]
theorem b_m1 : ∀ i, i < 32 → bt (-1) i = true := by decide +kernel
theorem b_0 (i : Nat) : bt 0 i = false := BitVec.getLsbD_zero
theorem s_l : ∀ n, n < 32 → ((nI n &&& 31).toBitVec.smod 32).toNat = n := by decide +kernel
theorem s_u : ∀ n, n < 32 → (((nI n).toUInt32 &&& Int32.toUInt32 31).toBitVec % 32).toNat = n := by decide +kernel
theorem b_shl (n : Nat) (hn : n < 32) (x : Int32) {i : Nat} (hi : i < 32) : bt (x <<< (nI n &&& 31)) i = (decide (n ≤ i) && bt x (i - n)) := by
  unfold bt
  rw [Int32.toBitVec_shiftLeft]
  show (x.toBitVec <<< ((nI n &&& 31).toBitVec.smod 32).toNat).getLsbD i = _
  rw [s_l n hn, BitVec.getLsbD_shiftLeft]
  rcases Nat.lt_or_ge i n with h | h
  · simp [h, Nat.not_le.mpr h]
  · simp [hi, h, Nat.not_lt.mpr h]
theorem b_ushr (n : Nat) (hn : n < 32) (x : Int32) (i : Nat) : bt ((x.toUInt32 >>> ((nI n).toUInt32 &&& Int32.toUInt32 31)).toInt32) i = bt x (n + i) := by
  show (x.toUInt32 >>> ((nI n).toUInt32 &&& Int32.toUInt32 31)).toBitVec.getLsbD i = x.toUInt32.toBitVec.getLsbD (n + i)
  rw [UInt32.toBitVec_shiftRight]
  show (x.toUInt32.toBitVec >>> (((nI n).toUInt32 &&& Int32.toUInt32 31).toBitVec % 32).toNat).getLsbD i = _
  rw [s_u n hn, BitVec.getLsbD_ushiftRight]
theorem b_sshr (n : Nat) (hn : n < 32) (x : Int32) {i : Nat} (hi : i < 32) : bt (x >>> (nI n &&& 31)) i = if n + i < 32 then bt x (n + i) else bt x 31 := by
  unfold bt
  rw [Int32.toBitVec_shiftRight]
  show (x.toBitVec.sshiftRight ((nI n &&& 31).toBitVec.smod 32).toNat).getLsbD i = _
  rw [s_l n hn, BitVec.getLsbD_sshiftRight, BitVec.msb_eq_getLsbD_last]
  simp [hi]
theorem b_ub (b : Int8) (i : Nat) : bt (ub b) i = (bt (Int8.toInt32 b) i && decide (i < 8)) := by
  unfold ub; rw [b_and, b_255]
theorem b_ub8 (x : Int32) (i : Nat) : bt (ub (Int32.toInt8 x)) i = (bt x i && decide (i < 8)) := by
  rw [← ub_of, b_and]; exact congrArg _ (b_255 i)
theorem sb24 (b : Int8) : Int8.toInt32 b <<< (nI 24 &&& 31) = ub b <<< (nI 24 &&& 31) := by
  apply b_ext
  intro i hi
  rw [b_shl 24 (by omega) _ hi, b_shl 24 (by omega) _ hi, b_ub]
  by_cases h : 24 ≤ i
  · rw [decide_eq_true (show i - 24 < 8 by omega), Bool.and_true]
  · rw [decide_eq_false h, Bool.false_and, Bool.false_and]
theorem pw_bits (f : Nat → Int8) (q : Nat) {i : Nat} (hi : i < 32) : bt (pw f q 4) i = ((decide (24 ≤ i) && bt (ub (f q)) (i - 24)) || (decide (16 ≤ i) && bt (ub (f (q + 1))) (i - 16)) || (decide (8 ≤ i) && bt (ub (f (q + 2))) (i - 8)) || bt (ub (f (q + 3))) i) := by
  have h0 : ∀ j, bt (nI 0) j = false := b_0
  rw [pw_s, pw_s, pw_s, pw_s, b_or, b_shl 8 (by omega) _ hi, b_or, b_shl 8 (by omega) _ (show i - 8 < 32 by omega), b_or, b_shl 8 (by omega) _ (show i - 8 - 8 < 32 by omega), b_or, b_shl 8 (by omega) _ (show i - 8 - 8 - 8 < 32 by omega), show pw f q 0 = nI 0 from rfl, h0, Bool.and_false, Bool.false_or, show i - 8 - 8 = i - 16 by omega, show i - 16 - 8 = i - 24 by omega, Nat.add_zero]
  by_cases h8 : 8 ≤ i
  · by_cases h16 : 16 ≤ i
    · by_cases h24 : 24 ≤ i
      · simp [h8, h16, h24, show 8 ≤ i - 8 by omega, show 8 ≤ i - 16 by omega]
      · simp [h8, h16, h24, show 8 ≤ i - 8 by omega, show ¬ 8 ≤ i - 16 by omega]
    · simp [h8, h16, show ¬ 24 ≤ i by omega, show ¬ 8 ≤ i - 8 by omega]
  · simp [h8, show ¬ 16 ≤ i by omega, show ¬ 24 ≤ i by omega]
/-- the reference's word is the class's -/
theorem wd4_pw (f : Nat → Int8) (q : Nat) : (((Int8.toInt32 (f q) <<< (nI 24 &&& 31)) ||| (ub (f (q + 1)) <<< (nI 16 &&& 31))) ||| (ub (f (q + 2)) <<< (nI 8 &&& 31))) ||| ub (f (q + 3)) = pw f q 4 := by
  rw [sb24]
  apply b_ext
  intro i hi
  rw [pw_bits f q hi, b_or, b_or, b_or, b_shl 24 (by omega) _ hi, b_shl 16 (by omega) _ hi, b_shl 8 (by omega) _ hi]
theorem b_sh8 (x : Int32) {n i : Nat} (hn : n ≤ 24) (hi : i < 8) : bt (ub (Int32.toInt8 (x >>> (nI n &&& 31)))) i = bt x (n + i) := by
  rw [b_ub8, b_sshr n (by omega) x (by omega), if_pos (by omega), decide_eq_true hi, Bool.and_true]
/-- four bytes of a number, put together again -/
theorem pw_num {f : Nat → Int8} {q : Nat} {x : Int32} (h0 : f q = Int32.toInt8 (x >>> (nI 24 &&& 31))) (h1 : f (q + 1) = Int32.toInt8 (x >>> (nI 16 &&& 31))) (h2 : f (q + 2) = Int32.toInt8 (x >>> (nI 8 &&& 31))) (h3 : f (q + 3) = Int32.toInt8 (x >>> (nI 0 &&& 31))) : pw f q 4 = x := by
  apply b_ext
  intro i hi
  have e0 : ∀ j, bt (ub (f q)) j = (bt x (24 + j) && decide (j < 8)) := by
    intro j
    rw [h0]
    by_cases hj : j < 8
    · rw [b_sh8 x (by omega) hj, decide_eq_true hj, Bool.and_true]
    · rw [b_ub, decide_eq_false hj, Bool.and_false, Bool.and_false]
  have e1 : ∀ j, bt (ub (f (q + 1))) j = (bt x (16 + j) && decide (j < 8)) := by
    intro j
    rw [h1]
    by_cases hj : j < 8
    · rw [b_sh8 x (by omega) hj, decide_eq_true hj, Bool.and_true]
    · rw [b_ub, decide_eq_false hj, Bool.and_false, Bool.and_false]
  have e2 : ∀ j, bt (ub (f (q + 2))) j = (bt x (8 + j) && decide (j < 8)) := by
    intro j
    rw [h2]
    by_cases hj : j < 8
    · rw [b_sh8 x (by omega) hj, decide_eq_true hj, Bool.and_true]
    · rw [b_ub, decide_eq_false hj, Bool.and_false, Bool.and_false]
  have e3 : ∀ j, bt (ub (f (q + 3))) j = (bt x (0 + j) && decide (j < 8)) := by
    intro j
    rw [h3]
    by_cases hj : j < 8
    · rw [b_sh8 x (by omega) hj, decide_eq_true hj, Bool.and_true]
    · rw [b_ub, decide_eq_false hj, Bool.and_false, Bool.and_false]
  rw [pw_bits f q hi, e0, e1, e2, e3, Nat.zero_add]
  rcases (show i < 8 ∨ (8 ≤ i ∧ i < 16) ∨ (16 ≤ i ∧ i < 24) ∨ 24 ≤ i by omega) with h | h | h | h
  · simp [h, show ¬ 8 ≤ i by omega, show ¬ 16 ≤ i by omega, show ¬ 24 ≤ i by omega]
  · rw [show 8 + (i - 8) = i by omega]
    simp [h.1, show ¬ i < 8 by omega, show i - 8 < 8 by omega, show ¬ 16 ≤ i by omega, show ¬ 24 ≤ i by omega]
  · rw [show 16 + (i - 16) = i by omega]
    simp [h.1, show ¬ i < 8 by omega, show ¬ i - 8 < 8 by omega, show i - 16 < 8 by omega, show ¬ 24 ≤ i by omega]
  · rw [show 24 + (i - 24) = i by omega]
    simp [h, show ¬ i < 8 by omega, show ¬ i - 8 < 8 by omega, show ¬ i - 16 < 8 by omega, show i - 24 < 8 by omega]
theorem dg_sh (x : Int32) {n : Nat} (hn : n ≤ 24) : Int32.toInt8 (x >>> (nI n &&& 31)) = Int32.toInt8 (ushr x n) := by
  apply ub_inj.mp
  apply b_ext
  intro i hi
  rw [b_ub8, b_ub8]
  by_cases h : i < 8
  · rw [b_sshr n (by omega) x hi, if_pos (by omega)]
    unfold ushr
    rw [b_ushr n (by omega)]
  · rw [decide_eq_false h, Bool.and_false, Bool.and_false]
theorem mI_sb (F : Nat → Int8) (i : Nat) : ((ub (F i) ||| (ub (F (i + 1)) <<< (nI 8 &&& 31))) ||| (ub (F (i + 2)) <<< (nI 16 &&& 31))) ||| (Int8.toInt32 (F (i + 3)) <<< (nI 24 &&& 31)) = mI F i := by rw [sb24]; rfl
def rgB (b : Int8) : Bool := decide (1 ≤ b8 b ∧ b8 b ≤ 3)
theorem sb_all {P : Int8 → Prop} (h : ∀ n : Fin 256, P (Int8.ofBitVec (BitVec.ofFin n))) (b : Int8) : P b := h ⟨b.toBitVec.toNat, b.toBitVec.isLt⟩
theorem rg_t {b : Int8} : ¬ Int8.toInt32 b < nI 1 → ¬ nI 3 < Int8.toInt32 b → rgB b = true := sb_all (P := fun b => ¬ Int8.toInt32 b < nI 1 → ¬ nI 3 < Int8.toInt32 b → rgB b = true) (by decide +kernel) b
theorem rg_f1 {b : Int8} : Int8.toInt32 b < nI 1 → rgB b = false := sb_all (P := fun b => Int8.toInt32 b < nI 1 → rgB b = false) (by decide +kernel) b
theorem rg_f2 {b : Int8} : nI 3 < Int8.toInt32 b → rgB b = false := sb_all (P := fun b => nI 3 < Int8.toInt32 b → rgB b = false) (by decide +kernel) b
theorem rg_v {b : Int8} : rgB b = true → Int8.toInt32 b = nI (b8 b) := sb_all (P := fun b => rgB b = true → Int8.toInt32 b = nI (b8 b)) (by decide +kernel) b
theorem tbM_sb (i : Nat) (hi : i < 8) : tbM i = Int8.toInt32 (magG i) := by
  have key : ∀ j : Fin 8, tbM j.val = Int8.toInt32 (magG j.val) := by decide +kernel
  exact key ⟨i, hi⟩
theorem sbm_1 : Int8.toInt32 (-1) = -1 := by decide
theorem x_mulc (a b : Nat) : nI a * nI b = nI (b * a) := by rw [pk_mul, Nat.mul_comm]
abbrev bW (ho : Nat) (cB : ClassId) (n : Nat) (F : Nat → Int8) : va_W := [(ho, .inl (cB, n, .inl (fun j => Int8.toInt32 (F j))))]
