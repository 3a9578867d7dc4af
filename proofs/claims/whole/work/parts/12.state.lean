/-- the memory as both sides have it: bytes, times erased, down, told, acts left, units cut, acts done, times gone -/
abbrev K0 : Type := (Nat → Int8) × (Nat → Int32) × Bool × Bool × Nat × Nat × Int32 × Int32
abbrev mW (a1 a2 a3 a4 : Nat) (cI : ClassId) (k : K0) (ut : Nat → Int32) : va_W := [(a1, .inr (0, [.ref a2, .ref a3, .ref a4, .int (bI k.2.2.1), .int (bI k.2.2.2.1), .int (nI k.2.2.2.2.1), .int (nI k.2.2.2.2.2.1), .int k.2.2.2.2.2.2.1, .int k.2.2.2.2.2.2.2])), (a2, .inl (cI, 2816, .inl (fun j => ub (k.1 j)))), (a3, .inl (cI, 11, .inl k.2.1)), (a4, .inl (cI, 8, .inl ut))]
abbrev sW (a7 a8 a9 : Nat) (cI : ClassId) (sc hs : Nat → Int32) : va_W := [(a7, .inr (1, [.ref a8, .ref a9])), (a8, .inl (cI, 64, .inl sc)), (a9, .inl (cI, 8, .inl hs))]
abbrev tW (a5 a6 : Nat) (cI : ClassId) (tb : Nat → Int8) (tn : Nat) : va_W := [(a5, .inr (2, [.ref a6, .int (nI tn)])), (a6, .inl (cI, 1024, .inl (fun j => ub (tb j))))]
/-- a number is a place of a row of n -/
def inB (n : Nat) (x : Int32) : Bool := decide (¬ x < 0 ∧ ¬ nI n ≤ x)
theorem inB_of {n : Nat} {x : Int32} (hn : n < 2 ^ 31) (h : inB n x = true) : ∃ k : Nat, k < n ∧ x = nI k := by
  have h' := of_decide_eq_true h
  rcases pk_ix x hn with q | q | q
  · exact absurd q h'.1
  · exact absurd q h'.2
  · exact q
theorem inB_nI {n k : Nat} (h : k < n) (hn : n < 2 ^ 31) : inB n (nI k) = true := decide_eq_true ⟨nI_pos (by omega), fun q => absurd ((nI_leI hn (by omega)).mp q) (by omega)⟩
/-- four bytes as a number -/
def mI (F : Nat → Int8) (i : Nat) : Int32 := ((ub (F i) ||| (ub (F (i + 1)) <<< (nI 8 &&& 31))) ||| (ub (F (i + 2)) <<< (nI 16 &&& 31))) ||| (ub (F (i + 3)) <<< (nI 24 &&& 31))
/-- an act begins -/
def kBegin (k : K0) : K0 × Bool := if k.2.2.2.1 = true ∧ k.2.2.2.2.1 = 0 then ((k.1, k.2.1, true, k.2.2.2.1, k.2.2.2.2.1, k.2.2.2.2.2.1, k.2.2.2.2.2.2.1, k.2.2.2.2.2.2.2 + nI 1), false) else ((k.1, k.2.1, k.2.2.1, k.2.2.2.1, if k.2.2.2.1 = true then k.2.2.2.2.1 - 1 else k.2.2.2.2.1, k.2.2.2.2.2.1, k.2.2.2.2.2.2.1 + nI 1, k.2.2.2.2.2.2.2), true)
theorem kBegin_F (k : K0) : (kBegin k).1.1 = k.1 := by unfold kBegin; split <;> rfl
theorem kBegin_te (k : K0) : (kBegin k).1.2.1 = k.2.1 := by unfold kBegin; split <;> rfl
theorem kBegin_cu (k : K0) : (kBegin k).1.2.2.2.2.2.1 = k.2.2.2.2.2.1 := by unfold kBegin; split <;> rfl
theorem kBegin_dn (k : K0) (h : (kBegin k).2 = true) : (kBegin k).1.2.2.1 = k.2.2.1 := by
  unfold kBegin at h ⊢
  split
  · rename_i q; rw [if_pos q] at h; cases h
  · rfl
theorem kBegin_lf (k : K0) : (kBegin k).1.2.2.2.2.1 ≤ k.2.2.2.2.1 := by
  unfold kBegin; split
  · exact Nat.le_refl _
  · show (if k.2.2.2.1 = true then k.2.2.2.2.1 - 1 else k.2.2.2.2.1) ≤ _
    split <;> omega
def fillF (F : Nat → Int8) (a n : Nat) : Nat → Int8 := fun j => if a ≤ j ∧ j < a + n then -1 else F j
/-- a sector is erased, or its first units where power goes -/
def kErase (j : Nat) (k : K0) : K0 × Bool := ((fillF k.1 (j * 256) ((if (kBegin k).2 = true then 32 else k.2.2.2.2.2.1) * 8), upd k.2.1 j (k.2.1 j + nI 1), (kBegin k).1.2.2), (kBegin k).2)
theorem fillF_0 (F : Nat → Int8) (a : Nat) : fillF F a 0 = F := by funext j; unfold fillF; rw [if_neg (by omega)]
theorem fillF_step (F : Nat → Int8) (a i : Nat) : va_up (fillF F a i) (a + i) (-1) = fillF F a (i + 1) := by
  funext j
  unfold va_up fillF
  by_cases h : j = a + i
  · rw [if_pos h, if_pos (by omega)]
  · rw [if_neg h]
    by_cases h2 : a ≤ j ∧ j < a + i
    · rw [if_pos h2, if_pos (by omega)]
    · rw [if_neg h2, if_neg (by omega)]
def andFn (F : Nat → Int8) (p : Nat) (g : Nat → Int8) (n : Nat) : Nat → Int8 := fun j => if p ≤ j ∧ j < p + n then F j &&& g (j - p) else F j
theorem andFn_0 (F : Nat → Int8) (p : Nat) (g : Nat → Int8) : andFn F p g 0 = F := by funext j; unfold andFn; rw [if_neg (by omega)]
theorem andFn_at (F : Nat → Int8) (p : Nat) (g : Nat → Int8) (i : Nat) : andFn F p g i (p + i) = F (p + i) := by unfold andFn; rw [if_neg (by omega)]
theorem andFn_step (F : Nat → Int8) (p : Nat) (g : Nat → Int8) (i : Nat) : va_up (andFn F p g i) (p + i) (andFn F p g i (p + i) &&& g i) = andFn F p g (i + 1) := by
  rw [andFn_at]
  funext j
  unfold va_up andFn
  by_cases h : j = p + i
  · rw [if_pos h, if_pos (by omega), h, Nat.add_sub_cancel_left]
  · rw [if_neg h]
    by_cases h2 : p ≤ j ∧ j < p + i
    · rw [if_pos h2, if_pos (by omega)]
    · rw [if_neg h2, if_neg (by omega)]
/-- a unit is written -/
def kWrite (p : Nat) (g : Nat → Int8) (k : K0) : K0 × Bool := ((if (kBegin k).2 = true then andFn k.1 p g 8 else k.1, (kBegin k).1.2), (kBegin k).2)
def eqTo (f g : Nat → Int8) (n : Nat) : Bool := decide (∀ i, i < n → f i = g i)
theorem eqTo_0 (f g : Nat → Int8) : eqTo f g 0 = true := decide_eq_true (fun i h => absurd h (Nat.not_lt_zero i))
theorem eqTo_s (f g : Nat → Int8) (n : Nat) : eqTo f g (n + 1) = (eqTo f g n && decide (f n = g n)) := by
  unfold eqTo
  rw [← Bool.decide_and, decide_eq_decide]
  constructor
  · intro h; exact ⟨fun i hi => h i (by omega), h n (by omega)⟩
  · intro h i hi
    rcases Nat.lt_or_ge i n with q | q
    · exact h.1 i q
    · rw [show i = n by omega]; exact h.2
theorem eqTo_f {f g : Nat → Int8} {n i : Nat} (hi : i < n) (h : ¬ f i = g i) : eqTo f g n = false := decide_eq_false (fun z => h (z i hi))
theorem eqTo_c {f f' g g' : Nat → Int8} {n : Nat} (h : ∀ i, i < n → f i = f' i) (h2 : ∀ i, i < n → g i = g' i) : eqTo f g n = eqTo f' g' n := by
  unfold eqTo
  rw [decide_eq_decide]
  constructor
  · intro q i hi; rw [← h i hi, ← h2 i hi]; exact q i hi
  · intro q i hi; rw [h i hi, h2 i hi]; exact q i hi
abbrev blkTo (g : Nat → Int8) (n : Nat) : Bool := eqTo g (fun _ => -1) n
theorem blkTo_0 (g : Nat → Int8) : blkTo g 0 = true := eqTo_0 _ _
theorem blkTo_s (g : Nat → Int8) (n : Nat) : blkTo g (n + 1) = (blkTo g n && decide (g n = -1)) := eqTo_s _ _ n
def unitG (G : Nat → Int8) (fr en : Nat) : Nat → Int8 := fun i => if i < 8 ∧ fr + i < en then G (fr + i) else -1
/-- acts: a sector to be erased; a unit to be written, with its bytes -/
abbrev Act : Type := Nat ⊕ (Nat × (Nat → Int8))
def kAct (x : Act) (k : K0) : K0 × Bool := match x with
  | .inl j => kErase j k
  | .inr q => kWrite q.1 q.2 k
def kActs : List Act → K0 → K0 × Bool
  | [], k => (k, true)
  | x :: r, k => if (kAct x k).2 = true then kActs r (kAct x k).1 else kAct x k
theorem kActs_cons (x : Act) (r : List Act) (k : K0) : kActs (x :: r) k = if (kAct x k).2 = true then kActs r (kAct x k).1 else kAct x k := rfl
theorem kActs_nil (k : K0) : kActs [] k = (k, true) := rfl
theorem kActs_app (L M : List Act) (k : K0) : kActs (L ++ M) k = if (kActs L k).2 = true then kActs M (kActs L k).1 else kActs L k := by
  induction L generalizing k with
  | nil => rfl
  | cons x r ih =>
    rw [List.cons_append, kActs_cons, kActs_cons]
    by_cases h : (kAct x k).2 = true
    · rw [if_pos h, if_pos h, ih]
    · rw [if_neg h, if_neg h, if_neg h]
theorem kActs_one (x : Act) (k : K0) : kActs [x] k = kAct x k := by
  rw [kActs_cons]
  by_cases h : (kAct x k).2 = true
  · rw [if_pos h, kActs_nil]
    exact Prod.ext rfl h.symm
  · rw [if_neg h]
def b8 (b : Int8) : Nat := b.toBitVec.toNat
theorem b8_lt (b : Int8) : b8 b < 256 := b.toBitVec.isLt
theorem b8_inj {a b : Int8} : b8 a = b8 b ↔ a = b := ⟨fun h => Int8.toBitVec_inj.mp (BitVec.eq_of_toNat_eq h), fun h => by rw [h]⟩
theorem ub_b8 (b : Int8) : ub b = nI (b8 b) := ub_nat b
/-- a mark: what it is set with, 0 if it is not set -/
def setN (F : Nat → Int8) (p : Nat) : Nat := if 1 ≤ b8 (F p) ∧ b8 (F p) ≤ 3 ∧ eqTo (fun i => F (p + i)) (fun _ => F p) 8 = true then b8 (F p) else 0
theorem setN_le (F : Nat → Int8) (p : Nat) : setN F p ≤ 3 := by unfold setN; split <;> omega
def magG (i : Nat) : Int8 := Int32.toInt8 (tbM i)
theorem tbM_ub (i : Nat) (hi : i < 8) : tbM i = ub (magG i) := by
  have key : ∀ j : Fin 8, tbM j.val = ub (magG j.val) := by decide +kernel
  exact key ⟨i, hi⟩
def magB (F : Nat → Int8) (p : Nat) : Bool := eqTo (fun i => F (p + i)) magG 8
