abbrev xW (a0 a1 a2 a3 a4 a5 a6 a7 a8 a9 : Nat) (cI : ClassId) (k : K0) (ut : Nat → Int32) (tb : Nat → Int8) (tn : Nat) (sc hs : Nat → Int32) (rn : Bool) (rv wb ee we : Int32) : va_W := [(a0, .inr (3, [.ref a1, .ref a5, .ref a7, .int (bI rn), .int rv, .int wb, .int ee, .int we])), (a1, .inr (0, [.ref a2, .ref a3, .ref a4, .int (bI k.2.2.1), .int (bI k.2.2.2.1), .int (nI k.2.2.2.2.1), .int (nI k.2.2.2.2.2.1), .int k.2.2.2.2.2.2.1, .int k.2.2.2.2.2.2.2])), (a2, .inl (cI, 2816, .inl (fun j => ub (k.1 j)))), (a3, .inl (cI, 11, .inl k.2.1)), (a4, .inl (cI, 8, .inl ut)), (a5, .inr (2, [.ref a6, .int (nI tn)])), (a6, .inl (cI, 1024, .inl (fun j => ub (tb j)))), (a7, .inr (1, [.ref a8, .ref a9])), (a8, .inl (cI, 64, .inl sc)), (a9, .inl (cI, 8, .inl hs))]
def slotB (x : Int32) : Bool := decide (x = nI 0 ∨ x = nI 1)
theorem slotB_of {x : Int32} (h : slotB x = true) : ∃ w : Nat, w < 2 ∧ x = nI w := by
  rcases of_decide_eq_true h with q | q
  · exact ⟨0, by omega, q⟩
  · exact ⟨1, by omega, q⟩
def mkB (F : Nat → Int8) (p : Nat) : Bool := decide (setN F p = 1)
def uwB (F : Nat → Int8) : Bool := decide (¬ setN F (4 * 256 + 1 * 8) = 0) && !mkB F (4 * 256 + 2 * 8)
def askN (F : Nat → Int8) : Nat := if setN F (9 * 256 + 1 * 8) = 0 then (if magB F (9 * 256) = true then (if mkB F (9 * 256 + 3 * 8) = true then 2 else 1) else 0) else setN F (9 * 256 + 1 * 8)
theorem askN_le (F : Nat → Int8) : askN F ≤ 3 := by
  have := setN_le F (9 * 256 + 1 * 8)
  unfold askN; split
  · split
    · split <;> omega
    · omega
  · exact this
def tuB (F : Nat → Int8) : Bool := magB F (4 * 256) && (decide (setN F (4 * 256 + 1 * 8) = 1) && (mkB F (4 * 256 + 2 * 8) && !mkB F (4 * 256 + 3 * 8)))
def rightB (F : Nat → Int8) (a : Nat) : Bool := inB 985 (mI F a) && eqTo (fun i => F (a + (8 + (mI F a).toNatClampNeg) + i)) (digT (sha8 F a (8 + (mI F a).toNatClampNeg))) 32
theorem rightB_n {F : Nat → Int8} {a n : Nat} (hn : n ≤ 984) (h : mI F a = nI n) : rightB F a = eqTo (fun i => F (a + (8 + n) + i)) (digT (sha8 F a (8 + n))) 32 := by
  unfold rightB
  rw [h, nI_clamp (by omega), inB_nI (by omega) (by decide), Bool.true_and]
theorem rightB_f {F : Nat → Int8} {a : Nat} (h : mI F a < 0 ∨ nI 984 < mI F a) : rightB F a = false := by
  unfold rightB
  have : inB 985 (mI F a) = false := by
    apply decide_eq_false
    intro z
    rcases h with q | q
    · exact z.1 q
    · apply z.2
      rw [Int32.le_iff_toInt_le, nI_toInt (by decide)]
      rw [Int32.lt_iff_toInt_lt, nI_toInt (by decide)] at q
      omega
  rw [this, Bool.false_and]
def dueN (F : Nat → Int8) : Nat := if uwB F = true then 5 else if askN F = 3 then 3 else if askN F = 0 then (if tuB F = true then 3 else 0) else if rightB F (1 * 5 * 256) = true then askN F else 4
def cntN (F : Nat → Int8) (p : Nat) : Nat → Nat
  | 0 => 0
  | n + 1 => cntN F p n + (if mkB F (p + (4 + n) * 8) = true then 1 else 0)
theorem cntN_s (F : Nat → Int8) (p n : Nat) : cntN F p (n + 1) = cntN F p n + (if mkB F (p + (4 + n) * 8) = true then 1 else 0) := rfl
theorem cntN_le (F : Nat → Int8) (p n : Nat) : cntN F p n ≤ n := by
  induction n with
  | zero => exact Nat.le_refl 0
  | succ n ih => rw [cntN_s]; split <;> omega
