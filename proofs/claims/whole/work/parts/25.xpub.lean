def imgW (F : Nat → Int8) (w : Nat) (y : Int32) : Int32 := if rightB F (w * 5 * 256) = true then (if y = nI 0 then nI 1 else if y = nI 1 then mI F (w * 5 * 256) else mI F (w * 5 * 256 + 4)) else nI 0
def imgV (F : Nat → Int8) (x y : Int32) : Int32 := if slotB x = true ∧ ¬ y < 0 ∧ y ≤ nI 2 then imgW F x.toNatClampNeg y else -1
def trlW (F : Nat → Int8) (w : Nat) (y : Int32) : Int32 := if y = nI 0 then bI (magB F ((w * 5 + 4) * 256)) else if y = nI 1 then nI (setN F ((w * 5 + 4) * 256 + 1 * 8)) else if y = nI 2 then bI (mkB F ((w * 5 + 4) * 256 + 2 * 8)) else if y = nI 3 then bI (mkB F ((w * 5 + 4) * 256 + 3 * 8)) else if y = nI 4 then nI (cntN F ((w * 5 + 4) * 256) 12) else -1
def trlV (F : Nat → Int8) (x y : Int32) : Int32 := if slotB x = true then trlW F x.toNatClampNeg y else -1
def stillV (k : K0) : Int32 := if k.2.2.1 = true then nI 0 else if k.2.2.2.1 = true then nI k.2.2.2.2.1 else (-1)
def lookV (k : K0) (rn : Bool) (rv wb ee we : Int32) (x : Int32) : Int32 := if x = nI 0 then bI k.2.2.1 else if x = nI 1 then bI rn else if x = nI 2 then rv else if x = nI 3 then k.2.2.2.2.2.2.1 else if x = nI 4 then stillV k else if x = nI 5 then wb else if x = nI 6 then ee else if x = nI 7 then we else if x = nI 8 then k.2.2.2.2.2.2.2 else -1
def flaV (F : Nat → Int8) (x : Int32) : Int32 := if inB 2816 x = true then ub (F x.toNatClampNeg) else -1
def weaV (te : Nat → Int32) (x : Int32) : Int32 := if inB 11 x = true then te x.toNatClampNeg else -1
def endB (tn : Nat) (x : Int32) : Bool := decide (¬ x < 0 ∧ x ≤ nI tn)
def feedT (tb : Nat → Int8) (tn : Nat) (v1 v2 v3 v4 v5 : Int32) : Nat → Int8 := hiT (hiT (hiT (hiT (hiT tb tn v1) (tn + 4) v2) (tn + 4 + 4) v3) (tn + 4 + 4 + 4) v4) (tn + 4 + 4 + 4 + 4) v5
def cutB (dn : Bool) (x y : Int32) : Bool := decide (¬ x < 0 ∧ ¬ nI 100000 < x ∧ ¬ y < 0 ∧ ¬ nI 32 ≤ y ∧ dn = false)
theorem le_of_nI {x : Int32} {n : Nat} (hn : n < 2 ^ 31) (h : ¬ x < 0) (h2 : ¬ nI n < x) : ∃ j : Nat, j ≤ n ∧ x = nI j := nI_of2 (M := nI n) (nI_toInt hn) h (by rw [Int32.le_iff_toInt_le]; rw [Int32.lt_iff_toInt_lt] at h2; omega)
theorem lt_of_nI {x : Int32} {n : Nat} (hn : n < 2 ^ 31) (h : ¬ x < 0) (h2 : ¬ nI n ≤ x) : ∃ j : Nat, j < n ∧ x = nI j := by
  rcases pk_ix x hn with q | q | q
  · exact absurd q h
  · exact absurd q h2
  · exact q
