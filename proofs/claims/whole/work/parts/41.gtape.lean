theorem sh0 (x : Int32) : x >>> (nI 0 &&& 31) = x := by
  apply b_ext
  intro i hi
  rw [b_sshr 0 (by omega) x hi, if_pos (by omega), Nat.zero_add]
theorem dgT_app (tb : Nat → Int8) (n : Nat) (g : Nat → Int8) (a : Nat) (h : Nat → Int8) (b : Nat) : dgT (dgT tb n g a) (n + a) h b = dgT tb n (fun z => if z < a then g z else h (z - a)) (a + b) := by
  funext j
  unfold dgT
  by_cases h1 : n + a ≤ j ∧ j < n + a + b
  · rw [if_pos h1, if_pos (by omega)]
    show _ = if j - n < a then _ else _
    rw [if_neg (by omega), show j - (n + a) = j - n - a by omega]
  · rw [if_neg h1]
    by_cases h2 : n ≤ j ∧ j < n + a
    · rw [if_pos h2, if_pos (by omega)]
      show _ = if j - n < a then _ else _
      rw [if_pos (by omega)]
    · rw [if_neg h2, if_neg (by omega)]
theorem dgT_c {tb : Nat → Int8} {n : Nat} {g h : Nat → Int8} {m : Nat} (q : ∀ z, z < m → g z = h z) : dgT tb n g m = dgT tb n h m := by
  funext j
  unfold dgT
  by_cases h1 : n ≤ j ∧ j < n + m
  · rw [if_pos h1, if_pos h1, q _ (by omega)]
  · rw [if_neg h1, if_neg h1]
def hb4 (x : Int32) (z : Nat) : Int8 := Int32.toInt8 (x >>> (nI (24 - z % 4 * 8) &&& 31))
theorem hiT_dg (tb : Nat → Int8) (tn : Nat) (x : Int32) : hiT tb tn x = dgT tb tn (hb4 x) 4 := by
  have e0 := dgT_step tb tn (hb4 x) 0
  have e1 := dgT_step tb tn (hb4 x) 1
  have e2 := dgT_step tb tn (hb4 x) 2
  have e3 := dgT_step tb tn (hb4 x) 3
  rw [dgT_0] at e0
  rw [show 4 = 3 + 1 from rfl, ← e3, ← e2, ← e1, ← e0]
  show hiT tb tn x = va_up (va_up (va_up (va_up tb tn (Int32.toInt8 (x >>> (nI 24 &&& 31)))) (tn + 1) (Int32.toInt8 (x >>> (nI 16 &&& 31)))) (tn + 2) (Int32.toInt8 (x >>> (nI 8 &&& 31)))) (tn + 3) (Int32.toInt8 (x >>> (nI 0 &&& 31)))
  rw [sh0]; rfl
def fv5 (v1 v2 v3 v4 v5 : Int32) : Nat → Int32 := fun i => if i = 0 then v1 else if i = 1 then v2 else if i = 2 then v3 else if i = 3 then v4 else v5
def fb20 (f : Nat → Int32) (z : Nat) : Int8 := Int32.toInt8 (f (z / 4) >>> (nI (24 - z % 4 * 8) &&& 31))
theorem feed_eq (tb : Nat → Int8) (tn : Nat) (v1 v2 v3 v4 v5 : Int32) (f : Nat → Int32) (h0 : f 0 = v1) (h1 : f 1 = v2) (h2 : f 2 = v3) (h3 : f 3 = v4) (h4 : f 4 = v5) : dgT tb tn (fb20 f) 20 = feedT tb tn v1 v2 v3 v4 v5 := by
  unfold feedT
  rw [hiT_dg, hiT_dg, hiT_dg, hiT_dg, hiT_dg, dgT_app, dgT_app, dgT_app, dgT_app]
  show dgT tb tn (fb20 f) 20 = dgT tb tn _ 20
  apply dgT_c
  intro z hz
  unfold fb20 hb4
  rcases (show z / 4 = 0 ∨ z / 4 = 1 ∨ z / 4 = 2 ∨ z / 4 = 3 ∨ z / 4 = 4 by omega) with q | q | q | q | q
  · rw [q, h0, if_pos (by omega)]
  · rw [q, h1, if_neg (by omega), if_pos (by omega), show (z - 4) % 4 = z % 4 by omega]
  · rw [q, h2, if_neg (by omega), if_neg (by omega), if_pos (by omega), show (z - 4 - 4) % 4 = z % 4 by omega]
  · rw [q, h3, if_neg (by omega), if_neg (by omega), if_neg (by omega), if_pos (by omega), show (z - 4 - 4 - 4) % 4 = z % 4 by omega]
  · rw [q, h4, if_neg (by omega), if_neg (by omega), if_neg (by omega), if_neg (by omega), show (z - 4 - 4 - 4 - 4) % 4 = z % 4 by omega]
def lb4 (x : Int32) (z : Nat) : Int8 := Int32.toInt8 (x >>> (nI (z * 8) &&& 31))
def hdT (tb : Nat → Int8) (len : Nat) (v : Int32) (i : Nat) : Nat → Int8 := dgT (dgT tb 0 (lb4 (nI len)) i) 4 (lb4 v) i
theorem hdT_0 (tb : Nat → Int8) (len : Nat) (v : Int32) : hdT tb len v 0 = tb := by unfold hdT; rw [dgT_0, dgT_0]
theorem hdT_step (tb : Nat → Int8) (len : Nat) (v : Int32) {i : Nat} (hi : i < 4) : va_up (va_up (hdT tb len v i) i (lb4 (nI len) i)) (4 + i) (lb4 v i) = hdT tb len v (i + 1) := by
  unfold hdT
  rw [← dgT_step (dgT tb 0 (lb4 (nI len)) (i + 1)) 4 (lb4 v) i]
  congr 1
  funext j
  unfold va_up
  by_cases h : j = i
  · rw [if_pos h]; unfold dgT
    rw [if_neg (by omega), if_pos (by omega), h]; rfl
  · rw [if_neg h]; unfold dgT
    by_cases h2 : 4 ≤ j ∧ j < 4 + i
    · rw [if_pos h2, if_pos h2]
    · rw [if_neg h2, if_neg h2]
      by_cases h3 : 0 ≤ j ∧ j < 0 + i
      · rw [if_pos h3, if_pos (by omega)]
      · rw [if_neg h3, if_neg (by omega)]
theorem loT_dg (tb : Nat → Int8) (tn : Nat) (x : Int32) : loT tb tn x = dgT tb tn (lb4 x) 4 := by
  have e0 := dgT_step tb tn (lb4 x) 0
  have e1 := dgT_step tb tn (lb4 x) 1
  have e2 := dgT_step tb tn (lb4 x) 2
  have e3 := dgT_step tb tn (lb4 x) 3
  rw [dgT_0] at e0
  rw [show 4 = 3 + 1 from rfl, ← e3, ← e2, ← e1, ← e0]
  show loT tb tn x = va_up (va_up (va_up (va_up tb tn (Int32.toInt8 (x >>> (nI 0 &&& 31)))) (tn + 1) (Int32.toInt8 (x >>> (nI 8 &&& 31)))) (tn + 2) (Int32.toInt8 (x >>> (nI 16 &&& 31)))) (tn + 3) (Int32.toInt8 (x >>> (nI 24 &&& 31)))
  rw [sh0]; rfl
theorem hdT_4 (tb : Nat → Int8) (len : Nat) (v : Int32) : hdT (shT tb len 0) len v 4 = headT tb len v := by
  unfold hdT headT
  rw [loT_dg, loT_dg]
theorem cut31 {y : Int32} : nI 31 < y ↔ nI 32 ≤ y := by
  rw [Int32.lt_iff_toInt_lt, Int32.le_iff_toInt_le, nI_toInt (by decide), nI_toInt (by decide)]
  constructor <;> intro h <;> omega
