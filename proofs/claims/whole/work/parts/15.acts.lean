def unitL (p : Nat) (g : Nat → Int8) : List Act := if blkTo g 8 = true then [] else [.inr (p, g)]
def rowL (p : Nat) (G : Nat → Int8) (len : Nat) : Nat → Nat → List Act
  | 0, _ => []
  | c + 1, fr => unitL (p + fr) (unitG G fr len) ++ rowL p G len c (fr + 8)
theorem rowL_s (p : Nat) (G : Nat → Int8) (len c fr : Nat) : rowL p G len (c + 1) fr = unitL (p + fr) (unitG G fr len) ++ rowL p G len c (fr + 8) := rfl
def copyL (F : Nat → Int8) (src dst : Nat) : Nat → Nat → List Act
  | 0, _ => []
  | c + 1, u => unitL (dst * 256 + u * 8) (unitG F (src * 256 + u * 8) 2816) ++ copyL F src dst c (u + 1)
theorem copyL_s (F : Nat → Int8) (src dst c u : Nat) : copyL F src dst (c + 1) u = unitL (dst * 256 + u * 8) (unitG F (src * 256 + u * 8) 2816) ++ copyL F src dst c (u + 1) := rfl
def repL (F : Nat → Int8) (src dst : Nat) : List Act := .inl dst :: copyL F src dst 32 0
def markL (p : Nat) (x : Int32) : List Act := [.inr (p, fun _ => Int32.toInt8 x)]
/-- power is there, the numbers are small -/
def kOk (k : K0) : Prop := k.2.2.1 = false ∧ k.2.2.2.2.1 < 2 ^ 31 ∧ k.2.2.2.2.2.1 < 32
theorem kBegin_ok {k : K0} (h : kOk k) (hb : (kBegin k).2 = true) : (kBegin k).1.2.2.1 = false ∧ (kBegin k).1.2.2.2.2.1 < 2 ^ 31 ∧ (kBegin k).1.2.2.2.2.2.1 < 32 := by
  have h2 := kBegin_lf k
  refine ⟨(kBegin_dn k hb).trans h.1, by have := h.2.1; omega, by rw [kBegin_cu]; exact h.2.2⟩
theorem kAct_ok {x : Act} {k : K0} (h : kOk k) (hb : (kAct x k).2 = true) : kOk (kAct x k).1 := by
  cases x with
  | inl j => exact kBegin_ok h hb
  | inr q => exact kBegin_ok h hb
theorem kActs_ok {L : List Act} {k : K0} (h : kOk k) (hb : (kActs L k).2 = true) : kOk (kActs L k).1 := by
  induction L generalizing k with
  | nil => exact h
  | cons x r ih =>
    rw [kActs_cons] at hb ⊢
    by_cases q : (kAct x k).2 = true
    · rw [if_pos q] at hb ⊢; exact ih (kAct_ok h q) hb
    · rw [if_neg q] at hb; exact absurd hb q
def appA (x : Act) (F : Nat → Int8) : Nat → Int8 := match x with
  | .inl j => fillF F (j * 256) 256
  | .inr q => andFn F q.1 q.2 8
def appL : List Act → (Nat → Int8) → (Nat → Int8)
  | [], F => F
  | x :: r, F => appL r (appA x F)
theorem appL_cons (x : Act) (r : List Act) (F : Nat → Int8) : appL (x :: r) F = appL r (appA x F) := rfl
theorem appL_app (L M : List Act) (F : Nat → Int8) : appL (L ++ M) F = appL M (appL L F) := by
  induction L generalizing F with
  | nil => rfl
  | cons x r ih => rw [List.cons_append, appL_cons, appL_cons, ih]
theorem kAct_F {x : Act} {k : K0} (hb : (kAct x k).2 = true) : (kAct x k).1.1 = appA x k.1 := by
  cases x with
  | inl j =>
    show fillF k.1 (j * 256) ((if (kBegin k).2 = true then 32 else k.2.2.2.2.2.1) * 8) = _
    rw [if_pos (show (kBegin k).2 = true from hb)]; rfl
  | inr q =>
    show (if (kBegin k).2 = true then andFn k.1 q.1 q.2 8 else k.1) = _
    rw [if_pos (show (kBegin k).2 = true from hb)]; rfl
theorem kActs_F {L : List Act} {k : K0} (hb : (kActs L k).2 = true) : (kActs L k).1.1 = appL L k.1 := by
  induction L generalizing k with
  | nil => rfl
  | cons x r ih =>
    rw [kActs_cons] at hb ⊢
    by_cases q : (kAct x k).2 = true
    · rw [if_pos q] at hb ⊢; rw [ih hb, appL_cons, kAct_F q]
    · rw [if_neg q] at hb; exact absurd hb q
theorem kActs_unit {p : Nat} {g : Nat → Int8} {k : K0} : kActs (unitL p g) k = if blkTo g 8 = true then (k, true) else kWrite p g k := by
  unfold unitL
  by_cases h : blkTo g 8 = true
  · rw [if_pos h, if_pos h]; rfl
  · rw [if_neg h, if_neg h, kActs_one]; rfl
theorem appL_unit_out {p : Nat} {g F : Nat → Int8} {j : Nat} (h : j < p ∨ p + 8 ≤ j) : appL (unitL p g) F j = F j := by
  unfold unitL
  by_cases q : blkTo g 8 = true
  · rw [if_pos q]; rfl
  · rw [if_neg q]
    show andFn F p g 8 j = F j
    unfold andFn; rw [if_neg (by omega)]
set_option maxRecDepth 10000 in
theorem appL_copy_out {F G : Nat → Int8} {src dst : Nat} {j : Nat} (h : j < dst * 256 ∨ dst * 256 + 256 ≤ j) : ∀ (c u : Nat), u + c ≤ 32 → appL (copyL G src dst c u) F j = F j := by
  intro c
  induction c generalizing F with
  | zero => intro u _; rfl
  | succ c ih =>
    intro u hu
    have h1 : j < dst * 256 + u * 8 ∨ dst * 256 + u * 8 + 8 ≤ j := by omega
    rw [copyL_s, appL_app, ih (u + 1) (by omega)]
    exact appL_unit_out h1
theorem unitG_c {F G : Nat → Int8} {fr en : Nat} (h : ∀ i, i < 8 → fr + i < en → F (fr + i) = G (fr + i)) : unitG F fr en = unitG G fr en := by
  funext i
  unfold unitG
  by_cases q : i < 8 ∧ fr + i < en
  · rw [if_pos q, if_pos q, h i q.1 q.2]
  · rw [if_neg q, if_neg q]
