theorem kErase_acts (j : Nat) (k : K0) : kErase j k = kActs [.inl j] k := (kActs_one (.inl j) k).symm
theorem kX0_eraseS (l : Launch) (dC : Nat → ClassId) (dI : Nat → Nat → Nat) (tt : Nat → Nat) (cI cB : ClassId) (sz : Nat) (a1 a2 a3 a4 : Nat) (k : K0) (ut : Nat → Int32) (j : Nat) (hj : j < 11) (hk : kOk k) : MetI (S := K0) l yX0_eraseSector wsX0_eraseSector { frames := 1, cells := 0, slots := 0, locals := 20 } (dC, dI) [(cI, .int), (cB, .byte)] tt [] sz (mW a1 a2 a3 a4 cI k ut) [.ref a1, .int (nI j)] (fun u : K0 => mW a1 a2 a3 a4 cI u ut) (fun r u => r = bI (kActs [.inl j] k).2 ∧ u = (kActs [.inl j] k).1) := by
  have h := kX0_eraseSector l dC dI tt cI cB sz a1 a2 a3 a4 k ut j hj hk.1 hk.2.1 hk.2.2
  rw [kErase_acts] at h
  exact h
theorem app_t {L M : List Act} {k : K0} (h : (kActs L k).2 = true) : kActs (L ++ M) k = kActs M (kActs L k).1 := by rw [kActs_app, if_pos h]
theorem app_f {L M : List Act} {k : K0} (h : (kActs L k).2 = false) : kActs (L ++ M) k = kActs L k := by rw [kActs_app, if_neg (by rw [h]; decide)]
def magL (p : Nat) : List Act := [.inr (p, unitG magG 0 8)]
theorem rowL_mag (p : Nat) : rowL p magG 8 1 0 = magL p := by
  have h : blkTo (unitG magG 0 8) 8 = false := eqTo_f (i := 0) (by omega) (by decide)
  show unitL (p + 0) (unitG magG 0 8) ++ [] = _
  unfold unitL
  rw [h, List.append_nil]; rfl
def eraN (w : Nat) : Nat → Nat → List Act
  | 0, _ => [.inl (w * 5 + 4)]
  | c + 1, j => [.inl (w * 5 + j)] ++ eraN w c (j + 1)
theorem eraN_s (w c j : Nat) : eraN w (c + 1) j = [.inl (w * 5 + j)] ++ eraN w c (j + 1) := rfl
def eraL (w : Nat) : List Act := eraN w 4 0
def begL (F : Nat → Int8) (kd : Nat) : List Act := (if setN F (9 * 256 + 1 * 8) = kd then [] else markL (9 * 256 + 1 * 8) (nI kd)) ++ ([.inl 4] ++ markL (4 * 256 + 1 * 8) (nI kd))
def stepL (F : Nat → Int8) (j kk dst src : Nat) : List Act := if mkB F (4 * 256 + (4 + 3 * j + kk) * 8) = true then [] else repL F src dst ++ markL (4 * 256 + (4 + 3 * j + kk) * 8) (nI 1)
def threeL (j : Nat) (F : Nat → Int8) : List Act := stepL F j 0 10 (5 + j) ++ (stepL (appL (stepL F j 0 10 (5 + j)) F) j 1 (5 + j) j ++ stepL (appL (stepL (appL (stepL F j 0 10 (5 + j)) F) j 1 (5 + j) j) (appL (stepL F j 0 10 (5 + j)) F)) j 2 j 10)
def exL : Nat → (Nat → Int8) → List Act
  | 0, _ => []
  | j + 1, F => threeL j F ++ exL j (appL (threeL j F) F)
theorem exL_s (j : Nat) (F : Nat → Int8) : exL (j + 1) F = threeL j F ++ exL j (appL (threeL j F) F) := rfl
def okL (F : Nat → Int8) : List Act := if setN F (4 * 256 + 1 * 8) = 1 ∨ mkB F (4 * 256 + 3 * 8) = true then [] else markL (4 * 256 + 3 * 8) (nI 1)
def endL (F : Nat → Int8) : List Act := [.inl 9] ++ (okL (appL [.inl 9] F) ++ (magL (4 * 256 + 0 * 8) ++ markL (4 * 256 + 2 * 8) (nI 1)))
def resL (F : Nat → Int8) : List Act := exL 4 F ++ endL (appL (exL 4 F) F)
def dueL (F : Nat → Int8) (d : Nat) : List Act := if d = 0 then [] else if d = 4 then [.inl 9] else if d = 5 then resL F else begL F d ++ resL (appL (begL F d) F)
def insL (w : Nat) (tb : Nat → Int8) (tn : Nat) : List Act := eraL w ++ rowL (w * 5 * 256) tb tn ((tn + 7) / 8) 0
def reqL (g : Bool) : List Act := (if g = true then markL (9 * 256 + 3 * 8) (nI 1) else []) ++ magL (9 * 256 + 0 * 8)
/-- behind acts: the answer, or DOWN -/
def insR (k : K0) (tb : Nat → Int8) (tn : Nat) (rn : Bool) (rv x : Int32) : Int32 × K0 × Bool × Int32 := if k.2.2.1 = true then (-9, k, rn, rv) else if slotB x = false then (-1, k, rn, rv) else if uwB k.1 = true then (-3, k, rn, rv) else if (kActs (insL x.toNatClampNeg tb tn) k).2 = true then (nI tn, (kActs (insL x.toNatClampNeg tb tn) k).1, if x.toNatClampNeg = 0 then false else rn, if x.toNatClampNeg = 0 then nI 0 else rv) else (-9, (kActs (insL x.toNatClampNeg tb tn) k).1, false, nI 0)
def reqR (k : K0) (rn : Bool) (rv : Int32) (g : Bool) : Int32 × K0 × Bool × Int32 := if k.2.2.1 = true then (-9, k, rn, rv) else if rn = false then (-2, k, rn, rv) else if (kActs (reqL g) k).2 = true then (nI 0, (kActs (reqL g) k).1, rn, rv) else (-9, (kActs (reqL g) k).1, false, nI 0)
def cfmR (k : K0) (rn : Bool) (rv : Int32) : Int32 × K0 × Bool × Int32 := if k.2.2.1 = true then (-9, k, rn, rv) else if rn = false then (-2, k, rn, rv) else if mkB k.1 (4 * 256 + 3 * 8) = true ∨ magB k.1 (4 * 256) = false then (nI 0, k, rn, rv) else if (kActs (markL (4 * 256 + 3 * 8) (nI 1)) k).2 = true then (nI 1, (kActs (markL (4 * 256 + 3 * 8) (nI 1)) k).1, rn, rv) else (-9, (kActs (markL (4 * 256 + 3 * 8) (nI 1)) k).1, false, nI 0)
def bootE (d : Nat) (ee : Int32) : Int32 := if d = 0 ∨ d = 4 then ee else ee + nI 1
def bootW (d : Nat) (we : Int32) : Int32 := if d = 4 then we + nI 1 else we
/-- answer, memory, runs, version, boots, exchanges, wrongs -/
def bootR (k : K0) (rn : Bool) (rv wb ee we : Int32) : Int32 × K0 × Bool × Int32 × Int32 × Int32 × Int32 := if k.2.2.1 = true then (-9, k, rn, rv, wb, ee, we) else if (kActs (dueL k.1 (dueN k.1)) k).2 = true then (if rightB (kActs (dueL k.1 (dueN k.1)) k).1.1 (0 * 5 * 256) = true then (nI 1, (kActs (dueL k.1 (dueN k.1)) k).1, true, mI (kActs (dueL k.1 (dueN k.1)) k).1.1 (0 * 5 * 256 + 4), wb + nI 1, bootE (dueN k.1) ee, bootW (dueN k.1) we) else (nI 0, (kActs (dueL k.1 (dueN k.1)) k).1, false, nI 0, wb + nI 1, bootE (dueN k.1) ee, bootW (dueN k.1) we)) else (-9, (kActs (dueL k.1 (dueN k.1)) k).1, false, nI 0, wb, ee, we)
