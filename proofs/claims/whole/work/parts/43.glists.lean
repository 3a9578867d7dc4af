theorem setN_c {F G : Nat → Int8} {p : Nat} (h : ∀ i, i < 8 → F (p + i) = G (p + i)) : setN F p = setN G p := by
  have h0 : F p = G p := h 0 (by omega)
  unfold setN
  rw [eqTo_c (f := fun i => F (p + i)) (f' := fun i => G (p + i)) (g := fun _ => F p) (g' := fun _ => G p) h (fun _ _ => h0), h0]
theorem mkB_c {F G : Nat → Int8} {p : Nat} (h : ∀ i, i < 8 → F (p + i) = G (p + i)) : mkB F p = mkB G p := by unfold mkB; rw [setN_c h]
theorem eqF.at8 {F G : Nat → Int8} (h : eqF F G) {p : Nat} (hp : p + 8 ≤ 2816) : ∀ i, i < 8 → F (p + i) = G (p + i) := fun i hi => h _ (by omega)
theorem appA_eqF {F G : Nat → Int8} (x : Act) (h : eqF F G) : eqF (appA x F) (appA x G) := by
  intro j hj
  cases x with
  | inl q => show fillF F (q * 256) 256 j = fillF G (q * 256) 256 j; unfold fillF; rw [h j hj]
  | inr q => show andFn F q.1 q.2 8 j = andFn G q.1 q.2 8 j; unfold andFn; rw [h j hj]
theorem appL_eqF {F G : Nat → Int8} (L : List Act) (h : eqF F G) : eqF (appL L F) (appL L G) := by
  induction L generalizing F G with
  | nil => exact h
  | cons x r ih => exact ih (appA_eqF x h)
theorem copyL_c {F G : Nat → Int8} (h : eqF F G) (src dst : Nat) : ∀ c u, copyL F src dst c u = copyL G src dst c u := by
  intro c
  induction c with
  | zero => intro u; rfl
  | succ c ih => intro u; rw [copyL_s, copyL_s, ih, unitG_c (fun i _ h2 => h _ h2)]
theorem stepL_c {F G : Nat → Int8} (h : eqF F G) {j kk : Nat} (hj : j < 4) (hk : kk < 3) (dst src : Nat) : stepL F j kk dst src = stepL G j kk dst src := by
  unfold stepL repL
  rw [mkB_c (h.at8 (by omega)), copyL_c h]
theorem threeL_c {F G : Nat → Int8} (h : eqF F G) {j : Nat} (hj : j < 4) : threeL j F = threeL j G := by
  have h1 := stepL_c h hj (show 0 < 3 by omega) 10 (5 + j)
  have hA : eqF (appL (stepL F j 0 10 (5 + j)) F) (appL (stepL G j 0 10 (5 + j)) G) := by rw [h1]; exact appL_eqF _ h
  have h2 := stepL_c hA hj (show 1 < 3 by omega) (5 + j) j
  have hB : eqF (appL (stepL (appL (stepL F j 0 10 (5 + j)) F) j 1 (5 + j) j) (appL (stepL F j 0 10 (5 + j)) F)) (appL (stepL (appL (stepL G j 0 10 (5 + j)) G) j 1 (5 + j) j) (appL (stepL G j 0 10 (5 + j)) G)) := by rw [h2]; exact appL_eqF _ hA
  have h3 := stepL_c hB hj (show 2 < 3 by omega) j 10
  unfold threeL
  rw [h3, h2, h1]
theorem exL_c : ∀ {d : Nat} {F G : Nat → Int8}, d ≤ 4 → eqF F G → exL d F = exL d G := by
  intro d
  induction d with
  | zero => intro F G _ _; rfl
  | succ d ih =>
    intro F G hd h
    rw [exL_s, exL_s, ih (by omega) (show eqF (appL (threeL d F) F) (appL (threeL d G) G) by rw [threeL_c h (by omega)]; exact appL_eqF _ h), threeL_c h (by omega)]
theorem okL_c {F G : Nat → Int8} (h : eqF F G) : okL F = okL G := by
  unfold okL
  rw [setN_c (h.at8 (by omega)), mkB_c (h.at8 (by omega))]
theorem endL_c {F G : Nat → Int8} (h : eqF F G) : endL F = endL G := by unfold endL; rw [okL_c (appL_eqF _ h)]
theorem resL_c {F G : Nat → Int8} (h : eqF F G) : resL F = resL G := by
  have h1 := exL_c (Nat.le_refl 4) h
  unfold resL
  rw [endL_c (show eqF (appL (exL 4 F) F) (appL (exL 4 G) G) by rw [h1]; exact appL_eqF _ h), h1]
theorem begL_c {F G : Nat → Int8} (h : eqF F G) (kd : Nat) : begL F kd = begL G kd := by unfold begL; rw [setN_c (h.at8 (by omega))]
theorem dueL_c {F G : Nat → Int8} (h : eqF F G) (d : Nat) : dueL F d = dueL G d := by
  unfold dueL
  rw [resL_c h, resL_c (show eqF (appL (begL F d) F) (appL (begL G d) G) by rw [begL_c h]; exact appL_eqF _ h), begL_c h]
/-- the trailer's first four units stay over the exchange -/
def keepT (L : List Act) : Prop := ∀ F j, 1024 ≤ j → j < 1056 → appL L F j = F j
theorem keepT.nil : keepT [] := fun _ _ _ _ => rfl
theorem keepT.app {L M : List Act} (h1 : keepT L) (h2 : keepT M) : keepT (L ++ M) := fun F j a b => by rw [appL_app, h2 _ j a b, h1 F j a b]
theorem keepT.rep (F : Nat → Int8) (src : Nat) {dst : Nat} (hd : dst ≠ 4) : keepT (repL F src dst) := by
  intro G j a b
  show appL (copyL F src dst 32 0) (fillF G (dst * 256) 256) j = G j
  rw [appL_copy_out (by omega) 32 0 (by omega)]
  unfold fillF; rw [if_neg (by omega)]
theorem keepT.mark {p : Nat} (x : Int32) (hp : 1056 ≤ p) : keepT (markL p x) := by
  intro G j a b
  show andFn G p _ 8 j = G j
  exact andFn_out _ _ _ (by omega)
theorem keepT.step (F : Nat → Int8) (j kk src : Nat) {dst : Nat} (hd : dst ≠ 4) : keepT (stepL F j kk dst src) := by
  unfold stepL
  by_cases h : mkB F (4 * 256 + (4 + 3 * j + kk) * 8) = true
  · rw [if_pos h]; exact keepT.nil
  · rw [if_neg h]; exact (keepT.rep F src hd).app (keepT.mark _ (by omega))
theorem keepT.three (F : Nat → Int8) {j : Nat} (hj : j < 4) : keepT (threeL j F) := (keepT.step _ _ _ _ (by omega)).app ((keepT.step _ _ _ _ (by omega)).app (keepT.step _ _ _ _ (by omega)))
theorem keepT.ex : ∀ {d : Nat} (F : Nat → Int8), d ≤ 4 → keepT (exL d F) := by
  intro d
  induction d with
  | zero => intro F _; exact keepT.nil
  | succ d ih => intro F hd; rw [exL_s]; exact (keepT.three F (by omega)).app (ih _ (by omega))
theorem keepT.era : keepT [.inl 9] := by
  intro G j a b
  show fillF G (9 * 256) 256 j = G j
  unfold fillF; rw [if_neg (by omega)]
theorem set_keep {L : List Act} (h : keepT L) (F : Nat → Int8) : setN (appL L F) (4 * 256 + 1 * 8) = setN F (4 * 256 + 1 * 8) := setN_c (fun i hi => h F _ (by omega) (by omega))
def dstK (j kk : Nat) : Nat := if kk = 0 then 10 else if kk = 1 then 5 + j else j
def srcK (j kk : Nat) : Nat := if kk = 0 then 5 + j else if kk = 1 then j else 10
def inK (j : Nat) : Nat → Nat → (Nat → Int8) → List Act
  | 0, _, _ => []
  | c + 1, kk, F => stepL F j kk (dstK j kk) (srcK j kk) ++ inK j c (kk + 1) (appL (stepL F j kk (dstK j kk) (srcK j kk)) F)
theorem inK_s (j c kk : Nat) (F : Nat → Int8) : inK j (c + 1) kk F = stepL F j kk (dstK j kk) (srcK j kk) ++ inK j c (kk + 1) (appL (stepL F j kk (dstK j kk) (srcK j kk)) F) := rfl
theorem inK_3 (j : Nat) (F : Nat → Int8) : inK j 3 0 F = threeL j F := by
  show stepL F j 0 10 (5 + j) ++ (stepL _ j 1 (5 + j) j ++ (stepL _ j 2 j 10 ++ [])) = threeL j F
  rw [List.append_nil]; rfl
/-- behind (a) to (c) the trailer's kind is the asked one -/
theorem beg_kind {F : Nat → Int8} {d : Nat} (h1 : 1 ≤ d) (h3 : d ≤ 3) : setN (appL (begL F d) F) (4 * 256 + 1 * 8) = d := by
  unfold begL
  rw [appL_app, appL_app]
  generalize appL (if setN F (9 * 256 + 1 * 8) = d then [] else markL (9 * 256 + 1 * 8) (nI d)) F = G
  have hv : ∀ i, i < 8 → appL (markL (4 * 256 + 1 * 8) (nI d)) (appL [.inl 4] G) (4 * 256 + 1 * 8 + i) = Int32.toInt8 (nI d) := by
    intro i hi
    show andFn (fillF G (4 * 256) 256) (4 * 256 + 1 * 8) (fun _ => Int32.toInt8 (nI d)) 8 (4 * 256 + 1 * 8 + i) = _
    unfold andFn; rw [if_pos (by omega)]
    unfold fillF; rw [if_pos (by omega)]
    show (-1 : Int8) &&& Int32.toInt8 (nI d) = Int32.toInt8 (nI d)
    rcases (show d = 1 ∨ d = 2 ∨ d = 3 by omega) with rfl | rfl | rfl <;> decide
  have h0 := hv 0 (by omega)
  have hb : b8 (Int32.toInt8 (nI d)) = d := by rcases (show d = 1 ∨ d = 2 ∨ d = 3 by omega) with rfl | rfl | rfl <;> decide
  rw [Nat.add_zero] at h0
  unfold setN
  rw [h0, hb, if_pos ⟨h1, h3, decide_eq_true (fun i hi => hv i hi)⟩]
def er5 (w : Nat) : Nat → Nat → List Act
  | 0, _ => []
  | c + 1, k => [.inl (w * 5 + k)] ++ er5 w c (k + 1)
theorem er5_s (w c k : Nat) : er5 w (c + 1) k = [.inl (w * 5 + k)] ++ er5 w c (k + 1) := rfl
theorem er5_5 (w : Nat) : er5 w 5 0 = eraL w := rfl
theorem dueN_5 (F : Nat → Int8) : dueN F = 5 ↔ uwB F = true := by
  have h := askN_le F
  unfold dueN
  by_cases hu : uwB F = true
  · rw [if_pos hu]; exact ⟨fun _ => hu, fun _ => rfl⟩
  · rw [if_neg hu]
    constructor
    · intro q
      exfalso
      split at q
      · omega
      · split at q
        · split at q <;> omega
        · split at q <;> omega
    · intro q; exact absurd q hu
