def fz (tl : Bool) (lf : Nat) : Int32 := if tl = true then nI lf else -1
abbrev gW (g0 g1 g2 g3 g4 g5 g6 g7 g8 g9 g10 g11 g12 g13 : Nat) (cI cB : ClassId) (k : K0) (dr : Nat → Int8) (er pl : Nat → Int32) (un : Nat → Int8) (li : Nat) (ov : Int32) (tp : Nat → Int8) (tn : Nat) (rn : Bool) (vs bo ex wr : Int32) (ei dg : Nat → Int8) (wo : Nat → Int32) (pa : Nat → Int8) (ch fi : Nat → Int32) : va_W :=
  [(g0, .inr (4, [.ref g1, .ref g2, .ref g3, .ref g4, .ref g5, .int (nI li), .int ov, .ref g6, .int (nI tn), .int (bI k.2.2.1), .int (bI rn), .int vs, .int k.2.2.2.2.2.2.1, .int (fz k.2.2.2.1 k.2.2.2.2.1), .int (nI k.2.2.2.2.2.1), .int bo, .int ex, .int wr, .int k.2.2.2.2.2.2.2, .ref g7, .ref g8, .ref g9, .ref g10, .ref g11, .ref g12, .ref g13])),
   (g1, .inl (cB, 2816, .inl (fun j => Int8.toInt32 (k.1 j)))), (g2, .inl (cB, 2816, .inl (fun j => Int8.toInt32 (dr j)))), (g3, .inl (cI, 700, .inl er)), (g4, .inl (cI, 700, .inl pl)), (g5, .inl (cB, 5600, .inl (fun j => Int8.toInt32 (un j)))), (g6, .inl (cB, 1024, .inl (fun j => Int8.toInt32 (tp j)))), (g7, .inl (cI, 11, .inl k.2.1)), (g8, .inl (cB, 8, .inl (fun j => Int8.toInt32 (ei j)))), (g9, .inl (cB, 32, .inl (fun j => Int8.toInt32 (dg j)))), (g10, .inl (cI, 64, .inl wo)), (g11, .inl (cB, 1152, .inl (fun j => Int8.toInt32 (pa j)))), (g12, .inl (cI, 8, .inl ch)), (g13, .inl (cI, 5, .inl fi))]
def actAt (x : Act) (er pl : Nat → Int32) (un : Nat → Int8) (i : Nat) : Prop := match x with
  | .inl j => j < 11 ∧ er i = nI j
  | .inr q => q.1 + 8 ≤ 2816 ∧ er i = -1 ∧ pl i = nI q.1 ∧ ∀ z, z < 8 → un (i * 8 + z) = q.2 z
def lstR (L : List Act) (er pl : Nat → Int32) (un : Nat → Int8) (li : Nat) : Prop := li = L.length ∧ ∀ (i : Nat) (x : Act), L[i]? = some x → actAt x er pl un i
theorem lst_0 (er pl : Nat → Int32) (un : Nat → Int8) : lstR [] er pl un 0 := ⟨rfl, fun i x h => by simp at h⟩
theorem actAt_keep {x : Act} {er pl er1 pl1 : Nat → Int32} {un un1 : Nat → Int8} {i : Nat} (h : actAt x er pl un i) (h1 : er1 i = er i) (h2 : pl1 i = pl i) (h3 : ∀ z, z < 8 → un1 (i * 8 + z) = un (i * 8 + z)) : actAt x er1 pl1 un1 i := by
  cases x with
  | inl j => exact ⟨h.1, h1.trans h.2⟩
  | inr q => exact ⟨h.1, h1.trans h.2.1, h2.trans h.2.2.1, fun z hz => (h3 z hz).trans (h.2.2.2 z hz)⟩
theorem lst_e {L : List Act} {er pl : Nat → Int32} {un : Nat → Int8} {li j : Nat} (h : lstR L er pl un li) (hj : j < 11) : lstR (L ++ [.inl j]) (upd er li (nI j)) (upd pl li (-1)) un (li + 1) := by
  obtain ⟨h1, h2⟩ := h
  refine ⟨by rw [List.length_append, h1]; rfl, fun i x hx => ?_⟩
  rcases Nat.lt_or_ge i L.length with q | q
  · rw [List.getElem?_append_left q] at hx
    exact actAt_keep (h2 i x hx) (pk_un (by omega)) (pk_un (by omega)) (fun z _ => rfl)
  · have hi : i = L.length := by
      have := (List.getElem?_eq_some_iff.mp hx).1
      rw [List.length_append] at this
      have h3 : ([.inl j] : List Act).length = 1 := rfl
      omega
    rw [hi, List.getElem?_append_right (Nat.le_refl _), Nat.sub_self] at hx
    obtain rfl : (.inl j : Act) = x := Option.some.inj hx
    refine ⟨hj, ?_⟩
    rw [hi, h1]; exact pk_us
theorem lst_w {L : List Act} {er pl : Nat → Int32} {un : Nat → Int8} {li p : Nat} {g : Nat → Int8} (h : lstR L er pl un li) (hp : p + 8 ≤ 2816) : lstR (L ++ [.inr (p, g)]) (upd er li (-1)) (upd pl li (nI p)) (dgT un (li * 8) g 8) (li + 1) := by
  obtain ⟨h1, h2⟩ := h
  refine ⟨by rw [List.length_append, h1]; rfl, fun i x hx => ?_⟩
  rcases Nat.lt_or_ge i L.length with q | q
  · rw [List.getElem?_append_left q] at hx
    exact actAt_keep (h2 i x hx) (pk_un (by omega)) (pk_un (by omega)) (fun z hz => by unfold dgT; rw [if_neg (by omega)])
  · have hi : i = L.length := by
      have := (List.getElem?_eq_some_iff.mp hx).1
      rw [List.length_append] at this
      have h3 : ([.inr (p, g)] : List Act).length = 1 := rfl
      omega
    rw [hi, List.getElem?_append_right (Nat.le_refl _), Nat.sub_self] at hx
    obtain rfl : (.inr (p, g) : Act) = x := Option.some.inj hx
    refine ⟨hp, ?_, ?_, fun z hz => ?_⟩
    · rw [hi, h1]; exact pk_us
    · rw [hi, h1]; exact pk_us
    · rw [hi, h1]; unfold dgT
      rw [if_pos (by omega), Nat.add_sub_cancel_left]
theorem andFn_out (F : Nat → Int8) (p : Nat) (g : Nat → Int8) {n j : Nat} (h : j < p ∨ p + n ≤ j) : andFn F p g n j = F j := by unfold andFn; rw [if_neg (by omega)]
theorem dgT_step0 (tb : Nat → Int8) (g : Nat → Int8) (i : Nat) : va_up (dgT tb 0 g i) i (g i) = dgT tb 0 g (i + 1) := by
  have h := dgT_step tb 0 g i
  rw [Nat.zero_add] at h
  exact h
theorem dgT_at (tb : Nat → Int8) (n0 : Nat) (g : Nat → Int8) {n z : Nat} (h : z < n) : dgT tb n0 g n (n0 + z) = g z := by unfold dgT; rw [if_pos (by omega), Nat.add_sub_cancel_left]
def cpF (dr F : Nat → Int8) (i : Nat) : Nat → Int8 := fun j => if j < i then F j else dr j
theorem cpF_0 (dr F : Nat → Int8) : cpF dr F 0 = dr := by funext j; unfold cpF; rw [if_neg (by omega)]
theorem cpF_step (dr F : Nat → Int8) (i : Nat) : va_up (cpF dr F i) i (F i) = cpF dr F (i + 1) := by
  funext j
  unfold va_up cpF
  by_cases h : j = i
  · rw [if_pos h, if_pos (by omega), h]
  · rw [if_neg h]
    by_cases h2 : j < i
    · rw [if_pos h2, if_pos (by omega)]
    · rw [if_neg h2, if_neg (by omega)]
/-- the draft and the memory are the same where there are bytes -/
def eqF (F G : Nat → Int8) : Prop := ∀ j, j < 2816 → F j = G j
theorem unitL_len (p : Nat) (g : Nat → Int8) : (unitL p g).length ≤ 1 := by
  unfold unitL; split
  · exact Nat.zero_le _
  · exact Nat.le_refl _
theorem copyL_len (F : Nat → Int8) (src dst : Nat) : ∀ c u, (copyL F src dst c u).length ≤ c := by
  intro c
  induction c with
  | zero => intro u; exact Nat.le_refl _
  | succ c ih =>
    intro u
    rw [copyL_s, List.length_append]
    have h1 := unitL_len (dst * 256 + u * 8) (unitG F (src * 256 + u * 8) 2816)
    have h2 := ih (u + 1)
    omega
