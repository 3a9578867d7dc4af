theorem xRc {s : State} {D : va_G} {tys : List (ClassId × FieldType)} {ws wc : va_W} {H : Heap} {A' : Nat → Prop} {a n : Nat} {cA : ClassId} {f : Nat → Int32} (hK : va_K D vwCl tys s) (hP : va_P D vwCl ws H) (hD : va_D A' ws) (q0 t0 : Nat) (ha : ws[q0]? = some (a, .inl (cA, n, .inl f))) (ht : tys[t0]? = some (cA, .int)) (isC : List Nat) (hC : isC.map (fun i => ws[i]?) = wc.map some) (hq : q0 ∉ isC) :
    ∀ U : State, U.heap = H → s.WarmedH U.vm → ∀ q ∈ [(a, n, f)], va_T .int q.1 q.2.1 (fun j => .int (q.2.2 j)) (va_A wc H.size) U U.heap := by
  intro U hU hW q hm
  obtain rfl : q = (a, n, f) := List.mem_singleton.mp hm
  rw [hU]
  have hc : H[a]? = some (arrV cA n (fun j => .int (f j))) := hP q0 _ ha
  refine ⟨arrV cA n (fun j => .int (f j)), hc, State.isArrayOf_alike hW.alike ((hK.2 t0 _ ht).1 n (fun j => .int (f j))), (fun q => by cases q), ?_, ?_, fun j hj => arrV_read _ _ hj, ?_⟩
  · rw [arrV_size]; exact Nat.le_refl _
  · rw [arrV_size]
  · intro z
    rcases z with ⟨k, e, h⟩ | h
    · have h1 : (isC.map (fun i => ws[i]?))[k]? = some (some (a, e)) := by rw [hC, List.getElem?_map, h]; rfl
      rw [List.getElem?_map] at h1
      cases hi : isC[k]? with
      | none => rw [hi] at h1; cases h1
      | some i =>
        rw [hi] at h1
        have h2 : ws[i]? = some (a, e) := Option.some.inj h1
        have h3 := hD.1 q0 i _ _ ha h2 rfl
        rw [h3] at hq
        exact hq (List.mem_of_getElem? hi)
    · have h4 : a < H.size := (hP q0 _ ha).lt
      have h5 : H.size ≤ a := h
      omega
theorem nI_decI (k : Nat) : nI k + Int32.ofInt (-1) = nI k - nI 1 := by rw [Int32.sub_eq_add_neg]; rfl
theorem nI_sub1 (k : Nat) : nI (k + 1) - nI 1 = nI k := pk_sub (a := k + 1) (b := 1) (by omega)
theorem nI_neg1 {k : Nat} (hk : k < 2 ^ 30) : nI k - nI 1 < 0 ↔ k = 0 := by
  constructor
  · intro h
    rcases Nat.eq_zero_or_pos k with q | q
    · exact q
    · obtain ⟨j, rfl⟩ : ∃ j, k = j + 1 := ⟨k - 1, by omega⟩
      rw [nI_sub1] at h
      exact absurd h (nI_pos (by omega))
  · intro h; rw [h]; exact pk_sneg (by decide) (by decide)
abbrev tsW (a5 a6 a7 a8 a9 : Nat) (cI : ClassId) (tb : Nat → Int8) (tn : Nat) (sc hs : Nat → Int32) : va_W := [(a5, .inr (2, [.ref a6, .int (nI tn)])), (a6, .inl (cI, 1024, .inl (fun j => ub (tb j)))), (a7, .inr (1, [.ref a8, .ref a9])), (a8, .inl (cI, 64, .inl sc)), (a9, .inl (cI, 8, .inl hs))]
def hiT (tb : Nat → Int8) (tn : Nat) (x : Int32) : Nat → Int8 := va_up (va_up (va_up (va_up tb tn (Int32.toInt8 (x >>> (nI 24 &&& 31)))) (tn + 1) (Int32.toInt8 (x >>> (nI 16 &&& 31)))) (tn + 1 + 1) (Int32.toInt8 (x >>> (nI 8 &&& 31)))) (tn + 1 + 1 + 1) (Int32.toInt8 x)
def loT (tb : Nat → Int8) (tn : Nat) (x : Int32) : Nat → Int8 := va_up (va_up (va_up (va_up tb tn (Int32.toInt8 x)) (tn + 1) (Int32.toInt8 (x >>> (nI 8 &&& 31)))) (tn + 1 + 1) (Int32.toInt8 (x >>> (nI 16 &&& 31)))) (tn + 1 + 1 + 1) (Int32.toInt8 (x >>> (nI 24 &&& 31)))
def shT (tb : Nat → Int8) (len d : Nat) : Nat → Int8 := fun j => if 8 + d ≤ j ∧ j < 8 + len then tb (j - 8) else tb j
theorem shT_0 (tb : Nat → Int8) (len : Nat) : shT tb len len = tb := by funext j; unfold shT; rw [if_neg (by omega)]
theorem shT_step (tb : Nat → Int8) {len d : Nat} (hd : d < len) : va_up (shT tb len (d + 1)) (8 + d) (shT tb len (d + 1) d) = shT tb len d := by
  have h0 : shT tb len (d + 1) d = tb d := by unfold shT; rw [if_neg (by omega)]
  rw [h0]
  funext j
  unfold va_up shT
  by_cases h : j = 8 + d
  · rw [if_pos h, if_pos (by omega), h]; congr 1; omega
  · rw [if_neg h]
    by_cases h2 : 8 + (d + 1) ≤ j ∧ j < 8 + len
    · rw [if_pos h2, if_pos (by omega)]
    · rw [if_neg h2, if_neg (by omega)]
def dgT (tb : Nat → Int8) (n0 : Nat) (g : Nat → Int8) (i : Nat) : Nat → Int8 := fun j => if n0 ≤ j ∧ j < n0 + i then g (j - n0) else tb j
theorem dgT_0 (tb : Nat → Int8) (n0 : Nat) (g : Nat → Int8) : dgT tb n0 g 0 = tb := by funext j; unfold dgT; rw [if_neg (by omega)]
theorem dgT_step (tb : Nat → Int8) (n0 : Nat) (g : Nat → Int8) (i : Nat) : va_up (dgT tb n0 g i) (n0 + i) (g i) = dgT tb n0 g (i + 1) := by
  funext j
  unfold va_up dgT
  by_cases h : j = n0 + i
  · rw [if_pos h, if_pos (by omega), h, Nat.add_sub_cancel_left]
  · rw [if_neg h]
    by_cases h2 : n0 ≤ j ∧ j < n0 + i
    · rw [if_pos h2, if_pos (by omega)]
    · rw [if_neg h2, if_neg (by omega)]
def headT (tb : Nat → Int8) (len : Nat) (v : Int32) : Nat → Int8 := loT (loT (shT tb len 0) 0 (nI len)) 4 v
def imgT (tb : Nat → Int8) (len : Nat) (v : Int32) : Nat → Int8 := dgT (headT tb len v) (8 + len) (digT (sha8 (headT tb len v) 0 (8 + len))) 32
