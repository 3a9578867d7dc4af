def wdF (wo : Nat → Int32) (pa : Nat → Int8) (q i : Nat) : Nat → Int32 := fun j => if j < i then pw pa (q + j * 4) 4 else wo j
def wN (wo : Nat → Int32) (pa : Nat → Int8) (q i : Nat) : Nat → Int32 := if i ≤ 16 then wdF wo pa q i else stN (wdF wo pa q 16) (i - 16)
theorem wN_0 (wo : Nat → Int32) (pa : Nat → Int8) (q : Nat) : wN wo pa q 0 = wo := by
  unfold wN; rw [if_pos (by omega)]; funext j; unfold wdF; rw [if_neg (by omega)]
theorem wN_hi (wo : Nat → Int32) (pa : Nat → Int8) (q : Nat) {i : Nat} (h : 16 ≤ i) : wN wo pa q i = stN (wdF wo pa q 16) (i - 16) := by
  unfold wN
  by_cases h2 : i ≤ 16
  · obtain rfl : i = 16 := by omega
    rw [if_pos h2]; rfl
  · rw [if_neg h2]
theorem wN_a (wo : Nat → Int32) (pa : Nat → Int8) (q : Nat) {i : Nat} (h : i < 16) : upd (wN wo pa q i) i (pw pa (q + i * 4) 4) = wN wo pa q (i + 1) := by
  unfold wN; rw [if_pos (by omega), if_pos (by omega)]
  funext j
  unfold upd wdF
  by_cases h2 : j = i
  · rw [if_pos h2, if_pos (by omega), h2]
  · rw [if_neg h2]
    by_cases h3 : j < i
    · rw [if_pos h3, if_pos (by omega)]
    · rw [if_neg h3, if_neg (by omega)]
theorem wN_b (wo : Nat → Int32) (pa : Nat → Int8) (q : Nat) {i : Nat} (h : 16 ≤ i) : upd (wN wo pa q i) i (((wN wo pa q i (i - 16) + wN wo pa q i (i - 7)) + sS0 (wN wo pa q i (i - 15))) + sS1 (wN wo pa q i (i - 2))) = wN wo pa q (i + 1) := by
  rw [wN_hi wo pa q (i := i + 1) (by omega), wN_hi wo pa q h, show i + 1 - 16 = (i - 16) + 1 by omega, stN_s, show 16 + (i - 16) = i by omega]
  unfold stI
  congr 1
  generalize stN (wdF wo pa q 16) (i - 16) = f
  generalize f (i - 16) = a
  generalize f (i - 7) = b
  generalize sS0 (f (i - 15)) = c
  generalize sS1 (f (i - 2)) = d
  rw [Int32.add_comm (a + b + c) d, Int32.add_comm (d + b + c) a, Int32.add_assoc a b c, Int32.add_assoc d b c, ← Int32.add_assoc d a, ← Int32.add_assoc a d, Int32.add_comm d a]
def lnF (pa : Nat → Int8) (sz : Nat) (x : Int32) (i : Nat) : Nat → Int8 := fun j => if sz - i ≤ j ∧ j < sz then Int32.toInt8 (x >>> (nI ((sz - 1 - j) * 8) &&& 31)) else pa j
theorem lnF_0 (pa : Nat → Int8) (sz : Nat) (x : Int32) : lnF pa sz x 0 = pa := by funext j; unfold lnF; rw [if_neg (by omega)]
theorem lnF_step (pa : Nat → Int8) (sz : Nat) (x : Int32) {i : Nat} (h : i < sz) : va_up (lnF pa sz x i) (sz - 1 - i) (Int32.toInt8 (x >>> (nI (i * 8) &&& 31))) = lnF pa sz x (i + 1) := by
  funext j
  unfold va_up lnF
  by_cases h2 : j = sz - 1 - i
  · rw [if_pos h2, if_pos (by omega), show sz - 1 - j = i by omega]
  · rw [if_neg h2]
    by_cases h3 : sz - i ≤ j ∧ j < sz
    · rw [if_pos h3, if_pos (by omega)]
    · rw [if_neg h3, if_neg (by omega)]
theorem pw_c {f g : Nat → Int8} {q : Nat} : ∀ n, (∀ z, z < n → f (q + z) = g (q + z)) → pw f q n = pw g q n := by
  intro n
  induction n with
  | zero => intro _; rfl
  | succ n ih => intro h; rw [pw_s, pw_s, ih (fun z hz => h z (by omega)), h n (by omega)]
/-- the reference's padded row has the class's words -/
theorem msg_w {G pa : Nat → Int8} {fi len b j : Nat} (hb : b < (len + 8) / 64 + 1) (hj : j < 16) : pw (lnF (cpF pa (pad8 G fi len) (((len + 8) / 64 + 1) * 64)) (((len + 8) / 64 + 1) * 64) (nI (len * 8)) 4) (b * 64 + j * 4) 4 = msgW G fi len b j := by
  unfold msgW
  by_cases h : b = (len + 8) / 64 ∧ j = 15
  · rw [if_pos h, Nat.mul_comm 8 len]
    obtain ⟨h1, h2⟩ := h
    apply pw_num
    · unfold lnF; rw [if_pos (by omega), show ((len + 8) / 64 + 1) * 64 - 1 - (b * 64 + j * 4) = 3 by omega]
    · unfold lnF; rw [if_pos (by omega), show ((len + 8) / 64 + 1) * 64 - 1 - (b * 64 + j * 4 + 1) = 2 by omega]
    · unfold lnF; rw [if_pos (by omega), show ((len + 8) / 64 + 1) * 64 - 1 - (b * 64 + j * 4 + 2) = 1 by omega]
    · unfold lnF; rw [if_pos (by omega), show ((len + 8) / 64 + 1) * 64 - 1 - (b * 64 + j * 4 + 3) = 0 by omega]
  · rw [if_neg h, Nat.mul_comm 4 j]
    apply pw_c
    intro z hz
    have hlt : b * 64 + j * 4 + z < ((len + 8) / 64 + 1) * 64 - 4 := by omega
    unfold lnF; rw [if_neg (by omega)]
    unfold cpF; rw [if_pos (by omega)]
theorem dig_sh (ch : Nat → Int32) {i : Nat} (hi : i < 32) : Int32.toInt8 (ch (i / 4) >>> (nI (24 - i % 4 * 8) &&& 31)) = digT (of8 ch) i := by
  rw [dg_sh _ (by omega), digT, sel8_of ch (by omega), Nat.mul_comm 8 (i % 4)]
