def trn (w : Int32) (p : Nat) : Int32 := (Int32.toUInt32 w >>> (Int32.toUInt32 (nI p) &&& Int32.toUInt32 31)).toInt32 ||| (w <<< (nI (32 - p) &&& 31))
def ushr (w : Int32) (p : Nat) : Int32 := (Int32.toUInt32 w >>> (Int32.toUInt32 (nI p) &&& Int32.toUInt32 31)).toInt32
def pad8 (G : Nat → Int8) (fi len q : Nat) : Int8 := if q = len then -128 else if q < len then G (fi + q) else 0
/-- a word out of n bytes, the highest first -/
def pw (f : Nat → Int8) (q : Nat) : Nat → Int32
  | 0 => nI 0
  | n + 1 => (pw f q n <<< (nI 8 &&& 31)) ||| ub (f (q + n))
theorem pw_s (f : Nat → Int8) (q n : Nat) : pw f q (n + 1) = (pw f q n <<< (nI 8 &&& 31)) ||| ub (f (q + n)) := rfl
def sS1 (x : Int32) : Int32 := (trn x 17 ^^^ trn x 19) ^^^ ushr x 10
def sS0 (x : Int32) : Int32 := (trn x 7 ^^^ trn x 18) ^^^ ushr x 3
def stI (f : Nat → Int32) (t : Nat) : Nat → Int32 := upd f t (((sS1 (f (t - 2)) + f (t - 7)) + sS0 (f (t - 15))) + f (t - 16))
def stN (f : Nat → Int32) : Nat → (Nat → Int32)
  | 0 => f
  | n + 1 => stI (stN f n) (16 + n)
theorem stN_s (f : Nat → Int32) (n : Nat) : stN f (n + 1) = stI (stN f n) (16 + n) := rfl
theorem stN_c {f g : Nat → Int32} (h : ∀ j, j < 16 → f j = g j) : ∀ n j, j < 16 + n → stN f n j = stN g n j := by
  intro n
  induction n with
  | zero => intro j hj; exact h j (by omega)
  | succ n ih =>
    intro j hj
    rw [stN_s, stN_s]
    unfold stI upd
    by_cases q : j = 16 + n
    · rw [if_pos q, if_pos q, ih (16 + n - 2) (by omega), ih (16 + n - 7) (by omega), ih (16 + n - 15) (by omega), ih (16 + n - 16) (by omega)]
    · rw [if_neg q, if_neg q]; exact ih j (by omega)
abbrev T8 : Type := Int32 × Int32 × Int32 × Int32 × Int32 × Int32 × Int32 × Int32
def of8 (h : Nat → Int32) : T8 := (h 0, h 1, h 2, h 3, h 4, h 5, h 6, h 7)
def bS1 (x : Int32) : Int32 := (trn x 6 ^^^ trn x 11) ^^^ trn x 25
def bS0 (x : Int32) : Int32 := (trn x 2 ^^^ trn x 13) ^^^ trn x 22
def one1 (ve vf vg vh kk w : Int32) : Int32 := (((vh + bS1 ve) + ((ve &&& vf) ^^^ ((ve ^^^ (-1)) &&& vg))) + kk) + w
def two1 (va vb vc : Int32) : Int32 := bS0 va + (((va &&& vb) ^^^ (va &&& vc)) ^^^ (vb &&& vc))
def mx1 (kk w : Int32) (x : T8) : T8 := (one1 x.2.2.2.2.1 x.2.2.2.2.2.1 x.2.2.2.2.2.2.1 x.2.2.2.2.2.2.2 kk w + two1 x.1 x.2.1 x.2.2.1, x.1, x.2.1, x.2.2.1, x.2.2.2.1 + one1 x.2.2.2.2.1 x.2.2.2.2.2.1 x.2.2.2.2.2.2.1 x.2.2.2.2.2.2.2 kk w, x.2.2.2.2.1, x.2.2.2.2.2.1, x.2.2.2.2.2.2.1)
def mixN (sc : Nat → Int32) : Nat → T8 → T8
  | 0, x => x
  | n + 1, x => mx1 (tbR n) (sc n) (mixN sc n x)
theorem mixN_s (sc : Nat → Int32) (n : Nat) (x : T8) : mixN sc (n + 1) x = mx1 (tbR n) (sc n) (mixN sc n x) := rfl
theorem mixN_c {f g : Nat → Int32} (x : T8) : ∀ n, (∀ j, j < n → f j = g j) → mixN f n x = mixN g n x := by
  intro n
  induction n with
  | zero => intro _; rfl
  | succ n ih => intro h; rw [mixN_s, mixN_s, ih (fun j hj => h j (by omega)), h n (by omega)]
def addH (h : Nat → Int32) (v : T8) : Nat → Int32 := upd (upd (upd (upd (upd (upd (upd (upd h 0 (h 0 + v.1)) 1 (h 1 + v.2.1)) 2 (h 2 + v.2.2.1)) 3 (h 3 + v.2.2.2.1)) 4 (h 4 + v.2.2.2.2.1)) 5 (h 5 + v.2.2.2.2.2.1)) 6 (h 6 + v.2.2.2.2.2.2.1)) 7 (h 7 + v.2.2.2.2.2.2.2)
def add8 (a b : T8) : T8 := (a.1 + b.1, a.2.1 + b.2.1, a.2.2.1 + b.2.2.1, a.2.2.2.1 + b.2.2.2.1, a.2.2.2.2.1 + b.2.2.2.2.1, a.2.2.2.2.2.1 + b.2.2.2.2.2.1, a.2.2.2.2.2.2.1 + b.2.2.2.2.2.2.1, a.2.2.2.2.2.2.2 + b.2.2.2.2.2.2.2)
theorem of8_add (h : Nat → Int32) (v : T8) : of8 (addH h v) = add8 (of8 h) v := rfl
def w16 (g : Nat → Int32) : Nat → Int32 := fun j => if j < 16 then g j else 0
/-- the chain behind b blocks -/
def shaC (f : Nat → Nat → Int32) : Nat → T8
  | 0 => of8 tbF
  | b + 1 => add8 (shaC f b) (mixN (stN (w16 (f b)) 48) 64 (shaC f b))
theorem shaC_s (f : Nat → Nat → Int32) (b : Nat) : shaC f (b + 1) = add8 (shaC f b) (mixN (stN (w16 (f b)) 48) 64 (shaC f b)) := rfl
theorem shaC_step {f : Nat → Nat → Int32} {b : Nat} {sc hs : Nat → Int32} (h : of8 hs = shaC f b) (hw : ∀ j, j < 16 → sc j = f b j) : of8 (addH hs (mixN (stN sc 48) 64 (of8 hs))) = shaC f (b + 1) := by
  have hm : mixN (stN sc 48) 64 (shaC f b) = mixN (stN (w16 (f b)) 48) 64 (shaC f b) := mixN_c _ 64 (fun j hj => stN_c (fun i hi => by rw [hw i hi]; unfold w16; rw [if_pos hi]) 48 j (by omega))
  rw [of8_add, shaC_s, h, hm]
theorem of8_F {hs : Nat → Int32} (h : ∀ j, j < 8 → hs j = tbF j) : of8 hs = of8 tbF := by
  unfold of8
  rw [h 0 (by omega), h 1 (by omega), h 2 (by omega), h 3 (by omega), h 4 (by omega), h 5 (by omega), h 6 (by omega), h 7 (by omega)]
/-- the words of a message's blocks -/
def msgW (G : Nat → Int8) (fi len : Nat) : Nat → Nat → Int32 := fun b j => if b = (len + 8) / 64 ∧ j = 15 then nI (8 * len) else pw (pad8 G fi len) (b * 64 + 4 * j) 4
def sel8 (v : T8) (i : Nat) : Int32 := match i with
  | 0 => v.1
  | 1 => v.2.1
  | 2 => v.2.2.1
  | 3 => v.2.2.2.1
  | 4 => v.2.2.2.2.1
  | 5 => v.2.2.2.2.2.1
  | 6 => v.2.2.2.2.2.2.1
  | _ => v.2.2.2.2.2.2.2
theorem sel8_of (h : Nat → Int32) {i : Nat} (hi : i < 8) : sel8 (of8 h) i = h i := by
  rcases (show i = 0 ∨ i = 1 ∨ i = 2 ∨ i = 3 ∨ i = 4 ∨ i = 5 ∨ i = 6 ∨ i = 7 by omega) with rfl | rfl | rfl | rfl | rfl | rfl | rfl | rfl <;> rfl
/-- the digest of a message, byte by byte -/
def digT (v : T8) (i : Nat) : Int8 := Int32.toInt8 (ushr (sel8 v (i / 4)) (24 - 8 * (i % 4)))
def sha8 (G : Nat → Int8) (fi len : Nat) : T8 := shaC (msgW G fi len) ((len + 8) / 64 + 1)
