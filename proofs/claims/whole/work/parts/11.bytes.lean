def bI (b : Bool) : Int32 := if b = true then 1 else 0
theorem bI_0 {b : Bool} : bI b = 0 ↔ b = false := by cases b <;> decide
theorem bI_1 {b : Bool} : ¬ bI b = 0 ↔ b = true := by cases b <;> decide
theorem nbI (b : Bool) : narrow .boolean (.int (bI b)) = .int (bI b) := by cases b <;> rfl
theorem fbI (b : Bool) : fits .boolean (.int (bI b)) = true := by cases b <;> rfl
theorem bI_inj {a b : Bool} : bI a = bI b ↔ a = b := by cases a <;> cases b <;> decide
theorem nI_inc (k n : Nat) : nI k + Int32.ofInt (n : Int) = nI (k + n) := by rw [Int32.ofInt_eq_ofNat]; exact nI_add k n
theorem nI_dec {k : Nat} (h : 1 ≤ k) : nI k + Int32.ofInt (-1) = nI (k - 1) := by
  obtain ⟨j, rfl⟩ : ∃ j, k = j + 1 := ⟨k - 1, by omega⟩
  exact pk_m1 j
/-- a byte as the class holds it -/
def ub (b : Int8) : Int32 := Int8.toInt32 b &&& 255
theorem ub_nat (b : Int8) : ub b = nI b.toBitVec.toNat := by
  have key : ∀ n : Fin 256, (Int8.ofBitVec (BitVec.ofFin n)).toInt32 &&& 255 = nI n.val := by decide +kernel
  have h := key ⟨b.toBitVec.toNat, b.toBitVec.isLt⟩
  exact h
theorem ub_inj {a b : Int8} : ub a = ub b ↔ a = b := by
  rw [ub_nat, ub_nat, nI_eq (Nat.lt_trans a.toBitVec.isLt (by decide)) (Nat.lt_trans b.toBitVec.isLt (by decide))]
  constructor
  · intro h; exact Int8.toBitVec_inj.mp (BitVec.eq_of_toNat_eq h)
  · intro h; rw [h]
theorem ub_m1 : ub (-1) = nI 255 := by decide
theorem ub_of (x : Int32) : x &&& nI 255 = ub (Int32.toInt8 x) := by
  unfold ub
  apply Int32.toBitVec_inj.mp
  rw [Int32.toBitVec_and, Int32.toBitVec_and, Int8.toBitVec_toInt32, Int32.toBitVec_toInt8]
  apply BitVec.eq_of_getLsbD_eq
  intro i hi
  rw [BitVec.getLsbD_and, BitVec.getLsbD_and]
  have h255 : (nI 255).toBitVec.getLsbD i = decide (i < 8) := by
    have key : ∀ j : Fin 32, (nI 255).toBitVec.getLsbD j.val = decide (j.val < 8) := by decide +kernel
    exact key ⟨i, hi⟩
  have h255' : (255 : Int32).toBitVec.getLsbD i = decide (i < 8) := h255
  rw [h255, h255']
  by_cases h8 : i < 8
  · rw [BitVec.getLsbD_signExtend, if_pos h8, BitVec.getLsbD_signExtend, if_pos (show i < 32 from hi)]
    simp [h8, hi]
  · simp [h8]
theorem ub_and (a : Int8) (x : Int32) : ub a &&& x = ub (a &&& Int32.toInt8 x) := by
  have h1 : ub (a &&& Int32.toInt8 x) = ub (Int32.toInt8 (Int8.toInt32 a &&& x)) := by
    rw [Int32.toInt8_and]; congr 2; simp
  rw [h1, ← ub_of]
  show Int8.toInt32 a &&& 255 &&& x = Int8.toInt32 a &&& x &&& 255
  rw [Int32.and_assoc, Int32.and_assoc, Int32.and_comm 255 x]
theorem sb_and (a b : Int8) : Int8.toInt32 a &&& Int8.toInt32 b = Int8.toInt32 (a &&& b) := (Int8.toInt32_and a b).symm
theorem sb_8 (b : Int8) : Int32.toInt8 (Int8.toInt32 b) = b := by simp
theorem sb_i2b (b : Int8) : (Int8.toInt32 b).toInt8.toInt32 = Int8.toInt32 b := by rw [sb_8]
theorem sb_inj {a b : Int8} : Int8.toInt32 a = Int8.toInt32 b ↔ a = b := by
  constructor
  · intro h; rw [← sb_8 a, ← sb_8 b, h]
  · intro h; rw [h]
theorem ub_8 (b : Int8) : Int32.toInt8 (ub b) = b := by
  unfold ub
  rw [Int32.toInt8_and, sb_8]
  have h : (255 : Int32).toInt8 = -1 := by decide
  rw [h]; simp
theorem va_P0 (D : va_G) (H : Heap) : va_P D vwCl [] H := fun k q h => by simp at h
theorem va_D0 : va_D (fun _ => True) [] := ⟨fun i j p q h => by simp at h, fun k q h => by simp at h⟩
section XA
variable {p : Program} {l : Launch} {e : Env} {R : Room} {s : State} {m : MethodId} {args : Array Value} {below : List Frame} {meth : Method} {c : Code} {H : Heap} {locs : List Loc} {cells slots : Nat} {Q : State → Prop}
variable {cc : ByteArray} {pc : Nat} {ls : Array Slot} {rest : List Value} {D : va_G} {cl : List vw_C} {tys : List (ClassId × FieldType)} {ws : va_W} {A A0 : Nat → Prop} {H0 : Heap} {a : Nat}
theorem x_iald (hexec : p.tables.exec = Jvm.exec) (hb : c.code = cc) (hK : va_K D cl tys s) (hP : va_P D cl ws H) (q0 t0 : Nat) {cA : ClassId} {n : Nat} {f : Nat → Int32} (ha : ws[q0]? = some (a, .inl (cA, n, .inl f))) (ht : tys[t0]? = some (cA, .int)) {k : Nat} (hin : k < n) (hn : n < 2 ^ 31) (hdg : decode cc pc = .ok (.iaload, 1))
    (kk : W p l e R s m args below meth c H locs cells slots Q (F0 m (pc + 1) ls (.int (f k) :: rest))) : W p l e R s m args below meth c H locs cells slots Q (F0 m pc ls (.int (nI k) :: .ref a :: rest)) := by
  refine va_iald hexec hb hK hP q0 t0 ha ht (vp_in_nI hin hn) hdg ?_
  rw [nI_clamp (by omega)]; exact kk
theorem x_bald (hexec : p.tables.exec = Jvm.exec) (hb : c.code = cc) (hK : va_K D cl tys s) (hP : va_P D cl ws H) (q0 t0 : Nat) {cA : ClassId} {n : Nat} {f : Nat → Int32} (ha : ws[q0]? = some (a, .inl (cA, n, .inl f))) (ht : tys[t0]? = some (cA, .byte)) {k : Nat} (hin : k < n) (hn : n < 2 ^ 31) (hdg : decode cc pc = .ok (.baload, 1))
    (kk : W p l e R s m args below meth c H locs cells slots Q (F0 m (pc + 1) ls (.int (f k) :: rest))) : W p l e R s m args below meth c H locs cells slots Q (F0 m pc ls (.int (nI k) :: .ref a :: rest)) := by
  refine va_bald hexec hb hK hP q0 t0 ha ht (vp_in_nI hin hn) hdg ?_
  rw [nI_clamp (by omega)]; exact kk
theorem x_ti (hexec : p.tables.exec = Jvm.exec) (hb : c.code = cc) {t n : Nat} {f : Nat → Int32} (hT : va_T .int t n (fun j => .int (f j)) A s s.heap) (hS : va_S A s.heap H locs) {k : Nat} (hin : k < n) (hn : n < 2 ^ 31) (hdg : decode cc pc = .ok (.iaload, 1))
    (kk : W p l e R s m args below meth c H locs cells slots Q (F0 m (pc + 1) ls (.int (f k) :: rest))) : W p l e R s m args below meth c H locs cells slots Q (F0 m pc ls (.int (nI k) :: .ref t :: rest)) := by
  refine va_ti hexec hb hT hS (vp_in_nI hin hn) (v := .int (f k)) (by rw [nI_clamp (by omega)]) hdg kk
theorem x_iast (hexec : p.tables.exec = Jvm.exec) (hb : c.code = cc) (hK : va_K D cl tys s) (hP : va_P D cl ws H) (hD : va_D A ws) (hS : va_S A H0 H locs) (q0 t0 : Nat) {cA : ClassId} {n : Nat} {f : Nat → Int32} (ha : ws[q0]? = some (a, .inl (cA, n, .inl f))) (ht : tys[t0]? = some (cA, .int)) {k : Nat} {x : Int32} (hin : k < n) (hn : n < 2 ^ 31) (hdg : decode cc pc = .ok (.iastore, 1))
    (kk : ∀ (H1 : Heap) (locs1 : List Loc), va_P D cl (ws.set q0 (a, .inl (cA, n, .inl (upd f k x)))) H1 → va_D A (ws.set q0 (a, .inl (cA, n, .inl (upd f k x)))) → va_S A H0 H1 locs1 → W p l e R s m args below meth c H1 locs1 cells slots Q (F0 m (pc + 1) ls rest)) : W p l e R s m args below meth c H locs cells slots Q (F0 m pc ls (.int x :: .int (nI k) :: .ref a :: rest)) := by
  refine va_iast hexec hb hK hP hD hS q0 t0 ha ht (vp_in_nI hin hn) hdg ?_
  rw [nI_clamp (by omega)]; exact kk
/-- a byte into a row of the class -/
theorem x_ust (hexec : p.tables.exec = Jvm.exec) (hb : c.code = cc) (hK : va_K D cl tys s) (hP : va_P D cl ws H) (hD : va_D A ws) (hS : va_S A H0 H locs) (q0 t0 : Nat) {cA : ClassId} {n : Nat} {F : Nat → Int8} (ha : ws[q0]? = some (a, .inl (cA, n, .inl (fun j => ub (F j))))) (ht : tys[t0]? = some (cA, .int)) {k : Nat} {x : Int8} (hin : k < n) (hn : n < 2 ^ 31) (hdg : decode cc pc = .ok (.iastore, 1))
    (kk : ∀ (H1 : Heap) (locs1 : List Loc), va_P D cl (ws.set q0 (a, .inl (cA, n, .inl (fun j => ub (va_up F k x j))))) H1 → va_D A (ws.set q0 (a, .inl (cA, n, .inl (fun j => ub (va_up F k x j))))) → va_S A H0 H1 locs1 → W p l e R s m args below meth c H1 locs1 cells slots Q (F0 m (pc + 1) ls rest)) : W p l e R s m args below meth c H locs cells slots Q (F0 m pc ls (.int (ub x) :: .int (nI k) :: .ref a :: rest)) := by
  have he : (fun j => ub (va_up F k x j)) = upd (fun j => ub (F j)) k (ub x) := by
    funext j; unfold va_up upd; by_cases h : j = k <;> simp [h]
  rw [he] at kk
  exact x_iast hexec hb hK hP hD hS q0 t0 ha ht hin hn hdg kk
/-- a byte into a row of the reference -/
theorem x_sst (hexec : p.tables.exec = Jvm.exec) (hb : c.code = cc) (hK : va_K D cl tys s) (hP : va_P D cl ws H) (hD : va_D A ws) (hS : va_S A H0 H locs) (q0 t0 : Nat) {cA : ClassId} {n : Nat} {F : Nat → Int8} (ha : ws[q0]? = some (a, .inl (cA, n, .inl (fun j => Int8.toInt32 (F j))))) (ht : tys[t0]? = some (cA, .byte)) {k : Nat} {x : Int8} (hin : k < n) (hn : n < 2 ^ 31) (hdg : decode cc pc = .ok (.bastore, 1))
    (kk : ∀ (H1 : Heap) (locs1 : List Loc), va_P D cl (ws.set q0 (a, .inl (cA, n, .inl (fun j => Int8.toInt32 (va_up F k x j))))) H1 → va_D A (ws.set q0 (a, .inl (cA, n, .inl (fun j => Int8.toInt32 (va_up F k x j))))) → va_S A H0 H1 locs1 → W p l e R s m args below meth c H1 locs1 cells slots Q (F0 m (pc + 1) ls rest)) : W p l e R s m args below meth c H locs cells slots Q (F0 m pc ls (.int (Int8.toInt32 x) :: .int (nI k) :: .ref a :: rest)) := by
  have he : (fun j => Int8.toInt32 (va_up F k x j)) = upd (fun j => Int8.toInt32 (F j)) k (vp_nar .byte (Int8.toInt32 x)) := by
    funext j; unfold va_up upd; rw [vp_nar_byte, sb_8]; by_cases h : j = k <;> simp [h]
  rw [he] at kk
  refine va_bast hexec hb hK hP hD hS q0 t0 ha ht (vp_in_nI hin hn) hdg ?_
  rw [nI_clamp (by omega)]; exact kk
/-- a loop -/
theorem x_loop {σ : Type} {st : List Value} {nL : Nat} (Wd : σ → va_W) (Lv : σ → List (Nat × Value)) (I : σ → Prop) (μ : σ → Nat)
    (step : ∀ (x : σ) (H : Heap) (locs : List Loc) (ls : Array Slot), I x → va_P D cl (Wd x) H → va_D A (Wd x) → va_S A0 H0 H locs → lv_has ls nL (Lv x) →
      (∀ (y : σ) (H1 : Heap) (locs1 : List Loc) (ls1 : Array Slot), I y → μ y < μ x → va_P D cl (Wd y) H1 → va_D A (Wd y) → va_S A0 H0 H1 locs1 → lv_has ls1 nL (Lv y) → W p l e R s m args below meth c H1 locs1 cells slots Q (F0 m pc ls1 st)) →
      W p l e R s m args below meth c H locs cells slots Q (F0 m pc ls st))
    (x0 : σ) (h0 : I x0) (hP : va_P D cl (Wd x0) H) (hD : va_D A (Wd x0)) (hS : va_S A0 H0 H locs) (hl : lv_has ls nL (Lv x0)) : W p l e R s m args below meth c H locs cells slots Q (F0 m pc ls st) := by
  have key : ∀ (n : Nat) (x : σ) (H : Heap) (locs : List Loc) (ls : Array Slot), μ x < n → I x → va_P D cl (Wd x) H → va_D A (Wd x) → va_S A0 H0 H locs → lv_has ls nL (Lv x) → W p l e R s m args below meth c H locs cells slots Q (F0 m pc ls st) := by
    intro n
    induction n with
    | zero => intro x H locs ls h; omega
    | succ n ih =>
      intro x H locs ls hm hI hP hD hS hl
      exact step x H locs ls hI hP hD hS hl (fun y H1 locs1 ls1 hI1 hm1 hP1 hD1 hS1 hl1 => ih y H1 locs1 ls1 (by omega) hI1 hP1 hD1 hS1 hl1)
  exact key (μ x0 + 1) x0 H locs ls (Nat.lt_succ_self _) h0 hP hD hS hl
end XA
