section XNW
variable {p : Program} {l : Launch} {e : Env} {R : Room} {s : State} {m : MethodId} {args : Array Value} {below : List Frame} {meth : Method} {c : Code} {H : Heap} {locs : List Loc} {cells slots : Nat} {Q : State → Prop}
variable {cc : ByteArray} {pc : Nat} {ls : Array Slot} {rest : List Value} {D : va_G} {cl : List vw_C} {tys : List (ClassId × FieldType)} {ws : va_W} {A : Nat → Prop} {H0 : Heap} {cA : ClassId}
theorem x_newa (hexec : p.tables.exec = Jvm.exec) (hb : c.code = cc) {atype : ArrayType} {ty : FieldType} (harr : (Cond.arrayClass (newarray.typeOf atype)).before args s = true) (hty : newarray.typeOf atype = ty) (hra : ∀ c1 c2 : ClassId, va_RA s c1 ty → va_RA s c2 ty → c1 = c2) (hK : va_K D cl tys s) (t0 : Nat) (ht : tys[t0]? = some (cA, ty)) (hP : va_P D cl ws H) (hD : va_D A ws) (hS : va_S A H0 H locs) (hA : ∀ q, H0.size ≤ q → A q)
    {n : Nat} {a0 : vp_A} (ha : ∀ cA : ClassId, vp_cell cA a0 = arrV cA n (fun _ => defaultValue ty)) (hn : n < 2 ^ 31) (hbytes : n * componentBytes ty ≤ 536870912) (hcells : cells + 1 ≤ R.cells) (hslots : slots + n ≤ R.slots) (hdg : decode cc pc = .ok (.newarray atype, 2))
    (kk : ∀ (q : Nat) (H1 : Heap), va_P D cl (ws ++ [(q, .inl (cA, a0))]) H1 → va_D A (ws ++ [(q, .inl (cA, a0))]) → va_S A H0 H1 locs → W p l e R s m args below meth c H1 locs (cells + 1) (slots + n) Q (F0 m (pc + 2) ls (.ref q :: rest))) : W p l e R s m args below meth c H locs cells slots Q (F0 m pc ls (.int (nI n) :: rest)) := by
  refine va_newa hexec hb harr hty hK hP hD hS hA ha (nI_pos hn) (nI_clamp hn) hbytes hcells hslots hdg (fun q cB H1 hK1 hP1 hD1 hS1 => ?_)
  have h1 : (tys ++ [(cB, ty)])[tys.length]? = some (cB, ty) := by rw [List.getElem?_append_right (Nat.le_refl _), Nat.sub_self]; rfl
  have e1 : cB = cA := hra cB cA (hK1.2 _ _ h1).2 (hK.2 t0 _ ht).2
  subst e1
  exact kk q H1 hP1 hD1 hS1
end XNW
theorem ra_i {s : State} : ∀ c1 c2 : ClassId, va_RA s c1 .int → va_RA s c2 .int → c1 = c2 := fun _ _ a b => Option.some.inj (Eq.trans (Eq.symm a) b)
theorem ra_b {s : State} : ∀ c1 c2 : ClassId, va_RA s c1 .byte → va_RA s c2 .byte → c1 = c2 := fun _ _ a b => Option.some.inj (Eq.trans (Eq.symm a) b)
theorem ub_zero : (fun _ : Nat => (0 : Int32)) = fun j => ub ((fun _ : Nat => (0 : Int8)) j) := by funext j; show (0 : Int32) = ub 0; decide
theorem sb_zero : (fun _ : Nat => (0 : Int32)) = fun j => Int8.toInt32 ((fun _ : Nat => (0 : Int8)) j) := by funext j; show (0 : Int32) = Int8.toInt32 0; decide
theorem ub_new (n : Nat) : ∀ cA : ClassId, vp_cell cA (n, .inl (fun j => ub ((fun _ : Nat => (0 : Int8)) j))) = arrV cA n (fun _ => defaultValue .int) := fun cA => by rw [← ub_zero]; rfl
theorem sb_new (n : Nat) : ∀ cA : ClassId, vp_cell cA (n, .inl (fun j => Int8.toInt32 ((fun _ : Nat => (0 : Int8)) j))) = arrV cA n (fun _ => defaultValue .byte) := fun cA => by rw [← sb_zero]; rfl
theorem in_new (n : Nat) : ∀ cA : ClassId, vp_cell cA (n, .inl (fun _ => 0)) = arrV cA n (fun _ => defaultValue .int) := fun cA => rfl
theorem fillI_step (F : Nat → Int8) (i : Nat) : va_up (fillF F 0 i) i (-1) = fillF F 0 (i + 1) := by
  have h := fillF_step F 0 i
  rw [Nat.zero_add] at h
  exact h
abbrev F00 : Nat → Int8 := fillF (fun _ => 0) 0 2816
abbrev K00 : K0 := (F00, (fun _ => 0), false, false, 0, 0, 0, 0)
