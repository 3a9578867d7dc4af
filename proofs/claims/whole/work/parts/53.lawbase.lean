/-! THE CLAIM OUT OF ONE WALK OF THE LAW'S BODY. Your part is whole_start (and what it stands on); all else here is the same for every law, but numbers. -/
def R_law : String := "ScratchSwapLaw"
def lw_P (b : Addr) (xs : List Int32) (args : Array Value) (s : State) : Prop := args = #[.ref b] ∧ s.IntsAt b xs ∧ xs.length ≤ 3072 ∧ (Jvm.Cond.and given_1 narrow_1).before args s = true
def lw_Q (_ : Array Value) (s : State) (o : Outcome) (t : State) : Prop := o = .returned (some (.int 1)) ∧ Framed s o t [] 24 18914
def lw_Z (below : List Frame) (a : Array Value) (s : State) : State → Prop := fun t => ∃ o, t.status = .running ∧ Ended t below o ∧ lw_Q a s o t
/-- the law's own end, with 1 on the stack, nothing written that was there before, its room as the claim has it -/
theorem lw_ret {p : Program} {l : Launch} {e : Env} {s : State} {m : MethodId} {below : List Frame} {meth : Method} {c : Code} {b : Nat} (hx : p.tables.exec = Jvm.exec) (hb : c.code = code) (hr : meth.sig.returnType = ret) (hlocks : meth.locks = false) {pc : Nat} {H : Heap} {ls : Array Slot} (hdg : decode code pc = .ok (.ireturn, 1)) : W p l e room_1 s m #[Value.ref b] below meth c H [] 24 18914 (lw_Z below #[Value.ref b] s) (F0 m pc ls [.int 1]) := by
  intro T hT X
  obtain ⟨fs, hret, hrun, hended, hW, hframe⟩ := X.leave (v := some (.int 1)) (hlocks := hlocks) (fun h => by rw [hr] at h; cases h)
  have hmeth' : T.vm.method? m = some meth := X.method'
  refine ⟨T.setFrames fs, ?_, .returned (some (.int 1)), hrun, hended, rfl, ⟨_, rfl⟩, hW, hframe⟩
  jvm_step X.here [X.here.top, hx, hb, hdg, hmeth', hr, ret, narrow_b1]
  (try refine ⟨rfl, ?_⟩); (try refine ⟨rfl, ?_⟩)
  first | (intro acts; rw [hret _ acts rfl rfl rfl]) | rw [hret _ _ rfl rfl rfl]
  exact Steps.refl _
/-- what holds at the law's entry: the machine, the code, the tables' words (any of lw_tbl by 'hts w (by decide +kernel)'), the script of L ints xs at the cell b, what the Statement gives of the start (any of its parts by flat_of_before) -/
def lw_At (p : Program) (s : State) (m : MethodId) (meth : Method) (c : Code) (b L : Nat) (xs : Nat → Int32) : Prop :=
  p.tables.exec = Jvm.exec ∧ c.code = code ∧ meth.sig.returnType = ret ∧ c.maxLocals = 4 ∧ s.vm.findClass R_law = some m.cls ∧ (∀ w ∈ lw_tbl, w.before #[Value.ref b] s = true) ∧ va_X b L xs s s.heap ∧ b < s.heap.size ∧ meth.locks = false ∧ (Jvm.Cond.and given_1 narrow_1).before #[Value.ref b] s = true
section XSL
variable {p : Program} {l : Launch} {e : Env} {R : Room} {s : State} {m : MethodId} {args : Array Value} {below : List Frame} {meth : Method} {c : Code} {H : Heap} {locs : List Loc} {cells slots : Nat} {Q : State → Prop}
variable {cc : ByteArray} {pc : Nat} {ls : Array Slot} {rest : List Value} {A : Nat → Prop} {H0 : Heap}
theorem x_sld (hexec : p.tables.exec = Jvm.exec) (hb : c.code = cc) {b L : Nat} {xs : Nat → Int32} (hX : va_X b L xs s H0) (hbl : b < H0.size) (hbA : ¬ A b) (hS : va_S A H0 H locs) {k : Nat} (hk : k < L) (hL : L < 2 ^ 31) (hdg : decode cc pc = .ok (.iaload, 1))
    (kk : W p l e R s m args below meth c H locs cells slots Q (F0 m (pc + 1) ls (.int (xs k) :: rest))) : W p l e R s m args below meth c H locs cells slots Q (F0 m pc ls (.int (nI k) :: .ref b :: rest)) := by
  refine va_sld hexec hb hX hbl hbA hS (vp_in_nI hk hL) hdg ?_
  rw [nI_clamp (by omega)]; exact kk
end XSL
def tbC (C n : String) (tl : List Int32) : List Cond := .arrayOf (.static C n "[I") .int :: .eq (.length (.static C n "[I")) (.int (Int32.ofNat tl.length)) :: (tl.zipIdx.map fun q => .eq (.elem (.static C n "[I") (.int (Int32.ofNat q.2))) (.int q.1))
theorem tb_in {fl : List Cond} {C n : String} {tl : List Int32} (k : Nat) (h : (fl.drop k).take (tl.length + 2) = tbC C n tl) : ∀ w ∈ tbC C n tl, w ∈ fl := fun w hw => by
  rw [← h] at hw
  exact List.mem_of_mem_drop (List.mem_of_mem_take hw)
theorem xT_of {args : Array Value} {s : State} {C n : String} {tl : List Int32} {A : Nat → Prop} (hN : tl.length < 2 ^ 31) (hw : ∀ w ∈ tbC C n tl, w.before args s = true) (hl : (Cond.laysStatic C n "[I").before args s = true) (hini : (Cond.initialized C).before args s = true) (hA : ∀ a : Nat, a < s.heap.size → ¬ A a) : ∃ t : Nat, xT C n tl.length (fun j => tl.getD j 0) t A s s.heap := by
  obtain ⟨t, h1, h2⟩ := va_Tof (tm := .static C n "[I") (ty := .int) (N := tl.length) (f := fun j => .int (tl.getD j 0)) hN (hw _ (List.mem_cons_self ..)) (va_eqt (hw _ (List.mem_cons_of_mem _ (List.mem_cons_self ..)))) (fun j hj => va_eqt (hw _ (List.mem_cons_of_mem _ (List.mem_cons_of_mem _ (List.mem_map.mpr ⟨(tl.getD j 0, j), by
    rw [List.mem_zipIdx_iff_getElem?]
    simp [hj], rfl⟩))))) hA
  exact ⟨t, va_Zref hl hini h1 hA, h2⟩
theorem tb1 {k : Nat} {w : Cond} (h : tables_1[k]? = some w) : w ∈ lw_tbl := List.mem_append_right _ (List.mem_of_getElem? h)
set_option maxRecDepth 20000 in
theorem lw_t0 {args : Array Value} {s : State} {A : Nat → Prop} (hts : ∀ w ∈ lw_tbl, w.before args s = true) (h : (Jvm.Cond.and given_1 narrow_1).before args s = true) (hA : ∀ a : Nat, a < s.heap.size → ¬ A a) : ∃ t : Nat, xT "ScratchSwap" "MAGIC" 8 tbM t A s s.heap := xT_of (tl := tbML) (by decide) (fun w hw => flat_of_before _ h w (tb_in 83 (by decide +kernel) w hw)) (hts _ (tb1 (k := 259) (by decide +kernel))) (hts _ (tb1 (k := 1) (by decide +kernel))) hA
set_option maxRecDepth 20000 in
theorem lw_t1 {args : Array Value} {s : State} {A : Nat → Prop} (hts : ∀ w ∈ lw_tbl, w.before args s = true) (h : (Jvm.Cond.and given_1 narrow_1).before args s = true) (hA : ∀ a : Nat, a < s.heap.size → ¬ A a) : ∃ t : Nat, xT "ScratchSwap$Sha256" "FIRST_WORDS" 8 tbF t A s s.heap := xT_of (tl := tbFL) (by decide) (fun w hw => flat_of_before _ h w (tb_in 5 (by decide +kernel) w hw)) (hts _ (tb1 (k := 144) (by decide +kernel))) (hts _ (tb1 (k := 4) (by decide +kernel))) hA
set_option maxRecDepth 20000 in
theorem lw_t2 {args : Array Value} {s : State} {A : Nat → Prop} (hts : ∀ w ∈ lw_tbl, w.before args s = true) (h : (Jvm.Cond.and given_1 narrow_1).before args s = true) (hA : ∀ a : Nat, a < s.heap.size → ¬ A a) : ∃ t : Nat, xT "ScratchSwap$Sha256" "ROUND_WORDS" 64 tbR t A s s.heap := xT_of (tl := tbRL) (by decide) (fun w hw => flat_of_before _ h w (tb_in 16 (by decide +kernel) w hw)) (hts _ (tb1 (k := 163) (by decide +kernel))) (hts _ (tb1 (k := 4) (by decide +kernel))) hA
set_option maxRecDepth 20000 in
theorem lw_t3 {args : Array Value} {s : State} {A : Nat → Prop} (hts : ∀ w ∈ lw_tbl, w.before args s = true) (h : (Jvm.Cond.and given_1 narrow_1).before args s = true) (hA : ∀ a : Nat, a < s.heap.size → ¬ A a) : ∃ t : Nat, xT "ScratchSwapModel" "MAGIC" 8 tbM t A s s.heap := xT_of (tl := tbML) (by decide) (fun w hw => flat_of_before _ h w (tb_in 94 (by decide +kernel) w hw)) (hts _ (tb1 (k := 495) (by decide +kernel))) (hts _ (tb1 (k := 5) (by decide +kernel))) hA
set_option maxRecDepth 20000 in
theorem lw_t4 {args : Array Value} {s : State} {A : Nat → Prop} (hts : ∀ w ∈ lw_tbl, w.before args s = true) (h : (Jvm.Cond.and given_1 narrow_1).before args s = true) (hA : ∀ a : Nat, a < s.heap.size → ¬ A a) : ∃ t : Nat, xT "ScratchSwapModel" "STARTS" 8 tbF t A s s.heap := xT_of (tl := tbFL) (by decide) (fun w hw => flat_of_before _ h w (tb_in 105 (by decide +kernel) w hw)) (hts _ (tb1 (k := 508) (by decide +kernel))) (hts _ (tb1 (k := 5) (by decide +kernel))) hA
set_option maxRecDepth 20000 in
theorem lw_t5 {args : Array Value} {s : State} {A : Nat → Prop} (hts : ∀ w ∈ lw_tbl, w.before args s = true) (h : (Jvm.Cond.and given_1 narrow_1).before args s = true) (hA : ∀ a : Nat, a < s.heap.size → ¬ A a) : ∃ t : Nat, xT "ScratchSwapModel" "ROUNDS" 64 tbR t A s s.heap := xT_of (tl := tbRL) (by decide) (fun w hw => flat_of_before _ h w (tb_in 116 (by decide +kernel) w hw)) (hts _ (tb1 (k := 517) (by decide +kernel))) (hts _ (tb1 (k := 5) (by decide +kernel))) hA
set_option maxRecDepth 20000 in
theorem lw_nf : ∀ q ∈ xNf, Cond.fieldLinkNest q.1 q.2.1 q.2.2.1 q.2.2.2.1 q.2.2.2.2.1 q.2.2.2.2.2 ∈ lw_tbl := List.forall_mem_cons.mpr ⟨tb1 (k := 21) (by decide +kernel), List.forall_mem_cons.mpr ⟨tb1 (k := 23) (by decide +kernel), List.forall_mem_cons.mpr ⟨tb1 (k := 26) (by decide +kernel), List.forall_mem_cons.mpr ⟨tb1 (k := 31) (by decide +kernel), List.forall_mem_cons.mpr ⟨tb1 (k := 33) (by decide +kernel), List.forall_mem_cons.mpr ⟨tb1 (k := 61) (by decide +kernel), List.forall_mem_cons.mpr ⟨tb1 (k := 63) (by decide +kernel), List.forall_mem_cons.mpr ⟨tb1 (k := 268) (by decide +kernel), fun _ h => absurd h List.not_mem_nil⟩⟩⟩⟩⟩⟩⟩⟩
set_option maxRecDepth 20000 in
theorem lw_nm : ∀ q ∈ xNm, Cond.methodLinkNest q.1 q.2.1 q.2.2.1 q.2.2.2 ∈ lw_tbl := List.forall_mem_cons.mpr ⟨tb1 (k := 16) (by decide +kernel), List.forall_mem_cons.mpr ⟨tb1 (k := 56) (by decide +kernel), List.forall_mem_cons.mpr ⟨tb1 (k := 71) (by decide +kernel), List.forall_mem_cons.mpr ⟨tb1 (k := 111) (by decide +kernel), List.forall_mem_cons.mpr ⟨tb1 (k := 131) (by decide +kernel), List.forall_mem_cons.mpr ⟨tb1 (k := 139) (by decide +kernel), List.forall_mem_cons.mpr ⟨tb1 (k := 164) (by decide +kernel), List.forall_mem_cons.mpr ⟨tb1 (k := 179) (by decide +kernel), List.forall_mem_cons.mpr ⟨tb1 (k := 205) (by decide +kernel), List.forall_mem_cons.mpr ⟨tb1 (k := 225) (by decide +kernel), List.forall_mem_cons.mpr ⟨tb1 (k := 249) (by decide +kernel), List.forall_mem_cons.mpr ⟨tb1 (k := 257) (by decide +kernel), List.forall_mem_cons.mpr ⟨tb1 (k := 264) (by decide +kernel), List.forall_mem_cons.mpr ⟨tb1 (k := 289) (by decide +kernel), List.forall_mem_cons.mpr ⟨tb1 (k := 293) (by decide +kernel), List.forall_mem_cons.mpr ⟨tb1 (k := 294) (by decide +kernel), List.forall_mem_cons.mpr ⟨tb1 (k := 295) (by decide +kernel), List.forall_mem_cons.mpr ⟨tb1 (k := 316) (by decide +kernel), List.forall_mem_cons.mpr ⟨tb1 (k := 338) (by decide +kernel), List.forall_mem_cons.mpr ⟨tb1 (k := 346) (by decide +kernel), List.forall_mem_cons.mpr ⟨tb1 (k := 354) (by decide +kernel), List.forall_mem_cons.mpr ⟨tb1 (k := 355) (by decide +kernel), List.forall_mem_cons.mpr ⟨tb1 (k := 383) (by decide +kernel), List.forall_mem_cons.mpr ⟨tb1 (k := 388) (by decide +kernel), fun _ h => absurd h List.not_mem_nil⟩⟩⟩⟩⟩⟩⟩⟩⟩⟩⟩⟩⟩⟩⟩⟩⟩⟩⟩⟩⟩⟩⟩⟩
theorem ra_of {args : Array Value} {s : State} {ty : FieldType} (hp : ∀ C, ty ≠ .object C) (h : (Cond.arrayClass ty).before args s = true) : ∃ cA : ClassId, ArrOfT s cA ty ∧ va_RA s cA ty := by
  obtain ⟨cA, kA, comp, h1, h2, h3⟩ := Cond.arrayClass_spec h
  refine ⟨cA, fun n z => ⟨fun k h => (by cases h), kA, h2, comp, h3⟩, ?_⟩
  cases ty with
  | object C => exact absurd rfl (hp C)
  | _ => exact h1
set_option maxRecDepth 20000 in
/-- what the law's walk stands on -/
theorem lw_env {p : Program} {s : State} {m : MethodId} {meth : Method} {c : Code} {b L : Nat} {xs : Nat → Int32} (C0 : lw_At p s m meth c b L xs) : ∃ (dC : Nat → ClassId) (dI : Nat → Nat → Nat) (tt : Nat → Nat) (cI cB : ClassId), va_K (dC, dI) vwCl [(cI, .int), (cB, .byte)] s ∧ xE tt [] (fun q : Nat => s.heap.size ≤ q) s s.heap := by
  obtain ⟨hx, hb, hr, hml, hown, hts, hX, hbl, hlocks, hgv⟩ := id C0
  have hA : ∀ a : Nat, a < s.heap.size → ¬ (fun q : Nat => s.heap.size ≤ q) a := fun a h => Nat.not_le.mpr h
  obtain ⟨c0, iS0, hKn0⟩ := u_known (C := RX0) (T := TX0) (N := 9) (n := 9) hts inX0 (hts _ (tb1 (k := 15) (by decide +kernel)))
  obtain ⟨c1, iS1, hKn1⟩ := u_known (C := RX1) (T := TX1) (N := 2) (n := 2) hts inX1 (hts _ (tb1 (k := 70) (by decide +kernel)))
  obtain ⟨c2, iS2, hKn2⟩ := u_known (C := RX2) (T := TX2) (N := 2) (n := 2) hts inX2 (hts _ (tb1 (k := 55) (by decide +kernel)))
  obtain ⟨c3, iS3, hKn3⟩ := u_known (C := RX3) (T := TX3) (N := 8) (n := 8) hts inX3 (hts _ (tb1 (k := 7) (by decide +kernel)))
  obtain ⟨c4, iS4, hKn4⟩ := u_known (C := RX4) (T := TX4) (N := 26) (n := 26) hts inX4 (hts _ (tb1 (k := 393) (by decide +kernel)))
  obtain ⟨cI, hi1, hi2⟩ := ra_of (ty := .int) (fun C h => by cases h) (hts _ (tb1 (k := 53) (by decide +kernel)))
  obtain ⟨cB, hb1, hb2⟩ := ra_of (ty := .byte) (fun C h => by cases h) (hts _ (tb1 (k := 477) (by decide +kernel)))
  obtain ⟨t0, ht0⟩ := lw_t0 hts hgv hA
  obtain ⟨t1, ht1⟩ := lw_t1 hts hgv hA
  obtain ⟨t2, ht2⟩ := lw_t2 hts hgv hA
  obtain ⟨t3, ht3⟩ := lw_t3 hts hgv hA
  obtain ⟨t4, ht4⟩ := lw_t4 hts hgv hA
  obtain ⟨t5, ht5⟩ := lw_t5 hts hgv hA
  refine ⟨fun k => [c0, c1, c2, c3, c4].getD k c0, fun k => [iS0, iS1, iS2, iS3, iS4].getD k iS0, fun k => [t0, t1, t2, t3, t4, t5].getD k t0, cI, cB, ⟨?_, ?_⟩, fun q hq => va_Nw.of rfl (hts _ (lw_nf q hq)), fun q hq => va_Nw.of rfl (hts _ (lw_nm q hq)), ht0, ht1, ht2, ht3, ht4, ht5, fun q h => absurd h List.not_mem_nil⟩
  · intro k q hq
    match k, hq with
    | 0, hq => cases hq; exact hKn0
    | 1, hq => cases hq; exact hKn1
    | 2, hq => cases hq; exact hKn2
    | 3, hq => cases hq; exact hKn3
    | 4, hq => cases hq; exact hKn4
    | k + 5, hq => simp [vwCl] at hq
  · intro k q hq
    match k, hq with
    | 0, hq => cases hq; exact ⟨hi1, hi2⟩
    | 1, hq => cases hq; exact ⟨hb1, hb2⟩
    | k + 2, hq => simp at hq
