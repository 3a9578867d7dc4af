set_option maxHeartbeats 4000000 in
set_option maxRecDepth 100000 in
theorem kX4_unit (l : Launch) (dC : Nat → ClassId) (dI : Nat → Nat → Nat) (tt : Nat → Nat) (cI cB : ClassId) (sz : Nat) (i j : Nat)  : MetR l yX4_unit wsX4_unit { frames := 0, cells := 0, slots := 0, locals := 0 } (dC, dI) [(cI, .int), (cB, .byte)] tt [] sz ([]) [.int (nI i), .int (nI j)] (fun r => r = nI (i * 256 + j * 8)) := by
  refine Met.ofW (cc := cX4_unit) (maxL := 2) (ret := (some .int)) (by decide) rfl ?_
  intro p e s m args below meth c s₁ B hml hv
  obtain ⟨rfl, hsz, hP, hK, hD0, hE⟩ := hv
  have hx := B.exec
  have hb := B.bytes
  have hr := B.returns
  have hts := atoms_spec (ws := wsX4_unit) B.pre
  have hown : s.vm.findClass RX4 = some m.cls := findClass_of_methodNamed B.named
  have hlocks := B.notSynchronized
  subst hsz
  have hD := hD0
  generalize hAe : va_A [] s.heap.size = A at hE ⊢
  have hA : ∀ q : Nat, s.heap.size ≤ q → A q := fun q h => by rw [← hAe]; exact Or.inr h
  have hS : va_S A s.heap s.heap [] := va_S.rf
  have hl := lv_entry ([.int (nI i), .int (nI j)]) (n := 2) (Nat.le_of_ble_eq_true rfl)
  rw [lg_entry_eq]
  generalize (lg_sl ([.int (nI i), .int (nI j)]) ++ List.replicate (2 - (lg_sl ([.int (nI i), .int (nI j)])).length) Slot.unset).toArray = ls at hl ⊢
  have hl : lv_has ls 2 [(0, .int (nI i)), (1, .int (nI j))] := hl
  refine lv_sipush (pc := 0) (v := nI 256) hx hb dX4_unit_0 (by decide) ?_
  refine lv_iload_n (pc := 3) hx hb dX4_unit_3 rfl (lv_at hl 0 rfl) ?_
  refine lv_imul (pc := 4) hx hb dX4_unit_4 ?_
  refine lv_cv (x_mulc 256 i) ?_
  refine lv_bipush (pc := 5) (v := nI 8) hx hb dX4_unit_5 (by decide) ?_
  refine lv_iload_n (pc := 7) hx hb dX4_unit_7 rfl (lv_at hl 1 rfl) ?_
  refine lv_imul (pc := 8) hx hb dX4_unit_8 ?_
  refine lv_cv (x_mulc 8 j) ?_
  refine lv_iadd (pc := 9) hx hb dX4_unit_9 ?_
  refine lv_cv (nI_add (i * 256) (j * 8)) ?_
  exact W.iret (v := nI ((i * 256) + (j * 8))) hx hb hr (fun t ht hW => ⟨⟨nI ((i * 256) + (j * 8)), (), rfl, rfl, trivial⟩, hS.F ht⟩) hS.2.2 dX4_unit_10
set_option maxHeartbeats 4000000 in
set_option maxRecDepth 100000 in
theorem kX4_turned (l : Launch) (dC : Nat → ClassId) (dI : Nat → Nat → Nat) (tt : Nat → Nat) (cI cB : ClassId) (sz : Nat) (x : Int32) (q : Nat) (hq : q ≤ 32) : MetR l yX4_turned wsX4_turned { frames := 0, cells := 0, slots := 0, locals := 0 } (dC, dI) [(cI, .int), (cB, .byte)] tt [] sz ([]) [.int x, .int (nI q)] (fun r => r = trn x q) := by
  refine Met.ofW (cc := cX4_turned) (maxL := 2) (ret := (some .int)) (by decide) rfl ?_
  intro p e s m args below meth c s₁ B hml hv
  obtain ⟨rfl, hsz, hP, hK, hD0, hE⟩ := hv
  have hx := B.exec
  have hb := B.bytes
  have hr := B.returns
  have hts := atoms_spec (ws := wsX4_turned) B.pre
  have hown : s.vm.findClass RX4 = some m.cls := findClass_of_methodNamed B.named
  have hlocks := B.notSynchronized
  subst hsz
  have hD := hD0
  generalize hAe : va_A [] s.heap.size = A at hE ⊢
  have hA : ∀ q : Nat, s.heap.size ≤ q → A q := fun q h => by rw [← hAe]; exact Or.inr h
  have hS : va_S A s.heap s.heap [] := va_S.rf
  have hl := lv_entry ([.int x, .int (nI q)]) (n := 2) (Nat.le_of_ble_eq_true rfl)
  rw [lg_entry_eq]
  generalize (lg_sl ([.int x, .int (nI q)]) ++ List.replicate (2 - (lg_sl ([.int x, .int (nI q)])).length) Slot.unset).toArray = ls at hl ⊢
  have hl : lv_has ls 2 [(0, .int x), (1, .int (nI q))] := hl
  refine lv_iload_n (pc := 0) hx hb dX4_turned_0 rfl (lv_at hl 0 rfl) ?_
  refine lv_iload_n (pc := 1) hx hb dX4_turned_1 rfl (lv_at hl 1 rfl) ?_
  refine lv_iushr (pc := 2) hx hb dX4_turned_2 rfl ?_
  refine lv_iload_n (pc := 3) hx hb dX4_turned_3 rfl (lv_at hl 0 rfl) ?_
  refine lv_bipush (pc := 4) (v := nI 32) hx hb dX4_turned_4 (by decide) ?_
  refine lv_iload_n (pc := 6) hx hb dX4_turned_6 rfl (lv_at hl 1 rfl) ?_
  refine lv_isub (pc := 7) hx hb dX4_turned_7 ?_
  refine lv_cv (pk_sub (a := 32) (b := q) (by omega)) ?_
  refine lv_ishl (pc := 8) hx hb dX4_turned_8 ?_
  refine lv_ior (pc := 9) hx hb dX4_turned_9 ?_
  exact W.iret (v := ((Int32.toUInt32 x >>> (Int32.toUInt32 (nI q) &&& Int32.toUInt32 31)).toInt32) ||| (x <<< ((nI (32 - q)) &&& 31))) hx hb hr (fun t ht hW => ⟨⟨((Int32.toUInt32 x >>> (Int32.toUInt32 (nI q) &&& Int32.toUInt32 31)).toInt32) ||| (x <<< ((nI (32 - q)) &&& 31)), (), rfl, rfl, trivial⟩, hS.F ht⟩) hS.2.2 dX4_turned_10
set_option maxHeartbeats 4000000 in
set_option maxRecDepth 100000 in
theorem kX4_isBlank (l : Launch) (dC : Nat → ClassId) (dI : Nat → Nat → Nat) (tt : Nat → Nat) (cI cB : ClassId) (sz : Nat) (ho n : Nat) (F : Nat → Int8) (fr : Nat) (hn : n < 2 ^ 30) (hfr : fr + 8 ≤ n) : MetR l yX4_isBlank wsX4_isBlank { frames := 0, cells := 0, slots := 0, locals := 0 } (dC, dI) [(cI, .int), (cB, .byte)] tt [] sz (bW ho cB n F) [.ref ho, .int (nI fr)] (fun r => r = bI (blkTo (fun z => F (fr + z)) 8)) := by
  refine Met.ofW (cc := cX4_isBlank) (maxL := 4) (ret := (some .boolean)) (by decide) rfl ?_
  intro p e s m args below meth c s₁ B hml hv
  obtain ⟨rfl, hsz, hP, hK, hD0, hE⟩ := hv
  have hx := B.exec
  have hb := B.bytes
  have hr := B.returns
  have hts := atoms_spec (ws := wsX4_isBlank) B.pre
  have hown : s.vm.findClass RX4 = some m.cls := findClass_of_methodNamed B.named
  have hlocks := B.notSynchronized
  subst hsz
  have hD := hD0
  generalize hAe : va_A [] s.heap.size = A at hE ⊢
  have hA : ∀ q : Nat, s.heap.size ≤ q → A q := fun q h => by rw [← hAe]; exact Or.inr h
  have hS : va_S A s.heap s.heap [] := va_S.rf
  have hl := lv_entry ([.ref ho, .int (nI fr)]) (n := 4) (Nat.le_of_ble_eq_true rfl)
  rw [lg_entry_eq]
  generalize (lg_sl ([.ref ho, .int (nI fr)]) ++ List.replicate (4 - (lg_sl ([.ref ho, .int (nI fr)])).length) Slot.unset).toArray = ls at hl ⊢
  have hl : lv_has ls 4 [(0, .ref ho), (1, .int (nI fr))] := hl
  have hP : va_P (dC, dI) vwCl (bW ho cB n F) s.heap := hP
  refine lv_iconst (pc := 0) (v := nI 1) hx hb dX4_isBlank_0 (by decide) ?_
  refine lv_istore_n (pc := 1) (lv' := [(2, .int (nI 1)), (0, .ref ho), (1, .int (nI fr))]) hx hb dX4_isBlank_1 rfl hl (by decide) rfl (fun ls hl => ?_)
  refine lv_iconst (pc := 2) (v := nI 0) hx hb dX4_isBlank_2 (by decide) ?_
  refine lv_istore_n (pc := 3) (lv' := [(3, .int (nI 0)), (2, .int (nI 1)), (0, .ref ho), (1, .int (nI fr))]) hx hb dX4_isBlank_3 rfl hl (by decide) rfl (fun ls hl => ?_)
  have hl : lv_has ls 4 [(3, .int (nI 0)), (2, .int (bI (eqTo (fun z => F (fr + z)) (fun _ => -1) 0))), (0, .ref ho), (1, .int (nI fr))] := by rw [eqTo_0]; exact hl
  refine x_loop (σ := (Nat)) (Wd := fun i : (Nat) => bW ho cB n F) (Lv := fun i : (Nat) => [(3, .int (nI i)), (2, .int (bI (eqTo (fun z => F (fr + z)) (fun _ => -1) i))), (0, .ref ho), (1, .int (nI fr))]) (I := fun i : (Nat) => (i ≤ 8)) (μ := fun i : (Nat) => 8 - i) ?_ (0) (by omega) hP hD hS (lv_sub hl [0, 1, 2, 3] rfl)
  intro i H locs ls hI hP hD hS hl ih4
  have hi : (i ≤ 8) := hI
  have hP : va_P (dC, dI) vwCl (bW ho cB n F) _ := hP
  have hD : va_D (fun _ => True) (bW ho cB n F) := hD
  have hl : lv_has ls 4 [(3, .int (nI i)), (2, .int (bI (eqTo (fun z => F (fr + z)) (fun _ => -1) i))), (0, .ref ho), (1, .int (nI fr))] := hl
  refine lv_iload_n (pc := 4) hx hb dX4_isBlank_4 rfl (lv_at hl 0 rfl) ?_
  refine lv_bipush (pc := 5) (v := nI 8) hx hb dX4_isBlank_5 (by decide) ?_
  refine lv_icmp_ge (pc := 7) (tgt := 35) hx hb dX4_isBlank_7 (by decide) (fun c_1 => ?_) (fun c_1 => ?_)
  · skip
    have c_1 : 8 ≤ i := (nI_leI (a := 8) (b := i) (by omega) (by omega)).mp c_1
    refine lv_iload_n (pc := 35) hx hb dX4_isBlank_35 rfl (lv_at hl 1 rfl) ?_
    have hi9 : i = 8 := by omega
    subst hi9
    exact W.zret (v := bI (eqTo (fun z => F (fr + z)) (fun _ => -1) 8)) hx hb hr (nbI (eqTo (fun z => F (fr + z)) (fun _ => -1) 8)) (fun t ht hW => ⟨⟨bI (eqTo (fun z => F (fr + z)) (fun _ => -1) 8), (), rfl, rfl, trivial⟩, hS.F ht⟩) hS.2.2 dX4_isBlank_36
  · skip
    have c_1 : ¬ 8 ≤ i := fun z => c_1 ((nI_leI (a := 8) (b := i) (by omega) (by omega)).mpr z)
    refine lv_iload_n (pc := 10) hx hb dX4_isBlank_10 rfl (lv_at hl 1 rfl) ?_
    refine lv_if_eq (pc := 11) (tgt := 27) hx hb dX4_isBlank_11 (by decide) (fun c1 => ?_) (fun c1 => ?_)
    · skip
      have c1 : (eqTo (fun z => F (fr + z)) (fun _ => -1) i) = false := bI_0.mp c1
      refine lv_iconst (pc := 27) (v := nI 0) hx hb dX4_isBlank_27 (by decide) ?_
      refine lv_cv (y := bI (eqTo (fun z => F (fr + z)) (fun _ => -1) (i + 1))) (by rw [show eqTo (fun z => F (fr + z)) (fun _ => -1) (i + 1) = false from by rw [eqTo_s]; first | (rw [c1, Bool.false_and]; done) | (rw [c1, Bool.true_and]; exact decide_eq_false (fun z => c2 (by rw [← sbm_1]; exact congrArg Int8.toInt32 z)))]; rfl) ?_
      refine lv_istore_n (pc := 28) (lv' := [(2, .int (bI (eqTo (fun z => F (fr + z)) (fun _ => -1) (i + 1)))), (3, .int (nI i)), (0, .ref ho), (1, .int (nI fr))]) hx hb dX4_isBlank_28 rfl hl (by decide) rfl (fun ls hl => ?_)
      refine lv_iinc (pc := 29) (v := nI (i + 1)) (lv' := [(3, .int (nI (i + 1))), (2, .int (bI (eqTo (fun z => F (fr + z)) (fun _ => -1) (i + 1)))), (0, .ref ho), (1, .int (nI fr))]) hx hb dX4_isBlank_29 hl (k := 1) rfl (nI_inc i 1) (by decide) rfl (fun ls hl => ?_)
      refine lv_goto (pc := 32) (tgt := 4) hx hb dX4_isBlank_32 (by decide) ?_
      exact ih4 (i + 1) H locs ls (by omega) (by first | omega | (simp only []; omega)) hP hD hS (lv_sub hl [0, 1, 2, 3] rfl)
    · skip
      have c1 : (eqTo (fun z => F (fr + z)) (fun _ => -1) i) = true := bI_1.mp c1
      refine lv_aload_n (pc := 14) hx hb dX4_isBlank_14 rfl (lv_at hl 2 rfl) ?_
      refine lv_iload_n (pc := 15) hx hb dX4_isBlank_15 rfl (lv_at hl 3 rfl) ?_
      refine lv_iload_n (pc := 16) hx hb dX4_isBlank_16 rfl (lv_at hl 0 rfl) ?_
      refine lv_iadd (pc := 17) hx hb dX4_isBlank_17 ?_
      refine lv_cv (nI_add fr i) ?_
      refine x_bald (pc := 18) (k := fr + i) (f := fun j => Int8.toInt32 (F j)) hx hb hK hP 0 1 rfl rfl (by omega) (by omega) dX4_isBlank_18 ?_
      refine lv_iconst (pc := 19) (v := (-1)) hx hb dX4_isBlank_19 (by decide) ?_
      refine lv_icmp_ne (pc := 20) (tgt := 27) hx hb dX4_isBlank_20 (by decide) (fun c2 => ?_) (fun c2 => ?_)
      · skip
        refine lv_iconst (pc := 27) (v := nI 0) hx hb dX4_isBlank_27 (by decide) ?_
        refine lv_cv (y := bI (eqTo (fun z => F (fr + z)) (fun _ => -1) (i + 1))) (by rw [show eqTo (fun z => F (fr + z)) (fun _ => -1) (i + 1) = false from by rw [eqTo_s]; first | (rw [c1, Bool.false_and]; done) | (rw [c1, Bool.true_and]; exact decide_eq_false (fun z => c2 (by rw [← sbm_1]; exact congrArg Int8.toInt32 z)))]; rfl) ?_
        refine lv_istore_n (pc := 28) (lv' := [(2, .int (bI (eqTo (fun z => F (fr + z)) (fun _ => -1) (i + 1)))), (3, .int (nI i)), (0, .ref ho), (1, .int (nI fr))]) hx hb dX4_isBlank_28 rfl hl (by decide) rfl (fun ls hl => ?_)
        refine lv_iinc (pc := 29) (v := nI (i + 1)) (lv' := [(3, .int (nI (i + 1))), (2, .int (bI (eqTo (fun z => F (fr + z)) (fun _ => -1) (i + 1)))), (0, .ref ho), (1, .int (nI fr))]) hx hb dX4_isBlank_29 hl (k := 1) rfl (nI_inc i 1) (by decide) rfl (fun ls hl => ?_)
        refine lv_goto (pc := 32) (tgt := 4) hx hb dX4_isBlank_32 (by decide) ?_
        exact ih4 (i + 1) H locs ls (by omega) (by first | omega | (simp only []; omega)) hP hD hS (lv_sub hl [0, 1, 2, 3] rfl)
      · skip
        refine lv_iconst (pc := 23) (v := nI 1) hx hb dX4_isBlank_23 (by decide) ?_
        refine lv_cv (y := bI (eqTo (fun z => F (fr + z)) (fun _ => -1) (i + 1))) (by rw [show eqTo (fun z => F (fr + z)) (fun _ => -1) (i + 1) = true from by rw [eqTo_s]; first | (rw [c1, Bool.false_and]; done) | (rw [c1, Bool.true_and]; exact decide_eq_true (sb_inj.mp (by rw [sbm_1]; exact c2)))]; rfl) ?_
        refine lv_goto (pc := 24) (tgt := 28) hx hb dX4_isBlank_24 (by decide) ?_
        refine lv_istore_n (pc := 28) (lv' := [(2, .int (bI (eqTo (fun z => F (fr + z)) (fun _ => -1) (i + 1)))), (3, .int (nI i)), (0, .ref ho), (1, .int (nI fr))]) hx hb dX4_isBlank_28 rfl hl (by decide) rfl (fun ls hl => ?_)
        refine lv_iinc (pc := 29) (v := nI (i + 1)) (lv' := [(3, .int (nI (i + 1))), (2, .int (bI (eqTo (fun z => F (fr + z)) (fun _ => -1) (i + 1)))), (0, .ref ho), (1, .int (nI fr))]) hx hb dX4_isBlank_29 hl (k := 1) rfl (nI_inc i 1) (by decide) rfl (fun ls hl => ?_)
        refine lv_goto (pc := 32) (tgt := 4) hx hb dX4_isBlank_32 (by decide) ?_
        exact ih4 (i + 1) H locs ls (by omega) (by first | omega | (simp only []; omega)) hP hD hS (lv_sub hl [0, 1, 2, 3] rfl)
set_option maxHeartbeats 4000000 in
set_option maxRecDepth 100000 in
theorem kX4_isMagic (l : Launch) (dC : Nat → ClassId) (dI : Nat → Nat → Nat) (tt : Nat → Nat) (cI cB : ClassId) (sz : Nat) (ho n : Nat) (F : Nat → Int8) (i0 : Nat) (hn : n < 2 ^ 30) (hi0 : i0 * 256 + 8 ≤ n) : MetR l yX4_isMagic wsX4_isMagic { frames := 1, cells := 0, slots := 0, locals := 21 } (dC, dI) [(cI, .int), (cB, .byte)] tt [] sz (bW ho cB n F) [.ref ho, .int (nI i0)] (fun r => r = bI (magB F (i0 * 256))) := by
  refine Met.ofW (cc := cX4_isMagic) (maxL := 4) (ret := (some .boolean)) (by decide) rfl ?_
  intro p e s m args below meth c s₁ B hml hv
  obtain ⟨rfl, hsz, hP, hK, hD0, hE⟩ := hv
  have hx := B.exec
  have hb := B.bytes
  have hr := B.returns
  have hts := atoms_spec (ws := wsX4_isMagic) B.pre
  have hown : s.vm.findClass RX4 = some m.cls := findClass_of_methodNamed B.named
  have hlocks := B.notSynchronized
  subst hsz
  have hD := hD0
  generalize hAe : va_A [] s.heap.size = A at hE ⊢
  have hA : ∀ q : Nat, s.heap.size ≤ q → A q := fun q h => by rw [← hAe]; exact Or.inr h
  have hS : va_S A s.heap s.heap [] := va_S.rf
  have hl := lv_entry ([.ref ho, .int (nI i0)]) (n := 4) (Nat.le_of_ble_eq_true rfl)
  rw [lg_entry_eq]
  generalize (lg_sl ([.ref ho, .int (nI i0)]) ++ List.replicate (4 - (lg_sl ([.ref ho, .int (nI i0)])).length) Slot.unset).toArray = ls at hl ⊢
  have hl : lv_has ls 4 [(0, .ref ho), (1, .int (nI i0))] := hl
  have hP : va_P (dC, dI) vwCl (bW ho cB n F) s.heap := hP
  refine lv_iconst (pc := 0) (v := nI 1) hx hb dX4_isMagic_0 (by decide) ?_
  refine lv_istore_n (pc := 1) (lv' := [(2, .int (nI 1)), (0, .ref ho), (1, .int (nI i0))]) hx hb dX4_isMagic_1 rfl hl (by decide) rfl (fun ls hl => ?_)
  refine lv_iconst (pc := 2) (v := nI 0) hx hb dX4_isMagic_2 (by decide) ?_
  refine lv_istore_n (pc := 3) (lv' := [(3, .int (nI 0)), (2, .int (nI 1)), (0, .ref ho), (1, .int (nI i0))]) hx hb dX4_isMagic_3 rfl hl (by decide) rfl (fun ls hl => ?_)
  have hl : lv_has ls 4 [(3, .int (nI 0)), (2, .int (bI (eqTo (fun z => F (i0 * 256 + 0 * 8 + z)) (magG) 0))), (0, .ref ho), (1, .int (nI i0))] := by rw [eqTo_0]; exact hl
  refine x_loop (σ := (Nat)) (Wd := fun i : (Nat) => bW ho cB n F) (Lv := fun i : (Nat) => [(3, .int (nI i)), (2, .int (bI (eqTo (fun z => F (i0 * 256 + 0 * 8 + z)) (magG) i))), (0, .ref ho), (1, .int (nI i0))]) (I := fun i : (Nat) => (i ≤ 8)) (μ := fun i : (Nat) => 8 - i) ?_ (0) (by omega) hP hD hS (lv_sub hl [0, 1, 2, 3] rfl)
  intro i H locs ls hI hP hD hS hl ih4
  have hi : (i ≤ 8) := hI
  have hP : va_P (dC, dI) vwCl (bW ho cB n F) _ := hP
  have hD : va_D (fun _ => True) (bW ho cB n F) := hD
  have hl : lv_has ls 4 [(3, .int (nI i)), (2, .int (bI (eqTo (fun z => F (i0 * 256 + 0 * 8 + z)) (magG) i))), (0, .ref ho), (1, .int (nI i0))] := hl
  refine lv_iload_n (pc := 4) hx hb dX4_isMagic_4 rfl (lv_at hl 0 rfl) ?_
  refine lv_bipush (pc := 5) (v := nI 8) hx hb dX4_isMagic_5 (by decide) ?_
  refine lv_icmp_ge (pc := 7) (tgt := 43) hx hb dX4_isMagic_7 (by decide) (fun c_1 => ?_) (fun c_1 => ?_)
  · skip
    have c_1 : 8 ≤ i := (nI_leI (a := 8) (b := i) (by omega) (by omega)).mp c_1
    refine lv_iload_n (pc := 43) hx hb dX4_isMagic_43 rfl (lv_at hl 1 rfl) ?_
    have hi9 : i = 8 := by omega
    subst hi9
    exact W.zret (v := bI (eqTo (fun z => F (i0 * 256 + 0 * 8 + z)) (magG) 8)) hx hb hr (nbI (eqTo (fun z => F (i0 * 256 + 0 * 8 + z)) (magG) 8)) (fun t ht hW => ⟨⟨bI (eqTo (fun z => F (i0 * 256 + 0 * 8 + z)) (magG) 8), (), rfl, rfl, trivial⟩, hS.F ht⟩) hS.2.2 dX4_isMagic_44
  · skip
    have c_1 : ¬ 8 ≤ i := fun z => c_1 ((nI_leI (a := 8) (b := i) (by omega) (by omega)).mpr z)
    refine lv_iload_n (pc := 10) hx hb dX4_isMagic_10 rfl (lv_at hl 1 rfl) ?_
    refine lv_if_eq (pc := 11) (tgt := 35) hx hb dX4_isMagic_11 (by decide) (fun c1 => ?_) (fun c1 => ?_)
    · skip
      have c1 : (eqTo (fun z => F (i0 * 256 + 0 * 8 + z)) (magG) i) = false := bI_0.mp c1
      refine lv_iconst (pc := 35) (v := nI 0) hx hb dX4_isMagic_35 (by decide) ?_
      refine lv_cv (y := bI (eqTo (fun z => F (i0 * 256 + 0 * 8 + z)) (magG) (i + 1))) (by rw [show eqTo (fun z => F (i0 * 256 + 0 * 8 + z)) (magG) (i + 1) = false from by rw [eqTo_s]; first | (rw [c1, Bool.false_and]; done) | (rw [c1, Bool.true_and]; exact decide_eq_false (fun z => c2 (by rw [tbM_sb i (by omega)]; exact congrArg Int8.toInt32 z)))]; rfl) ?_
      refine lv_istore_n (pc := 36) (lv' := [(2, .int (bI (eqTo (fun z => F (i0 * 256 + 0 * 8 + z)) (magG) (i + 1)))), (3, .int (nI i)), (0, .ref ho), (1, .int (nI i0))]) hx hb dX4_isMagic_36 rfl hl (by decide) rfl (fun ls hl => ?_)
      refine lv_iinc (pc := 37) (v := nI (i + 1)) (lv' := [(3, .int (nI (i + 1))), (2, .int (bI (eqTo (fun z => F (i0 * 256 + 0 * 8 + z)) (magG) (i + 1)))), (0, .ref ho), (1, .int (nI i0))]) hx hb dX4_isMagic_37 hl (k := 1) rfl (nI_inc i 1) (by decide) rfl (fun ls hl => ?_)
      refine lv_goto (pc := 40) (tgt := 4) hx hb dX4_isMagic_40 (by decide) ?_
      exact ih4 (i + 1) H locs ls (by omega) (by first | omega | (simp only []; omega)) hP hD hS (lv_sub hl [0, 1, 2, 3] rfl)
    · skip
      have c1 : (eqTo (fun z => F (i0 * 256 + 0 * 8 + z)) (magG) i) = true := bI_1.mp c1
      refine lv_aload_n (pc := 14) hx hb dX4_isMagic_14 rfl (lv_at hl 2 rfl) ?_
      refine lv_iload_n (pc := 15) hx hb dX4_isMagic_15 rfl (lv_at hl 3 rfl) ?_
      refine lv_iconst (pc := 16) (v := nI 0) hx hb dX4_isMagic_16 (by decide) ?_
      refine x_roi (pc := 17) (va_runS (As := [.int (nI i0), .int (nI 0)]) (rest := [.ref ho]) ⟨hx, hb, hml, hown, hts⟩ (kX4_unit l dC dI tt cI cB _ i0 0) (va_cwS 2 hts gX4_isMagic_X4_unit rfl rfl rfl (by decide +kernel) ⟨Nat.le_of_ble_eq_true rfl, Nat.le_of_ble_eq_true rfl⟩) (x_preS hS hE hK hP hD [] rfl (by decide) (x_ro hS hA) xR0) rfl rfl hl.1 rfl (lv_room (Nat.le_of_ble_eq_true rfl)) dX4_isMagic_17 ⟨Nat.le_of_ble_eq_true rfl, Nat.le_of_ble_eq_true rfl⟩) hS hA hP (fun r_2 H locs hr_2 hP hS => ?_)
      subst hr_2
      refine lv_iload_n (pc := 20) hx hb dX4_isMagic_20 rfl (lv_at hl 0 rfl) ?_
      refine lv_iadd (pc := 21) hx hb dX4_isMagic_21 ?_
      refine lv_cv (nI_add (i0 * 256 + 0 * 8) i) ?_
      refine x_bald (pc := 22) (k := (i0 * 256 + 0 * 8) + i) (f := fun j => Int8.toInt32 (F j)) hx hb hK hP 0 1 rfl rfl (by omega) (by omega) dX4_isMagic_22 ?_
      refine va_gets (pc := 23) hx hb (hE.2.2.2.2.2.1).1 hS hown (hts (.fieldLink RX4 68 "ScratchSwapModel" "MAGIC" "[I") (by decide +kernel)) (fun _ h9 => h9) dX4_isMagic_23 ?_
      refine lv_iload_n (pc := 26) hx hb dX4_isMagic_26 rfl (lv_at hl 0 rfl) ?_
      refine x_ti (pc := 27) (k := i) hx hb (hE.2.2.2.2.2.1).2 hS (by omega) (by decide) dX4_isMagic_27 ?_
      refine lv_icmp_ne (pc := 28) (tgt := 35) hx hb dX4_isMagic_28 (by decide) (fun c2 => ?_) (fun c2 => ?_)
      · skip
        refine lv_iconst (pc := 35) (v := nI 0) hx hb dX4_isMagic_35 (by decide) ?_
        refine lv_cv (y := bI (eqTo (fun z => F (i0 * 256 + 0 * 8 + z)) (magG) (i + 1))) (by rw [show eqTo (fun z => F (i0 * 256 + 0 * 8 + z)) (magG) (i + 1) = false from by rw [eqTo_s]; first | (rw [c1, Bool.false_and]; done) | (rw [c1, Bool.true_and]; exact decide_eq_false (fun z => c2 (by rw [tbM_sb i (by omega)]; exact congrArg Int8.toInt32 z)))]; rfl) ?_
        refine lv_istore_n (pc := 36) (lv' := [(2, .int (bI (eqTo (fun z => F (i0 * 256 + 0 * 8 + z)) (magG) (i + 1)))), (3, .int (nI i)), (0, .ref ho), (1, .int (nI i0))]) hx hb dX4_isMagic_36 rfl hl (by decide) rfl (fun ls hl => ?_)
        refine lv_iinc (pc := 37) (v := nI (i + 1)) (lv' := [(3, .int (nI (i + 1))), (2, .int (bI (eqTo (fun z => F (i0 * 256 + 0 * 8 + z)) (magG) (i + 1)))), (0, .ref ho), (1, .int (nI i0))]) hx hb dX4_isMagic_37 hl (k := 1) rfl (nI_inc i 1) (by decide) rfl (fun ls hl => ?_)
        refine lv_goto (pc := 40) (tgt := 4) hx hb dX4_isMagic_40 (by decide) ?_
        exact ih4 (i + 1) H locs ls (by omega) (by first | omega | (simp only []; omega)) hP hD hS (lv_sub hl [0, 1, 2, 3] rfl)
      · skip
        refine lv_iconst (pc := 31) (v := nI 1) hx hb dX4_isMagic_31 (by decide) ?_
        refine lv_cv (y := bI (eqTo (fun z => F (i0 * 256 + 0 * 8 + z)) (magG) (i + 1))) (by rw [show eqTo (fun z => F (i0 * 256 + 0 * 8 + z)) (magG) (i + 1) = true from by rw [eqTo_s]; first | (rw [c1, Bool.false_and]; done) | (rw [c1, Bool.true_and]; exact decide_eq_true (sb_inj.mp (by rw [← tbM_sb i (by omega)]; exact c2)))]; rfl) ?_
        refine lv_goto (pc := 32) (tgt := 36) hx hb dX4_isMagic_32 (by decide) ?_
        refine lv_istore_n (pc := 36) (lv' := [(2, .int (bI (eqTo (fun z => F (i0 * 256 + 0 * 8 + z)) (magG) (i + 1)))), (3, .int (nI i)), (0, .ref ho), (1, .int (nI i0))]) hx hb dX4_isMagic_36 rfl hl (by decide) rfl (fun ls hl => ?_)
        refine lv_iinc (pc := 37) (v := nI (i + 1)) (lv' := [(3, .int (nI (i + 1))), (2, .int (bI (eqTo (fun z => F (i0 * 256 + 0 * 8 + z)) (magG) (i + 1)))), (0, .ref ho), (1, .int (nI i0))]) hx hb dX4_isMagic_37 hl (k := 1) rfl (nI_inc i 1) (by decide) rfl (fun ls hl => ?_)
        refine lv_goto (pc := 40) (tgt := 4) hx hb dX4_isMagic_40 (by decide) ?_
        exact ih4 (i + 1) H locs ls (by omega) (by first | omega | (simp only []; omega)) hP hD hS (lv_sub hl [0, 1, 2, 3] rfl)
set_option maxHeartbeats 4000000 in
set_option maxRecDepth 100000 in
theorem kX4_set (l : Launch) (dC : Nat → ClassId) (dI : Nat → Nat → Nat) (tt : Nat → Nat) (cI cB : ClassId) (sz : Nat) (ho n : Nat) (F : Nat → Int8) (i0 j0 : Nat) (hn : n < 2 ^ 30) (hp : i0 * 256 + j0 * 8 + 8 ≤ n) : MetR l yX4_set wsX4_set { frames := 1, cells := 0, slots := 0, locals := 21 } (dC, dI) [(cI, .int), (cB, .byte)] tt [] sz (bW ho cB n F) [.ref ho, .int (nI i0), .int (nI j0)] (fun r => r = nI (setN F (i0 * 256 + j0 * 8))) := by
  refine Met.ofW (cc := cX4_set) (maxL := 7) (ret := (some .int)) (by decide) rfl ?_
  intro p e s m args below meth c s₁ B hml hv
  obtain ⟨rfl, hsz, hP, hK, hD0, hE⟩ := hv
  have hx := B.exec
  have hb := B.bytes
  have hr := B.returns
  have hts := atoms_spec (ws := wsX4_set) B.pre
  have hown : s.vm.findClass RX4 = some m.cls := findClass_of_methodNamed B.named
  have hlocks := B.notSynchronized
  subst hsz
  have hD := hD0
  generalize hAe : va_A [] s.heap.size = A at hE ⊢
  have hA : ∀ q : Nat, s.heap.size ≤ q → A q := fun q h => by rw [← hAe]; exact Or.inr h
  have hS : va_S A s.heap s.heap [] := va_S.rf
  have hl := lv_entry ([.ref ho, .int (nI i0), .int (nI j0)]) (n := 7) (Nat.le_of_ble_eq_true rfl)
  rw [lg_entry_eq]
  generalize (lg_sl ([.ref ho, .int (nI i0), .int (nI j0)]) ++ List.replicate (7 - (lg_sl ([.ref ho, .int (nI i0), .int (nI j0)])).length) Slot.unset).toArray = ls at hl ⊢
  have hl : lv_has ls 7 [(0, .ref ho), (1, .int (nI i0)), (2, .int (nI j0))] := hl
  have hP : va_P (dC, dI) vwCl (bW ho cB n F) s.heap := hP
  refine lv_iload_n (pc := 0) hx hb dX4_set_0 rfl (lv_at hl 1 rfl) ?_
  refine lv_iload_n (pc := 1) hx hb dX4_set_1 rfl (lv_at hl 2 rfl) ?_
  refine x_roi (pc := 2) (va_runS (As := [.int (nI i0), .int (nI j0)]) (rest := []) ⟨hx, hb, hml, hown, hts⟩ (kX4_unit l dC dI tt cI cB _ i0 j0) (va_cwS 2 hts gX4_set_X4_unit rfl rfl rfl (by decide +kernel) ⟨Nat.le_of_ble_eq_true rfl, Nat.le_of_ble_eq_true rfl⟩) (x_preS hS hE hK hP hD [] rfl (by decide) (x_ro hS hA) xR0) rfl rfl hl.1 rfl (lv_room (Nat.le_of_ble_eq_true rfl)) dX4_set_2 ⟨Nat.le_of_ble_eq_true rfl, Nat.le_of_ble_eq_true rfl⟩) hS hA hP (fun r_1 H locs hr_1 hP hS => ?_)
  subst hr_1
  refine lv_istore_n (pc := 5) (lv' := [(3, .int (nI (i0 * 256 + j0 * 8))), (0, .ref ho), (1, .int (nI i0)), (2, .int (nI j0))]) hx hb dX4_set_5 rfl hl (by decide) rfl (fun ls hl => ?_)
  refine lv_aload_n (pc := 6) hx hb dX4_set_6 rfl (lv_at hl 1 rfl) ?_
  refine lv_iload_n (pc := 7) hx hb dX4_set_7 rfl (lv_at hl 0 rfl) ?_
  refine x_bald (pc := 8) (k := i0 * 256 + j0 * 8) (f := fun j => Int8.toInt32 (F j)) hx hb hK hP 0 1 rfl rfl (by omega) (by omega) dX4_set_8 ?_
  refine lv_istore (pc := 9) (lv' := [(4, .int (Int8.toInt32 (F (i0 * 256 + j0 * 8)))), (3, .int (nI (i0 * 256 + j0 * 8))), (0, .ref ho), (1, .int (nI i0)), (2, .int (nI j0))]) hx hb dX4_set_9 hl (by decide) rfl (fun ls hl => ?_)
  refine lv_iload (pc := 11) hx hb dX4_set_11 (lv_at hl 0 rfl) ?_
  refine lv_iconst (pc := 13) (v := nI 1) hx hb dX4_set_13 (by decide) ?_
  refine lv_icmp_lt (pc := 14) (tgt := 27) hx hb dX4_set_14 (by decide) (fun c1 => ?_) (fun c1 => ?_)
  · skip
    refine lv_iconst (pc := 27) (v := nI 0) hx hb dX4_set_27 (by decide) ?_
    refine lv_cv (y := bI (rgB (F (i0 * 256 + j0 * 8)))) (by rw [show rgB (F (i0 * 256 + j0 * 8)) = false from (by first | exact rg_f1 c1 | exact rg_f2 c2)]; rfl) ?_
    refine lv_istore (pc := 28) (lv' := [(5, .int (bI (rgB (F (i0 * 256 + j0 * 8))))), (4, .int (Int8.toInt32 (F (i0 * 256 + j0 * 8)))), (3, .int (nI (i0 * 256 + j0 * 8))), (0, .ref ho), (1, .int (nI i0)), (2, .int (nI j0))]) hx hb dX4_set_28 hl (by decide) rfl (fun ls hl => ?_)
    refine lv_iconst (pc := 30) (v := nI 1) hx hb dX4_set_30 (by decide) ?_
    refine lv_istore (pc := 31) (lv' := [(6, .int (nI 1)), (5, .int (bI (rgB (F (i0 * 256 + j0 * 8))))), (4, .int (Int8.toInt32 (F (i0 * 256 + j0 * 8)))), (3, .int (nI (i0 * 256 + j0 * 8))), (0, .ref ho), (1, .int (nI i0)), (2, .int (nI j0))]) hx hb dX4_set_31 hl (by decide) rfl (fun ls hl => ?_)
    have hl : lv_has ls 7 [(6, .int (nI 1)), (5, .int (bI (rgB (F (i0 * 256 + j0 * 8)) && eqTo (fun z => F (i0 * 256 + j0 * 8 + z)) (fun _ => F (i0 * 256 + j0 * 8)) 1))), (4, .int (Int8.toInt32 (F (i0 * 256 + j0 * 8)))), (3, .int (nI (i0 * 256 + j0 * 8))), (0, .ref ho), (1, .int (nI i0)), (2, .int (nI j0))] := by rw [show eqTo (fun z => F (i0 * 256 + j0 * 8 + z)) (fun _ => F (i0 * 256 + j0 * 8)) 1 = true from by rw [show (1 : Nat) = 0 + 1 from rfl, eqTo_s, eqTo_0]; simp, Bool.and_true]; exact hl
    refine x_loop (σ := (Nat)) (Wd := fun i : (Nat) => bW ho cB n F) (Lv := fun i : (Nat) => [(6, .int (nI i)), (5, .int (bI (rgB (F (i0 * 256 + j0 * 8)) && eqTo (fun z => F (i0 * 256 + j0 * 8 + z)) (fun _ => F (i0 * 256 + j0 * 8)) i))), (4, .int (Int8.toInt32 (F (i0 * 256 + j0 * 8)))), (3, .int (nI (i0 * 256 + j0 * 8))), (0, .ref ho), (1, .int (nI i0)), (2, .int (nI j0))]) (I := fun i : (Nat) => (1 ≤ i) ∧ (i ≤ 8)) (μ := fun i : (Nat) => 8 - i) ?_ (1) ⟨by omega, by omega⟩ hP hD hS (lv_sub hl [0, 1, 2, 3, 4, 5, 6] rfl)
    intro i H locs ls hI hP hD hS hl ih33
    obtain ⟨hi1, hi⟩ : (1 ≤ i) ∧ (i ≤ 8) := hI
    have hP : va_P (dC, dI) vwCl (bW ho cB n F) _ := hP
    have hD : va_D (fun _ => True) (bW ho cB n F) := hD
    have hl : lv_has ls 7 [(6, .int (nI i)), (5, .int (bI (rgB (F (i0 * 256 + j0 * 8)) && eqTo (fun z => F (i0 * 256 + j0 * 8 + z)) (fun _ => F (i0 * 256 + j0 * 8)) i))), (4, .int (Int8.toInt32 (F (i0 * 256 + j0 * 8)))), (3, .int (nI (i0 * 256 + j0 * 8))), (0, .ref ho), (1, .int (nI i0)), (2, .int (nI j0))] := hl
    refine lv_iload (pc := 33) hx hb dX4_set_33 (lv_at hl 0 rfl) ?_
    refine lv_bipush (pc := 35) (v := nI 8) hx hb dX4_set_35 (by decide) ?_
    refine lv_icmp_ge (pc := 37) (tgt := 69) hx hb dX4_set_37 (by decide) (fun c_2 => ?_) (fun c_2 => ?_)
    · skip
      have c_2 : 8 ≤ i := (nI_leI (a := 8) (b := i) (by omega) (by omega)).mp c_2
      refine lv_iload (pc := 69) hx hb dX4_set_69 (lv_at hl 1 rfl) ?_
      refine lv_if_eq (pc := 71) (tgt := 79) hx hb dX4_set_71 (by decide) (fun c5 => ?_) (fun c5 => ?_)
      · skip
        have c5 : (rgB (F (i0 * 256 + j0 * 8)) && eqTo (fun z => F (i0 * 256 + j0 * 8 + z)) (fun _ => F (i0 * 256 + j0 * 8)) i) = false := bI_0.mp c5
        refine lv_iconst (pc := 79) (v := nI 0) hx hb dX4_set_79 (by decide) ?_
        have hi9 : i = 8 := by omega
        rw [hi9] at c5
        exact W.iret (v := nI 0) hx hb hr (fun t ht hW => ⟨⟨nI 0, (), rfl, by rw [setN, if_neg (fun z => by rw [show rgB (F (i0 * 256 + j0 * 8)) = true from decide_eq_true ⟨z.1, z.2.1⟩, z.2.2] at c5; exact absurd c5 (by decide))], trivial⟩, hS.F ht⟩) hS.2.2 dX4_set_80
      · skip
        have c5 : (rgB (F (i0 * 256 + j0 * 8)) && eqTo (fun z => F (i0 * 256 + j0 * 8 + z)) (fun _ => F (i0 * 256 + j0 * 8)) i) = true := bI_1.mp c5
        refine lv_iload (pc := 74) hx hb dX4_set_74 (lv_at hl 2 rfl) ?_
        refine lv_goto (pc := 76) (tgt := 80) hx hb dX4_set_76 (by decide) ?_
        have hi9 : i = 8 := by omega
        rw [hi9] at c5
        exact W.iret (v := Int8.toInt32 (F (i0 * 256 + j0 * 8))) hx hb hr (fun t ht hW => ⟨⟨Int8.toInt32 (F (i0 * 256 + j0 * 8)), (), rfl, by have h5 := (Bool.and_eq_true _ _).mp c5; have h6 := of_decide_eq_true h5.1; rw [rg_v h5.1, setN, if_pos ⟨h6.1, h6.2, h5.2⟩], trivial⟩, hS.F ht⟩) hS.2.2 dX4_set_80
    · skip
      have c_2 : ¬ 8 ≤ i := fun z => c_2 ((nI_leI (a := 8) (b := i) (by omega) (by omega)).mpr z)
      refine lv_iload (pc := 40) hx hb dX4_set_40 (lv_at hl 1 rfl) ?_
      refine lv_if_eq (pc := 42) (tgt := 60) hx hb dX4_set_42 (by decide) (fun c3 => ?_) (fun c3 => ?_)
      · skip
        have c3 : (rgB (F (i0 * 256 + j0 * 8)) && eqTo (fun z => F (i0 * 256 + j0 * 8 + z)) (fun _ => F (i0 * 256 + j0 * 8)) i) = false := bI_0.mp c3
        refine lv_iconst (pc := 60) (v := nI 0) hx hb dX4_set_60 (by decide) ?_
        refine lv_cv (y := bI (rgB (F (i0 * 256 + j0 * 8)) && eqTo (fun z => F (i0 * 256 + j0 * 8 + z)) (fun _ => F (i0 * 256 + j0 * 8)) (i + 1))) (by rw [show (rgB (F (i0 * 256 + j0 * 8)) && eqTo (fun z => F (i0 * 256 + j0 * 8 + z)) (fun _ => F (i0 * 256 + j0 * 8)) (i + 1)) = false from by rw [eqTo_s, ← Bool.and_assoc]; first | (rw [c3, Bool.false_and]; done) | (rw [c3, Bool.true_and]; exact decide_eq_false (fun z => c4 (congrArg Int8.toInt32 z)))]; rfl) ?_
        refine lv_istore (pc := 61) (lv' := [(5, .int (bI (rgB (F (i0 * 256 + j0 * 8)) && eqTo (fun z => F (i0 * 256 + j0 * 8 + z)) (fun _ => F (i0 * 256 + j0 * 8)) (i + 1)))), (6, .int (nI i)), (4, .int (Int8.toInt32 (F (i0 * 256 + j0 * 8)))), (3, .int (nI (i0 * 256 + j0 * 8))), (0, .ref ho), (1, .int (nI i0)), (2, .int (nI j0))]) hx hb dX4_set_61 hl (by decide) rfl (fun ls hl => ?_)
        refine lv_iinc (pc := 63) (v := nI (i + 1)) (lv' := [(6, .int (nI (i + 1))), (5, .int (bI (rgB (F (i0 * 256 + j0 * 8)) && eqTo (fun z => F (i0 * 256 + j0 * 8 + z)) (fun _ => F (i0 * 256 + j0 * 8)) (i + 1)))), (4, .int (Int8.toInt32 (F (i0 * 256 + j0 * 8)))), (3, .int (nI (i0 * 256 + j0 * 8))), (0, .ref ho), (1, .int (nI i0)), (2, .int (nI j0))]) hx hb dX4_set_63 hl (k := 1) rfl (nI_inc i 1) (by decide) rfl (fun ls hl => ?_)
        refine lv_goto (pc := 66) (tgt := 33) hx hb dX4_set_66 (by decide) ?_
        exact ih33 (i + 1) H locs ls ⟨by omega, by omega⟩ (by first | omega | (simp only []; omega)) hP hD hS (lv_sub hl [0, 1, 2, 3, 4, 5, 6] rfl)
      · skip
        have c3 : (rgB (F (i0 * 256 + j0 * 8)) && eqTo (fun z => F (i0 * 256 + j0 * 8 + z)) (fun _ => F (i0 * 256 + j0 * 8)) i) = true := bI_1.mp c3
        refine lv_aload_n (pc := 45) hx hb dX4_set_45 rfl (lv_at hl 4 rfl) ?_
        refine lv_iload_n (pc := 46) hx hb dX4_set_46 rfl (lv_at hl 3 rfl) ?_
        refine lv_iload (pc := 47) hx hb dX4_set_47 (lv_at hl 0 rfl) ?_
        refine lv_iadd (pc := 49) hx hb dX4_set_49 ?_
        refine lv_cv (nI_add (i0 * 256 + j0 * 8) i) ?_
        refine x_bald (pc := 50) (k := (i0 * 256 + j0 * 8) + i) (f := fun j => Int8.toInt32 (F j)) hx hb hK hP 0 1 rfl rfl (by omega) (by omega) dX4_set_50 ?_
        refine lv_iload (pc := 51) hx hb dX4_set_51 (lv_at hl 2 rfl) ?_
        refine lv_icmp_ne (pc := 53) (tgt := 60) hx hb dX4_set_53 (by decide) (fun c4 => ?_) (fun c4 => ?_)
        · skip
          refine lv_iconst (pc := 60) (v := nI 0) hx hb dX4_set_60 (by decide) ?_
          refine lv_cv (y := bI (rgB (F (i0 * 256 + j0 * 8)) && eqTo (fun z => F (i0 * 256 + j0 * 8 + z)) (fun _ => F (i0 * 256 + j0 * 8)) (i + 1))) (by rw [show (rgB (F (i0 * 256 + j0 * 8)) && eqTo (fun z => F (i0 * 256 + j0 * 8 + z)) (fun _ => F (i0 * 256 + j0 * 8)) (i + 1)) = false from by rw [eqTo_s, ← Bool.and_assoc]; first | (rw [c3, Bool.false_and]; done) | (rw [c3, Bool.true_and]; exact decide_eq_false (fun z => c4 (congrArg Int8.toInt32 z)))]; rfl) ?_
          refine lv_istore (pc := 61) (lv' := [(5, .int (bI (rgB (F (i0 * 256 + j0 * 8)) && eqTo (fun z => F (i0 * 256 + j0 * 8 + z)) (fun _ => F (i0 * 256 + j0 * 8)) (i + 1)))), (6, .int (nI i)), (4, .int (Int8.toInt32 (F (i0 * 256 + j0 * 8)))), (3, .int (nI (i0 * 256 + j0 * 8))), (0, .ref ho), (1, .int (nI i0)), (2, .int (nI j0))]) hx hb dX4_set_61 hl (by decide) rfl (fun ls hl => ?_)
          refine lv_iinc (pc := 63) (v := nI (i + 1)) (lv' := [(6, .int (nI (i + 1))), (5, .int (bI (rgB (F (i0 * 256 + j0 * 8)) && eqTo (fun z => F (i0 * 256 + j0 * 8 + z)) (fun _ => F (i0 * 256 + j0 * 8)) (i + 1)))), (4, .int (Int8.toInt32 (F (i0 * 256 + j0 * 8)))), (3, .int (nI (i0 * 256 + j0 * 8))), (0, .ref ho), (1, .int (nI i0)), (2, .int (nI j0))]) hx hb dX4_set_63 hl (k := 1) rfl (nI_inc i 1) (by decide) rfl (fun ls hl => ?_)
          refine lv_goto (pc := 66) (tgt := 33) hx hb dX4_set_66 (by decide) ?_
          exact ih33 (i + 1) H locs ls ⟨by omega, by omega⟩ (by first | omega | (simp only []; omega)) hP hD hS (lv_sub hl [0, 1, 2, 3, 4, 5, 6] rfl)
        · skip
          refine lv_iconst (pc := 56) (v := nI 1) hx hb dX4_set_56 (by decide) ?_
          refine lv_cv (y := bI (rgB (F (i0 * 256 + j0 * 8)) && eqTo (fun z => F (i0 * 256 + j0 * 8 + z)) (fun _ => F (i0 * 256 + j0 * 8)) (i + 1))) (by rw [show (rgB (F (i0 * 256 + j0 * 8)) && eqTo (fun z => F (i0 * 256 + j0 * 8 + z)) (fun _ => F (i0 * 256 + j0 * 8)) (i + 1)) = true from by rw [eqTo_s, ← Bool.and_assoc]; first | (rw [c3, Bool.false_and]; done) | (rw [c3, Bool.true_and]; exact decide_eq_true (sb_inj.mp c4))]; rfl) ?_
          refine lv_goto (pc := 57) (tgt := 61) hx hb dX4_set_57 (by decide) ?_
          refine lv_istore (pc := 61) (lv' := [(5, .int (bI (rgB (F (i0 * 256 + j0 * 8)) && eqTo (fun z => F (i0 * 256 + j0 * 8 + z)) (fun _ => F (i0 * 256 + j0 * 8)) (i + 1)))), (6, .int (nI i)), (4, .int (Int8.toInt32 (F (i0 * 256 + j0 * 8)))), (3, .int (nI (i0 * 256 + j0 * 8))), (0, .ref ho), (1, .int (nI i0)), (2, .int (nI j0))]) hx hb dX4_set_61 hl (by decide) rfl (fun ls hl => ?_)
          refine lv_iinc (pc := 63) (v := nI (i + 1)) (lv' := [(6, .int (nI (i + 1))), (5, .int (bI (rgB (F (i0 * 256 + j0 * 8)) && eqTo (fun z => F (i0 * 256 + j0 * 8 + z)) (fun _ => F (i0 * 256 + j0 * 8)) (i + 1)))), (4, .int (Int8.toInt32 (F (i0 * 256 + j0 * 8)))), (3, .int (nI (i0 * 256 + j0 * 8))), (0, .ref ho), (1, .int (nI i0)), (2, .int (nI j0))]) hx hb dX4_set_63 hl (k := 1) rfl (nI_inc i 1) (by decide) rfl (fun ls hl => ?_)
          refine lv_goto (pc := 66) (tgt := 33) hx hb dX4_set_66 (by decide) ?_
          exact ih33 (i + 1) H locs ls ⟨by omega, by omega⟩ (by first | omega | (simp only []; omega)) hP hD hS (lv_sub hl [0, 1, 2, 3, 4, 5, 6] rfl)
  · skip
    refine lv_iload (pc := 17) hx hb dX4_set_17 (lv_at hl 0 rfl) ?_
    refine lv_iconst (pc := 19) (v := nI 3) hx hb dX4_set_19 (by decide) ?_
    refine lv_icmp_gt (pc := 20) (tgt := 27) hx hb dX4_set_20 (by decide) (fun c2 => ?_) (fun c2 => ?_)
    · skip
      refine lv_iconst (pc := 27) (v := nI 0) hx hb dX4_set_27 (by decide) ?_
      refine lv_cv (y := bI (rgB (F (i0 * 256 + j0 * 8)))) (by rw [show rgB (F (i0 * 256 + j0 * 8)) = false from (by first | exact rg_f1 c1 | exact rg_f2 c2)]; rfl) ?_
      refine lv_istore (pc := 28) (lv' := [(5, .int (bI (rgB (F (i0 * 256 + j0 * 8))))), (4, .int (Int8.toInt32 (F (i0 * 256 + j0 * 8)))), (3, .int (nI (i0 * 256 + j0 * 8))), (0, .ref ho), (1, .int (nI i0)), (2, .int (nI j0))]) hx hb dX4_set_28 hl (by decide) rfl (fun ls hl => ?_)
      refine lv_iconst (pc := 30) (v := nI 1) hx hb dX4_set_30 (by decide) ?_
      refine lv_istore (pc := 31) (lv' := [(6, .int (nI 1)), (5, .int (bI (rgB (F (i0 * 256 + j0 * 8))))), (4, .int (Int8.toInt32 (F (i0 * 256 + j0 * 8)))), (3, .int (nI (i0 * 256 + j0 * 8))), (0, .ref ho), (1, .int (nI i0)), (2, .int (nI j0))]) hx hb dX4_set_31 hl (by decide) rfl (fun ls hl => ?_)
      have hl : lv_has ls 7 [(6, .int (nI 1)), (5, .int (bI (rgB (F (i0 * 256 + j0 * 8)) && eqTo (fun z => F (i0 * 256 + j0 * 8 + z)) (fun _ => F (i0 * 256 + j0 * 8)) 1))), (4, .int (Int8.toInt32 (F (i0 * 256 + j0 * 8)))), (3, .int (nI (i0 * 256 + j0 * 8))), (0, .ref ho), (1, .int (nI i0)), (2, .int (nI j0))] := by rw [show eqTo (fun z => F (i0 * 256 + j0 * 8 + z)) (fun _ => F (i0 * 256 + j0 * 8)) 1 = true from by rw [show (1 : Nat) = 0 + 1 from rfl, eqTo_s, eqTo_0]; simp, Bool.and_true]; exact hl
      refine x_loop (σ := (Nat)) (Wd := fun i : (Nat) => bW ho cB n F) (Lv := fun i : (Nat) => [(6, .int (nI i)), (5, .int (bI (rgB (F (i0 * 256 + j0 * 8)) && eqTo (fun z => F (i0 * 256 + j0 * 8 + z)) (fun _ => F (i0 * 256 + j0 * 8)) i))), (4, .int (Int8.toInt32 (F (i0 * 256 + j0 * 8)))), (3, .int (nI (i0 * 256 + j0 * 8))), (0, .ref ho), (1, .int (nI i0)), (2, .int (nI j0))]) (I := fun i : (Nat) => (1 ≤ i) ∧ (i ≤ 8)) (μ := fun i : (Nat) => 8 - i) ?_ (1) ⟨by omega, by omega⟩ hP hD hS (lv_sub hl [0, 1, 2, 3, 4, 5, 6] rfl)
      intro i H locs ls hI hP hD hS hl ih33
      obtain ⟨hi1, hi⟩ : (1 ≤ i) ∧ (i ≤ 8) := hI
      have hP : va_P (dC, dI) vwCl (bW ho cB n F) _ := hP
      have hD : va_D (fun _ => True) (bW ho cB n F) := hD
      have hl : lv_has ls 7 [(6, .int (nI i)), (5, .int (bI (rgB (F (i0 * 256 + j0 * 8)) && eqTo (fun z => F (i0 * 256 + j0 * 8 + z)) (fun _ => F (i0 * 256 + j0 * 8)) i))), (4, .int (Int8.toInt32 (F (i0 * 256 + j0 * 8)))), (3, .int (nI (i0 * 256 + j0 * 8))), (0, .ref ho), (1, .int (nI i0)), (2, .int (nI j0))] := hl
      refine lv_iload (pc := 33) hx hb dX4_set_33 (lv_at hl 0 rfl) ?_
      refine lv_bipush (pc := 35) (v := nI 8) hx hb dX4_set_35 (by decide) ?_
      refine lv_icmp_ge (pc := 37) (tgt := 69) hx hb dX4_set_37 (by decide) (fun c_3 => ?_) (fun c_3 => ?_)
      · skip
        have c_3 : 8 ≤ i := (nI_leI (a := 8) (b := i) (by omega) (by omega)).mp c_3
        refine lv_iload (pc := 69) hx hb dX4_set_69 (lv_at hl 1 rfl) ?_
        refine lv_if_eq (pc := 71) (tgt := 79) hx hb dX4_set_71 (by decide) (fun c5 => ?_) (fun c5 => ?_)
        · skip
          have c5 : (rgB (F (i0 * 256 + j0 * 8)) && eqTo (fun z => F (i0 * 256 + j0 * 8 + z)) (fun _ => F (i0 * 256 + j0 * 8)) i) = false := bI_0.mp c5
          refine lv_iconst (pc := 79) (v := nI 0) hx hb dX4_set_79 (by decide) ?_
          have hi9 : i = 8 := by omega
          rw [hi9] at c5
          exact W.iret (v := nI 0) hx hb hr (fun t ht hW => ⟨⟨nI 0, (), rfl, by rw [setN, if_neg (fun z => by rw [show rgB (F (i0 * 256 + j0 * 8)) = true from decide_eq_true ⟨z.1, z.2.1⟩, z.2.2] at c5; exact absurd c5 (by decide))], trivial⟩, hS.F ht⟩) hS.2.2 dX4_set_80
        · skip
          have c5 : (rgB (F (i0 * 256 + j0 * 8)) && eqTo (fun z => F (i0 * 256 + j0 * 8 + z)) (fun _ => F (i0 * 256 + j0 * 8)) i) = true := bI_1.mp c5
          refine lv_iload (pc := 74) hx hb dX4_set_74 (lv_at hl 2 rfl) ?_
          refine lv_goto (pc := 76) (tgt := 80) hx hb dX4_set_76 (by decide) ?_
          have hi9 : i = 8 := by omega
          rw [hi9] at c5
          exact W.iret (v := Int8.toInt32 (F (i0 * 256 + j0 * 8))) hx hb hr (fun t ht hW => ⟨⟨Int8.toInt32 (F (i0 * 256 + j0 * 8)), (), rfl, by have h5 := (Bool.and_eq_true _ _).mp c5; have h6 := of_decide_eq_true h5.1; rw [rg_v h5.1, setN, if_pos ⟨h6.1, h6.2, h5.2⟩], trivial⟩, hS.F ht⟩) hS.2.2 dX4_set_80
      · skip
        have c_3 : ¬ 8 ≤ i := fun z => c_3 ((nI_leI (a := 8) (b := i) (by omega) (by omega)).mpr z)
        refine lv_iload (pc := 40) hx hb dX4_set_40 (lv_at hl 1 rfl) ?_
        refine lv_if_eq (pc := 42) (tgt := 60) hx hb dX4_set_42 (by decide) (fun c3 => ?_) (fun c3 => ?_)
        · skip
          have c3 : (rgB (F (i0 * 256 + j0 * 8)) && eqTo (fun z => F (i0 * 256 + j0 * 8 + z)) (fun _ => F (i0 * 256 + j0 * 8)) i) = false := bI_0.mp c3
          refine lv_iconst (pc := 60) (v := nI 0) hx hb dX4_set_60 (by decide) ?_
          refine lv_cv (y := bI (rgB (F (i0 * 256 + j0 * 8)) && eqTo (fun z => F (i0 * 256 + j0 * 8 + z)) (fun _ => F (i0 * 256 + j0 * 8)) (i + 1))) (by rw [show (rgB (F (i0 * 256 + j0 * 8)) && eqTo (fun z => F (i0 * 256 + j0 * 8 + z)) (fun _ => F (i0 * 256 + j0 * 8)) (i + 1)) = false from by rw [eqTo_s, ← Bool.and_assoc]; first | (rw [c3, Bool.false_and]; done) | (rw [c3, Bool.true_and]; exact decide_eq_false (fun z => c4 (congrArg Int8.toInt32 z)))]; rfl) ?_
          refine lv_istore (pc := 61) (lv' := [(5, .int (bI (rgB (F (i0 * 256 + j0 * 8)) && eqTo (fun z => F (i0 * 256 + j0 * 8 + z)) (fun _ => F (i0 * 256 + j0 * 8)) (i + 1)))), (6, .int (nI i)), (4, .int (Int8.toInt32 (F (i0 * 256 + j0 * 8)))), (3, .int (nI (i0 * 256 + j0 * 8))), (0, .ref ho), (1, .int (nI i0)), (2, .int (nI j0))]) hx hb dX4_set_61 hl (by decide) rfl (fun ls hl => ?_)
          refine lv_iinc (pc := 63) (v := nI (i + 1)) (lv' := [(6, .int (nI (i + 1))), (5, .int (bI (rgB (F (i0 * 256 + j0 * 8)) && eqTo (fun z => F (i0 * 256 + j0 * 8 + z)) (fun _ => F (i0 * 256 + j0 * 8)) (i + 1)))), (4, .int (Int8.toInt32 (F (i0 * 256 + j0 * 8)))), (3, .int (nI (i0 * 256 + j0 * 8))), (0, .ref ho), (1, .int (nI i0)), (2, .int (nI j0))]) hx hb dX4_set_63 hl (k := 1) rfl (nI_inc i 1) (by decide) rfl (fun ls hl => ?_)
          refine lv_goto (pc := 66) (tgt := 33) hx hb dX4_set_66 (by decide) ?_
          exact ih33 (i + 1) H locs ls ⟨by omega, by omega⟩ (by first | omega | (simp only []; omega)) hP hD hS (lv_sub hl [0, 1, 2, 3, 4, 5, 6] rfl)
        · skip
          have c3 : (rgB (F (i0 * 256 + j0 * 8)) && eqTo (fun z => F (i0 * 256 + j0 * 8 + z)) (fun _ => F (i0 * 256 + j0 * 8)) i) = true := bI_1.mp c3
          refine lv_aload_n (pc := 45) hx hb dX4_set_45 rfl (lv_at hl 4 rfl) ?_
          refine lv_iload_n (pc := 46) hx hb dX4_set_46 rfl (lv_at hl 3 rfl) ?_
          refine lv_iload (pc := 47) hx hb dX4_set_47 (lv_at hl 0 rfl) ?_
          refine lv_iadd (pc := 49) hx hb dX4_set_49 ?_
          refine lv_cv (nI_add (i0 * 256 + j0 * 8) i) ?_
          refine x_bald (pc := 50) (k := (i0 * 256 + j0 * 8) + i) (f := fun j => Int8.toInt32 (F j)) hx hb hK hP 0 1 rfl rfl (by omega) (by omega) dX4_set_50 ?_
          refine lv_iload (pc := 51) hx hb dX4_set_51 (lv_at hl 2 rfl) ?_
          refine lv_icmp_ne (pc := 53) (tgt := 60) hx hb dX4_set_53 (by decide) (fun c4 => ?_) (fun c4 => ?_)
          · skip
            refine lv_iconst (pc := 60) (v := nI 0) hx hb dX4_set_60 (by decide) ?_
            refine lv_cv (y := bI (rgB (F (i0 * 256 + j0 * 8)) && eqTo (fun z => F (i0 * 256 + j0 * 8 + z)) (fun _ => F (i0 * 256 + j0 * 8)) (i + 1))) (by rw [show (rgB (F (i0 * 256 + j0 * 8)) && eqTo (fun z => F (i0 * 256 + j0 * 8 + z)) (fun _ => F (i0 * 256 + j0 * 8)) (i + 1)) = false from by rw [eqTo_s, ← Bool.and_assoc]; first | (rw [c3, Bool.false_and]; done) | (rw [c3, Bool.true_and]; exact decide_eq_false (fun z => c4 (congrArg Int8.toInt32 z)))]; rfl) ?_
            refine lv_istore (pc := 61) (lv' := [(5, .int (bI (rgB (F (i0 * 256 + j0 * 8)) && eqTo (fun z => F (i0 * 256 + j0 * 8 + z)) (fun _ => F (i0 * 256 + j0 * 8)) (i + 1)))), (6, .int (nI i)), (4, .int (Int8.toInt32 (F (i0 * 256 + j0 * 8)))), (3, .int (nI (i0 * 256 + j0 * 8))), (0, .ref ho), (1, .int (nI i0)), (2, .int (nI j0))]) hx hb dX4_set_61 hl (by decide) rfl (fun ls hl => ?_)
            refine lv_iinc (pc := 63) (v := nI (i + 1)) (lv' := [(6, .int (nI (i + 1))), (5, .int (bI (rgB (F (i0 * 256 + j0 * 8)) && eqTo (fun z => F (i0 * 256 + j0 * 8 + z)) (fun _ => F (i0 * 256 + j0 * 8)) (i + 1)))), (4, .int (Int8.toInt32 (F (i0 * 256 + j0 * 8)))), (3, .int (nI (i0 * 256 + j0 * 8))), (0, .ref ho), (1, .int (nI i0)), (2, .int (nI j0))]) hx hb dX4_set_63 hl (k := 1) rfl (nI_inc i 1) (by decide) rfl (fun ls hl => ?_)
            refine lv_goto (pc := 66) (tgt := 33) hx hb dX4_set_66 (by decide) ?_
            exact ih33 (i + 1) H locs ls ⟨by omega, by omega⟩ (by first | omega | (simp only []; omega)) hP hD hS (lv_sub hl [0, 1, 2, 3, 4, 5, 6] rfl)
          · skip
            refine lv_iconst (pc := 56) (v := nI 1) hx hb dX4_set_56 (by decide) ?_
            refine lv_cv (y := bI (rgB (F (i0 * 256 + j0 * 8)) && eqTo (fun z => F (i0 * 256 + j0 * 8 + z)) (fun _ => F (i0 * 256 + j0 * 8)) (i + 1))) (by rw [show (rgB (F (i0 * 256 + j0 * 8)) && eqTo (fun z => F (i0 * 256 + j0 * 8 + z)) (fun _ => F (i0 * 256 + j0 * 8)) (i + 1)) = true from by rw [eqTo_s, ← Bool.and_assoc]; first | (rw [c3, Bool.false_and]; done) | (rw [c3, Bool.true_and]; exact decide_eq_true (sb_inj.mp c4))]; rfl) ?_
            refine lv_goto (pc := 57) (tgt := 61) hx hb dX4_set_57 (by decide) ?_
            refine lv_istore (pc := 61) (lv' := [(5, .int (bI (rgB (F (i0 * 256 + j0 * 8)) && eqTo (fun z => F (i0 * 256 + j0 * 8 + z)) (fun _ => F (i0 * 256 + j0 * 8)) (i + 1)))), (6, .int (nI i)), (4, .int (Int8.toInt32 (F (i0 * 256 + j0 * 8)))), (3, .int (nI (i0 * 256 + j0 * 8))), (0, .ref ho), (1, .int (nI i0)), (2, .int (nI j0))]) hx hb dX4_set_61 hl (by decide) rfl (fun ls hl => ?_)
            refine lv_iinc (pc := 63) (v := nI (i + 1)) (lv' := [(6, .int (nI (i + 1))), (5, .int (bI (rgB (F (i0 * 256 + j0 * 8)) && eqTo (fun z => F (i0 * 256 + j0 * 8 + z)) (fun _ => F (i0 * 256 + j0 * 8)) (i + 1)))), (4, .int (Int8.toInt32 (F (i0 * 256 + j0 * 8)))), (3, .int (nI (i0 * 256 + j0 * 8))), (0, .ref ho), (1, .int (nI i0)), (2, .int (nI j0))]) hx hb dX4_set_63 hl (k := 1) rfl (nI_inc i 1) (by decide) rfl (fun ls hl => ?_)
            refine lv_goto (pc := 66) (tgt := 33) hx hb dX4_set_66 (by decide) ?_
            exact ih33 (i + 1) H locs ls ⟨by omega, by omega⟩ (by first | omega | (simp only []; omega)) hP hD hS (lv_sub hl [0, 1, 2, 3, 4, 5, 6] rfl)
    · skip
      refine lv_iconst (pc := 23) (v := nI 1) hx hb dX4_set_23 (by decide) ?_
      refine lv_cv (y := bI (rgB (F (i0 * 256 + j0 * 8)))) (by rw [show rgB (F (i0 * 256 + j0 * 8)) = true from rg_t c1 c2]; rfl) ?_
      refine lv_goto (pc := 24) (tgt := 28) hx hb dX4_set_24 (by decide) ?_
      refine lv_istore (pc := 28) (lv' := [(5, .int (bI (rgB (F (i0 * 256 + j0 * 8))))), (4, .int (Int8.toInt32 (F (i0 * 256 + j0 * 8)))), (3, .int (nI (i0 * 256 + j0 * 8))), (0, .ref ho), (1, .int (nI i0)), (2, .int (nI j0))]) hx hb dX4_set_28 hl (by decide) rfl (fun ls hl => ?_)
      refine lv_iconst (pc := 30) (v := nI 1) hx hb dX4_set_30 (by decide) ?_
      refine lv_istore (pc := 31) (lv' := [(6, .int (nI 1)), (5, .int (bI (rgB (F (i0 * 256 + j0 * 8))))), (4, .int (Int8.toInt32 (F (i0 * 256 + j0 * 8)))), (3, .int (nI (i0 * 256 + j0 * 8))), (0, .ref ho), (1, .int (nI i0)), (2, .int (nI j0))]) hx hb dX4_set_31 hl (by decide) rfl (fun ls hl => ?_)
      have hl : lv_has ls 7 [(6, .int (nI 1)), (5, .int (bI (rgB (F (i0 * 256 + j0 * 8)) && eqTo (fun z => F (i0 * 256 + j0 * 8 + z)) (fun _ => F (i0 * 256 + j0 * 8)) 1))), (4, .int (Int8.toInt32 (F (i0 * 256 + j0 * 8)))), (3, .int (nI (i0 * 256 + j0 * 8))), (0, .ref ho), (1, .int (nI i0)), (2, .int (nI j0))] := by rw [show eqTo (fun z => F (i0 * 256 + j0 * 8 + z)) (fun _ => F (i0 * 256 + j0 * 8)) 1 = true from by rw [show (1 : Nat) = 0 + 1 from rfl, eqTo_s, eqTo_0]; simp, Bool.and_true]; exact hl
      refine x_loop (σ := (Nat)) (Wd := fun i : (Nat) => bW ho cB n F) (Lv := fun i : (Nat) => [(6, .int (nI i)), (5, .int (bI (rgB (F (i0 * 256 + j0 * 8)) && eqTo (fun z => F (i0 * 256 + j0 * 8 + z)) (fun _ => F (i0 * 256 + j0 * 8)) i))), (4, .int (Int8.toInt32 (F (i0 * 256 + j0 * 8)))), (3, .int (nI (i0 * 256 + j0 * 8))), (0, .ref ho), (1, .int (nI i0)), (2, .int (nI j0))]) (I := fun i : (Nat) => (1 ≤ i) ∧ (i ≤ 8)) (μ := fun i : (Nat) => 8 - i) ?_ (1) ⟨by omega, by omega⟩ hP hD hS (lv_sub hl [0, 1, 2, 3, 4, 5, 6] rfl)
      intro i H locs ls hI hP hD hS hl ih33
      obtain ⟨hi1, hi⟩ : (1 ≤ i) ∧ (i ≤ 8) := hI
      have hP : va_P (dC, dI) vwCl (bW ho cB n F) _ := hP
      have hD : va_D (fun _ => True) (bW ho cB n F) := hD
      have hl : lv_has ls 7 [(6, .int (nI i)), (5, .int (bI (rgB (F (i0 * 256 + j0 * 8)) && eqTo (fun z => F (i0 * 256 + j0 * 8 + z)) (fun _ => F (i0 * 256 + j0 * 8)) i))), (4, .int (Int8.toInt32 (F (i0 * 256 + j0 * 8)))), (3, .int (nI (i0 * 256 + j0 * 8))), (0, .ref ho), (1, .int (nI i0)), (2, .int (nI j0))] := hl
      refine lv_iload (pc := 33) hx hb dX4_set_33 (lv_at hl 0 rfl) ?_
      refine lv_bipush (pc := 35) (v := nI 8) hx hb dX4_set_35 (by decide) ?_
      refine lv_icmp_ge (pc := 37) (tgt := 69) hx hb dX4_set_37 (by decide) (fun c_4 => ?_) (fun c_4 => ?_)
      · skip
        have c_4 : 8 ≤ i := (nI_leI (a := 8) (b := i) (by omega) (by omega)).mp c_4
        refine lv_iload (pc := 69) hx hb dX4_set_69 (lv_at hl 1 rfl) ?_
        refine lv_if_eq (pc := 71) (tgt := 79) hx hb dX4_set_71 (by decide) (fun c5 => ?_) (fun c5 => ?_)
        · skip
          have c5 : (rgB (F (i0 * 256 + j0 * 8)) && eqTo (fun z => F (i0 * 256 + j0 * 8 + z)) (fun _ => F (i0 * 256 + j0 * 8)) i) = false := bI_0.mp c5
          refine lv_iconst (pc := 79) (v := nI 0) hx hb dX4_set_79 (by decide) ?_
          have hi9 : i = 8 := by omega
          rw [hi9] at c5
          exact W.iret (v := nI 0) hx hb hr (fun t ht hW => ⟨⟨nI 0, (), rfl, by rw [setN, if_neg (fun z => by rw [show rgB (F (i0 * 256 + j0 * 8)) = true from decide_eq_true ⟨z.1, z.2.1⟩, z.2.2] at c5; exact absurd c5 (by decide))], trivial⟩, hS.F ht⟩) hS.2.2 dX4_set_80
        · skip
          have c5 : (rgB (F (i0 * 256 + j0 * 8)) && eqTo (fun z => F (i0 * 256 + j0 * 8 + z)) (fun _ => F (i0 * 256 + j0 * 8)) i) = true := bI_1.mp c5
          refine lv_iload (pc := 74) hx hb dX4_set_74 (lv_at hl 2 rfl) ?_
          refine lv_goto (pc := 76) (tgt := 80) hx hb dX4_set_76 (by decide) ?_
          have hi9 : i = 8 := by omega
          rw [hi9] at c5
          exact W.iret (v := Int8.toInt32 (F (i0 * 256 + j0 * 8))) hx hb hr (fun t ht hW => ⟨⟨Int8.toInt32 (F (i0 * 256 + j0 * 8)), (), rfl, by have h5 := (Bool.and_eq_true _ _).mp c5; have h6 := of_decide_eq_true h5.1; rw [rg_v h5.1, setN, if_pos ⟨h6.1, h6.2, h5.2⟩], trivial⟩, hS.F ht⟩) hS.2.2 dX4_set_80
      · skip
        have c_4 : ¬ 8 ≤ i := fun z => c_4 ((nI_leI (a := 8) (b := i) (by omega) (by omega)).mpr z)
        refine lv_iload (pc := 40) hx hb dX4_set_40 (lv_at hl 1 rfl) ?_
        refine lv_if_eq (pc := 42) (tgt := 60) hx hb dX4_set_42 (by decide) (fun c3 => ?_) (fun c3 => ?_)
        · skip
          have c3 : (rgB (F (i0 * 256 + j0 * 8)) && eqTo (fun z => F (i0 * 256 + j0 * 8 + z)) (fun _ => F (i0 * 256 + j0 * 8)) i) = false := bI_0.mp c3
          refine lv_iconst (pc := 60) (v := nI 0) hx hb dX4_set_60 (by decide) ?_
          refine lv_cv (y := bI (rgB (F (i0 * 256 + j0 * 8)) && eqTo (fun z => F (i0 * 256 + j0 * 8 + z)) (fun _ => F (i0 * 256 + j0 * 8)) (i + 1))) (by rw [show (rgB (F (i0 * 256 + j0 * 8)) && eqTo (fun z => F (i0 * 256 + j0 * 8 + z)) (fun _ => F (i0 * 256 + j0 * 8)) (i + 1)) = false from by rw [eqTo_s, ← Bool.and_assoc]; first | (rw [c3, Bool.false_and]; done) | (rw [c3, Bool.true_and]; exact decide_eq_false (fun z => c4 (congrArg Int8.toInt32 z)))]; rfl) ?_
          refine lv_istore (pc := 61) (lv' := [(5, .int (bI (rgB (F (i0 * 256 + j0 * 8)) && eqTo (fun z => F (i0 * 256 + j0 * 8 + z)) (fun _ => F (i0 * 256 + j0 * 8)) (i + 1)))), (6, .int (nI i)), (4, .int (Int8.toInt32 (F (i0 * 256 + j0 * 8)))), (3, .int (nI (i0 * 256 + j0 * 8))), (0, .ref ho), (1, .int (nI i0)), (2, .int (nI j0))]) hx hb dX4_set_61 hl (by decide) rfl (fun ls hl => ?_)
          refine lv_iinc (pc := 63) (v := nI (i + 1)) (lv' := [(6, .int (nI (i + 1))), (5, .int (bI (rgB (F (i0 * 256 + j0 * 8)) && eqTo (fun z => F (i0 * 256 + j0 * 8 + z)) (fun _ => F (i0 * 256 + j0 * 8)) (i + 1)))), (4, .int (Int8.toInt32 (F (i0 * 256 + j0 * 8)))), (3, .int (nI (i0 * 256 + j0 * 8))), (0, .ref ho), (1, .int (nI i0)), (2, .int (nI j0))]) hx hb dX4_set_63 hl (k := 1) rfl (nI_inc i 1) (by decide) rfl (fun ls hl => ?_)
          refine lv_goto (pc := 66) (tgt := 33) hx hb dX4_set_66 (by decide) ?_
          exact ih33 (i + 1) H locs ls ⟨by omega, by omega⟩ (by first | omega | (simp only []; omega)) hP hD hS (lv_sub hl [0, 1, 2, 3, 4, 5, 6] rfl)
        · skip
          have c3 : (rgB (F (i0 * 256 + j0 * 8)) && eqTo (fun z => F (i0 * 256 + j0 * 8 + z)) (fun _ => F (i0 * 256 + j0 * 8)) i) = true := bI_1.mp c3
          refine lv_aload_n (pc := 45) hx hb dX4_set_45 rfl (lv_at hl 4 rfl) ?_
          refine lv_iload_n (pc := 46) hx hb dX4_set_46 rfl (lv_at hl 3 rfl) ?_
          refine lv_iload (pc := 47) hx hb dX4_set_47 (lv_at hl 0 rfl) ?_
          refine lv_iadd (pc := 49) hx hb dX4_set_49 ?_
          refine lv_cv (nI_add (i0 * 256 + j0 * 8) i) ?_
          refine x_bald (pc := 50) (k := (i0 * 256 + j0 * 8) + i) (f := fun j => Int8.toInt32 (F j)) hx hb hK hP 0 1 rfl rfl (by omega) (by omega) dX4_set_50 ?_
          refine lv_iload (pc := 51) hx hb dX4_set_51 (lv_at hl 2 rfl) ?_
          refine lv_icmp_ne (pc := 53) (tgt := 60) hx hb dX4_set_53 (by decide) (fun c4 => ?_) (fun c4 => ?_)
          · skip
            refine lv_iconst (pc := 60) (v := nI 0) hx hb dX4_set_60 (by decide) ?_
            refine lv_cv (y := bI (rgB (F (i0 * 256 + j0 * 8)) && eqTo (fun z => F (i0 * 256 + j0 * 8 + z)) (fun _ => F (i0 * 256 + j0 * 8)) (i + 1))) (by rw [show (rgB (F (i0 * 256 + j0 * 8)) && eqTo (fun z => F (i0 * 256 + j0 * 8 + z)) (fun _ => F (i0 * 256 + j0 * 8)) (i + 1)) = false from by rw [eqTo_s, ← Bool.and_assoc]; first | (rw [c3, Bool.false_and]; done) | (rw [c3, Bool.true_and]; exact decide_eq_false (fun z => c4 (congrArg Int8.toInt32 z)))]; rfl) ?_
            refine lv_istore (pc := 61) (lv' := [(5, .int (bI (rgB (F (i0 * 256 + j0 * 8)) && eqTo (fun z => F (i0 * 256 + j0 * 8 + z)) (fun _ => F (i0 * 256 + j0 * 8)) (i + 1)))), (6, .int (nI i)), (4, .int (Int8.toInt32 (F (i0 * 256 + j0 * 8)))), (3, .int (nI (i0 * 256 + j0 * 8))), (0, .ref ho), (1, .int (nI i0)), (2, .int (nI j0))]) hx hb dX4_set_61 hl (by decide) rfl (fun ls hl => ?_)
            refine lv_iinc (pc := 63) (v := nI (i + 1)) (lv' := [(6, .int (nI (i + 1))), (5, .int (bI (rgB (F (i0 * 256 + j0 * 8)) && eqTo (fun z => F (i0 * 256 + j0 * 8 + z)) (fun _ => F (i0 * 256 + j0 * 8)) (i + 1)))), (4, .int (Int8.toInt32 (F (i0 * 256 + j0 * 8)))), (3, .int (nI (i0 * 256 + j0 * 8))), (0, .ref ho), (1, .int (nI i0)), (2, .int (nI j0))]) hx hb dX4_set_63 hl (k := 1) rfl (nI_inc i 1) (by decide) rfl (fun ls hl => ?_)
            refine lv_goto (pc := 66) (tgt := 33) hx hb dX4_set_66 (by decide) ?_
            exact ih33 (i + 1) H locs ls ⟨by omega, by omega⟩ (by first | omega | (simp only []; omega)) hP hD hS (lv_sub hl [0, 1, 2, 3, 4, 5, 6] rfl)
          · skip
            refine lv_iconst (pc := 56) (v := nI 1) hx hb dX4_set_56 (by decide) ?_
            refine lv_cv (y := bI (rgB (F (i0 * 256 + j0 * 8)) && eqTo (fun z => F (i0 * 256 + j0 * 8 + z)) (fun _ => F (i0 * 256 + j0 * 8)) (i + 1))) (by rw [show (rgB (F (i0 * 256 + j0 * 8)) && eqTo (fun z => F (i0 * 256 + j0 * 8 + z)) (fun _ => F (i0 * 256 + j0 * 8)) (i + 1)) = true from by rw [eqTo_s, ← Bool.and_assoc]; first | (rw [c3, Bool.false_and]; done) | (rw [c3, Bool.true_and]; exact decide_eq_true (sb_inj.mp c4))]; rfl) ?_
            refine lv_goto (pc := 57) (tgt := 61) hx hb dX4_set_57 (by decide) ?_
            refine lv_istore (pc := 61) (lv' := [(5, .int (bI (rgB (F (i0 * 256 + j0 * 8)) && eqTo (fun z => F (i0 * 256 + j0 * 8 + z)) (fun _ => F (i0 * 256 + j0 * 8)) (i + 1)))), (6, .int (nI i)), (4, .int (Int8.toInt32 (F (i0 * 256 + j0 * 8)))), (3, .int (nI (i0 * 256 + j0 * 8))), (0, .ref ho), (1, .int (nI i0)), (2, .int (nI j0))]) hx hb dX4_set_61 hl (by decide) rfl (fun ls hl => ?_)
            refine lv_iinc (pc := 63) (v := nI (i + 1)) (lv' := [(6, .int (nI (i + 1))), (5, .int (bI (rgB (F (i0 * 256 + j0 * 8)) && eqTo (fun z => F (i0 * 256 + j0 * 8 + z)) (fun _ => F (i0 * 256 + j0 * 8)) (i + 1)))), (4, .int (Int8.toInt32 (F (i0 * 256 + j0 * 8)))), (3, .int (nI (i0 * 256 + j0 * 8))), (0, .ref ho), (1, .int (nI i0)), (2, .int (nI j0))]) hx hb dX4_set_63 hl (k := 1) rfl (nI_inc i 1) (by decide) rfl (fun ls hl => ?_)
            refine lv_goto (pc := 66) (tgt := 33) hx hb dX4_set_66 (by decide) ?_
            exact ih33 (i + 1) H locs ls ⟨by omega, by omega⟩ (by first | omega | (simp only []; omega)) hP hD hS (lv_sub hl [0, 1, 2, 3, 4, 5, 6] rfl)
set_option maxHeartbeats 4000000 in
set_option maxRecDepth 100000 in
theorem kX4_isSet (l : Launch) (dC : Nat → ClassId) (dI : Nat → Nat → Nat) (tt : Nat → Nat) (cI cB : ClassId) (sz : Nat) (ho n : Nat) (F : Nat → Int8) (i0 j0 : Nat) (hn : n < 2 ^ 30) (hp : i0 * 256 + j0 * 8 + 8 ≤ n) : MetR l yX4_isSet wsX4_isSet { frames := 2, cells := 0, slots := 0, locals := 47 } (dC, dI) [(cI, .int), (cB, .byte)] tt [] sz (bW ho cB n F) [.ref ho, .int (nI i0), .int (nI j0)] (fun r => r = bI (mkB F (i0 * 256 + j0 * 8))) := by
  refine Met.ofW (cc := cX4_isSet) (maxL := 3) (ret := (some .boolean)) (by decide) rfl ?_
  intro p e s m args below meth c s₁ B hml hv
  obtain ⟨rfl, hsz, hP, hK, hD0, hE⟩ := hv
  have hx := B.exec
  have hb := B.bytes
  have hr := B.returns
  have hts := atoms_spec (ws := wsX4_isSet) B.pre
  have hown : s.vm.findClass RX4 = some m.cls := findClass_of_methodNamed B.named
  have hlocks := B.notSynchronized
  subst hsz
  have hD := hD0
  generalize hAe : va_A [] s.heap.size = A at hE ⊢
  have hA : ∀ q : Nat, s.heap.size ≤ q → A q := fun q h => by rw [← hAe]; exact Or.inr h
  have hS : va_S A s.heap s.heap [] := va_S.rf
  have hl := lv_entry ([.ref ho, .int (nI i0), .int (nI j0)]) (n := 3) (Nat.le_of_ble_eq_true rfl)
  rw [lg_entry_eq]
  generalize (lg_sl ([.ref ho, .int (nI i0), .int (nI j0)]) ++ List.replicate (3 - (lg_sl ([.ref ho, .int (nI i0), .int (nI j0)])).length) Slot.unset).toArray = ls at hl ⊢
  have hl : lv_has ls 3 [(0, .ref ho), (1, .int (nI i0)), (2, .int (nI j0))] := hl
  have hP : va_P (dC, dI) vwCl (bW ho cB n F) s.heap := hP
  refine lv_aload_n (pc := 0) hx hb dX4_isSet_0 rfl (lv_at hl 0 rfl) ?_
  refine lv_iload_n (pc := 1) hx hb dX4_isSet_1 rfl (lv_at hl 1 rfl) ?_
  refine lv_iload_n (pc := 2) hx hb dX4_isSet_2 rfl (lv_at hl 2 rfl) ?_
  refine x_roi (pc := 3) (va_runS (As := [.ref ho, .int (nI i0), .int (nI j0)]) (rest := []) ⟨hx, hb, hml, hown, hts⟩ (kX4_set l dC dI tt cI cB _ ho n F i0 j0 (by omega) (by omega)) (va_cwS 3 hts gX4_isSet_X4_set rfl rfl rfl (by decide +kernel) ⟨Nat.le_of_ble_eq_true rfl, Nat.le_of_ble_eq_true rfl⟩) (x_preSa hS hE hK hP hD (x_ro hS hA) xR0) rfl rfl hl.1 rfl (lv_room (Nat.le_of_ble_eq_true rfl)) dX4_isSet_3 ⟨Nat.le_of_ble_eq_true rfl, Nat.le_of_ble_eq_true rfl⟩) hS hA hP (fun r_1 H locs hr_1 hP hS => ?_)
  subst hr_1
  have hs_2 := setN_le F (i0 * 256 + j0 * 8)
  refine lv_iconst (pc := 6) (v := nI 1) hx hb dX4_isSet_6 (by decide) ?_
  refine lv_icmp_ne (pc := 7) (tgt := 14) hx hb dX4_isSet_7 (by decide) (fun c1 => ?_) (fun c1 => ?_)
  · skip
    have c1 : ¬ (setN F (i0 * 256 + j0 * 8)) = 1 := fun z => c1 ((nI_eq (a := (setN F (i0 * 256 + j0 * 8))) (b := 1) (by omega) (by omega)).mpr z)
    refine lv_iconst (pc := 14) (v := nI 0) hx hb dX4_isSet_14 (by decide) ?_
    exact W.zret (v := nI 0) hx hb hr rfl (fun t ht hW => ⟨⟨nI 0, (), rfl, by rw [show mkB F (i0 * 256 + j0 * 8) = false from decide_eq_false c1]; rfl, trivial⟩, hS.F ht⟩) hS.2.2 dX4_isSet_15
  · skip
    have c1 : (setN F (i0 * 256 + j0 * 8)) = 1 := (nI_eq (a := (setN F (i0 * 256 + j0 * 8))) (b := 1) (by omega) (by omega)).mp c1
    refine lv_iconst (pc := 10) (v := nI 1) hx hb dX4_isSet_10 (by decide) ?_
    refine lv_goto (pc := 11) (tgt := 15) hx hb dX4_isSet_11 (by decide) ?_
    exact W.zret (v := nI 1) hx hb hr rfl (fun t ht hW => ⟨⟨nI 1, (), rfl, by rw [show mkB F (i0 * 256 + j0 * 8) = true from decide_eq_true c1]; rfl, trivial⟩, hS.F ht⟩) hS.2.2 dX4_isSet_15
set_option maxHeartbeats 4000000 in
set_option maxRecDepth 100000 in
theorem kX4_intAt (l : Launch) (dC : Nat → ClassId) (dI : Nat → Nat → Nat) (tt : Nat → Nat) (cI cB : ClassId) (sz : Nat) (ho n : Nat) (F : Nat → Int8) (i : Nat) (hn : n < 2 ^ 30) (hi : i + 3 < n) : MetR l yX4_intAt wsX4_intAt { frames := 0, cells := 0, slots := 0, locals := 0 } (dC, dI) [(cI, .int), (cB, .byte)] tt [] sz (bW ho cB n F) [.ref ho, .int (nI i)] (fun r => r = mI F i) := by
  refine Met.ofW (cc := cX4_intAt) (maxL := 2) (ret := (some .int)) (by decide) rfl ?_
  intro p e s m args below meth c s₁ B hml hv
  obtain ⟨rfl, hsz, hP, hK, hD0, hE⟩ := hv
  have hx := B.exec
  have hb := B.bytes
  have hr := B.returns
  have hts := atoms_spec (ws := wsX4_intAt) B.pre
  have hown : s.vm.findClass RX4 = some m.cls := findClass_of_methodNamed B.named
  have hlocks := B.notSynchronized
  subst hsz
  have hD := hD0
  generalize hAe : va_A [] s.heap.size = A at hE ⊢
  have hA : ∀ q : Nat, s.heap.size ≤ q → A q := fun q h => by rw [← hAe]; exact Or.inr h
  have hS : va_S A s.heap s.heap [] := va_S.rf
  have hl := lv_entry ([.ref ho, .int (nI i)]) (n := 2) (Nat.le_of_ble_eq_true rfl)
  rw [lg_entry_eq]
  generalize (lg_sl ([.ref ho, .int (nI i)]) ++ List.replicate (2 - (lg_sl ([.ref ho, .int (nI i)])).length) Slot.unset).toArray = ls at hl ⊢
  have hl : lv_has ls 2 [(0, .ref ho), (1, .int (nI i))] := hl
  have hP : va_P (dC, dI) vwCl (bW ho cB n F) s.heap := hP
  refine lv_aload_n (pc := 0) hx hb dX4_intAt_0 rfl (lv_at hl 0 rfl) ?_
  refine lv_iload_n (pc := 1) hx hb dX4_intAt_1 rfl (lv_at hl 1 rfl) ?_
  refine x_bald (pc := 2) (k := i) (f := fun j => Int8.toInt32 (F j)) hx hb hK hP 0 1 rfl rfl (by omega) (by omega) dX4_intAt_2 ?_
  refine lv_sipush (pc := 3) (v := nI 255) hx hb dX4_intAt_3 (by decide) ?_
  refine lv_iand (pc := 6) hx hb dX4_intAt_6 ?_
  refine lv_cv (rfl) ?_
  refine lv_aload_n (pc := 7) hx hb dX4_intAt_7 rfl (lv_at hl 0 rfl) ?_
  refine lv_iload_n (pc := 8) hx hb dX4_intAt_8 rfl (lv_at hl 1 rfl) ?_
  refine lv_iconst (pc := 9) (v := nI 1) hx hb dX4_intAt_9 (by decide) ?_
  refine lv_iadd (pc := 10) hx hb dX4_intAt_10 ?_
  refine lv_cv (nI_add i 1) ?_
  refine x_bald (pc := 11) (k := i + 1) (f := fun j => Int8.toInt32 (F j)) hx hb hK hP 0 1 rfl rfl (by omega) (by omega) dX4_intAt_11 ?_
  refine lv_sipush (pc := 12) (v := nI 255) hx hb dX4_intAt_12 (by decide) ?_
  refine lv_iand (pc := 15) hx hb dX4_intAt_15 ?_
  refine lv_cv (rfl) ?_
  refine lv_bipush (pc := 16) (v := nI 8) hx hb dX4_intAt_16 (by decide) ?_
  refine lv_ishl (pc := 18) hx hb dX4_intAt_18 ?_
  refine lv_ior (pc := 19) hx hb dX4_intAt_19 ?_
  refine lv_aload_n (pc := 20) hx hb dX4_intAt_20 rfl (lv_at hl 0 rfl) ?_
  refine lv_iload_n (pc := 21) hx hb dX4_intAt_21 rfl (lv_at hl 1 rfl) ?_
  refine lv_iconst (pc := 22) (v := nI 2) hx hb dX4_intAt_22 (by decide) ?_
  refine lv_iadd (pc := 23) hx hb dX4_intAt_23 ?_
  refine lv_cv (nI_add i 2) ?_
  refine x_bald (pc := 24) (k := i + 2) (f := fun j => Int8.toInt32 (F j)) hx hb hK hP 0 1 rfl rfl (by omega) (by omega) dX4_intAt_24 ?_
  refine lv_sipush (pc := 25) (v := nI 255) hx hb dX4_intAt_25 (by decide) ?_
  refine lv_iand (pc := 28) hx hb dX4_intAt_28 ?_
  refine lv_cv (rfl) ?_
  refine lv_bipush (pc := 29) (v := nI 16) hx hb dX4_intAt_29 (by decide) ?_
  refine lv_ishl (pc := 31) hx hb dX4_intAt_31 ?_
  refine lv_ior (pc := 32) hx hb dX4_intAt_32 ?_
  refine lv_aload_n (pc := 33) hx hb dX4_intAt_33 rfl (lv_at hl 0 rfl) ?_
  refine lv_iload_n (pc := 34) hx hb dX4_intAt_34 rfl (lv_at hl 1 rfl) ?_
  refine lv_iconst (pc := 35) (v := nI 3) hx hb dX4_intAt_35 (by decide) ?_
  refine lv_iadd (pc := 36) hx hb dX4_intAt_36 ?_
  refine lv_cv (nI_add i 3) ?_
  refine x_bald (pc := 37) (k := i + 3) (f := fun j => Int8.toInt32 (F j)) hx hb hK hP 0 1 rfl rfl (by omega) (by omega) dX4_intAt_37 ?_
  refine lv_bipush (pc := 38) (v := nI 24) hx hb dX4_intAt_38 (by decide) ?_
  refine lv_ishl (pc := 40) hx hb dX4_intAt_40 ?_
  refine lv_ior (pc := 41) hx hb dX4_intAt_41 ?_
  exact W.iret (v := (((ub (F i)) ||| ((ub (F (i + 1))) <<< ((nI 8) &&& 31))) ||| ((ub (F (i + 2))) <<< ((nI 16) &&& 31))) ||| ((Int8.toInt32 (F (i + 3))) <<< ((nI 24) &&& 31))) hx hb hr (fun t ht hW => ⟨⟨(((ub (F i)) ||| ((ub (F (i + 1))) <<< ((nI 8) &&& 31))) ||| ((ub (F (i + 2))) <<< ((nI 16) &&& 31))) ||| ((Int8.toInt32 (F (i + 3))) <<< ((nI 24) &&& 31)), (), rfl, mI_sb F i, trivial⟩, hS.F ht⟩) hS.2.2 dX4_intAt_42
