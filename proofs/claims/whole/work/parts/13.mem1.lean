set_option maxHeartbeats 4000000 in
set_option maxRecDepth 100000 in
theorem kX0_has (l : Launch) (dC : Nat → ClassId) (dI : Nat → Nat → Nat) (tt : Nat → Nat) (cI cB : ClassId) (sz : Nat) (x : Int32)  : MetR l yX0_has wsX0_has { frames := 0, cells := 0, slots := 0, locals := 0 } (dC, dI) [(cI, .int), (cB, .byte)] tt [] sz ([]) [.int x] (fun r => r = bI (inB 2816 x)) := by
  refine Met.ofW (cc := cX0_has) (maxL := 1) (ret := (some .boolean)) (by decide) rfl ?_
  intro p e s m args below meth c s₁ B hml hv
  obtain ⟨rfl, hsz, hP, hK, hD0, hE⟩ := hv
  have hx := B.exec
  have hb := B.bytes
  have hr := B.returns
  have hts := atoms_spec (ws := wsX0_has) B.pre
  have hown : s.vm.findClass RX0 = some m.cls := findClass_of_methodNamed B.named
  have hlocks := B.notSynchronized
  subst hsz
  have hD := hD0
  generalize hAe : va_A [] s.heap.size = A at hE ⊢
  have hA : ∀ q : Nat, s.heap.size ≤ q → A q := fun q h => by rw [← hAe]; exact Or.inr h
  have hS : va_S A s.heap s.heap [] := va_S.rf
  have hl := lv_entry ([.int x]) (n := 1) (Nat.le_of_ble_eq_true rfl)
  rw [lg_entry_eq]
  generalize (lg_sl ([.int x]) ++ List.replicate (1 - (lg_sl ([.int x])).length) Slot.unset).toArray = ls at hl ⊢
  have hl : lv_has ls 1 [(0, .int x)] := hl
  refine lv_iload_n (pc := 0) hx hb dX0_has_0 rfl (lv_at hl 0 rfl) ?_
  refine lv_if_lt (pc := 1) (tgt := 15) hx hb dX0_has_1 (by decide) (fun c1 => ?_) (fun c1 => ?_)
  · skip
    refine lv_iconst (pc := 15) (v := nI 0) hx hb dX0_has_15 (by decide) ?_
    exact W.zret (v := nI 0) hx hb hr rfl (fun t ht hW => ⟨⟨nI 0, (), rfl, by rw [show inB 2816 x = false from decide_eq_false (fun z => by first | exact z.1 c1 | exact z.2 c2)]; rfl, trivial⟩, hS.F ht⟩) hS.2.2 dX0_has_16
  · skip
    refine lv_iload_n (pc := 4) hx hb dX0_has_4 rfl (lv_at hl 0 rfl) ?_
    refine lv_sipush (pc := 5) (v := nI 2816) hx hb dX0_has_5 (by decide) ?_
    refine lv_icmp_ge (pc := 8) (tgt := 15) hx hb dX0_has_8 (by decide) (fun c2 => ?_) (fun c2 => ?_)
    · skip
      refine lv_iconst (pc := 15) (v := nI 0) hx hb dX0_has_15 (by decide) ?_
      exact W.zret (v := nI 0) hx hb hr rfl (fun t ht hW => ⟨⟨nI 0, (), rfl, by rw [show inB 2816 x = false from decide_eq_false (fun z => by first | exact z.1 c1 | exact z.2 c2)]; rfl, trivial⟩, hS.F ht⟩) hS.2.2 dX0_has_16
    · skip
      refine lv_iconst (pc := 11) (v := nI 1) hx hb dX0_has_11 (by decide) ?_
      refine lv_goto (pc := 12) (tgt := 16) hx hb dX0_has_12 (by decide) ?_
      exact W.zret (v := nI 1) hx hb hr rfl (fun t ht hW => ⟨⟨nI 1, (), rfl, by rw [show inB 2816 x = true from decide_eq_true ⟨c1, c2⟩]; rfl, trivial⟩, hS.F ht⟩) hS.2.2 dX0_has_16
set_option maxHeartbeats 4000000 in
set_option maxRecDepth 100000 in
theorem kX0_hasSector (l : Launch) (dC : Nat → ClassId) (dI : Nat → Nat → Nat) (tt : Nat → Nat) (cI cB : ClassId) (sz : Nat) (x : Int32)  : MetR l yX0_hasSector wsX0_hasSector { frames := 0, cells := 0, slots := 0, locals := 0 } (dC, dI) [(cI, .int), (cB, .byte)] tt [] sz ([]) [.int x] (fun r => r = bI (inB 11 x)) := by
  refine Met.ofW (cc := cX0_hasSector) (maxL := 1) (ret := (some .boolean)) (by decide) rfl ?_
  intro p e s m args below meth c s₁ B hml hv
  obtain ⟨rfl, hsz, hP, hK, hD0, hE⟩ := hv
  have hx := B.exec
  have hb := B.bytes
  have hr := B.returns
  have hts := atoms_spec (ws := wsX0_hasSector) B.pre
  have hown : s.vm.findClass RX0 = some m.cls := findClass_of_methodNamed B.named
  have hlocks := B.notSynchronized
  subst hsz
  have hD := hD0
  generalize hAe : va_A [] s.heap.size = A at hE ⊢
  have hA : ∀ q : Nat, s.heap.size ≤ q → A q := fun q h => by rw [← hAe]; exact Or.inr h
  have hS : va_S A s.heap s.heap [] := va_S.rf
  have hl := lv_entry ([.int x]) (n := 1) (Nat.le_of_ble_eq_true rfl)
  rw [lg_entry_eq]
  generalize (lg_sl ([.int x]) ++ List.replicate (1 - (lg_sl ([.int x])).length) Slot.unset).toArray = ls at hl ⊢
  have hl : lv_has ls 1 [(0, .int x)] := hl
  refine lv_iload_n (pc := 0) hx hb dX0_hasSector_0 rfl (lv_at hl 0 rfl) ?_
  refine lv_if_lt (pc := 1) (tgt := 14) hx hb dX0_hasSector_1 (by decide) (fun c1 => ?_) (fun c1 => ?_)
  · skip
    refine lv_iconst (pc := 14) (v := nI 0) hx hb dX0_hasSector_14 (by decide) ?_
    exact W.zret (v := nI 0) hx hb hr rfl (fun t ht hW => ⟨⟨nI 0, (), rfl, by rw [show inB 11 x = false from decide_eq_false (fun z => by first | exact z.1 c1 | exact z.2 c2)]; rfl, trivial⟩, hS.F ht⟩) hS.2.2 dX0_hasSector_15
  · skip
    refine lv_iload_n (pc := 4) hx hb dX0_hasSector_4 rfl (lv_at hl 0 rfl) ?_
    refine lv_bipush (pc := 5) (v := nI 11) hx hb dX0_hasSector_5 (by decide) ?_
    refine lv_icmp_ge (pc := 7) (tgt := 14) hx hb dX0_hasSector_7 (by decide) (fun c2 => ?_) (fun c2 => ?_)
    · skip
      refine lv_iconst (pc := 14) (v := nI 0) hx hb dX0_hasSector_14 (by decide) ?_
      exact W.zret (v := nI 0) hx hb hr rfl (fun t ht hW => ⟨⟨nI 0, (), rfl, by rw [show inB 11 x = false from decide_eq_false (fun z => by first | exact z.1 c1 | exact z.2 c2)]; rfl, trivial⟩, hS.F ht⟩) hS.2.2 dX0_hasSector_15
    · skip
      refine lv_iconst (pc := 10) (v := nI 1) hx hb dX0_hasSector_10 (by decide) ?_
      refine lv_goto (pc := 11) (tgt := 15) hx hb dX0_hasSector_11 (by decide) ?_
      exact W.zret (v := nI 1) hx hb hr rfl (fun t ht hW => ⟨⟨nI 1, (), rfl, by rw [show inB 11 x = true from decide_eq_true ⟨c1, c2⟩]; rfl, trivial⟩, hS.F ht⟩) hS.2.2 dX0_hasSector_15
set_option maxHeartbeats 4000000 in
set_option maxRecDepth 100000 in
theorem kX0_unitAt (l : Launch) (dC : Nat → ClassId) (dI : Nat → Nat → Nat) (tt : Nat → Nat) (cI cB : ClassId) (sz : Nat) (i j : Nat)  : MetR l yX0_unitAt wsX0_unitAt { frames := 0, cells := 0, slots := 0, locals := 0 } (dC, dI) [(cI, .int), (cB, .byte)] tt [] sz ([]) [.int (nI i), .int (nI j)] (fun r => r = nI (i * 256 + j * 8)) := by
  refine Met.ofW (cc := cX0_unitAt) (maxL := 2) (ret := (some .int)) (by decide) rfl ?_
  intro p e s m args below meth c s₁ B hml hv
  obtain ⟨rfl, hsz, hP, hK, hD0, hE⟩ := hv
  have hx := B.exec
  have hb := B.bytes
  have hr := B.returns
  have hts := atoms_spec (ws := wsX0_unitAt) B.pre
  have hown : s.vm.findClass RX0 = some m.cls := findClass_of_methodNamed B.named
  have hlocks := B.notSynchronized
  subst hsz
  have hD := hD0
  generalize hAe : va_A [] s.heap.size = A at hE ⊢
  have hA : ∀ q : Nat, s.heap.size ≤ q → A q := fun q h => by rw [← hAe]; exact Or.inr h
  have hS : va_S A s.heap s.heap [] := va_S.rf
  have hl := lv_entry ([.int (nI i), .int (nI j)]) (n := 2) (Nat.le_of_ble_eq_true rfl)
  rw [lg_entry_eq]
  generalize (lg_sl ([.int (nI i), .int (nI j)]) ++ List.replicate (2 - (lg_sl ([.int (nI i), .int (nI j)])).length) Slot.unset).toArray = ls at hl ⊢
  have hl : lv_has ls 2 [(0, .int (nI i)), (1, .int (nI j))] := hl
  refine lv_iload_n (pc := 0) hx hb dX0_unitAt_0 rfl (lv_at hl 0 rfl) ?_
  refine lv_sipush (pc := 1) (v := nI 256) hx hb dX0_unitAt_1 (by decide) ?_
  refine lv_imul (pc := 4) hx hb dX0_unitAt_4 ?_
  refine lv_cv (pk_mul i 256) ?_
  refine lv_iload_n (pc := 5) hx hb dX0_unitAt_5 rfl (lv_at hl 1 rfl) ?_
  refine lv_bipush (pc := 6) (v := nI 8) hx hb dX0_unitAt_6 (by decide) ?_
  refine lv_imul (pc := 8) hx hb dX0_unitAt_8 ?_
  refine lv_cv (pk_mul j 8) ?_
  refine lv_iadd (pc := 9) hx hb dX0_unitAt_9 ?_
  refine lv_cv (nI_add (i * 256) (j * 8)) ?_
  exact W.iret (v := nI ((i * 256) + (j * 8))) hx hb hr (fun t ht hW => ⟨⟨nI ((i * 256) + (j * 8)), (), rfl, rfl, trivial⟩, hS.F ht⟩) hS.2.2 dX0_unitAt_10
set_option maxHeartbeats 4000000 in
set_option maxRecDepth 100000 in
theorem kX0_byteAt (l : Launch) (dC : Nat → ClassId) (dI : Nat → Nat → Nat) (tt : Nat → Nat) (cI cB : ClassId) (sz : Nat) (a1 a2 a3 a4 : Nat) (k : K0) (ut : Nat → Int32) (i : Nat) (hi : i < 2816) : MetR l yX0_byteAt wsX0_byteAt { frames := 0, cells := 0, slots := 0, locals := 0 } (dC, dI) [(cI, .int), (cB, .byte)] tt [] sz (mW a1 a2 a3 a4 cI k ut) [.ref a1, .int (nI i)] (fun r => r = ub (k.1 i)) := by
  refine Met.ofW (cc := cX0_byteAt) (maxL := 2) (ret := (some .int)) (by decide) rfl ?_
  intro p e s m args below meth c s₁ B hml hv
  obtain ⟨rfl, hsz, hP, hK, hD0, hE⟩ := hv
  have hx := B.exec
  have hb := B.bytes
  have hr := B.returns
  have hts := atoms_spec (ws := wsX0_byteAt) B.pre
  have hown : s.vm.findClass RX0 = some m.cls := findClass_of_methodNamed B.named
  have hlocks := B.notSynchronized
  subst hsz
  obtain ⟨F, te, dn, tl, lf, cu, ac, gn⟩ := k
  have hD := hD0
  generalize hAe : va_A [] s.heap.size = A at hE ⊢
  have hA : ∀ q : Nat, s.heap.size ≤ q → A q := fun q h => by rw [← hAe]; exact Or.inr h
  have hS : va_S A s.heap s.heap [] := va_S.rf
  have hl := lv_entry ([.ref a1, .int (nI i)]) (n := 2) (Nat.le_of_ble_eq_true rfl)
  rw [lg_entry_eq]
  generalize (lg_sl ([.ref a1, .int (nI i)]) ++ List.replicate (2 - (lg_sl ([.ref a1, .int (nI i)])).length) Slot.unset).toArray = ls at hl ⊢
  have hl : lv_has ls 2 [(0, .ref a1), (1, .int (nI i))] := hl
  have hP : va_P (dC, dI) vwCl (mW a1 a2 a3 a4 cI (F, te, dn, tl, lf, cu, ac, gn) ut) s.heap := hP
  refine lv_iload_n (pc := 0) hx hb dX0_byteAt_0 rfl (lv_at hl 1 rfl) ?_
  refine lv_if_lt (pc := 1) (tgt := 20) hx hb dX0_byteAt_1 (by decide) (fun c_1 => ?_) (fun c_1 => ?_)
  · skip
    have c_1 : i < 0 := (nI_ltI (a := i) (b := 0) (by omega) (by omega)).mp c_1
    exfalso; omega
  · skip
    have c_1 : ¬ i < 0 := fun z => c_1 ((nI_ltI (a := i) (b := 0) (by omega) (by omega)).mpr z)
    refine lv_iload_n (pc := 4) hx hb dX0_byteAt_4 rfl (lv_at hl 1 rfl) ?_
    refine lv_sipush (pc := 5) (v := nI 2816) hx hb dX0_byteAt_5 (by decide) ?_
    refine lv_icmp_ge (pc := 8) (tgt := 20) hx hb dX0_byteAt_8 (by decide) (fun c_2 => ?_) (fun c_2 => ?_)
    · skip
      have c_2 : 2816 ≤ i := (nI_leI (a := 2816) (b := i) (by omega) (by omega)).mp c_2
      exfalso; omega
    · skip
      have c_2 : ¬ 2816 ≤ i := fun z => c_2 ((nI_leI (a := 2816) (b := i) (by omega) (by omega)).mpr z)
      refine lv_aload_n (pc := 11) hx hb dX0_byteAt_11 rfl (lv_at hl 0 rfl) ?_
      refine va_get (pc := 12) (D := (dC, dI)) (ci := 0) (v := .ref a2) (C := RX0) (T := TX0) (N := 9) hx hb hts (by decide +kernel) hown hK hP 0 rfl rfl 0 (by decide) (hts (.fieldLink RX0 9 "ScratchSwap$Memory" "bytes" "[I") (by decide +kernel)) (fun _ h9 => h9) rfl dX0_byteAt_12 ?_
      refine lv_iload_n (pc := 15) hx hb dX0_byteAt_15 rfl (lv_at hl 1 rfl) ?_
      refine x_iald (pc := 16) (k := i) (f := fun j => ub (F j)) hx hb hK hP 1 0 rfl rfl (by omega) (by decide) dX0_byteAt_16 ?_
      refine lv_goto (pc := 17) (tgt := 23) hx hb dX0_byteAt_17 (by decide) ?_
      exact W.iret (v := ub (F i)) hx hb hr (fun t ht hW => ⟨⟨ub (F i), (), rfl, rfl, trivial⟩, hS.F ht⟩) hS.2.2 dX0_byteAt_23
set_option maxHeartbeats 4000000 in
set_option maxRecDepth 100000 in
theorem kX0_intAt (l : Launch) (dC : Nat → ClassId) (dI : Nat → Nat → Nat) (tt : Nat → Nat) (cI cB : ClassId) (sz : Nat) (a1 a2 a3 a4 : Nat) (k : K0) (ut : Nat → Int32) (i : Nat) (hi : i + 3 < 2816) : MetR l yX0_intAt wsX0_intAt { frames := 1, cells := 0, slots := 0, locals := 21 } (dC, dI) [(cI, .int), (cB, .byte)] tt [] sz (mW a1 a2 a3 a4 cI k ut) [.ref a1, .int (nI i)] (fun r => r = mI k.1 i) := by
  refine Met.ofW (cc := cX0_intAt) (maxL := 2) (ret := (some .int)) (by decide) rfl ?_
  intro p e s m args below meth c s₁ B hml hv
  obtain ⟨rfl, hsz, hP, hK, hD0, hE⟩ := hv
  have hx := B.exec
  have hb := B.bytes
  have hr := B.returns
  have hts := atoms_spec (ws := wsX0_intAt) B.pre
  have hown : s.vm.findClass RX0 = some m.cls := findClass_of_methodNamed B.named
  have hlocks := B.notSynchronized
  subst hsz
  have hD := hD0
  generalize hAe : va_A [] s.heap.size = A at hE ⊢
  have hA : ∀ q : Nat, s.heap.size ≤ q → A q := fun q h => by rw [← hAe]; exact Or.inr h
  have hS : va_S A s.heap s.heap [] := va_S.rf
  have hl := lv_entry ([.ref a1, .int (nI i)]) (n := 2) (Nat.le_of_ble_eq_true rfl)
  rw [lg_entry_eq]
  generalize (lg_sl ([.ref a1, .int (nI i)]) ++ List.replicate (2 - (lg_sl ([.ref a1, .int (nI i)])).length) Slot.unset).toArray = ls at hl ⊢
  have hl : lv_has ls 2 [(0, .ref a1), (1, .int (nI i))] := hl
  have hP : va_P (dC, dI) vwCl (mW a1 a2 a3 a4 cI k ut) s.heap := hP
  refine lv_aload_n (pc := 0) hx hb dX0_intAt_0 rfl (lv_at hl 0 rfl) ?_
  refine lv_iload_n (pc := 1) hx hb dX0_intAt_1 rfl (lv_at hl 1 rfl) ?_
  refine x_roi (pc := 2) (va_runV (As := [.int (nI i)]) (rest := []) ⟨hx, hb, hml, hown, hts⟩ (kX0_byteAt l dC dI tt cI cB _ a1 a2 a3 a4 k ut i (by omega)) (cwV 1 hts gX0_intAt_X0_byteAt rfl rfl rfl (by decide +kernel) ⟨Nat.le_of_ble_eq_true rfl, Nat.le_of_ble_eq_true rfl⟩) (x_preV hS hE hK hP hD [0, 1, 2, 3] rfl (by decide) (x_ro hS hA) xR0 0 0 rfl rfl) rfl rfl hl.1 rfl (lv_room (Nat.le_of_ble_eq_true rfl)) dX0_intAt_2 ⟨Nat.le_of_ble_eq_true rfl, Nat.le_of_ble_eq_true rfl⟩) hS hA hP (fun r_1 H locs hr_1 hP hS => ?_)
  subst hr_1
  refine lv_aload_n (pc := 5) hx hb dX0_intAt_5 rfl (lv_at hl 0 rfl) ?_
  refine lv_iload_n (pc := 6) hx hb dX0_intAt_6 rfl (lv_at hl 1 rfl) ?_
  refine lv_iconst (pc := 7) (v := nI 1) hx hb dX0_intAt_7 (by decide) ?_
  refine lv_iadd (pc := 8) hx hb dX0_intAt_8 ?_
  refine lv_cv (nI_add i 1) ?_
  refine x_roi (pc := 9) (va_runV (As := [.int (nI (i + 1))]) (rest := [.int (ub (k.1 i))]) ⟨hx, hb, hml, hown, hts⟩ (kX0_byteAt l dC dI tt cI cB _ a1 a2 a3 a4 k ut (i + 1) (by omega)) (cwV 1 hts gX0_intAt_X0_byteAt rfl rfl rfl (by decide +kernel) ⟨Nat.le_of_ble_eq_true rfl, Nat.le_of_ble_eq_true rfl⟩) (x_preV hS hE hK hP hD [0, 1, 2, 3] rfl (by decide) (x_ro hS hA) xR0 0 0 rfl rfl) rfl rfl hl.1 rfl (lv_room (Nat.le_of_ble_eq_true rfl)) dX0_intAt_9 ⟨Nat.le_of_ble_eq_true rfl, Nat.le_of_ble_eq_true rfl⟩) hS hA hP (fun r_2 H locs hr_2 hP hS => ?_)
  subst hr_2
  refine lv_bipush (pc := 12) (v := nI 8) hx hb dX0_intAt_12 (by decide) ?_
  refine lv_ishl (pc := 14) hx hb dX0_intAt_14 ?_
  refine lv_ior (pc := 15) hx hb dX0_intAt_15 ?_
  refine lv_aload_n (pc := 16) hx hb dX0_intAt_16 rfl (lv_at hl 0 rfl) ?_
  refine lv_iload_n (pc := 17) hx hb dX0_intAt_17 rfl (lv_at hl 1 rfl) ?_
  refine lv_iconst (pc := 18) (v := nI 2) hx hb dX0_intAt_18 (by decide) ?_
  refine lv_iadd (pc := 19) hx hb dX0_intAt_19 ?_
  refine lv_cv (nI_add i 2) ?_
  refine x_roi (pc := 20) (va_runV (As := [.int (nI (i + 2))]) (rest := [.int ((ub (k.1 i)) ||| ((ub (k.1 (i + 1))) <<< ((nI 8) &&& 31)))]) ⟨hx, hb, hml, hown, hts⟩ (kX0_byteAt l dC dI tt cI cB _ a1 a2 a3 a4 k ut (i + 2) (by omega)) (cwV 1 hts gX0_intAt_X0_byteAt rfl rfl rfl (by decide +kernel) ⟨Nat.le_of_ble_eq_true rfl, Nat.le_of_ble_eq_true rfl⟩) (x_preV hS hE hK hP hD [0, 1, 2, 3] rfl (by decide) (x_ro hS hA) xR0 0 0 rfl rfl) rfl rfl hl.1 rfl (lv_room (Nat.le_of_ble_eq_true rfl)) dX0_intAt_20 ⟨Nat.le_of_ble_eq_true rfl, Nat.le_of_ble_eq_true rfl⟩) hS hA hP (fun r_3 H locs hr_3 hP hS => ?_)
  subst hr_3
  refine lv_bipush (pc := 23) (v := nI 16) hx hb dX0_intAt_23 (by decide) ?_
  refine lv_ishl (pc := 25) hx hb dX0_intAt_25 ?_
  refine lv_ior (pc := 26) hx hb dX0_intAt_26 ?_
  refine lv_aload_n (pc := 27) hx hb dX0_intAt_27 rfl (lv_at hl 0 rfl) ?_
  refine lv_iload_n (pc := 28) hx hb dX0_intAt_28 rfl (lv_at hl 1 rfl) ?_
  refine lv_iconst (pc := 29) (v := nI 3) hx hb dX0_intAt_29 (by decide) ?_
  refine lv_iadd (pc := 30) hx hb dX0_intAt_30 ?_
  refine lv_cv (nI_add i 3) ?_
  refine x_roi (pc := 31) (va_runV (As := [.int (nI (i + 3))]) (rest := [.int (((ub (k.1 i)) ||| ((ub (k.1 (i + 1))) <<< ((nI 8) &&& 31))) ||| ((ub (k.1 (i + 2))) <<< ((nI 16) &&& 31)))]) ⟨hx, hb, hml, hown, hts⟩ (kX0_byteAt l dC dI tt cI cB _ a1 a2 a3 a4 k ut (i + 3) (by omega)) (cwV 1 hts gX0_intAt_X0_byteAt rfl rfl rfl (by decide +kernel) ⟨Nat.le_of_ble_eq_true rfl, Nat.le_of_ble_eq_true rfl⟩) (x_preV hS hE hK hP hD [0, 1, 2, 3] rfl (by decide) (x_ro hS hA) xR0 0 0 rfl rfl) rfl rfl hl.1 rfl (lv_room (Nat.le_of_ble_eq_true rfl)) dX0_intAt_31 ⟨Nat.le_of_ble_eq_true rfl, Nat.le_of_ble_eq_true rfl⟩) hS hA hP (fun r_4 H locs hr_4 hP hS => ?_)
  subst hr_4
  refine lv_bipush (pc := 34) (v := nI 24) hx hb dX0_intAt_34 (by decide) ?_
  refine lv_ishl (pc := 36) hx hb dX0_intAt_36 ?_
  refine lv_ior (pc := 37) hx hb dX0_intAt_37 ?_
  exact W.iret (v := (((ub (k.1 i)) ||| ((ub (k.1 (i + 1))) <<< ((nI 8) &&& 31))) ||| ((ub (k.1 (i + 2))) <<< ((nI 16) &&& 31))) ||| ((ub (k.1 (i + 3))) <<< ((nI 24) &&& 31))) hx hb hr (fun t ht hW => ⟨⟨(((ub (k.1 i)) ||| ((ub (k.1 (i + 1))) <<< ((nI 8) &&& 31))) ||| ((ub (k.1 (i + 2))) <<< ((nI 16) &&& 31))) ||| ((ub (k.1 (i + 3))) <<< ((nI 24) &&& 31)), (), rfl, rfl, trivial⟩, hS.F ht⟩) hS.2.2 dX0_intAt_38
set_option maxHeartbeats 4000000 in
set_option maxRecDepth 100000 in
theorem kX0_keepBits (l : Launch) (dC : Nat → ClassId) (dI : Nat → Nat → Nat) (tt : Nat → Nat) (cI cB : ClassId) (sz : Nat) (a1 a2 a3 a4 : Nat) (k : K0) (ut : Nat → Int32) (i : Nat) (x : Int32) (hi : i < 2816) : MetV (S := (Nat → Int8)) l yX0_keepBits wsX0_keepBits { frames := 0, cells := 0, slots := 0, locals := 0 } (dC, dI) [(cI, .int), (cB, .byte)] tt [] sz (mW a1 a2 a3 a4 cI k ut) [.ref a1, .int (nI i), .int x] (fun u : (Nat → Int8) => mW a1 a2 a3 a4 cI (u, k.2) ut) (fun u => u = va_up k.1 i (k.1 i &&& Int32.toInt8 x)) := by
  refine Met.ofW (cc := cX0_keepBits) (maxL := 3) (ret := none) (by decide) rfl ?_
  intro p e s m args below meth c s₁ B hml hv
  obtain ⟨rfl, hsz, hP, hK, hD0, hE⟩ := hv
  have hx := B.exec
  have hb := B.bytes
  have hr := B.returns
  have hts := atoms_spec (ws := wsX0_keepBits) B.pre
  have hown : s.vm.findClass RX0 = some m.cls := findClass_of_methodNamed B.named
  have hlocks := B.notSynchronized
  subst hsz
  obtain ⟨F, te, dn, tl, lf, cu, ac, gn⟩ := k
  have hD := hD0.self (sz := s.heap.size)
  generalize hAe : va_A (mW a1 a2 a3 a4 cI (F, te, dn, tl, lf, cu, ac, gn) ut) s.heap.size = A at hD hE ⊢
  have hA : ∀ q : Nat, s.heap.size ≤ q → A q := fun q h => by rw [← hAe]; exact Or.inr h
  have hS : va_S A s.heap s.heap [] := va_S.rf
  have hl := lv_entry ([.ref a1, .int (nI i), .int x]) (n := 3) (Nat.le_of_ble_eq_true rfl)
  rw [lg_entry_eq]
  generalize (lg_sl ([.ref a1, .int (nI i), .int x]) ++ List.replicate (3 - (lg_sl ([.ref a1, .int (nI i), .int x])).length) Slot.unset).toArray = ls at hl ⊢
  have hl : lv_has ls 3 [(0, .ref a1), (1, .int (nI i)), (2, .int x)] := hl
  have hP : va_P (dC, dI) vwCl (mW a1 a2 a3 a4 cI (F, te, dn, tl, lf, cu, ac, gn) ut) s.heap := hP
  refine lv_iload_n (pc := 0) hx hb dX0_keepBits_0 rfl (lv_at hl 1 rfl) ?_
  refine lv_if_lt (pc := 1) (tgt := 21) hx hb dX0_keepBits_1 (by decide) (fun c_1 => ?_) (fun c_1 => ?_)
  · skip
    have c_1 : i < 0 := (nI_ltI (a := i) (b := 0) (by omega) (by omega)).mp c_1
    exfalso; omega
  · skip
    have c_1 : ¬ i < 0 := fun z => c_1 ((nI_ltI (a := i) (b := 0) (by omega) (by omega)).mpr z)
    refine lv_iload_n (pc := 4) hx hb dX0_keepBits_4 rfl (lv_at hl 1 rfl) ?_
    refine lv_sipush (pc := 5) (v := nI 2816) hx hb dX0_keepBits_5 (by decide) ?_
    refine lv_icmp_ge (pc := 8) (tgt := 21) hx hb dX0_keepBits_8 (by decide) (fun c_2 => ?_) (fun c_2 => ?_)
    · skip
      have c_2 : 2816 ≤ i := (nI_leI (a := 2816) (b := i) (by omega) (by omega)).mp c_2
      exfalso; omega
    · skip
      have c_2 : ¬ 2816 ≤ i := fun z => c_2 ((nI_leI (a := 2816) (b := i) (by omega) (by omega)).mpr z)
      refine lv_aload_n (pc := 11) hx hb dX0_keepBits_11 rfl (lv_at hl 0 rfl) ?_
      refine va_get (pc := 12) (D := (dC, dI)) (ci := 0) (v := .ref a2) (C := RX0) (T := TX0) (N := 9) hx hb hts (by decide +kernel) hown hK hP 0 rfl rfl 0 (by decide) (hts (.fieldLink RX0 9 "ScratchSwap$Memory" "bytes" "[I") (by decide +kernel)) (fun _ h9 => h9) rfl dX0_keepBits_12 ?_
      refine lv_iload_n (pc := 15) hx hb dX0_keepBits_15 rfl (lv_at hl 1 rfl) ?_
      refine lv_dup2_11 (pc := 16) hx hb dX0_keepBits_16 rfl rfl ?_
      refine x_iald (pc := 17) (k := i) (f := fun j => ub (F j)) hx hb hK hP 1 0 rfl rfl (by omega) (by decide) dX0_keepBits_17 ?_
      refine lv_iload_n (pc := 18) hx hb dX0_keepBits_18 rfl (lv_at hl 2 rfl) ?_
      refine lv_iand (pc := 19) hx hb dX0_keepBits_19 ?_
      refine lv_cv (ub_and (F i) x) ?_
      refine x_ust (pc := 20) (k := i) (F := F) (x := (F i) &&& Int32.toInt8 x) hx hb hK hP hD hS 1 0 rfl rfl (by omega) (by decide) dX0_keepBits_20 (fun H locs hP hD hS => ?_)
      have hP : va_P (dC, dI) vwCl (mW a1 a2 a3 a4 cI (va_up F i ((F i) &&& Int32.toInt8 x), te, dn, tl, lf, cu, ac, gn) ut) _ := hP
      have hD : va_D A (mW a1 a2 a3 a4 cI (va_up F i ((F i) &&& Int32.toInt8 x), te, dn, tl, lf, cu, ac, gn) ut) := hD
      exact W.vret hx hb hr (fun t ht hW => ⟨⟨va_up F i ((F i) &&& Int32.toInt8 x), rfl, rfl, by show va_P _ _ _ t.heap; rw [ht]; exact hP, va_K.moved hW.alike hK, hD⟩, hS.F ht⟩) hS.2.2 dX0_keepBits_21
set_option maxHeartbeats 4000000 in
set_option maxRecDepth 100000 in
theorem kX0_tellToGo (l : Launch) (dC : Nat → ClassId) (dI : Nat → Nat → Nat) (tt : Nat → Nat) (cI cB : ClassId) (sz : Nat) (a1 a2 a3 a4 : Nat) (k : K0) (ut : Nat → Int32) (i j : Nat)  : MetV (S := K0) l yX0_tellToGo wsX0_tellToGo { frames := 0, cells := 0, slots := 0, locals := 0 } (dC, dI) [(cI, .int), (cB, .byte)] tt [] sz (mW a1 a2 a3 a4 cI k ut) [.ref a1, .int (nI i), .int (nI j)] (fun u : K0 => mW a1 a2 a3 a4 cI u ut) (fun u => u = (k.1, k.2.1, k.2.2.1, true, i, j, k.2.2.2.2.2.2)) := by
  refine Met.ofW (cc := cX0_tellToGo) (maxL := 3) (ret := none) (by decide) rfl ?_
  intro p e s m args below meth c s₁ B hml hv
  obtain ⟨rfl, hsz, hP, hK, hD0, hE⟩ := hv
  have hx := B.exec
  have hb := B.bytes
  have hr := B.returns
  have hts := atoms_spec (ws := wsX0_tellToGo) B.pre
  have hown : s.vm.findClass RX0 = some m.cls := findClass_of_methodNamed B.named
  have hlocks := B.notSynchronized
  subst hsz
  obtain ⟨F, te, dn, tl, lf, cu, ac, gn⟩ := k
  have hD := hD0.self (sz := s.heap.size)
  generalize hAe : va_A (mW a1 a2 a3 a4 cI (F, te, dn, tl, lf, cu, ac, gn) ut) s.heap.size = A at hD hE ⊢
  have hA : ∀ q : Nat, s.heap.size ≤ q → A q := fun q h => by rw [← hAe]; exact Or.inr h
  have hS : va_S A s.heap s.heap [] := va_S.rf
  have hl := lv_entry ([.ref a1, .int (nI i), .int (nI j)]) (n := 3) (Nat.le_of_ble_eq_true rfl)
  rw [lg_entry_eq]
  generalize (lg_sl ([.ref a1, .int (nI i), .int (nI j)]) ++ List.replicate (3 - (lg_sl ([.ref a1, .int (nI i), .int (nI j)])).length) Slot.unset).toArray = ls at hl ⊢
  have hl : lv_has ls 3 [(0, .ref a1), (1, .int (nI i)), (2, .int (nI j))] := hl
  have hP : va_P (dC, dI) vwCl (mW a1 a2 a3 a4 cI (F, te, dn, tl, lf, cu, ac, gn) ut) s.heap := hP
  refine lv_aload_n (pc := 0) hx hb dX0_tellToGo_0 rfl (lv_at hl 0 rfl) ?_
  refine lv_iconst (pc := 1) (v := nI 1) hx hb dX0_tellToGo_1 (by decide) ?_
  refine lv_cv (show nI 1 = bI true from rfl) ?_
  refine va_put (pc := 2) (D := (dC, dI)) (ci := 0) (v := .int (bI true)) (ty := .boolean) (C := RX0) (T := TX0) (N := 9) hx hb hts (by decide +kernel) tyX0 tyX0_ok nmX0 hown hK hP hD hS 0 rfl rfl 4 (by decide) (hts (.fieldLink RX0 25 "ScratchSwap$Memory" "toldToGo" "Z") (by decide +kernel)) (fun _ h9 => h9) rfl (by decide +kernel) (nbI true) (fbI true) (Nat.le_of_ble_eq_true rfl) dX0_tellToGo_2 (fun H locs hP hD hS => ?_)
  have hP : va_P (dC, dI) vwCl (mW a1 a2 a3 a4 cI (F, te, dn, true, lf, cu, ac, gn) ut) _ := hP
  have hD : va_D A (mW a1 a2 a3 a4 cI (F, te, dn, true, lf, cu, ac, gn) ut) := hD
  refine lv_aload_n (pc := 5) hx hb dX0_tellToGo_5 rfl (lv_at hl 0 rfl) ?_
  refine lv_iload_n (pc := 6) hx hb dX0_tellToGo_6 rfl (lv_at hl 1 rfl) ?_
  refine va_put (pc := 7) (D := (dC, dI)) (ci := 0) (v := .int (nI i)) (ty := .int) (C := RX0) (T := TX0) (N := 9) hx hb hts (by decide +kernel) tyX0 tyX0_ok nmX0 hown hK hP hD hS 0 rfl rfl 5 (by decide) (hts (.fieldLink RX0 28 "ScratchSwap$Memory" "actsLeft" "I") (by decide +kernel)) (fun _ h9 => h9) rfl (by decide +kernel) rfl rfl (Nat.le_of_ble_eq_true rfl) dX0_tellToGo_7 (fun H locs hP hD hS => ?_)
  have hP : va_P (dC, dI) vwCl (mW a1 a2 a3 a4 cI (F, te, dn, true, i, cu, ac, gn) ut) _ := hP
  have hD : va_D A (mW a1 a2 a3 a4 cI (F, te, dn, true, i, cu, ac, gn) ut) := hD
  refine lv_aload_n (pc := 10) hx hb dX0_tellToGo_10 rfl (lv_at hl 0 rfl) ?_
  refine lv_iload_n (pc := 11) hx hb dX0_tellToGo_11 rfl (lv_at hl 2 rfl) ?_
  refine va_put (pc := 12) (D := (dC, dI)) (ci := 0) (v := .int (nI j)) (ty := .int) (C := RX0) (T := TX0) (N := 9) hx hb hts (by decide +kernel) tyX0 tyX0_ok nmX0 hown hK hP hD hS 0 rfl rfl 6 (by decide) (hts (.fieldLink RX0 32 "ScratchSwap$Memory" "unitsCut" "I") (by decide +kernel)) (fun _ h9 => h9) rfl (by decide +kernel) rfl rfl (Nat.le_of_ble_eq_true rfl) dX0_tellToGo_12 (fun H locs hP hD hS => ?_)
  have hP : va_P (dC, dI) vwCl (mW a1 a2 a3 a4 cI (F, te, dn, true, i, j, ac, gn) ut) _ := hP
  have hD : va_D A (mW a1 a2 a3 a4 cI (F, te, dn, true, i, j, ac, gn) ut) := hD
  exact W.vret hx hb hr (fun t ht hW => ⟨⟨(F, te, dn, true, i, j, ac, gn), rfl, rfl, by show va_P _ _ _ t.heap; rw [ht]; exact hP, va_K.moved hW.alike hK, hD⟩, hS.F ht⟩) hS.2.2 dX0_tellToGo_15
set_option maxHeartbeats 4000000 in
set_option maxRecDepth 100000 in
theorem kX0_powerComes (l : Launch) (dC : Nat → ClassId) (dI : Nat → Nat → Nat) (tt : Nat → Nat) (cI cB : ClassId) (sz : Nat) (a1 a2 a3 a4 : Nat) (k : K0) (ut : Nat → Int32)  : MetV (S := K0) l yX0_powerComes wsX0_powerComes { frames := 0, cells := 0, slots := 0, locals := 0 } (dC, dI) [(cI, .int), (cB, .byte)] tt [] sz (mW a1 a2 a3 a4 cI k ut) [.ref a1] (fun u : K0 => mW a1 a2 a3 a4 cI u ut) (fun u => u = (k.1, k.2.1, false, false, k.2.2.2.2)) := by
  refine Met.ofW (cc := cX0_powerComes) (maxL := 1) (ret := none) (by decide) rfl ?_
  intro p e s m args below meth c s₁ B hml hv
  obtain ⟨rfl, hsz, hP, hK, hD0, hE⟩ := hv
  have hx := B.exec
  have hb := B.bytes
  have hr := B.returns
  have hts := atoms_spec (ws := wsX0_powerComes) B.pre
  have hown : s.vm.findClass RX0 = some m.cls := findClass_of_methodNamed B.named
  have hlocks := B.notSynchronized
  subst hsz
  obtain ⟨F, te, dn, tl, lf, cu, ac, gn⟩ := k
  have hD := hD0.self (sz := s.heap.size)
  generalize hAe : va_A (mW a1 a2 a3 a4 cI (F, te, dn, tl, lf, cu, ac, gn) ut) s.heap.size = A at hD hE ⊢
  have hA : ∀ q : Nat, s.heap.size ≤ q → A q := fun q h => by rw [← hAe]; exact Or.inr h
  have hS : va_S A s.heap s.heap [] := va_S.rf
  have hl := lv_entry ([.ref a1]) (n := 1) (Nat.le_of_ble_eq_true rfl)
  rw [lg_entry_eq]
  generalize (lg_sl ([.ref a1]) ++ List.replicate (1 - (lg_sl ([.ref a1])).length) Slot.unset).toArray = ls at hl ⊢
  have hl : lv_has ls 1 [(0, .ref a1)] := hl
  have hP : va_P (dC, dI) vwCl (mW a1 a2 a3 a4 cI (F, te, dn, tl, lf, cu, ac, gn) ut) s.heap := hP
  refine lv_aload_n (pc := 0) hx hb dX0_powerComes_0 rfl (lv_at hl 0 rfl) ?_
  refine lv_iconst (pc := 1) (v := nI 0) hx hb dX0_powerComes_1 (by decide) ?_
  refine lv_cv (show nI 0 = bI false from rfl) ?_
  refine va_put (pc := 2) (D := (dC, dI)) (ci := 0) (v := .int (bI false)) (ty := .boolean) (C := RX0) (T := TX0) (N := 9) hx hb hts (by decide +kernel) tyX0 tyX0_ok nmX0 hown hK hP hD hS 0 rfl rfl 3 (by decide) (hts (.fieldLink RX0 21 "ScratchSwap$Memory" "down" "Z") (by decide +kernel)) (fun _ h9 => h9) rfl (by decide +kernel) (nbI false) (fbI false) (Nat.le_of_ble_eq_true rfl) dX0_powerComes_2 (fun H locs hP hD hS => ?_)
  have hP : va_P (dC, dI) vwCl (mW a1 a2 a3 a4 cI (F, te, false, tl, lf, cu, ac, gn) ut) _ := hP
  have hD : va_D A (mW a1 a2 a3 a4 cI (F, te, false, tl, lf, cu, ac, gn) ut) := hD
  refine lv_aload_n (pc := 5) hx hb dX0_powerComes_5 rfl (lv_at hl 0 rfl) ?_
  refine lv_iconst (pc := 6) (v := nI 0) hx hb dX0_powerComes_6 (by decide) ?_
  refine lv_cv (show nI 0 = bI false from rfl) ?_
  refine va_put (pc := 7) (D := (dC, dI)) (ci := 0) (v := .int (bI false)) (ty := .boolean) (C := RX0) (T := TX0) (N := 9) hx hb hts (by decide +kernel) tyX0 tyX0_ok nmX0 hown hK hP hD hS 0 rfl rfl 4 (by decide) (hts (.fieldLink RX0 25 "ScratchSwap$Memory" "toldToGo" "Z") (by decide +kernel)) (fun _ h9 => h9) rfl (by decide +kernel) (nbI false) (fbI false) (Nat.le_of_ble_eq_true rfl) dX0_powerComes_7 (fun H locs hP hD hS => ?_)
  have hP : va_P (dC, dI) vwCl (mW a1 a2 a3 a4 cI (F, te, false, false, lf, cu, ac, gn) ut) _ := hP
  have hD : va_D A (mW a1 a2 a3 a4 cI (F, te, false, false, lf, cu, ac, gn) ut) := hD
  exact W.vret hx hb hr (fun t ht hW => ⟨⟨(F, te, false, false, lf, cu, ac, gn), rfl, rfl, by show va_P _ _ _ t.heap; rw [ht]; exact hP, va_K.moved hW.alike hK, hD⟩, hS.F ht⟩) hS.2.2 dX0_powerComes_10
set_option maxHeartbeats 4000000 in
set_option maxRecDepth 100000 in
theorem kX0_actsStillDone (l : Launch) (dC : Nat → ClassId) (dI : Nat → Nat → Nat) (tt : Nat → Nat) (cI cB : ClassId) (sz : Nat) (a1 a2 a3 a4 : Nat) (k : K0) (ut : Nat → Int32)  : MetR l yX0_actsStillDone wsX0_actsStillDone { frames := 0, cells := 0, slots := 0, locals := 0 } (dC, dI) [(cI, .int), (cB, .byte)] tt [] sz (mW a1 a2 a3 a4 cI k ut) [.ref a1] (fun r => r = if k.2.2.1 = true then nI 0 else if k.2.2.2.1 = true then nI k.2.2.2.2.1 else (-1)) := by
  refine Met.ofW (cc := cX0_actsStillDone) (maxL := 1) (ret := (some .int)) (by decide) rfl ?_
  intro p e s m args below meth c s₁ B hml hv
  obtain ⟨rfl, hsz, hP, hK, hD0, hE⟩ := hv
  have hx := B.exec
  have hb := B.bytes
  have hr := B.returns
  have hts := atoms_spec (ws := wsX0_actsStillDone) B.pre
  have hown : s.vm.findClass RX0 = some m.cls := findClass_of_methodNamed B.named
  have hlocks := B.notSynchronized
  subst hsz
  obtain ⟨F, te, dn, tl, lf, cu, ac, gn⟩ := k
  have hD := hD0
  generalize hAe : va_A [] s.heap.size = A at hE ⊢
  have hA : ∀ q : Nat, s.heap.size ≤ q → A q := fun q h => by rw [← hAe]; exact Or.inr h
  have hS : va_S A s.heap s.heap [] := va_S.rf
  have hl := lv_entry ([.ref a1]) (n := 1) (Nat.le_of_ble_eq_true rfl)
  rw [lg_entry_eq]
  generalize (lg_sl ([.ref a1]) ++ List.replicate (1 - (lg_sl ([.ref a1])).length) Slot.unset).toArray = ls at hl ⊢
  have hl : lv_has ls 1 [(0, .ref a1)] := hl
  have hP : va_P (dC, dI) vwCl (mW a1 a2 a3 a4 cI (F, te, dn, tl, lf, cu, ac, gn) ut) s.heap := hP
  refine lv_aload_n (pc := 0) hx hb dX0_actsStillDone_0 rfl (lv_at hl 0 rfl) ?_
  refine va_get (pc := 1) (D := (dC, dI)) (ci := 0) (v := .int (bI dn)) (C := RX0) (T := TX0) (N := 9) hx hb hts (by decide +kernel) hown hK hP 0 rfl rfl 3 (by decide) (hts (.fieldLink RX0 21 "ScratchSwap$Memory" "down" "Z") (by decide +kernel)) (fun _ h9 => h9) rfl dX0_actsStillDone_1 ?_
  refine lv_if_eq (pc := 4) (tgt := 9) hx hb dX0_actsStillDone_4 (by decide) (fun c1 => ?_) (fun c1 => ?_)
  · skip
    have c1 : dn = false := bI_0.mp c1
    refine lv_aload_n (pc := 9) hx hb dX0_actsStillDone_9 rfl (lv_at hl 0 rfl) ?_
    refine va_get (pc := 10) (D := (dC, dI)) (ci := 0) (v := .int (bI tl)) (C := RX0) (T := TX0) (N := 9) hx hb hts (by decide +kernel) hown hK hP 0 rfl rfl 4 (by decide) (hts (.fieldLink RX0 25 "ScratchSwap$Memory" "toldToGo" "Z") (by decide +kernel)) (fun _ h9 => h9) rfl dX0_actsStillDone_10 ?_
    refine lv_if_eq (pc := 13) (tgt := 23) hx hb dX0_actsStillDone_13 (by decide) (fun c2 => ?_) (fun c2 => ?_)
    · skip
      have c2 : tl = false := bI_0.mp c2
      refine lv_iconst (pc := 23) (v := (-1)) hx hb dX0_actsStillDone_23 (by decide) ?_
      exact W.iret (v := (-1)) hx hb hr (fun t ht hW => ⟨⟨(-1), (), rfl, by first | (simp only [c1, c2, if_true, if_false]; rfl) | (simp [c1, c2]; done) | (simp [c1]; done) | (simp only [c1]; rfl), trivial⟩, hS.F ht⟩) hS.2.2 dX0_actsStillDone_24
    · skip
      have c2 : tl = true := bI_1.mp c2
      refine lv_aload_n (pc := 16) hx hb dX0_actsStillDone_16 rfl (lv_at hl 0 rfl) ?_
      refine va_get (pc := 17) (D := (dC, dI)) (ci := 0) (v := .int (nI lf)) (C := RX0) (T := TX0) (N := 9) hx hb hts (by decide +kernel) hown hK hP 0 rfl rfl 5 (by decide) (hts (.fieldLink RX0 28 "ScratchSwap$Memory" "actsLeft" "I") (by decide +kernel)) (fun _ h9 => h9) rfl dX0_actsStillDone_17 ?_
      refine lv_goto (pc := 20) (tgt := 24) hx hb dX0_actsStillDone_20 (by decide) ?_
      exact W.iret (v := nI lf) hx hb hr (fun t ht hW => ⟨⟨nI lf, (), rfl, by first | (simp only [c1, c2, if_true, if_false]; rfl) | (simp [c1, c2]; done) | (simp [c1]; done) | (simp only [c1]; rfl), trivial⟩, hS.F ht⟩) hS.2.2 dX0_actsStillDone_24
  · skip
    have c1 : dn = true := bI_1.mp c1
    refine lv_iconst (pc := 7) (v := nI 0) hx hb dX0_actsStillDone_7 (by decide) ?_
    exact W.iret (v := nI 0) hx hb hr (fun t ht hW => ⟨⟨nI 0, (), rfl, by first | (simp only [c1, c2, if_true, if_false]; rfl) | (simp [c1, c2]; done) | (simp [c1]; done) | (simp only [c1]; rfl), trivial⟩, hS.F ht⟩) hS.2.2 dX0_actsStillDone_8
