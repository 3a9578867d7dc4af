set_option maxHeartbeats 4000000 in
set_option maxRecDepth 100000 in
theorem kX3_asNumber (l : Launch) (dC : Nat → ClassId) (dI : Nat → Nat → Nat) (tt : Nat → Nat) (cI cB : ClassId) (sz : Nat) (b : Bool)  : MetR l yX3_asNumber wsX3_asNumber { frames := 0, cells := 0, slots := 0, locals := 0 } (dC, dI) [(cI, .int), (cB, .byte)] tt [] sz ([]) [.int (bI b)] (fun r => r = bI b) := by
  refine Met.ofW (cc := cX3_asNumber) (maxL := 1) (ret := (some .int)) (by decide) rfl ?_
  intro p e s m args below meth c s₁ B hml hv
  obtain ⟨rfl, hsz, hP, hK, hD0, hE⟩ := hv
  have hx := B.exec
  have hb := B.bytes
  have hr := B.returns
  have hts := atoms_spec (ws := wsX3_asNumber) B.pre
  have hown : s.vm.findClass RX3 = some m.cls := findClass_of_methodNamed B.named
  have hlocks := B.notSynchronized
  subst hsz
  have hD := hD0
  generalize hAe : va_A [] s.heap.size = A at hE ⊢
  have hA : ∀ q : Nat, s.heap.size ≤ q → A q := fun q h => by rw [← hAe]; exact Or.inr h
  have hS : va_S A s.heap s.heap [] := va_S.rf
  have hl := lv_entry ([.int (bI b)]) (n := 1) (Nat.le_of_ble_eq_true rfl)
  rw [lg_entry_eq]
  generalize (lg_sl ([.int (bI b)]) ++ List.replicate (1 - (lg_sl ([.int (bI b)])).length) Slot.unset).toArray = ls at hl ⊢
  have hl : lv_has ls 1 [(0, .int (bI b))] := hl
  refine lv_iload_n (pc := 0) hx hb dX3_asNumber_0 rfl (lv_at hl 0 rfl) ?_
  refine lv_if_eq (pc := 1) (tgt := 8) hx hb dX3_asNumber_1 (by decide) (fun c1 => ?_) (fun c1 => ?_)
  · skip
    have c1 : b = false := bI_0.mp c1
    refine lv_iconst (pc := 8) (v := nI 0) hx hb dX3_asNumber_8 (by decide) ?_
    exact W.iret (v := nI 0) hx hb hr (fun t ht hW => ⟨⟨nI 0, (), rfl, by rw [c1]; rfl, trivial⟩, hS.F ht⟩) hS.2.2 dX3_asNumber_9
  · skip
    have c1 : b = true := bI_1.mp c1
    refine lv_iconst (pc := 4) (v := nI 1) hx hb dX3_asNumber_4 (by decide) ?_
    refine lv_goto (pc := 5) (tgt := 9) hx hb dX3_asNumber_5 (by decide) ?_
    exact W.iret (v := nI 1) hx hb hr (fun t ht hW => ⟨⟨nI 1, (), rfl, by rw [c1]; rfl, trivial⟩, hS.F ht⟩) hS.2.2 dX3_asNumber_9
set_option maxHeartbeats 4000000 in
set_option maxRecDepth 100000 in
theorem kX3_isSlot (l : Launch) (dC : Nat → ClassId) (dI : Nat → Nat → Nat) (tt : Nat → Nat) (cI cB : ClassId) (sz : Nat) (x : Int32)  : MetR l yX3_isSlot wsX3_isSlot { frames := 0, cells := 0, slots := 0, locals := 0 } (dC, dI) [(cI, .int), (cB, .byte)] tt [] sz ([]) [.int x] (fun r => r = bI (slotB x)) := by
  refine Met.ofW (cc := cX3_isSlot) (maxL := 1) (ret := (some .boolean)) (by decide) rfl ?_
  intro p e s m args below meth c s₁ B hml hv
  obtain ⟨rfl, hsz, hP, hK, hD0, hE⟩ := hv
  have hx := B.exec
  have hb := B.bytes
  have hr := B.returns
  have hts := atoms_spec (ws := wsX3_isSlot) B.pre
  have hown : s.vm.findClass RX3 = some m.cls := findClass_of_methodNamed B.named
  have hlocks := B.notSynchronized
  subst hsz
  have hD := hD0
  generalize hAe : va_A [] s.heap.size = A at hE ⊢
  have hA : ∀ q : Nat, s.heap.size ≤ q → A q := fun q h => by rw [← hAe]; exact Or.inr h
  have hS : va_S A s.heap s.heap [] := va_S.rf
  have hl := lv_entry ([.int x]) (n := 1) (Nat.le_of_ble_eq_true rfl)
  rw [lg_entry_eq]
  generalize (lg_sl ([.int x]) ++ List.replicate (1 - (lg_sl ([.int x])).length) Slot.unset).toArray = ls at hl ⊢
  have hl : lv_has ls 1 [(0, .int x)] := hl
  refine lv_iload_n (pc := 0) hx hb dX3_isSlot_0 rfl (lv_at hl 0 rfl) ?_
  refine lv_if_eq (pc := 1) (tgt := 9) hx hb dX3_isSlot_1 (by decide) (fun c1 => ?_) (fun c1 => ?_)
  · skip
    refine lv_iconst (pc := 9) (v := nI 1) hx hb dX3_isSlot_9 (by decide) ?_
    refine lv_goto (pc := 10) (tgt := 14) hx hb dX3_isSlot_10 (by decide) ?_
    exact W.zret (v := nI 1) hx hb hr rfl (fun t ht hW => ⟨⟨nI 1, (), rfl, by rw [show slotB x = true from decide_eq_true (by first | exact Or.inl c1 | exact Or.inr c2)]; rfl, trivial⟩, hS.F ht⟩) hS.2.2 dX3_isSlot_14
  · skip
    refine lv_iload_n (pc := 4) hx hb dX3_isSlot_4 rfl (lv_at hl 0 rfl) ?_
    refine lv_iconst (pc := 5) (v := nI 1) hx hb dX3_isSlot_5 (by decide) ?_
    refine lv_icmp_ne (pc := 6) (tgt := 13) hx hb dX3_isSlot_6 (by decide) (fun c2 => ?_) (fun c2 => ?_)
    · skip
      refine lv_iconst (pc := 13) (v := nI 0) hx hb dX3_isSlot_13 (by decide) ?_
      exact W.zret (v := nI 0) hx hb hr rfl (fun t ht hW => ⟨⟨nI 0, (), rfl, by rw [show slotB x = false from decide_eq_false (fun z => z.elim c1 c2)]; rfl, trivial⟩, hS.F ht⟩) hS.2.2 dX3_isSlot_14
    · skip
      refine lv_iconst (pc := 9) (v := nI 1) hx hb dX3_isSlot_9 (by decide) ?_
      refine lv_goto (pc := 10) (tgt := 14) hx hb dX3_isSlot_10 (by decide) ?_
      exact W.zret (v := nI 1) hx hb hr rfl (fun t ht hW => ⟨⟨nI 1, (), rfl, by rw [show slotB x = true from decide_eq_true (by first | exact Or.inl c1 | exact Or.inr c2)]; rfl, trivial⟩, hS.F ht⟩) hS.2.2 dX3_isSlot_14
set_option maxHeartbeats 4000000 in
set_option maxRecDepth 100000 in
theorem kX3_firstSectorOf (l : Launch) (dC : Nat → ClassId) (dI : Nat → Nat → Nat) (tt : Nat → Nat) (cI cB : ClassId) (sz : Nat) (w : Nat) (hw2 : w < 2) : MetR l yX3_firstSectorOf wsX3_firstSectorOf { frames := 0, cells := 0, slots := 0, locals := 0 } (dC, dI) [(cI, .int), (cB, .byte)] tt [] sz ([]) [.int (nI w)] (fun r => r = nI (w * 5)) := by
  refine Met.ofW (cc := cX3_firstSectorOf) (maxL := 1) (ret := (some .int)) (by decide) rfl ?_
  intro p e s m args below meth c s₁ B hml hv
  obtain ⟨rfl, hsz, hP, hK, hD0, hE⟩ := hv
  have hx := B.exec
  have hb := B.bytes
  have hr := B.returns
  have hts := atoms_spec (ws := wsX3_firstSectorOf) B.pre
  have hown : s.vm.findClass RX3 = some m.cls := findClass_of_methodNamed B.named
  have hlocks := B.notSynchronized
  subst hsz
  have hD := hD0
  generalize hAe : va_A [] s.heap.size = A at hE ⊢
  have hA : ∀ q : Nat, s.heap.size ≤ q → A q := fun q h => by rw [← hAe]; exact Or.inr h
  have hS : va_S A s.heap s.heap [] := va_S.rf
  have hl := lv_entry ([.int (nI w)]) (n := 1) (Nat.le_of_ble_eq_true rfl)
  rw [lg_entry_eq]
  generalize (lg_sl ([.int (nI w)]) ++ List.replicate (1 - (lg_sl ([.int (nI w)])).length) Slot.unset).toArray = ls at hl ⊢
  have hl : lv_has ls 1 [(0, .int (nI w))] := hl
  refine lv_iload_n (pc := 0) hx hb dX3_firstSectorOf_0 rfl (lv_at hl 0 rfl) ?_
  refine lv_if_ne (pc := 1) (tgt := 8) hx hb dX3_firstSectorOf_1 (by decide) (fun c1 => ?_) (fun c1 => ?_)
  · skip
    have c1 : ¬ w = 0 := fun z => c1 ((nI_eq (a := w) (b := 0) (by omega) (by omega)).mpr z)
    refine lv_iconst (pc := 8) (v := nI 5) hx hb dX3_firstSectorOf_8 (by decide) ?_
    exact W.iret (v := nI 5) hx hb hr (fun t ht hW => ⟨⟨nI 5, (), rfl, by congr 1; omega, trivial⟩, hS.F ht⟩) hS.2.2 dX3_firstSectorOf_9
  · skip
    have c1 : w = 0 := (nI_eq (a := w) (b := 0) (by omega) (by omega)).mp c1
    refine lv_iconst (pc := 4) (v := nI 0) hx hb dX3_firstSectorOf_4 (by decide) ?_
    refine lv_goto (pc := 5) (tgt := 9) hx hb dX3_firstSectorOf_5 (by decide) ?_
    exact W.iret (v := nI 0) hx hb hr (fun t ht hW => ⟨⟨nI 0, (), rfl, by congr 1; omega, trivial⟩, hS.F ht⟩) hS.2.2 dX3_firstSectorOf_9
set_option maxHeartbeats 4000000 in
set_option maxRecDepth 100000 in
theorem kX3_firstByteOf (l : Launch) (dC : Nat → ClassId) (dI : Nat → Nat → Nat) (tt : Nat → Nat) (cI cB : ClassId) (sz : Nat) (w : Nat) (hw2 : w < 2) : MetR l yX3_firstByteOf wsX3_firstByteOf { frames := 1, cells := 0, slots := 0, locals := 20 } (dC, dI) [(cI, .int), (cB, .byte)] tt [] sz ([]) [.int (nI w)] (fun r => r = nI (w * 5 * 256)) := by
  refine Met.ofW (cc := cX3_firstByteOf) (maxL := 1) (ret := (some .int)) (by decide) rfl ?_
  intro p e s m args below meth c s₁ B hml hv
  obtain ⟨rfl, hsz, hP, hK, hD0, hE⟩ := hv
  have hx := B.exec
  have hb := B.bytes
  have hr := B.returns
  have hts := atoms_spec (ws := wsX3_firstByteOf) B.pre
  have hown : s.vm.findClass RX3 = some m.cls := findClass_of_methodNamed B.named
  have hlocks := B.notSynchronized
  subst hsz
  have hD := hD0
  generalize hAe : va_A [] s.heap.size = A at hE ⊢
  have hA : ∀ q : Nat, s.heap.size ≤ q → A q := fun q h => by rw [← hAe]; exact Or.inr h
  have hS : va_S A s.heap s.heap [] := va_S.rf
  have hl := lv_entry ([.int (nI w)]) (n := 1) (Nat.le_of_ble_eq_true rfl)
  rw [lg_entry_eq]
  generalize (lg_sl ([.int (nI w)]) ++ List.replicate (1 - (lg_sl ([.int (nI w)])).length) Slot.unset).toArray = ls at hl ⊢
  have hl : lv_has ls 1 [(0, .int (nI w))] := hl
  refine lv_iload_n (pc := 0) hx hb dX3_firstByteOf_0 rfl (lv_at hl 0 rfl) ?_
  refine x_roi (pc := 1) (va_runS (As := [.int (nI w)]) (rest := []) ⟨hx, hb, hml, hown, hts⟩ (kX3_firstSectorOf l dC dI tt cI cB _ w (by omega)) (va_cwS 1 hts gX3_firstByteOf_X3_firstSectorOf rfl rfl rfl (by decide +kernel) ⟨Nat.le_of_ble_eq_true rfl, Nat.le_of_ble_eq_true rfl⟩) (x_preS hS hE hK (va_P0 (dC, dI) _) va_D0 [] rfl (by decide) (x_ro hS hA) xR0) rfl rfl hl.1 rfl (lv_room (Nat.le_of_ble_eq_true rfl)) dX3_firstByteOf_1 ⟨Nat.le_of_ble_eq_true rfl, Nat.le_of_ble_eq_true rfl⟩) hS hA (va_P0 (dC, dI) _) (fun r_1 H locs hr_1 _ hS => ?_)
  subst hr_1
  refine lv_sipush (pc := 4) (v := nI 256) hx hb dX3_firstByteOf_4 (by decide) ?_
  refine lv_imul (pc := 7) hx hb dX3_firstByteOf_7 ?_
  refine lv_cv (pk_mul (w * 5) 256) ?_
  exact W.iret (v := nI ((w * 5) * 256)) hx hb hr (fun t ht hW => ⟨⟨nI ((w * 5) * 256), (), rfl, rfl, trivial⟩, hS.F ht⟩) hS.2.2 dX3_firstByteOf_8
set_option maxHeartbeats 4000000 in
set_option maxRecDepth 100000 in
theorem kX3_trailerOf (l : Launch) (dC : Nat → ClassId) (dI : Nat → Nat → Nat) (tt : Nat → Nat) (cI cB : ClassId) (sz : Nat) (w : Nat) (hw2 : w < 2) : MetR l yX3_trailerOf wsX3_trailerOf { frames := 0, cells := 0, slots := 0, locals := 0 } (dC, dI) [(cI, .int), (cB, .byte)] tt [] sz ([]) [.int (nI w)] (fun r => r = nI (w * 5 + 4)) := by
  refine Met.ofW (cc := cX3_trailerOf) (maxL := 1) (ret := (some .int)) (by decide) rfl ?_
  intro p e s m args below meth c s₁ B hml hv
  obtain ⟨rfl, hsz, hP, hK, hD0, hE⟩ := hv
  have hx := B.exec
  have hb := B.bytes
  have hr := B.returns
  have hts := atoms_spec (ws := wsX3_trailerOf) B.pre
  have hown : s.vm.findClass RX3 = some m.cls := findClass_of_methodNamed B.named
  have hlocks := B.notSynchronized
  subst hsz
  have hD := hD0
  generalize hAe : va_A [] s.heap.size = A at hE ⊢
  have hA : ∀ q : Nat, s.heap.size ≤ q → A q := fun q h => by rw [← hAe]; exact Or.inr h
  have hS : va_S A s.heap s.heap [] := va_S.rf
  have hl := lv_entry ([.int (nI w)]) (n := 1) (Nat.le_of_ble_eq_true rfl)
  rw [lg_entry_eq]
  generalize (lg_sl ([.int (nI w)]) ++ List.replicate (1 - (lg_sl ([.int (nI w)])).length) Slot.unset).toArray = ls at hl ⊢
  have hl : lv_has ls 1 [(0, .int (nI w))] := hl
  refine lv_iload_n (pc := 0) hx hb dX3_trailerOf_0 rfl (lv_at hl 0 rfl) ?_
  refine lv_if_ne (pc := 1) (tgt := 8) hx hb dX3_trailerOf_1 (by decide) (fun c1 => ?_) (fun c1 => ?_)
  · skip
    have c1 : ¬ w = 0 := fun z => c1 ((nI_eq (a := w) (b := 0) (by omega) (by omega)).mpr z)
    refine lv_bipush (pc := 8) (v := nI 9) hx hb dX3_trailerOf_8 (by decide) ?_
    exact W.iret (v := nI 9) hx hb hr (fun t ht hW => ⟨⟨nI 9, (), rfl, by congr 1; omega, trivial⟩, hS.F ht⟩) hS.2.2 dX3_trailerOf_10
  · skip
    have c1 : w = 0 := (nI_eq (a := w) (b := 0) (by omega) (by omega)).mp c1
    refine lv_iconst (pc := 4) (v := nI 4) hx hb dX3_trailerOf_4 (by decide) ?_
    refine lv_goto (pc := 5) (tgt := 10) hx hb dX3_trailerOf_5 (by decide) ?_
    exact W.iret (v := nI 4) hx hb hr (fun t ht hW => ⟨⟨nI 4, (), rfl, by congr 1; omega, trivial⟩, hS.F ht⟩) hS.2.2 dX3_trailerOf_10
set_option maxHeartbeats 4000000 in
set_option maxRecDepth 100000 in
theorem kX3_stopRunning (l : Launch) (dC : Nat → ClassId) (dI : Nat → Nat → Nat) (tt : Nat → Nat) (cI cB : ClassId) (sz : Nat) (a0 a1 a2 a3 a4 a5 a6 a7 a8 a9 : Nat) (k : K0) (ut : Nat → Int32) (tb : Nat → Int8) (tn : Nat) (sc hs : Nat → Int32) (rn : Bool) (rv wb ee we : Int32)  : MetV (S := Unit) l yX3_stopRunning wsX3_stopRunning { frames := 0, cells := 0, slots := 0, locals := 0 } (dC, dI) [(cI, .int), (cB, .byte)] tt [] sz (xW a0 a1 a2 a3 a4 a5 a6 a7 a8 a9 cI k ut tb tn sc hs rn rv wb ee we) [.ref a0] (fun u : Unit => xW a0 a1 a2 a3 a4 a5 a6 a7 a8 a9 cI k ut tb tn sc hs false (nI 0) wb ee we) (fun u => u = ()) := by
  refine Met.ofW (cc := cX3_stopRunning) (maxL := 1) (ret := none) (by decide) rfl ?_
  intro p e s m args below meth c s₁ B hml hv
  obtain ⟨rfl, hsz, hP, hK, hD0, hE⟩ := hv
  have hx := B.exec
  have hb := B.bytes
  have hr := B.returns
  have hts := atoms_spec (ws := wsX3_stopRunning) B.pre
  have hown : s.vm.findClass RX3 = some m.cls := findClass_of_methodNamed B.named
  have hlocks := B.notSynchronized
  subst hsz
  have hD := hD0.self (sz := s.heap.size)
  generalize hAe : va_A (xW a0 a1 a2 a3 a4 a5 a6 a7 a8 a9 cI k ut tb tn sc hs rn rv wb ee we) s.heap.size = A at hD hE ⊢
  have hA : ∀ q : Nat, s.heap.size ≤ q → A q := fun q h => by rw [← hAe]; exact Or.inr h
  have hS : va_S A s.heap s.heap [] := va_S.rf
  have hl := lv_entry ([.ref a0]) (n := 1) (Nat.le_of_ble_eq_true rfl)
  rw [lg_entry_eq]
  generalize (lg_sl ([.ref a0]) ++ List.replicate (1 - (lg_sl ([.ref a0])).length) Slot.unset).toArray = ls at hl ⊢
  have hl : lv_has ls 1 [(0, .ref a0)] := hl
  have hP : va_P (dC, dI) vwCl (xW a0 a1 a2 a3 a4 a5 a6 a7 a8 a9 cI k ut tb tn sc hs rn rv wb ee we) s.heap := hP
  refine lv_aload_n (pc := 0) hx hb dX3_stopRunning_0 rfl (lv_at hl 0 rfl) ?_
  refine lv_iconst (pc := 1) (v := nI 0) hx hb dX3_stopRunning_1 (by decide) ?_
  refine lv_cv (show nI 0 = bI false from rfl) ?_
  refine va_put (pc := 2) (D := (dC, dI)) (ci := 3) (v := .int (bI false)) (ty := .boolean) (C := RX3) (T := TX3) (N := 8) hx hb hts (by decide +kernel) tyX3 tyX3_ok nmX3 hown hK hP hD hS 0 rfl rfl 3 (by decide) (hts (.fieldLink RX3 30 "ScratchSwap" "runs" "Z") (by decide +kernel)) (fun _ h9 => h9) rfl (by decide +kernel) (nbI false) (fbI false) (Nat.le_of_ble_eq_true rfl) dX3_stopRunning_2 (fun H locs hP hD hS => ?_)
  have hP : va_P (dC, dI) vwCl (xW a0 a1 a2 a3 a4 a5 a6 a7 a8 a9 cI k ut tb tn sc hs false rv wb ee we) _ := hP
  have hD : va_D A (xW a0 a1 a2 a3 a4 a5 a6 a7 a8 a9 cI k ut tb tn sc hs false rv wb ee we) := hD
  refine lv_aload_n (pc := 5) hx hb dX3_stopRunning_5 rfl (lv_at hl 0 rfl) ?_
  refine lv_iconst (pc := 6) (v := nI 0) hx hb dX3_stopRunning_6 (by decide) ?_
  refine va_put (pc := 7) (D := (dC, dI)) (ci := 3) (v := .int (nI 0)) (ty := .int) (C := RX3) (T := TX3) (N := 8) hx hb hts (by decide +kernel) tyX3 tyX3_ok nmX3 hown hK hP hD hS 0 rfl rfl 4 (by decide) (hts (.fieldLink RX3 34 "ScratchSwap" "runningVersion" "I") (by decide +kernel)) (fun _ h9 => h9) rfl (by decide +kernel) rfl rfl (Nat.le_of_ble_eq_true rfl) dX3_stopRunning_7 (fun H locs hP hD hS => ?_)
  have hP : va_P (dC, dI) vwCl (xW a0 a1 a2 a3 a4 a5 a6 a7 a8 a9 cI k ut tb tn sc hs false (nI 0) wb ee we) _ := hP
  have hD : va_D A (xW a0 a1 a2 a3 a4 a5 a6 a7 a8 a9 cI k ut tb tn sc hs false (nI 0) wb ee we) := hD
  exact W.vret hx hb hr (fun t ht hW => ⟨⟨(), rfl, rfl, by show va_P _ _ _ t.heap; rw [ht]; exact hP, va_K.moved hW.alike hK, hD⟩, hS.F ht⟩) hS.2.2 dX3_stopRunning_10
set_option maxHeartbeats 4000000 in
set_option maxRecDepth 100000 in
theorem kX3_powerWent (l : Launch) (dC : Nat → ClassId) (dI : Nat → Nat → Nat) (tt : Nat → Nat) (cI cB : ClassId) (sz : Nat) (a0 a1 a2 a3 a4 a5 a6 a7 a8 a9 : Nat) (k : K0) (ut : Nat → Int32) (tb : Nat → Int8) (tn : Nat) (sc hs : Nat → Int32) (rn : Bool) (rv wb ee we : Int32)  : MetI (S := Unit) l yX3_powerWent wsX3_powerWent { frames := 1, cells := 0, slots := 0, locals := 20 } (dC, dI) [(cI, .int), (cB, .byte)] tt [] sz (xW a0 a1 a2 a3 a4 a5 a6 a7 a8 a9 cI k ut tb tn sc hs rn rv wb ee we) [.ref a0] (fun u : Unit => xW a0 a1 a2 a3 a4 a5 a6 a7 a8 a9 cI k ut tb tn sc hs false (nI 0) wb ee we) (fun r u => r = (-9)) := by
  refine Met.ofW (cc := cX3_powerWent) (maxL := 1) (ret := (some .int)) (by decide) rfl ?_
  intro p e s m args below meth c s₁ B hml hv
  obtain ⟨rfl, hsz, hP, hK, hD0, hE⟩ := hv
  have hx := B.exec
  have hb := B.bytes
  have hr := B.returns
  have hts := atoms_spec (ws := wsX3_powerWent) B.pre
  have hown : s.vm.findClass RX3 = some m.cls := findClass_of_methodNamed B.named
  have hlocks := B.notSynchronized
  subst hsz
  have hD := hD0.self (sz := s.heap.size)
  generalize hAe : va_A (xW a0 a1 a2 a3 a4 a5 a6 a7 a8 a9 cI k ut tb tn sc hs rn rv wb ee we) s.heap.size = A at hD hE ⊢
  have hA : ∀ q : Nat, s.heap.size ≤ q → A q := fun q h => by rw [← hAe]; exact Or.inr h
  have hS : va_S A s.heap s.heap [] := va_S.rf
  have hl := lv_entry ([.ref a0]) (n := 1) (Nat.le_of_ble_eq_true rfl)
  rw [lg_entry_eq]
  generalize (lg_sl ([.ref a0]) ++ List.replicate (1 - (lg_sl ([.ref a0])).length) Slot.unset).toArray = ls at hl ⊢
  have hl : lv_has ls 1 [(0, .ref a0)] := hl
  have hP : va_P (dC, dI) vwCl (xW a0 a1 a2 a3 a4 a5 a6 a7 a8 a9 cI k ut tb tn sc hs rn rv wb ee we) s.heap := hP
  refine lv_aload_n (pc := 0) hx hb dX3_powerWent_0 rfl (lv_at hl 0 rfl) ?_
  refine x_wrva (pc := 1) (va_runV (As := []) (rest := []) ⟨hx, hb, hml, hown, hts⟩ (kX3_stopRunning l dC dI tt cI cB _ a0 a1 a2 a3 a4 a5 a6 a7 a8 a9 k ut tb tn sc hs rn rv wb ee we ) (cwV 0 hts gX3_powerWent_X3_stopRunning rfl rfl rfl (by decide +kernel) ⟨Nat.le_of_ble_eq_true rfl, Nat.le_of_ble_eq_true rfl⟩) (x_preVa hS hE hK hP hD (x_all hD hS hA) xR0 3 0 rfl rfl) rfl rfl hl.1 rfl (lv_room (Nat.le_of_ble_eq_true rfl)) dX3_powerWent_1 ⟨Nat.le_of_ble_eq_true rfl, Nat.le_of_ble_eq_true rfl⟩) hS hA hD (fun u_1 H locs hu_1 hP hD hS => ?_)
  have hP : va_P (dC, dI) vwCl (xW a0 a1 a2 a3 a4 a5 a6 a7 a8 a9 cI k ut tb tn sc hs false (nI 0) wb ee we) _ := hP
  have hD : va_D A (xW a0 a1 a2 a3 a4 a5 a6 a7 a8 a9 cI k ut tb tn sc hs false (nI 0) wb ee we) := hD
  refine lv_bipush (pc := 4) (v := (-9)) hx hb dX3_powerWent_4 (by decide) ?_
  exact W.iret (v := (-9)) hx hb hr (fun t ht hW => ⟨⟨(-9), (), rfl, rfl, by show va_P _ _ _ t.heap; rw [ht]; exact hP, va_K.moved hW.alike hK, hD⟩, hS.F ht⟩) hS.2.2 dX3_powerWent_6
set_option maxHeartbeats 4000000 in
set_option maxRecDepth 100000 in
theorem kX3_lengthIn (l : Launch) (dC : Nat → ClassId) (dI : Nat → Nat → Nat) (tt : Nat → Nat) (cI cB : ClassId) (sz : Nat) (a0 a1 a2 a3 a4 a5 a6 a7 a8 a9 : Nat) (k : K0) (ut : Nat → Int32) (tb : Nat → Int8) (tn : Nat) (sc hs : Nat → Int32) (rn : Bool) (rv wb ee we : Int32) (w : Nat) (hw2 : w < 2) : MetR l yX3_lengthIn wsX3_lengthIn { frames := 2, cells := 0, slots := 0, locals := 42 } (dC, dI) [(cI, .int), (cB, .byte)] tt [] sz (xW a0 a1 a2 a3 a4 a5 a6 a7 a8 a9 cI k ut tb tn sc hs rn rv wb ee we) [.ref a0, .int (nI w)] (fun r => r = mI k.1 (w * 5 * 256)) := by
  refine Met.ofW (cc := cX3_lengthIn) (maxL := 2) (ret := (some .int)) (by decide) rfl ?_
  intro p e s m args below meth c s₁ B hml hv
  obtain ⟨rfl, hsz, hP, hK, hD0, hE⟩ := hv
  have hx := B.exec
  have hb := B.bytes
  have hr := B.returns
  have hts := atoms_spec (ws := wsX3_lengthIn) B.pre
  have hown : s.vm.findClass RX3 = some m.cls := findClass_of_methodNamed B.named
  have hlocks := B.notSynchronized
  subst hsz
  have hD := hD0
  generalize hAe : va_A [] s.heap.size = A at hE ⊢
  have hA : ∀ q : Nat, s.heap.size ≤ q → A q := fun q h => by rw [← hAe]; exact Or.inr h
  have hS : va_S A s.heap s.heap [] := va_S.rf
  have hl := lv_entry ([.ref a0, .int (nI w)]) (n := 2) (Nat.le_of_ble_eq_true rfl)
  rw [lg_entry_eq]
  generalize (lg_sl ([.ref a0, .int (nI w)]) ++ List.replicate (2 - (lg_sl ([.ref a0, .int (nI w)])).length) Slot.unset).toArray = ls at hl ⊢
  have hl : lv_has ls 2 [(0, .ref a0), (1, .int (nI w))] := hl
  have hP : va_P (dC, dI) vwCl (xW a0 a1 a2 a3 a4 a5 a6 a7 a8 a9 cI k ut tb tn sc hs rn rv wb ee we) s.heap := hP
  refine lv_aload_n (pc := 0) hx hb dX3_lengthIn_0 rfl (lv_at hl 0 rfl) ?_
  refine va_get (pc := 1) (D := (dC, dI)) (ci := 3) (v := .ref a1) (C := RX3) (T := TX3) (N := 8) hx hb hts (by decide +kernel) hown hK hP 0 rfl rfl 0 (by decide) (hts (.fieldLink RX3 12 "ScratchSwap" "memory" "LScratchSwap$Memory;") (by decide +kernel)) (fun _ h9 => h9) rfl dX3_lengthIn_1 ?_
  refine lv_iload_n (pc := 4) hx hb dX3_lengthIn_4 rfl (lv_at hl 1 rfl) ?_
  refine x_roi (pc := 5) (va_runS (As := [.int (nI w)]) (rest := [.ref a1]) ⟨hx, hb, hml, hown, hts⟩ (kX3_firstByteOf l dC dI tt cI cB _ w (by omega)) (va_cwS 1 hts gX3_lengthIn_X3_firstByteOf rfl rfl rfl (by decide +kernel) ⟨Nat.le_of_ble_eq_true rfl, Nat.le_of_ble_eq_true rfl⟩) (x_preS hS hE hK hP hD [] rfl (by decide) (x_ro hS hA) xR0) rfl rfl hl.1 rfl (lv_room (Nat.le_of_ble_eq_true rfl)) dX3_lengthIn_5 ⟨Nat.le_of_ble_eq_true rfl, Nat.le_of_ble_eq_true rfl⟩) hS hA hP (fun r_1 H locs hr_1 hP hS => ?_)
  subst hr_1
  refine x_roi (pc := 8) (va_runVN (As := [.int (nI (w * 5 * 256))]) (rest := []) ⟨hx, hb, hml, hown, hts⟩ (kX0_intAt l dC dI tt cI cB _ a1 a2 a3 a4 k ut (w * 5 * 256) (by omega)) (⟨va_cnB 1 hts gX3_lengthIn_X0_intAt_n169 rfl rfl rfl (hE.m 13 (q := (RX3, 169, yX0_intAt, "ScratchSwap")) rfl) (hts (.initialized RX0) (by decide +kernel)) (by decide +kernel) ⟨Nat.le_of_ble_eq_true rfl, Nat.le_of_ble_eq_true rfl⟩, hts (.instanceMethod yX0_intAt) (by decide +kernel), hts (.selects RX0 yX0_intAt yX0_intAt) (by decide +kernel)⟩) (x_preV hS hE hK hP hD [1, 2, 3, 4] rfl (by decide) (x_ro hS hA) xR0 0 1 rfl rfl) rfl rfl hl.1 rfl (lv_room (Nat.le_of_ble_eq_true rfl)) dX3_lengthIn_8 ⟨Nat.le_of_ble_eq_true rfl, Nat.le_of_ble_eq_true rfl⟩) hS hA hP (fun r_2 H locs hr_2 hP hS => ?_)
  subst hr_2
  exact W.iret (v := mI k.1 (w * 5 * 256)) hx hb hr (fun t ht hW => ⟨⟨mI k.1 (w * 5 * 256), (), rfl, rfl, trivial⟩, hS.F ht⟩) hS.2.2 dX3_lengthIn_11
set_option maxHeartbeats 4000000 in
set_option maxRecDepth 100000 in
theorem kX3_versionIn (l : Launch) (dC : Nat → ClassId) (dI : Nat → Nat → Nat) (tt : Nat → Nat) (cI cB : ClassId) (sz : Nat) (a0 a1 a2 a3 a4 a5 a6 a7 a8 a9 : Nat) (k : K0) (ut : Nat → Int32) (tb : Nat → Int8) (tn : Nat) (sc hs : Nat → Int32) (rn : Bool) (rv wb ee we : Int32) (w : Nat) (hw2 : w < 2) : MetR l yX3_versionIn wsX3_versionIn { frames := 2, cells := 0, slots := 0, locals := 42 } (dC, dI) [(cI, .int), (cB, .byte)] tt [] sz (xW a0 a1 a2 a3 a4 a5 a6 a7 a8 a9 cI k ut tb tn sc hs rn rv wb ee we) [.ref a0, .int (nI w)] (fun r => r = mI k.1 (w * 5 * 256 + 4)) := by
  refine Met.ofW (cc := cX3_versionIn) (maxL := 2) (ret := (some .int)) (by decide) rfl ?_
  intro p e s m args below meth c s₁ B hml hv
  obtain ⟨rfl, hsz, hP, hK, hD0, hE⟩ := hv
  have hx := B.exec
  have hb := B.bytes
  have hr := B.returns
  have hts := atoms_spec (ws := wsX3_versionIn) B.pre
  have hown : s.vm.findClass RX3 = some m.cls := findClass_of_methodNamed B.named
  have hlocks := B.notSynchronized
  subst hsz
  have hD := hD0
  generalize hAe : va_A [] s.heap.size = A at hE ⊢
  have hA : ∀ q : Nat, s.heap.size ≤ q → A q := fun q h => by rw [← hAe]; exact Or.inr h
  have hS : va_S A s.heap s.heap [] := va_S.rf
  have hl := lv_entry ([.ref a0, .int (nI w)]) (n := 2) (Nat.le_of_ble_eq_true rfl)
  rw [lg_entry_eq]
  generalize (lg_sl ([.ref a0, .int (nI w)]) ++ List.replicate (2 - (lg_sl ([.ref a0, .int (nI w)])).length) Slot.unset).toArray = ls at hl ⊢
  have hl : lv_has ls 2 [(0, .ref a0), (1, .int (nI w))] := hl
  have hP : va_P (dC, dI) vwCl (xW a0 a1 a2 a3 a4 a5 a6 a7 a8 a9 cI k ut tb tn sc hs rn rv wb ee we) s.heap := hP
  refine lv_aload_n (pc := 0) hx hb dX3_versionIn_0 rfl (lv_at hl 0 rfl) ?_
  refine va_get (pc := 1) (D := (dC, dI)) (ci := 3) (v := .ref a1) (C := RX3) (T := TX3) (N := 8) hx hb hts (by decide +kernel) hown hK hP 0 rfl rfl 0 (by decide) (hts (.fieldLink RX3 12 "ScratchSwap" "memory" "LScratchSwap$Memory;") (by decide +kernel)) (fun _ h9 => h9) rfl dX3_versionIn_1 ?_
  refine lv_iload_n (pc := 4) hx hb dX3_versionIn_4 rfl (lv_at hl 1 rfl) ?_
  refine x_roi (pc := 5) (va_runS (As := [.int (nI w)]) (rest := [.ref a1]) ⟨hx, hb, hml, hown, hts⟩ (kX3_firstByteOf l dC dI tt cI cB _ w (by omega)) (va_cwS 1 hts gX3_versionIn_X3_firstByteOf rfl rfl rfl (by decide +kernel) ⟨Nat.le_of_ble_eq_true rfl, Nat.le_of_ble_eq_true rfl⟩) (x_preS hS hE hK hP hD [] rfl (by decide) (x_ro hS hA) xR0) rfl rfl hl.1 rfl (lv_room (Nat.le_of_ble_eq_true rfl)) dX3_versionIn_5 ⟨Nat.le_of_ble_eq_true rfl, Nat.le_of_ble_eq_true rfl⟩) hS hA hP (fun r_1 H locs hr_1 hP hS => ?_)
  subst hr_1
  refine lv_iconst (pc := 8) (v := nI 4) hx hb dX3_versionIn_8 (by decide) ?_
  refine lv_iadd (pc := 9) hx hb dX3_versionIn_9 ?_
  refine lv_cv (nI_add (w * 5 * 256) 4) ?_
  refine x_roi (pc := 10) (va_runVN (As := [.int (nI ((w * 5 * 256) + 4))]) (rest := []) ⟨hx, hb, hml, hown, hts⟩ (kX0_intAt l dC dI tt cI cB _ a1 a2 a3 a4 k ut ((w * 5 * 256) + 4) (by omega)) (⟨va_cnB 1 hts gX3_versionIn_X0_intAt_n169 rfl rfl rfl (hE.m 13 (q := (RX3, 169, yX0_intAt, "ScratchSwap")) rfl) (hts (.initialized RX0) (by decide +kernel)) (by decide +kernel) ⟨Nat.le_of_ble_eq_true rfl, Nat.le_of_ble_eq_true rfl⟩, hts (.instanceMethod yX0_intAt) (by decide +kernel), hts (.selects RX0 yX0_intAt yX0_intAt) (by decide +kernel)⟩) (x_preV hS hE hK hP hD [1, 2, 3, 4] rfl (by decide) (x_ro hS hA) xR0 0 1 rfl rfl) rfl rfl hl.1 rfl (lv_room (Nat.le_of_ble_eq_true rfl)) dX3_versionIn_10 ⟨Nat.le_of_ble_eq_true rfl, Nat.le_of_ble_eq_true rfl⟩) hS hA hP (fun r_2 H locs hr_2 hP hS => ?_)
  subst hr_2
  exact W.iret (v := mI k.1 ((w * 5 * 256) + 4)) hx hb hr (fun t ht hW => ⟨⟨mI k.1 ((w * 5 * 256) + 4), (), rfl, rfl, trivial⟩, hS.F ht⟩) hS.2.2 dX3_versionIn_13
set_option maxHeartbeats 4000000 in
set_option maxRecDepth 100000 in
theorem kX3_isMarked (l : Launch) (dC : Nat → ClassId) (dI : Nat → Nat → Nat) (tt : Nat → Nat) (cI cB : ClassId) (sz : Nat) (a0 a1 a2 a3 a4 a5 a6 a7 a8 a9 : Nat) (k : K0) (ut : Nat → Int32) (tb : Nat → Int8) (tn : Nat) (sc hs : Nat → Int32) (rn : Bool) (rv wb ee we : Int32) (i0 j0 : Nat) (hp : i0 * 256 + j0 * 8 + 8 ≤ 2816) : MetR l yX3_isMarked wsX3_isMarked { frames := 2, cells := 0, slots := 0, locals := 46 } (dC, dI) [(cI, .int), (cB, .byte)] tt [] sz (xW a0 a1 a2 a3 a4 a5 a6 a7 a8 a9 cI k ut tb tn sc hs rn rv wb ee we) [.ref a0, .int (nI i0), .int (nI j0)] (fun r => r = bI (mkB k.1 (i0 * 256 + j0 * 8))) := by
  refine Met.ofW (cc := cX3_isMarked) (maxL := 3) (ret := (some .boolean)) (by decide) rfl ?_
  intro p e s m args below meth c s₁ B hml hv
  obtain ⟨rfl, hsz, hP, hK, hD0, hE⟩ := hv
  have hx := B.exec
  have hb := B.bytes
  have hr := B.returns
  have hts := atoms_spec (ws := wsX3_isMarked) B.pre
  have hown : s.vm.findClass RX3 = some m.cls := findClass_of_methodNamed B.named
  have hlocks := B.notSynchronized
  subst hsz
  have hD := hD0
  generalize hAe : va_A [] s.heap.size = A at hE ⊢
  have hA : ∀ q : Nat, s.heap.size ≤ q → A q := fun q h => by rw [← hAe]; exact Or.inr h
  have hS : va_S A s.heap s.heap [] := va_S.rf
  have hl := lv_entry ([.ref a0, .int (nI i0), .int (nI j0)]) (n := 3) (Nat.le_of_ble_eq_true rfl)
  rw [lg_entry_eq]
  generalize (lg_sl ([.ref a0, .int (nI i0), .int (nI j0)]) ++ List.replicate (3 - (lg_sl ([.ref a0, .int (nI i0), .int (nI j0)])).length) Slot.unset).toArray = ls at hl ⊢
  have hl : lv_has ls 3 [(0, .ref a0), (1, .int (nI i0)), (2, .int (nI j0))] := hl
  have hP : va_P (dC, dI) vwCl (xW a0 a1 a2 a3 a4 a5 a6 a7 a8 a9 cI k ut tb tn sc hs rn rv wb ee we) s.heap := hP
  refine lv_aload_n (pc := 0) hx hb dX3_isMarked_0 rfl (lv_at hl 0 rfl) ?_
  refine va_get (pc := 1) (D := (dC, dI)) (ci := 3) (v := .ref a1) (C := RX3) (T := TX3) (N := 8) hx hb hts (by decide +kernel) hown hK hP 0 rfl rfl 0 (by decide) (hts (.fieldLink RX3 12 "ScratchSwap" "memory" "LScratchSwap$Memory;") (by decide +kernel)) (fun _ h9 => h9) rfl dX3_isMarked_1 ?_
  refine lv_iload_n (pc := 4) hx hb dX3_isMarked_4 rfl (lv_at hl 1 rfl) ?_
  refine lv_iload_n (pc := 5) hx hb dX3_isMarked_5 rfl (lv_at hl 2 rfl) ?_
  refine x_roi (pc := 6) (va_runVN (As := [.int (nI i0), .int (nI j0)]) (rest := []) ⟨hx, hb, hml, hown, hts⟩ (kX0_markIn l dC dI tt cI cB _ a1 a2 a3 a4 k ut i0 j0 (by omega)) (⟨va_cnB 2 hts gX3_isMarked_X0_markIn_n144 rfl rfl rfl (hE.m 7 (q := (RX3, 144, yX0_markIn, "ScratchSwap")) rfl) (hts (.initialized RX0) (by decide +kernel)) (by decide +kernel) ⟨Nat.le_of_ble_eq_true rfl, Nat.le_of_ble_eq_true rfl⟩, hts (.instanceMethod yX0_markIn) (by decide +kernel), hts (.selects RX0 yX0_markIn yX0_markIn) (by decide +kernel)⟩) (x_preV hS hE hK hP hD [1, 2, 3, 4] rfl (by decide) (x_ro hS hA) xR0 0 1 rfl rfl) rfl rfl hl.1 rfl (lv_room (Nat.le_of_ble_eq_true rfl)) dX3_isMarked_6 ⟨Nat.le_of_ble_eq_true rfl, Nat.le_of_ble_eq_true rfl⟩) hS hA hP (fun r_1 H locs hr_1 hP hS => ?_)
  subst hr_1
  have hs_2 := setN_le k.1 (i0 * 256 + j0 * 8)
  refine lv_iconst (pc := 9) (v := nI 1) hx hb dX3_isMarked_9 (by decide) ?_
  refine lv_icmp_ne (pc := 10) (tgt := 17) hx hb dX3_isMarked_10 (by decide) (fun c1 => ?_) (fun c1 => ?_)
  · skip
    have c1 : ¬ (setN k.1 (i0 * 256 + j0 * 8)) = 1 := fun z => c1 ((nI_eq (a := (setN k.1 (i0 * 256 + j0 * 8))) (b := 1) (by omega) (by omega)).mpr z)
    refine lv_iconst (pc := 17) (v := nI 0) hx hb dX3_isMarked_17 (by decide) ?_
    exact W.zret (v := nI 0) hx hb hr rfl (fun t ht hW => ⟨⟨nI 0, (), rfl, by rw [show mkB k.1 (i0 * 256 + j0 * 8) = false from decide_eq_false c1]; rfl, trivial⟩, hS.F ht⟩) hS.2.2 dX3_isMarked_18
  · skip
    have c1 : (setN k.1 (i0 * 256 + j0 * 8)) = 1 := (nI_eq (a := (setN k.1 (i0 * 256 + j0 * 8))) (b := 1) (by omega) (by omega)).mp c1
    refine lv_iconst (pc := 13) (v := nI 1) hx hb dX3_isMarked_13 (by decide) ?_
    refine lv_goto (pc := 14) (tgt := 18) hx hb dX3_isMarked_14 (by decide) ?_
    exact W.zret (v := nI 1) hx hb hr rfl (fun t ht hW => ⟨⟨nI 1, (), rfl, by rw [show mkB k.1 (i0 * 256 + j0 * 8) = true from decide_eq_true c1]; rfl, trivial⟩, hS.F ht⟩) hS.2.2 dX3_isMarked_18
set_option maxHeartbeats 4000000 in
set_option maxRecDepth 100000 in
theorem kX3_isUnderWay (l : Launch) (dC : Nat → ClassId) (dI : Nat → Nat → Nat) (tt : Nat → Nat) (cI cB : ClassId) (sz : Nat) (a0 a1 a2 a3 a4 a5 a6 a7 a8 a9 : Nat) (k : K0) (ut : Nat → Int32) (tb : Nat → Int8) (tn : Nat) (sc hs : Nat → Int32) (rn : Bool) (rv wb ee we : Int32)  : MetR l yX3_isUnderWay wsX3_isUnderWay { frames := 3, cells := 0, slots := 0, locals := 68 } (dC, dI) [(cI, .int), (cB, .byte)] tt [] sz (xW a0 a1 a2 a3 a4 a5 a6 a7 a8 a9 cI k ut tb tn sc hs rn rv wb ee we) [.ref a0] (fun r => r = bI (uwB k.1)) := by
  refine Met.ofW (cc := cX3_isUnderWay) (maxL := 1) (ret := (some .boolean)) (by decide) rfl ?_
  intro p e s m args below meth c s₁ B hml hv
  obtain ⟨rfl, hsz, hP, hK, hD0, hE⟩ := hv
  have hx := B.exec
  have hb := B.bytes
  have hr := B.returns
  have hts := atoms_spec (ws := wsX3_isUnderWay) B.pre
  have hown : s.vm.findClass RX3 = some m.cls := findClass_of_methodNamed B.named
  have hlocks := B.notSynchronized
  subst hsz
  have hD := hD0
  generalize hAe : va_A [] s.heap.size = A at hE ⊢
  have hA : ∀ q : Nat, s.heap.size ≤ q → A q := fun q h => by rw [← hAe]; exact Or.inr h
  have hS : va_S A s.heap s.heap [] := va_S.rf
  have hl := lv_entry ([.ref a0]) (n := 1) (Nat.le_of_ble_eq_true rfl)
  rw [lg_entry_eq]
  generalize (lg_sl ([.ref a0]) ++ List.replicate (1 - (lg_sl ([.ref a0])).length) Slot.unset).toArray = ls at hl ⊢
  have hl : lv_has ls 1 [(0, .ref a0)] := hl
  have hP : va_P (dC, dI) vwCl (xW a0 a1 a2 a3 a4 a5 a6 a7 a8 a9 cI k ut tb tn sc hs rn rv wb ee we) s.heap := hP
  refine lv_aload_n (pc := 0) hx hb dX3_isUnderWay_0 rfl (lv_at hl 0 rfl) ?_
  refine va_get (pc := 1) (D := (dC, dI)) (ci := 3) (v := .ref a1) (C := RX3) (T := TX3) (N := 8) hx hb hts (by decide +kernel) hown hK hP 0 rfl rfl 0 (by decide) (hts (.fieldLink RX3 12 "ScratchSwap" "memory" "LScratchSwap$Memory;") (by decide +kernel)) (fun _ h9 => h9) rfl dX3_isUnderWay_1 ?_
  refine lv_iconst (pc := 4) (v := nI 4) hx hb dX3_isUnderWay_4 (by decide) ?_
  refine lv_iconst (pc := 5) (v := nI 1) hx hb dX3_isUnderWay_5 (by decide) ?_
  refine x_roi (pc := 6) (va_runVN (As := [.int (nI 4), .int (nI 1)]) (rest := []) ⟨hx, hb, hml, hown, hts⟩ (kX0_markIn l dC dI tt cI cB _ a1 a2 a3 a4 k ut 4 1 (by omega)) (⟨va_cnB 2 hts gX3_isUnderWay_X0_markIn_n144 rfl rfl rfl (hE.m 7 (q := (RX3, 144, yX0_markIn, "ScratchSwap")) rfl) (hts (.initialized RX0) (by decide +kernel)) (by decide +kernel) ⟨Nat.le_of_ble_eq_true rfl, Nat.le_of_ble_eq_true rfl⟩, hts (.instanceMethod yX0_markIn) (by decide +kernel), hts (.selects RX0 yX0_markIn yX0_markIn) (by decide +kernel)⟩) (x_preV hS hE hK hP hD [1, 2, 3, 4] rfl (by decide) (x_ro hS hA) xR0 0 1 rfl rfl) rfl rfl hl.1 rfl (lv_room (Nat.le_of_ble_eq_true rfl)) dX3_isUnderWay_6 ⟨Nat.le_of_ble_eq_true rfl, Nat.le_of_ble_eq_true rfl⟩) hS hA hP (fun r_1 H locs hr_1 hP hS => ?_)
  subst hr_1
  have hs_2 := setN_le k.1 (4 * 256 + 1 * 8)
  refine lv_if_eq (pc := 9) (tgt := 25) hx hb dX3_isUnderWay_9 (by decide) (fun c1 => ?_) (fun c1 => ?_)
  · skip
    have c1 : (setN k.1 (4 * 256 + 1 * 8)) = 0 := (nI_eq (a := (setN k.1 (4 * 256 + 1 * 8))) (b := 0) (by omega) (by omega)).mp c1
    refine lv_iconst (pc := 25) (v := nI 0) hx hb dX3_isUnderWay_25 (by decide) ?_
    exact W.zret (v := nI 0) hx hb hr rfl (fun t ht hW => ⟨⟨nI 0, (), rfl, by rw [show uwB k.1 = false from by first | (simp [uwB, c1, c2]; done) | (simp [uwB, c1]; done)]; rfl, trivial⟩, hS.F ht⟩) hS.2.2 dX3_isUnderWay_26
  · skip
    have c1 : ¬ (setN k.1 (4 * 256 + 1 * 8)) = 0 := fun z => c1 ((nI_eq (a := (setN k.1 (4 * 256 + 1 * 8))) (b := 0) (by omega) (by omega)).mpr z)
    refine lv_aload_n (pc := 12) hx hb dX3_isUnderWay_12 rfl (lv_at hl 0 rfl) ?_
    refine lv_iconst (pc := 13) (v := nI 4) hx hb dX3_isUnderWay_13 (by decide) ?_
    refine lv_iconst (pc := 14) (v := nI 2) hx hb dX3_isUnderWay_14 (by decide) ?_
    refine x_roi (pc := 15) (va_runV (As := [.int (nI 4), .int (nI 2)]) (rest := []) ⟨hx, hb, hml, hown, hts⟩ (kX3_isMarked l dC dI tt cI cB _ a0 a1 a2 a3 a4 a5 a6 a7 a8 a9 k ut tb tn sc hs rn rv wb ee we 4 2 (by omega)) (cwV 2 hts gX3_isUnderWay_X3_isMarked rfl rfl rfl (by decide +kernel) ⟨Nat.le_of_ble_eq_true rfl, Nat.le_of_ble_eq_true rfl⟩) (x_preVa hS hE hK hP hD (x_ro hS hA) xR0 3 0 rfl rfl) rfl rfl hl.1 rfl (lv_room (Nat.le_of_ble_eq_true rfl)) dX3_isUnderWay_15 ⟨Nat.le_of_ble_eq_true rfl, Nat.le_of_ble_eq_true rfl⟩) hS hA hP (fun r_3 H locs hr_3 hP hS => ?_)
    subst hr_3
    refine lv_if_ne (pc := 18) (tgt := 25) hx hb dX3_isUnderWay_18 (by decide) (fun c2 => ?_) (fun c2 => ?_)
    · skip
      have c2 : mkB k.1 (4 * 256 + 2 * 8) = true := bI_1.mp c2
      refine lv_iconst (pc := 25) (v := nI 0) hx hb dX3_isUnderWay_25 (by decide) ?_
      exact W.zret (v := nI 0) hx hb hr rfl (fun t ht hW => ⟨⟨nI 0, (), rfl, by rw [show uwB k.1 = false from by first | (simp [uwB, c1, c2]; done) | (simp [uwB, c1]; done)]; rfl, trivial⟩, hS.F ht⟩) hS.2.2 dX3_isUnderWay_26
    · skip
      have c2 : mkB k.1 (4 * 256 + 2 * 8) = false := bI_0.mp c2
      refine lv_iconst (pc := 21) (v := nI 1) hx hb dX3_isUnderWay_21 (by decide) ?_
      refine lv_goto (pc := 22) (tgt := 26) hx hb dX3_isUnderWay_22 (by decide) ?_
      exact W.zret (v := nI 1) hx hb hr rfl (fun t ht hW => ⟨⟨nI 1, (), rfl, by rw [show uwB k.1 = true from by first | (simp [uwB, c1, c2]; done) | (simp [uwB, c1]; done)]; rfl, trivial⟩, hS.F ht⟩) hS.2.2 dX3_isUnderWay_26
set_option maxHeartbeats 4000000 in
set_option maxRecDepth 100000 in
theorem kX3_isTrialUnconfirmed (l : Launch) (dC : Nat → ClassId) (dI : Nat → Nat → Nat) (tt : Nat → Nat) (cI cB : ClassId) (sz : Nat) (a0 a1 a2 a3 a4 a5 a6 a7 a8 a9 : Nat) (k : K0) (ut : Nat → Int32) (tb : Nat → Int8) (tn : Nat) (sc hs : Nat → Int32) (rn : Bool) (rv wb ee we : Int32)  : MetR l yX3_isTrialUnconfirmed wsX3_isTrialUnconfirmed { frames := 3, cells := 0, slots := 0, locals := 68 } (dC, dI) [(cI, .int), (cB, .byte)] tt [] sz (xW a0 a1 a2 a3 a4 a5 a6 a7 a8 a9 cI k ut tb tn sc hs rn rv wb ee we) [.ref a0] (fun r => r = bI (tuB k.1)) := by
  refine Met.ofW (cc := cX3_isTrialUnconfirmed) (maxL := 1) (ret := (some .boolean)) (by decide) rfl ?_
  intro p e s m args below meth c s₁ B hml hv
  obtain ⟨rfl, hsz, hP, hK, hD0, hE⟩ := hv
  have hx := B.exec
  have hb := B.bytes
  have hr := B.returns
  have hts := atoms_spec (ws := wsX3_isTrialUnconfirmed) B.pre
  have hown : s.vm.findClass RX3 = some m.cls := findClass_of_methodNamed B.named
  have hlocks := B.notSynchronized
  subst hsz
  have hD := hD0
  generalize hAe : va_A [] s.heap.size = A at hE ⊢
  have hA : ∀ q : Nat, s.heap.size ≤ q → A q := fun q h => by rw [← hAe]; exact Or.inr h
  have hS : va_S A s.heap s.heap [] := va_S.rf
  have hl := lv_entry ([.ref a0]) (n := 1) (Nat.le_of_ble_eq_true rfl)
  rw [lg_entry_eq]
  generalize (lg_sl ([.ref a0]) ++ List.replicate (1 - (lg_sl ([.ref a0])).length) Slot.unset).toArray = ls at hl ⊢
  have hl : lv_has ls 1 [(0, .ref a0)] := hl
  have hP : va_P (dC, dI) vwCl (xW a0 a1 a2 a3 a4 a5 a6 a7 a8 a9 cI k ut tb tn sc hs rn rv wb ee we) s.heap := hP
  refine lv_aload_n (pc := 0) hx hb dX3_isTrialUnconfirmed_0 rfl (lv_at hl 0 rfl) ?_
  refine va_get (pc := 1) (D := (dC, dI)) (ci := 3) (v := .ref a1) (C := RX3) (T := TX3) (N := 8) hx hb hts (by decide +kernel) hown hK hP 0 rfl rfl 0 (by decide) (hts (.fieldLink RX3 12 "ScratchSwap" "memory" "LScratchSwap$Memory;") (by decide +kernel)) (fun _ h9 => h9) rfl dX3_isTrialUnconfirmed_1 ?_
  refine lv_iconst (pc := 4) (v := nI 4) hx hb dX3_isTrialUnconfirmed_4 (by decide) ?_
  refine x_roi (pc := 5) (va_runVN (As := [.int (nI 4)]) (rest := []) ⟨hx, hb, hml, hown, hts⟩ (kX0_hasMagic l dC dI tt cI cB _ a1 a2 a3 a4 k ut 4 (by omega)) (⟨va_cnB 1 hts gX3_isTrialUnconfirmed_X0_hasMagic_n102 rfl rfl rfl (hE.m 12 (q := (RX3, 102, yX0_hasMagic, "ScratchSwap")) rfl) (hts (.initialized RX0) (by decide +kernel)) (by decide +kernel) ⟨Nat.le_of_ble_eq_true rfl, Nat.le_of_ble_eq_true rfl⟩, hts (.instanceMethod yX0_hasMagic) (by decide +kernel), hts (.selects RX0 yX0_hasMagic yX0_hasMagic) (by decide +kernel)⟩) (x_preV hS hE hK hP hD [1, 2, 3, 4] rfl (by decide) (x_ro hS hA) xR0 0 1 rfl rfl) rfl rfl hl.1 rfl (lv_room (Nat.le_of_ble_eq_true rfl)) dX3_isTrialUnconfirmed_5 ⟨Nat.le_of_ble_eq_true rfl, Nat.le_of_ble_eq_true rfl⟩) hS hA hP (fun r_1 H locs hr_1 hP hS => ?_)
  subst hr_1
  refine lv_if_eq (pc := 8) (tgt := 46) hx hb dX3_isTrialUnconfirmed_8 (by decide) (fun c1 => ?_) (fun c1 => ?_)
  · skip
    have c1 : magB k.1 (4 * 256) = false := bI_0.mp c1
    refine lv_iconst (pc := 46) (v := nI 0) hx hb dX3_isTrialUnconfirmed_46 (by decide) ?_
    exact W.zret (v := nI 0) hx hb hr rfl (fun t ht hW => ⟨⟨nI 0, (), rfl, by rw [show tuB k.1 = false from by first | (simp [tuB, c1, c2, c3, c4]; done) | (simp [tuB, c1, c2, c3]; done) | (simp [tuB, c1, c2]; done) | (simp [tuB, c1]; done)]; rfl, trivial⟩, hS.F ht⟩) hS.2.2 dX3_isTrialUnconfirmed_47
  · skip
    have c1 : magB k.1 (4 * 256) = true := bI_1.mp c1
    refine lv_aload_n (pc := 11) hx hb dX3_isTrialUnconfirmed_11 rfl (lv_at hl 0 rfl) ?_
    refine va_get (pc := 12) (D := (dC, dI)) (ci := 3) (v := .ref a1) (C := RX3) (T := TX3) (N := 8) hx hb hts (by decide +kernel) hown hK hP 0 rfl rfl 0 (by decide) (hts (.fieldLink RX3 12 "ScratchSwap" "memory" "LScratchSwap$Memory;") (by decide +kernel)) (fun _ h9 => h9) rfl dX3_isTrialUnconfirmed_12 ?_
    refine lv_iconst (pc := 15) (v := nI 4) hx hb dX3_isTrialUnconfirmed_15 (by decide) ?_
    refine lv_iconst (pc := 16) (v := nI 1) hx hb dX3_isTrialUnconfirmed_16 (by decide) ?_
    refine x_roi (pc := 17) (va_runVN (As := [.int (nI 4), .int (nI 1)]) (rest := []) ⟨hx, hb, hml, hown, hts⟩ (kX0_markIn l dC dI tt cI cB _ a1 a2 a3 a4 k ut 4 1 (by omega)) (⟨va_cnB 2 hts gX3_isTrialUnconfirmed_X0_markIn_n144 rfl rfl rfl (hE.m 7 (q := (RX3, 144, yX0_markIn, "ScratchSwap")) rfl) (hts (.initialized RX0) (by decide +kernel)) (by decide +kernel) ⟨Nat.le_of_ble_eq_true rfl, Nat.le_of_ble_eq_true rfl⟩, hts (.instanceMethod yX0_markIn) (by decide +kernel), hts (.selects RX0 yX0_markIn yX0_markIn) (by decide +kernel)⟩) (x_preV hS hE hK hP hD [1, 2, 3, 4] rfl (by decide) (x_ro hS hA) xR0 0 1 rfl rfl) rfl rfl hl.1 rfl (lv_room (Nat.le_of_ble_eq_true rfl)) dX3_isTrialUnconfirmed_17 ⟨Nat.le_of_ble_eq_true rfl, Nat.le_of_ble_eq_true rfl⟩) hS hA hP (fun r_2 H locs hr_2 hP hS => ?_)
    subst hr_2
    have hs_3 := setN_le k.1 (4 * 256 + 1 * 8)
    refine lv_iconst (pc := 20) (v := nI 1) hx hb dX3_isTrialUnconfirmed_20 (by decide) ?_
    refine lv_icmp_ne (pc := 21) (tgt := 46) hx hb dX3_isTrialUnconfirmed_21 (by decide) (fun c2 => ?_) (fun c2 => ?_)
    · skip
      have c2 : ¬ (setN k.1 (4 * 256 + 1 * 8)) = 1 := fun z => c2 ((nI_eq (a := (setN k.1 (4 * 256 + 1 * 8))) (b := 1) (by omega) (by omega)).mpr z)
      refine lv_iconst (pc := 46) (v := nI 0) hx hb dX3_isTrialUnconfirmed_46 (by decide) ?_
      exact W.zret (v := nI 0) hx hb hr rfl (fun t ht hW => ⟨⟨nI 0, (), rfl, by rw [show tuB k.1 = false from by first | (simp [tuB, c1, c2, c3, c4]; done) | (simp [tuB, c1, c2, c3]; done) | (simp [tuB, c1, c2]; done) | (simp [tuB, c1]; done)]; rfl, trivial⟩, hS.F ht⟩) hS.2.2 dX3_isTrialUnconfirmed_47
    · skip
      have c2 : (setN k.1 (4 * 256 + 1 * 8)) = 1 := (nI_eq (a := (setN k.1 (4 * 256 + 1 * 8))) (b := 1) (by omega) (by omega)).mp c2
      refine lv_aload_n (pc := 24) hx hb dX3_isTrialUnconfirmed_24 rfl (lv_at hl 0 rfl) ?_
      refine lv_iconst (pc := 25) (v := nI 4) hx hb dX3_isTrialUnconfirmed_25 (by decide) ?_
      refine lv_iconst (pc := 26) (v := nI 2) hx hb dX3_isTrialUnconfirmed_26 (by decide) ?_
      refine x_roi (pc := 27) (va_runV (As := [.int (nI 4), .int (nI 2)]) (rest := []) ⟨hx, hb, hml, hown, hts⟩ (kX3_isMarked l dC dI tt cI cB _ a0 a1 a2 a3 a4 a5 a6 a7 a8 a9 k ut tb tn sc hs rn rv wb ee we 4 2 (by omega)) (cwV 2 hts gX3_isTrialUnconfirmed_X3_isMarked rfl rfl rfl (by decide +kernel) ⟨Nat.le_of_ble_eq_true rfl, Nat.le_of_ble_eq_true rfl⟩) (x_preVa hS hE hK hP hD (x_ro hS hA) xR0 3 0 rfl rfl) rfl rfl hl.1 rfl (lv_room (Nat.le_of_ble_eq_true rfl)) dX3_isTrialUnconfirmed_27 ⟨Nat.le_of_ble_eq_true rfl, Nat.le_of_ble_eq_true rfl⟩) hS hA hP (fun r_4 H locs hr_4 hP hS => ?_)
      subst hr_4
      refine lv_if_eq (pc := 30) (tgt := 46) hx hb dX3_isTrialUnconfirmed_30 (by decide) (fun c3 => ?_) (fun c3 => ?_)
      · skip
        have c3 : mkB k.1 (4 * 256 + 2 * 8) = false := bI_0.mp c3
        refine lv_iconst (pc := 46) (v := nI 0) hx hb dX3_isTrialUnconfirmed_46 (by decide) ?_
        exact W.zret (v := nI 0) hx hb hr rfl (fun t ht hW => ⟨⟨nI 0, (), rfl, by rw [show tuB k.1 = false from by first | (simp [tuB, c1, c2, c3, c4]; done) | (simp [tuB, c1, c2, c3]; done) | (simp [tuB, c1, c2]; done) | (simp [tuB, c1]; done)]; rfl, trivial⟩, hS.F ht⟩) hS.2.2 dX3_isTrialUnconfirmed_47
      · skip
        have c3 : mkB k.1 (4 * 256 + 2 * 8) = true := bI_1.mp c3
        refine lv_aload_n (pc := 33) hx hb dX3_isTrialUnconfirmed_33 rfl (lv_at hl 0 rfl) ?_
        refine lv_iconst (pc := 34) (v := nI 4) hx hb dX3_isTrialUnconfirmed_34 (by decide) ?_
        refine lv_iconst (pc := 35) (v := nI 3) hx hb dX3_isTrialUnconfirmed_35 (by decide) ?_
        refine x_roi (pc := 36) (va_runV (As := [.int (nI 4), .int (nI 3)]) (rest := []) ⟨hx, hb, hml, hown, hts⟩ (kX3_isMarked l dC dI tt cI cB _ a0 a1 a2 a3 a4 a5 a6 a7 a8 a9 k ut tb tn sc hs rn rv wb ee we 4 3 (by omega)) (cwV 2 hts gX3_isTrialUnconfirmed_X3_isMarked rfl rfl rfl (by decide +kernel) ⟨Nat.le_of_ble_eq_true rfl, Nat.le_of_ble_eq_true rfl⟩) (x_preVa hS hE hK hP hD (x_ro hS hA) xR0 3 0 rfl rfl) rfl rfl hl.1 rfl (lv_room (Nat.le_of_ble_eq_true rfl)) dX3_isTrialUnconfirmed_36 ⟨Nat.le_of_ble_eq_true rfl, Nat.le_of_ble_eq_true rfl⟩) hS hA hP (fun r_5 H locs hr_5 hP hS => ?_)
        subst hr_5
        refine lv_if_ne (pc := 39) (tgt := 46) hx hb dX3_isTrialUnconfirmed_39 (by decide) (fun c4 => ?_) (fun c4 => ?_)
        · skip
          have c4 : mkB k.1 (4 * 256 + 3 * 8) = true := bI_1.mp c4
          refine lv_iconst (pc := 46) (v := nI 0) hx hb dX3_isTrialUnconfirmed_46 (by decide) ?_
          exact W.zret (v := nI 0) hx hb hr rfl (fun t ht hW => ⟨⟨nI 0, (), rfl, by rw [show tuB k.1 = false from by first | (simp [tuB, c1, c2, c3, c4]; done) | (simp [tuB, c1, c2, c3]; done) | (simp [tuB, c1, c2]; done) | (simp [tuB, c1]; done)]; rfl, trivial⟩, hS.F ht⟩) hS.2.2 dX3_isTrialUnconfirmed_47
        · skip
          have c4 : mkB k.1 (4 * 256 + 3 * 8) = false := bI_0.mp c4
          refine lv_iconst (pc := 42) (v := nI 1) hx hb dX3_isTrialUnconfirmed_42 (by decide) ?_
          refine lv_goto (pc := 43) (tgt := 47) hx hb dX3_isTrialUnconfirmed_43 (by decide) ?_
          exact W.zret (v := nI 1) hx hb hr rfl (fun t ht hW => ⟨⟨nI 1, (), rfl, by rw [show tuB k.1 = true from by first | (simp [tuB, c1, c2, c3, c4]; done) | (simp [tuB, c1, c2, c3]; done) | (simp [tuB, c1, c2]; done) | (simp [tuB, c1]; done)]; rfl, trivial⟩, hS.F ht⟩) hS.2.2 dX3_isTrialUnconfirmed_47
set_option maxHeartbeats 4000000 in
set_option maxRecDepth 100000 in
theorem kX3_kindAskedFor (l : Launch) (dC : Nat → ClassId) (dI : Nat → Nat → Nat) (tt : Nat → Nat) (cI cB : ClassId) (sz : Nat) (a0 a1 a2 a3 a4 a5 a6 a7 a8 a9 : Nat) (k : K0) (ut : Nat → Int32) (tb : Nat → Int8) (tn : Nat) (sc hs : Nat → Int32) (rn : Bool) (rv wb ee we : Int32)  : MetR l yX3_kindAskedFor wsX3_kindAskedFor { frames := 3, cells := 0, slots := 0, locals := 68 } (dC, dI) [(cI, .int), (cB, .byte)] tt [] sz (xW a0 a1 a2 a3 a4 a5 a6 a7 a8 a9 cI k ut tb tn sc hs rn rv wb ee we) [.ref a0] (fun r => r = nI (askN k.1)) := by
  refine Met.ofW (cc := cX3_kindAskedFor) (maxL := 2) (ret := (some .int)) (by decide) rfl ?_
  intro p e s m args below meth c s₁ B hml hv
  obtain ⟨rfl, hsz, hP, hK, hD0, hE⟩ := hv
  have hx := B.exec
  have hb := B.bytes
  have hr := B.returns
  have hts := atoms_spec (ws := wsX3_kindAskedFor) B.pre
  have hown : s.vm.findClass RX3 = some m.cls := findClass_of_methodNamed B.named
  have hlocks := B.notSynchronized
  subst hsz
  have hD := hD0
  generalize hAe : va_A [] s.heap.size = A at hE ⊢
  have hA : ∀ q : Nat, s.heap.size ≤ q → A q := fun q h => by rw [← hAe]; exact Or.inr h
  have hS : va_S A s.heap s.heap [] := va_S.rf
  have hl := lv_entry ([.ref a0]) (n := 2) (Nat.le_of_ble_eq_true rfl)
  rw [lg_entry_eq]
  generalize (lg_sl ([.ref a0]) ++ List.replicate (2 - (lg_sl ([.ref a0])).length) Slot.unset).toArray = ls at hl ⊢
  have hl : lv_has ls 2 [(0, .ref a0)] := hl
  have hP : va_P (dC, dI) vwCl (xW a0 a1 a2 a3 a4 a5 a6 a7 a8 a9 cI k ut tb tn sc hs rn rv wb ee we) s.heap := hP
  refine lv_aload_n (pc := 0) hx hb dX3_kindAskedFor_0 rfl (lv_at hl 0 rfl) ?_
  refine va_get (pc := 1) (D := (dC, dI)) (ci := 3) (v := .ref a1) (C := RX3) (T := TX3) (N := 8) hx hb hts (by decide +kernel) hown hK hP 0 rfl rfl 0 (by decide) (hts (.fieldLink RX3 12 "ScratchSwap" "memory" "LScratchSwap$Memory;") (by decide +kernel)) (fun _ h9 => h9) rfl dX3_kindAskedFor_1 ?_
  refine lv_bipush (pc := 4) (v := nI 9) hx hb dX3_kindAskedFor_4 (by decide) ?_
  refine lv_iconst (pc := 6) (v := nI 1) hx hb dX3_kindAskedFor_6 (by decide) ?_
  refine x_roi (pc := 7) (va_runVN (As := [.int (nI 9), .int (nI 1)]) (rest := []) ⟨hx, hb, hml, hown, hts⟩ (kX0_markIn l dC dI tt cI cB _ a1 a2 a3 a4 k ut 9 1 (by omega)) (⟨va_cnB 2 hts gX3_kindAskedFor_X0_markIn_n144 rfl rfl rfl (hE.m 7 (q := (RX3, 144, yX0_markIn, "ScratchSwap")) rfl) (hts (.initialized RX0) (by decide +kernel)) (by decide +kernel) ⟨Nat.le_of_ble_eq_true rfl, Nat.le_of_ble_eq_true rfl⟩, hts (.instanceMethod yX0_markIn) (by decide +kernel), hts (.selects RX0 yX0_markIn yX0_markIn) (by decide +kernel)⟩) (x_preV hS hE hK hP hD [1, 2, 3, 4] rfl (by decide) (x_ro hS hA) xR0 0 1 rfl rfl) rfl rfl hl.1 rfl (lv_room (Nat.le_of_ble_eq_true rfl)) dX3_kindAskedFor_7 ⟨Nat.le_of_ble_eq_true rfl, Nat.le_of_ble_eq_true rfl⟩) hS hA hP (fun r_1 H locs hr_1 hP hS => ?_)
  subst hr_1
  have hs_2 := setN_le k.1 (9 * 256 + 1 * 8)
  refine lv_istore_n (pc := 10) (lv' := [(1, .int (nI (setN k.1 (9 * 256 + 1 * 8)))), (0, .ref a0)]) hx hb dX3_kindAskedFor_10 rfl hl (by decide) rfl (fun ls hl => ?_)
  refine lv_iload_n (pc := 11) hx hb dX3_kindAskedFor_11 rfl (lv_at hl 0 rfl) ?_
  refine lv_if_eq (pc := 12) (tgt := 17) hx hb dX3_kindAskedFor_12 (by decide) (fun c1 => ?_) (fun c1 => ?_)
  · skip
    have c1 : (setN k.1 (9 * 256 + 1 * 8)) = 0 := (nI_eq (a := (setN k.1 (9 * 256 + 1 * 8))) (b := 0) (by omega) (by omega)).mp c1
    refine lv_aload_n (pc := 17) hx hb dX3_kindAskedFor_17 rfl (lv_at hl 1 rfl) ?_
    refine va_get (pc := 18) (D := (dC, dI)) (ci := 3) (v := .ref a1) (C := RX3) (T := TX3) (N := 8) hx hb hts (by decide +kernel) hown hK hP 0 rfl rfl 0 (by decide) (hts (.fieldLink RX3 12 "ScratchSwap" "memory" "LScratchSwap$Memory;") (by decide +kernel)) (fun _ h9 => h9) rfl dX3_kindAskedFor_18 ?_
    refine lv_bipush (pc := 21) (v := nI 9) hx hb dX3_kindAskedFor_21 (by decide) ?_
    refine x_roi (pc := 23) (va_runVN (As := [.int (nI 9)]) (rest := []) ⟨hx, hb, hml, hown, hts⟩ (kX0_hasMagic l dC dI tt cI cB _ a1 a2 a3 a4 k ut 9 (by omega)) (⟨va_cnB 1 hts gX3_kindAskedFor_X0_hasMagic_n102 rfl rfl rfl (hE.m 12 (q := (RX3, 102, yX0_hasMagic, "ScratchSwap")) rfl) (hts (.initialized RX0) (by decide +kernel)) (by decide +kernel) ⟨Nat.le_of_ble_eq_true rfl, Nat.le_of_ble_eq_true rfl⟩, hts (.instanceMethod yX0_hasMagic) (by decide +kernel), hts (.selects RX0 yX0_hasMagic yX0_hasMagic) (by decide +kernel)⟩) (x_preV hS hE hK hP hD [1, 2, 3, 4] rfl (by decide) (x_ro hS hA) xR0 0 1 rfl rfl) rfl rfl hl.1 rfl (lv_room (Nat.le_of_ble_eq_true rfl)) dX3_kindAskedFor_23 ⟨Nat.le_of_ble_eq_true rfl, Nat.le_of_ble_eq_true rfl⟩) hS hA hP (fun r_3 H locs hr_3 hP hS => ?_)
    subst hr_3
    refine lv_if_ne (pc := 26) (tgt := 31) hx hb dX3_kindAskedFor_26 (by decide) (fun c2 => ?_) (fun c2 => ?_)
    · skip
      have c2 : magB k.1 (9 * 256) = true := bI_1.mp c2
      refine lv_aload_n (pc := 31) hx hb dX3_kindAskedFor_31 rfl (lv_at hl 1 rfl) ?_
      refine lv_bipush (pc := 32) (v := nI 9) hx hb dX3_kindAskedFor_32 (by decide) ?_
      refine lv_iconst (pc := 34) (v := nI 3) hx hb dX3_kindAskedFor_34 (by decide) ?_
      refine x_roi (pc := 35) (va_runV (As := [.int (nI 9), .int (nI 3)]) (rest := []) ⟨hx, hb, hml, hown, hts⟩ (kX3_isMarked l dC dI tt cI cB _ a0 a1 a2 a3 a4 a5 a6 a7 a8 a9 k ut tb tn sc hs rn rv wb ee we 9 3 (by omega)) (cwV 2 hts gX3_kindAskedFor_X3_isMarked rfl rfl rfl (by decide +kernel) ⟨Nat.le_of_ble_eq_true rfl, Nat.le_of_ble_eq_true rfl⟩) (x_preVa hS hE hK hP hD (x_ro hS hA) xR0 3 0 rfl rfl) rfl rfl hl.1 rfl (lv_room (Nat.le_of_ble_eq_true rfl)) dX3_kindAskedFor_35 ⟨Nat.le_of_ble_eq_true rfl, Nat.le_of_ble_eq_true rfl⟩) hS hA hP (fun r_4 H locs hr_4 hP hS => ?_)
      subst hr_4
      refine lv_if_eq (pc := 38) (tgt := 45) hx hb dX3_kindAskedFor_38 (by decide) (fun c3 => ?_) (fun c3 => ?_)
      · skip
        have c3 : mkB k.1 (9 * 256 + 3 * 8) = false := bI_0.mp c3
        refine lv_iconst (pc := 45) (v := nI 1) hx hb dX3_kindAskedFor_45 (by decide) ?_
        exact W.iret (v := nI 1) hx hb hr (fun t ht hW => ⟨⟨nI 1, (), rfl, by unfold askN; first | (rw [if_neg c1]; done) | (rw [if_pos c1, c2, if_neg (by decide)]; done) | (rw [if_pos c1, c2, if_pos rfl, c3]; rfl), trivial⟩, hS.F ht⟩) hS.2.2 dX3_kindAskedFor_46
      · skip
        have c3 : mkB k.1 (9 * 256 + 3 * 8) = true := bI_1.mp c3
        refine lv_iconst (pc := 41) (v := nI 2) hx hb dX3_kindAskedFor_41 (by decide) ?_
        refine lv_goto (pc := 42) (tgt := 46) hx hb dX3_kindAskedFor_42 (by decide) ?_
        exact W.iret (v := nI 2) hx hb hr (fun t ht hW => ⟨⟨nI 2, (), rfl, by unfold askN; first | (rw [if_neg c1]; done) | (rw [if_pos c1, c2, if_neg (by decide)]; done) | (rw [if_pos c1, c2, if_pos rfl, c3]; rfl), trivial⟩, hS.F ht⟩) hS.2.2 dX3_kindAskedFor_46
    · skip
      have c2 : magB k.1 (9 * 256) = false := bI_0.mp c2
      refine lv_iconst (pc := 29) (v := nI 0) hx hb dX3_kindAskedFor_29 (by decide) ?_
      exact W.iret (v := nI 0) hx hb hr (fun t ht hW => ⟨⟨nI 0, (), rfl, by unfold askN; first | (rw [if_neg c1]; done) | (rw [if_pos c1, c2, if_neg (by decide)]; done) | (rw [if_pos c1, c2, if_pos rfl, c3]; rfl), trivial⟩, hS.F ht⟩) hS.2.2 dX3_kindAskedFor_30
  · skip
    have c1 : ¬ (setN k.1 (9 * 256 + 1 * 8)) = 0 := fun z => c1 ((nI_eq (a := (setN k.1 (9 * 256 + 1 * 8))) (b := 0) (by omega) (by omega)).mpr z)
    refine lv_iload_n (pc := 15) hx hb dX3_kindAskedFor_15 rfl (lv_at hl 0 rfl) ?_
    exact W.iret (v := nI (setN k.1 (9 * 256 + 1 * 8))) hx hb hr (fun t ht hW => ⟨⟨nI (setN k.1 (9 * 256 + 1 * 8)), (), rfl, by unfold askN; first | (rw [if_neg c1]; done) | (rw [if_pos c1, c2, if_neg (by decide)]; done) | (rw [if_pos c1, c2, if_pos rfl, c3]; rfl), trivial⟩, hS.F ht⟩) hS.2.2 dX3_kindAskedFor_16
set_option maxHeartbeats 4000000 in
set_option maxRecDepth 100000 in
theorem kX3_stepsSet (l : Launch) (dC : Nat → ClassId) (dI : Nat → Nat → Nat) (tt : Nat → Nat) (cI cB : ClassId) (sz : Nat) (a0 a1 a2 a3 a4 a5 a6 a7 a8 a9 : Nat) (k : K0) (ut : Nat → Int32) (tb : Nat → Int8) (tn : Nat) (sc hs : Nat → Int32) (rn : Bool) (rv wb ee we : Int32) (i0 : Nat) (hi0 : i0 < 11) : MetR l yX3_stepsSet wsX3_stepsSet { frames := 3, cells := 0, slots := 0, locals := 68 } (dC, dI) [(cI, .int), (cB, .byte)] tt [] sz (xW a0 a1 a2 a3 a4 a5 a6 a7 a8 a9 cI k ut tb tn sc hs rn rv wb ee we) [.ref a0, .int (nI i0)] (fun r => r = nI (cntN k.1 (i0 * 256) 12)) := by
  refine Met.ofW (cc := cX3_stepsSet) (maxL := 4) (ret := (some .int)) (by decide) rfl ?_
  intro p e s m args below meth c s₁ B hml hv
  obtain ⟨rfl, hsz, hP, hK, hD0, hE⟩ := hv
  have hx := B.exec
  have hb := B.bytes
  have hr := B.returns
  have hts := atoms_spec (ws := wsX3_stepsSet) B.pre
  have hown : s.vm.findClass RX3 = some m.cls := findClass_of_methodNamed B.named
  have hlocks := B.notSynchronized
  subst hsz
  have hD := hD0
  generalize hAe : va_A [] s.heap.size = A at hE ⊢
  have hA : ∀ q : Nat, s.heap.size ≤ q → A q := fun q h => by rw [← hAe]; exact Or.inr h
  have hS : va_S A s.heap s.heap [] := va_S.rf
  have hl := lv_entry ([.ref a0, .int (nI i0)]) (n := 4) (Nat.le_of_ble_eq_true rfl)
  rw [lg_entry_eq]
  generalize (lg_sl ([.ref a0, .int (nI i0)]) ++ List.replicate (4 - (lg_sl ([.ref a0, .int (nI i0)])).length) Slot.unset).toArray = ls at hl ⊢
  have hl : lv_has ls 4 [(0, .ref a0), (1, .int (nI i0))] := hl
  have hP : va_P (dC, dI) vwCl (xW a0 a1 a2 a3 a4 a5 a6 a7 a8 a9 cI k ut tb tn sc hs rn rv wb ee we) s.heap := hP
  refine lv_iconst (pc := 0) (v := nI 0) hx hb dX3_stepsSet_0 (by decide) ?_
  refine lv_istore_n (pc := 1) (lv' := [(2, .int (nI 0)), (0, .ref a0), (1, .int (nI i0))]) hx hb dX3_stepsSet_1 rfl hl (by decide) rfl (fun ls hl => ?_)
  refine lv_iconst (pc := 2) (v := nI 0) hx hb dX3_stepsSet_2 (by decide) ?_
  refine lv_istore_n (pc := 3) (lv' := [(3, .int (nI 0)), (2, .int (nI 0)), (0, .ref a0), (1, .int (nI i0))]) hx hb dX3_stepsSet_3 rfl hl (by decide) rfl (fun ls hl => ?_)
  refine x_loop (σ := (Nat)) (Wd := fun i : (Nat) => xW a0 a1 a2 a3 a4 a5 a6 a7 a8 a9 cI k ut tb tn sc hs rn rv wb ee we) (Lv := fun i : (Nat) => [(3, .int (nI i)), (2, .int (nI (cntN k.1 (i0 * 256) i))), (0, .ref a0), (1, .int (nI i0))]) (I := fun i : (Nat) => (i ≤ 12)) (μ := fun i : (Nat) => 12 - i) ?_ (0) (by omega) hP hD hS (lv_sub hl [0, 1, 2, 3] rfl)
  intro i H locs ls hI hP hD hS hl ih4
  have hi : (i ≤ 12) := hI
  have hP : va_P (dC, dI) vwCl (xW a0 a1 a2 a3 a4 a5 a6 a7 a8 a9 cI k ut tb tn sc hs rn rv wb ee we) _ := hP
  have hD : va_D (fun _ => True) (xW a0 a1 a2 a3 a4 a5 a6 a7 a8 a9 cI k ut tb tn sc hs rn rv wb ee we) := hD
  have hl : lv_has ls 4 [(3, .int (nI i)), (2, .int (nI (cntN k.1 (i0 * 256) i))), (0, .ref a0), (1, .int (nI i0))] := hl
  have hcn := cntN_le k.1 (i0 * 256) i
  refine lv_iload_n (pc := 4) hx hb dX3_stepsSet_4 rfl (lv_at hl 0 rfl) ?_
  refine lv_bipush (pc := 5) (v := nI 12) hx hb dX3_stepsSet_5 (by decide) ?_
  refine lv_icmp_ge (pc := 7) (tgt := 30) hx hb dX3_stepsSet_7 (by decide) (fun c_1 => ?_) (fun c_1 => ?_)
  · skip
    have c_1 : 12 ≤ i := (nI_leI (a := 12) (b := i) (by omega) (by omega)).mp c_1
    refine lv_iload_n (pc := 30) hx hb dX3_stepsSet_30 rfl (lv_at hl 1 rfl) ?_
    have hi9 : i = 12 := by omega
    subst hi9
    exact W.iret (v := nI (cntN k.1 (i0 * 256) 12)) hx hb hr (fun t ht hW => ⟨⟨nI (cntN k.1 (i0 * 256) 12), (), rfl, rfl, trivial⟩, hS.F ht⟩) hS.2.2 dX3_stepsSet_31
  · skip
    have c_1 : ¬ 12 ≤ i := fun z => c_1 ((nI_leI (a := 12) (b := i) (by omega) (by omega)).mpr z)
    refine lv_aload_n (pc := 10) hx hb dX3_stepsSet_10 rfl (lv_at hl 2 rfl) ?_
    refine lv_iload_n (pc := 11) hx hb dX3_stepsSet_11 rfl (lv_at hl 3 rfl) ?_
    refine lv_iconst (pc := 12) (v := nI 4) hx hb dX3_stepsSet_12 (by decide) ?_
    refine lv_iload_n (pc := 13) hx hb dX3_stepsSet_13 rfl (lv_at hl 0 rfl) ?_
    refine lv_iadd (pc := 14) hx hb dX3_stepsSet_14 ?_
    refine lv_cv (nI_add 4 i) ?_
    refine x_roi (pc := 15) (va_runV (As := [.int (nI i0), .int (nI (4 + i))]) (rest := []) ⟨hx, hb, hml, hown, hts⟩ (kX3_isMarked l dC dI tt cI cB _ a0 a1 a2 a3 a4 a5 a6 a7 a8 a9 k ut tb tn sc hs rn rv wb ee we i0 (4 + i) (by omega)) (cwV 2 hts gX3_stepsSet_X3_isMarked rfl rfl rfl (by decide +kernel) ⟨Nat.le_of_ble_eq_true rfl, Nat.le_of_ble_eq_true rfl⟩) (x_preVa hS hE hK hP hD (x_ro hS hA) xR0 3 0 rfl rfl) rfl rfl hl.1 rfl (lv_room (Nat.le_of_ble_eq_true rfl)) dX3_stepsSet_15 ⟨Nat.le_of_ble_eq_true rfl, Nat.le_of_ble_eq_true rfl⟩) hS hA hP (fun r_2 H locs hr_2 hP hS => ?_)
    subst hr_2
    refine lv_if_eq (pc := 18) (tgt := 24) hx hb dX3_stepsSet_18 (by decide) (fun c2 => ?_) (fun c2 => ?_)
    · skip
      have c2 : mkB k.1 (i0 * 256 + (4 + i) * 8) = false := bI_0.mp c2
      refine lv_iinc (pc := 24) (v := nI (i + 1)) (lv' := [(3, .int (nI (i + 1))), (2, .int (nI (cntN k.1 (i0 * 256) i))), (0, .ref a0), (1, .int (nI i0))]) hx hb dX3_stepsSet_24 hl (k := 0) rfl (nI_inc i 1) (by decide) rfl (fun ls hl => ?_)
      refine lv_goto (pc := 27) (tgt := 4) hx hb dX3_stepsSet_27 (by decide) ?_
      have hl : lv_has ls 4 [(3, .int (nI (i + 1))), (2, .int (nI (cntN k.1 (i0 * 256) (i + 1)))), (0, .ref a0), (1, .int (nI i0))] := by rw [cntN_s, c2]; exact hl
      exact ih4 (i + 1) H locs ls (by omega) (by first | omega | (simp only []; omega)) hP hD hS (lv_sub hl [0, 1, 2, 3] rfl)
    · skip
      have c2 : mkB k.1 (i0 * 256 + (4 + i) * 8) = true := bI_1.mp c2
      refine lv_iinc (pc := 21) (v := nI ((cntN k.1 (i0 * 256) i) + 1)) (lv' := [(2, .int (nI ((cntN k.1 (i0 * 256) i) + 1))), (3, .int (nI i)), (0, .ref a0), (1, .int (nI i0))]) hx hb dX3_stepsSet_21 hl (k := 1) rfl (nI_inc (cntN k.1 (i0 * 256) i) 1) (by decide) rfl (fun ls hl => ?_)
      refine lv_iinc (pc := 24) (v := nI (i + 1)) (lv' := [(3, .int (nI (i + 1))), (2, .int (nI ((cntN k.1 (i0 * 256) i) + 1))), (0, .ref a0), (1, .int (nI i0))]) hx hb dX3_stepsSet_24 hl (k := 1) rfl (nI_inc i 1) (by decide) rfl (fun ls hl => ?_)
      refine lv_goto (pc := 27) (tgt := 4) hx hb dX3_stepsSet_27 (by decide) ?_
      have hl : lv_has ls 4 [(3, .int (nI (i + 1))), (2, .int (nI (cntN k.1 (i0 * 256) (i + 1)))), (0, .ref a0), (1, .int (nI i0))] := by rw [cntN_s, c2]; exact hl
      exact ih4 (i + 1) H locs ls (by omega) (by first | omega | (simp only []; omega)) hP hD hS (lv_sub hl [0, 1, 2, 3] rfl)
