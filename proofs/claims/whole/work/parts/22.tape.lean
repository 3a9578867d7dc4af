set_option maxHeartbeats 4000000 in
set_option maxRecDepth 100000 in
theorem kX2_add (l : Launch) (dC : Nat → ClassId) (dI : Nat → Nat → Nat) (tt : Nat → Nat) (cI cB : ClassId) (sz : Nat) (a5 a6 : Nat) (tb : Nat → Int8) (tn : Nat) (x : Int32) (htn : tn < 1024) : MetV (S := ((Nat → Int8) × Nat)) l yX2_add wsX2_add { frames := 0, cells := 0, slots := 0, locals := 0 } (dC, dI) [(cI, .int), (cB, .byte)] tt [] sz (tW a5 a6 cI tb tn) [.ref a5, .int x] (fun u : ((Nat → Int8) × Nat) => tW a5 a6 cI u.1 u.2) (fun u => u = (va_up tb tn (Int32.toInt8 x), tn + 1)) := by
  refine Met.ofW (cc := cX2_add) (maxL := 2) (ret := none) (by decide) rfl ?_
  intro p e s m args below meth c s₁ B hml hv
  obtain ⟨rfl, hsz, hP, hK, hD0, hE⟩ := hv
  have hx := B.exec
  have hb := B.bytes
  have hr := B.returns
  have hts := atoms_spec (ws := wsX2_add) B.pre
  have hown : s.vm.findClass RX2 = some m.cls := findClass_of_methodNamed B.named
  have hlocks := B.notSynchronized
  subst hsz
  have hD := hD0.self (sz := s.heap.size)
  generalize hAe : va_A (tW a5 a6 cI tb tn) s.heap.size = A at hD hE ⊢
  have hA : ∀ q : Nat, s.heap.size ≤ q → A q := fun q h => by rw [← hAe]; exact Or.inr h
  have hS : va_S A s.heap s.heap [] := va_S.rf
  have hl := lv_entry ([.ref a5, .int x]) (n := 2) (Nat.le_of_ble_eq_true rfl)
  rw [lg_entry_eq]
  generalize (lg_sl ([.ref a5, .int x]) ++ List.replicate (2 - (lg_sl ([.ref a5, .int x])).length) Slot.unset).toArray = ls at hl ⊢
  have hl : lv_has ls 2 [(0, .ref a5), (1, .int x)] := hl
  have hP : va_P (dC, dI) vwCl (tW a5 a6 cI tb tn) s.heap := hP
  refine lv_aload_n (pc := 0) hx hb dX2_add_0 rfl (lv_at hl 0 rfl) ?_
  refine va_get (pc := 1) (D := (dC, dI)) (ci := 2) (v := .int (nI tn)) (C := RX2) (T := TX2) (N := 2) hx hb hts (by decide +kernel) hown hK hP 0 rfl rfl 1 (by decide) (hts (.fieldLink RX2 15 "ScratchSwap$Tape" "count" "I") (by decide +kernel)) (fun _ h9 => h9) rfl dX2_add_1 ?_
  refine lv_if_lt (pc := 4) (tgt := 41) hx hb dX2_add_4 (by decide) (fun c1 => ?_) (fun c1 => ?_)
  · skip
    have c1 : tn < 0 := (nI_ltI (a := tn) (b := 0) (by omega) (by omega)).mp c1
    exfalso; omega
  · skip
    have c1 : ¬ tn < 0 := fun z => c1 ((nI_ltI (a := tn) (b := 0) (by omega) (by omega)).mpr z)
    refine lv_aload_n (pc := 7) hx hb dX2_add_7 rfl (lv_at hl 0 rfl) ?_
    refine va_get (pc := 8) (D := (dC, dI)) (ci := 2) (v := .int (nI tn)) (C := RX2) (T := TX2) (N := 2) hx hb hts (by decide +kernel) hown hK hP 0 rfl rfl 1 (by decide) (hts (.fieldLink RX2 15 "ScratchSwap$Tape" "count" "I") (by decide +kernel)) (fun _ h9 => h9) rfl dX2_add_8 ?_
    refine lv_sipush (pc := 11) (v := nI 1024) hx hb dX2_add_11 (by decide) ?_
    refine lv_icmp_ge (pc := 14) (tgt := 41) hx hb dX2_add_14 (by decide) (fun c2 => ?_) (fun c2 => ?_)
    · skip
      have c2 : 1024 ≤ tn := (nI_leI (a := 1024) (b := tn) (by omega) (by omega)).mp c2
      exfalso; omega
    · skip
      have c2 : ¬ 1024 ≤ tn := fun z => c2 ((nI_leI (a := 1024) (b := tn) (by omega) (by omega)).mpr z)
      refine lv_aload_n (pc := 17) hx hb dX2_add_17 rfl (lv_at hl 0 rfl) ?_
      refine va_get (pc := 18) (D := (dC, dI)) (ci := 2) (v := .ref a6) (C := RX2) (T := TX2) (N := 2) hx hb hts (by decide +kernel) hown hK hP 0 rfl rfl 0 (by decide) (hts (.fieldLink RX2 9 "ScratchSwap$Tape" "bytes" "[I") (by decide +kernel)) (fun _ h9 => h9) rfl dX2_add_18 ?_
      refine lv_aload_n (pc := 21) hx hb dX2_add_21 rfl (lv_at hl 0 rfl) ?_
      refine va_get (pc := 22) (D := (dC, dI)) (ci := 2) (v := .int (nI tn)) (C := RX2) (T := TX2) (N := 2) hx hb hts (by decide +kernel) hown hK hP 0 rfl rfl 1 (by decide) (hts (.fieldLink RX2 15 "ScratchSwap$Tape" "count" "I") (by decide +kernel)) (fun _ h9 => h9) rfl dX2_add_22 ?_
      refine lv_iload_n (pc := 25) hx hb dX2_add_25 rfl (lv_at hl 1 rfl) ?_
      refine lv_sipush (pc := 26) (v := nI 255) hx hb dX2_add_26 (by decide) ?_
      refine lv_iand (pc := 29) hx hb dX2_add_29 ?_
      refine lv_cv (ub_of x) ?_
      refine x_ust (pc := 30) (k := tn) (F := tb) (x := Int32.toInt8 x) hx hb hK hP hD hS 1 0 rfl rfl (by omega) (by decide) dX2_add_30 (fun H locs hP hD hS => ?_)
      have hP : va_P (dC, dI) vwCl (tW a5 a6 cI (va_up tb tn (Int32.toInt8 x)) tn) _ := hP
      have hD : va_D A (tW a5 a6 cI (va_up tb tn (Int32.toInt8 x)) tn) := hD
      refine lv_aload_n (pc := 31) hx hb dX2_add_31 rfl (lv_at hl 0 rfl) ?_
      refine lv_dup (pc := 32) hx hb dX2_add_32 rfl ?_
      refine va_get (pc := 33) (D := (dC, dI)) (ci := 2) (v := .int (nI tn)) (C := RX2) (T := TX2) (N := 2) hx hb hts (by decide +kernel) hown hK hP 0 rfl rfl 1 (by decide) (hts (.fieldLink RX2 15 "ScratchSwap$Tape" "count" "I") (by decide +kernel)) (fun _ h9 => h9) rfl dX2_add_33 ?_
      refine lv_iconst (pc := 36) (v := nI 1) hx hb dX2_add_36 (by decide) ?_
      refine lv_iadd (pc := 37) hx hb dX2_add_37 ?_
      refine lv_cv (nI_add tn 1) ?_
      refine va_put (pc := 38) (D := (dC, dI)) (ci := 2) (v := .int (nI (tn + 1))) (ty := .int) (C := RX2) (T := TX2) (N := 2) hx hb hts (by decide +kernel) tyX2 tyX2_ok nmX2 hown hK hP hD hS 0 rfl rfl 1 (by decide) (hts (.fieldLink RX2 15 "ScratchSwap$Tape" "count" "I") (by decide +kernel)) (fun _ h9 => h9) rfl (by decide +kernel) rfl rfl (Nat.le_of_ble_eq_true rfl) dX2_add_38 (fun H locs hP hD hS => ?_)
      have hP : va_P (dC, dI) vwCl (tW a5 a6 cI (va_up tb tn (Int32.toInt8 x)) (tn + 1)) _ := hP
      have hD : va_D A (tW a5 a6 cI (va_up tb tn (Int32.toInt8 x)) (tn + 1)) := hD
      exact W.vret hx hb hr (fun t ht hW => ⟨⟨(va_up tb tn (Int32.toInt8 x), tn + 1), rfl, rfl, by show va_P _ _ _ t.heap; rw [ht]; exact hP, va_K.moved hW.alike hK, hD⟩, hS.F ht⟩) hS.2.2 dX2_add_41
set_option maxHeartbeats 4000000 in
set_option maxRecDepth 100000 in
theorem kX2_addHighestFirst (l : Launch) (dC : Nat → ClassId) (dI : Nat → Nat → Nat) (tt : Nat → Nat) (cI cB : ClassId) (sz : Nat) (a5 a6 : Nat) (tb : Nat → Int8) (tn : Nat) (x : Int32) (htn : tn + 3 < 1024) : MetV (S := ((Nat → Int8) × Nat)) l yX2_addHighestFirst wsX2_addHighestFirst { frames := 1, cells := 0, slots := 0, locals := 21 } (dC, dI) [(cI, .int), (cB, .byte)] tt [] sz (tW a5 a6 cI tb tn) [.ref a5, .int x] (fun u : ((Nat → Int8) × Nat) => tW a5 a6 cI u.1 u.2) (fun u => u = (hiT tb tn x, tn + 4)) := by
  refine Met.ofW (cc := cX2_addHighestFirst) (maxL := 2) (ret := none) (by decide) rfl ?_
  intro p e s m args below meth c s₁ B hml hv
  obtain ⟨rfl, hsz, hP, hK, hD0, hE⟩ := hv
  have hx := B.exec
  have hb := B.bytes
  have hr := B.returns
  have hts := atoms_spec (ws := wsX2_addHighestFirst) B.pre
  have hown : s.vm.findClass RX2 = some m.cls := findClass_of_methodNamed B.named
  have hlocks := B.notSynchronized
  subst hsz
  have hD := hD0.self (sz := s.heap.size)
  generalize hAe : va_A (tW a5 a6 cI tb tn) s.heap.size = A at hD hE ⊢
  have hA : ∀ q : Nat, s.heap.size ≤ q → A q := fun q h => by rw [← hAe]; exact Or.inr h
  have hS : va_S A s.heap s.heap [] := va_S.rf
  have hl := lv_entry ([.ref a5, .int x]) (n := 2) (Nat.le_of_ble_eq_true rfl)
  rw [lg_entry_eq]
  generalize (lg_sl ([.ref a5, .int x]) ++ List.replicate (2 - (lg_sl ([.ref a5, .int x])).length) Slot.unset).toArray = ls at hl ⊢
  have hl : lv_has ls 2 [(0, .ref a5), (1, .int x)] := hl
  have hP : va_P (dC, dI) vwCl (tW a5 a6 cI tb tn) s.heap := hP
  refine lv_aload_n (pc := 0) hx hb dX2_addHighestFirst_0 rfl (lv_at hl 0 rfl) ?_
  refine lv_iload_n (pc := 1) hx hb dX2_addHighestFirst_1 rfl (lv_at hl 1 rfl) ?_
  refine lv_bipush (pc := 2) (v := nI 24) hx hb dX2_addHighestFirst_2 (by decide) ?_
  refine lv_ishr (pc := 4) hx hb dX2_addHighestFirst_4 ?_
  refine x_wrv (pc := 5) (va_runV (As := [.int (x >>> ((nI 24) &&& 31))]) (rest := []) ⟨hx, hb, hml, hown, hts⟩ (kX2_add l dC dI tt cI cB _ a5 a6 tb tn (x >>> ((nI 24) &&& 31)) (by omega)) (cwV 1 hts gX2_addHighestFirst_X2_add rfl rfl rfl (by decide +kernel) ⟨Nat.le_of_ble_eq_true rfl, Nat.le_of_ble_eq_true rfl⟩) (x_preV hS hE hK hP hD [0, 1] rfl (by decide) (va_free hD hS hA [0, 1] rfl) xR0 2 0 rfl rfl) rfl rfl hl.1 rfl (lv_room (Nat.le_of_ble_eq_true rfl)) dX2_addHighestFirst_5 ⟨Nat.le_of_ble_eq_true rfl, Nat.le_of_ble_eq_true rfl⟩) hS hA hP hD [0, 1] [] rfl rfl (by decide) (by decide) (fun u_1 H locs hu_1 hP hD hS => ?_)
  subst hu_1
  have hP := hP.sub (ws' := tW a5 a6 cI (va_up tb tn (Int32.toInt8 (x >>> ((nI 24) &&& 31)))) (tn + 1)) [0, 1] rfl
  have hD := hD.sub (ws' := tW a5 a6 cI (va_up tb tn (Int32.toInt8 (x >>> ((nI 24) &&& 31)))) (tn + 1)) [0, 1] (by decide) rfl
  refine lv_aload_n (pc := 8) hx hb dX2_addHighestFirst_8 rfl (lv_at hl 0 rfl) ?_
  refine lv_iload_n (pc := 9) hx hb dX2_addHighestFirst_9 rfl (lv_at hl 1 rfl) ?_
  refine lv_bipush (pc := 10) (v := nI 16) hx hb dX2_addHighestFirst_10 (by decide) ?_
  refine lv_ishr (pc := 12) hx hb dX2_addHighestFirst_12 ?_
  refine x_wrv (pc := 13) (va_runV (As := [.int (x >>> ((nI 16) &&& 31))]) (rest := []) ⟨hx, hb, hml, hown, hts⟩ (kX2_add l dC dI tt cI cB _ a5 a6 (va_up tb tn (Int32.toInt8 (x >>> ((nI 24) &&& 31)))) (tn + 1) (x >>> ((nI 16) &&& 31)) (by omega)) (cwV 1 hts gX2_addHighestFirst_X2_add rfl rfl rfl (by decide +kernel) ⟨Nat.le_of_ble_eq_true rfl, Nat.le_of_ble_eq_true rfl⟩) (x_preV hS hE hK hP hD [0, 1] rfl (by decide) (va_free hD hS hA [0, 1] rfl) xR0 2 0 rfl rfl) rfl rfl hl.1 rfl (lv_room (Nat.le_of_ble_eq_true rfl)) dX2_addHighestFirst_13 ⟨Nat.le_of_ble_eq_true rfl, Nat.le_of_ble_eq_true rfl⟩) hS hA hP hD [0, 1] [] rfl rfl (by decide) (by decide) (fun u_2 H locs hu_2 hP hD hS => ?_)
  subst hu_2
  have hP := hP.sub (ws' := tW a5 a6 cI (va_up (va_up tb tn (Int32.toInt8 (x >>> ((nI 24) &&& 31)))) (tn + 1) (Int32.toInt8 (x >>> ((nI 16) &&& 31)))) ((tn + 1) + 1)) [0, 1] rfl
  have hD := hD.sub (ws' := tW a5 a6 cI (va_up (va_up tb tn (Int32.toInt8 (x >>> ((nI 24) &&& 31)))) (tn + 1) (Int32.toInt8 (x >>> ((nI 16) &&& 31)))) ((tn + 1) + 1)) [0, 1] (by decide) rfl
  refine lv_aload_n (pc := 16) hx hb dX2_addHighestFirst_16 rfl (lv_at hl 0 rfl) ?_
  refine lv_iload_n (pc := 17) hx hb dX2_addHighestFirst_17 rfl (lv_at hl 1 rfl) ?_
  refine lv_bipush (pc := 18) (v := nI 8) hx hb dX2_addHighestFirst_18 (by decide) ?_
  refine lv_ishr (pc := 20) hx hb dX2_addHighestFirst_20 ?_
  refine x_wrv (pc := 21) (va_runV (As := [.int (x >>> ((nI 8) &&& 31))]) (rest := []) ⟨hx, hb, hml, hown, hts⟩ (kX2_add l dC dI tt cI cB _ a5 a6 (va_up (va_up tb tn (Int32.toInt8 (x >>> ((nI 24) &&& 31)))) (tn + 1) (Int32.toInt8 (x >>> ((nI 16) &&& 31)))) ((tn + 1) + 1) (x >>> ((nI 8) &&& 31)) (by omega)) (cwV 1 hts gX2_addHighestFirst_X2_add rfl rfl rfl (by decide +kernel) ⟨Nat.le_of_ble_eq_true rfl, Nat.le_of_ble_eq_true rfl⟩) (x_preV hS hE hK hP hD [0, 1] rfl (by decide) (va_free hD hS hA [0, 1] rfl) xR0 2 0 rfl rfl) rfl rfl hl.1 rfl (lv_room (Nat.le_of_ble_eq_true rfl)) dX2_addHighestFirst_21 ⟨Nat.le_of_ble_eq_true rfl, Nat.le_of_ble_eq_true rfl⟩) hS hA hP hD [0, 1] [] rfl rfl (by decide) (by decide) (fun u_3 H locs hu_3 hP hD hS => ?_)
  subst hu_3
  have hP := hP.sub (ws' := tW a5 a6 cI (va_up (va_up (va_up tb tn (Int32.toInt8 (x >>> ((nI 24) &&& 31)))) (tn + 1) (Int32.toInt8 (x >>> ((nI 16) &&& 31)))) ((tn + 1) + 1) (Int32.toInt8 (x >>> ((nI 8) &&& 31)))) (((tn + 1) + 1) + 1)) [0, 1] rfl
  have hD := hD.sub (ws' := tW a5 a6 cI (va_up (va_up (va_up tb tn (Int32.toInt8 (x >>> ((nI 24) &&& 31)))) (tn + 1) (Int32.toInt8 (x >>> ((nI 16) &&& 31)))) ((tn + 1) + 1) (Int32.toInt8 (x >>> ((nI 8) &&& 31)))) (((tn + 1) + 1) + 1)) [0, 1] (by decide) rfl
  refine lv_aload_n (pc := 24) hx hb dX2_addHighestFirst_24 rfl (lv_at hl 0 rfl) ?_
  refine lv_iload_n (pc := 25) hx hb dX2_addHighestFirst_25 rfl (lv_at hl 1 rfl) ?_
  refine x_wrv (pc := 26) (va_runV (As := [.int x]) (rest := []) ⟨hx, hb, hml, hown, hts⟩ (kX2_add l dC dI tt cI cB _ a5 a6 (va_up (va_up (va_up tb tn (Int32.toInt8 (x >>> ((nI 24) &&& 31)))) (tn + 1) (Int32.toInt8 (x >>> ((nI 16) &&& 31)))) ((tn + 1) + 1) (Int32.toInt8 (x >>> ((nI 8) &&& 31)))) (((tn + 1) + 1) + 1) x (by omega)) (cwV 1 hts gX2_addHighestFirst_X2_add rfl rfl rfl (by decide +kernel) ⟨Nat.le_of_ble_eq_true rfl, Nat.le_of_ble_eq_true rfl⟩) (x_preV hS hE hK hP hD [0, 1] rfl (by decide) (va_free hD hS hA [0, 1] rfl) xR0 2 0 rfl rfl) rfl rfl hl.1 rfl (lv_room (Nat.le_of_ble_eq_true rfl)) dX2_addHighestFirst_26 ⟨Nat.le_of_ble_eq_true rfl, Nat.le_of_ble_eq_true rfl⟩) hS hA hP hD [0, 1] [] rfl rfl (by decide) (by decide) (fun u_4 H locs hu_4 hP hD hS => ?_)
  subst hu_4
  have hP := hP.sub (ws' := tW a5 a6 cI (va_up (va_up (va_up (va_up tb tn (Int32.toInt8 (x >>> ((nI 24) &&& 31)))) (tn + 1) (Int32.toInt8 (x >>> ((nI 16) &&& 31)))) ((tn + 1) + 1) (Int32.toInt8 (x >>> ((nI 8) &&& 31)))) (((tn + 1) + 1) + 1) (Int32.toInt8 x)) ((((tn + 1) + 1) + 1) + 1)) [0, 1] rfl
  have hD := hD.sub (ws' := tW a5 a6 cI (va_up (va_up (va_up (va_up tb tn (Int32.toInt8 (x >>> ((nI 24) &&& 31)))) (tn + 1) (Int32.toInt8 (x >>> ((nI 16) &&& 31)))) ((tn + 1) + 1) (Int32.toInt8 (x >>> ((nI 8) &&& 31)))) (((tn + 1) + 1) + 1) (Int32.toInt8 x)) ((((tn + 1) + 1) + 1) + 1)) [0, 1] (by decide) rfl
  exact W.vret hx hb hr (fun t ht hW => ⟨⟨(va_up (va_up (va_up (va_up tb tn (Int32.toInt8 (x >>> ((nI 24) &&& 31)))) (tn + 1) (Int32.toInt8 (x >>> ((nI 16) &&& 31)))) ((tn + 1) + 1) (Int32.toInt8 (x >>> ((nI 8) &&& 31)))) (((tn + 1) + 1) + 1) (Int32.toInt8 x), (((tn + 1) + 1) + 1) + 1), rfl, rfl, by show va_P _ _ _ t.heap; rw [ht]; exact hP, va_K.moved hW.alike hK, hD⟩, hS.F ht⟩) hS.2.2 dX2_addHighestFirst_29
set_option maxHeartbeats 4000000 in
set_option maxRecDepth 100000 in
theorem kX2_addLowestFirst (l : Launch) (dC : Nat → ClassId) (dI : Nat → Nat → Nat) (tt : Nat → Nat) (cI cB : ClassId) (sz : Nat) (a5 a6 : Nat) (tb : Nat → Int8) (tn : Nat) (x : Int32) (htn : tn + 3 < 1024) : MetV (S := ((Nat → Int8) × Nat)) l yX2_addLowestFirst wsX2_addLowestFirst { frames := 1, cells := 0, slots := 0, locals := 21 } (dC, dI) [(cI, .int), (cB, .byte)] tt [] sz (tW a5 a6 cI tb tn) [.ref a5, .int x] (fun u : ((Nat → Int8) × Nat) => tW a5 a6 cI u.1 u.2) (fun u => u = (loT tb tn x, tn + 4)) := by
  refine Met.ofW (cc := cX2_addLowestFirst) (maxL := 2) (ret := none) (by decide) rfl ?_
  intro p e s m args below meth c s₁ B hml hv
  obtain ⟨rfl, hsz, hP, hK, hD0, hE⟩ := hv
  have hx := B.exec
  have hb := B.bytes
  have hr := B.returns
  have hts := atoms_spec (ws := wsX2_addLowestFirst) B.pre
  have hown : s.vm.findClass RX2 = some m.cls := findClass_of_methodNamed B.named
  have hlocks := B.notSynchronized
  subst hsz
  have hD := hD0.self (sz := s.heap.size)
  generalize hAe : va_A (tW a5 a6 cI tb tn) s.heap.size = A at hD hE ⊢
  have hA : ∀ q : Nat, s.heap.size ≤ q → A q := fun q h => by rw [← hAe]; exact Or.inr h
  have hS : va_S A s.heap s.heap [] := va_S.rf
  have hl := lv_entry ([.ref a5, .int x]) (n := 2) (Nat.le_of_ble_eq_true rfl)
  rw [lg_entry_eq]
  generalize (lg_sl ([.ref a5, .int x]) ++ List.replicate (2 - (lg_sl ([.ref a5, .int x])).length) Slot.unset).toArray = ls at hl ⊢
  have hl : lv_has ls 2 [(0, .ref a5), (1, .int x)] := hl
  have hP : va_P (dC, dI) vwCl (tW a5 a6 cI tb tn) s.heap := hP
  refine lv_aload_n (pc := 0) hx hb dX2_addLowestFirst_0 rfl (lv_at hl 0 rfl) ?_
  refine lv_iload_n (pc := 1) hx hb dX2_addLowestFirst_1 rfl (lv_at hl 1 rfl) ?_
  refine x_wrv (pc := 2) (va_runV (As := [.int x]) (rest := []) ⟨hx, hb, hml, hown, hts⟩ (kX2_add l dC dI tt cI cB _ a5 a6 tb tn x (by omega)) (cwV 1 hts gX2_addLowestFirst_X2_add rfl rfl rfl (by decide +kernel) ⟨Nat.le_of_ble_eq_true rfl, Nat.le_of_ble_eq_true rfl⟩) (x_preV hS hE hK hP hD [0, 1] rfl (by decide) (va_free hD hS hA [0, 1] rfl) xR0 2 0 rfl rfl) rfl rfl hl.1 rfl (lv_room (Nat.le_of_ble_eq_true rfl)) dX2_addLowestFirst_2 ⟨Nat.le_of_ble_eq_true rfl, Nat.le_of_ble_eq_true rfl⟩) hS hA hP hD [0, 1] [] rfl rfl (by decide) (by decide) (fun u_1 H locs hu_1 hP hD hS => ?_)
  subst hu_1
  have hP := hP.sub (ws' := tW a5 a6 cI (va_up tb tn (Int32.toInt8 x)) (tn + 1)) [0, 1] rfl
  have hD := hD.sub (ws' := tW a5 a6 cI (va_up tb tn (Int32.toInt8 x)) (tn + 1)) [0, 1] (by decide) rfl
  refine lv_aload_n (pc := 5) hx hb dX2_addLowestFirst_5 rfl (lv_at hl 0 rfl) ?_
  refine lv_iload_n (pc := 6) hx hb dX2_addLowestFirst_6 rfl (lv_at hl 1 rfl) ?_
  refine lv_bipush (pc := 7) (v := nI 8) hx hb dX2_addLowestFirst_7 (by decide) ?_
  refine lv_ishr (pc := 9) hx hb dX2_addLowestFirst_9 ?_
  refine x_wrv (pc := 10) (va_runV (As := [.int (x >>> ((nI 8) &&& 31))]) (rest := []) ⟨hx, hb, hml, hown, hts⟩ (kX2_add l dC dI tt cI cB _ a5 a6 (va_up tb tn (Int32.toInt8 x)) (tn + 1) (x >>> ((nI 8) &&& 31)) (by omega)) (cwV 1 hts gX2_addLowestFirst_X2_add rfl rfl rfl (by decide +kernel) ⟨Nat.le_of_ble_eq_true rfl, Nat.le_of_ble_eq_true rfl⟩) (x_preV hS hE hK hP hD [0, 1] rfl (by decide) (va_free hD hS hA [0, 1] rfl) xR0 2 0 rfl rfl) rfl rfl hl.1 rfl (lv_room (Nat.le_of_ble_eq_true rfl)) dX2_addLowestFirst_10 ⟨Nat.le_of_ble_eq_true rfl, Nat.le_of_ble_eq_true rfl⟩) hS hA hP hD [0, 1] [] rfl rfl (by decide) (by decide) (fun u_2 H locs hu_2 hP hD hS => ?_)
  subst hu_2
  have hP := hP.sub (ws' := tW a5 a6 cI (va_up (va_up tb tn (Int32.toInt8 x)) (tn + 1) (Int32.toInt8 (x >>> ((nI 8) &&& 31)))) ((tn + 1) + 1)) [0, 1] rfl
  have hD := hD.sub (ws' := tW a5 a6 cI (va_up (va_up tb tn (Int32.toInt8 x)) (tn + 1) (Int32.toInt8 (x >>> ((nI 8) &&& 31)))) ((tn + 1) + 1)) [0, 1] (by decide) rfl
  refine lv_aload_n (pc := 13) hx hb dX2_addLowestFirst_13 rfl (lv_at hl 0 rfl) ?_
  refine lv_iload_n (pc := 14) hx hb dX2_addLowestFirst_14 rfl (lv_at hl 1 rfl) ?_
  refine lv_bipush (pc := 15) (v := nI 16) hx hb dX2_addLowestFirst_15 (by decide) ?_
  refine lv_ishr (pc := 17) hx hb dX2_addLowestFirst_17 ?_
  refine x_wrv (pc := 18) (va_runV (As := [.int (x >>> ((nI 16) &&& 31))]) (rest := []) ⟨hx, hb, hml, hown, hts⟩ (kX2_add l dC dI tt cI cB _ a5 a6 (va_up (va_up tb tn (Int32.toInt8 x)) (tn + 1) (Int32.toInt8 (x >>> ((nI 8) &&& 31)))) ((tn + 1) + 1) (x >>> ((nI 16) &&& 31)) (by omega)) (cwV 1 hts gX2_addLowestFirst_X2_add rfl rfl rfl (by decide +kernel) ⟨Nat.le_of_ble_eq_true rfl, Nat.le_of_ble_eq_true rfl⟩) (x_preV hS hE hK hP hD [0, 1] rfl (by decide) (va_free hD hS hA [0, 1] rfl) xR0 2 0 rfl rfl) rfl rfl hl.1 rfl (lv_room (Nat.le_of_ble_eq_true rfl)) dX2_addLowestFirst_18 ⟨Nat.le_of_ble_eq_true rfl, Nat.le_of_ble_eq_true rfl⟩) hS hA hP hD [0, 1] [] rfl rfl (by decide) (by decide) (fun u_3 H locs hu_3 hP hD hS => ?_)
  subst hu_3
  have hP := hP.sub (ws' := tW a5 a6 cI (va_up (va_up (va_up tb tn (Int32.toInt8 x)) (tn + 1) (Int32.toInt8 (x >>> ((nI 8) &&& 31)))) ((tn + 1) + 1) (Int32.toInt8 (x >>> ((nI 16) &&& 31)))) (((tn + 1) + 1) + 1)) [0, 1] rfl
  have hD := hD.sub (ws' := tW a5 a6 cI (va_up (va_up (va_up tb tn (Int32.toInt8 x)) (tn + 1) (Int32.toInt8 (x >>> ((nI 8) &&& 31)))) ((tn + 1) + 1) (Int32.toInt8 (x >>> ((nI 16) &&& 31)))) (((tn + 1) + 1) + 1)) [0, 1] (by decide) rfl
  refine lv_aload_n (pc := 21) hx hb dX2_addLowestFirst_21 rfl (lv_at hl 0 rfl) ?_
  refine lv_iload_n (pc := 22) hx hb dX2_addLowestFirst_22 rfl (lv_at hl 1 rfl) ?_
  refine lv_bipush (pc := 23) (v := nI 24) hx hb dX2_addLowestFirst_23 (by decide) ?_
  refine lv_ishr (pc := 25) hx hb dX2_addLowestFirst_25 ?_
  refine x_wrv (pc := 26) (va_runV (As := [.int (x >>> ((nI 24) &&& 31))]) (rest := []) ⟨hx, hb, hml, hown, hts⟩ (kX2_add l dC dI tt cI cB _ a5 a6 (va_up (va_up (va_up tb tn (Int32.toInt8 x)) (tn + 1) (Int32.toInt8 (x >>> ((nI 8) &&& 31)))) ((tn + 1) + 1) (Int32.toInt8 (x >>> ((nI 16) &&& 31)))) (((tn + 1) + 1) + 1) (x >>> ((nI 24) &&& 31)) (by omega)) (cwV 1 hts gX2_addLowestFirst_X2_add rfl rfl rfl (by decide +kernel) ⟨Nat.le_of_ble_eq_true rfl, Nat.le_of_ble_eq_true rfl⟩) (x_preV hS hE hK hP hD [0, 1] rfl (by decide) (va_free hD hS hA [0, 1] rfl) xR0 2 0 rfl rfl) rfl rfl hl.1 rfl (lv_room (Nat.le_of_ble_eq_true rfl)) dX2_addLowestFirst_26 ⟨Nat.le_of_ble_eq_true rfl, Nat.le_of_ble_eq_true rfl⟩) hS hA hP hD [0, 1] [] rfl rfl (by decide) (by decide) (fun u_4 H locs hu_4 hP hD hS => ?_)
  subst hu_4
  have hP := hP.sub (ws' := tW a5 a6 cI (va_up (va_up (va_up (va_up tb tn (Int32.toInt8 x)) (tn + 1) (Int32.toInt8 (x >>> ((nI 8) &&& 31)))) ((tn + 1) + 1) (Int32.toInt8 (x >>> ((nI 16) &&& 31)))) (((tn + 1) + 1) + 1) (Int32.toInt8 (x >>> ((nI 24) &&& 31)))) ((((tn + 1) + 1) + 1) + 1)) [0, 1] rfl
  have hD := hD.sub (ws' := tW a5 a6 cI (va_up (va_up (va_up (va_up tb tn (Int32.toInt8 x)) (tn + 1) (Int32.toInt8 (x >>> ((nI 8) &&& 31)))) ((tn + 1) + 1) (Int32.toInt8 (x >>> ((nI 16) &&& 31)))) (((tn + 1) + 1) + 1) (Int32.toInt8 (x >>> ((nI 24) &&& 31)))) ((((tn + 1) + 1) + 1) + 1)) [0, 1] (by decide) rfl
  exact W.vret hx hb hr (fun t ht hW => ⟨⟨(va_up (va_up (va_up (va_up tb tn (Int32.toInt8 x)) (tn + 1) (Int32.toInt8 (x >>> ((nI 8) &&& 31)))) ((tn + 1) + 1) (Int32.toInt8 (x >>> ((nI 16) &&& 31)))) (((tn + 1) + 1) + 1) (Int32.toInt8 (x >>> ((nI 24) &&& 31))), (((tn + 1) + 1) + 1) + 1), rfl, rfl, by show va_P _ _ _ t.heap; rw [ht]; exact hP, va_K.moved hW.alike hK, hD⟩, hS.F ht⟩) hS.2.2 dX2_addLowestFirst_29
set_option maxHeartbeats 4000000 in
set_option maxRecDepth 100000 in
theorem kX2_becomeImage (l : Launch) (dC : Nat → ClassId) (dI : Nat → Nat → Nat) (tt : Nat → Nat) (cI cB : ClassId) (sz : Nat) (a5 a6 a7 a8 a9 : Nat) (tb : Nat → Int8) (len : Nat) (sc hs : Nat → Int32) (v : Int32) (hlen : len ≤ 984) : MetV (S := ((Nat → Int8) × Nat × (Nat → Int32) × (Nat → Int32))) l yX2_becomeImage wsX2_becomeImage { frames := 3, cells := 0, slots := 0, locals := 80 } (dC, dI) [(cI, .int), (cB, .byte)] tt [] sz (tsW a5 a6 a7 a8 a9 cI tb len sc hs) [.ref a5, .int v, .ref a7] (fun u : ((Nat → Int8) × Nat × (Nat → Int32) × (Nat → Int32)) => tsW a5 a6 a7 a8 a9 cI u.1 u.2.1 u.2.2.1 u.2.2.2) (fun u => u.1 = imgT tb len v ∧ u.2.1 = len + 40) := by
  refine Met.ofW (cc := cX2_becomeImage) (maxL := 5) (ret := none) (by decide) rfl ?_
  intro p e s m args below meth c s₁ B hml hv
  obtain ⟨rfl, hsz, hP, hK, hD0, hE⟩ := hv
  have hx := B.exec
  have hb := B.bytes
  have hr := B.returns
  have hts := atoms_spec (ws := wsX2_becomeImage) B.pre
  have hown : s.vm.findClass RX2 = some m.cls := findClass_of_methodNamed B.named
  have hlocks := B.notSynchronized
  subst hsz
  have hD := hD0.self (sz := s.heap.size)
  generalize hAe : va_A (tsW a5 a6 a7 a8 a9 cI tb len sc hs) s.heap.size = A at hD hE ⊢
  have hA : ∀ q : Nat, s.heap.size ≤ q → A q := fun q h => by rw [← hAe]; exact Or.inr h
  have hS : va_S A s.heap s.heap [] := va_S.rf
  have hl := lv_entry ([.ref a5, .int v, .ref a7]) (n := 5) (Nat.le_of_ble_eq_true rfl)
  rw [lg_entry_eq]
  generalize (lg_sl ([.ref a5, .int v, .ref a7]) ++ List.replicate (5 - (lg_sl ([.ref a5, .int v, .ref a7])).length) Slot.unset).toArray = ls at hl ⊢
  have hl : lv_has ls 5 [(0, .ref a5), (1, .int v), (2, .ref a7)] := hl
  have hP : va_P (dC, dI) vwCl (tsW a5 a6 a7 a8 a9 cI tb len sc hs) s.heap := hP
  refine lv_aload_n (pc := 0) hx hb dX2_becomeImage_0 rfl (lv_at hl 0 rfl) ?_
  refine va_get (pc := 1) (D := (dC, dI)) (ci := 2) (v := .int (nI len)) (C := RX2) (T := TX2) (N := 2) hx hb hts (by decide +kernel) hown hK hP 0 rfl rfl 1 (by decide) (hts (.fieldLink RX2 15 "ScratchSwap$Tape" "count" "I") (by decide +kernel)) (fun _ h9 => h9) rfl dX2_becomeImage_1 ?_
  refine lv_istore_n (pc := 4) (lv' := [(3, .int (nI len)), (0, .ref a5), (1, .int v), (2, .ref a7)]) hx hb dX2_becomeImage_4 rfl hl (by decide) rfl (fun ls hl => ?_)
  refine lv_iload_n (pc := 5) hx hb dX2_becomeImage_5 rfl (lv_at hl 0 rfl) ?_
  refine lv_if_lt (pc := 6) (tgt := 20) hx hb dX2_becomeImage_6 (by decide) (fun c1 => ?_) (fun c1 => ?_)
  · skip
    have c1 : len < 0 := (nI_ltI (a := len) (b := 0) (by omega) (by omega)).mp c1
    exfalso; omega
  · skip
    have c1 : ¬ len < 0 := fun z => c1 ((nI_ltI (a := len) (b := 0) (by omega) (by omega)).mpr z)
    refine lv_iload_n (pc := 9) hx hb dX2_becomeImage_9 rfl (lv_at hl 0 rfl) ?_
    refine lv_sipush (pc := 10) (v := nI 984) hx hb dX2_becomeImage_10 (by decide) ?_
    refine lv_icmp_gt (pc := 13) (tgt := 20) hx hb dX2_becomeImage_13 (by decide) (fun c2 => ?_) (fun c2 => ?_)
    · skip
      have c2 : 984 < len := (nI_ltI (a := 984) (b := len) (by omega) (by omega)).mp c2
      exfalso; omega
    · skip
      have c2 : ¬ 984 < len := fun z => c2 ((nI_ltI (a := 984) (b := len) (by omega) (by omega)).mpr z)
      refine lv_aload_n (pc := 16) hx hb dX2_becomeImage_16 rfl (lv_at hl 3 rfl) ?_
      refine lv_ifnonnull (pc := 17) (tgt := 21) hx hb dX2_becomeImage_17 (by decide) ?_
      refine lv_iload_n (pc := 21) hx hb dX2_becomeImage_21 rfl (lv_at hl 0 rfl) ?_
      refine lv_iconst (pc := 22) (v := nI 1) hx hb dX2_becomeImage_22 (by decide) ?_
      refine lv_isub (pc := 23) hx hb dX2_becomeImage_23 ?_
      refine lv_istore (pc := 24) (lv' := [(4, .int ((nI len) - (nI 1))), (3, .int (nI len)), (0, .ref a5), (1, .int v), (2, .ref a7)]) hx hb dX2_becomeImage_24 hl (by decide) rfl (fun ls hl => ?_)
      rw [← shT_0 tb len] at hP hD
      refine x_loop (σ := (Nat)) (Wd := fun d : (Nat) => tsW a5 a6 a7 a8 a9 cI (shT tb len d) len sc hs) (Lv := fun d : (Nat) => [(4, .int (nI d - nI 1)), (3, .int (nI len)), (0, .ref a5), (1, .int v), (2, .ref a7)]) (I := fun d : (Nat) => (d ≤ len)) (μ := fun d : (Nat) => d) ?_ (len) (Nat.le_refl _) hP hD hS (lv_sub hl [0, 1, 2, 3, 4] rfl)
      intro d H locs ls hI hP hD hS hl ih26
      have hd : (d ≤ len) := hI
      have hP : va_P (dC, dI) vwCl (tsW a5 a6 a7 a8 a9 cI (shT tb len d) len sc hs) _ := hP
      have hD : va_D A (tsW a5 a6 a7 a8 a9 cI (shT tb len d) len sc hs) := hD
      have hl : lv_has ls 5 [(4, .int (nI d - nI 1)), (3, .int (nI len)), (0, .ref a5), (1, .int v), (2, .ref a7)] := hl
      refine lv_iload (pc := 26) hx hb dX2_becomeImage_26 (lv_at hl 0 rfl) ?_
      refine lv_if_lt (pc := 28) (tgt := 54) hx hb dX2_becomeImage_28 (by decide) (fun c5 => ?_) (fun c5 => ?_)
      · skip
        have c5 : d = 0 := (nI_neg1 (by omega)).mp c5
        subst c5
        have hP : va_P (dC, dI) vwCl (tsW a5 a6 a7 a8 a9 cI (shT tb len 0) len sc hs) _ := hP
        have hD : va_D A (tsW a5 a6 a7 a8 a9 cI (shT tb len 0) len sc hs) := hD
        refine lv_aload_n (pc := 54) hx hb dX2_becomeImage_54 rfl (lv_at hl 2 rfl) ?_
        refine lv_iconst (pc := 55) (v := nI 0) hx hb dX2_becomeImage_55 (by decide) ?_
        refine va_put (pc := 56) (D := (dC, dI)) (ci := 2) (v := .int (nI 0)) (ty := .int) (C := RX2) (T := TX2) (N := 2) hx hb hts (by decide +kernel) tyX2 tyX2_ok nmX2 hown hK hP hD hS 0 rfl rfl 1 (by decide) (hts (.fieldLink RX2 15 "ScratchSwap$Tape" "count" "I") (by decide +kernel)) (fun _ h9 => h9) rfl (by decide +kernel) rfl rfl (Nat.le_of_ble_eq_true rfl) dX2_becomeImage_56 (fun H locs hP hD hS => ?_)
        have hP : va_P (dC, dI) vwCl (tsW a5 a6 a7 a8 a9 cI (shT tb len 0) 0 sc hs) _ := hP
        have hD : va_D A (tsW a5 a6 a7 a8 a9 cI (shT tb len 0) 0 sc hs) := hD
        refine lv_aload_n (pc := 59) hx hb dX2_becomeImage_59 rfl (lv_at hl 2 rfl) ?_
        refine lv_iload_n (pc := 60) hx hb dX2_becomeImage_60 rfl (lv_at hl 1 rfl) ?_
        refine x_wrv (pc := 61) (va_runV (As := [.int (nI len)]) (rest := []) ⟨hx, hb, hml, hown, hts⟩ (kX2_addLowestFirst l dC dI tt cI cB _ a5 a6 (shT tb len 0) 0 (nI len) (by omega)) (cwV 1 hts gX2_becomeImage_X2_addLowestFirst rfl rfl rfl (by decide +kernel) ⟨Nat.le_of_ble_eq_true rfl, Nat.le_of_ble_eq_true rfl⟩) (x_preV hS hE hK hP hD [0, 1] rfl (by decide) (va_free hD hS hA [0, 1] rfl) xR0 2 0 rfl rfl) rfl rfl hl.1 rfl (lv_room (Nat.le_of_ble_eq_true rfl)) dX2_becomeImage_61 ⟨Nat.le_of_ble_eq_true rfl, Nat.le_of_ble_eq_true rfl⟩) hS hA hP hD [0, 1] [2, 3, 4] rfl rfl (by decide) (by decide) (fun u_1 H locs hu_1 hP hD hS => ?_)
        subst hu_1
        have hP := hP.sub (ws' := tsW a5 a6 a7 a8 a9 cI (loT (shT tb len 0) 0 (nI len)) (0 + 4) sc hs) [3, 4, 0, 1, 2] rfl
        have hD := hD.sub (ws' := tsW a5 a6 a7 a8 a9 cI (loT (shT tb len 0) 0 (nI len)) (0 + 4) sc hs) [3, 4, 0, 1, 2] (by decide) rfl
        refine lv_aload_n (pc := 64) hx hb dX2_becomeImage_64 rfl (lv_at hl 2 rfl) ?_
        refine lv_iload_n (pc := 65) hx hb dX2_becomeImage_65 rfl (lv_at hl 3 rfl) ?_
        refine x_wrv (pc := 66) (va_runV (As := [.int v]) (rest := []) ⟨hx, hb, hml, hown, hts⟩ (kX2_addLowestFirst l dC dI tt cI cB _ a5 a6 (loT (shT tb len 0) 0 (nI len)) (0 + 4) v (by omega)) (cwV 1 hts gX2_becomeImage_X2_addLowestFirst rfl rfl rfl (by decide +kernel) ⟨Nat.le_of_ble_eq_true rfl, Nat.le_of_ble_eq_true rfl⟩) (x_preV hS hE hK hP hD [0, 1] rfl (by decide) (va_free hD hS hA [0, 1] rfl) xR0 2 0 rfl rfl) rfl rfl hl.1 rfl (lv_room (Nat.le_of_ble_eq_true rfl)) dX2_becomeImage_66 ⟨Nat.le_of_ble_eq_true rfl, Nat.le_of_ble_eq_true rfl⟩) hS hA hP hD [0, 1] [2, 3, 4] rfl rfl (by decide) (by decide) (fun u_2 H locs hu_2 hP hD hS => ?_)
        subst hu_2
        have hP := hP.sub (ws' := tsW a5 a6 a7 a8 a9 cI (loT (loT (shT tb len 0) 0 (nI len)) (0 + 4) v) ((0 + 4) + 4) sc hs) [3, 4, 0, 1, 2] rfl
        have hD := hD.sub (ws' := tsW a5 a6 a7 a8 a9 cI (loT (loT (shT tb len 0) 0 (nI len)) (0 + 4) v) ((0 + 4) + 4) sc hs) [3, 4, 0, 1, 2] (by decide) rfl
        refine lv_aload_n (pc := 69) hx hb dX2_becomeImage_69 rfl (lv_at hl 2 rfl) ?_
        refine lv_bipush (pc := 70) (v := nI 8) hx hb dX2_becomeImage_70 (by decide) ?_
        refine lv_iload_n (pc := 72) hx hb dX2_becomeImage_72 rfl (lv_at hl 1 rfl) ?_
        refine lv_iadd (pc := 73) hx hb dX2_becomeImage_73 ?_
        refine lv_cv (nI_add 8 len) ?_
        refine va_put (pc := 74) (D := (dC, dI)) (ci := 2) (v := .int (nI (8 + len))) (ty := .int) (C := RX2) (T := TX2) (N := 2) hx hb hts (by decide +kernel) tyX2 tyX2_ok nmX2 hown hK hP hD hS 0 rfl rfl 1 (by decide) (hts (.fieldLink RX2 15 "ScratchSwap$Tape" "count" "I") (by decide +kernel)) (fun _ h9 => h9) rfl (by decide +kernel) rfl rfl (Nat.le_of_ble_eq_true rfl) dX2_becomeImage_74 (fun H locs hP hD hS => ?_)
        have hP : va_P (dC, dI) vwCl (tsW a5 a6 a7 a8 a9 cI (loT (loT (shT tb len 0) 0 (nI len)) (0 + 4) v) (8 + len) sc hs) _ := hP
        have hD : va_D A (tsW a5 a6 a7 a8 a9 cI (loT (loT (shT tb len 0) 0 (nI len)) (0 + 4) v) (8 + len) sc hs) := hD
        refine lv_aload_n (pc := 77) hx hb dX2_becomeImage_77 rfl (lv_at hl 4 rfl) ?_
        refine lv_aload_n (pc := 78) hx hb dX2_becomeImage_78 rfl (lv_at hl 2 rfl) ?_
        refine va_get (pc := 79) (D := (dC, dI)) (ci := 2) (v := .ref a6) (C := RX2) (T := TX2) (N := 2) hx hb hts (by decide +kernel) hown hK hP 0 rfl rfl 0 (by decide) (hts (.fieldLink RX2 9 "ScratchSwap$Tape" "bytes" "[I") (by decide +kernel)) (fun _ h9 => h9) rfl dX2_becomeImage_79 ?_
        refine lv_iconst (pc := 82) (v := nI 0) hx hb dX2_becomeImage_82 (by decide) ?_
        refine lv_aload_n (pc := 83) hx hb dX2_becomeImage_83 rfl (lv_at hl 2 rfl) ?_
        refine va_get (pc := 84) (D := (dC, dI)) (ci := 2) (v := .int (nI (8 + len))) (C := RX2) (T := TX2) (N := 2) hx hb hts (by decide +kernel) hown hK hP 0 rfl rfl 1 (by decide) (hts (.fieldLink RX2 15 "ScratchSwap$Tape" "count" "I") (by decide +kernel)) (fun _ h9 => h9) rfl dX2_becomeImage_84 ?_
        refine x_wrv (pc := 87) (va_runVN (As := [.ref a6, .int (nI 0), .int (nI (8 + len))]) (rest := []) ⟨hx, hb, hml, hown, hts⟩ (kX1_digest l dC dI tt cI cB _ a7 a8 a9 sc hs a6 1024 (loT (loT (shT tb len 0) 0 (nI len)) (0 + 4) v) 0 (8 + len) (by omega) (by omega) (by omega)) (⟨va_cnB 3 hts gX2_becomeImage_X1_digest_n26 rfl rfl rfl (hE.m 5 rfl) (hts (.initialized RX1) (by decide +kernel)) (by decide +kernel) ⟨Nat.le_of_ble_eq_true rfl, Nat.le_of_ble_eq_true rfl⟩, hts (.instanceMethod yX1_digest) (by decide +kernel), hts (.selects RX1 yX1_digest yX1_digest) (by decide +kernel)⟩) (x_preV hS hE hK hP hD [2, 3, 4] rfl (by decide) (va_free hD hS hA [2, 3, 4] rfl) (xRc hK hP hD 1 0 rfl rfl [2, 3, 4] rfl (by decide)) 1 2 rfl rfl) rfl rfl hl.1 rfl (lv_room (Nat.le_of_ble_eq_true rfl)) dX2_becomeImage_87 ⟨Nat.le_of_ble_eq_true rfl, Nat.le_of_ble_eq_true rfl⟩) hS hA hP hD [2, 3, 4] [0, 1] rfl rfl (by decide) (by decide) (fun u_3 H locs hu_3 hP hD hS => ?_)
        obtain ⟨sc_4, hs_5⟩ := u_3
        have hdhs_5 : of8 hs_5 = sha8 (loT (loT (shT tb len 0) 0 (nI len)) (0 + 4) v) 0 (8 + len) := hu_3
        have hP := hP.sub (ws' := tsW a5 a6 a7 a8 a9 cI (loT (loT (shT tb len 0) 0 (nI len)) (0 + 4) v) (8 + len) sc_4 hs_5) [0, 1, 2, 3, 4] rfl
        have hD := hD.sub (ws' := tsW a5 a6 a7 a8 a9 cI (loT (loT (shT tb len 0) 0 (nI len)) (0 + 4) v) (8 + len) sc_4 hs_5) [0, 1, 2, 3, 4] (by decide) rfl
        refine lv_iconst (pc := 90) (v := nI 0) hx hb dX2_becomeImage_90 (by decide) ?_
        refine lv_istore (pc := 91) (lv' := [(4, .int (nI 0)), (3, .int (nI len)), (0, .ref a5), (1, .int v), (2, .ref a7)]) hx hb dX2_becomeImage_91 hl (by decide) rfl (fun ls hl => ?_)
        rw [← dgT_0 (loT (loT (shT tb len 0) 0 (nI len)) 4 v) (8 + len) (digT (of8 hs_5))] at hP hD
        have hP : va_P (dC, dI) vwCl (tsW a5 a6 a7 a8 a9 cI (dgT (headT tb len v) (8 + len) (digT (of8 hs_5)) 0) (8 + len) sc_4 hs_5) _ := hP
        have hD : va_D A (tsW a5 a6 a7 a8 a9 cI (dgT (headT tb len v) (8 + len) (digT (of8 hs_5)) 0) (8 + len) sc_4 hs_5) := hD
        refine x_loop (σ := (Nat)) (Wd := fun i : (Nat) => tsW a5 a6 a7 a8 a9 cI (dgT (headT tb len v) (8 + len) (digT (of8 hs_5)) i) (8 + len + i) sc_4 hs_5) (Lv := fun i : (Nat) => [(4, .int (nI i)), (3, .int (nI len)), (0, .ref a5), (1, .int v), (2, .ref a7)]) (I := fun i : (Nat) => (i ≤ 32)) (μ := fun i : (Nat) => 32 - i) ?_ (0) (Nat.zero_le _) hP hD hS (lv_sub hl [0, 1, 2, 3, 4] rfl)
        intro i H locs ls hI hP hD hS hl ih93
        have hi : (i ≤ 32) := hI
        have hP : va_P (dC, dI) vwCl (tsW a5 a6 a7 a8 a9 cI (dgT (headT tb len v) (8 + len) (digT (of8 hs_5)) i) (8 + len + i) sc_4 hs_5) _ := hP
        have hD : va_D A (tsW a5 a6 a7 a8 a9 cI (dgT (headT tb len v) (8 + len) (digT (of8 hs_5)) i) (8 + len + i) sc_4 hs_5) := hD
        have hl : lv_has ls 5 [(4, .int (nI i)), (3, .int (nI len)), (0, .ref a5), (1, .int v), (2, .ref a7)] := hl
        refine lv_iload (pc := 93) hx hb dX2_becomeImage_93 (lv_at hl 0 rfl) ?_
        refine lv_bipush (pc := 95) (v := nI 32) hx hb dX2_becomeImage_95 (by decide) ?_
        refine lv_icmp_ge (pc := 97) (tgt := 116) hx hb dX2_becomeImage_97 (by decide) (fun c_6 => ?_) (fun c_6 => ?_)
        · skip
          have c_6 : 32 ≤ i := (nI_leI (a := 32) (b := i) (by omega) (by omega)).mp c_6
          have hi9 : i = 32 := by omega
          subst hi9
          exact W.vret hx hb hr (fun t ht hW => ⟨⟨(dgT (headT tb len v) (8 + len) (digT (of8 hs_5)) 32, 8 + len + 32, sc_4, hs_5), rfl, ⟨by have hd9 : of8 hs_5 = sha8 (headT tb len v) 0 (8 + len) := hdhs_5; show dgT (headT tb len v) (8 + len) (digT (of8 hs_5)) 32 = _; rw [imgT, ← hd9], by show 8 + len + 32 = len + 40; omega⟩, by show va_P _ _ _ t.heap; rw [ht]; exact hP, va_K.moved hW.alike hK, hD⟩, hS.F ht⟩) hS.2.2 dX2_becomeImage_116
        · skip
          have c_6 : ¬ 32 ≤ i := fun z => c_6 ((nI_leI (a := 32) (b := i) (by omega) (by omega)).mpr z)
          refine lv_aload_n (pc := 100) hx hb dX2_becomeImage_100 rfl (lv_at hl 2 rfl) ?_
          refine lv_aload_n (pc := 101) hx hb dX2_becomeImage_101 rfl (lv_at hl 4 rfl) ?_
          refine lv_iload (pc := 102) hx hb dX2_becomeImage_102 (lv_at hl 0 rfl) ?_
          refine x_roi (pc := 104) (va_runVN (As := [.int (nI i)]) (rest := [.ref a5]) ⟨hx, hb, hml, hown, hts⟩ (kX1_digestByte l dC dI tt cI cB _ a7 a8 a9 sc_4 hs_5 i (by omega)) (⟨va_cnB 1 hts gX2_becomeImage_X1_digestByte_n32 rfl rfl rfl (hE.m 6 rfl) (hts (.initialized RX1) (by decide +kernel)) (by decide +kernel) ⟨Nat.le_of_ble_eq_true rfl, Nat.le_of_ble_eq_true rfl⟩, hts (.instanceMethod yX1_digestByte) (by decide +kernel), hts (.selects RX1 yX1_digestByte yX1_digestByte) (by decide +kernel)⟩) (x_preV hS hE hK hP hD [2, 3, 4] rfl (by decide) (x_ro hS hA) xR0 1 2 rfl rfl) rfl rfl hl.1 rfl (lv_room (Nat.le_of_ble_eq_true rfl)) dX2_becomeImage_104 ⟨Nat.le_of_ble_eq_true rfl, Nat.le_of_ble_eq_true rfl⟩) hS hA hP (fun r_7 H locs hr_7 hP hS => ?_)
          subst hr_7
          refine x_wrv (pc := 107) (va_runV (As := [.int (ub (digT (of8 hs_5) i))]) (rest := []) ⟨hx, hb, hml, hown, hts⟩ (kX2_add l dC dI tt cI cB _ a5 a6 (dgT (headT tb len v) (8 + len) (digT (of8 hs_5)) i) (8 + len + i) (ub (digT (of8 hs_5) i)) (by omega)) (cwV 1 hts gX2_becomeImage_X2_add rfl rfl rfl (by decide +kernel) ⟨Nat.le_of_ble_eq_true rfl, Nat.le_of_ble_eq_true rfl⟩) (x_preV hS hE hK hP hD [0, 1] rfl (by decide) (va_free hD hS hA [0, 1] rfl) xR0 2 0 rfl rfl) rfl rfl hl.1 rfl (lv_room (Nat.le_of_ble_eq_true rfl)) dX2_becomeImage_107 ⟨Nat.le_of_ble_eq_true rfl, Nat.le_of_ble_eq_true rfl⟩) hS hA hP hD [0, 1] [2, 3, 4] rfl rfl (by decide) (by decide) (fun u_8 H locs hu_8 hP hD hS => ?_)
          subst hu_8
          rw [ub_8] at hP hD
          have hP := hP.sub (ws' := tsW a5 a6 a7 a8 a9 cI (va_up (dgT (headT tb len v) (8 + len) (digT (of8 hs_5)) i) (8 + len + i) (digT (of8 hs_5) i)) ((8 + len + i) + 1) sc_4 hs_5) [3, 4, 0, 1, 2] rfl
          have hD := hD.sub (ws' := tsW a5 a6 a7 a8 a9 cI (va_up (dgT (headT tb len v) (8 + len) (digT (of8 hs_5)) i) (8 + len + i) (digT (of8 hs_5) i)) ((8 + len + i) + 1) sc_4 hs_5) [3, 4, 0, 1, 2] (by decide) rfl
          refine lv_iinc (pc := 110) (v := nI (i + 1)) (lv' := [(4, .int (nI (i + 1))), (3, .int (nI len)), (0, .ref a5), (1, .int v), (2, .ref a7)]) hx hb dX2_becomeImage_110 hl (k := 0) rfl (nI_inc i 1) (by decide) rfl (fun ls hl => ?_)
          refine lv_goto (pc := 113) (tgt := 93) hx hb dX2_becomeImage_113 (by decide) ?_
          rw [dgT_step] at hP hD
          exact ih93 (i + 1) H locs ls (by omega) (by first | omega | (simp only []; omega)) hP hD hS (lv_sub hl [0, 1, 2, 3, 4] rfl)
      · skip
        have c5 : ¬ d = 0 := fun z => c5 ((nI_neg1 (by omega)).mpr z)
        obtain ⟨d, rfl⟩ : ∃ z, d = z + 1 := ⟨d - 1, by omega⟩
        have hl : lv_has ls 5 [(4, .int (nI d)), (3, .int (nI len)), (0, .ref a5), (1, .int v), (2, .ref a7)] := by rw [← nI_sub1 d]; exact hl
        have hP : va_P (dC, dI) vwCl (tsW a5 a6 a7 a8 a9 cI (shT tb len (d + 1)) len sc hs) _ := hP
        have hD : va_D A (tsW a5 a6 a7 a8 a9 cI (shT tb len (d + 1)) len sc hs) := hD
        refine lv_aload_n (pc := 31) hx hb dX2_becomeImage_31 rfl (lv_at hl 2 rfl) ?_
        refine va_get (pc := 32) (D := (dC, dI)) (ci := 2) (v := .ref a6) (C := RX2) (T := TX2) (N := 2) hx hb hts (by decide +kernel) hown hK hP 0 rfl rfl 0 (by decide) (hts (.fieldLink RX2 9 "ScratchSwap$Tape" "bytes" "[I") (by decide +kernel)) (fun _ h9 => h9) rfl dX2_becomeImage_32 ?_
        refine lv_bipush (pc := 35) (v := nI 8) hx hb dX2_becomeImage_35 (by decide) ?_
        refine lv_iload (pc := 37) hx hb dX2_becomeImage_37 (lv_at hl 0 rfl) ?_
        refine lv_iadd (pc := 39) hx hb dX2_becomeImage_39 ?_
        refine lv_cv (nI_add 8 d) ?_
        refine lv_aload_n (pc := 40) hx hb dX2_becomeImage_40 rfl (lv_at hl 2 rfl) ?_
        refine va_get (pc := 41) (D := (dC, dI)) (ci := 2) (v := .ref a6) (C := RX2) (T := TX2) (N := 2) hx hb hts (by decide +kernel) hown hK hP 0 rfl rfl 0 (by decide) (hts (.fieldLink RX2 9 "ScratchSwap$Tape" "bytes" "[I") (by decide +kernel)) (fun _ h9 => h9) rfl dX2_becomeImage_41 ?_
        refine lv_iload (pc := 44) hx hb dX2_becomeImage_44 (lv_at hl 0 rfl) ?_
        refine x_iald (pc := 46) (k := d) (f := fun j => ub ((shT tb len (d + 1)) j)) hx hb hK hP 1 0 rfl rfl (by omega) (by decide) dX2_becomeImage_46 ?_
        refine x_ust (pc := 47) (k := 8 + d) (F := shT tb len (d + 1)) (x := (shT tb len (d + 1)) d) hx hb hK hP hD hS 1 0 rfl rfl (by omega) (by decide) dX2_becomeImage_47 (fun H locs hP hD hS => ?_)
        have hP : va_P (dC, dI) vwCl (tsW a5 a6 a7 a8 a9 cI (va_up (shT tb len (d + 1)) (8 + d) ((shT tb len (d + 1)) d)) len sc hs) _ := hP
        have hD : va_D A (tsW a5 a6 a7 a8 a9 cI (va_up (shT tb len (d + 1)) (8 + d) ((shT tb len (d + 1)) d)) len sc hs) := hD
        refine lv_iinc (pc := 48) (v := nI d - nI 1) (lv' := [(4, .int (nI d - nI 1)), (3, .int (nI len)), (0, .ref a5), (1, .int v), (2, .ref a7)]) hx hb dX2_becomeImage_48 hl (k := 0) rfl (nI_decI d) (by decide) rfl (fun ls hl => ?_)
        refine lv_goto (pc := 51) (tgt := 26) hx hb dX2_becomeImage_51 (by decide) ?_
        rw [shT_step tb (show d < len by omega)] at hP hD
        exact ih26 (d) H locs ls (by omega) (by first | omega | (simp only []; omega)) hP hD hS (lv_sub hl [0, 1, 2, 3, 4] rfl)
