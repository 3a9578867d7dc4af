set_option maxHeartbeats 4000000 in
set_option maxRecDepth 100000 in
theorem kX0_beginAct (l : Launch) (dC : Nat → ClassId) (dI : Nat → Nat → Nat) (tt : Nat → Nat) (cI cB : ClassId) (sz : Nat) (a1 a2 a3 a4 : Nat) (k : K0) (ut : Nat → Int32) (hdn : k.2.2.1 = false) (hlf : k.2.2.2.2.1 < 2 ^ 31) : MetI (S := K0) l yX0_beginAct wsX0_beginAct { frames := 0, cells := 0, slots := 0, locals := 0 } (dC, dI) [(cI, .int), (cB, .byte)] tt [] sz (mW a1 a2 a3 a4 cI k ut) [.ref a1] (fun u : K0 => mW a1 a2 a3 a4 cI u ut) (fun r u => r = bI (kBegin k).2 ∧ u = (kBegin k).1) := by
  refine Met.ofW (cc := cX0_beginAct) (maxL := 1) (ret := (some .boolean)) (by decide) rfl ?_
  intro p e s m args below meth c s₁ B hml hv
  obtain ⟨rfl, hsz, hP, hK, hD0, hE⟩ := hv
  have hx := B.exec
  have hb := B.bytes
  have hr := B.returns
  have hts := atoms_spec (ws := wsX0_beginAct) B.pre
  have hown : s.vm.findClass RX0 = some m.cls := findClass_of_methodNamed B.named
  have hlocks := B.notSynchronized
  subst hsz
  obtain ⟨F, te, dn, tl, lf, cu, ac, gn⟩ := k
  have hdn : dn = false := hdn
  subst hdn
  have hlf : lf < 2 ^ 31 := hlf
  have hD := hD0.self (sz := s.heap.size)
  generalize hAe : va_A (mW a1 a2 a3 a4 cI (F, te, false, tl, lf, cu, ac, gn) ut) s.heap.size = A at hD hE ⊢
  have hA : ∀ q : Nat, s.heap.size ≤ q → A q := fun q h => by rw [← hAe]; exact Or.inr h
  have hS : va_S A s.heap s.heap [] := va_S.rf
  have hl := lv_entry ([.ref a1]) (n := 1) (Nat.le_of_ble_eq_true rfl)
  rw [lg_entry_eq]
  generalize (lg_sl ([.ref a1]) ++ List.replicate (1 - (lg_sl ([.ref a1])).length) Slot.unset).toArray = ls at hl ⊢
  have hl : lv_has ls 1 [(0, .ref a1)] := hl
  have hP : va_P (dC, dI) vwCl (mW a1 a2 a3 a4 cI (F, te, false, tl, lf, cu, ac, gn) ut) s.heap := hP
  refine lv_aload_n (pc := 0) hx hb dX0_beginAct_0 rfl (lv_at hl 0 rfl) ?_
  refine va_get (pc := 1) (D := (dC, dI)) (ci := 0) (v := .int (bI false)) (C := RX0) (T := TX0) (N := 9) hx hb hts (by decide +kernel) hown hK hP 0 rfl rfl 3 (by decide) (hts (.fieldLink RX0 21 "ScratchSwap$Memory" "down" "Z") (by decide +kernel)) (fun _ h9 => h9) rfl dX0_beginAct_1 ?_
  refine lv_if_eq (pc := 4) (tgt := 9) hx hb dX0_beginAct_4 (by decide) (fun c1 => ?_) (fun c1 => ?_)
  · skip
    have c1 : false = false := bI_0.mp c1
    refine lv_aload_n (pc := 9) hx hb dX0_beginAct_9 rfl (lv_at hl 0 rfl) ?_
    refine va_get (pc := 10) (D := (dC, dI)) (ci := 0) (v := .int (bI tl)) (C := RX0) (T := TX0) (N := 9) hx hb hts (by decide +kernel) hown hK hP 0 rfl rfl 4 (by decide) (hts (.fieldLink RX0 25 "ScratchSwap$Memory" "toldToGo" "Z") (by decide +kernel)) (fun _ h9 => h9) rfl dX0_beginAct_10 ?_
    refine lv_if_eq (pc := 13) (tgt := 40) hx hb dX0_beginAct_13 (by decide) (fun c2 => ?_) (fun c2 => ?_)
    · skip
      have c2 : tl = false := bI_0.mp c2
      subst c2
      have hP : va_P (dC, dI) vwCl (mW a1 a2 a3 a4 cI (F, te, false, false, lf, cu, ac, gn) ut) _ := hP
      have hD : va_D A (mW a1 a2 a3 a4 cI (F, te, false, false, lf, cu, ac, gn) ut) := hD
      refine lv_aload_n (pc := 40) hx hb dX0_beginAct_40 rfl (lv_at hl 0 rfl) ?_
      refine va_get (pc := 41) (D := (dC, dI)) (ci := 0) (v := .int (bI false)) (C := RX0) (T := TX0) (N := 9) hx hb hts (by decide +kernel) hown hK hP 0 rfl rfl 4 (by decide) (hts (.fieldLink RX0 25 "ScratchSwap$Memory" "toldToGo" "Z") (by decide +kernel)) (fun _ h9 => h9) rfl dX0_beginAct_41 ?_
      refine lv_if_eq (pc := 44) (tgt := 57) hx hb dX0_beginAct_44 (by decide) (fun c4 => ?_) (fun c4 => ?_)
      · skip
        have c4 : false = false := bI_0.mp c4
        refine lv_aload_n (pc := 57) hx hb dX0_beginAct_57 rfl (lv_at hl 0 rfl) ?_
        refine lv_dup (pc := 58) hx hb dX0_beginAct_58 rfl ?_
        refine va_get (pc := 59) (D := (dC, dI)) (ci := 0) (v := .int ac) (C := RX0) (T := TX0) (N := 9) hx hb hts (by decide +kernel) hown hK hP 0 rfl rfl 7 (by decide) (hts (.fieldLink RX0 35 "ScratchSwap$Memory" "actsDone" "I") (by decide +kernel)) (fun _ h9 => h9) rfl dX0_beginAct_59 ?_
        refine lv_iconst (pc := 62) (v := nI 1) hx hb dX0_beginAct_62 (by decide) ?_
        refine lv_iadd (pc := 63) hx hb dX0_beginAct_63 ?_
        refine va_put (pc := 64) (D := (dC, dI)) (ci := 0) (v := .int (ac + (nI 1))) (ty := .int) (C := RX0) (T := TX0) (N := 9) hx hb hts (by decide +kernel) tyX0 tyX0_ok nmX0 hown hK hP hD hS 0 rfl rfl 7 (by decide) (hts (.fieldLink RX0 35 "ScratchSwap$Memory" "actsDone" "I") (by decide +kernel)) (fun _ h9 => h9) rfl (by decide +kernel) rfl rfl (Nat.le_of_ble_eq_true rfl) dX0_beginAct_64 (fun H locs hP hD hS => ?_)
        have hP : va_P (dC, dI) vwCl (mW a1 a2 a3 a4 cI (F, te, false, false, lf, cu, ac + (nI 1), gn) ut) _ := hP
        have hD : va_D A (mW a1 a2 a3 a4 cI (F, te, false, false, lf, cu, ac + (nI 1), gn) ut) := hD
        refine lv_iconst (pc := 67) (v := nI 1) hx hb dX0_beginAct_67 (by decide) ?_
        have hk : kBegin (F, te, false, false, lf, cu, ac, gn) = ((F, te, false, false, lf, cu, ac + (nI 1), gn), true) := by first | (simp [kBegin, c3]; done) | (simp [kBegin]; done)
        exact W.zret (v := nI 1) hx hb hr rfl (fun t ht hW => ⟨⟨nI 1, (F, te, false, false, lf, cu, ac + (nI 1), gn), rfl, ⟨by rw [hk]; rfl, by rw [hk]⟩, by show va_P _ _ _ t.heap; rw [ht]; exact hP, va_K.moved hW.alike hK, hD⟩, hS.F ht⟩) hS.2.2 dX0_beginAct_68
      · skip
        have c4 : false = true := bI_1.mp c4
        exact absurd c4 (by decide)
    · skip
      have c2 : tl = true := bI_1.mp c2
      subst c2
      have hP : va_P (dC, dI) vwCl (mW a1 a2 a3 a4 cI (F, te, false, true, lf, cu, ac, gn) ut) _ := hP
      have hD : va_D A (mW a1 a2 a3 a4 cI (F, te, false, true, lf, cu, ac, gn) ut) := hD
      refine lv_aload_n (pc := 16) hx hb dX0_beginAct_16 rfl (lv_at hl 0 rfl) ?_
      refine va_get (pc := 17) (D := (dC, dI)) (ci := 0) (v := .int (nI lf)) (C := RX0) (T := TX0) (N := 9) hx hb hts (by decide +kernel) hown hK hP 0 rfl rfl 5 (by decide) (hts (.fieldLink RX0 28 "ScratchSwap$Memory" "actsLeft" "I") (by decide +kernel)) (fun _ h9 => h9) rfl dX0_beginAct_17 ?_
      refine lv_if_ne (pc := 20) (tgt := 40) hx hb dX0_beginAct_20 (by decide) (fun c3 => ?_) (fun c3 => ?_)
      · skip
        have c3 : ¬ lf = 0 := fun z => c3 ((nI_eq (a := lf) (b := 0) (by omega) (by omega)).mpr z)
        refine lv_aload_n (pc := 40) hx hb dX0_beginAct_40 rfl (lv_at hl 0 rfl) ?_
        refine va_get (pc := 41) (D := (dC, dI)) (ci := 0) (v := .int (bI true)) (C := RX0) (T := TX0) (N := 9) hx hb hts (by decide +kernel) hown hK hP 0 rfl rfl 4 (by decide) (hts (.fieldLink RX0 25 "ScratchSwap$Memory" "toldToGo" "Z") (by decide +kernel)) (fun _ h9 => h9) rfl dX0_beginAct_41 ?_
        refine lv_if_eq (pc := 44) (tgt := 57) hx hb dX0_beginAct_44 (by decide) (fun c4 => ?_) (fun c4 => ?_)
        · skip
          have c4 : true = false := bI_0.mp c4
          exact absurd c4 (by decide)
        · skip
          have c4 : true = true := bI_1.mp c4
          refine lv_aload_n (pc := 47) hx hb dX0_beginAct_47 rfl (lv_at hl 0 rfl) ?_
          refine lv_dup (pc := 48) hx hb dX0_beginAct_48 rfl ?_
          refine va_get (pc := 49) (D := (dC, dI)) (ci := 0) (v := .int (nI lf)) (C := RX0) (T := TX0) (N := 9) hx hb hts (by decide +kernel) hown hK hP 0 rfl rfl 5 (by decide) (hts (.fieldLink RX0 28 "ScratchSwap$Memory" "actsLeft" "I") (by decide +kernel)) (fun _ h9 => h9) rfl dX0_beginAct_49 ?_
          refine lv_iconst (pc := 52) (v := nI 1) hx hb dX0_beginAct_52 (by decide) ?_
          refine lv_isub (pc := 53) hx hb dX0_beginAct_53 ?_
          refine lv_cv (pk_sub (a := lf) (b := 1) (by omega)) ?_
          refine va_put (pc := 54) (D := (dC, dI)) (ci := 0) (v := .int (nI (lf - 1))) (ty := .int) (C := RX0) (T := TX0) (N := 9) hx hb hts (by decide +kernel) tyX0 tyX0_ok nmX0 hown hK hP hD hS 0 rfl rfl 5 (by decide) (hts (.fieldLink RX0 28 "ScratchSwap$Memory" "actsLeft" "I") (by decide +kernel)) (fun _ h9 => h9) rfl (by decide +kernel) rfl rfl (Nat.le_of_ble_eq_true rfl) dX0_beginAct_54 (fun H locs hP hD hS => ?_)
          have hP : va_P (dC, dI) vwCl (mW a1 a2 a3 a4 cI (F, te, false, true, lf - 1, cu, ac, gn) ut) _ := hP
          have hD : va_D A (mW a1 a2 a3 a4 cI (F, te, false, true, lf - 1, cu, ac, gn) ut) := hD
          refine lv_aload_n (pc := 57) hx hb dX0_beginAct_57 rfl (lv_at hl 0 rfl) ?_
          refine lv_dup (pc := 58) hx hb dX0_beginAct_58 rfl ?_
          refine va_get (pc := 59) (D := (dC, dI)) (ci := 0) (v := .int ac) (C := RX0) (T := TX0) (N := 9) hx hb hts (by decide +kernel) hown hK hP 0 rfl rfl 7 (by decide) (hts (.fieldLink RX0 35 "ScratchSwap$Memory" "actsDone" "I") (by decide +kernel)) (fun _ h9 => h9) rfl dX0_beginAct_59 ?_
          refine lv_iconst (pc := 62) (v := nI 1) hx hb dX0_beginAct_62 (by decide) ?_
          refine lv_iadd (pc := 63) hx hb dX0_beginAct_63 ?_
          refine va_put (pc := 64) (D := (dC, dI)) (ci := 0) (v := .int (ac + (nI 1))) (ty := .int) (C := RX0) (T := TX0) (N := 9) hx hb hts (by decide +kernel) tyX0 tyX0_ok nmX0 hown hK hP hD hS 0 rfl rfl 7 (by decide) (hts (.fieldLink RX0 35 "ScratchSwap$Memory" "actsDone" "I") (by decide +kernel)) (fun _ h9 => h9) rfl (by decide +kernel) rfl rfl (Nat.le_of_ble_eq_true rfl) dX0_beginAct_64 (fun H locs hP hD hS => ?_)
          have hP : va_P (dC, dI) vwCl (mW a1 a2 a3 a4 cI (F, te, false, true, lf - 1, cu, ac + (nI 1), gn) ut) _ := hP
          have hD : va_D A (mW a1 a2 a3 a4 cI (F, te, false, true, lf - 1, cu, ac + (nI 1), gn) ut) := hD
          refine lv_iconst (pc := 67) (v := nI 1) hx hb dX0_beginAct_67 (by decide) ?_
          have hk : kBegin (F, te, false, true, lf, cu, ac, gn) = ((F, te, false, true, lf - 1, cu, ac + (nI 1), gn), true) := by first | (simp [kBegin, c3]; done) | (simp [kBegin]; done)
          exact W.zret (v := nI 1) hx hb hr rfl (fun t ht hW => ⟨⟨nI 1, (F, te, false, true, lf - 1, cu, ac + (nI 1), gn), rfl, ⟨by rw [hk]; rfl, by rw [hk]⟩, by show va_P _ _ _ t.heap; rw [ht]; exact hP, va_K.moved hW.alike hK, hD⟩, hS.F ht⟩) hS.2.2 dX0_beginAct_68
      · skip
        have c3 : lf = 0 := (nI_eq (a := lf) (b := 0) (by omega) (by omega)).mp c3
        refine lv_aload_n (pc := 23) hx hb dX0_beginAct_23 rfl (lv_at hl 0 rfl) ?_
        refine lv_iconst (pc := 24) (v := nI 1) hx hb dX0_beginAct_24 (by decide) ?_
        refine lv_cv (show nI 1 = bI true from rfl) ?_
        refine va_put (pc := 25) (D := (dC, dI)) (ci := 0) (v := .int (bI true)) (ty := .boolean) (C := RX0) (T := TX0) (N := 9) hx hb hts (by decide +kernel) tyX0 tyX0_ok nmX0 hown hK hP hD hS 0 rfl rfl 3 (by decide) (hts (.fieldLink RX0 21 "ScratchSwap$Memory" "down" "Z") (by decide +kernel)) (fun _ h9 => h9) rfl (by decide +kernel) (nbI true) (fbI true) (Nat.le_of_ble_eq_true rfl) dX0_beginAct_25 (fun H locs hP hD hS => ?_)
        have hP : va_P (dC, dI) vwCl (mW a1 a2 a3 a4 cI (F, te, true, true, lf, cu, ac, gn) ut) _ := hP
        have hD : va_D A (mW a1 a2 a3 a4 cI (F, te, true, true, lf, cu, ac, gn) ut) := hD
        refine lv_aload_n (pc := 28) hx hb dX0_beginAct_28 rfl (lv_at hl 0 rfl) ?_
        refine lv_dup (pc := 29) hx hb dX0_beginAct_29 rfl ?_
        refine va_get (pc := 30) (D := (dC, dI)) (ci := 0) (v := .int gn) (C := RX0) (T := TX0) (N := 9) hx hb hts (by decide +kernel) hown hK hP 0 rfl rfl 8 (by decide) (hts (.fieldLink RX0 38 "ScratchSwap$Memory" "timesGone" "I") (by decide +kernel)) (fun _ h9 => h9) rfl dX0_beginAct_30 ?_
        refine lv_iconst (pc := 33) (v := nI 1) hx hb dX0_beginAct_33 (by decide) ?_
        refine lv_iadd (pc := 34) hx hb dX0_beginAct_34 ?_
        refine va_put (pc := 35) (D := (dC, dI)) (ci := 0) (v := .int (gn + (nI 1))) (ty := .int) (C := RX0) (T := TX0) (N := 9) hx hb hts (by decide +kernel) tyX0 tyX0_ok nmX0 hown hK hP hD hS 0 rfl rfl 8 (by decide) (hts (.fieldLink RX0 38 "ScratchSwap$Memory" "timesGone" "I") (by decide +kernel)) (fun _ h9 => h9) rfl (by decide +kernel) rfl rfl (Nat.le_of_ble_eq_true rfl) dX0_beginAct_35 (fun H locs hP hD hS => ?_)
        have hP : va_P (dC, dI) vwCl (mW a1 a2 a3 a4 cI (F, te, true, true, lf, cu, ac, gn + (nI 1)) ut) _ := hP
        have hD : va_D A (mW a1 a2 a3 a4 cI (F, te, true, true, lf, cu, ac, gn + (nI 1)) ut) := hD
        refine lv_iconst (pc := 38) (v := nI 0) hx hb dX0_beginAct_38 (by decide) ?_
        have hk : kBegin (F, te, false, true, lf, cu, ac, gn) = ((F, te, true, true, lf, cu, ac, gn + (nI 1)), false) := by first | (simp [kBegin, c3]; done) | (simp [kBegin]; done)
        exact W.zret (v := nI 0) hx hb hr rfl (fun t ht hW => ⟨⟨nI 0, (F, te, true, true, lf, cu, ac, gn + (nI 1)), rfl, ⟨by rw [hk]; rfl, by rw [hk]⟩, by show va_P _ _ _ t.heap; rw [ht]; exact hP, va_K.moved hW.alike hK, hD⟩, hS.F ht⟩) hS.2.2 dX0_beginAct_39
  · skip
    have c1 : false = true := bI_1.mp c1
    exact absurd c1 (by decide)
theorem kB_te {F : Nat → Int8} {te te1 : Nat → Int32} {dn tl : Bool} {lf cu : Nat} {ac gn : Int32} : (kBegin (F, te1, dn, tl, lf, cu, ac, gn)).2 = (kBegin (F, te, dn, tl, lf, cu, ac, gn)).2 := by unfold kBegin; split <;> rfl
theorem kB_te2 {F : Nat → Int8} {te te1 : Nat → Int32} {dn tl : Bool} {lf cu : Nat} {ac gn : Int32} : (kBegin (F, te1, dn, tl, lf, cu, ac, gn)).1.2.2 = (kBegin (F, te, dn, tl, lf, cu, ac, gn)).1.2.2 := by unfold kBegin; split <;> rfl
set_option maxHeartbeats 4000000 in
set_option maxRecDepth 100000 in
theorem kX0_eraseSector (l : Launch) (dC : Nat → ClassId) (dI : Nat → Nat → Nat) (tt : Nat → Nat) (cI cB : ClassId) (sz : Nat) (a1 a2 a3 a4 : Nat) (k : K0) (ut : Nat → Int32) (j : Nat) (hj : j < 11) (hdn : k.2.2.1 = false) (hlf : k.2.2.2.2.1 < 2 ^ 31) (hcu : k.2.2.2.2.2.1 < 32) : MetI (S := K0) l yX0_eraseSector wsX0_eraseSector { frames := 1, cells := 0, slots := 0, locals := 20 } (dC, dI) [(cI, .int), (cB, .byte)] tt [] sz (mW a1 a2 a3 a4 cI k ut) [.ref a1, .int (nI j)] (fun u : K0 => mW a1 a2 a3 a4 cI u ut) (fun r u => r = bI (kErase j k).2 ∧ u = (kErase j k).1) := by
  refine Met.ofW (cc := cX0_eraseSector) (maxL := 6) (ret := (some .boolean)) (by decide) rfl ?_
  intro p e s m args below meth c s₁ B hml hv
  obtain ⟨rfl, hsz, hP, hK, hD0, hE⟩ := hv
  have hx := B.exec
  have hb := B.bytes
  have hr := B.returns
  have hts := atoms_spec (ws := wsX0_eraseSector) B.pre
  have hown : s.vm.findClass RX0 = some m.cls := findClass_of_methodNamed B.named
  have hlocks := B.notSynchronized
  subst hsz
  obtain ⟨F, te, dn, tl, lf, cu, ac, gn⟩ := k
  have hdn : dn = false := hdn
  subst hdn
  have hlf : lf < 2 ^ 31 := hlf
  have hcu : cu < 32 := hcu
  have hD := hD0.self (sz := s.heap.size)
  generalize hAe : va_A (mW a1 a2 a3 a4 cI (F, te, false, tl, lf, cu, ac, gn) ut) s.heap.size = A at hD hE ⊢
  have hA : ∀ q : Nat, s.heap.size ≤ q → A q := fun q h => by rw [← hAe]; exact Or.inr h
  have hS : va_S A s.heap s.heap [] := va_S.rf
  have hl := lv_entry ([.ref a1, .int (nI j)]) (n := 6) (Nat.le_of_ble_eq_true rfl)
  rw [lg_entry_eq]
  generalize (lg_sl ([.ref a1, .int (nI j)]) ++ List.replicate (6 - (lg_sl ([.ref a1, .int (nI j)])).length) Slot.unset).toArray = ls at hl ⊢
  have hl : lv_has ls 6 [(0, .ref a1), (1, .int (nI j))] := hl
  have hP : va_P (dC, dI) vwCl (mW a1 a2 a3 a4 cI (F, te, false, tl, lf, cu, ac, gn) ut) s.heap := hP
  refine lv_aload_n (pc := 0) hx hb dX0_eraseSector_0 rfl (lv_at hl 0 rfl) ?_
  refine va_get (pc := 1) (D := (dC, dI)) (ci := 0) (v := .int (bI false)) (C := RX0) (T := TX0) (N := 9) hx hb hts (by decide +kernel) hown hK hP 0 rfl rfl 3 (by decide) (hts (.fieldLink RX0 21 "ScratchSwap$Memory" "down" "Z") (by decide +kernel)) (fun _ h9 => h9) rfl dX0_eraseSector_1 ?_
  refine lv_if_ne (pc := 4) (tgt := 14) hx hb dX0_eraseSector_4 (by decide) (fun c1 => ?_) (fun c1 => ?_)
  · skip
    have c1 : false = true := bI_1.mp c1
    exact absurd c1 (by decide)
  · skip
    have c1 : false = false := bI_0.mp c1
    refine lv_iload_n (pc := 7) hx hb dX0_eraseSector_7 rfl (lv_at hl 1 rfl) ?_
    refine x_roi (pc := 8) (va_runS (As := [.int (nI j)]) (rest := []) ⟨hx, hb, hml, hown, hts⟩ (kX0_hasSector l dC dI tt cI cB _ (nI j)) (va_cwS 1 hts gX0_eraseSector_X0_hasSector rfl rfl rfl (by decide +kernel) ⟨Nat.le_of_ble_eq_true rfl, Nat.le_of_ble_eq_true rfl⟩) (x_preS hS hE hK hP hD [] rfl (by decide) (x_ro hS hA) xR0) rfl rfl hl.1 rfl (lv_room (Nat.le_of_ble_eq_true rfl)) dX0_eraseSector_8 ⟨Nat.le_of_ble_eq_true rfl, Nat.le_of_ble_eq_true rfl⟩) hS hA hP (fun r_1 H locs hr_1 hP hS => ?_)
    subst hr_1
    refine lv_if_ne (pc := 11) (tgt := 16) hx hb dX0_eraseSector_11 (by decide) (fun c2 => ?_) (fun c2 => ?_)
    · skip
      have c2 : inB 11 (nI j) = true := bI_1.mp c2
      refine lv_aload_n (pc := 16) hx hb dX0_eraseSector_16 rfl (lv_at hl 0 rfl) ?_
      refine va_get (pc := 17) (D := (dC, dI)) (ci := 0) (v := .ref a3) (C := RX0) (T := TX0) (N := 9) hx hb hts (by decide +kernel) hown hK hP 0 rfl rfl 1 (by decide) (hts (.fieldLink RX0 15 "ScratchSwap$Memory" "timesErased" "[I") (by decide +kernel)) (fun _ h9 => h9) rfl dX0_eraseSector_17 ?_
      refine lv_iload_n (pc := 20) hx hb dX0_eraseSector_20 rfl (lv_at hl 1 rfl) ?_
      refine lv_dup2_11 (pc := 21) hx hb dX0_eraseSector_21 rfl rfl ?_
      refine x_iald (pc := 22) (k := j) (f := te) hx hb hK hP 2 0 rfl rfl (by omega) (by decide) dX0_eraseSector_22 ?_
      refine lv_iconst (pc := 23) (v := nI 1) hx hb dX0_eraseSector_23 (by decide) ?_
      refine lv_iadd (pc := 24) hx hb dX0_eraseSector_24 ?_
      refine x_iast (pc := 25) (k := j) (f := te) hx hb hK hP hD hS 2 0 rfl rfl (by omega) (by decide) dX0_eraseSector_25 (fun H locs hP hD hS => ?_)
      have hP : va_P (dC, dI) vwCl (mW a1 a2 a3 a4 cI (F, upd te j ((te j) + (nI 1)), false, tl, lf, cu, ac, gn) ut) _ := hP
      have hD : va_D A (mW a1 a2 a3 a4 cI (F, upd te j ((te j) + (nI 1)), false, tl, lf, cu, ac, gn) ut) := hD
      refine lv_aload_n (pc := 26) hx hb dX0_eraseSector_26 rfl (lv_at hl 0 rfl) ?_
      refine x_wri (pc := 27) (va_runV (As := []) (rest := []) ⟨hx, hb, hml, hown, hts⟩ (kX0_beginAct l dC dI tt cI cB _ a1 a2 a3 a4 (F, upd te j ((te j) + (nI 1)), false, tl, lf, cu, ac, gn) ut  rfl hlf) (cwV 0 hts gX0_eraseSector_X0_beginAct rfl rfl rfl (by decide +kernel) ⟨Nat.le_of_ble_eq_true rfl, Nat.le_of_ble_eq_true rfl⟩) (x_preV hS hE hK hP hD [0, 1, 2, 3] rfl (by decide) (va_free hD hS hA [0, 1, 2, 3] rfl) xR0 0 0 rfl rfl) rfl rfl hl.1 rfl (lv_room (Nat.le_of_ble_eq_true rfl)) dX0_eraseSector_27 ⟨Nat.le_of_ble_eq_true rfl, Nat.le_of_ble_eq_true rfl⟩) hS hA hP hD [0, 1, 2, 3] [] rfl rfl (by decide) (by decide) (fun r_3 u_2 H locs hu_2 hP hD hS => ?_)
      obtain ⟨hr_3, eu_2⟩ := hu_2
      obtain ⟨b_4, eb_4⟩ : ∃ z, z = (kBegin (F, upd te j ((te j) + (nI 1)), false, tl, lf, cu, ac, gn)).2 := ⟨_, rfl⟩
      rw [← eb_4] at hr_3
      subst hr_3
      have hP := hP.sub (ws' := mW a1 a2 a3 a4 cI u_2 ut) [0, 1, 2, 3] rfl
      have hD := hD.sub (ws' := mW a1 a2 a3 a4 cI u_2 ut) [0, 1, 2, 3] (by decide) rfl
      obtain ⟨F1, te1, dn1, tl1, lf1, cu1, ac1, gn1⟩ := u_2
      have hF1 : F1 = F := by have := congrArg (fun z : K0 => z.1) eu_2; rw [kBegin_F] at this; exact this
      have ht1 : te1 = upd te j (te j + nI 1) := by have := congrArg (fun z : K0 => z.2.1) eu_2; rw [kBegin_te] at this; exact this
      have hc1 : cu1 = cu := by have := congrArg (fun z : K0 => z.2.2.2.2.2.1) eu_2; rw [kBegin_cu] at this; exact this
      subst hF1
      subst hc1
      have hP : va_P (dC, dI) vwCl (mW a1 a2 a3 a4 cI (F1, te1, dn1, tl1, lf1, cu1, ac1, gn1) ut) _ := hP
      have hD : va_D A (mW a1 a2 a3 a4 cI (F1, te1, dn1, tl1, lf1, cu1, ac1, gn1) ut) := hD
      refine lv_istore_n (pc := 30) (lv' := [(2, .int (bI b_4)), (0, .ref a1), (1, .int (nI j))]) hx hb dX0_eraseSector_30 rfl hl (by decide) rfl (fun ls hl => ?_)
      refine lv_iload_n (pc := 31) hx hb dX0_eraseSector_31 rfl (lv_at hl 0 rfl) ?_
      refine lv_if_eq (pc := 32) (tgt := 40) hx hb dX0_eraseSector_32 (by decide) (fun c3 => ?_) (fun c3 => ?_)
      · skip
        have c3 : b_4 = false := bI_0.mp c3
        refine lv_aload_n (pc := 40) hx hb dX0_eraseSector_40 rfl (lv_at hl 1 rfl) ?_
        refine va_get (pc := 41) (D := (dC, dI)) (ci := 0) (v := .int (nI cu1)) (C := RX0) (T := TX0) (N := 9) hx hb hts (by decide +kernel) hown hK hP 0 rfl rfl 6 (by decide) (hts (.fieldLink RX0 32 "ScratchSwap$Memory" "unitsCut" "I") (by decide +kernel)) (fun _ h9 => h9) rfl dX0_eraseSector_41 ?_
        refine lv_istore_n (pc := 44) (lv' := [(3, .int (nI cu1)), (2, .int (bI b_4)), (0, .ref a1), (1, .int (nI j))]) hx hb dX0_eraseSector_44 rfl hl (by decide) rfl (fun ls hl => ?_)
        refine lv_iload_n (pc := 45) hx hb dX0_eraseSector_45 rfl (lv_at hl 3 rfl) ?_
        refine lv_sipush (pc := 46) (v := nI 256) hx hb dX0_eraseSector_46 (by decide) ?_
        refine lv_imul (pc := 49) hx hb dX0_eraseSector_49 ?_
        refine lv_cv (pk_mul j 256) ?_
        refine lv_istore (pc := 50) (lv' := [(4, .int (nI (j * 256))), (3, .int (nI cu1)), (2, .int (bI b_4)), (0, .ref a1), (1, .int (nI j))]) hx hb dX0_eraseSector_50 hl (by decide) rfl (fun ls hl => ?_)
        refine lv_iconst (pc := 52) (v := nI 0) hx hb dX0_eraseSector_52 (by decide) ?_
        refine lv_istore (pc := 53) (lv' := [(5, .int (nI 0)), (4, .int (nI (j * 256))), (3, .int (nI cu1)), (2, .int (bI b_4)), (0, .ref a1), (1, .int (nI j))]) hx hb dX0_eraseSector_53 hl (by decide) rfl (fun ls hl => ?_)
        rw [← fillF_0 F1 (j * 256)] at hP hD
        refine x_loop (σ := (Nat)) (Wd := fun i : (Nat) => mW a1 a2 a3 a4 cI (fillF F1 (j * 256) i, te1, dn1, tl1, lf1, cu1, ac1, gn1) ut) (Lv := fun i : (Nat) => [(5, .int (nI i)), (4, .int (nI (j * 256))), (3, .int (nI cu1)), (2, .int (bI b_4)), (0, .ref a1), (1, .int (nI j))]) (I := fun i : (Nat) => (i ≤ cu1 * 8)) (μ := fun i : (Nat) => cu1 * 8 - i) ?_ (0) (Nat.zero_le _) hP hD hS (lv_sub hl [0, 1, 2, 3, 4, 5] rfl)
        intro i H locs ls hI hP hD hS hl ih55
        have hi8 : (i ≤ cu1 * 8) := hI
        have hP : va_P (dC, dI) vwCl (mW a1 a2 a3 a4 cI (fillF F1 (j * 256) i, te1, dn1, tl1, lf1, cu1, ac1, gn1) ut) _ := hP
        have hD : va_D A (mW a1 a2 a3 a4 cI (fillF F1 (j * 256) i, te1, dn1, tl1, lf1, cu1, ac1, gn1) ut) := hD
        have hl : lv_has ls 6 [(5, .int (nI i)), (4, .int (nI (j * 256))), (3, .int (nI cu1)), (2, .int (bI b_4)), (0, .ref a1), (1, .int (nI j))] := hl
        refine lv_iload (pc := 55) hx hb dX0_eraseSector_55 (lv_at hl 0 rfl) ?_
        refine lv_iload_n (pc := 57) hx hb dX0_eraseSector_57 rfl (lv_at hl 2 rfl) ?_
        refine lv_bipush (pc := 58) (v := nI 8) hx hb dX0_eraseSector_58 (by decide) ?_
        refine lv_imul (pc := 60) hx hb dX0_eraseSector_60 ?_
        refine lv_cv (pk_mul cu1 8) ?_
        refine lv_icmp_ge (pc := 61) (tgt := 94) hx hb dX0_eraseSector_61 (by decide) (fun c_5 => ?_) (fun c_5 => ?_)
        · skip
          have c_5 : (cu1 * 8) ≤ i := (nI_leI (a := (cu1 * 8)) (b := i) (by omega) (by omega)).mp c_5
          refine lv_iload_n (pc := 94) hx hb dX0_eraseSector_94 rfl (lv_at hl 3 rfl) ?_
          have hi9 : i = cu1 * 8 := by omega
          subst hi9
          exact W.zret (v := bI b_4) hx hb hr (nbI b_4) (fun t ht hW => ⟨⟨bI b_4, (fillF F1 (j * 256) (cu1 * 8), te1, dn1, tl1, lf1, cu1, ac1, gn1), rfl, ⟨by show bI b_4 = bI (kBegin (F1, te, false, tl, lf, cu1, ac, gn)).2; rw [eb_4, kB_te], by show _ = (fillF F1 (j * 256) ((if (kBegin (F1, te, false, tl, lf, cu1, ac, gn)).2 = true then 32 else cu1) * 8), upd te j (te j + nI 1), (kBegin (F1, te, false, tl, lf, cu1, ac, gn)).1.2.2); rw [← kB_te (te1 := upd te j (te j + nI 1)), ← eb_4, c3, ht1, ← kB_te2 (te1 := upd te j (te j + nI 1)), ← eu_2]; rfl⟩, by show va_P _ _ _ t.heap; rw [ht]; exact hP, va_K.moved hW.alike hK, hD⟩, hS.F ht⟩) hS.2.2 dX0_eraseSector_95
        · skip
          have c_5 : ¬ (cu1 * 8) ≤ i := fun z => c_5 ((nI_leI (a := (cu1 * 8)) (b := i) (by omega) (by omega)).mpr z)
          refine lv_iload (pc := 64) hx hb dX0_eraseSector_64 (lv_at hl 1 rfl) ?_
          refine lv_iload (pc := 66) hx hb dX0_eraseSector_66 (lv_at hl 0 rfl) ?_
          refine lv_iadd (pc := 68) hx hb dX0_eraseSector_68 ?_
          refine lv_cv (nI_add (j * 256) i) ?_
          refine x_roi (pc := 69) (va_runS (As := [.int (nI ((j * 256) + i))]) (rest := []) ⟨hx, hb, hml, hown, hts⟩ (kX0_has l dC dI tt cI cB _ (nI ((j * 256) + i))) (va_cwS 1 hts gX0_eraseSector_X0_has rfl rfl rfl (by decide +kernel) ⟨Nat.le_of_ble_eq_true rfl, Nat.le_of_ble_eq_true rfl⟩) (x_preS hS hE hK hP hD [] rfl (by decide) (x_ro hS hA) xR0) rfl rfl hl.1 rfl (lv_room (Nat.le_of_ble_eq_true rfl)) dX0_eraseSector_69 ⟨Nat.le_of_ble_eq_true rfl, Nat.le_of_ble_eq_true rfl⟩) hS hA hP (fun r_6 H locs hr_6 hP hS => ?_)
          subst hr_6
          refine lv_if_eq (pc := 72) (tgt := 88) hx hb dX0_eraseSector_72 (by decide) (fun c5 => ?_) (fun c5 => ?_)
          · skip
            have c5 : inB 2816 (nI ((j * 256) + i)) = false := bI_0.mp c5
            exact absurd c5 (by rw [inB_nI (by omega) (by decide)]; decide)
          · skip
            have c5 : inB 2816 (nI ((j * 256) + i)) = true := bI_1.mp c5
            refine lv_aload_n (pc := 75) hx hb dX0_eraseSector_75 rfl (lv_at hl 4 rfl) ?_
            refine va_get (pc := 76) (D := (dC, dI)) (ci := 0) (v := .ref a2) (C := RX0) (T := TX0) (N := 9) hx hb hts (by decide +kernel) hown hK hP 0 rfl rfl 0 (by decide) (hts (.fieldLink RX0 9 "ScratchSwap$Memory" "bytes" "[I") (by decide +kernel)) (fun _ h9 => h9) rfl dX0_eraseSector_76 ?_
            refine lv_iload (pc := 79) hx hb dX0_eraseSector_79 (lv_at hl 1 rfl) ?_
            refine lv_iload (pc := 81) hx hb dX0_eraseSector_81 (lv_at hl 0 rfl) ?_
            refine lv_iadd (pc := 83) hx hb dX0_eraseSector_83 ?_
            refine lv_cv (nI_add (j * 256) i) ?_
            refine lv_sipush (pc := 84) (v := nI 255) hx hb dX0_eraseSector_84 (by decide) ?_
            refine lv_cv ub_m1.symm ?_
            refine x_ust (pc := 87) (k := (j * 256) + i) (F := fillF F1 (j * 256) i) (x := (-1)) hx hb hK hP hD hS 1 0 rfl rfl (by omega) (by decide) dX0_eraseSector_87 (fun H locs hP hD hS => ?_)
            have hP : va_P (dC, dI) vwCl (mW a1 a2 a3 a4 cI (va_up (fillF F1 (j * 256) i) ((j * 256) + i) (-1), te1, dn1, tl1, lf1, cu1, ac1, gn1) ut) _ := hP
            have hD : va_D A (mW a1 a2 a3 a4 cI (va_up (fillF F1 (j * 256) i) ((j * 256) + i) (-1), te1, dn1, tl1, lf1, cu1, ac1, gn1) ut) := hD
            refine lv_iinc (pc := 88) (v := nI (i + 1)) (lv' := [(5, .int (nI (i + 1))), (4, .int (nI (j * 256))), (3, .int (nI cu1)), (2, .int (bI b_4)), (0, .ref a1), (1, .int (nI j))]) hx hb dX0_eraseSector_88 hl (k := 0) rfl (nI_inc i 1) (by decide) rfl (fun ls hl => ?_)
            refine lv_goto (pc := 91) (tgt := 55) hx hb dX0_eraseSector_91 (by decide) ?_
            rw [fillF_step] at hP hD
            exact ih55 (i + 1) H locs ls (by omega) (by first | omega | (simp only []; omega)) hP hD hS (lv_sub hl [0, 1, 2, 3, 4, 5] rfl)
      · skip
        have c3 : b_4 = true := bI_1.mp c3
        refine lv_bipush (pc := 35) (v := nI 32) hx hb dX0_eraseSector_35 (by decide) ?_
        refine lv_goto (pc := 37) (tgt := 44) hx hb dX0_eraseSector_37 (by decide) ?_
        refine lv_istore_n (pc := 44) (lv' := [(3, .int (nI 32)), (2, .int (bI b_4)), (0, .ref a1), (1, .int (nI j))]) hx hb dX0_eraseSector_44 rfl hl (by decide) rfl (fun ls hl => ?_)
        refine lv_iload_n (pc := 45) hx hb dX0_eraseSector_45 rfl (lv_at hl 3 rfl) ?_
        refine lv_sipush (pc := 46) (v := nI 256) hx hb dX0_eraseSector_46 (by decide) ?_
        refine lv_imul (pc := 49) hx hb dX0_eraseSector_49 ?_
        refine lv_cv (pk_mul j 256) ?_
        refine lv_istore (pc := 50) (lv' := [(4, .int (nI (j * 256))), (3, .int (nI 32)), (2, .int (bI b_4)), (0, .ref a1), (1, .int (nI j))]) hx hb dX0_eraseSector_50 hl (by decide) rfl (fun ls hl => ?_)
        refine lv_iconst (pc := 52) (v := nI 0) hx hb dX0_eraseSector_52 (by decide) ?_
        refine lv_istore (pc := 53) (lv' := [(5, .int (nI 0)), (4, .int (nI (j * 256))), (3, .int (nI 32)), (2, .int (bI b_4)), (0, .ref a1), (1, .int (nI j))]) hx hb dX0_eraseSector_53 hl (by decide) rfl (fun ls hl => ?_)
        rw [← fillF_0 F1 (j * 256)] at hP hD
        refine x_loop (σ := (Nat)) (Wd := fun i : (Nat) => mW a1 a2 a3 a4 cI (fillF F1 (j * 256) i, te1, dn1, tl1, lf1, cu1, ac1, gn1) ut) (Lv := fun i : (Nat) => [(5, .int (nI i)), (4, .int (nI (j * 256))), (3, .int (nI 32)), (2, .int (bI b_4)), (0, .ref a1), (1, .int (nI j))]) (I := fun i : (Nat) => (i ≤ 32 * 8)) (μ := fun i : (Nat) => 32 * 8 - i) ?_ (0) (Nat.zero_le _) hP hD hS (lv_sub hl [0, 1, 2, 3, 4, 5] rfl)
        intro i H locs ls hI hP hD hS hl ih55
        have hi8 : (i ≤ 32 * 8) := hI
        have hP : va_P (dC, dI) vwCl (mW a1 a2 a3 a4 cI (fillF F1 (j * 256) i, te1, dn1, tl1, lf1, cu1, ac1, gn1) ut) _ := hP
        have hD : va_D A (mW a1 a2 a3 a4 cI (fillF F1 (j * 256) i, te1, dn1, tl1, lf1, cu1, ac1, gn1) ut) := hD
        have hl : lv_has ls 6 [(5, .int (nI i)), (4, .int (nI (j * 256))), (3, .int (nI 32)), (2, .int (bI b_4)), (0, .ref a1), (1, .int (nI j))] := hl
        refine lv_iload (pc := 55) hx hb dX0_eraseSector_55 (lv_at hl 0 rfl) ?_
        refine lv_iload_n (pc := 57) hx hb dX0_eraseSector_57 rfl (lv_at hl 2 rfl) ?_
        refine lv_bipush (pc := 58) (v := nI 8) hx hb dX0_eraseSector_58 (by decide) ?_
        refine lv_imul (pc := 60) hx hb dX0_eraseSector_60 ?_
        refine lv_cv (pk_mul 32 8) ?_
        refine lv_icmp_ge (pc := 61) (tgt := 94) hx hb dX0_eraseSector_61 (by decide) (fun c_7 => ?_) (fun c_7 => ?_)
        · skip
          have c_7 : (32 * 8) ≤ i := (nI_leI (a := (32 * 8)) (b := i) (by omega) (by omega)).mp c_7
          refine lv_iload_n (pc := 94) hx hb dX0_eraseSector_94 rfl (lv_at hl 3 rfl) ?_
          have hi9 : i = 32 * 8 := by omega
          subst hi9
          exact W.zret (v := bI b_4) hx hb hr (nbI b_4) (fun t ht hW => ⟨⟨bI b_4, (fillF F1 (j * 256) (32 * 8), te1, dn1, tl1, lf1, cu1, ac1, gn1), rfl, ⟨by show bI b_4 = bI (kBegin (F1, te, false, tl, lf, cu1, ac, gn)).2; rw [eb_4, kB_te], by show _ = (fillF F1 (j * 256) ((if (kBegin (F1, te, false, tl, lf, cu1, ac, gn)).2 = true then 32 else cu1) * 8), upd te j (te j + nI 1), (kBegin (F1, te, false, tl, lf, cu1, ac, gn)).1.2.2); rw [← kB_te (te1 := upd te j (te j + nI 1)), ← eb_4, c3, ht1, ← kB_te2 (te1 := upd te j (te j + nI 1)), ← eu_2]; rfl⟩, by show va_P _ _ _ t.heap; rw [ht]; exact hP, va_K.moved hW.alike hK, hD⟩, hS.F ht⟩) hS.2.2 dX0_eraseSector_95
        · skip
          have c_7 : ¬ (32 * 8) ≤ i := fun z => c_7 ((nI_leI (a := (32 * 8)) (b := i) (by omega) (by omega)).mpr z)
          refine lv_iload (pc := 64) hx hb dX0_eraseSector_64 (lv_at hl 1 rfl) ?_
          refine lv_iload (pc := 66) hx hb dX0_eraseSector_66 (lv_at hl 0 rfl) ?_
          refine lv_iadd (pc := 68) hx hb dX0_eraseSector_68 ?_
          refine lv_cv (nI_add (j * 256) i) ?_
          refine x_roi (pc := 69) (va_runS (As := [.int (nI ((j * 256) + i))]) (rest := []) ⟨hx, hb, hml, hown, hts⟩ (kX0_has l dC dI tt cI cB _ (nI ((j * 256) + i))) (va_cwS 1 hts gX0_eraseSector_X0_has rfl rfl rfl (by decide +kernel) ⟨Nat.le_of_ble_eq_true rfl, Nat.le_of_ble_eq_true rfl⟩) (x_preS hS hE hK hP hD [] rfl (by decide) (x_ro hS hA) xR0) rfl rfl hl.1 rfl (lv_room (Nat.le_of_ble_eq_true rfl)) dX0_eraseSector_69 ⟨Nat.le_of_ble_eq_true rfl, Nat.le_of_ble_eq_true rfl⟩) hS hA hP (fun r_8 H locs hr_8 hP hS => ?_)
          subst hr_8
          refine lv_if_eq (pc := 72) (tgt := 88) hx hb dX0_eraseSector_72 (by decide) (fun c5 => ?_) (fun c5 => ?_)
          · skip
            have c5 : inB 2816 (nI ((j * 256) + i)) = false := bI_0.mp c5
            exact absurd c5 (by rw [inB_nI (by omega) (by decide)]; decide)
          · skip
            have c5 : inB 2816 (nI ((j * 256) + i)) = true := bI_1.mp c5
            refine lv_aload_n (pc := 75) hx hb dX0_eraseSector_75 rfl (lv_at hl 4 rfl) ?_
            refine va_get (pc := 76) (D := (dC, dI)) (ci := 0) (v := .ref a2) (C := RX0) (T := TX0) (N := 9) hx hb hts (by decide +kernel) hown hK hP 0 rfl rfl 0 (by decide) (hts (.fieldLink RX0 9 "ScratchSwap$Memory" "bytes" "[I") (by decide +kernel)) (fun _ h9 => h9) rfl dX0_eraseSector_76 ?_
            refine lv_iload (pc := 79) hx hb dX0_eraseSector_79 (lv_at hl 1 rfl) ?_
            refine lv_iload (pc := 81) hx hb dX0_eraseSector_81 (lv_at hl 0 rfl) ?_
            refine lv_iadd (pc := 83) hx hb dX0_eraseSector_83 ?_
            refine lv_cv (nI_add (j * 256) i) ?_
            refine lv_sipush (pc := 84) (v := nI 255) hx hb dX0_eraseSector_84 (by decide) ?_
            refine lv_cv ub_m1.symm ?_
            refine x_ust (pc := 87) (k := (j * 256) + i) (F := fillF F1 (j * 256) i) (x := (-1)) hx hb hK hP hD hS 1 0 rfl rfl (by omega) (by decide) dX0_eraseSector_87 (fun H locs hP hD hS => ?_)
            have hP : va_P (dC, dI) vwCl (mW a1 a2 a3 a4 cI (va_up (fillF F1 (j * 256) i) ((j * 256) + i) (-1), te1, dn1, tl1, lf1, cu1, ac1, gn1) ut) _ := hP
            have hD : va_D A (mW a1 a2 a3 a4 cI (va_up (fillF F1 (j * 256) i) ((j * 256) + i) (-1), te1, dn1, tl1, lf1, cu1, ac1, gn1) ut) := hD
            refine lv_iinc (pc := 88) (v := nI (i + 1)) (lv' := [(5, .int (nI (i + 1))), (4, .int (nI (j * 256))), (3, .int (nI 32)), (2, .int (bI b_4)), (0, .ref a1), (1, .int (nI j))]) hx hb dX0_eraseSector_88 hl (k := 0) rfl (nI_inc i 1) (by decide) rfl (fun ls hl => ?_)
            refine lv_goto (pc := 91) (tgt := 55) hx hb dX0_eraseSector_91 (by decide) ?_
            rw [fillF_step] at hP hD
            exact ih55 (i + 1) H locs ls (by omega) (by first | omega | (simp only []; omega)) hP hD hS (lv_sub hl [0, 1, 2, 3, 4, 5] rfl)
    · skip
      have c2 : inB 11 (nI j) = false := bI_0.mp c2
      exact absurd c2 (by rw [inB_nI hj (by decide)]; decide)
set_option maxHeartbeats 4000000 in
set_option maxRecDepth 100000 in
theorem kX0_blankT (l : Launch) (dC : Nat → ClassId) (dI : Nat → Nat → Nat) (tt : Nat → Nat) (cI cB : ClassId) (sz : Nat) (a1 a2 a3 a4 : Nat) (k : K0) (ut : Nat → Int32) (t n : Nat) (G : Nat → Int8) (fr en : Nat) (hen : en ≤ n) (hn : n < 2 ^ 31) (hfr : fr + 8 < 2 ^ 31) : MetI (S := (Nat → Int32)) l yX0_isBlankWhenTaken wsX0_isBlankWhenTaken { frames := 0, cells := 0, slots := 0, locals := 0 } (dC, dI) [(cI, .int), (cB, .byte)] tt [(t, n, fun j => ub (G j))] sz (mW a1 a2 a3 a4 cI k ut) [.ref a1, .ref t, .int (nI fr), .int (nI en)] (fun u : (Nat → Int32) => mW a1 a2 a3 a4 cI k u) (fun r u => r = bI (blkTo (unitG G fr en) 8) ∧ ∀ j, j < 8 → u j = ub (unitG G fr en j)) := by
  refine Met.ofW (cc := cX0_isBlankWhenTaken) (maxL := 8) (ret := (some .boolean)) (by decide) rfl ?_
  intro p e s m args below meth c s₁ B hml hv
  obtain ⟨rfl, hsz, hP, hK, hD0, hE⟩ := hv
  have hx := B.exec
  have hb := B.bytes
  have hr := B.returns
  have hts := atoms_spec (ws := wsX0_isBlankWhenTaken) B.pre
  have hown : s.vm.findClass RX0 = some m.cls := findClass_of_methodNamed B.named
  have hlocks := B.notSynchronized
  subst hsz
  obtain ⟨F, te, dn, tl, lf, cu, ac, gn⟩ := k
  have hD := hD0.self (sz := s.heap.size)
  generalize hAe : va_A (mW a1 a2 a3 a4 cI (F, te, dn, tl, lf, cu, ac, gn) ut) s.heap.size = A at hD hE ⊢
  have hA : ∀ q : Nat, s.heap.size ≤ q → A q := fun q h => by rw [← hAe]; exact Or.inr h
  have hS : va_S A s.heap s.heap [] := va_S.rf
  have hl := lv_entry ([.ref a1, .ref t, .int (nI fr), .int (nI en)]) (n := 8) (Nat.le_of_ble_eq_true rfl)
  rw [lg_entry_eq]
  generalize (lg_sl ([.ref a1, .ref t, .int (nI fr), .int (nI en)]) ++ List.replicate (8 - (lg_sl ([.ref a1, .ref t, .int (nI fr), .int (nI en)])).length) Slot.unset).toArray = ls at hl ⊢
  have hl : lv_has ls 8 [(0, .ref a1), (1, .ref t), (2, .int (nI fr)), (3, .int (nI en))] := hl
  have hP : va_P (dC, dI) vwCl (mW a1 a2 a3 a4 cI (F, te, dn, tl, lf, cu, ac, gn) ut) s.heap := hP
  have hT : va_T .int t n (fun j => .int (ub (G j))) A s s.heap := hE.2.2.2.2.2.2.2.2 _ List.mem_cons_self
  refine lv_iconst (pc := 0) (v := nI 1) hx hb dX0_isBlankWhenTaken_0 (by decide) ?_
  refine lv_istore (pc := 1) (lv' := [(4, .int (nI 1)), (0, .ref a1), (1, .ref t), (2, .int (nI fr)), (3, .int (nI en))]) hx hb dX0_isBlankWhenTaken_1 hl (by decide) rfl (fun ls hl => ?_)
  refine lv_iconst (pc := 3) (v := nI 0) hx hb dX0_isBlankWhenTaken_3 (by decide) ?_
  refine lv_istore (pc := 4) (lv' := [(5, .int (nI 0)), (4, .int (nI 1)), (0, .ref a1), (1, .ref t), (2, .int (nI fr)), (3, .int (nI en))]) hx hb dX0_isBlankWhenTaken_4 hl (by decide) rfl (fun ls hl => ?_)
  have hl : lv_has ls 8 [(5, .int (nI 0)), (4, .int (bI (blkTo (unitG G fr en) 0))), (0, .ref a1), (1, .ref t), (2, .int (nI fr)), (3, .int (nI en))] := by rw [show blkTo (unitG G fr en) 0 = true from blkTo_0 _]; exact hl
  refine x_loop (σ := (Nat) × (Nat → Int32)) (Wd := fun x : (Nat) × (Nat → Int32) => match x with | (i, ut) => mW a1 a2 a3 a4 cI (F, te, dn, tl, lf, cu, ac, gn) ut) (Lv := fun x : (Nat) × (Nat → Int32) => match x with | (i, ut) => [(5, .int (nI i)), (4, .int (bI (blkTo (unitG G fr en) i))), (0, .ref a1), (1, .ref t), (2, .int (nI fr)), (3, .int (nI en))]) (I := fun x : (Nat) × (Nat → Int32) => match x with | (i, ut) => (i ≤ 8) ∧ (∀ j, j < i → ut j = ub (unitG G fr en j))) (μ := fun x : (Nat) × (Nat → Int32) => match x with | (i, ut) => 8 - i) ?_ (0, ut) ⟨by omega, fun j hj => absurd hj (Nat.not_lt_zero j)⟩ hP hD hS (lv_sub hl [0, 1, 2, 3, 4, 5] rfl)
  intro x H locs ls hI hP hD hS hl ih6
  obtain ⟨i, ut⟩ := x
  obtain ⟨hi8, hu⟩ : (i ≤ 8) ∧ (∀ j, j < i → ut j = ub (unitG G fr en j)) := hI
  have hP : va_P (dC, dI) vwCl (mW a1 a2 a3 a4 cI (F, te, dn, tl, lf, cu, ac, gn) ut) _ := hP
  have hD : va_D A (mW a1 a2 a3 a4 cI (F, te, dn, tl, lf, cu, ac, gn) ut) := hD
  have hl : lv_has ls 8 [(5, .int (nI i)), (4, .int (bI (blkTo (unitG G fr en) i))), (0, .ref a1), (1, .ref t), (2, .int (nI fr)), (3, .int (nI en))] := hl
  refine lv_iload (pc := 6) hx hb dX0_isBlankWhenTaken_6 (lv_at hl 0 rfl) ?_
  refine lv_bipush (pc := 8) (v := nI 8) hx hb dX0_isBlankWhenTaken_8 (by decide) ?_
  refine lv_icmp_ge (pc := 10) (tgt := 101) hx hb dX0_isBlankWhenTaken_10 (by decide) (fun c_1 => ?_) (fun c_1 => ?_)
  · skip
    have c_1 : 8 ≤ i := (nI_leI (a := 8) (b := i) (by omega) (by omega)).mp c_1
    refine lv_iload (pc := 101) hx hb dX0_isBlankWhenTaken_101 (lv_at hl 1 rfl) ?_
    have hi9 : i = 8 := by omega
    subst hi9
    exact W.zret (v := bI (blkTo (unitG G fr en) 8)) hx hb hr (nbI (blkTo (unitG G fr en) 8)) (fun t ht hW => ⟨⟨bI (blkTo (unitG G fr en) 8), ut, rfl, ⟨rfl, hu⟩, by show va_P _ _ _ t.heap; rw [ht]; exact hP, va_K.moved hW.alike hK, hD⟩, hS.F ht⟩) hS.2.2 dX0_isBlankWhenTaken_103
  · skip
    have c_1 : ¬ 8 ≤ i := fun z => c_1 ((nI_leI (a := 8) (b := i) (by omega) (by omega)).mpr z)
    refine lv_iload_n (pc := 13) hx hb dX0_isBlankWhenTaken_13 rfl (lv_at hl 4 rfl) ?_
    refine lv_iload (pc := 14) hx hb dX0_isBlankWhenTaken_14 (lv_at hl 0 rfl) ?_
    refine lv_iadd (pc := 16) hx hb dX0_isBlankWhenTaken_16 ?_
    refine lv_cv (nI_add fr i) ?_
    refine lv_istore (pc := 17) (lv' := [(6, .int (nI (fr + i))), (5, .int (nI i)), (4, .int (bI (blkTo (unitG G fr en) i))), (0, .ref a1), (1, .ref t), (2, .int (nI fr)), (3, .int (nI en))]) hx hb dX0_isBlankWhenTaken_17 hl (by decide) rfl (fun ls hl => ?_)
    refine lv_aload_n (pc := 19) hx hb dX0_isBlankWhenTaken_19 rfl (lv_at hl 4 rfl) ?_
    refine lv_ifnull (pc := 20) hx hb dX0_isBlankWhenTaken_20 ?_
    refine lv_iload (pc := 23) hx hb dX0_isBlankWhenTaken_23 (lv_at hl 0 rfl) ?_
    refine lv_if_lt (pc := 25) (tgt := 45) hx hb dX0_isBlankWhenTaken_25 (by decide) (fun c0 => ?_) (fun c0 => ?_)
    · skip
      have c0 : (fr + i) < 0 := (nI_ltI (a := (fr + i)) (b := 0) (by omega) (by omega)).mp c0
      exfalso; omega
    · skip
      have c0 : ¬ (fr + i) < 0 := fun z => c0 ((nI_ltI (a := (fr + i)) (b := 0) (by omega) (by omega)).mpr z)
      refine lv_iload (pc := 28) hx hb dX0_isBlankWhenTaken_28 (lv_at hl 0 rfl) ?_
      refine lv_iload_n (pc := 30) hx hb dX0_isBlankWhenTaken_30 rfl (lv_at hl 6 rfl) ?_
      refine lv_icmp_ge (pc := 31) (tgt := 45) hx hb dX0_isBlankWhenTaken_31 (by decide) (fun c1 => ?_) (fun c1 => ?_)
      · skip
        have c1 : en ≤ (fr + i) := (nI_leI (a := en) (b := (fr + i)) (by omega) (by omega)).mp c1
        have g9 : unitG G fr en i = -1 := by unfold unitG; rw [if_neg (by omega)]
        refine lv_iconst (pc := 45) (v := nI 0) hx hb dX0_isBlankWhenTaken_45 (by decide) ?_
        refine lv_istore (pc := 46) (lv' := [(7, .int (nI 0)), (6, .int (nI (fr + i))), (5, .int (nI i)), (4, .int (bI (blkTo (unitG G fr en) i))), (0, .ref a1), (1, .ref t), (2, .int (nI fr)), (3, .int (nI en))]) hx hb dX0_isBlankWhenTaken_46 hl (by decide) rfl (fun ls hl => ?_)
        refine lv_aload_n (pc := 48) hx hb dX0_isBlankWhenTaken_48 rfl (lv_at hl 4 rfl) ?_
        refine va_get (pc := 49) (D := (dC, dI)) (ci := 0) (v := .ref a4) (C := RX0) (T := TX0) (N := 9) hx hb hts (by decide +kernel) hown hK hP 0 rfl rfl 2 (by decide) (hts (.fieldLink RX0 18 "ScratchSwap$Memory" "unitTaken" "[I") (by decide +kernel)) (fun _ h9 => h9) rfl dX0_isBlankWhenTaken_49 ?_
        refine lv_iload (pc := 52) hx hb dX0_isBlankWhenTaken_52 (lv_at hl 2 rfl) ?_
        refine lv_iload (pc := 54) hx hb dX0_isBlankWhenTaken_54 (lv_at hl 0 rfl) ?_
        refine lv_if_eq (pc := 56) (tgt := 66) hx hb dX0_isBlankWhenTaken_56 (by decide) (fun c3 => ?_) (fun c3 => ?_)
        · skip
          have c3 : 0 = 0 := (nI_eq (a := 0) (b := 0) (by omega) (by omega)).mp c3
          refine lv_sipush (pc := 66) (v := nI 255) hx hb dX0_isBlankWhenTaken_66 (by decide) ?_
          refine x_iast (pc := 69) (k := i) (f := ut) hx hb hK hP hD hS 3 0 rfl rfl (by omega) (by decide) dX0_isBlankWhenTaken_69 (fun H locs hP hD hS => ?_)
          have hP : va_P (dC, dI) vwCl (mW a1 a2 a3 a4 cI (F, te, dn, tl, lf, cu, ac, gn) (upd ut i (nI 255))) _ := hP
          have hD : va_D A (mW a1 a2 a3 a4 cI (F, te, dn, tl, lf, cu, ac, gn) (upd ut i (nI 255))) := hD
          refine lv_iload (pc := 70) hx hb dX0_isBlankWhenTaken_70 (lv_at hl 3 rfl) ?_
          refine lv_if_eq (pc := 72) (tgt := 92) hx hb dX0_isBlankWhenTaken_72 (by decide) (fun c7 => ?_) (fun c7 => ?_)
          · skip
            have c7 : blkTo (unitG G fr en) i = false := bI_0.mp c7
            refine lv_iconst (pc := 92) (v := nI 0) hx hb dX0_isBlankWhenTaken_92 (by decide) ?_
            refine lv_cv (y := bI (blkTo (unitG G fr en) (i + 1))) (by rw [show blkTo (unitG G fr en) (i + 1) = false from by rw [blkTo_s]; first | (simp [c7, c9]; done) | (simp [c7]; done)]; rfl) ?_
            refine lv_istore (pc := 93) (lv' := [(4, .int (bI (blkTo (unitG G fr en) (i + 1)))), (7, .int (nI 0)), (6, .int (nI (fr + i))), (5, .int (nI i)), (0, .ref a1), (1, .ref t), (2, .int (nI fr)), (3, .int (nI en))]) hx hb dX0_isBlankWhenTaken_93 hl (by decide) rfl (fun ls hl => ?_)
            refine lv_iinc (pc := 95) (v := nI (i + 1)) (lv' := [(5, .int (nI (i + 1))), (4, .int (bI (blkTo (unitG G fr en) (i + 1)))), (7, .int (nI 0)), (6, .int (nI (fr + i))), (0, .ref a1), (1, .ref t), (2, .int (nI fr)), (3, .int (nI en))]) hx hb dX0_isBlankWhenTaken_95 hl (k := 3) rfl (nI_inc i 1) (by decide) rfl (fun ls hl => ?_)
            refine lv_goto (pc := 98) (tgt := 6) hx hb dX0_isBlankWhenTaken_98 (by decide) ?_
            have hu9 : ∀ j, j < i + 1 → (upd ut i (nI 255)) j = ub (unitG G fr en j) := by
              intro j hj
              unfold upd
              by_cases hji : j = i
              · rw [if_pos hji, hji, g9] ; exact ub_m1.symm
              · rw [if_neg hji]; exact hu j (by omega)
            exact ih6 (i + 1, upd ut i (nI 255)) H locs ls ⟨by omega, hu9⟩ (by first | omega | (simp only []; omega)) hP hD hS (lv_sub hl [0, 1, 4, 5, 6, 7] rfl)
          · skip
            have c7 : blkTo (unitG G fr en) i = true := bI_1.mp c7
            refine lv_aload_n (pc := 75) hx hb dX0_isBlankWhenTaken_75 rfl (lv_at hl 4 rfl) ?_
            refine va_get (pc := 76) (D := (dC, dI)) (ci := 0) (v := .ref a4) (C := RX0) (T := TX0) (N := 9) hx hb hts (by decide +kernel) hown hK hP 0 rfl rfl 2 (by decide) (hts (.fieldLink RX0 18 "ScratchSwap$Memory" "unitTaken" "[I") (by decide +kernel)) (fun _ h9 => h9) rfl dX0_isBlankWhenTaken_76 ?_
            refine lv_iload (pc := 79) hx hb dX0_isBlankWhenTaken_79 (lv_at hl 2 rfl) ?_
            refine x_iald (pc := 81) (k := i) (f := upd ut i (nI 255)) hx hb hK hP 3 0 rfl rfl (by omega) (by decide) dX0_isBlankWhenTaken_81 ?_
            refine lv_sipush (pc := 82) (v := nI 255) hx hb dX0_isBlankWhenTaken_82 (by decide) ?_
            refine lv_icmp_ne (pc := 85) (tgt := 92) hx hb dX0_isBlankWhenTaken_85 (by decide) (fun c8 => ?_) (fun c8 => ?_)
            · skip
              have c9 : ¬ unitG G fr en i = -1 := by
                have e9 : (upd ut i (nI 255)) i = ub (unitG G fr en i) := by unfold upd; rw [if_pos rfl, g9]; exact ub_m1.symm
                intro z; apply c8; rw [e9, z]; exact ub_m1
              refine lv_iconst (pc := 92) (v := nI 0) hx hb dX0_isBlankWhenTaken_92 (by decide) ?_
              refine lv_cv (y := bI (blkTo (unitG G fr en) (i + 1))) (by rw [show blkTo (unitG G fr en) (i + 1) = false from by rw [blkTo_s]; first | (simp [c7, c9]; done) | (simp [c7]; done)]; rfl) ?_
              refine lv_istore (pc := 93) (lv' := [(4, .int (bI (blkTo (unitG G fr en) (i + 1)))), (7, .int (nI 0)), (6, .int (nI (fr + i))), (5, .int (nI i)), (0, .ref a1), (1, .ref t), (2, .int (nI fr)), (3, .int (nI en))]) hx hb dX0_isBlankWhenTaken_93 hl (by decide) rfl (fun ls hl => ?_)
              refine lv_iinc (pc := 95) (v := nI (i + 1)) (lv' := [(5, .int (nI (i + 1))), (4, .int (bI (blkTo (unitG G fr en) (i + 1)))), (7, .int (nI 0)), (6, .int (nI (fr + i))), (0, .ref a1), (1, .ref t), (2, .int (nI fr)), (3, .int (nI en))]) hx hb dX0_isBlankWhenTaken_95 hl (k := 3) rfl (nI_inc i 1) (by decide) rfl (fun ls hl => ?_)
              refine lv_goto (pc := 98) (tgt := 6) hx hb dX0_isBlankWhenTaken_98 (by decide) ?_
              have hu9 : ∀ j, j < i + 1 → (upd ut i (nI 255)) j = ub (unitG G fr en j) := by
                intro j hj
                unfold upd
                by_cases hji : j = i
                · rw [if_pos hji, hji, g9] ; exact ub_m1.symm
                · rw [if_neg hji]; exact hu j (by omega)
              exact ih6 (i + 1, upd ut i (nI 255)) H locs ls ⟨by omega, hu9⟩ (by first | omega | (simp only []; omega)) hP hD hS (lv_sub hl [0, 1, 4, 5, 6, 7] rfl)
            · skip
              have c9 : unitG G fr en i = -1 := by
                have e9 : (upd ut i (nI 255)) i = ub (unitG G fr en i) := by unfold upd; rw [if_pos rfl, g9]; exact ub_m1.symm
                rw [e9, ← ub_m1] at c8; exact ub_inj.mp c8
              refine lv_iconst (pc := 88) (v := nI 1) hx hb dX0_isBlankWhenTaken_88 (by decide) ?_
              refine lv_cv (y := bI (blkTo (unitG G fr en) (i + 1))) (by rw [show blkTo (unitG G fr en) (i + 1) = true from by rw [blkTo_s]; first | (simp [c7, c9]; done) | (simp [c7]; done)]; rfl) ?_
              refine lv_goto (pc := 89) (tgt := 93) hx hb dX0_isBlankWhenTaken_89 (by decide) ?_
              refine lv_istore (pc := 93) (lv' := [(4, .int (bI (blkTo (unitG G fr en) (i + 1)))), (7, .int (nI 0)), (6, .int (nI (fr + i))), (5, .int (nI i)), (0, .ref a1), (1, .ref t), (2, .int (nI fr)), (3, .int (nI en))]) hx hb dX0_isBlankWhenTaken_93 hl (by decide) rfl (fun ls hl => ?_)
              refine lv_iinc (pc := 95) (v := nI (i + 1)) (lv' := [(5, .int (nI (i + 1))), (4, .int (bI (blkTo (unitG G fr en) (i + 1)))), (7, .int (nI 0)), (6, .int (nI (fr + i))), (0, .ref a1), (1, .ref t), (2, .int (nI fr)), (3, .int (nI en))]) hx hb dX0_isBlankWhenTaken_95 hl (k := 3) rfl (nI_inc i 1) (by decide) rfl (fun ls hl => ?_)
              refine lv_goto (pc := 98) (tgt := 6) hx hb dX0_isBlankWhenTaken_98 (by decide) ?_
              have hu9 : ∀ j, j < i + 1 → (upd ut i (nI 255)) j = ub (unitG G fr en j) := by
                intro j hj
                unfold upd
                by_cases hji : j = i
                · rw [if_pos hji, hji, g9] ; exact ub_m1.symm
                · rw [if_neg hji]; exact hu j (by omega)
              exact ih6 (i + 1, upd ut i (nI 255)) H locs ls ⟨by omega, hu9⟩ (by first | omega | (simp only []; omega)) hP hD hS (lv_sub hl [0, 1, 4, 5, 6, 7] rfl)
        · skip
          have c3 : ¬ 0 = 0 := fun z => c3 ((nI_eq (a := 0) (b := 0) (by omega) (by omega)).mpr z)
          exfalso; omega
      · skip
        have c1 : ¬ en ≤ (fr + i) := fun z => c1 ((nI_leI (a := en) (b := (fr + i)) (by omega) (by omega)).mpr z)
        have g9 : unitG G fr en i = G (fr + i) := by unfold unitG; rw [if_pos (by omega)]
        refine lv_iload (pc := 34) hx hb dX0_isBlankWhenTaken_34 (lv_at hl 0 rfl) ?_
        refine lv_aload_n (pc := 36) hx hb dX0_isBlankWhenTaken_36 rfl (lv_at hl 4 rfl) ?_
        refine va_tlen (pc := 37) (v := nI n) hx hb hT hS rfl dX0_isBlankWhenTaken_37 ?_
        refine lv_icmp_ge (pc := 38) (tgt := 45) hx hb dX0_isBlankWhenTaken_38 (by decide) (fun c2 => ?_) (fun c2 => ?_)
        · skip
          have c2 : n ≤ (fr + i) := (nI_leI (a := n) (b := (fr + i)) (by omega) (by omega)).mp c2
          exfalso; omega
        · skip
          have c2 : ¬ n ≤ (fr + i) := fun z => c2 ((nI_leI (a := n) (b := (fr + i)) (by omega) (by omega)).mpr z)
          refine lv_iconst (pc := 41) (v := nI 1) hx hb dX0_isBlankWhenTaken_41 (by decide) ?_
          refine lv_goto (pc := 42) (tgt := 46) hx hb dX0_isBlankWhenTaken_42 (by decide) ?_
          refine lv_istore (pc := 46) (lv' := [(7, .int (nI 1)), (6, .int (nI (fr + i))), (5, .int (nI i)), (4, .int (bI (blkTo (unitG G fr en) i))), (0, .ref a1), (1, .ref t), (2, .int (nI fr)), (3, .int (nI en))]) hx hb dX0_isBlankWhenTaken_46 hl (by decide) rfl (fun ls hl => ?_)
          refine lv_aload_n (pc := 48) hx hb dX0_isBlankWhenTaken_48 rfl (lv_at hl 4 rfl) ?_
          refine va_get (pc := 49) (D := (dC, dI)) (ci := 0) (v := .ref a4) (C := RX0) (T := TX0) (N := 9) hx hb hts (by decide +kernel) hown hK hP 0 rfl rfl 2 (by decide) (hts (.fieldLink RX0 18 "ScratchSwap$Memory" "unitTaken" "[I") (by decide +kernel)) (fun _ h9 => h9) rfl dX0_isBlankWhenTaken_49 ?_
          refine lv_iload (pc := 52) hx hb dX0_isBlankWhenTaken_52 (lv_at hl 2 rfl) ?_
          refine lv_iload (pc := 54) hx hb dX0_isBlankWhenTaken_54 (lv_at hl 0 rfl) ?_
          refine lv_if_eq (pc := 56) (tgt := 66) hx hb dX0_isBlankWhenTaken_56 (by decide) (fun c3 => ?_) (fun c3 => ?_)
          · skip
            have c3 : 1 = 0 := (nI_eq (a := 1) (b := 0) (by omega) (by omega)).mp c3
            exfalso; omega
          · skip
            have c3 : ¬ 1 = 0 := fun z => c3 ((nI_eq (a := 1) (b := 0) (by omega) (by omega)).mpr z)
            refine lv_aload_n (pc := 59) hx hb dX0_isBlankWhenTaken_59 rfl (lv_at hl 5 rfl) ?_
            refine lv_iload (pc := 60) hx hb dX0_isBlankWhenTaken_60 (lv_at hl 1 rfl) ?_
            refine x_ti (pc := 62) (k := fr + i) hx hb hT hS (by omega) (by omega) dX0_isBlankWhenTaken_62 ?_
            refine lv_goto (pc := 63) (tgt := 69) hx hb dX0_isBlankWhenTaken_63 (by decide) ?_
            refine x_iast (pc := 69) (k := i) (f := ut) hx hb hK hP hD hS 3 0 rfl rfl (by omega) (by decide) dX0_isBlankWhenTaken_69 (fun H locs hP hD hS => ?_)
            have hP : va_P (dC, dI) vwCl (mW a1 a2 a3 a4 cI (F, te, dn, tl, lf, cu, ac, gn) (upd ut i (ub (G (fr + i))))) _ := hP
            have hD : va_D A (mW a1 a2 a3 a4 cI (F, te, dn, tl, lf, cu, ac, gn) (upd ut i (ub (G (fr + i))))) := hD
            refine lv_iload (pc := 70) hx hb dX0_isBlankWhenTaken_70 (lv_at hl 3 rfl) ?_
            refine lv_if_eq (pc := 72) (tgt := 92) hx hb dX0_isBlankWhenTaken_72 (by decide) (fun c7 => ?_) (fun c7 => ?_)
            · skip
              have c7 : blkTo (unitG G fr en) i = false := bI_0.mp c7
              refine lv_iconst (pc := 92) (v := nI 0) hx hb dX0_isBlankWhenTaken_92 (by decide) ?_
              refine lv_cv (y := bI (blkTo (unitG G fr en) (i + 1))) (by rw [show blkTo (unitG G fr en) (i + 1) = false from by rw [blkTo_s]; first | (simp [c7, c9]; done) | (simp [c7]; done)]; rfl) ?_
              refine lv_istore (pc := 93) (lv' := [(4, .int (bI (blkTo (unitG G fr en) (i + 1)))), (7, .int (nI 1)), (6, .int (nI (fr + i))), (5, .int (nI i)), (0, .ref a1), (1, .ref t), (2, .int (nI fr)), (3, .int (nI en))]) hx hb dX0_isBlankWhenTaken_93 hl (by decide) rfl (fun ls hl => ?_)
              refine lv_iinc (pc := 95) (v := nI (i + 1)) (lv' := [(5, .int (nI (i + 1))), (4, .int (bI (blkTo (unitG G fr en) (i + 1)))), (7, .int (nI 1)), (6, .int (nI (fr + i))), (0, .ref a1), (1, .ref t), (2, .int (nI fr)), (3, .int (nI en))]) hx hb dX0_isBlankWhenTaken_95 hl (k := 3) rfl (nI_inc i 1) (by decide) rfl (fun ls hl => ?_)
              refine lv_goto (pc := 98) (tgt := 6) hx hb dX0_isBlankWhenTaken_98 (by decide) ?_
              have hu9 : ∀ j, j < i + 1 → (upd ut i (ub (G (fr + i)))) j = ub (unitG G fr en j) := by
                intro j hj
                unfold upd
                by_cases hji : j = i
                · rw [if_pos hji, hji, g9]
                · rw [if_neg hji]; exact hu j (by omega)
              exact ih6 (i + 1, upd ut i (ub (G (fr + i)))) H locs ls ⟨by omega, hu9⟩ (by first | omega | (simp only []; omega)) hP hD hS (lv_sub hl [0, 1, 4, 5, 6, 7] rfl)
            · skip
              have c7 : blkTo (unitG G fr en) i = true := bI_1.mp c7
              refine lv_aload_n (pc := 75) hx hb dX0_isBlankWhenTaken_75 rfl (lv_at hl 4 rfl) ?_
              refine va_get (pc := 76) (D := (dC, dI)) (ci := 0) (v := .ref a4) (C := RX0) (T := TX0) (N := 9) hx hb hts (by decide +kernel) hown hK hP 0 rfl rfl 2 (by decide) (hts (.fieldLink RX0 18 "ScratchSwap$Memory" "unitTaken" "[I") (by decide +kernel)) (fun _ h9 => h9) rfl dX0_isBlankWhenTaken_76 ?_
              refine lv_iload (pc := 79) hx hb dX0_isBlankWhenTaken_79 (lv_at hl 2 rfl) ?_
              refine x_iald (pc := 81) (k := i) (f := upd ut i (ub (G (fr + i)))) hx hb hK hP 3 0 rfl rfl (by omega) (by decide) dX0_isBlankWhenTaken_81 ?_
              refine lv_sipush (pc := 82) (v := nI 255) hx hb dX0_isBlankWhenTaken_82 (by decide) ?_
              refine lv_icmp_ne (pc := 85) (tgt := 92) hx hb dX0_isBlankWhenTaken_85 (by decide) (fun c8 => ?_) (fun c8 => ?_)
              · skip
                have c9 : ¬ unitG G fr en i = -1 := by
                  have e9 : (upd ut i (ub (G (fr + i)))) i = ub (unitG G fr en i) := by unfold upd; rw [if_pos rfl, g9]
                  intro z; apply c8; rw [e9, z]; exact ub_m1
                refine lv_iconst (pc := 92) (v := nI 0) hx hb dX0_isBlankWhenTaken_92 (by decide) ?_
                refine lv_cv (y := bI (blkTo (unitG G fr en) (i + 1))) (by rw [show blkTo (unitG G fr en) (i + 1) = false from by rw [blkTo_s]; first | (simp [c7, c9]; done) | (simp [c7]; done)]; rfl) ?_
                refine lv_istore (pc := 93) (lv' := [(4, .int (bI (blkTo (unitG G fr en) (i + 1)))), (7, .int (nI 1)), (6, .int (nI (fr + i))), (5, .int (nI i)), (0, .ref a1), (1, .ref t), (2, .int (nI fr)), (3, .int (nI en))]) hx hb dX0_isBlankWhenTaken_93 hl (by decide) rfl (fun ls hl => ?_)
                refine lv_iinc (pc := 95) (v := nI (i + 1)) (lv' := [(5, .int (nI (i + 1))), (4, .int (bI (blkTo (unitG G fr en) (i + 1)))), (7, .int (nI 1)), (6, .int (nI (fr + i))), (0, .ref a1), (1, .ref t), (2, .int (nI fr)), (3, .int (nI en))]) hx hb dX0_isBlankWhenTaken_95 hl (k := 3) rfl (nI_inc i 1) (by decide) rfl (fun ls hl => ?_)
                refine lv_goto (pc := 98) (tgt := 6) hx hb dX0_isBlankWhenTaken_98 (by decide) ?_
                have hu9 : ∀ j, j < i + 1 → (upd ut i (ub (G (fr + i)))) j = ub (unitG G fr en j) := by
                  intro j hj
                  unfold upd
                  by_cases hji : j = i
                  · rw [if_pos hji, hji, g9]
                  · rw [if_neg hji]; exact hu j (by omega)
                exact ih6 (i + 1, upd ut i (ub (G (fr + i)))) H locs ls ⟨by omega, hu9⟩ (by first | omega | (simp only []; omega)) hP hD hS (lv_sub hl [0, 1, 4, 5, 6, 7] rfl)
              · skip
                have c9 : unitG G fr en i = -1 := by
                  have e9 : (upd ut i (ub (G (fr + i)))) i = ub (unitG G fr en i) := by unfold upd; rw [if_pos rfl, g9]
                  rw [e9, ← ub_m1] at c8; exact ub_inj.mp c8
                refine lv_iconst (pc := 88) (v := nI 1) hx hb dX0_isBlankWhenTaken_88 (by decide) ?_
                refine lv_cv (y := bI (blkTo (unitG G fr en) (i + 1))) (by rw [show blkTo (unitG G fr en) (i + 1) = true from by rw [blkTo_s]; first | (simp [c7, c9]; done) | (simp [c7]; done)]; rfl) ?_
                refine lv_goto (pc := 89) (tgt := 93) hx hb dX0_isBlankWhenTaken_89 (by decide) ?_
                refine lv_istore (pc := 93) (lv' := [(4, .int (bI (blkTo (unitG G fr en) (i + 1)))), (7, .int (nI 1)), (6, .int (nI (fr + i))), (5, .int (nI i)), (0, .ref a1), (1, .ref t), (2, .int (nI fr)), (3, .int (nI en))]) hx hb dX0_isBlankWhenTaken_93 hl (by decide) rfl (fun ls hl => ?_)
                refine lv_iinc (pc := 95) (v := nI (i + 1)) (lv' := [(5, .int (nI (i + 1))), (4, .int (bI (blkTo (unitG G fr en) (i + 1)))), (7, .int (nI 1)), (6, .int (nI (fr + i))), (0, .ref a1), (1, .ref t), (2, .int (nI fr)), (3, .int (nI en))]) hx hb dX0_isBlankWhenTaken_95 hl (k := 3) rfl (nI_inc i 1) (by decide) rfl (fun ls hl => ?_)
                refine lv_goto (pc := 98) (tgt := 6) hx hb dX0_isBlankWhenTaken_98 (by decide) ?_
                have hu9 : ∀ j, j < i + 1 → (upd ut i (ub (G (fr + i)))) j = ub (unitG G fr en j) := by
                  intro j hj
                  unfold upd
                  by_cases hji : j = i
                  · rw [if_pos hji, hji, g9]
                  · rw [if_neg hji]; exact hu j (by omega)
                exact ih6 (i + 1, upd ut i (ub (G (fr + i)))) H locs ls ⟨by omega, hu9⟩ (by first | omega | (simp only []; omega)) hP hD hS (lv_sub hl [0, 1, 4, 5, 6, 7] rfl)
set_option maxHeartbeats 4000000 in
set_option maxRecDepth 100000 in
theorem kX0_blankA (l : Launch) (dC : Nat → ClassId) (dI : Nat → Nat → Nat) (tt : Nat → Nat) (cI cB : ClassId) (sz : Nat) (a1 a2 a3 a4 : Nat) (k : K0) (ut : Nat → Int32) (fr en : Nat) (hen : en ≤ 2816) (hfr : fr + 8 < 2 ^ 31) : MetI (S := (Nat → Int32)) l yX0_isBlankWhenTaken wsX0_isBlankWhenTaken { frames := 0, cells := 0, slots := 0, locals := 0 } (dC, dI) [(cI, .int), (cB, .byte)] tt [] sz (mW a1 a2 a3 a4 cI k ut) [.ref a1, .ref a2, .int (nI fr), .int (nI en)] (fun u : (Nat → Int32) => mW a1 a2 a3 a4 cI k u) (fun r u => r = bI (blkTo (unitG k.1 fr en) 8) ∧ ∀ j, j < 8 → u j = ub (unitG k.1 fr en j)) := by
  refine Met.ofW (cc := cX0_isBlankWhenTaken) (maxL := 8) (ret := (some .boolean)) (by decide) rfl ?_
  intro p e s m args below meth c s₁ B hml hv
  obtain ⟨rfl, hsz, hP, hK, hD0, hE⟩ := hv
  have hx := B.exec
  have hb := B.bytes
  have hr := B.returns
  have hts := atoms_spec (ws := wsX0_isBlankWhenTaken) B.pre
  have hown : s.vm.findClass RX0 = some m.cls := findClass_of_methodNamed B.named
  have hlocks := B.notSynchronized
  subst hsz
  obtain ⟨G, te, dn, tl, lf, cu, ac, gn⟩ := k
  have hD := hD0.self (sz := s.heap.size)
  generalize hAe : va_A (mW a1 a2 a3 a4 cI (G, te, dn, tl, lf, cu, ac, gn) ut) s.heap.size = A at hD hE ⊢
  have hA : ∀ q : Nat, s.heap.size ≤ q → A q := fun q h => by rw [← hAe]; exact Or.inr h
  have hS : va_S A s.heap s.heap [] := va_S.rf
  have hl := lv_entry ([.ref a1, .ref a2, .int (nI fr), .int (nI en)]) (n := 8) (Nat.le_of_ble_eq_true rfl)
  rw [lg_entry_eq]
  generalize (lg_sl ([.ref a1, .ref a2, .int (nI fr), .int (nI en)]) ++ List.replicate (8 - (lg_sl ([.ref a1, .ref a2, .int (nI fr), .int (nI en)])).length) Slot.unset).toArray = ls at hl ⊢
  have hl : lv_has ls 8 [(0, .ref a1), (1, .ref a2), (2, .int (nI fr)), (3, .int (nI en))] := hl
  have hP : va_P (dC, dI) vwCl (mW a1 a2 a3 a4 cI (G, te, dn, tl, lf, cu, ac, gn) ut) s.heap := hP
  refine lv_iconst (pc := 0) (v := nI 1) hx hb dX0_isBlankWhenTaken_0 (by decide) ?_
  refine lv_istore (pc := 1) (lv' := [(4, .int (nI 1)), (0, .ref a1), (1, .ref a2), (2, .int (nI fr)), (3, .int (nI en))]) hx hb dX0_isBlankWhenTaken_1 hl (by decide) rfl (fun ls hl => ?_)
  refine lv_iconst (pc := 3) (v := nI 0) hx hb dX0_isBlankWhenTaken_3 (by decide) ?_
  refine lv_istore (pc := 4) (lv' := [(5, .int (nI 0)), (4, .int (nI 1)), (0, .ref a1), (1, .ref a2), (2, .int (nI fr)), (3, .int (nI en))]) hx hb dX0_isBlankWhenTaken_4 hl (by decide) rfl (fun ls hl => ?_)
  have hl : lv_has ls 8 [(5, .int (nI 0)), (4, .int (bI (blkTo (unitG G fr en) 0))), (0, .ref a1), (1, .ref a2), (2, .int (nI fr)), (3, .int (nI en))] := by rw [show blkTo (unitG G fr en) 0 = true from blkTo_0 _]; exact hl
  refine x_loop (σ := (Nat) × (Nat → Int32)) (Wd := fun x : (Nat) × (Nat → Int32) => match x with | (i, ut) => mW a1 a2 a3 a4 cI (G, te, dn, tl, lf, cu, ac, gn) ut) (Lv := fun x : (Nat) × (Nat → Int32) => match x with | (i, ut) => [(5, .int (nI i)), (4, .int (bI (blkTo (unitG G fr en) i))), (0, .ref a1), (1, .ref a2), (2, .int (nI fr)), (3, .int (nI en))]) (I := fun x : (Nat) × (Nat → Int32) => match x with | (i, ut) => (i ≤ 8) ∧ (∀ j, j < i → ut j = ub (unitG G fr en j))) (μ := fun x : (Nat) × (Nat → Int32) => match x with | (i, ut) => 8 - i) ?_ (0, ut) ⟨by omega, fun j hj => absurd hj (Nat.not_lt_zero j)⟩ hP hD hS (lv_sub hl [0, 1, 2, 3, 4, 5] rfl)
  intro x H locs ls hI hP hD hS hl ih6
  obtain ⟨i, ut⟩ := x
  obtain ⟨hi8, hu⟩ : (i ≤ 8) ∧ (∀ j, j < i → ut j = ub (unitG G fr en j)) := hI
  have hP : va_P (dC, dI) vwCl (mW a1 a2 a3 a4 cI (G, te, dn, tl, lf, cu, ac, gn) ut) _ := hP
  have hD : va_D A (mW a1 a2 a3 a4 cI (G, te, dn, tl, lf, cu, ac, gn) ut) := hD
  have hl : lv_has ls 8 [(5, .int (nI i)), (4, .int (bI (blkTo (unitG G fr en) i))), (0, .ref a1), (1, .ref a2), (2, .int (nI fr)), (3, .int (nI en))] := hl
  refine lv_iload (pc := 6) hx hb dX0_isBlankWhenTaken_6 (lv_at hl 0 rfl) ?_
  refine lv_bipush (pc := 8) (v := nI 8) hx hb dX0_isBlankWhenTaken_8 (by decide) ?_
  refine lv_icmp_ge (pc := 10) (tgt := 101) hx hb dX0_isBlankWhenTaken_10 (by decide) (fun c_1 => ?_) (fun c_1 => ?_)
  · skip
    have c_1 : 8 ≤ i := (nI_leI (a := 8) (b := i) (by omega) (by omega)).mp c_1
    refine lv_iload (pc := 101) hx hb dX0_isBlankWhenTaken_101 (lv_at hl 1 rfl) ?_
    have hi9 : i = 8 := by omega
    subst hi9
    exact W.zret (v := bI (blkTo (unitG G fr en) 8)) hx hb hr (nbI (blkTo (unitG G fr en) 8)) (fun t ht hW => ⟨⟨bI (blkTo (unitG G fr en) 8), ut, rfl, ⟨rfl, hu⟩, by show va_P _ _ _ t.heap; rw [ht]; exact hP, va_K.moved hW.alike hK, hD⟩, hS.F ht⟩) hS.2.2 dX0_isBlankWhenTaken_103
  · skip
    have c_1 : ¬ 8 ≤ i := fun z => c_1 ((nI_leI (a := 8) (b := i) (by omega) (by omega)).mpr z)
    refine lv_iload_n (pc := 13) hx hb dX0_isBlankWhenTaken_13 rfl (lv_at hl 4 rfl) ?_
    refine lv_iload (pc := 14) hx hb dX0_isBlankWhenTaken_14 (lv_at hl 0 rfl) ?_
    refine lv_iadd (pc := 16) hx hb dX0_isBlankWhenTaken_16 ?_
    refine lv_cv (nI_add fr i) ?_
    refine lv_istore (pc := 17) (lv' := [(6, .int (nI (fr + i))), (5, .int (nI i)), (4, .int (bI (blkTo (unitG G fr en) i))), (0, .ref a1), (1, .ref a2), (2, .int (nI fr)), (3, .int (nI en))]) hx hb dX0_isBlankWhenTaken_17 hl (by decide) rfl (fun ls hl => ?_)
    refine lv_aload_n (pc := 19) hx hb dX0_isBlankWhenTaken_19 rfl (lv_at hl 4 rfl) ?_
    refine lv_ifnull (pc := 20) hx hb dX0_isBlankWhenTaken_20 ?_
    refine lv_iload (pc := 23) hx hb dX0_isBlankWhenTaken_23 (lv_at hl 0 rfl) ?_
    refine lv_if_lt (pc := 25) (tgt := 45) hx hb dX0_isBlankWhenTaken_25 (by decide) (fun c0 => ?_) (fun c0 => ?_)
    · skip
      have c0 : (fr + i) < 0 := (nI_ltI (a := (fr + i)) (b := 0) (by omega) (by omega)).mp c0
      exfalso; omega
    · skip
      have c0 : ¬ (fr + i) < 0 := fun z => c0 ((nI_ltI (a := (fr + i)) (b := 0) (by omega) (by omega)).mpr z)
      refine lv_iload (pc := 28) hx hb dX0_isBlankWhenTaken_28 (lv_at hl 0 rfl) ?_
      refine lv_iload_n (pc := 30) hx hb dX0_isBlankWhenTaken_30 rfl (lv_at hl 6 rfl) ?_
      refine lv_icmp_ge (pc := 31) (tgt := 45) hx hb dX0_isBlankWhenTaken_31 (by decide) (fun c1 => ?_) (fun c1 => ?_)
      · skip
        have c1 : en ≤ (fr + i) := (nI_leI (a := en) (b := (fr + i)) (by omega) (by omega)).mp c1
        have g9 : unitG G fr en i = -1 := by unfold unitG; rw [if_neg (by omega)]
        refine lv_iconst (pc := 45) (v := nI 0) hx hb dX0_isBlankWhenTaken_45 (by decide) ?_
        refine lv_istore (pc := 46) (lv' := [(7, .int (nI 0)), (6, .int (nI (fr + i))), (5, .int (nI i)), (4, .int (bI (blkTo (unitG G fr en) i))), (0, .ref a1), (1, .ref a2), (2, .int (nI fr)), (3, .int (nI en))]) hx hb dX0_isBlankWhenTaken_46 hl (by decide) rfl (fun ls hl => ?_)
        refine lv_aload_n (pc := 48) hx hb dX0_isBlankWhenTaken_48 rfl (lv_at hl 4 rfl) ?_
        refine va_get (pc := 49) (D := (dC, dI)) (ci := 0) (v := .ref a4) (C := RX0) (T := TX0) (N := 9) hx hb hts (by decide +kernel) hown hK hP 0 rfl rfl 2 (by decide) (hts (.fieldLink RX0 18 "ScratchSwap$Memory" "unitTaken" "[I") (by decide +kernel)) (fun _ h9 => h9) rfl dX0_isBlankWhenTaken_49 ?_
        refine lv_iload (pc := 52) hx hb dX0_isBlankWhenTaken_52 (lv_at hl 2 rfl) ?_
        refine lv_iload (pc := 54) hx hb dX0_isBlankWhenTaken_54 (lv_at hl 0 rfl) ?_
        refine lv_if_eq (pc := 56) (tgt := 66) hx hb dX0_isBlankWhenTaken_56 (by decide) (fun c3 => ?_) (fun c3 => ?_)
        · skip
          have c3 : 0 = 0 := (nI_eq (a := 0) (b := 0) (by omega) (by omega)).mp c3
          refine lv_sipush (pc := 66) (v := nI 255) hx hb dX0_isBlankWhenTaken_66 (by decide) ?_
          refine x_iast (pc := 69) (k := i) (f := ut) hx hb hK hP hD hS 3 0 rfl rfl (by omega) (by decide) dX0_isBlankWhenTaken_69 (fun H locs hP hD hS => ?_)
          have hP : va_P (dC, dI) vwCl (mW a1 a2 a3 a4 cI (G, te, dn, tl, lf, cu, ac, gn) (upd ut i (nI 255))) _ := hP
          have hD : va_D A (mW a1 a2 a3 a4 cI (G, te, dn, tl, lf, cu, ac, gn) (upd ut i (nI 255))) := hD
          refine lv_iload (pc := 70) hx hb dX0_isBlankWhenTaken_70 (lv_at hl 3 rfl) ?_
          refine lv_if_eq (pc := 72) (tgt := 92) hx hb dX0_isBlankWhenTaken_72 (by decide) (fun c7 => ?_) (fun c7 => ?_)
          · skip
            have c7 : blkTo (unitG G fr en) i = false := bI_0.mp c7
            refine lv_iconst (pc := 92) (v := nI 0) hx hb dX0_isBlankWhenTaken_92 (by decide) ?_
            refine lv_cv (y := bI (blkTo (unitG G fr en) (i + 1))) (by rw [show blkTo (unitG G fr en) (i + 1) = false from by rw [blkTo_s]; first | (simp [c7, c9]; done) | (simp [c7]; done)]; rfl) ?_
            refine lv_istore (pc := 93) (lv' := [(4, .int (bI (blkTo (unitG G fr en) (i + 1)))), (7, .int (nI 0)), (6, .int (nI (fr + i))), (5, .int (nI i)), (0, .ref a1), (1, .ref a2), (2, .int (nI fr)), (3, .int (nI en))]) hx hb dX0_isBlankWhenTaken_93 hl (by decide) rfl (fun ls hl => ?_)
            refine lv_iinc (pc := 95) (v := nI (i + 1)) (lv' := [(5, .int (nI (i + 1))), (4, .int (bI (blkTo (unitG G fr en) (i + 1)))), (7, .int (nI 0)), (6, .int (nI (fr + i))), (0, .ref a1), (1, .ref a2), (2, .int (nI fr)), (3, .int (nI en))]) hx hb dX0_isBlankWhenTaken_95 hl (k := 3) rfl (nI_inc i 1) (by decide) rfl (fun ls hl => ?_)
            refine lv_goto (pc := 98) (tgt := 6) hx hb dX0_isBlankWhenTaken_98 (by decide) ?_
            have hu9 : ∀ j, j < i + 1 → (upd ut i (nI 255)) j = ub (unitG G fr en j) := by
              intro j hj
              unfold upd
              by_cases hji : j = i
              · rw [if_pos hji, hji, g9] ; exact ub_m1.symm
              · rw [if_neg hji]; exact hu j (by omega)
            exact ih6 (i + 1, upd ut i (nI 255)) H locs ls ⟨by omega, hu9⟩ (by first | omega | (simp only []; omega)) hP hD hS (lv_sub hl [0, 1, 4, 5, 6, 7] rfl)
          · skip
            have c7 : blkTo (unitG G fr en) i = true := bI_1.mp c7
            refine lv_aload_n (pc := 75) hx hb dX0_isBlankWhenTaken_75 rfl (lv_at hl 4 rfl) ?_
            refine va_get (pc := 76) (D := (dC, dI)) (ci := 0) (v := .ref a4) (C := RX0) (T := TX0) (N := 9) hx hb hts (by decide +kernel) hown hK hP 0 rfl rfl 2 (by decide) (hts (.fieldLink RX0 18 "ScratchSwap$Memory" "unitTaken" "[I") (by decide +kernel)) (fun _ h9 => h9) rfl dX0_isBlankWhenTaken_76 ?_
            refine lv_iload (pc := 79) hx hb dX0_isBlankWhenTaken_79 (lv_at hl 2 rfl) ?_
            refine x_iald (pc := 81) (k := i) (f := upd ut i (nI 255)) hx hb hK hP 3 0 rfl rfl (by omega) (by decide) dX0_isBlankWhenTaken_81 ?_
            refine lv_sipush (pc := 82) (v := nI 255) hx hb dX0_isBlankWhenTaken_82 (by decide) ?_
            refine lv_icmp_ne (pc := 85) (tgt := 92) hx hb dX0_isBlankWhenTaken_85 (by decide) (fun c8 => ?_) (fun c8 => ?_)
            · skip
              have c9 : ¬ unitG G fr en i = -1 := by
                have e9 : (upd ut i (nI 255)) i = ub (unitG G fr en i) := by unfold upd; rw [if_pos rfl, g9]; exact ub_m1.symm
                intro z; apply c8; rw [e9, z]; exact ub_m1
              refine lv_iconst (pc := 92) (v := nI 0) hx hb dX0_isBlankWhenTaken_92 (by decide) ?_
              refine lv_cv (y := bI (blkTo (unitG G fr en) (i + 1))) (by rw [show blkTo (unitG G fr en) (i + 1) = false from by rw [blkTo_s]; first | (simp [c7, c9]; done) | (simp [c7]; done)]; rfl) ?_
              refine lv_istore (pc := 93) (lv' := [(4, .int (bI (blkTo (unitG G fr en) (i + 1)))), (7, .int (nI 0)), (6, .int (nI (fr + i))), (5, .int (nI i)), (0, .ref a1), (1, .ref a2), (2, .int (nI fr)), (3, .int (nI en))]) hx hb dX0_isBlankWhenTaken_93 hl (by decide) rfl (fun ls hl => ?_)
              refine lv_iinc (pc := 95) (v := nI (i + 1)) (lv' := [(5, .int (nI (i + 1))), (4, .int (bI (blkTo (unitG G fr en) (i + 1)))), (7, .int (nI 0)), (6, .int (nI (fr + i))), (0, .ref a1), (1, .ref a2), (2, .int (nI fr)), (3, .int (nI en))]) hx hb dX0_isBlankWhenTaken_95 hl (k := 3) rfl (nI_inc i 1) (by decide) rfl (fun ls hl => ?_)
              refine lv_goto (pc := 98) (tgt := 6) hx hb dX0_isBlankWhenTaken_98 (by decide) ?_
              have hu9 : ∀ j, j < i + 1 → (upd ut i (nI 255)) j = ub (unitG G fr en j) := by
                intro j hj
                unfold upd
                by_cases hji : j = i
                · rw [if_pos hji, hji, g9] ; exact ub_m1.symm
                · rw [if_neg hji]; exact hu j (by omega)
              exact ih6 (i + 1, upd ut i (nI 255)) H locs ls ⟨by omega, hu9⟩ (by first | omega | (simp only []; omega)) hP hD hS (lv_sub hl [0, 1, 4, 5, 6, 7] rfl)
            · skip
              have c9 : unitG G fr en i = -1 := by
                have e9 : (upd ut i (nI 255)) i = ub (unitG G fr en i) := by unfold upd; rw [if_pos rfl, g9]; exact ub_m1.symm
                rw [e9, ← ub_m1] at c8; exact ub_inj.mp c8
              refine lv_iconst (pc := 88) (v := nI 1) hx hb dX0_isBlankWhenTaken_88 (by decide) ?_
              refine lv_cv (y := bI (blkTo (unitG G fr en) (i + 1))) (by rw [show blkTo (unitG G fr en) (i + 1) = true from by rw [blkTo_s]; first | (simp [c7, c9]; done) | (simp [c7]; done)]; rfl) ?_
              refine lv_goto (pc := 89) (tgt := 93) hx hb dX0_isBlankWhenTaken_89 (by decide) ?_
              refine lv_istore (pc := 93) (lv' := [(4, .int (bI (blkTo (unitG G fr en) (i + 1)))), (7, .int (nI 0)), (6, .int (nI (fr + i))), (5, .int (nI i)), (0, .ref a1), (1, .ref a2), (2, .int (nI fr)), (3, .int (nI en))]) hx hb dX0_isBlankWhenTaken_93 hl (by decide) rfl (fun ls hl => ?_)
              refine lv_iinc (pc := 95) (v := nI (i + 1)) (lv' := [(5, .int (nI (i + 1))), (4, .int (bI (blkTo (unitG G fr en) (i + 1)))), (7, .int (nI 0)), (6, .int (nI (fr + i))), (0, .ref a1), (1, .ref a2), (2, .int (nI fr)), (3, .int (nI en))]) hx hb dX0_isBlankWhenTaken_95 hl (k := 3) rfl (nI_inc i 1) (by decide) rfl (fun ls hl => ?_)
              refine lv_goto (pc := 98) (tgt := 6) hx hb dX0_isBlankWhenTaken_98 (by decide) ?_
              have hu9 : ∀ j, j < i + 1 → (upd ut i (nI 255)) j = ub (unitG G fr en j) := by
                intro j hj
                unfold upd
                by_cases hji : j = i
                · rw [if_pos hji, hji, g9] ; exact ub_m1.symm
                · rw [if_neg hji]; exact hu j (by omega)
              exact ih6 (i + 1, upd ut i (nI 255)) H locs ls ⟨by omega, hu9⟩ (by first | omega | (simp only []; omega)) hP hD hS (lv_sub hl [0, 1, 4, 5, 6, 7] rfl)
        · skip
          have c3 : ¬ 0 = 0 := fun z => c3 ((nI_eq (a := 0) (b := 0) (by omega) (by omega)).mpr z)
          exfalso; omega
      · skip
        have c1 : ¬ en ≤ (fr + i) := fun z => c1 ((nI_leI (a := en) (b := (fr + i)) (by omega) (by omega)).mpr z)
        have g9 : unitG G fr en i = G (fr + i) := by unfold unitG; rw [if_pos (by omega)]
        refine lv_iload (pc := 34) hx hb dX0_isBlankWhenTaken_34 (lv_at hl 0 rfl) ?_
        refine lv_aload_n (pc := 36) hx hb dX0_isBlankWhenTaken_36 rfl (lv_at hl 4 rfl) ?_
        refine va_alen (pc := 37) (v := nI 2816) hx hb hK hP 1 0 rfl rfl rfl dX0_isBlankWhenTaken_37 ?_
        refine lv_icmp_ge (pc := 38) (tgt := 45) hx hb dX0_isBlankWhenTaken_38 (by decide) (fun c2 => ?_) (fun c2 => ?_)
        · skip
          have c2 : 2816 ≤ (fr + i) := (nI_leI (a := 2816) (b := (fr + i)) (by omega) (by omega)).mp c2
          exfalso; omega
        · skip
          have c2 : ¬ 2816 ≤ (fr + i) := fun z => c2 ((nI_leI (a := 2816) (b := (fr + i)) (by omega) (by omega)).mpr z)
          refine lv_iconst (pc := 41) (v := nI 1) hx hb dX0_isBlankWhenTaken_41 (by decide) ?_
          refine lv_goto (pc := 42) (tgt := 46) hx hb dX0_isBlankWhenTaken_42 (by decide) ?_
          refine lv_istore (pc := 46) (lv' := [(7, .int (nI 1)), (6, .int (nI (fr + i))), (5, .int (nI i)), (4, .int (bI (blkTo (unitG G fr en) i))), (0, .ref a1), (1, .ref a2), (2, .int (nI fr)), (3, .int (nI en))]) hx hb dX0_isBlankWhenTaken_46 hl (by decide) rfl (fun ls hl => ?_)
          refine lv_aload_n (pc := 48) hx hb dX0_isBlankWhenTaken_48 rfl (lv_at hl 4 rfl) ?_
          refine va_get (pc := 49) (D := (dC, dI)) (ci := 0) (v := .ref a4) (C := RX0) (T := TX0) (N := 9) hx hb hts (by decide +kernel) hown hK hP 0 rfl rfl 2 (by decide) (hts (.fieldLink RX0 18 "ScratchSwap$Memory" "unitTaken" "[I") (by decide +kernel)) (fun _ h9 => h9) rfl dX0_isBlankWhenTaken_49 ?_
          refine lv_iload (pc := 52) hx hb dX0_isBlankWhenTaken_52 (lv_at hl 2 rfl) ?_
          refine lv_iload (pc := 54) hx hb dX0_isBlankWhenTaken_54 (lv_at hl 0 rfl) ?_
          refine lv_if_eq (pc := 56) (tgt := 66) hx hb dX0_isBlankWhenTaken_56 (by decide) (fun c3 => ?_) (fun c3 => ?_)
          · skip
            have c3 : 1 = 0 := (nI_eq (a := 1) (b := 0) (by omega) (by omega)).mp c3
            exfalso; omega
          · skip
            have c3 : ¬ 1 = 0 := fun z => c3 ((nI_eq (a := 1) (b := 0) (by omega) (by omega)).mpr z)
            refine lv_aload_n (pc := 59) hx hb dX0_isBlankWhenTaken_59 rfl (lv_at hl 5 rfl) ?_
            refine lv_iload (pc := 60) hx hb dX0_isBlankWhenTaken_60 (lv_at hl 1 rfl) ?_
            refine x_iald (pc := 62) (k := fr + i) (f := fun j => ub (G j)) hx hb hK hP 1 0 rfl rfl (by omega) (by decide) dX0_isBlankWhenTaken_62 ?_
            refine lv_goto (pc := 63) (tgt := 69) hx hb dX0_isBlankWhenTaken_63 (by decide) ?_
            refine x_iast (pc := 69) (k := i) (f := ut) hx hb hK hP hD hS 3 0 rfl rfl (by omega) (by decide) dX0_isBlankWhenTaken_69 (fun H locs hP hD hS => ?_)
            have hP : va_P (dC, dI) vwCl (mW a1 a2 a3 a4 cI (G, te, dn, tl, lf, cu, ac, gn) (upd ut i (ub (G (fr + i))))) _ := hP
            have hD : va_D A (mW a1 a2 a3 a4 cI (G, te, dn, tl, lf, cu, ac, gn) (upd ut i (ub (G (fr + i))))) := hD
            refine lv_iload (pc := 70) hx hb dX0_isBlankWhenTaken_70 (lv_at hl 3 rfl) ?_
            refine lv_if_eq (pc := 72) (tgt := 92) hx hb dX0_isBlankWhenTaken_72 (by decide) (fun c7 => ?_) (fun c7 => ?_)
            · skip
              have c7 : blkTo (unitG G fr en) i = false := bI_0.mp c7
              refine lv_iconst (pc := 92) (v := nI 0) hx hb dX0_isBlankWhenTaken_92 (by decide) ?_
              refine lv_cv (y := bI (blkTo (unitG G fr en) (i + 1))) (by rw [show blkTo (unitG G fr en) (i + 1) = false from by rw [blkTo_s]; first | (simp [c7, c9]; done) | (simp [c7]; done)]; rfl) ?_
              refine lv_istore (pc := 93) (lv' := [(4, .int (bI (blkTo (unitG G fr en) (i + 1)))), (7, .int (nI 1)), (6, .int (nI (fr + i))), (5, .int (nI i)), (0, .ref a1), (1, .ref a2), (2, .int (nI fr)), (3, .int (nI en))]) hx hb dX0_isBlankWhenTaken_93 hl (by decide) rfl (fun ls hl => ?_)
              refine lv_iinc (pc := 95) (v := nI (i + 1)) (lv' := [(5, .int (nI (i + 1))), (4, .int (bI (blkTo (unitG G fr en) (i + 1)))), (7, .int (nI 1)), (6, .int (nI (fr + i))), (0, .ref a1), (1, .ref a2), (2, .int (nI fr)), (3, .int (nI en))]) hx hb dX0_isBlankWhenTaken_95 hl (k := 3) rfl (nI_inc i 1) (by decide) rfl (fun ls hl => ?_)
              refine lv_goto (pc := 98) (tgt := 6) hx hb dX0_isBlankWhenTaken_98 (by decide) ?_
              have hu9 : ∀ j, j < i + 1 → (upd ut i (ub (G (fr + i)))) j = ub (unitG G fr en j) := by
                intro j hj
                unfold upd
                by_cases hji : j = i
                · rw [if_pos hji, hji, g9]
                · rw [if_neg hji]; exact hu j (by omega)
              exact ih6 (i + 1, upd ut i (ub (G (fr + i)))) H locs ls ⟨by omega, hu9⟩ (by first | omega | (simp only []; omega)) hP hD hS (lv_sub hl [0, 1, 4, 5, 6, 7] rfl)
            · skip
              have c7 : blkTo (unitG G fr en) i = true := bI_1.mp c7
              refine lv_aload_n (pc := 75) hx hb dX0_isBlankWhenTaken_75 rfl (lv_at hl 4 rfl) ?_
              refine va_get (pc := 76) (D := (dC, dI)) (ci := 0) (v := .ref a4) (C := RX0) (T := TX0) (N := 9) hx hb hts (by decide +kernel) hown hK hP 0 rfl rfl 2 (by decide) (hts (.fieldLink RX0 18 "ScratchSwap$Memory" "unitTaken" "[I") (by decide +kernel)) (fun _ h9 => h9) rfl dX0_isBlankWhenTaken_76 ?_
              refine lv_iload (pc := 79) hx hb dX0_isBlankWhenTaken_79 (lv_at hl 2 rfl) ?_
              refine x_iald (pc := 81) (k := i) (f := upd ut i (ub (G (fr + i)))) hx hb hK hP 3 0 rfl rfl (by omega) (by decide) dX0_isBlankWhenTaken_81 ?_
              refine lv_sipush (pc := 82) (v := nI 255) hx hb dX0_isBlankWhenTaken_82 (by decide) ?_
              refine lv_icmp_ne (pc := 85) (tgt := 92) hx hb dX0_isBlankWhenTaken_85 (by decide) (fun c8 => ?_) (fun c8 => ?_)
              · skip
                have c9 : ¬ unitG G fr en i = -1 := by
                  have e9 : (upd ut i (ub (G (fr + i)))) i = ub (unitG G fr en i) := by unfold upd; rw [if_pos rfl, g9]
                  intro z; apply c8; rw [e9, z]; exact ub_m1
                refine lv_iconst (pc := 92) (v := nI 0) hx hb dX0_isBlankWhenTaken_92 (by decide) ?_
                refine lv_cv (y := bI (blkTo (unitG G fr en) (i + 1))) (by rw [show blkTo (unitG G fr en) (i + 1) = false from by rw [blkTo_s]; first | (simp [c7, c9]; done) | (simp [c7]; done)]; rfl) ?_
                refine lv_istore (pc := 93) (lv' := [(4, .int (bI (blkTo (unitG G fr en) (i + 1)))), (7, .int (nI 1)), (6, .int (nI (fr + i))), (5, .int (nI i)), (0, .ref a1), (1, .ref a2), (2, .int (nI fr)), (3, .int (nI en))]) hx hb dX0_isBlankWhenTaken_93 hl (by decide) rfl (fun ls hl => ?_)
                refine lv_iinc (pc := 95) (v := nI (i + 1)) (lv' := [(5, .int (nI (i + 1))), (4, .int (bI (blkTo (unitG G fr en) (i + 1)))), (7, .int (nI 1)), (6, .int (nI (fr + i))), (0, .ref a1), (1, .ref a2), (2, .int (nI fr)), (3, .int (nI en))]) hx hb dX0_isBlankWhenTaken_95 hl (k := 3) rfl (nI_inc i 1) (by decide) rfl (fun ls hl => ?_)
                refine lv_goto (pc := 98) (tgt := 6) hx hb dX0_isBlankWhenTaken_98 (by decide) ?_
                have hu9 : ∀ j, j < i + 1 → (upd ut i (ub (G (fr + i)))) j = ub (unitG G fr en j) := by
                  intro j hj
                  unfold upd
                  by_cases hji : j = i
                  · rw [if_pos hji, hji, g9]
                  · rw [if_neg hji]; exact hu j (by omega)
                exact ih6 (i + 1, upd ut i (ub (G (fr + i)))) H locs ls ⟨by omega, hu9⟩ (by first | omega | (simp only []; omega)) hP hD hS (lv_sub hl [0, 1, 4, 5, 6, 7] rfl)
              · skip
                have c9 : unitG G fr en i = -1 := by
                  have e9 : (upd ut i (ub (G (fr + i)))) i = ub (unitG G fr en i) := by unfold upd; rw [if_pos rfl, g9]
                  rw [e9, ← ub_m1] at c8; exact ub_inj.mp c8
                refine lv_iconst (pc := 88) (v := nI 1) hx hb dX0_isBlankWhenTaken_88 (by decide) ?_
                refine lv_cv (y := bI (blkTo (unitG G fr en) (i + 1))) (by rw [show blkTo (unitG G fr en) (i + 1) = true from by rw [blkTo_s]; first | (simp [c7, c9]; done) | (simp [c7]; done)]; rfl) ?_
                refine lv_goto (pc := 89) (tgt := 93) hx hb dX0_isBlankWhenTaken_89 (by decide) ?_
                refine lv_istore (pc := 93) (lv' := [(4, .int (bI (blkTo (unitG G fr en) (i + 1)))), (7, .int (nI 1)), (6, .int (nI (fr + i))), (5, .int (nI i)), (0, .ref a1), (1, .ref a2), (2, .int (nI fr)), (3, .int (nI en))]) hx hb dX0_isBlankWhenTaken_93 hl (by decide) rfl (fun ls hl => ?_)
                refine lv_iinc (pc := 95) (v := nI (i + 1)) (lv' := [(5, .int (nI (i + 1))), (4, .int (bI (blkTo (unitG G fr en) (i + 1)))), (7, .int (nI 1)), (6, .int (nI (fr + i))), (0, .ref a1), (1, .ref a2), (2, .int (nI fr)), (3, .int (nI en))]) hx hb dX0_isBlankWhenTaken_95 hl (k := 3) rfl (nI_inc i 1) (by decide) rfl (fun ls hl => ?_)
                refine lv_goto (pc := 98) (tgt := 6) hx hb dX0_isBlankWhenTaken_98 (by decide) ?_
                have hu9 : ∀ j, j < i + 1 → (upd ut i (ub (G (fr + i)))) j = ub (unitG G fr en j) := by
                  intro j hj
                  unfold upd
                  by_cases hji : j = i
                  · rw [if_pos hji, hji, g9]
                  · rw [if_neg hji]; exact hu j (by omega)
                exact ih6 (i + 1, upd ut i (ub (G (fr + i)))) H locs ls ⟨by omega, hu9⟩ (by first | omega | (simp only []; omega)) hP hD hS (lv_sub hl [0, 1, 4, 5, 6, 7] rfl)
