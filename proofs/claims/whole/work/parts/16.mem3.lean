set_option maxHeartbeats 4000000 in
set_option maxRecDepth 100000 in
theorem kX0_writeUnitT (l : Launch) (dC : Nat → ClassId) (dI : Nat → Nat → Nat) (tt : Nat → Nat) (cI cB : ClassId) (sz : Nat) (a1 a2 a3 a4 : Nat) (k : K0) (ut : Nat → Int32) (t n : Nat) (G : Nat → Int8) (q fr en : Nat) (hk : kOk k) (hen : en ≤ n) (hn : n < 2 ^ 31) (hfr : fr + 8 < 2 ^ 31) (hq : q + 8 ≤ 2816) : MetI (S := (K0 × (Nat → Int32))) l yX0_writeUnit wsX0_writeUnit { frames := 1, cells := 0, slots := 0, locals := 27 } (dC, dI) [(cI, .int), (cB, .byte)] tt [(t, n, fun j => ub (G j))] sz (mW a1 a2 a3 a4 cI k ut) [.ref a1, .int (nI q), .ref t, .int (nI fr), .int (nI en)] (fun u : (K0 × (Nat → Int32)) => mW a1 a2 a3 a4 cI u.1 u.2) (fun r u => r = bI (kActs (unitL q (unitG G fr en)) k).2 ∧ u.1 = (kActs (unitL q (unitG G fr en)) k).1) := by
  refine Met.ofW (cc := cX0_writeUnit) (maxL := 6) (ret := (some .boolean)) (by decide) rfl ?_
  intro p e s m args below meth c s₁ B hml hv
  obtain ⟨rfl, hsz, hP, hK, hD0, hE⟩ := hv
  have hx := B.exec
  have hb := B.bytes
  have hr := B.returns
  have hts := atoms_spec (ws := wsX0_writeUnit) B.pre
  have hown : s.vm.findClass RX0 = some m.cls := findClass_of_methodNamed B.named
  have hlocks := B.notSynchronized
  subst hsz
  have hD := hD0.self (sz := s.heap.size)
  generalize hAe : va_A (mW a1 a2 a3 a4 cI k ut) s.heap.size = A at hD hE ⊢
  have hA : ∀ q : Nat, s.heap.size ≤ q → A q := fun q h => by rw [← hAe]; exact Or.inr h
  have hS : va_S A s.heap s.heap [] := va_S.rf
  have hl := lv_entry ([.ref a1, .int (nI q), .ref t, .int (nI fr), .int (nI en)]) (n := 6) (Nat.le_of_ble_eq_true rfl)
  rw [lg_entry_eq]
  generalize (lg_sl ([.ref a1, .int (nI q), .ref t, .int (nI fr), .int (nI en)]) ++ List.replicate (6 - (lg_sl ([.ref a1, .int (nI q), .ref t, .int (nI fr), .int (nI en)])).length) Slot.unset).toArray = ls at hl ⊢
  have hl : lv_has ls 6 [(0, .ref a1), (1, .int (nI q)), (2, .ref t), (3, .int (nI fr)), (4, .int (nI en))] := hl
  have hP : va_P (dC, dI) vwCl (mW a1 a2 a3 a4 cI k ut) s.heap := hP
  refine lv_aload_n (pc := 0) hx hb dX0_writeUnit_0 rfl (lv_at hl 0 rfl) ?_
  refine lv_aload_n (pc := 1) hx hb dX0_writeUnit_1 rfl (lv_at hl 2 rfl) ?_
  refine lv_iload_n (pc := 2) hx hb dX0_writeUnit_2 rfl (lv_at hl 3 rfl) ?_
  refine lv_iload (pc := 3) hx hb dX0_writeUnit_3 (lv_at hl 4 rfl) ?_
  refine x_wri (pc := 5) (va_runV (As := [.ref t, .int (nI fr), .int (nI en)]) (rest := []) ⟨hx, hb, hml, hown, hts⟩ (kX0_blankT l dC dI tt cI cB _ a1 a2 a3 a4 k ut t n G fr en hen hn hfr) (cwV 3 hts gX0_writeUnit_X0_isBlankWhenTaken rfl rfl rfl (by decide +kernel) ⟨Nat.le_of_ble_eq_true rfl, Nat.le_of_ble_eq_true rfl⟩) (x_preV hS hE hK hP hD [0, 1, 2, 3] rfl (by decide) (va_free hD hS hA [0, 1, 2, 3] rfl) (xRs hS hE (va_free hD hS hA [0, 1, 2, 3] rfl)) 0 0 rfl rfl) rfl rfl hl.1 rfl (lv_room (Nat.le_of_ble_eq_true rfl)) dX0_writeUnit_5 ⟨Nat.le_of_ble_eq_true rfl, Nat.le_of_ble_eq_true rfl⟩) hS hA hP hD [0, 1, 2, 3] [] rfl rfl (by decide) (by decide) (fun r_2 u_1 H locs hu_1 hP hD hS => ?_)
  obtain ⟨hr_2, hu⟩ := hu_1
  subst hr_2
  obtain ⟨ut1, rfl⟩ : ∃ z, z = u_1 := ⟨_, rfl⟩
  have hP := hP.sub (ws' := mW a1 a2 a3 a4 cI k ut1) [0, 1, 2, 3] rfl
  have hD := hD.sub (ws' := mW a1 a2 a3 a4 cI k ut1) [0, 1, 2, 3] (by decide) rfl
  refine lv_if_eq (pc := 8) (tgt := 13) hx hb dX0_writeUnit_8 (by decide) (fun c1 => ?_) (fun c1 => ?_)
  · skip
    have c1 : blkTo (unitG G fr en) 8 = false := bI_0.mp c1
    refine lv_aload_n (pc := 13) hx hb dX0_writeUnit_13 rfl (lv_at hl 0 rfl) ?_
    refine x_wri (pc := 14) (va_runV (As := []) (rest := []) ⟨hx, hb, hml, hown, hts⟩ (kX0_beginAct l dC dI tt cI cB _ a1 a2 a3 a4 k ut1  hk.1 hk.2.1) (cwV 0 hts gX0_writeUnit_X0_beginAct rfl rfl rfl (by decide +kernel) ⟨Nat.le_of_ble_eq_true rfl, Nat.le_of_ble_eq_true rfl⟩) (x_preV hS hE hK hP hD [0, 1, 2, 3] rfl (by decide) (va_free hD hS hA [0, 1, 2, 3] rfl) xR0 0 0 rfl rfl) rfl rfl hl.1 rfl (lv_room (Nat.le_of_ble_eq_true rfl)) dX0_writeUnit_14 ⟨Nat.le_of_ble_eq_true rfl, Nat.le_of_ble_eq_true rfl⟩) hS hA hP hD [0, 1, 2, 3] [] rfl rfl (by decide) (by decide) (fun r_4 u_3 H locs hu_3 hP hD hS => ?_)
    obtain ⟨hr_4, eu_3⟩ := hu_3
    obtain ⟨b_5, eb_5⟩ : ∃ z, z = (kBegin k).2 := ⟨_, rfl⟩
    rw [← eb_5] at hr_4
    subst hr_4
    have hP := hP.sub (ws' := mW a1 a2 a3 a4 cI u_3 ut1) [0, 1, 2, 3] rfl
    have hD := hD.sub (ws' := mW a1 a2 a3 a4 cI u_3 ut1) [0, 1, 2, 3] (by decide) rfl
    obtain ⟨F_6, kr_7⟩ := u_3
    have hP : va_P (dC, dI) vwCl (mW a1 a2 a3 a4 cI (F_6, kr_7) ut1) _ := hP
    have hD : va_D A (mW a1 a2 a3 a4 cI (F_6, kr_7) ut1) := hD
    have hF1 : F_6 = k.1 := by have := congrArg (fun z : K0 => z.1) eu_3; rw [kBegin_F] at this; exact this
    subst hF1
    have hkr : kr_7 = (kBegin k).1.2 := by have := congrArg (fun z : K0 => z.2) eu_3; exact this
    have hP : va_P (dC, dI) vwCl (mW a1 a2 a3 a4 cI (k.1, kr_7) ut1) _ := hP
    have hD : va_D A (mW a1 a2 a3 a4 cI (k.1, kr_7) ut1) := hD
    refine lv_if_ne (pc := 17) (tgt := 22) hx hb dX0_writeUnit_17 (by decide) (fun c2 => ?_) (fun c2 => ?_)
    · skip
      have c2 : b_5 = true := bI_1.mp c2
      refine lv_iconst (pc := 22) (v := nI 0) hx hb dX0_writeUnit_22 (by decide) ?_
      refine lv_istore (pc := 23) (lv' := [(5, .int (nI 0)), (0, .ref a1), (1, .int (nI q)), (2, .ref t), (3, .int (nI fr)), (4, .int (nI en))]) hx hb dX0_writeUnit_23 hl (by decide) rfl (fun ls hl => ?_)
      rw [← andFn_0 k.1 q (unitG G fr en)] at hP hD
      refine x_loop (σ := (Nat)) (Wd := fun i : (Nat) => mW a1 a2 a3 a4 cI (andFn k.1 q (unitG G fr en) i, kr_7) ut1) (Lv := fun i : (Nat) => [(5, .int (nI i)), (0, .ref a1), (1, .int (nI q)), (2, .ref t), (3, .int (nI fr)), (4, .int (nI en))]) (I := fun i : (Nat) => (i ≤ 8)) (μ := fun i : (Nat) => 8 - i) ?_ (0) (Nat.zero_le _) hP hD hS (lv_sub hl [0, 1, 2, 3, 4, 5] rfl)
      intro i H locs ls hI hP hD hS hl ih25
      have hi8 : (i ≤ 8) := hI
      have hP : va_P (dC, dI) vwCl (mW a1 a2 a3 a4 cI (andFn k.1 q (unitG G fr en) i, kr_7) ut1) _ := hP
      have hD : va_D A (mW a1 a2 a3 a4 cI (andFn k.1 q (unitG G fr en) i, kr_7) ut1) := hD
      have hl : lv_has ls 6 [(5, .int (nI i)), (0, .ref a1), (1, .int (nI q)), (2, .ref t), (3, .int (nI fr)), (4, .int (nI en))] := hl
      refine lv_iload (pc := 25) hx hb dX0_writeUnit_25 (lv_at hl 0 rfl) ?_
      refine lv_bipush (pc := 27) (v := nI 8) hx hb dX0_writeUnit_27 (by decide) ?_
      refine lv_icmp_ge (pc := 29) (tgt := 53) hx hb dX0_writeUnit_29 (by decide) (fun c_8 => ?_) (fun c_8 => ?_)
      · skip
        have c_8 : 8 ≤ i := (nI_leI (a := 8) (b := i) (by omega) (by omega)).mp c_8
        refine lv_iconst (pc := 53) (v := nI 1) hx hb dX0_writeUnit_53 (by decide) ?_
        have hi9 : i = 8 := by omega
        subst hi9
        exact W.zret (v := nI 1) hx hb hr rfl (fun t ht hW => ⟨⟨nI 1, ((andFn k.1 q (unitG G fr en) 8, kr_7), ut1), rfl, ⟨by rw [kActs_unit, c1]; show _ = bI (kBegin k).2; rw [← eb_5, c2]; rfl, by rw [kActs_unit, c1]; show _ = (if (kBegin k).2 = true then andFn k.1 q (unitG G fr en) 8 else k.1, (kBegin k).1.2); rw [← eb_5, c2, hkr]; rfl⟩, by show va_P _ _ _ t.heap; rw [ht]; exact hP, va_K.moved hW.alike hK, hD⟩, hS.F ht⟩) hS.2.2 dX0_writeUnit_54
      · skip
        have c_8 : ¬ 8 ≤ i := fun z => c_8 ((nI_leI (a := 8) (b := i) (by omega) (by omega)).mpr z)
        refine lv_aload_n (pc := 32) hx hb dX0_writeUnit_32 rfl (lv_at hl 1 rfl) ?_
        refine lv_iload_n (pc := 33) hx hb dX0_writeUnit_33 rfl (lv_at hl 2 rfl) ?_
        refine lv_iload (pc := 34) hx hb dX0_writeUnit_34 (lv_at hl 0 rfl) ?_
        refine lv_iadd (pc := 36) hx hb dX0_writeUnit_36 ?_
        refine lv_cv (nI_add q i) ?_
        refine lv_aload_n (pc := 37) hx hb dX0_writeUnit_37 rfl (lv_at hl 1 rfl) ?_
        refine va_get (pc := 38) (D := (dC, dI)) (ci := 0) (v := .ref a4) (C := RX0) (T := TX0) (N := 9) hx hb hts (by decide +kernel) hown hK hP 0 rfl rfl 2 (by decide) (hts (.fieldLink RX0 18 "ScratchSwap$Memory" "unitTaken" "[I") (by decide +kernel)) (fun _ h9 => h9) rfl dX0_writeUnit_38 ?_
        refine lv_iload (pc := 41) hx hb dX0_writeUnit_41 (lv_at hl 0 rfl) ?_
        refine x_iald (pc := 43) (k := i) (f := ut1) hx hb hK hP 3 0 rfl rfl (by omega) (by decide) dX0_writeUnit_43 ?_
        refine x_wrv (pc := 44) (va_runV (As := [.int (nI (q + i)), .int (ut1 i)]) (rest := []) ⟨hx, hb, hml, hown, hts⟩ (kX0_keepBits l dC dI tt cI cB _ a1 a2 a3 a4 (andFn k.1 q (unitG G fr en) i, kr_7) ut1 (q + i) (ut1 i) (by omega)) (cwV 2 hts gX0_writeUnit_X0_keepBits rfl rfl rfl (by decide +kernel) ⟨Nat.le_of_ble_eq_true rfl, Nat.le_of_ble_eq_true rfl⟩) (x_preV hS hE hK hP hD [0, 1, 2, 3] rfl (by decide) (va_free hD hS hA [0, 1, 2, 3] rfl) xR0 0 0 rfl rfl) rfl rfl hl.1 rfl (lv_room (Nat.le_of_ble_eq_true rfl)) dX0_writeUnit_44 ⟨Nat.le_of_ble_eq_true rfl, Nat.le_of_ble_eq_true rfl⟩) hS hA hP hD [0, 1, 2, 3] [] rfl rfl (by decide) (by decide) (fun u_9 H locs hu_9 hP hD hS => ?_)
        subst hu_9
        have hP := hP.sub (ws' := mW a1 a2 a3 a4 cI (va_up (andFn k.1 q (unitG G fr en) i) (q + i) ((andFn k.1 q (unitG G fr en) i) (q + i) &&& Int32.toInt8 (ut1 i)), kr_7) ut1) [0, 1, 2, 3] rfl
        have hD := hD.sub (ws' := mW a1 a2 a3 a4 cI (va_up (andFn k.1 q (unitG G fr en) i) (q + i) ((andFn k.1 q (unitG G fr en) i) (q + i) &&& Int32.toInt8 (ut1 i)), kr_7) ut1) [0, 1, 2, 3] (by decide) rfl
        refine lv_iinc (pc := 47) (v := nI (i + 1)) (lv' := [(5, .int (nI (i + 1))), (0, .ref a1), (1, .int (nI q)), (2, .ref t), (3, .int (nI fr)), (4, .int (nI en))]) hx hb dX0_writeUnit_47 hl (k := 0) rfl (nI_inc i 1) (by decide) rfl (fun ls hl => ?_)
        refine lv_goto (pc := 50) (tgt := 25) hx hb dX0_writeUnit_50 (by decide) ?_
        rw [hu i (by omega), ub_8, andFn_step] at hP hD
        exact ih25 (i + 1) H locs ls (by omega) (by first | omega | (simp only []; omega)) hP hD hS (lv_sub hl [0, 1, 2, 3, 4, 5] rfl)
    · skip
      have c2 : b_5 = false := bI_0.mp c2
      refine lv_iconst (pc := 20) (v := nI 0) hx hb dX0_writeUnit_20 (by decide) ?_
      exact W.zret (v := nI 0) hx hb hr rfl (fun t ht hW => ⟨⟨nI 0, ((k.1, kr_7), ut1), rfl, ⟨by rw [kActs_unit, c1]; show _ = bI (kBegin k).2; rw [← eb_5, c2]; rfl, by rw [kActs_unit, c1]; show _ = (if (kBegin k).2 = true then andFn k.1 q (unitG G fr en) 8 else k.1, (kBegin k).1.2); rw [← eb_5, c2, hkr]; rfl⟩, by show va_P _ _ _ t.heap; rw [ht]; exact hP, va_K.moved hW.alike hK, hD⟩, hS.F ht⟩) hS.2.2 dX0_writeUnit_21
  · skip
    have c1 : blkTo (unitG G fr en) 8 = true := bI_1.mp c1
    refine lv_iconst (pc := 11) (v := nI 1) hx hb dX0_writeUnit_11 (by decide) ?_
    exact W.zret (v := nI 1) hx hb hr rfl (fun t ht hW => ⟨⟨nI 1, (k, ut1), rfl, ⟨by rw [kActs_unit, c1]; rfl, by rw [kActs_unit, c1]; rfl⟩, by show va_P _ _ _ t.heap; rw [ht]; exact hP, va_K.moved hW.alike hK, hD⟩, hS.F ht⟩) hS.2.2 dX0_writeUnit_12
set_option maxHeartbeats 4000000 in
set_option maxRecDepth 100000 in
theorem kX0_writeUnitA (l : Launch) (dC : Nat → ClassId) (dI : Nat → Nat → Nat) (tt : Nat → Nat) (cI cB : ClassId) (sz : Nat) (a1 a2 a3 a4 : Nat) (k : K0) (ut : Nat → Int32) (q fr en : Nat) (hk : kOk k) (hen : en ≤ 2816) (hfr : fr + 8 < 2 ^ 31) (hq : q + 8 ≤ 2816) : MetI (S := (K0 × (Nat → Int32))) l yX0_writeUnit wsX0_writeUnit { frames := 1, cells := 0, slots := 0, locals := 27 } (dC, dI) [(cI, .int), (cB, .byte)] tt [] sz (mW a1 a2 a3 a4 cI k ut) [.ref a1, .int (nI q), .ref a2, .int (nI fr), .int (nI en)] (fun u : (K0 × (Nat → Int32)) => mW a1 a2 a3 a4 cI u.1 u.2) (fun r u => r = bI (kActs (unitL q (unitG k.1 fr en)) k).2 ∧ u.1 = (kActs (unitL q (unitG k.1 fr en)) k).1) := by
  refine Met.ofW (cc := cX0_writeUnit) (maxL := 6) (ret := (some .boolean)) (by decide) rfl ?_
  intro p e s m args below meth c s₁ B hml hv
  obtain ⟨rfl, hsz, hP, hK, hD0, hE⟩ := hv
  have hx := B.exec
  have hb := B.bytes
  have hr := B.returns
  have hts := atoms_spec (ws := wsX0_writeUnit) B.pre
  have hown : s.vm.findClass RX0 = some m.cls := findClass_of_methodNamed B.named
  have hlocks := B.notSynchronized
  subst hsz
  have hD := hD0.self (sz := s.heap.size)
  generalize hAe : va_A (mW a1 a2 a3 a4 cI k ut) s.heap.size = A at hD hE ⊢
  have hA : ∀ q : Nat, s.heap.size ≤ q → A q := fun q h => by rw [← hAe]; exact Or.inr h
  have hS : va_S A s.heap s.heap [] := va_S.rf
  have hl := lv_entry ([.ref a1, .int (nI q), .ref a2, .int (nI fr), .int (nI en)]) (n := 6) (Nat.le_of_ble_eq_true rfl)
  rw [lg_entry_eq]
  generalize (lg_sl ([.ref a1, .int (nI q), .ref a2, .int (nI fr), .int (nI en)]) ++ List.replicate (6 - (lg_sl ([.ref a1, .int (nI q), .ref a2, .int (nI fr), .int (nI en)])).length) Slot.unset).toArray = ls at hl ⊢
  have hl : lv_has ls 6 [(0, .ref a1), (1, .int (nI q)), (2, .ref a2), (3, .int (nI fr)), (4, .int (nI en))] := hl
  have hP : va_P (dC, dI) vwCl (mW a1 a2 a3 a4 cI k ut) s.heap := hP
  refine lv_aload_n (pc := 0) hx hb dX0_writeUnit_0 rfl (lv_at hl 0 rfl) ?_
  refine lv_aload_n (pc := 1) hx hb dX0_writeUnit_1 rfl (lv_at hl 2 rfl) ?_
  refine lv_iload_n (pc := 2) hx hb dX0_writeUnit_2 rfl (lv_at hl 3 rfl) ?_
  refine lv_iload (pc := 3) hx hb dX0_writeUnit_3 (lv_at hl 4 rfl) ?_
  refine x_wri (pc := 5) (va_runV (As := [.ref a2, .int (nI fr), .int (nI en)]) (rest := []) ⟨hx, hb, hml, hown, hts⟩ (kX0_blankA l dC dI tt cI cB _ a1 a2 a3 a4 k ut fr en hen hfr) (cwV 3 hts gX0_writeUnit_X0_isBlankWhenTaken rfl rfl rfl (by decide +kernel) ⟨Nat.le_of_ble_eq_true rfl, Nat.le_of_ble_eq_true rfl⟩) (x_preV hS hE hK hP hD [0, 1, 2, 3] rfl (by decide) (va_free hD hS hA [0, 1, 2, 3] rfl) xR0 0 0 rfl rfl) rfl rfl hl.1 rfl (lv_room (Nat.le_of_ble_eq_true rfl)) dX0_writeUnit_5 ⟨Nat.le_of_ble_eq_true rfl, Nat.le_of_ble_eq_true rfl⟩) hS hA hP hD [0, 1, 2, 3] [] rfl rfl (by decide) (by decide) (fun r_2 u_1 H locs hu_1 hP hD hS => ?_)
  obtain ⟨hr_2, hu⟩ := hu_1
  subst hr_2
  obtain ⟨ut1, rfl⟩ : ∃ z, z = u_1 := ⟨_, rfl⟩
  have hP := hP.sub (ws' := mW a1 a2 a3 a4 cI k ut1) [0, 1, 2, 3] rfl
  have hD := hD.sub (ws' := mW a1 a2 a3 a4 cI k ut1) [0, 1, 2, 3] (by decide) rfl
  refine lv_if_eq (pc := 8) (tgt := 13) hx hb dX0_writeUnit_8 (by decide) (fun c1 => ?_) (fun c1 => ?_)
  · skip
    have c1 : blkTo (unitG k.1 fr en) 8 = false := bI_0.mp c1
    refine lv_aload_n (pc := 13) hx hb dX0_writeUnit_13 rfl (lv_at hl 0 rfl) ?_
    refine x_wri (pc := 14) (va_runV (As := []) (rest := []) ⟨hx, hb, hml, hown, hts⟩ (kX0_beginAct l dC dI tt cI cB _ a1 a2 a3 a4 k ut1  hk.1 hk.2.1) (cwV 0 hts gX0_writeUnit_X0_beginAct rfl rfl rfl (by decide +kernel) ⟨Nat.le_of_ble_eq_true rfl, Nat.le_of_ble_eq_true rfl⟩) (x_preV hS hE hK hP hD [0, 1, 2, 3] rfl (by decide) (va_free hD hS hA [0, 1, 2, 3] rfl) xR0 0 0 rfl rfl) rfl rfl hl.1 rfl (lv_room (Nat.le_of_ble_eq_true rfl)) dX0_writeUnit_14 ⟨Nat.le_of_ble_eq_true rfl, Nat.le_of_ble_eq_true rfl⟩) hS hA hP hD [0, 1, 2, 3] [] rfl rfl (by decide) (by decide) (fun r_4 u_3 H locs hu_3 hP hD hS => ?_)
    obtain ⟨hr_4, eu_3⟩ := hu_3
    obtain ⟨b_5, eb_5⟩ : ∃ z, z = (kBegin k).2 := ⟨_, rfl⟩
    rw [← eb_5] at hr_4
    subst hr_4
    have hP := hP.sub (ws' := mW a1 a2 a3 a4 cI u_3 ut1) [0, 1, 2, 3] rfl
    have hD := hD.sub (ws' := mW a1 a2 a3 a4 cI u_3 ut1) [0, 1, 2, 3] (by decide) rfl
    obtain ⟨F_6, kr_7⟩ := u_3
    have hP : va_P (dC, dI) vwCl (mW a1 a2 a3 a4 cI (F_6, kr_7) ut1) _ := hP
    have hD : va_D A (mW a1 a2 a3 a4 cI (F_6, kr_7) ut1) := hD
    have hF1 : F_6 = k.1 := by have := congrArg (fun z : K0 => z.1) eu_3; rw [kBegin_F] at this; exact this
    subst hF1
    have hkr : kr_7 = (kBegin k).1.2 := by have := congrArg (fun z : K0 => z.2) eu_3; exact this
    have hP : va_P (dC, dI) vwCl (mW a1 a2 a3 a4 cI (k.1, kr_7) ut1) _ := hP
    have hD : va_D A (mW a1 a2 a3 a4 cI (k.1, kr_7) ut1) := hD
    refine lv_if_ne (pc := 17) (tgt := 22) hx hb dX0_writeUnit_17 (by decide) (fun c2 => ?_) (fun c2 => ?_)
    · skip
      have c2 : b_5 = true := bI_1.mp c2
      refine lv_iconst (pc := 22) (v := nI 0) hx hb dX0_writeUnit_22 (by decide) ?_
      refine lv_istore (pc := 23) (lv' := [(5, .int (nI 0)), (0, .ref a1), (1, .int (nI q)), (2, .ref a2), (3, .int (nI fr)), (4, .int (nI en))]) hx hb dX0_writeUnit_23 hl (by decide) rfl (fun ls hl => ?_)
      rw [← andFn_0 k.1 q (unitG k.1 fr en)] at hP hD
      refine x_loop (σ := (Nat)) (Wd := fun i : (Nat) => mW a1 a2 a3 a4 cI (andFn k.1 q (unitG k.1 fr en) i, kr_7) ut1) (Lv := fun i : (Nat) => [(5, .int (nI i)), (0, .ref a1), (1, .int (nI q)), (2, .ref a2), (3, .int (nI fr)), (4, .int (nI en))]) (I := fun i : (Nat) => (i ≤ 8)) (μ := fun i : (Nat) => 8 - i) ?_ (0) (Nat.zero_le _) hP hD hS (lv_sub hl [0, 1, 2, 3, 4, 5] rfl)
      intro i H locs ls hI hP hD hS hl ih25
      have hi8 : (i ≤ 8) := hI
      have hP : va_P (dC, dI) vwCl (mW a1 a2 a3 a4 cI (andFn k.1 q (unitG k.1 fr en) i, kr_7) ut1) _ := hP
      have hD : va_D A (mW a1 a2 a3 a4 cI (andFn k.1 q (unitG k.1 fr en) i, kr_7) ut1) := hD
      have hl : lv_has ls 6 [(5, .int (nI i)), (0, .ref a1), (1, .int (nI q)), (2, .ref a2), (3, .int (nI fr)), (4, .int (nI en))] := hl
      refine lv_iload (pc := 25) hx hb dX0_writeUnit_25 (lv_at hl 0 rfl) ?_
      refine lv_bipush (pc := 27) (v := nI 8) hx hb dX0_writeUnit_27 (by decide) ?_
      refine lv_icmp_ge (pc := 29) (tgt := 53) hx hb dX0_writeUnit_29 (by decide) (fun c_8 => ?_) (fun c_8 => ?_)
      · skip
        have c_8 : 8 ≤ i := (nI_leI (a := 8) (b := i) (by omega) (by omega)).mp c_8
        refine lv_iconst (pc := 53) (v := nI 1) hx hb dX0_writeUnit_53 (by decide) ?_
        have hi9 : i = 8 := by omega
        subst hi9
        exact W.zret (v := nI 1) hx hb hr rfl (fun t ht hW => ⟨⟨nI 1, ((andFn k.1 q (unitG k.1 fr en) 8, kr_7), ut1), rfl, ⟨by rw [kActs_unit, c1]; show _ = bI (kBegin k).2; rw [← eb_5, c2]; rfl, by rw [kActs_unit, c1]; show _ = (if (kBegin k).2 = true then andFn k.1 q (unitG k.1 fr en) 8 else k.1, (kBegin k).1.2); rw [← eb_5, c2, hkr]; rfl⟩, by show va_P _ _ _ t.heap; rw [ht]; exact hP, va_K.moved hW.alike hK, hD⟩, hS.F ht⟩) hS.2.2 dX0_writeUnit_54
      · skip
        have c_8 : ¬ 8 ≤ i := fun z => c_8 ((nI_leI (a := 8) (b := i) (by omega) (by omega)).mpr z)
        refine lv_aload_n (pc := 32) hx hb dX0_writeUnit_32 rfl (lv_at hl 1 rfl) ?_
        refine lv_iload_n (pc := 33) hx hb dX0_writeUnit_33 rfl (lv_at hl 2 rfl) ?_
        refine lv_iload (pc := 34) hx hb dX0_writeUnit_34 (lv_at hl 0 rfl) ?_
        refine lv_iadd (pc := 36) hx hb dX0_writeUnit_36 ?_
        refine lv_cv (nI_add q i) ?_
        refine lv_aload_n (pc := 37) hx hb dX0_writeUnit_37 rfl (lv_at hl 1 rfl) ?_
        refine va_get (pc := 38) (D := (dC, dI)) (ci := 0) (v := .ref a4) (C := RX0) (T := TX0) (N := 9) hx hb hts (by decide +kernel) hown hK hP 0 rfl rfl 2 (by decide) (hts (.fieldLink RX0 18 "ScratchSwap$Memory" "unitTaken" "[I") (by decide +kernel)) (fun _ h9 => h9) rfl dX0_writeUnit_38 ?_
        refine lv_iload (pc := 41) hx hb dX0_writeUnit_41 (lv_at hl 0 rfl) ?_
        refine x_iald (pc := 43) (k := i) (f := ut1) hx hb hK hP 3 0 rfl rfl (by omega) (by decide) dX0_writeUnit_43 ?_
        refine x_wrv (pc := 44) (va_runV (As := [.int (nI (q + i)), .int (ut1 i)]) (rest := []) ⟨hx, hb, hml, hown, hts⟩ (kX0_keepBits l dC dI tt cI cB _ a1 a2 a3 a4 (andFn k.1 q (unitG k.1 fr en) i, kr_7) ut1 (q + i) (ut1 i) (by omega)) (cwV 2 hts gX0_writeUnit_X0_keepBits rfl rfl rfl (by decide +kernel) ⟨Nat.le_of_ble_eq_true rfl, Nat.le_of_ble_eq_true rfl⟩) (x_preV hS hE hK hP hD [0, 1, 2, 3] rfl (by decide) (va_free hD hS hA [0, 1, 2, 3] rfl) xR0 0 0 rfl rfl) rfl rfl hl.1 rfl (lv_room (Nat.le_of_ble_eq_true rfl)) dX0_writeUnit_44 ⟨Nat.le_of_ble_eq_true rfl, Nat.le_of_ble_eq_true rfl⟩) hS hA hP hD [0, 1, 2, 3] [] rfl rfl (by decide) (by decide) (fun u_9 H locs hu_9 hP hD hS => ?_)
        subst hu_9
        have hP := hP.sub (ws' := mW a1 a2 a3 a4 cI (va_up (andFn k.1 q (unitG k.1 fr en) i) (q + i) ((andFn k.1 q (unitG k.1 fr en) i) (q + i) &&& Int32.toInt8 (ut1 i)), kr_7) ut1) [0, 1, 2, 3] rfl
        have hD := hD.sub (ws' := mW a1 a2 a3 a4 cI (va_up (andFn k.1 q (unitG k.1 fr en) i) (q + i) ((andFn k.1 q (unitG k.1 fr en) i) (q + i) &&& Int32.toInt8 (ut1 i)), kr_7) ut1) [0, 1, 2, 3] (by decide) rfl
        refine lv_iinc (pc := 47) (v := nI (i + 1)) (lv' := [(5, .int (nI (i + 1))), (0, .ref a1), (1, .int (nI q)), (2, .ref a2), (3, .int (nI fr)), (4, .int (nI en))]) hx hb dX0_writeUnit_47 hl (k := 0) rfl (nI_inc i 1) (by decide) rfl (fun ls hl => ?_)
        refine lv_goto (pc := 50) (tgt := 25) hx hb dX0_writeUnit_50 (by decide) ?_
        rw [hu i (by omega), ub_8, andFn_step] at hP hD
        exact ih25 (i + 1) H locs ls (by omega) (by first | omega | (simp only []; omega)) hP hD hS (lv_sub hl [0, 1, 2, 3, 4, 5] rfl)
    · skip
      have c2 : b_5 = false := bI_0.mp c2
      refine lv_iconst (pc := 20) (v := nI 0) hx hb dX0_writeUnit_20 (by decide) ?_
      exact W.zret (v := nI 0) hx hb hr rfl (fun t ht hW => ⟨⟨nI 0, ((k.1, kr_7), ut1), rfl, ⟨by rw [kActs_unit, c1]; show _ = bI (kBegin k).2; rw [← eb_5, c2]; rfl, by rw [kActs_unit, c1]; show _ = (if (kBegin k).2 = true then andFn k.1 q (unitG k.1 fr en) 8 else k.1, (kBegin k).1.2); rw [← eb_5, c2, hkr]; rfl⟩, by show va_P _ _ _ t.heap; rw [ht]; exact hP, va_K.moved hW.alike hK, hD⟩, hS.F ht⟩) hS.2.2 dX0_writeUnit_21
  · skip
    have c1 : blkTo (unitG k.1 fr en) 8 = true := bI_1.mp c1
    refine lv_iconst (pc := 11) (v := nI 1) hx hb dX0_writeUnit_11 (by decide) ?_
    exact W.zret (v := nI 1) hx hb hr rfl (fun t ht hW => ⟨⟨nI 1, (k, ut1), rfl, ⟨by rw [kActs_unit, c1]; rfl, by rw [kActs_unit, c1]; rfl⟩, by show va_P _ _ _ t.heap; rw [ht]; exact hP, va_K.moved hW.alike hK, hD⟩, hS.F ht⟩) hS.2.2 dX0_writeUnit_12
set_option maxHeartbeats 4000000 in
set_option maxRecDepth 100000 in
theorem kX0_markUnit (l : Launch) (dC : Nat → ClassId) (dI : Nat → Nat → Nat) (tt : Nat → Nat) (cI cB : ClassId) (sz : Nat) (a1 a2 a3 a4 : Nat) (k : K0) (ut : Nat → Int32) (i0 j0 : Nat) (x : Int32) (hk : kOk k) (hq : i0 * 256 + j0 * 8 + 8 ≤ 2816) : MetI (S := K0) l yX0_markUnit wsX0_markUnit { frames := 1, cells := 0, slots := 0, locals := 22 } (dC, dI) [(cI, .int), (cB, .byte)] tt [] sz (mW a1 a2 a3 a4 cI k ut) [.ref a1, .int (nI i0), .int (nI j0), .int x] (fun u : K0 => mW a1 a2 a3 a4 cI u ut) (fun r u => r = bI (kActs (markL (i0 * 256 + j0 * 8) x) k).2 ∧ u = (kActs (markL (i0 * 256 + j0 * 8) x) k).1) := by
  refine Met.ofW (cc := cX0_markUnit) (maxL := 6) (ret := (some .boolean)) (by decide) rfl ?_
  intro p e s m args below meth c s₁ B hml hv
  obtain ⟨rfl, hsz, hP, hK, hD0, hE⟩ := hv
  have hx := B.exec
  have hb := B.bytes
  have hr := B.returns
  have hts := atoms_spec (ws := wsX0_markUnit) B.pre
  have hown : s.vm.findClass RX0 = some m.cls := findClass_of_methodNamed B.named
  have hlocks := B.notSynchronized
  subst hsz
  have hD := hD0.self (sz := s.heap.size)
  generalize hAe : va_A (mW a1 a2 a3 a4 cI k ut) s.heap.size = A at hD hE ⊢
  have hA : ∀ q : Nat, s.heap.size ≤ q → A q := fun q h => by rw [← hAe]; exact Or.inr h
  have hS : va_S A s.heap s.heap [] := va_S.rf
  have hl := lv_entry ([.ref a1, .int (nI i0), .int (nI j0), .int x]) (n := 6) (Nat.le_of_ble_eq_true rfl)
  rw [lg_entry_eq]
  generalize (lg_sl ([.ref a1, .int (nI i0), .int (nI j0), .int x]) ++ List.replicate (6 - (lg_sl ([.ref a1, .int (nI i0), .int (nI j0), .int x])).length) Slot.unset).toArray = ls at hl ⊢
  have hl : lv_has ls 6 [(0, .ref a1), (1, .int (nI i0)), (2, .int (nI j0)), (3, .int x)] := hl
  have hP : va_P (dC, dI) vwCl (mW a1 a2 a3 a4 cI k ut) s.heap := hP
  refine lv_aload_n (pc := 0) hx hb dX0_markUnit_0 rfl (lv_at hl 0 rfl) ?_
  refine x_wri (pc := 1) (va_runV (As := []) (rest := []) ⟨hx, hb, hml, hown, hts⟩ (kX0_beginAct l dC dI tt cI cB _ a1 a2 a3 a4 k ut  hk.1 hk.2.1) (cwV 0 hts gX0_markUnit_X0_beginAct rfl rfl rfl (by decide +kernel) ⟨Nat.le_of_ble_eq_true rfl, Nat.le_of_ble_eq_true rfl⟩) (x_preV hS hE hK hP hD [0, 1, 2, 3] rfl (by decide) (va_free hD hS hA [0, 1, 2, 3] rfl) xR0 0 0 rfl rfl) rfl rfl hl.1 rfl (lv_room (Nat.le_of_ble_eq_true rfl)) dX0_markUnit_1 ⟨Nat.le_of_ble_eq_true rfl, Nat.le_of_ble_eq_true rfl⟩) hS hA hP hD [0, 1, 2, 3] [] rfl rfl (by decide) (by decide) (fun r_2 u_1 H locs hu_1 hP hD hS => ?_)
  obtain ⟨hr_2, eu_1⟩ := hu_1
  obtain ⟨b_3, eb_3⟩ : ∃ z, z = (kBegin k).2 := ⟨_, rfl⟩
  rw [← eb_3] at hr_2
  subst hr_2
  have hP := hP.sub (ws' := mW a1 a2 a3 a4 cI u_1 ut) [0, 1, 2, 3] rfl
  have hD := hD.sub (ws' := mW a1 a2 a3 a4 cI u_1 ut) [0, 1, 2, 3] (by decide) rfl
  obtain ⟨F_4, kr_5⟩ := u_1
  have hP : va_P (dC, dI) vwCl (mW a1 a2 a3 a4 cI (F_4, kr_5) ut) _ := hP
  have hD : va_D A (mW a1 a2 a3 a4 cI (F_4, kr_5) ut) := hD
  have hF1 : F_4 = k.1 := by have := congrArg (fun z : K0 => z.1) eu_1; rw [kBegin_F] at this; exact this
  subst hF1
  have hkr : kr_5 = (kBegin k).1.2 := by have := congrArg (fun z : K0 => z.2) eu_1; exact this
  have hP : va_P (dC, dI) vwCl (mW a1 a2 a3 a4 cI (k.1, kr_5) ut) _ := hP
  have hD : va_D A (mW a1 a2 a3 a4 cI (k.1, kr_5) ut) := hD
  refine lv_if_ne (pc := 4) (tgt := 9) hx hb dX0_markUnit_4 (by decide) (fun c2 => ?_) (fun c2 => ?_)
  · skip
    have c2 : b_3 = true := bI_1.mp c2
    refine lv_iload_n (pc := 9) hx hb dX0_markUnit_9 rfl (lv_at hl 1 rfl) ?_
    refine lv_iload_n (pc := 10) hx hb dX0_markUnit_10 rfl (lv_at hl 2 rfl) ?_
    refine x_roi (pc := 11) (va_runS (As := [.int (nI i0), .int (nI j0)]) (rest := []) ⟨hx, hb, hml, hown, hts⟩ (kX0_unitAt l dC dI tt cI cB _ i0 j0) (va_cwS 2 hts gX0_markUnit_X0_unitAt rfl rfl rfl (by decide +kernel) ⟨Nat.le_of_ble_eq_true rfl, Nat.le_of_ble_eq_true rfl⟩) (x_preS hS hE hK hP hD [] rfl (by decide) (x_ro hS hA) xR0) rfl rfl hl.1 rfl (lv_room (Nat.le_of_ble_eq_true rfl)) dX0_markUnit_11 ⟨Nat.le_of_ble_eq_true rfl, Nat.le_of_ble_eq_true rfl⟩) hS hA hP (fun r_6 H locs hr_6 hP hS => ?_)
    subst hr_6
    refine lv_istore (pc := 14) (lv' := [(4, .int (nI (i0 * 256 + j0 * 8))), (0, .ref a1), (1, .int (nI i0)), (2, .int (nI j0)), (3, .int x)]) hx hb dX0_markUnit_14 hl (by decide) rfl (fun ls hl => ?_)
    refine lv_iconst (pc := 16) (v := nI 0) hx hb dX0_markUnit_16 (by decide) ?_
    refine lv_istore (pc := 17) (lv' := [(5, .int (nI 0)), (4, .int (nI (i0 * 256 + j0 * 8))), (0, .ref a1), (1, .int (nI i0)), (2, .int (nI j0)), (3, .int x)]) hx hb dX0_markUnit_17 hl (by decide) rfl (fun ls hl => ?_)
    rw [← andFn_0 k.1 (i0 * 256 + j0 * 8) (fun _ => Int32.toInt8 x)] at hP hD
    refine x_loop (σ := (Nat)) (Wd := fun i : (Nat) => mW a1 a2 a3 a4 cI (andFn k.1 (i0 * 256 + j0 * 8) (fun _ => Int32.toInt8 x) i, kr_5) ut) (Lv := fun i : (Nat) => [(5, .int (nI i)), (4, .int (nI (i0 * 256 + j0 * 8))), (0, .ref a1), (1, .int (nI i0)), (2, .int (nI j0)), (3, .int x)]) (I := fun i : (Nat) => (i ≤ 8)) (μ := fun i : (Nat) => 8 - i) ?_ (0) (Nat.zero_le _) hP hD hS (lv_sub hl [0, 1, 2, 3, 4, 5] rfl)
    intro i H locs ls hI hP hD hS hl ih19
    have hi8 : (i ≤ 8) := hI
    have hP : va_P (dC, dI) vwCl (mW a1 a2 a3 a4 cI (andFn k.1 (i0 * 256 + j0 * 8) (fun _ => Int32.toInt8 x) i, kr_5) ut) _ := hP
    have hD : va_D A (mW a1 a2 a3 a4 cI (andFn k.1 (i0 * 256 + j0 * 8) (fun _ => Int32.toInt8 x) i, kr_5) ut) := hD
    have hl : lv_has ls 6 [(5, .int (nI i)), (4, .int (nI (i0 * 256 + j0 * 8))), (0, .ref a1), (1, .int (nI i0)), (2, .int (nI j0)), (3, .int x)] := hl
    refine lv_iload (pc := 19) hx hb dX0_markUnit_19 (lv_at hl 0 rfl) ?_
    refine lv_bipush (pc := 21) (v := nI 8) hx hb dX0_markUnit_21 (by decide) ?_
    refine lv_icmp_ge (pc := 23) (tgt := 42) hx hb dX0_markUnit_23 (by decide) (fun c_7 => ?_) (fun c_7 => ?_)
    · skip
      have c_7 : 8 ≤ i := (nI_leI (a := 8) (b := i) (by omega) (by omega)).mp c_7
      refine lv_iconst (pc := 42) (v := nI 1) hx hb dX0_markUnit_42 (by decide) ?_
      have hi9 : i = 8 := by omega
      subst hi9
      exact W.zret (v := nI 1) hx hb hr rfl (fun t ht hW => ⟨⟨nI 1, (andFn k.1 (i0 * 256 + j0 * 8) (fun _ => Int32.toInt8 x) 8, kr_5), rfl, ⟨by rw [markL, kActs_one]; show _ = bI (kBegin k).2; rw [← eb_3, c2]; rfl, by rw [markL, kActs_one]; show _ = (if (kBegin k).2 = true then andFn k.1 (i0 * 256 + j0 * 8) (fun _ => Int32.toInt8 x) 8 else k.1, (kBegin k).1.2); rw [← eb_3, c2, hkr]; rfl⟩, by show va_P _ _ _ t.heap; rw [ht]; exact hP, va_K.moved hW.alike hK, hD⟩, hS.F ht⟩) hS.2.2 dX0_markUnit_43
    · skip
      have c_7 : ¬ 8 ≤ i := fun z => c_7 ((nI_leI (a := 8) (b := i) (by omega) (by omega)).mpr z)
      refine lv_aload_n (pc := 26) hx hb dX0_markUnit_26 rfl (lv_at hl 2 rfl) ?_
      refine lv_iload (pc := 27) hx hb dX0_markUnit_27 (lv_at hl 1 rfl) ?_
      refine lv_iload (pc := 29) hx hb dX0_markUnit_29 (lv_at hl 0 rfl) ?_
      refine lv_iadd (pc := 31) hx hb dX0_markUnit_31 ?_
      refine lv_cv (nI_add (i0 * 256 + j0 * 8) i) ?_
      refine lv_iload_n (pc := 32) hx hb dX0_markUnit_32 rfl (lv_at hl 5 rfl) ?_
      refine x_wrv (pc := 33) (va_runV (As := [.int (nI ((i0 * 256 + j0 * 8) + i)), .int x]) (rest := []) ⟨hx, hb, hml, hown, hts⟩ (kX0_keepBits l dC dI tt cI cB _ a1 a2 a3 a4 (andFn k.1 (i0 * 256 + j0 * 8) (fun _ => Int32.toInt8 x) i, kr_5) ut ((i0 * 256 + j0 * 8) + i) x (by omega)) (cwV 2 hts gX0_markUnit_X0_keepBits rfl rfl rfl (by decide +kernel) ⟨Nat.le_of_ble_eq_true rfl, Nat.le_of_ble_eq_true rfl⟩) (x_preV hS hE hK hP hD [0, 1, 2, 3] rfl (by decide) (va_free hD hS hA [0, 1, 2, 3] rfl) xR0 0 0 rfl rfl) rfl rfl hl.1 rfl (lv_room (Nat.le_of_ble_eq_true rfl)) dX0_markUnit_33 ⟨Nat.le_of_ble_eq_true rfl, Nat.le_of_ble_eq_true rfl⟩) hS hA hP hD [0, 1, 2, 3] [] rfl rfl (by decide) (by decide) (fun u_8 H locs hu_8 hP hD hS => ?_)
      subst hu_8
      have hP := hP.sub (ws' := mW a1 a2 a3 a4 cI (va_up (andFn k.1 (i0 * 256 + j0 * 8) (fun _ => Int32.toInt8 x) i) ((i0 * 256 + j0 * 8) + i) ((andFn k.1 (i0 * 256 + j0 * 8) (fun _ => Int32.toInt8 x) i) ((i0 * 256 + j0 * 8) + i) &&& Int32.toInt8 x), kr_5) ut) [0, 1, 2, 3] rfl
      have hD := hD.sub (ws' := mW a1 a2 a3 a4 cI (va_up (andFn k.1 (i0 * 256 + j0 * 8) (fun _ => Int32.toInt8 x) i) ((i0 * 256 + j0 * 8) + i) ((andFn k.1 (i0 * 256 + j0 * 8) (fun _ => Int32.toInt8 x) i) ((i0 * 256 + j0 * 8) + i) &&& Int32.toInt8 x), kr_5) ut) [0, 1, 2, 3] (by decide) rfl
      refine lv_iinc (pc := 36) (v := nI (i + 1)) (lv' := [(5, .int (nI (i + 1))), (4, .int (nI (i0 * 256 + j0 * 8))), (0, .ref a1), (1, .int (nI i0)), (2, .int (nI j0)), (3, .int x)]) hx hb dX0_markUnit_36 hl (k := 0) rfl (nI_inc i 1) (by decide) rfl (fun ls hl => ?_)
      refine lv_goto (pc := 39) (tgt := 19) hx hb dX0_markUnit_39 (by decide) ?_
      rw [andFn_step] at hP hD
      exact ih19 (i + 1) H locs ls (by omega) (by first | omega | (simp only []; omega)) hP hD hS (lv_sub hl [0, 1, 2, 3, 4, 5] rfl)
  · skip
    have c2 : b_3 = false := bI_0.mp c2
    refine lv_iconst (pc := 7) (v := nI 0) hx hb dX0_markUnit_7 (by decide) ?_
    exact W.zret (v := nI 0) hx hb hr rfl (fun t ht hW => ⟨⟨nI 0, (k.1, kr_5), rfl, ⟨by rw [markL, kActs_one]; show _ = bI (kBegin k).2; rw [← eb_3, c2]; rfl, by rw [markL, kActs_one]; show _ = (if (kBegin k).2 = true then andFn k.1 (i0 * 256 + j0 * 8) (fun _ => Int32.toInt8 x) 8 else k.1, (kBegin k).1.2); rw [← eb_3, c2, hkr]; rfl⟩, by show va_P _ _ _ t.heap; rw [ht]; exact hP, va_K.moved hW.alike hK, hD⟩, hS.F ht⟩) hS.2.2 dX0_markUnit_8
