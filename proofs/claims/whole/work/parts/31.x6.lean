set_option maxHeartbeats 4000000 in
set_option maxRecDepth 100000 in
theorem kX3_install (l : Launch) (dC : Nat → ClassId) (dI : Nat → Nat → Nat) (tt : Nat → Nat) (cI cB : ClassId) (sz : Nat) (a0 a1 a2 a3 a4 a5 a6 a7 a8 a9 : Nat) (k : K0) (ut : Nat → Int32) (tb : Nat → Int8) (tn : Nat) (sc hs : Nat → Int32) (rn : Bool) (rv wb ee we : Int32) (x : Int32) (hlf : k.2.2.2.2.1 < 2 ^ 31) (hcu : k.2.2.2.2.2.1 < 32) (htn : tn ≤ 1024) : MetI (S := (K0 × (Nat → Int32) × Bool × Int32)) l yX3_install wsX3_install { frames := 4, cells := 0, slots := 0, locals := 88 } (dC, dI) [(cI, .int), (cB, .byte)] tt [] sz (xW a0 a1 a2 a3 a4 a5 a6 a7 a8 a9 cI k ut tb tn sc hs rn rv wb ee we) [.ref a0, .int x] (fun u : (K0 × (Nat → Int32) × Bool × Int32) => xW a0 a1 a2 a3 a4 a5 a6 a7 a8 a9 cI u.1 u.2.1 tb 0 sc hs u.2.2.1 u.2.2.2 wb ee we) (fun r u => (r, u.1, u.2.2.1, u.2.2.2) = insR k tb tn rn rv x) := by
  refine Met.ofW (cc := cX3_install) (maxL := 3) (ret := (some .int)) (by decide) rfl ?_
  intro p e s m args below meth c s₁ B hml hv
  obtain ⟨rfl, hsz, hP, hK, hD0, hE⟩ := hv
  have hx := B.exec
  have hb := B.bytes
  have hr := B.returns
  have hts := atoms_spec (ws := wsX3_install) B.pre
  have hown : s.vm.findClass RX3 = some m.cls := findClass_of_methodNamed B.named
  have hlocks := B.notSynchronized
  subst hsz
  have hD := hD0.self (sz := s.heap.size)
  generalize hAe : va_A (xW a0 a1 a2 a3 a4 a5 a6 a7 a8 a9 cI k ut tb tn sc hs rn rv wb ee we) s.heap.size = A at hD hE ⊢
  have hA : ∀ q : Nat, s.heap.size ≤ q → A q := fun q h => by rw [← hAe]; exact Or.inr h
  have hS : va_S A s.heap s.heap [] := va_S.rf
  have hl := lv_entry ([.ref a0, .int x]) (n := 3) (Nat.le_of_ble_eq_true rfl)
  rw [lg_entry_eq]
  generalize (lg_sl ([.ref a0, .int x]) ++ List.replicate (3 - (lg_sl ([.ref a0, .int x])).length) Slot.unset).toArray = ls at hl ⊢
  have hl : lv_has ls 3 [(0, .ref a0), (1, .int x)] := hl
  have hP : va_P (dC, dI) vwCl (xW a0 a1 a2 a3 a4 a5 a6 a7 a8 a9 cI k ut tb tn sc hs rn rv wb ee we) s.heap := hP
  refine lv_aload_n (pc := 0) hx hb dX3_install_0 rfl (lv_at hl 0 rfl) ?_
  refine va_get (pc := 1) (D := (dC, dI)) (ci := 3) (v := .ref a5) (C := RX3) (T := TX3) (N := 8) hx hb hts (by decide +kernel) hown hK hP 0 rfl rfl 1 (by decide) (hts (.fieldLink RX3 19 "ScratchSwap" "tape" "LScratchSwap$Tape;") (by decide +kernel)) (fun _ h9 => h9) rfl dX3_install_1 ?_
  refine va_getN (pc := 4) (D := (dC, dI)) (ci := 2) (v := .int (nI tn)) (C := RX2) (T := TX2) (N := 2) hx hb hts (by decide +kernel) hown hK hP 5 rfl rfl 1 (by decide) (hE.f 6 (q := (RX3, 47, "ScratchSwap$Tape", "count", "I", "ScratchSwap")) rfl) (fun _ h9 => h9) rfl dX3_install_4 ?_
  refine lv_istore_n (pc := 7) (lv' := [(2, .int (nI tn)), (0, .ref a0), (1, .int x)]) hx hb dX3_install_7 rfl hl (by decide) rfl (fun ls hl => ?_)
  refine lv_aload_n (pc := 8) hx hb dX3_install_8 rfl (lv_at hl 1 rfl) ?_
  refine va_get (pc := 9) (D := (dC, dI)) (ci := 3) (v := .ref a5) (C := RX3) (T := TX3) (N := 8) hx hb hts (by decide +kernel) hown hK hP 0 rfl rfl 1 (by decide) (hts (.fieldLink RX3 19 "ScratchSwap" "tape" "LScratchSwap$Tape;") (by decide +kernel)) (fun _ h9 => h9) rfl dX3_install_9 ?_
  refine lv_iconst (pc := 12) (v := nI 0) hx hb dX3_install_12 (by decide) ?_
  refine va_putN (pc := 13) (D := (dC, dI)) (ci := 2) (v := .int (nI 0)) (ty := .int) (C := RX2) (T := TX2) (N := 2) hx hb hts (by decide +kernel) tyX2 tyX2_ok nmX2 hown hK hP hD hS 5 rfl rfl 1 (by decide) (hE.f 6 (q := (RX3, 47, "ScratchSwap$Tape", "count", "I", "ScratchSwap")) rfl) (fun _ h9 => h9) rfl (by decide +kernel) rfl rfl (Nat.le_of_ble_eq_true rfl) dX3_install_13 (fun H locs hP hD hS => ?_)
  have hP : va_P (dC, dI) vwCl (xW a0 a1 a2 a3 a4 a5 a6 a7 a8 a9 cI k ut tb 0 sc hs rn rv wb ee we) _ := hP
  have hD : va_D A (xW a0 a1 a2 a3 a4 a5 a6 a7 a8 a9 cI k ut tb 0 sc hs rn rv wb ee we) := hD
  refine lv_aload_n (pc := 16) hx hb dX3_install_16 rfl (lv_at hl 1 rfl) ?_
  refine va_get (pc := 17) (D := (dC, dI)) (ci := 3) (v := .ref a1) (C := RX3) (T := TX3) (N := 8) hx hb hts (by decide +kernel) hown hK hP 0 rfl rfl 0 (by decide) (hts (.fieldLink RX3 12 "ScratchSwap" "memory" "LScratchSwap$Memory;") (by decide +kernel)) (fun _ h9 => h9) rfl dX3_install_17 ?_
  refine va_getN (pc := 20) (D := (dC, dI)) (ci := 0) (v := .int (bI k.2.2.1)) (C := RX0) (T := TX0) (N := 9) hx hb hts (by decide +kernel) hown hK hP 1 rfl rfl 3 (by decide) (hE.f 2 (q := (RX3, 58, "ScratchSwap$Memory", "down", "Z", "ScratchSwap")) rfl) (fun _ h9 => h9) rfl dX3_install_20 ?_
  refine lv_if_eq (pc := 23) (tgt := 29) hx hb dX3_install_23 (by decide) (fun c1 => ?_) (fun c1 => ?_)
  · skip
    have c1 : k.2.2.1 = false := bI_0.mp c1
    have hk : kOk k := ⟨c1, hlf, hcu⟩
    refine lv_iload_n (pc := 29) hx hb dX3_install_29 rfl (lv_at hl 2 rfl) ?_
    refine x_roi (pc := 30) (va_runS (As := [.int x]) (rest := []) ⟨hx, hb, hml, hown, hts⟩ (kX3_isSlot l dC dI tt cI cB _ x) (va_cwS 1 hts gX3_install_X3_isSlot rfl rfl rfl (by decide +kernel) ⟨Nat.le_of_ble_eq_true rfl, Nat.le_of_ble_eq_true rfl⟩) (x_preS hS hE hK hP hD [] rfl (by decide) (x_ro hS hA) xR0) rfl rfl hl.1 rfl (lv_room (Nat.le_of_ble_eq_true rfl)) dX3_install_30 ⟨Nat.le_of_ble_eq_true rfl, Nat.le_of_ble_eq_true rfl⟩) hS hA hP (fun r_1 H locs hr_1 hP hS => ?_)
    subst hr_1
    refine lv_if_ne (pc := 33) (tgt := 38) hx hb dX3_install_33 (by decide) (fun c2 => ?_) (fun c2 => ?_)
    · skip
      have c2 : slotB x = true := bI_1.mp c2
      obtain ⟨w, hw2, ew⟩ := slotB_of c2
      rw [ew] at hl
      have hcl : x.toNatClampNeg = w := by rw [ew]; exact nI_clamp (by omega)
      refine lv_aload_n (pc := 38) hx hb dX3_install_38 rfl (lv_at hl 1 rfl) ?_
      refine x_roi (pc := 39) (va_runV (As := []) (rest := []) ⟨hx, hb, hml, hown, hts⟩ (kX3_isUnderWay l dC dI tt cI cB _ a0 a1 a2 a3 a4 a5 a6 a7 a8 a9 k ut tb 0 sc hs rn rv wb ee we ) (cwV 0 hts gX3_install_X3_isUnderWay rfl rfl rfl (by decide +kernel) ⟨Nat.le_of_ble_eq_true rfl, Nat.le_of_ble_eq_true rfl⟩) (x_preVa hS hE hK hP hD (x_ro hS hA) xR0 3 0 rfl rfl) rfl rfl hl.1 rfl (lv_room (Nat.le_of_ble_eq_true rfl)) dX3_install_39 ⟨Nat.le_of_ble_eq_true rfl, Nat.le_of_ble_eq_true rfl⟩) hS hA hP (fun r_2 H locs hr_2 hP hS => ?_)
      subst hr_2
      refine lv_if_eq (pc := 42) (tgt := 48) hx hb dX3_install_42 (by decide) (fun c3 => ?_) (fun c3 => ?_)
      · skip
        have c3 : uwB k.1 = false := bI_0.mp c3
        refine lv_iload_n (pc := 48) hx hb dX3_install_48 rfl (lv_at hl 2 rfl) ?_
        refine lv_if_ne (pc := 49) (tgt := 56) hx hb dX3_install_49 (by decide) (fun c4 => ?_) (fun c4 => ?_)
        · skip
          have c4 : ¬ w = 0 := fun z => c4 ((nI_eq (a := w) (b := 0) (by omega) (by omega)).mpr z)
          refine lv_aload_n (pc := 56) hx hb dX3_install_56 rfl (lv_at hl 1 rfl) ?_
          refine lv_iload_n (pc := 57) hx hb dX3_install_57 rfl (lv_at hl 2 rfl) ?_
          refine x_wria (pc := 58) (va_runV (As := [.int (nI w)]) (rest := []) ⟨hx, hb, hml, hown, hts⟩ (kX3_eraseSlot l dC dI tt cI cB _ a0 a1 a2 a3 a4 a5 a6 a7 a8 a9 k ut tb 0 sc hs rn rv wb ee we w hk (by omega)) (cwV 1 hts gX3_install_X3_eraseSlot rfl rfl rfl (by decide +kernel) ⟨Nat.le_of_ble_eq_true rfl, Nat.le_of_ble_eq_true rfl⟩) (x_preVa hS hE hK hP hD (x_all hD hS hA) xR0 3 0 rfl rfl) rfl rfl hl.1 rfl (lv_room (Nat.le_of_ble_eq_true rfl)) dX3_install_58 ⟨Nat.le_of_ble_eq_true rfl, Nat.le_of_ble_eq_true rfl⟩) hS hA hD (fun r_4 u_3 H locs hu_3 hP hD hS => ?_)
          obtain ⟨hr_4, eu_3⟩ : r_4 = bI (kActs (eraL w) k).2 ∧ u_3 = (kActs (eraL w) k).1 := hu_3
          obtain ⟨b_5, eb_5⟩ : ∃ z, z = (kActs (eraL w) k).2 := ⟨_, rfl⟩
          rw [← eb_5] at hr_4
          subst hr_4
          have hP : va_P (dC, dI) vwCl (xW a0 a1 a2 a3 a4 a5 a6 a7 a8 a9 cI u_3 ut tb 0 sc hs rn rv wb ee we) _ := hP
          have hD : va_D A (xW a0 a1 a2 a3 a4 a5 a6 a7 a8 a9 cI u_3 ut tb 0 sc hs rn rv wb ee we) := hD
          refine lv_if_eq (pc := 61) (tgt := 86) hx hb dX3_install_61 (by decide) (fun c5 => ?_) (fun c5 => ?_)
          · skip
            have c5 : b_5 = false := bI_0.mp c5
            have f1 : (kActs (eraL w) k).2 = false := eb_5.symm.trans c5
            refine lv_aload_n (pc := 86) hx hb dX3_install_86 rfl (lv_at hl 1 rfl) ?_
            refine x_wria (pc := 87) (va_runV (As := []) (rest := []) ⟨hx, hb, hml, hown, hts⟩ (kX3_powerWent l dC dI tt cI cB _ a0 a1 a2 a3 a4 a5 a6 a7 a8 a9 u_3 ut tb 0 sc hs rn rv wb ee we ) (cwV 0 hts gX3_install_X3_powerWent rfl rfl rfl (by decide +kernel) ⟨Nat.le_of_ble_eq_true rfl, Nat.le_of_ble_eq_true rfl⟩) (x_preVa hS hE hK hP hD (x_all hD hS hA) xR0 3 0 rfl rfl) rfl rfl hl.1 rfl (lv_room (Nat.le_of_ble_eq_true rfl)) dX3_install_87 ⟨Nat.le_of_ble_eq_true rfl, Nat.le_of_ble_eq_true rfl⟩) hS hA hD (fun r_7 u_6 H locs hu_6 hP hD hS => ?_)
            subst hu_6
            have hP : va_P (dC, dI) vwCl (xW a0 a1 a2 a3 a4 a5 a6 a7 a8 a9 cI u_3 ut tb 0 sc hs false (nI 0) wb ee we) _ := hP
            have hD : va_D A (xW a0 a1 a2 a3 a4 a5 a6 a7 a8 a9 cI u_3 ut tb 0 sc hs false (nI 0) wb ee we) := hD
            have hth : kActs (insL w tb tn) k = kActs (eraL w) k := by rw [insL, app_f f1]
            exact W.iret (v := (-9)) hx hb hr (fun t ht hW => ⟨⟨(-9), (u_3, ut, false, nI 0), rfl, by rw [insR, if_neg (by rw [c1]; decide), if_neg (by rw [c2]; decide), if_neg (by rw [c3]; decide), hcl, hth, if_neg (by rw [f1]; decide), ← eu_3], by show va_P _ _ _ t.heap; rw [ht]; exact hP, va_K.moved hW.alike hK, hD⟩, hS.F ht⟩) hS.2.2 dX3_install_90
          · skip
            have c5 : b_5 = true := bI_1.mp c5
            have f1 : (kActs (eraL w) k).2 = true := eb_5.symm.trans c5
            have hk1 : kOk u_3 := by rw [eu_3]; exact kActs_ok hk f1
            have hF1 : u_3.1 = appL ((eraL w)) k.1 := by rw [eu_3]; exact kActs_F f1
            refine lv_aload_n (pc := 64) hx hb dX3_install_64 rfl (lv_at hl 1 rfl) ?_
            refine va_get (pc := 65) (D := (dC, dI)) (ci := 3) (v := .ref a1) (C := RX3) (T := TX3) (N := 8) hx hb hts (by decide +kernel) hown hK hP 0 rfl rfl 0 (by decide) (hts (.fieldLink RX3 12 "ScratchSwap" "memory" "LScratchSwap$Memory;") (by decide +kernel)) (fun _ h9 => h9) rfl dX3_install_65 ?_
            refine lv_iload_n (pc := 68) hx hb dX3_install_68 rfl (lv_at hl 2 rfl) ?_
            refine x_roi (pc := 69) (va_runS (As := [.int (nI w)]) (rest := [.ref a1]) ⟨hx, hb, hml, hown, hts⟩ (kX3_firstByteOf l dC dI tt cI cB _ w (by omega)) (va_cwS 1 hts gX3_install_X3_firstByteOf rfl rfl rfl (by decide +kernel) ⟨Nat.le_of_ble_eq_true rfl, Nat.le_of_ble_eq_true rfl⟩) (x_preS hS hE hK hP hD [] rfl (by decide) (x_ro hS hA) xR0) rfl rfl hl.1 rfl (lv_room (Nat.le_of_ble_eq_true rfl)) dX3_install_69 ⟨Nat.le_of_ble_eq_true rfl, Nat.le_of_ble_eq_true rfl⟩) hS hA hP (fun r_8 H locs hr_8 hP hS => ?_)
            subst hr_8
            refine lv_aload_n (pc := 72) hx hb dX3_install_72 rfl (lv_at hl 1 rfl) ?_
            refine va_get (pc := 73) (D := (dC, dI)) (ci := 3) (v := .ref a5) (C := RX3) (T := TX3) (N := 8) hx hb hts (by decide +kernel) hown hK hP 0 rfl rfl 1 (by decide) (hts (.fieldLink RX3 19 "ScratchSwap" "tape" "LScratchSwap$Tape;") (by decide +kernel)) (fun _ h9 => h9) rfl dX3_install_73 ?_
            refine va_getN (pc := 76) (D := (dC, dI)) (ci := 2) (v := .ref a6) (C := RX2) (T := TX2) (N := 2) hx hb hts (by decide +kernel) hown hK hP 5 rfl rfl 0 (by decide) (hE.f 5 (q := (RX3, 79, "ScratchSwap$Tape", "bytes", "[I", "ScratchSwap")) rfl) (fun _ h9 => h9) rfl dX3_install_76 ?_
            refine lv_iload_n (pc := 79) hx hb dX3_install_79 rfl (lv_at hl 0 rfl) ?_
            refine x_wri (pc := 80) (va_runVN (As := [.int (nI (w * 5 * 256)), .ref a6, .int (nI tn)]) (rest := []) ⟨hx, hb, hml, hown, hts⟩ (kX0_writeRow l dC dI tt cI cB _ a1 a2 a3 a4 u_3 ut a6 1024 tb (w * 5 * 256) tn ((tn + 7) / 8) hk1 (by omega) (by omega) (by omega) (by omega) (by omega)) (⟨va_cnB 3 hts gX3_install_X0_writeRow_n83 rfl rfl rfl (hE.m 9 (q := (RX3, 83, yX0_writeRow, "ScratchSwap")) rfl) (hts (.initialized RX0) (by decide +kernel)) (by decide +kernel) ⟨Nat.le_of_ble_eq_true rfl, Nat.le_of_ble_eq_true rfl⟩, hts (.instanceMethod yX0_writeRow) (by decide +kernel), hts (.selects RX0 yX0_writeRow yX0_writeRow) (by decide +kernel)⟩) (x_preV hS hE hK hP hD [1, 2, 3, 4] rfl (by decide) (va_free hD hS hA [1, 2, 3, 4] rfl) (xRc hK hP hD 6 0 rfl rfl [1, 2, 3, 4] rfl (by decide)) 0 1 rfl rfl) rfl rfl hl.1 rfl (lv_room (Nat.le_of_ble_eq_true rfl)) dX3_install_80 ⟨Nat.le_of_ble_eq_true rfl, Nat.le_of_ble_eq_true rfl⟩) hS hA hP hD [1, 2, 3, 4] [0, 5, 6, 7, 8, 9] rfl rfl (by decide) (by decide) (fun r_10 u_9 H locs hu_9 hP hD hS => ?_)
            obtain ⟨k_12, t_13⟩ := u_9
            obtain ⟨hr_10, ek_12⟩ : r_10 = bI (kActs (rowL (w * 5 * 256) tb tn ((tn + 7) / 8) 0) u_3).2 ∧ k_12 = (kActs (rowL (w * 5 * 256) tb tn ((tn + 7) / 8) 0) u_3).1 := hu_9
            obtain ⟨b_11, eb_11⟩ : ∃ z, z = (kActs (rowL (w * 5 * 256) tb tn ((tn + 7) / 8) 0) u_3).2 := ⟨_, rfl⟩
            rw [← eb_11] at hr_10
            subst hr_10
            have hP := hP.sub (ws' := xW a0 a1 a2 a3 a4 a5 a6 a7 a8 a9 cI k_12 t_13 tb 0 sc hs rn rv wb ee we) [0, 6, 7, 8, 9, 1, 2, 3, 4, 5] rfl
            have hD := hD.sub (ws' := xW a0 a1 a2 a3 a4 a5 a6 a7 a8 a9 cI k_12 t_13 tb 0 sc hs rn rv wb ee we) [0, 6, 7, 8, 9, 1, 2, 3, 4, 5] (by decide) rfl
            refine lv_if_ne (pc := 83) (tgt := 91) hx hb dX3_install_83 (by decide) (fun c6 => ?_) (fun c6 => ?_)
            · skip
              have c6 : b_11 = true := bI_1.mp c6
              have f2 : (kActs (rowL (w * 5 * 256) tb tn ((tn + 7) / 8) 0) u_3).2 = true := eb_11.symm.trans c6
              have hk2 : kOk k_12 := by rw [ek_12]; exact kActs_ok hk1 f2
              have hF2 : k_12.1 = appL ((rowL (w * 5 * 256) tb tn ((tn + 7) / 8) 0)) u_3.1 := by rw [ek_12]; exact kActs_F f2
              refine lv_iload_n (pc := 91) hx hb dX3_install_91 rfl (lv_at hl 0 rfl) ?_
              have hth : kActs (insL w tb tn) k = kActs (rowL (w * 5 * 256) tb tn ((tn + 7) / 8) 0) u_3 := by rw [insL, app_t f1, ← eu_3]
              exact W.iret (v := nI tn) hx hb hr (fun t ht hW => ⟨⟨nI tn, (k_12, t_13, rn, rv), rfl, by rw [insR, if_neg (by rw [c1]; decide), if_neg (by rw [c2]; decide), if_neg (by rw [c3]; decide), hcl, hth, if_pos f2, ← ek_12, if_neg c4, if_neg c4], by show va_P _ _ _ t.heap; rw [ht]; exact hP, va_K.moved hW.alike hK, hD⟩, hS.F ht⟩) hS.2.2 dX3_install_92
            · skip
              have c6 : b_11 = false := bI_0.mp c6
              have f2 : (kActs (rowL (w * 5 * 256) tb tn ((tn + 7) / 8) 0) u_3).2 = false := eb_11.symm.trans c6
              refine lv_aload_n (pc := 86) hx hb dX3_install_86 rfl (lv_at hl 1 rfl) ?_
              refine x_wria (pc := 87) (va_runV (As := []) (rest := []) ⟨hx, hb, hml, hown, hts⟩ (kX3_powerWent l dC dI tt cI cB _ a0 a1 a2 a3 a4 a5 a6 a7 a8 a9 k_12 t_13 tb 0 sc hs rn rv wb ee we ) (cwV 0 hts gX3_install_X3_powerWent rfl rfl rfl (by decide +kernel) ⟨Nat.le_of_ble_eq_true rfl, Nat.le_of_ble_eq_true rfl⟩) (x_preVa hS hE hK hP hD (x_all hD hS hA) xR0 3 0 rfl rfl) rfl rfl hl.1 rfl (lv_room (Nat.le_of_ble_eq_true rfl)) dX3_install_87 ⟨Nat.le_of_ble_eq_true rfl, Nat.le_of_ble_eq_true rfl⟩) hS hA hD (fun r_15 u_14 H locs hu_14 hP hD hS => ?_)
              subst hu_14
              have hP : va_P (dC, dI) vwCl (xW a0 a1 a2 a3 a4 a5 a6 a7 a8 a9 cI k_12 t_13 tb 0 sc hs false (nI 0) wb ee we) _ := hP
              have hD : va_D A (xW a0 a1 a2 a3 a4 a5 a6 a7 a8 a9 cI k_12 t_13 tb 0 sc hs false (nI 0) wb ee we) := hD
              have hth : kActs (insL w tb tn) k = kActs (rowL (w * 5 * 256) tb tn ((tn + 7) / 8) 0) u_3 := by rw [insL, app_t f1, ← eu_3]
              exact W.iret (v := (-9)) hx hb hr (fun t ht hW => ⟨⟨(-9), (k_12, t_13, false, nI 0), rfl, by rw [insR, if_neg (by rw [c1]; decide), if_neg (by rw [c2]; decide), if_neg (by rw [c3]; decide), hcl, hth, if_neg (by rw [f2]; decide), ← ek_12], by show va_P _ _ _ t.heap; rw [ht]; exact hP, va_K.moved hW.alike hK, hD⟩, hS.F ht⟩) hS.2.2 dX3_install_90
        · skip
          have c4 : w = 0 := (nI_eq (a := w) (b := 0) (by omega) (by omega)).mp c4
          refine lv_aload_n (pc := 52) hx hb dX3_install_52 rfl (lv_at hl 1 rfl) ?_
          refine x_wrva (pc := 53) (va_runV (As := []) (rest := []) ⟨hx, hb, hml, hown, hts⟩ (kX3_stopRunning l dC dI tt cI cB _ a0 a1 a2 a3 a4 a5 a6 a7 a8 a9 k ut tb 0 sc hs rn rv wb ee we ) (cwV 0 hts gX3_install_X3_stopRunning rfl rfl rfl (by decide +kernel) ⟨Nat.le_of_ble_eq_true rfl, Nat.le_of_ble_eq_true rfl⟩) (x_preVa hS hE hK hP hD (x_all hD hS hA) xR0 3 0 rfl rfl) rfl rfl hl.1 rfl (lv_room (Nat.le_of_ble_eq_true rfl)) dX3_install_53 ⟨Nat.le_of_ble_eq_true rfl, Nat.le_of_ble_eq_true rfl⟩) hS hA hD (fun u_16 H locs hu_16 hP hD hS => ?_)
          have hP : va_P (dC, dI) vwCl (xW a0 a1 a2 a3 a4 a5 a6 a7 a8 a9 cI k ut tb 0 sc hs false (nI 0) wb ee we) _ := hP
          have hD : va_D A (xW a0 a1 a2 a3 a4 a5 a6 a7 a8 a9 cI k ut tb 0 sc hs false (nI 0) wb ee we) := hD
          refine lv_aload_n (pc := 56) hx hb dX3_install_56 rfl (lv_at hl 1 rfl) ?_
          refine lv_iload_n (pc := 57) hx hb dX3_install_57 rfl (lv_at hl 2 rfl) ?_
          refine x_wria (pc := 58) (va_runV (As := [.int (nI w)]) (rest := []) ⟨hx, hb, hml, hown, hts⟩ (kX3_eraseSlot l dC dI tt cI cB _ a0 a1 a2 a3 a4 a5 a6 a7 a8 a9 k ut tb 0 sc hs false (nI 0) wb ee we w hk (by omega)) (cwV 1 hts gX3_install_X3_eraseSlot rfl rfl rfl (by decide +kernel) ⟨Nat.le_of_ble_eq_true rfl, Nat.le_of_ble_eq_true rfl⟩) (x_preVa hS hE hK hP hD (x_all hD hS hA) xR0 3 0 rfl rfl) rfl rfl hl.1 rfl (lv_room (Nat.le_of_ble_eq_true rfl)) dX3_install_58 ⟨Nat.le_of_ble_eq_true rfl, Nat.le_of_ble_eq_true rfl⟩) hS hA hD (fun r_18 u_17 H locs hu_17 hP hD hS => ?_)
          obtain ⟨hr_18, eu_17⟩ : r_18 = bI (kActs (eraL w) k).2 ∧ u_17 = (kActs (eraL w) k).1 := hu_17
          obtain ⟨b_19, eb_19⟩ : ∃ z, z = (kActs (eraL w) k).2 := ⟨_, rfl⟩
          rw [← eb_19] at hr_18
          subst hr_18
          have hP : va_P (dC, dI) vwCl (xW a0 a1 a2 a3 a4 a5 a6 a7 a8 a9 cI u_17 ut tb 0 sc hs false (nI 0) wb ee we) _ := hP
          have hD : va_D A (xW a0 a1 a2 a3 a4 a5 a6 a7 a8 a9 cI u_17 ut tb 0 sc hs false (nI 0) wb ee we) := hD
          refine lv_if_eq (pc := 61) (tgt := 86) hx hb dX3_install_61 (by decide) (fun c5 => ?_) (fun c5 => ?_)
          · skip
            have c5 : b_19 = false := bI_0.mp c5
            have f1 : (kActs (eraL w) k).2 = false := eb_19.symm.trans c5
            refine lv_aload_n (pc := 86) hx hb dX3_install_86 rfl (lv_at hl 1 rfl) ?_
            refine x_wria (pc := 87) (va_runV (As := []) (rest := []) ⟨hx, hb, hml, hown, hts⟩ (kX3_powerWent l dC dI tt cI cB _ a0 a1 a2 a3 a4 a5 a6 a7 a8 a9 u_17 ut tb 0 sc hs false (nI 0) wb ee we ) (cwV 0 hts gX3_install_X3_powerWent rfl rfl rfl (by decide +kernel) ⟨Nat.le_of_ble_eq_true rfl, Nat.le_of_ble_eq_true rfl⟩) (x_preVa hS hE hK hP hD (x_all hD hS hA) xR0 3 0 rfl rfl) rfl rfl hl.1 rfl (lv_room (Nat.le_of_ble_eq_true rfl)) dX3_install_87 ⟨Nat.le_of_ble_eq_true rfl, Nat.le_of_ble_eq_true rfl⟩) hS hA hD (fun r_21 u_20 H locs hu_20 hP hD hS => ?_)
            subst hu_20
            have hP : va_P (dC, dI) vwCl (xW a0 a1 a2 a3 a4 a5 a6 a7 a8 a9 cI u_17 ut tb 0 sc hs false (nI 0) wb ee we) _ := hP
            have hD : va_D A (xW a0 a1 a2 a3 a4 a5 a6 a7 a8 a9 cI u_17 ut tb 0 sc hs false (nI 0) wb ee we) := hD
            have hth : kActs (insL w tb tn) k = kActs (eraL w) k := by rw [insL, app_f f1]
            exact W.iret (v := (-9)) hx hb hr (fun t ht hW => ⟨⟨(-9), (u_17, ut, false, nI 0), rfl, by rw [insR, if_neg (by rw [c1]; decide), if_neg (by rw [c2]; decide), if_neg (by rw [c3]; decide), hcl, hth, if_neg (by rw [f1]; decide), ← eu_17], by show va_P _ _ _ t.heap; rw [ht]; exact hP, va_K.moved hW.alike hK, hD⟩, hS.F ht⟩) hS.2.2 dX3_install_90
          · skip
            have c5 : b_19 = true := bI_1.mp c5
            have f1 : (kActs (eraL w) k).2 = true := eb_19.symm.trans c5
            have hk1 : kOk u_17 := by rw [eu_17]; exact kActs_ok hk f1
            have hF1 : u_17.1 = appL ((eraL w)) k.1 := by rw [eu_17]; exact kActs_F f1
            refine lv_aload_n (pc := 64) hx hb dX3_install_64 rfl (lv_at hl 1 rfl) ?_
            refine va_get (pc := 65) (D := (dC, dI)) (ci := 3) (v := .ref a1) (C := RX3) (T := TX3) (N := 8) hx hb hts (by decide +kernel) hown hK hP 0 rfl rfl 0 (by decide) (hts (.fieldLink RX3 12 "ScratchSwap" "memory" "LScratchSwap$Memory;") (by decide +kernel)) (fun _ h9 => h9) rfl dX3_install_65 ?_
            refine lv_iload_n (pc := 68) hx hb dX3_install_68 rfl (lv_at hl 2 rfl) ?_
            refine x_roi (pc := 69) (va_runS (As := [.int (nI w)]) (rest := [.ref a1]) ⟨hx, hb, hml, hown, hts⟩ (kX3_firstByteOf l dC dI tt cI cB _ w (by omega)) (va_cwS 1 hts gX3_install_X3_firstByteOf rfl rfl rfl (by decide +kernel) ⟨Nat.le_of_ble_eq_true rfl, Nat.le_of_ble_eq_true rfl⟩) (x_preS hS hE hK hP hD [] rfl (by decide) (x_ro hS hA) xR0) rfl rfl hl.1 rfl (lv_room (Nat.le_of_ble_eq_true rfl)) dX3_install_69 ⟨Nat.le_of_ble_eq_true rfl, Nat.le_of_ble_eq_true rfl⟩) hS hA hP (fun r_22 H locs hr_22 hP hS => ?_)
            subst hr_22
            refine lv_aload_n (pc := 72) hx hb dX3_install_72 rfl (lv_at hl 1 rfl) ?_
            refine va_get (pc := 73) (D := (dC, dI)) (ci := 3) (v := .ref a5) (C := RX3) (T := TX3) (N := 8) hx hb hts (by decide +kernel) hown hK hP 0 rfl rfl 1 (by decide) (hts (.fieldLink RX3 19 "ScratchSwap" "tape" "LScratchSwap$Tape;") (by decide +kernel)) (fun _ h9 => h9) rfl dX3_install_73 ?_
            refine va_getN (pc := 76) (D := (dC, dI)) (ci := 2) (v := .ref a6) (C := RX2) (T := TX2) (N := 2) hx hb hts (by decide +kernel) hown hK hP 5 rfl rfl 0 (by decide) (hE.f 5 (q := (RX3, 79, "ScratchSwap$Tape", "bytes", "[I", "ScratchSwap")) rfl) (fun _ h9 => h9) rfl dX3_install_76 ?_
            refine lv_iload_n (pc := 79) hx hb dX3_install_79 rfl (lv_at hl 0 rfl) ?_
            refine x_wri (pc := 80) (va_runVN (As := [.int (nI (w * 5 * 256)), .ref a6, .int (nI tn)]) (rest := []) ⟨hx, hb, hml, hown, hts⟩ (kX0_writeRow l dC dI tt cI cB _ a1 a2 a3 a4 u_17 ut a6 1024 tb (w * 5 * 256) tn ((tn + 7) / 8) hk1 (by omega) (by omega) (by omega) (by omega) (by omega)) (⟨va_cnB 3 hts gX3_install_X0_writeRow_n83 rfl rfl rfl (hE.m 9 (q := (RX3, 83, yX0_writeRow, "ScratchSwap")) rfl) (hts (.initialized RX0) (by decide +kernel)) (by decide +kernel) ⟨Nat.le_of_ble_eq_true rfl, Nat.le_of_ble_eq_true rfl⟩, hts (.instanceMethod yX0_writeRow) (by decide +kernel), hts (.selects RX0 yX0_writeRow yX0_writeRow) (by decide +kernel)⟩) (x_preV hS hE hK hP hD [1, 2, 3, 4] rfl (by decide) (va_free hD hS hA [1, 2, 3, 4] rfl) (xRc hK hP hD 6 0 rfl rfl [1, 2, 3, 4] rfl (by decide)) 0 1 rfl rfl) rfl rfl hl.1 rfl (lv_room (Nat.le_of_ble_eq_true rfl)) dX3_install_80 ⟨Nat.le_of_ble_eq_true rfl, Nat.le_of_ble_eq_true rfl⟩) hS hA hP hD [1, 2, 3, 4] [0, 5, 6, 7, 8, 9] rfl rfl (by decide) (by decide) (fun r_24 u_23 H locs hu_23 hP hD hS => ?_)
            obtain ⟨k_26, t_27⟩ := u_23
            obtain ⟨hr_24, ek_26⟩ : r_24 = bI (kActs (rowL (w * 5 * 256) tb tn ((tn + 7) / 8) 0) u_17).2 ∧ k_26 = (kActs (rowL (w * 5 * 256) tb tn ((tn + 7) / 8) 0) u_17).1 := hu_23
            obtain ⟨b_25, eb_25⟩ : ∃ z, z = (kActs (rowL (w * 5 * 256) tb tn ((tn + 7) / 8) 0) u_17).2 := ⟨_, rfl⟩
            rw [← eb_25] at hr_24
            subst hr_24
            have hP := hP.sub (ws' := xW a0 a1 a2 a3 a4 a5 a6 a7 a8 a9 cI k_26 t_27 tb 0 sc hs false (nI 0) wb ee we) [0, 6, 7, 8, 9, 1, 2, 3, 4, 5] rfl
            have hD := hD.sub (ws' := xW a0 a1 a2 a3 a4 a5 a6 a7 a8 a9 cI k_26 t_27 tb 0 sc hs false (nI 0) wb ee we) [0, 6, 7, 8, 9, 1, 2, 3, 4, 5] (by decide) rfl
            refine lv_if_ne (pc := 83) (tgt := 91) hx hb dX3_install_83 (by decide) (fun c6 => ?_) (fun c6 => ?_)
            · skip
              have c6 : b_25 = true := bI_1.mp c6
              have f2 : (kActs (rowL (w * 5 * 256) tb tn ((tn + 7) / 8) 0) u_17).2 = true := eb_25.symm.trans c6
              have hk2 : kOk k_26 := by rw [ek_26]; exact kActs_ok hk1 f2
              have hF2 : k_26.1 = appL ((rowL (w * 5 * 256) tb tn ((tn + 7) / 8) 0)) u_17.1 := by rw [ek_26]; exact kActs_F f2
              refine lv_iload_n (pc := 91) hx hb dX3_install_91 rfl (lv_at hl 0 rfl) ?_
              have hth : kActs (insL w tb tn) k = kActs (rowL (w * 5 * 256) tb tn ((tn + 7) / 8) 0) u_17 := by rw [insL, app_t f1, ← eu_17]
              exact W.iret (v := nI tn) hx hb hr (fun t ht hW => ⟨⟨nI tn, (k_26, t_27, false, nI 0), rfl, by rw [insR, if_neg (by rw [c1]; decide), if_neg (by rw [c2]; decide), if_neg (by rw [c3]; decide), hcl, hth, if_pos f2, ← ek_26, if_pos c4, if_pos c4], by show va_P _ _ _ t.heap; rw [ht]; exact hP, va_K.moved hW.alike hK, hD⟩, hS.F ht⟩) hS.2.2 dX3_install_92
            · skip
              have c6 : b_25 = false := bI_0.mp c6
              have f2 : (kActs (rowL (w * 5 * 256) tb tn ((tn + 7) / 8) 0) u_17).2 = false := eb_25.symm.trans c6
              refine lv_aload_n (pc := 86) hx hb dX3_install_86 rfl (lv_at hl 1 rfl) ?_
              refine x_wria (pc := 87) (va_runV (As := []) (rest := []) ⟨hx, hb, hml, hown, hts⟩ (kX3_powerWent l dC dI tt cI cB _ a0 a1 a2 a3 a4 a5 a6 a7 a8 a9 k_26 t_27 tb 0 sc hs false (nI 0) wb ee we ) (cwV 0 hts gX3_install_X3_powerWent rfl rfl rfl (by decide +kernel) ⟨Nat.le_of_ble_eq_true rfl, Nat.le_of_ble_eq_true rfl⟩) (x_preVa hS hE hK hP hD (x_all hD hS hA) xR0 3 0 rfl rfl) rfl rfl hl.1 rfl (lv_room (Nat.le_of_ble_eq_true rfl)) dX3_install_87 ⟨Nat.le_of_ble_eq_true rfl, Nat.le_of_ble_eq_true rfl⟩) hS hA hD (fun r_29 u_28 H locs hu_28 hP hD hS => ?_)
              subst hu_28
              have hP : va_P (dC, dI) vwCl (xW a0 a1 a2 a3 a4 a5 a6 a7 a8 a9 cI k_26 t_27 tb 0 sc hs false (nI 0) wb ee we) _ := hP
              have hD : va_D A (xW a0 a1 a2 a3 a4 a5 a6 a7 a8 a9 cI k_26 t_27 tb 0 sc hs false (nI 0) wb ee we) := hD
              have hth : kActs (insL w tb tn) k = kActs (rowL (w * 5 * 256) tb tn ((tn + 7) / 8) 0) u_17 := by rw [insL, app_t f1, ← eu_17]
              exact W.iret (v := (-9)) hx hb hr (fun t ht hW => ⟨⟨(-9), (k_26, t_27, false, nI 0), rfl, by rw [insR, if_neg (by rw [c1]; decide), if_neg (by rw [c2]; decide), if_neg (by rw [c3]; decide), hcl, hth, if_neg (by rw [f2]; decide), ← ek_26], by show va_P _ _ _ t.heap; rw [ht]; exact hP, va_K.moved hW.alike hK, hD⟩, hS.F ht⟩) hS.2.2 dX3_install_90
      · skip
        have c3 : uwB k.1 = true := bI_1.mp c3
        refine lv_bipush (pc := 45) (v := (-3)) hx hb dX3_install_45 (by decide) ?_
        exact W.iret (v := (-3)) hx hb hr (fun t ht hW => ⟨⟨(-3), (k, ut, rn, rv), rfl, by rw [insR, if_neg (by rw [c1]; decide), if_neg (by rw [c2]; decide), if_pos c3], by show va_P _ _ _ t.heap; rw [ht]; exact hP, va_K.moved hW.alike hK, hD⟩, hS.F ht⟩) hS.2.2 dX3_install_47
    · skip
      have c2 : slotB x = false := bI_0.mp c2
      refine lv_iconst (pc := 36) (v := (-1)) hx hb dX3_install_36 (by decide) ?_
      exact W.iret (v := (-1)) hx hb hr (fun t ht hW => ⟨⟨(-1), (k, ut, rn, rv), rfl, by rw [insR, if_neg (by rw [c1]; decide), if_pos c2], by show va_P _ _ _ t.heap; rw [ht]; exact hP, va_K.moved hW.alike hK, hD⟩, hS.F ht⟩) hS.2.2 dX3_install_37
  · skip
    have c1 : k.2.2.1 = true := bI_1.mp c1
    refine lv_bipush (pc := 26) (v := (-9)) hx hb dX3_install_26 (by decide) ?_
    exact W.iret (v := (-9)) hx hb hr (fun t ht hW => ⟨⟨(-9), (k, ut, rn, rv), rfl, by rw [insR, if_pos c1], by show va_P _ _ _ t.heap; rw [ht]; exact hP, va_K.moved hW.alike hK, hD⟩, hS.F ht⟩) hS.2.2 dX3_install_28
set_option maxHeartbeats 4000000 in
set_option maxRecDepth 100000 in
theorem kX3_request (l : Launch) (dC : Nat → ClassId) (dI : Nat → Nat → Nat) (tt : Nat → Nat) (cI cB : ClassId) (sz : Nat) (a0 a1 a2 a3 a4 a5 a6 a7 a8 a9 : Nat) (k : K0) (ut : Nat → Int32) (tb : Nat → Int8) (tn : Nat) (sc hs : Nat → Int32) (rn : Bool) (rv wb ee we : Int32) (g : Bool) (hlf : k.2.2.2.2.1 < 2 ^ 31) (hcu : k.2.2.2.2.2.1 < 32) : MetI (S := (K0 × (Nat → Int32) × Bool × Int32)) l yX3_request wsX3_request { frames := 4, cells := 0, slots := 0, locals := 97 } (dC, dI) [(cI, .int), (cB, .byte)] tt [] sz (xW a0 a1 a2 a3 a4 a5 a6 a7 a8 a9 cI k ut tb tn sc hs rn rv wb ee we) [.ref a0, .int (bI g)] (fun u : (K0 × (Nat → Int32) × Bool × Int32) => xW a0 a1 a2 a3 a4 a5 a6 a7 a8 a9 cI u.1 u.2.1 tb tn sc hs u.2.2.1 u.2.2.2 wb ee we) (fun r u => (r, u.1, u.2.2.1, u.2.2.2) = reqR k rn rv g) := by
  refine Met.ofW (cc := cX3_request) (maxL := 2) (ret := (some .int)) (by decide) rfl ?_
  intro p e s m args below meth c s₁ B hml hv
  obtain ⟨rfl, hsz, hP, hK, hD0, hE⟩ := hv
  have hx := B.exec
  have hb := B.bytes
  have hr := B.returns
  have hts := atoms_spec (ws := wsX3_request) B.pre
  have hown : s.vm.findClass RX3 = some m.cls := findClass_of_methodNamed B.named
  have hlocks := B.notSynchronized
  subst hsz
  have hD := hD0.self (sz := s.heap.size)
  generalize hAe : va_A (xW a0 a1 a2 a3 a4 a5 a6 a7 a8 a9 cI k ut tb tn sc hs rn rv wb ee we) s.heap.size = A at hD hE ⊢
  have hA : ∀ q : Nat, s.heap.size ≤ q → A q := fun q h => by rw [← hAe]; exact Or.inr h
  have hS : va_S A s.heap s.heap [] := va_S.rf
  have hl := lv_entry ([.ref a0, .int (bI g)]) (n := 2) (Nat.le_of_ble_eq_true rfl)
  rw [lg_entry_eq]
  generalize (lg_sl ([.ref a0, .int (bI g)]) ++ List.replicate (2 - (lg_sl ([.ref a0, .int (bI g)])).length) Slot.unset).toArray = ls at hl ⊢
  have hl : lv_has ls 2 [(0, .ref a0), (1, .int (bI g))] := hl
  have hP : va_P (dC, dI) vwCl (xW a0 a1 a2 a3 a4 a5 a6 a7 a8 a9 cI k ut tb tn sc hs rn rv wb ee we) s.heap := hP
  refine lv_aload_n (pc := 0) hx hb dX3_request_0 rfl (lv_at hl 0 rfl) ?_
  refine va_get (pc := 1) (D := (dC, dI)) (ci := 3) (v := .ref a1) (C := RX3) (T := TX3) (N := 8) hx hb hts (by decide +kernel) hown hK hP 0 rfl rfl 0 (by decide) (hts (.fieldLink RX3 12 "ScratchSwap" "memory" "LScratchSwap$Memory;") (by decide +kernel)) (fun _ h9 => h9) rfl dX3_request_1 ?_
  refine va_getN (pc := 4) (D := (dC, dI)) (ci := 0) (v := .int (bI k.2.2.1)) (C := RX0) (T := TX0) (N := 9) hx hb hts (by decide +kernel) hown hK hP 1 rfl rfl 3 (by decide) (hE.f 2 (q := (RX3, 58, "ScratchSwap$Memory", "down", "Z", "ScratchSwap")) rfl) (fun _ h9 => h9) rfl dX3_request_4 ?_
  refine lv_if_eq (pc := 7) (tgt := 13) hx hb dX3_request_7 (by decide) (fun c1 => ?_) (fun c1 => ?_)
  · skip
    have c1 : k.2.2.1 = false := bI_0.mp c1
    have hk : kOk k := ⟨c1, hlf, hcu⟩
    refine lv_aload_n (pc := 13) hx hb dX3_request_13 rfl (lv_at hl 0 rfl) ?_
    refine va_get (pc := 14) (D := (dC, dI)) (ci := 3) (v := .int (bI rn)) (C := RX3) (T := TX3) (N := 8) hx hb hts (by decide +kernel) hown hK hP 0 rfl rfl 3 (by decide) (hts (.fieldLink RX3 30 "ScratchSwap" "runs" "Z") (by decide +kernel)) (fun _ h9 => h9) rfl dX3_request_14 ?_
    refine lv_if_ne (pc := 17) (tgt := 23) hx hb dX3_request_17 (by decide) (fun c2 => ?_) (fun c2 => ?_)
    · skip
      have c2 : rn = true := bI_1.mp c2
      refine lv_iload_n (pc := 23) hx hb dX3_request_23 rfl (lv_at hl 1 rfl) ?_
      refine lv_if_eq (pc := 24) (tgt := 46) hx hb dX3_request_24 (by decide) (fun c3 => ?_) (fun c3 => ?_)
      · skip
        have c3 : g = false := bI_0.mp c3
        refine lv_aload_n (pc := 46) hx hb dX3_request_46 rfl (lv_at hl 0 rfl) ?_
        refine lv_bipush (pc := 47) (v := nI 9) hx hb dX3_request_47 (by decide) ?_
        refine x_wria (pc := 49) (va_runV (As := [.int (nI 9)]) (rest := []) ⟨hx, hb, hml, hown, hts⟩ (kX3_writeMagic l dC dI tt cI cB _ a0 a1 a2 a3 a4 a5 a6 a7 a8 a9 k ut tb tn sc hs rn rv wb ee we 9 hk (by omega)) (cwV 1 hts gX3_request_X3_writeMagic rfl rfl rfl (by decide +kernel) ⟨Nat.le_of_ble_eq_true rfl, Nat.le_of_ble_eq_true rfl⟩) (x_preVa hS hE hK hP hD (x_all hD hS hA) xR0 3 0 rfl rfl) rfl rfl hl.1 rfl (lv_room (Nat.le_of_ble_eq_true rfl)) dX3_request_49 ⟨Nat.le_of_ble_eq_true rfl, Nat.le_of_ble_eq_true rfl⟩) hS hA hD (fun r_2 u_1 H locs hu_1 hP hD hS => ?_)
        obtain ⟨k_4, t_5⟩ := u_1
        obtain ⟨hr_2, ek_4⟩ : r_2 = bI (kActs (magL (9 * 256 + 0 * 8)) k).2 ∧ k_4 = (kActs (magL (9 * 256 + 0 * 8)) k).1 := hu_1
        obtain ⟨b_3, eb_3⟩ : ∃ z, z = (kActs (magL (9 * 256 + 0 * 8)) k).2 := ⟨_, rfl⟩
        rw [← eb_3] at hr_2
        subst hr_2
        have hP : va_P (dC, dI) vwCl (xW a0 a1 a2 a3 a4 a5 a6 a7 a8 a9 cI k_4 t_5 tb tn sc hs rn rv wb ee we) _ := hP
        have hD : va_D A (xW a0 a1 a2 a3 a4 a5 a6 a7 a8 a9 cI k_4 t_5 tb tn sc hs rn rv wb ee we) := hD
        refine lv_if_ne (pc := 52) (tgt := 60) hx hb dX3_request_52 (by decide) (fun c5 => ?_) (fun c5 => ?_)
        · skip
          have c5 : b_3 = true := bI_1.mp c5
          have f2 : (kActs (magL (9 * 256 + 0 * 8)) k).2 = true := eb_3.symm.trans c5
          have hk2 : kOk k_4 := by rw [ek_4]; exact kActs_ok hk f2
          have hF2 : k_4.1 = appL ((magL (9 * 256 + 0 * 8))) k.1 := by rw [ek_4]; exact kActs_F f2
          refine lv_iconst (pc := 60) (v := nI 0) hx hb dX3_request_60 (by decide) ?_
          have hth : kActs (reqL g) k = kActs (magL (9 * 256 + 0 * 8)) k := by rw [reqL, if_neg (by rw [c3]; decide), List.nil_append]
          exact W.iret (v := nI 0) hx hb hr (fun t ht hW => ⟨⟨nI 0, (k_4, t_5, rn, rv), rfl, by rw [reqR, if_neg (by rw [c1]; decide), if_neg (by rw [c2]; decide), hth, if_pos f2, ← ek_4], by show va_P _ _ _ t.heap; rw [ht]; exact hP, va_K.moved hW.alike hK, hD⟩, hS.F ht⟩) hS.2.2 dX3_request_61
        · skip
          have c5 : b_3 = false := bI_0.mp c5
          have f2 : (kActs (magL (9 * 256 + 0 * 8)) k).2 = false := eb_3.symm.trans c5
          refine lv_aload_n (pc := 55) hx hb dX3_request_55 rfl (lv_at hl 0 rfl) ?_
          refine x_wria (pc := 56) (va_runV (As := []) (rest := []) ⟨hx, hb, hml, hown, hts⟩ (kX3_powerWent l dC dI tt cI cB _ a0 a1 a2 a3 a4 a5 a6 a7 a8 a9 k_4 t_5 tb tn sc hs rn rv wb ee we ) (cwV 0 hts gX3_request_X3_powerWent rfl rfl rfl (by decide +kernel) ⟨Nat.le_of_ble_eq_true rfl, Nat.le_of_ble_eq_true rfl⟩) (x_preVa hS hE hK hP hD (x_all hD hS hA) xR0 3 0 rfl rfl) rfl rfl hl.1 rfl (lv_room (Nat.le_of_ble_eq_true rfl)) dX3_request_56 ⟨Nat.le_of_ble_eq_true rfl, Nat.le_of_ble_eq_true rfl⟩) hS hA hD (fun r_7 u_6 H locs hu_6 hP hD hS => ?_)
          subst hu_6
          have hP : va_P (dC, dI) vwCl (xW a0 a1 a2 a3 a4 a5 a6 a7 a8 a9 cI k_4 t_5 tb tn sc hs false (nI 0) wb ee we) _ := hP
          have hD : va_D A (xW a0 a1 a2 a3 a4 a5 a6 a7 a8 a9 cI k_4 t_5 tb tn sc hs false (nI 0) wb ee we) := hD
          have hth : kActs (reqL g) k = kActs (magL (9 * 256 + 0 * 8)) k := by rw [reqL, if_neg (by rw [c3]; decide), List.nil_append]
          exact W.iret (v := (-9)) hx hb hr (fun t ht hW => ⟨⟨(-9), (k_4, t_5, false, nI 0), rfl, by rw [reqR, if_neg (by rw [c1]; decide), if_neg (by rw [c2]; decide), hth, if_neg (by rw [f2]; decide), ← ek_4], by show va_P _ _ _ t.heap; rw [ht]; exact hP, va_K.moved hW.alike hK, hD⟩, hS.F ht⟩) hS.2.2 dX3_request_59
      · skip
        have c3 : g = true := bI_1.mp c3
        refine lv_aload_n (pc := 27) hx hb dX3_request_27 rfl (lv_at hl 0 rfl) ?_
        refine va_get (pc := 28) (D := (dC, dI)) (ci := 3) (v := .ref a1) (C := RX3) (T := TX3) (N := 8) hx hb hts (by decide +kernel) hown hK hP 0 rfl rfl 0 (by decide) (hts (.fieldLink RX3 12 "ScratchSwap" "memory" "LScratchSwap$Memory;") (by decide +kernel)) (fun _ h9 => h9) rfl dX3_request_28 ?_
        refine lv_bipush (pc := 31) (v := nI 9) hx hb dX3_request_31 (by decide) ?_
        refine lv_iconst (pc := 33) (v := nI 3) hx hb dX3_request_33 (by decide) ?_
        refine lv_iconst (pc := 34) (v := nI 1) hx hb dX3_request_34 (by decide) ?_
        refine x_wri (pc := 35) (va_runVN (As := [.int (nI 9), .int (nI 3), .int (nI 1)]) (rest := []) ⟨hx, hb, hml, hown, hts⟩ (kX0_markUnit l dC dI tt cI cB _ a1 a2 a3 a4 k ut 9 3 (nI 1) hk (by omega)) (⟨va_cnB 3 hts gX3_request_X0_markUnit_n91 rfl rfl rfl (hE.m 10 (q := (RX3, 91, yX0_markUnit, "ScratchSwap")) rfl) (hts (.initialized RX0) (by decide +kernel)) (by decide +kernel) ⟨Nat.le_of_ble_eq_true rfl, Nat.le_of_ble_eq_true rfl⟩, hts (.instanceMethod yX0_markUnit) (by decide +kernel), hts (.selects RX0 yX0_markUnit yX0_markUnit) (by decide +kernel)⟩) (x_preV hS hE hK hP hD [1, 2, 3, 4] rfl (by decide) (va_free hD hS hA [1, 2, 3, 4] rfl) xR0 0 1 rfl rfl) rfl rfl hl.1 rfl (lv_room (Nat.le_of_ble_eq_true rfl)) dX3_request_35 ⟨Nat.le_of_ble_eq_true rfl, Nat.le_of_ble_eq_true rfl⟩) hS hA hP hD [1, 2, 3, 4] [0, 5, 6, 7, 8, 9] rfl rfl (by decide) (by decide) (fun r_9 u_8 H locs hu_8 hP hD hS => ?_)
        obtain ⟨hr_9, eu_8⟩ : r_9 = bI (kActs (markL (9 * 256 + 3 * 8) (nI 1)) k).2 ∧ u_8 = (kActs (markL (9 * 256 + 3 * 8) (nI 1)) k).1 := hu_8
        obtain ⟨b_10, eb_10⟩ : ∃ z, z = (kActs (markL (9 * 256 + 3 * 8) (nI 1)) k).2 := ⟨_, rfl⟩
        rw [← eb_10] at hr_9
        subst hr_9
        have hP := hP.sub (ws' := xW a0 a1 a2 a3 a4 a5 a6 a7 a8 a9 cI u_8 ut tb tn sc hs rn rv wb ee we) [0, 6, 7, 8, 9, 1, 2, 3, 4, 5] rfl
        have hD := hD.sub (ws' := xW a0 a1 a2 a3 a4 a5 a6 a7 a8 a9 cI u_8 ut tb tn sc hs rn rv wb ee we) [0, 6, 7, 8, 9, 1, 2, 3, 4, 5] (by decide) rfl
        refine lv_if_ne (pc := 38) (tgt := 46) hx hb dX3_request_38 (by decide) (fun c4 => ?_) (fun c4 => ?_)
        · skip
          have c4 : b_10 = true := bI_1.mp c4
          have f1 : (kActs (markL (9 * 256 + 3 * 8) (nI 1)) k).2 = true := eb_10.symm.trans c4
          have hk1 : kOk u_8 := by rw [eu_8]; exact kActs_ok hk f1
          have hF1 : u_8.1 = appL ((markL (9 * 256 + 3 * 8) (nI 1))) k.1 := by rw [eu_8]; exact kActs_F f1
          refine lv_aload_n (pc := 46) hx hb dX3_request_46 rfl (lv_at hl 0 rfl) ?_
          refine lv_bipush (pc := 47) (v := nI 9) hx hb dX3_request_47 (by decide) ?_
          refine x_wria (pc := 49) (va_runV (As := [.int (nI 9)]) (rest := []) ⟨hx, hb, hml, hown, hts⟩ (kX3_writeMagic l dC dI tt cI cB _ a0 a1 a2 a3 a4 a5 a6 a7 a8 a9 u_8 ut tb tn sc hs rn rv wb ee we 9 hk1 (by omega)) (cwV 1 hts gX3_request_X3_writeMagic rfl rfl rfl (by decide +kernel) ⟨Nat.le_of_ble_eq_true rfl, Nat.le_of_ble_eq_true rfl⟩) (x_preVa hS hE hK hP hD (x_all hD hS hA) xR0 3 0 rfl rfl) rfl rfl hl.1 rfl (lv_room (Nat.le_of_ble_eq_true rfl)) dX3_request_49 ⟨Nat.le_of_ble_eq_true rfl, Nat.le_of_ble_eq_true rfl⟩) hS hA hD (fun r_12 u_11 H locs hu_11 hP hD hS => ?_)
          obtain ⟨k_14, t_15⟩ := u_11
          obtain ⟨hr_12, ek_14⟩ : r_12 = bI (kActs (magL (9 * 256 + 0 * 8)) u_8).2 ∧ k_14 = (kActs (magL (9 * 256 + 0 * 8)) u_8).1 := hu_11
          obtain ⟨b_13, eb_13⟩ : ∃ z, z = (kActs (magL (9 * 256 + 0 * 8)) u_8).2 := ⟨_, rfl⟩
          rw [← eb_13] at hr_12
          subst hr_12
          have hP : va_P (dC, dI) vwCl (xW a0 a1 a2 a3 a4 a5 a6 a7 a8 a9 cI k_14 t_15 tb tn sc hs rn rv wb ee we) _ := hP
          have hD : va_D A (xW a0 a1 a2 a3 a4 a5 a6 a7 a8 a9 cI k_14 t_15 tb tn sc hs rn rv wb ee we) := hD
          refine lv_if_ne (pc := 52) (tgt := 60) hx hb dX3_request_52 (by decide) (fun c5 => ?_) (fun c5 => ?_)
          · skip
            have c5 : b_13 = true := bI_1.mp c5
            have f2 : (kActs (magL (9 * 256 + 0 * 8)) u_8).2 = true := eb_13.symm.trans c5
            have hk2 : kOk k_14 := by rw [ek_14]; exact kActs_ok hk1 f2
            have hF2 : k_14.1 = appL ((magL (9 * 256 + 0 * 8))) u_8.1 := by rw [ek_14]; exact kActs_F f2
            refine lv_iconst (pc := 60) (v := nI 0) hx hb dX3_request_60 (by decide) ?_
            have hth : kActs (reqL g) k = kActs (magL (9 * 256 + 0 * 8)) u_8 := by rw [reqL, if_pos c3, app_t f1, ← eu_8]
            exact W.iret (v := nI 0) hx hb hr (fun t ht hW => ⟨⟨nI 0, (k_14, t_15, rn, rv), rfl, by rw [reqR, if_neg (by rw [c1]; decide), if_neg (by rw [c2]; decide), hth, if_pos f2, ← ek_14], by show va_P _ _ _ t.heap; rw [ht]; exact hP, va_K.moved hW.alike hK, hD⟩, hS.F ht⟩) hS.2.2 dX3_request_61
          · skip
            have c5 : b_13 = false := bI_0.mp c5
            have f2 : (kActs (magL (9 * 256 + 0 * 8)) u_8).2 = false := eb_13.symm.trans c5
            refine lv_aload_n (pc := 55) hx hb dX3_request_55 rfl (lv_at hl 0 rfl) ?_
            refine x_wria (pc := 56) (va_runV (As := []) (rest := []) ⟨hx, hb, hml, hown, hts⟩ (kX3_powerWent l dC dI tt cI cB _ a0 a1 a2 a3 a4 a5 a6 a7 a8 a9 k_14 t_15 tb tn sc hs rn rv wb ee we ) (cwV 0 hts gX3_request_X3_powerWent rfl rfl rfl (by decide +kernel) ⟨Nat.le_of_ble_eq_true rfl, Nat.le_of_ble_eq_true rfl⟩) (x_preVa hS hE hK hP hD (x_all hD hS hA) xR0 3 0 rfl rfl) rfl rfl hl.1 rfl (lv_room (Nat.le_of_ble_eq_true rfl)) dX3_request_56 ⟨Nat.le_of_ble_eq_true rfl, Nat.le_of_ble_eq_true rfl⟩) hS hA hD (fun r_17 u_16 H locs hu_16 hP hD hS => ?_)
            subst hu_16
            have hP : va_P (dC, dI) vwCl (xW a0 a1 a2 a3 a4 a5 a6 a7 a8 a9 cI k_14 t_15 tb tn sc hs false (nI 0) wb ee we) _ := hP
            have hD : va_D A (xW a0 a1 a2 a3 a4 a5 a6 a7 a8 a9 cI k_14 t_15 tb tn sc hs false (nI 0) wb ee we) := hD
            have hth : kActs (reqL g) k = kActs (magL (9 * 256 + 0 * 8)) u_8 := by rw [reqL, if_pos c3, app_t f1, ← eu_8]
            exact W.iret (v := (-9)) hx hb hr (fun t ht hW => ⟨⟨(-9), (k_14, t_15, false, nI 0), rfl, by rw [reqR, if_neg (by rw [c1]; decide), if_neg (by rw [c2]; decide), hth, if_neg (by rw [f2]; decide), ← ek_14], by show va_P _ _ _ t.heap; rw [ht]; exact hP, va_K.moved hW.alike hK, hD⟩, hS.F ht⟩) hS.2.2 dX3_request_59
        · skip
          have c4 : b_10 = false := bI_0.mp c4
          have f1 : (kActs (markL (9 * 256 + 3 * 8) (nI 1)) k).2 = false := eb_10.symm.trans c4
          refine lv_aload_n (pc := 41) hx hb dX3_request_41 rfl (lv_at hl 0 rfl) ?_
          refine x_wria (pc := 42) (va_runV (As := []) (rest := []) ⟨hx, hb, hml, hown, hts⟩ (kX3_powerWent l dC dI tt cI cB _ a0 a1 a2 a3 a4 a5 a6 a7 a8 a9 u_8 ut tb tn sc hs rn rv wb ee we ) (cwV 0 hts gX3_request_X3_powerWent rfl rfl rfl (by decide +kernel) ⟨Nat.le_of_ble_eq_true rfl, Nat.le_of_ble_eq_true rfl⟩) (x_preVa hS hE hK hP hD (x_all hD hS hA) xR0 3 0 rfl rfl) rfl rfl hl.1 rfl (lv_room (Nat.le_of_ble_eq_true rfl)) dX3_request_42 ⟨Nat.le_of_ble_eq_true rfl, Nat.le_of_ble_eq_true rfl⟩) hS hA hD (fun r_19 u_18 H locs hu_18 hP hD hS => ?_)
          subst hu_18
          have hP : va_P (dC, dI) vwCl (xW a0 a1 a2 a3 a4 a5 a6 a7 a8 a9 cI u_8 ut tb tn sc hs false (nI 0) wb ee we) _ := hP
          have hD : va_D A (xW a0 a1 a2 a3 a4 a5 a6 a7 a8 a9 cI u_8 ut tb tn sc hs false (nI 0) wb ee we) := hD
          have hth : kActs (reqL g) k = kActs (markL (9 * 256 + 3 * 8) (nI 1)) k := by rw [reqL, if_pos c3, app_f f1]
          exact W.iret (v := (-9)) hx hb hr (fun t ht hW => ⟨⟨(-9), (u_8, ut, false, nI 0), rfl, by rw [reqR, if_neg (by rw [c1]; decide), if_neg (by rw [c2]; decide), hth, if_neg (by rw [f1]; decide), ← eu_8], by show va_P _ _ _ t.heap; rw [ht]; exact hP, va_K.moved hW.alike hK, hD⟩, hS.F ht⟩) hS.2.2 dX3_request_45
    · skip
      have c2 : rn = false := bI_0.mp c2
      refine lv_bipush (pc := 20) (v := (-2)) hx hb dX3_request_20 (by decide) ?_
      exact W.iret (v := (-2)) hx hb hr (fun t ht hW => ⟨⟨(-2), (k, ut, rn, rv), rfl, by rw [reqR, if_neg (by rw [c1]; decide), if_pos c2], by show va_P _ _ _ t.heap; rw [ht]; exact hP, va_K.moved hW.alike hK, hD⟩, hS.F ht⟩) hS.2.2 dX3_request_22
  · skip
    have c1 : k.2.2.1 = true := bI_1.mp c1
    refine lv_bipush (pc := 10) (v := (-9)) hx hb dX3_request_10 (by decide) ?_
    exact W.iret (v := (-9)) hx hb hr (fun t ht hW => ⟨⟨(-9), (k, ut, rn, rv), rfl, by rw [reqR, if_pos c1], by show va_P _ _ _ t.heap; rw [ht]; exact hP, va_K.moved hW.alike hK, hD⟩, hS.F ht⟩) hS.2.2 dX3_request_12
set_option maxHeartbeats 4000000 in
set_option maxRecDepth 100000 in
theorem kX3_confirm (l : Launch) (dC : Nat → ClassId) (dI : Nat → Nat → Nat) (tt : Nat → Nat) (cI cB : ClassId) (sz : Nat) (a0 a1 a2 a3 a4 a5 a6 a7 a8 a9 : Nat) (k : K0) (ut : Nat → Int32) (tb : Nat → Int8) (tn : Nat) (sc hs : Nat → Int32) (rn : Bool) (rv wb ee we : Int32) (hlf : k.2.2.2.2.1 < 2 ^ 31) (hcu : k.2.2.2.2.2.1 < 32) : MetI (S := (K0 × (Nat → Int32) × Bool × Int32)) l yX3_confirm wsX3_confirm { frames := 3, cells := 0, slots := 0, locals := 68 } (dC, dI) [(cI, .int), (cB, .byte)] tt [] sz (xW a0 a1 a2 a3 a4 a5 a6 a7 a8 a9 cI k ut tb tn sc hs rn rv wb ee we) [.ref a0] (fun u : (K0 × (Nat → Int32) × Bool × Int32) => xW a0 a1 a2 a3 a4 a5 a6 a7 a8 a9 cI u.1 u.2.1 tb tn sc hs u.2.2.1 u.2.2.2 wb ee we) (fun r u => (r, u.1, u.2.2.1, u.2.2.2) = cfmR k rn rv) := by
  refine Met.ofW (cc := cX3_confirm) (maxL := 1) (ret := (some .int)) (by decide) rfl ?_
  intro p e s m args below meth c s₁ B hml hv
  obtain ⟨rfl, hsz, hP, hK, hD0, hE⟩ := hv
  have hx := B.exec
  have hb := B.bytes
  have hr := B.returns
  have hts := atoms_spec (ws := wsX3_confirm) B.pre
  have hown : s.vm.findClass RX3 = some m.cls := findClass_of_methodNamed B.named
  have hlocks := B.notSynchronized
  subst hsz
  have hD := hD0.self (sz := s.heap.size)
  generalize hAe : va_A (xW a0 a1 a2 a3 a4 a5 a6 a7 a8 a9 cI k ut tb tn sc hs rn rv wb ee we) s.heap.size = A at hD hE ⊢
  have hA : ∀ q : Nat, s.heap.size ≤ q → A q := fun q h => by rw [← hAe]; exact Or.inr h
  have hS : va_S A s.heap s.heap [] := va_S.rf
  have hl := lv_entry ([.ref a0]) (n := 1) (Nat.le_of_ble_eq_true rfl)
  rw [lg_entry_eq]
  generalize (lg_sl ([.ref a0]) ++ List.replicate (1 - (lg_sl ([.ref a0])).length) Slot.unset).toArray = ls at hl ⊢
  have hl : lv_has ls 1 [(0, .ref a0)] := hl
  have hP : va_P (dC, dI) vwCl (xW a0 a1 a2 a3 a4 a5 a6 a7 a8 a9 cI k ut tb tn sc hs rn rv wb ee we) s.heap := hP
  refine lv_aload_n (pc := 0) hx hb dX3_confirm_0 rfl (lv_at hl 0 rfl) ?_
  refine va_get (pc := 1) (D := (dC, dI)) (ci := 3) (v := .ref a1) (C := RX3) (T := TX3) (N := 8) hx hb hts (by decide +kernel) hown hK hP 0 rfl rfl 0 (by decide) (hts (.fieldLink RX3 12 "ScratchSwap" "memory" "LScratchSwap$Memory;") (by decide +kernel)) (fun _ h9 => h9) rfl dX3_confirm_1 ?_
  refine va_getN (pc := 4) (D := (dC, dI)) (ci := 0) (v := .int (bI k.2.2.1)) (C := RX0) (T := TX0) (N := 9) hx hb hts (by decide +kernel) hown hK hP 1 rfl rfl 3 (by decide) (hE.f 2 (q := (RX3, 58, "ScratchSwap$Memory", "down", "Z", "ScratchSwap")) rfl) (fun _ h9 => h9) rfl dX3_confirm_4 ?_
  refine lv_if_eq (pc := 7) (tgt := 13) hx hb dX3_confirm_7 (by decide) (fun c1 => ?_) (fun c1 => ?_)
  · skip
    have c1 : k.2.2.1 = false := bI_0.mp c1
    have hk : kOk k := ⟨c1, hlf, hcu⟩
    refine lv_aload_n (pc := 13) hx hb dX3_confirm_13 rfl (lv_at hl 0 rfl) ?_
    refine va_get (pc := 14) (D := (dC, dI)) (ci := 3) (v := .int (bI rn)) (C := RX3) (T := TX3) (N := 8) hx hb hts (by decide +kernel) hown hK hP 0 rfl rfl 3 (by decide) (hts (.fieldLink RX3 30 "ScratchSwap" "runs" "Z") (by decide +kernel)) (fun _ h9 => h9) rfl dX3_confirm_14 ?_
    refine lv_if_ne (pc := 17) (tgt := 23) hx hb dX3_confirm_17 (by decide) (fun c2 => ?_) (fun c2 => ?_)
    · skip
      have c2 : rn = true := bI_1.mp c2
      refine lv_aload_n (pc := 23) hx hb dX3_confirm_23 rfl (lv_at hl 0 rfl) ?_
      refine lv_iconst (pc := 24) (v := nI 4) hx hb dX3_confirm_24 (by decide) ?_
      refine lv_iconst (pc := 25) (v := nI 3) hx hb dX3_confirm_25 (by decide) ?_
      refine x_roi (pc := 26) (va_runV (As := [.int (nI 4), .int (nI 3)]) (rest := []) ⟨hx, hb, hml, hown, hts⟩ (kX3_isMarked l dC dI tt cI cB _ a0 a1 a2 a3 a4 a5 a6 a7 a8 a9 k ut tb tn sc hs rn rv wb ee we 4 3 (by omega)) (cwV 2 hts gX3_confirm_X3_isMarked rfl rfl rfl (by decide +kernel) ⟨Nat.le_of_ble_eq_true rfl, Nat.le_of_ble_eq_true rfl⟩) (x_preVa hS hE hK hP hD (x_ro hS hA) xR0 3 0 rfl rfl) rfl rfl hl.1 rfl (lv_room (Nat.le_of_ble_eq_true rfl)) dX3_confirm_26 ⟨Nat.le_of_ble_eq_true rfl, Nat.le_of_ble_eq_true rfl⟩) hS hA hP (fun r_1 H locs hr_1 hP hS => ?_)
      subst hr_1
      refine lv_if_ne (pc := 29) (tgt := 43) hx hb dX3_confirm_29 (by decide) (fun c3 => ?_) (fun c3 => ?_)
      · skip
        have c3 : mkB k.1 (4 * 256 + 3 * 8) = true := bI_1.mp c3
        refine lv_iconst (pc := 43) (v := nI 0) hx hb dX3_confirm_43 (by decide) ?_
        exact W.iret (v := nI 0) hx hb hr (fun t ht hW => ⟨⟨nI 0, (k, ut, rn, rv), rfl, by rw [cfmR, if_neg (by rw [c1]; decide), if_neg (by rw [c2]; decide), if_pos (by first | exact Or.inl c3 | exact Or.inr c4)], by show va_P _ _ _ t.heap; rw [ht]; exact hP, va_K.moved hW.alike hK, hD⟩, hS.F ht⟩) hS.2.2 dX3_confirm_44
      · skip
        have c3 : mkB k.1 (4 * 256 + 3 * 8) = false := bI_0.mp c3
        refine lv_aload_n (pc := 32) hx hb dX3_confirm_32 rfl (lv_at hl 0 rfl) ?_
        refine va_get (pc := 33) (D := (dC, dI)) (ci := 3) (v := .ref a1) (C := RX3) (T := TX3) (N := 8) hx hb hts (by decide +kernel) hown hK hP 0 rfl rfl 0 (by decide) (hts (.fieldLink RX3 12 "ScratchSwap" "memory" "LScratchSwap$Memory;") (by decide +kernel)) (fun _ h9 => h9) rfl dX3_confirm_33 ?_
        refine lv_iconst (pc := 36) (v := nI 4) hx hb dX3_confirm_36 (by decide) ?_
        refine x_roi (pc := 37) (va_runVN (As := [.int (nI 4)]) (rest := []) ⟨hx, hb, hml, hown, hts⟩ (kX0_hasMagic l dC dI tt cI cB _ a1 a2 a3 a4 k ut 4 (by omega)) (⟨va_cnB 1 hts gX3_confirm_X0_hasMagic_n102 rfl rfl rfl (hE.m 12 (q := (RX3, 102, yX0_hasMagic, "ScratchSwap")) rfl) (hts (.initialized RX0) (by decide +kernel)) (by decide +kernel) ⟨Nat.le_of_ble_eq_true rfl, Nat.le_of_ble_eq_true rfl⟩, hts (.instanceMethod yX0_hasMagic) (by decide +kernel), hts (.selects RX0 yX0_hasMagic yX0_hasMagic) (by decide +kernel)⟩) (x_preV hS hE hK hP hD [1, 2, 3, 4] rfl (by decide) (x_ro hS hA) xR0 0 1 rfl rfl) rfl rfl hl.1 rfl (lv_room (Nat.le_of_ble_eq_true rfl)) dX3_confirm_37 ⟨Nat.le_of_ble_eq_true rfl, Nat.le_of_ble_eq_true rfl⟩) hS hA hP (fun r_2 H locs hr_2 hP hS => ?_)
        subst hr_2
        refine lv_if_ne (pc := 40) (tgt := 45) hx hb dX3_confirm_40 (by decide) (fun c4 => ?_) (fun c4 => ?_)
        · skip
          have c4 : magB k.1 (4 * 256) = true := bI_1.mp c4
          refine lv_aload_n (pc := 45) hx hb dX3_confirm_45 rfl (lv_at hl 0 rfl) ?_
          refine va_get (pc := 46) (D := (dC, dI)) (ci := 3) (v := .ref a1) (C := RX3) (T := TX3) (N := 8) hx hb hts (by decide +kernel) hown hK hP 0 rfl rfl 0 (by decide) (hts (.fieldLink RX3 12 "ScratchSwap" "memory" "LScratchSwap$Memory;") (by decide +kernel)) (fun _ h9 => h9) rfl dX3_confirm_46 ?_
          refine lv_iconst (pc := 49) (v := nI 4) hx hb dX3_confirm_49 (by decide) ?_
          refine lv_iconst (pc := 50) (v := nI 3) hx hb dX3_confirm_50 (by decide) ?_
          refine lv_iconst (pc := 51) (v := nI 1) hx hb dX3_confirm_51 (by decide) ?_
          refine x_wri (pc := 52) (va_runVN (As := [.int (nI 4), .int (nI 3), .int (nI 1)]) (rest := []) ⟨hx, hb, hml, hown, hts⟩ (kX0_markUnit l dC dI tt cI cB _ a1 a2 a3 a4 k ut 4 3 (nI 1) hk (by omega)) (⟨va_cnB 3 hts gX3_confirm_X0_markUnit_n91 rfl rfl rfl (hE.m 10 (q := (RX3, 91, yX0_markUnit, "ScratchSwap")) rfl) (hts (.initialized RX0) (by decide +kernel)) (by decide +kernel) ⟨Nat.le_of_ble_eq_true rfl, Nat.le_of_ble_eq_true rfl⟩, hts (.instanceMethod yX0_markUnit) (by decide +kernel), hts (.selects RX0 yX0_markUnit yX0_markUnit) (by decide +kernel)⟩) (x_preV hS hE hK hP hD [1, 2, 3, 4] rfl (by decide) (va_free hD hS hA [1, 2, 3, 4] rfl) xR0 0 1 rfl rfl) rfl rfl hl.1 rfl (lv_room (Nat.le_of_ble_eq_true rfl)) dX3_confirm_52 ⟨Nat.le_of_ble_eq_true rfl, Nat.le_of_ble_eq_true rfl⟩) hS hA hP hD [1, 2, 3, 4] [0, 5, 6, 7, 8, 9] rfl rfl (by decide) (by decide) (fun r_4 u_3 H locs hu_3 hP hD hS => ?_)
          obtain ⟨hr_4, eu_3⟩ : r_4 = bI (kActs (markL (4 * 256 + 3 * 8) (nI 1)) k).2 ∧ u_3 = (kActs (markL (4 * 256 + 3 * 8) (nI 1)) k).1 := hu_3
          obtain ⟨b_5, eb_5⟩ : ∃ z, z = (kActs (markL (4 * 256 + 3 * 8) (nI 1)) k).2 := ⟨_, rfl⟩
          rw [← eb_5] at hr_4
          subst hr_4
          have hP := hP.sub (ws' := xW a0 a1 a2 a3 a4 a5 a6 a7 a8 a9 cI u_3 ut tb tn sc hs rn rv wb ee we) [0, 6, 7, 8, 9, 1, 2, 3, 4, 5] rfl
          have hD := hD.sub (ws' := xW a0 a1 a2 a3 a4 a5 a6 a7 a8 a9 cI u_3 ut tb tn sc hs rn rv wb ee we) [0, 6, 7, 8, 9, 1, 2, 3, 4, 5] (by decide) rfl
          refine lv_if_ne (pc := 55) (tgt := 63) hx hb dX3_confirm_55 (by decide) (fun c5 => ?_) (fun c5 => ?_)
          · skip
            have c5 : b_5 = true := bI_1.mp c5
            have f1 : (kActs (markL (4 * 256 + 3 * 8) (nI 1)) k).2 = true := eb_5.symm.trans c5
            have hk1 : kOk u_3 := by rw [eu_3]; exact kActs_ok hk f1
            have hF1 : u_3.1 = appL ((markL (4 * 256 + 3 * 8) (nI 1))) k.1 := by rw [eu_3]; exact kActs_F f1
            refine lv_iconst (pc := 63) (v := nI 1) hx hb dX3_confirm_63 (by decide) ?_
            exact W.iret (v := nI 1) hx hb hr (fun t ht hW => ⟨⟨nI 1, (u_3, ut, rn, rv), rfl, by rw [cfmR, if_neg (by rw [c1]; decide), if_neg (by rw [c2]; decide), if_neg (fun z => by rw [c3, c4] at z; exact absurd z (by decide)), if_pos f1, ← eu_3], by show va_P _ _ _ t.heap; rw [ht]; exact hP, va_K.moved hW.alike hK, hD⟩, hS.F ht⟩) hS.2.2 dX3_confirm_64
          · skip
            have c5 : b_5 = false := bI_0.mp c5
            have f1 : (kActs (markL (4 * 256 + 3 * 8) (nI 1)) k).2 = false := eb_5.symm.trans c5
            refine lv_aload_n (pc := 58) hx hb dX3_confirm_58 rfl (lv_at hl 0 rfl) ?_
            refine x_wria (pc := 59) (va_runV (As := []) (rest := []) ⟨hx, hb, hml, hown, hts⟩ (kX3_powerWent l dC dI tt cI cB _ a0 a1 a2 a3 a4 a5 a6 a7 a8 a9 u_3 ut tb tn sc hs rn rv wb ee we ) (cwV 0 hts gX3_confirm_X3_powerWent rfl rfl rfl (by decide +kernel) ⟨Nat.le_of_ble_eq_true rfl, Nat.le_of_ble_eq_true rfl⟩) (x_preVa hS hE hK hP hD (x_all hD hS hA) xR0 3 0 rfl rfl) rfl rfl hl.1 rfl (lv_room (Nat.le_of_ble_eq_true rfl)) dX3_confirm_59 ⟨Nat.le_of_ble_eq_true rfl, Nat.le_of_ble_eq_true rfl⟩) hS hA hD (fun r_7 u_6 H locs hu_6 hP hD hS => ?_)
            subst hu_6
            have hP : va_P (dC, dI) vwCl (xW a0 a1 a2 a3 a4 a5 a6 a7 a8 a9 cI u_3 ut tb tn sc hs false (nI 0) wb ee we) _ := hP
            have hD : va_D A (xW a0 a1 a2 a3 a4 a5 a6 a7 a8 a9 cI u_3 ut tb tn sc hs false (nI 0) wb ee we) := hD
            exact W.iret (v := (-9)) hx hb hr (fun t ht hW => ⟨⟨(-9), (u_3, ut, false, nI 0), rfl, by rw [cfmR, if_neg (by rw [c1]; decide), if_neg (by rw [c2]; decide), if_neg (fun z => by rw [c3, c4] at z; exact absurd z (by decide)), if_neg (by rw [f1]; decide), ← eu_3], by show va_P _ _ _ t.heap; rw [ht]; exact hP, va_K.moved hW.alike hK, hD⟩, hS.F ht⟩) hS.2.2 dX3_confirm_62
        · skip
          have c4 : magB k.1 (4 * 256) = false := bI_0.mp c4
          refine lv_iconst (pc := 43) (v := nI 0) hx hb dX3_confirm_43 (by decide) ?_
          exact W.iret (v := nI 0) hx hb hr (fun t ht hW => ⟨⟨nI 0, (k, ut, rn, rv), rfl, by rw [cfmR, if_neg (by rw [c1]; decide), if_neg (by rw [c2]; decide), if_pos (by first | exact Or.inl c3 | exact Or.inr c4)], by show va_P _ _ _ t.heap; rw [ht]; exact hP, va_K.moved hW.alike hK, hD⟩, hS.F ht⟩) hS.2.2 dX3_confirm_44
    · skip
      have c2 : rn = false := bI_0.mp c2
      refine lv_bipush (pc := 20) (v := (-2)) hx hb dX3_confirm_20 (by decide) ?_
      exact W.iret (v := (-2)) hx hb hr (fun t ht hW => ⟨⟨(-2), (k, ut, rn, rv), rfl, by rw [cfmR, if_neg (by rw [c1]; decide), if_pos c2], by show va_P _ _ _ t.heap; rw [ht]; exact hP, va_K.moved hW.alike hK, hD⟩, hS.F ht⟩) hS.2.2 dX3_confirm_22
  · skip
    have c1 : k.2.2.1 = true := bI_1.mp c1
    refine lv_bipush (pc := 10) (v := (-9)) hx hb dX3_confirm_10 (by decide) ?_
    exact W.iret (v := (-9)) hx hb hr (fun t ht hW => ⟨⟨(-9), (k, ut, rn, rv), rfl, by rw [cfmR, if_pos c1], by show va_P _ _ _ t.heap; rw [ht]; exact hP, va_K.moved hW.alike hK, hD⟩, hS.F ht⟩) hS.2.2 dX3_confirm_12
theorem dueN_lt (F : Nat → Int8) : dueN F < 6 := by
  have := askN_le F
  unfold dueN; split
  · omega
  · split
    · omega
    · split
      · split <;> omega
      · split <;> omega
set_option maxHeartbeats 4000000 in
set_option maxRecDepth 100000 in
theorem kX3_boot (l : Launch) (dC : Nat → ClassId) (dI : Nat → Nat → Nat) (tt : Nat → Nat) (cI cB : ClassId) (sz : Nat) (a0 a1 a2 a3 a4 a5 a6 a7 a8 a9 : Nat) (k : K0) (ut : Nat → Int32) (tb : Nat → Int8) (tn : Nat) (sc hs : Nat → Int32) (rn : Bool) (rv wb ee we : Int32) (hlf : k.2.2.2.2.1 < 2 ^ 31) (hcu : k.2.2.2.2.2.1 < 32) : MetI (S := (K0 × (Nat → Int32) × (Nat → Int32) × (Nat → Int32) × Bool × Int32 × Int32 × Int32 × Int32)) l yX3_boot wsX3_boot { frames := 6, cells := 0, slots := 0, locals := 143 } (dC, dI) [(cI, .int), (cB, .byte)] tt [] sz (xW a0 a1 a2 a3 a4 a5 a6 a7 a8 a9 cI k ut tb tn sc hs rn rv wb ee we) [.ref a0] (fun u : (K0 × (Nat → Int32) × (Nat → Int32) × (Nat → Int32) × Bool × Int32 × Int32 × Int32 × Int32) => xW a0 a1 a2 a3 a4 a5 a6 a7 a8 a9 cI u.1 u.2.1 tb tn u.2.2.1 u.2.2.2.1 u.2.2.2.2.1 u.2.2.2.2.2.1 u.2.2.2.2.2.2.1 u.2.2.2.2.2.2.2.1 u.2.2.2.2.2.2.2.2) (fun r u => (r, u.1, u.2.2.2.2.1, u.2.2.2.2.2.1, u.2.2.2.2.2.2.1, u.2.2.2.2.2.2.2.1, u.2.2.2.2.2.2.2.2) = bootR k rn rv wb ee we) := by
  refine Met.ofW (cc := cX3_boot) (maxL := 1) (ret := (some .int)) (by decide) rfl ?_
  intro p e s m args below meth c s₁ B hml hv
  obtain ⟨rfl, hsz, hP, hK, hD0, hE⟩ := hv
  have hx := B.exec
  have hb := B.bytes
  have hr := B.returns
  have hts := atoms_spec (ws := wsX3_boot) B.pre
  have hown : s.vm.findClass RX3 = some m.cls := findClass_of_methodNamed B.named
  have hlocks := B.notSynchronized
  subst hsz
  have hD := hD0.self (sz := s.heap.size)
  generalize hAe : va_A (xW a0 a1 a2 a3 a4 a5 a6 a7 a8 a9 cI k ut tb tn sc hs rn rv wb ee we) s.heap.size = A at hD hE ⊢
  have hA : ∀ q : Nat, s.heap.size ≤ q → A q := fun q h => by rw [← hAe]; exact Or.inr h
  have hS : va_S A s.heap s.heap [] := va_S.rf
  have hl := lv_entry ([.ref a0]) (n := 1) (Nat.le_of_ble_eq_true rfl)
  rw [lg_entry_eq]
  generalize (lg_sl ([.ref a0]) ++ List.replicate (1 - (lg_sl ([.ref a0])).length) Slot.unset).toArray = ls at hl ⊢
  have hl : lv_has ls 1 [(0, .ref a0)] := hl
  have hP : va_P (dC, dI) vwCl (xW a0 a1 a2 a3 a4 a5 a6 a7 a8 a9 cI k ut tb tn sc hs rn rv wb ee we) s.heap := hP
  refine lv_aload_n (pc := 0) hx hb dX3_boot_0 rfl (lv_at hl 0 rfl) ?_
  refine va_get (pc := 1) (D := (dC, dI)) (ci := 3) (v := .ref a1) (C := RX3) (T := TX3) (N := 8) hx hb hts (by decide +kernel) hown hK hP 0 rfl rfl 0 (by decide) (hts (.fieldLink RX3 12 "ScratchSwap" "memory" "LScratchSwap$Memory;") (by decide +kernel)) (fun _ h9 => h9) rfl dX3_boot_1 ?_
  refine va_getN (pc := 4) (D := (dC, dI)) (ci := 0) (v := .int (bI k.2.2.1)) (C := RX0) (T := TX0) (N := 9) hx hb hts (by decide +kernel) hown hK hP 1 rfl rfl 3 (by decide) (hE.f 2 (q := (RX3, 58, "ScratchSwap$Memory", "down", "Z", "ScratchSwap")) rfl) (fun _ h9 => h9) rfl dX3_boot_4 ?_
  refine lv_if_eq (pc := 7) (tgt := 13) hx hb dX3_boot_7 (by decide) (fun c1 => ?_) (fun c1 => ?_)
  · skip
    have c1 : k.2.2.1 = false := bI_0.mp c1
    have hk : kOk k := ⟨c1, hlf, hcu⟩
    refine lv_aload_n (pc := 13) hx hb dX3_boot_13 rfl (lv_at hl 0 rfl) ?_
    refine x_wrva (pc := 14) (va_runV (As := []) (rest := []) ⟨hx, hb, hml, hown, hts⟩ (kX3_stopRunning l dC dI tt cI cB _ a0 a1 a2 a3 a4 a5 a6 a7 a8 a9 k ut tb tn sc hs rn rv wb ee we ) (cwV 0 hts gX3_boot_X3_stopRunning rfl rfl rfl (by decide +kernel) ⟨Nat.le_of_ble_eq_true rfl, Nat.le_of_ble_eq_true rfl⟩) (x_preVa hS hE hK hP hD (x_all hD hS hA) xR0 3 0 rfl rfl) rfl rfl hl.1 rfl (lv_room (Nat.le_of_ble_eq_true rfl)) dX3_boot_14 ⟨Nat.le_of_ble_eq_true rfl, Nat.le_of_ble_eq_true rfl⟩) hS hA hD (fun u_1 H locs hu_1 hP hD hS => ?_)
    have hP : va_P (dC, dI) vwCl (xW a0 a1 a2 a3 a4 a5 a6 a7 a8 a9 cI k ut tb tn sc hs false (nI 0) wb ee we) _ := hP
    have hD : va_D A (xW a0 a1 a2 a3 a4 a5 a6 a7 a8 a9 cI k ut tb tn sc hs false (nI 0) wb ee we) := hD
    refine lv_aload_n (pc := 17) hx hb dX3_boot_17 rfl (lv_at hl 0 rfl) ?_
    refine lv_aload_n (pc := 18) hx hb dX3_boot_18 rfl (lv_at hl 0 rfl) ?_
    refine x_wria (pc := 19) (va_runV (As := []) (rest := [.ref a0]) ⟨hx, hb, hml, hown, hts⟩ (kX3_findDue l dC dI tt cI cB _ a0 a1 a2 a3 a4 a5 a6 a7 a8 a9 k ut tb tn sc hs false (nI 0) wb ee we ) (cwV 0 hts gX3_boot_X3_findDue rfl rfl rfl (by decide +kernel) ⟨Nat.le_of_ble_eq_true rfl, Nat.le_of_ble_eq_true rfl⟩) (x_preVa hS hE hK hP hD (x_all hD hS hA) xR0 3 0 rfl rfl) rfl rfl hl.1 rfl (lv_room (Nat.le_of_ble_eq_true rfl)) dX3_boot_19 ⟨Nat.le_of_ble_eq_true rfl, Nat.le_of_ble_eq_true rfl⟩) hS hA hD (fun r_3 u_2 H locs hu_2 hP hD hS => ?_)
    obtain ⟨sc_4, hs_5⟩ := u_2
    subst hu_2
    have hP : va_P (dC, dI) vwCl (xW a0 a1 a2 a3 a4 a5 a6 a7 a8 a9 cI k ut tb tn sc_4 hs_5 false (nI 0) wb ee we) _ := hP
    have hD : va_D A (xW a0 a1 a2 a3 a4 a5 a6 a7 a8 a9 cI k ut tb tn sc_4 hs_5 false (nI 0) wb ee we) := hD
    refine x_wria (pc := 22) (va_runV (As := [.int (nI (dueN k.1))]) (rest := []) ⟨hx, hb, hml, hown, hts⟩ (kX3_doWhatIsDue l dC dI tt cI cB _ a0 a1 a2 a3 a4 a5 a6 a7 a8 a9 k ut tb tn sc_4 hs_5 false (nI 0) wb ee we (dueN k.1) hk (dueN_lt _)) (cwV 1 hts gX3_boot_X3_doWhatIsDue rfl rfl rfl (by decide +kernel) ⟨Nat.le_of_ble_eq_true rfl, Nat.le_of_ble_eq_true rfl⟩) (x_preVa hS hE hK hP hD (x_all hD hS hA) xR0 3 0 rfl rfl) rfl rfl hl.1 rfl (lv_room (Nat.le_of_ble_eq_true rfl)) dX3_boot_22 ⟨Nat.le_of_ble_eq_true rfl, Nat.le_of_ble_eq_true rfl⟩) hS hA hD (fun r_7 u_6 H locs hu_6 hP hD hS => ?_)
    obtain ⟨k_9, t_10, n_11, n_12⟩ := u_6
    obtain ⟨hr_7, ek_9, en_11, en_12⟩ : r_7 = bI (kActs (dueL k.1 (dueN k.1)) k).2 ∧ k_9 = (kActs (dueL k.1 (dueN k.1)) k).1 ∧ n_11 = (if (kActs (dueL k.1 (dueN k.1)) k).2 = true then bootE (dueN k.1) ee else ee) ∧ n_12 = (if (kActs (dueL k.1 (dueN k.1)) k).2 = true then bootW (dueN k.1) we else we) := hu_6
    obtain ⟨b_8, eb_8⟩ : ∃ z, z = (kActs (dueL k.1 (dueN k.1)) k).2 := ⟨_, rfl⟩
    rw [← eb_8] at hr_7
    subst hr_7
    have hP : va_P (dC, dI) vwCl (xW a0 a1 a2 a3 a4 a5 a6 a7 a8 a9 cI k_9 t_10 tb tn sc_4 hs_5 false (nI 0) wb n_11 n_12) _ := hP
    have hD : va_D A (xW a0 a1 a2 a3 a4 a5 a6 a7 a8 a9 cI k_9 t_10 tb tn sc_4 hs_5 false (nI 0) wb n_11 n_12) := hD
    refine lv_if_ne (pc := 25) (tgt := 33) hx hb dX3_boot_25 (by decide) (fun c2 => ?_) (fun c2 => ?_)
    · skip
      have c2 : b_8 = true := bI_1.mp c2
      have f1 : (kActs (dueL k.1 (dueN k.1)) k).2 = true := eb_8.symm.trans c2
      have hk1 : kOk k_9 := by rw [ek_9]; exact kActs_ok hk f1
      have hF1 : k_9.1 = appL ((dueL k.1 (dueN k.1))) k.1 := by rw [ek_9]; exact kActs_F f1
      refine lv_aload_n (pc := 33) hx hb dX3_boot_33 rfl (lv_at hl 0 rfl) ?_
      refine lv_dup (pc := 34) hx hb dX3_boot_34 rfl ?_
      refine va_get (pc := 35) (D := (dC, dI)) (ci := 3) (v := .int wb) (C := RX3) (T := TX3) (N := 8) hx hb hts (by decide +kernel) hown hK hP 0 rfl rfl 5 (by decide) (hts (.fieldLink RX3 38 "ScratchSwap" "wholeBoots" "I") (by decide +kernel)) (fun _ h9 => h9) rfl dX3_boot_35 ?_
      refine lv_iconst (pc := 38) (v := nI 1) hx hb dX3_boot_38 (by decide) ?_
      refine lv_iadd (pc := 39) hx hb dX3_boot_39 ?_
      refine va_put (pc := 40) (D := (dC, dI)) (ci := 3) (v := .int (wb + (nI 1))) (ty := .int) (C := RX3) (T := TX3) (N := 8) hx hb hts (by decide +kernel) tyX3 tyX3_ok nmX3 hown hK hP hD hS 0 rfl rfl 5 (by decide) (hts (.fieldLink RX3 38 "ScratchSwap" "wholeBoots" "I") (by decide +kernel)) (fun _ h9 => h9) rfl (by decide +kernel) rfl rfl (Nat.le_of_ble_eq_true rfl) dX3_boot_40 (fun H locs hP hD hS => ?_)
      have hP : va_P (dC, dI) vwCl (xW a0 a1 a2 a3 a4 a5 a6 a7 a8 a9 cI k_9 t_10 tb tn sc_4 hs_5 false (nI 0) (wb + (nI 1)) n_11 n_12) _ := hP
      have hD : va_D A (xW a0 a1 a2 a3 a4 a5 a6 a7 a8 a9 cI k_9 t_10 tb tn sc_4 hs_5 false (nI 0) (wb + (nI 1)) n_11 n_12) := hD
      refine lv_aload_n (pc := 43) hx hb dX3_boot_43 rfl (lv_at hl 0 rfl) ?_
      refine lv_iconst (pc := 44) (v := nI 0) hx hb dX3_boot_44 (by decide) ?_
      refine x_wria (pc := 45) (va_runV (As := [.int (nI 0)]) (rest := []) ⟨hx, hb, hml, hown, hts⟩ (kX3_isRight l dC dI tt cI cB _ a0 a1 a2 a3 a4 a5 a6 a7 a8 a9 k_9 t_10 tb tn sc_4 hs_5 false (nI 0) (wb + (nI 1)) n_11 n_12 0 (by omega)) (cwV 1 hts gX3_boot_X3_isRight rfl rfl rfl (by decide +kernel) ⟨Nat.le_of_ble_eq_true rfl, Nat.le_of_ble_eq_true rfl⟩) (x_preVa hS hE hK hP hD (x_all hD hS hA) xR0 3 0 rfl rfl) rfl rfl hl.1 rfl (lv_room (Nat.le_of_ble_eq_true rfl)) dX3_boot_45 ⟨Nat.le_of_ble_eq_true rfl, Nat.le_of_ble_eq_true rfl⟩) hS hA hD (fun r_14 u_13 H locs hu_13 hP hD hS => ?_)
      obtain ⟨sc_15, hs_16⟩ := u_13
      subst hu_13
      have hP : va_P (dC, dI) vwCl (xW a0 a1 a2 a3 a4 a5 a6 a7 a8 a9 cI k_9 t_10 tb tn sc_15 hs_16 false (nI 0) (wb + (nI 1)) n_11 n_12) _ := hP
      have hD : va_D A (xW a0 a1 a2 a3 a4 a5 a6 a7 a8 a9 cI k_9 t_10 tb tn sc_15 hs_16 false (nI 0) (wb + (nI 1)) n_11 n_12) := hD
      refine lv_if_ne (pc := 48) (tgt := 53) hx hb dX3_boot_48 (by decide) (fun c3 => ?_) (fun c3 => ?_)
      · skip
        have c3 : rightB k_9.1 (0 * 5 * 256) = true := bI_1.mp c3
        refine lv_aload_n (pc := 53) hx hb dX3_boot_53 rfl (lv_at hl 0 rfl) ?_
        refine lv_iconst (pc := 54) (v := nI 1) hx hb dX3_boot_54 (by decide) ?_
        refine lv_cv (show nI 1 = bI true from rfl) ?_
        refine va_put (pc := 55) (D := (dC, dI)) (ci := 3) (v := .int (bI true)) (ty := .boolean) (C := RX3) (T := TX3) (N := 8) hx hb hts (by decide +kernel) tyX3 tyX3_ok nmX3 hown hK hP hD hS 0 rfl rfl 3 (by decide) (hts (.fieldLink RX3 30 "ScratchSwap" "runs" "Z") (by decide +kernel)) (fun _ h9 => h9) rfl (by decide +kernel) (nbI true) (fbI true) (Nat.le_of_ble_eq_true rfl) dX3_boot_55 (fun H locs hP hD hS => ?_)
        have hP : va_P (dC, dI) vwCl (xW a0 a1 a2 a3 a4 a5 a6 a7 a8 a9 cI k_9 t_10 tb tn sc_15 hs_16 true (nI 0) (wb + (nI 1)) n_11 n_12) _ := hP
        have hD : va_D A (xW a0 a1 a2 a3 a4 a5 a6 a7 a8 a9 cI k_9 t_10 tb tn sc_15 hs_16 true (nI 0) (wb + (nI 1)) n_11 n_12) := hD
        refine lv_aload_n (pc := 58) hx hb dX3_boot_58 rfl (lv_at hl 0 rfl) ?_
        refine lv_aload_n (pc := 59) hx hb dX3_boot_59 rfl (lv_at hl 0 rfl) ?_
        refine lv_iconst (pc := 60) (v := nI 0) hx hb dX3_boot_60 (by decide) ?_
        refine x_roi (pc := 61) (va_runV (As := [.int (nI 0)]) (rest := [.ref a0]) ⟨hx, hb, hml, hown, hts⟩ (kX3_versionIn l dC dI tt cI cB _ a0 a1 a2 a3 a4 a5 a6 a7 a8 a9 k_9 t_10 tb tn sc_15 hs_16 true (nI 0) (wb + (nI 1)) n_11 n_12 0 (by omega)) (cwV 1 hts gX3_boot_X3_versionIn rfl rfl rfl (by decide +kernel) ⟨Nat.le_of_ble_eq_true rfl, Nat.le_of_ble_eq_true rfl⟩) (x_preVa hS hE hK hP hD (x_ro hS hA) xR0 3 0 rfl rfl) rfl rfl hl.1 rfl (lv_room (Nat.le_of_ble_eq_true rfl)) dX3_boot_61 ⟨Nat.le_of_ble_eq_true rfl, Nat.le_of_ble_eq_true rfl⟩) hS hA hP (fun r_17 H locs hr_17 hP hS => ?_)
        subst hr_17
        refine va_put (pc := 64) (D := (dC, dI)) (ci := 3) (v := .int (mI k_9.1 (0 * 5 * 256 + 4))) (ty := .int) (C := RX3) (T := TX3) (N := 8) hx hb hts (by decide +kernel) tyX3 tyX3_ok nmX3 hown hK hP hD hS 0 rfl rfl 4 (by decide) (hts (.fieldLink RX3 34 "ScratchSwap" "runningVersion" "I") (by decide +kernel)) (fun _ h9 => h9) rfl (by decide +kernel) rfl rfl (Nat.le_of_ble_eq_true rfl) dX3_boot_64 (fun H locs hP hD hS => ?_)
        have hP : va_P (dC, dI) vwCl (xW a0 a1 a2 a3 a4 a5 a6 a7 a8 a9 cI k_9 t_10 tb tn sc_15 hs_16 true (mI k_9.1 (0 * 5 * 256 + 4)) (wb + (nI 1)) n_11 n_12) _ := hP
        have hD : va_D A (xW a0 a1 a2 a3 a4 a5 a6 a7 a8 a9 cI k_9 t_10 tb tn sc_15 hs_16 true (mI k_9.1 (0 * 5 * 256 + 4)) (wb + (nI 1)) n_11 n_12) := hD
        refine lv_iconst (pc := 67) (v := nI 1) hx hb dX3_boot_67 (by decide) ?_
        exact W.iret (v := nI 1) hx hb hr (fun t ht hW => ⟨⟨nI 1, (k_9, t_10, sc_15, hs_16, true, mI k_9.1 (0 * 5 * 256 + 4), wb + (nI 1), n_11, n_12), rfl, by rw [bootR, if_neg (by rw [c1]; decide), if_pos f1, ← ek_9, if_pos c3, en_11, en_12, if_pos f1, if_pos f1], by show va_P _ _ _ t.heap; rw [ht]; exact hP, va_K.moved hW.alike hK, hD⟩, hS.F ht⟩) hS.2.2 dX3_boot_68
      · skip
        have c3 : rightB k_9.1 (0 * 5 * 256) = false := bI_0.mp c3
        refine lv_iconst (pc := 51) (v := nI 0) hx hb dX3_boot_51 (by decide) ?_
        exact W.iret (v := nI 0) hx hb hr (fun t ht hW => ⟨⟨nI 0, (k_9, t_10, sc_15, hs_16, false, nI 0, wb + (nI 1), n_11, n_12), rfl, by rw [bootR, if_neg (by rw [c1]; decide), if_pos f1, ← ek_9, if_neg (by rw [c3]; decide), en_11, en_12, if_pos f1, if_pos f1], by show va_P _ _ _ t.heap; rw [ht]; exact hP, va_K.moved hW.alike hK, hD⟩, hS.F ht⟩) hS.2.2 dX3_boot_52
    · skip
      have c2 : b_8 = false := bI_0.mp c2
      have f1 : (kActs (dueL k.1 (dueN k.1)) k).2 = false := eb_8.symm.trans c2
      refine lv_aload_n (pc := 28) hx hb dX3_boot_28 rfl (lv_at hl 0 rfl) ?_
      refine x_wria (pc := 29) (va_runV (As := []) (rest := []) ⟨hx, hb, hml, hown, hts⟩ (kX3_powerWent l dC dI tt cI cB _ a0 a1 a2 a3 a4 a5 a6 a7 a8 a9 k_9 t_10 tb tn sc_4 hs_5 false (nI 0) wb n_11 n_12 ) (cwV 0 hts gX3_boot_X3_powerWent rfl rfl rfl (by decide +kernel) ⟨Nat.le_of_ble_eq_true rfl, Nat.le_of_ble_eq_true rfl⟩) (x_preVa hS hE hK hP hD (x_all hD hS hA) xR0 3 0 rfl rfl) rfl rfl hl.1 rfl (lv_room (Nat.le_of_ble_eq_true rfl)) dX3_boot_29 ⟨Nat.le_of_ble_eq_true rfl, Nat.le_of_ble_eq_true rfl⟩) hS hA hD (fun r_19 u_18 H locs hu_18 hP hD hS => ?_)
      subst hu_18
      have hP : va_P (dC, dI) vwCl (xW a0 a1 a2 a3 a4 a5 a6 a7 a8 a9 cI k_9 t_10 tb tn sc_4 hs_5 false (nI 0) wb n_11 n_12) _ := hP
      have hD : va_D A (xW a0 a1 a2 a3 a4 a5 a6 a7 a8 a9 cI k_9 t_10 tb tn sc_4 hs_5 false (nI 0) wb n_11 n_12) := hD
      exact W.iret (v := (-9)) hx hb hr (fun t ht hW => ⟨⟨(-9), (k_9, t_10, sc_4, hs_5, false, nI 0, wb, n_11, n_12), rfl, by rw [bootR, if_neg (by rw [c1]; decide), if_neg (by rw [f1]; decide), ← ek_9, en_11, en_12, if_neg (by rw [f1]; decide), if_neg (by rw [f1]; decide)], by show va_P _ _ _ t.heap; rw [ht]; exact hP, va_K.moved hW.alike hK, hD⟩, hS.F ht⟩) hS.2.2 dX3_boot_32
  · skip
    have c1 : k.2.2.1 = true := bI_1.mp c1
    refine lv_bipush (pc := 10) (v := (-9)) hx hb dX3_boot_10 (by decide) ?_
    exact W.iret (v := (-9)) hx hb hr (fun t ht hW => ⟨⟨(-9), (k, ut, sc, hs, rn, rv, wb, ee, we), rfl, by rw [bootR, if_pos c1], by show va_P _ _ _ t.heap; rw [ht]; exact hP, va_K.moved hW.alike hK, hD⟩, hS.F ht⟩) hS.2.2 dX3_boot_12
