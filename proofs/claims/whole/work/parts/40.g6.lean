set_option maxHeartbeats 4000000 in
set_option maxRecDepth 100000 in
theorem kX4_isRight (l : Launch) (dC : Nat → ClassId) (dI : Nat → Nat → Nat) (tt : Nat → Nat) (cI cB : ClassId) (sz : Nat) (g0 g1 g2 g3 g4 g5 g6 g7 g8 g9 g10 g11 g12 g13 : Nat) (k : K0) (dr : Nat → Int8) (er pl : Nat → Int32) (un : Nat → Int8) (li : Nat) (ov : Int32) (tp : Nat → Int8) (tn : Nat) (rn : Bool) (vs bo ex wr : Int32) (ei dg : Nat → Int8) (wo : Nat → Int32) (pa : Nat → Int8) (ch fi : Nat → Int32) (w : Nat) (hw2 : w < 2) : MetI (S := ((Nat → Int8) × (Nat → Int32) × (Nat → Int8) × (Nat → Int32))) l yX4_isRight wsX4_isRight { frames := 3, cells := 0, slots := 0, locals := 78 } (dC, dI) [(cI, .int), (cB, .byte)] tt [] sz (gW g0 g1 g2 g3 g4 g5 g6 g7 g8 g9 g10 g11 g12 g13 cI cB k dr er pl un li ov tp tn rn vs bo ex wr ei dg wo pa ch fi) [.ref g0, .int (nI w)] (fun u : ((Nat → Int8) × (Nat → Int32) × (Nat → Int8) × (Nat → Int32)) => gW g0 g1 g2 g3 g4 g5 g6 g7 g8 g9 g10 g11 g12 g13 cI cB k dr er pl un li ov tp tn rn vs bo ex wr ei u.1 u.2.1 u.2.2.1 u.2.2.2 fi) (fun r u => r = bI (rightB k.1 (w * 5 * 256))) := by
  refine Met.ofW (cc := cX4_isRight) (maxL := 6) (ret := (some .boolean)) (by decide) rfl ?_
  intro p e s m args below meth c s₁ B hml hv
  obtain ⟨rfl, hsz, hP, hK, hD0, hE⟩ := hv
  have hx := B.exec
  have hb := B.bytes
  have hr := B.returns
  have hts := atoms_spec (ws := wsX4_isRight) B.pre
  have hown : s.vm.findClass RX4 = some m.cls := findClass_of_methodNamed B.named
  have hlocks := B.notSynchronized
  subst hsz
  have hD := hD0.self (sz := s.heap.size)
  generalize hAe : va_A (gW g0 g1 g2 g3 g4 g5 g6 g7 g8 g9 g10 g11 g12 g13 cI cB k dr er pl un li ov tp tn rn vs bo ex wr ei dg wo pa ch fi) s.heap.size = A at hD hE ⊢
  have hA : ∀ q : Nat, s.heap.size ≤ q → A q := fun q h => by rw [← hAe]; exact Or.inr h
  have hS : va_S A s.heap s.heap [] := va_S.rf
  have hl := lv_entry ([.ref g0, .int (nI w)]) (n := 6) (Nat.le_of_ble_eq_true rfl)
  rw [lg_entry_eq]
  generalize (lg_sl ([.ref g0, .int (nI w)]) ++ List.replicate (6 - (lg_sl ([.ref g0, .int (nI w)])).length) Slot.unset).toArray = ls at hl ⊢
  have hl : lv_has ls 6 [(0, .ref g0), (1, .int (nI w))] := hl
  have hP : va_P (dC, dI) vwCl (gW g0 g1 g2 g3 g4 g5 g6 g7 g8 g9 g10 g11 g12 g13 cI cB k dr er pl un li ov tp tn rn vs bo ex wr ei dg wo pa ch fi) s.heap := hP
  refine lv_iconst (pc := 0) (v := nI 5) hx hb dX4_isRight_0 (by decide) ?_
  refine lv_iload_n (pc := 1) hx hb dX4_isRight_1 rfl (lv_at hl 1 rfl) ?_
  refine lv_imul (pc := 2) hx hb dX4_isRight_2 ?_
  refine lv_cv (x_mulc 5 w) ?_
  refine lv_iconst (pc := 3) (v := nI 0) hx hb dX4_isRight_3 (by decide) ?_
  refine x_roi (pc := 4) (va_runS (As := [.int (nI (w * 5)), .int (nI 0)]) (rest := []) ⟨hx, hb, hml, hown, hts⟩ (kX4_unit l dC dI tt cI cB _ (w * 5) 0) (va_cwS 2 hts gX4_isRight_X4_unit rfl rfl rfl (by decide +kernel) ⟨Nat.le_of_ble_eq_true rfl, Nat.le_of_ble_eq_true rfl⟩) (x_preS hS hE hK hP hD [] rfl (by decide) (x_ro hS hA) xR0) rfl rfl hl.1 rfl (lv_room (Nat.le_of_ble_eq_true rfl)) dX4_isRight_4 ⟨Nat.le_of_ble_eq_true rfl, Nat.le_of_ble_eq_true rfl⟩) hS hA hP (fun r_1 H locs hr_1 hP hS => ?_)
  subst hr_1
  refine lv_cv (congrArg nI (show (w * 5) * 256 + 0 * 8 = w * 5 * 256 by omega)) ?_
  refine lv_istore_n (pc := 7) (lv' := [(2, .int (nI (w * 5 * 256))), (0, .ref g0), (1, .int (nI w))]) hx hb dX4_isRight_7 rfl hl (by decide) rfl (fun ls hl => ?_)
  refine lv_aload_n (pc := 8) hx hb dX4_isRight_8 rfl (lv_at hl 1 rfl) ?_
  refine va_get (pc := 9) (D := (dC, dI)) (ci := 4) (v := .ref g1) (C := RX4) (T := TX4) (N := 26) hx hb hts (by decide +kernel) hown hK hP 0 rfl rfl 0 (by decide) (hts (.fieldLink RX4 9 "ScratchSwapModel" "flash" "[B") (by decide +kernel)) (fun _ h9 => h9) rfl dX4_isRight_9 ?_
  refine lv_iload_n (pc := 12) hx hb dX4_isRight_12 rfl (lv_at hl 0 rfl) ?_
  refine x_roi (pc := 13) (va_runS (As := [.ref g1, .int (nI (w * 5 * 256))]) (rest := []) ⟨hx, hb, hml, hown, hts⟩ (kX4_intAt l dC dI tt cI cB _ g1 2816 k.1 (w * 5 * 256) (by omega) (by omega)) (va_cwS 2 hts gX4_isRight_X4_intAt rfl rfl rfl (by decide +kernel) ⟨Nat.le_of_ble_eq_true rfl, Nat.le_of_ble_eq_true rfl⟩) (x_preS hS hE hK hP hD [1] rfl (by decide) (x_ro hS hA) xR0) rfl rfl hl.1 rfl (lv_room (Nat.le_of_ble_eq_true rfl)) dX4_isRight_13 ⟨Nat.le_of_ble_eq_true rfl, Nat.le_of_ble_eq_true rfl⟩) hS hA hP (fun r_2 H locs hr_2 hP hS => ?_)
  subst hr_2
  refine lv_istore_n (pc := 16) (lv' := [(3, .int (mI k.1 (w * 5 * 256))), (2, .int (nI (w * 5 * 256))), (0, .ref g0), (1, .int (nI w))]) hx hb dX4_isRight_16 rfl hl (by decide) rfl (fun ls hl => ?_)
  refine lv_iload_n (pc := 17) hx hb dX4_isRight_17 rfl (lv_at hl 0 rfl) ?_
  refine lv_if_lt (pc := 18) (tgt := 28) hx hb dX4_isRight_18 (by decide) (fun c1 => ?_) (fun c1 => ?_)
  · skip
    refine lv_iconst (pc := 28) (v := nI 0) hx hb dX4_isRight_28 (by decide) ?_
    exact W.zret (v := nI 0) hx hb hr rfl (fun t ht hW => ⟨⟨nI 0, (dg, wo, pa, ch), rfl, by rw [rightB_f (by first | exact Or.inl c1 | exact Or.inr (Int32.not_le.mp c2))]; rfl, by show va_P _ _ _ t.heap; rw [ht]; exact hP, va_K.moved hW.alike hK, hD⟩, hS.F ht⟩) hS.2.2 dX4_isRight_29
  · skip
    refine lv_iload_n (pc := 21) hx hb dX4_isRight_21 rfl (lv_at hl 0 rfl) ?_
    refine lv_sipush (pc := 22) (v := nI 984) hx hb dX4_isRight_22 (by decide) ?_
    refine lv_icmp_le (pc := 25) (tgt := 30) hx hb dX4_isRight_25 (by decide) (fun c2 => ?_) (fun c2 => ?_)
    · skip
      obtain ⟨n, hn, en⟩ := nI_of2 (n := 984) (nI_toInt (by decide)) c1 c2
      rw [en] at hl
      refine lv_aload_n (pc := 30) hx hb dX4_isRight_30 rfl (lv_at hl 2 rfl) ?_
      refine lv_aload_n (pc := 31) hx hb dX4_isRight_31 rfl (lv_at hl 2 rfl) ?_
      refine va_get (pc := 32) (D := (dC, dI)) (ci := 4) (v := .ref g1) (C := RX4) (T := TX4) (N := 26) hx hb hts (by decide +kernel) hown hK hP 0 rfl rfl 0 (by decide) (hts (.fieldLink RX4 9 "ScratchSwapModel" "flash" "[B") (by decide +kernel)) (fun _ h9 => h9) rfl dX4_isRight_32 ?_
      refine lv_iload_n (pc := 35) hx hb dX4_isRight_35 rfl (lv_at hl 1 rfl) ?_
      refine lv_iload_n (pc := 36) hx hb dX4_isRight_36 rfl (lv_at hl 0 rfl) ?_
      refine lv_bipush (pc := 37) (v := nI 8) hx hb dX4_isRight_37 (by decide) ?_
      refine lv_iadd (pc := 39) hx hb dX4_isRight_39 ?_
      refine lv_cv (nI_add n 8) ?_
      refine lv_cv (congrArg nI (show n + 8 = 8 + n by omega)) ?_
      refine x_wrva (pc := 40) (va_runV (As := [.ref g1, .int (nI (w * 5 * 256)), .int (nI (8 + n))]) (rest := []) ⟨hx, hb, hml, hown, hts⟩ (kX4_shaF l dC dI tt cI cB _ g0 g1 g2 g3 g4 g5 g6 g7 g8 g9 g10 g11 g12 g13 k dr er pl un li ov tp tn rn vs bo ex wr ei dg wo pa ch fi (w * 5 * 256) (8 + n) (by omega) (by omega)) (cwV 3 hts gX4_isRight_X4_sha rfl rfl rfl (by decide +kernel) ⟨Nat.le_of_ble_eq_true rfl, Nat.le_of_ble_eq_true rfl⟩) (x_preVa hS hE hK hP hD (x_all hD hS hA) xR0 4 0 rfl rfl) rfl rfl hl.1 rfl (lv_room (Nat.le_of_ble_eq_true rfl)) dX4_isRight_40 ⟨Nat.le_of_ble_eq_true rfl, Nat.le_of_ble_eq_true rfl⟩) hS hA hD (fun u_3 H locs hu_3 hP hD hS => ?_)
      obtain ⟨dg_4, wo_5, pa_6, ch_7⟩ := u_3
      have hdg : ∀ j, j < 32 → dg_4 j = digT (sha8 k.1 (w * 5 * 256) (8 + n)) j := hu_3
      have hP : va_P (dC, dI) vwCl (gW g0 g1 g2 g3 g4 g5 g6 g7 g8 g9 g10 g11 g12 g13 cI cB k dr er pl un li ov tp tn rn vs bo ex wr ei dg_4 wo_5 pa_6 ch_7 fi) _ := hP
      have hD : va_D A (gW g0 g1 g2 g3 g4 g5 g6 g7 g8 g9 g10 g11 g12 g13 cI cB k dr er pl un li ov tp tn rn vs bo ex wr ei dg_4 wo_5 pa_6 ch_7 fi) := hD
      refine lv_iconst (pc := 43) (v := nI 1) hx hb dX4_isRight_43 (by decide) ?_
      refine lv_istore (pc := 44) (lv' := [(4, .int (nI 1)), (3, .int (nI n)), (2, .int (nI (w * 5 * 256))), (0, .ref g0), (1, .int (nI w))]) hx hb dX4_isRight_44 hl (by decide) rfl (fun ls hl => ?_)
      refine lv_iconst (pc := 46) (v := nI 0) hx hb dX4_isRight_46 (by decide) ?_
      refine lv_istore (pc := 47) (lv' := [(5, .int (nI 0)), (4, .int (nI 1)), (3, .int (nI n)), (2, .int (nI (w * 5 * 256))), (0, .ref g0), (1, .int (nI w))]) hx hb dX4_isRight_47 hl (by decide) rfl (fun ls hl => ?_)
      have hl : lv_has ls 6 [(5, .int (nI 0)), (4, .int (bI (eqTo (fun z => k.1 (w * 5 * 256 + (8 + n) + z)) (digT (sha8 k.1 (w * 5 * 256) (8 + n))) 0))), (3, .int (nI n)), (2, .int (nI (w * 5 * 256))), (0, .ref g0), (1, .int (nI w))] := by rw [eqTo_0]; exact hl
      refine x_loop (σ := (Nat)) (Wd := fun i : (Nat) => gW g0 g1 g2 g3 g4 g5 g6 g7 g8 g9 g10 g11 g12 g13 cI cB k dr er pl un li ov tp tn rn vs bo ex wr ei dg_4 wo_5 pa_6 ch_7 fi) (Lv := fun i : (Nat) => [(5, .int (nI i)), (4, .int (bI (eqTo (fun z => k.1 (w * 5 * 256 + (8 + n) + z)) (digT (sha8 k.1 (w * 5 * 256) (8 + n))) i))), (3, .int (nI n)), (2, .int (nI (w * 5 * 256))), (0, .ref g0), (1, .int (nI w))]) (I := fun i : (Nat) => (i ≤ 32)) (μ := fun i : (Nat) => 32 - i) ?_ (0) (by omega) hP hD hS (lv_sub hl [0, 1, 2, 3, 4, 5] rfl)
      intro i H locs ls hI hP hD hS hl ih49
      have hi : (i ≤ 32) := hI
      have hP : va_P (dC, dI) vwCl (gW g0 g1 g2 g3 g4 g5 g6 g7 g8 g9 g10 g11 g12 g13 cI cB k dr er pl un li ov tp tn rn vs bo ex wr ei dg_4 wo_5 pa_6 ch_7 fi) _ := hP
      have hD : va_D A (gW g0 g1 g2 g3 g4 g5 g6 g7 g8 g9 g10 g11 g12 g13 cI cB k dr er pl un li ov tp tn rn vs bo ex wr ei dg_4 wo_5 pa_6 ch_7 fi) := hD
      have hl : lv_has ls 6 [(5, .int (nI i)), (4, .int (bI (eqTo (fun z => k.1 (w * 5 * 256 + (8 + n) + z)) (digT (sha8 k.1 (w * 5 * 256) (8 + n))) i))), (3, .int (nI n)), (2, .int (nI (w * 5 * 256))), (0, .ref g0), (1, .int (nI w))] := hl
      refine lv_iload (pc := 49) hx hb dX4_isRight_49 (lv_at hl 0 rfl) ?_
      refine lv_bipush (pc := 51) (v := nI 32) hx hb dX4_isRight_51 (by decide) ?_
      refine lv_icmp_ge (pc := 53) (tgt := 98) hx hb dX4_isRight_53 (by decide) (fun c_8 => ?_) (fun c_8 => ?_)
      · skip
        have c_8 : 32 ≤ i := (nI_leI (a := 32) (b := i) (by omega) (by omega)).mp c_8
        refine lv_iload (pc := 98) hx hb dX4_isRight_98 (lv_at hl 1 rfl) ?_
        have hi9 : i = 32 := by omega
        subst hi9
        exact W.zret (v := bI (eqTo (fun z => k.1 (w * 5 * 256 + (8 + n) + z)) (digT (sha8 k.1 (w * 5 * 256) (8 + n))) 32)) hx hb hr (nbI (eqTo (fun z => k.1 (w * 5 * 256 + (8 + n) + z)) (digT (sha8 k.1 (w * 5 * 256) (8 + n))) 32)) (fun t ht hW => ⟨⟨bI (eqTo (fun z => k.1 (w * 5 * 256 + (8 + n) + z)) (digT (sha8 k.1 (w * 5 * 256) (8 + n))) 32), (dg_4, wo_5, pa_6, ch_7), rfl, by rw [rightB_n hn en], by show va_P _ _ _ t.heap; rw [ht]; exact hP, va_K.moved hW.alike hK, hD⟩, hS.F ht⟩) hS.2.2 dX4_isRight_100
      · skip
        have c_8 : ¬ 32 ≤ i := fun z => c_8 ((nI_leI (a := 32) (b := i) (by omega) (by omega)).mpr z)
        refine lv_iload (pc := 56) hx hb dX4_isRight_56 (lv_at hl 1 rfl) ?_
        refine lv_if_eq (pc := 58) (tgt := 89) hx hb dX4_isRight_58 (by decide) (fun c3 => ?_) (fun c3 => ?_)
        · skip
          have c3 : (eqTo (fun z => k.1 (w * 5 * 256 + (8 + n) + z)) (digT (sha8 k.1 (w * 5 * 256) (8 + n))) i) = false := bI_0.mp c3
          refine lv_iconst (pc := 89) (v := nI 0) hx hb dX4_isRight_89 (by decide) ?_
          refine lv_cv (y := bI (eqTo (fun z => k.1 (w * 5 * 256 + (8 + n) + z)) (digT (sha8 k.1 (w * 5 * 256) (8 + n))) (i + 1))) (by rw [show eqTo (fun z => k.1 (w * 5 * 256 + (8 + n) + z)) (digT (sha8 k.1 (w * 5 * 256) (8 + n))) (i + 1) = false from by rw [eqTo_s]; first | (rw [c3, Bool.false_and]; done) | (rw [c3, Bool.true_and]; exact decide_eq_false (fun z => c4 (congrArg Int8.toInt32 ((hdg i (by omega)).trans z.symm))))]; rfl) ?_
          refine lv_istore (pc := 90) (lv' := [(4, .int (bI (eqTo (fun z => k.1 (w * 5 * 256 + (8 + n) + z)) (digT (sha8 k.1 (w * 5 * 256) (8 + n))) (i + 1)))), (5, .int (nI i)), (3, .int (nI n)), (2, .int (nI (w * 5 * 256))), (0, .ref g0), (1, .int (nI w))]) hx hb dX4_isRight_90 hl (by decide) rfl (fun ls hl => ?_)
          refine lv_iinc (pc := 92) (v := nI (i + 1)) (lv' := [(5, .int (nI (i + 1))), (4, .int (bI (eqTo (fun z => k.1 (w * 5 * 256 + (8 + n) + z)) (digT (sha8 k.1 (w * 5 * 256) (8 + n))) (i + 1)))), (3, .int (nI n)), (2, .int (nI (w * 5 * 256))), (0, .ref g0), (1, .int (nI w))]) hx hb dX4_isRight_92 hl (k := 1) rfl (nI_inc i 1) (by decide) rfl (fun ls hl => ?_)
          refine lv_goto (pc := 95) (tgt := 49) hx hb dX4_isRight_95 (by decide) ?_
          exact ih49 (i + 1) H locs ls (by omega) (by first | omega | (simp only []; omega)) hP hD hS (lv_sub hl [0, 1, 2, 3, 4, 5] rfl)
        · skip
          have c3 : (eqTo (fun z => k.1 (w * 5 * 256 + (8 + n) + z)) (digT (sha8 k.1 (w * 5 * 256) (8 + n))) i) = true := bI_1.mp c3
          refine lv_aload_n (pc := 61) hx hb dX4_isRight_61 rfl (lv_at hl 4 rfl) ?_
          refine va_get (pc := 62) (D := (dC, dI)) (ci := 4) (v := .ref g9) (C := RX4) (T := TX4) (N := 26) hx hb hts (by decide +kernel) hown hK hP 0 rfl rfl 21 (by decide) (hts (.fieldLink RX4 39 "ScratchSwapModel" "digest" "[B") (by decide +kernel)) (fun _ h9 => h9) rfl dX4_isRight_62 ?_
          refine lv_iload (pc := 65) hx hb dX4_isRight_65 (lv_at hl 0 rfl) ?_
          refine x_bald (pc := 67) (k := i) (f := fun j => Int8.toInt32 (dg_4 j)) hx hb hK hP 9 1 rfl rfl (by omega) (by decide) dX4_isRight_67 ?_
          refine lv_aload_n (pc := 68) hx hb dX4_isRight_68 rfl (lv_at hl 4 rfl) ?_
          refine va_get (pc := 69) (D := (dC, dI)) (ci := 4) (v := .ref g1) (C := RX4) (T := TX4) (N := 26) hx hb hts (by decide +kernel) hown hK hP 0 rfl rfl 0 (by decide) (hts (.fieldLink RX4 9 "ScratchSwapModel" "flash" "[B") (by decide +kernel)) (fun _ h9 => h9) rfl dX4_isRight_69 ?_
          refine lv_iload_n (pc := 72) hx hb dX4_isRight_72 rfl (lv_at hl 3 rfl) ?_
          refine lv_bipush (pc := 73) (v := nI 8) hx hb dX4_isRight_73 (by decide) ?_
          refine lv_iadd (pc := 75) hx hb dX4_isRight_75 ?_
          refine lv_cv (nI_add (w * 5 * 256) 8) ?_
          refine lv_iload_n (pc := 76) hx hb dX4_isRight_76 rfl (lv_at hl 2 rfl) ?_
          refine lv_iadd (pc := 77) hx hb dX4_isRight_77 ?_
          refine lv_cv (nI_add ((w * 5 * 256) + 8) n) ?_
          refine lv_iload (pc := 78) hx hb dX4_isRight_78 (lv_at hl 0 rfl) ?_
          refine lv_iadd (pc := 80) hx hb dX4_isRight_80 ?_
          refine lv_cv (nI_add (((w * 5 * 256) + 8) + n) i) ?_
          refine lv_cv (congrArg nI (show (((w * 5 * 256) + 8) + n) + i = w * 5 * 256 + (8 + n) + i by omega)) ?_
          refine x_bald (pc := 81) (k := w * 5 * 256 + (8 + n) + i) (f := fun j => Int8.toInt32 (k.1 j)) hx hb hK hP 1 1 rfl rfl (by omega) (by decide) dX4_isRight_81 ?_
          refine lv_icmp_ne (pc := 82) (tgt := 89) hx hb dX4_isRight_82 (by decide) (fun c4 => ?_) (fun c4 => ?_)
          · skip
            refine lv_iconst (pc := 89) (v := nI 0) hx hb dX4_isRight_89 (by decide) ?_
            refine lv_cv (y := bI (eqTo (fun z => k.1 (w * 5 * 256 + (8 + n) + z)) (digT (sha8 k.1 (w * 5 * 256) (8 + n))) (i + 1))) (by rw [show eqTo (fun z => k.1 (w * 5 * 256 + (8 + n) + z)) (digT (sha8 k.1 (w * 5 * 256) (8 + n))) (i + 1) = false from by rw [eqTo_s]; first | (rw [c3, Bool.false_and]; done) | (rw [c3, Bool.true_and]; exact decide_eq_false (fun z => c4 (congrArg Int8.toInt32 ((hdg i (by omega)).trans z.symm))))]; rfl) ?_
            refine lv_istore (pc := 90) (lv' := [(4, .int (bI (eqTo (fun z => k.1 (w * 5 * 256 + (8 + n) + z)) (digT (sha8 k.1 (w * 5 * 256) (8 + n))) (i + 1)))), (5, .int (nI i)), (3, .int (nI n)), (2, .int (nI (w * 5 * 256))), (0, .ref g0), (1, .int (nI w))]) hx hb dX4_isRight_90 hl (by decide) rfl (fun ls hl => ?_)
            refine lv_iinc (pc := 92) (v := nI (i + 1)) (lv' := [(5, .int (nI (i + 1))), (4, .int (bI (eqTo (fun z => k.1 (w * 5 * 256 + (8 + n) + z)) (digT (sha8 k.1 (w * 5 * 256) (8 + n))) (i + 1)))), (3, .int (nI n)), (2, .int (nI (w * 5 * 256))), (0, .ref g0), (1, .int (nI w))]) hx hb dX4_isRight_92 hl (k := 1) rfl (nI_inc i 1) (by decide) rfl (fun ls hl => ?_)
            refine lv_goto (pc := 95) (tgt := 49) hx hb dX4_isRight_95 (by decide) ?_
            exact ih49 (i + 1) H locs ls (by omega) (by first | omega | (simp only []; omega)) hP hD hS (lv_sub hl [0, 1, 2, 3, 4, 5] rfl)
          · skip
            refine lv_iconst (pc := 85) (v := nI 1) hx hb dX4_isRight_85 (by decide) ?_
            refine lv_cv (y := bI (eqTo (fun z => k.1 (w * 5 * 256 + (8 + n) + z)) (digT (sha8 k.1 (w * 5 * 256) (8 + n))) (i + 1))) (by rw [show eqTo (fun z => k.1 (w * 5 * 256 + (8 + n) + z)) (digT (sha8 k.1 (w * 5 * 256) (8 + n))) (i + 1) = true from by rw [eqTo_s]; first | (rw [c3, Bool.false_and]; done) | (rw [c3, Bool.true_and]; exact decide_eq_true ((sb_inj.mp c4).symm.trans (hdg i (by omega))))]; rfl) ?_
            refine lv_goto (pc := 86) (tgt := 90) hx hb dX4_isRight_86 (by decide) ?_
            refine lv_istore (pc := 90) (lv' := [(4, .int (bI (eqTo (fun z => k.1 (w * 5 * 256 + (8 + n) + z)) (digT (sha8 k.1 (w * 5 * 256) (8 + n))) (i + 1)))), (5, .int (nI i)), (3, .int (nI n)), (2, .int (nI (w * 5 * 256))), (0, .ref g0), (1, .int (nI w))]) hx hb dX4_isRight_90 hl (by decide) rfl (fun ls hl => ?_)
            refine lv_iinc (pc := 92) (v := nI (i + 1)) (lv' := [(5, .int (nI (i + 1))), (4, .int (bI (eqTo (fun z => k.1 (w * 5 * 256 + (8 + n) + z)) (digT (sha8 k.1 (w * 5 * 256) (8 + n))) (i + 1)))), (3, .int (nI n)), (2, .int (nI (w * 5 * 256))), (0, .ref g0), (1, .int (nI w))]) hx hb dX4_isRight_92 hl (k := 1) rfl (nI_inc i 1) (by decide) rfl (fun ls hl => ?_)
            refine lv_goto (pc := 95) (tgt := 49) hx hb dX4_isRight_95 (by decide) ?_
            exact ih49 (i + 1) H locs ls (by omega) (by first | omega | (simp only []; omega)) hP hD hS (lv_sub hl [0, 1, 2, 3, 4, 5] rfl)
    · skip
      refine lv_iconst (pc := 28) (v := nI 0) hx hb dX4_isRight_28 (by decide) ?_
      exact W.zret (v := nI 0) hx hb hr rfl (fun t ht hW => ⟨⟨nI 0, (dg, wo, pa, ch), rfl, by rw [rightB_f (by first | exact Or.inl c1 | exact Or.inr (Int32.not_le.mp c2))]; rfl, by show va_P _ _ _ t.heap; rw [ht]; exact hP, va_K.moved hW.alike hK, hD⟩, hS.F ht⟩) hS.2.2 dX4_isRight_29
set_option maxHeartbeats 4000000 in
set_option maxRecDepth 100000 in
theorem kX4_due (l : Launch) (dC : Nat → ClassId) (dI : Nat → Nat → Nat) (tt : Nat → Nat) (cI cB : ClassId) (sz : Nat) (g0 g1 g2 g3 g4 g5 g6 g7 g8 g9 g10 g11 g12 g13 : Nat) (k : K0) (dr : Nat → Int8) (er pl : Nat → Int32) (un : Nat → Int8) (li : Nat) (ov : Int32) (tp : Nat → Int8) (tn : Nat) (rn : Bool) (vs bo ex wr : Int32) (ei dg : Nat → Int8) (wo : Nat → Int32) (pa : Nat → Int8) (ch fi : Nat → Int32)  : MetI (S := ((Nat → Int8) × (Nat → Int32) × (Nat → Int8) × (Nat → Int32))) l yX4_due wsX4_due { frames := 4, cells := 0, slots := 0, locals := 103 } (dC, dI) [(cI, .int), (cB, .byte)] tt [] sz (gW g0 g1 g2 g3 g4 g5 g6 g7 g8 g9 g10 g11 g12 g13 cI cB k dr er pl un li ov tp tn rn vs bo ex wr ei dg wo pa ch fi) [.ref g0] (fun u : ((Nat → Int8) × (Nat → Int32) × (Nat → Int8) × (Nat → Int32)) => gW g0 g1 g2 g3 g4 g5 g6 g7 g8 g9 g10 g11 g12 g13 cI cB k dr er pl un li ov tp tn rn vs bo ex wr ei u.1 u.2.1 u.2.2.1 u.2.2.2 fi) (fun r u => r = nI (dueN k.1)) := by
  refine Met.ofW (cc := cX4_due) (maxL := 3) (ret := (some .int)) (by decide) rfl ?_
  intro p e s m args below meth c s₁ B hml hv
  obtain ⟨rfl, hsz, hP, hK, hD0, hE⟩ := hv
  have hx := B.exec
  have hb := B.bytes
  have hr := B.returns
  have hts := atoms_spec (ws := wsX4_due) B.pre
  have hown : s.vm.findClass RX4 = some m.cls := findClass_of_methodNamed B.named
  have hlocks := B.notSynchronized
  subst hsz
  have hD := hD0.self (sz := s.heap.size)
  generalize hAe : va_A (gW g0 g1 g2 g3 g4 g5 g6 g7 g8 g9 g10 g11 g12 g13 cI cB k dr er pl un li ov tp tn rn vs bo ex wr ei dg wo pa ch fi) s.heap.size = A at hD hE ⊢
  have hA : ∀ q : Nat, s.heap.size ≤ q → A q := fun q h => by rw [← hAe]; exact Or.inr h
  have hS : va_S A s.heap s.heap [] := va_S.rf
  have hl := lv_entry ([.ref g0]) (n := 3) (Nat.le_of_ble_eq_true rfl)
  rw [lg_entry_eq]
  generalize (lg_sl ([.ref g0]) ++ List.replicate (3 - (lg_sl ([.ref g0])).length) Slot.unset).toArray = ls at hl ⊢
  have hl : lv_has ls 3 [(0, .ref g0)] := hl
  have hP : va_P (dC, dI) vwCl (gW g0 g1 g2 g3 g4 g5 g6 g7 g8 g9 g10 g11 g12 g13 cI cB k dr er pl un li ov tp tn rn vs bo ex wr ei dg wo pa ch fi) s.heap := hP
  refine lv_aload_n (pc := 0) hx hb dX4_due_0 rfl (lv_at hl 0 rfl) ?_
  refine va_get (pc := 1) (D := (dC, dI)) (ci := 4) (v := .ref g1) (C := RX4) (T := TX4) (N := 26) hx hb hts (by decide +kernel) hown hK hP 0 rfl rfl 0 (by decide) (hts (.fieldLink RX4 9 "ScratchSwapModel" "flash" "[B") (by decide +kernel)) (fun _ h9 => h9) rfl dX4_due_1 ?_
  refine lv_iconst (pc := 4) (v := nI 4) hx hb dX4_due_4 (by decide) ?_
  refine lv_iconst (pc := 5) (v := nI 1) hx hb dX4_due_5 (by decide) ?_
  refine x_roi (pc := 6) (va_runS (As := [.ref g1, .int (nI 4), .int (nI 1)]) (rest := []) ⟨hx, hb, hml, hown, hts⟩ (kX4_set l dC dI tt cI cB _ g1 2816 k.1 4 1 (by omega) (by omega)) (va_cwS 3 hts gX4_due_X4_set rfl rfl rfl (by decide +kernel) ⟨Nat.le_of_ble_eq_true rfl, Nat.le_of_ble_eq_true rfl⟩) (x_preS hS hE hK hP hD [1] rfl (by decide) (x_ro hS hA) xR0) rfl rfl hl.1 rfl (lv_room (Nat.le_of_ble_eq_true rfl)) dX4_due_6 ⟨Nat.le_of_ble_eq_true rfl, Nat.le_of_ble_eq_true rfl⟩) hS hA hP (fun r_1 H locs hr_1 hP hS => ?_)
  subst hr_1
  have hs_2 := setN_le k.1 (4 * 256 + 1 * 8)
  refine lv_if_le (pc := 9) (tgt := 26) hx hb dX4_due_9 (by decide) (fun c1 => ?_) (fun c1 => ?_)
  · skip
    have c1 : (setN k.1 (4 * 256 + 1 * 8)) ≤ 0 := (nI_leI (a := (setN k.1 (4 * 256 + 1 * 8))) (b := 0) (by omega) (by omega)).mp c1
    have c1 : setN k.1 (4 * 256 + 1 * 8) = 0 := by omega
    refine lv_aload_n (pc := 26) hx hb dX4_due_26 rfl (lv_at hl 0 rfl) ?_
    refine va_get (pc := 27) (D := (dC, dI)) (ci := 4) (v := .ref g1) (C := RX4) (T := TX4) (N := 26) hx hb hts (by decide +kernel) hown hK hP 0 rfl rfl 0 (by decide) (hts (.fieldLink RX4 9 "ScratchSwapModel" "flash" "[B") (by decide +kernel)) (fun _ h9 => h9) rfl dX4_due_27 ?_
    refine lv_bipush (pc := 30) (v := nI 9) hx hb dX4_due_30 (by decide) ?_
    refine lv_iconst (pc := 32) (v := nI 1) hx hb dX4_due_32 (by decide) ?_
    refine x_roi (pc := 33) (va_runS (As := [.ref g1, .int (nI 9), .int (nI 1)]) (rest := []) ⟨hx, hb, hml, hown, hts⟩ (kX4_set l dC dI tt cI cB _ g1 2816 k.1 9 1 (by omega) (by omega)) (va_cwS 3 hts gX4_due_X4_set rfl rfl rfl (by decide +kernel) ⟨Nat.le_of_ble_eq_true rfl, Nat.le_of_ble_eq_true rfl⟩) (x_preS hS hE hK hP hD [1] rfl (by decide) (x_ro hS hA) xR0) rfl rfl hl.1 rfl (lv_room (Nat.le_of_ble_eq_true rfl)) dX4_due_33 ⟨Nat.le_of_ble_eq_true rfl, Nat.le_of_ble_eq_true rfl⟩) hS hA hP (fun r_3 H locs hr_3 hP hS => ?_)
    subst hr_3
    have hs_4 := setN_le k.1 (9 * 256 + 1 * 8)
    refine lv_istore_n (pc := 36) (lv' := [(1, .int (nI (setN k.1 (9 * 256 + 1 * 8)))), (0, .ref g0)]) hx hb dX4_due_36 rfl hl (by decide) rfl (fun ls hl => ?_)
    refine lv_iload_n (pc := 37) hx hb dX4_due_37 rfl (lv_at hl 0 rfl) ?_
    refine lv_iconst (pc := 38) (v := nI 3) hx hb dX4_due_38 (by decide) ?_
    refine lv_icmp_ne (pc := 39) (tgt := 44) hx hb dX4_due_39 (by decide) (fun c3 => ?_) (fun c3 => ?_)
    · skip
      have c3 : ¬ (setN k.1 (9 * 256 + 1 * 8)) = 3 := fun z => c3 ((nI_eq (a := (setN k.1 (9 * 256 + 1 * 8))) (b := 3) (by omega) (by omega)).mpr z)
      refine lv_iload_n (pc := 44) hx hb dX4_due_44 rfl (lv_at hl 0 rfl) ?_
      refine lv_if_ne (pc := 45) (tgt := 79) hx hb dX4_due_45 (by decide) (fun c4 => ?_) (fun c4 => ?_)
      · skip
        have c4 : ¬ (setN k.1 (9 * 256 + 1 * 8)) = 0 := fun z => c4 ((nI_eq (a := (setN k.1 (9 * 256 + 1 * 8))) (b := 0) (by omega) (by omega)).mpr z)
        refine lv_iload_n (pc := 79) hx hb dX4_due_79 rfl (lv_at hl 0 rfl) ?_
        refine lv_if_le (pc := 80) (tgt := 97) hx hb dX4_due_80 (by decide) (fun c7 => ?_) (fun c7 => ?_)
        · skip
          have c7 : (setN k.1 (9 * 256 + 1 * 8)) ≤ 0 := (nI_leI (a := (setN k.1 (9 * 256 + 1 * 8))) (b := 0) (by omega) (by omega)).mp c7
          exfalso; omega
        · skip
          have c7 : ¬ (setN k.1 (9 * 256 + 1 * 8)) ≤ 0 := fun z => c7 ((nI_leI (a := (setN k.1 (9 * 256 + 1 * 8))) (b := 0) (by omega) (by omega)).mpr z)
          refine lv_aload_n (pc := 83) hx hb dX4_due_83 rfl (lv_at hl 1 rfl) ?_
          refine lv_iconst (pc := 84) (v := nI 1) hx hb dX4_due_84 (by decide) ?_
          refine x_wria (pc := 85) (va_runV (As := [.int (nI 1)]) (rest := []) ⟨hx, hb, hml, hown, hts⟩ (kX4_isRight l dC dI tt cI cB _ g0 g1 g2 g3 g4 g5 g6 g7 g8 g9 g10 g11 g12 g13 k dr er pl un li ov tp tn rn vs bo ex wr ei dg wo pa ch fi 1 (by omega)) (cwV 1 hts gX4_due_X4_isRight rfl rfl rfl (by decide +kernel) ⟨Nat.le_of_ble_eq_true rfl, Nat.le_of_ble_eq_true rfl⟩) (x_preVa hS hE hK hP hD (x_all hD hS hA) xR0 4 0 rfl rfl) rfl rfl hl.1 rfl (lv_room (Nat.le_of_ble_eq_true rfl)) dX4_due_85 ⟨Nat.le_of_ble_eq_true rfl, Nat.le_of_ble_eq_true rfl⟩) hS hA hD (fun r_6 u_5 H locs hu_5 hP hD hS => ?_)
          obtain ⟨dg_7, wo_8, pa_9, ch_10⟩ := u_5
          subst hu_5
          have hP : va_P (dC, dI) vwCl (gW g0 g1 g2 g3 g4 g5 g6 g7 g8 g9 g10 g11 g12 g13 cI cB k dr er pl un li ov tp tn rn vs bo ex wr ei dg_7 wo_8 pa_9 ch_10 fi) _ := hP
          have hD : va_D A (gW g0 g1 g2 g3 g4 g5 g6 g7 g8 g9 g10 g11 g12 g13 cI cB k dr er pl un li ov tp tn rn vs bo ex wr ei dg_7 wo_8 pa_9 ch_10 fi) := hD
          refine lv_if_eq (pc := 88) (tgt := 95) hx hb dX4_due_88 (by decide) (fun c8 => ?_) (fun c8 => ?_)
          · skip
            have c8 : (rightB k.1 (1 * 5 * 256)) = false := bI_0.mp c8
            refine lv_iconst (pc := 95) (v := nI 4) hx hb dX4_due_95 (by decide) ?_
            exact W.iret (v := nI 4) hx hb hr (fun t ht hW => ⟨⟨nI 4, (dg_7, wo_8, pa_9, ch_10), rfl, by first | (simp [dueN, uwB, askN, tuB, c1, c3, c4, c8]; done) | (simp [dueN, uwB, askN, tuB, mkB, c1, c3, c4, c8]; done), by show va_P _ _ _ t.heap; rw [ht]; exact hP, va_K.moved hW.alike hK, hD⟩, hS.F ht⟩) hS.2.2 dX4_due_96
          · skip
            have c8 : (rightB k.1 (1 * 5 * 256)) = true := bI_1.mp c8
            refine lv_iload_n (pc := 91) hx hb dX4_due_91 rfl (lv_at hl 0 rfl) ?_
            refine lv_goto (pc := 92) (tgt := 96) hx hb dX4_due_92 (by decide) ?_
            exact W.iret (v := nI (setN k.1 (9 * 256 + 1 * 8))) hx hb hr (fun t ht hW => ⟨⟨nI (setN k.1 (9 * 256 + 1 * 8)), (dg_7, wo_8, pa_9, ch_10), rfl, by first | (simp [dueN, uwB, askN, tuB, c1, c3, c4, c8]; done) | (simp [dueN, uwB, askN, tuB, mkB, c1, c3, c4, c8]; done), by show va_P _ _ _ t.heap; rw [ht]; exact hP, va_K.moved hW.alike hK, hD⟩, hS.F ht⟩) hS.2.2 dX4_due_96
      · skip
        have c4 : (setN k.1 (9 * 256 + 1 * 8)) = 0 := (nI_eq (a := (setN k.1 (9 * 256 + 1 * 8))) (b := 0) (by omega) (by omega)).mp c4
        refine lv_aload_n (pc := 48) hx hb dX4_due_48 rfl (lv_at hl 1 rfl) ?_
        refine va_get (pc := 49) (D := (dC, dI)) (ci := 4) (v := .ref g1) (C := RX4) (T := TX4) (N := 26) hx hb hts (by decide +kernel) hown hK hP 0 rfl rfl 0 (by decide) (hts (.fieldLink RX4 9 "ScratchSwapModel" "flash" "[B") (by decide +kernel)) (fun _ h9 => h9) rfl dX4_due_49 ?_
        refine lv_bipush (pc := 52) (v := nI 9) hx hb dX4_due_52 (by decide) ?_
        refine x_roi (pc := 54) (va_runS (As := [.ref g1, .int (nI 9)]) (rest := []) ⟨hx, hb, hml, hown, hts⟩ (kX4_isMagic l dC dI tt cI cB _ g1 2816 k.1 9 (by omega) (by omega)) (va_cwS 2 hts gX4_due_X4_isMagic rfl rfl rfl (by decide +kernel) ⟨Nat.le_of_ble_eq_true rfl, Nat.le_of_ble_eq_true rfl⟩) (x_preS hS hE hK hP hD [1] rfl (by decide) (x_ro hS hA) xR0) rfl rfl hl.1 rfl (lv_room (Nat.le_of_ble_eq_true rfl)) dX4_due_54 ⟨Nat.le_of_ble_eq_true rfl, Nat.le_of_ble_eq_true rfl⟩) hS hA hP (fun r_11 H locs hr_11 hP hS => ?_)
        subst hr_11
        refine lv_if_eq (pc := 57) (tgt := 79) hx hb dX4_due_57 (by decide) (fun c5 => ?_) (fun c5 => ?_)
        · skip
          have c5 : (magB k.1 (9 * 256)) = false := bI_0.mp c5
          refine lv_iload_n (pc := 79) hx hb dX4_due_79 rfl (lv_at hl 0 rfl) ?_
          refine lv_if_le (pc := 80) (tgt := 97) hx hb dX4_due_80 (by decide) (fun c7 => ?_) (fun c7 => ?_)
          · skip
            have c7 : (setN k.1 (9 * 256 + 1 * 8)) ≤ 0 := (nI_leI (a := (setN k.1 (9 * 256 + 1 * 8))) (b := 0) (by omega) (by omega)).mp c7
            refine lv_aload_n (pc := 97) hx hb dX4_due_97 rfl (lv_at hl 1 rfl) ?_
            refine va_get (pc := 98) (D := (dC, dI)) (ci := 4) (v := .ref g1) (C := RX4) (T := TX4) (N := 26) hx hb hts (by decide +kernel) hown hK hP 0 rfl rfl 0 (by decide) (hts (.fieldLink RX4 9 "ScratchSwapModel" "flash" "[B") (by decide +kernel)) (fun _ h9 => h9) rfl dX4_due_98 ?_
            refine lv_iconst (pc := 101) (v := nI 4) hx hb dX4_due_101 (by decide) ?_
            refine x_roi (pc := 102) (va_runS (As := [.ref g1, .int (nI 4)]) (rest := []) ⟨hx, hb, hml, hown, hts⟩ (kX4_isMagic l dC dI tt cI cB _ g1 2816 k.1 4 (by omega) (by omega)) (va_cwS 2 hts gX4_due_X4_isMagic rfl rfl rfl (by decide +kernel) ⟨Nat.le_of_ble_eq_true rfl, Nat.le_of_ble_eq_true rfl⟩) (x_preS hS hE hK hP hD [1] rfl (by decide) (x_ro hS hA) xR0) rfl rfl hl.1 rfl (lv_room (Nat.le_of_ble_eq_true rfl)) dX4_due_102 ⟨Nat.le_of_ble_eq_true rfl, Nat.le_of_ble_eq_true rfl⟩) hS hA hP (fun r_12 H locs hr_12 hP hS => ?_)
            subst hr_12
            refine lv_if_eq (pc := 105) (tgt := 148) hx hb dX4_due_105 (by decide) (fun d1 => ?_) (fun d1 => ?_)
            · skip
              have d1 : (magB k.1 (4 * 256)) = false := bI_0.mp d1
              refine lv_iconst (pc := 148) (v := nI 0) hx hb dX4_due_148 (by decide) ?_
              refine lv_istore_n (pc := 149) (lv' := [(2, .int (nI 0)), (1, .int (nI (setN k.1 (9 * 256 + 1 * 8)))), (0, .ref g0)]) hx hb dX4_due_149 rfl hl (by decide) rfl (fun ls hl => ?_)
              refine lv_iload_n (pc := 150) hx hb dX4_due_150 rfl (lv_at hl 0 rfl) ?_
              refine lv_if_eq (pc := 151) (tgt := 158) hx hb dX4_due_151 (by decide) (fun c_13 => ?_) (fun c_13 => ?_)
              · skip
                have c_13 : 0 = 0 := (nI_eq (a := 0) (b := 0) (by omega) (by omega)).mp c_13
                refine lv_iconst (pc := 158) (v := nI 0) hx hb dX4_due_158 (by decide) ?_
                exact W.iret (v := nI 0) hx hb hr (fun t ht hW => ⟨⟨nI 0, (dg, wo, pa, ch), rfl, by first | (simp [dueN, uwB, askN, tuB, c1, c3, c4, c5, d1]; done) | (simp [dueN, uwB, askN, tuB, mkB, c1, c3, c4, c5, d1]; done), by show va_P _ _ _ t.heap; rw [ht]; exact hP, va_K.moved hW.alike hK, hD⟩, hS.F ht⟩) hS.2.2 dX4_due_159
              · skip
                have c_13 : ¬ 0 = 0 := fun z => c_13 ((nI_eq (a := 0) (b := 0) (by omega) (by omega)).mpr z)
                exfalso; omega
            · skip
              have d1 : (magB k.1 (4 * 256)) = true := bI_1.mp d1
              refine lv_aload_n (pc := 108) hx hb dX4_due_108 rfl (lv_at hl 1 rfl) ?_
              refine va_get (pc := 109) (D := (dC, dI)) (ci := 4) (v := .ref g1) (C := RX4) (T := TX4) (N := 26) hx hb hts (by decide +kernel) hown hK hP 0 rfl rfl 0 (by decide) (hts (.fieldLink RX4 9 "ScratchSwapModel" "flash" "[B") (by decide +kernel)) (fun _ h9 => h9) rfl dX4_due_109 ?_
              refine lv_iconst (pc := 112) (v := nI 4) hx hb dX4_due_112 (by decide) ?_
              refine lv_iconst (pc := 113) (v := nI 1) hx hb dX4_due_113 (by decide) ?_
              refine x_roi (pc := 114) (va_runS (As := [.ref g1, .int (nI 4), .int (nI 1)]) (rest := []) ⟨hx, hb, hml, hown, hts⟩ (kX4_isSet l dC dI tt cI cB _ g1 2816 k.1 4 1 (by omega) (by omega)) (va_cwS 3 hts gX4_due_X4_isSet rfl rfl rfl (by decide +kernel) ⟨Nat.le_of_ble_eq_true rfl, Nat.le_of_ble_eq_true rfl⟩) (x_preS hS hE hK hP hD [1] rfl (by decide) (x_ro hS hA) xR0) rfl rfl hl.1 rfl (lv_room (Nat.le_of_ble_eq_true rfl)) dX4_due_114 ⟨Nat.le_of_ble_eq_true rfl, Nat.le_of_ble_eq_true rfl⟩) hS hA hP (fun r_14 H locs hr_14 hP hS => ?_)
              subst hr_14
              refine lv_if_eq (pc := 117) (tgt := 148) hx hb dX4_due_117 (by decide) (fun d2 => ?_) (fun d2 => ?_)
              · skip
                have d2 : (mkB k.1 (4 * 256 + 1 * 8)) = false := bI_0.mp d2
                have d2 : ¬ setN k.1 (4 * 256 + 1 * 8) = 1 := of_decide_eq_false d2
                refine lv_iconst (pc := 148) (v := nI 0) hx hb dX4_due_148 (by decide) ?_
                refine lv_istore_n (pc := 149) (lv' := [(2, .int (nI 0)), (1, .int (nI (setN k.1 (9 * 256 + 1 * 8)))), (0, .ref g0)]) hx hb dX4_due_149 rfl hl (by decide) rfl (fun ls hl => ?_)
                refine lv_iload_n (pc := 150) hx hb dX4_due_150 rfl (lv_at hl 0 rfl) ?_
                refine lv_if_eq (pc := 151) (tgt := 158) hx hb dX4_due_151 (by decide) (fun c_15 => ?_) (fun c_15 => ?_)
                · skip
                  have c_15 : 0 = 0 := (nI_eq (a := 0) (b := 0) (by omega) (by omega)).mp c_15
                  refine lv_iconst (pc := 158) (v := nI 0) hx hb dX4_due_158 (by decide) ?_
                  exact W.iret (v := nI 0) hx hb hr (fun t ht hW => ⟨⟨nI 0, (dg, wo, pa, ch), rfl, by first | (simp [dueN, uwB, askN, tuB, c1, c3, c4, c5, d1, d2]; done) | (simp [dueN, uwB, askN, tuB, mkB, c1, c3, c4, c5, d1, d2]; done), by show va_P _ _ _ t.heap; rw [ht]; exact hP, va_K.moved hW.alike hK, hD⟩, hS.F ht⟩) hS.2.2 dX4_due_159
                · skip
                  have c_15 : ¬ 0 = 0 := fun z => c_15 ((nI_eq (a := 0) (b := 0) (by omega) (by omega)).mpr z)
                  exfalso; omega
              · skip
                have d2 : (mkB k.1 (4 * 256 + 1 * 8)) = true := bI_1.mp d2
                have d2 : setN k.1 (4 * 256 + 1 * 8) = 1 := of_decide_eq_true d2
                exfalso; omega
          · skip
            have c7 : ¬ (setN k.1 (9 * 256 + 1 * 8)) ≤ 0 := fun z => c7 ((nI_leI (a := (setN k.1 (9 * 256 + 1 * 8))) (b := 0) (by omega) (by omega)).mpr z)
            exfalso; omega
        · skip
          have c5 : (magB k.1 (9 * 256)) = true := bI_1.mp c5
          refine lv_aload_n (pc := 60) hx hb dX4_due_60 rfl (lv_at hl 1 rfl) ?_
          refine va_get (pc := 61) (D := (dC, dI)) (ci := 4) (v := .ref g1) (C := RX4) (T := TX4) (N := 26) hx hb hts (by decide +kernel) hown hK hP 0 rfl rfl 0 (by decide) (hts (.fieldLink RX4 9 "ScratchSwapModel" "flash" "[B") (by decide +kernel)) (fun _ h9 => h9) rfl dX4_due_61 ?_
          refine lv_bipush (pc := 64) (v := nI 9) hx hb dX4_due_64 (by decide) ?_
          refine lv_iconst (pc := 66) (v := nI 3) hx hb dX4_due_66 (by decide) ?_
          refine x_roi (pc := 67) (va_runS (As := [.ref g1, .int (nI 9), .int (nI 3)]) (rest := []) ⟨hx, hb, hml, hown, hts⟩ (kX4_isSet l dC dI tt cI cB _ g1 2816 k.1 9 3 (by omega) (by omega)) (va_cwS 3 hts gX4_due_X4_isSet rfl rfl rfl (by decide +kernel) ⟨Nat.le_of_ble_eq_true rfl, Nat.le_of_ble_eq_true rfl⟩) (x_preS hS hE hK hP hD [1] rfl (by decide) (x_ro hS hA) xR0) rfl rfl hl.1 rfl (lv_room (Nat.le_of_ble_eq_true rfl)) dX4_due_67 ⟨Nat.le_of_ble_eq_true rfl, Nat.le_of_ble_eq_true rfl⟩) hS hA hP (fun r_16 H locs hr_16 hP hS => ?_)
          subst hr_16
          refine lv_if_eq (pc := 70) (tgt := 77) hx hb dX4_due_70 (by decide) (fun c6 => ?_) (fun c6 => ?_)
          · skip
            have c6 : (mkB k.1 (9 * 256 + 3 * 8)) = false := bI_0.mp c6
            refine lv_iconst (pc := 77) (v := nI 1) hx hb dX4_due_77 (by decide) ?_
            refine lv_istore_n (pc := 78) (lv' := [(1, .int (nI 1)), (0, .ref g0)]) hx hb dX4_due_78 rfl hl (by decide) rfl (fun ls hl => ?_)
            refine lv_iload_n (pc := 79) hx hb dX4_due_79 rfl (lv_at hl 0 rfl) ?_
            refine lv_if_le (pc := 80) (tgt := 97) hx hb dX4_due_80 (by decide) (fun c7 => ?_) (fun c7 => ?_)
            · skip
              have c7 : 1 ≤ 0 := (nI_leI (a := 1) (b := 0) (by omega) (by omega)).mp c7
              exfalso; omega
            · skip
              have c7 : ¬ 1 ≤ 0 := fun z => c7 ((nI_leI (a := 1) (b := 0) (by omega) (by omega)).mpr z)
              refine lv_aload_n (pc := 83) hx hb dX4_due_83 rfl (lv_at hl 1 rfl) ?_
              refine lv_iconst (pc := 84) (v := nI 1) hx hb dX4_due_84 (by decide) ?_
              refine x_wria (pc := 85) (va_runV (As := [.int (nI 1)]) (rest := []) ⟨hx, hb, hml, hown, hts⟩ (kX4_isRight l dC dI tt cI cB _ g0 g1 g2 g3 g4 g5 g6 g7 g8 g9 g10 g11 g12 g13 k dr er pl un li ov tp tn rn vs bo ex wr ei dg wo pa ch fi 1 (by omega)) (cwV 1 hts gX4_due_X4_isRight rfl rfl rfl (by decide +kernel) ⟨Nat.le_of_ble_eq_true rfl, Nat.le_of_ble_eq_true rfl⟩) (x_preVa hS hE hK hP hD (x_all hD hS hA) xR0 4 0 rfl rfl) rfl rfl hl.1 rfl (lv_room (Nat.le_of_ble_eq_true rfl)) dX4_due_85 ⟨Nat.le_of_ble_eq_true rfl, Nat.le_of_ble_eq_true rfl⟩) hS hA hD (fun r_18 u_17 H locs hu_17 hP hD hS => ?_)
              obtain ⟨dg_19, wo_20, pa_21, ch_22⟩ := u_17
              subst hu_17
              have hP : va_P (dC, dI) vwCl (gW g0 g1 g2 g3 g4 g5 g6 g7 g8 g9 g10 g11 g12 g13 cI cB k dr er pl un li ov tp tn rn vs bo ex wr ei dg_19 wo_20 pa_21 ch_22 fi) _ := hP
              have hD : va_D A (gW g0 g1 g2 g3 g4 g5 g6 g7 g8 g9 g10 g11 g12 g13 cI cB k dr er pl un li ov tp tn rn vs bo ex wr ei dg_19 wo_20 pa_21 ch_22 fi) := hD
              refine lv_if_eq (pc := 88) (tgt := 95) hx hb dX4_due_88 (by decide) (fun c8 => ?_) (fun c8 => ?_)
              · skip
                have c8 : (rightB k.1 (1 * 5 * 256)) = false := bI_0.mp c8
                refine lv_iconst (pc := 95) (v := nI 4) hx hb dX4_due_95 (by decide) ?_
                exact W.iret (v := nI 4) hx hb hr (fun t ht hW => ⟨⟨nI 4, (dg_19, wo_20, pa_21, ch_22), rfl, by first | (simp [dueN, uwB, askN, tuB, c1, c3, c4, c5, c6, c8]; done) | (simp [dueN, uwB, askN, tuB, mkB, c1, c3, c4, c5, c6, c8]; done), by show va_P _ _ _ t.heap; rw [ht]; exact hP, va_K.moved hW.alike hK, hD⟩, hS.F ht⟩) hS.2.2 dX4_due_96
              · skip
                have c8 : (rightB k.1 (1 * 5 * 256)) = true := bI_1.mp c8
                refine lv_iload_n (pc := 91) hx hb dX4_due_91 rfl (lv_at hl 0 rfl) ?_
                refine lv_goto (pc := 92) (tgt := 96) hx hb dX4_due_92 (by decide) ?_
                exact W.iret (v := nI 1) hx hb hr (fun t ht hW => ⟨⟨nI 1, (dg_19, wo_20, pa_21, ch_22), rfl, by first | (simp [dueN, uwB, askN, tuB, c1, c3, c4, c5, c6, c8]; done) | (simp [dueN, uwB, askN, tuB, mkB, c1, c3, c4, c5, c6, c8]; done), by show va_P _ _ _ t.heap; rw [ht]; exact hP, va_K.moved hW.alike hK, hD⟩, hS.F ht⟩) hS.2.2 dX4_due_96
          · skip
            have c6 : (mkB k.1 (9 * 256 + 3 * 8)) = true := bI_1.mp c6
            refine lv_iconst (pc := 73) (v := nI 2) hx hb dX4_due_73 (by decide) ?_
            refine lv_goto (pc := 74) (tgt := 78) hx hb dX4_due_74 (by decide) ?_
            refine lv_istore_n (pc := 78) (lv' := [(1, .int (nI 2)), (0, .ref g0)]) hx hb dX4_due_78 rfl hl (by decide) rfl (fun ls hl => ?_)
            refine lv_iload_n (pc := 79) hx hb dX4_due_79 rfl (lv_at hl 0 rfl) ?_
            refine lv_if_le (pc := 80) (tgt := 97) hx hb dX4_due_80 (by decide) (fun c7 => ?_) (fun c7 => ?_)
            · skip
              have c7 : 2 ≤ 0 := (nI_leI (a := 2) (b := 0) (by omega) (by omega)).mp c7
              exfalso; omega
            · skip
              have c7 : ¬ 2 ≤ 0 := fun z => c7 ((nI_leI (a := 2) (b := 0) (by omega) (by omega)).mpr z)
              refine lv_aload_n (pc := 83) hx hb dX4_due_83 rfl (lv_at hl 1 rfl) ?_
              refine lv_iconst (pc := 84) (v := nI 1) hx hb dX4_due_84 (by decide) ?_
              refine x_wria (pc := 85) (va_runV (As := [.int (nI 1)]) (rest := []) ⟨hx, hb, hml, hown, hts⟩ (kX4_isRight l dC dI tt cI cB _ g0 g1 g2 g3 g4 g5 g6 g7 g8 g9 g10 g11 g12 g13 k dr er pl un li ov tp tn rn vs bo ex wr ei dg wo pa ch fi 1 (by omega)) (cwV 1 hts gX4_due_X4_isRight rfl rfl rfl (by decide +kernel) ⟨Nat.le_of_ble_eq_true rfl, Nat.le_of_ble_eq_true rfl⟩) (x_preVa hS hE hK hP hD (x_all hD hS hA) xR0 4 0 rfl rfl) rfl rfl hl.1 rfl (lv_room (Nat.le_of_ble_eq_true rfl)) dX4_due_85 ⟨Nat.le_of_ble_eq_true rfl, Nat.le_of_ble_eq_true rfl⟩) hS hA hD (fun r_24 u_23 H locs hu_23 hP hD hS => ?_)
              obtain ⟨dg_25, wo_26, pa_27, ch_28⟩ := u_23
              subst hu_23
              have hP : va_P (dC, dI) vwCl (gW g0 g1 g2 g3 g4 g5 g6 g7 g8 g9 g10 g11 g12 g13 cI cB k dr er pl un li ov tp tn rn vs bo ex wr ei dg_25 wo_26 pa_27 ch_28 fi) _ := hP
              have hD : va_D A (gW g0 g1 g2 g3 g4 g5 g6 g7 g8 g9 g10 g11 g12 g13 cI cB k dr er pl un li ov tp tn rn vs bo ex wr ei dg_25 wo_26 pa_27 ch_28 fi) := hD
              refine lv_if_eq (pc := 88) (tgt := 95) hx hb dX4_due_88 (by decide) (fun c8 => ?_) (fun c8 => ?_)
              · skip
                have c8 : (rightB k.1 (1 * 5 * 256)) = false := bI_0.mp c8
                refine lv_iconst (pc := 95) (v := nI 4) hx hb dX4_due_95 (by decide) ?_
                exact W.iret (v := nI 4) hx hb hr (fun t ht hW => ⟨⟨nI 4, (dg_25, wo_26, pa_27, ch_28), rfl, by first | (simp [dueN, uwB, askN, tuB, c1, c3, c4, c5, c6, c8]; done) | (simp [dueN, uwB, askN, tuB, mkB, c1, c3, c4, c5, c6, c8]; done), by show va_P _ _ _ t.heap; rw [ht]; exact hP, va_K.moved hW.alike hK, hD⟩, hS.F ht⟩) hS.2.2 dX4_due_96
              · skip
                have c8 : (rightB k.1 (1 * 5 * 256)) = true := bI_1.mp c8
                refine lv_iload_n (pc := 91) hx hb dX4_due_91 rfl (lv_at hl 0 rfl) ?_
                refine lv_goto (pc := 92) (tgt := 96) hx hb dX4_due_92 (by decide) ?_
                exact W.iret (v := nI 2) hx hb hr (fun t ht hW => ⟨⟨nI 2, (dg_25, wo_26, pa_27, ch_28), rfl, by first | (simp [dueN, uwB, askN, tuB, c1, c3, c4, c5, c6, c8]; done) | (simp [dueN, uwB, askN, tuB, mkB, c1, c3, c4, c5, c6, c8]; done), by show va_P _ _ _ t.heap; rw [ht]; exact hP, va_K.moved hW.alike hK, hD⟩, hS.F ht⟩) hS.2.2 dX4_due_96
    · skip
      have c3 : (setN k.1 (9 * 256 + 1 * 8)) = 3 := (nI_eq (a := (setN k.1 (9 * 256 + 1 * 8))) (b := 3) (by omega) (by omega)).mp c3
      refine lv_iconst (pc := 42) (v := nI 3) hx hb dX4_due_42 (by decide) ?_
      exact W.iret (v := nI 3) hx hb hr (fun t ht hW => ⟨⟨nI 3, (dg, wo, pa, ch), rfl, by first | (simp [dueN, uwB, askN, tuB, c1, c3]; done) | (simp [dueN, uwB, askN, tuB, mkB, c1, c3]; done), by show va_P _ _ _ t.heap; rw [ht]; exact hP, va_K.moved hW.alike hK, hD⟩, hS.F ht⟩) hS.2.2 dX4_due_43
  · skip
    have c1 : ¬ (setN k.1 (4 * 256 + 1 * 8)) ≤ 0 := fun z => c1 ((nI_leI (a := (setN k.1 (4 * 256 + 1 * 8))) (b := 0) (by omega) (by omega)).mpr z)
    have c1 : ¬ setN k.1 (4 * 256 + 1 * 8) = 0 := by omega
    refine lv_aload_n (pc := 12) hx hb dX4_due_12 rfl (lv_at hl 0 rfl) ?_
    refine va_get (pc := 13) (D := (dC, dI)) (ci := 4) (v := .ref g1) (C := RX4) (T := TX4) (N := 26) hx hb hts (by decide +kernel) hown hK hP 0 rfl rfl 0 (by decide) (hts (.fieldLink RX4 9 "ScratchSwapModel" "flash" "[B") (by decide +kernel)) (fun _ h9 => h9) rfl dX4_due_13 ?_
    refine lv_iconst (pc := 16) (v := nI 4) hx hb dX4_due_16 (by decide) ?_
    refine lv_iconst (pc := 17) (v := nI 2) hx hb dX4_due_17 (by decide) ?_
    refine x_roi (pc := 18) (va_runS (As := [.ref g1, .int (nI 4), .int (nI 2)]) (rest := []) ⟨hx, hb, hml, hown, hts⟩ (kX4_isSet l dC dI tt cI cB _ g1 2816 k.1 4 2 (by omega) (by omega)) (va_cwS 3 hts gX4_due_X4_isSet rfl rfl rfl (by decide +kernel) ⟨Nat.le_of_ble_eq_true rfl, Nat.le_of_ble_eq_true rfl⟩) (x_preS hS hE hK hP hD [1] rfl (by decide) (x_ro hS hA) xR0) rfl rfl hl.1 rfl (lv_room (Nat.le_of_ble_eq_true rfl)) dX4_due_18 ⟨Nat.le_of_ble_eq_true rfl, Nat.le_of_ble_eq_true rfl⟩) hS hA hP (fun r_29 H locs hr_29 hP hS => ?_)
    subst hr_29
    refine lv_if_ne (pc := 21) (tgt := 26) hx hb dX4_due_21 (by decide) (fun c2 => ?_) (fun c2 => ?_)
    · skip
      have c2 : (mkB k.1 (4 * 256 + 2 * 8)) = true := bI_1.mp c2
      refine lv_aload_n (pc := 26) hx hb dX4_due_26 rfl (lv_at hl 0 rfl) ?_
      refine va_get (pc := 27) (D := (dC, dI)) (ci := 4) (v := .ref g1) (C := RX4) (T := TX4) (N := 26) hx hb hts (by decide +kernel) hown hK hP 0 rfl rfl 0 (by decide) (hts (.fieldLink RX4 9 "ScratchSwapModel" "flash" "[B") (by decide +kernel)) (fun _ h9 => h9) rfl dX4_due_27 ?_
      refine lv_bipush (pc := 30) (v := nI 9) hx hb dX4_due_30 (by decide) ?_
      refine lv_iconst (pc := 32) (v := nI 1) hx hb dX4_due_32 (by decide) ?_
      refine x_roi (pc := 33) (va_runS (As := [.ref g1, .int (nI 9), .int (nI 1)]) (rest := []) ⟨hx, hb, hml, hown, hts⟩ (kX4_set l dC dI tt cI cB _ g1 2816 k.1 9 1 (by omega) (by omega)) (va_cwS 3 hts gX4_due_X4_set rfl rfl rfl (by decide +kernel) ⟨Nat.le_of_ble_eq_true rfl, Nat.le_of_ble_eq_true rfl⟩) (x_preS hS hE hK hP hD [1] rfl (by decide) (x_ro hS hA) xR0) rfl rfl hl.1 rfl (lv_room (Nat.le_of_ble_eq_true rfl)) dX4_due_33 ⟨Nat.le_of_ble_eq_true rfl, Nat.le_of_ble_eq_true rfl⟩) hS hA hP (fun r_30 H locs hr_30 hP hS => ?_)
      subst hr_30
      have hs_31 := setN_le k.1 (9 * 256 + 1 * 8)
      refine lv_istore_n (pc := 36) (lv' := [(1, .int (nI (setN k.1 (9 * 256 + 1 * 8)))), (0, .ref g0)]) hx hb dX4_due_36 rfl hl (by decide) rfl (fun ls hl => ?_)
      refine lv_iload_n (pc := 37) hx hb dX4_due_37 rfl (lv_at hl 0 rfl) ?_
      refine lv_iconst (pc := 38) (v := nI 3) hx hb dX4_due_38 (by decide) ?_
      refine lv_icmp_ne (pc := 39) (tgt := 44) hx hb dX4_due_39 (by decide) (fun c3 => ?_) (fun c3 => ?_)
      · skip
        have c3 : ¬ (setN k.1 (9 * 256 + 1 * 8)) = 3 := fun z => c3 ((nI_eq (a := (setN k.1 (9 * 256 + 1 * 8))) (b := 3) (by omega) (by omega)).mpr z)
        refine lv_iload_n (pc := 44) hx hb dX4_due_44 rfl (lv_at hl 0 rfl) ?_
        refine lv_if_ne (pc := 45) (tgt := 79) hx hb dX4_due_45 (by decide) (fun c4 => ?_) (fun c4 => ?_)
        · skip
          have c4 : ¬ (setN k.1 (9 * 256 + 1 * 8)) = 0 := fun z => c4 ((nI_eq (a := (setN k.1 (9 * 256 + 1 * 8))) (b := 0) (by omega) (by omega)).mpr z)
          refine lv_iload_n (pc := 79) hx hb dX4_due_79 rfl (lv_at hl 0 rfl) ?_
          refine lv_if_le (pc := 80) (tgt := 97) hx hb dX4_due_80 (by decide) (fun c7 => ?_) (fun c7 => ?_)
          · skip
            have c7 : (setN k.1 (9 * 256 + 1 * 8)) ≤ 0 := (nI_leI (a := (setN k.1 (9 * 256 + 1 * 8))) (b := 0) (by omega) (by omega)).mp c7
            exfalso; omega
          · skip
            have c7 : ¬ (setN k.1 (9 * 256 + 1 * 8)) ≤ 0 := fun z => c7 ((nI_leI (a := (setN k.1 (9 * 256 + 1 * 8))) (b := 0) (by omega) (by omega)).mpr z)
            refine lv_aload_n (pc := 83) hx hb dX4_due_83 rfl (lv_at hl 1 rfl) ?_
            refine lv_iconst (pc := 84) (v := nI 1) hx hb dX4_due_84 (by decide) ?_
            refine x_wria (pc := 85) (va_runV (As := [.int (nI 1)]) (rest := []) ⟨hx, hb, hml, hown, hts⟩ (kX4_isRight l dC dI tt cI cB _ g0 g1 g2 g3 g4 g5 g6 g7 g8 g9 g10 g11 g12 g13 k dr er pl un li ov tp tn rn vs bo ex wr ei dg wo pa ch fi 1 (by omega)) (cwV 1 hts gX4_due_X4_isRight rfl rfl rfl (by decide +kernel) ⟨Nat.le_of_ble_eq_true rfl, Nat.le_of_ble_eq_true rfl⟩) (x_preVa hS hE hK hP hD (x_all hD hS hA) xR0 4 0 rfl rfl) rfl rfl hl.1 rfl (lv_room (Nat.le_of_ble_eq_true rfl)) dX4_due_85 ⟨Nat.le_of_ble_eq_true rfl, Nat.le_of_ble_eq_true rfl⟩) hS hA hD (fun r_33 u_32 H locs hu_32 hP hD hS => ?_)
            obtain ⟨dg_34, wo_35, pa_36, ch_37⟩ := u_32
            subst hu_32
            have hP : va_P (dC, dI) vwCl (gW g0 g1 g2 g3 g4 g5 g6 g7 g8 g9 g10 g11 g12 g13 cI cB k dr er pl un li ov tp tn rn vs bo ex wr ei dg_34 wo_35 pa_36 ch_37 fi) _ := hP
            have hD : va_D A (gW g0 g1 g2 g3 g4 g5 g6 g7 g8 g9 g10 g11 g12 g13 cI cB k dr er pl un li ov tp tn rn vs bo ex wr ei dg_34 wo_35 pa_36 ch_37 fi) := hD
            refine lv_if_eq (pc := 88) (tgt := 95) hx hb dX4_due_88 (by decide) (fun c8 => ?_) (fun c8 => ?_)
            · skip
              have c8 : (rightB k.1 (1 * 5 * 256)) = false := bI_0.mp c8
              refine lv_iconst (pc := 95) (v := nI 4) hx hb dX4_due_95 (by decide) ?_
              exact W.iret (v := nI 4) hx hb hr (fun t ht hW => ⟨⟨nI 4, (dg_34, wo_35, pa_36, ch_37), rfl, by first | (simp [dueN, uwB, askN, tuB, c1, c2, c3, c4, c8]; done) | (simp [dueN, uwB, askN, tuB, mkB, c1, c2, c3, c4, c8]; done), by show va_P _ _ _ t.heap; rw [ht]; exact hP, va_K.moved hW.alike hK, hD⟩, hS.F ht⟩) hS.2.2 dX4_due_96
            · skip
              have c8 : (rightB k.1 (1 * 5 * 256)) = true := bI_1.mp c8
              refine lv_iload_n (pc := 91) hx hb dX4_due_91 rfl (lv_at hl 0 rfl) ?_
              refine lv_goto (pc := 92) (tgt := 96) hx hb dX4_due_92 (by decide) ?_
              exact W.iret (v := nI (setN k.1 (9 * 256 + 1 * 8))) hx hb hr (fun t ht hW => ⟨⟨nI (setN k.1 (9 * 256 + 1 * 8)), (dg_34, wo_35, pa_36, ch_37), rfl, by first | (simp [dueN, uwB, askN, tuB, c1, c2, c3, c4, c8]; done) | (simp [dueN, uwB, askN, tuB, mkB, c1, c2, c3, c4, c8]; done), by show va_P _ _ _ t.heap; rw [ht]; exact hP, va_K.moved hW.alike hK, hD⟩, hS.F ht⟩) hS.2.2 dX4_due_96
        · skip
          have c4 : (setN k.1 (9 * 256 + 1 * 8)) = 0 := (nI_eq (a := (setN k.1 (9 * 256 + 1 * 8))) (b := 0) (by omega) (by omega)).mp c4
          refine lv_aload_n (pc := 48) hx hb dX4_due_48 rfl (lv_at hl 1 rfl) ?_
          refine va_get (pc := 49) (D := (dC, dI)) (ci := 4) (v := .ref g1) (C := RX4) (T := TX4) (N := 26) hx hb hts (by decide +kernel) hown hK hP 0 rfl rfl 0 (by decide) (hts (.fieldLink RX4 9 "ScratchSwapModel" "flash" "[B") (by decide +kernel)) (fun _ h9 => h9) rfl dX4_due_49 ?_
          refine lv_bipush (pc := 52) (v := nI 9) hx hb dX4_due_52 (by decide) ?_
          refine x_roi (pc := 54) (va_runS (As := [.ref g1, .int (nI 9)]) (rest := []) ⟨hx, hb, hml, hown, hts⟩ (kX4_isMagic l dC dI tt cI cB _ g1 2816 k.1 9 (by omega) (by omega)) (va_cwS 2 hts gX4_due_X4_isMagic rfl rfl rfl (by decide +kernel) ⟨Nat.le_of_ble_eq_true rfl, Nat.le_of_ble_eq_true rfl⟩) (x_preS hS hE hK hP hD [1] rfl (by decide) (x_ro hS hA) xR0) rfl rfl hl.1 rfl (lv_room (Nat.le_of_ble_eq_true rfl)) dX4_due_54 ⟨Nat.le_of_ble_eq_true rfl, Nat.le_of_ble_eq_true rfl⟩) hS hA hP (fun r_38 H locs hr_38 hP hS => ?_)
          subst hr_38
          refine lv_if_eq (pc := 57) (tgt := 79) hx hb dX4_due_57 (by decide) (fun c5 => ?_) (fun c5 => ?_)
          · skip
            have c5 : (magB k.1 (9 * 256)) = false := bI_0.mp c5
            refine lv_iload_n (pc := 79) hx hb dX4_due_79 rfl (lv_at hl 0 rfl) ?_
            refine lv_if_le (pc := 80) (tgt := 97) hx hb dX4_due_80 (by decide) (fun c7 => ?_) (fun c7 => ?_)
            · skip
              have c7 : (setN k.1 (9 * 256 + 1 * 8)) ≤ 0 := (nI_leI (a := (setN k.1 (9 * 256 + 1 * 8))) (b := 0) (by omega) (by omega)).mp c7
              refine lv_aload_n (pc := 97) hx hb dX4_due_97 rfl (lv_at hl 1 rfl) ?_
              refine va_get (pc := 98) (D := (dC, dI)) (ci := 4) (v := .ref g1) (C := RX4) (T := TX4) (N := 26) hx hb hts (by decide +kernel) hown hK hP 0 rfl rfl 0 (by decide) (hts (.fieldLink RX4 9 "ScratchSwapModel" "flash" "[B") (by decide +kernel)) (fun _ h9 => h9) rfl dX4_due_98 ?_
              refine lv_iconst (pc := 101) (v := nI 4) hx hb dX4_due_101 (by decide) ?_
              refine x_roi (pc := 102) (va_runS (As := [.ref g1, .int (nI 4)]) (rest := []) ⟨hx, hb, hml, hown, hts⟩ (kX4_isMagic l dC dI tt cI cB _ g1 2816 k.1 4 (by omega) (by omega)) (va_cwS 2 hts gX4_due_X4_isMagic rfl rfl rfl (by decide +kernel) ⟨Nat.le_of_ble_eq_true rfl, Nat.le_of_ble_eq_true rfl⟩) (x_preS hS hE hK hP hD [1] rfl (by decide) (x_ro hS hA) xR0) rfl rfl hl.1 rfl (lv_room (Nat.le_of_ble_eq_true rfl)) dX4_due_102 ⟨Nat.le_of_ble_eq_true rfl, Nat.le_of_ble_eq_true rfl⟩) hS hA hP (fun r_39 H locs hr_39 hP hS => ?_)
              subst hr_39
              refine lv_if_eq (pc := 105) (tgt := 148) hx hb dX4_due_105 (by decide) (fun d1 => ?_) (fun d1 => ?_)
              · skip
                have d1 : (magB k.1 (4 * 256)) = false := bI_0.mp d1
                refine lv_iconst (pc := 148) (v := nI 0) hx hb dX4_due_148 (by decide) ?_
                refine lv_istore_n (pc := 149) (lv' := [(2, .int (nI 0)), (1, .int (nI (setN k.1 (9 * 256 + 1 * 8)))), (0, .ref g0)]) hx hb dX4_due_149 rfl hl (by decide) rfl (fun ls hl => ?_)
                refine lv_iload_n (pc := 150) hx hb dX4_due_150 rfl (lv_at hl 0 rfl) ?_
                refine lv_if_eq (pc := 151) (tgt := 158) hx hb dX4_due_151 (by decide) (fun c_40 => ?_) (fun c_40 => ?_)
                · skip
                  have c_40 : 0 = 0 := (nI_eq (a := 0) (b := 0) (by omega) (by omega)).mp c_40
                  refine lv_iconst (pc := 158) (v := nI 0) hx hb dX4_due_158 (by decide) ?_
                  exact W.iret (v := nI 0) hx hb hr (fun t ht hW => ⟨⟨nI 0, (dg, wo, pa, ch), rfl, by first | (simp [dueN, uwB, askN, tuB, c1, c2, c3, c4, c5, d1]; done) | (simp [dueN, uwB, askN, tuB, mkB, c1, c2, c3, c4, c5, d1]; done), by show va_P _ _ _ t.heap; rw [ht]; exact hP, va_K.moved hW.alike hK, hD⟩, hS.F ht⟩) hS.2.2 dX4_due_159
                · skip
                  have c_40 : ¬ 0 = 0 := fun z => c_40 ((nI_eq (a := 0) (b := 0) (by omega) (by omega)).mpr z)
                  exfalso; omega
              · skip
                have d1 : (magB k.1 (4 * 256)) = true := bI_1.mp d1
                refine lv_aload_n (pc := 108) hx hb dX4_due_108 rfl (lv_at hl 1 rfl) ?_
                refine va_get (pc := 109) (D := (dC, dI)) (ci := 4) (v := .ref g1) (C := RX4) (T := TX4) (N := 26) hx hb hts (by decide +kernel) hown hK hP 0 rfl rfl 0 (by decide) (hts (.fieldLink RX4 9 "ScratchSwapModel" "flash" "[B") (by decide +kernel)) (fun _ h9 => h9) rfl dX4_due_109 ?_
                refine lv_iconst (pc := 112) (v := nI 4) hx hb dX4_due_112 (by decide) ?_
                refine lv_iconst (pc := 113) (v := nI 1) hx hb dX4_due_113 (by decide) ?_
                refine x_roi (pc := 114) (va_runS (As := [.ref g1, .int (nI 4), .int (nI 1)]) (rest := []) ⟨hx, hb, hml, hown, hts⟩ (kX4_isSet l dC dI tt cI cB _ g1 2816 k.1 4 1 (by omega) (by omega)) (va_cwS 3 hts gX4_due_X4_isSet rfl rfl rfl (by decide +kernel) ⟨Nat.le_of_ble_eq_true rfl, Nat.le_of_ble_eq_true rfl⟩) (x_preS hS hE hK hP hD [1] rfl (by decide) (x_ro hS hA) xR0) rfl rfl hl.1 rfl (lv_room (Nat.le_of_ble_eq_true rfl)) dX4_due_114 ⟨Nat.le_of_ble_eq_true rfl, Nat.le_of_ble_eq_true rfl⟩) hS hA hP (fun r_41 H locs hr_41 hP hS => ?_)
                subst hr_41
                refine lv_if_eq (pc := 117) (tgt := 148) hx hb dX4_due_117 (by decide) (fun d2 => ?_) (fun d2 => ?_)
                · skip
                  have d2 : (mkB k.1 (4 * 256 + 1 * 8)) = false := bI_0.mp d2
                  have d2 : ¬ setN k.1 (4 * 256 + 1 * 8) = 1 := of_decide_eq_false d2
                  refine lv_iconst (pc := 148) (v := nI 0) hx hb dX4_due_148 (by decide) ?_
                  refine lv_istore_n (pc := 149) (lv' := [(2, .int (nI 0)), (1, .int (nI (setN k.1 (9 * 256 + 1 * 8)))), (0, .ref g0)]) hx hb dX4_due_149 rfl hl (by decide) rfl (fun ls hl => ?_)
                  refine lv_iload_n (pc := 150) hx hb dX4_due_150 rfl (lv_at hl 0 rfl) ?_
                  refine lv_if_eq (pc := 151) (tgt := 158) hx hb dX4_due_151 (by decide) (fun c_42 => ?_) (fun c_42 => ?_)
                  · skip
                    have c_42 : 0 = 0 := (nI_eq (a := 0) (b := 0) (by omega) (by omega)).mp c_42
                    refine lv_iconst (pc := 158) (v := nI 0) hx hb dX4_due_158 (by decide) ?_
                    exact W.iret (v := nI 0) hx hb hr (fun t ht hW => ⟨⟨nI 0, (dg, wo, pa, ch), rfl, by first | (simp [dueN, uwB, askN, tuB, c1, c2, c3, c4, c5, d1, d2]; done) | (simp [dueN, uwB, askN, tuB, mkB, c1, c2, c3, c4, c5, d1, d2]; done), by show va_P _ _ _ t.heap; rw [ht]; exact hP, va_K.moved hW.alike hK, hD⟩, hS.F ht⟩) hS.2.2 dX4_due_159
                  · skip
                    have c_42 : ¬ 0 = 0 := fun z => c_42 ((nI_eq (a := 0) (b := 0) (by omega) (by omega)).mpr z)
                    exfalso; omega
                · skip
                  have d2 : (mkB k.1 (4 * 256 + 1 * 8)) = true := bI_1.mp d2
                  have d2 : setN k.1 (4 * 256 + 1 * 8) = 1 := of_decide_eq_true d2
                  refine lv_aload_n (pc := 120) hx hb dX4_due_120 rfl (lv_at hl 1 rfl) ?_
                  refine va_get (pc := 121) (D := (dC, dI)) (ci := 4) (v := .ref g1) (C := RX4) (T := TX4) (N := 26) hx hb hts (by decide +kernel) hown hK hP 0 rfl rfl 0 (by decide) (hts (.fieldLink RX4 9 "ScratchSwapModel" "flash" "[B") (by decide +kernel)) (fun _ h9 => h9) rfl dX4_due_121 ?_
                  refine lv_iconst (pc := 124) (v := nI 4) hx hb dX4_due_124 (by decide) ?_
                  refine lv_iconst (pc := 125) (v := nI 2) hx hb dX4_due_125 (by decide) ?_
                  refine x_roi (pc := 126) (va_runS (As := [.ref g1, .int (nI 4), .int (nI 2)]) (rest := []) ⟨hx, hb, hml, hown, hts⟩ (kX4_isSet l dC dI tt cI cB _ g1 2816 k.1 4 2 (by omega) (by omega)) (va_cwS 3 hts gX4_due_X4_isSet rfl rfl rfl (by decide +kernel) ⟨Nat.le_of_ble_eq_true rfl, Nat.le_of_ble_eq_true rfl⟩) (x_preS hS hE hK hP hD [1] rfl (by decide) (x_ro hS hA) xR0) rfl rfl hl.1 rfl (lv_room (Nat.le_of_ble_eq_true rfl)) dX4_due_126 ⟨Nat.le_of_ble_eq_true rfl, Nat.le_of_ble_eq_true rfl⟩) hS hA hP (fun r_43 H locs hr_43 hP hS => ?_)
                  subst hr_43
                  refine lv_if_eq (pc := 129) (tgt := 148) hx hb dX4_due_129 (by decide) (fun d3 => ?_) (fun d3 => ?_)
                  · skip
                    have d3 : (mkB k.1 (4 * 256 + 2 * 8)) = false := bI_0.mp d3
                    rw [c2] at d3; exact absurd d3 (by decide)
                  · skip
                    have d3 : (mkB k.1 (4 * 256 + 2 * 8)) = true := bI_1.mp d3
                    refine lv_aload_n (pc := 132) hx hb dX4_due_132 rfl (lv_at hl 1 rfl) ?_
                    refine va_get (pc := 133) (D := (dC, dI)) (ci := 4) (v := .ref g1) (C := RX4) (T := TX4) (N := 26) hx hb hts (by decide +kernel) hown hK hP 0 rfl rfl 0 (by decide) (hts (.fieldLink RX4 9 "ScratchSwapModel" "flash" "[B") (by decide +kernel)) (fun _ h9 => h9) rfl dX4_due_133 ?_
                    refine lv_iconst (pc := 136) (v := nI 4) hx hb dX4_due_136 (by decide) ?_
                    refine lv_iconst (pc := 137) (v := nI 3) hx hb dX4_due_137 (by decide) ?_
                    refine x_roi (pc := 138) (va_runS (As := [.ref g1, .int (nI 4), .int (nI 3)]) (rest := []) ⟨hx, hb, hml, hown, hts⟩ (kX4_isSet l dC dI tt cI cB _ g1 2816 k.1 4 3 (by omega) (by omega)) (va_cwS 3 hts gX4_due_X4_isSet rfl rfl rfl (by decide +kernel) ⟨Nat.le_of_ble_eq_true rfl, Nat.le_of_ble_eq_true rfl⟩) (x_preS hS hE hK hP hD [1] rfl (by decide) (x_ro hS hA) xR0) rfl rfl hl.1 rfl (lv_room (Nat.le_of_ble_eq_true rfl)) dX4_due_138 ⟨Nat.le_of_ble_eq_true rfl, Nat.le_of_ble_eq_true rfl⟩) hS hA hP (fun r_44 H locs hr_44 hP hS => ?_)
                    subst hr_44
                    refine lv_if_ne (pc := 141) (tgt := 148) hx hb dX4_due_141 (by decide) (fun d4 => ?_) (fun d4 => ?_)
                    · skip
                      have d4 : (mkB k.1 (4 * 256 + 3 * 8)) = true := bI_1.mp d4
                      refine lv_iconst (pc := 148) (v := nI 0) hx hb dX4_due_148 (by decide) ?_
                      refine lv_istore_n (pc := 149) (lv' := [(2, .int (nI 0)), (1, .int (nI (setN k.1 (9 * 256 + 1 * 8)))), (0, .ref g0)]) hx hb dX4_due_149 rfl hl (by decide) rfl (fun ls hl => ?_)
                      refine lv_iload_n (pc := 150) hx hb dX4_due_150 rfl (lv_at hl 0 rfl) ?_
                      refine lv_if_eq (pc := 151) (tgt := 158) hx hb dX4_due_151 (by decide) (fun c_45 => ?_) (fun c_45 => ?_)
                      · skip
                        have c_45 : 0 = 0 := (nI_eq (a := 0) (b := 0) (by omega) (by omega)).mp c_45
                        refine lv_iconst (pc := 158) (v := nI 0) hx hb dX4_due_158 (by decide) ?_
                        exact W.iret (v := nI 0) hx hb hr (fun t ht hW => ⟨⟨nI 0, (dg, wo, pa, ch), rfl, by first | (simp [dueN, uwB, askN, tuB, c1, c2, c3, c4, c5, d1, d2, d3, d4]; done) | (simp [dueN, uwB, askN, tuB, mkB, c1, c2, c3, c4, c5, d1, d2, d3, d4]; done), by show va_P _ _ _ t.heap; rw [ht]; exact hP, va_K.moved hW.alike hK, hD⟩, hS.F ht⟩) hS.2.2 dX4_due_159
                      · skip
                        have c_45 : ¬ 0 = 0 := fun z => c_45 ((nI_eq (a := 0) (b := 0) (by omega) (by omega)).mpr z)
                        exfalso; omega
                    · skip
                      have d4 : (mkB k.1 (4 * 256 + 3 * 8)) = false := bI_0.mp d4
                      refine lv_iconst (pc := 144) (v := nI 1) hx hb dX4_due_144 (by decide) ?_
                      refine lv_goto (pc := 145) (tgt := 149) hx hb dX4_due_145 (by decide) ?_
                      refine lv_istore_n (pc := 149) (lv' := [(2, .int (nI 1)), (1, .int (nI (setN k.1 (9 * 256 + 1 * 8)))), (0, .ref g0)]) hx hb dX4_due_149 rfl hl (by decide) rfl (fun ls hl => ?_)
                      refine lv_iload_n (pc := 150) hx hb dX4_due_150 rfl (lv_at hl 0 rfl) ?_
                      refine lv_if_eq (pc := 151) (tgt := 158) hx hb dX4_due_151 (by decide) (fun c_46 => ?_) (fun c_46 => ?_)
                      · skip
                        have c_46 : 1 = 0 := (nI_eq (a := 1) (b := 0) (by omega) (by omega)).mp c_46
                        exfalso; omega
                      · skip
                        have c_46 : ¬ 1 = 0 := fun z => c_46 ((nI_eq (a := 1) (b := 0) (by omega) (by omega)).mpr z)
                        refine lv_iconst (pc := 154) (v := nI 3) hx hb dX4_due_154 (by decide) ?_
                        refine lv_goto (pc := 155) (tgt := 159) hx hb dX4_due_155 (by decide) ?_
                        exact W.iret (v := nI 3) hx hb hr (fun t ht hW => ⟨⟨nI 3, (dg, wo, pa, ch), rfl, by first | (simp [dueN, uwB, askN, tuB, c1, c2, c3, c4, c5, d1, d2, d3, d4]; done) | (simp [dueN, uwB, askN, tuB, mkB, c1, c2, c3, c4, c5, d1, d2, d3, d4]; done), by show va_P _ _ _ t.heap; rw [ht]; exact hP, va_K.moved hW.alike hK, hD⟩, hS.F ht⟩) hS.2.2 dX4_due_159
            · skip
              have c7 : ¬ (setN k.1 (9 * 256 + 1 * 8)) ≤ 0 := fun z => c7 ((nI_leI (a := (setN k.1 (9 * 256 + 1 * 8))) (b := 0) (by omega) (by omega)).mpr z)
              exfalso; omega
          · skip
            have c5 : (magB k.1 (9 * 256)) = true := bI_1.mp c5
            refine lv_aload_n (pc := 60) hx hb dX4_due_60 rfl (lv_at hl 1 rfl) ?_
            refine va_get (pc := 61) (D := (dC, dI)) (ci := 4) (v := .ref g1) (C := RX4) (T := TX4) (N := 26) hx hb hts (by decide +kernel) hown hK hP 0 rfl rfl 0 (by decide) (hts (.fieldLink RX4 9 "ScratchSwapModel" "flash" "[B") (by decide +kernel)) (fun _ h9 => h9) rfl dX4_due_61 ?_
            refine lv_bipush (pc := 64) (v := nI 9) hx hb dX4_due_64 (by decide) ?_
            refine lv_iconst (pc := 66) (v := nI 3) hx hb dX4_due_66 (by decide) ?_
            refine x_roi (pc := 67) (va_runS (As := [.ref g1, .int (nI 9), .int (nI 3)]) (rest := []) ⟨hx, hb, hml, hown, hts⟩ (kX4_isSet l dC dI tt cI cB _ g1 2816 k.1 9 3 (by omega) (by omega)) (va_cwS 3 hts gX4_due_X4_isSet rfl rfl rfl (by decide +kernel) ⟨Nat.le_of_ble_eq_true rfl, Nat.le_of_ble_eq_true rfl⟩) (x_preS hS hE hK hP hD [1] rfl (by decide) (x_ro hS hA) xR0) rfl rfl hl.1 rfl (lv_room (Nat.le_of_ble_eq_true rfl)) dX4_due_67 ⟨Nat.le_of_ble_eq_true rfl, Nat.le_of_ble_eq_true rfl⟩) hS hA hP (fun r_47 H locs hr_47 hP hS => ?_)
            subst hr_47
            refine lv_if_eq (pc := 70) (tgt := 77) hx hb dX4_due_70 (by decide) (fun c6 => ?_) (fun c6 => ?_)
            · skip
              have c6 : (mkB k.1 (9 * 256 + 3 * 8)) = false := bI_0.mp c6
              refine lv_iconst (pc := 77) (v := nI 1) hx hb dX4_due_77 (by decide) ?_
              refine lv_istore_n (pc := 78) (lv' := [(1, .int (nI 1)), (0, .ref g0)]) hx hb dX4_due_78 rfl hl (by decide) rfl (fun ls hl => ?_)
              refine lv_iload_n (pc := 79) hx hb dX4_due_79 rfl (lv_at hl 0 rfl) ?_
              refine lv_if_le (pc := 80) (tgt := 97) hx hb dX4_due_80 (by decide) (fun c7 => ?_) (fun c7 => ?_)
              · skip
                have c7 : 1 ≤ 0 := (nI_leI (a := 1) (b := 0) (by omega) (by omega)).mp c7
                exfalso; omega
              · skip
                have c7 : ¬ 1 ≤ 0 := fun z => c7 ((nI_leI (a := 1) (b := 0) (by omega) (by omega)).mpr z)
                refine lv_aload_n (pc := 83) hx hb dX4_due_83 rfl (lv_at hl 1 rfl) ?_
                refine lv_iconst (pc := 84) (v := nI 1) hx hb dX4_due_84 (by decide) ?_
                refine x_wria (pc := 85) (va_runV (As := [.int (nI 1)]) (rest := []) ⟨hx, hb, hml, hown, hts⟩ (kX4_isRight l dC dI tt cI cB _ g0 g1 g2 g3 g4 g5 g6 g7 g8 g9 g10 g11 g12 g13 k dr er pl un li ov tp tn rn vs bo ex wr ei dg wo pa ch fi 1 (by omega)) (cwV 1 hts gX4_due_X4_isRight rfl rfl rfl (by decide +kernel) ⟨Nat.le_of_ble_eq_true rfl, Nat.le_of_ble_eq_true rfl⟩) (x_preVa hS hE hK hP hD (x_all hD hS hA) xR0 4 0 rfl rfl) rfl rfl hl.1 rfl (lv_room (Nat.le_of_ble_eq_true rfl)) dX4_due_85 ⟨Nat.le_of_ble_eq_true rfl, Nat.le_of_ble_eq_true rfl⟩) hS hA hD (fun r_49 u_48 H locs hu_48 hP hD hS => ?_)
                obtain ⟨dg_50, wo_51, pa_52, ch_53⟩ := u_48
                subst hu_48
                have hP : va_P (dC, dI) vwCl (gW g0 g1 g2 g3 g4 g5 g6 g7 g8 g9 g10 g11 g12 g13 cI cB k dr er pl un li ov tp tn rn vs bo ex wr ei dg_50 wo_51 pa_52 ch_53 fi) _ := hP
                have hD : va_D A (gW g0 g1 g2 g3 g4 g5 g6 g7 g8 g9 g10 g11 g12 g13 cI cB k dr er pl un li ov tp tn rn vs bo ex wr ei dg_50 wo_51 pa_52 ch_53 fi) := hD
                refine lv_if_eq (pc := 88) (tgt := 95) hx hb dX4_due_88 (by decide) (fun c8 => ?_) (fun c8 => ?_)
                · skip
                  have c8 : (rightB k.1 (1 * 5 * 256)) = false := bI_0.mp c8
                  refine lv_iconst (pc := 95) (v := nI 4) hx hb dX4_due_95 (by decide) ?_
                  exact W.iret (v := nI 4) hx hb hr (fun t ht hW => ⟨⟨nI 4, (dg_50, wo_51, pa_52, ch_53), rfl, by first | (simp [dueN, uwB, askN, tuB, c1, c2, c3, c4, c5, c6, c8]; done) | (simp [dueN, uwB, askN, tuB, mkB, c1, c2, c3, c4, c5, c6, c8]; done), by show va_P _ _ _ t.heap; rw [ht]; exact hP, va_K.moved hW.alike hK, hD⟩, hS.F ht⟩) hS.2.2 dX4_due_96
                · skip
                  have c8 : (rightB k.1 (1 * 5 * 256)) = true := bI_1.mp c8
                  refine lv_iload_n (pc := 91) hx hb dX4_due_91 rfl (lv_at hl 0 rfl) ?_
                  refine lv_goto (pc := 92) (tgt := 96) hx hb dX4_due_92 (by decide) ?_
                  exact W.iret (v := nI 1) hx hb hr (fun t ht hW => ⟨⟨nI 1, (dg_50, wo_51, pa_52, ch_53), rfl, by first | (simp [dueN, uwB, askN, tuB, c1, c2, c3, c4, c5, c6, c8]; done) | (simp [dueN, uwB, askN, tuB, mkB, c1, c2, c3, c4, c5, c6, c8]; done), by show va_P _ _ _ t.heap; rw [ht]; exact hP, va_K.moved hW.alike hK, hD⟩, hS.F ht⟩) hS.2.2 dX4_due_96
            · skip
              have c6 : (mkB k.1 (9 * 256 + 3 * 8)) = true := bI_1.mp c6
              refine lv_iconst (pc := 73) (v := nI 2) hx hb dX4_due_73 (by decide) ?_
              refine lv_goto (pc := 74) (tgt := 78) hx hb dX4_due_74 (by decide) ?_
              refine lv_istore_n (pc := 78) (lv' := [(1, .int (nI 2)), (0, .ref g0)]) hx hb dX4_due_78 rfl hl (by decide) rfl (fun ls hl => ?_)
              refine lv_iload_n (pc := 79) hx hb dX4_due_79 rfl (lv_at hl 0 rfl) ?_
              refine lv_if_le (pc := 80) (tgt := 97) hx hb dX4_due_80 (by decide) (fun c7 => ?_) (fun c7 => ?_)
              · skip
                have c7 : 2 ≤ 0 := (nI_leI (a := 2) (b := 0) (by omega) (by omega)).mp c7
                exfalso; omega
              · skip
                have c7 : ¬ 2 ≤ 0 := fun z => c7 ((nI_leI (a := 2) (b := 0) (by omega) (by omega)).mpr z)
                refine lv_aload_n (pc := 83) hx hb dX4_due_83 rfl (lv_at hl 1 rfl) ?_
                refine lv_iconst (pc := 84) (v := nI 1) hx hb dX4_due_84 (by decide) ?_
                refine x_wria (pc := 85) (va_runV (As := [.int (nI 1)]) (rest := []) ⟨hx, hb, hml, hown, hts⟩ (kX4_isRight l dC dI tt cI cB _ g0 g1 g2 g3 g4 g5 g6 g7 g8 g9 g10 g11 g12 g13 k dr er pl un li ov tp tn rn vs bo ex wr ei dg wo pa ch fi 1 (by omega)) (cwV 1 hts gX4_due_X4_isRight rfl rfl rfl (by decide +kernel) ⟨Nat.le_of_ble_eq_true rfl, Nat.le_of_ble_eq_true rfl⟩) (x_preVa hS hE hK hP hD (x_all hD hS hA) xR0 4 0 rfl rfl) rfl rfl hl.1 rfl (lv_room (Nat.le_of_ble_eq_true rfl)) dX4_due_85 ⟨Nat.le_of_ble_eq_true rfl, Nat.le_of_ble_eq_true rfl⟩) hS hA hD (fun r_55 u_54 H locs hu_54 hP hD hS => ?_)
                obtain ⟨dg_56, wo_57, pa_58, ch_59⟩ := u_54
                subst hu_54
                have hP : va_P (dC, dI) vwCl (gW g0 g1 g2 g3 g4 g5 g6 g7 g8 g9 g10 g11 g12 g13 cI cB k dr er pl un li ov tp tn rn vs bo ex wr ei dg_56 wo_57 pa_58 ch_59 fi) _ := hP
                have hD : va_D A (gW g0 g1 g2 g3 g4 g5 g6 g7 g8 g9 g10 g11 g12 g13 cI cB k dr er pl un li ov tp tn rn vs bo ex wr ei dg_56 wo_57 pa_58 ch_59 fi) := hD
                refine lv_if_eq (pc := 88) (tgt := 95) hx hb dX4_due_88 (by decide) (fun c8 => ?_) (fun c8 => ?_)
                · skip
                  have c8 : (rightB k.1 (1 * 5 * 256)) = false := bI_0.mp c8
                  refine lv_iconst (pc := 95) (v := nI 4) hx hb dX4_due_95 (by decide) ?_
                  exact W.iret (v := nI 4) hx hb hr (fun t ht hW => ⟨⟨nI 4, (dg_56, wo_57, pa_58, ch_59), rfl, by first | (simp [dueN, uwB, askN, tuB, c1, c2, c3, c4, c5, c6, c8]; done) | (simp [dueN, uwB, askN, tuB, mkB, c1, c2, c3, c4, c5, c6, c8]; done), by show va_P _ _ _ t.heap; rw [ht]; exact hP, va_K.moved hW.alike hK, hD⟩, hS.F ht⟩) hS.2.2 dX4_due_96
                · skip
                  have c8 : (rightB k.1 (1 * 5 * 256)) = true := bI_1.mp c8
                  refine lv_iload_n (pc := 91) hx hb dX4_due_91 rfl (lv_at hl 0 rfl) ?_
                  refine lv_goto (pc := 92) (tgt := 96) hx hb dX4_due_92 (by decide) ?_
                  exact W.iret (v := nI 2) hx hb hr (fun t ht hW => ⟨⟨nI 2, (dg_56, wo_57, pa_58, ch_59), rfl, by first | (simp [dueN, uwB, askN, tuB, c1, c2, c3, c4, c5, c6, c8]; done) | (simp [dueN, uwB, askN, tuB, mkB, c1, c2, c3, c4, c5, c6, c8]; done), by show va_P _ _ _ t.heap; rw [ht]; exact hP, va_K.moved hW.alike hK, hD⟩, hS.F ht⟩) hS.2.2 dX4_due_96
      · skip
        have c3 : (setN k.1 (9 * 256 + 1 * 8)) = 3 := (nI_eq (a := (setN k.1 (9 * 256 + 1 * 8))) (b := 3) (by omega) (by omega)).mp c3
        refine lv_iconst (pc := 42) (v := nI 3) hx hb dX4_due_42 (by decide) ?_
        exact W.iret (v := nI 3) hx hb hr (fun t ht hW => ⟨⟨nI 3, (dg, wo, pa, ch), rfl, by first | (simp [dueN, uwB, askN, tuB, c1, c2, c3]; done) | (simp [dueN, uwB, askN, tuB, mkB, c1, c2, c3]; done), by show va_P _ _ _ t.heap; rw [ht]; exact hP, va_K.moved hW.alike hK, hD⟩, hS.F ht⟩) hS.2.2 dX4_due_43
    · skip
      have c2 : (mkB k.1 (4 * 256 + 2 * 8)) = false := bI_0.mp c2
      refine lv_iconst (pc := 24) (v := nI 5) hx hb dX4_due_24 (by decide) ?_
      exact W.iret (v := nI 5) hx hb hr (fun t ht hW => ⟨⟨nI 5, (dg, wo, pa, ch), rfl, by first | (simp [dueN, uwB, askN, tuB, c1, c2]; done) | (simp [dueN, uwB, askN, tuB, mkB, c1, c2]; done), by show va_P _ _ _ t.heap; rw [ht]; exact hP, va_K.moved hW.alike hK, hD⟩, hS.F ht⟩) hS.2.2 dX4_due_25
set_option maxHeartbeats 4000000 in
set_option maxRecDepth 100000 in
theorem kX4_image (l : Launch) (dC : Nat → ClassId) (dI : Nat → Nat → Nat) (tt : Nat → Nat) (cI cB : ClassId) (sz : Nat) (g0 g1 g2 g3 g4 g5 g6 g7 g8 g9 g10 g11 g12 g13 : Nat) (k : K0) (dr : Nat → Int8) (er pl : Nat → Int32) (un : Nat → Int8) (li : Nat) (ov : Int32) (tp : Nat → Int8) (tn : Nat) (rn : Bool) (vs bo ex wr : Int32) (ei dg : Nat → Int8) (wo : Nat → Int32) (pa : Nat → Int8) (ch fi : Nat → Int32) (x y : Int32)  : MetI (S := ((Nat → Int8) × (Nat → Int32) × (Nat → Int8) × (Nat → Int32))) l yX4_image wsX4_image { frames := 4, cells := 0, slots := 0, locals := 103 } (dC, dI) [(cI, .int), (cB, .byte)] tt [] sz (gW g0 g1 g2 g3 g4 g5 g6 g7 g8 g9 g10 g11 g12 g13 cI cB k dr er pl un li ov tp tn rn vs bo ex wr ei dg wo pa ch fi) [.ref g0, .int x, .int y] (fun u : ((Nat → Int8) × (Nat → Int32) × (Nat → Int8) × (Nat → Int32)) => gW g0 g1 g2 g3 g4 g5 g6 g7 g8 g9 g10 g11 g12 g13 cI cB k dr er pl un li ov tp tn rn vs bo ex wr ei u.1 u.2.1 u.2.2.1 u.2.2.2 fi) (fun r u => r = imgV k.1 x y) := by
  refine Met.ofW (cc := cX4_image) (maxL := 3) (ret := (some .int)) (by decide) rfl ?_
  intro p e s m args below meth c s₁ B hml hv
  obtain ⟨rfl, hsz, hP, hK, hD0, hE⟩ := hv
  have hx := B.exec
  have hb := B.bytes
  have hr := B.returns
  have hts := atoms_spec (ws := wsX4_image) B.pre
  have hown : s.vm.findClass RX4 = some m.cls := findClass_of_methodNamed B.named
  have hlocks := B.notSynchronized
  subst hsz
  have hD := hD0.self (sz := s.heap.size)
  generalize hAe : va_A (gW g0 g1 g2 g3 g4 g5 g6 g7 g8 g9 g10 g11 g12 g13 cI cB k dr er pl un li ov tp tn rn vs bo ex wr ei dg wo pa ch fi) s.heap.size = A at hD hE ⊢
  have hA : ∀ q : Nat, s.heap.size ≤ q → A q := fun q h => by rw [← hAe]; exact Or.inr h
  have hS : va_S A s.heap s.heap [] := va_S.rf
  have hl := lv_entry ([.ref g0, .int x, .int y]) (n := 3) (Nat.le_of_ble_eq_true rfl)
  rw [lg_entry_eq]
  generalize (lg_sl ([.ref g0, .int x, .int y]) ++ List.replicate (3 - (lg_sl ([.ref g0, .int x, .int y])).length) Slot.unset).toArray = ls at hl ⊢
  have hl : lv_has ls 3 [(0, .ref g0), (1, .int x), (2, .int y)] := hl
  have hP : va_P (dC, dI) vwCl (gW g0 g1 g2 g3 g4 g5 g6 g7 g8 g9 g10 g11 g12 g13 cI cB k dr er pl un li ov tp tn rn vs bo ex wr ei dg wo pa ch fi) s.heap := hP
  refine lv_iload_n (pc := 0) hx hb dX4_image_0 rfl (lv_at hl 1 rfl) ?_
  refine lv_if_eq (pc := 1) (tgt := 9) hx hb dX4_image_1 (by decide) (fun c1 => ?_) (fun c1 => ?_)
  · skip
    have ew : x = nI 0 := c1
    rw [ew] at hl
    have hcl : x.toNatClampNeg = 0 := by rw [ew]; rfl
    have hsl : slotB x = true := decide_eq_true (Or.inl ew)
    refine lv_iload_n (pc := 9) hx hb dX4_image_9 rfl (lv_at hl 2 rfl) ?_
    refine lv_if_lt (pc := 10) (tgt := 18) hx hb dX4_image_10 (by decide) (fun c3 => ?_) (fun c3 => ?_)
    · skip
      refine lv_iconst (pc := 18) (v := (-1)) hx hb dX4_image_18 (by decide) ?_
      exact W.iret (v := (-1)) hx hb hr (fun t ht hW => ⟨⟨(-1), (dg, wo, pa, ch), rfl, by unfold imgV; rw [if_neg (fun z => by first | exact z.2.1 c3 | exact c4 z.2.2 | exact (of_decide_eq_true z.1).elim c1 c2)], by show va_P _ _ _ t.heap; rw [ht]; exact hP, va_K.moved hW.alike hK, hD⟩, hS.F ht⟩) hS.2.2 dX4_image_19
    · skip
      refine lv_iload_n (pc := 13) hx hb dX4_image_13 rfl (lv_at hl 2 rfl) ?_
      refine lv_iconst (pc := 14) (v := nI 2) hx hb dX4_image_14 (by decide) ?_
      refine lv_icmp_le (pc := 15) (tgt := 20) hx hb dX4_image_15 (by decide) (fun c4 => ?_) (fun c4 => ?_)
      · skip
        refine lv_aload_n (pc := 20) hx hb dX4_image_20 rfl (lv_at hl 0 rfl) ?_
        refine lv_iload_n (pc := 21) hx hb dX4_image_21 rfl (lv_at hl 1 rfl) ?_
        refine x_wria (pc := 22) (va_runV (As := [.int (nI 0)]) (rest := []) ⟨hx, hb, hml, hown, hts⟩ (kX4_isRight l dC dI tt cI cB _ g0 g1 g2 g3 g4 g5 g6 g7 g8 g9 g10 g11 g12 g13 k dr er pl un li ov tp tn rn vs bo ex wr ei dg wo pa ch fi 0 (by omega)) (cwV 1 hts gX4_image_X4_isRight rfl rfl rfl (by decide +kernel) ⟨Nat.le_of_ble_eq_true rfl, Nat.le_of_ble_eq_true rfl⟩) (x_preVa hS hE hK hP hD (x_all hD hS hA) xR0 4 0 rfl rfl) rfl rfl hl.1 rfl (lv_room (Nat.le_of_ble_eq_true rfl)) dX4_image_22 ⟨Nat.le_of_ble_eq_true rfl, Nat.le_of_ble_eq_true rfl⟩) hS hA hD (fun r_2 u_1 H locs hu_1 hP hD hS => ?_)
        obtain ⟨dg_3, wo_4, pa_5, ch_6⟩ := u_1
        subst hu_1
        have hP : va_P (dC, dI) vwCl (gW g0 g1 g2 g3 g4 g5 g6 g7 g8 g9 g10 g11 g12 g13 cI cB k dr er pl un li ov tp tn rn vs bo ex wr ei dg_3 wo_4 pa_5 ch_6 fi) _ := hP
        have hD : va_D A (gW g0 g1 g2 g3 g4 g5 g6 g7 g8 g9 g10 g11 g12 g13 cI cB k dr er pl un li ov tp tn rn vs bo ex wr ei dg_3 wo_4 pa_5 ch_6 fi) := hD
        refine lv_if_ne (pc := 25) (tgt := 30) hx hb dX4_image_25 (by decide) (fun c5 => ?_) (fun c5 => ?_)
        · skip
          have c5 : (rightB k.1 (0 * 5 * 256)) = true := bI_1.mp c5
          refine lv_iload_n (pc := 30) hx hb dX4_image_30 rfl (lv_at hl 2 rfl) ?_
          refine lv_if_ne (pc := 31) (tgt := 38) hx hb dX4_image_31 (by decide) (fun c6 => ?_) (fun c6 => ?_)
          · skip
            have c6 : ¬ y = nI 0 := c6
            obtain ⟨y0, hy0, ey0⟩ := nI_of2 (n := 2) (nI_toInt (by decide)) c3 c4
            rcases (show y0 = 1 ∨ y0 = 2 from by have h9 : ¬ y0 = 0 := fun z => c6 (by rw [ey0, z]); omega) with hy | hy
            · skip
              have ey : y = nI 1 := by rw [ey0, hy]
              rw [ey] at hl
              refine lv_aload_n (pc := 38) hx hb dX4_image_38 rfl (lv_at hl 0 rfl) ?_
              refine va_get (pc := 39) (D := (dC, dI)) (ci := 4) (v := .ref g1) (C := RX4) (T := TX4) (N := 26) hx hb hts (by decide +kernel) hown hK hP 0 rfl rfl 0 (by decide) (hts (.fieldLink RX4 9 "ScratchSwapModel" "flash" "[B") (by decide +kernel)) (fun _ h9 => h9) rfl dX4_image_39 ?_
              refine lv_iconst (pc := 42) (v := nI 5) hx hb dX4_image_42 (by decide) ?_
              refine lv_iload_n (pc := 43) hx hb dX4_image_43 rfl (lv_at hl 1 rfl) ?_
              refine lv_imul (pc := 44) hx hb dX4_image_44 ?_
              refine lv_cv (pk_mul 5 0) ?_
              refine lv_iconst (pc := 45) (v := nI 0) hx hb dX4_image_45 (by decide) ?_
              refine x_roi (pc := 46) (va_runS (As := [.int (nI (5 * 0)), .int (nI 0)]) (rest := [.ref g1]) ⟨hx, hb, hml, hown, hts⟩ (kX4_unit l dC dI tt cI cB _ (5 * 0) 0) (va_cwS 2 hts gX4_image_X4_unit rfl rfl rfl (by decide +kernel) ⟨Nat.le_of_ble_eq_true rfl, Nat.le_of_ble_eq_true rfl⟩) (x_preS hS hE hK hP hD [] rfl (by decide) (x_ro hS hA) xR0) rfl rfl hl.1 rfl (lv_room (Nat.le_of_ble_eq_true rfl)) dX4_image_46 ⟨Nat.le_of_ble_eq_true rfl, Nat.le_of_ble_eq_true rfl⟩) hS hA hP (fun r_7 H locs hr_7 hP hS => ?_)
              subst hr_7
              refine lv_iconst (pc := 49) (v := nI 4) hx hb dX4_image_49 (by decide) ?_
              refine lv_iload_n (pc := 50) hx hb dX4_image_50 rfl (lv_at hl 2 rfl) ?_
              refine lv_iconst (pc := 51) (v := nI 1) hx hb dX4_image_51 (by decide) ?_
              refine lv_isub (pc := 52) hx hb dX4_image_52 ?_
              refine lv_cv (pk_sub (a := 1) (b := 1) (by omega)) ?_
              refine lv_imul (pc := 53) hx hb dX4_image_53 ?_
              refine lv_cv (x_mulc 4 (1 - 1)) ?_
              refine lv_iadd (pc := 54) hx hb dX4_image_54 ?_
              refine lv_cv (nI_add ((5 * 0) * 256 + 0 * 8) ((1 - 1) * 4)) ?_
              refine x_roi (pc := 55) (va_runS (As := [.ref g1, .int (nI (((5 * 0) * 256 + 0 * 8) + ((1 - 1) * 4)))]) (rest := []) ⟨hx, hb, hml, hown, hts⟩ (kX4_intAt l dC dI tt cI cB _ g1 2816 k.1 (((5 * 0) * 256 + 0 * 8) + ((1 - 1) * 4)) (by omega) (by omega)) (va_cwS 2 hts gX4_image_X4_intAt rfl rfl rfl (by decide +kernel) ⟨Nat.le_of_ble_eq_true rfl, Nat.le_of_ble_eq_true rfl⟩) (x_preS hS hE hK hP hD [1] rfl (by decide) (x_ro hS hA) xR0) rfl rfl hl.1 rfl (lv_room (Nat.le_of_ble_eq_true rfl)) dX4_image_55 ⟨Nat.le_of_ble_eq_true rfl, Nat.le_of_ble_eq_true rfl⟩) hS hA hP (fun r_8 H locs hr_8 hP hS => ?_)
              subst hr_8
              exact W.iret (v := mI k.1 (((5 * 0) * 256 + 0 * 8) + ((1 - 1) * 4))) hx hb hr (fun t ht hW => ⟨⟨mI k.1 (((5 * 0) * 256 + 0 * 8) + ((1 - 1) * 4)), (dg_3, wo_4, pa_5, ch_6), rfl, by unfold imgV imgW; rw [if_pos ⟨hsl, c3, c4⟩, hcl, c5, if_pos rfl, if_neg c6, if_pos ey], by show va_P _ _ _ t.heap; rw [ht]; exact hP, va_K.moved hW.alike hK, hD⟩, hS.F ht⟩) hS.2.2 dX4_image_58
            · skip
              have ey : y = nI 2 := by rw [ey0, hy]
              rw [ey] at hl
              refine lv_aload_n (pc := 38) hx hb dX4_image_38 rfl (lv_at hl 0 rfl) ?_
              refine va_get (pc := 39) (D := (dC, dI)) (ci := 4) (v := .ref g1) (C := RX4) (T := TX4) (N := 26) hx hb hts (by decide +kernel) hown hK hP 0 rfl rfl 0 (by decide) (hts (.fieldLink RX4 9 "ScratchSwapModel" "flash" "[B") (by decide +kernel)) (fun _ h9 => h9) rfl dX4_image_39 ?_
              refine lv_iconst (pc := 42) (v := nI 5) hx hb dX4_image_42 (by decide) ?_
              refine lv_iload_n (pc := 43) hx hb dX4_image_43 rfl (lv_at hl 1 rfl) ?_
              refine lv_imul (pc := 44) hx hb dX4_image_44 ?_
              refine lv_cv (pk_mul 5 0) ?_
              refine lv_iconst (pc := 45) (v := nI 0) hx hb dX4_image_45 (by decide) ?_
              refine x_roi (pc := 46) (va_runS (As := [.int (nI (5 * 0)), .int (nI 0)]) (rest := [.ref g1]) ⟨hx, hb, hml, hown, hts⟩ (kX4_unit l dC dI tt cI cB _ (5 * 0) 0) (va_cwS 2 hts gX4_image_X4_unit rfl rfl rfl (by decide +kernel) ⟨Nat.le_of_ble_eq_true rfl, Nat.le_of_ble_eq_true rfl⟩) (x_preS hS hE hK hP hD [] rfl (by decide) (x_ro hS hA) xR0) rfl rfl hl.1 rfl (lv_room (Nat.le_of_ble_eq_true rfl)) dX4_image_46 ⟨Nat.le_of_ble_eq_true rfl, Nat.le_of_ble_eq_true rfl⟩) hS hA hP (fun r_9 H locs hr_9 hP hS => ?_)
              subst hr_9
              refine lv_iconst (pc := 49) (v := nI 4) hx hb dX4_image_49 (by decide) ?_
              refine lv_iload_n (pc := 50) hx hb dX4_image_50 rfl (lv_at hl 2 rfl) ?_
              refine lv_iconst (pc := 51) (v := nI 1) hx hb dX4_image_51 (by decide) ?_
              refine lv_isub (pc := 52) hx hb dX4_image_52 ?_
              refine lv_cv (pk_sub (a := 2) (b := 1) (by omega)) ?_
              refine lv_imul (pc := 53) hx hb dX4_image_53 ?_
              refine lv_cv (x_mulc 4 (2 - 1)) ?_
              refine lv_iadd (pc := 54) hx hb dX4_image_54 ?_
              refine lv_cv (nI_add ((5 * 0) * 256 + 0 * 8) ((2 - 1) * 4)) ?_
              refine x_roi (pc := 55) (va_runS (As := [.ref g1, .int (nI (((5 * 0) * 256 + 0 * 8) + ((2 - 1) * 4)))]) (rest := []) ⟨hx, hb, hml, hown, hts⟩ (kX4_intAt l dC dI tt cI cB _ g1 2816 k.1 (((5 * 0) * 256 + 0 * 8) + ((2 - 1) * 4)) (by omega) (by omega)) (va_cwS 2 hts gX4_image_X4_intAt rfl rfl rfl (by decide +kernel) ⟨Nat.le_of_ble_eq_true rfl, Nat.le_of_ble_eq_true rfl⟩) (x_preS hS hE hK hP hD [1] rfl (by decide) (x_ro hS hA) xR0) rfl rfl hl.1 rfl (lv_room (Nat.le_of_ble_eq_true rfl)) dX4_image_55 ⟨Nat.le_of_ble_eq_true rfl, Nat.le_of_ble_eq_true rfl⟩) hS hA hP (fun r_10 H locs hr_10 hP hS => ?_)
              subst hr_10
              exact W.iret (v := mI k.1 (((5 * 0) * 256 + 0 * 8) + ((2 - 1) * 4))) hx hb hr (fun t ht hW => ⟨⟨mI k.1 (((5 * 0) * 256 + 0 * 8) + ((2 - 1) * 4)), (dg_3, wo_4, pa_5, ch_6), rfl, by unfold imgV imgW; rw [if_pos ⟨hsl, c3, c4⟩, hcl, c5, if_pos rfl, if_neg c6, if_neg (by rw [ey]; decide)], by show va_P _ _ _ t.heap; rw [ht]; exact hP, va_K.moved hW.alike hK, hD⟩, hS.F ht⟩) hS.2.2 dX4_image_58
          · skip
            have c6 : y = nI 0 := c6
            refine lv_iconst (pc := 34) (v := nI 1) hx hb dX4_image_34 (by decide) ?_
            refine lv_goto (pc := 35) (tgt := 58) hx hb dX4_image_35 (by decide) ?_
            exact W.iret (v := nI 1) hx hb hr (fun t ht hW => ⟨⟨nI 1, (dg_3, wo_4, pa_5, ch_6), rfl, by unfold imgV imgW; rw [if_pos ⟨hsl, c3, c4⟩, hcl, c5, if_pos rfl, if_pos c6], by show va_P _ _ _ t.heap; rw [ht]; exact hP, va_K.moved hW.alike hK, hD⟩, hS.F ht⟩) hS.2.2 dX4_image_58
        · skip
          have c5 : (rightB k.1 (0 * 5 * 256)) = false := bI_0.mp c5
          refine lv_iconst (pc := 28) (v := nI 0) hx hb dX4_image_28 (by decide) ?_
          exact W.iret (v := nI 0) hx hb hr (fun t ht hW => ⟨⟨nI 0, (dg_3, wo_4, pa_5, ch_6), rfl, by unfold imgV imgW; rw [if_pos ⟨hsl, c3, c4⟩, hcl, c5]; rfl, by show va_P _ _ _ t.heap; rw [ht]; exact hP, va_K.moved hW.alike hK, hD⟩, hS.F ht⟩) hS.2.2 dX4_image_29
      · skip
        refine lv_iconst (pc := 18) (v := (-1)) hx hb dX4_image_18 (by decide) ?_
        exact W.iret (v := (-1)) hx hb hr (fun t ht hW => ⟨⟨(-1), (dg, wo, pa, ch), rfl, by unfold imgV; rw [if_neg (fun z => by first | exact z.2.1 c3 | exact c4 z.2.2 | exact (of_decide_eq_true z.1).elim c1 c2)], by show va_P _ _ _ t.heap; rw [ht]; exact hP, va_K.moved hW.alike hK, hD⟩, hS.F ht⟩) hS.2.2 dX4_image_19
  · skip
    refine lv_iload_n (pc := 4) hx hb dX4_image_4 rfl (lv_at hl 1 rfl) ?_
    refine lv_iconst (pc := 5) (v := nI 1) hx hb dX4_image_5 (by decide) ?_
    refine lv_icmp_ne (pc := 6) (tgt := 18) hx hb dX4_image_6 (by decide) (fun c2 => ?_) (fun c2 => ?_)
    · skip
      refine lv_iconst (pc := 18) (v := (-1)) hx hb dX4_image_18 (by decide) ?_
      exact W.iret (v := (-1)) hx hb hr (fun t ht hW => ⟨⟨(-1), (dg, wo, pa, ch), rfl, by unfold imgV; rw [if_neg (fun z => by first | exact z.2.1 c3 | exact c4 z.2.2 | exact (of_decide_eq_true z.1).elim c1 c2)], by show va_P _ _ _ t.heap; rw [ht]; exact hP, va_K.moved hW.alike hK, hD⟩, hS.F ht⟩) hS.2.2 dX4_image_19
    · skip
      have ew : x = nI 1 := c2
      rw [ew] at hl
      have hcl : x.toNatClampNeg = 1 := by rw [ew]; rfl
      have hsl : slotB x = true := decide_eq_true (Or.inr ew)
      refine lv_iload_n (pc := 9) hx hb dX4_image_9 rfl (lv_at hl 2 rfl) ?_
      refine lv_if_lt (pc := 10) (tgt := 18) hx hb dX4_image_10 (by decide) (fun c3 => ?_) (fun c3 => ?_)
      · skip
        refine lv_iconst (pc := 18) (v := (-1)) hx hb dX4_image_18 (by decide) ?_
        exact W.iret (v := (-1)) hx hb hr (fun t ht hW => ⟨⟨(-1), (dg, wo, pa, ch), rfl, by unfold imgV; rw [if_neg (fun z => by first | exact z.2.1 c3 | exact c4 z.2.2 | exact (of_decide_eq_true z.1).elim c1 c2)], by show va_P _ _ _ t.heap; rw [ht]; exact hP, va_K.moved hW.alike hK, hD⟩, hS.F ht⟩) hS.2.2 dX4_image_19
      · skip
        refine lv_iload_n (pc := 13) hx hb dX4_image_13 rfl (lv_at hl 2 rfl) ?_
        refine lv_iconst (pc := 14) (v := nI 2) hx hb dX4_image_14 (by decide) ?_
        refine lv_icmp_le (pc := 15) (tgt := 20) hx hb dX4_image_15 (by decide) (fun c4 => ?_) (fun c4 => ?_)
        · skip
          refine lv_aload_n (pc := 20) hx hb dX4_image_20 rfl (lv_at hl 0 rfl) ?_
          refine lv_iload_n (pc := 21) hx hb dX4_image_21 rfl (lv_at hl 1 rfl) ?_
          refine x_wria (pc := 22) (va_runV (As := [.int (nI 1)]) (rest := []) ⟨hx, hb, hml, hown, hts⟩ (kX4_isRight l dC dI tt cI cB _ g0 g1 g2 g3 g4 g5 g6 g7 g8 g9 g10 g11 g12 g13 k dr er pl un li ov tp tn rn vs bo ex wr ei dg wo pa ch fi 1 (by omega)) (cwV 1 hts gX4_image_X4_isRight rfl rfl rfl (by decide +kernel) ⟨Nat.le_of_ble_eq_true rfl, Nat.le_of_ble_eq_true rfl⟩) (x_preVa hS hE hK hP hD (x_all hD hS hA) xR0 4 0 rfl rfl) rfl rfl hl.1 rfl (lv_room (Nat.le_of_ble_eq_true rfl)) dX4_image_22 ⟨Nat.le_of_ble_eq_true rfl, Nat.le_of_ble_eq_true rfl⟩) hS hA hD (fun r_12 u_11 H locs hu_11 hP hD hS => ?_)
          obtain ⟨dg_13, wo_14, pa_15, ch_16⟩ := u_11
          subst hu_11
          have hP : va_P (dC, dI) vwCl (gW g0 g1 g2 g3 g4 g5 g6 g7 g8 g9 g10 g11 g12 g13 cI cB k dr er pl un li ov tp tn rn vs bo ex wr ei dg_13 wo_14 pa_15 ch_16 fi) _ := hP
          have hD : va_D A (gW g0 g1 g2 g3 g4 g5 g6 g7 g8 g9 g10 g11 g12 g13 cI cB k dr er pl un li ov tp tn rn vs bo ex wr ei dg_13 wo_14 pa_15 ch_16 fi) := hD
          refine lv_if_ne (pc := 25) (tgt := 30) hx hb dX4_image_25 (by decide) (fun c5 => ?_) (fun c5 => ?_)
          · skip
            have c5 : (rightB k.1 (1 * 5 * 256)) = true := bI_1.mp c5
            refine lv_iload_n (pc := 30) hx hb dX4_image_30 rfl (lv_at hl 2 rfl) ?_
            refine lv_if_ne (pc := 31) (tgt := 38) hx hb dX4_image_31 (by decide) (fun c6 => ?_) (fun c6 => ?_)
            · skip
              have c6 : ¬ y = nI 0 := c6
              obtain ⟨y0, hy0, ey0⟩ := nI_of2 (n := 2) (nI_toInt (by decide)) c3 c4
              rcases (show y0 = 1 ∨ y0 = 2 from by have h9 : ¬ y0 = 0 := fun z => c6 (by rw [ey0, z]); omega) with hy | hy
              · skip
                have ey : y = nI 1 := by rw [ey0, hy]
                rw [ey] at hl
                refine lv_aload_n (pc := 38) hx hb dX4_image_38 rfl (lv_at hl 0 rfl) ?_
                refine va_get (pc := 39) (D := (dC, dI)) (ci := 4) (v := .ref g1) (C := RX4) (T := TX4) (N := 26) hx hb hts (by decide +kernel) hown hK hP 0 rfl rfl 0 (by decide) (hts (.fieldLink RX4 9 "ScratchSwapModel" "flash" "[B") (by decide +kernel)) (fun _ h9 => h9) rfl dX4_image_39 ?_
                refine lv_iconst (pc := 42) (v := nI 5) hx hb dX4_image_42 (by decide) ?_
                refine lv_iload_n (pc := 43) hx hb dX4_image_43 rfl (lv_at hl 1 rfl) ?_
                refine lv_imul (pc := 44) hx hb dX4_image_44 ?_
                refine lv_cv (pk_mul 5 1) ?_
                refine lv_iconst (pc := 45) (v := nI 0) hx hb dX4_image_45 (by decide) ?_
                refine x_roi (pc := 46) (va_runS (As := [.int (nI (5 * 1)), .int (nI 0)]) (rest := [.ref g1]) ⟨hx, hb, hml, hown, hts⟩ (kX4_unit l dC dI tt cI cB _ (5 * 1) 0) (va_cwS 2 hts gX4_image_X4_unit rfl rfl rfl (by decide +kernel) ⟨Nat.le_of_ble_eq_true rfl, Nat.le_of_ble_eq_true rfl⟩) (x_preS hS hE hK hP hD [] rfl (by decide) (x_ro hS hA) xR0) rfl rfl hl.1 rfl (lv_room (Nat.le_of_ble_eq_true rfl)) dX4_image_46 ⟨Nat.le_of_ble_eq_true rfl, Nat.le_of_ble_eq_true rfl⟩) hS hA hP (fun r_17 H locs hr_17 hP hS => ?_)
                subst hr_17
                refine lv_iconst (pc := 49) (v := nI 4) hx hb dX4_image_49 (by decide) ?_
                refine lv_iload_n (pc := 50) hx hb dX4_image_50 rfl (lv_at hl 2 rfl) ?_
                refine lv_iconst (pc := 51) (v := nI 1) hx hb dX4_image_51 (by decide) ?_
                refine lv_isub (pc := 52) hx hb dX4_image_52 ?_
                refine lv_cv (pk_sub (a := 1) (b := 1) (by omega)) ?_
                refine lv_imul (pc := 53) hx hb dX4_image_53 ?_
                refine lv_cv (x_mulc 4 (1 - 1)) ?_
                refine lv_iadd (pc := 54) hx hb dX4_image_54 ?_
                refine lv_cv (nI_add ((5 * 1) * 256 + 0 * 8) ((1 - 1) * 4)) ?_
                refine x_roi (pc := 55) (va_runS (As := [.ref g1, .int (nI (((5 * 1) * 256 + 0 * 8) + ((1 - 1) * 4)))]) (rest := []) ⟨hx, hb, hml, hown, hts⟩ (kX4_intAt l dC dI tt cI cB _ g1 2816 k.1 (((5 * 1) * 256 + 0 * 8) + ((1 - 1) * 4)) (by omega) (by omega)) (va_cwS 2 hts gX4_image_X4_intAt rfl rfl rfl (by decide +kernel) ⟨Nat.le_of_ble_eq_true rfl, Nat.le_of_ble_eq_true rfl⟩) (x_preS hS hE hK hP hD [1] rfl (by decide) (x_ro hS hA) xR0) rfl rfl hl.1 rfl (lv_room (Nat.le_of_ble_eq_true rfl)) dX4_image_55 ⟨Nat.le_of_ble_eq_true rfl, Nat.le_of_ble_eq_true rfl⟩) hS hA hP (fun r_18 H locs hr_18 hP hS => ?_)
                subst hr_18
                exact W.iret (v := mI k.1 (((5 * 1) * 256 + 0 * 8) + ((1 - 1) * 4))) hx hb hr (fun t ht hW => ⟨⟨mI k.1 (((5 * 1) * 256 + 0 * 8) + ((1 - 1) * 4)), (dg_13, wo_14, pa_15, ch_16), rfl, by unfold imgV imgW; rw [if_pos ⟨hsl, c3, c4⟩, hcl, c5, if_pos rfl, if_neg c6, if_pos ey], by show va_P _ _ _ t.heap; rw [ht]; exact hP, va_K.moved hW.alike hK, hD⟩, hS.F ht⟩) hS.2.2 dX4_image_58
              · skip
                have ey : y = nI 2 := by rw [ey0, hy]
                rw [ey] at hl
                refine lv_aload_n (pc := 38) hx hb dX4_image_38 rfl (lv_at hl 0 rfl) ?_
                refine va_get (pc := 39) (D := (dC, dI)) (ci := 4) (v := .ref g1) (C := RX4) (T := TX4) (N := 26) hx hb hts (by decide +kernel) hown hK hP 0 rfl rfl 0 (by decide) (hts (.fieldLink RX4 9 "ScratchSwapModel" "flash" "[B") (by decide +kernel)) (fun _ h9 => h9) rfl dX4_image_39 ?_
                refine lv_iconst (pc := 42) (v := nI 5) hx hb dX4_image_42 (by decide) ?_
                refine lv_iload_n (pc := 43) hx hb dX4_image_43 rfl (lv_at hl 1 rfl) ?_
                refine lv_imul (pc := 44) hx hb dX4_image_44 ?_
                refine lv_cv (pk_mul 5 1) ?_
                refine lv_iconst (pc := 45) (v := nI 0) hx hb dX4_image_45 (by decide) ?_
                refine x_roi (pc := 46) (va_runS (As := [.int (nI (5 * 1)), .int (nI 0)]) (rest := [.ref g1]) ⟨hx, hb, hml, hown, hts⟩ (kX4_unit l dC dI tt cI cB _ (5 * 1) 0) (va_cwS 2 hts gX4_image_X4_unit rfl rfl rfl (by decide +kernel) ⟨Nat.le_of_ble_eq_true rfl, Nat.le_of_ble_eq_true rfl⟩) (x_preS hS hE hK hP hD [] rfl (by decide) (x_ro hS hA) xR0) rfl rfl hl.1 rfl (lv_room (Nat.le_of_ble_eq_true rfl)) dX4_image_46 ⟨Nat.le_of_ble_eq_true rfl, Nat.le_of_ble_eq_true rfl⟩) hS hA hP (fun r_19 H locs hr_19 hP hS => ?_)
                subst hr_19
                refine lv_iconst (pc := 49) (v := nI 4) hx hb dX4_image_49 (by decide) ?_
                refine lv_iload_n (pc := 50) hx hb dX4_image_50 rfl (lv_at hl 2 rfl) ?_
                refine lv_iconst (pc := 51) (v := nI 1) hx hb dX4_image_51 (by decide) ?_
                refine lv_isub (pc := 52) hx hb dX4_image_52 ?_
                refine lv_cv (pk_sub (a := 2) (b := 1) (by omega)) ?_
                refine lv_imul (pc := 53) hx hb dX4_image_53 ?_
                refine lv_cv (x_mulc 4 (2 - 1)) ?_
                refine lv_iadd (pc := 54) hx hb dX4_image_54 ?_
                refine lv_cv (nI_add ((5 * 1) * 256 + 0 * 8) ((2 - 1) * 4)) ?_
                refine x_roi (pc := 55) (va_runS (As := [.ref g1, .int (nI (((5 * 1) * 256 + 0 * 8) + ((2 - 1) * 4)))]) (rest := []) ⟨hx, hb, hml, hown, hts⟩ (kX4_intAt l dC dI tt cI cB _ g1 2816 k.1 (((5 * 1) * 256 + 0 * 8) + ((2 - 1) * 4)) (by omega) (by omega)) (va_cwS 2 hts gX4_image_X4_intAt rfl rfl rfl (by decide +kernel) ⟨Nat.le_of_ble_eq_true rfl, Nat.le_of_ble_eq_true rfl⟩) (x_preS hS hE hK hP hD [1] rfl (by decide) (x_ro hS hA) xR0) rfl rfl hl.1 rfl (lv_room (Nat.le_of_ble_eq_true rfl)) dX4_image_55 ⟨Nat.le_of_ble_eq_true rfl, Nat.le_of_ble_eq_true rfl⟩) hS hA hP (fun r_20 H locs hr_20 hP hS => ?_)
                subst hr_20
                exact W.iret (v := mI k.1 (((5 * 1) * 256 + 0 * 8) + ((2 - 1) * 4))) hx hb hr (fun t ht hW => ⟨⟨mI k.1 (((5 * 1) * 256 + 0 * 8) + ((2 - 1) * 4)), (dg_13, wo_14, pa_15, ch_16), rfl, by unfold imgV imgW; rw [if_pos ⟨hsl, c3, c4⟩, hcl, c5, if_pos rfl, if_neg c6, if_neg (by rw [ey]; decide)], by show va_P _ _ _ t.heap; rw [ht]; exact hP, va_K.moved hW.alike hK, hD⟩, hS.F ht⟩) hS.2.2 dX4_image_58
            · skip
              have c6 : y = nI 0 := c6
              refine lv_iconst (pc := 34) (v := nI 1) hx hb dX4_image_34 (by decide) ?_
              refine lv_goto (pc := 35) (tgt := 58) hx hb dX4_image_35 (by decide) ?_
              exact W.iret (v := nI 1) hx hb hr (fun t ht hW => ⟨⟨nI 1, (dg_13, wo_14, pa_15, ch_16), rfl, by unfold imgV imgW; rw [if_pos ⟨hsl, c3, c4⟩, hcl, c5, if_pos rfl, if_pos c6], by show va_P _ _ _ t.heap; rw [ht]; exact hP, va_K.moved hW.alike hK, hD⟩, hS.F ht⟩) hS.2.2 dX4_image_58
          · skip
            have c5 : (rightB k.1 (1 * 5 * 256)) = false := bI_0.mp c5
            refine lv_iconst (pc := 28) (v := nI 0) hx hb dX4_image_28 (by decide) ?_
            exact W.iret (v := nI 0) hx hb hr (fun t ht hW => ⟨⟨nI 0, (dg_13, wo_14, pa_15, ch_16), rfl, by unfold imgV imgW; rw [if_pos ⟨hsl, c3, c4⟩, hcl, c5]; rfl, by show va_P _ _ _ t.heap; rw [ht]; exact hP, va_K.moved hW.alike hK, hD⟩, hS.F ht⟩) hS.2.2 dX4_image_29
        · skip
          refine lv_iconst (pc := 18) (v := (-1)) hx hb dX4_image_18 (by decide) ?_
          exact W.iret (v := (-1)) hx hb hr (fun t ht hW => ⟨⟨(-1), (dg, wo, pa, ch), rfl, by unfold imgV; rw [if_neg (fun z => by first | exact z.2.1 c3 | exact c4 z.2.2 | exact (of_decide_eq_true z.1).elim c1 c2)], by show va_P _ _ _ t.heap; rw [ht]; exact hP, va_K.moved hW.alike hK, hD⟩, hS.F ht⟩) hS.2.2 dX4_image_19
set_option maxHeartbeats 4000000 in
set_option maxRecDepth 100000 in
theorem kX4_trailer (l : Launch) (dC : Nat → ClassId) (dI : Nat → Nat → Nat) (tt : Nat → Nat) (cI cB : ClassId) (sz : Nat) (g0 g1 g2 g3 g4 g5 g6 g7 g8 g9 g10 g11 g12 g13 : Nat) (k : K0) (dr : Nat → Int8) (er pl : Nat → Int32) (un : Nat → Int8) (li : Nat) (ov : Int32) (tp : Nat → Int8) (tn : Nat) (rn : Bool) (vs bo ex wr : Int32) (ei dg : Nat → Int8) (wo : Nat → Int32) (pa : Nat → Int8) (ch fi : Nat → Int32) (x y : Int32)  : MetR l yX4_trailer wsX4_trailer { frames := 3, cells := 0, slots := 0, locals := 69 } (dC, dI) [(cI, .int), (cB, .byte)] tt [] sz (gW g0 g1 g2 g3 g4 g5 g6 g7 g8 g9 g10 g11 g12 g13 cI cB k dr er pl un li ov tp tn rn vs bo ex wr ei dg wo pa ch fi) [.ref g0, .int x, .int y] (fun r => r = trlV k.1 x y) := by
  refine Met.ofW (cc := cX4_trailer) (maxL := 6) (ret := (some .int)) (by decide) rfl ?_
  intro p e s m args below meth c s₁ B hml hv
  obtain ⟨rfl, hsz, hP, hK, hD0, hE⟩ := hv
  have hx := B.exec
  have hb := B.bytes
  have hr := B.returns
  have hts := atoms_spec (ws := wsX4_trailer) B.pre
  have hown : s.vm.findClass RX4 = some m.cls := findClass_of_methodNamed B.named
  have hlocks := B.notSynchronized
  subst hsz
  have hD := hD0
  generalize hAe : va_A [] s.heap.size = A at hE ⊢
  have hA : ∀ q : Nat, s.heap.size ≤ q → A q := fun q h => by rw [← hAe]; exact Or.inr h
  have hS : va_S A s.heap s.heap [] := va_S.rf
  have hl := lv_entry ([.ref g0, .int x, .int y]) (n := 6) (Nat.le_of_ble_eq_true rfl)
  rw [lg_entry_eq]
  generalize (lg_sl ([.ref g0, .int x, .int y]) ++ List.replicate (6 - (lg_sl ([.ref g0, .int x, .int y])).length) Slot.unset).toArray = ls at hl ⊢
  have hl : lv_has ls 6 [(0, .ref g0), (1, .int x), (2, .int y)] := hl
  have hP : va_P (dC, dI) vwCl (gW g0 g1 g2 g3 g4 g5 g6 g7 g8 g9 g10 g11 g12 g13 cI cB k dr er pl un li ov tp tn rn vs bo ex wr ei dg wo pa ch fi) s.heap := hP
  refine lv_iload_n (pc := 0) hx hb dX4_trailer_0 rfl (lv_at hl 1 rfl) ?_
  refine lv_if_eq (pc := 1) (tgt := 11) hx hb dX4_trailer_1 (by decide) (fun c1 => ?_) (fun c1 => ?_)
  · skip
    have ew : x = nI 0 := c1
    rw [ew] at hl
    have hcl : x.toNatClampNeg = 0 := by rw [ew]; rfl
    have hsl : slotB x = true := decide_eq_true (Or.inl ew)
    refine lv_iload_n (pc := 11) hx hb dX4_trailer_11 rfl (lv_at hl 1 rfl) ?_
    refine lv_if_ne (pc := 12) (tgt := 19) hx hb dX4_trailer_12 (by decide) (fun c_1 => ?_) (fun c_1 => ?_)
    · skip
      have c_1 : ¬ 0 = 0 := fun z => c_1 ((nI_eq (a := 0) (b := 0) (by omega) (by omega)).mpr z)
      exfalso; omega
    · skip
      have c_1 : 0 = 0 := (nI_eq (a := 0) (b := 0) (by omega) (by omega)).mp c_1
      refine lv_iconst (pc := 15) (v := nI 4) hx hb dX4_trailer_15 (by decide) ?_
      refine lv_goto (pc := 16) (tgt := 21) hx hb dX4_trailer_16 (by decide) ?_
      refine lv_istore_n (pc := 21) (lv' := [(3, .int (nI 4)), (0, .ref g0), (1, .int (nI 0)), (2, .int y)]) hx hb dX4_trailer_21 rfl hl (by decide) rfl (fun ls hl => ?_)
      refine lv_iload_n (pc := 22) hx hb dX4_trailer_22 rfl (lv_at hl 3 rfl) ?_
      by_cases s0 : y = nI 0
      · skip
        refine lv_tableIn (pc := 23) (tgt := 56) (off := 33) hx hb dX4_trailer_23 (by rw [s0]; decide) (by rw [s0]; decide) (by rw [s0]; decide) (by decide) ?_
        refine lv_aload_n (pc := 56) hx hb dX4_trailer_56 rfl (lv_at hl 1 rfl) ?_
        refine va_get (pc := 57) (D := (dC, dI)) (ci := 4) (v := .ref g1) (C := RX4) (T := TX4) (N := 26) hx hb hts (by decide +kernel) hown hK hP 0 rfl rfl 0 (by decide) (hts (.fieldLink RX4 9 "ScratchSwapModel" "flash" "[B") (by decide +kernel)) (fun _ h9 => h9) rfl dX4_trailer_57 ?_
        refine lv_iload_n (pc := 60) hx hb dX4_trailer_60 rfl (lv_at hl 0 rfl) ?_
        refine x_roi (pc := 61) (va_runS (As := [.ref g1, .int (nI 4)]) (rest := []) ⟨hx, hb, hml, hown, hts⟩ (kX4_isMagic l dC dI tt cI cB _ g1 2816 k.1 4 (by omega) (by omega)) (va_cwS 2 hts gX4_trailer_X4_isMagic rfl rfl rfl (by decide +kernel) ⟨Nat.le_of_ble_eq_true rfl, Nat.le_of_ble_eq_true rfl⟩) (x_preS hS hE hK hP hD [1] rfl (by decide) (x_ro hS hA) xR0) rfl rfl hl.1 rfl (lv_room (Nat.le_of_ble_eq_true rfl)) dX4_trailer_61 ⟨Nat.le_of_ble_eq_true rfl, Nat.le_of_ble_eq_true rfl⟩) hS hA hP (fun r_2 H locs hr_2 hP hS => ?_)
        subst hr_2
        refine lv_if_eq (pc := 64) (tgt := 71) hx hb dX4_trailer_64 (by decide) (fun c5 => ?_) (fun c5 => ?_)
        · skip
          have c5 : (magB k.1 (4 * 256)) = false := bI_0.mp c5
          have e0 := c5
          refine lv_iconst (pc := 71) (v := nI 0) hx hb dX4_trailer_71 (by decide) ?_
          exact W.iret (v := nI 0) hx hb hr (fun t ht hW => ⟨⟨nI 0, (), rfl, by unfold trlV trlW; first | (rw [if_pos hsl, hcl, if_pos s0, e0]; done) | (rw [if_pos hsl, hcl, if_pos s0, e0]; rfl), trivial⟩, hS.F ht⟩) hS.2.2 dX4_trailer_72
        · skip
          have c5 : (magB k.1 (4 * 256)) = true := bI_1.mp c5
          have e0 := c5
          refine lv_iconst (pc := 67) (v := nI 1) hx hb dX4_trailer_67 (by decide) ?_
          refine lv_goto (pc := 68) (tgt := 72) hx hb dX4_trailer_68 (by decide) ?_
          exact W.iret (v := nI 1) hx hb hr (fun t ht hW => ⟨⟨nI 1, (), rfl, by unfold trlV trlW; first | (rw [if_pos hsl, hcl, if_pos s0, e0]; done) | (rw [if_pos hsl, hcl, if_pos s0, e0]; rfl), trivial⟩, hS.F ht⟩) hS.2.2 dX4_trailer_72
      · skip
        by_cases s1 : y = nI 1
        · skip
          refine lv_tableIn (pc := 23) (tgt := 73) (off := 50) hx hb dX4_trailer_23 (by rw [s1]; decide) (by rw [s1]; decide) (by rw [s1]; decide) (by decide) ?_
          refine lv_aload_n (pc := 73) hx hb dX4_trailer_73 rfl (lv_at hl 1 rfl) ?_
          refine va_get (pc := 74) (D := (dC, dI)) (ci := 4) (v := .ref g1) (C := RX4) (T := TX4) (N := 26) hx hb hts (by decide +kernel) hown hK hP 0 rfl rfl 0 (by decide) (hts (.fieldLink RX4 9 "ScratchSwapModel" "flash" "[B") (by decide +kernel)) (fun _ h9 => h9) rfl dX4_trailer_74 ?_
          refine lv_iload_n (pc := 77) hx hb dX4_trailer_77 rfl (lv_at hl 0 rfl) ?_
          refine lv_iconst (pc := 78) (v := nI 1) hx hb dX4_trailer_78 (by decide) ?_
          refine x_roi (pc := 79) (va_runS (As := [.ref g1, .int (nI 4), .int (nI 1)]) (rest := []) ⟨hx, hb, hml, hown, hts⟩ (kX4_set l dC dI tt cI cB _ g1 2816 k.1 4 1 (by omega) (by omega)) (va_cwS 3 hts gX4_trailer_X4_set rfl rfl rfl (by decide +kernel) ⟨Nat.le_of_ble_eq_true rfl, Nat.le_of_ble_eq_true rfl⟩) (x_preS hS hE hK hP hD [1] rfl (by decide) (x_ro hS hA) xR0) rfl rfl hl.1 rfl (lv_room (Nat.le_of_ble_eq_true rfl)) dX4_trailer_79 ⟨Nat.le_of_ble_eq_true rfl, Nat.le_of_ble_eq_true rfl⟩) hS hA hP (fun r_3 H locs hr_3 hP hS => ?_)
          subst hr_3
          have hs_4 := setN_le k.1 (4 * 256 + 1 * 8)
          exact W.iret (v := nI (setN k.1 (4 * 256 + 1 * 8))) hx hb hr (fun t ht hW => ⟨⟨nI (setN k.1 (4 * 256 + 1 * 8)), (), rfl, by unfold trlV trlW; first | (rw [if_pos hsl, hcl, if_neg s0, if_pos s1]; done) | (rw [if_pos hsl, hcl, if_neg s0, if_pos s1]; rfl), trivial⟩, hS.F ht⟩) hS.2.2 dX4_trailer_82
        · skip
          by_cases s2 : y = nI 2
          · skip
            refine lv_tableIn (pc := 23) (tgt := 83) (off := 60) hx hb dX4_trailer_23 (by rw [s2]; decide) (by rw [s2]; decide) (by rw [s2]; decide) (by decide) ?_
            refine lv_aload_n (pc := 83) hx hb dX4_trailer_83 rfl (lv_at hl 1 rfl) ?_
            refine va_get (pc := 84) (D := (dC, dI)) (ci := 4) (v := .ref g1) (C := RX4) (T := TX4) (N := 26) hx hb hts (by decide +kernel) hown hK hP 0 rfl rfl 0 (by decide) (hts (.fieldLink RX4 9 "ScratchSwapModel" "flash" "[B") (by decide +kernel)) (fun _ h9 => h9) rfl dX4_trailer_84 ?_
            refine lv_iload_n (pc := 87) hx hb dX4_trailer_87 rfl (lv_at hl 0 rfl) ?_
            refine lv_iconst (pc := 88) (v := nI 2) hx hb dX4_trailer_88 (by decide) ?_
            refine x_roi (pc := 89) (va_runS (As := [.ref g1, .int (nI 4), .int (nI 2)]) (rest := []) ⟨hx, hb, hml, hown, hts⟩ (kX4_isSet l dC dI tt cI cB _ g1 2816 k.1 4 2 (by omega) (by omega)) (va_cwS 3 hts gX4_trailer_X4_isSet rfl rfl rfl (by decide +kernel) ⟨Nat.le_of_ble_eq_true rfl, Nat.le_of_ble_eq_true rfl⟩) (x_preS hS hE hK hP hD [1] rfl (by decide) (x_ro hS hA) xR0) rfl rfl hl.1 rfl (lv_room (Nat.le_of_ble_eq_true rfl)) dX4_trailer_89 ⟨Nat.le_of_ble_eq_true rfl, Nat.le_of_ble_eq_true rfl⟩) hS hA hP (fun r_5 H locs hr_5 hP hS => ?_)
            subst hr_5
            refine lv_if_eq (pc := 92) (tgt := 99) hx hb dX4_trailer_92 (by decide) (fun c5 => ?_) (fun c5 => ?_)
            · skip
              have c5 : (mkB k.1 (4 * 256 + 2 * 8)) = false := bI_0.mp c5
              have e2 := c5
              refine lv_iconst (pc := 99) (v := nI 0) hx hb dX4_trailer_99 (by decide) ?_
              exact W.iret (v := nI 0) hx hb hr (fun t ht hW => ⟨⟨nI 0, (), rfl, by unfold trlV trlW; first | (rw [if_pos hsl, hcl, if_neg s0, if_neg s1, if_pos s2, e2]; done) | (rw [if_pos hsl, hcl, if_neg s0, if_neg s1, if_pos s2, e2]; rfl), trivial⟩, hS.F ht⟩) hS.2.2 dX4_trailer_100
            · skip
              have c5 : (mkB k.1 (4 * 256 + 2 * 8)) = true := bI_1.mp c5
              have e2 := c5
              refine lv_iconst (pc := 95) (v := nI 1) hx hb dX4_trailer_95 (by decide) ?_
              refine lv_goto (pc := 96) (tgt := 100) hx hb dX4_trailer_96 (by decide) ?_
              exact W.iret (v := nI 1) hx hb hr (fun t ht hW => ⟨⟨nI 1, (), rfl, by unfold trlV trlW; first | (rw [if_pos hsl, hcl, if_neg s0, if_neg s1, if_pos s2, e2]; done) | (rw [if_pos hsl, hcl, if_neg s0, if_neg s1, if_pos s2, e2]; rfl), trivial⟩, hS.F ht⟩) hS.2.2 dX4_trailer_100
          · skip
            by_cases s3 : y = nI 3
            · skip
              refine lv_tableIn (pc := 23) (tgt := 101) (off := 78) hx hb dX4_trailer_23 (by rw [s3]; decide) (by rw [s3]; decide) (by rw [s3]; decide) (by decide) ?_
              refine lv_aload_n (pc := 101) hx hb dX4_trailer_101 rfl (lv_at hl 1 rfl) ?_
              refine va_get (pc := 102) (D := (dC, dI)) (ci := 4) (v := .ref g1) (C := RX4) (T := TX4) (N := 26) hx hb hts (by decide +kernel) hown hK hP 0 rfl rfl 0 (by decide) (hts (.fieldLink RX4 9 "ScratchSwapModel" "flash" "[B") (by decide +kernel)) (fun _ h9 => h9) rfl dX4_trailer_102 ?_
              refine lv_iload_n (pc := 105) hx hb dX4_trailer_105 rfl (lv_at hl 0 rfl) ?_
              refine lv_iconst (pc := 106) (v := nI 3) hx hb dX4_trailer_106 (by decide) ?_
              refine x_roi (pc := 107) (va_runS (As := [.ref g1, .int (nI 4), .int (nI 3)]) (rest := []) ⟨hx, hb, hml, hown, hts⟩ (kX4_isSet l dC dI tt cI cB _ g1 2816 k.1 4 3 (by omega) (by omega)) (va_cwS 3 hts gX4_trailer_X4_isSet rfl rfl rfl (by decide +kernel) ⟨Nat.le_of_ble_eq_true rfl, Nat.le_of_ble_eq_true rfl⟩) (x_preS hS hE hK hP hD [1] rfl (by decide) (x_ro hS hA) xR0) rfl rfl hl.1 rfl (lv_room (Nat.le_of_ble_eq_true rfl)) dX4_trailer_107 ⟨Nat.le_of_ble_eq_true rfl, Nat.le_of_ble_eq_true rfl⟩) hS hA hP (fun r_6 H locs hr_6 hP hS => ?_)
              subst hr_6
              refine lv_if_eq (pc := 110) (tgt := 117) hx hb dX4_trailer_110 (by decide) (fun c5 => ?_) (fun c5 => ?_)
              · skip
                have c5 : (mkB k.1 (4 * 256 + 3 * 8)) = false := bI_0.mp c5
                have e3 := c5
                refine lv_iconst (pc := 117) (v := nI 0) hx hb dX4_trailer_117 (by decide) ?_
                exact W.iret (v := nI 0) hx hb hr (fun t ht hW => ⟨⟨nI 0, (), rfl, by unfold trlV trlW; first | (rw [if_pos hsl, hcl, if_neg s0, if_neg s1, if_neg s2, if_pos s3, e3]; done) | (rw [if_pos hsl, hcl, if_neg s0, if_neg s1, if_neg s2, if_pos s3, e3]; rfl), trivial⟩, hS.F ht⟩) hS.2.2 dX4_trailer_118
              · skip
                have c5 : (mkB k.1 (4 * 256 + 3 * 8)) = true := bI_1.mp c5
                have e3 := c5
                refine lv_iconst (pc := 113) (v := nI 1) hx hb dX4_trailer_113 (by decide) ?_
                refine lv_goto (pc := 114) (tgt := 118) hx hb dX4_trailer_114 (by decide) ?_
                exact W.iret (v := nI 1) hx hb hr (fun t ht hW => ⟨⟨nI 1, (), rfl, by unfold trlV trlW; first | (rw [if_pos hsl, hcl, if_neg s0, if_neg s1, if_neg s2, if_pos s3, e3]; done) | (rw [if_pos hsl, hcl, if_neg s0, if_neg s1, if_neg s2, if_pos s3, e3]; rfl), trivial⟩, hS.F ht⟩) hS.2.2 dX4_trailer_118
            · skip
              by_cases s4 : y = nI 4
              · skip
                refine lv_tableIn (pc := 23) (tgt := 119) (off := 96) hx hb dX4_trailer_23 (by rw [s4]; decide) (by rw [s4]; decide) (by rw [s4]; decide) (by decide) ?_
                refine lv_iconst (pc := 119) (v := nI 0) hx hb dX4_trailer_119 (by decide) ?_
                refine lv_istore (pc := 120) (lv' := [(4, .int (nI 0)), (3, .int (nI 4)), (0, .ref g0), (1, .int (nI 0)), (2, .int y)]) hx hb dX4_trailer_120 hl (by decide) rfl (fun ls hl => ?_)
                refine lv_iconst (pc := 122) (v := nI 4) hx hb dX4_trailer_122 (by decide) ?_
                refine lv_istore (pc := 123) (lv' := [(5, .int (nI 4)), (4, .int (nI 0)), (3, .int (nI 4)), (0, .ref g0), (1, .int (nI 0)), (2, .int y)]) hx hb dX4_trailer_123 hl (by decide) rfl (fun ls hl => ?_)
                refine x_loop (σ := (Nat)) (Wd := fun i : (Nat) => gW g0 g1 g2 g3 g4 g5 g6 g7 g8 g9 g10 g11 g12 g13 cI cB k dr er pl un li ov tp tn rn vs bo ex wr ei dg wo pa ch fi) (Lv := fun i : (Nat) => [(5, .int (nI (4 + i))), (4, .int (nI (cntN k.1 (4 * 256) i))), (3, .int (nI 4)), (0, .ref g0), (1, .int (nI 0)), (2, .int y)]) (I := fun i : (Nat) => (i ≤ 12)) (μ := fun i : (Nat) => 12 - i) ?_ (0) (by omega) hP hD hS (lv_sub hl [0, 1, 2, 3, 4, 5] rfl)
                intro i H locs ls hI hP hD hS hl ih125
                have hi : (i ≤ 12) := hI
                have hP : va_P (dC, dI) vwCl (gW g0 g1 g2 g3 g4 g5 g6 g7 g8 g9 g10 g11 g12 g13 cI cB k dr er pl un li ov tp tn rn vs bo ex wr ei dg wo pa ch fi) _ := hP
                have hD : va_D (fun _ => True) (gW g0 g1 g2 g3 g4 g5 g6 g7 g8 g9 g10 g11 g12 g13 cI cB k dr er pl un li ov tp tn rn vs bo ex wr ei dg wo pa ch fi) := hD
                have hl : lv_has ls 6 [(5, .int (nI (4 + i))), (4, .int (nI (cntN k.1 (4 * 256) i))), (3, .int (nI 4)), (0, .ref g0), (1, .int (nI 0)), (2, .int y)] := hl
                have hcn := cntN_le k.1 (4 * 256) i
                refine lv_iload (pc := 125) hx hb dX4_trailer_125 (lv_at hl 0 rfl) ?_
                refine lv_bipush (pc := 127) (v := nI 16) hx hb dX4_trailer_127 (by decide) ?_
                refine lv_icmp_ge (pc := 129) (tgt := 161) hx hb dX4_trailer_129 (by decide) (fun c_7 => ?_) (fun c_7 => ?_)
                · skip
                  have c_7 : 16 ≤ (4 + i) := (nI_leI (a := 16) (b := (4 + i)) (by omega) (by omega)).mp c_7
                  refine lv_iload (pc := 161) hx hb dX4_trailer_161 (lv_at hl 1 rfl) ?_
                  have hi9 : i = 12 := by omega
                  subst hi9
                  exact W.iret (v := nI (cntN k.1 (4 * 256) 12)) hx hb hr (fun t ht hW => ⟨⟨nI (cntN k.1 (4 * 256) 12), (), rfl, by unfold trlV trlW; first | (rw [if_pos hsl, hcl, if_neg s0, if_neg s1, if_neg s2, if_neg s3, if_pos s4]; done) | (rw [if_pos hsl, hcl, if_neg s0, if_neg s1, if_neg s2, if_neg s3, if_pos s4]; rfl), trivial⟩, hS.F ht⟩) hS.2.2 dX4_trailer_163
                · skip
                  have c_7 : ¬ 16 ≤ (4 + i) := fun z => c_7 ((nI_leI (a := 16) (b := (4 + i)) (by omega) (by omega)).mpr z)
                  refine lv_iload (pc := 132) hx hb dX4_trailer_132 (lv_at hl 1 rfl) ?_
                  refine lv_aload_n (pc := 134) hx hb dX4_trailer_134 rfl (lv_at hl 3 rfl) ?_
                  refine va_get (pc := 135) (D := (dC, dI)) (ci := 4) (v := .ref g1) (C := RX4) (T := TX4) (N := 26) hx hb hts (by decide +kernel) hown hK hP 0 rfl rfl 0 (by decide) (hts (.fieldLink RX4 9 "ScratchSwapModel" "flash" "[B") (by decide +kernel)) (fun _ h9 => h9) rfl dX4_trailer_135 ?_
                  refine lv_iload_n (pc := 138) hx hb dX4_trailer_138 rfl (lv_at hl 2 rfl) ?_
                  refine lv_iload (pc := 139) hx hb dX4_trailer_139 (lv_at hl 0 rfl) ?_
                  refine x_roi (pc := 141) (va_runS (As := [.ref g1, .int (nI 4), .int (nI (4 + i))]) (rest := [.int (nI (cntN k.1 (4 * 256) i))]) ⟨hx, hb, hml, hown, hts⟩ (kX4_isSet l dC dI tt cI cB _ g1 2816 k.1 4 (4 + i) (by omega) (by omega)) (va_cwS 3 hts gX4_trailer_X4_isSet rfl rfl rfl (by decide +kernel) ⟨Nat.le_of_ble_eq_true rfl, Nat.le_of_ble_eq_true rfl⟩) (x_preS hS hE hK hP hD [1] rfl (by decide) (x_ro hS hA) xR0) rfl rfl hl.1 rfl (lv_room (Nat.le_of_ble_eq_true rfl)) dX4_trailer_141 ⟨Nat.le_of_ble_eq_true rfl, Nat.le_of_ble_eq_true rfl⟩) hS hA hP (fun r_8 H locs hr_8 hP hS => ?_)
                  subst hr_8
                  refine lv_if_eq (pc := 144) (tgt := 151) hx hb dX4_trailer_144 (by decide) (fun cq => ?_) (fun cq => ?_)
                  · skip
                    have cq : (mkB k.1 (4 * 256 + (4 + i) * 8)) = false := bI_0.mp cq
                    refine lv_iconst (pc := 151) (v := nI 0) hx hb dX4_trailer_151 (by decide) ?_
                    refine lv_iadd (pc := 152) hx hb dX4_trailer_152 ?_
                    refine lv_cv (nI_add (cntN k.1 (4 * 256) i) 0) ?_
                    refine lv_istore (pc := 153) (lv' := [(4, .int (nI ((cntN k.1 (4 * 256) i) + 0))), (5, .int (nI (4 + i))), (3, .int (nI 4)), (0, .ref g0), (1, .int (nI 0)), (2, .int y)]) hx hb dX4_trailer_153 hl (by decide) rfl (fun ls hl => ?_)
                    refine lv_iinc (pc := 155) (v := nI ((4 + i) + 1)) (lv' := [(5, .int (nI ((4 + i) + 1))), (4, .int (nI ((cntN k.1 (4 * 256) i) + 0))), (3, .int (nI 4)), (0, .ref g0), (1, .int (nI 0)), (2, .int y)]) hx hb dX4_trailer_155 hl (k := 1) rfl (nI_inc (4 + i) 1) (by decide) rfl (fun ls hl => ?_)
                    refine lv_goto (pc := 158) (tgt := 125) hx hb dX4_trailer_158 (by decide) ?_
                    have hl : lv_has ls 6 [(5, .int (nI (4 + (i + 1)))), (4, .int (nI (cntN k.1 (4 * 256) (i + 1)))), (3, .int (nI 4)), (0, .ref g0), (1, .int (nI 0)), (2, .int y)] := by rw [cntN_s, cq]; exact hl
                    exact ih125 (i + 1) H locs ls (by omega) (by first | omega | (simp only []; omega)) hP hD hS (lv_sub hl [0, 1, 2, 3, 4, 5] rfl)
                  · skip
                    have cq : (mkB k.1 (4 * 256 + (4 + i) * 8)) = true := bI_1.mp cq
                    refine lv_iconst (pc := 147) (v := nI 1) hx hb dX4_trailer_147 (by decide) ?_
                    refine lv_goto (pc := 148) (tgt := 152) hx hb dX4_trailer_148 (by decide) ?_
                    refine lv_iadd (pc := 152) hx hb dX4_trailer_152 ?_
                    refine lv_cv (nI_add (cntN k.1 (4 * 256) i) 1) ?_
                    refine lv_istore (pc := 153) (lv' := [(4, .int (nI ((cntN k.1 (4 * 256) i) + 1))), (5, .int (nI (4 + i))), (3, .int (nI 4)), (0, .ref g0), (1, .int (nI 0)), (2, .int y)]) hx hb dX4_trailer_153 hl (by decide) rfl (fun ls hl => ?_)
                    refine lv_iinc (pc := 155) (v := nI ((4 + i) + 1)) (lv' := [(5, .int (nI ((4 + i) + 1))), (4, .int (nI ((cntN k.1 (4 * 256) i) + 1))), (3, .int (nI 4)), (0, .ref g0), (1, .int (nI 0)), (2, .int y)]) hx hb dX4_trailer_155 hl (k := 1) rfl (nI_inc (4 + i) 1) (by decide) rfl (fun ls hl => ?_)
                    refine lv_goto (pc := 158) (tgt := 125) hx hb dX4_trailer_158 (by decide) ?_
                    have hl : lv_has ls 6 [(5, .int (nI (4 + (i + 1)))), (4, .int (nI (cntN k.1 (4 * 256) (i + 1)))), (3, .int (nI 4)), (0, .ref g0), (1, .int (nI 0)), (2, .int y)] := by rw [cntN_s, cq]; exact hl
                    exact ih125 (i + 1) H locs ls (by omega) (by first | omega | (simp only []; omega)) hP hD hS (lv_sub hl [0, 1, 2, 3, 4, 5] rfl)
              · skip
                have q0 := lv_neT s0 (a := 0) (by decide)
                have q1 := lv_neT s1 (a := 1) (by decide)
                have q2 := lv_neT s2 (a := 2) (by decide)
                have q3 := lv_neT s3 (a := 3) (by decide)
                have q4 := lv_neT s4 (a := 4) (by decide)
                refine lv_tableOut (pc := 23) (tgt := 164) hx hb dX4_trailer_23 (by omega) (by decide) ?_
                refine lv_iconst (pc := 164) (v := (-1)) hx hb dX4_trailer_164 (by decide) ?_
                exact W.iret (v := (-1)) hx hb hr (fun t ht hW => ⟨⟨(-1), (), rfl, by unfold trlV trlW; first | (rw [if_pos hsl, hcl, if_neg s0, if_neg s1, if_neg s2, if_neg s3, if_neg s4]; done) | (rw [if_pos hsl, hcl, if_neg s0, if_neg s1, if_neg s2, if_neg s3, if_neg s4]; rfl), trivial⟩, hS.F ht⟩) hS.2.2 dX4_trailer_165
  · skip
    refine lv_iload_n (pc := 4) hx hb dX4_trailer_4 rfl (lv_at hl 1 rfl) ?_
    refine lv_iconst (pc := 5) (v := nI 1) hx hb dX4_trailer_5 (by decide) ?_
    refine lv_icmp_eq (pc := 6) (tgt := 11) hx hb dX4_trailer_6 (by decide) (fun c2 => ?_) (fun c2 => ?_)
    · skip
      have ew : x = nI 1 := c2
      rw [ew] at hl
      have hcl : x.toNatClampNeg = 1 := by rw [ew]; rfl
      have hsl : slotB x = true := decide_eq_true (Or.inr ew)
      refine lv_iload_n (pc := 11) hx hb dX4_trailer_11 rfl (lv_at hl 1 rfl) ?_
      refine lv_if_ne (pc := 12) (tgt := 19) hx hb dX4_trailer_12 (by decide) (fun c_9 => ?_) (fun c_9 => ?_)
      · skip
        have c_9 : ¬ 1 = 0 := fun z => c_9 ((nI_eq (a := 1) (b := 0) (by omega) (by omega)).mpr z)
        refine lv_bipush (pc := 19) (v := nI 9) hx hb dX4_trailer_19 (by decide) ?_
        refine lv_istore_n (pc := 21) (lv' := [(3, .int (nI 9)), (0, .ref g0), (1, .int (nI 1)), (2, .int y)]) hx hb dX4_trailer_21 rfl hl (by decide) rfl (fun ls hl => ?_)
        refine lv_iload_n (pc := 22) hx hb dX4_trailer_22 rfl (lv_at hl 3 rfl) ?_
        by_cases s0 : y = nI 0
        · skip
          refine lv_tableIn (pc := 23) (tgt := 56) (off := 33) hx hb dX4_trailer_23 (by rw [s0]; decide) (by rw [s0]; decide) (by rw [s0]; decide) (by decide) ?_
          refine lv_aload_n (pc := 56) hx hb dX4_trailer_56 rfl (lv_at hl 1 rfl) ?_
          refine va_get (pc := 57) (D := (dC, dI)) (ci := 4) (v := .ref g1) (C := RX4) (T := TX4) (N := 26) hx hb hts (by decide +kernel) hown hK hP 0 rfl rfl 0 (by decide) (hts (.fieldLink RX4 9 "ScratchSwapModel" "flash" "[B") (by decide +kernel)) (fun _ h9 => h9) rfl dX4_trailer_57 ?_
          refine lv_iload_n (pc := 60) hx hb dX4_trailer_60 rfl (lv_at hl 0 rfl) ?_
          refine x_roi (pc := 61) (va_runS (As := [.ref g1, .int (nI 9)]) (rest := []) ⟨hx, hb, hml, hown, hts⟩ (kX4_isMagic l dC dI tt cI cB _ g1 2816 k.1 9 (by omega) (by omega)) (va_cwS 2 hts gX4_trailer_X4_isMagic rfl rfl rfl (by decide +kernel) ⟨Nat.le_of_ble_eq_true rfl, Nat.le_of_ble_eq_true rfl⟩) (x_preS hS hE hK hP hD [1] rfl (by decide) (x_ro hS hA) xR0) rfl rfl hl.1 rfl (lv_room (Nat.le_of_ble_eq_true rfl)) dX4_trailer_61 ⟨Nat.le_of_ble_eq_true rfl, Nat.le_of_ble_eq_true rfl⟩) hS hA hP (fun r_10 H locs hr_10 hP hS => ?_)
          subst hr_10
          refine lv_if_eq (pc := 64) (tgt := 71) hx hb dX4_trailer_64 (by decide) (fun c5 => ?_) (fun c5 => ?_)
          · skip
            have c5 : (magB k.1 (9 * 256)) = false := bI_0.mp c5
            have e0 := c5
            refine lv_iconst (pc := 71) (v := nI 0) hx hb dX4_trailer_71 (by decide) ?_
            exact W.iret (v := nI 0) hx hb hr (fun t ht hW => ⟨⟨nI 0, (), rfl, by unfold trlV trlW; first | (rw [if_pos hsl, hcl, if_pos s0, e0]; done) | (rw [if_pos hsl, hcl, if_pos s0, e0]; rfl), trivial⟩, hS.F ht⟩) hS.2.2 dX4_trailer_72
          · skip
            have c5 : (magB k.1 (9 * 256)) = true := bI_1.mp c5
            have e0 := c5
            refine lv_iconst (pc := 67) (v := nI 1) hx hb dX4_trailer_67 (by decide) ?_
            refine lv_goto (pc := 68) (tgt := 72) hx hb dX4_trailer_68 (by decide) ?_
            exact W.iret (v := nI 1) hx hb hr (fun t ht hW => ⟨⟨nI 1, (), rfl, by unfold trlV trlW; first | (rw [if_pos hsl, hcl, if_pos s0, e0]; done) | (rw [if_pos hsl, hcl, if_pos s0, e0]; rfl), trivial⟩, hS.F ht⟩) hS.2.2 dX4_trailer_72
        · skip
          by_cases s1 : y = nI 1
          · skip
            refine lv_tableIn (pc := 23) (tgt := 73) (off := 50) hx hb dX4_trailer_23 (by rw [s1]; decide) (by rw [s1]; decide) (by rw [s1]; decide) (by decide) ?_
            refine lv_aload_n (pc := 73) hx hb dX4_trailer_73 rfl (lv_at hl 1 rfl) ?_
            refine va_get (pc := 74) (D := (dC, dI)) (ci := 4) (v := .ref g1) (C := RX4) (T := TX4) (N := 26) hx hb hts (by decide +kernel) hown hK hP 0 rfl rfl 0 (by decide) (hts (.fieldLink RX4 9 "ScratchSwapModel" "flash" "[B") (by decide +kernel)) (fun _ h9 => h9) rfl dX4_trailer_74 ?_
            refine lv_iload_n (pc := 77) hx hb dX4_trailer_77 rfl (lv_at hl 0 rfl) ?_
            refine lv_iconst (pc := 78) (v := nI 1) hx hb dX4_trailer_78 (by decide) ?_
            refine x_roi (pc := 79) (va_runS (As := [.ref g1, .int (nI 9), .int (nI 1)]) (rest := []) ⟨hx, hb, hml, hown, hts⟩ (kX4_set l dC dI tt cI cB _ g1 2816 k.1 9 1 (by omega) (by omega)) (va_cwS 3 hts gX4_trailer_X4_set rfl rfl rfl (by decide +kernel) ⟨Nat.le_of_ble_eq_true rfl, Nat.le_of_ble_eq_true rfl⟩) (x_preS hS hE hK hP hD [1] rfl (by decide) (x_ro hS hA) xR0) rfl rfl hl.1 rfl (lv_room (Nat.le_of_ble_eq_true rfl)) dX4_trailer_79 ⟨Nat.le_of_ble_eq_true rfl, Nat.le_of_ble_eq_true rfl⟩) hS hA hP (fun r_11 H locs hr_11 hP hS => ?_)
            subst hr_11
            have hs_12 := setN_le k.1 (9 * 256 + 1 * 8)
            exact W.iret (v := nI (setN k.1 (9 * 256 + 1 * 8))) hx hb hr (fun t ht hW => ⟨⟨nI (setN k.1 (9 * 256 + 1 * 8)), (), rfl, by unfold trlV trlW; first | (rw [if_pos hsl, hcl, if_neg s0, if_pos s1]; done) | (rw [if_pos hsl, hcl, if_neg s0, if_pos s1]; rfl), trivial⟩, hS.F ht⟩) hS.2.2 dX4_trailer_82
          · skip
            by_cases s2 : y = nI 2
            · skip
              refine lv_tableIn (pc := 23) (tgt := 83) (off := 60) hx hb dX4_trailer_23 (by rw [s2]; decide) (by rw [s2]; decide) (by rw [s2]; decide) (by decide) ?_
              refine lv_aload_n (pc := 83) hx hb dX4_trailer_83 rfl (lv_at hl 1 rfl) ?_
              refine va_get (pc := 84) (D := (dC, dI)) (ci := 4) (v := .ref g1) (C := RX4) (T := TX4) (N := 26) hx hb hts (by decide +kernel) hown hK hP 0 rfl rfl 0 (by decide) (hts (.fieldLink RX4 9 "ScratchSwapModel" "flash" "[B") (by decide +kernel)) (fun _ h9 => h9) rfl dX4_trailer_84 ?_
              refine lv_iload_n (pc := 87) hx hb dX4_trailer_87 rfl (lv_at hl 0 rfl) ?_
              refine lv_iconst (pc := 88) (v := nI 2) hx hb dX4_trailer_88 (by decide) ?_
              refine x_roi (pc := 89) (va_runS (As := [.ref g1, .int (nI 9), .int (nI 2)]) (rest := []) ⟨hx, hb, hml, hown, hts⟩ (kX4_isSet l dC dI tt cI cB _ g1 2816 k.1 9 2 (by omega) (by omega)) (va_cwS 3 hts gX4_trailer_X4_isSet rfl rfl rfl (by decide +kernel) ⟨Nat.le_of_ble_eq_true rfl, Nat.le_of_ble_eq_true rfl⟩) (x_preS hS hE hK hP hD [1] rfl (by decide) (x_ro hS hA) xR0) rfl rfl hl.1 rfl (lv_room (Nat.le_of_ble_eq_true rfl)) dX4_trailer_89 ⟨Nat.le_of_ble_eq_true rfl, Nat.le_of_ble_eq_true rfl⟩) hS hA hP (fun r_13 H locs hr_13 hP hS => ?_)
              subst hr_13
              refine lv_if_eq (pc := 92) (tgt := 99) hx hb dX4_trailer_92 (by decide) (fun c5 => ?_) (fun c5 => ?_)
              · skip
                have c5 : (mkB k.1 (9 * 256 + 2 * 8)) = false := bI_0.mp c5
                have e2 := c5
                refine lv_iconst (pc := 99) (v := nI 0) hx hb dX4_trailer_99 (by decide) ?_
                exact W.iret (v := nI 0) hx hb hr (fun t ht hW => ⟨⟨nI 0, (), rfl, by unfold trlV trlW; first | (rw [if_pos hsl, hcl, if_neg s0, if_neg s1, if_pos s2, e2]; done) | (rw [if_pos hsl, hcl, if_neg s0, if_neg s1, if_pos s2, e2]; rfl), trivial⟩, hS.F ht⟩) hS.2.2 dX4_trailer_100
              · skip
                have c5 : (mkB k.1 (9 * 256 + 2 * 8)) = true := bI_1.mp c5
                have e2 := c5
                refine lv_iconst (pc := 95) (v := nI 1) hx hb dX4_trailer_95 (by decide) ?_
                refine lv_goto (pc := 96) (tgt := 100) hx hb dX4_trailer_96 (by decide) ?_
                exact W.iret (v := nI 1) hx hb hr (fun t ht hW => ⟨⟨nI 1, (), rfl, by unfold trlV trlW; first | (rw [if_pos hsl, hcl, if_neg s0, if_neg s1, if_pos s2, e2]; done) | (rw [if_pos hsl, hcl, if_neg s0, if_neg s1, if_pos s2, e2]; rfl), trivial⟩, hS.F ht⟩) hS.2.2 dX4_trailer_100
            · skip
              by_cases s3 : y = nI 3
              · skip
                refine lv_tableIn (pc := 23) (tgt := 101) (off := 78) hx hb dX4_trailer_23 (by rw [s3]; decide) (by rw [s3]; decide) (by rw [s3]; decide) (by decide) ?_
                refine lv_aload_n (pc := 101) hx hb dX4_trailer_101 rfl (lv_at hl 1 rfl) ?_
                refine va_get (pc := 102) (D := (dC, dI)) (ci := 4) (v := .ref g1) (C := RX4) (T := TX4) (N := 26) hx hb hts (by decide +kernel) hown hK hP 0 rfl rfl 0 (by decide) (hts (.fieldLink RX4 9 "ScratchSwapModel" "flash" "[B") (by decide +kernel)) (fun _ h9 => h9) rfl dX4_trailer_102 ?_
                refine lv_iload_n (pc := 105) hx hb dX4_trailer_105 rfl (lv_at hl 0 rfl) ?_
                refine lv_iconst (pc := 106) (v := nI 3) hx hb dX4_trailer_106 (by decide) ?_
                refine x_roi (pc := 107) (va_runS (As := [.ref g1, .int (nI 9), .int (nI 3)]) (rest := []) ⟨hx, hb, hml, hown, hts⟩ (kX4_isSet l dC dI tt cI cB _ g1 2816 k.1 9 3 (by omega) (by omega)) (va_cwS 3 hts gX4_trailer_X4_isSet rfl rfl rfl (by decide +kernel) ⟨Nat.le_of_ble_eq_true rfl, Nat.le_of_ble_eq_true rfl⟩) (x_preS hS hE hK hP hD [1] rfl (by decide) (x_ro hS hA) xR0) rfl rfl hl.1 rfl (lv_room (Nat.le_of_ble_eq_true rfl)) dX4_trailer_107 ⟨Nat.le_of_ble_eq_true rfl, Nat.le_of_ble_eq_true rfl⟩) hS hA hP (fun r_14 H locs hr_14 hP hS => ?_)
                subst hr_14
                refine lv_if_eq (pc := 110) (tgt := 117) hx hb dX4_trailer_110 (by decide) (fun c5 => ?_) (fun c5 => ?_)
                · skip
                  have c5 : (mkB k.1 (9 * 256 + 3 * 8)) = false := bI_0.mp c5
                  have e3 := c5
                  refine lv_iconst (pc := 117) (v := nI 0) hx hb dX4_trailer_117 (by decide) ?_
                  exact W.iret (v := nI 0) hx hb hr (fun t ht hW => ⟨⟨nI 0, (), rfl, by unfold trlV trlW; first | (rw [if_pos hsl, hcl, if_neg s0, if_neg s1, if_neg s2, if_pos s3, e3]; done) | (rw [if_pos hsl, hcl, if_neg s0, if_neg s1, if_neg s2, if_pos s3, e3]; rfl), trivial⟩, hS.F ht⟩) hS.2.2 dX4_trailer_118
                · skip
                  have c5 : (mkB k.1 (9 * 256 + 3 * 8)) = true := bI_1.mp c5
                  have e3 := c5
                  refine lv_iconst (pc := 113) (v := nI 1) hx hb dX4_trailer_113 (by decide) ?_
                  refine lv_goto (pc := 114) (tgt := 118) hx hb dX4_trailer_114 (by decide) ?_
                  exact W.iret (v := nI 1) hx hb hr (fun t ht hW => ⟨⟨nI 1, (), rfl, by unfold trlV trlW; first | (rw [if_pos hsl, hcl, if_neg s0, if_neg s1, if_neg s2, if_pos s3, e3]; done) | (rw [if_pos hsl, hcl, if_neg s0, if_neg s1, if_neg s2, if_pos s3, e3]; rfl), trivial⟩, hS.F ht⟩) hS.2.2 dX4_trailer_118
              · skip
                by_cases s4 : y = nI 4
                · skip
                  refine lv_tableIn (pc := 23) (tgt := 119) (off := 96) hx hb dX4_trailer_23 (by rw [s4]; decide) (by rw [s4]; decide) (by rw [s4]; decide) (by decide) ?_
                  refine lv_iconst (pc := 119) (v := nI 0) hx hb dX4_trailer_119 (by decide) ?_
                  refine lv_istore (pc := 120) (lv' := [(4, .int (nI 0)), (3, .int (nI 9)), (0, .ref g0), (1, .int (nI 1)), (2, .int y)]) hx hb dX4_trailer_120 hl (by decide) rfl (fun ls hl => ?_)
                  refine lv_iconst (pc := 122) (v := nI 4) hx hb dX4_trailer_122 (by decide) ?_
                  refine lv_istore (pc := 123) (lv' := [(5, .int (nI 4)), (4, .int (nI 0)), (3, .int (nI 9)), (0, .ref g0), (1, .int (nI 1)), (2, .int y)]) hx hb dX4_trailer_123 hl (by decide) rfl (fun ls hl => ?_)
                  refine x_loop (σ := (Nat)) (Wd := fun i : (Nat) => gW g0 g1 g2 g3 g4 g5 g6 g7 g8 g9 g10 g11 g12 g13 cI cB k dr er pl un li ov tp tn rn vs bo ex wr ei dg wo pa ch fi) (Lv := fun i : (Nat) => [(5, .int (nI (4 + i))), (4, .int (nI (cntN k.1 (9 * 256) i))), (3, .int (nI 9)), (0, .ref g0), (1, .int (nI 1)), (2, .int y)]) (I := fun i : (Nat) => (i ≤ 12)) (μ := fun i : (Nat) => 12 - i) ?_ (0) (by omega) hP hD hS (lv_sub hl [0, 1, 2, 3, 4, 5] rfl)
                  intro i H locs ls hI hP hD hS hl ih125
                  have hi : (i ≤ 12) := hI
                  have hP : va_P (dC, dI) vwCl (gW g0 g1 g2 g3 g4 g5 g6 g7 g8 g9 g10 g11 g12 g13 cI cB k dr er pl un li ov tp tn rn vs bo ex wr ei dg wo pa ch fi) _ := hP
                  have hD : va_D (fun _ => True) (gW g0 g1 g2 g3 g4 g5 g6 g7 g8 g9 g10 g11 g12 g13 cI cB k dr er pl un li ov tp tn rn vs bo ex wr ei dg wo pa ch fi) := hD
                  have hl : lv_has ls 6 [(5, .int (nI (4 + i))), (4, .int (nI (cntN k.1 (9 * 256) i))), (3, .int (nI 9)), (0, .ref g0), (1, .int (nI 1)), (2, .int y)] := hl
                  have hcn := cntN_le k.1 (9 * 256) i
                  refine lv_iload (pc := 125) hx hb dX4_trailer_125 (lv_at hl 0 rfl) ?_
                  refine lv_bipush (pc := 127) (v := nI 16) hx hb dX4_trailer_127 (by decide) ?_
                  refine lv_icmp_ge (pc := 129) (tgt := 161) hx hb dX4_trailer_129 (by decide) (fun c_15 => ?_) (fun c_15 => ?_)
                  · skip
                    have c_15 : 16 ≤ (4 + i) := (nI_leI (a := 16) (b := (4 + i)) (by omega) (by omega)).mp c_15
                    refine lv_iload (pc := 161) hx hb dX4_trailer_161 (lv_at hl 1 rfl) ?_
                    have hi9 : i = 12 := by omega
                    subst hi9
                    exact W.iret (v := nI (cntN k.1 (9 * 256) 12)) hx hb hr (fun t ht hW => ⟨⟨nI (cntN k.1 (9 * 256) 12), (), rfl, by unfold trlV trlW; first | (rw [if_pos hsl, hcl, if_neg s0, if_neg s1, if_neg s2, if_neg s3, if_pos s4]; done) | (rw [if_pos hsl, hcl, if_neg s0, if_neg s1, if_neg s2, if_neg s3, if_pos s4]; rfl), trivial⟩, hS.F ht⟩) hS.2.2 dX4_trailer_163
                  · skip
                    have c_15 : ¬ 16 ≤ (4 + i) := fun z => c_15 ((nI_leI (a := 16) (b := (4 + i)) (by omega) (by omega)).mpr z)
                    refine lv_iload (pc := 132) hx hb dX4_trailer_132 (lv_at hl 1 rfl) ?_
                    refine lv_aload_n (pc := 134) hx hb dX4_trailer_134 rfl (lv_at hl 3 rfl) ?_
                    refine va_get (pc := 135) (D := (dC, dI)) (ci := 4) (v := .ref g1) (C := RX4) (T := TX4) (N := 26) hx hb hts (by decide +kernel) hown hK hP 0 rfl rfl 0 (by decide) (hts (.fieldLink RX4 9 "ScratchSwapModel" "flash" "[B") (by decide +kernel)) (fun _ h9 => h9) rfl dX4_trailer_135 ?_
                    refine lv_iload_n (pc := 138) hx hb dX4_trailer_138 rfl (lv_at hl 2 rfl) ?_
                    refine lv_iload (pc := 139) hx hb dX4_trailer_139 (lv_at hl 0 rfl) ?_
                    refine x_roi (pc := 141) (va_runS (As := [.ref g1, .int (nI 9), .int (nI (4 + i))]) (rest := [.int (nI (cntN k.1 (9 * 256) i))]) ⟨hx, hb, hml, hown, hts⟩ (kX4_isSet l dC dI tt cI cB _ g1 2816 k.1 9 (4 + i) (by omega) (by omega)) (va_cwS 3 hts gX4_trailer_X4_isSet rfl rfl rfl (by decide +kernel) ⟨Nat.le_of_ble_eq_true rfl, Nat.le_of_ble_eq_true rfl⟩) (x_preS hS hE hK hP hD [1] rfl (by decide) (x_ro hS hA) xR0) rfl rfl hl.1 rfl (lv_room (Nat.le_of_ble_eq_true rfl)) dX4_trailer_141 ⟨Nat.le_of_ble_eq_true rfl, Nat.le_of_ble_eq_true rfl⟩) hS hA hP (fun r_16 H locs hr_16 hP hS => ?_)
                    subst hr_16
                    refine lv_if_eq (pc := 144) (tgt := 151) hx hb dX4_trailer_144 (by decide) (fun cq => ?_) (fun cq => ?_)
                    · skip
                      have cq : (mkB k.1 (9 * 256 + (4 + i) * 8)) = false := bI_0.mp cq
                      refine lv_iconst (pc := 151) (v := nI 0) hx hb dX4_trailer_151 (by decide) ?_
                      refine lv_iadd (pc := 152) hx hb dX4_trailer_152 ?_
                      refine lv_cv (nI_add (cntN k.1 (9 * 256) i) 0) ?_
                      refine lv_istore (pc := 153) (lv' := [(4, .int (nI ((cntN k.1 (9 * 256) i) + 0))), (5, .int (nI (4 + i))), (3, .int (nI 9)), (0, .ref g0), (1, .int (nI 1)), (2, .int y)]) hx hb dX4_trailer_153 hl (by decide) rfl (fun ls hl => ?_)
                      refine lv_iinc (pc := 155) (v := nI ((4 + i) + 1)) (lv' := [(5, .int (nI ((4 + i) + 1))), (4, .int (nI ((cntN k.1 (9 * 256) i) + 0))), (3, .int (nI 9)), (0, .ref g0), (1, .int (nI 1)), (2, .int y)]) hx hb dX4_trailer_155 hl (k := 1) rfl (nI_inc (4 + i) 1) (by decide) rfl (fun ls hl => ?_)
                      refine lv_goto (pc := 158) (tgt := 125) hx hb dX4_trailer_158 (by decide) ?_
                      have hl : lv_has ls 6 [(5, .int (nI (4 + (i + 1)))), (4, .int (nI (cntN k.1 (9 * 256) (i + 1)))), (3, .int (nI 9)), (0, .ref g0), (1, .int (nI 1)), (2, .int y)] := by rw [cntN_s, cq]; exact hl
                      exact ih125 (i + 1) H locs ls (by omega) (by first | omega | (simp only []; omega)) hP hD hS (lv_sub hl [0, 1, 2, 3, 4, 5] rfl)
                    · skip
                      have cq : (mkB k.1 (9 * 256 + (4 + i) * 8)) = true := bI_1.mp cq
                      refine lv_iconst (pc := 147) (v := nI 1) hx hb dX4_trailer_147 (by decide) ?_
                      refine lv_goto (pc := 148) (tgt := 152) hx hb dX4_trailer_148 (by decide) ?_
                      refine lv_iadd (pc := 152) hx hb dX4_trailer_152 ?_
                      refine lv_cv (nI_add (cntN k.1 (9 * 256) i) 1) ?_
                      refine lv_istore (pc := 153) (lv' := [(4, .int (nI ((cntN k.1 (9 * 256) i) + 1))), (5, .int (nI (4 + i))), (3, .int (nI 9)), (0, .ref g0), (1, .int (nI 1)), (2, .int y)]) hx hb dX4_trailer_153 hl (by decide) rfl (fun ls hl => ?_)
                      refine lv_iinc (pc := 155) (v := nI ((4 + i) + 1)) (lv' := [(5, .int (nI ((4 + i) + 1))), (4, .int (nI ((cntN k.1 (9 * 256) i) + 1))), (3, .int (nI 9)), (0, .ref g0), (1, .int (nI 1)), (2, .int y)]) hx hb dX4_trailer_155 hl (k := 1) rfl (nI_inc (4 + i) 1) (by decide) rfl (fun ls hl => ?_)
                      refine lv_goto (pc := 158) (tgt := 125) hx hb dX4_trailer_158 (by decide) ?_
                      have hl : lv_has ls 6 [(5, .int (nI (4 + (i + 1)))), (4, .int (nI (cntN k.1 (9 * 256) (i + 1)))), (3, .int (nI 9)), (0, .ref g0), (1, .int (nI 1)), (2, .int y)] := by rw [cntN_s, cq]; exact hl
                      exact ih125 (i + 1) H locs ls (by omega) (by first | omega | (simp only []; omega)) hP hD hS (lv_sub hl [0, 1, 2, 3, 4, 5] rfl)
                · skip
                  have q0 := lv_neT s0 (a := 0) (by decide)
                  have q1 := lv_neT s1 (a := 1) (by decide)
                  have q2 := lv_neT s2 (a := 2) (by decide)
                  have q3 := lv_neT s3 (a := 3) (by decide)
                  have q4 := lv_neT s4 (a := 4) (by decide)
                  refine lv_tableOut (pc := 23) (tgt := 164) hx hb dX4_trailer_23 (by omega) (by decide) ?_
                  refine lv_iconst (pc := 164) (v := (-1)) hx hb dX4_trailer_164 (by decide) ?_
                  exact W.iret (v := (-1)) hx hb hr (fun t ht hW => ⟨⟨(-1), (), rfl, by unfold trlV trlW; first | (rw [if_pos hsl, hcl, if_neg s0, if_neg s1, if_neg s2, if_neg s3, if_neg s4]; done) | (rw [if_pos hsl, hcl, if_neg s0, if_neg s1, if_neg s2, if_neg s3, if_neg s4]; rfl), trivial⟩, hS.F ht⟩) hS.2.2 dX4_trailer_165
      · skip
        have c_9 : 1 = 0 := (nI_eq (a := 1) (b := 0) (by omega) (by omega)).mp c_9
        exfalso; omega
    · skip
      refine lv_iconst (pc := 9) (v := (-1)) hx hb dX4_trailer_9 (by decide) ?_
      exact W.iret (v := (-1)) hx hb hr (fun t ht hW => ⟨⟨(-1), (), rfl, by unfold trlV; rw [if_neg (fun z => (of_decide_eq_true z).elim c1 c2)], trivial⟩, hS.F ht⟩) hS.2.2 dX4_trailer_10
set_option maxHeartbeats 4000000 in
set_option maxRecDepth 100000 in
theorem kX4_flash (l : Launch) (dC : Nat → ClassId) (dI : Nat → Nat → Nat) (tt : Nat → Nat) (cI cB : ClassId) (sz : Nat) (g0 g1 g2 g3 g4 g5 g6 g7 g8 g9 g10 g11 g12 g13 : Nat) (k : K0) (dr : Nat → Int8) (er pl : Nat → Int32) (un : Nat → Int8) (li : Nat) (ov : Int32) (tp : Nat → Int8) (tn : Nat) (rn : Bool) (vs bo ex wr : Int32) (ei dg : Nat → Int8) (wo : Nat → Int32) (pa : Nat → Int8) (ch fi : Nat → Int32) (x : Int32)  : MetR l yX4_flash wsX4_flash { frames := 0, cells := 0, slots := 0, locals := 0 } (dC, dI) [(cI, .int), (cB, .byte)] tt [] sz (gW g0 g1 g2 g3 g4 g5 g6 g7 g8 g9 g10 g11 g12 g13 cI cB k dr er pl un li ov tp tn rn vs bo ex wr ei dg wo pa ch fi) [.ref g0, .int x] (fun r => r = flaV k.1 x) := by
  refine Met.ofW (cc := cX4_flash) (maxL := 2) (ret := (some .int)) (by decide) rfl ?_
  intro p e s m args below meth c s₁ B hml hv
  obtain ⟨rfl, hsz, hP, hK, hD0, hE⟩ := hv
  have hx := B.exec
  have hb := B.bytes
  have hr := B.returns
  have hts := atoms_spec (ws := wsX4_flash) B.pre
  have hown : s.vm.findClass RX4 = some m.cls := findClass_of_methodNamed B.named
  have hlocks := B.notSynchronized
  subst hsz
  have hD := hD0
  generalize hAe : va_A [] s.heap.size = A at hE ⊢
  have hA : ∀ q : Nat, s.heap.size ≤ q → A q := fun q h => by rw [← hAe]; exact Or.inr h
  have hS : va_S A s.heap s.heap [] := va_S.rf
  have hl := lv_entry ([.ref g0, .int x]) (n := 2) (Nat.le_of_ble_eq_true rfl)
  rw [lg_entry_eq]
  generalize (lg_sl ([.ref g0, .int x]) ++ List.replicate (2 - (lg_sl ([.ref g0, .int x])).length) Slot.unset).toArray = ls at hl ⊢
  have hl : lv_has ls 2 [(0, .ref g0), (1, .int x)] := hl
  have hP : va_P (dC, dI) vwCl (gW g0 g1 g2 g3 g4 g5 g6 g7 g8 g9 g10 g11 g12 g13 cI cB k dr er pl un li ov tp tn rn vs bo ex wr ei dg wo pa ch fi) s.heap := hP
  refine lv_iload_n (pc := 0) hx hb dX4_flash_0 rfl (lv_at hl 1 rfl) ?_
  refine lv_if_lt (pc := 1) (tgt := 11) hx hb dX4_flash_1 (by decide) (fun c1 => ?_) (fun c1 => ?_)
  · skip
    refine lv_iconst (pc := 11) (v := (-1)) hx hb dX4_flash_11 (by decide) ?_
    refine lv_goto (pc := 12) (tgt := 25) hx hb dX4_flash_12 (by decide) ?_
    exact W.iret (v := (-1)) hx hb hr (fun t ht hW => ⟨⟨(-1), (), rfl, by unfold flaV; rw [if_neg (show ¬ inB 2816 x = true from fun z => by first | exact (of_decide_eq_true z).1 c1 | exact (of_decide_eq_true z).2 (Int32.not_lt.mp c2))], trivial⟩, hS.F ht⟩) hS.2.2 dX4_flash_25
  · skip
    refine lv_iload_n (pc := 4) hx hb dX4_flash_4 rfl (lv_at hl 1 rfl) ?_
    refine lv_sipush (pc := 5) (v := nI 2816) hx hb dX4_flash_5 (by decide) ?_
    refine lv_icmp_lt (pc := 8) (tgt := 15) hx hb dX4_flash_8 (by decide) (fun c2 => ?_) (fun c2 => ?_)
    · skip
      have hin : inB 2816 x = true := decide_eq_true ⟨c1, Int32.not_le.mpr c2⟩
      obtain ⟨n, hn, en⟩ := inB_of (n := 2816) (by decide) hin
      rw [en] at hl
      have hcl : x.toNatClampNeg = n := by rw [en]; exact nI_clamp (by omega)
      refine lv_aload_n (pc := 15) hx hb dX4_flash_15 rfl (lv_at hl 0 rfl) ?_
      refine va_get (pc := 16) (D := (dC, dI)) (ci := 4) (v := .ref g1) (C := RX4) (T := TX4) (N := 26) hx hb hts (by decide +kernel) hown hK hP 0 rfl rfl 0 (by decide) (hts (.fieldLink RX4 9 "ScratchSwapModel" "flash" "[B") (by decide +kernel)) (fun _ h9 => h9) rfl dX4_flash_16 ?_
      refine lv_iload_n (pc := 19) hx hb dX4_flash_19 rfl (lv_at hl 1 rfl) ?_
      refine x_bald (pc := 20) (k := n) (f := fun j => Int8.toInt32 (k.1 j)) hx hb hK hP 1 1 rfl rfl (by omega) (by decide) dX4_flash_20 ?_
      refine lv_sipush (pc := 21) (v := nI 255) hx hb dX4_flash_21 (by decide) ?_
      refine lv_iand (pc := 24) hx hb dX4_flash_24 ?_
      refine lv_cv (rfl) ?_
      exact W.iret (v := ub (k.1 n)) hx hb hr (fun t ht hW => ⟨⟨ub (k.1 n), (), rfl, by unfold flaV; rw [if_pos hin, hcl], trivial⟩, hS.F ht⟩) hS.2.2 dX4_flash_25
    · skip
      refine lv_iconst (pc := 11) (v := (-1)) hx hb dX4_flash_11 (by decide) ?_
      refine lv_goto (pc := 12) (tgt := 25) hx hb dX4_flash_12 (by decide) ?_
      exact W.iret (v := (-1)) hx hb hr (fun t ht hW => ⟨⟨(-1), (), rfl, by unfold flaV; rw [if_neg (show ¬ inB 2816 x = true from fun z => by first | exact (of_decide_eq_true z).1 c1 | exact (of_decide_eq_true z).2 (Int32.not_lt.mp c2))], trivial⟩, hS.F ht⟩) hS.2.2 dX4_flash_25
set_option maxHeartbeats 4000000 in
set_option maxRecDepth 100000 in
theorem kX4_wear (l : Launch) (dC : Nat → ClassId) (dI : Nat → Nat → Nat) (tt : Nat → Nat) (cI cB : ClassId) (sz : Nat) (g0 g1 g2 g3 g4 g5 g6 g7 g8 g9 g10 g11 g12 g13 : Nat) (k : K0) (dr : Nat → Int8) (er pl : Nat → Int32) (un : Nat → Int8) (li : Nat) (ov : Int32) (tp : Nat → Int8) (tn : Nat) (rn : Bool) (vs bo ex wr : Int32) (ei dg : Nat → Int8) (wo : Nat → Int32) (pa : Nat → Int8) (ch fi : Nat → Int32) (x : Int32)  : MetR l yX4_wear wsX4_wear { frames := 0, cells := 0, slots := 0, locals := 0 } (dC, dI) [(cI, .int), (cB, .byte)] tt [] sz (gW g0 g1 g2 g3 g4 g5 g6 g7 g8 g9 g10 g11 g12 g13 cI cB k dr er pl un li ov tp tn rn vs bo ex wr ei dg wo pa ch fi) [.ref g0, .int x] (fun r => r = weaV k.2.1 x) := by
  refine Met.ofW (cc := cX4_wear) (maxL := 2) (ret := (some .int)) (by decide) rfl ?_
  intro p e s m args below meth c s₁ B hml hv
  obtain ⟨rfl, hsz, hP, hK, hD0, hE⟩ := hv
  have hx := B.exec
  have hb := B.bytes
  have hr := B.returns
  have hts := atoms_spec (ws := wsX4_wear) B.pre
  have hown : s.vm.findClass RX4 = some m.cls := findClass_of_methodNamed B.named
  have hlocks := B.notSynchronized
  subst hsz
  have hD := hD0
  generalize hAe : va_A [] s.heap.size = A at hE ⊢
  have hA : ∀ q : Nat, s.heap.size ≤ q → A q := fun q h => by rw [← hAe]; exact Or.inr h
  have hS : va_S A s.heap s.heap [] := va_S.rf
  have hl := lv_entry ([.ref g0, .int x]) (n := 2) (Nat.le_of_ble_eq_true rfl)
  rw [lg_entry_eq]
  generalize (lg_sl ([.ref g0, .int x]) ++ List.replicate (2 - (lg_sl ([.ref g0, .int x])).length) Slot.unset).toArray = ls at hl ⊢
  have hl : lv_has ls 2 [(0, .ref g0), (1, .int x)] := hl
  have hP : va_P (dC, dI) vwCl (gW g0 g1 g2 g3 g4 g5 g6 g7 g8 g9 g10 g11 g12 g13 cI cB k dr er pl un li ov tp tn rn vs bo ex wr ei dg wo pa ch fi) s.heap := hP
  refine lv_iload_n (pc := 0) hx hb dX4_wear_0 rfl (lv_at hl 1 rfl) ?_
  refine lv_if_lt (pc := 1) (tgt := 10) hx hb dX4_wear_1 (by decide) (fun c1 => ?_) (fun c1 => ?_)
  · skip
    refine lv_iconst (pc := 10) (v := (-1)) hx hb dX4_wear_10 (by decide) ?_
    refine lv_goto (pc := 11) (tgt := 20) hx hb dX4_wear_11 (by decide) ?_
    exact W.iret (v := (-1)) hx hb hr (fun t ht hW => ⟨⟨(-1), (), rfl, by unfold weaV; rw [if_neg (show ¬ inB 11 x = true from fun z => by first | exact (of_decide_eq_true z).1 c1 | exact (of_decide_eq_true z).2 (Int32.not_lt.mp c2))], trivial⟩, hS.F ht⟩) hS.2.2 dX4_wear_20
  · skip
    refine lv_iload_n (pc := 4) hx hb dX4_wear_4 rfl (lv_at hl 1 rfl) ?_
    refine lv_bipush (pc := 5) (v := nI 11) hx hb dX4_wear_5 (by decide) ?_
    refine lv_icmp_lt (pc := 7) (tgt := 14) hx hb dX4_wear_7 (by decide) (fun c2 => ?_) (fun c2 => ?_)
    · skip
      have hin : inB 11 x = true := decide_eq_true ⟨c1, Int32.not_le.mpr c2⟩
      obtain ⟨n, hn, en⟩ := inB_of (n := 11) (by decide) hin
      rw [en] at hl
      have hcl : x.toNatClampNeg = n := by rw [en]; exact nI_clamp (by omega)
      refine lv_aload_n (pc := 14) hx hb dX4_wear_14 rfl (lv_at hl 0 rfl) ?_
      refine va_get (pc := 15) (D := (dC, dI)) (ci := 4) (v := .ref g7) (C := RX4) (T := TX4) (N := 26) hx hb hts (by decide +kernel) hown hK hP 0 rfl rfl 19 (by decide) (hts (.fieldLink RX4 33 "ScratchSwapModel" "wear" "[I") (by decide +kernel)) (fun _ h9 => h9) rfl dX4_wear_15 ?_
      refine lv_iload_n (pc := 18) hx hb dX4_wear_18 rfl (lv_at hl 1 rfl) ?_
      refine x_iald (pc := 19) (k := n) (f := k.2.1) hx hb hK hP 7 0 rfl rfl (by omega) (by decide) dX4_wear_19 ?_
      exact W.iret (v := k.2.1 n) hx hb hr (fun t ht hW => ⟨⟨k.2.1 n, (), rfl, by unfold weaV; rw [if_pos hin, hcl], trivial⟩, hS.F ht⟩) hS.2.2 dX4_wear_20
    · skip
      refine lv_iconst (pc := 10) (v := (-1)) hx hb dX4_wear_10 (by decide) ?_
      refine lv_goto (pc := 11) (tgt := 20) hx hb dX4_wear_11 (by decide) ?_
      exact W.iret (v := (-1)) hx hb hr (fun t ht hW => ⟨⟨(-1), (), rfl, by unfold weaV; rw [if_neg (show ¬ inB 11 x = true from fun z => by first | exact (of_decide_eq_true z).1 c1 | exact (of_decide_eq_true z).2 (Int32.not_lt.mp c2))], trivial⟩, hS.F ht⟩) hS.2.2 dX4_wear_20
set_option maxHeartbeats 4000000 in
set_option maxRecDepth 100000 in
theorem kX4_taped (l : Launch) (dC : Nat → ClassId) (dI : Nat → Nat → Nat) (tt : Nat → Nat) (cI cB : ClassId) (sz : Nat) (g0 g1 g2 g3 g4 g5 g6 g7 g8 g9 g10 g11 g12 g13 : Nat) (k : K0) (dr : Nat → Int8) (er pl : Nat → Int32) (un : Nat → Int8) (li : Nat) (ov : Int32) (tp : Nat → Int8) (tn : Nat) (rn : Bool) (vs bo ex wr : Int32) (ei dg : Nat → Int8) (wo : Nat → Int32) (pa : Nat → Int8) (ch fi : Nat → Int32)  : MetR l yX4_taped wsX4_taped { frames := 0, cells := 0, slots := 0, locals := 0 } (dC, dI) [(cI, .int), (cB, .byte)] tt [] sz (gW g0 g1 g2 g3 g4 g5 g6 g7 g8 g9 g10 g11 g12 g13 cI cB k dr er pl un li ov tp tn rn vs bo ex wr ei dg wo pa ch fi) [.ref g0] (fun r => r = nI tn) := by
  refine Met.ofW (cc := cX4_taped) (maxL := 1) (ret := (some .int)) (by decide) rfl ?_
  intro p e s m args below meth c s₁ B hml hv
  obtain ⟨rfl, hsz, hP, hK, hD0, hE⟩ := hv
  have hx := B.exec
  have hb := B.bytes
  have hr := B.returns
  have hts := atoms_spec (ws := wsX4_taped) B.pre
  have hown : s.vm.findClass RX4 = some m.cls := findClass_of_methodNamed B.named
  have hlocks := B.notSynchronized
  subst hsz
  have hD := hD0
  generalize hAe : va_A [] s.heap.size = A at hE ⊢
  have hA : ∀ q : Nat, s.heap.size ≤ q → A q := fun q h => by rw [← hAe]; exact Or.inr h
  have hS : va_S A s.heap s.heap [] := va_S.rf
  have hl := lv_entry ([.ref g0]) (n := 1) (Nat.le_of_ble_eq_true rfl)
  rw [lg_entry_eq]
  generalize (lg_sl ([.ref g0]) ++ List.replicate (1 - (lg_sl ([.ref g0])).length) Slot.unset).toArray = ls at hl ⊢
  have hl : lv_has ls 1 [(0, .ref g0)] := hl
  have hP : va_P (dC, dI) vwCl (gW g0 g1 g2 g3 g4 g5 g6 g7 g8 g9 g10 g11 g12 g13 cI cB k dr er pl un li ov tp tn rn vs bo ex wr ei dg wo pa ch fi) s.heap := hP
  refine lv_aload_n (pc := 0) hx hb dX4_taped_0 rfl (lv_at hl 0 rfl) ?_
  refine va_get (pc := 1) (D := (dC, dI)) (ci := 4) (v := .int (nI tn)) (C := RX4) (T := TX4) (N := 26) hx hb hts (by decide +kernel) hown hK hP 0 rfl rfl 8 (by decide) (hts (.fieldLink RX4 133 "ScratchSwapModel" "taped" "I") (by decide +kernel)) (fun _ h9 => h9) rfl dX4_taped_1 ?_
  exact W.iret (v := nI tn) hx hb hr (fun t ht hW => ⟨⟨nI tn, (), rfl, rfl, trivial⟩, hS.F ht⟩) hS.2.2 dX4_taped_4
def rvV (rn : Bool) (vs : Int32) : Int32 := if rn = true then vs else nI 0
set_option maxHeartbeats 4000000 in
set_option maxRecDepth 100000 in
theorem kX4_look (l : Launch) (dC : Nat → ClassId) (dI : Nat → Nat → Nat) (tt : Nat → Nat) (cI cB : ClassId) (sz : Nat) (g0 g1 g2 g3 g4 g5 g6 g7 g8 g9 g10 g11 g12 g13 : Nat) (k : K0) (dr : Nat → Int8) (er pl : Nat → Int32) (un : Nat → Int8) (li : Nat) (ov : Int32) (tp : Nat → Int8) (tn : Nat) (rn : Bool) (vs bo ex wr : Int32) (ei dg : Nat → Int8) (wo : Nat → Int32) (pa : Nat → Int8) (ch fi : Nat → Int32) (x : Int32)  : MetR l yX4_look wsX4_look { frames := 0, cells := 0, slots := 0, locals := 0 } (dC, dI) [(cI, .int), (cB, .byte)] tt [] sz (gW g0 g1 g2 g3 g4 g5 g6 g7 g8 g9 g10 g11 g12 g13 cI cB k dr er pl un li ov tp tn rn vs bo ex wr ei dg wo pa ch fi) [.ref g0, .int x] (fun r => r = lookV k rn (rvV rn vs) bo ex wr x) := by
  refine Met.ofW (cc := cX4_look) (maxL := 2) (ret := (some .int)) (by decide) rfl ?_
  intro p e s m args below meth c s₁ B hml hv
  obtain ⟨rfl, hsz, hP, hK, hD0, hE⟩ := hv
  have hx := B.exec
  have hb := B.bytes
  have hr := B.returns
  have hts := atoms_spec (ws := wsX4_look) B.pre
  have hown : s.vm.findClass RX4 = some m.cls := findClass_of_methodNamed B.named
  have hlocks := B.notSynchronized
  subst hsz
  have hD := hD0
  generalize hAe : va_A [] s.heap.size = A at hE ⊢
  have hA : ∀ q : Nat, s.heap.size ≤ q → A q := fun q h => by rw [← hAe]; exact Or.inr h
  have hS : va_S A s.heap s.heap [] := va_S.rf
  have hl := lv_entry ([.ref g0, .int x]) (n := 2) (Nat.le_of_ble_eq_true rfl)
  rw [lg_entry_eq]
  generalize (lg_sl ([.ref g0, .int x]) ++ List.replicate (2 - (lg_sl ([.ref g0, .int x])).length) Slot.unset).toArray = ls at hl ⊢
  have hl : lv_has ls 2 [(0, .ref g0), (1, .int x)] := hl
  have hP : va_P (dC, dI) vwCl (gW g0 g1 g2 g3 g4 g5 g6 g7 g8 g9 g10 g11 g12 g13 cI cB k dr er pl un li ov tp tn rn vs bo ex wr ei dg wo pa ch fi) s.heap := hP
  refine lv_iload_n (pc := 0) hx hb dX4_look_0 rfl (lv_at hl 1 rfl) ?_
  by_cases s0 : x = nI 0
  · skip
    refine lv_tableIn (pc := 1) (tgt := 52) (off := 51) hx hb dX4_look_1 (by rw [s0]; decide) (by rw [s0]; decide) (by rw [s0]; decide) (by decide) ?_
    refine lv_aload_n (pc := 52) hx hb dX4_look_52 rfl (lv_at hl 0 rfl) ?_
    refine va_get (pc := 53) (D := (dC, dI)) (ci := 4) (v := .int (bI k.2.2.1)) (C := RX4) (T := TX4) (N := 26) hx hb hts (by decide +kernel) hown hK hP 0 rfl rfl 9 (by decide) (hts (.fieldLink RX4 88 "ScratchSwapModel" "isDown" "Z") (by decide +kernel)) (fun _ h9 => h9) rfl dX4_look_53 ?_
    refine lv_if_eq (pc := 56) (tgt := 63) hx hb dX4_look_56 (by decide) (fun c5 => ?_) (fun c5 => ?_)
    · skip
      have c5 : k.2.2.1 = false := bI_0.mp c5
      refine lv_iconst (pc := 63) (v := nI 0) hx hb dX4_look_63 (by decide) ?_
      exact W.iret (v := nI 0) hx hb hr (fun t ht hW => ⟨⟨nI 0, (), rfl, by unfold lookV; first | (rw [if_pos s0, c5]; done) | (rw [if_pos s0, c5]; rfl), trivial⟩, hS.F ht⟩) hS.2.2 dX4_look_64
    · skip
      have c5 : k.2.2.1 = true := bI_1.mp c5
      refine lv_iconst (pc := 59) (v := nI 1) hx hb dX4_look_59 (by decide) ?_
      refine lv_goto (pc := 60) (tgt := 64) hx hb dX4_look_60 (by decide) ?_
      exact W.iret (v := nI 1) hx hb hr (fun t ht hW => ⟨⟨nI 1, (), rfl, by unfold lookV; first | (rw [if_pos s0, c5]; done) | (rw [if_pos s0, c5]; rfl), trivial⟩, hS.F ht⟩) hS.2.2 dX4_look_64
  · skip
    by_cases s1 : x = nI 1
    · skip
      refine lv_tableIn (pc := 1) (tgt := 65) (off := 64) hx hb dX4_look_1 (by rw [s1]; decide) (by rw [s1]; decide) (by rw [s1]; decide) (by decide) ?_
      refine lv_aload_n (pc := 65) hx hb dX4_look_65 rfl (lv_at hl 0 rfl) ?_
      refine va_get (pc := 66) (D := (dC, dI)) (ci := 4) (v := .int (bI rn)) (C := RX4) (T := TX4) (N := 26) hx hb hts (by decide +kernel) hown hK hP 0 rfl rfl 10 (by decide) (hts (.fieldLink RX4 92 "ScratchSwapModel" "runs" "Z") (by decide +kernel)) (fun _ h9 => h9) rfl dX4_look_66 ?_
      refine lv_if_eq (pc := 69) (tgt := 76) hx hb dX4_look_69 (by decide) (fun c5 => ?_) (fun c5 => ?_)
      · skip
        have c5 : rn = false := bI_0.mp c5
        refine lv_iconst (pc := 76) (v := nI 0) hx hb dX4_look_76 (by decide) ?_
        exact W.iret (v := nI 0) hx hb hr (fun t ht hW => ⟨⟨nI 0, (), rfl, by unfold lookV; first | (rw [if_neg s0, if_pos s1, c5]; done) | (rw [if_neg s0, if_pos s1, c5]; rfl), trivial⟩, hS.F ht⟩) hS.2.2 dX4_look_77
      · skip
        have c5 : rn = true := bI_1.mp c5
        refine lv_iconst (pc := 72) (v := nI 1) hx hb dX4_look_72 (by decide) ?_
        refine lv_goto (pc := 73) (tgt := 77) hx hb dX4_look_73 (by decide) ?_
        exact W.iret (v := nI 1) hx hb hr (fun t ht hW => ⟨⟨nI 1, (), rfl, by unfold lookV; first | (rw [if_neg s0, if_pos s1, c5]; done) | (rw [if_neg s0, if_pos s1, c5]; rfl), trivial⟩, hS.F ht⟩) hS.2.2 dX4_look_77
    · skip
      by_cases s2 : x = nI 2
      · skip
        refine lv_tableIn (pc := 1) (tgt := 78) (off := 77) hx hb dX4_look_1 (by rw [s2]; decide) (by rw [s2]; decide) (by rw [s2]; decide) (by decide) ?_
        refine lv_aload_n (pc := 78) hx hb dX4_look_78 rfl (lv_at hl 0 rfl) ?_
        refine va_get (pc := 79) (D := (dC, dI)) (ci := 4) (v := .int (bI rn)) (C := RX4) (T := TX4) (N := 26) hx hb hts (by decide +kernel) hown hK hP 0 rfl rfl 10 (by decide) (hts (.fieldLink RX4 92 "ScratchSwapModel" "runs" "Z") (by decide +kernel)) (fun _ h9 => h9) rfl dX4_look_79 ?_
        refine lv_if_eq (pc := 82) (tgt := 92) hx hb dX4_look_82 (by decide) (fun c5 => ?_) (fun c5 => ?_)
        · skip
          have c5 : rn = false := bI_0.mp c5
          refine lv_iconst (pc := 92) (v := nI 0) hx hb dX4_look_92 (by decide) ?_
          exact W.iret (v := nI 0) hx hb hr (fun t ht hW => ⟨⟨nI 0, (), rfl, by unfold lookV; first | (rw [if_neg s0, if_neg s1, if_pos s2, rvV, c5]; done) | (rw [if_neg s0, if_neg s1, if_pos s2, rvV, c5]; rfl), trivial⟩, hS.F ht⟩) hS.2.2 dX4_look_93
        · skip
          have c5 : rn = true := bI_1.mp c5
          refine lv_aload_n (pc := 85) hx hb dX4_look_85 rfl (lv_at hl 0 rfl) ?_
          refine va_get (pc := 86) (D := (dC, dI)) (ci := 4) (v := .int vs) (C := RX4) (T := TX4) (N := 26) hx hb hts (by decide +kernel) hown hK hP 0 rfl rfl 11 (by decide) (hts (.fieldLink RX4 170 "ScratchSwapModel" "version" "I") (by decide +kernel)) (fun _ h9 => h9) rfl dX4_look_86 ?_
          refine lv_goto (pc := 89) (tgt := 93) hx hb dX4_look_89 (by decide) ?_
          exact W.iret (v := vs) hx hb hr (fun t ht hW => ⟨⟨vs, (), rfl, by unfold lookV; first | (rw [if_neg s0, if_neg s1, if_pos s2, rvV, c5]; done) | (rw [if_neg s0, if_neg s1, if_pos s2, rvV, c5]; rfl), trivial⟩, hS.F ht⟩) hS.2.2 dX4_look_93
      · skip
        by_cases s3 : x = nI 3
        · skip
          refine lv_tableIn (pc := 1) (tgt := 94) (off := 93) hx hb dX4_look_1 (by rw [s3]; decide) (by rw [s3]; decide) (by rw [s3]; decide) (by decide) ?_
          refine lv_aload_n (pc := 94) hx hb dX4_look_94 rfl (lv_at hl 0 rfl) ?_
          refine va_get (pc := 95) (D := (dC, dI)) (ci := 4) (v := .int k.2.2.2.2.2.2.1) (C := RX4) (T := TX4) (N := 26) hx hb hts (by decide +kernel) hown hK hP 0 rfl rfl 12 (by decide) (hts (.fieldLink RX4 79 "ScratchSwapModel" "acts" "I") (by decide +kernel)) (fun _ h9 => h9) rfl dX4_look_95 ?_
          exact W.iret (v := k.2.2.2.2.2.2.1) hx hb hr (fun t ht hW => ⟨⟨k.2.2.2.2.2.2.1, (), rfl, by unfold lookV; first | (rw [if_neg s0, if_neg s1, if_neg s2, if_pos s3]; done) | (rw [if_neg s0, if_neg s1, if_neg s2, if_pos s3]; rfl), trivial⟩, hS.F ht⟩) hS.2.2 dX4_look_98
        · skip
          by_cases s4 : x = nI 4
          · skip
            refine lv_tableIn (pc := 1) (tgt := 99) (off := 98) hx hb dX4_look_1 (by rw [s4]; decide) (by rw [s4]; decide) (by rw [s4]; decide) (by decide) ?_
            refine lv_aload_n (pc := 99) hx hb dX4_look_99 rfl (lv_at hl 0 rfl) ?_
            refine va_get (pc := 100) (D := (dC, dI)) (ci := 4) (v := .int (bI k.2.2.1)) (C := RX4) (T := TX4) (N := 26) hx hb hts (by decide +kernel) hown hK hP 0 rfl rfl 9 (by decide) (hts (.fieldLink RX4 88 "ScratchSwapModel" "isDown" "Z") (by decide +kernel)) (fun _ h9 => h9) rfl dX4_look_100 ?_
            refine lv_if_eq (pc := 103) (tgt := 110) hx hb dX4_look_103 (by decide) (fun c5 => ?_) (fun c5 => ?_)
            · skip
              have c5 : k.2.2.1 = false := bI_0.mp c5
              refine lv_aload_n (pc := 110) hx hb dX4_look_110 rfl (lv_at hl 0 rfl) ?_
              refine va_get (pc := 111) (D := (dC, dI)) (ci := 4) (v := .int (fz k.2.2.2.1 k.2.2.2.2.1)) (C := RX4) (T := TX4) (N := 26) hx hb hts (by decide +kernel) hown hK hP 0 rfl rfl 13 (by decide) (hts (.fieldLink RX4 29 "ScratchSwapModel" "fuse" "I") (by decide +kernel)) (fun _ h9 => h9) rfl dX4_look_111 ?_
              exact W.iret (v := fz k.2.2.2.1 k.2.2.2.2.1) hx hb hr (fun t ht hW => ⟨⟨fz k.2.2.2.1 k.2.2.2.2.1, (), rfl, by unfold lookV; first | (rw [if_neg s0, if_neg s1, if_neg s2, if_neg s3, if_pos s4, stillV, c5]; done) | (rw [if_neg s0, if_neg s1, if_neg s2, if_neg s3, if_pos s4, stillV, c5]; rfl), trivial⟩, hS.F ht⟩) hS.2.2 dX4_look_114
            · skip
              have c5 : k.2.2.1 = true := bI_1.mp c5
              refine lv_iconst (pc := 106) (v := nI 0) hx hb dX4_look_106 (by decide) ?_
              refine lv_goto (pc := 107) (tgt := 114) hx hb dX4_look_107 (by decide) ?_
              exact W.iret (v := nI 0) hx hb hr (fun t ht hW => ⟨⟨nI 0, (), rfl, by unfold lookV; first | (rw [if_neg s0, if_neg s1, if_neg s2, if_neg s3, if_pos s4, stillV, c5]; done) | (rw [if_neg s0, if_neg s1, if_neg s2, if_neg s3, if_pos s4, stillV, c5]; rfl), trivial⟩, hS.F ht⟩) hS.2.2 dX4_look_114
          · skip
            by_cases s5 : x = nI 5
            · skip
              refine lv_tableIn (pc := 1) (tgt := 115) (off := 114) hx hb dX4_look_1 (by rw [s5]; decide) (by rw [s5]; decide) (by rw [s5]; decide) (by decide) ?_
              refine lv_aload_n (pc := 115) hx hb dX4_look_115 rfl (lv_at hl 0 rfl) ?_
              refine va_get (pc := 116) (D := (dC, dI)) (ci := 4) (v := .int bo) (C := RX4) (T := TX4) (N := 26) hx hb hts (by decide +kernel) hown hK hP 0 rfl rfl 15 (by decide) (hts (.fieldLink RX4 167 "ScratchSwapModel" "boots" "I") (by decide +kernel)) (fun _ h9 => h9) rfl dX4_look_116 ?_
              exact W.iret (v := bo) hx hb hr (fun t ht hW => ⟨⟨bo, (), rfl, by unfold lookV; first | (rw [if_neg s0, if_neg s1, if_neg s2, if_neg s3, if_neg s4, if_pos s5]; done) | (rw [if_neg s0, if_neg s1, if_neg s2, if_neg s3, if_neg s4, if_pos s5]; rfl), trivial⟩, hS.F ht⟩) hS.2.2 dX4_look_119
            · skip
              by_cases s6 : x = nI 6
              · skip
                refine lv_tableIn (pc := 1) (tgt := 120) (off := 119) hx hb dX4_look_1 (by rw [s6]; decide) (by rw [s6]; decide) (by rw [s6]; decide) (by decide) ?_
                refine lv_aload_n (pc := 120) hx hb dX4_look_120 rfl (lv_at hl 0 rfl) ?_
                refine va_get (pc := 121) (D := (dC, dI)) (ci := 4) (v := .int ex) (C := RX4) (T := TX4) (N := 26) hx hb hts (by decide +kernel) hown hK hP 0 rfl rfl 16 (by decide) (hts (.fieldLink RX4 82 "ScratchSwapModel" "exchanges" "I") (by decide +kernel)) (fun _ h9 => h9) rfl dX4_look_121 ?_
                exact W.iret (v := ex) hx hb hr (fun t ht hW => ⟨⟨ex, (), rfl, by unfold lookV; first | (rw [if_neg s0, if_neg s1, if_neg s2, if_neg s3, if_neg s4, if_neg s5, if_pos s6]; done) | (rw [if_neg s0, if_neg s1, if_neg s2, if_neg s3, if_neg s4, if_neg s5, if_pos s6]; rfl), trivial⟩, hS.F ht⟩) hS.2.2 dX4_look_124
              · skip
                by_cases s7 : x = nI 7
                · skip
                  refine lv_tableIn (pc := 1) (tgt := 125) (off := 124) hx hb dX4_look_1 (by rw [s7]; decide) (by rw [s7]; decide) (by rw [s7]; decide) (by decide) ?_
                  refine lv_aload_n (pc := 125) hx hb dX4_look_125 rfl (lv_at hl 0 rfl) ?_
                  refine va_get (pc := 126) (D := (dC, dI)) (ci := 4) (v := .int wr) (C := RX4) (T := TX4) (N := 26) hx hb hts (by decide +kernel) hown hK hP 0 rfl rfl 17 (by decide) (hts (.fieldLink RX4 164 "ScratchSwapModel" "wrongs" "I") (by decide +kernel)) (fun _ h9 => h9) rfl dX4_look_126 ?_
                  exact W.iret (v := wr) hx hb hr (fun t ht hW => ⟨⟨wr, (), rfl, by unfold lookV; first | (rw [if_neg s0, if_neg s1, if_neg s2, if_neg s3, if_neg s4, if_neg s5, if_neg s6, if_pos s7]; done) | (rw [if_neg s0, if_neg s1, if_neg s2, if_neg s3, if_neg s4, if_neg s5, if_neg s6, if_pos s7]; rfl), trivial⟩, hS.F ht⟩) hS.2.2 dX4_look_129
                · skip
                  by_cases s8 : x = nI 8
                  · skip
                    refine lv_tableIn (pc := 1) (tgt := 130) (off := 129) hx hb dX4_look_1 (by rw [s8]; decide) (by rw [s8]; decide) (by rw [s8]; decide) (by decide) ?_
                    refine lv_aload_n (pc := 130) hx hb dX4_look_130 rfl (lv_at hl 0 rfl) ?_
                    refine va_get (pc := 131) (D := (dC, dI)) (ci := 4) (v := .int k.2.2.2.2.2.2.2) (C := RX4) (T := TX4) (N := 26) hx hb hts (by decide +kernel) hown hK hP 0 rfl rfl 18 (by decide) (hts (.fieldLink RX4 95 "ScratchSwapModel" "gone" "I") (by decide +kernel)) (fun _ h9 => h9) rfl dX4_look_131 ?_
                    exact W.iret (v := k.2.2.2.2.2.2.2) hx hb hr (fun t ht hW => ⟨⟨k.2.2.2.2.2.2.2, (), rfl, by unfold lookV; first | (rw [if_neg s0, if_neg s1, if_neg s2, if_neg s3, if_neg s4, if_neg s5, if_neg s6, if_neg s7, if_pos s8]; done) | (rw [if_neg s0, if_neg s1, if_neg s2, if_neg s3, if_neg s4, if_neg s5, if_neg s6, if_neg s7, if_pos s8]; rfl), trivial⟩, hS.F ht⟩) hS.2.2 dX4_look_134
                  · skip
                    have q0 := lv_neT s0 (a := 0) (by decide)
                    have q1 := lv_neT s1 (a := 1) (by decide)
                    have q2 := lv_neT s2 (a := 2) (by decide)
                    have q3 := lv_neT s3 (a := 3) (by decide)
                    have q4 := lv_neT s4 (a := 4) (by decide)
                    have q5 := lv_neT s5 (a := 5) (by decide)
                    have q6 := lv_neT s6 (a := 6) (by decide)
                    have q7 := lv_neT s7 (a := 7) (by decide)
                    have q8 := lv_neT s8 (a := 8) (by decide)
                    refine lv_tableOut (pc := 1) (tgt := 135) hx hb dX4_look_1 (by omega) (by decide) ?_
                    refine lv_iconst (pc := 135) (v := (-1)) hx hb dX4_look_135 (by decide) ?_
                    exact W.iret (v := (-1)) hx hb hr (fun t ht hW => ⟨⟨(-1), (), rfl, by unfold lookV; first | (rw [if_neg s0, if_neg s1, if_neg s2, if_neg s3, if_neg s4, if_neg s5, if_neg s6, if_neg s7, if_neg s8]; done) | (rw [if_neg s0, if_neg s1, if_neg s2, if_neg s3, if_neg s4, if_neg s5, if_neg s6, if_neg s7, if_neg s8]; rfl), trivial⟩, hS.F ht⟩) hS.2.2 dX4_look_136
