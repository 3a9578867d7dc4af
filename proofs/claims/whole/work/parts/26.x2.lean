set_option maxHeartbeats 4000000 in
set_option maxRecDepth 100000 in
theorem kX3_isRight (l : Launch) (dC : Nat → ClassId) (dI : Nat → Nat → Nat) (tt : Nat → Nat) (cI cB : ClassId) (sz : Nat) (a0 a1 a2 a3 a4 a5 a6 a7 a8 a9 : Nat) (k : K0) (ut : Nat → Int32) (tb : Nat → Int8) (tn : Nat) (sc hs : Nat → Int32) (rn : Bool) (rv wb ee we : Int32) (w : Nat) (hw2 : w < 2) : MetI (S := ((Nat → Int32) × (Nat → Int32))) l yX3_isRight wsX3_isRight { frames := 3, cells := 0, slots := 0, locals := 80 } (dC, dI) [(cI, .int), (cB, .byte)] tt [] sz (xW a0 a1 a2 a3 a4 a5 a6 a7 a8 a9 cI k ut tb tn sc hs rn rv wb ee we) [.ref a0, .int (nI w)] (fun u : ((Nat → Int32) × (Nat → Int32)) => xW a0 a1 a2 a3 a4 a5 a6 a7 a8 a9 cI k ut tb tn u.1 u.2 rn rv wb ee we) (fun r u => r = bI (rightB k.1 (w * 5 * 256))) := by
  refine Met.ofW (cc := cX3_isRight) (maxL := 6) (ret := (some .boolean)) (by decide) rfl ?_
  intro p e s m args below meth c s₁ B hml hv
  obtain ⟨rfl, hsz, hP, hK, hD0, hE⟩ := hv
  have hx := B.exec
  have hb := B.bytes
  have hr := B.returns
  have hts := atoms_spec (ws := wsX3_isRight) B.pre
  have hown : s.vm.findClass RX3 = some m.cls := findClass_of_methodNamed B.named
  have hlocks := B.notSynchronized
  subst hsz
  have hD := hD0.self (sz := s.heap.size)
  generalize hAe : va_A (xW a0 a1 a2 a3 a4 a5 a6 a7 a8 a9 cI k ut tb tn sc hs rn rv wb ee we) s.heap.size = A at hD hE ⊢
  have hA : ∀ q : Nat, s.heap.size ≤ q → A q := fun q h => by rw [← hAe]; exact Or.inr h
  have hS : va_S A s.heap s.heap [] := va_S.rf
  have hl := lv_entry ([.ref a0, .int (nI w)]) (n := 6) (Nat.le_of_ble_eq_true rfl)
  rw [lg_entry_eq]
  generalize (lg_sl ([.ref a0, .int (nI w)]) ++ List.replicate (6 - (lg_sl ([.ref a0, .int (nI w)])).length) Slot.unset).toArray = ls at hl ⊢
  have hl : lv_has ls 6 [(0, .ref a0), (1, .int (nI w))] := hl
  have hP : va_P (dC, dI) vwCl (xW a0 a1 a2 a3 a4 a5 a6 a7 a8 a9 cI k ut tb tn sc hs rn rv wb ee we) s.heap := hP
  refine lv_aload_n (pc := 0) hx hb dX3_isRight_0 rfl (lv_at hl 0 rfl) ?_
  refine lv_iload_n (pc := 1) hx hb dX3_isRight_1 rfl (lv_at hl 1 rfl) ?_
  refine x_roi (pc := 2) (va_runV (As := [.int (nI w)]) (rest := []) ⟨hx, hb, hml, hown, hts⟩ (kX3_lengthIn l dC dI tt cI cB _ a0 a1 a2 a3 a4 a5 a6 a7 a8 a9 k ut tb tn sc hs rn rv wb ee we w (by omega)) (cwV 1 hts gX3_isRight_X3_lengthIn rfl rfl rfl (by decide +kernel) ⟨Nat.le_of_ble_eq_true rfl, Nat.le_of_ble_eq_true rfl⟩) (x_preVa hS hE hK hP hD (x_ro hS hA) xR0 3 0 rfl rfl) rfl rfl hl.1 rfl (lv_room (Nat.le_of_ble_eq_true rfl)) dX3_isRight_2 ⟨Nat.le_of_ble_eq_true rfl, Nat.le_of_ble_eq_true rfl⟩) hS hA hP (fun r_1 H locs hr_1 hP hS => ?_)
  subst hr_1
  refine lv_istore_n (pc := 5) (lv' := [(2, .int (mI k.1 (w * 5 * 256))), (0, .ref a0), (1, .int (nI w))]) hx hb dX3_isRight_5 rfl hl (by decide) rfl (fun ls hl => ?_)
  refine lv_iload_n (pc := 6) hx hb dX3_isRight_6 rfl (lv_at hl 0 rfl) ?_
  refine lv_if_lt (pc := 7) (tgt := 17) hx hb dX3_isRight_7 (by decide) (fun c1 => ?_) (fun c1 => ?_)
  · skip
    refine lv_iconst (pc := 17) (v := nI 0) hx hb dX3_isRight_17 (by decide) ?_
    exact W.zret (v := nI 0) hx hb hr rfl (fun t ht hW => ⟨⟨nI 0, (sc, hs), rfl, by rw [rightB_f (by first | exact Or.inl c1 | exact Or.inr (Int32.not_le.mp c2))]; rfl, by show va_P _ _ _ t.heap; rw [ht]; exact hP, va_K.moved hW.alike hK, hD⟩, hS.F ht⟩) hS.2.2 dX3_isRight_18
  · skip
    refine lv_iload_n (pc := 10) hx hb dX3_isRight_10 rfl (lv_at hl 0 rfl) ?_
    refine lv_sipush (pc := 11) (v := nI 984) hx hb dX3_isRight_11 (by decide) ?_
    refine lv_icmp_le (pc := 14) (tgt := 19) hx hb dX3_isRight_14 (by decide) (fun c2 => ?_) (fun c2 => ?_)
    · skip
      obtain ⟨n, hn, en⟩ := nI_of2 (n := 984) (nI_toInt (by decide)) c1 c2
      rw [en] at hl
      refine lv_iload_n (pc := 19) hx hb dX3_isRight_19 rfl (lv_at hl 2 rfl) ?_
      refine x_roi (pc := 20) (va_runS (As := [.int (nI w)]) (rest := []) ⟨hx, hb, hml, hown, hts⟩ (kX3_firstByteOf l dC dI tt cI cB _ w (by omega)) (va_cwS 1 hts gX3_isRight_X3_firstByteOf rfl rfl rfl (by decide +kernel) ⟨Nat.le_of_ble_eq_true rfl, Nat.le_of_ble_eq_true rfl⟩) (x_preS hS hE hK hP hD [] rfl (by decide) (x_ro hS hA) xR0) rfl rfl hl.1 rfl (lv_room (Nat.le_of_ble_eq_true rfl)) dX3_isRight_20 ⟨Nat.le_of_ble_eq_true rfl, Nat.le_of_ble_eq_true rfl⟩) hS hA hP (fun r_2 H locs hr_2 hP hS => ?_)
      subst hr_2
      refine lv_istore_n (pc := 23) (lv' := [(3, .int (nI (w * 5 * 256))), (2, .int (nI n)), (0, .ref a0), (1, .int (nI w))]) hx hb dX3_isRight_23 rfl hl (by decide) rfl (fun ls hl => ?_)
      refine lv_bipush (pc := 24) (v := nI 8) hx hb dX3_isRight_24 (by decide) ?_
      refine lv_iload_n (pc := 26) hx hb dX3_isRight_26 rfl (lv_at hl 1 rfl) ?_
      refine lv_iadd (pc := 27) hx hb dX3_isRight_27 ?_
      refine lv_cv (nI_add 8 n) ?_
      refine lv_istore (pc := 28) (lv' := [(4, .int (nI (8 + n))), (3, .int (nI (w * 5 * 256))), (2, .int (nI n)), (0, .ref a0), (1, .int (nI w))]) hx hb dX3_isRight_28 hl (by decide) rfl (fun ls hl => ?_)
      refine lv_aload_n (pc := 30) hx hb dX3_isRight_30 rfl (lv_at hl 3 rfl) ?_
      refine va_get (pc := 31) (D := (dC, dI)) (ci := 3) (v := .ref a7) (C := RX3) (T := TX3) (N := 8) hx hb hts (by decide +kernel) hown hK hP 0 rfl rfl 2 (by decide) (hts (.fieldLink RX3 26 "ScratchSwap" "sha" "LScratchSwap$Sha256;") (by decide +kernel)) (fun _ h9 => h9) rfl dX3_isRight_31 ?_
      refine lv_aload_n (pc := 34) hx hb dX3_isRight_34 rfl (lv_at hl 3 rfl) ?_
      refine va_get (pc := 35) (D := (dC, dI)) (ci := 3) (v := .ref a1) (C := RX3) (T := TX3) (N := 8) hx hb hts (by decide +kernel) hown hK hP 0 rfl rfl 0 (by decide) (hts (.fieldLink RX3 12 "ScratchSwap" "memory" "LScratchSwap$Memory;") (by decide +kernel)) (fun _ h9 => h9) rfl dX3_isRight_35 ?_
      refine va_getN (pc := 38) (D := (dC, dI)) (ci := 0) (v := .ref a2) (C := RX0) (T := TX0) (N := 9) hx hb hts (by decide +kernel) hown hK hP 1 rfl rfl 0 (by decide) (hE.f 0 (q := (RX3, 172, "ScratchSwap$Memory", "bytes", "[I", "ScratchSwap")) rfl) (fun _ h9 => h9) rfl dX3_isRight_38 ?_
      refine lv_iload_n (pc := 41) hx hb dX3_isRight_41 rfl (lv_at hl 1 rfl) ?_
      refine lv_iload (pc := 42) hx hb dX3_isRight_42 (lv_at hl 0 rfl) ?_
      refine x_wrv (pc := 44) (va_runVN (As := [.ref a2, .int (nI (w * 5 * 256)), .int (nI (8 + n))]) (rest := []) ⟨hx, hb, hml, hown, hts⟩ (kX1_digest l dC dI tt cI cB _ a7 a8 a9 sc hs a2 2816 k.1 (w * 5 * 256) (8 + n) (by omega) (by omega) (by omega)) (⟨va_cnB 3 hts gX3_isRight_X1_digest_n173 rfl rfl rfl (hE.m 14 (q := (RX3, 173, yX1_digest, "ScratchSwap")) rfl) (hts (.initialized RX1) (by decide +kernel)) (by decide +kernel) ⟨Nat.le_of_ble_eq_true rfl, Nat.le_of_ble_eq_true rfl⟩, hts (.instanceMethod yX1_digest) (by decide +kernel), hts (.selects RX1 yX1_digest yX1_digest) (by decide +kernel)⟩) (x_preV hS hE hK hP hD [7, 8, 9] rfl (by decide) (va_free hD hS hA [7, 8, 9] rfl) (xRc hK hP hD 2 0 rfl rfl [7, 8, 9] rfl (by decide)) 1 7 rfl rfl) rfl rfl hl.1 rfl (lv_room (Nat.le_of_ble_eq_true rfl)) dX3_isRight_44 ⟨Nat.le_of_ble_eq_true rfl, Nat.le_of_ble_eq_true rfl⟩) hS hA hP hD [7, 8, 9] [0, 1, 2, 3, 4, 5, 6] rfl rfl (by decide) (by decide) (fun u_3 H locs hu_3 hP hD hS => ?_)
      obtain ⟨sc_4, hs_5⟩ := u_3
      have hdhs_5 : of8 hs_5 = sha8 k.1 (w * 5 * 256) (8 + n) := hu_3
      have hP := hP.sub (ws' := xW a0 a1 a2 a3 a4 a5 a6 a7 a8 a9 cI k ut tb tn sc_4 hs_5 rn rv wb ee we) [0, 1, 2, 3, 4, 5, 6, 7, 8, 9] rfl
      have hD := hD.sub (ws' := xW a0 a1 a2 a3 a4 a5 a6 a7 a8 a9 cI k ut tb tn sc_4 hs_5 rn rv wb ee we) [0, 1, 2, 3, 4, 5, 6, 7, 8, 9] (by decide) rfl
      refine lv_iconst (pc := 47) (v := nI 0) hx hb dX3_isRight_47 (by decide) ?_
      refine lv_istore (pc := 48) (lv' := [(5, .int (nI 0)), (4, .int (nI (8 + n))), (3, .int (nI (w * 5 * 256))), (2, .int (nI n)), (0, .ref a0), (1, .int (nI w))]) hx hb dX3_isRight_48 hl (by decide) rfl (fun ls hl => ?_)
      refine x_loop (σ := (Nat)) (Wd := fun i : (Nat) => xW a0 a1 a2 a3 a4 a5 a6 a7 a8 a9 cI k ut tb tn sc_4 hs_5 rn rv wb ee we) (Lv := fun i : (Nat) => [(5, .int (nI i)), (4, .int (nI (8 + n))), (3, .int (nI (w * 5 * 256))), (2, .int (nI n)), (0, .ref a0), (1, .int (nI w))]) (I := fun i : (Nat) => (i ≤ 32) ∧ (eqTo (fun z => k.1 (w * 5 * 256 + (8 + n) + z)) (digT (sha8 k.1 (w * 5 * 256) (8 + n))) i = true)) (μ := fun i : (Nat) => 32 - i) ?_ (0) ⟨by omega, eqTo_0 _ _⟩ hP hD hS (lv_sub hl [0, 1, 2, 3, 4, 5] rfl)
      intro i H locs ls hI hP hD hS hl ih50
      obtain ⟨hi, hq⟩ : (i ≤ 32) ∧ (eqTo (fun z => k.1 (w * 5 * 256 + (8 + n) + z)) (digT (sha8 k.1 (w * 5 * 256) (8 + n))) i = true) := hI
      have hP : va_P (dC, dI) vwCl (xW a0 a1 a2 a3 a4 a5 a6 a7 a8 a9 cI k ut tb tn sc_4 hs_5 rn rv wb ee we) _ := hP
      have hD : va_D A (xW a0 a1 a2 a3 a4 a5 a6 a7 a8 a9 cI k ut tb tn sc_4 hs_5 rn rv wb ee we) := hD
      have hl : lv_has ls 6 [(5, .int (nI i)), (4, .int (nI (8 + n))), (3, .int (nI (w * 5 * 256))), (2, .int (nI n)), (0, .ref a0), (1, .int (nI w))] := hl
      refine lv_iload (pc := 50) hx hb dX3_isRight_50 (lv_at hl 0 rfl) ?_
      refine lv_bipush (pc := 52) (v := nI 32) hx hb dX3_isRight_52 (by decide) ?_
      refine lv_icmp_ge (pc := 54) (tgt := 91) hx hb dX3_isRight_54 (by decide) (fun c_6 => ?_) (fun c_6 => ?_)
      · skip
        have c_6 : 32 ≤ i := (nI_leI (a := 32) (b := i) (by omega) (by omega)).mp c_6
        refine lv_iconst (pc := 91) (v := nI 1) hx hb dX3_isRight_91 (by decide) ?_
        have hi9 : i = 32 := by omega
        rw [hi9] at hq
        exact W.zret (v := nI 1) hx hb hr rfl (fun t ht hW => ⟨⟨nI 1, (sc_4, hs_5), rfl, by rw [rightB_n hn en, hq]; rfl, by show va_P _ _ _ t.heap; rw [ht]; exact hP, va_K.moved hW.alike hK, hD⟩, hS.F ht⟩) hS.2.2 dX3_isRight_92
      · skip
        have c_6 : ¬ 32 ≤ i := fun z => c_6 ((nI_leI (a := 32) (b := i) (by omega) (by omega)).mpr z)
        refine lv_aload_n (pc := 57) hx hb dX3_isRight_57 rfl (lv_at hl 4 rfl) ?_
        refine va_get (pc := 58) (D := (dC, dI)) (ci := 3) (v := .ref a1) (C := RX3) (T := TX3) (N := 8) hx hb hts (by decide +kernel) hown hK hP 0 rfl rfl 0 (by decide) (hts (.fieldLink RX3 12 "ScratchSwap" "memory" "LScratchSwap$Memory;") (by decide +kernel)) (fun _ h9 => h9) rfl dX3_isRight_58 ?_
        refine lv_iload_n (pc := 61) hx hb dX3_isRight_61 rfl (lv_at hl 2 rfl) ?_
        refine lv_iload (pc := 62) hx hb dX3_isRight_62 (lv_at hl 1 rfl) ?_
        refine lv_iadd (pc := 64) hx hb dX3_isRight_64 ?_
        refine lv_cv (nI_add (w * 5 * 256) (8 + n)) ?_
        refine lv_iload (pc := 65) hx hb dX3_isRight_65 (lv_at hl 0 rfl) ?_
        refine lv_iadd (pc := 67) hx hb dX3_isRight_67 ?_
        refine lv_cv (nI_add ((w * 5 * 256) + (8 + n)) i) ?_
        refine x_roi (pc := 68) (va_runVN (As := [.int (nI (((w * 5 * 256) + (8 + n)) + i))]) (rest := []) ⟨hx, hb, hml, hown, hts⟩ (kX0_byteAt l dC dI tt cI cB _ a1 a2 a3 a4 k ut (((w * 5 * 256) + (8 + n)) + i) (by omega)) (⟨va_cnB 1 hts gX3_isRight_X0_byteAt_n131 rfl rfl rfl (hE.m 15 (q := (RX3, 131, yX0_byteAt, "ScratchSwap")) rfl) (hts (.initialized RX0) (by decide +kernel)) (by decide +kernel) ⟨Nat.le_of_ble_eq_true rfl, Nat.le_of_ble_eq_true rfl⟩, hts (.instanceMethod yX0_byteAt) (by decide +kernel), hts (.selects RX0 yX0_byteAt yX0_byteAt) (by decide +kernel)⟩) (x_preV hS hE hK hP hD [1, 2, 3, 4] rfl (by decide) (x_ro hS hA) xR0 0 1 rfl rfl) rfl rfl hl.1 rfl (lv_room (Nat.le_of_ble_eq_true rfl)) dX3_isRight_68 ⟨Nat.le_of_ble_eq_true rfl, Nat.le_of_ble_eq_true rfl⟩) hS hA hP (fun r_7 H locs hr_7 hP hS => ?_)
        subst hr_7
        refine lv_aload_n (pc := 71) hx hb dX3_isRight_71 rfl (lv_at hl 4 rfl) ?_
        refine va_get (pc := 72) (D := (dC, dI)) (ci := 3) (v := .ref a7) (C := RX3) (T := TX3) (N := 8) hx hb hts (by decide +kernel) hown hK hP 0 rfl rfl 2 (by decide) (hts (.fieldLink RX3 26 "ScratchSwap" "sha" "LScratchSwap$Sha256;") (by decide +kernel)) (fun _ h9 => h9) rfl dX3_isRight_72 ?_
        refine lv_iload (pc := 75) hx hb dX3_isRight_75 (lv_at hl 0 rfl) ?_
        refine x_roi (pc := 77) (va_runVN (As := [.int (nI i)]) (rest := [.int (ub (k.1 (((w * 5 * 256) + (8 + n)) + i)))]) ⟨hx, hb, hml, hown, hts⟩ (kX1_digestByte l dC dI tt cI cB _ a7 a8 a9 sc_4 hs_5 i (by omega)) (⟨va_cnB 1 hts gX3_isRight_X1_digestByte_n177 rfl rfl rfl (hE.m 16 (q := (RX3, 177, yX1_digestByte, "ScratchSwap")) rfl) (hts (.initialized RX1) (by decide +kernel)) (by decide +kernel) ⟨Nat.le_of_ble_eq_true rfl, Nat.le_of_ble_eq_true rfl⟩, hts (.instanceMethod yX1_digestByte) (by decide +kernel), hts (.selects RX1 yX1_digestByte yX1_digestByte) (by decide +kernel)⟩) (x_preV hS hE hK hP hD [7, 8, 9] rfl (by decide) (x_ro hS hA) xR0 1 7 rfl rfl) rfl rfl hl.1 rfl (lv_room (Nat.le_of_ble_eq_true rfl)) dX3_isRight_77 ⟨Nat.le_of_ble_eq_true rfl, Nat.le_of_ble_eq_true rfl⟩) hS hA hP (fun r_8 H locs hr_8 hP hS => ?_)
        subst hr_8
        refine lv_icmp_eq (pc := 80) (tgt := 85) hx hb dX3_isRight_80 (by decide) (fun c3 => ?_) (fun c3 => ?_)
        · skip
          refine lv_iinc (pc := 85) (v := nI (i + 1)) (lv' := [(5, .int (nI (i + 1))), (4, .int (nI (8 + n))), (3, .int (nI (w * 5 * 256))), (2, .int (nI n)), (0, .ref a0), (1, .int (nI w))]) hx hb dX3_isRight_85 hl (k := 0) rfl (nI_inc i 1) (by decide) rfl (fun ls hl => ?_)
          refine lv_goto (pc := 88) (tgt := 50) hx hb dX3_isRight_88 (by decide) ?_
          exact ih50 (i + 1) H locs ls ⟨by omega, by rw [eqTo_s, hq, Bool.true_and]; exact decide_eq_true (by rw [← hdhs_5]; exact ub_inj.mp c3)⟩ (by first | omega | (simp only []; omega)) hP hD hS (lv_sub hl [0, 1, 2, 3, 4, 5] rfl)
        · skip
          refine lv_iconst (pc := 83) (v := nI 0) hx hb dX3_isRight_83 (by decide) ?_
          exact W.zret (v := nI 0) hx hb hr rfl (fun t ht hW => ⟨⟨nI 0, (sc_4, hs_5), rfl, by rw [rightB_n hn en, eqTo_f (i := i) (by omega) (fun y => c3 (ub_inj.mpr (by rw [hdhs_5]; exact y)))]; rfl, by show va_P _ _ _ t.heap; rw [ht]; exact hP, va_K.moved hW.alike hK, hD⟩, hS.F ht⟩) hS.2.2 dX3_isRight_84
    · skip
      refine lv_iconst (pc := 17) (v := nI 0) hx hb dX3_isRight_17 (by decide) ?_
      exact W.zret (v := nI 0) hx hb hr rfl (fun t ht hW => ⟨⟨nI 0, (sc, hs), rfl, by rw [rightB_f (by first | exact Or.inl c1 | exact Or.inr (Int32.not_le.mp c2))]; rfl, by show va_P _ _ _ t.heap; rw [ht]; exact hP, va_K.moved hW.alike hK, hD⟩, hS.F ht⟩) hS.2.2 dX3_isRight_18
set_option maxHeartbeats 4000000 in
set_option maxRecDepth 100000 in
theorem kX3_findDue (l : Launch) (dC : Nat → ClassId) (dI : Nat → Nat → Nat) (tt : Nat → Nat) (cI cB : ClassId) (sz : Nat) (a0 a1 a2 a3 a4 a5 a6 a7 a8 a9 : Nat) (k : K0) (ut : Nat → Int32) (tb : Nat → Int8) (tn : Nat) (sc hs : Nat → Int32) (rn : Bool) (rv wb ee we : Int32)  : MetI (S := ((Nat → Int32) × (Nat → Int32))) l yX3_findDue wsX3_findDue { frames := 4, cells := 0, slots := 0, locals := 105 } (dC, dI) [(cI, .int), (cB, .byte)] tt [] sz (xW a0 a1 a2 a3 a4 a5 a6 a7 a8 a9 cI k ut tb tn sc hs rn rv wb ee we) [.ref a0] (fun u : ((Nat → Int32) × (Nat → Int32)) => xW a0 a1 a2 a3 a4 a5 a6 a7 a8 a9 cI k ut tb tn u.1 u.2 rn rv wb ee we) (fun r u => r = nI (dueN k.1)) := by
  refine Met.ofW (cc := cX3_findDue) (maxL := 2) (ret := (some .int)) (by decide) rfl ?_
  intro p e s m args below meth c s₁ B hml hv
  obtain ⟨rfl, hsz, hP, hK, hD0, hE⟩ := hv
  have hx := B.exec
  have hb := B.bytes
  have hr := B.returns
  have hts := atoms_spec (ws := wsX3_findDue) B.pre
  have hown : s.vm.findClass RX3 = some m.cls := findClass_of_methodNamed B.named
  have hlocks := B.notSynchronized
  subst hsz
  have hD := hD0.self (sz := s.heap.size)
  generalize hAe : va_A (xW a0 a1 a2 a3 a4 a5 a6 a7 a8 a9 cI k ut tb tn sc hs rn rv wb ee we) s.heap.size = A at hD hE ⊢
  have hA : ∀ q : Nat, s.heap.size ≤ q → A q := fun q h => by rw [← hAe]; exact Or.inr h
  have hS : va_S A s.heap s.heap [] := va_S.rf
  have hl := lv_entry ([.ref a0]) (n := 2) (Nat.le_of_ble_eq_true rfl)
  rw [lg_entry_eq]
  generalize (lg_sl ([.ref a0]) ++ List.replicate (2 - (lg_sl ([.ref a0])).length) Slot.unset).toArray = ls at hl ⊢
  have hl : lv_has ls 2 [(0, .ref a0)] := hl
  have hP : va_P (dC, dI) vwCl (xW a0 a1 a2 a3 a4 a5 a6 a7 a8 a9 cI k ut tb tn sc hs rn rv wb ee we) s.heap := hP
  refine lv_aload_n (pc := 0) hx hb dX3_findDue_0 rfl (lv_at hl 0 rfl) ?_
  refine x_roi (pc := 1) (va_runV (As := []) (rest := []) ⟨hx, hb, hml, hown, hts⟩ (kX3_isUnderWay l dC dI tt cI cB _ a0 a1 a2 a3 a4 a5 a6 a7 a8 a9 k ut tb tn sc hs rn rv wb ee we ) (cwV 0 hts gX3_findDue_X3_isUnderWay rfl rfl rfl (by decide +kernel) ⟨Nat.le_of_ble_eq_true rfl, Nat.le_of_ble_eq_true rfl⟩) (x_preVa hS hE hK hP hD (x_ro hS hA) xR0 3 0 rfl rfl) rfl rfl hl.1 rfl (lv_room (Nat.le_of_ble_eq_true rfl)) dX3_findDue_1 ⟨Nat.le_of_ble_eq_true rfl, Nat.le_of_ble_eq_true rfl⟩) hS hA hP (fun r_1 H locs hr_1 hP hS => ?_)
  subst hr_1
  refine lv_if_eq (pc := 4) (tgt := 9) hx hb dX3_findDue_4 (by decide) (fun c1 => ?_) (fun c1 => ?_)
  · skip
    have c1 : uwB k.1 = false := bI_0.mp c1
    refine lv_aload_n (pc := 9) hx hb dX3_findDue_9 rfl (lv_at hl 0 rfl) ?_
    refine x_roi (pc := 10) (va_runV (As := []) (rest := []) ⟨hx, hb, hml, hown, hts⟩ (kX3_kindAskedFor l dC dI tt cI cB _ a0 a1 a2 a3 a4 a5 a6 a7 a8 a9 k ut tb tn sc hs rn rv wb ee we ) (cwV 0 hts gX3_findDue_X3_kindAskedFor rfl rfl rfl (by decide +kernel) ⟨Nat.le_of_ble_eq_true rfl, Nat.le_of_ble_eq_true rfl⟩) (x_preVa hS hE hK hP hD (x_ro hS hA) xR0 3 0 rfl rfl) rfl rfl hl.1 rfl (lv_room (Nat.le_of_ble_eq_true rfl)) dX3_findDue_10 ⟨Nat.le_of_ble_eq_true rfl, Nat.le_of_ble_eq_true rfl⟩) hS hA hP (fun r_2 H locs hr_2 hP hS => ?_)
    subst hr_2
    have hs_3 := askN_le k.1
    refine lv_istore_n (pc := 13) (lv' := [(1, .int (nI (askN k.1))), (0, .ref a0)]) hx hb dX3_findDue_13 rfl hl (by decide) rfl (fun ls hl => ?_)
    refine lv_iload_n (pc := 14) hx hb dX3_findDue_14 rfl (lv_at hl 0 rfl) ?_
    refine lv_iconst (pc := 15) (v := nI 3) hx hb dX3_findDue_15 (by decide) ?_
    refine lv_icmp_ne (pc := 16) (tgt := 21) hx hb dX3_findDue_16 (by decide) (fun c2 => ?_) (fun c2 => ?_)
    · skip
      have c2 : ¬ (askN k.1) = 3 := fun z => c2 ((nI_eq (a := (askN k.1)) (b := 3) (by omega) (by omega)).mpr z)
      refine lv_iload_n (pc := 21) hx hb dX3_findDue_21 rfl (lv_at hl 0 rfl) ?_
      refine lv_if_eq (pc := 22) (tgt := 39) hx hb dX3_findDue_22 (by decide) (fun c3 => ?_) (fun c3 => ?_)
      · skip
        have c3 : (askN k.1) = 0 := (nI_eq (a := (askN k.1)) (b := 0) (by omega) (by omega)).mp c3
        refine lv_aload_n (pc := 39) hx hb dX3_findDue_39 rfl (lv_at hl 1 rfl) ?_
        refine x_roi (pc := 40) (va_runV (As := []) (rest := []) ⟨hx, hb, hml, hown, hts⟩ (kX3_isTrialUnconfirmed l dC dI tt cI cB _ a0 a1 a2 a3 a4 a5 a6 a7 a8 a9 k ut tb tn sc hs rn rv wb ee we ) (cwV 0 hts gX3_findDue_X3_isTrialUnconfirmed rfl rfl rfl (by decide +kernel) ⟨Nat.le_of_ble_eq_true rfl, Nat.le_of_ble_eq_true rfl⟩) (x_preVa hS hE hK hP hD (x_ro hS hA) xR0 3 0 rfl rfl) rfl rfl hl.1 rfl (lv_room (Nat.le_of_ble_eq_true rfl)) dX3_findDue_40 ⟨Nat.le_of_ble_eq_true rfl, Nat.le_of_ble_eq_true rfl⟩) hS hA hP (fun r_4 H locs hr_4 hP hS => ?_)
        subst hr_4
        refine lv_if_eq (pc := 43) (tgt := 50) hx hb dX3_findDue_43 (by decide) (fun c5 => ?_) (fun c5 => ?_)
        · skip
          have c5 : tuB k.1 = false := bI_0.mp c5
          refine lv_iconst (pc := 50) (v := nI 0) hx hb dX3_findDue_50 (by decide) ?_
          exact W.iret (v := nI 0) hx hb hr (fun t ht hW => ⟨⟨nI 0, (sc, hs), rfl, by unfold dueN; first | (rw [if_pos c1]; done) | (rw [if_neg (by rw [c1]; decide), if_pos c2]; done) | (rw [if_neg (by rw [c1]; decide), if_neg c2, if_neg c3, c4]; rfl) | (rw [if_neg (by rw [c1]; decide), if_neg c2, if_pos c3, c5]; rfl), by show va_P _ _ _ t.heap; rw [ht]; exact hP, va_K.moved hW.alike hK, hD⟩, hS.F ht⟩) hS.2.2 dX3_findDue_51
        · skip
          have c5 : tuB k.1 = true := bI_1.mp c5
          refine lv_iconst (pc := 46) (v := nI 3) hx hb dX3_findDue_46 (by decide) ?_
          refine lv_goto (pc := 47) (tgt := 51) hx hb dX3_findDue_47 (by decide) ?_
          exact W.iret (v := nI 3) hx hb hr (fun t ht hW => ⟨⟨nI 3, (sc, hs), rfl, by unfold dueN; first | (rw [if_pos c1]; done) | (rw [if_neg (by rw [c1]; decide), if_pos c2]; done) | (rw [if_neg (by rw [c1]; decide), if_neg c2, if_neg c3, c4]; rfl) | (rw [if_neg (by rw [c1]; decide), if_neg c2, if_pos c3, c5]; rfl), by show va_P _ _ _ t.heap; rw [ht]; exact hP, va_K.moved hW.alike hK, hD⟩, hS.F ht⟩) hS.2.2 dX3_findDue_51
      · skip
        have c3 : ¬ (askN k.1) = 0 := fun z => c3 ((nI_eq (a := (askN k.1)) (b := 0) (by omega) (by omega)).mpr z)
        refine lv_aload_n (pc := 25) hx hb dX3_findDue_25 rfl (lv_at hl 1 rfl) ?_
        refine lv_iconst (pc := 26) (v := nI 1) hx hb dX3_findDue_26 (by decide) ?_
        refine x_wria (pc := 27) (va_runV (As := [.int (nI 1)]) (rest := []) ⟨hx, hb, hml, hown, hts⟩ (kX3_isRight l dC dI tt cI cB _ a0 a1 a2 a3 a4 a5 a6 a7 a8 a9 k ut tb tn sc hs rn rv wb ee we 1 (by omega)) (cwV 1 hts gX3_findDue_X3_isRight rfl rfl rfl (by decide +kernel) ⟨Nat.le_of_ble_eq_true rfl, Nat.le_of_ble_eq_true rfl⟩) (x_preVa hS hE hK hP hD (x_all hD hS hA) xR0 3 0 rfl rfl) rfl rfl hl.1 rfl (lv_room (Nat.le_of_ble_eq_true rfl)) dX3_findDue_27 ⟨Nat.le_of_ble_eq_true rfl, Nat.le_of_ble_eq_true rfl⟩) hS hA hD (fun r_6 u_5 H locs hu_5 hP hD hS => ?_)
        obtain ⟨sc_7, hs_8⟩ := u_5
        subst hu_5
        have hP : va_P (dC, dI) vwCl (xW a0 a1 a2 a3 a4 a5 a6 a7 a8 a9 cI k ut tb tn sc_7 hs_8 rn rv wb ee we) _ := hP
        have hD : va_D A (xW a0 a1 a2 a3 a4 a5 a6 a7 a8 a9 cI k ut tb tn sc_7 hs_8 rn rv wb ee we) := hD
        refine lv_if_eq (pc := 30) (tgt := 37) hx hb dX3_findDue_30 (by decide) (fun c4 => ?_) (fun c4 => ?_)
        · skip
          have c4 : rightB k.1 (1 * 5 * 256) = false := bI_0.mp c4
          refine lv_iconst (pc := 37) (v := nI 4) hx hb dX3_findDue_37 (by decide) ?_
          exact W.iret (v := nI 4) hx hb hr (fun t ht hW => ⟨⟨nI 4, (sc_7, hs_8), rfl, by unfold dueN; first | (rw [if_pos c1]; done) | (rw [if_neg (by rw [c1]; decide), if_pos c2]; done) | (rw [if_neg (by rw [c1]; decide), if_neg c2, if_neg c3, c4]; rfl) | (rw [if_neg (by rw [c1]; decide), if_neg c2, if_pos c3, c5]; rfl), by show va_P _ _ _ t.heap; rw [ht]; exact hP, va_K.moved hW.alike hK, hD⟩, hS.F ht⟩) hS.2.2 dX3_findDue_38
        · skip
          have c4 : rightB k.1 (1 * 5 * 256) = true := bI_1.mp c4
          refine lv_iload_n (pc := 33) hx hb dX3_findDue_33 rfl (lv_at hl 0 rfl) ?_
          refine lv_goto (pc := 34) (tgt := 38) hx hb dX3_findDue_34 (by decide) ?_
          exact W.iret (v := nI (askN k.1)) hx hb hr (fun t ht hW => ⟨⟨nI (askN k.1), (sc_7, hs_8), rfl, by unfold dueN; first | (rw [if_pos c1]; done) | (rw [if_neg (by rw [c1]; decide), if_pos c2]; done) | (rw [if_neg (by rw [c1]; decide), if_neg c2, if_neg c3, c4]; rfl) | (rw [if_neg (by rw [c1]; decide), if_neg c2, if_pos c3, c5]; rfl), by show va_P _ _ _ t.heap; rw [ht]; exact hP, va_K.moved hW.alike hK, hD⟩, hS.F ht⟩) hS.2.2 dX3_findDue_38
    · skip
      have c2 : (askN k.1) = 3 := (nI_eq (a := (askN k.1)) (b := 3) (by omega) (by omega)).mp c2
      refine lv_iconst (pc := 19) (v := nI 3) hx hb dX3_findDue_19 (by decide) ?_
      exact W.iret (v := nI 3) hx hb hr (fun t ht hW => ⟨⟨nI 3, (sc, hs), rfl, by unfold dueN; first | (rw [if_pos c1]; done) | (rw [if_neg (by rw [c1]; decide), if_pos c2]; done) | (rw [if_neg (by rw [c1]; decide), if_neg c2, if_neg c3, c4]; rfl) | (rw [if_neg (by rw [c1]; decide), if_neg c2, if_pos c3, c5]; rfl), by show va_P _ _ _ t.heap; rw [ht]; exact hP, va_K.moved hW.alike hK, hD⟩, hS.F ht⟩) hS.2.2 dX3_findDue_20
  · skip
    have c1 : uwB k.1 = true := bI_1.mp c1
    refine lv_iconst (pc := 7) (v := nI 5) hx hb dX3_findDue_7 (by decide) ?_
    exact W.iret (v := nI 5) hx hb hr (fun t ht hW => ⟨⟨nI 5, (sc, hs), rfl, by unfold dueN; first | (rw [if_pos c1]; done) | (rw [if_neg (by rw [c1]; decide), if_pos c2]; done) | (rw [if_neg (by rw [c1]; decide), if_neg c2, if_neg c3, c4]; rfl) | (rw [if_neg (by rw [c1]; decide), if_neg c2, if_pos c3, c5]; rfl), by show va_P _ _ _ t.heap; rw [ht]; exact hP, va_K.moved hW.alike hK, hD⟩, hS.F ht⟩) hS.2.2 dX3_findDue_8
set_option maxHeartbeats 4000000 in
set_option maxRecDepth 100000 in
theorem kX3_due (l : Launch) (dC : Nat → ClassId) (dI : Nat → Nat → Nat) (tt : Nat → Nat) (cI cB : ClassId) (sz : Nat) (a0 a1 a2 a3 a4 a5 a6 a7 a8 a9 : Nat) (k : K0) (ut : Nat → Int32) (tb : Nat → Int8) (tn : Nat) (sc hs : Nat → Int32) (rn : Bool) (rv wb ee we : Int32)  : MetI (S := ((Nat → Int32) × (Nat → Int32))) l yX3_due wsX3_due { frames := 5, cells := 0, slots := 0, locals := 126 } (dC, dI) [(cI, .int), (cB, .byte)] tt [] sz (xW a0 a1 a2 a3 a4 a5 a6 a7 a8 a9 cI k ut tb tn sc hs rn rv wb ee we) [.ref a0] (fun u : ((Nat → Int32) × (Nat → Int32)) => xW a0 a1 a2 a3 a4 a5 a6 a7 a8 a9 cI k ut tb tn u.1 u.2 rn rv wb ee we) (fun r u => r = nI (dueN k.1)) := by
  refine Met.ofW (cc := cX3_due) (maxL := 1) (ret := (some .int)) (by decide) rfl ?_
  intro p e s m args below meth c s₁ B hml hv
  obtain ⟨rfl, hsz, hP, hK, hD0, hE⟩ := hv
  have hx := B.exec
  have hb := B.bytes
  have hr := B.returns
  have hts := atoms_spec (ws := wsX3_due) B.pre
  have hown : s.vm.findClass RX3 = some m.cls := findClass_of_methodNamed B.named
  have hlocks := B.notSynchronized
  subst hsz
  have hD := hD0.self (sz := s.heap.size)
  generalize hAe : va_A (xW a0 a1 a2 a3 a4 a5 a6 a7 a8 a9 cI k ut tb tn sc hs rn rv wb ee we) s.heap.size = A at hD hE ⊢
  have hA : ∀ q : Nat, s.heap.size ≤ q → A q := fun q h => by rw [← hAe]; exact Or.inr h
  have hS : va_S A s.heap s.heap [] := va_S.rf
  have hl := lv_entry ([.ref a0]) (n := 1) (Nat.le_of_ble_eq_true rfl)
  rw [lg_entry_eq]
  generalize (lg_sl ([.ref a0]) ++ List.replicate (1 - (lg_sl ([.ref a0])).length) Slot.unset).toArray = ls at hl ⊢
  have hl : lv_has ls 1 [(0, .ref a0)] := hl
  have hP : va_P (dC, dI) vwCl (xW a0 a1 a2 a3 a4 a5 a6 a7 a8 a9 cI k ut tb tn sc hs rn rv wb ee we) s.heap := hP
  refine lv_aload_n (pc := 0) hx hb dX3_due_0 rfl (lv_at hl 0 rfl) ?_
  refine x_wria (pc := 1) (va_runV (As := []) (rest := []) ⟨hx, hb, hml, hown, hts⟩ (kX3_findDue l dC dI tt cI cB _ a0 a1 a2 a3 a4 a5 a6 a7 a8 a9 k ut tb tn sc hs rn rv wb ee we ) (cwV 0 hts gX3_due_X3_findDue rfl rfl rfl (by decide +kernel) ⟨Nat.le_of_ble_eq_true rfl, Nat.le_of_ble_eq_true rfl⟩) (x_preVa hS hE hK hP hD (x_all hD hS hA) xR0 3 0 rfl rfl) rfl rfl hl.1 rfl (lv_room (Nat.le_of_ble_eq_true rfl)) dX3_due_1 ⟨Nat.le_of_ble_eq_true rfl, Nat.le_of_ble_eq_true rfl⟩) hS hA hD (fun r_2 u_1 H locs hu_1 hP hD hS => ?_)
  obtain ⟨sc_3, hs_4⟩ := u_1
  subst hu_1
  have hP : va_P (dC, dI) vwCl (xW a0 a1 a2 a3 a4 a5 a6 a7 a8 a9 cI k ut tb tn sc_3 hs_4 rn rv wb ee we) _ := hP
  have hD : va_D A (xW a0 a1 a2 a3 a4 a5 a6 a7 a8 a9 cI k ut tb tn sc_3 hs_4 rn rv wb ee we) := hD
  exact W.iret (v := nI (dueN k.1)) hx hb hr (fun t ht hW => ⟨⟨nI (dueN k.1), (sc_3, hs_4), rfl, rfl, by show va_P _ _ _ t.heap; rw [ht]; exact hP, va_K.moved hW.alike hK, hD⟩, hS.F ht⟩) hS.2.2 dX3_due_4
set_option maxHeartbeats 4000000 in
set_option maxRecDepth 100000 in
theorem kX3_image (l : Launch) (dC : Nat → ClassId) (dI : Nat → Nat → Nat) (tt : Nat → Nat) (cI cB : ClassId) (sz : Nat) (a0 a1 a2 a3 a4 a5 a6 a7 a8 a9 : Nat) (k : K0) (ut : Nat → Int32) (tb : Nat → Int8) (tn : Nat) (sc hs : Nat → Int32) (rn : Bool) (rv wb ee we : Int32) (x y : Int32)  : MetI (S := ((Nat → Int32) × (Nat → Int32))) l yX3_image wsX3_image { frames := 4, cells := 0, slots := 0, locals := 105 } (dC, dI) [(cI, .int), (cB, .byte)] tt [] sz (xW a0 a1 a2 a3 a4 a5 a6 a7 a8 a9 cI k ut tb tn sc hs rn rv wb ee we) [.ref a0, .int x, .int y] (fun u : ((Nat → Int32) × (Nat → Int32)) => xW a0 a1 a2 a3 a4 a5 a6 a7 a8 a9 cI k ut tb tn u.1 u.2 rn rv wb ee we) (fun r u => r = imgV k.1 x y) := by
  refine Met.ofW (cc := cX3_image) (maxL := 3) (ret := (some .int)) (by decide) rfl ?_
  intro p e s m args below meth c s₁ B hml hv
  obtain ⟨rfl, hsz, hP, hK, hD0, hE⟩ := hv
  have hx := B.exec
  have hb := B.bytes
  have hr := B.returns
  have hts := atoms_spec (ws := wsX3_image) B.pre
  have hown : s.vm.findClass RX3 = some m.cls := findClass_of_methodNamed B.named
  have hlocks := B.notSynchronized
  subst hsz
  have hD := hD0.self (sz := s.heap.size)
  generalize hAe : va_A (xW a0 a1 a2 a3 a4 a5 a6 a7 a8 a9 cI k ut tb tn sc hs rn rv wb ee we) s.heap.size = A at hD hE ⊢
  have hA : ∀ q : Nat, s.heap.size ≤ q → A q := fun q h => by rw [← hAe]; exact Or.inr h
  have hS : va_S A s.heap s.heap [] := va_S.rf
  have hl := lv_entry ([.ref a0, .int x, .int y]) (n := 3) (Nat.le_of_ble_eq_true rfl)
  rw [lg_entry_eq]
  generalize (lg_sl ([.ref a0, .int x, .int y]) ++ List.replicate (3 - (lg_sl ([.ref a0, .int x, .int y])).length) Slot.unset).toArray = ls at hl ⊢
  have hl : lv_has ls 3 [(0, .ref a0), (1, .int x), (2, .int y)] := hl
  have hP : va_P (dC, dI) vwCl (xW a0 a1 a2 a3 a4 a5 a6 a7 a8 a9 cI k ut tb tn sc hs rn rv wb ee we) s.heap := hP
  refine lv_iload_n (pc := 0) hx hb dX3_image_0 rfl (lv_at hl 1 rfl) ?_
  refine x_roi (pc := 1) (va_runS (As := [.int x]) (rest := []) ⟨hx, hb, hml, hown, hts⟩ (kX3_isSlot l dC dI tt cI cB _ x) (va_cwS 1 hts gX3_image_X3_isSlot rfl rfl rfl (by decide +kernel) ⟨Nat.le_of_ble_eq_true rfl, Nat.le_of_ble_eq_true rfl⟩) (x_preS hS hE hK hP hD [] rfl (by decide) (x_ro hS hA) xR0) rfl rfl hl.1 rfl (lv_room (Nat.le_of_ble_eq_true rfl)) dX3_image_1 ⟨Nat.le_of_ble_eq_true rfl, Nat.le_of_ble_eq_true rfl⟩) hS hA hP (fun r_1 H locs hr_1 hP hS => ?_)
  subst hr_1
  refine lv_if_eq (pc := 4) (tgt := 16) hx hb dX3_image_4 (by decide) (fun c1 => ?_) (fun c1 => ?_)
  · skip
    have c1 : slotB x = false := bI_0.mp c1
    refine lv_iconst (pc := 16) (v := (-1)) hx hb dX3_image_16 (by decide) ?_
    exact W.iret (v := (-1)) hx hb hr (fun t ht hW => ⟨⟨(-1), (sc, hs), rfl, by unfold imgV; rw [if_neg (fun z => by first | (rw [c1] at z; exact absurd z.1 (by decide)) | exact z.2.1 c2 | exact c3 z.2.2)], by show va_P _ _ _ t.heap; rw [ht]; exact hP, va_K.moved hW.alike hK, hD⟩, hS.F ht⟩) hS.2.2 dX3_image_17
  · skip
    have c1 : slotB x = true := bI_1.mp c1
    obtain ⟨w, hw2, ew⟩ := slotB_of c1
    rw [ew] at hl
    have hcl : x.toNatClampNeg = w := by rw [ew]; exact nI_clamp (by omega)
    refine lv_iload_n (pc := 7) hx hb dX3_image_7 rfl (lv_at hl 2 rfl) ?_
    refine lv_if_lt (pc := 8) (tgt := 16) hx hb dX3_image_8 (by decide) (fun c2 => ?_) (fun c2 => ?_)
    · skip
      refine lv_iconst (pc := 16) (v := (-1)) hx hb dX3_image_16 (by decide) ?_
      exact W.iret (v := (-1)) hx hb hr (fun t ht hW => ⟨⟨(-1), (sc, hs), rfl, by unfold imgV; rw [if_neg (fun z => by first | (rw [c1] at z; exact absurd z.1 (by decide)) | exact z.2.1 c2 | exact c3 z.2.2)], by show va_P _ _ _ t.heap; rw [ht]; exact hP, va_K.moved hW.alike hK, hD⟩, hS.F ht⟩) hS.2.2 dX3_image_17
    · skip
      refine lv_iload_n (pc := 11) hx hb dX3_image_11 rfl (lv_at hl 2 rfl) ?_
      refine lv_iconst (pc := 12) (v := nI 2) hx hb dX3_image_12 (by decide) ?_
      refine lv_icmp_le (pc := 13) (tgt := 18) hx hb dX3_image_13 (by decide) (fun c3 => ?_) (fun c3 => ?_)
      · skip
        refine lv_aload_n (pc := 18) hx hb dX3_image_18 rfl (lv_at hl 0 rfl) ?_
        refine lv_iload_n (pc := 19) hx hb dX3_image_19 rfl (lv_at hl 1 rfl) ?_
        refine x_wria (pc := 20) (va_runV (As := [.int (nI w)]) (rest := []) ⟨hx, hb, hml, hown, hts⟩ (kX3_isRight l dC dI tt cI cB _ a0 a1 a2 a3 a4 a5 a6 a7 a8 a9 k ut tb tn sc hs rn rv wb ee we w (by omega)) (cwV 1 hts gX3_image_X3_isRight rfl rfl rfl (by decide +kernel) ⟨Nat.le_of_ble_eq_true rfl, Nat.le_of_ble_eq_true rfl⟩) (x_preVa hS hE hK hP hD (x_all hD hS hA) xR0 3 0 rfl rfl) rfl rfl hl.1 rfl (lv_room (Nat.le_of_ble_eq_true rfl)) dX3_image_20 ⟨Nat.le_of_ble_eq_true rfl, Nat.le_of_ble_eq_true rfl⟩) hS hA hD (fun r_3 u_2 H locs hu_2 hP hD hS => ?_)
        obtain ⟨sc_4, hs_5⟩ := u_2
        subst hu_2
        have hP : va_P (dC, dI) vwCl (xW a0 a1 a2 a3 a4 a5 a6 a7 a8 a9 cI k ut tb tn sc_4 hs_5 rn rv wb ee we) _ := hP
        have hD : va_D A (xW a0 a1 a2 a3 a4 a5 a6 a7 a8 a9 cI k ut tb tn sc_4 hs_5 rn rv wb ee we) := hD
        refine lv_if_ne (pc := 23) (tgt := 28) hx hb dX3_image_23 (by decide) (fun c4 => ?_) (fun c4 => ?_)
        · skip
          have c4 : rightB k.1 (w * 5 * 256) = true := bI_1.mp c4
          refine lv_iload_n (pc := 28) hx hb dX3_image_28 rfl (lv_at hl 2 rfl) ?_
          by_cases s0 : y = nI 0
          · skip
            refine lv_lookup (pc := 29) (tgt := 56) (off := 27) hx hb dX3_image_29 (by decide) (by first | (rw [s0]; done) | (rw [s0]; decide)) (by decide) ?_
            refine lv_iconst (pc := 56) (v := nI 1) hx hb dX3_image_56 (by decide) ?_
            exact W.iret (v := nI 1) hx hb hr (fun t ht hW => ⟨⟨nI 1, (sc_4, hs_5), rfl, by unfold imgV imgW; rw [if_pos ⟨c1, c2, c3⟩, hcl, c4, if_pos rfl, if_pos s0], by show va_P _ _ _ t.heap; rw [ht]; exact hP, va_K.moved hW.alike hK, hD⟩, hS.F ht⟩) hS.2.2 dX3_image_57
          · skip
            by_cases s1 : y = nI 1
            · skip
              refine lv_lookup (pc := 29) (tgt := 58) (off := 29) hx hb dX3_image_29 (by decide) (by first | (rw [s1]; done) | (rw [s1]; decide)) (by decide) ?_
              refine lv_aload_n (pc := 58) hx hb dX3_image_58 rfl (lv_at hl 0 rfl) ?_
              refine lv_iload_n (pc := 59) hx hb dX3_image_59 rfl (lv_at hl 1 rfl) ?_
              refine x_roi (pc := 60) (va_runV (As := [.int (nI w)]) (rest := []) ⟨hx, hb, hml, hown, hts⟩ (kX3_lengthIn l dC dI tt cI cB _ a0 a1 a2 a3 a4 a5 a6 a7 a8 a9 k ut tb tn sc_4 hs_5 rn rv wb ee we w (by omega)) (cwV 1 hts gX3_image_X3_lengthIn rfl rfl rfl (by decide +kernel) ⟨Nat.le_of_ble_eq_true rfl, Nat.le_of_ble_eq_true rfl⟩) (x_preVa hS hE hK hP hD (x_ro hS hA) xR0 3 0 rfl rfl) rfl rfl hl.1 rfl (lv_room (Nat.le_of_ble_eq_true rfl)) dX3_image_60 ⟨Nat.le_of_ble_eq_true rfl, Nat.le_of_ble_eq_true rfl⟩) hS hA hP (fun r_6 H locs hr_6 hP hS => ?_)
              subst hr_6
              exact W.iret (v := mI k.1 (w * 5 * 256)) hx hb hr (fun t ht hW => ⟨⟨mI k.1 (w * 5 * 256), (sc_4, hs_5), rfl, by unfold imgV imgW; rw [if_pos ⟨c1, c2, c3⟩, hcl, c4, if_pos rfl, if_neg s0, if_pos s1], by show va_P _ _ _ t.heap; rw [ht]; exact hP, va_K.moved hW.alike hK, hD⟩, hS.F ht⟩) hS.2.2 dX3_image_63
            · skip
              refine lv_lookup (pc := 29) (tgt := 64) (off := 35) hx hb dX3_image_29 (by decide) ((lv_osw s0 (by decide)).trans ((lv_osw s1 (by decide)).trans (rfl))) (by decide) ?_
              refine lv_aload_n (pc := 64) hx hb dX3_image_64 rfl (lv_at hl 0 rfl) ?_
              refine lv_iload_n (pc := 65) hx hb dX3_image_65 rfl (lv_at hl 1 rfl) ?_
              refine x_roi (pc := 66) (va_runV (As := [.int (nI w)]) (rest := []) ⟨hx, hb, hml, hown, hts⟩ (kX3_versionIn l dC dI tt cI cB _ a0 a1 a2 a3 a4 a5 a6 a7 a8 a9 k ut tb tn sc_4 hs_5 rn rv wb ee we w (by omega)) (cwV 1 hts gX3_image_X3_versionIn rfl rfl rfl (by decide +kernel) ⟨Nat.le_of_ble_eq_true rfl, Nat.le_of_ble_eq_true rfl⟩) (x_preVa hS hE hK hP hD (x_ro hS hA) xR0 3 0 rfl rfl) rfl rfl hl.1 rfl (lv_room (Nat.le_of_ble_eq_true rfl)) dX3_image_66 ⟨Nat.le_of_ble_eq_true rfl, Nat.le_of_ble_eq_true rfl⟩) hS hA hP (fun r_7 H locs hr_7 hP hS => ?_)
              subst hr_7
              exact W.iret (v := mI k.1 (w * 5 * 256 + 4)) hx hb hr (fun t ht hW => ⟨⟨mI k.1 (w * 5 * 256 + 4), (sc_4, hs_5), rfl, by unfold imgV imgW; rw [if_pos ⟨c1, c2, c3⟩, hcl, c4, if_pos rfl, if_neg s0, if_neg s1], by show va_P _ _ _ t.heap; rw [ht]; exact hP, va_K.moved hW.alike hK, hD⟩, hS.F ht⟩) hS.2.2 dX3_image_69
        · skip
          have c4 : rightB k.1 (w * 5 * 256) = false := bI_0.mp c4
          refine lv_iconst (pc := 26) (v := nI 0) hx hb dX3_image_26 (by decide) ?_
          exact W.iret (v := nI 0) hx hb hr (fun t ht hW => ⟨⟨nI 0, (sc_4, hs_5), rfl, by unfold imgV imgW; rw [if_pos ⟨c1, c2, c3⟩, hcl, c4]; rfl, by show va_P _ _ _ t.heap; rw [ht]; exact hP, va_K.moved hW.alike hK, hD⟩, hS.F ht⟩) hS.2.2 dX3_image_27
      · skip
        refine lv_iconst (pc := 16) (v := (-1)) hx hb dX3_image_16 (by decide) ?_
        exact W.iret (v := (-1)) hx hb hr (fun t ht hW => ⟨⟨(-1), (sc, hs), rfl, by unfold imgV; rw [if_neg (fun z => by first | (rw [c1] at z; exact absurd z.1 (by decide)) | exact z.2.1 c2 | exact c3 z.2.2)], by show va_P _ _ _ t.heap; rw [ht]; exact hP, va_K.moved hW.alike hK, hD⟩, hS.F ht⟩) hS.2.2 dX3_image_17
set_option maxHeartbeats 4000000 in
set_option maxRecDepth 100000 in
theorem kX3_trailer (l : Launch) (dC : Nat → ClassId) (dI : Nat → Nat → Nat) (tt : Nat → Nat) (cI cB : ClassId) (sz : Nat) (a0 a1 a2 a3 a4 a5 a6 a7 a8 a9 : Nat) (k : K0) (ut : Nat → Int32) (tb : Nat → Int8) (tn : Nat) (sc hs : Nat → Int32) (rn : Bool) (rv wb ee we : Int32) (x y : Int32)  : MetR l yX3_trailer wsX3_trailer { frames := 4, cells := 0, slots := 0, locals := 91 } (dC, dI) [(cI, .int), (cB, .byte)] tt [] sz (xW a0 a1 a2 a3 a4 a5 a6 a7 a8 a9 cI k ut tb tn sc hs rn rv wb ee we) [.ref a0, .int x, .int y] (fun r => r = trlV k.1 x y) := by
  refine Met.ofW (cc := cX3_trailer) (maxL := 4) (ret := (some .int)) (by decide) rfl ?_
  intro p e s m args below meth c s₁ B hml hv
  obtain ⟨rfl, hsz, hP, hK, hD0, hE⟩ := hv
  have hx := B.exec
  have hb := B.bytes
  have hr := B.returns
  have hts := atoms_spec (ws := wsX3_trailer) B.pre
  have hown : s.vm.findClass RX3 = some m.cls := findClass_of_methodNamed B.named
  have hlocks := B.notSynchronized
  subst hsz
  have hD := hD0
  generalize hAe : va_A [] s.heap.size = A at hE ⊢
  have hA : ∀ q : Nat, s.heap.size ≤ q → A q := fun q h => by rw [← hAe]; exact Or.inr h
  have hS : va_S A s.heap s.heap [] := va_S.rf
  have hl := lv_entry ([.ref a0, .int x, .int y]) (n := 4) (Nat.le_of_ble_eq_true rfl)
  rw [lg_entry_eq]
  generalize (lg_sl ([.ref a0, .int x, .int y]) ++ List.replicate (4 - (lg_sl ([.ref a0, .int x, .int y])).length) Slot.unset).toArray = ls at hl ⊢
  have hl : lv_has ls 4 [(0, .ref a0), (1, .int x), (2, .int y)] := hl
  have hP : va_P (dC, dI) vwCl (xW a0 a1 a2 a3 a4 a5 a6 a7 a8 a9 cI k ut tb tn sc hs rn rv wb ee we) s.heap := hP
  refine lv_iload_n (pc := 0) hx hb dX3_trailer_0 rfl (lv_at hl 1 rfl) ?_
  refine x_roi (pc := 1) (va_runS (As := [.int x]) (rest := []) ⟨hx, hb, hml, hown, hts⟩ (kX3_isSlot l dC dI tt cI cB _ x) (va_cwS 1 hts gX3_trailer_X3_isSlot rfl rfl rfl (by decide +kernel) ⟨Nat.le_of_ble_eq_true rfl, Nat.le_of_ble_eq_true rfl⟩) (x_preS hS hE hK hP hD [] rfl (by decide) (x_ro hS hA) xR0) rfl rfl hl.1 rfl (lv_room (Nat.le_of_ble_eq_true rfl)) dX3_trailer_1 ⟨Nat.le_of_ble_eq_true rfl, Nat.le_of_ble_eq_true rfl⟩) hS hA hP (fun r_1 H locs hr_1 hP hS => ?_)
  subst hr_1
  refine lv_if_ne (pc := 4) (tgt := 9) hx hb dX3_trailer_4 (by decide) (fun c1 => ?_) (fun c1 => ?_)
  · skip
    have c1 : slotB x = true := bI_1.mp c1
    obtain ⟨w, hw2, ew⟩ := slotB_of c1
    rw [ew] at hl
    have hcl : x.toNatClampNeg = w := by rw [ew]; exact nI_clamp (by omega)
    refine lv_iload_n (pc := 9) hx hb dX3_trailer_9 rfl (lv_at hl 1 rfl) ?_
    refine x_roi (pc := 10) (va_runS (As := [.int (nI w)]) (rest := []) ⟨hx, hb, hml, hown, hts⟩ (kX3_trailerOf l dC dI tt cI cB _ w (by omega)) (va_cwS 1 hts gX3_trailer_X3_trailerOf rfl rfl rfl (by decide +kernel) ⟨Nat.le_of_ble_eq_true rfl, Nat.le_of_ble_eq_true rfl⟩) (x_preS hS hE hK hP hD [] rfl (by decide) (x_ro hS hA) xR0) rfl rfl hl.1 rfl (lv_room (Nat.le_of_ble_eq_true rfl)) dX3_trailer_10 ⟨Nat.le_of_ble_eq_true rfl, Nat.le_of_ble_eq_true rfl⟩) hS hA hP (fun r_2 H locs hr_2 hP hS => ?_)
    subst hr_2
    refine lv_istore_n (pc := 13) (lv' := [(3, .int (nI (w * 5 + 4))), (0, .ref a0), (1, .int (nI w)), (2, .int y)]) hx hb dX3_trailer_13 rfl hl (by decide) rfl (fun ls hl => ?_)
    refine lv_iload_n (pc := 14) hx hb dX3_trailer_14 rfl (lv_at hl 3 rfl) ?_
    by_cases s0 : y = nI 0
    · skip
      refine lv_tableIn (pc := 15) (tgt := 48) (off := 33) hx hb dX3_trailer_15 (by rw [s0]; decide) (by rw [s0]; decide) (by rw [s0]; decide) (by decide) ?_
      refine lv_aload_n (pc := 48) hx hb dX3_trailer_48 rfl (lv_at hl 1 rfl) ?_
      refine va_get (pc := 49) (D := (dC, dI)) (ci := 3) (v := .ref a1) (C := RX3) (T := TX3) (N := 8) hx hb hts (by decide +kernel) hown hK hP 0 rfl rfl 0 (by decide) (hts (.fieldLink RX3 12 "ScratchSwap" "memory" "LScratchSwap$Memory;") (by decide +kernel)) (fun _ h9 => h9) rfl dX3_trailer_49 ?_
      refine lv_iload_n (pc := 52) hx hb dX3_trailer_52 rfl (lv_at hl 0 rfl) ?_
      refine x_roi (pc := 53) (va_runVN (As := [.int (nI (w * 5 + 4))]) (rest := []) ⟨hx, hb, hml, hown, hts⟩ (kX0_hasMagic l dC dI tt cI cB _ a1 a2 a3 a4 k ut (w * 5 + 4) (by omega)) (⟨va_cnB 1 hts gX3_trailer_X0_hasMagic_n102 rfl rfl rfl (hE.m 12 (q := (RX3, 102, yX0_hasMagic, "ScratchSwap")) rfl) (hts (.initialized RX0) (by decide +kernel)) (by decide +kernel) ⟨Nat.le_of_ble_eq_true rfl, Nat.le_of_ble_eq_true rfl⟩, hts (.instanceMethod yX0_hasMagic) (by decide +kernel), hts (.selects RX0 yX0_hasMagic yX0_hasMagic) (by decide +kernel)⟩) (x_preV hS hE hK hP hD [1, 2, 3, 4] rfl (by decide) (x_ro hS hA) xR0 0 1 rfl rfl) rfl rfl hl.1 rfl (lv_room (Nat.le_of_ble_eq_true rfl)) dX3_trailer_53 ⟨Nat.le_of_ble_eq_true rfl, Nat.le_of_ble_eq_true rfl⟩) hS hA hP (fun r_3 H locs hr_3 hP hS => ?_)
      subst hr_3
      refine x_roi (pc := 56) (va_runS (As := [.int (bI (magB k.1 ((w * 5 + 4) * 256)))]) (rest := []) ⟨hx, hb, hml, hown, hts⟩ (kX3_asNumber l dC dI tt cI cB _ (magB k.1 ((w * 5 + 4) * 256))) (va_cwS 1 hts gX3_trailer_X3_asNumber rfl rfl rfl (by decide +kernel) ⟨Nat.le_of_ble_eq_true rfl, Nat.le_of_ble_eq_true rfl⟩) (x_preS hS hE hK hP hD [] rfl (by decide) (x_ro hS hA) xR0) rfl rfl hl.1 rfl (lv_room (Nat.le_of_ble_eq_true rfl)) dX3_trailer_56 ⟨Nat.le_of_ble_eq_true rfl, Nat.le_of_ble_eq_true rfl⟩) hS hA hP (fun r_4 H locs hr_4 hP hS => ?_)
      subst hr_4
      exact W.iret (v := bI (magB k.1 ((w * 5 + 4) * 256))) hx hb hr (fun t ht hW => ⟨⟨bI (magB k.1 ((w * 5 + 4) * 256)), (), rfl, by unfold trlV trlW; rw [if_pos c1, hcl, if_pos s0], trivial⟩, hS.F ht⟩) hS.2.2 dX3_trailer_59
    · skip
      by_cases s1 : y = nI 1
      · skip
        refine lv_tableIn (pc := 15) (tgt := 60) (off := 45) hx hb dX3_trailer_15 (by rw [s1]; decide) (by rw [s1]; decide) (by rw [s1]; decide) (by decide) ?_
        refine lv_aload_n (pc := 60) hx hb dX3_trailer_60 rfl (lv_at hl 1 rfl) ?_
        refine va_get (pc := 61) (D := (dC, dI)) (ci := 3) (v := .ref a1) (C := RX3) (T := TX3) (N := 8) hx hb hts (by decide +kernel) hown hK hP 0 rfl rfl 0 (by decide) (hts (.fieldLink RX3 12 "ScratchSwap" "memory" "LScratchSwap$Memory;") (by decide +kernel)) (fun _ h9 => h9) rfl dX3_trailer_61 ?_
        refine lv_iload_n (pc := 64) hx hb dX3_trailer_64 rfl (lv_at hl 0 rfl) ?_
        refine lv_iconst (pc := 65) (v := nI 1) hx hb dX3_trailer_65 (by decide) ?_
        refine x_roi (pc := 66) (va_runVN (As := [.int (nI (w * 5 + 4)), .int (nI 1)]) (rest := []) ⟨hx, hb, hml, hown, hts⟩ (kX0_markIn l dC dI tt cI cB _ a1 a2 a3 a4 k ut (w * 5 + 4) 1 (by omega)) (⟨va_cnB 2 hts gX3_trailer_X0_markIn_n144 rfl rfl rfl (hE.m 7 (q := (RX3, 144, yX0_markIn, "ScratchSwap")) rfl) (hts (.initialized RX0) (by decide +kernel)) (by decide +kernel) ⟨Nat.le_of_ble_eq_true rfl, Nat.le_of_ble_eq_true rfl⟩, hts (.instanceMethod yX0_markIn) (by decide +kernel), hts (.selects RX0 yX0_markIn yX0_markIn) (by decide +kernel)⟩) (x_preV hS hE hK hP hD [1, 2, 3, 4] rfl (by decide) (x_ro hS hA) xR0 0 1 rfl rfl) rfl rfl hl.1 rfl (lv_room (Nat.le_of_ble_eq_true rfl)) dX3_trailer_66 ⟨Nat.le_of_ble_eq_true rfl, Nat.le_of_ble_eq_true rfl⟩) hS hA hP (fun r_5 H locs hr_5 hP hS => ?_)
        subst hr_5
        have hs_6 := setN_le k.1 ((w * 5 + 4) * 256 + 1 * 8)
        exact W.iret (v := nI (setN k.1 ((w * 5 + 4) * 256 + 1 * 8))) hx hb hr (fun t ht hW => ⟨⟨nI (setN k.1 ((w * 5 + 4) * 256 + 1 * 8)), (), rfl, by unfold trlV trlW; rw [if_pos c1, hcl, if_neg s0, if_pos s1], trivial⟩, hS.F ht⟩) hS.2.2 dX3_trailer_69
      · skip
        by_cases s2 : y = nI 2
        · skip
          refine lv_tableIn (pc := 15) (tgt := 70) (off := 55) hx hb dX3_trailer_15 (by rw [s2]; decide) (by rw [s2]; decide) (by rw [s2]; decide) (by decide) ?_
          refine lv_aload_n (pc := 70) hx hb dX3_trailer_70 rfl (lv_at hl 1 rfl) ?_
          refine lv_iload_n (pc := 71) hx hb dX3_trailer_71 rfl (lv_at hl 0 rfl) ?_
          refine lv_iconst (pc := 72) (v := nI 2) hx hb dX3_trailer_72 (by decide) ?_
          refine x_roi (pc := 73) (va_runV (As := [.int (nI (w * 5 + 4)), .int (nI 2)]) (rest := []) ⟨hx, hb, hml, hown, hts⟩ (kX3_isMarked l dC dI tt cI cB _ a0 a1 a2 a3 a4 a5 a6 a7 a8 a9 k ut tb tn sc hs rn rv wb ee we (w * 5 + 4) 2 (by omega)) (cwV 2 hts gX3_trailer_X3_isMarked rfl rfl rfl (by decide +kernel) ⟨Nat.le_of_ble_eq_true rfl, Nat.le_of_ble_eq_true rfl⟩) (x_preVa hS hE hK hP hD (x_ro hS hA) xR0 3 0 rfl rfl) rfl rfl hl.1 rfl (lv_room (Nat.le_of_ble_eq_true rfl)) dX3_trailer_73 ⟨Nat.le_of_ble_eq_true rfl, Nat.le_of_ble_eq_true rfl⟩) hS hA hP (fun r_7 H locs hr_7 hP hS => ?_)
          subst hr_7
          refine x_roi (pc := 76) (va_runS (As := [.int (bI (mkB k.1 ((w * 5 + 4) * 256 + 2 * 8)))]) (rest := []) ⟨hx, hb, hml, hown, hts⟩ (kX3_asNumber l dC dI tt cI cB _ (mkB k.1 ((w * 5 + 4) * 256 + 2 * 8))) (va_cwS 1 hts gX3_trailer_X3_asNumber rfl rfl rfl (by decide +kernel) ⟨Nat.le_of_ble_eq_true rfl, Nat.le_of_ble_eq_true rfl⟩) (x_preS hS hE hK hP hD [] rfl (by decide) (x_ro hS hA) xR0) rfl rfl hl.1 rfl (lv_room (Nat.le_of_ble_eq_true rfl)) dX3_trailer_76 ⟨Nat.le_of_ble_eq_true rfl, Nat.le_of_ble_eq_true rfl⟩) hS hA hP (fun r_8 H locs hr_8 hP hS => ?_)
          subst hr_8
          exact W.iret (v := bI (mkB k.1 ((w * 5 + 4) * 256 + 2 * 8))) hx hb hr (fun t ht hW => ⟨⟨bI (mkB k.1 ((w * 5 + 4) * 256 + 2 * 8)), (), rfl, by unfold trlV trlW; rw [if_pos c1, hcl, if_neg s0, if_neg s1, if_pos s2], trivial⟩, hS.F ht⟩) hS.2.2 dX3_trailer_79
        · skip
          by_cases s3 : y = nI 3
          · skip
            refine lv_tableIn (pc := 15) (tgt := 80) (off := 65) hx hb dX3_trailer_15 (by rw [s3]; decide) (by rw [s3]; decide) (by rw [s3]; decide) (by decide) ?_
            refine lv_aload_n (pc := 80) hx hb dX3_trailer_80 rfl (lv_at hl 1 rfl) ?_
            refine lv_iload_n (pc := 81) hx hb dX3_trailer_81 rfl (lv_at hl 0 rfl) ?_
            refine lv_iconst (pc := 82) (v := nI 3) hx hb dX3_trailer_82 (by decide) ?_
            refine x_roi (pc := 83) (va_runV (As := [.int (nI (w * 5 + 4)), .int (nI 3)]) (rest := []) ⟨hx, hb, hml, hown, hts⟩ (kX3_isMarked l dC dI tt cI cB _ a0 a1 a2 a3 a4 a5 a6 a7 a8 a9 k ut tb tn sc hs rn rv wb ee we (w * 5 + 4) 3 (by omega)) (cwV 2 hts gX3_trailer_X3_isMarked rfl rfl rfl (by decide +kernel) ⟨Nat.le_of_ble_eq_true rfl, Nat.le_of_ble_eq_true rfl⟩) (x_preVa hS hE hK hP hD (x_ro hS hA) xR0 3 0 rfl rfl) rfl rfl hl.1 rfl (lv_room (Nat.le_of_ble_eq_true rfl)) dX3_trailer_83 ⟨Nat.le_of_ble_eq_true rfl, Nat.le_of_ble_eq_true rfl⟩) hS hA hP (fun r_9 H locs hr_9 hP hS => ?_)
            subst hr_9
            refine x_roi (pc := 86) (va_runS (As := [.int (bI (mkB k.1 ((w * 5 + 4) * 256 + 3 * 8)))]) (rest := []) ⟨hx, hb, hml, hown, hts⟩ (kX3_asNumber l dC dI tt cI cB _ (mkB k.1 ((w * 5 + 4) * 256 + 3 * 8))) (va_cwS 1 hts gX3_trailer_X3_asNumber rfl rfl rfl (by decide +kernel) ⟨Nat.le_of_ble_eq_true rfl, Nat.le_of_ble_eq_true rfl⟩) (x_preS hS hE hK hP hD [] rfl (by decide) (x_ro hS hA) xR0) rfl rfl hl.1 rfl (lv_room (Nat.le_of_ble_eq_true rfl)) dX3_trailer_86 ⟨Nat.le_of_ble_eq_true rfl, Nat.le_of_ble_eq_true rfl⟩) hS hA hP (fun r_10 H locs hr_10 hP hS => ?_)
            subst hr_10
            exact W.iret (v := bI (mkB k.1 ((w * 5 + 4) * 256 + 3 * 8))) hx hb hr (fun t ht hW => ⟨⟨bI (mkB k.1 ((w * 5 + 4) * 256 + 3 * 8)), (), rfl, by unfold trlV trlW; rw [if_pos c1, hcl, if_neg s0, if_neg s1, if_neg s2, if_pos s3], trivial⟩, hS.F ht⟩) hS.2.2 dX3_trailer_89
          · skip
            by_cases s4 : y = nI 4
            · skip
              refine lv_tableIn (pc := 15) (tgt := 90) (off := 75) hx hb dX3_trailer_15 (by rw [s4]; decide) (by rw [s4]; decide) (by rw [s4]; decide) (by decide) ?_
              refine lv_aload_n (pc := 90) hx hb dX3_trailer_90 rfl (lv_at hl 1 rfl) ?_
              refine lv_iload_n (pc := 91) hx hb dX3_trailer_91 rfl (lv_at hl 0 rfl) ?_
              refine x_roi (pc := 92) (va_runV (As := [.int (nI (w * 5 + 4))]) (rest := []) ⟨hx, hb, hml, hown, hts⟩ (kX3_stepsSet l dC dI tt cI cB _ a0 a1 a2 a3 a4 a5 a6 a7 a8 a9 k ut tb tn sc hs rn rv wb ee we (w * 5 + 4) (by omega)) (cwV 1 hts gX3_trailer_X3_stepsSet rfl rfl rfl (by decide +kernel) ⟨Nat.le_of_ble_eq_true rfl, Nat.le_of_ble_eq_true rfl⟩) (x_preVa hS hE hK hP hD (x_ro hS hA) xR0 3 0 rfl rfl) rfl rfl hl.1 rfl (lv_room (Nat.le_of_ble_eq_true rfl)) dX3_trailer_92 ⟨Nat.le_of_ble_eq_true rfl, Nat.le_of_ble_eq_true rfl⟩) hS hA hP (fun r_11 H locs hr_11 hP hS => ?_)
              subst hr_11
              exact W.iret (v := nI (cntN k.1 ((w * 5 + 4) * 256) 12)) hx hb hr (fun t ht hW => ⟨⟨nI (cntN k.1 ((w * 5 + 4) * 256) 12), (), rfl, by unfold trlV trlW; rw [if_pos c1, hcl, if_neg s0, if_neg s1, if_neg s2, if_neg s3, if_pos s4], trivial⟩, hS.F ht⟩) hS.2.2 dX3_trailer_95
            · skip
              have q0 := lv_neT s0 (a := 0) (by decide)
              have q1 := lv_neT s1 (a := 1) (by decide)
              have q2 := lv_neT s2 (a := 2) (by decide)
              have q3 := lv_neT s3 (a := 3) (by decide)
              have q4 := lv_neT s4 (a := 4) (by decide)
              refine lv_tableOut (pc := 15) (tgt := 96) hx hb dX3_trailer_15 (by omega) (by decide) ?_
              refine lv_iconst (pc := 96) (v := (-1)) hx hb dX3_trailer_96 (by decide) ?_
              exact W.iret (v := (-1)) hx hb hr (fun t ht hW => ⟨⟨(-1), (), rfl, by unfold trlV trlW; rw [if_pos c1, hcl, if_neg s0, if_neg s1, if_neg s2, if_neg s3, if_neg s4], trivial⟩, hS.F ht⟩) hS.2.2 dX3_trailer_97
  · skip
    have c1 : slotB x = false := bI_0.mp c1
    refine lv_iconst (pc := 7) (v := (-1)) hx hb dX3_trailer_7 (by decide) ?_
    exact W.iret (v := (-1)) hx hb hr (fun t ht hW => ⟨⟨(-1), (), rfl, by unfold trlV; rw [if_neg (by rw [c1]; decide)], trivial⟩, hS.F ht⟩) hS.2.2 dX3_trailer_8
set_option maxHeartbeats 4000000 in
set_option maxRecDepth 100000 in
theorem kX3_look (l : Launch) (dC : Nat → ClassId) (dI : Nat → Nat → Nat) (tt : Nat → Nat) (cI cB : ClassId) (sz : Nat) (a0 a1 a2 a3 a4 a5 a6 a7 a8 a9 : Nat) (k : K0) (ut : Nat → Int32) (tb : Nat → Int8) (tn : Nat) (sc hs : Nat → Int32) (rn : Bool) (rv wb ee we : Int32) (x : Int32)  : MetR l yX3_look wsX3_look { frames := 1, cells := 0, slots := 0, locals := 20 } (dC, dI) [(cI, .int), (cB, .byte)] tt [] sz (xW a0 a1 a2 a3 a4 a5 a6 a7 a8 a9 cI k ut tb tn sc hs rn rv wb ee we) [.ref a0, .int x] (fun r => r = lookV k rn rv wb ee we x) := by
  refine Met.ofW (cc := cX3_look) (maxL := 2) (ret := (some .int)) (by decide) rfl ?_
  intro p e s m args below meth c s₁ B hml hv
  obtain ⟨rfl, hsz, hP, hK, hD0, hE⟩ := hv
  have hx := B.exec
  have hb := B.bytes
  have hr := B.returns
  have hts := atoms_spec (ws := wsX3_look) B.pre
  have hown : s.vm.findClass RX3 = some m.cls := findClass_of_methodNamed B.named
  have hlocks := B.notSynchronized
  subst hsz
  have hD := hD0
  generalize hAe : va_A [] s.heap.size = A at hE ⊢
  have hA : ∀ q : Nat, s.heap.size ≤ q → A q := fun q h => by rw [← hAe]; exact Or.inr h
  have hS : va_S A s.heap s.heap [] := va_S.rf
  have hl := lv_entry ([.ref a0, .int x]) (n := 2) (Nat.le_of_ble_eq_true rfl)
  rw [lg_entry_eq]
  generalize (lg_sl ([.ref a0, .int x]) ++ List.replicate (2 - (lg_sl ([.ref a0, .int x])).length) Slot.unset).toArray = ls at hl ⊢
  have hl : lv_has ls 2 [(0, .ref a0), (1, .int x)] := hl
  have hP : va_P (dC, dI) vwCl (xW a0 a1 a2 a3 a4 a5 a6 a7 a8 a9 cI k ut tb tn sc hs rn rv wb ee we) s.heap := hP
  refine lv_iload_n (pc := 0) hx hb dX3_look_0 rfl (lv_at hl 1 rfl) ?_
  by_cases s0 : x = nI 0
  · skip
    refine lv_tableIn (pc := 1) (tgt := 52) (off := 51) hx hb dX3_look_1 (by rw [s0]; decide) (by rw [s0]; decide) (by rw [s0]; decide) (by decide) ?_
    refine lv_aload_n (pc := 52) hx hb dX3_look_52 rfl (lv_at hl 0 rfl) ?_
    refine va_get (pc := 53) (D := (dC, dI)) (ci := 3) (v := .ref a1) (C := RX3) (T := TX3) (N := 8) hx hb hts (by decide +kernel) hown hK hP 0 rfl rfl 0 (by decide) (hts (.fieldLink RX3 12 "ScratchSwap" "memory" "LScratchSwap$Memory;") (by decide +kernel)) (fun _ h9 => h9) rfl dX3_look_53 ?_
    refine va_getN (pc := 56) (D := (dC, dI)) (ci := 0) (v := .int (bI k.2.2.1)) (C := RX0) (T := TX0) (N := 9) hx hb hts (by decide +kernel) hown hK hP 1 rfl rfl 3 (by decide) (hE.f 2 (q := (RX3, 58, "ScratchSwap$Memory", "down", "Z", "ScratchSwap")) rfl) (fun _ h9 => h9) rfl dX3_look_56 ?_
    refine x_roi (pc := 59) (va_runS (As := [.int (bI k.2.2.1)]) (rest := []) ⟨hx, hb, hml, hown, hts⟩ (kX3_asNumber l dC dI tt cI cB _ k.2.2.1) (va_cwS 1 hts gX3_look_X3_asNumber rfl rfl rfl (by decide +kernel) ⟨Nat.le_of_ble_eq_true rfl, Nat.le_of_ble_eq_true rfl⟩) (x_preS hS hE hK hP hD [] rfl (by decide) (x_ro hS hA) xR0) rfl rfl hl.1 rfl (lv_room (Nat.le_of_ble_eq_true rfl)) dX3_look_59 ⟨Nat.le_of_ble_eq_true rfl, Nat.le_of_ble_eq_true rfl⟩) hS hA hP (fun r_1 H locs hr_1 hP hS => ?_)
    subst hr_1
    exact W.iret (v := bI k.2.2.1) hx hb hr (fun t ht hW => ⟨⟨bI k.2.2.1, (), rfl, by unfold lookV; rw [if_pos s0], trivial⟩, hS.F ht⟩) hS.2.2 dX3_look_62
  · skip
    by_cases s1 : x = nI 1
    · skip
      refine lv_tableIn (pc := 1) (tgt := 63) (off := 62) hx hb dX3_look_1 (by rw [s1]; decide) (by rw [s1]; decide) (by rw [s1]; decide) (by decide) ?_
      refine lv_aload_n (pc := 63) hx hb dX3_look_63 rfl (lv_at hl 0 rfl) ?_
      refine va_get (pc := 64) (D := (dC, dI)) (ci := 3) (v := .int (bI rn)) (C := RX3) (T := TX3) (N := 8) hx hb hts (by decide +kernel) hown hK hP 0 rfl rfl 3 (by decide) (hts (.fieldLink RX3 30 "ScratchSwap" "runs" "Z") (by decide +kernel)) (fun _ h9 => h9) rfl dX3_look_64 ?_
      refine x_roi (pc := 67) (va_runS (As := [.int (bI rn)]) (rest := []) ⟨hx, hb, hml, hown, hts⟩ (kX3_asNumber l dC dI tt cI cB _ rn) (va_cwS 1 hts gX3_look_X3_asNumber rfl rfl rfl (by decide +kernel) ⟨Nat.le_of_ble_eq_true rfl, Nat.le_of_ble_eq_true rfl⟩) (x_preS hS hE hK hP hD [] rfl (by decide) (x_ro hS hA) xR0) rfl rfl hl.1 rfl (lv_room (Nat.le_of_ble_eq_true rfl)) dX3_look_67 ⟨Nat.le_of_ble_eq_true rfl, Nat.le_of_ble_eq_true rfl⟩) hS hA hP (fun r_2 H locs hr_2 hP hS => ?_)
      subst hr_2
      exact W.iret (v := bI rn) hx hb hr (fun t ht hW => ⟨⟨bI rn, (), rfl, by unfold lookV; rw [if_neg s0, if_pos s1], trivial⟩, hS.F ht⟩) hS.2.2 dX3_look_70
    · skip
      by_cases s2 : x = nI 2
      · skip
        refine lv_tableIn (pc := 1) (tgt := 71) (off := 70) hx hb dX3_look_1 (by rw [s2]; decide) (by rw [s2]; decide) (by rw [s2]; decide) (by decide) ?_
        refine lv_aload_n (pc := 71) hx hb dX3_look_71 rfl (lv_at hl 0 rfl) ?_
        refine va_get (pc := 72) (D := (dC, dI)) (ci := 3) (v := .int rv) (C := RX3) (T := TX3) (N := 8) hx hb hts (by decide +kernel) hown hK hP 0 rfl rfl 4 (by decide) (hts (.fieldLink RX3 34 "ScratchSwap" "runningVersion" "I") (by decide +kernel)) (fun _ h9 => h9) rfl dX3_look_72 ?_
        exact W.iret (v := rv) hx hb hr (fun t ht hW => ⟨⟨rv, (), rfl, by unfold lookV; rw [if_neg s0, if_neg s1, if_pos s2], trivial⟩, hS.F ht⟩) hS.2.2 dX3_look_75
      · skip
        by_cases s3 : x = nI 3
        · skip
          refine lv_tableIn (pc := 1) (tgt := 76) (off := 75) hx hb dX3_look_1 (by rw [s3]; decide) (by rw [s3]; decide) (by rw [s3]; decide) (by decide) ?_
          refine lv_aload_n (pc := 76) hx hb dX3_look_76 rfl (lv_at hl 0 rfl) ?_
          refine va_get (pc := 77) (D := (dC, dI)) (ci := 3) (v := .ref a1) (C := RX3) (T := TX3) (N := 8) hx hb hts (by decide +kernel) hown hK hP 0 rfl rfl 0 (by decide) (hts (.fieldLink RX3 12 "ScratchSwap" "memory" "LScratchSwap$Memory;") (by decide +kernel)) (fun _ h9 => h9) rfl dX3_look_77 ?_
          refine va_getN (pc := 80) (D := (dC, dI)) (ci := 0) (v := .int k.2.2.2.2.2.2.1) (C := RX0) (T := TX0) (N := 9) hx hb hts (by decide +kernel) hown hK hP 1 rfl rfl 7 (by decide) (hE.f 3 (q := (RX3, 157, "ScratchSwap$Memory", "actsDone", "I", "ScratchSwap")) rfl) (fun _ h9 => h9) rfl dX3_look_80 ?_
          exact W.iret (v := k.2.2.2.2.2.2.1) hx hb hr (fun t ht hW => ⟨⟨k.2.2.2.2.2.2.1, (), rfl, by unfold lookV; rw [if_neg s0, if_neg s1, if_neg s2, if_pos s3], trivial⟩, hS.F ht⟩) hS.2.2 dX3_look_83
        · skip
          by_cases s4 : x = nI 4
          · skip
            refine lv_tableIn (pc := 1) (tgt := 84) (off := 83) hx hb dX3_look_1 (by rw [s4]; decide) (by rw [s4]; decide) (by rw [s4]; decide) (by decide) ?_
            refine lv_aload_n (pc := 84) hx hb dX3_look_84 rfl (lv_at hl 0 rfl) ?_
            refine va_get (pc := 85) (D := (dC, dI)) (ci := 3) (v := .ref a1) (C := RX3) (T := TX3) (N := 8) hx hb hts (by decide +kernel) hown hK hP 0 rfl rfl 0 (by decide) (hts (.fieldLink RX3 12 "ScratchSwap" "memory" "LScratchSwap$Memory;") (by decide +kernel)) (fun _ h9 => h9) rfl dX3_look_85 ?_
            refine x_roi (pc := 88) (va_runVN (As := []) (rest := []) ⟨hx, hb, hml, hown, hts⟩ (kX0_actsStillDone l dC dI tt cI cB _ a1 a2 a3 a4 k ut) (⟨va_cnB 0 hts gX3_look_X0_actsStillDone_n160 rfl rfl rfl (hE.m 23 (q := (RX3, 160, yX0_actsStillDone, "ScratchSwap")) rfl) (hts (.initialized RX0) (by decide +kernel)) (by decide +kernel) ⟨Nat.le_of_ble_eq_true rfl, Nat.le_of_ble_eq_true rfl⟩, hts (.instanceMethod yX0_actsStillDone) (by decide +kernel), hts (.selects RX0 yX0_actsStillDone yX0_actsStillDone) (by decide +kernel)⟩) (x_preV hS hE hK hP hD [1, 2, 3, 4] rfl (by decide) (x_ro hS hA) xR0 0 1 rfl rfl) rfl rfl hl.1 rfl (lv_room (Nat.le_of_ble_eq_true rfl)) dX3_look_88 ⟨Nat.le_of_ble_eq_true rfl, Nat.le_of_ble_eq_true rfl⟩) hS hA hP (fun r_3 H locs hr_3 hP hS => ?_)
            subst hr_3
            exact W.iret (v := stillV k) hx hb hr (fun t ht hW => ⟨⟨stillV k, (), rfl, by unfold lookV; rw [if_neg s0, if_neg s1, if_neg s2, if_neg s3, if_pos s4], trivial⟩, hS.F ht⟩) hS.2.2 dX3_look_91
          · skip
            by_cases s5 : x = nI 5
            · skip
              refine lv_tableIn (pc := 1) (tgt := 92) (off := 91) hx hb dX3_look_1 (by rw [s5]; decide) (by rw [s5]; decide) (by rw [s5]; decide) (by decide) ?_
              refine lv_aload_n (pc := 92) hx hb dX3_look_92 rfl (lv_at hl 0 rfl) ?_
              refine va_get (pc := 93) (D := (dC, dI)) (ci := 3) (v := .int wb) (C := RX3) (T := TX3) (N := 8) hx hb hts (by decide +kernel) hown hK hP 0 rfl rfl 5 (by decide) (hts (.fieldLink RX3 38 "ScratchSwap" "wholeBoots" "I") (by decide +kernel)) (fun _ h9 => h9) rfl dX3_look_93 ?_
              exact W.iret (v := wb) hx hb hr (fun t ht hW => ⟨⟨wb, (), rfl, by unfold lookV; rw [if_neg s0, if_neg s1, if_neg s2, if_neg s3, if_neg s4, if_pos s5], trivial⟩, hS.F ht⟩) hS.2.2 dX3_look_96
            · skip
              by_cases s6 : x = nI 6
              · skip
                refine lv_tableIn (pc := 1) (tgt := 97) (off := 96) hx hb dX3_look_1 (by rw [s6]; decide) (by rw [s6]; decide) (by rw [s6]; decide) (by decide) ?_
                refine lv_aload_n (pc := 97) hx hb dX3_look_97 rfl (lv_at hl 0 rfl) ?_
                refine va_get (pc := 98) (D := (dC, dI)) (ci := 3) (v := .int ee) (C := RX3) (T := TX3) (N := 8) hx hb hts (by decide +kernel) hown hK hP 0 rfl rfl 6 (by decide) (hts (.fieldLink RX3 41 "ScratchSwap" "exchangesEnded" "I") (by decide +kernel)) (fun _ h9 => h9) rfl dX3_look_98 ?_
                exact W.iret (v := ee) hx hb hr (fun t ht hW => ⟨⟨ee, (), rfl, by unfold lookV; rw [if_neg s0, if_neg s1, if_neg s2, if_neg s3, if_neg s4, if_neg s5, if_pos s6], trivial⟩, hS.F ht⟩) hS.2.2 dX3_look_101
              · skip
                by_cases s7 : x = nI 7
                · skip
                  refine lv_tableIn (pc := 1) (tgt := 102) (off := 101) hx hb dX3_look_1 (by rw [s7]; decide) (by rw [s7]; decide) (by rw [s7]; decide) (by decide) ?_
                  refine lv_aload_n (pc := 102) hx hb dX3_look_102 rfl (lv_at hl 0 rfl) ?_
                  refine va_get (pc := 103) (D := (dC, dI)) (ci := 3) (v := .int we) (C := RX3) (T := TX3) (N := 8) hx hb hts (by decide +kernel) hown hK hP 0 rfl rfl 7 (by decide) (hts (.fieldLink RX3 44 "ScratchSwap" "wrongsErased" "I") (by decide +kernel)) (fun _ h9 => h9) rfl dX3_look_103 ?_
                  exact W.iret (v := we) hx hb hr (fun t ht hW => ⟨⟨we, (), rfl, by unfold lookV; rw [if_neg s0, if_neg s1, if_neg s2, if_neg s3, if_neg s4, if_neg s5, if_neg s6, if_pos s7], trivial⟩, hS.F ht⟩) hS.2.2 dX3_look_106
                · skip
                  by_cases s8 : x = nI 8
                  · skip
                    refine lv_tableIn (pc := 1) (tgt := 107) (off := 106) hx hb dX3_look_1 (by rw [s8]; decide) (by rw [s8]; decide) (by rw [s8]; decide) (by decide) ?_
                    refine lv_aload_n (pc := 107) hx hb dX3_look_107 rfl (lv_at hl 0 rfl) ?_
                    refine va_get (pc := 108) (D := (dC, dI)) (ci := 3) (v := .ref a1) (C := RX3) (T := TX3) (N := 8) hx hb hts (by decide +kernel) hown hK hP 0 rfl rfl 0 (by decide) (hts (.fieldLink RX3 12 "ScratchSwap" "memory" "LScratchSwap$Memory;") (by decide +kernel)) (fun _ h9 => h9) rfl dX3_look_108 ?_
                    refine va_getN (pc := 111) (D := (dC, dI)) (ci := 0) (v := .int k.2.2.2.2.2.2.2) (C := RX0) (T := TX0) (N := 9) hx hb hts (by decide +kernel) hown hK hP 1 rfl rfl 8 (by decide) (hE.f 4 (q := (RX3, 163, "ScratchSwap$Memory", "timesGone", "I", "ScratchSwap")) rfl) (fun _ h9 => h9) rfl dX3_look_111 ?_
                    exact W.iret (v := k.2.2.2.2.2.2.2) hx hb hr (fun t ht hW => ⟨⟨k.2.2.2.2.2.2.2, (), rfl, by unfold lookV; rw [if_neg s0, if_neg s1, if_neg s2, if_neg s3, if_neg s4, if_neg s5, if_neg s6, if_neg s7, if_pos s8], trivial⟩, hS.F ht⟩) hS.2.2 dX3_look_114
                  · skip
                    have q0 := lv_neT s0 (a := 0) (by decide)
                    have q1 := lv_neT s1 (a := 1) (by decide)
                    have q2 := lv_neT s2 (a := 2) (by decide)
                    have q3 := lv_neT s3 (a := 3) (by decide)
                    have q4 := lv_neT s4 (a := 4) (by decide)
                    have q5 := lv_neT s5 (a := 5) (by decide)
                    have q6 := lv_neT s6 (a := 6) (by decide)
                    have q7 := lv_neT s7 (a := 7) (by decide)
                    have q8 := lv_neT s8 (a := 8) (by decide)
                    refine lv_tableOut (pc := 1) (tgt := 115) hx hb dX3_look_1 (by omega) (by decide) ?_
                    refine lv_iconst (pc := 115) (v := (-1)) hx hb dX3_look_115 (by decide) ?_
                    exact W.iret (v := (-1)) hx hb hr (fun t ht hW => ⟨⟨(-1), (), rfl, by unfold lookV; rw [if_neg s0, if_neg s1, if_neg s2, if_neg s3, if_neg s4, if_neg s5, if_neg s6, if_neg s7, if_neg s8], trivial⟩, hS.F ht⟩) hS.2.2 dX3_look_116
set_option maxHeartbeats 4000000 in
set_option maxRecDepth 100000 in
theorem kX3_flash (l : Launch) (dC : Nat → ClassId) (dI : Nat → Nat → Nat) (tt : Nat → Nat) (cI cB : ClassId) (sz : Nat) (a0 a1 a2 a3 a4 a5 a6 a7 a8 a9 : Nat) (k : K0) (ut : Nat → Int32) (tb : Nat → Int8) (tn : Nat) (sc hs : Nat → Int32) (rn : Bool) (rv wb ee we : Int32) (x : Int32)  : MetR l yX3_flash wsX3_flash { frames := 1, cells := 0, slots := 0, locals := 21 } (dC, dI) [(cI, .int), (cB, .byte)] tt [] sz (xW a0 a1 a2 a3 a4 a5 a6 a7 a8 a9 cI k ut tb tn sc hs rn rv wb ee we) [.ref a0, .int x] (fun r => r = flaV k.1 x) := by
  refine Met.ofW (cc := cX3_flash) (maxL := 2) (ret := (some .int)) (by decide) rfl ?_
  intro p e s m args below meth c s₁ B hml hv
  obtain ⟨rfl, hsz, hP, hK, hD0, hE⟩ := hv
  have hx := B.exec
  have hb := B.bytes
  have hr := B.returns
  have hts := atoms_spec (ws := wsX3_flash) B.pre
  have hown : s.vm.findClass RX3 = some m.cls := findClass_of_methodNamed B.named
  have hlocks := B.notSynchronized
  subst hsz
  have hD := hD0
  generalize hAe : va_A [] s.heap.size = A at hE ⊢
  have hA : ∀ q : Nat, s.heap.size ≤ q → A q := fun q h => by rw [← hAe]; exact Or.inr h
  have hS : va_S A s.heap s.heap [] := va_S.rf
  have hl := lv_entry ([.ref a0, .int x]) (n := 2) (Nat.le_of_ble_eq_true rfl)
  rw [lg_entry_eq]
  generalize (lg_sl ([.ref a0, .int x]) ++ List.replicate (2 - (lg_sl ([.ref a0, .int x])).length) Slot.unset).toArray = ls at hl ⊢
  have hl : lv_has ls 2 [(0, .ref a0), (1, .int x)] := hl
  have hP : va_P (dC, dI) vwCl (xW a0 a1 a2 a3 a4 a5 a6 a7 a8 a9 cI k ut tb tn sc hs rn rv wb ee we) s.heap := hP
  refine lv_iload_n (pc := 0) hx hb dX3_flash_0 rfl (lv_at hl 1 rfl) ?_
  refine x_roi (pc := 1) (va_runSN (As := [.int x]) (rest := []) ⟨hx, hb, hml, hown, hts⟩ (kX0_has l dC dI tt cI cB _ (x)) (⟨va_cnB 1 hts gX3_flash_X0_has_n125 rfl rfl rfl (hE.m 20 (q := (RX3, 125, yX0_has, "ScratchSwap")) rfl) (hts (.initialized RX0) (by decide +kernel)) (by decide +kernel) ⟨Nat.le_of_ble_eq_true rfl, Nat.le_of_ble_eq_true rfl⟩, hts (.static yX0_has) (by decide +kernel), trivial⟩) (x_preS hS hE hK hP hD [] rfl (by decide) (x_ro hS hA) xR0) rfl rfl hl.1 rfl (lv_room (Nat.le_of_ble_eq_true rfl)) dX3_flash_1 ⟨Nat.le_of_ble_eq_true rfl, Nat.le_of_ble_eq_true rfl⟩) hS hA hP (fun r_1 H locs hr_1 hP hS => ?_)
  subst hr_1
  refine lv_if_eq (pc := 4) (tgt := 18) hx hb dX3_flash_4 (by decide) (fun c1 => ?_) (fun c1 => ?_)
  · skip
    have c1 : inB 2816 (x) = false := bI_0.mp c1
    refine lv_iconst (pc := 18) (v := (-1)) hx hb dX3_flash_18 (by decide) ?_
    exact W.iret (v := (-1)) hx hb hr (fun t ht hW => ⟨⟨(-1), (), rfl, by unfold flaV; rw [if_neg (by rw [c1]; decide)], trivial⟩, hS.F ht⟩) hS.2.2 dX3_flash_19
  · skip
    have c1 : inB 2816 (x) = true := bI_1.mp c1
    obtain ⟨n, hn, en⟩ := inB_of (n := 2816) (by decide) c1
    rw [en] at hl
    have hcl : x.toNatClampNeg = n := by rw [en]; exact nI_clamp (by omega)
    refine lv_aload_n (pc := 7) hx hb dX3_flash_7 rfl (lv_at hl 0 rfl) ?_
    refine va_get (pc := 8) (D := (dC, dI)) (ci := 3) (v := .ref a1) (C := RX3) (T := TX3) (N := 8) hx hb hts (by decide +kernel) hown hK hP 0 rfl rfl 0 (by decide) (hts (.fieldLink RX3 12 "ScratchSwap" "memory" "LScratchSwap$Memory;") (by decide +kernel)) (fun _ h9 => h9) rfl dX3_flash_8 ?_
    refine lv_iload_n (pc := 11) hx hb dX3_flash_11 rfl (lv_at hl 1 rfl) ?_
    refine x_roi (pc := 12) (va_runVN (As := [.int (nI n)]) (rest := []) ⟨hx, hb, hml, hown, hts⟩ (kX0_byteAt l dC dI tt cI cB _ a1 a2 a3 a4 k ut n (by omega)) (⟨va_cnB 1 hts gX3_flash_X0_byteAt_n131 rfl rfl rfl (hE.m 15 (q := (RX3, 131, yX0_byteAt, "ScratchSwap")) rfl) (hts (.initialized RX0) (by decide +kernel)) (by decide +kernel) ⟨Nat.le_of_ble_eq_true rfl, Nat.le_of_ble_eq_true rfl⟩, hts (.instanceMethod yX0_byteAt) (by decide +kernel), hts (.selects RX0 yX0_byteAt yX0_byteAt) (by decide +kernel)⟩) (x_preV hS hE hK hP hD [1, 2, 3, 4] rfl (by decide) (x_ro hS hA) xR0 0 1 rfl rfl) rfl rfl hl.1 rfl (lv_room (Nat.le_of_ble_eq_true rfl)) dX3_flash_12 ⟨Nat.le_of_ble_eq_true rfl, Nat.le_of_ble_eq_true rfl⟩) hS hA hP (fun r_2 H locs hr_2 hP hS => ?_)
    subst hr_2
    refine lv_goto (pc := 15) (tgt := 19) hx hb dX3_flash_15 (by decide) ?_
    exact W.iret (v := ub (k.1 n)) hx hb hr (fun t ht hW => ⟨⟨ub (k.1 n), (), rfl, by unfold flaV; rw [if_pos c1, hcl], trivial⟩, hS.F ht⟩) hS.2.2 dX3_flash_19
set_option maxHeartbeats 4000000 in
set_option maxRecDepth 100000 in
theorem kX3_wear (l : Launch) (dC : Nat → ClassId) (dI : Nat → Nat → Nat) (tt : Nat → Nat) (cI cB : ClassId) (sz : Nat) (a0 a1 a2 a3 a4 a5 a6 a7 a8 a9 : Nat) (k : K0) (ut : Nat → Int32) (tb : Nat → Int8) (tn : Nat) (sc hs : Nat → Int32) (rn : Bool) (rv wb ee we : Int32) (x : Int32)  : MetR l yX3_wear wsX3_wear { frames := 1, cells := 0, slots := 0, locals := 20 } (dC, dI) [(cI, .int), (cB, .byte)] tt [] sz (xW a0 a1 a2 a3 a4 a5 a6 a7 a8 a9 cI k ut tb tn sc hs rn rv wb ee we) [.ref a0, .int x] (fun r => r = weaV k.2.1 x) := by
  refine Met.ofW (cc := cX3_wear) (maxL := 2) (ret := (some .int)) (by decide) rfl ?_
  intro p e s m args below meth c s₁ B hml hv
  obtain ⟨rfl, hsz, hP, hK, hD0, hE⟩ := hv
  have hx := B.exec
  have hb := B.bytes
  have hr := B.returns
  have hts := atoms_spec (ws := wsX3_wear) B.pre
  have hown : s.vm.findClass RX3 = some m.cls := findClass_of_methodNamed B.named
  have hlocks := B.notSynchronized
  subst hsz
  have hD := hD0
  generalize hAe : va_A [] s.heap.size = A at hE ⊢
  have hA : ∀ q : Nat, s.heap.size ≤ q → A q := fun q h => by rw [← hAe]; exact Or.inr h
  have hS : va_S A s.heap s.heap [] := va_S.rf
  have hl := lv_entry ([.ref a0, .int x]) (n := 2) (Nat.le_of_ble_eq_true rfl)
  rw [lg_entry_eq]
  generalize (lg_sl ([.ref a0, .int x]) ++ List.replicate (2 - (lg_sl ([.ref a0, .int x])).length) Slot.unset).toArray = ls at hl ⊢
  have hl : lv_has ls 2 [(0, .ref a0), (1, .int x)] := hl
  have hP : va_P (dC, dI) vwCl (xW a0 a1 a2 a3 a4 a5 a6 a7 a8 a9 cI k ut tb tn sc hs rn rv wb ee we) s.heap := hP
  refine lv_iload_n (pc := 0) hx hb dX3_wear_0 rfl (lv_at hl 1 rfl) ?_
  refine x_roi (pc := 1) (va_runSN (As := [.int x]) (rest := []) ⟨hx, hb, hml, hown, hts⟩ (kX0_hasSector l dC dI tt cI cB _ (x)) (⟨va_cnB 1 hts gX3_wear_X0_hasSector_n151 rfl rfl rfl (hE.m 22 (q := (RX3, 151, yX0_hasSector, "ScratchSwap")) rfl) (hts (.initialized RX0) (by decide +kernel)) (by decide +kernel) ⟨Nat.le_of_ble_eq_true rfl, Nat.le_of_ble_eq_true rfl⟩, hts (.static yX0_hasSector) (by decide +kernel), trivial⟩) (x_preS hS hE hK hP hD [] rfl (by decide) (x_ro hS hA) xR0) rfl rfl hl.1 rfl (lv_room (Nat.le_of_ble_eq_true rfl)) dX3_wear_1 ⟨Nat.le_of_ble_eq_true rfl, Nat.le_of_ble_eq_true rfl⟩) hS hA hP (fun r_1 H locs hr_1 hP hS => ?_)
  subst hr_1
  refine lv_if_eq (pc := 4) (tgt := 19) hx hb dX3_wear_4 (by decide) (fun c1 => ?_) (fun c1 => ?_)
  · skip
    have c1 : inB 11 (x) = false := bI_0.mp c1
    refine lv_iconst (pc := 19) (v := (-1)) hx hb dX3_wear_19 (by decide) ?_
    exact W.iret (v := (-1)) hx hb hr (fun t ht hW => ⟨⟨(-1), (), rfl, by unfold weaV; rw [if_neg (by rw [c1]; decide)], trivial⟩, hS.F ht⟩) hS.2.2 dX3_wear_20
  · skip
    have c1 : inB 11 (x) = true := bI_1.mp c1
    obtain ⟨n, hn, en⟩ := inB_of (n := 11) (by decide) c1
    rw [en] at hl
    have hcl : x.toNatClampNeg = n := by rw [en]; exact nI_clamp (by omega)
    refine lv_aload_n (pc := 7) hx hb dX3_wear_7 rfl (lv_at hl 0 rfl) ?_
    refine va_get (pc := 8) (D := (dC, dI)) (ci := 3) (v := .ref a1) (C := RX3) (T := TX3) (N := 8) hx hb hts (by decide +kernel) hown hK hP 0 rfl rfl 0 (by decide) (hts (.fieldLink RX3 12 "ScratchSwap" "memory" "LScratchSwap$Memory;") (by decide +kernel)) (fun _ h9 => h9) rfl dX3_wear_8 ?_
    refine va_getN (pc := 11) (D := (dC, dI)) (ci := 0) (v := .ref a3) (C := RX0) (T := TX0) (N := 9) hx hb hts (by decide +kernel) hown hK hP 1 rfl rfl 1 (by decide) (hE.f 1 (q := (RX3, 154, "ScratchSwap$Memory", "timesErased", "[I", "ScratchSwap")) rfl) (fun _ h9 => h9) rfl dX3_wear_11 ?_
    refine lv_iload_n (pc := 14) hx hb dX3_wear_14 rfl (lv_at hl 1 rfl) ?_
    refine x_iald (pc := 15) (k := n) (f := k.2.1) hx hb hK hP 3 0 rfl rfl (by omega) (by decide) dX3_wear_15 ?_
    refine lv_goto (pc := 16) (tgt := 20) hx hb dX3_wear_16 (by decide) ?_
    exact W.iret (v := k.2.1 n) hx hb hr (fun t ht hW => ⟨⟨k.2.1 n, (), rfl, by unfold weaV; rw [if_pos c1, hcl], trivial⟩, hS.F ht⟩) hS.2.2 dX3_wear_20
set_option maxHeartbeats 4000000 in
set_option maxRecDepth 100000 in
theorem kX3_taped (l : Launch) (dC : Nat → ClassId) (dI : Nat → Nat → Nat) (tt : Nat → Nat) (cI cB : ClassId) (sz : Nat) (a0 a1 a2 a3 a4 a5 a6 a7 a8 a9 : Nat) (k : K0) (ut : Nat → Int32) (tb : Nat → Int8) (tn : Nat) (sc hs : Nat → Int32) (rn : Bool) (rv wb ee we : Int32)  : MetR l yX3_taped wsX3_taped { frames := 0, cells := 0, slots := 0, locals := 0 } (dC, dI) [(cI, .int), (cB, .byte)] tt [] sz (xW a0 a1 a2 a3 a4 a5 a6 a7 a8 a9 cI k ut tb tn sc hs rn rv wb ee we) [.ref a0] (fun r => r = nI tn) := by
  refine Met.ofW (cc := cX3_taped) (maxL := 1) (ret := (some .int)) (by decide) rfl ?_
  intro p e s m args below meth c s₁ B hml hv
  obtain ⟨rfl, hsz, hP, hK, hD0, hE⟩ := hv
  have hx := B.exec
  have hb := B.bytes
  have hr := B.returns
  have hts := atoms_spec (ws := wsX3_taped) B.pre
  have hown : s.vm.findClass RX3 = some m.cls := findClass_of_methodNamed B.named
  have hlocks := B.notSynchronized
  subst hsz
  have hD := hD0
  generalize hAe : va_A [] s.heap.size = A at hE ⊢
  have hA : ∀ q : Nat, s.heap.size ≤ q → A q := fun q h => by rw [← hAe]; exact Or.inr h
  have hS : va_S A s.heap s.heap [] := va_S.rf
  have hl := lv_entry ([.ref a0]) (n := 1) (Nat.le_of_ble_eq_true rfl)
  rw [lg_entry_eq]
  generalize (lg_sl ([.ref a0]) ++ List.replicate (1 - (lg_sl ([.ref a0])).length) Slot.unset).toArray = ls at hl ⊢
  have hl : lv_has ls 1 [(0, .ref a0)] := hl
  have hP : va_P (dC, dI) vwCl (xW a0 a1 a2 a3 a4 a5 a6 a7 a8 a9 cI k ut tb tn sc hs rn rv wb ee we) s.heap := hP
  refine lv_aload_n (pc := 0) hx hb dX3_taped_0 rfl (lv_at hl 0 rfl) ?_
  refine va_get (pc := 1) (D := (dC, dI)) (ci := 3) (v := .ref a5) (C := RX3) (T := TX3) (N := 8) hx hb hts (by decide +kernel) hown hK hP 0 rfl rfl 1 (by decide) (hts (.fieldLink RX3 19 "ScratchSwap" "tape" "LScratchSwap$Tape;") (by decide +kernel)) (fun _ h9 => h9) rfl dX3_taped_1 ?_
  refine va_getN (pc := 4) (D := (dC, dI)) (ci := 2) (v := .int (nI tn)) (C := RX2) (T := TX2) (N := 2) hx hb hts (by decide +kernel) hown hK hP 5 rfl rfl 1 (by decide) (hE.f 6 (q := (RX3, 47, "ScratchSwap$Tape", "count", "I", "ScratchSwap")) rfl) (fun _ h9 => h9) rfl dX3_taped_4 ?_
  exact W.iret (v := nI tn) hx hb hr (fun t ht hW => ⟨⟨nI tn, (), rfl, rfl, trivial⟩, hS.F ht⟩) hS.2.2 dX3_taped_7
