theorem resL_pos (F : Nat → Int8) : 0 < (resL F).length := by
  unfold resL endL
  rw [List.length_append, List.length_append]
  show 0 < (exL 4 F).length + (1 + _)
  omega
theorem dueL_pos (F : Nat → Int8) {d : Nat} (h0 : ¬ d = 0) (h4 : ¬ d = 4) : 0 < (dueL F d).length := by
  unfold dueL
  rw [if_neg h0, if_neg h4]
  split
  · exact resL_pos F
  · rw [List.length_append]; have := resL_pos (appL (begL F d) F); omega
set_option maxHeartbeats 4000000 in
set_option maxRecDepth 100000 in
theorem kX4_boot (l : Launch) (dC : Nat → ClassId) (dI : Nat → Nat → Nat) (tt : Nat → Nat) (cI cB : ClassId) (sz : Nat) (g0 g1 g2 g3 g4 g5 g6 g7 g8 g9 g10 g11 g12 g13 : Nat) (k : K0) (dr : Nat → Int8) (er pl : Nat → Int32) (un : Nat → Int8) (li : Nat) (ov : Int32) (tp : Nat → Int8) (tn : Nat) (rn : Bool) (vs bo ex wr : Int32) (ei dg : Nat → Int8) (wo : Nat → Int32) (pa : Nat → Int8) (ch fi : Nat → Int32) (hlf : k.2.2.2.2.1 < 2 ^ 31) (hcu : k.2.2.2.2.2.1 < 32) : MetI (S := (K0 × (Nat → Int8) × (Nat → Int32) × (Nat → Int32) × (Nat → Int8) × Nat × Int32 × Bool × Int32 × (Nat → Int8) × Int32 × Int32 × Int32 × (Nat → Int8) × (Nat → Int32) × (Nat → Int8) × (Nat → Int32))) l yX4_boot wsX4_boot { frames := 5, cells := 0, slots := 0, locals := 125 } (dC, dI) [(cI, .int), (cB, .byte)] tt [] sz (gW g0 g1 g2 g3 g4 g5 g6 g7 g8 g9 g10 g11 g12 g13 cI cB k dr er pl un li ov tp tn rn vs bo ex wr ei dg wo pa ch fi) [.ref g0] (fun u : (K0 × (Nat → Int8) × (Nat → Int32) × (Nat → Int32) × (Nat → Int8) × Nat × Int32 × Bool × Int32 × (Nat → Int8) × Int32 × Int32 × Int32 × (Nat → Int8) × (Nat → Int32) × (Nat → Int8) × (Nat → Int32)) => gW g0 g1 g2 g3 g4 g5 g6 g7 g8 g9 g10 g11 g12 g13 cI cB u.1 u.2.1 u.2.2.1 u.2.2.2.1 u.2.2.2.2.1 u.2.2.2.2.2.1 u.2.2.2.2.2.2.1 tp tn u.2.2.2.2.2.2.2.1 u.2.2.2.2.2.2.2.2.2.2.1 u.2.2.2.2.2.2.2.2.2.2.2.1 u.2.2.2.2.2.2.2.2.1 u.2.2.2.2.2.2.2.2.2.2.2.2.1 u.2.2.2.2.2.2.2.2.2.1 u.2.2.2.2.2.2.2.2.2.2.2.2.2.1 u.2.2.2.2.2.2.2.2.2.2.2.2.2.2.1 u.2.2.2.2.2.2.2.2.2.2.2.2.2.2.2.1 u.2.2.2.2.2.2.2.2.2.2.2.2.2.2.2.2 fi) (fun r u => (r, u.1, u.2.2.2.2.2.2.2.1, rvV u.2.2.2.2.2.2.2.1 u.2.2.2.2.2.2.2.2.2.2.1, u.2.2.2.2.2.2.2.2.2.2.2.1, u.2.2.2.2.2.2.2.2.1, u.2.2.2.2.2.2.2.2.2.2.2.2.1) = bootR k rn (rvV rn vs) bo ex wr) := by
  refine Met.ofW (cc := cX4_boot) (maxL := 3) (ret := (some .int)) (by decide) rfl ?_
  intro p e s m args below meth c s₁ B hml hv
  obtain ⟨rfl, hsz, hP, hK, hD0, hE⟩ := hv
  have hx := B.exec
  have hb := B.bytes
  have hr := B.returns
  have hts := atoms_spec (ws := wsX4_boot) B.pre
  have hown : s.vm.findClass RX4 = some m.cls := findClass_of_methodNamed B.named
  have hlocks := B.notSynchronized
  subst hsz
  have hD := hD0.self (sz := s.heap.size)
  generalize hAe : va_A (gW g0 g1 g2 g3 g4 g5 g6 g7 g8 g9 g10 g11 g12 g13 cI cB k dr er pl un li ov tp tn rn vs bo ex wr ei dg wo pa ch fi) s.heap.size = A at hD hE ⊢
  have hA : ∀ q : Nat, s.heap.size ≤ q → A q := fun q h => by rw [← hAe]; exact Or.inr h
  have hS : va_S A s.heap s.heap [] := va_S.rf
  have hl := lv_entry ([.ref g0]) (n := 3) (Nat.le_of_ble_eq_true rfl)
  rw [lg_entry_eq]
  generalize (lg_sl ([.ref g0]) ++ List.replicate (3 - (lg_sl ([.ref g0])).length) Slot.unset).toArray = ls at hl ⊢
  have hl : lv_has ls 3 [(0, .ref g0)] := hl
  have hP : va_P (dC, dI) vwCl (gW g0 g1 g2 g3 g4 g5 g6 g7 g8 g9 g10 g11 g12 g13 cI cB k dr er pl un li ov tp tn rn vs bo ex wr ei dg wo pa ch fi) s.heap := hP
  refine lv_aload_n (pc := 0) hx hb dX4_boot_0 rfl (lv_at hl 0 rfl) ?_
  refine va_get (pc := 1) (D := (dC, dI)) (ci := 4) (v := .int (bI k.2.2.1)) (C := RX4) (T := TX4) (N := 26) hx hb hts (by decide +kernel) hown hK hP 0 rfl rfl 9 (by decide) (hts (.fieldLink RX4 88 "ScratchSwapModel" "isDown" "Z") (by decide +kernel)) (fun _ h9 => h9) rfl dX4_boot_1 ?_
  refine lv_if_eq (pc := 4) (tgt := 10) hx hb dX4_boot_4 (by decide) (fun c1 => ?_) (fun c1 => ?_)
  · skip
    have c1 : k.2.2.1 = false := bI_0.mp c1
    have hk : kOk k := ⟨c1, hlf, hcu⟩
    refine lv_aload_n (pc := 10) hx hb dX4_boot_10 rfl (lv_at hl 0 rfl) ?_
    refine lv_iconst (pc := 11) (v := nI 0) hx hb dX4_boot_11 (by decide) ?_
    refine lv_cv (show nI 0 = bI false from rfl) ?_
    refine va_put (pc := 12) (D := (dC, dI)) (ci := 4) (v := .int (bI false)) (ty := .boolean) (C := RX4) (T := TX4) (N := 26) hx hb hts (by decide +kernel) tyX4 tyX4_ok nmX4 hown hK hP hD hS 0 rfl rfl 10 (by decide) (hts (.fieldLink RX4 92 "ScratchSwapModel" "runs" "Z") (by decide +kernel)) (fun _ h9 => h9) rfl (by decide +kernel) (nbI false) (fbI false) (Nat.le_of_ble_eq_true rfl) dX4_boot_12 (fun H locs hP hD hS => ?_)
    have hP : va_P (dC, dI) vwCl (gW g0 g1 g2 g3 g4 g5 g6 g7 g8 g9 g10 g11 g12 g13 cI cB k dr er pl un li ov tp tn false vs bo ex wr ei dg wo pa ch fi) _ := hP
    have hD : va_D A (gW g0 g1 g2 g3 g4 g5 g6 g7 g8 g9 g10 g11 g12 g13 cI cB k dr er pl un li ov tp tn false vs bo ex wr ei dg wo pa ch fi) := hD
    refine lv_aload_n (pc := 15) hx hb dX4_boot_15 rfl (lv_at hl 0 rfl) ?_
    refine x_wria (pc := 16) (va_runV (As := []) (rest := []) ⟨hx, hb, hml, hown, hts⟩ (kX4_due l dC dI tt cI cB _ g0 g1 g2 g3 g4 g5 g6 g7 g8 g9 g10 g11 g12 g13 k dr er pl un li ov tp tn false vs bo ex wr ei dg wo pa ch fi ) (cwV 0 hts gX4_boot_X4_due rfl rfl rfl (by decide +kernel) ⟨Nat.le_of_ble_eq_true rfl, Nat.le_of_ble_eq_true rfl⟩) (x_preVa hS hE hK hP hD (x_all hD hS hA) xR0 4 0 rfl rfl) rfl rfl hl.1 rfl (lv_room (Nat.le_of_ble_eq_true rfl)) dX4_boot_16 ⟨Nat.le_of_ble_eq_true rfl, Nat.le_of_ble_eq_true rfl⟩) hS hA hD (fun r_2 u_1 H locs hu_1 hP hD hS => ?_)
    obtain ⟨dg_3, wo_4, pa_5, ch_6⟩ := u_1
    subst hu_1
    have hP : va_P (dC, dI) vwCl (gW g0 g1 g2 g3 g4 g5 g6 g7 g8 g9 g10 g11 g12 g13 cI cB k dr er pl un li ov tp tn false vs bo ex wr ei dg_3 wo_4 pa_5 ch_6 fi) _ := hP
    have hD : va_D A (gW g0 g1 g2 g3 g4 g5 g6 g7 g8 g9 g10 g11 g12 g13 cI cB k dr er pl un li ov tp tn false vs bo ex wr ei dg_3 wo_4 pa_5 ch_6 fi) := hD
    refine lv_istore_n (pc := 19) (lv' := [(1, .int (nI (dueN k.1))), (0, .ref g0)]) hx hb dX4_boot_19 rfl hl (by decide) rfl (fun ls hl => ?_)
    refine lv_aload_n (pc := 20) hx hb dX4_boot_20 rfl (lv_at hl 1 rfl) ?_
    refine x_wrva (pc := 21) (va_runV (As := []) (rest := []) ⟨hx, hb, hml, hown, hts⟩ (kX4_begins l dC dI tt cI cB _ g0 g1 g2 g3 g4 g5 g6 g7 g8 g9 g10 g11 g12 g13 k dr er pl un li ov tp tn false vs bo ex wr ei dg_3 wo_4 pa_5 ch_6 fi ) (cwV 0 hts gX4_boot_X4_begins rfl rfl rfl (by decide +kernel) ⟨Nat.le_of_ble_eq_true rfl, Nat.le_of_ble_eq_true rfl⟩) (x_preVa hS hE hK hP hD (x_all hD hS hA) xR0 4 0 rfl rfl) rfl rfl hl.1 rfl (lv_room (Nat.le_of_ble_eq_true rfl)) dX4_boot_21 ⟨Nat.le_of_ble_eq_true rfl, Nat.le_of_ble_eq_true rfl⟩) hS hA hD (fun u_7 H locs hu_7 hP hD hS => ?_)
    have hdr : eqF u_7 k.1 := hu_7
    have hP : va_P (dC, dI) vwCl (gW g0 g1 g2 g3 g4 g5 g6 g7 g8 g9 g10 g11 g12 g13 cI cB k u_7 er pl un 0 (-1) tp tn false vs bo ex wr ei dg_3 wo_4 pa_5 ch_6 fi) _ := hP
    have hD : va_D A (gW g0 g1 g2 g3 g4 g5 g6 g7 g8 g9 g10 g11 g12 g13 cI cB k u_7 er pl un 0 (-1) tp tn false vs bo ex wr ei dg_3 wo_4 pa_5 ch_6 fi) := hD
    have hL0 : lstR [] er pl un 0 := lst_0 _ _ _
    have hdlt := dueN_lt k.1
    refine lv_iload_n (pc := 24) hx hb dX4_boot_24 rfl (lv_at hl 0 rfl) ?_
    refine lv_iconst (pc := 25) (v := nI 4) hx hb dX4_boot_25 (by decide) ?_
    refine lv_icmp_ne (pc := 26) (tgt := 38) hx hb dX4_boot_26 (by decide) (fun c2 => ?_) (fun c2 => ?_)
    · skip
      have c2 : ¬ (dueN k.1) = 4 := fun z => c2 ((nI_eq (a := (dueN k.1)) (b := 4) (by omega) (by omega)).mpr z)
      refine lv_iload_n (pc := 38) hx hb dX4_boot_38 rfl (lv_at hl 0 rfl) ?_
      refine lv_if_le (pc := 39) (tgt := 103) hx hb dX4_boot_39 (by decide) (fun c3 => ?_) (fun c3 => ?_)
      · skip
        have c3 : (dueN k.1) ≤ 0 := (nI_leI (a := (dueN k.1)) (b := 0) (by omega) (by omega)).mp c3
        have hLL : ([] : List Act) = dueL k.1 (dueN k.1) := by rw [dueL, if_pos (by omega)]
        have hLd := hL0
        rw [hLL] at hLd
        have hlen := hLd.1
        refine lv_aload_n (pc := 103) hx hb dX4_boot_103 rfl (lv_at hl 1 rfl) ?_
        refine x_wria (pc := 104) (va_runV (As := []) (rest := []) ⟨hx, hb, hml, hown, hts⟩ (kX4_does l dC dI tt cI cB _ g0 g1 g2 g3 g4 g5 g6 g7 g8 g9 g10 g11 g12 g13 k u_7 er pl un 0 (-1) tp tn false vs bo ex wr ei dg_3 wo_4 pa_5 ch_6 fi (dueL k.1 (dueN k.1)) false hk hLd (by omega) rfl) (cwV 0 hts gX4_boot_X4_does rfl rfl rfl (by decide +kernel) ⟨Nat.le_of_ble_eq_true rfl, Nat.le_of_ble_eq_true rfl⟩) (x_preVa hS hE hK hP hD (x_all hD hS hA) xR0 4 0 rfl rfl) rfl rfl hl.1 rfl (lv_room (Nat.le_of_ble_eq_true rfl)) dX4_boot_104 ⟨Nat.le_of_ble_eq_true rfl, Nat.le_of_ble_eq_true rfl⟩) hS hA hD (fun r_9 u_8 H locs hu_8 hP hD hS => ?_)
        obtain ⟨k_11, ex_12, rn_13⟩ := u_8
        obtain ⟨hr_9, ek_11, eex_12, ern_13⟩ : r_9 = bI (kActs (dueL k.1 (dueN k.1)) k).2 ∧ k_11 = (kActs (dueL k.1 (dueN k.1)) k).1 ∧ ex_12 = (if false = true ∧ 0 < (dueL k.1 (dueN k.1)).length ∧ (kActs (dueL k.1 (dueN k.1)) k).2 = true then ex + nI 1 else ex) ∧ rn_13 = (if (kActs (dueL k.1 (dueN k.1)) k).2 = true then false else false) := hu_8
        obtain ⟨b_10, eb_10⟩ : ∃ z, z = (kActs (dueL k.1 (dueN k.1)) k).2 := ⟨_, rfl⟩
        rw [← eb_10] at hr_9
        subst hr_9
        have hP : va_P (dC, dI) vwCl (gW g0 g1 g2 g3 g4 g5 g6 g7 g8 g9 g10 g11 g12 g13 cI cB k_11 u_7 er pl un 0 (-1) tp tn rn_13 vs bo ex_12 wr ei dg_3 wo_4 pa_5 ch_6 fi) _ := hP
        have hD : va_D A (gW g0 g1 g2 g3 g4 g5 g6 g7 g8 g9 g10 g11 g12 g13 cI cB k_11 u_7 er pl un 0 (-1) tp tn rn_13 vs bo ex_12 wr ei dg_3 wo_4 pa_5 ch_6 fi) := hD
        refine lv_istore_n (pc := 107) (lv' := [(2, .int (bI b_10)), (1, .int (nI (dueN k.1))), (0, .ref g0)]) hx hb dX4_boot_107 rfl hl (by decide) rfl (fun ls hl => ?_)
        refine lv_iload_n (pc := 108) hx hb dX4_boot_108 rfl (lv_at hl 0 rfl) ?_
        refine lv_if_ne (pc := 109) (tgt := 115) hx hb dX4_boot_109 (by decide) (fun c6 => ?_) (fun c6 => ?_)
        · skip
          have c6 : b_10 = true := bI_1.mp c6
          have f1 : (kActs (dueL k.1 (dueN k.1)) k).2 = true := eb_10.symm.trans c6
          refine lv_iload_n (pc := 115) hx hb dX4_boot_115 rfl (lv_at hl 1 rfl) ?_
          refine lv_iconst (pc := 116) (v := nI 4) hx hb dX4_boot_116 (by decide) ?_
          refine lv_icmp_ne (pc := 117) (tgt := 130) hx hb dX4_boot_117 (by decide) (fun c7 => ?_) (fun c7 => ?_)
          · skip
            have c7 : ¬ (dueN k.1) = 4 := fun z => c7 ((nI_eq (a := (dueN k.1)) (b := 4) (by omega) (by omega)).mpr z)
            refine lv_aload_n (pc := 130) hx hb dX4_boot_130 rfl (lv_at hl 2 rfl) ?_
            refine lv_dup (pc := 131) hx hb dX4_boot_131 rfl ?_
            refine va_get (pc := 132) (D := (dC, dI)) (ci := 4) (v := .int bo) (C := RX4) (T := TX4) (N := 26) hx hb hts (by decide +kernel) hown hK hP 0 rfl rfl 15 (by decide) (hts (.fieldLink RX4 167 "ScratchSwapModel" "boots" "I") (by decide +kernel)) (fun _ h9 => h9) rfl dX4_boot_132 ?_
            refine lv_iconst (pc := 135) (v := nI 1) hx hb dX4_boot_135 (by decide) ?_
            refine lv_iadd (pc := 136) hx hb dX4_boot_136 ?_
            refine va_put (pc := 137) (D := (dC, dI)) (ci := 4) (v := .int (bo + (nI 1))) (ty := .int) (C := RX4) (T := TX4) (N := 26) hx hb hts (by decide +kernel) tyX4 tyX4_ok nmX4 hown hK hP hD hS 0 rfl rfl 15 (by decide) (hts (.fieldLink RX4 167 "ScratchSwapModel" "boots" "I") (by decide +kernel)) (fun _ h9 => h9) rfl (by decide +kernel) rfl rfl (Nat.le_of_ble_eq_true rfl) dX4_boot_137 (fun H locs hP hD hS => ?_)
            have hP : va_P (dC, dI) vwCl (gW g0 g1 g2 g3 g4 g5 g6 g7 g8 g9 g10 g11 g12 g13 cI cB k_11 u_7 er pl un 0 (-1) tp tn rn_13 vs (bo + (nI 1)) ex_12 wr ei dg_3 wo_4 pa_5 ch_6 fi) _ := hP
            have hD : va_D A (gW g0 g1 g2 g3 g4 g5 g6 g7 g8 g9 g10 g11 g12 g13 cI cB k_11 u_7 er pl un 0 (-1) tp tn rn_13 vs (bo + (nI 1)) ex_12 wr ei dg_3 wo_4 pa_5 ch_6 fi) := hD
            refine lv_aload_n (pc := 140) hx hb dX4_boot_140 rfl (lv_at hl 2 rfl) ?_
            refine lv_aload_n (pc := 141) hx hb dX4_boot_141 rfl (lv_at hl 2 rfl) ?_
            refine lv_iconst (pc := 142) (v := nI 0) hx hb dX4_boot_142 (by decide) ?_
            refine x_wria (pc := 143) (va_runV (As := [.int (nI 0)]) (rest := [.ref g0]) ⟨hx, hb, hml, hown, hts⟩ (kX4_isRight l dC dI tt cI cB _ g0 g1 g2 g3 g4 g5 g6 g7 g8 g9 g10 g11 g12 g13 k_11 u_7 er pl un 0 (-1) tp tn rn_13 vs (bo + (nI 1)) ex_12 wr ei dg_3 wo_4 pa_5 ch_6 fi 0 (by omega)) (cwV 1 hts gX4_boot_X4_isRight rfl rfl rfl (by decide +kernel) ⟨Nat.le_of_ble_eq_true rfl, Nat.le_of_ble_eq_true rfl⟩) (x_preVa hS hE hK hP hD (x_all hD hS hA) xR0 4 0 rfl rfl) rfl rfl hl.1 rfl (lv_room (Nat.le_of_ble_eq_true rfl)) dX4_boot_143 ⟨Nat.le_of_ble_eq_true rfl, Nat.le_of_ble_eq_true rfl⟩) hS hA hD (fun r_15 u_14 H locs hu_14 hP hD hS => ?_)
            obtain ⟨dg_16, wo_17, pa_18, ch_19⟩ := u_14
            subst hu_14
            have hP : va_P (dC, dI) vwCl (gW g0 g1 g2 g3 g4 g5 g6 g7 g8 g9 g10 g11 g12 g13 cI cB k_11 u_7 er pl un 0 (-1) tp tn rn_13 vs (bo + (nI 1)) ex_12 wr ei dg_16 wo_17 pa_18 ch_19 fi) _ := hP
            have hD : va_D A (gW g0 g1 g2 g3 g4 g5 g6 g7 g8 g9 g10 g11 g12 g13 cI cB k_11 u_7 er pl un 0 (-1) tp tn rn_13 vs (bo + (nI 1)) ex_12 wr ei dg_16 wo_17 pa_18 ch_19 fi) := hD
            refine va_put (pc := 146) (D := (dC, dI)) (ci := 4) (v := .int (bI (rightB k_11.1 (0 * 5 * 256)))) (ty := .boolean) (C := RX4) (T := TX4) (N := 26) hx hb hts (by decide +kernel) tyX4 tyX4_ok nmX4 hown hK hP hD hS 0 rfl rfl 10 (by decide) (hts (.fieldLink RX4 92 "ScratchSwapModel" "runs" "Z") (by decide +kernel)) (fun _ h9 => h9) rfl (by decide +kernel) (nbI (rightB k_11.1 (0 * 5 * 256))) (fbI (rightB k_11.1 (0 * 5 * 256))) (Nat.le_of_ble_eq_true rfl) dX4_boot_146 (fun H locs hP hD hS => ?_)
            have hP : va_P (dC, dI) vwCl (gW g0 g1 g2 g3 g4 g5 g6 g7 g8 g9 g10 g11 g12 g13 cI cB k_11 u_7 er pl un 0 (-1) tp tn (rightB k_11.1 (0 * 5 * 256)) vs (bo + (nI 1)) ex_12 wr ei dg_16 wo_17 pa_18 ch_19 fi) _ := hP
            have hD : va_D A (gW g0 g1 g2 g3 g4 g5 g6 g7 g8 g9 g10 g11 g12 g13 cI cB k_11 u_7 er pl un 0 (-1) tp tn (rightB k_11.1 (0 * 5 * 256)) vs (bo + (nI 1)) ex_12 wr ei dg_16 wo_17 pa_18 ch_19 fi) := hD
            refine lv_aload_n (pc := 149) hx hb dX4_boot_149 rfl (lv_at hl 2 rfl) ?_
            refine lv_aload_n (pc := 150) hx hb dX4_boot_150 rfl (lv_at hl 2 rfl) ?_
            refine va_get (pc := 151) (D := (dC, dI)) (ci := 4) (v := .ref g1) (C := RX4) (T := TX4) (N := 26) hx hb hts (by decide +kernel) hown hK hP 0 rfl rfl 0 (by decide) (hts (.fieldLink RX4 9 "ScratchSwapModel" "flash" "[B") (by decide +kernel)) (fun _ h9 => h9) rfl dX4_boot_151 ?_
            refine lv_iconst (pc := 154) (v := nI 4) hx hb dX4_boot_154 (by decide) ?_
            refine x_roi (pc := 155) (va_runS (As := [.ref g1, .int (nI 4)]) (rest := [.ref g0]) ⟨hx, hb, hml, hown, hts⟩ (kX4_intAt l dC dI tt cI cB _ g1 2816 k_11.1 4 (by omega) (by omega)) (va_cwS 2 hts gX4_boot_X4_intAt rfl rfl rfl (by decide +kernel) ⟨Nat.le_of_ble_eq_true rfl, Nat.le_of_ble_eq_true rfl⟩) (x_preS hS hE hK hP hD [1] rfl (by decide) (x_ro hS hA) xR0) rfl rfl hl.1 rfl (lv_room (Nat.le_of_ble_eq_true rfl)) dX4_boot_155 ⟨Nat.le_of_ble_eq_true rfl, Nat.le_of_ble_eq_true rfl⟩) hS hA hP (fun r_20 H locs hr_20 hP hS => ?_)
            subst hr_20
            refine va_put (pc := 158) (D := (dC, dI)) (ci := 4) (v := .int (mI k_11.1 4)) (ty := .int) (C := RX4) (T := TX4) (N := 26) hx hb hts (by decide +kernel) tyX4 tyX4_ok nmX4 hown hK hP hD hS 0 rfl rfl 11 (by decide) (hts (.fieldLink RX4 170 "ScratchSwapModel" "version" "I") (by decide +kernel)) (fun _ h9 => h9) rfl (by decide +kernel) rfl rfl (Nat.le_of_ble_eq_true rfl) dX4_boot_158 (fun H locs hP hD hS => ?_)
            have hP : va_P (dC, dI) vwCl (gW g0 g1 g2 g3 g4 g5 g6 g7 g8 g9 g10 g11 g12 g13 cI cB k_11 u_7 er pl un 0 (-1) tp tn (rightB k_11.1 (0 * 5 * 256)) (mI k_11.1 4) (bo + (nI 1)) ex_12 wr ei dg_16 wo_17 pa_18 ch_19 fi) _ := hP
            have hD : va_D A (gW g0 g1 g2 g3 g4 g5 g6 g7 g8 g9 g10 g11 g12 g13 cI cB k_11 u_7 er pl un 0 (-1) tp tn (rightB k_11.1 (0 * 5 * 256)) (mI k_11.1 4) (bo + (nI 1)) ex_12 wr ei dg_16 wo_17 pa_18 ch_19 fi) := hD
            refine lv_aload_n (pc := 161) hx hb dX4_boot_161 rfl (lv_at hl 2 rfl) ?_
            refine va_get (pc := 162) (D := (dC, dI)) (ci := 4) (v := .int (bI (rightB k_11.1 (0 * 5 * 256)))) (C := RX4) (T := TX4) (N := 26) hx hb hts (by decide +kernel) hown hK hP 0 rfl rfl 10 (by decide) (hts (.fieldLink RX4 92 "ScratchSwapModel" "runs" "Z") (by decide +kernel)) (fun _ h9 => h9) rfl dX4_boot_162 ?_
            refine lv_if_eq (pc := 165) (tgt := 172) hx hb dX4_boot_165 (by decide) (fun cr => ?_) (fun cr => ?_)
            · skip
              have cr : (rightB k_11.1 (0 * 5 * 256)) = false := bI_0.mp cr
              refine lv_iconst (pc := 172) (v := nI 0) hx hb dX4_boot_172 (by decide) ?_
              exact W.iret (v := nI 0) hx hb hr (fun t ht hW => ⟨⟨nI 0, (k_11, u_7, er, pl, un, 0, (-1), rightB k_11.1 (0 * 5 * 256), ex_12, ei, mI k_11.1 4, bo + (nI 1), wr, dg_16, wo_17, pa_18, ch_19), rfl, by rw [bootR, if_neg (by rw [c1]; decide), if_pos f1, ← ek_11, if_neg (by rw [cr]; decide), eex_12, if_neg (fun z => absurd z.1 (by decide)), bootE, if_pos (by omega), bootW, if_neg c2, cr]; rfl, by show va_P _ _ _ t.heap; rw [ht]; exact hP, va_K.moved hW.alike hK, hD⟩, hS.F ht⟩) hS.2.2 dX4_boot_173
            · skip
              have cr : (rightB k_11.1 (0 * 5 * 256)) = true := bI_1.mp cr
              refine lv_iconst (pc := 168) (v := nI 1) hx hb dX4_boot_168 (by decide) ?_
              refine lv_goto (pc := 169) (tgt := 173) hx hb dX4_boot_169 (by decide) ?_
              exact W.iret (v := nI 1) hx hb hr (fun t ht hW => ⟨⟨nI 1, (k_11, u_7, er, pl, un, 0, (-1), rightB k_11.1 (0 * 5 * 256), ex_12, ei, mI k_11.1 4, bo + (nI 1), wr, dg_16, wo_17, pa_18, ch_19), rfl, by rw [bootR, if_neg (by rw [c1]; decide), if_pos f1, ← ek_11, if_pos cr, eex_12, if_neg (fun z => absurd z.1 (by decide)), bootE, if_pos (by omega), bootW, if_neg c2, cr]; rfl, by show va_P _ _ _ t.heap; rw [ht]; exact hP, va_K.moved hW.alike hK, hD⟩, hS.F ht⟩) hS.2.2 dX4_boot_173
          · skip
            have c7 : (dueN k.1) = 4 := (nI_eq (a := (dueN k.1)) (b := 4) (by omega) (by omega)).mp c7
            exfalso; omega
        · skip
          have c6 : b_10 = false := bI_0.mp c6
          have f1 : (kActs (dueL k.1 (dueN k.1)) k).2 = false := eb_10.symm.trans c6
          refine lv_bipush (pc := 112) (v := (-9)) hx hb dX4_boot_112 (by decide) ?_
          exact W.iret (v := (-9)) hx hb hr (fun t ht hW => ⟨⟨(-9), (k_11, u_7, er, pl, un, 0, (-1), rn_13, ex_12, ei, vs, bo, wr, dg_3, wo_4, pa_5, ch_6), rfl, by rw [bootR, if_neg (by rw [c1]; decide), if_neg (by rw [f1]; decide), ← ek_11, ern_13, if_neg (by rw [f1]; decide), eex_12, if_neg (fun z => by rw [f1] at z; exact absurd z.2.2 (by decide))]; rfl, by show va_P _ _ _ t.heap; rw [ht]; exact hP, va_K.moved hW.alike hK, hD⟩, hS.F ht⟩) hS.2.2 dX4_boot_114
      · skip
        have c3 : ¬ (dueN k.1) ≤ 0 := fun z => c3 ((nI_leI (a := (dueN k.1)) (b := 0) (by omega) (by omega)).mpr z)
        refine lv_iload_n (pc := 42) hx hb dX4_boot_42 rfl (lv_at hl 0 rfl) ?_
        refine lv_iconst (pc := 43) (v := nI 4) hx hb dX4_boot_43 (by decide) ?_
        refine lv_icmp_ge (pc := 44) (tgt := 81) hx hb dX4_boot_44 (by decide) (fun c4 => ?_) (fun c4 => ?_)
        · skip
          have c4 : 4 ≤ (dueN k.1) := (nI_leI (a := 4) (b := (dueN k.1)) (by omega) (by omega)).mp c4
          refine lv_aload_n (pc := 81) hx hb dX4_boot_81 rfl (lv_at hl 1 rfl) ?_
          refine lv_iload_n (pc := 82) hx hb dX4_boot_82 rfl (lv_at hl 0 rfl) ?_
          refine lv_iconst (pc := 83) (v := nI 4) hx hb dX4_boot_83 (by decide) ?_
          refine lv_icmp_ge (pc := 84) (tgt := 91) hx hb dX4_boot_84 (by decide) (fun c5 => ?_) (fun c5 => ?_)
          · skip
            have c5 : 4 ≤ (dueN k.1) := (nI_leI (a := 4) (b := (dueN k.1)) (by omega) (by omega)).mp c5
            refine lv_aload_n (pc := 91) hx hb dX4_boot_91 rfl (lv_at hl 1 rfl) ?_
            refine va_get (pc := 92) (D := (dC, dI)) (ci := 4) (v := .ref g2) (C := RX4) (T := TX4) (N := 26) hx hb hts (by decide +kernel) hown hK hP 0 rfl rfl 1 (by decide) (hts (.fieldLink RX4 13 "ScratchSwapModel" "draft" "[B") (by decide +kernel)) (fun _ h9 => h9) rfl dX4_boot_92 ?_
            refine lv_iconst (pc := 95) (v := nI 4) hx hb dX4_boot_95 (by decide) ?_
            refine lv_iconst (pc := 96) (v := nI 1) hx hb dX4_boot_96 (by decide) ?_
            refine x_roi (pc := 97) (va_runS (As := [.ref g2, .int (nI 4), .int (nI 1)]) (rest := [.ref g0]) ⟨hx, hb, hml, hown, hts⟩ (kX4_set l dC dI tt cI cB _ g2 2816 u_7 4 1 (by omega) (by omega)) (va_cwS 3 hts gX4_boot_X4_set rfl rfl rfl (by decide +kernel) ⟨Nat.le_of_ble_eq_true rfl, Nat.le_of_ble_eq_true rfl⟩) (x_preS hS hE hK hP hD [2] rfl (by decide) (x_ro hS hA) xR0) rfl rfl hl.1 rfl (lv_room (Nat.le_of_ble_eq_true rfl)) dX4_boot_97 ⟨Nat.le_of_ble_eq_true rfl, Nat.le_of_ble_eq_true rfl⟩) hS hA hP (fun r_21 H locs hr_21 hP hS => ?_)
            subst hr_21
            have hs_22 := setN_le u_7 (4 * 256 + 1 * 8)
            have h5 : dueN k.1 = 5 := by omega
            have hu5 := (dueN_5 _).mp h5
            have hkn : ¬ setN k.1 (4 * 256 + 1 * 8) = 0 := by have h9 := (Bool.and_eq_true _ _).mp hu5; exact of_decide_eq_true h9.1
            have hkn2 : setN u_7 (4 * 256 + 1 * 8) = setN k.1 (4 * 256 + 1 * 8) := setN_c (hdr.at8 (by omega))
            refine x_wrva (pc := 100) (va_runV (As := [.int (nI (setN u_7 (4 * 256 + 1 * 8)))]) (rest := []) ⟨hx, hb, hml, hown, hts⟩ (kX4_lists l dC dI tt cI cB _ g0 g1 g2 g3 g4 g5 g6 g7 g8 g9 g10 g11 g12 g13 k u_7 er pl un 0 (-1) tp tn false vs bo ex wr ei dg_3 wo_4 pa_5 ch_6 fi ([]) (setN u_7 (4 * 256 + 1 * 8)) hL0 (by omega) rfl (by omega) (by omega)) (cwV 1 hts gX4_boot_X4_lists rfl rfl rfl (by decide +kernel) ⟨Nat.le_of_ble_eq_true rfl, Nat.le_of_ble_eq_true rfl⟩) (x_preVa hS hE hK hP hD (x_all hD hS hA) xR0 4 0 rfl rfl) rfl rfl hl.1 rfl (lv_room (Nat.le_of_ble_eq_true rfl)) dX4_boot_100 ⟨Nat.le_of_ble_eq_true rfl, Nat.le_of_ble_eq_true rfl⟩) hS hA hD (fun u_23 H locs hu_23 hP hD hS => ?_)
            obtain ⟨dr_24, er_25, pl_26, un_27, li_28, ei_29, ov_30⟩ := u_23
            obtain ⟨hL_31, ho_32, hl_33⟩ : lstR (([]) ++ resL u_7) er_25 pl_26 un_27 li_28 ∧ ov_30 = nI ((([]) ++ resL u_7).length - 1) ∧ li_28 ≤ 0 + 412 := hu_23
            have hP : va_P (dC, dI) vwCl (gW g0 g1 g2 g3 g4 g5 g6 g7 g8 g9 g10 g11 g12 g13 cI cB k dr_24 er_25 pl_26 un_27 li_28 ov_30 tp tn false vs bo ex wr ei_29 dg_3 wo_4 pa_5 ch_6 fi) _ := hP
            have hD : va_D A (gW g0 g1 g2 g3 g4 g5 g6 g7 g8 g9 g10 g11 g12 g13 cI cB k dr_24 er_25 pl_26 un_27 li_28 ov_30 tp tn false vs bo ex wr ei_29 dg_3 wo_4 pa_5 ch_6 fi) := hD
            have hLL : ([]) ++ resL u_7 = dueL k.1 (dueN k.1) := by rw [dueL, if_neg (by omega), if_neg c2, if_pos h5, List.nil_append]; exact resL_c hdr
            have hLd := hL_31
            rw [hLL] at hLd
            have hlen := hLd.1
            have hovd : ov_30 = ovV true (dueL k.1 (dueN k.1)).length := by rw [ho_32, hLL]; rfl
            refine lv_aload_n (pc := 103) hx hb dX4_boot_103 rfl (lv_at hl 1 rfl) ?_
            refine x_wria (pc := 104) (va_runV (As := []) (rest := []) ⟨hx, hb, hml, hown, hts⟩ (kX4_does l dC dI tt cI cB _ g0 g1 g2 g3 g4 g5 g6 g7 g8 g9 g10 g11 g12 g13 k dr_24 er_25 pl_26 un_27 li_28 ov_30 tp tn false vs bo ex wr ei_29 dg_3 wo_4 pa_5 ch_6 fi (dueL k.1 (dueN k.1)) true hk hLd (by omega) hovd) (cwV 0 hts gX4_boot_X4_does rfl rfl rfl (by decide +kernel) ⟨Nat.le_of_ble_eq_true rfl, Nat.le_of_ble_eq_true rfl⟩) (x_preVa hS hE hK hP hD (x_all hD hS hA) xR0 4 0 rfl rfl) rfl rfl hl.1 rfl (lv_room (Nat.le_of_ble_eq_true rfl)) dX4_boot_104 ⟨Nat.le_of_ble_eq_true rfl, Nat.le_of_ble_eq_true rfl⟩) hS hA hD (fun r_35 u_34 H locs hu_34 hP hD hS => ?_)
            obtain ⟨k_37, ex_38, rn_39⟩ := u_34
            obtain ⟨hr_35, ek_37, eex_38, ern_39⟩ : r_35 = bI (kActs (dueL k.1 (dueN k.1)) k).2 ∧ k_37 = (kActs (dueL k.1 (dueN k.1)) k).1 ∧ ex_38 = (if true = true ∧ 0 < (dueL k.1 (dueN k.1)).length ∧ (kActs (dueL k.1 (dueN k.1)) k).2 = true then ex + nI 1 else ex) ∧ rn_39 = (if (kActs (dueL k.1 (dueN k.1)) k).2 = true then false else false) := hu_34
            obtain ⟨b_36, eb_36⟩ : ∃ z, z = (kActs (dueL k.1 (dueN k.1)) k).2 := ⟨_, rfl⟩
            rw [← eb_36] at hr_35
            subst hr_35
            have hP : va_P (dC, dI) vwCl (gW g0 g1 g2 g3 g4 g5 g6 g7 g8 g9 g10 g11 g12 g13 cI cB k_37 dr_24 er_25 pl_26 un_27 li_28 ov_30 tp tn rn_39 vs bo ex_38 wr ei_29 dg_3 wo_4 pa_5 ch_6 fi) _ := hP
            have hD : va_D A (gW g0 g1 g2 g3 g4 g5 g6 g7 g8 g9 g10 g11 g12 g13 cI cB k_37 dr_24 er_25 pl_26 un_27 li_28 ov_30 tp tn rn_39 vs bo ex_38 wr ei_29 dg_3 wo_4 pa_5 ch_6 fi) := hD
            refine lv_istore_n (pc := 107) (lv' := [(2, .int (bI b_36)), (1, .int (nI (dueN k.1))), (0, .ref g0)]) hx hb dX4_boot_107 rfl hl (by decide) rfl (fun ls hl => ?_)
            refine lv_iload_n (pc := 108) hx hb dX4_boot_108 rfl (lv_at hl 0 rfl) ?_
            refine lv_if_ne (pc := 109) (tgt := 115) hx hb dX4_boot_109 (by decide) (fun c6 => ?_) (fun c6 => ?_)
            · skip
              have c6 : b_36 = true := bI_1.mp c6
              have f1 : (kActs (dueL k.1 (dueN k.1)) k).2 = true := eb_36.symm.trans c6
              refine lv_iload_n (pc := 115) hx hb dX4_boot_115 rfl (lv_at hl 1 rfl) ?_
              refine lv_iconst (pc := 116) (v := nI 4) hx hb dX4_boot_116 (by decide) ?_
              refine lv_icmp_ne (pc := 117) (tgt := 130) hx hb dX4_boot_117 (by decide) (fun c7 => ?_) (fun c7 => ?_)
              · skip
                have c7 : ¬ (dueN k.1) = 4 := fun z => c7 ((nI_eq (a := (dueN k.1)) (b := 4) (by omega) (by omega)).mpr z)
                refine lv_aload_n (pc := 130) hx hb dX4_boot_130 rfl (lv_at hl 2 rfl) ?_
                refine lv_dup (pc := 131) hx hb dX4_boot_131 rfl ?_
                refine va_get (pc := 132) (D := (dC, dI)) (ci := 4) (v := .int bo) (C := RX4) (T := TX4) (N := 26) hx hb hts (by decide +kernel) hown hK hP 0 rfl rfl 15 (by decide) (hts (.fieldLink RX4 167 "ScratchSwapModel" "boots" "I") (by decide +kernel)) (fun _ h9 => h9) rfl dX4_boot_132 ?_
                refine lv_iconst (pc := 135) (v := nI 1) hx hb dX4_boot_135 (by decide) ?_
                refine lv_iadd (pc := 136) hx hb dX4_boot_136 ?_
                refine va_put (pc := 137) (D := (dC, dI)) (ci := 4) (v := .int (bo + (nI 1))) (ty := .int) (C := RX4) (T := TX4) (N := 26) hx hb hts (by decide +kernel) tyX4 tyX4_ok nmX4 hown hK hP hD hS 0 rfl rfl 15 (by decide) (hts (.fieldLink RX4 167 "ScratchSwapModel" "boots" "I") (by decide +kernel)) (fun _ h9 => h9) rfl (by decide +kernel) rfl rfl (Nat.le_of_ble_eq_true rfl) dX4_boot_137 (fun H locs hP hD hS => ?_)
                have hP : va_P (dC, dI) vwCl (gW g0 g1 g2 g3 g4 g5 g6 g7 g8 g9 g10 g11 g12 g13 cI cB k_37 dr_24 er_25 pl_26 un_27 li_28 ov_30 tp tn rn_39 vs (bo + (nI 1)) ex_38 wr ei_29 dg_3 wo_4 pa_5 ch_6 fi) _ := hP
                have hD : va_D A (gW g0 g1 g2 g3 g4 g5 g6 g7 g8 g9 g10 g11 g12 g13 cI cB k_37 dr_24 er_25 pl_26 un_27 li_28 ov_30 tp tn rn_39 vs (bo + (nI 1)) ex_38 wr ei_29 dg_3 wo_4 pa_5 ch_6 fi) := hD
                refine lv_aload_n (pc := 140) hx hb dX4_boot_140 rfl (lv_at hl 2 rfl) ?_
                refine lv_aload_n (pc := 141) hx hb dX4_boot_141 rfl (lv_at hl 2 rfl) ?_
                refine lv_iconst (pc := 142) (v := nI 0) hx hb dX4_boot_142 (by decide) ?_
                refine x_wria (pc := 143) (va_runV (As := [.int (nI 0)]) (rest := [.ref g0]) ⟨hx, hb, hml, hown, hts⟩ (kX4_isRight l dC dI tt cI cB _ g0 g1 g2 g3 g4 g5 g6 g7 g8 g9 g10 g11 g12 g13 k_37 dr_24 er_25 pl_26 un_27 li_28 ov_30 tp tn rn_39 vs (bo + (nI 1)) ex_38 wr ei_29 dg_3 wo_4 pa_5 ch_6 fi 0 (by omega)) (cwV 1 hts gX4_boot_X4_isRight rfl rfl rfl (by decide +kernel) ⟨Nat.le_of_ble_eq_true rfl, Nat.le_of_ble_eq_true rfl⟩) (x_preVa hS hE hK hP hD (x_all hD hS hA) xR0 4 0 rfl rfl) rfl rfl hl.1 rfl (lv_room (Nat.le_of_ble_eq_true rfl)) dX4_boot_143 ⟨Nat.le_of_ble_eq_true rfl, Nat.le_of_ble_eq_true rfl⟩) hS hA hD (fun r_41 u_40 H locs hu_40 hP hD hS => ?_)
                obtain ⟨dg_42, wo_43, pa_44, ch_45⟩ := u_40
                subst hu_40
                have hP : va_P (dC, dI) vwCl (gW g0 g1 g2 g3 g4 g5 g6 g7 g8 g9 g10 g11 g12 g13 cI cB k_37 dr_24 er_25 pl_26 un_27 li_28 ov_30 tp tn rn_39 vs (bo + (nI 1)) ex_38 wr ei_29 dg_42 wo_43 pa_44 ch_45 fi) _ := hP
                have hD : va_D A (gW g0 g1 g2 g3 g4 g5 g6 g7 g8 g9 g10 g11 g12 g13 cI cB k_37 dr_24 er_25 pl_26 un_27 li_28 ov_30 tp tn rn_39 vs (bo + (nI 1)) ex_38 wr ei_29 dg_42 wo_43 pa_44 ch_45 fi) := hD
                refine va_put (pc := 146) (D := (dC, dI)) (ci := 4) (v := .int (bI (rightB k_37.1 (0 * 5 * 256)))) (ty := .boolean) (C := RX4) (T := TX4) (N := 26) hx hb hts (by decide +kernel) tyX4 tyX4_ok nmX4 hown hK hP hD hS 0 rfl rfl 10 (by decide) (hts (.fieldLink RX4 92 "ScratchSwapModel" "runs" "Z") (by decide +kernel)) (fun _ h9 => h9) rfl (by decide +kernel) (nbI (rightB k_37.1 (0 * 5 * 256))) (fbI (rightB k_37.1 (0 * 5 * 256))) (Nat.le_of_ble_eq_true rfl) dX4_boot_146 (fun H locs hP hD hS => ?_)
                have hP : va_P (dC, dI) vwCl (gW g0 g1 g2 g3 g4 g5 g6 g7 g8 g9 g10 g11 g12 g13 cI cB k_37 dr_24 er_25 pl_26 un_27 li_28 ov_30 tp tn (rightB k_37.1 (0 * 5 * 256)) vs (bo + (nI 1)) ex_38 wr ei_29 dg_42 wo_43 pa_44 ch_45 fi) _ := hP
                have hD : va_D A (gW g0 g1 g2 g3 g4 g5 g6 g7 g8 g9 g10 g11 g12 g13 cI cB k_37 dr_24 er_25 pl_26 un_27 li_28 ov_30 tp tn (rightB k_37.1 (0 * 5 * 256)) vs (bo + (nI 1)) ex_38 wr ei_29 dg_42 wo_43 pa_44 ch_45 fi) := hD
                refine lv_aload_n (pc := 149) hx hb dX4_boot_149 rfl (lv_at hl 2 rfl) ?_
                refine lv_aload_n (pc := 150) hx hb dX4_boot_150 rfl (lv_at hl 2 rfl) ?_
                refine va_get (pc := 151) (D := (dC, dI)) (ci := 4) (v := .ref g1) (C := RX4) (T := TX4) (N := 26) hx hb hts (by decide +kernel) hown hK hP 0 rfl rfl 0 (by decide) (hts (.fieldLink RX4 9 "ScratchSwapModel" "flash" "[B") (by decide +kernel)) (fun _ h9 => h9) rfl dX4_boot_151 ?_
                refine lv_iconst (pc := 154) (v := nI 4) hx hb dX4_boot_154 (by decide) ?_
                refine x_roi (pc := 155) (va_runS (As := [.ref g1, .int (nI 4)]) (rest := [.ref g0]) ⟨hx, hb, hml, hown, hts⟩ (kX4_intAt l dC dI tt cI cB _ g1 2816 k_37.1 4 (by omega) (by omega)) (va_cwS 2 hts gX4_boot_X4_intAt rfl rfl rfl (by decide +kernel) ⟨Nat.le_of_ble_eq_true rfl, Nat.le_of_ble_eq_true rfl⟩) (x_preS hS hE hK hP hD [1] rfl (by decide) (x_ro hS hA) xR0) rfl rfl hl.1 rfl (lv_room (Nat.le_of_ble_eq_true rfl)) dX4_boot_155 ⟨Nat.le_of_ble_eq_true rfl, Nat.le_of_ble_eq_true rfl⟩) hS hA hP (fun r_46 H locs hr_46 hP hS => ?_)
                subst hr_46
                refine va_put (pc := 158) (D := (dC, dI)) (ci := 4) (v := .int (mI k_37.1 4)) (ty := .int) (C := RX4) (T := TX4) (N := 26) hx hb hts (by decide +kernel) tyX4 tyX4_ok nmX4 hown hK hP hD hS 0 rfl rfl 11 (by decide) (hts (.fieldLink RX4 170 "ScratchSwapModel" "version" "I") (by decide +kernel)) (fun _ h9 => h9) rfl (by decide +kernel) rfl rfl (Nat.le_of_ble_eq_true rfl) dX4_boot_158 (fun H locs hP hD hS => ?_)
                have hP : va_P (dC, dI) vwCl (gW g0 g1 g2 g3 g4 g5 g6 g7 g8 g9 g10 g11 g12 g13 cI cB k_37 dr_24 er_25 pl_26 un_27 li_28 ov_30 tp tn (rightB k_37.1 (0 * 5 * 256)) (mI k_37.1 4) (bo + (nI 1)) ex_38 wr ei_29 dg_42 wo_43 pa_44 ch_45 fi) _ := hP
                have hD : va_D A (gW g0 g1 g2 g3 g4 g5 g6 g7 g8 g9 g10 g11 g12 g13 cI cB k_37 dr_24 er_25 pl_26 un_27 li_28 ov_30 tp tn (rightB k_37.1 (0 * 5 * 256)) (mI k_37.1 4) (bo + (nI 1)) ex_38 wr ei_29 dg_42 wo_43 pa_44 ch_45 fi) := hD
                refine lv_aload_n (pc := 161) hx hb dX4_boot_161 rfl (lv_at hl 2 rfl) ?_
                refine va_get (pc := 162) (D := (dC, dI)) (ci := 4) (v := .int (bI (rightB k_37.1 (0 * 5 * 256)))) (C := RX4) (T := TX4) (N := 26) hx hb hts (by decide +kernel) hown hK hP 0 rfl rfl 10 (by decide) (hts (.fieldLink RX4 92 "ScratchSwapModel" "runs" "Z") (by decide +kernel)) (fun _ h9 => h9) rfl dX4_boot_162 ?_
                refine lv_if_eq (pc := 165) (tgt := 172) hx hb dX4_boot_165 (by decide) (fun cr => ?_) (fun cr => ?_)
                · skip
                  have cr : (rightB k_37.1 (0 * 5 * 256)) = false := bI_0.mp cr
                  refine lv_iconst (pc := 172) (v := nI 0) hx hb dX4_boot_172 (by decide) ?_
                  exact W.iret (v := nI 0) hx hb hr (fun t ht hW => ⟨⟨nI 0, (k_37, dr_24, er_25, pl_26, un_27, li_28, ov_30, rightB k_37.1 (0 * 5 * 256), ex_38, ei_29, mI k_37.1 4, bo + (nI 1), wr, dg_42, wo_43, pa_44, ch_45), rfl, by rw [bootR, if_neg (by rw [c1]; decide), if_pos f1, ← ek_37, if_neg (by rw [cr]; decide), eex_38, if_pos ⟨rfl, dueL_pos _ (by omega) c2, f1⟩, bootE, if_neg (by omega), bootW, if_neg c2, cr]; rfl, by show va_P _ _ _ t.heap; rw [ht]; exact hP, va_K.moved hW.alike hK, hD⟩, hS.F ht⟩) hS.2.2 dX4_boot_173
                · skip
                  have cr : (rightB k_37.1 (0 * 5 * 256)) = true := bI_1.mp cr
                  refine lv_iconst (pc := 168) (v := nI 1) hx hb dX4_boot_168 (by decide) ?_
                  refine lv_goto (pc := 169) (tgt := 173) hx hb dX4_boot_169 (by decide) ?_
                  exact W.iret (v := nI 1) hx hb hr (fun t ht hW => ⟨⟨nI 1, (k_37, dr_24, er_25, pl_26, un_27, li_28, ov_30, rightB k_37.1 (0 * 5 * 256), ex_38, ei_29, mI k_37.1 4, bo + (nI 1), wr, dg_42, wo_43, pa_44, ch_45), rfl, by rw [bootR, if_neg (by rw [c1]; decide), if_pos f1, ← ek_37, if_pos cr, eex_38, if_pos ⟨rfl, dueL_pos _ (by omega) c2, f1⟩, bootE, if_neg (by omega), bootW, if_neg c2, cr]; rfl, by show va_P _ _ _ t.heap; rw [ht]; exact hP, va_K.moved hW.alike hK, hD⟩, hS.F ht⟩) hS.2.2 dX4_boot_173
              · skip
                have c7 : (dueN k.1) = 4 := (nI_eq (a := (dueN k.1)) (b := 4) (by omega) (by omega)).mp c7
                exfalso; omega
            · skip
              have c6 : b_36 = false := bI_0.mp c6
              have f1 : (kActs (dueL k.1 (dueN k.1)) k).2 = false := eb_36.symm.trans c6
              refine lv_bipush (pc := 112) (v := (-9)) hx hb dX4_boot_112 (by decide) ?_
              exact W.iret (v := (-9)) hx hb hr (fun t ht hW => ⟨⟨(-9), (k_37, dr_24, er_25, pl_26, un_27, li_28, ov_30, rn_39, ex_38, ei_29, vs, bo, wr, dg_3, wo_4, pa_5, ch_6), rfl, by rw [bootR, if_neg (by rw [c1]; decide), if_neg (by rw [f1]; decide), ← ek_37, ern_39, if_neg (by rw [f1]; decide), eex_38, if_neg (fun z => by rw [f1] at z; exact absurd z.2.2 (by decide))]; rfl, by show va_P _ _ _ t.heap; rw [ht]; exact hP, va_K.moved hW.alike hK, hD⟩, hS.F ht⟩) hS.2.2 dX4_boot_114
          · skip
            have c5 : ¬ 4 ≤ (dueN k.1) := fun z => c5 ((nI_leI (a := 4) (b := (dueN k.1)) (by omega) (by omega)).mpr z)
            exfalso; omega
        · skip
          have c4 : ¬ 4 ≤ (dueN k.1) := fun z => c4 ((nI_leI (a := 4) (b := (dueN k.1)) (by omega) (by omega)).mpr z)
          refine lv_aload_n (pc := 47) hx hb dX4_boot_47 rfl (lv_at hl 1 rfl) ?_
          refine va_get (pc := 48) (D := (dC, dI)) (ci := 4) (v := .ref g2) (C := RX4) (T := TX4) (N := 26) hx hb hts (by decide +kernel) hown hK hP 0 rfl rfl 1 (by decide) (hts (.fieldLink RX4 13 "ScratchSwapModel" "draft" "[B") (by decide +kernel)) (fun _ h9 => h9) rfl dX4_boot_48 ?_
          refine lv_bipush (pc := 51) (v := nI 9) hx hb dX4_boot_51 (by decide) ?_
          refine lv_iconst (pc := 53) (v := nI 1) hx hb dX4_boot_53 (by decide) ?_
          refine x_roi (pc := 54) (va_runS (As := [.ref g2, .int (nI 9), .int (nI 1)]) (rest := []) ⟨hx, hb, hml, hown, hts⟩ (kX4_set l dC dI tt cI cB _ g2 2816 u_7 9 1 (by omega) (by omega)) (va_cwS 3 hts gX4_boot_X4_set rfl rfl rfl (by decide +kernel) ⟨Nat.le_of_ble_eq_true rfl, Nat.le_of_ble_eq_true rfl⟩) (x_preS hS hE hK hP hD [2] rfl (by decide) (x_ro hS hA) xR0) rfl rfl hl.1 rfl (lv_room (Nat.le_of_ble_eq_true rfl)) dX4_boot_54 ⟨Nat.le_of_ble_eq_true rfl, Nat.le_of_ble_eq_true rfl⟩) hS hA hP (fun r_47 H locs hr_47 hP hS => ?_)
          subst hr_47
          have hs_48 := setN_le u_7 (9 * 256 + 1 * 8)
          refine lv_iload_n (pc := 57) hx hb dX4_boot_57 rfl (lv_at hl 0 rfl) ?_
          refine lv_icmp_eq (pc := 58) (tgt := 69) hx hb dX4_boot_58 (by decide) (fun cm => ?_) (fun cm => ?_)
          · skip
            have cm : (setN u_7 (9 * 256 + 1 * 8)) = (dueN k.1) := (nI_eq (a := (setN u_7 (9 * 256 + 1 * 8))) (b := (dueN k.1)) (by omega) (by omega)).mp cm
            refine lv_aload_n (pc := 69) hx hb dX4_boot_69 rfl (lv_at hl 1 rfl) ?_
            refine lv_iconst (pc := 70) (v := nI 4) hx hb dX4_boot_70 (by decide) ?_
            refine x_wrva (pc := 71) (va_runV (As := [.int (nI 4)]) (rest := []) ⟨hx, hb, hml, hown, hts⟩ (kX4_erase l dC dI tt cI cB _ g0 g1 g2 g3 g4 g5 g6 g7 g8 g9 g10 g11 g12 g13 k u_7 er pl un 0 (-1) tp tn false vs bo ex wr ei dg_3 wo_4 pa_5 ch_6 fi ([]) 4 hL0 (by omega) (by omega)) (cwV 1 hts gX4_boot_X4_erase rfl rfl rfl (by decide +kernel) ⟨Nat.le_of_ble_eq_true rfl, Nat.le_of_ble_eq_true rfl⟩) (x_preVa hS hE hK hP hD (x_all hD hS hA) xR0 4 0 rfl rfl) rfl rfl hl.1 rfl (lv_room (Nat.le_of_ble_eq_true rfl)) dX4_boot_71 ⟨Nat.le_of_ble_eq_true rfl, Nat.le_of_ble_eq_true rfl⟩) hS hA hD (fun u_49 H locs hu_49 hP hD hS => ?_)
            obtain ⟨dr_50, er_51, pl_52, un_53, li_54⟩ := u_49
            obtain ⟨hL_55, hd_56⟩ : lstR (([]) ++ ([Sum.inl 4])) er_51 pl_52 un_53 li_54 ∧ dr_50 = fillF u_7 (4 * 256) 256 := hu_49
            have hP : va_P (dC, dI) vwCl (gW g0 g1 g2 g3 g4 g5 g6 g7 g8 g9 g10 g11 g12 g13 cI cB k dr_50 er_51 pl_52 un_53 li_54 (-1) tp tn false vs bo ex wr ei dg_3 wo_4 pa_5 ch_6 fi) _ := hP
            have hD : va_D A (gW g0 g1 g2 g3 g4 g5 g6 g7 g8 g9 g10 g11 g12 g13 cI cB k dr_50 er_51 pl_52 un_53 li_54 (-1) tp tn false vs bo ex wr ei dg_3 wo_4 pa_5 ch_6 fi) := hD
            have hlen_li_54 : li_54 = 0 + 1 := by rw [hL_55.1, List.length_append, ← hL0.1]; rfl
            refine lv_aload_n (pc := 74) hx hb dX4_boot_74 rfl (lv_at hl 1 rfl) ?_
            refine lv_iconst (pc := 75) (v := nI 4) hx hb dX4_boot_75 (by decide) ?_
            refine lv_iconst (pc := 76) (v := nI 1) hx hb dX4_boot_76 (by decide) ?_
            refine lv_iload_n (pc := 77) hx hb dX4_boot_77 rfl (lv_at hl 0 rfl) ?_
            refine x_wrva (pc := 78) (va_runV (As := [.int (nI 4), .int (nI 1), .int (nI (dueN k.1))]) (rest := []) ⟨hx, hb, hml, hown, hts⟩ (kX4_mark l dC dI tt cI cB _ g0 g1 g2 g3 g4 g5 g6 g7 g8 g9 g10 g11 g12 g13 k dr_50 er_51 pl_52 un_53 li_54 (-1) tp tn false vs bo ex wr ei dg_3 wo_4 pa_5 ch_6 fi (([]) ++ ([Sum.inl 4])) 4 1 (nI (dueN k.1)) hL_55 (by omega) (by omega)) (cwV 3 hts gX4_boot_X4_mark rfl rfl rfl (by decide +kernel) ⟨Nat.le_of_ble_eq_true rfl, Nat.le_of_ble_eq_true rfl⟩) (x_preVa hS hE hK hP hD (x_all hD hS hA) xR0 4 0 rfl rfl) rfl rfl hl.1 rfl (lv_room (Nat.le_of_ble_eq_true rfl)) dX4_boot_78 ⟨Nat.le_of_ble_eq_true rfl, Nat.le_of_ble_eq_true rfl⟩) hS hA hD (fun u_57 H locs hu_57 hP hD hS => ?_)
            obtain ⟨dr_58, er_59, pl_60, un_61, li_62, ei_63⟩ := u_57
            obtain ⟨hL_64, hd_65⟩ : lstR ((([]) ++ ([Sum.inl 4])) ++ (markL (4 * 256 + 1 * 8) (nI (dueN k.1)))) er_59 pl_60 un_61 li_62 ∧ dr_58 = appL (markL (4 * 256 + 1 * 8) (nI (dueN k.1))) dr_50 := hu_57
            have hP : va_P (dC, dI) vwCl (gW g0 g1 g2 g3 g4 g5 g6 g7 g8 g9 g10 g11 g12 g13 cI cB k dr_58 er_59 pl_60 un_61 li_62 (-1) tp tn false vs bo ex wr ei_63 dg_3 wo_4 pa_5 ch_6 fi) _ := hP
            have hD : va_D A (gW g0 g1 g2 g3 g4 g5 g6 g7 g8 g9 g10 g11 g12 g13 cI cB k dr_58 er_59 pl_60 un_61 li_62 (-1) tp tn false vs bo ex wr ei_63 dg_3 wo_4 pa_5 ch_6 fi) := hD
            have hlen_li_62 : li_62 = li_54 + 1 := by rw [hL_64.1, List.length_append, ← hL_55.1]; rfl
            refine lv_aload_n (pc := 81) hx hb dX4_boot_81 rfl (lv_at hl 1 rfl) ?_
            refine lv_iload_n (pc := 82) hx hb dX4_boot_82 rfl (lv_at hl 0 rfl) ?_
            refine lv_iconst (pc := 83) (v := nI 4) hx hb dX4_boot_83 (by decide) ?_
            refine lv_icmp_ge (pc := 84) (tgt := 91) hx hb dX4_boot_84 (by decide) (fun c5 => ?_) (fun c5 => ?_)
            · skip
              have c5 : 4 ≤ (dueN k.1) := (nI_leI (a := 4) (b := (dueN k.1)) (by omega) (by omega)).mp c5
              exfalso; omega
            · skip
              have c5 : ¬ 4 ≤ (dueN k.1) := fun z => c5 ((nI_leI (a := 4) (b := (dueN k.1)) (by omega) (by omega)).mpr z)
              refine lv_iload_n (pc := 87) hx hb dX4_boot_87 rfl (lv_at hl 0 rfl) ?_
              refine lv_goto (pc := 88) (tgt := 100) hx hb dX4_boot_88 (by decide) ?_
              have hB : (([]) ++ ([Sum.inl 4])) ++ (markL (4 * 256 + 1 * 8) (nI (dueN k.1))) = begL u_7 (dueN k.1) := by rw [begL, if_pos cm]; rfl
              have hBd : dr_58 = appL (begL u_7 (dueN k.1)) u_7 := by rw [begL, if_pos cm, appL_app, appL_app, hd_65, hd_56]; rfl
              have hkdd : dueN k.1 = setN dr_58 (4 * 256 + 1 * 8) := by rw [hBd]; exact (beg_kind (by omega) (by omega)).symm
              refine x_wrva (pc := 100) (va_runV (As := [.int (nI (dueN k.1))]) (rest := []) ⟨hx, hb, hml, hown, hts⟩ (kX4_lists l dC dI tt cI cB _ g0 g1 g2 g3 g4 g5 g6 g7 g8 g9 g10 g11 g12 g13 k dr_58 er_59 pl_60 un_61 li_62 (-1) tp tn false vs bo ex wr ei_63 dg_3 wo_4 pa_5 ch_6 fi ((([]) ++ ([Sum.inl 4])) ++ (markL (4 * 256 + 1 * 8) (nI (dueN k.1)))) (dueN k.1) hL_64 (by omega) hkdd (by omega) (by omega)) (cwV 1 hts gX4_boot_X4_lists rfl rfl rfl (by decide +kernel) ⟨Nat.le_of_ble_eq_true rfl, Nat.le_of_ble_eq_true rfl⟩) (x_preVa hS hE hK hP hD (x_all hD hS hA) xR0 4 0 rfl rfl) rfl rfl hl.1 rfl (lv_room (Nat.le_of_ble_eq_true rfl)) dX4_boot_100 ⟨Nat.le_of_ble_eq_true rfl, Nat.le_of_ble_eq_true rfl⟩) hS hA hD (fun u_66 H locs hu_66 hP hD hS => ?_)
              obtain ⟨dr_67, er_68, pl_69, un_70, li_71, ei_72, ov_73⟩ := u_66
              obtain ⟨hL_74, ho_75, hl_76⟩ : lstR (((([]) ++ ([Sum.inl 4])) ++ (markL (4 * 256 + 1 * 8) (nI (dueN k.1)))) ++ resL dr_58) er_68 pl_69 un_70 li_71 ∧ ov_73 = nI ((((([]) ++ ([Sum.inl 4])) ++ (markL (4 * 256 + 1 * 8) (nI (dueN k.1)))) ++ resL dr_58).length - 1) ∧ li_71 ≤ li_62 + 412 := hu_66
              have hP : va_P (dC, dI) vwCl (gW g0 g1 g2 g3 g4 g5 g6 g7 g8 g9 g10 g11 g12 g13 cI cB k dr_67 er_68 pl_69 un_70 li_71 ov_73 tp tn false vs bo ex wr ei_72 dg_3 wo_4 pa_5 ch_6 fi) _ := hP
              have hD : va_D A (gW g0 g1 g2 g3 g4 g5 g6 g7 g8 g9 g10 g11 g12 g13 cI cB k dr_67 er_68 pl_69 un_70 li_71 ov_73 tp tn false vs bo ex wr ei_72 dg_3 wo_4 pa_5 ch_6 fi) := hD
              have hLL : ((([]) ++ ([Sum.inl 4])) ++ (markL (4 * 256 + 1 * 8) (nI (dueN k.1)))) ++ resL dr_58 = dueL k.1 (dueN k.1) := by rw [hB, hBd, ← dueL_c hdr, dueL, if_neg (by omega), if_neg c2, if_neg (by omega)]
              have hLd := hL_74
              rw [hLL] at hLd
              have hlen := hLd.1
              have hovd : ov_73 = ovV true (dueL k.1 (dueN k.1)).length := by rw [ho_75, hLL]; rfl
              refine lv_aload_n (pc := 103) hx hb dX4_boot_103 rfl (lv_at hl 1 rfl) ?_
              refine x_wria (pc := 104) (va_runV (As := []) (rest := []) ⟨hx, hb, hml, hown, hts⟩ (kX4_does l dC dI tt cI cB _ g0 g1 g2 g3 g4 g5 g6 g7 g8 g9 g10 g11 g12 g13 k dr_67 er_68 pl_69 un_70 li_71 ov_73 tp tn false vs bo ex wr ei_72 dg_3 wo_4 pa_5 ch_6 fi (dueL k.1 (dueN k.1)) true hk hLd (by omega) hovd) (cwV 0 hts gX4_boot_X4_does rfl rfl rfl (by decide +kernel) ⟨Nat.le_of_ble_eq_true rfl, Nat.le_of_ble_eq_true rfl⟩) (x_preVa hS hE hK hP hD (x_all hD hS hA) xR0 4 0 rfl rfl) rfl rfl hl.1 rfl (lv_room (Nat.le_of_ble_eq_true rfl)) dX4_boot_104 ⟨Nat.le_of_ble_eq_true rfl, Nat.le_of_ble_eq_true rfl⟩) hS hA hD (fun r_78 u_77 H locs hu_77 hP hD hS => ?_)
              obtain ⟨k_80, ex_81, rn_82⟩ := u_77
              obtain ⟨hr_78, ek_80, eex_81, ern_82⟩ : r_78 = bI (kActs (dueL k.1 (dueN k.1)) k).2 ∧ k_80 = (kActs (dueL k.1 (dueN k.1)) k).1 ∧ ex_81 = (if true = true ∧ 0 < (dueL k.1 (dueN k.1)).length ∧ (kActs (dueL k.1 (dueN k.1)) k).2 = true then ex + nI 1 else ex) ∧ rn_82 = (if (kActs (dueL k.1 (dueN k.1)) k).2 = true then false else false) := hu_77
              obtain ⟨b_79, eb_79⟩ : ∃ z, z = (kActs (dueL k.1 (dueN k.1)) k).2 := ⟨_, rfl⟩
              rw [← eb_79] at hr_78
              subst hr_78
              have hP : va_P (dC, dI) vwCl (gW g0 g1 g2 g3 g4 g5 g6 g7 g8 g9 g10 g11 g12 g13 cI cB k_80 dr_67 er_68 pl_69 un_70 li_71 ov_73 tp tn rn_82 vs bo ex_81 wr ei_72 dg_3 wo_4 pa_5 ch_6 fi) _ := hP
              have hD : va_D A (gW g0 g1 g2 g3 g4 g5 g6 g7 g8 g9 g10 g11 g12 g13 cI cB k_80 dr_67 er_68 pl_69 un_70 li_71 ov_73 tp tn rn_82 vs bo ex_81 wr ei_72 dg_3 wo_4 pa_5 ch_6 fi) := hD
              refine lv_istore_n (pc := 107) (lv' := [(2, .int (bI b_79)), (1, .int (nI (dueN k.1))), (0, .ref g0)]) hx hb dX4_boot_107 rfl hl (by decide) rfl (fun ls hl => ?_)
              refine lv_iload_n (pc := 108) hx hb dX4_boot_108 rfl (lv_at hl 0 rfl) ?_
              refine lv_if_ne (pc := 109) (tgt := 115) hx hb dX4_boot_109 (by decide) (fun c6 => ?_) (fun c6 => ?_)
              · skip
                have c6 : b_79 = true := bI_1.mp c6
                have f1 : (kActs (dueL k.1 (dueN k.1)) k).2 = true := eb_79.symm.trans c6
                refine lv_iload_n (pc := 115) hx hb dX4_boot_115 rfl (lv_at hl 1 rfl) ?_
                refine lv_iconst (pc := 116) (v := nI 4) hx hb dX4_boot_116 (by decide) ?_
                refine lv_icmp_ne (pc := 117) (tgt := 130) hx hb dX4_boot_117 (by decide) (fun c7 => ?_) (fun c7 => ?_)
                · skip
                  have c7 : ¬ (dueN k.1) = 4 := fun z => c7 ((nI_eq (a := (dueN k.1)) (b := 4) (by omega) (by omega)).mpr z)
                  refine lv_aload_n (pc := 130) hx hb dX4_boot_130 rfl (lv_at hl 2 rfl) ?_
                  refine lv_dup (pc := 131) hx hb dX4_boot_131 rfl ?_
                  refine va_get (pc := 132) (D := (dC, dI)) (ci := 4) (v := .int bo) (C := RX4) (T := TX4) (N := 26) hx hb hts (by decide +kernel) hown hK hP 0 rfl rfl 15 (by decide) (hts (.fieldLink RX4 167 "ScratchSwapModel" "boots" "I") (by decide +kernel)) (fun _ h9 => h9) rfl dX4_boot_132 ?_
                  refine lv_iconst (pc := 135) (v := nI 1) hx hb dX4_boot_135 (by decide) ?_
                  refine lv_iadd (pc := 136) hx hb dX4_boot_136 ?_
                  refine va_put (pc := 137) (D := (dC, dI)) (ci := 4) (v := .int (bo + (nI 1))) (ty := .int) (C := RX4) (T := TX4) (N := 26) hx hb hts (by decide +kernel) tyX4 tyX4_ok nmX4 hown hK hP hD hS 0 rfl rfl 15 (by decide) (hts (.fieldLink RX4 167 "ScratchSwapModel" "boots" "I") (by decide +kernel)) (fun _ h9 => h9) rfl (by decide +kernel) rfl rfl (Nat.le_of_ble_eq_true rfl) dX4_boot_137 (fun H locs hP hD hS => ?_)
                  have hP : va_P (dC, dI) vwCl (gW g0 g1 g2 g3 g4 g5 g6 g7 g8 g9 g10 g11 g12 g13 cI cB k_80 dr_67 er_68 pl_69 un_70 li_71 ov_73 tp tn rn_82 vs (bo + (nI 1)) ex_81 wr ei_72 dg_3 wo_4 pa_5 ch_6 fi) _ := hP
                  have hD : va_D A (gW g0 g1 g2 g3 g4 g5 g6 g7 g8 g9 g10 g11 g12 g13 cI cB k_80 dr_67 er_68 pl_69 un_70 li_71 ov_73 tp tn rn_82 vs (bo + (nI 1)) ex_81 wr ei_72 dg_3 wo_4 pa_5 ch_6 fi) := hD
                  refine lv_aload_n (pc := 140) hx hb dX4_boot_140 rfl (lv_at hl 2 rfl) ?_
                  refine lv_aload_n (pc := 141) hx hb dX4_boot_141 rfl (lv_at hl 2 rfl) ?_
                  refine lv_iconst (pc := 142) (v := nI 0) hx hb dX4_boot_142 (by decide) ?_
                  refine x_wria (pc := 143) (va_runV (As := [.int (nI 0)]) (rest := [.ref g0]) ⟨hx, hb, hml, hown, hts⟩ (kX4_isRight l dC dI tt cI cB _ g0 g1 g2 g3 g4 g5 g6 g7 g8 g9 g10 g11 g12 g13 k_80 dr_67 er_68 pl_69 un_70 li_71 ov_73 tp tn rn_82 vs (bo + (nI 1)) ex_81 wr ei_72 dg_3 wo_4 pa_5 ch_6 fi 0 (by omega)) (cwV 1 hts gX4_boot_X4_isRight rfl rfl rfl (by decide +kernel) ⟨Nat.le_of_ble_eq_true rfl, Nat.le_of_ble_eq_true rfl⟩) (x_preVa hS hE hK hP hD (x_all hD hS hA) xR0 4 0 rfl rfl) rfl rfl hl.1 rfl (lv_room (Nat.le_of_ble_eq_true rfl)) dX4_boot_143 ⟨Nat.le_of_ble_eq_true rfl, Nat.le_of_ble_eq_true rfl⟩) hS hA hD (fun r_84 u_83 H locs hu_83 hP hD hS => ?_)
                  obtain ⟨dg_85, wo_86, pa_87, ch_88⟩ := u_83
                  subst hu_83
                  have hP : va_P (dC, dI) vwCl (gW g0 g1 g2 g3 g4 g5 g6 g7 g8 g9 g10 g11 g12 g13 cI cB k_80 dr_67 er_68 pl_69 un_70 li_71 ov_73 tp tn rn_82 vs (bo + (nI 1)) ex_81 wr ei_72 dg_85 wo_86 pa_87 ch_88 fi) _ := hP
                  have hD : va_D A (gW g0 g1 g2 g3 g4 g5 g6 g7 g8 g9 g10 g11 g12 g13 cI cB k_80 dr_67 er_68 pl_69 un_70 li_71 ov_73 tp tn rn_82 vs (bo + (nI 1)) ex_81 wr ei_72 dg_85 wo_86 pa_87 ch_88 fi) := hD
                  refine va_put (pc := 146) (D := (dC, dI)) (ci := 4) (v := .int (bI (rightB k_80.1 (0 * 5 * 256)))) (ty := .boolean) (C := RX4) (T := TX4) (N := 26) hx hb hts (by decide +kernel) tyX4 tyX4_ok nmX4 hown hK hP hD hS 0 rfl rfl 10 (by decide) (hts (.fieldLink RX4 92 "ScratchSwapModel" "runs" "Z") (by decide +kernel)) (fun _ h9 => h9) rfl (by decide +kernel) (nbI (rightB k_80.1 (0 * 5 * 256))) (fbI (rightB k_80.1 (0 * 5 * 256))) (Nat.le_of_ble_eq_true rfl) dX4_boot_146 (fun H locs hP hD hS => ?_)
                  have hP : va_P (dC, dI) vwCl (gW g0 g1 g2 g3 g4 g5 g6 g7 g8 g9 g10 g11 g12 g13 cI cB k_80 dr_67 er_68 pl_69 un_70 li_71 ov_73 tp tn (rightB k_80.1 (0 * 5 * 256)) vs (bo + (nI 1)) ex_81 wr ei_72 dg_85 wo_86 pa_87 ch_88 fi) _ := hP
                  have hD : va_D A (gW g0 g1 g2 g3 g4 g5 g6 g7 g8 g9 g10 g11 g12 g13 cI cB k_80 dr_67 er_68 pl_69 un_70 li_71 ov_73 tp tn (rightB k_80.1 (0 * 5 * 256)) vs (bo + (nI 1)) ex_81 wr ei_72 dg_85 wo_86 pa_87 ch_88 fi) := hD
                  refine lv_aload_n (pc := 149) hx hb dX4_boot_149 rfl (lv_at hl 2 rfl) ?_
                  refine lv_aload_n (pc := 150) hx hb dX4_boot_150 rfl (lv_at hl 2 rfl) ?_
                  refine va_get (pc := 151) (D := (dC, dI)) (ci := 4) (v := .ref g1) (C := RX4) (T := TX4) (N := 26) hx hb hts (by decide +kernel) hown hK hP 0 rfl rfl 0 (by decide) (hts (.fieldLink RX4 9 "ScratchSwapModel" "flash" "[B") (by decide +kernel)) (fun _ h9 => h9) rfl dX4_boot_151 ?_
                  refine lv_iconst (pc := 154) (v := nI 4) hx hb dX4_boot_154 (by decide) ?_
                  refine x_roi (pc := 155) (va_runS (As := [.ref g1, .int (nI 4)]) (rest := [.ref g0]) ⟨hx, hb, hml, hown, hts⟩ (kX4_intAt l dC dI tt cI cB _ g1 2816 k_80.1 4 (by omega) (by omega)) (va_cwS 2 hts gX4_boot_X4_intAt rfl rfl rfl (by decide +kernel) ⟨Nat.le_of_ble_eq_true rfl, Nat.le_of_ble_eq_true rfl⟩) (x_preS hS hE hK hP hD [1] rfl (by decide) (x_ro hS hA) xR0) rfl rfl hl.1 rfl (lv_room (Nat.le_of_ble_eq_true rfl)) dX4_boot_155 ⟨Nat.le_of_ble_eq_true rfl, Nat.le_of_ble_eq_true rfl⟩) hS hA hP (fun r_89 H locs hr_89 hP hS => ?_)
                  subst hr_89
                  refine va_put (pc := 158) (D := (dC, dI)) (ci := 4) (v := .int (mI k_80.1 4)) (ty := .int) (C := RX4) (T := TX4) (N := 26) hx hb hts (by decide +kernel) tyX4 tyX4_ok nmX4 hown hK hP hD hS 0 rfl rfl 11 (by decide) (hts (.fieldLink RX4 170 "ScratchSwapModel" "version" "I") (by decide +kernel)) (fun _ h9 => h9) rfl (by decide +kernel) rfl rfl (Nat.le_of_ble_eq_true rfl) dX4_boot_158 (fun H locs hP hD hS => ?_)
                  have hP : va_P (dC, dI) vwCl (gW g0 g1 g2 g3 g4 g5 g6 g7 g8 g9 g10 g11 g12 g13 cI cB k_80 dr_67 er_68 pl_69 un_70 li_71 ov_73 tp tn (rightB k_80.1 (0 * 5 * 256)) (mI k_80.1 4) (bo + (nI 1)) ex_81 wr ei_72 dg_85 wo_86 pa_87 ch_88 fi) _ := hP
                  have hD : va_D A (gW g0 g1 g2 g3 g4 g5 g6 g7 g8 g9 g10 g11 g12 g13 cI cB k_80 dr_67 er_68 pl_69 un_70 li_71 ov_73 tp tn (rightB k_80.1 (0 * 5 * 256)) (mI k_80.1 4) (bo + (nI 1)) ex_81 wr ei_72 dg_85 wo_86 pa_87 ch_88 fi) := hD
                  refine lv_aload_n (pc := 161) hx hb dX4_boot_161 rfl (lv_at hl 2 rfl) ?_
                  refine va_get (pc := 162) (D := (dC, dI)) (ci := 4) (v := .int (bI (rightB k_80.1 (0 * 5 * 256)))) (C := RX4) (T := TX4) (N := 26) hx hb hts (by decide +kernel) hown hK hP 0 rfl rfl 10 (by decide) (hts (.fieldLink RX4 92 "ScratchSwapModel" "runs" "Z") (by decide +kernel)) (fun _ h9 => h9) rfl dX4_boot_162 ?_
                  refine lv_if_eq (pc := 165) (tgt := 172) hx hb dX4_boot_165 (by decide) (fun cr => ?_) (fun cr => ?_)
                  · skip
                    have cr : (rightB k_80.1 (0 * 5 * 256)) = false := bI_0.mp cr
                    refine lv_iconst (pc := 172) (v := nI 0) hx hb dX4_boot_172 (by decide) ?_
                    exact W.iret (v := nI 0) hx hb hr (fun t ht hW => ⟨⟨nI 0, (k_80, dr_67, er_68, pl_69, un_70, li_71, ov_73, rightB k_80.1 (0 * 5 * 256), ex_81, ei_72, mI k_80.1 4, bo + (nI 1), wr, dg_85, wo_86, pa_87, ch_88), rfl, by rw [bootR, if_neg (by rw [c1]; decide), if_pos f1, ← ek_80, if_neg (by rw [cr]; decide), eex_81, if_pos ⟨rfl, dueL_pos _ (by omega) c2, f1⟩, bootE, if_neg (by omega), bootW, if_neg c2, cr]; rfl, by show va_P _ _ _ t.heap; rw [ht]; exact hP, va_K.moved hW.alike hK, hD⟩, hS.F ht⟩) hS.2.2 dX4_boot_173
                  · skip
                    have cr : (rightB k_80.1 (0 * 5 * 256)) = true := bI_1.mp cr
                    refine lv_iconst (pc := 168) (v := nI 1) hx hb dX4_boot_168 (by decide) ?_
                    refine lv_goto (pc := 169) (tgt := 173) hx hb dX4_boot_169 (by decide) ?_
                    exact W.iret (v := nI 1) hx hb hr (fun t ht hW => ⟨⟨nI 1, (k_80, dr_67, er_68, pl_69, un_70, li_71, ov_73, rightB k_80.1 (0 * 5 * 256), ex_81, ei_72, mI k_80.1 4, bo + (nI 1), wr, dg_85, wo_86, pa_87, ch_88), rfl, by rw [bootR, if_neg (by rw [c1]; decide), if_pos f1, ← ek_80, if_pos cr, eex_81, if_pos ⟨rfl, dueL_pos _ (by omega) c2, f1⟩, bootE, if_neg (by omega), bootW, if_neg c2, cr]; rfl, by show va_P _ _ _ t.heap; rw [ht]; exact hP, va_K.moved hW.alike hK, hD⟩, hS.F ht⟩) hS.2.2 dX4_boot_173
                · skip
                  have c7 : (dueN k.1) = 4 := (nI_eq (a := (dueN k.1)) (b := 4) (by omega) (by omega)).mp c7
                  exfalso; omega
              · skip
                have c6 : b_79 = false := bI_0.mp c6
                have f1 : (kActs (dueL k.1 (dueN k.1)) k).2 = false := eb_79.symm.trans c6
                refine lv_bipush (pc := 112) (v := (-9)) hx hb dX4_boot_112 (by decide) ?_
                exact W.iret (v := (-9)) hx hb hr (fun t ht hW => ⟨⟨(-9), (k_80, dr_67, er_68, pl_69, un_70, li_71, ov_73, rn_82, ex_81, ei_72, vs, bo, wr, dg_3, wo_4, pa_5, ch_6), rfl, by rw [bootR, if_neg (by rw [c1]; decide), if_neg (by rw [f1]; decide), ← ek_80, ern_82, if_neg (by rw [f1]; decide), eex_81, if_neg (fun z => by rw [f1] at z; exact absurd z.2.2 (by decide))]; rfl, by show va_P _ _ _ t.heap; rw [ht]; exact hP, va_K.moved hW.alike hK, hD⟩, hS.F ht⟩) hS.2.2 dX4_boot_114
          · skip
            have cm : ¬ (setN u_7 (9 * 256 + 1 * 8)) = (dueN k.1) := fun z => cm ((nI_eq (a := (setN u_7 (9 * 256 + 1 * 8))) (b := (dueN k.1)) (by omega) (by omega)).mpr z)
            refine lv_aload_n (pc := 61) hx hb dX4_boot_61 rfl (lv_at hl 1 rfl) ?_
            refine lv_bipush (pc := 62) (v := nI 9) hx hb dX4_boot_62 (by decide) ?_
            refine lv_iconst (pc := 64) (v := nI 1) hx hb dX4_boot_64 (by decide) ?_
            refine lv_iload_n (pc := 65) hx hb dX4_boot_65 rfl (lv_at hl 0 rfl) ?_
            refine x_wrva (pc := 66) (va_runV (As := [.int (nI 9), .int (nI 1), .int (nI (dueN k.1))]) (rest := []) ⟨hx, hb, hml, hown, hts⟩ (kX4_mark l dC dI tt cI cB _ g0 g1 g2 g3 g4 g5 g6 g7 g8 g9 g10 g11 g12 g13 k u_7 er pl un 0 (-1) tp tn false vs bo ex wr ei dg_3 wo_4 pa_5 ch_6 fi ([]) 9 1 (nI (dueN k.1)) hL0 (by omega) (by omega)) (cwV 3 hts gX4_boot_X4_mark rfl rfl rfl (by decide +kernel) ⟨Nat.le_of_ble_eq_true rfl, Nat.le_of_ble_eq_true rfl⟩) (x_preVa hS hE hK hP hD (x_all hD hS hA) xR0 4 0 rfl rfl) rfl rfl hl.1 rfl (lv_room (Nat.le_of_ble_eq_true rfl)) dX4_boot_66 ⟨Nat.le_of_ble_eq_true rfl, Nat.le_of_ble_eq_true rfl⟩) hS hA hD (fun u_90 H locs hu_90 hP hD hS => ?_)
            obtain ⟨dr_91, er_92, pl_93, un_94, li_95, ei_96⟩ := u_90
            obtain ⟨hL_97, hd_98⟩ : lstR (([]) ++ (markL (9 * 256 + 1 * 8) (nI (dueN k.1)))) er_92 pl_93 un_94 li_95 ∧ dr_91 = appL (markL (9 * 256 + 1 * 8) (nI (dueN k.1))) u_7 := hu_90
            have hP : va_P (dC, dI) vwCl (gW g0 g1 g2 g3 g4 g5 g6 g7 g8 g9 g10 g11 g12 g13 cI cB k dr_91 er_92 pl_93 un_94 li_95 (-1) tp tn false vs bo ex wr ei_96 dg_3 wo_4 pa_5 ch_6 fi) _ := hP
            have hD : va_D A (gW g0 g1 g2 g3 g4 g5 g6 g7 g8 g9 g10 g11 g12 g13 cI cB k dr_91 er_92 pl_93 un_94 li_95 (-1) tp tn false vs bo ex wr ei_96 dg_3 wo_4 pa_5 ch_6 fi) := hD
            have hlen_li_95 : li_95 = 0 + 1 := by rw [hL_97.1, List.length_append, ← hL0.1]; rfl
            refine lv_aload_n (pc := 69) hx hb dX4_boot_69 rfl (lv_at hl 1 rfl) ?_
            refine lv_iconst (pc := 70) (v := nI 4) hx hb dX4_boot_70 (by decide) ?_
            refine x_wrva (pc := 71) (va_runV (As := [.int (nI 4)]) (rest := []) ⟨hx, hb, hml, hown, hts⟩ (kX4_erase l dC dI tt cI cB _ g0 g1 g2 g3 g4 g5 g6 g7 g8 g9 g10 g11 g12 g13 k dr_91 er_92 pl_93 un_94 li_95 (-1) tp tn false vs bo ex wr ei_96 dg_3 wo_4 pa_5 ch_6 fi (([]) ++ (markL (9 * 256 + 1 * 8) (nI (dueN k.1)))) 4 hL_97 (by omega) (by omega)) (cwV 1 hts gX4_boot_X4_erase rfl rfl rfl (by decide +kernel) ⟨Nat.le_of_ble_eq_true rfl, Nat.le_of_ble_eq_true rfl⟩) (x_preVa hS hE hK hP hD (x_all hD hS hA) xR0 4 0 rfl rfl) rfl rfl hl.1 rfl (lv_room (Nat.le_of_ble_eq_true rfl)) dX4_boot_71 ⟨Nat.le_of_ble_eq_true rfl, Nat.le_of_ble_eq_true rfl⟩) hS hA hD (fun u_99 H locs hu_99 hP hD hS => ?_)
            obtain ⟨dr_100, er_101, pl_102, un_103, li_104⟩ := u_99
            obtain ⟨hL_105, hd_106⟩ : lstR ((([]) ++ (markL (9 * 256 + 1 * 8) (nI (dueN k.1)))) ++ ([Sum.inl 4])) er_101 pl_102 un_103 li_104 ∧ dr_100 = fillF dr_91 (4 * 256) 256 := hu_99
            have hP : va_P (dC, dI) vwCl (gW g0 g1 g2 g3 g4 g5 g6 g7 g8 g9 g10 g11 g12 g13 cI cB k dr_100 er_101 pl_102 un_103 li_104 (-1) tp tn false vs bo ex wr ei_96 dg_3 wo_4 pa_5 ch_6 fi) _ := hP
            have hD : va_D A (gW g0 g1 g2 g3 g4 g5 g6 g7 g8 g9 g10 g11 g12 g13 cI cB k dr_100 er_101 pl_102 un_103 li_104 (-1) tp tn false vs bo ex wr ei_96 dg_3 wo_4 pa_5 ch_6 fi) := hD
            have hlen_li_104 : li_104 = li_95 + 1 := by rw [hL_105.1, List.length_append, ← hL_97.1]; rfl
            refine lv_aload_n (pc := 74) hx hb dX4_boot_74 rfl (lv_at hl 1 rfl) ?_
            refine lv_iconst (pc := 75) (v := nI 4) hx hb dX4_boot_75 (by decide) ?_
            refine lv_iconst (pc := 76) (v := nI 1) hx hb dX4_boot_76 (by decide) ?_
            refine lv_iload_n (pc := 77) hx hb dX4_boot_77 rfl (lv_at hl 0 rfl) ?_
            refine x_wrva (pc := 78) (va_runV (As := [.int (nI 4), .int (nI 1), .int (nI (dueN k.1))]) (rest := []) ⟨hx, hb, hml, hown, hts⟩ (kX4_mark l dC dI tt cI cB _ g0 g1 g2 g3 g4 g5 g6 g7 g8 g9 g10 g11 g12 g13 k dr_100 er_101 pl_102 un_103 li_104 (-1) tp tn false vs bo ex wr ei_96 dg_3 wo_4 pa_5 ch_6 fi ((([]) ++ (markL (9 * 256 + 1 * 8) (nI (dueN k.1)))) ++ ([Sum.inl 4])) 4 1 (nI (dueN k.1)) hL_105 (by omega) (by omega)) (cwV 3 hts gX4_boot_X4_mark rfl rfl rfl (by decide +kernel) ⟨Nat.le_of_ble_eq_true rfl, Nat.le_of_ble_eq_true rfl⟩) (x_preVa hS hE hK hP hD (x_all hD hS hA) xR0 4 0 rfl rfl) rfl rfl hl.1 rfl (lv_room (Nat.le_of_ble_eq_true rfl)) dX4_boot_78 ⟨Nat.le_of_ble_eq_true rfl, Nat.le_of_ble_eq_true rfl⟩) hS hA hD (fun u_107 H locs hu_107 hP hD hS => ?_)
            obtain ⟨dr_108, er_109, pl_110, un_111, li_112, ei_113⟩ := u_107
            obtain ⟨hL_114, hd_115⟩ : lstR (((([]) ++ (markL (9 * 256 + 1 * 8) (nI (dueN k.1)))) ++ ([Sum.inl 4])) ++ (markL (4 * 256 + 1 * 8) (nI (dueN k.1)))) er_109 pl_110 un_111 li_112 ∧ dr_108 = appL (markL (4 * 256 + 1 * 8) (nI (dueN k.1))) dr_100 := hu_107
            have hP : va_P (dC, dI) vwCl (gW g0 g1 g2 g3 g4 g5 g6 g7 g8 g9 g10 g11 g12 g13 cI cB k dr_108 er_109 pl_110 un_111 li_112 (-1) tp tn false vs bo ex wr ei_113 dg_3 wo_4 pa_5 ch_6 fi) _ := hP
            have hD : va_D A (gW g0 g1 g2 g3 g4 g5 g6 g7 g8 g9 g10 g11 g12 g13 cI cB k dr_108 er_109 pl_110 un_111 li_112 (-1) tp tn false vs bo ex wr ei_113 dg_3 wo_4 pa_5 ch_6 fi) := hD
            have hlen_li_112 : li_112 = li_104 + 1 := by rw [hL_114.1, List.length_append, ← hL_105.1]; rfl
            refine lv_aload_n (pc := 81) hx hb dX4_boot_81 rfl (lv_at hl 1 rfl) ?_
            refine lv_iload_n (pc := 82) hx hb dX4_boot_82 rfl (lv_at hl 0 rfl) ?_
            refine lv_iconst (pc := 83) (v := nI 4) hx hb dX4_boot_83 (by decide) ?_
            refine lv_icmp_ge (pc := 84) (tgt := 91) hx hb dX4_boot_84 (by decide) (fun c5 => ?_) (fun c5 => ?_)
            · skip
              have c5 : 4 ≤ (dueN k.1) := (nI_leI (a := 4) (b := (dueN k.1)) (by omega) (by omega)).mp c5
              exfalso; omega
            · skip
              have c5 : ¬ 4 ≤ (dueN k.1) := fun z => c5 ((nI_leI (a := 4) (b := (dueN k.1)) (by omega) (by omega)).mpr z)
              refine lv_iload_n (pc := 87) hx hb dX4_boot_87 rfl (lv_at hl 0 rfl) ?_
              refine lv_goto (pc := 88) (tgt := 100) hx hb dX4_boot_88 (by decide) ?_
              have hB : ((([]) ++ (markL (9 * 256 + 1 * 8) (nI (dueN k.1)))) ++ ([Sum.inl 4])) ++ (markL (4 * 256 + 1 * 8) (nI (dueN k.1))) = begL u_7 (dueN k.1) := by rw [begL, if_neg cm]; rfl
              have hBd : dr_108 = appL (begL u_7 (dueN k.1)) u_7 := by rw [begL, if_neg cm, appL_app, appL_app, hd_115, hd_106, hd_98]; rfl
              have hkdd : dueN k.1 = setN dr_108 (4 * 256 + 1 * 8) := by rw [hBd]; exact (beg_kind (by omega) (by omega)).symm
              refine x_wrva (pc := 100) (va_runV (As := [.int (nI (dueN k.1))]) (rest := []) ⟨hx, hb, hml, hown, hts⟩ (kX4_lists l dC dI tt cI cB _ g0 g1 g2 g3 g4 g5 g6 g7 g8 g9 g10 g11 g12 g13 k dr_108 er_109 pl_110 un_111 li_112 (-1) tp tn false vs bo ex wr ei_113 dg_3 wo_4 pa_5 ch_6 fi (((([]) ++ (markL (9 * 256 + 1 * 8) (nI (dueN k.1)))) ++ ([Sum.inl 4])) ++ (markL (4 * 256 + 1 * 8) (nI (dueN k.1)))) (dueN k.1) hL_114 (by omega) hkdd (by omega) (by omega)) (cwV 1 hts gX4_boot_X4_lists rfl rfl rfl (by decide +kernel) ⟨Nat.le_of_ble_eq_true rfl, Nat.le_of_ble_eq_true rfl⟩) (x_preVa hS hE hK hP hD (x_all hD hS hA) xR0 4 0 rfl rfl) rfl rfl hl.1 rfl (lv_room (Nat.le_of_ble_eq_true rfl)) dX4_boot_100 ⟨Nat.le_of_ble_eq_true rfl, Nat.le_of_ble_eq_true rfl⟩) hS hA hD (fun u_116 H locs hu_116 hP hD hS => ?_)
              obtain ⟨dr_117, er_118, pl_119, un_120, li_121, ei_122, ov_123⟩ := u_116
              obtain ⟨hL_124, ho_125, hl_126⟩ : lstR ((((([]) ++ (markL (9 * 256 + 1 * 8) (nI (dueN k.1)))) ++ ([Sum.inl 4])) ++ (markL (4 * 256 + 1 * 8) (nI (dueN k.1)))) ++ resL dr_108) er_118 pl_119 un_120 li_121 ∧ ov_123 = nI (((((([]) ++ (markL (9 * 256 + 1 * 8) (nI (dueN k.1)))) ++ ([Sum.inl 4])) ++ (markL (4 * 256 + 1 * 8) (nI (dueN k.1)))) ++ resL dr_108).length - 1) ∧ li_121 ≤ li_112 + 412 := hu_116
              have hP : va_P (dC, dI) vwCl (gW g0 g1 g2 g3 g4 g5 g6 g7 g8 g9 g10 g11 g12 g13 cI cB k dr_117 er_118 pl_119 un_120 li_121 ov_123 tp tn false vs bo ex wr ei_122 dg_3 wo_4 pa_5 ch_6 fi) _ := hP
              have hD : va_D A (gW g0 g1 g2 g3 g4 g5 g6 g7 g8 g9 g10 g11 g12 g13 cI cB k dr_117 er_118 pl_119 un_120 li_121 ov_123 tp tn false vs bo ex wr ei_122 dg_3 wo_4 pa_5 ch_6 fi) := hD
              have hLL : (((([]) ++ (markL (9 * 256 + 1 * 8) (nI (dueN k.1)))) ++ ([Sum.inl 4])) ++ (markL (4 * 256 + 1 * 8) (nI (dueN k.1)))) ++ resL dr_108 = dueL k.1 (dueN k.1) := by rw [hB, hBd, ← dueL_c hdr, dueL, if_neg (by omega), if_neg c2, if_neg (by omega)]
              have hLd := hL_124
              rw [hLL] at hLd
              have hlen := hLd.1
              have hovd : ov_123 = ovV true (dueL k.1 (dueN k.1)).length := by rw [ho_125, hLL]; rfl
              refine lv_aload_n (pc := 103) hx hb dX4_boot_103 rfl (lv_at hl 1 rfl) ?_
              refine x_wria (pc := 104) (va_runV (As := []) (rest := []) ⟨hx, hb, hml, hown, hts⟩ (kX4_does l dC dI tt cI cB _ g0 g1 g2 g3 g4 g5 g6 g7 g8 g9 g10 g11 g12 g13 k dr_117 er_118 pl_119 un_120 li_121 ov_123 tp tn false vs bo ex wr ei_122 dg_3 wo_4 pa_5 ch_6 fi (dueL k.1 (dueN k.1)) true hk hLd (by omega) hovd) (cwV 0 hts gX4_boot_X4_does rfl rfl rfl (by decide +kernel) ⟨Nat.le_of_ble_eq_true rfl, Nat.le_of_ble_eq_true rfl⟩) (x_preVa hS hE hK hP hD (x_all hD hS hA) xR0 4 0 rfl rfl) rfl rfl hl.1 rfl (lv_room (Nat.le_of_ble_eq_true rfl)) dX4_boot_104 ⟨Nat.le_of_ble_eq_true rfl, Nat.le_of_ble_eq_true rfl⟩) hS hA hD (fun r_128 u_127 H locs hu_127 hP hD hS => ?_)
              obtain ⟨k_130, ex_131, rn_132⟩ := u_127
              obtain ⟨hr_128, ek_130, eex_131, ern_132⟩ : r_128 = bI (kActs (dueL k.1 (dueN k.1)) k).2 ∧ k_130 = (kActs (dueL k.1 (dueN k.1)) k).1 ∧ ex_131 = (if true = true ∧ 0 < (dueL k.1 (dueN k.1)).length ∧ (kActs (dueL k.1 (dueN k.1)) k).2 = true then ex + nI 1 else ex) ∧ rn_132 = (if (kActs (dueL k.1 (dueN k.1)) k).2 = true then false else false) := hu_127
              obtain ⟨b_129, eb_129⟩ : ∃ z, z = (kActs (dueL k.1 (dueN k.1)) k).2 := ⟨_, rfl⟩
              rw [← eb_129] at hr_128
              subst hr_128
              have hP : va_P (dC, dI) vwCl (gW g0 g1 g2 g3 g4 g5 g6 g7 g8 g9 g10 g11 g12 g13 cI cB k_130 dr_117 er_118 pl_119 un_120 li_121 ov_123 tp tn rn_132 vs bo ex_131 wr ei_122 dg_3 wo_4 pa_5 ch_6 fi) _ := hP
              have hD : va_D A (gW g0 g1 g2 g3 g4 g5 g6 g7 g8 g9 g10 g11 g12 g13 cI cB k_130 dr_117 er_118 pl_119 un_120 li_121 ov_123 tp tn rn_132 vs bo ex_131 wr ei_122 dg_3 wo_4 pa_5 ch_6 fi) := hD
              refine lv_istore_n (pc := 107) (lv' := [(2, .int (bI b_129)), (1, .int (nI (dueN k.1))), (0, .ref g0)]) hx hb dX4_boot_107 rfl hl (by decide) rfl (fun ls hl => ?_)
              refine lv_iload_n (pc := 108) hx hb dX4_boot_108 rfl (lv_at hl 0 rfl) ?_
              refine lv_if_ne (pc := 109) (tgt := 115) hx hb dX4_boot_109 (by decide) (fun c6 => ?_) (fun c6 => ?_)
              · skip
                have c6 : b_129 = true := bI_1.mp c6
                have f1 : (kActs (dueL k.1 (dueN k.1)) k).2 = true := eb_129.symm.trans c6
                refine lv_iload_n (pc := 115) hx hb dX4_boot_115 rfl (lv_at hl 1 rfl) ?_
                refine lv_iconst (pc := 116) (v := nI 4) hx hb dX4_boot_116 (by decide) ?_
                refine lv_icmp_ne (pc := 117) (tgt := 130) hx hb dX4_boot_117 (by decide) (fun c7 => ?_) (fun c7 => ?_)
                · skip
                  have c7 : ¬ (dueN k.1) = 4 := fun z => c7 ((nI_eq (a := (dueN k.1)) (b := 4) (by omega) (by omega)).mpr z)
                  refine lv_aload_n (pc := 130) hx hb dX4_boot_130 rfl (lv_at hl 2 rfl) ?_
                  refine lv_dup (pc := 131) hx hb dX4_boot_131 rfl ?_
                  refine va_get (pc := 132) (D := (dC, dI)) (ci := 4) (v := .int bo) (C := RX4) (T := TX4) (N := 26) hx hb hts (by decide +kernel) hown hK hP 0 rfl rfl 15 (by decide) (hts (.fieldLink RX4 167 "ScratchSwapModel" "boots" "I") (by decide +kernel)) (fun _ h9 => h9) rfl dX4_boot_132 ?_
                  refine lv_iconst (pc := 135) (v := nI 1) hx hb dX4_boot_135 (by decide) ?_
                  refine lv_iadd (pc := 136) hx hb dX4_boot_136 ?_
                  refine va_put (pc := 137) (D := (dC, dI)) (ci := 4) (v := .int (bo + (nI 1))) (ty := .int) (C := RX4) (T := TX4) (N := 26) hx hb hts (by decide +kernel) tyX4 tyX4_ok nmX4 hown hK hP hD hS 0 rfl rfl 15 (by decide) (hts (.fieldLink RX4 167 "ScratchSwapModel" "boots" "I") (by decide +kernel)) (fun _ h9 => h9) rfl (by decide +kernel) rfl rfl (Nat.le_of_ble_eq_true rfl) dX4_boot_137 (fun H locs hP hD hS => ?_)
                  have hP : va_P (dC, dI) vwCl (gW g0 g1 g2 g3 g4 g5 g6 g7 g8 g9 g10 g11 g12 g13 cI cB k_130 dr_117 er_118 pl_119 un_120 li_121 ov_123 tp tn rn_132 vs (bo + (nI 1)) ex_131 wr ei_122 dg_3 wo_4 pa_5 ch_6 fi) _ := hP
                  have hD : va_D A (gW g0 g1 g2 g3 g4 g5 g6 g7 g8 g9 g10 g11 g12 g13 cI cB k_130 dr_117 er_118 pl_119 un_120 li_121 ov_123 tp tn rn_132 vs (bo + (nI 1)) ex_131 wr ei_122 dg_3 wo_4 pa_5 ch_6 fi) := hD
                  refine lv_aload_n (pc := 140) hx hb dX4_boot_140 rfl (lv_at hl 2 rfl) ?_
                  refine lv_aload_n (pc := 141) hx hb dX4_boot_141 rfl (lv_at hl 2 rfl) ?_
                  refine lv_iconst (pc := 142) (v := nI 0) hx hb dX4_boot_142 (by decide) ?_
                  refine x_wria (pc := 143) (va_runV (As := [.int (nI 0)]) (rest := [.ref g0]) ⟨hx, hb, hml, hown, hts⟩ (kX4_isRight l dC dI tt cI cB _ g0 g1 g2 g3 g4 g5 g6 g7 g8 g9 g10 g11 g12 g13 k_130 dr_117 er_118 pl_119 un_120 li_121 ov_123 tp tn rn_132 vs (bo + (nI 1)) ex_131 wr ei_122 dg_3 wo_4 pa_5 ch_6 fi 0 (by omega)) (cwV 1 hts gX4_boot_X4_isRight rfl rfl rfl (by decide +kernel) ⟨Nat.le_of_ble_eq_true rfl, Nat.le_of_ble_eq_true rfl⟩) (x_preVa hS hE hK hP hD (x_all hD hS hA) xR0 4 0 rfl rfl) rfl rfl hl.1 rfl (lv_room (Nat.le_of_ble_eq_true rfl)) dX4_boot_143 ⟨Nat.le_of_ble_eq_true rfl, Nat.le_of_ble_eq_true rfl⟩) hS hA hD (fun r_134 u_133 H locs hu_133 hP hD hS => ?_)
                  obtain ⟨dg_135, wo_136, pa_137, ch_138⟩ := u_133
                  subst hu_133
                  have hP : va_P (dC, dI) vwCl (gW g0 g1 g2 g3 g4 g5 g6 g7 g8 g9 g10 g11 g12 g13 cI cB k_130 dr_117 er_118 pl_119 un_120 li_121 ov_123 tp tn rn_132 vs (bo + (nI 1)) ex_131 wr ei_122 dg_135 wo_136 pa_137 ch_138 fi) _ := hP
                  have hD : va_D A (gW g0 g1 g2 g3 g4 g5 g6 g7 g8 g9 g10 g11 g12 g13 cI cB k_130 dr_117 er_118 pl_119 un_120 li_121 ov_123 tp tn rn_132 vs (bo + (nI 1)) ex_131 wr ei_122 dg_135 wo_136 pa_137 ch_138 fi) := hD
                  refine va_put (pc := 146) (D := (dC, dI)) (ci := 4) (v := .int (bI (rightB k_130.1 (0 * 5 * 256)))) (ty := .boolean) (C := RX4) (T := TX4) (N := 26) hx hb hts (by decide +kernel) tyX4 tyX4_ok nmX4 hown hK hP hD hS 0 rfl rfl 10 (by decide) (hts (.fieldLink RX4 92 "ScratchSwapModel" "runs" "Z") (by decide +kernel)) (fun _ h9 => h9) rfl (by decide +kernel) (nbI (rightB k_130.1 (0 * 5 * 256))) (fbI (rightB k_130.1 (0 * 5 * 256))) (Nat.le_of_ble_eq_true rfl) dX4_boot_146 (fun H locs hP hD hS => ?_)
                  have hP : va_P (dC, dI) vwCl (gW g0 g1 g2 g3 g4 g5 g6 g7 g8 g9 g10 g11 g12 g13 cI cB k_130 dr_117 er_118 pl_119 un_120 li_121 ov_123 tp tn (rightB k_130.1 (0 * 5 * 256)) vs (bo + (nI 1)) ex_131 wr ei_122 dg_135 wo_136 pa_137 ch_138 fi) _ := hP
                  have hD : va_D A (gW g0 g1 g2 g3 g4 g5 g6 g7 g8 g9 g10 g11 g12 g13 cI cB k_130 dr_117 er_118 pl_119 un_120 li_121 ov_123 tp tn (rightB k_130.1 (0 * 5 * 256)) vs (bo + (nI 1)) ex_131 wr ei_122 dg_135 wo_136 pa_137 ch_138 fi) := hD
                  refine lv_aload_n (pc := 149) hx hb dX4_boot_149 rfl (lv_at hl 2 rfl) ?_
                  refine lv_aload_n (pc := 150) hx hb dX4_boot_150 rfl (lv_at hl 2 rfl) ?_
                  refine va_get (pc := 151) (D := (dC, dI)) (ci := 4) (v := .ref g1) (C := RX4) (T := TX4) (N := 26) hx hb hts (by decide +kernel) hown hK hP 0 rfl rfl 0 (by decide) (hts (.fieldLink RX4 9 "ScratchSwapModel" "flash" "[B") (by decide +kernel)) (fun _ h9 => h9) rfl dX4_boot_151 ?_
                  refine lv_iconst (pc := 154) (v := nI 4) hx hb dX4_boot_154 (by decide) ?_
                  refine x_roi (pc := 155) (va_runS (As := [.ref g1, .int (nI 4)]) (rest := [.ref g0]) ⟨hx, hb, hml, hown, hts⟩ (kX4_intAt l dC dI tt cI cB _ g1 2816 k_130.1 4 (by omega) (by omega)) (va_cwS 2 hts gX4_boot_X4_intAt rfl rfl rfl (by decide +kernel) ⟨Nat.le_of_ble_eq_true rfl, Nat.le_of_ble_eq_true rfl⟩) (x_preS hS hE hK hP hD [1] rfl (by decide) (x_ro hS hA) xR0) rfl rfl hl.1 rfl (lv_room (Nat.le_of_ble_eq_true rfl)) dX4_boot_155 ⟨Nat.le_of_ble_eq_true rfl, Nat.le_of_ble_eq_true rfl⟩) hS hA hP (fun r_139 H locs hr_139 hP hS => ?_)
                  subst hr_139
                  refine va_put (pc := 158) (D := (dC, dI)) (ci := 4) (v := .int (mI k_130.1 4)) (ty := .int) (C := RX4) (T := TX4) (N := 26) hx hb hts (by decide +kernel) tyX4 tyX4_ok nmX4 hown hK hP hD hS 0 rfl rfl 11 (by decide) (hts (.fieldLink RX4 170 "ScratchSwapModel" "version" "I") (by decide +kernel)) (fun _ h9 => h9) rfl (by decide +kernel) rfl rfl (Nat.le_of_ble_eq_true rfl) dX4_boot_158 (fun H locs hP hD hS => ?_)
                  have hP : va_P (dC, dI) vwCl (gW g0 g1 g2 g3 g4 g5 g6 g7 g8 g9 g10 g11 g12 g13 cI cB k_130 dr_117 er_118 pl_119 un_120 li_121 ov_123 tp tn (rightB k_130.1 (0 * 5 * 256)) (mI k_130.1 4) (bo + (nI 1)) ex_131 wr ei_122 dg_135 wo_136 pa_137 ch_138 fi) _ := hP
                  have hD : va_D A (gW g0 g1 g2 g3 g4 g5 g6 g7 g8 g9 g10 g11 g12 g13 cI cB k_130 dr_117 er_118 pl_119 un_120 li_121 ov_123 tp tn (rightB k_130.1 (0 * 5 * 256)) (mI k_130.1 4) (bo + (nI 1)) ex_131 wr ei_122 dg_135 wo_136 pa_137 ch_138 fi) := hD
                  refine lv_aload_n (pc := 161) hx hb dX4_boot_161 rfl (lv_at hl 2 rfl) ?_
                  refine va_get (pc := 162) (D := (dC, dI)) (ci := 4) (v := .int (bI (rightB k_130.1 (0 * 5 * 256)))) (C := RX4) (T := TX4) (N := 26) hx hb hts (by decide +kernel) hown hK hP 0 rfl rfl 10 (by decide) (hts (.fieldLink RX4 92 "ScratchSwapModel" "runs" "Z") (by decide +kernel)) (fun _ h9 => h9) rfl dX4_boot_162 ?_
                  refine lv_if_eq (pc := 165) (tgt := 172) hx hb dX4_boot_165 (by decide) (fun cr => ?_) (fun cr => ?_)
                  · skip
                    have cr : (rightB k_130.1 (0 * 5 * 256)) = false := bI_0.mp cr
                    refine lv_iconst (pc := 172) (v := nI 0) hx hb dX4_boot_172 (by decide) ?_
                    exact W.iret (v := nI 0) hx hb hr (fun t ht hW => ⟨⟨nI 0, (k_130, dr_117, er_118, pl_119, un_120, li_121, ov_123, rightB k_130.1 (0 * 5 * 256), ex_131, ei_122, mI k_130.1 4, bo + (nI 1), wr, dg_135, wo_136, pa_137, ch_138), rfl, by rw [bootR, if_neg (by rw [c1]; decide), if_pos f1, ← ek_130, if_neg (by rw [cr]; decide), eex_131, if_pos ⟨rfl, dueL_pos _ (by omega) c2, f1⟩, bootE, if_neg (by omega), bootW, if_neg c2, cr]; rfl, by show va_P _ _ _ t.heap; rw [ht]; exact hP, va_K.moved hW.alike hK, hD⟩, hS.F ht⟩) hS.2.2 dX4_boot_173
                  · skip
                    have cr : (rightB k_130.1 (0 * 5 * 256)) = true := bI_1.mp cr
                    refine lv_iconst (pc := 168) (v := nI 1) hx hb dX4_boot_168 (by decide) ?_
                    refine lv_goto (pc := 169) (tgt := 173) hx hb dX4_boot_169 (by decide) ?_
                    exact W.iret (v := nI 1) hx hb hr (fun t ht hW => ⟨⟨nI 1, (k_130, dr_117, er_118, pl_119, un_120, li_121, ov_123, rightB k_130.1 (0 * 5 * 256), ex_131, ei_122, mI k_130.1 4, bo + (nI 1), wr, dg_135, wo_136, pa_137, ch_138), rfl, by rw [bootR, if_neg (by rw [c1]; decide), if_pos f1, ← ek_130, if_pos cr, eex_131, if_pos ⟨rfl, dueL_pos _ (by omega) c2, f1⟩, bootE, if_neg (by omega), bootW, if_neg c2, cr]; rfl, by show va_P _ _ _ t.heap; rw [ht]; exact hP, va_K.moved hW.alike hK, hD⟩, hS.F ht⟩) hS.2.2 dX4_boot_173
                · skip
                  have c7 : (dueN k.1) = 4 := (nI_eq (a := (dueN k.1)) (b := 4) (by omega) (by omega)).mp c7
                  exfalso; omega
              · skip
                have c6 : b_129 = false := bI_0.mp c6
                have f1 : (kActs (dueL k.1 (dueN k.1)) k).2 = false := eb_129.symm.trans c6
                refine lv_bipush (pc := 112) (v := (-9)) hx hb dX4_boot_112 (by decide) ?_
                exact W.iret (v := (-9)) hx hb hr (fun t ht hW => ⟨⟨(-9), (k_130, dr_117, er_118, pl_119, un_120, li_121, ov_123, rn_132, ex_131, ei_122, vs, bo, wr, dg_3, wo_4, pa_5, ch_6), rfl, by rw [bootR, if_neg (by rw [c1]; decide), if_neg (by rw [f1]; decide), ← ek_130, ern_132, if_neg (by rw [f1]; decide), eex_131, if_neg (fun z => by rw [f1] at z; exact absurd z.2.2 (by decide))]; rfl, by show va_P _ _ _ t.heap; rw [ht]; exact hP, va_K.moved hW.alike hK, hD⟩, hS.F ht⟩) hS.2.2 dX4_boot_114
    · skip
      have c2 : (dueN k.1) = 4 := (nI_eq (a := (dueN k.1)) (b := 4) (by omega) (by omega)).mp c2
      refine lv_aload_n (pc := 29) hx hb dX4_boot_29 rfl (lv_at hl 1 rfl) ?_
      refine lv_bipush (pc := 30) (v := nI 9) hx hb dX4_boot_30 (by decide) ?_
      refine x_wrva (pc := 32) (va_runV (As := [.int (nI 9)]) (rest := []) ⟨hx, hb, hml, hown, hts⟩ (kX4_erase l dC dI tt cI cB _ g0 g1 g2 g3 g4 g5 g6 g7 g8 g9 g10 g11 g12 g13 k u_7 er pl un 0 (-1) tp tn false vs bo ex wr ei dg_3 wo_4 pa_5 ch_6 fi ([]) 9 hL0 (by omega) (by omega)) (cwV 1 hts gX4_boot_X4_erase rfl rfl rfl (by decide +kernel) ⟨Nat.le_of_ble_eq_true rfl, Nat.le_of_ble_eq_true rfl⟩) (x_preVa hS hE hK hP hD (x_all hD hS hA) xR0 4 0 rfl rfl) rfl rfl hl.1 rfl (lv_room (Nat.le_of_ble_eq_true rfl)) dX4_boot_32 ⟨Nat.le_of_ble_eq_true rfl, Nat.le_of_ble_eq_true rfl⟩) hS hA hD (fun u_140 H locs hu_140 hP hD hS => ?_)
      obtain ⟨dr_141, er_142, pl_143, un_144, li_145⟩ := u_140
      obtain ⟨hL_146, hd_147⟩ : lstR (([]) ++ ([Sum.inl 9])) er_142 pl_143 un_144 li_145 ∧ dr_141 = fillF u_7 (9 * 256) 256 := hu_140
      have hP : va_P (dC, dI) vwCl (gW g0 g1 g2 g3 g4 g5 g6 g7 g8 g9 g10 g11 g12 g13 cI cB k dr_141 er_142 pl_143 un_144 li_145 (-1) tp tn false vs bo ex wr ei dg_3 wo_4 pa_5 ch_6 fi) _ := hP
      have hD : va_D A (gW g0 g1 g2 g3 g4 g5 g6 g7 g8 g9 g10 g11 g12 g13 cI cB k dr_141 er_142 pl_143 un_144 li_145 (-1) tp tn false vs bo ex wr ei dg_3 wo_4 pa_5 ch_6 fi) := hD
      have hlen_li_145 : li_145 = 0 + 1 := by rw [hL_146.1, List.length_append, ← hL0.1]; rfl
      refine lv_goto (pc := 35) (tgt := 103) hx hb dX4_boot_35 (by decide) ?_
      have hLL : ([]) ++ ([Sum.inl 9]) = dueL k.1 (dueN k.1) := by rw [dueL, if_neg (by omega), if_pos c2]; rfl
      have hLd := hL_146
      rw [hLL] at hLd
      have hlen := hLd.1
      refine lv_aload_n (pc := 103) hx hb dX4_boot_103 rfl (lv_at hl 1 rfl) ?_
      refine x_wria (pc := 104) (va_runV (As := []) (rest := []) ⟨hx, hb, hml, hown, hts⟩ (kX4_does l dC dI tt cI cB _ g0 g1 g2 g3 g4 g5 g6 g7 g8 g9 g10 g11 g12 g13 k dr_141 er_142 pl_143 un_144 li_145 (-1) tp tn false vs bo ex wr ei dg_3 wo_4 pa_5 ch_6 fi (dueL k.1 (dueN k.1)) false hk hLd (by omega) rfl) (cwV 0 hts gX4_boot_X4_does rfl rfl rfl (by decide +kernel) ⟨Nat.le_of_ble_eq_true rfl, Nat.le_of_ble_eq_true rfl⟩) (x_preVa hS hE hK hP hD (x_all hD hS hA) xR0 4 0 rfl rfl) rfl rfl hl.1 rfl (lv_room (Nat.le_of_ble_eq_true rfl)) dX4_boot_104 ⟨Nat.le_of_ble_eq_true rfl, Nat.le_of_ble_eq_true rfl⟩) hS hA hD (fun r_149 u_148 H locs hu_148 hP hD hS => ?_)
      obtain ⟨k_151, ex_152, rn_153⟩ := u_148
      obtain ⟨hr_149, ek_151, eex_152, ern_153⟩ : r_149 = bI (kActs (dueL k.1 (dueN k.1)) k).2 ∧ k_151 = (kActs (dueL k.1 (dueN k.1)) k).1 ∧ ex_152 = (if false = true ∧ 0 < (dueL k.1 (dueN k.1)).length ∧ (kActs (dueL k.1 (dueN k.1)) k).2 = true then ex + nI 1 else ex) ∧ rn_153 = (if (kActs (dueL k.1 (dueN k.1)) k).2 = true then false else false) := hu_148
      obtain ⟨b_150, eb_150⟩ : ∃ z, z = (kActs (dueL k.1 (dueN k.1)) k).2 := ⟨_, rfl⟩
      rw [← eb_150] at hr_149
      subst hr_149
      have hP : va_P (dC, dI) vwCl (gW g0 g1 g2 g3 g4 g5 g6 g7 g8 g9 g10 g11 g12 g13 cI cB k_151 dr_141 er_142 pl_143 un_144 li_145 (-1) tp tn rn_153 vs bo ex_152 wr ei dg_3 wo_4 pa_5 ch_6 fi) _ := hP
      have hD : va_D A (gW g0 g1 g2 g3 g4 g5 g6 g7 g8 g9 g10 g11 g12 g13 cI cB k_151 dr_141 er_142 pl_143 un_144 li_145 (-1) tp tn rn_153 vs bo ex_152 wr ei dg_3 wo_4 pa_5 ch_6 fi) := hD
      refine lv_istore_n (pc := 107) (lv' := [(2, .int (bI b_150)), (1, .int (nI (dueN k.1))), (0, .ref g0)]) hx hb dX4_boot_107 rfl hl (by decide) rfl (fun ls hl => ?_)
      refine lv_iload_n (pc := 108) hx hb dX4_boot_108 rfl (lv_at hl 0 rfl) ?_
      refine lv_if_ne (pc := 109) (tgt := 115) hx hb dX4_boot_109 (by decide) (fun c6 => ?_) (fun c6 => ?_)
      · skip
        have c6 : b_150 = true := bI_1.mp c6
        have f1 : (kActs (dueL k.1 (dueN k.1)) k).2 = true := eb_150.symm.trans c6
        refine lv_iload_n (pc := 115) hx hb dX4_boot_115 rfl (lv_at hl 1 rfl) ?_
        refine lv_iconst (pc := 116) (v := nI 4) hx hb dX4_boot_116 (by decide) ?_
        refine lv_icmp_ne (pc := 117) (tgt := 130) hx hb dX4_boot_117 (by decide) (fun c7 => ?_) (fun c7 => ?_)
        · skip
          have c7 : ¬ (dueN k.1) = 4 := fun z => c7 ((nI_eq (a := (dueN k.1)) (b := 4) (by omega) (by omega)).mpr z)
          exfalso; omega
        · skip
          have c7 : (dueN k.1) = 4 := (nI_eq (a := (dueN k.1)) (b := 4) (by omega) (by omega)).mp c7
          refine lv_aload_n (pc := 120) hx hb dX4_boot_120 rfl (lv_at hl 2 rfl) ?_
          refine lv_dup (pc := 121) hx hb dX4_boot_121 rfl ?_
          refine va_get (pc := 122) (D := (dC, dI)) (ci := 4) (v := .int wr) (C := RX4) (T := TX4) (N := 26) hx hb hts (by decide +kernel) hown hK hP 0 rfl rfl 17 (by decide) (hts (.fieldLink RX4 164 "ScratchSwapModel" "wrongs" "I") (by decide +kernel)) (fun _ h9 => h9) rfl dX4_boot_122 ?_
          refine lv_iconst (pc := 125) (v := nI 1) hx hb dX4_boot_125 (by decide) ?_
          refine lv_iadd (pc := 126) hx hb dX4_boot_126 ?_
          refine va_put (pc := 127) (D := (dC, dI)) (ci := 4) (v := .int (wr + (nI 1))) (ty := .int) (C := RX4) (T := TX4) (N := 26) hx hb hts (by decide +kernel) tyX4 tyX4_ok nmX4 hown hK hP hD hS 0 rfl rfl 17 (by decide) (hts (.fieldLink RX4 164 "ScratchSwapModel" "wrongs" "I") (by decide +kernel)) (fun _ h9 => h9) rfl (by decide +kernel) rfl rfl (Nat.le_of_ble_eq_true rfl) dX4_boot_127 (fun H locs hP hD hS => ?_)
          have hP : va_P (dC, dI) vwCl (gW g0 g1 g2 g3 g4 g5 g6 g7 g8 g9 g10 g11 g12 g13 cI cB k_151 dr_141 er_142 pl_143 un_144 li_145 (-1) tp tn rn_153 vs bo ex_152 (wr + (nI 1)) ei dg_3 wo_4 pa_5 ch_6 fi) _ := hP
          have hD : va_D A (gW g0 g1 g2 g3 g4 g5 g6 g7 g8 g9 g10 g11 g12 g13 cI cB k_151 dr_141 er_142 pl_143 un_144 li_145 (-1) tp tn rn_153 vs bo ex_152 (wr + (nI 1)) ei dg_3 wo_4 pa_5 ch_6 fi) := hD
          refine lv_aload_n (pc := 130) hx hb dX4_boot_130 rfl (lv_at hl 2 rfl) ?_
          refine lv_dup (pc := 131) hx hb dX4_boot_131 rfl ?_
          refine va_get (pc := 132) (D := (dC, dI)) (ci := 4) (v := .int bo) (C := RX4) (T := TX4) (N := 26) hx hb hts (by decide +kernel) hown hK hP 0 rfl rfl 15 (by decide) (hts (.fieldLink RX4 167 "ScratchSwapModel" "boots" "I") (by decide +kernel)) (fun _ h9 => h9) rfl dX4_boot_132 ?_
          refine lv_iconst (pc := 135) (v := nI 1) hx hb dX4_boot_135 (by decide) ?_
          refine lv_iadd (pc := 136) hx hb dX4_boot_136 ?_
          refine va_put (pc := 137) (D := (dC, dI)) (ci := 4) (v := .int (bo + (nI 1))) (ty := .int) (C := RX4) (T := TX4) (N := 26) hx hb hts (by decide +kernel) tyX4 tyX4_ok nmX4 hown hK hP hD hS 0 rfl rfl 15 (by decide) (hts (.fieldLink RX4 167 "ScratchSwapModel" "boots" "I") (by decide +kernel)) (fun _ h9 => h9) rfl (by decide +kernel) rfl rfl (Nat.le_of_ble_eq_true rfl) dX4_boot_137 (fun H locs hP hD hS => ?_)
          have hP : va_P (dC, dI) vwCl (gW g0 g1 g2 g3 g4 g5 g6 g7 g8 g9 g10 g11 g12 g13 cI cB k_151 dr_141 er_142 pl_143 un_144 li_145 (-1) tp tn rn_153 vs (bo + (nI 1)) ex_152 (wr + (nI 1)) ei dg_3 wo_4 pa_5 ch_6 fi) _ := hP
          have hD : va_D A (gW g0 g1 g2 g3 g4 g5 g6 g7 g8 g9 g10 g11 g12 g13 cI cB k_151 dr_141 er_142 pl_143 un_144 li_145 (-1) tp tn rn_153 vs (bo + (nI 1)) ex_152 (wr + (nI 1)) ei dg_3 wo_4 pa_5 ch_6 fi) := hD
          refine lv_aload_n (pc := 140) hx hb dX4_boot_140 rfl (lv_at hl 2 rfl) ?_
          refine lv_aload_n (pc := 141) hx hb dX4_boot_141 rfl (lv_at hl 2 rfl) ?_
          refine lv_iconst (pc := 142) (v := nI 0) hx hb dX4_boot_142 (by decide) ?_
          refine x_wria (pc := 143) (va_runV (As := [.int (nI 0)]) (rest := [.ref g0]) ⟨hx, hb, hml, hown, hts⟩ (kX4_isRight l dC dI tt cI cB _ g0 g1 g2 g3 g4 g5 g6 g7 g8 g9 g10 g11 g12 g13 k_151 dr_141 er_142 pl_143 un_144 li_145 (-1) tp tn rn_153 vs (bo + (nI 1)) ex_152 (wr + (nI 1)) ei dg_3 wo_4 pa_5 ch_6 fi 0 (by omega)) (cwV 1 hts gX4_boot_X4_isRight rfl rfl rfl (by decide +kernel) ⟨Nat.le_of_ble_eq_true rfl, Nat.le_of_ble_eq_true rfl⟩) (x_preVa hS hE hK hP hD (x_all hD hS hA) xR0 4 0 rfl rfl) rfl rfl hl.1 rfl (lv_room (Nat.le_of_ble_eq_true rfl)) dX4_boot_143 ⟨Nat.le_of_ble_eq_true rfl, Nat.le_of_ble_eq_true rfl⟩) hS hA hD (fun r_155 u_154 H locs hu_154 hP hD hS => ?_)
          obtain ⟨dg_156, wo_157, pa_158, ch_159⟩ := u_154
          subst hu_154
          have hP : va_P (dC, dI) vwCl (gW g0 g1 g2 g3 g4 g5 g6 g7 g8 g9 g10 g11 g12 g13 cI cB k_151 dr_141 er_142 pl_143 un_144 li_145 (-1) tp tn rn_153 vs (bo + (nI 1)) ex_152 (wr + (nI 1)) ei dg_156 wo_157 pa_158 ch_159 fi) _ := hP
          have hD : va_D A (gW g0 g1 g2 g3 g4 g5 g6 g7 g8 g9 g10 g11 g12 g13 cI cB k_151 dr_141 er_142 pl_143 un_144 li_145 (-1) tp tn rn_153 vs (bo + (nI 1)) ex_152 (wr + (nI 1)) ei dg_156 wo_157 pa_158 ch_159 fi) := hD
          refine va_put (pc := 146) (D := (dC, dI)) (ci := 4) (v := .int (bI (rightB k_151.1 (0 * 5 * 256)))) (ty := .boolean) (C := RX4) (T := TX4) (N := 26) hx hb hts (by decide +kernel) tyX4 tyX4_ok nmX4 hown hK hP hD hS 0 rfl rfl 10 (by decide) (hts (.fieldLink RX4 92 "ScratchSwapModel" "runs" "Z") (by decide +kernel)) (fun _ h9 => h9) rfl (by decide +kernel) (nbI (rightB k_151.1 (0 * 5 * 256))) (fbI (rightB k_151.1 (0 * 5 * 256))) (Nat.le_of_ble_eq_true rfl) dX4_boot_146 (fun H locs hP hD hS => ?_)
          have hP : va_P (dC, dI) vwCl (gW g0 g1 g2 g3 g4 g5 g6 g7 g8 g9 g10 g11 g12 g13 cI cB k_151 dr_141 er_142 pl_143 un_144 li_145 (-1) tp tn (rightB k_151.1 (0 * 5 * 256)) vs (bo + (nI 1)) ex_152 (wr + (nI 1)) ei dg_156 wo_157 pa_158 ch_159 fi) _ := hP
          have hD : va_D A (gW g0 g1 g2 g3 g4 g5 g6 g7 g8 g9 g10 g11 g12 g13 cI cB k_151 dr_141 er_142 pl_143 un_144 li_145 (-1) tp tn (rightB k_151.1 (0 * 5 * 256)) vs (bo + (nI 1)) ex_152 (wr + (nI 1)) ei dg_156 wo_157 pa_158 ch_159 fi) := hD
          refine lv_aload_n (pc := 149) hx hb dX4_boot_149 rfl (lv_at hl 2 rfl) ?_
          refine lv_aload_n (pc := 150) hx hb dX4_boot_150 rfl (lv_at hl 2 rfl) ?_
          refine va_get (pc := 151) (D := (dC, dI)) (ci := 4) (v := .ref g1) (C := RX4) (T := TX4) (N := 26) hx hb hts (by decide +kernel) hown hK hP 0 rfl rfl 0 (by decide) (hts (.fieldLink RX4 9 "ScratchSwapModel" "flash" "[B") (by decide +kernel)) (fun _ h9 => h9) rfl dX4_boot_151 ?_
          refine lv_iconst (pc := 154) (v := nI 4) hx hb dX4_boot_154 (by decide) ?_
          refine x_roi (pc := 155) (va_runS (As := [.ref g1, .int (nI 4)]) (rest := [.ref g0]) ⟨hx, hb, hml, hown, hts⟩ (kX4_intAt l dC dI tt cI cB _ g1 2816 k_151.1 4 (by omega) (by omega)) (va_cwS 2 hts gX4_boot_X4_intAt rfl rfl rfl (by decide +kernel) ⟨Nat.le_of_ble_eq_true rfl, Nat.le_of_ble_eq_true rfl⟩) (x_preS hS hE hK hP hD [1] rfl (by decide) (x_ro hS hA) xR0) rfl rfl hl.1 rfl (lv_room (Nat.le_of_ble_eq_true rfl)) dX4_boot_155 ⟨Nat.le_of_ble_eq_true rfl, Nat.le_of_ble_eq_true rfl⟩) hS hA hP (fun r_160 H locs hr_160 hP hS => ?_)
          subst hr_160
          refine va_put (pc := 158) (D := (dC, dI)) (ci := 4) (v := .int (mI k_151.1 4)) (ty := .int) (C := RX4) (T := TX4) (N := 26) hx hb hts (by decide +kernel) tyX4 tyX4_ok nmX4 hown hK hP hD hS 0 rfl rfl 11 (by decide) (hts (.fieldLink RX4 170 "ScratchSwapModel" "version" "I") (by decide +kernel)) (fun _ h9 => h9) rfl (by decide +kernel) rfl rfl (Nat.le_of_ble_eq_true rfl) dX4_boot_158 (fun H locs hP hD hS => ?_)
          have hP : va_P (dC, dI) vwCl (gW g0 g1 g2 g3 g4 g5 g6 g7 g8 g9 g10 g11 g12 g13 cI cB k_151 dr_141 er_142 pl_143 un_144 li_145 (-1) tp tn (rightB k_151.1 (0 * 5 * 256)) (mI k_151.1 4) (bo + (nI 1)) ex_152 (wr + (nI 1)) ei dg_156 wo_157 pa_158 ch_159 fi) _ := hP
          have hD : va_D A (gW g0 g1 g2 g3 g4 g5 g6 g7 g8 g9 g10 g11 g12 g13 cI cB k_151 dr_141 er_142 pl_143 un_144 li_145 (-1) tp tn (rightB k_151.1 (0 * 5 * 256)) (mI k_151.1 4) (bo + (nI 1)) ex_152 (wr + (nI 1)) ei dg_156 wo_157 pa_158 ch_159 fi) := hD
          refine lv_aload_n (pc := 161) hx hb dX4_boot_161 rfl (lv_at hl 2 rfl) ?_
          refine va_get (pc := 162) (D := (dC, dI)) (ci := 4) (v := .int (bI (rightB k_151.1 (0 * 5 * 256)))) (C := RX4) (T := TX4) (N := 26) hx hb hts (by decide +kernel) hown hK hP 0 rfl rfl 10 (by decide) (hts (.fieldLink RX4 92 "ScratchSwapModel" "runs" "Z") (by decide +kernel)) (fun _ h9 => h9) rfl dX4_boot_162 ?_
          refine lv_if_eq (pc := 165) (tgt := 172) hx hb dX4_boot_165 (by decide) (fun cr => ?_) (fun cr => ?_)
          · skip
            have cr : (rightB k_151.1 (0 * 5 * 256)) = false := bI_0.mp cr
            refine lv_iconst (pc := 172) (v := nI 0) hx hb dX4_boot_172 (by decide) ?_
            exact W.iret (v := nI 0) hx hb hr (fun t ht hW => ⟨⟨nI 0, (k_151, dr_141, er_142, pl_143, un_144, li_145, (-1), rightB k_151.1 (0 * 5 * 256), ex_152, ei, mI k_151.1 4, bo + (nI 1), wr + (nI 1), dg_156, wo_157, pa_158, ch_159), rfl, by rw [bootR, if_neg (by rw [c1]; decide), if_pos f1, ← ek_151, if_neg (by rw [cr]; decide), eex_152, if_neg (fun z => absurd z.1 (by decide)), bootE, if_pos (by omega), bootW, if_pos c2, cr]; rfl, by show va_P _ _ _ t.heap; rw [ht]; exact hP, va_K.moved hW.alike hK, hD⟩, hS.F ht⟩) hS.2.2 dX4_boot_173
          · skip
            have cr : (rightB k_151.1 (0 * 5 * 256)) = true := bI_1.mp cr
            refine lv_iconst (pc := 168) (v := nI 1) hx hb dX4_boot_168 (by decide) ?_
            refine lv_goto (pc := 169) (tgt := 173) hx hb dX4_boot_169 (by decide) ?_
            exact W.iret (v := nI 1) hx hb hr (fun t ht hW => ⟨⟨nI 1, (k_151, dr_141, er_142, pl_143, un_144, li_145, (-1), rightB k_151.1 (0 * 5 * 256), ex_152, ei, mI k_151.1 4, bo + (nI 1), wr + (nI 1), dg_156, wo_157, pa_158, ch_159), rfl, by rw [bootR, if_neg (by rw [c1]; decide), if_pos f1, ← ek_151, if_pos cr, eex_152, if_neg (fun z => absurd z.1 (by decide)), bootE, if_pos (by omega), bootW, if_pos c2, cr]; rfl, by show va_P _ _ _ t.heap; rw [ht]; exact hP, va_K.moved hW.alike hK, hD⟩, hS.F ht⟩) hS.2.2 dX4_boot_173
      · skip
        have c6 : b_150 = false := bI_0.mp c6
        have f1 : (kActs (dueL k.1 (dueN k.1)) k).2 = false := eb_150.symm.trans c6
        refine lv_bipush (pc := 112) (v := (-9)) hx hb dX4_boot_112 (by decide) ?_
        exact W.iret (v := (-9)) hx hb hr (fun t ht hW => ⟨⟨(-9), (k_151, dr_141, er_142, pl_143, un_144, li_145, (-1), rn_153, ex_152, ei, vs, bo, wr, dg_3, wo_4, pa_5, ch_6), rfl, by rw [bootR, if_neg (by rw [c1]; decide), if_neg (by rw [f1]; decide), ← ek_151, ern_153, if_neg (by rw [f1]; decide), eex_152, if_neg (fun z => by rw [f1] at z; exact absurd z.2.2 (by decide))]; rfl, by show va_P _ _ _ t.heap; rw [ht]; exact hP, va_K.moved hW.alike hK, hD⟩, hS.F ht⟩) hS.2.2 dX4_boot_114
  · skip
    have c1 : k.2.2.1 = true := bI_1.mp c1
    refine lv_bipush (pc := 7) (v := (-9)) hx hb dX4_boot_7 (by decide) ?_
    exact W.iret (v := (-9)) hx hb hr (fun t ht hW => ⟨⟨(-9), (k, dr, er, pl, un, li, ov, rn, ex, ei, vs, bo, wr, dg, wo, pa, ch), rfl, by rw [bootR, if_pos c1], by show va_P _ _ _ t.heap; rw [ht]; exact hP, va_K.moved hW.alike hK, hD⟩, hS.F ht⟩) hS.2.2 dX4_boot_9
