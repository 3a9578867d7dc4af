set_option maxHeartbeats 4000000 in
set_option maxRecDepth 100000 in
theorem kX4_request (l : Launch) (dC : Nat → ClassId) (dI : Nat → Nat → Nat) (tt : Nat → Nat) (cI cB : ClassId) (sz : Nat) (g0 g1 g2 g3 g4 g5 g6 g7 g8 g9 g10 g11 g12 g13 : Nat) (k : K0) (dr : Nat → Int8) (er pl : Nat → Int32) (un : Nat → Int8) (li : Nat) (ov : Int32) (tp : Nat → Int8) (tn : Nat) (rn : Bool) (vs bo ex wr : Int32) (ei dg : Nat → Int8) (wo : Nat → Int32) (pa : Nat → Int8) (ch fi : Nat → Int32) (g : Bool) (hlf : k.2.2.2.2.1 < 2 ^ 31) (hcu : k.2.2.2.2.2.1 < 32) : MetI (S := (K0 × (Nat → Int8) × (Nat → Int32) × (Nat → Int32) × (Nat → Int8) × Nat × Int32 × Bool × Int32 × (Nat → Int8) × Int32 × Int32 × Int32 × (Nat → Int8) × (Nat → Int32) × (Nat → Int8) × (Nat → Int32))) l yX4_request wsX4_request { frames := 2, cells := 0, slots := 0, locals := 48 } (dC, dI) [(cI, .int), (cB, .byte)] tt [] sz (gW g0 g1 g2 g3 g4 g5 g6 g7 g8 g9 g10 g11 g12 g13 cI cB k dr er pl un li ov tp tn rn vs bo ex wr ei dg wo pa ch fi) [.ref g0, .int (bI g)] (fun u : (K0 × (Nat → Int8) × (Nat → Int32) × (Nat → Int32) × (Nat → Int8) × Nat × Int32 × Bool × Int32 × (Nat → Int8) × Int32 × Int32 × Int32 × (Nat → Int8) × (Nat → Int32) × (Nat → Int8) × (Nat → Int32)) => gW g0 g1 g2 g3 g4 g5 g6 g7 g8 g9 g10 g11 g12 g13 cI cB u.1 u.2.1 u.2.2.1 u.2.2.2.1 u.2.2.2.2.1 u.2.2.2.2.2.1 u.2.2.2.2.2.2.1 tp tn u.2.2.2.2.2.2.2.1 u.2.2.2.2.2.2.2.2.2.2.1 u.2.2.2.2.2.2.2.2.2.2.2.1 u.2.2.2.2.2.2.2.2.1 u.2.2.2.2.2.2.2.2.2.2.2.2.1 u.2.2.2.2.2.2.2.2.2.1 u.2.2.2.2.2.2.2.2.2.2.2.2.2.1 u.2.2.2.2.2.2.2.2.2.2.2.2.2.2.1 u.2.2.2.2.2.2.2.2.2.2.2.2.2.2.2.1 u.2.2.2.2.2.2.2.2.2.2.2.2.2.2.2.2 fi) (fun r u => (r, u.1, u.2.2.2.2.2.2.2.1, rvV u.2.2.2.2.2.2.2.1 u.2.2.2.2.2.2.2.2.2.2.1) = reqR k rn (rvV rn vs) g ∧ u.2.2.2.2.2.2.2.2.1 = ex ∧ u.2.2.2.2.2.2.2.2.2.2.2.1 = bo ∧ u.2.2.2.2.2.2.2.2.2.2.2.2.1 = wr) := by
  refine Met.ofW (cc := cX4_request) (maxL := 2) (ret := (some .int)) (by decide) rfl ?_
  intro p e s m args below meth c s₁ B hml hv
  obtain ⟨rfl, hsz, hP, hK, hD0, hE⟩ := hv
  have hx := B.exec
  have hb := B.bytes
  have hr := B.returns
  have hts := atoms_spec (ws := wsX4_request) B.pre
  have hown : s.vm.findClass RX4 = some m.cls := findClass_of_methodNamed B.named
  have hlocks := B.notSynchronized
  subst hsz
  have hD := hD0.self (sz := s.heap.size)
  generalize hAe : va_A (gW g0 g1 g2 g3 g4 g5 g6 g7 g8 g9 g10 g11 g12 g13 cI cB k dr er pl un li ov tp tn rn vs bo ex wr ei dg wo pa ch fi) s.heap.size = A at hD hE ⊢
  have hA : ∀ q : Nat, s.heap.size ≤ q → A q := fun q h => by rw [← hAe]; exact Or.inr h
  have hS : va_S A s.heap s.heap [] := va_S.rf
  have hl := lv_entry ([.ref g0, .int (bI g)]) (n := 2) (Nat.le_of_ble_eq_true rfl)
  rw [lg_entry_eq]
  generalize (lg_sl ([.ref g0, .int (bI g)]) ++ List.replicate (2 - (lg_sl ([.ref g0, .int (bI g)])).length) Slot.unset).toArray = ls at hl ⊢
  have hl : lv_has ls 2 [(0, .ref g0), (1, .int (bI g))] := hl
  have hP : va_P (dC, dI) vwCl (gW g0 g1 g2 g3 g4 g5 g6 g7 g8 g9 g10 g11 g12 g13 cI cB k dr er pl un li ov tp tn rn vs bo ex wr ei dg wo pa ch fi) s.heap := hP
  refine lv_aload_n (pc := 0) hx hb dX4_request_0 rfl (lv_at hl 0 rfl) ?_
  refine va_get (pc := 1) (D := (dC, dI)) (ci := 4) (v := .int (bI k.2.2.1)) (C := RX4) (T := TX4) (N := 26) hx hb hts (by decide +kernel) hown hK hP 0 rfl rfl 9 (by decide) (hts (.fieldLink RX4 88 "ScratchSwapModel" "isDown" "Z") (by decide +kernel)) (fun _ h9 => h9) rfl dX4_request_1 ?_
  refine lv_if_eq (pc := 4) (tgt := 10) hx hb dX4_request_4 (by decide) (fun c1 => ?_) (fun c1 => ?_)
  · skip
    have c1 : k.2.2.1 = false := bI_0.mp c1
    have hk : kOk k := ⟨c1, hlf, hcu⟩
    refine lv_aload_n (pc := 10) hx hb dX4_request_10 rfl (lv_at hl 0 rfl) ?_
    refine va_get (pc := 11) (D := (dC, dI)) (ci := 4) (v := .int (bI rn)) (C := RX4) (T := TX4) (N := 26) hx hb hts (by decide +kernel) hown hK hP 0 rfl rfl 10 (by decide) (hts (.fieldLink RX4 92 "ScratchSwapModel" "runs" "Z") (by decide +kernel)) (fun _ h9 => h9) rfl dX4_request_11 ?_
    refine lv_if_ne (pc := 14) (tgt := 20) hx hb dX4_request_14 (by decide) (fun c2 => ?_) (fun c2 => ?_)
    · skip
      have c2 : rn = true := bI_1.mp c2
      refine lv_aload_n (pc := 20) hx hb dX4_request_20 rfl (lv_at hl 0 rfl) ?_
      refine x_wrva (pc := 21) (va_runV (As := []) (rest := []) ⟨hx, hb, hml, hown, hts⟩ (kX4_begins l dC dI tt cI cB _ g0 g1 g2 g3 g4 g5 g6 g7 g8 g9 g10 g11 g12 g13 k dr er pl un li ov tp tn rn vs bo ex wr ei dg wo pa ch fi ) (cwV 0 hts gX4_request_X4_begins rfl rfl rfl (by decide +kernel) ⟨Nat.le_of_ble_eq_true rfl, Nat.le_of_ble_eq_true rfl⟩) (x_preVa hS hE hK hP hD (x_all hD hS hA) xR0 4 0 rfl rfl) rfl rfl hl.1 rfl (lv_room (Nat.le_of_ble_eq_true rfl)) dX4_request_21 ⟨Nat.le_of_ble_eq_true rfl, Nat.le_of_ble_eq_true rfl⟩) hS hA hD (fun u_1 H locs hu_1 hP hD hS => ?_)
      have hdr : eqF u_1 k.1 := hu_1
      have hP : va_P (dC, dI) vwCl (gW g0 g1 g2 g3 g4 g5 g6 g7 g8 g9 g10 g11 g12 g13 cI cB k u_1 er pl un 0 (-1) tp tn rn vs bo ex wr ei dg wo pa ch fi) _ := hP
      have hD : va_D A (gW g0 g1 g2 g3 g4 g5 g6 g7 g8 g9 g10 g11 g12 g13 cI cB k u_1 er pl un 0 (-1) tp tn rn vs bo ex wr ei dg wo pa ch fi) := hD
      have hL0 : lstR [] er pl un 0 := lst_0 _ _ _
      refine lv_iload_n (pc := 24) hx hb dX4_request_24 rfl (lv_at hl 1 rfl) ?_
      refine lv_if_eq (pc := 25) (tgt := 36) hx hb dX4_request_25 (by decide) (fun c3 => ?_) (fun c3 => ?_)
      · skip
        have c3 : g = false := bI_0.mp c3
        refine lv_aload_n (pc := 36) hx hb dX4_request_36 rfl (lv_at hl 0 rfl) ?_
        refine lv_bipush (pc := 37) (v := nI 9) hx hb dX4_request_37 (by decide) ?_
        refine x_wrva (pc := 39) (va_runV (As := [.int (nI 9)]) (rest := []) ⟨hx, hb, hml, hown, hts⟩ (kX4_magic l dC dI tt cI cB _ g0 g1 g2 g3 g4 g5 g6 g7 g8 g9 g10 g11 g12 g13 k u_1 er pl un 0 (-1) tp tn rn vs bo ex wr ei dg wo pa ch fi ([]) 9 hL0 (by omega) (by omega)) (cwV 1 hts gX4_request_X4_magic rfl rfl rfl (by decide +kernel) ⟨Nat.le_of_ble_eq_true rfl, Nat.le_of_ble_eq_true rfl⟩) (x_preVa hS hE hK hP hD (x_all hD hS hA) xR0 4 0 rfl rfl) rfl rfl hl.1 rfl (lv_room (Nat.le_of_ble_eq_true rfl)) dX4_request_39 ⟨Nat.le_of_ble_eq_true rfl, Nat.le_of_ble_eq_true rfl⟩) hS hA hD (fun u_2 H locs hu_2 hP hD hS => ?_)
        obtain ⟨dr_3, er_4, pl_5, un_6, li_7, ei_8⟩ := u_2
        obtain ⟨hL_9, hd_10⟩ : lstR (([]) ++ (magL (9 * 256 + 0 * 8))) er_4 pl_5 un_6 li_7 ∧ dr_3 = appL (magL (9 * 256 + 0 * 8)) u_1 := hu_2
        have hP : va_P (dC, dI) vwCl (gW g0 g1 g2 g3 g4 g5 g6 g7 g8 g9 g10 g11 g12 g13 cI cB k dr_3 er_4 pl_5 un_6 li_7 (-1) tp tn rn vs bo ex wr ei_8 dg wo pa ch fi) _ := hP
        have hD : va_D A (gW g0 g1 g2 g3 g4 g5 g6 g7 g8 g9 g10 g11 g12 g13 cI cB k dr_3 er_4 pl_5 un_6 li_7 (-1) tp tn rn vs bo ex wr ei_8 dg wo pa ch fi) := hD
        have hlen_li_7 : li_7 = 0 + 1 := by rw [hL_9.1, List.length_append, ← hL0.1]; rfl
        refine lv_aload_n (pc := 42) hx hb dX4_request_42 rfl (lv_at hl 0 rfl) ?_
        refine x_wria (pc := 43) (va_runV (As := []) (rest := []) ⟨hx, hb, hml, hown, hts⟩ (kX4_does l dC dI tt cI cB _ g0 g1 g2 g3 g4 g5 g6 g7 g8 g9 g10 g11 g12 g13 k dr_3 er_4 pl_5 un_6 li_7 (-1) tp tn rn vs bo ex wr ei_8 dg wo pa ch fi (([]) ++ (magL (9 * 256 + 0 * 8))) false hk hL_9 (by omega) rfl) (cwV 0 hts gX4_request_X4_does rfl rfl rfl (by decide +kernel) ⟨Nat.le_of_ble_eq_true rfl, Nat.le_of_ble_eq_true rfl⟩) (x_preVa hS hE hK hP hD (x_all hD hS hA) xR0 4 0 rfl rfl) rfl rfl hl.1 rfl (lv_room (Nat.le_of_ble_eq_true rfl)) dX4_request_43 ⟨Nat.le_of_ble_eq_true rfl, Nat.le_of_ble_eq_true rfl⟩) hS hA hD (fun r_12 u_11 H locs hu_11 hP hD hS => ?_)
        obtain ⟨k_14, ex_15, rn_16⟩ := u_11
        obtain ⟨hr_12, ek_14, eex_15, ern_16⟩ : r_12 = bI (kActs (([]) ++ (magL (9 * 256 + 0 * 8))) k).2 ∧ k_14 = (kActs (([]) ++ (magL (9 * 256 + 0 * 8))) k).1 ∧ ex_15 = (if false = true ∧ 0 < (([]) ++ (magL (9 * 256 + 0 * 8))).length ∧ (kActs (([]) ++ (magL (9 * 256 + 0 * 8))) k).2 = true then ex + nI 1 else ex) ∧ rn_16 = (if (kActs (([]) ++ (magL (9 * 256 + 0 * 8))) k).2 = true then rn else false) := hu_11
        obtain ⟨b_13, eb_13⟩ : ∃ z, z = (kActs (([]) ++ (magL (9 * 256 + 0 * 8))) k).2 := ⟨_, rfl⟩
        rw [← eb_13] at hr_12
        subst hr_12
        have hP : va_P (dC, dI) vwCl (gW g0 g1 g2 g3 g4 g5 g6 g7 g8 g9 g10 g11 g12 g13 cI cB k_14 dr_3 er_4 pl_5 un_6 li_7 (-1) tp tn rn_16 vs bo ex_15 wr ei_8 dg wo pa ch fi) _ := hP
        have hD : va_D A (gW g0 g1 g2 g3 g4 g5 g6 g7 g8 g9 g10 g11 g12 g13 cI cB k_14 dr_3 er_4 pl_5 un_6 li_7 (-1) tp tn rn_16 vs bo ex_15 wr ei_8 dg wo pa ch fi) := hD
        refine lv_if_eq (pc := 46) (tgt := 53) hx hb dX4_request_46 (by decide) (fun c4 => ?_) (fun c4 => ?_)
        · skip
          have c4 : b_13 = false := bI_0.mp c4
          refine lv_bipush (pc := 53) (v := (-9)) hx hb dX4_request_53 (by decide) ?_
          have f1 : (kActs (([]) ++ (magL (9 * 256 + 0 * 8))) k).2 = false := eb_13.symm.trans c4
          have hLL : ([]) ++ (magL (9 * 256 + 0 * 8)) = reqL g := by rw [reqL, if_neg (by rw [c3]; decide)]
          rw [hLL] at f1 ek_14 eex_15 ern_16
          exact W.iret (v := (-9)) hx hb hr (fun t ht hW => ⟨⟨(-9), (k_14, dr_3, er_4, pl_5, un_6, li_7, (-1), rn_16, ex_15, ei_8, vs, bo, wr, dg, wo, pa, ch), rfl, ⟨by rw [reqR, if_neg (by rw [c1]; decide), if_neg (by rw [c2]; decide), if_neg (by rw [f1]; decide), ← ek_14, ern_16, if_neg (by rw [f1]; decide)]; rfl, by show ex_15 = ex; rw [eex_15, if_neg (fun z => absurd z.1 (by decide))], rfl, rfl⟩, by show va_P _ _ _ t.heap; rw [ht]; exact hP, va_K.moved hW.alike hK, hD⟩, hS.F ht⟩) hS.2.2 dX4_request_55
        · skip
          have c4 : b_13 = true := bI_1.mp c4
          refine lv_iconst (pc := 49) (v := nI 0) hx hb dX4_request_49 (by decide) ?_
          refine lv_goto (pc := 50) (tgt := 55) hx hb dX4_request_50 (by decide) ?_
          have f1 : (kActs (([]) ++ (magL (9 * 256 + 0 * 8))) k).2 = true := eb_13.symm.trans c4
          have hLL : ([]) ++ (magL (9 * 256 + 0 * 8)) = reqL g := by rw [reqL, if_neg (by rw [c3]; decide)]
          rw [hLL] at f1 ek_14 eex_15 ern_16
          exact W.iret (v := nI 0) hx hb hr (fun t ht hW => ⟨⟨nI 0, (k_14, dr_3, er_4, pl_5, un_6, li_7, (-1), rn_16, ex_15, ei_8, vs, bo, wr, dg, wo, pa, ch), rfl, ⟨by rw [reqR, if_neg (by rw [c1]; decide), if_neg (by rw [c2]; decide), if_pos f1, ← ek_14, ern_16, if_pos f1], by show ex_15 = ex; rw [eex_15, if_neg (fun z => absurd z.1 (by decide))], rfl, rfl⟩, by show va_P _ _ _ t.heap; rw [ht]; exact hP, va_K.moved hW.alike hK, hD⟩, hS.F ht⟩) hS.2.2 dX4_request_55
      · skip
        have c3 : g = true := bI_1.mp c3
        refine lv_aload_n (pc := 28) hx hb dX4_request_28 rfl (lv_at hl 0 rfl) ?_
        refine lv_bipush (pc := 29) (v := nI 9) hx hb dX4_request_29 (by decide) ?_
        refine lv_iconst (pc := 31) (v := nI 3) hx hb dX4_request_31 (by decide) ?_
        refine lv_iconst (pc := 32) (v := nI 1) hx hb dX4_request_32 (by decide) ?_
        refine x_wrva (pc := 33) (va_runV (As := [.int (nI 9), .int (nI 3), .int (nI 1)]) (rest := []) ⟨hx, hb, hml, hown, hts⟩ (kX4_mark l dC dI tt cI cB _ g0 g1 g2 g3 g4 g5 g6 g7 g8 g9 g10 g11 g12 g13 k u_1 er pl un 0 (-1) tp tn rn vs bo ex wr ei dg wo pa ch fi ([]) 9 3 (nI 1) hL0 (by omega) (by omega)) (cwV 3 hts gX4_request_X4_mark rfl rfl rfl (by decide +kernel) ⟨Nat.le_of_ble_eq_true rfl, Nat.le_of_ble_eq_true rfl⟩) (x_preVa hS hE hK hP hD (x_all hD hS hA) xR0 4 0 rfl rfl) rfl rfl hl.1 rfl (lv_room (Nat.le_of_ble_eq_true rfl)) dX4_request_33 ⟨Nat.le_of_ble_eq_true rfl, Nat.le_of_ble_eq_true rfl⟩) hS hA hD (fun u_17 H locs hu_17 hP hD hS => ?_)
        obtain ⟨dr_18, er_19, pl_20, un_21, li_22, ei_23⟩ := u_17
        obtain ⟨hL_24, hd_25⟩ : lstR (([]) ++ (markL (9 * 256 + 3 * 8) (nI 1))) er_19 pl_20 un_21 li_22 ∧ dr_18 = appL (markL (9 * 256 + 3 * 8) (nI 1)) u_1 := hu_17
        have hP : va_P (dC, dI) vwCl (gW g0 g1 g2 g3 g4 g5 g6 g7 g8 g9 g10 g11 g12 g13 cI cB k dr_18 er_19 pl_20 un_21 li_22 (-1) tp tn rn vs bo ex wr ei_23 dg wo pa ch fi) _ := hP
        have hD : va_D A (gW g0 g1 g2 g3 g4 g5 g6 g7 g8 g9 g10 g11 g12 g13 cI cB k dr_18 er_19 pl_20 un_21 li_22 (-1) tp tn rn vs bo ex wr ei_23 dg wo pa ch fi) := hD
        have hlen_li_22 : li_22 = 0 + 1 := by rw [hL_24.1, List.length_append, ← hL0.1]; rfl
        refine lv_aload_n (pc := 36) hx hb dX4_request_36 rfl (lv_at hl 0 rfl) ?_
        refine lv_bipush (pc := 37) (v := nI 9) hx hb dX4_request_37 (by decide) ?_
        refine x_wrva (pc := 39) (va_runV (As := [.int (nI 9)]) (rest := []) ⟨hx, hb, hml, hown, hts⟩ (kX4_magic l dC dI tt cI cB _ g0 g1 g2 g3 g4 g5 g6 g7 g8 g9 g10 g11 g12 g13 k dr_18 er_19 pl_20 un_21 li_22 (-1) tp tn rn vs bo ex wr ei_23 dg wo pa ch fi (([]) ++ (markL (9 * 256 + 3 * 8) (nI 1))) 9 hL_24 (by omega) (by omega)) (cwV 1 hts gX4_request_X4_magic rfl rfl rfl (by decide +kernel) ⟨Nat.le_of_ble_eq_true rfl, Nat.le_of_ble_eq_true rfl⟩) (x_preVa hS hE hK hP hD (x_all hD hS hA) xR0 4 0 rfl rfl) rfl rfl hl.1 rfl (lv_room (Nat.le_of_ble_eq_true rfl)) dX4_request_39 ⟨Nat.le_of_ble_eq_true rfl, Nat.le_of_ble_eq_true rfl⟩) hS hA hD (fun u_26 H locs hu_26 hP hD hS => ?_)
        obtain ⟨dr_27, er_28, pl_29, un_30, li_31, ei_32⟩ := u_26
        obtain ⟨hL_33, hd_34⟩ : lstR ((([]) ++ (markL (9 * 256 + 3 * 8) (nI 1))) ++ (magL (9 * 256 + 0 * 8))) er_28 pl_29 un_30 li_31 ∧ dr_27 = appL (magL (9 * 256 + 0 * 8)) dr_18 := hu_26
        have hP : va_P (dC, dI) vwCl (gW g0 g1 g2 g3 g4 g5 g6 g7 g8 g9 g10 g11 g12 g13 cI cB k dr_27 er_28 pl_29 un_30 li_31 (-1) tp tn rn vs bo ex wr ei_32 dg wo pa ch fi) _ := hP
        have hD : va_D A (gW g0 g1 g2 g3 g4 g5 g6 g7 g8 g9 g10 g11 g12 g13 cI cB k dr_27 er_28 pl_29 un_30 li_31 (-1) tp tn rn vs bo ex wr ei_32 dg wo pa ch fi) := hD
        have hlen_li_31 : li_31 = li_22 + 1 := by rw [hL_33.1, List.length_append, ← hL_24.1]; rfl
        refine lv_aload_n (pc := 42) hx hb dX4_request_42 rfl (lv_at hl 0 rfl) ?_
        refine x_wria (pc := 43) (va_runV (As := []) (rest := []) ⟨hx, hb, hml, hown, hts⟩ (kX4_does l dC dI tt cI cB _ g0 g1 g2 g3 g4 g5 g6 g7 g8 g9 g10 g11 g12 g13 k dr_27 er_28 pl_29 un_30 li_31 (-1) tp tn rn vs bo ex wr ei_32 dg wo pa ch fi ((([]) ++ (markL (9 * 256 + 3 * 8) (nI 1))) ++ (magL (9 * 256 + 0 * 8))) false hk hL_33 (by omega) rfl) (cwV 0 hts gX4_request_X4_does rfl rfl rfl (by decide +kernel) ⟨Nat.le_of_ble_eq_true rfl, Nat.le_of_ble_eq_true rfl⟩) (x_preVa hS hE hK hP hD (x_all hD hS hA) xR0 4 0 rfl rfl) rfl rfl hl.1 rfl (lv_room (Nat.le_of_ble_eq_true rfl)) dX4_request_43 ⟨Nat.le_of_ble_eq_true rfl, Nat.le_of_ble_eq_true rfl⟩) hS hA hD (fun r_36 u_35 H locs hu_35 hP hD hS => ?_)
        obtain ⟨k_38, ex_39, rn_40⟩ := u_35
        obtain ⟨hr_36, ek_38, eex_39, ern_40⟩ : r_36 = bI (kActs ((([]) ++ (markL (9 * 256 + 3 * 8) (nI 1))) ++ (magL (9 * 256 + 0 * 8))) k).2 ∧ k_38 = (kActs ((([]) ++ (markL (9 * 256 + 3 * 8) (nI 1))) ++ (magL (9 * 256 + 0 * 8))) k).1 ∧ ex_39 = (if false = true ∧ 0 < ((([]) ++ (markL (9 * 256 + 3 * 8) (nI 1))) ++ (magL (9 * 256 + 0 * 8))).length ∧ (kActs ((([]) ++ (markL (9 * 256 + 3 * 8) (nI 1))) ++ (magL (9 * 256 + 0 * 8))) k).2 = true then ex + nI 1 else ex) ∧ rn_40 = (if (kActs ((([]) ++ (markL (9 * 256 + 3 * 8) (nI 1))) ++ (magL (9 * 256 + 0 * 8))) k).2 = true then rn else false) := hu_35
        obtain ⟨b_37, eb_37⟩ : ∃ z, z = (kActs ((([]) ++ (markL (9 * 256 + 3 * 8) (nI 1))) ++ (magL (9 * 256 + 0 * 8))) k).2 := ⟨_, rfl⟩
        rw [← eb_37] at hr_36
        subst hr_36
        have hP : va_P (dC, dI) vwCl (gW g0 g1 g2 g3 g4 g5 g6 g7 g8 g9 g10 g11 g12 g13 cI cB k_38 dr_27 er_28 pl_29 un_30 li_31 (-1) tp tn rn_40 vs bo ex_39 wr ei_32 dg wo pa ch fi) _ := hP
        have hD : va_D A (gW g0 g1 g2 g3 g4 g5 g6 g7 g8 g9 g10 g11 g12 g13 cI cB k_38 dr_27 er_28 pl_29 un_30 li_31 (-1) tp tn rn_40 vs bo ex_39 wr ei_32 dg wo pa ch fi) := hD
        refine lv_if_eq (pc := 46) (tgt := 53) hx hb dX4_request_46 (by decide) (fun c4 => ?_) (fun c4 => ?_)
        · skip
          have c4 : b_37 = false := bI_0.mp c4
          refine lv_bipush (pc := 53) (v := (-9)) hx hb dX4_request_53 (by decide) ?_
          have f1 : (kActs ((([]) ++ (markL (9 * 256 + 3 * 8) (nI 1))) ++ (magL (9 * 256 + 0 * 8))) k).2 = false := eb_37.symm.trans c4
          have hLL : (([]) ++ (markL (9 * 256 + 3 * 8) (nI 1))) ++ (magL (9 * 256 + 0 * 8)) = reqL g := by rw [reqL, if_pos c3]; rfl
          rw [hLL] at f1 ek_38 eex_39 ern_40
          exact W.iret (v := (-9)) hx hb hr (fun t ht hW => ⟨⟨(-9), (k_38, dr_27, er_28, pl_29, un_30, li_31, (-1), rn_40, ex_39, ei_32, vs, bo, wr, dg, wo, pa, ch), rfl, ⟨by rw [reqR, if_neg (by rw [c1]; decide), if_neg (by rw [c2]; decide), if_neg (by rw [f1]; decide), ← ek_38, ern_40, if_neg (by rw [f1]; decide)]; rfl, by show ex_39 = ex; rw [eex_39, if_neg (fun z => absurd z.1 (by decide))], rfl, rfl⟩, by show va_P _ _ _ t.heap; rw [ht]; exact hP, va_K.moved hW.alike hK, hD⟩, hS.F ht⟩) hS.2.2 dX4_request_55
        · skip
          have c4 : b_37 = true := bI_1.mp c4
          refine lv_iconst (pc := 49) (v := nI 0) hx hb dX4_request_49 (by decide) ?_
          refine lv_goto (pc := 50) (tgt := 55) hx hb dX4_request_50 (by decide) ?_
          have f1 : (kActs ((([]) ++ (markL (9 * 256 + 3 * 8) (nI 1))) ++ (magL (9 * 256 + 0 * 8))) k).2 = true := eb_37.symm.trans c4
          have hLL : (([]) ++ (markL (9 * 256 + 3 * 8) (nI 1))) ++ (magL (9 * 256 + 0 * 8)) = reqL g := by rw [reqL, if_pos c3]; rfl
          rw [hLL] at f1 ek_38 eex_39 ern_40
          exact W.iret (v := nI 0) hx hb hr (fun t ht hW => ⟨⟨nI 0, (k_38, dr_27, er_28, pl_29, un_30, li_31, (-1), rn_40, ex_39, ei_32, vs, bo, wr, dg, wo, pa, ch), rfl, ⟨by rw [reqR, if_neg (by rw [c1]; decide), if_neg (by rw [c2]; decide), if_pos f1, ← ek_38, ern_40, if_pos f1], by show ex_39 = ex; rw [eex_39, if_neg (fun z => absurd z.1 (by decide))], rfl, rfl⟩, by show va_P _ _ _ t.heap; rw [ht]; exact hP, va_K.moved hW.alike hK, hD⟩, hS.F ht⟩) hS.2.2 dX4_request_55
    · skip
      have c2 : rn = false := bI_0.mp c2
      refine lv_bipush (pc := 17) (v := (-2)) hx hb dX4_request_17 (by decide) ?_
      exact W.iret (v := (-2)) hx hb hr (fun t ht hW => ⟨⟨(-2), (k, dr, er, pl, un, li, ov, rn, ex, ei, vs, bo, wr, dg, wo, pa, ch), rfl, ⟨by rw [reqR, if_neg (by rw [c1]; decide), if_pos c2], rfl, rfl, rfl⟩, by show va_P _ _ _ t.heap; rw [ht]; exact hP, va_K.moved hW.alike hK, hD⟩, hS.F ht⟩) hS.2.2 dX4_request_19
  · skip
    have c1 : k.2.2.1 = true := bI_1.mp c1
    refine lv_bipush (pc := 7) (v := (-9)) hx hb dX4_request_7 (by decide) ?_
    exact W.iret (v := (-9)) hx hb hr (fun t ht hW => ⟨⟨(-9), (k, dr, er, pl, un, li, ov, rn, ex, ei, vs, bo, wr, dg, wo, pa, ch), rfl, ⟨by rw [reqR, if_pos c1], rfl, rfl, rfl⟩, by show va_P _ _ _ t.heap; rw [ht]; exact hP, va_K.moved hW.alike hK, hD⟩, hS.F ht⟩) hS.2.2 dX4_request_9
set_option maxHeartbeats 4000000 in
set_option maxRecDepth 100000 in
theorem kX4_confirm (l : Launch) (dC : Nat → ClassId) (dI : Nat → Nat → Nat) (tt : Nat → Nat) (cI cB : ClassId) (sz : Nat) (g0 g1 g2 g3 g4 g5 g6 g7 g8 g9 g10 g11 g12 g13 : Nat) (k : K0) (dr : Nat → Int8) (er pl : Nat → Int32) (un : Nat → Int8) (li : Nat) (ov : Int32) (tp : Nat → Int8) (tn : Nat) (rn : Bool) (vs bo ex wr : Int32) (ei dg : Nat → Int8) (wo : Nat → Int32) (pa : Nat → Int8) (ch fi : Nat → Int32) (hlf : k.2.2.2.2.1 < 2 ^ 31) (hcu : k.2.2.2.2.2.1 < 32) : MetI (S := (K0 × (Nat → Int8) × (Nat → Int32) × (Nat → Int32) × (Nat → Int8) × Nat × Int32 × Bool × Int32 × (Nat → Int8) × Int32 × Int32 × Int32 × (Nat → Int8) × (Nat → Int32) × (Nat → Int8) × (Nat → Int32))) l yX4_confirm wsX4_confirm { frames := 3, cells := 0, slots := 0, locals := 69 } (dC, dI) [(cI, .int), (cB, .byte)] tt [] sz (gW g0 g1 g2 g3 g4 g5 g6 g7 g8 g9 g10 g11 g12 g13 cI cB k dr er pl un li ov tp tn rn vs bo ex wr ei dg wo pa ch fi) [.ref g0] (fun u : (K0 × (Nat → Int8) × (Nat → Int32) × (Nat → Int32) × (Nat → Int8) × Nat × Int32 × Bool × Int32 × (Nat → Int8) × Int32 × Int32 × Int32 × (Nat → Int8) × (Nat → Int32) × (Nat → Int8) × (Nat → Int32)) => gW g0 g1 g2 g3 g4 g5 g6 g7 g8 g9 g10 g11 g12 g13 cI cB u.1 u.2.1 u.2.2.1 u.2.2.2.1 u.2.2.2.2.1 u.2.2.2.2.2.1 u.2.2.2.2.2.2.1 tp tn u.2.2.2.2.2.2.2.1 u.2.2.2.2.2.2.2.2.2.2.1 u.2.2.2.2.2.2.2.2.2.2.2.1 u.2.2.2.2.2.2.2.2.1 u.2.2.2.2.2.2.2.2.2.2.2.2.1 u.2.2.2.2.2.2.2.2.2.1 u.2.2.2.2.2.2.2.2.2.2.2.2.2.1 u.2.2.2.2.2.2.2.2.2.2.2.2.2.2.1 u.2.2.2.2.2.2.2.2.2.2.2.2.2.2.2.1 u.2.2.2.2.2.2.2.2.2.2.2.2.2.2.2.2 fi) (fun r u => (r, u.1, u.2.2.2.2.2.2.2.1, rvV u.2.2.2.2.2.2.2.1 u.2.2.2.2.2.2.2.2.2.2.1) = cfmR k rn (rvV rn vs) ∧ u.2.2.2.2.2.2.2.2.1 = ex ∧ u.2.2.2.2.2.2.2.2.2.2.2.1 = bo ∧ u.2.2.2.2.2.2.2.2.2.2.2.2.1 = wr) := by
  refine Met.ofW (cc := cX4_confirm) (maxL := 1) (ret := (some .int)) (by decide) rfl ?_
  intro p e s m args below meth c s₁ B hml hv
  obtain ⟨rfl, hsz, hP, hK, hD0, hE⟩ := hv
  have hx := B.exec
  have hb := B.bytes
  have hr := B.returns
  have hts := atoms_spec (ws := wsX4_confirm) B.pre
  have hown : s.vm.findClass RX4 = some m.cls := findClass_of_methodNamed B.named
  have hlocks := B.notSynchronized
  subst hsz
  have hD := hD0.self (sz := s.heap.size)
  generalize hAe : va_A (gW g0 g1 g2 g3 g4 g5 g6 g7 g8 g9 g10 g11 g12 g13 cI cB k dr er pl un li ov tp tn rn vs bo ex wr ei dg wo pa ch fi) s.heap.size = A at hD hE ⊢
  have hA : ∀ q : Nat, s.heap.size ≤ q → A q := fun q h => by rw [← hAe]; exact Or.inr h
  have hS : va_S A s.heap s.heap [] := va_S.rf
  have hl := lv_entry ([.ref g0]) (n := 1) (Nat.le_of_ble_eq_true rfl)
  rw [lg_entry_eq]
  generalize (lg_sl ([.ref g0]) ++ List.replicate (1 - (lg_sl ([.ref g0])).length) Slot.unset).toArray = ls at hl ⊢
  have hl : lv_has ls 1 [(0, .ref g0)] := hl
  have hP : va_P (dC, dI) vwCl (gW g0 g1 g2 g3 g4 g5 g6 g7 g8 g9 g10 g11 g12 g13 cI cB k dr er pl un li ov tp tn rn vs bo ex wr ei dg wo pa ch fi) s.heap := hP
  refine lv_aload_n (pc := 0) hx hb dX4_confirm_0 rfl (lv_at hl 0 rfl) ?_
  refine va_get (pc := 1) (D := (dC, dI)) (ci := 4) (v := .int (bI k.2.2.1)) (C := RX4) (T := TX4) (N := 26) hx hb hts (by decide +kernel) hown hK hP 0 rfl rfl 9 (by decide) (hts (.fieldLink RX4 88 "ScratchSwapModel" "isDown" "Z") (by decide +kernel)) (fun _ h9 => h9) rfl dX4_confirm_1 ?_
  refine lv_if_eq (pc := 4) (tgt := 10) hx hb dX4_confirm_4 (by decide) (fun c1 => ?_) (fun c1 => ?_)
  · skip
    have c1 : k.2.2.1 = false := bI_0.mp c1
    have hk : kOk k := ⟨c1, hlf, hcu⟩
    refine lv_aload_n (pc := 10) hx hb dX4_confirm_10 rfl (lv_at hl 0 rfl) ?_
    refine va_get (pc := 11) (D := (dC, dI)) (ci := 4) (v := .int (bI rn)) (C := RX4) (T := TX4) (N := 26) hx hb hts (by decide +kernel) hown hK hP 0 rfl rfl 10 (by decide) (hts (.fieldLink RX4 92 "ScratchSwapModel" "runs" "Z") (by decide +kernel)) (fun _ h9 => h9) rfl dX4_confirm_11 ?_
    refine lv_if_ne (pc := 14) (tgt := 20) hx hb dX4_confirm_14 (by decide) (fun c2 => ?_) (fun c2 => ?_)
    · skip
      have c2 : rn = true := bI_1.mp c2
      refine lv_aload_n (pc := 20) hx hb dX4_confirm_20 rfl (lv_at hl 0 rfl) ?_
      refine va_get (pc := 21) (D := (dC, dI)) (ci := 4) (v := .ref g1) (C := RX4) (T := TX4) (N := 26) hx hb hts (by decide +kernel) hown hK hP 0 rfl rfl 0 (by decide) (hts (.fieldLink RX4 9 "ScratchSwapModel" "flash" "[B") (by decide +kernel)) (fun _ h9 => h9) rfl dX4_confirm_21 ?_
      refine lv_iconst (pc := 24) (v := nI 4) hx hb dX4_confirm_24 (by decide) ?_
      refine lv_iconst (pc := 25) (v := nI 3) hx hb dX4_confirm_25 (by decide) ?_
      refine x_roi (pc := 26) (va_runS (As := [.ref g1, .int (nI 4), .int (nI 3)]) (rest := []) ⟨hx, hb, hml, hown, hts⟩ (kX4_isSet l dC dI tt cI cB _ g1 2816 k.1 4 3 (by omega) (by omega)) (va_cwS 3 hts gX4_confirm_X4_isSet rfl rfl rfl (by decide +kernel) ⟨Nat.le_of_ble_eq_true rfl, Nat.le_of_ble_eq_true rfl⟩) (x_preS hS hE hK hP hD [1] rfl (by decide) (x_ro hS hA) xR0) rfl rfl hl.1 rfl (lv_room (Nat.le_of_ble_eq_true rfl)) dX4_confirm_26 ⟨Nat.le_of_ble_eq_true rfl, Nat.le_of_ble_eq_true rfl⟩) hS hA hP (fun r_1 H locs hr_1 hP hS => ?_)
      subst hr_1
      refine lv_if_ne (pc := 29) (tgt := 43) hx hb dX4_confirm_29 (by decide) (fun c3 => ?_) (fun c3 => ?_)
      · skip
        have c3 : (mkB k.1 (4 * 256 + 3 * 8)) = true := bI_1.mp c3
        refine lv_iconst (pc := 43) (v := nI 0) hx hb dX4_confirm_43 (by decide) ?_
        exact W.iret (v := nI 0) hx hb hr (fun t ht hW => ⟨⟨nI 0, (k, dr, er, pl, un, li, ov, rn, ex, ei, vs, bo, wr, dg, wo, pa, ch), rfl, ⟨by rw [cfmR, if_neg (by rw [c1]; decide), if_neg (by rw [c2]; decide), if_pos (by first | exact Or.inl c3 | exact Or.inr c5)], rfl, rfl, rfl⟩, by show va_P _ _ _ t.heap; rw [ht]; exact hP, va_K.moved hW.alike hK, hD⟩, hS.F ht⟩) hS.2.2 dX4_confirm_44
      · skip
        have c3 : (mkB k.1 (4 * 256 + 3 * 8)) = false := bI_0.mp c3
        refine lv_aload_n (pc := 32) hx hb dX4_confirm_32 rfl (lv_at hl 0 rfl) ?_
        refine va_get (pc := 33) (D := (dC, dI)) (ci := 4) (v := .ref g1) (C := RX4) (T := TX4) (N := 26) hx hb hts (by decide +kernel) hown hK hP 0 rfl rfl 0 (by decide) (hts (.fieldLink RX4 9 "ScratchSwapModel" "flash" "[B") (by decide +kernel)) (fun _ h9 => h9) rfl dX4_confirm_33 ?_
        refine lv_iconst (pc := 36) (v := nI 4) hx hb dX4_confirm_36 (by decide) ?_
        refine x_roi (pc := 37) (va_runS (As := [.ref g1, .int (nI 4)]) (rest := []) ⟨hx, hb, hml, hown, hts⟩ (kX4_isMagic l dC dI tt cI cB _ g1 2816 k.1 4 (by omega) (by omega)) (va_cwS 2 hts gX4_confirm_X4_isMagic rfl rfl rfl (by decide +kernel) ⟨Nat.le_of_ble_eq_true rfl, Nat.le_of_ble_eq_true rfl⟩) (x_preS hS hE hK hP hD [1] rfl (by decide) (x_ro hS hA) xR0) rfl rfl hl.1 rfl (lv_room (Nat.le_of_ble_eq_true rfl)) dX4_confirm_37 ⟨Nat.le_of_ble_eq_true rfl, Nat.le_of_ble_eq_true rfl⟩) hS hA hP (fun r_2 H locs hr_2 hP hS => ?_)
        subst hr_2
        refine lv_if_ne (pc := 40) (tgt := 45) hx hb dX4_confirm_40 (by decide) (fun c5 => ?_) (fun c5 => ?_)
        · skip
          have c5 : (magB k.1 (4 * 256)) = true := bI_1.mp c5
          refine lv_aload_n (pc := 45) hx hb dX4_confirm_45 rfl (lv_at hl 0 rfl) ?_
          refine x_wrva (pc := 46) (va_runV (As := []) (rest := []) ⟨hx, hb, hml, hown, hts⟩ (kX4_begins l dC dI tt cI cB _ g0 g1 g2 g3 g4 g5 g6 g7 g8 g9 g10 g11 g12 g13 k dr er pl un li ov tp tn rn vs bo ex wr ei dg wo pa ch fi ) (cwV 0 hts gX4_confirm_X4_begins rfl rfl rfl (by decide +kernel) ⟨Nat.le_of_ble_eq_true rfl, Nat.le_of_ble_eq_true rfl⟩) (x_preVa hS hE hK hP hD (x_all hD hS hA) xR0 4 0 rfl rfl) rfl rfl hl.1 rfl (lv_room (Nat.le_of_ble_eq_true rfl)) dX4_confirm_46 ⟨Nat.le_of_ble_eq_true rfl, Nat.le_of_ble_eq_true rfl⟩) hS hA hD (fun u_3 H locs hu_3 hP hD hS => ?_)
          have hdr : eqF u_3 k.1 := hu_3
          have hP : va_P (dC, dI) vwCl (gW g0 g1 g2 g3 g4 g5 g6 g7 g8 g9 g10 g11 g12 g13 cI cB k u_3 er pl un 0 (-1) tp tn rn vs bo ex wr ei dg wo pa ch fi) _ := hP
          have hD : va_D A (gW g0 g1 g2 g3 g4 g5 g6 g7 g8 g9 g10 g11 g12 g13 cI cB k u_3 er pl un 0 (-1) tp tn rn vs bo ex wr ei dg wo pa ch fi) := hD
          have hL0 : lstR [] er pl un 0 := lst_0 _ _ _
          refine lv_aload_n (pc := 49) hx hb dX4_confirm_49 rfl (lv_at hl 0 rfl) ?_
          refine lv_iconst (pc := 50) (v := nI 4) hx hb dX4_confirm_50 (by decide) ?_
          refine lv_iconst (pc := 51) (v := nI 3) hx hb dX4_confirm_51 (by decide) ?_
          refine lv_iconst (pc := 52) (v := nI 1) hx hb dX4_confirm_52 (by decide) ?_
          refine x_wrva (pc := 53) (va_runV (As := [.int (nI 4), .int (nI 3), .int (nI 1)]) (rest := []) ⟨hx, hb, hml, hown, hts⟩ (kX4_mark l dC dI tt cI cB _ g0 g1 g2 g3 g4 g5 g6 g7 g8 g9 g10 g11 g12 g13 k u_3 er pl un 0 (-1) tp tn rn vs bo ex wr ei dg wo pa ch fi ([]) 4 3 (nI 1) hL0 (by omega) (by omega)) (cwV 3 hts gX4_confirm_X4_mark rfl rfl rfl (by decide +kernel) ⟨Nat.le_of_ble_eq_true rfl, Nat.le_of_ble_eq_true rfl⟩) (x_preVa hS hE hK hP hD (x_all hD hS hA) xR0 4 0 rfl rfl) rfl rfl hl.1 rfl (lv_room (Nat.le_of_ble_eq_true rfl)) dX4_confirm_53 ⟨Nat.le_of_ble_eq_true rfl, Nat.le_of_ble_eq_true rfl⟩) hS hA hD (fun u_4 H locs hu_4 hP hD hS => ?_)
          obtain ⟨dr_5, er_6, pl_7, un_8, li_9, ei_10⟩ := u_4
          obtain ⟨hL_11, hd_12⟩ : lstR (([]) ++ (markL (4 * 256 + 3 * 8) (nI 1))) er_6 pl_7 un_8 li_9 ∧ dr_5 = appL (markL (4 * 256 + 3 * 8) (nI 1)) u_3 := hu_4
          have hP : va_P (dC, dI) vwCl (gW g0 g1 g2 g3 g4 g5 g6 g7 g8 g9 g10 g11 g12 g13 cI cB k dr_5 er_6 pl_7 un_8 li_9 (-1) tp tn rn vs bo ex wr ei_10 dg wo pa ch fi) _ := hP
          have hD : va_D A (gW g0 g1 g2 g3 g4 g5 g6 g7 g8 g9 g10 g11 g12 g13 cI cB k dr_5 er_6 pl_7 un_8 li_9 (-1) tp tn rn vs bo ex wr ei_10 dg wo pa ch fi) := hD
          have hlen_li_9 : li_9 = 0 + 1 := by rw [hL_11.1, List.length_append, ← hL0.1]; rfl
          refine lv_aload_n (pc := 56) hx hb dX4_confirm_56 rfl (lv_at hl 0 rfl) ?_
          refine x_wria (pc := 57) (va_runV (As := []) (rest := []) ⟨hx, hb, hml, hown, hts⟩ (kX4_does l dC dI tt cI cB _ g0 g1 g2 g3 g4 g5 g6 g7 g8 g9 g10 g11 g12 g13 k dr_5 er_6 pl_7 un_8 li_9 (-1) tp tn rn vs bo ex wr ei_10 dg wo pa ch fi (([]) ++ (markL (4 * 256 + 3 * 8) (nI 1))) false hk hL_11 (by omega) rfl) (cwV 0 hts gX4_confirm_X4_does rfl rfl rfl (by decide +kernel) ⟨Nat.le_of_ble_eq_true rfl, Nat.le_of_ble_eq_true rfl⟩) (x_preVa hS hE hK hP hD (x_all hD hS hA) xR0 4 0 rfl rfl) rfl rfl hl.1 rfl (lv_room (Nat.le_of_ble_eq_true rfl)) dX4_confirm_57 ⟨Nat.le_of_ble_eq_true rfl, Nat.le_of_ble_eq_true rfl⟩) hS hA hD (fun r_14 u_13 H locs hu_13 hP hD hS => ?_)
          obtain ⟨k_16, ex_17, rn_18⟩ := u_13
          obtain ⟨hr_14, ek_16, eex_17, ern_18⟩ : r_14 = bI (kActs (([]) ++ (markL (4 * 256 + 3 * 8) (nI 1))) k).2 ∧ k_16 = (kActs (([]) ++ (markL (4 * 256 + 3 * 8) (nI 1))) k).1 ∧ ex_17 = (if false = true ∧ 0 < (([]) ++ (markL (4 * 256 + 3 * 8) (nI 1))).length ∧ (kActs (([]) ++ (markL (4 * 256 + 3 * 8) (nI 1))) k).2 = true then ex + nI 1 else ex) ∧ rn_18 = (if (kActs (([]) ++ (markL (4 * 256 + 3 * 8) (nI 1))) k).2 = true then rn else false) := hu_13
          obtain ⟨b_15, eb_15⟩ : ∃ z, z = (kActs (([]) ++ (markL (4 * 256 + 3 * 8) (nI 1))) k).2 := ⟨_, rfl⟩
          rw [← eb_15] at hr_14
          subst hr_14
          have hP : va_P (dC, dI) vwCl (gW g0 g1 g2 g3 g4 g5 g6 g7 g8 g9 g10 g11 g12 g13 cI cB k_16 dr_5 er_6 pl_7 un_8 li_9 (-1) tp tn rn_18 vs bo ex_17 wr ei_10 dg wo pa ch fi) _ := hP
          have hD : va_D A (gW g0 g1 g2 g3 g4 g5 g6 g7 g8 g9 g10 g11 g12 g13 cI cB k_16 dr_5 er_6 pl_7 un_8 li_9 (-1) tp tn rn_18 vs bo ex_17 wr ei_10 dg wo pa ch fi) := hD
          refine lv_if_eq (pc := 60) (tgt := 67) hx hb dX4_confirm_60 (by decide) (fun c4 => ?_) (fun c4 => ?_)
          · skip
            have c4 : b_15 = false := bI_0.mp c4
            refine lv_bipush (pc := 67) (v := (-9)) hx hb dX4_confirm_67 (by decide) ?_
            have f1 : (kActs (([]) ++ (markL (4 * 256 + 3 * 8) (nI 1))) k).2 = false := eb_15.symm.trans c4
            have hLL : ([]) ++ (markL (4 * 256 + 3 * 8) (nI 1)) = markL (4 * 256 + 3 * 8) (nI 1) := rfl
            rw [hLL] at f1 ek_16 eex_17 ern_18
            exact W.iret (v := (-9)) hx hb hr (fun t ht hW => ⟨⟨(-9), (k_16, dr_5, er_6, pl_7, un_8, li_9, (-1), rn_18, ex_17, ei_10, vs, bo, wr, dg, wo, pa, ch), rfl, ⟨by rw [cfmR, if_neg (by rw [c1]; decide), if_neg (by rw [c2]; decide), if_neg (fun z => by rw [c3, c5] at z; exact absurd z (by decide)), if_neg (by rw [f1]; decide), ← ek_16, ern_18, if_neg (by rw [f1]; decide)]; rfl, by show ex_17 = ex; rw [eex_17, if_neg (fun z => absurd z.1 (by decide))], rfl, rfl⟩, by show va_P _ _ _ t.heap; rw [ht]; exact hP, va_K.moved hW.alike hK, hD⟩, hS.F ht⟩) hS.2.2 dX4_confirm_69
          · skip
            have c4 : b_15 = true := bI_1.mp c4
            refine lv_iconst (pc := 63) (v := nI 1) hx hb dX4_confirm_63 (by decide) ?_
            refine lv_goto (pc := 64) (tgt := 69) hx hb dX4_confirm_64 (by decide) ?_
            have f1 : (kActs (([]) ++ (markL (4 * 256 + 3 * 8) (nI 1))) k).2 = true := eb_15.symm.trans c4
            have hLL : ([]) ++ (markL (4 * 256 + 3 * 8) (nI 1)) = markL (4 * 256 + 3 * 8) (nI 1) := rfl
            rw [hLL] at f1 ek_16 eex_17 ern_18
            exact W.iret (v := nI 1) hx hb hr (fun t ht hW => ⟨⟨nI 1, (k_16, dr_5, er_6, pl_7, un_8, li_9, (-1), rn_18, ex_17, ei_10, vs, bo, wr, dg, wo, pa, ch), rfl, ⟨by rw [cfmR, if_neg (by rw [c1]; decide), if_neg (by rw [c2]; decide), if_neg (fun z => by rw [c3, c5] at z; exact absurd z (by decide)), if_pos f1, ← ek_16, ern_18, if_pos f1], by show ex_17 = ex; rw [eex_17, if_neg (fun z => absurd z.1 (by decide))], rfl, rfl⟩, by show va_P _ _ _ t.heap; rw [ht]; exact hP, va_K.moved hW.alike hK, hD⟩, hS.F ht⟩) hS.2.2 dX4_confirm_69
        · skip
          have c5 : (magB k.1 (4 * 256)) = false := bI_0.mp c5
          refine lv_iconst (pc := 43) (v := nI 0) hx hb dX4_confirm_43 (by decide) ?_
          exact W.iret (v := nI 0) hx hb hr (fun t ht hW => ⟨⟨nI 0, (k, dr, er, pl, un, li, ov, rn, ex, ei, vs, bo, wr, dg, wo, pa, ch), rfl, ⟨by rw [cfmR, if_neg (by rw [c1]; decide), if_neg (by rw [c2]; decide), if_pos (by first | exact Or.inl c3 | exact Or.inr c5)], rfl, rfl, rfl⟩, by show va_P _ _ _ t.heap; rw [ht]; exact hP, va_K.moved hW.alike hK, hD⟩, hS.F ht⟩) hS.2.2 dX4_confirm_44
    · skip
      have c2 : rn = false := bI_0.mp c2
      refine lv_bipush (pc := 17) (v := (-2)) hx hb dX4_confirm_17 (by decide) ?_
      exact W.iret (v := (-2)) hx hb hr (fun t ht hW => ⟨⟨(-2), (k, dr, er, pl, un, li, ov, rn, ex, ei, vs, bo, wr, dg, wo, pa, ch), rfl, ⟨by rw [cfmR, if_neg (by rw [c1]; decide), if_pos c2], rfl, rfl, rfl⟩, by show va_P _ _ _ t.heap; rw [ht]; exact hP, va_K.moved hW.alike hK, hD⟩, hS.F ht⟩) hS.2.2 dX4_confirm_19
  · skip
    have c1 : k.2.2.1 = true := bI_1.mp c1
    refine lv_bipush (pc := 7) (v := (-9)) hx hb dX4_confirm_7 (by decide) ?_
    exact W.iret (v := (-9)) hx hb hr (fun t ht hW => ⟨⟨(-9), (k, dr, er, pl, un, li, ov, rn, ex, ei, vs, bo, wr, dg, wo, pa, ch), rfl, ⟨by rw [cfmR, if_pos c1], rfl, rfl, rfl⟩, by show va_P _ _ _ t.heap; rw [ht]; exact hP, va_K.moved hW.alike hK, hD⟩, hS.F ht⟩) hS.2.2 dX4_confirm_9
