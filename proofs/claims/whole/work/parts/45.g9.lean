set_option maxHeartbeats 4000000 in
set_option maxRecDepth 100000 in
theorem kX4_install (l : Launch) (dC : Nat → ClassId) (dI : Nat → Nat → Nat) (tt : Nat → Nat) (cI cB : ClassId) (sz : Nat) (g0 g1 g2 g3 g4 g5 g6 g7 g8 g9 g10 g11 g12 g13 : Nat) (k : K0) (dr : Nat → Int8) (er pl : Nat → Int32) (un : Nat → Int8) (li : Nat) (ov : Int32) (tp : Nat → Int8) (tn : Nat) (rn : Bool) (vs bo ex wr : Int32) (ei dg : Nat → Int8) (wo : Nat → Int32) (pa : Nat → Int8) (ch fi : Nat → Int32) (x : Int32) (hlf : k.2.2.2.2.1 < 2 ^ 31) (hcu : k.2.2.2.2.2.1 < 32) (htn : tn ≤ 1024) : MetI (S := (K0 × (Nat → Int8) × (Nat → Int32) × (Nat → Int32) × (Nat → Int8) × Nat × Int32 × Bool × Int32 × (Nat → Int8) × Int32 × Int32 × Int32 × (Nat → Int8) × (Nat → Int32) × (Nat → Int8) × (Nat → Int32))) l yX4_install wsX4_install { frames := 5, cells := 0, slots := 0, locals := 125 } (dC, dI) [(cI, .int), (cB, .byte)] tt [] sz (gW g0 g1 g2 g3 g4 g5 g6 g7 g8 g9 g10 g11 g12 g13 cI cB k dr er pl un li ov tp tn rn vs bo ex wr ei dg wo pa ch fi) [.ref g0, .int x] (fun u : (K0 × (Nat → Int8) × (Nat → Int32) × (Nat → Int32) × (Nat → Int8) × Nat × Int32 × Bool × Int32 × (Nat → Int8) × Int32 × Int32 × Int32 × (Nat → Int8) × (Nat → Int32) × (Nat → Int8) × (Nat → Int32)) => gW g0 g1 g2 g3 g4 g5 g6 g7 g8 g9 g10 g11 g12 g13 cI cB u.1 u.2.1 u.2.2.1 u.2.2.2.1 u.2.2.2.2.1 u.2.2.2.2.2.1 u.2.2.2.2.2.2.1 tp 0 u.2.2.2.2.2.2.2.1 u.2.2.2.2.2.2.2.2.2.2.1 u.2.2.2.2.2.2.2.2.2.2.2.1 u.2.2.2.2.2.2.2.2.1 u.2.2.2.2.2.2.2.2.2.2.2.2.1 u.2.2.2.2.2.2.2.2.2.1 u.2.2.2.2.2.2.2.2.2.2.2.2.2.1 u.2.2.2.2.2.2.2.2.2.2.2.2.2.2.1 u.2.2.2.2.2.2.2.2.2.2.2.2.2.2.2.1 u.2.2.2.2.2.2.2.2.2.2.2.2.2.2.2.2 fi) (fun r u => (r, u.1, u.2.2.2.2.2.2.2.1, rvV u.2.2.2.2.2.2.2.1 u.2.2.2.2.2.2.2.2.2.2.1) = insR k tp tn rn (rvV rn vs) x ∧ u.2.2.2.2.2.2.2.2.1 = ex ∧ u.2.2.2.2.2.2.2.2.2.2.2.1 = bo ∧ u.2.2.2.2.2.2.2.2.2.2.2.2.1 = wr) := by
  refine Met.ofW (cc := cX4_install) (maxL := 5) (ret := (some .int)) (by decide) rfl ?_
  intro p e s m args below meth c s₁ B hml hv
  obtain ⟨rfl, hsz, hP, hK, hD0, hE⟩ := hv
  have hx := B.exec
  have hb := B.bytes
  have hr := B.returns
  have hts := atoms_spec (ws := wsX4_install) B.pre
  have hown : s.vm.findClass RX4 = some m.cls := findClass_of_methodNamed B.named
  have hlocks := B.notSynchronized
  subst hsz
  have hD := hD0.self (sz := s.heap.size)
  generalize hAe : va_A (gW g0 g1 g2 g3 g4 g5 g6 g7 g8 g9 g10 g11 g12 g13 cI cB k dr er pl un li ov tp tn rn vs bo ex wr ei dg wo pa ch fi) s.heap.size = A at hD hE ⊢
  have hA : ∀ q : Nat, s.heap.size ≤ q → A q := fun q h => by rw [← hAe]; exact Or.inr h
  have hS : va_S A s.heap s.heap [] := va_S.rf
  have hl := lv_entry ([.ref g0, .int x]) (n := 5) (Nat.le_of_ble_eq_true rfl)
  rw [lg_entry_eq]
  generalize (lg_sl ([.ref g0, .int x]) ++ List.replicate (5 - (lg_sl ([.ref g0, .int x])).length) Slot.unset).toArray = ls at hl ⊢
  have hl : lv_has ls 5 [(0, .ref g0), (1, .int x)] := hl
  have hP : va_P (dC, dI) vwCl (gW g0 g1 g2 g3 g4 g5 g6 g7 g8 g9 g10 g11 g12 g13 cI cB k dr er pl un li ov tp tn rn vs bo ex wr ei dg wo pa ch fi) s.heap := hP
  refine lv_aload_n (pc := 0) hx hb dX4_install_0 rfl (lv_at hl 0 rfl) ?_
  refine va_get (pc := 1) (D := (dC, dI)) (ci := 4) (v := .int (nI tn)) (C := RX4) (T := TX4) (N := 26) hx hb hts (by decide +kernel) hown hK hP 0 rfl rfl 8 (by decide) (hts (.fieldLink RX4 133 "ScratchSwapModel" "taped" "I") (by decide +kernel)) (fun _ h9 => h9) rfl dX4_install_1 ?_
  refine lv_istore_n (pc := 4) (lv' := [(2, .int (nI tn)), (0, .ref g0), (1, .int x)]) hx hb dX4_install_4 rfl hl (by decide) rfl (fun ls hl => ?_)
  refine lv_aload_n (pc := 5) hx hb dX4_install_5 rfl (lv_at hl 1 rfl) ?_
  refine lv_iconst (pc := 6) (v := nI 0) hx hb dX4_install_6 (by decide) ?_
  refine va_put (pc := 7) (D := (dC, dI)) (ci := 4) (v := .int (nI 0)) (ty := .int) (C := RX4) (T := TX4) (N := 26) hx hb hts (by decide +kernel) tyX4 tyX4_ok nmX4 hown hK hP hD hS 0 rfl rfl 8 (by decide) (hts (.fieldLink RX4 133 "ScratchSwapModel" "taped" "I") (by decide +kernel)) (fun _ h9 => h9) rfl (by decide +kernel) rfl rfl (Nat.le_of_ble_eq_true rfl) dX4_install_7 (fun H locs hP hD hS => ?_)
  have hP : va_P (dC, dI) vwCl (gW g0 g1 g2 g3 g4 g5 g6 g7 g8 g9 g10 g11 g12 g13 cI cB k dr er pl un li ov tp 0 rn vs bo ex wr ei dg wo pa ch fi) _ := hP
  have hD : va_D A (gW g0 g1 g2 g3 g4 g5 g6 g7 g8 g9 g10 g11 g12 g13 cI cB k dr er pl un li ov tp 0 rn vs bo ex wr ei dg wo pa ch fi) := hD
  refine lv_aload_n (pc := 10) hx hb dX4_install_10 rfl (lv_at hl 1 rfl) ?_
  refine va_get (pc := 11) (D := (dC, dI)) (ci := 4) (v := .int (bI k.2.2.1)) (C := RX4) (T := TX4) (N := 26) hx hb hts (by decide +kernel) hown hK hP 0 rfl rfl 9 (by decide) (hts (.fieldLink RX4 88 "ScratchSwapModel" "isDown" "Z") (by decide +kernel)) (fun _ h9 => h9) rfl dX4_install_11 ?_
  refine lv_if_eq (pc := 14) (tgt := 20) hx hb dX4_install_14 (by decide) (fun c1 => ?_) (fun c1 => ?_)
  · skip
    have c1 : k.2.2.1 = false := bI_0.mp c1
    have hk : kOk k := ⟨c1, hlf, hcu⟩
    refine lv_iload_n (pc := 20) hx hb dX4_install_20 rfl (lv_at hl 2 rfl) ?_
    refine lv_if_eq (pc := 21) (tgt := 31) hx hb dX4_install_21 (by decide) (fun c2 => ?_) (fun c2 => ?_)
    · skip
      have hsl : slotB x = true := decide_eq_true (Or.inl c2)
      obtain ⟨w, hw2, ew⟩ := slotB_of hsl
      rw [ew] at hl
      have hcl : x.toNatClampNeg = w := by rw [ew]; exact nI_clamp (by omega)
      refine lv_aload_n (pc := 31) hx hb dX4_install_31 rfl (lv_at hl 1 rfl) ?_
      refine x_wria (pc := 32) (va_runV (As := []) (rest := []) ⟨hx, hb, hml, hown, hts⟩ (kX4_due l dC dI tt cI cB _ g0 g1 g2 g3 g4 g5 g6 g7 g8 g9 g10 g11 g12 g13 k dr er pl un li ov tp 0 rn vs bo ex wr ei dg wo pa ch fi ) (cwV 0 hts gX4_install_X4_due rfl rfl rfl (by decide +kernel) ⟨Nat.le_of_ble_eq_true rfl, Nat.le_of_ble_eq_true rfl⟩) (x_preVa hS hE hK hP hD (x_all hD hS hA) xR0 4 0 rfl rfl) rfl rfl hl.1 rfl (lv_room (Nat.le_of_ble_eq_true rfl)) dX4_install_32 ⟨Nat.le_of_ble_eq_true rfl, Nat.le_of_ble_eq_true rfl⟩) hS hA hD (fun r_2 u_1 H locs hu_1 hP hD hS => ?_)
      obtain ⟨dg_3, wo_4, pa_5, ch_6⟩ := u_1
      subst hu_1
      have hP : va_P (dC, dI) vwCl (gW g0 g1 g2 g3 g4 g5 g6 g7 g8 g9 g10 g11 g12 g13 cI cB k dr er pl un li ov tp 0 rn vs bo ex wr ei dg_3 wo_4 pa_5 ch_6 fi) _ := hP
      have hD : va_D A (gW g0 g1 g2 g3 g4 g5 g6 g7 g8 g9 g10 g11 g12 g13 cI cB k dr er pl un li ov tp 0 rn vs bo ex wr ei dg_3 wo_4 pa_5 ch_6 fi) := hD
      refine lv_iconst (pc := 35) (v := nI 5) hx hb dX4_install_35 (by decide) ?_
      have hdlt := dueN_lt k.1
      refine lv_icmp_ne (pc := 36) (tgt := 42) hx hb dX4_install_36 (by decide) (fun c4 => ?_) (fun c4 => ?_)
      · skip
        have c4 : ¬ (dueN k.1) = 5 := fun z => c4 ((nI_eq (a := (dueN k.1)) (b := 5) (by omega) (by omega)).mpr z)
        refine lv_iload_n (pc := 42) hx hb dX4_install_42 rfl (lv_at hl 2 rfl) ?_
        refine lv_if_ne (pc := 43) (tgt := 51) hx hb dX4_install_43 (by decide) (fun c5 => ?_) (fun c5 => ?_)
        · skip
          have c5 : ¬ w = 0 := fun z => c5 ((nI_eq (a := w) (b := 0) (by omega) (by omega)).mpr z)
          refine lv_aload_n (pc := 51) hx hb dX4_install_51 rfl (lv_at hl 1 rfl) ?_
          refine x_wrva (pc := 52) (va_runV (As := []) (rest := []) ⟨hx, hb, hml, hown, hts⟩ (kX4_begins l dC dI tt cI cB _ g0 g1 g2 g3 g4 g5 g6 g7 g8 g9 g10 g11 g12 g13 k dr er pl un li ov tp 0 rn vs bo ex wr ei dg_3 wo_4 pa_5 ch_6 fi ) (cwV 0 hts gX4_install_X4_begins rfl rfl rfl (by decide +kernel) ⟨Nat.le_of_ble_eq_true rfl, Nat.le_of_ble_eq_true rfl⟩) (x_preVa hS hE hK hP hD (x_all hD hS hA) xR0 4 0 rfl rfl) rfl rfl hl.1 rfl (lv_room (Nat.le_of_ble_eq_true rfl)) dX4_install_52 ⟨Nat.le_of_ble_eq_true rfl, Nat.le_of_ble_eq_true rfl⟩) hS hA hD (fun u_7 H locs hu_7 hP hD hS => ?_)
          have hdr : eqF u_7 k.1 := hu_7
          have hP : va_P (dC, dI) vwCl (gW g0 g1 g2 g3 g4 g5 g6 g7 g8 g9 g10 g11 g12 g13 cI cB k u_7 er pl un 0 (-1) tp 0 rn vs bo ex wr ei dg_3 wo_4 pa_5 ch_6 fi) _ := hP
          have hD : va_D A (gW g0 g1 g2 g3 g4 g5 g6 g7 g8 g9 g10 g11 g12 g13 cI cB k u_7 er pl un 0 (-1) tp 0 rn vs bo ex wr ei dg_3 wo_4 pa_5 ch_6 fi) := hD
          have hL0 : lstR [] er pl un 0 := lst_0 _ _ _
          refine lv_iconst (pc := 55) (v := nI 0) hx hb dX4_install_55 (by decide) ?_
          refine lv_istore_n (pc := 56) (lv' := [(3, .int (nI 0)), (2, .int (nI tn)), (0, .ref g0), (1, .int (nI w))]) hx hb dX4_install_56 rfl hl (by decide) rfl (fun ls hl => ?_)
          refine x_loop (σ := (Nat) × (Nat) × (List Act) × (Nat → Int8) × (Nat → Int32) × (Nat → Int32) × (Nat → Int8) × (Nat)) (Wd := fun x : (Nat) × (Nat) × (List Act) × (Nat → Int8) × (Nat → Int32) × (Nat → Int32) × (Nat → Int8) × (Nat) => match x with | (d, q, L1, dr1, er1, pl1, un1, li1) => gW g0 g1 g2 g3 g4 g5 g6 g7 g8 g9 g10 g11 g12 g13 cI cB k dr1 er1 pl1 un1 li1 (-1) tp 0 rn vs bo ex wr ei dg_3 wo_4 pa_5 ch_6 fi) (Lv := fun x : (Nat) × (Nat) × (List Act) × (Nat → Int8) × (Nat → Int32) × (Nat → Int32) × (Nat → Int8) × (Nat) => match x with | (d, q, L1, dr1, er1, pl1, un1, li1) => [(3, .int (nI q)), (2, .int (nI tn)), (0, .ref g0), (1, .int (nI w))]) (I := fun x : (Nat) × (Nat) × (List Act) × (Nat → Int8) × (Nat → Int32) × (Nat → Int32) × (Nat → Int8) × (Nat) => match x with | (d, q, L1, dr1, er1, pl1, un1, li1) => (eraL w = L1 ++ er5 w d q) ∧ (lstR L1 er1 pl1 un1 li1) ∧ (q + d = 5) ∧ (li1 ≤ q)) (μ := fun x : (Nat) × (Nat) × (List Act) × (Nat → Int8) × (Nat → Int32) × (Nat → Int32) × (Nat → Int8) × (Nat) => match x with | (d, q, L1, dr1, er1, pl1, un1, li1) => d) ?_ (5, 0, [], u_7, er, pl, un, 0) ⟨rfl, hL0, rfl, Nat.le_refl _⟩ hP hD hS (lv_sub hl [0, 1, 2, 3] rfl)
          intro x H locs ls hI hP hD hS hl ih57
          obtain ⟨d, q, L1, dr1, er1, pl1, un1, li1⟩ := x
          obtain ⟨hT, hL1, hd, hli1⟩ : (eraL w = L1 ++ er5 w d q) ∧ (lstR L1 er1 pl1 un1 li1) ∧ (q + d = 5) ∧ (li1 ≤ q) := hI
          have hP : va_P (dC, dI) vwCl (gW g0 g1 g2 g3 g4 g5 g6 g7 g8 g9 g10 g11 g12 g13 cI cB k dr1 er1 pl1 un1 li1 (-1) tp 0 rn vs bo ex wr ei dg_3 wo_4 pa_5 ch_6 fi) _ := hP
          have hD : va_D A (gW g0 g1 g2 g3 g4 g5 g6 g7 g8 g9 g10 g11 g12 g13 cI cB k dr1 er1 pl1 un1 li1 (-1) tp 0 rn vs bo ex wr ei dg_3 wo_4 pa_5 ch_6 fi) := hD
          have hl : lv_has ls 5 [(3, .int (nI q)), (2, .int (nI tn)), (0, .ref g0), (1, .int (nI w))] := hl
          refine lv_iload_n (pc := 57) hx hb dX4_install_57 rfl (lv_at hl 0 rfl) ?_
          refine lv_iconst (pc := 58) (v := nI 5) hx hb dX4_install_58 (by decide) ?_
          refine lv_icmp_ge (pc := 59) (tgt := 77) hx hb dX4_install_59 (by decide) (fun c6 => ?_) (fun c6 => ?_)
          · skip
            have c6 : 5 ≤ q := (nI_leI (a := 5) (b := q) (by omega) (by omega)).mp c6
            have hd0 : d = 0 := by omega
            rw [hd0, show er5 w 0 q = [] from rfl, List.append_nil] at hT
            rw [← hT] at hL1
            refine lv_iconst (pc := 77) (v := nI 0) hx hb dX4_install_77 (by decide) ?_
            refine lv_istore_n (pc := 78) (lv' := [(3, .int (nI 0)), (2, .int (nI tn)), (0, .ref g0), (1, .int (nI w))]) hx hb dX4_install_78 rfl hl (by decide) rfl (fun ls hl => ?_)
            refine x_loop (σ := (Nat) × (Nat) × (List Act) × (Nat → Int8) × (Nat → Int32) × (Nat → Int32) × (Nat → Int8) × (Nat) × (Nat → Int8)) (Wd := fun x : (Nat) × (Nat) × (List Act) × (Nat → Int8) × (Nat → Int32) × (Nat → Int32) × (Nat → Int8) × (Nat) × (Nat → Int8) => match x with | (d2, fr, L2, dr2, er2, pl2, un2, li2, ei2) => gW g0 g1 g2 g3 g4 g5 g6 g7 g8 g9 g10 g11 g12 g13 cI cB k dr2 er2 pl2 un2 li2 (-1) tp 0 rn vs bo ex wr ei2 dg_3 wo_4 pa_5 ch_6 fi) (Lv := fun x : (Nat) × (Nat) × (List Act) × (Nat → Int8) × (Nat → Int32) × (Nat → Int32) × (Nat → Int8) × (Nat) × (Nat → Int8) => match x with | (d2, fr, L2, dr2, er2, pl2, un2, li2, ei2) => [(3, .int (nI fr)), (2, .int (nI tn)), (0, .ref g0), (1, .int (nI w))]) (I := fun x : (Nat) × (Nat) × (List Act) × (Nat → Int8) × (Nat → Int32) × (Nat → Int32) × (Nat → Int8) × (Nat) × (Nat → Int8) => match x with | (d2, fr, L2, dr2, er2, pl2, un2, li2, ei2) => (eraL w ++ rowL (w * 5 * 256) tp tn ((tn + 7) / 8) 0 = L2 ++ rowL (w * 5 * 256) tp tn d2 fr) ∧ (lstR L2 er2 pl2 un2 li2) ∧ (fr + 8 * d2 = 8 * ((tn + 7) / 8)) ∧ (li2 + d2 ≤ 5 + ((tn + 7) / 8))) (μ := fun x : (Nat) × (Nat) × (List Act) × (Nat → Int8) × (Nat → Int32) × (Nat → Int32) × (Nat → Int8) × (Nat) × (Nat → Int8) => match x with | (d2, fr, L2, dr2, er2, pl2, un2, li2, ei2) => d2) ?_ ((tn + 7) / 8, 0, eraL w, dr1, er1, pl1, un1, li1, ei) ⟨rfl, hL1, by omega, by omega⟩ hP hD hS (lv_sub hl [0, 1, 2, 3] rfl)
            intro x H locs ls hI hP hD hS hl ih79
            obtain ⟨d2, fr, L2, dr2, er2, pl2, un2, li2, ei2⟩ := x
            obtain ⟨hT2, hL2, hd2, hli2⟩ : (eraL w ++ rowL (w * 5 * 256) tp tn ((tn + 7) / 8) 0 = L2 ++ rowL (w * 5 * 256) tp tn d2 fr) ∧ (lstR L2 er2 pl2 un2 li2) ∧ (fr + 8 * d2 = 8 * ((tn + 7) / 8)) ∧ (li2 + d2 ≤ 5 + ((tn + 7) / 8)) := hI
            have hP : va_P (dC, dI) vwCl (gW g0 g1 g2 g3 g4 g5 g6 g7 g8 g9 g10 g11 g12 g13 cI cB k dr2 er2 pl2 un2 li2 (-1) tp 0 rn vs bo ex wr ei2 dg_3 wo_4 pa_5 ch_6 fi) _ := hP
            have hD : va_D A (gW g0 g1 g2 g3 g4 g5 g6 g7 g8 g9 g10 g11 g12 g13 cI cB k dr2 er2 pl2 un2 li2 (-1) tp 0 rn vs bo ex wr ei2 dg_3 wo_4 pa_5 ch_6 fi) := hD
            have hl : lv_has ls 5 [(3, .int (nI fr)), (2, .int (nI tn)), (0, .ref g0), (1, .int (nI w))] := hl
            refine lv_iload_n (pc := 79) hx hb dX4_install_79 rfl (lv_at hl 0 rfl) ?_
            refine lv_iload_n (pc := 80) hx hb dX4_install_80 rfl (lv_at hl 1 rfl) ?_
            refine lv_icmp_ge (pc := 81) (tgt := 163) hx hb dX4_install_81 (by decide) (fun c7 => ?_) (fun c7 => ?_)
            · skip
              have c7 : tn ≤ fr := (nI_leI (a := tn) (b := fr) (by omega) (by omega)).mp c7
              have hd0 : d2 = 0 := by omega
              rw [hd0, show rowL (w * 5 * 256) tp tn 0 fr = [] from rfl, List.append_nil] at hT2
              have hLI : L2 = insL w tp tn := hT2.symm
              rw [hLI] at hL2
              refine lv_aload_n (pc := 163) hx hb dX4_install_163 rfl (lv_at hl 2 rfl) ?_
              refine x_wria (pc := 164) (va_runV (As := []) (rest := []) ⟨hx, hb, hml, hown, hts⟩ (kX4_does l dC dI tt cI cB _ g0 g1 g2 g3 g4 g5 g6 g7 g8 g9 g10 g11 g12 g13 k dr2 er2 pl2 un2 li2 (-1) tp 0 rn vs bo ex wr ei2 dg_3 wo_4 pa_5 ch_6 fi (insL w tp tn) false hk hL2 (by omega) rfl) (cwV 0 hts gX4_install_X4_does rfl rfl rfl (by decide +kernel) ⟨Nat.le_of_ble_eq_true rfl, Nat.le_of_ble_eq_true rfl⟩) (x_preVa hS hE hK hP hD (x_all hD hS hA) xR0 4 0 rfl rfl) rfl rfl hl.1 rfl (lv_room (Nat.le_of_ble_eq_true rfl)) dX4_install_164 ⟨Nat.le_of_ble_eq_true rfl, Nat.le_of_ble_eq_true rfl⟩) hS hA hD (fun r_9 u_8 H locs hu_8 hP hD hS => ?_)
              obtain ⟨k_11, ex_12, rn_13⟩ := u_8
              obtain ⟨hr_9, ek_11, eex_12, ern_13⟩ : r_9 = bI (kActs (insL w tp tn) k).2 ∧ k_11 = (kActs (insL w tp tn) k).1 ∧ ex_12 = (if false = true ∧ 0 < (insL w tp tn).length ∧ (kActs (insL w tp tn) k).2 = true then ex + nI 1 else ex) ∧ rn_13 = (if (kActs (insL w tp tn) k).2 = true then rn else false) := hu_8
              obtain ⟨b_10, eb_10⟩ : ∃ z, z = (kActs (insL w tp tn) k).2 := ⟨_, rfl⟩
              rw [← eb_10] at hr_9
              subst hr_9
              have hP : va_P (dC, dI) vwCl (gW g0 g1 g2 g3 g4 g5 g6 g7 g8 g9 g10 g11 g12 g13 cI cB k_11 dr2 er2 pl2 un2 li2 (-1) tp 0 rn_13 vs bo ex_12 wr ei2 dg_3 wo_4 pa_5 ch_6 fi) _ := hP
              have hD : va_D A (gW g0 g1 g2 g3 g4 g5 g6 g7 g8 g9 g10 g11 g12 g13 cI cB k_11 dr2 er2 pl2 un2 li2 (-1) tp 0 rn_13 vs bo ex_12 wr ei2 dg_3 wo_4 pa_5 ch_6 fi) := hD
              refine lv_if_eq (pc := 167) (tgt := 174) hx hb dX4_install_167 (by decide) (fun c9 => ?_) (fun c9 => ?_)
              · skip
                have c9 : b_10 = false := bI_0.mp c9
                refine lv_bipush (pc := 174) (v := (-9)) hx hb dX4_install_174 (by decide) ?_
                have f1 : (kActs (insL w tp tn) k).2 = false := eb_10.symm.trans c9
                exact W.iret (v := (-9)) hx hb hr (fun t ht hW => ⟨⟨(-9), (k_11, dr2, er2, pl2, un2, li2, (-1), rn_13, ex_12, ei2, vs, bo, wr, dg_3, wo_4, pa_5, ch_6), rfl, ⟨by rw [insR, if_neg (by rw [c1]; decide), if_neg (by rw [hsl]; decide), if_neg (fun z => c4 ((dueN_5 _).mpr z)), hcl, if_neg (by rw [f1]; decide), ← ek_11, ern_13, if_neg (by rw [f1]; decide)]; rfl, by show ex_12 = ex; rw [eex_12, if_neg (fun z => absurd z.1 (by decide))], rfl, rfl⟩, by show va_P _ _ _ t.heap; rw [ht]; exact hP, va_K.moved hW.alike hK, hD⟩, hS.F ht⟩) hS.2.2 dX4_install_176
              · skip
                have c9 : b_10 = true := bI_1.mp c9
                refine lv_iload_n (pc := 170) hx hb dX4_install_170 rfl (lv_at hl 1 rfl) ?_
                refine lv_goto (pc := 171) (tgt := 176) hx hb dX4_install_171 (by decide) ?_
                have f1 : (kActs (insL w tp tn) k).2 = true := eb_10.symm.trans c9
                exact W.iret (v := nI tn) hx hb hr (fun t ht hW => ⟨⟨nI tn, (k_11, dr2, er2, pl2, un2, li2, (-1), rn_13, ex_12, ei2, vs, bo, wr, dg_3, wo_4, pa_5, ch_6), rfl, ⟨by rw [insR, if_neg (by rw [c1]; decide), if_neg (by rw [hsl]; decide), if_neg (fun z => c4 ((dueN_5 _).mpr z)), hcl, if_pos f1, ← ek_11, ern_13, if_pos f1, if_neg c5, if_neg c5], by show ex_12 = ex; rw [eex_12, if_neg (fun z => absurd z.1 (by decide))], rfl, rfl⟩, by show va_P _ _ _ t.heap; rw [ht]; exact hP, va_K.moved hW.alike hK, hD⟩, hS.F ht⟩) hS.2.2 dX4_install_176
            · skip
              have c7 : ¬ tn ≤ fr := fun z => c7 ((nI_leI (a := tn) (b := fr) (by omega) (by omega)).mpr z)
              obtain ⟨d2, rfl⟩ : ∃ z, d2 = z + 1 := ⟨d2 - 1, by omega⟩
              refine lv_iconst (pc := 84) (v := nI 0) hx hb dX4_install_84 (by decide) ?_
              refine lv_istore (pc := 85) (lv' := [(4, .int (nI 0)), (3, .int (nI fr)), (2, .int (nI tn)), (0, .ref g0), (1, .int (nI w))]) hx hb dX4_install_85 hl (by decide) rfl (fun ls hl => ?_)
              rw [← cpF_0 ei2 (unitG tp fr tn)] at hP hD
              refine x_loop (σ := (Nat)) (Wd := fun i : (Nat) => gW g0 g1 g2 g3 g4 g5 g6 g7 g8 g9 g10 g11 g12 g13 cI cB k dr2 er2 pl2 un2 li2 (-1) tp 0 rn vs bo ex wr (cpF ei2 (unitG tp fr tn) i) dg_3 wo_4 pa_5 ch_6 fi) (Lv := fun i : (Nat) => [(4, .int (nI i)), (3, .int (nI fr)), (2, .int (nI tn)), (0, .ref g0), (1, .int (nI w))]) (I := fun i : (Nat) => (i ≤ 8)) (μ := fun i : (Nat) => 8 - i) ?_ (0) (by omega) hP hD hS (lv_sub hl [0, 1, 2, 3, 4] rfl)
              intro i H locs ls hI hP hD hS hl ih87
              have hi : (i ≤ 8) := hI
              have hP : va_P (dC, dI) vwCl (gW g0 g1 g2 g3 g4 g5 g6 g7 g8 g9 g10 g11 g12 g13 cI cB k dr2 er2 pl2 un2 li2 (-1) tp 0 rn vs bo ex wr (cpF ei2 (unitG tp fr tn) i) dg_3 wo_4 pa_5 ch_6 fi) _ := hP
              have hD : va_D A (gW g0 g1 g2 g3 g4 g5 g6 g7 g8 g9 g10 g11 g12 g13 cI cB k dr2 er2 pl2 un2 li2 (-1) tp 0 rn vs bo ex wr (cpF ei2 (unitG tp fr tn) i) dg_3 wo_4 pa_5 ch_6 fi) := hD
              have hl : lv_has ls 5 [(4, .int (nI i)), (3, .int (nI fr)), (2, .int (nI tn)), (0, .ref g0), (1, .int (nI w))] := hl
              refine lv_iload (pc := 87) hx hb dX4_install_87 (lv_at hl 0 rfl) ?_
              refine lv_bipush (pc := 89) (v := nI 8) hx hb dX4_install_89 (by decide) ?_
              refine lv_icmp_ge (pc := 91) (tgt := 128) hx hb dX4_install_91 (by decide) (fun c8 => ?_) (fun c8 => ?_)
              · skip
                have c8 : 8 ≤ i := (nI_leI (a := 8) (b := i) (by omega) (by omega)).mp c8
                have hi9 : i = 8 := by omega
                subst hi9
                have hei : ∀ z, z < 8 → cpF ei2 (unitG tp fr tn) 8 (0 + z) = unitG tp fr tn z := fun z hz => by rw [Nat.zero_add]; unfold cpF; rw [if_pos hz]
                have hbq : blkTo (fun z => cpF ei2 (unitG tp fr tn) 8 (0 + z)) 8 = blkTo (unitG tp fr tn) 8 := eqTo_c hei (fun _ _ => rfl)
                have hP : va_P (dC, dI) vwCl (gW g0 g1 g2 g3 g4 g5 g6 g7 g8 g9 g10 g11 g12 g13 cI cB k dr2 er2 pl2 un2 li2 (-1) tp 0 rn vs bo ex wr (cpF ei2 (unitG tp fr tn) 8) dg_3 wo_4 pa_5 ch_6 fi) _ := hP
                have hD : va_D A (gW g0 g1 g2 g3 g4 g5 g6 g7 g8 g9 g10 g11 g12 g13 cI cB k dr2 er2 pl2 un2 li2 (-1) tp 0 rn vs bo ex wr (cpF ei2 (unitG tp fr tn) 8) dg_3 wo_4 pa_5 ch_6 fi) := hD
                refine lv_aload_n (pc := 128) hx hb dX4_install_128 rfl (lv_at hl 3 rfl) ?_
                refine va_get (pc := 129) (D := (dC, dI)) (ci := 4) (v := .ref g8) (C := RX4) (T := TX4) (N := 26) hx hb hts (by decide +kernel) hown hK hP 0 rfl rfl 20 (by decide) (hts (.fieldLink RX4 36 "ScratchSwapModel" "eight" "[B") (by decide +kernel)) (fun _ h9 => h9) rfl dX4_install_129 ?_
                refine lv_iconst (pc := 132) (v := nI 0) hx hb dX4_install_132 (by decide) ?_
                refine x_roi (pc := 133) (va_runS (As := [.ref g8, .int (nI 0)]) (rest := []) ⟨hx, hb, hml, hown, hts⟩ (kX4_isBlank l dC dI tt cI cB _ g8 8 (cpF ei2 (unitG tp fr tn) 8) 0 (by omega) (by omega)) (va_cwS 2 hts gX4_install_X4_isBlank rfl rfl rfl (by decide +kernel) ⟨Nat.le_of_ble_eq_true rfl, Nat.le_of_ble_eq_true rfl⟩) (x_preS hS hE hK hP hD [8] rfl (by decide) (x_ro hS hA) xR0) rfl rfl hl.1 rfl (lv_room (Nat.le_of_ble_eq_true rfl)) dX4_install_133 ⟨Nat.le_of_ble_eq_true rfl, Nat.le_of_ble_eq_true rfl⟩) hS hA hP (fun r_14 H locs hr_14 hP hS => ?_)
                subst hr_14
                refine lv_if_ne (pc := 136) (tgt := 157) hx hb dX4_install_136 (by decide) (fun cb => ?_) (fun cb => ?_)
                · skip
                  have cb : (blkTo (fun z => (cpF ei2 (unitG tp fr tn) 8) (0 + z)) 8) = true := bI_1.mp cb
                  have hbl : blkTo (unitG tp fr tn) 8 = true := hbq.symm.trans cb
                  refine lv_iinc (pc := 157) (v := nI (fr + 8)) (lv' := [(3, .int (nI (fr + 8))), (4, .int (nI 8)), (2, .int (nI tn)), (0, .ref g0), (1, .int (nI w))]) hx hb dX4_install_157 hl (k := 1) rfl (nI_inc fr 8) (by decide) rfl (fun ls hl => ?_)
                  refine lv_goto (pc := 160) (tgt := 79) hx hb dX4_install_160 (by decide) ?_
                  exact ih79 (d2, fr + 8, L2, dr2, er2, pl2, un2, li2, cpF ei2 (unitG tp fr tn) 8) H locs ls ⟨by rw [hT2, rowL_s, unitL, if_pos hbl, List.nil_append], hL2, by omega, by omega⟩ (by first | omega | (simp only []; omega)) hP hD hS (lv_sub hl [0, 2, 3, 4] rfl)
                · skip
                  have cb : (blkTo (fun z => (cpF ei2 (unitG tp fr tn) 8) (0 + z)) 8) = false := bI_0.mp cb
                  have hbl : blkTo (unitG tp fr tn) 8 = false := hbq.symm.trans cb
                  refine lv_aload_n (pc := 139) hx hb dX4_install_139 rfl (lv_at hl 3 rfl) ?_
                  refine lv_iconst (pc := 140) (v := nI 5) hx hb dX4_install_140 (by decide) ?_
                  refine lv_iload_n (pc := 141) hx hb dX4_install_141 rfl (lv_at hl 4 rfl) ?_
                  refine lv_imul (pc := 142) hx hb dX4_install_142 ?_
                  refine lv_cv (x_mulc 5 w) ?_
                  refine lv_iconst (pc := 143) (v := nI 0) hx hb dX4_install_143 (by decide) ?_
                  refine x_roi (pc := 144) (va_runS (As := [.int (nI (w * 5)), .int (nI 0)]) (rest := [.ref g0]) ⟨hx, hb, hml, hown, hts⟩ (kX4_unit l dC dI tt cI cB _ (w * 5) 0) (va_cwS 2 hts gX4_install_X4_unit rfl rfl rfl (by decide +kernel) ⟨Nat.le_of_ble_eq_true rfl, Nat.le_of_ble_eq_true rfl⟩) (x_preS hS hE hK hP hD [] rfl (by decide) (x_ro hS hA) xR0) rfl rfl hl.1 rfl (lv_room (Nat.le_of_ble_eq_true rfl)) dX4_install_144 ⟨Nat.le_of_ble_eq_true rfl, Nat.le_of_ble_eq_true rfl⟩) hS hA hP (fun r_15 H locs hr_15 hP hS => ?_)
                  subst hr_15
                  refine lv_iload_n (pc := 147) hx hb dX4_install_147 rfl (lv_at hl 1 rfl) ?_
                  refine lv_iadd (pc := 148) hx hb dX4_install_148 ?_
                  refine lv_cv (nI_add ((w * 5) * 256 + 0 * 8) fr) ?_
                  refine lv_cv (congrArg nI (show ((w * 5) * 256 + 0 * 8) + fr = w * 5 * 256 + fr by omega)) ?_
                  refine lv_aload_n (pc := 149) hx hb dX4_install_149 rfl (lv_at hl 3 rfl) ?_
                  refine va_get (pc := 150) (D := (dC, dI)) (ci := 4) (v := .ref g8) (C := RX4) (T := TX4) (N := 26) hx hb hts (by decide +kernel) hown hK hP 0 rfl rfl 20 (by decide) (hts (.fieldLink RX4 36 "ScratchSwapModel" "eight" "[B") (by decide +kernel)) (fun _ h9 => h9) rfl dX4_install_150 ?_
                  refine lv_iconst (pc := 153) (v := nI 0) hx hb dX4_install_153 (by decide) ?_
                  refine x_wrva (pc := 154) (va_runV (As := [.int (nI (w * 5 * 256 + fr)), .ref g8, .int (nI 0)]) (rest := []) ⟨hx, hb, hml, hown, hts⟩ (kX4_writeE l dC dI tt cI cB _ g0 g1 g2 g3 g4 g5 g6 g7 g8 g9 g10 g11 g12 g13 k dr2 er2 pl2 un2 li2 (-1) tp 0 rn vs bo ex wr (cpF ei2 (unitG tp fr tn) 8) dg_3 wo_4 pa_5 ch_6 fi L2 (w * 5 * 256 + fr) 0 (unitG tp fr tn) hL2 (by omega) hei (by omega) (by omega)) (cwV 3 hts gX4_install_X4_write rfl rfl rfl (by decide +kernel) ⟨Nat.le_of_ble_eq_true rfl, Nat.le_of_ble_eq_true rfl⟩) (x_preVa hS hE hK hP hD (x_all hD hS hA) xR0 4 0 rfl rfl) rfl rfl hl.1 rfl (lv_room (Nat.le_of_ble_eq_true rfl)) dX4_install_154 ⟨Nat.le_of_ble_eq_true rfl, Nat.le_of_ble_eq_true rfl⟩) hS hA hD (fun u_16 H locs hu_16 hP hD hS => ?_)
                  obtain ⟨dr_17, er_18, pl_19, un_20, li_21⟩ := u_16
                  obtain ⟨hL_22, hd_23⟩ : lstR (L2 ++ ([Sum.inr (w * 5 * 256 + fr, unitG tp fr tn)])) er_18 pl_19 un_20 li_21 ∧ dr_17 = andFn dr2 (w * 5 * 256 + fr) (unitG tp fr tn) 8 := hu_16
                  have hP : va_P (dC, dI) vwCl (gW g0 g1 g2 g3 g4 g5 g6 g7 g8 g9 g10 g11 g12 g13 cI cB k dr_17 er_18 pl_19 un_20 li_21 (-1) tp 0 rn vs bo ex wr (cpF ei2 (unitG tp fr tn) 8) dg_3 wo_4 pa_5 ch_6 fi) _ := hP
                  have hD : va_D A (gW g0 g1 g2 g3 g4 g5 g6 g7 g8 g9 g10 g11 g12 g13 cI cB k dr_17 er_18 pl_19 un_20 li_21 (-1) tp 0 rn vs bo ex wr (cpF ei2 (unitG tp fr tn) 8) dg_3 wo_4 pa_5 ch_6 fi) := hD
                  have hlen_li_21 : li_21 = li2 + 1 := by rw [hL_22.1, List.length_append, ← hL2.1]; rfl
                  refine lv_iinc (pc := 157) (v := nI (fr + 8)) (lv' := [(3, .int (nI (fr + 8))), (4, .int (nI 8)), (2, .int (nI tn)), (0, .ref g0), (1, .int (nI w))]) hx hb dX4_install_157 hl (k := 1) rfl (nI_inc fr 8) (by decide) rfl (fun ls hl => ?_)
                  refine lv_goto (pc := 160) (tgt := 79) hx hb dX4_install_160 (by decide) ?_
                  exact ih79 (d2, fr + 8, L2 ++ ([Sum.inr (w * 5 * 256 + fr, unitG tp fr tn)]), dr_17, er_18, pl_19, un_20, li_21, cpF ei2 (unitG tp fr tn) 8) H locs ls ⟨by rw [hT2, rowL_s, unitL, if_neg (by rw [hbl]; decide), List.append_assoc], hL_22, by omega, by omega⟩ (by first | omega | (simp only []; omega)) hP hD hS (lv_sub hl [0, 2, 3, 4] rfl)
              · skip
                have c8 : ¬ 8 ≤ i := fun z => c8 ((nI_leI (a := 8) (b := i) (by omega) (by omega)).mpr z)
                refine lv_aload_n (pc := 94) hx hb dX4_install_94 rfl (lv_at hl 3 rfl) ?_
                refine va_get (pc := 95) (D := (dC, dI)) (ci := 4) (v := .ref g8) (C := RX4) (T := TX4) (N := 26) hx hb hts (by decide +kernel) hown hK hP 0 rfl rfl 20 (by decide) (hts (.fieldLink RX4 36 "ScratchSwapModel" "eight" "[B") (by decide +kernel)) (fun _ h9 => h9) rfl dX4_install_95 ?_
                refine lv_iload (pc := 98) hx hb dX4_install_98 (lv_at hl 0 rfl) ?_
                refine lv_iload_n (pc := 100) hx hb dX4_install_100 rfl (lv_at hl 1 rfl) ?_
                refine lv_iload (pc := 101) hx hb dX4_install_101 (lv_at hl 0 rfl) ?_
                refine lv_iadd (pc := 103) hx hb dX4_install_103 ?_
                refine lv_cv (nI_add fr i) ?_
                refine lv_iload_n (pc := 104) hx hb dX4_install_104 rfl (lv_at hl 2 rfl) ?_
                refine lv_icmp_ge (pc := 105) (tgt := 120) hx hb dX4_install_105 (by decide) (fun ca => ?_) (fun ca => ?_)
                · skip
                  have ca : tn ≤ (fr + i) := (nI_leI (a := tn) (b := (fr + i)) (by omega) (by omega)).mp ca
                  refine lv_iconst (pc := 120) (v := (-1)) hx hb dX4_install_120 (by decide) ?_
                  refine lv_cv (show (-1 : Int32) = Int8.toInt32 (unitG tp fr tn i) by unfold unitG; rw [if_neg (by omega)]; decide) ?_
                  refine x_sst (pc := 121) (k := i) (F := cpF ei2 (unitG tp fr tn) i) hx hb hK hP hD hS 8 1 rfl rfl (by omega) (by decide) dX4_install_121 (fun H locs hP hD hS => ?_)
                  have hP : va_P (dC, dI) vwCl (gW g0 g1 g2 g3 g4 g5 g6 g7 g8 g9 g10 g11 g12 g13 cI cB k dr2 er2 pl2 un2 li2 (-1) tp 0 rn vs bo ex wr (va_up (cpF ei2 (unitG tp fr tn) i) i (unitG tp fr tn i)) dg_3 wo_4 pa_5 ch_6 fi) _ := hP
                  have hD : va_D A (gW g0 g1 g2 g3 g4 g5 g6 g7 g8 g9 g10 g11 g12 g13 cI cB k dr2 er2 pl2 un2 li2 (-1) tp 0 rn vs bo ex wr (va_up (cpF ei2 (unitG tp fr tn) i) i (unitG tp fr tn i)) dg_3 wo_4 pa_5 ch_6 fi) := hD
                  refine lv_iinc (pc := 122) (v := nI (i + 1)) (lv' := [(4, .int (nI (i + 1))), (3, .int (nI fr)), (2, .int (nI tn)), (0, .ref g0), (1, .int (nI w))]) hx hb dX4_install_122 hl (k := 0) rfl (nI_inc i 1) (by decide) rfl (fun ls hl => ?_)
                  refine lv_goto (pc := 125) (tgt := 87) hx hb dX4_install_125 (by decide) ?_
                  rw [cpF_step] at hP hD
                  exact ih87 (i + 1) H locs ls (by omega) (by first | omega | (simp only []; omega)) hP hD hS (lv_sub hl [0, 1, 2, 3, 4] rfl)
                · skip
                  have ca : ¬ tn ≤ (fr + i) := fun z => ca ((nI_leI (a := tn) (b := (fr + i)) (by omega) (by omega)).mpr z)
                  refine lv_aload_n (pc := 108) hx hb dX4_install_108 rfl (lv_at hl 3 rfl) ?_
                  refine va_get (pc := 109) (D := (dC, dI)) (ci := 4) (v := .ref g6) (C := RX4) (T := TX4) (N := 26) hx hb hts (by decide +kernel) hown hK hP 0 rfl rfl 7 (by decide) (hts (.fieldLink RX4 26 "ScratchSwapModel" "tape" "[B") (by decide +kernel)) (fun _ h9 => h9) rfl dX4_install_109 ?_
                  refine lv_iload_n (pc := 112) hx hb dX4_install_112 rfl (lv_at hl 1 rfl) ?_
                  refine lv_iload (pc := 113) hx hb dX4_install_113 (lv_at hl 0 rfl) ?_
                  refine lv_iadd (pc := 115) hx hb dX4_install_115 ?_
                  refine lv_cv (nI_add fr i) ?_
                  refine x_bald (pc := 116) (k := fr + i) (f := fun j => Int8.toInt32 (tp j)) hx hb hK hP 6 1 rfl rfl (by omega) (by decide) dX4_install_116 ?_
                  refine lv_goto (pc := 117) (tgt := 121) hx hb dX4_install_117 (by decide) ?_
                  refine lv_cv (congrArg Int8.toInt32 (show _ = unitG tp fr tn i by unfold unitG; rw [if_pos (by omega)])) ?_
                  refine x_sst (pc := 121) (k := i) (F := cpF ei2 (unitG tp fr tn) i) hx hb hK hP hD hS 8 1 rfl rfl (by omega) (by decide) dX4_install_121 (fun H locs hP hD hS => ?_)
                  have hP : va_P (dC, dI) vwCl (gW g0 g1 g2 g3 g4 g5 g6 g7 g8 g9 g10 g11 g12 g13 cI cB k dr2 er2 pl2 un2 li2 (-1) tp 0 rn vs bo ex wr (va_up (cpF ei2 (unitG tp fr tn) i) i (unitG tp fr tn i)) dg_3 wo_4 pa_5 ch_6 fi) _ := hP
                  have hD : va_D A (gW g0 g1 g2 g3 g4 g5 g6 g7 g8 g9 g10 g11 g12 g13 cI cB k dr2 er2 pl2 un2 li2 (-1) tp 0 rn vs bo ex wr (va_up (cpF ei2 (unitG tp fr tn) i) i (unitG tp fr tn i)) dg_3 wo_4 pa_5 ch_6 fi) := hD
                  refine lv_iinc (pc := 122) (v := nI (i + 1)) (lv' := [(4, .int (nI (i + 1))), (3, .int (nI fr)), (2, .int (nI tn)), (0, .ref g0), (1, .int (nI w))]) hx hb dX4_install_122 hl (k := 0) rfl (nI_inc i 1) (by decide) rfl (fun ls hl => ?_)
                  refine lv_goto (pc := 125) (tgt := 87) hx hb dX4_install_125 (by decide) ?_
                  rw [cpF_step] at hP hD
                  exact ih87 (i + 1) H locs ls (by omega) (by first | omega | (simp only []; omega)) hP hD hS (lv_sub hl [0, 1, 2, 3, 4] rfl)
          · skip
            have c6 : ¬ 5 ≤ q := fun z => c6 ((nI_leI (a := 5) (b := q) (by omega) (by omega)).mpr z)
            obtain ⟨d, rfl⟩ : ∃ z, d = z + 1 := ⟨d - 1, by omega⟩
            refine lv_aload_n (pc := 62) hx hb dX4_install_62 rfl (lv_at hl 2 rfl) ?_
            refine lv_iconst (pc := 63) (v := nI 5) hx hb dX4_install_63 (by decide) ?_
            refine lv_iload_n (pc := 64) hx hb dX4_install_64 rfl (lv_at hl 3 rfl) ?_
            refine lv_imul (pc := 65) hx hb dX4_install_65 ?_
            refine lv_cv (x_mulc 5 w) ?_
            refine lv_iload_n (pc := 66) hx hb dX4_install_66 rfl (lv_at hl 0 rfl) ?_
            refine lv_iadd (pc := 67) hx hb dX4_install_67 ?_
            refine lv_cv (nI_add (w * 5) q) ?_
            refine x_wrva (pc := 68) (va_runV (As := [.int (nI ((w * 5) + q))]) (rest := []) ⟨hx, hb, hml, hown, hts⟩ (kX4_erase l dC dI tt cI cB _ g0 g1 g2 g3 g4 g5 g6 g7 g8 g9 g10 g11 g12 g13 k dr1 er1 pl1 un1 li1 (-1) tp 0 rn vs bo ex wr ei dg_3 wo_4 pa_5 ch_6 fi L1 ((w * 5) + q) hL1 (by omega) (by omega)) (cwV 1 hts gX4_install_X4_erase rfl rfl rfl (by decide +kernel) ⟨Nat.le_of_ble_eq_true rfl, Nat.le_of_ble_eq_true rfl⟩) (x_preVa hS hE hK hP hD (x_all hD hS hA) xR0 4 0 rfl rfl) rfl rfl hl.1 rfl (lv_room (Nat.le_of_ble_eq_true rfl)) dX4_install_68 ⟨Nat.le_of_ble_eq_true rfl, Nat.le_of_ble_eq_true rfl⟩) hS hA hD (fun u_24 H locs hu_24 hP hD hS => ?_)
            obtain ⟨dr_25, er_26, pl_27, un_28, li_29⟩ := u_24
            obtain ⟨hL_30, hd_31⟩ : lstR (L1 ++ ([Sum.inl ((w * 5) + q)])) er_26 pl_27 un_28 li_29 ∧ dr_25 = fillF dr1 (((w * 5) + q) * 256) 256 := hu_24
            have hP : va_P (dC, dI) vwCl (gW g0 g1 g2 g3 g4 g5 g6 g7 g8 g9 g10 g11 g12 g13 cI cB k dr_25 er_26 pl_27 un_28 li_29 (-1) tp 0 rn vs bo ex wr ei dg_3 wo_4 pa_5 ch_6 fi) _ := hP
            have hD : va_D A (gW g0 g1 g2 g3 g4 g5 g6 g7 g8 g9 g10 g11 g12 g13 cI cB k dr_25 er_26 pl_27 un_28 li_29 (-1) tp 0 rn vs bo ex wr ei dg_3 wo_4 pa_5 ch_6 fi) := hD
            have hlen_li_29 : li_29 = li1 + 1 := by rw [hL_30.1, List.length_append, ← hL1.1]; rfl
            refine lv_iinc (pc := 71) (v := nI (q + 1)) (lv' := [(3, .int (nI (q + 1))), (2, .int (nI tn)), (0, .ref g0), (1, .int (nI w))]) hx hb dX4_install_71 hl (k := 0) rfl (nI_inc q 1) (by decide) rfl (fun ls hl => ?_)
            refine lv_goto (pc := 74) (tgt := 57) hx hb dX4_install_74 (by decide) ?_
            exact ih57 (d, q + 1, L1 ++ ([Sum.inl ((w * 5) + q)]), dr_25, er_26, pl_27, un_28, li_29) H locs ls ⟨by rw [hT, er5_s, List.append_assoc], hL_30, by omega, by omega⟩ (by first | omega | (simp only []; omega)) hP hD hS (lv_sub hl [0, 1, 2, 3] rfl)
        · skip
          have c5 : w = 0 := (nI_eq (a := w) (b := 0) (by omega) (by omega)).mp c5
          refine lv_aload_n (pc := 46) hx hb dX4_install_46 rfl (lv_at hl 1 rfl) ?_
          refine lv_iconst (pc := 47) (v := nI 0) hx hb dX4_install_47 (by decide) ?_
          refine lv_cv (show nI 0 = bI false from rfl) ?_
          refine va_put (pc := 48) (D := (dC, dI)) (ci := 4) (v := .int (bI false)) (ty := .boolean) (C := RX4) (T := TX4) (N := 26) hx hb hts (by decide +kernel) tyX4 tyX4_ok nmX4 hown hK hP hD hS 0 rfl rfl 10 (by decide) (hts (.fieldLink RX4 92 "ScratchSwapModel" "runs" "Z") (by decide +kernel)) (fun _ h9 => h9) rfl (by decide +kernel) (nbI false) (fbI false) (Nat.le_of_ble_eq_true rfl) dX4_install_48 (fun H locs hP hD hS => ?_)
          have hP : va_P (dC, dI) vwCl (gW g0 g1 g2 g3 g4 g5 g6 g7 g8 g9 g10 g11 g12 g13 cI cB k dr er pl un li ov tp 0 false vs bo ex wr ei dg_3 wo_4 pa_5 ch_6 fi) _ := hP
          have hD : va_D A (gW g0 g1 g2 g3 g4 g5 g6 g7 g8 g9 g10 g11 g12 g13 cI cB k dr er pl un li ov tp 0 false vs bo ex wr ei dg_3 wo_4 pa_5 ch_6 fi) := hD
          refine lv_aload_n (pc := 51) hx hb dX4_install_51 rfl (lv_at hl 1 rfl) ?_
          refine x_wrva (pc := 52) (va_runV (As := []) (rest := []) ⟨hx, hb, hml, hown, hts⟩ (kX4_begins l dC dI tt cI cB _ g0 g1 g2 g3 g4 g5 g6 g7 g8 g9 g10 g11 g12 g13 k dr er pl un li ov tp 0 false vs bo ex wr ei dg_3 wo_4 pa_5 ch_6 fi ) (cwV 0 hts gX4_install_X4_begins rfl rfl rfl (by decide +kernel) ⟨Nat.le_of_ble_eq_true rfl, Nat.le_of_ble_eq_true rfl⟩) (x_preVa hS hE hK hP hD (x_all hD hS hA) xR0 4 0 rfl rfl) rfl rfl hl.1 rfl (lv_room (Nat.le_of_ble_eq_true rfl)) dX4_install_52 ⟨Nat.le_of_ble_eq_true rfl, Nat.le_of_ble_eq_true rfl⟩) hS hA hD (fun u_32 H locs hu_32 hP hD hS => ?_)
          have hdr : eqF u_32 k.1 := hu_32
          have hP : va_P (dC, dI) vwCl (gW g0 g1 g2 g3 g4 g5 g6 g7 g8 g9 g10 g11 g12 g13 cI cB k u_32 er pl un 0 (-1) tp 0 false vs bo ex wr ei dg_3 wo_4 pa_5 ch_6 fi) _ := hP
          have hD : va_D A (gW g0 g1 g2 g3 g4 g5 g6 g7 g8 g9 g10 g11 g12 g13 cI cB k u_32 er pl un 0 (-1) tp 0 false vs bo ex wr ei dg_3 wo_4 pa_5 ch_6 fi) := hD
          have hL0 : lstR [] er pl un 0 := lst_0 _ _ _
          refine lv_iconst (pc := 55) (v := nI 0) hx hb dX4_install_55 (by decide) ?_
          refine lv_istore_n (pc := 56) (lv' := [(3, .int (nI 0)), (2, .int (nI tn)), (0, .ref g0), (1, .int (nI w))]) hx hb dX4_install_56 rfl hl (by decide) rfl (fun ls hl => ?_)
          refine x_loop (σ := (Nat) × (Nat) × (List Act) × (Nat → Int8) × (Nat → Int32) × (Nat → Int32) × (Nat → Int8) × (Nat)) (Wd := fun x : (Nat) × (Nat) × (List Act) × (Nat → Int8) × (Nat → Int32) × (Nat → Int32) × (Nat → Int8) × (Nat) => match x with | (d, q, L1, dr1, er1, pl1, un1, li1) => gW g0 g1 g2 g3 g4 g5 g6 g7 g8 g9 g10 g11 g12 g13 cI cB k dr1 er1 pl1 un1 li1 (-1) tp 0 false vs bo ex wr ei dg_3 wo_4 pa_5 ch_6 fi) (Lv := fun x : (Nat) × (Nat) × (List Act) × (Nat → Int8) × (Nat → Int32) × (Nat → Int32) × (Nat → Int8) × (Nat) => match x with | (d, q, L1, dr1, er1, pl1, un1, li1) => [(3, .int (nI q)), (2, .int (nI tn)), (0, .ref g0), (1, .int (nI w))]) (I := fun x : (Nat) × (Nat) × (List Act) × (Nat → Int8) × (Nat → Int32) × (Nat → Int32) × (Nat → Int8) × (Nat) => match x with | (d, q, L1, dr1, er1, pl1, un1, li1) => (eraL w = L1 ++ er5 w d q) ∧ (lstR L1 er1 pl1 un1 li1) ∧ (q + d = 5) ∧ (li1 ≤ q)) (μ := fun x : (Nat) × (Nat) × (List Act) × (Nat → Int8) × (Nat → Int32) × (Nat → Int32) × (Nat → Int8) × (Nat) => match x with | (d, q, L1, dr1, er1, pl1, un1, li1) => d) ?_ (5, 0, [], u_32, er, pl, un, 0) ⟨rfl, hL0, rfl, Nat.le_refl _⟩ hP hD hS (lv_sub hl [0, 1, 2, 3] rfl)
          intro x H locs ls hI hP hD hS hl ih57
          obtain ⟨d, q, L1, dr1, er1, pl1, un1, li1⟩ := x
          obtain ⟨hT, hL1, hd, hli1⟩ : (eraL w = L1 ++ er5 w d q) ∧ (lstR L1 er1 pl1 un1 li1) ∧ (q + d = 5) ∧ (li1 ≤ q) := hI
          have hP : va_P (dC, dI) vwCl (gW g0 g1 g2 g3 g4 g5 g6 g7 g8 g9 g10 g11 g12 g13 cI cB k dr1 er1 pl1 un1 li1 (-1) tp 0 false vs bo ex wr ei dg_3 wo_4 pa_5 ch_6 fi) _ := hP
          have hD : va_D A (gW g0 g1 g2 g3 g4 g5 g6 g7 g8 g9 g10 g11 g12 g13 cI cB k dr1 er1 pl1 un1 li1 (-1) tp 0 false vs bo ex wr ei dg_3 wo_4 pa_5 ch_6 fi) := hD
          have hl : lv_has ls 5 [(3, .int (nI q)), (2, .int (nI tn)), (0, .ref g0), (1, .int (nI w))] := hl
          refine lv_iload_n (pc := 57) hx hb dX4_install_57 rfl (lv_at hl 0 rfl) ?_
          refine lv_iconst (pc := 58) (v := nI 5) hx hb dX4_install_58 (by decide) ?_
          refine lv_icmp_ge (pc := 59) (tgt := 77) hx hb dX4_install_59 (by decide) (fun c6 => ?_) (fun c6 => ?_)
          · skip
            have c6 : 5 ≤ q := (nI_leI (a := 5) (b := q) (by omega) (by omega)).mp c6
            have hd0 : d = 0 := by omega
            rw [hd0, show er5 w 0 q = [] from rfl, List.append_nil] at hT
            rw [← hT] at hL1
            refine lv_iconst (pc := 77) (v := nI 0) hx hb dX4_install_77 (by decide) ?_
            refine lv_istore_n (pc := 78) (lv' := [(3, .int (nI 0)), (2, .int (nI tn)), (0, .ref g0), (1, .int (nI w))]) hx hb dX4_install_78 rfl hl (by decide) rfl (fun ls hl => ?_)
            refine x_loop (σ := (Nat) × (Nat) × (List Act) × (Nat → Int8) × (Nat → Int32) × (Nat → Int32) × (Nat → Int8) × (Nat) × (Nat → Int8)) (Wd := fun x : (Nat) × (Nat) × (List Act) × (Nat → Int8) × (Nat → Int32) × (Nat → Int32) × (Nat → Int8) × (Nat) × (Nat → Int8) => match x with | (d2, fr, L2, dr2, er2, pl2, un2, li2, ei2) => gW g0 g1 g2 g3 g4 g5 g6 g7 g8 g9 g10 g11 g12 g13 cI cB k dr2 er2 pl2 un2 li2 (-1) tp 0 false vs bo ex wr ei2 dg_3 wo_4 pa_5 ch_6 fi) (Lv := fun x : (Nat) × (Nat) × (List Act) × (Nat → Int8) × (Nat → Int32) × (Nat → Int32) × (Nat → Int8) × (Nat) × (Nat → Int8) => match x with | (d2, fr, L2, dr2, er2, pl2, un2, li2, ei2) => [(3, .int (nI fr)), (2, .int (nI tn)), (0, .ref g0), (1, .int (nI w))]) (I := fun x : (Nat) × (Nat) × (List Act) × (Nat → Int8) × (Nat → Int32) × (Nat → Int32) × (Nat → Int8) × (Nat) × (Nat → Int8) => match x with | (d2, fr, L2, dr2, er2, pl2, un2, li2, ei2) => (eraL w ++ rowL (w * 5 * 256) tp tn ((tn + 7) / 8) 0 = L2 ++ rowL (w * 5 * 256) tp tn d2 fr) ∧ (lstR L2 er2 pl2 un2 li2) ∧ (fr + 8 * d2 = 8 * ((tn + 7) / 8)) ∧ (li2 + d2 ≤ 5 + ((tn + 7) / 8))) (μ := fun x : (Nat) × (Nat) × (List Act) × (Nat → Int8) × (Nat → Int32) × (Nat → Int32) × (Nat → Int8) × (Nat) × (Nat → Int8) => match x with | (d2, fr, L2, dr2, er2, pl2, un2, li2, ei2) => d2) ?_ ((tn + 7) / 8, 0, eraL w, dr1, er1, pl1, un1, li1, ei) ⟨rfl, hL1, by omega, by omega⟩ hP hD hS (lv_sub hl [0, 1, 2, 3] rfl)
            intro x H locs ls hI hP hD hS hl ih79
            obtain ⟨d2, fr, L2, dr2, er2, pl2, un2, li2, ei2⟩ := x
            obtain ⟨hT2, hL2, hd2, hli2⟩ : (eraL w ++ rowL (w * 5 * 256) tp tn ((tn + 7) / 8) 0 = L2 ++ rowL (w * 5 * 256) tp tn d2 fr) ∧ (lstR L2 er2 pl2 un2 li2) ∧ (fr + 8 * d2 = 8 * ((tn + 7) / 8)) ∧ (li2 + d2 ≤ 5 + ((tn + 7) / 8)) := hI
            have hP : va_P (dC, dI) vwCl (gW g0 g1 g2 g3 g4 g5 g6 g7 g8 g9 g10 g11 g12 g13 cI cB k dr2 er2 pl2 un2 li2 (-1) tp 0 false vs bo ex wr ei2 dg_3 wo_4 pa_5 ch_6 fi) _ := hP
            have hD : va_D A (gW g0 g1 g2 g3 g4 g5 g6 g7 g8 g9 g10 g11 g12 g13 cI cB k dr2 er2 pl2 un2 li2 (-1) tp 0 false vs bo ex wr ei2 dg_3 wo_4 pa_5 ch_6 fi) := hD
            have hl : lv_has ls 5 [(3, .int (nI fr)), (2, .int (nI tn)), (0, .ref g0), (1, .int (nI w))] := hl
            refine lv_iload_n (pc := 79) hx hb dX4_install_79 rfl (lv_at hl 0 rfl) ?_
            refine lv_iload_n (pc := 80) hx hb dX4_install_80 rfl (lv_at hl 1 rfl) ?_
            refine lv_icmp_ge (pc := 81) (tgt := 163) hx hb dX4_install_81 (by decide) (fun c7 => ?_) (fun c7 => ?_)
            · skip
              have c7 : tn ≤ fr := (nI_leI (a := tn) (b := fr) (by omega) (by omega)).mp c7
              have hd0 : d2 = 0 := by omega
              rw [hd0, show rowL (w * 5 * 256) tp tn 0 fr = [] from rfl, List.append_nil] at hT2
              have hLI : L2 = insL w tp tn := hT2.symm
              rw [hLI] at hL2
              refine lv_aload_n (pc := 163) hx hb dX4_install_163 rfl (lv_at hl 2 rfl) ?_
              refine x_wria (pc := 164) (va_runV (As := []) (rest := []) ⟨hx, hb, hml, hown, hts⟩ (kX4_does l dC dI tt cI cB _ g0 g1 g2 g3 g4 g5 g6 g7 g8 g9 g10 g11 g12 g13 k dr2 er2 pl2 un2 li2 (-1) tp 0 false vs bo ex wr ei2 dg_3 wo_4 pa_5 ch_6 fi (insL w tp tn) false hk hL2 (by omega) rfl) (cwV 0 hts gX4_install_X4_does rfl rfl rfl (by decide +kernel) ⟨Nat.le_of_ble_eq_true rfl, Nat.le_of_ble_eq_true rfl⟩) (x_preVa hS hE hK hP hD (x_all hD hS hA) xR0 4 0 rfl rfl) rfl rfl hl.1 rfl (lv_room (Nat.le_of_ble_eq_true rfl)) dX4_install_164 ⟨Nat.le_of_ble_eq_true rfl, Nat.le_of_ble_eq_true rfl⟩) hS hA hD (fun r_34 u_33 H locs hu_33 hP hD hS => ?_)
              obtain ⟨k_36, ex_37, rn_38⟩ := u_33
              obtain ⟨hr_34, ek_36, eex_37, ern_38⟩ : r_34 = bI (kActs (insL w tp tn) k).2 ∧ k_36 = (kActs (insL w tp tn) k).1 ∧ ex_37 = (if false = true ∧ 0 < (insL w tp tn).length ∧ (kActs (insL w tp tn) k).2 = true then ex + nI 1 else ex) ∧ rn_38 = (if (kActs (insL w tp tn) k).2 = true then false else false) := hu_33
              obtain ⟨b_35, eb_35⟩ : ∃ z, z = (kActs (insL w tp tn) k).2 := ⟨_, rfl⟩
              rw [← eb_35] at hr_34
              subst hr_34
              have hP : va_P (dC, dI) vwCl (gW g0 g1 g2 g3 g4 g5 g6 g7 g8 g9 g10 g11 g12 g13 cI cB k_36 dr2 er2 pl2 un2 li2 (-1) tp 0 rn_38 vs bo ex_37 wr ei2 dg_3 wo_4 pa_5 ch_6 fi) _ := hP
              have hD : va_D A (gW g0 g1 g2 g3 g4 g5 g6 g7 g8 g9 g10 g11 g12 g13 cI cB k_36 dr2 er2 pl2 un2 li2 (-1) tp 0 rn_38 vs bo ex_37 wr ei2 dg_3 wo_4 pa_5 ch_6 fi) := hD
              refine lv_if_eq (pc := 167) (tgt := 174) hx hb dX4_install_167 (by decide) (fun c9 => ?_) (fun c9 => ?_)
              · skip
                have c9 : b_35 = false := bI_0.mp c9
                refine lv_bipush (pc := 174) (v := (-9)) hx hb dX4_install_174 (by decide) ?_
                have f1 : (kActs (insL w tp tn) k).2 = false := eb_35.symm.trans c9
                exact W.iret (v := (-9)) hx hb hr (fun t ht hW => ⟨⟨(-9), (k_36, dr2, er2, pl2, un2, li2, (-1), rn_38, ex_37, ei2, vs, bo, wr, dg_3, wo_4, pa_5, ch_6), rfl, ⟨by rw [insR, if_neg (by rw [c1]; decide), if_neg (by rw [hsl]; decide), if_neg (fun z => c4 ((dueN_5 _).mpr z)), hcl, if_neg (by rw [f1]; decide), ← ek_36, ern_38, if_neg (by rw [f1]; decide)]; rfl, by show ex_37 = ex; rw [eex_37, if_neg (fun z => absurd z.1 (by decide))], rfl, rfl⟩, by show va_P _ _ _ t.heap; rw [ht]; exact hP, va_K.moved hW.alike hK, hD⟩, hS.F ht⟩) hS.2.2 dX4_install_176
              · skip
                have c9 : b_35 = true := bI_1.mp c9
                refine lv_iload_n (pc := 170) hx hb dX4_install_170 rfl (lv_at hl 1 rfl) ?_
                refine lv_goto (pc := 171) (tgt := 176) hx hb dX4_install_171 (by decide) ?_
                have f1 : (kActs (insL w tp tn) k).2 = true := eb_35.symm.trans c9
                exact W.iret (v := nI tn) hx hb hr (fun t ht hW => ⟨⟨nI tn, (k_36, dr2, er2, pl2, un2, li2, (-1), rn_38, ex_37, ei2, vs, bo, wr, dg_3, wo_4, pa_5, ch_6), rfl, ⟨by rw [insR, if_neg (by rw [c1]; decide), if_neg (by rw [hsl]; decide), if_neg (fun z => c4 ((dueN_5 _).mpr z)), hcl, if_pos f1, ← ek_36, ern_38, if_pos f1, if_pos c5, if_pos c5]; rfl, by show ex_37 = ex; rw [eex_37, if_neg (fun z => absurd z.1 (by decide))], rfl, rfl⟩, by show va_P _ _ _ t.heap; rw [ht]; exact hP, va_K.moved hW.alike hK, hD⟩, hS.F ht⟩) hS.2.2 dX4_install_176
            · skip
              have c7 : ¬ tn ≤ fr := fun z => c7 ((nI_leI (a := tn) (b := fr) (by omega) (by omega)).mpr z)
              obtain ⟨d2, rfl⟩ : ∃ z, d2 = z + 1 := ⟨d2 - 1, by omega⟩
              refine lv_iconst (pc := 84) (v := nI 0) hx hb dX4_install_84 (by decide) ?_
              refine lv_istore (pc := 85) (lv' := [(4, .int (nI 0)), (3, .int (nI fr)), (2, .int (nI tn)), (0, .ref g0), (1, .int (nI w))]) hx hb dX4_install_85 hl (by decide) rfl (fun ls hl => ?_)
              rw [← cpF_0 ei2 (unitG tp fr tn)] at hP hD
              refine x_loop (σ := (Nat)) (Wd := fun i : (Nat) => gW g0 g1 g2 g3 g4 g5 g6 g7 g8 g9 g10 g11 g12 g13 cI cB k dr2 er2 pl2 un2 li2 (-1) tp 0 false vs bo ex wr (cpF ei2 (unitG tp fr tn) i) dg_3 wo_4 pa_5 ch_6 fi) (Lv := fun i : (Nat) => [(4, .int (nI i)), (3, .int (nI fr)), (2, .int (nI tn)), (0, .ref g0), (1, .int (nI w))]) (I := fun i : (Nat) => (i ≤ 8)) (μ := fun i : (Nat) => 8 - i) ?_ (0) (by omega) hP hD hS (lv_sub hl [0, 1, 2, 3, 4] rfl)
              intro i H locs ls hI hP hD hS hl ih87
              have hi : (i ≤ 8) := hI
              have hP : va_P (dC, dI) vwCl (gW g0 g1 g2 g3 g4 g5 g6 g7 g8 g9 g10 g11 g12 g13 cI cB k dr2 er2 pl2 un2 li2 (-1) tp 0 false vs bo ex wr (cpF ei2 (unitG tp fr tn) i) dg_3 wo_4 pa_5 ch_6 fi) _ := hP
              have hD : va_D A (gW g0 g1 g2 g3 g4 g5 g6 g7 g8 g9 g10 g11 g12 g13 cI cB k dr2 er2 pl2 un2 li2 (-1) tp 0 false vs bo ex wr (cpF ei2 (unitG tp fr tn) i) dg_3 wo_4 pa_5 ch_6 fi) := hD
              have hl : lv_has ls 5 [(4, .int (nI i)), (3, .int (nI fr)), (2, .int (nI tn)), (0, .ref g0), (1, .int (nI w))] := hl
              refine lv_iload (pc := 87) hx hb dX4_install_87 (lv_at hl 0 rfl) ?_
              refine lv_bipush (pc := 89) (v := nI 8) hx hb dX4_install_89 (by decide) ?_
              refine lv_icmp_ge (pc := 91) (tgt := 128) hx hb dX4_install_91 (by decide) (fun c8 => ?_) (fun c8 => ?_)
              · skip
                have c8 : 8 ≤ i := (nI_leI (a := 8) (b := i) (by omega) (by omega)).mp c8
                have hi9 : i = 8 := by omega
                subst hi9
                have hei : ∀ z, z < 8 → cpF ei2 (unitG tp fr tn) 8 (0 + z) = unitG tp fr tn z := fun z hz => by rw [Nat.zero_add]; unfold cpF; rw [if_pos hz]
                have hbq : blkTo (fun z => cpF ei2 (unitG tp fr tn) 8 (0 + z)) 8 = blkTo (unitG tp fr tn) 8 := eqTo_c hei (fun _ _ => rfl)
                have hP : va_P (dC, dI) vwCl (gW g0 g1 g2 g3 g4 g5 g6 g7 g8 g9 g10 g11 g12 g13 cI cB k dr2 er2 pl2 un2 li2 (-1) tp 0 false vs bo ex wr (cpF ei2 (unitG tp fr tn) 8) dg_3 wo_4 pa_5 ch_6 fi) _ := hP
                have hD : va_D A (gW g0 g1 g2 g3 g4 g5 g6 g7 g8 g9 g10 g11 g12 g13 cI cB k dr2 er2 pl2 un2 li2 (-1) tp 0 false vs bo ex wr (cpF ei2 (unitG tp fr tn) 8) dg_3 wo_4 pa_5 ch_6 fi) := hD
                refine lv_aload_n (pc := 128) hx hb dX4_install_128 rfl (lv_at hl 3 rfl) ?_
                refine va_get (pc := 129) (D := (dC, dI)) (ci := 4) (v := .ref g8) (C := RX4) (T := TX4) (N := 26) hx hb hts (by decide +kernel) hown hK hP 0 rfl rfl 20 (by decide) (hts (.fieldLink RX4 36 "ScratchSwapModel" "eight" "[B") (by decide +kernel)) (fun _ h9 => h9) rfl dX4_install_129 ?_
                refine lv_iconst (pc := 132) (v := nI 0) hx hb dX4_install_132 (by decide) ?_
                refine x_roi (pc := 133) (va_runS (As := [.ref g8, .int (nI 0)]) (rest := []) ⟨hx, hb, hml, hown, hts⟩ (kX4_isBlank l dC dI tt cI cB _ g8 8 (cpF ei2 (unitG tp fr tn) 8) 0 (by omega) (by omega)) (va_cwS 2 hts gX4_install_X4_isBlank rfl rfl rfl (by decide +kernel) ⟨Nat.le_of_ble_eq_true rfl, Nat.le_of_ble_eq_true rfl⟩) (x_preS hS hE hK hP hD [8] rfl (by decide) (x_ro hS hA) xR0) rfl rfl hl.1 rfl (lv_room (Nat.le_of_ble_eq_true rfl)) dX4_install_133 ⟨Nat.le_of_ble_eq_true rfl, Nat.le_of_ble_eq_true rfl⟩) hS hA hP (fun r_39 H locs hr_39 hP hS => ?_)
                subst hr_39
                refine lv_if_ne (pc := 136) (tgt := 157) hx hb dX4_install_136 (by decide) (fun cb => ?_) (fun cb => ?_)
                · skip
                  have cb : (blkTo (fun z => (cpF ei2 (unitG tp fr tn) 8) (0 + z)) 8) = true := bI_1.mp cb
                  have hbl : blkTo (unitG tp fr tn) 8 = true := hbq.symm.trans cb
                  refine lv_iinc (pc := 157) (v := nI (fr + 8)) (lv' := [(3, .int (nI (fr + 8))), (4, .int (nI 8)), (2, .int (nI tn)), (0, .ref g0), (1, .int (nI w))]) hx hb dX4_install_157 hl (k := 1) rfl (nI_inc fr 8) (by decide) rfl (fun ls hl => ?_)
                  refine lv_goto (pc := 160) (tgt := 79) hx hb dX4_install_160 (by decide) ?_
                  exact ih79 (d2, fr + 8, L2, dr2, er2, pl2, un2, li2, cpF ei2 (unitG tp fr tn) 8) H locs ls ⟨by rw [hT2, rowL_s, unitL, if_pos hbl, List.nil_append], hL2, by omega, by omega⟩ (by first | omega | (simp only []; omega)) hP hD hS (lv_sub hl [0, 2, 3, 4] rfl)
                · skip
                  have cb : (blkTo (fun z => (cpF ei2 (unitG tp fr tn) 8) (0 + z)) 8) = false := bI_0.mp cb
                  have hbl : blkTo (unitG tp fr tn) 8 = false := hbq.symm.trans cb
                  refine lv_aload_n (pc := 139) hx hb dX4_install_139 rfl (lv_at hl 3 rfl) ?_
                  refine lv_iconst (pc := 140) (v := nI 5) hx hb dX4_install_140 (by decide) ?_
                  refine lv_iload_n (pc := 141) hx hb dX4_install_141 rfl (lv_at hl 4 rfl) ?_
                  refine lv_imul (pc := 142) hx hb dX4_install_142 ?_
                  refine lv_cv (x_mulc 5 w) ?_
                  refine lv_iconst (pc := 143) (v := nI 0) hx hb dX4_install_143 (by decide) ?_
                  refine x_roi (pc := 144) (va_runS (As := [.int (nI (w * 5)), .int (nI 0)]) (rest := [.ref g0]) ⟨hx, hb, hml, hown, hts⟩ (kX4_unit l dC dI tt cI cB _ (w * 5) 0) (va_cwS 2 hts gX4_install_X4_unit rfl rfl rfl (by decide +kernel) ⟨Nat.le_of_ble_eq_true rfl, Nat.le_of_ble_eq_true rfl⟩) (x_preS hS hE hK hP hD [] rfl (by decide) (x_ro hS hA) xR0) rfl rfl hl.1 rfl (lv_room (Nat.le_of_ble_eq_true rfl)) dX4_install_144 ⟨Nat.le_of_ble_eq_true rfl, Nat.le_of_ble_eq_true rfl⟩) hS hA hP (fun r_40 H locs hr_40 hP hS => ?_)
                  subst hr_40
                  refine lv_iload_n (pc := 147) hx hb dX4_install_147 rfl (lv_at hl 1 rfl) ?_
                  refine lv_iadd (pc := 148) hx hb dX4_install_148 ?_
                  refine lv_cv (nI_add ((w * 5) * 256 + 0 * 8) fr) ?_
                  refine lv_cv (congrArg nI (show ((w * 5) * 256 + 0 * 8) + fr = w * 5 * 256 + fr by omega)) ?_
                  refine lv_aload_n (pc := 149) hx hb dX4_install_149 rfl (lv_at hl 3 rfl) ?_
                  refine va_get (pc := 150) (D := (dC, dI)) (ci := 4) (v := .ref g8) (C := RX4) (T := TX4) (N := 26) hx hb hts (by decide +kernel) hown hK hP 0 rfl rfl 20 (by decide) (hts (.fieldLink RX4 36 "ScratchSwapModel" "eight" "[B") (by decide +kernel)) (fun _ h9 => h9) rfl dX4_install_150 ?_
                  refine lv_iconst (pc := 153) (v := nI 0) hx hb dX4_install_153 (by decide) ?_
                  refine x_wrva (pc := 154) (va_runV (As := [.int (nI (w * 5 * 256 + fr)), .ref g8, .int (nI 0)]) (rest := []) ⟨hx, hb, hml, hown, hts⟩ (kX4_writeE l dC dI tt cI cB _ g0 g1 g2 g3 g4 g5 g6 g7 g8 g9 g10 g11 g12 g13 k dr2 er2 pl2 un2 li2 (-1) tp 0 false vs bo ex wr (cpF ei2 (unitG tp fr tn) 8) dg_3 wo_4 pa_5 ch_6 fi L2 (w * 5 * 256 + fr) 0 (unitG tp fr tn) hL2 (by omega) hei (by omega) (by omega)) (cwV 3 hts gX4_install_X4_write rfl rfl rfl (by decide +kernel) ⟨Nat.le_of_ble_eq_true rfl, Nat.le_of_ble_eq_true rfl⟩) (x_preVa hS hE hK hP hD (x_all hD hS hA) xR0 4 0 rfl rfl) rfl rfl hl.1 rfl (lv_room (Nat.le_of_ble_eq_true rfl)) dX4_install_154 ⟨Nat.le_of_ble_eq_true rfl, Nat.le_of_ble_eq_true rfl⟩) hS hA hD (fun u_41 H locs hu_41 hP hD hS => ?_)
                  obtain ⟨dr_42, er_43, pl_44, un_45, li_46⟩ := u_41
                  obtain ⟨hL_47, hd_48⟩ : lstR (L2 ++ ([Sum.inr (w * 5 * 256 + fr, unitG tp fr tn)])) er_43 pl_44 un_45 li_46 ∧ dr_42 = andFn dr2 (w * 5 * 256 + fr) (unitG tp fr tn) 8 := hu_41
                  have hP : va_P (dC, dI) vwCl (gW g0 g1 g2 g3 g4 g5 g6 g7 g8 g9 g10 g11 g12 g13 cI cB k dr_42 er_43 pl_44 un_45 li_46 (-1) tp 0 false vs bo ex wr (cpF ei2 (unitG tp fr tn) 8) dg_3 wo_4 pa_5 ch_6 fi) _ := hP
                  have hD : va_D A (gW g0 g1 g2 g3 g4 g5 g6 g7 g8 g9 g10 g11 g12 g13 cI cB k dr_42 er_43 pl_44 un_45 li_46 (-1) tp 0 false vs bo ex wr (cpF ei2 (unitG tp fr tn) 8) dg_3 wo_4 pa_5 ch_6 fi) := hD
                  have hlen_li_46 : li_46 = li2 + 1 := by rw [hL_47.1, List.length_append, ← hL2.1]; rfl
                  refine lv_iinc (pc := 157) (v := nI (fr + 8)) (lv' := [(3, .int (nI (fr + 8))), (4, .int (nI 8)), (2, .int (nI tn)), (0, .ref g0), (1, .int (nI w))]) hx hb dX4_install_157 hl (k := 1) rfl (nI_inc fr 8) (by decide) rfl (fun ls hl => ?_)
                  refine lv_goto (pc := 160) (tgt := 79) hx hb dX4_install_160 (by decide) ?_
                  exact ih79 (d2, fr + 8, L2 ++ ([Sum.inr (w * 5 * 256 + fr, unitG tp fr tn)]), dr_42, er_43, pl_44, un_45, li_46, cpF ei2 (unitG tp fr tn) 8) H locs ls ⟨by rw [hT2, rowL_s, unitL, if_neg (by rw [hbl]; decide), List.append_assoc], hL_47, by omega, by omega⟩ (by first | omega | (simp only []; omega)) hP hD hS (lv_sub hl [0, 2, 3, 4] rfl)
              · skip
                have c8 : ¬ 8 ≤ i := fun z => c8 ((nI_leI (a := 8) (b := i) (by omega) (by omega)).mpr z)
                refine lv_aload_n (pc := 94) hx hb dX4_install_94 rfl (lv_at hl 3 rfl) ?_
                refine va_get (pc := 95) (D := (dC, dI)) (ci := 4) (v := .ref g8) (C := RX4) (T := TX4) (N := 26) hx hb hts (by decide +kernel) hown hK hP 0 rfl rfl 20 (by decide) (hts (.fieldLink RX4 36 "ScratchSwapModel" "eight" "[B") (by decide +kernel)) (fun _ h9 => h9) rfl dX4_install_95 ?_
                refine lv_iload (pc := 98) hx hb dX4_install_98 (lv_at hl 0 rfl) ?_
                refine lv_iload_n (pc := 100) hx hb dX4_install_100 rfl (lv_at hl 1 rfl) ?_
                refine lv_iload (pc := 101) hx hb dX4_install_101 (lv_at hl 0 rfl) ?_
                refine lv_iadd (pc := 103) hx hb dX4_install_103 ?_
                refine lv_cv (nI_add fr i) ?_
                refine lv_iload_n (pc := 104) hx hb dX4_install_104 rfl (lv_at hl 2 rfl) ?_
                refine lv_icmp_ge (pc := 105) (tgt := 120) hx hb dX4_install_105 (by decide) (fun ca => ?_) (fun ca => ?_)
                · skip
                  have ca : tn ≤ (fr + i) := (nI_leI (a := tn) (b := (fr + i)) (by omega) (by omega)).mp ca
                  refine lv_iconst (pc := 120) (v := (-1)) hx hb dX4_install_120 (by decide) ?_
                  refine lv_cv (show (-1 : Int32) = Int8.toInt32 (unitG tp fr tn i) by unfold unitG; rw [if_neg (by omega)]; decide) ?_
                  refine x_sst (pc := 121) (k := i) (F := cpF ei2 (unitG tp fr tn) i) hx hb hK hP hD hS 8 1 rfl rfl (by omega) (by decide) dX4_install_121 (fun H locs hP hD hS => ?_)
                  have hP : va_P (dC, dI) vwCl (gW g0 g1 g2 g3 g4 g5 g6 g7 g8 g9 g10 g11 g12 g13 cI cB k dr2 er2 pl2 un2 li2 (-1) tp 0 false vs bo ex wr (va_up (cpF ei2 (unitG tp fr tn) i) i (unitG tp fr tn i)) dg_3 wo_4 pa_5 ch_6 fi) _ := hP
                  have hD : va_D A (gW g0 g1 g2 g3 g4 g5 g6 g7 g8 g9 g10 g11 g12 g13 cI cB k dr2 er2 pl2 un2 li2 (-1) tp 0 false vs bo ex wr (va_up (cpF ei2 (unitG tp fr tn) i) i (unitG tp fr tn i)) dg_3 wo_4 pa_5 ch_6 fi) := hD
                  refine lv_iinc (pc := 122) (v := nI (i + 1)) (lv' := [(4, .int (nI (i + 1))), (3, .int (nI fr)), (2, .int (nI tn)), (0, .ref g0), (1, .int (nI w))]) hx hb dX4_install_122 hl (k := 0) rfl (nI_inc i 1) (by decide) rfl (fun ls hl => ?_)
                  refine lv_goto (pc := 125) (tgt := 87) hx hb dX4_install_125 (by decide) ?_
                  rw [cpF_step] at hP hD
                  exact ih87 (i + 1) H locs ls (by omega) (by first | omega | (simp only []; omega)) hP hD hS (lv_sub hl [0, 1, 2, 3, 4] rfl)
                · skip
                  have ca : ¬ tn ≤ (fr + i) := fun z => ca ((nI_leI (a := tn) (b := (fr + i)) (by omega) (by omega)).mpr z)
                  refine lv_aload_n (pc := 108) hx hb dX4_install_108 rfl (lv_at hl 3 rfl) ?_
                  refine va_get (pc := 109) (D := (dC, dI)) (ci := 4) (v := .ref g6) (C := RX4) (T := TX4) (N := 26) hx hb hts (by decide +kernel) hown hK hP 0 rfl rfl 7 (by decide) (hts (.fieldLink RX4 26 "ScratchSwapModel" "tape" "[B") (by decide +kernel)) (fun _ h9 => h9) rfl dX4_install_109 ?_
                  refine lv_iload_n (pc := 112) hx hb dX4_install_112 rfl (lv_at hl 1 rfl) ?_
                  refine lv_iload (pc := 113) hx hb dX4_install_113 (lv_at hl 0 rfl) ?_
                  refine lv_iadd (pc := 115) hx hb dX4_install_115 ?_
                  refine lv_cv (nI_add fr i) ?_
                  refine x_bald (pc := 116) (k := fr + i) (f := fun j => Int8.toInt32 (tp j)) hx hb hK hP 6 1 rfl rfl (by omega) (by decide) dX4_install_116 ?_
                  refine lv_goto (pc := 117) (tgt := 121) hx hb dX4_install_117 (by decide) ?_
                  refine lv_cv (congrArg Int8.toInt32 (show _ = unitG tp fr tn i by unfold unitG; rw [if_pos (by omega)])) ?_
                  refine x_sst (pc := 121) (k := i) (F := cpF ei2 (unitG tp fr tn) i) hx hb hK hP hD hS 8 1 rfl rfl (by omega) (by decide) dX4_install_121 (fun H locs hP hD hS => ?_)
                  have hP : va_P (dC, dI) vwCl (gW g0 g1 g2 g3 g4 g5 g6 g7 g8 g9 g10 g11 g12 g13 cI cB k dr2 er2 pl2 un2 li2 (-1) tp 0 false vs bo ex wr (va_up (cpF ei2 (unitG tp fr tn) i) i (unitG tp fr tn i)) dg_3 wo_4 pa_5 ch_6 fi) _ := hP
                  have hD : va_D A (gW g0 g1 g2 g3 g4 g5 g6 g7 g8 g9 g10 g11 g12 g13 cI cB k dr2 er2 pl2 un2 li2 (-1) tp 0 false vs bo ex wr (va_up (cpF ei2 (unitG tp fr tn) i) i (unitG tp fr tn i)) dg_3 wo_4 pa_5 ch_6 fi) := hD
                  refine lv_iinc (pc := 122) (v := nI (i + 1)) (lv' := [(4, .int (nI (i + 1))), (3, .int (nI fr)), (2, .int (nI tn)), (0, .ref g0), (1, .int (nI w))]) hx hb dX4_install_122 hl (k := 0) rfl (nI_inc i 1) (by decide) rfl (fun ls hl => ?_)
                  refine lv_goto (pc := 125) (tgt := 87) hx hb dX4_install_125 (by decide) ?_
                  rw [cpF_step] at hP hD
                  exact ih87 (i + 1) H locs ls (by omega) (by first | omega | (simp only []; omega)) hP hD hS (lv_sub hl [0, 1, 2, 3, 4] rfl)
          · skip
            have c6 : ¬ 5 ≤ q := fun z => c6 ((nI_leI (a := 5) (b := q) (by omega) (by omega)).mpr z)
            obtain ⟨d, rfl⟩ : ∃ z, d = z + 1 := ⟨d - 1, by omega⟩
            refine lv_aload_n (pc := 62) hx hb dX4_install_62 rfl (lv_at hl 2 rfl) ?_
            refine lv_iconst (pc := 63) (v := nI 5) hx hb dX4_install_63 (by decide) ?_
            refine lv_iload_n (pc := 64) hx hb dX4_install_64 rfl (lv_at hl 3 rfl) ?_
            refine lv_imul (pc := 65) hx hb dX4_install_65 ?_
            refine lv_cv (x_mulc 5 w) ?_
            refine lv_iload_n (pc := 66) hx hb dX4_install_66 rfl (lv_at hl 0 rfl) ?_
            refine lv_iadd (pc := 67) hx hb dX4_install_67 ?_
            refine lv_cv (nI_add (w * 5) q) ?_
            refine x_wrva (pc := 68) (va_runV (As := [.int (nI ((w * 5) + q))]) (rest := []) ⟨hx, hb, hml, hown, hts⟩ (kX4_erase l dC dI tt cI cB _ g0 g1 g2 g3 g4 g5 g6 g7 g8 g9 g10 g11 g12 g13 k dr1 er1 pl1 un1 li1 (-1) tp 0 false vs bo ex wr ei dg_3 wo_4 pa_5 ch_6 fi L1 ((w * 5) + q) hL1 (by omega) (by omega)) (cwV 1 hts gX4_install_X4_erase rfl rfl rfl (by decide +kernel) ⟨Nat.le_of_ble_eq_true rfl, Nat.le_of_ble_eq_true rfl⟩) (x_preVa hS hE hK hP hD (x_all hD hS hA) xR0 4 0 rfl rfl) rfl rfl hl.1 rfl (lv_room (Nat.le_of_ble_eq_true rfl)) dX4_install_68 ⟨Nat.le_of_ble_eq_true rfl, Nat.le_of_ble_eq_true rfl⟩) hS hA hD (fun u_49 H locs hu_49 hP hD hS => ?_)
            obtain ⟨dr_50, er_51, pl_52, un_53, li_54⟩ := u_49
            obtain ⟨hL_55, hd_56⟩ : lstR (L1 ++ ([Sum.inl ((w * 5) + q)])) er_51 pl_52 un_53 li_54 ∧ dr_50 = fillF dr1 (((w * 5) + q) * 256) 256 := hu_49
            have hP : va_P (dC, dI) vwCl (gW g0 g1 g2 g3 g4 g5 g6 g7 g8 g9 g10 g11 g12 g13 cI cB k dr_50 er_51 pl_52 un_53 li_54 (-1) tp 0 false vs bo ex wr ei dg_3 wo_4 pa_5 ch_6 fi) _ := hP
            have hD : va_D A (gW g0 g1 g2 g3 g4 g5 g6 g7 g8 g9 g10 g11 g12 g13 cI cB k dr_50 er_51 pl_52 un_53 li_54 (-1) tp 0 false vs bo ex wr ei dg_3 wo_4 pa_5 ch_6 fi) := hD
            have hlen_li_54 : li_54 = li1 + 1 := by rw [hL_55.1, List.length_append, ← hL1.1]; rfl
            refine lv_iinc (pc := 71) (v := nI (q + 1)) (lv' := [(3, .int (nI (q + 1))), (2, .int (nI tn)), (0, .ref g0), (1, .int (nI w))]) hx hb dX4_install_71 hl (k := 0) rfl (nI_inc q 1) (by decide) rfl (fun ls hl => ?_)
            refine lv_goto (pc := 74) (tgt := 57) hx hb dX4_install_74 (by decide) ?_
            exact ih57 (d, q + 1, L1 ++ ([Sum.inl ((w * 5) + q)]), dr_50, er_51, pl_52, un_53, li_54) H locs ls ⟨by rw [hT, er5_s, List.append_assoc], hL_55, by omega, by omega⟩ (by first | omega | (simp only []; omega)) hP hD hS (lv_sub hl [0, 1, 2, 3] rfl)
      · skip
        have c4 : (dueN k.1) = 5 := (nI_eq (a := (dueN k.1)) (b := 5) (by omega) (by omega)).mp c4
        refine lv_bipush (pc := 39) (v := (-3)) hx hb dX4_install_39 (by decide) ?_
        exact W.iret (v := (-3)) hx hb hr (fun t ht hW => ⟨⟨(-3), (k, dr, er, pl, un, li, ov, rn, ex, ei, vs, bo, wr, dg_3, wo_4, pa_5, ch_6), rfl, ⟨by rw [insR, if_neg (by rw [c1]; decide), if_neg (by rw [hsl]; decide), if_pos ((dueN_5 _).mp c4)], rfl, rfl, rfl⟩, by show va_P _ _ _ t.heap; rw [ht]; exact hP, va_K.moved hW.alike hK, hD⟩, hS.F ht⟩) hS.2.2 dX4_install_41
    · skip
      refine lv_iload_n (pc := 24) hx hb dX4_install_24 rfl (lv_at hl 2 rfl) ?_
      refine lv_iconst (pc := 25) (v := nI 1) hx hb dX4_install_25 (by decide) ?_
      refine lv_icmp_eq (pc := 26) (tgt := 31) hx hb dX4_install_26 (by decide) (fun c3 => ?_) (fun c3 => ?_)
      · skip
        have hsl : slotB x = true := decide_eq_true (Or.inr c3)
        obtain ⟨w, hw2, ew⟩ := slotB_of hsl
        rw [ew] at hl
        have hcl : x.toNatClampNeg = w := by rw [ew]; exact nI_clamp (by omega)
        refine lv_aload_n (pc := 31) hx hb dX4_install_31 rfl (lv_at hl 1 rfl) ?_
        refine x_wria (pc := 32) (va_runV (As := []) (rest := []) ⟨hx, hb, hml, hown, hts⟩ (kX4_due l dC dI tt cI cB _ g0 g1 g2 g3 g4 g5 g6 g7 g8 g9 g10 g11 g12 g13 k dr er pl un li ov tp 0 rn vs bo ex wr ei dg wo pa ch fi ) (cwV 0 hts gX4_install_X4_due rfl rfl rfl (by decide +kernel) ⟨Nat.le_of_ble_eq_true rfl, Nat.le_of_ble_eq_true rfl⟩) (x_preVa hS hE hK hP hD (x_all hD hS hA) xR0 4 0 rfl rfl) rfl rfl hl.1 rfl (lv_room (Nat.le_of_ble_eq_true rfl)) dX4_install_32 ⟨Nat.le_of_ble_eq_true rfl, Nat.le_of_ble_eq_true rfl⟩) hS hA hD (fun r_58 u_57 H locs hu_57 hP hD hS => ?_)
        obtain ⟨dg_59, wo_60, pa_61, ch_62⟩ := u_57
        subst hu_57
        have hP : va_P (dC, dI) vwCl (gW g0 g1 g2 g3 g4 g5 g6 g7 g8 g9 g10 g11 g12 g13 cI cB k dr er pl un li ov tp 0 rn vs bo ex wr ei dg_59 wo_60 pa_61 ch_62 fi) _ := hP
        have hD : va_D A (gW g0 g1 g2 g3 g4 g5 g6 g7 g8 g9 g10 g11 g12 g13 cI cB k dr er pl un li ov tp 0 rn vs bo ex wr ei dg_59 wo_60 pa_61 ch_62 fi) := hD
        refine lv_iconst (pc := 35) (v := nI 5) hx hb dX4_install_35 (by decide) ?_
        have hdlt := dueN_lt k.1
        refine lv_icmp_ne (pc := 36) (tgt := 42) hx hb dX4_install_36 (by decide) (fun c4 => ?_) (fun c4 => ?_)
        · skip
          have c4 : ¬ (dueN k.1) = 5 := fun z => c4 ((nI_eq (a := (dueN k.1)) (b := 5) (by omega) (by omega)).mpr z)
          refine lv_iload_n (pc := 42) hx hb dX4_install_42 rfl (lv_at hl 2 rfl) ?_
          refine lv_if_ne (pc := 43) (tgt := 51) hx hb dX4_install_43 (by decide) (fun c5 => ?_) (fun c5 => ?_)
          · skip
            have c5 : ¬ w = 0 := fun z => c5 ((nI_eq (a := w) (b := 0) (by omega) (by omega)).mpr z)
            refine lv_aload_n (pc := 51) hx hb dX4_install_51 rfl (lv_at hl 1 rfl) ?_
            refine x_wrva (pc := 52) (va_runV (As := []) (rest := []) ⟨hx, hb, hml, hown, hts⟩ (kX4_begins l dC dI tt cI cB _ g0 g1 g2 g3 g4 g5 g6 g7 g8 g9 g10 g11 g12 g13 k dr er pl un li ov tp 0 rn vs bo ex wr ei dg_59 wo_60 pa_61 ch_62 fi ) (cwV 0 hts gX4_install_X4_begins rfl rfl rfl (by decide +kernel) ⟨Nat.le_of_ble_eq_true rfl, Nat.le_of_ble_eq_true rfl⟩) (x_preVa hS hE hK hP hD (x_all hD hS hA) xR0 4 0 rfl rfl) rfl rfl hl.1 rfl (lv_room (Nat.le_of_ble_eq_true rfl)) dX4_install_52 ⟨Nat.le_of_ble_eq_true rfl, Nat.le_of_ble_eq_true rfl⟩) hS hA hD (fun u_63 H locs hu_63 hP hD hS => ?_)
            have hdr : eqF u_63 k.1 := hu_63
            have hP : va_P (dC, dI) vwCl (gW g0 g1 g2 g3 g4 g5 g6 g7 g8 g9 g10 g11 g12 g13 cI cB k u_63 er pl un 0 (-1) tp 0 rn vs bo ex wr ei dg_59 wo_60 pa_61 ch_62 fi) _ := hP
            have hD : va_D A (gW g0 g1 g2 g3 g4 g5 g6 g7 g8 g9 g10 g11 g12 g13 cI cB k u_63 er pl un 0 (-1) tp 0 rn vs bo ex wr ei dg_59 wo_60 pa_61 ch_62 fi) := hD
            have hL0 : lstR [] er pl un 0 := lst_0 _ _ _
            refine lv_iconst (pc := 55) (v := nI 0) hx hb dX4_install_55 (by decide) ?_
            refine lv_istore_n (pc := 56) (lv' := [(3, .int (nI 0)), (2, .int (nI tn)), (0, .ref g0), (1, .int (nI w))]) hx hb dX4_install_56 rfl hl (by decide) rfl (fun ls hl => ?_)
            refine x_loop (σ := (Nat) × (Nat) × (List Act) × (Nat → Int8) × (Nat → Int32) × (Nat → Int32) × (Nat → Int8) × (Nat)) (Wd := fun x : (Nat) × (Nat) × (List Act) × (Nat → Int8) × (Nat → Int32) × (Nat → Int32) × (Nat → Int8) × (Nat) => match x with | (d, q, L1, dr1, er1, pl1, un1, li1) => gW g0 g1 g2 g3 g4 g5 g6 g7 g8 g9 g10 g11 g12 g13 cI cB k dr1 er1 pl1 un1 li1 (-1) tp 0 rn vs bo ex wr ei dg_59 wo_60 pa_61 ch_62 fi) (Lv := fun x : (Nat) × (Nat) × (List Act) × (Nat → Int8) × (Nat → Int32) × (Nat → Int32) × (Nat → Int8) × (Nat) => match x with | (d, q, L1, dr1, er1, pl1, un1, li1) => [(3, .int (nI q)), (2, .int (nI tn)), (0, .ref g0), (1, .int (nI w))]) (I := fun x : (Nat) × (Nat) × (List Act) × (Nat → Int8) × (Nat → Int32) × (Nat → Int32) × (Nat → Int8) × (Nat) => match x with | (d, q, L1, dr1, er1, pl1, un1, li1) => (eraL w = L1 ++ er5 w d q) ∧ (lstR L1 er1 pl1 un1 li1) ∧ (q + d = 5) ∧ (li1 ≤ q)) (μ := fun x : (Nat) × (Nat) × (List Act) × (Nat → Int8) × (Nat → Int32) × (Nat → Int32) × (Nat → Int8) × (Nat) => match x with | (d, q, L1, dr1, er1, pl1, un1, li1) => d) ?_ (5, 0, [], u_63, er, pl, un, 0) ⟨rfl, hL0, rfl, Nat.le_refl _⟩ hP hD hS (lv_sub hl [0, 1, 2, 3] rfl)
            intro x H locs ls hI hP hD hS hl ih57
            obtain ⟨d, q, L1, dr1, er1, pl1, un1, li1⟩ := x
            obtain ⟨hT, hL1, hd, hli1⟩ : (eraL w = L1 ++ er5 w d q) ∧ (lstR L1 er1 pl1 un1 li1) ∧ (q + d = 5) ∧ (li1 ≤ q) := hI
            have hP : va_P (dC, dI) vwCl (gW g0 g1 g2 g3 g4 g5 g6 g7 g8 g9 g10 g11 g12 g13 cI cB k dr1 er1 pl1 un1 li1 (-1) tp 0 rn vs bo ex wr ei dg_59 wo_60 pa_61 ch_62 fi) _ := hP
            have hD : va_D A (gW g0 g1 g2 g3 g4 g5 g6 g7 g8 g9 g10 g11 g12 g13 cI cB k dr1 er1 pl1 un1 li1 (-1) tp 0 rn vs bo ex wr ei dg_59 wo_60 pa_61 ch_62 fi) := hD
            have hl : lv_has ls 5 [(3, .int (nI q)), (2, .int (nI tn)), (0, .ref g0), (1, .int (nI w))] := hl
            refine lv_iload_n (pc := 57) hx hb dX4_install_57 rfl (lv_at hl 0 rfl) ?_
            refine lv_iconst (pc := 58) (v := nI 5) hx hb dX4_install_58 (by decide) ?_
            refine lv_icmp_ge (pc := 59) (tgt := 77) hx hb dX4_install_59 (by decide) (fun c6 => ?_) (fun c6 => ?_)
            · skip
              have c6 : 5 ≤ q := (nI_leI (a := 5) (b := q) (by omega) (by omega)).mp c6
              have hd0 : d = 0 := by omega
              rw [hd0, show er5 w 0 q = [] from rfl, List.append_nil] at hT
              rw [← hT] at hL1
              refine lv_iconst (pc := 77) (v := nI 0) hx hb dX4_install_77 (by decide) ?_
              refine lv_istore_n (pc := 78) (lv' := [(3, .int (nI 0)), (2, .int (nI tn)), (0, .ref g0), (1, .int (nI w))]) hx hb dX4_install_78 rfl hl (by decide) rfl (fun ls hl => ?_)
              refine x_loop (σ := (Nat) × (Nat) × (List Act) × (Nat → Int8) × (Nat → Int32) × (Nat → Int32) × (Nat → Int8) × (Nat) × (Nat → Int8)) (Wd := fun x : (Nat) × (Nat) × (List Act) × (Nat → Int8) × (Nat → Int32) × (Nat → Int32) × (Nat → Int8) × (Nat) × (Nat → Int8) => match x with | (d2, fr, L2, dr2, er2, pl2, un2, li2, ei2) => gW g0 g1 g2 g3 g4 g5 g6 g7 g8 g9 g10 g11 g12 g13 cI cB k dr2 er2 pl2 un2 li2 (-1) tp 0 rn vs bo ex wr ei2 dg_59 wo_60 pa_61 ch_62 fi) (Lv := fun x : (Nat) × (Nat) × (List Act) × (Nat → Int8) × (Nat → Int32) × (Nat → Int32) × (Nat → Int8) × (Nat) × (Nat → Int8) => match x with | (d2, fr, L2, dr2, er2, pl2, un2, li2, ei2) => [(3, .int (nI fr)), (2, .int (nI tn)), (0, .ref g0), (1, .int (nI w))]) (I := fun x : (Nat) × (Nat) × (List Act) × (Nat → Int8) × (Nat → Int32) × (Nat → Int32) × (Nat → Int8) × (Nat) × (Nat → Int8) => match x with | (d2, fr, L2, dr2, er2, pl2, un2, li2, ei2) => (eraL w ++ rowL (w * 5 * 256) tp tn ((tn + 7) / 8) 0 = L2 ++ rowL (w * 5 * 256) tp tn d2 fr) ∧ (lstR L2 er2 pl2 un2 li2) ∧ (fr + 8 * d2 = 8 * ((tn + 7) / 8)) ∧ (li2 + d2 ≤ 5 + ((tn + 7) / 8))) (μ := fun x : (Nat) × (Nat) × (List Act) × (Nat → Int8) × (Nat → Int32) × (Nat → Int32) × (Nat → Int8) × (Nat) × (Nat → Int8) => match x with | (d2, fr, L2, dr2, er2, pl2, un2, li2, ei2) => d2) ?_ ((tn + 7) / 8, 0, eraL w, dr1, er1, pl1, un1, li1, ei) ⟨rfl, hL1, by omega, by omega⟩ hP hD hS (lv_sub hl [0, 1, 2, 3] rfl)
              intro x H locs ls hI hP hD hS hl ih79
              obtain ⟨d2, fr, L2, dr2, er2, pl2, un2, li2, ei2⟩ := x
              obtain ⟨hT2, hL2, hd2, hli2⟩ : (eraL w ++ rowL (w * 5 * 256) tp tn ((tn + 7) / 8) 0 = L2 ++ rowL (w * 5 * 256) tp tn d2 fr) ∧ (lstR L2 er2 pl2 un2 li2) ∧ (fr + 8 * d2 = 8 * ((tn + 7) / 8)) ∧ (li2 + d2 ≤ 5 + ((tn + 7) / 8)) := hI
              have hP : va_P (dC, dI) vwCl (gW g0 g1 g2 g3 g4 g5 g6 g7 g8 g9 g10 g11 g12 g13 cI cB k dr2 er2 pl2 un2 li2 (-1) tp 0 rn vs bo ex wr ei2 dg_59 wo_60 pa_61 ch_62 fi) _ := hP
              have hD : va_D A (gW g0 g1 g2 g3 g4 g5 g6 g7 g8 g9 g10 g11 g12 g13 cI cB k dr2 er2 pl2 un2 li2 (-1) tp 0 rn vs bo ex wr ei2 dg_59 wo_60 pa_61 ch_62 fi) := hD
              have hl : lv_has ls 5 [(3, .int (nI fr)), (2, .int (nI tn)), (0, .ref g0), (1, .int (nI w))] := hl
              refine lv_iload_n (pc := 79) hx hb dX4_install_79 rfl (lv_at hl 0 rfl) ?_
              refine lv_iload_n (pc := 80) hx hb dX4_install_80 rfl (lv_at hl 1 rfl) ?_
              refine lv_icmp_ge (pc := 81) (tgt := 163) hx hb dX4_install_81 (by decide) (fun c7 => ?_) (fun c7 => ?_)
              · skip
                have c7 : tn ≤ fr := (nI_leI (a := tn) (b := fr) (by omega) (by omega)).mp c7
                have hd0 : d2 = 0 := by omega
                rw [hd0, show rowL (w * 5 * 256) tp tn 0 fr = [] from rfl, List.append_nil] at hT2
                have hLI : L2 = insL w tp tn := hT2.symm
                rw [hLI] at hL2
                refine lv_aload_n (pc := 163) hx hb dX4_install_163 rfl (lv_at hl 2 rfl) ?_
                refine x_wria (pc := 164) (va_runV (As := []) (rest := []) ⟨hx, hb, hml, hown, hts⟩ (kX4_does l dC dI tt cI cB _ g0 g1 g2 g3 g4 g5 g6 g7 g8 g9 g10 g11 g12 g13 k dr2 er2 pl2 un2 li2 (-1) tp 0 rn vs bo ex wr ei2 dg_59 wo_60 pa_61 ch_62 fi (insL w tp tn) false hk hL2 (by omega) rfl) (cwV 0 hts gX4_install_X4_does rfl rfl rfl (by decide +kernel) ⟨Nat.le_of_ble_eq_true rfl, Nat.le_of_ble_eq_true rfl⟩) (x_preVa hS hE hK hP hD (x_all hD hS hA) xR0 4 0 rfl rfl) rfl rfl hl.1 rfl (lv_room (Nat.le_of_ble_eq_true rfl)) dX4_install_164 ⟨Nat.le_of_ble_eq_true rfl, Nat.le_of_ble_eq_true rfl⟩) hS hA hD (fun r_65 u_64 H locs hu_64 hP hD hS => ?_)
                obtain ⟨k_67, ex_68, rn_69⟩ := u_64
                obtain ⟨hr_65, ek_67, eex_68, ern_69⟩ : r_65 = bI (kActs (insL w tp tn) k).2 ∧ k_67 = (kActs (insL w tp tn) k).1 ∧ ex_68 = (if false = true ∧ 0 < (insL w tp tn).length ∧ (kActs (insL w tp tn) k).2 = true then ex + nI 1 else ex) ∧ rn_69 = (if (kActs (insL w tp tn) k).2 = true then rn else false) := hu_64
                obtain ⟨b_66, eb_66⟩ : ∃ z, z = (kActs (insL w tp tn) k).2 := ⟨_, rfl⟩
                rw [← eb_66] at hr_65
                subst hr_65
                have hP : va_P (dC, dI) vwCl (gW g0 g1 g2 g3 g4 g5 g6 g7 g8 g9 g10 g11 g12 g13 cI cB k_67 dr2 er2 pl2 un2 li2 (-1) tp 0 rn_69 vs bo ex_68 wr ei2 dg_59 wo_60 pa_61 ch_62 fi) _ := hP
                have hD : va_D A (gW g0 g1 g2 g3 g4 g5 g6 g7 g8 g9 g10 g11 g12 g13 cI cB k_67 dr2 er2 pl2 un2 li2 (-1) tp 0 rn_69 vs bo ex_68 wr ei2 dg_59 wo_60 pa_61 ch_62 fi) := hD
                refine lv_if_eq (pc := 167) (tgt := 174) hx hb dX4_install_167 (by decide) (fun c9 => ?_) (fun c9 => ?_)
                · skip
                  have c9 : b_66 = false := bI_0.mp c9
                  refine lv_bipush (pc := 174) (v := (-9)) hx hb dX4_install_174 (by decide) ?_
                  have f1 : (kActs (insL w tp tn) k).2 = false := eb_66.symm.trans c9
                  exact W.iret (v := (-9)) hx hb hr (fun t ht hW => ⟨⟨(-9), (k_67, dr2, er2, pl2, un2, li2, (-1), rn_69, ex_68, ei2, vs, bo, wr, dg_59, wo_60, pa_61, ch_62), rfl, ⟨by rw [insR, if_neg (by rw [c1]; decide), if_neg (by rw [hsl]; decide), if_neg (fun z => c4 ((dueN_5 _).mpr z)), hcl, if_neg (by rw [f1]; decide), ← ek_67, ern_69, if_neg (by rw [f1]; decide)]; rfl, by show ex_68 = ex; rw [eex_68, if_neg (fun z => absurd z.1 (by decide))], rfl, rfl⟩, by show va_P _ _ _ t.heap; rw [ht]; exact hP, va_K.moved hW.alike hK, hD⟩, hS.F ht⟩) hS.2.2 dX4_install_176
                · skip
                  have c9 : b_66 = true := bI_1.mp c9
                  refine lv_iload_n (pc := 170) hx hb dX4_install_170 rfl (lv_at hl 1 rfl) ?_
                  refine lv_goto (pc := 171) (tgt := 176) hx hb dX4_install_171 (by decide) ?_
                  have f1 : (kActs (insL w tp tn) k).2 = true := eb_66.symm.trans c9
                  exact W.iret (v := nI tn) hx hb hr (fun t ht hW => ⟨⟨nI tn, (k_67, dr2, er2, pl2, un2, li2, (-1), rn_69, ex_68, ei2, vs, bo, wr, dg_59, wo_60, pa_61, ch_62), rfl, ⟨by rw [insR, if_neg (by rw [c1]; decide), if_neg (by rw [hsl]; decide), if_neg (fun z => c4 ((dueN_5 _).mpr z)), hcl, if_pos f1, ← ek_67, ern_69, if_pos f1, if_neg c5, if_neg c5], by show ex_68 = ex; rw [eex_68, if_neg (fun z => absurd z.1 (by decide))], rfl, rfl⟩, by show va_P _ _ _ t.heap; rw [ht]; exact hP, va_K.moved hW.alike hK, hD⟩, hS.F ht⟩) hS.2.2 dX4_install_176
              · skip
                have c7 : ¬ tn ≤ fr := fun z => c7 ((nI_leI (a := tn) (b := fr) (by omega) (by omega)).mpr z)
                obtain ⟨d2, rfl⟩ : ∃ z, d2 = z + 1 := ⟨d2 - 1, by omega⟩
                refine lv_iconst (pc := 84) (v := nI 0) hx hb dX4_install_84 (by decide) ?_
                refine lv_istore (pc := 85) (lv' := [(4, .int (nI 0)), (3, .int (nI fr)), (2, .int (nI tn)), (0, .ref g0), (1, .int (nI w))]) hx hb dX4_install_85 hl (by decide) rfl (fun ls hl => ?_)
                rw [← cpF_0 ei2 (unitG tp fr tn)] at hP hD
                refine x_loop (σ := (Nat)) (Wd := fun i : (Nat) => gW g0 g1 g2 g3 g4 g5 g6 g7 g8 g9 g10 g11 g12 g13 cI cB k dr2 er2 pl2 un2 li2 (-1) tp 0 rn vs bo ex wr (cpF ei2 (unitG tp fr tn) i) dg_59 wo_60 pa_61 ch_62 fi) (Lv := fun i : (Nat) => [(4, .int (nI i)), (3, .int (nI fr)), (2, .int (nI tn)), (0, .ref g0), (1, .int (nI w))]) (I := fun i : (Nat) => (i ≤ 8)) (μ := fun i : (Nat) => 8 - i) ?_ (0) (by omega) hP hD hS (lv_sub hl [0, 1, 2, 3, 4] rfl)
                intro i H locs ls hI hP hD hS hl ih87
                have hi : (i ≤ 8) := hI
                have hP : va_P (dC, dI) vwCl (gW g0 g1 g2 g3 g4 g5 g6 g7 g8 g9 g10 g11 g12 g13 cI cB k dr2 er2 pl2 un2 li2 (-1) tp 0 rn vs bo ex wr (cpF ei2 (unitG tp fr tn) i) dg_59 wo_60 pa_61 ch_62 fi) _ := hP
                have hD : va_D A (gW g0 g1 g2 g3 g4 g5 g6 g7 g8 g9 g10 g11 g12 g13 cI cB k dr2 er2 pl2 un2 li2 (-1) tp 0 rn vs bo ex wr (cpF ei2 (unitG tp fr tn) i) dg_59 wo_60 pa_61 ch_62 fi) := hD
                have hl : lv_has ls 5 [(4, .int (nI i)), (3, .int (nI fr)), (2, .int (nI tn)), (0, .ref g0), (1, .int (nI w))] := hl
                refine lv_iload (pc := 87) hx hb dX4_install_87 (lv_at hl 0 rfl) ?_
                refine lv_bipush (pc := 89) (v := nI 8) hx hb dX4_install_89 (by decide) ?_
                refine lv_icmp_ge (pc := 91) (tgt := 128) hx hb dX4_install_91 (by decide) (fun c8 => ?_) (fun c8 => ?_)
                · skip
                  have c8 : 8 ≤ i := (nI_leI (a := 8) (b := i) (by omega) (by omega)).mp c8
                  have hi9 : i = 8 := by omega
                  subst hi9
                  have hei : ∀ z, z < 8 → cpF ei2 (unitG tp fr tn) 8 (0 + z) = unitG tp fr tn z := fun z hz => by rw [Nat.zero_add]; unfold cpF; rw [if_pos hz]
                  have hbq : blkTo (fun z => cpF ei2 (unitG tp fr tn) 8 (0 + z)) 8 = blkTo (unitG tp fr tn) 8 := eqTo_c hei (fun _ _ => rfl)
                  have hP : va_P (dC, dI) vwCl (gW g0 g1 g2 g3 g4 g5 g6 g7 g8 g9 g10 g11 g12 g13 cI cB k dr2 er2 pl2 un2 li2 (-1) tp 0 rn vs bo ex wr (cpF ei2 (unitG tp fr tn) 8) dg_59 wo_60 pa_61 ch_62 fi) _ := hP
                  have hD : va_D A (gW g0 g1 g2 g3 g4 g5 g6 g7 g8 g9 g10 g11 g12 g13 cI cB k dr2 er2 pl2 un2 li2 (-1) tp 0 rn vs bo ex wr (cpF ei2 (unitG tp fr tn) 8) dg_59 wo_60 pa_61 ch_62 fi) := hD
                  refine lv_aload_n (pc := 128) hx hb dX4_install_128 rfl (lv_at hl 3 rfl) ?_
                  refine va_get (pc := 129) (D := (dC, dI)) (ci := 4) (v := .ref g8) (C := RX4) (T := TX4) (N := 26) hx hb hts (by decide +kernel) hown hK hP 0 rfl rfl 20 (by decide) (hts (.fieldLink RX4 36 "ScratchSwapModel" "eight" "[B") (by decide +kernel)) (fun _ h9 => h9) rfl dX4_install_129 ?_
                  refine lv_iconst (pc := 132) (v := nI 0) hx hb dX4_install_132 (by decide) ?_
                  refine x_roi (pc := 133) (va_runS (As := [.ref g8, .int (nI 0)]) (rest := []) ⟨hx, hb, hml, hown, hts⟩ (kX4_isBlank l dC dI tt cI cB _ g8 8 (cpF ei2 (unitG tp fr tn) 8) 0 (by omega) (by omega)) (va_cwS 2 hts gX4_install_X4_isBlank rfl rfl rfl (by decide +kernel) ⟨Nat.le_of_ble_eq_true rfl, Nat.le_of_ble_eq_true rfl⟩) (x_preS hS hE hK hP hD [8] rfl (by decide) (x_ro hS hA) xR0) rfl rfl hl.1 rfl (lv_room (Nat.le_of_ble_eq_true rfl)) dX4_install_133 ⟨Nat.le_of_ble_eq_true rfl, Nat.le_of_ble_eq_true rfl⟩) hS hA hP (fun r_70 H locs hr_70 hP hS => ?_)
                  subst hr_70
                  refine lv_if_ne (pc := 136) (tgt := 157) hx hb dX4_install_136 (by decide) (fun cb => ?_) (fun cb => ?_)
                  · skip
                    have cb : (blkTo (fun z => (cpF ei2 (unitG tp fr tn) 8) (0 + z)) 8) = true := bI_1.mp cb
                    have hbl : blkTo (unitG tp fr tn) 8 = true := hbq.symm.trans cb
                    refine lv_iinc (pc := 157) (v := nI (fr + 8)) (lv' := [(3, .int (nI (fr + 8))), (4, .int (nI 8)), (2, .int (nI tn)), (0, .ref g0), (1, .int (nI w))]) hx hb dX4_install_157 hl (k := 1) rfl (nI_inc fr 8) (by decide) rfl (fun ls hl => ?_)
                    refine lv_goto (pc := 160) (tgt := 79) hx hb dX4_install_160 (by decide) ?_
                    exact ih79 (d2, fr + 8, L2, dr2, er2, pl2, un2, li2, cpF ei2 (unitG tp fr tn) 8) H locs ls ⟨by rw [hT2, rowL_s, unitL, if_pos hbl, List.nil_append], hL2, by omega, by omega⟩ (by first | omega | (simp only []; omega)) hP hD hS (lv_sub hl [0, 2, 3, 4] rfl)
                  · skip
                    have cb : (blkTo (fun z => (cpF ei2 (unitG tp fr tn) 8) (0 + z)) 8) = false := bI_0.mp cb
                    have hbl : blkTo (unitG tp fr tn) 8 = false := hbq.symm.trans cb
                    refine lv_aload_n (pc := 139) hx hb dX4_install_139 rfl (lv_at hl 3 rfl) ?_
                    refine lv_iconst (pc := 140) (v := nI 5) hx hb dX4_install_140 (by decide) ?_
                    refine lv_iload_n (pc := 141) hx hb dX4_install_141 rfl (lv_at hl 4 rfl) ?_
                    refine lv_imul (pc := 142) hx hb dX4_install_142 ?_
                    refine lv_cv (x_mulc 5 w) ?_
                    refine lv_iconst (pc := 143) (v := nI 0) hx hb dX4_install_143 (by decide) ?_
                    refine x_roi (pc := 144) (va_runS (As := [.int (nI (w * 5)), .int (nI 0)]) (rest := [.ref g0]) ⟨hx, hb, hml, hown, hts⟩ (kX4_unit l dC dI tt cI cB _ (w * 5) 0) (va_cwS 2 hts gX4_install_X4_unit rfl rfl rfl (by decide +kernel) ⟨Nat.le_of_ble_eq_true rfl, Nat.le_of_ble_eq_true rfl⟩) (x_preS hS hE hK hP hD [] rfl (by decide) (x_ro hS hA) xR0) rfl rfl hl.1 rfl (lv_room (Nat.le_of_ble_eq_true rfl)) dX4_install_144 ⟨Nat.le_of_ble_eq_true rfl, Nat.le_of_ble_eq_true rfl⟩) hS hA hP (fun r_71 H locs hr_71 hP hS => ?_)
                    subst hr_71
                    refine lv_iload_n (pc := 147) hx hb dX4_install_147 rfl (lv_at hl 1 rfl) ?_
                    refine lv_iadd (pc := 148) hx hb dX4_install_148 ?_
                    refine lv_cv (nI_add ((w * 5) * 256 + 0 * 8) fr) ?_
                    refine lv_cv (congrArg nI (show ((w * 5) * 256 + 0 * 8) + fr = w * 5 * 256 + fr by omega)) ?_
                    refine lv_aload_n (pc := 149) hx hb dX4_install_149 rfl (lv_at hl 3 rfl) ?_
                    refine va_get (pc := 150) (D := (dC, dI)) (ci := 4) (v := .ref g8) (C := RX4) (T := TX4) (N := 26) hx hb hts (by decide +kernel) hown hK hP 0 rfl rfl 20 (by decide) (hts (.fieldLink RX4 36 "ScratchSwapModel" "eight" "[B") (by decide +kernel)) (fun _ h9 => h9) rfl dX4_install_150 ?_
                    refine lv_iconst (pc := 153) (v := nI 0) hx hb dX4_install_153 (by decide) ?_
                    refine x_wrva (pc := 154) (va_runV (As := [.int (nI (w * 5 * 256 + fr)), .ref g8, .int (nI 0)]) (rest := []) ⟨hx, hb, hml, hown, hts⟩ (kX4_writeE l dC dI tt cI cB _ g0 g1 g2 g3 g4 g5 g6 g7 g8 g9 g10 g11 g12 g13 k dr2 er2 pl2 un2 li2 (-1) tp 0 rn vs bo ex wr (cpF ei2 (unitG tp fr tn) 8) dg_59 wo_60 pa_61 ch_62 fi L2 (w * 5 * 256 + fr) 0 (unitG tp fr tn) hL2 (by omega) hei (by omega) (by omega)) (cwV 3 hts gX4_install_X4_write rfl rfl rfl (by decide +kernel) ⟨Nat.le_of_ble_eq_true rfl, Nat.le_of_ble_eq_true rfl⟩) (x_preVa hS hE hK hP hD (x_all hD hS hA) xR0 4 0 rfl rfl) rfl rfl hl.1 rfl (lv_room (Nat.le_of_ble_eq_true rfl)) dX4_install_154 ⟨Nat.le_of_ble_eq_true rfl, Nat.le_of_ble_eq_true rfl⟩) hS hA hD (fun u_72 H locs hu_72 hP hD hS => ?_)
                    obtain ⟨dr_73, er_74, pl_75, un_76, li_77⟩ := u_72
                    obtain ⟨hL_78, hd_79⟩ : lstR (L2 ++ ([Sum.inr (w * 5 * 256 + fr, unitG tp fr tn)])) er_74 pl_75 un_76 li_77 ∧ dr_73 = andFn dr2 (w * 5 * 256 + fr) (unitG tp fr tn) 8 := hu_72
                    have hP : va_P (dC, dI) vwCl (gW g0 g1 g2 g3 g4 g5 g6 g7 g8 g9 g10 g11 g12 g13 cI cB k dr_73 er_74 pl_75 un_76 li_77 (-1) tp 0 rn vs bo ex wr (cpF ei2 (unitG tp fr tn) 8) dg_59 wo_60 pa_61 ch_62 fi) _ := hP
                    have hD : va_D A (gW g0 g1 g2 g3 g4 g5 g6 g7 g8 g9 g10 g11 g12 g13 cI cB k dr_73 er_74 pl_75 un_76 li_77 (-1) tp 0 rn vs bo ex wr (cpF ei2 (unitG tp fr tn) 8) dg_59 wo_60 pa_61 ch_62 fi) := hD
                    have hlen_li_77 : li_77 = li2 + 1 := by rw [hL_78.1, List.length_append, ← hL2.1]; rfl
                    refine lv_iinc (pc := 157) (v := nI (fr + 8)) (lv' := [(3, .int (nI (fr + 8))), (4, .int (nI 8)), (2, .int (nI tn)), (0, .ref g0), (1, .int (nI w))]) hx hb dX4_install_157 hl (k := 1) rfl (nI_inc fr 8) (by decide) rfl (fun ls hl => ?_)
                    refine lv_goto (pc := 160) (tgt := 79) hx hb dX4_install_160 (by decide) ?_
                    exact ih79 (d2, fr + 8, L2 ++ ([Sum.inr (w * 5 * 256 + fr, unitG tp fr tn)]), dr_73, er_74, pl_75, un_76, li_77, cpF ei2 (unitG tp fr tn) 8) H locs ls ⟨by rw [hT2, rowL_s, unitL, if_neg (by rw [hbl]; decide), List.append_assoc], hL_78, by omega, by omega⟩ (by first | omega | (simp only []; omega)) hP hD hS (lv_sub hl [0, 2, 3, 4] rfl)
                · skip
                  have c8 : ¬ 8 ≤ i := fun z => c8 ((nI_leI (a := 8) (b := i) (by omega) (by omega)).mpr z)
                  refine lv_aload_n (pc := 94) hx hb dX4_install_94 rfl (lv_at hl 3 rfl) ?_
                  refine va_get (pc := 95) (D := (dC, dI)) (ci := 4) (v := .ref g8) (C := RX4) (T := TX4) (N := 26) hx hb hts (by decide +kernel) hown hK hP 0 rfl rfl 20 (by decide) (hts (.fieldLink RX4 36 "ScratchSwapModel" "eight" "[B") (by decide +kernel)) (fun _ h9 => h9) rfl dX4_install_95 ?_
                  refine lv_iload (pc := 98) hx hb dX4_install_98 (lv_at hl 0 rfl) ?_
                  refine lv_iload_n (pc := 100) hx hb dX4_install_100 rfl (lv_at hl 1 rfl) ?_
                  refine lv_iload (pc := 101) hx hb dX4_install_101 (lv_at hl 0 rfl) ?_
                  refine lv_iadd (pc := 103) hx hb dX4_install_103 ?_
                  refine lv_cv (nI_add fr i) ?_
                  refine lv_iload_n (pc := 104) hx hb dX4_install_104 rfl (lv_at hl 2 rfl) ?_
                  refine lv_icmp_ge (pc := 105) (tgt := 120) hx hb dX4_install_105 (by decide) (fun ca => ?_) (fun ca => ?_)
                  · skip
                    have ca : tn ≤ (fr + i) := (nI_leI (a := tn) (b := (fr + i)) (by omega) (by omega)).mp ca
                    refine lv_iconst (pc := 120) (v := (-1)) hx hb dX4_install_120 (by decide) ?_
                    refine lv_cv (show (-1 : Int32) = Int8.toInt32 (unitG tp fr tn i) by unfold unitG; rw [if_neg (by omega)]; decide) ?_
                    refine x_sst (pc := 121) (k := i) (F := cpF ei2 (unitG tp fr tn) i) hx hb hK hP hD hS 8 1 rfl rfl (by omega) (by decide) dX4_install_121 (fun H locs hP hD hS => ?_)
                    have hP : va_P (dC, dI) vwCl (gW g0 g1 g2 g3 g4 g5 g6 g7 g8 g9 g10 g11 g12 g13 cI cB k dr2 er2 pl2 un2 li2 (-1) tp 0 rn vs bo ex wr (va_up (cpF ei2 (unitG tp fr tn) i) i (unitG tp fr tn i)) dg_59 wo_60 pa_61 ch_62 fi) _ := hP
                    have hD : va_D A (gW g0 g1 g2 g3 g4 g5 g6 g7 g8 g9 g10 g11 g12 g13 cI cB k dr2 er2 pl2 un2 li2 (-1) tp 0 rn vs bo ex wr (va_up (cpF ei2 (unitG tp fr tn) i) i (unitG tp fr tn i)) dg_59 wo_60 pa_61 ch_62 fi) := hD
                    refine lv_iinc (pc := 122) (v := nI (i + 1)) (lv' := [(4, .int (nI (i + 1))), (3, .int (nI fr)), (2, .int (nI tn)), (0, .ref g0), (1, .int (nI w))]) hx hb dX4_install_122 hl (k := 0) rfl (nI_inc i 1) (by decide) rfl (fun ls hl => ?_)
                    refine lv_goto (pc := 125) (tgt := 87) hx hb dX4_install_125 (by decide) ?_
                    rw [cpF_step] at hP hD
                    exact ih87 (i + 1) H locs ls (by omega) (by first | omega | (simp only []; omega)) hP hD hS (lv_sub hl [0, 1, 2, 3, 4] rfl)
                  · skip
                    have ca : ¬ tn ≤ (fr + i) := fun z => ca ((nI_leI (a := tn) (b := (fr + i)) (by omega) (by omega)).mpr z)
                    refine lv_aload_n (pc := 108) hx hb dX4_install_108 rfl (lv_at hl 3 rfl) ?_
                    refine va_get (pc := 109) (D := (dC, dI)) (ci := 4) (v := .ref g6) (C := RX4) (T := TX4) (N := 26) hx hb hts (by decide +kernel) hown hK hP 0 rfl rfl 7 (by decide) (hts (.fieldLink RX4 26 "ScratchSwapModel" "tape" "[B") (by decide +kernel)) (fun _ h9 => h9) rfl dX4_install_109 ?_
                    refine lv_iload_n (pc := 112) hx hb dX4_install_112 rfl (lv_at hl 1 rfl) ?_
                    refine lv_iload (pc := 113) hx hb dX4_install_113 (lv_at hl 0 rfl) ?_
                    refine lv_iadd (pc := 115) hx hb dX4_install_115 ?_
                    refine lv_cv (nI_add fr i) ?_
                    refine x_bald (pc := 116) (k := fr + i) (f := fun j => Int8.toInt32 (tp j)) hx hb hK hP 6 1 rfl rfl (by omega) (by decide) dX4_install_116 ?_
                    refine lv_goto (pc := 117) (tgt := 121) hx hb dX4_install_117 (by decide) ?_
                    refine lv_cv (congrArg Int8.toInt32 (show _ = unitG tp fr tn i by unfold unitG; rw [if_pos (by omega)])) ?_
                    refine x_sst (pc := 121) (k := i) (F := cpF ei2 (unitG tp fr tn) i) hx hb hK hP hD hS 8 1 rfl rfl (by omega) (by decide) dX4_install_121 (fun H locs hP hD hS => ?_)
                    have hP : va_P (dC, dI) vwCl (gW g0 g1 g2 g3 g4 g5 g6 g7 g8 g9 g10 g11 g12 g13 cI cB k dr2 er2 pl2 un2 li2 (-1) tp 0 rn vs bo ex wr (va_up (cpF ei2 (unitG tp fr tn) i) i (unitG tp fr tn i)) dg_59 wo_60 pa_61 ch_62 fi) _ := hP
                    have hD : va_D A (gW g0 g1 g2 g3 g4 g5 g6 g7 g8 g9 g10 g11 g12 g13 cI cB k dr2 er2 pl2 un2 li2 (-1) tp 0 rn vs bo ex wr (va_up (cpF ei2 (unitG tp fr tn) i) i (unitG tp fr tn i)) dg_59 wo_60 pa_61 ch_62 fi) := hD
                    refine lv_iinc (pc := 122) (v := nI (i + 1)) (lv' := [(4, .int (nI (i + 1))), (3, .int (nI fr)), (2, .int (nI tn)), (0, .ref g0), (1, .int (nI w))]) hx hb dX4_install_122 hl (k := 0) rfl (nI_inc i 1) (by decide) rfl (fun ls hl => ?_)
                    refine lv_goto (pc := 125) (tgt := 87) hx hb dX4_install_125 (by decide) ?_
                    rw [cpF_step] at hP hD
                    exact ih87 (i + 1) H locs ls (by omega) (by first | omega | (simp only []; omega)) hP hD hS (lv_sub hl [0, 1, 2, 3, 4] rfl)
            · skip
              have c6 : ¬ 5 ≤ q := fun z => c6 ((nI_leI (a := 5) (b := q) (by omega) (by omega)).mpr z)
              obtain ⟨d, rfl⟩ : ∃ z, d = z + 1 := ⟨d - 1, by omega⟩
              refine lv_aload_n (pc := 62) hx hb dX4_install_62 rfl (lv_at hl 2 rfl) ?_
              refine lv_iconst (pc := 63) (v := nI 5) hx hb dX4_install_63 (by decide) ?_
              refine lv_iload_n (pc := 64) hx hb dX4_install_64 rfl (lv_at hl 3 rfl) ?_
              refine lv_imul (pc := 65) hx hb dX4_install_65 ?_
              refine lv_cv (x_mulc 5 w) ?_
              refine lv_iload_n (pc := 66) hx hb dX4_install_66 rfl (lv_at hl 0 rfl) ?_
              refine lv_iadd (pc := 67) hx hb dX4_install_67 ?_
              refine lv_cv (nI_add (w * 5) q) ?_
              refine x_wrva (pc := 68) (va_runV (As := [.int (nI ((w * 5) + q))]) (rest := []) ⟨hx, hb, hml, hown, hts⟩ (kX4_erase l dC dI tt cI cB _ g0 g1 g2 g3 g4 g5 g6 g7 g8 g9 g10 g11 g12 g13 k dr1 er1 pl1 un1 li1 (-1) tp 0 rn vs bo ex wr ei dg_59 wo_60 pa_61 ch_62 fi L1 ((w * 5) + q) hL1 (by omega) (by omega)) (cwV 1 hts gX4_install_X4_erase rfl rfl rfl (by decide +kernel) ⟨Nat.le_of_ble_eq_true rfl, Nat.le_of_ble_eq_true rfl⟩) (x_preVa hS hE hK hP hD (x_all hD hS hA) xR0 4 0 rfl rfl) rfl rfl hl.1 rfl (lv_room (Nat.le_of_ble_eq_true rfl)) dX4_install_68 ⟨Nat.le_of_ble_eq_true rfl, Nat.le_of_ble_eq_true rfl⟩) hS hA hD (fun u_80 H locs hu_80 hP hD hS => ?_)
              obtain ⟨dr_81, er_82, pl_83, un_84, li_85⟩ := u_80
              obtain ⟨hL_86, hd_87⟩ : lstR (L1 ++ ([Sum.inl ((w * 5) + q)])) er_82 pl_83 un_84 li_85 ∧ dr_81 = fillF dr1 (((w * 5) + q) * 256) 256 := hu_80
              have hP : va_P (dC, dI) vwCl (gW g0 g1 g2 g3 g4 g5 g6 g7 g8 g9 g10 g11 g12 g13 cI cB k dr_81 er_82 pl_83 un_84 li_85 (-1) tp 0 rn vs bo ex wr ei dg_59 wo_60 pa_61 ch_62 fi) _ := hP
              have hD : va_D A (gW g0 g1 g2 g3 g4 g5 g6 g7 g8 g9 g10 g11 g12 g13 cI cB k dr_81 er_82 pl_83 un_84 li_85 (-1) tp 0 rn vs bo ex wr ei dg_59 wo_60 pa_61 ch_62 fi) := hD
              have hlen_li_85 : li_85 = li1 + 1 := by rw [hL_86.1, List.length_append, ← hL1.1]; rfl
              refine lv_iinc (pc := 71) (v := nI (q + 1)) (lv' := [(3, .int (nI (q + 1))), (2, .int (nI tn)), (0, .ref g0), (1, .int (nI w))]) hx hb dX4_install_71 hl (k := 0) rfl (nI_inc q 1) (by decide) rfl (fun ls hl => ?_)
              refine lv_goto (pc := 74) (tgt := 57) hx hb dX4_install_74 (by decide) ?_
              exact ih57 (d, q + 1, L1 ++ ([Sum.inl ((w * 5) + q)]), dr_81, er_82, pl_83, un_84, li_85) H locs ls ⟨by rw [hT, er5_s, List.append_assoc], hL_86, by omega, by omega⟩ (by first | omega | (simp only []; omega)) hP hD hS (lv_sub hl [0, 1, 2, 3] rfl)
          · skip
            have c5 : w = 0 := (nI_eq (a := w) (b := 0) (by omega) (by omega)).mp c5
            refine lv_aload_n (pc := 46) hx hb dX4_install_46 rfl (lv_at hl 1 rfl) ?_
            refine lv_iconst (pc := 47) (v := nI 0) hx hb dX4_install_47 (by decide) ?_
            refine lv_cv (show nI 0 = bI false from rfl) ?_
            refine va_put (pc := 48) (D := (dC, dI)) (ci := 4) (v := .int (bI false)) (ty := .boolean) (C := RX4) (T := TX4) (N := 26) hx hb hts (by decide +kernel) tyX4 tyX4_ok nmX4 hown hK hP hD hS 0 rfl rfl 10 (by decide) (hts (.fieldLink RX4 92 "ScratchSwapModel" "runs" "Z") (by decide +kernel)) (fun _ h9 => h9) rfl (by decide +kernel) (nbI false) (fbI false) (Nat.le_of_ble_eq_true rfl) dX4_install_48 (fun H locs hP hD hS => ?_)
            have hP : va_P (dC, dI) vwCl (gW g0 g1 g2 g3 g4 g5 g6 g7 g8 g9 g10 g11 g12 g13 cI cB k dr er pl un li ov tp 0 false vs bo ex wr ei dg_59 wo_60 pa_61 ch_62 fi) _ := hP
            have hD : va_D A (gW g0 g1 g2 g3 g4 g5 g6 g7 g8 g9 g10 g11 g12 g13 cI cB k dr er pl un li ov tp 0 false vs bo ex wr ei dg_59 wo_60 pa_61 ch_62 fi) := hD
            refine lv_aload_n (pc := 51) hx hb dX4_install_51 rfl (lv_at hl 1 rfl) ?_
            refine x_wrva (pc := 52) (va_runV (As := []) (rest := []) ⟨hx, hb, hml, hown, hts⟩ (kX4_begins l dC dI tt cI cB _ g0 g1 g2 g3 g4 g5 g6 g7 g8 g9 g10 g11 g12 g13 k dr er pl un li ov tp 0 false vs bo ex wr ei dg_59 wo_60 pa_61 ch_62 fi ) (cwV 0 hts gX4_install_X4_begins rfl rfl rfl (by decide +kernel) ⟨Nat.le_of_ble_eq_true rfl, Nat.le_of_ble_eq_true rfl⟩) (x_preVa hS hE hK hP hD (x_all hD hS hA) xR0 4 0 rfl rfl) rfl rfl hl.1 rfl (lv_room (Nat.le_of_ble_eq_true rfl)) dX4_install_52 ⟨Nat.le_of_ble_eq_true rfl, Nat.le_of_ble_eq_true rfl⟩) hS hA hD (fun u_88 H locs hu_88 hP hD hS => ?_)
            have hdr : eqF u_88 k.1 := hu_88
            have hP : va_P (dC, dI) vwCl (gW g0 g1 g2 g3 g4 g5 g6 g7 g8 g9 g10 g11 g12 g13 cI cB k u_88 er pl un 0 (-1) tp 0 false vs bo ex wr ei dg_59 wo_60 pa_61 ch_62 fi) _ := hP
            have hD : va_D A (gW g0 g1 g2 g3 g4 g5 g6 g7 g8 g9 g10 g11 g12 g13 cI cB k u_88 er pl un 0 (-1) tp 0 false vs bo ex wr ei dg_59 wo_60 pa_61 ch_62 fi) := hD
            have hL0 : lstR [] er pl un 0 := lst_0 _ _ _
            refine lv_iconst (pc := 55) (v := nI 0) hx hb dX4_install_55 (by decide) ?_
            refine lv_istore_n (pc := 56) (lv' := [(3, .int (nI 0)), (2, .int (nI tn)), (0, .ref g0), (1, .int (nI w))]) hx hb dX4_install_56 rfl hl (by decide) rfl (fun ls hl => ?_)
            refine x_loop (σ := (Nat) × (Nat) × (List Act) × (Nat → Int8) × (Nat → Int32) × (Nat → Int32) × (Nat → Int8) × (Nat)) (Wd := fun x : (Nat) × (Nat) × (List Act) × (Nat → Int8) × (Nat → Int32) × (Nat → Int32) × (Nat → Int8) × (Nat) => match x with | (d, q, L1, dr1, er1, pl1, un1, li1) => gW g0 g1 g2 g3 g4 g5 g6 g7 g8 g9 g10 g11 g12 g13 cI cB k dr1 er1 pl1 un1 li1 (-1) tp 0 false vs bo ex wr ei dg_59 wo_60 pa_61 ch_62 fi) (Lv := fun x : (Nat) × (Nat) × (List Act) × (Nat → Int8) × (Nat → Int32) × (Nat → Int32) × (Nat → Int8) × (Nat) => match x with | (d, q, L1, dr1, er1, pl1, un1, li1) => [(3, .int (nI q)), (2, .int (nI tn)), (0, .ref g0), (1, .int (nI w))]) (I := fun x : (Nat) × (Nat) × (List Act) × (Nat → Int8) × (Nat → Int32) × (Nat → Int32) × (Nat → Int8) × (Nat) => match x with | (d, q, L1, dr1, er1, pl1, un1, li1) => (eraL w = L1 ++ er5 w d q) ∧ (lstR L1 er1 pl1 un1 li1) ∧ (q + d = 5) ∧ (li1 ≤ q)) (μ := fun x : (Nat) × (Nat) × (List Act) × (Nat → Int8) × (Nat → Int32) × (Nat → Int32) × (Nat → Int8) × (Nat) => match x with | (d, q, L1, dr1, er1, pl1, un1, li1) => d) ?_ (5, 0, [], u_88, er, pl, un, 0) ⟨rfl, hL0, rfl, Nat.le_refl _⟩ hP hD hS (lv_sub hl [0, 1, 2, 3] rfl)
            intro x H locs ls hI hP hD hS hl ih57
            obtain ⟨d, q, L1, dr1, er1, pl1, un1, li1⟩ := x
            obtain ⟨hT, hL1, hd, hli1⟩ : (eraL w = L1 ++ er5 w d q) ∧ (lstR L1 er1 pl1 un1 li1) ∧ (q + d = 5) ∧ (li1 ≤ q) := hI
            have hP : va_P (dC, dI) vwCl (gW g0 g1 g2 g3 g4 g5 g6 g7 g8 g9 g10 g11 g12 g13 cI cB k dr1 er1 pl1 un1 li1 (-1) tp 0 false vs bo ex wr ei dg_59 wo_60 pa_61 ch_62 fi) _ := hP
            have hD : va_D A (gW g0 g1 g2 g3 g4 g5 g6 g7 g8 g9 g10 g11 g12 g13 cI cB k dr1 er1 pl1 un1 li1 (-1) tp 0 false vs bo ex wr ei dg_59 wo_60 pa_61 ch_62 fi) := hD
            have hl : lv_has ls 5 [(3, .int (nI q)), (2, .int (nI tn)), (0, .ref g0), (1, .int (nI w))] := hl
            refine lv_iload_n (pc := 57) hx hb dX4_install_57 rfl (lv_at hl 0 rfl) ?_
            refine lv_iconst (pc := 58) (v := nI 5) hx hb dX4_install_58 (by decide) ?_
            refine lv_icmp_ge (pc := 59) (tgt := 77) hx hb dX4_install_59 (by decide) (fun c6 => ?_) (fun c6 => ?_)
            · skip
              have c6 : 5 ≤ q := (nI_leI (a := 5) (b := q) (by omega) (by omega)).mp c6
              have hd0 : d = 0 := by omega
              rw [hd0, show er5 w 0 q = [] from rfl, List.append_nil] at hT
              rw [← hT] at hL1
              refine lv_iconst (pc := 77) (v := nI 0) hx hb dX4_install_77 (by decide) ?_
              refine lv_istore_n (pc := 78) (lv' := [(3, .int (nI 0)), (2, .int (nI tn)), (0, .ref g0), (1, .int (nI w))]) hx hb dX4_install_78 rfl hl (by decide) rfl (fun ls hl => ?_)
              refine x_loop (σ := (Nat) × (Nat) × (List Act) × (Nat → Int8) × (Nat → Int32) × (Nat → Int32) × (Nat → Int8) × (Nat) × (Nat → Int8)) (Wd := fun x : (Nat) × (Nat) × (List Act) × (Nat → Int8) × (Nat → Int32) × (Nat → Int32) × (Nat → Int8) × (Nat) × (Nat → Int8) => match x with | (d2, fr, L2, dr2, er2, pl2, un2, li2, ei2) => gW g0 g1 g2 g3 g4 g5 g6 g7 g8 g9 g10 g11 g12 g13 cI cB k dr2 er2 pl2 un2 li2 (-1) tp 0 false vs bo ex wr ei2 dg_59 wo_60 pa_61 ch_62 fi) (Lv := fun x : (Nat) × (Nat) × (List Act) × (Nat → Int8) × (Nat → Int32) × (Nat → Int32) × (Nat → Int8) × (Nat) × (Nat → Int8) => match x with | (d2, fr, L2, dr2, er2, pl2, un2, li2, ei2) => [(3, .int (nI fr)), (2, .int (nI tn)), (0, .ref g0), (1, .int (nI w))]) (I := fun x : (Nat) × (Nat) × (List Act) × (Nat → Int8) × (Nat → Int32) × (Nat → Int32) × (Nat → Int8) × (Nat) × (Nat → Int8) => match x with | (d2, fr, L2, dr2, er2, pl2, un2, li2, ei2) => (eraL w ++ rowL (w * 5 * 256) tp tn ((tn + 7) / 8) 0 = L2 ++ rowL (w * 5 * 256) tp tn d2 fr) ∧ (lstR L2 er2 pl2 un2 li2) ∧ (fr + 8 * d2 = 8 * ((tn + 7) / 8)) ∧ (li2 + d2 ≤ 5 + ((tn + 7) / 8))) (μ := fun x : (Nat) × (Nat) × (List Act) × (Nat → Int8) × (Nat → Int32) × (Nat → Int32) × (Nat → Int8) × (Nat) × (Nat → Int8) => match x with | (d2, fr, L2, dr2, er2, pl2, un2, li2, ei2) => d2) ?_ ((tn + 7) / 8, 0, eraL w, dr1, er1, pl1, un1, li1, ei) ⟨rfl, hL1, by omega, by omega⟩ hP hD hS (lv_sub hl [0, 1, 2, 3] rfl)
              intro x H locs ls hI hP hD hS hl ih79
              obtain ⟨d2, fr, L2, dr2, er2, pl2, un2, li2, ei2⟩ := x
              obtain ⟨hT2, hL2, hd2, hli2⟩ : (eraL w ++ rowL (w * 5 * 256) tp tn ((tn + 7) / 8) 0 = L2 ++ rowL (w * 5 * 256) tp tn d2 fr) ∧ (lstR L2 er2 pl2 un2 li2) ∧ (fr + 8 * d2 = 8 * ((tn + 7) / 8)) ∧ (li2 + d2 ≤ 5 + ((tn + 7) / 8)) := hI
              have hP : va_P (dC, dI) vwCl (gW g0 g1 g2 g3 g4 g5 g6 g7 g8 g9 g10 g11 g12 g13 cI cB k dr2 er2 pl2 un2 li2 (-1) tp 0 false vs bo ex wr ei2 dg_59 wo_60 pa_61 ch_62 fi) _ := hP
              have hD : va_D A (gW g0 g1 g2 g3 g4 g5 g6 g7 g8 g9 g10 g11 g12 g13 cI cB k dr2 er2 pl2 un2 li2 (-1) tp 0 false vs bo ex wr ei2 dg_59 wo_60 pa_61 ch_62 fi) := hD
              have hl : lv_has ls 5 [(3, .int (nI fr)), (2, .int (nI tn)), (0, .ref g0), (1, .int (nI w))] := hl
              refine lv_iload_n (pc := 79) hx hb dX4_install_79 rfl (lv_at hl 0 rfl) ?_
              refine lv_iload_n (pc := 80) hx hb dX4_install_80 rfl (lv_at hl 1 rfl) ?_
              refine lv_icmp_ge (pc := 81) (tgt := 163) hx hb dX4_install_81 (by decide) (fun c7 => ?_) (fun c7 => ?_)
              · skip
                have c7 : tn ≤ fr := (nI_leI (a := tn) (b := fr) (by omega) (by omega)).mp c7
                have hd0 : d2 = 0 := by omega
                rw [hd0, show rowL (w * 5 * 256) tp tn 0 fr = [] from rfl, List.append_nil] at hT2
                have hLI : L2 = insL w tp tn := hT2.symm
                rw [hLI] at hL2
                refine lv_aload_n (pc := 163) hx hb dX4_install_163 rfl (lv_at hl 2 rfl) ?_
                refine x_wria (pc := 164) (va_runV (As := []) (rest := []) ⟨hx, hb, hml, hown, hts⟩ (kX4_does l dC dI tt cI cB _ g0 g1 g2 g3 g4 g5 g6 g7 g8 g9 g10 g11 g12 g13 k dr2 er2 pl2 un2 li2 (-1) tp 0 false vs bo ex wr ei2 dg_59 wo_60 pa_61 ch_62 fi (insL w tp tn) false hk hL2 (by omega) rfl) (cwV 0 hts gX4_install_X4_does rfl rfl rfl (by decide +kernel) ⟨Nat.le_of_ble_eq_true rfl, Nat.le_of_ble_eq_true rfl⟩) (x_preVa hS hE hK hP hD (x_all hD hS hA) xR0 4 0 rfl rfl) rfl rfl hl.1 rfl (lv_room (Nat.le_of_ble_eq_true rfl)) dX4_install_164 ⟨Nat.le_of_ble_eq_true rfl, Nat.le_of_ble_eq_true rfl⟩) hS hA hD (fun r_90 u_89 H locs hu_89 hP hD hS => ?_)
                obtain ⟨k_92, ex_93, rn_94⟩ := u_89
                obtain ⟨hr_90, ek_92, eex_93, ern_94⟩ : r_90 = bI (kActs (insL w tp tn) k).2 ∧ k_92 = (kActs (insL w tp tn) k).1 ∧ ex_93 = (if false = true ∧ 0 < (insL w tp tn).length ∧ (kActs (insL w tp tn) k).2 = true then ex + nI 1 else ex) ∧ rn_94 = (if (kActs (insL w tp tn) k).2 = true then false else false) := hu_89
                obtain ⟨b_91, eb_91⟩ : ∃ z, z = (kActs (insL w tp tn) k).2 := ⟨_, rfl⟩
                rw [← eb_91] at hr_90
                subst hr_90
                have hP : va_P (dC, dI) vwCl (gW g0 g1 g2 g3 g4 g5 g6 g7 g8 g9 g10 g11 g12 g13 cI cB k_92 dr2 er2 pl2 un2 li2 (-1) tp 0 rn_94 vs bo ex_93 wr ei2 dg_59 wo_60 pa_61 ch_62 fi) _ := hP
                have hD : va_D A (gW g0 g1 g2 g3 g4 g5 g6 g7 g8 g9 g10 g11 g12 g13 cI cB k_92 dr2 er2 pl2 un2 li2 (-1) tp 0 rn_94 vs bo ex_93 wr ei2 dg_59 wo_60 pa_61 ch_62 fi) := hD
                refine lv_if_eq (pc := 167) (tgt := 174) hx hb dX4_install_167 (by decide) (fun c9 => ?_) (fun c9 => ?_)
                · skip
                  have c9 : b_91 = false := bI_0.mp c9
                  refine lv_bipush (pc := 174) (v := (-9)) hx hb dX4_install_174 (by decide) ?_
                  have f1 : (kActs (insL w tp tn) k).2 = false := eb_91.symm.trans c9
                  exact W.iret (v := (-9)) hx hb hr (fun t ht hW => ⟨⟨(-9), (k_92, dr2, er2, pl2, un2, li2, (-1), rn_94, ex_93, ei2, vs, bo, wr, dg_59, wo_60, pa_61, ch_62), rfl, ⟨by rw [insR, if_neg (by rw [c1]; decide), if_neg (by rw [hsl]; decide), if_neg (fun z => c4 ((dueN_5 _).mpr z)), hcl, if_neg (by rw [f1]; decide), ← ek_92, ern_94, if_neg (by rw [f1]; decide)]; rfl, by show ex_93 = ex; rw [eex_93, if_neg (fun z => absurd z.1 (by decide))], rfl, rfl⟩, by show va_P _ _ _ t.heap; rw [ht]; exact hP, va_K.moved hW.alike hK, hD⟩, hS.F ht⟩) hS.2.2 dX4_install_176
                · skip
                  have c9 : b_91 = true := bI_1.mp c9
                  refine lv_iload_n (pc := 170) hx hb dX4_install_170 rfl (lv_at hl 1 rfl) ?_
                  refine lv_goto (pc := 171) (tgt := 176) hx hb dX4_install_171 (by decide) ?_
                  have f1 : (kActs (insL w tp tn) k).2 = true := eb_91.symm.trans c9
                  exact W.iret (v := nI tn) hx hb hr (fun t ht hW => ⟨⟨nI tn, (k_92, dr2, er2, pl2, un2, li2, (-1), rn_94, ex_93, ei2, vs, bo, wr, dg_59, wo_60, pa_61, ch_62), rfl, ⟨by rw [insR, if_neg (by rw [c1]; decide), if_neg (by rw [hsl]; decide), if_neg (fun z => c4 ((dueN_5 _).mpr z)), hcl, if_pos f1, ← ek_92, ern_94, if_pos f1, if_pos c5, if_pos c5]; rfl, by show ex_93 = ex; rw [eex_93, if_neg (fun z => absurd z.1 (by decide))], rfl, rfl⟩, by show va_P _ _ _ t.heap; rw [ht]; exact hP, va_K.moved hW.alike hK, hD⟩, hS.F ht⟩) hS.2.2 dX4_install_176
              · skip
                have c7 : ¬ tn ≤ fr := fun z => c7 ((nI_leI (a := tn) (b := fr) (by omega) (by omega)).mpr z)
                obtain ⟨d2, rfl⟩ : ∃ z, d2 = z + 1 := ⟨d2 - 1, by omega⟩
                refine lv_iconst (pc := 84) (v := nI 0) hx hb dX4_install_84 (by decide) ?_
                refine lv_istore (pc := 85) (lv' := [(4, .int (nI 0)), (3, .int (nI fr)), (2, .int (nI tn)), (0, .ref g0), (1, .int (nI w))]) hx hb dX4_install_85 hl (by decide) rfl (fun ls hl => ?_)
                rw [← cpF_0 ei2 (unitG tp fr tn)] at hP hD
                refine x_loop (σ := (Nat)) (Wd := fun i : (Nat) => gW g0 g1 g2 g3 g4 g5 g6 g7 g8 g9 g10 g11 g12 g13 cI cB k dr2 er2 pl2 un2 li2 (-1) tp 0 false vs bo ex wr (cpF ei2 (unitG tp fr tn) i) dg_59 wo_60 pa_61 ch_62 fi) (Lv := fun i : (Nat) => [(4, .int (nI i)), (3, .int (nI fr)), (2, .int (nI tn)), (0, .ref g0), (1, .int (nI w))]) (I := fun i : (Nat) => (i ≤ 8)) (μ := fun i : (Nat) => 8 - i) ?_ (0) (by omega) hP hD hS (lv_sub hl [0, 1, 2, 3, 4] rfl)
                intro i H locs ls hI hP hD hS hl ih87
                have hi : (i ≤ 8) := hI
                have hP : va_P (dC, dI) vwCl (gW g0 g1 g2 g3 g4 g5 g6 g7 g8 g9 g10 g11 g12 g13 cI cB k dr2 er2 pl2 un2 li2 (-1) tp 0 false vs bo ex wr (cpF ei2 (unitG tp fr tn) i) dg_59 wo_60 pa_61 ch_62 fi) _ := hP
                have hD : va_D A (gW g0 g1 g2 g3 g4 g5 g6 g7 g8 g9 g10 g11 g12 g13 cI cB k dr2 er2 pl2 un2 li2 (-1) tp 0 false vs bo ex wr (cpF ei2 (unitG tp fr tn) i) dg_59 wo_60 pa_61 ch_62 fi) := hD
                have hl : lv_has ls 5 [(4, .int (nI i)), (3, .int (nI fr)), (2, .int (nI tn)), (0, .ref g0), (1, .int (nI w))] := hl
                refine lv_iload (pc := 87) hx hb dX4_install_87 (lv_at hl 0 rfl) ?_
                refine lv_bipush (pc := 89) (v := nI 8) hx hb dX4_install_89 (by decide) ?_
                refine lv_icmp_ge (pc := 91) (tgt := 128) hx hb dX4_install_91 (by decide) (fun c8 => ?_) (fun c8 => ?_)
                · skip
                  have c8 : 8 ≤ i := (nI_leI (a := 8) (b := i) (by omega) (by omega)).mp c8
                  have hi9 : i = 8 := by omega
                  subst hi9
                  have hei : ∀ z, z < 8 → cpF ei2 (unitG tp fr tn) 8 (0 + z) = unitG tp fr tn z := fun z hz => by rw [Nat.zero_add]; unfold cpF; rw [if_pos hz]
                  have hbq : blkTo (fun z => cpF ei2 (unitG tp fr tn) 8 (0 + z)) 8 = blkTo (unitG tp fr tn) 8 := eqTo_c hei (fun _ _ => rfl)
                  have hP : va_P (dC, dI) vwCl (gW g0 g1 g2 g3 g4 g5 g6 g7 g8 g9 g10 g11 g12 g13 cI cB k dr2 er2 pl2 un2 li2 (-1) tp 0 false vs bo ex wr (cpF ei2 (unitG tp fr tn) 8) dg_59 wo_60 pa_61 ch_62 fi) _ := hP
                  have hD : va_D A (gW g0 g1 g2 g3 g4 g5 g6 g7 g8 g9 g10 g11 g12 g13 cI cB k dr2 er2 pl2 un2 li2 (-1) tp 0 false vs bo ex wr (cpF ei2 (unitG tp fr tn) 8) dg_59 wo_60 pa_61 ch_62 fi) := hD
                  refine lv_aload_n (pc := 128) hx hb dX4_install_128 rfl (lv_at hl 3 rfl) ?_
                  refine va_get (pc := 129) (D := (dC, dI)) (ci := 4) (v := .ref g8) (C := RX4) (T := TX4) (N := 26) hx hb hts (by decide +kernel) hown hK hP 0 rfl rfl 20 (by decide) (hts (.fieldLink RX4 36 "ScratchSwapModel" "eight" "[B") (by decide +kernel)) (fun _ h9 => h9) rfl dX4_install_129 ?_
                  refine lv_iconst (pc := 132) (v := nI 0) hx hb dX4_install_132 (by decide) ?_
                  refine x_roi (pc := 133) (va_runS (As := [.ref g8, .int (nI 0)]) (rest := []) ⟨hx, hb, hml, hown, hts⟩ (kX4_isBlank l dC dI tt cI cB _ g8 8 (cpF ei2 (unitG tp fr tn) 8) 0 (by omega) (by omega)) (va_cwS 2 hts gX4_install_X4_isBlank rfl rfl rfl (by decide +kernel) ⟨Nat.le_of_ble_eq_true rfl, Nat.le_of_ble_eq_true rfl⟩) (x_preS hS hE hK hP hD [8] rfl (by decide) (x_ro hS hA) xR0) rfl rfl hl.1 rfl (lv_room (Nat.le_of_ble_eq_true rfl)) dX4_install_133 ⟨Nat.le_of_ble_eq_true rfl, Nat.le_of_ble_eq_true rfl⟩) hS hA hP (fun r_95 H locs hr_95 hP hS => ?_)
                  subst hr_95
                  refine lv_if_ne (pc := 136) (tgt := 157) hx hb dX4_install_136 (by decide) (fun cb => ?_) (fun cb => ?_)
                  · skip
                    have cb : (blkTo (fun z => (cpF ei2 (unitG tp fr tn) 8) (0 + z)) 8) = true := bI_1.mp cb
                    have hbl : blkTo (unitG tp fr tn) 8 = true := hbq.symm.trans cb
                    refine lv_iinc (pc := 157) (v := nI (fr + 8)) (lv' := [(3, .int (nI (fr + 8))), (4, .int (nI 8)), (2, .int (nI tn)), (0, .ref g0), (1, .int (nI w))]) hx hb dX4_install_157 hl (k := 1) rfl (nI_inc fr 8) (by decide) rfl (fun ls hl => ?_)
                    refine lv_goto (pc := 160) (tgt := 79) hx hb dX4_install_160 (by decide) ?_
                    exact ih79 (d2, fr + 8, L2, dr2, er2, pl2, un2, li2, cpF ei2 (unitG tp fr tn) 8) H locs ls ⟨by rw [hT2, rowL_s, unitL, if_pos hbl, List.nil_append], hL2, by omega, by omega⟩ (by first | omega | (simp only []; omega)) hP hD hS (lv_sub hl [0, 2, 3, 4] rfl)
                  · skip
                    have cb : (blkTo (fun z => (cpF ei2 (unitG tp fr tn) 8) (0 + z)) 8) = false := bI_0.mp cb
                    have hbl : blkTo (unitG tp fr tn) 8 = false := hbq.symm.trans cb
                    refine lv_aload_n (pc := 139) hx hb dX4_install_139 rfl (lv_at hl 3 rfl) ?_
                    refine lv_iconst (pc := 140) (v := nI 5) hx hb dX4_install_140 (by decide) ?_
                    refine lv_iload_n (pc := 141) hx hb dX4_install_141 rfl (lv_at hl 4 rfl) ?_
                    refine lv_imul (pc := 142) hx hb dX4_install_142 ?_
                    refine lv_cv (x_mulc 5 w) ?_
                    refine lv_iconst (pc := 143) (v := nI 0) hx hb dX4_install_143 (by decide) ?_
                    refine x_roi (pc := 144) (va_runS (As := [.int (nI (w * 5)), .int (nI 0)]) (rest := [.ref g0]) ⟨hx, hb, hml, hown, hts⟩ (kX4_unit l dC dI tt cI cB _ (w * 5) 0) (va_cwS 2 hts gX4_install_X4_unit rfl rfl rfl (by decide +kernel) ⟨Nat.le_of_ble_eq_true rfl, Nat.le_of_ble_eq_true rfl⟩) (x_preS hS hE hK hP hD [] rfl (by decide) (x_ro hS hA) xR0) rfl rfl hl.1 rfl (lv_room (Nat.le_of_ble_eq_true rfl)) dX4_install_144 ⟨Nat.le_of_ble_eq_true rfl, Nat.le_of_ble_eq_true rfl⟩) hS hA hP (fun r_96 H locs hr_96 hP hS => ?_)
                    subst hr_96
                    refine lv_iload_n (pc := 147) hx hb dX4_install_147 rfl (lv_at hl 1 rfl) ?_
                    refine lv_iadd (pc := 148) hx hb dX4_install_148 ?_
                    refine lv_cv (nI_add ((w * 5) * 256 + 0 * 8) fr) ?_
                    refine lv_cv (congrArg nI (show ((w * 5) * 256 + 0 * 8) + fr = w * 5 * 256 + fr by omega)) ?_
                    refine lv_aload_n (pc := 149) hx hb dX4_install_149 rfl (lv_at hl 3 rfl) ?_
                    refine va_get (pc := 150) (D := (dC, dI)) (ci := 4) (v := .ref g8) (C := RX4) (T := TX4) (N := 26) hx hb hts (by decide +kernel) hown hK hP 0 rfl rfl 20 (by decide) (hts (.fieldLink RX4 36 "ScratchSwapModel" "eight" "[B") (by decide +kernel)) (fun _ h9 => h9) rfl dX4_install_150 ?_
                    refine lv_iconst (pc := 153) (v := nI 0) hx hb dX4_install_153 (by decide) ?_
                    refine x_wrva (pc := 154) (va_runV (As := [.int (nI (w * 5 * 256 + fr)), .ref g8, .int (nI 0)]) (rest := []) ⟨hx, hb, hml, hown, hts⟩ (kX4_writeE l dC dI tt cI cB _ g0 g1 g2 g3 g4 g5 g6 g7 g8 g9 g10 g11 g12 g13 k dr2 er2 pl2 un2 li2 (-1) tp 0 false vs bo ex wr (cpF ei2 (unitG tp fr tn) 8) dg_59 wo_60 pa_61 ch_62 fi L2 (w * 5 * 256 + fr) 0 (unitG tp fr tn) hL2 (by omega) hei (by omega) (by omega)) (cwV 3 hts gX4_install_X4_write rfl rfl rfl (by decide +kernel) ⟨Nat.le_of_ble_eq_true rfl, Nat.le_of_ble_eq_true rfl⟩) (x_preVa hS hE hK hP hD (x_all hD hS hA) xR0 4 0 rfl rfl) rfl rfl hl.1 rfl (lv_room (Nat.le_of_ble_eq_true rfl)) dX4_install_154 ⟨Nat.le_of_ble_eq_true rfl, Nat.le_of_ble_eq_true rfl⟩) hS hA hD (fun u_97 H locs hu_97 hP hD hS => ?_)
                    obtain ⟨dr_98, er_99, pl_100, un_101, li_102⟩ := u_97
                    obtain ⟨hL_103, hd_104⟩ : lstR (L2 ++ ([Sum.inr (w * 5 * 256 + fr, unitG tp fr tn)])) er_99 pl_100 un_101 li_102 ∧ dr_98 = andFn dr2 (w * 5 * 256 + fr) (unitG tp fr tn) 8 := hu_97
                    have hP : va_P (dC, dI) vwCl (gW g0 g1 g2 g3 g4 g5 g6 g7 g8 g9 g10 g11 g12 g13 cI cB k dr_98 er_99 pl_100 un_101 li_102 (-1) tp 0 false vs bo ex wr (cpF ei2 (unitG tp fr tn) 8) dg_59 wo_60 pa_61 ch_62 fi) _ := hP
                    have hD : va_D A (gW g0 g1 g2 g3 g4 g5 g6 g7 g8 g9 g10 g11 g12 g13 cI cB k dr_98 er_99 pl_100 un_101 li_102 (-1) tp 0 false vs bo ex wr (cpF ei2 (unitG tp fr tn) 8) dg_59 wo_60 pa_61 ch_62 fi) := hD
                    have hlen_li_102 : li_102 = li2 + 1 := by rw [hL_103.1, List.length_append, ← hL2.1]; rfl
                    refine lv_iinc (pc := 157) (v := nI (fr + 8)) (lv' := [(3, .int (nI (fr + 8))), (4, .int (nI 8)), (2, .int (nI tn)), (0, .ref g0), (1, .int (nI w))]) hx hb dX4_install_157 hl (k := 1) rfl (nI_inc fr 8) (by decide) rfl (fun ls hl => ?_)
                    refine lv_goto (pc := 160) (tgt := 79) hx hb dX4_install_160 (by decide) ?_
                    exact ih79 (d2, fr + 8, L2 ++ ([Sum.inr (w * 5 * 256 + fr, unitG tp fr tn)]), dr_98, er_99, pl_100, un_101, li_102, cpF ei2 (unitG tp fr tn) 8) H locs ls ⟨by rw [hT2, rowL_s, unitL, if_neg (by rw [hbl]; decide), List.append_assoc], hL_103, by omega, by omega⟩ (by first | omega | (simp only []; omega)) hP hD hS (lv_sub hl [0, 2, 3, 4] rfl)
                · skip
                  have c8 : ¬ 8 ≤ i := fun z => c8 ((nI_leI (a := 8) (b := i) (by omega) (by omega)).mpr z)
                  refine lv_aload_n (pc := 94) hx hb dX4_install_94 rfl (lv_at hl 3 rfl) ?_
                  refine va_get (pc := 95) (D := (dC, dI)) (ci := 4) (v := .ref g8) (C := RX4) (T := TX4) (N := 26) hx hb hts (by decide +kernel) hown hK hP 0 rfl rfl 20 (by decide) (hts (.fieldLink RX4 36 "ScratchSwapModel" "eight" "[B") (by decide +kernel)) (fun _ h9 => h9) rfl dX4_install_95 ?_
                  refine lv_iload (pc := 98) hx hb dX4_install_98 (lv_at hl 0 rfl) ?_
                  refine lv_iload_n (pc := 100) hx hb dX4_install_100 rfl (lv_at hl 1 rfl) ?_
                  refine lv_iload (pc := 101) hx hb dX4_install_101 (lv_at hl 0 rfl) ?_
                  refine lv_iadd (pc := 103) hx hb dX4_install_103 ?_
                  refine lv_cv (nI_add fr i) ?_
                  refine lv_iload_n (pc := 104) hx hb dX4_install_104 rfl (lv_at hl 2 rfl) ?_
                  refine lv_icmp_ge (pc := 105) (tgt := 120) hx hb dX4_install_105 (by decide) (fun ca => ?_) (fun ca => ?_)
                  · skip
                    have ca : tn ≤ (fr + i) := (nI_leI (a := tn) (b := (fr + i)) (by omega) (by omega)).mp ca
                    refine lv_iconst (pc := 120) (v := (-1)) hx hb dX4_install_120 (by decide) ?_
                    refine lv_cv (show (-1 : Int32) = Int8.toInt32 (unitG tp fr tn i) by unfold unitG; rw [if_neg (by omega)]; decide) ?_
                    refine x_sst (pc := 121) (k := i) (F := cpF ei2 (unitG tp fr tn) i) hx hb hK hP hD hS 8 1 rfl rfl (by omega) (by decide) dX4_install_121 (fun H locs hP hD hS => ?_)
                    have hP : va_P (dC, dI) vwCl (gW g0 g1 g2 g3 g4 g5 g6 g7 g8 g9 g10 g11 g12 g13 cI cB k dr2 er2 pl2 un2 li2 (-1) tp 0 false vs bo ex wr (va_up (cpF ei2 (unitG tp fr tn) i) i (unitG tp fr tn i)) dg_59 wo_60 pa_61 ch_62 fi) _ := hP
                    have hD : va_D A (gW g0 g1 g2 g3 g4 g5 g6 g7 g8 g9 g10 g11 g12 g13 cI cB k dr2 er2 pl2 un2 li2 (-1) tp 0 false vs bo ex wr (va_up (cpF ei2 (unitG tp fr tn) i) i (unitG tp fr tn i)) dg_59 wo_60 pa_61 ch_62 fi) := hD
                    refine lv_iinc (pc := 122) (v := nI (i + 1)) (lv' := [(4, .int (nI (i + 1))), (3, .int (nI fr)), (2, .int (nI tn)), (0, .ref g0), (1, .int (nI w))]) hx hb dX4_install_122 hl (k := 0) rfl (nI_inc i 1) (by decide) rfl (fun ls hl => ?_)
                    refine lv_goto (pc := 125) (tgt := 87) hx hb dX4_install_125 (by decide) ?_
                    rw [cpF_step] at hP hD
                    exact ih87 (i + 1) H locs ls (by omega) (by first | omega | (simp only []; omega)) hP hD hS (lv_sub hl [0, 1, 2, 3, 4] rfl)
                  · skip
                    have ca : ¬ tn ≤ (fr + i) := fun z => ca ((nI_leI (a := tn) (b := (fr + i)) (by omega) (by omega)).mpr z)
                    refine lv_aload_n (pc := 108) hx hb dX4_install_108 rfl (lv_at hl 3 rfl) ?_
                    refine va_get (pc := 109) (D := (dC, dI)) (ci := 4) (v := .ref g6) (C := RX4) (T := TX4) (N := 26) hx hb hts (by decide +kernel) hown hK hP 0 rfl rfl 7 (by decide) (hts (.fieldLink RX4 26 "ScratchSwapModel" "tape" "[B") (by decide +kernel)) (fun _ h9 => h9) rfl dX4_install_109 ?_
                    refine lv_iload_n (pc := 112) hx hb dX4_install_112 rfl (lv_at hl 1 rfl) ?_
                    refine lv_iload (pc := 113) hx hb dX4_install_113 (lv_at hl 0 rfl) ?_
                    refine lv_iadd (pc := 115) hx hb dX4_install_115 ?_
                    refine lv_cv (nI_add fr i) ?_
                    refine x_bald (pc := 116) (k := fr + i) (f := fun j => Int8.toInt32 (tp j)) hx hb hK hP 6 1 rfl rfl (by omega) (by decide) dX4_install_116 ?_
                    refine lv_goto (pc := 117) (tgt := 121) hx hb dX4_install_117 (by decide) ?_
                    refine lv_cv (congrArg Int8.toInt32 (show _ = unitG tp fr tn i by unfold unitG; rw [if_pos (by omega)])) ?_
                    refine x_sst (pc := 121) (k := i) (F := cpF ei2 (unitG tp fr tn) i) hx hb hK hP hD hS 8 1 rfl rfl (by omega) (by decide) dX4_install_121 (fun H locs hP hD hS => ?_)
                    have hP : va_P (dC, dI) vwCl (gW g0 g1 g2 g3 g4 g5 g6 g7 g8 g9 g10 g11 g12 g13 cI cB k dr2 er2 pl2 un2 li2 (-1) tp 0 false vs bo ex wr (va_up (cpF ei2 (unitG tp fr tn) i) i (unitG tp fr tn i)) dg_59 wo_60 pa_61 ch_62 fi) _ := hP
                    have hD : va_D A (gW g0 g1 g2 g3 g4 g5 g6 g7 g8 g9 g10 g11 g12 g13 cI cB k dr2 er2 pl2 un2 li2 (-1) tp 0 false vs bo ex wr (va_up (cpF ei2 (unitG tp fr tn) i) i (unitG tp fr tn i)) dg_59 wo_60 pa_61 ch_62 fi) := hD
                    refine lv_iinc (pc := 122) (v := nI (i + 1)) (lv' := [(4, .int (nI (i + 1))), (3, .int (nI fr)), (2, .int (nI tn)), (0, .ref g0), (1, .int (nI w))]) hx hb dX4_install_122 hl (k := 0) rfl (nI_inc i 1) (by decide) rfl (fun ls hl => ?_)
                    refine lv_goto (pc := 125) (tgt := 87) hx hb dX4_install_125 (by decide) ?_
                    rw [cpF_step] at hP hD
                    exact ih87 (i + 1) H locs ls (by omega) (by first | omega | (simp only []; omega)) hP hD hS (lv_sub hl [0, 1, 2, 3, 4] rfl)
            · skip
              have c6 : ¬ 5 ≤ q := fun z => c6 ((nI_leI (a := 5) (b := q) (by omega) (by omega)).mpr z)
              obtain ⟨d, rfl⟩ : ∃ z, d = z + 1 := ⟨d - 1, by omega⟩
              refine lv_aload_n (pc := 62) hx hb dX4_install_62 rfl (lv_at hl 2 rfl) ?_
              refine lv_iconst (pc := 63) (v := nI 5) hx hb dX4_install_63 (by decide) ?_
              refine lv_iload_n (pc := 64) hx hb dX4_install_64 rfl (lv_at hl 3 rfl) ?_
              refine lv_imul (pc := 65) hx hb dX4_install_65 ?_
              refine lv_cv (x_mulc 5 w) ?_
              refine lv_iload_n (pc := 66) hx hb dX4_install_66 rfl (lv_at hl 0 rfl) ?_
              refine lv_iadd (pc := 67) hx hb dX4_install_67 ?_
              refine lv_cv (nI_add (w * 5) q) ?_
              refine x_wrva (pc := 68) (va_runV (As := [.int (nI ((w * 5) + q))]) (rest := []) ⟨hx, hb, hml, hown, hts⟩ (kX4_erase l dC dI tt cI cB _ g0 g1 g2 g3 g4 g5 g6 g7 g8 g9 g10 g11 g12 g13 k dr1 er1 pl1 un1 li1 (-1) tp 0 false vs bo ex wr ei dg_59 wo_60 pa_61 ch_62 fi L1 ((w * 5) + q) hL1 (by omega) (by omega)) (cwV 1 hts gX4_install_X4_erase rfl rfl rfl (by decide +kernel) ⟨Nat.le_of_ble_eq_true rfl, Nat.le_of_ble_eq_true rfl⟩) (x_preVa hS hE hK hP hD (x_all hD hS hA) xR0 4 0 rfl rfl) rfl rfl hl.1 rfl (lv_room (Nat.le_of_ble_eq_true rfl)) dX4_install_68 ⟨Nat.le_of_ble_eq_true rfl, Nat.le_of_ble_eq_true rfl⟩) hS hA hD (fun u_105 H locs hu_105 hP hD hS => ?_)
              obtain ⟨dr_106, er_107, pl_108, un_109, li_110⟩ := u_105
              obtain ⟨hL_111, hd_112⟩ : lstR (L1 ++ ([Sum.inl ((w * 5) + q)])) er_107 pl_108 un_109 li_110 ∧ dr_106 = fillF dr1 (((w * 5) + q) * 256) 256 := hu_105
              have hP : va_P (dC, dI) vwCl (gW g0 g1 g2 g3 g4 g5 g6 g7 g8 g9 g10 g11 g12 g13 cI cB k dr_106 er_107 pl_108 un_109 li_110 (-1) tp 0 false vs bo ex wr ei dg_59 wo_60 pa_61 ch_62 fi) _ := hP
              have hD : va_D A (gW g0 g1 g2 g3 g4 g5 g6 g7 g8 g9 g10 g11 g12 g13 cI cB k dr_106 er_107 pl_108 un_109 li_110 (-1) tp 0 false vs bo ex wr ei dg_59 wo_60 pa_61 ch_62 fi) := hD
              have hlen_li_110 : li_110 = li1 + 1 := by rw [hL_111.1, List.length_append, ← hL1.1]; rfl
              refine lv_iinc (pc := 71) (v := nI (q + 1)) (lv' := [(3, .int (nI (q + 1))), (2, .int (nI tn)), (0, .ref g0), (1, .int (nI w))]) hx hb dX4_install_71 hl (k := 0) rfl (nI_inc q 1) (by decide) rfl (fun ls hl => ?_)
              refine lv_goto (pc := 74) (tgt := 57) hx hb dX4_install_74 (by decide) ?_
              exact ih57 (d, q + 1, L1 ++ ([Sum.inl ((w * 5) + q)]), dr_106, er_107, pl_108, un_109, li_110) H locs ls ⟨by rw [hT, er5_s, List.append_assoc], hL_111, by omega, by omega⟩ (by first | omega | (simp only []; omega)) hP hD hS (lv_sub hl [0, 1, 2, 3] rfl)
        · skip
          have c4 : (dueN k.1) = 5 := (nI_eq (a := (dueN k.1)) (b := 5) (by omega) (by omega)).mp c4
          refine lv_bipush (pc := 39) (v := (-3)) hx hb dX4_install_39 (by decide) ?_
          exact W.iret (v := (-3)) hx hb hr (fun t ht hW => ⟨⟨(-3), (k, dr, er, pl, un, li, ov, rn, ex, ei, vs, bo, wr, dg_59, wo_60, pa_61, ch_62), rfl, ⟨by rw [insR, if_neg (by rw [c1]; decide), if_neg (by rw [hsl]; decide), if_pos ((dueN_5 _).mp c4)], rfl, rfl, rfl⟩, by show va_P _ _ _ t.heap; rw [ht]; exact hP, va_K.moved hW.alike hK, hD⟩, hS.F ht⟩) hS.2.2 dX4_install_41
      · skip
        refine lv_iconst (pc := 29) (v := (-1)) hx hb dX4_install_29 (by decide) ?_
        exact W.iret (v := (-1)) hx hb hr (fun t ht hW => ⟨⟨(-1), (k, dr, er, pl, un, li, ov, rn, ex, ei, vs, bo, wr, dg, wo, pa, ch), rfl, ⟨by rw [insR, if_neg (by rw [c1]; decide), if_pos (show slotB x = false from decide_eq_false (fun z => z.elim c2 c3))], rfl, rfl, rfl⟩, by show va_P _ _ _ t.heap; rw [ht]; exact hP, va_K.moved hW.alike hK, hD⟩, hS.F ht⟩) hS.2.2 dX4_install_30
  · skip
    have c1 : k.2.2.1 = true := bI_1.mp c1
    refine lv_bipush (pc := 17) (v := (-9)) hx hb dX4_install_17 (by decide) ?_
    exact W.iret (v := (-9)) hx hb hr (fun t ht hW => ⟨⟨(-9), (k, dr, er, pl, un, li, ov, rn, ex, ei, vs, bo, wr, dg, wo, pa, ch), rfl, ⟨by rw [insR, if_pos c1], rfl, rfl, rfl⟩, by show va_P _ _ _ t.heap; rw [ht]; exact hP, va_K.moved hW.alike hK, hD⟩, hS.F ht⟩) hS.2.2 dX4_install_19
