set_option maxHeartbeats 4000000 in
set_option maxRecDepth 100000 in
theorem kX4_mark (l : Launch) (dC : Nat → ClassId) (dI : Nat → Nat → Nat) (tt : Nat → Nat) (cI cB : ClassId) (sz : Nat) (g0 g1 g2 g3 g4 g5 g6 g7 g8 g9 g10 g11 g12 g13 : Nat) (k : K0) (dr : Nat → Int8) (er pl : Nat → Int32) (un : Nat → Int8) (li : Nat) (ov : Int32) (tp : Nat → Int8) (tn : Nat) (rn : Bool) (vs bo ex wr : Int32) (ei dg : Nat → Int8) (wo : Nat → Int32) (pa : Nat → Int8) (ch fi : Nat → Int32) (L : List Act) (i0 j0 : Nat) (x : Int32) (hL : lstR L er pl un li) (hli : li < 700) (hp : i0 * 256 + j0 * 8 + 8 ≤ 2816) : MetV (S := ((Nat → Int8) × (Nat → Int32) × (Nat → Int32) × (Nat → Int8) × Nat × (Nat → Int8))) l yX4_mark wsX4_mark { frames := 1, cells := 0, slots := 0, locals := 24 } (dC, dI) [(cI, .int), (cB, .byte)] tt [] sz (gW g0 g1 g2 g3 g4 g5 g6 g7 g8 g9 g10 g11 g12 g13 cI cB k dr er pl un li ov tp tn rn vs bo ex wr ei dg wo pa ch fi) [.ref g0, .int (nI i0), .int (nI j0), .int x] (fun u : ((Nat → Int8) × (Nat → Int32) × (Nat → Int32) × (Nat → Int8) × Nat × (Nat → Int8)) => gW g0 g1 g2 g3 g4 g5 g6 g7 g8 g9 g10 g11 g12 g13 cI cB k u.1 u.2.1 u.2.2.1 u.2.2.2.1 u.2.2.2.2.1 ov tp tn rn vs bo ex wr u.2.2.2.2.2 dg wo pa ch fi) (fun u => lstR (L ++ markL (i0 * 256 + j0 * 8) x) u.2.1 u.2.2.1 u.2.2.2.1 u.2.2.2.2.1 ∧ u.1 = appL (markL (i0 * 256 + j0 * 8) x) dr) := by
  refine Met.ofW (cc := cX4_mark) (maxL := 5) (ret := none) (by decide) rfl ?_
  intro p e s m args below meth c s₁ B hml hv
  obtain ⟨rfl, hsz, hP, hK, hD0, hE⟩ := hv
  have hx := B.exec
  have hb := B.bytes
  have hr := B.returns
  have hts := atoms_spec (ws := wsX4_mark) B.pre
  have hown : s.vm.findClass RX4 = some m.cls := findClass_of_methodNamed B.named
  have hlocks := B.notSynchronized
  subst hsz
  have hD := hD0.self (sz := s.heap.size)
  generalize hAe : va_A (gW g0 g1 g2 g3 g4 g5 g6 g7 g8 g9 g10 g11 g12 g13 cI cB k dr er pl un li ov tp tn rn vs bo ex wr ei dg wo pa ch fi) s.heap.size = A at hD hE ⊢
  have hA : ∀ q : Nat, s.heap.size ≤ q → A q := fun q h => by rw [← hAe]; exact Or.inr h
  have hS : va_S A s.heap s.heap [] := va_S.rf
  have hl := lv_entry ([.ref g0, .int (nI i0), .int (nI j0), .int x]) (n := 5) (Nat.le_of_ble_eq_true rfl)
  rw [lg_entry_eq]
  generalize (lg_sl ([.ref g0, .int (nI i0), .int (nI j0), .int x]) ++ List.replicate (5 - (lg_sl ([.ref g0, .int (nI i0), .int (nI j0), .int x])).length) Slot.unset).toArray = ls at hl ⊢
  have hl : lv_has ls 5 [(0, .ref g0), (1, .int (nI i0)), (2, .int (nI j0)), (3, .int x)] := hl
  have hP : va_P (dC, dI) vwCl (gW g0 g1 g2 g3 g4 g5 g6 g7 g8 g9 g10 g11 g12 g13 cI cB k dr er pl un li ov tp tn rn vs bo ex wr ei dg wo pa ch fi) s.heap := hP
  refine lv_iconst (pc := 0) (v := nI 0) hx hb dX4_mark_0 (by decide) ?_
  refine lv_istore (pc := 1) (lv' := [(4, .int (nI 0)), (0, .ref g0), (1, .int (nI i0)), (2, .int (nI j0)), (3, .int x)]) hx hb dX4_mark_1 hl (by decide) rfl (fun ls hl => ?_)
  rw [← dgT_0 ei 0 (fun _ => Int32.toInt8 x)] at hP hD
  refine x_loop (σ := (Nat)) (Wd := fun i : (Nat) => gW g0 g1 g2 g3 g4 g5 g6 g7 g8 g9 g10 g11 g12 g13 cI cB k dr er pl un li ov tp tn rn vs bo ex wr (dgT ei 0 (fun _ => Int32.toInt8 x) i) dg wo pa ch fi) (Lv := fun i : (Nat) => [(4, .int (nI i)), (0, .ref g0), (1, .int (nI i0)), (2, .int (nI j0)), (3, .int x)]) (I := fun i : (Nat) => (i ≤ 8)) (μ := fun i : (Nat) => 8 - i) ?_ (0) (by omega) hP hD hS (lv_sub hl [0, 1, 2, 3, 4] rfl)
  intro i H locs ls hI hP hD hS hl ih3
  have hi : (i ≤ 8) := hI
  have hP : va_P (dC, dI) vwCl (gW g0 g1 g2 g3 g4 g5 g6 g7 g8 g9 g10 g11 g12 g13 cI cB k dr er pl un li ov tp tn rn vs bo ex wr (dgT ei 0 (fun _ => Int32.toInt8 x) i) dg wo pa ch fi) _ := hP
  have hD : va_D A (gW g0 g1 g2 g3 g4 g5 g6 g7 g8 g9 g10 g11 g12 g13 cI cB k dr er pl un li ov tp tn rn vs bo ex wr (dgT ei 0 (fun _ => Int32.toInt8 x) i) dg wo pa ch fi) := hD
  have hl : lv_has ls 5 [(4, .int (nI i)), (0, .ref g0), (1, .int (nI i0)), (2, .int (nI j0)), (3, .int x)] := hl
  refine lv_iload (pc := 3) hx hb dX4_mark_3 (lv_at hl 0 rfl) ?_
  refine lv_bipush (pc := 5) (v := nI 8) hx hb dX4_mark_5 (by decide) ?_
  refine lv_icmp_ge (pc := 7) (tgt := 25) hx hb dX4_mark_7 (by decide) (fun c1 => ?_) (fun c1 => ?_)
  · skip
    have c1 : 8 ≤ i := (nI_leI (a := 8) (b := i) (by omega) (by omega)).mp c1
    have hi9 : i = 8 := by omega
    subst hi9
    have hP : va_P (dC, dI) vwCl (gW g0 g1 g2 g3 g4 g5 g6 g7 g8 g9 g10 g11 g12 g13 cI cB k dr er pl un li ov tp tn rn vs bo ex wr (dgT ei 0 (fun _ => Int32.toInt8 x) 8) dg wo pa ch fi) _ := hP
    have hD : va_D A (gW g0 g1 g2 g3 g4 g5 g6 g7 g8 g9 g10 g11 g12 g13 cI cB k dr er pl un li ov tp tn rn vs bo ex wr (dgT ei 0 (fun _ => Int32.toInt8 x) 8) dg wo pa ch fi) := hD
    refine lv_aload_n (pc := 25) hx hb dX4_mark_25 rfl (lv_at hl 1 rfl) ?_
    refine lv_iload_n (pc := 26) hx hb dX4_mark_26 rfl (lv_at hl 2 rfl) ?_
    refine lv_iload_n (pc := 27) hx hb dX4_mark_27 rfl (lv_at hl 3 rfl) ?_
    refine x_roi (pc := 28) (va_runS (As := [.int (nI i0), .int (nI j0)]) (rest := [.ref g0]) ⟨hx, hb, hml, hown, hts⟩ (kX4_unit l dC dI tt cI cB _ i0 j0) (va_cwS 2 hts gX4_mark_X4_unit rfl rfl rfl (by decide +kernel) ⟨Nat.le_of_ble_eq_true rfl, Nat.le_of_ble_eq_true rfl⟩) (x_preS hS hE hK hP hD [] rfl (by decide) (x_ro hS hA) xR0) rfl rfl hl.1 rfl (lv_room (Nat.le_of_ble_eq_true rfl)) dX4_mark_28 ⟨Nat.le_of_ble_eq_true rfl, Nat.le_of_ble_eq_true rfl⟩) hS hA hP (fun r_1 H locs hr_1 hP hS => ?_)
    subst hr_1
    refine lv_aload_n (pc := 31) hx hb dX4_mark_31 rfl (lv_at hl 1 rfl) ?_
    refine va_get (pc := 32) (D := (dC, dI)) (ci := 4) (v := .ref g8) (C := RX4) (T := TX4) (N := 26) hx hb hts (by decide +kernel) hown hK hP 0 rfl rfl 20 (by decide) (hts (.fieldLink RX4 36 "ScratchSwapModel" "eight" "[B") (by decide +kernel)) (fun _ h9 => h9) rfl dX4_mark_32 ?_
    refine lv_iconst (pc := 35) (v := nI 0) hx hb dX4_mark_35 (by decide) ?_
    refine x_wrva (pc := 36) (va_runV (As := [.int (nI (i0 * 256 + j0 * 8)), .ref g8, .int (nI 0)]) (rest := []) ⟨hx, hb, hml, hown, hts⟩ (kX4_writeE l dC dI tt cI cB _ g0 g1 g2 g3 g4 g5 g6 g7 g8 g9 g10 g11 g12 g13 k dr er pl un li ov tp tn rn vs bo ex wr (dgT ei 0 (fun _ => Int32.toInt8 x) 8) dg wo pa ch fi L (i0 * 256 + j0 * 8) 0 (fun _ => Int32.toInt8 x) hL (by omega) (fun z hz => dgT_at _ _ _ hz) (by omega) (by omega)) (cwV 3 hts gX4_mark_X4_write rfl rfl rfl (by decide +kernel) ⟨Nat.le_of_ble_eq_true rfl, Nat.le_of_ble_eq_true rfl⟩) (x_preVa hS hE hK hP hD (x_all hD hS hA) xR0 4 0 rfl rfl) rfl rfl hl.1 rfl (lv_room (Nat.le_of_ble_eq_true rfl)) dX4_mark_36 ⟨Nat.le_of_ble_eq_true rfl, Nat.le_of_ble_eq_true rfl⟩) hS hA hD (fun u_2 H locs hu_2 hP hD hS => ?_)
    obtain ⟨dr_3, er_4, pl_5, un_6, li_7⟩ := u_2
    obtain ⟨hL_8, hd_9⟩ : lstR (L ++ ([Sum.inr (i0 * 256 + j0 * 8, fun _ => Int32.toInt8 x)])) er_4 pl_5 un_6 li_7 ∧ dr_3 = andFn dr (i0 * 256 + j0 * 8) (fun _ => Int32.toInt8 x) 8 := hu_2
    have hP : va_P (dC, dI) vwCl (gW g0 g1 g2 g3 g4 g5 g6 g7 g8 g9 g10 g11 g12 g13 cI cB k dr_3 er_4 pl_5 un_6 li_7 ov tp tn rn vs bo ex wr (dgT ei 0 (fun _ => Int32.toInt8 x) 8) dg wo pa ch fi) _ := hP
    have hD : va_D A (gW g0 g1 g2 g3 g4 g5 g6 g7 g8 g9 g10 g11 g12 g13 cI cB k dr_3 er_4 pl_5 un_6 li_7 ov tp tn rn vs bo ex wr (dgT ei 0 (fun _ => Int32.toInt8 x) 8) dg wo pa ch fi) := hD
    have hlen_li_7 : li_7 = li + 1 := by rw [hL_8.1, List.length_append, ← hL.1]; rfl
    exact W.vret hx hb hr (fun t ht hW => ⟨⟨(dr_3, er_4, pl_5, un_6, li_7, dgT ei 0 (fun _ => Int32.toInt8 x) 8), rfl, ⟨hL_8, hd_9⟩, by show va_P _ _ _ t.heap; rw [ht]; exact hP, va_K.moved hW.alike hK, hD⟩, hS.F ht⟩) hS.2.2 dX4_mark_39
  · skip
    have c1 : ¬ 8 ≤ i := fun z => c1 ((nI_leI (a := 8) (b := i) (by omega) (by omega)).mpr z)
    refine lv_aload_n (pc := 10) hx hb dX4_mark_10 rfl (lv_at hl 1 rfl) ?_
    refine va_get (pc := 11) (D := (dC, dI)) (ci := 4) (v := .ref g8) (C := RX4) (T := TX4) (N := 26) hx hb hts (by decide +kernel) hown hK hP 0 rfl rfl 20 (by decide) (hts (.fieldLink RX4 36 "ScratchSwapModel" "eight" "[B") (by decide +kernel)) (fun _ h9 => h9) rfl dX4_mark_11 ?_
    refine lv_iload (pc := 14) hx hb dX4_mark_14 (lv_at hl 0 rfl) ?_
    refine lv_iload_n (pc := 16) hx hb dX4_mark_16 rfl (lv_at hl 4 rfl) ?_
    refine lv_i2b (pc := 17) hx hb dX4_mark_17 (rfl) ?_
    refine x_sst (pc := 18) (k := i) (F := dgT ei 0 (fun _ => Int32.toInt8 x) i) hx hb hK hP hD hS 8 1 rfl rfl (by omega) (by decide) dX4_mark_18 (fun H locs hP hD hS => ?_)
    have hP : va_P (dC, dI) vwCl (gW g0 g1 g2 g3 g4 g5 g6 g7 g8 g9 g10 g11 g12 g13 cI cB k dr er pl un li ov tp tn rn vs bo ex wr (va_up (dgT ei 0 (fun _ => Int32.toInt8 x) i) i (Int32.toInt8 x)) dg wo pa ch fi) _ := hP
    have hD : va_D A (gW g0 g1 g2 g3 g4 g5 g6 g7 g8 g9 g10 g11 g12 g13 cI cB k dr er pl un li ov tp tn rn vs bo ex wr (va_up (dgT ei 0 (fun _ => Int32.toInt8 x) i) i (Int32.toInt8 x)) dg wo pa ch fi) := hD
    refine lv_iinc (pc := 19) (v := nI (i + 1)) (lv' := [(4, .int (nI (i + 1))), (0, .ref g0), (1, .int (nI i0)), (2, .int (nI j0)), (3, .int x)]) hx hb dX4_mark_19 hl (k := 0) rfl (nI_inc i 1) (by decide) rfl (fun ls hl => ?_)
    refine lv_goto (pc := 22) (tgt := 3) hx hb dX4_mark_22 (by decide) ?_
    rw [dgT_step0] at hP hD
    exact ih3 (i + 1) H locs ls (by omega) (by first | omega | (simp only []; omega)) hP hD hS (lv_sub hl [0, 1, 2, 3, 4] rfl)
set_option maxHeartbeats 4000000 in
set_option maxRecDepth 100000 in
theorem kX4_magic (l : Launch) (dC : Nat → ClassId) (dI : Nat → Nat → Nat) (tt : Nat → Nat) (cI cB : ClassId) (sz : Nat) (g0 g1 g2 g3 g4 g5 g6 g7 g8 g9 g10 g11 g12 g13 : Nat) (k : K0) (dr : Nat → Int8) (er pl : Nat → Int32) (un : Nat → Int8) (li : Nat) (ov : Int32) (tp : Nat → Int8) (tn : Nat) (rn : Bool) (vs bo ex wr : Int32) (ei dg : Nat → Int8) (wo : Nat → Int32) (pa : Nat → Int8) (ch fi : Nat → Int32) (L : List Act) (i0 : Nat) (hL : lstR L er pl un li) (hli : li < 700) (hp : i0 < 11) : MetV (S := ((Nat → Int8) × (Nat → Int32) × (Nat → Int32) × (Nat → Int8) × Nat × (Nat → Int8))) l yX4_magic wsX4_magic { frames := 1, cells := 0, slots := 0, locals := 24 } (dC, dI) [(cI, .int), (cB, .byte)] tt [] sz (gW g0 g1 g2 g3 g4 g5 g6 g7 g8 g9 g10 g11 g12 g13 cI cB k dr er pl un li ov tp tn rn vs bo ex wr ei dg wo pa ch fi) [.ref g0, .int (nI i0)] (fun u : ((Nat → Int8) × (Nat → Int32) × (Nat → Int32) × (Nat → Int8) × Nat × (Nat → Int8)) => gW g0 g1 g2 g3 g4 g5 g6 g7 g8 g9 g10 g11 g12 g13 cI cB k u.1 u.2.1 u.2.2.1 u.2.2.2.1 u.2.2.2.2.1 ov tp tn rn vs bo ex wr u.2.2.2.2.2 dg wo pa ch fi) (fun u => lstR (L ++ magL (i0 * 256 + 0 * 8)) u.2.1 u.2.2.1 u.2.2.2.1 u.2.2.2.2.1 ∧ u.1 = appL (magL (i0 * 256 + 0 * 8)) dr) := by
  refine Met.ofW (cc := cX4_magic) (maxL := 3) (ret := none) (by decide) rfl ?_
  intro p e s m args below meth c s₁ B hml hv
  obtain ⟨rfl, hsz, hP, hK, hD0, hE⟩ := hv
  have hx := B.exec
  have hb := B.bytes
  have hr := B.returns
  have hts := atoms_spec (ws := wsX4_magic) B.pre
  have hown : s.vm.findClass RX4 = some m.cls := findClass_of_methodNamed B.named
  have hlocks := B.notSynchronized
  subst hsz
  have hD := hD0.self (sz := s.heap.size)
  generalize hAe : va_A (gW g0 g1 g2 g3 g4 g5 g6 g7 g8 g9 g10 g11 g12 g13 cI cB k dr er pl un li ov tp tn rn vs bo ex wr ei dg wo pa ch fi) s.heap.size = A at hD hE ⊢
  have hA : ∀ q : Nat, s.heap.size ≤ q → A q := fun q h => by rw [← hAe]; exact Or.inr h
  have hS : va_S A s.heap s.heap [] := va_S.rf
  have hl := lv_entry ([.ref g0, .int (nI i0)]) (n := 3) (Nat.le_of_ble_eq_true rfl)
  rw [lg_entry_eq]
  generalize (lg_sl ([.ref g0, .int (nI i0)]) ++ List.replicate (3 - (lg_sl ([.ref g0, .int (nI i0)])).length) Slot.unset).toArray = ls at hl ⊢
  have hl : lv_has ls 3 [(0, .ref g0), (1, .int (nI i0))] := hl
  have hP : va_P (dC, dI) vwCl (gW g0 g1 g2 g3 g4 g5 g6 g7 g8 g9 g10 g11 g12 g13 cI cB k dr er pl un li ov tp tn rn vs bo ex wr ei dg wo pa ch fi) s.heap := hP
  refine lv_iconst (pc := 0) (v := nI 0) hx hb dX4_magic_0 (by decide) ?_
  refine lv_istore_n (pc := 1) (lv' := [(2, .int (nI 0)), (0, .ref g0), (1, .int (nI i0))]) hx hb dX4_magic_1 rfl hl (by decide) rfl (fun ls hl => ?_)
  rw [← dgT_0 ei 0 (magG)] at hP hD
  refine x_loop (σ := (Nat)) (Wd := fun i : (Nat) => gW g0 g1 g2 g3 g4 g5 g6 g7 g8 g9 g10 g11 g12 g13 cI cB k dr er pl un li ov tp tn rn vs bo ex wr (dgT ei 0 (magG) i) dg wo pa ch fi) (Lv := fun i : (Nat) => [(2, .int (nI i)), (0, .ref g0), (1, .int (nI i0))]) (I := fun i : (Nat) => (i ≤ 8)) (μ := fun i : (Nat) => 8 - i) ?_ (0) (by omega) hP hD hS (lv_sub hl [0, 1, 2] rfl)
  intro i H locs ls hI hP hD hS hl ih2
  have hi : (i ≤ 8) := hI
  have hP : va_P (dC, dI) vwCl (gW g0 g1 g2 g3 g4 g5 g6 g7 g8 g9 g10 g11 g12 g13 cI cB k dr er pl un li ov tp tn rn vs bo ex wr (dgT ei 0 (magG) i) dg wo pa ch fi) _ := hP
  have hD : va_D A (gW g0 g1 g2 g3 g4 g5 g6 g7 g8 g9 g10 g11 g12 g13 cI cB k dr er pl un li ov tp tn rn vs bo ex wr (dgT ei 0 (magG) i) dg wo pa ch fi) := hD
  have hl : lv_has ls 3 [(2, .int (nI i)), (0, .ref g0), (1, .int (nI i0))] := hl
  refine lv_iload_n (pc := 2) hx hb dX4_magic_2 rfl (lv_at hl 0 rfl) ?_
  refine lv_bipush (pc := 3) (v := nI 8) hx hb dX4_magic_3 (by decide) ?_
  refine lv_icmp_ge (pc := 5) (tgt := 26) hx hb dX4_magic_5 (by decide) (fun c1 => ?_) (fun c1 => ?_)
  · skip
    have c1 : 8 ≤ i := (nI_leI (a := 8) (b := i) (by omega) (by omega)).mp c1
    have hi9 : i = 8 := by omega
    subst hi9
    have hP : va_P (dC, dI) vwCl (gW g0 g1 g2 g3 g4 g5 g6 g7 g8 g9 g10 g11 g12 g13 cI cB k dr er pl un li ov tp tn rn vs bo ex wr (dgT ei 0 (magG) 8) dg wo pa ch fi) _ := hP
    have hD : va_D A (gW g0 g1 g2 g3 g4 g5 g6 g7 g8 g9 g10 g11 g12 g13 cI cB k dr er pl un li ov tp tn rn vs bo ex wr (dgT ei 0 (magG) 8) dg wo pa ch fi) := hD
    refine lv_aload_n (pc := 26) hx hb dX4_magic_26 rfl (lv_at hl 1 rfl) ?_
    refine lv_iload_n (pc := 27) hx hb dX4_magic_27 rfl (lv_at hl 2 rfl) ?_
    refine lv_iconst (pc := 28) (v := nI 0) hx hb dX4_magic_28 (by decide) ?_
    refine x_roi (pc := 29) (va_runS (As := [.int (nI i0), .int (nI 0)]) (rest := [.ref g0]) ⟨hx, hb, hml, hown, hts⟩ (kX4_unit l dC dI tt cI cB _ i0 0) (va_cwS 2 hts gX4_magic_X4_unit rfl rfl rfl (by decide +kernel) ⟨Nat.le_of_ble_eq_true rfl, Nat.le_of_ble_eq_true rfl⟩) (x_preS hS hE hK hP hD [] rfl (by decide) (x_ro hS hA) xR0) rfl rfl hl.1 rfl (lv_room (Nat.le_of_ble_eq_true rfl)) dX4_magic_29 ⟨Nat.le_of_ble_eq_true rfl, Nat.le_of_ble_eq_true rfl⟩) hS hA hP (fun r_1 H locs hr_1 hP hS => ?_)
    subst hr_1
    refine lv_aload_n (pc := 32) hx hb dX4_magic_32 rfl (lv_at hl 1 rfl) ?_
    refine va_get (pc := 33) (D := (dC, dI)) (ci := 4) (v := .ref g8) (C := RX4) (T := TX4) (N := 26) hx hb hts (by decide +kernel) hown hK hP 0 rfl rfl 20 (by decide) (hts (.fieldLink RX4 36 "ScratchSwapModel" "eight" "[B") (by decide +kernel)) (fun _ h9 => h9) rfl dX4_magic_33 ?_
    refine lv_iconst (pc := 36) (v := nI 0) hx hb dX4_magic_36 (by decide) ?_
    refine x_wrva (pc := 37) (va_runV (As := [.int (nI (i0 * 256 + 0 * 8)), .ref g8, .int (nI 0)]) (rest := []) ⟨hx, hb, hml, hown, hts⟩ (kX4_writeE l dC dI tt cI cB _ g0 g1 g2 g3 g4 g5 g6 g7 g8 g9 g10 g11 g12 g13 k dr er pl un li ov tp tn rn vs bo ex wr (dgT ei 0 (magG) 8) dg wo pa ch fi L (i0 * 256 + 0 * 8) 0 (unitG magG 0 8) hL (by omega) (fun z hz => (dgT_at _ _ _ hz).trans (by unfold unitG; rw [if_pos (by omega), Nat.zero_add])) (by omega) (by omega)) (cwV 3 hts gX4_magic_X4_write rfl rfl rfl (by decide +kernel) ⟨Nat.le_of_ble_eq_true rfl, Nat.le_of_ble_eq_true rfl⟩) (x_preVa hS hE hK hP hD (x_all hD hS hA) xR0 4 0 rfl rfl) rfl rfl hl.1 rfl (lv_room (Nat.le_of_ble_eq_true rfl)) dX4_magic_37 ⟨Nat.le_of_ble_eq_true rfl, Nat.le_of_ble_eq_true rfl⟩) hS hA hD (fun u_2 H locs hu_2 hP hD hS => ?_)
    obtain ⟨dr_3, er_4, pl_5, un_6, li_7⟩ := u_2
    obtain ⟨hL_8, hd_9⟩ : lstR (L ++ ([Sum.inr (i0 * 256 + 0 * 8, unitG magG 0 8)])) er_4 pl_5 un_6 li_7 ∧ dr_3 = andFn dr (i0 * 256 + 0 * 8) (unitG magG 0 8) 8 := hu_2
    have hP : va_P (dC, dI) vwCl (gW g0 g1 g2 g3 g4 g5 g6 g7 g8 g9 g10 g11 g12 g13 cI cB k dr_3 er_4 pl_5 un_6 li_7 ov tp tn rn vs bo ex wr (dgT ei 0 (magG) 8) dg wo pa ch fi) _ := hP
    have hD : va_D A (gW g0 g1 g2 g3 g4 g5 g6 g7 g8 g9 g10 g11 g12 g13 cI cB k dr_3 er_4 pl_5 un_6 li_7 ov tp tn rn vs bo ex wr (dgT ei 0 (magG) 8) dg wo pa ch fi) := hD
    have hlen_li_7 : li_7 = li + 1 := by rw [hL_8.1, List.length_append, ← hL.1]; rfl
    exact W.vret hx hb hr (fun t ht hW => ⟨⟨(dr_3, er_4, pl_5, un_6, li_7, dgT ei 0 (magG) 8), rfl, ⟨hL_8, hd_9⟩, by show va_P _ _ _ t.heap; rw [ht]; exact hP, va_K.moved hW.alike hK, hD⟩, hS.F ht⟩) hS.2.2 dX4_magic_40
  · skip
    have c1 : ¬ 8 ≤ i := fun z => c1 ((nI_leI (a := 8) (b := i) (by omega) (by omega)).mpr z)
    refine lv_aload_n (pc := 8) hx hb dX4_magic_8 rfl (lv_at hl 1 rfl) ?_
    refine va_get (pc := 9) (D := (dC, dI)) (ci := 4) (v := .ref g8) (C := RX4) (T := TX4) (N := 26) hx hb hts (by decide +kernel) hown hK hP 0 rfl rfl 20 (by decide) (hts (.fieldLink RX4 36 "ScratchSwapModel" "eight" "[B") (by decide +kernel)) (fun _ h9 => h9) rfl dX4_magic_9 ?_
    refine lv_iload_n (pc := 12) hx hb dX4_magic_12 rfl (lv_at hl 0 rfl) ?_
    refine va_gets (pc := 13) hx hb (hE.2.2.2.2.2.1).1 hS hown (hts (.fieldLink RX4 68 "ScratchSwapModel" "MAGIC" "[I") (by decide +kernel)) (fun _ h9 => h9) dX4_magic_13 ?_
    refine lv_iload_n (pc := 16) hx hb dX4_magic_16 rfl (lv_at hl 0 rfl) ?_
    refine x_ti (pc := 17) (k := i) hx hb (hE.2.2.2.2.2.1).2 hS (by omega) (by decide) dX4_magic_17 ?_
    refine lv_i2b (pc := 18) hx hb dX4_magic_18 (rfl) ?_
    refine lv_cv (show _ = Int8.toInt32 (magG i) from rfl) ?_
    refine x_sst (pc := 19) (k := i) (F := dgT ei 0 (magG) i) hx hb hK hP hD hS 8 1 rfl rfl (by omega) (by decide) dX4_magic_19 (fun H locs hP hD hS => ?_)
    have hP : va_P (dC, dI) vwCl (gW g0 g1 g2 g3 g4 g5 g6 g7 g8 g9 g10 g11 g12 g13 cI cB k dr er pl un li ov tp tn rn vs bo ex wr (va_up (dgT ei 0 (magG) i) i (magG i)) dg wo pa ch fi) _ := hP
    have hD : va_D A (gW g0 g1 g2 g3 g4 g5 g6 g7 g8 g9 g10 g11 g12 g13 cI cB k dr er pl un li ov tp tn rn vs bo ex wr (va_up (dgT ei 0 (magG) i) i (magG i)) dg wo pa ch fi) := hD
    refine lv_iinc (pc := 20) (v := nI (i + 1)) (lv' := [(2, .int (nI (i + 1))), (0, .ref g0), (1, .int (nI i0))]) hx hb dX4_magic_20 hl (k := 0) rfl (nI_inc i 1) (by decide) rfl (fun ls hl => ?_)
    refine lv_goto (pc := 23) (tgt := 2) hx hb dX4_magic_23 (by decide) ?_
    rw [dgT_step0] at hP hD
    exact ih2 (i + 1) H locs ls (by omega) (by first | omega | (simp only []; omega)) hP hD hS (lv_sub hl [0, 1, 2] rfl)
set_option maxHeartbeats 4000000 in
set_option maxRecDepth 100000 in
theorem kX4_copy (l : Launch) (dC : Nat → ClassId) (dI : Nat → Nat → Nat) (tt : Nat → Nat) (cI cB : ClassId) (sz : Nat) (g0 g1 g2 g3 g4 g5 g6 g7 g8 g9 g10 g11 g12 g13 : Nat) (k : K0) (dr : Nat → Int8) (er pl : Nat → Int32) (un : Nat → Int8) (li : Nat) (ov : Int32) (tp : Nat → Int8) (tn : Nat) (rn : Bool) (vs bo ex wr : Int32) (ei dg : Nat → Int8) (wo : Nat → Int32) (pa : Nat → Int8) (ch fi : Nat → Int32) (L : List Act) (src dst : Nat) (hL : lstR L er pl un li) (hli : li + 32 < 700) (hsr : src < 11) (hds : dst < 11) (hne : src ≠ dst) : MetV (S := ((Nat → Int8) × (Nat → Int32) × (Nat → Int32) × (Nat → Int8) × Nat)) l yX4_copy wsX4_copy { frames := 1, cells := 0, slots := 0, locals := 24 } (dC, dI) [(cI, .int), (cB, .byte)] tt [] sz (gW g0 g1 g2 g3 g4 g5 g6 g7 g8 g9 g10 g11 g12 g13 cI cB k dr er pl un li ov tp tn rn vs bo ex wr ei dg wo pa ch fi) [.ref g0, .int (nI src), .int (nI dst)] (fun u : ((Nat → Int8) × (Nat → Int32) × (Nat → Int32) × (Nat → Int8) × Nat) => gW g0 g1 g2 g3 g4 g5 g6 g7 g8 g9 g10 g11 g12 g13 cI cB k u.1 u.2.1 u.2.2.1 u.2.2.2.1 u.2.2.2.2 ov tp tn rn vs bo ex wr ei dg wo pa ch fi) (fun u => lstR (L ++ copyL dr src dst 32 0) u.2.1 u.2.2.1 u.2.2.2.1 u.2.2.2.2 ∧ u.1 = appL (copyL dr src dst 32 0) dr) := by
  refine Met.ofW (cc := cX4_copy) (maxL := 4) (ret := none) (by decide) rfl ?_
  intro p e s m args below meth c s₁ B hml hv
  obtain ⟨rfl, hsz, hP, hK, hD0, hE⟩ := hv
  have hx := B.exec
  have hb := B.bytes
  have hr := B.returns
  have hts := atoms_spec (ws := wsX4_copy) B.pre
  have hown : s.vm.findClass RX4 = some m.cls := findClass_of_methodNamed B.named
  have hlocks := B.notSynchronized
  subst hsz
  have hD := hD0.self (sz := s.heap.size)
  generalize hAe : va_A (gW g0 g1 g2 g3 g4 g5 g6 g7 g8 g9 g10 g11 g12 g13 cI cB k dr er pl un li ov tp tn rn vs bo ex wr ei dg wo pa ch fi) s.heap.size = A at hD hE ⊢
  have hA : ∀ q : Nat, s.heap.size ≤ q → A q := fun q h => by rw [← hAe]; exact Or.inr h
  have hS : va_S A s.heap s.heap [] := va_S.rf
  have hl := lv_entry ([.ref g0, .int (nI src), .int (nI dst)]) (n := 4) (Nat.le_of_ble_eq_true rfl)
  rw [lg_entry_eq]
  generalize (lg_sl ([.ref g0, .int (nI src), .int (nI dst)]) ++ List.replicate (4 - (lg_sl ([.ref g0, .int (nI src), .int (nI dst)])).length) Slot.unset).toArray = ls at hl ⊢
  have hl : lv_has ls 4 [(0, .ref g0), (1, .int (nI src)), (2, .int (nI dst))] := hl
  have hP : va_P (dC, dI) vwCl (gW g0 g1 g2 g3 g4 g5 g6 g7 g8 g9 g10 g11 g12 g13 cI cB k dr er pl un li ov tp tn rn vs bo ex wr ei dg wo pa ch fi) s.heap := hP
  refine lv_iconst (pc := 0) (v := nI 0) hx hb dX4_copy_0 (by decide) ?_
  refine lv_istore_n (pc := 1) (lv' := [(3, .int (nI 0)), (0, .ref g0), (1, .int (nI src)), (2, .int (nI dst))]) hx hb dX4_copy_1 rfl hl (by decide) rfl (fun ls hl => ?_)
  refine x_loop (σ := (Nat) × (Nat) × (List Act) × (Nat → Int8) × (Nat → Int32) × (Nat → Int32) × (Nat → Int8) × (Nat)) (Wd := fun x : (Nat) × (Nat) × (List Act) × (Nat → Int8) × (Nat → Int32) × (Nat → Int32) × (Nat → Int8) × (Nat) => match x with | (d, v, L1, dr1, er1, pl1, un1, li1) => gW g0 g1 g2 g3 g4 g5 g6 g7 g8 g9 g10 g11 g12 g13 cI cB k dr1 er1 pl1 un1 li1 ov tp tn rn vs bo ex wr ei dg wo pa ch fi) (Lv := fun x : (Nat) × (Nat) × (List Act) × (Nat → Int8) × (Nat → Int32) × (Nat → Int32) × (Nat → Int8) × (Nat) => match x with | (d, v, L1, dr1, er1, pl1, un1, li1) => [(3, .int (nI v)), (0, .ref g0), (1, .int (nI src)), (2, .int (nI dst))]) (I := fun x : (Nat) × (Nat) × (List Act) × (Nat → Int8) × (Nat → Int32) × (Nat → Int32) × (Nat → Int8) × (Nat) => match x with | (d, v, L1, dr1, er1, pl1, un1, li1) => (L ++ copyL dr src dst 32 0 = L1 ++ copyL dr src dst d v) ∧ (appL (copyL dr src dst 32 0) dr = appL (copyL dr src dst d v) dr1) ∧ (lstR L1 er1 pl1 un1 li1) ∧ (v + d = 32) ∧ (li1 + d ≤ li + 32) ∧ (∀ j, src * 256 ≤ j → j < src * 256 + 256 → dr1 j = dr j)) (μ := fun x : (Nat) × (Nat) × (List Act) × (Nat → Int8) × (Nat → Int32) × (Nat → Int32) × (Nat → Int8) × (Nat) => match x with | (d, v, L1, dr1, er1, pl1, un1, li1) => d) ?_ (32, 0, L, dr, er, pl, un, li) ⟨rfl, rfl, hL, rfl, Nat.le_refl _, fun _ _ _ => rfl⟩ hP hD hS (lv_sub hl [0, 1, 2, 3] rfl)
  intro x H locs ls hI hP hD hS hl ih2
  obtain ⟨d, v, L1, dr1, er1, pl1, un1, li1⟩ := x
  obtain ⟨hT, hA0, hL1, hd, hli1, hag⟩ : (L ++ copyL dr src dst 32 0 = L1 ++ copyL dr src dst d v) ∧ (appL (copyL dr src dst 32 0) dr = appL (copyL dr src dst d v) dr1) ∧ (lstR L1 er1 pl1 un1 li1) ∧ (v + d = 32) ∧ (li1 + d ≤ li + 32) ∧ (∀ j, src * 256 ≤ j → j < src * 256 + 256 → dr1 j = dr j) := hI
  have hP : va_P (dC, dI) vwCl (gW g0 g1 g2 g3 g4 g5 g6 g7 g8 g9 g10 g11 g12 g13 cI cB k dr1 er1 pl1 un1 li1 ov tp tn rn vs bo ex wr ei dg wo pa ch fi) _ := hP
  have hD : va_D A (gW g0 g1 g2 g3 g4 g5 g6 g7 g8 g9 g10 g11 g12 g13 cI cB k dr1 er1 pl1 un1 li1 ov tp tn rn vs bo ex wr ei dg wo pa ch fi) := hD
  have hl : lv_has ls 4 [(3, .int (nI v)), (0, .ref g0), (1, .int (nI src)), (2, .int (nI dst))] := hl
  refine lv_iload_n (pc := 2) hx hb dX4_copy_2 rfl (lv_at hl 0 rfl) ?_
  refine lv_bipush (pc := 3) (v := nI 32) hx hb dX4_copy_3 (by decide) ?_
  refine lv_icmp_ge (pc := 5) (tgt := 47) hx hb dX4_copy_5 (by decide) (fun c1 => ?_) (fun c1 => ?_)
  · skip
    have c1 : 32 ≤ v := (nI_leI (a := 32) (b := v) (by omega) (by omega)).mp c1
    have hd0 : d = 0 := by omega
    rw [hd0] at hT hA0
    exact W.vret hx hb hr (fun t ht hW => ⟨⟨(dr1, er1, pl1, un1, li1), rfl, ⟨by rw [hT, show copyL dr src dst 0 v = [] from rfl, List.append_nil]; exact hL1, hA0.symm⟩, by show va_P _ _ _ t.heap; rw [ht]; exact hP, va_K.moved hW.alike hK, hD⟩, hS.F ht⟩) hS.2.2 dX4_copy_47
  · skip
    have c1 : ¬ 32 ≤ v := fun z => c1 ((nI_leI (a := 32) (b := v) (by omega) (by omega)).mpr z)
    obtain ⟨d, rfl⟩ : ∃ z, d = z + 1 := ⟨d - 1, by omega⟩
    have hg9 : ∀ z, z < 8 → dr1 (src * 256 + v * 8 + z) = unitG dr (src * 256 + v * 8) 2816 z := fun z hz => by unfold unitG; rw [if_pos (by omega)]; exact hag _ (by omega) (by omega)
    have hbq : blkTo (fun z => dr1 (src * 256 + v * 8 + z)) 8 = blkTo (unitG dr (src * 256 + v * 8) 2816) 8 := eqTo_c hg9 (fun _ _ => rfl)
    refine lv_aload_n (pc := 8) hx hb dX4_copy_8 rfl (lv_at hl 1 rfl) ?_
    refine va_get (pc := 9) (D := (dC, dI)) (ci := 4) (v := .ref g2) (C := RX4) (T := TX4) (N := 26) hx hb hts (by decide +kernel) hown hK hP 0 rfl rfl 1 (by decide) (hts (.fieldLink RX4 13 "ScratchSwapModel" "draft" "[B") (by decide +kernel)) (fun _ h9 => h9) rfl dX4_copy_9 ?_
    refine lv_iload_n (pc := 12) hx hb dX4_copy_12 rfl (lv_at hl 2 rfl) ?_
    refine lv_iload_n (pc := 13) hx hb dX4_copy_13 rfl (lv_at hl 0 rfl) ?_
    refine x_roi (pc := 14) (va_runS (As := [.int (nI src), .int (nI v)]) (rest := [.ref g2]) ⟨hx, hb, hml, hown, hts⟩ (kX4_unit l dC dI tt cI cB _ src v) (va_cwS 2 hts gX4_copy_X4_unit rfl rfl rfl (by decide +kernel) ⟨Nat.le_of_ble_eq_true rfl, Nat.le_of_ble_eq_true rfl⟩) (x_preS hS hE hK hP hD [] rfl (by decide) (x_ro hS hA) xR0) rfl rfl hl.1 rfl (lv_room (Nat.le_of_ble_eq_true rfl)) dX4_copy_14 ⟨Nat.le_of_ble_eq_true rfl, Nat.le_of_ble_eq_true rfl⟩) hS hA hP (fun r_1 H locs hr_1 hP hS => ?_)
    subst hr_1
    refine x_roi (pc := 17) (va_runS (As := [.ref g2, .int (nI (src * 256 + v * 8))]) (rest := []) ⟨hx, hb, hml, hown, hts⟩ (kX4_isBlank l dC dI tt cI cB _ g2 2816 dr1 (src * 256 + v * 8) (by omega) (by omega)) (va_cwS 2 hts gX4_copy_X4_isBlank rfl rfl rfl (by decide +kernel) ⟨Nat.le_of_ble_eq_true rfl, Nat.le_of_ble_eq_true rfl⟩) (x_preS hS hE hK hP hD [2] rfl (by decide) (x_ro hS hA) xR0) rfl rfl hl.1 rfl (lv_room (Nat.le_of_ble_eq_true rfl)) dX4_copy_17 ⟨Nat.le_of_ble_eq_true rfl, Nat.le_of_ble_eq_true rfl⟩) hS hA hP (fun r_2 H locs hr_2 hP hS => ?_)
    subst hr_2
    refine lv_if_ne (pc := 20) (tgt := 41) hx hb dX4_copy_20 (by decide) (fun c2 => ?_) (fun c2 => ?_)
    · skip
      have c2 : (blkTo (fun z => dr1 ((src * 256 + v * 8) + z)) 8) = true := bI_1.mp c2
      have hbl : blkTo (unitG dr (src * 256 + v * 8) 2816) 8 = true := hbq.symm.trans c2
      refine lv_iinc (pc := 41) (v := nI (v + 1)) (lv' := [(3, .int (nI (v + 1))), (0, .ref g0), (1, .int (nI src)), (2, .int (nI dst))]) hx hb dX4_copy_41 hl (k := 0) rfl (nI_inc v 1) (by decide) rfl (fun ls hl => ?_)
      refine lv_goto (pc := 44) (tgt := 2) hx hb dX4_copy_44 (by decide) ?_
      exact ih2 (d, v + 1, L1, dr1, er1, pl1, un1, li1) H locs ls ⟨by rw [hT, copyL_s, unitL, if_pos hbl, List.nil_append], by rw [hA0, copyL_s, appL_app, unitL, if_pos hbl]; rfl, hL1, by omega, by omega, hag⟩ (by first | omega | (simp only []; omega)) hP hD hS (lv_sub hl [0, 1, 2, 3] rfl)
    · skip
      have c2 : (blkTo (fun z => dr1 ((src * 256 + v * 8) + z)) 8) = false := bI_0.mp c2
      have hbl : blkTo (unitG dr (src * 256 + v * 8) 2816) 8 = false := hbq.symm.trans c2
      refine lv_aload_n (pc := 23) hx hb dX4_copy_23 rfl (lv_at hl 1 rfl) ?_
      refine lv_iload_n (pc := 24) hx hb dX4_copy_24 rfl (lv_at hl 3 rfl) ?_
      refine lv_iload_n (pc := 25) hx hb dX4_copy_25 rfl (lv_at hl 0 rfl) ?_
      refine x_roi (pc := 26) (va_runS (As := [.int (nI dst), .int (nI v)]) (rest := [.ref g0]) ⟨hx, hb, hml, hown, hts⟩ (kX4_unit l dC dI tt cI cB _ dst v) (va_cwS 2 hts gX4_copy_X4_unit rfl rfl rfl (by decide +kernel) ⟨Nat.le_of_ble_eq_true rfl, Nat.le_of_ble_eq_true rfl⟩) (x_preS hS hE hK hP hD [] rfl (by decide) (x_ro hS hA) xR0) rfl rfl hl.1 rfl (lv_room (Nat.le_of_ble_eq_true rfl)) dX4_copy_26 ⟨Nat.le_of_ble_eq_true rfl, Nat.le_of_ble_eq_true rfl⟩) hS hA hP (fun r_3 H locs hr_3 hP hS => ?_)
      subst hr_3
      refine lv_aload_n (pc := 29) hx hb dX4_copy_29 rfl (lv_at hl 1 rfl) ?_
      refine va_get (pc := 30) (D := (dC, dI)) (ci := 4) (v := .ref g2) (C := RX4) (T := TX4) (N := 26) hx hb hts (by decide +kernel) hown hK hP 0 rfl rfl 1 (by decide) (hts (.fieldLink RX4 13 "ScratchSwapModel" "draft" "[B") (by decide +kernel)) (fun _ h9 => h9) rfl dX4_copy_30 ?_
      refine lv_iload_n (pc := 33) hx hb dX4_copy_33 rfl (lv_at hl 2 rfl) ?_
      refine lv_iload_n (pc := 34) hx hb dX4_copy_34 rfl (lv_at hl 0 rfl) ?_
      refine x_roi (pc := 35) (va_runS (As := [.int (nI src), .int (nI v)]) (rest := [.ref g2, .int (nI (dst * 256 + v * 8)), .ref g0]) ⟨hx, hb, hml, hown, hts⟩ (kX4_unit l dC dI tt cI cB _ src v) (va_cwS 2 hts gX4_copy_X4_unit rfl rfl rfl (by decide +kernel) ⟨Nat.le_of_ble_eq_true rfl, Nat.le_of_ble_eq_true rfl⟩) (x_preS hS hE hK hP hD [] rfl (by decide) (x_ro hS hA) xR0) rfl rfl hl.1 rfl (lv_room (Nat.le_of_ble_eq_true rfl)) dX4_copy_35 ⟨Nat.le_of_ble_eq_true rfl, Nat.le_of_ble_eq_true rfl⟩) hS hA hP (fun r_4 H locs hr_4 hP hS => ?_)
      subst hr_4
      refine x_wrva (pc := 38) (va_runV (As := [.int (nI (dst * 256 + v * 8)), .ref g2, .int (nI (src * 256 + v * 8))]) (rest := []) ⟨hx, hb, hml, hown, hts⟩ (kX4_writeD l dC dI tt cI cB _ g0 g1 g2 g3 g4 g5 g6 g7 g8 g9 g10 g11 g12 g13 k dr1 er1 pl1 un1 li1 ov tp tn rn vs bo ex wr ei dg wo pa ch fi L1 (dst * 256 + v * 8) (src * 256 + v * 8) (unitG dr (src * 256 + v * 8) 2816) hL1 (by omega) hg9 (by omega) (by omega) (by omega)) (cwV 3 hts gX4_copy_X4_write rfl rfl rfl (by decide +kernel) ⟨Nat.le_of_ble_eq_true rfl, Nat.le_of_ble_eq_true rfl⟩) (x_preVa hS hE hK hP hD (x_all hD hS hA) xR0 4 0 rfl rfl) rfl rfl hl.1 rfl (lv_room (Nat.le_of_ble_eq_true rfl)) dX4_copy_38 ⟨Nat.le_of_ble_eq_true rfl, Nat.le_of_ble_eq_true rfl⟩) hS hA hD (fun u_5 H locs hu_5 hP hD hS => ?_)
      obtain ⟨dr_6, er_7, pl_8, un_9, li_10⟩ := u_5
      obtain ⟨hL_11, hd_12⟩ : lstR (L1 ++ ([Sum.inr (dst * 256 + v * 8, unitG dr (src * 256 + v * 8) 2816)])) er_7 pl_8 un_9 li_10 ∧ dr_6 = andFn dr1 (dst * 256 + v * 8) (unitG dr (src * 256 + v * 8) 2816) 8 := hu_5
      have hP : va_P (dC, dI) vwCl (gW g0 g1 g2 g3 g4 g5 g6 g7 g8 g9 g10 g11 g12 g13 cI cB k dr_6 er_7 pl_8 un_9 li_10 ov tp tn rn vs bo ex wr ei dg wo pa ch fi) _ := hP
      have hD : va_D A (gW g0 g1 g2 g3 g4 g5 g6 g7 g8 g9 g10 g11 g12 g13 cI cB k dr_6 er_7 pl_8 un_9 li_10 ov tp tn rn vs bo ex wr ei dg wo pa ch fi) := hD
      have hlen_li_10 : li_10 = li1 + 1 := by rw [hL_11.1, List.length_append, ← hL1.1]; rfl
      refine lv_iinc (pc := 41) (v := nI (v + 1)) (lv' := [(3, .int (nI (v + 1))), (0, .ref g0), (1, .int (nI src)), (2, .int (nI dst))]) hx hb dX4_copy_41 hl (k := 0) rfl (nI_inc v 1) (by decide) rfl (fun ls hl => ?_)
      refine lv_goto (pc := 44) (tgt := 2) hx hb dX4_copy_44 (by decide) ?_
      exact ih2 (d, v + 1, L1 ++ ([Sum.inr (dst * 256 + v * 8, unitG dr (src * 256 + v * 8) 2816)]), dr_6, er_7, pl_8, un_9, li_10) H locs ls ⟨by rw [hT, copyL_s, unitL, if_neg (by rw [hbl]; decide), List.append_assoc], by rw [hA0, copyL_s, appL_app, unitL, if_neg (by rw [hbl]; decide), hd_12]; rfl, hL_11, by omega, by omega, fun j h1 h2 => by rw [hd_12, andFn_out _ _ _ (by omega)]; exact hag j h1 h2⟩ (by first | omega | (simp only []; omega)) hP hD hS (lv_sub hl [0, 1, 2, 3] rfl)
