set_option maxHeartbeats 4000000 in
set_option maxRecDepth 100000 in
theorem kX4_begins (l : Launch) (dC : Nat → ClassId) (dI : Nat → Nat → Nat) (tt : Nat → Nat) (cI cB : ClassId) (sz : Nat) (g0 g1 g2 g3 g4 g5 g6 g7 g8 g9 g10 g11 g12 g13 : Nat) (k : K0) (dr : Nat → Int8) (er pl : Nat → Int32) (un : Nat → Int8) (li : Nat) (ov : Int32) (tp : Nat → Int8) (tn : Nat) (rn : Bool) (vs bo ex wr : Int32) (ei dg : Nat → Int8) (wo : Nat → Int32) (pa : Nat → Int8) (ch fi : Nat → Int32)  : MetV (S := (Nat → Int8)) l yX4_begins wsX4_begins { frames := 0, cells := 0, slots := 0, locals := 0 } (dC, dI) [(cI, .int), (cB, .byte)] tt [] sz (gW g0 g1 g2 g3 g4 g5 g6 g7 g8 g9 g10 g11 g12 g13 cI cB k dr er pl un li ov tp tn rn vs bo ex wr ei dg wo pa ch fi) [.ref g0] (fun u : (Nat → Int8) => gW g0 g1 g2 g3 g4 g5 g6 g7 g8 g9 g10 g11 g12 g13 cI cB k u er pl un 0 (-1) tp tn rn vs bo ex wr ei dg wo pa ch fi) (fun u => eqF u k.1) := by
  refine Met.ofW (cc := cX4_begins) (maxL := 2) (ret := none) (by decide) rfl ?_
  intro p e s m args below meth c s₁ B hml hv
  obtain ⟨rfl, hsz, hP, hK, hD0, hE⟩ := hv
  have hx := B.exec
  have hb := B.bytes
  have hr := B.returns
  have hts := atoms_spec (ws := wsX4_begins) B.pre
  have hown : s.vm.findClass RX4 = some m.cls := findClass_of_methodNamed B.named
  have hlocks := B.notSynchronized
  subst hsz
  have hD := hD0.self (sz := s.heap.size)
  generalize hAe : va_A (gW g0 g1 g2 g3 g4 g5 g6 g7 g8 g9 g10 g11 g12 g13 cI cB k dr er pl un li ov tp tn rn vs bo ex wr ei dg wo pa ch fi) s.heap.size = A at hD hE ⊢
  have hA : ∀ q : Nat, s.heap.size ≤ q → A q := fun q h => by rw [← hAe]; exact Or.inr h
  have hS : va_S A s.heap s.heap [] := va_S.rf
  have hl := lv_entry ([.ref g0]) (n := 2) (Nat.le_of_ble_eq_true rfl)
  rw [lg_entry_eq]
  generalize (lg_sl ([.ref g0]) ++ List.replicate (2 - (lg_sl ([.ref g0])).length) Slot.unset).toArray = ls at hl ⊢
  have hl : lv_has ls 2 [(0, .ref g0)] := hl
  have hP : va_P (dC, dI) vwCl (gW g0 g1 g2 g3 g4 g5 g6 g7 g8 g9 g10 g11 g12 g13 cI cB k dr er pl un li ov tp tn rn vs bo ex wr ei dg wo pa ch fi) s.heap := hP
  refine lv_iconst (pc := 0) (v := nI 0) hx hb dX4_begins_0 (by decide) ?_
  refine lv_istore_n (pc := 1) (lv' := [(1, .int (nI 0)), (0, .ref g0)]) hx hb dX4_begins_1 rfl hl (by decide) rfl (fun ls hl => ?_)
  rw [← cpF_0 dr k.1] at hP hD
  refine x_loop (σ := (Nat)) (Wd := fun i : (Nat) => gW g0 g1 g2 g3 g4 g5 g6 g7 g8 g9 g10 g11 g12 g13 cI cB k (cpF dr k.1 i) er pl un li ov tp tn rn vs bo ex wr ei dg wo pa ch fi) (Lv := fun i : (Nat) => [(1, .int (nI i)), (0, .ref g0)]) (I := fun i : (Nat) => (i ≤ 2816)) (μ := fun i : (Nat) => 2816 - i) ?_ (0) (by omega) hP hD hS (lv_sub hl [0, 1] rfl)
  intro i H locs ls hI hP hD hS hl ih2
  have hi : (i ≤ 2816) := hI
  have hP : va_P (dC, dI) vwCl (gW g0 g1 g2 g3 g4 g5 g6 g7 g8 g9 g10 g11 g12 g13 cI cB k (cpF dr k.1 i) er pl un li ov tp tn rn vs bo ex wr ei dg wo pa ch fi) _ := hP
  have hD : va_D A (gW g0 g1 g2 g3 g4 g5 g6 g7 g8 g9 g10 g11 g12 g13 cI cB k (cpF dr k.1 i) er pl un li ov tp tn rn vs bo ex wr ei dg wo pa ch fi) := hD
  have hl : lv_has ls 2 [(1, .int (nI i)), (0, .ref g0)] := hl
  refine lv_iload_n (pc := 2) hx hb dX4_begins_2 rfl (lv_at hl 0 rfl) ?_
  refine lv_sipush (pc := 3) (v := nI 2816) hx hb dX4_begins_3 (by decide) ?_
  refine lv_icmp_ge (pc := 6) (tgt := 27) hx hb dX4_begins_6 (by decide) (fun c_1 => ?_) (fun c_1 => ?_)
  · skip
    have c_1 : 2816 ≤ i := (nI_leI (a := 2816) (b := i) (by omega) (by omega)).mp c_1
    refine lv_aload_n (pc := 27) hx hb dX4_begins_27 rfl (lv_at hl 1 rfl) ?_
    refine lv_iconst (pc := 28) (v := nI 0) hx hb dX4_begins_28 (by decide) ?_
    refine va_put (pc := 29) (D := (dC, dI)) (ci := 4) (v := .int (nI 0)) (ty := .int) (C := RX4) (T := TX4) (N := 26) hx hb hts (by decide +kernel) tyX4 tyX4_ok nmX4 hown hK hP hD hS 0 rfl rfl 5 (by decide) (hts (.fieldLink RX4 54 "ScratchSwapModel" "listed" "I") (by decide +kernel)) (fun _ h9 => h9) rfl (by decide +kernel) rfl rfl (Nat.le_of_ble_eq_true rfl) dX4_begins_29 (fun H locs hP hD hS => ?_)
    have hP : va_P (dC, dI) vwCl (gW g0 g1 g2 g3 g4 g5 g6 g7 g8 g9 g10 g11 g12 g13 cI cB k (cpF dr k.1 i) er pl un 0 ov tp tn rn vs bo ex wr ei dg wo pa ch fi) _ := hP
    have hD : va_D A (gW g0 g1 g2 g3 g4 g5 g6 g7 g8 g9 g10 g11 g12 g13 cI cB k (cpF dr k.1 i) er pl un 0 ov tp tn rn vs bo ex wr ei dg wo pa ch fi) := hD
    refine lv_aload_n (pc := 32) hx hb dX4_begins_32 rfl (lv_at hl 1 rfl) ?_
    refine lv_iconst (pc := 33) (v := (-1)) hx hb dX4_begins_33 (by decide) ?_
    refine va_put (pc := 34) (D := (dC, dI)) (ci := 4) (v := .int (-1)) (ty := .int) (C := RX4) (T := TX4) (N := 26) hx hb hts (by decide +kernel) tyX4 tyX4_ok nmX4 hown hK hP hD hS 0 rfl rfl 6 (by decide) (hts (.fieldLink RX4 57 "ScratchSwapModel" "over" "I") (by decide +kernel)) (fun _ h9 => h9) rfl (by decide +kernel) rfl rfl (Nat.le_of_ble_eq_true rfl) dX4_begins_34 (fun H locs hP hD hS => ?_)
    have hP : va_P (dC, dI) vwCl (gW g0 g1 g2 g3 g4 g5 g6 g7 g8 g9 g10 g11 g12 g13 cI cB k (cpF dr k.1 i) er pl un 0 (-1) tp tn rn vs bo ex wr ei dg wo pa ch fi) _ := hP
    have hD : va_D A (gW g0 g1 g2 g3 g4 g5 g6 g7 g8 g9 g10 g11 g12 g13 cI cB k (cpF dr k.1 i) er pl un 0 (-1) tp tn rn vs bo ex wr ei dg wo pa ch fi) := hD
    exact W.vret hx hb hr (fun t ht hW => ⟨⟨cpF dr k.1 i, rfl, fun j hj => by show (if j < i then k.1 j else dr j) = _; rw [if_pos (by omega)], by show va_P _ _ _ t.heap; rw [ht]; exact hP, va_K.moved hW.alike hK, hD⟩, hS.F ht⟩) hS.2.2 dX4_begins_37
  · skip
    have c_1 : ¬ 2816 ≤ i := fun z => c_1 ((nI_leI (a := 2816) (b := i) (by omega) (by omega)).mpr z)
    refine lv_aload_n (pc := 9) hx hb dX4_begins_9 rfl (lv_at hl 1 rfl) ?_
    refine va_get (pc := 10) (D := (dC, dI)) (ci := 4) (v := .ref g2) (C := RX4) (T := TX4) (N := 26) hx hb hts (by decide +kernel) hown hK hP 0 rfl rfl 1 (by decide) (hts (.fieldLink RX4 13 "ScratchSwapModel" "draft" "[B") (by decide +kernel)) (fun _ h9 => h9) rfl dX4_begins_10 ?_
    refine lv_iload_n (pc := 13) hx hb dX4_begins_13 rfl (lv_at hl 0 rfl) ?_
    refine lv_aload_n (pc := 14) hx hb dX4_begins_14 rfl (lv_at hl 1 rfl) ?_
    refine va_get (pc := 15) (D := (dC, dI)) (ci := 4) (v := .ref g1) (C := RX4) (T := TX4) (N := 26) hx hb hts (by decide +kernel) hown hK hP 0 rfl rfl 0 (by decide) (hts (.fieldLink RX4 9 "ScratchSwapModel" "flash" "[B") (by decide +kernel)) (fun _ h9 => h9) rfl dX4_begins_15 ?_
    refine lv_iload_n (pc := 18) hx hb dX4_begins_18 rfl (lv_at hl 0 rfl) ?_
    refine x_bald (pc := 19) (k := i) (f := fun j => Int8.toInt32 (k.1 j)) hx hb hK hP 1 1 rfl rfl (by omega) (by decide) dX4_begins_19 ?_
    refine x_sst (pc := 20) (k := i) (F := cpF dr k.1 i) hx hb hK hP hD hS 2 1 rfl rfl (by omega) (by decide) dX4_begins_20 (fun H locs hP hD hS => ?_)
    have hP : va_P (dC, dI) vwCl (gW g0 g1 g2 g3 g4 g5 g6 g7 g8 g9 g10 g11 g12 g13 cI cB k (va_up (cpF dr k.1 i) i (k.1 i)) er pl un li ov tp tn rn vs bo ex wr ei dg wo pa ch fi) _ := hP
    have hD : va_D A (gW g0 g1 g2 g3 g4 g5 g6 g7 g8 g9 g10 g11 g12 g13 cI cB k (va_up (cpF dr k.1 i) i (k.1 i)) er pl un li ov tp tn rn vs bo ex wr ei dg wo pa ch fi) := hD
    refine lv_iinc (pc := 21) (v := nI (i + 1)) (lv' := [(1, .int (nI (i + 1))), (0, .ref g0)]) hx hb dX4_begins_21 hl (k := 0) rfl (nI_inc i 1) (by decide) rfl (fun ls hl => ?_)
    refine lv_goto (pc := 24) (tgt := 2) hx hb dX4_begins_24 (by decide) ?_
    rw [cpF_step] at hP hD
    exact ih2 (i + 1) H locs ls (by omega) (by first | omega | (simp only []; omega)) hP hD hS (lv_sub hl [0, 1] rfl)
set_option maxHeartbeats 4000000 in
set_option maxRecDepth 100000 in
theorem kX4_erase (l : Launch) (dC : Nat → ClassId) (dI : Nat → Nat → Nat) (tt : Nat → Nat) (cI cB : ClassId) (sz : Nat) (g0 g1 g2 g3 g4 g5 g6 g7 g8 g9 g10 g11 g12 g13 : Nat) (k : K0) (dr : Nat → Int8) (er pl : Nat → Int32) (un : Nat → Int8) (li : Nat) (ov : Int32) (tp : Nat → Int8) (tn : Nat) (rn : Bool) (vs bo ex wr : Int32) (ei dg : Nat → Int8) (wo : Nat → Int32) (pa : Nat → Int8) (ch fi : Nat → Int32) (L : List Act) (j : Nat) (hL : lstR L er pl un li) (hli : li < 700) (hj : j < 11) : MetV (S := ((Nat → Int8) × (Nat → Int32) × (Nat → Int32) × (Nat → Int8) × Nat)) l yX4_erase wsX4_erase { frames := 0, cells := 0, slots := 0, locals := 0 } (dC, dI) [(cI, .int), (cB, .byte)] tt [] sz (gW g0 g1 g2 g3 g4 g5 g6 g7 g8 g9 g10 g11 g12 g13 cI cB k dr er pl un li ov tp tn rn vs bo ex wr ei dg wo pa ch fi) [.ref g0, .int (nI j)] (fun u : ((Nat → Int8) × (Nat → Int32) × (Nat → Int32) × (Nat → Int8) × Nat) => gW g0 g1 g2 g3 g4 g5 g6 g7 g8 g9 g10 g11 g12 g13 cI cB k u.1 u.2.1 u.2.2.1 u.2.2.2.1 u.2.2.2.2 ov tp tn rn vs bo ex wr ei dg wo pa ch fi) (fun u => lstR (L ++ [.inl j]) u.2.1 u.2.2.1 u.2.2.2.1 u.2.2.2.2 ∧ u.1 = fillF dr (j * 256) 256) := by
  refine Met.ofW (cc := cX4_erase) (maxL := 3) (ret := none) (by decide) rfl ?_
  intro p e s m args below meth c s₁ B hml hv
  obtain ⟨rfl, hsz, hP, hK, hD0, hE⟩ := hv
  have hx := B.exec
  have hb := B.bytes
  have hr := B.returns
  have hts := atoms_spec (ws := wsX4_erase) B.pre
  have hown : s.vm.findClass RX4 = some m.cls := findClass_of_methodNamed B.named
  have hlocks := B.notSynchronized
  subst hsz
  have hD := hD0.self (sz := s.heap.size)
  generalize hAe : va_A (gW g0 g1 g2 g3 g4 g5 g6 g7 g8 g9 g10 g11 g12 g13 cI cB k dr er pl un li ov tp tn rn vs bo ex wr ei dg wo pa ch fi) s.heap.size = A at hD hE ⊢
  have hA : ∀ q : Nat, s.heap.size ≤ q → A q := fun q h => by rw [← hAe]; exact Or.inr h
  have hS : va_S A s.heap s.heap [] := va_S.rf
  have hl := lv_entry ([.ref g0, .int (nI j)]) (n := 3) (Nat.le_of_ble_eq_true rfl)
  rw [lg_entry_eq]
  generalize (lg_sl ([.ref g0, .int (nI j)]) ++ List.replicate (3 - (lg_sl ([.ref g0, .int (nI j)])).length) Slot.unset).toArray = ls at hl ⊢
  have hl : lv_has ls 3 [(0, .ref g0), (1, .int (nI j))] := hl
  have hP : va_P (dC, dI) vwCl (gW g0 g1 g2 g3 g4 g5 g6 g7 g8 g9 g10 g11 g12 g13 cI cB k dr er pl un li ov tp tn rn vs bo ex wr ei dg wo pa ch fi) s.heap := hP
  refine lv_iconst (pc := 0) (v := nI 0) hx hb dX4_erase_0 (by decide) ?_
  refine lv_istore_n (pc := 1) (lv' := [(2, .int (nI 0)), (0, .ref g0), (1, .int (nI j))]) hx hb dX4_erase_1 rfl hl (by decide) rfl (fun ls hl => ?_)
  rw [← fillF_0 dr (j * 256)] at hP hD
  refine x_loop (σ := (Nat)) (Wd := fun i : (Nat) => gW g0 g1 g2 g3 g4 g5 g6 g7 g8 g9 g10 g11 g12 g13 cI cB k (fillF dr (j * 256) i) er pl un li ov tp tn rn vs bo ex wr ei dg wo pa ch fi) (Lv := fun i : (Nat) => [(2, .int (nI i)), (0, .ref g0), (1, .int (nI j))]) (I := fun i : (Nat) => (i ≤ 256)) (μ := fun i : (Nat) => 256 - i) ?_ (0) (by omega) hP hD hS (lv_sub hl [0, 1, 2] rfl)
  intro i H locs ls hI hP hD hS hl ih2
  have hi : (i ≤ 256) := hI
  have hP : va_P (dC, dI) vwCl (gW g0 g1 g2 g3 g4 g5 g6 g7 g8 g9 g10 g11 g12 g13 cI cB k (fillF dr (j * 256) i) er pl un li ov tp tn rn vs bo ex wr ei dg wo pa ch fi) _ := hP
  have hD : va_D A (gW g0 g1 g2 g3 g4 g5 g6 g7 g8 g9 g10 g11 g12 g13 cI cB k (fillF dr (j * 256) i) er pl un li ov tp tn rn vs bo ex wr ei dg wo pa ch fi) := hD
  have hl : lv_has ls 3 [(2, .int (nI i)), (0, .ref g0), (1, .int (nI j))] := hl
  refine lv_iload_n (pc := 2) hx hb dX4_erase_2 rfl (lv_at hl 0 rfl) ?_
  refine lv_sipush (pc := 3) (v := nI 256) hx hb dX4_erase_3 (by decide) ?_
  refine lv_icmp_ge (pc := 6) (tgt := 28) hx hb dX4_erase_6 (by decide) (fun c_1 => ?_) (fun c_1 => ?_)
  · skip
    have c_1 : 256 ≤ i := (nI_leI (a := 256) (b := i) (by omega) (by omega)).mp c_1
    refine lv_aload_n (pc := 28) hx hb dX4_erase_28 rfl (lv_at hl 1 rfl) ?_
    refine va_get (pc := 29) (D := (dC, dI)) (ci := 4) (v := .ref g3) (C := RX4) (T := TX4) (N := 26) hx hb hts (by decide +kernel) hown hK hP 0 rfl rfl 2 (by decide) (hts (.fieldLink RX4 16 "ScratchSwapModel" "erases" "[I") (by decide +kernel)) (fun _ h9 => h9) rfl dX4_erase_29 ?_
    refine lv_aload_n (pc := 32) hx hb dX4_erase_32 rfl (lv_at hl 1 rfl) ?_
    refine va_get (pc := 33) (D := (dC, dI)) (ci := 4) (v := .int (nI li)) (C := RX4) (T := TX4) (N := 26) hx hb hts (by decide +kernel) hown hK hP 0 rfl rfl 5 (by decide) (hts (.fieldLink RX4 54 "ScratchSwapModel" "listed" "I") (by decide +kernel)) (fun _ h9 => h9) rfl dX4_erase_33 ?_
    refine lv_iload_n (pc := 36) hx hb dX4_erase_36 rfl (lv_at hl 2 rfl) ?_
    refine x_iast (pc := 37) (k := li) (f := er) hx hb hK hP hD hS 3 0 rfl rfl (by omega) (by decide) dX4_erase_37 (fun H locs hP hD hS => ?_)
    have hP : va_P (dC, dI) vwCl (gW g0 g1 g2 g3 g4 g5 g6 g7 g8 g9 g10 g11 g12 g13 cI cB k (fillF dr (j * 256) i) (upd er li (nI j)) pl un li ov tp tn rn vs bo ex wr ei dg wo pa ch fi) _ := hP
    have hD : va_D A (gW g0 g1 g2 g3 g4 g5 g6 g7 g8 g9 g10 g11 g12 g13 cI cB k (fillF dr (j * 256) i) (upd er li (nI j)) pl un li ov tp tn rn vs bo ex wr ei dg wo pa ch fi) := hD
    refine lv_aload_n (pc := 38) hx hb dX4_erase_38 rfl (lv_at hl 1 rfl) ?_
    refine va_get (pc := 39) (D := (dC, dI)) (ci := 4) (v := .ref g4) (C := RX4) (T := TX4) (N := 26) hx hb hts (by decide +kernel) hown hK hP 0 rfl rfl 3 (by decide) (hts (.fieldLink RX4 20 "ScratchSwapModel" "places" "[I") (by decide +kernel)) (fun _ h9 => h9) rfl dX4_erase_39 ?_
    refine lv_aload_n (pc := 42) hx hb dX4_erase_42 rfl (lv_at hl 1 rfl) ?_
    refine va_get (pc := 43) (D := (dC, dI)) (ci := 4) (v := .int (nI li)) (C := RX4) (T := TX4) (N := 26) hx hb hts (by decide +kernel) hown hK hP 0 rfl rfl 5 (by decide) (hts (.fieldLink RX4 54 "ScratchSwapModel" "listed" "I") (by decide +kernel)) (fun _ h9 => h9) rfl dX4_erase_43 ?_
    refine lv_iconst (pc := 46) (v := (-1)) hx hb dX4_erase_46 (by decide) ?_
    refine x_iast (pc := 47) (k := li) (f := pl) hx hb hK hP hD hS 4 0 rfl rfl (by omega) (by decide) dX4_erase_47 (fun H locs hP hD hS => ?_)
    have hP : va_P (dC, dI) vwCl (gW g0 g1 g2 g3 g4 g5 g6 g7 g8 g9 g10 g11 g12 g13 cI cB k (fillF dr (j * 256) i) (upd er li (nI j)) (upd pl li (-1)) un li ov tp tn rn vs bo ex wr ei dg wo pa ch fi) _ := hP
    have hD : va_D A (gW g0 g1 g2 g3 g4 g5 g6 g7 g8 g9 g10 g11 g12 g13 cI cB k (fillF dr (j * 256) i) (upd er li (nI j)) (upd pl li (-1)) un li ov tp tn rn vs bo ex wr ei dg wo pa ch fi) := hD
    refine lv_aload_n (pc := 48) hx hb dX4_erase_48 rfl (lv_at hl 1 rfl) ?_
    refine lv_dup (pc := 49) hx hb dX4_erase_49 rfl ?_
    refine va_get (pc := 50) (D := (dC, dI)) (ci := 4) (v := .int (nI li)) (C := RX4) (T := TX4) (N := 26) hx hb hts (by decide +kernel) hown hK hP 0 rfl rfl 5 (by decide) (hts (.fieldLink RX4 54 "ScratchSwapModel" "listed" "I") (by decide +kernel)) (fun _ h9 => h9) rfl dX4_erase_50 ?_
    refine lv_iconst (pc := 53) (v := nI 1) hx hb dX4_erase_53 (by decide) ?_
    refine lv_iadd (pc := 54) hx hb dX4_erase_54 ?_
    refine lv_cv (nI_add li 1) ?_
    refine va_put (pc := 55) (D := (dC, dI)) (ci := 4) (v := .int (nI (li + 1))) (ty := .int) (C := RX4) (T := TX4) (N := 26) hx hb hts (by decide +kernel) tyX4 tyX4_ok nmX4 hown hK hP hD hS 0 rfl rfl 5 (by decide) (hts (.fieldLink RX4 54 "ScratchSwapModel" "listed" "I") (by decide +kernel)) (fun _ h9 => h9) rfl (by decide +kernel) rfl rfl (Nat.le_of_ble_eq_true rfl) dX4_erase_55 (fun H locs hP hD hS => ?_)
    have hP : va_P (dC, dI) vwCl (gW g0 g1 g2 g3 g4 g5 g6 g7 g8 g9 g10 g11 g12 g13 cI cB k (fillF dr (j * 256) i) (upd er li (nI j)) (upd pl li (-1)) un (li + 1) ov tp tn rn vs bo ex wr ei dg wo pa ch fi) _ := hP
    have hD : va_D A (gW g0 g1 g2 g3 g4 g5 g6 g7 g8 g9 g10 g11 g12 g13 cI cB k (fillF dr (j * 256) i) (upd er li (nI j)) (upd pl li (-1)) un (li + 1) ov tp tn rn vs bo ex wr ei dg wo pa ch fi) := hD
    exact W.vret hx hb hr (fun t ht hW => ⟨⟨(fillF dr (j * 256) i, upd er li (nI j), upd pl li (-1), un, li + 1), rfl, ⟨lst_e hL hj, by show fillF dr (j * 256) i = _; rw [show i = 256 by omega]⟩, by show va_P _ _ _ t.heap; rw [ht]; exact hP, va_K.moved hW.alike hK, hD⟩, hS.F ht⟩) hS.2.2 dX4_erase_58
  · skip
    have c_1 : ¬ 256 ≤ i := fun z => c_1 ((nI_leI (a := 256) (b := i) (by omega) (by omega)).mpr z)
    refine lv_aload_n (pc := 9) hx hb dX4_erase_9 rfl (lv_at hl 1 rfl) ?_
    refine va_get (pc := 10) (D := (dC, dI)) (ci := 4) (v := .ref g2) (C := RX4) (T := TX4) (N := 26) hx hb hts (by decide +kernel) hown hK hP 0 rfl rfl 1 (by decide) (hts (.fieldLink RX4 13 "ScratchSwapModel" "draft" "[B") (by decide +kernel)) (fun _ h9 => h9) rfl dX4_erase_10 ?_
    refine lv_sipush (pc := 13) (v := nI 256) hx hb dX4_erase_13 (by decide) ?_
    refine lv_iload_n (pc := 16) hx hb dX4_erase_16 rfl (lv_at hl 2 rfl) ?_
    refine lv_imul (pc := 17) hx hb dX4_erase_17 ?_
    refine lv_cv (x_mulc 256 j) ?_
    refine lv_iload_n (pc := 18) hx hb dX4_erase_18 rfl (lv_at hl 0 rfl) ?_
    refine lv_iadd (pc := 19) hx hb dX4_erase_19 ?_
    refine lv_cv (nI_add (j * 256) i) ?_
    refine lv_iconst (pc := 20) (v := (-1)) hx hb dX4_erase_20 (by decide) ?_
    refine lv_cv (show (-1) = Int8.toInt32 ((-1)) from by decide) ?_
    refine x_sst (pc := 21) (k := (j * 256) + i) (F := fillF dr (j * 256) i) hx hb hK hP hD hS 2 1 rfl rfl (by omega) (by decide) dX4_erase_21 (fun H locs hP hD hS => ?_)
    have hP : va_P (dC, dI) vwCl (gW g0 g1 g2 g3 g4 g5 g6 g7 g8 g9 g10 g11 g12 g13 cI cB k (va_up (fillF dr (j * 256) i) ((j * 256) + i) (-1)) er pl un li ov tp tn rn vs bo ex wr ei dg wo pa ch fi) _ := hP
    have hD : va_D A (gW g0 g1 g2 g3 g4 g5 g6 g7 g8 g9 g10 g11 g12 g13 cI cB k (va_up (fillF dr (j * 256) i) ((j * 256) + i) (-1)) er pl un li ov tp tn rn vs bo ex wr ei dg wo pa ch fi) := hD
    refine lv_iinc (pc := 22) (v := nI (i + 1)) (lv' := [(2, .int (nI (i + 1))), (0, .ref g0), (1, .int (nI j))]) hx hb dX4_erase_22 hl (k := 0) rfl (nI_inc i 1) (by decide) rfl (fun ls hl => ?_)
    refine lv_goto (pc := 25) (tgt := 2) hx hb dX4_erase_25 (by decide) ?_
    rw [fillF_step] at hP hD
    exact ih2 (i + 1) H locs ls (by omega) (by first | omega | (simp only []; omega)) hP hD hS (lv_sub hl [0, 1, 2] rfl)
set_option maxHeartbeats 4000000 in
set_option maxRecDepth 100000 in
theorem kX4_writeE (l : Launch) (dC : Nat → ClassId) (dI : Nat → Nat → Nat) (tt : Nat → Nat) (cI cB : ClassId) (sz : Nat) (g0 g1 g2 g3 g4 g5 g6 g7 g8 g9 g10 g11 g12 g13 : Nat) (k : K0) (dr : Nat → Int8) (er pl : Nat → Int32) (un : Nat → Int8) (li : Nat) (ov : Int32) (tp : Nat → Int8) (tn : Nat) (rn : Bool) (vs bo ex wr : Int32) (ei dg : Nat → Int8) (wo : Nat → Int32) (pa : Nat → Int8) (ch fi : Nat → Int32) (L : List Act) (q fr : Nat) (g : Nat → Int8) (hL : lstR L er pl un li) (hli : li < 700) (hg : ∀ z, z < 8 → ei (fr + z) = g z) (hq : q + 8 ≤ 2816) (hfr : fr + 8 ≤ 8) : MetV (S := ((Nat → Int8) × (Nat → Int32) × (Nat → Int32) × (Nat → Int8) × Nat)) l yX4_write wsX4_write { frames := 0, cells := 0, slots := 0, locals := 0 } (dC, dI) [(cI, .int), (cB, .byte)] tt [] sz (gW g0 g1 g2 g3 g4 g5 g6 g7 g8 g9 g10 g11 g12 g13 cI cB k dr er pl un li ov tp tn rn vs bo ex wr ei dg wo pa ch fi) [.ref g0, .int (nI q), .ref g8, .int (nI fr)] (fun u : ((Nat → Int8) × (Nat → Int32) × (Nat → Int32) × (Nat → Int8) × Nat) => gW g0 g1 g2 g3 g4 g5 g6 g7 g8 g9 g10 g11 g12 g13 cI cB k u.1 u.2.1 u.2.2.1 u.2.2.2.1 u.2.2.2.2 ov tp tn rn vs bo ex wr ei dg wo pa ch fi) (fun u => lstR (L ++ [.inr (q, g)]) u.2.1 u.2.2.1 u.2.2.2.1 u.2.2.2.2 ∧ u.1 = andFn dr q g 8) := by
  refine Met.ofW (cc := cX4_write) (maxL := 5) (ret := none) (by decide) rfl ?_
  intro p e s m args below meth c s₁ B hml hv
  obtain ⟨rfl, hsz, hP, hK, hD0, hE⟩ := hv
  have hx := B.exec
  have hb := B.bytes
  have hr := B.returns
  have hts := atoms_spec (ws := wsX4_write) B.pre
  have hown : s.vm.findClass RX4 = some m.cls := findClass_of_methodNamed B.named
  have hlocks := B.notSynchronized
  subst hsz
  have hD := hD0.self (sz := s.heap.size)
  generalize hAe : va_A (gW g0 g1 g2 g3 g4 g5 g6 g7 g8 g9 g10 g11 g12 g13 cI cB k dr er pl un li ov tp tn rn vs bo ex wr ei dg wo pa ch fi) s.heap.size = A at hD hE ⊢
  have hA : ∀ q : Nat, s.heap.size ≤ q → A q := fun q h => by rw [← hAe]; exact Or.inr h
  have hS : va_S A s.heap s.heap [] := va_S.rf
  have hl := lv_entry ([.ref g0, .int (nI q), .ref g8, .int (nI fr)]) (n := 5) (Nat.le_of_ble_eq_true rfl)
  rw [lg_entry_eq]
  generalize (lg_sl ([.ref g0, .int (nI q), .ref g8, .int (nI fr)]) ++ List.replicate (5 - (lg_sl ([.ref g0, .int (nI q), .ref g8, .int (nI fr)])).length) Slot.unset).toArray = ls at hl ⊢
  have hl : lv_has ls 5 [(0, .ref g0), (1, .int (nI q)), (2, .ref g8), (3, .int (nI fr))] := hl
  have hP : va_P (dC, dI) vwCl (gW g0 g1 g2 g3 g4 g5 g6 g7 g8 g9 g10 g11 g12 g13 cI cB k dr er pl un li ov tp tn rn vs bo ex wr ei dg wo pa ch fi) s.heap := hP
  refine lv_iconst (pc := 0) (v := nI 0) hx hb dX4_write_0 (by decide) ?_
  refine lv_istore (pc := 1) (lv' := [(4, .int (nI 0)), (0, .ref g0), (1, .int (nI q)), (2, .ref g8), (3, .int (nI fr))]) hx hb dX4_write_1 hl (by decide) rfl (fun ls hl => ?_)
  rw [← andFn_0 dr q g, ← dgT_0 un (li * 8) g] at hP hD
  refine x_loop (σ := (Nat)) (Wd := fun i : (Nat) => gW g0 g1 g2 g3 g4 g5 g6 g7 g8 g9 g10 g11 g12 g13 cI cB k (andFn dr q g i) er pl (dgT un (li * 8) g i) li ov tp tn rn vs bo ex wr ei dg wo pa ch fi) (Lv := fun i : (Nat) => [(4, .int (nI i)), (0, .ref g0), (1, .int (nI q)), (2, .ref g8), (3, .int (nI fr))]) (I := fun i : (Nat) => (i ≤ 8)) (μ := fun i : (Nat) => 8 - i) ?_ (0) (by omega) hP hD hS (lv_sub hl [0, 1, 2, 3, 4] rfl)
  intro i H locs ls hI hP hD hS hl ih3
  have hi : (i ≤ 8) := hI
  have hP : va_P (dC, dI) vwCl (gW g0 g1 g2 g3 g4 g5 g6 g7 g8 g9 g10 g11 g12 g13 cI cB k (andFn dr q g i) er pl (dgT un (li * 8) g i) li ov tp tn rn vs bo ex wr ei dg wo pa ch fi) _ := hP
  have hD : va_D A (gW g0 g1 g2 g3 g4 g5 g6 g7 g8 g9 g10 g11 g12 g13 cI cB k (andFn dr q g i) er pl (dgT un (li * 8) g i) li ov tp tn rn vs bo ex wr ei dg wo pa ch fi) := hD
  have hl : lv_has ls 5 [(4, .int (nI i)), (0, .ref g0), (1, .int (nI q)), (2, .ref g8), (3, .int (nI fr))] := hl
  refine lv_iload (pc := 3) hx hb dX4_write_3 (lv_at hl 0 rfl) ?_
  refine lv_bipush (pc := 5) (v := nI 8) hx hb dX4_write_5 (by decide) ?_
  refine lv_icmp_ge (pc := 7) (tgt := 56) hx hb dX4_write_7 (by decide) (fun c_1 => ?_) (fun c_1 => ?_)
  · skip
    have c_1 : 8 ≤ i := (nI_leI (a := 8) (b := i) (by omega) (by omega)).mp c_1
    refine lv_aload_n (pc := 56) hx hb dX4_write_56 rfl (lv_at hl 1 rfl) ?_
    refine va_get (pc := 57) (D := (dC, dI)) (ci := 4) (v := .ref g3) (C := RX4) (T := TX4) (N := 26) hx hb hts (by decide +kernel) hown hK hP 0 rfl rfl 2 (by decide) (hts (.fieldLink RX4 16 "ScratchSwapModel" "erases" "[I") (by decide +kernel)) (fun _ h9 => h9) rfl dX4_write_57 ?_
    refine lv_aload_n (pc := 60) hx hb dX4_write_60 rfl (lv_at hl 1 rfl) ?_
    refine va_get (pc := 61) (D := (dC, dI)) (ci := 4) (v := .int (nI li)) (C := RX4) (T := TX4) (N := 26) hx hb hts (by decide +kernel) hown hK hP 0 rfl rfl 5 (by decide) (hts (.fieldLink RX4 54 "ScratchSwapModel" "listed" "I") (by decide +kernel)) (fun _ h9 => h9) rfl dX4_write_61 ?_
    refine lv_iconst (pc := 64) (v := (-1)) hx hb dX4_write_64 (by decide) ?_
    refine x_iast (pc := 65) (k := li) (f := er) hx hb hK hP hD hS 3 0 rfl rfl (by omega) (by decide) dX4_write_65 (fun H locs hP hD hS => ?_)
    have hP : va_P (dC, dI) vwCl (gW g0 g1 g2 g3 g4 g5 g6 g7 g8 g9 g10 g11 g12 g13 cI cB k (andFn dr q g i) (upd er li (-1)) pl (dgT un (li * 8) g i) li ov tp tn rn vs bo ex wr ei dg wo pa ch fi) _ := hP
    have hD : va_D A (gW g0 g1 g2 g3 g4 g5 g6 g7 g8 g9 g10 g11 g12 g13 cI cB k (andFn dr q g i) (upd er li (-1)) pl (dgT un (li * 8) g i) li ov tp tn rn vs bo ex wr ei dg wo pa ch fi) := hD
    refine lv_aload_n (pc := 66) hx hb dX4_write_66 rfl (lv_at hl 1 rfl) ?_
    refine va_get (pc := 67) (D := (dC, dI)) (ci := 4) (v := .ref g4) (C := RX4) (T := TX4) (N := 26) hx hb hts (by decide +kernel) hown hK hP 0 rfl rfl 3 (by decide) (hts (.fieldLink RX4 20 "ScratchSwapModel" "places" "[I") (by decide +kernel)) (fun _ h9 => h9) rfl dX4_write_67 ?_
    refine lv_aload_n (pc := 70) hx hb dX4_write_70 rfl (lv_at hl 1 rfl) ?_
    refine va_get (pc := 71) (D := (dC, dI)) (ci := 4) (v := .int (nI li)) (C := RX4) (T := TX4) (N := 26) hx hb hts (by decide +kernel) hown hK hP 0 rfl rfl 5 (by decide) (hts (.fieldLink RX4 54 "ScratchSwapModel" "listed" "I") (by decide +kernel)) (fun _ h9 => h9) rfl dX4_write_71 ?_
    refine lv_iload_n (pc := 74) hx hb dX4_write_74 rfl (lv_at hl 2 rfl) ?_
    refine x_iast (pc := 75) (k := li) (f := pl) hx hb hK hP hD hS 4 0 rfl rfl (by omega) (by decide) dX4_write_75 (fun H locs hP hD hS => ?_)
    have hP : va_P (dC, dI) vwCl (gW g0 g1 g2 g3 g4 g5 g6 g7 g8 g9 g10 g11 g12 g13 cI cB k (andFn dr q g i) (upd er li (-1)) (upd pl li (nI q)) (dgT un (li * 8) g i) li ov tp tn rn vs bo ex wr ei dg wo pa ch fi) _ := hP
    have hD : va_D A (gW g0 g1 g2 g3 g4 g5 g6 g7 g8 g9 g10 g11 g12 g13 cI cB k (andFn dr q g i) (upd er li (-1)) (upd pl li (nI q)) (dgT un (li * 8) g i) li ov tp tn rn vs bo ex wr ei dg wo pa ch fi) := hD
    refine lv_aload_n (pc := 76) hx hb dX4_write_76 rfl (lv_at hl 1 rfl) ?_
    refine lv_dup (pc := 77) hx hb dX4_write_77 rfl ?_
    refine va_get (pc := 78) (D := (dC, dI)) (ci := 4) (v := .int (nI li)) (C := RX4) (T := TX4) (N := 26) hx hb hts (by decide +kernel) hown hK hP 0 rfl rfl 5 (by decide) (hts (.fieldLink RX4 54 "ScratchSwapModel" "listed" "I") (by decide +kernel)) (fun _ h9 => h9) rfl dX4_write_78 ?_
    refine lv_iconst (pc := 81) (v := nI 1) hx hb dX4_write_81 (by decide) ?_
    refine lv_iadd (pc := 82) hx hb dX4_write_82 ?_
    refine lv_cv (nI_add li 1) ?_
    refine va_put (pc := 83) (D := (dC, dI)) (ci := 4) (v := .int (nI (li + 1))) (ty := .int) (C := RX4) (T := TX4) (N := 26) hx hb hts (by decide +kernel) tyX4 tyX4_ok nmX4 hown hK hP hD hS 0 rfl rfl 5 (by decide) (hts (.fieldLink RX4 54 "ScratchSwapModel" "listed" "I") (by decide +kernel)) (fun _ h9 => h9) rfl (by decide +kernel) rfl rfl (Nat.le_of_ble_eq_true rfl) dX4_write_83 (fun H locs hP hD hS => ?_)
    have hP : va_P (dC, dI) vwCl (gW g0 g1 g2 g3 g4 g5 g6 g7 g8 g9 g10 g11 g12 g13 cI cB k (andFn dr q g i) (upd er li (-1)) (upd pl li (nI q)) (dgT un (li * 8) g i) (li + 1) ov tp tn rn vs bo ex wr ei dg wo pa ch fi) _ := hP
    have hD : va_D A (gW g0 g1 g2 g3 g4 g5 g6 g7 g8 g9 g10 g11 g12 g13 cI cB k (andFn dr q g i) (upd er li (-1)) (upd pl li (nI q)) (dgT un (li * 8) g i) (li + 1) ov tp tn rn vs bo ex wr ei dg wo pa ch fi) := hD
    have hi9 : i = 8 := by omega
    subst hi9
    exact W.vret hx hb hr (fun t ht hW => ⟨⟨(andFn dr q g 8, upd er li (-1), upd pl li (nI q), dgT un (li * 8) g 8, li + 1), rfl, ⟨lst_w hL hq, rfl⟩, by show va_P _ _ _ t.heap; rw [ht]; exact hP, va_K.moved hW.alike hK, hD⟩, hS.F ht⟩) hS.2.2 dX4_write_86
  · skip
    have c_1 : ¬ 8 ≤ i := fun z => c_1 ((nI_leI (a := 8) (b := i) (by omega) (by omega)).mpr z)
    refine lv_aload_n (pc := 10) hx hb dX4_write_10 rfl (lv_at hl 1 rfl) ?_
    refine va_get (pc := 11) (D := (dC, dI)) (ci := 4) (v := .ref g5) (C := RX4) (T := TX4) (N := 26) hx hb hts (by decide +kernel) hown hK hP 0 rfl rfl 4 (by decide) (hts (.fieldLink RX4 23 "ScratchSwapModel" "units" "[B") (by decide +kernel)) (fun _ h9 => h9) rfl dX4_write_11 ?_
    refine lv_bipush (pc := 14) (v := nI 8) hx hb dX4_write_14 (by decide) ?_
    refine lv_aload_n (pc := 16) hx hb dX4_write_16 rfl (lv_at hl 1 rfl) ?_
    refine va_get (pc := 17) (D := (dC, dI)) (ci := 4) (v := .int (nI li)) (C := RX4) (T := TX4) (N := 26) hx hb hts (by decide +kernel) hown hK hP 0 rfl rfl 5 (by decide) (hts (.fieldLink RX4 54 "ScratchSwapModel" "listed" "I") (by decide +kernel)) (fun _ h9 => h9) rfl dX4_write_17 ?_
    refine lv_imul (pc := 20) hx hb dX4_write_20 ?_
    refine lv_cv (x_mulc 8 li) ?_
    refine lv_iload (pc := 21) hx hb dX4_write_21 (lv_at hl 0 rfl) ?_
    refine lv_iadd (pc := 23) hx hb dX4_write_23 ?_
    refine lv_cv (nI_add (li * 8) i) ?_
    refine lv_aload_n (pc := 24) hx hb dX4_write_24 rfl (lv_at hl 3 rfl) ?_
    refine lv_iload_n (pc := 25) hx hb dX4_write_25 rfl (lv_at hl 4 rfl) ?_
    refine lv_iload (pc := 26) hx hb dX4_write_26 (lv_at hl 0 rfl) ?_
    refine lv_iadd (pc := 28) hx hb dX4_write_28 ?_
    refine lv_cv (nI_add fr i) ?_
    refine x_bald (pc := 29) (k := fr + i) (f := fun j => Int8.toInt32 (ei j)) hx hb hK hP 8 1 rfl rfl (by omega) (by decide) dX4_write_29 ?_
    refine lv_cv (congrArg Int8.toInt32 (hg i (by omega))) ?_
    refine x_sst (pc := 30) (k := (li * 8) + i) (F := dgT un (li * 8) g i) hx hb hK hP hD hS 5 1 rfl rfl (by omega) (by decide) dX4_write_30 (fun H locs hP hD hS => ?_)
    have hP : va_P (dC, dI) vwCl (gW g0 g1 g2 g3 g4 g5 g6 g7 g8 g9 g10 g11 g12 g13 cI cB k (andFn dr q g i) er pl (va_up (dgT un (li * 8) g i) ((li * 8) + i) (g i)) li ov tp tn rn vs bo ex wr ei dg wo pa ch fi) _ := hP
    have hD : va_D A (gW g0 g1 g2 g3 g4 g5 g6 g7 g8 g9 g10 g11 g12 g13 cI cB k (andFn dr q g i) er pl (va_up (dgT un (li * 8) g i) ((li * 8) + i) (g i)) li ov tp tn rn vs bo ex wr ei dg wo pa ch fi) := hD
    refine lv_aload_n (pc := 31) hx hb dX4_write_31 rfl (lv_at hl 1 rfl) ?_
    refine va_get (pc := 32) (D := (dC, dI)) (ci := 4) (v := .ref g2) (C := RX4) (T := TX4) (N := 26) hx hb hts (by decide +kernel) hown hK hP 0 rfl rfl 1 (by decide) (hts (.fieldLink RX4 13 "ScratchSwapModel" "draft" "[B") (by decide +kernel)) (fun _ h9 => h9) rfl dX4_write_32 ?_
    refine lv_iload_n (pc := 35) hx hb dX4_write_35 rfl (lv_at hl 2 rfl) ?_
    refine lv_iload (pc := 36) hx hb dX4_write_36 (lv_at hl 0 rfl) ?_
    refine lv_iadd (pc := 38) hx hb dX4_write_38 ?_
    refine lv_cv (nI_add q i) ?_
    refine lv_dup2_11 (pc := 39) hx hb dX4_write_39 rfl rfl ?_
    refine x_bald (pc := 40) (k := q + i) (f := fun j => Int8.toInt32 ((andFn dr q g i) j)) hx hb hK hP 2 1 rfl rfl (by omega) (by decide) dX4_write_40 ?_
    refine lv_aload_n (pc := 41) hx hb dX4_write_41 rfl (lv_at hl 3 rfl) ?_
    refine lv_iload_n (pc := 42) hx hb dX4_write_42 rfl (lv_at hl 4 rfl) ?_
    refine lv_iload (pc := 43) hx hb dX4_write_43 (lv_at hl 0 rfl) ?_
    refine lv_iadd (pc := 45) hx hb dX4_write_45 ?_
    refine lv_cv (nI_add fr i) ?_
    refine x_bald (pc := 46) (k := fr + i) (f := fun j => Int8.toInt32 (ei j)) hx hb hK hP 8 1 rfl rfl (by omega) (by decide) dX4_write_46 ?_
    refine lv_cv (congrArg Int8.toInt32 (hg i (by omega))) ?_
    refine lv_iand (pc := 47) hx hb dX4_write_47 ?_
    refine lv_cv (sb_and ((andFn dr q g i) (q + i)) (g i)) ?_
    refine lv_i2b (pc := 48) hx hb dX4_write_48 (sb_i2b _) ?_
    refine x_sst (pc := 49) (k := q + i) (F := andFn dr q g i) hx hb hK hP hD hS 2 1 rfl rfl (by omega) (by decide) dX4_write_49 (fun H locs hP hD hS => ?_)
    have hP : va_P (dC, dI) vwCl (gW g0 g1 g2 g3 g4 g5 g6 g7 g8 g9 g10 g11 g12 g13 cI cB k (va_up (andFn dr q g i) (q + i) (((andFn dr q g i) (q + i)) &&& (g i))) er pl (va_up (dgT un (li * 8) g i) ((li * 8) + i) (g i)) li ov tp tn rn vs bo ex wr ei dg wo pa ch fi) _ := hP
    have hD : va_D A (gW g0 g1 g2 g3 g4 g5 g6 g7 g8 g9 g10 g11 g12 g13 cI cB k (va_up (andFn dr q g i) (q + i) (((andFn dr q g i) (q + i)) &&& (g i))) er pl (va_up (dgT un (li * 8) g i) ((li * 8) + i) (g i)) li ov tp tn rn vs bo ex wr ei dg wo pa ch fi) := hD
    refine lv_iinc (pc := 50) (v := nI (i + 1)) (lv' := [(4, .int (nI (i + 1))), (0, .ref g0), (1, .int (nI q)), (2, .ref g8), (3, .int (nI fr))]) hx hb dX4_write_50 hl (k := 0) rfl (nI_inc i 1) (by decide) rfl (fun ls hl => ?_)
    refine lv_goto (pc := 53) (tgt := 3) hx hb dX4_write_53 (by decide) ?_
    rw [andFn_step, dgT_step] at hP hD
    exact ih3 (i + 1) H locs ls (by omega) (by first | omega | (simp only []; omega)) hP hD hS (lv_sub hl [0, 1, 2, 3, 4] rfl)
set_option maxHeartbeats 4000000 in
set_option maxRecDepth 100000 in
theorem kX4_writeD (l : Launch) (dC : Nat → ClassId) (dI : Nat → Nat → Nat) (tt : Nat → Nat) (cI cB : ClassId) (sz : Nat) (g0 g1 g2 g3 g4 g5 g6 g7 g8 g9 g10 g11 g12 g13 : Nat) (k : K0) (dr : Nat → Int8) (er pl : Nat → Int32) (un : Nat → Int8) (li : Nat) (ov : Int32) (tp : Nat → Int8) (tn : Nat) (rn : Bool) (vs bo ex wr : Int32) (ei dg : Nat → Int8) (wo : Nat → Int32) (pa : Nat → Int8) (ch fi : Nat → Int32) (L : List Act) (q fr : Nat) (g : Nat → Int8) (hL : lstR L er pl un li) (hli : li < 700) (hg : ∀ z, z < 8 → dr (fr + z) = g z) (hq : q + 8 ≤ 2816) (hfr : fr + 8 ≤ 2816) (hdis : fr + 8 ≤ q ∨ q + 8 ≤ fr) : MetV (S := ((Nat → Int8) × (Nat → Int32) × (Nat → Int32) × (Nat → Int8) × Nat)) l yX4_write wsX4_write { frames := 0, cells := 0, slots := 0, locals := 0 } (dC, dI) [(cI, .int), (cB, .byte)] tt [] sz (gW g0 g1 g2 g3 g4 g5 g6 g7 g8 g9 g10 g11 g12 g13 cI cB k dr er pl un li ov tp tn rn vs bo ex wr ei dg wo pa ch fi) [.ref g0, .int (nI q), .ref g2, .int (nI fr)] (fun u : ((Nat → Int8) × (Nat → Int32) × (Nat → Int32) × (Nat → Int8) × Nat) => gW g0 g1 g2 g3 g4 g5 g6 g7 g8 g9 g10 g11 g12 g13 cI cB k u.1 u.2.1 u.2.2.1 u.2.2.2.1 u.2.2.2.2 ov tp tn rn vs bo ex wr ei dg wo pa ch fi) (fun u => lstR (L ++ [.inr (q, g)]) u.2.1 u.2.2.1 u.2.2.2.1 u.2.2.2.2 ∧ u.1 = andFn dr q g 8) := by
  refine Met.ofW (cc := cX4_write) (maxL := 5) (ret := none) (by decide) rfl ?_
  intro p e s m args below meth c s₁ B hml hv
  obtain ⟨rfl, hsz, hP, hK, hD0, hE⟩ := hv
  have hx := B.exec
  have hb := B.bytes
  have hr := B.returns
  have hts := atoms_spec (ws := wsX4_write) B.pre
  have hown : s.vm.findClass RX4 = some m.cls := findClass_of_methodNamed B.named
  have hlocks := B.notSynchronized
  subst hsz
  have hD := hD0.self (sz := s.heap.size)
  generalize hAe : va_A (gW g0 g1 g2 g3 g4 g5 g6 g7 g8 g9 g10 g11 g12 g13 cI cB k dr er pl un li ov tp tn rn vs bo ex wr ei dg wo pa ch fi) s.heap.size = A at hD hE ⊢
  have hA : ∀ q : Nat, s.heap.size ≤ q → A q := fun q h => by rw [← hAe]; exact Or.inr h
  have hS : va_S A s.heap s.heap [] := va_S.rf
  have hl := lv_entry ([.ref g0, .int (nI q), .ref g2, .int (nI fr)]) (n := 5) (Nat.le_of_ble_eq_true rfl)
  rw [lg_entry_eq]
  generalize (lg_sl ([.ref g0, .int (nI q), .ref g2, .int (nI fr)]) ++ List.replicate (5 - (lg_sl ([.ref g0, .int (nI q), .ref g2, .int (nI fr)])).length) Slot.unset).toArray = ls at hl ⊢
  have hl : lv_has ls 5 [(0, .ref g0), (1, .int (nI q)), (2, .ref g2), (3, .int (nI fr))] := hl
  have hP : va_P (dC, dI) vwCl (gW g0 g1 g2 g3 g4 g5 g6 g7 g8 g9 g10 g11 g12 g13 cI cB k dr er pl un li ov tp tn rn vs bo ex wr ei dg wo pa ch fi) s.heap := hP
  refine lv_iconst (pc := 0) (v := nI 0) hx hb dX4_write_0 (by decide) ?_
  refine lv_istore (pc := 1) (lv' := [(4, .int (nI 0)), (0, .ref g0), (1, .int (nI q)), (2, .ref g2), (3, .int (nI fr))]) hx hb dX4_write_1 hl (by decide) rfl (fun ls hl => ?_)
  rw [← andFn_0 dr q g, ← dgT_0 un (li * 8) g] at hP hD
  refine x_loop (σ := (Nat)) (Wd := fun i : (Nat) => gW g0 g1 g2 g3 g4 g5 g6 g7 g8 g9 g10 g11 g12 g13 cI cB k (andFn dr q g i) er pl (dgT un (li * 8) g i) li ov tp tn rn vs bo ex wr ei dg wo pa ch fi) (Lv := fun i : (Nat) => [(4, .int (nI i)), (0, .ref g0), (1, .int (nI q)), (2, .ref g2), (3, .int (nI fr))]) (I := fun i : (Nat) => (i ≤ 8)) (μ := fun i : (Nat) => 8 - i) ?_ (0) (by omega) hP hD hS (lv_sub hl [0, 1, 2, 3, 4] rfl)
  intro i H locs ls hI hP hD hS hl ih3
  have hi : (i ≤ 8) := hI
  have hP : va_P (dC, dI) vwCl (gW g0 g1 g2 g3 g4 g5 g6 g7 g8 g9 g10 g11 g12 g13 cI cB k (andFn dr q g i) er pl (dgT un (li * 8) g i) li ov tp tn rn vs bo ex wr ei dg wo pa ch fi) _ := hP
  have hD : va_D A (gW g0 g1 g2 g3 g4 g5 g6 g7 g8 g9 g10 g11 g12 g13 cI cB k (andFn dr q g i) er pl (dgT un (li * 8) g i) li ov tp tn rn vs bo ex wr ei dg wo pa ch fi) := hD
  have hl : lv_has ls 5 [(4, .int (nI i)), (0, .ref g0), (1, .int (nI q)), (2, .ref g2), (3, .int (nI fr))] := hl
  refine lv_iload (pc := 3) hx hb dX4_write_3 (lv_at hl 0 rfl) ?_
  refine lv_bipush (pc := 5) (v := nI 8) hx hb dX4_write_5 (by decide) ?_
  refine lv_icmp_ge (pc := 7) (tgt := 56) hx hb dX4_write_7 (by decide) (fun c_1 => ?_) (fun c_1 => ?_)
  · skip
    have c_1 : 8 ≤ i := (nI_leI (a := 8) (b := i) (by omega) (by omega)).mp c_1
    refine lv_aload_n (pc := 56) hx hb dX4_write_56 rfl (lv_at hl 1 rfl) ?_
    refine va_get (pc := 57) (D := (dC, dI)) (ci := 4) (v := .ref g3) (C := RX4) (T := TX4) (N := 26) hx hb hts (by decide +kernel) hown hK hP 0 rfl rfl 2 (by decide) (hts (.fieldLink RX4 16 "ScratchSwapModel" "erases" "[I") (by decide +kernel)) (fun _ h9 => h9) rfl dX4_write_57 ?_
    refine lv_aload_n (pc := 60) hx hb dX4_write_60 rfl (lv_at hl 1 rfl) ?_
    refine va_get (pc := 61) (D := (dC, dI)) (ci := 4) (v := .int (nI li)) (C := RX4) (T := TX4) (N := 26) hx hb hts (by decide +kernel) hown hK hP 0 rfl rfl 5 (by decide) (hts (.fieldLink RX4 54 "ScratchSwapModel" "listed" "I") (by decide +kernel)) (fun _ h9 => h9) rfl dX4_write_61 ?_
    refine lv_iconst (pc := 64) (v := (-1)) hx hb dX4_write_64 (by decide) ?_
    refine x_iast (pc := 65) (k := li) (f := er) hx hb hK hP hD hS 3 0 rfl rfl (by omega) (by decide) dX4_write_65 (fun H locs hP hD hS => ?_)
    have hP : va_P (dC, dI) vwCl (gW g0 g1 g2 g3 g4 g5 g6 g7 g8 g9 g10 g11 g12 g13 cI cB k (andFn dr q g i) (upd er li (-1)) pl (dgT un (li * 8) g i) li ov tp tn rn vs bo ex wr ei dg wo pa ch fi) _ := hP
    have hD : va_D A (gW g0 g1 g2 g3 g4 g5 g6 g7 g8 g9 g10 g11 g12 g13 cI cB k (andFn dr q g i) (upd er li (-1)) pl (dgT un (li * 8) g i) li ov tp tn rn vs bo ex wr ei dg wo pa ch fi) := hD
    refine lv_aload_n (pc := 66) hx hb dX4_write_66 rfl (lv_at hl 1 rfl) ?_
    refine va_get (pc := 67) (D := (dC, dI)) (ci := 4) (v := .ref g4) (C := RX4) (T := TX4) (N := 26) hx hb hts (by decide +kernel) hown hK hP 0 rfl rfl 3 (by decide) (hts (.fieldLink RX4 20 "ScratchSwapModel" "places" "[I") (by decide +kernel)) (fun _ h9 => h9) rfl dX4_write_67 ?_
    refine lv_aload_n (pc := 70) hx hb dX4_write_70 rfl (lv_at hl 1 rfl) ?_
    refine va_get (pc := 71) (D := (dC, dI)) (ci := 4) (v := .int (nI li)) (C := RX4) (T := TX4) (N := 26) hx hb hts (by decide +kernel) hown hK hP 0 rfl rfl 5 (by decide) (hts (.fieldLink RX4 54 "ScratchSwapModel" "listed" "I") (by decide +kernel)) (fun _ h9 => h9) rfl dX4_write_71 ?_
    refine lv_iload_n (pc := 74) hx hb dX4_write_74 rfl (lv_at hl 2 rfl) ?_
    refine x_iast (pc := 75) (k := li) (f := pl) hx hb hK hP hD hS 4 0 rfl rfl (by omega) (by decide) dX4_write_75 (fun H locs hP hD hS => ?_)
    have hP : va_P (dC, dI) vwCl (gW g0 g1 g2 g3 g4 g5 g6 g7 g8 g9 g10 g11 g12 g13 cI cB k (andFn dr q g i) (upd er li (-1)) (upd pl li (nI q)) (dgT un (li * 8) g i) li ov tp tn rn vs bo ex wr ei dg wo pa ch fi) _ := hP
    have hD : va_D A (gW g0 g1 g2 g3 g4 g5 g6 g7 g8 g9 g10 g11 g12 g13 cI cB k (andFn dr q g i) (upd er li (-1)) (upd pl li (nI q)) (dgT un (li * 8) g i) li ov tp tn rn vs bo ex wr ei dg wo pa ch fi) := hD
    refine lv_aload_n (pc := 76) hx hb dX4_write_76 rfl (lv_at hl 1 rfl) ?_
    refine lv_dup (pc := 77) hx hb dX4_write_77 rfl ?_
    refine va_get (pc := 78) (D := (dC, dI)) (ci := 4) (v := .int (nI li)) (C := RX4) (T := TX4) (N := 26) hx hb hts (by decide +kernel) hown hK hP 0 rfl rfl 5 (by decide) (hts (.fieldLink RX4 54 "ScratchSwapModel" "listed" "I") (by decide +kernel)) (fun _ h9 => h9) rfl dX4_write_78 ?_
    refine lv_iconst (pc := 81) (v := nI 1) hx hb dX4_write_81 (by decide) ?_
    refine lv_iadd (pc := 82) hx hb dX4_write_82 ?_
    refine lv_cv (nI_add li 1) ?_
    refine va_put (pc := 83) (D := (dC, dI)) (ci := 4) (v := .int (nI (li + 1))) (ty := .int) (C := RX4) (T := TX4) (N := 26) hx hb hts (by decide +kernel) tyX4 tyX4_ok nmX4 hown hK hP hD hS 0 rfl rfl 5 (by decide) (hts (.fieldLink RX4 54 "ScratchSwapModel" "listed" "I") (by decide +kernel)) (fun _ h9 => h9) rfl (by decide +kernel) rfl rfl (Nat.le_of_ble_eq_true rfl) dX4_write_83 (fun H locs hP hD hS => ?_)
    have hP : va_P (dC, dI) vwCl (gW g0 g1 g2 g3 g4 g5 g6 g7 g8 g9 g10 g11 g12 g13 cI cB k (andFn dr q g i) (upd er li (-1)) (upd pl li (nI q)) (dgT un (li * 8) g i) (li + 1) ov tp tn rn vs bo ex wr ei dg wo pa ch fi) _ := hP
    have hD : va_D A (gW g0 g1 g2 g3 g4 g5 g6 g7 g8 g9 g10 g11 g12 g13 cI cB k (andFn dr q g i) (upd er li (-1)) (upd pl li (nI q)) (dgT un (li * 8) g i) (li + 1) ov tp tn rn vs bo ex wr ei dg wo pa ch fi) := hD
    have hi9 : i = 8 := by omega
    subst hi9
    exact W.vret hx hb hr (fun t ht hW => ⟨⟨(andFn dr q g 8, upd er li (-1), upd pl li (nI q), dgT un (li * 8) g 8, li + 1), rfl, ⟨lst_w hL hq, rfl⟩, by show va_P _ _ _ t.heap; rw [ht]; exact hP, va_K.moved hW.alike hK, hD⟩, hS.F ht⟩) hS.2.2 dX4_write_86
  · skip
    have c_1 : ¬ 8 ≤ i := fun z => c_1 ((nI_leI (a := 8) (b := i) (by omega) (by omega)).mpr z)
    refine lv_aload_n (pc := 10) hx hb dX4_write_10 rfl (lv_at hl 1 rfl) ?_
    refine va_get (pc := 11) (D := (dC, dI)) (ci := 4) (v := .ref g5) (C := RX4) (T := TX4) (N := 26) hx hb hts (by decide +kernel) hown hK hP 0 rfl rfl 4 (by decide) (hts (.fieldLink RX4 23 "ScratchSwapModel" "units" "[B") (by decide +kernel)) (fun _ h9 => h9) rfl dX4_write_11 ?_
    refine lv_bipush (pc := 14) (v := nI 8) hx hb dX4_write_14 (by decide) ?_
    refine lv_aload_n (pc := 16) hx hb dX4_write_16 rfl (lv_at hl 1 rfl) ?_
    refine va_get (pc := 17) (D := (dC, dI)) (ci := 4) (v := .int (nI li)) (C := RX4) (T := TX4) (N := 26) hx hb hts (by decide +kernel) hown hK hP 0 rfl rfl 5 (by decide) (hts (.fieldLink RX4 54 "ScratchSwapModel" "listed" "I") (by decide +kernel)) (fun _ h9 => h9) rfl dX4_write_17 ?_
    refine lv_imul (pc := 20) hx hb dX4_write_20 ?_
    refine lv_cv (x_mulc 8 li) ?_
    refine lv_iload (pc := 21) hx hb dX4_write_21 (lv_at hl 0 rfl) ?_
    refine lv_iadd (pc := 23) hx hb dX4_write_23 ?_
    refine lv_cv (nI_add (li * 8) i) ?_
    refine lv_aload_n (pc := 24) hx hb dX4_write_24 rfl (lv_at hl 3 rfl) ?_
    refine lv_iload_n (pc := 25) hx hb dX4_write_25 rfl (lv_at hl 4 rfl) ?_
    refine lv_iload (pc := 26) hx hb dX4_write_26 (lv_at hl 0 rfl) ?_
    refine lv_iadd (pc := 28) hx hb dX4_write_28 ?_
    refine lv_cv (nI_add fr i) ?_
    refine x_bald (pc := 29) (k := fr + i) (f := fun j => Int8.toInt32 ((andFn dr q g i) j)) hx hb hK hP 2 1 rfl rfl (by omega) (by decide) dX4_write_29 ?_
    refine lv_cv (congrArg Int8.toInt32 ((andFn_out dr q g (by omega)).trans (hg i (by omega)))) ?_
    refine x_sst (pc := 30) (k := (li * 8) + i) (F := dgT un (li * 8) g i) hx hb hK hP hD hS 5 1 rfl rfl (by omega) (by decide) dX4_write_30 (fun H locs hP hD hS => ?_)
    have hP : va_P (dC, dI) vwCl (gW g0 g1 g2 g3 g4 g5 g6 g7 g8 g9 g10 g11 g12 g13 cI cB k (andFn dr q g i) er pl (va_up (dgT un (li * 8) g i) ((li * 8) + i) (g i)) li ov tp tn rn vs bo ex wr ei dg wo pa ch fi) _ := hP
    have hD : va_D A (gW g0 g1 g2 g3 g4 g5 g6 g7 g8 g9 g10 g11 g12 g13 cI cB k (andFn dr q g i) er pl (va_up (dgT un (li * 8) g i) ((li * 8) + i) (g i)) li ov tp tn rn vs bo ex wr ei dg wo pa ch fi) := hD
    refine lv_aload_n (pc := 31) hx hb dX4_write_31 rfl (lv_at hl 1 rfl) ?_
    refine va_get (pc := 32) (D := (dC, dI)) (ci := 4) (v := .ref g2) (C := RX4) (T := TX4) (N := 26) hx hb hts (by decide +kernel) hown hK hP 0 rfl rfl 1 (by decide) (hts (.fieldLink RX4 13 "ScratchSwapModel" "draft" "[B") (by decide +kernel)) (fun _ h9 => h9) rfl dX4_write_32 ?_
    refine lv_iload_n (pc := 35) hx hb dX4_write_35 rfl (lv_at hl 2 rfl) ?_
    refine lv_iload (pc := 36) hx hb dX4_write_36 (lv_at hl 0 rfl) ?_
    refine lv_iadd (pc := 38) hx hb dX4_write_38 ?_
    refine lv_cv (nI_add q i) ?_
    refine lv_dup2_11 (pc := 39) hx hb dX4_write_39 rfl rfl ?_
    refine x_bald (pc := 40) (k := q + i) (f := fun j => Int8.toInt32 ((andFn dr q g i) j)) hx hb hK hP 2 1 rfl rfl (by omega) (by decide) dX4_write_40 ?_
    refine lv_aload_n (pc := 41) hx hb dX4_write_41 rfl (lv_at hl 3 rfl) ?_
    refine lv_iload_n (pc := 42) hx hb dX4_write_42 rfl (lv_at hl 4 rfl) ?_
    refine lv_iload (pc := 43) hx hb dX4_write_43 (lv_at hl 0 rfl) ?_
    refine lv_iadd (pc := 45) hx hb dX4_write_45 ?_
    refine lv_cv (nI_add fr i) ?_
    refine x_bald (pc := 46) (k := fr + i) (f := fun j => Int8.toInt32 ((andFn dr q g i) j)) hx hb hK hP 2 1 rfl rfl (by omega) (by decide) dX4_write_46 ?_
    refine lv_cv (congrArg Int8.toInt32 ((andFn_out dr q g (by omega)).trans (hg i (by omega)))) ?_
    refine lv_iand (pc := 47) hx hb dX4_write_47 ?_
    refine lv_cv (sb_and ((andFn dr q g i) (q + i)) (g i)) ?_
    refine lv_i2b (pc := 48) hx hb dX4_write_48 (sb_i2b _) ?_
    refine x_sst (pc := 49) (k := q + i) (F := andFn dr q g i) hx hb hK hP hD hS 2 1 rfl rfl (by omega) (by decide) dX4_write_49 (fun H locs hP hD hS => ?_)
    have hP : va_P (dC, dI) vwCl (gW g0 g1 g2 g3 g4 g5 g6 g7 g8 g9 g10 g11 g12 g13 cI cB k (va_up (andFn dr q g i) (q + i) (((andFn dr q g i) (q + i)) &&& (g i))) er pl (va_up (dgT un (li * 8) g i) ((li * 8) + i) (g i)) li ov tp tn rn vs bo ex wr ei dg wo pa ch fi) _ := hP
    have hD : va_D A (gW g0 g1 g2 g3 g4 g5 g6 g7 g8 g9 g10 g11 g12 g13 cI cB k (va_up (andFn dr q g i) (q + i) (((andFn dr q g i) (q + i)) &&& (g i))) er pl (va_up (dgT un (li * 8) g i) ((li * 8) + i) (g i)) li ov tp tn rn vs bo ex wr ei dg wo pa ch fi) := hD
    refine lv_iinc (pc := 50) (v := nI (i + 1)) (lv' := [(4, .int (nI (i + 1))), (0, .ref g0), (1, .int (nI q)), (2, .ref g2), (3, .int (nI fr))]) hx hb dX4_write_50 hl (k := 0) rfl (nI_inc i 1) (by decide) rfl (fun ls hl => ?_)
    refine lv_goto (pc := 53) (tgt := 3) hx hb dX4_write_53 (by decide) ?_
    rw [andFn_step, dgT_step] at hP hD
    exact ih3 (i + 1) H locs ls (by omega) (by first | omega | (simp only []; omega)) hP hD hS (lv_sub hl [0, 1, 2, 3, 4] rfl)
