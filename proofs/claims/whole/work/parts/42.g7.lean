set_option maxHeartbeats 4000000 in
set_option maxRecDepth 100000 in
theorem kX4_end (l : Launch) (dC : Nat → ClassId) (dI : Nat → Nat → Nat) (tt : Nat → Nat) (cI cB : ClassId) (sz : Nat) (g0 g1 g2 g3 g4 g5 g6 g7 g8 g9 g10 g11 g12 g13 : Nat) (k : K0) (dr : Nat → Int8) (er pl : Nat → Int32) (un : Nat → Int8) (li : Nat) (ov : Int32) (tp : Nat → Int8) (tn : Nat) (rn : Bool) (vs bo ex wr : Int32) (ei dg : Nat → Int8) (wo : Nat → Int32) (pa : Nat → Int8) (ch fi : Nat → Int32) (x : Int32) (htn : tn ≤ 1024) : MetI (S := Nat) l yX4_end wsX4_end { frames := 0, cells := 0, slots := 0, locals := 0 } (dC, dI) [(cI, .int), (cB, .byte)] tt [] sz (gW g0 g1 g2 g3 g4 g5 g6 g7 g8 g9 g10 g11 g12 g13 cI cB k dr er pl un li ov tp tn rn vs bo ex wr ei dg wo pa ch fi) [.ref g0, .int x] (fun u : Nat => gW g0 g1 g2 g3 g4 g5 g6 g7 g8 g9 g10 g11 g12 g13 cI cB k dr er pl un li ov tp u rn vs bo ex wr ei dg wo pa ch fi) (fun r u => r = bI (endB tn x) ∧ u = if endB tn x = true then x.toNatClampNeg else tn) := by
  refine Met.ofW (cc := cX4_end) (maxL := 2) (ret := (some .boolean)) (by decide) rfl ?_
  intro p e s m args below meth c s₁ B hml hv
  obtain ⟨rfl, hsz, hP, hK, hD0, hE⟩ := hv
  have hx := B.exec
  have hb := B.bytes
  have hr := B.returns
  have hts := atoms_spec (ws := wsX4_end) B.pre
  have hown : s.vm.findClass RX4 = some m.cls := findClass_of_methodNamed B.named
  have hlocks := B.notSynchronized
  subst hsz
  have hD := hD0.self (sz := s.heap.size)
  generalize hAe : va_A (gW g0 g1 g2 g3 g4 g5 g6 g7 g8 g9 g10 g11 g12 g13 cI cB k dr er pl un li ov tp tn rn vs bo ex wr ei dg wo pa ch fi) s.heap.size = A at hD hE ⊢
  have hA : ∀ q : Nat, s.heap.size ≤ q → A q := fun q h => by rw [← hAe]; exact Or.inr h
  have hS : va_S A s.heap s.heap [] := va_S.rf
  have hl := lv_entry ([.ref g0, .int x]) (n := 2) (Nat.le_of_ble_eq_true rfl)
  rw [lg_entry_eq]
  generalize (lg_sl ([.ref g0, .int x]) ++ List.replicate (2 - (lg_sl ([.ref g0, .int x])).length) Slot.unset).toArray = ls at hl ⊢
  have hl : lv_has ls 2 [(0, .ref g0), (1, .int x)] := hl
  have hP : va_P (dC, dI) vwCl (gW g0 g1 g2 g3 g4 g5 g6 g7 g8 g9 g10 g11 g12 g13 cI cB k dr er pl un li ov tp tn rn vs bo ex wr ei dg wo pa ch fi) s.heap := hP
  refine lv_iload_n (pc := 0) hx hb dX4_end_0 rfl (lv_at hl 1 rfl) ?_
  refine lv_if_lt (pc := 1) (tgt := 12) hx hb dX4_end_1 (by decide) (fun c1 => ?_) (fun c1 => ?_)
  · skip
    refine lv_iconst (pc := 12) (v := nI 0) hx hb dX4_end_12 (by decide) ?_
    exact W.zret (v := nI 0) hx hb hr rfl (fun t ht hW => ⟨⟨nI 0, tn, rfl, ⟨by rw [show endB tn x = false from decide_eq_false (fun z => by first | exact z.1 c1 | exact c2 z.2)]; rfl, by rw [show endB tn x = false from decide_eq_false (fun z => by first | exact z.1 c1 | exact c2 z.2)]; rfl⟩, by show va_P _ _ _ t.heap; rw [ht]; exact hP, va_K.moved hW.alike hK, hD⟩, hS.F ht⟩) hS.2.2 dX4_end_13
  · skip
    refine lv_iload_n (pc := 4) hx hb dX4_end_4 rfl (lv_at hl 1 rfl) ?_
    refine lv_aload_n (pc := 5) hx hb dX4_end_5 rfl (lv_at hl 0 rfl) ?_
    refine va_get (pc := 6) (D := (dC, dI)) (ci := 4) (v := .int (nI tn)) (C := RX4) (T := TX4) (N := 26) hx hb hts (by decide +kernel) hown hK hP 0 rfl rfl 8 (by decide) (hts (.fieldLink RX4 133 "ScratchSwapModel" "taped" "I") (by decide +kernel)) (fun _ h9 => h9) rfl dX4_end_6 ?_
    refine lv_icmp_le (pc := 9) (tgt := 14) hx hb dX4_end_9 (by decide) (fun c2 => ?_) (fun c2 => ?_)
    · skip
      obtain ⟨n, hn, en⟩ := nI_of2 (n := tn) (nI_toInt (by omega)) c1 c2
      rw [en] at hl
      have hcl : x.toNatClampNeg = n := by rw [en]; exact nI_clamp (by omega)
      refine lv_aload_n (pc := 14) hx hb dX4_end_14 rfl (lv_at hl 0 rfl) ?_
      refine lv_iload_n (pc := 15) hx hb dX4_end_15 rfl (lv_at hl 1 rfl) ?_
      refine va_put (pc := 16) (D := (dC, dI)) (ci := 4) (v := .int (nI n)) (ty := .int) (C := RX4) (T := TX4) (N := 26) hx hb hts (by decide +kernel) tyX4 tyX4_ok nmX4 hown hK hP hD hS 0 rfl rfl 8 (by decide) (hts (.fieldLink RX4 133 "ScratchSwapModel" "taped" "I") (by decide +kernel)) (fun _ h9 => h9) rfl (by decide +kernel) rfl rfl (Nat.le_of_ble_eq_true rfl) dX4_end_16 (fun H locs hP hD hS => ?_)
      have hP : va_P (dC, dI) vwCl (gW g0 g1 g2 g3 g4 g5 g6 g7 g8 g9 g10 g11 g12 g13 cI cB k dr er pl un li ov tp n rn vs bo ex wr ei dg wo pa ch fi) _ := hP
      have hD : va_D A (gW g0 g1 g2 g3 g4 g5 g6 g7 g8 g9 g10 g11 g12 g13 cI cB k dr er pl un li ov tp n rn vs bo ex wr ei dg wo pa ch fi) := hD
      refine lv_iconst (pc := 19) (v := nI 1) hx hb dX4_end_19 (by decide) ?_
      exact W.zret (v := nI 1) hx hb hr rfl (fun t ht hW => ⟨⟨nI 1, n, rfl, ⟨by rw [show endB tn x = true from decide_eq_true ⟨c1, c2⟩]; rfl, by rw [show endB tn x = true from decide_eq_true ⟨c1, c2⟩, if_pos rfl, hcl]⟩, by show va_P _ _ _ t.heap; rw [ht]; exact hP, va_K.moved hW.alike hK, hD⟩, hS.F ht⟩) hS.2.2 dX4_end_20
    · skip
      refine lv_iconst (pc := 12) (v := nI 0) hx hb dX4_end_12 (by decide) ?_
      exact W.zret (v := nI 0) hx hb hr rfl (fun t ht hW => ⟨⟨nI 0, tn, rfl, ⟨by rw [show endB tn x = false from decide_eq_false (fun z => by first | exact z.1 c1 | exact c2 z.2)]; rfl, by rw [show endB tn x = false from decide_eq_false (fun z => by first | exact z.1 c1 | exact c2 z.2)]; rfl⟩, by show va_P _ _ _ t.heap; rw [ht]; exact hP, va_K.moved hW.alike hK, hD⟩, hS.F ht⟩) hS.2.2 dX4_end_13
set_option maxHeartbeats 4000000 in
set_option maxRecDepth 100000 in
theorem kX4_harm (l : Launch) (dC : Nat → ClassId) (dI : Nat → Nat → Nat) (tt : Nat → Nat) (cI cB : ClassId) (sz : Nat) (g0 g1 g2 g3 g4 g5 g6 g7 g8 g9 g10 g11 g12 g13 : Nat) (k : K0) (dr : Nat → Int8) (er pl : Nat → Int32) (un : Nat → Int8) (li : Nat) (ov : Int32) (tp : Nat → Int8) (tn : Nat) (rn : Bool) (vs bo ex wr : Int32) (ei dg : Nat → Int8) (wo : Nat → Int32) (pa : Nat → Int8) (ch fi : Nat → Int32) (x y : Int32)  : MetI (S := (Nat → Int8)) l yX4_harm wsX4_harm { frames := 0, cells := 0, slots := 0, locals := 0 } (dC, dI) [(cI, .int), (cB, .byte)] tt [] sz (gW g0 g1 g2 g3 g4 g5 g6 g7 g8 g9 g10 g11 g12 g13 cI cB k dr er pl un li ov tp tn rn vs bo ex wr ei dg wo pa ch fi) [.ref g0, .int x, .int y] (fun u : (Nat → Int8) => gW g0 g1 g2 g3 g4 g5 g6 g7 g8 g9 g10 g11 g12 g13 cI cB (u, k.2) dr er pl un li ov tp tn rn vs bo ex wr ei dg wo pa ch fi) (fun r u => r = bI (inB 2816 x) ∧ u = if inB 2816 x = true then va_up k.1 x.toNatClampNeg (k.1 x.toNatClampNeg &&& Int32.toInt8 y) else k.1) := by
  refine Met.ofW (cc := cX4_harm) (maxL := 3) (ret := (some .boolean)) (by decide) rfl ?_
  intro p e s m args below meth c s₁ B hml hv
  obtain ⟨rfl, hsz, hP, hK, hD0, hE⟩ := hv
  have hx := B.exec
  have hb := B.bytes
  have hr := B.returns
  have hts := atoms_spec (ws := wsX4_harm) B.pre
  have hown : s.vm.findClass RX4 = some m.cls := findClass_of_methodNamed B.named
  have hlocks := B.notSynchronized
  subst hsz
  obtain ⟨F, te, kq⟩ := k
  have hD := hD0.self (sz := s.heap.size)
  generalize hAe : va_A (gW g0 g1 g2 g3 g4 g5 g6 g7 g8 g9 g10 g11 g12 g13 cI cB (F, te, kq) dr er pl un li ov tp tn rn vs bo ex wr ei dg wo pa ch fi) s.heap.size = A at hD hE ⊢
  have hA : ∀ q : Nat, s.heap.size ≤ q → A q := fun q h => by rw [← hAe]; exact Or.inr h
  have hS : va_S A s.heap s.heap [] := va_S.rf
  have hl := lv_entry ([.ref g0, .int x, .int y]) (n := 3) (Nat.le_of_ble_eq_true rfl)
  rw [lg_entry_eq]
  generalize (lg_sl ([.ref g0, .int x, .int y]) ++ List.replicate (3 - (lg_sl ([.ref g0, .int x, .int y])).length) Slot.unset).toArray = ls at hl ⊢
  have hl : lv_has ls 3 [(0, .ref g0), (1, .int x), (2, .int y)] := hl
  have hP : va_P (dC, dI) vwCl (gW g0 g1 g2 g3 g4 g5 g6 g7 g8 g9 g10 g11 g12 g13 cI cB (F, te, kq) dr er pl un li ov tp tn rn vs bo ex wr ei dg wo pa ch fi) s.heap := hP
  refine lv_iload_n (pc := 0) hx hb dX4_harm_0 rfl (lv_at hl 1 rfl) ?_
  refine lv_if_lt (pc := 1) (tgt := 11) hx hb dX4_harm_1 (by decide) (fun c1 => ?_) (fun c1 => ?_)
  · skip
    refine lv_iconst (pc := 11) (v := nI 0) hx hb dX4_harm_11 (by decide) ?_
    exact W.zret (v := nI 0) hx hb hr rfl (fun t ht hW => ⟨⟨nI 0, F, rfl, ⟨by rw [show inB 2816 x = false from Bool.eq_false_iff.mpr (show ¬ inB 2816 x = true from fun z => by first | exact (of_decide_eq_true z).1 c1 | exact (of_decide_eq_true z).2 (Int32.not_lt.mp c2))]; rfl, by rw [if_neg (show ¬ inB 2816 x = true from fun z => by first | exact (of_decide_eq_true z).1 c1 | exact (of_decide_eq_true z).2 (Int32.not_lt.mp c2))]⟩, by show va_P _ _ _ t.heap; rw [ht]; exact hP, va_K.moved hW.alike hK, hD⟩, hS.F ht⟩) hS.2.2 dX4_harm_12
  · skip
    refine lv_iload_n (pc := 4) hx hb dX4_harm_4 rfl (lv_at hl 1 rfl) ?_
    refine lv_sipush (pc := 5) (v := nI 2816) hx hb dX4_harm_5 (by decide) ?_
    refine lv_icmp_lt (pc := 8) (tgt := 13) hx hb dX4_harm_8 (by decide) (fun c2 => ?_) (fun c2 => ?_)
    · skip
      have hin : inB 2816 x = true := decide_eq_true ⟨c1, Int32.not_le.mpr c2⟩
      obtain ⟨n, hn, en⟩ := inB_of (n := 2816) (by decide) hin
      rw [en] at hl
      have hcl : x.toNatClampNeg = n := by rw [en]; exact nI_clamp (by omega)
      refine lv_aload_n (pc := 13) hx hb dX4_harm_13 rfl (lv_at hl 0 rfl) ?_
      refine va_get (pc := 14) (D := (dC, dI)) (ci := 4) (v := .ref g1) (C := RX4) (T := TX4) (N := 26) hx hb hts (by decide +kernel) hown hK hP 0 rfl rfl 0 (by decide) (hts (.fieldLink RX4 9 "ScratchSwapModel" "flash" "[B") (by decide +kernel)) (fun _ h9 => h9) rfl dX4_harm_14 ?_
      refine lv_iload_n (pc := 17) hx hb dX4_harm_17 rfl (lv_at hl 1 rfl) ?_
      refine lv_dup2_11 (pc := 18) hx hb dX4_harm_18 rfl rfl ?_
      refine x_bald (pc := 19) (k := n) (f := fun j => Int8.toInt32 (F j)) hx hb hK hP 1 1 rfl rfl (by omega) (by decide) dX4_harm_19 ?_
      refine lv_iload_n (pc := 20) hx hb dX4_harm_20 rfl (lv_at hl 2 rfl) ?_
      refine lv_i2b (pc := 21) hx hb dX4_harm_21 (rfl) ?_
      refine lv_iand (pc := 22) hx hb dX4_harm_22 ?_
      refine lv_cv (sb_and (F n) (Int32.toInt8 y)) ?_
      refine lv_i2b (pc := 23) hx hb dX4_harm_23 (sb_i2b _) ?_
      refine x_sst (pc := 24) (k := n) (F := F) hx hb hK hP hD hS 1 1 rfl rfl (by omega) (by decide) dX4_harm_24 (fun H locs hP hD hS => ?_)
      have hP : va_P (dC, dI) vwCl (gW g0 g1 g2 g3 g4 g5 g6 g7 g8 g9 g10 g11 g12 g13 cI cB (va_up F n ((F n) &&& (Int32.toInt8 y)), te, kq) dr er pl un li ov tp tn rn vs bo ex wr ei dg wo pa ch fi) _ := hP
      have hD : va_D A (gW g0 g1 g2 g3 g4 g5 g6 g7 g8 g9 g10 g11 g12 g13 cI cB (va_up F n ((F n) &&& (Int32.toInt8 y)), te, kq) dr er pl un li ov tp tn rn vs bo ex wr ei dg wo pa ch fi) := hD
      refine lv_iconst (pc := 25) (v := nI 1) hx hb dX4_harm_25 (by decide) ?_
      exact W.zret (v := nI 1) hx hb hr rfl (fun t ht hW => ⟨⟨nI 1, va_up F n (F n &&& Int32.toInt8 y), rfl, ⟨by rw [hin]; rfl, by rw [if_pos hin, hcl]⟩, by show va_P _ _ _ t.heap; rw [ht]; exact hP, va_K.moved hW.alike hK, hD⟩, hS.F ht⟩) hS.2.2 dX4_harm_26
    · skip
      refine lv_iconst (pc := 11) (v := nI 0) hx hb dX4_harm_11 (by decide) ?_
      exact W.zret (v := nI 0) hx hb hr rfl (fun t ht hW => ⟨⟨nI 0, F, rfl, ⟨by rw [show inB 2816 x = false from Bool.eq_false_iff.mpr (show ¬ inB 2816 x = true from fun z => by first | exact (of_decide_eq_true z).1 c1 | exact (of_decide_eq_true z).2 (Int32.not_lt.mp c2))]; rfl, by rw [if_neg (show ¬ inB 2816 x = true from fun z => by first | exact (of_decide_eq_true z).1 c1 | exact (of_decide_eq_true z).2 (Int32.not_lt.mp c2))]⟩, by show va_P _ _ _ t.heap; rw [ht]; exact hP, va_K.moved hW.alike hK, hD⟩, hS.F ht⟩) hS.2.2 dX4_harm_12
set_option maxHeartbeats 4000000 in
set_option maxRecDepth 100000 in
theorem kX4_cut (l : Launch) (dC : Nat → ClassId) (dI : Nat → Nat → Nat) (tt : Nat → Nat) (cI cB : ClassId) (sz : Nat) (g0 g1 g2 g3 g4 g5 g6 g7 g8 g9 g10 g11 g12 g13 : Nat) (k : K0) (dr : Nat → Int8) (er pl : Nat → Int32) (un : Nat → Int8) (li : Nat) (ov : Int32) (tp : Nat → Int8) (tn : Nat) (rn : Bool) (vs bo ex wr : Int32) (ei dg : Nat → Int8) (wo : Nat → Int32) (pa : Nat → Int8) (ch fi : Nat → Int32) (x y : Int32)  : MetI (S := K0) l yX4_cut wsX4_cut { frames := 0, cells := 0, slots := 0, locals := 0 } (dC, dI) [(cI, .int), (cB, .byte)] tt [] sz (gW g0 g1 g2 g3 g4 g5 g6 g7 g8 g9 g10 g11 g12 g13 cI cB k dr er pl un li ov tp tn rn vs bo ex wr ei dg wo pa ch fi) [.ref g0, .int x, .int y] (fun u : K0 => gW g0 g1 g2 g3 g4 g5 g6 g7 g8 g9 g10 g11 g12 g13 cI cB u dr er pl un li ov tp tn rn vs bo ex wr ei dg wo pa ch fi) (fun r u => r = bI (cutB k.2.2.1 x y) ∧ u = if cutB k.2.2.1 x y = true then (k.1, k.2.1, k.2.2.1, true, x.toNatClampNeg, y.toNatClampNeg, k.2.2.2.2.2.2) else k) := by
  refine Met.ofW (cc := cX4_cut) (maxL := 3) (ret := (some .boolean)) (by decide) rfl ?_
  intro p e s m args below meth c s₁ B hml hv
  obtain ⟨rfl, hsz, hP, hK, hD0, hE⟩ := hv
  have hx := B.exec
  have hb := B.bytes
  have hr := B.returns
  have hts := atoms_spec (ws := wsX4_cut) B.pre
  have hown : s.vm.findClass RX4 = some m.cls := findClass_of_methodNamed B.named
  have hlocks := B.notSynchronized
  subst hsz
  obtain ⟨F, te, dn, tl, lf, cu, ac, gn⟩ := k
  have hD := hD0.self (sz := s.heap.size)
  generalize hAe : va_A (gW g0 g1 g2 g3 g4 g5 g6 g7 g8 g9 g10 g11 g12 g13 cI cB (F, te, dn, tl, lf, cu, ac, gn) dr er pl un li ov tp tn rn vs bo ex wr ei dg wo pa ch fi) s.heap.size = A at hD hE ⊢
  have hA : ∀ q : Nat, s.heap.size ≤ q → A q := fun q h => by rw [← hAe]; exact Or.inr h
  have hS : va_S A s.heap s.heap [] := va_S.rf
  have hl := lv_entry ([.ref g0, .int x, .int y]) (n := 3) (Nat.le_of_ble_eq_true rfl)
  rw [lg_entry_eq]
  generalize (lg_sl ([.ref g0, .int x, .int y]) ++ List.replicate (3 - (lg_sl ([.ref g0, .int x, .int y])).length) Slot.unset).toArray = ls at hl ⊢
  have hl : lv_has ls 3 [(0, .ref g0), (1, .int x), (2, .int y)] := hl
  have hP : va_P (dC, dI) vwCl (gW g0 g1 g2 g3 g4 g5 g6 g7 g8 g9 g10 g11 g12 g13 cI cB (F, te, dn, tl, lf, cu, ac, gn) dr er pl un li ov tp tn rn vs bo ex wr ei dg wo pa ch fi) s.heap := hP
  refine lv_iload_n (pc := 0) hx hb dX4_cut_0 rfl (lv_at hl 1 rfl) ?_
  refine lv_if_lt (pc := 1) (tgt := 27) hx hb dX4_cut_1 (by decide) (fun c1 => ?_) (fun c1 => ?_)
  · skip
    refine lv_iconst (pc := 27) (v := nI 0) hx hb dX4_cut_27 (by decide) ?_
    exact W.zret (v := nI 0) hx hb hr rfl (fun t ht hW => ⟨⟨nI 0, (F, te, dn, tl, lf, cu, ac, gn), rfl, ⟨by show _ = bI (cutB dn x y); rw [show cutB dn x y = false from decide_eq_false (fun z => by first | exact z.1 c1 | exact z.2.1 c2 | exact z.2.2.1 c3 | exact z.2.2.2.1 (cut31.mp c4) | (rw [c5] at z; exact absurd z.2.2.2.2 (by decide)))]; rfl, by show _ = if cutB dn x y = true then _ else _; rw [show cutB dn x y = false from decide_eq_false (fun z => by first | exact z.1 c1 | exact z.2.1 c2 | exact z.2.2.1 c3 | exact z.2.2.2.1 (cut31.mp c4) | (rw [c5] at z; exact absurd z.2.2.2.2 (by decide)))]; rfl⟩, by show va_P _ _ _ t.heap; rw [ht]; exact hP, va_K.moved hW.alike hK, hD⟩, hS.F ht⟩) hS.2.2 dX4_cut_28
  · skip
    refine lv_iload_n (pc := 4) hx hb dX4_cut_4 rfl (lv_at hl 1 rfl) ?_
    refine lv_ldc (pc := 5) (v := nI 100000) hx hb hown (hts (.constant RX4 173 100000) (by decide +kernel)) dX4_cut_5 ?_
    refine lv_icmp_gt (pc := 7) (tgt := 27) hx hb dX4_cut_7 (by decide) (fun c2 => ?_) (fun c2 => ?_)
    · skip
      refine lv_iconst (pc := 27) (v := nI 0) hx hb dX4_cut_27 (by decide) ?_
      exact W.zret (v := nI 0) hx hb hr rfl (fun t ht hW => ⟨⟨nI 0, (F, te, dn, tl, lf, cu, ac, gn), rfl, ⟨by show _ = bI (cutB dn x y); rw [show cutB dn x y = false from decide_eq_false (fun z => by first | exact z.1 c1 | exact z.2.1 c2 | exact z.2.2.1 c3 | exact z.2.2.2.1 (cut31.mp c4) | (rw [c5] at z; exact absurd z.2.2.2.2 (by decide)))]; rfl, by show _ = if cutB dn x y = true then _ else _; rw [show cutB dn x y = false from decide_eq_false (fun z => by first | exact z.1 c1 | exact z.2.1 c2 | exact z.2.2.1 c3 | exact z.2.2.2.1 (cut31.mp c4) | (rw [c5] at z; exact absurd z.2.2.2.2 (by decide)))]; rfl⟩, by show va_P _ _ _ t.heap; rw [ht]; exact hP, va_K.moved hW.alike hK, hD⟩, hS.F ht⟩) hS.2.2 dX4_cut_28
    · skip
      refine lv_iload_n (pc := 10) hx hb dX4_cut_10 rfl (lv_at hl 2 rfl) ?_
      refine lv_if_lt (pc := 11) (tgt := 27) hx hb dX4_cut_11 (by decide) (fun c3 => ?_) (fun c3 => ?_)
      · skip
        refine lv_iconst (pc := 27) (v := nI 0) hx hb dX4_cut_27 (by decide) ?_
        exact W.zret (v := nI 0) hx hb hr rfl (fun t ht hW => ⟨⟨nI 0, (F, te, dn, tl, lf, cu, ac, gn), rfl, ⟨by show _ = bI (cutB dn x y); rw [show cutB dn x y = false from decide_eq_false (fun z => by first | exact z.1 c1 | exact z.2.1 c2 | exact z.2.2.1 c3 | exact z.2.2.2.1 (cut31.mp c4) | (rw [c5] at z; exact absurd z.2.2.2.2 (by decide)))]; rfl, by show _ = if cutB dn x y = true then _ else _; rw [show cutB dn x y = false from decide_eq_false (fun z => by first | exact z.1 c1 | exact z.2.1 c2 | exact z.2.2.1 c3 | exact z.2.2.2.1 (cut31.mp c4) | (rw [c5] at z; exact absurd z.2.2.2.2 (by decide)))]; rfl⟩, by show va_P _ _ _ t.heap; rw [ht]; exact hP, va_K.moved hW.alike hK, hD⟩, hS.F ht⟩) hS.2.2 dX4_cut_28
      · skip
        refine lv_iload_n (pc := 14) hx hb dX4_cut_14 rfl (lv_at hl 2 rfl) ?_
        refine lv_bipush (pc := 15) (v := nI 31) hx hb dX4_cut_15 (by decide) ?_
        refine lv_icmp_gt (pc := 17) (tgt := 27) hx hb dX4_cut_17 (by decide) (fun c4 => ?_) (fun c4 => ?_)
        · skip
          refine lv_iconst (pc := 27) (v := nI 0) hx hb dX4_cut_27 (by decide) ?_
          exact W.zret (v := nI 0) hx hb hr rfl (fun t ht hW => ⟨⟨nI 0, (F, te, dn, tl, lf, cu, ac, gn), rfl, ⟨by show _ = bI (cutB dn x y); rw [show cutB dn x y = false from decide_eq_false (fun z => by first | exact z.1 c1 | exact z.2.1 c2 | exact z.2.2.1 c3 | exact z.2.2.2.1 (cut31.mp c4) | (rw [c5] at z; exact absurd z.2.2.2.2 (by decide)))]; rfl, by show _ = if cutB dn x y = true then _ else _; rw [show cutB dn x y = false from decide_eq_false (fun z => by first | exact z.1 c1 | exact z.2.1 c2 | exact z.2.2.1 c3 | exact z.2.2.2.1 (cut31.mp c4) | (rw [c5] at z; exact absurd z.2.2.2.2 (by decide)))]; rfl⟩, by show va_P _ _ _ t.heap; rw [ht]; exact hP, va_K.moved hW.alike hK, hD⟩, hS.F ht⟩) hS.2.2 dX4_cut_28
        · skip
          refine lv_aload_n (pc := 20) hx hb dX4_cut_20 rfl (lv_at hl 0 rfl) ?_
          refine va_get (pc := 21) (D := (dC, dI)) (ci := 4) (v := .int (bI dn)) (C := RX4) (T := TX4) (N := 26) hx hb hts (by decide +kernel) hown hK hP 0 rfl rfl 9 (by decide) (hts (.fieldLink RX4 88 "ScratchSwapModel" "isDown" "Z") (by decide +kernel)) (fun _ h9 => h9) rfl dX4_cut_21 ?_
          refine lv_if_eq (pc := 24) (tgt := 29) hx hb dX4_cut_24 (by decide) (fun c5 => ?_) (fun c5 => ?_)
          · skip
            have c5 : dn = false := bI_0.mp c5
            have c4 : ¬ nI 32 ≤ y := fun z => c4 (cut31.mpr z)
            obtain ⟨n1, hn1, en1⟩ := le_of_nI (by decide) c1 c2
            obtain ⟨n2, hn2, en2⟩ := lt_of_nI (by decide) c3 c4
            rw [en1, en2] at hl
            have hcl1 : x.toNatClampNeg = n1 := by rw [en1]; exact nI_clamp (by omega)
            have hcl2 : y.toNatClampNeg = n2 := by rw [en2]; exact nI_clamp (by omega)
            refine lv_aload_n (pc := 29) hx hb dX4_cut_29 rfl (lv_at hl 0 rfl) ?_
            refine lv_iload_n (pc := 30) hx hb dX4_cut_30 rfl (lv_at hl 1 rfl) ?_
            refine lv_cv (show nI n1 = fz true n1 from rfl) ?_
            refine va_put (pc := 31) (D := (dC, dI)) (ci := 4) (v := .int (fz true n1)) (ty := .int) (C := RX4) (T := TX4) (N := 26) hx hb hts (by decide +kernel) tyX4 tyX4_ok nmX4 hown hK hP hD hS 0 rfl rfl 13 (by decide) (hts (.fieldLink RX4 29 "ScratchSwapModel" "fuse" "I") (by decide +kernel)) (fun _ h9 => h9) rfl (by decide +kernel) rfl rfl (Nat.le_of_ble_eq_true rfl) dX4_cut_31 (fun H locs hP hD hS => ?_)
            have hP : va_P (dC, dI) vwCl (gW g0 g1 g2 g3 g4 g5 g6 g7 g8 g9 g10 g11 g12 g13 cI cB (F, te, dn, true, n1, cu, ac, gn) dr er pl un li ov tp tn rn vs bo ex wr ei dg wo pa ch fi) _ := hP
            have hD : va_D A (gW g0 g1 g2 g3 g4 g5 g6 g7 g8 g9 g10 g11 g12 g13 cI cB (F, te, dn, true, n1, cu, ac, gn) dr er pl un li ov tp tn rn vs bo ex wr ei dg wo pa ch fi) := hD
            refine lv_aload_n (pc := 34) hx hb dX4_cut_34 rfl (lv_at hl 0 rfl) ?_
            refine lv_iload_n (pc := 35) hx hb dX4_cut_35 rfl (lv_at hl 2 rfl) ?_
            refine va_put (pc := 36) (D := (dC, dI)) (ci := 4) (v := .int (nI n2)) (ty := .int) (C := RX4) (T := TX4) (N := 26) hx hb hts (by decide +kernel) tyX4 tyX4_ok nmX4 hown hK hP hD hS 0 rfl rfl 14 (by decide) (hts (.fieldLink RX4 85 "ScratchSwapModel" "cutUnits" "I") (by decide +kernel)) (fun _ h9 => h9) rfl (by decide +kernel) rfl rfl (Nat.le_of_ble_eq_true rfl) dX4_cut_36 (fun H locs hP hD hS => ?_)
            have hP : va_P (dC, dI) vwCl (gW g0 g1 g2 g3 g4 g5 g6 g7 g8 g9 g10 g11 g12 g13 cI cB (F, te, dn, true, n1, n2, ac, gn) dr er pl un li ov tp tn rn vs bo ex wr ei dg wo pa ch fi) _ := hP
            have hD : va_D A (gW g0 g1 g2 g3 g4 g5 g6 g7 g8 g9 g10 g11 g12 g13 cI cB (F, te, dn, true, n1, n2, ac, gn) dr er pl un li ov tp tn rn vs bo ex wr ei dg wo pa ch fi) := hD
            refine lv_iconst (pc := 39) (v := nI 1) hx hb dX4_cut_39 (by decide) ?_
            exact W.zret (v := nI 1) hx hb hr rfl (fun t ht hW => ⟨⟨nI 1, (F, te, dn, true, n1, n2, ac, gn), rfl, ⟨by show _ = bI (cutB dn x y); rw [show cutB dn x y = true from decide_eq_true ⟨c1, c2, c3, c4, c5⟩]; rfl, by show _ = if cutB dn x y = true then _ else _; rw [show cutB dn x y = true from decide_eq_true ⟨c1, c2, c3, c4, c5⟩, if_pos rfl, hcl1, hcl2]⟩, by show va_P _ _ _ t.heap; rw [ht]; exact hP, va_K.moved hW.alike hK, hD⟩, hS.F ht⟩) hS.2.2 dX4_cut_40
          · skip
            have c5 : dn = true := bI_1.mp c5
            refine lv_iconst (pc := 27) (v := nI 0) hx hb dX4_cut_27 (by decide) ?_
            exact W.zret (v := nI 0) hx hb hr rfl (fun t ht hW => ⟨⟨nI 0, (F, te, dn, tl, lf, cu, ac, gn), rfl, ⟨by show _ = bI (cutB dn x y); rw [show cutB dn x y = false from decide_eq_false (fun z => by first | exact z.1 c1 | exact z.2.1 c2 | exact z.2.2.1 c3 | exact z.2.2.2.1 (cut31.mp c4) | (rw [c5] at z; exact absurd z.2.2.2.2 (by decide)))]; rfl, by show _ = if cutB dn x y = true then _ else _; rw [show cutB dn x y = false from decide_eq_false (fun z => by first | exact z.1 c1 | exact z.2.1 c2 | exact z.2.2.1 c3 | exact z.2.2.2.1 (cut31.mp c4) | (rw [c5] at z; exact absurd z.2.2.2.2 (by decide)))]; rfl⟩, by show va_P _ _ _ t.heap; rw [ht]; exact hP, va_K.moved hW.alike hK, hD⟩, hS.F ht⟩) hS.2.2 dX4_cut_28
set_option maxHeartbeats 4000000 in
set_option maxRecDepth 100000 in
theorem kX4_power (l : Launch) (dC : Nat → ClassId) (dI : Nat → Nat → Nat) (tt : Nat → Nat) (cI cB : ClassId) (sz : Nat) (g0 g1 g2 g3 g4 g5 g6 g7 g8 g9 g10 g11 g12 g13 : Nat) (k : K0) (dr : Nat → Int8) (er pl : Nat → Int32) (un : Nat → Int8) (li : Nat) (ov : Int32) (tp : Nat → Int8) (tn : Nat) (rn : Bool) (vs bo ex wr : Int32) (ei dg : Nat → Int8) (wo : Nat → Int32) (pa : Nat → Int8) (ch fi : Nat → Int32)  : MetV (S := Unit) l yX4_power wsX4_power { frames := 0, cells := 0, slots := 0, locals := 0 } (dC, dI) [(cI, .int), (cB, .byte)] tt [] sz (gW g0 g1 g2 g3 g4 g5 g6 g7 g8 g9 g10 g11 g12 g13 cI cB k dr er pl un li ov tp tn rn vs bo ex wr ei dg wo pa ch fi) [.ref g0] (fun u : Unit => gW g0 g1 g2 g3 g4 g5 g6 g7 g8 g9 g10 g11 g12 g13 cI cB (k.1, k.2.1, false, false, k.2.2.2.2) dr er pl un li ov tp tn false vs bo ex wr ei dg wo pa ch fi) (fun u => u = ()) := by
  refine Met.ofW (cc := cX4_power) (maxL := 1) (ret := none) (by decide) rfl ?_
  intro p e s m args below meth c s₁ B hml hv
  obtain ⟨rfl, hsz, hP, hK, hD0, hE⟩ := hv
  have hx := B.exec
  have hb := B.bytes
  have hr := B.returns
  have hts := atoms_spec (ws := wsX4_power) B.pre
  have hown : s.vm.findClass RX4 = some m.cls := findClass_of_methodNamed B.named
  have hlocks := B.notSynchronized
  subst hsz
  obtain ⟨F, te, dn, tl, lf, cu, ac, gn⟩ := k
  have hD := hD0.self (sz := s.heap.size)
  generalize hAe : va_A (gW g0 g1 g2 g3 g4 g5 g6 g7 g8 g9 g10 g11 g12 g13 cI cB (F, te, dn, tl, lf, cu, ac, gn) dr er pl un li ov tp tn rn vs bo ex wr ei dg wo pa ch fi) s.heap.size = A at hD hE ⊢
  have hA : ∀ q : Nat, s.heap.size ≤ q → A q := fun q h => by rw [← hAe]; exact Or.inr h
  have hS : va_S A s.heap s.heap [] := va_S.rf
  have hl := lv_entry ([.ref g0]) (n := 1) (Nat.le_of_ble_eq_true rfl)
  rw [lg_entry_eq]
  generalize (lg_sl ([.ref g0]) ++ List.replicate (1 - (lg_sl ([.ref g0])).length) Slot.unset).toArray = ls at hl ⊢
  have hl : lv_has ls 1 [(0, .ref g0)] := hl
  have hP : va_P (dC, dI) vwCl (gW g0 g1 g2 g3 g4 g5 g6 g7 g8 g9 g10 g11 g12 g13 cI cB (F, te, dn, tl, lf, cu, ac, gn) dr er pl un li ov tp tn rn vs bo ex wr ei dg wo pa ch fi) s.heap := hP
  refine lv_aload_n (pc := 0) hx hb dX4_power_0 rfl (lv_at hl 0 rfl) ?_
  refine lv_iconst (pc := 1) (v := nI 0) hx hb dX4_power_1 (by decide) ?_
  refine lv_cv (show nI 0 = bI false from rfl) ?_
  refine va_put (pc := 2) (D := (dC, dI)) (ci := 4) (v := .int (bI false)) (ty := .boolean) (C := RX4) (T := TX4) (N := 26) hx hb hts (by decide +kernel) tyX4 tyX4_ok nmX4 hown hK hP hD hS 0 rfl rfl 9 (by decide) (hts (.fieldLink RX4 88 "ScratchSwapModel" "isDown" "Z") (by decide +kernel)) (fun _ h9 => h9) rfl (by decide +kernel) (nbI false) (fbI false) (Nat.le_of_ble_eq_true rfl) dX4_power_2 (fun H locs hP hD hS => ?_)
  have hP : va_P (dC, dI) vwCl (gW g0 g1 g2 g3 g4 g5 g6 g7 g8 g9 g10 g11 g12 g13 cI cB (F, te, false, tl, lf, cu, ac, gn) dr er pl un li ov tp tn rn vs bo ex wr ei dg wo pa ch fi) _ := hP
  have hD : va_D A (gW g0 g1 g2 g3 g4 g5 g6 g7 g8 g9 g10 g11 g12 g13 cI cB (F, te, false, tl, lf, cu, ac, gn) dr er pl un li ov tp tn rn vs bo ex wr ei dg wo pa ch fi) := hD
  refine lv_aload_n (pc := 5) hx hb dX4_power_5 rfl (lv_at hl 0 rfl) ?_
  refine lv_iconst (pc := 6) (v := nI 0) hx hb dX4_power_6 (by decide) ?_
  refine lv_cv (show nI 0 = bI false from rfl) ?_
  refine va_put (pc := 7) (D := (dC, dI)) (ci := 4) (v := .int (bI false)) (ty := .boolean) (C := RX4) (T := TX4) (N := 26) hx hb hts (by decide +kernel) tyX4 tyX4_ok nmX4 hown hK hP hD hS 0 rfl rfl 10 (by decide) (hts (.fieldLink RX4 92 "ScratchSwapModel" "runs" "Z") (by decide +kernel)) (fun _ h9 => h9) rfl (by decide +kernel) (nbI false) (fbI false) (Nat.le_of_ble_eq_true rfl) dX4_power_7 (fun H locs hP hD hS => ?_)
  have hP : va_P (dC, dI) vwCl (gW g0 g1 g2 g3 g4 g5 g6 g7 g8 g9 g10 g11 g12 g13 cI cB (F, te, false, tl, lf, cu, ac, gn) dr er pl un li ov tp tn false vs bo ex wr ei dg wo pa ch fi) _ := hP
  have hD : va_D A (gW g0 g1 g2 g3 g4 g5 g6 g7 g8 g9 g10 g11 g12 g13 cI cB (F, te, false, tl, lf, cu, ac, gn) dr er pl un li ov tp tn false vs bo ex wr ei dg wo pa ch fi) := hD
  refine lv_aload_n (pc := 10) hx hb dX4_power_10 rfl (lv_at hl 0 rfl) ?_
  refine lv_iconst (pc := 11) (v := (-1)) hx hb dX4_power_11 (by decide) ?_
  refine lv_cv (show (-1) = fz false lf from rfl) ?_
  refine va_put (pc := 12) (D := (dC, dI)) (ci := 4) (v := .int (fz false lf)) (ty := .int) (C := RX4) (T := TX4) (N := 26) hx hb hts (by decide +kernel) tyX4 tyX4_ok nmX4 hown hK hP hD hS 0 rfl rfl 13 (by decide) (hts (.fieldLink RX4 29 "ScratchSwapModel" "fuse" "I") (by decide +kernel)) (fun _ h9 => h9) rfl (by decide +kernel) rfl rfl (Nat.le_of_ble_eq_true rfl) dX4_power_12 (fun H locs hP hD hS => ?_)
  have hP : va_P (dC, dI) vwCl (gW g0 g1 g2 g3 g4 g5 g6 g7 g8 g9 g10 g11 g12 g13 cI cB (F, te, false, false, lf, cu, ac, gn) dr er pl un li ov tp tn false vs bo ex wr ei dg wo pa ch fi) _ := hP
  have hD : va_D A (gW g0 g1 g2 g3 g4 g5 g6 g7 g8 g9 g10 g11 g12 g13 cI cB (F, te, false, false, lf, cu, ac, gn) dr er pl un li ov tp tn false vs bo ex wr ei dg wo pa ch fi) := hD
  exact W.vret hx hb hr (fun t ht hW => ⟨⟨(), rfl, rfl, by show va_P _ _ _ t.heap; rw [ht]; exact hP, va_K.moved hW.alike hK, hD⟩, hS.F ht⟩) hS.2.2 dX4_power_15
set_option maxHeartbeats 4000000 in
set_option maxRecDepth 100000 in
theorem kX4_feed (l : Launch) (dC : Nat → ClassId) (dI : Nat → Nat → Nat) (tt : Nat → Nat) (cI cB : ClassId) (sz : Nat) (g0 g1 g2 g3 g4 g5 g6 g7 g8 g9 g10 g11 g12 g13 : Nat) (k : K0) (dr : Nat → Int8) (er pl : Nat → Int32) (un : Nat → Int8) (li : Nat) (ov : Int32) (tp : Nat → Int8) (tn : Nat) (rn : Bool) (vs bo ex wr : Int32) (ei dg : Nat → Int8) (wo : Nat → Int32) (pa : Nat → Int8) (ch fi : Nat → Int32) (v1 v2 v3 v4 v5 : Int32) (htn : tn ≤ 1024) : MetI (S := ((Nat → Int8) × Nat × (Nat → Int32))) l yX4_feed wsX4_feed { frames := 0, cells := 0, slots := 0, locals := 0 } (dC, dI) [(cI, .int), (cB, .byte)] tt [] sz (gW g0 g1 g2 g3 g4 g5 g6 g7 g8 g9 g10 g11 g12 g13 cI cB k dr er pl un li ov tp tn rn vs bo ex wr ei dg wo pa ch fi) [.ref g0, .int v1, .int v2, .int v3, .int v4, .int v5] (fun u : ((Nat → Int8) × Nat × (Nat → Int32)) => gW g0 g1 g2 g3 g4 g5 g6 g7 g8 g9 g10 g11 g12 g13 cI cB k dr er pl un li ov u.1 u.2.1 rn vs bo ex wr ei dg wo pa ch u.2.2) (fun r u => if tn + 20 ≤ 1024 then (r = nI (tn + 20) ∧ u.1 = feedT tp tn v1 v2 v3 v4 v5 ∧ u.2.1 = tn + 20) else (r = -1 ∧ u.1 = tp ∧ u.2.1 = tn)) := by
  refine Met.ofW (cc := cX4_feed) (maxL := 7) (ret := (some .int)) (by decide) rfl ?_
  intro p e s m args below meth c s₁ B hml hv
  obtain ⟨rfl, hsz, hP, hK, hD0, hE⟩ := hv
  have hx := B.exec
  have hb := B.bytes
  have hr := B.returns
  have hts := atoms_spec (ws := wsX4_feed) B.pre
  have hown : s.vm.findClass RX4 = some m.cls := findClass_of_methodNamed B.named
  have hlocks := B.notSynchronized
  subst hsz
  have hD := hD0.self (sz := s.heap.size)
  generalize hAe : va_A (gW g0 g1 g2 g3 g4 g5 g6 g7 g8 g9 g10 g11 g12 g13 cI cB k dr er pl un li ov tp tn rn vs bo ex wr ei dg wo pa ch fi) s.heap.size = A at hD hE ⊢
  have hA : ∀ q : Nat, s.heap.size ≤ q → A q := fun q h => by rw [← hAe]; exact Or.inr h
  have hS : va_S A s.heap s.heap [] := va_S.rf
  have hl := lv_entry ([.ref g0, .int v1, .int v2, .int v3, .int v4, .int v5]) (n := 7) (Nat.le_of_ble_eq_true rfl)
  rw [lg_entry_eq]
  generalize (lg_sl ([.ref g0, .int v1, .int v2, .int v3, .int v4, .int v5]) ++ List.replicate (7 - (lg_sl ([.ref g0, .int v1, .int v2, .int v3, .int v4, .int v5])).length) Slot.unset).toArray = ls at hl ⊢
  have hl : lv_has ls 7 [(0, .ref g0), (1, .int v1), (2, .int v2), (3, .int v3), (4, .int v4), (5, .int v5)] := hl
  have hP : va_P (dC, dI) vwCl (gW g0 g1 g2 g3 g4 g5 g6 g7 g8 g9 g10 g11 g12 g13 cI cB k dr er pl un li ov tp tn rn vs bo ex wr ei dg wo pa ch fi) s.heap := hP
  refine lv_aload_n (pc := 0) hx hb dX4_feed_0 rfl (lv_at hl 0 rfl) ?_
  refine va_get (pc := 1) (D := (dC, dI)) (ci := 4) (v := .int (nI tn)) (C := RX4) (T := TX4) (N := 26) hx hb hts (by decide +kernel) hown hK hP 0 rfl rfl 8 (by decide) (hts (.fieldLink RX4 133 "ScratchSwapModel" "taped" "I") (by decide +kernel)) (fun _ h9 => h9) rfl dX4_feed_1 ?_
  refine lv_bipush (pc := 4) (v := nI 20) hx hb dX4_feed_4 (by decide) ?_
  refine lv_iadd (pc := 6) hx hb dX4_feed_6 ?_
  refine lv_cv (nI_add tn 20) ?_
  refine lv_sipush (pc := 7) (v := nI 1024) hx hb dX4_feed_7 (by decide) ?_
  refine lv_icmp_le (pc := 10) (tgt := 15) hx hb dX4_feed_10 (by decide) (fun c1 => ?_) (fun c1 => ?_)
  · skip
    have c1 : (tn + 20) ≤ 1024 := (nI_leI (a := (tn + 20)) (b := 1024) (by omega) (by omega)).mp c1
    refine lv_aload_n (pc := 15) hx hb dX4_feed_15 rfl (lv_at hl 0 rfl) ?_
    refine va_get (pc := 16) (D := (dC, dI)) (ci := 4) (v := .ref g13) (C := RX4) (T := TX4) (N := 26) hx hb hts (by decide +kernel) hown hK hP 0 rfl rfl 25 (by decide) (hts (.fieldLink RX4 51 "ScratchSwapModel" "five" "[I") (by decide +kernel)) (fun _ h9 => h9) rfl dX4_feed_16 ?_
    refine lv_iconst (pc := 19) (v := nI 0) hx hb dX4_feed_19 (by decide) ?_
    refine lv_iload_n (pc := 20) hx hb dX4_feed_20 rfl (lv_at hl 1 rfl) ?_
    refine x_iast (pc := 21) (k := 0) (f := fi) hx hb hK hP hD hS 13 0 rfl rfl (by omega) (by decide) dX4_feed_21 (fun H locs hP hD hS => ?_)
    have hP : va_P (dC, dI) vwCl (gW g0 g1 g2 g3 g4 g5 g6 g7 g8 g9 g10 g11 g12 g13 cI cB k dr er pl un li ov tp tn rn vs bo ex wr ei dg wo pa ch (upd fi 0 v1)) _ := hP
    have hD : va_D A (gW g0 g1 g2 g3 g4 g5 g6 g7 g8 g9 g10 g11 g12 g13 cI cB k dr er pl un li ov tp tn rn vs bo ex wr ei dg wo pa ch (upd fi 0 v1)) := hD
    refine lv_aload_n (pc := 22) hx hb dX4_feed_22 rfl (lv_at hl 0 rfl) ?_
    refine va_get (pc := 23) (D := (dC, dI)) (ci := 4) (v := .ref g13) (C := RX4) (T := TX4) (N := 26) hx hb hts (by decide +kernel) hown hK hP 0 rfl rfl 25 (by decide) (hts (.fieldLink RX4 51 "ScratchSwapModel" "five" "[I") (by decide +kernel)) (fun _ h9 => h9) rfl dX4_feed_23 ?_
    refine lv_iconst (pc := 26) (v := nI 1) hx hb dX4_feed_26 (by decide) ?_
    refine lv_iload_n (pc := 27) hx hb dX4_feed_27 rfl (lv_at hl 2 rfl) ?_
    refine x_iast (pc := 28) (k := 1) (f := upd fi 0 v1) hx hb hK hP hD hS 13 0 rfl rfl (by omega) (by decide) dX4_feed_28 (fun H locs hP hD hS => ?_)
    have hP : va_P (dC, dI) vwCl (gW g0 g1 g2 g3 g4 g5 g6 g7 g8 g9 g10 g11 g12 g13 cI cB k dr er pl un li ov tp tn rn vs bo ex wr ei dg wo pa ch (upd (upd fi 0 v1) 1 v2)) _ := hP
    have hD : va_D A (gW g0 g1 g2 g3 g4 g5 g6 g7 g8 g9 g10 g11 g12 g13 cI cB k dr er pl un li ov tp tn rn vs bo ex wr ei dg wo pa ch (upd (upd fi 0 v1) 1 v2)) := hD
    refine lv_aload_n (pc := 29) hx hb dX4_feed_29 rfl (lv_at hl 0 rfl) ?_
    refine va_get (pc := 30) (D := (dC, dI)) (ci := 4) (v := .ref g13) (C := RX4) (T := TX4) (N := 26) hx hb hts (by decide +kernel) hown hK hP 0 rfl rfl 25 (by decide) (hts (.fieldLink RX4 51 "ScratchSwapModel" "five" "[I") (by decide +kernel)) (fun _ h9 => h9) rfl dX4_feed_30 ?_
    refine lv_iconst (pc := 33) (v := nI 2) hx hb dX4_feed_33 (by decide) ?_
    refine lv_iload_n (pc := 34) hx hb dX4_feed_34 rfl (lv_at hl 3 rfl) ?_
    refine x_iast (pc := 35) (k := 2) (f := upd (upd fi 0 v1) 1 v2) hx hb hK hP hD hS 13 0 rfl rfl (by omega) (by decide) dX4_feed_35 (fun H locs hP hD hS => ?_)
    have hP : va_P (dC, dI) vwCl (gW g0 g1 g2 g3 g4 g5 g6 g7 g8 g9 g10 g11 g12 g13 cI cB k dr er pl un li ov tp tn rn vs bo ex wr ei dg wo pa ch (upd (upd (upd fi 0 v1) 1 v2) 2 v3)) _ := hP
    have hD : va_D A (gW g0 g1 g2 g3 g4 g5 g6 g7 g8 g9 g10 g11 g12 g13 cI cB k dr er pl un li ov tp tn rn vs bo ex wr ei dg wo pa ch (upd (upd (upd fi 0 v1) 1 v2) 2 v3)) := hD
    refine lv_aload_n (pc := 36) hx hb dX4_feed_36 rfl (lv_at hl 0 rfl) ?_
    refine va_get (pc := 37) (D := (dC, dI)) (ci := 4) (v := .ref g13) (C := RX4) (T := TX4) (N := 26) hx hb hts (by decide +kernel) hown hK hP 0 rfl rfl 25 (by decide) (hts (.fieldLink RX4 51 "ScratchSwapModel" "five" "[I") (by decide +kernel)) (fun _ h9 => h9) rfl dX4_feed_37 ?_
    refine lv_iconst (pc := 40) (v := nI 3) hx hb dX4_feed_40 (by decide) ?_
    refine lv_iload (pc := 41) hx hb dX4_feed_41 (lv_at hl 4 rfl) ?_
    refine x_iast (pc := 43) (k := 3) (f := upd (upd (upd fi 0 v1) 1 v2) 2 v3) hx hb hK hP hD hS 13 0 rfl rfl (by omega) (by decide) dX4_feed_43 (fun H locs hP hD hS => ?_)
    have hP : va_P (dC, dI) vwCl (gW g0 g1 g2 g3 g4 g5 g6 g7 g8 g9 g10 g11 g12 g13 cI cB k dr er pl un li ov tp tn rn vs bo ex wr ei dg wo pa ch (upd (upd (upd (upd fi 0 v1) 1 v2) 2 v3) 3 v4)) _ := hP
    have hD : va_D A (gW g0 g1 g2 g3 g4 g5 g6 g7 g8 g9 g10 g11 g12 g13 cI cB k dr er pl un li ov tp tn rn vs bo ex wr ei dg wo pa ch (upd (upd (upd (upd fi 0 v1) 1 v2) 2 v3) 3 v4)) := hD
    refine lv_aload_n (pc := 44) hx hb dX4_feed_44 rfl (lv_at hl 0 rfl) ?_
    refine va_get (pc := 45) (D := (dC, dI)) (ci := 4) (v := .ref g13) (C := RX4) (T := TX4) (N := 26) hx hb hts (by decide +kernel) hown hK hP 0 rfl rfl 25 (by decide) (hts (.fieldLink RX4 51 "ScratchSwapModel" "five" "[I") (by decide +kernel)) (fun _ h9 => h9) rfl dX4_feed_45 ?_
    refine lv_iconst (pc := 48) (v := nI 4) hx hb dX4_feed_48 (by decide) ?_
    refine lv_iload (pc := 49) hx hb dX4_feed_49 (lv_at hl 5 rfl) ?_
    refine x_iast (pc := 51) (k := 4) (f := upd (upd (upd (upd fi 0 v1) 1 v2) 2 v3) 3 v4) hx hb hK hP hD hS 13 0 rfl rfl (by omega) (by decide) dX4_feed_51 (fun H locs hP hD hS => ?_)
    have hP : va_P (dC, dI) vwCl (gW g0 g1 g2 g3 g4 g5 g6 g7 g8 g9 g10 g11 g12 g13 cI cB k dr er pl un li ov tp tn rn vs bo ex wr ei dg wo pa ch (upd (upd (upd (upd (upd fi 0 v1) 1 v2) 2 v3) 3 v4) 4 v5)) _ := hP
    have hD : va_D A (gW g0 g1 g2 g3 g4 g5 g6 g7 g8 g9 g10 g11 g12 g13 cI cB k dr er pl un li ov tp tn rn vs bo ex wr ei dg wo pa ch (upd (upd (upd (upd (upd fi 0 v1) 1 v2) 2 v3) 3 v4) 4 v5)) := hD
    refine lv_iconst (pc := 52) (v := nI 0) hx hb dX4_feed_52 (by decide) ?_
    refine lv_istore (pc := 53) (lv' := [(6, .int (nI 0)), (0, .ref g0), (1, .int v1), (2, .int v2), (3, .int v3), (4, .int v4), (5, .int v5)]) hx hb dX4_feed_53 hl (by decide) rfl (fun ls hl => ?_)
    obtain ⟨fi5, efi⟩ : ∃ z, z = upd (upd (upd (upd (upd fi 0 v1) 1 v2) 2 v3) 3 v4) 4 v5 := ⟨_, rfl⟩
    rw [← efi] at hP hD
    have hP : va_P (dC, dI) vwCl (gW g0 g1 g2 g3 g4 g5 g6 g7 g8 g9 g10 g11 g12 g13 cI cB k dr er pl un li ov tp tn rn vs bo ex wr ei dg wo pa ch fi5) _ := hP
    have hD : va_D A (gW g0 g1 g2 g3 g4 g5 g6 g7 g8 g9 g10 g11 g12 g13 cI cB k dr er pl un li ov tp tn rn vs bo ex wr ei dg wo pa ch fi5) := hD
    rw [← dgT_0 tp tn (fb20 fi5)] at hP hD
    refine x_loop (σ := (Nat)) (Wd := fun i : (Nat) => gW g0 g1 g2 g3 g4 g5 g6 g7 g8 g9 g10 g11 g12 g13 cI cB k dr er pl un li ov (dgT tp tn (fb20 fi5) i) tn rn vs bo ex wr ei dg wo pa ch fi5) (Lv := fun i : (Nat) => [(6, .int (nI i)), (0, .ref g0), (1, .int v1), (2, .int v2), (3, .int v3), (4, .int v4), (5, .int v5)]) (I := fun i : (Nat) => (i ≤ 20)) (μ := fun i : (Nat) => 20 - i) ?_ (0) (by omega) hP hD hS (lv_sub hl [0, 1, 2, 3, 4, 5, 6] rfl)
    intro i H locs ls hI hP hD hS hl ih55
    have hi : (i ≤ 20) := hI
    have hP : va_P (dC, dI) vwCl (gW g0 g1 g2 g3 g4 g5 g6 g7 g8 g9 g10 g11 g12 g13 cI cB k dr er pl un li ov (dgT tp tn (fb20 fi5) i) tn rn vs bo ex wr ei dg wo pa ch fi5) _ := hP
    have hD : va_D A (gW g0 g1 g2 g3 g4 g5 g6 g7 g8 g9 g10 g11 g12 g13 cI cB k dr er pl un li ov (dgT tp tn (fb20 fi5) i) tn rn vs bo ex wr ei dg wo pa ch fi5) := hD
    have hl : lv_has ls 7 [(6, .int (nI i)), (0, .ref g0), (1, .int v1), (2, .int v2), (3, .int v3), (4, .int v4), (5, .int v5)] := hl
    refine lv_iload (pc := 55) hx hb dX4_feed_55 (lv_at hl 0 rfl) ?_
    refine lv_bipush (pc := 57) (v := nI 20) hx hb dX4_feed_57 (by decide) ?_
    refine lv_icmp_ge (pc := 59) (tgt := 101) hx hb dX4_feed_59 (by decide) (fun c2 => ?_) (fun c2 => ?_)
    · skip
      have c2 : 20 ≤ i := (nI_leI (a := 20) (b := i) (by omega) (by omega)).mp c2
      have hi9 : i = 20 := by omega
      subst hi9
      rw [feed_eq tp tn v1 v2 v3 v4 v5 fi5 (by rw [efi]; rfl) (by rw [efi]; rfl) (by rw [efi]; rfl) (by rw [efi]; rfl) (by rw [efi]; rfl)] at hP hD
      have hP : va_P (dC, dI) vwCl (gW g0 g1 g2 g3 g4 g5 g6 g7 g8 g9 g10 g11 g12 g13 cI cB k dr er pl un li ov (feedT tp tn v1 v2 v3 v4 v5) tn rn vs bo ex wr ei dg wo pa ch fi5) _ := hP
      have hD : va_D A (gW g0 g1 g2 g3 g4 g5 g6 g7 g8 g9 g10 g11 g12 g13 cI cB k dr er pl un li ov (feedT tp tn v1 v2 v3 v4 v5) tn rn vs bo ex wr ei dg wo pa ch fi5) := hD
      refine lv_aload_n (pc := 101) hx hb dX4_feed_101 rfl (lv_at hl 1 rfl) ?_
      refine lv_dup (pc := 102) hx hb dX4_feed_102 rfl ?_
      refine va_get (pc := 103) (D := (dC, dI)) (ci := 4) (v := .int (nI tn)) (C := RX4) (T := TX4) (N := 26) hx hb hts (by decide +kernel) hown hK hP 0 rfl rfl 8 (by decide) (hts (.fieldLink RX4 133 "ScratchSwapModel" "taped" "I") (by decide +kernel)) (fun _ h9 => h9) rfl dX4_feed_103 ?_
      refine lv_bipush (pc := 106) (v := nI 20) hx hb dX4_feed_106 (by decide) ?_
      refine lv_iadd (pc := 108) hx hb dX4_feed_108 ?_
      refine lv_cv (nI_add tn 20) ?_
      refine va_put (pc := 109) (D := (dC, dI)) (ci := 4) (v := .int (nI (tn + 20))) (ty := .int) (C := RX4) (T := TX4) (N := 26) hx hb hts (by decide +kernel) tyX4 tyX4_ok nmX4 hown hK hP hD hS 0 rfl rfl 8 (by decide) (hts (.fieldLink RX4 133 "ScratchSwapModel" "taped" "I") (by decide +kernel)) (fun _ h9 => h9) rfl (by decide +kernel) rfl rfl (Nat.le_of_ble_eq_true rfl) dX4_feed_109 (fun H locs hP hD hS => ?_)
      have hP : va_P (dC, dI) vwCl (gW g0 g1 g2 g3 g4 g5 g6 g7 g8 g9 g10 g11 g12 g13 cI cB k dr er pl un li ov (feedT tp tn v1 v2 v3 v4 v5) (tn + 20) rn vs bo ex wr ei dg wo pa ch fi5) _ := hP
      have hD : va_D A (gW g0 g1 g2 g3 g4 g5 g6 g7 g8 g9 g10 g11 g12 g13 cI cB k dr er pl un li ov (feedT tp tn v1 v2 v3 v4 v5) (tn + 20) rn vs bo ex wr ei dg wo pa ch fi5) := hD
      refine lv_aload_n (pc := 112) hx hb dX4_feed_112 rfl (lv_at hl 1 rfl) ?_
      refine va_get (pc := 113) (D := (dC, dI)) (ci := 4) (v := .int (nI (tn + 20))) (C := RX4) (T := TX4) (N := 26) hx hb hts (by decide +kernel) hown hK hP 0 rfl rfl 8 (by decide) (hts (.fieldLink RX4 133 "ScratchSwapModel" "taped" "I") (by decide +kernel)) (fun _ h9 => h9) rfl dX4_feed_113 ?_
      exact W.iret (v := nI (tn + 20)) hx hb hr (fun t ht hW => ⟨⟨nI (tn + 20), (feedT tp tn v1 v2 v3 v4 v5, tn + 20, fi5), rfl, by show ite (tn + 20 ≤ 1024) _ _; rw [if_pos (by omega)]; exact ⟨rfl, rfl, rfl⟩, by show va_P _ _ _ t.heap; rw [ht]; exact hP, va_K.moved hW.alike hK, hD⟩, hS.F ht⟩) hS.2.2 dX4_feed_116
    · skip
      have c2 : ¬ 20 ≤ i := fun z => c2 ((nI_leI (a := 20) (b := i) (by omega) (by omega)).mpr z)
      refine lv_aload_n (pc := 62) hx hb dX4_feed_62 rfl (lv_at hl 1 rfl) ?_
      refine va_get (pc := 63) (D := (dC, dI)) (ci := 4) (v := .ref g6) (C := RX4) (T := TX4) (N := 26) hx hb hts (by decide +kernel) hown hK hP 0 rfl rfl 7 (by decide) (hts (.fieldLink RX4 26 "ScratchSwapModel" "tape" "[B") (by decide +kernel)) (fun _ h9 => h9) rfl dX4_feed_63 ?_
      refine lv_aload_n (pc := 66) hx hb dX4_feed_66 rfl (lv_at hl 1 rfl) ?_
      refine va_get (pc := 67) (D := (dC, dI)) (ci := 4) (v := .int (nI tn)) (C := RX4) (T := TX4) (N := 26) hx hb hts (by decide +kernel) hown hK hP 0 rfl rfl 8 (by decide) (hts (.fieldLink RX4 133 "ScratchSwapModel" "taped" "I") (by decide +kernel)) (fun _ h9 => h9) rfl dX4_feed_67 ?_
      refine lv_iload (pc := 70) hx hb dX4_feed_70 (lv_at hl 0 rfl) ?_
      refine lv_iadd (pc := 72) hx hb dX4_feed_72 ?_
      refine lv_cv (nI_add tn i) ?_
      refine lv_aload_n (pc := 73) hx hb dX4_feed_73 rfl (lv_at hl 1 rfl) ?_
      refine va_get (pc := 74) (D := (dC, dI)) (ci := 4) (v := .ref g13) (C := RX4) (T := TX4) (N := 26) hx hb hts (by decide +kernel) hown hK hP 0 rfl rfl 25 (by decide) (hts (.fieldLink RX4 51 "ScratchSwapModel" "five" "[I") (by decide +kernel)) (fun _ h9 => h9) rfl dX4_feed_74 ?_
      refine lv_iload (pc := 77) hx hb dX4_feed_77 (lv_at hl 0 rfl) ?_
      refine lv_iconst (pc := 79) (v := nI 4) hx hb dX4_feed_79 (by decide) ?_
      refine lv_idiv (pc := 80) hx hb dX4_feed_80 (nI_ne0 (by omega) (by omega)) ?_
      refine lv_cv (pk_div (a := i) (d := 4) (by omega) (by omega) (by omega)) ?_
      refine x_iald (pc := 81) (k := i / 4) (f := fi5) hx hb hK hP 13 0 rfl rfl (by omega) (by decide) dX4_feed_81 ?_
      refine lv_bipush (pc := 82) (v := nI 24) hx hb dX4_feed_82 (by decide) ?_
      refine lv_bipush (pc := 84) (v := nI 8) hx hb dX4_feed_84 (by decide) ?_
      refine lv_iload (pc := 86) hx hb dX4_feed_86 (lv_at hl 0 rfl) ?_
      refine lv_iconst (pc := 88) (v := nI 4) hx hb dX4_feed_88 (by decide) ?_
      refine lv_irem (pc := 89) hx hb dX4_feed_89 (nI_ne0 (by omega) (by omega)) ?_
      refine lv_cv (pk_rem (a := i) (d := 4) (by omega) (by omega) (by omega)) ?_
      refine lv_imul (pc := 90) hx hb dX4_feed_90 ?_
      refine lv_cv (x_mulc 8 (i % 4)) ?_
      refine lv_isub (pc := 91) hx hb dX4_feed_91 ?_
      refine lv_cv (pk_sub (a := 24) (b := ((i % 4) * 8)) (by omega)) ?_
      refine lv_ishr (pc := 92) hx hb dX4_feed_92 ?_
      refine lv_i2b (pc := 93) hx hb dX4_feed_93 (rfl) ?_
      refine lv_cv (show _ = Int8.toInt32 (fb20 fi5 i) from rfl) ?_
      refine x_sst (pc := 94) (k := tn + i) (F := dgT tp tn (fb20 fi5) i) hx hb hK hP hD hS 6 1 rfl rfl (by omega) (by decide) dX4_feed_94 (fun H locs hP hD hS => ?_)
      have hP : va_P (dC, dI) vwCl (gW g0 g1 g2 g3 g4 g5 g6 g7 g8 g9 g10 g11 g12 g13 cI cB k dr er pl un li ov (va_up (dgT tp tn (fb20 fi5) i) (tn + i) (fb20 fi5 i)) tn rn vs bo ex wr ei dg wo pa ch fi5) _ := hP
      have hD : va_D A (gW g0 g1 g2 g3 g4 g5 g6 g7 g8 g9 g10 g11 g12 g13 cI cB k dr er pl un li ov (va_up (dgT tp tn (fb20 fi5) i) (tn + i) (fb20 fi5 i)) tn rn vs bo ex wr ei dg wo pa ch fi5) := hD
      refine lv_iinc (pc := 95) (v := nI (i + 1)) (lv' := [(6, .int (nI (i + 1))), (0, .ref g0), (1, .int v1), (2, .int v2), (3, .int v3), (4, .int v4), (5, .int v5)]) hx hb dX4_feed_95 hl (k := 0) rfl (nI_inc i 1) (by decide) rfl (fun ls hl => ?_)
      refine lv_goto (pc := 98) (tgt := 55) hx hb dX4_feed_98 (by decide) ?_
      rw [dgT_step] at hP hD
      exact ih55 (i + 1) H locs ls (by omega) (by first | omega | (simp only []; omega)) hP hD hS (lv_sub hl [0, 1, 2, 3, 4, 5, 6] rfl)
  · skip
    have c1 : ¬ (tn + 20) ≤ 1024 := fun z => c1 ((nI_leI (a := (tn + 20)) (b := 1024) (by omega) (by omega)).mpr z)
    refine lv_iconst (pc := 13) (v := (-1)) hx hb dX4_feed_13 (by decide) ?_
    exact W.iret (v := (-1)) hx hb hr (fun t ht hW => ⟨⟨(-1), (tp, tn, fi), rfl, by show ite (tn + 20 ≤ 1024) _ _; rw [if_neg (by omega)]; exact ⟨rfl, rfl, rfl⟩, by show va_P _ _ _ t.heap; rw [ht]; exact hP, va_K.moved hW.alike hK, hD⟩, hS.F ht⟩) hS.2.2 dX4_feed_14
set_option maxHeartbeats 4000000 in
set_option maxRecDepth 100000 in
theorem kX4_pack (l : Launch) (dC : Nat → ClassId) (dI : Nat → Nat → Nat) (tt : Nat → Nat) (cI cB : ClassId) (sz : Nat) (g0 g1 g2 g3 g4 g5 g6 g7 g8 g9 g10 g11 g12 g13 : Nat) (k : K0) (dr : Nat → Int8) (er pl : Nat → Int32) (un : Nat → Int8) (li : Nat) (ov : Int32) (tp : Nat → Int8) (tn : Nat) (rn : Bool) (vs bo ex wr : Int32) (ei dg : Nat → Int8) (wo : Nat → Int32) (pa : Nat → Int8) (ch fi : Nat → Int32) (v : Int32) (htn : tn ≤ 1024) : MetI (S := ((Nat → Int8) × Nat × (Nat → Int8) × (Nat → Int32) × (Nat → Int8) × (Nat → Int32))) l yX4_pack wsX4_pack { frames := 3, cells := 0, slots := 0, locals := 78 } (dC, dI) [(cI, .int), (cB, .byte)] tt [] sz (gW g0 g1 g2 g3 g4 g5 g6 g7 g8 g9 g10 g11 g12 g13 cI cB k dr er pl un li ov tp tn rn vs bo ex wr ei dg wo pa ch fi) [.ref g0, .int v] (fun u : ((Nat → Int8) × Nat × (Nat → Int8) × (Nat → Int32) × (Nat → Int8) × (Nat → Int32)) => gW g0 g1 g2 g3 g4 g5 g6 g7 g8 g9 g10 g11 g12 g13 cI cB k dr er pl un li ov u.1 u.2.1 rn vs bo ex wr ei u.2.2.1 u.2.2.2.1 u.2.2.2.2.1 u.2.2.2.2.2 fi) (fun r u => if tn ≤ 984 then (r = nI (tn + 40) ∧ u.1 = imgT tp tn v ∧ u.2.1 = tn + 40) else (r = -1 ∧ u.1 = tp ∧ u.2.1 = tn)) := by
  refine Met.ofW (cc := cX4_pack) (maxL := 4) (ret := (some .int)) (by decide) rfl ?_
  intro p e s m args below meth c s₁ B hml hv
  obtain ⟨rfl, hsz, hP, hK, hD0, hE⟩ := hv
  have hx := B.exec
  have hb := B.bytes
  have hr := B.returns
  have hts := atoms_spec (ws := wsX4_pack) B.pre
  have hown : s.vm.findClass RX4 = some m.cls := findClass_of_methodNamed B.named
  have hlocks := B.notSynchronized
  subst hsz
  have hD := hD0.self (sz := s.heap.size)
  generalize hAe : va_A (gW g0 g1 g2 g3 g4 g5 g6 g7 g8 g9 g10 g11 g12 g13 cI cB k dr er pl un li ov tp tn rn vs bo ex wr ei dg wo pa ch fi) s.heap.size = A at hD hE ⊢
  have hA : ∀ q : Nat, s.heap.size ≤ q → A q := fun q h => by rw [← hAe]; exact Or.inr h
  have hS : va_S A s.heap s.heap [] := va_S.rf
  have hl := lv_entry ([.ref g0, .int v]) (n := 4) (Nat.le_of_ble_eq_true rfl)
  rw [lg_entry_eq]
  generalize (lg_sl ([.ref g0, .int v]) ++ List.replicate (4 - (lg_sl ([.ref g0, .int v])).length) Slot.unset).toArray = ls at hl ⊢
  have hl : lv_has ls 4 [(0, .ref g0), (1, .int v)] := hl
  have hP : va_P (dC, dI) vwCl (gW g0 g1 g2 g3 g4 g5 g6 g7 g8 g9 g10 g11 g12 g13 cI cB k dr er pl un li ov tp tn rn vs bo ex wr ei dg wo pa ch fi) s.heap := hP
  refine lv_aload_n (pc := 0) hx hb dX4_pack_0 rfl (lv_at hl 0 rfl) ?_
  refine va_get (pc := 1) (D := (dC, dI)) (ci := 4) (v := .int (nI tn)) (C := RX4) (T := TX4) (N := 26) hx hb hts (by decide +kernel) hown hK hP 0 rfl rfl 8 (by decide) (hts (.fieldLink RX4 133 "ScratchSwapModel" "taped" "I") (by decide +kernel)) (fun _ h9 => h9) rfl dX4_pack_1 ?_
  refine lv_istore_n (pc := 4) (lv' := [(2, .int (nI tn)), (0, .ref g0), (1, .int v)]) hx hb dX4_pack_4 rfl hl (by decide) rfl (fun ls hl => ?_)
  refine lv_iload_n (pc := 5) hx hb dX4_pack_5 rfl (lv_at hl 0 rfl) ?_
  refine lv_sipush (pc := 6) (v := nI 984) hx hb dX4_pack_6 (by decide) ?_
  refine lv_icmp_le (pc := 9) (tgt := 14) hx hb dX4_pack_9 (by decide) (fun c1 => ?_) (fun c1 => ?_)
  · skip
    have c1 : tn ≤ 984 := (nI_leI (a := tn) (b := 984) (by omega) (by omega)).mp c1
    refine lv_iload_n (pc := 14) hx hb dX4_pack_14 rfl (lv_at hl 0 rfl) ?_
    refine lv_iconst (pc := 15) (v := nI 1) hx hb dX4_pack_15 (by decide) ?_
    refine lv_isub (pc := 16) hx hb dX4_pack_16 ?_
    refine lv_istore_n (pc := 17) (lv' := [(3, .int ((nI tn) - (nI 1))), (2, .int (nI tn)), (0, .ref g0), (1, .int v)]) hx hb dX4_pack_17 rfl hl (by decide) rfl (fun ls hl => ?_)
    rw [← shT_0 tp tn] at hP hD
    refine x_loop (σ := (Nat)) (Wd := fun d : (Nat) => gW g0 g1 g2 g3 g4 g5 g6 g7 g8 g9 g10 g11 g12 g13 cI cB k dr er pl un li ov (shT tp tn d) tn rn vs bo ex wr ei dg wo pa ch fi) (Lv := fun d : (Nat) => [(3, .int (nI d - nI 1)), (2, .int (nI tn)), (0, .ref g0), (1, .int v)]) (I := fun d : (Nat) => (d ≤ tn)) (μ := fun d : (Nat) => d) ?_ (tn) (Nat.le_refl _) hP hD hS (lv_sub hl [0, 1, 2, 3] rfl)
    intro d H locs ls hI hP hD hS hl ih18
    have hd : (d ≤ tn) := hI
    have hP : va_P (dC, dI) vwCl (gW g0 g1 g2 g3 g4 g5 g6 g7 g8 g9 g10 g11 g12 g13 cI cB k dr er pl un li ov (shT tp tn d) tn rn vs bo ex wr ei dg wo pa ch fi) _ := hP
    have hD : va_D A (gW g0 g1 g2 g3 g4 g5 g6 g7 g8 g9 g10 g11 g12 g13 cI cB k dr er pl un li ov (shT tp tn d) tn rn vs bo ex wr ei dg wo pa ch fi) := hD
    have hl : lv_has ls 4 [(3, .int (nI d - nI 1)), (2, .int (nI tn)), (0, .ref g0), (1, .int v)] := hl
    refine lv_iload_n (pc := 18) hx hb dX4_pack_18 rfl (lv_at hl 0 rfl) ?_
    refine lv_if_lt (pc := 19) (tgt := 43) hx hb dX4_pack_19 (by decide) (fun c5 => ?_) (fun c5 => ?_)
    · skip
      have c5 : d = 0 := (nI_neg1 (by omega)).mp c5
      subst c5
      have hP : va_P (dC, dI) vwCl (gW g0 g1 g2 g3 g4 g5 g6 g7 g8 g9 g10 g11 g12 g13 cI cB k dr er pl un li ov (shT tp tn 0) tn rn vs bo ex wr ei dg wo pa ch fi) _ := hP
      have hD : va_D A (gW g0 g1 g2 g3 g4 g5 g6 g7 g8 g9 g10 g11 g12 g13 cI cB k dr er pl un li ov (shT tp tn 0) tn rn vs bo ex wr ei dg wo pa ch fi) := hD
      refine lv_iconst (pc := 43) (v := nI 0) hx hb dX4_pack_43 (by decide) ?_
      refine lv_istore_n (pc := 44) (lv' := [(3, .int (nI 0)), (2, .int (nI tn)), (0, .ref g0), (1, .int v)]) hx hb dX4_pack_44 rfl hl (by decide) rfl (fun ls hl => ?_)
      rw [← hdT_0 (shT tp tn 0) tn v] at hP hD
      refine x_loop (σ := (Nat)) (Wd := fun i : (Nat) => gW g0 g1 g2 g3 g4 g5 g6 g7 g8 g9 g10 g11 g12 g13 cI cB k dr er pl un li ov (hdT (shT tp tn 0) tn v i) tn rn vs bo ex wr ei dg wo pa ch fi) (Lv := fun i : (Nat) => [(3, .int (nI i)), (2, .int (nI tn)), (0, .ref g0), (1, .int v)]) (I := fun i : (Nat) => (i ≤ 4)) (μ := fun i : (Nat) => 4 - i) ?_ (0) (by omega) hP hD hS (lv_sub hl [0, 1, 2, 3] rfl)
      intro i H locs ls hI hP hD hS hl ih45
      have hi : (i ≤ 4) := hI
      have hP : va_P (dC, dI) vwCl (gW g0 g1 g2 g3 g4 g5 g6 g7 g8 g9 g10 g11 g12 g13 cI cB k dr er pl un li ov (hdT (shT tp tn 0) tn v i) tn rn vs bo ex wr ei dg wo pa ch fi) _ := hP
      have hD : va_D A (gW g0 g1 g2 g3 g4 g5 g6 g7 g8 g9 g10 g11 g12 g13 cI cB k dr er pl un li ov (hdT (shT tp tn 0) tn v i) tn rn vs bo ex wr ei dg wo pa ch fi) := hD
      have hl : lv_has ls 4 [(3, .int (nI i)), (2, .int (nI tn)), (0, .ref g0), (1, .int v)] := hl
      refine lv_iload_n (pc := 45) hx hb dX4_pack_45 rfl (lv_at hl 0 rfl) ?_
      refine lv_iconst (pc := 46) (v := nI 4) hx hb dX4_pack_46 (by decide) ?_
      refine lv_icmp_ge (pc := 47) (tgt := 84) hx hb dX4_pack_47 (by decide) (fun c6 => ?_) (fun c6 => ?_)
      · skip
        have c6 : 4 ≤ i := (nI_leI (a := 4) (b := i) (by omega) (by omega)).mp c6
        have hi9 : i = 4 := by omega
        subst hi9
        rw [hdT_4] at hP hD
        have hP : va_P (dC, dI) vwCl (gW g0 g1 g2 g3 g4 g5 g6 g7 g8 g9 g10 g11 g12 g13 cI cB k dr er pl un li ov (headT tp tn v) tn rn vs bo ex wr ei dg wo pa ch fi) _ := hP
        have hD : va_D A (gW g0 g1 g2 g3 g4 g5 g6 g7 g8 g9 g10 g11 g12 g13 cI cB k dr er pl un li ov (headT tp tn v) tn rn vs bo ex wr ei dg wo pa ch fi) := hD
        refine lv_aload_n (pc := 84) hx hb dX4_pack_84 rfl (lv_at hl 2 rfl) ?_
        refine lv_aload_n (pc := 85) hx hb dX4_pack_85 rfl (lv_at hl 2 rfl) ?_
        refine va_get (pc := 86) (D := (dC, dI)) (ci := 4) (v := .ref g6) (C := RX4) (T := TX4) (N := 26) hx hb hts (by decide +kernel) hown hK hP 0 rfl rfl 7 (by decide) (hts (.fieldLink RX4 26 "ScratchSwapModel" "tape" "[B") (by decide +kernel)) (fun _ h9 => h9) rfl dX4_pack_86 ?_
        refine lv_iconst (pc := 89) (v := nI 0) hx hb dX4_pack_89 (by decide) ?_
        refine lv_iload_n (pc := 90) hx hb dX4_pack_90 rfl (lv_at hl 1 rfl) ?_
        refine lv_bipush (pc := 91) (v := nI 8) hx hb dX4_pack_91 (by decide) ?_
        refine lv_iadd (pc := 93) hx hb dX4_pack_93 ?_
        refine lv_cv (nI_add tn 8) ?_
        refine lv_cv (congrArg nI (show tn + 8 = 8 + tn by omega)) ?_
        refine x_wrva (pc := 94) (va_runV (As := [.ref g6, .int (nI 0), .int (nI (8 + tn))]) (rest := []) ⟨hx, hb, hml, hown, hts⟩ (kX4_shaT l dC dI tt cI cB _ g0 g1 g2 g3 g4 g5 g6 g7 g8 g9 g10 g11 g12 g13 k dr er pl un li ov (headT tp tn v) tn rn vs bo ex wr ei dg wo pa ch fi 0 (8 + tn) (by omega) (by omega)) (cwV 3 hts gX4_pack_X4_sha rfl rfl rfl (by decide +kernel) ⟨Nat.le_of_ble_eq_true rfl, Nat.le_of_ble_eq_true rfl⟩) (x_preVa hS hE hK hP hD (x_all hD hS hA) xR0 4 0 rfl rfl) rfl rfl hl.1 rfl (lv_room (Nat.le_of_ble_eq_true rfl)) dX4_pack_94 ⟨Nat.le_of_ble_eq_true rfl, Nat.le_of_ble_eq_true rfl⟩) hS hA hD (fun u_1 H locs hu_1 hP hD hS => ?_)
        obtain ⟨dg_2, wo_3, pa_4, ch_5⟩ := u_1
        have hdg : ∀ j, j < 32 → dg_2 j = digT (sha8 (headT tp tn v) 0 (8 + tn)) j := hu_1
        have hP : va_P (dC, dI) vwCl (gW g0 g1 g2 g3 g4 g5 g6 g7 g8 g9 g10 g11 g12 g13 cI cB k dr er pl un li ov (headT tp tn v) tn rn vs bo ex wr ei dg_2 wo_3 pa_4 ch_5 fi) _ := hP
        have hD : va_D A (gW g0 g1 g2 g3 g4 g5 g6 g7 g8 g9 g10 g11 g12 g13 cI cB k dr er pl un li ov (headT tp tn v) tn rn vs bo ex wr ei dg_2 wo_3 pa_4 ch_5 fi) := hD
        refine lv_iconst (pc := 97) (v := nI 0) hx hb dX4_pack_97 (by decide) ?_
        refine lv_istore_n (pc := 98) (lv' := [(3, .int (nI 0)), (2, .int (nI tn)), (0, .ref g0), (1, .int v)]) hx hb dX4_pack_98 rfl hl (by decide) rfl (fun ls hl => ?_)
        rw [← dgT_0 (headT tp tn v) (8 + tn) (digT (sha8 (headT tp tn v) 0 (8 + tn)))] at hP hD
        refine x_loop (σ := (Nat)) (Wd := fun i : (Nat) => gW g0 g1 g2 g3 g4 g5 g6 g7 g8 g9 g10 g11 g12 g13 cI cB k dr er pl un li ov (dgT (headT tp tn v) (8 + tn) (digT (sha8 (headT tp tn v) 0 (8 + tn))) i) tn rn vs bo ex wr ei dg_2 wo_3 pa_4 ch_5 fi) (Lv := fun i : (Nat) => [(3, .int (nI i)), (2, .int (nI tn)), (0, .ref g0), (1, .int v)]) (I := fun i : (Nat) => (i ≤ 32)) (μ := fun i : (Nat) => 32 - i) ?_ (0) (by omega) hP hD hS (lv_sub hl [0, 1, 2, 3] rfl)
        intro i H locs ls hI hP hD hS hl ih99
        have hi : (i ≤ 32) := hI
        have hP : va_P (dC, dI) vwCl (gW g0 g1 g2 g3 g4 g5 g6 g7 g8 g9 g10 g11 g12 g13 cI cB k dr er pl un li ov (dgT (headT tp tn v) (8 + tn) (digT (sha8 (headT tp tn v) 0 (8 + tn))) i) tn rn vs bo ex wr ei dg_2 wo_3 pa_4 ch_5 fi) _ := hP
        have hD : va_D A (gW g0 g1 g2 g3 g4 g5 g6 g7 g8 g9 g10 g11 g12 g13 cI cB k dr er pl un li ov (dgT (headT tp tn v) (8 + tn) (digT (sha8 (headT tp tn v) 0 (8 + tn))) i) tn rn vs bo ex wr ei dg_2 wo_3 pa_4 ch_5 fi) := hD
        have hl : lv_has ls 4 [(3, .int (nI i)), (2, .int (nI tn)), (0, .ref g0), (1, .int v)] := hl
        refine lv_iload_n (pc := 99) hx hb dX4_pack_99 rfl (lv_at hl 0 rfl) ?_
        refine lv_bipush (pc := 100) (v := nI 32) hx hb dX4_pack_100 (by decide) ?_
        refine lv_icmp_ge (pc := 102) (tgt := 128) hx hb dX4_pack_102 (by decide) (fun c7 => ?_) (fun c7 => ?_)
        · skip
          have c7 : 32 ≤ i := (nI_leI (a := 32) (b := i) (by omega) (by omega)).mp c7
          have hi9 : i = 32 := by omega
          subst hi9
          have hP : va_P (dC, dI) vwCl (gW g0 g1 g2 g3 g4 g5 g6 g7 g8 g9 g10 g11 g12 g13 cI cB k dr er pl un li ov (imgT tp tn v) tn rn vs bo ex wr ei dg_2 wo_3 pa_4 ch_5 fi) _ := hP
          have hD : va_D A (gW g0 g1 g2 g3 g4 g5 g6 g7 g8 g9 g10 g11 g12 g13 cI cB k dr er pl un li ov (imgT tp tn v) tn rn vs bo ex wr ei dg_2 wo_3 pa_4 ch_5 fi) := hD
          refine lv_aload_n (pc := 128) hx hb dX4_pack_128 rfl (lv_at hl 2 rfl) ?_
          refine lv_iload_n (pc := 129) hx hb dX4_pack_129 rfl (lv_at hl 1 rfl) ?_
          refine lv_bipush (pc := 130) (v := nI 40) hx hb dX4_pack_130 (by decide) ?_
          refine lv_iadd (pc := 132) hx hb dX4_pack_132 ?_
          refine lv_cv (nI_add tn 40) ?_
          refine va_put (pc := 133) (D := (dC, dI)) (ci := 4) (v := .int (nI (tn + 40))) (ty := .int) (C := RX4) (T := TX4) (N := 26) hx hb hts (by decide +kernel) tyX4 tyX4_ok nmX4 hown hK hP hD hS 0 rfl rfl 8 (by decide) (hts (.fieldLink RX4 133 "ScratchSwapModel" "taped" "I") (by decide +kernel)) (fun _ h9 => h9) rfl (by decide +kernel) rfl rfl (Nat.le_of_ble_eq_true rfl) dX4_pack_133 (fun H locs hP hD hS => ?_)
          have hP : va_P (dC, dI) vwCl (gW g0 g1 g2 g3 g4 g5 g6 g7 g8 g9 g10 g11 g12 g13 cI cB k dr er pl un li ov (imgT tp tn v) (tn + 40) rn vs bo ex wr ei dg_2 wo_3 pa_4 ch_5 fi) _ := hP
          have hD : va_D A (gW g0 g1 g2 g3 g4 g5 g6 g7 g8 g9 g10 g11 g12 g13 cI cB k dr er pl un li ov (imgT tp tn v) (tn + 40) rn vs bo ex wr ei dg_2 wo_3 pa_4 ch_5 fi) := hD
          refine lv_aload_n (pc := 136) hx hb dX4_pack_136 rfl (lv_at hl 2 rfl) ?_
          refine va_get (pc := 137) (D := (dC, dI)) (ci := 4) (v := .int (nI (tn + 40))) (C := RX4) (T := TX4) (N := 26) hx hb hts (by decide +kernel) hown hK hP 0 rfl rfl 8 (by decide) (hts (.fieldLink RX4 133 "ScratchSwapModel" "taped" "I") (by decide +kernel)) (fun _ h9 => h9) rfl dX4_pack_137 ?_
          exact W.iret (v := nI (tn + 40)) hx hb hr (fun t ht hW => ⟨⟨nI (tn + 40), (imgT tp tn v, tn + 40, dg_2, wo_3, pa_4, ch_5), rfl, by show ite (tn ≤ 984) _ _; rw [if_pos (by omega)]; exact ⟨rfl, rfl, rfl⟩, by show va_P _ _ _ t.heap; rw [ht]; exact hP, va_K.moved hW.alike hK, hD⟩, hS.F ht⟩) hS.2.2 dX4_pack_140
        · skip
          have c7 : ¬ 32 ≤ i := fun z => c7 ((nI_leI (a := 32) (b := i) (by omega) (by omega)).mpr z)
          refine lv_aload_n (pc := 105) hx hb dX4_pack_105 rfl (lv_at hl 2 rfl) ?_
          refine va_get (pc := 106) (D := (dC, dI)) (ci := 4) (v := .ref g6) (C := RX4) (T := TX4) (N := 26) hx hb hts (by decide +kernel) hown hK hP 0 rfl rfl 7 (by decide) (hts (.fieldLink RX4 26 "ScratchSwapModel" "tape" "[B") (by decide +kernel)) (fun _ h9 => h9) rfl dX4_pack_106 ?_
          refine lv_iload_n (pc := 109) hx hb dX4_pack_109 rfl (lv_at hl 1 rfl) ?_
          refine lv_bipush (pc := 110) (v := nI 8) hx hb dX4_pack_110 (by decide) ?_
          refine lv_iadd (pc := 112) hx hb dX4_pack_112 ?_
          refine lv_cv (nI_add tn 8) ?_
          refine lv_iload_n (pc := 113) hx hb dX4_pack_113 rfl (lv_at hl 0 rfl) ?_
          refine lv_iadd (pc := 114) hx hb dX4_pack_114 ?_
          refine lv_cv (nI_add (tn + 8) i) ?_
          refine lv_cv (congrArg nI (show (tn + 8) + i = 8 + tn + i by omega)) ?_
          refine lv_aload_n (pc := 115) hx hb dX4_pack_115 rfl (lv_at hl 2 rfl) ?_
          refine va_get (pc := 116) (D := (dC, dI)) (ci := 4) (v := .ref g9) (C := RX4) (T := TX4) (N := 26) hx hb hts (by decide +kernel) hown hK hP 0 rfl rfl 21 (by decide) (hts (.fieldLink RX4 39 "ScratchSwapModel" "digest" "[B") (by decide +kernel)) (fun _ h9 => h9) rfl dX4_pack_116 ?_
          refine lv_iload_n (pc := 119) hx hb dX4_pack_119 rfl (lv_at hl 0 rfl) ?_
          refine x_bald (pc := 120) (k := i) (f := fun j => Int8.toInt32 (dg_2 j)) hx hb hK hP 9 1 rfl rfl (by omega) (by decide) dX4_pack_120 ?_
          refine lv_cv (congrArg Int8.toInt32 (hdg i (by omega))) ?_
          refine x_sst (pc := 121) (k := 8 + tn + i) (F := dgT (headT tp tn v) (8 + tn) (digT (sha8 (headT tp tn v) 0 (8 + tn))) i) hx hb hK hP hD hS 6 1 rfl rfl (by omega) (by decide) dX4_pack_121 (fun H locs hP hD hS => ?_)
          have hP : va_P (dC, dI) vwCl (gW g0 g1 g2 g3 g4 g5 g6 g7 g8 g9 g10 g11 g12 g13 cI cB k dr er pl un li ov (va_up (dgT (headT tp tn v) (8 + tn) (digT (sha8 (headT tp tn v) 0 (8 + tn))) i) (8 + tn + i) (digT (sha8 (headT tp tn v) 0 (8 + tn)) i)) tn rn vs bo ex wr ei dg_2 wo_3 pa_4 ch_5 fi) _ := hP
          have hD : va_D A (gW g0 g1 g2 g3 g4 g5 g6 g7 g8 g9 g10 g11 g12 g13 cI cB k dr er pl un li ov (va_up (dgT (headT tp tn v) (8 + tn) (digT (sha8 (headT tp tn v) 0 (8 + tn))) i) (8 + tn + i) (digT (sha8 (headT tp tn v) 0 (8 + tn)) i)) tn rn vs bo ex wr ei dg_2 wo_3 pa_4 ch_5 fi) := hD
          refine lv_iinc (pc := 122) (v := nI (i + 1)) (lv' := [(3, .int (nI (i + 1))), (2, .int (nI tn)), (0, .ref g0), (1, .int v)]) hx hb dX4_pack_122 hl (k := 0) rfl (nI_inc i 1) (by decide) rfl (fun ls hl => ?_)
          refine lv_goto (pc := 125) (tgt := 99) hx hb dX4_pack_125 (by decide) ?_
          rw [dgT_step] at hP hD
          exact ih99 (i + 1) H locs ls (by omega) (by first | omega | (simp only []; omega)) hP hD hS (lv_sub hl [0, 1, 2, 3] rfl)
      · skip
        have c6 : ¬ 4 ≤ i := fun z => c6 ((nI_leI (a := 4) (b := i) (by omega) (by omega)).mpr z)
        refine lv_aload_n (pc := 50) hx hb dX4_pack_50 rfl (lv_at hl 2 rfl) ?_
        refine va_get (pc := 51) (D := (dC, dI)) (ci := 4) (v := .ref g6) (C := RX4) (T := TX4) (N := 26) hx hb hts (by decide +kernel) hown hK hP 0 rfl rfl 7 (by decide) (hts (.fieldLink RX4 26 "ScratchSwapModel" "tape" "[B") (by decide +kernel)) (fun _ h9 => h9) rfl dX4_pack_51 ?_
        refine lv_iload_n (pc := 54) hx hb dX4_pack_54 rfl (lv_at hl 0 rfl) ?_
        refine lv_iload_n (pc := 55) hx hb dX4_pack_55 rfl (lv_at hl 1 rfl) ?_
        refine lv_bipush (pc := 56) (v := nI 8) hx hb dX4_pack_56 (by decide) ?_
        refine lv_iload_n (pc := 58) hx hb dX4_pack_58 rfl (lv_at hl 0 rfl) ?_
        refine lv_imul (pc := 59) hx hb dX4_pack_59 ?_
        refine lv_cv (x_mulc 8 i) ?_
        refine lv_ishr (pc := 60) hx hb dX4_pack_60 ?_
        refine lv_i2b (pc := 61) hx hb dX4_pack_61 (rfl) ?_
        refine lv_cv (show _ = Int8.toInt32 (lb4 (nI tn) i) from rfl) ?_
        refine x_sst (pc := 62) (k := i) (F := hdT (shT tp tn 0) tn v i) hx hb hK hP hD hS 6 1 rfl rfl (by omega) (by decide) dX4_pack_62 (fun H locs hP hD hS => ?_)
        have hP : va_P (dC, dI) vwCl (gW g0 g1 g2 g3 g4 g5 g6 g7 g8 g9 g10 g11 g12 g13 cI cB k dr er pl un li ov (va_up (hdT (shT tp tn 0) tn v i) i (lb4 (nI tn) i)) tn rn vs bo ex wr ei dg wo pa ch fi) _ := hP
        have hD : va_D A (gW g0 g1 g2 g3 g4 g5 g6 g7 g8 g9 g10 g11 g12 g13 cI cB k dr er pl un li ov (va_up (hdT (shT tp tn 0) tn v i) i (lb4 (nI tn) i)) tn rn vs bo ex wr ei dg wo pa ch fi) := hD
        refine lv_aload_n (pc := 63) hx hb dX4_pack_63 rfl (lv_at hl 2 rfl) ?_
        refine va_get (pc := 64) (D := (dC, dI)) (ci := 4) (v := .ref g6) (C := RX4) (T := TX4) (N := 26) hx hb hts (by decide +kernel) hown hK hP 0 rfl rfl 7 (by decide) (hts (.fieldLink RX4 26 "ScratchSwapModel" "tape" "[B") (by decide +kernel)) (fun _ h9 => h9) rfl dX4_pack_64 ?_
        refine lv_iconst (pc := 67) (v := nI 4) hx hb dX4_pack_67 (by decide) ?_
        refine lv_iload_n (pc := 68) hx hb dX4_pack_68 rfl (lv_at hl 0 rfl) ?_
        refine lv_iadd (pc := 69) hx hb dX4_pack_69 ?_
        refine lv_cv (nI_add 4 i) ?_
        refine lv_iload_n (pc := 70) hx hb dX4_pack_70 rfl (lv_at hl 3 rfl) ?_
        refine lv_bipush (pc := 71) (v := nI 8) hx hb dX4_pack_71 (by decide) ?_
        refine lv_iload_n (pc := 73) hx hb dX4_pack_73 rfl (lv_at hl 0 rfl) ?_
        refine lv_imul (pc := 74) hx hb dX4_pack_74 ?_
        refine lv_cv (x_mulc 8 i) ?_
        refine lv_ishr (pc := 75) hx hb dX4_pack_75 ?_
        refine lv_i2b (pc := 76) hx hb dX4_pack_76 (rfl) ?_
        refine lv_cv (show _ = Int8.toInt32 (lb4 v i) from rfl) ?_
        refine x_sst (pc := 77) (k := 4 + i) (F := va_up (hdT (shT tp tn 0) tn v i) i (lb4 (nI tn) i)) hx hb hK hP hD hS 6 1 rfl rfl (by omega) (by decide) dX4_pack_77 (fun H locs hP hD hS => ?_)
        have hP : va_P (dC, dI) vwCl (gW g0 g1 g2 g3 g4 g5 g6 g7 g8 g9 g10 g11 g12 g13 cI cB k dr er pl un li ov (va_up (va_up (hdT (shT tp tn 0) tn v i) i (lb4 (nI tn) i)) (4 + i) (lb4 v i)) tn rn vs bo ex wr ei dg wo pa ch fi) _ := hP
        have hD : va_D A (gW g0 g1 g2 g3 g4 g5 g6 g7 g8 g9 g10 g11 g12 g13 cI cB k dr er pl un li ov (va_up (va_up (hdT (shT tp tn 0) tn v i) i (lb4 (nI tn) i)) (4 + i) (lb4 v i)) tn rn vs bo ex wr ei dg wo pa ch fi) := hD
        refine lv_iinc (pc := 78) (v := nI (i + 1)) (lv' := [(3, .int (nI (i + 1))), (2, .int (nI tn)), (0, .ref g0), (1, .int v)]) hx hb dX4_pack_78 hl (k := 0) rfl (nI_inc i 1) (by decide) rfl (fun ls hl => ?_)
        refine lv_goto (pc := 81) (tgt := 45) hx hb dX4_pack_81 (by decide) ?_
        rw [hdT_step _ _ _ (by omega)] at hP hD
        exact ih45 (i + 1) H locs ls (by omega) (by first | omega | (simp only []; omega)) hP hD hS (lv_sub hl [0, 1, 2, 3] rfl)
    · skip
      have c5 : ¬ d = 0 := fun z => c5 ((nI_neg1 (by omega)).mpr z)
      obtain ⟨d, rfl⟩ : ∃ z, d = z + 1 := ⟨d - 1, by omega⟩
      have hl : lv_has ls 4 [(3, .int (nI d)), (2, .int (nI tn)), (0, .ref g0), (1, .int v)] := by rw [← nI_sub1 d]; exact hl
      have hP : va_P (dC, dI) vwCl (gW g0 g1 g2 g3 g4 g5 g6 g7 g8 g9 g10 g11 g12 g13 cI cB k dr er pl un li ov (shT tp tn (d + 1)) tn rn vs bo ex wr ei dg wo pa ch fi) _ := hP
      have hD : va_D A (gW g0 g1 g2 g3 g4 g5 g6 g7 g8 g9 g10 g11 g12 g13 cI cB k dr er pl un li ov (shT tp tn (d + 1)) tn rn vs bo ex wr ei dg wo pa ch fi) := hD
      refine lv_aload_n (pc := 22) hx hb dX4_pack_22 rfl (lv_at hl 2 rfl) ?_
      refine va_get (pc := 23) (D := (dC, dI)) (ci := 4) (v := .ref g6) (C := RX4) (T := TX4) (N := 26) hx hb hts (by decide +kernel) hown hK hP 0 rfl rfl 7 (by decide) (hts (.fieldLink RX4 26 "ScratchSwapModel" "tape" "[B") (by decide +kernel)) (fun _ h9 => h9) rfl dX4_pack_23 ?_
      refine lv_iload_n (pc := 26) hx hb dX4_pack_26 rfl (lv_at hl 0 rfl) ?_
      refine lv_bipush (pc := 27) (v := nI 8) hx hb dX4_pack_27 (by decide) ?_
      refine lv_iadd (pc := 29) hx hb dX4_pack_29 ?_
      refine lv_cv (nI_add d 8) ?_
      refine lv_aload_n (pc := 30) hx hb dX4_pack_30 rfl (lv_at hl 2 rfl) ?_
      refine va_get (pc := 31) (D := (dC, dI)) (ci := 4) (v := .ref g6) (C := RX4) (T := TX4) (N := 26) hx hb hts (by decide +kernel) hown hK hP 0 rfl rfl 7 (by decide) (hts (.fieldLink RX4 26 "ScratchSwapModel" "tape" "[B") (by decide +kernel)) (fun _ h9 => h9) rfl dX4_pack_31 ?_
      refine lv_iload_n (pc := 34) hx hb dX4_pack_34 rfl (lv_at hl 0 rfl) ?_
      refine x_bald (pc := 35) (k := d) (f := fun j => Int8.toInt32 ((shT tp tn (d + 1)) j)) hx hb hK hP 6 1 rfl rfl (by omega) (by decide) dX4_pack_35 ?_
      refine x_sst (pc := 36) (k := d + 8) (F := shT tp tn (d + 1)) hx hb hK hP hD hS 6 1 rfl rfl (by omega) (by decide) dX4_pack_36 (fun H locs hP hD hS => ?_)
      have hP : va_P (dC, dI) vwCl (gW g0 g1 g2 g3 g4 g5 g6 g7 g8 g9 g10 g11 g12 g13 cI cB k dr er pl un li ov (va_up (shT tp tn (d + 1)) (d + 8) ((shT tp tn (d + 1)) d)) tn rn vs bo ex wr ei dg wo pa ch fi) _ := hP
      have hD : va_D A (gW g0 g1 g2 g3 g4 g5 g6 g7 g8 g9 g10 g11 g12 g13 cI cB k dr er pl un li ov (va_up (shT tp tn (d + 1)) (d + 8) ((shT tp tn (d + 1)) d)) tn rn vs bo ex wr ei dg wo pa ch fi) := hD
      refine lv_iinc (pc := 37) (v := nI d - nI 1) (lv' := [(3, .int (nI d - nI 1)), (2, .int (nI tn)), (0, .ref g0), (1, .int v)]) hx hb dX4_pack_37 hl (k := 0) rfl (nI_decI d) (by decide) rfl (fun ls hl => ?_)
      refine lv_goto (pc := 40) (tgt := 18) hx hb dX4_pack_40 (by decide) ?_
      rw [Nat.add_comm d 8, shT_step tp (show d < tn by omega)] at hP hD
      exact ih18 (d) H locs ls (by omega) (by first | omega | (simp only []; omega)) hP hD hS (lv_sub hl [0, 1, 2, 3] rfl)
  · skip
    have c1 : ¬ tn ≤ 984 := fun z => c1 ((nI_leI (a := tn) (b := 984) (by omega) (by omega)).mpr z)
    refine lv_iconst (pc := 12) (v := (-1)) hx hb dX4_pack_12 (by decide) ?_
    exact W.iret (v := (-1)) hx hb hr (fun t ht hW => ⟨⟨(-1), (tp, tn, dg, wo, pa, ch), rfl, by show ite (tn ≤ 984) _ _; rw [if_neg (by omega)]; exact ⟨rfl, rfl, rfl⟩, by show va_P _ _ _ t.heap; rw [ht]; exact hP, va_K.moved hW.alike hK, hD⟩, hS.F ht⟩) hS.2.2 dX4_pack_13
