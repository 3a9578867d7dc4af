theorem fz_t (lf : Nat) : fz true lf = nI lf := rfl
theorem fz_f (lf : Nat) : fz false lf = -1 := rfl
theorem fz_0 {tl : Bool} {lf : Nat} (h : lf < 2 ^ 31) : fz tl lf = 0 ↔ tl = true ∧ lf = 0 := by
  cases tl with
  | true =>
    rw [fz_t]
    constructor
    · intro q; exact ⟨rfl, (nI_eq h (by decide)).mp q⟩
    · intro q; rw [q.2]; rfl
  | false =>
    rw [fz_f]
    constructor
    · intro q; exact absurd q (by decide)
    · intro q; exact absurd q.1 (by decide)
def ovV (lb : Bool) (n : Nat) : Int32 := if lb = true then nI (n - 1) else -1
theorem kAct_e {F : Nat → Int8} {te : Nat → Int32} {dn tl : Bool} {lf cu j : Nat} {ac gn : Int32} (h : ¬ (tl = true ∧ lf = 0)) : kAct (.inl j) (F, te, dn, tl, lf, cu, ac, gn) = ((fillF F (j * 256) 256, upd te j (te j + nI 1), dn, tl, (if tl = true then lf - 1 else lf), cu, ac + nI 1, gn), true) := by
  show kErase j _ = _
  have hb : kBegin (F, te, dn, tl, lf, cu, ac, gn) = ((F, te, dn, tl, (if tl = true then lf - 1 else lf), cu, ac + nI 1, gn), true) := by unfold kBegin; rw [if_neg h]
  unfold kErase; rw [hb]; rfl
theorem kAct_w {F : Nat → Int8} {te : Nat → Int32} {dn tl : Bool} {lf cu p : Nat} {g : Nat → Int8} {ac gn : Int32} (h : ¬ (tl = true ∧ lf = 0)) : kAct (.inr (p, g)) (F, te, dn, tl, lf, cu, ac, gn) = ((andFn F p g 8, te, dn, tl, (if tl = true then lf - 1 else lf), cu, ac + nI 1, gn), true) := by
  show kWrite p g _ = _
  have hb : kBegin (F, te, dn, tl, lf, cu, ac, gn) = ((F, te, dn, tl, (if tl = true then lf - 1 else lf), cu, ac + nI 1, gn), true) := by unfold kBegin; rw [if_neg h]
  unfold kWrite; rw [hb]; rfl
theorem kAct_ef {F : Nat → Int8} {te : Nat → Int32} {dn : Bool} {cu j : Nat} {ac gn : Int32} : kAct (.inl j) (F, te, dn, true, 0, cu, ac, gn) = ((fillF F (j * 256) (cu * 8), upd te j (te j + nI 1), true, true, 0, cu, ac, gn + nI 1), false) := by
  show kErase j _ = _
  have hb : kBegin (F, te, dn, true, 0, cu, ac, gn) = ((F, te, true, true, 0, cu, ac, gn + nI 1), false) := by unfold kBegin; rw [if_pos ⟨rfl, rfl⟩]
  unfold kErase; rw [hb]; rfl
theorem kAct_wf {F : Nat → Int8} {te : Nat → Int32} {dn : Bool} {cu p : Nat} {g : Nat → Int8} {ac gn : Int32} : kAct (.inr (p, g)) (F, te, dn, true, 0, cu, ac, gn) = ((F, te, true, true, 0, cu, ac, gn + nI 1), false) := by
  show kWrite p g _ = _
  have hb : kBegin (F, te, dn, true, 0, cu, ac, gn) = ((F, te, true, true, 0, cu, ac, gn + nI 1), false) := by unfold kBegin; rw [if_pos ⟨rfl, rfl⟩]
  unfold kWrite; rw [hb]; rfl
theorem drop_t {L : List Act} {q : Nat} {x : Act} {k : K0} (h : L[q]? = some x) (hk : (kAct x k).2 = true) : kActs (L.drop q) k = kActs (L.drop (q + 1)) (kAct x k).1 := by
  obtain ⟨hl, he⟩ := List.getElem?_eq_some_iff.mp h
  rw [List.drop_eq_getElem_cons hl, he, kActs_cons, if_pos hk]
theorem drop_f {L : List Act} {q : Nat} {x : Act} {k : K0} (h : L[q]? = some x) (hk : (kAct x k).2 = false) : kActs (L.drop q) k = kAct x k := by
  obtain ⟨hl, he⟩ := List.getElem?_eq_some_iff.mp h
  rw [List.drop_eq_getElem_cons hl, he, kActs_cons, if_neg (by rw [hk]; decide)]
theorem drop_n {L : List Act} {k : K0} : kActs (L.drop L.length) k = (k, true) := by rw [List.drop_length]; rfl
set_option maxHeartbeats 4000000 in
set_option maxRecDepth 100000 in
theorem kX4_actE (l : Launch) (dC : Nat → ClassId) (dI : Nat → Nat → Nat) (tt : Nat → Nat) (cI cB : ClassId) (sz : Nat) (g0 g1 g2 g3 g4 g5 g6 g7 g8 g9 g10 g11 g12 g13 : Nat) (k : K0) (dr : Nat → Int8) (er pl : Nat → Int32) (un : Nat → Int8) (li : Nat) (ov : Int32) (tp : Nat → Int8) (tn : Nat) (rn : Bool) (vs bo ex wr : Int32) (ei dg : Nat → Int8) (wo : Nat → Int32) (pa : Nat → Int8) (ch fi : Nat → Int32) (q j : Nat) (hq : q < 700) (hj : j < 11) (he : er q = nI j) : MetV (S := ((Nat → Int8) × (Nat → Int32))) l yX4_act wsX4_act { frames := 0, cells := 0, slots := 0, locals := 0 } (dC, dI) [(cI, .int), (cB, .byte)] tt [] sz (gW g0 g1 g2 g3 g4 g5 g6 g7 g8 g9 g10 g11 g12 g13 cI cB k dr er pl un li ov tp tn rn vs bo ex wr ei dg wo pa ch fi) [.ref g0, .int (nI q)] (fun u : ((Nat → Int8) × (Nat → Int32)) => gW g0 g1 g2 g3 g4 g5 g6 g7 g8 g9 g10 g11 g12 g13 cI cB (u.1, u.2, k.2.2) dr er pl un li ov tp tn rn vs bo ex wr ei dg wo pa ch fi) (fun u => u = (fillF k.1 (j * 256) 256, upd k.2.1 j (k.2.1 j + nI 1))) := by
  refine Met.ofW (cc := cX4_act) (maxL := 3) (ret := none) (by decide) rfl ?_
  intro p e s m args below meth c s₁ B hml hv
  obtain ⟨rfl, hsz, hP, hK, hD0, hE⟩ := hv
  have hx := B.exec
  have hb := B.bytes
  have hr := B.returns
  have hts := atoms_spec (ws := wsX4_act) B.pre
  have hown : s.vm.findClass RX4 = some m.cls := findClass_of_methodNamed B.named
  have hlocks := B.notSynchronized
  subst hsz
  obtain ⟨F, te, kq⟩ := k
  have hD := hD0.self (sz := s.heap.size)
  generalize hAe : va_A (gW g0 g1 g2 g3 g4 g5 g6 g7 g8 g9 g10 g11 g12 g13 cI cB (F, te, kq) dr er pl un li ov tp tn rn vs bo ex wr ei dg wo pa ch fi) s.heap.size = A at hD hE ⊢
  have hA : ∀ q : Nat, s.heap.size ≤ q → A q := fun q h => by rw [← hAe]; exact Or.inr h
  have hS : va_S A s.heap s.heap [] := va_S.rf
  have hl := lv_entry ([.ref g0, .int (nI q)]) (n := 3) (Nat.le_of_ble_eq_true rfl)
  rw [lg_entry_eq]
  generalize (lg_sl ([.ref g0, .int (nI q)]) ++ List.replicate (3 - (lg_sl ([.ref g0, .int (nI q)])).length) Slot.unset).toArray = ls at hl ⊢
  have hl : lv_has ls 3 [(0, .ref g0), (1, .int (nI q))] := hl
  have hP : va_P (dC, dI) vwCl (gW g0 g1 g2 g3 g4 g5 g6 g7 g8 g9 g10 g11 g12 g13 cI cB (F, te, kq) dr er pl un li ov tp tn rn vs bo ex wr ei dg wo pa ch fi) s.heap := hP
  refine lv_aload_n (pc := 0) hx hb dX4_act_0 rfl (lv_at hl 0 rfl) ?_
  refine va_get (pc := 1) (D := (dC, dI)) (ci := 4) (v := .ref g3) (C := RX4) (T := TX4) (N := 26) hx hb hts (by decide +kernel) hown hK hP 0 rfl rfl 2 (by decide) (hts (.fieldLink RX4 16 "ScratchSwapModel" "erases" "[I") (by decide +kernel)) (fun _ h9 => h9) rfl dX4_act_1 ?_
  refine lv_iload_n (pc := 4) hx hb dX4_act_4 rfl (lv_at hl 1 rfl) ?_
  refine x_iald (pc := 5) (k := q) (f := er) hx hb hK hP 3 0 rfl rfl (by omega) (by decide) dX4_act_5 ?_
  refine lv_cv he ?_
  refine lv_if_lt (pc := 6) (tgt := 60) hx hb dX4_act_6 (by decide) (fun c1 => ?_) (fun c1 => ?_)
  · skip
    have c1 : j < 0 := (nI_ltI (a := j) (b := 0) (by omega) (by omega)).mp c1
    exfalso; omega
  · skip
    have c1 : ¬ j < 0 := fun z => c1 ((nI_ltI (a := j) (b := 0) (by omega) (by omega)).mpr z)
    refine lv_aload_n (pc := 9) hx hb dX4_act_9 rfl (lv_at hl 0 rfl) ?_
    refine va_get (pc := 10) (D := (dC, dI)) (ci := 4) (v := .ref g7) (C := RX4) (T := TX4) (N := 26) hx hb hts (by decide +kernel) hown hK hP 0 rfl rfl 19 (by decide) (hts (.fieldLink RX4 33 "ScratchSwapModel" "wear" "[I") (by decide +kernel)) (fun _ h9 => h9) rfl dX4_act_10 ?_
    refine lv_aload_n (pc := 13) hx hb dX4_act_13 rfl (lv_at hl 0 rfl) ?_
    refine va_get (pc := 14) (D := (dC, dI)) (ci := 4) (v := .ref g3) (C := RX4) (T := TX4) (N := 26) hx hb hts (by decide +kernel) hown hK hP 0 rfl rfl 2 (by decide) (hts (.fieldLink RX4 16 "ScratchSwapModel" "erases" "[I") (by decide +kernel)) (fun _ h9 => h9) rfl dX4_act_14 ?_
    refine lv_iload_n (pc := 17) hx hb dX4_act_17 rfl (lv_at hl 1 rfl) ?_
    refine x_iald (pc := 18) (k := q) (f := er) hx hb hK hP 3 0 rfl rfl (by omega) (by decide) dX4_act_18 ?_
    refine lv_cv he ?_
    refine lv_dup2_11 (pc := 19) hx hb dX4_act_19 rfl rfl ?_
    refine x_iald (pc := 20) (k := j) (f := te) hx hb hK hP 7 0 rfl rfl (by omega) (by decide) dX4_act_20 ?_
    refine lv_iconst (pc := 21) (v := nI 1) hx hb dX4_act_21 (by decide) ?_
    refine lv_iadd (pc := 22) hx hb dX4_act_22 ?_
    refine x_iast (pc := 23) (k := j) (f := te) hx hb hK hP hD hS 7 0 rfl rfl (by omega) (by decide) dX4_act_23 (fun H locs hP hD hS => ?_)
    have hP : va_P (dC, dI) vwCl (gW g0 g1 g2 g3 g4 g5 g6 g7 g8 g9 g10 g11 g12 g13 cI cB (F, upd te j ((te j) + (nI 1)), kq) dr er pl un li ov tp tn rn vs bo ex wr ei dg wo pa ch fi) _ := hP
    have hD : va_D A (gW g0 g1 g2 g3 g4 g5 g6 g7 g8 g9 g10 g11 g12 g13 cI cB (F, upd te j ((te j) + (nI 1)), kq) dr er pl un li ov tp tn rn vs bo ex wr ei dg wo pa ch fi) := hD
    refine lv_iconst (pc := 24) (v := nI 0) hx hb dX4_act_24 (by decide) ?_
    refine lv_istore_n (pc := 25) (lv' := [(2, .int (nI 0)), (0, .ref g0), (1, .int (nI q))]) hx hb dX4_act_25 rfl hl (by decide) rfl (fun ls hl => ?_)
    rw [← fillF_0 F (j * 256)] at hP hD
    refine x_loop (σ := (Nat)) (Wd := fun i : (Nat) => gW g0 g1 g2 g3 g4 g5 g6 g7 g8 g9 g10 g11 g12 g13 cI cB (fillF F (j * 256) i, upd te j ((te j) + (nI 1)), kq) dr er pl un li ov tp tn rn vs bo ex wr ei dg wo pa ch fi) (Lv := fun i : (Nat) => [(2, .int (nI i)), (0, .ref g0), (1, .int (nI q))]) (I := fun i : (Nat) => (i ≤ 256)) (μ := fun i : (Nat) => 256 - i) ?_ (0) (by omega) hP hD hS (lv_sub hl [0, 1, 2] rfl)
    intro i H locs ls hI hP hD hS hl ih26
    have hi : (i ≤ 256) := hI
    have hP : va_P (dC, dI) vwCl (gW g0 g1 g2 g3 g4 g5 g6 g7 g8 g9 g10 g11 g12 g13 cI cB (fillF F (j * 256) i, upd te j ((te j) + (nI 1)), kq) dr er pl un li ov tp tn rn vs bo ex wr ei dg wo pa ch fi) _ := hP
    have hD : va_D A (gW g0 g1 g2 g3 g4 g5 g6 g7 g8 g9 g10 g11 g12 g13 cI cB (fillF F (j * 256) i, upd te j ((te j) + (nI 1)), kq) dr er pl un li ov tp tn rn vs bo ex wr ei dg wo pa ch fi) := hD
    have hl : lv_has ls 3 [(2, .int (nI i)), (0, .ref g0), (1, .int (nI q))] := hl
    refine lv_iload_n (pc := 26) hx hb dX4_act_26 rfl (lv_at hl 0 rfl) ?_
    refine lv_sipush (pc := 27) (v := nI 256) hx hb dX4_act_27 (by decide) ?_
    refine lv_icmp_ge (pc := 30) (tgt := 57) hx hb dX4_act_30 (by decide) (fun c_1 => ?_) (fun c_1 => ?_)
    · skip
      have c_1 : 256 ≤ i := (nI_leI (a := 256) (b := i) (by omega) (by omega)).mp c_1
      refine lv_goto (pc := 57) (tgt := 102) hx hb dX4_act_57 (by decide) ?_
      have hi9 : i = 256 := by omega
      subst hi9
      exact W.vret hx hb hr (fun t ht hW => ⟨⟨(fillF F (j * 256) 256, upd te j ((te j) + (nI 1))), rfl, rfl, by show va_P _ _ _ t.heap; rw [ht]; exact hP, va_K.moved hW.alike hK, hD⟩, hS.F ht⟩) hS.2.2 dX4_act_102
    · skip
      have c_1 : ¬ 256 ≤ i := fun z => c_1 ((nI_leI (a := 256) (b := i) (by omega) (by omega)).mpr z)
      refine lv_aload_n (pc := 33) hx hb dX4_act_33 rfl (lv_at hl 1 rfl) ?_
      refine va_get (pc := 34) (D := (dC, dI)) (ci := 4) (v := .ref g1) (C := RX4) (T := TX4) (N := 26) hx hb hts (by decide +kernel) hown hK hP 0 rfl rfl 0 (by decide) (hts (.fieldLink RX4 9 "ScratchSwapModel" "flash" "[B") (by decide +kernel)) (fun _ h9 => h9) rfl dX4_act_34 ?_
      refine lv_sipush (pc := 37) (v := nI 256) hx hb dX4_act_37 (by decide) ?_
      refine lv_aload_n (pc := 40) hx hb dX4_act_40 rfl (lv_at hl 1 rfl) ?_
      refine va_get (pc := 41) (D := (dC, dI)) (ci := 4) (v := .ref g3) (C := RX4) (T := TX4) (N := 26) hx hb hts (by decide +kernel) hown hK hP 0 rfl rfl 2 (by decide) (hts (.fieldLink RX4 16 "ScratchSwapModel" "erases" "[I") (by decide +kernel)) (fun _ h9 => h9) rfl dX4_act_41 ?_
      refine lv_iload_n (pc := 44) hx hb dX4_act_44 rfl (lv_at hl 2 rfl) ?_
      refine x_iald (pc := 45) (k := q) (f := er) hx hb hK hP 3 0 rfl rfl (by omega) (by decide) dX4_act_45 ?_
      refine lv_cv he ?_
      refine lv_imul (pc := 46) hx hb dX4_act_46 ?_
      refine lv_cv (x_mulc 256 j) ?_
      refine lv_iload_n (pc := 47) hx hb dX4_act_47 rfl (lv_at hl 0 rfl) ?_
      refine lv_iadd (pc := 48) hx hb dX4_act_48 ?_
      refine lv_cv (nI_add (j * 256) i) ?_
      refine lv_iconst (pc := 49) (v := (-1)) hx hb dX4_act_49 (by decide) ?_
      refine lv_cv (show (-1) = Int8.toInt32 ((-1)) from by decide) ?_
      refine x_sst (pc := 50) (k := (j * 256) + i) (F := fillF F (j * 256) i) hx hb hK hP hD hS 1 1 rfl rfl (by omega) (by decide) dX4_act_50 (fun H locs hP hD hS => ?_)
      have hP : va_P (dC, dI) vwCl (gW g0 g1 g2 g3 g4 g5 g6 g7 g8 g9 g10 g11 g12 g13 cI cB (va_up (fillF F (j * 256) i) ((j * 256) + i) (-1), upd te j ((te j) + (nI 1)), kq) dr er pl un li ov tp tn rn vs bo ex wr ei dg wo pa ch fi) _ := hP
      have hD : va_D A (gW g0 g1 g2 g3 g4 g5 g6 g7 g8 g9 g10 g11 g12 g13 cI cB (va_up (fillF F (j * 256) i) ((j * 256) + i) (-1), upd te j ((te j) + (nI 1)), kq) dr er pl un li ov tp tn rn vs bo ex wr ei dg wo pa ch fi) := hD
      refine lv_iinc (pc := 51) (v := nI (i + 1)) (lv' := [(2, .int (nI (i + 1))), (0, .ref g0), (1, .int (nI q))]) hx hb dX4_act_51 hl (k := 0) rfl (nI_inc i 1) (by decide) rfl (fun ls hl => ?_)
      refine lv_goto (pc := 54) (tgt := 26) hx hb dX4_act_54 (by decide) ?_
      rw [fillF_step] at hP hD
      exact ih26 (i + 1) H locs ls (by omega) (by first | omega | (simp only []; omega)) hP hD hS (lv_sub hl [0, 1, 2] rfl)
set_option maxHeartbeats 4000000 in
set_option maxRecDepth 100000 in
theorem kX4_actW (l : Launch) (dC : Nat → ClassId) (dI : Nat → Nat → Nat) (tt : Nat → Nat) (cI cB : ClassId) (sz : Nat) (g0 g1 g2 g3 g4 g5 g6 g7 g8 g9 g10 g11 g12 g13 : Nat) (k : K0) (dr : Nat → Int8) (er pl : Nat → Int32) (un : Nat → Int8) (li : Nat) (ov : Int32) (tp : Nat → Int8) (tn : Nat) (rn : Bool) (vs bo ex wr : Int32) (ei dg : Nat → Int8) (wo : Nat → Int32) (pa : Nat → Int8) (ch fi : Nat → Int32) (q p0 : Nat) (g : Nat → Int8) (hq : q < 700) (hp0 : p0 + 8 ≤ 2816) (he : er q = -1) (hpl : pl q = nI p0) (hu : ∀ z, z < 8 → un (q * 8 + z) = g z) : MetV (S := (Nat → Int8)) l yX4_act wsX4_act { frames := 0, cells := 0, slots := 0, locals := 0 } (dC, dI) [(cI, .int), (cB, .byte)] tt [] sz (gW g0 g1 g2 g3 g4 g5 g6 g7 g8 g9 g10 g11 g12 g13 cI cB k dr er pl un li ov tp tn rn vs bo ex wr ei dg wo pa ch fi) [.ref g0, .int (nI q)] (fun u : (Nat → Int8) => gW g0 g1 g2 g3 g4 g5 g6 g7 g8 g9 g10 g11 g12 g13 cI cB (u, k.2) dr er pl un li ov tp tn rn vs bo ex wr ei dg wo pa ch fi) (fun u => u = andFn k.1 p0 g 8) := by
  refine Met.ofW (cc := cX4_act) (maxL := 3) (ret := none) (by decide) rfl ?_
  intro p e s m args below meth c s₁ B hml hv
  obtain ⟨rfl, hsz, hP, hK, hD0, hE⟩ := hv
  have hx := B.exec
  have hb := B.bytes
  have hr := B.returns
  have hts := atoms_spec (ws := wsX4_act) B.pre
  have hown : s.vm.findClass RX4 = some m.cls := findClass_of_methodNamed B.named
  have hlocks := B.notSynchronized
  subst hsz
  obtain ⟨F, te, kq⟩ := k
  have hD := hD0.self (sz := s.heap.size)
  generalize hAe : va_A (gW g0 g1 g2 g3 g4 g5 g6 g7 g8 g9 g10 g11 g12 g13 cI cB (F, te, kq) dr er pl un li ov tp tn rn vs bo ex wr ei dg wo pa ch fi) s.heap.size = A at hD hE ⊢
  have hA : ∀ q : Nat, s.heap.size ≤ q → A q := fun q h => by rw [← hAe]; exact Or.inr h
  have hS : va_S A s.heap s.heap [] := va_S.rf
  have hl := lv_entry ([.ref g0, .int (nI q)]) (n := 3) (Nat.le_of_ble_eq_true rfl)
  rw [lg_entry_eq]
  generalize (lg_sl ([.ref g0, .int (nI q)]) ++ List.replicate (3 - (lg_sl ([.ref g0, .int (nI q)])).length) Slot.unset).toArray = ls at hl ⊢
  have hl : lv_has ls 3 [(0, .ref g0), (1, .int (nI q))] := hl
  have hP : va_P (dC, dI) vwCl (gW g0 g1 g2 g3 g4 g5 g6 g7 g8 g9 g10 g11 g12 g13 cI cB (F, te, kq) dr er pl un li ov tp tn rn vs bo ex wr ei dg wo pa ch fi) s.heap := hP
  refine lv_aload_n (pc := 0) hx hb dX4_act_0 rfl (lv_at hl 0 rfl) ?_
  refine va_get (pc := 1) (D := (dC, dI)) (ci := 4) (v := .ref g3) (C := RX4) (T := TX4) (N := 26) hx hb hts (by decide +kernel) hown hK hP 0 rfl rfl 2 (by decide) (hts (.fieldLink RX4 16 "ScratchSwapModel" "erases" "[I") (by decide +kernel)) (fun _ h9 => h9) rfl dX4_act_1 ?_
  refine lv_iload_n (pc := 4) hx hb dX4_act_4 rfl (lv_at hl 1 rfl) ?_
  refine x_iald (pc := 5) (k := q) (f := er) hx hb hK hP 3 0 rfl rfl (by omega) (by decide) dX4_act_5 ?_
  refine lv_cv he ?_
  refine lv_if_lt (pc := 6) (tgt := 60) hx hb dX4_act_6 (by decide) (fun c1 => ?_) (fun c1 => ?_)
  · skip
    refine lv_iconst (pc := 60) (v := nI 0) hx hb dX4_act_60 (by decide) ?_
    refine lv_istore_n (pc := 61) (lv' := [(2, .int (nI 0)), (0, .ref g0), (1, .int (nI q))]) hx hb dX4_act_61 rfl hl (by decide) rfl (fun ls hl => ?_)
    rw [← andFn_0 F p0 g] at hP hD
    refine x_loop (σ := (Nat)) (Wd := fun i : (Nat) => gW g0 g1 g2 g3 g4 g5 g6 g7 g8 g9 g10 g11 g12 g13 cI cB (andFn F p0 g i, te, kq) dr er pl un li ov tp tn rn vs bo ex wr ei dg wo pa ch fi) (Lv := fun i : (Nat) => [(2, .int (nI i)), (0, .ref g0), (1, .int (nI q))]) (I := fun i : (Nat) => (i ≤ 8)) (μ := fun i : (Nat) => 8 - i) ?_ (0) (by omega) hP hD hS (lv_sub hl [0, 1, 2] rfl)
    intro i H locs ls hI hP hD hS hl ih62
    have hi : (i ≤ 8) := hI
    have hP : va_P (dC, dI) vwCl (gW g0 g1 g2 g3 g4 g5 g6 g7 g8 g9 g10 g11 g12 g13 cI cB (andFn F p0 g i, te, kq) dr er pl un li ov tp tn rn vs bo ex wr ei dg wo pa ch fi) _ := hP
    have hD : va_D A (gW g0 g1 g2 g3 g4 g5 g6 g7 g8 g9 g10 g11 g12 g13 cI cB (andFn F p0 g i, te, kq) dr er pl un li ov tp tn rn vs bo ex wr ei dg wo pa ch fi) := hD
    have hl : lv_has ls 3 [(2, .int (nI i)), (0, .ref g0), (1, .int (nI q))] := hl
    refine lv_iload_n (pc := 62) hx hb dX4_act_62 rfl (lv_at hl 0 rfl) ?_
    refine lv_bipush (pc := 63) (v := nI 8) hx hb dX4_act_63 (by decide) ?_
    refine lv_icmp_ge (pc := 65) (tgt := 102) hx hb dX4_act_65 (by decide) (fun c_1 => ?_) (fun c_1 => ?_)
    · skip
      have c_1 : 8 ≤ i := (nI_leI (a := 8) (b := i) (by omega) (by omega)).mp c_1
      have hi9 : i = 8 := by omega
      subst hi9
      exact W.vret hx hb hr (fun t ht hW => ⟨⟨andFn F p0 g 8, rfl, rfl, by show va_P _ _ _ t.heap; rw [ht]; exact hP, va_K.moved hW.alike hK, hD⟩, hS.F ht⟩) hS.2.2 dX4_act_102
    · skip
      have c_1 : ¬ 8 ≤ i := fun z => c_1 ((nI_leI (a := 8) (b := i) (by omega) (by omega)).mpr z)
      refine lv_aload_n (pc := 68) hx hb dX4_act_68 rfl (lv_at hl 1 rfl) ?_
      refine va_get (pc := 69) (D := (dC, dI)) (ci := 4) (v := .ref g1) (C := RX4) (T := TX4) (N := 26) hx hb hts (by decide +kernel) hown hK hP 0 rfl rfl 0 (by decide) (hts (.fieldLink RX4 9 "ScratchSwapModel" "flash" "[B") (by decide +kernel)) (fun _ h9 => h9) rfl dX4_act_69 ?_
      refine lv_aload_n (pc := 72) hx hb dX4_act_72 rfl (lv_at hl 1 rfl) ?_
      refine va_get (pc := 73) (D := (dC, dI)) (ci := 4) (v := .ref g4) (C := RX4) (T := TX4) (N := 26) hx hb hts (by decide +kernel) hown hK hP 0 rfl rfl 3 (by decide) (hts (.fieldLink RX4 20 "ScratchSwapModel" "places" "[I") (by decide +kernel)) (fun _ h9 => h9) rfl dX4_act_73 ?_
      refine lv_iload_n (pc := 76) hx hb dX4_act_76 rfl (lv_at hl 2 rfl) ?_
      refine x_iald (pc := 77) (k := q) (f := pl) hx hb hK hP 4 0 rfl rfl (by omega) (by decide) dX4_act_77 ?_
      refine lv_cv hpl ?_
      refine lv_iload_n (pc := 78) hx hb dX4_act_78 rfl (lv_at hl 0 rfl) ?_
      refine lv_iadd (pc := 79) hx hb dX4_act_79 ?_
      refine lv_cv (nI_add p0 i) ?_
      refine lv_dup2_11 (pc := 80) hx hb dX4_act_80 rfl rfl ?_
      refine x_bald (pc := 81) (k := p0 + i) (f := fun j => Int8.toInt32 ((andFn F p0 g i) j)) hx hb hK hP 1 1 rfl rfl (by omega) (by decide) dX4_act_81 ?_
      refine lv_aload_n (pc := 82) hx hb dX4_act_82 rfl (lv_at hl 1 rfl) ?_
      refine va_get (pc := 83) (D := (dC, dI)) (ci := 4) (v := .ref g5) (C := RX4) (T := TX4) (N := 26) hx hb hts (by decide +kernel) hown hK hP 0 rfl rfl 4 (by decide) (hts (.fieldLink RX4 23 "ScratchSwapModel" "units" "[B") (by decide +kernel)) (fun _ h9 => h9) rfl dX4_act_83 ?_
      refine lv_bipush (pc := 86) (v := nI 8) hx hb dX4_act_86 (by decide) ?_
      refine lv_iload_n (pc := 88) hx hb dX4_act_88 rfl (lv_at hl 2 rfl) ?_
      refine lv_imul (pc := 89) hx hb dX4_act_89 ?_
      refine lv_cv (x_mulc 8 q) ?_
      refine lv_iload_n (pc := 90) hx hb dX4_act_90 rfl (lv_at hl 0 rfl) ?_
      refine lv_iadd (pc := 91) hx hb dX4_act_91 ?_
      refine lv_cv (nI_add (q * 8) i) ?_
      refine x_bald (pc := 92) (k := (q * 8) + i) (f := fun j => Int8.toInt32 (un j)) hx hb hK hP 5 1 rfl rfl (by omega) (by decide) dX4_act_92 ?_
      refine lv_cv (congrArg Int8.toInt32 (hu i (by omega))) ?_
      refine lv_iand (pc := 93) hx hb dX4_act_93 ?_
      refine lv_cv (sb_and ((andFn F p0 g i) (p0 + i)) (g i)) ?_
      refine lv_i2b (pc := 94) hx hb dX4_act_94 (sb_i2b _) ?_
      refine x_sst (pc := 95) (k := p0 + i) (F := andFn F p0 g i) hx hb hK hP hD hS 1 1 rfl rfl (by omega) (by decide) dX4_act_95 (fun H locs hP hD hS => ?_)
      have hP : va_P (dC, dI) vwCl (gW g0 g1 g2 g3 g4 g5 g6 g7 g8 g9 g10 g11 g12 g13 cI cB (va_up (andFn F p0 g i) (p0 + i) (((andFn F p0 g i) (p0 + i)) &&& (g i)), te, kq) dr er pl un li ov tp tn rn vs bo ex wr ei dg wo pa ch fi) _ := hP
      have hD : va_D A (gW g0 g1 g2 g3 g4 g5 g6 g7 g8 g9 g10 g11 g12 g13 cI cB (va_up (andFn F p0 g i) (p0 + i) (((andFn F p0 g i) (p0 + i)) &&& (g i)), te, kq) dr er pl un li ov tp tn rn vs bo ex wr ei dg wo pa ch fi) := hD
      refine lv_iinc (pc := 96) (v := nI (i + 1)) (lv' := [(2, .int (nI (i + 1))), (0, .ref g0), (1, .int (nI q))]) hx hb dX4_act_96 hl (k := 0) rfl (nI_inc i 1) (by decide) rfl (fun ls hl => ?_)
      refine lv_goto (pc := 99) (tgt := 62) hx hb dX4_act_99 (by decide) ?_
      rw [andFn_step] at hP hD
      exact ih62 (i + 1) H locs ls (by omega) (by first | omega | (simp only []; omega)) hP hD hS (lv_sub hl [0, 1, 2] rfl)
  · skip
    exact absurd (by decide) c1
set_option maxHeartbeats 4000000 in
set_option maxRecDepth 100000 in
theorem kX4_does (l : Launch) (dC : Nat → ClassId) (dI : Nat → Nat → Nat) (tt : Nat → Nat) (cI cB : ClassId) (sz : Nat) (g0 g1 g2 g3 g4 g5 g6 g7 g8 g9 g10 g11 g12 g13 : Nat) (k : K0) (dr : Nat → Int8) (er pl : Nat → Int32) (un : Nat → Int8) (li : Nat) (ov : Int32) (tp : Nat → Int8) (tn : Nat) (rn : Bool) (vs bo ex wr : Int32) (ei dg : Nat → Int8) (wo : Nat → Int32) (pa : Nat → Int8) (ch fi : Nat → Int32) (L : List Act) (lb : Bool) (hk : kOk k) (hL : lstR L er pl un li) (hli : li ≤ 700) (hov : ov = ovV lb L.length) : MetI (S := (K0 × Int32 × Bool)) l yX4_does wsX4_does { frames := 1, cells := 0, slots := 0, locals := 22 } (dC, dI) [(cI, .int), (cB, .byte)] tt [] sz (gW g0 g1 g2 g3 g4 g5 g6 g7 g8 g9 g10 g11 g12 g13 cI cB k dr er pl un li ov tp tn rn vs bo ex wr ei dg wo pa ch fi) [.ref g0] (fun u : (K0 × Int32 × Bool) => gW g0 g1 g2 g3 g4 g5 g6 g7 g8 g9 g10 g11 g12 g13 cI cB u.1 dr er pl un li ov tp tn u.2.2 vs bo u.2.1 wr ei dg wo pa ch fi) (fun r u => r = bI (kActs L k).2 ∧ u.1 = (kActs L k).1 ∧ u.2.1 = (if lb = true ∧ 0 < L.length ∧ (kActs L k).2 = true then ex + nI 1 else ex) ∧ u.2.2 = (if (kActs L k).2 = true then rn else false)) := by
  refine Met.ofW (cc := cX4_does) (maxL := 3) (ret := (some .boolean)) (by decide) rfl ?_
  intro p e s m args below meth c s₁ B hml hv
  obtain ⟨rfl, hsz, hP, hK, hD0, hE⟩ := hv
  have hx := B.exec
  have hb := B.bytes
  have hr := B.returns
  have hts := atoms_spec (ws := wsX4_does) B.pre
  have hown : s.vm.findClass RX4 = some m.cls := findClass_of_methodNamed B.named
  have hlocks := B.notSynchronized
  subst hsz
  obtain ⟨hli0, hact⟩ := hL
  subst hli0
  have hD := hD0.self (sz := s.heap.size)
  generalize hAe : va_A (gW g0 g1 g2 g3 g4 g5 g6 g7 g8 g9 g10 g11 g12 g13 cI cB k dr er pl un L.length ov tp tn rn vs bo ex wr ei dg wo pa ch fi) s.heap.size = A at hD hE ⊢
  have hA : ∀ q : Nat, s.heap.size ≤ q → A q := fun q h => by rw [← hAe]; exact Or.inr h
  have hS : va_S A s.heap s.heap [] := va_S.rf
  have hl := lv_entry ([.ref g0]) (n := 3) (Nat.le_of_ble_eq_true rfl)
  rw [lg_entry_eq]
  generalize (lg_sl ([.ref g0]) ++ List.replicate (3 - (lg_sl ([.ref g0])).length) Slot.unset).toArray = ls at hl ⊢
  have hl : lv_has ls 3 [(0, .ref g0)] := hl
  have hP : va_P (dC, dI) vwCl (gW g0 g1 g2 g3 g4 g5 g6 g7 g8 g9 g10 g11 g12 g13 cI cB k dr er pl un L.length ov tp tn rn vs bo ex wr ei dg wo pa ch fi) s.heap := hP
  refine lv_iconst (pc := 0) (v := nI 0) hx hb dX4_does_0 (by decide) ?_
  refine lv_istore_n (pc := 1) (lv' := [(1, .int (nI 0)), (0, .ref g0)]) hx hb dX4_does_1 rfl hl (by decide) rfl (fun ls hl => ?_)
  refine x_loop (σ := (Nat) × (K0) × (Int32)) (Wd := fun x : (Nat) × (K0) × (Int32) => match x with | (q, k1, ex1) => gW g0 g1 g2 g3 g4 g5 g6 g7 g8 g9 g10 g11 g12 g13 cI cB k1 dr er pl un L.length ov tp tn rn vs bo ex1 wr ei dg wo pa ch fi) (Lv := fun x : (Nat) × (K0) × (Int32) => match x with | (q, k1, ex1) => [(1, .int (nI q)), (0, .ref g0)]) (I := fun x : (Nat) × (K0) × (Int32) => match x with | (q, k1, ex1) => (kActs L k = kActs (L.drop q) k1) ∧ (q ≤ L.length) ∧ (kOk k1) ∧ (ex1 = (if lb = true ∧ 0 < L.length ∧ q = L.length then ex + nI 1 else ex))) (μ := fun x : (Nat) × (K0) × (Int32) => match x with | (q, k1, ex1) => L.length - q) ?_ (0, k, ex) ⟨by rw [List.drop_zero], Nat.zero_le _, hk, by rw [if_neg (by omega)]⟩ hP hD hS (lv_sub hl [0, 1] rfl)
  intro x H locs ls hI hP hD hS hl ih2
  obtain ⟨q, k1, ex1⟩ := x
  obtain ⟨hT0, hq, hk1, hex⟩ : (kActs L k = kActs (L.drop q) k1) ∧ (q ≤ L.length) ∧ (kOk k1) ∧ (ex1 = (if lb = true ∧ 0 < L.length ∧ q = L.length then ex + nI 1 else ex)) := hI
  have hP : va_P (dC, dI) vwCl (gW g0 g1 g2 g3 g4 g5 g6 g7 g8 g9 g10 g11 g12 g13 cI cB k1 dr er pl un L.length ov tp tn rn vs bo ex1 wr ei dg wo pa ch fi) _ := hP
  have hD : va_D A (gW g0 g1 g2 g3 g4 g5 g6 g7 g8 g9 g10 g11 g12 g13 cI cB k1 dr er pl un L.length ov tp tn rn vs bo ex1 wr ei dg wo pa ch fi) := hD
  have hl : lv_has ls 3 [(1, .int (nI q)), (0, .ref g0)] := hl
  obtain ⟨F1, te1, dn1, tl1, lf1, cu1, ac1, gn1⟩ := k1
  have hlf1 : lf1 < 2 ^ 31 := hk1.2.1
  have hcu1 : cu1 < 32 := hk1.2.2
  have hP : va_P (dC, dI) vwCl (gW g0 g1 g2 g3 g4 g5 g6 g7 g8 g9 g10 g11 g12 g13 cI cB (F1, te1, dn1, tl1, lf1, cu1, ac1, gn1) dr er pl un L.length ov tp tn rn vs bo ex1 wr ei dg wo pa ch fi) _ := hP
  have hD : va_D A (gW g0 g1 g2 g3 g4 g5 g6 g7 g8 g9 g10 g11 g12 g13 cI cB (F1, te1, dn1, tl1, lf1, cu1, ac1, gn1) dr er pl un L.length ov tp tn rn vs bo ex1 wr ei dg wo pa ch fi) := hD
  refine lv_iload_n (pc := 2) hx hb dX4_does_2 rfl (lv_at hl 0 rfl) ?_
  refine lv_aload_n (pc := 3) hx hb dX4_does_3 rfl (lv_at hl 1 rfl) ?_
  refine va_get (pc := 4) (D := (dC, dI)) (ci := 4) (v := .int (nI L.length)) (C := RX4) (T := TX4) (N := 26) hx hb hts (by decide +kernel) hown hK hP 0 rfl rfl 5 (by decide) (hts (.fieldLink RX4 54 "ScratchSwapModel" "listed" "I") (by decide +kernel)) (fun _ h9 => h9) rfl dX4_does_4 ?_
  refine lv_icmp_ge (pc := 7) (tgt := 73) hx hb dX4_does_7 (by decide) (fun c1 => ?_) (fun c1 => ?_)
  · skip
    have c1 : L.length ≤ q := (nI_leI (a := L.length) (b := q) (by omega) (by omega)).mp c1
    refine lv_iload_n (pc := 73) hx hb dX4_does_73 rfl (lv_at hl 0 rfl) ?_
    refine lv_aload_n (pc := 74) hx hb dX4_does_74 rfl (lv_at hl 1 rfl) ?_
    refine va_get (pc := 75) (D := (dC, dI)) (ci := 4) (v := .int (nI L.length)) (C := RX4) (T := TX4) (N := 26) hx hb hts (by decide +kernel) hown hK hP 0 rfl rfl 5 (by decide) (hts (.fieldLink RX4 54 "ScratchSwapModel" "listed" "I") (by decide +kernel)) (fun _ h9 => h9) rfl dX4_does_75 ?_
    refine lv_icmp_ne (pc := 78) (tgt := 83) hx hb dX4_does_78 (by decide) (fun c6 => ?_) (fun c6 => ?_)
    · skip
      have c6 : ¬ q = L.length := fun z => c6 ((nI_eq (a := q) (b := L.length) (by omega) (by omega)).mpr z)
      exfalso; omega
    · skip
      have c6 : q = L.length := (nI_eq (a := q) (b := L.length) (by omega) (by omega)).mp c6
      refine lv_iconst (pc := 81) (v := nI 1) hx hb dX4_does_81 (by decide) ?_
      have hq9 : q = L.length := by omega
      have hth : kActs L k = ((F1, te1, dn1, tl1, lf1, cu1, ac1, gn1), true) := by rw [hT0, hq9]; exact drop_n
      exact W.zret (v := nI 1) hx hb hr rfl (fun t ht hW => ⟨⟨nI 1, ((F1, te1, dn1, tl1, lf1, cu1, ac1, gn1), ex1, rn), rfl, ⟨by rw [hth]; rfl, by rw [hth], by rw [hth, hex]; by_cases z : lb = true ∧ 0 < L.length <;> simp [z, hq9], by rw [hth, if_pos rfl]⟩, by show va_P _ _ _ t.heap; rw [ht]; exact hP, va_K.moved hW.alike hK, hD⟩, hS.F ht⟩) hS.2.2 dX4_does_82
  · skip
    have c1 : ¬ L.length ≤ q := fun z => c1 ((nI_leI (a := L.length) (b := q) (by omega) (by omega)).mpr z)
    refine lv_aload_n (pc := 10) hx hb dX4_does_10 rfl (lv_at hl 1 rfl) ?_
    refine va_get (pc := 11) (D := (dC, dI)) (ci := 4) (v := .int (fz tl1 lf1)) (C := RX4) (T := TX4) (N := 26) hx hb hts (by decide +kernel) hown hK hP 0 rfl rfl 13 (by decide) (hts (.fieldLink RX4 29 "ScratchSwapModel" "fuse" "I") (by decide +kernel)) (fun _ h9 => h9) rfl dX4_does_11 ?_
    refine lv_if_eq (pc := 14) (tgt := 73) hx hb dX4_does_14 (by decide) (fun c2 => ?_) (fun c2 => ?_)
    · skip
      obtain ⟨hz1, hz2⟩ := (fz_0 hlf1).mp c2
      subst hz1
      subst hz2
      have hP : va_P (dC, dI) vwCl (gW g0 g1 g2 g3 g4 g5 g6 g7 g8 g9 g10 g11 g12 g13 cI cB (F1, te1, dn1, true, 0, cu1, ac1, gn1) dr er pl un L.length ov tp tn rn vs bo ex1 wr ei dg wo pa ch fi) _ := hP
      have hD : va_D A (gW g0 g1 g2 g3 g4 g5 g6 g7 g8 g9 g10 g11 g12 g13 cI cB (F1, te1, dn1, true, 0, cu1, ac1, gn1) dr er pl un L.length ov tp tn rn vs bo ex1 wr ei dg wo pa ch fi) := hD
      refine lv_iload_n (pc := 73) hx hb dX4_does_73 rfl (lv_at hl 0 rfl) ?_
      refine lv_aload_n (pc := 74) hx hb dX4_does_74 rfl (lv_at hl 1 rfl) ?_
      refine va_get (pc := 75) (D := (dC, dI)) (ci := 4) (v := .int (nI L.length)) (C := RX4) (T := TX4) (N := 26) hx hb hts (by decide +kernel) hown hK hP 0 rfl rfl 5 (by decide) (hts (.fieldLink RX4 54 "ScratchSwapModel" "listed" "I") (by decide +kernel)) (fun _ h9 => h9) rfl dX4_does_75 ?_
      refine lv_icmp_ne (pc := 78) (tgt := 83) hx hb dX4_does_78 (by decide) (fun c6 => ?_) (fun c6 => ?_)
      · skip
        have c6 : ¬ q = L.length := fun z => c6 ((nI_eq (a := q) (b := L.length) (by omega) (by omega)).mpr z)
        obtain ⟨x, hxq⟩ : ∃ x, L[q]? = some x := ⟨_, List.getElem?_eq_getElem (by omega)⟩
        have ha := hact q x hxq
        rcases x with j | ⟨p0, g⟩
        · skip
          have ha : j < 11 ∧ er q = nI j := ha
          refine lv_aload_n (pc := 83) hx hb dX4_does_83 rfl (lv_at hl 1 rfl) ?_
          refine va_get (pc := 84) (D := (dC, dI)) (ci := 4) (v := .ref g3) (C := RX4) (T := TX4) (N := 26) hx hb hts (by decide +kernel) hown hK hP 0 rfl rfl 2 (by decide) (hts (.fieldLink RX4 16 "ScratchSwapModel" "erases" "[I") (by decide +kernel)) (fun _ h9 => h9) rfl dX4_does_84 ?_
          refine lv_iload_n (pc := 87) hx hb dX4_does_87 rfl (lv_at hl 0 rfl) ?_
          refine x_iald (pc := 88) (k := q) (f := er) hx hb hK hP 3 0 rfl rfl (by omega) (by decide) dX4_does_88 ?_
          refine lv_cv ha.2 ?_
          refine lv_if_lt (pc := 89) (tgt := 144) hx hb dX4_does_89 (by decide) (fun c7 => ?_) (fun c7 => ?_)
          · skip
            exact absurd c7 (nI_pos (by omega))
          · skip
            refine lv_aload_n (pc := 92) hx hb dX4_does_92 rfl (lv_at hl 1 rfl) ?_
            refine va_get (pc := 93) (D := (dC, dI)) (ci := 4) (v := .ref g7) (C := RX4) (T := TX4) (N := 26) hx hb hts (by decide +kernel) hown hK hP 0 rfl rfl 19 (by decide) (hts (.fieldLink RX4 33 "ScratchSwapModel" "wear" "[I") (by decide +kernel)) (fun _ h9 => h9) rfl dX4_does_93 ?_
            refine lv_aload_n (pc := 96) hx hb dX4_does_96 rfl (lv_at hl 1 rfl) ?_
            refine va_get (pc := 97) (D := (dC, dI)) (ci := 4) (v := .ref g3) (C := RX4) (T := TX4) (N := 26) hx hb hts (by decide +kernel) hown hK hP 0 rfl rfl 2 (by decide) (hts (.fieldLink RX4 16 "ScratchSwapModel" "erases" "[I") (by decide +kernel)) (fun _ h9 => h9) rfl dX4_does_97 ?_
            refine lv_iload_n (pc := 100) hx hb dX4_does_100 rfl (lv_at hl 0 rfl) ?_
            refine x_iald (pc := 101) (k := q) (f := er) hx hb hK hP 3 0 rfl rfl (by omega) (by decide) dX4_does_101 ?_
            refine lv_cv ha.2 ?_
            refine lv_dup2_11 (pc := 102) hx hb dX4_does_102 rfl rfl ?_
            refine x_iald (pc := 103) (k := j) (f := te1) hx hb hK hP 7 0 rfl rfl (by omega) (by decide) dX4_does_103 ?_
            refine lv_iconst (pc := 104) (v := nI 1) hx hb dX4_does_104 (by decide) ?_
            refine lv_iadd (pc := 105) hx hb dX4_does_105 ?_
            refine x_iast (pc := 106) (k := j) (f := te1) hx hb hK hP hD hS 7 0 rfl rfl (by omega) (by decide) dX4_does_106 (fun H locs hP hD hS => ?_)
            have hP : va_P (dC, dI) vwCl (gW g0 g1 g2 g3 g4 g5 g6 g7 g8 g9 g10 g11 g12 g13 cI cB (F1, upd te1 j ((te1 j) + (nI 1)), dn1, true, 0, cu1, ac1, gn1) dr er pl un L.length ov tp tn rn vs bo ex1 wr ei dg wo pa ch fi) _ := hP
            have hD : va_D A (gW g0 g1 g2 g3 g4 g5 g6 g7 g8 g9 g10 g11 g12 g13 cI cB (F1, upd te1 j ((te1 j) + (nI 1)), dn1, true, 0, cu1, ac1, gn1) dr er pl un L.length ov tp tn rn vs bo ex1 wr ei dg wo pa ch fi) := hD
            refine lv_iconst (pc := 107) (v := nI 0) hx hb dX4_does_107 (by decide) ?_
            refine lv_istore_n (pc := 108) (lv' := [(2, .int (nI 0)), (1, .int (nI q)), (0, .ref g0)]) hx hb dX4_does_108 rfl hl (by decide) rfl (fun ls hl => ?_)
            rw [← fillF_0 F1 (j * 256)] at hP hD
            refine x_loop (σ := (Nat)) (Wd := fun i : (Nat) => gW g0 g1 g2 g3 g4 g5 g6 g7 g8 g9 g10 g11 g12 g13 cI cB (fillF F1 (j * 256) i, upd te1 j ((te1 j) + (nI 1)), dn1, true, 0, cu1, ac1, gn1) dr er pl un L.length ov tp tn rn vs bo ex1 wr ei dg wo pa ch fi) (Lv := fun i : (Nat) => [(2, .int (nI i)), (1, .int (nI q)), (0, .ref g0)]) (I := fun i : (Nat) => (i ≤ cu1 * 8)) (μ := fun i : (Nat) => cu1 * 8 - i) ?_ (0) (by omega) hP hD hS (lv_sub hl [0, 1, 2] rfl)
            intro i H locs ls hI hP hD hS hl ih109
            have hi : (i ≤ cu1 * 8) := hI
            have hP : va_P (dC, dI) vwCl (gW g0 g1 g2 g3 g4 g5 g6 g7 g8 g9 g10 g11 g12 g13 cI cB (fillF F1 (j * 256) i, upd te1 j ((te1 j) + (nI 1)), dn1, true, 0, cu1, ac1, gn1) dr er pl un L.length ov tp tn rn vs bo ex1 wr ei dg wo pa ch fi) _ := hP
            have hD : va_D A (gW g0 g1 g2 g3 g4 g5 g6 g7 g8 g9 g10 g11 g12 g13 cI cB (fillF F1 (j * 256) i, upd te1 j ((te1 j) + (nI 1)), dn1, true, 0, cu1, ac1, gn1) dr er pl un L.length ov tp tn rn vs bo ex1 wr ei dg wo pa ch fi) := hD
            have hl : lv_has ls 3 [(2, .int (nI i)), (1, .int (nI q)), (0, .ref g0)] := hl
            refine lv_iload_n (pc := 109) hx hb dX4_does_109 rfl (lv_at hl 0 rfl) ?_
            refine lv_bipush (pc := 110) (v := nI 8) hx hb dX4_does_110 (by decide) ?_
            refine lv_aload_n (pc := 112) hx hb dX4_does_112 rfl (lv_at hl 2 rfl) ?_
            refine va_get (pc := 113) (D := (dC, dI)) (ci := 4) (v := .int (nI cu1)) (C := RX4) (T := TX4) (N := 26) hx hb hts (by decide +kernel) hown hK hP 0 rfl rfl 14 (by decide) (hts (.fieldLink RX4 85 "ScratchSwapModel" "cutUnits" "I") (by decide +kernel)) (fun _ h9 => h9) rfl dX4_does_113 ?_
            refine lv_imul (pc := 116) hx hb dX4_does_116 ?_
            refine lv_cv (x_mulc 8 cu1) ?_
            refine lv_icmp_ge (pc := 117) (tgt := 144) hx hb dX4_does_117 (by decide) (fun c8 => ?_) (fun c8 => ?_)
            · skip
              have c8 : (cu1 * 8) ≤ i := (nI_leI (a := (cu1 * 8)) (b := i) (by omega) (by omega)).mp c8
              have hi9 : i = cu1 * 8 := by omega
              subst hi9
              have hP : va_P (dC, dI) vwCl (gW g0 g1 g2 g3 g4 g5 g6 g7 g8 g9 g10 g11 g12 g13 cI cB (fillF F1 (j * 256) (cu1 * 8), upd te1 j ((te1 j) + (nI 1)), dn1, true, 0, cu1, ac1, gn1) dr er pl un L.length ov tp tn rn vs bo ex1 wr ei dg wo pa ch fi) _ := hP
              have hD : va_D A (gW g0 g1 g2 g3 g4 g5 g6 g7 g8 g9 g10 g11 g12 g13 cI cB (fillF F1 (j * 256) (cu1 * 8), upd te1 j ((te1 j) + (nI 1)), dn1, true, 0, cu1, ac1, gn1) dr er pl un L.length ov tp tn rn vs bo ex1 wr ei dg wo pa ch fi) := hD
              refine lv_aload_n (pc := 144) hx hb dX4_does_144 rfl (lv_at hl 2 rfl) ?_
              refine lv_iconst (pc := 145) (v := nI 1) hx hb dX4_does_145 (by decide) ?_
              refine lv_cv (show nI 1 = bI true from rfl) ?_
              refine va_put (pc := 146) (D := (dC, dI)) (ci := 4) (v := .int (bI true)) (ty := .boolean) (C := RX4) (T := TX4) (N := 26) hx hb hts (by decide +kernel) tyX4 tyX4_ok nmX4 hown hK hP hD hS 0 rfl rfl 9 (by decide) (hts (.fieldLink RX4 88 "ScratchSwapModel" "isDown" "Z") (by decide +kernel)) (fun _ h9 => h9) rfl (by decide +kernel) (nbI true) (fbI true) (Nat.le_of_ble_eq_true rfl) dX4_does_146 (fun H locs hP hD hS => ?_)
              have hP : va_P (dC, dI) vwCl (gW g0 g1 g2 g3 g4 g5 g6 g7 g8 g9 g10 g11 g12 g13 cI cB (fillF F1 (j * 256) (cu1 * 8), upd te1 j ((te1 j) + (nI 1)), true, true, 0, cu1, ac1, gn1) dr er pl un L.length ov tp tn rn vs bo ex1 wr ei dg wo pa ch fi) _ := hP
              have hD : va_D A (gW g0 g1 g2 g3 g4 g5 g6 g7 g8 g9 g10 g11 g12 g13 cI cB (fillF F1 (j * 256) (cu1 * 8), upd te1 j ((te1 j) + (nI 1)), true, true, 0, cu1, ac1, gn1) dr er pl un L.length ov tp tn rn vs bo ex1 wr ei dg wo pa ch fi) := hD
              refine lv_aload_n (pc := 149) hx hb dX4_does_149 rfl (lv_at hl 2 rfl) ?_
              refine lv_iconst (pc := 150) (v := nI 0) hx hb dX4_does_150 (by decide) ?_
              refine lv_cv (show nI 0 = bI false from rfl) ?_
              refine va_put (pc := 151) (D := (dC, dI)) (ci := 4) (v := .int (bI false)) (ty := .boolean) (C := RX4) (T := TX4) (N := 26) hx hb hts (by decide +kernel) tyX4 tyX4_ok nmX4 hown hK hP hD hS 0 rfl rfl 10 (by decide) (hts (.fieldLink RX4 92 "ScratchSwapModel" "runs" "Z") (by decide +kernel)) (fun _ h9 => h9) rfl (by decide +kernel) (nbI false) (fbI false) (Nat.le_of_ble_eq_true rfl) dX4_does_151 (fun H locs hP hD hS => ?_)
              have hP : va_P (dC, dI) vwCl (gW g0 g1 g2 g3 g4 g5 g6 g7 g8 g9 g10 g11 g12 g13 cI cB (fillF F1 (j * 256) (cu1 * 8), upd te1 j ((te1 j) + (nI 1)), true, true, 0, cu1, ac1, gn1) dr er pl un L.length ov tp tn false vs bo ex1 wr ei dg wo pa ch fi) _ := hP
              have hD : va_D A (gW g0 g1 g2 g3 g4 g5 g6 g7 g8 g9 g10 g11 g12 g13 cI cB (fillF F1 (j * 256) (cu1 * 8), upd te1 j ((te1 j) + (nI 1)), true, true, 0, cu1, ac1, gn1) dr er pl un L.length ov tp tn false vs bo ex1 wr ei dg wo pa ch fi) := hD
              refine lv_aload_n (pc := 154) hx hb dX4_does_154 rfl (lv_at hl 2 rfl) ?_
              refine lv_dup (pc := 155) hx hb dX4_does_155 rfl ?_
              refine va_get (pc := 156) (D := (dC, dI)) (ci := 4) (v := .int gn1) (C := RX4) (T := TX4) (N := 26) hx hb hts (by decide +kernel) hown hK hP 0 rfl rfl 18 (by decide) (hts (.fieldLink RX4 95 "ScratchSwapModel" "gone" "I") (by decide +kernel)) (fun _ h9 => h9) rfl dX4_does_156 ?_
              refine lv_iconst (pc := 159) (v := nI 1) hx hb dX4_does_159 (by decide) ?_
              refine lv_iadd (pc := 160) hx hb dX4_does_160 ?_
              refine va_put (pc := 161) (D := (dC, dI)) (ci := 4) (v := .int (gn1 + (nI 1))) (ty := .int) (C := RX4) (T := TX4) (N := 26) hx hb hts (by decide +kernel) tyX4 tyX4_ok nmX4 hown hK hP hD hS 0 rfl rfl 18 (by decide) (hts (.fieldLink RX4 95 "ScratchSwapModel" "gone" "I") (by decide +kernel)) (fun _ h9 => h9) rfl (by decide +kernel) rfl rfl (Nat.le_of_ble_eq_true rfl) dX4_does_161 (fun H locs hP hD hS => ?_)
              have hP : va_P (dC, dI) vwCl (gW g0 g1 g2 g3 g4 g5 g6 g7 g8 g9 g10 g11 g12 g13 cI cB (fillF F1 (j * 256) (cu1 * 8), upd te1 j ((te1 j) + (nI 1)), true, true, 0, cu1, ac1, gn1 + (nI 1)) dr er pl un L.length ov tp tn false vs bo ex1 wr ei dg wo pa ch fi) _ := hP
              have hD : va_D A (gW g0 g1 g2 g3 g4 g5 g6 g7 g8 g9 g10 g11 g12 g13 cI cB (fillF F1 (j * 256) (cu1 * 8), upd te1 j ((te1 j) + (nI 1)), true, true, 0, cu1, ac1, gn1 + (nI 1)) dr er pl un L.length ov tp tn false vs bo ex1 wr ei dg wo pa ch fi) := hD
              refine lv_iconst (pc := 164) (v := nI 0) hx hb dX4_does_164 (by decide) ?_
              have hka : kAct (.inl j) (F1, te1, dn1, true, 0, cu1, ac1, gn1) = ((fillF F1 (j * 256) (cu1 * 8), upd te1 j ((te1 j) + (nI 1)), true, true, 0, cu1, ac1, gn1 + (nI 1)), false) := kAct_ef
              have hth : kActs L k = ((fillF F1 (j * 256) (cu1 * 8), upd te1 j ((te1 j) + (nI 1)), true, true, 0, cu1, ac1, gn1 + (nI 1)), false) := by rw [hT0, drop_f hxq (by rw [hka]), hka]
              exact W.zret (v := nI 0) hx hb hr rfl (fun t ht hW => ⟨⟨nI 0, ((fillF F1 (j * 256) (cu1 * 8), upd te1 j ((te1 j) + (nI 1)), true, true, 0, cu1, ac1, gn1 + (nI 1)), ex1, false), rfl, ⟨by rw [hth]; rfl, by rw [hth], by rw [hth, hex, if_neg (by omega), if_neg (fun z => absurd z.2.2 Bool.false_ne_true)], by rw [hth, if_neg Bool.false_ne_true]⟩, by show va_P _ _ _ t.heap; rw [ht]; exact hP, va_K.moved hW.alike hK, hD⟩, hS.F ht⟩) hS.2.2 dX4_does_165
            · skip
              have c8 : ¬ (cu1 * 8) ≤ i := fun z => c8 ((nI_leI (a := (cu1 * 8)) (b := i) (by omega) (by omega)).mpr z)
              refine lv_aload_n (pc := 120) hx hb dX4_does_120 rfl (lv_at hl 2 rfl) ?_
              refine va_get (pc := 121) (D := (dC, dI)) (ci := 4) (v := .ref g1) (C := RX4) (T := TX4) (N := 26) hx hb hts (by decide +kernel) hown hK hP 0 rfl rfl 0 (by decide) (hts (.fieldLink RX4 9 "ScratchSwapModel" "flash" "[B") (by decide +kernel)) (fun _ h9 => h9) rfl dX4_does_121 ?_
              refine lv_sipush (pc := 124) (v := nI 256) hx hb dX4_does_124 (by decide) ?_
              refine lv_aload_n (pc := 127) hx hb dX4_does_127 rfl (lv_at hl 2 rfl) ?_
              refine va_get (pc := 128) (D := (dC, dI)) (ci := 4) (v := .ref g3) (C := RX4) (T := TX4) (N := 26) hx hb hts (by decide +kernel) hown hK hP 0 rfl rfl 2 (by decide) (hts (.fieldLink RX4 16 "ScratchSwapModel" "erases" "[I") (by decide +kernel)) (fun _ h9 => h9) rfl dX4_does_128 ?_
              refine lv_iload_n (pc := 131) hx hb dX4_does_131 rfl (lv_at hl 1 rfl) ?_
              refine x_iald (pc := 132) (k := q) (f := er) hx hb hK hP 3 0 rfl rfl (by omega) (by decide) dX4_does_132 ?_
              refine lv_cv ha.2 ?_
              refine lv_imul (pc := 133) hx hb dX4_does_133 ?_
              refine lv_cv (x_mulc 256 j) ?_
              refine lv_iload_n (pc := 134) hx hb dX4_does_134 rfl (lv_at hl 0 rfl) ?_
              refine lv_iadd (pc := 135) hx hb dX4_does_135 ?_
              refine lv_cv (nI_add (j * 256) i) ?_
              refine lv_iconst (pc := 136) (v := (-1)) hx hb dX4_does_136 (by decide) ?_
              refine lv_cv (show (-1) = Int8.toInt32 ((-1)) from by decide) ?_
              refine x_sst (pc := 137) (k := (j * 256) + i) (F := fillF F1 (j * 256) i) hx hb hK hP hD hS 1 1 rfl rfl (by omega) (by decide) dX4_does_137 (fun H locs hP hD hS => ?_)
              have hP : va_P (dC, dI) vwCl (gW g0 g1 g2 g3 g4 g5 g6 g7 g8 g9 g10 g11 g12 g13 cI cB (va_up (fillF F1 (j * 256) i) ((j * 256) + i) (-1), upd te1 j ((te1 j) + (nI 1)), dn1, true, 0, cu1, ac1, gn1) dr er pl un L.length ov tp tn rn vs bo ex1 wr ei dg wo pa ch fi) _ := hP
              have hD : va_D A (gW g0 g1 g2 g3 g4 g5 g6 g7 g8 g9 g10 g11 g12 g13 cI cB (va_up (fillF F1 (j * 256) i) ((j * 256) + i) (-1), upd te1 j ((te1 j) + (nI 1)), dn1, true, 0, cu1, ac1, gn1) dr er pl un L.length ov tp tn rn vs bo ex1 wr ei dg wo pa ch fi) := hD
              refine lv_iinc (pc := 138) (v := nI (i + 1)) (lv' := [(2, .int (nI (i + 1))), (1, .int (nI q)), (0, .ref g0)]) hx hb dX4_does_138 hl (k := 0) rfl (nI_inc i 1) (by decide) rfl (fun ls hl => ?_)
              refine lv_goto (pc := 141) (tgt := 109) hx hb dX4_does_141 (by decide) ?_
              rw [fillF_step] at hP hD
              exact ih109 (i + 1) H locs ls (by omega) (by first | omega | (simp only []; omega)) hP hD hS (lv_sub hl [0, 1, 2] rfl)
        · skip
          have ha : p0 + 8 ≤ 2816 ∧ er q = -1 ∧ pl q = nI p0 ∧ ∀ z, z < 8 → un (q * 8 + z) = g z := ha
          refine lv_aload_n (pc := 83) hx hb dX4_does_83 rfl (lv_at hl 1 rfl) ?_
          refine va_get (pc := 84) (D := (dC, dI)) (ci := 4) (v := .ref g3) (C := RX4) (T := TX4) (N := 26) hx hb hts (by decide +kernel) hown hK hP 0 rfl rfl 2 (by decide) (hts (.fieldLink RX4 16 "ScratchSwapModel" "erases" "[I") (by decide +kernel)) (fun _ h9 => h9) rfl dX4_does_84 ?_
          refine lv_iload_n (pc := 87) hx hb dX4_does_87 rfl (lv_at hl 0 rfl) ?_
          refine x_iald (pc := 88) (k := q) (f := er) hx hb hK hP 3 0 rfl rfl (by omega) (by decide) dX4_does_88 ?_
          refine lv_cv ha.2.1 ?_
          refine lv_if_lt (pc := 89) (tgt := 144) hx hb dX4_does_89 (by decide) (fun c7 => ?_) (fun c7 => ?_)
          · skip
            refine lv_aload_n (pc := 144) hx hb dX4_does_144 rfl (lv_at hl 1 rfl) ?_
            refine lv_iconst (pc := 145) (v := nI 1) hx hb dX4_does_145 (by decide) ?_
            refine lv_cv (show nI 1 = bI true from rfl) ?_
            refine va_put (pc := 146) (D := (dC, dI)) (ci := 4) (v := .int (bI true)) (ty := .boolean) (C := RX4) (T := TX4) (N := 26) hx hb hts (by decide +kernel) tyX4 tyX4_ok nmX4 hown hK hP hD hS 0 rfl rfl 9 (by decide) (hts (.fieldLink RX4 88 "ScratchSwapModel" "isDown" "Z") (by decide +kernel)) (fun _ h9 => h9) rfl (by decide +kernel) (nbI true) (fbI true) (Nat.le_of_ble_eq_true rfl) dX4_does_146 (fun H locs hP hD hS => ?_)
            have hP : va_P (dC, dI) vwCl (gW g0 g1 g2 g3 g4 g5 g6 g7 g8 g9 g10 g11 g12 g13 cI cB (F1, te1, true, true, 0, cu1, ac1, gn1) dr er pl un L.length ov tp tn rn vs bo ex1 wr ei dg wo pa ch fi) _ := hP
            have hD : va_D A (gW g0 g1 g2 g3 g4 g5 g6 g7 g8 g9 g10 g11 g12 g13 cI cB (F1, te1, true, true, 0, cu1, ac1, gn1) dr er pl un L.length ov tp tn rn vs bo ex1 wr ei dg wo pa ch fi) := hD
            refine lv_aload_n (pc := 149) hx hb dX4_does_149 rfl (lv_at hl 1 rfl) ?_
            refine lv_iconst (pc := 150) (v := nI 0) hx hb dX4_does_150 (by decide) ?_
            refine lv_cv (show nI 0 = bI false from rfl) ?_
            refine va_put (pc := 151) (D := (dC, dI)) (ci := 4) (v := .int (bI false)) (ty := .boolean) (C := RX4) (T := TX4) (N := 26) hx hb hts (by decide +kernel) tyX4 tyX4_ok nmX4 hown hK hP hD hS 0 rfl rfl 10 (by decide) (hts (.fieldLink RX4 92 "ScratchSwapModel" "runs" "Z") (by decide +kernel)) (fun _ h9 => h9) rfl (by decide +kernel) (nbI false) (fbI false) (Nat.le_of_ble_eq_true rfl) dX4_does_151 (fun H locs hP hD hS => ?_)
            have hP : va_P (dC, dI) vwCl (gW g0 g1 g2 g3 g4 g5 g6 g7 g8 g9 g10 g11 g12 g13 cI cB (F1, te1, true, true, 0, cu1, ac1, gn1) dr er pl un L.length ov tp tn false vs bo ex1 wr ei dg wo pa ch fi) _ := hP
            have hD : va_D A (gW g0 g1 g2 g3 g4 g5 g6 g7 g8 g9 g10 g11 g12 g13 cI cB (F1, te1, true, true, 0, cu1, ac1, gn1) dr er pl un L.length ov tp tn false vs bo ex1 wr ei dg wo pa ch fi) := hD
            refine lv_aload_n (pc := 154) hx hb dX4_does_154 rfl (lv_at hl 1 rfl) ?_
            refine lv_dup (pc := 155) hx hb dX4_does_155 rfl ?_
            refine va_get (pc := 156) (D := (dC, dI)) (ci := 4) (v := .int gn1) (C := RX4) (T := TX4) (N := 26) hx hb hts (by decide +kernel) hown hK hP 0 rfl rfl 18 (by decide) (hts (.fieldLink RX4 95 "ScratchSwapModel" "gone" "I") (by decide +kernel)) (fun _ h9 => h9) rfl dX4_does_156 ?_
            refine lv_iconst (pc := 159) (v := nI 1) hx hb dX4_does_159 (by decide) ?_
            refine lv_iadd (pc := 160) hx hb dX4_does_160 ?_
            refine va_put (pc := 161) (D := (dC, dI)) (ci := 4) (v := .int (gn1 + (nI 1))) (ty := .int) (C := RX4) (T := TX4) (N := 26) hx hb hts (by decide +kernel) tyX4 tyX4_ok nmX4 hown hK hP hD hS 0 rfl rfl 18 (by decide) (hts (.fieldLink RX4 95 "ScratchSwapModel" "gone" "I") (by decide +kernel)) (fun _ h9 => h9) rfl (by decide +kernel) rfl rfl (Nat.le_of_ble_eq_true rfl) dX4_does_161 (fun H locs hP hD hS => ?_)
            have hP : va_P (dC, dI) vwCl (gW g0 g1 g2 g3 g4 g5 g6 g7 g8 g9 g10 g11 g12 g13 cI cB (F1, te1, true, true, 0, cu1, ac1, gn1 + (nI 1)) dr er pl un L.length ov tp tn false vs bo ex1 wr ei dg wo pa ch fi) _ := hP
            have hD : va_D A (gW g0 g1 g2 g3 g4 g5 g6 g7 g8 g9 g10 g11 g12 g13 cI cB (F1, te1, true, true, 0, cu1, ac1, gn1 + (nI 1)) dr er pl un L.length ov tp tn false vs bo ex1 wr ei dg wo pa ch fi) := hD
            refine lv_iconst (pc := 164) (v := nI 0) hx hb dX4_does_164 (by decide) ?_
            have hka : kAct (.inr (p0, g)) (F1, te1, dn1, true, 0, cu1, ac1, gn1) = ((F1, te1, true, true, 0, cu1, ac1, gn1 + (nI 1)), false) := kAct_wf
            have hth : kActs L k = ((F1, te1, true, true, 0, cu1, ac1, gn1 + (nI 1)), false) := by rw [hT0, drop_f hxq (by rw [hka]), hka]
            exact W.zret (v := nI 0) hx hb hr rfl (fun t ht hW => ⟨⟨nI 0, ((F1, te1, true, true, 0, cu1, ac1, gn1 + (nI 1)), ex1, false), rfl, ⟨by rw [hth]; rfl, by rw [hth], by rw [hth, hex, if_neg (by omega), if_neg (fun z => absurd z.2.2 Bool.false_ne_true)], by rw [hth, if_neg Bool.false_ne_true]⟩, by show va_P _ _ _ t.heap; rw [ht]; exact hP, va_K.moved hW.alike hK, hD⟩, hS.F ht⟩) hS.2.2 dX4_does_165
          · skip
            exact absurd (by decide) c7
      · skip
        have c6 : q = L.length := (nI_eq (a := q) (b := L.length) (by omega) (by omega)).mp c6
        exfalso; omega
    · skip
      have c2 : ¬ (tl1 = true ∧ lf1 = 0) := fun z => c2 ((fz_0 hlf1).mpr z)
      cases tl1 with
      | true =>
        have hP : va_P (dC, dI) vwCl (gW g0 g1 g2 g3 g4 g5 g6 g7 g8 g9 g10 g11 g12 g13 cI cB (F1, te1, dn1, true, lf1, cu1, ac1, gn1) dr er pl un L.length ov tp tn rn vs bo ex1 wr ei dg wo pa ch fi) _ := hP
        have hD : va_D A (gW g0 g1 g2 g3 g4 g5 g6 g7 g8 g9 g10 g11 g12 g13 cI cB (F1, te1, dn1, true, lf1, cu1, ac1, gn1) dr er pl un L.length ov tp tn rn vs bo ex1 wr ei dg wo pa ch fi) := hD
        have hl0 : ¬ lf1 = 0 := fun z => c2 ⟨rfl, z⟩
        obtain ⟨x, hxq⟩ : ∃ x, L[q]? = some x := ⟨_, List.getElem?_eq_getElem (by omega)⟩
        have ha := hact q x hxq
        rcases x with j | ⟨p0, g⟩
        · skip
          have ha : j < 11 ∧ er q = nI j := ha
          refine lv_aload_n (pc := 17) hx hb dX4_does_17 rfl (lv_at hl 1 rfl) ?_
          refine lv_iload_n (pc := 18) hx hb dX4_does_18 rfl (lv_at hl 0 rfl) ?_
          refine x_wrva (pc := 19) (va_runV (As := [.int (nI q)]) (rest := []) ⟨hx, hb, hml, hown, hts⟩ (kX4_actE l dC dI tt cI cB _ g0 g1 g2 g3 g4 g5 g6 g7 g8 g9 g10 g11 g12 g13 (F1, te1, dn1, true, lf1, cu1, ac1, gn1) dr er pl un L.length ov tp tn rn vs bo ex1 wr ei dg wo pa ch fi q j (by omega) ha.1 ha.2) (cwV 1 hts gX4_does_X4_act rfl rfl rfl (by decide +kernel) ⟨Nat.le_of_ble_eq_true rfl, Nat.le_of_ble_eq_true rfl⟩) (x_preVa hS hE hK hP hD (x_all hD hS hA) xR0 4 0 rfl rfl) rfl rfl hl.1 rfl (lv_room (Nat.le_of_ble_eq_true rfl)) dX4_does_19 ⟨Nat.le_of_ble_eq_true rfl, Nat.le_of_ble_eq_true rfl⟩) hS hA hD (fun u_1 H locs hu_1 hP hD hS => ?_)
          subst hu_1
          have hP : va_P (dC, dI) vwCl (gW g0 g1 g2 g3 g4 g5 g6 g7 g8 g9 g10 g11 g12 g13 cI cB (fillF F1 (j * 256) 256, upd te1 j (te1 j + nI 1), dn1, true, lf1, cu1, ac1, gn1) dr er pl un L.length ov tp tn rn vs bo ex1 wr ei dg wo pa ch fi) _ := hP
          have hD : va_D A (gW g0 g1 g2 g3 g4 g5 g6 g7 g8 g9 g10 g11 g12 g13 cI cB (fillF F1 (j * 256) 256, upd te1 j (te1 j + nI 1), dn1, true, lf1, cu1, ac1, gn1) dr er pl un L.length ov tp tn rn vs bo ex1 wr ei dg wo pa ch fi) := hD
          refine lv_aload_n (pc := 22) hx hb dX4_does_22 rfl (lv_at hl 1 rfl) ?_
          refine va_get (pc := 23) (D := (dC, dI)) (ci := 4) (v := .int (fz true lf1)) (C := RX4) (T := TX4) (N := 26) hx hb hts (by decide +kernel) hown hK hP 0 rfl rfl 13 (by decide) (hts (.fieldLink RX4 29 "ScratchSwapModel" "fuse" "I") (by decide +kernel)) (fun _ h9 => h9) rfl dX4_does_23 ?_
          refine lv_if_le (pc := 26) (tgt := 39) hx hb dX4_does_26 (by decide) (fun c3 => ?_) (fun c3 => ?_)
          · skip
            exact absurd ((nI_leI (b := 0) hlf1 (by decide)).mp c3) (by omega)
          · skip
            refine lv_aload_n (pc := 29) hx hb dX4_does_29 rfl (lv_at hl 1 rfl) ?_
            refine lv_dup (pc := 30) hx hb dX4_does_30 rfl ?_
            refine va_get (pc := 31) (D := (dC, dI)) (ci := 4) (v := .int (fz true lf1)) (C := RX4) (T := TX4) (N := 26) hx hb hts (by decide +kernel) hown hK hP 0 rfl rfl 13 (by decide) (hts (.fieldLink RX4 29 "ScratchSwapModel" "fuse" "I") (by decide +kernel)) (fun _ h9 => h9) rfl dX4_does_31 ?_
            refine lv_iconst (pc := 34) (v := nI 1) hx hb dX4_does_34 (by decide) ?_
            refine lv_isub (pc := 35) hx hb dX4_does_35 ?_
            refine lv_cv (show (fz true lf1) - (nI 1) = fz true (lf1 - 1) from pk_sub (a := lf1) (b := 1) (by omega)) ?_
            refine va_put (pc := 36) (D := (dC, dI)) (ci := 4) (v := .int (fz true (lf1 - 1))) (ty := .int) (C := RX4) (T := TX4) (N := 26) hx hb hts (by decide +kernel) tyX4 tyX4_ok nmX4 hown hK hP hD hS 0 rfl rfl 13 (by decide) (hts (.fieldLink RX4 29 "ScratchSwapModel" "fuse" "I") (by decide +kernel)) (fun _ h9 => h9) rfl (by decide +kernel) rfl rfl (Nat.le_of_ble_eq_true rfl) dX4_does_36 (fun H locs hP hD hS => ?_)
            have hP : va_P (dC, dI) vwCl (gW g0 g1 g2 g3 g4 g5 g6 g7 g8 g9 g10 g11 g12 g13 cI cB (fillF F1 (j * 256) 256, upd te1 j (te1 j + nI 1), dn1, true, lf1 - 1, cu1, ac1, gn1) dr er pl un L.length ov tp tn rn vs bo ex1 wr ei dg wo pa ch fi) _ := hP
            have hD : va_D A (gW g0 g1 g2 g3 g4 g5 g6 g7 g8 g9 g10 g11 g12 g13 cI cB (fillF F1 (j * 256) 256, upd te1 j (te1 j + nI 1), dn1, true, lf1 - 1, cu1, ac1, gn1) dr er pl un L.length ov tp tn rn vs bo ex1 wr ei dg wo pa ch fi) := hD
            refine lv_aload_n (pc := 39) hx hb dX4_does_39 rfl (lv_at hl 1 rfl) ?_
            refine lv_dup (pc := 40) hx hb dX4_does_40 rfl ?_
            refine va_get (pc := 41) (D := (dC, dI)) (ci := 4) (v := .int ac1) (C := RX4) (T := TX4) (N := 26) hx hb hts (by decide +kernel) hown hK hP 0 rfl rfl 12 (by decide) (hts (.fieldLink RX4 79 "ScratchSwapModel" "acts" "I") (by decide +kernel)) (fun _ h9 => h9) rfl dX4_does_41 ?_
            refine lv_iconst (pc := 44) (v := nI 1) hx hb dX4_does_44 (by decide) ?_
            refine lv_iadd (pc := 45) hx hb dX4_does_45 ?_
            refine va_put (pc := 46) (D := (dC, dI)) (ci := 4) (v := .int (ac1 + (nI 1))) (ty := .int) (C := RX4) (T := TX4) (N := 26) hx hb hts (by decide +kernel) tyX4 tyX4_ok nmX4 hown hK hP hD hS 0 rfl rfl 12 (by decide) (hts (.fieldLink RX4 79 "ScratchSwapModel" "acts" "I") (by decide +kernel)) (fun _ h9 => h9) rfl (by decide +kernel) rfl rfl (Nat.le_of_ble_eq_true rfl) dX4_does_46 (fun H locs hP hD hS => ?_)
            have hP : va_P (dC, dI) vwCl (gW g0 g1 g2 g3 g4 g5 g6 g7 g8 g9 g10 g11 g12 g13 cI cB (fillF F1 (j * 256) 256, upd te1 j (te1 j + nI 1), dn1, true, lf1 - 1, cu1, ac1 + (nI 1), gn1) dr er pl un L.length ov tp tn rn vs bo ex1 wr ei dg wo pa ch fi) _ := hP
            have hD : va_D A (gW g0 g1 g2 g3 g4 g5 g6 g7 g8 g9 g10 g11 g12 g13 cI cB (fillF F1 (j * 256) 256, upd te1 j (te1 j + nI 1), dn1, true, lf1 - 1, cu1, ac1 + (nI 1), gn1) dr er pl un L.length ov tp tn rn vs bo ex1 wr ei dg wo pa ch fi) := hD
            refine lv_iload_n (pc := 49) hx hb dX4_does_49 rfl (lv_at hl 0 rfl) ?_
            refine lv_aload_n (pc := 50) hx hb dX4_does_50 rfl (lv_at hl 1 rfl) ?_
            refine va_get (pc := 51) (D := (dC, dI)) (ci := 4) (v := .int ov) (C := RX4) (T := TX4) (N := 26) hx hb hts (by decide +kernel) hown hK hP 0 rfl rfl 6 (by decide) (hts (.fieldLink RX4 57 "ScratchSwapModel" "over" "I") (by decide +kernel)) (fun _ h9 => h9) rfl dX4_does_51 ?_
            refine lv_icmp_ne (pc := 54) (tgt := 67) hx hb dX4_does_54 (by decide) (fun c4 => ?_) (fun c4 => ?_)
            · skip
              refine lv_iinc (pc := 67) (v := nI (q + 1)) (lv' := [(1, .int (nI (q + 1))), (0, .ref g0)]) hx hb dX4_does_67 hl (k := 0) rfl (nI_inc q 1) (by decide) rfl (fun ls hl => ?_)
              refine lv_goto (pc := 70) (tgt := 2) hx hb dX4_does_70 (by decide) ?_
              have hka : kAct (.inl j) (F1, te1, dn1, true, lf1, cu1, ac1, gn1) = ((fillF F1 (j * 256) 256, upd te1 j (te1 j + nI 1), dn1, true, lf1 - 1, cu1, ac1 + (nI 1), gn1), true) := by rw [kAct_e c2]; rfl
              have hka2 : (kAct (.inl j) (F1, te1, dn1, true, lf1, cu1, ac1, gn1)).2 = true := by rw [hka]
              exact ih2 (q + 1, (fillF F1 (j * 256) 256, upd te1 j (te1 j + nI 1), dn1, true, lf1 - 1, cu1, ac1 + (nI 1), gn1), ex1) H locs ls ⟨by rw [hT0, drop_t hxq hka2, hka], by omega, by have h9 := kAct_ok (x := (.inl j)) hk1 hka2; rw [hka] at h9; exact h9, by rw [hex, if_neg (by omega), if_neg]; intro z; apply c4; rw [hov, ovV, if_pos z.1, ← z.2.2]; rfl⟩ (by first | omega | (simp only []; omega)) hP hD hS (lv_sub hl [0, 1] rfl)
            · skip
              have c5 : lb = true ∧ q + 1 = L.length := by
                cases lb with
                | true => exact ⟨rfl, by have h9 := (nI_eq (a := q) (b := L.length - 1) (by omega) (by omega)).mp (c4.trans hov); omega⟩
                | false => exact absurd (c4.trans hov) (by intro z; have h9 := congrArg Int32.toInt z; rw [nI_toInt (by omega)] at h9; exact absurd h9 (by show ¬ (q : Int) = -1; omega))
              refine lv_aload_n (pc := 57) hx hb dX4_does_57 rfl (lv_at hl 1 rfl) ?_
              refine lv_dup (pc := 58) hx hb dX4_does_58 rfl ?_
              refine va_get (pc := 59) (D := (dC, dI)) (ci := 4) (v := .int ex1) (C := RX4) (T := TX4) (N := 26) hx hb hts (by decide +kernel) hown hK hP 0 rfl rfl 16 (by decide) (hts (.fieldLink RX4 82 "ScratchSwapModel" "exchanges" "I") (by decide +kernel)) (fun _ h9 => h9) rfl dX4_does_59 ?_
              refine lv_iconst (pc := 62) (v := nI 1) hx hb dX4_does_62 (by decide) ?_
              refine lv_iadd (pc := 63) hx hb dX4_does_63 ?_
              refine va_put (pc := 64) (D := (dC, dI)) (ci := 4) (v := .int (ex1 + (nI 1))) (ty := .int) (C := RX4) (T := TX4) (N := 26) hx hb hts (by decide +kernel) tyX4 tyX4_ok nmX4 hown hK hP hD hS 0 rfl rfl 16 (by decide) (hts (.fieldLink RX4 82 "ScratchSwapModel" "exchanges" "I") (by decide +kernel)) (fun _ h9 => h9) rfl (by decide +kernel) rfl rfl (Nat.le_of_ble_eq_true rfl) dX4_does_64 (fun H locs hP hD hS => ?_)
              have hP : va_P (dC, dI) vwCl (gW g0 g1 g2 g3 g4 g5 g6 g7 g8 g9 g10 g11 g12 g13 cI cB (fillF F1 (j * 256) 256, upd te1 j (te1 j + nI 1), dn1, true, lf1 - 1, cu1, ac1 + (nI 1), gn1) dr er pl un L.length ov tp tn rn vs bo (ex1 + (nI 1)) wr ei dg wo pa ch fi) _ := hP
              have hD : va_D A (gW g0 g1 g2 g3 g4 g5 g6 g7 g8 g9 g10 g11 g12 g13 cI cB (fillF F1 (j * 256) 256, upd te1 j (te1 j + nI 1), dn1, true, lf1 - 1, cu1, ac1 + (nI 1), gn1) dr er pl un L.length ov tp tn rn vs bo (ex1 + (nI 1)) wr ei dg wo pa ch fi) := hD
              refine lv_iinc (pc := 67) (v := nI (q + 1)) (lv' := [(1, .int (nI (q + 1))), (0, .ref g0)]) hx hb dX4_does_67 hl (k := 0) rfl (nI_inc q 1) (by decide) rfl (fun ls hl => ?_)
              refine lv_goto (pc := 70) (tgt := 2) hx hb dX4_does_70 (by decide) ?_
              have hka : kAct (.inl j) (F1, te1, dn1, true, lf1, cu1, ac1, gn1) = ((fillF F1 (j * 256) 256, upd te1 j (te1 j + nI 1), dn1, true, lf1 - 1, cu1, ac1 + (nI 1), gn1), true) := by rw [kAct_e c2]; rfl
              have hka2 : (kAct (.inl j) (F1, te1, dn1, true, lf1, cu1, ac1, gn1)).2 = true := by rw [hka]
              exact ih2 (q + 1, (fillF F1 (j * 256) 256, upd te1 j (te1 j + nI 1), dn1, true, lf1 - 1, cu1, ac1 + (nI 1), gn1), ex1 + (nI 1)) H locs ls ⟨by rw [hT0, drop_t hxq hka2, hka], by omega, by have h9 := kAct_ok (x := (.inl j)) hk1 hka2; rw [hka] at h9; exact h9, by rw [hex, if_neg (by omega), if_pos ⟨c5.1, by omega, c5.2⟩]⟩ (by first | omega | (simp only []; omega)) hP hD hS (lv_sub hl [0, 1] rfl)
        · skip
          have ha : p0 + 8 ≤ 2816 ∧ er q = -1 ∧ pl q = nI p0 ∧ ∀ z, z < 8 → un (q * 8 + z) = g z := ha
          refine lv_aload_n (pc := 17) hx hb dX4_does_17 rfl (lv_at hl 1 rfl) ?_
          refine lv_iload_n (pc := 18) hx hb dX4_does_18 rfl (lv_at hl 0 rfl) ?_
          refine x_wrva (pc := 19) (va_runV (As := [.int (nI q)]) (rest := []) ⟨hx, hb, hml, hown, hts⟩ (kX4_actW l dC dI tt cI cB _ g0 g1 g2 g3 g4 g5 g6 g7 g8 g9 g10 g11 g12 g13 (F1, te1, dn1, true, lf1, cu1, ac1, gn1) dr er pl un L.length ov tp tn rn vs bo ex1 wr ei dg wo pa ch fi q p0 g (by omega) ha.1 ha.2.1 ha.2.2.1 ha.2.2.2) (cwV 1 hts gX4_does_X4_act rfl rfl rfl (by decide +kernel) ⟨Nat.le_of_ble_eq_true rfl, Nat.le_of_ble_eq_true rfl⟩) (x_preVa hS hE hK hP hD (x_all hD hS hA) xR0 4 0 rfl rfl) rfl rfl hl.1 rfl (lv_room (Nat.le_of_ble_eq_true rfl)) dX4_does_19 ⟨Nat.le_of_ble_eq_true rfl, Nat.le_of_ble_eq_true rfl⟩) hS hA hD (fun u_2 H locs hu_2 hP hD hS => ?_)
          subst hu_2
          have hP : va_P (dC, dI) vwCl (gW g0 g1 g2 g3 g4 g5 g6 g7 g8 g9 g10 g11 g12 g13 cI cB (andFn F1 p0 g 8, te1, dn1, true, lf1, cu1, ac1, gn1) dr er pl un L.length ov tp tn rn vs bo ex1 wr ei dg wo pa ch fi) _ := hP
          have hD : va_D A (gW g0 g1 g2 g3 g4 g5 g6 g7 g8 g9 g10 g11 g12 g13 cI cB (andFn F1 p0 g 8, te1, dn1, true, lf1, cu1, ac1, gn1) dr er pl un L.length ov tp tn rn vs bo ex1 wr ei dg wo pa ch fi) := hD
          refine lv_aload_n (pc := 22) hx hb dX4_does_22 rfl (lv_at hl 1 rfl) ?_
          refine va_get (pc := 23) (D := (dC, dI)) (ci := 4) (v := .int (fz true lf1)) (C := RX4) (T := TX4) (N := 26) hx hb hts (by decide +kernel) hown hK hP 0 rfl rfl 13 (by decide) (hts (.fieldLink RX4 29 "ScratchSwapModel" "fuse" "I") (by decide +kernel)) (fun _ h9 => h9) rfl dX4_does_23 ?_
          refine lv_if_le (pc := 26) (tgt := 39) hx hb dX4_does_26 (by decide) (fun c3 => ?_) (fun c3 => ?_)
          · skip
            exact absurd ((nI_leI (b := 0) hlf1 (by decide)).mp c3) (by omega)
          · skip
            refine lv_aload_n (pc := 29) hx hb dX4_does_29 rfl (lv_at hl 1 rfl) ?_
            refine lv_dup (pc := 30) hx hb dX4_does_30 rfl ?_
            refine va_get (pc := 31) (D := (dC, dI)) (ci := 4) (v := .int (fz true lf1)) (C := RX4) (T := TX4) (N := 26) hx hb hts (by decide +kernel) hown hK hP 0 rfl rfl 13 (by decide) (hts (.fieldLink RX4 29 "ScratchSwapModel" "fuse" "I") (by decide +kernel)) (fun _ h9 => h9) rfl dX4_does_31 ?_
            refine lv_iconst (pc := 34) (v := nI 1) hx hb dX4_does_34 (by decide) ?_
            refine lv_isub (pc := 35) hx hb dX4_does_35 ?_
            refine lv_cv (show (fz true lf1) - (nI 1) = fz true (lf1 - 1) from pk_sub (a := lf1) (b := 1) (by omega)) ?_
            refine va_put (pc := 36) (D := (dC, dI)) (ci := 4) (v := .int (fz true (lf1 - 1))) (ty := .int) (C := RX4) (T := TX4) (N := 26) hx hb hts (by decide +kernel) tyX4 tyX4_ok nmX4 hown hK hP hD hS 0 rfl rfl 13 (by decide) (hts (.fieldLink RX4 29 "ScratchSwapModel" "fuse" "I") (by decide +kernel)) (fun _ h9 => h9) rfl (by decide +kernel) rfl rfl (Nat.le_of_ble_eq_true rfl) dX4_does_36 (fun H locs hP hD hS => ?_)
            have hP : va_P (dC, dI) vwCl (gW g0 g1 g2 g3 g4 g5 g6 g7 g8 g9 g10 g11 g12 g13 cI cB (andFn F1 p0 g 8, te1, dn1, true, lf1 - 1, cu1, ac1, gn1) dr er pl un L.length ov tp tn rn vs bo ex1 wr ei dg wo pa ch fi) _ := hP
            have hD : va_D A (gW g0 g1 g2 g3 g4 g5 g6 g7 g8 g9 g10 g11 g12 g13 cI cB (andFn F1 p0 g 8, te1, dn1, true, lf1 - 1, cu1, ac1, gn1) dr er pl un L.length ov tp tn rn vs bo ex1 wr ei dg wo pa ch fi) := hD
            refine lv_aload_n (pc := 39) hx hb dX4_does_39 rfl (lv_at hl 1 rfl) ?_
            refine lv_dup (pc := 40) hx hb dX4_does_40 rfl ?_
            refine va_get (pc := 41) (D := (dC, dI)) (ci := 4) (v := .int ac1) (C := RX4) (T := TX4) (N := 26) hx hb hts (by decide +kernel) hown hK hP 0 rfl rfl 12 (by decide) (hts (.fieldLink RX4 79 "ScratchSwapModel" "acts" "I") (by decide +kernel)) (fun _ h9 => h9) rfl dX4_does_41 ?_
            refine lv_iconst (pc := 44) (v := nI 1) hx hb dX4_does_44 (by decide) ?_
            refine lv_iadd (pc := 45) hx hb dX4_does_45 ?_
            refine va_put (pc := 46) (D := (dC, dI)) (ci := 4) (v := .int (ac1 + (nI 1))) (ty := .int) (C := RX4) (T := TX4) (N := 26) hx hb hts (by decide +kernel) tyX4 tyX4_ok nmX4 hown hK hP hD hS 0 rfl rfl 12 (by decide) (hts (.fieldLink RX4 79 "ScratchSwapModel" "acts" "I") (by decide +kernel)) (fun _ h9 => h9) rfl (by decide +kernel) rfl rfl (Nat.le_of_ble_eq_true rfl) dX4_does_46 (fun H locs hP hD hS => ?_)
            have hP : va_P (dC, dI) vwCl (gW g0 g1 g2 g3 g4 g5 g6 g7 g8 g9 g10 g11 g12 g13 cI cB (andFn F1 p0 g 8, te1, dn1, true, lf1 - 1, cu1, ac1 + (nI 1), gn1) dr er pl un L.length ov tp tn rn vs bo ex1 wr ei dg wo pa ch fi) _ := hP
            have hD : va_D A (gW g0 g1 g2 g3 g4 g5 g6 g7 g8 g9 g10 g11 g12 g13 cI cB (andFn F1 p0 g 8, te1, dn1, true, lf1 - 1, cu1, ac1 + (nI 1), gn1) dr er pl un L.length ov tp tn rn vs bo ex1 wr ei dg wo pa ch fi) := hD
            refine lv_iload_n (pc := 49) hx hb dX4_does_49 rfl (lv_at hl 0 rfl) ?_
            refine lv_aload_n (pc := 50) hx hb dX4_does_50 rfl (lv_at hl 1 rfl) ?_
            refine va_get (pc := 51) (D := (dC, dI)) (ci := 4) (v := .int ov) (C := RX4) (T := TX4) (N := 26) hx hb hts (by decide +kernel) hown hK hP 0 rfl rfl 6 (by decide) (hts (.fieldLink RX4 57 "ScratchSwapModel" "over" "I") (by decide +kernel)) (fun _ h9 => h9) rfl dX4_does_51 ?_
            refine lv_icmp_ne (pc := 54) (tgt := 67) hx hb dX4_does_54 (by decide) (fun c4 => ?_) (fun c4 => ?_)
            · skip
              refine lv_iinc (pc := 67) (v := nI (q + 1)) (lv' := [(1, .int (nI (q + 1))), (0, .ref g0)]) hx hb dX4_does_67 hl (k := 0) rfl (nI_inc q 1) (by decide) rfl (fun ls hl => ?_)
              refine lv_goto (pc := 70) (tgt := 2) hx hb dX4_does_70 (by decide) ?_
              have hka : kAct (.inr (p0, g)) (F1, te1, dn1, true, lf1, cu1, ac1, gn1) = ((andFn F1 p0 g 8, te1, dn1, true, lf1 - 1, cu1, ac1 + (nI 1), gn1), true) := by rw [kAct_w c2]; rfl
              have hka2 : (kAct (.inr (p0, g)) (F1, te1, dn1, true, lf1, cu1, ac1, gn1)).2 = true := by rw [hka]
              exact ih2 (q + 1, (andFn F1 p0 g 8, te1, dn1, true, lf1 - 1, cu1, ac1 + (nI 1), gn1), ex1) H locs ls ⟨by rw [hT0, drop_t hxq hka2, hka], by omega, by have h9 := kAct_ok (x := (.inr (p0, g))) hk1 hka2; rw [hka] at h9; exact h9, by rw [hex, if_neg (by omega), if_neg]; intro z; apply c4; rw [hov, ovV, if_pos z.1, ← z.2.2]; rfl⟩ (by first | omega | (simp only []; omega)) hP hD hS (lv_sub hl [0, 1] rfl)
            · skip
              have c5 : lb = true ∧ q + 1 = L.length := by
                cases lb with
                | true => exact ⟨rfl, by have h9 := (nI_eq (a := q) (b := L.length - 1) (by omega) (by omega)).mp (c4.trans hov); omega⟩
                | false => exact absurd (c4.trans hov) (by intro z; have h9 := congrArg Int32.toInt z; rw [nI_toInt (by omega)] at h9; exact absurd h9 (by show ¬ (q : Int) = -1; omega))
              refine lv_aload_n (pc := 57) hx hb dX4_does_57 rfl (lv_at hl 1 rfl) ?_
              refine lv_dup (pc := 58) hx hb dX4_does_58 rfl ?_
              refine va_get (pc := 59) (D := (dC, dI)) (ci := 4) (v := .int ex1) (C := RX4) (T := TX4) (N := 26) hx hb hts (by decide +kernel) hown hK hP 0 rfl rfl 16 (by decide) (hts (.fieldLink RX4 82 "ScratchSwapModel" "exchanges" "I") (by decide +kernel)) (fun _ h9 => h9) rfl dX4_does_59 ?_
              refine lv_iconst (pc := 62) (v := nI 1) hx hb dX4_does_62 (by decide) ?_
              refine lv_iadd (pc := 63) hx hb dX4_does_63 ?_
              refine va_put (pc := 64) (D := (dC, dI)) (ci := 4) (v := .int (ex1 + (nI 1))) (ty := .int) (C := RX4) (T := TX4) (N := 26) hx hb hts (by decide +kernel) tyX4 tyX4_ok nmX4 hown hK hP hD hS 0 rfl rfl 16 (by decide) (hts (.fieldLink RX4 82 "ScratchSwapModel" "exchanges" "I") (by decide +kernel)) (fun _ h9 => h9) rfl (by decide +kernel) rfl rfl (Nat.le_of_ble_eq_true rfl) dX4_does_64 (fun H locs hP hD hS => ?_)
              have hP : va_P (dC, dI) vwCl (gW g0 g1 g2 g3 g4 g5 g6 g7 g8 g9 g10 g11 g12 g13 cI cB (andFn F1 p0 g 8, te1, dn1, true, lf1 - 1, cu1, ac1 + (nI 1), gn1) dr er pl un L.length ov tp tn rn vs bo (ex1 + (nI 1)) wr ei dg wo pa ch fi) _ := hP
              have hD : va_D A (gW g0 g1 g2 g3 g4 g5 g6 g7 g8 g9 g10 g11 g12 g13 cI cB (andFn F1 p0 g 8, te1, dn1, true, lf1 - 1, cu1, ac1 + (nI 1), gn1) dr er pl un L.length ov tp tn rn vs bo (ex1 + (nI 1)) wr ei dg wo pa ch fi) := hD
              refine lv_iinc (pc := 67) (v := nI (q + 1)) (lv' := [(1, .int (nI (q + 1))), (0, .ref g0)]) hx hb dX4_does_67 hl (k := 0) rfl (nI_inc q 1) (by decide) rfl (fun ls hl => ?_)
              refine lv_goto (pc := 70) (tgt := 2) hx hb dX4_does_70 (by decide) ?_
              have hka : kAct (.inr (p0, g)) (F1, te1, dn1, true, lf1, cu1, ac1, gn1) = ((andFn F1 p0 g 8, te1, dn1, true, lf1 - 1, cu1, ac1 + (nI 1), gn1), true) := by rw [kAct_w c2]; rfl
              have hka2 : (kAct (.inr (p0, g)) (F1, te1, dn1, true, lf1, cu1, ac1, gn1)).2 = true := by rw [hka]
              exact ih2 (q + 1, (andFn F1 p0 g 8, te1, dn1, true, lf1 - 1, cu1, ac1 + (nI 1), gn1), ex1 + (nI 1)) H locs ls ⟨by rw [hT0, drop_t hxq hka2, hka], by omega, by have h9 := kAct_ok (x := (.inr (p0, g))) hk1 hka2; rw [hka] at h9; exact h9, by rw [hex, if_neg (by omega), if_pos ⟨c5.1, by omega, c5.2⟩]⟩ (by first | omega | (simp only []; omega)) hP hD hS (lv_sub hl [0, 1] rfl)
      | false =>
        have hP : va_P (dC, dI) vwCl (gW g0 g1 g2 g3 g4 g5 g6 g7 g8 g9 g10 g11 g12 g13 cI cB (F1, te1, dn1, false, lf1, cu1, ac1, gn1) dr er pl un L.length ov tp tn rn vs bo ex1 wr ei dg wo pa ch fi) _ := hP
        have hD : va_D A (gW g0 g1 g2 g3 g4 g5 g6 g7 g8 g9 g10 g11 g12 g13 cI cB (F1, te1, dn1, false, lf1, cu1, ac1, gn1) dr er pl un L.length ov tp tn rn vs bo ex1 wr ei dg wo pa ch fi) := hD
        obtain ⟨x, hxq⟩ : ∃ x, L[q]? = some x := ⟨_, List.getElem?_eq_getElem (by omega)⟩
        have ha := hact q x hxq
        rcases x with j | ⟨p0, g⟩
        · skip
          have ha : j < 11 ∧ er q = nI j := ha
          refine lv_aload_n (pc := 17) hx hb dX4_does_17 rfl (lv_at hl 1 rfl) ?_
          refine lv_iload_n (pc := 18) hx hb dX4_does_18 rfl (lv_at hl 0 rfl) ?_
          refine x_wrva (pc := 19) (va_runV (As := [.int (nI q)]) (rest := []) ⟨hx, hb, hml, hown, hts⟩ (kX4_actE l dC dI tt cI cB _ g0 g1 g2 g3 g4 g5 g6 g7 g8 g9 g10 g11 g12 g13 (F1, te1, dn1, false, lf1, cu1, ac1, gn1) dr er pl un L.length ov tp tn rn vs bo ex1 wr ei dg wo pa ch fi q j (by omega) ha.1 ha.2) (cwV 1 hts gX4_does_X4_act rfl rfl rfl (by decide +kernel) ⟨Nat.le_of_ble_eq_true rfl, Nat.le_of_ble_eq_true rfl⟩) (x_preVa hS hE hK hP hD (x_all hD hS hA) xR0 4 0 rfl rfl) rfl rfl hl.1 rfl (lv_room (Nat.le_of_ble_eq_true rfl)) dX4_does_19 ⟨Nat.le_of_ble_eq_true rfl, Nat.le_of_ble_eq_true rfl⟩) hS hA hD (fun u_3 H locs hu_3 hP hD hS => ?_)
          subst hu_3
          have hP : va_P (dC, dI) vwCl (gW g0 g1 g2 g3 g4 g5 g6 g7 g8 g9 g10 g11 g12 g13 cI cB (fillF F1 (j * 256) 256, upd te1 j (te1 j + nI 1), dn1, false, lf1, cu1, ac1, gn1) dr er pl un L.length ov tp tn rn vs bo ex1 wr ei dg wo pa ch fi) _ := hP
          have hD : va_D A (gW g0 g1 g2 g3 g4 g5 g6 g7 g8 g9 g10 g11 g12 g13 cI cB (fillF F1 (j * 256) 256, upd te1 j (te1 j + nI 1), dn1, false, lf1, cu1, ac1, gn1) dr er pl un L.length ov tp tn rn vs bo ex1 wr ei dg wo pa ch fi) := hD
          refine lv_aload_n (pc := 22) hx hb dX4_does_22 rfl (lv_at hl 1 rfl) ?_
          refine va_get (pc := 23) (D := (dC, dI)) (ci := 4) (v := .int (fz false lf1)) (C := RX4) (T := TX4) (N := 26) hx hb hts (by decide +kernel) hown hK hP 0 rfl rfl 13 (by decide) (hts (.fieldLink RX4 29 "ScratchSwapModel" "fuse" "I") (by decide +kernel)) (fun _ h9 => h9) rfl dX4_does_23 ?_
          refine lv_if_le (pc := 26) (tgt := 39) hx hb dX4_does_26 (by decide) (fun c3 => ?_) (fun c3 => ?_)
          · skip
            refine lv_aload_n (pc := 39) hx hb dX4_does_39 rfl (lv_at hl 1 rfl) ?_
            refine lv_dup (pc := 40) hx hb dX4_does_40 rfl ?_
            refine va_get (pc := 41) (D := (dC, dI)) (ci := 4) (v := .int ac1) (C := RX4) (T := TX4) (N := 26) hx hb hts (by decide +kernel) hown hK hP 0 rfl rfl 12 (by decide) (hts (.fieldLink RX4 79 "ScratchSwapModel" "acts" "I") (by decide +kernel)) (fun _ h9 => h9) rfl dX4_does_41 ?_
            refine lv_iconst (pc := 44) (v := nI 1) hx hb dX4_does_44 (by decide) ?_
            refine lv_iadd (pc := 45) hx hb dX4_does_45 ?_
            refine va_put (pc := 46) (D := (dC, dI)) (ci := 4) (v := .int (ac1 + (nI 1))) (ty := .int) (C := RX4) (T := TX4) (N := 26) hx hb hts (by decide +kernel) tyX4 tyX4_ok nmX4 hown hK hP hD hS 0 rfl rfl 12 (by decide) (hts (.fieldLink RX4 79 "ScratchSwapModel" "acts" "I") (by decide +kernel)) (fun _ h9 => h9) rfl (by decide +kernel) rfl rfl (Nat.le_of_ble_eq_true rfl) dX4_does_46 (fun H locs hP hD hS => ?_)
            have hP : va_P (dC, dI) vwCl (gW g0 g1 g2 g3 g4 g5 g6 g7 g8 g9 g10 g11 g12 g13 cI cB (fillF F1 (j * 256) 256, upd te1 j (te1 j + nI 1), dn1, false, lf1, cu1, ac1 + (nI 1), gn1) dr er pl un L.length ov tp tn rn vs bo ex1 wr ei dg wo pa ch fi) _ := hP
            have hD : va_D A (gW g0 g1 g2 g3 g4 g5 g6 g7 g8 g9 g10 g11 g12 g13 cI cB (fillF F1 (j * 256) 256, upd te1 j (te1 j + nI 1), dn1, false, lf1, cu1, ac1 + (nI 1), gn1) dr er pl un L.length ov tp tn rn vs bo ex1 wr ei dg wo pa ch fi) := hD
            refine lv_iload_n (pc := 49) hx hb dX4_does_49 rfl (lv_at hl 0 rfl) ?_
            refine lv_aload_n (pc := 50) hx hb dX4_does_50 rfl (lv_at hl 1 rfl) ?_
            refine va_get (pc := 51) (D := (dC, dI)) (ci := 4) (v := .int ov) (C := RX4) (T := TX4) (N := 26) hx hb hts (by decide +kernel) hown hK hP 0 rfl rfl 6 (by decide) (hts (.fieldLink RX4 57 "ScratchSwapModel" "over" "I") (by decide +kernel)) (fun _ h9 => h9) rfl dX4_does_51 ?_
            refine lv_icmp_ne (pc := 54) (tgt := 67) hx hb dX4_does_54 (by decide) (fun c4 => ?_) (fun c4 => ?_)
            · skip
              refine lv_iinc (pc := 67) (v := nI (q + 1)) (lv' := [(1, .int (nI (q + 1))), (0, .ref g0)]) hx hb dX4_does_67 hl (k := 0) rfl (nI_inc q 1) (by decide) rfl (fun ls hl => ?_)
              refine lv_goto (pc := 70) (tgt := 2) hx hb dX4_does_70 (by decide) ?_
              have hka : kAct (.inl j) (F1, te1, dn1, false, lf1, cu1, ac1, gn1) = ((fillF F1 (j * 256) 256, upd te1 j (te1 j + nI 1), dn1, false, lf1, cu1, ac1 + (nI 1), gn1), true) := by rw [kAct_e c2]; rfl
              have hka2 : (kAct (.inl j) (F1, te1, dn1, false, lf1, cu1, ac1, gn1)).2 = true := by rw [hka]
              exact ih2 (q + 1, (fillF F1 (j * 256) 256, upd te1 j (te1 j + nI 1), dn1, false, lf1, cu1, ac1 + (nI 1), gn1), ex1) H locs ls ⟨by rw [hT0, drop_t hxq hka2, hka], by omega, by have h9 := kAct_ok (x := (.inl j)) hk1 hka2; rw [hka] at h9; exact h9, by rw [hex, if_neg (by omega), if_neg]; intro z; apply c4; rw [hov, ovV, if_pos z.1, ← z.2.2]; rfl⟩ (by first | omega | (simp only []; omega)) hP hD hS (lv_sub hl [0, 1] rfl)
            · skip
              have c5 : lb = true ∧ q + 1 = L.length := by
                cases lb with
                | true => exact ⟨rfl, by have h9 := (nI_eq (a := q) (b := L.length - 1) (by omega) (by omega)).mp (c4.trans hov); omega⟩
                | false => exact absurd (c4.trans hov) (by intro z; have h9 := congrArg Int32.toInt z; rw [nI_toInt (by omega)] at h9; exact absurd h9 (by show ¬ (q : Int) = -1; omega))
              refine lv_aload_n (pc := 57) hx hb dX4_does_57 rfl (lv_at hl 1 rfl) ?_
              refine lv_dup (pc := 58) hx hb dX4_does_58 rfl ?_
              refine va_get (pc := 59) (D := (dC, dI)) (ci := 4) (v := .int ex1) (C := RX4) (T := TX4) (N := 26) hx hb hts (by decide +kernel) hown hK hP 0 rfl rfl 16 (by decide) (hts (.fieldLink RX4 82 "ScratchSwapModel" "exchanges" "I") (by decide +kernel)) (fun _ h9 => h9) rfl dX4_does_59 ?_
              refine lv_iconst (pc := 62) (v := nI 1) hx hb dX4_does_62 (by decide) ?_
              refine lv_iadd (pc := 63) hx hb dX4_does_63 ?_
              refine va_put (pc := 64) (D := (dC, dI)) (ci := 4) (v := .int (ex1 + (nI 1))) (ty := .int) (C := RX4) (T := TX4) (N := 26) hx hb hts (by decide +kernel) tyX4 tyX4_ok nmX4 hown hK hP hD hS 0 rfl rfl 16 (by decide) (hts (.fieldLink RX4 82 "ScratchSwapModel" "exchanges" "I") (by decide +kernel)) (fun _ h9 => h9) rfl (by decide +kernel) rfl rfl (Nat.le_of_ble_eq_true rfl) dX4_does_64 (fun H locs hP hD hS => ?_)
              have hP : va_P (dC, dI) vwCl (gW g0 g1 g2 g3 g4 g5 g6 g7 g8 g9 g10 g11 g12 g13 cI cB (fillF F1 (j * 256) 256, upd te1 j (te1 j + nI 1), dn1, false, lf1, cu1, ac1 + (nI 1), gn1) dr er pl un L.length ov tp tn rn vs bo (ex1 + (nI 1)) wr ei dg wo pa ch fi) _ := hP
              have hD : va_D A (gW g0 g1 g2 g3 g4 g5 g6 g7 g8 g9 g10 g11 g12 g13 cI cB (fillF F1 (j * 256) 256, upd te1 j (te1 j + nI 1), dn1, false, lf1, cu1, ac1 + (nI 1), gn1) dr er pl un L.length ov tp tn rn vs bo (ex1 + (nI 1)) wr ei dg wo pa ch fi) := hD
              refine lv_iinc (pc := 67) (v := nI (q + 1)) (lv' := [(1, .int (nI (q + 1))), (0, .ref g0)]) hx hb dX4_does_67 hl (k := 0) rfl (nI_inc q 1) (by decide) rfl (fun ls hl => ?_)
              refine lv_goto (pc := 70) (tgt := 2) hx hb dX4_does_70 (by decide) ?_
              have hka : kAct (.inl j) (F1, te1, dn1, false, lf1, cu1, ac1, gn1) = ((fillF F1 (j * 256) 256, upd te1 j (te1 j + nI 1), dn1, false, lf1, cu1, ac1 + (nI 1), gn1), true) := by rw [kAct_e c2]; rfl
              have hka2 : (kAct (.inl j) (F1, te1, dn1, false, lf1, cu1, ac1, gn1)).2 = true := by rw [hka]
              exact ih2 (q + 1, (fillF F1 (j * 256) 256, upd te1 j (te1 j + nI 1), dn1, false, lf1, cu1, ac1 + (nI 1), gn1), ex1 + (nI 1)) H locs ls ⟨by rw [hT0, drop_t hxq hka2, hka], by omega, by have h9 := kAct_ok (x := (.inl j)) hk1 hka2; rw [hka] at h9; exact h9, by rw [hex, if_neg (by omega), if_pos ⟨c5.1, by omega, c5.2⟩]⟩ (by first | omega | (simp only []; omega)) hP hD hS (lv_sub hl [0, 1] rfl)
          · skip
            exact absurd (show (-1 : Int32) ≤ 0 by decide) c3
        · skip
          have ha : p0 + 8 ≤ 2816 ∧ er q = -1 ∧ pl q = nI p0 ∧ ∀ z, z < 8 → un (q * 8 + z) = g z := ha
          refine lv_aload_n (pc := 17) hx hb dX4_does_17 rfl (lv_at hl 1 rfl) ?_
          refine lv_iload_n (pc := 18) hx hb dX4_does_18 rfl (lv_at hl 0 rfl) ?_
          refine x_wrva (pc := 19) (va_runV (As := [.int (nI q)]) (rest := []) ⟨hx, hb, hml, hown, hts⟩ (kX4_actW l dC dI tt cI cB _ g0 g1 g2 g3 g4 g5 g6 g7 g8 g9 g10 g11 g12 g13 (F1, te1, dn1, false, lf1, cu1, ac1, gn1) dr er pl un L.length ov tp tn rn vs bo ex1 wr ei dg wo pa ch fi q p0 g (by omega) ha.1 ha.2.1 ha.2.2.1 ha.2.2.2) (cwV 1 hts gX4_does_X4_act rfl rfl rfl (by decide +kernel) ⟨Nat.le_of_ble_eq_true rfl, Nat.le_of_ble_eq_true rfl⟩) (x_preVa hS hE hK hP hD (x_all hD hS hA) xR0 4 0 rfl rfl) rfl rfl hl.1 rfl (lv_room (Nat.le_of_ble_eq_true rfl)) dX4_does_19 ⟨Nat.le_of_ble_eq_true rfl, Nat.le_of_ble_eq_true rfl⟩) hS hA hD (fun u_4 H locs hu_4 hP hD hS => ?_)
          subst hu_4
          have hP : va_P (dC, dI) vwCl (gW g0 g1 g2 g3 g4 g5 g6 g7 g8 g9 g10 g11 g12 g13 cI cB (andFn F1 p0 g 8, te1, dn1, false, lf1, cu1, ac1, gn1) dr er pl un L.length ov tp tn rn vs bo ex1 wr ei dg wo pa ch fi) _ := hP
          have hD : va_D A (gW g0 g1 g2 g3 g4 g5 g6 g7 g8 g9 g10 g11 g12 g13 cI cB (andFn F1 p0 g 8, te1, dn1, false, lf1, cu1, ac1, gn1) dr er pl un L.length ov tp tn rn vs bo ex1 wr ei dg wo pa ch fi) := hD
          refine lv_aload_n (pc := 22) hx hb dX4_does_22 rfl (lv_at hl 1 rfl) ?_
          refine va_get (pc := 23) (D := (dC, dI)) (ci := 4) (v := .int (fz false lf1)) (C := RX4) (T := TX4) (N := 26) hx hb hts (by decide +kernel) hown hK hP 0 rfl rfl 13 (by decide) (hts (.fieldLink RX4 29 "ScratchSwapModel" "fuse" "I") (by decide +kernel)) (fun _ h9 => h9) rfl dX4_does_23 ?_
          refine lv_if_le (pc := 26) (tgt := 39) hx hb dX4_does_26 (by decide) (fun c3 => ?_) (fun c3 => ?_)
          · skip
            refine lv_aload_n (pc := 39) hx hb dX4_does_39 rfl (lv_at hl 1 rfl) ?_
            refine lv_dup (pc := 40) hx hb dX4_does_40 rfl ?_
            refine va_get (pc := 41) (D := (dC, dI)) (ci := 4) (v := .int ac1) (C := RX4) (T := TX4) (N := 26) hx hb hts (by decide +kernel) hown hK hP 0 rfl rfl 12 (by decide) (hts (.fieldLink RX4 79 "ScratchSwapModel" "acts" "I") (by decide +kernel)) (fun _ h9 => h9) rfl dX4_does_41 ?_
            refine lv_iconst (pc := 44) (v := nI 1) hx hb dX4_does_44 (by decide) ?_
            refine lv_iadd (pc := 45) hx hb dX4_does_45 ?_
            refine va_put (pc := 46) (D := (dC, dI)) (ci := 4) (v := .int (ac1 + (nI 1))) (ty := .int) (C := RX4) (T := TX4) (N := 26) hx hb hts (by decide +kernel) tyX4 tyX4_ok nmX4 hown hK hP hD hS 0 rfl rfl 12 (by decide) (hts (.fieldLink RX4 79 "ScratchSwapModel" "acts" "I") (by decide +kernel)) (fun _ h9 => h9) rfl (by decide +kernel) rfl rfl (Nat.le_of_ble_eq_true rfl) dX4_does_46 (fun H locs hP hD hS => ?_)
            have hP : va_P (dC, dI) vwCl (gW g0 g1 g2 g3 g4 g5 g6 g7 g8 g9 g10 g11 g12 g13 cI cB (andFn F1 p0 g 8, te1, dn1, false, lf1, cu1, ac1 + (nI 1), gn1) dr er pl un L.length ov tp tn rn vs bo ex1 wr ei dg wo pa ch fi) _ := hP
            have hD : va_D A (gW g0 g1 g2 g3 g4 g5 g6 g7 g8 g9 g10 g11 g12 g13 cI cB (andFn F1 p0 g 8, te1, dn1, false, lf1, cu1, ac1 + (nI 1), gn1) dr er pl un L.length ov tp tn rn vs bo ex1 wr ei dg wo pa ch fi) := hD
            refine lv_iload_n (pc := 49) hx hb dX4_does_49 rfl (lv_at hl 0 rfl) ?_
            refine lv_aload_n (pc := 50) hx hb dX4_does_50 rfl (lv_at hl 1 rfl) ?_
            refine va_get (pc := 51) (D := (dC, dI)) (ci := 4) (v := .int ov) (C := RX4) (T := TX4) (N := 26) hx hb hts (by decide +kernel) hown hK hP 0 rfl rfl 6 (by decide) (hts (.fieldLink RX4 57 "ScratchSwapModel" "over" "I") (by decide +kernel)) (fun _ h9 => h9) rfl dX4_does_51 ?_
            refine lv_icmp_ne (pc := 54) (tgt := 67) hx hb dX4_does_54 (by decide) (fun c4 => ?_) (fun c4 => ?_)
            · skip
              refine lv_iinc (pc := 67) (v := nI (q + 1)) (lv' := [(1, .int (nI (q + 1))), (0, .ref g0)]) hx hb dX4_does_67 hl (k := 0) rfl (nI_inc q 1) (by decide) rfl (fun ls hl => ?_)
              refine lv_goto (pc := 70) (tgt := 2) hx hb dX4_does_70 (by decide) ?_
              have hka : kAct (.inr (p0, g)) (F1, te1, dn1, false, lf1, cu1, ac1, gn1) = ((andFn F1 p0 g 8, te1, dn1, false, lf1, cu1, ac1 + (nI 1), gn1), true) := by rw [kAct_w c2]; rfl
              have hka2 : (kAct (.inr (p0, g)) (F1, te1, dn1, false, lf1, cu1, ac1, gn1)).2 = true := by rw [hka]
              exact ih2 (q + 1, (andFn F1 p0 g 8, te1, dn1, false, lf1, cu1, ac1 + (nI 1), gn1), ex1) H locs ls ⟨by rw [hT0, drop_t hxq hka2, hka], by omega, by have h9 := kAct_ok (x := (.inr (p0, g))) hk1 hka2; rw [hka] at h9; exact h9, by rw [hex, if_neg (by omega), if_neg]; intro z; apply c4; rw [hov, ovV, if_pos z.1, ← z.2.2]; rfl⟩ (by first | omega | (simp only []; omega)) hP hD hS (lv_sub hl [0, 1] rfl)
            · skip
              have c5 : lb = true ∧ q + 1 = L.length := by
                cases lb with
                | true => exact ⟨rfl, by have h9 := (nI_eq (a := q) (b := L.length - 1) (by omega) (by omega)).mp (c4.trans hov); omega⟩
                | false => exact absurd (c4.trans hov) (by intro z; have h9 := congrArg Int32.toInt z; rw [nI_toInt (by omega)] at h9; exact absurd h9 (by show ¬ (q : Int) = -1; omega))
              refine lv_aload_n (pc := 57) hx hb dX4_does_57 rfl (lv_at hl 1 rfl) ?_
              refine lv_dup (pc := 58) hx hb dX4_does_58 rfl ?_
              refine va_get (pc := 59) (D := (dC, dI)) (ci := 4) (v := .int ex1) (C := RX4) (T := TX4) (N := 26) hx hb hts (by decide +kernel) hown hK hP 0 rfl rfl 16 (by decide) (hts (.fieldLink RX4 82 "ScratchSwapModel" "exchanges" "I") (by decide +kernel)) (fun _ h9 => h9) rfl dX4_does_59 ?_
              refine lv_iconst (pc := 62) (v := nI 1) hx hb dX4_does_62 (by decide) ?_
              refine lv_iadd (pc := 63) hx hb dX4_does_63 ?_
              refine va_put (pc := 64) (D := (dC, dI)) (ci := 4) (v := .int (ex1 + (nI 1))) (ty := .int) (C := RX4) (T := TX4) (N := 26) hx hb hts (by decide +kernel) tyX4 tyX4_ok nmX4 hown hK hP hD hS 0 rfl rfl 16 (by decide) (hts (.fieldLink RX4 82 "ScratchSwapModel" "exchanges" "I") (by decide +kernel)) (fun _ h9 => h9) rfl (by decide +kernel) rfl rfl (Nat.le_of_ble_eq_true rfl) dX4_does_64 (fun H locs hP hD hS => ?_)
              have hP : va_P (dC, dI) vwCl (gW g0 g1 g2 g3 g4 g5 g6 g7 g8 g9 g10 g11 g12 g13 cI cB (andFn F1 p0 g 8, te1, dn1, false, lf1, cu1, ac1 + (nI 1), gn1) dr er pl un L.length ov tp tn rn vs bo (ex1 + (nI 1)) wr ei dg wo pa ch fi) _ := hP
              have hD : va_D A (gW g0 g1 g2 g3 g4 g5 g6 g7 g8 g9 g10 g11 g12 g13 cI cB (andFn F1 p0 g 8, te1, dn1, false, lf1, cu1, ac1 + (nI 1), gn1) dr er pl un L.length ov tp tn rn vs bo (ex1 + (nI 1)) wr ei dg wo pa ch fi) := hD
              refine lv_iinc (pc := 67) (v := nI (q + 1)) (lv' := [(1, .int (nI (q + 1))), (0, .ref g0)]) hx hb dX4_does_67 hl (k := 0) rfl (nI_inc q 1) (by decide) rfl (fun ls hl => ?_)
              refine lv_goto (pc := 70) (tgt := 2) hx hb dX4_does_70 (by decide) ?_
              have hka : kAct (.inr (p0, g)) (F1, te1, dn1, false, lf1, cu1, ac1, gn1) = ((andFn F1 p0 g 8, te1, dn1, false, lf1, cu1, ac1 + (nI 1), gn1), true) := by rw [kAct_w c2]; rfl
              have hka2 : (kAct (.inr (p0, g)) (F1, te1, dn1, false, lf1, cu1, ac1, gn1)).2 = true := by rw [hka]
              exact ih2 (q + 1, (andFn F1 p0 g 8, te1, dn1, false, lf1, cu1, ac1 + (nI 1), gn1), ex1 + (nI 1)) H locs ls ⟨by rw [hT0, drop_t hxq hka2, hka], by omega, by have h9 := kAct_ok (x := (.inr (p0, g))) hk1 hka2; rw [hka] at h9; exact h9, by rw [hex, if_neg (by omega), if_pos ⟨c5.1, by omega, c5.2⟩]⟩ (by first | omega | (simp only []; omega)) hP hD hS (lv_sub hl [0, 1] rfl)
          · skip
            exact absurd (show (-1 : Int32) ≤ 0 by decide) c3
