/-- what is copied isn't what was erased -/
theorem copyL_e (F G : Nat → Int8) {src dst : Nat} (hne : src ≠ dst) (h : G = fillF F (dst * 256) 256) : ∀ {c u : Nat}, u + c ≤ 32 → copyL F src dst c u = copyL G src dst c u := by
  intro c
  induction c with
  | zero => intro u _; rfl
  | succ c ih =>
    intro u hu
    rw [copyL_s, copyL_s, ih (by omega), unitG_c (F := F) (G := G) (fun i h1 h2 => by rw [h]; unfold fillF; rw [if_neg (by omega)])]
set_option maxHeartbeats 4000000 in
set_option maxRecDepth 100000 in
theorem kX4_lists (l : Launch) (dC : Nat → ClassId) (dI : Nat → Nat → Nat) (tt : Nat → Nat) (cI cB : ClassId) (sz : Nat) (g0 g1 g2 g3 g4 g5 g6 g7 g8 g9 g10 g11 g12 g13 : Nat) (k : K0) (dr : Nat → Int8) (er pl : Nat → Int32) (un : Nat → Int8) (li : Nat) (ov : Int32) (tp : Nat → Int8) (tn : Nat) (rn : Bool) (vs bo ex wr : Int32) (ei dg : Nat → Int8) (wo : Nat → Int32) (pa : Nat → Int8) (ch fi : Nat → Int32) (L : List Act) (kd : Nat) (hL : lstR L er pl un li) (hli : li + 420 < 700) (hkd0 : kd = setN dr (4 * 256 + 1 * 8)) (hkp : 1 ≤ kd) (hkl : kd ≤ 3) : MetV (S := ((Nat → Int8) × (Nat → Int32) × (Nat → Int32) × (Nat → Int8) × Nat × (Nat → Int8) × Int32)) l yX4_lists wsX4_lists { frames := 3, cells := 0, slots := 0, locals := 69 } (dC, dI) [(cI, .int), (cB, .byte)] tt [] sz (gW g0 g1 g2 g3 g4 g5 g6 g7 g8 g9 g10 g11 g12 g13 cI cB k dr er pl un li ov tp tn rn vs bo ex wr ei dg wo pa ch fi) [.ref g0, .int (nI kd)] (fun u : ((Nat → Int8) × (Nat → Int32) × (Nat → Int32) × (Nat → Int8) × Nat × (Nat → Int8) × Int32) => gW g0 g1 g2 g3 g4 g5 g6 g7 g8 g9 g10 g11 g12 g13 cI cB k u.1 u.2.1 u.2.2.1 u.2.2.2.1 u.2.2.2.2.1 u.2.2.2.2.2.2 tp tn rn vs bo ex wr u.2.2.2.2.2.1 dg wo pa ch fi) (fun u => lstR (L ++ resL dr) u.2.1 u.2.2.1 u.2.2.2.1 u.2.2.2.2.1 ∧ u.2.2.2.2.2.2 = nI ((L ++ resL dr).length - 1) ∧ u.2.2.2.2.1 ≤ li + 412) := by
  refine Met.ofW (cc := cX4_lists) (maxL := 6) (ret := none) (by decide) rfl ?_
  intro p e s m args below meth c s₁ B hml hv
  obtain ⟨rfl, hsz, hP, hK, hD0, hE⟩ := hv
  have hx := B.exec
  have hb := B.bytes
  have hr := B.returns
  have hts := atoms_spec (ws := wsX4_lists) B.pre
  have hown : s.vm.findClass RX4 = some m.cls := findClass_of_methodNamed B.named
  have hlocks := B.notSynchronized
  subst hsz
  have hD := hD0.self (sz := s.heap.size)
  generalize hAe : va_A (gW g0 g1 g2 g3 g4 g5 g6 g7 g8 g9 g10 g11 g12 g13 cI cB k dr er pl un li ov tp tn rn vs bo ex wr ei dg wo pa ch fi) s.heap.size = A at hD hE ⊢
  have hA : ∀ q : Nat, s.heap.size ≤ q → A q := fun q h => by rw [← hAe]; exact Or.inr h
  have hS : va_S A s.heap s.heap [] := va_S.rf
  have hl := lv_entry ([.ref g0, .int (nI kd)]) (n := 6) (Nat.le_of_ble_eq_true rfl)
  rw [lg_entry_eq]
  generalize (lg_sl ([.ref g0, .int (nI kd)]) ++ List.replicate (6 - (lg_sl ([.ref g0, .int (nI kd)])).length) Slot.unset).toArray = ls at hl ⊢
  have hl : lv_has ls 6 [(0, .ref g0), (1, .int (nI kd))] := hl
  have hP : va_P (dC, dI) vwCl (gW g0 g1 g2 g3 g4 g5 g6 g7 g8 g9 g10 g11 g12 g13 cI cB k dr er pl un li ov tp tn rn vs bo ex wr ei dg wo pa ch fi) s.heap := hP
  refine lv_iconst (pc := 0) (v := nI 3) hx hb dX4_lists_0 (by decide) ?_
  refine lv_istore_n (pc := 1) (lv' := [(2, .int (nI 3)), (0, .ref g0), (1, .int (nI kd))]) hx hb dX4_lists_1 rfl hl (by decide) rfl (fun ls hl => ?_)
  have hl : lv_has ls 6 [(2, .int (nI 4 - nI 1)), (0, .ref g0), (1, .int (nI kd))] := by rw [show nI 4 - nI 1 = nI 3 from nI_sub1 3]; exact hl
  refine x_loop (σ := (Nat) × (List Act) × (Nat → Int8) × (Nat → Int32) × (Nat → Int32) × (Nat → Int8) × (Nat) × (Nat → Int8)) (Wd := fun x : (Nat) × (List Act) × (Nat → Int8) × (Nat → Int32) × (Nat → Int32) × (Nat → Int8) × (Nat) × (Nat → Int8) => match x with | (d, L1, dr1, er1, pl1, un1, li1, ei1) => gW g0 g1 g2 g3 g4 g5 g6 g7 g8 g9 g10 g11 g12 g13 cI cB k dr1 er1 pl1 un1 li1 ov tp tn rn vs bo ex wr ei1 dg wo pa ch fi) (Lv := fun x : (Nat) × (List Act) × (Nat → Int8) × (Nat → Int32) × (Nat → Int32) × (Nat → Int8) × (Nat) × (Nat → Int8) => match x with | (d, L1, dr1, er1, pl1, un1, li1, ei1) => [(2, .int (nI d - nI 1)), (0, .ref g0), (1, .int (nI kd))]) (I := fun x : (Nat) × (List Act) × (Nat → Int8) × (Nat → Int32) × (Nat → Int32) × (Nat → Int8) × (Nat) × (Nat → Int8) => match x with | (d, L1, dr1, er1, pl1, un1, li1, ei1) => (L ++ exL 4 dr = L1 ++ exL d dr1) ∧ (appL (exL 4 dr) dr = appL (exL d dr1) dr1) ∧ (lstR L1 er1 pl1 un1 li1) ∧ (d ≤ 4) ∧ (li1 + 34 * (3 * d) ≤ li + 408)) (μ := fun x : (Nat) × (List Act) × (Nat → Int8) × (Nat → Int32) × (Nat → Int32) × (Nat → Int8) × (Nat) × (Nat → Int8) => match x with | (d, L1, dr1, er1, pl1, un1, li1, ei1) => d) ?_ (4, L, dr, er, pl, un, li, ei) ⟨rfl, rfl, hL, by omega, by omega⟩ hP hD hS (lv_sub hl [0, 1, 2] rfl)
  intro x H locs ls hI hP hD hS hl ih2
  obtain ⟨d, L1, dr1, er1, pl1, un1, li1, ei1⟩ := x
  obtain ⟨hT, hA1, hL1, hd, hli1⟩ : (L ++ exL 4 dr = L1 ++ exL d dr1) ∧ (appL (exL 4 dr) dr = appL (exL d dr1) dr1) ∧ (lstR L1 er1 pl1 un1 li1) ∧ (d ≤ 4) ∧ (li1 + 34 * (3 * d) ≤ li + 408) := hI
  have hP : va_P (dC, dI) vwCl (gW g0 g1 g2 g3 g4 g5 g6 g7 g8 g9 g10 g11 g12 g13 cI cB k dr1 er1 pl1 un1 li1 ov tp tn rn vs bo ex wr ei1 dg wo pa ch fi) _ := hP
  have hD : va_D A (gW g0 g1 g2 g3 g4 g5 g6 g7 g8 g9 g10 g11 g12 g13 cI cB k dr1 er1 pl1 un1 li1 ov tp tn rn vs bo ex wr ei1 dg wo pa ch fi) := hD
  have hl : lv_has ls 6 [(2, .int (nI d - nI 1)), (0, .ref g0), (1, .int (nI kd))] := hl
  refine lv_iload_n (pc := 2) hx hb dX4_lists_2 rfl (lv_at hl 0 rfl) ?_
  refine lv_if_lt (pc := 3) (tgt := 114) hx hb dX4_lists_3 (by decide) (fun c1 => ?_) (fun c1 => ?_)
  · skip
    have c1 : d = 0 := (nI_neg1 (by omega)).mp c1
    subst c1
    have hTL : L1 = L ++ exL 4 dr := by rw [hT, show exL 0 dr1 = [] from rfl, List.append_nil]
    have hAL : dr1 = appL (exL 4 dr) dr := hA1.symm
    rw [hTL] at hL1
    refine lv_aload_n (pc := 114) hx hb dX4_lists_114 rfl (lv_at hl 1 rfl) ?_
    refine lv_bipush (pc := 115) (v := nI 9) hx hb dX4_lists_115 (by decide) ?_
    refine x_wrva (pc := 117) (va_runV (As := [.int (nI 9)]) (rest := []) ⟨hx, hb, hml, hown, hts⟩ (kX4_erase l dC dI tt cI cB _ g0 g1 g2 g3 g4 g5 g6 g7 g8 g9 g10 g11 g12 g13 k dr1 er1 pl1 un1 li1 ov tp tn rn vs bo ex wr ei1 dg wo pa ch fi (L ++ exL 4 dr) 9 hL1 (by omega) (by omega)) (cwV 1 hts gX4_lists_X4_erase rfl rfl rfl (by decide +kernel) ⟨Nat.le_of_ble_eq_true rfl, Nat.le_of_ble_eq_true rfl⟩) (x_preVa hS hE hK hP hD (x_all hD hS hA) xR0 4 0 rfl rfl) rfl rfl hl.1 rfl (lv_room (Nat.le_of_ble_eq_true rfl)) dX4_lists_117 ⟨Nat.le_of_ble_eq_true rfl, Nat.le_of_ble_eq_true rfl⟩) hS hA hD (fun u_1 H locs hu_1 hP hD hS => ?_)
    obtain ⟨dr_2, er_3, pl_4, un_5, li_6⟩ := u_1
    obtain ⟨hL_7, hd_8⟩ : lstR ((L ++ exL 4 dr) ++ ([Sum.inl 9])) er_3 pl_4 un_5 li_6 ∧ dr_2 = fillF dr1 (9 * 256) 256 := hu_1
    have hP : va_P (dC, dI) vwCl (gW g0 g1 g2 g3 g4 g5 g6 g7 g8 g9 g10 g11 g12 g13 cI cB k dr_2 er_3 pl_4 un_5 li_6 ov tp tn rn vs bo ex wr ei1 dg wo pa ch fi) _ := hP
    have hD : va_D A (gW g0 g1 g2 g3 g4 g5 g6 g7 g8 g9 g10 g11 g12 g13 cI cB k dr_2 er_3 pl_4 un_5 li_6 ov tp tn rn vs bo ex wr ei1 dg wo pa ch fi) := hD
    have hlen_li_6 : li_6 = li1 + 1 := by rw [hL_7.1, List.length_append, ← hL1.1]; rfl
    have hd9 : dr_2 = appL [Sum.inl 9] (appL (exL 4 dr) dr) := by rw [hd_8, hAL]; rfl
    refine lv_iload_n (pc := 120) hx hb dX4_lists_120 rfl (lv_at hl 2 rfl) ?_
    refine lv_iconst (pc := 121) (v := nI 1) hx hb dX4_lists_121 (by decide) ?_
    refine lv_icmp_le (pc := 122) (tgt := 144) hx hb dX4_lists_122 (by decide) (fun cp => ?_) (fun cp => ?_)
    · skip
      have cp : kd ≤ 1 := (nI_leI (a := kd) (b := 1) (by omega) (by omega)).mp cp
      refine lv_aload_n (pc := 144) hx hb dX4_lists_144 rfl (lv_at hl 1 rfl) ?_
      refine lv_iconst (pc := 145) (v := nI 4) hx hb dX4_lists_145 (by decide) ?_
      refine x_wrva (pc := 146) (va_runV (As := [.int (nI 4)]) (rest := []) ⟨hx, hb, hml, hown, hts⟩ (kX4_magic l dC dI tt cI cB _ g0 g1 g2 g3 g4 g5 g6 g7 g8 g9 g10 g11 g12 g13 k dr_2 er_3 pl_4 un_5 li_6 ov tp tn rn vs bo ex wr ei1 dg wo pa ch fi ((L ++ exL 4 dr) ++ ([Sum.inl 9])) 4 hL_7 (by omega) (by omega)) (cwV 1 hts gX4_lists_X4_magic rfl rfl rfl (by decide +kernel) ⟨Nat.le_of_ble_eq_true rfl, Nat.le_of_ble_eq_true rfl⟩) (x_preVa hS hE hK hP hD (x_all hD hS hA) xR0 4 0 rfl rfl) rfl rfl hl.1 rfl (lv_room (Nat.le_of_ble_eq_true rfl)) dX4_lists_146 ⟨Nat.le_of_ble_eq_true rfl, Nat.le_of_ble_eq_true rfl⟩) hS hA hD (fun u_9 H locs hu_9 hP hD hS => ?_)
      obtain ⟨dr_10, er_11, pl_12, un_13, li_14, ei_15⟩ := u_9
      obtain ⟨hL_16, hd_17⟩ : lstR (((L ++ exL 4 dr) ++ ([Sum.inl 9])) ++ (magL (4 * 256 + 0 * 8))) er_11 pl_12 un_13 li_14 ∧ dr_10 = appL (magL (4 * 256 + 0 * 8)) dr_2 := hu_9
      have hP : va_P (dC, dI) vwCl (gW g0 g1 g2 g3 g4 g5 g6 g7 g8 g9 g10 g11 g12 g13 cI cB k dr_10 er_11 pl_12 un_13 li_14 ov tp tn rn vs bo ex wr ei_15 dg wo pa ch fi) _ := hP
      have hD : va_D A (gW g0 g1 g2 g3 g4 g5 g6 g7 g8 g9 g10 g11 g12 g13 cI cB k dr_10 er_11 pl_12 un_13 li_14 ov tp tn rn vs bo ex wr ei_15 dg wo pa ch fi) := hD
      have hlen_li_14 : li_14 = li_6 + 1 := by rw [hL_16.1, List.length_append, ← hL_7.1]; rfl
      refine lv_aload_n (pc := 149) hx hb dX4_lists_149 rfl (lv_at hl 1 rfl) ?_
      refine lv_aload_n (pc := 150) hx hb dX4_lists_150 rfl (lv_at hl 1 rfl) ?_
      refine va_get (pc := 151) (D := (dC, dI)) (ci := 4) (v := .int (nI li_14)) (C := RX4) (T := TX4) (N := 26) hx hb hts (by decide +kernel) hown hK hP 0 rfl rfl 5 (by decide) (hts (.fieldLink RX4 54 "ScratchSwapModel" "listed" "I") (by decide +kernel)) (fun _ h9 => h9) rfl dX4_lists_151 ?_
      refine va_put (pc := 154) (D := (dC, dI)) (ci := 4) (v := .int (nI li_14)) (ty := .int) (C := RX4) (T := TX4) (N := 26) hx hb hts (by decide +kernel) tyX4 tyX4_ok nmX4 hown hK hP hD hS 0 rfl rfl 6 (by decide) (hts (.fieldLink RX4 57 "ScratchSwapModel" "over" "I") (by decide +kernel)) (fun _ h9 => h9) rfl (by decide +kernel) rfl rfl (Nat.le_of_ble_eq_true rfl) dX4_lists_154 (fun H locs hP hD hS => ?_)
      have hP : va_P (dC, dI) vwCl (gW g0 g1 g2 g3 g4 g5 g6 g7 g8 g9 g10 g11 g12 g13 cI cB k dr_10 er_11 pl_12 un_13 li_14 (nI li_14) tp tn rn vs bo ex wr ei_15 dg wo pa ch fi) _ := hP
      have hD : va_D A (gW g0 g1 g2 g3 g4 g5 g6 g7 g8 g9 g10 g11 g12 g13 cI cB k dr_10 er_11 pl_12 un_13 li_14 (nI li_14) tp tn rn vs bo ex wr ei_15 dg wo pa ch fi) := hD
      refine lv_aload_n (pc := 157) hx hb dX4_lists_157 rfl (lv_at hl 1 rfl) ?_
      refine lv_iconst (pc := 158) (v := nI 4) hx hb dX4_lists_158 (by decide) ?_
      refine lv_iconst (pc := 159) (v := nI 2) hx hb dX4_lists_159 (by decide) ?_
      refine lv_iconst (pc := 160) (v := nI 1) hx hb dX4_lists_160 (by decide) ?_
      refine x_wrva (pc := 161) (va_runV (As := [.int (nI 4), .int (nI 2), .int (nI 1)]) (rest := []) ⟨hx, hb, hml, hown, hts⟩ (kX4_mark l dC dI tt cI cB _ g0 g1 g2 g3 g4 g5 g6 g7 g8 g9 g10 g11 g12 g13 k dr_10 er_11 pl_12 un_13 li_14 (nI li_14) tp tn rn vs bo ex wr ei_15 dg wo pa ch fi (((L ++ exL 4 dr) ++ ([Sum.inl 9])) ++ (magL (4 * 256 + 0 * 8))) 4 2 (nI 1) hL_16 (by omega) (by omega)) (cwV 3 hts gX4_lists_X4_mark rfl rfl rfl (by decide +kernel) ⟨Nat.le_of_ble_eq_true rfl, Nat.le_of_ble_eq_true rfl⟩) (x_preVa hS hE hK hP hD (x_all hD hS hA) xR0 4 0 rfl rfl) rfl rfl hl.1 rfl (lv_room (Nat.le_of_ble_eq_true rfl)) dX4_lists_161 ⟨Nat.le_of_ble_eq_true rfl, Nat.le_of_ble_eq_true rfl⟩) hS hA hD (fun u_18 H locs hu_18 hP hD hS => ?_)
      obtain ⟨dr_19, er_20, pl_21, un_22, li_23, ei_24⟩ := u_18
      obtain ⟨hL_25, hd_26⟩ : lstR ((((L ++ exL 4 dr) ++ ([Sum.inl 9])) ++ (magL (4 * 256 + 0 * 8))) ++ (markL (4 * 256 + 2 * 8) (nI 1))) er_20 pl_21 un_22 li_23 ∧ dr_19 = appL (markL (4 * 256 + 2 * 8) (nI 1)) dr_10 := hu_18
      have hP : va_P (dC, dI) vwCl (gW g0 g1 g2 g3 g4 g5 g6 g7 g8 g9 g10 g11 g12 g13 cI cB k dr_19 er_20 pl_21 un_22 li_23 (nI li_14) tp tn rn vs bo ex wr ei_24 dg wo pa ch fi) _ := hP
      have hD : va_D A (gW g0 g1 g2 g3 g4 g5 g6 g7 g8 g9 g10 g11 g12 g13 cI cB k dr_19 er_20 pl_21 un_22 li_23 (nI li_14) tp tn rn vs bo ex wr ei_24 dg wo pa ch fi) := hD
      have hlen_li_23 : li_23 = li_14 + 1 := by rw [hL_25.1, List.length_append, ← hL_16.1]; rfl
      have hks : setN (appL [Sum.inl 9] (appL (exL 4 dr) dr)) (4 * 256 + 1 * 8) = kd := by rw [set_keep keepT.era, set_keep (keepT.ex dr (by omega)), ← hkd0]
      have hLL : (((L ++ exL 4 dr) ++ ([Sum.inl 9])) ++ (magL (4 * 256 + 0 * 8))) ++ (markL (4 * 256 + 2 * 8) (nI 1)) = L ++ resL dr := by rw [resL, endL, okL, if_pos (by rw [hks]; first | exact Or.inl (by omega) | exact Or.inr cq)]; simp only [List.append_assoc, List.nil_append]
      have hfin := hL_25
      rw [hLL] at hfin
      exact W.vret hx hb hr (fun t ht hW => ⟨⟨(dr_19, er_20, pl_21, un_22, li_23, ei_24, nI li_14), rfl, ⟨hfin, by show nI _ = nI _; rw [← hfin.1]; congr 1; omega, by show li_23 ≤ _; omega⟩, by show va_P _ _ _ t.heap; rw [ht]; exact hP, va_K.moved hW.alike hK, hD⟩, hS.F ht⟩) hS.2.2 dX4_lists_164
    · skip
      have cp : ¬ kd ≤ 1 := fun z => cp ((nI_leI (a := kd) (b := 1) (by omega) (by omega)).mpr z)
      refine lv_aload_n (pc := 125) hx hb dX4_lists_125 rfl (lv_at hl 1 rfl) ?_
      refine va_get (pc := 126) (D := (dC, dI)) (ci := 4) (v := .ref g2) (C := RX4) (T := TX4) (N := 26) hx hb hts (by decide +kernel) hown hK hP 0 rfl rfl 1 (by decide) (hts (.fieldLink RX4 13 "ScratchSwapModel" "draft" "[B") (by decide +kernel)) (fun _ h9 => h9) rfl dX4_lists_126 ?_
      refine lv_iconst (pc := 129) (v := nI 4) hx hb dX4_lists_129 (by decide) ?_
      refine lv_iconst (pc := 130) (v := nI 3) hx hb dX4_lists_130 (by decide) ?_
      refine x_roi (pc := 131) (va_runS (As := [.ref g2, .int (nI 4), .int (nI 3)]) (rest := []) ⟨hx, hb, hml, hown, hts⟩ (kX4_isSet l dC dI tt cI cB _ g2 2816 dr_2 4 3 (by omega) (by omega)) (va_cwS 3 hts gX4_lists_X4_isSet rfl rfl rfl (by decide +kernel) ⟨Nat.le_of_ble_eq_true rfl, Nat.le_of_ble_eq_true rfl⟩) (x_preS hS hE hK hP hD [2] rfl (by decide) (x_ro hS hA) xR0) rfl rfl hl.1 rfl (lv_room (Nat.le_of_ble_eq_true rfl)) dX4_lists_131 ⟨Nat.le_of_ble_eq_true rfl, Nat.le_of_ble_eq_true rfl⟩) hS hA hP (fun r_27 H locs hr_27 hP hS => ?_)
      subst hr_27
      refine lv_if_ne (pc := 134) (tgt := 144) hx hb dX4_lists_134 (by decide) (fun cq => ?_) (fun cq => ?_)
      · skip
        have cq : (mkB dr_2 (4 * 256 + 3 * 8)) = true := bI_1.mp cq
        rw [hd9] at cq
        refine lv_aload_n (pc := 144) hx hb dX4_lists_144 rfl (lv_at hl 1 rfl) ?_
        refine lv_iconst (pc := 145) (v := nI 4) hx hb dX4_lists_145 (by decide) ?_
        refine x_wrva (pc := 146) (va_runV (As := [.int (nI 4)]) (rest := []) ⟨hx, hb, hml, hown, hts⟩ (kX4_magic l dC dI tt cI cB _ g0 g1 g2 g3 g4 g5 g6 g7 g8 g9 g10 g11 g12 g13 k dr_2 er_3 pl_4 un_5 li_6 ov tp tn rn vs bo ex wr ei1 dg wo pa ch fi ((L ++ exL 4 dr) ++ ([Sum.inl 9])) 4 hL_7 (by omega) (by omega)) (cwV 1 hts gX4_lists_X4_magic rfl rfl rfl (by decide +kernel) ⟨Nat.le_of_ble_eq_true rfl, Nat.le_of_ble_eq_true rfl⟩) (x_preVa hS hE hK hP hD (x_all hD hS hA) xR0 4 0 rfl rfl) rfl rfl hl.1 rfl (lv_room (Nat.le_of_ble_eq_true rfl)) dX4_lists_146 ⟨Nat.le_of_ble_eq_true rfl, Nat.le_of_ble_eq_true rfl⟩) hS hA hD (fun u_28 H locs hu_28 hP hD hS => ?_)
        obtain ⟨dr_29, er_30, pl_31, un_32, li_33, ei_34⟩ := u_28
        obtain ⟨hL_35, hd_36⟩ : lstR (((L ++ exL 4 dr) ++ ([Sum.inl 9])) ++ (magL (4 * 256 + 0 * 8))) er_30 pl_31 un_32 li_33 ∧ dr_29 = appL (magL (4 * 256 + 0 * 8)) dr_2 := hu_28
        have hP : va_P (dC, dI) vwCl (gW g0 g1 g2 g3 g4 g5 g6 g7 g8 g9 g10 g11 g12 g13 cI cB k dr_29 er_30 pl_31 un_32 li_33 ov tp tn rn vs bo ex wr ei_34 dg wo pa ch fi) _ := hP
        have hD : va_D A (gW g0 g1 g2 g3 g4 g5 g6 g7 g8 g9 g10 g11 g12 g13 cI cB k dr_29 er_30 pl_31 un_32 li_33 ov tp tn rn vs bo ex wr ei_34 dg wo pa ch fi) := hD
        have hlen_li_33 : li_33 = li_6 + 1 := by rw [hL_35.1, List.length_append, ← hL_7.1]; rfl
        refine lv_aload_n (pc := 149) hx hb dX4_lists_149 rfl (lv_at hl 1 rfl) ?_
        refine lv_aload_n (pc := 150) hx hb dX4_lists_150 rfl (lv_at hl 1 rfl) ?_
        refine va_get (pc := 151) (D := (dC, dI)) (ci := 4) (v := .int (nI li_33)) (C := RX4) (T := TX4) (N := 26) hx hb hts (by decide +kernel) hown hK hP 0 rfl rfl 5 (by decide) (hts (.fieldLink RX4 54 "ScratchSwapModel" "listed" "I") (by decide +kernel)) (fun _ h9 => h9) rfl dX4_lists_151 ?_
        refine va_put (pc := 154) (D := (dC, dI)) (ci := 4) (v := .int (nI li_33)) (ty := .int) (C := RX4) (T := TX4) (N := 26) hx hb hts (by decide +kernel) tyX4 tyX4_ok nmX4 hown hK hP hD hS 0 rfl rfl 6 (by decide) (hts (.fieldLink RX4 57 "ScratchSwapModel" "over" "I") (by decide +kernel)) (fun _ h9 => h9) rfl (by decide +kernel) rfl rfl (Nat.le_of_ble_eq_true rfl) dX4_lists_154 (fun H locs hP hD hS => ?_)
        have hP : va_P (dC, dI) vwCl (gW g0 g1 g2 g3 g4 g5 g6 g7 g8 g9 g10 g11 g12 g13 cI cB k dr_29 er_30 pl_31 un_32 li_33 (nI li_33) tp tn rn vs bo ex wr ei_34 dg wo pa ch fi) _ := hP
        have hD : va_D A (gW g0 g1 g2 g3 g4 g5 g6 g7 g8 g9 g10 g11 g12 g13 cI cB k dr_29 er_30 pl_31 un_32 li_33 (nI li_33) tp tn rn vs bo ex wr ei_34 dg wo pa ch fi) := hD
        refine lv_aload_n (pc := 157) hx hb dX4_lists_157 rfl (lv_at hl 1 rfl) ?_
        refine lv_iconst (pc := 158) (v := nI 4) hx hb dX4_lists_158 (by decide) ?_
        refine lv_iconst (pc := 159) (v := nI 2) hx hb dX4_lists_159 (by decide) ?_
        refine lv_iconst (pc := 160) (v := nI 1) hx hb dX4_lists_160 (by decide) ?_
        refine x_wrva (pc := 161) (va_runV (As := [.int (nI 4), .int (nI 2), .int (nI 1)]) (rest := []) ⟨hx, hb, hml, hown, hts⟩ (kX4_mark l dC dI tt cI cB _ g0 g1 g2 g3 g4 g5 g6 g7 g8 g9 g10 g11 g12 g13 k dr_29 er_30 pl_31 un_32 li_33 (nI li_33) tp tn rn vs bo ex wr ei_34 dg wo pa ch fi (((L ++ exL 4 dr) ++ ([Sum.inl 9])) ++ (magL (4 * 256 + 0 * 8))) 4 2 (nI 1) hL_35 (by omega) (by omega)) (cwV 3 hts gX4_lists_X4_mark rfl rfl rfl (by decide +kernel) ⟨Nat.le_of_ble_eq_true rfl, Nat.le_of_ble_eq_true rfl⟩) (x_preVa hS hE hK hP hD (x_all hD hS hA) xR0 4 0 rfl rfl) rfl rfl hl.1 rfl (lv_room (Nat.le_of_ble_eq_true rfl)) dX4_lists_161 ⟨Nat.le_of_ble_eq_true rfl, Nat.le_of_ble_eq_true rfl⟩) hS hA hD (fun u_37 H locs hu_37 hP hD hS => ?_)
        obtain ⟨dr_38, er_39, pl_40, un_41, li_42, ei_43⟩ := u_37
        obtain ⟨hL_44, hd_45⟩ : lstR ((((L ++ exL 4 dr) ++ ([Sum.inl 9])) ++ (magL (4 * 256 + 0 * 8))) ++ (markL (4 * 256 + 2 * 8) (nI 1))) er_39 pl_40 un_41 li_42 ∧ dr_38 = appL (markL (4 * 256 + 2 * 8) (nI 1)) dr_29 := hu_37
        have hP : va_P (dC, dI) vwCl (gW g0 g1 g2 g3 g4 g5 g6 g7 g8 g9 g10 g11 g12 g13 cI cB k dr_38 er_39 pl_40 un_41 li_42 (nI li_33) tp tn rn vs bo ex wr ei_43 dg wo pa ch fi) _ := hP
        have hD : va_D A (gW g0 g1 g2 g3 g4 g5 g6 g7 g8 g9 g10 g11 g12 g13 cI cB k dr_38 er_39 pl_40 un_41 li_42 (nI li_33) tp tn rn vs bo ex wr ei_43 dg wo pa ch fi) := hD
        have hlen_li_42 : li_42 = li_33 + 1 := by rw [hL_44.1, List.length_append, ← hL_35.1]; rfl
        have hks : setN (appL [Sum.inl 9] (appL (exL 4 dr) dr)) (4 * 256 + 1 * 8) = kd := by rw [set_keep keepT.era, set_keep (keepT.ex dr (by omega)), ← hkd0]
        have hLL : (((L ++ exL 4 dr) ++ ([Sum.inl 9])) ++ (magL (4 * 256 + 0 * 8))) ++ (markL (4 * 256 + 2 * 8) (nI 1)) = L ++ resL dr := by rw [resL, endL, okL, if_pos (by rw [hks]; first | exact Or.inl (by omega) | exact Or.inr cq)]; simp only [List.append_assoc, List.nil_append]
        have hfin := hL_44
        rw [hLL] at hfin
        exact W.vret hx hb hr (fun t ht hW => ⟨⟨(dr_38, er_39, pl_40, un_41, li_42, ei_43, nI li_33), rfl, ⟨hfin, by show nI _ = nI _; rw [← hfin.1]; congr 1; omega, by show li_42 ≤ _; omega⟩, by show va_P _ _ _ t.heap; rw [ht]; exact hP, va_K.moved hW.alike hK, hD⟩, hS.F ht⟩) hS.2.2 dX4_lists_164
      · skip
        have cq : (mkB dr_2 (4 * 256 + 3 * 8)) = false := bI_0.mp cq
        rw [hd9] at cq
        refine lv_aload_n (pc := 137) hx hb dX4_lists_137 rfl (lv_at hl 1 rfl) ?_
        refine lv_iconst (pc := 138) (v := nI 4) hx hb dX4_lists_138 (by decide) ?_
        refine lv_iconst (pc := 139) (v := nI 3) hx hb dX4_lists_139 (by decide) ?_
        refine lv_iconst (pc := 140) (v := nI 1) hx hb dX4_lists_140 (by decide) ?_
        refine x_wrva (pc := 141) (va_runV (As := [.int (nI 4), .int (nI 3), .int (nI 1)]) (rest := []) ⟨hx, hb, hml, hown, hts⟩ (kX4_mark l dC dI tt cI cB _ g0 g1 g2 g3 g4 g5 g6 g7 g8 g9 g10 g11 g12 g13 k dr_2 er_3 pl_4 un_5 li_6 ov tp tn rn vs bo ex wr ei1 dg wo pa ch fi ((L ++ exL 4 dr) ++ ([Sum.inl 9])) 4 3 (nI 1) hL_7 (by omega) (by omega)) (cwV 3 hts gX4_lists_X4_mark rfl rfl rfl (by decide +kernel) ⟨Nat.le_of_ble_eq_true rfl, Nat.le_of_ble_eq_true rfl⟩) (x_preVa hS hE hK hP hD (x_all hD hS hA) xR0 4 0 rfl rfl) rfl rfl hl.1 rfl (lv_room (Nat.le_of_ble_eq_true rfl)) dX4_lists_141 ⟨Nat.le_of_ble_eq_true rfl, Nat.le_of_ble_eq_true rfl⟩) hS hA hD (fun u_46 H locs hu_46 hP hD hS => ?_)
        obtain ⟨dr_47, er_48, pl_49, un_50, li_51, ei_52⟩ := u_46
        obtain ⟨hL_53, hd_54⟩ : lstR (((L ++ exL 4 dr) ++ ([Sum.inl 9])) ++ (markL (4 * 256 + 3 * 8) (nI 1))) er_48 pl_49 un_50 li_51 ∧ dr_47 = appL (markL (4 * 256 + 3 * 8) (nI 1)) dr_2 := hu_46
        have hP : va_P (dC, dI) vwCl (gW g0 g1 g2 g3 g4 g5 g6 g7 g8 g9 g10 g11 g12 g13 cI cB k dr_47 er_48 pl_49 un_50 li_51 ov tp tn rn vs bo ex wr ei_52 dg wo pa ch fi) _ := hP
        have hD : va_D A (gW g0 g1 g2 g3 g4 g5 g6 g7 g8 g9 g10 g11 g12 g13 cI cB k dr_47 er_48 pl_49 un_50 li_51 ov tp tn rn vs bo ex wr ei_52 dg wo pa ch fi) := hD
        have hlen_li_51 : li_51 = li_6 + 1 := by rw [hL_53.1, List.length_append, ← hL_7.1]; rfl
        refine lv_aload_n (pc := 144) hx hb dX4_lists_144 rfl (lv_at hl 1 rfl) ?_
        refine lv_iconst (pc := 145) (v := nI 4) hx hb dX4_lists_145 (by decide) ?_
        refine x_wrva (pc := 146) (va_runV (As := [.int (nI 4)]) (rest := []) ⟨hx, hb, hml, hown, hts⟩ (kX4_magic l dC dI tt cI cB _ g0 g1 g2 g3 g4 g5 g6 g7 g8 g9 g10 g11 g12 g13 k dr_47 er_48 pl_49 un_50 li_51 ov tp tn rn vs bo ex wr ei_52 dg wo pa ch fi (((L ++ exL 4 dr) ++ ([Sum.inl 9])) ++ (markL (4 * 256 + 3 * 8) (nI 1))) 4 hL_53 (by omega) (by omega)) (cwV 1 hts gX4_lists_X4_magic rfl rfl rfl (by decide +kernel) ⟨Nat.le_of_ble_eq_true rfl, Nat.le_of_ble_eq_true rfl⟩) (x_preVa hS hE hK hP hD (x_all hD hS hA) xR0 4 0 rfl rfl) rfl rfl hl.1 rfl (lv_room (Nat.le_of_ble_eq_true rfl)) dX4_lists_146 ⟨Nat.le_of_ble_eq_true rfl, Nat.le_of_ble_eq_true rfl⟩) hS hA hD (fun u_55 H locs hu_55 hP hD hS => ?_)
        obtain ⟨dr_56, er_57, pl_58, un_59, li_60, ei_61⟩ := u_55
        obtain ⟨hL_62, hd_63⟩ : lstR ((((L ++ exL 4 dr) ++ ([Sum.inl 9])) ++ (markL (4 * 256 + 3 * 8) (nI 1))) ++ (magL (4 * 256 + 0 * 8))) er_57 pl_58 un_59 li_60 ∧ dr_56 = appL (magL (4 * 256 + 0 * 8)) dr_47 := hu_55
        have hP : va_P (dC, dI) vwCl (gW g0 g1 g2 g3 g4 g5 g6 g7 g8 g9 g10 g11 g12 g13 cI cB k dr_56 er_57 pl_58 un_59 li_60 ov tp tn rn vs bo ex wr ei_61 dg wo pa ch fi) _ := hP
        have hD : va_D A (gW g0 g1 g2 g3 g4 g5 g6 g7 g8 g9 g10 g11 g12 g13 cI cB k dr_56 er_57 pl_58 un_59 li_60 ov tp tn rn vs bo ex wr ei_61 dg wo pa ch fi) := hD
        have hlen_li_60 : li_60 = li_51 + 1 := by rw [hL_62.1, List.length_append, ← hL_53.1]; rfl
        refine lv_aload_n (pc := 149) hx hb dX4_lists_149 rfl (lv_at hl 1 rfl) ?_
        refine lv_aload_n (pc := 150) hx hb dX4_lists_150 rfl (lv_at hl 1 rfl) ?_
        refine va_get (pc := 151) (D := (dC, dI)) (ci := 4) (v := .int (nI li_60)) (C := RX4) (T := TX4) (N := 26) hx hb hts (by decide +kernel) hown hK hP 0 rfl rfl 5 (by decide) (hts (.fieldLink RX4 54 "ScratchSwapModel" "listed" "I") (by decide +kernel)) (fun _ h9 => h9) rfl dX4_lists_151 ?_
        refine va_put (pc := 154) (D := (dC, dI)) (ci := 4) (v := .int (nI li_60)) (ty := .int) (C := RX4) (T := TX4) (N := 26) hx hb hts (by decide +kernel) tyX4 tyX4_ok nmX4 hown hK hP hD hS 0 rfl rfl 6 (by decide) (hts (.fieldLink RX4 57 "ScratchSwapModel" "over" "I") (by decide +kernel)) (fun _ h9 => h9) rfl (by decide +kernel) rfl rfl (Nat.le_of_ble_eq_true rfl) dX4_lists_154 (fun H locs hP hD hS => ?_)
        have hP : va_P (dC, dI) vwCl (gW g0 g1 g2 g3 g4 g5 g6 g7 g8 g9 g10 g11 g12 g13 cI cB k dr_56 er_57 pl_58 un_59 li_60 (nI li_60) tp tn rn vs bo ex wr ei_61 dg wo pa ch fi) _ := hP
        have hD : va_D A (gW g0 g1 g2 g3 g4 g5 g6 g7 g8 g9 g10 g11 g12 g13 cI cB k dr_56 er_57 pl_58 un_59 li_60 (nI li_60) tp tn rn vs bo ex wr ei_61 dg wo pa ch fi) := hD
        refine lv_aload_n (pc := 157) hx hb dX4_lists_157 rfl (lv_at hl 1 rfl) ?_
        refine lv_iconst (pc := 158) (v := nI 4) hx hb dX4_lists_158 (by decide) ?_
        refine lv_iconst (pc := 159) (v := nI 2) hx hb dX4_lists_159 (by decide) ?_
        refine lv_iconst (pc := 160) (v := nI 1) hx hb dX4_lists_160 (by decide) ?_
        refine x_wrva (pc := 161) (va_runV (As := [.int (nI 4), .int (nI 2), .int (nI 1)]) (rest := []) ⟨hx, hb, hml, hown, hts⟩ (kX4_mark l dC dI tt cI cB _ g0 g1 g2 g3 g4 g5 g6 g7 g8 g9 g10 g11 g12 g13 k dr_56 er_57 pl_58 un_59 li_60 (nI li_60) tp tn rn vs bo ex wr ei_61 dg wo pa ch fi ((((L ++ exL 4 dr) ++ ([Sum.inl 9])) ++ (markL (4 * 256 + 3 * 8) (nI 1))) ++ (magL (4 * 256 + 0 * 8))) 4 2 (nI 1) hL_62 (by omega) (by omega)) (cwV 3 hts gX4_lists_X4_mark rfl rfl rfl (by decide +kernel) ⟨Nat.le_of_ble_eq_true rfl, Nat.le_of_ble_eq_true rfl⟩) (x_preVa hS hE hK hP hD (x_all hD hS hA) xR0 4 0 rfl rfl) rfl rfl hl.1 rfl (lv_room (Nat.le_of_ble_eq_true rfl)) dX4_lists_161 ⟨Nat.le_of_ble_eq_true rfl, Nat.le_of_ble_eq_true rfl⟩) hS hA hD (fun u_64 H locs hu_64 hP hD hS => ?_)
        obtain ⟨dr_65, er_66, pl_67, un_68, li_69, ei_70⟩ := u_64
        obtain ⟨hL_71, hd_72⟩ : lstR (((((L ++ exL 4 dr) ++ ([Sum.inl 9])) ++ (markL (4 * 256 + 3 * 8) (nI 1))) ++ (magL (4 * 256 + 0 * 8))) ++ (markL (4 * 256 + 2 * 8) (nI 1))) er_66 pl_67 un_68 li_69 ∧ dr_65 = appL (markL (4 * 256 + 2 * 8) (nI 1)) dr_56 := hu_64
        have hP : va_P (dC, dI) vwCl (gW g0 g1 g2 g3 g4 g5 g6 g7 g8 g9 g10 g11 g12 g13 cI cB k dr_65 er_66 pl_67 un_68 li_69 (nI li_60) tp tn rn vs bo ex wr ei_70 dg wo pa ch fi) _ := hP
        have hD : va_D A (gW g0 g1 g2 g3 g4 g5 g6 g7 g8 g9 g10 g11 g12 g13 cI cB k dr_65 er_66 pl_67 un_68 li_69 (nI li_60) tp tn rn vs bo ex wr ei_70 dg wo pa ch fi) := hD
        have hlen_li_69 : li_69 = li_60 + 1 := by rw [hL_71.1, List.length_append, ← hL_62.1]; rfl
        have hks : setN (appL [Sum.inl 9] (appL (exL 4 dr) dr)) (4 * 256 + 1 * 8) = kd := by rw [set_keep keepT.era, set_keep (keepT.ex dr (by omega)), ← hkd0]
        have hLL : ((((L ++ exL 4 dr) ++ ([Sum.inl 9])) ++ (markL (4 * 256 + 3 * 8) (nI 1))) ++ (magL (4 * 256 + 0 * 8))) ++ (markL (4 * 256 + 2 * 8) (nI 1)) = L ++ resL dr := by rw [resL, endL, okL, if_neg (by rw [hks]; intro z; rcases z with z | z; (omega); (rw [cq] at z; exact absurd z (by decide)))]; simp only [List.append_assoc, List.nil_append]
        have hfin := hL_71
        rw [hLL] at hfin
        exact W.vret hx hb hr (fun t ht hW => ⟨⟨(dr_65, er_66, pl_67, un_68, li_69, ei_70, nI li_60), rfl, ⟨hfin, by show nI _ = nI _; rw [← hfin.1]; congr 1; omega, by show li_69 ≤ _; omega⟩, by show va_P _ _ _ t.heap; rw [ht]; exact hP, va_K.moved hW.alike hK, hD⟩, hS.F ht⟩) hS.2.2 dX4_lists_164
  · skip
    have c1 : ¬ d = 0 := fun z => c1 ((nI_neg1 (by omega)).mpr z)
    obtain ⟨d, rfl⟩ : ∃ z, d = z + 1 := ⟨d - 1, by omega⟩
    have hl : lv_has ls 6 [(2, .int (nI d)), (0, .ref g0), (1, .int (nI kd))] := by rw [← nI_sub1 d]; exact hl
    refine lv_iconst (pc := 6) (v := nI 0) hx hb dX4_lists_6 (by decide) ?_
    refine lv_istore_n (pc := 7) (lv' := [(3, .int (nI 0)), (2, .int (nI d)), (0, .ref g0), (1, .int (nI kd))]) hx hb dX4_lists_7 rfl hl (by decide) rfl (fun ls hl => ?_)
    refine x_loop (σ := (Nat) × (Nat) × (List Act) × (Nat → Int8) × (Nat → Int32) × (Nat → Int32) × (Nat → Int8) × (Nat) × (Nat → Int8)) (Wd := fun x : (Nat) × (Nat) × (List Act) × (Nat → Int8) × (Nat → Int32) × (Nat → Int32) × (Nat → Int8) × (Nat) × (Nat → Int8) => match x with | (c, kk, L2, dr2, er2, pl2, un2, li2, ei2) => gW g0 g1 g2 g3 g4 g5 g6 g7 g8 g9 g10 g11 g12 g13 cI cB k dr2 er2 pl2 un2 li2 ov tp tn rn vs bo ex wr ei2 dg wo pa ch fi) (Lv := fun x : (Nat) × (Nat) × (List Act) × (Nat → Int8) × (Nat → Int32) × (Nat → Int32) × (Nat → Int8) × (Nat) × (Nat → Int8) => match x with | (c, kk, L2, dr2, er2, pl2, un2, li2, ei2) => [(3, .int (nI kk)), (2, .int (nI d)), (0, .ref g0), (1, .int (nI kd))]) (I := fun x : (Nat) × (Nat) × (List Act) × (Nat → Int8) × (Nat → Int32) × (Nat → Int32) × (Nat → Int8) × (Nat) × (Nat → Int8) => match x with | (c, kk, L2, dr2, er2, pl2, un2, li2, ei2) => (L ++ exL 4 dr = L2 ++ (inK d c kk dr2 ++ exL d (appL (inK d c kk dr2) dr2))) ∧ (appL (exL 4 dr) dr = appL (exL d (appL (inK d c kk dr2) dr2)) (appL (inK d c kk dr2) dr2)) ∧ (lstR L2 er2 pl2 un2 li2) ∧ (kk + c = 3) ∧ (li2 + 34 * (3 * d + c) ≤ li + 408)) (μ := fun x : (Nat) × (Nat) × (List Act) × (Nat → Int8) × (Nat → Int32) × (Nat → Int32) × (Nat → Int8) × (Nat) × (Nat → Int8) => match x with | (c, kk, L2, dr2, er2, pl2, un2, li2, ei2) => c) ?_ (3, 0, L1, dr1, er1, pl1, un1, li1, ei1) ⟨by rw [hT, exL_s, inK_3], by rw [hA1, exL_s, inK_3, appL_app], hL1, rfl, by omega⟩ hP hD hS (lv_sub hl [0, 1, 2, 3] rfl)
    intro x H locs ls hI hP hD hS hl ih8
    obtain ⟨c, kk, L2, dr2, er2, pl2, un2, li2, ei2⟩ := x
    obtain ⟨hT2, hA2, hL2, hck, hli2⟩ : (L ++ exL 4 dr = L2 ++ (inK d c kk dr2 ++ exL d (appL (inK d c kk dr2) dr2))) ∧ (appL (exL 4 dr) dr = appL (exL d (appL (inK d c kk dr2) dr2)) (appL (inK d c kk dr2) dr2)) ∧ (lstR L2 er2 pl2 un2 li2) ∧ (kk + c = 3) ∧ (li2 + 34 * (3 * d + c) ≤ li + 408) := hI
    have hP : va_P (dC, dI) vwCl (gW g0 g1 g2 g3 g4 g5 g6 g7 g8 g9 g10 g11 g12 g13 cI cB k dr2 er2 pl2 un2 li2 ov tp tn rn vs bo ex wr ei2 dg wo pa ch fi) _ := hP
    have hD : va_D A (gW g0 g1 g2 g3 g4 g5 g6 g7 g8 g9 g10 g11 g12 g13 cI cB k dr2 er2 pl2 un2 li2 ov tp tn rn vs bo ex wr ei2 dg wo pa ch fi) := hD
    have hl : lv_has ls 6 [(3, .int (nI kk)), (2, .int (nI d)), (0, .ref g0), (1, .int (nI kd))] := hl
    refine lv_iload_n (pc := 8) hx hb dX4_lists_8 rfl (lv_at hl 0 rfl) ?_
    refine lv_iconst (pc := 9) (v := nI 3) hx hb dX4_lists_9 (by decide) ?_
    refine lv_icmp_ge (pc := 10) (tgt := 108) hx hb dX4_lists_10 (by decide) (fun c2 => ?_) (fun c2 => ?_)
    · skip
      have c2 : 3 ≤ kk := (nI_leI (a := 3) (b := kk) (by omega) (by omega)).mp c2
      have hc0 : c = 0 := by omega
      refine lv_iinc (pc := 108) (v := nI d - nI 1) (lv' := [(2, .int (nI d - nI 1)), (3, .int (nI kk)), (0, .ref g0), (1, .int (nI kd))]) hx hb dX4_lists_108 hl (k := 1) rfl (nI_decI d) (by decide) rfl (fun ls hl => ?_)
      refine lv_goto (pc := 111) (tgt := 2) hx hb dX4_lists_111 (by decide) ?_
      exact ih2 (d, L2, dr2, er2, pl2, un2, li2, ei2) H locs ls ⟨by rw [hT2, hc0]; rfl, by rw [hA2, hc0]; rfl, hL2, by omega, by omega⟩ (by first | omega | (simp only []; omega)) hP hD hS (lv_sub hl [0, 2, 3] rfl)
    · skip
      have c2 : ¬ 3 ≤ kk := fun z => c2 ((nI_leI (a := 3) (b := kk) (by omega) (by omega)).mpr z)
      obtain ⟨c, rfl⟩ : ∃ z, c = z + 1 := ⟨c - 1, by omega⟩
      refine lv_iconst (pc := 13) (v := nI 4) hx hb dX4_lists_13 (by decide) ?_
      refine lv_iconst (pc := 14) (v := nI 3) hx hb dX4_lists_14 (by decide) ?_
      refine lv_iload_n (pc := 15) hx hb dX4_lists_15 rfl (lv_at hl 1 rfl) ?_
      refine lv_imul (pc := 16) hx hb dX4_lists_16 ?_
      refine lv_cv (pk_mul 3 d) ?_
      refine lv_iadd (pc := 17) hx hb dX4_lists_17 ?_
      refine lv_cv (nI_add 4 (3 * d)) ?_
      refine lv_iload_n (pc := 18) hx hb dX4_lists_18 rfl (lv_at hl 0 rfl) ?_
      refine lv_iadd (pc := 19) hx hb dX4_lists_19 ?_
      refine lv_cv (nI_add (4 + (3 * d)) kk) ?_
      refine lv_istore (pc := 20) (lv' := [(4, .int (nI ((4 + (3 * d)) + kk))), (3, .int (nI kk)), (2, .int (nI d)), (0, .ref g0), (1, .int (nI kd))]) hx hb dX4_lists_20 hl (by decide) rfl (fun ls hl => ?_)
      refine lv_aload_n (pc := 22) hx hb dX4_lists_22 rfl (lv_at hl 3 rfl) ?_
      refine va_get (pc := 23) (D := (dC, dI)) (ci := 4) (v := .ref g2) (C := RX4) (T := TX4) (N := 26) hx hb hts (by decide +kernel) hown hK hP 0 rfl rfl 1 (by decide) (hts (.fieldLink RX4 13 "ScratchSwapModel" "draft" "[B") (by decide +kernel)) (fun _ h9 => h9) rfl dX4_lists_23 ?_
      refine lv_iconst (pc := 26) (v := nI 4) hx hb dX4_lists_26 (by decide) ?_
      refine lv_iload (pc := 27) hx hb dX4_lists_27 (lv_at hl 0 rfl) ?_
      refine x_roi (pc := 29) (va_runS (As := [.ref g2, .int (nI 4), .int (nI ((4 + (3 * d)) + kk))]) (rest := []) ⟨hx, hb, hml, hown, hts⟩ (kX4_isSet l dC dI tt cI cB _ g2 2816 dr2 4 ((4 + (3 * d)) + kk) (by omega) (by omega)) (va_cwS 3 hts gX4_lists_X4_isSet rfl rfl rfl (by decide +kernel) ⟨Nat.le_of_ble_eq_true rfl, Nat.le_of_ble_eq_true rfl⟩) (x_preS hS hE hK hP hD [2] rfl (by decide) (x_ro hS hA) xR0) rfl rfl hl.1 rfl (lv_room (Nat.le_of_ble_eq_true rfl)) dX4_lists_29 ⟨Nat.le_of_ble_eq_true rfl, Nat.le_of_ble_eq_true rfl⟩) hS hA hP (fun r_73 H locs hr_73 hP hS => ?_)
      subst hr_73
      refine lv_if_eq (pc := 32) (tgt := 38) hx hb dX4_lists_32 (by decide) (fun c3 => ?_) (fun c3 => ?_)
      · skip
        have c3 : (mkB dr2 (4 * 256 + ((4 + (3 * d)) + kk) * 8)) = false := bI_0.mp c3
        refine lv_iload_n (pc := 38) hx hb dX4_lists_38 rfl (lv_at hl 1 rfl) ?_
        refine lv_if_ne (pc := 39) (tgt := 47) hx hb dX4_lists_39 (by decide) (fun c4 => ?_) (fun c4 => ?_)
        · skip
          have c4 : ¬ kk = 0 := fun z => c4 ((nI_eq (a := kk) (b := 0) (by omega) (by omega)).mpr z)
          refine lv_iload_n (pc := 47) hx hb dX4_lists_47 rfl (lv_at hl 1 rfl) ?_
          refine lv_iconst (pc := 48) (v := nI 1) hx hb dX4_lists_48 (by decide) ?_
          refine lv_icmp_ne (pc := 49) (tgt := 58) hx hb dX4_lists_49 (by decide) (fun c5 => ?_) (fun c5 => ?_)
          · skip
            have c5 : ¬ kk = 1 := fun z => c5 ((nI_eq (a := kk) (b := 1) (by omega) (by omega)).mpr z)
            have hkd : dstK d kk = d ∧ srcK d kk = 10 := by rw [dstK, srcK, if_neg c4, if_neg c4, if_neg c5, if_neg c5]; exact ⟨rfl, rfl⟩
            refine lv_iload_n (pc := 58) hx hb dX4_lists_58 rfl (lv_at hl 2 rfl) ?_
            refine lv_istore (pc := 59) (lv' := [(5, .int (nI d)), (4, .int (nI ((4 + (3 * d)) + kk))), (3, .int (nI kk)), (2, .int (nI d)), (0, .ref g0), (1, .int (nI kd))]) hx hb dX4_lists_59 hl (by decide) rfl (fun ls hl => ?_)
            refine lv_aload_n (pc := 61) hx hb dX4_lists_61 rfl (lv_at hl 4 rfl) ?_
            refine lv_iload (pc := 62) hx hb dX4_lists_62 (lv_at hl 0 rfl) ?_
            refine x_wrva (pc := 64) (va_runV (As := [.int (nI d)]) (rest := []) ⟨hx, hb, hml, hown, hts⟩ (kX4_erase l dC dI tt cI cB _ g0 g1 g2 g3 g4 g5 g6 g7 g8 g9 g10 g11 g12 g13 k dr2 er2 pl2 un2 li2 ov tp tn rn vs bo ex wr ei2 dg wo pa ch fi L2 d hL2 (by omega) (by omega)) (cwV 1 hts gX4_lists_X4_erase rfl rfl rfl (by decide +kernel) ⟨Nat.le_of_ble_eq_true rfl, Nat.le_of_ble_eq_true rfl⟩) (x_preVa hS hE hK hP hD (x_all hD hS hA) xR0 4 0 rfl rfl) rfl rfl hl.1 rfl (lv_room (Nat.le_of_ble_eq_true rfl)) dX4_lists_64 ⟨Nat.le_of_ble_eq_true rfl, Nat.le_of_ble_eq_true rfl⟩) hS hA hD (fun u_74 H locs hu_74 hP hD hS => ?_)
            obtain ⟨dr_75, er_76, pl_77, un_78, li_79⟩ := u_74
            obtain ⟨hL_80, hd_81⟩ : lstR (L2 ++ ([Sum.inl d])) er_76 pl_77 un_78 li_79 ∧ dr_75 = fillF dr2 (d * 256) 256 := hu_74
            have hP : va_P (dC, dI) vwCl (gW g0 g1 g2 g3 g4 g5 g6 g7 g8 g9 g10 g11 g12 g13 cI cB k dr_75 er_76 pl_77 un_78 li_79 ov tp tn rn vs bo ex wr ei2 dg wo pa ch fi) _ := hP
            have hD : va_D A (gW g0 g1 g2 g3 g4 g5 g6 g7 g8 g9 g10 g11 g12 g13 cI cB k dr_75 er_76 pl_77 un_78 li_79 ov tp tn rn vs bo ex wr ei2 dg wo pa ch fi) := hD
            have hlen_li_79 : li_79 = li2 + 1 := by rw [hL_80.1, List.length_append, ← hL2.1]; rfl
            refine lv_aload_n (pc := 67) hx hb dX4_lists_67 rfl (lv_at hl 4 rfl) ?_
            refine lv_iload_n (pc := 68) hx hb dX4_lists_68 rfl (lv_at hl 2 rfl) ?_
            refine lv_if_ne (pc := 69) (tgt := 78) hx hb dX4_lists_69 (by decide) (fun c6 => ?_) (fun c6 => ?_)
            · skip
              have c6 : ¬ kk = 0 := fun z => c6 ((nI_eq (a := kk) (b := 0) (by omega) (by omega)).mpr z)
              refine lv_iload_n (pc := 78) hx hb dX4_lists_78 rfl (lv_at hl 2 rfl) ?_
              refine lv_iconst (pc := 79) (v := nI 1) hx hb dX4_lists_79 (by decide) ?_
              refine lv_icmp_ne (pc := 80) (tgt := 87) hx hb dX4_lists_80 (by decide) (fun c7 => ?_) (fun c7 => ?_)
              · skip
                have c7 : ¬ kk = 1 := fun z => c7 ((nI_eq (a := kk) (b := 1) (by omega) (by omega)).mpr z)
                refine lv_bipush (pc := 87) (v := nI 10) hx hb dX4_lists_87 (by decide) ?_
                refine lv_iload (pc := 89) hx hb dX4_lists_89 (lv_at hl 0 rfl) ?_
                refine x_wrva (pc := 91) (va_runV (As := [.int (nI 10), .int (nI d)]) (rest := []) ⟨hx, hb, hml, hown, hts⟩ (kX4_copy l dC dI tt cI cB _ g0 g1 g2 g3 g4 g5 g6 g7 g8 g9 g10 g11 g12 g13 k dr_75 er_76 pl_77 un_78 li_79 ov tp tn rn vs bo ex wr ei2 dg wo pa ch fi (L2 ++ ([Sum.inl d])) 10 d hL_80 (by omega) (by omega) (by omega) (by omega)) (cwV 2 hts gX4_lists_X4_copy rfl rfl rfl (by decide +kernel) ⟨Nat.le_of_ble_eq_true rfl, Nat.le_of_ble_eq_true rfl⟩) (x_preVa hS hE hK hP hD (x_all hD hS hA) xR0 4 0 rfl rfl) rfl rfl hl.1 rfl (lv_room (Nat.le_of_ble_eq_true rfl)) dX4_lists_91 ⟨Nat.le_of_ble_eq_true rfl, Nat.le_of_ble_eq_true rfl⟩) hS hA hD (fun u_82 H locs hu_82 hP hD hS => ?_)
                obtain ⟨dr_83, er_84, pl_85, un_86, li_87⟩ := u_82
                obtain ⟨hL_88, hd_89⟩ : lstR ((L2 ++ ([Sum.inl d])) ++ (copyL dr_75 10 d 32 0)) er_84 pl_85 un_86 li_87 ∧ dr_83 = appL (copyL dr_75 10 d 32 0) dr_75 := hu_82
                have hP : va_P (dC, dI) vwCl (gW g0 g1 g2 g3 g4 g5 g6 g7 g8 g9 g10 g11 g12 g13 cI cB k dr_83 er_84 pl_85 un_86 li_87 ov tp tn rn vs bo ex wr ei2 dg wo pa ch fi) _ := hP
                have hD : va_D A (gW g0 g1 g2 g3 g4 g5 g6 g7 g8 g9 g10 g11 g12 g13 cI cB k dr_83 er_84 pl_85 un_86 li_87 ov tp tn rn vs bo ex wr ei2 dg wo pa ch fi) := hD
                have hlen_li_87 : li_87 ≤ li_79 + 32 := by rw [hL_88.1, List.length_append, ← hL_80.1]; exact Nat.add_le_add_left (copyL_len _ _ _ _ _) _
                refine lv_aload_n (pc := 94) hx hb dX4_lists_94 rfl (lv_at hl 4 rfl) ?_
                refine lv_iconst (pc := 95) (v := nI 4) hx hb dX4_lists_95 (by decide) ?_
                refine lv_iload (pc := 96) hx hb dX4_lists_96 (lv_at hl 1 rfl) ?_
                refine lv_iconst (pc := 98) (v := nI 1) hx hb dX4_lists_98 (by decide) ?_
                refine x_wrva (pc := 99) (va_runV (As := [.int (nI 4), .int (nI ((4 + (3 * d)) + kk)), .int (nI 1)]) (rest := []) ⟨hx, hb, hml, hown, hts⟩ (kX4_mark l dC dI tt cI cB _ g0 g1 g2 g3 g4 g5 g6 g7 g8 g9 g10 g11 g12 g13 k dr_83 er_84 pl_85 un_86 li_87 ov tp tn rn vs bo ex wr ei2 dg wo pa ch fi ((L2 ++ ([Sum.inl d])) ++ (copyL dr_75 10 d 32 0)) 4 ((4 + (3 * d)) + kk) (nI 1) hL_88 (by omega) (by omega)) (cwV 3 hts gX4_lists_X4_mark rfl rfl rfl (by decide +kernel) ⟨Nat.le_of_ble_eq_true rfl, Nat.le_of_ble_eq_true rfl⟩) (x_preVa hS hE hK hP hD (x_all hD hS hA) xR0 4 0 rfl rfl) rfl rfl hl.1 rfl (lv_room (Nat.le_of_ble_eq_true rfl)) dX4_lists_99 ⟨Nat.le_of_ble_eq_true rfl, Nat.le_of_ble_eq_true rfl⟩) hS hA hD (fun u_90 H locs hu_90 hP hD hS => ?_)
                obtain ⟨dr_91, er_92, pl_93, un_94, li_95, ei_96⟩ := u_90
                obtain ⟨hL_97, hd_98⟩ : lstR (((L2 ++ ([Sum.inl d])) ++ (copyL dr_75 10 d 32 0)) ++ (markL (4 * 256 + ((4 + (3 * d)) + kk) * 8) (nI 1))) er_92 pl_93 un_94 li_95 ∧ dr_91 = appL (markL (4 * 256 + ((4 + (3 * d)) + kk) * 8) (nI 1)) dr_83 := hu_90
                have hP : va_P (dC, dI) vwCl (gW g0 g1 g2 g3 g4 g5 g6 g7 g8 g9 g10 g11 g12 g13 cI cB k dr_91 er_92 pl_93 un_94 li_95 ov tp tn rn vs bo ex wr ei_96 dg wo pa ch fi) _ := hP
                have hD : va_D A (gW g0 g1 g2 g3 g4 g5 g6 g7 g8 g9 g10 g11 g12 g13 cI cB k dr_91 er_92 pl_93 un_94 li_95 ov tp tn rn vs bo ex wr ei_96 dg wo pa ch fi) := hD
                have hlen_li_95 : li_95 = li_87 + 1 := by rw [hL_97.1, List.length_append, ← hL_88.1]; rfl
                refine lv_iinc (pc := 102) (v := nI (kk + 1)) (lv' := [(3, .int (nI (kk + 1))), (5, .int (nI d)), (4, .int (nI ((4 + (3 * d)) + kk))), (2, .int (nI d)), (0, .ref g0), (1, .int (nI kd))]) hx hb dX4_lists_102 hl (k := 2) rfl (nI_inc kk 1) (by decide) rfl (fun ls hl => ?_)
                refine lv_goto (pc := 105) (tgt := 8) hx hb dX4_lists_105 (by decide) ?_
                have hsl : stepL dr2 d kk (dstK d kk) (srcK d kk) = [Sum.inl d] ++ copyL dr_75 10 d 32 0 ++ markL (4 * 256 + (4 + 3 * d + kk) * 8) (nI 1) := by rw [stepL, if_neg (by rw [c3]; decide), repL, hkd.1, hkd.2, copyL_e dr2 dr_75 (by omega) hd_81 (show 0 + 32 ≤ 32 by omega)]; rfl
                have hdr : dr_91 = appL (stepL dr2 d kk (dstK d kk) (srcK d kk)) dr2 := by rw [hsl, appL_app, appL_app, hd_98, hd_89, hd_81]; rfl
                exact ih8 (c, kk + 1, ((L2 ++ ([Sum.inl d])) ++ (copyL dr_75 10 d 32 0)) ++ (markL (4 * 256 + ((4 + (3 * d)) + kk) * 8) (nI 1)), dr_91, er_92, pl_93, un_94, li_95, ei_96) H locs ls ⟨by rw [hT2, inK_s, hsl, hdr, hsl]; simp only [List.append_assoc, appL_app], by rw [hA2, inK_s, appL_app, ← hdr], hL_97, by omega, by omega⟩ (by first | omega | (simp only []; omega)) hP hD hS (lv_sub hl [0, 3, 4, 5] rfl)
              · skip
                have c7 : kk = 1 := (nI_eq (a := kk) (b := 1) (by omega) (by omega)).mp c7
                exfalso; omega
            · skip
              have c6 : kk = 0 := (nI_eq (a := kk) (b := 0) (by omega) (by omega)).mp c6
              exfalso; omega
          · skip
            have c5 : kk = 1 := (nI_eq (a := kk) (b := 1) (by omega) (by omega)).mp c5
            have hkd : dstK d kk = 5 + d ∧ srcK d kk = d := by rw [dstK, srcK, if_neg c4, if_neg c4, if_pos c5, if_pos c5]; exact ⟨rfl, rfl⟩
            refine lv_iconst (pc := 52) (v := nI 5) hx hb dX4_lists_52 (by decide) ?_
            refine lv_iload_n (pc := 53) hx hb dX4_lists_53 rfl (lv_at hl 2 rfl) ?_
            refine lv_iadd (pc := 54) hx hb dX4_lists_54 ?_
            refine lv_cv (nI_add 5 d) ?_
            refine lv_goto (pc := 55) (tgt := 59) hx hb dX4_lists_55 (by decide) ?_
            refine lv_istore (pc := 59) (lv' := [(5, .int (nI (5 + d))), (4, .int (nI ((4 + (3 * d)) + kk))), (3, .int (nI kk)), (2, .int (nI d)), (0, .ref g0), (1, .int (nI kd))]) hx hb dX4_lists_59 hl (by decide) rfl (fun ls hl => ?_)
            refine lv_aload_n (pc := 61) hx hb dX4_lists_61 rfl (lv_at hl 4 rfl) ?_
            refine lv_iload (pc := 62) hx hb dX4_lists_62 (lv_at hl 0 rfl) ?_
            refine x_wrva (pc := 64) (va_runV (As := [.int (nI (5 + d))]) (rest := []) ⟨hx, hb, hml, hown, hts⟩ (kX4_erase l dC dI tt cI cB _ g0 g1 g2 g3 g4 g5 g6 g7 g8 g9 g10 g11 g12 g13 k dr2 er2 pl2 un2 li2 ov tp tn rn vs bo ex wr ei2 dg wo pa ch fi L2 (5 + d) hL2 (by omega) (by omega)) (cwV 1 hts gX4_lists_X4_erase rfl rfl rfl (by decide +kernel) ⟨Nat.le_of_ble_eq_true rfl, Nat.le_of_ble_eq_true rfl⟩) (x_preVa hS hE hK hP hD (x_all hD hS hA) xR0 4 0 rfl rfl) rfl rfl hl.1 rfl (lv_room (Nat.le_of_ble_eq_true rfl)) dX4_lists_64 ⟨Nat.le_of_ble_eq_true rfl, Nat.le_of_ble_eq_true rfl⟩) hS hA hD (fun u_99 H locs hu_99 hP hD hS => ?_)
            obtain ⟨dr_100, er_101, pl_102, un_103, li_104⟩ := u_99
            obtain ⟨hL_105, hd_106⟩ : lstR (L2 ++ ([Sum.inl (5 + d)])) er_101 pl_102 un_103 li_104 ∧ dr_100 = fillF dr2 ((5 + d) * 256) 256 := hu_99
            have hP : va_P (dC, dI) vwCl (gW g0 g1 g2 g3 g4 g5 g6 g7 g8 g9 g10 g11 g12 g13 cI cB k dr_100 er_101 pl_102 un_103 li_104 ov tp tn rn vs bo ex wr ei2 dg wo pa ch fi) _ := hP
            have hD : va_D A (gW g0 g1 g2 g3 g4 g5 g6 g7 g8 g9 g10 g11 g12 g13 cI cB k dr_100 er_101 pl_102 un_103 li_104 ov tp tn rn vs bo ex wr ei2 dg wo pa ch fi) := hD
            have hlen_li_104 : li_104 = li2 + 1 := by rw [hL_105.1, List.length_append, ← hL2.1]; rfl
            refine lv_aload_n (pc := 67) hx hb dX4_lists_67 rfl (lv_at hl 4 rfl) ?_
            refine lv_iload_n (pc := 68) hx hb dX4_lists_68 rfl (lv_at hl 2 rfl) ?_
            refine lv_if_ne (pc := 69) (tgt := 78) hx hb dX4_lists_69 (by decide) (fun c6 => ?_) (fun c6 => ?_)
            · skip
              have c6 : ¬ kk = 0 := fun z => c6 ((nI_eq (a := kk) (b := 0) (by omega) (by omega)).mpr z)
              refine lv_iload_n (pc := 78) hx hb dX4_lists_78 rfl (lv_at hl 2 rfl) ?_
              refine lv_iconst (pc := 79) (v := nI 1) hx hb dX4_lists_79 (by decide) ?_
              refine lv_icmp_ne (pc := 80) (tgt := 87) hx hb dX4_lists_80 (by decide) (fun c7 => ?_) (fun c7 => ?_)
              · skip
                have c7 : ¬ kk = 1 := fun z => c7 ((nI_eq (a := kk) (b := 1) (by omega) (by omega)).mpr z)
                exfalso; omega
              · skip
                have c7 : kk = 1 := (nI_eq (a := kk) (b := 1) (by omega) (by omega)).mp c7
                refine lv_iload_n (pc := 83) hx hb dX4_lists_83 rfl (lv_at hl 3 rfl) ?_
                refine lv_goto (pc := 84) (tgt := 89) hx hb dX4_lists_84 (by decide) ?_
                refine lv_iload (pc := 89) hx hb dX4_lists_89 (lv_at hl 0 rfl) ?_
                refine x_wrva (pc := 91) (va_runV (As := [.int (nI d), .int (nI (5 + d))]) (rest := []) ⟨hx, hb, hml, hown, hts⟩ (kX4_copy l dC dI tt cI cB _ g0 g1 g2 g3 g4 g5 g6 g7 g8 g9 g10 g11 g12 g13 k dr_100 er_101 pl_102 un_103 li_104 ov tp tn rn vs bo ex wr ei2 dg wo pa ch fi (L2 ++ ([Sum.inl (5 + d)])) d (5 + d) hL_105 (by omega) (by omega) (by omega) (by omega)) (cwV 2 hts gX4_lists_X4_copy rfl rfl rfl (by decide +kernel) ⟨Nat.le_of_ble_eq_true rfl, Nat.le_of_ble_eq_true rfl⟩) (x_preVa hS hE hK hP hD (x_all hD hS hA) xR0 4 0 rfl rfl) rfl rfl hl.1 rfl (lv_room (Nat.le_of_ble_eq_true rfl)) dX4_lists_91 ⟨Nat.le_of_ble_eq_true rfl, Nat.le_of_ble_eq_true rfl⟩) hS hA hD (fun u_107 H locs hu_107 hP hD hS => ?_)
                obtain ⟨dr_108, er_109, pl_110, un_111, li_112⟩ := u_107
                obtain ⟨hL_113, hd_114⟩ : lstR ((L2 ++ ([Sum.inl (5 + d)])) ++ (copyL dr_100 d (5 + d) 32 0)) er_109 pl_110 un_111 li_112 ∧ dr_108 = appL (copyL dr_100 d (5 + d) 32 0) dr_100 := hu_107
                have hP : va_P (dC, dI) vwCl (gW g0 g1 g2 g3 g4 g5 g6 g7 g8 g9 g10 g11 g12 g13 cI cB k dr_108 er_109 pl_110 un_111 li_112 ov tp tn rn vs bo ex wr ei2 dg wo pa ch fi) _ := hP
                have hD : va_D A (gW g0 g1 g2 g3 g4 g5 g6 g7 g8 g9 g10 g11 g12 g13 cI cB k dr_108 er_109 pl_110 un_111 li_112 ov tp tn rn vs bo ex wr ei2 dg wo pa ch fi) := hD
                have hlen_li_112 : li_112 ≤ li_104 + 32 := by rw [hL_113.1, List.length_append, ← hL_105.1]; exact Nat.add_le_add_left (copyL_len _ _ _ _ _) _
                refine lv_aload_n (pc := 94) hx hb dX4_lists_94 rfl (lv_at hl 4 rfl) ?_
                refine lv_iconst (pc := 95) (v := nI 4) hx hb dX4_lists_95 (by decide) ?_
                refine lv_iload (pc := 96) hx hb dX4_lists_96 (lv_at hl 1 rfl) ?_
                refine lv_iconst (pc := 98) (v := nI 1) hx hb dX4_lists_98 (by decide) ?_
                refine x_wrva (pc := 99) (va_runV (As := [.int (nI 4), .int (nI ((4 + (3 * d)) + kk)), .int (nI 1)]) (rest := []) ⟨hx, hb, hml, hown, hts⟩ (kX4_mark l dC dI tt cI cB _ g0 g1 g2 g3 g4 g5 g6 g7 g8 g9 g10 g11 g12 g13 k dr_108 er_109 pl_110 un_111 li_112 ov tp tn rn vs bo ex wr ei2 dg wo pa ch fi ((L2 ++ ([Sum.inl (5 + d)])) ++ (copyL dr_100 d (5 + d) 32 0)) 4 ((4 + (3 * d)) + kk) (nI 1) hL_113 (by omega) (by omega)) (cwV 3 hts gX4_lists_X4_mark rfl rfl rfl (by decide +kernel) ⟨Nat.le_of_ble_eq_true rfl, Nat.le_of_ble_eq_true rfl⟩) (x_preVa hS hE hK hP hD (x_all hD hS hA) xR0 4 0 rfl rfl) rfl rfl hl.1 rfl (lv_room (Nat.le_of_ble_eq_true rfl)) dX4_lists_99 ⟨Nat.le_of_ble_eq_true rfl, Nat.le_of_ble_eq_true rfl⟩) hS hA hD (fun u_115 H locs hu_115 hP hD hS => ?_)
                obtain ⟨dr_116, er_117, pl_118, un_119, li_120, ei_121⟩ := u_115
                obtain ⟨hL_122, hd_123⟩ : lstR (((L2 ++ ([Sum.inl (5 + d)])) ++ (copyL dr_100 d (5 + d) 32 0)) ++ (markL (4 * 256 + ((4 + (3 * d)) + kk) * 8) (nI 1))) er_117 pl_118 un_119 li_120 ∧ dr_116 = appL (markL (4 * 256 + ((4 + (3 * d)) + kk) * 8) (nI 1)) dr_108 := hu_115
                have hP : va_P (dC, dI) vwCl (gW g0 g1 g2 g3 g4 g5 g6 g7 g8 g9 g10 g11 g12 g13 cI cB k dr_116 er_117 pl_118 un_119 li_120 ov tp tn rn vs bo ex wr ei_121 dg wo pa ch fi) _ := hP
                have hD : va_D A (gW g0 g1 g2 g3 g4 g5 g6 g7 g8 g9 g10 g11 g12 g13 cI cB k dr_116 er_117 pl_118 un_119 li_120 ov tp tn rn vs bo ex wr ei_121 dg wo pa ch fi) := hD
                have hlen_li_120 : li_120 = li_112 + 1 := by rw [hL_122.1, List.length_append, ← hL_113.1]; rfl
                refine lv_iinc (pc := 102) (v := nI (kk + 1)) (lv' := [(3, .int (nI (kk + 1))), (5, .int (nI (5 + d))), (4, .int (nI ((4 + (3 * d)) + kk))), (2, .int (nI d)), (0, .ref g0), (1, .int (nI kd))]) hx hb dX4_lists_102 hl (k := 2) rfl (nI_inc kk 1) (by decide) rfl (fun ls hl => ?_)
                refine lv_goto (pc := 105) (tgt := 8) hx hb dX4_lists_105 (by decide) ?_
                have hsl : stepL dr2 d kk (dstK d kk) (srcK d kk) = [Sum.inl (5 + d)] ++ copyL dr_100 d (5 + d) 32 0 ++ markL (4 * 256 + (4 + 3 * d + kk) * 8) (nI 1) := by rw [stepL, if_neg (by rw [c3]; decide), repL, hkd.1, hkd.2, copyL_e dr2 dr_100 (by omega) hd_106 (show 0 + 32 ≤ 32 by omega)]; rfl
                have hdr : dr_116 = appL (stepL dr2 d kk (dstK d kk) (srcK d kk)) dr2 := by rw [hsl, appL_app, appL_app, hd_123, hd_114, hd_106]; rfl
                exact ih8 (c, kk + 1, ((L2 ++ ([Sum.inl (5 + d)])) ++ (copyL dr_100 d (5 + d) 32 0)) ++ (markL (4 * 256 + ((4 + (3 * d)) + kk) * 8) (nI 1)), dr_116, er_117, pl_118, un_119, li_120, ei_121) H locs ls ⟨by rw [hT2, inK_s, hsl, hdr, hsl]; simp only [List.append_assoc, appL_app], by rw [hA2, inK_s, appL_app, ← hdr], hL_122, by omega, by omega⟩ (by first | omega | (simp only []; omega)) hP hD hS (lv_sub hl [0, 3, 4, 5] rfl)
            · skip
              have c6 : kk = 0 := (nI_eq (a := kk) (b := 0) (by omega) (by omega)).mp c6
              exfalso; omega
        · skip
          have c4 : kk = 0 := (nI_eq (a := kk) (b := 0) (by omega) (by omega)).mp c4
          have hkd : dstK d kk = 10 ∧ srcK d kk = 5 + d := by rw [dstK, srcK, if_pos c4, if_pos c4]; exact ⟨rfl, rfl⟩
          refine lv_bipush (pc := 42) (v := nI 10) hx hb dX4_lists_42 (by decide) ?_
          refine lv_goto (pc := 44) (tgt := 59) hx hb dX4_lists_44 (by decide) ?_
          refine lv_istore (pc := 59) (lv' := [(5, .int (nI 10)), (4, .int (nI ((4 + (3 * d)) + kk))), (3, .int (nI kk)), (2, .int (nI d)), (0, .ref g0), (1, .int (nI kd))]) hx hb dX4_lists_59 hl (by decide) rfl (fun ls hl => ?_)
          refine lv_aload_n (pc := 61) hx hb dX4_lists_61 rfl (lv_at hl 4 rfl) ?_
          refine lv_iload (pc := 62) hx hb dX4_lists_62 (lv_at hl 0 rfl) ?_
          refine x_wrva (pc := 64) (va_runV (As := [.int (nI 10)]) (rest := []) ⟨hx, hb, hml, hown, hts⟩ (kX4_erase l dC dI tt cI cB _ g0 g1 g2 g3 g4 g5 g6 g7 g8 g9 g10 g11 g12 g13 k dr2 er2 pl2 un2 li2 ov tp tn rn vs bo ex wr ei2 dg wo pa ch fi L2 10 hL2 (by omega) (by omega)) (cwV 1 hts gX4_lists_X4_erase rfl rfl rfl (by decide +kernel) ⟨Nat.le_of_ble_eq_true rfl, Nat.le_of_ble_eq_true rfl⟩) (x_preVa hS hE hK hP hD (x_all hD hS hA) xR0 4 0 rfl rfl) rfl rfl hl.1 rfl (lv_room (Nat.le_of_ble_eq_true rfl)) dX4_lists_64 ⟨Nat.le_of_ble_eq_true rfl, Nat.le_of_ble_eq_true rfl⟩) hS hA hD (fun u_124 H locs hu_124 hP hD hS => ?_)
          obtain ⟨dr_125, er_126, pl_127, un_128, li_129⟩ := u_124
          obtain ⟨hL_130, hd_131⟩ : lstR (L2 ++ ([Sum.inl 10])) er_126 pl_127 un_128 li_129 ∧ dr_125 = fillF dr2 (10 * 256) 256 := hu_124
          have hP : va_P (dC, dI) vwCl (gW g0 g1 g2 g3 g4 g5 g6 g7 g8 g9 g10 g11 g12 g13 cI cB k dr_125 er_126 pl_127 un_128 li_129 ov tp tn rn vs bo ex wr ei2 dg wo pa ch fi) _ := hP
          have hD : va_D A (gW g0 g1 g2 g3 g4 g5 g6 g7 g8 g9 g10 g11 g12 g13 cI cB k dr_125 er_126 pl_127 un_128 li_129 ov tp tn rn vs bo ex wr ei2 dg wo pa ch fi) := hD
          have hlen_li_129 : li_129 = li2 + 1 := by rw [hL_130.1, List.length_append, ← hL2.1]; rfl
          refine lv_aload_n (pc := 67) hx hb dX4_lists_67 rfl (lv_at hl 4 rfl) ?_
          refine lv_iload_n (pc := 68) hx hb dX4_lists_68 rfl (lv_at hl 2 rfl) ?_
          refine lv_if_ne (pc := 69) (tgt := 78) hx hb dX4_lists_69 (by decide) (fun c6 => ?_) (fun c6 => ?_)
          · skip
            have c6 : ¬ kk = 0 := fun z => c6 ((nI_eq (a := kk) (b := 0) (by omega) (by omega)).mpr z)
            exfalso; omega
          · skip
            have c6 : kk = 0 := (nI_eq (a := kk) (b := 0) (by omega) (by omega)).mp c6
            refine lv_iconst (pc := 72) (v := nI 5) hx hb dX4_lists_72 (by decide) ?_
            refine lv_iload_n (pc := 73) hx hb dX4_lists_73 rfl (lv_at hl 3 rfl) ?_
            refine lv_iadd (pc := 74) hx hb dX4_lists_74 ?_
            refine lv_cv (nI_add 5 d) ?_
            refine lv_goto (pc := 75) (tgt := 89) hx hb dX4_lists_75 (by decide) ?_
            refine lv_iload (pc := 89) hx hb dX4_lists_89 (lv_at hl 0 rfl) ?_
            refine x_wrva (pc := 91) (va_runV (As := [.int (nI (5 + d)), .int (nI 10)]) (rest := []) ⟨hx, hb, hml, hown, hts⟩ (kX4_copy l dC dI tt cI cB _ g0 g1 g2 g3 g4 g5 g6 g7 g8 g9 g10 g11 g12 g13 k dr_125 er_126 pl_127 un_128 li_129 ov tp tn rn vs bo ex wr ei2 dg wo pa ch fi (L2 ++ ([Sum.inl 10])) (5 + d) 10 hL_130 (by omega) (by omega) (by omega) (by omega)) (cwV 2 hts gX4_lists_X4_copy rfl rfl rfl (by decide +kernel) ⟨Nat.le_of_ble_eq_true rfl, Nat.le_of_ble_eq_true rfl⟩) (x_preVa hS hE hK hP hD (x_all hD hS hA) xR0 4 0 rfl rfl) rfl rfl hl.1 rfl (lv_room (Nat.le_of_ble_eq_true rfl)) dX4_lists_91 ⟨Nat.le_of_ble_eq_true rfl, Nat.le_of_ble_eq_true rfl⟩) hS hA hD (fun u_132 H locs hu_132 hP hD hS => ?_)
            obtain ⟨dr_133, er_134, pl_135, un_136, li_137⟩ := u_132
            obtain ⟨hL_138, hd_139⟩ : lstR ((L2 ++ ([Sum.inl 10])) ++ (copyL dr_125 (5 + d) 10 32 0)) er_134 pl_135 un_136 li_137 ∧ dr_133 = appL (copyL dr_125 (5 + d) 10 32 0) dr_125 := hu_132
            have hP : va_P (dC, dI) vwCl (gW g0 g1 g2 g3 g4 g5 g6 g7 g8 g9 g10 g11 g12 g13 cI cB k dr_133 er_134 pl_135 un_136 li_137 ov tp tn rn vs bo ex wr ei2 dg wo pa ch fi) _ := hP
            have hD : va_D A (gW g0 g1 g2 g3 g4 g5 g6 g7 g8 g9 g10 g11 g12 g13 cI cB k dr_133 er_134 pl_135 un_136 li_137 ov tp tn rn vs bo ex wr ei2 dg wo pa ch fi) := hD
            have hlen_li_137 : li_137 ≤ li_129 + 32 := by rw [hL_138.1, List.length_append, ← hL_130.1]; exact Nat.add_le_add_left (copyL_len _ _ _ _ _) _
            refine lv_aload_n (pc := 94) hx hb dX4_lists_94 rfl (lv_at hl 4 rfl) ?_
            refine lv_iconst (pc := 95) (v := nI 4) hx hb dX4_lists_95 (by decide) ?_
            refine lv_iload (pc := 96) hx hb dX4_lists_96 (lv_at hl 1 rfl) ?_
            refine lv_iconst (pc := 98) (v := nI 1) hx hb dX4_lists_98 (by decide) ?_
            refine x_wrva (pc := 99) (va_runV (As := [.int (nI 4), .int (nI ((4 + (3 * d)) + kk)), .int (nI 1)]) (rest := []) ⟨hx, hb, hml, hown, hts⟩ (kX4_mark l dC dI tt cI cB _ g0 g1 g2 g3 g4 g5 g6 g7 g8 g9 g10 g11 g12 g13 k dr_133 er_134 pl_135 un_136 li_137 ov tp tn rn vs bo ex wr ei2 dg wo pa ch fi ((L2 ++ ([Sum.inl 10])) ++ (copyL dr_125 (5 + d) 10 32 0)) 4 ((4 + (3 * d)) + kk) (nI 1) hL_138 (by omega) (by omega)) (cwV 3 hts gX4_lists_X4_mark rfl rfl rfl (by decide +kernel) ⟨Nat.le_of_ble_eq_true rfl, Nat.le_of_ble_eq_true rfl⟩) (x_preVa hS hE hK hP hD (x_all hD hS hA) xR0 4 0 rfl rfl) rfl rfl hl.1 rfl (lv_room (Nat.le_of_ble_eq_true rfl)) dX4_lists_99 ⟨Nat.le_of_ble_eq_true rfl, Nat.le_of_ble_eq_true rfl⟩) hS hA hD (fun u_140 H locs hu_140 hP hD hS => ?_)
            obtain ⟨dr_141, er_142, pl_143, un_144, li_145, ei_146⟩ := u_140
            obtain ⟨hL_147, hd_148⟩ : lstR (((L2 ++ ([Sum.inl 10])) ++ (copyL dr_125 (5 + d) 10 32 0)) ++ (markL (4 * 256 + ((4 + (3 * d)) + kk) * 8) (nI 1))) er_142 pl_143 un_144 li_145 ∧ dr_141 = appL (markL (4 * 256 + ((4 + (3 * d)) + kk) * 8) (nI 1)) dr_133 := hu_140
            have hP : va_P (dC, dI) vwCl (gW g0 g1 g2 g3 g4 g5 g6 g7 g8 g9 g10 g11 g12 g13 cI cB k dr_141 er_142 pl_143 un_144 li_145 ov tp tn rn vs bo ex wr ei_146 dg wo pa ch fi) _ := hP
            have hD : va_D A (gW g0 g1 g2 g3 g4 g5 g6 g7 g8 g9 g10 g11 g12 g13 cI cB k dr_141 er_142 pl_143 un_144 li_145 ov tp tn rn vs bo ex wr ei_146 dg wo pa ch fi) := hD
            have hlen_li_145 : li_145 = li_137 + 1 := by rw [hL_147.1, List.length_append, ← hL_138.1]; rfl
            refine lv_iinc (pc := 102) (v := nI (kk + 1)) (lv' := [(3, .int (nI (kk + 1))), (5, .int (nI 10)), (4, .int (nI ((4 + (3 * d)) + kk))), (2, .int (nI d)), (0, .ref g0), (1, .int (nI kd))]) hx hb dX4_lists_102 hl (k := 2) rfl (nI_inc kk 1) (by decide) rfl (fun ls hl => ?_)
            refine lv_goto (pc := 105) (tgt := 8) hx hb dX4_lists_105 (by decide) ?_
            have hsl : stepL dr2 d kk (dstK d kk) (srcK d kk) = [Sum.inl 10] ++ copyL dr_125 (5 + d) 10 32 0 ++ markL (4 * 256 + (4 + 3 * d + kk) * 8) (nI 1) := by rw [stepL, if_neg (by rw [c3]; decide), repL, hkd.1, hkd.2, copyL_e dr2 dr_125 (by omega) hd_131 (show 0 + 32 ≤ 32 by omega)]; rfl
            have hdr : dr_141 = appL (stepL dr2 d kk (dstK d kk) (srcK d kk)) dr2 := by rw [hsl, appL_app, appL_app, hd_148, hd_139, hd_131]; rfl
            exact ih8 (c, kk + 1, ((L2 ++ ([Sum.inl 10])) ++ (copyL dr_125 (5 + d) 10 32 0)) ++ (markL (4 * 256 + ((4 + (3 * d)) + kk) * 8) (nI 1)), dr_141, er_142, pl_143, un_144, li_145, ei_146) H locs ls ⟨by rw [hT2, inK_s, hsl, hdr, hsl]; simp only [List.append_assoc, appL_app], by rw [hA2, inK_s, appL_app, ← hdr], hL_147, by omega, by omega⟩ (by first | omega | (simp only []; omega)) hP hD hS (lv_sub hl [0, 3, 4, 5] rfl)
      · skip
        have c3 : (mkB dr2 (4 * 256 + ((4 + (3 * d)) + kk) * 8)) = true := bI_1.mp c3
        refine lv_goto (pc := 35) (tgt := 102) hx hb dX4_lists_35 (by decide) ?_
        refine lv_iinc (pc := 102) (v := nI (kk + 1)) (lv' := [(3, .int (nI (kk + 1))), (4, .int (nI ((4 + (3 * d)) + kk))), (2, .int (nI d)), (0, .ref g0), (1, .int (nI kd))]) hx hb dX4_lists_102 hl (k := 1) rfl (nI_inc kk 1) (by decide) rfl (fun ls hl => ?_)
        refine lv_goto (pc := 105) (tgt := 8) hx hb dX4_lists_105 (by decide) ?_
        have hsl : stepL dr2 d kk (dstK d kk) (srcK d kk) = [] := by rw [stepL, if_pos c3]
        exact ih8 (c, kk + 1, L2, dr2, er2, pl2, un2, li2, ei2) H locs ls ⟨by rw [hT2, inK_s, hsl]; rfl, by rw [hA2, inK_s, hsl]; rfl, hL2, by omega, by omega⟩ (by first | omega | (simp only []; omega)) hP hD hS (lv_sub hl [0, 2, 3, 4] rfl)
