theorem xRm {s : State} {H : Heap} {locs : List Loc} {A0 B : Nat → Prop} {tt : Nat → Nat} {rt : List (Nat × Nat × (Nat → Int32))} (hS : va_S A0 s.heap H locs) (hE : xE tt rt A0 s s.heap) (hB : ∀ q, B q → A0 q) : ∀ U : State, U.heap = H → s.WarmedH U.vm → ∀ q ∈ [(tt 0, 8, fun j => ub (magG j))], va_T .int q.1 q.2.1 (fun j => .int (q.2.2 j)) B U U.heap := by
  intro U hU hW q hm
  obtain rfl : q = (tt 0, 8, fun j => ub (magG j)) := List.mem_singleton.mp hm
  rw [hU]
  obtain ⟨cell, h1, h2, h3, h4, h5, h6, h7⟩ := ((hE.2.2.1.2.kept hS.2.1).narrow hB).moved hW.alike
  exact ⟨cell, h1, h2, h3, h4, h5, fun j hj => by rw [h6 j hj]; show some (Value.int (tbM j)) = some (.int (ub (magG j))); rw [tbM_ub j hj], h7⟩
set_option maxHeartbeats 4000000 in
set_option maxRecDepth 100000 in
theorem kX3_writeMagic (l : Launch) (dC : Nat → ClassId) (dI : Nat → Nat → Nat) (tt : Nat → Nat) (cI cB : ClassId) (sz : Nat) (a0 a1 a2 a3 a4 a5 a6 a7 a8 a9 : Nat) (k : K0) (ut : Nat → Int32) (tb : Nat → Int8) (tn : Nat) (sc hs : Nat → Int32) (rn : Bool) (rv wb ee we : Int32) (i0 : Nat) (hk : kOk k) (hi0 : i0 < 11) : MetI (S := (K0 × (Nat → Int32))) l yX3_writeMagic wsX3_writeMagic { frames := 3, cells := 0, slots := 0, locals := 76 } (dC, dI) [(cI, .int), (cB, .byte)] tt [] sz (xW a0 a1 a2 a3 a4 a5 a6 a7 a8 a9 cI k ut tb tn sc hs rn rv wb ee we) [.ref a0, .int (nI i0)] (fun u : (K0 × (Nat → Int32)) => xW a0 a1 a2 a3 a4 a5 a6 a7 a8 a9 cI u.1 u.2 tb tn sc hs rn rv wb ee we) (fun r u => r = bI (kActs (magL (i0 * 256 + 0 * 8)) k).2 ∧ u.1 = (kActs (magL (i0 * 256 + 0 * 8)) k).1) := by
  refine Met.ofW (cc := cX3_writeMagic) (maxL := 2) (ret := (some .boolean)) (by decide) rfl ?_
  intro p e s m args below meth c s₁ B hml hv
  obtain ⟨rfl, hsz, hP, hK, hD0, hE⟩ := hv
  have hx := B.exec
  have hb := B.bytes
  have hr := B.returns
  have hts := atoms_spec (ws := wsX3_writeMagic) B.pre
  have hown : s.vm.findClass RX3 = some m.cls := findClass_of_methodNamed B.named
  have hlocks := B.notSynchronized
  subst hsz
  have hD := hD0.self (sz := s.heap.size)
  generalize hAe : va_A (xW a0 a1 a2 a3 a4 a5 a6 a7 a8 a9 cI k ut tb tn sc hs rn rv wb ee we) s.heap.size = A at hD hE ⊢
  have hA : ∀ q : Nat, s.heap.size ≤ q → A q := fun q h => by rw [← hAe]; exact Or.inr h
  have hS : va_S A s.heap s.heap [] := va_S.rf
  have hl := lv_entry ([.ref a0, .int (nI i0)]) (n := 2) (Nat.le_of_ble_eq_true rfl)
  rw [lg_entry_eq]
  generalize (lg_sl ([.ref a0, .int (nI i0)]) ++ List.replicate (2 - (lg_sl ([.ref a0, .int (nI i0)])).length) Slot.unset).toArray = ls at hl ⊢
  have hl : lv_has ls 2 [(0, .ref a0), (1, .int (nI i0))] := hl
  have hP : va_P (dC, dI) vwCl (xW a0 a1 a2 a3 a4 a5 a6 a7 a8 a9 cI k ut tb tn sc hs rn rv wb ee we) s.heap := hP
  refine lv_aload_n (pc := 0) hx hb dX3_writeMagic_0 rfl (lv_at hl 0 rfl) ?_
  refine va_get (pc := 1) (D := (dC, dI)) (ci := 3) (v := .ref a1) (C := RX3) (T := TX3) (N := 8) hx hb hts (by decide +kernel) hown hK hP 0 rfl rfl 0 (by decide) (hts (.fieldLink RX3 12 "ScratchSwap" "memory" "LScratchSwap$Memory;") (by decide +kernel)) (fun _ h9 => h9) rfl dX3_writeMagic_1 ?_
  refine lv_iload_n (pc := 4) hx hb dX3_writeMagic_4 rfl (lv_at hl 1 rfl) ?_
  refine lv_iconst (pc := 5) (v := nI 0) hx hb dX3_writeMagic_5 (by decide) ?_
  refine x_roi (pc := 6) (va_runSN (As := [.int (nI i0), .int (nI 0)]) (rest := [.ref a1]) ⟨hx, hb, hml, hown, hts⟩ (kX0_unitAt l dC dI tt cI cB _ i0 0) (⟨va_cnB 2 hts gX3_writeMagic_X0_unitAt_n180 rfl rfl rfl (hE.m 11 (q := (RX3, 180, yX0_unitAt, "ScratchSwap")) rfl) (hts (.initialized RX0) (by decide +kernel)) (by decide +kernel) ⟨Nat.le_of_ble_eq_true rfl, Nat.le_of_ble_eq_true rfl⟩, hts (.static yX0_unitAt) (by decide +kernel), trivial⟩) (x_preS hS hE hK hP hD [] rfl (by decide) (x_ro hS hA) xR0) rfl rfl hl.1 rfl (lv_room (Nat.le_of_ble_eq_true rfl)) dX3_writeMagic_6 ⟨Nat.le_of_ble_eq_true rfl, Nat.le_of_ble_eq_true rfl⟩) hS hA hP (fun r_1 H locs hr_1 hP hS => ?_)
  subst hr_1
  refine va_gets (pc := 9) hx hb (hE.2.2.1).1 hS hown (hts (.fieldLink RX3 183 "ScratchSwap" "MAGIC" "[I") (by decide +kernel)) (fun _ h9 => h9) dX3_writeMagic_9 ?_
  refine lv_bipush (pc := 12) (v := nI 8) hx hb dX3_writeMagic_12 (by decide) ?_
  refine x_wri (pc := 14) (va_runVN (As := [.int (nI (i0 * 256 + 0 * 8)), .ref (tt 0), .int (nI 8)]) (rest := []) ⟨hx, hb, hml, hown, hts⟩ (kX0_writeRow l dC dI tt cI cB _ a1 a2 a3 a4 k ut (tt 0) 8 magG (i0 * 256 + 0 * 8) 8 1 hk (by omega) (by omega) (by omega) (by omega) (by omega)) (⟨va_cnB 3 hts gX3_writeMagic_X0_writeRow_n83 rfl rfl rfl (hE.m 9 (q := (RX3, 83, yX0_writeRow, "ScratchSwap")) rfl) (hts (.initialized RX0) (by decide +kernel)) (by decide +kernel) ⟨Nat.le_of_ble_eq_true rfl, Nat.le_of_ble_eq_true rfl⟩, hts (.instanceMethod yX0_writeRow) (by decide +kernel), hts (.selects RX0 yX0_writeRow yX0_writeRow) (by decide +kernel)⟩) (x_preV hS hE hK hP hD [1, 2, 3, 4] rfl (by decide) (va_free hD hS hA [1, 2, 3, 4] rfl) (xRm hS hE (va_free hD hS hA [1, 2, 3, 4] rfl)) 0 1 rfl rfl) rfl rfl hl.1 rfl (lv_room (Nat.le_of_ble_eq_true rfl)) dX3_writeMagic_14 ⟨Nat.le_of_ble_eq_true rfl, Nat.le_of_ble_eq_true rfl⟩) hS hA hP hD [1, 2, 3, 4] [0, 5, 6, 7, 8, 9] rfl rfl (by decide) (by decide) (fun r_3 u_2 H locs hu_2 hP hD hS => ?_)
  obtain ⟨k_5, t_6⟩ := u_2
  obtain ⟨hr_3, ek_5⟩ : r_3 = bI (kActs (rowL (i0 * 256 + 0 * 8) magG 8 1 0) k).2 ∧ k_5 = (kActs (rowL (i0 * 256 + 0 * 8) magG 8 1 0) k).1 := hu_2
  obtain ⟨b_4, eb_4⟩ : ∃ z, z = (kActs (rowL (i0 * 256 + 0 * 8) magG 8 1 0) k).2 := ⟨_, rfl⟩
  rw [← eb_4] at hr_3
  subst hr_3
  have hP := hP.sub (ws' := xW a0 a1 a2 a3 a4 a5 a6 a7 a8 a9 cI k_5 t_6 tb tn sc hs rn rv wb ee we) [0, 6, 7, 8, 9, 1, 2, 3, 4, 5] rfl
  have hD := hD.sub (ws' := xW a0 a1 a2 a3 a4 a5 a6 a7 a8 a9 cI k_5 t_6 tb tn sc hs rn rv wb ee we) [0, 6, 7, 8, 9, 1, 2, 3, 4, 5] (by decide) rfl
  exact W.zret (v := bI b_4) hx hb hr (nbI b_4) (fun t ht hW => ⟨⟨bI b_4, (k_5, t_6), rfl, ⟨by rw [← rowL_mag, eb_4], by rw [← rowL_mag]; exact ek_5⟩, by show va_P _ _ _ t.heap; rw [ht]; exact hP, va_K.moved hW.alike hK, hD⟩, hS.F ht⟩) hS.2.2 dX3_writeMagic_17
set_option maxHeartbeats 4000000 in
set_option maxRecDepth 100000 in
theorem kX3_eraseSlot (l : Launch) (dC : Nat → ClassId) (dI : Nat → Nat → Nat) (tt : Nat → Nat) (cI cB : ClassId) (sz : Nat) (a0 a1 a2 a3 a4 a5 a6 a7 a8 a9 : Nat) (k : K0) (ut : Nat → Int32) (tb : Nat → Int8) (tn : Nat) (sc hs : Nat → Int32) (rn : Bool) (rv wb ee we : Int32) (w : Nat) (hk : kOk k) (hw2 : w < 2) : MetI (S := K0) l yX3_eraseSlot wsX3_eraseSlot { frames := 2, cells := 0, slots := 0, locals := 45 } (dC, dI) [(cI, .int), (cB, .byte)] tt [] sz (xW a0 a1 a2 a3 a4 a5 a6 a7 a8 a9 cI k ut tb tn sc hs rn rv wb ee we) [.ref a0, .int (nI w)] (fun u : K0 => xW a0 a1 a2 a3 a4 a5 a6 a7 a8 a9 cI u ut tb tn sc hs rn rv wb ee we) (fun r u => r = bI (kActs (eraL w) k).2 ∧ u = (kActs (eraL w) k).1) := by
  refine Met.ofW (cc := cX3_eraseSlot) (maxL := 4) (ret := (some .boolean)) (by decide) rfl ?_
  intro p e s m args below meth c s₁ B hml hv
  obtain ⟨rfl, hsz, hP, hK, hD0, hE⟩ := hv
  have hx := B.exec
  have hb := B.bytes
  have hr := B.returns
  have hts := atoms_spec (ws := wsX3_eraseSlot) B.pre
  have hown : s.vm.findClass RX3 = some m.cls := findClass_of_methodNamed B.named
  have hlocks := B.notSynchronized
  subst hsz
  have hD := hD0.self (sz := s.heap.size)
  generalize hAe : va_A (xW a0 a1 a2 a3 a4 a5 a6 a7 a8 a9 cI k ut tb tn sc hs rn rv wb ee we) s.heap.size = A at hD hE ⊢
  have hA : ∀ q : Nat, s.heap.size ≤ q → A q := fun q h => by rw [← hAe]; exact Or.inr h
  have hS : va_S A s.heap s.heap [] := va_S.rf
  have hl := lv_entry ([.ref a0, .int (nI w)]) (n := 4) (Nat.le_of_ble_eq_true rfl)
  rw [lg_entry_eq]
  generalize (lg_sl ([.ref a0, .int (nI w)]) ++ List.replicate (4 - (lg_sl ([.ref a0, .int (nI w)])).length) Slot.unset).toArray = ls at hl ⊢
  have hl : lv_has ls 4 [(0, .ref a0), (1, .int (nI w))] := hl
  have hP : va_P (dC, dI) vwCl (xW a0 a1 a2 a3 a4 a5 a6 a7 a8 a9 cI k ut tb tn sc hs rn rv wb ee we) s.heap := hP
  refine lv_iload_n (pc := 0) hx hb dX3_eraseSlot_0 rfl (lv_at hl 1 rfl) ?_
  refine x_roi (pc := 1) (va_runS (As := [.int (nI w)]) (rest := []) ⟨hx, hb, hml, hown, hts⟩ (kX3_firstSectorOf l dC dI tt cI cB _ w (by omega)) (va_cwS 1 hts gX3_eraseSlot_X3_firstSectorOf rfl rfl rfl (by decide +kernel) ⟨Nat.le_of_ble_eq_true rfl, Nat.le_of_ble_eq_true rfl⟩) (x_preS hS hE hK hP hD [] rfl (by decide) (x_ro hS hA) xR0) rfl rfl hl.1 rfl (lv_room (Nat.le_of_ble_eq_true rfl)) dX3_eraseSlot_1 ⟨Nat.le_of_ble_eq_true rfl, Nat.le_of_ble_eq_true rfl⟩) hS hA hP (fun r_1 H locs hr_1 hP hS => ?_)
  subst hr_1
  refine lv_istore_n (pc := 4) (lv' := [(2, .int (nI (w * 5))), (0, .ref a0), (1, .int (nI w))]) hx hb dX3_eraseSlot_4 rfl hl (by decide) rfl (fun ls hl => ?_)
  refine lv_iconst (pc := 5) (v := nI 0) hx hb dX3_eraseSlot_5 (by decide) ?_
  refine lv_istore_n (pc := 6) (lv' := [(3, .int (nI 0)), (2, .int (nI (w * 5))), (0, .ref a0), (1, .int (nI w))]) hx hb dX3_eraseSlot_6 rfl hl (by decide) rfl (fun ls hl => ?_)
  refine x_loop (σ := (Nat) × (Nat) × (K0)) (Wd := fun x : (Nat) × (Nat) × (K0) => match x with | (d, j, k0) => xW a0 a1 a2 a3 a4 a5 a6 a7 a8 a9 cI k0 ut tb tn sc hs rn rv wb ee we) (Lv := fun x : (Nat) × (Nat) × (K0) => match x with | (d, j, k0) => [(3, .int (nI j)), (2, .int (nI (w * 5))), (0, .ref a0), (1, .int (nI w))]) (I := fun x : (Nat) × (Nat) × (K0) => match x with | (d, j, k0) => (kActs (eraL w) k = kActs (eraN w d j) k0) ∧ (j + d = 4) ∧ (kOk k0)) (μ := fun x : (Nat) × (Nat) × (K0) => match x with | (d, j, k0) => d) ?_ (4, 0, k) ⟨rfl, rfl, hk⟩ hP hD hS (lv_sub hl [0, 1, 2, 3] rfl)
  intro x H locs ls hI hP hD hS hl ih7
  obtain ⟨d, j, k0⟩ := x
  obtain ⟨hT0, hd, hk0⟩ : (kActs (eraL w) k = kActs (eraN w d j) k0) ∧ (j + d = 4) ∧ (kOk k0) := hI
  have hP : va_P (dC, dI) vwCl (xW a0 a1 a2 a3 a4 a5 a6 a7 a8 a9 cI k0 ut tb tn sc hs rn rv wb ee we) _ := hP
  have hD : va_D A (xW a0 a1 a2 a3 a4 a5 a6 a7 a8 a9 cI k0 ut tb tn sc hs rn rv wb ee we) := hD
  have hl : lv_has ls 4 [(3, .int (nI j)), (2, .int (nI (w * 5))), (0, .ref a0), (1, .int (nI w))] := hl
  refine lv_iload_n (pc := 7) hx hb dX3_eraseSlot_7 rfl (lv_at hl 0 rfl) ?_
  refine lv_iconst (pc := 8) (v := nI 4) hx hb dX3_eraseSlot_8 (by decide) ?_
  refine lv_icmp_ge (pc := 9) (tgt := 33) hx hb dX3_eraseSlot_9 (by decide) (fun c1 => ?_) (fun c1 => ?_)
  · skip
    have c1 : 4 ≤ j := (nI_leI (a := 4) (b := j) (by omega) (by omega)).mp c1
    refine lv_aload_n (pc := 33) hx hb dX3_eraseSlot_33 rfl (lv_at hl 2 rfl) ?_
    refine va_get (pc := 34) (D := (dC, dI)) (ci := 3) (v := .ref a1) (C := RX3) (T := TX3) (N := 8) hx hb hts (by decide +kernel) hown hK hP 0 rfl rfl 0 (by decide) (hts (.fieldLink RX3 12 "ScratchSwap" "memory" "LScratchSwap$Memory;") (by decide +kernel)) (fun _ h9 => h9) rfl dX3_eraseSlot_34 ?_
    refine lv_iload_n (pc := 37) hx hb dX3_eraseSlot_37 rfl (lv_at hl 3 rfl) ?_
    refine x_roi (pc := 38) (va_runS (As := [.int (nI w)]) (rest := [.ref a1]) ⟨hx, hb, hml, hown, hts⟩ (kX3_trailerOf l dC dI tt cI cB _ w (by omega)) (va_cwS 1 hts gX3_eraseSlot_X3_trailerOf rfl rfl rfl (by decide +kernel) ⟨Nat.le_of_ble_eq_true rfl, Nat.le_of_ble_eq_true rfl⟩) (x_preS hS hE hK hP hD [] rfl (by decide) (x_ro hS hA) xR0) rfl rfl hl.1 rfl (lv_room (Nat.le_of_ble_eq_true rfl)) dX3_eraseSlot_38 ⟨Nat.le_of_ble_eq_true rfl, Nat.le_of_ble_eq_true rfl⟩) hS hA hP (fun r_2 H locs hr_2 hP hS => ?_)
    subst hr_2
    refine x_wri (pc := 41) (va_runVN (As := [.int (nI (w * 5 + 4))]) (rest := []) ⟨hx, hb, hml, hown, hts⟩ (kX0_eraseS l dC dI tt cI cB _ a1 a2 a3 a4 k0 ut (w * 5 + 4) (by omega) hk0) (⟨va_cnB 1 hts gX3_eraseSlot_X0_eraseSector_n192 rfl rfl rfl (hE.m 8 (q := (RX3, 192, yX0_eraseSector, "ScratchSwap")) rfl) (hts (.initialized RX0) (by decide +kernel)) (by decide +kernel) ⟨Nat.le_of_ble_eq_true rfl, Nat.le_of_ble_eq_true rfl⟩, hts (.instanceMethod yX0_eraseSector) (by decide +kernel), hts (.selects RX0 yX0_eraseSector yX0_eraseSector) (by decide +kernel)⟩) (x_preV hS hE hK hP hD [1, 2, 3, 4] rfl (by decide) (va_free hD hS hA [1, 2, 3, 4] rfl) xR0 0 1 rfl rfl) rfl rfl hl.1 rfl (lv_room (Nat.le_of_ble_eq_true rfl)) dX3_eraseSlot_41 ⟨Nat.le_of_ble_eq_true rfl, Nat.le_of_ble_eq_true rfl⟩) hS hA hP hD [1, 2, 3, 4] [0, 5, 6, 7, 8, 9] rfl rfl (by decide) (by decide) (fun r_4 u_3 H locs hu_3 hP hD hS => ?_)
    obtain ⟨hr_4, eu_3⟩ : r_4 = bI (kActs [.inl (w * 5 + 4)] k0).2 ∧ u_3 = (kActs [.inl (w * 5 + 4)] k0).1 := hu_3
    obtain ⟨b_5, eb_5⟩ : ∃ z, z = (kActs [.inl (w * 5 + 4)] k0).2 := ⟨_, rfl⟩
    rw [← eb_5] at hr_4
    subst hr_4
    have hP := hP.sub (ws' := xW a0 a1 a2 a3 a4 a5 a6 a7 a8 a9 cI u_3 ut tb tn sc hs rn rv wb ee we) [0, 6, 7, 8, 9, 1, 2, 3, 4, 5] rfl
    have hD := hD.sub (ws' := xW a0 a1 a2 a3 a4 a5 a6 a7 a8 a9 cI u_3 ut tb tn sc hs rn rv wb ee we) [0, 6, 7, 8, 9, 1, 2, 3, 4, 5] (by decide) rfl
    have hd0 : d = 0 := by omega
    rw [hd0] at hT0
    exact W.zret (v := bI b_5) hx hb hr (nbI b_5) (fun t ht hW => ⟨⟨bI b_5, u_3, rfl, ⟨by rw [hT0, eb_5]; rfl, by rw [hT0]; exact eu_3⟩, by show va_P _ _ _ t.heap; rw [ht]; exact hP, va_K.moved hW.alike hK, hD⟩, hS.F ht⟩) hS.2.2 dX3_eraseSlot_44
  · skip
    have c1 : ¬ 4 ≤ j := fun z => c1 ((nI_leI (a := 4) (b := j) (by omega) (by omega)).mpr z)
    obtain ⟨d, rfl⟩ : ∃ z, d = z + 1 := ⟨d - 1, by omega⟩
    refine lv_aload_n (pc := 12) hx hb dX3_eraseSlot_12 rfl (lv_at hl 2 rfl) ?_
    refine va_get (pc := 13) (D := (dC, dI)) (ci := 3) (v := .ref a1) (C := RX3) (T := TX3) (N := 8) hx hb hts (by decide +kernel) hown hK hP 0 rfl rfl 0 (by decide) (hts (.fieldLink RX3 12 "ScratchSwap" "memory" "LScratchSwap$Memory;") (by decide +kernel)) (fun _ h9 => h9) rfl dX3_eraseSlot_13 ?_
    refine lv_iload_n (pc := 16) hx hb dX3_eraseSlot_16 rfl (lv_at hl 1 rfl) ?_
    refine lv_iload_n (pc := 17) hx hb dX3_eraseSlot_17 rfl (lv_at hl 0 rfl) ?_
    refine lv_iadd (pc := 18) hx hb dX3_eraseSlot_18 ?_
    refine lv_cv (nI_add (w * 5) j) ?_
    refine x_wri (pc := 19) (va_runVN (As := [.int (nI ((w * 5) + j))]) (rest := []) ⟨hx, hb, hml, hown, hts⟩ (kX0_eraseS l dC dI tt cI cB _ a1 a2 a3 a4 k0 ut ((w * 5) + j) (by omega) hk0) (⟨va_cnB 1 hts gX3_eraseSlot_X0_eraseSector_n192 rfl rfl rfl (hE.m 8 (q := (RX3, 192, yX0_eraseSector, "ScratchSwap")) rfl) (hts (.initialized RX0) (by decide +kernel)) (by decide +kernel) ⟨Nat.le_of_ble_eq_true rfl, Nat.le_of_ble_eq_true rfl⟩, hts (.instanceMethod yX0_eraseSector) (by decide +kernel), hts (.selects RX0 yX0_eraseSector yX0_eraseSector) (by decide +kernel)⟩) (x_preV hS hE hK hP hD [1, 2, 3, 4] rfl (by decide) (va_free hD hS hA [1, 2, 3, 4] rfl) xR0 0 1 rfl rfl) rfl rfl hl.1 rfl (lv_room (Nat.le_of_ble_eq_true rfl)) dX3_eraseSlot_19 ⟨Nat.le_of_ble_eq_true rfl, Nat.le_of_ble_eq_true rfl⟩) hS hA hP hD [1, 2, 3, 4] [0, 5, 6, 7, 8, 9] rfl rfl (by decide) (by decide) (fun r_7 u_6 H locs hu_6 hP hD hS => ?_)
    obtain ⟨hr_7, eu_6⟩ : r_7 = bI (kActs [.inl ((w * 5) + j)] k0).2 ∧ u_6 = (kActs [.inl ((w * 5) + j)] k0).1 := hu_6
    obtain ⟨b_8, eb_8⟩ : ∃ z, z = (kActs [.inl ((w * 5) + j)] k0).2 := ⟨_, rfl⟩
    rw [← eb_8] at hr_7
    subst hr_7
    have hP := hP.sub (ws' := xW a0 a1 a2 a3 a4 a5 a6 a7 a8 a9 cI u_6 ut tb tn sc hs rn rv wb ee we) [0, 6, 7, 8, 9, 1, 2, 3, 4, 5] rfl
    have hD := hD.sub (ws' := xW a0 a1 a2 a3 a4 a5 a6 a7 a8 a9 cI u_6 ut tb tn sc hs rn rv wb ee we) [0, 6, 7, 8, 9, 1, 2, 3, 4, 5] (by decide) rfl
    refine lv_if_ne (pc := 22) (tgt := 27) hx hb dX3_eraseSlot_22 (by decide) (fun c2 => ?_) (fun c2 => ?_)
    · skip
      have c2 : b_8 = true := bI_1.mp c2
      have f1 : (kActs [.inl ((w * 5) + j)] k0).2 = true := eb_8.symm.trans c2
      have hk1 : kOk u_6 := by rw [eu_6]; exact kActs_ok hk0 f1
      have hF1 : u_6.1 = appL ([.inl ((w * 5) + j)]) k0.1 := by rw [eu_6]; exact kActs_F f1
      refine lv_iinc (pc := 27) (v := nI (j + 1)) (lv' := [(3, .int (nI (j + 1))), (2, .int (nI (w * 5))), (0, .ref a0), (1, .int (nI w))]) hx hb dX3_eraseSlot_27 hl (k := 0) rfl (nI_inc j 1) (by decide) rfl (fun ls hl => ?_)
      refine lv_goto (pc := 30) (tgt := 7) hx hb dX3_eraseSlot_30 (by decide) ?_
      exact ih7 (d, j + 1, u_6) H locs ls ⟨by rw [hT0, eraN_s, app_t f1, ← eu_6], by omega, hk1⟩ (by first | omega | (simp only []; omega)) hP hD hS (lv_sub hl [0, 1, 2, 3] rfl)
    · skip
      have c2 : b_8 = false := bI_0.mp c2
      have f1 : (kActs [.inl ((w * 5) + j)] k0).2 = false := eb_8.symm.trans c2
      refine lv_iconst (pc := 25) (v := nI 0) hx hb dX3_eraseSlot_25 (by decide) ?_
      exact W.zret (v := nI 0) hx hb hr rfl (fun t ht hW => ⟨⟨nI 0, u_6, rfl, ⟨by rw [hT0, eraN_s, app_f f1, f1]; rfl, by rw [hT0, eraN_s, app_f f1]; exact eu_6⟩, by show va_P _ _ _ t.heap; rw [ht]; exact hP, va_K.moved hW.alike hK, hD⟩, hS.F ht⟩) hS.2.2 dX3_eraseSlot_26
set_option maxHeartbeats 4000000 in
set_option maxRecDepth 100000 in
theorem kX3_eraseWrong (l : Launch) (dC : Nat → ClassId) (dI : Nat → Nat → Nat) (tt : Nat → Nat) (cI cB : ClassId) (sz : Nat) (a0 a1 a2 a3 a4 a5 a6 a7 a8 a9 : Nat) (k : K0) (ut : Nat → Int32) (tb : Nat → Int8) (tn : Nat) (sc hs : Nat → Int32) (rn : Bool) (rv wb ee we : Int32) (hk : kOk k) : MetI (S := (K0 × Int32)) l yX3_eraseWrong wsX3_eraseWrong { frames := 2, cells := 0, slots := 0, locals := 45 } (dC, dI) [(cI, .int), (cB, .byte)] tt [] sz (xW a0 a1 a2 a3 a4 a5 a6 a7 a8 a9 cI k ut tb tn sc hs rn rv wb ee we) [.ref a0] (fun u : (K0 × Int32) => xW a0 a1 a2 a3 a4 a5 a6 a7 a8 a9 cI u.1 ut tb tn sc hs rn rv wb ee u.2) (fun r u => r = bI (kActs [.inl 9] k).2 ∧ u.1 = (kActs [.inl 9] k).1 ∧ u.2 = if (kActs [.inl 9] k).2 = true then we + nI 1 else we) := by
  refine Met.ofW (cc := cX3_eraseWrong) (maxL := 1) (ret := (some .boolean)) (by decide) rfl ?_
  intro p e s m args below meth c s₁ B hml hv
  obtain ⟨rfl, hsz, hP, hK, hD0, hE⟩ := hv
  have hx := B.exec
  have hb := B.bytes
  have hr := B.returns
  have hts := atoms_spec (ws := wsX3_eraseWrong) B.pre
  have hown : s.vm.findClass RX3 = some m.cls := findClass_of_methodNamed B.named
  have hlocks := B.notSynchronized
  subst hsz
  have hD := hD0.self (sz := s.heap.size)
  generalize hAe : va_A (xW a0 a1 a2 a3 a4 a5 a6 a7 a8 a9 cI k ut tb tn sc hs rn rv wb ee we) s.heap.size = A at hD hE ⊢
  have hA : ∀ q : Nat, s.heap.size ≤ q → A q := fun q h => by rw [← hAe]; exact Or.inr h
  have hS : va_S A s.heap s.heap [] := va_S.rf
  have hl := lv_entry ([.ref a0]) (n := 1) (Nat.le_of_ble_eq_true rfl)
  rw [lg_entry_eq]
  generalize (lg_sl ([.ref a0]) ++ List.replicate (1 - (lg_sl ([.ref a0])).length) Slot.unset).toArray = ls at hl ⊢
  have hl : lv_has ls 1 [(0, .ref a0)] := hl
  have hP : va_P (dC, dI) vwCl (xW a0 a1 a2 a3 a4 a5 a6 a7 a8 a9 cI k ut tb tn sc hs rn rv wb ee we) s.heap := hP
  refine lv_aload_n (pc := 0) hx hb dX3_eraseWrong_0 rfl (lv_at hl 0 rfl) ?_
  refine va_get (pc := 1) (D := (dC, dI)) (ci := 3) (v := .ref a1) (C := RX3) (T := TX3) (N := 8) hx hb hts (by decide +kernel) hown hK hP 0 rfl rfl 0 (by decide) (hts (.fieldLink RX3 12 "ScratchSwap" "memory" "LScratchSwap$Memory;") (by decide +kernel)) (fun _ h9 => h9) rfl dX3_eraseWrong_1 ?_
  refine lv_bipush (pc := 4) (v := nI 9) hx hb dX3_eraseWrong_4 (by decide) ?_
  refine x_wri (pc := 6) (va_runVN (As := [.int (nI 9)]) (rest := []) ⟨hx, hb, hml, hown, hts⟩ (kX0_eraseS l dC dI tt cI cB _ a1 a2 a3 a4 k ut 9 (by omega) hk) (⟨va_cnB 1 hts gX3_eraseWrong_X0_eraseSector_n192 rfl rfl rfl (hE.m 8 (q := (RX3, 192, yX0_eraseSector, "ScratchSwap")) rfl) (hts (.initialized RX0) (by decide +kernel)) (by decide +kernel) ⟨Nat.le_of_ble_eq_true rfl, Nat.le_of_ble_eq_true rfl⟩, hts (.instanceMethod yX0_eraseSector) (by decide +kernel), hts (.selects RX0 yX0_eraseSector yX0_eraseSector) (by decide +kernel)⟩) (x_preV hS hE hK hP hD [1, 2, 3, 4] rfl (by decide) (va_free hD hS hA [1, 2, 3, 4] rfl) xR0 0 1 rfl rfl) rfl rfl hl.1 rfl (lv_room (Nat.le_of_ble_eq_true rfl)) dX3_eraseWrong_6 ⟨Nat.le_of_ble_eq_true rfl, Nat.le_of_ble_eq_true rfl⟩) hS hA hP hD [1, 2, 3, 4] [0, 5, 6, 7, 8, 9] rfl rfl (by decide) (by decide) (fun r_2 u_1 H locs hu_1 hP hD hS => ?_)
  obtain ⟨hr_2, eu_1⟩ : r_2 = bI (kActs [.inl 9] k).2 ∧ u_1 = (kActs [.inl 9] k).1 := hu_1
  obtain ⟨b_3, eb_3⟩ : ∃ z, z = (kActs [.inl 9] k).2 := ⟨_, rfl⟩
  rw [← eb_3] at hr_2
  subst hr_2
  have hP := hP.sub (ws' := xW a0 a1 a2 a3 a4 a5 a6 a7 a8 a9 cI u_1 ut tb tn sc hs rn rv wb ee we) [0, 6, 7, 8, 9, 1, 2, 3, 4, 5] rfl
  have hD := hD.sub (ws' := xW a0 a1 a2 a3 a4 a5 a6 a7 a8 a9 cI u_1 ut tb tn sc hs rn rv wb ee we) [0, 6, 7, 8, 9, 1, 2, 3, 4, 5] (by decide) rfl
  refine lv_if_ne (pc := 9) (tgt := 14) hx hb dX3_eraseWrong_9 (by decide) (fun c1 => ?_) (fun c1 => ?_)
  · skip
    have c1 : b_3 = true := bI_1.mp c1
    have f1 : (kActs [.inl 9] k).2 = true := eb_3.symm.trans c1
    have hk1 : kOk u_1 := by rw [eu_1]; exact kActs_ok hk f1
    have hF1 : u_1.1 = appL ([.inl 9]) k.1 := by rw [eu_1]; exact kActs_F f1
    refine lv_aload_n (pc := 14) hx hb dX3_eraseWrong_14 rfl (lv_at hl 0 rfl) ?_
    refine lv_dup (pc := 15) hx hb dX3_eraseWrong_15 rfl ?_
    refine va_get (pc := 16) (D := (dC, dI)) (ci := 3) (v := .int we) (C := RX3) (T := TX3) (N := 8) hx hb hts (by decide +kernel) hown hK hP 0 rfl rfl 7 (by decide) (hts (.fieldLink RX3 44 "ScratchSwap" "wrongsErased" "I") (by decide +kernel)) (fun _ h9 => h9) rfl dX3_eraseWrong_16 ?_
    refine lv_iconst (pc := 19) (v := nI 1) hx hb dX3_eraseWrong_19 (by decide) ?_
    refine lv_iadd (pc := 20) hx hb dX3_eraseWrong_20 ?_
    refine va_put (pc := 21) (D := (dC, dI)) (ci := 3) (v := .int (we + (nI 1))) (ty := .int) (C := RX3) (T := TX3) (N := 8) hx hb hts (by decide +kernel) tyX3 tyX3_ok nmX3 hown hK hP hD hS 0 rfl rfl 7 (by decide) (hts (.fieldLink RX3 44 "ScratchSwap" "wrongsErased" "I") (by decide +kernel)) (fun _ h9 => h9) rfl (by decide +kernel) rfl rfl (Nat.le_of_ble_eq_true rfl) dX3_eraseWrong_21 (fun H locs hP hD hS => ?_)
    have hP : va_P (dC, dI) vwCl (xW a0 a1 a2 a3 a4 a5 a6 a7 a8 a9 cI u_1 ut tb tn sc hs rn rv wb ee (we + (nI 1))) _ := hP
    have hD : va_D A (xW a0 a1 a2 a3 a4 a5 a6 a7 a8 a9 cI u_1 ut tb tn sc hs rn rv wb ee (we + (nI 1))) := hD
    refine lv_iconst (pc := 24) (v := nI 1) hx hb dX3_eraseWrong_24 (by decide) ?_
    exact W.zret (v := nI 1) hx hb hr rfl (fun t ht hW => ⟨⟨nI 1, (u_1, we + (nI 1)), rfl, ⟨by rw [f1]; rfl, eu_1, by rw [if_pos f1]⟩, by show va_P _ _ _ t.heap; rw [ht]; exact hP, va_K.moved hW.alike hK, hD⟩, hS.F ht⟩) hS.2.2 dX3_eraseWrong_25
  · skip
    have c1 : b_3 = false := bI_0.mp c1
    have f1 : (kActs [.inl 9] k).2 = false := eb_3.symm.trans c1
    refine lv_iconst (pc := 12) (v := nI 0) hx hb dX3_eraseWrong_12 (by decide) ?_
    exact W.zret (v := nI 0) hx hb hr rfl (fun t ht hW => ⟨⟨nI 0, (u_1, we), rfl, ⟨by rw [f1]; rfl, eu_1, by rw [if_neg (by rw [f1]; decide)]⟩, by show va_P _ _ _ t.heap; rw [ht]; exact hP, va_K.moved hW.alike hK, hD⟩, hS.F ht⟩) hS.2.2 dX3_eraseWrong_13
set_option maxHeartbeats 4000000 in
set_option maxRecDepth 100000 in
theorem kX3_beginExchange (l : Launch) (dC : Nat → ClassId) (dI : Nat → Nat → Nat) (tt : Nat → Nat) (cI cB : ClassId) (sz : Nat) (a0 a1 a2 a3 a4 a5 a6 a7 a8 a9 : Nat) (k : K0) (ut : Nat → Int32) (tb : Nat → Int8) (tn : Nat) (sc hs : Nat → Int32) (rn : Bool) (rv wb ee we : Int32) (kd : Nat) (hk : kOk k) (hkd : kd < 6) : MetI (S := K0) l yX3_beginExchange wsX3_beginExchange { frames := 2, cells := 0, slots := 0, locals := 47 } (dC, dI) [(cI, .int), (cB, .byte)] tt [] sz (xW a0 a1 a2 a3 a4 a5 a6 a7 a8 a9 cI k ut tb tn sc hs rn rv wb ee we) [.ref a0, .int (nI kd)] (fun u : K0 => xW a0 a1 a2 a3 a4 a5 a6 a7 a8 a9 cI u ut tb tn sc hs rn rv wb ee we) (fun r u => r = bI (kActs (begL k.1 kd) k).2 ∧ u = (kActs (begL k.1 kd) k).1) := by
  refine Met.ofW (cc := cX3_beginExchange) (maxL := 2) (ret := (some .boolean)) (by decide) rfl ?_
  intro p e s m args below meth c s₁ B hml hv
  obtain ⟨rfl, hsz, hP, hK, hD0, hE⟩ := hv
  have hx := B.exec
  have hb := B.bytes
  have hr := B.returns
  have hts := atoms_spec (ws := wsX3_beginExchange) B.pre
  have hown : s.vm.findClass RX3 = some m.cls := findClass_of_methodNamed B.named
  have hlocks := B.notSynchronized
  subst hsz
  have hD := hD0.self (sz := s.heap.size)
  generalize hAe : va_A (xW a0 a1 a2 a3 a4 a5 a6 a7 a8 a9 cI k ut tb tn sc hs rn rv wb ee we) s.heap.size = A at hD hE ⊢
  have hA : ∀ q : Nat, s.heap.size ≤ q → A q := fun q h => by rw [← hAe]; exact Or.inr h
  have hS : va_S A s.heap s.heap [] := va_S.rf
  have hl := lv_entry ([.ref a0, .int (nI kd)]) (n := 2) (Nat.le_of_ble_eq_true rfl)
  rw [lg_entry_eq]
  generalize (lg_sl ([.ref a0, .int (nI kd)]) ++ List.replicate (2 - (lg_sl ([.ref a0, .int (nI kd)])).length) Slot.unset).toArray = ls at hl ⊢
  have hl : lv_has ls 2 [(0, .ref a0), (1, .int (nI kd))] := hl
  have hP : va_P (dC, dI) vwCl (xW a0 a1 a2 a3 a4 a5 a6 a7 a8 a9 cI k ut tb tn sc hs rn rv wb ee we) s.heap := hP
  refine lv_aload_n (pc := 0) hx hb dX3_beginExchange_0 rfl (lv_at hl 0 rfl) ?_
  refine va_get (pc := 1) (D := (dC, dI)) (ci := 3) (v := .ref a1) (C := RX3) (T := TX3) (N := 8) hx hb hts (by decide +kernel) hown hK hP 0 rfl rfl 0 (by decide) (hts (.fieldLink RX3 12 "ScratchSwap" "memory" "LScratchSwap$Memory;") (by decide +kernel)) (fun _ h9 => h9) rfl dX3_beginExchange_1 ?_
  refine lv_bipush (pc := 4) (v := nI 9) hx hb dX3_beginExchange_4 (by decide) ?_
  refine lv_iconst (pc := 6) (v := nI 1) hx hb dX3_beginExchange_6 (by decide) ?_
  refine x_roi (pc := 7) (va_runVN (As := [.int (nI 9), .int (nI 1)]) (rest := []) ⟨hx, hb, hml, hown, hts⟩ (kX0_markIn l dC dI tt cI cB _ a1 a2 a3 a4 k ut 9 1 (by omega)) (⟨va_cnB 2 hts gX3_beginExchange_X0_markIn_n144 rfl rfl rfl (hE.m 7 (q := (RX3, 144, yX0_markIn, "ScratchSwap")) rfl) (hts (.initialized RX0) (by decide +kernel)) (by decide +kernel) ⟨Nat.le_of_ble_eq_true rfl, Nat.le_of_ble_eq_true rfl⟩, hts (.instanceMethod yX0_markIn) (by decide +kernel), hts (.selects RX0 yX0_markIn yX0_markIn) (by decide +kernel)⟩) (x_preV hS hE hK hP hD [1, 2, 3, 4] rfl (by decide) (x_ro hS hA) xR0 0 1 rfl rfl) rfl rfl hl.1 rfl (lv_room (Nat.le_of_ble_eq_true rfl)) dX3_beginExchange_7 ⟨Nat.le_of_ble_eq_true rfl, Nat.le_of_ble_eq_true rfl⟩) hS hA hP (fun r_1 H locs hr_1 hP hS => ?_)
  subst hr_1
  have hs_2 := setN_le k.1 (9 * 256 + 1 * 8)
  refine lv_iload_n (pc := 10) hx hb dX3_beginExchange_10 rfl (lv_at hl 1 rfl) ?_
  refine lv_icmp_eq (pc := 11) (tgt := 30) hx hb dX3_beginExchange_11 (by decide) (fun c1 => ?_) (fun c1 => ?_)
  · skip
    have c1 : (setN k.1 (9 * 256 + 1 * 8)) = kd := (nI_eq (a := (setN k.1 (9 * 256 + 1 * 8))) (b := kd) (by omega) (by omega)).mp c1
    refine lv_aload_n (pc := 30) hx hb dX3_beginExchange_30 rfl (lv_at hl 0 rfl) ?_
    refine va_get (pc := 31) (D := (dC, dI)) (ci := 3) (v := .ref a1) (C := RX3) (T := TX3) (N := 8) hx hb hts (by decide +kernel) hown hK hP 0 rfl rfl 0 (by decide) (hts (.fieldLink RX3 12 "ScratchSwap" "memory" "LScratchSwap$Memory;") (by decide +kernel)) (fun _ h9 => h9) rfl dX3_beginExchange_31 ?_
    refine lv_iconst (pc := 34) (v := nI 4) hx hb dX3_beginExchange_34 (by decide) ?_
    refine x_wri (pc := 35) (va_runVN (As := [.int (nI 4)]) (rest := []) ⟨hx, hb, hml, hown, hts⟩ (kX0_eraseS l dC dI tt cI cB _ a1 a2 a3 a4 k ut 4 (by omega) hk) (⟨va_cnB 1 hts gX3_beginExchange_X0_eraseSector_n192 rfl rfl rfl (hE.m 8 (q := (RX3, 192, yX0_eraseSector, "ScratchSwap")) rfl) (hts (.initialized RX0) (by decide +kernel)) (by decide +kernel) ⟨Nat.le_of_ble_eq_true rfl, Nat.le_of_ble_eq_true rfl⟩, hts (.instanceMethod yX0_eraseSector) (by decide +kernel), hts (.selects RX0 yX0_eraseSector yX0_eraseSector) (by decide +kernel)⟩) (x_preV hS hE hK hP hD [1, 2, 3, 4] rfl (by decide) (va_free hD hS hA [1, 2, 3, 4] rfl) xR0 0 1 rfl rfl) rfl rfl hl.1 rfl (lv_room (Nat.le_of_ble_eq_true rfl)) dX3_beginExchange_35 ⟨Nat.le_of_ble_eq_true rfl, Nat.le_of_ble_eq_true rfl⟩) hS hA hP hD [1, 2, 3, 4] [0, 5, 6, 7, 8, 9] rfl rfl (by decide) (by decide) (fun r_4 u_3 H locs hu_3 hP hD hS => ?_)
    obtain ⟨hr_4, eu_3⟩ : r_4 = bI (kActs [.inl 4] k).2 ∧ u_3 = (kActs [.inl 4] k).1 := hu_3
    obtain ⟨b_5, eb_5⟩ : ∃ z, z = (kActs [.inl 4] k).2 := ⟨_, rfl⟩
    rw [← eb_5] at hr_4
    subst hr_4
    have hP := hP.sub (ws' := xW a0 a1 a2 a3 a4 a5 a6 a7 a8 a9 cI u_3 ut tb tn sc hs rn rv wb ee we) [0, 6, 7, 8, 9, 1, 2, 3, 4, 5] rfl
    have hD := hD.sub (ws' := xW a0 a1 a2 a3 a4 a5 a6 a7 a8 a9 cI u_3 ut tb tn sc hs rn rv wb ee we) [0, 6, 7, 8, 9, 1, 2, 3, 4, 5] (by decide) rfl
    refine lv_if_eq (pc := 38) (tgt := 58) hx hb dX3_beginExchange_38 (by decide) (fun c3 => ?_) (fun c3 => ?_)
    · skip
      have c3 : b_5 = false := bI_0.mp c3
      have f2 : (kActs [.inl 4] k).2 = false := eb_5.symm.trans c3
      refine lv_iconst (pc := 58) (v := nI 0) hx hb dX3_beginExchange_58 (by decide) ?_
      exact W.zret (v := nI 0) hx hb hr rfl (fun t ht hW => ⟨⟨nI 0, u_3, rfl, ⟨by rw [begL, if_pos c1, List.nil_append, app_f f2, f2]; rfl, by rw [begL, if_pos c1, List.nil_append, app_f f2]; exact eu_3⟩, by show va_P _ _ _ t.heap; rw [ht]; exact hP, va_K.moved hW.alike hK, hD⟩, hS.F ht⟩) hS.2.2 dX3_beginExchange_59
    · skip
      have c3 : b_5 = true := bI_1.mp c3
      have f2 : (kActs [.inl 4] k).2 = true := eb_5.symm.trans c3
      have hk2 : kOk u_3 := by rw [eu_3]; exact kActs_ok hk f2
      have hF2 : u_3.1 = appL ([.inl 4]) k.1 := by rw [eu_3]; exact kActs_F f2
      refine lv_aload_n (pc := 41) hx hb dX3_beginExchange_41 rfl (lv_at hl 0 rfl) ?_
      refine va_get (pc := 42) (D := (dC, dI)) (ci := 3) (v := .ref a1) (C := RX3) (T := TX3) (N := 8) hx hb hts (by decide +kernel) hown hK hP 0 rfl rfl 0 (by decide) (hts (.fieldLink RX3 12 "ScratchSwap" "memory" "LScratchSwap$Memory;") (by decide +kernel)) (fun _ h9 => h9) rfl dX3_beginExchange_42 ?_
      refine lv_iconst (pc := 45) (v := nI 4) hx hb dX3_beginExchange_45 (by decide) ?_
      refine lv_iconst (pc := 46) (v := nI 1) hx hb dX3_beginExchange_46 (by decide) ?_
      refine lv_iload_n (pc := 47) hx hb dX3_beginExchange_47 rfl (lv_at hl 1 rfl) ?_
      refine x_wri (pc := 48) (va_runVN (As := [.int (nI 4), .int (nI 1), .int (nI kd)]) (rest := []) ⟨hx, hb, hml, hown, hts⟩ (kX0_markUnit l dC dI tt cI cB _ a1 a2 a3 a4 u_3 ut 4 1 (nI kd) hk2 (by omega)) (⟨va_cnB 3 hts gX3_beginExchange_X0_markUnit_n91 rfl rfl rfl (hE.m 10 (q := (RX3, 91, yX0_markUnit, "ScratchSwap")) rfl) (hts (.initialized RX0) (by decide +kernel)) (by decide +kernel) ⟨Nat.le_of_ble_eq_true rfl, Nat.le_of_ble_eq_true rfl⟩, hts (.instanceMethod yX0_markUnit) (by decide +kernel), hts (.selects RX0 yX0_markUnit yX0_markUnit) (by decide +kernel)⟩) (x_preV hS hE hK hP hD [1, 2, 3, 4] rfl (by decide) (va_free hD hS hA [1, 2, 3, 4] rfl) xR0 0 1 rfl rfl) rfl rfl hl.1 rfl (lv_room (Nat.le_of_ble_eq_true rfl)) dX3_beginExchange_48 ⟨Nat.le_of_ble_eq_true rfl, Nat.le_of_ble_eq_true rfl⟩) hS hA hP hD [1, 2, 3, 4] [0, 5, 6, 7, 8, 9] rfl rfl (by decide) (by decide) (fun r_7 u_6 H locs hu_6 hP hD hS => ?_)
      obtain ⟨hr_7, eu_6⟩ : r_7 = bI (kActs (markL (4 * 256 + 1 * 8) (nI kd)) u_3).2 ∧ u_6 = (kActs (markL (4 * 256 + 1 * 8) (nI kd)) u_3).1 := hu_6
      obtain ⟨b_8, eb_8⟩ : ∃ z, z = (kActs (markL (4 * 256 + 1 * 8) (nI kd)) u_3).2 := ⟨_, rfl⟩
      rw [← eb_8] at hr_7
      subst hr_7
      have hP := hP.sub (ws' := xW a0 a1 a2 a3 a4 a5 a6 a7 a8 a9 cI u_6 ut tb tn sc hs rn rv wb ee we) [0, 6, 7, 8, 9, 1, 2, 3, 4, 5] rfl
      have hD := hD.sub (ws' := xW a0 a1 a2 a3 a4 a5 a6 a7 a8 a9 cI u_6 ut tb tn sc hs rn rv wb ee we) [0, 6, 7, 8, 9, 1, 2, 3, 4, 5] (by decide) rfl
      refine lv_if_eq (pc := 51) (tgt := 58) hx hb dX3_beginExchange_51 (by decide) (fun c4 => ?_) (fun c4 => ?_)
      · skip
        have c4 : b_8 = false := bI_0.mp c4
        have f3 : (kActs (markL (4 * 256 + 1 * 8) (nI kd)) u_3).2 = false := eb_8.symm.trans c4
        refine lv_iconst (pc := 58) (v := nI 0) hx hb dX3_beginExchange_58 (by decide) ?_
        exact W.zret (v := nI 0) hx hb hr rfl (fun t ht hW => ⟨⟨nI 0, u_6, rfl, ⟨by rw [begL, if_pos c1, List.nil_append, app_t f2, ← eu_3, f3]; rfl, by rw [begL, if_pos c1, List.nil_append, app_t f2, ← eu_3]; exact eu_6⟩, by show va_P _ _ _ t.heap; rw [ht]; exact hP, va_K.moved hW.alike hK, hD⟩, hS.F ht⟩) hS.2.2 dX3_beginExchange_59
      · skip
        have c4 : b_8 = true := bI_1.mp c4
        have f3 : (kActs (markL (4 * 256 + 1 * 8) (nI kd)) u_3).2 = true := eb_8.symm.trans c4
        have hk3 : kOk u_6 := by rw [eu_6]; exact kActs_ok hk2 f3
        have hF3 : u_6.1 = appL ((markL (4 * 256 + 1 * 8) (nI kd))) u_3.1 := by rw [eu_6]; exact kActs_F f3
        refine lv_iconst (pc := 54) (v := nI 1) hx hb dX3_beginExchange_54 (by decide) ?_
        refine lv_goto (pc := 55) (tgt := 59) hx hb dX3_beginExchange_55 (by decide) ?_
        exact W.zret (v := nI 1) hx hb hr rfl (fun t ht hW => ⟨⟨nI 1, u_6, rfl, ⟨by rw [begL, if_pos c1, List.nil_append, app_t f2, ← eu_3, f3]; rfl, by rw [begL, if_pos c1, List.nil_append, app_t f2, ← eu_3]; exact eu_6⟩, by show va_P _ _ _ t.heap; rw [ht]; exact hP, va_K.moved hW.alike hK, hD⟩, hS.F ht⟩) hS.2.2 dX3_beginExchange_59
  · skip
    have c1 : ¬ (setN k.1 (9 * 256 + 1 * 8)) = kd := fun z => c1 ((nI_eq (a := (setN k.1 (9 * 256 + 1 * 8))) (b := kd) (by omega) (by omega)).mpr z)
    refine lv_aload_n (pc := 14) hx hb dX3_beginExchange_14 rfl (lv_at hl 0 rfl) ?_
    refine va_get (pc := 15) (D := (dC, dI)) (ci := 3) (v := .ref a1) (C := RX3) (T := TX3) (N := 8) hx hb hts (by decide +kernel) hown hK hP 0 rfl rfl 0 (by decide) (hts (.fieldLink RX3 12 "ScratchSwap" "memory" "LScratchSwap$Memory;") (by decide +kernel)) (fun _ h9 => h9) rfl dX3_beginExchange_15 ?_
    refine lv_bipush (pc := 18) (v := nI 9) hx hb dX3_beginExchange_18 (by decide) ?_
    refine lv_iconst (pc := 20) (v := nI 1) hx hb dX3_beginExchange_20 (by decide) ?_
    refine lv_iload_n (pc := 21) hx hb dX3_beginExchange_21 rfl (lv_at hl 1 rfl) ?_
    refine x_wri (pc := 22) (va_runVN (As := [.int (nI 9), .int (nI 1), .int (nI kd)]) (rest := []) ⟨hx, hb, hml, hown, hts⟩ (kX0_markUnit l dC dI tt cI cB _ a1 a2 a3 a4 k ut 9 1 (nI kd) hk (by omega)) (⟨va_cnB 3 hts gX3_beginExchange_X0_markUnit_n91 rfl rfl rfl (hE.m 10 (q := (RX3, 91, yX0_markUnit, "ScratchSwap")) rfl) (hts (.initialized RX0) (by decide +kernel)) (by decide +kernel) ⟨Nat.le_of_ble_eq_true rfl, Nat.le_of_ble_eq_true rfl⟩, hts (.instanceMethod yX0_markUnit) (by decide +kernel), hts (.selects RX0 yX0_markUnit yX0_markUnit) (by decide +kernel)⟩) (x_preV hS hE hK hP hD [1, 2, 3, 4] rfl (by decide) (va_free hD hS hA [1, 2, 3, 4] rfl) xR0 0 1 rfl rfl) rfl rfl hl.1 rfl (lv_room (Nat.le_of_ble_eq_true rfl)) dX3_beginExchange_22 ⟨Nat.le_of_ble_eq_true rfl, Nat.le_of_ble_eq_true rfl⟩) hS hA hP hD [1, 2, 3, 4] [0, 5, 6, 7, 8, 9] rfl rfl (by decide) (by decide) (fun r_10 u_9 H locs hu_9 hP hD hS => ?_)
    obtain ⟨hr_10, eu_9⟩ : r_10 = bI (kActs (markL (9 * 256 + 1 * 8) (nI kd)) k).2 ∧ u_9 = (kActs (markL (9 * 256 + 1 * 8) (nI kd)) k).1 := hu_9
    obtain ⟨b_11, eb_11⟩ : ∃ z, z = (kActs (markL (9 * 256 + 1 * 8) (nI kd)) k).2 := ⟨_, rfl⟩
    rw [← eb_11] at hr_10
    subst hr_10
    have hP := hP.sub (ws' := xW a0 a1 a2 a3 a4 a5 a6 a7 a8 a9 cI u_9 ut tb tn sc hs rn rv wb ee we) [0, 6, 7, 8, 9, 1, 2, 3, 4, 5] rfl
    have hD := hD.sub (ws' := xW a0 a1 a2 a3 a4 a5 a6 a7 a8 a9 cI u_9 ut tb tn sc hs rn rv wb ee we) [0, 6, 7, 8, 9, 1, 2, 3, 4, 5] (by decide) rfl
    refine lv_if_ne (pc := 25) (tgt := 30) hx hb dX3_beginExchange_25 (by decide) (fun c2 => ?_) (fun c2 => ?_)
    · skip
      have c2 : b_11 = true := bI_1.mp c2
      have f1 : (kActs (markL (9 * 256 + 1 * 8) (nI kd)) k).2 = true := eb_11.symm.trans c2
      have hk1 : kOk u_9 := by rw [eu_9]; exact kActs_ok hk f1
      have hF1 : u_9.1 = appL ((markL (9 * 256 + 1 * 8) (nI kd))) k.1 := by rw [eu_9]; exact kActs_F f1
      refine lv_aload_n (pc := 30) hx hb dX3_beginExchange_30 rfl (lv_at hl 0 rfl) ?_
      refine va_get (pc := 31) (D := (dC, dI)) (ci := 3) (v := .ref a1) (C := RX3) (T := TX3) (N := 8) hx hb hts (by decide +kernel) hown hK hP 0 rfl rfl 0 (by decide) (hts (.fieldLink RX3 12 "ScratchSwap" "memory" "LScratchSwap$Memory;") (by decide +kernel)) (fun _ h9 => h9) rfl dX3_beginExchange_31 ?_
      refine lv_iconst (pc := 34) (v := nI 4) hx hb dX3_beginExchange_34 (by decide) ?_
      refine x_wri (pc := 35) (va_runVN (As := [.int (nI 4)]) (rest := []) ⟨hx, hb, hml, hown, hts⟩ (kX0_eraseS l dC dI tt cI cB _ a1 a2 a3 a4 u_9 ut 4 (by omega) hk1) (⟨va_cnB 1 hts gX3_beginExchange_X0_eraseSector_n192 rfl rfl rfl (hE.m 8 (q := (RX3, 192, yX0_eraseSector, "ScratchSwap")) rfl) (hts (.initialized RX0) (by decide +kernel)) (by decide +kernel) ⟨Nat.le_of_ble_eq_true rfl, Nat.le_of_ble_eq_true rfl⟩, hts (.instanceMethod yX0_eraseSector) (by decide +kernel), hts (.selects RX0 yX0_eraseSector yX0_eraseSector) (by decide +kernel)⟩) (x_preV hS hE hK hP hD [1, 2, 3, 4] rfl (by decide) (va_free hD hS hA [1, 2, 3, 4] rfl) xR0 0 1 rfl rfl) rfl rfl hl.1 rfl (lv_room (Nat.le_of_ble_eq_true rfl)) dX3_beginExchange_35 ⟨Nat.le_of_ble_eq_true rfl, Nat.le_of_ble_eq_true rfl⟩) hS hA hP hD [1, 2, 3, 4] [0, 5, 6, 7, 8, 9] rfl rfl (by decide) (by decide) (fun r_13 u_12 H locs hu_12 hP hD hS => ?_)
      obtain ⟨hr_13, eu_12⟩ : r_13 = bI (kActs [.inl 4] u_9).2 ∧ u_12 = (kActs [.inl 4] u_9).1 := hu_12
      obtain ⟨b_14, eb_14⟩ : ∃ z, z = (kActs [.inl 4] u_9).2 := ⟨_, rfl⟩
      rw [← eb_14] at hr_13
      subst hr_13
      have hP := hP.sub (ws' := xW a0 a1 a2 a3 a4 a5 a6 a7 a8 a9 cI u_12 ut tb tn sc hs rn rv wb ee we) [0, 6, 7, 8, 9, 1, 2, 3, 4, 5] rfl
      have hD := hD.sub (ws' := xW a0 a1 a2 a3 a4 a5 a6 a7 a8 a9 cI u_12 ut tb tn sc hs rn rv wb ee we) [0, 6, 7, 8, 9, 1, 2, 3, 4, 5] (by decide) rfl
      refine lv_if_eq (pc := 38) (tgt := 58) hx hb dX3_beginExchange_38 (by decide) (fun c3 => ?_) (fun c3 => ?_)
      · skip
        have c3 : b_14 = false := bI_0.mp c3
        have f2 : (kActs [.inl 4] u_9).2 = false := eb_14.symm.trans c3
        refine lv_iconst (pc := 58) (v := nI 0) hx hb dX3_beginExchange_58 (by decide) ?_
        exact W.zret (v := nI 0) hx hb hr rfl (fun t ht hW => ⟨⟨nI 0, u_12, rfl, ⟨by rw [begL, if_neg c1, app_t f1, ← eu_9, app_f f2, f2]; rfl, by rw [begL, if_neg c1, app_t f1, ← eu_9, app_f f2]; exact eu_12⟩, by show va_P _ _ _ t.heap; rw [ht]; exact hP, va_K.moved hW.alike hK, hD⟩, hS.F ht⟩) hS.2.2 dX3_beginExchange_59
      · skip
        have c3 : b_14 = true := bI_1.mp c3
        have f2 : (kActs [.inl 4] u_9).2 = true := eb_14.symm.trans c3
        have hk2 : kOk u_12 := by rw [eu_12]; exact kActs_ok hk1 f2
        have hF2 : u_12.1 = appL ([.inl 4]) u_9.1 := by rw [eu_12]; exact kActs_F f2
        refine lv_aload_n (pc := 41) hx hb dX3_beginExchange_41 rfl (lv_at hl 0 rfl) ?_
        refine va_get (pc := 42) (D := (dC, dI)) (ci := 3) (v := .ref a1) (C := RX3) (T := TX3) (N := 8) hx hb hts (by decide +kernel) hown hK hP 0 rfl rfl 0 (by decide) (hts (.fieldLink RX3 12 "ScratchSwap" "memory" "LScratchSwap$Memory;") (by decide +kernel)) (fun _ h9 => h9) rfl dX3_beginExchange_42 ?_
        refine lv_iconst (pc := 45) (v := nI 4) hx hb dX3_beginExchange_45 (by decide) ?_
        refine lv_iconst (pc := 46) (v := nI 1) hx hb dX3_beginExchange_46 (by decide) ?_
        refine lv_iload_n (pc := 47) hx hb dX3_beginExchange_47 rfl (lv_at hl 1 rfl) ?_
        refine x_wri (pc := 48) (va_runVN (As := [.int (nI 4), .int (nI 1), .int (nI kd)]) (rest := []) ⟨hx, hb, hml, hown, hts⟩ (kX0_markUnit l dC dI tt cI cB _ a1 a2 a3 a4 u_12 ut 4 1 (nI kd) hk2 (by omega)) (⟨va_cnB 3 hts gX3_beginExchange_X0_markUnit_n91 rfl rfl rfl (hE.m 10 (q := (RX3, 91, yX0_markUnit, "ScratchSwap")) rfl) (hts (.initialized RX0) (by decide +kernel)) (by decide +kernel) ⟨Nat.le_of_ble_eq_true rfl, Nat.le_of_ble_eq_true rfl⟩, hts (.instanceMethod yX0_markUnit) (by decide +kernel), hts (.selects RX0 yX0_markUnit yX0_markUnit) (by decide +kernel)⟩) (x_preV hS hE hK hP hD [1, 2, 3, 4] rfl (by decide) (va_free hD hS hA [1, 2, 3, 4] rfl) xR0 0 1 rfl rfl) rfl rfl hl.1 rfl (lv_room (Nat.le_of_ble_eq_true rfl)) dX3_beginExchange_48 ⟨Nat.le_of_ble_eq_true rfl, Nat.le_of_ble_eq_true rfl⟩) hS hA hP hD [1, 2, 3, 4] [0, 5, 6, 7, 8, 9] rfl rfl (by decide) (by decide) (fun r_16 u_15 H locs hu_15 hP hD hS => ?_)
        obtain ⟨hr_16, eu_15⟩ : r_16 = bI (kActs (markL (4 * 256 + 1 * 8) (nI kd)) u_12).2 ∧ u_15 = (kActs (markL (4 * 256 + 1 * 8) (nI kd)) u_12).1 := hu_15
        obtain ⟨b_17, eb_17⟩ : ∃ z, z = (kActs (markL (4 * 256 + 1 * 8) (nI kd)) u_12).2 := ⟨_, rfl⟩
        rw [← eb_17] at hr_16
        subst hr_16
        have hP := hP.sub (ws' := xW a0 a1 a2 a3 a4 a5 a6 a7 a8 a9 cI u_15 ut tb tn sc hs rn rv wb ee we) [0, 6, 7, 8, 9, 1, 2, 3, 4, 5] rfl
        have hD := hD.sub (ws' := xW a0 a1 a2 a3 a4 a5 a6 a7 a8 a9 cI u_15 ut tb tn sc hs rn rv wb ee we) [0, 6, 7, 8, 9, 1, 2, 3, 4, 5] (by decide) rfl
        refine lv_if_eq (pc := 51) (tgt := 58) hx hb dX3_beginExchange_51 (by decide) (fun c4 => ?_) (fun c4 => ?_)
        · skip
          have c4 : b_17 = false := bI_0.mp c4
          have f3 : (kActs (markL (4 * 256 + 1 * 8) (nI kd)) u_12).2 = false := eb_17.symm.trans c4
          refine lv_iconst (pc := 58) (v := nI 0) hx hb dX3_beginExchange_58 (by decide) ?_
          exact W.zret (v := nI 0) hx hb hr rfl (fun t ht hW => ⟨⟨nI 0, u_15, rfl, ⟨by rw [begL, if_neg c1, app_t f1, ← eu_9, app_t f2, ← eu_12, f3]; rfl, by rw [begL, if_neg c1, app_t f1, ← eu_9, app_t f2, ← eu_12]; exact eu_15⟩, by show va_P _ _ _ t.heap; rw [ht]; exact hP, va_K.moved hW.alike hK, hD⟩, hS.F ht⟩) hS.2.2 dX3_beginExchange_59
        · skip
          have c4 : b_17 = true := bI_1.mp c4
          have f3 : (kActs (markL (4 * 256 + 1 * 8) (nI kd)) u_12).2 = true := eb_17.symm.trans c4
          have hk3 : kOk u_15 := by rw [eu_15]; exact kActs_ok hk2 f3
          have hF3 : u_15.1 = appL ((markL (4 * 256 + 1 * 8) (nI kd))) u_12.1 := by rw [eu_15]; exact kActs_F f3
          refine lv_iconst (pc := 54) (v := nI 1) hx hb dX3_beginExchange_54 (by decide) ?_
          refine lv_goto (pc := 55) (tgt := 59) hx hb dX3_beginExchange_55 (by decide) ?_
          exact W.zret (v := nI 1) hx hb hr rfl (fun t ht hW => ⟨⟨nI 1, u_15, rfl, ⟨by rw [begL, if_neg c1, app_t f1, ← eu_9, app_t f2, ← eu_12, f3]; rfl, by rw [begL, if_neg c1, app_t f1, ← eu_9, app_t f2, ← eu_12]; exact eu_15⟩, by show va_P _ _ _ t.heap; rw [ht]; exact hP, va_K.moved hW.alike hK, hD⟩, hS.F ht⟩) hS.2.2 dX3_beginExchange_59
    · skip
      have c2 : b_11 = false := bI_0.mp c2
      have f1 : (kActs (markL (9 * 256 + 1 * 8) (nI kd)) k).2 = false := eb_11.symm.trans c2
      refine lv_iconst (pc := 28) (v := nI 0) hx hb dX3_beginExchange_28 (by decide) ?_
      exact W.zret (v := nI 0) hx hb hr rfl (fun t ht hW => ⟨⟨nI 0, u_9, rfl, ⟨by rw [begL, if_neg c1, app_f f1, f1]; rfl, by rw [begL, if_neg c1, app_f f1]; exact eu_9⟩, by show va_P _ _ _ t.heap; rw [ht]; exact hP, va_K.moved hW.alike hK, hD⟩, hS.F ht⟩) hS.2.2 dX3_beginExchange_29
set_option maxHeartbeats 4000000 in
set_option maxRecDepth 100000 in
theorem kX3_takeStep (l : Launch) (dC : Nat → ClassId) (dI : Nat → Nat → Nat) (tt : Nat → Nat) (cI cB : ClassId) (sz : Nat) (a0 a1 a2 a3 a4 a5 a6 a7 a8 a9 : Nat) (k : K0) (ut : Nat → Int32) (tb : Nat → Int8) (tn : Nat) (sc hs : Nat → Int32) (rn : Bool) (rv wb ee we : Int32) (j kk dst src : Nat) (hk : kOk k) (hj : j < 4) (hkk : kk < 3) (hds : dst < 11) (hsr : src < 11) (hne : src ≠ dst) : MetI (S := (K0 × (Nat → Int32))) l yX3_takeStep wsX3_takeStep { frames := 3, cells := 0, slots := 0, locals := 75 } (dC, dI) [(cI, .int), (cB, .byte)] tt [] sz (xW a0 a1 a2 a3 a4 a5 a6 a7 a8 a9 cI k ut tb tn sc hs rn rv wb ee we) [.ref a0, .int (nI j), .int (nI kk), .int (nI dst), .int (nI src)] (fun u : (K0 × (Nat → Int32)) => xW a0 a1 a2 a3 a4 a5 a6 a7 a8 a9 cI u.1 u.2 tb tn sc hs rn rv wb ee we) (fun r u => r = bI (kActs (stepL k.1 j kk dst src) k).2 ∧ u.1 = (kActs (stepL k.1 j kk dst src) k).1) := by
  refine Met.ofW (cc := cX3_takeStep) (maxL := 6) (ret := (some .boolean)) (by decide) rfl ?_
  intro p e s m args below meth c s₁ B hml hv
  obtain ⟨rfl, hsz, hP, hK, hD0, hE⟩ := hv
  have hx := B.exec
  have hb := B.bytes
  have hr := B.returns
  have hts := atoms_spec (ws := wsX3_takeStep) B.pre
  have hown : s.vm.findClass RX3 = some m.cls := findClass_of_methodNamed B.named
  have hlocks := B.notSynchronized
  subst hsz
  have hD := hD0.self (sz := s.heap.size)
  generalize hAe : va_A (xW a0 a1 a2 a3 a4 a5 a6 a7 a8 a9 cI k ut tb tn sc hs rn rv wb ee we) s.heap.size = A at hD hE ⊢
  have hA : ∀ q : Nat, s.heap.size ≤ q → A q := fun q h => by rw [← hAe]; exact Or.inr h
  have hS : va_S A s.heap s.heap [] := va_S.rf
  have hl := lv_entry ([.ref a0, .int (nI j), .int (nI kk), .int (nI dst), .int (nI src)]) (n := 6) (Nat.le_of_ble_eq_true rfl)
  rw [lg_entry_eq]
  generalize (lg_sl ([.ref a0, .int (nI j), .int (nI kk), .int (nI dst), .int (nI src)]) ++ List.replicate (6 - (lg_sl ([.ref a0, .int (nI j), .int (nI kk), .int (nI dst), .int (nI src)])).length) Slot.unset).toArray = ls at hl ⊢
  have hl : lv_has ls 6 [(0, .ref a0), (1, .int (nI j)), (2, .int (nI kk)), (3, .int (nI dst)), (4, .int (nI src))] := hl
  have hP : va_P (dC, dI) vwCl (xW a0 a1 a2 a3 a4 a5 a6 a7 a8 a9 cI k ut tb tn sc hs rn rv wb ee we) s.heap := hP
  refine lv_iconst (pc := 0) (v := nI 4) hx hb dX3_takeStep_0 (by decide) ?_
  refine lv_iconst (pc := 1) (v := nI 3) hx hb dX3_takeStep_1 (by decide) ?_
  refine lv_iload_n (pc := 2) hx hb dX3_takeStep_2 rfl (lv_at hl 1 rfl) ?_
  refine lv_imul (pc := 3) hx hb dX3_takeStep_3 ?_
  refine lv_cv (pk_mul 3 j) ?_
  refine lv_iadd (pc := 4) hx hb dX3_takeStep_4 ?_
  refine lv_cv (nI_add 4 (3 * j)) ?_
  refine lv_iload_n (pc := 5) hx hb dX3_takeStep_5 rfl (lv_at hl 2 rfl) ?_
  refine lv_iadd (pc := 6) hx hb dX3_takeStep_6 ?_
  refine lv_cv (nI_add (4 + (3 * j)) kk) ?_
  refine lv_istore (pc := 7) (lv' := [(5, .int (nI ((4 + (3 * j)) + kk))), (0, .ref a0), (1, .int (nI j)), (2, .int (nI kk)), (3, .int (nI dst)), (4, .int (nI src))]) hx hb dX3_takeStep_7 hl (by decide) rfl (fun ls hl => ?_)
  refine lv_aload_n (pc := 9) hx hb dX3_takeStep_9 rfl (lv_at hl 1 rfl) ?_
  refine lv_iconst (pc := 10) (v := nI 4) hx hb dX3_takeStep_10 (by decide) ?_
  refine lv_iload (pc := 11) hx hb dX3_takeStep_11 (lv_at hl 0 rfl) ?_
  refine x_roi (pc := 13) (va_runV (As := [.int (nI 4), .int (nI ((4 + (3 * j)) + kk))]) (rest := []) ⟨hx, hb, hml, hown, hts⟩ (kX3_isMarked l dC dI tt cI cB _ a0 a1 a2 a3 a4 a5 a6 a7 a8 a9 k ut tb tn sc hs rn rv wb ee we 4 ((4 + (3 * j)) + kk) (by omega)) (cwV 2 hts gX3_takeStep_X3_isMarked rfl rfl rfl (by decide +kernel) ⟨Nat.le_of_ble_eq_true rfl, Nat.le_of_ble_eq_true rfl⟩) (x_preVa hS hE hK hP hD (x_ro hS hA) xR0 3 0 rfl rfl) rfl rfl hl.1 rfl (lv_room (Nat.le_of_ble_eq_true rfl)) dX3_takeStep_13 ⟨Nat.le_of_ble_eq_true rfl, Nat.le_of_ble_eq_true rfl⟩) hS hA hP (fun r_1 H locs hr_1 hP hS => ?_)
  subst hr_1
  refine lv_if_eq (pc := 16) (tgt := 21) hx hb dX3_takeStep_16 (by decide) (fun c1 => ?_) (fun c1 => ?_)
  · skip
    have c1 : mkB k.1 (4 * 256 + ((4 + (3 * j)) + kk) * 8) = false := bI_0.mp c1
    refine lv_aload_n (pc := 21) hx hb dX3_takeStep_21 rfl (lv_at hl 1 rfl) ?_
    refine va_get (pc := 22) (D := (dC, dI)) (ci := 3) (v := .ref a1) (C := RX3) (T := TX3) (N := 8) hx hb hts (by decide +kernel) hown hK hP 0 rfl rfl 0 (by decide) (hts (.fieldLink RX3 12 "ScratchSwap" "memory" "LScratchSwap$Memory;") (by decide +kernel)) (fun _ h9 => h9) rfl dX3_takeStep_22 ?_
    refine lv_iload_n (pc := 25) hx hb dX3_takeStep_25 rfl (lv_at hl 4 rfl) ?_
    refine lv_iload (pc := 26) hx hb dX3_takeStep_26 (lv_at hl 5 rfl) ?_
    refine x_wri (pc := 28) (va_runVN (As := [.int (nI dst), .int (nI src)]) (rest := []) ⟨hx, hb, hml, hown, hts⟩ (kX0_replaceSector l dC dI tt cI cB _ a1 a2 a3 a4 k ut dst src hk (by omega) (by omega) (by omega)) (⟨va_cnB 2 hts gX3_takeStep_X0_replaceSector_n211 rfl rfl rfl (hE.m 17 (q := (RX3, 211, yX0_replaceSector, "ScratchSwap")) rfl) (hts (.initialized RX0) (by decide +kernel)) (by decide +kernel) ⟨Nat.le_of_ble_eq_true rfl, Nat.le_of_ble_eq_true rfl⟩, hts (.instanceMethod yX0_replaceSector) (by decide +kernel), hts (.selects RX0 yX0_replaceSector yX0_replaceSector) (by decide +kernel)⟩) (x_preV hS hE hK hP hD [1, 2, 3, 4] rfl (by decide) (va_free hD hS hA [1, 2, 3, 4] rfl) xR0 0 1 rfl rfl) rfl rfl hl.1 rfl (lv_room (Nat.le_of_ble_eq_true rfl)) dX3_takeStep_28 ⟨Nat.le_of_ble_eq_true rfl, Nat.le_of_ble_eq_true rfl⟩) hS hA hP hD [1, 2, 3, 4] [0, 5, 6, 7, 8, 9] rfl rfl (by decide) (by decide) (fun r_3 u_2 H locs hu_2 hP hD hS => ?_)
    obtain ⟨k_5, t_6⟩ := u_2
    obtain ⟨hr_3, ek_5⟩ : r_3 = bI (kActs (repL k.1 src dst) k).2 ∧ k_5 = (kActs (repL k.1 src dst) k).1 := hu_2
    obtain ⟨b_4, eb_4⟩ : ∃ z, z = (kActs (repL k.1 src dst) k).2 := ⟨_, rfl⟩
    rw [← eb_4] at hr_3
    subst hr_3
    have hP := hP.sub (ws' := xW a0 a1 a2 a3 a4 a5 a6 a7 a8 a9 cI k_5 t_6 tb tn sc hs rn rv wb ee we) [0, 6, 7, 8, 9, 1, 2, 3, 4, 5] rfl
    have hD := hD.sub (ws' := xW a0 a1 a2 a3 a4 a5 a6 a7 a8 a9 cI k_5 t_6 tb tn sc hs rn rv wb ee we) [0, 6, 7, 8, 9, 1, 2, 3, 4, 5] (by decide) rfl
    refine lv_if_eq (pc := 31) (tgt := 52) hx hb dX3_takeStep_31 (by decide) (fun c2 => ?_) (fun c2 => ?_)
    · skip
      have c2 : b_4 = false := bI_0.mp c2
      have f1 : (kActs (repL k.1 src dst) k).2 = false := eb_4.symm.trans c2
      refine lv_iconst (pc := 52) (v := nI 0) hx hb dX3_takeStep_52 (by decide) ?_
      exact W.zret (v := nI 0) hx hb hr rfl (fun t ht hW => ⟨⟨nI 0, (k_5, t_6), rfl, ⟨by rw [stepL, if_neg (by rw [c1]; decide), app_f f1, f1]; rfl, by rw [stepL, if_neg (by rw [c1]; decide), app_f f1]; exact ek_5⟩, by show va_P _ _ _ t.heap; rw [ht]; exact hP, va_K.moved hW.alike hK, hD⟩, hS.F ht⟩) hS.2.2 dX3_takeStep_53
    · skip
      have c2 : b_4 = true := bI_1.mp c2
      have f1 : (kActs (repL k.1 src dst) k).2 = true := eb_4.symm.trans c2
      have hk1 : kOk k_5 := by rw [ek_5]; exact kActs_ok hk f1
      have hF1 : k_5.1 = appL ((repL k.1 src dst)) k.1 := by rw [ek_5]; exact kActs_F f1
      refine lv_aload_n (pc := 34) hx hb dX3_takeStep_34 rfl (lv_at hl 1 rfl) ?_
      refine va_get (pc := 35) (D := (dC, dI)) (ci := 3) (v := .ref a1) (C := RX3) (T := TX3) (N := 8) hx hb hts (by decide +kernel) hown hK hP 0 rfl rfl 0 (by decide) (hts (.fieldLink RX3 12 "ScratchSwap" "memory" "LScratchSwap$Memory;") (by decide +kernel)) (fun _ h9 => h9) rfl dX3_takeStep_35 ?_
      refine lv_iconst (pc := 38) (v := nI 4) hx hb dX3_takeStep_38 (by decide) ?_
      refine lv_iload (pc := 39) hx hb dX3_takeStep_39 (lv_at hl 0 rfl) ?_
      refine lv_iconst (pc := 41) (v := nI 1) hx hb dX3_takeStep_41 (by decide) ?_
      refine x_wri (pc := 42) (va_runVN (As := [.int (nI 4), .int (nI ((4 + (3 * j)) + kk)), .int (nI 1)]) (rest := []) ⟨hx, hb, hml, hown, hts⟩ (kX0_markUnit l dC dI tt cI cB _ a1 a2 a3 a4 k_5 t_6 4 ((4 + (3 * j)) + kk) (nI 1) hk1 (by omega)) (⟨va_cnB 3 hts gX3_takeStep_X0_markUnit_n91 rfl rfl rfl (hE.m 10 (q := (RX3, 91, yX0_markUnit, "ScratchSwap")) rfl) (hts (.initialized RX0) (by decide +kernel)) (by decide +kernel) ⟨Nat.le_of_ble_eq_true rfl, Nat.le_of_ble_eq_true rfl⟩, hts (.instanceMethod yX0_markUnit) (by decide +kernel), hts (.selects RX0 yX0_markUnit yX0_markUnit) (by decide +kernel)⟩) (x_preV hS hE hK hP hD [1, 2, 3, 4] rfl (by decide) (va_free hD hS hA [1, 2, 3, 4] rfl) xR0 0 1 rfl rfl) rfl rfl hl.1 rfl (lv_room (Nat.le_of_ble_eq_true rfl)) dX3_takeStep_42 ⟨Nat.le_of_ble_eq_true rfl, Nat.le_of_ble_eq_true rfl⟩) hS hA hP hD [1, 2, 3, 4] [0, 5, 6, 7, 8, 9] rfl rfl (by decide) (by decide) (fun r_8 u_7 H locs hu_7 hP hD hS => ?_)
      obtain ⟨hr_8, eu_7⟩ : r_8 = bI (kActs (markL (4 * 256 + ((4 + (3 * j)) + kk) * 8) (nI 1)) k_5).2 ∧ u_7 = (kActs (markL (4 * 256 + ((4 + (3 * j)) + kk) * 8) (nI 1)) k_5).1 := hu_7
      obtain ⟨b_9, eb_9⟩ : ∃ z, z = (kActs (markL (4 * 256 + ((4 + (3 * j)) + kk) * 8) (nI 1)) k_5).2 := ⟨_, rfl⟩
      rw [← eb_9] at hr_8
      subst hr_8
      have hP := hP.sub (ws' := xW a0 a1 a2 a3 a4 a5 a6 a7 a8 a9 cI u_7 t_6 tb tn sc hs rn rv wb ee we) [0, 6, 7, 8, 9, 1, 2, 3, 4, 5] rfl
      have hD := hD.sub (ws' := xW a0 a1 a2 a3 a4 a5 a6 a7 a8 a9 cI u_7 t_6 tb tn sc hs rn rv wb ee we) [0, 6, 7, 8, 9, 1, 2, 3, 4, 5] (by decide) rfl
      refine lv_if_eq (pc := 45) (tgt := 52) hx hb dX3_takeStep_45 (by decide) (fun c3 => ?_) (fun c3 => ?_)
      · skip
        have c3 : b_9 = false := bI_0.mp c3
        have f2 : (kActs (markL (4 * 256 + ((4 + (3 * j)) + kk) * 8) (nI 1)) k_5).2 = false := eb_9.symm.trans c3
        refine lv_iconst (pc := 52) (v := nI 0) hx hb dX3_takeStep_52 (by decide) ?_
        exact W.zret (v := nI 0) hx hb hr rfl (fun t ht hW => ⟨⟨nI 0, (u_7, t_6), rfl, ⟨by rw [stepL, if_neg (by rw [c1]; decide), app_t f1, ← ek_5, f2]; rfl, by rw [stepL, if_neg (by rw [c1]; decide), app_t f1, ← ek_5]; exact eu_7⟩, by show va_P _ _ _ t.heap; rw [ht]; exact hP, va_K.moved hW.alike hK, hD⟩, hS.F ht⟩) hS.2.2 dX3_takeStep_53
      · skip
        have c3 : b_9 = true := bI_1.mp c3
        have f2 : (kActs (markL (4 * 256 + ((4 + (3 * j)) + kk) * 8) (nI 1)) k_5).2 = true := eb_9.symm.trans c3
        have hk2 : kOk u_7 := by rw [eu_7]; exact kActs_ok hk1 f2
        have hF2 : u_7.1 = appL ((markL (4 * 256 + ((4 + (3 * j)) + kk) * 8) (nI 1))) k_5.1 := by rw [eu_7]; exact kActs_F f2
        refine lv_iconst (pc := 48) (v := nI 1) hx hb dX3_takeStep_48 (by decide) ?_
        refine lv_goto (pc := 49) (tgt := 53) hx hb dX3_takeStep_49 (by decide) ?_
        exact W.zret (v := nI 1) hx hb hr rfl (fun t ht hW => ⟨⟨nI 1, (u_7, t_6), rfl, ⟨by rw [stepL, if_neg (by rw [c1]; decide), app_t f1, ← ek_5, f2]; rfl, by rw [stepL, if_neg (by rw [c1]; decide), app_t f1, ← ek_5]; exact eu_7⟩, by show va_P _ _ _ t.heap; rw [ht]; exact hP, va_K.moved hW.alike hK, hD⟩, hS.F ht⟩) hS.2.2 dX3_takeStep_53
  · skip
    have c1 : mkB k.1 (4 * 256 + ((4 + (3 * j)) + kk) * 8) = true := bI_1.mp c1
    refine lv_iconst (pc := 19) (v := nI 1) hx hb dX3_takeStep_19 (by decide) ?_
    exact W.zret (v := nI 1) hx hb hr rfl (fun t ht hW => ⟨⟨nI 1, (k, ut), rfl, ⟨by rw [stepL, if_pos c1]; rfl, by rw [stepL, if_pos c1]; rfl⟩, by show va_P _ _ _ t.heap; rw [ht]; exact hP, va_K.moved hW.alike hK, hD⟩, hS.F ht⟩) hS.2.2 dX3_takeStep_20
