set_option maxHeartbeats 4000000 in
set_option maxRecDepth 100000 in
theorem kX0_markIn (l : Launch) (dC : Nat → ClassId) (dI : Nat → Nat → Nat) (tt : Nat → Nat) (cI cB : ClassId) (sz : Nat) (a1 a2 a3 a4 : Nat) (k : K0) (ut : Nat → Int32) (i0 j0 : Nat) (hp : i0 * 256 + j0 * 8 + 8 ≤ 2816) : MetR l yX0_markIn wsX0_markIn { frames := 1, cells := 0, slots := 0, locals := 21 } (dC, dI) [(cI, .int), (cB, .byte)] tt [] sz (mW a1 a2 a3 a4 cI k ut) [.ref a1, .int (nI i0), .int (nI j0)] (fun r => r = nI (setN k.1 (i0 * 256 + j0 * 8))) := by
  refine Met.ofW (cc := cX0_markIn) (maxL := 6) (ret := (some .int)) (by decide) rfl ?_
  intro p e s m args below meth c s₁ B hml hv
  obtain ⟨rfl, hsz, hP, hK, hD0, hE⟩ := hv
  have hx := B.exec
  have hb := B.bytes
  have hr := B.returns
  have hts := atoms_spec (ws := wsX0_markIn) B.pre
  have hown : s.vm.findClass RX0 = some m.cls := findClass_of_methodNamed B.named
  have hlocks := B.notSynchronized
  subst hsz
  have hD := hD0
  generalize hAe : va_A [] s.heap.size = A at hE ⊢
  have hA : ∀ q : Nat, s.heap.size ≤ q → A q := fun q h => by rw [← hAe]; exact Or.inr h
  have hS : va_S A s.heap s.heap [] := va_S.rf
  have hl := lv_entry ([.ref a1, .int (nI i0), .int (nI j0)]) (n := 6) (Nat.le_of_ble_eq_true rfl)
  rw [lg_entry_eq]
  generalize (lg_sl ([.ref a1, .int (nI i0), .int (nI j0)]) ++ List.replicate (6 - (lg_sl ([.ref a1, .int (nI i0), .int (nI j0)])).length) Slot.unset).toArray = ls at hl ⊢
  have hl : lv_has ls 6 [(0, .ref a1), (1, .int (nI i0)), (2, .int (nI j0))] := hl
  have hP : va_P (dC, dI) vwCl (mW a1 a2 a3 a4 cI k ut) s.heap := hP
  refine lv_iload_n (pc := 0) hx hb dX0_markIn_0 rfl (lv_at hl 1 rfl) ?_
  refine lv_iload_n (pc := 1) hx hb dX0_markIn_1 rfl (lv_at hl 2 rfl) ?_
  refine x_roi (pc := 2) (va_runS (As := [.int (nI i0), .int (nI j0)]) (rest := []) ⟨hx, hb, hml, hown, hts⟩ (kX0_unitAt l dC dI tt cI cB _ i0 j0) (va_cwS 2 hts gX0_markIn_X0_unitAt rfl rfl rfl (by decide +kernel) ⟨Nat.le_of_ble_eq_true rfl, Nat.le_of_ble_eq_true rfl⟩) (x_preS hS hE hK hP hD [] rfl (by decide) (x_ro hS hA) xR0) rfl rfl hl.1 rfl (lv_room (Nat.le_of_ble_eq_true rfl)) dX0_markIn_2 ⟨Nat.le_of_ble_eq_true rfl, Nat.le_of_ble_eq_true rfl⟩) hS hA hP (fun r_1 H locs hr_1 hP hS => ?_)
  subst hr_1
  refine lv_istore_n (pc := 5) (lv' := [(3, .int (nI (i0 * 256 + j0 * 8))), (0, .ref a1), (1, .int (nI i0)), (2, .int (nI j0))]) hx hb dX0_markIn_5 rfl hl (by decide) rfl (fun ls hl => ?_)
  refine lv_aload_n (pc := 6) hx hb dX0_markIn_6 rfl (lv_at hl 1 rfl) ?_
  refine lv_iload_n (pc := 7) hx hb dX0_markIn_7 rfl (lv_at hl 0 rfl) ?_
  refine x_roi (pc := 8) (va_runV (As := [.int (nI (i0 * 256 + j0 * 8))]) (rest := []) ⟨hx, hb, hml, hown, hts⟩ (kX0_byteAt l dC dI tt cI cB _ a1 a2 a3 a4 k ut (i0 * 256 + j0 * 8) (by omega)) (cwV 1 hts gX0_markIn_X0_byteAt rfl rfl rfl (by decide +kernel) ⟨Nat.le_of_ble_eq_true rfl, Nat.le_of_ble_eq_true rfl⟩) (x_preV hS hE hK hP hD [0, 1, 2, 3] rfl (by decide) (x_ro hS hA) xR0 0 0 rfl rfl) rfl rfl hl.1 rfl (lv_room (Nat.le_of_ble_eq_true rfl)) dX0_markIn_8 ⟨Nat.le_of_ble_eq_true rfl, Nat.le_of_ble_eq_true rfl⟩) hS hA hP (fun r_2 H locs hr_2 hP hS => ?_)
  subst hr_2
  refine lv_cv (ub_b8 _) ?_
  have hb_3 := b8_lt (k.1 (i0 * 256 + j0 * 8))
  refine lv_istore (pc := 11) (lv' := [(4, .int (nI (b8 (k.1 (i0 * 256 + j0 * 8))))), (3, .int (nI (i0 * 256 + j0 * 8))), (0, .ref a1), (1, .int (nI i0)), (2, .int (nI j0))]) hx hb dX0_markIn_11 hl (by decide) rfl (fun ls hl => ?_)
  refine lv_iload (pc := 13) hx hb dX0_markIn_13 (lv_at hl 0 rfl) ?_
  refine lv_iconst (pc := 15) (v := nI 1) hx hb dX0_markIn_15 (by decide) ?_
  refine lv_icmp_lt (pc := 16) (tgt := 25) hx hb dX0_markIn_16 (by decide) (fun c1 => ?_) (fun c1 => ?_)
  · skip
    have c1 : (b8 (k.1 (i0 * 256 + j0 * 8))) < 1 := (nI_ltI (a := (b8 (k.1 (i0 * 256 + j0 * 8)))) (b := 1) (by omega) (by omega)).mp c1
    refine lv_iconst (pc := 25) (v := nI 0) hx hb dX0_markIn_25 (by decide) ?_
    exact W.iret (v := nI 0) hx hb hr (fun t ht hW => ⟨⟨nI 0, (), rfl, by rw [setN, if_neg (by omega)], trivial⟩, hS.F ht⟩) hS.2.2 dX0_markIn_26
  · skip
    have c1 : ¬ (b8 (k.1 (i0 * 256 + j0 * 8))) < 1 := fun z => c1 ((nI_ltI (a := (b8 (k.1 (i0 * 256 + j0 * 8)))) (b := 1) (by omega) (by omega)).mpr z)
    refine lv_iload (pc := 19) hx hb dX0_markIn_19 (lv_at hl 0 rfl) ?_
    refine lv_iconst (pc := 21) (v := nI 3) hx hb dX0_markIn_21 (by decide) ?_
    refine lv_icmp_le (pc := 22) (tgt := 27) hx hb dX0_markIn_22 (by decide) (fun c2 => ?_) (fun c2 => ?_)
    · skip
      have c2 : (b8 (k.1 (i0 * 256 + j0 * 8))) ≤ 3 := (nI_leI (a := (b8 (k.1 (i0 * 256 + j0 * 8)))) (b := 3) (by omega) (by omega)).mp c2
      refine lv_iconst (pc := 27) (v := nI 1) hx hb dX0_markIn_27 (by decide) ?_
      refine lv_istore (pc := 28) (lv' := [(5, .int (nI 1)), (4, .int (nI (b8 (k.1 (i0 * 256 + j0 * 8))))), (3, .int (nI (i0 * 256 + j0 * 8))), (0, .ref a1), (1, .int (nI i0)), (2, .int (nI j0))]) hx hb dX0_markIn_28 hl (by decide) rfl (fun ls hl => ?_)
      refine x_loop (σ := (Nat)) (Wd := fun i : (Nat) => mW a1 a2 a3 a4 cI k ut) (Lv := fun i : (Nat) => [(5, .int (nI i)), (4, .int (nI (b8 (k.1 (i0 * 256 + j0 * 8))))), (3, .int (nI (i0 * 256 + j0 * 8))), (0, .ref a1), (1, .int (nI i0)), (2, .int (nI j0))]) (I := fun i : (Nat) => (1 ≤ i) ∧ (i ≤ 8) ∧ (eqTo (fun z => k.1 (i0 * 256 + j0 * 8 + z)) (fun _ => k.1 (i0 * 256 + j0 * 8)) i = true)) (μ := fun i : (Nat) => 8 - i) ?_ (1) ⟨by omega, by omega, by rw [show (1 : Nat) = 0 + 1 from rfl, eqTo_s, eqTo_0]; simp⟩ hP hD hS (lv_sub hl [0, 1, 2, 3, 4, 5] rfl)
      intro i H locs ls hI hP hD hS hl ih30
      obtain ⟨hi1, hi8, hq⟩ : (1 ≤ i) ∧ (i ≤ 8) ∧ (eqTo (fun z => k.1 (i0 * 256 + j0 * 8 + z)) (fun _ => k.1 (i0 * 256 + j0 * 8)) i = true) := hI
      have hP : va_P (dC, dI) vwCl (mW a1 a2 a3 a4 cI k ut) _ := hP
      have hD : va_D (fun _ => True) (mW a1 a2 a3 a4 cI k ut) := hD
      have hl : lv_has ls 6 [(5, .int (nI i)), (4, .int (nI (b8 (k.1 (i0 * 256 + j0 * 8))))), (3, .int (nI (i0 * 256 + j0 * 8))), (0, .ref a1), (1, .int (nI i0)), (2, .int (nI j0))] := hl
      refine lv_iload (pc := 30) hx hb dX0_markIn_30 (lv_at hl 0 rfl) ?_
      refine lv_bipush (pc := 32) (v := nI 8) hx hb dX0_markIn_32 (by decide) ?_
      refine lv_icmp_ge (pc := 34) (tgt := 58) hx hb dX0_markIn_34 (by decide) (fun c_4 => ?_) (fun c_4 => ?_)
      · skip
        have c_4 : 8 ≤ i := (nI_leI (a := 8) (b := i) (by omega) (by omega)).mp c_4
        refine lv_iload (pc := 58) hx hb dX0_markIn_58 (lv_at hl 1 rfl) ?_
        have hi9 : i = 8 := by omega
        subst hi9
        exact W.iret (v := nI (b8 (k.1 (i0 * 256 + j0 * 8)))) hx hb hr (fun t ht hW => ⟨⟨nI (b8 (k.1 (i0 * 256 + j0 * 8))), (), rfl, by rw [setN, if_pos ⟨by omega, by omega, hq⟩], trivial⟩, hS.F ht⟩) hS.2.2 dX0_markIn_60
      · skip
        have c_4 : ¬ 8 ≤ i := fun z => c_4 ((nI_leI (a := 8) (b := i) (by omega) (by omega)).mpr z)
        refine lv_aload_n (pc := 37) hx hb dX0_markIn_37 rfl (lv_at hl 3 rfl) ?_
        refine lv_iload_n (pc := 38) hx hb dX0_markIn_38 rfl (lv_at hl 2 rfl) ?_
        refine lv_iload (pc := 39) hx hb dX0_markIn_39 (lv_at hl 0 rfl) ?_
        refine lv_iadd (pc := 41) hx hb dX0_markIn_41 ?_
        refine lv_cv (nI_add (i0 * 256 + j0 * 8) i) ?_
        refine x_roi (pc := 42) (va_runV (As := [.int (nI ((i0 * 256 + j0 * 8) + i))]) (rest := []) ⟨hx, hb, hml, hown, hts⟩ (kX0_byteAt l dC dI tt cI cB _ a1 a2 a3 a4 k ut ((i0 * 256 + j0 * 8) + i) (by omega)) (cwV 1 hts gX0_markIn_X0_byteAt rfl rfl rfl (by decide +kernel) ⟨Nat.le_of_ble_eq_true rfl, Nat.le_of_ble_eq_true rfl⟩) (x_preV hS hE hK hP hD [0, 1, 2, 3] rfl (by decide) (x_ro hS hA) xR0 0 0 rfl rfl) rfl rfl hl.1 rfl (lv_room (Nat.le_of_ble_eq_true rfl)) dX0_markIn_42 ⟨Nat.le_of_ble_eq_true rfl, Nat.le_of_ble_eq_true rfl⟩) hS hA hP (fun r_5 H locs hr_5 hP hS => ?_)
        subst hr_5
        refine lv_cv (ub_b8 _) ?_
        have hb_6 := b8_lt (k.1 ((i0 * 256 + j0 * 8) + i))
        refine lv_iload (pc := 45) hx hb dX0_markIn_45 (lv_at hl 1 rfl) ?_
        refine lv_icmp_eq (pc := 47) (tgt := 52) hx hb dX0_markIn_47 (by decide) (fun c5 => ?_) (fun c5 => ?_)
        · skip
          have c5 : (b8 (k.1 ((i0 * 256 + j0 * 8) + i))) = (b8 (k.1 (i0 * 256 + j0 * 8))) := (nI_eq (a := (b8 (k.1 ((i0 * 256 + j0 * 8) + i)))) (b := (b8 (k.1 (i0 * 256 + j0 * 8)))) (by omega) (by omega)).mp c5
          refine lv_iinc (pc := 52) (v := nI (i + 1)) (lv' := [(5, .int (nI (i + 1))), (4, .int (nI (b8 (k.1 (i0 * 256 + j0 * 8))))), (3, .int (nI (i0 * 256 + j0 * 8))), (0, .ref a1), (1, .int (nI i0)), (2, .int (nI j0))]) hx hb dX0_markIn_52 hl (k := 0) rfl (nI_inc i 1) (by decide) rfl (fun ls hl => ?_)
          refine lv_goto (pc := 55) (tgt := 30) hx hb dX0_markIn_55 (by decide) ?_
          exact ih30 (i + 1) H locs ls ⟨by omega, by omega, by rw [eqTo_s, hq, b8_inj.mp c5]; simp⟩ (by first | omega | (simp only []; omega)) hP hD hS (lv_sub hl [0, 1, 2, 3, 4, 5] rfl)
        · skip
          have c5 : ¬ (b8 (k.1 ((i0 * 256 + j0 * 8) + i))) = (b8 (k.1 (i0 * 256 + j0 * 8))) := fun z => c5 ((nI_eq (a := (b8 (k.1 ((i0 * 256 + j0 * 8) + i)))) (b := (b8 (k.1 (i0 * 256 + j0 * 8)))) (by omega) (by omega)).mpr z)
          refine lv_iconst (pc := 50) (v := nI 0) hx hb dX0_markIn_50 (by decide) ?_
          exact W.iret (v := nI 0) hx hb hr (fun t ht hW => ⟨⟨nI 0, (), rfl, by rw [setN, if_neg (fun z => absurd z.2.2 (by rw [eqTo_f (i := i) (by omega) (fun y => c5 (b8_inj.mpr y))]; decide))], trivial⟩, hS.F ht⟩) hS.2.2 dX0_markIn_51
    · skip
      have c2 : ¬ (b8 (k.1 (i0 * 256 + j0 * 8))) ≤ 3 := fun z => c2 ((nI_leI (a := (b8 (k.1 (i0 * 256 + j0 * 8)))) (b := 3) (by omega) (by omega)).mpr z)
      refine lv_iconst (pc := 25) (v := nI 0) hx hb dX0_markIn_25 (by decide) ?_
      exact W.iret (v := nI 0) hx hb hr (fun t ht hW => ⟨⟨nI 0, (), rfl, by rw [setN, if_neg (by omega)], trivial⟩, hS.F ht⟩) hS.2.2 dX0_markIn_26
set_option maxHeartbeats 4000000 in
set_option maxRecDepth 100000 in
theorem kX0_hasMagic (l : Launch) (dC : Nat → ClassId) (dI : Nat → Nat → Nat) (tt : Nat → Nat) (cI cB : ClassId) (sz : Nat) (a1 a2 a3 a4 : Nat) (k : K0) (ut : Nat → Int32) (i0 : Nat) (hp : i0 * 256 + 8 ≤ 2816) : MetR l yX0_hasMagic wsX0_hasMagic { frames := 1, cells := 0, slots := 0, locals := 21 } (dC, dI) [(cI, .int), (cB, .byte)] tt [] sz (mW a1 a2 a3 a4 cI k ut) [.ref a1, .int (nI i0)] (fun r => r = bI (magB k.1 (i0 * 256))) := by
  refine Met.ofW (cc := cX0_hasMagic) (maxL := 4) (ret := (some .boolean)) (by decide) rfl ?_
  intro p e s m args below meth c s₁ B hml hv
  obtain ⟨rfl, hsz, hP, hK, hD0, hE⟩ := hv
  have hx := B.exec
  have hb := B.bytes
  have hr := B.returns
  have hts := atoms_spec (ws := wsX0_hasMagic) B.pre
  have hown : s.vm.findClass RX0 = some m.cls := findClass_of_methodNamed B.named
  have hlocks := B.notSynchronized
  subst hsz
  have hD := hD0
  generalize hAe : va_A [] s.heap.size = A at hE ⊢
  have hA : ∀ q : Nat, s.heap.size ≤ q → A q := fun q h => by rw [← hAe]; exact Or.inr h
  have hS : va_S A s.heap s.heap [] := va_S.rf
  have hl := lv_entry ([.ref a1, .int (nI i0)]) (n := 4) (Nat.le_of_ble_eq_true rfl)
  rw [lg_entry_eq]
  generalize (lg_sl ([.ref a1, .int (nI i0)]) ++ List.replicate (4 - (lg_sl ([.ref a1, .int (nI i0)])).length) Slot.unset).toArray = ls at hl ⊢
  have hl : lv_has ls 4 [(0, .ref a1), (1, .int (nI i0))] := hl
  have hP : va_P (dC, dI) vwCl (mW a1 a2 a3 a4 cI k ut) s.heap := hP
  refine lv_iload_n (pc := 0) hx hb dX0_hasMagic_0 rfl (lv_at hl 1 rfl) ?_
  refine lv_iconst (pc := 1) (v := nI 0) hx hb dX0_hasMagic_1 (by decide) ?_
  refine x_roi (pc := 2) (va_runS (As := [.int (nI i0), .int (nI 0)]) (rest := []) ⟨hx, hb, hml, hown, hts⟩ (kX0_unitAt l dC dI tt cI cB _ i0 0) (va_cwS 2 hts gX0_hasMagic_X0_unitAt rfl rfl rfl (by decide +kernel) ⟨Nat.le_of_ble_eq_true rfl, Nat.le_of_ble_eq_true rfl⟩) (x_preS hS hE hK hP hD [] rfl (by decide) (x_ro hS hA) xR0) rfl rfl hl.1 rfl (lv_room (Nat.le_of_ble_eq_true rfl)) dX0_hasMagic_2 ⟨Nat.le_of_ble_eq_true rfl, Nat.le_of_ble_eq_true rfl⟩) hS hA hP (fun r_1 H locs hr_1 hP hS => ?_)
  subst hr_1
  refine lv_istore_n (pc := 5) (lv' := [(2, .int (nI (i0 * 256 + 0 * 8))), (0, .ref a1), (1, .int (nI i0))]) hx hb dX0_hasMagic_5 rfl hl (by decide) rfl (fun ls hl => ?_)
  refine lv_iconst (pc := 6) (v := nI 0) hx hb dX0_hasMagic_6 (by decide) ?_
  refine lv_istore_n (pc := 7) (lv' := [(3, .int (nI 0)), (2, .int (nI (i0 * 256 + 0 * 8))), (0, .ref a1), (1, .int (nI i0))]) hx hb dX0_hasMagic_7 rfl hl (by decide) rfl (fun ls hl => ?_)
  refine x_loop (σ := (Nat)) (Wd := fun i : (Nat) => mW a1 a2 a3 a4 cI k ut) (Lv := fun i : (Nat) => [(3, .int (nI i)), (2, .int (nI (i0 * 256 + 0 * 8))), (0, .ref a1), (1, .int (nI i0))]) (I := fun i : (Nat) => (i ≤ 8) ∧ (eqTo (fun z => k.1 (i0 * 256 + 0 * 8 + z)) magG i = true)) (μ := fun i : (Nat) => 8 - i) ?_ (0) ⟨by omega, eqTo_0 _ _⟩ hP hD hS (lv_sub hl [0, 1, 2, 3] rfl)
  intro i H locs ls hI hP hD hS hl ih8
  obtain ⟨hi8, hq⟩ : (i ≤ 8) ∧ (eqTo (fun z => k.1 (i0 * 256 + 0 * 8 + z)) magG i = true) := hI
  have hP : va_P (dC, dI) vwCl (mW a1 a2 a3 a4 cI k ut) _ := hP
  have hD : va_D (fun _ => True) (mW a1 a2 a3 a4 cI k ut) := hD
  have hl : lv_has ls 4 [(3, .int (nI i)), (2, .int (nI (i0 * 256 + 0 * 8))), (0, .ref a1), (1, .int (nI i0))] := hl
  refine lv_iload_n (pc := 8) hx hb dX0_hasMagic_8 rfl (lv_at hl 0 rfl) ?_
  refine lv_bipush (pc := 9) (v := nI 8) hx hb dX0_hasMagic_9 (by decide) ?_
  refine lv_icmp_ge (pc := 11) (tgt := 37) hx hb dX0_hasMagic_11 (by decide) (fun c_2 => ?_) (fun c_2 => ?_)
  · skip
    have c_2 : 8 ≤ i := (nI_leI (a := 8) (b := i) (by omega) (by omega)).mp c_2
    refine lv_iconst (pc := 37) (v := nI 1) hx hb dX0_hasMagic_37 (by decide) ?_
    have hi9 : i = 8 := by omega
    subst hi9
    exact W.zret (v := nI 1) hx hb hr rfl (fun t ht hW => ⟨⟨nI 1, (), rfl, by rw [show magB k.1 (i0 * 256) = true from hq]; rfl, trivial⟩, hS.F ht⟩) hS.2.2 dX0_hasMagic_38
  · skip
    have c_2 : ¬ 8 ≤ i := fun z => c_2 ((nI_leI (a := 8) (b := i) (by omega) (by omega)).mpr z)
    refine lv_aload_n (pc := 14) hx hb dX0_hasMagic_14 rfl (lv_at hl 2 rfl) ?_
    refine lv_iload_n (pc := 15) hx hb dX0_hasMagic_15 rfl (lv_at hl 1 rfl) ?_
    refine lv_iload_n (pc := 16) hx hb dX0_hasMagic_16 rfl (lv_at hl 0 rfl) ?_
    refine lv_iadd (pc := 17) hx hb dX0_hasMagic_17 ?_
    refine lv_cv (nI_add (i0 * 256 + 0 * 8) i) ?_
    refine x_roi (pc := 18) (va_runV (As := [.int (nI ((i0 * 256 + 0 * 8) + i))]) (rest := []) ⟨hx, hb, hml, hown, hts⟩ (kX0_byteAt l dC dI tt cI cB _ a1 a2 a3 a4 k ut ((i0 * 256 + 0 * 8) + i) (by omega)) (cwV 1 hts gX0_hasMagic_X0_byteAt rfl rfl rfl (by decide +kernel) ⟨Nat.le_of_ble_eq_true rfl, Nat.le_of_ble_eq_true rfl⟩) (x_preV hS hE hK hP hD [0, 1, 2, 3] rfl (by decide) (x_ro hS hA) xR0 0 0 rfl rfl) rfl rfl hl.1 rfl (lv_room (Nat.le_of_ble_eq_true rfl)) dX0_hasMagic_18 ⟨Nat.le_of_ble_eq_true rfl, Nat.le_of_ble_eq_true rfl⟩) hS hA hP (fun r_3 H locs hr_3 hP hS => ?_)
    subst hr_3
    refine va_getsN (pc := 21) hx hb (hE.2.2.1).1 hS hown (hE.f 7 rfl) (fun _ h9 => h9) dX0_hasMagic_21 ?_
    refine lv_iload_n (pc := 24) hx hb dX0_hasMagic_24 rfl (lv_at hl 0 rfl) ?_
    refine x_ti (pc := 25) (k := i) hx hb (hE.2.2.1).2 hS (by omega) (by decide) dX0_hasMagic_25 ?_
    refine lv_icmp_eq (pc := 26) (tgt := 31) hx hb dX0_hasMagic_26 (by decide) (fun c5 => ?_) (fun c5 => ?_)
    · skip
      refine lv_iinc (pc := 31) (v := nI (i + 1)) (lv' := [(3, .int (nI (i + 1))), (2, .int (nI (i0 * 256 + 0 * 8))), (0, .ref a1), (1, .int (nI i0))]) hx hb dX0_hasMagic_31 hl (k := 0) rfl (nI_inc i 1) (by decide) rfl (fun ls hl => ?_)
      refine lv_goto (pc := 34) (tgt := 8) hx hb dX0_hasMagic_34 (by decide) ?_
      exact ih8 (i + 1) H locs ls ⟨by omega, by rw [eqTo_s, hq, Bool.true_and]; exact decide_eq_true (ub_inj.mp (by rw [← tbM_ub i (by omega)]; exact c5))⟩ (by first | omega | (simp only []; omega)) hP hD hS (lv_sub hl [0, 1, 2, 3] rfl)
    · skip
      refine lv_iconst (pc := 29) (v := nI 0) hx hb dX0_hasMagic_29 (by decide) ?_
      exact W.zret (v := nI 0) hx hb hr rfl (fun t ht hW => ⟨⟨nI 0, (), rfl, by rw [show magB k.1 (i0 * 256) = false from eqTo_f (i := i) (by omega) (fun y => c5 (by rw [tbM_ub i (by omega)]; exact ub_inj.mpr y))]; rfl, trivial⟩, hS.F ht⟩) hS.2.2 dX0_hasMagic_30
set_option maxHeartbeats 4000000 in
set_option maxRecDepth 100000 in
theorem kX0_writeRow (l : Launch) (dC : Nat → ClassId) (dI : Nat → Nat → Nat) (tt : Nat → Nat) (cI cB : ClassId) (sz : Nat) (a1 a2 a3 a4 : Nat) (k : K0) (ut : Nat → Int32) (t n : Nat) (G : Nat → Int8) (q len c9 : Nat) (hk : kOk k) (hlen : len ≤ n) (hn : n < 2 ^ 31) (hc : len ≤ 8 * c9) (hc2 : 8 * c9 < len + 8) (hq : q + 8 * c9 ≤ 2816) : MetI (S := (K0 × (Nat → Int32))) l yX0_writeRow wsX0_writeRow { frames := 2, cells := 0, slots := 0, locals := 52 } (dC, dI) [(cI, .int), (cB, .byte)] tt [(t, n, fun j => ub (G j))] sz (mW a1 a2 a3 a4 cI k ut) [.ref a1, .int (nI q), .ref t, .int (nI len)] (fun u : (K0 × (Nat → Int32)) => mW a1 a2 a3 a4 cI u.1 u.2) (fun r u => r = bI (kActs (rowL q G len c9 0) k).2 ∧ u.1 = (kActs (rowL q G len c9 0) k).1) := by
  refine Met.ofW (cc := cX0_writeRow) (maxL := 5) (ret := (some .boolean)) (by decide) rfl ?_
  intro p e s m args below meth c s₁ B hml hv
  obtain ⟨rfl, hsz, hP, hK, hD0, hE⟩ := hv
  have hx := B.exec
  have hb := B.bytes
  have hr := B.returns
  have hts := atoms_spec (ws := wsX0_writeRow) B.pre
  have hown : s.vm.findClass RX0 = some m.cls := findClass_of_methodNamed B.named
  have hlocks := B.notSynchronized
  subst hsz
  have hD := hD0.self (sz := s.heap.size)
  generalize hAe : va_A (mW a1 a2 a3 a4 cI k ut) s.heap.size = A at hD hE ⊢
  have hA : ∀ q : Nat, s.heap.size ≤ q → A q := fun q h => by rw [← hAe]; exact Or.inr h
  have hS : va_S A s.heap s.heap [] := va_S.rf
  have hl := lv_entry ([.ref a1, .int (nI q), .ref t, .int (nI len)]) (n := 5) (Nat.le_of_ble_eq_true rfl)
  rw [lg_entry_eq]
  generalize (lg_sl ([.ref a1, .int (nI q), .ref t, .int (nI len)]) ++ List.replicate (5 - (lg_sl ([.ref a1, .int (nI q), .ref t, .int (nI len)])).length) Slot.unset).toArray = ls at hl ⊢
  have hl : lv_has ls 5 [(0, .ref a1), (1, .int (nI q)), (2, .ref t), (3, .int (nI len))] := hl
  have hP : va_P (dC, dI) vwCl (mW a1 a2 a3 a4 cI k ut) s.heap := hP
  refine lv_iconst (pc := 0) (v := nI 0) hx hb dX0_writeRow_0 (by decide) ?_
  refine lv_istore (pc := 1) (lv' := [(4, .int (nI 0)), (0, .ref a1), (1, .int (nI q)), (2, .ref t), (3, .int (nI len))]) hx hb dX0_writeRow_1 hl (by decide) rfl (fun ls hl => ?_)
  refine x_loop (σ := (Nat) × (Nat) × (K0) × (Nat → Int32)) (Wd := fun x : (Nat) × (Nat) × (K0) × (Nat → Int32) => match x with | (d, fr, k1, ut1) => mW a1 a2 a3 a4 cI k1 ut1) (Lv := fun x : (Nat) × (Nat) × (K0) × (Nat → Int32) => match x with | (d, fr, k1, ut1) => [(4, .int (nI fr)), (0, .ref a1), (1, .int (nI q)), (2, .ref t), (3, .int (nI len))]) (I := fun x : (Nat) × (Nat) × (K0) × (Nat → Int32) => match x with | (d, fr, k1, ut1) => (kActs (rowL q G len c9 0) k = kActs (rowL q G len d fr) k1) ∧ (fr + 8 * d = 8 * c9) ∧ (kOk k1)) (μ := fun x : (Nat) × (Nat) × (K0) × (Nat → Int32) => match x with | (d, fr, k1, ut1) => d) ?_ (c9, 0, k, ut) ⟨rfl, by omega, hk⟩ hP hD hS (lv_sub hl [0, 1, 2, 3, 4] rfl)
  intro x H locs ls hI hP hD hS hl ih3
  obtain ⟨d, fr, k1, ut1⟩ := x
  obtain ⟨hT0, hd, hk1⟩ : (kActs (rowL q G len c9 0) k = kActs (rowL q G len d fr) k1) ∧ (fr + 8 * d = 8 * c9) ∧ (kOk k1) := hI
  have hP : va_P (dC, dI) vwCl (mW a1 a2 a3 a4 cI k1 ut1) _ := hP
  have hD : va_D A (mW a1 a2 a3 a4 cI k1 ut1) := hD
  have hl : lv_has ls 5 [(4, .int (nI fr)), (0, .ref a1), (1, .int (nI q)), (2, .ref t), (3, .int (nI len))] := hl
  refine lv_iload (pc := 3) hx hb dX0_writeRow_3 (lv_at hl 0 rfl) ?_
  refine lv_iload_n (pc := 5) hx hb dX0_writeRow_5 rfl (lv_at hl 4 rfl) ?_
  refine lv_icmp_ge (pc := 6) (tgt := 32) hx hb dX0_writeRow_6 (by decide) (fun c1 => ?_) (fun c1 => ?_)
  · skip
    have c1 : len ≤ fr := (nI_leI (a := len) (b := fr) (by omega) (by omega)).mp c1
    refine lv_iconst (pc := 32) (v := nI 1) hx hb dX0_writeRow_32 (by decide) ?_
    have hd0 : d = 0 := by omega
    subst hd0
    exact W.zret (v := nI 1) hx hb hr rfl (fun t ht hW => ⟨⟨nI 1, (k1, ut1), rfl, ⟨by rw [hT0]; rfl, by rw [hT0]; rfl⟩, by show va_P _ _ _ t.heap; rw [ht]; exact hP, va_K.moved hW.alike hK, hD⟩, hS.F ht⟩) hS.2.2 dX0_writeRow_33
  · skip
    have c1 : ¬ len ≤ fr := fun z => c1 ((nI_leI (a := len) (b := fr) (by omega) (by omega)).mpr z)
    obtain ⟨d, rfl⟩ : ∃ z, d = z + 1 := ⟨d - 1, by omega⟩
    refine lv_aload_n (pc := 9) hx hb dX0_writeRow_9 rfl (lv_at hl 1 rfl) ?_
    refine lv_iload_n (pc := 10) hx hb dX0_writeRow_10 rfl (lv_at hl 2 rfl) ?_
    refine lv_iload (pc := 11) hx hb dX0_writeRow_11 (lv_at hl 0 rfl) ?_
    refine lv_iadd (pc := 13) hx hb dX0_writeRow_13 ?_
    refine lv_cv (nI_add q fr) ?_
    refine lv_aload_n (pc := 14) hx hb dX0_writeRow_14 rfl (lv_at hl 3 rfl) ?_
    refine lv_iload (pc := 15) hx hb dX0_writeRow_15 (lv_at hl 0 rfl) ?_
    refine lv_iload_n (pc := 17) hx hb dX0_writeRow_17 rfl (lv_at hl 4 rfl) ?_
    refine x_wri (pc := 18) (va_runV (As := [.int (nI (q + fr)), .ref t, .int (nI fr), .int (nI len)]) (rest := []) ⟨hx, hb, hml, hown, hts⟩ (kX0_writeUnitT l dC dI tt cI cB _ a1 a2 a3 a4 k1 ut1 t n G (q + fr) fr len hk1 hlen hn (by omega) (by omega)) (cwV 4 hts gX0_writeRow_X0_writeUnit rfl rfl rfl (by decide +kernel) ⟨Nat.le_of_ble_eq_true rfl, Nat.le_of_ble_eq_true rfl⟩) (x_preV hS hE hK hP hD [0, 1, 2, 3] rfl (by decide) (va_free hD hS hA [0, 1, 2, 3] rfl) (xRs hS hE (va_free hD hS hA [0, 1, 2, 3] rfl)) 0 0 rfl rfl) rfl rfl hl.1 rfl (lv_room (Nat.le_of_ble_eq_true rfl)) dX0_writeRow_18 ⟨Nat.le_of_ble_eq_true rfl, Nat.le_of_ble_eq_true rfl⟩) hS hA hP hD [0, 1, 2, 3] [] rfl rfl (by decide) (by decide) (fun r_2 u_1 H locs hu_1 hP hD hS => ?_)
    obtain ⟨k_4, t_5⟩ := u_1
    obtain ⟨hr_2, ek_4⟩ : r_2 = bI (kActs (unitL (q + fr) (unitG G fr len)) k1).2 ∧ k_4 = (kActs (unitL (q + fr) (unitG G fr len)) k1).1 := hu_1
    obtain ⟨b_3, eb_3⟩ : ∃ z, z = (kActs (unitL (q + fr) (unitG G fr len)) k1).2 := ⟨_, rfl⟩
    rw [← eb_3] at hr_2
    subst hr_2
    have hP := hP.sub (ws' := mW a1 a2 a3 a4 cI k_4 t_5) [0, 1, 2, 3] rfl
    have hD := hD.sub (ws' := mW a1 a2 a3 a4 cI k_4 t_5) [0, 1, 2, 3] (by decide) rfl
    refine lv_if_ne (pc := 21) (tgt := 26) hx hb dX0_writeRow_21 (by decide) (fun c2 => ?_) (fun c2 => ?_)
    · skip
      have c2 : b_3 = true := bI_1.mp c2
      refine lv_iinc (pc := 26) (v := nI (fr + 8)) (lv' := [(4, .int (nI (fr + 8))), (0, .ref a1), (1, .int (nI q)), (2, .ref t), (3, .int (nI len))]) hx hb dX0_writeRow_26 hl (k := 0) rfl (nI_inc fr 8) (by decide) rfl (fun ls hl => ?_)
      refine lv_goto (pc := 29) (tgt := 3) hx hb dX0_writeRow_29 (by decide) ?_
      exact ih3 (d, fr + 8, k_4, t_5) H locs ls ⟨by rw [hT0, rowL_s, kActs_app, ← eb_3, c2, if_pos rfl, ← ek_4], by omega, by rw [ek_4]; exact kActs_ok hk1 (by rw [← eb_3]; exact c2)⟩ (by first | omega | (simp only []; omega)) hP hD hS (lv_sub hl [0, 1, 2, 3, 4] rfl)
    · skip
      have c2 : b_3 = false := bI_0.mp c2
      refine lv_iconst (pc := 24) (v := nI 0) hx hb dX0_writeRow_24 (by decide) ?_
      exact W.zret (v := nI 0) hx hb hr rfl (fun t ht hW => ⟨⟨nI 0, (k_4, t_5), rfl, ⟨by rw [hT0, rowL_s, kActs_app, ← eb_3, c2, if_neg (by decide), ← eb_3, c2]; rfl, by rw [hT0, rowL_s, kActs_app, ← eb_3, c2, if_neg (by decide)]; exact ek_4⟩, by show va_P _ _ _ t.heap; rw [ht]; exact hP, va_K.moved hW.alike hK, hD⟩, hS.F ht⟩) hS.2.2 dX0_writeRow_25
set_option maxHeartbeats 4000000 in
set_option maxRecDepth 100000 in
theorem kX0_replaceSector (l : Launch) (dC : Nat → ClassId) (dI : Nat → Nat → Nat) (tt : Nat → Nat) (cI cB : ClassId) (sz : Nat) (a1 a2 a3 a4 : Nat) (k : K0) (ut : Nat → Int32) (dst src : Nat) (hk : kOk k) (hds : dst < 11) (hsr : src < 11) (hne : src ≠ dst) : MetI (S := (K0 × (Nat → Int32))) l yX0_replaceSector wsX0_replaceSector { frames := 2, cells := 0, slots := 0, locals := 52 } (dC, dI) [(cI, .int), (cB, .byte)] tt [] sz (mW a1 a2 a3 a4 cI k ut) [.ref a1, .int (nI dst), .int (nI src)] (fun u : (K0 × (Nat → Int32)) => mW a1 a2 a3 a4 cI u.1 u.2) (fun r u => r = bI (kActs (repL k.1 src dst) k).2 ∧ u.1 = (kActs (repL k.1 src dst) k).1) := by
  refine Met.ofW (cc := cX0_replaceSector) (maxL := 4) (ret := (some .boolean)) (by decide) rfl ?_
  intro p e s m args below meth c s₁ B hml hv
  obtain ⟨rfl, hsz, hP, hK, hD0, hE⟩ := hv
  have hx := B.exec
  have hb := B.bytes
  have hr := B.returns
  have hts := atoms_spec (ws := wsX0_replaceSector) B.pre
  have hown : s.vm.findClass RX0 = some m.cls := findClass_of_methodNamed B.named
  have hlocks := B.notSynchronized
  subst hsz
  have hD := hD0.self (sz := s.heap.size)
  generalize hAe : va_A (mW a1 a2 a3 a4 cI k ut) s.heap.size = A at hD hE ⊢
  have hA : ∀ q : Nat, s.heap.size ≤ q → A q := fun q h => by rw [← hAe]; exact Or.inr h
  have hS : va_S A s.heap s.heap [] := va_S.rf
  have hl := lv_entry ([.ref a1, .int (nI dst), .int (nI src)]) (n := 4) (Nat.le_of_ble_eq_true rfl)
  rw [lg_entry_eq]
  generalize (lg_sl ([.ref a1, .int (nI dst), .int (nI src)]) ++ List.replicate (4 - (lg_sl ([.ref a1, .int (nI dst), .int (nI src)])).length) Slot.unset).toArray = ls at hl ⊢
  have hl : lv_has ls 4 [(0, .ref a1), (1, .int (nI dst)), (2, .int (nI src))] := hl
  have hP : va_P (dC, dI) vwCl (mW a1 a2 a3 a4 cI k ut) s.heap := hP
  refine lv_aload_n (pc := 0) hx hb dX0_replaceSector_0 rfl (lv_at hl 0 rfl) ?_
  refine lv_iload_n (pc := 1) hx hb dX0_replaceSector_1 rfl (lv_at hl 1 rfl) ?_
  refine x_wri (pc := 2) (va_runV (As := [.int (nI dst)]) (rest := []) ⟨hx, hb, hml, hown, hts⟩ (kX0_eraseSector l dC dI tt cI cB _ a1 a2 a3 a4 k ut dst hds hk.1 hk.2.1 hk.2.2) (cwV 1 hts gX0_replaceSector_X0_eraseSector rfl rfl rfl (by decide +kernel) ⟨Nat.le_of_ble_eq_true rfl, Nat.le_of_ble_eq_true rfl⟩) (x_preV hS hE hK hP hD [0, 1, 2, 3] rfl (by decide) (va_free hD hS hA [0, 1, 2, 3] rfl) xR0 0 0 rfl rfl) rfl rfl hl.1 rfl (lv_room (Nat.le_of_ble_eq_true rfl)) dX0_replaceSector_2 ⟨Nat.le_of_ble_eq_true rfl, Nat.le_of_ble_eq_true rfl⟩) hS hA hP hD [0, 1, 2, 3] [] rfl rfl (by decide) (by decide) (fun r_2 u_1 H locs hu_1 hP hD hS => ?_)
  obtain ⟨hr_2, eu_1⟩ := hu_1
  obtain ⟨b_3, eb_3⟩ : ∃ z, z = (kErase dst k).2 := ⟨_, rfl⟩
  rw [← eb_3] at hr_2
  subst hr_2
  have hP := hP.sub (ws' := mW a1 a2 a3 a4 cI u_1 ut) [0, 1, 2, 3] rfl
  have hD := hD.sub (ws' := mW a1 a2 a3 a4 cI u_1 ut) [0, 1, 2, 3] (by decide) rfl
  refine lv_if_ne (pc := 5) (tgt := 10) hx hb dX0_replaceSector_5 (by decide) (fun c0 => ?_) (fun c0 => ?_)
  · skip
    have c0 : b_3 = true := bI_1.mp c0
    refine lv_iconst (pc := 10) (v := nI 0) hx hb dX0_replaceSector_10 (by decide) ?_
    refine lv_istore_n (pc := 11) (lv' := [(3, .int (nI 0)), (0, .ref a1), (1, .int (nI dst)), (2, .int (nI src))]) hx hb dX0_replaceSector_11 rfl hl (by decide) rfl (fun ls hl => ?_)
    refine x_loop (σ := (Nat) × (Nat) × (K0) × (Nat → Int32)) (Wd := fun x : (Nat) × (Nat) × (K0) × (Nat → Int32) => match x with | (d, v, k1, ut1) => mW a1 a2 a3 a4 cI k1 ut1) (Lv := fun x : (Nat) × (Nat) × (K0) × (Nat → Int32) => match x with | (d, v, k1, ut1) => [(3, .int (nI v)), (0, .ref a1), (1, .int (nI dst)), (2, .int (nI src))]) (I := fun x : (Nat) × (Nat) × (K0) × (Nat → Int32) => match x with | (d, v, k1, ut1) => (kActs (repL k.1 src dst) k = kActs (copyL k.1 src dst d v) k1) ∧ (v + d = 32) ∧ (kOk k1) ∧ (∀ j, src * 256 ≤ j → j < src * 256 + 256 → k1.1 j = k.1 j)) (μ := fun x : (Nat) × (Nat) × (K0) × (Nat → Int32) => match x with | (d, v, k1, ut1) => d) ?_ (32, 0, u_1, ut) ⟨by rw [repL, kActs_cons]; show (if (kErase dst k).2 = true then _ else _) = _; rw [← eb_3, c0, if_pos rfl]; show kActs _ (kErase dst k).1 = _; rw [← eu_1], rfl, by rw [eu_1]; exact kAct_ok (x := .inl dst) hk (show (kErase dst k).2 = true by rw [← eb_3]; exact c0), fun j h1 h2 => by rw [eu_1]; show fillF k.1 (dst * 256) _ j = _; unfold fillF; rw [if_neg]; show ¬ (dst * 256 ≤ j ∧ j < dst * 256 + (if (kBegin k).2 = true then 32 else k.2.2.2.2.2.1) * 8); rw [if_pos (show (kBegin k).2 = true from (eb_3.symm.trans c0))]; omega⟩ hP hD hS (lv_sub hl [0, 1, 2, 3] rfl)
    intro x H locs ls hI hP hD hS hl ih12
    obtain ⟨d, v, k1, ut1⟩ := x
    obtain ⟨hT0, hd, hk1, hag⟩ : (kActs (repL k.1 src dst) k = kActs (copyL k.1 src dst d v) k1) ∧ (v + d = 32) ∧ (kOk k1) ∧ (∀ j, src * 256 ≤ j → j < src * 256 + 256 → k1.1 j = k.1 j) := hI
    have hP : va_P (dC, dI) vwCl (mW a1 a2 a3 a4 cI k1 ut1) _ := hP
    have hD : va_D A (mW a1 a2 a3 a4 cI k1 ut1) := hD
    have hl : lv_has ls 4 [(3, .int (nI v)), (0, .ref a1), (1, .int (nI dst)), (2, .int (nI src))] := hl
    refine lv_iload_n (pc := 12) hx hb dX0_replaceSector_12 rfl (lv_at hl 0 rfl) ?_
    refine lv_bipush (pc := 13) (v := nI 32) hx hb dX0_replaceSector_13 (by decide) ?_
    refine lv_icmp_ge (pc := 15) (tgt := 50) hx hb dX0_replaceSector_15 (by decide) (fun c1 => ?_) (fun c1 => ?_)
    · skip
      have c1 : 32 ≤ v := (nI_leI (a := 32) (b := v) (by omega) (by omega)).mp c1
      refine lv_iconst (pc := 50) (v := nI 1) hx hb dX0_replaceSector_50 (by decide) ?_
      have hd0 : d = 0 := by omega
      subst hd0
      exact W.zret (v := nI 1) hx hb hr rfl (fun t ht hW => ⟨⟨nI 1, (k1, ut1), rfl, ⟨by rw [hT0]; rfl, by rw [hT0]; rfl⟩, by show va_P _ _ _ t.heap; rw [ht]; exact hP, va_K.moved hW.alike hK, hD⟩, hS.F ht⟩) hS.2.2 dX0_replaceSector_51
    · skip
      have c1 : ¬ 32 ≤ v := fun z => c1 ((nI_leI (a := 32) (b := v) (by omega) (by omega)).mpr z)
      obtain ⟨d, rfl⟩ : ∃ z, d = z + 1 := ⟨d - 1, by omega⟩
      have hG9 : unitG k1.1 (src * 256 + v * 8) 2816 = unitG k.1 (src * 256 + v * 8) 2816 := unitG_c (fun i h1 h2 => hag _ (by omega) (by omega))
      refine lv_aload_n (pc := 18) hx hb dX0_replaceSector_18 rfl (lv_at hl 1 rfl) ?_
      refine lv_iload_n (pc := 19) hx hb dX0_replaceSector_19 rfl (lv_at hl 2 rfl) ?_
      refine lv_iload_n (pc := 20) hx hb dX0_replaceSector_20 rfl (lv_at hl 0 rfl) ?_
      refine x_roi (pc := 21) (va_runS (As := [.int (nI dst), .int (nI v)]) (rest := [.ref a1]) ⟨hx, hb, hml, hown, hts⟩ (kX0_unitAt l dC dI tt cI cB _ dst v) (va_cwS 2 hts gX0_replaceSector_X0_unitAt rfl rfl rfl (by decide +kernel) ⟨Nat.le_of_ble_eq_true rfl, Nat.le_of_ble_eq_true rfl⟩) (x_preS hS hE hK hP hD [] rfl (by decide) (x_ro hS hA) xR0) rfl rfl hl.1 rfl (lv_room (Nat.le_of_ble_eq_true rfl)) dX0_replaceSector_21 ⟨Nat.le_of_ble_eq_true rfl, Nat.le_of_ble_eq_true rfl⟩) hS hA hP (fun r_4 H locs hr_4 hP hS => ?_)
      subst hr_4
      refine lv_aload_n (pc := 24) hx hb dX0_replaceSector_24 rfl (lv_at hl 1 rfl) ?_
      refine va_get (pc := 25) (D := (dC, dI)) (ci := 0) (v := .ref a2) (C := RX0) (T := TX0) (N := 9) hx hb hts (by decide +kernel) hown hK hP 0 rfl rfl 0 (by decide) (hts (.fieldLink RX0 9 "ScratchSwap$Memory" "bytes" "[I") (by decide +kernel)) (fun _ h9 => h9) rfl dX0_replaceSector_25 ?_
      refine lv_iload_n (pc := 28) hx hb dX0_replaceSector_28 rfl (lv_at hl 3 rfl) ?_
      refine lv_iload_n (pc := 29) hx hb dX0_replaceSector_29 rfl (lv_at hl 0 rfl) ?_
      refine x_roi (pc := 30) (va_runS (As := [.int (nI src), .int (nI v)]) (rest := [.ref a2, .int (nI (dst * 256 + v * 8)), .ref a1]) ⟨hx, hb, hml, hown, hts⟩ (kX0_unitAt l dC dI tt cI cB _ src v) (va_cwS 2 hts gX0_replaceSector_X0_unitAt rfl rfl rfl (by decide +kernel) ⟨Nat.le_of_ble_eq_true rfl, Nat.le_of_ble_eq_true rfl⟩) (x_preS hS hE hK hP hD [] rfl (by decide) (x_ro hS hA) xR0) rfl rfl hl.1 rfl (lv_room (Nat.le_of_ble_eq_true rfl)) dX0_replaceSector_30 ⟨Nat.le_of_ble_eq_true rfl, Nat.le_of_ble_eq_true rfl⟩) hS hA hP (fun r_5 H locs hr_5 hP hS => ?_)
      subst hr_5
      refine lv_sipush (pc := 33) (v := nI 2816) hx hb dX0_replaceSector_33 (by decide) ?_
      refine x_wri (pc := 36) (va_runV (As := [.int (nI (dst * 256 + v * 8)), .ref a2, .int (nI (src * 256 + v * 8)), .int (nI 2816)]) (rest := []) ⟨hx, hb, hml, hown, hts⟩ (kX0_writeUnitA l dC dI tt cI cB _ a1 a2 a3 a4 k1 ut1 (dst * 256 + v * 8) (src * 256 + v * 8) 2816 hk1 (by omega) (by omega) (by omega)) (cwV 4 hts gX0_replaceSector_X0_writeUnit rfl rfl rfl (by decide +kernel) ⟨Nat.le_of_ble_eq_true rfl, Nat.le_of_ble_eq_true rfl⟩) (x_preV hS hE hK hP hD [0, 1, 2, 3] rfl (by decide) (va_free hD hS hA [0, 1, 2, 3] rfl) xR0 0 0 rfl rfl) rfl rfl hl.1 rfl (lv_room (Nat.le_of_ble_eq_true rfl)) dX0_replaceSector_36 ⟨Nat.le_of_ble_eq_true rfl, Nat.le_of_ble_eq_true rfl⟩) hS hA hP hD [0, 1, 2, 3] [] rfl rfl (by decide) (by decide) (fun r_7 u_6 H locs hu_6 hP hD hS => ?_)
      obtain ⟨k_9, t_10⟩ := u_6
      obtain ⟨hr_7, ek_9⟩ : r_7 = bI (kActs (unitL (dst * 256 + v * 8) (unitG k1.1 (src * 256 + v * 8) 2816)) k1).2 ∧ k_9 = (kActs (unitL (dst * 256 + v * 8) (unitG k1.1 (src * 256 + v * 8) 2816)) k1).1 := hu_6
      obtain ⟨b_8, eb_8⟩ : ∃ z, z = (kActs (unitL (dst * 256 + v * 8) (unitG k1.1 (src * 256 + v * 8) 2816)) k1).2 := ⟨_, rfl⟩
      rw [← eb_8] at hr_7
      subst hr_7
      have hP := hP.sub (ws' := mW a1 a2 a3 a4 cI k_9 t_10) [0, 1, 2, 3] rfl
      have hD := hD.sub (ws' := mW a1 a2 a3 a4 cI k_9 t_10) [0, 1, 2, 3] (by decide) rfl
      refine lv_if_ne (pc := 39) (tgt := 44) hx hb dX0_replaceSector_39 (by decide) (fun c2 => ?_) (fun c2 => ?_)
      · skip
        have c2 : b_8 = true := bI_1.mp c2
        refine lv_iinc (pc := 44) (v := nI (v + 1)) (lv' := [(3, .int (nI (v + 1))), (0, .ref a1), (1, .int (nI dst)), (2, .int (nI src))]) hx hb dX0_replaceSector_44 hl (k := 0) rfl (nI_inc v 1) (by decide) rfl (fun ls hl => ?_)
        refine lv_goto (pc := 47) (tgt := 12) hx hb dX0_replaceSector_47 (by decide) ?_
        have hF9 : k_9.1 = appL (unitL (dst * 256 + v * 8) (unitG k1.1 (src * 256 + v * 8) 2816)) k1.1 := by rw [ek_9]; exact kActs_F (by rw [← eb_8]; exact c2)
        exact ih12 (d, v + 1, k_9, t_10) H locs ls ⟨by rw [hT0, copyL_s, kActs_app, ← hG9, ← eb_8, c2, if_pos rfl, ← ek_9], by omega, by rw [ek_9]; exact kActs_ok hk1 (by rw [← eb_8]; exact c2), fun j h1 h2 => by rw [hF9, appL_unit_out (by omega)]; exact hag j h1 h2⟩ (by first | omega | (simp only []; omega)) hP hD hS (lv_sub hl [0, 1, 2, 3] rfl)
      · skip
        have c2 : b_8 = false := bI_0.mp c2
        refine lv_iconst (pc := 42) (v := nI 0) hx hb dX0_replaceSector_42 (by decide) ?_
        exact W.zret (v := nI 0) hx hb hr rfl (fun t ht hW => ⟨⟨nI 0, (k_9, t_10), rfl, ⟨by rw [hT0, copyL_s, kActs_app, ← hG9, ← eb_8, c2, if_neg (by decide), ← eb_8, c2]; rfl, by rw [hT0, copyL_s, kActs_app, ← hG9, ← eb_8, c2, if_neg (by decide)]; exact ek_9⟩, by show va_P _ _ _ t.heap; rw [ht]; exact hP, va_K.moved hW.alike hK, hD⟩, hS.F ht⟩) hS.2.2 dX0_replaceSector_43
  · skip
    have c0 : b_3 = false := bI_0.mp c0
    refine lv_iconst (pc := 8) (v := nI 0) hx hb dX0_replaceSector_8 (by decide) ?_
    exact W.zret (v := nI 0) hx hb hr rfl (fun t ht hW => ⟨⟨nI 0, (u_1, ut), rfl, ⟨by rw [repL, kActs_cons]; show _ = bI (if (kErase dst k).2 = true then _ else kErase dst k).2; rw [if_neg (by rw [← eb_3, c0]; decide), ← eb_3, c0]; rfl, by rw [repL, kActs_cons]; show _ = (if (kErase dst k).2 = true then _ else kErase dst k).1; rw [if_neg (by rw [← eb_3, c0]; decide)]; exact eu_1⟩, by show va_P _ _ _ t.heap; rw [ht]; exact hP, va_K.moved hW.alike hK, hD⟩, hS.F ht⟩) hS.2.2 dX0_replaceSector_9
