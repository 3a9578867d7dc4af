set_option maxHeartbeats 4000000 in
set_option maxRecDepth 100000 in
theorem kX3_exchangeSectors (l : Launch) (dC : Nat → ClassId) (dI : Nat → Nat → Nat) (tt : Nat → Nat) (cI cB : ClassId) (sz : Nat) (a0 a1 a2 a3 a4 a5 a6 a7 a8 a9 : Nat) (k : K0) (ut : Nat → Int32) (tb : Nat → Int8) (tn : Nat) (sc hs : Nat → Int32) (rn : Bool) (rv wb ee we : Int32) (hk : kOk k) : MetI (S := (K0 × (Nat → Int32))) l yX3_exchangeSectors wsX3_exchangeSectors { frames := 4, cells := 0, slots := 0, locals := 100 } (dC, dI) [(cI, .int), (cB, .byte)] tt [] sz (xW a0 a1 a2 a3 a4 a5 a6 a7 a8 a9 cI k ut tb tn sc hs rn rv wb ee we) [.ref a0] (fun u : (K0 × (Nat → Int32)) => xW a0 a1 a2 a3 a4 a5 a6 a7 a8 a9 cI u.1 u.2 tb tn sc hs rn rv wb ee we) (fun r u => r = bI (kActs (exL 4 k.1) k).2 ∧ u.1 = (kActs (exL 4 k.1) k).1) := by
  refine Met.ofW (cc := cX3_exchangeSectors) (maxL := 3) (ret := (some .boolean)) (by decide) rfl ?_
  intro p e s m args below meth c s₁ B hml hv
  obtain ⟨rfl, hsz, hP, hK, hD0, hE⟩ := hv
  have hx := B.exec
  have hb := B.bytes
  have hr := B.returns
  have hts := atoms_spec (ws := wsX3_exchangeSectors) B.pre
  have hown : s.vm.findClass RX3 = some m.cls := findClass_of_methodNamed B.named
  have hlocks := B.notSynchronized
  subst hsz
  have hD := hD0.self (sz := s.heap.size)
  generalize hAe : va_A (xW a0 a1 a2 a3 a4 a5 a6 a7 a8 a9 cI k ut tb tn sc hs rn rv wb ee we) s.heap.size = A at hD hE ⊢
  have hA : ∀ q : Nat, s.heap.size ≤ q → A q := fun q h => by rw [← hAe]; exact Or.inr h
  have hS : va_S A s.heap s.heap [] := va_S.rf
  have hl := lv_entry ([.ref a0]) (n := 3) (Nat.le_of_ble_eq_true rfl)
  rw [lg_entry_eq]
  generalize (lg_sl ([.ref a0]) ++ List.replicate (3 - (lg_sl ([.ref a0])).length) Slot.unset).toArray = ls at hl ⊢
  have hl : lv_has ls 3 [(0, .ref a0)] := hl
  have hP : va_P (dC, dI) vwCl (xW a0 a1 a2 a3 a4 a5 a6 a7 a8 a9 cI k ut tb tn sc hs rn rv wb ee we) s.heap := hP
  refine lv_iconst (pc := 0) (v := nI 3) hx hb dX3_exchangeSectors_0 (by decide) ?_
  refine lv_istore_n (pc := 1) (lv' := [(1, .int (nI 3)), (0, .ref a0)]) hx hb dX3_exchangeSectors_1 rfl hl (by decide) rfl (fun ls hl => ?_)
  have hl : lv_has ls 3 [(1, .int (nI 4 - nI 1)), (0, .ref a0)] := by rw [show nI 4 - nI 1 = nI 3 from nI_sub1 3]; exact hl
  refine x_loop (σ := (Nat) × (K0) × (Nat → Int32)) (Wd := fun x : (Nat) × (K0) × (Nat → Int32) => match x with | (d, k0, ut) => xW a0 a1 a2 a3 a4 a5 a6 a7 a8 a9 cI k0 ut tb tn sc hs rn rv wb ee we) (Lv := fun x : (Nat) × (K0) × (Nat → Int32) => match x with | (d, k0, ut) => [(1, .int (nI d - nI 1)), (0, .ref a0)]) (I := fun x : (Nat) × (K0) × (Nat → Int32) => match x with | (d, k0, ut) => (kActs (exL 4 k.1) k = kActs (exL d k0.1) k0) ∧ (d ≤ 4) ∧ (kOk k0)) (μ := fun x : (Nat) × (K0) × (Nat → Int32) => match x with | (d, k0, ut) => d) ?_ (4, k, ut) ⟨rfl, by omega, hk⟩ hP hD hS (lv_sub hl [0, 1] rfl)
  intro x H locs ls hI hP hD hS hl ih2
  obtain ⟨d, k0, ut⟩ := x
  obtain ⟨hT0, hd, hk0⟩ : (kActs (exL 4 k.1) k = kActs (exL d k0.1) k0) ∧ (d ≤ 4) ∧ (kOk k0) := hI
  have hP : va_P (dC, dI) vwCl (xW a0 a1 a2 a3 a4 a5 a6 a7 a8 a9 cI k0 ut tb tn sc hs rn rv wb ee we) _ := hP
  have hD : va_D A (xW a0 a1 a2 a3 a4 a5 a6 a7 a8 a9 cI k0 ut tb tn sc hs rn rv wb ee we) := hD
  have hl : lv_has ls 3 [(1, .int (nI d - nI 1)), (0, .ref a0)] := hl
  refine lv_iload_n (pc := 2) hx hb dX3_exchangeSectors_2 rfl (lv_at hl 0 rfl) ?_
  refine lv_if_lt (pc := 3) (tgt := 53) hx hb dX3_exchangeSectors_3 (by decide) (fun c1 => ?_) (fun c1 => ?_)
  · skip
    have c1 : d = 0 := (nI_neg1 (by omega)).mp c1
    rw [c1] at hT0
    refine lv_iconst (pc := 53) (v := nI 1) hx hb dX3_exchangeSectors_53 (by decide) ?_
    exact W.zret (v := nI 1) hx hb hr rfl (fun t ht hW => ⟨⟨nI 1, (k0, ut), rfl, ⟨by rw [hT0]; rfl, by rw [hT0]; rfl⟩, by show va_P _ _ _ t.heap; rw [ht]; exact hP, va_K.moved hW.alike hK, hD⟩, hS.F ht⟩) hS.2.2 dX3_exchangeSectors_54
  · skip
    have c1 : ¬ d = 0 := fun z => c1 ((nI_neg1 (by omega)).mpr z)
    obtain ⟨d, rfl⟩ : ∃ z, d = z + 1 := ⟨d - 1, by omega⟩
    have hl : lv_has ls 3 [(1, .int (nI d)), (0, .ref a0)] := by rw [← nI_sub1 d]; exact hl
    refine lv_iconst (pc := 6) (v := nI 5) hx hb dX3_exchangeSectors_6 (by decide) ?_
    refine lv_iload_n (pc := 7) hx hb dX3_exchangeSectors_7 rfl (lv_at hl 0 rfl) ?_
    refine lv_iadd (pc := 8) hx hb dX3_exchangeSectors_8 ?_
    refine lv_cv (nI_add 5 d) ?_
    refine lv_istore_n (pc := 9) (lv' := [(2, .int (nI (5 + d))), (1, .int (nI d)), (0, .ref a0)]) hx hb dX3_exchangeSectors_9 rfl hl (by decide) rfl (fun ls hl => ?_)
    refine lv_aload_n (pc := 10) hx hb dX3_exchangeSectors_10 rfl (lv_at hl 2 rfl) ?_
    refine lv_iload_n (pc := 11) hx hb dX3_exchangeSectors_11 rfl (lv_at hl 1 rfl) ?_
    refine lv_iconst (pc := 12) (v := nI 0) hx hb dX3_exchangeSectors_12 (by decide) ?_
    refine lv_bipush (pc := 13) (v := nI 10) hx hb dX3_exchangeSectors_13 (by decide) ?_
    refine lv_iload_n (pc := 15) hx hb dX3_exchangeSectors_15 rfl (lv_at hl 0 rfl) ?_
    refine x_wria (pc := 16) (va_runV (As := [.int (nI d), .int (nI 0), .int (nI 10), .int (nI (5 + d))]) (rest := []) ⟨hx, hb, hml, hown, hts⟩ (kX3_takeStep l dC dI tt cI cB _ a0 a1 a2 a3 a4 a5 a6 a7 a8 a9 k0 ut tb tn sc hs rn rv wb ee we d 0 10 (5 + d) hk0 (by omega) (by omega) (by omega) (by omega) (by omega)) (cwV 4 hts gX3_exchangeSectors_X3_takeStep rfl rfl rfl (by decide +kernel) ⟨Nat.le_of_ble_eq_true rfl, Nat.le_of_ble_eq_true rfl⟩) (x_preVa hS hE hK hP hD (x_all hD hS hA) xR0 3 0 rfl rfl) rfl rfl hl.1 rfl (lv_room (Nat.le_of_ble_eq_true rfl)) dX3_exchangeSectors_16 ⟨Nat.le_of_ble_eq_true rfl, Nat.le_of_ble_eq_true rfl⟩) hS hA hD (fun r_2 u_1 H locs hu_1 hP hD hS => ?_)
    obtain ⟨k_4, t_5⟩ := u_1
    obtain ⟨hr_2, ek_4⟩ : r_2 = bI (kActs (stepL k0.1 d 0 10 (5 + d)) k0).2 ∧ k_4 = (kActs (stepL k0.1 d 0 10 (5 + d)) k0).1 := hu_1
    obtain ⟨b_3, eb_3⟩ : ∃ z, z = (kActs (stepL k0.1 d 0 10 (5 + d)) k0).2 := ⟨_, rfl⟩
    rw [← eb_3] at hr_2
    subst hr_2
    have hP : va_P (dC, dI) vwCl (xW a0 a1 a2 a3 a4 a5 a6 a7 a8 a9 cI k_4 t_5 tb tn sc hs rn rv wb ee we) _ := hP
    have hD : va_D A (xW a0 a1 a2 a3 a4 a5 a6 a7 a8 a9 cI k_4 t_5 tb tn sc hs rn rv wb ee we) := hD
    refine lv_if_eq (pc := 19) (tgt := 45) hx hb dX3_exchangeSectors_19 (by decide) (fun c2 => ?_) (fun c2 => ?_)
    · skip
      have c2 : b_3 = false := bI_0.mp c2
      have f1 : (kActs (stepL k0.1 d 0 10 (5 + d)) k0).2 = false := eb_3.symm.trans c2
      refine lv_iconst (pc := 45) (v := nI 0) hx hb dX3_exchangeSectors_45 (by decide) ?_
      have hth : kActs (threeL d k0.1) k0 = kActs (stepL k0.1 d 0 10 (5 + d)) k0 := by rw [threeL, app_f f1]
      have hth2 : (kActs (threeL d k0.1) k0).2 = false := by rw [hth]; exact f1
      exact W.zret (v := nI 0) hx hb hr rfl (fun t ht hW => ⟨⟨nI 0, (k_4, t_5), rfl, ⟨by rw [hT0, exL_s, app_f hth2, hth2]; rfl, by rw [hT0, exL_s, app_f hth2, hth]; exact ek_4⟩, by show va_P _ _ _ t.heap; rw [ht]; exact hP, va_K.moved hW.alike hK, hD⟩, hS.F ht⟩) hS.2.2 dX3_exchangeSectors_46
    · skip
      have c2 : b_3 = true := bI_1.mp c2
      have f1 : (kActs (stepL k0.1 d 0 10 (5 + d)) k0).2 = true := eb_3.symm.trans c2
      have hk1 : kOk k_4 := by rw [ek_4]; exact kActs_ok hk0 f1
      have hF1 : k_4.1 = appL ((stepL k0.1 d 0 10 (5 + d))) k0.1 := by rw [ek_4]; exact kActs_F f1
      refine lv_aload_n (pc := 22) hx hb dX3_exchangeSectors_22 rfl (lv_at hl 2 rfl) ?_
      refine lv_iload_n (pc := 23) hx hb dX3_exchangeSectors_23 rfl (lv_at hl 1 rfl) ?_
      refine lv_iconst (pc := 24) (v := nI 1) hx hb dX3_exchangeSectors_24 (by decide) ?_
      refine lv_iload_n (pc := 25) hx hb dX3_exchangeSectors_25 rfl (lv_at hl 0 rfl) ?_
      refine lv_iload_n (pc := 26) hx hb dX3_exchangeSectors_26 rfl (lv_at hl 1 rfl) ?_
      refine x_wria (pc := 27) (va_runV (As := [.int (nI d), .int (nI 1), .int (nI (5 + d)), .int (nI d)]) (rest := []) ⟨hx, hb, hml, hown, hts⟩ (kX3_takeStep l dC dI tt cI cB _ a0 a1 a2 a3 a4 a5 a6 a7 a8 a9 k_4 t_5 tb tn sc hs rn rv wb ee we d 1 (5 + d) d hk1 (by omega) (by omega) (by omega) (by omega) (by omega)) (cwV 4 hts gX3_exchangeSectors_X3_takeStep rfl rfl rfl (by decide +kernel) ⟨Nat.le_of_ble_eq_true rfl, Nat.le_of_ble_eq_true rfl⟩) (x_preVa hS hE hK hP hD (x_all hD hS hA) xR0 3 0 rfl rfl) rfl rfl hl.1 rfl (lv_room (Nat.le_of_ble_eq_true rfl)) dX3_exchangeSectors_27 ⟨Nat.le_of_ble_eq_true rfl, Nat.le_of_ble_eq_true rfl⟩) hS hA hD (fun r_7 u_6 H locs hu_6 hP hD hS => ?_)
      obtain ⟨k_9, t_10⟩ := u_6
      obtain ⟨hr_7, ek_9⟩ : r_7 = bI (kActs (stepL k_4.1 d 1 (5 + d) d) k_4).2 ∧ k_9 = (kActs (stepL k_4.1 d 1 (5 + d) d) k_4).1 := hu_6
      obtain ⟨b_8, eb_8⟩ : ∃ z, z = (kActs (stepL k_4.1 d 1 (5 + d) d) k_4).2 := ⟨_, rfl⟩
      rw [← eb_8] at hr_7
      subst hr_7
      have hP : va_P (dC, dI) vwCl (xW a0 a1 a2 a3 a4 a5 a6 a7 a8 a9 cI k_9 t_10 tb tn sc hs rn rv wb ee we) _ := hP
      have hD : va_D A (xW a0 a1 a2 a3 a4 a5 a6 a7 a8 a9 cI k_9 t_10 tb tn sc hs rn rv wb ee we) := hD
      refine lv_if_eq (pc := 30) (tgt := 45) hx hb dX3_exchangeSectors_30 (by decide) (fun c3 => ?_) (fun c3 => ?_)
      · skip
        have c3 : b_8 = false := bI_0.mp c3
        have f2 : (kActs (stepL k_4.1 d 1 (5 + d) d) k_4).2 = false := eb_8.symm.trans c3
        refine lv_iconst (pc := 45) (v := nI 0) hx hb dX3_exchangeSectors_45 (by decide) ?_
        have hth : kActs (threeL d k0.1) k0 = kActs (stepL k_4.1 d 1 (5 + d) d) k_4 := by rw [threeL, app_t f1, ← ek_4, ← hF1, app_f f2]
        have hth2 : (kActs (threeL d k0.1) k0).2 = false := by rw [hth]; exact f2
        exact W.zret (v := nI 0) hx hb hr rfl (fun t ht hW => ⟨⟨nI 0, (k_9, t_10), rfl, ⟨by rw [hT0, exL_s, app_f hth2, hth2]; rfl, by rw [hT0, exL_s, app_f hth2, hth]; exact ek_9⟩, by show va_P _ _ _ t.heap; rw [ht]; exact hP, va_K.moved hW.alike hK, hD⟩, hS.F ht⟩) hS.2.2 dX3_exchangeSectors_46
      · skip
        have c3 : b_8 = true := bI_1.mp c3
        have f2 : (kActs (stepL k_4.1 d 1 (5 + d) d) k_4).2 = true := eb_8.symm.trans c3
        have hk2 : kOk k_9 := by rw [ek_9]; exact kActs_ok hk1 f2
        have hF2 : k_9.1 = appL ((stepL k_4.1 d 1 (5 + d) d)) k_4.1 := by rw [ek_9]; exact kActs_F f2
        refine lv_aload_n (pc := 33) hx hb dX3_exchangeSectors_33 rfl (lv_at hl 2 rfl) ?_
        refine lv_iload_n (pc := 34) hx hb dX3_exchangeSectors_34 rfl (lv_at hl 1 rfl) ?_
        refine lv_iconst (pc := 35) (v := nI 2) hx hb dX3_exchangeSectors_35 (by decide) ?_
        refine lv_iload_n (pc := 36) hx hb dX3_exchangeSectors_36 rfl (lv_at hl 1 rfl) ?_
        refine lv_bipush (pc := 37) (v := nI 10) hx hb dX3_exchangeSectors_37 (by decide) ?_
        refine x_wria (pc := 39) (va_runV (As := [.int (nI d), .int (nI 2), .int (nI d), .int (nI 10)]) (rest := []) ⟨hx, hb, hml, hown, hts⟩ (kX3_takeStep l dC dI tt cI cB _ a0 a1 a2 a3 a4 a5 a6 a7 a8 a9 k_9 t_10 tb tn sc hs rn rv wb ee we d 2 d 10 hk2 (by omega) (by omega) (by omega) (by omega) (by omega)) (cwV 4 hts gX3_exchangeSectors_X3_takeStep rfl rfl rfl (by decide +kernel) ⟨Nat.le_of_ble_eq_true rfl, Nat.le_of_ble_eq_true rfl⟩) (x_preVa hS hE hK hP hD (x_all hD hS hA) xR0 3 0 rfl rfl) rfl rfl hl.1 rfl (lv_room (Nat.le_of_ble_eq_true rfl)) dX3_exchangeSectors_39 ⟨Nat.le_of_ble_eq_true rfl, Nat.le_of_ble_eq_true rfl⟩) hS hA hD (fun r_12 u_11 H locs hu_11 hP hD hS => ?_)
        obtain ⟨k_14, t_15⟩ := u_11
        obtain ⟨hr_12, ek_14⟩ : r_12 = bI (kActs (stepL k_9.1 d 2 d 10) k_9).2 ∧ k_14 = (kActs (stepL k_9.1 d 2 d 10) k_9).1 := hu_11
        obtain ⟨b_13, eb_13⟩ : ∃ z, z = (kActs (stepL k_9.1 d 2 d 10) k_9).2 := ⟨_, rfl⟩
        rw [← eb_13] at hr_12
        subst hr_12
        have hP : va_P (dC, dI) vwCl (xW a0 a1 a2 a3 a4 a5 a6 a7 a8 a9 cI k_14 t_15 tb tn sc hs rn rv wb ee we) _ := hP
        have hD : va_D A (xW a0 a1 a2 a3 a4 a5 a6 a7 a8 a9 cI k_14 t_15 tb tn sc hs rn rv wb ee we) := hD
        refine lv_if_ne (pc := 42) (tgt := 47) hx hb dX3_exchangeSectors_42 (by decide) (fun c4 => ?_) (fun c4 => ?_)
        · skip
          have c4 : b_13 = true := bI_1.mp c4
          have f3 : (kActs (stepL k_9.1 d 2 d 10) k_9).2 = true := eb_13.symm.trans c4
          have hk3 : kOk k_14 := by rw [ek_14]; exact kActs_ok hk2 f3
          have hF3 : k_14.1 = appL ((stepL k_9.1 d 2 d 10)) k_9.1 := by rw [ek_14]; exact kActs_F f3
          refine lv_iinc (pc := 47) (v := nI d - nI 1) (lv' := [(1, .int (nI d - nI 1)), (2, .int (nI (5 + d))), (0, .ref a0)]) hx hb dX3_exchangeSectors_47 hl (k := 1) rfl (nI_decI d) (by decide) rfl (fun ls hl => ?_)
          refine lv_goto (pc := 50) (tgt := 2) hx hb dX3_exchangeSectors_50 (by decide) ?_
          have hth : kActs (threeL d k0.1) k0 = kActs (stepL k_9.1 d 2 d 10) k_9 := by rw [threeL, app_t f1, ← ek_4, ← hF1, app_t f2, ← ek_9, ← hF2]
          have hth2 : (kActs (threeL d k0.1) k0).2 = true := by rw [hth]; exact f3
          have hth1 : (kActs (threeL d k0.1) k0).1 = k_14 := by rw [hth, ek_14]
          have hthF : appL (threeL d k0.1) k0.1 = k_14.1 := by rw [← hth1]; exact (kActs_F hth2).symm
          exact ih2 (d, k_14, t_15) H locs ls ⟨by rw [hT0, exL_s, app_t hth2, hth1, hthF], by omega, hk3⟩ (by first | omega | (simp only []; omega)) hP hD hS (lv_sub hl [0, 2] rfl)
        · skip
          have c4 : b_13 = false := bI_0.mp c4
          have f3 : (kActs (stepL k_9.1 d 2 d 10) k_9).2 = false := eb_13.symm.trans c4
          refine lv_iconst (pc := 45) (v := nI 0) hx hb dX3_exchangeSectors_45 (by decide) ?_
          have hth : kActs (threeL d k0.1) k0 = kActs (stepL k_9.1 d 2 d 10) k_9 := by rw [threeL, app_t f1, ← ek_4, ← hF1, app_t f2, ← ek_9, ← hF2]
          have hth2 : (kActs (threeL d k0.1) k0).2 = false := by rw [hth]; exact f3
          exact W.zret (v := nI 0) hx hb hr rfl (fun t ht hW => ⟨⟨nI 0, (k_14, t_15), rfl, ⟨by rw [hT0, exL_s, app_f hth2, hth2]; rfl, by rw [hT0, exL_s, app_f hth2, hth]; exact ek_14⟩, by show va_P _ _ _ t.heap; rw [ht]; exact hP, va_K.moved hW.alike hK, hD⟩, hS.F ht⟩) hS.2.2 dX3_exchangeSectors_46
set_option maxHeartbeats 4000000 in
set_option maxRecDepth 100000 in
theorem kX3_endExchange (l : Launch) (dC : Nat → ClassId) (dI : Nat → Nat → Nat) (tt : Nat → Nat) (cI cB : ClassId) (sz : Nat) (a0 a1 a2 a3 a4 a5 a6 a7 a8 a9 : Nat) (k : K0) (ut : Nat → Int32) (tb : Nat → Int8) (tn : Nat) (sc hs : Nat → Int32) (rn : Bool) (rv wb ee we : Int32) (hk : kOk k) : MetI (S := (K0 × (Nat → Int32) × Int32)) l yX3_endExchange wsX3_endExchange { frames := 4, cells := 0, slots := 0, locals := 97 } (dC, dI) [(cI, .int), (cB, .byte)] tt [] sz (xW a0 a1 a2 a3 a4 a5 a6 a7 a8 a9 cI k ut tb tn sc hs rn rv wb ee we) [.ref a0] (fun u : (K0 × (Nat → Int32) × Int32) => xW a0 a1 a2 a3 a4 a5 a6 a7 a8 a9 cI u.1 u.2.1 tb tn sc hs rn rv wb u.2.2 we) (fun r u => r = bI (kActs (endL k.1) k).2 ∧ u.1 = (kActs (endL k.1) k).1 ∧ u.2.2 = if (kActs (endL k.1) k).2 = true then ee + nI 1 else ee) := by
  refine Met.ofW (cc := cX3_endExchange) (maxL := 2) (ret := (some .boolean)) (by decide) rfl ?_
  intro p e s m args below meth c s₁ B hml hv
  obtain ⟨rfl, hsz, hP, hK, hD0, hE⟩ := hv
  have hx := B.exec
  have hb := B.bytes
  have hr := B.returns
  have hts := atoms_spec (ws := wsX3_endExchange) B.pre
  have hown : s.vm.findClass RX3 = some m.cls := findClass_of_methodNamed B.named
  have hlocks := B.notSynchronized
  subst hsz
  have hD := hD0.self (sz := s.heap.size)
  generalize hAe : va_A (xW a0 a1 a2 a3 a4 a5 a6 a7 a8 a9 cI k ut tb tn sc hs rn rv wb ee we) s.heap.size = A at hD hE ⊢
  have hA : ∀ q : Nat, s.heap.size ≤ q → A q := fun q h => by rw [← hAe]; exact Or.inr h
  have hS : va_S A s.heap s.heap [] := va_S.rf
  have hl := lv_entry ([.ref a0]) (n := 2) (Nat.le_of_ble_eq_true rfl)
  rw [lg_entry_eq]
  generalize (lg_sl ([.ref a0]) ++ List.replicate (2 - (lg_sl ([.ref a0])).length) Slot.unset).toArray = ls at hl ⊢
  have hl : lv_has ls 2 [(0, .ref a0)] := hl
  have hP : va_P (dC, dI) vwCl (xW a0 a1 a2 a3 a4 a5 a6 a7 a8 a9 cI k ut tb tn sc hs rn rv wb ee we) s.heap := hP
  refine lv_aload_n (pc := 0) hx hb dX3_endExchange_0 rfl (lv_at hl 0 rfl) ?_
  refine va_get (pc := 1) (D := (dC, dI)) (ci := 3) (v := .ref a1) (C := RX3) (T := TX3) (N := 8) hx hb hts (by decide +kernel) hown hK hP 0 rfl rfl 0 (by decide) (hts (.fieldLink RX3 12 "ScratchSwap" "memory" "LScratchSwap$Memory;") (by decide +kernel)) (fun _ h9 => h9) rfl dX3_endExchange_1 ?_
  refine lv_bipush (pc := 4) (v := nI 9) hx hb dX3_endExchange_4 (by decide) ?_
  refine x_wri (pc := 6) (va_runVN (As := [.int (nI 9)]) (rest := []) ⟨hx, hb, hml, hown, hts⟩ (kX0_eraseS l dC dI tt cI cB _ a1 a2 a3 a4 k ut 9 (by omega) hk) (⟨va_cnB 1 hts gX3_endExchange_X0_eraseSector_n192 rfl rfl rfl (hE.m 8 (q := (RX3, 192, yX0_eraseSector, "ScratchSwap")) rfl) (hts (.initialized RX0) (by decide +kernel)) (by decide +kernel) ⟨Nat.le_of_ble_eq_true rfl, Nat.le_of_ble_eq_true rfl⟩, hts (.instanceMethod yX0_eraseSector) (by decide +kernel), hts (.selects RX0 yX0_eraseSector yX0_eraseSector) (by decide +kernel)⟩) (x_preV hS hE hK hP hD [1, 2, 3, 4] rfl (by decide) (va_free hD hS hA [1, 2, 3, 4] rfl) xR0 0 1 rfl rfl) rfl rfl hl.1 rfl (lv_room (Nat.le_of_ble_eq_true rfl)) dX3_endExchange_6 ⟨Nat.le_of_ble_eq_true rfl, Nat.le_of_ble_eq_true rfl⟩) hS hA hP hD [1, 2, 3, 4] [0, 5, 6, 7, 8, 9] rfl rfl (by decide) (by decide) (fun r_2 u_1 H locs hu_1 hP hD hS => ?_)
  obtain ⟨hr_2, eu_1⟩ : r_2 = bI (kActs [.inl 9] k).2 ∧ u_1 = (kActs [.inl 9] k).1 := hu_1
  obtain ⟨b_3, eb_3⟩ : ∃ z, z = (kActs [.inl 9] k).2 := ⟨_, rfl⟩
  rw [← eb_3] at hr_2
  subst hr_2
  have hP := hP.sub (ws' := xW a0 a1 a2 a3 a4 a5 a6 a7 a8 a9 cI u_1 ut tb tn sc hs rn rv wb ee we) [0, 6, 7, 8, 9, 1, 2, 3, 4, 5] rfl
  have hD := hD.sub (ws' := xW a0 a1 a2 a3 a4 a5 a6 a7 a8 a9 cI u_1 ut tb tn sc hs rn rv wb ee we) [0, 6, 7, 8, 9, 1, 2, 3, 4, 5] (by decide) rfl
  refine lv_if_ne (pc := 9) (tgt := 14) hx hb dX3_endExchange_9 (by decide) (fun c1 => ?_) (fun c1 => ?_)
  · skip
    have c1 : b_3 = true := bI_1.mp c1
    have f1 : (kActs [.inl 9] k).2 = true := eb_3.symm.trans c1
    have hk1 : kOk u_1 := by rw [eu_1]; exact kActs_ok hk f1
    have hF1 : u_1.1 = appL ([.inl 9]) k.1 := by rw [eu_1]; exact kActs_F f1
    refine lv_aload_n (pc := 14) hx hb dX3_endExchange_14 rfl (lv_at hl 0 rfl) ?_
    refine va_get (pc := 15) (D := (dC, dI)) (ci := 3) (v := .ref a1) (C := RX3) (T := TX3) (N := 8) hx hb hts (by decide +kernel) hown hK hP 0 rfl rfl 0 (by decide) (hts (.fieldLink RX3 12 "ScratchSwap" "memory" "LScratchSwap$Memory;") (by decide +kernel)) (fun _ h9 => h9) rfl dX3_endExchange_15 ?_
    refine lv_iconst (pc := 18) (v := nI 4) hx hb dX3_endExchange_18 (by decide) ?_
    refine lv_iconst (pc := 19) (v := nI 1) hx hb dX3_endExchange_19 (by decide) ?_
    refine x_roi (pc := 20) (va_runVN (As := [.int (nI 4), .int (nI 1)]) (rest := []) ⟨hx, hb, hml, hown, hts⟩ (kX0_markIn l dC dI tt cI cB _ a1 a2 a3 a4 u_1 ut 4 1 (by omega)) (⟨va_cnB 2 hts gX3_endExchange_X0_markIn_n144 rfl rfl rfl (hE.m 7 (q := (RX3, 144, yX0_markIn, "ScratchSwap")) rfl) (hts (.initialized RX0) (by decide +kernel)) (by decide +kernel) ⟨Nat.le_of_ble_eq_true rfl, Nat.le_of_ble_eq_true rfl⟩, hts (.instanceMethod yX0_markIn) (by decide +kernel), hts (.selects RX0 yX0_markIn yX0_markIn) (by decide +kernel)⟩) (x_preV hS hE hK hP hD [1, 2, 3, 4] rfl (by decide) (x_ro hS hA) xR0 0 1 rfl rfl) rfl rfl hl.1 rfl (lv_room (Nat.le_of_ble_eq_true rfl)) dX3_endExchange_20 ⟨Nat.le_of_ble_eq_true rfl, Nat.le_of_ble_eq_true rfl⟩) hS hA hP (fun r_4 H locs hr_4 hP hS => ?_)
    subst hr_4
    have hs_5 := setN_le u_1.1 (4 * 256 + 1 * 8)
    refine lv_iconst (pc := 23) (v := nI 1) hx hb dX3_endExchange_23 (by decide) ?_
    refine lv_icmp_ne (pc := 24) (tgt := 31) hx hb dX3_endExchange_24 (by decide) (fun c2 => ?_) (fun c2 => ?_)
    · skip
      have c2 : ¬ (setN u_1.1 (4 * 256 + 1 * 8)) = 1 := fun z => c2 ((nI_eq (a := (setN u_1.1 (4 * 256 + 1 * 8))) (b := 1) (by omega) (by omega)).mpr z)
      refine lv_iconst (pc := 31) (v := nI 0) hx hb dX3_endExchange_31 (by decide) ?_
      refine lv_istore_n (pc := 32) (lv' := [(1, .int (nI 0)), (0, .ref a0)]) hx hb dX3_endExchange_32 rfl hl (by decide) rfl (fun ls hl => ?_)
      refine lv_iload_n (pc := 33) hx hb dX3_endExchange_33 rfl (lv_at hl 0 rfl) ?_
      refine lv_if_ne (pc := 34) (tgt := 61) hx hb dX3_endExchange_34 (by decide) (fun c_6 => ?_) (fun c_6 => ?_)
      · skip
        have c_6 : ¬ 0 = 0 := fun z => c_6 ((nI_eq (a := 0) (b := 0) (by omega) (by omega)).mpr z)
        exfalso; omega
      · skip
        have c_6 : 0 = 0 := (nI_eq (a := 0) (b := 0) (by omega) (by omega)).mp c_6
        refine lv_aload_n (pc := 37) hx hb dX3_endExchange_37 rfl (lv_at hl 1 rfl) ?_
        refine lv_iconst (pc := 38) (v := nI 4) hx hb dX3_endExchange_38 (by decide) ?_
        refine lv_iconst (pc := 39) (v := nI 3) hx hb dX3_endExchange_39 (by decide) ?_
        refine x_roi (pc := 40) (va_runV (As := [.int (nI 4), .int (nI 3)]) (rest := []) ⟨hx, hb, hml, hown, hts⟩ (kX3_isMarked l dC dI tt cI cB _ a0 a1 a2 a3 a4 a5 a6 a7 a8 a9 u_1 ut tb tn sc hs rn rv wb ee we 4 3 (by omega)) (cwV 2 hts gX3_endExchange_X3_isMarked rfl rfl rfl (by decide +kernel) ⟨Nat.le_of_ble_eq_true rfl, Nat.le_of_ble_eq_true rfl⟩) (x_preVa hS hE hK hP hD (x_ro hS hA) xR0 3 0 rfl rfl) rfl rfl hl.1 rfl (lv_room (Nat.le_of_ble_eq_true rfl)) dX3_endExchange_40 ⟨Nat.le_of_ble_eq_true rfl, Nat.le_of_ble_eq_true rfl⟩) hS hA hP (fun r_7 H locs hr_7 hP hS => ?_)
        subst hr_7
        refine lv_if_ne (pc := 43) (tgt := 61) hx hb dX3_endExchange_43 (by decide) (fun c3 => ?_) (fun c3 => ?_)
        · skip
          have c3 : mkB u_1.1 (4 * 256 + 3 * 8) = true := bI_1.mp c3
          refine lv_aload_n (pc := 61) hx hb dX3_endExchange_61 rfl (lv_at hl 1 rfl) ?_
          refine lv_iconst (pc := 62) (v := nI 4) hx hb dX3_endExchange_62 (by decide) ?_
          refine x_wria (pc := 63) (va_runV (As := [.int (nI 4)]) (rest := []) ⟨hx, hb, hml, hown, hts⟩ (kX3_writeMagic l dC dI tt cI cB _ a0 a1 a2 a3 a4 a5 a6 a7 a8 a9 u_1 ut tb tn sc hs rn rv wb ee we 4 hk1 (by omega)) (cwV 1 hts gX3_endExchange_X3_writeMagic rfl rfl rfl (by decide +kernel) ⟨Nat.le_of_ble_eq_true rfl, Nat.le_of_ble_eq_true rfl⟩) (x_preVa hS hE hK hP hD (x_all hD hS hA) xR0 3 0 rfl rfl) rfl rfl hl.1 rfl (lv_room (Nat.le_of_ble_eq_true rfl)) dX3_endExchange_63 ⟨Nat.le_of_ble_eq_true rfl, Nat.le_of_ble_eq_true rfl⟩) hS hA hD (fun r_9 u_8 H locs hu_8 hP hD hS => ?_)
          obtain ⟨k_11, t_12⟩ := u_8
          obtain ⟨hr_9, ek_11⟩ : r_9 = bI (kActs (magL (4 * 256 + 0 * 8)) u_1).2 ∧ k_11 = (kActs (magL (4 * 256 + 0 * 8)) u_1).1 := hu_8
          obtain ⟨b_10, eb_10⟩ : ∃ z, z = (kActs (magL (4 * 256 + 0 * 8)) u_1).2 := ⟨_, rfl⟩
          rw [← eb_10] at hr_9
          subst hr_9
          have hP : va_P (dC, dI) vwCl (xW a0 a1 a2 a3 a4 a5 a6 a7 a8 a9 cI k_11 t_12 tb tn sc hs rn rv wb ee we) _ := hP
          have hD : va_D A (xW a0 a1 a2 a3 a4 a5 a6 a7 a8 a9 cI k_11 t_12 tb tn sc hs rn rv wb ee we) := hD
          refine lv_if_eq (pc := 66) (tgt := 82) hx hb dX3_endExchange_66 (by decide) (fun c5 => ?_) (fun c5 => ?_)
          · skip
            have c5 : b_10 = false := bI_0.mp c5
            have f3 : (kActs (magL (4 * 256 + 0 * 8)) u_1).2 = false := eb_10.symm.trans c5
            refine lv_iconst (pc := 82) (v := nI 0) hx hb dX3_endExchange_82 (by decide) ?_
            have hth : kActs (endL k.1) k = kActs (magL (4 * 256 + 0 * 8)) u_1 := by rw [endL, app_t f1, ← eu_1, ← hF1, okL, if_pos (by first | exact Or.inl c2 | exact Or.inr c3), List.nil_append, app_f f3]
            exact W.zret (v := nI 0) hx hb hr rfl (fun t ht hW => ⟨⟨nI 0, (k_11, t_12, ee), rfl, ⟨by rw [hth, f3]; rfl, by rw [hth]; exact ek_11, by rw [hth, if_neg (by rw [f3]; decide)]⟩, by show va_P _ _ _ t.heap; rw [ht]; exact hP, va_K.moved hW.alike hK, hD⟩, hS.F ht⟩) hS.2.2 dX3_endExchange_83
          · skip
            have c5 : b_10 = true := bI_1.mp c5
            have f3 : (kActs (magL (4 * 256 + 0 * 8)) u_1).2 = true := eb_10.symm.trans c5
            have hk3 : kOk k_11 := by rw [ek_11]; exact kActs_ok hk1 f3
            have hF3 : k_11.1 = appL ((magL (4 * 256 + 0 * 8))) u_1.1 := by rw [ek_11]; exact kActs_F f3
            refine lv_aload_n (pc := 69) hx hb dX3_endExchange_69 rfl (lv_at hl 1 rfl) ?_
            refine va_get (pc := 70) (D := (dC, dI)) (ci := 3) (v := .ref a1) (C := RX3) (T := TX3) (N := 8) hx hb hts (by decide +kernel) hown hK hP 0 rfl rfl 0 (by decide) (hts (.fieldLink RX3 12 "ScratchSwap" "memory" "LScratchSwap$Memory;") (by decide +kernel)) (fun _ h9 => h9) rfl dX3_endExchange_70 ?_
            refine lv_iconst (pc := 73) (v := nI 4) hx hb dX3_endExchange_73 (by decide) ?_
            refine lv_iconst (pc := 74) (v := nI 2) hx hb dX3_endExchange_74 (by decide) ?_
            refine lv_iconst (pc := 75) (v := nI 1) hx hb dX3_endExchange_75 (by decide) ?_
            refine x_wri (pc := 76) (va_runVN (As := [.int (nI 4), .int (nI 2), .int (nI 1)]) (rest := []) ⟨hx, hb, hml, hown, hts⟩ (kX0_markUnit l dC dI tt cI cB _ a1 a2 a3 a4 k_11 t_12 4 2 (nI 1) hk3 (by omega)) (⟨va_cnB 3 hts gX3_endExchange_X0_markUnit_n91 rfl rfl rfl (hE.m 10 (q := (RX3, 91, yX0_markUnit, "ScratchSwap")) rfl) (hts (.initialized RX0) (by decide +kernel)) (by decide +kernel) ⟨Nat.le_of_ble_eq_true rfl, Nat.le_of_ble_eq_true rfl⟩, hts (.instanceMethod yX0_markUnit) (by decide +kernel), hts (.selects RX0 yX0_markUnit yX0_markUnit) (by decide +kernel)⟩) (x_preV hS hE hK hP hD [1, 2, 3, 4] rfl (by decide) (va_free hD hS hA [1, 2, 3, 4] rfl) xR0 0 1 rfl rfl) rfl rfl hl.1 rfl (lv_room (Nat.le_of_ble_eq_true rfl)) dX3_endExchange_76 ⟨Nat.le_of_ble_eq_true rfl, Nat.le_of_ble_eq_true rfl⟩) hS hA hP hD [1, 2, 3, 4] [0, 5, 6, 7, 8, 9] rfl rfl (by decide) (by decide) (fun r_14 u_13 H locs hu_13 hP hD hS => ?_)
            obtain ⟨hr_14, eu_13⟩ : r_14 = bI (kActs (markL (4 * 256 + 2 * 8) (nI 1)) k_11).2 ∧ u_13 = (kActs (markL (4 * 256 + 2 * 8) (nI 1)) k_11).1 := hu_13
            obtain ⟨b_15, eb_15⟩ : ∃ z, z = (kActs (markL (4 * 256 + 2 * 8) (nI 1)) k_11).2 := ⟨_, rfl⟩
            rw [← eb_15] at hr_14
            subst hr_14
            have hP := hP.sub (ws' := xW a0 a1 a2 a3 a4 a5 a6 a7 a8 a9 cI u_13 t_12 tb tn sc hs rn rv wb ee we) [0, 6, 7, 8, 9, 1, 2, 3, 4, 5] rfl
            have hD := hD.sub (ws' := xW a0 a1 a2 a3 a4 a5 a6 a7 a8 a9 cI u_13 t_12 tb tn sc hs rn rv wb ee we) [0, 6, 7, 8, 9, 1, 2, 3, 4, 5] (by decide) rfl
            refine lv_if_ne (pc := 79) (tgt := 84) hx hb dX3_endExchange_79 (by decide) (fun c6 => ?_) (fun c6 => ?_)
            · skip
              have c6 : b_15 = true := bI_1.mp c6
              have f4 : (kActs (markL (4 * 256 + 2 * 8) (nI 1)) k_11).2 = true := eb_15.symm.trans c6
              have hk4 : kOk u_13 := by rw [eu_13]; exact kActs_ok hk3 f4
              have hF4 : u_13.1 = appL ((markL (4 * 256 + 2 * 8) (nI 1))) k_11.1 := by rw [eu_13]; exact kActs_F f4
              refine lv_aload_n (pc := 84) hx hb dX3_endExchange_84 rfl (lv_at hl 1 rfl) ?_
              refine lv_dup (pc := 85) hx hb dX3_endExchange_85 rfl ?_
              refine va_get (pc := 86) (D := (dC, dI)) (ci := 3) (v := .int ee) (C := RX3) (T := TX3) (N := 8) hx hb hts (by decide +kernel) hown hK hP 0 rfl rfl 6 (by decide) (hts (.fieldLink RX3 41 "ScratchSwap" "exchangesEnded" "I") (by decide +kernel)) (fun _ h9 => h9) rfl dX3_endExchange_86 ?_
              refine lv_iconst (pc := 89) (v := nI 1) hx hb dX3_endExchange_89 (by decide) ?_
              refine lv_iadd (pc := 90) hx hb dX3_endExchange_90 ?_
              refine va_put (pc := 91) (D := (dC, dI)) (ci := 3) (v := .int (ee + (nI 1))) (ty := .int) (C := RX3) (T := TX3) (N := 8) hx hb hts (by decide +kernel) tyX3 tyX3_ok nmX3 hown hK hP hD hS 0 rfl rfl 6 (by decide) (hts (.fieldLink RX3 41 "ScratchSwap" "exchangesEnded" "I") (by decide +kernel)) (fun _ h9 => h9) rfl (by decide +kernel) rfl rfl (Nat.le_of_ble_eq_true rfl) dX3_endExchange_91 (fun H locs hP hD hS => ?_)
              have hP : va_P (dC, dI) vwCl (xW a0 a1 a2 a3 a4 a5 a6 a7 a8 a9 cI u_13 t_12 tb tn sc hs rn rv wb (ee + (nI 1)) we) _ := hP
              have hD : va_D A (xW a0 a1 a2 a3 a4 a5 a6 a7 a8 a9 cI u_13 t_12 tb tn sc hs rn rv wb (ee + (nI 1)) we) := hD
              refine lv_iconst (pc := 94) (v := nI 1) hx hb dX3_endExchange_94 (by decide) ?_
              have hth : kActs (endL k.1) k = kActs (markL (4 * 256 + 2 * 8) (nI 1)) k_11 := by rw [endL, app_t f1, ← eu_1, ← hF1, okL, if_pos (by first | exact Or.inl c2 | exact Or.inr c3), List.nil_append, app_t f3, ← ek_11]
              exact W.zret (v := nI 1) hx hb hr rfl (fun t ht hW => ⟨⟨nI 1, (u_13, t_12, ee + (nI 1)), rfl, ⟨by rw [hth, f4]; rfl, by rw [hth]; exact eu_13, by rw [hth, if_pos (by rw [f4])]⟩, by show va_P _ _ _ t.heap; rw [ht]; exact hP, va_K.moved hW.alike hK, hD⟩, hS.F ht⟩) hS.2.2 dX3_endExchange_95
            · skip
              have c6 : b_15 = false := bI_0.mp c6
              have f4 : (kActs (markL (4 * 256 + 2 * 8) (nI 1)) k_11).2 = false := eb_15.symm.trans c6
              refine lv_iconst (pc := 82) (v := nI 0) hx hb dX3_endExchange_82 (by decide) ?_
              have hth : kActs (endL k.1) k = kActs (markL (4 * 256 + 2 * 8) (nI 1)) k_11 := by rw [endL, app_t f1, ← eu_1, ← hF1, okL, if_pos (by first | exact Or.inl c2 | exact Or.inr c3), List.nil_append, app_t f3, ← ek_11]
              exact W.zret (v := nI 0) hx hb hr rfl (fun t ht hW => ⟨⟨nI 0, (u_13, t_12, ee), rfl, ⟨by rw [hth, f4]; rfl, by rw [hth]; exact eu_13, by rw [hth, if_neg (by rw [f4]; decide)]⟩, by show va_P _ _ _ t.heap; rw [ht]; exact hP, va_K.moved hW.alike hK, hD⟩, hS.F ht⟩) hS.2.2 dX3_endExchange_83
        · skip
          have c3 : mkB u_1.1 (4 * 256 + 3 * 8) = false := bI_0.mp c3
          refine lv_aload_n (pc := 46) hx hb dX3_endExchange_46 rfl (lv_at hl 1 rfl) ?_
          refine va_get (pc := 47) (D := (dC, dI)) (ci := 3) (v := .ref a1) (C := RX3) (T := TX3) (N := 8) hx hb hts (by decide +kernel) hown hK hP 0 rfl rfl 0 (by decide) (hts (.fieldLink RX3 12 "ScratchSwap" "memory" "LScratchSwap$Memory;") (by decide +kernel)) (fun _ h9 => h9) rfl dX3_endExchange_47 ?_
          refine lv_iconst (pc := 50) (v := nI 4) hx hb dX3_endExchange_50 (by decide) ?_
          refine lv_iconst (pc := 51) (v := nI 3) hx hb dX3_endExchange_51 (by decide) ?_
          refine lv_iconst (pc := 52) (v := nI 1) hx hb dX3_endExchange_52 (by decide) ?_
          refine x_wri (pc := 53) (va_runVN (As := [.int (nI 4), .int (nI 3), .int (nI 1)]) (rest := []) ⟨hx, hb, hml, hown, hts⟩ (kX0_markUnit l dC dI tt cI cB _ a1 a2 a3 a4 u_1 ut 4 3 (nI 1) hk1 (by omega)) (⟨va_cnB 3 hts gX3_endExchange_X0_markUnit_n91 rfl rfl rfl (hE.m 10 (q := (RX3, 91, yX0_markUnit, "ScratchSwap")) rfl) (hts (.initialized RX0) (by decide +kernel)) (by decide +kernel) ⟨Nat.le_of_ble_eq_true rfl, Nat.le_of_ble_eq_true rfl⟩, hts (.instanceMethod yX0_markUnit) (by decide +kernel), hts (.selects RX0 yX0_markUnit yX0_markUnit) (by decide +kernel)⟩) (x_preV hS hE hK hP hD [1, 2, 3, 4] rfl (by decide) (va_free hD hS hA [1, 2, 3, 4] rfl) xR0 0 1 rfl rfl) rfl rfl hl.1 rfl (lv_room (Nat.le_of_ble_eq_true rfl)) dX3_endExchange_53 ⟨Nat.le_of_ble_eq_true rfl, Nat.le_of_ble_eq_true rfl⟩) hS hA hP hD [1, 2, 3, 4] [0, 5, 6, 7, 8, 9] rfl rfl (by decide) (by decide) (fun r_17 u_16 H locs hu_16 hP hD hS => ?_)
          obtain ⟨hr_17, eu_16⟩ : r_17 = bI (kActs (markL (4 * 256 + 3 * 8) (nI 1)) u_1).2 ∧ u_16 = (kActs (markL (4 * 256 + 3 * 8) (nI 1)) u_1).1 := hu_16
          obtain ⟨b_18, eb_18⟩ : ∃ z, z = (kActs (markL (4 * 256 + 3 * 8) (nI 1)) u_1).2 := ⟨_, rfl⟩
          rw [← eb_18] at hr_17
          subst hr_17
          have hP := hP.sub (ws' := xW a0 a1 a2 a3 a4 a5 a6 a7 a8 a9 cI u_16 ut tb tn sc hs rn rv wb ee we) [0, 6, 7, 8, 9, 1, 2, 3, 4, 5] rfl
          have hD := hD.sub (ws' := xW a0 a1 a2 a3 a4 a5 a6 a7 a8 a9 cI u_16 ut tb tn sc hs rn rv wb ee we) [0, 6, 7, 8, 9, 1, 2, 3, 4, 5] (by decide) rfl
          refine lv_if_ne (pc := 56) (tgt := 61) hx hb dX3_endExchange_56 (by decide) (fun c4 => ?_) (fun c4 => ?_)
          · skip
            have c4 : b_18 = true := bI_1.mp c4
            have f2 : (kActs (markL (4 * 256 + 3 * 8) (nI 1)) u_1).2 = true := eb_18.symm.trans c4
            have hk2 : kOk u_16 := by rw [eu_16]; exact kActs_ok hk1 f2
            have hF2 : u_16.1 = appL ((markL (4 * 256 + 3 * 8) (nI 1))) u_1.1 := by rw [eu_16]; exact kActs_F f2
            refine lv_aload_n (pc := 61) hx hb dX3_endExchange_61 rfl (lv_at hl 1 rfl) ?_
            refine lv_iconst (pc := 62) (v := nI 4) hx hb dX3_endExchange_62 (by decide) ?_
            refine x_wria (pc := 63) (va_runV (As := [.int (nI 4)]) (rest := []) ⟨hx, hb, hml, hown, hts⟩ (kX3_writeMagic l dC dI tt cI cB _ a0 a1 a2 a3 a4 a5 a6 a7 a8 a9 u_16 ut tb tn sc hs rn rv wb ee we 4 hk2 (by omega)) (cwV 1 hts gX3_endExchange_X3_writeMagic rfl rfl rfl (by decide +kernel) ⟨Nat.le_of_ble_eq_true rfl, Nat.le_of_ble_eq_true rfl⟩) (x_preVa hS hE hK hP hD (x_all hD hS hA) xR0 3 0 rfl rfl) rfl rfl hl.1 rfl (lv_room (Nat.le_of_ble_eq_true rfl)) dX3_endExchange_63 ⟨Nat.le_of_ble_eq_true rfl, Nat.le_of_ble_eq_true rfl⟩) hS hA hD (fun r_20 u_19 H locs hu_19 hP hD hS => ?_)
            obtain ⟨k_22, t_23⟩ := u_19
            obtain ⟨hr_20, ek_22⟩ : r_20 = bI (kActs (magL (4 * 256 + 0 * 8)) u_16).2 ∧ k_22 = (kActs (magL (4 * 256 + 0 * 8)) u_16).1 := hu_19
            obtain ⟨b_21, eb_21⟩ : ∃ z, z = (kActs (magL (4 * 256 + 0 * 8)) u_16).2 := ⟨_, rfl⟩
            rw [← eb_21] at hr_20
            subst hr_20
            have hP : va_P (dC, dI) vwCl (xW a0 a1 a2 a3 a4 a5 a6 a7 a8 a9 cI k_22 t_23 tb tn sc hs rn rv wb ee we) _ := hP
            have hD : va_D A (xW a0 a1 a2 a3 a4 a5 a6 a7 a8 a9 cI k_22 t_23 tb tn sc hs rn rv wb ee we) := hD
            refine lv_if_eq (pc := 66) (tgt := 82) hx hb dX3_endExchange_66 (by decide) (fun c5 => ?_) (fun c5 => ?_)
            · skip
              have c5 : b_21 = false := bI_0.mp c5
              have f3 : (kActs (magL (4 * 256 + 0 * 8)) u_16).2 = false := eb_21.symm.trans c5
              refine lv_iconst (pc := 82) (v := nI 0) hx hb dX3_endExchange_82 (by decide) ?_
              have hth : kActs (endL k.1) k = kActs (magL (4 * 256 + 0 * 8)) u_16 := by rw [endL, app_t f1, ← eu_1, ← hF1, okL, if_neg (fun z => z.elim c2 (by rw [c3]; decide)), app_t f2, ← eu_16, app_f f3]
              exact W.zret (v := nI 0) hx hb hr rfl (fun t ht hW => ⟨⟨nI 0, (k_22, t_23, ee), rfl, ⟨by rw [hth, f3]; rfl, by rw [hth]; exact ek_22, by rw [hth, if_neg (by rw [f3]; decide)]⟩, by show va_P _ _ _ t.heap; rw [ht]; exact hP, va_K.moved hW.alike hK, hD⟩, hS.F ht⟩) hS.2.2 dX3_endExchange_83
            · skip
              have c5 : b_21 = true := bI_1.mp c5
              have f3 : (kActs (magL (4 * 256 + 0 * 8)) u_16).2 = true := eb_21.symm.trans c5
              have hk3 : kOk k_22 := by rw [ek_22]; exact kActs_ok hk2 f3
              have hF3 : k_22.1 = appL ((magL (4 * 256 + 0 * 8))) u_16.1 := by rw [ek_22]; exact kActs_F f3
              refine lv_aload_n (pc := 69) hx hb dX3_endExchange_69 rfl (lv_at hl 1 rfl) ?_
              refine va_get (pc := 70) (D := (dC, dI)) (ci := 3) (v := .ref a1) (C := RX3) (T := TX3) (N := 8) hx hb hts (by decide +kernel) hown hK hP 0 rfl rfl 0 (by decide) (hts (.fieldLink RX3 12 "ScratchSwap" "memory" "LScratchSwap$Memory;") (by decide +kernel)) (fun _ h9 => h9) rfl dX3_endExchange_70 ?_
              refine lv_iconst (pc := 73) (v := nI 4) hx hb dX3_endExchange_73 (by decide) ?_
              refine lv_iconst (pc := 74) (v := nI 2) hx hb dX3_endExchange_74 (by decide) ?_
              refine lv_iconst (pc := 75) (v := nI 1) hx hb dX3_endExchange_75 (by decide) ?_
              refine x_wri (pc := 76) (va_runVN (As := [.int (nI 4), .int (nI 2), .int (nI 1)]) (rest := []) ⟨hx, hb, hml, hown, hts⟩ (kX0_markUnit l dC dI tt cI cB _ a1 a2 a3 a4 k_22 t_23 4 2 (nI 1) hk3 (by omega)) (⟨va_cnB 3 hts gX3_endExchange_X0_markUnit_n91 rfl rfl rfl (hE.m 10 (q := (RX3, 91, yX0_markUnit, "ScratchSwap")) rfl) (hts (.initialized RX0) (by decide +kernel)) (by decide +kernel) ⟨Nat.le_of_ble_eq_true rfl, Nat.le_of_ble_eq_true rfl⟩, hts (.instanceMethod yX0_markUnit) (by decide +kernel), hts (.selects RX0 yX0_markUnit yX0_markUnit) (by decide +kernel)⟩) (x_preV hS hE hK hP hD [1, 2, 3, 4] rfl (by decide) (va_free hD hS hA [1, 2, 3, 4] rfl) xR0 0 1 rfl rfl) rfl rfl hl.1 rfl (lv_room (Nat.le_of_ble_eq_true rfl)) dX3_endExchange_76 ⟨Nat.le_of_ble_eq_true rfl, Nat.le_of_ble_eq_true rfl⟩) hS hA hP hD [1, 2, 3, 4] [0, 5, 6, 7, 8, 9] rfl rfl (by decide) (by decide) (fun r_25 u_24 H locs hu_24 hP hD hS => ?_)
              obtain ⟨hr_25, eu_24⟩ : r_25 = bI (kActs (markL (4 * 256 + 2 * 8) (nI 1)) k_22).2 ∧ u_24 = (kActs (markL (4 * 256 + 2 * 8) (nI 1)) k_22).1 := hu_24
              obtain ⟨b_26, eb_26⟩ : ∃ z, z = (kActs (markL (4 * 256 + 2 * 8) (nI 1)) k_22).2 := ⟨_, rfl⟩
              rw [← eb_26] at hr_25
              subst hr_25
              have hP := hP.sub (ws' := xW a0 a1 a2 a3 a4 a5 a6 a7 a8 a9 cI u_24 t_23 tb tn sc hs rn rv wb ee we) [0, 6, 7, 8, 9, 1, 2, 3, 4, 5] rfl
              have hD := hD.sub (ws' := xW a0 a1 a2 a3 a4 a5 a6 a7 a8 a9 cI u_24 t_23 tb tn sc hs rn rv wb ee we) [0, 6, 7, 8, 9, 1, 2, 3, 4, 5] (by decide) rfl
              refine lv_if_ne (pc := 79) (tgt := 84) hx hb dX3_endExchange_79 (by decide) (fun c6 => ?_) (fun c6 => ?_)
              · skip
                have c6 : b_26 = true := bI_1.mp c6
                have f4 : (kActs (markL (4 * 256 + 2 * 8) (nI 1)) k_22).2 = true := eb_26.symm.trans c6
                have hk4 : kOk u_24 := by rw [eu_24]; exact kActs_ok hk3 f4
                have hF4 : u_24.1 = appL ((markL (4 * 256 + 2 * 8) (nI 1))) k_22.1 := by rw [eu_24]; exact kActs_F f4
                refine lv_aload_n (pc := 84) hx hb dX3_endExchange_84 rfl (lv_at hl 1 rfl) ?_
                refine lv_dup (pc := 85) hx hb dX3_endExchange_85 rfl ?_
                refine va_get (pc := 86) (D := (dC, dI)) (ci := 3) (v := .int ee) (C := RX3) (T := TX3) (N := 8) hx hb hts (by decide +kernel) hown hK hP 0 rfl rfl 6 (by decide) (hts (.fieldLink RX3 41 "ScratchSwap" "exchangesEnded" "I") (by decide +kernel)) (fun _ h9 => h9) rfl dX3_endExchange_86 ?_
                refine lv_iconst (pc := 89) (v := nI 1) hx hb dX3_endExchange_89 (by decide) ?_
                refine lv_iadd (pc := 90) hx hb dX3_endExchange_90 ?_
                refine va_put (pc := 91) (D := (dC, dI)) (ci := 3) (v := .int (ee + (nI 1))) (ty := .int) (C := RX3) (T := TX3) (N := 8) hx hb hts (by decide +kernel) tyX3 tyX3_ok nmX3 hown hK hP hD hS 0 rfl rfl 6 (by decide) (hts (.fieldLink RX3 41 "ScratchSwap" "exchangesEnded" "I") (by decide +kernel)) (fun _ h9 => h9) rfl (by decide +kernel) rfl rfl (Nat.le_of_ble_eq_true rfl) dX3_endExchange_91 (fun H locs hP hD hS => ?_)
                have hP : va_P (dC, dI) vwCl (xW a0 a1 a2 a3 a4 a5 a6 a7 a8 a9 cI u_24 t_23 tb tn sc hs rn rv wb (ee + (nI 1)) we) _ := hP
                have hD : va_D A (xW a0 a1 a2 a3 a4 a5 a6 a7 a8 a9 cI u_24 t_23 tb tn sc hs rn rv wb (ee + (nI 1)) we) := hD
                refine lv_iconst (pc := 94) (v := nI 1) hx hb dX3_endExchange_94 (by decide) ?_
                have hth : kActs (endL k.1) k = kActs (markL (4 * 256 + 2 * 8) (nI 1)) k_22 := by rw [endL, app_t f1, ← eu_1, ← hF1, okL, if_neg (fun z => z.elim c2 (by rw [c3]; decide)), app_t f2, ← eu_16, app_t f3, ← ek_22]
                exact W.zret (v := nI 1) hx hb hr rfl (fun t ht hW => ⟨⟨nI 1, (u_24, t_23, ee + (nI 1)), rfl, ⟨by rw [hth, f4]; rfl, by rw [hth]; exact eu_24, by rw [hth, if_pos (by rw [f4])]⟩, by show va_P _ _ _ t.heap; rw [ht]; exact hP, va_K.moved hW.alike hK, hD⟩, hS.F ht⟩) hS.2.2 dX3_endExchange_95
              · skip
                have c6 : b_26 = false := bI_0.mp c6
                have f4 : (kActs (markL (4 * 256 + 2 * 8) (nI 1)) k_22).2 = false := eb_26.symm.trans c6
                refine lv_iconst (pc := 82) (v := nI 0) hx hb dX3_endExchange_82 (by decide) ?_
                have hth : kActs (endL k.1) k = kActs (markL (4 * 256 + 2 * 8) (nI 1)) k_22 := by rw [endL, app_t f1, ← eu_1, ← hF1, okL, if_neg (fun z => z.elim c2 (by rw [c3]; decide)), app_t f2, ← eu_16, app_t f3, ← ek_22]
                exact W.zret (v := nI 0) hx hb hr rfl (fun t ht hW => ⟨⟨nI 0, (u_24, t_23, ee), rfl, ⟨by rw [hth, f4]; rfl, by rw [hth]; exact eu_24, by rw [hth, if_neg (by rw [f4]; decide)]⟩, by show va_P _ _ _ t.heap; rw [ht]; exact hP, va_K.moved hW.alike hK, hD⟩, hS.F ht⟩) hS.2.2 dX3_endExchange_83
          · skip
            have c4 : b_18 = false := bI_0.mp c4
            have f2 : (kActs (markL (4 * 256 + 3 * 8) (nI 1)) u_1).2 = false := eb_18.symm.trans c4
            refine lv_iconst (pc := 59) (v := nI 0) hx hb dX3_endExchange_59 (by decide) ?_
            have hth : kActs (endL k.1) k = kActs (markL (4 * 256 + 3 * 8) (nI 1)) u_1 := by rw [endL, app_t f1, ← eu_1, ← hF1, okL, if_neg (fun z => z.elim c2 (by rw [c3]; decide)), app_f f2]
            exact W.zret (v := nI 0) hx hb hr rfl (fun t ht hW => ⟨⟨nI 0, (u_16, ut, ee), rfl, ⟨by rw [hth, f2]; rfl, by rw [hth]; exact eu_16, by rw [hth, if_neg (by rw [f2]; decide)]⟩, by show va_P _ _ _ t.heap; rw [ht]; exact hP, va_K.moved hW.alike hK, hD⟩, hS.F ht⟩) hS.2.2 dX3_endExchange_60
    · skip
      have c2 : (setN u_1.1 (4 * 256 + 1 * 8)) = 1 := (nI_eq (a := (setN u_1.1 (4 * 256 + 1 * 8))) (b := 1) (by omega) (by omega)).mp c2
      refine lv_iconst (pc := 27) (v := nI 1) hx hb dX3_endExchange_27 (by decide) ?_
      refine lv_goto (pc := 28) (tgt := 32) hx hb dX3_endExchange_28 (by decide) ?_
      refine lv_istore_n (pc := 32) (lv' := [(1, .int (nI 1)), (0, .ref a0)]) hx hb dX3_endExchange_32 rfl hl (by decide) rfl (fun ls hl => ?_)
      refine lv_iload_n (pc := 33) hx hb dX3_endExchange_33 rfl (lv_at hl 0 rfl) ?_
      refine lv_if_ne (pc := 34) (tgt := 61) hx hb dX3_endExchange_34 (by decide) (fun c_27 => ?_) (fun c_27 => ?_)
      · skip
        have c_27 : ¬ 1 = 0 := fun z => c_27 ((nI_eq (a := 1) (b := 0) (by omega) (by omega)).mpr z)
        refine lv_aload_n (pc := 61) hx hb dX3_endExchange_61 rfl (lv_at hl 1 rfl) ?_
        refine lv_iconst (pc := 62) (v := nI 4) hx hb dX3_endExchange_62 (by decide) ?_
        refine x_wria (pc := 63) (va_runV (As := [.int (nI 4)]) (rest := []) ⟨hx, hb, hml, hown, hts⟩ (kX3_writeMagic l dC dI tt cI cB _ a0 a1 a2 a3 a4 a5 a6 a7 a8 a9 u_1 ut tb tn sc hs rn rv wb ee we 4 hk1 (by omega)) (cwV 1 hts gX3_endExchange_X3_writeMagic rfl rfl rfl (by decide +kernel) ⟨Nat.le_of_ble_eq_true rfl, Nat.le_of_ble_eq_true rfl⟩) (x_preVa hS hE hK hP hD (x_all hD hS hA) xR0 3 0 rfl rfl) rfl rfl hl.1 rfl (lv_room (Nat.le_of_ble_eq_true rfl)) dX3_endExchange_63 ⟨Nat.le_of_ble_eq_true rfl, Nat.le_of_ble_eq_true rfl⟩) hS hA hD (fun r_29 u_28 H locs hu_28 hP hD hS => ?_)
        obtain ⟨k_31, t_32⟩ := u_28
        obtain ⟨hr_29, ek_31⟩ : r_29 = bI (kActs (magL (4 * 256 + 0 * 8)) u_1).2 ∧ k_31 = (kActs (magL (4 * 256 + 0 * 8)) u_1).1 := hu_28
        obtain ⟨b_30, eb_30⟩ : ∃ z, z = (kActs (magL (4 * 256 + 0 * 8)) u_1).2 := ⟨_, rfl⟩
        rw [← eb_30] at hr_29
        subst hr_29
        have hP : va_P (dC, dI) vwCl (xW a0 a1 a2 a3 a4 a5 a6 a7 a8 a9 cI k_31 t_32 tb tn sc hs rn rv wb ee we) _ := hP
        have hD : va_D A (xW a0 a1 a2 a3 a4 a5 a6 a7 a8 a9 cI k_31 t_32 tb tn sc hs rn rv wb ee we) := hD
        refine lv_if_eq (pc := 66) (tgt := 82) hx hb dX3_endExchange_66 (by decide) (fun c5 => ?_) (fun c5 => ?_)
        · skip
          have c5 : b_30 = false := bI_0.mp c5
          have f3 : (kActs (magL (4 * 256 + 0 * 8)) u_1).2 = false := eb_30.symm.trans c5
          refine lv_iconst (pc := 82) (v := nI 0) hx hb dX3_endExchange_82 (by decide) ?_
          have hth : kActs (endL k.1) k = kActs (magL (4 * 256 + 0 * 8)) u_1 := by rw [endL, app_t f1, ← eu_1, ← hF1, okL, if_pos (by first | exact Or.inl c2 | exact Or.inr c3), List.nil_append, app_f f3]
          exact W.zret (v := nI 0) hx hb hr rfl (fun t ht hW => ⟨⟨nI 0, (k_31, t_32, ee), rfl, ⟨by rw [hth, f3]; rfl, by rw [hth]; exact ek_31, by rw [hth, if_neg (by rw [f3]; decide)]⟩, by show va_P _ _ _ t.heap; rw [ht]; exact hP, va_K.moved hW.alike hK, hD⟩, hS.F ht⟩) hS.2.2 dX3_endExchange_83
        · skip
          have c5 : b_30 = true := bI_1.mp c5
          have f3 : (kActs (magL (4 * 256 + 0 * 8)) u_1).2 = true := eb_30.symm.trans c5
          have hk3 : kOk k_31 := by rw [ek_31]; exact kActs_ok hk1 f3
          have hF3 : k_31.1 = appL ((magL (4 * 256 + 0 * 8))) u_1.1 := by rw [ek_31]; exact kActs_F f3
          refine lv_aload_n (pc := 69) hx hb dX3_endExchange_69 rfl (lv_at hl 1 rfl) ?_
          refine va_get (pc := 70) (D := (dC, dI)) (ci := 3) (v := .ref a1) (C := RX3) (T := TX3) (N := 8) hx hb hts (by decide +kernel) hown hK hP 0 rfl rfl 0 (by decide) (hts (.fieldLink RX3 12 "ScratchSwap" "memory" "LScratchSwap$Memory;") (by decide +kernel)) (fun _ h9 => h9) rfl dX3_endExchange_70 ?_
          refine lv_iconst (pc := 73) (v := nI 4) hx hb dX3_endExchange_73 (by decide) ?_
          refine lv_iconst (pc := 74) (v := nI 2) hx hb dX3_endExchange_74 (by decide) ?_
          refine lv_iconst (pc := 75) (v := nI 1) hx hb dX3_endExchange_75 (by decide) ?_
          refine x_wri (pc := 76) (va_runVN (As := [.int (nI 4), .int (nI 2), .int (nI 1)]) (rest := []) ⟨hx, hb, hml, hown, hts⟩ (kX0_markUnit l dC dI tt cI cB _ a1 a2 a3 a4 k_31 t_32 4 2 (nI 1) hk3 (by omega)) (⟨va_cnB 3 hts gX3_endExchange_X0_markUnit_n91 rfl rfl rfl (hE.m 10 (q := (RX3, 91, yX0_markUnit, "ScratchSwap")) rfl) (hts (.initialized RX0) (by decide +kernel)) (by decide +kernel) ⟨Nat.le_of_ble_eq_true rfl, Nat.le_of_ble_eq_true rfl⟩, hts (.instanceMethod yX0_markUnit) (by decide +kernel), hts (.selects RX0 yX0_markUnit yX0_markUnit) (by decide +kernel)⟩) (x_preV hS hE hK hP hD [1, 2, 3, 4] rfl (by decide) (va_free hD hS hA [1, 2, 3, 4] rfl) xR0 0 1 rfl rfl) rfl rfl hl.1 rfl (lv_room (Nat.le_of_ble_eq_true rfl)) dX3_endExchange_76 ⟨Nat.le_of_ble_eq_true rfl, Nat.le_of_ble_eq_true rfl⟩) hS hA hP hD [1, 2, 3, 4] [0, 5, 6, 7, 8, 9] rfl rfl (by decide) (by decide) (fun r_34 u_33 H locs hu_33 hP hD hS => ?_)
          obtain ⟨hr_34, eu_33⟩ : r_34 = bI (kActs (markL (4 * 256 + 2 * 8) (nI 1)) k_31).2 ∧ u_33 = (kActs (markL (4 * 256 + 2 * 8) (nI 1)) k_31).1 := hu_33
          obtain ⟨b_35, eb_35⟩ : ∃ z, z = (kActs (markL (4 * 256 + 2 * 8) (nI 1)) k_31).2 := ⟨_, rfl⟩
          rw [← eb_35] at hr_34
          subst hr_34
          have hP := hP.sub (ws' := xW a0 a1 a2 a3 a4 a5 a6 a7 a8 a9 cI u_33 t_32 tb tn sc hs rn rv wb ee we) [0, 6, 7, 8, 9, 1, 2, 3, 4, 5] rfl
          have hD := hD.sub (ws' := xW a0 a1 a2 a3 a4 a5 a6 a7 a8 a9 cI u_33 t_32 tb tn sc hs rn rv wb ee we) [0, 6, 7, 8, 9, 1, 2, 3, 4, 5] (by decide) rfl
          refine lv_if_ne (pc := 79) (tgt := 84) hx hb dX3_endExchange_79 (by decide) (fun c6 => ?_) (fun c6 => ?_)
          · skip
            have c6 : b_35 = true := bI_1.mp c6
            have f4 : (kActs (markL (4 * 256 + 2 * 8) (nI 1)) k_31).2 = true := eb_35.symm.trans c6
            have hk4 : kOk u_33 := by rw [eu_33]; exact kActs_ok hk3 f4
            have hF4 : u_33.1 = appL ((markL (4 * 256 + 2 * 8) (nI 1))) k_31.1 := by rw [eu_33]; exact kActs_F f4
            refine lv_aload_n (pc := 84) hx hb dX3_endExchange_84 rfl (lv_at hl 1 rfl) ?_
            refine lv_dup (pc := 85) hx hb dX3_endExchange_85 rfl ?_
            refine va_get (pc := 86) (D := (dC, dI)) (ci := 3) (v := .int ee) (C := RX3) (T := TX3) (N := 8) hx hb hts (by decide +kernel) hown hK hP 0 rfl rfl 6 (by decide) (hts (.fieldLink RX3 41 "ScratchSwap" "exchangesEnded" "I") (by decide +kernel)) (fun _ h9 => h9) rfl dX3_endExchange_86 ?_
            refine lv_iconst (pc := 89) (v := nI 1) hx hb dX3_endExchange_89 (by decide) ?_
            refine lv_iadd (pc := 90) hx hb dX3_endExchange_90 ?_
            refine va_put (pc := 91) (D := (dC, dI)) (ci := 3) (v := .int (ee + (nI 1))) (ty := .int) (C := RX3) (T := TX3) (N := 8) hx hb hts (by decide +kernel) tyX3 tyX3_ok nmX3 hown hK hP hD hS 0 rfl rfl 6 (by decide) (hts (.fieldLink RX3 41 "ScratchSwap" "exchangesEnded" "I") (by decide +kernel)) (fun _ h9 => h9) rfl (by decide +kernel) rfl rfl (Nat.le_of_ble_eq_true rfl) dX3_endExchange_91 (fun H locs hP hD hS => ?_)
            have hP : va_P (dC, dI) vwCl (xW a0 a1 a2 a3 a4 a5 a6 a7 a8 a9 cI u_33 t_32 tb tn sc hs rn rv wb (ee + (nI 1)) we) _ := hP
            have hD : va_D A (xW a0 a1 a2 a3 a4 a5 a6 a7 a8 a9 cI u_33 t_32 tb tn sc hs rn rv wb (ee + (nI 1)) we) := hD
            refine lv_iconst (pc := 94) (v := nI 1) hx hb dX3_endExchange_94 (by decide) ?_
            have hth : kActs (endL k.1) k = kActs (markL (4 * 256 + 2 * 8) (nI 1)) k_31 := by rw [endL, app_t f1, ← eu_1, ← hF1, okL, if_pos (by first | exact Or.inl c2 | exact Or.inr c3), List.nil_append, app_t f3, ← ek_31]
            exact W.zret (v := nI 1) hx hb hr rfl (fun t ht hW => ⟨⟨nI 1, (u_33, t_32, ee + (nI 1)), rfl, ⟨by rw [hth, f4]; rfl, by rw [hth]; exact eu_33, by rw [hth, if_pos (by rw [f4])]⟩, by show va_P _ _ _ t.heap; rw [ht]; exact hP, va_K.moved hW.alike hK, hD⟩, hS.F ht⟩) hS.2.2 dX3_endExchange_95
          · skip
            have c6 : b_35 = false := bI_0.mp c6
            have f4 : (kActs (markL (4 * 256 + 2 * 8) (nI 1)) k_31).2 = false := eb_35.symm.trans c6
            refine lv_iconst (pc := 82) (v := nI 0) hx hb dX3_endExchange_82 (by decide) ?_
            have hth : kActs (endL k.1) k = kActs (markL (4 * 256 + 2 * 8) (nI 1)) k_31 := by rw [endL, app_t f1, ← eu_1, ← hF1, okL, if_pos (by first | exact Or.inl c2 | exact Or.inr c3), List.nil_append, app_t f3, ← ek_31]
            exact W.zret (v := nI 0) hx hb hr rfl (fun t ht hW => ⟨⟨nI 0, (u_33, t_32, ee), rfl, ⟨by rw [hth, f4]; rfl, by rw [hth]; exact eu_33, by rw [hth, if_neg (by rw [f4]; decide)]⟩, by show va_P _ _ _ t.heap; rw [ht]; exact hP, va_K.moved hW.alike hK, hD⟩, hS.F ht⟩) hS.2.2 dX3_endExchange_83
      · skip
        have c_27 : 1 = 0 := (nI_eq (a := 1) (b := 0) (by omega) (by omega)).mp c_27
        exfalso; omega
  · skip
    have c1 : b_3 = false := bI_0.mp c1
    have f1 : (kActs [.inl 9] k).2 = false := eb_3.symm.trans c1
    refine lv_iconst (pc := 12) (v := nI 0) hx hb dX3_endExchange_12 (by decide) ?_
    have hth : kActs (endL k.1) k = kActs [.inl 9] k := by rw [endL, app_f f1]
    exact W.zret (v := nI 0) hx hb hr rfl (fun t ht hW => ⟨⟨nI 0, (u_1, ut, ee), rfl, ⟨by rw [hth, f1]; rfl, by rw [hth]; exact eu_1, by rw [hth, if_neg (by rw [f1]; decide)]⟩, by show va_P _ _ _ t.heap; rw [ht]; exact hP, va_K.moved hW.alike hK, hD⟩, hS.F ht⟩) hS.2.2 dX3_endExchange_13
set_option maxHeartbeats 4000000 in
set_option maxRecDepth 100000 in
theorem kX3_doWhatIsDue (l : Launch) (dC : Nat → ClassId) (dI : Nat → Nat → Nat) (tt : Nat → Nat) (cI cB : ClassId) (sz : Nat) (a0 a1 a2 a3 a4 a5 a6 a7 a8 a9 : Nat) (k : K0) (ut : Nat → Int32) (tb : Nat → Int8) (tn : Nat) (sc hs : Nat → Int32) (rn : Bool) (rv wb ee we : Int32) (dd : Nat) (hk : kOk k) (hdd : dd < 6) : MetI (S := (K0 × (Nat → Int32) × Int32 × Int32)) l yX3_doWhatIsDue wsX3_doWhatIsDue { frames := 5, cells := 0, slots := 0, locals := 122 } (dC, dI) [(cI, .int), (cB, .byte)] tt [] sz (xW a0 a1 a2 a3 a4 a5 a6 a7 a8 a9 cI k ut tb tn sc hs rn rv wb ee we) [.ref a0, .int (nI dd)] (fun u : (K0 × (Nat → Int32) × Int32 × Int32) => xW a0 a1 a2 a3 a4 a5 a6 a7 a8 a9 cI u.1 u.2.1 tb tn sc hs rn rv wb u.2.2.1 u.2.2.2) (fun r u => r = bI (kActs (dueL k.1 dd) k).2 ∧ u.1 = (kActs (dueL k.1 dd) k).1 ∧ u.2.2.1 = (if (kActs (dueL k.1 dd) k).2 = true then bootE dd ee else ee) ∧ u.2.2.2 = (if (kActs (dueL k.1 dd) k).2 = true then bootW dd we else we)) := by
  refine Met.ofW (cc := cX3_doWhatIsDue) (maxL := 2) (ret := (some .boolean)) (by decide) rfl ?_
  intro p e s m args below meth c s₁ B hml hv
  obtain ⟨rfl, hsz, hP, hK, hD0, hE⟩ := hv
  have hx := B.exec
  have hb := B.bytes
  have hr := B.returns
  have hts := atoms_spec (ws := wsX3_doWhatIsDue) B.pre
  have hown : s.vm.findClass RX3 = some m.cls := findClass_of_methodNamed B.named
  have hlocks := B.notSynchronized
  subst hsz
  have hD := hD0.self (sz := s.heap.size)
  generalize hAe : va_A (xW a0 a1 a2 a3 a4 a5 a6 a7 a8 a9 cI k ut tb tn sc hs rn rv wb ee we) s.heap.size = A at hD hE ⊢
  have hA : ∀ q : Nat, s.heap.size ≤ q → A q := fun q h => by rw [← hAe]; exact Or.inr h
  have hS : va_S A s.heap s.heap [] := va_S.rf
  have hl := lv_entry ([.ref a0, .int (nI dd)]) (n := 2) (Nat.le_of_ble_eq_true rfl)
  rw [lg_entry_eq]
  generalize (lg_sl ([.ref a0, .int (nI dd)]) ++ List.replicate (2 - (lg_sl ([.ref a0, .int (nI dd)])).length) Slot.unset).toArray = ls at hl ⊢
  have hl : lv_has ls 2 [(0, .ref a0), (1, .int (nI dd))] := hl
  have hP : va_P (dC, dI) vwCl (xW a0 a1 a2 a3 a4 a5 a6 a7 a8 a9 cI k ut tb tn sc hs rn rv wb ee we) s.heap := hP
  refine lv_iload_n (pc := 0) hx hb dX3_doWhatIsDue_0 rfl (lv_at hl 1 rfl) ?_
  by_cases s0 : dd = 0
  · skip
    refine lv_lookup (pc := 1) (tgt := 36) (off := 35) hx hb dX3_doWhatIsDue_1 (by decide) (by first | (rw [s0]; done) | (rw [s0]; decide)) (by decide) ?_
    refine lv_iconst (pc := 36) (v := nI 1) hx hb dX3_doWhatIsDue_36 (by decide) ?_
    have hth : dueL k.1 dd = [] := by rw [dueL, if_pos s0]
    exact W.zret (v := nI 1) hx hb hr rfl (fun t ht hW => ⟨⟨nI 1, (k, ut, ee, we), rfl, ⟨by rw [hth]; rfl, by rw [hth]; rfl, by rw [hth, kActs_nil, if_pos rfl, bootE, if_pos (Or.inl s0)], by rw [hth, kActs_nil, if_pos rfl, bootW, if_neg (by omega)]⟩, by show va_P _ _ _ t.heap; rw [ht]; exact hP, va_K.moved hW.alike hK, hD⟩, hS.F ht⟩) hS.2.2 dX3_doWhatIsDue_37
  · skip
    by_cases s1 : dd = 4
    · skip
      refine lv_lookup (pc := 1) (tgt := 38) (off := 37) hx hb dX3_doWhatIsDue_1 (by decide) (by first | (rw [s1]; done) | (rw [s1]; decide)) (by decide) ?_
      refine lv_aload_n (pc := 38) hx hb dX3_doWhatIsDue_38 rfl (lv_at hl 0 rfl) ?_
      refine x_wria (pc := 39) (va_runV (As := []) (rest := []) ⟨hx, hb, hml, hown, hts⟩ (kX3_eraseWrong l dC dI tt cI cB _ a0 a1 a2 a3 a4 a5 a6 a7 a8 a9 k ut tb tn sc hs rn rv wb ee we  hk) (cwV 0 hts gX3_doWhatIsDue_X3_eraseWrong rfl rfl rfl (by decide +kernel) ⟨Nat.le_of_ble_eq_true rfl, Nat.le_of_ble_eq_true rfl⟩) (x_preVa hS hE hK hP hD (x_all hD hS hA) xR0 3 0 rfl rfl) rfl rfl hl.1 rfl (lv_room (Nat.le_of_ble_eq_true rfl)) dX3_doWhatIsDue_39 ⟨Nat.le_of_ble_eq_true rfl, Nat.le_of_ble_eq_true rfl⟩) hS hA hD (fun r_2 u_1 H locs hu_1 hP hD hS => ?_)
      obtain ⟨k_4, n_6⟩ := u_1
      obtain ⟨hr_2, ek_4, en_6⟩ : r_2 = bI (kActs [.inl 9] k).2 ∧ k_4 = (kActs [.inl 9] k).1 ∧ n_6 = (if (kActs [.inl 9] k).2 = true then we + nI 1 else we) := hu_1
      obtain ⟨b_3, eb_3⟩ : ∃ z, z = (kActs [.inl 9] k).2 := ⟨_, rfl⟩
      rw [← eb_3] at hr_2
      subst hr_2
      have hP : va_P (dC, dI) vwCl (xW a0 a1 a2 a3 a4 a5 a6 a7 a8 a9 cI k_4 ut tb tn sc hs rn rv wb ee n_6) _ := hP
      have hD : va_D A (xW a0 a1 a2 a3 a4 a5 a6 a7 a8 a9 cI k_4 ut tb tn sc hs rn rv wb ee n_6) := hD
      have hth : dueL k.1 dd = [.inl 9] := by rw [dueL, if_neg s0, if_pos s1]
      exact W.zret (v := bI b_3) hx hb hr (nbI b_3) (fun t ht hW => ⟨⟨bI b_3, (k_4, ut, ee, n_6), rfl, ⟨by rw [hth, eb_3], by rw [hth]; exact ek_4, by rw [hth]; by_cases z : (kActs [.inl 9] k).2 = true <;> simp [z, bootE, s1], by rw [hth, en_6]; by_cases z : (kActs [.inl 9] k).2 = true <;> simp [z, bootW, s1]⟩, by show va_P _ _ _ t.heap; rw [ht]; exact hP, va_K.moved hW.alike hK, hD⟩, hS.F ht⟩) hS.2.2 dX3_doWhatIsDue_42
    · skip
      by_cases s2 : dd = 5
      · skip
        refine lv_lookup (pc := 1) (tgt := 43) (off := 42) hx hb dX3_doWhatIsDue_1 (by decide) (by first | (rw [s2]; done) | (rw [s2]; decide)) (by decide) ?_
        refine lv_aload_n (pc := 43) hx hb dX3_doWhatIsDue_43 rfl (lv_at hl 0 rfl) ?_
        refine x_wria (pc := 44) (va_runV (As := []) (rest := []) ⟨hx, hb, hml, hown, hts⟩ (kX3_exchangeSectors l dC dI tt cI cB _ a0 a1 a2 a3 a4 a5 a6 a7 a8 a9 k ut tb tn sc hs rn rv wb ee we  hk) (cwV 0 hts gX3_doWhatIsDue_X3_exchangeSectors rfl rfl rfl (by decide +kernel) ⟨Nat.le_of_ble_eq_true rfl, Nat.le_of_ble_eq_true rfl⟩) (x_preVa hS hE hK hP hD (x_all hD hS hA) xR0 3 0 rfl rfl) rfl rfl hl.1 rfl (lv_room (Nat.le_of_ble_eq_true rfl)) dX3_doWhatIsDue_44 ⟨Nat.le_of_ble_eq_true rfl, Nat.le_of_ble_eq_true rfl⟩) hS hA hD (fun r_8 u_7 H locs hu_7 hP hD hS => ?_)
        obtain ⟨k_10, t_11⟩ := u_7
        obtain ⟨hr_8, ek_10⟩ : r_8 = bI (kActs (exL 4 k.1) k).2 ∧ k_10 = (kActs (exL 4 k.1) k).1 := hu_7
        obtain ⟨b_9, eb_9⟩ : ∃ z, z = (kActs (exL 4 k.1) k).2 := ⟨_, rfl⟩
        rw [← eb_9] at hr_8
        subst hr_8
        have hP : va_P (dC, dI) vwCl (xW a0 a1 a2 a3 a4 a5 a6 a7 a8 a9 cI k_10 t_11 tb tn sc hs rn rv wb ee we) _ := hP
        have hD : va_D A (xW a0 a1 a2 a3 a4 a5 a6 a7 a8 a9 cI k_10 t_11 tb tn sc hs rn rv wb ee we) := hD
        refine lv_if_eq (pc := 47) (tgt := 61) hx hb dX3_doWhatIsDue_47 (by decide) (fun c2 => ?_) (fun c2 => ?_)
        · skip
          have c2 : b_9 = false := bI_0.mp c2
          have f2 : (kActs (exL 4 k.1) k).2 = false := eb_9.symm.trans c2
          refine lv_iconst (pc := 61) (v := nI 0) hx hb dX3_doWhatIsDue_61 (by decide) ?_
          have hth : kActs (dueL k.1 dd) k = kActs (exL 4 k.1) k := by rw [dueL, if_neg s0, if_neg s1, if_pos s2, resL, app_f f2]
          exact W.zret (v := nI 0) hx hb hr rfl (fun t ht hW => ⟨⟨nI 0, (k_10, t_11, ee, we), rfl, ⟨by rw [hth, f2]; rfl, by rw [hth]; exact ek_10, by rw [hth, if_neg (by rw [f2]; decide)], by rw [hth, if_neg (by rw [f2]; decide)]⟩, by show va_P _ _ _ t.heap; rw [ht]; exact hP, va_K.moved hW.alike hK, hD⟩, hS.F ht⟩) hS.2.2 dX3_doWhatIsDue_62
        · skip
          have c2 : b_9 = true := bI_1.mp c2
          have f2 : (kActs (exL 4 k.1) k).2 = true := eb_9.symm.trans c2
          have hk2 : kOk k_10 := by rw [ek_10]; exact kActs_ok hk f2
          have hF2 : k_10.1 = appL ((exL 4 k.1)) k.1 := by rw [ek_10]; exact kActs_F f2
          refine lv_aload_n (pc := 50) hx hb dX3_doWhatIsDue_50 rfl (lv_at hl 0 rfl) ?_
          refine x_wria (pc := 51) (va_runV (As := []) (rest := []) ⟨hx, hb, hml, hown, hts⟩ (kX3_endExchange l dC dI tt cI cB _ a0 a1 a2 a3 a4 a5 a6 a7 a8 a9 k_10 t_11 tb tn sc hs rn rv wb ee we  hk2) (cwV 0 hts gX3_doWhatIsDue_X3_endExchange rfl rfl rfl (by decide +kernel) ⟨Nat.le_of_ble_eq_true rfl, Nat.le_of_ble_eq_true rfl⟩) (x_preVa hS hE hK hP hD (x_all hD hS hA) xR0 3 0 rfl rfl) rfl rfl hl.1 rfl (lv_room (Nat.le_of_ble_eq_true rfl)) dX3_doWhatIsDue_51 ⟨Nat.le_of_ble_eq_true rfl, Nat.le_of_ble_eq_true rfl⟩) hS hA hD (fun r_13 u_12 H locs hu_12 hP hD hS => ?_)
          obtain ⟨k_15, t_16, n_17⟩ := u_12
          obtain ⟨hr_13, ek_15, en_17⟩ : r_13 = bI (kActs (endL k_10.1) k_10).2 ∧ k_15 = (kActs (endL k_10.1) k_10).1 ∧ n_17 = (if (kActs (endL k_10.1) k_10).2 = true then ee + nI 1 else ee) := hu_12
          obtain ⟨b_14, eb_14⟩ : ∃ z, z = (kActs (endL k_10.1) k_10).2 := ⟨_, rfl⟩
          rw [← eb_14] at hr_13
          subst hr_13
          have hP : va_P (dC, dI) vwCl (xW a0 a1 a2 a3 a4 a5 a6 a7 a8 a9 cI k_15 t_16 tb tn sc hs rn rv wb n_17 we) _ := hP
          have hD : va_D A (xW a0 a1 a2 a3 a4 a5 a6 a7 a8 a9 cI k_15 t_16 tb tn sc hs rn rv wb n_17 we) := hD
          refine lv_if_eq (pc := 54) (tgt := 61) hx hb dX3_doWhatIsDue_54 (by decide) (fun c3 => ?_) (fun c3 => ?_)
          · skip
            have c3 : b_14 = false := bI_0.mp c3
            have f3 : (kActs (endL k_10.1) k_10).2 = false := eb_14.symm.trans c3
            refine lv_iconst (pc := 61) (v := nI 0) hx hb dX3_doWhatIsDue_61 (by decide) ?_
            have hth : kActs (dueL k.1 dd) k = kActs (endL k_10.1) k_10 := by rw [dueL, if_neg s0, if_neg s1, if_pos s2, resL, app_t f2, ← ek_10, ← hF2]
            exact W.zret (v := nI 0) hx hb hr rfl (fun t ht hW => ⟨⟨nI 0, (k_15, t_16, n_17, we), rfl, ⟨by rw [hth, f3]; rfl, by rw [hth]; exact ek_15, by rw [hth, if_neg (by rw [f3]; decide)]; rw [en_17, if_neg (by rw [f3]; decide)], by rw [hth, if_neg (by rw [f3]; decide)]⟩, by show va_P _ _ _ t.heap; rw [ht]; exact hP, va_K.moved hW.alike hK, hD⟩, hS.F ht⟩) hS.2.2 dX3_doWhatIsDue_62
          · skip
            have c3 : b_14 = true := bI_1.mp c3
            have f3 : (kActs (endL k_10.1) k_10).2 = true := eb_14.symm.trans c3
            have hk3 : kOk k_15 := by rw [ek_15]; exact kActs_ok hk2 f3
            have hF3 : k_15.1 = appL ((endL k_10.1)) k_10.1 := by rw [ek_15]; exact kActs_F f3
            refine lv_iconst (pc := 57) (v := nI 1) hx hb dX3_doWhatIsDue_57 (by decide) ?_
            refine lv_goto (pc := 58) (tgt := 62) hx hb dX3_doWhatIsDue_58 (by decide) ?_
            have hth : kActs (dueL k.1 dd) k = kActs (endL k_10.1) k_10 := by rw [dueL, if_neg s0, if_neg s1, if_pos s2, resL, app_t f2, ← ek_10, ← hF2]
            exact W.zret (v := nI 1) hx hb hr rfl (fun t ht hW => ⟨⟨nI 1, (k_15, t_16, n_17, we), rfl, ⟨by rw [hth, f3]; rfl, by rw [hth]; exact ek_15, by rw [hth, if_pos f3, en_17, if_pos f3, bootE, if_neg (fun z => z.elim s0 s1)], by rw [hth, if_pos f3, bootW, if_neg s1]⟩, by show va_P _ _ _ t.heap; rw [ht]; exact hP, va_K.moved hW.alike hK, hD⟩, hS.F ht⟩) hS.2.2 dX3_doWhatIsDue_62
      · skip
        refine lv_lookup (pc := 1) (tgt := 63) (off := 62) hx hb dX3_doWhatIsDue_1 (by decide) ((lv_osw (k := nI 0) (fun z => s0 ((nI_eq (by omega) (by omega)).mp z)) (by decide)).trans ((lv_osw (k := nI 4) (fun z => s1 ((nI_eq (by omega) (by omega)).mp z)) (by decide)).trans ((lv_osw (k := nI 5) (fun z => s2 ((nI_eq (by omega) (by omega)).mp z)) (by decide)).trans (rfl)))) (by decide) ?_
        refine lv_aload_n (pc := 63) hx hb dX3_doWhatIsDue_63 rfl (lv_at hl 0 rfl) ?_
        refine lv_iload_n (pc := 64) hx hb dX3_doWhatIsDue_64 rfl (lv_at hl 1 rfl) ?_
        refine x_wria (pc := 65) (va_runV (As := [.int (nI dd)]) (rest := []) ⟨hx, hb, hml, hown, hts⟩ (kX3_beginExchange l dC dI tt cI cB _ a0 a1 a2 a3 a4 a5 a6 a7 a8 a9 k ut tb tn sc hs rn rv wb ee we dd hk (by omega)) (cwV 1 hts gX3_doWhatIsDue_X3_beginExchange rfl rfl rfl (by decide +kernel) ⟨Nat.le_of_ble_eq_true rfl, Nat.le_of_ble_eq_true rfl⟩) (x_preVa hS hE hK hP hD (x_all hD hS hA) xR0 3 0 rfl rfl) rfl rfl hl.1 rfl (lv_room (Nat.le_of_ble_eq_true rfl)) dX3_doWhatIsDue_65 ⟨Nat.le_of_ble_eq_true rfl, Nat.le_of_ble_eq_true rfl⟩) hS hA hD (fun r_19 u_18 H locs hu_18 hP hD hS => ?_)
        obtain ⟨hr_19, eu_18⟩ : r_19 = bI (kActs (begL k.1 dd) k).2 ∧ u_18 = (kActs (begL k.1 dd) k).1 := hu_18
        obtain ⟨b_20, eb_20⟩ : ∃ z, z = (kActs (begL k.1 dd) k).2 := ⟨_, rfl⟩
        rw [← eb_20] at hr_19
        subst hr_19
        have hP : va_P (dC, dI) vwCl (xW a0 a1 a2 a3 a4 a5 a6 a7 a8 a9 cI u_18 ut tb tn sc hs rn rv wb ee we) _ := hP
        have hD : va_D A (xW a0 a1 a2 a3 a4 a5 a6 a7 a8 a9 cI u_18 ut tb tn sc hs rn rv wb ee we) := hD
        refine lv_if_eq (pc := 68) (tgt := 89) hx hb dX3_doWhatIsDue_68 (by decide) (fun c1 => ?_) (fun c1 => ?_)
        · skip
          have c1 : b_20 = false := bI_0.mp c1
          have f1 : (kActs (begL k.1 dd) k).2 = false := eb_20.symm.trans c1
          refine lv_iconst (pc := 89) (v := nI 0) hx hb dX3_doWhatIsDue_89 (by decide) ?_
          have hth : kActs (dueL k.1 dd) k = kActs (begL k.1 dd) k := by rw [dueL, if_neg s0, if_neg s1, if_neg s2, app_f f1]
          exact W.zret (v := nI 0) hx hb hr rfl (fun t ht hW => ⟨⟨nI 0, (u_18, ut, ee, we), rfl, ⟨by rw [hth, f1]; rfl, by rw [hth]; exact eu_18, by rw [hth, if_neg (by rw [f1]; decide)], by rw [hth, if_neg (by rw [f1]; decide)]⟩, by show va_P _ _ _ t.heap; rw [ht]; exact hP, va_K.moved hW.alike hK, hD⟩, hS.F ht⟩) hS.2.2 dX3_doWhatIsDue_90
        · skip
          have c1 : b_20 = true := bI_1.mp c1
          have f1 : (kActs (begL k.1 dd) k).2 = true := eb_20.symm.trans c1
          have hk1 : kOk u_18 := by rw [eu_18]; exact kActs_ok hk f1
          have hF1 : u_18.1 = appL ((begL k.1 dd)) k.1 := by rw [eu_18]; exact kActs_F f1
          refine lv_aload_n (pc := 71) hx hb dX3_doWhatIsDue_71 rfl (lv_at hl 0 rfl) ?_
          refine x_wria (pc := 72) (va_runV (As := []) (rest := []) ⟨hx, hb, hml, hown, hts⟩ (kX3_exchangeSectors l dC dI tt cI cB _ a0 a1 a2 a3 a4 a5 a6 a7 a8 a9 u_18 ut tb tn sc hs rn rv wb ee we  hk1) (cwV 0 hts gX3_doWhatIsDue_X3_exchangeSectors rfl rfl rfl (by decide +kernel) ⟨Nat.le_of_ble_eq_true rfl, Nat.le_of_ble_eq_true rfl⟩) (x_preVa hS hE hK hP hD (x_all hD hS hA) xR0 3 0 rfl rfl) rfl rfl hl.1 rfl (lv_room (Nat.le_of_ble_eq_true rfl)) dX3_doWhatIsDue_72 ⟨Nat.le_of_ble_eq_true rfl, Nat.le_of_ble_eq_true rfl⟩) hS hA hD (fun r_22 u_21 H locs hu_21 hP hD hS => ?_)
          obtain ⟨k_24, t_25⟩ := u_21
          obtain ⟨hr_22, ek_24⟩ : r_22 = bI (kActs (exL 4 u_18.1) u_18).2 ∧ k_24 = (kActs (exL 4 u_18.1) u_18).1 := hu_21
          obtain ⟨b_23, eb_23⟩ : ∃ z, z = (kActs (exL 4 u_18.1) u_18).2 := ⟨_, rfl⟩
          rw [← eb_23] at hr_22
          subst hr_22
          have hP : va_P (dC, dI) vwCl (xW a0 a1 a2 a3 a4 a5 a6 a7 a8 a9 cI k_24 t_25 tb tn sc hs rn rv wb ee we) _ := hP
          have hD : va_D A (xW a0 a1 a2 a3 a4 a5 a6 a7 a8 a9 cI k_24 t_25 tb tn sc hs rn rv wb ee we) := hD
          refine lv_if_eq (pc := 75) (tgt := 89) hx hb dX3_doWhatIsDue_75 (by decide) (fun c2 => ?_) (fun c2 => ?_)
          · skip
            have c2 : b_23 = false := bI_0.mp c2
            have f2 : (kActs (exL 4 u_18.1) u_18).2 = false := eb_23.symm.trans c2
            refine lv_iconst (pc := 89) (v := nI 0) hx hb dX3_doWhatIsDue_89 (by decide) ?_
            have hth : kActs (dueL k.1 dd) k = kActs (exL 4 u_18.1) u_18 := by rw [dueL, if_neg s0, if_neg s1, if_neg s2, app_t f1, ← eu_18, ← hF1, resL, app_f f2]
            exact W.zret (v := nI 0) hx hb hr rfl (fun t ht hW => ⟨⟨nI 0, (k_24, t_25, ee, we), rfl, ⟨by rw [hth, f2]; rfl, by rw [hth]; exact ek_24, by rw [hth, if_neg (by rw [f2]; decide)], by rw [hth, if_neg (by rw [f2]; decide)]⟩, by show va_P _ _ _ t.heap; rw [ht]; exact hP, va_K.moved hW.alike hK, hD⟩, hS.F ht⟩) hS.2.2 dX3_doWhatIsDue_90
          · skip
            have c2 : b_23 = true := bI_1.mp c2
            have f2 : (kActs (exL 4 u_18.1) u_18).2 = true := eb_23.symm.trans c2
            have hk2 : kOk k_24 := by rw [ek_24]; exact kActs_ok hk1 f2
            have hF2 : k_24.1 = appL ((exL 4 u_18.1)) u_18.1 := by rw [ek_24]; exact kActs_F f2
            refine lv_aload_n (pc := 78) hx hb dX3_doWhatIsDue_78 rfl (lv_at hl 0 rfl) ?_
            refine x_wria (pc := 79) (va_runV (As := []) (rest := []) ⟨hx, hb, hml, hown, hts⟩ (kX3_endExchange l dC dI tt cI cB _ a0 a1 a2 a3 a4 a5 a6 a7 a8 a9 k_24 t_25 tb tn sc hs rn rv wb ee we  hk2) (cwV 0 hts gX3_doWhatIsDue_X3_endExchange rfl rfl rfl (by decide +kernel) ⟨Nat.le_of_ble_eq_true rfl, Nat.le_of_ble_eq_true rfl⟩) (x_preVa hS hE hK hP hD (x_all hD hS hA) xR0 3 0 rfl rfl) rfl rfl hl.1 rfl (lv_room (Nat.le_of_ble_eq_true rfl)) dX3_doWhatIsDue_79 ⟨Nat.le_of_ble_eq_true rfl, Nat.le_of_ble_eq_true rfl⟩) hS hA hD (fun r_27 u_26 H locs hu_26 hP hD hS => ?_)
            obtain ⟨k_29, t_30, n_31⟩ := u_26
            obtain ⟨hr_27, ek_29, en_31⟩ : r_27 = bI (kActs (endL k_24.1) k_24).2 ∧ k_29 = (kActs (endL k_24.1) k_24).1 ∧ n_31 = (if (kActs (endL k_24.1) k_24).2 = true then ee + nI 1 else ee) := hu_26
            obtain ⟨b_28, eb_28⟩ : ∃ z, z = (kActs (endL k_24.1) k_24).2 := ⟨_, rfl⟩
            rw [← eb_28] at hr_27
            subst hr_27
            have hP : va_P (dC, dI) vwCl (xW a0 a1 a2 a3 a4 a5 a6 a7 a8 a9 cI k_29 t_30 tb tn sc hs rn rv wb n_31 we) _ := hP
            have hD : va_D A (xW a0 a1 a2 a3 a4 a5 a6 a7 a8 a9 cI k_29 t_30 tb tn sc hs rn rv wb n_31 we) := hD
            refine lv_if_eq (pc := 82) (tgt := 89) hx hb dX3_doWhatIsDue_82 (by decide) (fun c3 => ?_) (fun c3 => ?_)
            · skip
              have c3 : b_28 = false := bI_0.mp c3
              have f3 : (kActs (endL k_24.1) k_24).2 = false := eb_28.symm.trans c3
              refine lv_iconst (pc := 89) (v := nI 0) hx hb dX3_doWhatIsDue_89 (by decide) ?_
              have hth : kActs (dueL k.1 dd) k = kActs (endL k_24.1) k_24 := by rw [dueL, if_neg s0, if_neg s1, if_neg s2, app_t f1, ← eu_18, ← hF1, resL, app_t f2, ← ek_24, ← hF2]
              exact W.zret (v := nI 0) hx hb hr rfl (fun t ht hW => ⟨⟨nI 0, (k_29, t_30, n_31, we), rfl, ⟨by rw [hth, f3]; rfl, by rw [hth]; exact ek_29, by rw [hth, if_neg (by rw [f3]; decide)]; rw [en_31, if_neg (by rw [f3]; decide)], by rw [hth, if_neg (by rw [f3]; decide)]⟩, by show va_P _ _ _ t.heap; rw [ht]; exact hP, va_K.moved hW.alike hK, hD⟩, hS.F ht⟩) hS.2.2 dX3_doWhatIsDue_90
            · skip
              have c3 : b_28 = true := bI_1.mp c3
              have f3 : (kActs (endL k_24.1) k_24).2 = true := eb_28.symm.trans c3
              have hk3 : kOk k_29 := by rw [ek_29]; exact kActs_ok hk2 f3
              have hF3 : k_29.1 = appL ((endL k_24.1)) k_24.1 := by rw [ek_29]; exact kActs_F f3
              refine lv_iconst (pc := 85) (v := nI 1) hx hb dX3_doWhatIsDue_85 (by decide) ?_
              refine lv_goto (pc := 86) (tgt := 90) hx hb dX3_doWhatIsDue_86 (by decide) ?_
              have hth : kActs (dueL k.1 dd) k = kActs (endL k_24.1) k_24 := by rw [dueL, if_neg s0, if_neg s1, if_neg s2, app_t f1, ← eu_18, ← hF1, resL, app_t f2, ← ek_24, ← hF2]
              exact W.zret (v := nI 1) hx hb hr rfl (fun t ht hW => ⟨⟨nI 1, (k_29, t_30, n_31, we), rfl, ⟨by rw [hth, f3]; rfl, by rw [hth]; exact ek_29, by rw [hth, if_pos f3, en_31, if_pos f3, bootE, if_neg (fun z => z.elim s0 s1)], by rw [hth, if_pos f3, bootW, if_neg s1]⟩, by show va_P _ _ _ t.heap; rw [ht]; exact hP, va_K.moved hW.alike hK, hD⟩, hS.F ht⟩) hS.2.2 dX3_doWhatIsDue_90
