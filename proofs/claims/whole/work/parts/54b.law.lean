set_option maxHeartbeats 4000000 in
set_option maxRecDepth 100000 in
theorem lw_c9 {p : Program} {e : Env} {s : State} {m : MethodId} {below : List Frame} {meth : Method} {c : Code} (l : Launch) {b L : Nat} {xs : Nat → Int32} {dC : Nat → ClassId} {dI : Nat → Nat → Nat} {tt : Nat → Nat} {cI cB : ClassId} {A : Nat → Prop} (hL : L ≤ 3072) (hx : p.tables.exec = Jvm.exec) (hb : c.code = cL_law) (hml : c.maxLocals = 4) (hown : s.vm.findClass RL = some m.cls) (hts : ∀ w ∈ wsL_law, w.before #[Value.ref b] s = true) (hX : va_X b L xs s s.heap) (hbl : b < s.heap.size) (hbA : ¬ A b) (hA : ∀ q : Nat, s.heap.size ≤ q → A q) (hK : va_K (dC, dI) vwCl [(cI, .int), (cB, .byte)] s) (hE : xE tt [] A s s.heap) (a0 a1 a2 a3 a4 a5 a6 a7 a8 a9 g0 g1 g2 g3 g4 g5 g6 g7 g8 g9 g10 g11 g12 g13 : Nat) (i : Nat) (hi : i + 6 ≤ L) (hk : lwK p l e s m below meth c b dC dI cI cB A a0 a1 a2 a3 a4 a5 a6 a7 a8 a9 g0 g1 g2 g3 g4 g5 g6 g7 g8 g9 g10 g11 g12 g13 551 i) : lwK p l e s m below meth c b dC dI cI cB A a0 a1 a2 a3 a4 a5 a6 a7 a8 a9 g0 g1 g2 g3 g4 g5 g6 g7 g8 g9 g10 g11 g12 g13 359 i := by
  intro k ut tb tn sc hs rn wb ee we dr er pl un li ov vs ei dg wo pa ch fi H locs ls hsm htn hP hD hS hl
  have hP : va_P (dC, dI) vwCl (xW a0 a1 a2 a3 a4 a5 a6 a7 a8 a9 cI k ut tb tn sc hs rn (rvV rn vs) wb ee we ++ gW g0 g1 g2 g3 g4 g5 g6 g7 g8 g9 g10 g11 g12 g13 cI cB k dr er pl un li ov tb tn rn vs wb ee we ei dg wo pa ch fi) _ := hP
  have hD : va_D A (xW a0 a1 a2 a3 a4 a5 a6 a7 a8 a9 cI k ut tb tn sc hs rn (rvV rn vs) wb ee we ++ gW g0 g1 g2 g3 g4 g5 g6 g7 g8 g9 g10 g11 g12 g13 cI cB k dr er pl un li ov tb tn rn vs wb ee we ei dg wo pa ch fi) := hD
  have hl : lv_has ls 4 [(0, .ref b), (1, .ref a0), (2, .ref g0), (3, .int (nI i))] := hl
  refine lv_aload_n (pc := 359) hx hb dL_law_359 rfl (lv_at hl 1 rfl) ?_
  refine x_wrv (pc := 360) (va_runV (As := []) (rest := []) ⟨hx, hb, hml, hown, hts⟩ (kX3_power l dC dI tt cI cB _ a0 a1 a2 a3 a4 a5 a6 a7 a8 a9 k ut tb tn sc hs rn (rvV rn vs) wb ee we  ) (cwV 0 hts gL_law_X3_power rfl rfl rfl (by decide +kernel) ⟨Nat.le_of_ble_eq_true rfl, Nat.le_of_ble_eq_true rfl⟩) (x_preV hS hE hK hP hD [0, 1, 2, 3, 4, 5, 6, 7, 8, 9] rfl (by decide) (va_free hD hS hA [0, 1, 2, 3, 4, 5, 6, 7, 8, 9] rfl) xR0 3 0 rfl rfl) rfl rfl hl.1 rfl (lv_room (Nat.le_of_ble_eq_true rfl)) dL_law_360 ⟨Nat.le_of_ble_eq_true rfl, Nat.le_of_ble_eq_true rfl⟩) hS hA hP hD [0, 1, 2, 3, 4, 5, 6, 7, 8, 9] [10, 11, 12, 13, 14, 15, 16, 17, 18, 19, 20, 21, 22, 23] rfl rfl (by decide) (by decide) (fun u_1 H locs hu_1 hP hD hS => ?_)
  skip
  have hP := hP.sub (ws' := xW a0 a1 a2 a3 a4 a5 a6 a7 a8 a9 cI (k.1, k.2.1, false, false, k.2.2.2.2) ut tb tn sc hs false (nI 0) wb ee we ++ gW g0 g1 g2 g3 g4 g5 g6 g7 g8 g9 g10 g11 g12 g13 cI cB k dr er pl un li ov tb tn rn vs wb ee we ei dg wo pa ch fi) [14, 15, 16, 17, 18, 19, 20, 21, 22, 23, 0, 1, 2, 3, 4, 5, 6, 7, 8, 9, 10, 11, 12, 13] rfl
  have hD := hD.sub (ws' := xW a0 a1 a2 a3 a4 a5 a6 a7 a8 a9 cI (k.1, k.2.1, false, false, k.2.2.2.2) ut tb tn sc hs false (nI 0) wb ee we ++ gW g0 g1 g2 g3 g4 g5 g6 g7 g8 g9 g10 g11 g12 g13 cI cB k dr er pl un li ov tb tn rn vs wb ee we ei dg wo pa ch fi) [14, 15, 16, 17, 18, 19, 20, 21, 22, 23, 0, 1, 2, 3, 4, 5, 6, 7, 8, 9, 10, 11, 12, 13] (by decide) rfl
  refine lv_aload_n (pc := 363) hx hb dL_law_363 rfl (lv_at hl 2 rfl) ?_
  refine x_wrv (pc := 364) (va_runV (As := []) (rest := []) ⟨hx, hb, hml, hown, hts⟩ (kX4_power l dC dI tt cI cB _ g0 g1 g2 g3 g4 g5 g6 g7 g8 g9 g10 g11 g12 g13 k dr er pl un li ov tb tn rn vs wb ee we ei dg wo pa ch fi  ) (cwV 0 hts gL_law_X4_power rfl rfl rfl (by decide +kernel) ⟨Nat.le_of_ble_eq_true rfl, Nat.le_of_ble_eq_true rfl⟩) (x_preV hS hE hK hP hD [10, 11, 12, 13, 14, 15, 16, 17, 18, 19, 20, 21, 22, 23] rfl (by decide) (va_free hD hS hA [10, 11, 12, 13, 14, 15, 16, 17, 18, 19, 20, 21, 22, 23] rfl) xR0 4 10 rfl rfl) rfl rfl hl.1 rfl (lv_room (Nat.le_of_ble_eq_true rfl)) dL_law_364 ⟨Nat.le_of_ble_eq_true rfl, Nat.le_of_ble_eq_true rfl⟩) hS hA hP hD [10, 11, 12, 13, 14, 15, 16, 17, 18, 19, 20, 21, 22, 23] [0, 1, 2, 3, 4, 5, 6, 7, 8, 9] rfl rfl (by decide) (by decide) (fun u_2 H locs hu_2 hP hD hS => ?_)
  skip
  have hP := hP.sub (ws' := xW a0 a1 a2 a3 a4 a5 a6 a7 a8 a9 cI (k.1, k.2.1, false, false, k.2.2.2.2) ut tb tn sc hs false (nI 0) wb ee we ++ gW g0 g1 g2 g3 g4 g5 g6 g7 g8 g9 g10 g11 g12 g13 cI cB (k.1, k.2.1, false, false, k.2.2.2.2) dr er pl un li ov tb tn false vs wb ee we ei dg wo pa ch fi) [0, 1, 2, 3, 4, 5, 6, 7, 8, 9, 10, 11, 12, 13, 14, 15, 16, 17, 18, 19, 20, 21, 22, 23] rfl
  have hD := hD.sub (ws' := xW a0 a1 a2 a3 a4 a5 a6 a7 a8 a9 cI (k.1, k.2.1, false, false, k.2.2.2.2) ut tb tn sc hs false (nI 0) wb ee we ++ gW g0 g1 g2 g3 g4 g5 g6 g7 g8 g9 g10 g11 g12 g13 cI cB (k.1, k.2.1, false, false, k.2.2.2.2) dr er pl un li ov tb tn false vs wb ee we ei dg wo pa ch fi) [0, 1, 2, 3, 4, 5, 6, 7, 8, 9, 10, 11, 12, 13, 14, 15, 16, 17, 18, 19, 20, 21, 22, 23] (by decide) rfl
  refine lv_goto (pc := 367) (tgt := 551) hx hb dL_law_367 (by decide) ?_
  exact hk (k.1, k.2.1, false, false, k.2.2.2.2) ut tb tn sc hs false wb ee we dr er pl un li ov vs ei dg wo pa ch fi H locs ls hsm htn hP hD hS (lv_sub hl [0, 1, 2, 3] rfl)
set_option maxHeartbeats 4000000 in
set_option maxRecDepth 100000 in
theorem lw_c10 {p : Program} {e : Env} {s : State} {m : MethodId} {below : List Frame} {meth : Method} {c : Code} (l : Launch) {b L : Nat} {xs : Nat → Int32} {dC : Nat → ClassId} {dI : Nat → Nat → Nat} {tt : Nat → Nat} {cI cB : ClassId} {A : Nat → Prop} (hL : L ≤ 3072) (hx : p.tables.exec = Jvm.exec) (hb : c.code = cL_law) (hml : c.maxLocals = 4) (hown : s.vm.findClass RL = some m.cls) (hts : ∀ w ∈ wsL_law, w.before #[Value.ref b] s = true) (hX : va_X b L xs s s.heap) (hbl : b < s.heap.size) (hbA : ¬ A b) (hA : ∀ q : Nat, s.heap.size ≤ q → A q) (hK : va_K (dC, dI) vwCl [(cI, .int), (cB, .byte)] s) (hE : xE tt [] A s s.heap) (a0 a1 a2 a3 a4 a5 a6 a7 a8 a9 g0 g1 g2 g3 g4 g5 g6 g7 g8 g9 g10 g11 g12 g13 : Nat) (i : Nat) (hi : i + 6 ≤ L) (hk : lwK p l e s m below meth c b dC dI cI cB A a0 a1 a2 a3 a4 a5 a6 a7 a8 a9 g0 g1 g2 g3 g4 g5 g6 g7 g8 g9 g10 g11 g12 g13 551 i) : lwK p l e s m below meth c b dC dI cI cB A a0 a1 a2 a3 a4 a5 a6 a7 a8 a9 g0 g1 g2 g3 g4 g5 g6 g7 g8 g9 g10 g11 g12 g13 370 i := by
  intro k ut tb tn sc hs rn wb ee we dr er pl un li ov vs ei dg wo pa ch fi H locs ls hsm htn hP hD hS hl
  have hP : va_P (dC, dI) vwCl (xW a0 a1 a2 a3 a4 a5 a6 a7 a8 a9 cI k ut tb tn sc hs rn (rvV rn vs) wb ee we ++ gW g0 g1 g2 g3 g4 g5 g6 g7 g8 g9 g10 g11 g12 g13 cI cB k dr er pl un li ov tb tn rn vs wb ee we ei dg wo pa ch fi) _ := hP
  have hD : va_D A (xW a0 a1 a2 a3 a4 a5 a6 a7 a8 a9 cI k ut tb tn sc hs rn (rvV rn vs) wb ee we ++ gW g0 g1 g2 g3 g4 g5 g6 g7 g8 g9 g10 g11 g12 g13 cI cB k dr er pl un li ov tb tn rn vs wb ee we ei dg wo pa ch fi) := hD
  have hl : lv_has ls 4 [(0, .ref b), (1, .ref a0), (2, .ref g0), (3, .int (nI i))] := hl
  refine lv_aload_n (pc := 370) hx hb dL_law_370 rfl (lv_at hl 1 rfl) ?_
  refine lv_aload_n (pc := 371) hx hb dL_law_371 rfl (lv_at hl 0 rfl) ?_
  refine lv_iload_n (pc := 372) hx hb dL_law_372 rfl (lv_at hl 3 rfl) ?_
  refine lv_iconst (pc := 373) (v := nI 1) hx hb dL_law_373 (by decide) ?_
  refine lv_iadd (pc := 374) hx hb dL_law_374 ?_
  refine lv_cv (nI_add i 1) ?_
  refine x_sld (pc := 375) (k := i + 1) hx hb hX hbl hbA hS (by omega) (by omega) dL_law_375 ?_
  refine lv_aload_n (pc := 376) hx hb dL_law_376 rfl (lv_at hl 0 rfl) ?_
  refine lv_iload_n (pc := 377) hx hb dL_law_377 rfl (lv_at hl 3 rfl) ?_
  refine lv_iconst (pc := 378) (v := nI 2) hx hb dL_law_378 (by decide) ?_
  refine lv_iadd (pc := 379) hx hb dL_law_379 ?_
  refine lv_cv (nI_add i 2) ?_
  refine x_sld (pc := 380) (k := i + 2) hx hb hX hbl hbA hS (by omega) (by omega) dL_law_380 ?_
  refine x_wri (pc := 381) (va_runV (As := [.int (xs (i + 1)), .int (xs (i + 2))]) (rest := []) ⟨hx, hb, hml, hown, hts⟩ (kX3_harm l dC dI tt cI cB _ a0 a1 a2 a3 a4 a5 a6 a7 a8 a9 k ut tb tn sc hs rn (rvV rn vs) wb ee we (xs (i + 1)) (xs (i + 2)) ) (cwV 2 hts gL_law_X3_harm rfl rfl rfl (by decide +kernel) ⟨Nat.le_of_ble_eq_true rfl, Nat.le_of_ble_eq_true rfl⟩) (x_preV hS hE hK hP hD [0, 1, 2, 3, 4, 5, 6, 7, 8, 9] rfl (by decide) (va_free hD hS hA [0, 1, 2, 3, 4, 5, 6, 7, 8, 9] rfl) xR0 3 0 rfl rfl) rfl rfl hl.1 rfl (lv_room (Nat.le_of_ble_eq_true rfl)) dL_law_381 ⟨Nat.le_of_ble_eq_true rfl, Nat.le_of_ble_eq_true rfl⟩) hS hA hP hD [0, 1, 2, 3, 4, 5, 6, 7, 8, 9] [10, 11, 12, 13, 14, 15, 16, 17, 18, 19, 20, 21, 22, 23] rfl rfl (by decide) (by decide) (fun r_2 u_1 H locs hu_1 hP hD hS => ?_)
  obtain ⟨F1, eF1⟩ : ∃ z, z = u_1 := ⟨_, rfl⟩
  rw [← eF1] at hu_1 hP hD
  have h1 := hu_1
  have hP := hP.sub (ws' := xW a0 a1 a2 a3 a4 a5 a6 a7 a8 a9 cI (F1, k.2) ut tb tn sc hs rn (rvV rn vs) wb ee we ++ gW g0 g1 g2 g3 g4 g5 g6 g7 g8 g9 g10 g11 g12 g13 cI cB k dr er pl un li ov tb tn rn vs wb ee we ei dg wo pa ch fi) [14, 15, 16, 17, 18, 19, 20, 21, 22, 23, 0, 1, 2, 3, 4, 5, 6, 7, 8, 9, 10, 11, 12, 13] rfl
  have hD := hD.sub (ws' := xW a0 a1 a2 a3 a4 a5 a6 a7 a8 a9 cI (F1, k.2) ut tb tn sc hs rn (rvV rn vs) wb ee we ++ gW g0 g1 g2 g3 g4 g5 g6 g7 g8 g9 g10 g11 g12 g13 cI cB k dr er pl un li ov tb tn rn vs wb ee we ei dg wo pa ch fi) [14, 15, 16, 17, 18, 19, 20, 21, 22, 23, 0, 1, 2, 3, 4, 5, 6, 7, 8, 9, 10, 11, 12, 13] (by decide) rfl
  refine lv_aload_n (pc := 384) hx hb dL_law_384 rfl (lv_at hl 2 rfl) ?_
  refine lv_aload_n (pc := 385) hx hb dL_law_385 rfl (lv_at hl 0 rfl) ?_
  refine lv_iload_n (pc := 386) hx hb dL_law_386 rfl (lv_at hl 3 rfl) ?_
  refine lv_iconst (pc := 387) (v := nI 1) hx hb dL_law_387 (by decide) ?_
  refine lv_iadd (pc := 388) hx hb dL_law_388 ?_
  refine lv_cv (nI_add i 1) ?_
  refine x_sld (pc := 389) (k := i + 1) hx hb hX hbl hbA hS (by omega) (by omega) dL_law_389 ?_
  refine lv_aload_n (pc := 390) hx hb dL_law_390 rfl (lv_at hl 0 rfl) ?_
  refine lv_iload_n (pc := 391) hx hb dL_law_391 rfl (lv_at hl 3 rfl) ?_
  refine lv_iconst (pc := 392) (v := nI 2) hx hb dL_law_392 (by decide) ?_
  refine lv_iadd (pc := 393) hx hb dL_law_393 ?_
  refine lv_cv (nI_add i 2) ?_
  refine x_sld (pc := 394) (k := i + 2) hx hb hX hbl hbA hS (by omega) (by omega) dL_law_394 ?_
  refine x_wri (pc := 395) (va_runV (As := [.int (xs (i + 1)), .int (xs (i + 2))]) (rest := [.int r_2]) ⟨hx, hb, hml, hown, hts⟩ (kX4_harm l dC dI tt cI cB _ g0 g1 g2 g3 g4 g5 g6 g7 g8 g9 g10 g11 g12 g13 k dr er pl un li ov tb tn rn vs wb ee we ei dg wo pa ch fi (xs (i + 1)) (xs (i + 2)) ) (cwV 2 hts gL_law_X4_harm rfl rfl rfl (by decide +kernel) ⟨Nat.le_of_ble_eq_true rfl, Nat.le_of_ble_eq_true rfl⟩) (x_preV hS hE hK hP hD [10, 11, 12, 13, 14, 15, 16, 17, 18, 19, 20, 21, 22, 23] rfl (by decide) (va_free hD hS hA [10, 11, 12, 13, 14, 15, 16, 17, 18, 19, 20, 21, 22, 23] rfl) xR0 4 10 rfl rfl) rfl rfl hl.1 rfl (lv_room (Nat.le_of_ble_eq_true rfl)) dL_law_395 ⟨Nat.le_of_ble_eq_true rfl, Nat.le_of_ble_eq_true rfl⟩) hS hA hP hD [10, 11, 12, 13, 14, 15, 16, 17, 18, 19, 20, 21, 22, 23] [0, 1, 2, 3, 4, 5, 6, 7, 8, 9] rfl rfl (by decide) (by decide) (fun r_4 u_3 H locs hu_3 hP hD hS => ?_)
  obtain ⟨F2, eF2⟩ : ∃ z, z = u_3 := ⟨_, rfl⟩
  rw [← eF2] at hu_3 hP hD
  have h2 := hu_3
  have hP := hP.sub (ws' := xW a0 a1 a2 a3 a4 a5 a6 a7 a8 a9 cI (F1, k.2) ut tb tn sc hs rn (rvV rn vs) wb ee we ++ gW g0 g1 g2 g3 g4 g5 g6 g7 g8 g9 g10 g11 g12 g13 cI cB (F2, k.2) dr er pl un li ov tb tn rn vs wb ee we ei dg wo pa ch fi) [0, 1, 2, 3, 4, 5, 6, 7, 8, 9, 10, 11, 12, 13, 14, 15, 16, 17, 18, 19, 20, 21, 22, 23] rfl
  have hD := hD.sub (ws' := xW a0 a1 a2 a3 a4 a5 a6 a7 a8 a9 cI (F1, k.2) ut tb tn sc hs rn (rvV rn vs) wb ee we ++ gW g0 g1 g2 g3 g4 g5 g6 g7 g8 g9 g10 g11 g12 g13 cI cB (F2, k.2) dr er pl un li ov tb tn rn vs wb ee we ei dg wo pa ch fi) [0, 1, 2, 3, 4, 5, 6, 7, 8, 9, 10, 11, 12, 13, 14, 15, 16, 17, 18, 19, 20, 21, 22, 23] (by decide) rfl
  refine lv_icmp_eq (pc := 398) (tgt := 551) hx hb dL_law_398 (by decide) (fun cc => ?_) (fun cc => ?_)
  · skip
    have hrr : r_2 = r_4 := h1.1.trans h2.1.symm
    have e1 : F1 = F2 := h1.2.trans h2.2.symm
    subst e1
    exact hk (F1, k.2) ut tb tn sc hs rn wb ee we dr er pl un li ov vs ei dg wo pa ch fi H locs ls hsm htn hP hD hS (lv_sub hl [0, 1, 2, 3] rfl)
  · skip
    have hrr : r_2 = r_4 := h1.1.trans h2.1.symm
    have e1 : F1 = F2 := h1.2.trans h2.2.symm
    exact absurd hrr cc
set_option maxHeartbeats 4000000 in
set_option maxRecDepth 100000 in
theorem lw_c11 {p : Program} {e : Env} {s : State} {m : MethodId} {below : List Frame} {meth : Method} {c : Code} (l : Launch) {b L : Nat} {xs : Nat → Int32} {dC : Nat → ClassId} {dI : Nat → Nat → Nat} {tt : Nat → Nat} {cI cB : ClassId} {A : Nat → Prop} (hL : L ≤ 3072) (hx : p.tables.exec = Jvm.exec) (hb : c.code = cL_law) (hml : c.maxLocals = 4) (hown : s.vm.findClass RL = some m.cls) (hts : ∀ w ∈ wsL_law, w.before #[Value.ref b] s = true) (hX : va_X b L xs s s.heap) (hbl : b < s.heap.size) (hbA : ¬ A b) (hA : ∀ q : Nat, s.heap.size ≤ q → A q) (hK : va_K (dC, dI) vwCl [(cI, .int), (cB, .byte)] s) (hE : xE tt [] A s s.heap) (a0 a1 a2 a3 a4 a5 a6 a7 a8 a9 g0 g1 g2 g3 g4 g5 g6 g7 g8 g9 g10 g11 g12 g13 : Nat) (i : Nat) (hi : i + 6 ≤ L) (hk : lwK p l e s m below meth c b dC dI cI cB A a0 a1 a2 a3 a4 a5 a6 a7 a8 a9 g0 g1 g2 g3 g4 g5 g6 g7 g8 g9 g10 g11 g12 g13 551 i) : lwK p l e s m below meth c b dC dI cI cB A a0 a1 a2 a3 a4 a5 a6 a7 a8 a9 g0 g1 g2 g3 g4 g5 g6 g7 g8 g9 g10 g11 g12 g13 403 i := by
  intro k ut tb tn sc hs rn wb ee we dr er pl un li ov vs ei dg wo pa ch fi H locs ls hsm htn hP hD hS hl
  have hP : va_P (dC, dI) vwCl (xW a0 a1 a2 a3 a4 a5 a6 a7 a8 a9 cI k ut tb tn sc hs rn (rvV rn vs) wb ee we ++ gW g0 g1 g2 g3 g4 g5 g6 g7 g8 g9 g10 g11 g12 g13 cI cB k dr er pl un li ov tb tn rn vs wb ee we ei dg wo pa ch fi) _ := hP
  have hD : va_D A (xW a0 a1 a2 a3 a4 a5 a6 a7 a8 a9 cI k ut tb tn sc hs rn (rvV rn vs) wb ee we ++ gW g0 g1 g2 g3 g4 g5 g6 g7 g8 g9 g10 g11 g12 g13 cI cB k dr er pl un li ov tb tn rn vs wb ee we ei dg wo pa ch fi) := hD
  have hl : lv_has ls 4 [(0, .ref b), (1, .ref a0), (2, .ref g0), (3, .int (nI i))] := hl
  refine lv_aload_n (pc := 403) hx hb dL_law_403 rfl (lv_at hl 1 rfl) ?_
  refine lv_aload_n (pc := 404) hx hb dL_law_404 rfl (lv_at hl 0 rfl) ?_
  refine lv_iload_n (pc := 405) hx hb dL_law_405 rfl (lv_at hl 3 rfl) ?_
  refine lv_iconst (pc := 406) (v := nI 1) hx hb dL_law_406 (by decide) ?_
  refine lv_iadd (pc := 407) hx hb dL_law_407 ?_
  refine lv_cv (nI_add i 1) ?_
  refine x_sld (pc := 408) (k := i + 1) hx hb hX hbl hbA hS (by omega) (by omega) dL_law_408 ?_
  refine x_roi (pc := 409) (va_runV (As := [.int (xs (i + 1))]) (rest := []) ⟨hx, hb, hml, hown, hts⟩ (kX3_flash l dC dI tt cI cB _ a0 a1 a2 a3 a4 a5 a6 a7 a8 a9 k ut tb tn sc hs rn (rvV rn vs) wb ee we (xs (i + 1)) ) (cwV 1 hts gL_law_X3_flash rfl rfl rfl (by decide +kernel) ⟨Nat.le_of_ble_eq_true rfl, Nat.le_of_ble_eq_true rfl⟩) (x_preV hS hE hK hP hD [0, 1, 2, 3, 4, 5, 6, 7, 8, 9] rfl (by decide) (x_ro hS hA) xR0 3 0 rfl rfl) rfl rfl hl.1 rfl (lv_room (Nat.le_of_ble_eq_true rfl)) dL_law_409 ⟨Nat.le_of_ble_eq_true rfl, Nat.le_of_ble_eq_true rfl⟩) hS hA hP (fun r_1 H locs hr_1 hP hS => ?_)
  have h1 := hr_1
  refine lv_aload_n (pc := 412) hx hb dL_law_412 rfl (lv_at hl 2 rfl) ?_
  refine lv_aload_n (pc := 413) hx hb dL_law_413 rfl (lv_at hl 0 rfl) ?_
  refine lv_iload_n (pc := 414) hx hb dL_law_414 rfl (lv_at hl 3 rfl) ?_
  refine lv_iconst (pc := 415) (v := nI 1) hx hb dL_law_415 (by decide) ?_
  refine lv_iadd (pc := 416) hx hb dL_law_416 ?_
  refine lv_cv (nI_add i 1) ?_
  refine x_sld (pc := 417) (k := i + 1) hx hb hX hbl hbA hS (by omega) (by omega) dL_law_417 ?_
  refine x_roi (pc := 418) (va_runV (As := [.int (xs (i + 1))]) (rest := [.int r_1]) ⟨hx, hb, hml, hown, hts⟩ (kX4_flash l dC dI tt cI cB _ g0 g1 g2 g3 g4 g5 g6 g7 g8 g9 g10 g11 g12 g13 k dr er pl un li ov tb tn rn vs wb ee we ei dg wo pa ch fi (xs (i + 1)) ) (cwV 1 hts gL_law_X4_flash rfl rfl rfl (by decide +kernel) ⟨Nat.le_of_ble_eq_true rfl, Nat.le_of_ble_eq_true rfl⟩) (x_preV hS hE hK hP hD [10, 11, 12, 13, 14, 15, 16, 17, 18, 19, 20, 21, 22, 23] rfl (by decide) (x_ro hS hA) xR0 4 10 rfl rfl) rfl rfl hl.1 rfl (lv_room (Nat.le_of_ble_eq_true rfl)) dL_law_418 ⟨Nat.le_of_ble_eq_true rfl, Nat.le_of_ble_eq_true rfl⟩) hS hA hP (fun r_2 H locs hr_2 hP hS => ?_)
  have h2 := hr_2
  refine lv_icmp_eq (pc := 421) (tgt := 551) hx hb dL_law_421 (by decide) (fun cc => ?_) (fun cc => ?_)
  · skip
    have hrr : r_1 = r_2 := h1.trans h2.symm
    exact hk k ut tb tn sc hs rn wb ee we dr er pl un li ov vs ei dg wo pa ch fi H locs ls hsm htn hP hD hS (lv_sub hl [0, 1, 2, 3] rfl)
  · skip
    have hrr : r_1 = r_2 := h1.trans h2.symm
    exact absurd hrr cc
set_option maxHeartbeats 4000000 in
set_option maxRecDepth 100000 in
theorem lw_c12 {p : Program} {e : Env} {s : State} {m : MethodId} {below : List Frame} {meth : Method} {c : Code} (l : Launch) {b L : Nat} {xs : Nat → Int32} {dC : Nat → ClassId} {dI : Nat → Nat → Nat} {tt : Nat → Nat} {cI cB : ClassId} {A : Nat → Prop} (hL : L ≤ 3072) (hx : p.tables.exec = Jvm.exec) (hb : c.code = cL_law) (hml : c.maxLocals = 4) (hown : s.vm.findClass RL = some m.cls) (hts : ∀ w ∈ wsL_law, w.before #[Value.ref b] s = true) (hX : va_X b L xs s s.heap) (hbl : b < s.heap.size) (hbA : ¬ A b) (hA : ∀ q : Nat, s.heap.size ≤ q → A q) (hK : va_K (dC, dI) vwCl [(cI, .int), (cB, .byte)] s) (hE : xE tt [] A s s.heap) (a0 a1 a2 a3 a4 a5 a6 a7 a8 a9 g0 g1 g2 g3 g4 g5 g6 g7 g8 g9 g10 g11 g12 g13 : Nat) (i : Nat) (hi : i + 6 ≤ L) (hk : lwK p l e s m below meth c b dC dI cI cB A a0 a1 a2 a3 a4 a5 a6 a7 a8 a9 g0 g1 g2 g3 g4 g5 g6 g7 g8 g9 g10 g11 g12 g13 551 i) : lwK p l e s m below meth c b dC dI cI cB A a0 a1 a2 a3 a4 a5 a6 a7 a8 a9 g0 g1 g2 g3 g4 g5 g6 g7 g8 g9 g10 g11 g12 g13 426 i := by
  intro k ut tb tn sc hs rn wb ee we dr er pl un li ov vs ei dg wo pa ch fi H locs ls hsm htn hP hD hS hl
  have hP : va_P (dC, dI) vwCl (xW a0 a1 a2 a3 a4 a5 a6 a7 a8 a9 cI k ut tb tn sc hs rn (rvV rn vs) wb ee we ++ gW g0 g1 g2 g3 g4 g5 g6 g7 g8 g9 g10 g11 g12 g13 cI cB k dr er pl un li ov tb tn rn vs wb ee we ei dg wo pa ch fi) _ := hP
  have hD : va_D A (xW a0 a1 a2 a3 a4 a5 a6 a7 a8 a9 cI k ut tb tn sc hs rn (rvV rn vs) wb ee we ++ gW g0 g1 g2 g3 g4 g5 g6 g7 g8 g9 g10 g11 g12 g13 cI cB k dr er pl un li ov tb tn rn vs wb ee we ei dg wo pa ch fi) := hD
  have hl : lv_has ls 4 [(0, .ref b), (1, .ref a0), (2, .ref g0), (3, .int (nI i))] := hl
  refine lv_aload_n (pc := 426) hx hb dL_law_426 rfl (lv_at hl 1 rfl) ?_
  refine x_wri (pc := 427) (va_runV (As := []) (rest := []) ⟨hx, hb, hml, hown, hts⟩ (kX3_due l dC dI tt cI cB _ a0 a1 a2 a3 a4 a5 a6 a7 a8 a9 k ut tb tn sc hs rn (rvV rn vs) wb ee we  ) (cwV 0 hts gL_law_X3_due rfl rfl rfl (by decide +kernel) ⟨Nat.le_of_ble_eq_true rfl, Nat.le_of_ble_eq_true rfl⟩) (x_preV hS hE hK hP hD [0, 1, 2, 3, 4, 5, 6, 7, 8, 9] rfl (by decide) (va_free hD hS hA [0, 1, 2, 3, 4, 5, 6, 7, 8, 9] rfl) xR0 3 0 rfl rfl) rfl rfl hl.1 rfl (lv_room (Nat.le_of_ble_eq_true rfl)) dL_law_427 ⟨Nat.le_of_ble_eq_true rfl, Nat.le_of_ble_eq_true rfl⟩) hS hA hP hD [0, 1, 2, 3, 4, 5, 6, 7, 8, 9] [10, 11, 12, 13, 14, 15, 16, 17, 18, 19, 20, 21, 22, 23] rfl rfl (by decide) (by decide) (fun r_2 u_1 H locs hu_1 hP hD hS => ?_)
  obtain ⟨sc1, hs1⟩ := u_1
  have h1 := hu_1
  have hP := hP.sub (ws' := xW a0 a1 a2 a3 a4 a5 a6 a7 a8 a9 cI k ut tb tn sc1 hs1 rn (rvV rn vs) wb ee we ++ gW g0 g1 g2 g3 g4 g5 g6 g7 g8 g9 g10 g11 g12 g13 cI cB k dr er pl un li ov tb tn rn vs wb ee we ei dg wo pa ch fi) [14, 15, 16, 17, 18, 19, 20, 21, 22, 23, 0, 1, 2, 3, 4, 5, 6, 7, 8, 9, 10, 11, 12, 13] rfl
  have hD := hD.sub (ws' := xW a0 a1 a2 a3 a4 a5 a6 a7 a8 a9 cI k ut tb tn sc1 hs1 rn (rvV rn vs) wb ee we ++ gW g0 g1 g2 g3 g4 g5 g6 g7 g8 g9 g10 g11 g12 g13 cI cB k dr er pl un li ov tb tn rn vs wb ee we ei dg wo pa ch fi) [14, 15, 16, 17, 18, 19, 20, 21, 22, 23, 0, 1, 2, 3, 4, 5, 6, 7, 8, 9, 10, 11, 12, 13] (by decide) rfl
  refine lv_aload_n (pc := 430) hx hb dL_law_430 rfl (lv_at hl 2 rfl) ?_
  refine x_wri (pc := 431) (va_runV (As := []) (rest := [.int r_2]) ⟨hx, hb, hml, hown, hts⟩ (kX4_due l dC dI tt cI cB _ g0 g1 g2 g3 g4 g5 g6 g7 g8 g9 g10 g11 g12 g13 k dr er pl un li ov tb tn rn vs wb ee we ei dg wo pa ch fi  ) (cwV 0 hts gL_law_X4_due rfl rfl rfl (by decide +kernel) ⟨Nat.le_of_ble_eq_true rfl, Nat.le_of_ble_eq_true rfl⟩) (x_preV hS hE hK hP hD [10, 11, 12, 13, 14, 15, 16, 17, 18, 19, 20, 21, 22, 23] rfl (by decide) (va_free hD hS hA [10, 11, 12, 13, 14, 15, 16, 17, 18, 19, 20, 21, 22, 23] rfl) xR0 4 10 rfl rfl) rfl rfl hl.1 rfl (lv_room (Nat.le_of_ble_eq_true rfl)) dL_law_431 ⟨Nat.le_of_ble_eq_true rfl, Nat.le_of_ble_eq_true rfl⟩) hS hA hP hD [10, 11, 12, 13, 14, 15, 16, 17, 18, 19, 20, 21, 22, 23] [0, 1, 2, 3, 4, 5, 6, 7, 8, 9] rfl rfl (by decide) (by decide) (fun r_4 u_3 H locs hu_3 hP hD hS => ?_)
  obtain ⟨dg2, wo2, pa2, ch2⟩ := u_3
  have h2 := hu_3
  have hP := hP.sub (ws' := xW a0 a1 a2 a3 a4 a5 a6 a7 a8 a9 cI k ut tb tn sc1 hs1 rn (rvV rn vs) wb ee we ++ gW g0 g1 g2 g3 g4 g5 g6 g7 g8 g9 g10 g11 g12 g13 cI cB k dr er pl un li ov tb tn rn vs wb ee we ei dg2 wo2 pa2 ch2 fi) [0, 1, 2, 3, 4, 5, 6, 7, 8, 9, 10, 11, 12, 13, 14, 15, 16, 17, 18, 19, 20, 21, 22, 23] rfl
  have hD := hD.sub (ws' := xW a0 a1 a2 a3 a4 a5 a6 a7 a8 a9 cI k ut tb tn sc1 hs1 rn (rvV rn vs) wb ee we ++ gW g0 g1 g2 g3 g4 g5 g6 g7 g8 g9 g10 g11 g12 g13 cI cB k dr er pl un li ov tb tn rn vs wb ee we ei dg2 wo2 pa2 ch2 fi) [0, 1, 2, 3, 4, 5, 6, 7, 8, 9, 10, 11, 12, 13, 14, 15, 16, 17, 18, 19, 20, 21, 22, 23] (by decide) rfl
  refine lv_icmp_eq (pc := 434) (tgt := 551) hx hb dL_law_434 (by decide) (fun cc => ?_) (fun cc => ?_)
  · skip
    have hrr : r_2 = r_4 := h1.trans h2.symm
    exact hk k ut tb tn sc1 hs1 rn wb ee we dr er pl un li ov vs ei dg2 wo2 pa2 ch2 fi H locs ls hsm htn hP hD hS (lv_sub hl [0, 1, 2, 3] rfl)
  · skip
    have hrr : r_2 = r_4 := h1.trans h2.symm
    exact absurd hrr cc
set_option maxHeartbeats 4000000 in
set_option maxRecDepth 100000 in
theorem lw_c13 {p : Program} {e : Env} {s : State} {m : MethodId} {below : List Frame} {meth : Method} {c : Code} (l : Launch) {b L : Nat} {xs : Nat → Int32} {dC : Nat → ClassId} {dI : Nat → Nat → Nat} {tt : Nat → Nat} {cI cB : ClassId} {A : Nat → Prop} (hL : L ≤ 3072) (hx : p.tables.exec = Jvm.exec) (hb : c.code = cL_law) (hml : c.maxLocals = 4) (hown : s.vm.findClass RL = some m.cls) (hts : ∀ w ∈ wsL_law, w.before #[Value.ref b] s = true) (hX : va_X b L xs s s.heap) (hbl : b < s.heap.size) (hbA : ¬ A b) (hA : ∀ q : Nat, s.heap.size ≤ q → A q) (hK : va_K (dC, dI) vwCl [(cI, .int), (cB, .byte)] s) (hE : xE tt [] A s s.heap) (a0 a1 a2 a3 a4 a5 a6 a7 a8 a9 g0 g1 g2 g3 g4 g5 g6 g7 g8 g9 g10 g11 g12 g13 : Nat) (i : Nat) (hi : i + 6 ≤ L) (hk : lwK p l e s m below meth c b dC dI cI cB A a0 a1 a2 a3 a4 a5 a6 a7 a8 a9 g0 g1 g2 g3 g4 g5 g6 g7 g8 g9 g10 g11 g12 g13 551 i) : lwK p l e s m below meth c b dC dI cI cB A a0 a1 a2 a3 a4 a5 a6 a7 a8 a9 g0 g1 g2 g3 g4 g5 g6 g7 g8 g9 g10 g11 g12 g13 439 i := by
  intro k ut tb tn sc hs rn wb ee we dr er pl un li ov vs ei dg wo pa ch fi H locs ls hsm htn hP hD hS hl
  have hP : va_P (dC, dI) vwCl (xW a0 a1 a2 a3 a4 a5 a6 a7 a8 a9 cI k ut tb tn sc hs rn (rvV rn vs) wb ee we ++ gW g0 g1 g2 g3 g4 g5 g6 g7 g8 g9 g10 g11 g12 g13 cI cB k dr er pl un li ov tb tn rn vs wb ee we ei dg wo pa ch fi) _ := hP
  have hD : va_D A (xW a0 a1 a2 a3 a4 a5 a6 a7 a8 a9 cI k ut tb tn sc hs rn (rvV rn vs) wb ee we ++ gW g0 g1 g2 g3 g4 g5 g6 g7 g8 g9 g10 g11 g12 g13 cI cB k dr er pl un li ov tb tn rn vs wb ee we ei dg wo pa ch fi) := hD
  have hl : lv_has ls 4 [(0, .ref b), (1, .ref a0), (2, .ref g0), (3, .int (nI i))] := hl
  refine lv_aload_n (pc := 439) hx hb dL_law_439 rfl (lv_at hl 1 rfl) ?_
  refine lv_aload_n (pc := 440) hx hb dL_law_440 rfl (lv_at hl 0 rfl) ?_
  refine lv_iload_n (pc := 441) hx hb dL_law_441 rfl (lv_at hl 3 rfl) ?_
  refine lv_iconst (pc := 442) (v := nI 1) hx hb dL_law_442 (by decide) ?_
  refine lv_iadd (pc := 443) hx hb dL_law_443 ?_
  refine lv_cv (nI_add i 1) ?_
  refine x_sld (pc := 444) (k := i + 1) hx hb hX hbl hbA hS (by omega) (by omega) dL_law_444 ?_
  refine lv_aload_n (pc := 445) hx hb dL_law_445 rfl (lv_at hl 0 rfl) ?_
  refine lv_iload_n (pc := 446) hx hb dL_law_446 rfl (lv_at hl 3 rfl) ?_
  refine lv_iconst (pc := 447) (v := nI 2) hx hb dL_law_447 (by decide) ?_
  refine lv_iadd (pc := 448) hx hb dL_law_448 ?_
  refine lv_cv (nI_add i 2) ?_
  refine x_sld (pc := 449) (k := i + 2) hx hb hX hbl hbA hS (by omega) (by omega) dL_law_449 ?_
  refine x_wri (pc := 450) (va_runV (As := [.int (xs (i + 1)), .int (xs (i + 2))]) (rest := []) ⟨hx, hb, hml, hown, hts⟩ (kX3_image l dC dI tt cI cB _ a0 a1 a2 a3 a4 a5 a6 a7 a8 a9 k ut tb tn sc hs rn (rvV rn vs) wb ee we (xs (i + 1)) (xs (i + 2)) ) (cwV 2 hts gL_law_X3_image rfl rfl rfl (by decide +kernel) ⟨Nat.le_of_ble_eq_true rfl, Nat.le_of_ble_eq_true rfl⟩) (x_preV hS hE hK hP hD [0, 1, 2, 3, 4, 5, 6, 7, 8, 9] rfl (by decide) (va_free hD hS hA [0, 1, 2, 3, 4, 5, 6, 7, 8, 9] rfl) xR0 3 0 rfl rfl) rfl rfl hl.1 rfl (lv_room (Nat.le_of_ble_eq_true rfl)) dL_law_450 ⟨Nat.le_of_ble_eq_true rfl, Nat.le_of_ble_eq_true rfl⟩) hS hA hP hD [0, 1, 2, 3, 4, 5, 6, 7, 8, 9] [10, 11, 12, 13, 14, 15, 16, 17, 18, 19, 20, 21, 22, 23] rfl rfl (by decide) (by decide) (fun r_2 u_1 H locs hu_1 hP hD hS => ?_)
  obtain ⟨sc1, hs1⟩ := u_1
  have h1 := hu_1
  have hP := hP.sub (ws' := xW a0 a1 a2 a3 a4 a5 a6 a7 a8 a9 cI k ut tb tn sc1 hs1 rn (rvV rn vs) wb ee we ++ gW g0 g1 g2 g3 g4 g5 g6 g7 g8 g9 g10 g11 g12 g13 cI cB k dr er pl un li ov tb tn rn vs wb ee we ei dg wo pa ch fi) [14, 15, 16, 17, 18, 19, 20, 21, 22, 23, 0, 1, 2, 3, 4, 5, 6, 7, 8, 9, 10, 11, 12, 13] rfl
  have hD := hD.sub (ws' := xW a0 a1 a2 a3 a4 a5 a6 a7 a8 a9 cI k ut tb tn sc1 hs1 rn (rvV rn vs) wb ee we ++ gW g0 g1 g2 g3 g4 g5 g6 g7 g8 g9 g10 g11 g12 g13 cI cB k dr er pl un li ov tb tn rn vs wb ee we ei dg wo pa ch fi) [14, 15, 16, 17, 18, 19, 20, 21, 22, 23, 0, 1, 2, 3, 4, 5, 6, 7, 8, 9, 10, 11, 12, 13] (by decide) rfl
  refine lv_aload_n (pc := 453) hx hb dL_law_453 rfl (lv_at hl 2 rfl) ?_
  refine lv_aload_n (pc := 454) hx hb dL_law_454 rfl (lv_at hl 0 rfl) ?_
  refine lv_iload_n (pc := 455) hx hb dL_law_455 rfl (lv_at hl 3 rfl) ?_
  refine lv_iconst (pc := 456) (v := nI 1) hx hb dL_law_456 (by decide) ?_
  refine lv_iadd (pc := 457) hx hb dL_law_457 ?_
  refine lv_cv (nI_add i 1) ?_
  refine x_sld (pc := 458) (k := i + 1) hx hb hX hbl hbA hS (by omega) (by omega) dL_law_458 ?_
  refine lv_aload_n (pc := 459) hx hb dL_law_459 rfl (lv_at hl 0 rfl) ?_
  refine lv_iload_n (pc := 460) hx hb dL_law_460 rfl (lv_at hl 3 rfl) ?_
  refine lv_iconst (pc := 461) (v := nI 2) hx hb dL_law_461 (by decide) ?_
  refine lv_iadd (pc := 462) hx hb dL_law_462 ?_
  refine lv_cv (nI_add i 2) ?_
  refine x_sld (pc := 463) (k := i + 2) hx hb hX hbl hbA hS (by omega) (by omega) dL_law_463 ?_
  refine x_wri (pc := 464) (va_runV (As := [.int (xs (i + 1)), .int (xs (i + 2))]) (rest := [.int r_2]) ⟨hx, hb, hml, hown, hts⟩ (kX4_image l dC dI tt cI cB _ g0 g1 g2 g3 g4 g5 g6 g7 g8 g9 g10 g11 g12 g13 k dr er pl un li ov tb tn rn vs wb ee we ei dg wo pa ch fi (xs (i + 1)) (xs (i + 2)) ) (cwV 2 hts gL_law_X4_image rfl rfl rfl (by decide +kernel) ⟨Nat.le_of_ble_eq_true rfl, Nat.le_of_ble_eq_true rfl⟩) (x_preV hS hE hK hP hD [10, 11, 12, 13, 14, 15, 16, 17, 18, 19, 20, 21, 22, 23] rfl (by decide) (va_free hD hS hA [10, 11, 12, 13, 14, 15, 16, 17, 18, 19, 20, 21, 22, 23] rfl) xR0 4 10 rfl rfl) rfl rfl hl.1 rfl (lv_room (Nat.le_of_ble_eq_true rfl)) dL_law_464 ⟨Nat.le_of_ble_eq_true rfl, Nat.le_of_ble_eq_true rfl⟩) hS hA hP hD [10, 11, 12, 13, 14, 15, 16, 17, 18, 19, 20, 21, 22, 23] [0, 1, 2, 3, 4, 5, 6, 7, 8, 9] rfl rfl (by decide) (by decide) (fun r_4 u_3 H locs hu_3 hP hD hS => ?_)
  obtain ⟨dg2, wo2, pa2, ch2⟩ := u_3
  have h2 := hu_3
  have hP := hP.sub (ws' := xW a0 a1 a2 a3 a4 a5 a6 a7 a8 a9 cI k ut tb tn sc1 hs1 rn (rvV rn vs) wb ee we ++ gW g0 g1 g2 g3 g4 g5 g6 g7 g8 g9 g10 g11 g12 g13 cI cB k dr er pl un li ov tb tn rn vs wb ee we ei dg2 wo2 pa2 ch2 fi) [0, 1, 2, 3, 4, 5, 6, 7, 8, 9, 10, 11, 12, 13, 14, 15, 16, 17, 18, 19, 20, 21, 22, 23] rfl
  have hD := hD.sub (ws' := xW a0 a1 a2 a3 a4 a5 a6 a7 a8 a9 cI k ut tb tn sc1 hs1 rn (rvV rn vs) wb ee we ++ gW g0 g1 g2 g3 g4 g5 g6 g7 g8 g9 g10 g11 g12 g13 cI cB k dr er pl un li ov tb tn rn vs wb ee we ei dg2 wo2 pa2 ch2 fi) [0, 1, 2, 3, 4, 5, 6, 7, 8, 9, 10, 11, 12, 13, 14, 15, 16, 17, 18, 19, 20, 21, 22, 23] (by decide) rfl
  refine lv_icmp_eq (pc := 467) (tgt := 551) hx hb dL_law_467 (by decide) (fun cc => ?_) (fun cc => ?_)
  · skip
    have hrr : r_2 = r_4 := h1.trans h2.symm
    exact hk k ut tb tn sc1 hs1 rn wb ee we dr er pl un li ov vs ei dg2 wo2 pa2 ch2 fi H locs ls hsm htn hP hD hS (lv_sub hl [0, 1, 2, 3] rfl)
  · skip
    have hrr : r_2 = r_4 := h1.trans h2.symm
    exact absurd hrr cc
set_option maxHeartbeats 4000000 in
set_option maxRecDepth 100000 in
theorem lw_c14 {p : Program} {e : Env} {s : State} {m : MethodId} {below : List Frame} {meth : Method} {c : Code} (l : Launch) {b L : Nat} {xs : Nat → Int32} {dC : Nat → ClassId} {dI : Nat → Nat → Nat} {tt : Nat → Nat} {cI cB : ClassId} {A : Nat → Prop} (hL : L ≤ 3072) (hx : p.tables.exec = Jvm.exec) (hb : c.code = cL_law) (hml : c.maxLocals = 4) (hown : s.vm.findClass RL = some m.cls) (hts : ∀ w ∈ wsL_law, w.before #[Value.ref b] s = true) (hX : va_X b L xs s s.heap) (hbl : b < s.heap.size) (hbA : ¬ A b) (hA : ∀ q : Nat, s.heap.size ≤ q → A q) (hK : va_K (dC, dI) vwCl [(cI, .int), (cB, .byte)] s) (hE : xE tt [] A s s.heap) (a0 a1 a2 a3 a4 a5 a6 a7 a8 a9 g0 g1 g2 g3 g4 g5 g6 g7 g8 g9 g10 g11 g12 g13 : Nat) (i : Nat) (hi : i + 6 ≤ L) (hk : lwK p l e s m below meth c b dC dI cI cB A a0 a1 a2 a3 a4 a5 a6 a7 a8 a9 g0 g1 g2 g3 g4 g5 g6 g7 g8 g9 g10 g11 g12 g13 551 i) : lwK p l e s m below meth c b dC dI cI cB A a0 a1 a2 a3 a4 a5 a6 a7 a8 a9 g0 g1 g2 g3 g4 g5 g6 g7 g8 g9 g10 g11 g12 g13 472 i := by
  intro k ut tb tn sc hs rn wb ee we dr er pl un li ov vs ei dg wo pa ch fi H locs ls hsm htn hP hD hS hl
  have hP : va_P (dC, dI) vwCl (xW a0 a1 a2 a3 a4 a5 a6 a7 a8 a9 cI k ut tb tn sc hs rn (rvV rn vs) wb ee we ++ gW g0 g1 g2 g3 g4 g5 g6 g7 g8 g9 g10 g11 g12 g13 cI cB k dr er pl un li ov tb tn rn vs wb ee we ei dg wo pa ch fi) _ := hP
  have hD : va_D A (xW a0 a1 a2 a3 a4 a5 a6 a7 a8 a9 cI k ut tb tn sc hs rn (rvV rn vs) wb ee we ++ gW g0 g1 g2 g3 g4 g5 g6 g7 g8 g9 g10 g11 g12 g13 cI cB k dr er pl un li ov tb tn rn vs wb ee we ei dg wo pa ch fi) := hD
  have hl : lv_has ls 4 [(0, .ref b), (1, .ref a0), (2, .ref g0), (3, .int (nI i))] := hl
  refine lv_aload_n (pc := 472) hx hb dL_law_472 rfl (lv_at hl 1 rfl) ?_
  refine lv_aload_n (pc := 473) hx hb dL_law_473 rfl (lv_at hl 0 rfl) ?_
  refine lv_iload_n (pc := 474) hx hb dL_law_474 rfl (lv_at hl 3 rfl) ?_
  refine lv_iconst (pc := 475) (v := nI 1) hx hb dL_law_475 (by decide) ?_
  refine lv_iadd (pc := 476) hx hb dL_law_476 ?_
  refine lv_cv (nI_add i 1) ?_
  refine x_sld (pc := 477) (k := i + 1) hx hb hX hbl hbA hS (by omega) (by omega) dL_law_477 ?_
  refine lv_aload_n (pc := 478) hx hb dL_law_478 rfl (lv_at hl 0 rfl) ?_
  refine lv_iload_n (pc := 479) hx hb dL_law_479 rfl (lv_at hl 3 rfl) ?_
  refine lv_iconst (pc := 480) (v := nI 2) hx hb dL_law_480 (by decide) ?_
  refine lv_iadd (pc := 481) hx hb dL_law_481 ?_
  refine lv_cv (nI_add i 2) ?_
  refine x_sld (pc := 482) (k := i + 2) hx hb hX hbl hbA hS (by omega) (by omega) dL_law_482 ?_
  refine x_roi (pc := 483) (va_runV (As := [.int (xs (i + 1)), .int (xs (i + 2))]) (rest := []) ⟨hx, hb, hml, hown, hts⟩ (kX3_trailer l dC dI tt cI cB _ a0 a1 a2 a3 a4 a5 a6 a7 a8 a9 k ut tb tn sc hs rn (rvV rn vs) wb ee we (xs (i + 1)) (xs (i + 2)) ) (cwV 2 hts gL_law_X3_trailer rfl rfl rfl (by decide +kernel) ⟨Nat.le_of_ble_eq_true rfl, Nat.le_of_ble_eq_true rfl⟩) (x_preV hS hE hK hP hD [0, 1, 2, 3, 4, 5, 6, 7, 8, 9] rfl (by decide) (x_ro hS hA) xR0 3 0 rfl rfl) rfl rfl hl.1 rfl (lv_room (Nat.le_of_ble_eq_true rfl)) dL_law_483 ⟨Nat.le_of_ble_eq_true rfl, Nat.le_of_ble_eq_true rfl⟩) hS hA hP (fun r_1 H locs hr_1 hP hS => ?_)
  have h1 := hr_1
  refine lv_aload_n (pc := 486) hx hb dL_law_486 rfl (lv_at hl 2 rfl) ?_
  refine lv_aload_n (pc := 487) hx hb dL_law_487 rfl (lv_at hl 0 rfl) ?_
  refine lv_iload_n (pc := 488) hx hb dL_law_488 rfl (lv_at hl 3 rfl) ?_
  refine lv_iconst (pc := 489) (v := nI 1) hx hb dL_law_489 (by decide) ?_
  refine lv_iadd (pc := 490) hx hb dL_law_490 ?_
  refine lv_cv (nI_add i 1) ?_
  refine x_sld (pc := 491) (k := i + 1) hx hb hX hbl hbA hS (by omega) (by omega) dL_law_491 ?_
  refine lv_aload_n (pc := 492) hx hb dL_law_492 rfl (lv_at hl 0 rfl) ?_
  refine lv_iload_n (pc := 493) hx hb dL_law_493 rfl (lv_at hl 3 rfl) ?_
  refine lv_iconst (pc := 494) (v := nI 2) hx hb dL_law_494 (by decide) ?_
  refine lv_iadd (pc := 495) hx hb dL_law_495 ?_
  refine lv_cv (nI_add i 2) ?_
  refine x_sld (pc := 496) (k := i + 2) hx hb hX hbl hbA hS (by omega) (by omega) dL_law_496 ?_
  refine x_roi (pc := 497) (va_runV (As := [.int (xs (i + 1)), .int (xs (i + 2))]) (rest := [.int r_1]) ⟨hx, hb, hml, hown, hts⟩ (kX4_trailer l dC dI tt cI cB _ g0 g1 g2 g3 g4 g5 g6 g7 g8 g9 g10 g11 g12 g13 k dr er pl un li ov tb tn rn vs wb ee we ei dg wo pa ch fi (xs (i + 1)) (xs (i + 2)) ) (cwV 2 hts gL_law_X4_trailer rfl rfl rfl (by decide +kernel) ⟨Nat.le_of_ble_eq_true rfl, Nat.le_of_ble_eq_true rfl⟩) (x_preV hS hE hK hP hD [10, 11, 12, 13, 14, 15, 16, 17, 18, 19, 20, 21, 22, 23] rfl (by decide) (x_ro hS hA) xR0 4 10 rfl rfl) rfl rfl hl.1 rfl (lv_room (Nat.le_of_ble_eq_true rfl)) dL_law_497 ⟨Nat.le_of_ble_eq_true rfl, Nat.le_of_ble_eq_true rfl⟩) hS hA hP (fun r_2 H locs hr_2 hP hS => ?_)
  have h2 := hr_2
  refine lv_icmp_eq (pc := 500) (tgt := 551) hx hb dL_law_500 (by decide) (fun cc => ?_) (fun cc => ?_)
  · skip
    have hrr : r_1 = r_2 := h1.trans h2.symm
    exact hk k ut tb tn sc hs rn wb ee we dr er pl un li ov vs ei dg wo pa ch fi H locs ls hsm htn hP hD hS (lv_sub hl [0, 1, 2, 3] rfl)
  · skip
    have hrr : r_1 = r_2 := h1.trans h2.symm
    exact absurd hrr cc
set_option maxHeartbeats 4000000 in
set_option maxRecDepth 100000 in
theorem lw_c15 {p : Program} {e : Env} {s : State} {m : MethodId} {below : List Frame} {meth : Method} {c : Code} (l : Launch) {b L : Nat} {xs : Nat → Int32} {dC : Nat → ClassId} {dI : Nat → Nat → Nat} {tt : Nat → Nat} {cI cB : ClassId} {A : Nat → Prop} (hL : L ≤ 3072) (hx : p.tables.exec = Jvm.exec) (hb : c.code = cL_law) (hml : c.maxLocals = 4) (hown : s.vm.findClass RL = some m.cls) (hts : ∀ w ∈ wsL_law, w.before #[Value.ref b] s = true) (hX : va_X b L xs s s.heap) (hbl : b < s.heap.size) (hbA : ¬ A b) (hA : ∀ q : Nat, s.heap.size ≤ q → A q) (hK : va_K (dC, dI) vwCl [(cI, .int), (cB, .byte)] s) (hE : xE tt [] A s s.heap) (a0 a1 a2 a3 a4 a5 a6 a7 a8 a9 g0 g1 g2 g3 g4 g5 g6 g7 g8 g9 g10 g11 g12 g13 : Nat) (i : Nat) (hi : i + 6 ≤ L) (hk : lwK p l e s m below meth c b dC dI cI cB A a0 a1 a2 a3 a4 a5 a6 a7 a8 a9 g0 g1 g2 g3 g4 g5 g6 g7 g8 g9 g10 g11 g12 g13 551 i) : lwK p l e s m below meth c b dC dI cI cB A a0 a1 a2 a3 a4 a5 a6 a7 a8 a9 g0 g1 g2 g3 g4 g5 g6 g7 g8 g9 g10 g11 g12 g13 505 i := by
  intro k ut tb tn sc hs rn wb ee we dr er pl un li ov vs ei dg wo pa ch fi H locs ls hsm htn hP hD hS hl
  have hP : va_P (dC, dI) vwCl (xW a0 a1 a2 a3 a4 a5 a6 a7 a8 a9 cI k ut tb tn sc hs rn (rvV rn vs) wb ee we ++ gW g0 g1 g2 g3 g4 g5 g6 g7 g8 g9 g10 g11 g12 g13 cI cB k dr er pl un li ov tb tn rn vs wb ee we ei dg wo pa ch fi) _ := hP
  have hD : va_D A (xW a0 a1 a2 a3 a4 a5 a6 a7 a8 a9 cI k ut tb tn sc hs rn (rvV rn vs) wb ee we ++ gW g0 g1 g2 g3 g4 g5 g6 g7 g8 g9 g10 g11 g12 g13 cI cB k dr er pl un li ov tb tn rn vs wb ee we ei dg wo pa ch fi) := hD
  have hl : lv_has ls 4 [(0, .ref b), (1, .ref a0), (2, .ref g0), (3, .int (nI i))] := hl
  refine lv_aload_n (pc := 505) hx hb dL_law_505 rfl (lv_at hl 1 rfl) ?_
  refine lv_aload_n (pc := 506) hx hb dL_law_506 rfl (lv_at hl 0 rfl) ?_
  refine lv_iload_n (pc := 507) hx hb dL_law_507 rfl (lv_at hl 3 rfl) ?_
  refine lv_iconst (pc := 508) (v := nI 1) hx hb dL_law_508 (by decide) ?_
  refine lv_iadd (pc := 509) hx hb dL_law_509 ?_
  refine lv_cv (nI_add i 1) ?_
  refine x_sld (pc := 510) (k := i + 1) hx hb hX hbl hbA hS (by omega) (by omega) dL_law_510 ?_
  refine x_roi (pc := 511) (va_runV (As := [.int (xs (i + 1))]) (rest := []) ⟨hx, hb, hml, hown, hts⟩ (kX3_wear l dC dI tt cI cB _ a0 a1 a2 a3 a4 a5 a6 a7 a8 a9 k ut tb tn sc hs rn (rvV rn vs) wb ee we (xs (i + 1)) ) (cwV 1 hts gL_law_X3_wear rfl rfl rfl (by decide +kernel) ⟨Nat.le_of_ble_eq_true rfl, Nat.le_of_ble_eq_true rfl⟩) (x_preV hS hE hK hP hD [0, 1, 2, 3, 4, 5, 6, 7, 8, 9] rfl (by decide) (x_ro hS hA) xR0 3 0 rfl rfl) rfl rfl hl.1 rfl (lv_room (Nat.le_of_ble_eq_true rfl)) dL_law_511 ⟨Nat.le_of_ble_eq_true rfl, Nat.le_of_ble_eq_true rfl⟩) hS hA hP (fun r_1 H locs hr_1 hP hS => ?_)
  have h1 := hr_1
  refine lv_aload_n (pc := 514) hx hb dL_law_514 rfl (lv_at hl 2 rfl) ?_
  refine lv_aload_n (pc := 515) hx hb dL_law_515 rfl (lv_at hl 0 rfl) ?_
  refine lv_iload_n (pc := 516) hx hb dL_law_516 rfl (lv_at hl 3 rfl) ?_
  refine lv_iconst (pc := 517) (v := nI 1) hx hb dL_law_517 (by decide) ?_
  refine lv_iadd (pc := 518) hx hb dL_law_518 ?_
  refine lv_cv (nI_add i 1) ?_
  refine x_sld (pc := 519) (k := i + 1) hx hb hX hbl hbA hS (by omega) (by omega) dL_law_519 ?_
  refine x_roi (pc := 520) (va_runV (As := [.int (xs (i + 1))]) (rest := [.int r_1]) ⟨hx, hb, hml, hown, hts⟩ (kX4_wear l dC dI tt cI cB _ g0 g1 g2 g3 g4 g5 g6 g7 g8 g9 g10 g11 g12 g13 k dr er pl un li ov tb tn rn vs wb ee we ei dg wo pa ch fi (xs (i + 1)) ) (cwV 1 hts gL_law_X4_wear rfl rfl rfl (by decide +kernel) ⟨Nat.le_of_ble_eq_true rfl, Nat.le_of_ble_eq_true rfl⟩) (x_preV hS hE hK hP hD [10, 11, 12, 13, 14, 15, 16, 17, 18, 19, 20, 21, 22, 23] rfl (by decide) (x_ro hS hA) xR0 4 10 rfl rfl) rfl rfl hl.1 rfl (lv_room (Nat.le_of_ble_eq_true rfl)) dL_law_520 ⟨Nat.le_of_ble_eq_true rfl, Nat.le_of_ble_eq_true rfl⟩) hS hA hP (fun r_2 H locs hr_2 hP hS => ?_)
  have h2 := hr_2
  refine lv_icmp_eq (pc := 523) (tgt := 551) hx hb dL_law_523 (by decide) (fun cc => ?_) (fun cc => ?_)
  · skip
    have hrr : r_1 = r_2 := h1.trans h2.symm
    exact hk k ut tb tn sc hs rn wb ee we dr er pl un li ov vs ei dg wo pa ch fi H locs ls hsm htn hP hD hS (lv_sub hl [0, 1, 2, 3] rfl)
  · skip
    have hrr : r_1 = r_2 := h1.trans h2.symm
    exact absurd hrr cc
set_option maxHeartbeats 4000000 in
set_option maxRecDepth 100000 in
theorem lw_c16 {p : Program} {e : Env} {s : State} {m : MethodId} {below : List Frame} {meth : Method} {c : Code} (l : Launch) {b L : Nat} {xs : Nat → Int32} {dC : Nat → ClassId} {dI : Nat → Nat → Nat} {tt : Nat → Nat} {cI cB : ClassId} {A : Nat → Prop} (hL : L ≤ 3072) (hx : p.tables.exec = Jvm.exec) (hb : c.code = cL_law) (hml : c.maxLocals = 4) (hown : s.vm.findClass RL = some m.cls) (hts : ∀ w ∈ wsL_law, w.before #[Value.ref b] s = true) (hX : va_X b L xs s s.heap) (hbl : b < s.heap.size) (hbA : ¬ A b) (hA : ∀ q : Nat, s.heap.size ≤ q → A q) (hK : va_K (dC, dI) vwCl [(cI, .int), (cB, .byte)] s) (hE : xE tt [] A s s.heap) (a0 a1 a2 a3 a4 a5 a6 a7 a8 a9 g0 g1 g2 g3 g4 g5 g6 g7 g8 g9 g10 g11 g12 g13 : Nat) (i : Nat) (hi : i + 6 ≤ L) (hk : lwK p l e s m below meth c b dC dI cI cB A a0 a1 a2 a3 a4 a5 a6 a7 a8 a9 g0 g1 g2 g3 g4 g5 g6 g7 g8 g9 g10 g11 g12 g13 551 i) : lwK p l e s m below meth c b dC dI cI cB A a0 a1 a2 a3 a4 a5 a6 a7 a8 a9 g0 g1 g2 g3 g4 g5 g6 g7 g8 g9 g10 g11 g12 g13 528 i := by
  intro k ut tb tn sc hs rn wb ee we dr er pl un li ov vs ei dg wo pa ch fi H locs ls hsm htn hP hD hS hl
  have hP : va_P (dC, dI) vwCl (xW a0 a1 a2 a3 a4 a5 a6 a7 a8 a9 cI k ut tb tn sc hs rn (rvV rn vs) wb ee we ++ gW g0 g1 g2 g3 g4 g5 g6 g7 g8 g9 g10 g11 g12 g13 cI cB k dr er pl un li ov tb tn rn vs wb ee we ei dg wo pa ch fi) _ := hP
  have hD : va_D A (xW a0 a1 a2 a3 a4 a5 a6 a7 a8 a9 cI k ut tb tn sc hs rn (rvV rn vs) wb ee we ++ gW g0 g1 g2 g3 g4 g5 g6 g7 g8 g9 g10 g11 g12 g13 cI cB k dr er pl un li ov tb tn rn vs wb ee we ei dg wo pa ch fi) := hD
  have hl : lv_has ls 4 [(0, .ref b), (1, .ref a0), (2, .ref g0), (3, .int (nI i))] := hl
  refine lv_aload_n (pc := 528) hx hb dL_law_528 rfl (lv_at hl 1 rfl) ?_
  refine lv_aload_n (pc := 529) hx hb dL_law_529 rfl (lv_at hl 0 rfl) ?_
  refine lv_iload_n (pc := 530) hx hb dL_law_530 rfl (lv_at hl 3 rfl) ?_
  refine lv_iconst (pc := 531) (v := nI 1) hx hb dL_law_531 (by decide) ?_
  refine lv_iadd (pc := 532) hx hb dL_law_532 ?_
  refine lv_cv (nI_add i 1) ?_
  refine x_sld (pc := 533) (k := i + 1) hx hb hX hbl hbA hS (by omega) (by omega) dL_law_533 ?_
  refine x_roi (pc := 534) (va_runV (As := [.int (xs (i + 1))]) (rest := []) ⟨hx, hb, hml, hown, hts⟩ (kX3_look l dC dI tt cI cB _ a0 a1 a2 a3 a4 a5 a6 a7 a8 a9 k ut tb tn sc hs rn (rvV rn vs) wb ee we (xs (i + 1)) ) (cwV 1 hts gL_law_X3_look rfl rfl rfl (by decide +kernel) ⟨Nat.le_of_ble_eq_true rfl, Nat.le_of_ble_eq_true rfl⟩) (x_preV hS hE hK hP hD [0, 1, 2, 3, 4, 5, 6, 7, 8, 9] rfl (by decide) (x_ro hS hA) xR0 3 0 rfl rfl) rfl rfl hl.1 rfl (lv_room (Nat.le_of_ble_eq_true rfl)) dL_law_534 ⟨Nat.le_of_ble_eq_true rfl, Nat.le_of_ble_eq_true rfl⟩) hS hA hP (fun r_1 H locs hr_1 hP hS => ?_)
  have h1 := hr_1
  refine lv_aload_n (pc := 537) hx hb dL_law_537 rfl (lv_at hl 2 rfl) ?_
  refine lv_aload_n (pc := 538) hx hb dL_law_538 rfl (lv_at hl 0 rfl) ?_
  refine lv_iload_n (pc := 539) hx hb dL_law_539 rfl (lv_at hl 3 rfl) ?_
  refine lv_iconst (pc := 540) (v := nI 1) hx hb dL_law_540 (by decide) ?_
  refine lv_iadd (pc := 541) hx hb dL_law_541 ?_
  refine lv_cv (nI_add i 1) ?_
  refine x_sld (pc := 542) (k := i + 1) hx hb hX hbl hbA hS (by omega) (by omega) dL_law_542 ?_
  refine x_roi (pc := 543) (va_runV (As := [.int (xs (i + 1))]) (rest := [.int r_1]) ⟨hx, hb, hml, hown, hts⟩ (kX4_look l dC dI tt cI cB _ g0 g1 g2 g3 g4 g5 g6 g7 g8 g9 g10 g11 g12 g13 k dr er pl un li ov tb tn rn vs wb ee we ei dg wo pa ch fi (xs (i + 1)) ) (cwV 1 hts gL_law_X4_look rfl rfl rfl (by decide +kernel) ⟨Nat.le_of_ble_eq_true rfl, Nat.le_of_ble_eq_true rfl⟩) (x_preV hS hE hK hP hD [10, 11, 12, 13, 14, 15, 16, 17, 18, 19, 20, 21, 22, 23] rfl (by decide) (x_ro hS hA) xR0 4 10 rfl rfl) rfl rfl hl.1 rfl (lv_room (Nat.le_of_ble_eq_true rfl)) dL_law_543 ⟨Nat.le_of_ble_eq_true rfl, Nat.le_of_ble_eq_true rfl⟩) hS hA hP (fun r_2 H locs hr_2 hP hS => ?_)
  have h2 := hr_2
  refine lv_icmp_eq (pc := 546) (tgt := 551) hx hb dL_law_546 (by decide) (fun cc => ?_) (fun cc => ?_)
  · skip
    have hrr : r_1 = r_2 := h1.trans h2.symm
    exact hk k ut tb tn sc hs rn wb ee we dr er pl un li ov vs ei dg wo pa ch fi H locs ls hsm htn hP hD hS (lv_sub hl [0, 1, 2, 3] rfl)
  · skip
    have hrr : r_1 = r_2 := h1.trans h2.symm
    exact absurd hrr cc
