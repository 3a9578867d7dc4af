set_option maxHeartbeats 4000000 in
set_option maxRecDepth 100000 in
theorem kX3_init (l : Launch) (dC : Nat → ClassId) (dI : Nat → Nat → Nat) (tt : Nat → Nat) (cI cB : ClassId) (sz : Nat) (a0 : Nat) : Met l yX3_init wsX3_init { frames := 2, cells := 9, slots := 3944, locals := 33 } (xP (dC, dI) [(cI, .int), (cB, .byte)] tt [] (va_A [(a0, .inr (3, [.null, .null, .null, .int 0, .int 0, .int 0, .int 0, .int 0]))] sz) sz [(a0, .inr (3, [.null, .null, .null, .int 0, .int 0, .int 0, .int 0, .int 0]))] [.ref a0]) (va_Qv (fun u : (Nat × Nat × Nat × Nat × Nat × Nat × Nat × Nat × Nat) => True) (xB (dC, dI) [(cI, .int), (cB, .byte)] (va_A [(a0, .inr (3, [.null, .null, .null, .int 0, .int 0, .int 0, .int 0, .int 0]))] sz) (fun u : (Nat × Nat × Nat × Nat × Nat × Nat × Nat × Nat × Nat) => xW a0 u.1 u.2.1 u.2.2.1 u.2.2.2.1 u.2.2.2.2.1 u.2.2.2.2.2.1 u.2.2.2.2.2.2.1 u.2.2.2.2.2.2.2.1 u.2.2.2.2.2.2.2.2 cI K00 (fun _ => 0) (fun _ => 0) 0 (fun _ => 0) (fun _ => 0) false 0 0 0 0)) (va_A [(a0, .inr (3, [.null, .null, .null, .int 0, .int 0, .int 0, .int 0, .int 0]))] sz)) 9 3944 (va_A [(a0, .inr (3, [.null, .null, .null, .int 0, .int 0, .int 0, .int 0, .int 0]))] sz) := by
  refine Met.ofW (cc := cX3_init) (maxL := 1) (ret := none) (by decide) rfl ?_
  intro p e s m args below meth c s₁ B hml hv
  obtain ⟨rfl, hsz, hP, hK, hD0, hE⟩ := hv
  have hx := B.exec
  have hb := B.bytes
  have hr := B.returns
  have hts := atoms_spec (ws := wsX3_init) B.pre
  have hown : s.vm.findClass RX3 = some m.cls := findClass_of_methodNamed B.named
  have hlocks := B.notSynchronized
  subst hsz
  have hD := hD0.self (sz := s.heap.size)
  generalize hAe : va_A ([(a0, .inr (3, [.null, .null, .null, .int 0, .int 0, .int 0, .int 0, .int 0]))]) s.heap.size = A at hD hE ⊢
  have hA : ∀ q : Nat, s.heap.size ≤ q → A q := fun q h => by rw [← hAe]; exact Or.inr h
  have hS : va_S A s.heap s.heap [] := va_S.rf
  have hl := lv_entry ([.ref a0]) (n := 1) (Nat.le_of_ble_eq_true rfl)
  rw [lg_entry_eq]
  generalize (lg_sl ([.ref a0]) ++ List.replicate (1 - (lg_sl ([.ref a0])).length) Slot.unset).toArray = ls at hl ⊢
  have hl : lv_has ls 1 [(0, .ref a0)] := hl
  have hP : va_P (dC, dI) vwCl ([(a0, .inr (3, [.null, .null, .null, .int 0, .int 0, .int 0, .int 0, .int 0]))]) s.heap := hP
  have hin : meth.name = "<init>" := (name_of_methodNamed B.named B.method).1
  refine lv_aload_n (pc := 0) hx hb dX3_init_0 rfl (lv_at hl 0 rfl) ?_
  refine W.objInit hx hb hown (hts (.methodLink RX3 3 objectInit) (by decide +kernel)) (hts (.instanceMethod objectInit) (by decide +kernel)) (hts (.code objectInit ⟨#[0xb1]⟩ 1 none) (by decide +kernel)) rfl (by rw [hml]; exact hl.1) rfl dX3_init_1 (Nat.le_of_ble_eq_true rfl) (Nat.le_of_ble_eq_true rfl) ?_
  refine W.eq (g2 := F0 m 4 ls []) rfl ?_
  refine lv_aload_n (pc := 4) hx hb dX3_init_4 rfl (lv_at hl 0 rfl) ?_
  refine va_new (pc := 5) (ci := 0) (fs := [.null, .null, .null, .int 0, .int 0, .int 0, .int 0, .int 0, .int 0]) (C := RX0) (T := TX0) (N := 9) hx hb hts (by decide +kernel) tyX0 tyX0_ok hown (hts (.classLink RX3 9 RX0) (by decide +kernel)) (hts (.instantiable RX0 9) (by decide +kernel)) (hts (.initialized RX0) (by decide +kernel)) hK hP hD hS hA rfl (fun j hj => by rcases (show j = 0 ∨ j = 1 ∨ j = 2 ∨ j = 3 ∨ j = 4 ∨ j = 5 ∨ j = 6 ∨ j = 7 ∨ j = 8 by omega) with rfl | rfl | rfl | rfl | rfl | rfl | rfl | rfl | rfl <;> rfl) (Nat.le_of_ble_eq_true rfl) (Nat.le_of_ble_eq_true rfl) dX3_init_5 (fun q1 H hP hD hS => ?_)
  have hP : va_P (dC, dI) vwCl ([(a0, .inr (3, [.null, .null, .null, .int 0, .int 0, .int 0, .int 0, .int 0]))] ++ [(q1, .inr (0, [.null, .null, .null, .int 0, .int 0, .int 0, .int 0, .int 0, .int 0]))]) _ := hP
  have hD : va_D A ([(a0, .inr (3, [.null, .null, .null, .int 0, .int 0, .int 0, .int 0, .int 0]))] ++ [(q1, .inr (0, [.null, .null, .null, .int 0, .int 0, .int 0, .int 0, .int 0, .int 0]))]) := hD
  refine lv_dup (pc := 8) hx hb dX3_init_8 rfl ?_
  refine x_wrv (pc := 9) (va_runIN (As := []) (rest := [.ref q1, .ref a0]) ⟨hx, hb, hml, hown, hts⟩ (kX0_init l dC dI tt cI cB _ q1) (⟨va_cnB 0 hts gX3_init_X0_init_n11 rfl rfl rfl (hE.m 0 (q := (RX3, 11, yX0_init, "ScratchSwap")) rfl) (hts (.initialized RX0) (by decide +kernel)) (by decide +kernel) ⟨Nat.le_of_ble_eq_true rfl, Nat.le_of_ble_eq_true rfl⟩, rfl, hts (.instanceMethod yX0_init) (by decide +kernel)⟩) (x_preS (As := [.ref q1]) hS hE hK hP hD [1] rfl (by decide) (va_free hD hS hA [1] rfl) xR0) rfl rfl hl.1 rfl (lv_room (Nat.le_of_ble_eq_true rfl)) dX3_init_9 ⟨Nat.le_of_ble_eq_true rfl, Nat.le_of_ble_eq_true rfl⟩) hS hA hP hD [1] [0] rfl rfl (by decide) (by decide) (fun u_q1 H locs _ hP hD hS => ?_)
  obtain ⟨b2, b3, b4⟩ := u_q1
  have hP : va_P (dC, dI) vwCl ([(a0, .inr (3, [.null, .null, .null, .int 0, .int 0, .int 0, .int 0, .int 0]))] ++ mW q1 b2 b3 b4 cI K00 (fun _ => 0)) _ := hP
  have hD : va_D A ([(a0, .inr (3, [.null, .null, .null, .int 0, .int 0, .int 0, .int 0, .int 0]))] ++ mW q1 b2 b3 b4 cI K00 (fun _ => 0)) := hD
  refine va_putF (pc := 12) (D := (dC, dI)) (ci := 3) (v := .ref q1) (ty := .object "ScratchSwap$Memory") (C := RX3) (T := TX3) (N := 8) hx hb hts (by decide +kernel) tyX3 tyX3_ok nmX3 hown hK hP hD hS 0 rfl rfl 0 (by decide) (hts (.fieldLink RX3 12 "ScratchSwap" "memory" "LScratchSwap$Memory;") (by decide +kernel)) (fun _ h9 => h9) rfl hin rfl (by decide +kernel) rfl rfl (Nat.le_of_ble_eq_true rfl) dX3_init_12 (fun H locs hP hD hS => ?_)
  have hP : va_P (dC, dI) vwCl ([(a0, .inr (3, [.ref q1, .null, .null, .int 0, .int 0, .int 0, .int 0, .int 0]))] ++ mW q1 b2 b3 b4 cI K00 (fun _ => 0)) _ := hP
  have hD : va_D A ([(a0, .inr (3, [.ref q1, .null, .null, .int 0, .int 0, .int 0, .int 0, .int 0]))] ++ mW q1 b2 b3 b4 cI K00 (fun _ => 0)) := hD
  refine lv_aload_n (pc := 15) hx hb dX3_init_15 rfl (lv_at hl 0 rfl) ?_
  refine va_new (pc := 16) (ci := 2) (fs := [.null, .int 0]) (C := RX2) (T := TX2) (N := 2) hx hb hts (by decide +kernel) tyX2 tyX2_ok hown (hts (.classLink RX3 16 RX2) (by decide +kernel)) (hts (.instantiable RX2 2) (by decide +kernel)) (hts (.initialized RX2) (by decide +kernel)) hK hP hD hS hA rfl (fun j hj => by rcases (show j = 0 ∨ j = 1 by omega) with rfl | rfl <;> rfl) (Nat.le_of_ble_eq_true rfl) (Nat.le_of_ble_eq_true rfl) dX3_init_16 (fun q5 H hP hD hS => ?_)
  have hP : va_P (dC, dI) vwCl ([(a0, .inr (3, [.ref q1, .null, .null, .int 0, .int 0, .int 0, .int 0, .int 0]))] ++ mW q1 b2 b3 b4 cI K00 (fun _ => 0) ++ [(q5, .inr (2, [.null, .int 0]))]) _ := hP
  have hD : va_D A ([(a0, .inr (3, [.ref q1, .null, .null, .int 0, .int 0, .int 0, .int 0, .int 0]))] ++ mW q1 b2 b3 b4 cI K00 (fun _ => 0) ++ [(q5, .inr (2, [.null, .int 0]))]) := hD
  refine lv_dup (pc := 19) hx hb dX3_init_19 rfl ?_
  refine x_wrv (pc := 20) (va_runIN (As := []) (rest := [.ref q5, .ref a0]) ⟨hx, hb, hml, hown, hts⟩ (kX2_init l dC dI tt cI cB _ q5) (⟨va_cnB 0 hts gX3_init_X2_init_n18 rfl rfl rfl (hE.m 1 (q := (RX3, 18, yX2_init, "ScratchSwap")) rfl) (hts (.initialized RX2) (by decide +kernel)) (by decide +kernel) ⟨Nat.le_of_ble_eq_true rfl, Nat.le_of_ble_eq_true rfl⟩, rfl, hts (.instanceMethod yX2_init) (by decide +kernel)⟩) (x_preS (As := [.ref q5]) hS hE hK hP hD [5] rfl (by decide) (va_free hD hS hA [5] rfl) xR0) rfl rfl hl.1 rfl (lv_room (Nat.le_of_ble_eq_true rfl)) dX3_init_20 ⟨Nat.le_of_ble_eq_true rfl, Nat.le_of_ble_eq_true rfl⟩) hS hA hP hD [5] [0, 1, 2, 3, 4] rfl rfl (by decide) (by decide) (fun u_q5 H locs _ hP hD hS => ?_)
  obtain ⟨b6, eb6⟩ : ∃ z, z = u_q5 := ⟨_, rfl⟩
  rw [← eb6] at hP hD
  have hP : va_P (dC, dI) vwCl ([(a0, .inr (3, [.ref q1, .null, .null, .int 0, .int 0, .int 0, .int 0, .int 0]))] ++ mW q1 b2 b3 b4 cI K00 (fun _ => 0) ++ tW q5 b6 cI (fun _ => 0) 0) _ := hP
  have hD : va_D A ([(a0, .inr (3, [.ref q1, .null, .null, .int 0, .int 0, .int 0, .int 0, .int 0]))] ++ mW q1 b2 b3 b4 cI K00 (fun _ => 0) ++ tW q5 b6 cI (fun _ => 0) 0) := hD
  refine va_putF (pc := 23) (D := (dC, dI)) (ci := 3) (v := .ref q5) (ty := .object "ScratchSwap$Tape") (C := RX3) (T := TX3) (N := 8) hx hb hts (by decide +kernel) tyX3 tyX3_ok nmX3 hown hK hP hD hS 0 rfl rfl 1 (by decide) (hts (.fieldLink RX3 19 "ScratchSwap" "tape" "LScratchSwap$Tape;") (by decide +kernel)) (fun _ h9 => h9) rfl hin rfl (by decide +kernel) rfl rfl (Nat.le_of_ble_eq_true rfl) dX3_init_23 (fun H locs hP hD hS => ?_)
  have hP : va_P (dC, dI) vwCl ([(a0, .inr (3, [.ref q1, .ref q5, .null, .int 0, .int 0, .int 0, .int 0, .int 0]))] ++ mW q1 b2 b3 b4 cI K00 (fun _ => 0) ++ tW q5 b6 cI (fun _ => 0) 0) _ := hP
  have hD : va_D A ([(a0, .inr (3, [.ref q1, .ref q5, .null, .int 0, .int 0, .int 0, .int 0, .int 0]))] ++ mW q1 b2 b3 b4 cI K00 (fun _ => 0) ++ tW q5 b6 cI (fun _ => 0) 0) := hD
  refine lv_aload_n (pc := 26) hx hb dX3_init_26 rfl (lv_at hl 0 rfl) ?_
  refine va_new (pc := 27) (ci := 1) (fs := [.null, .null]) (C := RX1) (T := TX1) (N := 2) hx hb hts (by decide +kernel) tyX1 tyX1_ok hown (hts (.classLink RX3 23 RX1) (by decide +kernel)) (hts (.instantiable RX1 2) (by decide +kernel)) (hts (.initialized RX1) (by decide +kernel)) hK hP hD hS hA rfl (fun j hj => by rcases (show j = 0 ∨ j = 1 by omega) with rfl | rfl <;> rfl) (Nat.le_of_ble_eq_true rfl) (Nat.le_of_ble_eq_true rfl) dX3_init_27 (fun q7 H hP hD hS => ?_)
  have hP : va_P (dC, dI) vwCl ([(a0, .inr (3, [.ref q1, .ref q5, .null, .int 0, .int 0, .int 0, .int 0, .int 0]))] ++ mW q1 b2 b3 b4 cI K00 (fun _ => 0) ++ tW q5 b6 cI (fun _ => 0) 0 ++ [(q7, .inr (1, [.null, .null]))]) _ := hP
  have hD : va_D A ([(a0, .inr (3, [.ref q1, .ref q5, .null, .int 0, .int 0, .int 0, .int 0, .int 0]))] ++ mW q1 b2 b3 b4 cI K00 (fun _ => 0) ++ tW q5 b6 cI (fun _ => 0) 0 ++ [(q7, .inr (1, [.null, .null]))]) := hD
  refine lv_dup (pc := 30) hx hb dX3_init_30 rfl ?_
  refine x_wrv (pc := 31) (va_runIN (As := []) (rest := [.ref q7, .ref a0]) ⟨hx, hb, hml, hown, hts⟩ (kX1_init l dC dI tt cI cB _ q7) (⟨va_cnB 0 hts gX3_init_X1_init_n25 rfl rfl rfl (hE.m 2 (q := (RX3, 25, yX1_init, "ScratchSwap")) rfl) (hts (.initialized RX1) (by decide +kernel)) (by decide +kernel) ⟨Nat.le_of_ble_eq_true rfl, Nat.le_of_ble_eq_true rfl⟩, rfl, hts (.instanceMethod yX1_init) (by decide +kernel)⟩) (x_preS (As := [.ref q7]) hS hE hK hP hD [7] rfl (by decide) (va_free hD hS hA [7] rfl) xR0) rfl rfl hl.1 rfl (lv_room (Nat.le_of_ble_eq_true rfl)) dX3_init_31 ⟨Nat.le_of_ble_eq_true rfl, Nat.le_of_ble_eq_true rfl⟩) hS hA hP hD [7] [0, 1, 2, 3, 4, 5, 6] rfl rfl (by decide) (by decide) (fun u_q7 H locs _ hP hD hS => ?_)
  obtain ⟨b8_, b9_⟩ := u_q7
  have hP : va_P (dC, dI) vwCl ([(a0, .inr (3, [.ref q1, .ref q5, .null, .int 0, .int 0, .int 0, .int 0, .int 0]))] ++ mW q1 b2 b3 b4 cI K00 (fun _ => 0) ++ tW q5 b6 cI (fun _ => 0) 0 ++ sW q7 b8_ b9_ cI (fun _ => 0) (fun _ => 0)) _ := hP
  have hD : va_D A ([(a0, .inr (3, [.ref q1, .ref q5, .null, .int 0, .int 0, .int 0, .int 0, .int 0]))] ++ mW q1 b2 b3 b4 cI K00 (fun _ => 0) ++ tW q5 b6 cI (fun _ => 0) 0 ++ sW q7 b8_ b9_ cI (fun _ => 0) (fun _ => 0)) := hD
  refine va_putF (pc := 34) (D := (dC, dI)) (ci := 3) (v := .ref q7) (ty := .object "ScratchSwap$Sha256") (C := RX3) (T := TX3) (N := 8) hx hb hts (by decide +kernel) tyX3 tyX3_ok nmX3 hown hK hP hD hS 0 rfl rfl 2 (by decide) (hts (.fieldLink RX3 26 "ScratchSwap" "sha" "LScratchSwap$Sha256;") (by decide +kernel)) (fun _ h9 => h9) rfl hin rfl (by decide +kernel) rfl rfl (Nat.le_of_ble_eq_true rfl) dX3_init_34 (fun H locs hP hD hS => ?_)
  have hP : va_P (dC, dI) vwCl ([(a0, .inr (3, [.ref q1, .ref q5, .ref q7, .int 0, .int 0, .int 0, .int 0, .int 0]))] ++ mW q1 b2 b3 b4 cI K00 (fun _ => 0) ++ tW q5 b6 cI (fun _ => 0) 0 ++ sW q7 b8_ b9_ cI (fun _ => 0) (fun _ => 0)) _ := hP
  have hD : va_D A ([(a0, .inr (3, [.ref q1, .ref q5, .ref q7, .int 0, .int 0, .int 0, .int 0, .int 0]))] ++ mW q1 b2 b3 b4 cI K00 (fun _ => 0) ++ tW q5 b6 cI (fun _ => 0) 0 ++ sW q7 b8_ b9_ cI (fun _ => 0) (fun _ => 0)) := hD
  have hP : va_P (dC, dI) vwCl (xW a0 q1 b2 b3 b4 q5 b6 q7 b8_ b9_ cI K00 (fun _ => 0) (fun _ => 0) 0 (fun _ => 0) (fun _ => 0) false 0 0 0 0) _ := hP
  have hD : va_D A (xW a0 q1 b2 b3 b4 q5 b6 q7 b8_ b9_ cI K00 (fun _ => 0) (fun _ => 0) 0 (fun _ => 0) (fun _ => 0) false 0 0 0 0) := hD
  refine lv_aload_n (pc := 37) hx hb dX3_init_37 rfl (lv_at hl 0 rfl) ?_
  refine lv_iconst (pc := 38) (v := nI 0) hx hb dX3_init_38 (by decide) ?_
  refine lv_cv (show nI 0 = bI false from rfl) ?_
  refine va_put (pc := 39) (D := (dC, dI)) (ci := 3) (v := .int (bI false)) (ty := .boolean) (C := RX3) (T := TX3) (N := 8) hx hb hts (by decide +kernel) tyX3 tyX3_ok nmX3 hown hK hP hD hS 0 rfl rfl 3 (by decide) (hts (.fieldLink RX3 30 "ScratchSwap" "runs" "Z") (by decide +kernel)) (fun _ h9 => h9) rfl (by decide +kernel) (nbI false) (fbI false) (Nat.le_of_ble_eq_true rfl) dX3_init_39 (fun H locs hP hD hS => ?_)
  have hP : va_P (dC, dI) vwCl (xW a0 q1 b2 b3 b4 q5 b6 q7 b8_ b9_ cI K00 (fun _ => 0) (fun _ => 0) 0 (fun _ => 0) (fun _ => 0) false 0 0 0 0) _ := hP
  have hD : va_D A (xW a0 q1 b2 b3 b4 q5 b6 q7 b8_ b9_ cI K00 (fun _ => 0) (fun _ => 0) 0 (fun _ => 0) (fun _ => 0) false 0 0 0 0) := hD
  refine lv_aload_n (pc := 42) hx hb dX3_init_42 rfl (lv_at hl 0 rfl) ?_
  refine lv_iconst (pc := 43) (v := nI 0) hx hb dX3_init_43 (by decide) ?_
  refine va_put (pc := 44) (D := (dC, dI)) (ci := 3) (v := .int (nI 0)) (ty := .int) (C := RX3) (T := TX3) (N := 8) hx hb hts (by decide +kernel) tyX3 tyX3_ok nmX3 hown hK hP hD hS 0 rfl rfl 4 (by decide) (hts (.fieldLink RX3 34 "ScratchSwap" "runningVersion" "I") (by decide +kernel)) (fun _ h9 => h9) rfl (by decide +kernel) rfl rfl (Nat.le_of_ble_eq_true rfl) dX3_init_44 (fun H locs hP hD hS => ?_)
  have hP : va_P (dC, dI) vwCl (xW a0 q1 b2 b3 b4 q5 b6 q7 b8_ b9_ cI K00 (fun _ => 0) (fun _ => 0) 0 (fun _ => 0) (fun _ => 0) false (nI 0) 0 0 0) _ := hP
  have hD : va_D A (xW a0 q1 b2 b3 b4 q5 b6 q7 b8_ b9_ cI K00 (fun _ => 0) (fun _ => 0) 0 (fun _ => 0) (fun _ => 0) false (nI 0) 0 0 0) := hD
  refine lv_aload_n (pc := 47) hx hb dX3_init_47 rfl (lv_at hl 0 rfl) ?_
  refine lv_iconst (pc := 48) (v := nI 0) hx hb dX3_init_48 (by decide) ?_
  refine va_put (pc := 49) (D := (dC, dI)) (ci := 3) (v := .int (nI 0)) (ty := .int) (C := RX3) (T := TX3) (N := 8) hx hb hts (by decide +kernel) tyX3 tyX3_ok nmX3 hown hK hP hD hS 0 rfl rfl 5 (by decide) (hts (.fieldLink RX3 38 "ScratchSwap" "wholeBoots" "I") (by decide +kernel)) (fun _ h9 => h9) rfl (by decide +kernel) rfl rfl (Nat.le_of_ble_eq_true rfl) dX3_init_49 (fun H locs hP hD hS => ?_)
  have hP : va_P (dC, dI) vwCl (xW a0 q1 b2 b3 b4 q5 b6 q7 b8_ b9_ cI K00 (fun _ => 0) (fun _ => 0) 0 (fun _ => 0) (fun _ => 0) false (nI 0) (nI 0) 0 0) _ := hP
  have hD : va_D A (xW a0 q1 b2 b3 b4 q5 b6 q7 b8_ b9_ cI K00 (fun _ => 0) (fun _ => 0) 0 (fun _ => 0) (fun _ => 0) false (nI 0) (nI 0) 0 0) := hD
  refine lv_aload_n (pc := 52) hx hb dX3_init_52 rfl (lv_at hl 0 rfl) ?_
  refine lv_iconst (pc := 53) (v := nI 0) hx hb dX3_init_53 (by decide) ?_
  refine va_put (pc := 54) (D := (dC, dI)) (ci := 3) (v := .int (nI 0)) (ty := .int) (C := RX3) (T := TX3) (N := 8) hx hb hts (by decide +kernel) tyX3 tyX3_ok nmX3 hown hK hP hD hS 0 rfl rfl 6 (by decide) (hts (.fieldLink RX3 41 "ScratchSwap" "exchangesEnded" "I") (by decide +kernel)) (fun _ h9 => h9) rfl (by decide +kernel) rfl rfl (Nat.le_of_ble_eq_true rfl) dX3_init_54 (fun H locs hP hD hS => ?_)
  have hP : va_P (dC, dI) vwCl (xW a0 q1 b2 b3 b4 q5 b6 q7 b8_ b9_ cI K00 (fun _ => 0) (fun _ => 0) 0 (fun _ => 0) (fun _ => 0) false (nI 0) (nI 0) (nI 0) 0) _ := hP
  have hD : va_D A (xW a0 q1 b2 b3 b4 q5 b6 q7 b8_ b9_ cI K00 (fun _ => 0) (fun _ => 0) 0 (fun _ => 0) (fun _ => 0) false (nI 0) (nI 0) (nI 0) 0) := hD
  refine lv_aload_n (pc := 57) hx hb dX3_init_57 rfl (lv_at hl 0 rfl) ?_
  refine lv_iconst (pc := 58) (v := nI 0) hx hb dX3_init_58 (by decide) ?_
  refine va_put (pc := 59) (D := (dC, dI)) (ci := 3) (v := .int (nI 0)) (ty := .int) (C := RX3) (T := TX3) (N := 8) hx hb hts (by decide +kernel) tyX3 tyX3_ok nmX3 hown hK hP hD hS 0 rfl rfl 7 (by decide) (hts (.fieldLink RX3 44 "ScratchSwap" "wrongsErased" "I") (by decide +kernel)) (fun _ h9 => h9) rfl (by decide +kernel) rfl rfl (Nat.le_of_ble_eq_true rfl) dX3_init_59 (fun H locs hP hD hS => ?_)
  have hP : va_P (dC, dI) vwCl (xW a0 q1 b2 b3 b4 q5 b6 q7 b8_ b9_ cI K00 (fun _ => 0) (fun _ => 0) 0 (fun _ => 0) (fun _ => 0) false (nI 0) (nI 0) (nI 0) (nI 0)) _ := hP
  have hD : va_D A (xW a0 q1 b2 b3 b4 q5 b6 q7 b8_ b9_ cI K00 (fun _ => 0) (fun _ => 0) 0 (fun _ => 0) (fun _ => 0) false (nI 0) (nI 0) (nI 0) (nI 0)) := hD
  exact W.vret hx hb hr (fun t ht hW => ⟨⟨(q1, b2, b3, b4, q5, b6, q7, b8_, b9_), rfl, trivial, by show va_P _ _ _ t.heap; rw [ht]; exact hP, va_K.moved hW.alike hK, hD⟩, hS.F ht⟩) hS.2.2 dX3_init_62
