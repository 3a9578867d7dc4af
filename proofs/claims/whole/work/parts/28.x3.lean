set_option maxHeartbeats 4000000 in
set_option maxRecDepth 100000 in
theorem kX3_end (l : Launch) (dC : Nat → ClassId) (dI : Nat → Nat → Nat) (tt : Nat → Nat) (cI cB : ClassId) (sz : Nat) (a0 a1 a2 a3 a4 a5 a6 a7 a8 a9 : Nat) (k : K0) (ut : Nat → Int32) (tb : Nat → Int8) (tn : Nat) (sc hs : Nat → Int32) (rn : Bool) (rv wb ee we : Int32) (x : Int32) (htn : tn ≤ 1024) : MetI (S := Nat) l yX3_end wsX3_end { frames := 0, cells := 0, slots := 0, locals := 0 } (dC, dI) [(cI, .int), (cB, .byte)] tt [] sz (xW a0 a1 a2 a3 a4 a5 a6 a7 a8 a9 cI k ut tb tn sc hs rn rv wb ee we) [.ref a0, .int x] (fun u : Nat => xW a0 a1 a2 a3 a4 a5 a6 a7 a8 a9 cI k ut tb u sc hs rn rv wb ee we) (fun r u => r = bI (endB tn x) ∧ u = if endB tn x = true then x.toNatClampNeg else tn) := by
  refine Met.ofW (cc := cX3_end) (maxL := 2) (ret := (some .boolean)) (by decide) rfl ?_
  intro p e s m args below meth c s₁ B hml hv
  obtain ⟨rfl, hsz, hP, hK, hD0, hE⟩ := hv
  have hx := B.exec
  have hb := B.bytes
  have hr := B.returns
  have hts := atoms_spec (ws := wsX3_end) B.pre
  have hown : s.vm.findClass RX3 = some m.cls := findClass_of_methodNamed B.named
  have hlocks := B.notSynchronized
  subst hsz
  have hD := hD0.self (sz := s.heap.size)
  generalize hAe : va_A (xW a0 a1 a2 a3 a4 a5 a6 a7 a8 a9 cI k ut tb tn sc hs rn rv wb ee we) s.heap.size = A at hD hE ⊢
  have hA : ∀ q : Nat, s.heap.size ≤ q → A q := fun q h => by rw [← hAe]; exact Or.inr h
  have hS : va_S A s.heap s.heap [] := va_S.rf
  have hl := lv_entry ([.ref a0, .int x]) (n := 2) (Nat.le_of_ble_eq_true rfl)
  rw [lg_entry_eq]
  generalize (lg_sl ([.ref a0, .int x]) ++ List.replicate (2 - (lg_sl ([.ref a0, .int x])).length) Slot.unset).toArray = ls at hl ⊢
  have hl : lv_has ls 2 [(0, .ref a0), (1, .int x)] := hl
  have hP : va_P (dC, dI) vwCl (xW a0 a1 a2 a3 a4 a5 a6 a7 a8 a9 cI k ut tb tn sc hs rn rv wb ee we) s.heap := hP
  refine lv_iload_n (pc := 0) hx hb dX3_end_0 rfl (lv_at hl 1 rfl) ?_
  refine lv_if_lt (pc := 1) (tgt := 15) hx hb dX3_end_1 (by decide) (fun c1 => ?_) (fun c1 => ?_)
  · skip
    refine lv_iconst (pc := 15) (v := nI 0) hx hb dX3_end_15 (by decide) ?_
    exact W.zret (v := nI 0) hx hb hr rfl (fun t ht hW => ⟨⟨nI 0, tn, rfl, ⟨by rw [show endB tn x = false from decide_eq_false (fun z => by first | exact z.1 c1 | exact c2 z.2)]; rfl, by rw [show endB tn x = false from decide_eq_false (fun z => by first | exact z.1 c1 | exact c2 z.2)]; rfl⟩, by show va_P _ _ _ t.heap; rw [ht]; exact hP, va_K.moved hW.alike hK, hD⟩, hS.F ht⟩) hS.2.2 dX3_end_16
  · skip
    refine lv_iload_n (pc := 4) hx hb dX3_end_4 rfl (lv_at hl 1 rfl) ?_
    refine lv_aload_n (pc := 5) hx hb dX3_end_5 rfl (lv_at hl 0 rfl) ?_
    refine va_get (pc := 6) (D := (dC, dI)) (ci := 3) (v := .ref a5) (C := RX3) (T := TX3) (N := 8) hx hb hts (by decide +kernel) hown hK hP 0 rfl rfl 1 (by decide) (hts (.fieldLink RX3 19 "ScratchSwap" "tape" "LScratchSwap$Tape;") (by decide +kernel)) (fun _ h9 => h9) rfl dX3_end_6 ?_
    refine va_getN (pc := 9) (D := (dC, dI)) (ci := 2) (v := .int (nI tn)) (C := RX2) (T := TX2) (N := 2) hx hb hts (by decide +kernel) hown hK hP 5 rfl rfl 1 (by decide) (hE.f 6 (q := (RX3, 47, "ScratchSwap$Tape", "count", "I", "ScratchSwap")) rfl) (fun _ h9 => h9) rfl dX3_end_9 ?_
    refine lv_icmp_le (pc := 12) (tgt := 17) hx hb dX3_end_12 (by decide) (fun c2 => ?_) (fun c2 => ?_)
    · skip
      obtain ⟨n, hn, en⟩ := nI_of2 (n := tn) (nI_toInt (by omega)) c1 c2
      rw [en] at hl
      have hcl : x.toNatClampNeg = n := by rw [en]; exact nI_clamp (by omega)
      refine lv_aload_n (pc := 17) hx hb dX3_end_17 rfl (lv_at hl 0 rfl) ?_
      refine va_get (pc := 18) (D := (dC, dI)) (ci := 3) (v := .ref a5) (C := RX3) (T := TX3) (N := 8) hx hb hts (by decide +kernel) hown hK hP 0 rfl rfl 1 (by decide) (hts (.fieldLink RX3 19 "ScratchSwap" "tape" "LScratchSwap$Tape;") (by decide +kernel)) (fun _ h9 => h9) rfl dX3_end_18 ?_
      refine lv_iload_n (pc := 21) hx hb dX3_end_21 rfl (lv_at hl 1 rfl) ?_
      refine va_putN (pc := 22) (D := (dC, dI)) (ci := 2) (v := .int (nI n)) (ty := .int) (C := RX2) (T := TX2) (N := 2) hx hb hts (by decide +kernel) tyX2 tyX2_ok nmX2 hown hK hP hD hS 5 rfl rfl 1 (by decide) (hE.f 6 (q := (RX3, 47, "ScratchSwap$Tape", "count", "I", "ScratchSwap")) rfl) (fun _ h9 => h9) rfl (by decide +kernel) rfl rfl (Nat.le_of_ble_eq_true rfl) dX3_end_22 (fun H locs hP hD hS => ?_)
      have hP : va_P (dC, dI) vwCl (xW a0 a1 a2 a3 a4 a5 a6 a7 a8 a9 cI k ut tb n sc hs rn rv wb ee we) _ := hP
      have hD : va_D A (xW a0 a1 a2 a3 a4 a5 a6 a7 a8 a9 cI k ut tb n sc hs rn rv wb ee we) := hD
      refine lv_iconst (pc := 25) (v := nI 1) hx hb dX3_end_25 (by decide) ?_
      exact W.zret (v := nI 1) hx hb hr rfl (fun t ht hW => ⟨⟨nI 1, n, rfl, ⟨by rw [show endB tn x = true from decide_eq_true ⟨c1, c2⟩]; rfl, by rw [show endB tn x = true from decide_eq_true ⟨c1, c2⟩, if_pos rfl, hcl]⟩, by show va_P _ _ _ t.heap; rw [ht]; exact hP, va_K.moved hW.alike hK, hD⟩, hS.F ht⟩) hS.2.2 dX3_end_26
    · skip
      refine lv_iconst (pc := 15) (v := nI 0) hx hb dX3_end_15 (by decide) ?_
      exact W.zret (v := nI 0) hx hb hr rfl (fun t ht hW => ⟨⟨nI 0, tn, rfl, ⟨by rw [show endB tn x = false from decide_eq_false (fun z => by first | exact z.1 c1 | exact c2 z.2)]; rfl, by rw [show endB tn x = false from decide_eq_false (fun z => by first | exact z.1 c1 | exact c2 z.2)]; rfl⟩, by show va_P _ _ _ t.heap; rw [ht]; exact hP, va_K.moved hW.alike hK, hD⟩, hS.F ht⟩) hS.2.2 dX3_end_16
set_option maxHeartbeats 4000000 in
set_option maxRecDepth 100000 in
theorem kX3_feed (l : Launch) (dC : Nat → ClassId) (dI : Nat → Nat → Nat) (tt : Nat → Nat) (cI cB : ClassId) (sz : Nat) (a0 a1 a2 a3 a4 a5 a6 a7 a8 a9 : Nat) (k : K0) (ut : Nat → Int32) (tb : Nat → Int8) (tn : Nat) (sc hs : Nat → Int32) (rn : Bool) (rv wb ee we : Int32) (v1 v2 v3 v4 v5 : Int32) (htn : tn ≤ 1024) : MetI (S := ((Nat → Int8) × Nat)) l yX3_feed wsX3_feed { frames := 2, cells := 0, slots := 0, locals := 42 } (dC, dI) [(cI, .int), (cB, .byte)] tt [] sz (xW a0 a1 a2 a3 a4 a5 a6 a7 a8 a9 cI k ut tb tn sc hs rn rv wb ee we) [.ref a0, .int v1, .int v2, .int v3, .int v4, .int v5] (fun u : ((Nat → Int8) × Nat) => xW a0 a1 a2 a3 a4 a5 a6 a7 a8 a9 cI k ut u.1 u.2 sc hs rn rv wb ee we) (fun r u => if tn + 20 ≤ 1024 then (r = nI (tn + 20) ∧ u = (feedT tb tn v1 v2 v3 v4 v5, tn + 20)) else (r = -1 ∧ u = (tb, tn))) := by
  refine Met.ofW (cc := cX3_feed) (maxL := 6) (ret := (some .int)) (by decide) rfl ?_
  intro p e s m args below meth c s₁ B hml hv
  obtain ⟨rfl, hsz, hP, hK, hD0, hE⟩ := hv
  have hx := B.exec
  have hb := B.bytes
  have hr := B.returns
  have hts := atoms_spec (ws := wsX3_feed) B.pre
  have hown : s.vm.findClass RX3 = some m.cls := findClass_of_methodNamed B.named
  have hlocks := B.notSynchronized
  subst hsz
  have hD := hD0.self (sz := s.heap.size)
  generalize hAe : va_A (xW a0 a1 a2 a3 a4 a5 a6 a7 a8 a9 cI k ut tb tn sc hs rn rv wb ee we) s.heap.size = A at hD hE ⊢
  have hA : ∀ q : Nat, s.heap.size ≤ q → A q := fun q h => by rw [← hAe]; exact Or.inr h
  have hS : va_S A s.heap s.heap [] := va_S.rf
  have hl := lv_entry ([.ref a0, .int v1, .int v2, .int v3, .int v4, .int v5]) (n := 6) (Nat.le_of_ble_eq_true rfl)
  rw [lg_entry_eq]
  generalize (lg_sl ([.ref a0, .int v1, .int v2, .int v3, .int v4, .int v5]) ++ List.replicate (6 - (lg_sl ([.ref a0, .int v1, .int v2, .int v3, .int v4, .int v5])).length) Slot.unset).toArray = ls at hl ⊢
  have hl : lv_has ls 6 [(0, .ref a0), (1, .int v1), (2, .int v2), (3, .int v3), (4, .int v4), (5, .int v5)] := hl
  have hP : va_P (dC, dI) vwCl (xW a0 a1 a2 a3 a4 a5 a6 a7 a8 a9 cI k ut tb tn sc hs rn rv wb ee we) s.heap := hP
  refine lv_aload_n (pc := 0) hx hb dX3_feed_0 rfl (lv_at hl 0 rfl) ?_
  refine va_get (pc := 1) (D := (dC, dI)) (ci := 3) (v := .ref a5) (C := RX3) (T := TX3) (N := 8) hx hb hts (by decide +kernel) hown hK hP 0 rfl rfl 1 (by decide) (hts (.fieldLink RX3 19 "ScratchSwap" "tape" "LScratchSwap$Tape;") (by decide +kernel)) (fun _ h9 => h9) rfl dX3_feed_1 ?_
  refine va_getN (pc := 4) (D := (dC, dI)) (ci := 2) (v := .int (nI tn)) (C := RX2) (T := TX2) (N := 2) hx hb hts (by decide +kernel) hown hK hP 5 rfl rfl 1 (by decide) (hE.f 6 (q := (RX3, 47, "ScratchSwap$Tape", "count", "I", "ScratchSwap")) rfl) (fun _ h9 => h9) rfl dX3_feed_4 ?_
  refine lv_bipush (pc := 7) (v := nI 20) hx hb dX3_feed_7 (by decide) ?_
  refine lv_iadd (pc := 9) hx hb dX3_feed_9 ?_
  refine lv_cv (nI_add tn 20) ?_
  refine lv_sipush (pc := 10) (v := nI 1024) hx hb dX3_feed_10 (by decide) ?_
  refine lv_icmp_le (pc := 13) (tgt := 18) hx hb dX3_feed_13 (by decide) (fun c1 => ?_) (fun c1 => ?_)
  · skip
    have c1 : (tn + 20) ≤ 1024 := (nI_leI (a := (tn + 20)) (b := 1024) (by omega) (by omega)).mp c1
    refine lv_aload_n (pc := 18) hx hb dX3_feed_18 rfl (lv_at hl 0 rfl) ?_
    refine va_get (pc := 19) (D := (dC, dI)) (ci := 3) (v := .ref a5) (C := RX3) (T := TX3) (N := 8) hx hb hts (by decide +kernel) hown hK hP 0 rfl rfl 1 (by decide) (hts (.fieldLink RX3 19 "ScratchSwap" "tape" "LScratchSwap$Tape;") (by decide +kernel)) (fun _ h9 => h9) rfl dX3_feed_19 ?_
    refine lv_iload_n (pc := 22) hx hb dX3_feed_22 rfl (lv_at hl 1 rfl) ?_
    refine x_wrv (pc := 23) (va_runVN (As := [.int v1]) (rest := []) ⟨hx, hb, hml, hown, hts⟩ (kX2_addHighestFirst l dC dI tt cI cB _ a5 a6 tb tn v1 (by omega)) (⟨va_cnB 1 hts gX3_feed_X2_addHighestFirst_n50 rfl rfl rfl (hE.m 3 (q := (RX3, 50, yX2_addHighestFirst, "ScratchSwap")) rfl) (hts (.initialized RX2) (by decide +kernel)) (by decide +kernel) ⟨Nat.le_of_ble_eq_true rfl, Nat.le_of_ble_eq_true rfl⟩, hts (.instanceMethod yX2_addHighestFirst) (by decide +kernel), hts (.selects RX2 yX2_addHighestFirst yX2_addHighestFirst) (by decide +kernel)⟩) (x_preV hS hE hK hP hD [5, 6] rfl (by decide) (va_free hD hS hA [5, 6] rfl) xR0 2 5 rfl rfl) rfl rfl hl.1 rfl (lv_room (Nat.le_of_ble_eq_true rfl)) dX3_feed_23 ⟨Nat.le_of_ble_eq_true rfl, Nat.le_of_ble_eq_true rfl⟩) hS hA hP hD [5, 6] [0, 1, 2, 3, 4, 7, 8, 9] rfl rfl (by decide) (by decide) (fun u_1 H locs hu_1 hP hD hS => ?_)
    subst hu_1
    have hP := hP.sub (ws' := xW a0 a1 a2 a3 a4 a5 a6 a7 a8 a9 cI k ut (hiT tb tn v1) (tn + 4) sc hs rn rv wb ee we) [0, 1, 2, 3, 4, 8, 9, 5, 6, 7] rfl
    have hD := hD.sub (ws' := xW a0 a1 a2 a3 a4 a5 a6 a7 a8 a9 cI k ut (hiT tb tn v1) (tn + 4) sc hs rn rv wb ee we) [0, 1, 2, 3, 4, 8, 9, 5, 6, 7] (by decide) rfl
    refine lv_aload_n (pc := 26) hx hb dX3_feed_26 rfl (lv_at hl 0 rfl) ?_
    refine va_get (pc := 27) (D := (dC, dI)) (ci := 3) (v := .ref a5) (C := RX3) (T := TX3) (N := 8) hx hb hts (by decide +kernel) hown hK hP 0 rfl rfl 1 (by decide) (hts (.fieldLink RX3 19 "ScratchSwap" "tape" "LScratchSwap$Tape;") (by decide +kernel)) (fun _ h9 => h9) rfl dX3_feed_27 ?_
    refine lv_iload_n (pc := 30) hx hb dX3_feed_30 rfl (lv_at hl 2 rfl) ?_
    refine x_wrv (pc := 31) (va_runVN (As := [.int v2]) (rest := []) ⟨hx, hb, hml, hown, hts⟩ (kX2_addHighestFirst l dC dI tt cI cB _ a5 a6 (hiT tb tn v1) (tn + 4) v2 (by omega)) (⟨va_cnB 1 hts gX3_feed_X2_addHighestFirst_n50 rfl rfl rfl (hE.m 3 (q := (RX3, 50, yX2_addHighestFirst, "ScratchSwap")) rfl) (hts (.initialized RX2) (by decide +kernel)) (by decide +kernel) ⟨Nat.le_of_ble_eq_true rfl, Nat.le_of_ble_eq_true rfl⟩, hts (.instanceMethod yX2_addHighestFirst) (by decide +kernel), hts (.selects RX2 yX2_addHighestFirst yX2_addHighestFirst) (by decide +kernel)⟩) (x_preV hS hE hK hP hD [5, 6] rfl (by decide) (va_free hD hS hA [5, 6] rfl) xR0 2 5 rfl rfl) rfl rfl hl.1 rfl (lv_room (Nat.le_of_ble_eq_true rfl)) dX3_feed_31 ⟨Nat.le_of_ble_eq_true rfl, Nat.le_of_ble_eq_true rfl⟩) hS hA hP hD [5, 6] [0, 1, 2, 3, 4, 7, 8, 9] rfl rfl (by decide) (by decide) (fun u_2 H locs hu_2 hP hD hS => ?_)
    subst hu_2
    have hP := hP.sub (ws' := xW a0 a1 a2 a3 a4 a5 a6 a7 a8 a9 cI k ut (hiT (hiT tb tn v1) (tn + 4) v2) ((tn + 4) + 4) sc hs rn rv wb ee we) [0, 1, 2, 3, 4, 8, 9, 5, 6, 7] rfl
    have hD := hD.sub (ws' := xW a0 a1 a2 a3 a4 a5 a6 a7 a8 a9 cI k ut (hiT (hiT tb tn v1) (tn + 4) v2) ((tn + 4) + 4) sc hs rn rv wb ee we) [0, 1, 2, 3, 4, 8, 9, 5, 6, 7] (by decide) rfl
    refine lv_aload_n (pc := 34) hx hb dX3_feed_34 rfl (lv_at hl 0 rfl) ?_
    refine va_get (pc := 35) (D := (dC, dI)) (ci := 3) (v := .ref a5) (C := RX3) (T := TX3) (N := 8) hx hb hts (by decide +kernel) hown hK hP 0 rfl rfl 1 (by decide) (hts (.fieldLink RX3 19 "ScratchSwap" "tape" "LScratchSwap$Tape;") (by decide +kernel)) (fun _ h9 => h9) rfl dX3_feed_35 ?_
    refine lv_iload_n (pc := 38) hx hb dX3_feed_38 rfl (lv_at hl 3 rfl) ?_
    refine x_wrv (pc := 39) (va_runVN (As := [.int v3]) (rest := []) ⟨hx, hb, hml, hown, hts⟩ (kX2_addHighestFirst l dC dI tt cI cB _ a5 a6 (hiT (hiT tb tn v1) (tn + 4) v2) ((tn + 4) + 4) v3 (by omega)) (⟨va_cnB 1 hts gX3_feed_X2_addHighestFirst_n50 rfl rfl rfl (hE.m 3 (q := (RX3, 50, yX2_addHighestFirst, "ScratchSwap")) rfl) (hts (.initialized RX2) (by decide +kernel)) (by decide +kernel) ⟨Nat.le_of_ble_eq_true rfl, Nat.le_of_ble_eq_true rfl⟩, hts (.instanceMethod yX2_addHighestFirst) (by decide +kernel), hts (.selects RX2 yX2_addHighestFirst yX2_addHighestFirst) (by decide +kernel)⟩) (x_preV hS hE hK hP hD [5, 6] rfl (by decide) (va_free hD hS hA [5, 6] rfl) xR0 2 5 rfl rfl) rfl rfl hl.1 rfl (lv_room (Nat.le_of_ble_eq_true rfl)) dX3_feed_39 ⟨Nat.le_of_ble_eq_true rfl, Nat.le_of_ble_eq_true rfl⟩) hS hA hP hD [5, 6] [0, 1, 2, 3, 4, 7, 8, 9] rfl rfl (by decide) (by decide) (fun u_3 H locs hu_3 hP hD hS => ?_)
    subst hu_3
    have hP := hP.sub (ws' := xW a0 a1 a2 a3 a4 a5 a6 a7 a8 a9 cI k ut (hiT (hiT (hiT tb tn v1) (tn + 4) v2) ((tn + 4) + 4) v3) (((tn + 4) + 4) + 4) sc hs rn rv wb ee we) [0, 1, 2, 3, 4, 8, 9, 5, 6, 7] rfl
    have hD := hD.sub (ws' := xW a0 a1 a2 a3 a4 a5 a6 a7 a8 a9 cI k ut (hiT (hiT (hiT tb tn v1) (tn + 4) v2) ((tn + 4) + 4) v3) (((tn + 4) + 4) + 4) sc hs rn rv wb ee we) [0, 1, 2, 3, 4, 8, 9, 5, 6, 7] (by decide) rfl
    refine lv_aload_n (pc := 42) hx hb dX3_feed_42 rfl (lv_at hl 0 rfl) ?_
    refine va_get (pc := 43) (D := (dC, dI)) (ci := 3) (v := .ref a5) (C := RX3) (T := TX3) (N := 8) hx hb hts (by decide +kernel) hown hK hP 0 rfl rfl 1 (by decide) (hts (.fieldLink RX3 19 "ScratchSwap" "tape" "LScratchSwap$Tape;") (by decide +kernel)) (fun _ h9 => h9) rfl dX3_feed_43 ?_
    refine lv_iload (pc := 46) hx hb dX3_feed_46 (lv_at hl 4 rfl) ?_
    refine x_wrv (pc := 48) (va_runVN (As := [.int v4]) (rest := []) ⟨hx, hb, hml, hown, hts⟩ (kX2_addHighestFirst l dC dI tt cI cB _ a5 a6 (hiT (hiT (hiT tb tn v1) (tn + 4) v2) ((tn + 4) + 4) v3) (((tn + 4) + 4) + 4) v4 (by omega)) (⟨va_cnB 1 hts gX3_feed_X2_addHighestFirst_n50 rfl rfl rfl (hE.m 3 (q := (RX3, 50, yX2_addHighestFirst, "ScratchSwap")) rfl) (hts (.initialized RX2) (by decide +kernel)) (by decide +kernel) ⟨Nat.le_of_ble_eq_true rfl, Nat.le_of_ble_eq_true rfl⟩, hts (.instanceMethod yX2_addHighestFirst) (by decide +kernel), hts (.selects RX2 yX2_addHighestFirst yX2_addHighestFirst) (by decide +kernel)⟩) (x_preV hS hE hK hP hD [5, 6] rfl (by decide) (va_free hD hS hA [5, 6] rfl) xR0 2 5 rfl rfl) rfl rfl hl.1 rfl (lv_room (Nat.le_of_ble_eq_true rfl)) dX3_feed_48 ⟨Nat.le_of_ble_eq_true rfl, Nat.le_of_ble_eq_true rfl⟩) hS hA hP hD [5, 6] [0, 1, 2, 3, 4, 7, 8, 9] rfl rfl (by decide) (by decide) (fun u_4 H locs hu_4 hP hD hS => ?_)
    subst hu_4
    have hP := hP.sub (ws' := xW a0 a1 a2 a3 a4 a5 a6 a7 a8 a9 cI k ut (hiT (hiT (hiT (hiT tb tn v1) (tn + 4) v2) ((tn + 4) + 4) v3) (((tn + 4) + 4) + 4) v4) ((((tn + 4) + 4) + 4) + 4) sc hs rn rv wb ee we) [0, 1, 2, 3, 4, 8, 9, 5, 6, 7] rfl
    have hD := hD.sub (ws' := xW a0 a1 a2 a3 a4 a5 a6 a7 a8 a9 cI k ut (hiT (hiT (hiT (hiT tb tn v1) (tn + 4) v2) ((tn + 4) + 4) v3) (((tn + 4) + 4) + 4) v4) ((((tn + 4) + 4) + 4) + 4) sc hs rn rv wb ee we) [0, 1, 2, 3, 4, 8, 9, 5, 6, 7] (by decide) rfl
    refine lv_aload_n (pc := 51) hx hb dX3_feed_51 rfl (lv_at hl 0 rfl) ?_
    refine va_get (pc := 52) (D := (dC, dI)) (ci := 3) (v := .ref a5) (C := RX3) (T := TX3) (N := 8) hx hb hts (by decide +kernel) hown hK hP 0 rfl rfl 1 (by decide) (hts (.fieldLink RX3 19 "ScratchSwap" "tape" "LScratchSwap$Tape;") (by decide +kernel)) (fun _ h9 => h9) rfl dX3_feed_52 ?_
    refine lv_iload (pc := 55) hx hb dX3_feed_55 (lv_at hl 5 rfl) ?_
    refine x_wrv (pc := 57) (va_runVN (As := [.int v5]) (rest := []) ⟨hx, hb, hml, hown, hts⟩ (kX2_addHighestFirst l dC dI tt cI cB _ a5 a6 (hiT (hiT (hiT (hiT tb tn v1) (tn + 4) v2) ((tn + 4) + 4) v3) (((tn + 4) + 4) + 4) v4) ((((tn + 4) + 4) + 4) + 4) v5 (by omega)) (⟨va_cnB 1 hts gX3_feed_X2_addHighestFirst_n50 rfl rfl rfl (hE.m 3 (q := (RX3, 50, yX2_addHighestFirst, "ScratchSwap")) rfl) (hts (.initialized RX2) (by decide +kernel)) (by decide +kernel) ⟨Nat.le_of_ble_eq_true rfl, Nat.le_of_ble_eq_true rfl⟩, hts (.instanceMethod yX2_addHighestFirst) (by decide +kernel), hts (.selects RX2 yX2_addHighestFirst yX2_addHighestFirst) (by decide +kernel)⟩) (x_preV hS hE hK hP hD [5, 6] rfl (by decide) (va_free hD hS hA [5, 6] rfl) xR0 2 5 rfl rfl) rfl rfl hl.1 rfl (lv_room (Nat.le_of_ble_eq_true rfl)) dX3_feed_57 ⟨Nat.le_of_ble_eq_true rfl, Nat.le_of_ble_eq_true rfl⟩) hS hA hP hD [5, 6] [0, 1, 2, 3, 4, 7, 8, 9] rfl rfl (by decide) (by decide) (fun u_5 H locs hu_5 hP hD hS => ?_)
    subst hu_5
    have hP := hP.sub (ws' := xW a0 a1 a2 a3 a4 a5 a6 a7 a8 a9 cI k ut (hiT (hiT (hiT (hiT (hiT tb tn v1) (tn + 4) v2) ((tn + 4) + 4) v3) (((tn + 4) + 4) + 4) v4) ((((tn + 4) + 4) + 4) + 4) v5) (((((tn + 4) + 4) + 4) + 4) + 4) sc hs rn rv wb ee we) [0, 1, 2, 3, 4, 8, 9, 5, 6, 7] rfl
    have hD := hD.sub (ws' := xW a0 a1 a2 a3 a4 a5 a6 a7 a8 a9 cI k ut (hiT (hiT (hiT (hiT (hiT tb tn v1) (tn + 4) v2) ((tn + 4) + 4) v3) (((tn + 4) + 4) + 4) v4) ((((tn + 4) + 4) + 4) + 4) v5) (((((tn + 4) + 4) + 4) + 4) + 4) sc hs rn rv wb ee we) [0, 1, 2, 3, 4, 8, 9, 5, 6, 7] (by decide) rfl
    refine lv_aload_n (pc := 60) hx hb dX3_feed_60 rfl (lv_at hl 0 rfl) ?_
    refine va_get (pc := 61) (D := (dC, dI)) (ci := 3) (v := .ref a5) (C := RX3) (T := TX3) (N := 8) hx hb hts (by decide +kernel) hown hK hP 0 rfl rfl 1 (by decide) (hts (.fieldLink RX3 19 "ScratchSwap" "tape" "LScratchSwap$Tape;") (by decide +kernel)) (fun _ h9 => h9) rfl dX3_feed_61 ?_
    refine va_getN (pc := 64) (D := (dC, dI)) (ci := 2) (v := .int (nI (((((tn + 4) + 4) + 4) + 4) + 4))) (C := RX2) (T := TX2) (N := 2) hx hb hts (by decide +kernel) hown hK hP 5 rfl rfl 1 (by decide) (hE.f 6 (q := (RX3, 47, "ScratchSwap$Tape", "count", "I", "ScratchSwap")) rfl) (fun _ h9 => h9) rfl dX3_feed_64 ?_
    exact W.iret (v := nI (((((tn + 4) + 4) + 4) + 4) + 4)) hx hb hr (fun t ht hW => ⟨⟨nI (((((tn + 4) + 4) + 4) + 4) + 4), (hiT (hiT (hiT (hiT (hiT tb tn v1) (tn + 4) v2) ((tn + 4) + 4) v3) (((tn + 4) + 4) + 4) v4) ((((tn + 4) + 4) + 4) + 4) v5, ((((tn + 4) + 4) + 4) + 4) + 4), rfl, by show ite (tn + 20 ≤ 1024) _ _; rw [if_pos (by omega)]; exact ⟨rfl, rfl⟩, by show va_P _ _ _ t.heap; rw [ht]; exact hP, va_K.moved hW.alike hK, hD⟩, hS.F ht⟩) hS.2.2 dX3_feed_67
  · skip
    have c1 : ¬ (tn + 20) ≤ 1024 := fun z => c1 ((nI_leI (a := (tn + 20)) (b := 1024) (by omega) (by omega)).mpr z)
    refine lv_iconst (pc := 16) (v := (-1)) hx hb dX3_feed_16 (by decide) ?_
    exact W.iret (v := (-1)) hx hb hr (fun t ht hW => ⟨⟨(-1), (tb, tn), rfl, by show ite (tn + 20 ≤ 1024) _ _; rw [if_neg (by omega)]; exact ⟨rfl, rfl⟩, by show va_P _ _ _ t.heap; rw [ht]; exact hP, va_K.moved hW.alike hK, hD⟩, hS.F ht⟩) hS.2.2 dX3_feed_17
set_option maxHeartbeats 4000000 in
set_option maxRecDepth 100000 in
theorem kX3_pack (l : Launch) (dC : Nat → ClassId) (dI : Nat → Nat → Nat) (tt : Nat → Nat) (cI cB : ClassId) (sz : Nat) (a0 a1 a2 a3 a4 a5 a6 a7 a8 a9 : Nat) (k : K0) (ut : Nat → Int32) (tb : Nat → Int8) (tn : Nat) (sc hs : Nat → Int32) (rn : Bool) (rv wb ee we : Int32) (v : Int32) (htn : tn ≤ 1024) : MetI (S := ((Nat → Int8) × Nat × (Nat → Int32) × (Nat → Int32))) l yX3_pack wsX3_pack { frames := 4, cells := 0, slots := 0, locals := 104 } (dC, dI) [(cI, .int), (cB, .byte)] tt [] sz (xW a0 a1 a2 a3 a4 a5 a6 a7 a8 a9 cI k ut tb tn sc hs rn rv wb ee we) [.ref a0, .int v] (fun u : ((Nat → Int8) × Nat × (Nat → Int32) × (Nat → Int32)) => xW a0 a1 a2 a3 a4 a5 a6 a7 a8 a9 cI k ut u.1 u.2.1 u.2.2.1 u.2.2.2 rn rv wb ee we) (fun r u => if tn ≤ 984 then (r = nI (tn + 40) ∧ u.1 = imgT tb tn v ∧ u.2.1 = tn + 40) else (r = -1 ∧ u.1 = tb ∧ u.2.1 = tn)) := by
  refine Met.ofW (cc := cX3_pack) (maxL := 2) (ret := (some .int)) (by decide) rfl ?_
  intro p e s m args below meth c s₁ B hml hv
  obtain ⟨rfl, hsz, hP, hK, hD0, hE⟩ := hv
  have hx := B.exec
  have hb := B.bytes
  have hr := B.returns
  have hts := atoms_spec (ws := wsX3_pack) B.pre
  have hown : s.vm.findClass RX3 = some m.cls := findClass_of_methodNamed B.named
  have hlocks := B.notSynchronized
  subst hsz
  have hD := hD0.self (sz := s.heap.size)
  generalize hAe : va_A (xW a0 a1 a2 a3 a4 a5 a6 a7 a8 a9 cI k ut tb tn sc hs rn rv wb ee we) s.heap.size = A at hD hE ⊢
  have hA : ∀ q : Nat, s.heap.size ≤ q → A q := fun q h => by rw [← hAe]; exact Or.inr h
  have hS : va_S A s.heap s.heap [] := va_S.rf
  have hl := lv_entry ([.ref a0, .int v]) (n := 2) (Nat.le_of_ble_eq_true rfl)
  rw [lg_entry_eq]
  generalize (lg_sl ([.ref a0, .int v]) ++ List.replicate (2 - (lg_sl ([.ref a0, .int v])).length) Slot.unset).toArray = ls at hl ⊢
  have hl : lv_has ls 2 [(0, .ref a0), (1, .int v)] := hl
  have hP : va_P (dC, dI) vwCl (xW a0 a1 a2 a3 a4 a5 a6 a7 a8 a9 cI k ut tb tn sc hs rn rv wb ee we) s.heap := hP
  refine lv_aload_n (pc := 0) hx hb dX3_pack_0 rfl (lv_at hl 0 rfl) ?_
  refine va_get (pc := 1) (D := (dC, dI)) (ci := 3) (v := .ref a5) (C := RX3) (T := TX3) (N := 8) hx hb hts (by decide +kernel) hown hK hP 0 rfl rfl 1 (by decide) (hts (.fieldLink RX3 19 "ScratchSwap" "tape" "LScratchSwap$Tape;") (by decide +kernel)) (fun _ h9 => h9) rfl dX3_pack_1 ?_
  refine va_getN (pc := 4) (D := (dC, dI)) (ci := 2) (v := .int (nI tn)) (C := RX2) (T := TX2) (N := 2) hx hb hts (by decide +kernel) hown hK hP 5 rfl rfl 1 (by decide) (hE.f 6 (q := (RX3, 47, "ScratchSwap$Tape", "count", "I", "ScratchSwap")) rfl) (fun _ h9 => h9) rfl dX3_pack_4 ?_
  refine lv_sipush (pc := 7) (v := nI 984) hx hb dX3_pack_7 (by decide) ?_
  refine lv_icmp_le (pc := 10) (tgt := 15) hx hb dX3_pack_10 (by decide) (fun c1 => ?_) (fun c1 => ?_)
  · skip
    have c1 : tn ≤ 984 := (nI_leI (a := tn) (b := 984) (by omega) (by omega)).mp c1
    refine lv_aload_n (pc := 15) hx hb dX3_pack_15 rfl (lv_at hl 0 rfl) ?_
    refine va_get (pc := 16) (D := (dC, dI)) (ci := 3) (v := .ref a5) (C := RX3) (T := TX3) (N := 8) hx hb hts (by decide +kernel) hown hK hP 0 rfl rfl 1 (by decide) (hts (.fieldLink RX3 19 "ScratchSwap" "tape" "LScratchSwap$Tape;") (by decide +kernel)) (fun _ h9 => h9) rfl dX3_pack_16 ?_
    refine lv_iload_n (pc := 19) hx hb dX3_pack_19 rfl (lv_at hl 1 rfl) ?_
    refine lv_aload_n (pc := 20) hx hb dX3_pack_20 rfl (lv_at hl 0 rfl) ?_
    refine va_get (pc := 21) (D := (dC, dI)) (ci := 3) (v := .ref a7) (C := RX3) (T := TX3) (N := 8) hx hb hts (by decide +kernel) hown hK hP 0 rfl rfl 2 (by decide) (hts (.fieldLink RX3 26 "ScratchSwap" "sha" "LScratchSwap$Sha256;") (by decide +kernel)) (fun _ h9 => h9) rfl dX3_pack_21 ?_
    refine x_wrv (pc := 24) (va_runVN (As := [.int v, .ref a7]) (rest := []) ⟨hx, hb, hml, hown, hts⟩ (kX2_becomeImage l dC dI tt cI cB _ a5 a6 a7 a8 a9 tb tn sc hs v (by omega)) (⟨va_cnB 2 hts gX3_pack_X2_becomeImage_n54 rfl rfl rfl (hE.m 4 (q := (RX3, 54, yX2_becomeImage, "ScratchSwap")) rfl) (hts (.initialized RX2) (by decide +kernel)) (by decide +kernel) ⟨Nat.le_of_ble_eq_true rfl, Nat.le_of_ble_eq_true rfl⟩, hts (.instanceMethod yX2_becomeImage) (by decide +kernel), hts (.selects RX2 yX2_becomeImage yX2_becomeImage) (by decide +kernel)⟩) (x_preV hS hE hK hP hD [5, 6, 7, 8, 9] rfl (by decide) (va_free hD hS hA [5, 6, 7, 8, 9] rfl) xR0 2 5 rfl rfl) rfl rfl hl.1 rfl (lv_room (Nat.le_of_ble_eq_true rfl)) dX3_pack_24 ⟨Nat.le_of_ble_eq_true rfl, Nat.le_of_ble_eq_true rfl⟩) hS hA hP hD [5, 6, 7, 8, 9] [0, 1, 2, 3, 4] rfl rfl (by decide) (by decide) (fun u_1 H locs hu_1 hP hD hS => ?_)
    obtain ⟨tb_2, tn_3, sc_4, hs_5⟩ := u_1
    obtain ⟨g1, g2⟩ : tb_2 = imgT tb tn v ∧ tn_3 = tn + 40 := hu_1
    have hP := hP.sub (ws' := xW a0 a1 a2 a3 a4 a5 a6 a7 a8 a9 cI k ut tb_2 tn_3 sc_4 hs_5 rn rv wb ee we) [0, 1, 2, 3, 4, 5, 6, 7, 8, 9] rfl
    have hD := hD.sub (ws' := xW a0 a1 a2 a3 a4 a5 a6 a7 a8 a9 cI k ut tb_2 tn_3 sc_4 hs_5 rn rv wb ee we) [0, 1, 2, 3, 4, 5, 6, 7, 8, 9] (by decide) rfl
    refine lv_aload_n (pc := 27) hx hb dX3_pack_27 rfl (lv_at hl 0 rfl) ?_
    refine va_get (pc := 28) (D := (dC, dI)) (ci := 3) (v := .ref a5) (C := RX3) (T := TX3) (N := 8) hx hb hts (by decide +kernel) hown hK hP 0 rfl rfl 1 (by decide) (hts (.fieldLink RX3 19 "ScratchSwap" "tape" "LScratchSwap$Tape;") (by decide +kernel)) (fun _ h9 => h9) rfl dX3_pack_28 ?_
    refine va_getN (pc := 31) (D := (dC, dI)) (ci := 2) (v := .int (nI tn_3)) (C := RX2) (T := TX2) (N := 2) hx hb hts (by decide +kernel) hown hK hP 5 rfl rfl 1 (by decide) (hE.f 6 (q := (RX3, 47, "ScratchSwap$Tape", "count", "I", "ScratchSwap")) rfl) (fun _ h9 => h9) rfl dX3_pack_31 ?_
    exact W.iret (v := nI tn_3) hx hb hr (fun t ht hW => ⟨⟨nI tn_3, (tb_2, tn_3, sc_4, hs_5), rfl, by show ite (tn ≤ 984) _ _; rw [if_pos (by omega)]; exact ⟨by rw [g2], g1, g2⟩, by show va_P _ _ _ t.heap; rw [ht]; exact hP, va_K.moved hW.alike hK, hD⟩, hS.F ht⟩) hS.2.2 dX3_pack_34
  · skip
    have c1 : ¬ tn ≤ 984 := fun z => c1 ((nI_leI (a := tn) (b := 984) (by omega) (by omega)).mpr z)
    refine lv_iconst (pc := 13) (v := (-1)) hx hb dX3_pack_13 (by decide) ?_
    exact W.iret (v := (-1)) hx hb hr (fun t ht hW => ⟨⟨(-1), (tb, tn, sc, hs), rfl, by show ite (tn ≤ 984) _ _; rw [if_neg (by omega)]; exact ⟨rfl, rfl, rfl⟩, by show va_P _ _ _ t.heap; rw [ht]; exact hP, va_K.moved hW.alike hK, hD⟩, hS.F ht⟩) hS.2.2 dX3_pack_14
set_option maxHeartbeats 4000000 in
set_option maxRecDepth 100000 in
theorem kX3_harm (l : Launch) (dC : Nat → ClassId) (dI : Nat → Nat → Nat) (tt : Nat → Nat) (cI cB : ClassId) (sz : Nat) (a0 a1 a2 a3 a4 a5 a6 a7 a8 a9 : Nat) (k : K0) (ut : Nat → Int32) (tb : Nat → Int8) (tn : Nat) (sc hs : Nat → Int32) (rn : Bool) (rv wb ee we : Int32) (x y : Int32)  : MetI (S := (Nat → Int8)) l yX3_harm wsX3_harm { frames := 1, cells := 0, slots := 0, locals := 22 } (dC, dI) [(cI, .int), (cB, .byte)] tt [] sz (xW a0 a1 a2 a3 a4 a5 a6 a7 a8 a9 cI k ut tb tn sc hs rn rv wb ee we) [.ref a0, .int x, .int y] (fun u : (Nat → Int8) => xW a0 a1 a2 a3 a4 a5 a6 a7 a8 a9 cI (u, k.2) ut tb tn sc hs rn rv wb ee we) (fun r u => r = bI (inB 2816 x) ∧ u = if inB 2816 x = true then va_up k.1 x.toNatClampNeg (k.1 x.toNatClampNeg &&& Int32.toInt8 y) else k.1) := by
  refine Met.ofW (cc := cX3_harm) (maxL := 3) (ret := (some .boolean)) (by decide) rfl ?_
  intro p e s m args below meth c s₁ B hml hv
  obtain ⟨rfl, hsz, hP, hK, hD0, hE⟩ := hv
  have hx := B.exec
  have hb := B.bytes
  have hr := B.returns
  have hts := atoms_spec (ws := wsX3_harm) B.pre
  have hown : s.vm.findClass RX3 = some m.cls := findClass_of_methodNamed B.named
  have hlocks := B.notSynchronized
  subst hsz
  have hD := hD0.self (sz := s.heap.size)
  generalize hAe : va_A (xW a0 a1 a2 a3 a4 a5 a6 a7 a8 a9 cI k ut tb tn sc hs rn rv wb ee we) s.heap.size = A at hD hE ⊢
  have hA : ∀ q : Nat, s.heap.size ≤ q → A q := fun q h => by rw [← hAe]; exact Or.inr h
  have hS : va_S A s.heap s.heap [] := va_S.rf
  have hl := lv_entry ([.ref a0, .int x, .int y]) (n := 3) (Nat.le_of_ble_eq_true rfl)
  rw [lg_entry_eq]
  generalize (lg_sl ([.ref a0, .int x, .int y]) ++ List.replicate (3 - (lg_sl ([.ref a0, .int x, .int y])).length) Slot.unset).toArray = ls at hl ⊢
  have hl : lv_has ls 3 [(0, .ref a0), (1, .int x), (2, .int y)] := hl
  have hP : va_P (dC, dI) vwCl (xW a0 a1 a2 a3 a4 a5 a6 a7 a8 a9 cI k ut tb tn sc hs rn rv wb ee we) s.heap := hP
  refine lv_iload_n (pc := 0) hx hb dX3_harm_0 rfl (lv_at hl 1 rfl) ?_
  refine x_roi (pc := 1) (va_runSN (As := [.int x]) (rest := []) ⟨hx, hb, hml, hown, hts⟩ (kX0_has l dC dI tt cI cB _ (x)) (⟨va_cnB 1 hts gX3_harm_X0_has_n125 rfl rfl rfl (hE.m 20 (q := (RX3, 125, yX0_has, "ScratchSwap")) rfl) (hts (.initialized RX0) (by decide +kernel)) (by decide +kernel) ⟨Nat.le_of_ble_eq_true rfl, Nat.le_of_ble_eq_true rfl⟩, hts (.static yX0_has) (by decide +kernel), trivial⟩) (x_preS hS hE hK hP hD [] rfl (by decide) (x_ro hS hA) xR0) rfl rfl hl.1 rfl (lv_room (Nat.le_of_ble_eq_true rfl)) dX3_harm_1 ⟨Nat.le_of_ble_eq_true rfl, Nat.le_of_ble_eq_true rfl⟩) hS hA hP (fun r_1 H locs hr_1 hP hS => ?_)
  subst hr_1
  refine lv_if_ne (pc := 4) (tgt := 9) hx hb dX3_harm_4 (by decide) (fun c1 => ?_) (fun c1 => ?_)
  · skip
    have c1 : inB 2816 (x) = true := bI_1.mp c1
    obtain ⟨n, hn, en⟩ := inB_of (n := 2816) (by decide) c1
    rw [en] at hl
    have hcl : x.toNatClampNeg = n := by rw [en]; exact nI_clamp (by omega)
    refine lv_aload_n (pc := 9) hx hb dX3_harm_9 rfl (lv_at hl 0 rfl) ?_
    refine va_get (pc := 10) (D := (dC, dI)) (ci := 3) (v := .ref a1) (C := RX3) (T := TX3) (N := 8) hx hb hts (by decide +kernel) hown hK hP 0 rfl rfl 0 (by decide) (hts (.fieldLink RX3 12 "ScratchSwap" "memory" "LScratchSwap$Memory;") (by decide +kernel)) (fun _ h9 => h9) rfl dX3_harm_10 ?_
    refine lv_iload_n (pc := 13) hx hb dX3_harm_13 rfl (lv_at hl 1 rfl) ?_
    refine lv_iload_n (pc := 14) hx hb dX3_harm_14 rfl (lv_at hl 2 rfl) ?_
    refine x_wrv (pc := 15) (va_runVN (As := [.int (nI n), .int y]) (rest := []) ⟨hx, hb, hml, hown, hts⟩ (kX0_keepBits l dC dI tt cI cB _ a1 a2 a3 a4 k ut n y (by omega)) (⟨va_cnB 2 hts gX3_harm_X0_keepBits_n128 rfl rfl rfl (hE.m 21 (q := (RX3, 128, yX0_keepBits, "ScratchSwap")) rfl) (hts (.initialized RX0) (by decide +kernel)) (by decide +kernel) ⟨Nat.le_of_ble_eq_true rfl, Nat.le_of_ble_eq_true rfl⟩, hts (.instanceMethod yX0_keepBits) (by decide +kernel), hts (.selects RX0 yX0_keepBits yX0_keepBits) (by decide +kernel)⟩) (x_preV hS hE hK hP hD [1, 2, 3, 4] rfl (by decide) (va_free hD hS hA [1, 2, 3, 4] rfl) xR0 0 1 rfl rfl) rfl rfl hl.1 rfl (lv_room (Nat.le_of_ble_eq_true rfl)) dX3_harm_15 ⟨Nat.le_of_ble_eq_true rfl, Nat.le_of_ble_eq_true rfl⟩) hS hA hP hD [1, 2, 3, 4] [0, 5, 6, 7, 8, 9] rfl rfl (by decide) (by decide) (fun u_2 H locs hu_2 hP hD hS => ?_)
    subst hu_2
    have hP := hP.sub (ws' := xW a0 a1 a2 a3 a4 a5 a6 a7 a8 a9 cI (va_up k.1 n (k.1 n &&& Int32.toInt8 y), k.2) ut tb tn sc hs rn rv wb ee we) [0, 6, 7, 8, 9, 1, 2, 3, 4, 5] rfl
    have hD := hD.sub (ws' := xW a0 a1 a2 a3 a4 a5 a6 a7 a8 a9 cI (va_up k.1 n (k.1 n &&& Int32.toInt8 y), k.2) ut tb tn sc hs rn rv wb ee we) [0, 6, 7, 8, 9, 1, 2, 3, 4, 5] (by decide) rfl
    refine lv_iconst (pc := 18) (v := nI 1) hx hb dX3_harm_18 (by decide) ?_
    exact W.zret (v := nI 1) hx hb hr rfl (fun t ht hW => ⟨⟨nI 1, va_up k.1 n (k.1 n &&& Int32.toInt8 y), rfl, ⟨by rw [c1]; rfl, by rw [if_pos c1, hcl]⟩, by show va_P _ _ _ t.heap; rw [ht]; exact hP, va_K.moved hW.alike hK, hD⟩, hS.F ht⟩) hS.2.2 dX3_harm_19
  · skip
    have c1 : inB 2816 (x) = false := bI_0.mp c1
    refine lv_iconst (pc := 7) (v := nI 0) hx hb dX3_harm_7 (by decide) ?_
    exact W.zret (v := nI 0) hx hb hr rfl (fun t ht hW => ⟨⟨nI 0, k.1, rfl, ⟨by rw [c1]; rfl, by rw [if_neg (by rw [c1]; decide)]⟩, by show va_P _ _ _ t.heap; rw [ht]; exact hP, va_K.moved hW.alike hK, hD⟩, hS.F ht⟩) hS.2.2 dX3_harm_8
set_option maxHeartbeats 4000000 in
set_option maxRecDepth 100000 in
theorem kX3_cut (l : Launch) (dC : Nat → ClassId) (dI : Nat → Nat → Nat) (tt : Nat → Nat) (cI cB : ClassId) (sz : Nat) (a0 a1 a2 a3 a4 a5 a6 a7 a8 a9 : Nat) (k : K0) (ut : Nat → Int32) (tb : Nat → Int8) (tn : Nat) (sc hs : Nat → Int32) (rn : Bool) (rv wb ee we : Int32) (x y : Int32)  : MetI (S := K0) l yX3_cut wsX3_cut { frames := 1, cells := 0, slots := 0, locals := 22 } (dC, dI) [(cI, .int), (cB, .byte)] tt [] sz (xW a0 a1 a2 a3 a4 a5 a6 a7 a8 a9 cI k ut tb tn sc hs rn rv wb ee we) [.ref a0, .int x, .int y] (fun u : K0 => xW a0 a1 a2 a3 a4 a5 a6 a7 a8 a9 cI u ut tb tn sc hs rn rv wb ee we) (fun r u => r = bI (cutB k.2.2.1 x y) ∧ u = if cutB k.2.2.1 x y = true then (k.1, k.2.1, k.2.2.1, true, x.toNatClampNeg, y.toNatClampNeg, k.2.2.2.2.2.2) else k) := by
  refine Met.ofW (cc := cX3_cut) (maxL := 3) (ret := (some .boolean)) (by decide) rfl ?_
  intro p e s m args below meth c s₁ B hml hv
  obtain ⟨rfl, hsz, hP, hK, hD0, hE⟩ := hv
  have hx := B.exec
  have hb := B.bytes
  have hr := B.returns
  have hts := atoms_spec (ws := wsX3_cut) B.pre
  have hown : s.vm.findClass RX3 = some m.cls := findClass_of_methodNamed B.named
  have hlocks := B.notSynchronized
  subst hsz
  have hD := hD0.self (sz := s.heap.size)
  generalize hAe : va_A (xW a0 a1 a2 a3 a4 a5 a6 a7 a8 a9 cI k ut tb tn sc hs rn rv wb ee we) s.heap.size = A at hD hE ⊢
  have hA : ∀ q : Nat, s.heap.size ≤ q → A q := fun q h => by rw [← hAe]; exact Or.inr h
  have hS : va_S A s.heap s.heap [] := va_S.rf
  have hl := lv_entry ([.ref a0, .int x, .int y]) (n := 3) (Nat.le_of_ble_eq_true rfl)
  rw [lg_entry_eq]
  generalize (lg_sl ([.ref a0, .int x, .int y]) ++ List.replicate (3 - (lg_sl ([.ref a0, .int x, .int y])).length) Slot.unset).toArray = ls at hl ⊢
  have hl : lv_has ls 3 [(0, .ref a0), (1, .int x), (2, .int y)] := hl
  have hP : va_P (dC, dI) vwCl (xW a0 a1 a2 a3 a4 a5 a6 a7 a8 a9 cI k ut tb tn sc hs rn rv wb ee we) s.heap := hP
  refine lv_iload_n (pc := 0) hx hb dX3_cut_0 rfl (lv_at hl 1 rfl) ?_
  refine lv_if_lt (pc := 1) (tgt := 30) hx hb dX3_cut_1 (by decide) (fun c1 => ?_) (fun c1 => ?_)
  · skip
    refine lv_iconst (pc := 30) (v := nI 0) hx hb dX3_cut_30 (by decide) ?_
    exact W.zret (v := nI 0) hx hb hr rfl (fun t ht hW => ⟨⟨nI 0, k, rfl, ⟨by rw [show cutB k.2.2.1 x y = false from decide_eq_false (fun z => by first | exact z.1 c1 | exact z.2.1 c2 | exact z.2.2.1 c3 | exact z.2.2.2.1 c4 | (rw [c5] at z; exact absurd z.2.2.2.2 (by decide)))]; rfl, by rw [show cutB k.2.2.1 x y = false from decide_eq_false (fun z => by first | exact z.1 c1 | exact z.2.1 c2 | exact z.2.2.1 c3 | exact z.2.2.2.1 c4 | (rw [c5] at z; exact absurd z.2.2.2.2 (by decide)))]; rfl⟩, by show va_P _ _ _ t.heap; rw [ht]; exact hP, va_K.moved hW.alike hK, hD⟩, hS.F ht⟩) hS.2.2 dX3_cut_31
  · skip
    refine lv_iload_n (pc := 4) hx hb dX3_cut_4 rfl (lv_at hl 1 rfl) ?_
    refine lv_ldc (pc := 5) (v := nI 100000) hx hb hown (hts (.constant RX3 117 100000) (by decide +kernel)) dX3_cut_5 ?_
    refine lv_icmp_gt (pc := 7) (tgt := 30) hx hb dX3_cut_7 (by decide) (fun c2 => ?_) (fun c2 => ?_)
    · skip
      refine lv_iconst (pc := 30) (v := nI 0) hx hb dX3_cut_30 (by decide) ?_
      exact W.zret (v := nI 0) hx hb hr rfl (fun t ht hW => ⟨⟨nI 0, k, rfl, ⟨by rw [show cutB k.2.2.1 x y = false from decide_eq_false (fun z => by first | exact z.1 c1 | exact z.2.1 c2 | exact z.2.2.1 c3 | exact z.2.2.2.1 c4 | (rw [c5] at z; exact absurd z.2.2.2.2 (by decide)))]; rfl, by rw [show cutB k.2.2.1 x y = false from decide_eq_false (fun z => by first | exact z.1 c1 | exact z.2.1 c2 | exact z.2.2.1 c3 | exact z.2.2.2.1 c4 | (rw [c5] at z; exact absurd z.2.2.2.2 (by decide)))]; rfl⟩, by show va_P _ _ _ t.heap; rw [ht]; exact hP, va_K.moved hW.alike hK, hD⟩, hS.F ht⟩) hS.2.2 dX3_cut_31
    · skip
      refine lv_iload_n (pc := 10) hx hb dX3_cut_10 rfl (lv_at hl 2 rfl) ?_
      refine lv_if_lt (pc := 11) (tgt := 30) hx hb dX3_cut_11 (by decide) (fun c3 => ?_) (fun c3 => ?_)
      · skip
        refine lv_iconst (pc := 30) (v := nI 0) hx hb dX3_cut_30 (by decide) ?_
        exact W.zret (v := nI 0) hx hb hr rfl (fun t ht hW => ⟨⟨nI 0, k, rfl, ⟨by rw [show cutB k.2.2.1 x y = false from decide_eq_false (fun z => by first | exact z.1 c1 | exact z.2.1 c2 | exact z.2.2.1 c3 | exact z.2.2.2.1 c4 | (rw [c5] at z; exact absurd z.2.2.2.2 (by decide)))]; rfl, by rw [show cutB k.2.2.1 x y = false from decide_eq_false (fun z => by first | exact z.1 c1 | exact z.2.1 c2 | exact z.2.2.1 c3 | exact z.2.2.2.1 c4 | (rw [c5] at z; exact absurd z.2.2.2.2 (by decide)))]; rfl⟩, by show va_P _ _ _ t.heap; rw [ht]; exact hP, va_K.moved hW.alike hK, hD⟩, hS.F ht⟩) hS.2.2 dX3_cut_31
      · skip
        refine lv_iload_n (pc := 14) hx hb dX3_cut_14 rfl (lv_at hl 2 rfl) ?_
        refine lv_bipush (pc := 15) (v := nI 32) hx hb dX3_cut_15 (by decide) ?_
        refine lv_icmp_ge (pc := 17) (tgt := 30) hx hb dX3_cut_17 (by decide) (fun c4 => ?_) (fun c4 => ?_)
        · skip
          refine lv_iconst (pc := 30) (v := nI 0) hx hb dX3_cut_30 (by decide) ?_
          exact W.zret (v := nI 0) hx hb hr rfl (fun t ht hW => ⟨⟨nI 0, k, rfl, ⟨by rw [show cutB k.2.2.1 x y = false from decide_eq_false (fun z => by first | exact z.1 c1 | exact z.2.1 c2 | exact z.2.2.1 c3 | exact z.2.2.2.1 c4 | (rw [c5] at z; exact absurd z.2.2.2.2 (by decide)))]; rfl, by rw [show cutB k.2.2.1 x y = false from decide_eq_false (fun z => by first | exact z.1 c1 | exact z.2.1 c2 | exact z.2.2.1 c3 | exact z.2.2.2.1 c4 | (rw [c5] at z; exact absurd z.2.2.2.2 (by decide)))]; rfl⟩, by show va_P _ _ _ t.heap; rw [ht]; exact hP, va_K.moved hW.alike hK, hD⟩, hS.F ht⟩) hS.2.2 dX3_cut_31
        · skip
          refine lv_aload_n (pc := 20) hx hb dX3_cut_20 rfl (lv_at hl 0 rfl) ?_
          refine va_get (pc := 21) (D := (dC, dI)) (ci := 3) (v := .ref a1) (C := RX3) (T := TX3) (N := 8) hx hb hts (by decide +kernel) hown hK hP 0 rfl rfl 0 (by decide) (hts (.fieldLink RX3 12 "ScratchSwap" "memory" "LScratchSwap$Memory;") (by decide +kernel)) (fun _ h9 => h9) rfl dX3_cut_21 ?_
          refine va_getN (pc := 24) (D := (dC, dI)) (ci := 0) (v := .int (bI k.2.2.1)) (C := RX0) (T := TX0) (N := 9) hx hb hts (by decide +kernel) hown hK hP 1 rfl rfl 3 (by decide) (hE.f 2 (q := (RX3, 58, "ScratchSwap$Memory", "down", "Z", "ScratchSwap")) rfl) (fun _ h9 => h9) rfl dX3_cut_24 ?_
          refine lv_if_eq (pc := 27) (tgt := 32) hx hb dX3_cut_27 (by decide) (fun c5 => ?_) (fun c5 => ?_)
          · skip
            have c5 : k.2.2.1 = false := bI_0.mp c5
            obtain ⟨n1, hn1, en1⟩ := le_of_nI (by decide) c1 c2
            obtain ⟨n2, hn2, en2⟩ := lt_of_nI (by decide) c3 c4
            rw [en1, en2] at hl
            have hcl1 : x.toNatClampNeg = n1 := by rw [en1]; exact nI_clamp (by omega)
            have hcl2 : y.toNatClampNeg = n2 := by rw [en2]; exact nI_clamp (by omega)
            refine lv_aload_n (pc := 32) hx hb dX3_cut_32 rfl (lv_at hl 0 rfl) ?_
            refine va_get (pc := 33) (D := (dC, dI)) (ci := 3) (v := .ref a1) (C := RX3) (T := TX3) (N := 8) hx hb hts (by decide +kernel) hown hK hP 0 rfl rfl 0 (by decide) (hts (.fieldLink RX3 12 "ScratchSwap" "memory" "LScratchSwap$Memory;") (by decide +kernel)) (fun _ h9 => h9) rfl dX3_cut_33 ?_
            refine lv_iload_n (pc := 36) hx hb dX3_cut_36 rfl (lv_at hl 1 rfl) ?_
            refine lv_iload_n (pc := 37) hx hb dX3_cut_37 rfl (lv_at hl 2 rfl) ?_
            refine x_wrv (pc := 38) (va_runVN (As := [.int (nI n1), .int (nI n2)]) (rest := []) ⟨hx, hb, hml, hown, hts⟩ (kX0_tellToGo l dC dI tt cI cB _ a1 a2 a3 a4 k ut n1 n2) (⟨va_cnB 2 hts gX3_cut_X0_tellToGo_n118 rfl rfl rfl (hE.m 18 (q := (RX3, 118, yX0_tellToGo, "ScratchSwap")) rfl) (hts (.initialized RX0) (by decide +kernel)) (by decide +kernel) ⟨Nat.le_of_ble_eq_true rfl, Nat.le_of_ble_eq_true rfl⟩, hts (.instanceMethod yX0_tellToGo) (by decide +kernel), hts (.selects RX0 yX0_tellToGo yX0_tellToGo) (by decide +kernel)⟩) (x_preV hS hE hK hP hD [1, 2, 3, 4] rfl (by decide) (va_free hD hS hA [1, 2, 3, 4] rfl) xR0 0 1 rfl rfl) rfl rfl hl.1 rfl (lv_room (Nat.le_of_ble_eq_true rfl)) dX3_cut_38 ⟨Nat.le_of_ble_eq_true rfl, Nat.le_of_ble_eq_true rfl⟩) hS hA hP hD [1, 2, 3, 4] [0, 5, 6, 7, 8, 9] rfl rfl (by decide) (by decide) (fun u_1 H locs hu_1 hP hD hS => ?_)
            subst hu_1
            have hP := hP.sub (ws' := xW a0 a1 a2 a3 a4 a5 a6 a7 a8 a9 cI (k.1, k.2.1, k.2.2.1, true, n1, n2, k.2.2.2.2.2.2) ut tb tn sc hs rn rv wb ee we) [0, 6, 7, 8, 9, 1, 2, 3, 4, 5] rfl
            have hD := hD.sub (ws' := xW a0 a1 a2 a3 a4 a5 a6 a7 a8 a9 cI (k.1, k.2.1, k.2.2.1, true, n1, n2, k.2.2.2.2.2.2) ut tb tn sc hs rn rv wb ee we) [0, 6, 7, 8, 9, 1, 2, 3, 4, 5] (by decide) rfl
            refine lv_iconst (pc := 41) (v := nI 1) hx hb dX3_cut_41 (by decide) ?_
            exact W.zret (v := nI 1) hx hb hr rfl (fun t ht hW => ⟨⟨nI 1, (k.1, k.2.1, k.2.2.1, true, n1, n2, k.2.2.2.2.2.2), rfl, ⟨by rw [show cutB k.2.2.1 x y = true from decide_eq_true ⟨c1, c2, c3, c4, c5⟩]; rfl, by rw [show cutB k.2.2.1 x y = true from decide_eq_true ⟨c1, c2, c3, c4, c5⟩, if_pos rfl, hcl1, hcl2]⟩, by show va_P _ _ _ t.heap; rw [ht]; exact hP, va_K.moved hW.alike hK, hD⟩, hS.F ht⟩) hS.2.2 dX3_cut_42
          · skip
            have c5 : k.2.2.1 = true := bI_1.mp c5
            refine lv_iconst (pc := 30) (v := nI 0) hx hb dX3_cut_30 (by decide) ?_
            exact W.zret (v := nI 0) hx hb hr rfl (fun t ht hW => ⟨⟨nI 0, k, rfl, ⟨by rw [show cutB k.2.2.1 x y = false from decide_eq_false (fun z => by first | exact z.1 c1 | exact z.2.1 c2 | exact z.2.2.1 c3 | exact z.2.2.2.1 c4 | (rw [c5] at z; exact absurd z.2.2.2.2 (by decide)))]; rfl, by rw [show cutB k.2.2.1 x y = false from decide_eq_false (fun z => by first | exact z.1 c1 | exact z.2.1 c2 | exact z.2.2.1 c3 | exact z.2.2.2.1 c4 | (rw [c5] at z; exact absurd z.2.2.2.2 (by decide)))]; rfl⟩, by show va_P _ _ _ t.heap; rw [ht]; exact hP, va_K.moved hW.alike hK, hD⟩, hS.F ht⟩) hS.2.2 dX3_cut_31
set_option maxHeartbeats 4000000 in
set_option maxRecDepth 100000 in
theorem kX3_power (l : Launch) (dC : Nat → ClassId) (dI : Nat → Nat → Nat) (tt : Nat → Nat) (cI cB : ClassId) (sz : Nat) (a0 a1 a2 a3 a4 a5 a6 a7 a8 a9 : Nat) (k : K0) (ut : Nat → Int32) (tb : Nat → Int8) (tn : Nat) (sc hs : Nat → Int32) (rn : Bool) (rv wb ee we : Int32)  : MetV (S := Unit) l yX3_power wsX3_power { frames := 1, cells := 0, slots := 0, locals := 20 } (dC, dI) [(cI, .int), (cB, .byte)] tt [] sz (xW a0 a1 a2 a3 a4 a5 a6 a7 a8 a9 cI k ut tb tn sc hs rn rv wb ee we) [.ref a0] (fun u : Unit => xW a0 a1 a2 a3 a4 a5 a6 a7 a8 a9 cI (k.1, k.2.1, false, false, k.2.2.2.2) ut tb tn sc hs false (nI 0) wb ee we) (fun u => u = ()) := by
  refine Met.ofW (cc := cX3_power) (maxL := 1) (ret := none) (by decide) rfl ?_
  intro p e s m args below meth c s₁ B hml hv
  obtain ⟨rfl, hsz, hP, hK, hD0, hE⟩ := hv
  have hx := B.exec
  have hb := B.bytes
  have hr := B.returns
  have hts := atoms_spec (ws := wsX3_power) B.pre
  have hown : s.vm.findClass RX3 = some m.cls := findClass_of_methodNamed B.named
  have hlocks := B.notSynchronized
  subst hsz
  have hD := hD0.self (sz := s.heap.size)
  generalize hAe : va_A (xW a0 a1 a2 a3 a4 a5 a6 a7 a8 a9 cI k ut tb tn sc hs rn rv wb ee we) s.heap.size = A at hD hE ⊢
  have hA : ∀ q : Nat, s.heap.size ≤ q → A q := fun q h => by rw [← hAe]; exact Or.inr h
  have hS : va_S A s.heap s.heap [] := va_S.rf
  have hl := lv_entry ([.ref a0]) (n := 1) (Nat.le_of_ble_eq_true rfl)
  rw [lg_entry_eq]
  generalize (lg_sl ([.ref a0]) ++ List.replicate (1 - (lg_sl ([.ref a0])).length) Slot.unset).toArray = ls at hl ⊢
  have hl : lv_has ls 1 [(0, .ref a0)] := hl
  have hP : va_P (dC, dI) vwCl (xW a0 a1 a2 a3 a4 a5 a6 a7 a8 a9 cI k ut tb tn sc hs rn rv wb ee we) s.heap := hP
  refine lv_aload_n (pc := 0) hx hb dX3_power_0 rfl (lv_at hl 0 rfl) ?_
  refine va_get (pc := 1) (D := (dC, dI)) (ci := 3) (v := .ref a1) (C := RX3) (T := TX3) (N := 8) hx hb hts (by decide +kernel) hown hK hP 0 rfl rfl 0 (by decide) (hts (.fieldLink RX3 12 "ScratchSwap" "memory" "LScratchSwap$Memory;") (by decide +kernel)) (fun _ h9 => h9) rfl dX3_power_1 ?_
  refine x_wrv (pc := 4) (va_runVN (As := []) (rest := []) ⟨hx, hb, hml, hown, hts⟩ (kX0_powerComes l dC dI tt cI cB _ a1 a2 a3 a4 k ut ) (⟨va_cnB 0 hts gX3_power_X0_powerComes_n122 rfl rfl rfl (hE.m 19 (q := (RX3, 122, yX0_powerComes, "ScratchSwap")) rfl) (hts (.initialized RX0) (by decide +kernel)) (by decide +kernel) ⟨Nat.le_of_ble_eq_true rfl, Nat.le_of_ble_eq_true rfl⟩, hts (.instanceMethod yX0_powerComes) (by decide +kernel), hts (.selects RX0 yX0_powerComes yX0_powerComes) (by decide +kernel)⟩) (x_preV hS hE hK hP hD [1, 2, 3, 4] rfl (by decide) (va_free hD hS hA [1, 2, 3, 4] rfl) xR0 0 1 rfl rfl) rfl rfl hl.1 rfl (lv_room (Nat.le_of_ble_eq_true rfl)) dX3_power_4 ⟨Nat.le_of_ble_eq_true rfl, Nat.le_of_ble_eq_true rfl⟩) hS hA hP hD [1, 2, 3, 4] [0, 5, 6, 7, 8, 9] rfl rfl (by decide) (by decide) (fun u_1 H locs hu_1 hP hD hS => ?_)
  subst hu_1
  have hP := hP.sub (ws' := xW a0 a1 a2 a3 a4 a5 a6 a7 a8 a9 cI (k.1, k.2.1, false, false, k.2.2.2.2) ut tb tn sc hs rn rv wb ee we) [0, 6, 7, 8, 9, 1, 2, 3, 4, 5] rfl
  have hD := hD.sub (ws' := xW a0 a1 a2 a3 a4 a5 a6 a7 a8 a9 cI (k.1, k.2.1, false, false, k.2.2.2.2) ut tb tn sc hs rn rv wb ee we) [0, 6, 7, 8, 9, 1, 2, 3, 4, 5] (by decide) rfl
  refine lv_aload_n (pc := 7) hx hb dX3_power_7 rfl (lv_at hl 0 rfl) ?_
  refine x_wrva (pc := 8) (va_runV (As := []) (rest := []) ⟨hx, hb, hml, hown, hts⟩ (kX3_stopRunning l dC dI tt cI cB _ a0 a1 a2 a3 a4 a5 a6 a7 a8 a9 (k.1, k.2.1, false, false, k.2.2.2.2) ut tb tn sc hs rn rv wb ee we ) (cwV 0 hts gX3_power_X3_stopRunning rfl rfl rfl (by decide +kernel) ⟨Nat.le_of_ble_eq_true rfl, Nat.le_of_ble_eq_true rfl⟩) (x_preVa hS hE hK hP hD (x_all hD hS hA) xR0 3 0 rfl rfl) rfl rfl hl.1 rfl (lv_room (Nat.le_of_ble_eq_true rfl)) dX3_power_8 ⟨Nat.le_of_ble_eq_true rfl, Nat.le_of_ble_eq_true rfl⟩) hS hA hD (fun u_2 H locs hu_2 hP hD hS => ?_)
  have hP : va_P (dC, dI) vwCl (xW a0 a1 a2 a3 a4 a5 a6 a7 a8 a9 cI (k.1, k.2.1, false, false, k.2.2.2.2) ut tb tn sc hs false (nI 0) wb ee we) _ := hP
  have hD : va_D A (xW a0 a1 a2 a3 a4 a5 a6 a7 a8 a9 cI (k.1, k.2.1, false, false, k.2.2.2.2) ut tb tn sc hs false (nI 0) wb ee we) := hD
  exact W.vret hx hb hr (fun t ht hW => ⟨⟨(), rfl, rfl, by show va_P _ _ _ t.heap; rw [ht]; exact hP, va_K.moved hW.alike hK, hD⟩, hS.F ht⟩) hS.2.2 dX3_power_11
