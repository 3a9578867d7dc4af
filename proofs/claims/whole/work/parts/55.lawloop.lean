theorem sw_cases (x : Int32) : x = 0 ∨ x = 1 ∨ x = 2 ∨ x = 3 ∨ x = 4 ∨ x = 5 ∨ x = 6 ∨ x = 7 ∨ x = 8 ∨ x = 9 ∨ x = 10 ∨ x = 11 ∨ x = 12 ∨ x = 13 ∨ x = 14 ∨ x = 15 ∨ x = 16 ∨ (x.toInt < 0 ∨ 16 < x.toInt) := by
  have key : ∀ n : Nat, x.toInt = (n : Int) → x = nI n := fun n h => by
    have h2 : x.toInt < 2 ^ 31 := x.toInt_lt
    apply Int32.toInt_inj.mp
    rw [h, nI_toInt (by omega)]
  by_cases h0 : x.toInt < 0
  · simp [h0]
  by_cases h1 : 16 < x.toInt
  · simp [h1]
  obtain ⟨n, hn⟩ : ∃ n : Nat, x.toInt = (n : Int) := ⟨x.toInt.toNat, by omega⟩
  have hx := key n hn
  have hn16 : n ≤ 16 := by omega
  have hd : ∀ n : Nat, n ≤ 16 → nI n = 0 ∨ nI n = 1 ∨ nI n = 2 ∨ nI n = 3 ∨ nI n = 4 ∨ nI n = 5 ∨ nI n = 6 ∨ nI n = 7 ∨ nI n = 8 ∨ nI n = 9 ∨ nI n = 10 ∨ nI n = 11 ∨ nI n = 12 ∨ nI n = 13 ∨ nI n = 14 ∨ nI n = 15 ∨ nI n = 16 := by decide
  rw [hx]
  rcases hd n hn16 with h | h | h | h | h | h | h | h | h | h | h | h | h | h | h | h | h <;> simp [h]
theorem lw_back {p : Program} {e : Env} {s : State} {m : MethodId} {below : List Frame} {meth : Method} {c : Code} (l : Launch) {b : Nat} {dC : Nat → ClassId} {dI : Nat → Nat → Nat} {cI cB : ClassId} {A : Nat → Prop} (hx : p.tables.exec = Jvm.exec) (hb : c.code = cL_law) (a0 a1 a2 a3 a4 a5 a6 a7 a8 a9 g0 g1 g2 g3 g4 g5 g6 g7 g8 g9 g10 g11 g12 g13 : Nat) (i : Nat) (hk : lwK p l e s m below meth c b dC dI cI cB A a0 a1 a2 a3 a4 a5 a6 a7 a8 a9 g0 g1 g2 g3 g4 g5 g6 g7 g8 g9 g10 g11 g12 g13 18 (i + 6)) : lwK p l e s m below meth c b dC dI cI cB A a0 a1 a2 a3 a4 a5 a6 a7 a8 a9 g0 g1 g2 g3 g4 g5 g6 g7 g8 g9 g10 g11 g12 g13 551 i := by
  intro k ut tb tn sc hs rn wb ee we dr er pl un li ov vs ei dg wo pa ch fi H locs ls hsm htn hP hD hS hl
  refine lv_iinc (pc := 551) (v := nI (i + 6)) (lv' := [(3, .int (nI (i + 6))), (0, .ref b), (1, .ref a0), (2, .ref g0)]) hx hb dL_law_551 hl (k := 3) rfl (nI_inc i 6) (by decide) rfl (fun ls hl => ?_)
  refine lv_goto (pc := 554) (tgt := 18) hx hb dL_law_554 (by decide) ?_
  exact hk k ut tb tn sc hs rn wb ee we dr er pl un li ov vs ei dg wo pa ch fi H locs ls hsm htn hP hD hS (lv_sub hl [1, 2, 3, 0] rfl)
set_option maxHeartbeats 4000000 in
theorem law_body {p : Program} {e : Env} {s : State} {m : MethodId} {below : List Frame} {meth : Method} {c : Code} (l : Launch) {b L : Nat} {xs : Nat → Int32} {dC : Nat → ClassId} {dI : Nat → Nat → Nat} {tt : Nat → Nat} {cI cB : ClassId} {A : Nat → Prop} (hL : L ≤ 3072) (hx : p.tables.exec = Jvm.exec) (hb : c.code = cL_law) (hml : c.maxLocals = 4) (hown : s.vm.findClass RL = some m.cls) (hts : ∀ w ∈ wsL_law, w.before #[Value.ref b] s = true) (hX : va_X b L xs s s.heap) (hbl : b < s.heap.size) (hbA : ¬ A b) (hA : ∀ q : Nat, s.heap.size ≤ q → A q) (hK : va_K (dC, dI) vwCl [(cI, .int), (cB, .byte)] s) (hE : xE tt [] A s s.heap) (hAr : ∀ q : Nat, A q → s.heap.size ≤ q) (hr : meth.sig.returnType = ret) (hlocks : meth.locks = false) (a0 a1 a2 a3 a4 a5 a6 a7 a8 a9 g0 g1 g2 g3 g4 g5 g6 g7 g8 g9 g10 g11 g12 g13 : Nat) (i : Nat) (hi20 : i < 2 ^ 20) (hk : i + 6 ≤ L → lwK p l e s m below meth c b dC dI cI cB A a0 a1 a2 a3 a4 a5 a6 a7 a8 a9 g0 g1 g2 g3 g4 g5 g6 g7 g8 g9 g10 g11 g12 g13 18 (i + 6)) : lwK p l e s m below meth c b dC dI cI cB A a0 a1 a2 a3 a4 a5 a6 a7 a8 a9 g0 g1 g2 g3 g4 g5 g6 g7 g8 g9 g10 g11 g12 g13 18 i := by
  intro k ut tb tn sc hs rn wb ee we dr er pl un li ov vs ei dg wo pa ch fi H locs ls hsm htn hP hD hS hl
  refine lv_iload_n (pc := 18) hx hb dL_law_18 rfl (lv_at hl 3 rfl) ?_
  refine lv_aload_n (pc := 19) hx hb dL_law_19 rfl (lv_at hl 0 rfl) ?_
  refine va_slen (pc := 20) hx hb hX hbl hbA hS dL_law_20 ?_
  refine lv_bipush (pc := 21) (v := nI 6) hx hb dL_law_21 (by decide) ?_
  refine lv_isub (pc := 23) hx hb dL_law_23 ?_
  refine lv_icmp_gt (pc := 24) (tgt := 557) hx hb dL_law_24 (by decide) (fun _ => ?_) (fun c0 => ?_)
  · refine lv_iconst (pc := 557) (v := 1) hx hb dL_law_557 (by decide) ?_
    refine va_forget (fun q h => hAr _ (hS.2.2 q h)) ?_
    exact lw_ret hx hb hr hlocks dL_law_558
  have hi : i + 6 ≤ L := law_c hL hi20 c0
  have hk := hk hi
  refine lv_aload_n (pc := 27) hx hb dL_law_27 rfl (lv_at hl 0 rfl) ?_
  refine lv_iload_n (pc := 28) hx hb dL_law_28 rfl (lv_at hl 3 rfl) ?_
  refine x_sld (pc := 29) hx hb hX hbl hbA hS (by omega) (by omega) dL_law_29 ?_
  refine lv_bipush (pc := 30) (v := nI 31) hx hb dL_law_30 (by decide) ?_
  refine lv_iand (pc := 32) hx hb dL_law_32 ?_
  rcases sw_cases (xs i &&& nI 31) with h | h | h | h | h | h | h | h | h | h | h | h | h | h | h | h | h | h
  · rw [h]
    refine lv_tableIn (pc := 33) (tgt := 116) (off := 83) hx hb dL_law_33 (by decide) (by decide) (by decide) (by decide) ?_
    exact lw_c0 l hL hx hb hml hown hts hX hbl hbA hA hK hE a0 a1 a2 a3 a4 a5 a6 a7 a8 a9 g0 g1 g2 g3 g4 g5 g6 g7 g8 g9 g10 g11 g12 g13 i hi (lw_back l hx hb a0 a1 a2 a3 a4 a5 a6 a7 a8 a9 g0 g1 g2 g3 g4 g5 g6 g7 g8 g9 g10 g11 g12 g13 i hk) k ut tb tn sc hs rn wb ee we dr er pl un li ov vs ei dg wo pa ch fi H locs ls hsm htn hP hD hS hl
  · rw [h]
    refine lv_tableIn (pc := 33) (tgt := 179) (off := 146) hx hb dL_law_33 (by decide) (by decide) (by decide) (by decide) ?_
    exact lw_c1 l hL hx hb hml hown hts hX hbl hbA hA hK hE a0 a1 a2 a3 a4 a5 a6 a7 a8 a9 g0 g1 g2 g3 g4 g5 g6 g7 g8 g9 g10 g11 g12 g13 i hi (lw_back l hx hb a0 a1 a2 a3 a4 a5 a6 a7 a8 a9 g0 g1 g2 g3 g4 g5 g6 g7 g8 g9 g10 g11 g12 g13 i hk) k ut tb tn sc hs rn wb ee we dr er pl un li ov vs ei dg wo pa ch fi H locs ls hsm htn hP hD hS hl
  · rw [h]
    refine lv_tableIn (pc := 33) (tgt := 202) (off := 169) hx hb dL_law_33 (by decide) (by decide) (by decide) (by decide) ?_
    exact lw_c2 l hL hx hb hml hown hts hX hbl hbA hA hK hE a0 a1 a2 a3 a4 a5 a6 a7 a8 a9 g0 g1 g2 g3 g4 g5 g6 g7 g8 g9 g10 g11 g12 g13 i hi (lw_back l hx hb a0 a1 a2 a3 a4 a5 a6 a7 a8 a9 g0 g1 g2 g3 g4 g5 g6 g7 g8 g9 g10 g11 g12 g13 i hk) k ut tb tn sc hs rn wb ee we dr er pl un li ov vs ei dg wo pa ch fi H locs ls hsm htn hP hD hS hl
  · rw [h]
    refine lv_tableIn (pc := 33) (tgt := 215) (off := 182) hx hb dL_law_33 (by decide) (by decide) (by decide) (by decide) ?_
    exact lw_c3 l hL hx hb hml hown hts hX hbl hbA hA hK hE a0 a1 a2 a3 a4 a5 a6 a7 a8 a9 g0 g1 g2 g3 g4 g5 g6 g7 g8 g9 g10 g11 g12 g13 i hi (lw_back l hx hb a0 a1 a2 a3 a4 a5 a6 a7 a8 a9 g0 g1 g2 g3 g4 g5 g6 g7 g8 g9 g10 g11 g12 g13 i hk) k ut tb tn sc hs rn wb ee we dr er pl un li ov vs ei dg wo pa ch fi H locs ls hsm htn hP hD hS hl
  · rw [h]
    refine lv_tableIn (pc := 33) (tgt := 238) (off := 205) hx hb dL_law_33 (by decide) (by decide) (by decide) (by decide) ?_
    exact lw_c4 l hL hx hb hml hown hts hX hbl hbA hA hK hE a0 a1 a2 a3 a4 a5 a6 a7 a8 a9 g0 g1 g2 g3 g4 g5 g6 g7 g8 g9 g10 g11 g12 g13 i hi (lw_back l hx hb a0 a1 a2 a3 a4 a5 a6 a7 a8 a9 g0 g1 g2 g3 g4 g5 g6 g7 g8 g9 g10 g11 g12 g13 i hk) k ut tb tn sc hs rn wb ee we dr er pl un li ov vs ei dg wo pa ch fi H locs ls hsm htn hP hD hS hl
  · rw [h]
    refine lv_tableIn (pc := 33) (tgt := 261) (off := 228) hx hb dL_law_33 (by decide) (by decide) (by decide) (by decide) ?_
    exact lw_c5 l hL hx hb hml hown hts hX hbl hbA hA hK hE a0 a1 a2 a3 a4 a5 a6 a7 a8 a9 g0 g1 g2 g3 g4 g5 g6 g7 g8 g9 g10 g11 g12 g13 i hi (lw_back l hx hb a0 a1 a2 a3 a4 a5 a6 a7 a8 a9 g0 g1 g2 g3 g4 g5 g6 g7 g8 g9 g10 g11 g12 g13 i hk) k ut tb tn sc hs rn wb ee we dr er pl un li ov vs ei dg wo pa ch fi H locs ls hsm htn hP hD hS hl
  · rw [h]
    refine lv_tableIn (pc := 33) (tgt := 300) (off := 267) hx hb dL_law_33 (by decide) (by decide) (by decide) (by decide) ?_
    exact lw_c6 l hL hx hb hml hown hts hX hbl hbA hA hK hE a0 a1 a2 a3 a4 a5 a6 a7 a8 a9 g0 g1 g2 g3 g4 g5 g6 g7 g8 g9 g10 g11 g12 g13 i hi (lw_back l hx hb a0 a1 a2 a3 a4 a5 a6 a7 a8 a9 g0 g1 g2 g3 g4 g5 g6 g7 g8 g9 g10 g11 g12 g13 i hk) k ut tb tn sc hs rn wb ee we dr er pl un li ov vs ei dg wo pa ch fi H locs ls hsm htn hP hD hS hl
  · rw [h]
    refine lv_tableIn (pc := 33) (tgt := 313) (off := 280) hx hb dL_law_33 (by decide) (by decide) (by decide) (by decide) ?_
    exact lw_c7 l hL hx hb hml hown hts hX hbl hbA hA hK hE a0 a1 a2 a3 a4 a5 a6 a7 a8 a9 g0 g1 g2 g3 g4 g5 g6 g7 g8 g9 g10 g11 g12 g13 i hi (lw_back l hx hb a0 a1 a2 a3 a4 a5 a6 a7 a8 a9 g0 g1 g2 g3 g4 g5 g6 g7 g8 g9 g10 g11 g12 g13 i hk) k ut tb tn sc hs rn wb ee we dr er pl un li ov vs ei dg wo pa ch fi H locs ls hsm htn hP hD hS hl
  · rw [h]
    refine lv_tableIn (pc := 33) (tgt := 326) (off := 293) hx hb dL_law_33 (by decide) (by decide) (by decide) (by decide) ?_
    exact lw_c8 l hL hx hb hml hown hts hX hbl hbA hA hK hE a0 a1 a2 a3 a4 a5 a6 a7 a8 a9 g0 g1 g2 g3 g4 g5 g6 g7 g8 g9 g10 g11 g12 g13 i hi (lw_back l hx hb a0 a1 a2 a3 a4 a5 a6 a7 a8 a9 g0 g1 g2 g3 g4 g5 g6 g7 g8 g9 g10 g11 g12 g13 i hk) k ut tb tn sc hs rn wb ee we dr er pl un li ov vs ei dg wo pa ch fi H locs ls hsm htn hP hD hS hl
  · rw [h]
    refine lv_tableIn (pc := 33) (tgt := 359) (off := 326) hx hb dL_law_33 (by decide) (by decide) (by decide) (by decide) ?_
    exact lw_c9 l hL hx hb hml hown hts hX hbl hbA hA hK hE a0 a1 a2 a3 a4 a5 a6 a7 a8 a9 g0 g1 g2 g3 g4 g5 g6 g7 g8 g9 g10 g11 g12 g13 i hi (lw_back l hx hb a0 a1 a2 a3 a4 a5 a6 a7 a8 a9 g0 g1 g2 g3 g4 g5 g6 g7 g8 g9 g10 g11 g12 g13 i hk) k ut tb tn sc hs rn wb ee we dr er pl un li ov vs ei dg wo pa ch fi H locs ls hsm htn hP hD hS hl
  · rw [h]
    refine lv_tableIn (pc := 33) (tgt := 370) (off := 337) hx hb dL_law_33 (by decide) (by decide) (by decide) (by decide) ?_
    exact lw_c10 l hL hx hb hml hown hts hX hbl hbA hA hK hE a0 a1 a2 a3 a4 a5 a6 a7 a8 a9 g0 g1 g2 g3 g4 g5 g6 g7 g8 g9 g10 g11 g12 g13 i hi (lw_back l hx hb a0 a1 a2 a3 a4 a5 a6 a7 a8 a9 g0 g1 g2 g3 g4 g5 g6 g7 g8 g9 g10 g11 g12 g13 i hk) k ut tb tn sc hs rn wb ee we dr er pl un li ov vs ei dg wo pa ch fi H locs ls hsm htn hP hD hS hl
  · rw [h]
    refine lv_tableIn (pc := 33) (tgt := 403) (off := 370) hx hb dL_law_33 (by decide) (by decide) (by decide) (by decide) ?_
    exact lw_c11 l hL hx hb hml hown hts hX hbl hbA hA hK hE a0 a1 a2 a3 a4 a5 a6 a7 a8 a9 g0 g1 g2 g3 g4 g5 g6 g7 g8 g9 g10 g11 g12 g13 i hi (lw_back l hx hb a0 a1 a2 a3 a4 a5 a6 a7 a8 a9 g0 g1 g2 g3 g4 g5 g6 g7 g8 g9 g10 g11 g12 g13 i hk) k ut tb tn sc hs rn wb ee we dr er pl un li ov vs ei dg wo pa ch fi H locs ls hsm htn hP hD hS hl
  · rw [h]
    refine lv_tableIn (pc := 33) (tgt := 426) (off := 393) hx hb dL_law_33 (by decide) (by decide) (by decide) (by decide) ?_
    exact lw_c12 l hL hx hb hml hown hts hX hbl hbA hA hK hE a0 a1 a2 a3 a4 a5 a6 a7 a8 a9 g0 g1 g2 g3 g4 g5 g6 g7 g8 g9 g10 g11 g12 g13 i hi (lw_back l hx hb a0 a1 a2 a3 a4 a5 a6 a7 a8 a9 g0 g1 g2 g3 g4 g5 g6 g7 g8 g9 g10 g11 g12 g13 i hk) k ut tb tn sc hs rn wb ee we dr er pl un li ov vs ei dg wo pa ch fi H locs ls hsm htn hP hD hS hl
  · rw [h]
    refine lv_tableIn (pc := 33) (tgt := 439) (off := 406) hx hb dL_law_33 (by decide) (by decide) (by decide) (by decide) ?_
    exact lw_c13 l hL hx hb hml hown hts hX hbl hbA hA hK hE a0 a1 a2 a3 a4 a5 a6 a7 a8 a9 g0 g1 g2 g3 g4 g5 g6 g7 g8 g9 g10 g11 g12 g13 i hi (lw_back l hx hb a0 a1 a2 a3 a4 a5 a6 a7 a8 a9 g0 g1 g2 g3 g4 g5 g6 g7 g8 g9 g10 g11 g12 g13 i hk) k ut tb tn sc hs rn wb ee we dr er pl un li ov vs ei dg wo pa ch fi H locs ls hsm htn hP hD hS hl
  · rw [h]
    refine lv_tableIn (pc := 33) (tgt := 472) (off := 439) hx hb dL_law_33 (by decide) (by decide) (by decide) (by decide) ?_
    exact lw_c14 l hL hx hb hml hown hts hX hbl hbA hA hK hE a0 a1 a2 a3 a4 a5 a6 a7 a8 a9 g0 g1 g2 g3 g4 g5 g6 g7 g8 g9 g10 g11 g12 g13 i hi (lw_back l hx hb a0 a1 a2 a3 a4 a5 a6 a7 a8 a9 g0 g1 g2 g3 g4 g5 g6 g7 g8 g9 g10 g11 g12 g13 i hk) k ut tb tn sc hs rn wb ee we dr er pl un li ov vs ei dg wo pa ch fi H locs ls hsm htn hP hD hS hl
  · rw [h]
    refine lv_tableIn (pc := 33) (tgt := 505) (off := 472) hx hb dL_law_33 (by decide) (by decide) (by decide) (by decide) ?_
    exact lw_c15 l hL hx hb hml hown hts hX hbl hbA hA hK hE a0 a1 a2 a3 a4 a5 a6 a7 a8 a9 g0 g1 g2 g3 g4 g5 g6 g7 g8 g9 g10 g11 g12 g13 i hi (lw_back l hx hb a0 a1 a2 a3 a4 a5 a6 a7 a8 a9 g0 g1 g2 g3 g4 g5 g6 g7 g8 g9 g10 g11 g12 g13 i hk) k ut tb tn sc hs rn wb ee we dr er pl un li ov vs ei dg wo pa ch fi H locs ls hsm htn hP hD hS hl
  · rw [h]
    refine lv_tableIn (pc := 33) (tgt := 528) (off := 495) hx hb dL_law_33 (by decide) (by decide) (by decide) (by decide) ?_
    exact lw_c16 l hL hx hb hml hown hts hX hbl hbA hA hK hE a0 a1 a2 a3 a4 a5 a6 a7 a8 a9 g0 g1 g2 g3 g4 g5 g6 g7 g8 g9 g10 g11 g12 g13 i hi (lw_back l hx hb a0 a1 a2 a3 a4 a5 a6 a7 a8 a9 g0 g1 g2 g3 g4 g5 g6 g7 g8 g9 g10 g11 g12 g13 i hk) k ut tb tn sc hs rn wb ee we dr er pl un li ov vs ei dg wo pa ch fi H locs ls hsm htn hP hD hS hl
  · refine lv_tableOut (pc := 33) (tgt := 551) hx hb dL_law_33 h (by decide) ?_
    exact lw_back l hx hb a0 a1 a2 a3 a4 a5 a6 a7 a8 a9 g0 g1 g2 g3 g4 g5 g6 g7 g8 g9 g10 g11 g12 g13 i hk k ut tb tn sc hs rn wb ee we dr er pl un li ov vs ei dg wo pa ch fi H locs ls hsm htn hP hD hS hl
theorem law_loop {p : Program} {e : Env} {s : State} {m : MethodId} {below : List Frame} {meth : Method} {c : Code} (l : Launch) {b L : Nat} {xs : Nat → Int32} {dC : Nat → ClassId} {dI : Nat → Nat → Nat} {tt : Nat → Nat} {cI cB : ClassId} {A : Nat → Prop} (hL : L ≤ 3072) (hx : p.tables.exec = Jvm.exec) (hb : c.code = cL_law) (hml : c.maxLocals = 4) (hown : s.vm.findClass RL = some m.cls) (hts : ∀ w ∈ wsL_law, w.before #[Value.ref b] s = true) (hX : va_X b L xs s s.heap) (hbl : b < s.heap.size) (hbA : ¬ A b) (hA : ∀ q : Nat, s.heap.size ≤ q → A q) (hK : va_K (dC, dI) vwCl [(cI, .int), (cB, .byte)] s) (hE : xE tt [] A s s.heap) (hAr : ∀ q : Nat, A q → s.heap.size ≤ q) (hr : meth.sig.returnType = ret) (hlocks : meth.locks = false) (a0 a1 a2 a3 a4 a5 a6 a7 a8 a9 g0 g1 g2 g3 g4 g5 g6 g7 g8 g9 g10 g11 g12 g13 : Nat) : ∀ (n i : Nat), L < i + n → i ≤ 3072 + 6 → lwK p l e s m below meth c b dC dI cI cB A a0 a1 a2 a3 a4 a5 a6 a7 a8 a9 g0 g1 g2 g3 g4 g5 g6 g7 g8 g9 g10 g11 g12 g13 18 i := by
  intro n
  induction n with
  | zero =>
    intro i h1 h2
    exact law_body l hL hx hb hml hown hts hX hbl hbA hA hK hE hAr hr hlocks a0 a1 a2 a3 a4 a5 a6 a7 a8 a9 g0 g1 g2 g3 g4 g5 g6 g7 g8 g9 g10 g11 g12 g13 i (by omega) (fun h => absurd h (by omega))
  | succ n ih =>
    intro i h1 h2
    exact law_body l hL hx hb hml hown hts hX hbl hbA hA hK hE hAr hr hlocks a0 a1 a2 a3 a4 a5 a6 a7 a8 a9 g0 g1 g2 g3 g4 g5 g6 g7 g8 g9 g10 g11 g12 g13 i (by omega) (fun h => ih (i + 6) (by omega) (by omega))
