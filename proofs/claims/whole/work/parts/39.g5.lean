set_option maxHeartbeats 4000000 in
set_option maxRecDepth 100000 in
theorem kX4_block (l : Launch) (dC : Nat → ClassId) (dI : Nat → Nat → Nat) (tt : Nat → Nat) (cI cB : ClassId) (sz : Nat) (g0 g1 g2 g3 g4 g5 g6 g7 g8 g9 g10 g11 g12 g13 : Nat) (k : K0) (dr : Nat → Int8) (er pl : Nat → Int32) (un : Nat → Int8) (li : Nat) (ov : Int32) (tp : Nat → Int8) (tn : Nat) (rn : Bool) (vs bo ex wr : Int32) (ei dg : Nat → Int8) (wo : Nat → Int32) (pa : Nat → Int8) (ch fi : Nat → Int32) (q : Nat) (hq0 : q + 64 ≤ 1152) : MetV (S := ((Nat → Int32) × (Nat → Int32))) l yX4_block wsX4_block { frames := 1, cells := 0, slots := 0, locals := 21 } (dC, dI) [(cI, .int), (cB, .byte)] tt [] sz (gW g0 g1 g2 g3 g4 g5 g6 g7 g8 g9 g10 g11 g12 g13 cI cB k dr er pl un li ov tp tn rn vs bo ex wr ei dg wo pa ch fi) [.ref g0, .int (nI q)] (fun u : ((Nat → Int32) × (Nat → Int32)) => gW g0 g1 g2 g3 g4 g5 g6 g7 g8 g9 g10 g11 g12 g13 cI cB k dr er pl un li ov tp tn rn vs bo ex wr ei dg u.1 pa u.2 fi) (fun u => u.2 = addH ch (mixN (wN wo pa q 64) 64 (of8 ch))) := by
  refine Met.ofW (cc := cX4_block) (maxL := 13) (ret := none) (by decide) rfl ?_
  intro p e s m args below meth c s₁ B hml hv
  obtain ⟨rfl, hsz, hP, hK, hD0, hE⟩ := hv
  have hx := B.exec
  have hb := B.bytes
  have hr := B.returns
  have hts := atoms_spec (ws := wsX4_block) B.pre
  have hown : s.vm.findClass RX4 = some m.cls := findClass_of_methodNamed B.named
  have hlocks := B.notSynchronized
  subst hsz
  have hD := hD0.self (sz := s.heap.size)
  generalize hAe : va_A (gW g0 g1 g2 g3 g4 g5 g6 g7 g8 g9 g10 g11 g12 g13 cI cB k dr er pl un li ov tp tn rn vs bo ex wr ei dg wo pa ch fi) s.heap.size = A at hD hE ⊢
  have hA : ∀ q : Nat, s.heap.size ≤ q → A q := fun q h => by rw [← hAe]; exact Or.inr h
  have hS : va_S A s.heap s.heap [] := va_S.rf
  have hl := lv_entry ([.ref g0, .int (nI q)]) (n := 13) (Nat.le_of_ble_eq_true rfl)
  rw [lg_entry_eq]
  generalize (lg_sl ([.ref g0, .int (nI q)]) ++ List.replicate (13 - (lg_sl ([.ref g0, .int (nI q)])).length) Slot.unset).toArray = ls at hl ⊢
  have hl : lv_has ls 13 [(0, .ref g0), (1, .int (nI q))] := hl
  have hP : va_P (dC, dI) vwCl (gW g0 g1 g2 g3 g4 g5 g6 g7 g8 g9 g10 g11 g12 g13 cI cB k dr er pl un li ov tp tn rn vs bo ex wr ei dg wo pa ch fi) s.heap := hP
  refine lv_iconst (pc := 0) (v := nI 0) hx hb dX4_block_0 (by decide) ?_
  refine lv_istore_n (pc := 1) (lv' := [(2, .int (nI 0)), (0, .ref g0), (1, .int (nI q))]) hx hb dX4_block_1 rfl hl (by decide) rfl (fun ls hl => ?_)
  rw [← wN_0 wo pa q] at hP hD
  refine x_loop (σ := (Nat)) (Wd := fun i : (Nat) => gW g0 g1 g2 g3 g4 g5 g6 g7 g8 g9 g10 g11 g12 g13 cI cB k dr er pl un li ov tp tn rn vs bo ex wr ei dg (wN wo pa q i) pa ch fi) (Lv := fun i : (Nat) => [(2, .int (nI i)), (0, .ref g0), (1, .int (nI q))]) (I := fun i : (Nat) => (i ≤ 64)) (μ := fun i : (Nat) => 64 - i) ?_ (0) (by omega) hP hD hS (lv_sub hl [0, 1, 2] rfl)
  intro i H locs ls hI hP hD hS hl ih2
  have hi : (i ≤ 64) := hI
  have hP : va_P (dC, dI) vwCl (gW g0 g1 g2 g3 g4 g5 g6 g7 g8 g9 g10 g11 g12 g13 cI cB k dr er pl un li ov tp tn rn vs bo ex wr ei dg (wN wo pa q i) pa ch fi) _ := hP
  have hD : va_D A (gW g0 g1 g2 g3 g4 g5 g6 g7 g8 g9 g10 g11 g12 g13 cI cB k dr er pl un li ov tp tn rn vs bo ex wr ei dg (wN wo pa q i) pa ch fi) := hD
  have hl : lv_has ls 13 [(2, .int (nI i)), (0, .ref g0), (1, .int (nI q))] := hl
  refine lv_iload_n (pc := 2) hx hb dX4_block_2 rfl (lv_at hl 0 rfl) ?_
  refine lv_bipush (pc := 3) (v := nI 64) hx hb dX4_block_3 (by decide) ?_
  refine lv_icmp_ge (pc := 5) (tgt := 184) hx hb dX4_block_5 (by decide) (fun c1 => ?_) (fun c1 => ?_)
  · skip
    have c1 : 64 ≤ i := (nI_leI (a := 64) (b := i) (by omega) (by omega)).mp c1
    have hi9 : i = 64 := by omega
    subst hi9
    have hP : va_P (dC, dI) vwCl (gW g0 g1 g2 g3 g4 g5 g6 g7 g8 g9 g10 g11 g12 g13 cI cB k dr er pl un li ov tp tn rn vs bo ex wr ei dg (wN wo pa q 64) pa ch fi) _ := hP
    have hD : va_D A (gW g0 g1 g2 g3 g4 g5 g6 g7 g8 g9 g10 g11 g12 g13 cI cB k dr er pl un li ov tp tn rn vs bo ex wr ei dg (wN wo pa q 64) pa ch fi) := hD
    refine lv_aload_n (pc := 184) hx hb dX4_block_184 rfl (lv_at hl 1 rfl) ?_
    refine va_get (pc := 185) (D := (dC, dI)) (ci := 4) (v := .ref g12) (C := RX4) (T := TX4) (N := 26) hx hb hts (by decide +kernel) hown hK hP 0 rfl rfl 24 (by decide) (hts (.fieldLink RX4 48 "ScratchSwapModel" "chain" "[I") (by decide +kernel)) (fun _ h9 => h9) rfl dX4_block_185 ?_
    refine lv_iconst (pc := 188) (v := nI 0) hx hb dX4_block_188 (by decide) ?_
    refine x_iald (pc := 189) (k := 0) (f := ch) hx hb hK hP 12 0 rfl rfl (by omega) (by decide) dX4_block_189 ?_
    refine lv_istore_n (pc := 190) (lv' := [(2, .int (ch 0)), (0, .ref g0), (1, .int (nI q))]) hx hb dX4_block_190 rfl hl (by decide) rfl (fun ls hl => ?_)
    refine lv_aload_n (pc := 191) hx hb dX4_block_191 rfl (lv_at hl 1 rfl) ?_
    refine va_get (pc := 192) (D := (dC, dI)) (ci := 4) (v := .ref g12) (C := RX4) (T := TX4) (N := 26) hx hb hts (by decide +kernel) hown hK hP 0 rfl rfl 24 (by decide) (hts (.fieldLink RX4 48 "ScratchSwapModel" "chain" "[I") (by decide +kernel)) (fun _ h9 => h9) rfl dX4_block_192 ?_
    refine lv_iconst (pc := 195) (v := nI 1) hx hb dX4_block_195 (by decide) ?_
    refine x_iald (pc := 196) (k := 1) (f := ch) hx hb hK hP 12 0 rfl rfl (by omega) (by decide) dX4_block_196 ?_
    refine lv_istore_n (pc := 197) (lv' := [(3, .int (ch 1)), (2, .int (ch 0)), (0, .ref g0), (1, .int (nI q))]) hx hb dX4_block_197 rfl hl (by decide) rfl (fun ls hl => ?_)
    refine lv_aload_n (pc := 198) hx hb dX4_block_198 rfl (lv_at hl 2 rfl) ?_
    refine va_get (pc := 199) (D := (dC, dI)) (ci := 4) (v := .ref g12) (C := RX4) (T := TX4) (N := 26) hx hb hts (by decide +kernel) hown hK hP 0 rfl rfl 24 (by decide) (hts (.fieldLink RX4 48 "ScratchSwapModel" "chain" "[I") (by decide +kernel)) (fun _ h9 => h9) rfl dX4_block_199 ?_
    refine lv_iconst (pc := 202) (v := nI 2) hx hb dX4_block_202 (by decide) ?_
    refine x_iald (pc := 203) (k := 2) (f := ch) hx hb hK hP 12 0 rfl rfl (by omega) (by decide) dX4_block_203 ?_
    refine lv_istore (pc := 204) (lv' := [(4, .int (ch 2)), (3, .int (ch 1)), (2, .int (ch 0)), (0, .ref g0), (1, .int (nI q))]) hx hb dX4_block_204 hl (by decide) rfl (fun ls hl => ?_)
    refine lv_aload_n (pc := 206) hx hb dX4_block_206 rfl (lv_at hl 3 rfl) ?_
    refine va_get (pc := 207) (D := (dC, dI)) (ci := 4) (v := .ref g12) (C := RX4) (T := TX4) (N := 26) hx hb hts (by decide +kernel) hown hK hP 0 rfl rfl 24 (by decide) (hts (.fieldLink RX4 48 "ScratchSwapModel" "chain" "[I") (by decide +kernel)) (fun _ h9 => h9) rfl dX4_block_207 ?_
    refine lv_iconst (pc := 210) (v := nI 3) hx hb dX4_block_210 (by decide) ?_
    refine x_iald (pc := 211) (k := 3) (f := ch) hx hb hK hP 12 0 rfl rfl (by omega) (by decide) dX4_block_211 ?_
    refine lv_istore (pc := 212) (lv' := [(5, .int (ch 3)), (4, .int (ch 2)), (3, .int (ch 1)), (2, .int (ch 0)), (0, .ref g0), (1, .int (nI q))]) hx hb dX4_block_212 hl (by decide) rfl (fun ls hl => ?_)
    refine lv_aload_n (pc := 214) hx hb dX4_block_214 rfl (lv_at hl 4 rfl) ?_
    refine va_get (pc := 215) (D := (dC, dI)) (ci := 4) (v := .ref g12) (C := RX4) (T := TX4) (N := 26) hx hb hts (by decide +kernel) hown hK hP 0 rfl rfl 24 (by decide) (hts (.fieldLink RX4 48 "ScratchSwapModel" "chain" "[I") (by decide +kernel)) (fun _ h9 => h9) rfl dX4_block_215 ?_
    refine lv_iconst (pc := 218) (v := nI 4) hx hb dX4_block_218 (by decide) ?_
    refine x_iald (pc := 219) (k := 4) (f := ch) hx hb hK hP 12 0 rfl rfl (by omega) (by decide) dX4_block_219 ?_
    refine lv_istore (pc := 220) (lv' := [(6, .int (ch 4)), (5, .int (ch 3)), (4, .int (ch 2)), (3, .int (ch 1)), (2, .int (ch 0)), (0, .ref g0), (1, .int (nI q))]) hx hb dX4_block_220 hl (by decide) rfl (fun ls hl => ?_)
    refine lv_aload_n (pc := 222) hx hb dX4_block_222 rfl (lv_at hl 5 rfl) ?_
    refine va_get (pc := 223) (D := (dC, dI)) (ci := 4) (v := .ref g12) (C := RX4) (T := TX4) (N := 26) hx hb hts (by decide +kernel) hown hK hP 0 rfl rfl 24 (by decide) (hts (.fieldLink RX4 48 "ScratchSwapModel" "chain" "[I") (by decide +kernel)) (fun _ h9 => h9) rfl dX4_block_223 ?_
    refine lv_iconst (pc := 226) (v := nI 5) hx hb dX4_block_226 (by decide) ?_
    refine x_iald (pc := 227) (k := 5) (f := ch) hx hb hK hP 12 0 rfl rfl (by omega) (by decide) dX4_block_227 ?_
    refine lv_istore (pc := 228) (lv' := [(7, .int (ch 5)), (6, .int (ch 4)), (5, .int (ch 3)), (4, .int (ch 2)), (3, .int (ch 1)), (2, .int (ch 0)), (0, .ref g0), (1, .int (nI q))]) hx hb dX4_block_228 hl (by decide) rfl (fun ls hl => ?_)
    refine lv_aload_n (pc := 230) hx hb dX4_block_230 rfl (lv_at hl 6 rfl) ?_
    refine va_get (pc := 231) (D := (dC, dI)) (ci := 4) (v := .ref g12) (C := RX4) (T := TX4) (N := 26) hx hb hts (by decide +kernel) hown hK hP 0 rfl rfl 24 (by decide) (hts (.fieldLink RX4 48 "ScratchSwapModel" "chain" "[I") (by decide +kernel)) (fun _ h9 => h9) rfl dX4_block_231 ?_
    refine lv_bipush (pc := 234) (v := nI 6) hx hb dX4_block_234 (by decide) ?_
    refine x_iald (pc := 236) (k := 6) (f := ch) hx hb hK hP 12 0 rfl rfl (by omega) (by decide) dX4_block_236 ?_
    refine lv_istore (pc := 237) (lv' := [(8, .int (ch 6)), (7, .int (ch 5)), (6, .int (ch 4)), (5, .int (ch 3)), (4, .int (ch 2)), (3, .int (ch 1)), (2, .int (ch 0)), (0, .ref g0), (1, .int (nI q))]) hx hb dX4_block_237 hl (by decide) rfl (fun ls hl => ?_)
    refine lv_aload_n (pc := 239) hx hb dX4_block_239 rfl (lv_at hl 7 rfl) ?_
    refine va_get (pc := 240) (D := (dC, dI)) (ci := 4) (v := .ref g12) (C := RX4) (T := TX4) (N := 26) hx hb hts (by decide +kernel) hown hK hP 0 rfl rfl 24 (by decide) (hts (.fieldLink RX4 48 "ScratchSwapModel" "chain" "[I") (by decide +kernel)) (fun _ h9 => h9) rfl dX4_block_240 ?_
    refine lv_bipush (pc := 243) (v := nI 7) hx hb dX4_block_243 (by decide) ?_
    refine x_iald (pc := 245) (k := 7) (f := ch) hx hb hK hP 12 0 rfl rfl (by omega) (by decide) dX4_block_245 ?_
    refine lv_istore (pc := 246) (lv' := [(9, .int (ch 7)), (8, .int (ch 6)), (7, .int (ch 5)), (6, .int (ch 4)), (5, .int (ch 3)), (4, .int (ch 2)), (3, .int (ch 1)), (2, .int (ch 0)), (0, .ref g0), (1, .int (nI q))]) hx hb dX4_block_246 hl (by decide) rfl (fun ls hl => ?_)
    refine lv_iconst (pc := 248) (v := nI 0) hx hb dX4_block_248 (by decide) ?_
    refine lv_istore (pc := 249) (lv' := [(10, .int (nI 0)), (9, .int (ch 7)), (8, .int (ch 6)), (7, .int (ch 5)), (6, .int (ch 4)), (5, .int (ch 3)), (4, .int (ch 2)), (3, .int (ch 1)), (2, .int (ch 0)), (0, .ref g0), (1, .int (nI q))]) hx hb dX4_block_249 hl (by decide) rfl (fun ls hl => ?_)
    refine x_loop (σ := (Nat) × (Int32) × (Int32) × (Int32) × (Int32) × (Int32) × (Int32) × (Int32) × (Int32)) (Wd := fun x : (Nat) × (Int32) × (Int32) × (Int32) × (Int32) × (Int32) × (Int32) × (Int32) × (Int32) => match x with | (i, va, vb, vc, vd, ve, vf, vg, vh) => gW g0 g1 g2 g3 g4 g5 g6 g7 g8 g9 g10 g11 g12 g13 cI cB k dr er pl un li ov tp tn rn vs bo ex wr ei dg (wN wo pa q 64) pa ch fi) (Lv := fun x : (Nat) × (Int32) × (Int32) × (Int32) × (Int32) × (Int32) × (Int32) × (Int32) × (Int32) => match x with | (i, va, vb, vc, vd, ve, vf, vg, vh) => [(10, .int (nI i)), (9, .int vh), (8, .int vg), (7, .int vf), (6, .int ve), (5, .int vd), (4, .int vc), (3, .int vb), (2, .int va), (0, .ref g0)]) (I := fun x : (Nat) × (Int32) × (Int32) × (Int32) × (Int32) × (Int32) × (Int32) × (Int32) × (Int32) => match x with | (i, va, vb, vc, vd, ve, vf, vg, vh) => (i ≤ 64) ∧ ((va, vb, vc, vd, ve, vf, vg, vh) = mixN (wN wo pa q 64) i (of8 ch))) (μ := fun x : (Nat) × (Int32) × (Int32) × (Int32) × (Int32) × (Int32) × (Int32) × (Int32) × (Int32) => match x with | (i, va, vb, vc, vd, ve, vf, vg, vh) => 64 - i) ?_ (0, ch 0, ch 1, ch 2, ch 3, ch 4, ch 5, ch 6, ch 7) ⟨by omega, rfl⟩ hP hD hS (lv_sub hl [0, 1, 2, 3, 4, 5, 6, 7, 8, 9] rfl)
    intro x H locs ls hI hP hD hS hl ih251
    obtain ⟨i, va, vb, vc, vd, ve, vf, vg, vh⟩ := x
    obtain ⟨hi, hq⟩ : (i ≤ 64) ∧ ((va, vb, vc, vd, ve, vf, vg, vh) = mixN (wN wo pa q 64) i (of8 ch)) := hI
    have hP : va_P (dC, dI) vwCl (gW g0 g1 g2 g3 g4 g5 g6 g7 g8 g9 g10 g11 g12 g13 cI cB k dr er pl un li ov tp tn rn vs bo ex wr ei dg (wN wo pa q 64) pa ch fi) _ := hP
    have hD : va_D A (gW g0 g1 g2 g3 g4 g5 g6 g7 g8 g9 g10 g11 g12 g13 cI cB k dr er pl un li ov tp tn rn vs bo ex wr ei dg (wN wo pa q 64) pa ch fi) := hD
    have hl : lv_has ls 13 [(10, .int (nI i)), (9, .int vh), (8, .int vg), (7, .int vf), (6, .int ve), (5, .int vd), (4, .int vc), (3, .int vb), (2, .int va), (0, .ref g0)] := hl
    refine lv_iload (pc := 251) hx hb dX4_block_251 (lv_at hl 0 rfl) ?_
    refine lv_bipush (pc := 253) (v := nI 64) hx hb dX4_block_253 (by decide) ?_
    refine lv_icmp_ge (pc := 255) (tgt := 390) hx hb dX4_block_255 (by decide) (fun c_1 => ?_) (fun c_1 => ?_)
    · skip
      have c_1 : 64 ≤ i := (nI_leI (a := 64) (b := i) (by omega) (by omega)).mp c_1
      refine lv_aload_n (pc := 390) hx hb dX4_block_390 rfl (lv_at hl 9 rfl) ?_
      refine va_get (pc := 391) (D := (dC, dI)) (ci := 4) (v := .ref g12) (C := RX4) (T := TX4) (N := 26) hx hb hts (by decide +kernel) hown hK hP 0 rfl rfl 24 (by decide) (hts (.fieldLink RX4 48 "ScratchSwapModel" "chain" "[I") (by decide +kernel)) (fun _ h9 => h9) rfl dX4_block_391 ?_
      refine lv_iconst (pc := 394) (v := nI 0) hx hb dX4_block_394 (by decide) ?_
      refine lv_dup2_11 (pc := 395) hx hb dX4_block_395 rfl rfl ?_
      refine x_iald (pc := 396) (k := 0) (f := ch) hx hb hK hP 12 0 rfl rfl (by omega) (by decide) dX4_block_396 ?_
      refine lv_cv (show _ = ch 0 from rfl) ?_
      refine lv_iload_n (pc := 397) hx hb dX4_block_397 rfl (lv_at hl 8 rfl) ?_
      refine lv_iadd (pc := 398) hx hb dX4_block_398 ?_
      refine x_iast (pc := 399) (k := 0) (f := ch) hx hb hK hP hD hS 12 0 rfl rfl (by omega) (by decide) dX4_block_399 (fun H locs hP hD hS => ?_)
      have hP : va_P (dC, dI) vwCl (gW g0 g1 g2 g3 g4 g5 g6 g7 g8 g9 g10 g11 g12 g13 cI cB k dr er pl un li ov tp tn rn vs bo ex wr ei dg (wN wo pa q 64) pa (upd ch 0 ((ch 0) + va)) fi) _ := hP
      have hD : va_D A (gW g0 g1 g2 g3 g4 g5 g6 g7 g8 g9 g10 g11 g12 g13 cI cB k dr er pl un li ov tp tn rn vs bo ex wr ei dg (wN wo pa q 64) pa (upd ch 0 ((ch 0) + va)) fi) := hD
      refine lv_aload_n (pc := 400) hx hb dX4_block_400 rfl (lv_at hl 9 rfl) ?_
      refine va_get (pc := 401) (D := (dC, dI)) (ci := 4) (v := .ref g12) (C := RX4) (T := TX4) (N := 26) hx hb hts (by decide +kernel) hown hK hP 0 rfl rfl 24 (by decide) (hts (.fieldLink RX4 48 "ScratchSwapModel" "chain" "[I") (by decide +kernel)) (fun _ h9 => h9) rfl dX4_block_401 ?_
      refine lv_iconst (pc := 404) (v := nI 1) hx hb dX4_block_404 (by decide) ?_
      refine lv_dup2_11 (pc := 405) hx hb dX4_block_405 rfl rfl ?_
      refine x_iald (pc := 406) (k := 1) (f := upd ch 0 ((ch 0) + va)) hx hb hK hP 12 0 rfl rfl (by omega) (by decide) dX4_block_406 ?_
      refine lv_cv (show _ = ch 1 from rfl) ?_
      refine lv_iload_n (pc := 407) hx hb dX4_block_407 rfl (lv_at hl 7 rfl) ?_
      refine lv_iadd (pc := 408) hx hb dX4_block_408 ?_
      refine x_iast (pc := 409) (k := 1) (f := upd ch 0 ((ch 0) + va)) hx hb hK hP hD hS 12 0 rfl rfl (by omega) (by decide) dX4_block_409 (fun H locs hP hD hS => ?_)
      have hP : va_P (dC, dI) vwCl (gW g0 g1 g2 g3 g4 g5 g6 g7 g8 g9 g10 g11 g12 g13 cI cB k dr er pl un li ov tp tn rn vs bo ex wr ei dg (wN wo pa q 64) pa (upd (upd ch 0 ((ch 0) + va)) 1 ((ch 1) + vb)) fi) _ := hP
      have hD : va_D A (gW g0 g1 g2 g3 g4 g5 g6 g7 g8 g9 g10 g11 g12 g13 cI cB k dr er pl un li ov tp tn rn vs bo ex wr ei dg (wN wo pa q 64) pa (upd (upd ch 0 ((ch 0) + va)) 1 ((ch 1) + vb)) fi) := hD
      refine lv_aload_n (pc := 410) hx hb dX4_block_410 rfl (lv_at hl 9 rfl) ?_
      refine va_get (pc := 411) (D := (dC, dI)) (ci := 4) (v := .ref g12) (C := RX4) (T := TX4) (N := 26) hx hb hts (by decide +kernel) hown hK hP 0 rfl rfl 24 (by decide) (hts (.fieldLink RX4 48 "ScratchSwapModel" "chain" "[I") (by decide +kernel)) (fun _ h9 => h9) rfl dX4_block_411 ?_
      refine lv_iconst (pc := 414) (v := nI 2) hx hb dX4_block_414 (by decide) ?_
      refine lv_dup2_11 (pc := 415) hx hb dX4_block_415 rfl rfl ?_
      refine x_iald (pc := 416) (k := 2) (f := upd (upd ch 0 ((ch 0) + va)) 1 ((ch 1) + vb)) hx hb hK hP 12 0 rfl rfl (by omega) (by decide) dX4_block_416 ?_
      refine lv_cv (show _ = ch 2 from rfl) ?_
      refine lv_iload (pc := 417) hx hb dX4_block_417 (lv_at hl 6 rfl) ?_
      refine lv_iadd (pc := 419) hx hb dX4_block_419 ?_
      refine x_iast (pc := 420) (k := 2) (f := upd (upd ch 0 ((ch 0) + va)) 1 ((ch 1) + vb)) hx hb hK hP hD hS 12 0 rfl rfl (by omega) (by decide) dX4_block_420 (fun H locs hP hD hS => ?_)
      have hP : va_P (dC, dI) vwCl (gW g0 g1 g2 g3 g4 g5 g6 g7 g8 g9 g10 g11 g12 g13 cI cB k dr er pl un li ov tp tn rn vs bo ex wr ei dg (wN wo pa q 64) pa (upd (upd (upd ch 0 ((ch 0) + va)) 1 ((ch 1) + vb)) 2 ((ch 2) + vc)) fi) _ := hP
      have hD : va_D A (gW g0 g1 g2 g3 g4 g5 g6 g7 g8 g9 g10 g11 g12 g13 cI cB k dr er pl un li ov tp tn rn vs bo ex wr ei dg (wN wo pa q 64) pa (upd (upd (upd ch 0 ((ch 0) + va)) 1 ((ch 1) + vb)) 2 ((ch 2) + vc)) fi) := hD
      refine lv_aload_n (pc := 421) hx hb dX4_block_421 rfl (lv_at hl 9 rfl) ?_
      refine va_get (pc := 422) (D := (dC, dI)) (ci := 4) (v := .ref g12) (C := RX4) (T := TX4) (N := 26) hx hb hts (by decide +kernel) hown hK hP 0 rfl rfl 24 (by decide) (hts (.fieldLink RX4 48 "ScratchSwapModel" "chain" "[I") (by decide +kernel)) (fun _ h9 => h9) rfl dX4_block_422 ?_
      refine lv_iconst (pc := 425) (v := nI 3) hx hb dX4_block_425 (by decide) ?_
      refine lv_dup2_11 (pc := 426) hx hb dX4_block_426 rfl rfl ?_
      refine x_iald (pc := 427) (k := 3) (f := upd (upd (upd ch 0 ((ch 0) + va)) 1 ((ch 1) + vb)) 2 ((ch 2) + vc)) hx hb hK hP 12 0 rfl rfl (by omega) (by decide) dX4_block_427 ?_
      refine lv_cv (show _ = ch 3 from rfl) ?_
      refine lv_iload (pc := 428) hx hb dX4_block_428 (lv_at hl 5 rfl) ?_
      refine lv_iadd (pc := 430) hx hb dX4_block_430 ?_
      refine x_iast (pc := 431) (k := 3) (f := upd (upd (upd ch 0 ((ch 0) + va)) 1 ((ch 1) + vb)) 2 ((ch 2) + vc)) hx hb hK hP hD hS 12 0 rfl rfl (by omega) (by decide) dX4_block_431 (fun H locs hP hD hS => ?_)
      have hP : va_P (dC, dI) vwCl (gW g0 g1 g2 g3 g4 g5 g6 g7 g8 g9 g10 g11 g12 g13 cI cB k dr er pl un li ov tp tn rn vs bo ex wr ei dg (wN wo pa q 64) pa (upd (upd (upd (upd ch 0 ((ch 0) + va)) 1 ((ch 1) + vb)) 2 ((ch 2) + vc)) 3 ((ch 3) + vd)) fi) _ := hP
      have hD : va_D A (gW g0 g1 g2 g3 g4 g5 g6 g7 g8 g9 g10 g11 g12 g13 cI cB k dr er pl un li ov tp tn rn vs bo ex wr ei dg (wN wo pa q 64) pa (upd (upd (upd (upd ch 0 ((ch 0) + va)) 1 ((ch 1) + vb)) 2 ((ch 2) + vc)) 3 ((ch 3) + vd)) fi) := hD
      refine lv_aload_n (pc := 432) hx hb dX4_block_432 rfl (lv_at hl 9 rfl) ?_
      refine va_get (pc := 433) (D := (dC, dI)) (ci := 4) (v := .ref g12) (C := RX4) (T := TX4) (N := 26) hx hb hts (by decide +kernel) hown hK hP 0 rfl rfl 24 (by decide) (hts (.fieldLink RX4 48 "ScratchSwapModel" "chain" "[I") (by decide +kernel)) (fun _ h9 => h9) rfl dX4_block_433 ?_
      refine lv_iconst (pc := 436) (v := nI 4) hx hb dX4_block_436 (by decide) ?_
      refine lv_dup2_11 (pc := 437) hx hb dX4_block_437 rfl rfl ?_
      refine x_iald (pc := 438) (k := 4) (f := upd (upd (upd (upd ch 0 ((ch 0) + va)) 1 ((ch 1) + vb)) 2 ((ch 2) + vc)) 3 ((ch 3) + vd)) hx hb hK hP 12 0 rfl rfl (by omega) (by decide) dX4_block_438 ?_
      refine lv_cv (show _ = ch 4 from rfl) ?_
      refine lv_iload (pc := 439) hx hb dX4_block_439 (lv_at hl 4 rfl) ?_
      refine lv_iadd (pc := 441) hx hb dX4_block_441 ?_
      refine x_iast (pc := 442) (k := 4) (f := upd (upd (upd (upd ch 0 ((ch 0) + va)) 1 ((ch 1) + vb)) 2 ((ch 2) + vc)) 3 ((ch 3) + vd)) hx hb hK hP hD hS 12 0 rfl rfl (by omega) (by decide) dX4_block_442 (fun H locs hP hD hS => ?_)
      have hP : va_P (dC, dI) vwCl (gW g0 g1 g2 g3 g4 g5 g6 g7 g8 g9 g10 g11 g12 g13 cI cB k dr er pl un li ov tp tn rn vs bo ex wr ei dg (wN wo pa q 64) pa (upd (upd (upd (upd (upd ch 0 ((ch 0) + va)) 1 ((ch 1) + vb)) 2 ((ch 2) + vc)) 3 ((ch 3) + vd)) 4 ((ch 4) + ve)) fi) _ := hP
      have hD : va_D A (gW g0 g1 g2 g3 g4 g5 g6 g7 g8 g9 g10 g11 g12 g13 cI cB k dr er pl un li ov tp tn rn vs bo ex wr ei dg (wN wo pa q 64) pa (upd (upd (upd (upd (upd ch 0 ((ch 0) + va)) 1 ((ch 1) + vb)) 2 ((ch 2) + vc)) 3 ((ch 3) + vd)) 4 ((ch 4) + ve)) fi) := hD
      refine lv_aload_n (pc := 443) hx hb dX4_block_443 rfl (lv_at hl 9 rfl) ?_
      refine va_get (pc := 444) (D := (dC, dI)) (ci := 4) (v := .ref g12) (C := RX4) (T := TX4) (N := 26) hx hb hts (by decide +kernel) hown hK hP 0 rfl rfl 24 (by decide) (hts (.fieldLink RX4 48 "ScratchSwapModel" "chain" "[I") (by decide +kernel)) (fun _ h9 => h9) rfl dX4_block_444 ?_
      refine lv_iconst (pc := 447) (v := nI 5) hx hb dX4_block_447 (by decide) ?_
      refine lv_dup2_11 (pc := 448) hx hb dX4_block_448 rfl rfl ?_
      refine x_iald (pc := 449) (k := 5) (f := upd (upd (upd (upd (upd ch 0 ((ch 0) + va)) 1 ((ch 1) + vb)) 2 ((ch 2) + vc)) 3 ((ch 3) + vd)) 4 ((ch 4) + ve)) hx hb hK hP 12 0 rfl rfl (by omega) (by decide) dX4_block_449 ?_
      refine lv_cv (show _ = ch 5 from rfl) ?_
      refine lv_iload (pc := 450) hx hb dX4_block_450 (lv_at hl 3 rfl) ?_
      refine lv_iadd (pc := 452) hx hb dX4_block_452 ?_
      refine x_iast (pc := 453) (k := 5) (f := upd (upd (upd (upd (upd ch 0 ((ch 0) + va)) 1 ((ch 1) + vb)) 2 ((ch 2) + vc)) 3 ((ch 3) + vd)) 4 ((ch 4) + ve)) hx hb hK hP hD hS 12 0 rfl rfl (by omega) (by decide) dX4_block_453 (fun H locs hP hD hS => ?_)
      have hP : va_P (dC, dI) vwCl (gW g0 g1 g2 g3 g4 g5 g6 g7 g8 g9 g10 g11 g12 g13 cI cB k dr er pl un li ov tp tn rn vs bo ex wr ei dg (wN wo pa q 64) pa (upd (upd (upd (upd (upd (upd ch 0 ((ch 0) + va)) 1 ((ch 1) + vb)) 2 ((ch 2) + vc)) 3 ((ch 3) + vd)) 4 ((ch 4) + ve)) 5 ((ch 5) + vf)) fi) _ := hP
      have hD : va_D A (gW g0 g1 g2 g3 g4 g5 g6 g7 g8 g9 g10 g11 g12 g13 cI cB k dr er pl un li ov tp tn rn vs bo ex wr ei dg (wN wo pa q 64) pa (upd (upd (upd (upd (upd (upd ch 0 ((ch 0) + va)) 1 ((ch 1) + vb)) 2 ((ch 2) + vc)) 3 ((ch 3) + vd)) 4 ((ch 4) + ve)) 5 ((ch 5) + vf)) fi) := hD
      refine lv_aload_n (pc := 454) hx hb dX4_block_454 rfl (lv_at hl 9 rfl) ?_
      refine va_get (pc := 455) (D := (dC, dI)) (ci := 4) (v := .ref g12) (C := RX4) (T := TX4) (N := 26) hx hb hts (by decide +kernel) hown hK hP 0 rfl rfl 24 (by decide) (hts (.fieldLink RX4 48 "ScratchSwapModel" "chain" "[I") (by decide +kernel)) (fun _ h9 => h9) rfl dX4_block_455 ?_
      refine lv_bipush (pc := 458) (v := nI 6) hx hb dX4_block_458 (by decide) ?_
      refine lv_dup2_11 (pc := 460) hx hb dX4_block_460 rfl rfl ?_
      refine x_iald (pc := 461) (k := 6) (f := upd (upd (upd (upd (upd (upd ch 0 ((ch 0) + va)) 1 ((ch 1) + vb)) 2 ((ch 2) + vc)) 3 ((ch 3) + vd)) 4 ((ch 4) + ve)) 5 ((ch 5) + vf)) hx hb hK hP 12 0 rfl rfl (by omega) (by decide) dX4_block_461 ?_
      refine lv_cv (show _ = ch 6 from rfl) ?_
      refine lv_iload (pc := 462) hx hb dX4_block_462 (lv_at hl 2 rfl) ?_
      refine lv_iadd (pc := 464) hx hb dX4_block_464 ?_
      refine x_iast (pc := 465) (k := 6) (f := upd (upd (upd (upd (upd (upd ch 0 ((ch 0) + va)) 1 ((ch 1) + vb)) 2 ((ch 2) + vc)) 3 ((ch 3) + vd)) 4 ((ch 4) + ve)) 5 ((ch 5) + vf)) hx hb hK hP hD hS 12 0 rfl rfl (by omega) (by decide) dX4_block_465 (fun H locs hP hD hS => ?_)
      have hP : va_P (dC, dI) vwCl (gW g0 g1 g2 g3 g4 g5 g6 g7 g8 g9 g10 g11 g12 g13 cI cB k dr er pl un li ov tp tn rn vs bo ex wr ei dg (wN wo pa q 64) pa (upd (upd (upd (upd (upd (upd (upd ch 0 ((ch 0) + va)) 1 ((ch 1) + vb)) 2 ((ch 2) + vc)) 3 ((ch 3) + vd)) 4 ((ch 4) + ve)) 5 ((ch 5) + vf)) 6 ((ch 6) + vg)) fi) _ := hP
      have hD : va_D A (gW g0 g1 g2 g3 g4 g5 g6 g7 g8 g9 g10 g11 g12 g13 cI cB k dr er pl un li ov tp tn rn vs bo ex wr ei dg (wN wo pa q 64) pa (upd (upd (upd (upd (upd (upd (upd ch 0 ((ch 0) + va)) 1 ((ch 1) + vb)) 2 ((ch 2) + vc)) 3 ((ch 3) + vd)) 4 ((ch 4) + ve)) 5 ((ch 5) + vf)) 6 ((ch 6) + vg)) fi) := hD
      refine lv_aload_n (pc := 466) hx hb dX4_block_466 rfl (lv_at hl 9 rfl) ?_
      refine va_get (pc := 467) (D := (dC, dI)) (ci := 4) (v := .ref g12) (C := RX4) (T := TX4) (N := 26) hx hb hts (by decide +kernel) hown hK hP 0 rfl rfl 24 (by decide) (hts (.fieldLink RX4 48 "ScratchSwapModel" "chain" "[I") (by decide +kernel)) (fun _ h9 => h9) rfl dX4_block_467 ?_
      refine lv_bipush (pc := 470) (v := nI 7) hx hb dX4_block_470 (by decide) ?_
      refine lv_dup2_11 (pc := 472) hx hb dX4_block_472 rfl rfl ?_
      refine x_iald (pc := 473) (k := 7) (f := upd (upd (upd (upd (upd (upd (upd ch 0 ((ch 0) + va)) 1 ((ch 1) + vb)) 2 ((ch 2) + vc)) 3 ((ch 3) + vd)) 4 ((ch 4) + ve)) 5 ((ch 5) + vf)) 6 ((ch 6) + vg)) hx hb hK hP 12 0 rfl rfl (by omega) (by decide) dX4_block_473 ?_
      refine lv_cv (show _ = ch 7 from rfl) ?_
      refine lv_iload (pc := 474) hx hb dX4_block_474 (lv_at hl 1 rfl) ?_
      refine lv_iadd (pc := 476) hx hb dX4_block_476 ?_
      refine x_iast (pc := 477) (k := 7) (f := upd (upd (upd (upd (upd (upd (upd ch 0 ((ch 0) + va)) 1 ((ch 1) + vb)) 2 ((ch 2) + vc)) 3 ((ch 3) + vd)) 4 ((ch 4) + ve)) 5 ((ch 5) + vf)) 6 ((ch 6) + vg)) hx hb hK hP hD hS 12 0 rfl rfl (by omega) (by decide) dX4_block_477 (fun H locs hP hD hS => ?_)
      have hP : va_P (dC, dI) vwCl (gW g0 g1 g2 g3 g4 g5 g6 g7 g8 g9 g10 g11 g12 g13 cI cB k dr er pl un li ov tp tn rn vs bo ex wr ei dg (wN wo pa q 64) pa (upd (upd (upd (upd (upd (upd (upd (upd ch 0 ((ch 0) + va)) 1 ((ch 1) + vb)) 2 ((ch 2) + vc)) 3 ((ch 3) + vd)) 4 ((ch 4) + ve)) 5 ((ch 5) + vf)) 6 ((ch 6) + vg)) 7 ((ch 7) + vh)) fi) _ := hP
      have hD : va_D A (gW g0 g1 g2 g3 g4 g5 g6 g7 g8 g9 g10 g11 g12 g13 cI cB k dr er pl un li ov tp tn rn vs bo ex wr ei dg (wN wo pa q 64) pa (upd (upd (upd (upd (upd (upd (upd (upd ch 0 ((ch 0) + va)) 1 ((ch 1) + vb)) 2 ((ch 2) + vc)) 3 ((ch 3) + vd)) 4 ((ch 4) + ve)) 5 ((ch 5) + vf)) 6 ((ch 6) + vg)) 7 ((ch 7) + vh)) fi) := hD
      have hi9 : i = 64 := by omega
      rw [hi9] at hq
      exact W.vret hx hb hr (fun t ht hW => ⟨⟨(wN wo pa q 64, upd (upd (upd (upd (upd (upd (upd (upd ch 0 ((ch 0) + va)) 1 ((ch 1) + vb)) 2 ((ch 2) + vc)) 3 ((ch 3) + vd)) 4 ((ch 4) + ve)) 5 ((ch 5) + vf)) 6 ((ch 6) + vg)) 7 ((ch 7) + vh)), rfl, by rw [← hq]; rfl, by show va_P _ _ _ t.heap; rw [ht]; exact hP, va_K.moved hW.alike hK, hD⟩, hS.F ht⟩) hS.2.2 dX4_block_478
    · skip
      have c_1 : ¬ 64 ≤ i := fun z => c_1 ((nI_leI (a := 64) (b := i) (by omega) (by omega)).mpr z)
      refine lv_iload (pc := 258) hx hb dX4_block_258 (lv_at hl 1 rfl) ?_
      refine lv_iload (pc := 260) hx hb dX4_block_260 (lv_at hl 4 rfl) ?_
      refine lv_bipush (pc := 262) (v := nI 6) hx hb dX4_block_262 (by decide) ?_
      refine x_roi (pc := 264) (va_runS (As := [.int ve, .int (nI 6)]) (rest := [.int vh]) ⟨hx, hb, hml, hown, hts⟩ (kX4_turned l dC dI tt cI cB _ ve 6 (by omega)) (va_cwS 2 hts gX4_block_X4_turned rfl rfl rfl (by decide +kernel) ⟨Nat.le_of_ble_eq_true rfl, Nat.le_of_ble_eq_true rfl⟩) (x_preS hS hE hK hP hD [] rfl (by decide) (x_ro hS hA) xR0) rfl rfl hl.1 rfl (lv_room (Nat.le_of_ble_eq_true rfl)) dX4_block_264 ⟨Nat.le_of_ble_eq_true rfl, Nat.le_of_ble_eq_true rfl⟩) hS hA hP (fun r_2 H locs hr_2 hP hS => ?_)
      subst hr_2
      refine lv_iload (pc := 267) hx hb dX4_block_267 (lv_at hl 4 rfl) ?_
      refine lv_bipush (pc := 269) (v := nI 11) hx hb dX4_block_269 (by decide) ?_
      refine x_roi (pc := 271) (va_runS (As := [.int ve, .int (nI 11)]) (rest := [.int (trn ve 6), .int vh]) ⟨hx, hb, hml, hown, hts⟩ (kX4_turned l dC dI tt cI cB _ ve 11 (by omega)) (va_cwS 2 hts gX4_block_X4_turned rfl rfl rfl (by decide +kernel) ⟨Nat.le_of_ble_eq_true rfl, Nat.le_of_ble_eq_true rfl⟩) (x_preS hS hE hK hP hD [] rfl (by decide) (x_ro hS hA) xR0) rfl rfl hl.1 rfl (lv_room (Nat.le_of_ble_eq_true rfl)) dX4_block_271 ⟨Nat.le_of_ble_eq_true rfl, Nat.le_of_ble_eq_true rfl⟩) hS hA hP (fun r_3 H locs hr_3 hP hS => ?_)
      subst hr_3
      refine lv_ixor (pc := 274) hx hb dX4_block_274 ?_
      refine lv_iload (pc := 275) hx hb dX4_block_275 (lv_at hl 4 rfl) ?_
      refine lv_bipush (pc := 277) (v := nI 25) hx hb dX4_block_277 (by decide) ?_
      refine x_roi (pc := 279) (va_runS (As := [.int ve, .int (nI 25)]) (rest := [.int ((trn ve 6) ^^^ (trn ve 11)), .int vh]) ⟨hx, hb, hml, hown, hts⟩ (kX4_turned l dC dI tt cI cB _ ve 25 (by omega)) (va_cwS 2 hts gX4_block_X4_turned rfl rfl rfl (by decide +kernel) ⟨Nat.le_of_ble_eq_true rfl, Nat.le_of_ble_eq_true rfl⟩) (x_preS hS hE hK hP hD [] rfl (by decide) (x_ro hS hA) xR0) rfl rfl hl.1 rfl (lv_room (Nat.le_of_ble_eq_true rfl)) dX4_block_279 ⟨Nat.le_of_ble_eq_true rfl, Nat.le_of_ble_eq_true rfl⟩) hS hA hP (fun r_4 H locs hr_4 hP hS => ?_)
      subst hr_4
      refine lv_ixor (pc := 282) hx hb dX4_block_282 ?_
      refine lv_iadd (pc := 283) hx hb dX4_block_283 ?_
      refine lv_iload (pc := 284) hx hb dX4_block_284 (lv_at hl 4 rfl) ?_
      refine lv_iload (pc := 286) hx hb dX4_block_286 (lv_at hl 3 rfl) ?_
      refine lv_iand (pc := 288) hx hb dX4_block_288 ?_
      refine lv_iload (pc := 289) hx hb dX4_block_289 (lv_at hl 4 rfl) ?_
      refine lv_iconst (pc := 291) (v := (-1)) hx hb dX4_block_291 (by decide) ?_
      refine lv_ixor (pc := 292) hx hb dX4_block_292 ?_
      refine lv_iload (pc := 293) hx hb dX4_block_293 (lv_at hl 2 rfl) ?_
      refine lv_iand (pc := 295) hx hb dX4_block_295 ?_
      refine lv_ixor (pc := 296) hx hb dX4_block_296 ?_
      refine lv_iadd (pc := 297) hx hb dX4_block_297 ?_
      refine va_gets (pc := 298) hx hb (hE.2.2.2.2.2.2.2.1).1 hS hown (hts (.fieldLink RX4 130 "ScratchSwapModel" "ROUNDS" "[I") (by decide +kernel)) (fun _ h9 => h9) dX4_block_298 ?_
      refine lv_iload (pc := 301) hx hb dX4_block_301 (lv_at hl 0 rfl) ?_
      refine x_ti (pc := 303) (k := i) hx hb (hE.2.2.2.2.2.2.2.1).2 hS (by omega) (by decide) dX4_block_303 ?_
      refine lv_iadd (pc := 304) hx hb dX4_block_304 ?_
      refine lv_aload_n (pc := 305) hx hb dX4_block_305 rfl (lv_at hl 9 rfl) ?_
      refine va_get (pc := 306) (D := (dC, dI)) (ci := 4) (v := .ref g10) (C := RX4) (T := TX4) (N := 26) hx hb hts (by decide +kernel) hown hK hP 0 rfl rfl 22 (by decide) (hts (.fieldLink RX4 42 "ScratchSwapModel" "words" "[I") (by decide +kernel)) (fun _ h9 => h9) rfl dX4_block_306 ?_
      refine lv_iload (pc := 309) hx hb dX4_block_309 (lv_at hl 0 rfl) ?_
      refine x_iald (pc := 311) (k := i) (f := wN wo pa q 64) hx hb hK hP 10 0 rfl rfl (by omega) (by decide) dX4_block_311 ?_
      refine lv_iadd (pc := 312) hx hb dX4_block_312 ?_
      refine lv_cv (show _ = one1 ve vf vg vh (tbR i) (wN wo pa q 64 i) from rfl) ?_
      refine lv_istore (pc := 313) (lv' := [(11, .int (one1 ve vf vg vh (tbR i) (wN wo pa q 64 i))), (10, .int (nI i)), (9, .int vh), (8, .int vg), (7, .int vf), (6, .int ve), (5, .int vd), (4, .int vc), (3, .int vb), (2, .int va), (0, .ref g0)]) hx hb dX4_block_313 hl (by decide) rfl (fun ls hl => ?_)
      refine lv_iload_n (pc := 315) hx hb dX4_block_315 rfl (lv_at hl 9 rfl) ?_
      refine lv_iconst (pc := 316) (v := nI 2) hx hb dX4_block_316 (by decide) ?_
      refine x_roi (pc := 317) (va_runS (As := [.int va, .int (nI 2)]) (rest := []) ⟨hx, hb, hml, hown, hts⟩ (kX4_turned l dC dI tt cI cB _ va 2 (by omega)) (va_cwS 2 hts gX4_block_X4_turned rfl rfl rfl (by decide +kernel) ⟨Nat.le_of_ble_eq_true rfl, Nat.le_of_ble_eq_true rfl⟩) (x_preS hS hE hK hP hD [] rfl (by decide) (x_ro hS hA) xR0) rfl rfl hl.1 rfl (lv_room (Nat.le_of_ble_eq_true rfl)) dX4_block_317 ⟨Nat.le_of_ble_eq_true rfl, Nat.le_of_ble_eq_true rfl⟩) hS hA hP (fun r_5 H locs hr_5 hP hS => ?_)
      subst hr_5
      refine lv_iload_n (pc := 320) hx hb dX4_block_320 rfl (lv_at hl 9 rfl) ?_
      refine lv_bipush (pc := 321) (v := nI 13) hx hb dX4_block_321 (by decide) ?_
      refine x_roi (pc := 323) (va_runS (As := [.int va, .int (nI 13)]) (rest := [.int (trn va 2)]) ⟨hx, hb, hml, hown, hts⟩ (kX4_turned l dC dI tt cI cB _ va 13 (by omega)) (va_cwS 2 hts gX4_block_X4_turned rfl rfl rfl (by decide +kernel) ⟨Nat.le_of_ble_eq_true rfl, Nat.le_of_ble_eq_true rfl⟩) (x_preS hS hE hK hP hD [] rfl (by decide) (x_ro hS hA) xR0) rfl rfl hl.1 rfl (lv_room (Nat.le_of_ble_eq_true rfl)) dX4_block_323 ⟨Nat.le_of_ble_eq_true rfl, Nat.le_of_ble_eq_true rfl⟩) hS hA hP (fun r_6 H locs hr_6 hP hS => ?_)
      subst hr_6
      refine lv_ixor (pc := 326) hx hb dX4_block_326 ?_
      refine lv_iload_n (pc := 327) hx hb dX4_block_327 rfl (lv_at hl 9 rfl) ?_
      refine lv_bipush (pc := 328) (v := nI 22) hx hb dX4_block_328 (by decide) ?_
      refine x_roi (pc := 330) (va_runS (As := [.int va, .int (nI 22)]) (rest := [.int ((trn va 2) ^^^ (trn va 13))]) ⟨hx, hb, hml, hown, hts⟩ (kX4_turned l dC dI tt cI cB _ va 22 (by omega)) (va_cwS 2 hts gX4_block_X4_turned rfl rfl rfl (by decide +kernel) ⟨Nat.le_of_ble_eq_true rfl, Nat.le_of_ble_eq_true rfl⟩) (x_preS hS hE hK hP hD [] rfl (by decide) (x_ro hS hA) xR0) rfl rfl hl.1 rfl (lv_room (Nat.le_of_ble_eq_true rfl)) dX4_block_330 ⟨Nat.le_of_ble_eq_true rfl, Nat.le_of_ble_eq_true rfl⟩) hS hA hP (fun r_7 H locs hr_7 hP hS => ?_)
      subst hr_7
      refine lv_ixor (pc := 333) hx hb dX4_block_333 ?_
      refine lv_iload_n (pc := 334) hx hb dX4_block_334 rfl (lv_at hl 9 rfl) ?_
      refine lv_iload_n (pc := 335) hx hb dX4_block_335 rfl (lv_at hl 8 rfl) ?_
      refine lv_iand (pc := 336) hx hb dX4_block_336 ?_
      refine lv_iload_n (pc := 337) hx hb dX4_block_337 rfl (lv_at hl 9 rfl) ?_
      refine lv_iload (pc := 338) hx hb dX4_block_338 (lv_at hl 7 rfl) ?_
      refine lv_iand (pc := 340) hx hb dX4_block_340 ?_
      refine lv_ixor (pc := 341) hx hb dX4_block_341 ?_
      refine lv_iload_n (pc := 342) hx hb dX4_block_342 rfl (lv_at hl 8 rfl) ?_
      refine lv_iload (pc := 343) hx hb dX4_block_343 (lv_at hl 7 rfl) ?_
      refine lv_iand (pc := 345) hx hb dX4_block_345 ?_
      refine lv_ixor (pc := 346) hx hb dX4_block_346 ?_
      refine lv_iadd (pc := 347) hx hb dX4_block_347 ?_
      refine lv_cv (show _ = two1 va vb vc from rfl) ?_
      refine lv_istore (pc := 348) (lv' := [(12, .int (two1 va vb vc)), (11, .int (one1 ve vf vg vh (tbR i) (wN wo pa q 64 i))), (10, .int (nI i)), (9, .int vh), (8, .int vg), (7, .int vf), (6, .int ve), (5, .int vd), (4, .int vc), (3, .int vb), (2, .int va), (0, .ref g0)]) hx hb dX4_block_348 hl (by decide) rfl (fun ls hl => ?_)
      refine lv_iload (pc := 350) hx hb dX4_block_350 (lv_at hl 4 rfl) ?_
      refine lv_istore (pc := 352) (lv' := [(9, .int vg), (12, .int (two1 va vb vc)), (11, .int (one1 ve vf vg vh (tbR i) (wN wo pa q 64 i))), (10, .int (nI i)), (8, .int vg), (7, .int vf), (6, .int ve), (5, .int vd), (4, .int vc), (3, .int vb), (2, .int va), (0, .ref g0)]) hx hb dX4_block_352 hl (by decide) rfl (fun ls hl => ?_)
      refine lv_iload (pc := 354) hx hb dX4_block_354 (lv_at hl 5 rfl) ?_
      refine lv_istore (pc := 356) (lv' := [(8, .int vf), (9, .int vg), (12, .int (two1 va vb vc)), (11, .int (one1 ve vf vg vh (tbR i) (wN wo pa q 64 i))), (10, .int (nI i)), (7, .int vf), (6, .int ve), (5, .int vd), (4, .int vc), (3, .int vb), (2, .int va), (0, .ref g0)]) hx hb dX4_block_356 hl (by decide) rfl (fun ls hl => ?_)
      refine lv_iload (pc := 358) hx hb dX4_block_358 (lv_at hl 6 rfl) ?_
      refine lv_istore (pc := 360) (lv' := [(7, .int ve), (8, .int vf), (9, .int vg), (12, .int (two1 va vb vc)), (11, .int (one1 ve vf vg vh (tbR i) (wN wo pa q 64 i))), (10, .int (nI i)), (6, .int ve), (5, .int vd), (4, .int vc), (3, .int vb), (2, .int va), (0, .ref g0)]) hx hb dX4_block_360 hl (by decide) rfl (fun ls hl => ?_)
      refine lv_iload (pc := 362) hx hb dX4_block_362 (lv_at hl 7 rfl) ?_
      refine lv_iload (pc := 364) hx hb dX4_block_364 (lv_at hl 4 rfl) ?_
      refine lv_iadd (pc := 366) hx hb dX4_block_366 ?_
      refine lv_istore (pc := 367) (lv' := [(6, .int (vd + (one1 ve vf vg vh (tbR i) (wN wo pa q 64 i)))), (7, .int ve), (8, .int vf), (9, .int vg), (12, .int (two1 va vb vc)), (11, .int (one1 ve vf vg vh (tbR i) (wN wo pa q 64 i))), (10, .int (nI i)), (5, .int vd), (4, .int vc), (3, .int vb), (2, .int va), (0, .ref g0)]) hx hb dX4_block_367 hl (by decide) rfl (fun ls hl => ?_)
      refine lv_iload (pc := 369) hx hb dX4_block_369 (lv_at hl 8 rfl) ?_
      refine lv_istore (pc := 371) (lv' := [(5, .int vc), (6, .int (vd + (one1 ve vf vg vh (tbR i) (wN wo pa q 64 i)))), (7, .int ve), (8, .int vf), (9, .int vg), (12, .int (two1 va vb vc)), (11, .int (one1 ve vf vg vh (tbR i) (wN wo pa q 64 i))), (10, .int (nI i)), (4, .int vc), (3, .int vb), (2, .int va), (0, .ref g0)]) hx hb dX4_block_371 hl (by decide) rfl (fun ls hl => ?_)
      refine lv_iload_n (pc := 373) hx hb dX4_block_373 rfl (lv_at hl 9 rfl) ?_
      refine lv_istore (pc := 374) (lv' := [(4, .int vb), (5, .int vc), (6, .int (vd + (one1 ve vf vg vh (tbR i) (wN wo pa q 64 i)))), (7, .int ve), (8, .int vf), (9, .int vg), (12, .int (two1 va vb vc)), (11, .int (one1 ve vf vg vh (tbR i) (wN wo pa q 64 i))), (10, .int (nI i)), (3, .int vb), (2, .int va), (0, .ref g0)]) hx hb dX4_block_374 hl (by decide) rfl (fun ls hl => ?_)
      refine lv_iload_n (pc := 376) hx hb dX4_block_376 rfl (lv_at hl 10 rfl) ?_
      refine lv_istore_n (pc := 377) (lv' := [(3, .int va), (4, .int vb), (5, .int vc), (6, .int (vd + (one1 ve vf vg vh (tbR i) (wN wo pa q 64 i)))), (7, .int ve), (8, .int vf), (9, .int vg), (12, .int (two1 va vb vc)), (11, .int (one1 ve vf vg vh (tbR i) (wN wo pa q 64 i))), (10, .int (nI i)), (2, .int va), (0, .ref g0)]) hx hb dX4_block_377 rfl hl (by decide) rfl (fun ls hl => ?_)
      refine lv_iload (pc := 378) hx hb dX4_block_378 (lv_at hl 8 rfl) ?_
      refine lv_iload (pc := 380) hx hb dX4_block_380 (lv_at hl 7 rfl) ?_
      refine lv_iadd (pc := 382) hx hb dX4_block_382 ?_
      refine lv_istore_n (pc := 383) (lv' := [(2, .int ((one1 ve vf vg vh (tbR i) (wN wo pa q 64 i)) + (two1 va vb vc))), (3, .int va), (4, .int vb), (5, .int vc), (6, .int (vd + (one1 ve vf vg vh (tbR i) (wN wo pa q 64 i)))), (7, .int ve), (8, .int vf), (9, .int vg), (12, .int (two1 va vb vc)), (11, .int (one1 ve vf vg vh (tbR i) (wN wo pa q 64 i))), (10, .int (nI i)), (0, .ref g0)]) hx hb dX4_block_383 rfl hl (by decide) rfl (fun ls hl => ?_)
      refine lv_iinc (pc := 384) (v := nI (i + 1)) (lv' := [(10, .int (nI (i + 1))), (2, .int ((one1 ve vf vg vh (tbR i) (wN wo pa q 64 i)) + (two1 va vb vc))), (3, .int va), (4, .int vb), (5, .int vc), (6, .int (vd + (one1 ve vf vg vh (tbR i) (wN wo pa q 64 i)))), (7, .int ve), (8, .int vf), (9, .int vg), (12, .int (two1 va vb vc)), (11, .int (one1 ve vf vg vh (tbR i) (wN wo pa q 64 i))), (0, .ref g0)]) hx hb dX4_block_384 hl (k := 10) rfl (nI_inc i 1) (by decide) rfl (fun ls hl => ?_)
      refine lv_goto (pc := 387) (tgt := 251) hx hb dX4_block_387 (by decide) ?_
      exact ih251 (i + 1, (one1 ve vf vg vh (tbR i) (wN wo pa q 64 i)) + (two1 va vb vc), va, vb, vc, vd + (one1 ve vf vg vh (tbR i) (wN wo pa q 64 i)), ve, vf, vg) H locs ls ⟨by omega, by rw [mixN_s, ← hq]; rfl⟩ (by first | omega | (simp only []; omega)) hP hD hS (lv_sub hl [0, 8, 7, 6, 5, 4, 3, 2, 1, 11] rfl)
  · skip
    have c1 : ¬ 64 ≤ i := fun z => c1 ((nI_leI (a := 64) (b := i) (by omega) (by omega)).mpr z)
    refine lv_iload_n (pc := 8) hx hb dX4_block_8 rfl (lv_at hl 0 rfl) ?_
    refine lv_bipush (pc := 9) (v := nI 16) hx hb dX4_block_9 (by decide) ?_
    refine lv_icmp_ge (pc := 11) (tgt := 93) hx hb dX4_block_11 (by decide) (fun c2 => ?_) (fun c2 => ?_)
    · skip
      have c2 : 16 ≤ i := (nI_leI (a := 16) (b := i) (by omega) (by omega)).mp c2
      refine lv_aload_n (pc := 93) hx hb dX4_block_93 rfl (lv_at hl 1 rfl) ?_
      refine va_get (pc := 94) (D := (dC, dI)) (ci := 4) (v := .ref g10) (C := RX4) (T := TX4) (N := 26) hx hb hts (by decide +kernel) hown hK hP 0 rfl rfl 22 (by decide) (hts (.fieldLink RX4 42 "ScratchSwapModel" "words" "[I") (by decide +kernel)) (fun _ h9 => h9) rfl dX4_block_94 ?_
      refine lv_iload_n (pc := 97) hx hb dX4_block_97 rfl (lv_at hl 0 rfl) ?_
      refine lv_bipush (pc := 98) (v := nI 15) hx hb dX4_block_98 (by decide) ?_
      refine lv_isub (pc := 100) hx hb dX4_block_100 ?_
      refine lv_cv (pk_sub (a := i) (b := 15) (by omega)) ?_
      refine x_iald (pc := 101) (k := i - 15) (f := wN wo pa q i) hx hb hK hP 10 0 rfl rfl (by omega) (by decide) dX4_block_101 ?_
      refine lv_istore_n (pc := 102) (lv' := [(3, .int ((wN wo pa q i) (i - 15))), (2, .int (nI i)), (0, .ref g0), (1, .int (nI q))]) hx hb dX4_block_102 rfl hl (by decide) rfl (fun ls hl => ?_)
      refine lv_aload_n (pc := 103) hx hb dX4_block_103 rfl (lv_at hl 2 rfl) ?_
      refine va_get (pc := 104) (D := (dC, dI)) (ci := 4) (v := .ref g10) (C := RX4) (T := TX4) (N := 26) hx hb hts (by decide +kernel) hown hK hP 0 rfl rfl 22 (by decide) (hts (.fieldLink RX4 42 "ScratchSwapModel" "words" "[I") (by decide +kernel)) (fun _ h9 => h9) rfl dX4_block_104 ?_
      refine lv_iload_n (pc := 107) hx hb dX4_block_107 rfl (lv_at hl 1 rfl) ?_
      refine lv_iconst (pc := 108) (v := nI 2) hx hb dX4_block_108 (by decide) ?_
      refine lv_isub (pc := 109) hx hb dX4_block_109 ?_
      refine lv_cv (pk_sub (a := i) (b := 2) (by omega)) ?_
      refine x_iald (pc := 110) (k := i - 2) (f := wN wo pa q i) hx hb hK hP 10 0 rfl rfl (by omega) (by decide) dX4_block_110 ?_
      refine lv_istore (pc := 111) (lv' := [(4, .int ((wN wo pa q i) (i - 2))), (3, .int ((wN wo pa q i) (i - 15))), (2, .int (nI i)), (0, .ref g0), (1, .int (nI q))]) hx hb dX4_block_111 hl (by decide) rfl (fun ls hl => ?_)
      refine lv_aload_n (pc := 113) hx hb dX4_block_113 rfl (lv_at hl 3 rfl) ?_
      refine va_get (pc := 114) (D := (dC, dI)) (ci := 4) (v := .ref g10) (C := RX4) (T := TX4) (N := 26) hx hb hts (by decide +kernel) hown hK hP 0 rfl rfl 22 (by decide) (hts (.fieldLink RX4 42 "ScratchSwapModel" "words" "[I") (by decide +kernel)) (fun _ h9 => h9) rfl dX4_block_114 ?_
      refine lv_iload_n (pc := 117) hx hb dX4_block_117 rfl (lv_at hl 2 rfl) ?_
      refine lv_aload_n (pc := 118) hx hb dX4_block_118 rfl (lv_at hl 3 rfl) ?_
      refine va_get (pc := 119) (D := (dC, dI)) (ci := 4) (v := .ref g10) (C := RX4) (T := TX4) (N := 26) hx hb hts (by decide +kernel) hown hK hP 0 rfl rfl 22 (by decide) (hts (.fieldLink RX4 42 "ScratchSwapModel" "words" "[I") (by decide +kernel)) (fun _ h9 => h9) rfl dX4_block_119 ?_
      refine lv_iload_n (pc := 122) hx hb dX4_block_122 rfl (lv_at hl 2 rfl) ?_
      refine lv_bipush (pc := 123) (v := nI 16) hx hb dX4_block_123 (by decide) ?_
      refine lv_isub (pc := 125) hx hb dX4_block_125 ?_
      refine lv_cv (pk_sub (a := i) (b := 16) (by omega)) ?_
      refine x_iald (pc := 126) (k := i - 16) (f := wN wo pa q i) hx hb hK hP 10 0 rfl rfl (by omega) (by decide) dX4_block_126 ?_
      refine lv_aload_n (pc := 127) hx hb dX4_block_127 rfl (lv_at hl 3 rfl) ?_
      refine va_get (pc := 128) (D := (dC, dI)) (ci := 4) (v := .ref g10) (C := RX4) (T := TX4) (N := 26) hx hb hts (by decide +kernel) hown hK hP 0 rfl rfl 22 (by decide) (hts (.fieldLink RX4 42 "ScratchSwapModel" "words" "[I") (by decide +kernel)) (fun _ h9 => h9) rfl dX4_block_128 ?_
      refine lv_iload_n (pc := 131) hx hb dX4_block_131 rfl (lv_at hl 2 rfl) ?_
      refine lv_bipush (pc := 132) (v := nI 7) hx hb dX4_block_132 (by decide) ?_
      refine lv_isub (pc := 134) hx hb dX4_block_134 ?_
      refine lv_cv (pk_sub (a := i) (b := 7) (by omega)) ?_
      refine x_iald (pc := 135) (k := i - 7) (f := wN wo pa q i) hx hb hK hP 10 0 rfl rfl (by omega) (by decide) dX4_block_135 ?_
      refine lv_iadd (pc := 136) hx hb dX4_block_136 ?_
      refine lv_iload_n (pc := 137) hx hb dX4_block_137 rfl (lv_at hl 1 rfl) ?_
      refine lv_bipush (pc := 138) (v := nI 7) hx hb dX4_block_138 (by decide) ?_
      refine x_roi (pc := 140) (va_runS (As := [.int ((wN wo pa q i) (i - 15)), .int (nI 7)]) (rest := [.int (((wN wo pa q i) (i - 16)) + ((wN wo pa q i) (i - 7))), .int (nI i), .ref g10]) ⟨hx, hb, hml, hown, hts⟩ (kX4_turned l dC dI tt cI cB _ ((wN wo pa q i) (i - 15)) 7 (by omega)) (va_cwS 2 hts gX4_block_X4_turned rfl rfl rfl (by decide +kernel) ⟨Nat.le_of_ble_eq_true rfl, Nat.le_of_ble_eq_true rfl⟩) (x_preS hS hE hK hP hD [] rfl (by decide) (x_ro hS hA) xR0) rfl rfl hl.1 rfl (lv_room (Nat.le_of_ble_eq_true rfl)) dX4_block_140 ⟨Nat.le_of_ble_eq_true rfl, Nat.le_of_ble_eq_true rfl⟩) hS hA hP (fun r_8 H locs hr_8 hP hS => ?_)
      subst hr_8
      refine lv_iload_n (pc := 143) hx hb dX4_block_143 rfl (lv_at hl 1 rfl) ?_
      refine lv_bipush (pc := 144) (v := nI 18) hx hb dX4_block_144 (by decide) ?_
      refine x_roi (pc := 146) (va_runS (As := [.int ((wN wo pa q i) (i - 15)), .int (nI 18)]) (rest := [.int (trn ((wN wo pa q i) (i - 15)) 7), .int (((wN wo pa q i) (i - 16)) + ((wN wo pa q i) (i - 7))), .int (nI i), .ref g10]) ⟨hx, hb, hml, hown, hts⟩ (kX4_turned l dC dI tt cI cB _ ((wN wo pa q i) (i - 15)) 18 (by omega)) (va_cwS 2 hts gX4_block_X4_turned rfl rfl rfl (by decide +kernel) ⟨Nat.le_of_ble_eq_true rfl, Nat.le_of_ble_eq_true rfl⟩) (x_preS hS hE hK hP hD [] rfl (by decide) (x_ro hS hA) xR0) rfl rfl hl.1 rfl (lv_room (Nat.le_of_ble_eq_true rfl)) dX4_block_146 ⟨Nat.le_of_ble_eq_true rfl, Nat.le_of_ble_eq_true rfl⟩) hS hA hP (fun r_9 H locs hr_9 hP hS => ?_)
      subst hr_9
      refine lv_ixor (pc := 149) hx hb dX4_block_149 ?_
      refine lv_iload_n (pc := 150) hx hb dX4_block_150 rfl (lv_at hl 1 rfl) ?_
      refine lv_iconst (pc := 151) (v := nI 3) hx hb dX4_block_151 (by decide) ?_
      refine lv_iushr (pc := 152) hx hb dX4_block_152 rfl ?_
      refine lv_ixor (pc := 153) hx hb dX4_block_153 ?_
      refine lv_cv (show _ = sS0 (wN wo pa q i (i - 15)) from rfl) ?_
      refine lv_iadd (pc := 154) hx hb dX4_block_154 ?_
      refine lv_iload (pc := 155) hx hb dX4_block_155 (lv_at hl 0 rfl) ?_
      refine lv_bipush (pc := 157) (v := nI 17) hx hb dX4_block_157 (by decide) ?_
      refine x_roi (pc := 159) (va_runS (As := [.int ((wN wo pa q i) (i - 2)), .int (nI 17)]) (rest := [.int ((((wN wo pa q i) (i - 16)) + ((wN wo pa q i) (i - 7))) + (sS0 (wN wo pa q i (i - 15)))), .int (nI i), .ref g10]) ⟨hx, hb, hml, hown, hts⟩ (kX4_turned l dC dI tt cI cB _ ((wN wo pa q i) (i - 2)) 17 (by omega)) (va_cwS 2 hts gX4_block_X4_turned rfl rfl rfl (by decide +kernel) ⟨Nat.le_of_ble_eq_true rfl, Nat.le_of_ble_eq_true rfl⟩) (x_preS hS hE hK hP hD [] rfl (by decide) (x_ro hS hA) xR0) rfl rfl hl.1 rfl (lv_room (Nat.le_of_ble_eq_true rfl)) dX4_block_159 ⟨Nat.le_of_ble_eq_true rfl, Nat.le_of_ble_eq_true rfl⟩) hS hA hP (fun r_10 H locs hr_10 hP hS => ?_)
      subst hr_10
      refine lv_iload (pc := 162) hx hb dX4_block_162 (lv_at hl 0 rfl) ?_
      refine lv_bipush (pc := 164) (v := nI 19) hx hb dX4_block_164 (by decide) ?_
      refine x_roi (pc := 166) (va_runS (As := [.int ((wN wo pa q i) (i - 2)), .int (nI 19)]) (rest := [.int (trn ((wN wo pa q i) (i - 2)) 17), .int ((((wN wo pa q i) (i - 16)) + ((wN wo pa q i) (i - 7))) + (sS0 (wN wo pa q i (i - 15)))), .int (nI i), .ref g10]) ⟨hx, hb, hml, hown, hts⟩ (kX4_turned l dC dI tt cI cB _ ((wN wo pa q i) (i - 2)) 19 (by omega)) (va_cwS 2 hts gX4_block_X4_turned rfl rfl rfl (by decide +kernel) ⟨Nat.le_of_ble_eq_true rfl, Nat.le_of_ble_eq_true rfl⟩) (x_preS hS hE hK hP hD [] rfl (by decide) (x_ro hS hA) xR0) rfl rfl hl.1 rfl (lv_room (Nat.le_of_ble_eq_true rfl)) dX4_block_166 ⟨Nat.le_of_ble_eq_true rfl, Nat.le_of_ble_eq_true rfl⟩) hS hA hP (fun r_11 H locs hr_11 hP hS => ?_)
      subst hr_11
      refine lv_ixor (pc := 169) hx hb dX4_block_169 ?_
      refine lv_iload (pc := 170) hx hb dX4_block_170 (lv_at hl 0 rfl) ?_
      refine lv_bipush (pc := 172) (v := nI 10) hx hb dX4_block_172 (by decide) ?_
      refine lv_iushr (pc := 174) hx hb dX4_block_174 rfl ?_
      refine lv_ixor (pc := 175) hx hb dX4_block_175 ?_
      refine lv_cv (show _ = sS1 (wN wo pa q i (i - 2)) from rfl) ?_
      refine lv_iadd (pc := 176) hx hb dX4_block_176 ?_
      refine x_iast (pc := 177) (k := i) (f := wN wo pa q i) hx hb hK hP hD hS 10 0 rfl rfl (by omega) (by decide) dX4_block_177 (fun H locs hP hD hS => ?_)
      have hP : va_P (dC, dI) vwCl (gW g0 g1 g2 g3 g4 g5 g6 g7 g8 g9 g10 g11 g12 g13 cI cB k dr er pl un li ov tp tn rn vs bo ex wr ei dg (upd (wN wo pa q i) i (((((wN wo pa q i) (i - 16)) + ((wN wo pa q i) (i - 7))) + (sS0 (wN wo pa q i (i - 15)))) + (sS1 (wN wo pa q i (i - 2))))) pa ch fi) _ := hP
      have hD : va_D A (gW g0 g1 g2 g3 g4 g5 g6 g7 g8 g9 g10 g11 g12 g13 cI cB k dr er pl un li ov tp tn rn vs bo ex wr ei dg (upd (wN wo pa q i) i (((((wN wo pa q i) (i - 16)) + ((wN wo pa q i) (i - 7))) + (sS0 (wN wo pa q i (i - 15)))) + (sS1 (wN wo pa q i (i - 2))))) pa ch fi) := hD
      refine lv_iinc (pc := 178) (v := nI (i + 1)) (lv' := [(2, .int (nI (i + 1))), (4, .int ((wN wo pa q i) (i - 2))), (3, .int ((wN wo pa q i) (i - 15))), (0, .ref g0), (1, .int (nI q))]) hx hb dX4_block_178 hl (k := 2) rfl (nI_inc i 1) (by decide) rfl (fun ls hl => ?_)
      refine lv_goto (pc := 181) (tgt := 2) hx hb dX4_block_181 (by decide) ?_
      rw [wN_b _ _ _ (by omega)] at hP hD
      exact ih2 (i + 1) H locs ls (by omega) (by first | omega | (simp only []; omega)) hP hD hS (lv_sub hl [0, 3, 4] rfl)
    · skip
      have c2 : ¬ 16 ≤ i := fun z => c2 ((nI_leI (a := 16) (b := i) (by omega) (by omega)).mpr z)
      refine lv_aload_n (pc := 14) hx hb dX4_block_14 rfl (lv_at hl 1 rfl) ?_
      refine va_get (pc := 15) (D := (dC, dI)) (ci := 4) (v := .ref g10) (C := RX4) (T := TX4) (N := 26) hx hb hts (by decide +kernel) hown hK hP 0 rfl rfl 22 (by decide) (hts (.fieldLink RX4 42 "ScratchSwapModel" "words" "[I") (by decide +kernel)) (fun _ h9 => h9) rfl dX4_block_15 ?_
      refine lv_iload_n (pc := 18) hx hb dX4_block_18 rfl (lv_at hl 0 rfl) ?_
      refine lv_aload_n (pc := 19) hx hb dX4_block_19 rfl (lv_at hl 1 rfl) ?_
      refine va_get (pc := 20) (D := (dC, dI)) (ci := 4) (v := .ref g11) (C := RX4) (T := TX4) (N := 26) hx hb hts (by decide +kernel) hown hK hP 0 rfl rfl 23 (by decide) (hts (.fieldLink RX4 45 "ScratchSwapModel" "padded" "[B") (by decide +kernel)) (fun _ h9 => h9) rfl dX4_block_20 ?_
      refine lv_iload_n (pc := 23) hx hb dX4_block_23 rfl (lv_at hl 2 rfl) ?_
      refine lv_iconst (pc := 24) (v := nI 4) hx hb dX4_block_24 (by decide) ?_
      refine lv_iload_n (pc := 25) hx hb dX4_block_25 rfl (lv_at hl 0 rfl) ?_
      refine lv_imul (pc := 26) hx hb dX4_block_26 ?_
      refine lv_cv (x_mulc 4 i) ?_
      refine lv_iadd (pc := 27) hx hb dX4_block_27 ?_
      refine lv_cv (nI_add q (i * 4)) ?_
      refine x_bald (pc := 28) (k := q + (i * 4)) (f := fun j => Int8.toInt32 (pa j)) hx hb hK hP 11 1 rfl rfl (by omega) (by decide) dX4_block_28 ?_
      refine lv_bipush (pc := 29) (v := nI 24) hx hb dX4_block_29 (by decide) ?_
      refine lv_ishl (pc := 31) hx hb dX4_block_31 ?_
      refine lv_aload_n (pc := 32) hx hb dX4_block_32 rfl (lv_at hl 1 rfl) ?_
      refine va_get (pc := 33) (D := (dC, dI)) (ci := 4) (v := .ref g11) (C := RX4) (T := TX4) (N := 26) hx hb hts (by decide +kernel) hown hK hP 0 rfl rfl 23 (by decide) (hts (.fieldLink RX4 45 "ScratchSwapModel" "padded" "[B") (by decide +kernel)) (fun _ h9 => h9) rfl dX4_block_33 ?_
      refine lv_iload_n (pc := 36) hx hb dX4_block_36 rfl (lv_at hl 2 rfl) ?_
      refine lv_iconst (pc := 37) (v := nI 4) hx hb dX4_block_37 (by decide) ?_
      refine lv_iload_n (pc := 38) hx hb dX4_block_38 rfl (lv_at hl 0 rfl) ?_
      refine lv_imul (pc := 39) hx hb dX4_block_39 ?_
      refine lv_cv (x_mulc 4 i) ?_
      refine lv_iadd (pc := 40) hx hb dX4_block_40 ?_
      refine lv_cv (nI_add q (i * 4)) ?_
      refine lv_iconst (pc := 41) (v := nI 1) hx hb dX4_block_41 (by decide) ?_
      refine lv_iadd (pc := 42) hx hb dX4_block_42 ?_
      refine lv_cv (nI_add (q + (i * 4)) 1) ?_
      refine x_bald (pc := 43) (k := (q + (i * 4)) + 1) (f := fun j => Int8.toInt32 (pa j)) hx hb hK hP 11 1 rfl rfl (by omega) (by decide) dX4_block_43 ?_
      refine lv_sipush (pc := 44) (v := nI 255) hx hb dX4_block_44 (by decide) ?_
      refine lv_iand (pc := 47) hx hb dX4_block_47 ?_
      refine lv_cv (rfl) ?_
      refine lv_bipush (pc := 48) (v := nI 16) hx hb dX4_block_48 (by decide) ?_
      refine lv_ishl (pc := 50) hx hb dX4_block_50 ?_
      refine lv_ior (pc := 51) hx hb dX4_block_51 ?_
      refine lv_aload_n (pc := 52) hx hb dX4_block_52 rfl (lv_at hl 1 rfl) ?_
      refine va_get (pc := 53) (D := (dC, dI)) (ci := 4) (v := .ref g11) (C := RX4) (T := TX4) (N := 26) hx hb hts (by decide +kernel) hown hK hP 0 rfl rfl 23 (by decide) (hts (.fieldLink RX4 45 "ScratchSwapModel" "padded" "[B") (by decide +kernel)) (fun _ h9 => h9) rfl dX4_block_53 ?_
      refine lv_iload_n (pc := 56) hx hb dX4_block_56 rfl (lv_at hl 2 rfl) ?_
      refine lv_iconst (pc := 57) (v := nI 4) hx hb dX4_block_57 (by decide) ?_
      refine lv_iload_n (pc := 58) hx hb dX4_block_58 rfl (lv_at hl 0 rfl) ?_
      refine lv_imul (pc := 59) hx hb dX4_block_59 ?_
      refine lv_cv (x_mulc 4 i) ?_
      refine lv_iadd (pc := 60) hx hb dX4_block_60 ?_
      refine lv_cv (nI_add q (i * 4)) ?_
      refine lv_iconst (pc := 61) (v := nI 2) hx hb dX4_block_61 (by decide) ?_
      refine lv_iadd (pc := 62) hx hb dX4_block_62 ?_
      refine lv_cv (nI_add (q + (i * 4)) 2) ?_
      refine x_bald (pc := 63) (k := (q + (i * 4)) + 2) (f := fun j => Int8.toInt32 (pa j)) hx hb hK hP 11 1 rfl rfl (by omega) (by decide) dX4_block_63 ?_
      refine lv_sipush (pc := 64) (v := nI 255) hx hb dX4_block_64 (by decide) ?_
      refine lv_iand (pc := 67) hx hb dX4_block_67 ?_
      refine lv_cv (rfl) ?_
      refine lv_bipush (pc := 68) (v := nI 8) hx hb dX4_block_68 (by decide) ?_
      refine lv_ishl (pc := 70) hx hb dX4_block_70 ?_
      refine lv_ior (pc := 71) hx hb dX4_block_71 ?_
      refine lv_aload_n (pc := 72) hx hb dX4_block_72 rfl (lv_at hl 1 rfl) ?_
      refine va_get (pc := 73) (D := (dC, dI)) (ci := 4) (v := .ref g11) (C := RX4) (T := TX4) (N := 26) hx hb hts (by decide +kernel) hown hK hP 0 rfl rfl 23 (by decide) (hts (.fieldLink RX4 45 "ScratchSwapModel" "padded" "[B") (by decide +kernel)) (fun _ h9 => h9) rfl dX4_block_73 ?_
      refine lv_iload_n (pc := 76) hx hb dX4_block_76 rfl (lv_at hl 2 rfl) ?_
      refine lv_iconst (pc := 77) (v := nI 4) hx hb dX4_block_77 (by decide) ?_
      refine lv_iload_n (pc := 78) hx hb dX4_block_78 rfl (lv_at hl 0 rfl) ?_
      refine lv_imul (pc := 79) hx hb dX4_block_79 ?_
      refine lv_cv (x_mulc 4 i) ?_
      refine lv_iadd (pc := 80) hx hb dX4_block_80 ?_
      refine lv_cv (nI_add q (i * 4)) ?_
      refine lv_iconst (pc := 81) (v := nI 3) hx hb dX4_block_81 (by decide) ?_
      refine lv_iadd (pc := 82) hx hb dX4_block_82 ?_
      refine lv_cv (nI_add (q + (i * 4)) 3) ?_
      refine x_bald (pc := 83) (k := (q + (i * 4)) + 3) (f := fun j => Int8.toInt32 (pa j)) hx hb hK hP 11 1 rfl rfl (by omega) (by decide) dX4_block_83 ?_
      refine lv_sipush (pc := 84) (v := nI 255) hx hb dX4_block_84 (by decide) ?_
      refine lv_iand (pc := 87) hx hb dX4_block_87 ?_
      refine lv_cv (rfl) ?_
      refine lv_ior (pc := 88) hx hb dX4_block_88 ?_
      refine lv_cv (wd4_pw pa (q + i * 4)) ?_
      refine x_iast (pc := 89) (k := i) (f := wN wo pa q i) hx hb hK hP hD hS 10 0 rfl rfl (by omega) (by decide) dX4_block_89 (fun H locs hP hD hS => ?_)
      have hP : va_P (dC, dI) vwCl (gW g0 g1 g2 g3 g4 g5 g6 g7 g8 g9 g10 g11 g12 g13 cI cB k dr er pl un li ov tp tn rn vs bo ex wr ei dg (upd (wN wo pa q i) i (pw pa (q + i * 4) 4)) pa ch fi) _ := hP
      have hD : va_D A (gW g0 g1 g2 g3 g4 g5 g6 g7 g8 g9 g10 g11 g12 g13 cI cB k dr er pl un li ov tp tn rn vs bo ex wr ei dg (upd (wN wo pa q i) i (pw pa (q + i * 4) 4)) pa ch fi) := hD
      refine lv_goto (pc := 90) (tgt := 178) hx hb dX4_block_90 (by decide) ?_
      refine lv_iinc (pc := 178) (v := nI (i + 1)) (lv' := [(2, .int (nI (i + 1))), (0, .ref g0), (1, .int (nI q))]) hx hb dX4_block_178 hl (k := 0) rfl (nI_inc i 1) (by decide) rfl (fun ls hl => ?_)
      refine lv_goto (pc := 181) (tgt := 2) hx hb dX4_block_181 (by decide) ?_
      rw [wN_a _ _ _ (by omega)] at hP hD
      exact ih2 (i + 1) H locs ls (by omega) (by first | omega | (simp only []; omega)) hP hD hS (lv_sub hl [0, 1, 2] rfl)
set_option maxHeartbeats 4000000 in
set_option maxRecDepth 100000 in
theorem kX4_shaF (l : Launch) (dC : Nat → ClassId) (dI : Nat → Nat → Nat) (tt : Nat → Nat) (cI cB : ClassId) (sz : Nat) (g0 g1 g2 g3 g4 g5 g6 g7 g8 g9 g10 g11 g12 g13 : Nat) (k : K0) (dr : Nat → Int8) (er pl : Nat → Int32) (un : Nat → Int8) (li : Nat) (ov : Int32) (tp : Nat → Int8) (tn : Nat) (rn : Bool) (vs bo ex wr : Int32) (ei dg : Nat → Int8) (wo : Nat → Int32) (pa : Nat → Int8) (ch fi : Nat → Int32) (fo len : Nat) (hfl : fo + len ≤ 2816) (hlen : len ≤ 1024) : MetV (S := ((Nat → Int8) × (Nat → Int32) × (Nat → Int8) × (Nat → Int32))) l yX4_sha wsX4_sha { frames := 2, cells := 0, slots := 0, locals := 53 } (dC, dI) [(cI, .int), (cB, .byte)] tt [] sz (gW g0 g1 g2 g3 g4 g5 g6 g7 g8 g9 g10 g11 g12 g13 cI cB k dr er pl un li ov tp tn rn vs bo ex wr ei dg wo pa ch fi) [.ref g0, .ref g1, .int (nI fo), .int (nI len)] (fun u : ((Nat → Int8) × (Nat → Int32) × (Nat → Int8) × (Nat → Int32)) => gW g0 g1 g2 g3 g4 g5 g6 g7 g8 g9 g10 g11 g12 g13 cI cB k dr er pl un li ov tp tn rn vs bo ex wr ei u.1 u.2.1 u.2.2.1 u.2.2.2 fi) (fun u => ∀ j, j < 32 → u.1 j = digT (sha8 k.1 fo len) j) := by
  refine Met.ofW (cc := cX4_sha) (maxL := 6) (ret := none) (by decide) rfl ?_
  intro p e s m args below meth c s₁ B hml hv
  obtain ⟨rfl, hsz, hP, hK, hD0, hE⟩ := hv
  have hx := B.exec
  have hb := B.bytes
  have hr := B.returns
  have hts := atoms_spec (ws := wsX4_sha) B.pre
  have hown : s.vm.findClass RX4 = some m.cls := findClass_of_methodNamed B.named
  have hlocks := B.notSynchronized
  subst hsz
  obtain ⟨G, kr⟩ := k
  have hD := hD0.self (sz := s.heap.size)
  generalize hAe : va_A (gW g0 g1 g2 g3 g4 g5 g6 g7 g8 g9 g10 g11 g12 g13 cI cB (G, kr) dr er pl un li ov tp tn rn vs bo ex wr ei dg wo pa ch fi) s.heap.size = A at hD hE ⊢
  have hA : ∀ q : Nat, s.heap.size ≤ q → A q := fun q h => by rw [← hAe]; exact Or.inr h
  have hS : va_S A s.heap s.heap [] := va_S.rf
  have hl := lv_entry ([.ref g0, .ref g1, .int (nI fo), .int (nI len)]) (n := 6) (Nat.le_of_ble_eq_true rfl)
  rw [lg_entry_eq]
  generalize (lg_sl ([.ref g0, .ref g1, .int (nI fo), .int (nI len)]) ++ List.replicate (6 - (lg_sl ([.ref g0, .ref g1, .int (nI fo), .int (nI len)])).length) Slot.unset).toArray = ls at hl ⊢
  have hl : lv_has ls 6 [(0, .ref g0), (1, .ref g1), (2, .int (nI fo)), (3, .int (nI len))] := hl
  have hP : va_P (dC, dI) vwCl (gW g0 g1 g2 g3 g4 g5 g6 g7 g8 g9 g10 g11 g12 g13 cI cB (G, kr) dr er pl un li ov tp tn rn vs bo ex wr ei dg wo pa ch fi) s.heap := hP
  refine lv_iload_n (pc := 0) hx hb dX4_sha_0 rfl (lv_at hl 3 rfl) ?_
  refine lv_bipush (pc := 1) (v := nI 9) hx hb dX4_sha_1 (by decide) ?_
  refine lv_iadd (pc := 3) hx hb dX4_sha_3 ?_
  refine lv_cv (nI_add len 9) ?_
  refine lv_bipush (pc := 4) (v := nI 63) hx hb dX4_sha_4 (by decide) ?_
  refine lv_iadd (pc := 6) hx hb dX4_sha_6 ?_
  refine lv_cv (nI_add (len + 9) 63) ?_
  refine lv_bipush (pc := 7) (v := nI 64) hx hb dX4_sha_7 (by decide) ?_
  refine lv_idiv (pc := 9) hx hb dX4_sha_9 (nI_ne0 (by omega) (by omega)) ?_
  refine lv_cv (pk_div (a := ((len + 9) + 63)) (d := 64) (by omega) (by omega) (by omega)) ?_
  refine lv_bipush (pc := 10) (v := nI 64) hx hb dX4_sha_10 (by decide) ?_
  refine lv_imul (pc := 12) hx hb dX4_sha_12 ?_
  refine lv_cv (pk_mul (((len + 9) + 63) / 64) 64) ?_
  refine lv_cv (congrArg nI (show (len + 9 + 63) / 64 * 64 = ((len + 8) / 64 + 1) * 64 by omega)) ?_
  refine lv_istore (pc := 13) (lv' := [(4, .int (nI (((len + 8) / 64 + 1) * 64))), (0, .ref g0), (1, .ref g1), (2, .int (nI fo)), (3, .int (nI len))]) hx hb dX4_sha_13 hl (by decide) rfl (fun ls hl => ?_)
  refine lv_iconst (pc := 15) (v := nI 0) hx hb dX4_sha_15 (by decide) ?_
  refine lv_istore (pc := 16) (lv' := [(5, .int (nI 0)), (4, .int (nI (((len + 8) / 64 + 1) * 64))), (0, .ref g0), (1, .ref g1), (2, .int (nI fo)), (3, .int (nI len))]) hx hb dX4_sha_16 hl (by decide) rfl (fun ls hl => ?_)
  rw [← cpF_0 pa (pad8 G fo len)] at hP hD
  refine x_loop (σ := (Nat)) (Wd := fun i : (Nat) => gW g0 g1 g2 g3 g4 g5 g6 g7 g8 g9 g10 g11 g12 g13 cI cB (G, kr) dr er pl un li ov tp tn rn vs bo ex wr ei dg wo (cpF pa (pad8 G fo len) i) ch fi) (Lv := fun i : (Nat) => [(5, .int (nI i)), (4, .int (nI (((len + 8) / 64 + 1) * 64))), (0, .ref g0), (1, .ref g1), (2, .int (nI fo)), (3, .int (nI len))]) (I := fun i : (Nat) => (i ≤ ((len + 8) / 64 + 1) * 64)) (μ := fun i : (Nat) => ((len + 8) / 64 + 1) * 64 - i) ?_ (0) (by omega) hP hD hS (lv_sub hl [0, 1, 2, 3, 4, 5] rfl)
  intro i H locs ls hI hP hD hS hl ih18
  have hi : (i ≤ ((len + 8) / 64 + 1) * 64) := hI
  have hP : va_P (dC, dI) vwCl (gW g0 g1 g2 g3 g4 g5 g6 g7 g8 g9 g10 g11 g12 g13 cI cB (G, kr) dr er pl un li ov tp tn rn vs bo ex wr ei dg wo (cpF pa (pad8 G fo len) i) ch fi) _ := hP
  have hD : va_D A (gW g0 g1 g2 g3 g4 g5 g6 g7 g8 g9 g10 g11 g12 g13 cI cB (G, kr) dr er pl un li ov tp tn rn vs bo ex wr ei dg wo (cpF pa (pad8 G fo len) i) ch fi) := hD
  have hl : lv_has ls 6 [(5, .int (nI i)), (4, .int (nI (((len + 8) / 64 + 1) * 64))), (0, .ref g0), (1, .ref g1), (2, .int (nI fo)), (3, .int (nI len))] := hl
  refine lv_iload (pc := 18) hx hb dX4_sha_18 (lv_at hl 0 rfl) ?_
  refine lv_iload (pc := 20) hx hb dX4_sha_20 (lv_at hl 1 rfl) ?_
  refine lv_icmp_ge (pc := 22) (tgt := 65) hx hb dX4_sha_22 (by decide) (fun c1 => ?_) (fun c1 => ?_)
  · skip
    have c1 : (((len + 8) / 64 + 1) * 64) ≤ i := (nI_leI (a := (((len + 8) / 64 + 1) * 64)) (b := i) (by omega) (by omega)).mp c1
    have hi9 : i = ((len + 8) / 64 + 1) * 64 := by omega
    subst hi9
    have hP : va_P (dC, dI) vwCl (gW g0 g1 g2 g3 g4 g5 g6 g7 g8 g9 g10 g11 g12 g13 cI cB (G, kr) dr er pl un li ov tp tn rn vs bo ex wr ei dg wo (cpF pa (pad8 G fo len) (((len + 8) / 64 + 1) * 64)) ch fi) _ := hP
    have hD : va_D A (gW g0 g1 g2 g3 g4 g5 g6 g7 g8 g9 g10 g11 g12 g13 cI cB (G, kr) dr er pl un li ov tp tn rn vs bo ex wr ei dg wo (cpF pa (pad8 G fo len) (((len + 8) / 64 + 1) * 64)) ch fi) := hD
    refine lv_iconst (pc := 65) (v := nI 0) hx hb dX4_sha_65 (by decide) ?_
    refine lv_istore (pc := 66) (lv' := [(5, .int (nI 0)), (4, .int (nI (((len + 8) / 64 + 1) * 64))), (0, .ref g0), (1, .ref g1), (2, .int (nI fo)), (3, .int (nI len))]) hx hb dX4_sha_66 hl (by decide) rfl (fun ls hl => ?_)
    rw [← lnF_0 (cpF pa (pad8 G fo len) (((len + 8) / 64 + 1) * 64)) (((len + 8) / 64 + 1) * 64) (nI (len * 8))] at hP hD
    refine x_loop (σ := (Nat)) (Wd := fun i : (Nat) => gW g0 g1 g2 g3 g4 g5 g6 g7 g8 g9 g10 g11 g12 g13 cI cB (G, kr) dr er pl un li ov tp tn rn vs bo ex wr ei dg wo (lnF (cpF pa (pad8 G fo len) (((len + 8) / 64 + 1) * 64)) (((len + 8) / 64 + 1) * 64) (nI (len * 8)) i) ch fi) (Lv := fun i : (Nat) => [(5, .int (nI i)), (4, .int (nI (((len + 8) / 64 + 1) * 64))), (0, .ref g0), (1, .ref g1), (2, .int (nI fo)), (3, .int (nI len))]) (I := fun i : (Nat) => (i ≤ 4)) (μ := fun i : (Nat) => 4 - i) ?_ (0) (by omega) hP hD hS (lv_sub hl [0, 1, 2, 3, 4, 5] rfl)
    intro i H locs ls hI hP hD hS hl ih68
    have hi : (i ≤ 4) := hI
    have hP : va_P (dC, dI) vwCl (gW g0 g1 g2 g3 g4 g5 g6 g7 g8 g9 g10 g11 g12 g13 cI cB (G, kr) dr er pl un li ov tp tn rn vs bo ex wr ei dg wo (lnF (cpF pa (pad8 G fo len) (((len + 8) / 64 + 1) * 64)) (((len + 8) / 64 + 1) * 64) (nI (len * 8)) i) ch fi) _ := hP
    have hD : va_D A (gW g0 g1 g2 g3 g4 g5 g6 g7 g8 g9 g10 g11 g12 g13 cI cB (G, kr) dr er pl un li ov tp tn rn vs bo ex wr ei dg wo (lnF (cpF pa (pad8 G fo len) (((len + 8) / 64 + 1) * 64)) (((len + 8) / 64 + 1) * 64) (nI (len * 8)) i) ch fi) := hD
    have hl : lv_has ls 6 [(5, .int (nI i)), (4, .int (nI (((len + 8) / 64 + 1) * 64))), (0, .ref g0), (1, .ref g1), (2, .int (nI fo)), (3, .int (nI len))] := hl
    refine lv_iload (pc := 68) hx hb dX4_sha_68 (lv_at hl 0 rfl) ?_
    refine lv_iconst (pc := 70) (v := nI 4) hx hb dX4_sha_70 (by decide) ?_
    refine lv_icmp_ge (pc := 71) (tgt := 103) hx hb dX4_sha_71 (by decide) (fun c4 => ?_) (fun c4 => ?_)
    · skip
      have c4 : 4 ≤ i := (nI_leI (a := 4) (b := i) (by omega) (by omega)).mp c4
      have hi9 : i = 4 := by omega
      subst hi9
      have hP : va_P (dC, dI) vwCl (gW g0 g1 g2 g3 g4 g5 g6 g7 g8 g9 g10 g11 g12 g13 cI cB (G, kr) dr er pl un li ov tp tn rn vs bo ex wr ei dg wo (lnF (cpF pa (pad8 G fo len) (((len + 8) / 64 + 1) * 64)) (((len + 8) / 64 + 1) * 64) (nI (len * 8)) 4) ch fi) _ := hP
      have hD : va_D A (gW g0 g1 g2 g3 g4 g5 g6 g7 g8 g9 g10 g11 g12 g13 cI cB (G, kr) dr er pl un li ov tp tn rn vs bo ex wr ei dg wo (lnF (cpF pa (pad8 G fo len) (((len + 8) / 64 + 1) * 64)) (((len + 8) / 64 + 1) * 64) (nI (len * 8)) 4) ch fi) := hD
      refine lv_iconst (pc := 103) (v := nI 0) hx hb dX4_sha_103 (by decide) ?_
      refine lv_istore (pc := 104) (lv' := [(5, .int (nI 0)), (4, .int (nI (((len + 8) / 64 + 1) * 64))), (0, .ref g0), (1, .ref g1), (2, .int (nI fo)), (3, .int (nI len))]) hx hb dX4_sha_104 hl (by decide) rfl (fun ls hl => ?_)
      refine x_loop (σ := (Nat) × (Nat → Int32)) (Wd := fun x : (Nat) × (Nat → Int32) => match x with | (i, ch) => gW g0 g1 g2 g3 g4 g5 g6 g7 g8 g9 g10 g11 g12 g13 cI cB (G, kr) dr er pl un li ov tp tn rn vs bo ex wr ei dg wo (lnF (cpF pa (pad8 G fo len) (((len + 8) / 64 + 1) * 64)) (((len + 8) / 64 + 1) * 64) (nI (len * 8)) 4) ch fi) (Lv := fun x : (Nat) × (Nat → Int32) => match x with | (i, ch) => [(5, .int (nI i)), (4, .int (nI (((len + 8) / 64 + 1) * 64))), (0, .ref g0), (1, .ref g1), (2, .int (nI fo)), (3, .int (nI len))]) (I := fun x : (Nat) × (Nat → Int32) => match x with | (i, ch) => (i ≤ 8) ∧ (∀ j, j < i → ch j = tbF j)) (μ := fun x : (Nat) × (Nat → Int32) => match x with | (i, ch) => 8 - i) ?_ (0, ch) ⟨by omega, fun j hj => absurd hj (Nat.not_lt_zero j)⟩ hP hD hS (lv_sub hl [0, 1, 2, 3, 4, 5] rfl)
      intro x H locs ls hI hP hD hS hl ih106
      obtain ⟨i, ch⟩ := x
      obtain ⟨hi, hh⟩ : (i ≤ 8) ∧ (∀ j, j < i → ch j = tbF j) := hI
      have hP : va_P (dC, dI) vwCl (gW g0 g1 g2 g3 g4 g5 g6 g7 g8 g9 g10 g11 g12 g13 cI cB (G, kr) dr er pl un li ov tp tn rn vs bo ex wr ei dg wo (lnF (cpF pa (pad8 G fo len) (((len + 8) / 64 + 1) * 64)) (((len + 8) / 64 + 1) * 64) (nI (len * 8)) 4) ch fi) _ := hP
      have hD : va_D A (gW g0 g1 g2 g3 g4 g5 g6 g7 g8 g9 g10 g11 g12 g13 cI cB (G, kr) dr er pl un li ov tp tn rn vs bo ex wr ei dg wo (lnF (cpF pa (pad8 G fo len) (((len + 8) / 64 + 1) * 64)) (((len + 8) / 64 + 1) * 64) (nI (len * 8)) 4) ch fi) := hD
      have hl : lv_has ls 6 [(5, .int (nI i)), (4, .int (nI (((len + 8) / 64 + 1) * 64))), (0, .ref g0), (1, .ref g1), (2, .int (nI fo)), (3, .int (nI len))] := hl
      refine lv_iload (pc := 106) hx hb dX4_sha_106 (lv_at hl 0 rfl) ?_
      refine lv_bipush (pc := 108) (v := nI 8) hx hb dX4_sha_108 (by decide) ?_
      refine lv_icmp_ge (pc := 110) (tgt := 132) hx hb dX4_sha_110 (by decide) (fun c_1 => ?_) (fun c_1 => ?_)
      · skip
        have c_1 : 8 ≤ i := (nI_leI (a := 8) (b := i) (by omega) (by omega)).mp c_1
        refine lv_iconst (pc := 132) (v := nI 0) hx hb dX4_sha_132 (by decide) ?_
        refine lv_istore (pc := 133) (lv' := [(5, .int (nI 0)), (4, .int (nI (((len + 8) / 64 + 1) * 64))), (0, .ref g0), (1, .ref g1), (2, .int (nI fo)), (3, .int (nI len))]) hx hb dX4_sha_133 hl (by decide) rfl (fun ls hl => ?_)
        have ho0 : of8 ch = shaC (msgW G fo len) 0 := of8_F (fun j hj => hh j (by omega))
        have hl : lv_has ls 6 [(5, .int (nI (0 * 64))), (4, .int (nI (((len + 8) / 64 + 1) * 64))), (0, .ref g0), (1, .ref g1), (2, .int (nI fo)), (3, .int (nI len))] := hl
        refine x_loop (σ := (Nat) × (Nat → Int32) × (Nat → Int32)) (Wd := fun x : (Nat) × (Nat → Int32) × (Nat → Int32) => match x with | (b, wo, ch) => gW g0 g1 g2 g3 g4 g5 g6 g7 g8 g9 g10 g11 g12 g13 cI cB (G, kr) dr er pl un li ov tp tn rn vs bo ex wr ei dg wo (lnF (cpF pa (pad8 G fo len) (((len + 8) / 64 + 1) * 64)) (((len + 8) / 64 + 1) * 64) (nI (len * 8)) 4) ch fi) (Lv := fun x : (Nat) × (Nat → Int32) × (Nat → Int32) => match x with | (b, wo, ch) => [(5, .int (nI (b * 64))), (4, .int (nI (((len + 8) / 64 + 1) * 64))), (0, .ref g0), (1, .ref g1), (2, .int (nI fo)), (3, .int (nI len))]) (I := fun x : (Nat) × (Nat → Int32) × (Nat → Int32) => match x with | (b, wo, ch) => (b ≤ (len + 8) / 64 + 1) ∧ (of8 ch = shaC (msgW G fo len) b)) (μ := fun x : (Nat) × (Nat → Int32) × (Nat → Int32) => match x with | (b, wo, ch) => (len + 8) / 64 + 1 - b) ?_ (0, wo, ch) ⟨by omega, ho0⟩ hP hD hS (lv_sub hl [0, 1, 2, 3, 4, 5] rfl)
        intro x H locs ls hI hP hD hS hl ih135
        obtain ⟨b, wo, ch⟩ := x
        obtain ⟨hb9, ho⟩ : (b ≤ (len + 8) / 64 + 1) ∧ (of8 ch = shaC (msgW G fo len) b) := hI
        have hP : va_P (dC, dI) vwCl (gW g0 g1 g2 g3 g4 g5 g6 g7 g8 g9 g10 g11 g12 g13 cI cB (G, kr) dr er pl un li ov tp tn rn vs bo ex wr ei dg wo (lnF (cpF pa (pad8 G fo len) (((len + 8) / 64 + 1) * 64)) (((len + 8) / 64 + 1) * 64) (nI (len * 8)) 4) ch fi) _ := hP
        have hD : va_D A (gW g0 g1 g2 g3 g4 g5 g6 g7 g8 g9 g10 g11 g12 g13 cI cB (G, kr) dr er pl un li ov tp tn rn vs bo ex wr ei dg wo (lnF (cpF pa (pad8 G fo len) (((len + 8) / 64 + 1) * 64)) (((len + 8) / 64 + 1) * 64) (nI (len * 8)) 4) ch fi) := hD
        have hl : lv_has ls 6 [(5, .int (nI (b * 64))), (4, .int (nI (((len + 8) / 64 + 1) * 64))), (0, .ref g0), (1, .ref g1), (2, .int (nI fo)), (3, .int (nI len))] := hl
        refine lv_iload (pc := 135) hx hb dX4_sha_135 (lv_at hl 0 rfl) ?_
        refine lv_iload (pc := 137) hx hb dX4_sha_137 (lv_at hl 1 rfl) ?_
        refine lv_icmp_ge (pc := 139) (tgt := 154) hx hb dX4_sha_139 (by decide) (fun c_2 => ?_) (fun c_2 => ?_)
        · skip
          have c_2 : (((len + 8) / 64 + 1) * 64) ≤ (b * 64) := (nI_leI (a := (((len + 8) / 64 + 1) * 64)) (b := (b * 64)) (by omega) (by omega)).mp c_2
          refine lv_iconst (pc := 154) (v := nI 0) hx hb dX4_sha_154 (by decide) ?_
          refine lv_istore (pc := 155) (lv' := [(5, .int (nI 0)), (4, .int (nI (((len + 8) / 64 + 1) * 64))), (0, .ref g0), (1, .ref g1), (2, .int (nI fo)), (3, .int (nI len))]) hx hb dX4_sha_155 hl (by decide) rfl (fun ls hl => ?_)
          rw [← cpF_0 dg (digT (of8 ch))] at hP hD
          refine x_loop (σ := (Nat)) (Wd := fun i : (Nat) => gW g0 g1 g2 g3 g4 g5 g6 g7 g8 g9 g10 g11 g12 g13 cI cB (G, kr) dr er pl un li ov tp tn rn vs bo ex wr ei (cpF dg (digT (of8 ch)) i) wo (lnF (cpF pa (pad8 G fo len) (((len + 8) / 64 + 1) * 64)) (((len + 8) / 64 + 1) * 64) (nI (len * 8)) 4) ch fi) (Lv := fun i : (Nat) => [(5, .int (nI i)), (4, .int (nI (((len + 8) / 64 + 1) * 64))), (0, .ref g0), (1, .ref g1), (2, .int (nI fo)), (3, .int (nI len))]) (I := fun i : (Nat) => (i ≤ 32)) (μ := fun i : (Nat) => 32 - i) ?_ (0) (by omega) hP hD hS (lv_sub hl [0, 1, 2, 3, 4, 5] rfl)
          intro i H locs ls hI hP hD hS hl ih157
          have hi : (i ≤ 32) := hI
          have hP : va_P (dC, dI) vwCl (gW g0 g1 g2 g3 g4 g5 g6 g7 g8 g9 g10 g11 g12 g13 cI cB (G, kr) dr er pl un li ov tp tn rn vs bo ex wr ei (cpF dg (digT (of8 ch)) i) wo (lnF (cpF pa (pad8 G fo len) (((len + 8) / 64 + 1) * 64)) (((len + 8) / 64 + 1) * 64) (nI (len * 8)) 4) ch fi) _ := hP
          have hD : va_D A (gW g0 g1 g2 g3 g4 g5 g6 g7 g8 g9 g10 g11 g12 g13 cI cB (G, kr) dr er pl un li ov tp tn rn vs bo ex wr ei (cpF dg (digT (of8 ch)) i) wo (lnF (cpF pa (pad8 G fo len) (((len + 8) / 64 + 1) * 64)) (((len + 8) / 64 + 1) * 64) (nI (len * 8)) 4) ch fi) := hD
          have hl : lv_has ls 6 [(5, .int (nI i)), (4, .int (nI (((len + 8) / 64 + 1) * 64))), (0, .ref g0), (1, .ref g1), (2, .int (nI fo)), (3, .int (nI len))] := hl
          refine lv_iload (pc := 157) hx hb dX4_sha_157 (lv_at hl 0 rfl) ?_
          refine lv_bipush (pc := 159) (v := nI 32) hx hb dX4_sha_159 (by decide) ?_
          refine lv_icmp_ge (pc := 161) (tgt := 198) hx hb dX4_sha_161 (by decide) (fun c_3 => ?_) (fun c_3 => ?_)
          · skip
            have c_3 : 32 ≤ i := (nI_leI (a := 32) (b := i) (by omega) (by omega)).mp c_3
            have hb0 : b = (len + 8) / 64 + 1 := by omega
            rw [hb0] at ho
            exact W.vret hx hb hr (fun t ht hW => ⟨⟨(cpF dg (digT (of8 ch)) i, wo, lnF (cpF pa (pad8 G fo len) (((len + 8) / 64 + 1) * 64)) (((len + 8) / 64 + 1) * 64) (nI (len * 8)) 4, ch), rfl, fun j hj => by show (if j < i then digT (of8 ch) j else dg j) = _; rw [if_pos (by omega), ho]; rfl, by show va_P _ _ _ t.heap; rw [ht]; exact hP, va_K.moved hW.alike hK, hD⟩, hS.F ht⟩) hS.2.2 dX4_sha_198
          · skip
            have c_3 : ¬ 32 ≤ i := fun z => c_3 ((nI_leI (a := 32) (b := i) (by omega) (by omega)).mpr z)
            refine lv_aload_n (pc := 164) hx hb dX4_sha_164 rfl (lv_at hl 2 rfl) ?_
            refine va_get (pc := 165) (D := (dC, dI)) (ci := 4) (v := .ref g9) (C := RX4) (T := TX4) (N := 26) hx hb hts (by decide +kernel) hown hK hP 0 rfl rfl 21 (by decide) (hts (.fieldLink RX4 39 "ScratchSwapModel" "digest" "[B") (by decide +kernel)) (fun _ h9 => h9) rfl dX4_sha_165 ?_
            refine lv_iload (pc := 168) hx hb dX4_sha_168 (lv_at hl 0 rfl) ?_
            refine lv_aload_n (pc := 170) hx hb dX4_sha_170 rfl (lv_at hl 2 rfl) ?_
            refine va_get (pc := 171) (D := (dC, dI)) (ci := 4) (v := .ref g12) (C := RX4) (T := TX4) (N := 26) hx hb hts (by decide +kernel) hown hK hP 0 rfl rfl 24 (by decide) (hts (.fieldLink RX4 48 "ScratchSwapModel" "chain" "[I") (by decide +kernel)) (fun _ h9 => h9) rfl dX4_sha_171 ?_
            refine lv_iload (pc := 174) hx hb dX4_sha_174 (lv_at hl 0 rfl) ?_
            refine lv_iconst (pc := 176) (v := nI 4) hx hb dX4_sha_176 (by decide) ?_
            refine lv_idiv (pc := 177) hx hb dX4_sha_177 (nI_ne0 (by omega) (by omega)) ?_
            refine lv_cv (pk_div (a := i) (d := 4) (by omega) (by omega) (by omega)) ?_
            refine x_iald (pc := 178) (k := i / 4) (f := ch) hx hb hK hP 12 0 rfl rfl (by omega) (by decide) dX4_sha_178 ?_
            refine lv_bipush (pc := 179) (v := nI 24) hx hb dX4_sha_179 (by decide) ?_
            refine lv_bipush (pc := 181) (v := nI 8) hx hb dX4_sha_181 (by decide) ?_
            refine lv_iload (pc := 183) hx hb dX4_sha_183 (lv_at hl 0 rfl) ?_
            refine lv_iconst (pc := 185) (v := nI 4) hx hb dX4_sha_185 (by decide) ?_
            refine lv_irem (pc := 186) hx hb dX4_sha_186 (nI_ne0 (by omega) (by omega)) ?_
            refine lv_cv (pk_rem (a := i) (d := 4) (by omega) (by omega) (by omega)) ?_
            refine lv_imul (pc := 187) hx hb dX4_sha_187 ?_
            refine lv_cv (x_mulc 8 (i % 4)) ?_
            refine lv_isub (pc := 188) hx hb dX4_sha_188 ?_
            refine lv_cv (pk_sub (a := 24) (b := ((i % 4) * 8)) (by omega)) ?_
            refine lv_ishr (pc := 189) hx hb dX4_sha_189 ?_
            refine lv_i2b (pc := 190) hx hb dX4_sha_190 (rfl) ?_
            refine lv_cv (congrArg Int8.toInt32 (dig_sh ch (i := i) (by omega))) ?_
            refine x_sst (pc := 191) (k := i) (F := cpF dg (digT (of8 ch)) i) hx hb hK hP hD hS 9 1 rfl rfl (by omega) (by decide) dX4_sha_191 (fun H locs hP hD hS => ?_)
            have hP : va_P (dC, dI) vwCl (gW g0 g1 g2 g3 g4 g5 g6 g7 g8 g9 g10 g11 g12 g13 cI cB (G, kr) dr er pl un li ov tp tn rn vs bo ex wr ei (va_up (cpF dg (digT (of8 ch)) i) i (digT (of8 ch) i)) wo (lnF (cpF pa (pad8 G fo len) (((len + 8) / 64 + 1) * 64)) (((len + 8) / 64 + 1) * 64) (nI (len * 8)) 4) ch fi) _ := hP
            have hD : va_D A (gW g0 g1 g2 g3 g4 g5 g6 g7 g8 g9 g10 g11 g12 g13 cI cB (G, kr) dr er pl un li ov tp tn rn vs bo ex wr ei (va_up (cpF dg (digT (of8 ch)) i) i (digT (of8 ch) i)) wo (lnF (cpF pa (pad8 G fo len) (((len + 8) / 64 + 1) * 64)) (((len + 8) / 64 + 1) * 64) (nI (len * 8)) 4) ch fi) := hD
            refine lv_iinc (pc := 192) (v := nI (i + 1)) (lv' := [(5, .int (nI (i + 1))), (4, .int (nI (((len + 8) / 64 + 1) * 64))), (0, .ref g0), (1, .ref g1), (2, .int (nI fo)), (3, .int (nI len))]) hx hb dX4_sha_192 hl (k := 0) rfl (nI_inc i 1) (by decide) rfl (fun ls hl => ?_)
            refine lv_goto (pc := 195) (tgt := 157) hx hb dX4_sha_195 (by decide) ?_
            rw [cpF_step] at hP hD
            exact ih157 (i + 1) H locs ls (by omega) (by first | omega | (simp only []; omega)) hP hD hS (lv_sub hl [0, 1, 2, 3, 4, 5] rfl)
        · skip
          have c_2 : ¬ (((len + 8) / 64 + 1) * 64) ≤ (b * 64) := fun z => c_2 ((nI_leI (a := (((len + 8) / 64 + 1) * 64)) (b := (b * 64)) (by omega) (by omega)).mpr z)
          refine lv_aload_n (pc := 142) hx hb dX4_sha_142 rfl (lv_at hl 2 rfl) ?_
          refine lv_iload (pc := 143) hx hb dX4_sha_143 (lv_at hl 0 rfl) ?_
          refine x_wrva (pc := 145) (va_runV (As := [.int (nI (b * 64))]) (rest := []) ⟨hx, hb, hml, hown, hts⟩ (kX4_block l dC dI tt cI cB _ g0 g1 g2 g3 g4 g5 g6 g7 g8 g9 g10 g11 g12 g13 (G, kr) dr er pl un li ov tp tn rn vs bo ex wr ei dg wo (lnF (cpF pa (pad8 G fo len) (((len + 8) / 64 + 1) * 64)) (((len + 8) / 64 + 1) * 64) (nI (len * 8)) 4) ch fi (b * 64) (by omega)) (cwV 1 hts gX4_sha_X4_block rfl rfl rfl (by decide +kernel) ⟨Nat.le_of_ble_eq_true rfl, Nat.le_of_ble_eq_true rfl⟩) (x_preVa hS hE hK hP hD (x_all hD hS hA) xR0 4 0 rfl rfl) rfl rfl hl.1 rfl (lv_room (Nat.le_of_ble_eq_true rfl)) dX4_sha_145 ⟨Nat.le_of_ble_eq_true rfl, Nat.le_of_ble_eq_true rfl⟩) hS hA hD (fun u_4 H locs hu_4 hP hD hS => ?_)
          obtain ⟨wo_5, ch_6⟩ := u_4
          have hb_ch_6 : ch_6 = addH ch (mixN (wN wo (lnF (cpF pa (pad8 G fo len) (((len + 8) / 64 + 1) * 64)) (((len + 8) / 64 + 1) * 64) (nI (len * 8)) 4) (b * 64) 64) 64 (of8 ch)) := hu_4
          have hP : va_P (dC, dI) vwCl (gW g0 g1 g2 g3 g4 g5 g6 g7 g8 g9 g10 g11 g12 g13 cI cB (G, kr) dr er pl un li ov tp tn rn vs bo ex wr ei dg wo_5 (lnF (cpF pa (pad8 G fo len) (((len + 8) / 64 + 1) * 64)) (((len + 8) / 64 + 1) * 64) (nI (len * 8)) 4) ch_6 fi) _ := hP
          have hD : va_D A (gW g0 g1 g2 g3 g4 g5 g6 g7 g8 g9 g10 g11 g12 g13 cI cB (G, kr) dr er pl un li ov tp tn rn vs bo ex wr ei dg wo_5 (lnF (cpF pa (pad8 G fo len) (((len + 8) / 64 + 1) * 64)) (((len + 8) / 64 + 1) * 64) (nI (len * 8)) 4) ch_6 fi) := hD
          refine lv_iinc (pc := 148) (v := nI ((b * 64) + 64)) (lv' := [(5, .int (nI ((b * 64) + 64))), (4, .int (nI (((len + 8) / 64 + 1) * 64))), (0, .ref g0), (1, .ref g1), (2, .int (nI fo)), (3, .int (nI len))]) hx hb dX4_sha_148 hl (k := 0) rfl (nI_inc (b * 64) 64) (by decide) rfl (fun ls hl => ?_)
          refine lv_goto (pc := 151) (tgt := 135) hx hb dX4_sha_151 (by decide) ?_
          have hl : lv_has ls 6 [(5, .int (nI ((b + 1) * 64))), (4, .int (nI (((len + 8) / 64 + 1) * 64))), (0, .ref g0), (1, .ref g1), (2, .int (nI fo)), (3, .int (nI len))] := by rw [show (b + 1) * 64 = b * 64 + 64 by omega]; exact hl
          have hst9 : of8 ch_6 = shaC (msgW G fo len) (b + 1) := by
            rw [hb_ch_6, wN_hi _ _ _ (by omega)]
            exact shaC_step ho (fun j hj => by unfold wdF; rw [if_pos hj]; exact msg_w (by omega) hj)
          exact ih135 (b + 1, wo_5, ch_6) H locs ls ⟨by omega, hst9⟩ (by first | omega | (simp only []; omega)) hP hD hS (lv_sub hl [0, 1, 2, 3, 4, 5] rfl)
      · skip
        have c_1 : ¬ 8 ≤ i := fun z => c_1 ((nI_leI (a := 8) (b := i) (by omega) (by omega)).mpr z)
        refine lv_aload_n (pc := 113) hx hb dX4_sha_113 rfl (lv_at hl 2 rfl) ?_
        refine va_get (pc := 114) (D := (dC, dI)) (ci := 4) (v := .ref g12) (C := RX4) (T := TX4) (N := 26) hx hb hts (by decide +kernel) hown hK hP 0 rfl rfl 24 (by decide) (hts (.fieldLink RX4 48 "ScratchSwapModel" "chain" "[I") (by decide +kernel)) (fun _ h9 => h9) rfl dX4_sha_114 ?_
        refine lv_iload (pc := 117) hx hb dX4_sha_117 (lv_at hl 0 rfl) ?_
        refine va_gets (pc := 119) hx hb (hE.2.2.2.2.2.2.1).1 hS hown (hts (.fieldLink RX4 121 "ScratchSwapModel" "STARTS" "[I") (by decide +kernel)) (fun _ h9 => h9) dX4_sha_119 ?_
        refine lv_iload (pc := 122) hx hb dX4_sha_122 (lv_at hl 0 rfl) ?_
        refine x_ti (pc := 124) (k := i) hx hb (hE.2.2.2.2.2.2.1).2 hS (by omega) (by decide) dX4_sha_124 ?_
        refine x_iast (pc := 125) (k := i) (f := ch) hx hb hK hP hD hS 12 0 rfl rfl (by omega) (by decide) dX4_sha_125 (fun H locs hP hD hS => ?_)
        have hP : va_P (dC, dI) vwCl (gW g0 g1 g2 g3 g4 g5 g6 g7 g8 g9 g10 g11 g12 g13 cI cB (G, kr) dr er pl un li ov tp tn rn vs bo ex wr ei dg wo (lnF (cpF pa (pad8 G fo len) (((len + 8) / 64 + 1) * 64)) (((len + 8) / 64 + 1) * 64) (nI (len * 8)) 4) (upd ch i (tbF i)) fi) _ := hP
        have hD : va_D A (gW g0 g1 g2 g3 g4 g5 g6 g7 g8 g9 g10 g11 g12 g13 cI cB (G, kr) dr er pl un li ov tp tn rn vs bo ex wr ei dg wo (lnF (cpF pa (pad8 G fo len) (((len + 8) / 64 + 1) * 64)) (((len + 8) / 64 + 1) * 64) (nI (len * 8)) 4) (upd ch i (tbF i)) fi) := hD
        refine lv_iinc (pc := 126) (v := nI (i + 1)) (lv' := [(5, .int (nI (i + 1))), (4, .int (nI (((len + 8) / 64 + 1) * 64))), (0, .ref g0), (1, .ref g1), (2, .int (nI fo)), (3, .int (nI len))]) hx hb dX4_sha_126 hl (k := 0) rfl (nI_inc i 1) (by decide) rfl (fun ls hl => ?_)
        refine lv_goto (pc := 129) (tgt := 106) hx hb dX4_sha_129 (by decide) ?_
        have hh9 : ∀ j, j < i + 1 → (upd ch i (tbF i)) j = tbF j := by
          intro j hj
          unfold upd
          by_cases h : j = i
          · rw [if_pos h, h]
          · rw [if_neg h]; exact hh j (by omega)
        exact ih106 (i + 1, upd ch i (tbF i)) H locs ls ⟨by omega, hh9⟩ (by first | omega | (simp only []; omega)) hP hD hS (lv_sub hl [0, 1, 2, 3, 4, 5] rfl)
    · skip
      have c4 : ¬ 4 ≤ i := fun z => c4 ((nI_leI (a := 4) (b := i) (by omega) (by omega)).mpr z)
      refine lv_aload_n (pc := 74) hx hb dX4_sha_74 rfl (lv_at hl 2 rfl) ?_
      refine va_get (pc := 75) (D := (dC, dI)) (ci := 4) (v := .ref g11) (C := RX4) (T := TX4) (N := 26) hx hb hts (by decide +kernel) hown hK hP 0 rfl rfl 23 (by decide) (hts (.fieldLink RX4 45 "ScratchSwapModel" "padded" "[B") (by decide +kernel)) (fun _ h9 => h9) rfl dX4_sha_75 ?_
      refine lv_iload (pc := 78) hx hb dX4_sha_78 (lv_at hl 1 rfl) ?_
      refine lv_iconst (pc := 80) (v := nI 1) hx hb dX4_sha_80 (by decide) ?_
      refine lv_isub (pc := 81) hx hb dX4_sha_81 ?_
      refine lv_cv (pk_sub (a := (((len + 8) / 64 + 1) * 64)) (b := 1) (by omega)) ?_
      refine lv_iload (pc := 82) hx hb dX4_sha_82 (lv_at hl 0 rfl) ?_
      refine lv_isub (pc := 84) hx hb dX4_sha_84 ?_
      refine lv_cv (pk_sub (a := ((((len + 8) / 64 + 1) * 64) - 1)) (b := i) (by omega)) ?_
      refine lv_bipush (pc := 85) (v := nI 8) hx hb dX4_sha_85 (by decide) ?_
      refine lv_iload_n (pc := 87) hx hb dX4_sha_87 rfl (lv_at hl 5 rfl) ?_
      refine lv_imul (pc := 88) hx hb dX4_sha_88 ?_
      refine lv_cv (x_mulc 8 len) ?_
      refine lv_bipush (pc := 89) (v := nI 8) hx hb dX4_sha_89 (by decide) ?_
      refine lv_iload (pc := 91) hx hb dX4_sha_91 (lv_at hl 0 rfl) ?_
      refine lv_imul (pc := 93) hx hb dX4_sha_93 ?_
      refine lv_cv (x_mulc 8 i) ?_
      refine lv_ishr (pc := 94) hx hb dX4_sha_94 ?_
      refine lv_i2b (pc := 95) hx hb dX4_sha_95 (rfl) ?_
      refine x_sst (pc := 96) (k := ((((len + 8) / 64 + 1) * 64) - 1) - i) (F := lnF (cpF pa (pad8 G fo len) (((len + 8) / 64 + 1) * 64)) (((len + 8) / 64 + 1) * 64) (nI (len * 8)) i) hx hb hK hP hD hS 11 1 rfl rfl (by omega) (by decide) dX4_sha_96 (fun H locs hP hD hS => ?_)
      have hP : va_P (dC, dI) vwCl (gW g0 g1 g2 g3 g4 g5 g6 g7 g8 g9 g10 g11 g12 g13 cI cB (G, kr) dr er pl un li ov tp tn rn vs bo ex wr ei dg wo (va_up (lnF (cpF pa (pad8 G fo len) (((len + 8) / 64 + 1) * 64)) (((len + 8) / 64 + 1) * 64) (nI (len * 8)) i) (((((len + 8) / 64 + 1) * 64) - 1) - i) (Int32.toInt8 ((nI (len * 8)) >>> ((nI (i * 8)) &&& 31)))) ch fi) _ := hP
      have hD : va_D A (gW g0 g1 g2 g3 g4 g5 g6 g7 g8 g9 g10 g11 g12 g13 cI cB (G, kr) dr er pl un li ov tp tn rn vs bo ex wr ei dg wo (va_up (lnF (cpF pa (pad8 G fo len) (((len + 8) / 64 + 1) * 64)) (((len + 8) / 64 + 1) * 64) (nI (len * 8)) i) (((((len + 8) / 64 + 1) * 64) - 1) - i) (Int32.toInt8 ((nI (len * 8)) >>> ((nI (i * 8)) &&& 31)))) ch fi) := hD
      refine lv_iinc (pc := 97) (v := nI (i + 1)) (lv' := [(5, .int (nI (i + 1))), (4, .int (nI (((len + 8) / 64 + 1) * 64))), (0, .ref g0), (1, .ref g1), (2, .int (nI fo)), (3, .int (nI len))]) hx hb dX4_sha_97 hl (k := 0) rfl (nI_inc i 1) (by decide) rfl (fun ls hl => ?_)
      refine lv_goto (pc := 100) (tgt := 68) hx hb dX4_sha_100 (by decide) ?_
      rw [lnF_step _ _ _ (by omega)] at hP hD
      exact ih68 (i + 1) H locs ls (by omega) (by first | omega | (simp only []; omega)) hP hD hS (lv_sub hl [0, 1, 2, 3, 4, 5] rfl)
  · skip
    have c1 : ¬ (((len + 8) / 64 + 1) * 64) ≤ i := fun z => c1 ((nI_leI (a := (((len + 8) / 64 + 1) * 64)) (b := i) (by omega) (by omega)).mpr z)
    refine lv_aload_n (pc := 25) hx hb dX4_sha_25 rfl (lv_at hl 2 rfl) ?_
    refine va_get (pc := 26) (D := (dC, dI)) (ci := 4) (v := .ref g11) (C := RX4) (T := TX4) (N := 26) hx hb hts (by decide +kernel) hown hK hP 0 rfl rfl 23 (by decide) (hts (.fieldLink RX4 45 "ScratchSwapModel" "padded" "[B") (by decide +kernel)) (fun _ h9 => h9) rfl dX4_sha_26 ?_
    refine lv_iload (pc := 29) hx hb dX4_sha_29 (lv_at hl 0 rfl) ?_
    refine lv_iload (pc := 31) hx hb dX4_sha_31 (lv_at hl 0 rfl) ?_
    refine lv_iload_n (pc := 33) hx hb dX4_sha_33 rfl (lv_at hl 5 rfl) ?_
    refine lv_icmp_ge (pc := 34) (tgt := 46) hx hb dX4_sha_34 (by decide) (fun c2 => ?_) (fun c2 => ?_)
    · skip
      have c2 : len ≤ i := (nI_leI (a := len) (b := i) (by omega) (by omega)).mp c2
      refine lv_iload (pc := 46) hx hb dX4_sha_46 (lv_at hl 0 rfl) ?_
      refine lv_iload_n (pc := 48) hx hb dX4_sha_48 rfl (lv_at hl 5 rfl) ?_
      refine lv_icmp_ne (pc := 49) (tgt := 57) hx hb dX4_sha_49 (by decide) (fun c3 => ?_) (fun c3 => ?_)
      · skip
        have c3 : ¬ i = len := fun z => c3 ((nI_eq (a := i) (b := len) (by omega) (by omega)).mpr z)
        refine lv_iconst (pc := 57) (v := nI 0) hx hb dX4_sha_57 (by decide) ?_
        refine lv_cv (show nI 0 = Int8.toInt32 (pad8 G fo len i) by rw [pad8, if_neg c3, if_neg (by omega)]; decide) ?_
        refine x_sst (pc := 58) (k := i) (F := cpF pa (pad8 G fo len) i) hx hb hK hP hD hS 11 1 rfl rfl (by omega) (by decide) dX4_sha_58 (fun H locs hP hD hS => ?_)
        have hP : va_P (dC, dI) vwCl (gW g0 g1 g2 g3 g4 g5 g6 g7 g8 g9 g10 g11 g12 g13 cI cB (G, kr) dr er pl un li ov tp tn rn vs bo ex wr ei dg wo (va_up (cpF pa (pad8 G fo len) i) i (pad8 G fo len i)) ch fi) _ := hP
        have hD : va_D A (gW g0 g1 g2 g3 g4 g5 g6 g7 g8 g9 g10 g11 g12 g13 cI cB (G, kr) dr er pl un li ov tp tn rn vs bo ex wr ei dg wo (va_up (cpF pa (pad8 G fo len) i) i (pad8 G fo len i)) ch fi) := hD
        refine lv_iinc (pc := 59) (v := nI (i + 1)) (lv' := [(5, .int (nI (i + 1))), (4, .int (nI (((len + 8) / 64 + 1) * 64))), (0, .ref g0), (1, .ref g1), (2, .int (nI fo)), (3, .int (nI len))]) hx hb dX4_sha_59 hl (k := 0) rfl (nI_inc i 1) (by decide) rfl (fun ls hl => ?_)
        refine lv_goto (pc := 62) (tgt := 18) hx hb dX4_sha_62 (by decide) ?_
        rw [cpF_step] at hP hD
        exact ih18 (i + 1) H locs ls (by omega) (by first | omega | (simp only []; omega)) hP hD hS (lv_sub hl [0, 1, 2, 3, 4, 5] rfl)
      · skip
        have c3 : i = len := (nI_eq (a := i) (b := len) (by omega) (by omega)).mp c3
        refine lv_bipush (pc := 52) (v := (-128)) hx hb dX4_sha_52 (by decide) ?_
        refine lv_goto (pc := 54) (tgt := 58) hx hb dX4_sha_54 (by decide) ?_
        refine lv_cv (show (-128 : Int32) = Int8.toInt32 (pad8 G fo len i) by rw [pad8, if_pos c3]; decide) ?_
        refine x_sst (pc := 58) (k := i) (F := cpF pa (pad8 G fo len) i) hx hb hK hP hD hS 11 1 rfl rfl (by omega) (by decide) dX4_sha_58 (fun H locs hP hD hS => ?_)
        have hP : va_P (dC, dI) vwCl (gW g0 g1 g2 g3 g4 g5 g6 g7 g8 g9 g10 g11 g12 g13 cI cB (G, kr) dr er pl un li ov tp tn rn vs bo ex wr ei dg wo (va_up (cpF pa (pad8 G fo len) i) i (pad8 G fo len i)) ch fi) _ := hP
        have hD : va_D A (gW g0 g1 g2 g3 g4 g5 g6 g7 g8 g9 g10 g11 g12 g13 cI cB (G, kr) dr er pl un li ov tp tn rn vs bo ex wr ei dg wo (va_up (cpF pa (pad8 G fo len) i) i (pad8 G fo len i)) ch fi) := hD
        refine lv_iinc (pc := 59) (v := nI (i + 1)) (lv' := [(5, .int (nI (i + 1))), (4, .int (nI (((len + 8) / 64 + 1) * 64))), (0, .ref g0), (1, .ref g1), (2, .int (nI fo)), (3, .int (nI len))]) hx hb dX4_sha_59 hl (k := 0) rfl (nI_inc i 1) (by decide) rfl (fun ls hl => ?_)
        refine lv_goto (pc := 62) (tgt := 18) hx hb dX4_sha_62 (by decide) ?_
        rw [cpF_step] at hP hD
        exact ih18 (i + 1) H locs ls (by omega) (by first | omega | (simp only []; omega)) hP hD hS (lv_sub hl [0, 1, 2, 3, 4, 5] rfl)
    · skip
      have c2 : ¬ len ≤ i := fun z => c2 ((nI_leI (a := len) (b := i) (by omega) (by omega)).mpr z)
      refine lv_aload_n (pc := 37) hx hb dX4_sha_37 rfl (lv_at hl 3 rfl) ?_
      refine lv_iload_n (pc := 38) hx hb dX4_sha_38 rfl (lv_at hl 4 rfl) ?_
      refine lv_iload (pc := 39) hx hb dX4_sha_39 (lv_at hl 0 rfl) ?_
      refine lv_iadd (pc := 41) hx hb dX4_sha_41 ?_
      refine lv_cv (nI_add fo i) ?_
      refine x_bald (pc := 42) (k := fo + i) (f := fun j => Int8.toInt32 (G j)) hx hb hK hP 1 1 rfl rfl (by omega) (by decide) dX4_sha_42 ?_
      refine lv_goto (pc := 43) (tgt := 58) hx hb dX4_sha_43 (by decide) ?_
      refine lv_cv (congrArg Int8.toInt32 (show _ = pad8 G fo len i by rw [pad8, if_neg (by omega), if_pos (by omega)])) ?_
      refine x_sst (pc := 58) (k := i) (F := cpF pa (pad8 G fo len) i) hx hb hK hP hD hS 11 1 rfl rfl (by omega) (by decide) dX4_sha_58 (fun H locs hP hD hS => ?_)
      have hP : va_P (dC, dI) vwCl (gW g0 g1 g2 g3 g4 g5 g6 g7 g8 g9 g10 g11 g12 g13 cI cB (G, kr) dr er pl un li ov tp tn rn vs bo ex wr ei dg wo (va_up (cpF pa (pad8 G fo len) i) i (pad8 G fo len i)) ch fi) _ := hP
      have hD : va_D A (gW g0 g1 g2 g3 g4 g5 g6 g7 g8 g9 g10 g11 g12 g13 cI cB (G, kr) dr er pl un li ov tp tn rn vs bo ex wr ei dg wo (va_up (cpF pa (pad8 G fo len) i) i (pad8 G fo len i)) ch fi) := hD
      refine lv_iinc (pc := 59) (v := nI (i + 1)) (lv' := [(5, .int (nI (i + 1))), (4, .int (nI (((len + 8) / 64 + 1) * 64))), (0, .ref g0), (1, .ref g1), (2, .int (nI fo)), (3, .int (nI len))]) hx hb dX4_sha_59 hl (k := 0) rfl (nI_inc i 1) (by decide) rfl (fun ls hl => ?_)
      refine lv_goto (pc := 62) (tgt := 18) hx hb dX4_sha_62 (by decide) ?_
      rw [cpF_step] at hP hD
      exact ih18 (i + 1) H locs ls (by omega) (by first | omega | (simp only []; omega)) hP hD hS (lv_sub hl [0, 1, 2, 3, 4, 5] rfl)
set_option maxHeartbeats 4000000 in
set_option maxRecDepth 100000 in
theorem kX4_shaT (l : Launch) (dC : Nat → ClassId) (dI : Nat → Nat → Nat) (tt : Nat → Nat) (cI cB : ClassId) (sz : Nat) (g0 g1 g2 g3 g4 g5 g6 g7 g8 g9 g10 g11 g12 g13 : Nat) (k : K0) (dr : Nat → Int8) (er pl : Nat → Int32) (un : Nat → Int8) (li : Nat) (ov : Int32) (G : Nat → Int8) (tn : Nat) (rn : Bool) (vs bo ex wr : Int32) (ei dg : Nat → Int8) (wo : Nat → Int32) (pa : Nat → Int8) (ch fi : Nat → Int32) (fo len : Nat) (hfl : fo + len ≤ 1024) (hlen : len ≤ 1024) : MetV (S := ((Nat → Int8) × (Nat → Int32) × (Nat → Int8) × (Nat → Int32))) l yX4_sha wsX4_sha { frames := 2, cells := 0, slots := 0, locals := 53 } (dC, dI) [(cI, .int), (cB, .byte)] tt [] sz (gW g0 g1 g2 g3 g4 g5 g6 g7 g8 g9 g10 g11 g12 g13 cI cB k dr er pl un li ov G tn rn vs bo ex wr ei dg wo pa ch fi) [.ref g0, .ref g6, .int (nI fo), .int (nI len)] (fun u : ((Nat → Int8) × (Nat → Int32) × (Nat → Int8) × (Nat → Int32)) => gW g0 g1 g2 g3 g4 g5 g6 g7 g8 g9 g10 g11 g12 g13 cI cB k dr er pl un li ov G tn rn vs bo ex wr ei u.1 u.2.1 u.2.2.1 u.2.2.2 fi) (fun u => ∀ j, j < 32 → u.1 j = digT (sha8 G fo len) j) := by
  refine Met.ofW (cc := cX4_sha) (maxL := 6) (ret := none) (by decide) rfl ?_
  intro p e s m args below meth c s₁ B hml hv
  obtain ⟨rfl, hsz, hP, hK, hD0, hE⟩ := hv
  have hx := B.exec
  have hb := B.bytes
  have hr := B.returns
  have hts := atoms_spec (ws := wsX4_sha) B.pre
  have hown : s.vm.findClass RX4 = some m.cls := findClass_of_methodNamed B.named
  have hlocks := B.notSynchronized
  subst hsz
  have hD := hD0.self (sz := s.heap.size)
  generalize hAe : va_A (gW g0 g1 g2 g3 g4 g5 g6 g7 g8 g9 g10 g11 g12 g13 cI cB k dr er pl un li ov G tn rn vs bo ex wr ei dg wo pa ch fi) s.heap.size = A at hD hE ⊢
  have hA : ∀ q : Nat, s.heap.size ≤ q → A q := fun q h => by rw [← hAe]; exact Or.inr h
  have hS : va_S A s.heap s.heap [] := va_S.rf
  have hl := lv_entry ([.ref g0, .ref g6, .int (nI fo), .int (nI len)]) (n := 6) (Nat.le_of_ble_eq_true rfl)
  rw [lg_entry_eq]
  generalize (lg_sl ([.ref g0, .ref g6, .int (nI fo), .int (nI len)]) ++ List.replicate (6 - (lg_sl ([.ref g0, .ref g6, .int (nI fo), .int (nI len)])).length) Slot.unset).toArray = ls at hl ⊢
  have hl : lv_has ls 6 [(0, .ref g0), (1, .ref g6), (2, .int (nI fo)), (3, .int (nI len))] := hl
  have hP : va_P (dC, dI) vwCl (gW g0 g1 g2 g3 g4 g5 g6 g7 g8 g9 g10 g11 g12 g13 cI cB k dr er pl un li ov G tn rn vs bo ex wr ei dg wo pa ch fi) s.heap := hP
  refine lv_iload_n (pc := 0) hx hb dX4_sha_0 rfl (lv_at hl 3 rfl) ?_
  refine lv_bipush (pc := 1) (v := nI 9) hx hb dX4_sha_1 (by decide) ?_
  refine lv_iadd (pc := 3) hx hb dX4_sha_3 ?_
  refine lv_cv (nI_add len 9) ?_
  refine lv_bipush (pc := 4) (v := nI 63) hx hb dX4_sha_4 (by decide) ?_
  refine lv_iadd (pc := 6) hx hb dX4_sha_6 ?_
  refine lv_cv (nI_add (len + 9) 63) ?_
  refine lv_bipush (pc := 7) (v := nI 64) hx hb dX4_sha_7 (by decide) ?_
  refine lv_idiv (pc := 9) hx hb dX4_sha_9 (nI_ne0 (by omega) (by omega)) ?_
  refine lv_cv (pk_div (a := ((len + 9) + 63)) (d := 64) (by omega) (by omega) (by omega)) ?_
  refine lv_bipush (pc := 10) (v := nI 64) hx hb dX4_sha_10 (by decide) ?_
  refine lv_imul (pc := 12) hx hb dX4_sha_12 ?_
  refine lv_cv (pk_mul (((len + 9) + 63) / 64) 64) ?_
  refine lv_cv (congrArg nI (show (len + 9 + 63) / 64 * 64 = ((len + 8) / 64 + 1) * 64 by omega)) ?_
  refine lv_istore (pc := 13) (lv' := [(4, .int (nI (((len + 8) / 64 + 1) * 64))), (0, .ref g0), (1, .ref g6), (2, .int (nI fo)), (3, .int (nI len))]) hx hb dX4_sha_13 hl (by decide) rfl (fun ls hl => ?_)
  refine lv_iconst (pc := 15) (v := nI 0) hx hb dX4_sha_15 (by decide) ?_
  refine lv_istore (pc := 16) (lv' := [(5, .int (nI 0)), (4, .int (nI (((len + 8) / 64 + 1) * 64))), (0, .ref g0), (1, .ref g6), (2, .int (nI fo)), (3, .int (nI len))]) hx hb dX4_sha_16 hl (by decide) rfl (fun ls hl => ?_)
  rw [← cpF_0 pa (pad8 G fo len)] at hP hD
  refine x_loop (σ := (Nat)) (Wd := fun i : (Nat) => gW g0 g1 g2 g3 g4 g5 g6 g7 g8 g9 g10 g11 g12 g13 cI cB k dr er pl un li ov G tn rn vs bo ex wr ei dg wo (cpF pa (pad8 G fo len) i) ch fi) (Lv := fun i : (Nat) => [(5, .int (nI i)), (4, .int (nI (((len + 8) / 64 + 1) * 64))), (0, .ref g0), (1, .ref g6), (2, .int (nI fo)), (3, .int (nI len))]) (I := fun i : (Nat) => (i ≤ ((len + 8) / 64 + 1) * 64)) (μ := fun i : (Nat) => ((len + 8) / 64 + 1) * 64 - i) ?_ (0) (by omega) hP hD hS (lv_sub hl [0, 1, 2, 3, 4, 5] rfl)
  intro i H locs ls hI hP hD hS hl ih18
  have hi : (i ≤ ((len + 8) / 64 + 1) * 64) := hI
  have hP : va_P (dC, dI) vwCl (gW g0 g1 g2 g3 g4 g5 g6 g7 g8 g9 g10 g11 g12 g13 cI cB k dr er pl un li ov G tn rn vs bo ex wr ei dg wo (cpF pa (pad8 G fo len) i) ch fi) _ := hP
  have hD : va_D A (gW g0 g1 g2 g3 g4 g5 g6 g7 g8 g9 g10 g11 g12 g13 cI cB k dr er pl un li ov G tn rn vs bo ex wr ei dg wo (cpF pa (pad8 G fo len) i) ch fi) := hD
  have hl : lv_has ls 6 [(5, .int (nI i)), (4, .int (nI (((len + 8) / 64 + 1) * 64))), (0, .ref g0), (1, .ref g6), (2, .int (nI fo)), (3, .int (nI len))] := hl
  refine lv_iload (pc := 18) hx hb dX4_sha_18 (lv_at hl 0 rfl) ?_
  refine lv_iload (pc := 20) hx hb dX4_sha_20 (lv_at hl 1 rfl) ?_
  refine lv_icmp_ge (pc := 22) (tgt := 65) hx hb dX4_sha_22 (by decide) (fun c1 => ?_) (fun c1 => ?_)
  · skip
    have c1 : (((len + 8) / 64 + 1) * 64) ≤ i := (nI_leI (a := (((len + 8) / 64 + 1) * 64)) (b := i) (by omega) (by omega)).mp c1
    have hi9 : i = ((len + 8) / 64 + 1) * 64 := by omega
    subst hi9
    have hP : va_P (dC, dI) vwCl (gW g0 g1 g2 g3 g4 g5 g6 g7 g8 g9 g10 g11 g12 g13 cI cB k dr er pl un li ov G tn rn vs bo ex wr ei dg wo (cpF pa (pad8 G fo len) (((len + 8) / 64 + 1) * 64)) ch fi) _ := hP
    have hD : va_D A (gW g0 g1 g2 g3 g4 g5 g6 g7 g8 g9 g10 g11 g12 g13 cI cB k dr er pl un li ov G tn rn vs bo ex wr ei dg wo (cpF pa (pad8 G fo len) (((len + 8) / 64 + 1) * 64)) ch fi) := hD
    refine lv_iconst (pc := 65) (v := nI 0) hx hb dX4_sha_65 (by decide) ?_
    refine lv_istore (pc := 66) (lv' := [(5, .int (nI 0)), (4, .int (nI (((len + 8) / 64 + 1) * 64))), (0, .ref g0), (1, .ref g6), (2, .int (nI fo)), (3, .int (nI len))]) hx hb dX4_sha_66 hl (by decide) rfl (fun ls hl => ?_)
    rw [← lnF_0 (cpF pa (pad8 G fo len) (((len + 8) / 64 + 1) * 64)) (((len + 8) / 64 + 1) * 64) (nI (len * 8))] at hP hD
    refine x_loop (σ := (Nat)) (Wd := fun i : (Nat) => gW g0 g1 g2 g3 g4 g5 g6 g7 g8 g9 g10 g11 g12 g13 cI cB k dr er pl un li ov G tn rn vs bo ex wr ei dg wo (lnF (cpF pa (pad8 G fo len) (((len + 8) / 64 + 1) * 64)) (((len + 8) / 64 + 1) * 64) (nI (len * 8)) i) ch fi) (Lv := fun i : (Nat) => [(5, .int (nI i)), (4, .int (nI (((len + 8) / 64 + 1) * 64))), (0, .ref g0), (1, .ref g6), (2, .int (nI fo)), (3, .int (nI len))]) (I := fun i : (Nat) => (i ≤ 4)) (μ := fun i : (Nat) => 4 - i) ?_ (0) (by omega) hP hD hS (lv_sub hl [0, 1, 2, 3, 4, 5] rfl)
    intro i H locs ls hI hP hD hS hl ih68
    have hi : (i ≤ 4) := hI
    have hP : va_P (dC, dI) vwCl (gW g0 g1 g2 g3 g4 g5 g6 g7 g8 g9 g10 g11 g12 g13 cI cB k dr er pl un li ov G tn rn vs bo ex wr ei dg wo (lnF (cpF pa (pad8 G fo len) (((len + 8) / 64 + 1) * 64)) (((len + 8) / 64 + 1) * 64) (nI (len * 8)) i) ch fi) _ := hP
    have hD : va_D A (gW g0 g1 g2 g3 g4 g5 g6 g7 g8 g9 g10 g11 g12 g13 cI cB k dr er pl un li ov G tn rn vs bo ex wr ei dg wo (lnF (cpF pa (pad8 G fo len) (((len + 8) / 64 + 1) * 64)) (((len + 8) / 64 + 1) * 64) (nI (len * 8)) i) ch fi) := hD
    have hl : lv_has ls 6 [(5, .int (nI i)), (4, .int (nI (((len + 8) / 64 + 1) * 64))), (0, .ref g0), (1, .ref g6), (2, .int (nI fo)), (3, .int (nI len))] := hl
    refine lv_iload (pc := 68) hx hb dX4_sha_68 (lv_at hl 0 rfl) ?_
    refine lv_iconst (pc := 70) (v := nI 4) hx hb dX4_sha_70 (by decide) ?_
    refine lv_icmp_ge (pc := 71) (tgt := 103) hx hb dX4_sha_71 (by decide) (fun c4 => ?_) (fun c4 => ?_)
    · skip
      have c4 : 4 ≤ i := (nI_leI (a := 4) (b := i) (by omega) (by omega)).mp c4
      have hi9 : i = 4 := by omega
      subst hi9
      have hP : va_P (dC, dI) vwCl (gW g0 g1 g2 g3 g4 g5 g6 g7 g8 g9 g10 g11 g12 g13 cI cB k dr er pl un li ov G tn rn vs bo ex wr ei dg wo (lnF (cpF pa (pad8 G fo len) (((len + 8) / 64 + 1) * 64)) (((len + 8) / 64 + 1) * 64) (nI (len * 8)) 4) ch fi) _ := hP
      have hD : va_D A (gW g0 g1 g2 g3 g4 g5 g6 g7 g8 g9 g10 g11 g12 g13 cI cB k dr er pl un li ov G tn rn vs bo ex wr ei dg wo (lnF (cpF pa (pad8 G fo len) (((len + 8) / 64 + 1) * 64)) (((len + 8) / 64 + 1) * 64) (nI (len * 8)) 4) ch fi) := hD
      refine lv_iconst (pc := 103) (v := nI 0) hx hb dX4_sha_103 (by decide) ?_
      refine lv_istore (pc := 104) (lv' := [(5, .int (nI 0)), (4, .int (nI (((len + 8) / 64 + 1) * 64))), (0, .ref g0), (1, .ref g6), (2, .int (nI fo)), (3, .int (nI len))]) hx hb dX4_sha_104 hl (by decide) rfl (fun ls hl => ?_)
      refine x_loop (σ := (Nat) × (Nat → Int32)) (Wd := fun x : (Nat) × (Nat → Int32) => match x with | (i, ch) => gW g0 g1 g2 g3 g4 g5 g6 g7 g8 g9 g10 g11 g12 g13 cI cB k dr er pl un li ov G tn rn vs bo ex wr ei dg wo (lnF (cpF pa (pad8 G fo len) (((len + 8) / 64 + 1) * 64)) (((len + 8) / 64 + 1) * 64) (nI (len * 8)) 4) ch fi) (Lv := fun x : (Nat) × (Nat → Int32) => match x with | (i, ch) => [(5, .int (nI i)), (4, .int (nI (((len + 8) / 64 + 1) * 64))), (0, .ref g0), (1, .ref g6), (2, .int (nI fo)), (3, .int (nI len))]) (I := fun x : (Nat) × (Nat → Int32) => match x with | (i, ch) => (i ≤ 8) ∧ (∀ j, j < i → ch j = tbF j)) (μ := fun x : (Nat) × (Nat → Int32) => match x with | (i, ch) => 8 - i) ?_ (0, ch) ⟨by omega, fun j hj => absurd hj (Nat.not_lt_zero j)⟩ hP hD hS (lv_sub hl [0, 1, 2, 3, 4, 5] rfl)
      intro x H locs ls hI hP hD hS hl ih106
      obtain ⟨i, ch⟩ := x
      obtain ⟨hi, hh⟩ : (i ≤ 8) ∧ (∀ j, j < i → ch j = tbF j) := hI
      have hP : va_P (dC, dI) vwCl (gW g0 g1 g2 g3 g4 g5 g6 g7 g8 g9 g10 g11 g12 g13 cI cB k dr er pl un li ov G tn rn vs bo ex wr ei dg wo (lnF (cpF pa (pad8 G fo len) (((len + 8) / 64 + 1) * 64)) (((len + 8) / 64 + 1) * 64) (nI (len * 8)) 4) ch fi) _ := hP
      have hD : va_D A (gW g0 g1 g2 g3 g4 g5 g6 g7 g8 g9 g10 g11 g12 g13 cI cB k dr er pl un li ov G tn rn vs bo ex wr ei dg wo (lnF (cpF pa (pad8 G fo len) (((len + 8) / 64 + 1) * 64)) (((len + 8) / 64 + 1) * 64) (nI (len * 8)) 4) ch fi) := hD
      have hl : lv_has ls 6 [(5, .int (nI i)), (4, .int (nI (((len + 8) / 64 + 1) * 64))), (0, .ref g0), (1, .ref g6), (2, .int (nI fo)), (3, .int (nI len))] := hl
      refine lv_iload (pc := 106) hx hb dX4_sha_106 (lv_at hl 0 rfl) ?_
      refine lv_bipush (pc := 108) (v := nI 8) hx hb dX4_sha_108 (by decide) ?_
      refine lv_icmp_ge (pc := 110) (tgt := 132) hx hb dX4_sha_110 (by decide) (fun c_1 => ?_) (fun c_1 => ?_)
      · skip
        have c_1 : 8 ≤ i := (nI_leI (a := 8) (b := i) (by omega) (by omega)).mp c_1
        refine lv_iconst (pc := 132) (v := nI 0) hx hb dX4_sha_132 (by decide) ?_
        refine lv_istore (pc := 133) (lv' := [(5, .int (nI 0)), (4, .int (nI (((len + 8) / 64 + 1) * 64))), (0, .ref g0), (1, .ref g6), (2, .int (nI fo)), (3, .int (nI len))]) hx hb dX4_sha_133 hl (by decide) rfl (fun ls hl => ?_)
        have ho0 : of8 ch = shaC (msgW G fo len) 0 := of8_F (fun j hj => hh j (by omega))
        have hl : lv_has ls 6 [(5, .int (nI (0 * 64))), (4, .int (nI (((len + 8) / 64 + 1) * 64))), (0, .ref g0), (1, .ref g6), (2, .int (nI fo)), (3, .int (nI len))] := hl
        refine x_loop (σ := (Nat) × (Nat → Int32) × (Nat → Int32)) (Wd := fun x : (Nat) × (Nat → Int32) × (Nat → Int32) => match x with | (b, wo, ch) => gW g0 g1 g2 g3 g4 g5 g6 g7 g8 g9 g10 g11 g12 g13 cI cB k dr er pl un li ov G tn rn vs bo ex wr ei dg wo (lnF (cpF pa (pad8 G fo len) (((len + 8) / 64 + 1) * 64)) (((len + 8) / 64 + 1) * 64) (nI (len * 8)) 4) ch fi) (Lv := fun x : (Nat) × (Nat → Int32) × (Nat → Int32) => match x with | (b, wo, ch) => [(5, .int (nI (b * 64))), (4, .int (nI (((len + 8) / 64 + 1) * 64))), (0, .ref g0), (1, .ref g6), (2, .int (nI fo)), (3, .int (nI len))]) (I := fun x : (Nat) × (Nat → Int32) × (Nat → Int32) => match x with | (b, wo, ch) => (b ≤ (len + 8) / 64 + 1) ∧ (of8 ch = shaC (msgW G fo len) b)) (μ := fun x : (Nat) × (Nat → Int32) × (Nat → Int32) => match x with | (b, wo, ch) => (len + 8) / 64 + 1 - b) ?_ (0, wo, ch) ⟨by omega, ho0⟩ hP hD hS (lv_sub hl [0, 1, 2, 3, 4, 5] rfl)
        intro x H locs ls hI hP hD hS hl ih135
        obtain ⟨b, wo, ch⟩ := x
        obtain ⟨hb9, ho⟩ : (b ≤ (len + 8) / 64 + 1) ∧ (of8 ch = shaC (msgW G fo len) b) := hI
        have hP : va_P (dC, dI) vwCl (gW g0 g1 g2 g3 g4 g5 g6 g7 g8 g9 g10 g11 g12 g13 cI cB k dr er pl un li ov G tn rn vs bo ex wr ei dg wo (lnF (cpF pa (pad8 G fo len) (((len + 8) / 64 + 1) * 64)) (((len + 8) / 64 + 1) * 64) (nI (len * 8)) 4) ch fi) _ := hP
        have hD : va_D A (gW g0 g1 g2 g3 g4 g5 g6 g7 g8 g9 g10 g11 g12 g13 cI cB k dr er pl un li ov G tn rn vs bo ex wr ei dg wo (lnF (cpF pa (pad8 G fo len) (((len + 8) / 64 + 1) * 64)) (((len + 8) / 64 + 1) * 64) (nI (len * 8)) 4) ch fi) := hD
        have hl : lv_has ls 6 [(5, .int (nI (b * 64))), (4, .int (nI (((len + 8) / 64 + 1) * 64))), (0, .ref g0), (1, .ref g6), (2, .int (nI fo)), (3, .int (nI len))] := hl
        refine lv_iload (pc := 135) hx hb dX4_sha_135 (lv_at hl 0 rfl) ?_
        refine lv_iload (pc := 137) hx hb dX4_sha_137 (lv_at hl 1 rfl) ?_
        refine lv_icmp_ge (pc := 139) (tgt := 154) hx hb dX4_sha_139 (by decide) (fun c_2 => ?_) (fun c_2 => ?_)
        · skip
          have c_2 : (((len + 8) / 64 + 1) * 64) ≤ (b * 64) := (nI_leI (a := (((len + 8) / 64 + 1) * 64)) (b := (b * 64)) (by omega) (by omega)).mp c_2
          refine lv_iconst (pc := 154) (v := nI 0) hx hb dX4_sha_154 (by decide) ?_
          refine lv_istore (pc := 155) (lv' := [(5, .int (nI 0)), (4, .int (nI (((len + 8) / 64 + 1) * 64))), (0, .ref g0), (1, .ref g6), (2, .int (nI fo)), (3, .int (nI len))]) hx hb dX4_sha_155 hl (by decide) rfl (fun ls hl => ?_)
          rw [← cpF_0 dg (digT (of8 ch))] at hP hD
          refine x_loop (σ := (Nat)) (Wd := fun i : (Nat) => gW g0 g1 g2 g3 g4 g5 g6 g7 g8 g9 g10 g11 g12 g13 cI cB k dr er pl un li ov G tn rn vs bo ex wr ei (cpF dg (digT (of8 ch)) i) wo (lnF (cpF pa (pad8 G fo len) (((len + 8) / 64 + 1) * 64)) (((len + 8) / 64 + 1) * 64) (nI (len * 8)) 4) ch fi) (Lv := fun i : (Nat) => [(5, .int (nI i)), (4, .int (nI (((len + 8) / 64 + 1) * 64))), (0, .ref g0), (1, .ref g6), (2, .int (nI fo)), (3, .int (nI len))]) (I := fun i : (Nat) => (i ≤ 32)) (μ := fun i : (Nat) => 32 - i) ?_ (0) (by omega) hP hD hS (lv_sub hl [0, 1, 2, 3, 4, 5] rfl)
          intro i H locs ls hI hP hD hS hl ih157
          have hi : (i ≤ 32) := hI
          have hP : va_P (dC, dI) vwCl (gW g0 g1 g2 g3 g4 g5 g6 g7 g8 g9 g10 g11 g12 g13 cI cB k dr er pl un li ov G tn rn vs bo ex wr ei (cpF dg (digT (of8 ch)) i) wo (lnF (cpF pa (pad8 G fo len) (((len + 8) / 64 + 1) * 64)) (((len + 8) / 64 + 1) * 64) (nI (len * 8)) 4) ch fi) _ := hP
          have hD : va_D A (gW g0 g1 g2 g3 g4 g5 g6 g7 g8 g9 g10 g11 g12 g13 cI cB k dr er pl un li ov G tn rn vs bo ex wr ei (cpF dg (digT (of8 ch)) i) wo (lnF (cpF pa (pad8 G fo len) (((len + 8) / 64 + 1) * 64)) (((len + 8) / 64 + 1) * 64) (nI (len * 8)) 4) ch fi) := hD
          have hl : lv_has ls 6 [(5, .int (nI i)), (4, .int (nI (((len + 8) / 64 + 1) * 64))), (0, .ref g0), (1, .ref g6), (2, .int (nI fo)), (3, .int (nI len))] := hl
          refine lv_iload (pc := 157) hx hb dX4_sha_157 (lv_at hl 0 rfl) ?_
          refine lv_bipush (pc := 159) (v := nI 32) hx hb dX4_sha_159 (by decide) ?_
          refine lv_icmp_ge (pc := 161) (tgt := 198) hx hb dX4_sha_161 (by decide) (fun c_3 => ?_) (fun c_3 => ?_)
          · skip
            have c_3 : 32 ≤ i := (nI_leI (a := 32) (b := i) (by omega) (by omega)).mp c_3
            have hb0 : b = (len + 8) / 64 + 1 := by omega
            rw [hb0] at ho
            exact W.vret hx hb hr (fun t ht hW => ⟨⟨(cpF dg (digT (of8 ch)) i, wo, lnF (cpF pa (pad8 G fo len) (((len + 8) / 64 + 1) * 64)) (((len + 8) / 64 + 1) * 64) (nI (len * 8)) 4, ch), rfl, fun j hj => by show (if j < i then digT (of8 ch) j else dg j) = _; rw [if_pos (by omega), ho]; rfl, by show va_P _ _ _ t.heap; rw [ht]; exact hP, va_K.moved hW.alike hK, hD⟩, hS.F ht⟩) hS.2.2 dX4_sha_198
          · skip
            have c_3 : ¬ 32 ≤ i := fun z => c_3 ((nI_leI (a := 32) (b := i) (by omega) (by omega)).mpr z)
            refine lv_aload_n (pc := 164) hx hb dX4_sha_164 rfl (lv_at hl 2 rfl) ?_
            refine va_get (pc := 165) (D := (dC, dI)) (ci := 4) (v := .ref g9) (C := RX4) (T := TX4) (N := 26) hx hb hts (by decide +kernel) hown hK hP 0 rfl rfl 21 (by decide) (hts (.fieldLink RX4 39 "ScratchSwapModel" "digest" "[B") (by decide +kernel)) (fun _ h9 => h9) rfl dX4_sha_165 ?_
            refine lv_iload (pc := 168) hx hb dX4_sha_168 (lv_at hl 0 rfl) ?_
            refine lv_aload_n (pc := 170) hx hb dX4_sha_170 rfl (lv_at hl 2 rfl) ?_
            refine va_get (pc := 171) (D := (dC, dI)) (ci := 4) (v := .ref g12) (C := RX4) (T := TX4) (N := 26) hx hb hts (by decide +kernel) hown hK hP 0 rfl rfl 24 (by decide) (hts (.fieldLink RX4 48 "ScratchSwapModel" "chain" "[I") (by decide +kernel)) (fun _ h9 => h9) rfl dX4_sha_171 ?_
            refine lv_iload (pc := 174) hx hb dX4_sha_174 (lv_at hl 0 rfl) ?_
            refine lv_iconst (pc := 176) (v := nI 4) hx hb dX4_sha_176 (by decide) ?_
            refine lv_idiv (pc := 177) hx hb dX4_sha_177 (nI_ne0 (by omega) (by omega)) ?_
            refine lv_cv (pk_div (a := i) (d := 4) (by omega) (by omega) (by omega)) ?_
            refine x_iald (pc := 178) (k := i / 4) (f := ch) hx hb hK hP 12 0 rfl rfl (by omega) (by decide) dX4_sha_178 ?_
            refine lv_bipush (pc := 179) (v := nI 24) hx hb dX4_sha_179 (by decide) ?_
            refine lv_bipush (pc := 181) (v := nI 8) hx hb dX4_sha_181 (by decide) ?_
            refine lv_iload (pc := 183) hx hb dX4_sha_183 (lv_at hl 0 rfl) ?_
            refine lv_iconst (pc := 185) (v := nI 4) hx hb dX4_sha_185 (by decide) ?_
            refine lv_irem (pc := 186) hx hb dX4_sha_186 (nI_ne0 (by omega) (by omega)) ?_
            refine lv_cv (pk_rem (a := i) (d := 4) (by omega) (by omega) (by omega)) ?_
            refine lv_imul (pc := 187) hx hb dX4_sha_187 ?_
            refine lv_cv (x_mulc 8 (i % 4)) ?_
            refine lv_isub (pc := 188) hx hb dX4_sha_188 ?_
            refine lv_cv (pk_sub (a := 24) (b := ((i % 4) * 8)) (by omega)) ?_
            refine lv_ishr (pc := 189) hx hb dX4_sha_189 ?_
            refine lv_i2b (pc := 190) hx hb dX4_sha_190 (rfl) ?_
            refine lv_cv (congrArg Int8.toInt32 (dig_sh ch (i := i) (by omega))) ?_
            refine x_sst (pc := 191) (k := i) (F := cpF dg (digT (of8 ch)) i) hx hb hK hP hD hS 9 1 rfl rfl (by omega) (by decide) dX4_sha_191 (fun H locs hP hD hS => ?_)
            have hP : va_P (dC, dI) vwCl (gW g0 g1 g2 g3 g4 g5 g6 g7 g8 g9 g10 g11 g12 g13 cI cB k dr er pl un li ov G tn rn vs bo ex wr ei (va_up (cpF dg (digT (of8 ch)) i) i (digT (of8 ch) i)) wo (lnF (cpF pa (pad8 G fo len) (((len + 8) / 64 + 1) * 64)) (((len + 8) / 64 + 1) * 64) (nI (len * 8)) 4) ch fi) _ := hP
            have hD : va_D A (gW g0 g1 g2 g3 g4 g5 g6 g7 g8 g9 g10 g11 g12 g13 cI cB k dr er pl un li ov G tn rn vs bo ex wr ei (va_up (cpF dg (digT (of8 ch)) i) i (digT (of8 ch) i)) wo (lnF (cpF pa (pad8 G fo len) (((len + 8) / 64 + 1) * 64)) (((len + 8) / 64 + 1) * 64) (nI (len * 8)) 4) ch fi) := hD
            refine lv_iinc (pc := 192) (v := nI (i + 1)) (lv' := [(5, .int (nI (i + 1))), (4, .int (nI (((len + 8) / 64 + 1) * 64))), (0, .ref g0), (1, .ref g6), (2, .int (nI fo)), (3, .int (nI len))]) hx hb dX4_sha_192 hl (k := 0) rfl (nI_inc i 1) (by decide) rfl (fun ls hl => ?_)
            refine lv_goto (pc := 195) (tgt := 157) hx hb dX4_sha_195 (by decide) ?_
            rw [cpF_step] at hP hD
            exact ih157 (i + 1) H locs ls (by omega) (by first | omega | (simp only []; omega)) hP hD hS (lv_sub hl [0, 1, 2, 3, 4, 5] rfl)
        · skip
          have c_2 : ¬ (((len + 8) / 64 + 1) * 64) ≤ (b * 64) := fun z => c_2 ((nI_leI (a := (((len + 8) / 64 + 1) * 64)) (b := (b * 64)) (by omega) (by omega)).mpr z)
          refine lv_aload_n (pc := 142) hx hb dX4_sha_142 rfl (lv_at hl 2 rfl) ?_
          refine lv_iload (pc := 143) hx hb dX4_sha_143 (lv_at hl 0 rfl) ?_
          refine x_wrva (pc := 145) (va_runV (As := [.int (nI (b * 64))]) (rest := []) ⟨hx, hb, hml, hown, hts⟩ (kX4_block l dC dI tt cI cB _ g0 g1 g2 g3 g4 g5 g6 g7 g8 g9 g10 g11 g12 g13 k dr er pl un li ov G tn rn vs bo ex wr ei dg wo (lnF (cpF pa (pad8 G fo len) (((len + 8) / 64 + 1) * 64)) (((len + 8) / 64 + 1) * 64) (nI (len * 8)) 4) ch fi (b * 64) (by omega)) (cwV 1 hts gX4_sha_X4_block rfl rfl rfl (by decide +kernel) ⟨Nat.le_of_ble_eq_true rfl, Nat.le_of_ble_eq_true rfl⟩) (x_preVa hS hE hK hP hD (x_all hD hS hA) xR0 4 0 rfl rfl) rfl rfl hl.1 rfl (lv_room (Nat.le_of_ble_eq_true rfl)) dX4_sha_145 ⟨Nat.le_of_ble_eq_true rfl, Nat.le_of_ble_eq_true rfl⟩) hS hA hD (fun u_4 H locs hu_4 hP hD hS => ?_)
          obtain ⟨wo_5, ch_6⟩ := u_4
          have hb_ch_6 : ch_6 = addH ch (mixN (wN wo (lnF (cpF pa (pad8 G fo len) (((len + 8) / 64 + 1) * 64)) (((len + 8) / 64 + 1) * 64) (nI (len * 8)) 4) (b * 64) 64) 64 (of8 ch)) := hu_4
          have hP : va_P (dC, dI) vwCl (gW g0 g1 g2 g3 g4 g5 g6 g7 g8 g9 g10 g11 g12 g13 cI cB k dr er pl un li ov G tn rn vs bo ex wr ei dg wo_5 (lnF (cpF pa (pad8 G fo len) (((len + 8) / 64 + 1) * 64)) (((len + 8) / 64 + 1) * 64) (nI (len * 8)) 4) ch_6 fi) _ := hP
          have hD : va_D A (gW g0 g1 g2 g3 g4 g5 g6 g7 g8 g9 g10 g11 g12 g13 cI cB k dr er pl un li ov G tn rn vs bo ex wr ei dg wo_5 (lnF (cpF pa (pad8 G fo len) (((len + 8) / 64 + 1) * 64)) (((len + 8) / 64 + 1) * 64) (nI (len * 8)) 4) ch_6 fi) := hD
          refine lv_iinc (pc := 148) (v := nI ((b * 64) + 64)) (lv' := [(5, .int (nI ((b * 64) + 64))), (4, .int (nI (((len + 8) / 64 + 1) * 64))), (0, .ref g0), (1, .ref g6), (2, .int (nI fo)), (3, .int (nI len))]) hx hb dX4_sha_148 hl (k := 0) rfl (nI_inc (b * 64) 64) (by decide) rfl (fun ls hl => ?_)
          refine lv_goto (pc := 151) (tgt := 135) hx hb dX4_sha_151 (by decide) ?_
          have hl : lv_has ls 6 [(5, .int (nI ((b + 1) * 64))), (4, .int (nI (((len + 8) / 64 + 1) * 64))), (0, .ref g0), (1, .ref g6), (2, .int (nI fo)), (3, .int (nI len))] := by rw [show (b + 1) * 64 = b * 64 + 64 by omega]; exact hl
          have hst9 : of8 ch_6 = shaC (msgW G fo len) (b + 1) := by
            rw [hb_ch_6, wN_hi _ _ _ (by omega)]
            exact shaC_step ho (fun j hj => by unfold wdF; rw [if_pos hj]; exact msg_w (by omega) hj)
          exact ih135 (b + 1, wo_5, ch_6) H locs ls ⟨by omega, hst9⟩ (by first | omega | (simp only []; omega)) hP hD hS (lv_sub hl [0, 1, 2, 3, 4, 5] rfl)
      · skip
        have c_1 : ¬ 8 ≤ i := fun z => c_1 ((nI_leI (a := 8) (b := i) (by omega) (by omega)).mpr z)
        refine lv_aload_n (pc := 113) hx hb dX4_sha_113 rfl (lv_at hl 2 rfl) ?_
        refine va_get (pc := 114) (D := (dC, dI)) (ci := 4) (v := .ref g12) (C := RX4) (T := TX4) (N := 26) hx hb hts (by decide +kernel) hown hK hP 0 rfl rfl 24 (by decide) (hts (.fieldLink RX4 48 "ScratchSwapModel" "chain" "[I") (by decide +kernel)) (fun _ h9 => h9) rfl dX4_sha_114 ?_
        refine lv_iload (pc := 117) hx hb dX4_sha_117 (lv_at hl 0 rfl) ?_
        refine va_gets (pc := 119) hx hb (hE.2.2.2.2.2.2.1).1 hS hown (hts (.fieldLink RX4 121 "ScratchSwapModel" "STARTS" "[I") (by decide +kernel)) (fun _ h9 => h9) dX4_sha_119 ?_
        refine lv_iload (pc := 122) hx hb dX4_sha_122 (lv_at hl 0 rfl) ?_
        refine x_ti (pc := 124) (k := i) hx hb (hE.2.2.2.2.2.2.1).2 hS (by omega) (by decide) dX4_sha_124 ?_
        refine x_iast (pc := 125) (k := i) (f := ch) hx hb hK hP hD hS 12 0 rfl rfl (by omega) (by decide) dX4_sha_125 (fun H locs hP hD hS => ?_)
        have hP : va_P (dC, dI) vwCl (gW g0 g1 g2 g3 g4 g5 g6 g7 g8 g9 g10 g11 g12 g13 cI cB k dr er pl un li ov G tn rn vs bo ex wr ei dg wo (lnF (cpF pa (pad8 G fo len) (((len + 8) / 64 + 1) * 64)) (((len + 8) / 64 + 1) * 64) (nI (len * 8)) 4) (upd ch i (tbF i)) fi) _ := hP
        have hD : va_D A (gW g0 g1 g2 g3 g4 g5 g6 g7 g8 g9 g10 g11 g12 g13 cI cB k dr er pl un li ov G tn rn vs bo ex wr ei dg wo (lnF (cpF pa (pad8 G fo len) (((len + 8) / 64 + 1) * 64)) (((len + 8) / 64 + 1) * 64) (nI (len * 8)) 4) (upd ch i (tbF i)) fi) := hD
        refine lv_iinc (pc := 126) (v := nI (i + 1)) (lv' := [(5, .int (nI (i + 1))), (4, .int (nI (((len + 8) / 64 + 1) * 64))), (0, .ref g0), (1, .ref g6), (2, .int (nI fo)), (3, .int (nI len))]) hx hb dX4_sha_126 hl (k := 0) rfl (nI_inc i 1) (by decide) rfl (fun ls hl => ?_)
        refine lv_goto (pc := 129) (tgt := 106) hx hb dX4_sha_129 (by decide) ?_
        have hh9 : ∀ j, j < i + 1 → (upd ch i (tbF i)) j = tbF j := by
          intro j hj
          unfold upd
          by_cases h : j = i
          · rw [if_pos h, h]
          · rw [if_neg h]; exact hh j (by omega)
        exact ih106 (i + 1, upd ch i (tbF i)) H locs ls ⟨by omega, hh9⟩ (by first | omega | (simp only []; omega)) hP hD hS (lv_sub hl [0, 1, 2, 3, 4, 5] rfl)
    · skip
      have c4 : ¬ 4 ≤ i := fun z => c4 ((nI_leI (a := 4) (b := i) (by omega) (by omega)).mpr z)
      refine lv_aload_n (pc := 74) hx hb dX4_sha_74 rfl (lv_at hl 2 rfl) ?_
      refine va_get (pc := 75) (D := (dC, dI)) (ci := 4) (v := .ref g11) (C := RX4) (T := TX4) (N := 26) hx hb hts (by decide +kernel) hown hK hP 0 rfl rfl 23 (by decide) (hts (.fieldLink RX4 45 "ScratchSwapModel" "padded" "[B") (by decide +kernel)) (fun _ h9 => h9) rfl dX4_sha_75 ?_
      refine lv_iload (pc := 78) hx hb dX4_sha_78 (lv_at hl 1 rfl) ?_
      refine lv_iconst (pc := 80) (v := nI 1) hx hb dX4_sha_80 (by decide) ?_
      refine lv_isub (pc := 81) hx hb dX4_sha_81 ?_
      refine lv_cv (pk_sub (a := (((len + 8) / 64 + 1) * 64)) (b := 1) (by omega)) ?_
      refine lv_iload (pc := 82) hx hb dX4_sha_82 (lv_at hl 0 rfl) ?_
      refine lv_isub (pc := 84) hx hb dX4_sha_84 ?_
      refine lv_cv (pk_sub (a := ((((len + 8) / 64 + 1) * 64) - 1)) (b := i) (by omega)) ?_
      refine lv_bipush (pc := 85) (v := nI 8) hx hb dX4_sha_85 (by decide) ?_
      refine lv_iload_n (pc := 87) hx hb dX4_sha_87 rfl (lv_at hl 5 rfl) ?_
      refine lv_imul (pc := 88) hx hb dX4_sha_88 ?_
      refine lv_cv (x_mulc 8 len) ?_
      refine lv_bipush (pc := 89) (v := nI 8) hx hb dX4_sha_89 (by decide) ?_
      refine lv_iload (pc := 91) hx hb dX4_sha_91 (lv_at hl 0 rfl) ?_
      refine lv_imul (pc := 93) hx hb dX4_sha_93 ?_
      refine lv_cv (x_mulc 8 i) ?_
      refine lv_ishr (pc := 94) hx hb dX4_sha_94 ?_
      refine lv_i2b (pc := 95) hx hb dX4_sha_95 (rfl) ?_
      refine x_sst (pc := 96) (k := ((((len + 8) / 64 + 1) * 64) - 1) - i) (F := lnF (cpF pa (pad8 G fo len) (((len + 8) / 64 + 1) * 64)) (((len + 8) / 64 + 1) * 64) (nI (len * 8)) i) hx hb hK hP hD hS 11 1 rfl rfl (by omega) (by decide) dX4_sha_96 (fun H locs hP hD hS => ?_)
      have hP : va_P (dC, dI) vwCl (gW g0 g1 g2 g3 g4 g5 g6 g7 g8 g9 g10 g11 g12 g13 cI cB k dr er pl un li ov G tn rn vs bo ex wr ei dg wo (va_up (lnF (cpF pa (pad8 G fo len) (((len + 8) / 64 + 1) * 64)) (((len + 8) / 64 + 1) * 64) (nI (len * 8)) i) (((((len + 8) / 64 + 1) * 64) - 1) - i) (Int32.toInt8 ((nI (len * 8)) >>> ((nI (i * 8)) &&& 31)))) ch fi) _ := hP
      have hD : va_D A (gW g0 g1 g2 g3 g4 g5 g6 g7 g8 g9 g10 g11 g12 g13 cI cB k dr er pl un li ov G tn rn vs bo ex wr ei dg wo (va_up (lnF (cpF pa (pad8 G fo len) (((len + 8) / 64 + 1) * 64)) (((len + 8) / 64 + 1) * 64) (nI (len * 8)) i) (((((len + 8) / 64 + 1) * 64) - 1) - i) (Int32.toInt8 ((nI (len * 8)) >>> ((nI (i * 8)) &&& 31)))) ch fi) := hD
      refine lv_iinc (pc := 97) (v := nI (i + 1)) (lv' := [(5, .int (nI (i + 1))), (4, .int (nI (((len + 8) / 64 + 1) * 64))), (0, .ref g0), (1, .ref g6), (2, .int (nI fo)), (3, .int (nI len))]) hx hb dX4_sha_97 hl (k := 0) rfl (nI_inc i 1) (by decide) rfl (fun ls hl => ?_)
      refine lv_goto (pc := 100) (tgt := 68) hx hb dX4_sha_100 (by decide) ?_
      rw [lnF_step _ _ _ (by omega)] at hP hD
      exact ih68 (i + 1) H locs ls (by omega) (by first | omega | (simp only []; omega)) hP hD hS (lv_sub hl [0, 1, 2, 3, 4, 5] rfl)
  · skip
    have c1 : ¬ (((len + 8) / 64 + 1) * 64) ≤ i := fun z => c1 ((nI_leI (a := (((len + 8) / 64 + 1) * 64)) (b := i) (by omega) (by omega)).mpr z)
    refine lv_aload_n (pc := 25) hx hb dX4_sha_25 rfl (lv_at hl 2 rfl) ?_
    refine va_get (pc := 26) (D := (dC, dI)) (ci := 4) (v := .ref g11) (C := RX4) (T := TX4) (N := 26) hx hb hts (by decide +kernel) hown hK hP 0 rfl rfl 23 (by decide) (hts (.fieldLink RX4 45 "ScratchSwapModel" "padded" "[B") (by decide +kernel)) (fun _ h9 => h9) rfl dX4_sha_26 ?_
    refine lv_iload (pc := 29) hx hb dX4_sha_29 (lv_at hl 0 rfl) ?_
    refine lv_iload (pc := 31) hx hb dX4_sha_31 (lv_at hl 0 rfl) ?_
    refine lv_iload_n (pc := 33) hx hb dX4_sha_33 rfl (lv_at hl 5 rfl) ?_
    refine lv_icmp_ge (pc := 34) (tgt := 46) hx hb dX4_sha_34 (by decide) (fun c2 => ?_) (fun c2 => ?_)
    · skip
      have c2 : len ≤ i := (nI_leI (a := len) (b := i) (by omega) (by omega)).mp c2
      refine lv_iload (pc := 46) hx hb dX4_sha_46 (lv_at hl 0 rfl) ?_
      refine lv_iload_n (pc := 48) hx hb dX4_sha_48 rfl (lv_at hl 5 rfl) ?_
      refine lv_icmp_ne (pc := 49) (tgt := 57) hx hb dX4_sha_49 (by decide) (fun c3 => ?_) (fun c3 => ?_)
      · skip
        have c3 : ¬ i = len := fun z => c3 ((nI_eq (a := i) (b := len) (by omega) (by omega)).mpr z)
        refine lv_iconst (pc := 57) (v := nI 0) hx hb dX4_sha_57 (by decide) ?_
        refine lv_cv (show nI 0 = Int8.toInt32 (pad8 G fo len i) by rw [pad8, if_neg c3, if_neg (by omega)]; decide) ?_
        refine x_sst (pc := 58) (k := i) (F := cpF pa (pad8 G fo len) i) hx hb hK hP hD hS 11 1 rfl rfl (by omega) (by decide) dX4_sha_58 (fun H locs hP hD hS => ?_)
        have hP : va_P (dC, dI) vwCl (gW g0 g1 g2 g3 g4 g5 g6 g7 g8 g9 g10 g11 g12 g13 cI cB k dr er pl un li ov G tn rn vs bo ex wr ei dg wo (va_up (cpF pa (pad8 G fo len) i) i (pad8 G fo len i)) ch fi) _ := hP
        have hD : va_D A (gW g0 g1 g2 g3 g4 g5 g6 g7 g8 g9 g10 g11 g12 g13 cI cB k dr er pl un li ov G tn rn vs bo ex wr ei dg wo (va_up (cpF pa (pad8 G fo len) i) i (pad8 G fo len i)) ch fi) := hD
        refine lv_iinc (pc := 59) (v := nI (i + 1)) (lv' := [(5, .int (nI (i + 1))), (4, .int (nI (((len + 8) / 64 + 1) * 64))), (0, .ref g0), (1, .ref g6), (2, .int (nI fo)), (3, .int (nI len))]) hx hb dX4_sha_59 hl (k := 0) rfl (nI_inc i 1) (by decide) rfl (fun ls hl => ?_)
        refine lv_goto (pc := 62) (tgt := 18) hx hb dX4_sha_62 (by decide) ?_
        rw [cpF_step] at hP hD
        exact ih18 (i + 1) H locs ls (by omega) (by first | omega | (simp only []; omega)) hP hD hS (lv_sub hl [0, 1, 2, 3, 4, 5] rfl)
      · skip
        have c3 : i = len := (nI_eq (a := i) (b := len) (by omega) (by omega)).mp c3
        refine lv_bipush (pc := 52) (v := (-128)) hx hb dX4_sha_52 (by decide) ?_
        refine lv_goto (pc := 54) (tgt := 58) hx hb dX4_sha_54 (by decide) ?_
        refine lv_cv (show (-128 : Int32) = Int8.toInt32 (pad8 G fo len i) by rw [pad8, if_pos c3]; decide) ?_
        refine x_sst (pc := 58) (k := i) (F := cpF pa (pad8 G fo len) i) hx hb hK hP hD hS 11 1 rfl rfl (by omega) (by decide) dX4_sha_58 (fun H locs hP hD hS => ?_)
        have hP : va_P (dC, dI) vwCl (gW g0 g1 g2 g3 g4 g5 g6 g7 g8 g9 g10 g11 g12 g13 cI cB k dr er pl un li ov G tn rn vs bo ex wr ei dg wo (va_up (cpF pa (pad8 G fo len) i) i (pad8 G fo len i)) ch fi) _ := hP
        have hD : va_D A (gW g0 g1 g2 g3 g4 g5 g6 g7 g8 g9 g10 g11 g12 g13 cI cB k dr er pl un li ov G tn rn vs bo ex wr ei dg wo (va_up (cpF pa (pad8 G fo len) i) i (pad8 G fo len i)) ch fi) := hD
        refine lv_iinc (pc := 59) (v := nI (i + 1)) (lv' := [(5, .int (nI (i + 1))), (4, .int (nI (((len + 8) / 64 + 1) * 64))), (0, .ref g0), (1, .ref g6), (2, .int (nI fo)), (3, .int (nI len))]) hx hb dX4_sha_59 hl (k := 0) rfl (nI_inc i 1) (by decide) rfl (fun ls hl => ?_)
        refine lv_goto (pc := 62) (tgt := 18) hx hb dX4_sha_62 (by decide) ?_
        rw [cpF_step] at hP hD
        exact ih18 (i + 1) H locs ls (by omega) (by first | omega | (simp only []; omega)) hP hD hS (lv_sub hl [0, 1, 2, 3, 4, 5] rfl)
    · skip
      have c2 : ¬ len ≤ i := fun z => c2 ((nI_leI (a := len) (b := i) (by omega) (by omega)).mpr z)
      refine lv_aload_n (pc := 37) hx hb dX4_sha_37 rfl (lv_at hl 3 rfl) ?_
      refine lv_iload_n (pc := 38) hx hb dX4_sha_38 rfl (lv_at hl 4 rfl) ?_
      refine lv_iload (pc := 39) hx hb dX4_sha_39 (lv_at hl 0 rfl) ?_
      refine lv_iadd (pc := 41) hx hb dX4_sha_41 ?_
      refine lv_cv (nI_add fo i) ?_
      refine x_bald (pc := 42) (k := fo + i) (f := fun j => Int8.toInt32 (G j)) hx hb hK hP 6 1 rfl rfl (by omega) (by decide) dX4_sha_42 ?_
      refine lv_goto (pc := 43) (tgt := 58) hx hb dX4_sha_43 (by decide) ?_
      refine lv_cv (congrArg Int8.toInt32 (show _ = pad8 G fo len i by rw [pad8, if_neg (by omega), if_pos (by omega)])) ?_
      refine x_sst (pc := 58) (k := i) (F := cpF pa (pad8 G fo len) i) hx hb hK hP hD hS 11 1 rfl rfl (by omega) (by decide) dX4_sha_58 (fun H locs hP hD hS => ?_)
      have hP : va_P (dC, dI) vwCl (gW g0 g1 g2 g3 g4 g5 g6 g7 g8 g9 g10 g11 g12 g13 cI cB k dr er pl un li ov G tn rn vs bo ex wr ei dg wo (va_up (cpF pa (pad8 G fo len) i) i (pad8 G fo len i)) ch fi) _ := hP
      have hD : va_D A (gW g0 g1 g2 g3 g4 g5 g6 g7 g8 g9 g10 g11 g12 g13 cI cB k dr er pl un li ov G tn rn vs bo ex wr ei dg wo (va_up (cpF pa (pad8 G fo len) i) i (pad8 G fo len i)) ch fi) := hD
      refine lv_iinc (pc := 59) (v := nI (i + 1)) (lv' := [(5, .int (nI (i + 1))), (4, .int (nI (((len + 8) / 64 + 1) * 64))), (0, .ref g0), (1, .ref g6), (2, .int (nI fo)), (3, .int (nI len))]) hx hb dX4_sha_59 hl (k := 0) rfl (nI_inc i 1) (by decide) rfl (fun ls hl => ?_)
      refine lv_goto (pc := 62) (tgt := 18) hx hb dX4_sha_62 (by decide) ?_
      rw [cpF_step] at hP hD
      exact ih18 (i + 1) H locs ls (by omega) (by first | omega | (simp only []; omega)) hP hD hS (lv_sub hl [0, 1, 2, 3, 4, 5] rfl)
