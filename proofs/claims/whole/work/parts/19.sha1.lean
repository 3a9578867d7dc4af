set_option maxHeartbeats 4000000 in
set_option maxRecDepth 100000 in
theorem kX1_turn (l : Launch) (dC : Nat → ClassId) (dI : Nat → Nat → Nat) (tt : Nat → Nat) (cI cB : ClassId) (sz : Nat) (x : Int32) (q : Nat) (hq : q ≤ 32) : MetR l yX1_turn wsX1_turn { frames := 0, cells := 0, slots := 0, locals := 0 } (dC, dI) [(cI, .int), (cB, .byte)] tt [] sz ([]) [.int x, .int (nI q)] (fun r => r = trn x q) := by
  refine Met.ofW (cc := cX1_turn) (maxL := 2) (ret := (some .int)) (by decide) rfl ?_
  intro p e s m args below meth c s₁ B hml hv
  obtain ⟨rfl, hsz, hP, hK, hD0, hE⟩ := hv
  have hx := B.exec
  have hb := B.bytes
  have hr := B.returns
  have hts := atoms_spec (ws := wsX1_turn) B.pre
  have hown : s.vm.findClass RX1 = some m.cls := findClass_of_methodNamed B.named
  have hlocks := B.notSynchronized
  subst hsz
  have hD := hD0
  generalize hAe : va_A [] s.heap.size = A at hE ⊢
  have hA : ∀ q : Nat, s.heap.size ≤ q → A q := fun q h => by rw [← hAe]; exact Or.inr h
  have hS : va_S A s.heap s.heap [] := va_S.rf
  have hl := lv_entry ([.int x, .int (nI q)]) (n := 2) (Nat.le_of_ble_eq_true rfl)
  rw [lg_entry_eq]
  generalize (lg_sl ([.int x, .int (nI q)]) ++ List.replicate (2 - (lg_sl ([.int x, .int (nI q)])).length) Slot.unset).toArray = ls at hl ⊢
  have hl : lv_has ls 2 [(0, .int x), (1, .int (nI q))] := hl
  refine lv_iload_n (pc := 0) hx hb dX1_turn_0 rfl (lv_at hl 0 rfl) ?_
  refine lv_iload_n (pc := 1) hx hb dX1_turn_1 rfl (lv_at hl 1 rfl) ?_
  refine lv_iushr (pc := 2) hx hb dX1_turn_2 rfl ?_
  refine lv_iload_n (pc := 3) hx hb dX1_turn_3 rfl (lv_at hl 0 rfl) ?_
  refine lv_bipush (pc := 4) (v := nI 32) hx hb dX1_turn_4 (by decide) ?_
  refine lv_iload_n (pc := 6) hx hb dX1_turn_6 rfl (lv_at hl 1 rfl) ?_
  refine lv_isub (pc := 7) hx hb dX1_turn_7 ?_
  refine lv_cv (pk_sub (a := 32) (b := q) (by omega)) ?_
  refine lv_ishl (pc := 8) hx hb dX1_turn_8 ?_
  refine lv_ior (pc := 9) hx hb dX1_turn_9 ?_
  exact W.iret (v := ((Int32.toUInt32 x >>> (Int32.toUInt32 (nI q) &&& Int32.toUInt32 31)).toInt32) ||| (x <<< ((nI (32 - q)) &&& 31))) hx hb hr (fun t ht hW => ⟨⟨((Int32.toUInt32 x >>> (Int32.toUInt32 (nI q) &&& Int32.toUInt32 31)).toInt32) ||| (x <<< ((nI (32 - q)) &&& 31)), (), rfl, rfl, trivial⟩, hS.F ht⟩) hS.2.2 dX1_turn_10
set_option maxHeartbeats 4000000 in
set_option maxRecDepth 100000 in
theorem kX1_paddedByte (l : Launch) (dC : Nat → ClassId) (dI : Nat → Nat → Nat) (tt : Nat → Nat) (cI cB : ClassId) (sz : Nat) (t n : Nat) (G : Nat → Int8) (fi len q : Nat) (hn : n < 2 ^ 31) (hfl : fi + len ≤ n) (hq : q < 2 ^ 30) (hf : fi < 2 ^ 30) : MetR l yX1_paddedByte wsX1_paddedByte { frames := 0, cells := 0, slots := 0, locals := 0 } (dC, dI) [(cI, .int), (cB, .byte)] tt [(t, n, fun j => ub (G j))] sz ([]) [.ref t, .int (nI fi), .int (nI len), .int (nI q)] (fun r => r = ub (pad8 G fi len q)) := by
  refine Met.ofW (cc := cX1_paddedByte) (maxL := 5) (ret := (some .int)) (by decide) rfl ?_
  intro p e s m args below meth c s₁ B hml hv
  obtain ⟨rfl, hsz, hP, hK, hD0, hE⟩ := hv
  have hx := B.exec
  have hb := B.bytes
  have hr := B.returns
  have hts := atoms_spec (ws := wsX1_paddedByte) B.pre
  have hown : s.vm.findClass RX1 = some m.cls := findClass_of_methodNamed B.named
  have hlocks := B.notSynchronized
  subst hsz
  have hD := hD0
  generalize hAe : va_A [] s.heap.size = A at hE ⊢
  have hA : ∀ q : Nat, s.heap.size ≤ q → A q := fun q h => by rw [← hAe]; exact Or.inr h
  have hS : va_S A s.heap s.heap [] := va_S.rf
  have hl := lv_entry ([.ref t, .int (nI fi), .int (nI len), .int (nI q)]) (n := 5) (Nat.le_of_ble_eq_true rfl)
  rw [lg_entry_eq]
  generalize (lg_sl ([.ref t, .int (nI fi), .int (nI len), .int (nI q)]) ++ List.replicate (5 - (lg_sl ([.ref t, .int (nI fi), .int (nI len), .int (nI q)])).length) Slot.unset).toArray = ls at hl ⊢
  have hl : lv_has ls 5 [(0, .ref t), (1, .int (nI fi)), (2, .int (nI len)), (3, .int (nI q))] := hl
  have hT : va_T .int t n (fun j => .int (ub (G j))) A s s.heap := hE.2.2.2.2.2.2.2.2 _ List.mem_cons_self
  refine lv_iload_n (pc := 0) hx hb dX1_paddedByte_0 rfl (lv_at hl 3 rfl) ?_
  refine lv_iload_n (pc := 1) hx hb dX1_paddedByte_1 rfl (lv_at hl 2 rfl) ?_
  refine lv_icmp_ne (pc := 2) (tgt := 9) hx hb dX1_paddedByte_2 (by decide) (fun c1 => ?_) (fun c1 => ?_)
  · skip
    have c1 : ¬ q = len := fun z => c1 ((nI_eq (a := q) (b := len) (by omega) (by omega)).mpr z)
    refine lv_iload_n (pc := 9) hx hb dX1_paddedByte_9 rfl (lv_at hl 1 rfl) ?_
    refine lv_iload_n (pc := 10) hx hb dX1_paddedByte_10 rfl (lv_at hl 3 rfl) ?_
    refine lv_iadd (pc := 11) hx hb dX1_paddedByte_11 ?_
    refine lv_cv (nI_add fi q) ?_
    refine lv_istore (pc := 12) (lv' := [(4, .int (nI (fi + q))), (0, .ref t), (1, .int (nI fi)), (2, .int (nI len)), (3, .int (nI q))]) hx hb dX1_paddedByte_12 hl (by decide) rfl (fun ls hl => ?_)
    refine lv_iload_n (pc := 14) hx hb dX1_paddedByte_14 rfl (lv_at hl 4 rfl) ?_
    refine lv_iload_n (pc := 15) hx hb dX1_paddedByte_15 rfl (lv_at hl 3 rfl) ?_
    refine lv_icmp_ge (pc := 16) (tgt := 38) hx hb dX1_paddedByte_16 (by decide) (fun c2 => ?_) (fun c2 => ?_)
    · skip
      have c2 : len ≤ q := (nI_leI (a := len) (b := q) (by omega) (by omega)).mp c2
      refine lv_iconst (pc := 38) (v := nI 0) hx hb dX1_paddedByte_38 (by decide) ?_
      exact W.iret (v := nI 0) hx hb hr (fun t ht hW => ⟨⟨nI 0, (), rfl, by rw [pad8, if_neg c1, if_neg (by omega)]; decide, trivial⟩, hS.F ht⟩) hS.2.2 dX1_paddedByte_39
    · skip
      have c2 : ¬ len ≤ q := fun z => c2 ((nI_leI (a := len) (b := q) (by omega) (by omega)).mpr z)
      refine lv_iload (pc := 19) hx hb dX1_paddedByte_19 (lv_at hl 0 rfl) ?_
      refine lv_if_lt (pc := 21) (tgt := 38) hx hb dX1_paddedByte_21 (by decide) (fun c3 => ?_) (fun c3 => ?_)
      · skip
        have c3 : (fi + q) < 0 := (nI_ltI (a := (fi + q)) (b := 0) (by omega) (by omega)).mp c3
        exfalso; omega
      · skip
        have c3 : ¬ (fi + q) < 0 := fun z => c3 ((nI_ltI (a := (fi + q)) (b := 0) (by omega) (by omega)).mpr z)
        refine lv_iload (pc := 24) hx hb dX1_paddedByte_24 (lv_at hl 0 rfl) ?_
        refine lv_aload_n (pc := 26) hx hb dX1_paddedByte_26 rfl (lv_at hl 1 rfl) ?_
        refine va_tlen (pc := 27) (v := nI n) hx hb hT hS rfl dX1_paddedByte_27 ?_
        refine lv_icmp_ge (pc := 28) (tgt := 38) hx hb dX1_paddedByte_28 (by decide) (fun c4 => ?_) (fun c4 => ?_)
        · skip
          have c4 : n ≤ (fi + q) := (nI_leI (a := n) (b := (fi + q)) (by omega) (by omega)).mp c4
          exfalso; omega
        · skip
          have c4 : ¬ n ≤ (fi + q) := fun z => c4 ((nI_leI (a := n) (b := (fi + q)) (by omega) (by omega)).mpr z)
          refine lv_aload_n (pc := 31) hx hb dX1_paddedByte_31 rfl (lv_at hl 1 rfl) ?_
          refine lv_iload (pc := 32) hx hb dX1_paddedByte_32 (lv_at hl 0 rfl) ?_
          refine x_ti (pc := 34) (k := fi + q) hx hb hT hS (by omega) (by omega) dX1_paddedByte_34 ?_
          refine lv_goto (pc := 35) (tgt := 39) hx hb dX1_paddedByte_35 (by decide) ?_
          exact W.iret (v := ub (G (fi + q))) hx hb hr (fun t ht hW => ⟨⟨ub (G (fi + q)), (), rfl, by rw [pad8, if_neg c1, if_pos (by omega)], trivial⟩, hS.F ht⟩) hS.2.2 dX1_paddedByte_39
  · skip
    have c1 : q = len := (nI_eq (a := q) (b := len) (by omega) (by omega)).mp c1
    refine lv_sipush (pc := 5) (v := nI 128) hx hb dX1_paddedByte_5 (by decide) ?_
    exact W.iret (v := nI 128) hx hb hr (fun t ht hW => ⟨⟨nI 128, (), rfl, by rw [pad8, if_pos c1]; decide, trivial⟩, hS.F ht⟩) hS.2.2 dX1_paddedByte_8
set_option maxHeartbeats 4000000 in
set_option maxRecDepth 100000 in
theorem kX1_paddedWord (l : Launch) (dC : Nat → ClassId) (dI : Nat → Nat → Nat) (tt : Nat → Nat) (cI cB : ClassId) (sz : Nat) (t n : Nat) (G : Nat → Int8) (fi len q : Nat) (hn : n < 2 ^ 31) (hfl : fi + len ≤ n) (hq : q + 4 < 2 ^ 30) (hf : fi < 2 ^ 30) : MetR l yX1_paddedWord wsX1_paddedWord { frames := 1, cells := 0, slots := 0, locals := 24 } (dC, dI) [(cI, .int), (cB, .byte)] tt [(t, n, fun j => ub (G j))] sz ([]) [.ref t, .int (nI fi), .int (nI len), .int (nI q)] (fun r => r = pw (pad8 G fi len) q 4) := by
  refine Met.ofW (cc := cX1_paddedWord) (maxL := 6) (ret := (some .int)) (by decide) rfl ?_
  intro p e s m args below meth c s₁ B hml hv
  obtain ⟨rfl, hsz, hP, hK, hD0, hE⟩ := hv
  have hx := B.exec
  have hb := B.bytes
  have hr := B.returns
  have hts := atoms_spec (ws := wsX1_paddedWord) B.pre
  have hown : s.vm.findClass RX1 = some m.cls := findClass_of_methodNamed B.named
  have hlocks := B.notSynchronized
  subst hsz
  have hD := hD0
  generalize hAe : va_A [] s.heap.size = A at hE ⊢
  have hA : ∀ q : Nat, s.heap.size ≤ q → A q := fun q h => by rw [← hAe]; exact Or.inr h
  have hS : va_S A s.heap s.heap [] := va_S.rf
  have hl := lv_entry ([.ref t, .int (nI fi), .int (nI len), .int (nI q)]) (n := 6) (Nat.le_of_ble_eq_true rfl)
  rw [lg_entry_eq]
  generalize (lg_sl ([.ref t, .int (nI fi), .int (nI len), .int (nI q)]) ++ List.replicate (6 - (lg_sl ([.ref t, .int (nI fi), .int (nI len), .int (nI q)])).length) Slot.unset).toArray = ls at hl ⊢
  have hl : lv_has ls 6 [(0, .ref t), (1, .int (nI fi)), (2, .int (nI len)), (3, .int (nI q))] := hl
  refine lv_iconst (pc := 0) (v := nI 0) hx hb dX1_paddedWord_0 (by decide) ?_
  refine lv_istore (pc := 1) (lv' := [(4, .int (nI 0)), (0, .ref t), (1, .int (nI fi)), (2, .int (nI len)), (3, .int (nI q))]) hx hb dX1_paddedWord_1 hl (by decide) rfl (fun ls hl => ?_)
  refine lv_iload_n (pc := 3) hx hb dX1_paddedWord_3 rfl (lv_at hl 4 rfl) ?_
  refine lv_istore (pc := 4) (lv' := [(5, .int (nI q)), (4, .int (nI 0)), (0, .ref t), (1, .int (nI fi)), (2, .int (nI len)), (3, .int (nI q))]) hx hb dX1_paddedWord_4 hl (by decide) rfl (fun ls hl => ?_)
  refine x_loop (σ := (Nat)) (Wd := fun i : (Nat) => []) (Lv := fun i : (Nat) => [(5, .int (nI (q + i))), (4, .int (pw (pad8 G fi len) q i)), (0, .ref t), (1, .int (nI fi)), (2, .int (nI len)), (3, .int (nI q))]) (I := fun i : (Nat) => (i ≤ 4)) (μ := fun i : (Nat) => 4 - i) ?_ (0) (by omega) (va_P0 (dC, dI) _) va_D0 hS (lv_sub hl [0, 1, 2, 3, 4, 5] rfl)
  intro i H locs ls hI hP hD hS hl ih6
  have hi : (i ≤ 4) := hI
  have hl : lv_has ls 6 [(5, .int (nI (q + i))), (4, .int (pw (pad8 G fi len) q i)), (0, .ref t), (1, .int (nI fi)), (2, .int (nI len)), (3, .int (nI q))] := hl
  refine lv_iload (pc := 6) hx hb dX1_paddedWord_6 (lv_at hl 0 rfl) ?_
  refine lv_iload_n (pc := 8) hx hb dX1_paddedWord_8 rfl (lv_at hl 5 rfl) ?_
  refine lv_iconst (pc := 9) (v := nI 4) hx hb dX1_paddedWord_9 (by decide) ?_
  refine lv_iadd (pc := 10) hx hb dX1_paddedWord_10 ?_
  refine lv_cv (nI_add q 4) ?_
  refine lv_icmp_ge (pc := 11) (tgt := 36) hx hb dX1_paddedWord_11 (by decide) (fun c_1 => ?_) (fun c_1 => ?_)
  · skip
    have c_1 : (q + 4) ≤ (q + i) := (nI_leI (a := (q + 4)) (b := (q + i)) (by omega) (by omega)).mp c_1
    refine lv_iload (pc := 36) hx hb dX1_paddedWord_36 (lv_at hl 1 rfl) ?_
    have hi9 : i = 4 := by omega
    subst hi9
    exact W.iret (v := pw (pad8 G fi len) q 4) hx hb hr (fun t ht hW => ⟨⟨pw (pad8 G fi len) q 4, (), rfl, rfl, trivial⟩, hS.F ht⟩) hS.2.2 dX1_paddedWord_38
  · skip
    have c_1 : ¬ (q + 4) ≤ (q + i) := fun z => c_1 ((nI_leI (a := (q + 4)) (b := (q + i)) (by omega) (by omega)).mpr z)
    refine lv_iload (pc := 14) hx hb dX1_paddedWord_14 (lv_at hl 1 rfl) ?_
    refine lv_bipush (pc := 16) (v := nI 8) hx hb dX1_paddedWord_16 (by decide) ?_
    refine lv_ishl (pc := 18) hx hb dX1_paddedWord_18 ?_
    refine lv_aload_n (pc := 19) hx hb dX1_paddedWord_19 rfl (lv_at hl 2 rfl) ?_
    refine lv_iload_n (pc := 20) hx hb dX1_paddedWord_20 rfl (lv_at hl 3 rfl) ?_
    refine lv_iload_n (pc := 21) hx hb dX1_paddedWord_21 rfl (lv_at hl 4 rfl) ?_
    refine lv_iload (pc := 22) hx hb dX1_paddedWord_22 (lv_at hl 0 rfl) ?_
    refine x_roi (pc := 24) (va_runS (As := [.ref t, .int (nI fi), .int (nI len), .int (nI (q + i))]) (rest := [.int ((pw (pad8 G fi len) q i) <<< ((nI 8) &&& 31))]) ⟨hx, hb, hml, hown, hts⟩ (kX1_paddedByte l dC dI tt cI cB _ t n G fi len (q + i) hn hfl (by omega) (by omega)) (va_cwS 4 hts gX1_paddedWord_X1_paddedByte rfl rfl rfl (by decide +kernel) ⟨Nat.le_of_ble_eq_true rfl, Nat.le_of_ble_eq_true rfl⟩) (x_preS hS hE hK (va_P0 (dC, dI) _) va_D0 [] rfl (by decide) (x_ro hS hA) (xRs hS hE (x_ro hS hA))) rfl rfl hl.1 rfl (lv_room (Nat.le_of_ble_eq_true rfl)) dX1_paddedWord_24 ⟨Nat.le_of_ble_eq_true rfl, Nat.le_of_ble_eq_true rfl⟩) hS hA (va_P0 (dC, dI) _) (fun r_2 H locs hr_2 _ hS => ?_)
    subst hr_2
    refine lv_ior (pc := 27) hx hb dX1_paddedWord_27 ?_
    refine lv_cv (show _ = pw (pad8 G fi len) q (i + 1) from rfl) ?_
    refine lv_istore (pc := 28) (lv' := [(4, .int (pw (pad8 G fi len) q (i + 1))), (5, .int (nI (q + i))), (0, .ref t), (1, .int (nI fi)), (2, .int (nI len)), (3, .int (nI q))]) hx hb dX1_paddedWord_28 hl (by decide) rfl (fun ls hl => ?_)
    refine lv_iinc (pc := 30) (v := nI ((q + i) + 1)) (lv' := [(5, .int (nI ((q + i) + 1))), (4, .int (pw (pad8 G fi len) q (i + 1))), (0, .ref t), (1, .int (nI fi)), (2, .int (nI len)), (3, .int (nI q))]) hx hb dX1_paddedWord_30 hl (k := 1) rfl (nI_inc (q + i) 1) (by decide) rfl (fun ls hl => ?_)
    refine lv_goto (pc := 33) (tgt := 6) hx hb dX1_paddedWord_33 (by decide) ?_
    exact ih6 (i + 1) H locs ls (by omega) (by first | omega | (simp only []; omega)) (va_P0 (dC, dI) _) va_D0 hS (lv_sub hl [0, 1, 2, 3, 4, 5] rfl)
set_option maxHeartbeats 4000000 in
set_option maxRecDepth 100000 in
theorem kX1_stretch (l : Launch) (dC : Nat → ClassId) (dI : Nat → Nat → Nat) (tt : Nat → Nat) (cI cB : ClassId) (sz : Nat) (a7 a8 a9 : Nat) (sc hs : Nat → Int32)  : MetV (S := (Nat → Int32)) l yX1_stretchSchedule wsX1_stretchSchedule { frames := 1, cells := 0, slots := 0, locals := 21 } (dC, dI) [(cI, .int), (cB, .byte)] tt [] sz (sW a7 a8 a9 cI sc hs) [.ref a7] (fun u : (Nat → Int32) => sW a7 a8 a9 cI u hs) (fun u => u = stN sc 48) := by
  refine Met.ofW (cc := cX1_stretchSchedule) (maxL := 6) (ret := none) (by decide) rfl ?_
  intro p e s m args below meth c s₁ B hml hv
  obtain ⟨rfl, hsz, hP, hK, hD0, hE⟩ := hv
  have hx := B.exec
  have hb := B.bytes
  have hr := B.returns
  have hts := atoms_spec (ws := wsX1_stretchSchedule) B.pre
  have hown : s.vm.findClass RX1 = some m.cls := findClass_of_methodNamed B.named
  have hlocks := B.notSynchronized
  subst hsz
  have hD := hD0.self (sz := s.heap.size)
  generalize hAe : va_A (sW a7 a8 a9 cI sc hs) s.heap.size = A at hD hE ⊢
  have hA : ∀ q : Nat, s.heap.size ≤ q → A q := fun q h => by rw [← hAe]; exact Or.inr h
  have hS : va_S A s.heap s.heap [] := va_S.rf
  have hl := lv_entry ([.ref a7]) (n := 6) (Nat.le_of_ble_eq_true rfl)
  rw [lg_entry_eq]
  generalize (lg_sl ([.ref a7]) ++ List.replicate (6 - (lg_sl ([.ref a7])).length) Slot.unset).toArray = ls at hl ⊢
  have hl : lv_has ls 6 [(0, .ref a7)] := hl
  have hP : va_P (dC, dI) vwCl (sW a7 a8 a9 cI sc hs) s.heap := hP
  refine lv_bipush (pc := 0) (v := nI 16) hx hb dX1_stretchSchedule_0 (by decide) ?_
  refine lv_istore_n (pc := 2) (lv' := [(1, .int (nI 16)), (0, .ref a7)]) hx hb dX1_stretchSchedule_2 rfl hl (by decide) rfl (fun ls hl => ?_)
  refine x_loop (σ := (Nat)) (Wd := fun i : (Nat) => sW a7 a8 a9 cI (stN sc i) hs) (Lv := fun i : (Nat) => [(1, .int (nI (16 + i))), (0, .ref a7)]) (I := fun i : (Nat) => (i ≤ 48)) (μ := fun i : (Nat) => 48 - i) ?_ (0) (by omega) hP hD hS (lv_sub hl [0, 1] rfl)
  intro i H locs ls hI hP hD hS hl ih3
  have hi : (i ≤ 48) := hI
  have hP : va_P (dC, dI) vwCl (sW a7 a8 a9 cI (stN sc i) hs) _ := hP
  have hD : va_D A (sW a7 a8 a9 cI (stN sc i) hs) := hD
  have hl : lv_has ls 6 [(1, .int (nI (16 + i))), (0, .ref a7)] := hl
  refine lv_iload_n (pc := 3) hx hb dX1_stretchSchedule_3 rfl (lv_at hl 0 rfl) ?_
  refine lv_bipush (pc := 4) (v := nI 64) hx hb dX1_stretchSchedule_4 (by decide) ?_
  refine lv_icmp_ge (pc := 6) (tgt := 104) hx hb dX1_stretchSchedule_6 (by decide) (fun c_1 => ?_) (fun c_1 => ?_)
  · skip
    have c_1 : 64 ≤ (16 + i) := (nI_leI (a := 64) (b := (16 + i)) (by omega) (by omega)).mp c_1
    have hi9 : i = 48 := by omega
    subst hi9
    exact W.vret hx hb hr (fun t ht hW => ⟨⟨stN sc 48, rfl, rfl, by show va_P _ _ _ t.heap; rw [ht]; exact hP, va_K.moved hW.alike hK, hD⟩, hS.F ht⟩) hS.2.2 dX1_stretchSchedule_104
  · skip
    have c_1 : ¬ 64 ≤ (16 + i) := fun z => c_1 ((nI_leI (a := 64) (b := (16 + i)) (by omega) (by omega)).mpr z)
    refine lv_aload_n (pc := 9) hx hb dX1_stretchSchedule_9 rfl (lv_at hl 1 rfl) ?_
    refine va_get (pc := 10) (D := (dC, dI)) (ci := 1) (v := .ref a8) (C := RX1) (T := TX1) (N := 2) hx hb hts (by decide +kernel) hown hK hP 0 rfl rfl 0 (by decide) (hts (.fieldLink RX1 11 "ScratchSwap$Sha256" "schedule" "[I") (by decide +kernel)) (fun _ h9 => h9) rfl dX1_stretchSchedule_10 ?_
    refine lv_iload_n (pc := 13) hx hb dX1_stretchSchedule_13 rfl (lv_at hl 0 rfl) ?_
    refine lv_iconst (pc := 14) (v := nI 2) hx hb dX1_stretchSchedule_14 (by decide) ?_
    refine lv_isub (pc := 15) hx hb dX1_stretchSchedule_15 ?_
    refine lv_cv (pk_sub (a := (16 + i)) (b := 2) (by omega)) ?_
    refine x_iald (pc := 16) (k := (16 + i) - 2) (f := stN sc i) hx hb hK hP 1 0 rfl rfl (by omega) (by decide) dX1_stretchSchedule_16 ?_
    refine lv_istore_n (pc := 17) (lv' := [(2, .int ((stN sc i) ((16 + i) - 2))), (1, .int (nI (16 + i))), (0, .ref a7)]) hx hb dX1_stretchSchedule_17 rfl hl (by decide) rfl (fun ls hl => ?_)
    refine lv_aload_n (pc := 18) hx hb dX1_stretchSchedule_18 rfl (lv_at hl 2 rfl) ?_
    refine va_get (pc := 19) (D := (dC, dI)) (ci := 1) (v := .ref a8) (C := RX1) (T := TX1) (N := 2) hx hb hts (by decide +kernel) hown hK hP 0 rfl rfl 0 (by decide) (hts (.fieldLink RX1 11 "ScratchSwap$Sha256" "schedule" "[I") (by decide +kernel)) (fun _ h9 => h9) rfl dX1_stretchSchedule_19 ?_
    refine lv_iload_n (pc := 22) hx hb dX1_stretchSchedule_22 rfl (lv_at hl 1 rfl) ?_
    refine lv_bipush (pc := 23) (v := nI 15) hx hb dX1_stretchSchedule_23 (by decide) ?_
    refine lv_isub (pc := 25) hx hb dX1_stretchSchedule_25 ?_
    refine lv_cv (pk_sub (a := (16 + i)) (b := 15) (by omega)) ?_
    refine x_iald (pc := 26) (k := (16 + i) - 15) (f := stN sc i) hx hb hK hP 1 0 rfl rfl (by omega) (by decide) dX1_stretchSchedule_26 ?_
    refine lv_istore_n (pc := 27) (lv' := [(3, .int ((stN sc i) ((16 + i) - 15))), (2, .int ((stN sc i) ((16 + i) - 2))), (1, .int (nI (16 + i))), (0, .ref a7)]) hx hb dX1_stretchSchedule_27 rfl hl (by decide) rfl (fun ls hl => ?_)
    refine lv_iload_n (pc := 28) hx hb dX1_stretchSchedule_28 rfl (lv_at hl 1 rfl) ?_
    refine lv_bipush (pc := 29) (v := nI 17) hx hb dX1_stretchSchedule_29 (by decide) ?_
    refine x_roi (pc := 31) (va_runS (As := [.int ((stN sc i) ((16 + i) - 2)), .int (nI 17)]) (rest := []) ⟨hx, hb, hml, hown, hts⟩ (kX1_turn l dC dI tt cI cB _ ((stN sc i) ((16 + i) - 2)) 17 (by omega)) (va_cwS 2 hts gX1_stretchSchedule_X1_turn rfl rfl rfl (by decide +kernel) ⟨Nat.le_of_ble_eq_true rfl, Nat.le_of_ble_eq_true rfl⟩) (x_preS hS hE hK hP hD [] rfl (by decide) (x_ro hS hA) xR0) rfl rfl hl.1 rfl (lv_room (Nat.le_of_ble_eq_true rfl)) dX1_stretchSchedule_31 ⟨Nat.le_of_ble_eq_true rfl, Nat.le_of_ble_eq_true rfl⟩) hS hA hP (fun r_2 H locs hr_2 hP hS => ?_)
    subst hr_2
    refine lv_iload_n (pc := 34) hx hb dX1_stretchSchedule_34 rfl (lv_at hl 1 rfl) ?_
    refine lv_bipush (pc := 35) (v := nI 19) hx hb dX1_stretchSchedule_35 (by decide) ?_
    refine x_roi (pc := 37) (va_runS (As := [.int ((stN sc i) ((16 + i) - 2)), .int (nI 19)]) (rest := [.int (trn ((stN sc i) ((16 + i) - 2)) 17)]) ⟨hx, hb, hml, hown, hts⟩ (kX1_turn l dC dI tt cI cB _ ((stN sc i) ((16 + i) - 2)) 19 (by omega)) (va_cwS 2 hts gX1_stretchSchedule_X1_turn rfl rfl rfl (by decide +kernel) ⟨Nat.le_of_ble_eq_true rfl, Nat.le_of_ble_eq_true rfl⟩) (x_preS hS hE hK hP hD [] rfl (by decide) (x_ro hS hA) xR0) rfl rfl hl.1 rfl (lv_room (Nat.le_of_ble_eq_true rfl)) dX1_stretchSchedule_37 ⟨Nat.le_of_ble_eq_true rfl, Nat.le_of_ble_eq_true rfl⟩) hS hA hP (fun r_3 H locs hr_3 hP hS => ?_)
    subst hr_3
    refine lv_ixor (pc := 40) hx hb dX1_stretchSchedule_40 ?_
    refine lv_iload_n (pc := 41) hx hb dX1_stretchSchedule_41 rfl (lv_at hl 1 rfl) ?_
    refine lv_bipush (pc := 42) (v := nI 10) hx hb dX1_stretchSchedule_42 (by decide) ?_
    refine lv_iushr (pc := 44) hx hb dX1_stretchSchedule_44 rfl ?_
    refine lv_ixor (pc := 45) hx hb dX1_stretchSchedule_45 ?_
    refine lv_cv (show _ = sS1 (stN sc i (16 + i - 2)) from rfl) ?_
    refine lv_istore (pc := 46) (lv' := [(4, .int (sS1 (stN sc i (16 + i - 2)))), (3, .int ((stN sc i) ((16 + i) - 15))), (2, .int ((stN sc i) ((16 + i) - 2))), (1, .int (nI (16 + i))), (0, .ref a7)]) hx hb dX1_stretchSchedule_46 hl (by decide) rfl (fun ls hl => ?_)
    refine lv_iload_n (pc := 48) hx hb dX1_stretchSchedule_48 rfl (lv_at hl 1 rfl) ?_
    refine lv_bipush (pc := 49) (v := nI 7) hx hb dX1_stretchSchedule_49 (by decide) ?_
    refine x_roi (pc := 51) (va_runS (As := [.int ((stN sc i) ((16 + i) - 15)), .int (nI 7)]) (rest := []) ⟨hx, hb, hml, hown, hts⟩ (kX1_turn l dC dI tt cI cB _ ((stN sc i) ((16 + i) - 15)) 7 (by omega)) (va_cwS 2 hts gX1_stretchSchedule_X1_turn rfl rfl rfl (by decide +kernel) ⟨Nat.le_of_ble_eq_true rfl, Nat.le_of_ble_eq_true rfl⟩) (x_preS hS hE hK hP hD [] rfl (by decide) (x_ro hS hA) xR0) rfl rfl hl.1 rfl (lv_room (Nat.le_of_ble_eq_true rfl)) dX1_stretchSchedule_51 ⟨Nat.le_of_ble_eq_true rfl, Nat.le_of_ble_eq_true rfl⟩) hS hA hP (fun r_4 H locs hr_4 hP hS => ?_)
    subst hr_4
    refine lv_iload_n (pc := 54) hx hb dX1_stretchSchedule_54 rfl (lv_at hl 1 rfl) ?_
    refine lv_bipush (pc := 55) (v := nI 18) hx hb dX1_stretchSchedule_55 (by decide) ?_
    refine x_roi (pc := 57) (va_runS (As := [.int ((stN sc i) ((16 + i) - 15)), .int (nI 18)]) (rest := [.int (trn ((stN sc i) ((16 + i) - 15)) 7)]) ⟨hx, hb, hml, hown, hts⟩ (kX1_turn l dC dI tt cI cB _ ((stN sc i) ((16 + i) - 15)) 18 (by omega)) (va_cwS 2 hts gX1_stretchSchedule_X1_turn rfl rfl rfl (by decide +kernel) ⟨Nat.le_of_ble_eq_true rfl, Nat.le_of_ble_eq_true rfl⟩) (x_preS hS hE hK hP hD [] rfl (by decide) (x_ro hS hA) xR0) rfl rfl hl.1 rfl (lv_room (Nat.le_of_ble_eq_true rfl)) dX1_stretchSchedule_57 ⟨Nat.le_of_ble_eq_true rfl, Nat.le_of_ble_eq_true rfl⟩) hS hA hP (fun r_5 H locs hr_5 hP hS => ?_)
    subst hr_5
    refine lv_ixor (pc := 60) hx hb dX1_stretchSchedule_60 ?_
    refine lv_iload_n (pc := 61) hx hb dX1_stretchSchedule_61 rfl (lv_at hl 1 rfl) ?_
    refine lv_iconst (pc := 62) (v := nI 3) hx hb dX1_stretchSchedule_62 (by decide) ?_
    refine lv_iushr (pc := 63) hx hb dX1_stretchSchedule_63 rfl ?_
    refine lv_ixor (pc := 64) hx hb dX1_stretchSchedule_64 ?_
    refine lv_cv (show _ = sS0 (stN sc i (16 + i - 15)) from rfl) ?_
    refine lv_istore (pc := 65) (lv' := [(5, .int (sS0 (stN sc i (16 + i - 15)))), (4, .int (sS1 (stN sc i (16 + i - 2)))), (3, .int ((stN sc i) ((16 + i) - 15))), (2, .int ((stN sc i) ((16 + i) - 2))), (1, .int (nI (16 + i))), (0, .ref a7)]) hx hb dX1_stretchSchedule_65 hl (by decide) rfl (fun ls hl => ?_)
    refine lv_aload_n (pc := 67) hx hb dX1_stretchSchedule_67 rfl (lv_at hl 5 rfl) ?_
    refine va_get (pc := 68) (D := (dC, dI)) (ci := 1) (v := .ref a8) (C := RX1) (T := TX1) (N := 2) hx hb hts (by decide +kernel) hown hK hP 0 rfl rfl 0 (by decide) (hts (.fieldLink RX1 11 "ScratchSwap$Sha256" "schedule" "[I") (by decide +kernel)) (fun _ h9 => h9) rfl dX1_stretchSchedule_68 ?_
    refine lv_iload_n (pc := 71) hx hb dX1_stretchSchedule_71 rfl (lv_at hl 4 rfl) ?_
    refine lv_iload (pc := 72) hx hb dX1_stretchSchedule_72 (lv_at hl 1 rfl) ?_
    refine lv_aload_n (pc := 74) hx hb dX1_stretchSchedule_74 rfl (lv_at hl 5 rfl) ?_
    refine va_get (pc := 75) (D := (dC, dI)) (ci := 1) (v := .ref a8) (C := RX1) (T := TX1) (N := 2) hx hb hts (by decide +kernel) hown hK hP 0 rfl rfl 0 (by decide) (hts (.fieldLink RX1 11 "ScratchSwap$Sha256" "schedule" "[I") (by decide +kernel)) (fun _ h9 => h9) rfl dX1_stretchSchedule_75 ?_
    refine lv_iload_n (pc := 78) hx hb dX1_stretchSchedule_78 rfl (lv_at hl 4 rfl) ?_
    refine lv_bipush (pc := 79) (v := nI 7) hx hb dX1_stretchSchedule_79 (by decide) ?_
    refine lv_isub (pc := 81) hx hb dX1_stretchSchedule_81 ?_
    refine lv_cv (pk_sub (a := (16 + i)) (b := 7) (by omega)) ?_
    refine x_iald (pc := 82) (k := (16 + i) - 7) (f := stN sc i) hx hb hK hP 1 0 rfl rfl (by omega) (by decide) dX1_stretchSchedule_82 ?_
    refine lv_iadd (pc := 83) hx hb dX1_stretchSchedule_83 ?_
    refine lv_iload (pc := 84) hx hb dX1_stretchSchedule_84 (lv_at hl 0 rfl) ?_
    refine lv_iadd (pc := 86) hx hb dX1_stretchSchedule_86 ?_
    refine lv_aload_n (pc := 87) hx hb dX1_stretchSchedule_87 rfl (lv_at hl 5 rfl) ?_
    refine va_get (pc := 88) (D := (dC, dI)) (ci := 1) (v := .ref a8) (C := RX1) (T := TX1) (N := 2) hx hb hts (by decide +kernel) hown hK hP 0 rfl rfl 0 (by decide) (hts (.fieldLink RX1 11 "ScratchSwap$Sha256" "schedule" "[I") (by decide +kernel)) (fun _ h9 => h9) rfl dX1_stretchSchedule_88 ?_
    refine lv_iload_n (pc := 91) hx hb dX1_stretchSchedule_91 rfl (lv_at hl 4 rfl) ?_
    refine lv_bipush (pc := 92) (v := nI 16) hx hb dX1_stretchSchedule_92 (by decide) ?_
    refine lv_isub (pc := 94) hx hb dX1_stretchSchedule_94 ?_
    refine lv_cv (pk_sub (a := (16 + i)) (b := 16) (by omega)) ?_
    refine x_iald (pc := 95) (k := (16 + i) - 16) (f := stN sc i) hx hb hK hP 1 0 rfl rfl (by omega) (by decide) dX1_stretchSchedule_95 ?_
    refine lv_iadd (pc := 96) hx hb dX1_stretchSchedule_96 ?_
    refine x_iast (pc := 97) (k := 16 + i) (f := stN sc i) hx hb hK hP hD hS 1 0 rfl rfl (by omega) (by decide) dX1_stretchSchedule_97 (fun H locs hP hD hS => ?_)
    have hP : va_P (dC, dI) vwCl (sW a7 a8 a9 cI (upd (stN sc i) (16 + i) ((((sS1 (stN sc i (16 + i - 2))) + ((stN sc i) ((16 + i) - 7))) + (sS0 (stN sc i (16 + i - 15)))) + ((stN sc i) ((16 + i) - 16)))) hs) _ := hP
    have hD : va_D A (sW a7 a8 a9 cI (upd (stN sc i) (16 + i) ((((sS1 (stN sc i (16 + i - 2))) + ((stN sc i) ((16 + i) - 7))) + (sS0 (stN sc i (16 + i - 15)))) + ((stN sc i) ((16 + i) - 16)))) hs) := hD
    refine lv_iinc (pc := 98) (v := nI ((16 + i) + 1)) (lv' := [(1, .int (nI ((16 + i) + 1))), (5, .int (sS0 (stN sc i (16 + i - 15)))), (4, .int (sS1 (stN sc i (16 + i - 2)))), (3, .int ((stN sc i) ((16 + i) - 15))), (2, .int ((stN sc i) ((16 + i) - 2))), (0, .ref a7)]) hx hb dX1_stretchSchedule_98 hl (k := 4) rfl (nI_inc (16 + i) 1) (by decide) rfl (fun ls hl => ?_)
    refine lv_goto (pc := 101) (tgt := 3) hx hb dX1_stretchSchedule_101 (by decide) ?_
    have hP : va_P (dC, dI) vwCl (sW a7 a8 a9 cI (stN sc (i + 1)) hs) _ := hP
    have hD : va_D A (sW a7 a8 a9 cI (stN sc (i + 1)) hs) := hD
    exact ih3 (i + 1) H locs ls (by omega) (by first | omega | (simp only []; omega)) hP hD hS (lv_sub hl [0, 5] rfl)
set_option maxHeartbeats 4000000 in
set_option maxRecDepth 100000 in
theorem kX1_mixBlock (l : Launch) (dC : Nat → ClassId) (dI : Nat → Nat → Nat) (tt : Nat → Nat) (cI cB : ClassId) (sz : Nat) (a7 a8 a9 : Nat) (sc hs : Nat → Int32)  : MetV (S := (Nat → Int32)) l yX1_mixBlock wsX1_mixBlock { frames := 1, cells := 0, slots := 0, locals := 21 } (dC, dI) [(cI, .int), (cB, .byte)] tt [] sz (sW a7 a8 a9 cI sc hs) [.ref a7] (fun u : (Nat → Int32) => sW a7 a8 a9 cI sc u) (fun u => u = addH hs (mixN sc 64 (of8 hs))) := by
  refine Met.ofW (cc := cX1_mixBlock) (maxL := 14) (ret := none) (by decide) rfl ?_
  intro p e s m args below meth c s₁ B hml hv
  obtain ⟨rfl, hsz, hP, hK, hD0, hE⟩ := hv
  have hx := B.exec
  have hb := B.bytes
  have hr := B.returns
  have hts := atoms_spec (ws := wsX1_mixBlock) B.pre
  have hown : s.vm.findClass RX1 = some m.cls := findClass_of_methodNamed B.named
  have hlocks := B.notSynchronized
  subst hsz
  have hD := hD0.self (sz := s.heap.size)
  generalize hAe : va_A (sW a7 a8 a9 cI sc hs) s.heap.size = A at hD hE ⊢
  have hA : ∀ q : Nat, s.heap.size ≤ q → A q := fun q h => by rw [← hAe]; exact Or.inr h
  have hS : va_S A s.heap s.heap [] := va_S.rf
  have hl := lv_entry ([.ref a7]) (n := 14) (Nat.le_of_ble_eq_true rfl)
  rw [lg_entry_eq]
  generalize (lg_sl ([.ref a7]) ++ List.replicate (14 - (lg_sl ([.ref a7])).length) Slot.unset).toArray = ls at hl ⊢
  have hl : lv_has ls 14 [(0, .ref a7)] := hl
  have hP : va_P (dC, dI) vwCl (sW a7 a8 a9 cI sc hs) s.heap := hP
  refine lv_aload_n (pc := 0) hx hb dX1_mixBlock_0 rfl (lv_at hl 0 rfl) ?_
  refine va_get (pc := 1) (D := (dC, dI)) (ci := 1) (v := .ref a9) (C := RX1) (T := TX1) (N := 2) hx hb hts (by decide +kernel) hown hK hP 0 rfl rfl 1 (by decide) (hts (.fieldLink RX1 15 "ScratchSwap$Sha256" "hash" "[I") (by decide +kernel)) (fun _ h9 => h9) rfl dX1_mixBlock_1 ?_
  refine lv_iconst (pc := 4) (v := nI 0) hx hb dX1_mixBlock_4 (by decide) ?_
  refine x_iald (pc := 5) (k := 0) (f := hs) hx hb hK hP 2 0 rfl rfl (by omega) (by decide) dX1_mixBlock_5 ?_
  refine lv_istore_n (pc := 6) (lv' := [(1, .int (hs 0)), (0, .ref a7)]) hx hb dX1_mixBlock_6 rfl hl (by decide) rfl (fun ls hl => ?_)
  refine lv_aload_n (pc := 7) hx hb dX1_mixBlock_7 rfl (lv_at hl 1 rfl) ?_
  refine va_get (pc := 8) (D := (dC, dI)) (ci := 1) (v := .ref a9) (C := RX1) (T := TX1) (N := 2) hx hb hts (by decide +kernel) hown hK hP 0 rfl rfl 1 (by decide) (hts (.fieldLink RX1 15 "ScratchSwap$Sha256" "hash" "[I") (by decide +kernel)) (fun _ h9 => h9) rfl dX1_mixBlock_8 ?_
  refine lv_iconst (pc := 11) (v := nI 1) hx hb dX1_mixBlock_11 (by decide) ?_
  refine x_iald (pc := 12) (k := 1) (f := hs) hx hb hK hP 2 0 rfl rfl (by omega) (by decide) dX1_mixBlock_12 ?_
  refine lv_istore_n (pc := 13) (lv' := [(2, .int (hs 1)), (1, .int (hs 0)), (0, .ref a7)]) hx hb dX1_mixBlock_13 rfl hl (by decide) rfl (fun ls hl => ?_)
  refine lv_aload_n (pc := 14) hx hb dX1_mixBlock_14 rfl (lv_at hl 2 rfl) ?_
  refine va_get (pc := 15) (D := (dC, dI)) (ci := 1) (v := .ref a9) (C := RX1) (T := TX1) (N := 2) hx hb hts (by decide +kernel) hown hK hP 0 rfl rfl 1 (by decide) (hts (.fieldLink RX1 15 "ScratchSwap$Sha256" "hash" "[I") (by decide +kernel)) (fun _ h9 => h9) rfl dX1_mixBlock_15 ?_
  refine lv_iconst (pc := 18) (v := nI 2) hx hb dX1_mixBlock_18 (by decide) ?_
  refine x_iald (pc := 19) (k := 2) (f := hs) hx hb hK hP 2 0 rfl rfl (by omega) (by decide) dX1_mixBlock_19 ?_
  refine lv_istore_n (pc := 20) (lv' := [(3, .int (hs 2)), (2, .int (hs 1)), (1, .int (hs 0)), (0, .ref a7)]) hx hb dX1_mixBlock_20 rfl hl (by decide) rfl (fun ls hl => ?_)
  refine lv_aload_n (pc := 21) hx hb dX1_mixBlock_21 rfl (lv_at hl 3 rfl) ?_
  refine va_get (pc := 22) (D := (dC, dI)) (ci := 1) (v := .ref a9) (C := RX1) (T := TX1) (N := 2) hx hb hts (by decide +kernel) hown hK hP 0 rfl rfl 1 (by decide) (hts (.fieldLink RX1 15 "ScratchSwap$Sha256" "hash" "[I") (by decide +kernel)) (fun _ h9 => h9) rfl dX1_mixBlock_22 ?_
  refine lv_iconst (pc := 25) (v := nI 3) hx hb dX1_mixBlock_25 (by decide) ?_
  refine x_iald (pc := 26) (k := 3) (f := hs) hx hb hK hP 2 0 rfl rfl (by omega) (by decide) dX1_mixBlock_26 ?_
  refine lv_istore (pc := 27) (lv' := [(4, .int (hs 3)), (3, .int (hs 2)), (2, .int (hs 1)), (1, .int (hs 0)), (0, .ref a7)]) hx hb dX1_mixBlock_27 hl (by decide) rfl (fun ls hl => ?_)
  refine lv_aload_n (pc := 29) hx hb dX1_mixBlock_29 rfl (lv_at hl 4 rfl) ?_
  refine va_get (pc := 30) (D := (dC, dI)) (ci := 1) (v := .ref a9) (C := RX1) (T := TX1) (N := 2) hx hb hts (by decide +kernel) hown hK hP 0 rfl rfl 1 (by decide) (hts (.fieldLink RX1 15 "ScratchSwap$Sha256" "hash" "[I") (by decide +kernel)) (fun _ h9 => h9) rfl dX1_mixBlock_30 ?_
  refine lv_iconst (pc := 33) (v := nI 4) hx hb dX1_mixBlock_33 (by decide) ?_
  refine x_iald (pc := 34) (k := 4) (f := hs) hx hb hK hP 2 0 rfl rfl (by omega) (by decide) dX1_mixBlock_34 ?_
  refine lv_istore (pc := 35) (lv' := [(5, .int (hs 4)), (4, .int (hs 3)), (3, .int (hs 2)), (2, .int (hs 1)), (1, .int (hs 0)), (0, .ref a7)]) hx hb dX1_mixBlock_35 hl (by decide) rfl (fun ls hl => ?_)
  refine lv_aload_n (pc := 37) hx hb dX1_mixBlock_37 rfl (lv_at hl 5 rfl) ?_
  refine va_get (pc := 38) (D := (dC, dI)) (ci := 1) (v := .ref a9) (C := RX1) (T := TX1) (N := 2) hx hb hts (by decide +kernel) hown hK hP 0 rfl rfl 1 (by decide) (hts (.fieldLink RX1 15 "ScratchSwap$Sha256" "hash" "[I") (by decide +kernel)) (fun _ h9 => h9) rfl dX1_mixBlock_38 ?_
  refine lv_iconst (pc := 41) (v := nI 5) hx hb dX1_mixBlock_41 (by decide) ?_
  refine x_iald (pc := 42) (k := 5) (f := hs) hx hb hK hP 2 0 rfl rfl (by omega) (by decide) dX1_mixBlock_42 ?_
  refine lv_istore (pc := 43) (lv' := [(6, .int (hs 5)), (5, .int (hs 4)), (4, .int (hs 3)), (3, .int (hs 2)), (2, .int (hs 1)), (1, .int (hs 0)), (0, .ref a7)]) hx hb dX1_mixBlock_43 hl (by decide) rfl (fun ls hl => ?_)
  refine lv_aload_n (pc := 45) hx hb dX1_mixBlock_45 rfl (lv_at hl 6 rfl) ?_
  refine va_get (pc := 46) (D := (dC, dI)) (ci := 1) (v := .ref a9) (C := RX1) (T := TX1) (N := 2) hx hb hts (by decide +kernel) hown hK hP 0 rfl rfl 1 (by decide) (hts (.fieldLink RX1 15 "ScratchSwap$Sha256" "hash" "[I") (by decide +kernel)) (fun _ h9 => h9) rfl dX1_mixBlock_46 ?_
  refine lv_bipush (pc := 49) (v := nI 6) hx hb dX1_mixBlock_49 (by decide) ?_
  refine x_iald (pc := 51) (k := 6) (f := hs) hx hb hK hP 2 0 rfl rfl (by omega) (by decide) dX1_mixBlock_51 ?_
  refine lv_istore (pc := 52) (lv' := [(7, .int (hs 6)), (6, .int (hs 5)), (5, .int (hs 4)), (4, .int (hs 3)), (3, .int (hs 2)), (2, .int (hs 1)), (1, .int (hs 0)), (0, .ref a7)]) hx hb dX1_mixBlock_52 hl (by decide) rfl (fun ls hl => ?_)
  refine lv_aload_n (pc := 54) hx hb dX1_mixBlock_54 rfl (lv_at hl 7 rfl) ?_
  refine va_get (pc := 55) (D := (dC, dI)) (ci := 1) (v := .ref a9) (C := RX1) (T := TX1) (N := 2) hx hb hts (by decide +kernel) hown hK hP 0 rfl rfl 1 (by decide) (hts (.fieldLink RX1 15 "ScratchSwap$Sha256" "hash" "[I") (by decide +kernel)) (fun _ h9 => h9) rfl dX1_mixBlock_55 ?_
  refine lv_bipush (pc := 58) (v := nI 7) hx hb dX1_mixBlock_58 (by decide) ?_
  refine x_iald (pc := 60) (k := 7) (f := hs) hx hb hK hP 2 0 rfl rfl (by omega) (by decide) dX1_mixBlock_60 ?_
  refine lv_istore (pc := 61) (lv' := [(8, .int (hs 7)), (7, .int (hs 6)), (6, .int (hs 5)), (5, .int (hs 4)), (4, .int (hs 3)), (3, .int (hs 2)), (2, .int (hs 1)), (1, .int (hs 0)), (0, .ref a7)]) hx hb dX1_mixBlock_61 hl (by decide) rfl (fun ls hl => ?_)
  refine lv_iconst (pc := 63) (v := nI 0) hx hb dX1_mixBlock_63 (by decide) ?_
  refine lv_istore (pc := 64) (lv' := [(9, .int (nI 0)), (8, .int (hs 7)), (7, .int (hs 6)), (6, .int (hs 5)), (5, .int (hs 4)), (4, .int (hs 3)), (3, .int (hs 2)), (2, .int (hs 1)), (1, .int (hs 0)), (0, .ref a7)]) hx hb dX1_mixBlock_64 hl (by decide) rfl (fun ls hl => ?_)
  refine x_loop (σ := (Nat) × (Int32) × (Int32) × (Int32) × (Int32) × (Int32) × (Int32) × (Int32) × (Int32)) (Wd := fun x : (Nat) × (Int32) × (Int32) × (Int32) × (Int32) × (Int32) × (Int32) × (Int32) × (Int32) => match x with | (i, va, vb, vc, vd, ve, vf, vg, vh) => sW a7 a8 a9 cI sc hs) (Lv := fun x : (Nat) × (Int32) × (Int32) × (Int32) × (Int32) × (Int32) × (Int32) × (Int32) × (Int32) => match x with | (i, va, vb, vc, vd, ve, vf, vg, vh) => [(9, .int (nI i)), (8, .int vh), (7, .int vg), (6, .int vf), (5, .int ve), (4, .int vd), (3, .int vc), (2, .int vb), (1, .int va), (0, .ref a7)]) (I := fun x : (Nat) × (Int32) × (Int32) × (Int32) × (Int32) × (Int32) × (Int32) × (Int32) × (Int32) => match x with | (i, va, vb, vc, vd, ve, vf, vg, vh) => (i ≤ 64) ∧ ((va, vb, vc, vd, ve, vf, vg, vh) = mixN sc i (of8 hs))) (μ := fun x : (Nat) × (Int32) × (Int32) × (Int32) × (Int32) × (Int32) × (Int32) × (Int32) × (Int32) => match x with | (i, va, vb, vc, vd, ve, vf, vg, vh) => 64 - i) ?_ (0, hs 0, hs 1, hs 2, hs 3, hs 4, hs 5, hs 6, hs 7) ⟨by omega, rfl⟩ hP hD hS (lv_sub hl [0, 1, 2, 3, 4, 5, 6, 7, 8, 9] rfl)
  intro x H locs ls hI hP hD hS hl ih66
  obtain ⟨i, va, vb, vc, vd, ve, vf, vg, vh⟩ := x
  obtain ⟨hi, hq⟩ : (i ≤ 64) ∧ ((va, vb, vc, vd, ve, vf, vg, vh) = mixN sc i (of8 hs)) := hI
  have hP : va_P (dC, dI) vwCl (sW a7 a8 a9 cI sc hs) _ := hP
  have hD : va_D A (sW a7 a8 a9 cI sc hs) := hD
  have hl : lv_has ls 14 [(9, .int (nI i)), (8, .int vh), (7, .int vg), (6, .int vf), (5, .int ve), (4, .int vd), (3, .int vc), (2, .int vb), (1, .int va), (0, .ref a7)] := hl
  refine lv_iload (pc := 66) hx hb dX1_mixBlock_66 (lv_at hl 0 rfl) ?_
  refine lv_bipush (pc := 68) (v := nI 64) hx hb dX1_mixBlock_68 (by decide) ?_
  refine lv_icmp_ge (pc := 70) (tgt := 209) hx hb dX1_mixBlock_70 (by decide) (fun c_1 => ?_) (fun c_1 => ?_)
  · skip
    have c_1 : 64 ≤ i := (nI_leI (a := 64) (b := i) (by omega) (by omega)).mp c_1
    refine lv_aload_n (pc := 209) hx hb dX1_mixBlock_209 rfl (lv_at hl 9 rfl) ?_
    refine va_get (pc := 210) (D := (dC, dI)) (ci := 1) (v := .ref a9) (C := RX1) (T := TX1) (N := 2) hx hb hts (by decide +kernel) hown hK hP 0 rfl rfl 1 (by decide) (hts (.fieldLink RX1 15 "ScratchSwap$Sha256" "hash" "[I") (by decide +kernel)) (fun _ h9 => h9) rfl dX1_mixBlock_210 ?_
    refine lv_iconst (pc := 213) (v := nI 0) hx hb dX1_mixBlock_213 (by decide) ?_
    refine lv_dup2_11 (pc := 214) hx hb dX1_mixBlock_214 rfl rfl ?_
    refine x_iald (pc := 215) (k := 0) (f := hs) hx hb hK hP 2 0 rfl rfl (by omega) (by decide) dX1_mixBlock_215 ?_
    refine lv_cv (show _ = hs 0 from rfl) ?_
    refine lv_iload_n (pc := 216) hx hb dX1_mixBlock_216 rfl (lv_at hl 8 rfl) ?_
    refine lv_iadd (pc := 217) hx hb dX1_mixBlock_217 ?_
    refine x_iast (pc := 218) (k := 0) (f := hs) hx hb hK hP hD hS 2 0 rfl rfl (by omega) (by decide) dX1_mixBlock_218 (fun H locs hP hD hS => ?_)
    have hP : va_P (dC, dI) vwCl (sW a7 a8 a9 cI sc (upd hs 0 ((hs 0) + va))) _ := hP
    have hD : va_D A (sW a7 a8 a9 cI sc (upd hs 0 ((hs 0) + va))) := hD
    refine lv_aload_n (pc := 219) hx hb dX1_mixBlock_219 rfl (lv_at hl 9 rfl) ?_
    refine va_get (pc := 220) (D := (dC, dI)) (ci := 1) (v := .ref a9) (C := RX1) (T := TX1) (N := 2) hx hb hts (by decide +kernel) hown hK hP 0 rfl rfl 1 (by decide) (hts (.fieldLink RX1 15 "ScratchSwap$Sha256" "hash" "[I") (by decide +kernel)) (fun _ h9 => h9) rfl dX1_mixBlock_220 ?_
    refine lv_iconst (pc := 223) (v := nI 1) hx hb dX1_mixBlock_223 (by decide) ?_
    refine lv_dup2_11 (pc := 224) hx hb dX1_mixBlock_224 rfl rfl ?_
    refine x_iald (pc := 225) (k := 1) (f := upd hs 0 ((hs 0) + va)) hx hb hK hP 2 0 rfl rfl (by omega) (by decide) dX1_mixBlock_225 ?_
    refine lv_cv (show _ = hs 1 from rfl) ?_
    refine lv_iload_n (pc := 226) hx hb dX1_mixBlock_226 rfl (lv_at hl 7 rfl) ?_
    refine lv_iadd (pc := 227) hx hb dX1_mixBlock_227 ?_
    refine x_iast (pc := 228) (k := 1) (f := upd hs 0 ((hs 0) + va)) hx hb hK hP hD hS 2 0 rfl rfl (by omega) (by decide) dX1_mixBlock_228 (fun H locs hP hD hS => ?_)
    have hP : va_P (dC, dI) vwCl (sW a7 a8 a9 cI sc (upd (upd hs 0 ((hs 0) + va)) 1 ((hs 1) + vb))) _ := hP
    have hD : va_D A (sW a7 a8 a9 cI sc (upd (upd hs 0 ((hs 0) + va)) 1 ((hs 1) + vb))) := hD
    refine lv_aload_n (pc := 229) hx hb dX1_mixBlock_229 rfl (lv_at hl 9 rfl) ?_
    refine va_get (pc := 230) (D := (dC, dI)) (ci := 1) (v := .ref a9) (C := RX1) (T := TX1) (N := 2) hx hb hts (by decide +kernel) hown hK hP 0 rfl rfl 1 (by decide) (hts (.fieldLink RX1 15 "ScratchSwap$Sha256" "hash" "[I") (by decide +kernel)) (fun _ h9 => h9) rfl dX1_mixBlock_230 ?_
    refine lv_iconst (pc := 233) (v := nI 2) hx hb dX1_mixBlock_233 (by decide) ?_
    refine lv_dup2_11 (pc := 234) hx hb dX1_mixBlock_234 rfl rfl ?_
    refine x_iald (pc := 235) (k := 2) (f := upd (upd hs 0 ((hs 0) + va)) 1 ((hs 1) + vb)) hx hb hK hP 2 0 rfl rfl (by omega) (by decide) dX1_mixBlock_235 ?_
    refine lv_cv (show _ = hs 2 from rfl) ?_
    refine lv_iload_n (pc := 236) hx hb dX1_mixBlock_236 rfl (lv_at hl 6 rfl) ?_
    refine lv_iadd (pc := 237) hx hb dX1_mixBlock_237 ?_
    refine x_iast (pc := 238) (k := 2) (f := upd (upd hs 0 ((hs 0) + va)) 1 ((hs 1) + vb)) hx hb hK hP hD hS 2 0 rfl rfl (by omega) (by decide) dX1_mixBlock_238 (fun H locs hP hD hS => ?_)
    have hP : va_P (dC, dI) vwCl (sW a7 a8 a9 cI sc (upd (upd (upd hs 0 ((hs 0) + va)) 1 ((hs 1) + vb)) 2 ((hs 2) + vc))) _ := hP
    have hD : va_D A (sW a7 a8 a9 cI sc (upd (upd (upd hs 0 ((hs 0) + va)) 1 ((hs 1) + vb)) 2 ((hs 2) + vc))) := hD
    refine lv_aload_n (pc := 239) hx hb dX1_mixBlock_239 rfl (lv_at hl 9 rfl) ?_
    refine va_get (pc := 240) (D := (dC, dI)) (ci := 1) (v := .ref a9) (C := RX1) (T := TX1) (N := 2) hx hb hts (by decide +kernel) hown hK hP 0 rfl rfl 1 (by decide) (hts (.fieldLink RX1 15 "ScratchSwap$Sha256" "hash" "[I") (by decide +kernel)) (fun _ h9 => h9) rfl dX1_mixBlock_240 ?_
    refine lv_iconst (pc := 243) (v := nI 3) hx hb dX1_mixBlock_243 (by decide) ?_
    refine lv_dup2_11 (pc := 244) hx hb dX1_mixBlock_244 rfl rfl ?_
    refine x_iald (pc := 245) (k := 3) (f := upd (upd (upd hs 0 ((hs 0) + va)) 1 ((hs 1) + vb)) 2 ((hs 2) + vc)) hx hb hK hP 2 0 rfl rfl (by omega) (by decide) dX1_mixBlock_245 ?_
    refine lv_cv (show _ = hs 3 from rfl) ?_
    refine lv_iload (pc := 246) hx hb dX1_mixBlock_246 (lv_at hl 5 rfl) ?_
    refine lv_iadd (pc := 248) hx hb dX1_mixBlock_248 ?_
    refine x_iast (pc := 249) (k := 3) (f := upd (upd (upd hs 0 ((hs 0) + va)) 1 ((hs 1) + vb)) 2 ((hs 2) + vc)) hx hb hK hP hD hS 2 0 rfl rfl (by omega) (by decide) dX1_mixBlock_249 (fun H locs hP hD hS => ?_)
    have hP : va_P (dC, dI) vwCl (sW a7 a8 a9 cI sc (upd (upd (upd (upd hs 0 ((hs 0) + va)) 1 ((hs 1) + vb)) 2 ((hs 2) + vc)) 3 ((hs 3) + vd))) _ := hP
    have hD : va_D A (sW a7 a8 a9 cI sc (upd (upd (upd (upd hs 0 ((hs 0) + va)) 1 ((hs 1) + vb)) 2 ((hs 2) + vc)) 3 ((hs 3) + vd))) := hD
    refine lv_aload_n (pc := 250) hx hb dX1_mixBlock_250 rfl (lv_at hl 9 rfl) ?_
    refine va_get (pc := 251) (D := (dC, dI)) (ci := 1) (v := .ref a9) (C := RX1) (T := TX1) (N := 2) hx hb hts (by decide +kernel) hown hK hP 0 rfl rfl 1 (by decide) (hts (.fieldLink RX1 15 "ScratchSwap$Sha256" "hash" "[I") (by decide +kernel)) (fun _ h9 => h9) rfl dX1_mixBlock_251 ?_
    refine lv_iconst (pc := 254) (v := nI 4) hx hb dX1_mixBlock_254 (by decide) ?_
    refine lv_dup2_11 (pc := 255) hx hb dX1_mixBlock_255 rfl rfl ?_
    refine x_iald (pc := 256) (k := 4) (f := upd (upd (upd (upd hs 0 ((hs 0) + va)) 1 ((hs 1) + vb)) 2 ((hs 2) + vc)) 3 ((hs 3) + vd)) hx hb hK hP 2 0 rfl rfl (by omega) (by decide) dX1_mixBlock_256 ?_
    refine lv_cv (show _ = hs 4 from rfl) ?_
    refine lv_iload (pc := 257) hx hb dX1_mixBlock_257 (lv_at hl 4 rfl) ?_
    refine lv_iadd (pc := 259) hx hb dX1_mixBlock_259 ?_
    refine x_iast (pc := 260) (k := 4) (f := upd (upd (upd (upd hs 0 ((hs 0) + va)) 1 ((hs 1) + vb)) 2 ((hs 2) + vc)) 3 ((hs 3) + vd)) hx hb hK hP hD hS 2 0 rfl rfl (by omega) (by decide) dX1_mixBlock_260 (fun H locs hP hD hS => ?_)
    have hP : va_P (dC, dI) vwCl (sW a7 a8 a9 cI sc (upd (upd (upd (upd (upd hs 0 ((hs 0) + va)) 1 ((hs 1) + vb)) 2 ((hs 2) + vc)) 3 ((hs 3) + vd)) 4 ((hs 4) + ve))) _ := hP
    have hD : va_D A (sW a7 a8 a9 cI sc (upd (upd (upd (upd (upd hs 0 ((hs 0) + va)) 1 ((hs 1) + vb)) 2 ((hs 2) + vc)) 3 ((hs 3) + vd)) 4 ((hs 4) + ve))) := hD
    refine lv_aload_n (pc := 261) hx hb dX1_mixBlock_261 rfl (lv_at hl 9 rfl) ?_
    refine va_get (pc := 262) (D := (dC, dI)) (ci := 1) (v := .ref a9) (C := RX1) (T := TX1) (N := 2) hx hb hts (by decide +kernel) hown hK hP 0 rfl rfl 1 (by decide) (hts (.fieldLink RX1 15 "ScratchSwap$Sha256" "hash" "[I") (by decide +kernel)) (fun _ h9 => h9) rfl dX1_mixBlock_262 ?_
    refine lv_iconst (pc := 265) (v := nI 5) hx hb dX1_mixBlock_265 (by decide) ?_
    refine lv_dup2_11 (pc := 266) hx hb dX1_mixBlock_266 rfl rfl ?_
    refine x_iald (pc := 267) (k := 5) (f := upd (upd (upd (upd (upd hs 0 ((hs 0) + va)) 1 ((hs 1) + vb)) 2 ((hs 2) + vc)) 3 ((hs 3) + vd)) 4 ((hs 4) + ve)) hx hb hK hP 2 0 rfl rfl (by omega) (by decide) dX1_mixBlock_267 ?_
    refine lv_cv (show _ = hs 5 from rfl) ?_
    refine lv_iload (pc := 268) hx hb dX1_mixBlock_268 (lv_at hl 3 rfl) ?_
    refine lv_iadd (pc := 270) hx hb dX1_mixBlock_270 ?_
    refine x_iast (pc := 271) (k := 5) (f := upd (upd (upd (upd (upd hs 0 ((hs 0) + va)) 1 ((hs 1) + vb)) 2 ((hs 2) + vc)) 3 ((hs 3) + vd)) 4 ((hs 4) + ve)) hx hb hK hP hD hS 2 0 rfl rfl (by omega) (by decide) dX1_mixBlock_271 (fun H locs hP hD hS => ?_)
    have hP : va_P (dC, dI) vwCl (sW a7 a8 a9 cI sc (upd (upd (upd (upd (upd (upd hs 0 ((hs 0) + va)) 1 ((hs 1) + vb)) 2 ((hs 2) + vc)) 3 ((hs 3) + vd)) 4 ((hs 4) + ve)) 5 ((hs 5) + vf))) _ := hP
    have hD : va_D A (sW a7 a8 a9 cI sc (upd (upd (upd (upd (upd (upd hs 0 ((hs 0) + va)) 1 ((hs 1) + vb)) 2 ((hs 2) + vc)) 3 ((hs 3) + vd)) 4 ((hs 4) + ve)) 5 ((hs 5) + vf))) := hD
    refine lv_aload_n (pc := 272) hx hb dX1_mixBlock_272 rfl (lv_at hl 9 rfl) ?_
    refine va_get (pc := 273) (D := (dC, dI)) (ci := 1) (v := .ref a9) (C := RX1) (T := TX1) (N := 2) hx hb hts (by decide +kernel) hown hK hP 0 rfl rfl 1 (by decide) (hts (.fieldLink RX1 15 "ScratchSwap$Sha256" "hash" "[I") (by decide +kernel)) (fun _ h9 => h9) rfl dX1_mixBlock_273 ?_
    refine lv_bipush (pc := 276) (v := nI 6) hx hb dX1_mixBlock_276 (by decide) ?_
    refine lv_dup2_11 (pc := 278) hx hb dX1_mixBlock_278 rfl rfl ?_
    refine x_iald (pc := 279) (k := 6) (f := upd (upd (upd (upd (upd (upd hs 0 ((hs 0) + va)) 1 ((hs 1) + vb)) 2 ((hs 2) + vc)) 3 ((hs 3) + vd)) 4 ((hs 4) + ve)) 5 ((hs 5) + vf)) hx hb hK hP 2 0 rfl rfl (by omega) (by decide) dX1_mixBlock_279 ?_
    refine lv_cv (show _ = hs 6 from rfl) ?_
    refine lv_iload (pc := 280) hx hb dX1_mixBlock_280 (lv_at hl 2 rfl) ?_
    refine lv_iadd (pc := 282) hx hb dX1_mixBlock_282 ?_
    refine x_iast (pc := 283) (k := 6) (f := upd (upd (upd (upd (upd (upd hs 0 ((hs 0) + va)) 1 ((hs 1) + vb)) 2 ((hs 2) + vc)) 3 ((hs 3) + vd)) 4 ((hs 4) + ve)) 5 ((hs 5) + vf)) hx hb hK hP hD hS 2 0 rfl rfl (by omega) (by decide) dX1_mixBlock_283 (fun H locs hP hD hS => ?_)
    have hP : va_P (dC, dI) vwCl (sW a7 a8 a9 cI sc (upd (upd (upd (upd (upd (upd (upd hs 0 ((hs 0) + va)) 1 ((hs 1) + vb)) 2 ((hs 2) + vc)) 3 ((hs 3) + vd)) 4 ((hs 4) + ve)) 5 ((hs 5) + vf)) 6 ((hs 6) + vg))) _ := hP
    have hD : va_D A (sW a7 a8 a9 cI sc (upd (upd (upd (upd (upd (upd (upd hs 0 ((hs 0) + va)) 1 ((hs 1) + vb)) 2 ((hs 2) + vc)) 3 ((hs 3) + vd)) 4 ((hs 4) + ve)) 5 ((hs 5) + vf)) 6 ((hs 6) + vg))) := hD
    refine lv_aload_n (pc := 284) hx hb dX1_mixBlock_284 rfl (lv_at hl 9 rfl) ?_
    refine va_get (pc := 285) (D := (dC, dI)) (ci := 1) (v := .ref a9) (C := RX1) (T := TX1) (N := 2) hx hb hts (by decide +kernel) hown hK hP 0 rfl rfl 1 (by decide) (hts (.fieldLink RX1 15 "ScratchSwap$Sha256" "hash" "[I") (by decide +kernel)) (fun _ h9 => h9) rfl dX1_mixBlock_285 ?_
    refine lv_bipush (pc := 288) (v := nI 7) hx hb dX1_mixBlock_288 (by decide) ?_
    refine lv_dup2_11 (pc := 290) hx hb dX1_mixBlock_290 rfl rfl ?_
    refine x_iald (pc := 291) (k := 7) (f := upd (upd (upd (upd (upd (upd (upd hs 0 ((hs 0) + va)) 1 ((hs 1) + vb)) 2 ((hs 2) + vc)) 3 ((hs 3) + vd)) 4 ((hs 4) + ve)) 5 ((hs 5) + vf)) 6 ((hs 6) + vg)) hx hb hK hP 2 0 rfl rfl (by omega) (by decide) dX1_mixBlock_291 ?_
    refine lv_cv (show _ = hs 7 from rfl) ?_
    refine lv_iload (pc := 292) hx hb dX1_mixBlock_292 (lv_at hl 1 rfl) ?_
    refine lv_iadd (pc := 294) hx hb dX1_mixBlock_294 ?_
    refine x_iast (pc := 295) (k := 7) (f := upd (upd (upd (upd (upd (upd (upd hs 0 ((hs 0) + va)) 1 ((hs 1) + vb)) 2 ((hs 2) + vc)) 3 ((hs 3) + vd)) 4 ((hs 4) + ve)) 5 ((hs 5) + vf)) 6 ((hs 6) + vg)) hx hb hK hP hD hS 2 0 rfl rfl (by omega) (by decide) dX1_mixBlock_295 (fun H locs hP hD hS => ?_)
    have hP : va_P (dC, dI) vwCl (sW a7 a8 a9 cI sc (upd (upd (upd (upd (upd (upd (upd (upd hs 0 ((hs 0) + va)) 1 ((hs 1) + vb)) 2 ((hs 2) + vc)) 3 ((hs 3) + vd)) 4 ((hs 4) + ve)) 5 ((hs 5) + vf)) 6 ((hs 6) + vg)) 7 ((hs 7) + vh))) _ := hP
    have hD : va_D A (sW a7 a8 a9 cI sc (upd (upd (upd (upd (upd (upd (upd (upd hs 0 ((hs 0) + va)) 1 ((hs 1) + vb)) 2 ((hs 2) + vc)) 3 ((hs 3) + vd)) 4 ((hs 4) + ve)) 5 ((hs 5) + vf)) 6 ((hs 6) + vg)) 7 ((hs 7) + vh))) := hD
    have hi9 : i = 64 := by omega
    rw [hi9] at hq
    exact W.vret hx hb hr (fun t ht hW => ⟨⟨upd (upd (upd (upd (upd (upd (upd (upd hs 0 ((hs 0) + va)) 1 ((hs 1) + vb)) 2 ((hs 2) + vc)) 3 ((hs 3) + vd)) 4 ((hs 4) + ve)) 5 ((hs 5) + vf)) 6 ((hs 6) + vg)) 7 ((hs 7) + vh), rfl, by rw [← hq]; rfl, by show va_P _ _ _ t.heap; rw [ht]; exact hP, va_K.moved hW.alike hK, hD⟩, hS.F ht⟩) hS.2.2 dX1_mixBlock_296
  · skip
    have c_1 : ¬ 64 ≤ i := fun z => c_1 ((nI_leI (a := 64) (b := i) (by omega) (by omega)).mpr z)
    refine lv_iload (pc := 73) hx hb dX1_mixBlock_73 (lv_at hl 4 rfl) ?_
    refine lv_iload (pc := 75) hx hb dX1_mixBlock_75 (lv_at hl 3 rfl) ?_
    refine lv_iand (pc := 77) hx hb dX1_mixBlock_77 ?_
    refine lv_iload (pc := 78) hx hb dX1_mixBlock_78 (lv_at hl 4 rfl) ?_
    refine lv_iconst (pc := 80) (v := (-1)) hx hb dX1_mixBlock_80 (by decide) ?_
    refine lv_ixor (pc := 81) hx hb dX1_mixBlock_81 ?_
    refine lv_iload (pc := 82) hx hb dX1_mixBlock_82 (lv_at hl 2 rfl) ?_
    refine lv_iand (pc := 84) hx hb dX1_mixBlock_84 ?_
    refine lv_ixor (pc := 85) hx hb dX1_mixBlock_85 ?_
    refine lv_istore (pc := 86) (lv' := [(10, .int ((ve &&& vf) ^^^ ((ve ^^^ (-1)) &&& vg))), (9, .int (nI i)), (8, .int vh), (7, .int vg), (6, .int vf), (5, .int ve), (4, .int vd), (3, .int vc), (2, .int vb), (1, .int va), (0, .ref a7)]) hx hb dX1_mixBlock_86 hl (by decide) rfl (fun ls hl => ?_)
    refine lv_iload_n (pc := 88) hx hb dX1_mixBlock_88 rfl (lv_at hl 9 rfl) ?_
    refine lv_iload_n (pc := 89) hx hb dX1_mixBlock_89 rfl (lv_at hl 8 rfl) ?_
    refine lv_iand (pc := 90) hx hb dX1_mixBlock_90 ?_
    refine lv_iload_n (pc := 91) hx hb dX1_mixBlock_91 rfl (lv_at hl 9 rfl) ?_
    refine lv_iload_n (pc := 92) hx hb dX1_mixBlock_92 rfl (lv_at hl 7 rfl) ?_
    refine lv_iand (pc := 93) hx hb dX1_mixBlock_93 ?_
    refine lv_ixor (pc := 94) hx hb dX1_mixBlock_94 ?_
    refine lv_iload_n (pc := 95) hx hb dX1_mixBlock_95 rfl (lv_at hl 8 rfl) ?_
    refine lv_iload_n (pc := 96) hx hb dX1_mixBlock_96 rfl (lv_at hl 7 rfl) ?_
    refine lv_iand (pc := 97) hx hb dX1_mixBlock_97 ?_
    refine lv_ixor (pc := 98) hx hb dX1_mixBlock_98 ?_
    refine lv_istore (pc := 99) (lv' := [(11, .int (((va &&& vb) ^^^ (va &&& vc)) ^^^ (vb &&& vc))), (10, .int ((ve &&& vf) ^^^ ((ve ^^^ (-1)) &&& vg))), (9, .int (nI i)), (8, .int vh), (7, .int vg), (6, .int vf), (5, .int ve), (4, .int vd), (3, .int vc), (2, .int vb), (1, .int va), (0, .ref a7)]) hx hb dX1_mixBlock_99 hl (by decide) rfl (fun ls hl => ?_)
    refine lv_iload (pc := 101) hx hb dX1_mixBlock_101 (lv_at hl 3 rfl) ?_
    refine lv_iload (pc := 103) hx hb dX1_mixBlock_103 (lv_at hl 6 rfl) ?_
    refine lv_bipush (pc := 105) (v := nI 6) hx hb dX1_mixBlock_105 (by decide) ?_
    refine x_roi (pc := 107) (va_runS (As := [.int ve, .int (nI 6)]) (rest := [.int vh]) ⟨hx, hb, hml, hown, hts⟩ (kX1_turn l dC dI tt cI cB _ ve 6 (by omega)) (va_cwS 2 hts gX1_mixBlock_X1_turn rfl rfl rfl (by decide +kernel) ⟨Nat.le_of_ble_eq_true rfl, Nat.le_of_ble_eq_true rfl⟩) (x_preS hS hE hK hP hD [] rfl (by decide) (x_ro hS hA) xR0) rfl rfl hl.1 rfl (lv_room (Nat.le_of_ble_eq_true rfl)) dX1_mixBlock_107 ⟨Nat.le_of_ble_eq_true rfl, Nat.le_of_ble_eq_true rfl⟩) hS hA hP (fun r_2 H locs hr_2 hP hS => ?_)
    subst hr_2
    refine lv_iload (pc := 110) hx hb dX1_mixBlock_110 (lv_at hl 6 rfl) ?_
    refine lv_bipush (pc := 112) (v := nI 11) hx hb dX1_mixBlock_112 (by decide) ?_
    refine x_roi (pc := 114) (va_runS (As := [.int ve, .int (nI 11)]) (rest := [.int (trn ve 6), .int vh]) ⟨hx, hb, hml, hown, hts⟩ (kX1_turn l dC dI tt cI cB _ ve 11 (by omega)) (va_cwS 2 hts gX1_mixBlock_X1_turn rfl rfl rfl (by decide +kernel) ⟨Nat.le_of_ble_eq_true rfl, Nat.le_of_ble_eq_true rfl⟩) (x_preS hS hE hK hP hD [] rfl (by decide) (x_ro hS hA) xR0) rfl rfl hl.1 rfl (lv_room (Nat.le_of_ble_eq_true rfl)) dX1_mixBlock_114 ⟨Nat.le_of_ble_eq_true rfl, Nat.le_of_ble_eq_true rfl⟩) hS hA hP (fun r_3 H locs hr_3 hP hS => ?_)
    subst hr_3
    refine lv_ixor (pc := 117) hx hb dX1_mixBlock_117 ?_
    refine lv_iload (pc := 118) hx hb dX1_mixBlock_118 (lv_at hl 6 rfl) ?_
    refine lv_bipush (pc := 120) (v := nI 25) hx hb dX1_mixBlock_120 (by decide) ?_
    refine x_roi (pc := 122) (va_runS (As := [.int ve, .int (nI 25)]) (rest := [.int ((trn ve 6) ^^^ (trn ve 11)), .int vh]) ⟨hx, hb, hml, hown, hts⟩ (kX1_turn l dC dI tt cI cB _ ve 25 (by omega)) (va_cwS 2 hts gX1_mixBlock_X1_turn rfl rfl rfl (by decide +kernel) ⟨Nat.le_of_ble_eq_true rfl, Nat.le_of_ble_eq_true rfl⟩) (x_preS hS hE hK hP hD [] rfl (by decide) (x_ro hS hA) xR0) rfl rfl hl.1 rfl (lv_room (Nat.le_of_ble_eq_true rfl)) dX1_mixBlock_122 ⟨Nat.le_of_ble_eq_true rfl, Nat.le_of_ble_eq_true rfl⟩) hS hA hP (fun r_4 H locs hr_4 hP hS => ?_)
    subst hr_4
    refine lv_ixor (pc := 125) hx hb dX1_mixBlock_125 ?_
    refine lv_iadd (pc := 126) hx hb dX1_mixBlock_126 ?_
    refine lv_iload (pc := 127) hx hb dX1_mixBlock_127 (lv_at hl 1 rfl) ?_
    refine lv_iadd (pc := 129) hx hb dX1_mixBlock_129 ?_
    refine va_gets (pc := 130) hx hb (hE.2.2.2.2.1).1 hS hown (hts (.fieldLink RX1 38 "ScratchSwap$Sha256" "ROUND_WORDS" "[I") (by decide +kernel)) (fun _ h9 => h9) dX1_mixBlock_130 ?_
    refine lv_iload (pc := 133) hx hb dX1_mixBlock_133 (lv_at hl 2 rfl) ?_
    refine x_ti (pc := 135) (k := i) hx hb (hE.2.2.2.2.1).2 hS (by omega) (by decide) dX1_mixBlock_135 ?_
    refine lv_iadd (pc := 136) hx hb dX1_mixBlock_136 ?_
    refine lv_aload_n (pc := 137) hx hb dX1_mixBlock_137 rfl (lv_at hl 11 rfl) ?_
    refine va_get (pc := 138) (D := (dC, dI)) (ci := 1) (v := .ref a8) (C := RX1) (T := TX1) (N := 2) hx hb hts (by decide +kernel) hown hK hP 0 rfl rfl 0 (by decide) (hts (.fieldLink RX1 11 "ScratchSwap$Sha256" "schedule" "[I") (by decide +kernel)) (fun _ h9 => h9) rfl dX1_mixBlock_138 ?_
    refine lv_iload (pc := 141) hx hb dX1_mixBlock_141 (lv_at hl 2 rfl) ?_
    refine x_iald (pc := 143) (k := i) (f := sc) hx hb hK hP 1 0 rfl rfl (by omega) (by decide) dX1_mixBlock_143 ?_
    refine lv_iadd (pc := 144) hx hb dX1_mixBlock_144 ?_
    refine lv_cv (show _ = one1 ve vf vg vh (tbR i) (sc i) from rfl) ?_
    refine lv_istore (pc := 145) (lv' := [(12, .int (one1 ve vf vg vh (tbR i) (sc i))), (11, .int (((va &&& vb) ^^^ (va &&& vc)) ^^^ (vb &&& vc))), (10, .int ((ve &&& vf) ^^^ ((ve ^^^ (-1)) &&& vg))), (9, .int (nI i)), (8, .int vh), (7, .int vg), (6, .int vf), (5, .int ve), (4, .int vd), (3, .int vc), (2, .int vb), (1, .int va), (0, .ref a7)]) hx hb dX1_mixBlock_145 hl (by decide) rfl (fun ls hl => ?_)
    refine lv_iload_n (pc := 147) hx hb dX1_mixBlock_147 rfl (lv_at hl 11 rfl) ?_
    refine lv_iconst (pc := 148) (v := nI 2) hx hb dX1_mixBlock_148 (by decide) ?_
    refine x_roi (pc := 149) (va_runS (As := [.int va, .int (nI 2)]) (rest := []) ⟨hx, hb, hml, hown, hts⟩ (kX1_turn l dC dI tt cI cB _ va 2 (by omega)) (va_cwS 2 hts gX1_mixBlock_X1_turn rfl rfl rfl (by decide +kernel) ⟨Nat.le_of_ble_eq_true rfl, Nat.le_of_ble_eq_true rfl⟩) (x_preS hS hE hK hP hD [] rfl (by decide) (x_ro hS hA) xR0) rfl rfl hl.1 rfl (lv_room (Nat.le_of_ble_eq_true rfl)) dX1_mixBlock_149 ⟨Nat.le_of_ble_eq_true rfl, Nat.le_of_ble_eq_true rfl⟩) hS hA hP (fun r_5 H locs hr_5 hP hS => ?_)
    subst hr_5
    refine lv_iload_n (pc := 152) hx hb dX1_mixBlock_152 rfl (lv_at hl 11 rfl) ?_
    refine lv_bipush (pc := 153) (v := nI 13) hx hb dX1_mixBlock_153 (by decide) ?_
    refine x_roi (pc := 155) (va_runS (As := [.int va, .int (nI 13)]) (rest := [.int (trn va 2)]) ⟨hx, hb, hml, hown, hts⟩ (kX1_turn l dC dI tt cI cB _ va 13 (by omega)) (va_cwS 2 hts gX1_mixBlock_X1_turn rfl rfl rfl (by decide +kernel) ⟨Nat.le_of_ble_eq_true rfl, Nat.le_of_ble_eq_true rfl⟩) (x_preS hS hE hK hP hD [] rfl (by decide) (x_ro hS hA) xR0) rfl rfl hl.1 rfl (lv_room (Nat.le_of_ble_eq_true rfl)) dX1_mixBlock_155 ⟨Nat.le_of_ble_eq_true rfl, Nat.le_of_ble_eq_true rfl⟩) hS hA hP (fun r_6 H locs hr_6 hP hS => ?_)
    subst hr_6
    refine lv_ixor (pc := 158) hx hb dX1_mixBlock_158 ?_
    refine lv_iload_n (pc := 159) hx hb dX1_mixBlock_159 rfl (lv_at hl 11 rfl) ?_
    refine lv_bipush (pc := 160) (v := nI 22) hx hb dX1_mixBlock_160 (by decide) ?_
    refine x_roi (pc := 162) (va_runS (As := [.int va, .int (nI 22)]) (rest := [.int ((trn va 2) ^^^ (trn va 13))]) ⟨hx, hb, hml, hown, hts⟩ (kX1_turn l dC dI tt cI cB _ va 22 (by omega)) (va_cwS 2 hts gX1_mixBlock_X1_turn rfl rfl rfl (by decide +kernel) ⟨Nat.le_of_ble_eq_true rfl, Nat.le_of_ble_eq_true rfl⟩) (x_preS hS hE hK hP hD [] rfl (by decide) (x_ro hS hA) xR0) rfl rfl hl.1 rfl (lv_room (Nat.le_of_ble_eq_true rfl)) dX1_mixBlock_162 ⟨Nat.le_of_ble_eq_true rfl, Nat.le_of_ble_eq_true rfl⟩) hS hA hP (fun r_7 H locs hr_7 hP hS => ?_)
    subst hr_7
    refine lv_ixor (pc := 165) hx hb dX1_mixBlock_165 ?_
    refine lv_iload (pc := 166) hx hb dX1_mixBlock_166 (lv_at hl 1 rfl) ?_
    refine lv_iadd (pc := 168) hx hb dX1_mixBlock_168 ?_
    refine lv_cv (show _ = two1 va vb vc from rfl) ?_
    refine lv_istore (pc := 169) (lv' := [(13, .int (two1 va vb vc)), (12, .int (one1 ve vf vg vh (tbR i) (sc i))), (11, .int (((va &&& vb) ^^^ (va &&& vc)) ^^^ (vb &&& vc))), (10, .int ((ve &&& vf) ^^^ ((ve ^^^ (-1)) &&& vg))), (9, .int (nI i)), (8, .int vh), (7, .int vg), (6, .int vf), (5, .int ve), (4, .int vd), (3, .int vc), (2, .int vb), (1, .int va), (0, .ref a7)]) hx hb dX1_mixBlock_169 hl (by decide) rfl (fun ls hl => ?_)
    refine lv_iload (pc := 171) hx hb dX1_mixBlock_171 (lv_at hl 6 rfl) ?_
    refine lv_istore (pc := 173) (lv' := [(8, .int vg), (13, .int (two1 va vb vc)), (12, .int (one1 ve vf vg vh (tbR i) (sc i))), (11, .int (((va &&& vb) ^^^ (va &&& vc)) ^^^ (vb &&& vc))), (10, .int ((ve &&& vf) ^^^ ((ve ^^^ (-1)) &&& vg))), (9, .int (nI i)), (7, .int vg), (6, .int vf), (5, .int ve), (4, .int vd), (3, .int vc), (2, .int vb), (1, .int va), (0, .ref a7)]) hx hb dX1_mixBlock_173 hl (by decide) rfl (fun ls hl => ?_)
    refine lv_iload (pc := 175) hx hb dX1_mixBlock_175 (lv_at hl 7 rfl) ?_
    refine lv_istore (pc := 177) (lv' := [(7, .int vf), (8, .int vg), (13, .int (two1 va vb vc)), (12, .int (one1 ve vf vg vh (tbR i) (sc i))), (11, .int (((va &&& vb) ^^^ (va &&& vc)) ^^^ (vb &&& vc))), (10, .int ((ve &&& vf) ^^^ ((ve ^^^ (-1)) &&& vg))), (9, .int (nI i)), (6, .int vf), (5, .int ve), (4, .int vd), (3, .int vc), (2, .int vb), (1, .int va), (0, .ref a7)]) hx hb dX1_mixBlock_177 hl (by decide) rfl (fun ls hl => ?_)
    refine lv_iload (pc := 179) hx hb dX1_mixBlock_179 (lv_at hl 8 rfl) ?_
    refine lv_istore (pc := 181) (lv' := [(6, .int ve), (7, .int vf), (8, .int vg), (13, .int (two1 va vb vc)), (12, .int (one1 ve vf vg vh (tbR i) (sc i))), (11, .int (((va &&& vb) ^^^ (va &&& vc)) ^^^ (vb &&& vc))), (10, .int ((ve &&& vf) ^^^ ((ve ^^^ (-1)) &&& vg))), (9, .int (nI i)), (5, .int ve), (4, .int vd), (3, .int vc), (2, .int vb), (1, .int va), (0, .ref a7)]) hx hb dX1_mixBlock_181 hl (by decide) rfl (fun ls hl => ?_)
    refine lv_iload (pc := 183) hx hb dX1_mixBlock_183 (lv_at hl 9 rfl) ?_
    refine lv_iload (pc := 185) hx hb dX1_mixBlock_185 (lv_at hl 4 rfl) ?_
    refine lv_iadd (pc := 187) hx hb dX1_mixBlock_187 ?_
    refine lv_istore (pc := 188) (lv' := [(5, .int (vd + (one1 ve vf vg vh (tbR i) (sc i)))), (6, .int ve), (7, .int vf), (8, .int vg), (13, .int (two1 va vb vc)), (12, .int (one1 ve vf vg vh (tbR i) (sc i))), (11, .int (((va &&& vb) ^^^ (va &&& vc)) ^^^ (vb &&& vc))), (10, .int ((ve &&& vf) ^^^ ((ve ^^^ (-1)) &&& vg))), (9, .int (nI i)), (4, .int vd), (3, .int vc), (2, .int vb), (1, .int va), (0, .ref a7)]) hx hb dX1_mixBlock_188 hl (by decide) rfl (fun ls hl => ?_)
    refine lv_iload_n (pc := 190) hx hb dX1_mixBlock_190 rfl (lv_at hl 10 rfl) ?_
    refine lv_istore (pc := 191) (lv' := [(4, .int vc), (5, .int (vd + (one1 ve vf vg vh (tbR i) (sc i)))), (6, .int ve), (7, .int vf), (8, .int vg), (13, .int (two1 va vb vc)), (12, .int (one1 ve vf vg vh (tbR i) (sc i))), (11, .int (((va &&& vb) ^^^ (va &&& vc)) ^^^ (vb &&& vc))), (10, .int ((ve &&& vf) ^^^ ((ve ^^^ (-1)) &&& vg))), (9, .int (nI i)), (3, .int vc), (2, .int vb), (1, .int va), (0, .ref a7)]) hx hb dX1_mixBlock_191 hl (by decide) rfl (fun ls hl => ?_)
    refine lv_iload_n (pc := 193) hx hb dX1_mixBlock_193 rfl (lv_at hl 11 rfl) ?_
    refine lv_istore_n (pc := 194) (lv' := [(3, .int vb), (4, .int vc), (5, .int (vd + (one1 ve vf vg vh (tbR i) (sc i)))), (6, .int ve), (7, .int vf), (8, .int vg), (13, .int (two1 va vb vc)), (12, .int (one1 ve vf vg vh (tbR i) (sc i))), (11, .int (((va &&& vb) ^^^ (va &&& vc)) ^^^ (vb &&& vc))), (10, .int ((ve &&& vf) ^^^ ((ve ^^^ (-1)) &&& vg))), (9, .int (nI i)), (2, .int vb), (1, .int va), (0, .ref a7)]) hx hb dX1_mixBlock_194 rfl hl (by decide) rfl (fun ls hl => ?_)
    refine lv_iload_n (pc := 195) hx hb dX1_mixBlock_195 rfl (lv_at hl 12 rfl) ?_
    refine lv_istore_n (pc := 196) (lv' := [(2, .int va), (3, .int vb), (4, .int vc), (5, .int (vd + (one1 ve vf vg vh (tbR i) (sc i)))), (6, .int ve), (7, .int vf), (8, .int vg), (13, .int (two1 va vb vc)), (12, .int (one1 ve vf vg vh (tbR i) (sc i))), (11, .int (((va &&& vb) ^^^ (va &&& vc)) ^^^ (vb &&& vc))), (10, .int ((ve &&& vf) ^^^ ((ve ^^^ (-1)) &&& vg))), (9, .int (nI i)), (1, .int va), (0, .ref a7)]) hx hb dX1_mixBlock_196 rfl hl (by decide) rfl (fun ls hl => ?_)
    refine lv_iload (pc := 197) hx hb dX1_mixBlock_197 (lv_at hl 8 rfl) ?_
    refine lv_iload (pc := 199) hx hb dX1_mixBlock_199 (lv_at hl 7 rfl) ?_
    refine lv_iadd (pc := 201) hx hb dX1_mixBlock_201 ?_
    refine lv_istore_n (pc := 202) (lv' := [(1, .int ((one1 ve vf vg vh (tbR i) (sc i)) + (two1 va vb vc))), (2, .int va), (3, .int vb), (4, .int vc), (5, .int (vd + (one1 ve vf vg vh (tbR i) (sc i)))), (6, .int ve), (7, .int vf), (8, .int vg), (13, .int (two1 va vb vc)), (12, .int (one1 ve vf vg vh (tbR i) (sc i))), (11, .int (((va &&& vb) ^^^ (va &&& vc)) ^^^ (vb &&& vc))), (10, .int ((ve &&& vf) ^^^ ((ve ^^^ (-1)) &&& vg))), (9, .int (nI i)), (0, .ref a7)]) hx hb dX1_mixBlock_202 rfl hl (by decide) rfl (fun ls hl => ?_)
    refine lv_iinc (pc := 203) (v := nI (i + 1)) (lv' := [(9, .int (nI (i + 1))), (1, .int ((one1 ve vf vg vh (tbR i) (sc i)) + (two1 va vb vc))), (2, .int va), (3, .int vb), (4, .int vc), (5, .int (vd + (one1 ve vf vg vh (tbR i) (sc i)))), (6, .int ve), (7, .int vf), (8, .int vg), (13, .int (two1 va vb vc)), (12, .int (one1 ve vf vg vh (tbR i) (sc i))), (11, .int (((va &&& vb) ^^^ (va &&& vc)) ^^^ (vb &&& vc))), (10, .int ((ve &&& vf) ^^^ ((ve ^^^ (-1)) &&& vg))), (0, .ref a7)]) hx hb dX1_mixBlock_203 hl (k := 12) rfl (nI_inc i 1) (by decide) rfl (fun ls hl => ?_)
    refine lv_goto (pc := 206) (tgt := 66) hx hb dX1_mixBlock_206 (by decide) ?_
    exact ih66 (i + 1, (one1 ve vf vg vh (tbR i) (sc i)) + (two1 va vb vc), va, vb, vc, vd + (one1 ve vf vg vh (tbR i) (sc i)), ve, vf, vg) H locs ls ⟨by omega, by rw [mixN_s, ← hq]; rfl⟩ (by first | omega | (simp only []; omega)) hP hD hS (lv_sub hl [0, 8, 7, 6, 5, 4, 3, 2, 1, 13] rfl)
