set_option maxHeartbeats 4000000 in
set_option maxRecDepth 100000 in
theorem kX1_digest (l : Launch) (dC : Nat → ClassId) (dI : Nat → Nat → Nat) (tt : Nat → Nat) (cI cB : ClassId) (sz : Nat) (a7 a8 a9 : Nat) (sc hs : Nat → Int32) (t n : Nat) (G : Nat → Int8) (fi len : Nat) (hn : n < 2 ^ 30) (hfl : fi + len ≤ n) (hlen : len ≤ 1024) : MetV (S := ((Nat → Int32) × (Nat → Int32))) l yX1_digest wsX1_digest { frames := 2, cells := 0, slots := 0, locals := 54 } (dC, dI) [(cI, .int), (cB, .byte)] tt [(t, n, fun j => ub (G j))] sz (sW a7 a8 a9 cI sc hs) [.ref a7, .ref t, .int (nI fi), .int (nI len)] (fun u : ((Nat → Int32) × (Nat → Int32)) => sW a7 a8 a9 cI u.1 u.2) (fun u => of8 u.2 = sha8 G fi len) := by
  refine Met.ofW (cc := cX1_digest) (maxL := 7) (ret := none) (by decide) rfl ?_
  intro p e s m args below meth c s₁ B hml hv
  obtain ⟨rfl, hsz, hP, hK, hD0, hE⟩ := hv
  have hx := B.exec
  have hb := B.bytes
  have hr := B.returns
  have hts := atoms_spec (ws := wsX1_digest) B.pre
  have hown : s.vm.findClass RX1 = some m.cls := findClass_of_methodNamed B.named
  have hlocks := B.notSynchronized
  subst hsz
  have hD := hD0.self (sz := s.heap.size)
  generalize hAe : va_A (sW a7 a8 a9 cI sc hs) s.heap.size = A at hD hE ⊢
  have hA : ∀ q : Nat, s.heap.size ≤ q → A q := fun q h => by rw [← hAe]; exact Or.inr h
  have hS : va_S A s.heap s.heap [] := va_S.rf
  have hl := lv_entry ([.ref a7, .ref t, .int (nI fi), .int (nI len)]) (n := 7) (Nat.le_of_ble_eq_true rfl)
  rw [lg_entry_eq]
  generalize (lg_sl ([.ref a7, .ref t, .int (nI fi), .int (nI len)]) ++ List.replicate (7 - (lg_sl ([.ref a7, .ref t, .int (nI fi), .int (nI len)])).length) Slot.unset).toArray = ls at hl ⊢
  have hl : lv_has ls 7 [(0, .ref a7), (1, .ref t), (2, .int (nI fi)), (3, .int (nI len))] := hl
  have hP : va_P (dC, dI) vwCl (sW a7 a8 a9 cI sc hs) s.heap := hP
  have hT : va_T .int t n (fun j => .int (ub (G j))) A s s.heap := hE.2.2.2.2.2.2.2.2 _ List.mem_cons_self
  have hn0 := hn
  have hn : n < 2 ^ 31 := by omega
  refine lv_aload_n (pc := 0) hx hb dX1_digest_0 rfl (lv_at hl 1 rfl) ?_
  refine lv_ifnull (pc := 1) hx hb dX1_digest_1 ?_
  refine lv_iload_n (pc := 4) hx hb dX1_digest_4 rfl (lv_at hl 2 rfl) ?_
  refine lv_if_lt (pc := 5) (tgt := 27) hx hb dX1_digest_5 (by decide) (fun c1 => ?_) (fun c1 => ?_)
  · skip
    have c1 : fi < 0 := (nI_ltI (a := fi) (b := 0) (by omega) (by omega)).mp c1
    exfalso; omega
  · skip
    have c1 : ¬ fi < 0 := fun z => c1 ((nI_ltI (a := fi) (b := 0) (by omega) (by omega)).mpr z)
    refine lv_iload_n (pc := 8) hx hb dX1_digest_8 rfl (lv_at hl 3 rfl) ?_
    refine lv_if_lt (pc := 9) (tgt := 27) hx hb dX1_digest_9 (by decide) (fun c2 => ?_) (fun c2 => ?_)
    · skip
      have c2 : len < 0 := (nI_ltI (a := len) (b := 0) (by omega) (by omega)).mp c2
      exfalso; omega
    · skip
      have c2 : ¬ len < 0 := fun z => c2 ((nI_ltI (a := len) (b := 0) (by omega) (by omega)).mpr z)
      refine lv_iload_n (pc := 12) hx hb dX1_digest_12 rfl (lv_at hl 3 rfl) ?_
      refine lv_sipush (pc := 13) (v := nI 1024) hx hb dX1_digest_13 (by decide) ?_
      refine lv_icmp_gt (pc := 16) (tgt := 27) hx hb dX1_digest_16 (by decide) (fun c3 => ?_) (fun c3 => ?_)
      · skip
        have c3 : 1024 < len := (nI_ltI (a := 1024) (b := len) (by omega) (by omega)).mp c3
        exfalso; omega
      · skip
        have c3 : ¬ 1024 < len := fun z => c3 ((nI_ltI (a := 1024) (b := len) (by omega) (by omega)).mpr z)
        refine lv_iload_n (pc := 19) hx hb dX1_digest_19 rfl (lv_at hl 2 rfl) ?_
        refine lv_aload_n (pc := 20) hx hb dX1_digest_20 rfl (lv_at hl 1 rfl) ?_
        refine va_tlen (pc := 21) (v := nI n) hx hb hT hS rfl dX1_digest_21 ?_
        refine lv_iload_n (pc := 22) hx hb dX1_digest_22 rfl (lv_at hl 3 rfl) ?_
        refine lv_isub (pc := 23) hx hb dX1_digest_23 ?_
        refine lv_cv (pk_sub (a := n) (b := len) (by omega)) ?_
        refine lv_icmp_le (pc := 24) (tgt := 28) hx hb dX1_digest_24 (by decide) (fun c4 => ?_) (fun c4 => ?_)
        · skip
          have c4 : fi ≤ (n - len) := (nI_leI (a := fi) (b := (n - len)) (by omega) (by omega)).mp c4
          refine lv_iconst (pc := 28) (v := nI 0) hx hb dX1_digest_28 (by decide) ?_
          refine lv_istore (pc := 29) (lv' := [(4, .int (nI 0)), (0, .ref a7), (1, .ref t), (2, .int (nI fi)), (3, .int (nI len))]) hx hb dX1_digest_29 hl (by decide) rfl (fun ls hl => ?_)
          refine x_loop (σ := (Nat) × (Nat → Int32)) (Wd := fun x : (Nat) × (Nat → Int32) => match x with | (i, hs) => sW a7 a8 a9 cI sc hs) (Lv := fun x : (Nat) × (Nat → Int32) => match x with | (i, hs) => [(4, .int (nI i)), (0, .ref a7), (1, .ref t), (2, .int (nI fi)), (3, .int (nI len))]) (I := fun x : (Nat) × (Nat → Int32) => match x with | (i, hs) => (i ≤ 8) ∧ (∀ j, j < i → hs j = tbF j)) (μ := fun x : (Nat) × (Nat → Int32) => match x with | (i, hs) => 8 - i) ?_ (0, hs) ⟨by omega, fun j hj => absurd hj (Nat.not_lt_zero j)⟩ hP hD hS (lv_sub hl [0, 1, 2, 3, 4] rfl)
          intro x H locs ls hI hP hD hS hl ih31
          obtain ⟨i, hs⟩ := x
          obtain ⟨hi, hh⟩ : (i ≤ 8) ∧ (∀ j, j < i → hs j = tbF j) := hI
          have hP : va_P (dC, dI) vwCl (sW a7 a8 a9 cI sc hs) _ := hP
          have hD : va_D A (sW a7 a8 a9 cI sc hs) := hD
          have hl : lv_has ls 7 [(4, .int (nI i)), (0, .ref a7), (1, .ref t), (2, .int (nI fi)), (3, .int (nI len))] := hl
          refine lv_iload (pc := 31) hx hb dX1_digest_31 (lv_at hl 0 rfl) ?_
          refine lv_bipush (pc := 33) (v := nI 8) hx hb dX1_digest_33 (by decide) ?_
          refine lv_icmp_ge (pc := 35) (tgt := 57) hx hb dX1_digest_35 (by decide) (fun c_1 => ?_) (fun c_1 => ?_)
          · skip
            have c_1 : 8 ≤ i := (nI_leI (a := 8) (b := i) (by omega) (by omega)).mp c_1
            refine lv_iload_n (pc := 57) hx hb dX1_digest_57 rfl (lv_at hl 4 rfl) ?_
            refine lv_bipush (pc := 58) (v := nI 8) hx hb dX1_digest_58 (by decide) ?_
            refine lv_iadd (pc := 60) hx hb dX1_digest_60 ?_
            refine lv_cv (nI_add len 8) ?_
            refine lv_bipush (pc := 61) (v := nI 64) hx hb dX1_digest_61 (by decide) ?_
            refine lv_idiv (pc := 63) hx hb dX1_digest_63 (nI_ne0 (by omega) (by omega)) ?_
            refine lv_cv (pk_div (a := (len + 8)) (d := 64) (by omega) (by omega) (by omega)) ?_
            refine lv_iconst (pc := 64) (v := nI 1) hx hb dX1_digest_64 (by decide) ?_
            refine lv_iadd (pc := 65) hx hb dX1_digest_65 ?_
            refine lv_cv (nI_add ((len + 8) / 64) 1) ?_
            refine lv_istore (pc := 66) (lv' := [(4, .int (nI (((len + 8) / 64) + 1))), (0, .ref a7), (1, .ref t), (2, .int (nI fi)), (3, .int (nI len))]) hx hb dX1_digest_66 hl (by decide) rfl (fun ls hl => ?_)
            refine lv_iconst (pc := 68) (v := nI 0) hx hb dX1_digest_68 (by decide) ?_
            refine lv_istore (pc := 69) (lv' := [(5, .int (nI 0)), (4, .int (nI (((len + 8) / 64) + 1))), (0, .ref a7), (1, .ref t), (2, .int (nI fi)), (3, .int (nI len))]) hx hb dX1_digest_69 hl (by decide) rfl (fun ls hl => ?_)
            have ho0 : of8 hs = shaC (msgW G fi len) 0 := of8_F (fun j hj => hh j (by omega))
            refine x_loop (σ := (Nat) × (Nat → Int32) × (Nat → Int32)) (Wd := fun x : (Nat) × (Nat → Int32) × (Nat → Int32) => match x with | (b, sc, hs) => sW a7 a8 a9 cI sc hs) (Lv := fun x : (Nat) × (Nat → Int32) × (Nat → Int32) => match x with | (b, sc, hs) => [(5, .int (nI b)), (4, .int (nI ((len + 8) / 64 + 1))), (0, .ref a7), (1, .ref t), (2, .int (nI fi)), (3, .int (nI len))]) (I := fun x : (Nat) × (Nat → Int32) × (Nat → Int32) => match x with | (b, sc, hs) => (b ≤ (len + 8) / 64 + 1) ∧ (of8 hs = shaC (msgW G fi len) b)) (μ := fun x : (Nat) × (Nat → Int32) × (Nat → Int32) => match x with | (b, sc, hs) => (len + 8) / 64 + 1 - b) ?_ (0, sc, hs) ⟨by omega, ho0⟩ hP hD hS (lv_sub hl [0, 1, 2, 3, 4, 5] rfl)
            intro x H locs ls hI hP hD hS hl ih71
            obtain ⟨b, sc, hs⟩ := x
            obtain ⟨hb9, ho⟩ : (b ≤ (len + 8) / 64 + 1) ∧ (of8 hs = shaC (msgW G fi len) b) := hI
            have hP : va_P (dC, dI) vwCl (sW a7 a8 a9 cI sc hs) _ := hP
            have hD : va_D A (sW a7 a8 a9 cI sc hs) := hD
            have hl : lv_has ls 7 [(5, .int (nI b)), (4, .int (nI ((len + 8) / 64 + 1))), (0, .ref a7), (1, .ref t), (2, .int (nI fi)), (3, .int (nI len))] := hl
            refine lv_iload (pc := 71) hx hb dX1_digest_71 (lv_at hl 0 rfl) ?_
            refine lv_iload (pc := 73) hx hb dX1_digest_73 (lv_at hl 1 rfl) ?_
            refine lv_icmp_ge (pc := 75) (tgt := 151) hx hb dX1_digest_75 (by decide) (fun c_2 => ?_) (fun c_2 => ?_)
            · skip
              have c_2 : ((len + 8) / 64 + 1) ≤ b := (nI_leI (a := ((len + 8) / 64 + 1)) (b := b) (by omega) (by omega)).mp c_2
              have hb0 : b = (len + 8) / 64 + 1 := by omega
              rw [hb0] at ho
              exact W.vret hx hb hr (fun t ht hW => ⟨⟨(sc, hs), rfl, ho, by show va_P _ _ _ t.heap; rw [ht]; exact hP, va_K.moved hW.alike hK, hD⟩, hS.F ht⟩) hS.2.2 dX1_digest_151
            · skip
              have c_2 : ¬ ((len + 8) / 64 + 1) ≤ b := fun z => c_2 ((nI_leI (a := ((len + 8) / 64 + 1)) (b := b) (by omega) (by omega)).mpr z)
              refine lv_iconst (pc := 78) (v := nI 0) hx hb dX1_digest_78 (by decide) ?_
              refine lv_istore (pc := 79) (lv' := [(6, .int (nI 0)), (5, .int (nI b)), (4, .int (nI ((len + 8) / 64 + 1))), (0, .ref a7), (1, .ref t), (2, .int (nI fi)), (3, .int (nI len))]) hx hb dX1_digest_79 hl (by decide) rfl (fun ls hl => ?_)
              refine x_loop (σ := (Nat) × (Nat → Int32)) (Wd := fun x : (Nat) × (Nat → Int32) => match x with | (v, sc1) => sW a7 a8 a9 cI sc1 hs) (Lv := fun x : (Nat) × (Nat → Int32) => match x with | (v, sc1) => [(6, .int (nI v)), (5, .int (nI b)), (4, .int (nI ((len + 8) / 64 + 1))), (0, .ref a7), (1, .ref t), (2, .int (nI fi)), (3, .int (nI len))]) (I := fun x : (Nat) × (Nat → Int32) => match x with | (v, sc1) => (v ≤ 16) ∧ (∀ j, j < v → sc1 j = pw (pad8 G fi len) (b * 64 + 4 * j) 4)) (μ := fun x : (Nat) × (Nat → Int32) => match x with | (v, sc1) => 16 - v) ?_ (0, sc) ⟨by omega, fun j hj => absurd hj (Nat.not_lt_zero j)⟩ hP hD hS (lv_sub hl [0, 1, 2, 3, 4, 5, 6] rfl)
              intro x H locs ls hI hP hD hS hl ih81
              obtain ⟨v, sc1⟩ := x
              obtain ⟨hv8, hv⟩ : (v ≤ 16) ∧ (∀ j, j < v → sc1 j = pw (pad8 G fi len) (b * 64 + 4 * j) 4) := hI
              have hP : va_P (dC, dI) vwCl (sW a7 a8 a9 cI sc1 hs) _ := hP
              have hD : va_D A (sW a7 a8 a9 cI sc1 hs) := hD
              have hl : lv_has ls 7 [(6, .int (nI v)), (5, .int (nI b)), (4, .int (nI ((len + 8) / 64 + 1))), (0, .ref a7), (1, .ref t), (2, .int (nI fi)), (3, .int (nI len))] := hl
              refine lv_iload (pc := 81) hx hb dX1_digest_81 (lv_at hl 0 rfl) ?_
              refine lv_bipush (pc := 83) (v := nI 16) hx hb dX1_digest_83 (by decide) ?_
              refine lv_icmp_ge (pc := 85) (tgt := 117) hx hb dX1_digest_85 (by decide) (fun c_3 => ?_) (fun c_3 => ?_)
              · skip
                have c_3 : 16 ≤ v := (nI_leI (a := 16) (b := v) (by omega) (by omega)).mp c_3
                refine lv_iload (pc := 117) hx hb dX1_digest_117 (lv_at hl 1 rfl) ?_
                refine lv_iload (pc := 119) hx hb dX1_digest_119 (lv_at hl 2 rfl) ?_
                refine lv_iconst (pc := 121) (v := nI 1) hx hb dX1_digest_121 (by decide) ?_
                refine lv_isub (pc := 122) hx hb dX1_digest_122 ?_
                refine lv_cv (pk_sub (a := ((len + 8) / 64 + 1)) (b := 1) (by omega)) ?_
                refine lv_icmp_ne (pc := 123) (tgt := 137) hx hb dX1_digest_123 (by decide) (fun c5 => ?_) (fun c5 => ?_)
                · skip
                  have c5 : ¬ b = (((len + 8) / 64 + 1) - 1) := fun z => c5 ((nI_eq (a := b) (b := (((len + 8) / 64 + 1) - 1)) (by omega) (by omega)).mpr z)
                  have hw16 : ∀ j, j < 16 → sc1 j = msgW G fi len b j := fun j hj => by rw [hv j (by omega)]; unfold msgW; rw [if_neg (fun z => absurd z.1 (by omega))]
                  refine lv_aload_n (pc := 137) hx hb dX1_digest_137 rfl (lv_at hl 3 rfl) ?_
                  refine x_wrv (pc := 138) (va_runV (As := []) (rest := []) ⟨hx, hb, hml, hown, hts⟩ (kX1_stretch l dC dI tt cI cB _ a7 a8 a9 sc1 hs) (cwV 0 hts gX1_digest_X1_stretchSchedule rfl rfl rfl (by decide +kernel) ⟨Nat.le_of_ble_eq_true rfl, Nat.le_of_ble_eq_true rfl⟩) (x_preV hS hE hK hP hD [0, 1, 2] rfl (by decide) (va_free hD hS hA [0, 1, 2] rfl) xR0 1 0 rfl rfl) rfl rfl hl.1 rfl (lv_room (Nat.le_of_ble_eq_true rfl)) dX1_digest_138 ⟨Nat.le_of_ble_eq_true rfl, Nat.le_of_ble_eq_true rfl⟩) hS hA hP hD [0, 1, 2] [] rfl rfl (by decide) (by decide) (fun u_4 H locs hu_4 hP hD hS => ?_)
                  subst hu_4
                  have hP := hP.sub (ws' := sW a7 a8 a9 cI (stN sc1 48) hs) [0, 1, 2] rfl
                  have hD := hD.sub (ws' := sW a7 a8 a9 cI (stN sc1 48) hs) [0, 1, 2] (by decide) rfl
                  refine lv_aload_n (pc := 141) hx hb dX1_digest_141 rfl (lv_at hl 3 rfl) ?_
                  refine x_wrv (pc := 142) (va_runV (As := []) (rest := []) ⟨hx, hb, hml, hown, hts⟩ (kX1_mixBlock l dC dI tt cI cB _ a7 a8 a9 (stN sc1 48) hs) (cwV 0 hts gX1_digest_X1_mixBlock rfl rfl rfl (by decide +kernel) ⟨Nat.le_of_ble_eq_true rfl, Nat.le_of_ble_eq_true rfl⟩) (x_preV hS hE hK hP hD [0, 1, 2] rfl (by decide) (va_free hD hS hA [0, 1, 2] rfl) xR0 1 0 rfl rfl) rfl rfl hl.1 rfl (lv_room (Nat.le_of_ble_eq_true rfl)) dX1_digest_142 ⟨Nat.le_of_ble_eq_true rfl, Nat.le_of_ble_eq_true rfl⟩) hS hA hP hD [0, 1, 2] [] rfl rfl (by decide) (by decide) (fun u_5 H locs hu_5 hP hD hS => ?_)
                  subst hu_5
                  have hP := hP.sub (ws' := sW a7 a8 a9 cI (stN sc1 48) (addH hs (mixN (stN sc1 48) 64 (of8 hs)))) [0, 1, 2] rfl
                  have hD := hD.sub (ws' := sW a7 a8 a9 cI (stN sc1 48) (addH hs (mixN (stN sc1 48) 64 (of8 hs)))) [0, 1, 2] (by decide) rfl
                  refine lv_iinc (pc := 145) (v := nI (b + 1)) (lv' := [(5, .int (nI (b + 1))), (6, .int (nI v)), (4, .int (nI ((len + 8) / 64 + 1))), (0, .ref a7), (1, .ref t), (2, .int (nI fi)), (3, .int (nI len))]) hx hb dX1_digest_145 hl (k := 1) rfl (nI_inc b 1) (by decide) rfl (fun ls hl => ?_)
                  refine lv_goto (pc := 148) (tgt := 71) hx hb dX1_digest_148 (by decide) ?_
                  exact ih71 (b + 1, stN sc1 48, addH hs (mixN (stN sc1 48) 64 (of8 hs))) H locs ls ⟨by omega, shaC_step ho hw16⟩ (by first | omega | (simp only []; omega)) hP hD hS (lv_sub hl [0, 2, 3, 4, 5, 6] rfl)
                · skip
                  have c5 : b = (((len + 8) / 64 + 1) - 1) := (nI_eq (a := b) (b := (((len + 8) / 64 + 1) - 1)) (by omega) (by omega)).mp c5
                  refine lv_aload_n (pc := 126) hx hb dX1_digest_126 rfl (lv_at hl 3 rfl) ?_
                  refine va_get (pc := 127) (D := (dC, dI)) (ci := 1) (v := .ref a8) (C := RX1) (T := TX1) (N := 2) hx hb hts (by decide +kernel) hown hK hP 0 rfl rfl 0 (by decide) (hts (.fieldLink RX1 11 "ScratchSwap$Sha256" "schedule" "[I") (by decide +kernel)) (fun _ h9 => h9) rfl dX1_digest_127 ?_
                  refine lv_bipush (pc := 130) (v := nI 15) hx hb dX1_digest_130 (by decide) ?_
                  refine lv_bipush (pc := 132) (v := nI 8) hx hb dX1_digest_132 (by decide) ?_
                  refine lv_iload_n (pc := 134) hx hb dX1_digest_134 rfl (lv_at hl 6 rfl) ?_
                  refine lv_imul (pc := 135) hx hb dX1_digest_135 ?_
                  refine lv_cv (pk_mul 8 len) ?_
                  refine x_iast (pc := 136) (k := 15) (f := sc1) hx hb hK hP hD hS 1 0 rfl rfl (by omega) (by decide) dX1_digest_136 (fun H locs hP hD hS => ?_)
                  have hP : va_P (dC, dI) vwCl (sW a7 a8 a9 cI (upd sc1 15 (nI (8 * len))) hs) _ := hP
                  have hD : va_D A (sW a7 a8 a9 cI (upd sc1 15 (nI (8 * len))) hs) := hD
                  have hw16 : ∀ j, j < 16 → (upd sc1 15 (nI (8 * len))) j = msgW G fi len b j := by
                    intro j hj
                    unfold upd msgW
                    by_cases h : j = 15
                    · rw [if_pos h, if_pos ⟨by omega, h⟩]
                    · rw [if_neg h, if_neg (fun z => h z.2)]; exact hv j (by omega)
                  refine lv_aload_n (pc := 137) hx hb dX1_digest_137 rfl (lv_at hl 3 rfl) ?_
                  refine x_wrv (pc := 138) (va_runV (As := []) (rest := []) ⟨hx, hb, hml, hown, hts⟩ (kX1_stretch l dC dI tt cI cB _ a7 a8 a9 (upd sc1 15 (nI (8 * len))) hs) (cwV 0 hts gX1_digest_X1_stretchSchedule rfl rfl rfl (by decide +kernel) ⟨Nat.le_of_ble_eq_true rfl, Nat.le_of_ble_eq_true rfl⟩) (x_preV hS hE hK hP hD [0, 1, 2] rfl (by decide) (va_free hD hS hA [0, 1, 2] rfl) xR0 1 0 rfl rfl) rfl rfl hl.1 rfl (lv_room (Nat.le_of_ble_eq_true rfl)) dX1_digest_138 ⟨Nat.le_of_ble_eq_true rfl, Nat.le_of_ble_eq_true rfl⟩) hS hA hP hD [0, 1, 2] [] rfl rfl (by decide) (by decide) (fun u_6 H locs hu_6 hP hD hS => ?_)
                  subst hu_6
                  have hP := hP.sub (ws' := sW a7 a8 a9 cI (stN (upd sc1 15 (nI (8 * len))) 48) hs) [0, 1, 2] rfl
                  have hD := hD.sub (ws' := sW a7 a8 a9 cI (stN (upd sc1 15 (nI (8 * len))) 48) hs) [0, 1, 2] (by decide) rfl
                  refine lv_aload_n (pc := 141) hx hb dX1_digest_141 rfl (lv_at hl 3 rfl) ?_
                  refine x_wrv (pc := 142) (va_runV (As := []) (rest := []) ⟨hx, hb, hml, hown, hts⟩ (kX1_mixBlock l dC dI tt cI cB _ a7 a8 a9 (stN (upd sc1 15 (nI (8 * len))) 48) hs) (cwV 0 hts gX1_digest_X1_mixBlock rfl rfl rfl (by decide +kernel) ⟨Nat.le_of_ble_eq_true rfl, Nat.le_of_ble_eq_true rfl⟩) (x_preV hS hE hK hP hD [0, 1, 2] rfl (by decide) (va_free hD hS hA [0, 1, 2] rfl) xR0 1 0 rfl rfl) rfl rfl hl.1 rfl (lv_room (Nat.le_of_ble_eq_true rfl)) dX1_digest_142 ⟨Nat.le_of_ble_eq_true rfl, Nat.le_of_ble_eq_true rfl⟩) hS hA hP hD [0, 1, 2] [] rfl rfl (by decide) (by decide) (fun u_7 H locs hu_7 hP hD hS => ?_)
                  subst hu_7
                  have hP := hP.sub (ws' := sW a7 a8 a9 cI (stN (upd sc1 15 (nI (8 * len))) 48) (addH hs (mixN (stN (upd sc1 15 (nI (8 * len))) 48) 64 (of8 hs)))) [0, 1, 2] rfl
                  have hD := hD.sub (ws' := sW a7 a8 a9 cI (stN (upd sc1 15 (nI (8 * len))) 48) (addH hs (mixN (stN (upd sc1 15 (nI (8 * len))) 48) 64 (of8 hs)))) [0, 1, 2] (by decide) rfl
                  refine lv_iinc (pc := 145) (v := nI (b + 1)) (lv' := [(5, .int (nI (b + 1))), (6, .int (nI v)), (4, .int (nI ((len + 8) / 64 + 1))), (0, .ref a7), (1, .ref t), (2, .int (nI fi)), (3, .int (nI len))]) hx hb dX1_digest_145 hl (k := 1) rfl (nI_inc b 1) (by decide) rfl (fun ls hl => ?_)
                  refine lv_goto (pc := 148) (tgt := 71) hx hb dX1_digest_148 (by decide) ?_
                  exact ih71 (b + 1, stN (upd sc1 15 (nI (8 * len))) 48, addH hs (mixN (stN (upd sc1 15 (nI (8 * len))) 48) 64 (of8 hs))) H locs ls ⟨by omega, shaC_step ho hw16⟩ (by first | omega | (simp only []; omega)) hP hD hS (lv_sub hl [0, 2, 3, 4, 5, 6] rfl)
              · skip
                have c_3 : ¬ 16 ≤ v := fun z => c_3 ((nI_leI (a := 16) (b := v) (by omega) (by omega)).mpr z)
                refine lv_aload_n (pc := 88) hx hb dX1_digest_88 rfl (lv_at hl 3 rfl) ?_
                refine va_get (pc := 89) (D := (dC, dI)) (ci := 1) (v := .ref a8) (C := RX1) (T := TX1) (N := 2) hx hb hts (by decide +kernel) hown hK hP 0 rfl rfl 0 (by decide) (hts (.fieldLink RX1 11 "ScratchSwap$Sha256" "schedule" "[I") (by decide +kernel)) (fun _ h9 => h9) rfl dX1_digest_89 ?_
                refine lv_iload (pc := 92) hx hb dX1_digest_92 (lv_at hl 0 rfl) ?_
                refine lv_aload_n (pc := 94) hx hb dX1_digest_94 rfl (lv_at hl 4 rfl) ?_
                refine lv_iload_n (pc := 95) hx hb dX1_digest_95 rfl (lv_at hl 5 rfl) ?_
                refine lv_iload_n (pc := 96) hx hb dX1_digest_96 rfl (lv_at hl 6 rfl) ?_
                refine lv_iload (pc := 97) hx hb dX1_digest_97 (lv_at hl 1 rfl) ?_
                refine lv_bipush (pc := 99) (v := nI 64) hx hb dX1_digest_99 (by decide) ?_
                refine lv_imul (pc := 101) hx hb dX1_digest_101 ?_
                refine lv_cv (pk_mul b 64) ?_
                refine lv_iconst (pc := 102) (v := nI 4) hx hb dX1_digest_102 (by decide) ?_
                refine lv_iload (pc := 103) hx hb dX1_digest_103 (lv_at hl 0 rfl) ?_
                refine lv_imul (pc := 105) hx hb dX1_digest_105 ?_
                refine lv_cv (pk_mul 4 v) ?_
                refine lv_iadd (pc := 106) hx hb dX1_digest_106 ?_
                refine lv_cv (nI_add (b * 64) (4 * v)) ?_
                refine x_roi (pc := 107) (va_runS (As := [.ref t, .int (nI fi), .int (nI len), .int (nI ((b * 64) + (4 * v)))]) (rest := [.int (nI v), .ref a8]) ⟨hx, hb, hml, hown, hts⟩ (kX1_paddedWord l dC dI tt cI cB _ t n G fi len ((b * 64) + (4 * v)) hn hfl (by omega) (by omega)) (va_cwS 4 hts gX1_digest_X1_paddedWord rfl rfl rfl (by decide +kernel) ⟨Nat.le_of_ble_eq_true rfl, Nat.le_of_ble_eq_true rfl⟩) (x_preS hS hE hK hP hD [] rfl (by decide) (x_ro hS hA) (xRs hS hE (x_ro hS hA))) rfl rfl hl.1 rfl (lv_room (Nat.le_of_ble_eq_true rfl)) dX1_digest_107 ⟨Nat.le_of_ble_eq_true rfl, Nat.le_of_ble_eq_true rfl⟩) hS hA hP (fun r_8 H locs hr_8 hP hS => ?_)
                subst hr_8
                refine x_iast (pc := 110) (k := v) (f := sc1) hx hb hK hP hD hS 1 0 rfl rfl (by omega) (by decide) dX1_digest_110 (fun H locs hP hD hS => ?_)
                have hP : va_P (dC, dI) vwCl (sW a7 a8 a9 cI (upd sc1 v (pw (pad8 G fi len) ((b * 64) + (4 * v)) 4)) hs) _ := hP
                have hD : va_D A (sW a7 a8 a9 cI (upd sc1 v (pw (pad8 G fi len) ((b * 64) + (4 * v)) 4)) hs) := hD
                refine lv_iinc (pc := 111) (v := nI (v + 1)) (lv' := [(6, .int (nI (v + 1))), (5, .int (nI b)), (4, .int (nI ((len + 8) / 64 + 1))), (0, .ref a7), (1, .ref t), (2, .int (nI fi)), (3, .int (nI len))]) hx hb dX1_digest_111 hl (k := 0) rfl (nI_inc v 1) (by decide) rfl (fun ls hl => ?_)
                refine lv_goto (pc := 114) (tgt := 81) hx hb dX1_digest_114 (by decide) ?_
                have hv9 : ∀ j, j < v + 1 → (upd sc1 v (pw (pad8 G fi len) ((b * 64) + (4 * v)) 4)) j = pw (pad8 G fi len) (b * 64 + 4 * j) 4 := by
                  intro j hj
                  unfold upd
                  by_cases h : j = v
                  · rw [if_pos h, h]
                  · rw [if_neg h]; exact hv j (by omega)
                exact ih81 (v + 1, upd sc1 v (pw (pad8 G fi len) ((b * 64) + (4 * v)) 4)) H locs ls ⟨by omega, hv9⟩ (by first | omega | (simp only []; omega)) hP hD hS (lv_sub hl [0, 1, 2, 3, 4, 5, 6] rfl)
          · skip
            have c_1 : ¬ 8 ≤ i := fun z => c_1 ((nI_leI (a := 8) (b := i) (by omega) (by omega)).mpr z)
            refine lv_aload_n (pc := 38) hx hb dX1_digest_38 rfl (lv_at hl 1 rfl) ?_
            refine va_get (pc := 39) (D := (dC, dI)) (ci := 1) (v := .ref a9) (C := RX1) (T := TX1) (N := 2) hx hb hts (by decide +kernel) hown hK hP 0 rfl rfl 1 (by decide) (hts (.fieldLink RX1 15 "ScratchSwap$Sha256" "hash" "[I") (by decide +kernel)) (fun _ h9 => h9) rfl dX1_digest_39 ?_
            refine lv_iload (pc := 42) hx hb dX1_digest_42 (lv_at hl 0 rfl) ?_
            refine va_gets (pc := 44) hx hb (hE.2.2.2.1).1 hS hown (hts (.fieldLink RX1 18 "ScratchSwap$Sha256" "FIRST_WORDS" "[I") (by decide +kernel)) (fun _ h9 => h9) dX1_digest_44 ?_
            refine lv_iload (pc := 47) hx hb dX1_digest_47 (lv_at hl 0 rfl) ?_
            refine x_ti (pc := 49) (k := i) hx hb (hE.2.2.2.1).2 hS (by omega) (by decide) dX1_digest_49 ?_
            refine x_iast (pc := 50) (k := i) (f := hs) hx hb hK hP hD hS 2 0 rfl rfl (by omega) (by decide) dX1_digest_50 (fun H locs hP hD hS => ?_)
            have hP : va_P (dC, dI) vwCl (sW a7 a8 a9 cI sc (upd hs i (tbF i))) _ := hP
            have hD : va_D A (sW a7 a8 a9 cI sc (upd hs i (tbF i))) := hD
            refine lv_iinc (pc := 51) (v := nI (i + 1)) (lv' := [(4, .int (nI (i + 1))), (0, .ref a7), (1, .ref t), (2, .int (nI fi)), (3, .int (nI len))]) hx hb dX1_digest_51 hl (k := 0) rfl (nI_inc i 1) (by decide) rfl (fun ls hl => ?_)
            refine lv_goto (pc := 54) (tgt := 31) hx hb dX1_digest_54 (by decide) ?_
            have hh9 : ∀ j, j < i + 1 → (upd hs i (tbF i)) j = tbF j := by
              intro j hj
              unfold upd
              by_cases h : j = i
              · rw [if_pos h, h]
              · rw [if_neg h]; exact hh j (by omega)
            exact ih31 (i + 1, upd hs i (tbF i)) H locs ls ⟨by omega, hh9⟩ (by first | omega | (simp only []; omega)) hP hD hS (lv_sub hl [0, 1, 2, 3, 4] rfl)
        · skip
          have c4 : ¬ fi ≤ (n - len) := fun z => c4 ((nI_leI (a := fi) (b := (n - len)) (by omega) (by omega)).mpr z)
          exfalso; omega
set_option maxHeartbeats 4000000 in
set_option maxRecDepth 100000 in
theorem kX1_digestByte (l : Launch) (dC : Nat → ClassId) (dI : Nat → Nat → Nat) (tt : Nat → Nat) (cI cB : ClassId) (sz : Nat) (a7 a8 a9 : Nat) (sc hs : Nat → Int32) (i : Nat) (hi : i < 32) : MetR l yX1_digestByte wsX1_digestByte { frames := 0, cells := 0, slots := 0, locals := 0 } (dC, dI) [(cI, .int), (cB, .byte)] tt [] sz (sW a7 a8 a9 cI sc hs) [.ref a7, .int (nI i)] (fun r => r = ub (digT (of8 hs) i)) := by
  refine Met.ofW (cc := cX1_digestByte) (maxL := 2) (ret := (some .int)) (by decide) rfl ?_
  intro p e s m args below meth c s₁ B hml hv
  obtain ⟨rfl, hsz, hP, hK, hD0, hE⟩ := hv
  have hx := B.exec
  have hb := B.bytes
  have hr := B.returns
  have hts := atoms_spec (ws := wsX1_digestByte) B.pre
  have hown : s.vm.findClass RX1 = some m.cls := findClass_of_methodNamed B.named
  have hlocks := B.notSynchronized
  subst hsz
  have hD := hD0
  generalize hAe : va_A [] s.heap.size = A at hE ⊢
  have hA : ∀ q : Nat, s.heap.size ≤ q → A q := fun q h => by rw [← hAe]; exact Or.inr h
  have hS : va_S A s.heap s.heap [] := va_S.rf
  have hl := lv_entry ([.ref a7, .int (nI i)]) (n := 2) (Nat.le_of_ble_eq_true rfl)
  rw [lg_entry_eq]
  generalize (lg_sl ([.ref a7, .int (nI i)]) ++ List.replicate (2 - (lg_sl ([.ref a7, .int (nI i)])).length) Slot.unset).toArray = ls at hl ⊢
  have hl : lv_has ls 2 [(0, .ref a7), (1, .int (nI i))] := hl
  have hP : va_P (dC, dI) vwCl (sW a7 a8 a9 cI sc hs) s.heap := hP
  refine lv_iload_n (pc := 0) hx hb dX1_digestByte_0 rfl (lv_at hl 1 rfl) ?_
  refine lv_if_lt (pc := 1) (tgt := 10) hx hb dX1_digestByte_1 (by decide) (fun c1 => ?_) (fun c1 => ?_)
  · skip
    have c1 : i < 0 := (nI_ltI (a := i) (b := 0) (by omega) (by omega)).mp c1
    exfalso; omega
  · skip
    have c1 : ¬ i < 0 := fun z => c1 ((nI_ltI (a := i) (b := 0) (by omega) (by omega)).mpr z)
    refine lv_iload_n (pc := 4) hx hb dX1_digestByte_4 rfl (lv_at hl 1 rfl) ?_
    refine lv_bipush (pc := 5) (v := nI 32) hx hb dX1_digestByte_5 (by decide) ?_
    refine lv_icmp_lt (pc := 7) (tgt := 12) hx hb dX1_digestByte_7 (by decide) (fun c2 => ?_) (fun c2 => ?_)
    · skip
      have c2 : i < 32 := (nI_ltI (a := i) (b := 32) (by omega) (by omega)).mp c2
      refine lv_aload_n (pc := 12) hx hb dX1_digestByte_12 rfl (lv_at hl 0 rfl) ?_
      refine va_get (pc := 13) (D := (dC, dI)) (ci := 1) (v := .ref a9) (C := RX1) (T := TX1) (N := 2) hx hb hts (by decide +kernel) hown hK hP 0 rfl rfl 1 (by decide) (hts (.fieldLink RX1 15 "ScratchSwap$Sha256" "hash" "[I") (by decide +kernel)) (fun _ h9 => h9) rfl dX1_digestByte_13 ?_
      refine lv_iload_n (pc := 16) hx hb dX1_digestByte_16 rfl (lv_at hl 1 rfl) ?_
      refine lv_iconst (pc := 17) (v := nI 4) hx hb dX1_digestByte_17 (by decide) ?_
      refine lv_idiv (pc := 18) hx hb dX1_digestByte_18 (nI_ne0 (by omega) (by omega)) ?_
      refine lv_cv (pk_div (a := i) (d := 4) (by omega) (by omega) (by omega)) ?_
      refine x_iald (pc := 19) (k := i / 4) (f := hs) hx hb hK hP 2 0 rfl rfl (by omega) (by decide) dX1_digestByte_19 ?_
      refine lv_bipush (pc := 20) (v := nI 24) hx hb dX1_digestByte_20 (by decide) ?_
      refine lv_bipush (pc := 22) (v := nI 8) hx hb dX1_digestByte_22 (by decide) ?_
      refine lv_iload_n (pc := 24) hx hb dX1_digestByte_24 rfl (lv_at hl 1 rfl) ?_
      refine lv_iconst (pc := 25) (v := nI 4) hx hb dX1_digestByte_25 (by decide) ?_
      refine lv_irem (pc := 26) hx hb dX1_digestByte_26 (nI_ne0 (by omega) (by omega)) ?_
      refine lv_cv (pk_rem (a := i) (d := 4) (by omega) (by omega) (by omega)) ?_
      refine lv_imul (pc := 27) hx hb dX1_digestByte_27 ?_
      refine lv_cv (pk_mul 8 (i % 4)) ?_
      refine lv_isub (pc := 28) hx hb dX1_digestByte_28 ?_
      refine lv_cv (pk_sub (a := 24) (b := (8 * (i % 4))) (by omega)) ?_
      refine lv_iushr (pc := 29) hx hb dX1_digestByte_29 rfl ?_
      refine lv_sipush (pc := 30) (v := nI 255) hx hb dX1_digestByte_30 (by decide) ?_
      refine lv_iand (pc := 33) hx hb dX1_digestByte_33 ?_
      refine lv_cv (ub_of ((Int32.toUInt32 (hs (i / 4)) >>> (Int32.toUInt32 (nI (24 - (8 * (i % 4)))) &&& Int32.toUInt32 31)).toInt32)) ?_
      exact W.iret (v := ub (Int32.toInt8 ((Int32.toUInt32 (hs (i / 4)) >>> (Int32.toUInt32 (nI (24 - (8 * (i % 4)))) &&& Int32.toUInt32 31)).toInt32))) hx hb hr (fun t ht hW => ⟨⟨ub (Int32.toInt8 ((Int32.toUInt32 (hs (i / 4)) >>> (Int32.toUInt32 (nI (24 - (8 * (i % 4)))) &&& Int32.toUInt32 31)).toInt32)), (), rfl, by rw [digT, sel8_of hs (by omega)]; rfl, trivial⟩, hS.F ht⟩) hS.2.2 dX1_digestByte_34
    · skip
      have c2 : ¬ i < 32 := fun z => c2 ((nI_ltI (a := i) (b := 32) (by omega) (by omega)).mpr z)
      exfalso; omega
