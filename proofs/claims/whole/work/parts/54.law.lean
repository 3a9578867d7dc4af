/-- the machine goes on from pc, with the pair of worlds that agree -/
def lwK (p : Program) (l : Launch) (e : Env) (s : State) (m : MethodId) (below : List Frame) (meth : Method) (c : Code) (b : Nat) (dC : Nat → ClassId) (dI : Nat → Nat → Nat) (cI cB : ClassId) (A : Nat → Prop) (a0 a1 a2 a3 a4 a5 a6 a7 a8 a9 g0 g1 g2 g3 g4 g5 g6 g7 g8 g9 g10 g11 g12 g13 pc i : Nat) : Prop := ∀ (k : K0) (ut : Nat → Int32) (tb : Nat → Int8) (tn : Nat) (sc hs : Nat → Int32) (rn : Bool) (wb ee we : Int32) (dr : Nat → Int8) (er pl : Nat → Int32) (un : Nat → Int8) (li : Nat) (ov vs : Int32) (ei dg : Nat → Int8) (wo : Nat → Int32) (pa : Nat → Int8) (ch fi : Nat → Int32) (H : Heap) (locs : List Loc) (ls : Array Slot), kSm k → tn ≤ 1024 → va_P (dC, dI) vwCl (xW a0 a1 a2 a3 a4 a5 a6 a7 a8 a9 cI k ut tb tn sc hs rn (rvV rn vs) wb ee we ++ gW g0 g1 g2 g3 g4 g5 g6 g7 g8 g9 g10 g11 g12 g13 cI cB k dr er pl un li ov tb tn rn vs wb ee we ei dg wo pa ch fi) H → va_D A (xW a0 a1 a2 a3 a4 a5 a6 a7 a8 a9 cI k ut tb tn sc hs rn (rvV rn vs) wb ee we ++ gW g0 g1 g2 g3 g4 g5 g6 g7 g8 g9 g10 g11 g12 g13 cI cB k dr er pl un li ov tb tn rn vs wb ee we ei dg wo pa ch fi) → va_S A s.heap H locs → lv_has ls 4 [(0, .ref b), (1, .ref a0), (2, .ref g0), (3, .int (nI i))] → W p l e room_1 s m #[Value.ref b] below meth c H locs 24 18914 (lw_Z below #[Value.ref b] s) (F0 m pc ls [])
set_option maxHeartbeats 4000000 in
set_option maxRecDepth 100000 in
theorem lw_c0 {p : Program} {e : Env} {s : State} {m : MethodId} {below : List Frame} {meth : Method} {c : Code} (l : Launch) {b L : Nat} {xs : Nat → Int32} {dC : Nat → ClassId} {dI : Nat → Nat → Nat} {tt : Nat → Nat} {cI cB : ClassId} {A : Nat → Prop} (hL : L ≤ 3072) (hx : p.tables.exec = Jvm.exec) (hb : c.code = cL_law) (hml : c.maxLocals = 4) (hown : s.vm.findClass RL = some m.cls) (hts : ∀ w ∈ wsL_law, w.before #[Value.ref b] s = true) (hX : va_X b L xs s s.heap) (hbl : b < s.heap.size) (hbA : ¬ A b) (hA : ∀ q : Nat, s.heap.size ≤ q → A q) (hK : va_K (dC, dI) vwCl [(cI, .int), (cB, .byte)] s) (hE : xE tt [] A s s.heap) (a0 a1 a2 a3 a4 a5 a6 a7 a8 a9 g0 g1 g2 g3 g4 g5 g6 g7 g8 g9 g10 g11 g12 g13 : Nat) (i : Nat) (hi : i + 6 ≤ L) (hk : lwK p l e s m below meth c b dC dI cI cB A a0 a1 a2 a3 a4 a5 a6 a7 a8 a9 g0 g1 g2 g3 g4 g5 g6 g7 g8 g9 g10 g11 g12 g13 551 i) : lwK p l e s m below meth c b dC dI cI cB A a0 a1 a2 a3 a4 a5 a6 a7 a8 a9 g0 g1 g2 g3 g4 g5 g6 g7 g8 g9 g10 g11 g12 g13 116 i := by
  intro k ut tb tn sc hs rn wb ee we dr er pl un li ov vs ei dg wo pa ch fi H locs ls hsm htn hP hD hS hl
  have hP : va_P (dC, dI) vwCl (xW a0 a1 a2 a3 a4 a5 a6 a7 a8 a9 cI k ut tb tn sc hs rn (rvV rn vs) wb ee we ++ gW g0 g1 g2 g3 g4 g5 g6 g7 g8 g9 g10 g11 g12 g13 cI cB k dr er pl un li ov tb tn rn vs wb ee we ei dg wo pa ch fi) _ := hP
  have hD : va_D A (xW a0 a1 a2 a3 a4 a5 a6 a7 a8 a9 cI k ut tb tn sc hs rn (rvV rn vs) wb ee we ++ gW g0 g1 g2 g3 g4 g5 g6 g7 g8 g9 g10 g11 g12 g13 cI cB k dr er pl un li ov tb tn rn vs wb ee we ei dg wo pa ch fi) := hD
  have hl : lv_has ls 4 [(0, .ref b), (1, .ref a0), (2, .ref g0), (3, .int (nI i))] := hl
  refine lv_aload_n (pc := 116) hx hb dL_law_116 rfl (lv_at hl 1 rfl) ?_
  refine lv_aload_n (pc := 117) hx hb dL_law_117 rfl (lv_at hl 0 rfl) ?_
  refine lv_iload_n (pc := 118) hx hb dL_law_118 rfl (lv_at hl 3 rfl) ?_
  refine lv_iconst (pc := 119) (v := nI 1) hx hb dL_law_119 (by decide) ?_
  refine lv_iadd (pc := 120) hx hb dL_law_120 ?_
  refine lv_cv (nI_add i 1) ?_
  refine x_sld (pc := 121) (k := i + 1) hx hb hX hbl hbA hS (by omega) (by omega) dL_law_121 ?_
  refine lv_aload_n (pc := 122) hx hb dL_law_122 rfl (lv_at hl 0 rfl) ?_
  refine lv_iload_n (pc := 123) hx hb dL_law_123 rfl (lv_at hl 3 rfl) ?_
  refine lv_iconst (pc := 124) (v := nI 2) hx hb dL_law_124 (by decide) ?_
  refine lv_iadd (pc := 125) hx hb dL_law_125 ?_
  refine lv_cv (nI_add i 2) ?_
  refine x_sld (pc := 126) (k := i + 2) hx hb hX hbl hbA hS (by omega) (by omega) dL_law_126 ?_
  refine lv_aload_n (pc := 127) hx hb dL_law_127 rfl (lv_at hl 0 rfl) ?_
  refine lv_iload_n (pc := 128) hx hb dL_law_128 rfl (lv_at hl 3 rfl) ?_
  refine lv_iconst (pc := 129) (v := nI 3) hx hb dL_law_129 (by decide) ?_
  refine lv_iadd (pc := 130) hx hb dL_law_130 ?_
  refine lv_cv (nI_add i 3) ?_
  refine x_sld (pc := 131) (k := i + 3) hx hb hX hbl hbA hS (by omega) (by omega) dL_law_131 ?_
  refine lv_aload_n (pc := 132) hx hb dL_law_132 rfl (lv_at hl 0 rfl) ?_
  refine lv_iload_n (pc := 133) hx hb dL_law_133 rfl (lv_at hl 3 rfl) ?_
  refine lv_iconst (pc := 134) (v := nI 4) hx hb dL_law_134 (by decide) ?_
  refine lv_iadd (pc := 135) hx hb dL_law_135 ?_
  refine lv_cv (nI_add i 4) ?_
  refine x_sld (pc := 136) (k := i + 4) hx hb hX hbl hbA hS (by omega) (by omega) dL_law_136 ?_
  refine lv_aload_n (pc := 137) hx hb dL_law_137 rfl (lv_at hl 0 rfl) ?_
  refine lv_iload_n (pc := 138) hx hb dL_law_138 rfl (lv_at hl 3 rfl) ?_
  refine lv_iconst (pc := 139) (v := nI 5) hx hb dL_law_139 (by decide) ?_
  refine lv_iadd (pc := 140) hx hb dL_law_140 ?_
  refine lv_cv (nI_add i 5) ?_
  refine x_sld (pc := 141) (k := i + 5) hx hb hX hbl hbA hS (by omega) (by omega) dL_law_141 ?_
  refine x_wri (pc := 142) (va_runV (As := [.int (xs (i + 1)), .int (xs (i + 2)), .int (xs (i + 3)), .int (xs (i + 4)), .int (xs (i + 5))]) (rest := []) ⟨hx, hb, hml, hown, hts⟩ (kX3_feed l dC dI tt cI cB _ a0 a1 a2 a3 a4 a5 a6 a7 a8 a9 k ut tb tn sc hs rn (rvV rn vs) wb ee we (xs (i + 1)) (xs (i + 2)) (xs (i + 3)) (xs (i + 4)) (xs (i + 5)) htn) (cwV 5 hts gL_law_X3_feed rfl rfl rfl (by decide +kernel) ⟨Nat.le_of_ble_eq_true rfl, Nat.le_of_ble_eq_true rfl⟩) (x_preV hS hE hK hP hD [0, 1, 2, 3, 4, 5, 6, 7, 8, 9] rfl (by decide) (va_free hD hS hA [0, 1, 2, 3, 4, 5, 6, 7, 8, 9] rfl) xR0 3 0 rfl rfl) rfl rfl hl.1 rfl (lv_room (Nat.le_of_ble_eq_true rfl)) dL_law_142 ⟨Nat.le_of_ble_eq_true rfl, Nat.le_of_ble_eq_true rfl⟩) hS hA hP hD [0, 1, 2, 3, 4, 5, 6, 7, 8, 9] [10, 11, 12, 13, 14, 15, 16, 17, 18, 19, 20, 21, 22, 23] rfl rfl (by decide) (by decide) (fun r_2 u_1 H locs hu_1 hP hD hS => ?_)
  obtain ⟨tb1, tn1⟩ := u_1
  have h1 := hu_1
  have hP := hP.sub (ws' := xW a0 a1 a2 a3 a4 a5 a6 a7 a8 a9 cI k ut tb1 tn1 sc hs rn (rvV rn vs) wb ee we ++ gW g0 g1 g2 g3 g4 g5 g6 g7 g8 g9 g10 g11 g12 g13 cI cB k dr er pl un li ov tb tn rn vs wb ee we ei dg wo pa ch fi) [14, 15, 16, 17, 18, 19, 20, 21, 22, 23, 0, 1, 2, 3, 4, 5, 6, 7, 8, 9, 10, 11, 12, 13] rfl
  have hD := hD.sub (ws' := xW a0 a1 a2 a3 a4 a5 a6 a7 a8 a9 cI k ut tb1 tn1 sc hs rn (rvV rn vs) wb ee we ++ gW g0 g1 g2 g3 g4 g5 g6 g7 g8 g9 g10 g11 g12 g13 cI cB k dr er pl un li ov tb tn rn vs wb ee we ei dg wo pa ch fi) [14, 15, 16, 17, 18, 19, 20, 21, 22, 23, 0, 1, 2, 3, 4, 5, 6, 7, 8, 9, 10, 11, 12, 13] (by decide) rfl
  refine lv_aload_n (pc := 145) hx hb dL_law_145 rfl (lv_at hl 2 rfl) ?_
  refine lv_aload_n (pc := 146) hx hb dL_law_146 rfl (lv_at hl 0 rfl) ?_
  refine lv_iload_n (pc := 147) hx hb dL_law_147 rfl (lv_at hl 3 rfl) ?_
  refine lv_iconst (pc := 148) (v := nI 1) hx hb dL_law_148 (by decide) ?_
  refine lv_iadd (pc := 149) hx hb dL_law_149 ?_
  refine lv_cv (nI_add i 1) ?_
  refine x_sld (pc := 150) (k := i + 1) hx hb hX hbl hbA hS (by omega) (by omega) dL_law_150 ?_
  refine lv_aload_n (pc := 151) hx hb dL_law_151 rfl (lv_at hl 0 rfl) ?_
  refine lv_iload_n (pc := 152) hx hb dL_law_152 rfl (lv_at hl 3 rfl) ?_
  refine lv_iconst (pc := 153) (v := nI 2) hx hb dL_law_153 (by decide) ?_
  refine lv_iadd (pc := 154) hx hb dL_law_154 ?_
  refine lv_cv (nI_add i 2) ?_
  refine x_sld (pc := 155) (k := i + 2) hx hb hX hbl hbA hS (by omega) (by omega) dL_law_155 ?_
  refine lv_aload_n (pc := 156) hx hb dL_law_156 rfl (lv_at hl 0 rfl) ?_
  refine lv_iload_n (pc := 157) hx hb dL_law_157 rfl (lv_at hl 3 rfl) ?_
  refine lv_iconst (pc := 158) (v := nI 3) hx hb dL_law_158 (by decide) ?_
  refine lv_iadd (pc := 159) hx hb dL_law_159 ?_
  refine lv_cv (nI_add i 3) ?_
  refine x_sld (pc := 160) (k := i + 3) hx hb hX hbl hbA hS (by omega) (by omega) dL_law_160 ?_
  refine lv_aload_n (pc := 161) hx hb dL_law_161 rfl (lv_at hl 0 rfl) ?_
  refine lv_iload_n (pc := 162) hx hb dL_law_162 rfl (lv_at hl 3 rfl) ?_
  refine lv_iconst (pc := 163) (v := nI 4) hx hb dL_law_163 (by decide) ?_
  refine lv_iadd (pc := 164) hx hb dL_law_164 ?_
  refine lv_cv (nI_add i 4) ?_
  refine x_sld (pc := 165) (k := i + 4) hx hb hX hbl hbA hS (by omega) (by omega) dL_law_165 ?_
  refine lv_aload_n (pc := 166) hx hb dL_law_166 rfl (lv_at hl 0 rfl) ?_
  refine lv_iload_n (pc := 167) hx hb dL_law_167 rfl (lv_at hl 3 rfl) ?_
  refine lv_iconst (pc := 168) (v := nI 5) hx hb dL_law_168 (by decide) ?_
  refine lv_iadd (pc := 169) hx hb dL_law_169 ?_
  refine lv_cv (nI_add i 5) ?_
  refine x_sld (pc := 170) (k := i + 5) hx hb hX hbl hbA hS (by omega) (by omega) dL_law_170 ?_
  refine x_wri (pc := 171) (va_runV (As := [.int (xs (i + 1)), .int (xs (i + 2)), .int (xs (i + 3)), .int (xs (i + 4)), .int (xs (i + 5))]) (rest := [.int r_2]) ⟨hx, hb, hml, hown, hts⟩ (kX4_feed l dC dI tt cI cB _ g0 g1 g2 g3 g4 g5 g6 g7 g8 g9 g10 g11 g12 g13 k dr er pl un li ov tb tn rn vs wb ee we ei dg wo pa ch fi (xs (i + 1)) (xs (i + 2)) (xs (i + 3)) (xs (i + 4)) (xs (i + 5)) htn) (cwV 5 hts gL_law_X4_feed rfl rfl rfl (by decide +kernel) ⟨Nat.le_of_ble_eq_true rfl, Nat.le_of_ble_eq_true rfl⟩) (x_preV hS hE hK hP hD [10, 11, 12, 13, 14, 15, 16, 17, 18, 19, 20, 21, 22, 23] rfl (by decide) (va_free hD hS hA [10, 11, 12, 13, 14, 15, 16, 17, 18, 19, 20, 21, 22, 23] rfl) xR0 4 10 rfl rfl) rfl rfl hl.1 rfl (lv_room (Nat.le_of_ble_eq_true rfl)) dL_law_171 ⟨Nat.le_of_ble_eq_true rfl, Nat.le_of_ble_eq_true rfl⟩) hS hA hP hD [10, 11, 12, 13, 14, 15, 16, 17, 18, 19, 20, 21, 22, 23] [0, 1, 2, 3, 4, 5, 6, 7, 8, 9] rfl rfl (by decide) (by decide) (fun r_4 u_3 H locs hu_3 hP hD hS => ?_)
  obtain ⟨tp2, tn2, fi2⟩ := u_3
  have h2 := hu_3
  have hP := hP.sub (ws' := xW a0 a1 a2 a3 a4 a5 a6 a7 a8 a9 cI k ut tb1 tn1 sc hs rn (rvV rn vs) wb ee we ++ gW g0 g1 g2 g3 g4 g5 g6 g7 g8 g9 g10 g11 g12 g13 cI cB k dr er pl un li ov tp2 tn2 rn vs wb ee we ei dg wo pa ch fi2) [0, 1, 2, 3, 4, 5, 6, 7, 8, 9, 10, 11, 12, 13, 14, 15, 16, 17, 18, 19, 20, 21, 22, 23] rfl
  have hD := hD.sub (ws' := xW a0 a1 a2 a3 a4 a5 a6 a7 a8 a9 cI k ut tb1 tn1 sc hs rn (rvV rn vs) wb ee we ++ gW g0 g1 g2 g3 g4 g5 g6 g7 g8 g9 g10 g11 g12 g13 cI cB k dr er pl un li ov tp2 tn2 rn vs wb ee we ei dg wo pa ch fi2) [0, 1, 2, 3, 4, 5, 6, 7, 8, 9, 10, 11, 12, 13, 14, 15, 16, 17, 18, 19, 20, 21, 22, 23] (by decide) rfl
  refine lv_icmp_eq (pc := 174) (tgt := 551) hx hb dL_law_174 (by decide) (fun cc => ?_) (fun cc => ?_)
  · skip
    obtain ⟨hrr, e1, e2, htn1⟩ : r_2 = r_4 ∧ tb1 = tp2 ∧ tn1 = tn2 ∧ tn1 ≤ 1024 := by
      by_cases hf : tn + 20 ≤ 1024
      · rw [if_pos hf] at h1 h2; have h3 := Prod.mk.inj h1.2; exact ⟨h1.1.trans h2.1.symm, h3.1.trans h2.2.1.symm, h3.2.trans h2.2.2.symm, by rw [h3.2]; exact hf⟩
      · rw [if_neg hf] at h1 h2; have h3 := Prod.mk.inj h1.2; exact ⟨h1.1.trans h2.1.symm, h3.1.trans h2.2.1.symm, h3.2.trans h2.2.2.symm, by rw [h3.2]; exact htn⟩
    subst e1 e2
    exact hk k ut tb1 tn1 sc hs rn wb ee we dr er pl un li ov vs ei dg wo pa ch fi2 H locs ls hsm htn1 hP hD hS (lv_sub hl [0, 1, 2, 3] rfl)
  · skip
    obtain ⟨hrr, e1, e2, htn1⟩ : r_2 = r_4 ∧ tb1 = tp2 ∧ tn1 = tn2 ∧ tn1 ≤ 1024 := by
      by_cases hf : tn + 20 ≤ 1024
      · rw [if_pos hf] at h1 h2; have h3 := Prod.mk.inj h1.2; exact ⟨h1.1.trans h2.1.symm, h3.1.trans h2.2.1.symm, h3.2.trans h2.2.2.symm, by rw [h3.2]; exact hf⟩
      · rw [if_neg hf] at h1 h2; have h3 := Prod.mk.inj h1.2; exact ⟨h1.1.trans h2.1.symm, h3.1.trans h2.2.1.symm, h3.2.trans h2.2.2.symm, by rw [h3.2]; exact htn⟩
    exact absurd hrr cc
set_option maxHeartbeats 4000000 in
set_option maxRecDepth 100000 in
theorem lw_c1 {p : Program} {e : Env} {s : State} {m : MethodId} {below : List Frame} {meth : Method} {c : Code} (l : Launch) {b L : Nat} {xs : Nat → Int32} {dC : Nat → ClassId} {dI : Nat → Nat → Nat} {tt : Nat → Nat} {cI cB : ClassId} {A : Nat → Prop} (hL : L ≤ 3072) (hx : p.tables.exec = Jvm.exec) (hb : c.code = cL_law) (hml : c.maxLocals = 4) (hown : s.vm.findClass RL = some m.cls) (hts : ∀ w ∈ wsL_law, w.before #[Value.ref b] s = true) (hX : va_X b L xs s s.heap) (hbl : b < s.heap.size) (hbA : ¬ A b) (hA : ∀ q : Nat, s.heap.size ≤ q → A q) (hK : va_K (dC, dI) vwCl [(cI, .int), (cB, .byte)] s) (hE : xE tt [] A s s.heap) (a0 a1 a2 a3 a4 a5 a6 a7 a8 a9 g0 g1 g2 g3 g4 g5 g6 g7 g8 g9 g10 g11 g12 g13 : Nat) (i : Nat) (hi : i + 6 ≤ L) (hk : lwK p l e s m below meth c b dC dI cI cB A a0 a1 a2 a3 a4 a5 a6 a7 a8 a9 g0 g1 g2 g3 g4 g5 g6 g7 g8 g9 g10 g11 g12 g13 551 i) : lwK p l e s m below meth c b dC dI cI cB A a0 a1 a2 a3 a4 a5 a6 a7 a8 a9 g0 g1 g2 g3 g4 g5 g6 g7 g8 g9 g10 g11 g12 g13 179 i := by
  intro k ut tb tn sc hs rn wb ee we dr er pl un li ov vs ei dg wo pa ch fi H locs ls hsm htn hP hD hS hl
  have hP : va_P (dC, dI) vwCl (xW a0 a1 a2 a3 a4 a5 a6 a7 a8 a9 cI k ut tb tn sc hs rn (rvV rn vs) wb ee we ++ gW g0 g1 g2 g3 g4 g5 g6 g7 g8 g9 g10 g11 g12 g13 cI cB k dr er pl un li ov tb tn rn vs wb ee we ei dg wo pa ch fi) _ := hP
  have hD : va_D A (xW a0 a1 a2 a3 a4 a5 a6 a7 a8 a9 cI k ut tb tn sc hs rn (rvV rn vs) wb ee we ++ gW g0 g1 g2 g3 g4 g5 g6 g7 g8 g9 g10 g11 g12 g13 cI cB k dr er pl un li ov tb tn rn vs wb ee we ei dg wo pa ch fi) := hD
  have hl : lv_has ls 4 [(0, .ref b), (1, .ref a0), (2, .ref g0), (3, .int (nI i))] := hl
  refine lv_aload_n (pc := 179) hx hb dL_law_179 rfl (lv_at hl 1 rfl) ?_
  refine lv_aload_n (pc := 180) hx hb dL_law_180 rfl (lv_at hl 0 rfl) ?_
  refine lv_iload_n (pc := 181) hx hb dL_law_181 rfl (lv_at hl 3 rfl) ?_
  refine lv_iconst (pc := 182) (v := nI 1) hx hb dL_law_182 (by decide) ?_
  refine lv_iadd (pc := 183) hx hb dL_law_183 ?_
  refine lv_cv (nI_add i 1) ?_
  refine x_sld (pc := 184) (k := i + 1) hx hb hX hbl hbA hS (by omega) (by omega) dL_law_184 ?_
  refine x_wri (pc := 185) (va_runV (As := [.int (xs (i + 1))]) (rest := []) ⟨hx, hb, hml, hown, hts⟩ (kX3_end l dC dI tt cI cB _ a0 a1 a2 a3 a4 a5 a6 a7 a8 a9 k ut tb tn sc hs rn (rvV rn vs) wb ee we (xs (i + 1)) htn) (cwV 1 hts gL_law_X3_end rfl rfl rfl (by decide +kernel) ⟨Nat.le_of_ble_eq_true rfl, Nat.le_of_ble_eq_true rfl⟩) (x_preV hS hE hK hP hD [0, 1, 2, 3, 4, 5, 6, 7, 8, 9] rfl (by decide) (va_free hD hS hA [0, 1, 2, 3, 4, 5, 6, 7, 8, 9] rfl) xR0 3 0 rfl rfl) rfl rfl hl.1 rfl (lv_room (Nat.le_of_ble_eq_true rfl)) dL_law_185 ⟨Nat.le_of_ble_eq_true rfl, Nat.le_of_ble_eq_true rfl⟩) hS hA hP hD [0, 1, 2, 3, 4, 5, 6, 7, 8, 9] [10, 11, 12, 13, 14, 15, 16, 17, 18, 19, 20, 21, 22, 23] rfl rfl (by decide) (by decide) (fun r_2 u_1 H locs hu_1 hP hD hS => ?_)
  obtain ⟨tn1, etn1⟩ : ∃ z, z = u_1 := ⟨_, rfl⟩
  rw [← etn1] at hu_1 hP hD
  have h1 := hu_1
  have hP := hP.sub (ws' := xW a0 a1 a2 a3 a4 a5 a6 a7 a8 a9 cI k ut tb tn1 sc hs rn (rvV rn vs) wb ee we ++ gW g0 g1 g2 g3 g4 g5 g6 g7 g8 g9 g10 g11 g12 g13 cI cB k dr er pl un li ov tb tn rn vs wb ee we ei dg wo pa ch fi) [14, 15, 16, 17, 18, 19, 20, 21, 22, 23, 0, 1, 2, 3, 4, 5, 6, 7, 8, 9, 10, 11, 12, 13] rfl
  have hD := hD.sub (ws' := xW a0 a1 a2 a3 a4 a5 a6 a7 a8 a9 cI k ut tb tn1 sc hs rn (rvV rn vs) wb ee we ++ gW g0 g1 g2 g3 g4 g5 g6 g7 g8 g9 g10 g11 g12 g13 cI cB k dr er pl un li ov tb tn rn vs wb ee we ei dg wo pa ch fi) [14, 15, 16, 17, 18, 19, 20, 21, 22, 23, 0, 1, 2, 3, 4, 5, 6, 7, 8, 9, 10, 11, 12, 13] (by decide) rfl
  refine lv_aload_n (pc := 188) hx hb dL_law_188 rfl (lv_at hl 2 rfl) ?_
  refine lv_aload_n (pc := 189) hx hb dL_law_189 rfl (lv_at hl 0 rfl) ?_
  refine lv_iload_n (pc := 190) hx hb dL_law_190 rfl (lv_at hl 3 rfl) ?_
  refine lv_iconst (pc := 191) (v := nI 1) hx hb dL_law_191 (by decide) ?_
  refine lv_iadd (pc := 192) hx hb dL_law_192 ?_
  refine lv_cv (nI_add i 1) ?_
  refine x_sld (pc := 193) (k := i + 1) hx hb hX hbl hbA hS (by omega) (by omega) dL_law_193 ?_
  refine x_wri (pc := 194) (va_runV (As := [.int (xs (i + 1))]) (rest := [.int r_2]) ⟨hx, hb, hml, hown, hts⟩ (kX4_end l dC dI tt cI cB _ g0 g1 g2 g3 g4 g5 g6 g7 g8 g9 g10 g11 g12 g13 k dr er pl un li ov tb tn rn vs wb ee we ei dg wo pa ch fi (xs (i + 1)) htn) (cwV 1 hts gL_law_X4_end rfl rfl rfl (by decide +kernel) ⟨Nat.le_of_ble_eq_true rfl, Nat.le_of_ble_eq_true rfl⟩) (x_preV hS hE hK hP hD [10, 11, 12, 13, 14, 15, 16, 17, 18, 19, 20, 21, 22, 23] rfl (by decide) (va_free hD hS hA [10, 11, 12, 13, 14, 15, 16, 17, 18, 19, 20, 21, 22, 23] rfl) xR0 4 10 rfl rfl) rfl rfl hl.1 rfl (lv_room (Nat.le_of_ble_eq_true rfl)) dL_law_194 ⟨Nat.le_of_ble_eq_true rfl, Nat.le_of_ble_eq_true rfl⟩) hS hA hP hD [10, 11, 12, 13, 14, 15, 16, 17, 18, 19, 20, 21, 22, 23] [0, 1, 2, 3, 4, 5, 6, 7, 8, 9] rfl rfl (by decide) (by decide) (fun r_4 u_3 H locs hu_3 hP hD hS => ?_)
  obtain ⟨tn2, etn2⟩ : ∃ z, z = u_3 := ⟨_, rfl⟩
  rw [← etn2] at hu_3 hP hD
  have h2 := hu_3
  have hP := hP.sub (ws' := xW a0 a1 a2 a3 a4 a5 a6 a7 a8 a9 cI k ut tb tn1 sc hs rn (rvV rn vs) wb ee we ++ gW g0 g1 g2 g3 g4 g5 g6 g7 g8 g9 g10 g11 g12 g13 cI cB k dr er pl un li ov tb tn2 rn vs wb ee we ei dg wo pa ch fi) [0, 1, 2, 3, 4, 5, 6, 7, 8, 9, 10, 11, 12, 13, 14, 15, 16, 17, 18, 19, 20, 21, 22, 23] rfl
  have hD := hD.sub (ws' := xW a0 a1 a2 a3 a4 a5 a6 a7 a8 a9 cI k ut tb tn1 sc hs rn (rvV rn vs) wb ee we ++ gW g0 g1 g2 g3 g4 g5 g6 g7 g8 g9 g10 g11 g12 g13 cI cB k dr er pl un li ov tb tn2 rn vs wb ee we ei dg wo pa ch fi) [0, 1, 2, 3, 4, 5, 6, 7, 8, 9, 10, 11, 12, 13, 14, 15, 16, 17, 18, 19, 20, 21, 22, 23] (by decide) rfl
  refine lv_icmp_eq (pc := 197) (tgt := 551) hx hb dL_law_197 (by decide) (fun cc => ?_) (fun cc => ?_)
  · skip
    have hrr : r_2 = r_4 := h1.1.trans h2.1.symm
    have e1 : tn1 = tn2 := h1.2.trans h2.2.symm
    have htn1 : tn1 ≤ 1024 := by rw [h1.2]; exact end_le htn
    subst e1
    exact hk k ut tb tn1 sc hs rn wb ee we dr er pl un li ov vs ei dg wo pa ch fi H locs ls hsm htn1 hP hD hS (lv_sub hl [0, 1, 2, 3] rfl)
  · skip
    have hrr : r_2 = r_4 := h1.1.trans h2.1.symm
    have e1 : tn1 = tn2 := h1.2.trans h2.2.symm
    have htn1 : tn1 ≤ 1024 := by rw [h1.2]; exact end_le htn
    exact absurd hrr cc
set_option maxHeartbeats 4000000 in
set_option maxRecDepth 100000 in
theorem lw_c2 {p : Program} {e : Env} {s : State} {m : MethodId} {below : List Frame} {meth : Method} {c : Code} (l : Launch) {b L : Nat} {xs : Nat → Int32} {dC : Nat → ClassId} {dI : Nat → Nat → Nat} {tt : Nat → Nat} {cI cB : ClassId} {A : Nat → Prop} (hL : L ≤ 3072) (hx : p.tables.exec = Jvm.exec) (hb : c.code = cL_law) (hml : c.maxLocals = 4) (hown : s.vm.findClass RL = some m.cls) (hts : ∀ w ∈ wsL_law, w.before #[Value.ref b] s = true) (hX : va_X b L xs s s.heap) (hbl : b < s.heap.size) (hbA : ¬ A b) (hA : ∀ q : Nat, s.heap.size ≤ q → A q) (hK : va_K (dC, dI) vwCl [(cI, .int), (cB, .byte)] s) (hE : xE tt [] A s s.heap) (a0 a1 a2 a3 a4 a5 a6 a7 a8 a9 g0 g1 g2 g3 g4 g5 g6 g7 g8 g9 g10 g11 g12 g13 : Nat) (i : Nat) (hi : i + 6 ≤ L) (hk : lwK p l e s m below meth c b dC dI cI cB A a0 a1 a2 a3 a4 a5 a6 a7 a8 a9 g0 g1 g2 g3 g4 g5 g6 g7 g8 g9 g10 g11 g12 g13 551 i) : lwK p l e s m below meth c b dC dI cI cB A a0 a1 a2 a3 a4 a5 a6 a7 a8 a9 g0 g1 g2 g3 g4 g5 g6 g7 g8 g9 g10 g11 g12 g13 202 i := by
  intro k ut tb tn sc hs rn wb ee we dr er pl un li ov vs ei dg wo pa ch fi H locs ls hsm htn hP hD hS hl
  have hP : va_P (dC, dI) vwCl (xW a0 a1 a2 a3 a4 a5 a6 a7 a8 a9 cI k ut tb tn sc hs rn (rvV rn vs) wb ee we ++ gW g0 g1 g2 g3 g4 g5 g6 g7 g8 g9 g10 g11 g12 g13 cI cB k dr er pl un li ov tb tn rn vs wb ee we ei dg wo pa ch fi) _ := hP
  have hD : va_D A (xW a0 a1 a2 a3 a4 a5 a6 a7 a8 a9 cI k ut tb tn sc hs rn (rvV rn vs) wb ee we ++ gW g0 g1 g2 g3 g4 g5 g6 g7 g8 g9 g10 g11 g12 g13 cI cB k dr er pl un li ov tb tn rn vs wb ee we ei dg wo pa ch fi) := hD
  have hl : lv_has ls 4 [(0, .ref b), (1, .ref a0), (2, .ref g0), (3, .int (nI i))] := hl
  refine lv_aload_n (pc := 202) hx hb dL_law_202 rfl (lv_at hl 1 rfl) ?_
  refine x_roi (pc := 203) (va_runV (As := []) (rest := []) ⟨hx, hb, hml, hown, hts⟩ (kX3_taped l dC dI tt cI cB _ a0 a1 a2 a3 a4 a5 a6 a7 a8 a9 k ut tb tn sc hs rn (rvV rn vs) wb ee we  ) (cwV 0 hts gL_law_X3_taped rfl rfl rfl (by decide +kernel) ⟨Nat.le_of_ble_eq_true rfl, Nat.le_of_ble_eq_true rfl⟩) (x_preV hS hE hK hP hD [0, 1, 2, 3, 4, 5, 6, 7, 8, 9] rfl (by decide) (x_ro hS hA) xR0 3 0 rfl rfl) rfl rfl hl.1 rfl (lv_room (Nat.le_of_ble_eq_true rfl)) dL_law_203 ⟨Nat.le_of_ble_eq_true rfl, Nat.le_of_ble_eq_true rfl⟩) hS hA hP (fun r_1 H locs hr_1 hP hS => ?_)
  have h1 := hr_1
  refine lv_aload_n (pc := 206) hx hb dL_law_206 rfl (lv_at hl 2 rfl) ?_
  refine x_roi (pc := 207) (va_runV (As := []) (rest := [.int r_1]) ⟨hx, hb, hml, hown, hts⟩ (kX4_taped l dC dI tt cI cB _ g0 g1 g2 g3 g4 g5 g6 g7 g8 g9 g10 g11 g12 g13 k dr er pl un li ov tb tn rn vs wb ee we ei dg wo pa ch fi  ) (cwV 0 hts gL_law_X4_taped rfl rfl rfl (by decide +kernel) ⟨Nat.le_of_ble_eq_true rfl, Nat.le_of_ble_eq_true rfl⟩) (x_preV hS hE hK hP hD [10, 11, 12, 13, 14, 15, 16, 17, 18, 19, 20, 21, 22, 23] rfl (by decide) (x_ro hS hA) xR0 4 10 rfl rfl) rfl rfl hl.1 rfl (lv_room (Nat.le_of_ble_eq_true rfl)) dL_law_207 ⟨Nat.le_of_ble_eq_true rfl, Nat.le_of_ble_eq_true rfl⟩) hS hA hP (fun r_2 H locs hr_2 hP hS => ?_)
  have h2 := hr_2
  refine lv_icmp_eq (pc := 210) (tgt := 551) hx hb dL_law_210 (by decide) (fun cc => ?_) (fun cc => ?_)
  · skip
    have hrr : r_1 = r_2 := h1.trans h2.symm
    exact hk k ut tb tn sc hs rn wb ee we dr er pl un li ov vs ei dg wo pa ch fi H locs ls hsm htn hP hD hS (lv_sub hl [0, 1, 2, 3] rfl)
  · skip
    have hrr : r_1 = r_2 := h1.trans h2.symm
    exact absurd hrr cc
set_option maxHeartbeats 4000000 in
set_option maxRecDepth 100000 in
theorem lw_c3 {p : Program} {e : Env} {s : State} {m : MethodId} {below : List Frame} {meth : Method} {c : Code} (l : Launch) {b L : Nat} {xs : Nat → Int32} {dC : Nat → ClassId} {dI : Nat → Nat → Nat} {tt : Nat → Nat} {cI cB : ClassId} {A : Nat → Prop} (hL : L ≤ 3072) (hx : p.tables.exec = Jvm.exec) (hb : c.code = cL_law) (hml : c.maxLocals = 4) (hown : s.vm.findClass RL = some m.cls) (hts : ∀ w ∈ wsL_law, w.before #[Value.ref b] s = true) (hX : va_X b L xs s s.heap) (hbl : b < s.heap.size) (hbA : ¬ A b) (hA : ∀ q : Nat, s.heap.size ≤ q → A q) (hK : va_K (dC, dI) vwCl [(cI, .int), (cB, .byte)] s) (hE : xE tt [] A s s.heap) (a0 a1 a2 a3 a4 a5 a6 a7 a8 a9 g0 g1 g2 g3 g4 g5 g6 g7 g8 g9 g10 g11 g12 g13 : Nat) (i : Nat) (hi : i + 6 ≤ L) (hk : lwK p l e s m below meth c b dC dI cI cB A a0 a1 a2 a3 a4 a5 a6 a7 a8 a9 g0 g1 g2 g3 g4 g5 g6 g7 g8 g9 g10 g11 g12 g13 551 i) : lwK p l e s m below meth c b dC dI cI cB A a0 a1 a2 a3 a4 a5 a6 a7 a8 a9 g0 g1 g2 g3 g4 g5 g6 g7 g8 g9 g10 g11 g12 g13 215 i := by
  intro k ut tb tn sc hs rn wb ee we dr er pl un li ov vs ei dg wo pa ch fi H locs ls hsm htn hP hD hS hl
  have hP : va_P (dC, dI) vwCl (xW a0 a1 a2 a3 a4 a5 a6 a7 a8 a9 cI k ut tb tn sc hs rn (rvV rn vs) wb ee we ++ gW g0 g1 g2 g3 g4 g5 g6 g7 g8 g9 g10 g11 g12 g13 cI cB k dr er pl un li ov tb tn rn vs wb ee we ei dg wo pa ch fi) _ := hP
  have hD : va_D A (xW a0 a1 a2 a3 a4 a5 a6 a7 a8 a9 cI k ut tb tn sc hs rn (rvV rn vs) wb ee we ++ gW g0 g1 g2 g3 g4 g5 g6 g7 g8 g9 g10 g11 g12 g13 cI cB k dr er pl un li ov tb tn rn vs wb ee we ei dg wo pa ch fi) := hD
  have hl : lv_has ls 4 [(0, .ref b), (1, .ref a0), (2, .ref g0), (3, .int (nI i))] := hl
  refine lv_aload_n (pc := 215) hx hb dL_law_215 rfl (lv_at hl 1 rfl) ?_
  refine lv_aload_n (pc := 216) hx hb dL_law_216 rfl (lv_at hl 0 rfl) ?_
  refine lv_iload_n (pc := 217) hx hb dL_law_217 rfl (lv_at hl 3 rfl) ?_
  refine lv_iconst (pc := 218) (v := nI 1) hx hb dL_law_218 (by decide) ?_
  refine lv_iadd (pc := 219) hx hb dL_law_219 ?_
  refine lv_cv (nI_add i 1) ?_
  refine x_sld (pc := 220) (k := i + 1) hx hb hX hbl hbA hS (by omega) (by omega) dL_law_220 ?_
  refine x_wri (pc := 221) (va_runV (As := [.int (xs (i + 1))]) (rest := []) ⟨hx, hb, hml, hown, hts⟩ (kX3_pack l dC dI tt cI cB _ a0 a1 a2 a3 a4 a5 a6 a7 a8 a9 k ut tb tn sc hs rn (rvV rn vs) wb ee we (xs (i + 1)) htn) (cwV 1 hts gL_law_X3_pack rfl rfl rfl (by decide +kernel) ⟨Nat.le_of_ble_eq_true rfl, Nat.le_of_ble_eq_true rfl⟩) (x_preV hS hE hK hP hD [0, 1, 2, 3, 4, 5, 6, 7, 8, 9] rfl (by decide) (va_free hD hS hA [0, 1, 2, 3, 4, 5, 6, 7, 8, 9] rfl) xR0 3 0 rfl rfl) rfl rfl hl.1 rfl (lv_room (Nat.le_of_ble_eq_true rfl)) dL_law_221 ⟨Nat.le_of_ble_eq_true rfl, Nat.le_of_ble_eq_true rfl⟩) hS hA hP hD [0, 1, 2, 3, 4, 5, 6, 7, 8, 9] [10, 11, 12, 13, 14, 15, 16, 17, 18, 19, 20, 21, 22, 23] rfl rfl (by decide) (by decide) (fun r_2 u_1 H locs hu_1 hP hD hS => ?_)
  obtain ⟨tb1, tn1, sc1, hs1⟩ := u_1
  have h1 := hu_1
  have hP := hP.sub (ws' := xW a0 a1 a2 a3 a4 a5 a6 a7 a8 a9 cI k ut tb1 tn1 sc1 hs1 rn (rvV rn vs) wb ee we ++ gW g0 g1 g2 g3 g4 g5 g6 g7 g8 g9 g10 g11 g12 g13 cI cB k dr er pl un li ov tb tn rn vs wb ee we ei dg wo pa ch fi) [14, 15, 16, 17, 18, 19, 20, 21, 22, 23, 0, 1, 2, 3, 4, 5, 6, 7, 8, 9, 10, 11, 12, 13] rfl
  have hD := hD.sub (ws' := xW a0 a1 a2 a3 a4 a5 a6 a7 a8 a9 cI k ut tb1 tn1 sc1 hs1 rn (rvV rn vs) wb ee we ++ gW g0 g1 g2 g3 g4 g5 g6 g7 g8 g9 g10 g11 g12 g13 cI cB k dr er pl un li ov tb tn rn vs wb ee we ei dg wo pa ch fi) [14, 15, 16, 17, 18, 19, 20, 21, 22, 23, 0, 1, 2, 3, 4, 5, 6, 7, 8, 9, 10, 11, 12, 13] (by decide) rfl
  refine lv_aload_n (pc := 224) hx hb dL_law_224 rfl (lv_at hl 2 rfl) ?_
  refine lv_aload_n (pc := 225) hx hb dL_law_225 rfl (lv_at hl 0 rfl) ?_
  refine lv_iload_n (pc := 226) hx hb dL_law_226 rfl (lv_at hl 3 rfl) ?_
  refine lv_iconst (pc := 227) (v := nI 1) hx hb dL_law_227 (by decide) ?_
  refine lv_iadd (pc := 228) hx hb dL_law_228 ?_
  refine lv_cv (nI_add i 1) ?_
  refine x_sld (pc := 229) (k := i + 1) hx hb hX hbl hbA hS (by omega) (by omega) dL_law_229 ?_
  refine x_wri (pc := 230) (va_runV (As := [.int (xs (i + 1))]) (rest := [.int r_2]) ⟨hx, hb, hml, hown, hts⟩ (kX4_pack l dC dI tt cI cB _ g0 g1 g2 g3 g4 g5 g6 g7 g8 g9 g10 g11 g12 g13 k dr er pl un li ov tb tn rn vs wb ee we ei dg wo pa ch fi (xs (i + 1)) htn) (cwV 1 hts gL_law_X4_pack rfl rfl rfl (by decide +kernel) ⟨Nat.le_of_ble_eq_true rfl, Nat.le_of_ble_eq_true rfl⟩) (x_preV hS hE hK hP hD [10, 11, 12, 13, 14, 15, 16, 17, 18, 19, 20, 21, 22, 23] rfl (by decide) (va_free hD hS hA [10, 11, 12, 13, 14, 15, 16, 17, 18, 19, 20, 21, 22, 23] rfl) xR0 4 10 rfl rfl) rfl rfl hl.1 rfl (lv_room (Nat.le_of_ble_eq_true rfl)) dL_law_230 ⟨Nat.le_of_ble_eq_true rfl, Nat.le_of_ble_eq_true rfl⟩) hS hA hP hD [10, 11, 12, 13, 14, 15, 16, 17, 18, 19, 20, 21, 22, 23] [0, 1, 2, 3, 4, 5, 6, 7, 8, 9] rfl rfl (by decide) (by decide) (fun r_4 u_3 H locs hu_3 hP hD hS => ?_)
  obtain ⟨tp2, tn2, dg2, wo2, pa2, ch2⟩ := u_3
  have h2 := hu_3
  have hP := hP.sub (ws' := xW a0 a1 a2 a3 a4 a5 a6 a7 a8 a9 cI k ut tb1 tn1 sc1 hs1 rn (rvV rn vs) wb ee we ++ gW g0 g1 g2 g3 g4 g5 g6 g7 g8 g9 g10 g11 g12 g13 cI cB k dr er pl un li ov tp2 tn2 rn vs wb ee we ei dg2 wo2 pa2 ch2 fi) [0, 1, 2, 3, 4, 5, 6, 7, 8, 9, 10, 11, 12, 13, 14, 15, 16, 17, 18, 19, 20, 21, 22, 23] rfl
  have hD := hD.sub (ws' := xW a0 a1 a2 a3 a4 a5 a6 a7 a8 a9 cI k ut tb1 tn1 sc1 hs1 rn (rvV rn vs) wb ee we ++ gW g0 g1 g2 g3 g4 g5 g6 g7 g8 g9 g10 g11 g12 g13 cI cB k dr er pl un li ov tp2 tn2 rn vs wb ee we ei dg2 wo2 pa2 ch2 fi) [0, 1, 2, 3, 4, 5, 6, 7, 8, 9, 10, 11, 12, 13, 14, 15, 16, 17, 18, 19, 20, 21, 22, 23] (by decide) rfl
  refine lv_icmp_eq (pc := 233) (tgt := 551) hx hb dL_law_233 (by decide) (fun cc => ?_) (fun cc => ?_)
  · skip
    obtain ⟨hrr, e1, e2, htn1⟩ : r_2 = r_4 ∧ tb1 = tp2 ∧ tn1 = tn2 ∧ tn1 ≤ 1024 := by
      by_cases hf : tn ≤ 984
      · rw [if_pos hf] at h1 h2; have h9 : tn1 = _ := h1.2.2; exact ⟨h1.1.trans h2.1.symm, h1.2.1.trans h2.2.1.symm, h1.2.2.trans h2.2.2.symm, by rw [h9]; omega⟩
      · rw [if_neg hf] at h1 h2; have h9 : tn1 = _ := h1.2.2; exact ⟨h1.1.trans h2.1.symm, h1.2.1.trans h2.2.1.symm, h1.2.2.trans h2.2.2.symm, by rw [h9]; exact htn⟩
    subst e1 e2
    exact hk k ut tb1 tn1 sc1 hs1 rn wb ee we dr er pl un li ov vs ei dg2 wo2 pa2 ch2 fi H locs ls hsm htn1 hP hD hS (lv_sub hl [0, 1, 2, 3] rfl)
  · skip
    obtain ⟨hrr, e1, e2, htn1⟩ : r_2 = r_4 ∧ tb1 = tp2 ∧ tn1 = tn2 ∧ tn1 ≤ 1024 := by
      by_cases hf : tn ≤ 984
      · rw [if_pos hf] at h1 h2; have h9 : tn1 = _ := h1.2.2; exact ⟨h1.1.trans h2.1.symm, h1.2.1.trans h2.2.1.symm, h1.2.2.trans h2.2.2.symm, by rw [h9]; omega⟩
      · rw [if_neg hf] at h1 h2; have h9 : tn1 = _ := h1.2.2; exact ⟨h1.1.trans h2.1.symm, h1.2.1.trans h2.2.1.symm, h1.2.2.trans h2.2.2.symm, by rw [h9]; exact htn⟩
    exact absurd hrr cc
set_option maxHeartbeats 4000000 in
set_option maxRecDepth 100000 in
theorem lw_c4 {p : Program} {e : Env} {s : State} {m : MethodId} {below : List Frame} {meth : Method} {c : Code} (l : Launch) {b L : Nat} {xs : Nat → Int32} {dC : Nat → ClassId} {dI : Nat → Nat → Nat} {tt : Nat → Nat} {cI cB : ClassId} {A : Nat → Prop} (hL : L ≤ 3072) (hx : p.tables.exec = Jvm.exec) (hb : c.code = cL_law) (hml : c.maxLocals = 4) (hown : s.vm.findClass RL = some m.cls) (hts : ∀ w ∈ wsL_law, w.before #[Value.ref b] s = true) (hX : va_X b L xs s s.heap) (hbl : b < s.heap.size) (hbA : ¬ A b) (hA : ∀ q : Nat, s.heap.size ≤ q → A q) (hK : va_K (dC, dI) vwCl [(cI, .int), (cB, .byte)] s) (hE : xE tt [] A s s.heap) (a0 a1 a2 a3 a4 a5 a6 a7 a8 a9 g0 g1 g2 g3 g4 g5 g6 g7 g8 g9 g10 g11 g12 g13 : Nat) (i : Nat) (hi : i + 6 ≤ L) (hk : lwK p l e s m below meth c b dC dI cI cB A a0 a1 a2 a3 a4 a5 a6 a7 a8 a9 g0 g1 g2 g3 g4 g5 g6 g7 g8 g9 g10 g11 g12 g13 551 i) : lwK p l e s m below meth c b dC dI cI cB A a0 a1 a2 a3 a4 a5 a6 a7 a8 a9 g0 g1 g2 g3 g4 g5 g6 g7 g8 g9 g10 g11 g12 g13 238 i := by
  intro k ut tb tn sc hs rn wb ee we dr er pl un li ov vs ei dg wo pa ch fi H locs ls hsm htn hP hD hS hl
  have hP : va_P (dC, dI) vwCl (xW a0 a1 a2 a3 a4 a5 a6 a7 a8 a9 cI k ut tb tn sc hs rn (rvV rn vs) wb ee we ++ gW g0 g1 g2 g3 g4 g5 g6 g7 g8 g9 g10 g11 g12 g13 cI cB k dr er pl un li ov tb tn rn vs wb ee we ei dg wo pa ch fi) _ := hP
  have hD : va_D A (xW a0 a1 a2 a3 a4 a5 a6 a7 a8 a9 cI k ut tb tn sc hs rn (rvV rn vs) wb ee we ++ gW g0 g1 g2 g3 g4 g5 g6 g7 g8 g9 g10 g11 g12 g13 cI cB k dr er pl un li ov tb tn rn vs wb ee we ei dg wo pa ch fi) := hD
  have hl : lv_has ls 4 [(0, .ref b), (1, .ref a0), (2, .ref g0), (3, .int (nI i))] := hl
  refine lv_aload_n (pc := 238) hx hb dL_law_238 rfl (lv_at hl 1 rfl) ?_
  refine lv_aload_n (pc := 239) hx hb dL_law_239 rfl (lv_at hl 0 rfl) ?_
  refine lv_iload_n (pc := 240) hx hb dL_law_240 rfl (lv_at hl 3 rfl) ?_
  refine lv_iconst (pc := 241) (v := nI 1) hx hb dL_law_241 (by decide) ?_
  refine lv_iadd (pc := 242) hx hb dL_law_242 ?_
  refine lv_cv (nI_add i 1) ?_
  refine x_sld (pc := 243) (k := i + 1) hx hb hX hbl hbA hS (by omega) (by omega) dL_law_243 ?_
  refine x_wri (pc := 244) (va_runV (As := [.int (xs (i + 1))]) (rest := []) ⟨hx, hb, hml, hown, hts⟩ (kX3_install l dC dI tt cI cB _ a0 a1 a2 a3 a4 a5 a6 a7 a8 a9 k ut tb tn sc hs rn (rvV rn vs) wb ee we (xs (i + 1)) hsm.1 hsm.2 htn) (cwV 1 hts gL_law_X3_install rfl rfl rfl (by decide +kernel) ⟨Nat.le_of_ble_eq_true rfl, Nat.le_of_ble_eq_true rfl⟩) (x_preV hS hE hK hP hD [0, 1, 2, 3, 4, 5, 6, 7, 8, 9] rfl (by decide) (va_free hD hS hA [0, 1, 2, 3, 4, 5, 6, 7, 8, 9] rfl) xR0 3 0 rfl rfl) rfl rfl hl.1 rfl (lv_room (Nat.le_of_ble_eq_true rfl)) dL_law_244 ⟨Nat.le_of_ble_eq_true rfl, Nat.le_of_ble_eq_true rfl⟩) hS hA hP hD [0, 1, 2, 3, 4, 5, 6, 7, 8, 9] [10, 11, 12, 13, 14, 15, 16, 17, 18, 19, 20, 21, 22, 23] rfl rfl (by decide) (by decide) (fun r_2 u_1 H locs hu_1 hP hD hS => ?_)
  obtain ⟨k1, ut1, rn1, rv1⟩ := u_1
  have h1 := hu_1
  have hP := hP.sub (ws' := xW a0 a1 a2 a3 a4 a5 a6 a7 a8 a9 cI k1 ut1 tb 0 sc hs rn1 rv1 wb ee we ++ gW g0 g1 g2 g3 g4 g5 g6 g7 g8 g9 g10 g11 g12 g13 cI cB k dr er pl un li ov tb tn rn vs wb ee we ei dg wo pa ch fi) [14, 15, 16, 17, 18, 19, 20, 21, 22, 23, 0, 1, 2, 3, 4, 5, 6, 7, 8, 9, 10, 11, 12, 13] rfl
  have hD := hD.sub (ws' := xW a0 a1 a2 a3 a4 a5 a6 a7 a8 a9 cI k1 ut1 tb 0 sc hs rn1 rv1 wb ee we ++ gW g0 g1 g2 g3 g4 g5 g6 g7 g8 g9 g10 g11 g12 g13 cI cB k dr er pl un li ov tb tn rn vs wb ee we ei dg wo pa ch fi) [14, 15, 16, 17, 18, 19, 20, 21, 22, 23, 0, 1, 2, 3, 4, 5, 6, 7, 8, 9, 10, 11, 12, 13] (by decide) rfl
  refine lv_aload_n (pc := 247) hx hb dL_law_247 rfl (lv_at hl 2 rfl) ?_
  refine lv_aload_n (pc := 248) hx hb dL_law_248 rfl (lv_at hl 0 rfl) ?_
  refine lv_iload_n (pc := 249) hx hb dL_law_249 rfl (lv_at hl 3 rfl) ?_
  refine lv_iconst (pc := 250) (v := nI 1) hx hb dL_law_250 (by decide) ?_
  refine lv_iadd (pc := 251) hx hb dL_law_251 ?_
  refine lv_cv (nI_add i 1) ?_
  refine x_sld (pc := 252) (k := i + 1) hx hb hX hbl hbA hS (by omega) (by omega) dL_law_252 ?_
  refine x_wri (pc := 253) (va_runV (As := [.int (xs (i + 1))]) (rest := [.int r_2]) ⟨hx, hb, hml, hown, hts⟩ (kX4_install l dC dI tt cI cB _ g0 g1 g2 g3 g4 g5 g6 g7 g8 g9 g10 g11 g12 g13 k dr er pl un li ov tb tn rn vs wb ee we ei dg wo pa ch fi (xs (i + 1)) hsm.1 hsm.2 htn) (cwV 1 hts gL_law_X4_install rfl rfl rfl (by decide +kernel) ⟨Nat.le_of_ble_eq_true rfl, Nat.le_of_ble_eq_true rfl⟩) (x_preV hS hE hK hP hD [10, 11, 12, 13, 14, 15, 16, 17, 18, 19, 20, 21, 22, 23] rfl (by decide) (va_free hD hS hA [10, 11, 12, 13, 14, 15, 16, 17, 18, 19, 20, 21, 22, 23] rfl) xR0 4 10 rfl rfl) rfl rfl hl.1 rfl (lv_room (Nat.le_of_ble_eq_true rfl)) dL_law_253 ⟨Nat.le_of_ble_eq_true rfl, Nat.le_of_ble_eq_true rfl⟩) hS hA hP hD [10, 11, 12, 13, 14, 15, 16, 17, 18, 19, 20, 21, 22, 23] [0, 1, 2, 3, 4, 5, 6, 7, 8, 9] rfl rfl (by decide) (by decide) (fun r_4 u_3 H locs hu_3 hP hD hS => ?_)
  obtain ⟨k2, dr2, er2, pl2, un2, li2, ov2, rn2, ex2, ei2, vs2, bo2, wr2, dg2, wo2, pa2, ch2⟩ := u_3
  have h2 := hu_3
  have hP := hP.sub (ws' := xW a0 a1 a2 a3 a4 a5 a6 a7 a8 a9 cI k1 ut1 tb 0 sc hs rn1 rv1 wb ee we ++ gW g0 g1 g2 g3 g4 g5 g6 g7 g8 g9 g10 g11 g12 g13 cI cB k2 dr2 er2 pl2 un2 li2 ov2 tb 0 rn2 vs2 bo2 ex2 wr2 ei2 dg2 wo2 pa2 ch2 fi) [0, 1, 2, 3, 4, 5, 6, 7, 8, 9, 10, 11, 12, 13, 14, 15, 16, 17, 18, 19, 20, 21, 22, 23] rfl
  have hD := hD.sub (ws' := xW a0 a1 a2 a3 a4 a5 a6 a7 a8 a9 cI k1 ut1 tb 0 sc hs rn1 rv1 wb ee we ++ gW g0 g1 g2 g3 g4 g5 g6 g7 g8 g9 g10 g11 g12 g13 cI cB k2 dr2 er2 pl2 un2 li2 ov2 tb 0 rn2 vs2 bo2 ex2 wr2 ei2 dg2 wo2 pa2 ch2 fi) [0, 1, 2, 3, 4, 5, 6, 7, 8, 9, 10, 11, 12, 13, 14, 15, 16, 17, 18, 19, 20, 21, 22, 23] (by decide) rfl
  refine lv_icmp_eq (pc := 256) (tgt := 551) hx hb dL_law_256 (by decide) (fun cc => ?_) (fun cc => ?_)
  · skip
    have hk1 : kSm k1 := by have h3 := congrArg (fun z => z.2.1) h1; rw [show k1 = (insR k tb tn rn (rvV rn vs) (xs (i + 1))).2.1 from h3]; exact insR_sm hsm _ _ _ _ _
    have h3 := h1.trans h2.1.symm
    obtain ⟨hrr, e1, e2, e3⟩ : r_2 = r_4 ∧ k1 = k2 ∧ rn1 = rn2 ∧ rv1 = rvV rn2 vs2 := ⟨congrArg (fun z => z.1) h3, congrArg (fun z => z.2.1) h3, congrArg (fun z => z.2.2.1) h3, congrArg (fun z => z.2.2.2) h3⟩
    have e4 : ee = ex2 := h2.2.1.symm
    have e5 : wb = bo2 := h2.2.2.1.symm
    have e6 : we = wr2 := h2.2.2.2.symm
    subst e1 e2 e3 e4 e5 e6
    exact hk k1 ut1 tb 0 sc hs rn1 wb ee we dr2 er2 pl2 un2 li2 ov2 vs2 ei2 dg2 wo2 pa2 ch2 fi H locs ls hk1 (by omega) hP hD hS (lv_sub hl [0, 1, 2, 3] rfl)
  · skip
    have hk1 : kSm k1 := by have h3 := congrArg (fun z => z.2.1) h1; rw [show k1 = (insR k tb tn rn (rvV rn vs) (xs (i + 1))).2.1 from h3]; exact insR_sm hsm _ _ _ _ _
    have h3 := h1.trans h2.1.symm
    obtain ⟨hrr, e1, e2, e3⟩ : r_2 = r_4 ∧ k1 = k2 ∧ rn1 = rn2 ∧ rv1 = rvV rn2 vs2 := ⟨congrArg (fun z => z.1) h3, congrArg (fun z => z.2.1) h3, congrArg (fun z => z.2.2.1) h3, congrArg (fun z => z.2.2.2) h3⟩
    have e4 : ee = ex2 := h2.2.1.symm
    have e5 : wb = bo2 := h2.2.2.1.symm
    have e6 : we = wr2 := h2.2.2.2.symm
    exact absurd hrr cc
set_option maxHeartbeats 4000000 in
set_option maxRecDepth 100000 in
theorem lw_c5 {p : Program} {e : Env} {s : State} {m : MethodId} {below : List Frame} {meth : Method} {c : Code} (l : Launch) {b L : Nat} {xs : Nat → Int32} {dC : Nat → ClassId} {dI : Nat → Nat → Nat} {tt : Nat → Nat} {cI cB : ClassId} {A : Nat → Prop} (hL : L ≤ 3072) (hx : p.tables.exec = Jvm.exec) (hb : c.code = cL_law) (hml : c.maxLocals = 4) (hown : s.vm.findClass RL = some m.cls) (hts : ∀ w ∈ wsL_law, w.before #[Value.ref b] s = true) (hX : va_X b L xs s s.heap) (hbl : b < s.heap.size) (hbA : ¬ A b) (hA : ∀ q : Nat, s.heap.size ≤ q → A q) (hK : va_K (dC, dI) vwCl [(cI, .int), (cB, .byte)] s) (hE : xE tt [] A s s.heap) (a0 a1 a2 a3 a4 a5 a6 a7 a8 a9 g0 g1 g2 g3 g4 g5 g6 g7 g8 g9 g10 g11 g12 g13 : Nat) (i : Nat) (hi : i + 6 ≤ L) (hk : lwK p l e s m below meth c b dC dI cI cB A a0 a1 a2 a3 a4 a5 a6 a7 a8 a9 g0 g1 g2 g3 g4 g5 g6 g7 g8 g9 g10 g11 g12 g13 551 i) : lwK p l e s m below meth c b dC dI cI cB A a0 a1 a2 a3 a4 a5 a6 a7 a8 a9 g0 g1 g2 g3 g4 g5 g6 g7 g8 g9 g10 g11 g12 g13 261 i := by
  intro k ut tb tn sc hs rn wb ee we dr er pl un li ov vs ei dg wo pa ch fi H locs ls hsm htn hP hD hS hl
  have hP : va_P (dC, dI) vwCl (xW a0 a1 a2 a3 a4 a5 a6 a7 a8 a9 cI k ut tb tn sc hs rn (rvV rn vs) wb ee we ++ gW g0 g1 g2 g3 g4 g5 g6 g7 g8 g9 g10 g11 g12 g13 cI cB k dr er pl un li ov tb tn rn vs wb ee we ei dg wo pa ch fi) _ := hP
  have hD : va_D A (xW a0 a1 a2 a3 a4 a5 a6 a7 a8 a9 cI k ut tb tn sc hs rn (rvV rn vs) wb ee we ++ gW g0 g1 g2 g3 g4 g5 g6 g7 g8 g9 g10 g11 g12 g13 cI cB k dr er pl un li ov tb tn rn vs wb ee we ei dg wo pa ch fi) := hD
  have hl : lv_has ls 4 [(0, .ref b), (1, .ref a0), (2, .ref g0), (3, .int (nI i))] := hl
  refine lv_aload_n (pc := 261) hx hb dL_law_261 rfl (lv_at hl 1 rfl) ?_
  refine lv_aload_n (pc := 262) hx hb dL_law_262 rfl (lv_at hl 0 rfl) ?_
  refine lv_iload_n (pc := 263) hx hb dL_law_263 rfl (lv_at hl 3 rfl) ?_
  refine lv_iconst (pc := 264) (v := nI 1) hx hb dL_law_264 (by decide) ?_
  refine lv_iadd (pc := 265) hx hb dL_law_265 ?_
  refine lv_cv (nI_add i 1) ?_
  refine x_sld (pc := 266) (k := i + 1) hx hb hX hbl hbA hS (by omega) (by omega) dL_law_266 ?_
  refine lv_if_eq (pc := 267) (tgt := 274) hx hb dL_law_267 (by decide) (fun ca => ?_) (fun ca => ?_)
  · skip
    refine lv_iconst (pc := 274) (v := nI 0) hx hb dL_law_274 (by decide) ?_
    refine lv_cv (show nI 0 = bI false from rfl) ?_
    refine x_wri (pc := 275) (va_runV (As := [.int (bI false)]) (rest := []) ⟨hx, hb, hml, hown, hts⟩ (kX3_request l dC dI tt cI cB _ a0 a1 a2 a3 a4 a5 a6 a7 a8 a9 k ut tb tn sc hs rn (rvV rn vs) wb ee we false hsm.1 hsm.2) (cwV 1 hts gL_law_X3_request rfl rfl rfl (by decide +kernel) ⟨Nat.le_of_ble_eq_true rfl, Nat.le_of_ble_eq_true rfl⟩) (x_preV hS hE hK hP hD [0, 1, 2, 3, 4, 5, 6, 7, 8, 9] rfl (by decide) (va_free hD hS hA [0, 1, 2, 3, 4, 5, 6, 7, 8, 9] rfl) xR0 3 0 rfl rfl) rfl rfl hl.1 rfl (lv_room (Nat.le_of_ble_eq_true rfl)) dL_law_275 ⟨Nat.le_of_ble_eq_true rfl, Nat.le_of_ble_eq_true rfl⟩) hS hA hP hD [0, 1, 2, 3, 4, 5, 6, 7, 8, 9] [10, 11, 12, 13, 14, 15, 16, 17, 18, 19, 20, 21, 22, 23] rfl rfl (by decide) (by decide) (fun r_2 u_1 H locs hu_1 hP hD hS => ?_)
    obtain ⟨k1, ut1, rn1, rv1⟩ := u_1
    have h1 := hu_1
    have hP := hP.sub (ws' := xW a0 a1 a2 a3 a4 a5 a6 a7 a8 a9 cI k1 ut1 tb tn sc hs rn1 rv1 wb ee we ++ gW g0 g1 g2 g3 g4 g5 g6 g7 g8 g9 g10 g11 g12 g13 cI cB k dr er pl un li ov tb tn rn vs wb ee we ei dg wo pa ch fi) [14, 15, 16, 17, 18, 19, 20, 21, 22, 23, 0, 1, 2, 3, 4, 5, 6, 7, 8, 9, 10, 11, 12, 13] rfl
    have hD := hD.sub (ws' := xW a0 a1 a2 a3 a4 a5 a6 a7 a8 a9 cI k1 ut1 tb tn sc hs rn1 rv1 wb ee we ++ gW g0 g1 g2 g3 g4 g5 g6 g7 g8 g9 g10 g11 g12 g13 cI cB k dr er pl un li ov tb tn rn vs wb ee we ei dg wo pa ch fi) [14, 15, 16, 17, 18, 19, 20, 21, 22, 23, 0, 1, 2, 3, 4, 5, 6, 7, 8, 9, 10, 11, 12, 13] (by decide) rfl
    refine lv_aload_n (pc := 278) hx hb dL_law_278 rfl (lv_at hl 2 rfl) ?_
    refine lv_aload_n (pc := 279) hx hb dL_law_279 rfl (lv_at hl 0 rfl) ?_
    refine lv_iload_n (pc := 280) hx hb dL_law_280 rfl (lv_at hl 3 rfl) ?_
    refine lv_iconst (pc := 281) (v := nI 1) hx hb dL_law_281 (by decide) ?_
    refine lv_iadd (pc := 282) hx hb dL_law_282 ?_
    refine lv_cv (nI_add i 1) ?_
    refine x_sld (pc := 283) (k := i + 1) hx hb hX hbl hbA hS (by omega) (by omega) dL_law_283 ?_
    refine lv_if_eq (pc := 284) (tgt := 291) hx hb dL_law_284 (by decide) (fun cb => ?_) (fun cb => ?_)
    · skip
      refine lv_iconst (pc := 291) (v := nI 0) hx hb dL_law_291 (by decide) ?_
      refine lv_cv (show nI 0 = bI false from rfl) ?_
      refine x_wri (pc := 292) (va_runV (As := [.int (bI false)]) (rest := [.int r_2]) ⟨hx, hb, hml, hown, hts⟩ (kX4_request l dC dI tt cI cB _ g0 g1 g2 g3 g4 g5 g6 g7 g8 g9 g10 g11 g12 g13 k dr er pl un li ov tb tn rn vs wb ee we ei dg wo pa ch fi false hsm.1 hsm.2) (cwV 1 hts gL_law_X4_request rfl rfl rfl (by decide +kernel) ⟨Nat.le_of_ble_eq_true rfl, Nat.le_of_ble_eq_true rfl⟩) (x_preV hS hE hK hP hD [10, 11, 12, 13, 14, 15, 16, 17, 18, 19, 20, 21, 22, 23] rfl (by decide) (va_free hD hS hA [10, 11, 12, 13, 14, 15, 16, 17, 18, 19, 20, 21, 22, 23] rfl) xR0 4 10 rfl rfl) rfl rfl hl.1 rfl (lv_room (Nat.le_of_ble_eq_true rfl)) dL_law_292 ⟨Nat.le_of_ble_eq_true rfl, Nat.le_of_ble_eq_true rfl⟩) hS hA hP hD [10, 11, 12, 13, 14, 15, 16, 17, 18, 19, 20, 21, 22, 23] [0, 1, 2, 3, 4, 5, 6, 7, 8, 9] rfl rfl (by decide) (by decide) (fun r_4 u_3 H locs hu_3 hP hD hS => ?_)
      obtain ⟨k2, dr2, er2, pl2, un2, li2, ov2, rn2, ex2, ei2, vs2, bo2, wr2, dg2, wo2, pa2, ch2⟩ := u_3
      have h2 := hu_3
      have hP := hP.sub (ws' := xW a0 a1 a2 a3 a4 a5 a6 a7 a8 a9 cI k1 ut1 tb tn sc hs rn1 rv1 wb ee we ++ gW g0 g1 g2 g3 g4 g5 g6 g7 g8 g9 g10 g11 g12 g13 cI cB k2 dr2 er2 pl2 un2 li2 ov2 tb tn rn2 vs2 bo2 ex2 wr2 ei2 dg2 wo2 pa2 ch2 fi) [0, 1, 2, 3, 4, 5, 6, 7, 8, 9, 10, 11, 12, 13, 14, 15, 16, 17, 18, 19, 20, 21, 22, 23] rfl
      have hD := hD.sub (ws' := xW a0 a1 a2 a3 a4 a5 a6 a7 a8 a9 cI k1 ut1 tb tn sc hs rn1 rv1 wb ee we ++ gW g0 g1 g2 g3 g4 g5 g6 g7 g8 g9 g10 g11 g12 g13 cI cB k2 dr2 er2 pl2 un2 li2 ov2 tb tn rn2 vs2 bo2 ex2 wr2 ei2 dg2 wo2 pa2 ch2 fi) [0, 1, 2, 3, 4, 5, 6, 7, 8, 9, 10, 11, 12, 13, 14, 15, 16, 17, 18, 19, 20, 21, 22, 23] (by decide) rfl
      refine lv_icmp_eq (pc := 295) (tgt := 551) hx hb dL_law_295 (by decide) (fun cc => ?_) (fun cc => ?_)
      · skip
        have hk1 : kSm k1 := by have h3 := congrArg (fun z => z.2.1) h1; rw [show k1 = (reqR k rn (rvV rn vs) false).2.1 from h3]; exact reqR_sm hsm _ _ _
        have h3 := h1.trans h2.1.symm
        obtain ⟨hrr, e1, e2, e3⟩ : r_2 = r_4 ∧ k1 = k2 ∧ rn1 = rn2 ∧ rv1 = rvV rn2 vs2 := ⟨congrArg (fun z => z.1) h3, congrArg (fun z => z.2.1) h3, congrArg (fun z => z.2.2.1) h3, congrArg (fun z => z.2.2.2) h3⟩
        have e4 : ee = ex2 := h2.2.1.symm
        have e5 : wb = bo2 := h2.2.2.1.symm
        have e6 : we = wr2 := h2.2.2.2.symm
        subst e1 e2 e3 e4 e5 e6
        exact hk k1 ut1 tb tn sc hs rn1 wb ee we dr2 er2 pl2 un2 li2 ov2 vs2 ei2 dg2 wo2 pa2 ch2 fi H locs ls hk1 htn hP hD hS (lv_sub hl [0, 1, 2, 3] rfl)
      · skip
        have hk1 : kSm k1 := by have h3 := congrArg (fun z => z.2.1) h1; rw [show k1 = (reqR k rn (rvV rn vs) false).2.1 from h3]; exact reqR_sm hsm _ _ _
        have h3 := h1.trans h2.1.symm
        obtain ⟨hrr, e1, e2, e3⟩ : r_2 = r_4 ∧ k1 = k2 ∧ rn1 = rn2 ∧ rv1 = rvV rn2 vs2 := ⟨congrArg (fun z => z.1) h3, congrArg (fun z => z.2.1) h3, congrArg (fun z => z.2.2.1) h3, congrArg (fun z => z.2.2.2) h3⟩
        have e4 : ee = ex2 := h2.2.1.symm
        have e5 : wb = bo2 := h2.2.2.1.symm
        have e6 : we = wr2 := h2.2.2.2.symm
        exact absurd hrr cc
    · skip
      exact absurd ca cb
  · skip
    refine lv_iconst (pc := 270) (v := nI 1) hx hb dL_law_270 (by decide) ?_
    refine lv_goto (pc := 271) (tgt := 275) hx hb dL_law_271 (by decide) ?_
    refine lv_cv (show nI 1 = bI true from rfl) ?_
    refine x_wri (pc := 275) (va_runV (As := [.int (bI true)]) (rest := []) ⟨hx, hb, hml, hown, hts⟩ (kX3_request l dC dI tt cI cB _ a0 a1 a2 a3 a4 a5 a6 a7 a8 a9 k ut tb tn sc hs rn (rvV rn vs) wb ee we true hsm.1 hsm.2) (cwV 1 hts gL_law_X3_request rfl rfl rfl (by decide +kernel) ⟨Nat.le_of_ble_eq_true rfl, Nat.le_of_ble_eq_true rfl⟩) (x_preV hS hE hK hP hD [0, 1, 2, 3, 4, 5, 6, 7, 8, 9] rfl (by decide) (va_free hD hS hA [0, 1, 2, 3, 4, 5, 6, 7, 8, 9] rfl) xR0 3 0 rfl rfl) rfl rfl hl.1 rfl (lv_room (Nat.le_of_ble_eq_true rfl)) dL_law_275 ⟨Nat.le_of_ble_eq_true rfl, Nat.le_of_ble_eq_true rfl⟩) hS hA hP hD [0, 1, 2, 3, 4, 5, 6, 7, 8, 9] [10, 11, 12, 13, 14, 15, 16, 17, 18, 19, 20, 21, 22, 23] rfl rfl (by decide) (by decide) (fun r_6 u_5 H locs hu_5 hP hD hS => ?_)
    obtain ⟨k1, ut1, rn1, rv1⟩ := u_5
    have h1 := hu_5
    have hP := hP.sub (ws' := xW a0 a1 a2 a3 a4 a5 a6 a7 a8 a9 cI k1 ut1 tb tn sc hs rn1 rv1 wb ee we ++ gW g0 g1 g2 g3 g4 g5 g6 g7 g8 g9 g10 g11 g12 g13 cI cB k dr er pl un li ov tb tn rn vs wb ee we ei dg wo pa ch fi) [14, 15, 16, 17, 18, 19, 20, 21, 22, 23, 0, 1, 2, 3, 4, 5, 6, 7, 8, 9, 10, 11, 12, 13] rfl
    have hD := hD.sub (ws' := xW a0 a1 a2 a3 a4 a5 a6 a7 a8 a9 cI k1 ut1 tb tn sc hs rn1 rv1 wb ee we ++ gW g0 g1 g2 g3 g4 g5 g6 g7 g8 g9 g10 g11 g12 g13 cI cB k dr er pl un li ov tb tn rn vs wb ee we ei dg wo pa ch fi) [14, 15, 16, 17, 18, 19, 20, 21, 22, 23, 0, 1, 2, 3, 4, 5, 6, 7, 8, 9, 10, 11, 12, 13] (by decide) rfl
    refine lv_aload_n (pc := 278) hx hb dL_law_278 rfl (lv_at hl 2 rfl) ?_
    refine lv_aload_n (pc := 279) hx hb dL_law_279 rfl (lv_at hl 0 rfl) ?_
    refine lv_iload_n (pc := 280) hx hb dL_law_280 rfl (lv_at hl 3 rfl) ?_
    refine lv_iconst (pc := 281) (v := nI 1) hx hb dL_law_281 (by decide) ?_
    refine lv_iadd (pc := 282) hx hb dL_law_282 ?_
    refine lv_cv (nI_add i 1) ?_
    refine x_sld (pc := 283) (k := i + 1) hx hb hX hbl hbA hS (by omega) (by omega) dL_law_283 ?_
    refine lv_if_eq (pc := 284) (tgt := 291) hx hb dL_law_284 (by decide) (fun cb => ?_) (fun cb => ?_)
    · skip
      exact absurd cb ca
    · skip
      refine lv_iconst (pc := 287) (v := nI 1) hx hb dL_law_287 (by decide) ?_
      refine lv_goto (pc := 288) (tgt := 292) hx hb dL_law_288 (by decide) ?_
      refine lv_cv (show nI 1 = bI true from rfl) ?_
      refine x_wri (pc := 292) (va_runV (As := [.int (bI true)]) (rest := [.int r_6]) ⟨hx, hb, hml, hown, hts⟩ (kX4_request l dC dI tt cI cB _ g0 g1 g2 g3 g4 g5 g6 g7 g8 g9 g10 g11 g12 g13 k dr er pl un li ov tb tn rn vs wb ee we ei dg wo pa ch fi true hsm.1 hsm.2) (cwV 1 hts gL_law_X4_request rfl rfl rfl (by decide +kernel) ⟨Nat.le_of_ble_eq_true rfl, Nat.le_of_ble_eq_true rfl⟩) (x_preV hS hE hK hP hD [10, 11, 12, 13, 14, 15, 16, 17, 18, 19, 20, 21, 22, 23] rfl (by decide) (va_free hD hS hA [10, 11, 12, 13, 14, 15, 16, 17, 18, 19, 20, 21, 22, 23] rfl) xR0 4 10 rfl rfl) rfl rfl hl.1 rfl (lv_room (Nat.le_of_ble_eq_true rfl)) dL_law_292 ⟨Nat.le_of_ble_eq_true rfl, Nat.le_of_ble_eq_true rfl⟩) hS hA hP hD [10, 11, 12, 13, 14, 15, 16, 17, 18, 19, 20, 21, 22, 23] [0, 1, 2, 3, 4, 5, 6, 7, 8, 9] rfl rfl (by decide) (by decide) (fun r_8 u_7 H locs hu_7 hP hD hS => ?_)
      obtain ⟨k2, dr2, er2, pl2, un2, li2, ov2, rn2, ex2, ei2, vs2, bo2, wr2, dg2, wo2, pa2, ch2⟩ := u_7
      have h2 := hu_7
      have hP := hP.sub (ws' := xW a0 a1 a2 a3 a4 a5 a6 a7 a8 a9 cI k1 ut1 tb tn sc hs rn1 rv1 wb ee we ++ gW g0 g1 g2 g3 g4 g5 g6 g7 g8 g9 g10 g11 g12 g13 cI cB k2 dr2 er2 pl2 un2 li2 ov2 tb tn rn2 vs2 bo2 ex2 wr2 ei2 dg2 wo2 pa2 ch2 fi) [0, 1, 2, 3, 4, 5, 6, 7, 8, 9, 10, 11, 12, 13, 14, 15, 16, 17, 18, 19, 20, 21, 22, 23] rfl
      have hD := hD.sub (ws' := xW a0 a1 a2 a3 a4 a5 a6 a7 a8 a9 cI k1 ut1 tb tn sc hs rn1 rv1 wb ee we ++ gW g0 g1 g2 g3 g4 g5 g6 g7 g8 g9 g10 g11 g12 g13 cI cB k2 dr2 er2 pl2 un2 li2 ov2 tb tn rn2 vs2 bo2 ex2 wr2 ei2 dg2 wo2 pa2 ch2 fi) [0, 1, 2, 3, 4, 5, 6, 7, 8, 9, 10, 11, 12, 13, 14, 15, 16, 17, 18, 19, 20, 21, 22, 23] (by decide) rfl
      refine lv_icmp_eq (pc := 295) (tgt := 551) hx hb dL_law_295 (by decide) (fun cc => ?_) (fun cc => ?_)
      · skip
        have hk1 : kSm k1 := by have h3 := congrArg (fun z => z.2.1) h1; rw [show k1 = (reqR k rn (rvV rn vs) true).2.1 from h3]; exact reqR_sm hsm _ _ _
        have h3 := h1.trans h2.1.symm
        obtain ⟨hrr, e1, e2, e3⟩ : r_6 = r_8 ∧ k1 = k2 ∧ rn1 = rn2 ∧ rv1 = rvV rn2 vs2 := ⟨congrArg (fun z => z.1) h3, congrArg (fun z => z.2.1) h3, congrArg (fun z => z.2.2.1) h3, congrArg (fun z => z.2.2.2) h3⟩
        have e4 : ee = ex2 := h2.2.1.symm
        have e5 : wb = bo2 := h2.2.2.1.symm
        have e6 : we = wr2 := h2.2.2.2.symm
        subst e1 e2 e3 e4 e5 e6
        exact hk k1 ut1 tb tn sc hs rn1 wb ee we dr2 er2 pl2 un2 li2 ov2 vs2 ei2 dg2 wo2 pa2 ch2 fi H locs ls hk1 htn hP hD hS (lv_sub hl [0, 1, 2, 3] rfl)
      · skip
        have hk1 : kSm k1 := by have h3 := congrArg (fun z => z.2.1) h1; rw [show k1 = (reqR k rn (rvV rn vs) true).2.1 from h3]; exact reqR_sm hsm _ _ _
        have h3 := h1.trans h2.1.symm
        obtain ⟨hrr, e1, e2, e3⟩ : r_6 = r_8 ∧ k1 = k2 ∧ rn1 = rn2 ∧ rv1 = rvV rn2 vs2 := ⟨congrArg (fun z => z.1) h3, congrArg (fun z => z.2.1) h3, congrArg (fun z => z.2.2.1) h3, congrArg (fun z => z.2.2.2) h3⟩
        have e4 : ee = ex2 := h2.2.1.symm
        have e5 : wb = bo2 := h2.2.2.1.symm
        have e6 : we = wr2 := h2.2.2.2.symm
        exact absurd hrr cc
set_option maxHeartbeats 4000000 in
set_option maxRecDepth 100000 in
theorem lw_c6 {p : Program} {e : Env} {s : State} {m : MethodId} {below : List Frame} {meth : Method} {c : Code} (l : Launch) {b L : Nat} {xs : Nat → Int32} {dC : Nat → ClassId} {dI : Nat → Nat → Nat} {tt : Nat → Nat} {cI cB : ClassId} {A : Nat → Prop} (hL : L ≤ 3072) (hx : p.tables.exec = Jvm.exec) (hb : c.code = cL_law) (hml : c.maxLocals = 4) (hown : s.vm.findClass RL = some m.cls) (hts : ∀ w ∈ wsL_law, w.before #[Value.ref b] s = true) (hX : va_X b L xs s s.heap) (hbl : b < s.heap.size) (hbA : ¬ A b) (hA : ∀ q : Nat, s.heap.size ≤ q → A q) (hK : va_K (dC, dI) vwCl [(cI, .int), (cB, .byte)] s) (hE : xE tt [] A s s.heap) (a0 a1 a2 a3 a4 a5 a6 a7 a8 a9 g0 g1 g2 g3 g4 g5 g6 g7 g8 g9 g10 g11 g12 g13 : Nat) (i : Nat) (hi : i + 6 ≤ L) (hk : lwK p l e s m below meth c b dC dI cI cB A a0 a1 a2 a3 a4 a5 a6 a7 a8 a9 g0 g1 g2 g3 g4 g5 g6 g7 g8 g9 g10 g11 g12 g13 551 i) : lwK p l e s m below meth c b dC dI cI cB A a0 a1 a2 a3 a4 a5 a6 a7 a8 a9 g0 g1 g2 g3 g4 g5 g6 g7 g8 g9 g10 g11 g12 g13 300 i := by
  intro k ut tb tn sc hs rn wb ee we dr er pl un li ov vs ei dg wo pa ch fi H locs ls hsm htn hP hD hS hl
  have hP : va_P (dC, dI) vwCl (xW a0 a1 a2 a3 a4 a5 a6 a7 a8 a9 cI k ut tb tn sc hs rn (rvV rn vs) wb ee we ++ gW g0 g1 g2 g3 g4 g5 g6 g7 g8 g9 g10 g11 g12 g13 cI cB k dr er pl un li ov tb tn rn vs wb ee we ei dg wo pa ch fi) _ := hP
  have hD : va_D A (xW a0 a1 a2 a3 a4 a5 a6 a7 a8 a9 cI k ut tb tn sc hs rn (rvV rn vs) wb ee we ++ gW g0 g1 g2 g3 g4 g5 g6 g7 g8 g9 g10 g11 g12 g13 cI cB k dr er pl un li ov tb tn rn vs wb ee we ei dg wo pa ch fi) := hD
  have hl : lv_has ls 4 [(0, .ref b), (1, .ref a0), (2, .ref g0), (3, .int (nI i))] := hl
  refine lv_aload_n (pc := 300) hx hb dL_law_300 rfl (lv_at hl 1 rfl) ?_
  refine x_wri (pc := 301) (va_runV (As := []) (rest := []) ⟨hx, hb, hml, hown, hts⟩ (kX3_confirm l dC dI tt cI cB _ a0 a1 a2 a3 a4 a5 a6 a7 a8 a9 k ut tb tn sc hs rn (rvV rn vs) wb ee we  hsm.1 hsm.2) (cwV 0 hts gL_law_X3_confirm rfl rfl rfl (by decide +kernel) ⟨Nat.le_of_ble_eq_true rfl, Nat.le_of_ble_eq_true rfl⟩) (x_preV hS hE hK hP hD [0, 1, 2, 3, 4, 5, 6, 7, 8, 9] rfl (by decide) (va_free hD hS hA [0, 1, 2, 3, 4, 5, 6, 7, 8, 9] rfl) xR0 3 0 rfl rfl) rfl rfl hl.1 rfl (lv_room (Nat.le_of_ble_eq_true rfl)) dL_law_301 ⟨Nat.le_of_ble_eq_true rfl, Nat.le_of_ble_eq_true rfl⟩) hS hA hP hD [0, 1, 2, 3, 4, 5, 6, 7, 8, 9] [10, 11, 12, 13, 14, 15, 16, 17, 18, 19, 20, 21, 22, 23] rfl rfl (by decide) (by decide) (fun r_2 u_1 H locs hu_1 hP hD hS => ?_)
  obtain ⟨k1, ut1, rn1, rv1⟩ := u_1
  have h1 := hu_1
  have hP := hP.sub (ws' := xW a0 a1 a2 a3 a4 a5 a6 a7 a8 a9 cI k1 ut1 tb tn sc hs rn1 rv1 wb ee we ++ gW g0 g1 g2 g3 g4 g5 g6 g7 g8 g9 g10 g11 g12 g13 cI cB k dr er pl un li ov tb tn rn vs wb ee we ei dg wo pa ch fi) [14, 15, 16, 17, 18, 19, 20, 21, 22, 23, 0, 1, 2, 3, 4, 5, 6, 7, 8, 9, 10, 11, 12, 13] rfl
  have hD := hD.sub (ws' := xW a0 a1 a2 a3 a4 a5 a6 a7 a8 a9 cI k1 ut1 tb tn sc hs rn1 rv1 wb ee we ++ gW g0 g1 g2 g3 g4 g5 g6 g7 g8 g9 g10 g11 g12 g13 cI cB k dr er pl un li ov tb tn rn vs wb ee we ei dg wo pa ch fi) [14, 15, 16, 17, 18, 19, 20, 21, 22, 23, 0, 1, 2, 3, 4, 5, 6, 7, 8, 9, 10, 11, 12, 13] (by decide) rfl
  refine lv_aload_n (pc := 304) hx hb dL_law_304 rfl (lv_at hl 2 rfl) ?_
  refine x_wri (pc := 305) (va_runV (As := []) (rest := [.int r_2]) ⟨hx, hb, hml, hown, hts⟩ (kX4_confirm l dC dI tt cI cB _ g0 g1 g2 g3 g4 g5 g6 g7 g8 g9 g10 g11 g12 g13 k dr er pl un li ov tb tn rn vs wb ee we ei dg wo pa ch fi  hsm.1 hsm.2) (cwV 0 hts gL_law_X4_confirm rfl rfl rfl (by decide +kernel) ⟨Nat.le_of_ble_eq_true rfl, Nat.le_of_ble_eq_true rfl⟩) (x_preV hS hE hK hP hD [10, 11, 12, 13, 14, 15, 16, 17, 18, 19, 20, 21, 22, 23] rfl (by decide) (va_free hD hS hA [10, 11, 12, 13, 14, 15, 16, 17, 18, 19, 20, 21, 22, 23] rfl) xR0 4 10 rfl rfl) rfl rfl hl.1 rfl (lv_room (Nat.le_of_ble_eq_true rfl)) dL_law_305 ⟨Nat.le_of_ble_eq_true rfl, Nat.le_of_ble_eq_true rfl⟩) hS hA hP hD [10, 11, 12, 13, 14, 15, 16, 17, 18, 19, 20, 21, 22, 23] [0, 1, 2, 3, 4, 5, 6, 7, 8, 9] rfl rfl (by decide) (by decide) (fun r_4 u_3 H locs hu_3 hP hD hS => ?_)
  obtain ⟨k2, dr2, er2, pl2, un2, li2, ov2, rn2, ex2, ei2, vs2, bo2, wr2, dg2, wo2, pa2, ch2⟩ := u_3
  have h2 := hu_3
  have hP := hP.sub (ws' := xW a0 a1 a2 a3 a4 a5 a6 a7 a8 a9 cI k1 ut1 tb tn sc hs rn1 rv1 wb ee we ++ gW g0 g1 g2 g3 g4 g5 g6 g7 g8 g9 g10 g11 g12 g13 cI cB k2 dr2 er2 pl2 un2 li2 ov2 tb tn rn2 vs2 bo2 ex2 wr2 ei2 dg2 wo2 pa2 ch2 fi) [0, 1, 2, 3, 4, 5, 6, 7, 8, 9, 10, 11, 12, 13, 14, 15, 16, 17, 18, 19, 20, 21, 22, 23] rfl
  have hD := hD.sub (ws' := xW a0 a1 a2 a3 a4 a5 a6 a7 a8 a9 cI k1 ut1 tb tn sc hs rn1 rv1 wb ee we ++ gW g0 g1 g2 g3 g4 g5 g6 g7 g8 g9 g10 g11 g12 g13 cI cB k2 dr2 er2 pl2 un2 li2 ov2 tb tn rn2 vs2 bo2 ex2 wr2 ei2 dg2 wo2 pa2 ch2 fi) [0, 1, 2, 3, 4, 5, 6, 7, 8, 9, 10, 11, 12, 13, 14, 15, 16, 17, 18, 19, 20, 21, 22, 23] (by decide) rfl
  refine lv_icmp_eq (pc := 308) (tgt := 551) hx hb dL_law_308 (by decide) (fun cc => ?_) (fun cc => ?_)
  · skip
    have hk1 : kSm k1 := by have h3 := congrArg (fun z => z.2.1) h1; rw [show k1 = (cfmR k rn (rvV rn vs)).2.1 from h3]; exact cfmR_sm hsm _ _
    have h3 := h1.trans h2.1.symm
    obtain ⟨hrr, e1, e2, e3⟩ : r_2 = r_4 ∧ k1 = k2 ∧ rn1 = rn2 ∧ rv1 = rvV rn2 vs2 := ⟨congrArg (fun z => z.1) h3, congrArg (fun z => z.2.1) h3, congrArg (fun z => z.2.2.1) h3, congrArg (fun z => z.2.2.2) h3⟩
    have e4 : ee = ex2 := h2.2.1.symm
    have e5 : wb = bo2 := h2.2.2.1.symm
    have e6 : we = wr2 := h2.2.2.2.symm
    subst e1 e2 e3 e4 e5 e6
    exact hk k1 ut1 tb tn sc hs rn1 wb ee we dr2 er2 pl2 un2 li2 ov2 vs2 ei2 dg2 wo2 pa2 ch2 fi H locs ls hk1 htn hP hD hS (lv_sub hl [0, 1, 2, 3] rfl)
  · skip
    have hk1 : kSm k1 := by have h3 := congrArg (fun z => z.2.1) h1; rw [show k1 = (cfmR k rn (rvV rn vs)).2.1 from h3]; exact cfmR_sm hsm _ _
    have h3 := h1.trans h2.1.symm
    obtain ⟨hrr, e1, e2, e3⟩ : r_2 = r_4 ∧ k1 = k2 ∧ rn1 = rn2 ∧ rv1 = rvV rn2 vs2 := ⟨congrArg (fun z => z.1) h3, congrArg (fun z => z.2.1) h3, congrArg (fun z => z.2.2.1) h3, congrArg (fun z => z.2.2.2) h3⟩
    have e4 : ee = ex2 := h2.2.1.symm
    have e5 : wb = bo2 := h2.2.2.1.symm
    have e6 : we = wr2 := h2.2.2.2.symm
    exact absurd hrr cc
set_option maxHeartbeats 4000000 in
set_option maxRecDepth 100000 in
theorem lw_c7 {p : Program} {e : Env} {s : State} {m : MethodId} {below : List Frame} {meth : Method} {c : Code} (l : Launch) {b L : Nat} {xs : Nat → Int32} {dC : Nat → ClassId} {dI : Nat → Nat → Nat} {tt : Nat → Nat} {cI cB : ClassId} {A : Nat → Prop} (hL : L ≤ 3072) (hx : p.tables.exec = Jvm.exec) (hb : c.code = cL_law) (hml : c.maxLocals = 4) (hown : s.vm.findClass RL = some m.cls) (hts : ∀ w ∈ wsL_law, w.before #[Value.ref b] s = true) (hX : va_X b L xs s s.heap) (hbl : b < s.heap.size) (hbA : ¬ A b) (hA : ∀ q : Nat, s.heap.size ≤ q → A q) (hK : va_K (dC, dI) vwCl [(cI, .int), (cB, .byte)] s) (hE : xE tt [] A s s.heap) (a0 a1 a2 a3 a4 a5 a6 a7 a8 a9 g0 g1 g2 g3 g4 g5 g6 g7 g8 g9 g10 g11 g12 g13 : Nat) (i : Nat) (hi : i + 6 ≤ L) (hk : lwK p l e s m below meth c b dC dI cI cB A a0 a1 a2 a3 a4 a5 a6 a7 a8 a9 g0 g1 g2 g3 g4 g5 g6 g7 g8 g9 g10 g11 g12 g13 551 i) : lwK p l e s m below meth c b dC dI cI cB A a0 a1 a2 a3 a4 a5 a6 a7 a8 a9 g0 g1 g2 g3 g4 g5 g6 g7 g8 g9 g10 g11 g12 g13 313 i := by
  intro k ut tb tn sc hs rn wb ee we dr er pl un li ov vs ei dg wo pa ch fi H locs ls hsm htn hP hD hS hl
  have hP : va_P (dC, dI) vwCl (xW a0 a1 a2 a3 a4 a5 a6 a7 a8 a9 cI k ut tb tn sc hs rn (rvV rn vs) wb ee we ++ gW g0 g1 g2 g3 g4 g5 g6 g7 g8 g9 g10 g11 g12 g13 cI cB k dr er pl un li ov tb tn rn vs wb ee we ei dg wo pa ch fi) _ := hP
  have hD : va_D A (xW a0 a1 a2 a3 a4 a5 a6 a7 a8 a9 cI k ut tb tn sc hs rn (rvV rn vs) wb ee we ++ gW g0 g1 g2 g3 g4 g5 g6 g7 g8 g9 g10 g11 g12 g13 cI cB k dr er pl un li ov tb tn rn vs wb ee we ei dg wo pa ch fi) := hD
  have hl : lv_has ls 4 [(0, .ref b), (1, .ref a0), (2, .ref g0), (3, .int (nI i))] := hl
  refine lv_aload_n (pc := 313) hx hb dL_law_313 rfl (lv_at hl 1 rfl) ?_
  refine x_wri (pc := 314) (va_runV (As := []) (rest := []) ⟨hx, hb, hml, hown, hts⟩ (kX3_boot l dC dI tt cI cB _ a0 a1 a2 a3 a4 a5 a6 a7 a8 a9 k ut tb tn sc hs rn (rvV rn vs) wb ee we  hsm.1 hsm.2) (cwV 0 hts gL_law_X3_boot rfl rfl rfl (by decide +kernel) ⟨Nat.le_of_ble_eq_true rfl, Nat.le_of_ble_eq_true rfl⟩) (x_preV hS hE hK hP hD [0, 1, 2, 3, 4, 5, 6, 7, 8, 9] rfl (by decide) (va_free hD hS hA [0, 1, 2, 3, 4, 5, 6, 7, 8, 9] rfl) xR0 3 0 rfl rfl) rfl rfl hl.1 rfl (lv_room (Nat.le_of_ble_eq_true rfl)) dL_law_314 ⟨Nat.le_of_ble_eq_true rfl, Nat.le_of_ble_eq_true rfl⟩) hS hA hP hD [0, 1, 2, 3, 4, 5, 6, 7, 8, 9] [10, 11, 12, 13, 14, 15, 16, 17, 18, 19, 20, 21, 22, 23] rfl rfl (by decide) (by decide) (fun r_2 u_1 H locs hu_1 hP hD hS => ?_)
  obtain ⟨k1, ut1, sc1, hs1, rn1, rv1, wb1, ee1, we1⟩ := u_1
  have h1 := hu_1
  have hP := hP.sub (ws' := xW a0 a1 a2 a3 a4 a5 a6 a7 a8 a9 cI k1 ut1 tb tn sc1 hs1 rn1 rv1 wb1 ee1 we1 ++ gW g0 g1 g2 g3 g4 g5 g6 g7 g8 g9 g10 g11 g12 g13 cI cB k dr er pl un li ov tb tn rn vs wb ee we ei dg wo pa ch fi) [14, 15, 16, 17, 18, 19, 20, 21, 22, 23, 0, 1, 2, 3, 4, 5, 6, 7, 8, 9, 10, 11, 12, 13] rfl
  have hD := hD.sub (ws' := xW a0 a1 a2 a3 a4 a5 a6 a7 a8 a9 cI k1 ut1 tb tn sc1 hs1 rn1 rv1 wb1 ee1 we1 ++ gW g0 g1 g2 g3 g4 g5 g6 g7 g8 g9 g10 g11 g12 g13 cI cB k dr er pl un li ov tb tn rn vs wb ee we ei dg wo pa ch fi) [14, 15, 16, 17, 18, 19, 20, 21, 22, 23, 0, 1, 2, 3, 4, 5, 6, 7, 8, 9, 10, 11, 12, 13] (by decide) rfl
  refine lv_aload_n (pc := 317) hx hb dL_law_317 rfl (lv_at hl 2 rfl) ?_
  refine x_wri (pc := 318) (va_runV (As := []) (rest := [.int r_2]) ⟨hx, hb, hml, hown, hts⟩ (kX4_boot l dC dI tt cI cB _ g0 g1 g2 g3 g4 g5 g6 g7 g8 g9 g10 g11 g12 g13 k dr er pl un li ov tb tn rn vs wb ee we ei dg wo pa ch fi  hsm.1 hsm.2) (cwV 0 hts gL_law_X4_boot rfl rfl rfl (by decide +kernel) ⟨Nat.le_of_ble_eq_true rfl, Nat.le_of_ble_eq_true rfl⟩) (x_preV hS hE hK hP hD [10, 11, 12, 13, 14, 15, 16, 17, 18, 19, 20, 21, 22, 23] rfl (by decide) (va_free hD hS hA [10, 11, 12, 13, 14, 15, 16, 17, 18, 19, 20, 21, 22, 23] rfl) xR0 4 10 rfl rfl) rfl rfl hl.1 rfl (lv_room (Nat.le_of_ble_eq_true rfl)) dL_law_318 ⟨Nat.le_of_ble_eq_true rfl, Nat.le_of_ble_eq_true rfl⟩) hS hA hP hD [10, 11, 12, 13, 14, 15, 16, 17, 18, 19, 20, 21, 22, 23] [0, 1, 2, 3, 4, 5, 6, 7, 8, 9] rfl rfl (by decide) (by decide) (fun r_4 u_3 H locs hu_3 hP hD hS => ?_)
  obtain ⟨k2, dr2, er2, pl2, un2, li2, ov2, rn2, ex2, ei2, vs2, bo2, wr2, dg2, wo2, pa2, ch2⟩ := u_3
  have h2 := hu_3
  have hP := hP.sub (ws' := xW a0 a1 a2 a3 a4 a5 a6 a7 a8 a9 cI k1 ut1 tb tn sc1 hs1 rn1 rv1 wb1 ee1 we1 ++ gW g0 g1 g2 g3 g4 g5 g6 g7 g8 g9 g10 g11 g12 g13 cI cB k2 dr2 er2 pl2 un2 li2 ov2 tb tn rn2 vs2 bo2 ex2 wr2 ei2 dg2 wo2 pa2 ch2 fi) [0, 1, 2, 3, 4, 5, 6, 7, 8, 9, 10, 11, 12, 13, 14, 15, 16, 17, 18, 19, 20, 21, 22, 23] rfl
  have hD := hD.sub (ws' := xW a0 a1 a2 a3 a4 a5 a6 a7 a8 a9 cI k1 ut1 tb tn sc1 hs1 rn1 rv1 wb1 ee1 we1 ++ gW g0 g1 g2 g3 g4 g5 g6 g7 g8 g9 g10 g11 g12 g13 cI cB k2 dr2 er2 pl2 un2 li2 ov2 tb tn rn2 vs2 bo2 ex2 wr2 ei2 dg2 wo2 pa2 ch2 fi) [0, 1, 2, 3, 4, 5, 6, 7, 8, 9, 10, 11, 12, 13, 14, 15, 16, 17, 18, 19, 20, 21, 22, 23] (by decide) rfl
  refine lv_icmp_eq (pc := 321) (tgt := 551) hx hb dL_law_321 (by decide) (fun cc => ?_) (fun cc => ?_)
  · skip
    have hk1 : kSm k1 := by have h3 := congrArg (fun z => z.2.1) h1; rw [show k1 = (bootR k rn (rvV rn vs) wb ee we).2.1 from h3]; exact bootR_sm hsm _ _ _ _ _
    have h3 := h1.trans h2.symm
    obtain ⟨hrr, e1, e2, e3, e4, e5, e6⟩ : r_2 = r_4 ∧ k1 = k2 ∧ rn1 = rn2 ∧ rv1 = rvV rn2 vs2 ∧ wb1 = bo2 ∧ ee1 = ex2 ∧ we1 = wr2 := ⟨congrArg (fun z => z.1) h3, congrArg (fun z => z.2.1) h3, congrArg (fun z => z.2.2.1) h3, congrArg (fun z => z.2.2.2.1) h3, congrArg (fun z => z.2.2.2.2.1) h3, congrArg (fun z => z.2.2.2.2.2.1) h3, congrArg (fun z => z.2.2.2.2.2.2) h3⟩
    subst e1 e2 e3 e4 e5 e6
    exact hk k1 ut1 tb tn sc1 hs1 rn1 wb1 ee1 we1 dr2 er2 pl2 un2 li2 ov2 vs2 ei2 dg2 wo2 pa2 ch2 fi H locs ls hk1 htn hP hD hS (lv_sub hl [0, 1, 2, 3] rfl)
  · skip
    have hk1 : kSm k1 := by have h3 := congrArg (fun z => z.2.1) h1; rw [show k1 = (bootR k rn (rvV rn vs) wb ee we).2.1 from h3]; exact bootR_sm hsm _ _ _ _ _
    have h3 := h1.trans h2.symm
    obtain ⟨hrr, e1, e2, e3, e4, e5, e6⟩ : r_2 = r_4 ∧ k1 = k2 ∧ rn1 = rn2 ∧ rv1 = rvV rn2 vs2 ∧ wb1 = bo2 ∧ ee1 = ex2 ∧ we1 = wr2 := ⟨congrArg (fun z => z.1) h3, congrArg (fun z => z.2.1) h3, congrArg (fun z => z.2.2.1) h3, congrArg (fun z => z.2.2.2.1) h3, congrArg (fun z => z.2.2.2.2.1) h3, congrArg (fun z => z.2.2.2.2.2.1) h3, congrArg (fun z => z.2.2.2.2.2.2) h3⟩
    exact absurd hrr cc
set_option maxHeartbeats 4000000 in
set_option maxRecDepth 100000 in
theorem lw_c8 {p : Program} {e : Env} {s : State} {m : MethodId} {below : List Frame} {meth : Method} {c : Code} (l : Launch) {b L : Nat} {xs : Nat → Int32} {dC : Nat → ClassId} {dI : Nat → Nat → Nat} {tt : Nat → Nat} {cI cB : ClassId} {A : Nat → Prop} (hL : L ≤ 3072) (hx : p.tables.exec = Jvm.exec) (hb : c.code = cL_law) (hml : c.maxLocals = 4) (hown : s.vm.findClass RL = some m.cls) (hts : ∀ w ∈ wsL_law, w.before #[Value.ref b] s = true) (hX : va_X b L xs s s.heap) (hbl : b < s.heap.size) (hbA : ¬ A b) (hA : ∀ q : Nat, s.heap.size ≤ q → A q) (hK : va_K (dC, dI) vwCl [(cI, .int), (cB, .byte)] s) (hE : xE tt [] A s s.heap) (a0 a1 a2 a3 a4 a5 a6 a7 a8 a9 g0 g1 g2 g3 g4 g5 g6 g7 g8 g9 g10 g11 g12 g13 : Nat) (i : Nat) (hi : i + 6 ≤ L) (hk : lwK p l e s m below meth c b dC dI cI cB A a0 a1 a2 a3 a4 a5 a6 a7 a8 a9 g0 g1 g2 g3 g4 g5 g6 g7 g8 g9 g10 g11 g12 g13 551 i) : lwK p l e s m below meth c b dC dI cI cB A a0 a1 a2 a3 a4 a5 a6 a7 a8 a9 g0 g1 g2 g3 g4 g5 g6 g7 g8 g9 g10 g11 g12 g13 326 i := by
  intro k ut tb tn sc hs rn wb ee we dr er pl un li ov vs ei dg wo pa ch fi H locs ls hsm htn hP hD hS hl
  have hP : va_P (dC, dI) vwCl (xW a0 a1 a2 a3 a4 a5 a6 a7 a8 a9 cI k ut tb tn sc hs rn (rvV rn vs) wb ee we ++ gW g0 g1 g2 g3 g4 g5 g6 g7 g8 g9 g10 g11 g12 g13 cI cB k dr er pl un li ov tb tn rn vs wb ee we ei dg wo pa ch fi) _ := hP
  have hD : va_D A (xW a0 a1 a2 a3 a4 a5 a6 a7 a8 a9 cI k ut tb tn sc hs rn (rvV rn vs) wb ee we ++ gW g0 g1 g2 g3 g4 g5 g6 g7 g8 g9 g10 g11 g12 g13 cI cB k dr er pl un li ov tb tn rn vs wb ee we ei dg wo pa ch fi) := hD
  have hl : lv_has ls 4 [(0, .ref b), (1, .ref a0), (2, .ref g0), (3, .int (nI i))] := hl
  refine lv_aload_n (pc := 326) hx hb dL_law_326 rfl (lv_at hl 1 rfl) ?_
  refine lv_aload_n (pc := 327) hx hb dL_law_327 rfl (lv_at hl 0 rfl) ?_
  refine lv_iload_n (pc := 328) hx hb dL_law_328 rfl (lv_at hl 3 rfl) ?_
  refine lv_iconst (pc := 329) (v := nI 1) hx hb dL_law_329 (by decide) ?_
  refine lv_iadd (pc := 330) hx hb dL_law_330 ?_
  refine lv_cv (nI_add i 1) ?_
  refine x_sld (pc := 331) (k := i + 1) hx hb hX hbl hbA hS (by omega) (by omega) dL_law_331 ?_
  refine lv_aload_n (pc := 332) hx hb dL_law_332 rfl (lv_at hl 0 rfl) ?_
  refine lv_iload_n (pc := 333) hx hb dL_law_333 rfl (lv_at hl 3 rfl) ?_
  refine lv_iconst (pc := 334) (v := nI 2) hx hb dL_law_334 (by decide) ?_
  refine lv_iadd (pc := 335) hx hb dL_law_335 ?_
  refine lv_cv (nI_add i 2) ?_
  refine x_sld (pc := 336) (k := i + 2) hx hb hX hbl hbA hS (by omega) (by omega) dL_law_336 ?_
  refine x_wri (pc := 337) (va_runV (As := [.int (xs (i + 1)), .int (xs (i + 2))]) (rest := []) ⟨hx, hb, hml, hown, hts⟩ (kX3_cut l dC dI tt cI cB _ a0 a1 a2 a3 a4 a5 a6 a7 a8 a9 k ut tb tn sc hs rn (rvV rn vs) wb ee we (xs (i + 1)) (xs (i + 2)) ) (cwV 2 hts gL_law_X3_cut rfl rfl rfl (by decide +kernel) ⟨Nat.le_of_ble_eq_true rfl, Nat.le_of_ble_eq_true rfl⟩) (x_preV hS hE hK hP hD [0, 1, 2, 3, 4, 5, 6, 7, 8, 9] rfl (by decide) (va_free hD hS hA [0, 1, 2, 3, 4, 5, 6, 7, 8, 9] rfl) xR0 3 0 rfl rfl) rfl rfl hl.1 rfl (lv_room (Nat.le_of_ble_eq_true rfl)) dL_law_337 ⟨Nat.le_of_ble_eq_true rfl, Nat.le_of_ble_eq_true rfl⟩) hS hA hP hD [0, 1, 2, 3, 4, 5, 6, 7, 8, 9] [10, 11, 12, 13, 14, 15, 16, 17, 18, 19, 20, 21, 22, 23] rfl rfl (by decide) (by decide) (fun r_2 u_1 H locs hu_1 hP hD hS => ?_)
  obtain ⟨k1, ek1⟩ : ∃ z, z = u_1 := ⟨_, rfl⟩
  rw [← ek1] at hu_1 hP hD
  have h1 := hu_1
  have hP := hP.sub (ws' := xW a0 a1 a2 a3 a4 a5 a6 a7 a8 a9 cI k1 ut tb tn sc hs rn (rvV rn vs) wb ee we ++ gW g0 g1 g2 g3 g4 g5 g6 g7 g8 g9 g10 g11 g12 g13 cI cB k dr er pl un li ov tb tn rn vs wb ee we ei dg wo pa ch fi) [14, 15, 16, 17, 18, 19, 20, 21, 22, 23, 0, 1, 2, 3, 4, 5, 6, 7, 8, 9, 10, 11, 12, 13] rfl
  have hD := hD.sub (ws' := xW a0 a1 a2 a3 a4 a5 a6 a7 a8 a9 cI k1 ut tb tn sc hs rn (rvV rn vs) wb ee we ++ gW g0 g1 g2 g3 g4 g5 g6 g7 g8 g9 g10 g11 g12 g13 cI cB k dr er pl un li ov tb tn rn vs wb ee we ei dg wo pa ch fi) [14, 15, 16, 17, 18, 19, 20, 21, 22, 23, 0, 1, 2, 3, 4, 5, 6, 7, 8, 9, 10, 11, 12, 13] (by decide) rfl
  refine lv_aload_n (pc := 340) hx hb dL_law_340 rfl (lv_at hl 2 rfl) ?_
  refine lv_aload_n (pc := 341) hx hb dL_law_341 rfl (lv_at hl 0 rfl) ?_
  refine lv_iload_n (pc := 342) hx hb dL_law_342 rfl (lv_at hl 3 rfl) ?_
  refine lv_iconst (pc := 343) (v := nI 1) hx hb dL_law_343 (by decide) ?_
  refine lv_iadd (pc := 344) hx hb dL_law_344 ?_
  refine lv_cv (nI_add i 1) ?_
  refine x_sld (pc := 345) (k := i + 1) hx hb hX hbl hbA hS (by omega) (by omega) dL_law_345 ?_
  refine lv_aload_n (pc := 346) hx hb dL_law_346 rfl (lv_at hl 0 rfl) ?_
  refine lv_iload_n (pc := 347) hx hb dL_law_347 rfl (lv_at hl 3 rfl) ?_
  refine lv_iconst (pc := 348) (v := nI 2) hx hb dL_law_348 (by decide) ?_
  refine lv_iadd (pc := 349) hx hb dL_law_349 ?_
  refine lv_cv (nI_add i 2) ?_
  refine x_sld (pc := 350) (k := i + 2) hx hb hX hbl hbA hS (by omega) (by omega) dL_law_350 ?_
  refine x_wri (pc := 351) (va_runV (As := [.int (xs (i + 1)), .int (xs (i + 2))]) (rest := [.int r_2]) ⟨hx, hb, hml, hown, hts⟩ (kX4_cut l dC dI tt cI cB _ g0 g1 g2 g3 g4 g5 g6 g7 g8 g9 g10 g11 g12 g13 k dr er pl un li ov tb tn rn vs wb ee we ei dg wo pa ch fi (xs (i + 1)) (xs (i + 2)) ) (cwV 2 hts gL_law_X4_cut rfl rfl rfl (by decide +kernel) ⟨Nat.le_of_ble_eq_true rfl, Nat.le_of_ble_eq_true rfl⟩) (x_preV hS hE hK hP hD [10, 11, 12, 13, 14, 15, 16, 17, 18, 19, 20, 21, 22, 23] rfl (by decide) (va_free hD hS hA [10, 11, 12, 13, 14, 15, 16, 17, 18, 19, 20, 21, 22, 23] rfl) xR0 4 10 rfl rfl) rfl rfl hl.1 rfl (lv_room (Nat.le_of_ble_eq_true rfl)) dL_law_351 ⟨Nat.le_of_ble_eq_true rfl, Nat.le_of_ble_eq_true rfl⟩) hS hA hP hD [10, 11, 12, 13, 14, 15, 16, 17, 18, 19, 20, 21, 22, 23] [0, 1, 2, 3, 4, 5, 6, 7, 8, 9] rfl rfl (by decide) (by decide) (fun r_4 u_3 H locs hu_3 hP hD hS => ?_)
  obtain ⟨k2, ek2⟩ : ∃ z, z = u_3 := ⟨_, rfl⟩
  rw [← ek2] at hu_3 hP hD
  have h2 := hu_3
  have hP := hP.sub (ws' := xW a0 a1 a2 a3 a4 a5 a6 a7 a8 a9 cI k1 ut tb tn sc hs rn (rvV rn vs) wb ee we ++ gW g0 g1 g2 g3 g4 g5 g6 g7 g8 g9 g10 g11 g12 g13 cI cB k2 dr er pl un li ov tb tn rn vs wb ee we ei dg wo pa ch fi) [0, 1, 2, 3, 4, 5, 6, 7, 8, 9, 10, 11, 12, 13, 14, 15, 16, 17, 18, 19, 20, 21, 22, 23] rfl
  have hD := hD.sub (ws' := xW a0 a1 a2 a3 a4 a5 a6 a7 a8 a9 cI k1 ut tb tn sc hs rn (rvV rn vs) wb ee we ++ gW g0 g1 g2 g3 g4 g5 g6 g7 g8 g9 g10 g11 g12 g13 cI cB k2 dr er pl un li ov tb tn rn vs wb ee we ei dg wo pa ch fi) [0, 1, 2, 3, 4, 5, 6, 7, 8, 9, 10, 11, 12, 13, 14, 15, 16, 17, 18, 19, 20, 21, 22, 23] (by decide) rfl
  refine lv_icmp_eq (pc := 354) (tgt := 551) hx hb dL_law_354 (by decide) (fun cc => ?_) (fun cc => ?_)
  · skip
    have hrr : r_2 = r_4 := h1.1.trans h2.1.symm
    have e1 : k1 = k2 := h1.2.trans h2.2.symm
    have hsm1 : kSm k1 := by rw [h1.2]; exact cut_sm hsm
    subst e1
    exact hk k1 ut tb tn sc hs rn wb ee we dr er pl un li ov vs ei dg wo pa ch fi H locs ls hsm1 htn hP hD hS (lv_sub hl [0, 1, 2, 3] rfl)
  · skip
    have hrr : r_2 = r_4 := h1.1.trans h2.1.symm
    have e1 : k1 = k2 := h1.2.trans h2.2.symm
    have hsm1 : kSm k1 := by rw [h1.2]; exact cut_sm hsm
    exact absurd hrr cc
