set_option maxHeartbeats 4000000 in
set_option maxRecDepth 100000 in
theorem kX1_init (l : Launch) (dC : Nat → ClassId) (dI : Nat → Nat → Nat) (tt : Nat → Nat) (cI cB : ClassId) (sz : Nat) (a7 : Nat) : Met l yX1_init wsX1_init { frames := 1, cells := 2, slots := 72, locals := 12 } (xP (dC, dI) [(cI, .int), (cB, .byte)] tt [] (va_A [(a7, .inr (1, [.null, .null]))] sz) sz [(a7, .inr (1, [.null, .null]))] [.ref a7]) (va_Qv (fun u : (Nat × Nat) => True) (xB (dC, dI) [(cI, .int), (cB, .byte)] (va_A [(a7, .inr (1, [.null, .null]))] sz) (fun u : (Nat × Nat) => sW a7 u.1 u.2 cI (fun _ => 0) (fun _ => 0))) (va_A [(a7, .inr (1, [.null, .null]))] sz)) 2 72 (va_A [(a7, .inr (1, [.null, .null]))] sz) := by
  refine Met.ofW (cc := cX1_init) (maxL := 1) (ret := none) (by decide) rfl ?_
  intro p e s m args below meth c s₁ B hml hv
  obtain ⟨rfl, hsz, hP, hK, hD0, hE⟩ := hv
  have hx := B.exec
  have hb := B.bytes
  have hr := B.returns
  have hts := atoms_spec (ws := wsX1_init) B.pre
  have hown : s.vm.findClass RX1 = some m.cls := findClass_of_methodNamed B.named
  have hlocks := B.notSynchronized
  subst hsz
  have hD := hD0.self (sz := s.heap.size)
  generalize hAe : va_A ([(a7, .inr (1, [.null, .null]))]) s.heap.size = A at hD hE ⊢
  have hA : ∀ q : Nat, s.heap.size ≤ q → A q := fun q h => by rw [← hAe]; exact Or.inr h
  have hS : va_S A s.heap s.heap [] := va_S.rf
  have hl := lv_entry ([.ref a7]) (n := 1) (Nat.le_of_ble_eq_true rfl)
  rw [lg_entry_eq]
  generalize (lg_sl ([.ref a7]) ++ List.replicate (1 - (lg_sl ([.ref a7])).length) Slot.unset).toArray = ls at hl ⊢
  have hl : lv_has ls 1 [(0, .ref a7)] := hl
  have hP : va_P (dC, dI) vwCl ([(a7, .inr (1, [.null, .null]))]) s.heap := hP
  have hin : meth.name = "<init>" := (name_of_methodNamed B.named B.method).1
  refine lv_aload_n (pc := 0) hx hb dX1_init_0 rfl (lv_at hl 0 rfl) ?_
  refine W.objInit hx hb hown (hts (.methodLink RX1 3 objectInit) (by decide +kernel)) (hts (.instanceMethod objectInit) (by decide +kernel)) (hts (.code objectInit ⟨#[0xb1]⟩ 1 none) (by decide +kernel)) rfl (by rw [hml]; exact hl.1) rfl dX1_init_1 (Nat.le_of_ble_eq_true rfl) (Nat.le_of_ble_eq_true rfl) ?_
  refine W.eq (g2 := F0 m 4 ls []) rfl ?_
  refine lv_aload_n (pc := 4) hx hb dX1_init_4 rfl (lv_at hl 0 rfl) ?_
  refine lv_bipush (pc := 5) (v := nI 64) hx hb dX1_init_5 (by decide) ?_
  refine x_newa (pc := 7) (n := 64) (a0 := (64, .inl (fun _ => 0))) (ty := .int) hx hb (hts (.arrayClass .int) (by decide +kernel)) rfl ra_i hK 0 rfl hP hD hS hA (in_new 64) (by decide) (by decide) (Nat.le_of_ble_eq_true rfl) (Nat.le_of_ble_eq_true rfl) dX1_init_7 (fun q1 H hP hD hS => ?_)
  have hP : va_P (dC, dI) vwCl [(a7, .inr (1, [.null, .null])), (q1, .inl (cI, 64, .inl (fun _ => 0)))] _ := hP
  have hD : va_D A [(a7, .inr (1, [.null, .null])), (q1, .inl (cI, 64, .inl (fun _ => 0)))] := hD
  refine va_putF (pc := 9) (D := (dC, dI)) (ci := 1) (v := .ref q1) (ty := .array .int) (C := RX1) (T := TX1) (N := 2) hx hb hts (by decide +kernel) tyX1 tyX1_ok nmX1 hown hK hP hD hS 0 rfl rfl 0 (by decide) (hts (.fieldLink RX1 11 "ScratchSwap$Sha256" "schedule" "[I") (by decide +kernel)) (fun _ h9 => h9) rfl hin rfl (by decide +kernel) rfl rfl (Nat.le_of_ble_eq_true rfl) dX1_init_9 (fun H locs hP hD hS => ?_)
  have hP : va_P (dC, dI) vwCl [(a7, .inr (1, [.ref q1, .null])), (q1, .inl (cI, 64, .inl (fun _ => 0)))] _ := hP
  have hD : va_D A [(a7, .inr (1, [.ref q1, .null])), (q1, .inl (cI, 64, .inl (fun _ => 0)))] := hD
  refine lv_aload_n (pc := 12) hx hb dX1_init_12 rfl (lv_at hl 0 rfl) ?_
  refine lv_bipush (pc := 13) (v := nI 8) hx hb dX1_init_13 (by decide) ?_
  refine x_newa (pc := 15) (n := 8) (a0 := (8, .inl (fun _ => 0))) (ty := .int) hx hb (hts (.arrayClass .int) (by decide +kernel)) rfl ra_i hK 0 rfl hP hD hS hA (in_new 8) (by decide) (by decide) (Nat.le_of_ble_eq_true rfl) (Nat.le_of_ble_eq_true rfl) dX1_init_15 (fun q2 H hP hD hS => ?_)
  have hP : va_P (dC, dI) vwCl [(a7, .inr (1, [.ref q1, .null])), (q1, .inl (cI, 64, .inl (fun _ => 0))), (q2, .inl (cI, 8, .inl (fun _ => 0)))] _ := hP
  have hD : va_D A [(a7, .inr (1, [.ref q1, .null])), (q1, .inl (cI, 64, .inl (fun _ => 0))), (q2, .inl (cI, 8, .inl (fun _ => 0)))] := hD
  refine va_putF (pc := 17) (D := (dC, dI)) (ci := 1) (v := .ref q2) (ty := .array .int) (C := RX1) (T := TX1) (N := 2) hx hb hts (by decide +kernel) tyX1 tyX1_ok nmX1 hown hK hP hD hS 0 rfl rfl 1 (by decide) (hts (.fieldLink RX1 15 "ScratchSwap$Sha256" "hash" "[I") (by decide +kernel)) (fun _ h9 => h9) rfl hin rfl (by decide +kernel) rfl rfl (Nat.le_of_ble_eq_true rfl) dX1_init_17 (fun H locs hP hD hS => ?_)
  have hP : va_P (dC, dI) vwCl [(a7, .inr (1, [.ref q1, .ref q2])), (q1, .inl (cI, 64, .inl (fun _ => 0))), (q2, .inl (cI, 8, .inl (fun _ => 0)))] _ := hP
  have hD : va_D A [(a7, .inr (1, [.ref q1, .ref q2])), (q1, .inl (cI, 64, .inl (fun _ => 0))), (q2, .inl (cI, 8, .inl (fun _ => 0)))] := hD
  exact W.vret hx hb hr (fun t ht hW => ⟨⟨(q1, q2), rfl, trivial, by show va_P _ _ _ t.heap; rw [ht]; exact hP, va_K.moved hW.alike hK, hD⟩, hS.F ht⟩) hS.2.2 dX1_init_20
