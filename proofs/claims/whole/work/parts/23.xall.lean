section XCA
variable {p : Program} {l : Launch} {e : Env} {R : Room} {s : State} {m : MethodId} {args : Array Value} {below : List Frame} {meth : Method} {c : Code} {H : Heap} {locs : List Loc} {cells slots : Nat} {Q : State → Prop}
variable {pc : Nat} {ls : Array Slot} {rest st0 : List Value} {a : Array Value} {A0 B : Nat → Prop} {mc ms : Nat} {D : va_G} {tys : List (ClassId × FieldType)} {tt : Nat → Nat} {rt rt1 : List (Nat × Nat × (Nat → Int32))} {ws : va_W}
theorem x_all {H0 : Heap} (hD : va_D A0 ws) (hS : va_S A0 H0 H locs) (hA : ∀ q, H0.size ≤ q → A0 q) : ∀ q, va_A ws H.size q → A0 q := by
  intro q h
  rcases h with ⟨k, e, h⟩ | h
  · exact hD.2 k _ h
  · exact hA q (Nat.le_trans hS.1 h)
theorem x_preSa {As : List Value} (hS : va_S A0 s.heap H locs) (hE : xE tt rt A0 s s.heap) (hK : va_K D vwCl tys s) (hP : va_P D vwCl ws H) {A' : Nat → Prop} (hD : va_D A' ws) (hB : ∀ q, B q → A0 q) (hR : ∀ U : State, U.heap = H → s.WarmedH U.vm → ∀ q ∈ rt1, va_T .int q.1 q.2.1 (fun j => .int (q.2.2 j)) B U U.heap) : PreS s H (xP D tys tt rt1 B H.size ws As) As :=
  ⟨xP.blind, fun U hU hW => ⟨rfl, by rw [hU], by rw [hU]; exact hP, va_K.moved hW.alike hK, hD.weaken (fun _ _ _ _ => trivial), hE.go hS hB hU hW (hR U hU hW)⟩⟩
theorem x_preVa {As : List Value} {b : Addr} {fs : List Value} {q : vw_C} (hS : va_S A0 s.heap H locs) (hE : xE tt rt A0 s s.heap) (hK : va_K D vwCl tys s) (hP : va_P D vwCl ws H) {A' : Nat → Prop} (hD : va_D A' ws) (hB : ∀ q, B q → A0 q) (hR : ∀ U : State, U.heap = H → s.WarmedH U.vm → ∀ q ∈ rt1, va_T .int q.1 q.2.1 (fun j => .int (q.2.2 j)) B U U.heap) (ci q0 : Nat) (hc : vwCl[ci]? = some q) (he : ws[q0]? = some (b, .inr (ci, fs))) : PreV s H q.1 b (xP D tys tt rt1 B H.size ws (.ref b :: As)) As :=
  ⟨xP.blind, va_recv hK hP hc he, fun U hU hW => ⟨rfl, by rw [hU], by rw [hU]; exact hP, va_K.moved hW.alike hK, hD.weaken (fun _ _ _ _ => trivial), hE.go hS hB hU hW (hR U hU hW)⟩⟩
theorem x_wria {H0 : Heap} {S : Type} {post : Int32 → S → Prop} {Wf : S → va_W} (hr : va_Run p l e R s m args below meth c H locs cells slots mc ms (F0 m pc ls st0) rest (va_Qi post (xB D tys (va_A ws H.size) Wf) (va_A ws H.size) a) (va_A ws H.size)) (hS : va_S A0 H0 H locs) (hA : ∀ q, H0.size ≤ q → A0 q) (hD : va_D A0 ws)
    (kk : ∀ (r : Int32) (u : S) (H1 : Heap) (locs1 : List Loc), post r u → va_P D vwCl (Wf u) H1 → va_D A0 (Wf u) → va_S A0 H0 H1 locs1 → W p l e R s m args below meth c H1 locs1 (cells + mc) (slots + ms) Q (F0 m (pc + 3) ls (.int r :: rest))) : W p l e R s m args below meth c H locs cells slots Q (F0 m pc ls st0) := by
  have hF := x_all hD hS hA
  refine va_calli hr hS (fun q _ h => hF q h) hF (fun r u t H1 locs1 ht hvm hw hB hz hk hS1 => ?_)
  obtain ⟨hP1, -, hD1⟩ := hB
  rw [ht] at hP1
  exact kk r u H1 locs1 hw hP1 (hD1.weaken (fun _ q _ h => hF q.1 h)) hS1
theorem x_wrva {H0 : Heap} {S : Type} {post : S → Prop} {Wf : S → va_W} (hr : va_Run p l e R s m args below meth c H locs cells slots mc ms (F0 m pc ls st0) rest (va_Qv post (xB D tys (va_A ws H.size) Wf) (va_A ws H.size) a) (va_A ws H.size)) (hS : va_S A0 H0 H locs) (hA : ∀ q, H0.size ≤ q → A0 q) (hD : va_D A0 ws)
    (kk : ∀ (u : S) (H1 : Heap) (locs1 : List Loc), post u → va_P D vwCl (Wf u) H1 → va_D A0 (Wf u) → va_S A0 H0 H1 locs1 → W p l e R s m args below meth c H1 locs1 (cells + mc) (slots + ms) Q (F0 m (pc + 3) ls rest)) : W p l e R s m args below meth c H locs cells slots Q (F0 m pc ls st0) := by
  have hF := x_all hD hS hA
  refine va_callv hr hS (fun q _ h => hF q h) hF (fun u t H1 locs1 ht hvm hw hB hz hk hS1 => ?_)
  obtain ⟨hP1, -, hD1⟩ := hB
  rw [ht] at hP1
  exact kk u H1 locs1 hw hP1 (hD1.weaken (fun _ q _ h => hF q.1 h)) hS1
end XCA
