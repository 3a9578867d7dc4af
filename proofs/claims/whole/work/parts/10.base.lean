def xNf : List (String × Nat × String × String × String × String) := [(RX3, 172, "ScratchSwap$Memory", "bytes", "[I", "ScratchSwap"), (RX3, 154, "ScratchSwap$Memory", "timesErased", "[I", "ScratchSwap"), (RX3, 58, "ScratchSwap$Memory", "down", "Z", "ScratchSwap"), (RX3, 157, "ScratchSwap$Memory", "actsDone", "I", "ScratchSwap"), (RX3, 163, "ScratchSwap$Memory", "timesGone", "I", "ScratchSwap"), (RX3, 79, "ScratchSwap$Tape", "bytes", "[I", "ScratchSwap"), (RX3, 47, "ScratchSwap$Tape", "count", "I", "ScratchSwap"), (RX0, 75, "ScratchSwap", "MAGIC", "[I", "ScratchSwap")]
def xNm : List (String × Nat × MethodName × String) := [(RX3, 11, yX0_init, "ScratchSwap"), (RX3, 18, yX2_init, "ScratchSwap"), (RX3, 25, yX1_init, "ScratchSwap"), (RX3, 50, yX2_addHighestFirst, "ScratchSwap"), (RX3, 54, yX2_becomeImage, "ScratchSwap"), (RX2, 26, yX1_digest, "ScratchSwap"), (RX2, 32, yX1_digestByte, "ScratchSwap"), (RX3, 144, yX0_markIn, "ScratchSwap"), (RX3, 192, yX0_eraseSector, "ScratchSwap"), (RX3, 83, yX0_writeRow, "ScratchSwap"), (RX3, 91, yX0_markUnit, "ScratchSwap"), (RX3, 180, yX0_unitAt, "ScratchSwap"), (RX3, 102, yX0_hasMagic, "ScratchSwap"), (RX3, 169, yX0_intAt, "ScratchSwap"), (RX3, 173, yX1_digest, "ScratchSwap"), (RX3, 131, yX0_byteAt, "ScratchSwap"), (RX3, 177, yX1_digestByte, "ScratchSwap"), (RX3, 211, yX0_replaceSector, "ScratchSwap"), (RX3, 118, yX0_tellToGo, "ScratchSwap"), (RX3, 122, yX0_powerComes, "ScratchSwap"), (RX3, 125, yX0_has, "ScratchSwap"), (RX3, 128, yX0_keepBits, "ScratchSwap"), (RX3, 151, yX0_hasSector, "ScratchSwap"), (RX3, 160, yX0_actsStillDone, "ScratchSwap")]
def tbML : List Int32 := [83, 87, 65, 80, 45, 79, 75, 33]
def tbFL : List Int32 := [1779033703, (-1150833019), 1013904242, (-1521486534), 1359893119, (-1694144372), 528734635, 1541459225]
def tbRL : List Int32 := [1116352408, 1899447441, (-1245643825), (-373957723), 961987163, 1508970993, (-1841331548), (-1424204075), (-670586216), 310598401, 607225278, 1426881987, 1925078388, (-2132889090), (-1680079193), (-1046744716), (-459576895), (-272742522), 264347078, 604807628, 770255983, 1249150122, 1555081692, 1996064986, (-1740746414), (-1473132947), (-1341970488), (-1084653625), (-958395405), (-710438585), 113926993, 338241895, 666307205, 773529912, 1294757372, 1396182291, 1695183700, 1986661051, (-2117940946), (-1838011259), (-1564481375), (-1474664885), (-1035236496), (-949202525), (-778901479), (-694614492), (-200395387), 275423344, 430227734, 506948616, 659060556, 883997877, 958139571, 1322822218, 1537002063, 1747873779, 1955562222, 2024104815, (-2067236844), (-1933114872), (-1866530822), (-1538233109), (-1090935817), (-965641998)]
def tbM : Nat → Int32 := fun j => tbML.getD j 0
def tbF : Nat → Int32 := fun j => tbFL.getD j 0
def tbR : Nat → Int32 := fun j => tbRL.getD j 0
/-- a static table: its field, its cell -/
def xT (C n : String) (N : Nat) (f : Nat → Int32) (t : Nat) (A : Nat → Prop) (U : State) (H : Heap) : Prop := va_Z C n "[I" (.ref t) A U H ∧ va_T .int t N (fun j => .int (f j)) A U H
/-- the environment: nest words, the static tables -/
def xE (tt : Nat → Nat) (rt : List (Nat × Nat × (Nat → Int32))) (A : Nat → Prop) (U : State) (H : Heap) : Prop := (∀ q ∈ xNf, va_Nw (.fieldLinkNest q.1 q.2.1 q.2.2.1 q.2.2.2.1 q.2.2.2.2.1 q.2.2.2.2.2) U) ∧ (∀ q ∈ xNm, va_Nw (.methodLinkNest q.1 q.2.1 q.2.2.1 q.2.2.2) U) ∧
  xT "ScratchSwap" "MAGIC" 8 tbM (tt 0) A U H ∧ xT "ScratchSwap$Sha256" "FIRST_WORDS" 8 tbF (tt 1) A U H ∧ xT "ScratchSwap$Sha256" "ROUND_WORDS" 64 tbR (tt 2) A U H ∧
  xT "ScratchSwapModel" "MAGIC" 8 tbM (tt 3) A U H ∧ xT "ScratchSwapModel" "STARTS" 8 tbF (tt 4) A U H ∧ xT "ScratchSwapModel" "ROUNDS" 64 tbR (tt 5) A U H ∧ ∀ q ∈ rt, va_T .int q.1 q.2.1 (fun j => .int (q.2.2 j)) A U H
theorem xT.go {C n : String} {N : Nat} {f : Nat → Int32} {t : Nat} {A B : Nat → Prop} {s U : State} {H : Heap} {locs : List Loc} (h : xT C n N f t A s s.heap) (hS : va_S A s.heap H locs) (hB : ∀ q, B q → A q) (hU : U.heap = H) (hW : s.vm.Alike U.vm) : xT C n N f t B U U.heap := by
  rw [hU]
  exact ⟨((h.1.kept hS.2.1).narrow hB).moved hW, ((h.2.kept hS.2.1).narrow hB).moved hW⟩
theorem xE.go {tt : Nat → Nat} {rt rt1 : List (Nat × Nat × (Nat → Int32))} {A B : Nat → Prop} {s U : State} {H : Heap} {locs : List Loc} (h : xE tt rt A s s.heap) (hS : va_S A s.heap H locs) (hB : ∀ q, B q → A q) (hU : U.heap = H) (hW : s.WarmedH U.vm) (hR : ∀ q ∈ rt1, va_T .int q.1 q.2.1 (fun j => .int (q.2.2 j)) B U U.heap) : xE tt rt1 B U U.heap := by
  obtain ⟨h1, h2, h3, h4, h5, h6, h7, h8, -⟩ := h
  exact ⟨fun q hq => (h1 q hq).warmF hW, fun q hq => (h2 q hq).warmM hW, h3.go hS hB hU hW.alike, h4.go hS hB hU hW.alike, h5.go hS hB hU hW.alike, h6.go hS hB hU hW.alike, h7.go hS hB hU hW.alike, h8.go hS hB hU hW.alike, hR⟩
theorem xT.same {C n : String} {N : Nat} {f : Nat → Int32} {t : Nat} {A : Nat → Prop} {u U : State} {H : Heap} (h : xT C n N f t A u H) (hW : u.vm.Alike U.vm) : xT C n N f t A U H := ⟨h.1.moved hW, h.2.moved hW⟩
theorem xE.same {tt : Nat → Nat} {rt : List (Nat × Nat × (Nat → Int32))} {A : Nat → Prop} {u U : State} {H : Heap} (h : xE tt rt A u H) (hv : u.vm = U.vm) : xE tt rt A U H := by
  have hW : u.vm.Alike U.vm := by rw [← hv]; exact Vm.Alike.refl u.vm
  obtain ⟨h1, h2, h3, h4, h5, h6, h7, h8, h9⟩ := h
  exact ⟨fun q hq => (h1 q hq).same rfl hv, fun q hq => (h2 q hq).same rfl hv, h3.same hW, h4.same hW, h5.same hW, h6.same hW, h7.same hW, h8.same hW, fun q hq => (h9 q hq).moved hW⟩
theorem xE.f {tt : Nat → Nat} {rt : List (Nat × Nat × (Nat → Int32))} {A : Nat → Prop} {U : State} {H : Heap} (h : xE tt rt A U H) {args : Array Value} (k : Nat) {q : String × Nat × String × String × String × String} (hk : xNf[k]? = some q) : (Cond.fieldLinkNest q.1 q.2.1 q.2.2.1 q.2.2.2.1 q.2.2.2.2.1 q.2.2.2.2.2).before args U = true := (h.1 q (List.mem_of_getElem? hk)).use rfl
theorem xE.m {tt : Nat → Nat} {rt : List (Nat × Nat × (Nat → Int32))} {A : Nat → Prop} {U : State} {H : Heap} (h : xE tt rt A U H) (k : Nat) {q : String × Nat × MethodName × String} (hk : xNm[k]? = some q) : va_Nw (.methodLinkNest q.1 q.2.1 q.2.2.1 q.2.2.2) U := h.2.1 q (List.mem_of_getElem? hk)
/-- a method's start -/
def xP (D : va_G) (tys : List (ClassId × FieldType)) (tt : Nat → Nat) (rt : List (Nat × Nat × (Nat → Int32))) (A : Nat → Prop) (sz : Nat) (ws : va_W) (av : List Value) : Array Value → State → Prop := va_Pc av (fun U => U.heap.size = sz ∧ va_P D vwCl ws U.heap ∧ va_K D vwCl tys U ∧ va_D (fun _ => True) ws ∧ xE tt rt A U U.heap)
/-- the world behind it -/
def xB {S : Type} (D : va_G) (tys : List (ClassId × FieldType)) (A : Nat → Prop) (Wf : S → va_W) (u : S) (t : State) : Prop := va_P D vwCl (Wf u) t.heap ∧ va_K D vwCl tys t ∧ va_D A (Wf u)
theorem xP.blind {D : va_G} {tys : List (ClassId × FieldType)} {tt : Nat → Nat} {rt : List (Nat × Nat × (Nat → Int32))} {A : Nat → Prop} {sz : Nat} {ws : va_W} {av : List Value} : FrameBlind (xP D tys tt rt A sz ws av) := by
  intro a U g mk q
  obtain ⟨q0, q1, qP, qK, qD, qE⟩ := q
  exact ⟨q0, q1, qP, va_K.moved (u := U) (U := U.calling g mk a) (Vm.Alike.refl U.vm) qK, qD, qE.same (U := U.calling g mk a) rfl⟩
theorem xsub {ws wc : va_W} {is : List Nat} (h : is.map (fun i => ws[i]?) = wc.map some) : is.filterMap (fun i => ws[i]?) = wc := by
  have h1 : (is.map (fun i => ws[i]?)).filterMap id = is.filterMap (fun i => ws[i]?) := by
    rw [List.filterMap_map]; rfl
  rw [← h1, h, List.filterMap_map]
  have : (id ∘ (some : Nat × va_E → Option (Nat × va_E))) = some := rfl
  rw [this, List.filterMap_some]
section XC
variable {p : Program} {l : Launch} {e : Env} {R : Room} {s : State} {m : MethodId} {args : Array Value} {below : List Frame} {meth : Method} {c : Code} {H : Heap} {locs : List Loc} {cells slots : Nat} {Q : State → Prop}
variable {pc : Nat} {ls : Array Slot} {rest st0 : List Value} {a : Array Value} {A0 B : Nat → Prop} {mc ms : Nat} {D : va_G} {tys : List (ClassId × FieldType)} {tt : Nat → Nat} {rt rt1 : List (Nat × Nat × (Nat → Int32))} {ws wc : va_W}
theorem x_preS {As : List Value} (hS : va_S A0 s.heap H locs) (hE : xE tt rt A0 s s.heap) (hK : va_K D vwCl tys s) (hP : va_P D vwCl ws H) {A' : Nat → Prop} (hD : va_D A' ws) (isC : List Nat) (hC : isC.map (fun i => ws[i]?) = wc.map some) (hn : va_nd isC = true) (hB : ∀ q, B q → A0 q) (hR : ∀ U : State, U.heap = H → s.WarmedH U.vm → ∀ q ∈ rt1, va_T .int q.1 q.2.1 (fun j => .int (q.2.2 j)) B U U.heap) : PreS s H (xP D tys tt rt1 B H.size wc As) As :=
  ⟨xP.blind, fun U hU hW => ⟨rfl, by rw [hU], by rw [hU]; exact hP.sub isC (xsub hC), va_K.moved hW.alike hK, (hD.sub isC hn hC).weaken (fun _ _ _ _ => trivial), hE.go hS hB hU hW (hR U hU hW)⟩⟩
theorem x_preV {As : List Value} {b : Addr} {fs : List Value} {q : vw_C} (hS : va_S A0 s.heap H locs) (hE : xE tt rt A0 s s.heap) (hK : va_K D vwCl tys s) (hP : va_P D vwCl ws H) {A' : Nat → Prop} (hD : va_D A' ws) (isC : List Nat) (hC : isC.map (fun i => ws[i]?) = wc.map some) (hn : va_nd isC = true) (hB : ∀ q, B q → A0 q) (hR : ∀ U : State, U.heap = H → s.WarmedH U.vm → ∀ q ∈ rt1, va_T .int q.1 q.2.1 (fun j => .int (q.2.2 j)) B U U.heap) (ci q0 : Nat) (hc : vwCl[ci]? = some q) (he : ws[q0]? = some (b, .inr (ci, fs))) : PreV s H q.1 b (xP D tys tt rt1 B H.size wc (.ref b :: As)) As :=
  ⟨xP.blind, va_recv hK hP hc he, fun U hU hW => ⟨rfl, by rw [hU], by rw [hU]; exact hP.sub isC (xsub hC), va_K.moved hW.alike hK, (hD.sub isC hn hC).weaken (fun _ _ _ _ => trivial), hE.go hS hB hU hW (hR U hU hW)⟩⟩
theorem xR0 : ∀ U : State, U.heap = H → s.WarmedH U.vm → ∀ q ∈ ([] : List (Nat × Nat × (Nat → Int32))), va_T .int q.1 q.2.1 (fun j => .int (q.2.2 j)) B U U.heap := fun _ _ _ q h => absurd h List.not_mem_nil
theorem xRs (hS : va_S A0 s.heap H locs) (hE : xE tt rt A0 s s.heap) (hB : ∀ q, B q → A0 q) : ∀ U : State, U.heap = H → s.WarmedH U.vm → ∀ q ∈ rt, va_T .int q.1 q.2.1 (fun j => .int (q.2.2 j)) B U U.heap := by
  intro U hU hW q hq
  rw [hU]
  exact (((hE.2.2.2.2.2.2.2.2 q hq).kept hS.2.1).narrow hB).moved hW.alike
theorem x_ro {H0 : Heap} (hS : va_S A0 H0 H locs) (hA : ∀ q, H0.size ≤ q → A0 q) : ∀ q, va_A [] H.size q → A0 q := by
  intro q h
  rcases h with ⟨k, e, h⟩ | h
  · simp at h
  · exact hA q (Nat.le_trans hS.1 h)
/-- a call that changes nothing -/
theorem x_roi {H0 : Heap} {post : Int32 → Prop} (hr : va_Run p l e R s m args below meth c H locs cells slots 0 0 (F0 m pc ls st0) rest (va_Qi (fun r (_ : Unit) => post r) (fun _ _ => True) (va_A [] H.size) a) (va_A [] H.size)) (hS : va_S A0 H0 H locs) (hA : ∀ q, H0.size ≤ q → A0 q) (hP : va_P D vwCl ws H)
    (kk : ∀ (r : Int32) (H1 : Heap) (locs1 : List Loc), post r → va_P D vwCl ws H1 → va_S A0 H0 H1 locs1 → W p l e R s m args below meth c H1 locs1 cells slots Q (F0 m (pc + 3) ls (.int r :: rest))) : W p l e R s m args below meth c H locs cells slots Q (F0 m pc ls st0) := by
  refine va_calli hr hS (fun q _ h => x_ro hS hA q h) (x_ro hS hA) (fun r u t H1 locs1 ht hvm hw hB hz hk hS1 => kk r H1 locs1 hw (hP.kept fun k q hq => hk q.1 (hP k q hq).lt ?_) hS1)
  intro h
  have hl := (hP k q hq).lt
  rcases h with ⟨k, e, h⟩ | h
  · simp at h
  · omega
/-- a call that changes its world -/
theorem x_wri {H0 : Heap} {S : Type} {post : Int32 → S → Prop} {Wf : S → va_W} (hr : va_Run p l e R s m args below meth c H locs cells slots mc ms (F0 m pc ls st0) rest (va_Qi post (xB D tys (va_A wc H.size) Wf) (va_A wc H.size) a) (va_A wc H.size)) (hS : va_S A0 H0 H locs) (hA : ∀ q, H0.size ≤ q → A0 q) (hP : va_P D vwCl ws H) (hD : va_D A0 ws)
    (isC isR : List Nat) (hC : isC.map (fun i => ws[i]?) = wc.map some) (hR : isR.map (fun i => ws[i]?) = (isR.filterMap (fun i => ws[i]?)).map some) (hn : va_nd isR = true) (hdis : ∀ i ∈ isR, i ∉ isC)
    (kk : ∀ (r : Int32) (u : S) (H1 : Heap) (locs1 : List Loc), post r u → va_P D vwCl (isR.filterMap (fun i => ws[i]?) ++ Wf u) H1 → va_D A0 (isR.filterMap (fun i => ws[i]?) ++ Wf u) → va_S A0 H0 H1 locs1 → W p l e R s m args below meth c H1 locs1 (cells + mc) (slots + ms) Q (F0 m (pc + 3) ls (.int r :: rest))) : W p l e R s m args below meth c H locs cells slots Q (F0 m pc ls st0) := by
  have hF := va_free (wc := wc) hD hS hA isC hC
  refine va_calli hr hS (fun q _ h => hF q h) hF (fun r u t H1 locs1 ht hvm hw hB hz hk hS1 => ?_)
  obtain ⟨hP1, -, hD1⟩ := hB
  rw [ht] at hP1
  obtain ⟨g1, g2⟩ := va_join hP hD isC isR hC hR hn hdis hk hF hP1 hD1
  exact kk r u H1 locs1 hw g1 g2 hS1
theorem x_wrv {H0 : Heap} {S : Type} {post : S → Prop} {Wf : S → va_W} (hr : va_Run p l e R s m args below meth c H locs cells slots mc ms (F0 m pc ls st0) rest (va_Qv post (xB D tys (va_A wc H.size) Wf) (va_A wc H.size) a) (va_A wc H.size)) (hS : va_S A0 H0 H locs) (hA : ∀ q, H0.size ≤ q → A0 q) (hP : va_P D vwCl ws H) (hD : va_D A0 ws)
    (isC isR : List Nat) (hC : isC.map (fun i => ws[i]?) = wc.map some) (hR : isR.map (fun i => ws[i]?) = (isR.filterMap (fun i => ws[i]?)).map some) (hn : va_nd isR = true) (hdis : ∀ i ∈ isR, i ∉ isC)
    (kk : ∀ (u : S) (H1 : Heap) (locs1 : List Loc), post u → va_P D vwCl (isR.filterMap (fun i => ws[i]?) ++ Wf u) H1 → va_D A0 (isR.filterMap (fun i => ws[i]?) ++ Wf u) → va_S A0 H0 H1 locs1 → W p l e R s m args below meth c H1 locs1 (cells + mc) (slots + ms) Q (F0 m (pc + 3) ls rest)) : W p l e R s m args below meth c H locs cells slots Q (F0 m pc ls st0) := by
  have hF := va_free (wc := wc) hD hS hA isC hC
  refine va_callv hr hS (fun q _ h => hF q h) hF (fun u t H1 locs1 ht hvm hw hB hz hk hS1 => ?_)
  obtain ⟨hP1, -, hD1⟩ := hB
  rw [ht] at hP1
  obtain ⟨g1, g2⟩ := va_join hP hD isC isR hC hR hn hdis hk hF hP1 hD1
  exact kk u H1 locs1 hw g1 g2 hS1
theorem lv_cv {x y : Int32} (h : x = y) (k : W p l e R s m args below meth c H locs cells slots Q (F0 m pc ls (.int y :: rest))) : W p l e R s m args below meth c H locs cells slots Q (F0 m pc ls (.int x :: rest)) := by rw [h]; exact k
end XC
/-- a contract: reads alone -/
abbrev MetR (l : Launch) (y : MethodName) (wl : List Cond) (rm : Room) (D : va_G) (tys : List (ClassId × FieldType)) (tt : Nat → Nat) (rt : List (Nat × Nat × (Nat → Int32))) (sz : Nat) (ws : va_W) (av : List Value) (post : Int32 → Prop) : Prop := Met l y wl rm (xP D tys tt rt (va_A [] sz) sz ws av) (va_Qi (fun r (_ : Unit) => post r) (fun _ _ => True) (va_A [] sz)) 0 0 (va_A [] sz)
/-- a contract that answers a number and changes its world -/
abbrev MetI {S : Type} (l : Launch) (y : MethodName) (wl : List Cond) (rm : Room) (D : va_G) (tys : List (ClassId × FieldType)) (tt : Nat → Nat) (rt : List (Nat × Nat × (Nat → Int32))) (sz : Nat) (ws : va_W) (av : List Value) (Wf : S → va_W) (post : Int32 → S → Prop) : Prop := Met l y wl rm (xP D tys tt rt (va_A ws sz) sz ws av) (va_Qi post (xB D tys (va_A ws sz) Wf) (va_A ws sz)) 0 0 (va_A ws sz)
abbrev MetV {S : Type} (l : Launch) (y : MethodName) (wl : List Cond) (rm : Room) (D : va_G) (tys : List (ClassId × FieldType)) (tt : Nat → Nat) (rt : List (Nat × Nat × (Nat → Int32))) (sz : Nat) (ws : va_W) (av : List Value) (Wf : S → va_W) (post : S → Prop) : Prop := Met l y wl rm (xP D tys tt rt (va_A ws sz) sz ws av) (va_Qv post (xB D tys (va_A ws sz) Wf) (va_A ws sz)) 0 0 (va_A ws sz)

