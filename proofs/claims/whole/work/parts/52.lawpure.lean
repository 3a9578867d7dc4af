def kSm (k : K0) : Prop := k.2.2.2.2.1 < 2 ^ 31 ∧ k.2.2.2.2.2.1 < 32
theorem kAct_sm {x : Act} {k : K0} (h : kSm k) : kSm (kAct x k).1 := by
  have h1 := kBegin_lf k
  have h2 := kBegin_cu k
  cases x with
  | inl j => exact ⟨Nat.lt_of_le_of_lt h1 h.1, by show (kBegin k).1.2.2.2.2.2.1 < 32; rw [h2]; exact h.2⟩
  | inr q => exact ⟨Nat.lt_of_le_of_lt h1 h.1, by show (kBegin k).1.2.2.2.2.2.1 < 32; rw [h2]; exact h.2⟩
theorem kActs_sm {L : List Act} {k : K0} (h : kSm k) : kSm (kActs L k).1 := by
  induction L generalizing k with
  | nil => exact h
  | cons x r ih =>
    rw [kActs_cons]
    by_cases q : (kAct x k).2 = true
    · rw [if_pos q]; exact ih (kAct_sm h)
    · rw [if_neg q]; exact kAct_sm h
theorem insR_sm {k : K0} (h : kSm k) (tb : Nat → Int8) (tn : Nat) (rn : Bool) (rv x : Int32) : kSm (insR k tb tn rn rv x).2.1 := by
  unfold insR; split
  · exact h
  · split
    · exact h
    · split
      · exact h
      · split <;> exact kActs_sm h
theorem reqR_sm {k : K0} (h : kSm k) (rn : Bool) (rv : Int32) (g : Bool) : kSm (reqR k rn rv g).2.1 := by
  unfold reqR; split
  · exact h
  · split
    · exact h
    · split <;> exact kActs_sm h
theorem cfmR_sm {k : K0} (h : kSm k) (rn : Bool) (rv : Int32) : kSm (cfmR k rn rv).2.1 := by
  unfold cfmR; split
  · exact h
  · split
    · exact h
    · split
      · exact h
      · split <;> exact kActs_sm h
theorem bootR_sm {k : K0} (h : kSm k) (rn : Bool) (rv wb ee we : Int32) : kSm (bootR k rn rv wb ee we).2.1 := by
  unfold bootR; split
  · exact h
  · split
    · split <;> exact kActs_sm h
    · exact kActs_sm h
theorem law_c {L i : Nat} (hL : L ≤ 3072) (hi : i < 2 ^ 20) (h : ¬ nI L - nI 6 < nI i) : i + 6 ≤ L := by
  rw [Int32.lt_iff_toInt_lt, pk_sub_toInt (by omega) (by decide), nI_toInt (by omega)] at h
  omega
theorem end_le {tn : Nat} {x : Int32} (htn : tn ≤ 1024) : (if endB tn x = true then x.toNatClampNeg else tn) ≤ 1024 := by
  split
  · rename_i h
    have h2 := of_decide_eq_true h
    obtain ⟨n, hn, en⟩ := nI_of2 (n := tn) (nI_toInt (by omega)) h2.1 h2.2
    rw [en, nI_clamp (by omega)]; omega
  · exact htn
theorem cut_sm {k : K0} {x y : Int32} (h : kSm k) : kSm (if cutB k.2.2.1 x y = true then (k.1, k.2.1, k.2.2.1, true, x.toNatClampNeg, y.toNatClampNeg, k.2.2.2.2.2.2) else k) := by
  split
  · rename_i q
    have h2 := of_decide_eq_true q
    obtain ⟨n1, hn1, en1⟩ := le_of_nI (by decide) h2.1 h2.2.1
    obtain ⟨n2, hn2, en2⟩ := lt_of_nI (by decide) h2.2.2.1 h2.2.2.2.1
    refine ⟨?_, ?_⟩
    · show x.toNatClampNeg < 2 ^ 31; rw [en1, nI_clamp (by omega)]; omega
    · show y.toNatClampNeg < 32; rw [en2, nI_clamp (by omega)]; omega
  · exact h
