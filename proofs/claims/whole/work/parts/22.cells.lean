/-! Cells: what is laid is a cell, and fits -/
theorem sInto_7 {s k : Int32} (h : sInto s k = true) (hk : k ≤ 7) : sNum s ∧ (s = k ∨ (0 < s ∧ s < k ∧ 3 ≤ k ∧ (s ≠ 2 ∨ k ≠ 3))) := by
  unfold sInto at h
  rw [if_neg (by grind), if_neg (by grind)] at h
  split at h
  · cases h
  · rename_i q
    exact ⟨Classical.byContradiction fun z => q z, by simpa using h⟩
theorem sOk_le {c : sC} (h : sOk c) : 0 ≤ c.1 ∧ c.1 ≤ 10 := ⟨h.1, h.2.1⟩
theorem sConv_ok {c : sC} {k : Int32} (h : sOk c) (hk : 0 ≤ k ∧ k ≤ 10) (hf : sInto c.1 k = true) : sOk (sConv c k) ∧ sFit (sConv c k) k := by
  unfold sConv
  by_cases h7 : 7 < k
  · rw [if_pos h7]
    exact ⟨h, fun q => absurd h7 (by grind), fun _ => hf⟩
  · rw [if_neg h7]
    have hk7 : k ≤ 7 := by grind
    obtain ⟨hn, hs⟩ := sInto_7 hf hk7
    by_cases h6 : 6 ≤ k
    · rw [if_pos h6]
      refine ⟨⟨hk.1, hk.2, fun q => ⟨rfl, ?_⟩, fun q => ⟨rfl, sReal_ok h hn.2 k⟩, fun a b => absurd a (by grind), fun q => absurd h6 (by rw [show k = 0 from q]; decide), fun q => absurd hk7 (by rw [show k = 9 from q]; decide)⟩, fun _ => rfl, fun q => absurd q h7⟩
      have q6 : k = 6 := q
      subst q6
      unfold sReal
      by_cases c6 : 6 ≤ c.1
      · rw [if_pos c6]
        exact (h.2.2.1 (by grind)).2
      · rw [if_neg c6, if_pos rfl]
        exact ⟨_, rfl, okS_l2f _⟩
    · rw [if_neg h6]
      refine ⟨⟨hk.1, hk.2, fun q => absurd h6 (by rw [show k = 6 from q]; decide), fun q => absurd h6 (by rw [show k = 7 from q]; decide), fun _ _ => rfl, fun q => ?_, fun q => absurd hk7 (by rw [show k = 9 from q]; decide)⟩, fun _ => rfl, fun q => absurd q h7⟩
      have q0 : k = 0 := q
      subst q0
      exact h.2.2.2.2.2.1 (by grind)
theorem and1 (v : Int32) : (v &&& 1).toInt64 = 0 ∨ (v &&& 1).toInt64 = 1 := by
  have : v &&& 1 = nI (v.toBitVec.toNat % 2 ^ 1) := pk_and v 1 (by decide)
  rw [this]
  have h2 : v.toBitVec.toNat % 2 ^ 1 = 0 ∨ v.toBitVec.toNat % 2 ^ 1 = 1 := by omega
  rcases h2 with q | q <;> rw [q]
  · exact Or.inl (by decide)
  · exact Or.inr (by decide)
theorem sVal_1 (s v : Int32) : (sVal s v).1 = s := by
  unfold sVal
  repeat' split
  all_goals rfl
theorem sVal_ok {s : Int32} (v : Int32) (h : 0 ≤ s ∧ s ≤ 10) : sOk (sVal s v) := by
  refine ⟨by rw [sVal_1]; exact h.1, by rw [sVal_1]; exact h.2, fun q => ?_, fun q => ?_, fun a b => ?_, fun q => ?_, fun q => ?_⟩
  · rw [sVal_1] at q
    subst q
    exact ⟨rfl, _, rfl, okS_val v⟩
  · rw [sVal_1] at q
    subst q
    exact ⟨rfl, okD_val v⟩
  · rw [sVal_1] at a b
    unfold sVal
    repeat' split
    all_goals first | rfl | (exfalso; grind)
  · rw [sVal_1] at q
    subst q
    exact and1 v
  · rw [sVal_1] at q
    subst q
    rfl
theorem rec_ge {r : Int32} (h : isRec r) : ¬ r < 0 := by grind
/-- the fault, and what it is not -/
theorem af_0 {R : sR} {r : Nat} {i : Int} {k : Int32} (h : ¬ 0 < askF R r i k) : ¬ 0 < cellF R r i ∧ (R.2.1 r).1 ≤ 7 ∧ sInto (R.2.1 r).1 k = true := by
  unfold askF at h
  split at h
  · rename_i q; exact absurd q h
  · rename_i q
    unfold readF at h
    refine ⟨q, ?_⟩
    split at h
    · exact absurd (by decide) h
    · split at h
      · rename_i a b; exact ⟨by grind, b⟩
      · exact absurd (by decide) h
theorem pf_0 {R : sR} {r : Nat} {i : Int} {k : Int32} (h : ¬ 0 < putF R r i k) : ¬ 0 < cellF R r i ∧ (R.2.1 r).1 ≤ 7 ∧ sInto k (R.2.1 r).1 = true := by
  unfold putF at h
  split at h
  · rename_i q; exact absurd q h
  · rename_i q
    refine ⟨q, ?_⟩
    split at h
    · exact absurd (by decide) h
    · split at h
      · rename_i a b; exact ⟨by grind, b⟩
      · exact absurd (by decide) h
theorem lf_0 {R : sR} {r : Nat} {i : Int} {k : Int32} (h : ¬ 0 < layF R r i k) : ¬ 0 < cellF R r i ∧ sInto k (R.2.1 r).1 = true := by
  unfold layF at h
  split at h
  · rename_i q; exact absurd q h
  · rename_i q
    refine ⟨q, ?_⟩
    split at h
    · assumption
    · exact absurd (by decide) h
