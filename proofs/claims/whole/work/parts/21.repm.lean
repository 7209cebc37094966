/-! The reference's state stands for a world: what the small methods answer in it, and how it moves -/
theorem rec_in {r : Int32} (h : isRec r) : vp_in r 8 := by
  rw [vp_in_iff]
  have h1 := Int32.le_iff_toInt_le.mp h.1
  have h2 := Int32.le_iff_toInt_le.mp h.2
  have e0 : (0 : Int32).toInt = 0 := by decide
  have e7 : (7 : Int32).toInt = 7 := by decide
  omega
theorem ix_lt {r : Int32} (h : isRec r) : ix r < 8 := in_lt (rec_in h)
theorem nI_neg {k : Nat} (hk : k < 2 ^ 31) {x : Int32} (hx : x.toInt < 0) : nI k ≠ x := by
  intro e
  rw [← e, nI_toInt hk] at hx
  omega
theorem rep_row {S : sMS} {R : sR} (h : rRep (S.1 6) (mRowIs S) R) {r : Nat} (hr : r < 8) (h2 : R.1 r = 2) : ∃ k, k < 8 ∧ S.1 6 r = nI k ∧ mRowIs S k (R.2.1 r) := by
  rcases h.1 r hr with q | q | q
  · omega
  · omega
  · exact q.2
theorem rep_rf {S : sMS} {R : sR} (h : rRep (S.1 6) (mRowIs S) R) {r : Int32} (hr : ix r < 8) : mRF S r = rowF R (ix r) := by
  unfold mRF rowF
  rcases h.1 _ hr with q | q | ⟨q, k, hk, q2, -⟩
  · rw [q.1, q.2]; rfl
  · rw [q.1, q.2]; rfl
  · rw [q2, q, if_neg (nI_neg (by omega) (by decide)), if_neg (nI_neg (by omega) (by decide))]; rfl
theorem rf_2 {R : sR} {r : Nat} (h : R.1 r = 0 ∨ R.1 r = 1 ∨ R.1 r = 2) (h0 : ¬ 0 < rowF R r) : R.1 r = 2 := by
  unfold rowF at h0
  rcases h with q | q | q
  · rw [if_pos q] at h0; exact absurd (by decide) h0
  · rw [if_neg (by omega), if_pos q] at h0; exact absurd (by decide) h0
  · exact q
theorem rep_st {S : sMS} {R : sR} (h : rRep (S.1 6) (mRowIs S) R) {r : Nat} (hr : r < 8) : R.1 r = 0 ∨ R.1 r = 1 ∨ R.1 r = 2 := by
  rcases h.1 r hr with q | q | q
  · exact Or.inl q.1
  · exact Or.inr (Or.inl q.1)
  · exact Or.inr (Or.inr q.1)
theorem rep_holds {S : sMS} {R : sR} (h : rRep (S.1 6) (mRowIs S) R) : mHolds S := by
  intro r hr
  rcases h.1 r hr with q | q | ⟨-, k, hk, q, -⟩
  · exact Or.inl q.2
  · exact Or.inr (Or.inl q.2)
  · exact Or.inr (Or.inr ⟨k, hk, q⟩)
theorem nI_m1_l {n : Nat} (hn : n ≤ 20) : ((nI n - 1).toInt64).toInt = (n : Int) - 1 := by
  rw [Int32.toInt_toInt64]
  rcases Nat.eq_zero_or_pos n with q | q
  · subst q; decide
  · rw [show nI n - 1 = nI (n - 1) from by
      have := nI_pred (n - 1)
      rwa [show n - 1 + 1 = n by omega] at this, nI_toInt (by omega)]
    omega
theorem rep_cf {S : sMS} {R : sR} (h : rRep (S.1 6) (mRowIs S) R) {r : Int32} (hr : ix r < 8) (i : Int64) : mCF S r i = cellF R (ix r) i.toInt := by
  unfold mCF cellF
  rw [rep_rf h hr]
  by_cases h0 : 0 < rowF R (ix r)
  · rw [if_pos h0, if_pos h0]
  · rw [if_neg h0, if_neg h0]
    obtain ⟨k, hk, e, hA⟩ := rep_row h hr (rf_2 (rep_st h hr) h0)
    rw [e, nI_clamp (by omega), hA.2.1]
    have hn := hA.2.2.1.2.2.1
    have e1 : (0 ≤ i ∧ i ≤ (nI (R.2.1 (ix r)).2.length - 1).toInt64) ↔ (0 ≤ i.toInt ∧ i.toInt < ((R.2.1 (ix r)).2.length : Int)) := by
      rw [Int64.le_iff_toInt_le, Int64.le_iff_toInt_le, nI_m1_l hn, show (0 : Int64).toInt = 0 from by decide]
      omega
    by_cases c : 0 ≤ i.toInt ∧ i.toInt < ((R.2.1 (ix r)).2.length : Int)
    · rw [if_pos c, if_pos (e1.mpr c)]
    · rw [if_neg c, if_neg (fun q => c (e1.mp q))]
theorem rep_kind {S : sMS} {R : sR} (h : rRep (S.1 6) (mRowIs S) R) {r : Nat} (hr : r < 8) (h2 : R.1 r = 2) : S.1 4 (S.1 6 r).toNatClampNeg = (R.2.1 r).1 ∧ S.1 5 (S.1 6 r).toNatClampNeg = nI (R.2.1 r).2.length ∧ vp_in (S.1 6 r) 27 ∧ aOk (R.2.1 r) := by
  obtain ⟨k, hk, e, hA⟩ := rep_row h hr h2
  rw [e, nI_clamp (by omega)]
  exact ⟨hA.1, hA.2.1, vp_in_nI (by omega) (by decide), hA.2.2.1⟩
/-- a cell's place -/
theorem rep_cell {S : sMS} {R : sR} (h : rRep (S.1 6) (mRowIs S) R) {r : Nat} {i : Int32} (hr : r < 8) (h2 : R.1 r = 2) (h0 : 0 ≤ i.toInt) (h1 : i.toInt < (R.2.1 r).2.length) : vp_in (20 * S.1 6 r + i) 880 ∧ mc S (20 * S.1 6 r + i).toNatClampNeg = rCell R r (ix i) ∧ sOk (rCell R r (ix i)) ∧ ix i < (R.2.1 r).2.length ∧ ∃ k, k < 8 ∧ S.1 6 r = nI k ∧ mRowIs S k (R.2.1 r) ∧ (20 * S.1 6 r + i).toNatClampNeg = 20 * k + ix i := by
  obtain ⟨k, hk, e, hA⟩ := rep_row h hr h2
  have hn := hA.2.2.1.2.2.1
  obtain ⟨j, hj, rfl⟩ := vp_in_of (x := i) (n := (R.2.1 r).2.length) (vp_in_iff.mpr ⟨h0, h1⟩) (by omega)
  have hix : ix (nI j) = j := nI_clamp (by omega)
  rw [e, n20, nI_clamp (show 20 * k + j < 2 ^ 31 by omega), hix]
  have hm : (R.2.1 r).2.getD j z0 ∈ (R.2.1 r).2 := by
    rw [List.getD_eq_getElem?_getD, List.getElem?_eq_getElem hj]
    exact List.getElem_mem hj
  exact ⟨vp_in_nI (by omega) (by decide), hA.2.2.2 j hj, (hA.2.2.1.2.2.2 _ hm).1, hj, k, hk, rfl, hA, rfl⟩
theorem cf_0 {R : sR} {r : Nat} {i : Int} (h : ¬ 0 < cellF R r i) : ¬ 0 < rowF R r ∧ 0 ≤ i ∧ i < (R.2.1 r).2.length := by
  unfold cellF at h
  by_cases h0 : 0 < rowF R r
  · rw [if_pos h0] at h; exact absurd h0 h
  · rw [if_neg h0] at h
    by_cases c : 0 ≤ i ∧ i < ((R.2.1 r).2.length : Int)
    · exact ⟨h0, c⟩
    · rw [if_neg c] at h; exact absurd (by decide) h
/-- a method's end, in the world -/
def mPost (m : Nat) (h : zH) (ans : Int32 × sW) : Option Value → zH → Prop := fun v h1 => ∃ S', v = some (.int ans.1) ∧ h1 = mUp m S' h ∧ RepM S' ans.2
theorem mPost_of {m : Nat} {h : zH} {ans : Int32 × sW} {x : Int32} {S' : sMS} {w' : sW} (hR : RepM S' w') (e : ans = (x, w')) : mPost m h ans (some (.int x)) (mUp m S' h) := ⟨S', by rw [e], rfl, by rw [e]; exact hR⟩
/-- a new row: k, that nobody else holds -/
theorem rep_new {S S' : sMS} {R : sR} {r : Int32} {k : Nat} {A : sA} (h : rRep (S.1 6) (mRowIs S) R) (hr : ix r < 8) (hk : k < 8) (hf : mFresh S r k) (h6 : S'.1 6 = upd (S.1 6) (ix r) (nI k)) (hA : mRowIs S' k A) (ho : ∀ j, j < 8 → j ≠ k → S'.1 4 j = S.1 4 j ∧ S'.1 5 j = S.1 5 j ∧ ∀ i, i < 20 → mc S' (20 * j + i) = mc S (20 * j + i)) : rRep (S'.1 6) (mRowIs S') (rNew R (ix r) A) := by
  have hup : ∀ x, S'.1 6 x = if x = ix r then nI k else S.1 6 x := fun x => by rw [h6]; rfl
  refine ⟨fun x hx => ?_, fun x y hx hy h2x h2y => ?_⟩
  · rw [hup]
    by_cases e : x = ix r
    · subst e
      refine Or.inr (Or.inr ⟨by simp [rNew], k, hk, by simp, ?_⟩)
      simpa [rNew] using hA
    · simp only [rNew, if_neg e]
      rcases h.1 x hx with q | q | ⟨q, j, hj, q2, q3⟩
      · exact Or.inl q
      · exact Or.inr (Or.inl q)
      · refine Or.inr (Or.inr ⟨q, j, hj, q2, ?_⟩)
        have hjk : j ≠ k := fun z => hf x hx e (by rw [q2, z])
        obtain ⟨o1, o2, o3⟩ := ho j hj hjk
        obtain ⟨a1, a2, a3, a4⟩ := q3
        have := a3.2.2.1
        exact ⟨o1.trans a1, o2.trans a2, a3, fun i hi => by rw [o3 i (by omega)]; exact a4 i hi⟩
  · simp only [rNew]
    rw [hup, hup]
    by_cases ex : x = ix r
    · by_cases ey : y = ix r
      · simp [ex, ey]
      · have : S.1 6 y ≠ nI k := hf y hy ey
        simp only [ex, ey, if_true, if_false, true_or, decide_eq_true_eq]
        exact ⟨fun q => absurd q.symm ey, fun q => absurd q.symm this⟩
    · by_cases ey : y = ix r
      · have : S.1 6 x ≠ nI k := hf x hx ex
        simp only [ex, ey, if_true, if_false, or_true, decide_eq_true_eq]
        exact ⟨fun q => q.elim, fun q => absurd q this⟩
      · simp only [ex, ey, if_false, or_self]
        simp only [rNew, if_neg ex] at h2x
        simp only [rNew, if_neg ey] at h2y
        exact h.2 x y hx hy h2x h2y
theorem rep_stat {S S' : sMS} {R : sR} {r : Nat} {st : Nat} {v : Int32} (h : rRep (S.1 6) (mRowIs S) R) (hst : (st = 0 ∧ v = -1) ∨ (st = 1 ∧ v = -2)) (h6 : S'.1 6 = upd (S.1 6) r v) (ho : ∀ j A, mRowIs S j A → mRowIs S' j A) : rRep (S'.1 6) (mRowIs S') (rStat R r st) := by
  have hup : ∀ x, S'.1 6 x = if x = r then v else S.1 6 x := fun x => by rw [h6]; rfl
  refine ⟨fun x hx => ?_, fun x y hx hy h2x h2y => ?_⟩
  · rw [hup]
    by_cases e : x = r
    · simp only [rStat, e, if_true]
      rcases hst with ⟨q1, q2⟩ | ⟨q1, q2⟩
      · exact Or.inl ⟨q1, q2⟩
      · exact Or.inr (Or.inl ⟨q1, q2⟩)
    · simp only [rStat, if_neg e]
      rcases h.1 x hx with q | q | ⟨q, j, hj, q2, q3⟩
      · exact Or.inl q
      · exact Or.inr (Or.inl q)
      · exact Or.inr (Or.inr ⟨q, j, hj, q2, ho j _ q3⟩)
  · have ex : x ≠ r := fun e => by simp only [rStat, e, if_true] at h2x; omega
    have ey : y ≠ r := fun e => by simp only [rStat, e, if_true] at h2y; omega
    simp only [rStat, if_neg ex] at h2x
    simp only [rStat, if_neg ey] at h2y
    rw [hup, hup, if_neg ex, if_neg ey]
    exact h.2 x y hx hy h2x h2y
theorem rep_share {S S' : sMS} {R : sR} {r s : Nat} (h : rRep (S.1 6) (mRowIs S) R) (hs : s < 8) (h6 : S'.1 6 = upd (S.1 6) r (S.1 6 s)) (ho : ∀ j A, mRowIs S j A → mRowIs S' j A) : rRep (S'.1 6) (mRowIs S') (rShare R r s) := by
  have hup : ∀ x, S'.1 6 x = S.1 6 (if x = r then s else x) := fun x => by rw [h6]; unfold upd; split <;> rfl
  have hlt : ∀ x, x < 8 → (if x = r then s else x) < 8 := fun x hx => by split <;> assumption
  refine ⟨fun x hx => ?_, fun x y hx hy h2x h2y => ?_⟩
  · rw [hup]
    rcases h.1 _ (hlt x hx) with q | q | ⟨q, j, hj, q2, q3⟩
    · exact Or.inl q
    · exact Or.inr (Or.inl q)
    · exact Or.inr (Or.inr ⟨q, j, hj, q2, ho j _ q3⟩)
  · rw [hup, hup]
    exact h.2 _ _ (hlt x hx) (hlt y hy) h2x h2y
/-- a cell is written -/
theorem rep_set {S S' : sMS} {R : sR} {r k i : Nat} {c : sC} (h : rRep (S.1 6) (mRowIs S) R) (hr : r < 8) (h2 : R.1 r = 2) (hk : S.1 6 r = nI k) (hk8 : k < 8) (hi : i < (R.2.1 r).2.length) (hc : sOk c ∧ sFit c (R.2.1 r).1) (h1 : ∀ j, j ≠ 1 → S'.1 j = S.1 j) (hm : ∀ a, a < 160 → mc S' a = if a = 20 * k + i then c else mc S a) : rRep (S'.1 6) (mRowIs S') (rSet R r i c) := by
  have h6 := h1 6 (by decide)
  have h4 := h1 4 (by decide)
  have h5 := h1 5 (by decide)
  refine ⟨fun x hx => ?_, fun x y hx hy h2x h2y => ?_⟩
  · rw [h6]
    rcases h.1 x hx with q | q | ⟨q, j, hj, q2, q3⟩
    · exact Or.inl q
    · exact Or.inr (Or.inl q)
    · refine Or.inr (Or.inr ⟨q, j, hj, q2, ?_⟩)
      have hsame := h.2 x r hx hr q h2
      obtain ⟨a1, a2, a3, a4⟩ := q3
      have hlen := a3.2.2.1
      by_cases e : j = k
      · subst e
        have ht : R.2.2 x r = true := hsame.mpr (by rw [q2, hk])
        obtain ⟨k', hk', e', hA'⟩ := rep_row h hr h2
        have ekk : k' = j := (nI_eq (by omega) (by omega)).mp (e'.symm.trans hk)
        subst ekk
        simp only [rSet, rWrite, ht, if_true]
        refine ⟨by rw [h4]; exact hA'.1, by rw [h5, List.length_set]; exact hA'.2.1, ⟨hA'.2.2.1.1, hA'.2.2.1.2.1, by rw [List.length_set]; exact hA'.2.2.1.2.2.1, fun d hd => ?_⟩, fun b hb => ?_⟩
        · rcases List.mem_or_eq_of_mem_set hd with z | z
          · exact hA'.2.2.1.2.2.2 d z
          · rw [z]; exact hc
        · rw [List.length_set] at hb
          have := hA'.2.2.1.2.2.1
          rw [hm _ (by omega)]
          by_cases eb : b = i
          · subst eb
            rw [if_pos rfl, List.getD_eq_getElem?_getD, List.getElem?_set_self (by omega)]
            rfl
          · rw [if_neg (by omega), List.getD_eq_getElem?_getD, List.getElem?_set_ne (fun z => eb z.symm), ← List.getD_eq_getElem?_getD]
            exact hA'.2.2.2 b hb
      · have hf : ¬ R.2.2 x r = true := fun z => by
          have := hsame.mp z
          rw [q2, hk] at this
          exact e ((nI_eq (by omega) (by omega)).mp this)
        rw [show (rSet R r i c).2.1 x = R.2.1 x from if_neg hf]
        obtain ⟨k', hk', e', hA'⟩ := rep_row h hr h2
        have ekk : k' = k := (nI_eq (by omega) (by omega)).mp (e'.symm.trans hk)
        have hlr := hA'.2.2.1.2.2.1
        refine ⟨by rw [h4]; exact a1, by rw [h5]; exact a2, a3, fun b hb => ?_⟩
        rw [hm _ (by omega), if_neg (by omega)]
        exact a4 b hb
  · rw [h6]
    exact h.2 x y hx hy h2x h2y
theorem agree_1 {S S' : sMS} (h1 : ∀ j, j ≠ 1 → j ≠ 4 → j ≠ 5 → j ≠ 6 → S'.1 j = S.1 j) (h45 : ∀ k, 8 ≤ k → S'.1 4 k = S.1 4 k ∧ S'.1 5 k = S.1 5 k) (hm : ∀ a, (160 ≤ a ∧ a < 520) ∨ 560 ≤ a → mc S' a = mc S a) (hs : S'.2.2.2.1 10 = S.2.2.2.1 10 ∧ S'.2.2.2.1 11 = S.2.2.2.1 11 ∧ S'.2.2.2.1 12 = S.2.2.2.1 12) : agree S S' :=
  ⟨fun j hj => h1 j (by omega) (by omega) (by omega) (by omega), fun k h8 _ => h45 k h8, hm, hs.1, hs.2.1, hs.2.2⟩
