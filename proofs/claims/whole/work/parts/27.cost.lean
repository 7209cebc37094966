/-! Costs and steps (my words) -/
def sTwice (L : List sC) (i : Nat) : Bool := decide (0 < i) && sAlike (L.getD (i - 1) z0) (L.getD i z0)
def sAlone (q : Nat → Int32) (L : List sC) (i : Nat) : Nat := if sTwice L i = true then ix (q 3) else ix (q 2)
def sBes (q : Nat → Int32) (c d : sC) : Nat := if sLike c d (q 0) = 2 then ix (q 1) else ix (sLike c d (q 0))
/-- the least cost of the last a cells beside the last b cells -/
def dC (q : Nat → Int32) (A B : List sC) : Nat → Nat → Nat
  | 0, 0 => 0
  | a + 1, 0 => sAlone q A (A.length - (a + 1)) + dC q A B a 0
  | 0, b + 1 => sAlone q B (B.length - (b + 1)) + dC q A B 0 b
  | a + 1, b + 1 => min (min (sAlone q A (A.length - (a + 1)) + dC q A B a (b + 1)) (sAlone q B (B.length - (b + 1)) + dC q A B (a + 1) b)) (sBes q (A.getD (A.length - (a + 1)) z0) (B.getD (B.length - (b + 1)) z0) + dC q A B a b)
termination_by a b => a + b
def sAl (L : List sC) (i : Nat) : Int32 := if sTwice L i = true then 4 else 3
/-- the steps of the last a cells beside the last b cells -/
def sSteps (q : Nat → Int32) (A B : List sC) : Nat → Nat → List sStep
  | 0, 0 => []
  | a + 1, 0 => (1, nI (A.length - (a + 1)), -4, sAl A (A.length - (a + 1)), nI (sAlone q A (A.length - (a + 1)))) :: sSteps q A B a 0
  | 0, b + 1 => (2, -4, nI (B.length - (b + 1)), sAl B (B.length - (b + 1)), nI (sAlone q B (B.length - (b + 1)))) :: sSteps q A B 0 b
  | a + 1, b + 1 =>
    if sBes q (A.getD (A.length - (a + 1)) z0) (B.getD (B.length - (b + 1)) z0) + dC q A B a b = dC q A B (a + 1) (b + 1) then
      (0, nI (A.length - (a + 1)), nI (B.length - (b + 1)), sLike (A.getD (A.length - (a + 1)) z0) (B.getD (B.length - (b + 1)) z0) (q 0), nI (sBes q (A.getD (A.length - (a + 1)) z0) (B.getD (B.length - (b + 1)) z0))) :: sSteps q A B a b
    else if sAlone q A (A.length - (a + 1)) + dC q A B a (b + 1) = dC q A B (a + 1) (b + 1) then
      (1, nI (A.length - (a + 1)), -4, sAl A (A.length - (a + 1)), nI (sAlone q A (A.length - (a + 1)))) :: sSteps q A B a (b + 1)
    else (2, -4, nI (B.length - (b + 1)), sAl B (B.length - (b + 1)), nI (sAlone q B (B.length - (b + 1)))) :: sSteps q A B (a + 1) b
termination_by a b => a + b
theorem sSteps_len (q : Nat → Int32) (A B : List sC) : ∀ a b, (sSteps q A B a b).length ≤ a + b
  | 0, 0 => by rw [sSteps]; exact Nat.le_refl _
  | a + 1, 0 => by rw [sSteps, List.length_cons]; have := sSteps_len q A B a 0; omega
  | 0, b + 1 => by rw [sSteps, List.length_cons]; have := sSteps_len q A B 0 b; omega
  | a + 1, b + 1 => by
    rw [sSteps]
    have h1 := sSteps_len q A B a b
    have h2 := sSteps_len q A B a (b + 1)
    have h3 := sSteps_len q A B (a + 1) b
    split
    · rw [List.length_cons]; omega
    · split
      · rw [List.length_cons]; omega
      · rw [List.length_cons]; omega
termination_by a b => a + b
theorem ix_le {x : Int32} {n : Nat} (hn : n < 2 ^ 31) (h : x ≤ nI n) : ix x ≤ n := by
  have := Int32.le_iff_toInt_le.mp h
  rw [nI_toInt hn] at this
  show x.toInt.toNat ≤ n
  omega
theorem sAlone_le {q : Nat → Int32} (h : rateOk q) (L : List sC) (i : Nat) : sAlone q L i ≤ 9 := by
  unfold sAlone
  split
  · exact ix_le (n := 9) (by decide) h.2.2.2.2.2.2.2
  · exact ix_le (n := 9) (by decide) h.2.2.2.2.2.1
theorem sLike_le (c d : sC) (t : Int32) : sLike c d t = 0 ∨ sLike c d t = 1 ∨ sLike c d t = 2 := by
  unfold sLike
  split
  · exact Or.inl rfl
  · split
    · exact Or.inr (Or.inl rfl)
    · exact Or.inr (Or.inr rfl)
theorem sBes_le {q : Nat → Int32} (h : rateOk q) (c d : sC) : sBes q c d ≤ 9 := by
  unfold sBes
  split
  · exact ix_le (n := 9) (by decide) h.2.2.2.1
  · rcases sLike_le c d (q 0) with e | e | e <;> rw [e] <;> decide
theorem dC_le {q : Nat → Int32} (h : rateOk q) (A B : List sC) : ∀ a b, dC q A B a b ≤ 9 * (a + b)
  | 0, 0 => by rw [dC]; exact Nat.zero_le _
  | a + 1, 0 => by rw [dC]; have := dC_le h A B a 0; have := sAlone_le h A (A.length - (a + 1)); omega
  | 0, b + 1 => by rw [dC]; have := dC_le h A B 0 b; have := sAlone_le h B (B.length - (b + 1)); omega
  | a + 1, b + 1 => by
    rw [dC]
    have h1 := dC_le h A B a b
    have h2 := sBes_le h (A.getD (A.length - (a + 1)) z0) (B.getD (B.length - (b + 1)) z0)
    omega
termination_by a b => a + b
theorem nI_ix {x : Int32} (h : 0 ≤ x) : nI (ix x) = x := by
  apply Int32.toInt_inj.mp
  have h1 := Int32.le_iff_toInt_le.mp h
  have h2 := x.toInt_lt
  rw [show (0 : Int32).toInt = 0 from by decide] at h1
  have e : ((ix x : Nat) : Int) = x.toInt := Int.toNat_of_nonneg h1
  rw [nI_toInt (by omega), e]
theorem tw0 {L : List sC} {i : Nat} (h : nI i ≤ 0) (hi : i < 2 ^ 31) : ¬ sTwice L i = true := by
  have := (nI_le0 hi).mp h
  subst this
  unfold sTwice
  rw [decide_eq_false (by omega), Bool.false_and]
  exact Bool.false_ne_true
theorem tw1 {L : List sC} {i : Nat} : sTwice L (i + 1) = true ↔ sAlike (L.getD i z0) (L.getD (i + 1) z0) = true := by
  unfold sTwice
  rw [decide_eq_true (by omega), Bool.true_and, Nat.add_sub_cancel]
/-- a cell of a row -/
theorem row_at {S : sMS} {k : Nat} {A : sA} (hA : mRowIs S k A) (hk : k < 26) {i : Nat} (hi : i < A.2.length) : vp_in (nI (20 * k + i)) 880 ∧ mc S (nI (20 * k + i)).toNatClampNeg = A.2.getD i z0 ∧ sOk (A.2.getD i z0) := by
  have hl := hA.2.2.1.2.2.1
  have hm : A.2.getD i z0 ∈ A.2 := by
    rw [List.getD_eq_getElem?_getD, List.getElem?_eq_getElem hi]
    exact List.getElem_mem hi
  rw [nI_clamp (show 20 * k + i < 2 ^ 31 by omega)]
  exact ⟨vp_in_nI (by omega) (by decide), hA.2.2.2 i hi, (hA.2.2.1.2.2.2 _ hm).1⟩

set_option maxHeartbeats 4000000 in
set_option maxRecDepth 100000 in
/-- X10_isTwice -/
theorem q_isTwice (g : zG) (h : zH) (m : Nat) (S : sMS) (k i : Nat) (A : sA) (hA : mRowIs S k A) (hk : k < 26) (hi : i < A.2.length) : zX g yX10_isTwice cX10_isTwice 3 (some .boolean) rmX10_isTwice [.ref m, .int (nI k), .int (nI i)] (mUp m S h) (.int (if sTwice A.2 i = true then 1 else 0)) (mUp m S h) := by
  refine zM_of (by decide) (Nat.le_of_ble_eq_true rfl) ?_
  refine z_iload_n dX10_isTwice_0 rfl rfl ?_
  refine z_if_le (tgt := 29) dX10_isTwice_1 rfl (by decide) (fun c1 => ?_) (fun c1 => ?_)
  · skip
    refine z_iconst (v := 0) dX10_isTwice_29 rfl (by decide) ?_
    exact z_zret dX10_isTwice_30 rfl rfl rfl ⟨by first | rw [if_neg (tw0 c1 (by have := hA.2.2.1.2.2.1; omega))] | rw [if_pos (tw1.mpr c22)] | rw [if_neg (fun q => c22 (tw1.mp q))], rfl⟩ (Nat.le_of_ble_eq_true rfl) (Nat.le_of_ble_eq_true rfl)
  · skip
    have hl : A.2.length ≤ 20 := hA.2.2.1.2.2.1
    have hi0 : 0 < i := Nat.pos_of_ne_zero (fun z => c1 ((nI_le0 (by omega)).mpr z))
    obtain ⟨i1, rfl⟩ : ∃ i1, i = i1 + 1 := ⟨i - 1, by omega⟩
    have q1 := row_at hA hk (show i1 < A.2.length by omega)
    have q2 := row_at hA hk hi
    first | refine z_aload_n dX10_isTwice_4 rfl rfl ?_ | refine z_aload_nN dX10_isTwice_4 rfl rfl ?_
    refine z_bipush (v := 20) dX10_isTwice_5 rfl (by decide) ?_
    refine z_iload_n dX10_isTwice_7 rfl rfl ?_
    refine z_imul dX10_isTwice_8 rfl ?_
    refine z_iload_n dX10_isTwice_9 rfl rfl ?_
    refine z_iadd dX10_isTwice_10 rfl ?_
    refine z_iconst (v := 1) dX10_isTwice_11 rfl (by decide) ?_
    refine z_isub dX10_isTwice_12 rfl ?_
    rw [n20, show nI (20 * k + (i1 + 1)) - 1 = nI (20 * k + i1) from nI_pred (20 * k + i1)]
    refine z_bipush (v := 20) dX10_isTwice_13 rfl (by decide) ?_
    refine z_iload_n dX10_isTwice_15 rfl rfl ?_
    refine z_imul dX10_isTwice_16 rfl ?_
    refine z_iload_n dX10_isTwice_17 rfl rfl ?_
    refine z_iadd dX10_isTwice_18 rfl ?_
    rw [n20]
    refine zcx_X10_112 rfl dX10_isTwice_19 rfl mo_recv (r_areAlike g h m S _ _ q1.1 q2.1 (by rw [q1.2.1]; exact q1.2.2) (by rw [q2.2.1]; exact q2.2.2)) rfl rfl ⟨(Nat.le_of_ble_eq_true rfl), (Nat.le_of_ble_eq_true rfl)⟩ ⟨(Nat.le_of_ble_eq_true rfl), (Nat.le_of_ble_eq_true rfl)⟩ (Nat.le_of_ble_eq_true rfl) ?_
    rw [q1.2.1, q2.2.1]
    refine z_bif_eq (tgt := 29) dX10_isTwice_22 rfl (by decide) (fun c22 => ?_) (fun c22 => ?_)
    · skip
      refine z_iconst (v := 0) dX10_isTwice_29 rfl (by decide) ?_
      exact z_zret dX10_isTwice_30 rfl rfl rfl ⟨by first | rw [if_neg (tw0 c1 (by have := hA.2.2.1.2.2.1; omega))] | rw [if_pos (tw1.mpr c22)] | rw [if_neg (fun q => c22 (tw1.mp q))], rfl⟩ (Nat.le_of_ble_eq_true rfl) (Nat.le_of_ble_eq_true rfl)
    · skip
      refine z_iconst (v := 1) dX10_isTwice_25 rfl (by decide) ?_
      refine z_goto (tgt := 30) dX10_isTwice_26 rfl (by decide) ?_
      exact z_zret dX10_isTwice_30 rfl rfl rfl ⟨by first | rw [if_neg (tw0 c1 (by have := hA.2.2.1.2.2.1; omega))] | rw [if_pos (tw1.mpr c22)] | rw [if_neg (fun q => c22 (tw1.mp q))], rfl⟩ (Nat.le_of_ble_eq_true rfl) (Nat.le_of_ble_eq_true rfl)

