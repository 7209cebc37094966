/-! Costs and steps (my words) -/
def sTwice (L : List sC) (i : Nat) : Bool := decide (0 < i) && sAlike (L.getD (i - 1) z0) (L.getD i z0)
def sAlone (q : Nat → Int32) (L : List sC) (i : Nat) : Nat := if sTwice L i = true then ix (q 3) else ix (q 2)
def sBes (q : Nat → Int32) (c d : sC) : Nat := if sLike c d (q 0) = 2 then ix (q 1) else ix (sLike c d (q 0))
/-- the least cost of the last a cells beside the last b cells -/
def dC (q : Nat → Int32) (A B : List sC) : Nat → Nat → Nat
  | 0, 0 => 0
  | a + 1, 0 => sAlone q A (A.length - (a + 1)) + dC q A B a 0
  | 0, b + 1 => sAlone q B (B.length - (b + 1)) + dC q A B 0 b
  | a + 1, b + 1 => min (min (sAlone q A (A.length - (a + 1)) + dC q A B a (b + 1)) (sAlone q B (B.length - (b + 1)) + dC q A B (a + 1) b)) (sBes q (A.getD (A.length - (a + 1)) z0) (B.getD (B.length - (b + 1)) z0) + dC q A B a b)
termination_by a b => a + b
def sAl (L : List sC) (i : Nat) : Int32 := if sTwice L i = true then 4 else 3
/-- the steps of the last a cells beside the last b cells -/
def sSteps (q : Nat → Int32) (A B : List sC) : Nat → Nat → List sStep
  | 0, 0 => []
  | a + 1, 0 => (1, nI (A.length - (a + 1)), -4, sAl A (A.length - (a + 1)), nI (sAlone q A (A.length - (a + 1)))) :: sSteps q A B a 0
  | 0, b + 1 => (2, -4, nI (B.length - (b + 1)), sAl B (B.length - (b + 1)), nI (sAlone q B (B.length - (b + 1)))) :: sSteps q A B 0 b
  | a + 1, b + 1 =>
    if sBes q (A.getD (A.length - (a + 1)) z0) (B.getD (B.length - (b + 1)) z0) + dC q A B a b = dC q A B (a + 1) (b + 1) then
      (0, nI (A.length - (a + 1)), nI (B.length - (b + 1)), sLike (A.getD (A.length - (a + 1)) z0) (B.getD (B.length - (b + 1)) z0) (q 0), nI (sBes q (A.getD (A.length - (a + 1)) z0) (B.getD (B.length - (b + 1)) z0))) :: sSteps q A B a b
    else if sAlone q A (A.length - (a + 1)) + dC q A B a (b + 1) = dC q A B (a + 1) (b + 1) then
      (1, nI (A.length - (a + 1)), -4, sAl A (A.length - (a + 1)), nI (sAlone q A (A.length - (a + 1)))) :: sSteps q A B a (b + 1)
    else (2, -4, nI (B.length - (b + 1)), sAl B (B.length - (b + 1)), nI (sAlone q B (B.length - (b + 1)))) :: sSteps q A B (a + 1) b
termination_by a b => a + b
theorem sSteps_len (q : Nat → Int32) (A B : List sC) : ∀ a b, (sSteps q A B a b).length ≤ a + b
  | 0, 0 => by rw [sSteps]; exact Nat.le_refl _
  | a + 1, 0 => by rw [sSteps, List.length_cons]; have := sSteps_len q A B a 0; omega
  | 0, b + 1 => by rw [sSteps, List.length_cons]; have := sSteps_len q A B 0 b; omega
  | a + 1, b + 1 => by
    rw [sSteps]
    have h1 := sSteps_len q A B a b
    have h2 := sSteps_len q A B a (b + 1)
    have h3 := sSteps_len q A B (a + 1) b
    split
    · rw [List.length_cons]; omega
    · split
      · rw [List.length_cons]; omega
      · rw [List.length_cons]; omega
termination_by a b => a + b
theorem ix_le {x : Int32} {n : Nat} (hn : n < 2 ^ 31) (h : x ≤ nI n) : ix x ≤ n := by
  have := Int32.le_iff_toInt_le.mp h
  rw [nI_toInt hn] at this
  show x.toInt.toNat ≤ n
  omega
theorem sAlone_le {q : Nat → Int32} (h : rateOk q) (L : List sC) (i : Nat) : sAlone q L i ≤ 9 := by
  unfold sAlone
  split
  · exact ix_le (n := 9) (by decide) h.2.2.2.2.2.2.2
  · exact ix_le (n := 9) (by decide) h.2.2.2.2.2.1
theorem sLike_le (c d : sC) (t : Int32) : sLike c d t = 0 ∨ sLike c d t = 1 ∨ sLike c d t = 2 := by
  unfold sLike
  split
  · exact Or.inl rfl
  · split
    · exact Or.inr (Or.inl rfl)
    · exact Or.inr (Or.inr rfl)
theorem sBes_le {q : Nat → Int32} (h : rateOk q) (c d : sC) : sBes q c d ≤ 9 := by
  unfold sBes
  split
  · exact ix_le (n := 9) (by decide) h.2.2.2.1
  · rcases sLike_le c d (q 0) with e | e | e <;> rw [e] <;> decide
theorem dC_le {q : Nat → Int32} (h : rateOk q) (A B : List sC) : ∀ a b, dC q A B a b ≤ 9 * (a + b)
  | 0, 0 => by rw [dC]; exact Nat.zero_le _
  | a + 1, 0 => by rw [dC]; have := dC_le h A B a 0; have := sAlone_le h A (A.length - (a + 1)); omega
  | 0, b + 1 => by rw [dC]; have := dC_le h A B 0 b; have := sAlone_le h B (B.length - (b + 1)); omega
  | a + 1, b + 1 => by
    rw [dC]
    have h1 := dC_le h A B a b
    have h2 := sBes_le h (A.getD (A.length - (a + 1)) z0) (B.getD (B.length - (b + 1)) z0)
    omega
termination_by a b => a + b
theorem nI_ix {x : Int32} (h : 0 ≤ x) : nI (ix x) = x := by
  apply Int32.toInt_inj.mp
  have h1 := Int32.le_iff_toInt_le.mp h
  have h2 := x.toInt_lt
  rw [show (0 : Int32).toInt = 0 from by decide] at h1
  have e : ((ix x : Nat) : Int) = x.toInt := Int.toNat_of_nonneg h1
  rw [nI_toInt (by omega), e]
theorem tw0 {L : List sC} {i : Nat} (h : nI i ≤ 0) (hi : i < 2 ^ 31) : ¬ sTwice L i = true := by
  have := (nI_le0 hi).mp h
  subst this
  unfold sTwice
  rw [decide_eq_false (by omega), Bool.false_and]
  exact Bool.false_ne_true
theorem tw1 {L : List sC} {i : Nat} : sTwice L (i + 1) = true ↔ sAlike (L.getD i z0) (L.getD (i + 1) z0) = true := by
  unfold sTwice
  rw [decide_eq_true (by omega), Bool.true_and, Nat.add_sub_cancel]
/-- a cell of a row -/
theorem row_at {S : sMS} {k : Nat} {A : sA} (hA : mRowIs S k A) (hk : k < 26) {i : Nat} (hi : i < A.2.length) : vp_in (nI (20 * k + i)) 880 ∧ mc S (nI (20 * k + i)).toNatClampNeg = A.2.getD i z0 ∧ sOk (A.2.getD i z0) := by
  have hl := hA.2.2.1.2.2.1
  have hm : A.2.getD i z0 ∈ A.2 := by
    rw [List.getD_eq_getElem?_getD, List.getElem?_eq_getElem hi]
    exact List.getElem_mem hi
  rw [nI_clamp (show 20 * k + i < 2 ^ 31 by omega)]
  exact ⟨vp_in_nI (by omega) (by decide), hA.2.2.2 i hi, (hA.2.2.1.2.2.2 _ hm).1⟩

set_option maxHeartbeats 4000000 in
set_option maxRecDepth 100000 in
/-- X10_isTwice -/
theorem q_isTwice (g : zG) (h : zH) (m : Nat) (S : sMS) (k i : Nat) (A : sA) (hA : mRowIs S k A) (hk : k < 26) (hi : i < A.2.length) : zX g yX10_isTwice cX10_isTwice 3 (some .boolean) rmX10_isTwice [.ref m, .int (nI k), .int (nI i)] (mUp m S h) (.int (if sTwice A.2 i = true then 1 else 0)) (mUp m S h) := by
  refine zM_of (by decide) (Nat.le_of_ble_eq_true rfl) ?_
  refine z_iload_n dX10_isTwice_0 rfl rfl ?_
  refine z_if_le (tgt := 29) dX10_isTwice_1 rfl (by decide) (fun c1 => ?_) (fun c1 => ?_)
  · skip
    refine z_iconst (v := 0) dX10_isTwice_29 rfl (by decide) ?_
    exact z_zret dX10_isTwice_30 rfl rfl rfl ⟨by first | rw [if_neg (tw0 c1 (by have := hA.2.2.1.2.2.1; omega))] | rw [if_pos (tw1.mpr c22)] | rw [if_neg (fun q => c22 (tw1.mp q))], rfl⟩ (Nat.le_of_ble_eq_true rfl) (Nat.le_of_ble_eq_true rfl)
  · skip
    have hl : A.2.length ≤ 20 := hA.2.2.1.2.2.1
    have hi0 : 0 < i := Nat.pos_of_ne_zero (fun z => c1 ((nI_le0 (by omega)).mpr z))
    obtain ⟨i1, rfl⟩ : ∃ i1, i = i1 + 1 := ⟨i - 1, by omega⟩
    have q1 := row_at hA hk (show i1 < A.2.length by omega)
    have q2 := row_at hA hk hi
    first | refine z_aload_n dX10_isTwice_4 rfl rfl ?_ | refine z_aload_nN dX10_isTwice_4 rfl rfl ?_
    refine z_bipush (v := 20) dX10_isTwice_5 rfl (by decide) ?_
    refine z_iload_n dX10_isTwice_7 rfl rfl ?_
    refine z_imul dX10_isTwice_8 rfl ?_
    refine z_iload_n dX10_isTwice_9 rfl rfl ?_
    refine z_iadd dX10_isTwice_10 rfl ?_
    refine z_iconst (v := 1) dX10_isTwice_11 rfl (by decide) ?_
    refine z_isub dX10_isTwice_12 rfl ?_
    rw [n20, show nI (20 * k + (i1 + 1)) - 1 = nI (20 * k + i1) from nI_pred (20 * k + i1)]
    refine z_bipush (v := 20) dX10_isTwice_13 rfl (by decide) ?_
    refine z_iload_n dX10_isTwice_15 rfl rfl ?_
    refine z_imul dX10_isTwice_16 rfl ?_
    refine z_iload_n dX10_isTwice_17 rfl rfl ?_
    refine z_iadd dX10_isTwice_18 rfl ?_
    rw [n20]
    refine zcx_X10_112 rfl dX10_isTwice_19 rfl mo_recv (r_areAlike g h m S _ _ q1.1 q2.1 (by rw [q1.2.1]; exact q1.2.2) (by rw [q2.2.1]; exact q2.2.2)) rfl rfl ⟨(Nat.le_of_ble_eq_true rfl), (Nat.le_of_ble_eq_true rfl)⟩ ⟨(Nat.le_of_ble_eq_true rfl), (Nat.le_of_ble_eq_true rfl)⟩ (Nat.le_of_ble_eq_true rfl) ?_
    rw [q1.2.1, q2.2.1]
    refine z_bif_eq (tgt := 29) dX10_isTwice_22 rfl (by decide) (fun c22 => ?_) (fun c22 => ?_)
    · skip
      refine z_iconst (v := 0) dX10_isTwice_29 rfl (by decide) ?_
      exact z_zret dX10_isTwice_30 rfl rfl rfl ⟨by first | rw [if_neg (tw0 c1 (by have := hA.2.2.1.2.2.1; omega))] | rw [if_pos (tw1.mpr c22)] | rw [if_neg (fun q => c22 (tw1.mp q))], rfl⟩ (Nat.le_of_ble_eq_true rfl) (Nat.le_of_ble_eq_true rfl)
    · skip
      refine z_iconst (v := 1) dX10_isTwice_25 rfl (by decide) ?_
      refine z_goto (tgt := 30) dX10_isTwice_26 rfl (by decide) ?_
      exact z_zret dX10_isTwice_30 rfl rfl rfl ⟨by first | rw [if_neg (tw0 c1 (by have := hA.2.2.1.2.2.1; omega))] | rw [if_pos (tw1.mpr c22)] | rw [if_neg (fun q => c22 (tw1.mp q))], rfl⟩ (Nat.le_of_ble_eq_true rfl) (Nat.le_of_ble_eq_true rfl)

set_option maxHeartbeats 4000000 in
set_option maxRecDepth 100000 in
/-- X10_aloneCosts -/
theorem q_aloneCosts (g : zG) (h : zH) (m : Nat) (S : sMS) (k i : Nat) (A : sA) (hA : mRowIs S k A) (hk : k < 26) (hi : i < A.2.length) (q : Nat → Int32) (hq : ∀ i, i < 4 → S.1 7 i = q i) (hqo : rateOk q) : zX g yX10_aloneCosts cX10_aloneCosts 3 (some .int) rmX10_aloneCosts [.ref m, .int (nI k), .int (nI i)] (mUp m S h) (.int (nI (sAlone q A.2 i))) (mUp m S h) := by
  refine zM_of (by decide) (Nat.le_of_ble_eq_true rfl) ?_
  first | refine z_aload_n dX10_aloneCosts_0 rfl rfl ?_ | refine z_aload_nN dX10_aloneCosts_0 rfl rfl ?_
  refine z_iload_n dX10_aloneCosts_1 rfl rfl ?_
  refine z_iload_n dX10_aloneCosts_2 rfl rfl ?_
  refine zcx_X10_216 rfl dX10_aloneCosts_3 rfl mo_recv (q_isTwice g h m S k i A hA hk hi) rfl rfl ⟨(Nat.le_of_ble_eq_true rfl), (Nat.le_of_ble_eq_true rfl)⟩ ⟨(Nat.le_of_ble_eq_true rfl), (Nat.le_of_ble_eq_true rfl)⟩ (Nat.le_of_ble_eq_true rfl) ?_
  refine z_bif_eq (tgt := 18) dX10_aloneCosts_6 rfl (by decide) (fun c6 => ?_) (fun c6 => ?_)
  · skip
    first | refine z_aload_n dX10_aloneCosts_18 rfl rfl ?_ | refine z_aload_nN dX10_aloneCosts_18 rfl rfl ?_
    refine zmg_30 rfl dX10_aloneCosts_19 rfl ?_
    refine z_iconst (v := 2) dX10_aloneCosts_22 rfl (by decide) ?_
    refine zm_iald dX10_aloneCosts_23 rfl rfl (vp_in_nI (n := 2) (by decide) (by decide)) ?_
    exact z_iret dX10_aloneCosts_24 rfl rfl ⟨by first | (rw [sAlone, if_pos c6, nI_ix hqo.2.2.2.2.2.2.1]; exact congrArg (fun x => some (Value.int x)) (hq 3 (by decide))) | (rw [sAlone, if_neg c6, nI_ix (Int32.le_trans (by decide) hqo.2.2.2.2.1)]; exact congrArg (fun x => some (Value.int x)) (hq 2 (by decide))), rfl⟩ (Nat.le_of_ble_eq_true rfl) (Nat.le_of_ble_eq_true rfl)
  · skip
    first | refine z_aload_n dX10_aloneCosts_9 rfl rfl ?_ | refine z_aload_nN dX10_aloneCosts_9 rfl rfl ?_
    refine zmg_30 rfl dX10_aloneCosts_10 rfl ?_
    refine z_iconst (v := 3) dX10_aloneCosts_13 rfl (by decide) ?_
    refine zm_iald dX10_aloneCosts_14 rfl rfl (vp_in_nI (n := 3) (by decide) (by decide)) ?_
    refine z_goto (tgt := 24) dX10_aloneCosts_15 rfl (by decide) ?_
    exact z_iret dX10_aloneCosts_24 rfl rfl ⟨by first | (rw [sAlone, if_pos c6, nI_ix hqo.2.2.2.2.2.2.1]; exact congrArg (fun x => some (Value.int x)) (hq 3 (by decide))) | (rw [sAlone, if_neg c6, nI_ix (Int32.le_trans (by decide) hqo.2.2.2.2.1)]; exact congrArg (fun x => some (Value.int x)) (hq 2 (by decide))), rfl⟩ (Nat.le_of_ble_eq_true rfl) (Nat.le_of_ble_eq_true rfl)

set_option maxHeartbeats 4000000 in
set_option maxRecDepth 100000 in
/-- X10_besideCosts -/
theorem q_besideCosts (g : zG) (h : zH) (m : Nat) (S : sMS) (p p2 : Int32) (hp : vp_in p 880) (hp2 : vp_in p2 880) (c d : sC) (hc : mc S p.toNatClampNeg = c ∧ sOk c) (hd : mc S p2.toNatClampNeg = d ∧ sOk d) (q : Nat → Int32) (hq : ∀ i, i < 4 → S.1 7 i = q i) (hqo : rateOk q) : zX g yX10_besideCosts cX10_besideCosts 4 (some .int) rmX10_besideCosts [.ref m, .int p, .int p2] (mUp m S h) (.int (nI (sBes q c d))) (mUp m S h) := by
  refine zM_of (by decide) (Nat.le_of_ble_eq_true rfl) ?_
  first | refine z_aload_n dX10_besideCosts_0 rfl rfl ?_ | refine z_aload_nN dX10_besideCosts_0 rfl rfl ?_
  refine z_iload_n dX10_besideCosts_1 rfl rfl ?_
  refine z_iload_n dX10_besideCosts_2 rfl rfl ?_
  refine zcx_X10_213 rfl dX10_besideCosts_3 rfl mo_recv (r_likeness g h m S _ _ hp hp2 (by rw [hc.1]; exact hc.2) (by rw [hd.1]; exact hd.2)) rfl rfl ⟨(Nat.le_of_ble_eq_true rfl), (Nat.le_of_ble_eq_true rfl)⟩ ⟨(Nat.le_of_ble_eq_true rfl), (Nat.le_of_ble_eq_true rfl)⟩ (Nat.le_of_ble_eq_true rfl) ?_
  rw [hc.1, hd.1, hq 0 (by decide)]
  refine z_istore_n dX10_besideCosts_6 rfl (Nat.le_of_ble_eq_true rfl) ?_
  refine z_iload_n dX10_besideCosts_7 rfl rfl ?_
  refine z_iconst (v := 2) dX10_besideCosts_8 rfl (by decide) ?_
  refine z_icmp_ne (tgt := 21) dX10_besideCosts_9 rfl (by decide) (fun c9 => ?_) (fun c9 => ?_)
  · skip
    refine z_iload_n dX10_besideCosts_21 rfl rfl ?_
    exact z_iret dX10_besideCosts_22 rfl rfl ⟨by first | (rw [sBes, if_pos c9, nI_ix (Int32.le_trans (by decide) hqo.2.2.1)]; exact congrArg (fun x => some (Value.int x)) (hq 1 (by decide))) | (rw [sBes, if_neg c9, nI_ix (by rcases sLike_le c d (q 0) with e | e | e <;> rw [e] <;> decide)]), rfl⟩ (Nat.le_of_ble_eq_true rfl) (Nat.le_of_ble_eq_true rfl)
  · skip
    first | refine z_aload_n dX10_besideCosts_12 rfl rfl ?_ | refine z_aload_nN dX10_besideCosts_12 rfl rfl ?_
    refine zmg_30 rfl dX10_besideCosts_13 rfl ?_
    refine z_iconst (v := 1) dX10_besideCosts_16 rfl (by decide) ?_
    refine zm_iald dX10_besideCosts_17 rfl rfl (vp_in_nI (n := 1) (by decide) (by decide)) ?_
    refine z_goto (tgt := 22) dX10_besideCosts_18 rfl (by decide) ?_
    exact z_iret dX10_besideCosts_22 rfl rfl ⟨by first | (rw [sBes, if_pos c9, nI_ix (Int32.le_trans (by decide) hqo.2.2.1)]; exact congrArg (fun x => some (Value.int x)) (hq 1 (by decide))) | (rw [sBes, if_neg c9, nI_ix (by rcases sLike_le c d (q 0) with e | e | e <;> rw [e] <;> decide)]), rfl⟩ (Nat.le_of_ble_eq_true rfl) (Nat.le_of_ble_eq_true rfl)

def mRest (S : sMS) (f : Nat → Int32) : sMS := (va_up S.1 8 f, S.2)
theorem mRest_up (S : sMS) (f : Nat → Int32) (k : Nat) (v : Int32) : (va_up (mRest S f).1 8 (upd ((mRest S f).1 8) k v), (mRest S f).2) = mRest S (upd f k v) := by
  unfold mRest
  refine Prod.ext ?_ rfl
  funext j
  simp only [va_up]
  split <;> simp_all
theorem mRest_8 (S : sMS) (f : Nat → Int32) : (mRest S f).1 8 = f := by simp [mRest, va_up]
theorem mRest_o (S : sMS) (f : Nat → Int32) {j : Nat} (h : j ≠ 8) : (mRest S f).1 j = S.1 j := by simp [mRest, va_up, h]
theorem mRest_row {S : sMS} (f : Nat → Int32) {k : Nat} {A : sA} (hA : mRowIs S k A) : mRowIs (mRest S f) k A := ⟨by rw [mRest_o _ _ (by decide)]; exact hA.1, by rw [mRest_o _ _ (by decide)]; exact hA.2.1, hA.2.2.1, hA.2.2.2⟩
theorem n21 (i j : Nat) : (21 : Int32) * nI i + nI j = nI (21 * i + j) := by
  have : (21 : Int32) * nI i = nI (21 * i) := pk_mul 21 i
  rw [this, nI_add]
theorem n21b (i j : Nat) : (21 : Int32) * nI i + 21 + nI j = nI (21 * (i + 1) + j) := by
  have : (21 : Int32) * nI i = nI (21 * i) := pk_mul 21 i
  rw [this, show nI (21 * i) + 21 = nI (21 * i + 21) from nI_add (21 * i) 21, nI_add]
  rfl
theorem n21c (i j : Nat) : (21 : Int32) * nI i + 22 + nI j = nI (21 * (i + 1) + (j + 1)) := by
  have : (21 : Int32) * nI i = nI (21 * i) := pk_mul 21 i
  rw [this, show nI (21 * i) + 22 = nI (21 * i + 22) from nI_add (21 * i) 22, nI_add]
  congr 1
  omega
theorem n21d (i j : Nat) : (21 : Int32) * nI i + nI j + 1 = nI (21 * i + (j + 1)) := by
  rw [n21]
  exact nI_add (21 * i + j) 1
theorem least_n {x y : Nat} (hx : x < 2 ^ 31) (hy : y < 2 ^ 31) : (if nI x < nI y then nI x else nI y) = nI (min x y) := by
  by_cases c : x < y
  · rw [if_pos (nI_lt c hy), Nat.min_eq_left (by omega)]
  · rw [if_neg (nI_nlt (by omega) hx), Nat.min_eq_right (by omega)]
/-- the table holds what follows from row i, cell j on -/
def tabIs (q : Nat → Int32) (A B : List sC) (f : Nat → Int32) (i j : Nat) : Prop := ∀ x y, x ≤ A.length → y ≤ B.length → (i < x ∨ (x = i ∧ j ≤ y)) → f (21 * x + y) = nI (dC q A B (A.length - x) (B.length - y))
theorem tab_s {q : Nat → Int32} {A B : List sC} {f : Nat → Int32} {i j : Nat} {v : Int32} (h : tabIs q A B f i (j + 1)) (hB : B.length ≤ 20) (hj : j ≤ B.length) (hv : v = nI (dC q A B (A.length - i) (B.length - j))) : tabIs q A B (upd f (21 * i + j) v) i j := by
  intro x y hx hy hxy
  unfold upd
  by_cases e : 21 * x + y = 21 * i + j
  · rw [if_pos e]
    have e1 : x = i := by omega
    have e2 : y = j := by omega
    rw [hv, e1, e2]
  · rw [if_neg e]
    exact h x y hx hy (by omega)
theorem tab_r {q : Nat → Int32} {A B : List sC} {f : Nat → Int32} {i : Nat} (h : tabIs q A B f (i + 1) 0) : tabIs q A B f i (B.length + 1) := fun x y hx hy hxy => h x y hx hy (by omega)
theorem least_big {x : Nat} (hx : x ≤ 400) : (if (1000000 : Int32) < nI x then 1000000 else nI x) = nI x := if_neg (nI_nlt (a := 1000000) (by omega) (by decide))

abbrev YX10_pathCosts : zY := (yX10_pathCosts.cls, cX10_pathCosts, 6, (some .int), rmX10_pathCosts, yX10_pathCosts.name, fun _ _ => True)
set_option maxHeartbeats 4000000 in
set_option maxRecDepth 100000 in
theorem q_path_ee (g : zG) (h : zH) (m : Nat) (S : sMS) (k1 k2 : Nat) (A B : sA) (hA : mRowIs S k1 A) (hB : mRowIs S k2 B) (hk1 : k1 < 26) (hk2 : k2 < 26) (q : Nat → Int32) (hq : ∀ i, i < 4 → S.1 7 i = q i) (hqo : rateOk q) (f : Nat → Int32) (i j : Nat) (hi : i = A.2.length) (hj : j = B.2.length) (hT : tabIs q A.2 B.2 f i (j + 1)) (kk : zZ g YX10_pathCosts (zE g (fun v h1 => ∃ f, v = some (.int (nI (dC q A.2 B.2 A.2.length B.2.length))) ∧ h1 = mUp m (mRest S f) h ∧ tabIs q A.2 B.2 f 0 0) 0 0) 207 [(3, .int (nI i)), (4, .int (nI j)), (0, .ref m), (1, .int (nI k1)), (2, .int (nI k2))] [] (mUp m (mRest S (upd f (21 * i + j) (nI 0))) h) 0 0) : zZ g YX10_pathCosts (zE g (fun v h1 => ∃ f, v = some (.int (nI (dC q A.2 B.2 A.2.length B.2.length))) ∧ h1 = mUp m (mRest S f) h ∧ tabIs q A.2 B.2 f 0 0) 0 0) 24 [(3, .int (nI i)), (4, .int (nI j)), (0, .ref m), (1, .int (nI k1)), (2, .int (nI k2))] [] (mUp m (mRest S f) h) 0 0 := by
  have hA' := mRest_row f hA
  have hB' := mRest_row f hB
  have lA : A.2.length ≤ 20 := hA.2.2.1.2.2.1
  have lB : B.2.length ≤ 20 := hB.2.2.1.2.2.1
  have hq' : ∀ i, i < 4 → (mRest S f).1 7 i = q i := fun i hi => by rw [mRest_o _ _ (by decide)]; exact hq i hi
  have sa : (mRest S f).1 5 (nI k1).toNatClampNeg = nI A.2.length := by rw [nI_clamp (by omega)]; exact hA'.2.1
  have sb : (mRest S f).1 5 (nI k2).toNatClampNeg = nI B.2.length := by rw [nI_clamp (by omega)]; exact hB'.2.1
  have ia : vp_in (nI k1) 27 := vp_in_nI (by omega) (by decide)
  have ib : vp_in (nI k2) 27 := vp_in_nI (by omega) (by decide)
  refine z_iload_n dX10_pathCosts_24 rfl rfl ?_
  first | refine z_aload_n dX10_pathCosts_25 rfl rfl ?_ | refine z_aload_nN dX10_pathCosts_25 rfl rfl ?_
  refine zmg_24 rfl dX10_pathCosts_26 rfl ?_
  refine z_iload_n dX10_pathCosts_29 rfl rfl ?_
  refine zm_iald dX10_pathCosts_30 rfl rfl ia ?_
  rw [sa]
  refine z_icmp_ne (tgt := 49) dX10_pathCosts_31 rfl (by decide) (fun c31 => absurd c31 (fun z => z (by rw [hi]))) (fun c31 => ?_)
  refine z_iload dX10_pathCosts_34 rfl rfl ?_
  first | refine z_aload_n dX10_pathCosts_36 rfl rfl ?_ | refine z_aload_nN dX10_pathCosts_36 rfl rfl ?_
  refine zmg_24 rfl dX10_pathCosts_37 rfl ?_
  refine z_iload_n dX10_pathCosts_40 rfl rfl ?_
  refine zm_iald dX10_pathCosts_41 rfl rfl ib ?_
  rw [sb]
  refine z_icmp_ne (tgt := 49) dX10_pathCosts_42 rfl (by decide) (fun c42 => absurd c42 (fun z => z (by rw [hj]))) (fun c42 => ?_)
  refine z_iconst (v := 0) dX10_pathCosts_45 rfl (by decide) ?_
  refine z_goto (tgt := 51) dX10_pathCosts_46 rfl (by decide) ?_
  refine z_istore dX10_pathCosts_51 rfl (Nat.le_of_ble_eq_true rfl) ?_
  refine z_iload_n dX10_pathCosts_53 rfl rfl ?_
  first | refine z_aload_n dX10_pathCosts_54 rfl rfl ?_ | refine z_aload_nN dX10_pathCosts_54 rfl rfl ?_
  refine zmg_24 rfl dX10_pathCosts_55 rfl ?_
  refine z_iload_n dX10_pathCosts_58 rfl rfl ?_
  refine zm_iald dX10_pathCosts_59 rfl rfl ia ?_
  rw [sa]
  refine z_icmp_ge (tgt := 92) dX10_pathCosts_60 rfl (by decide) (fun c60 => ?_) (fun c60 => absurd c60 (fun z => z (nI_le (by omega) (by omega))))
  refine z_iload dX10_pathCosts_92 rfl rfl ?_
  first | refine z_aload_n dX10_pathCosts_94 rfl rfl ?_ | refine z_aload_nN dX10_pathCosts_94 rfl rfl ?_
  refine zmg_24 rfl dX10_pathCosts_95 rfl ?_
  refine z_iload_n dX10_pathCosts_98 rfl rfl ?_
  refine zm_iald dX10_pathCosts_99 rfl rfl ib ?_
  rw [sb]
  refine z_icmp_ge (tgt := 132) dX10_pathCosts_100 rfl (by decide) (fun c100 => ?_) (fun c100 => absurd c100 (fun z => z (nI_le (by omega) (by omega))))
  refine z_iload_n dX10_pathCosts_132 rfl rfl ?_
  first | refine z_aload_n dX10_pathCosts_133 rfl rfl ?_ | refine z_aload_nN dX10_pathCosts_133 rfl rfl ?_
  refine zmg_24 rfl dX10_pathCosts_134 rfl ?_
  refine z_iload_n dX10_pathCosts_137 rfl rfl ?_
  refine zm_iald dX10_pathCosts_138 rfl rfl ia ?_
  rw [sa]
  refine z_icmp_ge (tgt := 193) dX10_pathCosts_139 rfl (by decide) (fun c139 => ?_) (fun c139 => absurd c139 (fun z => z (nI_le (by omega) (by omega))))
  first | refine z_aload_n dX10_pathCosts_193 rfl rfl ?_ | refine z_aload_nN dX10_pathCosts_193 rfl rfl ?_
  refine zmg_33 rfl dX10_pathCosts_194 rfl ?_
  refine z_bipush (v := 21) dX10_pathCosts_197 rfl (by decide) ?_
  refine z_iload_n dX10_pathCosts_199 rfl rfl ?_
  refine z_imul dX10_pathCosts_200 rfl ?_
  refine z_iload dX10_pathCosts_201 rfl rfl ?_
  refine z_iadd dX10_pathCosts_203 rfl ?_
  rw [n21]
  refine z_iload dX10_pathCosts_204 rfl rfl ?_
  refine zm_iast dX10_pathCosts_206 rfl rfl (vp_in_nI (by omega) (by decide)) ?_
  rw [mRest_up, nI_clamp (show 21 * i + j < 2 ^ 31 by omega)]
  refine z_lv [(3, .int (nI i)), (4, .int (nI j)), (0, .ref m), (1, .int (nI k1)), (2, .int (nI k2))] ⟨rfl, rfl, rfl, rfl, rfl, trivial⟩ ?_
  exact kk
set_option maxHeartbeats 4000000 in
set_option maxRecDepth 100000 in
theorem q_path_le (g : zG) (h : zH) (m : Nat) (S : sMS) (k1 k2 : Nat) (A B : sA) (hA : mRowIs S k1 A) (hB : mRowIs S k2 B) (hk1 : k1 < 26) (hk2 : k2 < 26) (q : Nat → Int32) (hq : ∀ i, i < 4 → S.1 7 i = q i) (hqo : rateOk q) (f : Nat → Int32) (i j : Nat) (hi : i < A.2.length) (hj : j = B.2.length) (hT : tabIs q A.2 B.2 f i (j + 1)) (kk : zZ g YX10_pathCosts (zE g (fun v h1 => ∃ f, v = some (.int (nI (dC q A.2 B.2 A.2.length B.2.length))) ∧ h1 = mUp m (mRest S f) h ∧ tabIs q A.2 B.2 f 0 0) 0 0) 207 [(3, .int (nI i)), (4, .int (nI j)), (0, .ref m), (1, .int (nI k1)), (2, .int (nI k2))] [] (mUp m (mRest S (upd f (21 * i + j) (nI (sAlone q A.2 i + dC q A.2 B.2 (A.2.length - (i + 1)) (B.2.length - j))))) h) 0 0) : zZ g YX10_pathCosts (zE g (fun v h1 => ∃ f, v = some (.int (nI (dC q A.2 B.2 A.2.length B.2.length))) ∧ h1 = mUp m (mRest S f) h ∧ tabIs q A.2 B.2 f 0 0) 0 0) 24 [(3, .int (nI i)), (4, .int (nI j)), (0, .ref m), (1, .int (nI k1)), (2, .int (nI k2))] [] (mUp m (mRest S f) h) 0 0 := by
  have hA' := mRest_row f hA
  have hB' := mRest_row f hB
  have lA : A.2.length ≤ 20 := hA.2.2.1.2.2.1
  have lB : B.2.length ≤ 20 := hB.2.2.1.2.2.1
  have hq' : ∀ i, i < 4 → (mRest S f).1 7 i = q i := fun i hi => by rw [mRest_o _ _ (by decide)]; exact hq i hi
  have sa : (mRest S f).1 5 (nI k1).toNatClampNeg = nI A.2.length := by rw [nI_clamp (by omega)]; exact hA'.2.1
  have sb : (mRest S f).1 5 (nI k2).toNatClampNeg = nI B.2.length := by rw [nI_clamp (by omega)]; exact hB'.2.1
  have ia : vp_in (nI k1) 27 := vp_in_nI (by omega) (by decide)
  have ib : vp_in (nI k2) 27 := vp_in_nI (by omega) (by decide)
  have e1 : (mRest S f).1 8 (nI (21 * (i + 1) + j)).toNatClampNeg = nI (dC q A.2 B.2 (A.2.length - (i + 1)) (B.2.length - j)) := by rw [nI_clamp (by omega), mRest_8]; exact hT _ _ (by omega) (by omega) (by omega)
  have b1 := sAlone_le hqo A.2 i
  have b2 := sAlone_le hqo B.2 j
  have b3 := sBes_le hqo (A.2.getD i z0) (B.2.getD j z0)
  have d1 := dC_le hqo A.2 B.2 (A.2.length - (i + 1)) (B.2.length - j)
  have d2 := dC_le hqo A.2 B.2 (A.2.length - i) (B.2.length - (j + 1))
  have d3 := dC_le hqo A.2 B.2 (A.2.length - (i + 1)) (B.2.length - (j + 1))
  refine z_iload_n dX10_pathCosts_24 rfl rfl ?_
  first | refine z_aload_n dX10_pathCosts_25 rfl rfl ?_ | refine z_aload_nN dX10_pathCosts_25 rfl rfl ?_
  refine zmg_24 rfl dX10_pathCosts_26 rfl ?_
  refine z_iload_n dX10_pathCosts_29 rfl rfl ?_
  refine zm_iald dX10_pathCosts_30 rfl rfl ia ?_
  rw [sa]
  refine z_icmp_ne (tgt := 49) dX10_pathCosts_31 rfl (by decide) (fun c31 => ?_) (fun c31 => absurd c31 (fun z => absurd ((nI_eq (by omega) (by omega)).mp z) (by omega)))
  refine zk_X10_219 rfl dX10_pathCosts_49 rfl ?_
  refine z_istore dX10_pathCosts_51 rfl (Nat.le_of_ble_eq_true rfl) ?_
  refine z_iload_n dX10_pathCosts_53 rfl rfl ?_
  first | refine z_aload_n dX10_pathCosts_54 rfl rfl ?_ | refine z_aload_nN dX10_pathCosts_54 rfl rfl ?_
  refine zmg_24 rfl dX10_pathCosts_55 rfl ?_
  refine z_iload_n dX10_pathCosts_58 rfl rfl ?_
  refine zm_iald dX10_pathCosts_59 rfl rfl ia ?_
  rw [sa]
  refine z_icmp_ge (tgt := 92) dX10_pathCosts_60 rfl (by decide) (fun c60 => absurd c60 (nI_ge (by omega) (by omega))) (fun c60 => ?_)
  refine z_iload dX10_pathCosts_63 rfl rfl ?_
  first | refine z_aload_n dX10_pathCosts_65 rfl rfl ?_ | refine z_aload_nN dX10_pathCosts_65 rfl rfl ?_
  refine z_iload_n dX10_pathCosts_66 rfl rfl ?_
  refine z_iload_n dX10_pathCosts_67 rfl rfl ?_
  refine zcx_X10_220 rfl dX10_pathCosts_68 rfl mo_recv (q_aloneCosts g h m (mRest S f) k1 i A hA' hk1 hi q hq' hqo) rfl rfl ⟨(Nat.le_of_ble_eq_true rfl), (Nat.le_of_ble_eq_true rfl)⟩ ⟨(Nat.le_of_ble_eq_true rfl), (Nat.le_of_ble_eq_true rfl)⟩ (Nat.le_of_ble_eq_true rfl) ?_
  first | refine z_aload_n dX10_pathCosts_71 rfl rfl ?_ | refine z_aload_nN dX10_pathCosts_71 rfl rfl ?_
  refine zmg_33 rfl dX10_pathCosts_72 rfl ?_
  refine z_bipush (v := 21) dX10_pathCosts_75 rfl (by decide) ?_
  refine z_iload_n dX10_pathCosts_77 rfl rfl ?_
  refine z_imul dX10_pathCosts_78 rfl ?_
  refine z_bipush (v := 21) dX10_pathCosts_79 rfl (by decide) ?_
  refine z_iadd dX10_pathCosts_81 rfl ?_
  refine z_iload dX10_pathCosts_82 rfl rfl ?_
  refine z_iadd dX10_pathCosts_84 rfl ?_
  rw [n21b]
  refine zm_iald dX10_pathCosts_85 rfl rfl (vp_in_nI (by omega) (by decide)) ?_
  rw [e1]
  refine z_iadd dX10_pathCosts_86 rfl ?_
  rw [nI_add]
  refine zcx_X10_223 rfl dX10_pathCosts_87 rfl (r_leastOf g _ _ _) rfl rfl ⟨(Nat.le_of_ble_eq_true rfl), (Nat.le_of_ble_eq_true rfl)⟩ ⟨(Nat.le_of_ble_eq_true rfl), (Nat.le_of_ble_eq_true rfl)⟩ (Nat.le_of_ble_eq_true rfl) ?_
  rw [least_big (show (sAlone q A.2 i + dC q A.2 B.2 (A.2.length - (i + 1)) (B.2.length - j)) ≤ 400 by omega)]
  refine z_istore dX10_pathCosts_90 rfl (Nat.le_of_ble_eq_true rfl) ?_
  refine z_iload dX10_pathCosts_92 rfl rfl ?_
  first | refine z_aload_n dX10_pathCosts_94 rfl rfl ?_ | refine z_aload_nN dX10_pathCosts_94 rfl rfl ?_
  refine zmg_24 rfl dX10_pathCosts_95 rfl ?_
  refine z_iload_n dX10_pathCosts_98 rfl rfl ?_
  refine zm_iald dX10_pathCosts_99 rfl rfl ib ?_
  rw [sb]
  refine z_icmp_ge (tgt := 132) dX10_pathCosts_100 rfl (by decide) (fun c100 => ?_) (fun c100 => absurd c100 (fun z => z (nI_le (by omega) (by omega))))
  refine z_iload_n dX10_pathCosts_132 rfl rfl ?_
  first | refine z_aload_n dX10_pathCosts_133 rfl rfl ?_ | refine z_aload_nN dX10_pathCosts_133 rfl rfl ?_
  refine zmg_24 rfl dX10_pathCosts_134 rfl ?_
  refine z_iload_n dX10_pathCosts_137 rfl rfl ?_
  refine zm_iald dX10_pathCosts_138 rfl rfl ia ?_
  rw [sa]
  refine z_icmp_ge (tgt := 193) dX10_pathCosts_139 rfl (by decide) (fun c139 => absurd c139 (nI_ge (by omega) (by omega))) (fun c139 => ?_)
  refine z_iload dX10_pathCosts_142 rfl rfl ?_
  first | refine z_aload_n dX10_pathCosts_144 rfl rfl ?_ | refine z_aload_nN dX10_pathCosts_144 rfl rfl ?_
  refine zmg_24 rfl dX10_pathCosts_145 rfl ?_
  refine z_iload_n dX10_pathCosts_148 rfl rfl ?_
  refine zm_iald dX10_pathCosts_149 rfl rfl ib ?_
  rw [sb]
  refine z_icmp_ge (tgt := 193) dX10_pathCosts_150 rfl (by decide) (fun c150 => ?_) (fun c150 => absurd c150 (fun z => z (nI_le (by omega) (by omega))))
  first | refine z_aload_n dX10_pathCosts_193 rfl rfl ?_ | refine z_aload_nN dX10_pathCosts_193 rfl rfl ?_
  refine zmg_33 rfl dX10_pathCosts_194 rfl ?_
  refine z_bipush (v := 21) dX10_pathCosts_197 rfl (by decide) ?_
  refine z_iload_n dX10_pathCosts_199 rfl rfl ?_
  refine z_imul dX10_pathCosts_200 rfl ?_
  refine z_iload dX10_pathCosts_201 rfl rfl ?_
  refine z_iadd dX10_pathCosts_203 rfl ?_
  rw [n21]
  refine z_iload dX10_pathCosts_204 rfl rfl ?_
  refine zm_iast dX10_pathCosts_206 rfl rfl (vp_in_nI (by omega) (by decide)) ?_
  rw [mRest_up, nI_clamp (show 21 * i + j < 2 ^ 31 by omega)]
  refine z_lv [(3, .int (nI i)), (4, .int (nI j)), (0, .ref m), (1, .int (nI k1)), (2, .int (nI k2))] ⟨rfl, rfl, rfl, rfl, rfl, trivial⟩ ?_
  exact kk
set_option maxHeartbeats 4000000 in
set_option maxRecDepth 100000 in
theorem q_path_el (g : zG) (h : zH) (m : Nat) (S : sMS) (k1 k2 : Nat) (A B : sA) (hA : mRowIs S k1 A) (hB : mRowIs S k2 B) (hk1 : k1 < 26) (hk2 : k2 < 26) (q : Nat → Int32) (hq : ∀ i, i < 4 → S.1 7 i = q i) (hqo : rateOk q) (f : Nat → Int32) (i j : Nat) (hi : i = A.2.length) (hj : j < B.2.length) (hT : tabIs q A.2 B.2 f i (j + 1)) (kk : zZ g YX10_pathCosts (zE g (fun v h1 => ∃ f, v = some (.int (nI (dC q A.2 B.2 A.2.length B.2.length))) ∧ h1 = mUp m (mRest S f) h ∧ tabIs q A.2 B.2 f 0 0) 0 0) 207 [(3, .int (nI i)), (4, .int (nI j)), (0, .ref m), (1, .int (nI k1)), (2, .int (nI k2))] [] (mUp m (mRest S (upd f (21 * i + j) (nI (sAlone q B.2 j + dC q A.2 B.2 (A.2.length - i) (B.2.length - (j + 1)))))) h) 0 0) : zZ g YX10_pathCosts (zE g (fun v h1 => ∃ f, v = some (.int (nI (dC q A.2 B.2 A.2.length B.2.length))) ∧ h1 = mUp m (mRest S f) h ∧ tabIs q A.2 B.2 f 0 0) 0 0) 24 [(3, .int (nI i)), (4, .int (nI j)), (0, .ref m), (1, .int (nI k1)), (2, .int (nI k2))] [] (mUp m (mRest S f) h) 0 0 := by
  have hA' := mRest_row f hA
  have hB' := mRest_row f hB
  have lA : A.2.length ≤ 20 := hA.2.2.1.2.2.1
  have lB : B.2.length ≤ 20 := hB.2.2.1.2.2.1
  have hq' : ∀ i, i < 4 → (mRest S f).1 7 i = q i := fun i hi => by rw [mRest_o _ _ (by decide)]; exact hq i hi
  have sa : (mRest S f).1 5 (nI k1).toNatClampNeg = nI A.2.length := by rw [nI_clamp (by omega)]; exact hA'.2.1
  have sb : (mRest S f).1 5 (nI k2).toNatClampNeg = nI B.2.length := by rw [nI_clamp (by omega)]; exact hB'.2.1
  have ia : vp_in (nI k1) 27 := vp_in_nI (by omega) (by decide)
  have ib : vp_in (nI k2) 27 := vp_in_nI (by omega) (by decide)
  have e2 : (mRest S f).1 8 (nI (21 * i + (j + 1))).toNatClampNeg = nI (dC q A.2 B.2 (A.2.length - i) (B.2.length - (j + 1))) := by rw [nI_clamp (by omega), mRest_8]; exact hT _ _ (by omega) (by omega) (by omega)
  have b1 := sAlone_le hqo A.2 i
  have b2 := sAlone_le hqo B.2 j
  have b3 := sBes_le hqo (A.2.getD i z0) (B.2.getD j z0)
  have d1 := dC_le hqo A.2 B.2 (A.2.length - (i + 1)) (B.2.length - j)
  have d2 := dC_le hqo A.2 B.2 (A.2.length - i) (B.2.length - (j + 1))
  have d3 := dC_le hqo A.2 B.2 (A.2.length - (i + 1)) (B.2.length - (j + 1))
  refine z_iload_n dX10_pathCosts_24 rfl rfl ?_
  first | refine z_aload_n dX10_pathCosts_25 rfl rfl ?_ | refine z_aload_nN dX10_pathCosts_25 rfl rfl ?_
  refine zmg_24 rfl dX10_pathCosts_26 rfl ?_
  refine z_iload_n dX10_pathCosts_29 rfl rfl ?_
  refine zm_iald dX10_pathCosts_30 rfl rfl ia ?_
  rw [sa]
  refine z_icmp_ne (tgt := 49) dX10_pathCosts_31 rfl (by decide) (fun c31 => absurd c31 (fun z => z (by rw [hi]))) (fun c31 => ?_)
  refine z_iload dX10_pathCosts_34 rfl rfl ?_
  first | refine z_aload_n dX10_pathCosts_36 rfl rfl ?_ | refine z_aload_nN dX10_pathCosts_36 rfl rfl ?_
  refine zmg_24 rfl dX10_pathCosts_37 rfl ?_
  refine z_iload_n dX10_pathCosts_40 rfl rfl ?_
  refine zm_iald dX10_pathCosts_41 rfl rfl ib ?_
  rw [sb]
  refine z_icmp_ne (tgt := 49) dX10_pathCosts_42 rfl (by decide) (fun c42 => ?_) (fun c42 => absurd c42 (fun z => absurd ((nI_eq (by omega) (by omega)).mp z) (by omega)))
  refine zk_X10_219 rfl dX10_pathCosts_49 rfl ?_
  refine z_istore dX10_pathCosts_51 rfl (Nat.le_of_ble_eq_true rfl) ?_
  refine z_iload_n dX10_pathCosts_53 rfl rfl ?_
  first | refine z_aload_n dX10_pathCosts_54 rfl rfl ?_ | refine z_aload_nN dX10_pathCosts_54 rfl rfl ?_
  refine zmg_24 rfl dX10_pathCosts_55 rfl ?_
  refine z_iload_n dX10_pathCosts_58 rfl rfl ?_
  refine zm_iald dX10_pathCosts_59 rfl rfl ia ?_
  rw [sa]
  refine z_icmp_ge (tgt := 92) dX10_pathCosts_60 rfl (by decide) (fun c60 => ?_) (fun c60 => absurd c60 (fun z => z (nI_le (by omega) (by omega))))
  refine z_iload dX10_pathCosts_92 rfl rfl ?_
  first | refine z_aload_n dX10_pathCosts_94 rfl rfl ?_ | refine z_aload_nN dX10_pathCosts_94 rfl rfl ?_
  refine zmg_24 rfl dX10_pathCosts_95 rfl ?_
  refine z_iload_n dX10_pathCosts_98 rfl rfl ?_
  refine zm_iald dX10_pathCosts_99 rfl rfl ib ?_
  rw [sb]
  refine z_icmp_ge (tgt := 132) dX10_pathCosts_100 rfl (by decide) (fun c100 => absurd c100 (nI_ge (by omega) (by omega))) (fun c100 => ?_)
  refine z_iload dX10_pathCosts_103 rfl rfl ?_
  first | refine z_aload_n dX10_pathCosts_105 rfl rfl ?_ | refine z_aload_nN dX10_pathCosts_105 rfl rfl ?_
  refine z_iload_n dX10_pathCosts_106 rfl rfl ?_
  refine z_iload dX10_pathCosts_107 rfl rfl ?_
  refine zcx_X10_220 rfl dX10_pathCosts_109 rfl mo_recv (q_aloneCosts g h m (mRest S f) k2 j B hB' hk2 hj q hq' hqo) rfl rfl ⟨(Nat.le_of_ble_eq_true rfl), (Nat.le_of_ble_eq_true rfl)⟩ ⟨(Nat.le_of_ble_eq_true rfl), (Nat.le_of_ble_eq_true rfl)⟩ (Nat.le_of_ble_eq_true rfl) ?_
  first | refine z_aload_n dX10_pathCosts_112 rfl rfl ?_ | refine z_aload_nN dX10_pathCosts_112 rfl rfl ?_
  refine zmg_33 rfl dX10_pathCosts_113 rfl ?_
  refine z_bipush (v := 21) dX10_pathCosts_116 rfl (by decide) ?_
  refine z_iload_n dX10_pathCosts_118 rfl rfl ?_
  refine z_imul dX10_pathCosts_119 rfl ?_
  refine z_iload dX10_pathCosts_120 rfl rfl ?_
  refine z_iadd dX10_pathCosts_122 rfl ?_
  refine z_iconst (v := 1) dX10_pathCosts_123 rfl (by decide) ?_
  refine z_iadd dX10_pathCosts_124 rfl ?_
  rw [n21d]
  refine zm_iald dX10_pathCosts_125 rfl rfl (vp_in_nI (by omega) (by decide)) ?_
  rw [e2]
  refine z_iadd dX10_pathCosts_126 rfl ?_
  rw [nI_add]
  refine zcx_X10_223 rfl dX10_pathCosts_127 rfl (r_leastOf g _ _ _) rfl rfl ⟨(Nat.le_of_ble_eq_true rfl), (Nat.le_of_ble_eq_true rfl)⟩ ⟨(Nat.le_of_ble_eq_true rfl), (Nat.le_of_ble_eq_true rfl)⟩ (Nat.le_of_ble_eq_true rfl) ?_
  rw [least_big (show (sAlone q B.2 j + dC q A.2 B.2 (A.2.length - i) (B.2.length - (j + 1))) ≤ 400 by omega)]
  refine z_istore dX10_pathCosts_130 rfl (Nat.le_of_ble_eq_true rfl) ?_
  refine z_iload_n dX10_pathCosts_132 rfl rfl ?_
  first | refine z_aload_n dX10_pathCosts_133 rfl rfl ?_ | refine z_aload_nN dX10_pathCosts_133 rfl rfl ?_
  refine zmg_24 rfl dX10_pathCosts_134 rfl ?_
  refine z_iload_n dX10_pathCosts_137 rfl rfl ?_
  refine zm_iald dX10_pathCosts_138 rfl rfl ia ?_
  rw [sa]
  refine z_icmp_ge (tgt := 193) dX10_pathCosts_139 rfl (by decide) (fun c139 => ?_) (fun c139 => absurd c139 (fun z => z (nI_le (by omega) (by omega))))
  first | refine z_aload_n dX10_pathCosts_193 rfl rfl ?_ | refine z_aload_nN dX10_pathCosts_193 rfl rfl ?_
  refine zmg_33 rfl dX10_pathCosts_194 rfl ?_
  refine z_bipush (v := 21) dX10_pathCosts_197 rfl (by decide) ?_
  refine z_iload_n dX10_pathCosts_199 rfl rfl ?_
  refine z_imul dX10_pathCosts_200 rfl ?_
  refine z_iload dX10_pathCosts_201 rfl rfl ?_
  refine z_iadd dX10_pathCosts_203 rfl ?_
  rw [n21]
  refine z_iload dX10_pathCosts_204 rfl rfl ?_
  refine zm_iast dX10_pathCosts_206 rfl rfl (vp_in_nI (by omega) (by decide)) ?_
  rw [mRest_up, nI_clamp (show 21 * i + j < 2 ^ 31 by omega)]
  refine z_lv [(3, .int (nI i)), (4, .int (nI j)), (0, .ref m), (1, .int (nI k1)), (2, .int (nI k2))] ⟨rfl, rfl, rfl, rfl, rfl, trivial⟩ ?_
  exact kk
set_option maxHeartbeats 4000000 in
set_option maxRecDepth 100000 in
theorem q_path_ll (g : zG) (h : zH) (m : Nat) (S : sMS) (k1 k2 : Nat) (A B : sA) (hA : mRowIs S k1 A) (hB : mRowIs S k2 B) (hk1 : k1 < 26) (hk2 : k2 < 26) (q : Nat → Int32) (hq : ∀ i, i < 4 → S.1 7 i = q i) (hqo : rateOk q) (f : Nat → Int32) (i j : Nat) (hi : i < A.2.length) (hj : j < B.2.length) (hT : tabIs q A.2 B.2 f i (j + 1)) (kk : zZ g YX10_pathCosts (zE g (fun v h1 => ∃ f, v = some (.int (nI (dC q A.2 B.2 A.2.length B.2.length))) ∧ h1 = mUp m (mRest S f) h ∧ tabIs q A.2 B.2 f 0 0) 0 0) 207 [(3, .int (nI i)), (4, .int (nI j)), (0, .ref m), (1, .int (nI k1)), (2, .int (nI k2))] [] (mUp m (mRest S (upd f (21 * i + j) (nI (min (min (sAlone q A.2 i + dC q A.2 B.2 (A.2.length - (i + 1)) (B.2.length - j)) (sAlone q B.2 j + dC q A.2 B.2 (A.2.length - i) (B.2.length - (j + 1)))) (sBes q (A.2.getD i z0) (B.2.getD j z0) + dC q A.2 B.2 (A.2.length - (i + 1)) (B.2.length - (j + 1))))))) h) 0 0) : zZ g YX10_pathCosts (zE g (fun v h1 => ∃ f, v = some (.int (nI (dC q A.2 B.2 A.2.length B.2.length))) ∧ h1 = mUp m (mRest S f) h ∧ tabIs q A.2 B.2 f 0 0) 0 0) 24 [(3, .int (nI i)), (4, .int (nI j)), (0, .ref m), (1, .int (nI k1)), (2, .int (nI k2))] [] (mUp m (mRest S f) h) 0 0 := by
  have hA' := mRest_row f hA
  have hB' := mRest_row f hB
  have lA : A.2.length ≤ 20 := hA.2.2.1.2.2.1
  have lB : B.2.length ≤ 20 := hB.2.2.1.2.2.1
  have hq' : ∀ i, i < 4 → (mRest S f).1 7 i = q i := fun i hi => by rw [mRest_o _ _ (by decide)]; exact hq i hi
  have sa : (mRest S f).1 5 (nI k1).toNatClampNeg = nI A.2.length := by rw [nI_clamp (by omega)]; exact hA'.2.1
  have sb : (mRest S f).1 5 (nI k2).toNatClampNeg = nI B.2.length := by rw [nI_clamp (by omega)]; exact hB'.2.1
  have ia : vp_in (nI k1) 27 := vp_in_nI (by omega) (by decide)
  have ib : vp_in (nI k2) 27 := vp_in_nI (by omega) (by decide)
  have e1 : (mRest S f).1 8 (nI (21 * (i + 1) + j)).toNatClampNeg = nI (dC q A.2 B.2 (A.2.length - (i + 1)) (B.2.length - j)) := by rw [nI_clamp (by omega), mRest_8]; exact hT _ _ (by omega) (by omega) (by omega)
  have e2 : (mRest S f).1 8 (nI (21 * i + (j + 1))).toNatClampNeg = nI (dC q A.2 B.2 (A.2.length - i) (B.2.length - (j + 1))) := by rw [nI_clamp (by omega), mRest_8]; exact hT _ _ (by omega) (by omega) (by omega)
  have e3 : (mRest S f).1 8 (nI (21 * (i + 1) + (j + 1))).toNatClampNeg = nI (dC q A.2 B.2 (A.2.length - (i + 1)) (B.2.length - (j + 1))) := by rw [nI_clamp (by omega), mRest_8]; exact hT _ _ (by omega) (by omega) (by omega)
  have pa := row_at hA' hk1 hi
  have pb := row_at hB' hk2 hj
  have b1 := sAlone_le hqo A.2 i
  have b2 := sAlone_le hqo B.2 j
  have b3 := sBes_le hqo (A.2.getD i z0) (B.2.getD j z0)
  have d1 := dC_le hqo A.2 B.2 (A.2.length - (i + 1)) (B.2.length - j)
  have d2 := dC_le hqo A.2 B.2 (A.2.length - i) (B.2.length - (j + 1))
  have d3 := dC_le hqo A.2 B.2 (A.2.length - (i + 1)) (B.2.length - (j + 1))
  refine z_iload_n dX10_pathCosts_24 rfl rfl ?_
  first | refine z_aload_n dX10_pathCosts_25 rfl rfl ?_ | refine z_aload_nN dX10_pathCosts_25 rfl rfl ?_
  refine zmg_24 rfl dX10_pathCosts_26 rfl ?_
  refine z_iload_n dX10_pathCosts_29 rfl rfl ?_
  refine zm_iald dX10_pathCosts_30 rfl rfl ia ?_
  rw [sa]
  refine z_icmp_ne (tgt := 49) dX10_pathCosts_31 rfl (by decide) (fun c31 => ?_) (fun c31 => absurd c31 (fun z => absurd ((nI_eq (by omega) (by omega)).mp z) (by omega)))
  refine zk_X10_219 rfl dX10_pathCosts_49 rfl ?_
  refine z_istore dX10_pathCosts_51 rfl (Nat.le_of_ble_eq_true rfl) ?_
  refine z_iload_n dX10_pathCosts_53 rfl rfl ?_
  first | refine z_aload_n dX10_pathCosts_54 rfl rfl ?_ | refine z_aload_nN dX10_pathCosts_54 rfl rfl ?_
  refine zmg_24 rfl dX10_pathCosts_55 rfl ?_
  refine z_iload_n dX10_pathCosts_58 rfl rfl ?_
  refine zm_iald dX10_pathCosts_59 rfl rfl ia ?_
  rw [sa]
  refine z_icmp_ge (tgt := 92) dX10_pathCosts_60 rfl (by decide) (fun c60 => absurd c60 (nI_ge (by omega) (by omega))) (fun c60 => ?_)
  refine z_iload dX10_pathCosts_63 rfl rfl ?_
  first | refine z_aload_n dX10_pathCosts_65 rfl rfl ?_ | refine z_aload_nN dX10_pathCosts_65 rfl rfl ?_
  refine z_iload_n dX10_pathCosts_66 rfl rfl ?_
  refine z_iload_n dX10_pathCosts_67 rfl rfl ?_
  refine zcx_X10_220 rfl dX10_pathCosts_68 rfl mo_recv (q_aloneCosts g h m (mRest S f) k1 i A hA' hk1 hi q hq' hqo) rfl rfl ⟨(Nat.le_of_ble_eq_true rfl), (Nat.le_of_ble_eq_true rfl)⟩ ⟨(Nat.le_of_ble_eq_true rfl), (Nat.le_of_ble_eq_true rfl)⟩ (Nat.le_of_ble_eq_true rfl) ?_
  first | refine z_aload_n dX10_pathCosts_71 rfl rfl ?_ | refine z_aload_nN dX10_pathCosts_71 rfl rfl ?_
  refine zmg_33 rfl dX10_pathCosts_72 rfl ?_
  refine z_bipush (v := 21) dX10_pathCosts_75 rfl (by decide) ?_
  refine z_iload_n dX10_pathCosts_77 rfl rfl ?_
  refine z_imul dX10_pathCosts_78 rfl ?_
  refine z_bipush (v := 21) dX10_pathCosts_79 rfl (by decide) ?_
  refine z_iadd dX10_pathCosts_81 rfl ?_
  refine z_iload dX10_pathCosts_82 rfl rfl ?_
  refine z_iadd dX10_pathCosts_84 rfl ?_
  rw [n21b]
  refine zm_iald dX10_pathCosts_85 rfl rfl (vp_in_nI (by omega) (by decide)) ?_
  rw [e1]
  refine z_iadd dX10_pathCosts_86 rfl ?_
  rw [nI_add]
  refine zcx_X10_223 rfl dX10_pathCosts_87 rfl (r_leastOf g _ _ _) rfl rfl ⟨(Nat.le_of_ble_eq_true rfl), (Nat.le_of_ble_eq_true rfl)⟩ ⟨(Nat.le_of_ble_eq_true rfl), (Nat.le_of_ble_eq_true rfl)⟩ (Nat.le_of_ble_eq_true rfl) ?_
  rw [least_big (show (sAlone q A.2 i + dC q A.2 B.2 (A.2.length - (i + 1)) (B.2.length - j)) ≤ 400 by omega)]
  refine z_istore dX10_pathCosts_90 rfl (Nat.le_of_ble_eq_true rfl) ?_
  refine z_iload dX10_pathCosts_92 rfl rfl ?_
  first | refine z_aload_n dX10_pathCosts_94 rfl rfl ?_ | refine z_aload_nN dX10_pathCosts_94 rfl rfl ?_
  refine zmg_24 rfl dX10_pathCosts_95 rfl ?_
  refine z_iload_n dX10_pathCosts_98 rfl rfl ?_
  refine zm_iald dX10_pathCosts_99 rfl rfl ib ?_
  rw [sb]
  refine z_icmp_ge (tgt := 132) dX10_pathCosts_100 rfl (by decide) (fun c100 => absurd c100 (nI_ge (by omega) (by omega))) (fun c100 => ?_)
  refine z_iload dX10_pathCosts_103 rfl rfl ?_
  first | refine z_aload_n dX10_pathCosts_105 rfl rfl ?_ | refine z_aload_nN dX10_pathCosts_105 rfl rfl ?_
  refine z_iload_n dX10_pathCosts_106 rfl rfl ?_
  refine z_iload dX10_pathCosts_107 rfl rfl ?_
  refine zcx_X10_220 rfl dX10_pathCosts_109 rfl mo_recv (q_aloneCosts g h m (mRest S f) k2 j B hB' hk2 hj q hq' hqo) rfl rfl ⟨(Nat.le_of_ble_eq_true rfl), (Nat.le_of_ble_eq_true rfl)⟩ ⟨(Nat.le_of_ble_eq_true rfl), (Nat.le_of_ble_eq_true rfl)⟩ (Nat.le_of_ble_eq_true rfl) ?_
  first | refine z_aload_n dX10_pathCosts_112 rfl rfl ?_ | refine z_aload_nN dX10_pathCosts_112 rfl rfl ?_
  refine zmg_33 rfl dX10_pathCosts_113 rfl ?_
  refine z_bipush (v := 21) dX10_pathCosts_116 rfl (by decide) ?_
  refine z_iload_n dX10_pathCosts_118 rfl rfl ?_
  refine z_imul dX10_pathCosts_119 rfl ?_
  refine z_iload dX10_pathCosts_120 rfl rfl ?_
  refine z_iadd dX10_pathCosts_122 rfl ?_
  refine z_iconst (v := 1) dX10_pathCosts_123 rfl (by decide) ?_
  refine z_iadd dX10_pathCosts_124 rfl ?_
  rw [n21d]
  refine zm_iald dX10_pathCosts_125 rfl rfl (vp_in_nI (by omega) (by decide)) ?_
  rw [e2]
  refine z_iadd dX10_pathCosts_126 rfl ?_
  rw [nI_add]
  refine zcx_X10_223 rfl dX10_pathCosts_127 rfl (r_leastOf g _ _ _) rfl rfl ⟨(Nat.le_of_ble_eq_true rfl), (Nat.le_of_ble_eq_true rfl)⟩ ⟨(Nat.le_of_ble_eq_true rfl), (Nat.le_of_ble_eq_true rfl)⟩ (Nat.le_of_ble_eq_true rfl) ?_
  rw [least_n (show (sAlone q A.2 i + dC q A.2 B.2 (A.2.length - (i + 1)) (B.2.length - j)) < 2 ^ 31 by omega) (show (sAlone q B.2 j + dC q A.2 B.2 (A.2.length - i) (B.2.length - (j + 1))) < 2 ^ 31 by omega)]
  refine z_istore dX10_pathCosts_130 rfl (Nat.le_of_ble_eq_true rfl) ?_
  refine z_iload_n dX10_pathCosts_132 rfl rfl ?_
  first | refine z_aload_n dX10_pathCosts_133 rfl rfl ?_ | refine z_aload_nN dX10_pathCosts_133 rfl rfl ?_
  refine zmg_24 rfl dX10_pathCosts_134 rfl ?_
  refine z_iload_n dX10_pathCosts_137 rfl rfl ?_
  refine zm_iald dX10_pathCosts_138 rfl rfl ia ?_
  rw [sa]
  refine z_icmp_ge (tgt := 193) dX10_pathCosts_139 rfl (by decide) (fun c139 => absurd c139 (nI_ge (by omega) (by omega))) (fun c139 => ?_)
  refine z_iload dX10_pathCosts_142 rfl rfl ?_
  first | refine z_aload_n dX10_pathCosts_144 rfl rfl ?_ | refine z_aload_nN dX10_pathCosts_144 rfl rfl ?_
  refine zmg_24 rfl dX10_pathCosts_145 rfl ?_
  refine z_iload_n dX10_pathCosts_148 rfl rfl ?_
  refine zm_iald dX10_pathCosts_149 rfl rfl ib ?_
  rw [sb]
  refine z_icmp_ge (tgt := 193) dX10_pathCosts_150 rfl (by decide) (fun c150 => absurd c150 (nI_ge (by omega) (by omega))) (fun c150 => ?_)
  refine z_iload dX10_pathCosts_153 rfl rfl ?_
  first | refine z_aload_n dX10_pathCosts_155 rfl rfl ?_ | refine z_aload_nN dX10_pathCosts_155 rfl rfl ?_
  refine z_bipush (v := 20) dX10_pathCosts_156 rfl (by decide) ?_
  refine z_iload_n dX10_pathCosts_158 rfl rfl ?_
  refine z_imul dX10_pathCosts_159 rfl ?_
  refine z_iload_n dX10_pathCosts_160 rfl rfl ?_
  refine z_iadd dX10_pathCosts_161 rfl ?_
  refine z_bipush (v := 20) dX10_pathCosts_162 rfl (by decide) ?_
  refine z_iload_n dX10_pathCosts_164 rfl rfl ?_
  refine z_imul dX10_pathCosts_165 rfl ?_
  refine z_iload dX10_pathCosts_166 rfl rfl ?_
  refine z_iadd dX10_pathCosts_168 rfl ?_
  rw [n20, n20]
  refine zcx_X10_226 rfl dX10_pathCosts_169 rfl mo_recv (q_besideCosts g h m (mRest S f) _ _ pa.1 pb.1 _ _ pa.2 pb.2 q hq' hqo) rfl rfl ⟨(Nat.le_of_ble_eq_true rfl), (Nat.le_of_ble_eq_true rfl)⟩ ⟨(Nat.le_of_ble_eq_true rfl), (Nat.le_of_ble_eq_true rfl)⟩ (Nat.le_of_ble_eq_true rfl) ?_
  first | refine z_aload_n dX10_pathCosts_172 rfl rfl ?_ | refine z_aload_nN dX10_pathCosts_172 rfl rfl ?_
  refine zmg_33 rfl dX10_pathCosts_173 rfl ?_
  refine z_bipush (v := 21) dX10_pathCosts_176 rfl (by decide) ?_
  refine z_iload_n dX10_pathCosts_178 rfl rfl ?_
  refine z_imul dX10_pathCosts_179 rfl ?_
  refine z_bipush (v := 22) dX10_pathCosts_180 rfl (by decide) ?_
  refine z_iadd dX10_pathCosts_182 rfl ?_
  refine z_iload dX10_pathCosts_183 rfl rfl ?_
  refine z_iadd dX10_pathCosts_185 rfl ?_
  rw [n21c]
  refine zm_iald dX10_pathCosts_186 rfl rfl (vp_in_nI (by omega) (by decide)) ?_
  rw [e3]
  refine z_iadd dX10_pathCosts_187 rfl ?_
  rw [nI_add]
  refine zcx_X10_223 rfl dX10_pathCosts_188 rfl (r_leastOf g _ _ _) rfl rfl ⟨(Nat.le_of_ble_eq_true rfl), (Nat.le_of_ble_eq_true rfl)⟩ ⟨(Nat.le_of_ble_eq_true rfl), (Nat.le_of_ble_eq_true rfl)⟩ (Nat.le_of_ble_eq_true rfl) ?_
  rw [least_n (show (min (sAlone q A.2 i + dC q A.2 B.2 (A.2.length - (i + 1)) (B.2.length - j)) (sAlone q B.2 j + dC q A.2 B.2 (A.2.length - i) (B.2.length - (j + 1)))) < 2 ^ 31 by omega) (show (sBes q (A.2.getD i z0) (B.2.getD j z0) + dC q A.2 B.2 (A.2.length - (i + 1)) (B.2.length - (j + 1))) < 2 ^ 31 by omega)]
  refine z_istore dX10_pathCosts_191 rfl (Nat.le_of_ble_eq_true rfl) ?_
  first | refine z_aload_n dX10_pathCosts_193 rfl rfl ?_ | refine z_aload_nN dX10_pathCosts_193 rfl rfl ?_
  refine zmg_33 rfl dX10_pathCosts_194 rfl ?_
  refine z_bipush (v := 21) dX10_pathCosts_197 rfl (by decide) ?_
  refine z_iload_n dX10_pathCosts_199 rfl rfl ?_
  refine z_imul dX10_pathCosts_200 rfl ?_
  refine z_iload dX10_pathCosts_201 rfl rfl ?_
  refine z_iadd dX10_pathCosts_203 rfl ?_
  rw [n21]
  refine z_iload dX10_pathCosts_204 rfl rfl ?_
  refine zm_iast dX10_pathCosts_206 rfl rfl (vp_in_nI (by omega) (by decide)) ?_
  rw [mRest_up, nI_clamp (show 21 * i + j < 2 ^ 31 by omega)]
  refine z_lv [(3, .int (nI i)), (4, .int (nI j)), (0, .ref m), (1, .int (nI k1)), (2, .int (nI k2))] ⟨rfl, rfl, rfl, rfl, rfl, trivial⟩ ?_
  exact kk
theorem dC_ee (q : Nat → Int32) (A B : List sC) : dC q A B 0 0 = 0 := by rw [dC]
theorem dC_l0 {q : Nat → Int32} {A B : List sC} {i j : Nat} (hi : i < A.length) (hj : j = B.length) : dC q A B (A.length - i) (B.length - j) = sAlone q A i + dC q A B (A.length - (i + 1)) (B.length - j) := by
  obtain ⟨a, ha⟩ : ∃ a, A.length - i = a + 1 := ⟨A.length - i - 1, by omega⟩
  rw [show B.length - j = 0 by omega, ha, dC, show A.length - (a + 1) = i by omega, show A.length - (i + 1) = a by omega]
theorem dC_0l {q : Nat → Int32} {A B : List sC} {i j : Nat} (hi : i = A.length) (hj : j < B.length) : dC q A B (A.length - i) (B.length - j) = sAlone q B j + dC q A B (A.length - i) (B.length - (j + 1)) := by
  obtain ⟨b, hb⟩ : ∃ b, B.length - j = b + 1 := ⟨B.length - j - 1, by omega⟩
  rw [show A.length - i = 0 by omega, hb, dC, show B.length - (b + 1) = j by omega, show B.length - (j + 1) = b by omega]
theorem dC_ll {q : Nat → Int32} {A B : List sC} {i j : Nat} (hi : i < A.length) (hj : j < B.length) : dC q A B (A.length - i) (B.length - j) = min (min (sAlone q A i + dC q A B (A.length - (i + 1)) (B.length - j)) (sAlone q B j + dC q A B (A.length - i) (B.length - (j + 1)))) (sBes q (A.getD i z0) (B.getD j z0) + dC q A B (A.length - (i + 1)) (B.length - (j + 1))) := by
  obtain ⟨a, ha⟩ : ∃ a, A.length - i = a + 1 := ⟨A.length - i - 1, by omega⟩
  obtain ⟨b, hb⟩ : ∃ b, B.length - j = b + 1 := ⟨B.length - j - 1, by omega⟩
  rw [ha, hb, dC, show A.length - (a + 1) = i by omega, show A.length - (i + 1) = a by omega, show B.length - (b + 1) = j by omega, show B.length - (j + 1) = b by omega]
theorem nI_m {n : Nat} : nI n + Int32.ofInt (-1) = nI n - 1 := by
  rw [Int32.sub_eq_add_neg]
  rfl

theorem nI_ge0 {n : Nat} (hn : n < 2 ^ 31) : ¬ nI n < 0 := by
  have := nI_pos' hn
  grind

set_option maxHeartbeats 4000000 in
set_option maxRecDepth 100000 in
theorem q_path_I (g : zG) (h : zH) (m : Nat) (S : sMS) (k1 k2 : Nat) (A B : sA) (hA : mRowIs S k1 A) (hB : mRowIs S k2 B) (hk1 : k1 < 26) (hk2 : k2 < 26) (q : Nat → Int32) (hq : ∀ i, i < 4 → S.1 7 i = q i) (hqo : rateOk q) (i : Nat) (hi0 : i ≤ A.2.length) (kk : ∀ f, tabIs q A.2 B.2 f i 0 → zZ g YX10_pathCosts (zE g (fun v h1 => ∃ f, v = some (.int (nI (dC q A.2 B.2 A.2.length B.2.length))) ∧ h1 = mUp m (mRest S f) h ∧ tabIs q A.2 B.2 f 0 0) 0 0) 7 [(3, .int (nI i - 1)), (0, .ref m), (1, .int (nI k1)), (2, .int (nI k2))] [] (mUp m (mRest S f) h) 0 0) : ∀ (j : Nat) (f : Nat → Int32), j ≤ B.2.length + 1 → tabIs q A.2 B.2 f i j → zZ g YX10_pathCosts (zE g (fun v h1 => ∃ f, v = some (.int (nI (dC q A.2 B.2 A.2.length B.2.length))) ∧ h1 = mUp m (mRest S f) h ∧ tabIs q A.2 B.2 f 0 0) 0 0) 19 [(3, .int (nI i)), (4, .int (nI j - 1)), (0, .ref m), (1, .int (nI k1)), (2, .int (nI k2))] [] (mUp m (mRest S f) h) 0 0 := by
  intro j
  induction j with
  | zero =>
    intro f hj0 hT
    refine z_iload dX10_pathCosts_19 rfl rfl ?_
    refine z_if_lt (tgt := 213) dX10_pathCosts_21 rfl (by decide) (fun c21 => ?_) (fun c21 => absurd c21 (fun z => z (by decide)))
    refine z_iinc (v := nI i - 1) dX10_pathCosts_213 rfl rfl nI_m (Nat.le_of_ble_eq_true rfl) ?_
    refine z_goto (tgt := 7) dX10_pathCosts_216 rfl (by decide) ?_
    refine z_lv [(3, .int (nI i - 1)), (0, .ref m), (1, .int (nI k1)), (2, .int (nI k2))] ⟨rfl, rfl, rfl, rfl, trivial⟩ ?_
    exact kk f hT
  | succ j ih =>
    intro f hj0 hT
    rw [show nI (j + 1) - 1 = nI j from nI_pred j]
    have lA : A.2.length ≤ 20 := hA.2.2.1.2.2.1
    have lB : B.2.length ≤ 20 := hB.2.2.1.2.2.1
    have hn : ∀ f', tabIs q A.2 B.2 f' i j → zZ g YX10_pathCosts (zE g (fun v h1 => ∃ f, v = some (.int (nI (dC q A.2 B.2 A.2.length B.2.length))) ∧ h1 = mUp m (mRest S f) h ∧ tabIs q A.2 B.2 f 0 0) 0 0) 207 [(3, .int (nI i)), (4, .int (nI j)), (0, .ref m), (1, .int (nI k1)), (2, .int (nI k2))] [] (mUp m (mRest S f') h) 0 0 := fun f' hT' => by
      refine z_iinc (v := nI j - 1) dX10_pathCosts_207 rfl rfl nI_m (Nat.le_of_ble_eq_true rfl) ?_
      refine z_goto (tgt := 19) dX10_pathCosts_210 rfl (by decide) ?_
      refine z_lv [(3, .int (nI i)), (4, .int (nI j - 1)), (0, .ref m), (1, .int (nI k1)), (2, .int (nI k2))] ⟨rfl, rfl, rfl, rfl, rfl, trivial⟩ ?_
      exact ih f' (by omega) hT'
    refine z_iload dX10_pathCosts_19 rfl rfl ?_
    refine z_if_lt (tgt := 213) dX10_pathCosts_21 rfl (by decide) (fun c21 => absurd c21 (fun z => absurd z (nI_ge0 (by omega)))) (fun c21 => ?_)
    refine z_lv [(3, .int (nI i)), (4, .int (nI j)), (0, .ref m), (1, .int (nI k1)), (2, .int (nI k2))] ⟨rfl, rfl, rfl, rfl, rfl, trivial⟩ ?_
    rcases Nat.lt_or_eq_of_le hi0 with hi | hi
    · rcases Nat.lt_or_eq_of_le (show j ≤ B.2.length by omega) with hj | hj
      · exact q_path_ll g h m S k1 k2 A B hA hB hk1 hk2 q hq hqo f i j hi hj hT (hn _ (tab_s hT lB (by omega) (by rw [dC_ll hi hj])))
      · exact q_path_le g h m S k1 k2 A B hA hB hk1 hk2 q hq hqo f i j hi hj hT (hn _ (tab_s hT lB (by omega) (by rw [dC_l0 hi hj])))
    · rcases Nat.lt_or_eq_of_le (show j ≤ B.2.length by omega) with hj | hj
      · exact q_path_el g h m S k1 k2 A B hA hB hk1 hk2 q hq hqo f i j hi hj hT (hn _ (tab_s hT lB (by omega) (by rw [dC_0l hi hj])))
      · exact q_path_ee g h m S k1 k2 A B hA hB hk1 hk2 q hq hqo f i j hi hj hT (hn _ (tab_s hT lB (by omega) (by rw [hi, hj, Nat.sub_self, Nat.sub_self, dC_ee])))
set_option maxHeartbeats 4000000 in
set_option maxRecDepth 100000 in
theorem q_path_O (g : zG) (h : zH) (m : Nat) (S : sMS) (k1 k2 : Nat) (A B : sA) (hA : mRowIs S k1 A) (hB : mRowIs S k2 B) (hk1 : k1 < 26) (hk2 : k2 < 26) (q : Nat → Int32) (hq : ∀ i, i < 4 → S.1 7 i = q i) (hqo : rateOk q) : ∀ (i : Nat) (f : Nat → Int32), i ≤ A.2.length + 1 → tabIs q A.2 B.2 f i 0 → zZ g YX10_pathCosts (zE g (fun v h1 => ∃ f, v = some (.int (nI (dC q A.2 B.2 A.2.length B.2.length))) ∧ h1 = mUp m (mRest S f) h ∧ tabIs q A.2 B.2 f 0 0) 0 0) 7 [(3, .int (nI i - 1)), (0, .ref m), (1, .int (nI k1)), (2, .int (nI k2))] [] (mUp m (mRest S f) h) 0 0 := by
  intro i
  induction i with
  | zero =>
    intro f hi0 hT
    refine z_iload_n dX10_pathCosts_7 rfl rfl ?_
    refine z_if_lt (tgt := 219) dX10_pathCosts_8 rfl (by decide) (fun c8 => ?_) (fun c8 => absurd c8 (fun z => z (by decide)))
    first | refine z_aload_n dX10_pathCosts_219 rfl rfl ?_ | refine z_aload_nN dX10_pathCosts_219 rfl rfl ?_
    refine zmg_33 rfl dX10_pathCosts_220 rfl ?_
    refine z_iconst (v := 0) dX10_pathCosts_223 rfl (by decide) ?_
    refine zm_iald dX10_pathCosts_224 rfl rfl (vp_in_nI (n := 0) (by decide) (by decide)) ?_
    exact z_iret dX10_pathCosts_225 rfl rfl ⟨f, by rw [show (mRest S f).1 8 (0 : Int32).toNatClampNeg = nI (dC q A.2 B.2 A.2.length B.2.length) from by rw [mRest_8]; exact hT 0 0 (Nat.zero_le _) (Nat.zero_le _) (by omega)], rfl, hT⟩ (Nat.le_of_ble_eq_true rfl) (Nat.le_of_ble_eq_true rfl)
  | succ i ih =>
    intro f hi0 hT
    rw [show nI (i + 1) - 1 = nI i from nI_pred i]
    have hA' := mRest_row f hA
    have hB' := mRest_row f hB
    have lA : A.2.length ≤ 20 := hA.2.2.1.2.2.1
    have lB : B.2.length ≤ 20 := hB.2.2.1.2.2.1
    have hq' : ∀ i, i < 4 → (mRest S f).1 7 i = q i := fun i hi => by rw [mRest_o _ _ (by decide)]; exact hq i hi
    have sa : (mRest S f).1 5 (nI k1).toNatClampNeg = nI A.2.length := by rw [nI_clamp (by omega)]; exact hA'.2.1
    have sb : (mRest S f).1 5 (nI k2).toNatClampNeg = nI B.2.length := by rw [nI_clamp (by omega)]; exact hB'.2.1
    have ia : vp_in (nI k1) 27 := vp_in_nI (by omega) (by decide)
    have ib : vp_in (nI k2) 27 := vp_in_nI (by omega) (by decide)
    refine z_iload_n dX10_pathCosts_7 rfl rfl ?_
    refine z_if_lt (tgt := 219) dX10_pathCosts_8 rfl (by decide) (fun c8 => absurd c8 (fun z => absurd z (nI_ge0 (by omega)))) (fun c8 => ?_)
    first | refine z_aload_n dX10_pathCosts_11 rfl rfl ?_ | refine z_aload_nN dX10_pathCosts_11 rfl rfl ?_
    refine zmg_24 rfl dX10_pathCosts_12 rfl ?_
    refine z_iload_n dX10_pathCosts_15 rfl rfl ?_
    refine zm_iald dX10_pathCosts_16 rfl rfl ib ?_
    rw [sb, show nI B.2.length = nI (B.2.length + 1) - 1 from (nI_pred B.2.length).symm]
    refine z_istore dX10_pathCosts_17 rfl (Nat.le_of_ble_eq_true rfl) ?_
    refine z_lv [(3, .int (nI i)), (4, .int (nI (B.2.length + 1) - 1)), (0, .ref m), (1, .int (nI k1)), (2, .int (nI k2))] ⟨rfl, rfl, rfl, rfl, rfl, trivial⟩ ?_
    exact q_path_I g h m S k1 k2 A B hA hB hk1 hk2 q hq hqo i (by omega) (fun f hT => ih f (by omega) hT) (B.2.length + 1) f (Nat.le_refl _) (tab_r hT)
set_option maxHeartbeats 4000000 in
set_option maxRecDepth 100000 in
theorem q_pathCosts (g : zG) (h : zH) (m : Nat) (S : sMS) (k1 k2 : Nat) (A B : sA) (hA : mRowIs S k1 A) (hB : mRowIs S k2 B) (hk1 : k1 < 26) (hk2 : k2 < 26) (q : Nat → Int32) (hq : ∀ i, i < 4 → S.1 7 i = q i) (hqo : rateOk q) : zM g yX10_pathCosts cX10_pathCosts 6 (some .int) rmX10_pathCosts [.ref m, .int (nI k1), .int (nI k2)] (mUp m S h) (fun v h1 => ∃ f, v = some (.int (nI (dC q A.2 B.2 A.2.length B.2.length))) ∧ h1 = mUp m (mRest S f) h ∧ tabIs q A.2 B.2 f 0 0) := by
  refine zM_of (by decide) (Nat.le_of_ble_eq_true rfl) ?_
  first | refine z_aload_n dX10_pathCosts_0 rfl rfl ?_ | refine z_aload_nN dX10_pathCosts_0 rfl rfl ?_
  refine zmg_24 rfl dX10_pathCosts_1 rfl ?_
  refine z_iload_n dX10_pathCosts_4 rfl rfl ?_
  refine zm_iald dX10_pathCosts_5 rfl rfl (vp_in_nI (by omega) (by decide)) ?_
  rw [show S.1 5 (nI k1).toNatClampNeg = nI (A.2.length + 1) - 1 from by rw [nI_clamp (by omega), show nI (A.2.length + 1) - 1 = nI A.2.length from nI_pred _]; exact hA.2.1]
  refine z_istore_n dX10_pathCosts_6 rfl (Nat.le_of_ble_eq_true rfl) ?_
  refine z_lv [(3, .int (nI (A.2.length + 1) - 1)), (0, .ref m), (1, .int (nI k1)), (2, .int (nI k2))] ⟨rfl, rfl, rfl, rfl, trivial⟩ ?_
  have e : S = mRest S (S.1 8) := Prod.ext (funext fun j => by simp only [mRest, va_up]; split <;> simp_all) rfl
  have q := q_path_O g h m S k1 k2 A B hA hB hk1 hk2 q hq hqo (A.2.length + 1) (S.1 8) (Nat.le_refl _) (fun x y hx _ hxy => by omega)
  rw [← e] at q
  exact q

