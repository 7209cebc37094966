theorem sm_congr {n : Nat} {f g : Nat → Nat} (h : ∀ i, i < n → f i = g i) : sm n f = sm n g := by
  induction n with
  | zero => rfl
  | succ n ih => show sm n f + f n = sm n g + g n; rw [ih (fun i hi => h i (by omega)), h n (by omega)]
theorem sm_zero {n : Nat} {f : Nat → Nat} (h : ∀ i, i < n → f i = 0) : sm n f = 0 := by
  induction n with
  | zero => rfl
  | succ n ih => show sm n f + f n = 0; rw [ih (fun i hi => h i (by omega)), h n (by omega)]
theorem sm_add (n : Nat) (f g : Nat → Nat) : sm n (fun i => f i + g i) = sm n f + sm n g := by
  induction n with
  | zero => rfl
  | succ n ih => show sm n _ + (f n + g n) = (sm n f + f n) + (sm n g + g n); rw [ih]; omega
theorem sm_swap (a b : Nat) (f : Nat → Nat → Nat) : sm a (fun i => sm b (fun j => f i j)) = sm b (fun j => sm a (fun i => f i j)) := by
  induction a with
  | zero => exact (sm_zero (fun _ _ => rfl)).symm
  | succ a ih =>
    show sm a _ + sm b (fun j => f a j) = sm b (fun j => sm a (fun i => f i j) + f a j)
    rw [ih, sm_add]
theorem sm_one {n k : Nat} (hk : k < n) {f : Nat → Nat} (h : ∀ i, i < n → i ≠ k → f i = 0) : sm n f = f k := by
  induction n with
  | zero => exact absurd hk (by omega)
  | succ n ih =>
    show sm n f + f n = f k
    by_cases e : k = n
    · rw [sm_zero (fun i hi => h i (by omega) (by omega)), e, Nat.zero_add]
    · rw [ih (by omega) (fun i hi hik => h i (by omega) hik), h n (by omega) (by omega), Nat.add_zero]
theorem rl_spec (R : sR) (r : Nat) : ∀ n i, i ≤ rLeast R r n i ∧ rLeast R r n i ≤ i + n ∧ (∀ q, i ≤ q → q < rLeast R r n i → ¬ (R.1 q = 2 ∧ R.2.2 q r = true)) ∧ (rLeast R r n i < i + n → R.1 (rLeast R r n i) = 2 ∧ R.2.2 (rLeast R r n i) r = true)
  | 0, i => ⟨Nat.le_refl _, Nat.le_refl _, fun q h1 h2 => absurd (show q < i from h2) (by omega), fun z => absurd (show i < i + 0 from z) (by omega)⟩
  | n + 1, i => by
    unfold rLeast
    split
    · rename_i h
      exact ⟨Nat.le_refl _, by omega, fun q h1 h2 => absurd h2 (by omega), fun _ => h⟩
    · rename_i h
      obtain ⟨a, b, c, d⟩ := rl_spec R r n (i + 1)
      refine ⟨by omega, by omega, fun q h1 h2 => ?_, fun z => d (by omega)⟩
      by_cases e : q = i
      · rw [e]; exact h
      · exact c q (by omega) h2
def rFst (R : sR) (r : Nat) : Prop := R.1 r = 2 ∧ rLeast R r 8 0 = r
def cntC (what : Int32) (A : sA) : Nat := if what = 1 then 1 else if what = 2 then A.2.length else A.2.countP (fun c => decide (c.1 = 9))
def rCnt (what : Int32) (R : sR) : Nat := sm 8 (fun r => if R.1 r = 2 ∧ rLeast R r 8 0 = r then cntC what (R.2.1 r) else 0)
/-- 32 -/
def pCount (w : sW) (what : Int32) : Int32 × sW :=
  (if what = 0 then nI (rHold w.1) else if what = 1 ∨ what = 2 ∨ what = 3 then nI (rCnt what w.1)
  else if what = 4 then nI (sm 4 (fun p => if (w.2.2.2.2.2.2 p).isSome = true then 1 else 0))
  else if what = 5 then nI (sm 2 (fun p => if (w.2.1 p).isSome = true then 1 else 0)) else -1, w)
theorem mRow_inj {S : sMS} {k : Nat} {A B : sA} (hA : mRowIs S k A) (hB : mRowIs S k B) : A = B := by
  obtain ⟨a1, a2, a3, a4⟩ := hA
  obtain ⟨b1, b2, b3, b4⟩ := hB
  have la := a3.2.2.1
  have lb := b3.2.2.1
  have hl : A.2.length = B.2.length := (nI_eq (by omega) (by omega)).mp (a2.symm.trans b2)
  refine Prod.ext (a1.symm.trans b1) (List.ext_getElem hl (fun i h1 h2 => ?_))
  have e1 := a4 i h1
  have e2 := b4 i h2
  rw [List.getD_eq_getElem?_getD, List.getElem?_eq_getElem h1] at e1
  rw [List.getD_eq_getElem?_getD, List.getElem?_eq_getElem h2] at e2
  exact e1.symm.trans e2
/-- what lies in a row that is held -/
noncomputable def rowA (S : sMS) (R : sR) (row : Nat) : sA := @dite _ (∃ r, r < 8 ∧ S.1 6 r = nI row) (Classical.propDecidable _) (fun h => R.2.1 (Classical.choose h)) (fun _ => (0, []))
theorem hold_2 {S : sMS} {R : sR} (hR : rRep (S.1 6) (mRowIs S) R) {r row : Nat} (hr : r < 8) (hrow : row < 8) (h : S.1 6 r = nI row) : R.1 r = 2 ∧ mRowIs S row (R.2.1 r) := by
  rcases hR.1 r hr with z | z | ⟨z, j, hj, z2, z3⟩
  · rw [h] at z; exact absurd z.2 (nI_neg (by omega) (by decide))
  · rw [h] at z; exact absurd z.2 (nI_neg (by omega) (by decide))
  · rw [z2] at h
    have := (nI_eq (by omega) (by omega)).mp h
    subst this
    exact ⟨z, z3⟩
theorem rowA_is {S : sMS} {R : sR} (hR : rRep (S.1 6) (mRowIs S) R) {row : Nat} (hrow : row < 8) (h : mHeld S (nI row) 8 = true) : mRowIs S row (rowA S R row) := by
  have hx := (mHeld_iff S (nI row) 8).mp h
  unfold rowA
  rw [dif_pos hx]
  exact (hold_2 hR (Classical.choose_spec hx).1 hrow (Classical.choose_spec hx).2).2
theorem cnt_swap {S : sMS} {R : sR} (hR : rRep (S.1 6) (mRowIs S) R) (F : sA → Nat) : sm 8 (fun row => if mHeld S (nI row) 8 = true then F (rowA S R row) else 0) = sm 8 (fun r => if R.1 r = 2 ∧ rLeast R r 8 0 = r then F (R.2.1 r) else 0) := by
  have e1 : ∀ row, row < 8 → (if mHeld S (nI row) 8 = true then F (rowA S R row) else 0) = sm 8 (fun r => if (R.1 r = 2 ∧ rLeast R r 8 0 = r) ∧ S.1 6 r = nI row then F (R.2.1 r) else 0) := by
    intro row hrow
    by_cases hh : mHeld S (nI row) 8 = true
    · rw [if_pos hh]
      have hA := rowA_is hR hrow hh
      obtain ⟨r1, hr1, hr1e⟩ := (mHeld_iff S (nI row) 8).mp hh
      obtain ⟨h12, h1A⟩ := hold_2 hR hr1 hrow hr1e
      have sp := rl_spec R r1 8 0
      have hself : R.2.2 r1 r1 = true := (hR.2 r1 r1 hr1 hr1 h12 h12).mpr rfl
      have hle : rLeast R r1 8 0 ≤ r1 := Nat.le_of_not_lt (fun z => sp.2.2.1 r1 (by omega) z ⟨h12, hself⟩)
      generalize rLeast R r1 8 0 = r0 at sp hle
      obtain ⟨h02, h0s⟩ := sp.2.2.2 (by omega)
      have h0e : S.1 6 r0 = nI row := ((hR.2 r0 r1 (by omega) hr1 h02 h12).mp h0s).trans hr1e
      have h0A := (hold_2 hR (show r0 < 8 by omega) hrow h0e).2
      have key : ∀ r, r < 8 → S.1 6 r = nI row → R.1 r = 2 → r0 ≤ r := fun r hr he h2 => Nat.le_of_not_lt (fun z => sp.2.2.1 r (by omega) z ⟨h2, (hR.2 r r1 hr hr1 h2 h12).mpr (he.trans hr1e.symm)⟩)
      have hf0 : rLeast R r0 8 0 = r0 := by
        have sq := rl_spec R r0 8 0
        have hs0 : R.2.2 r0 r0 = true := (hR.2 r0 r0 (by omega) (by omega) h02 h02).mpr rfl
        have hl0 : rLeast R r0 8 0 ≤ r0 := Nat.le_of_not_lt (fun z => sq.2.2.1 r0 (by omega) z ⟨h02, hs0⟩)
        obtain ⟨u1, u2⟩ := sq.2.2.2 (by omega)
        have := key _ (by omega) (((hR.2 _ r0 (by omega) (by omega) u1 h02).mp u2).trans h0e) u1
        omega
      rw [sm_one (k := r0) (show r0 < 8 by omega) (fun r hr hne => ?_), if_pos ⟨⟨h02, hf0⟩, h0e⟩, mRow_inj hA h0A]
      rw [if_neg]
      rintro ⟨⟨q1, q2⟩, q3⟩
      have sq := rl_spec R r 8 0
      have hge := key r hr q3 q1
      rw [q2] at sq
      exact sq.2.2.1 r0 (by omega) (by omega) ⟨h02, (hR.2 r0 r (by omega) hr h02 q1).mpr (h0e.trans q3.symm)⟩
    · rw [if_neg hh]
      refine (sm_zero (fun r hr => if_neg ?_)).symm
      rintro ⟨-, q⟩
      exact hh ((mHeld_iff S (nI row) 8).mpr ⟨r, hr, q⟩)
  have e2 : ∀ r, r < 8 → (if R.1 r = 2 ∧ rLeast R r 8 0 = r then F (R.2.1 r) else 0) = sm 8 (fun row => if (R.1 r = 2 ∧ rLeast R r 8 0 = r) ∧ S.1 6 r = nI row then F (R.2.1 r) else 0) := by
    intro r hr
    by_cases hf : R.1 r = 2 ∧ rLeast R r 8 0 = r
    · rw [if_pos hf]
      obtain ⟨k, hk, hke, -⟩ := rep_row hR hr hf.1
      rw [sm_one (k := k) hk (fun i hi hne => if_neg (fun z => hne ((nI_eq (by omega) (by omega)).mp (z.2.symm.trans hke)))), if_pos ⟨hf, hke⟩]
    · rw [if_neg hf]
      exact (sm_zero (fun i hi => if_neg (fun z => hf z.1))).symm
  rw [sm_congr e1, sm_congr e2, sm_swap]

abbrev YX10_ofRows : zY := (yX10_ofRows.cls, cX10_ofRows, 5, (some .int), rmX10_ofRows, yX10_ofRows.name, fun _ _ => True)
theorem tk_s {L : List sC} {k : Nat} {t : sC} (hk : L[k]? = some t) : L.take (k + 1) = L.take k ++ [t] := by rw [List.take_succ, hk]; rfl
set_option maxHeartbeats 800000 in
set_option maxRecDepth 100000 in
theorem q_ofRows1_L (g : zG) (h : zH) (m : Nat) (S : sMS) (R : sR) (hR : rRep (S.1 6) (mRowIs S) R) : ∀ (n row : Nat), row + n = 8 → zZ g YX10_ofRows (zE g (fun v h1 => v = some (.int (nI (rCnt 1 R))) ∧ h1 = mUp m S h) 0 0) 4 [(2, .int (nI (sm row (fun row => if mHeld S (nI row) 8 = true then cntC 1 (rowA S R row) else 0)))), (3, .int (nI row)), (0, .ref m), (1, .int 1)] [] (mUp m S h) 0 0 := by
  intro n
  induction n with
  | zero =>
    intro row hin
    have ei : row = 8 := by omega
    subst ei
    refine z_iload_n dX10_ofRows_4 rfl rfl ?_
    refine z_bipush (v := 8) dX10_ofRows_5 rfl (by decide) ?_
    refine z_icmp_ge (tgt := 104) dX10_ofRows_7 rfl (by decide) (fun c7 => ?_) (fun c7 => absurd c7 (fun z => z (nI_ge8 (by omega) (by omega))))
    refine z_iload_n dX10_ofRows_104 rfl rfl ?_
    exact z_iret dX10_ofRows_105 rfl rfl ⟨by rw [rCnt, ← cnt_swap hR (cntC 1)], rfl⟩ (Nat.le_of_ble_eq_true rfl) (Nat.le_of_ble_eq_true rfl)
  | succ n ih =>
    intro row hin
    by_cases hh : mHeld S (nI row) 8 = true
    · have hA := rowA_is hR (show row < 8 by omega) hh
      have hl : (rowA S R row).2.length ≤ 20 := hA.2.2.1.2.2.1
      refine z_iload_n dX10_ofRows_4 rfl rfl ?_
      refine z_bipush (v := 8) dX10_ofRows_5 rfl (by decide) ?_
      refine z_icmp_ge (tgt := 104) dX10_ofRows_7 rfl (by decide) (fun c7 => absurd c7 (nI_nge8 (by omega))) (fun c7 => ?_)
      first | refine z_aload_n dX10_ofRows_10 rfl rfl ?_ | refine z_aload_nN dX10_ofRows_10 rfl rfl ?_
      refine z_iload_n dX10_ofRows_11 rfl rfl ?_
      refine zcx_X10_128 rfl dX10_ofRows_12 rfl mo_recv (r_isHeld g h m S _) rfl rfl ⟨(Nat.le_of_ble_eq_true rfl), (Nat.le_of_ble_eq_true rfl)⟩ ⟨(Nat.le_of_ble_eq_true rfl), (Nat.le_of_ble_eq_true rfl)⟩ (Nat.le_of_ble_eq_true rfl) ?_
      refine z_bif_eq (tgt := 98) dX10_ofRows_15 rfl (by decide) (fun c15 => absurd c15 (fun z => z hh)) (fun c15 => ?_)
      refine z_iload_n dX10_ofRows_18 rfl rfl ?_
      refine z_iload_n dX10_ofRows_19 rfl rfl ?_
      refine z_iconst (v := 1) dX10_ofRows_20 rfl (by decide) ?_
      refine z_icmp_ne (tgt := 28) dX10_ofRows_21 rfl (by decide) (fun c21 => absurd c21 (fun z => z rfl)) (fun c21 => ?_)
      refine z_iconst (v := 1) dX10_ofRows_24 rfl (by decide) ?_
      refine z_goto (tgt := 43) dX10_ofRows_25 rfl (by decide) ?_
      refine z_iadd dX10_ofRows_43 rfl ?_
      rw [show nI (sm row (fun row => if mHeld S (nI row) 8 = true then cntC 1 (rowA S R row) else 0)) + (1 : Int32) = nI (sm (row + 1) (fun row => if mHeld S (nI row) 8 = true then cntC 1 (rowA S R row) else 0)) from by show _ = nI (sm row _ + (if mHeld S (nI row) 8 = true then cntC 1 (rowA S R row) else 0)); rw [if_pos hh]; exact nI_1 _]
      refine z_istore_n dX10_ofRows_44 rfl (Nat.le_of_ble_eq_true rfl) ?_
      refine z_iconst (v := 0) dX10_ofRows_45 rfl (by decide) ?_
      refine z_istore dX10_ofRows_46 rfl (Nat.le_of_ble_eq_true rfl) ?_
      refine z_iload dX10_ofRows_48 rfl rfl ?_
      first | refine z_aload_n dX10_ofRows_50 rfl rfl ?_ | refine z_aload_nN dX10_ofRows_50 rfl rfl ?_
      refine zmg_24 rfl dX10_ofRows_51 rfl ?_
      refine z_iload_n dX10_ofRows_54 rfl rfl ?_
      refine zm_iald dX10_ofRows_55 rfl rfl (vp_in_nI (by omega) (by decide)) ?_
      refine z_icmp_ge (tgt := 98) dX10_ofRows_56 rfl (by decide) (fun c56 => ?_) (fun c56 => ?_)
      · skip
        refine z_iinc (v := nI (row + 1)) dX10_ofRows_98 rfl rfl (nI_inc row) (Nat.le_of_ble_eq_true rfl) ?_
        refine z_goto (tgt := 4) dX10_ofRows_101 rfl (by decide) ?_
        refine z_lv [(2, .int (nI (sm (row + 1) (fun row => if mHeld S (nI row) 8 = true then cntC 1 (rowA S R row) else 0)))), (3, .int (nI (row + 1))), (0, .ref m), (1, .int 1)] ⟨rfl, rfl, rfl, rfl, trivial⟩ ?_
        exact ih (row + 1) (by omega)
      · skip
        refine z_iload_n dX10_ofRows_59 rfl rfl ?_
        refine z_iconst (v := 3) dX10_ofRows_60 rfl (by decide) ?_
        refine z_icmp_ne (tgt := 98) dX10_ofRows_61 rfl (by decide) (fun c61 => ?_) (fun c61 => absurd c61 (by decide))
        refine z_iinc (v := nI (row + 1)) dX10_ofRows_98 rfl rfl (nI_inc row) (Nat.le_of_ble_eq_true rfl) ?_
        refine z_goto (tgt := 4) dX10_ofRows_101 rfl (by decide) ?_
        refine z_lv [(2, .int (nI (sm (row + 1) (fun row => if mHeld S (nI row) 8 = true then cntC 1 (rowA S R row) else 0)))), (3, .int (nI (row + 1))), (0, .ref m), (1, .int 1)] ⟨rfl, rfl, rfl, rfl, trivial⟩ ?_
        exact ih (row + 1) (by omega)
    · skip
      refine z_iload_n dX10_ofRows_4 rfl rfl ?_
      refine z_bipush (v := 8) dX10_ofRows_5 rfl (by decide) ?_
      refine z_icmp_ge (tgt := 104) dX10_ofRows_7 rfl (by decide) (fun c7 => absurd c7 (nI_nge8 (by omega))) (fun c7 => ?_)
      first | refine z_aload_n dX10_ofRows_10 rfl rfl ?_ | refine z_aload_nN dX10_ofRows_10 rfl rfl ?_
      refine z_iload_n dX10_ofRows_11 rfl rfl ?_
      refine zcx_X10_128 rfl dX10_ofRows_12 rfl mo_recv (r_isHeld g h m S _) rfl rfl ⟨(Nat.le_of_ble_eq_true rfl), (Nat.le_of_ble_eq_true rfl)⟩ ⟨(Nat.le_of_ble_eq_true rfl), (Nat.le_of_ble_eq_true rfl)⟩ (Nat.le_of_ble_eq_true rfl) ?_
      refine z_bif_eq (tgt := 98) dX10_ofRows_15 rfl (by decide) (fun c15 => ?_) (fun c15 => absurd c15 hh)
      rw [show nI (sm row (fun row => if mHeld S (nI row) 8 = true then cntC 1 (rowA S R row) else 0)) = nI (sm (row + 1) (fun row => if mHeld S (nI row) 8 = true then cntC 1 (rowA S R row) else 0)) from by show _ = nI (sm row _ + (if mHeld S (nI row) 8 = true then cntC 1 (rowA S R row) else 0)); rw [if_neg hh, Nat.add_zero]]
      refine z_iinc (v := nI (row + 1)) dX10_ofRows_98 rfl rfl (nI_inc row) (Nat.le_of_ble_eq_true rfl) ?_
      refine z_goto (tgt := 4) dX10_ofRows_101 rfl (by decide) ?_
      refine z_lv [(2, .int (nI (sm (row + 1) (fun row => if mHeld S (nI row) 8 = true then cntC 1 (rowA S R row) else 0)))), (3, .int (nI (row + 1))), (0, .ref m), (1, .int 1)] ⟨rfl, rfl, rfl, rfl, trivial⟩ ?_
      exact ih (row + 1) (by omega)

set_option maxHeartbeats 4000000 in
set_option maxRecDepth 100000 in
/-- X10_ofRows -/
theorem q_ofRows1 (g : zG) (h : zH) (m : Nat) (S : sMS) (R : sR) (hR : rRep (S.1 6) (mRowIs S) R) : zX g yX10_ofRows cX10_ofRows 5 (some .int) rmX10_ofRows [.ref m, .int 1] (mUp m S h) (.int (nI (rCnt 1 R))) (mUp m S h) := by
  refine zM_of (by decide) (Nat.le_of_ble_eq_true rfl) ?_
  refine z_iconst (v := 0) dX10_ofRows_0 rfl (by decide) ?_
  refine z_istore_n dX10_ofRows_1 rfl (Nat.le_of_ble_eq_true rfl) ?_
  refine z_iconst (v := 0) dX10_ofRows_2 rfl (by decide) ?_
  refine z_istore_n dX10_ofRows_3 rfl (Nat.le_of_ble_eq_true rfl) ?_
  refine z_lv [(2, .int (nI (sm 0 (fun row => if mHeld S (nI row) 8 = true then cntC 1 (rowA S R row) else 0)))), (3, .int (nI 0)), (0, .ref m), (1, .int 1)] ⟨rfl, rfl, rfl, rfl, trivial⟩ ?_
  exact q_ofRows1_L g h m S R hR 8 0 (by omega)

set_option maxHeartbeats 800000 in
set_option maxRecDepth 100000 in
theorem q_ofRows2_L (g : zG) (h : zH) (m : Nat) (S : sMS) (R : sR) (hR : rRep (S.1 6) (mRowIs S) R) : ∀ (n row : Nat), row + n = 8 → zZ g YX10_ofRows (zE g (fun v h1 => v = some (.int (nI (rCnt 2 R))) ∧ h1 = mUp m S h) 0 0) 4 [(2, .int (nI (sm row (fun row => if mHeld S (nI row) 8 = true then cntC 2 (rowA S R row) else 0)))), (3, .int (nI row)), (0, .ref m), (1, .int 2)] [] (mUp m S h) 0 0 := by
  intro n
  induction n with
  | zero =>
    intro row hin
    have ei : row = 8 := by omega
    subst ei
    refine z_iload_n dX10_ofRows_4 rfl rfl ?_
    refine z_bipush (v := 8) dX10_ofRows_5 rfl (by decide) ?_
    refine z_icmp_ge (tgt := 104) dX10_ofRows_7 rfl (by decide) (fun c7 => ?_) (fun c7 => absurd c7 (fun z => z (nI_ge8 (by omega) (by omega))))
    refine z_iload_n dX10_ofRows_104 rfl rfl ?_
    exact z_iret dX10_ofRows_105 rfl rfl ⟨by rw [rCnt, ← cnt_swap hR (cntC 2)], rfl⟩ (Nat.le_of_ble_eq_true rfl) (Nat.le_of_ble_eq_true rfl)
  | succ n ih =>
    intro row hin
    by_cases hh : mHeld S (nI row) 8 = true
    · have hA := rowA_is hR (show row < 8 by omega) hh
      have hl : (rowA S R row).2.length ≤ 20 := hA.2.2.1.2.2.1
      refine z_iload_n dX10_ofRows_4 rfl rfl ?_
      refine z_bipush (v := 8) dX10_ofRows_5 rfl (by decide) ?_
      refine z_icmp_ge (tgt := 104) dX10_ofRows_7 rfl (by decide) (fun c7 => absurd c7 (nI_nge8 (by omega))) (fun c7 => ?_)
      first | refine z_aload_n dX10_ofRows_10 rfl rfl ?_ | refine z_aload_nN dX10_ofRows_10 rfl rfl ?_
      refine z_iload_n dX10_ofRows_11 rfl rfl ?_
      refine zcx_X10_128 rfl dX10_ofRows_12 rfl mo_recv (r_isHeld g h m S _) rfl rfl ⟨(Nat.le_of_ble_eq_true rfl), (Nat.le_of_ble_eq_true rfl)⟩ ⟨(Nat.le_of_ble_eq_true rfl), (Nat.le_of_ble_eq_true rfl)⟩ (Nat.le_of_ble_eq_true rfl) ?_
      refine z_bif_eq (tgt := 98) dX10_ofRows_15 rfl (by decide) (fun c15 => absurd c15 (fun z => z hh)) (fun c15 => ?_)
      refine z_iload_n dX10_ofRows_18 rfl rfl ?_
      refine z_iload_n dX10_ofRows_19 rfl rfl ?_
      refine z_iconst (v := 1) dX10_ofRows_20 rfl (by decide) ?_
      refine z_icmp_ne (tgt := 28) dX10_ofRows_21 rfl (by decide) (fun c21 => ?_) (fun c21 => absurd c21 (by decide))
      refine z_iload_n dX10_ofRows_28 rfl rfl ?_
      refine z_iconst (v := 2) dX10_ofRows_29 rfl (by decide) ?_
      refine z_icmp_ne (tgt := 42) dX10_ofRows_30 rfl (by decide) (fun c30 => absurd c30 (fun z => z rfl)) (fun c30 => ?_)
      first | refine z_aload_n dX10_ofRows_33 rfl rfl ?_ | refine z_aload_nN dX10_ofRows_33 rfl rfl ?_
      refine zmg_24 rfl dX10_ofRows_34 rfl ?_
      refine z_iload_n dX10_ofRows_37 rfl rfl ?_
      refine zm_iald dX10_ofRows_38 rfl rfl (vp_in_nI (by omega) (by decide)) ?_
      rw [nI_clamp (show row < 2 ^ 31 by omega), hA.2.1]
      refine z_goto (tgt := 43) dX10_ofRows_39 rfl (by decide) ?_
      refine z_iadd dX10_ofRows_43 rfl ?_
      rw [show nI (sm row (fun row => if mHeld S (nI row) 8 = true then cntC 2 (rowA S R row) else 0)) + nI (rowA S R row).2.length = nI (sm (row + 1) (fun row => if mHeld S (nI row) 8 = true then cntC 2 (rowA S R row) else 0)) from by show _ = nI (sm row _ + (if mHeld S (nI row) 8 = true then cntC 2 (rowA S R row) else 0)); rw [if_pos hh]; exact nI_add _ _]
      refine z_istore_n dX10_ofRows_44 rfl (Nat.le_of_ble_eq_true rfl) ?_
      refine z_iconst (v := 0) dX10_ofRows_45 rfl (by decide) ?_
      refine z_istore dX10_ofRows_46 rfl (Nat.le_of_ble_eq_true rfl) ?_
      refine z_iload dX10_ofRows_48 rfl rfl ?_
      first | refine z_aload_n dX10_ofRows_50 rfl rfl ?_ | refine z_aload_nN dX10_ofRows_50 rfl rfl ?_
      refine zmg_24 rfl dX10_ofRows_51 rfl ?_
      refine z_iload_n dX10_ofRows_54 rfl rfl ?_
      refine zm_iald dX10_ofRows_55 rfl rfl (vp_in_nI (by omega) (by decide)) ?_
      refine z_icmp_ge (tgt := 98) dX10_ofRows_56 rfl (by decide) (fun c56 => ?_) (fun c56 => ?_)
      · skip
        refine z_iinc (v := nI (row + 1)) dX10_ofRows_98 rfl rfl (nI_inc row) (Nat.le_of_ble_eq_true rfl) ?_
        refine z_goto (tgt := 4) dX10_ofRows_101 rfl (by decide) ?_
        refine z_lv [(2, .int (nI (sm (row + 1) (fun row => if mHeld S (nI row) 8 = true then cntC 2 (rowA S R row) else 0)))), (3, .int (nI (row + 1))), (0, .ref m), (1, .int 2)] ⟨rfl, rfl, rfl, rfl, trivial⟩ ?_
        exact ih (row + 1) (by omega)
      · skip
        refine z_iload_n dX10_ofRows_59 rfl rfl ?_
        refine z_iconst (v := 3) dX10_ofRows_60 rfl (by decide) ?_
        refine z_icmp_ne (tgt := 98) dX10_ofRows_61 rfl (by decide) (fun c61 => ?_) (fun c61 => absurd c61 (by decide))
        refine z_iinc (v := nI (row + 1)) dX10_ofRows_98 rfl rfl (nI_inc row) (Nat.le_of_ble_eq_true rfl) ?_
        refine z_goto (tgt := 4) dX10_ofRows_101 rfl (by decide) ?_
        refine z_lv [(2, .int (nI (sm (row + 1) (fun row => if mHeld S (nI row) 8 = true then cntC 2 (rowA S R row) else 0)))), (3, .int (nI (row + 1))), (0, .ref m), (1, .int 2)] ⟨rfl, rfl, rfl, rfl, trivial⟩ ?_
        exact ih (row + 1) (by omega)
    · skip
      refine z_iload_n dX10_ofRows_4 rfl rfl ?_
      refine z_bipush (v := 8) dX10_ofRows_5 rfl (by decide) ?_
      refine z_icmp_ge (tgt := 104) dX10_ofRows_7 rfl (by decide) (fun c7 => absurd c7 (nI_nge8 (by omega))) (fun c7 => ?_)
      first | refine z_aload_n dX10_ofRows_10 rfl rfl ?_ | refine z_aload_nN dX10_ofRows_10 rfl rfl ?_
      refine z_iload_n dX10_ofRows_11 rfl rfl ?_
      refine zcx_X10_128 rfl dX10_ofRows_12 rfl mo_recv (r_isHeld g h m S _) rfl rfl ⟨(Nat.le_of_ble_eq_true rfl), (Nat.le_of_ble_eq_true rfl)⟩ ⟨(Nat.le_of_ble_eq_true rfl), (Nat.le_of_ble_eq_true rfl)⟩ (Nat.le_of_ble_eq_true rfl) ?_
      refine z_bif_eq (tgt := 98) dX10_ofRows_15 rfl (by decide) (fun c15 => ?_) (fun c15 => absurd c15 hh)
      rw [show nI (sm row (fun row => if mHeld S (nI row) 8 = true then cntC 2 (rowA S R row) else 0)) = nI (sm (row + 1) (fun row => if mHeld S (nI row) 8 = true then cntC 2 (rowA S R row) else 0)) from by show _ = nI (sm row _ + (if mHeld S (nI row) 8 = true then cntC 2 (rowA S R row) else 0)); rw [if_neg hh, Nat.add_zero]]
      refine z_iinc (v := nI (row + 1)) dX10_ofRows_98 rfl rfl (nI_inc row) (Nat.le_of_ble_eq_true rfl) ?_
      refine z_goto (tgt := 4) dX10_ofRows_101 rfl (by decide) ?_
      refine z_lv [(2, .int (nI (sm (row + 1) (fun row => if mHeld S (nI row) 8 = true then cntC 2 (rowA S R row) else 0)))), (3, .int (nI (row + 1))), (0, .ref m), (1, .int 2)] ⟨rfl, rfl, rfl, rfl, trivial⟩ ?_
      exact ih (row + 1) (by omega)

set_option maxHeartbeats 4000000 in
set_option maxRecDepth 100000 in
/-- X10_ofRows -/
theorem q_ofRows2 (g : zG) (h : zH) (m : Nat) (S : sMS) (R : sR) (hR : rRep (S.1 6) (mRowIs S) R) : zX g yX10_ofRows cX10_ofRows 5 (some .int) rmX10_ofRows [.ref m, .int 2] (mUp m S h) (.int (nI (rCnt 2 R))) (mUp m S h) := by
  refine zM_of (by decide) (Nat.le_of_ble_eq_true rfl) ?_
  refine z_iconst (v := 0) dX10_ofRows_0 rfl (by decide) ?_
  refine z_istore_n dX10_ofRows_1 rfl (Nat.le_of_ble_eq_true rfl) ?_
  refine z_iconst (v := 0) dX10_ofRows_2 rfl (by decide) ?_
  refine z_istore_n dX10_ofRows_3 rfl (Nat.le_of_ble_eq_true rfl) ?_
  refine z_lv [(2, .int (nI (sm 0 (fun row => if mHeld S (nI row) 8 = true then cntC 2 (rowA S R row) else 0)))), (3, .int (nI 0)), (0, .ref m), (1, .int 2)] ⟨rfl, rfl, rfl, rfl, trivial⟩ ?_
  exact q_ofRows2_L g h m S R hR 8 0 (by omega)

set_option maxHeartbeats 800000 in
set_option maxRecDepth 100000 in
theorem q_ofRows3_L (g : zG) (h : zH) (m : Nat) (S : sMS) (R : sR) (hR : rRep (S.1 6) (mRowIs S) R) : ∀ (n row : Nat), row + n = 8 → zZ g YX10_ofRows (zE g (fun v h1 => v = some (.int (nI (rCnt 3 R))) ∧ h1 = mUp m S h) 0 0) 4 [(2, .int (nI (sm row (fun row => if mHeld S (nI row) 8 = true then cntC 3 (rowA S R row) else 0)))), (3, .int (nI row)), (0, .ref m), (1, .int 3)] [] (mUp m S h) 0 0 := by
  intro n
  induction n with
  | zero =>
    intro row hin
    have ei : row = 8 := by omega
    subst ei
    refine z_iload_n dX10_ofRows_4 rfl rfl ?_
    refine z_bipush (v := 8) dX10_ofRows_5 rfl (by decide) ?_
    refine z_icmp_ge (tgt := 104) dX10_ofRows_7 rfl (by decide) (fun c7 => ?_) (fun c7 => absurd c7 (fun z => z (nI_ge8 (by omega) (by omega))))
    refine z_iload_n dX10_ofRows_104 rfl rfl ?_
    exact z_iret dX10_ofRows_105 rfl rfl ⟨by rw [rCnt, ← cnt_swap hR (cntC 3)], rfl⟩ (Nat.le_of_ble_eq_true rfl) (Nat.le_of_ble_eq_true rfl)
  | succ n ih =>
    intro row hin
    by_cases hh : mHeld S (nI row) 8 = true
    · have hA := rowA_is hR (show row < 8 by omega) hh
      have hl : (rowA S R row).2.length ≤ 20 := hA.2.2.1.2.2.1
      have inner : ∀ (n j : Nat), j + n = (rowA S R row).2.length → zZ g YX10_ofRows (zE g (fun v h1 => v = some (.int (nI (rCnt 3 R))) ∧ h1 = mUp m S h) 0 0) 48 [(4, .int (nI j)), (2, .int (nI (sm row (fun row => if mHeld S (nI row) 8 = true then cntC 3 (rowA S R row) else 0) + ((rowA S R row).2.take j).countP (fun c => decide (c.1 = 9))))), (3, .int (nI row)), (0, .ref m), (1, .int 3)] [] (mUp m S h) 0 0 := by
        intro n
        induction n with
        | zero =>
          intro j hjn
          refine z_iload dX10_ofRows_48 rfl rfl ?_
          first | refine z_aload_n dX10_ofRows_50 rfl rfl ?_ | refine z_aload_nN dX10_ofRows_50 rfl rfl ?_
          refine zmg_24 rfl dX10_ofRows_51 rfl ?_
          refine z_iload_n dX10_ofRows_54 rfl rfl ?_
          refine zm_iald dX10_ofRows_55 rfl rfl (vp_in_nI (by omega) (by decide)) ?_
          rw [nI_clamp (show row < 2 ^ 31 by omega), hA.2.1]
          refine z_icmp_ge (tgt := 98) dX10_ofRows_56 rfl (by decide) (fun c56 => ?_) (fun c56 => absurd c56 (fun z => z (nI_le (by omega) (by omega))))
          rw [show nI (sm row (fun row => if mHeld S (nI row) 8 = true then cntC 3 (rowA S R row) else 0) + ((rowA S R row).2.take j).countP (fun c => decide (c.1 = 9))) = nI (sm (row + 1) (fun row => if mHeld S (nI row) 8 = true then cntC 3 (rowA S R row) else 0)) from by show _ = nI (sm row _ + (if mHeld S (nI row) 8 = true then cntC 3 (rowA S R row) else 0)); rw [if_pos hh, show j = (rowA S R row).2.length from by omega, List.take_length]; rfl]
          refine z_iinc (v := nI (row + 1)) dX10_ofRows_98 rfl rfl (nI_inc row) (Nat.le_of_ble_eq_true rfl) ?_
          refine z_goto (tgt := 4) dX10_ofRows_101 rfl (by decide) ?_
          refine z_lv [(2, .int (nI (sm (row + 1) (fun row => if mHeld S (nI row) 8 = true then cntC 3 (rowA S R row) else 0)))), (3, .int (nI (row + 1))), (0, .ref m), (1, .int 3)] ⟨rfl, rfl, rfl, rfl, trivial⟩ ?_
          exact ih (row + 1) (by omega)
        | succ n jh =>
          intro j hjn
          obtain ⟨c, hj⟩ : ∃ c, (rowA S R row).2[j]? = some c := ⟨_, List.getElem?_eq_getElem (by omega)⟩
          have hcell : mc S (20 * row + j) = c := by rw [hA.2.2.2 j (by omega), List.getD_eq_getElem?_getD, hj]; rfl
          by_cases h9 : c.1 = 9
          · skip
            refine z_iload dX10_ofRows_48 rfl rfl ?_
            first | refine z_aload_n dX10_ofRows_50 rfl rfl ?_ | refine z_aload_nN dX10_ofRows_50 rfl rfl ?_
            refine zmg_24 rfl dX10_ofRows_51 rfl ?_
            refine z_iload_n dX10_ofRows_54 rfl rfl ?_
            refine zm_iald dX10_ofRows_55 rfl rfl (vp_in_nI (by omega) (by decide)) ?_
            rw [nI_clamp (show row < 2 ^ 31 by omega), hA.2.1]
            refine z_icmp_ge (tgt := 98) dX10_ofRows_56 rfl (by decide) (fun c56 => absurd c56 (nI_ge (by omega) (by omega))) (fun c56 => ?_)
            refine z_iload_n dX10_ofRows_59 rfl rfl ?_
            refine z_iconst (v := 3) dX10_ofRows_60 rfl (by decide) ?_
            refine z_icmp_ne (tgt := 98) dX10_ofRows_61 rfl (by decide) (fun c61 => absurd c61 (fun z => z rfl)) (fun c61 => ?_)
            refine z_iload_n dX10_ofRows_64 rfl rfl ?_
            first | refine z_aload_n dX10_ofRows_65 rfl rfl ?_ | refine z_aload_nN dX10_ofRows_65 rfl rfl ?_
            refine zmg_7 rfl dX10_ofRows_66 rfl ?_
            refine z_bipush (v := 20) dX10_ofRows_69 rfl (by decide) ?_
            refine z_iload_n dX10_ofRows_71 rfl rfl ?_
            refine z_imul dX10_ofRows_72 rfl ?_
            refine z_iload dX10_ofRows_73 rfl rfl ?_
            refine z_iadd dX10_ofRows_75 rfl ?_
            rw [n20]
            refine zm_iald dX10_ofRows_76 rfl rfl (vp_in_nI (by omega) (by decide)) ?_
            rw [nI_clamp (show 20 * row + j < 2 ^ 31 by omega), show S.1 1 (20 * row + j) = c.1 from congrArg (fun c : sC => c.1) hcell]
            refine z_bipush (v := 9) dX10_ofRows_77 rfl (by decide) ?_
            refine z_icmp_ne (tgt := 86) dX10_ofRows_79 rfl (by decide) (fun c79 => absurd c79 (fun z => z h9)) (fun c79 => ?_)
            refine z_iconst (v := 1) dX10_ofRows_82 rfl (by decide) ?_
            refine z_goto (tgt := 87) dX10_ofRows_83 rfl (by decide) ?_
            refine zcx_X10_200 rfl dX10_ofRows_87 rfl (r_flag g _ True) rfl rfl ⟨(Nat.le_of_ble_eq_true rfl), (Nat.le_of_ble_eq_true rfl)⟩ ⟨(Nat.le_of_ble_eq_true rfl), (Nat.le_of_ble_eq_true rfl)⟩ (Nat.le_of_ble_eq_true rfl) ?_
            refine z_iadd dX10_ofRows_90 rfl ?_
            rw [show nI (sm row (fun row => if mHeld S (nI row) 8 = true then cntC 3 (rowA S R row) else 0) + ((rowA S R row).2.take j).countP (fun c => decide (c.1 = 9))) + (if True then (1 : Int32) else 0) = nI (sm row (fun row => if mHeld S (nI row) 8 = true then cntC 3 (rowA S R row) else 0) + ((rowA S R row).2.take (j + 1)).countP (fun c => decide (c.1 = 9))) from by rw [tk_s hj]; rw [if_pos trivial, List.countP_append, List.countP_singleton, decide_eq_true h9, if_pos rfl, ← Nat.add_assoc]; exact nI_1 _]
            refine z_istore_n dX10_ofRows_91 rfl (Nat.le_of_ble_eq_true rfl) ?_
            refine z_iinc (v := nI (j + 1)) dX10_ofRows_92 rfl rfl (nI_inc j) (Nat.le_of_ble_eq_true rfl) ?_
            refine z_goto (tgt := 48) dX10_ofRows_95 rfl (by decide) ?_
            refine z_lv [(4, .int (nI (j + 1))), (2, .int (nI (sm row (fun row => if mHeld S (nI row) 8 = true then cntC 3 (rowA S R row) else 0) + ((rowA S R row).2.take (j + 1)).countP (fun c => decide (c.1 = 9))))), (3, .int (nI row)), (0, .ref m), (1, .int 3)] ⟨rfl, rfl, rfl, rfl, rfl, trivial⟩ ?_
            exact jh (j + 1) (by omega)
          · skip
            refine z_iload dX10_ofRows_48 rfl rfl ?_
            first | refine z_aload_n dX10_ofRows_50 rfl rfl ?_ | refine z_aload_nN dX10_ofRows_50 rfl rfl ?_
            refine zmg_24 rfl dX10_ofRows_51 rfl ?_
            refine z_iload_n dX10_ofRows_54 rfl rfl ?_
            refine zm_iald dX10_ofRows_55 rfl rfl (vp_in_nI (by omega) (by decide)) ?_
            rw [nI_clamp (show row < 2 ^ 31 by omega), hA.2.1]
            refine z_icmp_ge (tgt := 98) dX10_ofRows_56 rfl (by decide) (fun c56 => absurd c56 (nI_ge (by omega) (by omega))) (fun c56 => ?_)
            refine z_iload_n dX10_ofRows_59 rfl rfl ?_
            refine z_iconst (v := 3) dX10_ofRows_60 rfl (by decide) ?_
            refine z_icmp_ne (tgt := 98) dX10_ofRows_61 rfl (by decide) (fun c61 => absurd c61 (fun z => z rfl)) (fun c61 => ?_)
            refine z_iload_n dX10_ofRows_64 rfl rfl ?_
            first | refine z_aload_n dX10_ofRows_65 rfl rfl ?_ | refine z_aload_nN dX10_ofRows_65 rfl rfl ?_
            refine zmg_7 rfl dX10_ofRows_66 rfl ?_
            refine z_bipush (v := 20) dX10_ofRows_69 rfl (by decide) ?_
            refine z_iload_n dX10_ofRows_71 rfl rfl ?_
            refine z_imul dX10_ofRows_72 rfl ?_
            refine z_iload dX10_ofRows_73 rfl rfl ?_
            refine z_iadd dX10_ofRows_75 rfl ?_
            rw [n20]
            refine zm_iald dX10_ofRows_76 rfl rfl (vp_in_nI (by omega) (by decide)) ?_
            rw [nI_clamp (show 20 * row + j < 2 ^ 31 by omega), show S.1 1 (20 * row + j) = c.1 from congrArg (fun c : sC => c.1) hcell]
            refine z_bipush (v := 9) dX10_ofRows_77 rfl (by decide) ?_
            refine z_icmp_ne (tgt := 86) dX10_ofRows_79 rfl (by decide) (fun c79 => ?_) (fun c79 => absurd c79 h9)
            refine z_iconst (v := 0) dX10_ofRows_86 rfl (by decide) ?_
            refine zcx_X10_200 rfl dX10_ofRows_87 rfl (r_flag g _ False) rfl rfl ⟨(Nat.le_of_ble_eq_true rfl), (Nat.le_of_ble_eq_true rfl)⟩ ⟨(Nat.le_of_ble_eq_true rfl), (Nat.le_of_ble_eq_true rfl)⟩ (Nat.le_of_ble_eq_true rfl) ?_
            refine z_iadd dX10_ofRows_90 rfl ?_
            rw [show nI (sm row (fun row => if mHeld S (nI row) 8 = true then cntC 3 (rowA S R row) else 0) + ((rowA S R row).2.take j).countP (fun c => decide (c.1 = 9))) + (if False then (1 : Int32) else 0) = nI (sm row (fun row => if mHeld S (nI row) 8 = true then cntC 3 (rowA S R row) else 0) + ((rowA S R row).2.take (j + 1)).countP (fun c => decide (c.1 = 9))) from by rw [tk_s hj]; rw [if_neg not_false, List.countP_append, List.countP_singleton, decide_eq_false h9, if_neg Bool.false_ne_true, Nat.add_zero, Int32.add_zero]]
            refine z_istore_n dX10_ofRows_91 rfl (Nat.le_of_ble_eq_true rfl) ?_
            refine z_iinc (v := nI (j + 1)) dX10_ofRows_92 rfl rfl (nI_inc j) (Nat.le_of_ble_eq_true rfl) ?_
            refine z_goto (tgt := 48) dX10_ofRows_95 rfl (by decide) ?_
            refine z_lv [(4, .int (nI (j + 1))), (2, .int (nI (sm row (fun row => if mHeld S (nI row) 8 = true then cntC 3 (rowA S R row) else 0) + ((rowA S R row).2.take (j + 1)).countP (fun c => decide (c.1 = 9))))), (3, .int (nI row)), (0, .ref m), (1, .int 3)] ⟨rfl, rfl, rfl, rfl, rfl, trivial⟩ ?_
            exact jh (j + 1) (by omega)
      refine z_iload_n dX10_ofRows_4 rfl rfl ?_
      refine z_bipush (v := 8) dX10_ofRows_5 rfl (by decide) ?_
      refine z_icmp_ge (tgt := 104) dX10_ofRows_7 rfl (by decide) (fun c7 => absurd c7 (nI_nge8 (by omega))) (fun c7 => ?_)
      first | refine z_aload_n dX10_ofRows_10 rfl rfl ?_ | refine z_aload_nN dX10_ofRows_10 rfl rfl ?_
      refine z_iload_n dX10_ofRows_11 rfl rfl ?_
      refine zcx_X10_128 rfl dX10_ofRows_12 rfl mo_recv (r_isHeld g h m S _) rfl rfl ⟨(Nat.le_of_ble_eq_true rfl), (Nat.le_of_ble_eq_true rfl)⟩ ⟨(Nat.le_of_ble_eq_true rfl), (Nat.le_of_ble_eq_true rfl)⟩ (Nat.le_of_ble_eq_true rfl) ?_
      refine z_bif_eq (tgt := 98) dX10_ofRows_15 rfl (by decide) (fun c15 => absurd c15 (fun z => z hh)) (fun c15 => ?_)
      refine z_iload_n dX10_ofRows_18 rfl rfl ?_
      refine z_iload_n dX10_ofRows_19 rfl rfl ?_
      refine z_iconst (v := 1) dX10_ofRows_20 rfl (by decide) ?_
      refine z_icmp_ne (tgt := 28) dX10_ofRows_21 rfl (by decide) (fun c21 => ?_) (fun c21 => absurd c21 (by decide))
      refine z_iload_n dX10_ofRows_28 rfl rfl ?_
      refine z_iconst (v := 2) dX10_ofRows_29 rfl (by decide) ?_
      refine z_icmp_ne (tgt := 42) dX10_ofRows_30 rfl (by decide) (fun c30 => ?_) (fun c30 => absurd c30 (by decide))
      refine z_iconst (v := 0) dX10_ofRows_42 rfl (by decide) ?_
      refine z_iadd dX10_ofRows_43 rfl ?_
      rw [Int32.add_zero]
      refine z_istore_n dX10_ofRows_44 rfl (Nat.le_of_ble_eq_true rfl) ?_
      refine z_iconst (v := 0) dX10_ofRows_45 rfl (by decide) ?_
      refine z_istore dX10_ofRows_46 rfl (Nat.le_of_ble_eq_true rfl) ?_
      refine z_lv [(4, .int (nI 0)), (2, .int (nI (sm row (fun row => if mHeld S (nI row) 8 = true then cntC 3 (rowA S R row) else 0) + ((rowA S R row).2.take 0).countP (fun c => decide (c.1 = 9))))), (3, .int (nI row)), (0, .ref m), (1, .int 3)] ⟨rfl, rfl, rfl, rfl, rfl, trivial⟩ ?_
      exact inner (rowA S R row).2.length 0 (by omega)
    · skip
      refine z_iload_n dX10_ofRows_4 rfl rfl ?_
      refine z_bipush (v := 8) dX10_ofRows_5 rfl (by decide) ?_
      refine z_icmp_ge (tgt := 104) dX10_ofRows_7 rfl (by decide) (fun c7 => absurd c7 (nI_nge8 (by omega))) (fun c7 => ?_)
      first | refine z_aload_n dX10_ofRows_10 rfl rfl ?_ | refine z_aload_nN dX10_ofRows_10 rfl rfl ?_
      refine z_iload_n dX10_ofRows_11 rfl rfl ?_
      refine zcx_X10_128 rfl dX10_ofRows_12 rfl mo_recv (r_isHeld g h m S _) rfl rfl ⟨(Nat.le_of_ble_eq_true rfl), (Nat.le_of_ble_eq_true rfl)⟩ ⟨(Nat.le_of_ble_eq_true rfl), (Nat.le_of_ble_eq_true rfl)⟩ (Nat.le_of_ble_eq_true rfl) ?_
      refine z_bif_eq (tgt := 98) dX10_ofRows_15 rfl (by decide) (fun c15 => ?_) (fun c15 => absurd c15 hh)
      rw [show nI (sm row (fun row => if mHeld S (nI row) 8 = true then cntC 3 (rowA S R row) else 0)) = nI (sm (row + 1) (fun row => if mHeld S (nI row) 8 = true then cntC 3 (rowA S R row) else 0)) from by show _ = nI (sm row _ + (if mHeld S (nI row) 8 = true then cntC 3 (rowA S R row) else 0)); rw [if_neg hh, Nat.add_zero]]
      refine z_iinc (v := nI (row + 1)) dX10_ofRows_98 rfl rfl (nI_inc row) (Nat.le_of_ble_eq_true rfl) ?_
      refine z_goto (tgt := 4) dX10_ofRows_101 rfl (by decide) ?_
      refine z_lv [(2, .int (nI (sm (row + 1) (fun row => if mHeld S (nI row) 8 = true then cntC 3 (rowA S R row) else 0)))), (3, .int (nI (row + 1))), (0, .ref m), (1, .int 3)] ⟨rfl, rfl, rfl, rfl, trivial⟩ ?_
      exact ih (row + 1) (by omega)

set_option maxHeartbeats 4000000 in
set_option maxRecDepth 100000 in
/-- X10_ofRows -/
theorem q_ofRows3 (g : zG) (h : zH) (m : Nat) (S : sMS) (R : sR) (hR : rRep (S.1 6) (mRowIs S) R) : zX g yX10_ofRows cX10_ofRows 5 (some .int) rmX10_ofRows [.ref m, .int 3] (mUp m S h) (.int (nI (rCnt 3 R))) (mUp m S h) := by
  refine zM_of (by decide) (Nat.le_of_ble_eq_true rfl) ?_
  refine z_iconst (v := 0) dX10_ofRows_0 rfl (by decide) ?_
  refine z_istore_n dX10_ofRows_1 rfl (Nat.le_of_ble_eq_true rfl) ?_
  refine z_iconst (v := 0) dX10_ofRows_2 rfl (by decide) ?_
  refine z_istore_n dX10_ofRows_3 rfl (Nat.le_of_ble_eq_true rfl) ?_
  refine z_lv [(2, .int (nI (sm 0 (fun row => if mHeld S (nI row) 8 = true then cntC 3 (rowA S R row) else 0)))), (3, .int (nI 0)), (0, .ref m), (1, .int 3)] ⟨rfl, rfl, rfl, rfl, trivial⟩ ?_
  exact q_ofRows3_L g h m S R hR 8 0 (by omega)

theorem pat_flag {S : sMS} {w : sW} (hR : RepM S w) {p : Nat} (hp : p < 4) : S.1 15 p = if (w.2.2.2.2.2.2 p).isSome = true then 1 else 0 := by
  have := hR.2.1.2.2.2.2 p hp
  unfold patIs at this
  generalize w.2.2.2.2.2.2 p = I at this ⊢
  cases I with
  | none => exact this
  | some R => exact this.1
theorem cnt_0 (w : sW) : pCount w 0 = (nI (rHold w.1), w) := rfl
theorem cnt_1 (w : sW) {what : Int32} (h : what = 1 ∨ what = 2 ∨ what = 3) : pCount w what = (nI (rCnt what w.1), w) := by
  unfold pCount
  rw [if_neg (by grind), if_pos h]
theorem cnt_4 (w : sW) : pCount w 4 = ((if (w.2.2.2.2.2.2 0).isSome = true then (1 : Int32) else 0) + (if (w.2.2.2.2.2.2 1).isSome = true then 1 else 0) + (if (w.2.2.2.2.2.2 2).isSome = true then 1 else 0) + (if (w.2.2.2.2.2.2 3).isSome = true then 1 else 0), w) := by
  show (nI (sm 4 _), w) = _
  simp only [sm]
  generalize (w.2.2.2.2.2.2 0).isSome = a
  generalize (w.2.2.2.2.2.2 1).isSome = b
  generalize (w.2.2.2.2.2.2 2).isSome = c
  generalize (w.2.2.2.2.2.2 3).isSome = d
  congr 1
  revert a b c d
  decide
theorem cnt_5 (w : sW) : pCount w 5 = ((if (w.2.1 0).isSome = true then (1 : Int32) else 0) + (if (w.2.1 1).isSome = true then 1 else 0), w) := by
  show (nI (sm 2 _), w) = _
  simp only [sm]
  generalize (w.2.1 0).isSome = a
  generalize (w.2.1 1).isSome = b
  congr 1
  revert a b
  decide
theorem cnt_b (w : sW) {what : Int32} (h : what < 0 ∨ 5 < what) : pCount w what = (-1, w) := by
  unfold pCount
  rw [if_neg (by grind), if_neg (by grind), if_neg (by grind), if_neg (by grind)]

set_option maxHeartbeats 800000 in
set_option maxRecDepth 100000 in
theorem R_count (g : zG) (h : zH) (m : Nat) (S : sMS) (w : sW) (hR : RepM S w) (what : Int32) : zM g yX10_count cX10_count 2 (some .int) rmX10_count [.ref m, .int what] (mUp m S h) (mPost m h (pCount w what)) := by
  refine zM_of (by decide) (Nat.le_of_ble_eq_true rfl) ?_
  refine z_iload_n dX10_count_0 rfl rfl ?_
  refine z_sw5 (fun s1 => ?_) (fun s1 => ?_) (fun s1 => ?_) (fun s1 => ?_) (fun s1 => ?_) (fun s1 => ?_) (fun s1 => ?_)
  · skip
    refine z_tableOut (tgt := 111) dX10_count_1 rfl (sw_out s1) (by decide) ?_
    refine z_iconst (v := -1) dX10_count_111 rfl (by decide) ?_
    exact z_iret dX10_count_112 rfl rfl (mPost_of hR (cnt_b w s1)) (Nat.le_of_ble_eq_true rfl) (Nat.le_of_ble_eq_true rfl)
  · skip
    refine z_tableIn (off := 39) (tgt := 40) dX10_count_1 rfl (by decide) (by decide) (by decide) (by decide) ?_
    subst s1
    first | refine z_aload_n dX10_count_40 rfl rfl ?_ | refine z_aload_nN dX10_count_40 rfl rfl ?_
    refine zcx_X10_321 rfl dX10_count_41 rfl mo_recv (q_rowsHeld g h m S w.1 _ hR.1) rfl rfl ⟨(Nat.le_of_ble_eq_true rfl), (Nat.le_of_ble_eq_true rfl)⟩ ⟨(Nat.le_of_ble_eq_true rfl), (Nat.le_of_ble_eq_true rfl)⟩ (Nat.le_of_ble_eq_true rfl) ?_
    exact z_iret dX10_count_44 rfl rfl (mPost_of hR (cnt_0 w)) (Nat.le_of_ble_eq_true rfl) (Nat.le_of_ble_eq_true rfl)
  · skip
    refine z_tableIn (off := 44) (tgt := 45) dX10_count_1 rfl (by decide) (by decide) (by decide) (by decide) ?_
    first | refine z_aload_n dX10_count_45 rfl rfl ?_ | refine z_aload_nN dX10_count_45 rfl rfl ?_
    rw [s1]
    refine z_iload_n dX10_count_46 rfl rfl ?_
    first | refine zcx_X10_324 rfl dX10_count_47 rfl mo_recv (q_ofRows1 g h m S w.1 hR.1) rfl rfl ⟨(Nat.le_of_ble_eq_true rfl), (Nat.le_of_ble_eq_true rfl)⟩ ⟨(Nat.le_of_ble_eq_true rfl), (Nat.le_of_ble_eq_true rfl)⟩ (Nat.le_of_ble_eq_true rfl) ?_ | refine zcx_X10_324 rfl dX10_count_47 rfl mo_recv (q_ofRows2 g h m S w.1 hR.1) rfl rfl ⟨(Nat.le_of_ble_eq_true rfl), (Nat.le_of_ble_eq_true rfl)⟩ ⟨(Nat.le_of_ble_eq_true rfl), (Nat.le_of_ble_eq_true rfl)⟩ (Nat.le_of_ble_eq_true rfl) ?_ | refine zcx_X10_324 rfl dX10_count_47 rfl mo_recv (q_ofRows3 g h m S w.1 hR.1) rfl rfl ⟨(Nat.le_of_ble_eq_true rfl), (Nat.le_of_ble_eq_true rfl)⟩ ⟨(Nat.le_of_ble_eq_true rfl), (Nat.le_of_ble_eq_true rfl)⟩ (Nat.le_of_ble_eq_true rfl) ?_
    exact z_iret dX10_count_50 rfl rfl (mPost_of hR (cnt_1 w (by decide))) (Nat.le_of_ble_eq_true rfl) (Nat.le_of_ble_eq_true rfl)
  · skip
    refine z_tableIn (off := 44) (tgt := 45) dX10_count_1 rfl (by decide) (by decide) (by decide) (by decide) ?_
    first | refine z_aload_n dX10_count_45 rfl rfl ?_ | refine z_aload_nN dX10_count_45 rfl rfl ?_
    rw [s1]
    refine z_iload_n dX10_count_46 rfl rfl ?_
    first | refine zcx_X10_324 rfl dX10_count_47 rfl mo_recv (q_ofRows1 g h m S w.1 hR.1) rfl rfl ⟨(Nat.le_of_ble_eq_true rfl), (Nat.le_of_ble_eq_true rfl)⟩ ⟨(Nat.le_of_ble_eq_true rfl), (Nat.le_of_ble_eq_true rfl)⟩ (Nat.le_of_ble_eq_true rfl) ?_ | refine zcx_X10_324 rfl dX10_count_47 rfl mo_recv (q_ofRows2 g h m S w.1 hR.1) rfl rfl ⟨(Nat.le_of_ble_eq_true rfl), (Nat.le_of_ble_eq_true rfl)⟩ ⟨(Nat.le_of_ble_eq_true rfl), (Nat.le_of_ble_eq_true rfl)⟩ (Nat.le_of_ble_eq_true rfl) ?_ | refine zcx_X10_324 rfl dX10_count_47 rfl mo_recv (q_ofRows3 g h m S w.1 hR.1) rfl rfl ⟨(Nat.le_of_ble_eq_true rfl), (Nat.le_of_ble_eq_true rfl)⟩ ⟨(Nat.le_of_ble_eq_true rfl), (Nat.le_of_ble_eq_true rfl)⟩ (Nat.le_of_ble_eq_true rfl) ?_
    exact z_iret dX10_count_50 rfl rfl (mPost_of hR (cnt_1 w (by decide))) (Nat.le_of_ble_eq_true rfl) (Nat.le_of_ble_eq_true rfl)
  · skip
    refine z_tableIn (off := 44) (tgt := 45) dX10_count_1 rfl (by decide) (by decide) (by decide) (by decide) ?_
    first | refine z_aload_n dX10_count_45 rfl rfl ?_ | refine z_aload_nN dX10_count_45 rfl rfl ?_
    rw [s1]
    refine z_iload_n dX10_count_46 rfl rfl ?_
    first | refine zcx_X10_324 rfl dX10_count_47 rfl mo_recv (q_ofRows1 g h m S w.1 hR.1) rfl rfl ⟨(Nat.le_of_ble_eq_true rfl), (Nat.le_of_ble_eq_true rfl)⟩ ⟨(Nat.le_of_ble_eq_true rfl), (Nat.le_of_ble_eq_true rfl)⟩ (Nat.le_of_ble_eq_true rfl) ?_ | refine zcx_X10_324 rfl dX10_count_47 rfl mo_recv (q_ofRows2 g h m S w.1 hR.1) rfl rfl ⟨(Nat.le_of_ble_eq_true rfl), (Nat.le_of_ble_eq_true rfl)⟩ ⟨(Nat.le_of_ble_eq_true rfl), (Nat.le_of_ble_eq_true rfl)⟩ (Nat.le_of_ble_eq_true rfl) ?_ | refine zcx_X10_324 rfl dX10_count_47 rfl mo_recv (q_ofRows3 g h m S w.1 hR.1) rfl rfl ⟨(Nat.le_of_ble_eq_true rfl), (Nat.le_of_ble_eq_true rfl)⟩ ⟨(Nat.le_of_ble_eq_true rfl), (Nat.le_of_ble_eq_true rfl)⟩ (Nat.le_of_ble_eq_true rfl) ?_
    exact z_iret dX10_count_50 rfl rfl (mPost_of hR (cnt_1 w (by decide))) (Nat.le_of_ble_eq_true rfl) (Nat.le_of_ble_eq_true rfl)
  · skip
    refine z_tableIn (off := 50) (tgt := 51) dX10_count_1 rfl (by decide) (by decide) (by decide) (by decide) ?_
    subst s1
    first | refine z_aload_n dX10_count_51 rfl rfl ?_ | refine z_aload_nN dX10_count_51 rfl rfl ?_
    refine zmg_55 rfl dX10_count_52 rfl ?_
    refine z_iconst (v := 0) dX10_count_55 rfl (by decide) ?_
    refine zm_zald dX10_count_56 rfl rfl (vp_in_nI (show 0 < 4 by decide) (by decide)) ?_
    rw [show S.1 15 (0 : Int32).toNatClampNeg = _ from pat_flag hR (p := 0) (by decide)]
    refine zcx_X10_200 rfl dX10_count_57 rfl (r_flag g _ _) rfl rfl ⟨(Nat.le_of_ble_eq_true rfl), (Nat.le_of_ble_eq_true rfl)⟩ ⟨(Nat.le_of_ble_eq_true rfl), (Nat.le_of_ble_eq_true rfl)⟩ (Nat.le_of_ble_eq_true rfl) ?_
    first | refine z_aload_n dX10_count_60 rfl rfl ?_ | refine z_aload_nN dX10_count_60 rfl rfl ?_
    refine zmg_55 rfl dX10_count_61 rfl ?_
    refine z_iconst (v := 1) dX10_count_64 rfl (by decide) ?_
    refine zm_zald dX10_count_65 rfl rfl (vp_in_nI (show 1 < 4 by decide) (by decide)) ?_
    rw [show S.1 15 (1 : Int32).toNatClampNeg = _ from pat_flag hR (p := 1) (by decide)]
    refine zcx_X10_200 rfl dX10_count_66 rfl (r_flag g _ _) rfl rfl ⟨(Nat.le_of_ble_eq_true rfl), (Nat.le_of_ble_eq_true rfl)⟩ ⟨(Nat.le_of_ble_eq_true rfl), (Nat.le_of_ble_eq_true rfl)⟩ (Nat.le_of_ble_eq_true rfl) ?_
    refine z_iadd dX10_count_69 rfl ?_
    first | refine z_aload_n dX10_count_70 rfl rfl ?_ | refine z_aload_nN dX10_count_70 rfl rfl ?_
    refine zmg_55 rfl dX10_count_71 rfl ?_
    refine z_iconst (v := 2) dX10_count_74 rfl (by decide) ?_
    refine zm_zald dX10_count_75 rfl rfl (vp_in_nI (show 2 < 4 by decide) (by decide)) ?_
    rw [show S.1 15 (2 : Int32).toNatClampNeg = _ from pat_flag hR (p := 2) (by decide)]
    refine zcx_X10_200 rfl dX10_count_76 rfl (r_flag g _ _) rfl rfl ⟨(Nat.le_of_ble_eq_true rfl), (Nat.le_of_ble_eq_true rfl)⟩ ⟨(Nat.le_of_ble_eq_true rfl), (Nat.le_of_ble_eq_true rfl)⟩ (Nat.le_of_ble_eq_true rfl) ?_
    refine z_iadd dX10_count_79 rfl ?_
    first | refine z_aload_n dX10_count_80 rfl rfl ?_ | refine z_aload_nN dX10_count_80 rfl rfl ?_
    refine zmg_55 rfl dX10_count_81 rfl ?_
    refine z_iconst (v := 3) dX10_count_84 rfl (by decide) ?_
    refine zm_zald dX10_count_85 rfl rfl (vp_in_nI (show 3 < 4 by decide) (by decide)) ?_
    rw [show S.1 15 (3 : Int32).toNatClampNeg = _ from pat_flag hR (p := 3) (by decide)]
    refine zcx_X10_200 rfl dX10_count_86 rfl (r_flag g _ _) rfl rfl ⟨(Nat.le_of_ble_eq_true rfl), (Nat.le_of_ble_eq_true rfl)⟩ ⟨(Nat.le_of_ble_eq_true rfl), (Nat.le_of_ble_eq_true rfl)⟩ (Nat.le_of_ble_eq_true rfl) ?_
    refine z_iadd dX10_count_89 rfl ?_
    exact z_iret dX10_count_90 rfl rfl (mPost_of hR (cnt_4 w)) (Nat.le_of_ble_eq_true rfl) (Nat.le_of_ble_eq_true rfl)
  · skip
    refine z_tableIn (off := 90) (tgt := 91) dX10_count_1 rfl (by decide) (by decide) (by decide) (by decide) ?_
    subst s1
    first | refine z_aload_n dX10_count_91 rfl rfl ?_ | refine z_aload_nN dX10_count_91 rfl rfl ?_
    refine zmg_64 rfl dX10_count_92 rfl ?_
    refine z_iconst (v := 0) dX10_count_95 rfl (by decide) ?_
    refine zm_zald dX10_count_96 rfl rfl (vp_in_nI (show 0 < 2 by decide) (by decide)) ?_
    rw [show S.1 18 (0 : Int32).toNatClampNeg = _ from img_flag hR (k := 0) (by decide)]
    refine zcx_X10_200 rfl dX10_count_97 rfl (r_flag g _ _) rfl rfl ⟨(Nat.le_of_ble_eq_true rfl), (Nat.le_of_ble_eq_true rfl)⟩ ⟨(Nat.le_of_ble_eq_true rfl), (Nat.le_of_ble_eq_true rfl)⟩ (Nat.le_of_ble_eq_true rfl) ?_
    first | refine z_aload_n dX10_count_100 rfl rfl ?_ | refine z_aload_nN dX10_count_100 rfl rfl ?_
    refine zmg_64 rfl dX10_count_101 rfl ?_
    refine z_iconst (v := 1) dX10_count_104 rfl (by decide) ?_
    refine zm_zald dX10_count_105 rfl rfl (vp_in_nI (show 1 < 2 by decide) (by decide)) ?_
    rw [show S.1 18 (1 : Int32).toNatClampNeg = _ from img_flag hR (k := 1) (by decide)]
    refine zcx_X10_200 rfl dX10_count_106 rfl (r_flag g _ _) rfl rfl ⟨(Nat.le_of_ble_eq_true rfl), (Nat.le_of_ble_eq_true rfl)⟩ ⟨(Nat.le_of_ble_eq_true rfl), (Nat.le_of_ble_eq_true rfl)⟩ (Nat.le_of_ble_eq_true rfl) ?_
    refine z_iadd dX10_count_109 rfl ?_
    exact z_iret dX10_count_110 rfl rfl (mPost_of hR (cnt_5 w)) (Nat.le_of_ble_eq_true rfl) (Nat.le_of_ble_eq_true rfl)

