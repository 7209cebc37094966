/-- whether one of the first n records holds a row -/
def mHeld (S : sMS) (row : Int32) : Nat → Bool
  | 0 => false
  | n + 1 => mHeld S row n || decide (S.1 6 n = row)
theorem mHeld_iff (S : sMS) (row : Int32) : ∀ n, mHeld S row n = true ↔ ∃ r, r < n ∧ S.1 6 r = row
  | 0 => ⟨fun h => (Bool.false_ne_true h).elim, fun ⟨r, h, _⟩ => absurd h (Nat.not_lt_zero r)⟩
  | n + 1 => by
    rw [mHeld, Bool.or_eq_true, mHeld_iff S row n, decide_eq_true_eq]
    constructor
    · rintro (⟨r, h1, h2⟩ | h)
      · exact ⟨r, by omega, h2⟩
      · exact ⟨n, by omega, h⟩
    · rintro ⟨r, h1, h2⟩
      by_cases e : r = n
      · exact Or.inr (e ▸ h2)
      · exact Or.inl ⟨r, by omega, h2⟩
theorem nI_ge8 {i : Nat} (h : 8 ≤ i) (h2 : i < 2 ^ 31) : (8 : Int32) ≤ nI i := nI_le (a := 8) h h2
theorem nI_nge8 {i : Nat} (h : i < 8) : ¬ (8 : Int32) ≤ nI i := nI_ge (b := 8) h (by decide)
theorem nI_in8 {i : Nat} (h : i < 8) : vp_in (nI i) 8 := vp_in_nI h (by decide)

abbrev YX10_isHeld : zY := (yX10_isHeld.cls, cX10_isHeld, 4, (some .boolean), rmX10_isHeld, yX10_isHeld.name, fun _ _ => True)
set_option maxHeartbeats 4000000 in
set_option maxRecDepth 100000 in
theorem r_isHeld_L (g : zG) (h : zH) (m : Nat) (S : sMS) (row : Int32) : ∀ (n i : Nat), i + n = 8 → zZ g YX10_isHeld (zE g (fun v h1 => v = some (.int (if mHeld S row 8 = true then 1 else 0)) ∧ h1 = mUp m S h) 0 0) 4 [(3, .int (nI i)), (2, .int (if mHeld S row i = true then 1 else 0)), (0, .ref m), (1, .int row)] [] (mUp m S h) 0 0 := by
  intro n
  induction n with
  | zero =>
    intro i hi
    refine z_iload_n dX10_isHeld_4 rfl rfl ?_
    refine z_bipush (v := 8) dX10_isHeld_5 rfl (by decide) ?_
    refine z_icmp_ge (tgt := 36) dX10_isHeld_7 rfl (by decide) (fun c7 => ?_) (fun c7 => absurd c7 (fun q => q (nI_ge8 (by omega) (by omega))))
    refine z_iload_n dX10_isHeld_36 rfl rfl ?_
    exact z_zret dX10_isHeld_37 rfl rfl (z_nb _) ⟨by rw [show i = 8 by omega], rfl⟩ (Nat.le_of_ble_eq_true rfl) (Nat.le_of_ble_eq_true rfl)
  | succ n ih =>
    intro i hi
    refine z_iload_n dX10_isHeld_4 rfl rfl ?_
    refine z_bipush (v := 8) dX10_isHeld_5 rfl (by decide) ?_
    refine z_icmp_ge (tgt := 36) dX10_isHeld_7 rfl (by decide) (fun c7 => absurd c7 (nI_nge8 (by omega))) (fun c7 => ?_)
    refine z_iload_n dX10_isHeld_10 rfl rfl ?_
    refine z_bif_ne (tgt := 24) dX10_isHeld_11 rfl (by decide) (fun c11 => ?_) (fun c11 => ?_)
    · skip
      refine z_iconst (v := 1) dX10_isHeld_24 rfl (by decide) ?_
      refine z_goto (tgt := 29) dX10_isHeld_25 rfl (by decide) ?_
      refine z_istore_n dX10_isHeld_29 rfl (Nat.le_of_ble_eq_true rfl) ?_
      refine z_iinc (v := nI (i + 1)) dX10_isHeld_30 rfl rfl (nI_inc i) (Nat.le_of_ble_eq_true rfl) ?_
      refine z_goto (tgt := 4) dX10_isHeld_33 rfl (by decide) ?_
      refine z_lv [(3, .int (nI (i + 1))), (2, .int (if mHeld S row (i + 1) = true then 1 else 0)), (0, .ref m), (1, .int row)] ⟨rfl, congrArg (fun x => some (Value.int x)) (by grind [mHeld]), rfl, rfl, trivial⟩ ?_
      exact ih (i + 1) (by omega)
    · skip
      first | refine z_aload_n dX10_isHeld_14 rfl rfl ?_ | refine z_aload_nN dX10_isHeld_14 rfl rfl ?_
      refine zmg_27 rfl dX10_isHeld_15 rfl ?_
      refine z_iload_n dX10_isHeld_18 rfl rfl ?_
      refine zm_iald dX10_isHeld_19 rfl rfl (nI_in8 (by omega)) ?_
      refine z_iload_n dX10_isHeld_20 rfl rfl ?_
      rw [show S.1 6 (nI i).toNatClampNeg = S.1 6 i by rw [nI_clamp (by omega)]]
      refine z_icmp_ne (tgt := 28) dX10_isHeld_21 rfl (by decide) (fun c21 => ?_) (fun c21 => ?_)
      · skip
        refine z_iconst (v := 0) dX10_isHeld_28 rfl (by decide) ?_
        refine z_istore_n dX10_isHeld_29 rfl (Nat.le_of_ble_eq_true rfl) ?_
        refine z_iinc (v := nI (i + 1)) dX10_isHeld_30 rfl rfl (nI_inc i) (Nat.le_of_ble_eq_true rfl) ?_
        refine z_goto (tgt := 4) dX10_isHeld_33 rfl (by decide) ?_
        refine z_lv [(3, .int (nI (i + 1))), (2, .int (if mHeld S row (i + 1) = true then 1 else 0)), (0, .ref m), (1, .int row)] ⟨rfl, congrArg (fun x => some (Value.int x)) (by grind [mHeld]), rfl, rfl, trivial⟩ ?_
        exact ih (i + 1) (by omega)
      · skip
        refine z_iconst (v := 1) dX10_isHeld_24 rfl (by decide) ?_
        refine z_goto (tgt := 29) dX10_isHeld_25 rfl (by decide) ?_
        refine z_istore_n dX10_isHeld_29 rfl (Nat.le_of_ble_eq_true rfl) ?_
        refine z_iinc (v := nI (i + 1)) dX10_isHeld_30 rfl rfl (nI_inc i) (Nat.le_of_ble_eq_true rfl) ?_
        refine z_goto (tgt := 4) dX10_isHeld_33 rfl (by decide) ?_
        refine z_lv [(3, .int (nI (i + 1))), (2, .int (if mHeld S row (i + 1) = true then 1 else 0)), (0, .ref m), (1, .int row)] ⟨rfl, congrArg (fun x => some (Value.int x)) (by grind [mHeld]), rfl, rfl, trivial⟩ ?_
        exact ih (i + 1) (by omega)
set_option maxHeartbeats 4000000 in
set_option maxRecDepth 100000 in
/-- X10_isHeld -/
theorem r_isHeld (g : zG) (h : zH) (m : Nat) (S : sMS) (row : Int32) : zX g yX10_isHeld cX10_isHeld 4 (some .boolean) rmX10_isHeld [.ref m, .int row] (mUp m S h) (.int (if mHeld S row 8 = true then 1 else 0)) (mUp m S h) := by
  refine zM_of (by decide) (Nat.le_of_ble_eq_true rfl) ?_
  refine z_iconst (v := 0) dX10_isHeld_0 rfl (by decide) ?_
  refine z_istore_n dX10_isHeld_1 rfl (Nat.le_of_ble_eq_true rfl) ?_
  refine z_iconst (v := 0) dX10_isHeld_2 rfl (by decide) ?_
  refine z_istore_n dX10_isHeld_3 rfl (Nat.le_of_ble_eq_true rfl) ?_
  refine z_lv [(3, .int (nI 0)), (2, .int (if mHeld S row 0 = true then 1 else 0)), (0, .ref m), (1, .int row)] ⟨rfl, rfl, rfl, rfl, trivial⟩ ?_
  exact r_isHeld_L g h m S row 8 0 rfl

/-- a record takes a row -/
def mTake (S : sMS) (r : Int32) (k : Nat) (kind size : Int32) : sMS := (va_up (va_up (va_up S.1 6 (upd (S.1 6) r.toNatClampNeg (nI k))) 4 (upd (S.1 4) k kind)) 5 (upd (S.1 5) k size), S.2)
def mDrop (S : sMS) (r : Int32) : sMS := (va_up S.1 6 (upd (S.1 6) r.toNatClampNeg (-1)), S.2)
theorem mTake_eq (S : sMS) (r : Int32) {k : Nat} (hk : k < 2 ^ 31) (kind size : Int32) : (va_up (va_up (va_up (mDrop S r).1 6 (upd ((mDrop S r).1 6) r.toNatClampNeg (nI k))) 4 (upd ((va_up (mDrop S r).1 6 (upd ((mDrop S r).1 6) r.toNatClampNeg (nI k))) 4) (nI k).toNatClampNeg kind)) 5 (upd ((va_up (va_up (mDrop S r).1 6 (upd ((mDrop S r).1 6) r.toNatClampNeg (nI k))) 4 (upd ((va_up (mDrop S r).1 6 (upd ((mDrop S r).1 6) r.toNatClampNeg (nI k))) 4) (nI k).toNatClampNeg kind)) 5) (nI k).toNatClampNeg size), (mDrop S r).2) = mTake S r k kind size := by
  rw [nI_clamp hk]
  refine Prod.ext (funext fun j => ?_) rfl
  by_cases h5 : j = 5
  · subst h5; simp [va_up, mTake, mDrop]
  · by_cases h4 : j = 4
    · subst h4; simp [va_up, mTake, mDrop]
    · by_cases h6 : j = 6
      · subst h6
        funext i
        by_cases hi : i = r.toNatClampNeg <;> simp [va_up, mTake, mDrop, upd, hi]
      · simp [va_up, mTake, mDrop, h4, h5, h6]
/-- nobody else holds the row -/
def mFresh (S : sMS) (r : Int32) (k : Nat) : Prop := ∀ q, q < 8 → q ≠ r.toNatClampNeg → S.1 6 q ≠ nI k
theorem mDrop_held {S : sMS} {r : Int32} {k : Nat} (hk : k < 2 ^ 31) (h : ¬ mHeld (mDrop S r) (nI k) 8 = true) : mFresh S r k := by
  intro q hq hne e
  refine h ((mHeld_iff _ _ 8).mpr ⟨q, hq, ?_⟩)
  simp [mDrop, va_up, upd, hne, e]
/-- eight rows, seven others: one is free -/
theorem mDrop_free {S : sMS} {r : Int32} (hr : vp_in r 8) (h : ∀ k, k < 8 → mHeld (mDrop S r) (nI k) 8 = true) : False := by
  have hr8 := in_lt hr
  have key : ∀ k, k < 8 → ∃ q, q < 8 ∧ q ≠ r.toNatClampNeg ∧ S.1 6 q = nI k := by
    intro k hk
    obtain ⟨q, h1, h2⟩ := (mHeld_iff _ _ 8).mp (h k hk)
    by_cases e : q = r.toNatClampNeg
    · subst e
      have : (-1 : Int32) = nI k := by simpa [mDrop, va_up, upd] using h2
      have h3 := congrArg Int32.toInt this
      rw [nI_toInt (by omega)] at h3
      simp at h3
    · exact ⟨q, h1, e, by simpa [mDrop, va_up, upd, e] using h2⟩
  have inj : ∀ a b, a < 8 → b < 8 → nI a = nI b → a = b := fun a b ha hb q => (nI_eq (by omega) (by omega)).mp q
  let f : Nat → Nat := fun k => if hk : k < 8 then (if Classical.choose (key k hk) < r.toNatClampNeg then Classical.choose (key k hk) else Classical.choose (key k hk) - 1) else 0
  have hf : ∀ k (hk : k < 8), f k < 7 ∧ S.1 6 (if f k < r.toNatClampNeg then f k else f k + 1) = nI k := by
    intro k hk
    obtain ⟨h1, h2, h3⟩ := Classical.choose_spec (key k hk)
    by_cases q : Classical.choose (key k hk) < r.toNatClampNeg
    · simp only [f, hk, dite_true, if_pos q]
      exact ⟨by omega, h3⟩
    · have hn : ¬ Classical.choose (key k hk) - 1 < r.toNatClampNeg := by omega
      simp only [f, hk, dite_true, if_neg q, if_neg hn]
      rw [show Classical.choose (key k hk) - 1 + 1 = Classical.choose (key k hk) by omega]
      exact ⟨by omega, h3⟩
  have pig : ∀ (n mm : Nat) (F : Nat → Nat), (∀ i, i < n → F i < mm) → (∀ i j, i < j → j < n → F i ≠ F j) → n ≤ mm := by
    intro n
    induction n with
    | zero => intro mm F _ _; exact Nat.zero_le _
    | succ n ih =>
      intro mm F h1 h2
      rcases Nat.eq_zero_or_pos mm with q | q
      · subst q
        exact absurd (h1 0 (Nat.succ_pos n)) (Nat.not_lt_zero _)
      · have := ih (mm - 1) (fun i => if F i < F n then F i else F i - 1) (fun i hi => by
          have a1 := h1 i (by omega)
          have a2 := h1 n (by omega)
          have a3 := h2 i n hi (by omega)
          try dsimp only
          split <;> omega) (fun i j hij hj => by
          have a1 := h2 i n (by omega) (by omega)
          have a2 := h2 j n hj (by omega)
          have a3 := h2 i j hij (by omega)
          try dsimp only
          split <;> split <;> omega)
        omega
  have := pig 8 7 f (fun i hi => (hf i hi).1) (fun i j hij hj e => by
    have e1 := (hf i (by omega)).2
    have e2 := (hf j hj).2
    rw [e] at e1
    have := inj i j (by omega) hj (e1.symm.trans e2)
    omega)
  omega

abbrev YX10_takesRow : zY := (yX10_takesRow.cls, cX10_takesRow, 5, none, rmX10_takesRow, yX10_takesRow.name, fun _ _ => True)
set_option maxHeartbeats 4000000 in
set_option maxRecDepth 100000 in
theorem r_takesRow_L (g : zG) (h : zH) (m : Nat) (S : sMS) (r kind size : Int32) (hr : vp_in r 8) : ∀ (n i : Nat), i + n = 8 → (∀ k, k < i → mHeld (mDrop S r) (nI k) 8 = true) → zZ g YX10_takesRow (zE g (fun v h1 => v = none ∧ ∃ k, k < 8 ∧ mFresh S r k ∧ h1 = mUp m (mTake S r k kind size) h) 0 0) 10 [(4, .int (nI i)), (0, .ref m), (1, .int r), (2, .int kind), (3, .int size)] [] (mUp m (mDrop S r) h) 0 0 := by
  intro n
  induction n with
  | zero =>
    intro i hi hu
    exact (mDrop_free hr (fun k hk => hu k (by omega))).elim
  | succ n ih =>
    intro i hi hu
    have hi8 : i < 8 := by omega
    first | refine z_aload_n dX10_takesRow_10 rfl rfl ?_ | refine z_aload_nN dX10_takesRow_10 rfl rfl ?_
    refine z_iload dX10_takesRow_11 rfl rfl ?_
    refine zcx_X10_128 rfl dX10_takesRow_13 rfl mo_recv (r_isHeld g h m _ _) rfl rfl ⟨(Nat.le_of_ble_eq_true rfl), (Nat.le_of_ble_eq_true rfl)⟩ ⟨(Nat.le_of_ble_eq_true rfl), (Nat.le_of_ble_eq_true rfl)⟩ (Nat.le_of_ble_eq_true rfl) ?_
    refine z_bif_eq (tgt := 25) dX10_takesRow_16 rfl (by decide) (fun c16 => ?_) (fun c16 => ?_)
    · skip
      first | refine z_aload_n dX10_takesRow_25 rfl rfl ?_ | refine z_aload_nN dX10_takesRow_25 rfl rfl ?_
      refine zmg_27 rfl dX10_takesRow_26 rfl ?_
      refine z_iload_n dX10_takesRow_29 rfl rfl ?_
      refine z_iload dX10_takesRow_30 rfl rfl ?_
      refine zm_iast dX10_takesRow_32 rfl rfl hr ?_
      first | refine z_aload_n dX10_takesRow_33 rfl rfl ?_ | refine z_aload_nN dX10_takesRow_33 rfl rfl ?_
      refine zmg_21 rfl dX10_takesRow_34 rfl ?_
      refine z_iload dX10_takesRow_37 rfl rfl ?_
      refine z_iload_n dX10_takesRow_39 rfl rfl ?_
      refine zm_iast dX10_takesRow_40 rfl rfl (vp_in_nI (by omega) (by decide)) ?_
      first | refine z_aload_n dX10_takesRow_41 rfl rfl ?_ | refine z_aload_nN dX10_takesRow_41 rfl rfl ?_
      refine zmg_24 rfl dX10_takesRow_42 rfl ?_
      refine z_iload dX10_takesRow_45 rfl rfl ?_
      refine z_iload_n dX10_takesRow_47 rfl rfl ?_
      refine zm_iast dX10_takesRow_48 rfl rfl (vp_in_nI (by omega) (by decide)) ?_
      exact z_vret dX10_takesRow_49 rfl rfl ⟨rfl, i, hi8, mDrop_held (by omega) c16, congrArg (fun z => mUp m z h) (mTake_eq S r (by omega) kind size)⟩ (Nat.le_of_ble_eq_true rfl) (Nat.le_of_ble_eq_true rfl)
    · skip
      refine z_iinc (v := nI (i + 1)) dX10_takesRow_19 rfl rfl (nI_inc i) (Nat.le_of_ble_eq_true rfl) ?_
      refine z_goto (tgt := 10) dX10_takesRow_22 rfl (by decide) ?_
      refine z_lv [(4, .int (nI (i + 1))), (0, .ref m), (1, .int r), (2, .int kind), (3, .int size)] ⟨rfl, rfl, rfl, rfl, rfl, trivial⟩ ?_
      exact ih (i + 1) (by omega) (fun k hk => by rcases Nat.lt_or_ge k i with q | q; exact hu k q; rw [show k = i by omega]; exact c16)
set_option maxHeartbeats 4000000 in
set_option maxRecDepth 100000 in
theorem r_takesRow (g : zG) (h : zH) (m : Nat) (S : sMS) (r kind size : Int32) (hr : vp_in r 8) : zM g yX10_takesRow cX10_takesRow 5 none rmX10_takesRow [.ref m, .int r, .int kind, .int size] (mUp m S h) (fun v h1 => v = none ∧ ∃ k, k < 8 ∧ mFresh S r k ∧ h1 = mUp m (mTake S r k kind size) h) := by
  refine zM_of (by decide) (Nat.le_of_ble_eq_true rfl) ?_
  first | refine z_aload_n dX10_takesRow_0 rfl rfl ?_ | refine z_aload_nN dX10_takesRow_0 rfl rfl ?_
  refine zmg_27 rfl dX10_takesRow_1 rfl ?_
  refine z_iload_n dX10_takesRow_4 rfl rfl ?_
  refine z_iconst (v := -1) dX10_takesRow_5 rfl (by decide) ?_
  refine zm_iast dX10_takesRow_6 rfl rfl hr ?_
  refine z_iconst (v := 0) dX10_takesRow_7 rfl (by decide) ?_
  refine z_istore dX10_takesRow_8 rfl (Nat.le_of_ble_eq_true rfl) ?_
  refine z_lv [(4, .int (nI 0)), (0, .ref m), (1, .int r), (2, .int kind), (3, .int size)] ⟨rfl, rfl, rfl, rfl, rfl, trivial⟩ ?_
  exact r_takesRow_L g h m S r kind size hr 8 0 rfl (fun k hk => absurd hk (Nat.not_lt_zero k))

