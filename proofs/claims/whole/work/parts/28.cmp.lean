set_option maxHeartbeats 4000000 in
set_option maxRecDepth 100000 in
/-- X10_copiesCell -/
theorem r_copiesCell (g : zG) (h : zH) (m : Nat) (S : sMS) (p to : Int32) (hp : vp_in p 880) (hto : vp_in to 880) : zXv g yX10_copiesCell cX10_copiesCell 3 none rmX10_copiesCell [.ref m, .int p, .int to] (mUp m S h) (mUp m (mLay S to.toNatClampNeg (mc S p.toNatClampNeg)) h) := by
  refine zM_of (by decide) (Nat.le_of_ble_eq_true rfl) ?_
  first | refine z_aload_n dX10_copiesCell_0 rfl rfl ?_ | refine z_aload_nN dX10_copiesCell_0 rfl rfl ?_
  refine z_iload_n dX10_copiesCell_1 rfl rfl ?_
  first | refine z_aload_n dX10_copiesCell_2 rfl rfl ?_ | refine z_aload_nN dX10_copiesCell_2 rfl rfl ?_
  refine zmg_7 rfl dX10_copiesCell_3 rfl ?_
  refine z_iload_n dX10_copiesCell_6 rfl rfl ?_
  refine zm_iald dX10_copiesCell_7 rfl rfl hp ?_
  first | refine z_aload_n dX10_copiesCell_8 rfl rfl ?_ | refine z_aload_nN dX10_copiesCell_8 rfl rfl ?_
  refine zmg_13 rfl dX10_copiesCell_9 rfl ?_
  refine z_iload_n dX10_copiesCell_12 rfl rfl ?_
  refine zm_lald dX10_copiesCell_13 rfl rfl hp ?_
  first | refine z_aload_n dX10_copiesCell_14 rfl rfl ?_ | refine z_aload_nN dX10_copiesCell_14 rfl rfl ?_
  refine zmg_17 rfl dX10_copiesCell_15 rfl ?_
  refine z_iload_n dX10_copiesCell_18 rfl rfl ?_
  refine zm_dald dX10_copiesCell_19 rfl rfl hp ?_
  refine zcv_X10_84 rfl dX10_copiesCell_20 rfl mo_recv (r_lays g h m S _ _ _ _ hto) rfl rfl ⟨(Nat.le_of_ble_eq_true rfl), (Nat.le_of_ble_eq_true rfl)⟩ ⟨(Nat.le_of_ble_eq_true rfl), (Nat.le_of_ble_eq_true rfl)⟩ (Nat.le_of_ble_eq_true rfl) ?_
  exact z_vret dX10_copiesCell_23 rfl rfl ⟨rfl, rfl⟩ (Nat.le_of_ble_eq_true rfl) (Nat.le_of_ble_eq_true rfl)

/-- a row's kind and size are set -/
def mKS (S : sMS) (t : Nat) (kind size : Int32) : sMS := (va_up (va_up S.1 4 (upd (S.1 4) t kind)) 5 (upd (S.1 5) t size), S.2)
theorem mKS_4 (S : sMS) (t : Nat) (kind size : Int32) : (mKS S t kind size).1 4 = upd (S.1 4) t kind := by simp [mKS, va_up]
theorem mKS_5 (S : sMS) (t : Nat) (kind size : Int32) : (mKS S t kind size).1 5 = upd (S.1 5) t size := by simp [mKS, va_up]
theorem mKS_o (S : sMS) (t : Nat) (kind size : Int32) {j : Nat} (h4 : j ≠ 4) (h5 : j ≠ 5) : (mKS S t kind size).1 j = S.1 j := by simp [mKS, va_up, h4, h5]
theorem mc_KS (S : sMS) (t : Nat) (kind size : Int32) (j : Nat) : mc (mKS S t kind size) j = mc S j := by simp [mc, mKS, va_up]
theorem mKS_eq (S : sMS) (t : Nat) (k : Nat) (x : Int32) : (va_up (va_up S.1 4 (upd (S.1 4) t x)) 5 (upd ((va_up S.1 4 (upd (S.1 4) t x)) 5) t ((va_up S.1 4 (upd (S.1 4) t x)) 5 k)), S.2) = mKS S t x (S.1 5 k) := by simp [mKS, va_up]
/-- a row is copied -/
def mCopy (S : sMS) (k t : Nat) : sMS := mPut (mKS S t (S.1 4 k) (S.1 5 k)) (20 * t) (fun i => mc S (20 * k + i)) 20

abbrev YX10_copiesRow : zY := (yX10_copiesRow.cls, cX10_copiesRow, 4, none, rmX10_copiesRow, yX10_copiesRow.name, fun _ _ => True)
set_option maxHeartbeats 4000000 in
set_option maxRecDepth 100000 in
theorem r_copiesRow_L (g : zG) (h : zH) (m : Nat) (S : sMS) (k t : Nat) (hk : k < 26) (ht : t < 26) (hkt : k ≠ t) : ∀ (n i : Nat), i + n = 20 → zZ g YX10_copiesRow (zE g (fun v h1 => v = none ∧ h1 = mUp m (mCopy S k t) h) 0 0) 26 [(3, .int (nI i)), (0, .ref m), (1, .int (nI k)), (2, .int (nI t))] [] (mUp m (mPut (mKS S t (S.1 4 k) (S.1 5 k)) (20 * t) (fun i => mc S (20 * k + i)) i) h) 0 0 := by
  intro n
  induction n with
  | zero =>
    intro i hi
    refine z_iload_n dX10_copiesRow_26 rfl rfl ?_
    refine z_bipush (v := 20) dX10_copiesRow_27 rfl (by decide) ?_
    refine z_icmp_ge (tgt := 54) dX10_copiesRow_29 rfl (by decide) (fun c29 => ?_) (fun c29 => absurd c29 (fun q => q (nI_le (a := 20) (by omega) (by omega))))
    exact z_vret dX10_copiesRow_54 rfl rfl ⟨rfl, by rw [show i = 20 by omega]; rfl⟩ (Nat.le_of_ble_eq_true rfl) (Nat.le_of_ble_eq_true rfl)
  | succ n ih =>
    intro i hi
    refine z_iload_n dX10_copiesRow_26 rfl rfl ?_
    refine z_bipush (v := 20) dX10_copiesRow_27 rfl (by decide) ?_
    refine z_icmp_ge (tgt := 54) dX10_copiesRow_29 rfl (by decide) (fun c29 => absurd c29 (nI_ge (b := 20) (by omega) (by omega))) (fun c29 => ?_)
    first | refine z_aload_n dX10_copiesRow_32 rfl rfl ?_ | refine z_aload_nN dX10_copiesRow_32 rfl rfl ?_
    refine z_bipush (v := 20) dX10_copiesRow_33 rfl (by decide) ?_
    refine z_iload_n dX10_copiesRow_35 rfl rfl ?_
    refine z_imul dX10_copiesRow_36 rfl ?_
    refine z_iload_n dX10_copiesRow_37 rfl rfl ?_
    refine z_iadd dX10_copiesRow_38 rfl ?_
    refine z_bipush (v := 20) dX10_copiesRow_39 rfl (by decide) ?_
    refine z_iload_n dX10_copiesRow_41 rfl rfl ?_
    refine z_imul dX10_copiesRow_42 rfl ?_
    refine z_iload_n dX10_copiesRow_43 rfl rfl ?_
    refine z_iadd dX10_copiesRow_44 rfl ?_
    rw [n20, n20]
    refine zcv_X10_229 rfl dX10_copiesRow_45 rfl mo_recv (r_copiesCell g h m _ _ _ (vp_in_nI (show 20 * k + i < 880 by omega) (by decide)) (vp_in_nI (show 20 * t + i < 880 by omega) (by decide))) rfl rfl ⟨(Nat.le_of_ble_eq_true rfl), (Nat.le_of_ble_eq_true rfl)⟩ ⟨(Nat.le_of_ble_eq_true rfl), (Nat.le_of_ble_eq_true rfl)⟩ (Nat.le_of_ble_eq_true rfl) ?_
    rw [nI_clamp (show 20 * k + i < 2 ^ 31 by omega), nI_clamp (show 20 * t + i < 2 ^ 31 by omega), mc_put, if_neg (by omega), mc_KS]
    refine z_iinc (v := nI (i + 1)) dX10_copiesRow_48 rfl rfl (nI_inc i) (Nat.le_of_ble_eq_true rfl) ?_
    refine z_goto (tgt := 26) dX10_copiesRow_51 rfl (by decide) ?_
    refine z_lv [(3, .int (nI (i + 1))), (0, .ref m), (1, .int (nI k)), (2, .int (nI t))] ⟨rfl, rfl, rfl, rfl, trivial⟩ ?_
    exact ih (i + 1) (by omega)
set_option maxHeartbeats 4000000 in
set_option maxRecDepth 100000 in
/-- X10_copiesRow -/
theorem r_copiesRow (g : zG) (h : zH) (m : Nat) (S : sMS) (k t : Nat) (hk : k < 26) (ht : t < 26) (hkt : k ≠ t) : zXv g yX10_copiesRow cX10_copiesRow 4 none rmX10_copiesRow [.ref m, .int (nI k), .int (nI t)] (mUp m S h) (mUp m (mCopy S k t) h) := by
  refine zM_of (by decide) (Nat.le_of_ble_eq_true rfl) ?_
  first | refine z_aload_n dX10_copiesRow_0 rfl rfl ?_ | refine z_aload_nN dX10_copiesRow_0 rfl rfl ?_
  refine zmg_21 rfl dX10_copiesRow_1 rfl ?_
  refine z_iload_n dX10_copiesRow_4 rfl rfl ?_
  first | refine z_aload_n dX10_copiesRow_5 rfl rfl ?_ | refine z_aload_nN dX10_copiesRow_5 rfl rfl ?_
  refine zmg_21 rfl dX10_copiesRow_6 rfl ?_
  refine z_iload_n dX10_copiesRow_9 rfl rfl ?_
  refine zm_iald dX10_copiesRow_10 rfl rfl (vp_in_nI (by omega) (by decide)) ?_
  refine zm_iast dX10_copiesRow_11 rfl rfl (vp_in_nI (by omega) (by decide)) ?_
  first | refine z_aload_n dX10_copiesRow_12 rfl rfl ?_ | refine z_aload_nN dX10_copiesRow_12 rfl rfl ?_
  refine zmg_24 rfl dX10_copiesRow_13 rfl ?_
  refine z_iload_n dX10_copiesRow_16 rfl rfl ?_
  first | refine z_aload_n dX10_copiesRow_17 rfl rfl ?_ | refine z_aload_nN dX10_copiesRow_17 rfl rfl ?_
  refine zmg_24 rfl dX10_copiesRow_18 rfl ?_
  refine z_iload_n dX10_copiesRow_21 rfl rfl ?_
  refine zm_iald dX10_copiesRow_22 rfl rfl (vp_in_nI (by omega) (by decide)) ?_
  refine zm_iast dX10_copiesRow_23 rfl rfl (vp_in_nI (by omega) (by decide)) ?_
  refine z_iconst (v := 0) dX10_copiesRow_24 rfl (by decide) ?_
  refine z_istore_n dX10_copiesRow_25 rfl (Nat.le_of_ble_eq_true rfl) ?_
  refine z_lv [(3, .int (nI 0)), (0, .ref m), (1, .int (nI k)), (2, .int (nI t))] ⟨rfl, rfl, rfl, rfl, trivial⟩ ?_
  have q := r_copiesRow_L g h m S k t hk ht hkt 20 0 rfl
  rw [show nI 0 = (0 : Int32) from rfl] at q
  simp only [nI_clamp (show k < 2 ^ 31 by omega), nI_clamp (show t < 2 ^ 31 by omega)]
  rw [mKS_eq]
  exact q

theorem mCopy_o (S : sMS) (k t : Nat) {j : Nat} (h1 : j ≠ 1) (h4 : j ≠ 4) (h5 : j ≠ 5) : (mCopy S k t).1 j = S.1 j := by unfold mCopy; rw [mPut_1 _ _ _ h1, mKS_o _ _ _ _ h4 h5]
theorem mCopy_4 (S : sMS) (k t : Nat) : (mCopy S k t).1 4 = upd (S.1 4) t (S.1 4 k) := by unfold mCopy; rw [mPut_1 _ _ _ (by decide), mKS_4]
theorem mCopy_5 (S : sMS) (k t : Nat) : (mCopy S k t).1 5 = upd (S.1 5) t (S.1 5 k) := by unfold mCopy; rw [mPut_1 _ _ _ (by decide), mKS_5]
theorem mCopy_s (S : sMS) (k t : Nat) : (mCopy S k t).2.2.2 = S.2.2.2 := by unfold mCopy; rw [mPut_s]; rfl
theorem mc_copy (S : sMS) (k t j : Nat) : mc (mCopy S k t) j = if 20 * t ≤ j ∧ j < 20 * t + 20 then mc S (20 * k + (j - 20 * t)) else mc S j := by unfold mCopy; rw [mc_put, mc_KS]
theorem copy_row {S : sMS} {k t : Nat} {A : sA} (hA : mRowIs S k A) : mRowIs (mCopy S k t) t A := by
  have hl := hA.2.2.1.2.2.1
  refine ⟨by rw [mCopy_4, upd_same]; exact hA.1, by rw [mCopy_5, upd_same]; exact hA.2.1, hA.2.2.1, fun i hi => ?_⟩
  rw [mc_copy, if_pos (by omega), Nat.add_sub_cancel_left]
  exact hA.2.2.2 i hi
theorem copy_oth {S : sMS} {k t j : Nat} {A : sA} (hjt : j ≠ t) (hA : mRowIs S j A) : mRowIs (mCopy S k t) j A := by
  have hl := hA.2.2.1.2.2.1
  refine ⟨by rw [mCopy_4, upd, if_neg hjt]; exact hA.1, by rw [mCopy_5, upd, if_neg hjt]; exact hA.2.1, hA.2.2.1, fun i hi => ?_⟩
  rw [mc_copy, if_neg (by omega)]
  exact hA.2.2.2 i hi
/-- the steps so far -/
def stIs (S : sMS) (P : List sStep) : Prop := S.2.2.2.1 12 = nI P.length ∧ ∀ k t, P[k]? = some t → S.1 9 k = t.1 ∧ S.1 10 k = t.2.1 ∧ S.1 11 k = t.2.2.1 ∧ S.1 12 k = t.2.2.2.2 ∧ S.1 13 k = (if t.2.2.2.1 = 4 then 1 else 0)
/-- nothing but the steps -/
def frS (S S' : sMS) : Prop := (∀ j, j < 9 ∨ 13 < j → S'.1 j = S.1 j) ∧ S'.2.1 = S.2.1 ∧ S'.2.2.1 = S.2.2.1 ∧ (∀ j, j ≠ 12 → S'.2.2.2.1 j = S.2.2.2.1 j) ∧ S'.2.2.2.2 = S.2.2.2.2
theorem frS_t {S S' S2 : sMS} (h : frS S S') (h2 : frS S' S2) : frS S S2 := ⟨fun j hj => (h2.1 j hj).trans (h.1 j hj), h2.2.1.trans h.2.1, h2.2.2.1.trans h.2.2.1, fun j hj => (h2.2.2.2.1 j hj).trans (h.2.2.2.1 j hj), h2.2.2.2.2.trans h.2.2.2.2⟩
theorem frS_row {S S' : sMS} (h : frS S S') {k : Nat} {A : sA} (hA : mRowIs S k A) : mRowIs S' k A := by
  refine ⟨by rw [h.1 4 (by decide)]; exact hA.1, by rw [h.1 5 (by decide)]; exact hA.2.1, hA.2.2.1, fun i hi => ?_⟩
  unfold mc
  rw [h.1 1 (by decide), h.2.1, h.2.2.1]
  exact hA.2.2.2 i hi
theorem nar_b (P : Prop) [Decidable P] : vp_nar .boolean (if P then (1 : Int32) else 0) = (if P then 1 else 0) := by split <;> decide
def mStep (S : sMS) (n : Nat) (t : sStep) : sMS := (va_up (va_up (va_up (va_up (va_up S.1 9 (upd (S.1 9) n t.1)) 10 (upd (S.1 10) n t.2.1)) 11 (upd (S.1 11) n t.2.2.1)) 12 (upd (S.1 12) n t.2.2.2.2)) 13 (upd (S.1 13) n (if t.2.2.2.1 = 4 then 1 else 0)), S.2.1, S.2.2.1, va_up S.2.2.2.1 12 (nI (n + 1)), S.2.2.2.2)
theorem mStep_fr (S : sMS) (n : Nat) (t : sStep) : frS S (mStep S n t) := by
  refine ⟨fun j hj => ?_, rfl, rfl, fun j hj => by simp [mStep, va_up, hj], rfl⟩
  have h9 : j ≠ 9 := by omega
  have h10 : j ≠ 10 := by omega
  have h11 : j ≠ 11 := by omega
  have h12 : j ≠ 12 := by omega
  have h13 : j ≠ 13 := by omega
  simp [mStep, va_up, h9, h10, h11, h12, h13]
theorem mStep_is {S : sMS} {P : List sStep} (h : stIs S P) (t : sStep) : stIs (mStep S P.length t) (P ++ [t]) := by
  refine ⟨by simp [mStep, va_up], fun k u hk => ?_⟩
  rcases Nat.lt_or_ge k P.length with c | c
  · rw [List.getElem?_append_left c] at hk
    have := h.2 k u hk
    have e : k ≠ P.length := by omega
    simp [mStep, va_up, upd, e]
    exact this
  · rw [List.getElem?_append_right c] at hk
    have e : k - P.length = 0 := by
      rcases Nat.eq_zero_or_pos (k - P.length) with z | z
      · exact z
      · rw [List.getElem?_eq_none (by simp; omega)] at hk; cases hk
    rw [e] at hk
    have e2 : k = P.length := by omega
    cases hk
    simp [mStep, va_up, upd, e2]

set_option maxHeartbeats 4000000 in
set_option maxRecDepth 100000 in
/-- X10_goesStep -/
theorem r_goesStep (g : zG) (h : zH) (m : Nat) (S : sMS) (n : Nat) (hn : n < 40) (h12 : S.2.2.2.1 12 = nI n) (t : sStep) : zXv g yX10_goesStep cX10_goesStep 6 none rmX10_goesStep [.ref m, .int t.1, .int t.2.1, .int t.2.2.1, .int t.2.2.2.2, .int (if t.2.2.2.1 = 4 then 1 else 0)] (mUp m S h) (mUp m (mStep S n t) h) := by
  refine zM_of (by decide) (Nat.le_of_ble_eq_true rfl) ?_
  first | refine z_aload_n dX10_goesStep_0 rfl rfl ?_ | refine z_aload_nN dX10_goesStep_0 rfl rfl ?_
  refine zmg_36 rfl dX10_goesStep_1 rfl ?_
  first | refine z_aload_n dX10_goesStep_4 rfl rfl ?_ | refine z_aload_nN dX10_goesStep_4 rfl rfl ?_
  refine zmg_233 rfl dX10_goesStep_5 rfl ?_
  refine z_iload_n dX10_goesStep_8 rfl rfl ?_
  refine zm_iast dX10_goesStep_9 rfl rfl (by show vp_in (S.2.2.2.1 12) 40; rw [h12]; exact vp_in_nI hn (by decide)) ?_
  first | refine z_aload_n dX10_goesStep_10 rfl rfl ?_ | refine z_aload_nN dX10_goesStep_10 rfl rfl ?_
  refine zmg_39 rfl dX10_goesStep_11 rfl ?_
  first | refine z_aload_n dX10_goesStep_14 rfl rfl ?_ | refine z_aload_nN dX10_goesStep_14 rfl rfl ?_
  refine zmg_233 rfl dX10_goesStep_15 rfl ?_
  refine z_iload_n dX10_goesStep_18 rfl rfl ?_
  refine zm_iast dX10_goesStep_19 rfl rfl (by show vp_in (S.2.2.2.1 12) 40; rw [h12]; exact vp_in_nI hn (by decide)) ?_
  first | refine z_aload_n dX10_goesStep_20 rfl rfl ?_ | refine z_aload_nN dX10_goesStep_20 rfl rfl ?_
  refine zmg_42 rfl dX10_goesStep_21 rfl ?_
  first | refine z_aload_n dX10_goesStep_24 rfl rfl ?_ | refine z_aload_nN dX10_goesStep_24 rfl rfl ?_
  refine zmg_233 rfl dX10_goesStep_25 rfl ?_
  refine z_iload_n dX10_goesStep_28 rfl rfl ?_
  refine zm_iast dX10_goesStep_29 rfl rfl (by show vp_in (S.2.2.2.1 12) 40; rw [h12]; exact vp_in_nI hn (by decide)) ?_
  first | refine z_aload_n dX10_goesStep_30 rfl rfl ?_ | refine z_aload_nN dX10_goesStep_30 rfl rfl ?_
  refine zmg_45 rfl dX10_goesStep_31 rfl ?_
  first | refine z_aload_n dX10_goesStep_34 rfl rfl ?_ | refine z_aload_nN dX10_goesStep_34 rfl rfl ?_
  refine zmg_233 rfl dX10_goesStep_35 rfl ?_
  refine z_iload dX10_goesStep_38 rfl rfl ?_
  refine zm_iast dX10_goesStep_40 rfl rfl (by show vp_in (S.2.2.2.1 12) 40; rw [h12]; exact vp_in_nI hn (by decide)) ?_
  first | refine z_aload_n dX10_goesStep_41 rfl rfl ?_ | refine z_aload_nN dX10_goesStep_41 rfl rfl ?_
  refine zmg_48 rfl dX10_goesStep_42 rfl ?_
  first | refine z_aload_n dX10_goesStep_45 rfl rfl ?_ | refine z_aload_nN dX10_goesStep_45 rfl rfl ?_
  refine zmg_233 rfl dX10_goesStep_46 rfl ?_
  refine z_iload dX10_goesStep_49 rfl rfl ?_
  refine zm_zast dX10_goesStep_51 rfl rfl (by show vp_in (S.2.2.2.1 12) 40; rw [h12]; exact vp_in_nI hn (by decide)) ?_
  first | refine z_aload_n dX10_goesStep_52 rfl rfl ?_ | refine z_aload_nN dX10_goesStep_52 rfl rfl ?_
  refine z_dup dX10_goesStep_53 rfl rfl ?_
  refine zmg_233 rfl dX10_goesStep_54 rfl ?_
  refine z_iconst (v := 1) dX10_goesStep_57 rfl (by decide) ?_
  refine z_iadd dX10_goesStep_58 rfl ?_
  refine zmp_233 rfl dX10_goesStep_59 rfl ?_
  exact z_vret dX10_goesStep_62 rfl rfl ⟨rfl, by simp only [h12, nI_clamp (show n < 2 ^ 31 by omega), nar_b, show nI n + 1 = nI (n + 1) from nI_1 n]; rfl⟩ (Nat.le_of_ble_eq_true rfl) (Nat.le_of_ble_eq_true rfl)

