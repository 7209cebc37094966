set_option maxHeartbeats 4000000 in
set_option maxRecDepth 100000 in
/-- X10_copiesCell -/
theorem r_copiesCell (g : zG) (h : zH) (m : Nat) (S : sMS) (p to : Int32) (hp : vp_in p 880) (hto : vp_in to 880) : zXv g yX10_copiesCell cX10_copiesCell 3 none rmX10_copiesCell [.ref m, .int p, .int to] (mUp m S h) (mUp m (mLay S to.toNatClampNeg (mc S p.toNatClampNeg)) h) := by
  refine zM_of (by decide) (Nat.le_of_ble_eq_true rfl) ?_
  first | refine z_aload_n dX10_copiesCell_0 rfl rfl ?_ | refine z_aload_nN dX10_copiesCell_0 rfl rfl ?_
  refine z_iload_n dX10_copiesCell_1 rfl rfl ?_
  first | refine z_aload_n dX10_copiesCell_2 rfl rfl ?_ | refine z_aload_nN dX10_copiesCell_2 rfl rfl ?_
  refine zmg_7 rfl dX10_copiesCell_3 rfl ?_
  refine z_iload_n dX10_copiesCell_6 rfl rfl ?_
  refine zm_iald dX10_copiesCell_7 rfl rfl hp ?_
  first | refine z_aload_n dX10_copiesCell_8 rfl rfl ?_ | refine z_aload_nN dX10_copiesCell_8 rfl rfl ?_
  refine zmg_13 rfl dX10_copiesCell_9 rfl ?_
  refine z_iload_n dX10_copiesCell_12 rfl rfl ?_
  refine zm_lald dX10_copiesCell_13 rfl rfl hp ?_
  first | refine z_aload_n dX10_copiesCell_14 rfl rfl ?_ | refine z_aload_nN dX10_copiesCell_14 rfl rfl ?_
  refine zmg_17 rfl dX10_copiesCell_15 rfl ?_
  refine z_iload_n dX10_copiesCell_18 rfl rfl ?_
  refine zm_dald dX10_copiesCell_19 rfl rfl hp ?_
  refine zcv_X10_84 rfl dX10_copiesCell_20 rfl mo_recv (r_lays g h m S _ _ _ _ hto) rfl rfl ⟨(Nat.le_of_ble_eq_true rfl), (Nat.le_of_ble_eq_true rfl)⟩ ⟨(Nat.le_of_ble_eq_true rfl), (Nat.le_of_ble_eq_true rfl)⟩ (Nat.le_of_ble_eq_true rfl) ?_
  exact z_vret dX10_copiesCell_23 rfl rfl ⟨rfl, rfl⟩ (Nat.le_of_ble_eq_true rfl) (Nat.le_of_ble_eq_true rfl)

/-- a row's kind and size are set -/
def mKS (S : sMS) (t : Nat) (kind size : Int32) : sMS := (va_up (va_up S.1 4 (upd (S.1 4) t kind)) 5 (upd (S.1 5) t size), S.2)
theorem mKS_4 (S : sMS) (t : Nat) (kind size : Int32) : (mKS S t kind size).1 4 = upd (S.1 4) t kind := by simp [mKS, va_up]
theorem mKS_5 (S : sMS) (t : Nat) (kind size : Int32) : (mKS S t kind size).1 5 = upd (S.1 5) t size := by simp [mKS, va_up]
theorem mKS_o (S : sMS) (t : Nat) (kind size : Int32) {j : Nat} (h4 : j ≠ 4) (h5 : j ≠ 5) : (mKS S t kind size).1 j = S.1 j := by simp [mKS, va_up, h4, h5]
theorem mc_KS (S : sMS) (t : Nat) (kind size : Int32) (j : Nat) : mc (mKS S t kind size) j = mc S j := by simp [mc, mKS, va_up]
theorem mKS_eq (S : sMS) (t : Nat) (k : Nat) (x : Int32) : (va_up (va_up S.1 4 (upd (S.1 4) t x)) 5 (upd ((va_up S.1 4 (upd (S.1 4) t x)) 5) t ((va_up S.1 4 (upd (S.1 4) t x)) 5 k)), S.2) = mKS S t x (S.1 5 k) := by simp [mKS, va_up]
/-- a row is copied -/
def mCopy (S : sMS) (k t : Nat) : sMS := mPut (mKS S t (S.1 4 k) (S.1 5 k)) (20 * t) (fun i => mc S (20 * k + i)) 20

abbrev YX10_copiesRow : zY := (yX10_copiesRow.cls, cX10_copiesRow, 4, none, rmX10_copiesRow, yX10_copiesRow.name, fun _ _ => True)
set_option maxHeartbeats 4000000 in
set_option maxRecDepth 100000 in
theorem r_copiesRow_L (g : zG) (h : zH) (m : Nat) (S : sMS) (k t : Nat) (hk : k < 26) (ht : t < 26) (hkt : k ≠ t) : ∀ (n i : Nat), i + n = 20 → zZ g YX10_copiesRow (zE g (fun v h1 => v = none ∧ h1 = mUp m (mCopy S k t) h) 0 0) 26 [(3, .int (nI i)), (0, .ref m), (1, .int (nI k)), (2, .int (nI t))] [] (mUp m (mPut (mKS S t (S.1 4 k) (S.1 5 k)) (20 * t) (fun i => mc S (20 * k + i)) i) h) 0 0 := by
  intro n
  induction n with
  | zero =>
    intro i hi
    refine z_iload_n dX10_copiesRow_26 rfl rfl ?_
    refine z_bipush (v := 20) dX10_copiesRow_27 rfl (by decide) ?_
    refine z_icmp_ge (tgt := 54) dX10_copiesRow_29 rfl (by decide) (fun c29 => ?_) (fun c29 => absurd c29 (fun q => q (nI_le (a := 20) (by omega) (by omega))))
    exact z_vret dX10_copiesRow_54 rfl rfl ⟨rfl, by rw [show i = 20 by omega]; rfl⟩ (Nat.le_of_ble_eq_true rfl) (Nat.le_of_ble_eq_true rfl)
  | succ n ih =>
    intro i hi
    refine z_iload_n dX10_copiesRow_26 rfl rfl ?_
    refine z_bipush (v := 20) dX10_copiesRow_27 rfl (by decide) ?_
    refine z_icmp_ge (tgt := 54) dX10_copiesRow_29 rfl (by decide) (fun c29 => absurd c29 (nI_ge (b := 20) (by omega) (by omega))) (fun c29 => ?_)
    first | refine z_aload_n dX10_copiesRow_32 rfl rfl ?_ | refine z_aload_nN dX10_copiesRow_32 rfl rfl ?_
    refine z_bipush (v := 20) dX10_copiesRow_33 rfl (by decide) ?_
    refine z_iload_n dX10_copiesRow_35 rfl rfl ?_
    refine z_imul dX10_copiesRow_36 rfl ?_
    refine z_iload_n dX10_copiesRow_37 rfl rfl ?_
    refine z_iadd dX10_copiesRow_38 rfl ?_
    refine z_bipush (v := 20) dX10_copiesRow_39 rfl (by decide) ?_
    refine z_iload_n dX10_copiesRow_41 rfl rfl ?_
    refine z_imul dX10_copiesRow_42 rfl ?_
    refine z_iload_n dX10_copiesRow_43 rfl rfl ?_
    refine z_iadd dX10_copiesRow_44 rfl ?_
    rw [n20, n20]
    refine zcv_X10_229 rfl dX10_copiesRow_45 rfl mo_recv (r_copiesCell g h m _ _ _ (vp_in_nI (show 20 * k + i < 880 by omega) (by decide)) (vp_in_nI (show 20 * t + i < 880 by omega) (by decide))) rfl rfl ⟨(Nat.le_of_ble_eq_true rfl), (Nat.le_of_ble_eq_true rfl)⟩ ⟨(Nat.le_of_ble_eq_true rfl), (Nat.le_of_ble_eq_true rfl)⟩ (Nat.le_of_ble_eq_true rfl) ?_
    rw [nI_clamp (show 20 * k + i < 2 ^ 31 by omega), nI_clamp (show 20 * t + i < 2 ^ 31 by omega), mc_put, if_neg (by omega), mc_KS]
    refine z_iinc (v := nI (i + 1)) dX10_copiesRow_48 rfl rfl (nI_inc i) (Nat.le_of_ble_eq_true rfl) ?_
    refine z_goto (tgt := 26) dX10_copiesRow_51 rfl (by decide) ?_
    refine z_lv [(3, .int (nI (i + 1))), (0, .ref m), (1, .int (nI k)), (2, .int (nI t))] ⟨rfl, rfl, rfl, rfl, trivial⟩ ?_
    exact ih (i + 1) (by omega)
set_option maxHeartbeats 4000000 in
set_option maxRecDepth 100000 in
/-- X10_copiesRow -/
theorem r_copiesRow (g : zG) (h : zH) (m : Nat) (S : sMS) (k t : Nat) (hk : k < 26) (ht : t < 26) (hkt : k ≠ t) : zXv g yX10_copiesRow cX10_copiesRow 4 none rmX10_copiesRow [.ref m, .int (nI k), .int (nI t)] (mUp m S h) (mUp m (mCopy S k t) h) := by
  refine zM_of (by decide) (Nat.le_of_ble_eq_true rfl) ?_
  first | refine z_aload_n dX10_copiesRow_0 rfl rfl ?_ | refine z_aload_nN dX10_copiesRow_0 rfl rfl ?_
  refine zmg_21 rfl dX10_copiesRow_1 rfl ?_
  refine z_iload_n dX10_copiesRow_4 rfl rfl ?_
  first | refine z_aload_n dX10_copiesRow_5 rfl rfl ?_ | refine z_aload_nN dX10_copiesRow_5 rfl rfl ?_
  refine zmg_21 rfl dX10_copiesRow_6 rfl ?_
  refine z_iload_n dX10_copiesRow_9 rfl rfl ?_
  refine zm_iald dX10_copiesRow_10 rfl rfl (vp_in_nI (by omega) (by decide)) ?_
  refine zm_iast dX10_copiesRow_11 rfl rfl (vp_in_nI (by omega) (by decide)) ?_
  first | refine z_aload_n dX10_copiesRow_12 rfl rfl ?_ | refine z_aload_nN dX10_copiesRow_12 rfl rfl ?_
  refine zmg_24 rfl dX10_copiesRow_13 rfl ?_
  refine z_iload_n dX10_copiesRow_16 rfl rfl ?_
  first | refine z_aload_n dX10_copiesRow_17 rfl rfl ?_ | refine z_aload_nN dX10_copiesRow_17 rfl rfl ?_
  refine zmg_24 rfl dX10_copiesRow_18 rfl ?_
  refine z_iload_n dX10_copiesRow_21 rfl rfl ?_
  refine zm_iald dX10_copiesRow_22 rfl rfl (vp_in_nI (by omega) (by decide)) ?_
  refine zm_iast dX10_copiesRow_23 rfl rfl (vp_in_nI (by omega) (by decide)) ?_
  refine z_iconst (v := 0) dX10_copiesRow_24 rfl (by decide) ?_
  refine z_istore_n dX10_copiesRow_25 rfl (Nat.le_of_ble_eq_true rfl) ?_
  refine z_lv [(3, .int (nI 0)), (0, .ref m), (1, .int (nI k)), (2, .int (nI t))] ⟨rfl, rfl, rfl, rfl, trivial⟩ ?_
  have q := r_copiesRow_L g h m S k t hk ht hkt 20 0 rfl
  rw [show nI 0 = (0 : Int32) from rfl] at q
  simp only [nI_clamp (show k < 2 ^ 31 by omega), nI_clamp (show t < 2 ^ 31 by omega)]
  rw [mKS_eq]
  exact q

theorem mCopy_o (S : sMS) (k t : Nat) {j : Nat} (h1 : j ≠ 1) (h4 : j ≠ 4) (h5 : j ≠ 5) : (mCopy S k t).1 j = S.1 j := by unfold mCopy; rw [mPut_1 _ _ _ h1, mKS_o _ _ _ _ h4 h5]
theorem mCopy_4 (S : sMS) (k t : Nat) : (mCopy S k t).1 4 = upd (S.1 4) t (S.1 4 k) := by unfold mCopy; rw [mPut_1 _ _ _ (by decide), mKS_4]
theorem mCopy_5 (S : sMS) (k t : Nat) : (mCopy S k t).1 5 = upd (S.1 5) t (S.1 5 k) := by unfold mCopy; rw [mPut_1 _ _ _ (by decide), mKS_5]
theorem mCopy_s (S : sMS) (k t : Nat) : (mCopy S k t).2.2.2 = S.2.2.2 := by unfold mCopy; rw [mPut_s]; rfl
theorem mc_copy (S : sMS) (k t j : Nat) : mc (mCopy S k t) j = if 20 * t ≤ j ∧ j < 20 * t + 20 then mc S (20 * k + (j - 20 * t)) else mc S j := by unfold mCopy; rw [mc_put, mc_KS]
theorem copy_row {S : sMS} {k t : Nat} {A : sA} (hA : mRowIs S k A) : mRowIs (mCopy S k t) t A := by
  have hl := hA.2.2.1.2.2.1
  refine ⟨by rw [mCopy_4, upd_same]; exact hA.1, by rw [mCopy_5, upd_same]; exact hA.2.1, hA.2.2.1, fun i hi => ?_⟩
  rw [mc_copy, if_pos (by omega), Nat.add_sub_cancel_left]
  exact hA.2.2.2 i hi
theorem copy_oth {S : sMS} {k t j : Nat} {A : sA} (hjt : j ≠ t) (hA : mRowIs S j A) : mRowIs (mCopy S k t) j A := by
  have hl := hA.2.2.1.2.2.1
  refine ⟨by rw [mCopy_4, upd, if_neg hjt]; exact hA.1, by rw [mCopy_5, upd, if_neg hjt]; exact hA.2.1, hA.2.2.1, fun i hi => ?_⟩
  rw [mc_copy, if_neg (by omega)]
  exact hA.2.2.2 i hi
/-- the steps so far -/
def stIs (S : sMS) (P : List sStep) : Prop := S.2.2.2.1 12 = nI P.length ∧ ∀ k t, P[k]? = some t → S.1 9 k = t.1 ∧ S.1 10 k = t.2.1 ∧ S.1 11 k = t.2.2.1 ∧ S.1 12 k = t.2.2.2.2 ∧ S.1 13 k = (if t.2.2.2.1 = 4 then 1 else 0)
/-- nothing but the steps -/
def frS (S S' : sMS) : Prop := (∀ j, j < 9 ∨ 13 < j → S'.1 j = S.1 j) ∧ S'.2.1 = S.2.1 ∧ S'.2.2.1 = S.2.2.1 ∧ (∀ j, j ≠ 12 → S'.2.2.2.1 j = S.2.2.2.1 j) ∧ S'.2.2.2.2 = S.2.2.2.2
theorem frS_t {S S' S2 : sMS} (h : frS S S') (h2 : frS S' S2) : frS S S2 := ⟨fun j hj => (h2.1 j hj).trans (h.1 j hj), h2.2.1.trans h.2.1, h2.2.2.1.trans h.2.2.1, fun j hj => (h2.2.2.2.1 j hj).trans (h.2.2.2.1 j hj), h2.2.2.2.2.trans h.2.2.2.2⟩
theorem frS_row {S S' : sMS} (h : frS S S') {k : Nat} {A : sA} (hA : mRowIs S k A) : mRowIs S' k A := by
  refine ⟨by rw [h.1 4 (by decide)]; exact hA.1, by rw [h.1 5 (by decide)]; exact hA.2.1, hA.2.2.1, fun i hi => ?_⟩
  unfold mc
  rw [h.1 1 (by decide), h.2.1, h.2.2.1]
  exact hA.2.2.2 i hi
theorem nar_b (P : Prop) [Decidable P] : vp_nar .boolean (if P then (1 : Int32) else 0) = (if P then 1 else 0) := by split <;> decide
def mStep (S : sMS) (n : Nat) (t : sStep) : sMS := (va_up (va_up (va_up (va_up (va_up S.1 9 (upd (S.1 9) n t.1)) 10 (upd (S.1 10) n t.2.1)) 11 (upd (S.1 11) n t.2.2.1)) 12 (upd (S.1 12) n t.2.2.2.2)) 13 (upd (S.1 13) n (if t.2.2.2.1 = 4 then 1 else 0)), S.2.1, S.2.2.1, va_up S.2.2.2.1 12 (nI (n + 1)), S.2.2.2.2)
theorem mStep_fr (S : sMS) (n : Nat) (t : sStep) : frS S (mStep S n t) := by
  refine ⟨fun j hj => ?_, rfl, rfl, fun j hj => by simp [mStep, va_up, hj], rfl⟩
  have h9 : j ≠ 9 := by omega
  have h10 : j ≠ 10 := by omega
  have h11 : j ≠ 11 := by omega
  have h12 : j ≠ 12 := by omega
  have h13 : j ≠ 13 := by omega
  simp [mStep, va_up, h9, h10, h11, h12, h13]
theorem mStep_is {S : sMS} {P : List sStep} (h : stIs S P) (t : sStep) : stIs (mStep S P.length t) (P ++ [t]) := by
  refine ⟨by simp [mStep, va_up], fun k u hk => ?_⟩
  rcases Nat.lt_or_ge k P.length with c | c
  · rw [List.getElem?_append_left c] at hk
    have := h.2 k u hk
    have e : k ≠ P.length := by omega
    simp [mStep, va_up, upd, e]
    exact this
  · rw [List.getElem?_append_right c] at hk
    have e : k - P.length = 0 := by
      rcases Nat.eq_zero_or_pos (k - P.length) with z | z
      · exact z
      · rw [List.getElem?_eq_none (by simp; omega)] at hk; cases hk
    rw [e] at hk
    have e2 : k = P.length := by omega
    cases hk
    simp [mStep, va_up, upd, e2]

set_option maxHeartbeats 4000000 in
set_option maxRecDepth 100000 in
/-- X10_goesStep -/
theorem r_goesStep (g : zG) (h : zH) (m : Nat) (S : sMS) (n : Nat) (hn : n < 40) (h12 : S.2.2.2.1 12 = nI n) (t : sStep) : zXv g yX10_goesStep cX10_goesStep 6 none rmX10_goesStep [.ref m, .int t.1, .int t.2.1, .int t.2.2.1, .int t.2.2.2.2, .int (if t.2.2.2.1 = 4 then 1 else 0)] (mUp m S h) (mUp m (mStep S n t) h) := by
  refine zM_of (by decide) (Nat.le_of_ble_eq_true rfl) ?_
  first | refine z_aload_n dX10_goesStep_0 rfl rfl ?_ | refine z_aload_nN dX10_goesStep_0 rfl rfl ?_
  refine zmg_36 rfl dX10_goesStep_1 rfl ?_
  first | refine z_aload_n dX10_goesStep_4 rfl rfl ?_ | refine z_aload_nN dX10_goesStep_4 rfl rfl ?_
  refine zmg_233 rfl dX10_goesStep_5 rfl ?_
  refine z_iload_n dX10_goesStep_8 rfl rfl ?_
  refine zm_iast dX10_goesStep_9 rfl rfl (by show vp_in (S.2.2.2.1 12) 40; rw [h12]; exact vp_in_nI hn (by decide)) ?_
  first | refine z_aload_n dX10_goesStep_10 rfl rfl ?_ | refine z_aload_nN dX10_goesStep_10 rfl rfl ?_
  refine zmg_39 rfl dX10_goesStep_11 rfl ?_
  first | refine z_aload_n dX10_goesStep_14 rfl rfl ?_ | refine z_aload_nN dX10_goesStep_14 rfl rfl ?_
  refine zmg_233 rfl dX10_goesStep_15 rfl ?_
  refine z_iload_n dX10_goesStep_18 rfl rfl ?_
  refine zm_iast dX10_goesStep_19 rfl rfl (by show vp_in (S.2.2.2.1 12) 40; rw [h12]; exact vp_in_nI hn (by decide)) ?_
  first | refine z_aload_n dX10_goesStep_20 rfl rfl ?_ | refine z_aload_nN dX10_goesStep_20 rfl rfl ?_
  refine zmg_42 rfl dX10_goesStep_21 rfl ?_
  first | refine z_aload_n dX10_goesStep_24 rfl rfl ?_ | refine z_aload_nN dX10_goesStep_24 rfl rfl ?_
  refine zmg_233 rfl dX10_goesStep_25 rfl ?_
  refine z_iload_n dX10_goesStep_28 rfl rfl ?_
  refine zm_iast dX10_goesStep_29 rfl rfl (by show vp_in (S.2.2.2.1 12) 40; rw [h12]; exact vp_in_nI hn (by decide)) ?_
  first | refine z_aload_n dX10_goesStep_30 rfl rfl ?_ | refine z_aload_nN dX10_goesStep_30 rfl rfl ?_
  refine zmg_45 rfl dX10_goesStep_31 rfl ?_
  first | refine z_aload_n dX10_goesStep_34 rfl rfl ?_ | refine z_aload_nN dX10_goesStep_34 rfl rfl ?_
  refine zmg_233 rfl dX10_goesStep_35 rfl ?_
  refine z_iload dX10_goesStep_38 rfl rfl ?_
  refine zm_iast dX10_goesStep_40 rfl rfl (by show vp_in (S.2.2.2.1 12) 40; rw [h12]; exact vp_in_nI hn (by decide)) ?_
  first | refine z_aload_n dX10_goesStep_41 rfl rfl ?_ | refine z_aload_nN dX10_goesStep_41 rfl rfl ?_
  refine zmg_48 rfl dX10_goesStep_42 rfl ?_
  first | refine z_aload_n dX10_goesStep_45 rfl rfl ?_ | refine z_aload_nN dX10_goesStep_45 rfl rfl ?_
  refine zmg_233 rfl dX10_goesStep_46 rfl ?_
  refine z_iload dX10_goesStep_49 rfl rfl ?_
  refine zm_zast dX10_goesStep_51 rfl rfl (by show vp_in (S.2.2.2.1 12) 40; rw [h12]; exact vp_in_nI hn (by decide)) ?_
  first | refine z_aload_n dX10_goesStep_52 rfl rfl ?_ | refine z_aload_nN dX10_goesStep_52 rfl rfl ?_
  refine z_dup dX10_goesStep_53 rfl rfl ?_
  refine zmg_233 rfl dX10_goesStep_54 rfl ?_
  refine z_iconst (v := 1) dX10_goesStep_57 rfl (by decide) ?_
  refine z_iadd dX10_goesStep_58 rfl ?_
  refine zmp_233 rfl dX10_goesStep_59 rfl ?_
  exact z_vret dX10_goesStep_62 rfl rfl ⟨rfl, by simp only [h12, nI_clamp (show n < 2 ^ 31 by omega), nar_b, show nI n + 1 = nI (n + 1) from nI_1 n]; rfl⟩ (Nat.le_of_ble_eq_true rfl) (Nat.le_of_ble_eq_true rfl)

theorem r_goesStep0 (g : zG) (h : zH) (m : Nat) (S : sMS) (n : Nat) (hn : n < 40) (h12 : S.2.2.2.1 12 = nI n) (l r cls c : Int32) (hc : cls ≠ 4) : zXv g yX10_goesStep cX10_goesStep 6 none rmX10_goesStep [.ref m, .int 0, .int l, .int r, .int c, .int 0] (mUp m S h) (mUp m (mStep S n (0, l, r, cls, c)) h) := by
  have q := r_goesStep g h m S n hn h12 (0, l, r, cls, c)
  rw [if_neg (show ¬ ((0, l, r, cls, c) : sStep).2.2.2.1 = 4 from hc)] at q
  exact q
theorem sAl_4 (L : List sC) (i : Nat) : (if sAl L i = 4 then (1 : Int32) else 0) = (if sTwice L i = true then 1 else 0) := by
  unfold sAl
  by_cases c : sTwice L i = true
  · rw [if_pos c, if_pos rfl, if_pos c]
  · rw [if_neg c, if_neg (by decide), if_neg c]
theorem r_goesStepA (g : zG) (h : zH) (m : Nat) (S : sMS) (n : Nat) (hn : n < 40) (h12 : S.2.2.2.1 12 = nI n) (w l r c : Int32) (L : List sC) (i : Nat) : zXv g yX10_goesStep cX10_goesStep 6 none rmX10_goesStep [.ref m, .int w, .int l, .int r, .int c, .int (if sTwice L i = true then 1 else 0)] (mUp m S h) (mUp m (mStep S n (w, l, r, sAl L i, c)) h) := by
  have q := r_goesStep g h m S n hn h12 (w, l, r, sAl L i, c)
  rw [show (if ((w, l, r, sAl L i, c) : sStep).2.2.2.1 = 4 then (1 : Int32) else 0) = (if sTwice L i = true then 1 else 0) from sAl_4 L i] at q
  exact q
theorem sLike_n4 (c d : sC) (t : Int32) : sLike c d t ≠ 4 := by rcases sLike_le c d t with e | e | e <;> rw [e] <;> decide
abbrev st0 (q : Nat → Int32) (A B : List sC) (i j : Nat) : sStep := (0, nI i, nI j, sLike (A.getD i z0) (B.getD j z0) (q 0), nI (sBes q (A.getD i z0) (B.getD j z0)))
abbrev st1 (q : Nat → Int32) (A : List sC) (i : Nat) : sStep := (1, nI i, -4, sAl A i, nI (sAlone q A i))
abbrev st2 (q : Nat → Int32) (B : List sC) (j : Nat) : sStep := (2, -4, nI j, sAl B j, nI (sAlone q B j))
theorem ss_l0 {q : Nat → Int32} {A B : List sC} {i j : Nat} (hi : i < A.length) (hj : j = B.length) : sSteps q A B (A.length - i) (B.length - j) = st1 q A i :: sSteps q A B (A.length - (i + 1)) (B.length - j) := by
  obtain ⟨a, ha⟩ : ∃ a, A.length - i = a + 1 := ⟨A.length - i - 1, by omega⟩
  rw [show B.length - j = 0 by omega, ha, sSteps, show A.length - (a + 1) = i by omega, show A.length - (i + 1) = a by omega]
theorem ss_0l {q : Nat → Int32} {A B : List sC} {i j : Nat} (hi : i = A.length) (hj : j < B.length) : sSteps q A B (A.length - i) (B.length - j) = st2 q B j :: sSteps q A B (A.length - i) (B.length - (j + 1)) := by
  obtain ⟨b, hb⟩ : ∃ b, B.length - j = b + 1 := ⟨B.length - j - 1, by omega⟩
  rw [show A.length - i = 0 by omega, hb, sSteps, show B.length - (b + 1) = j by omega, show B.length - (j + 1) = b by omega]
theorem ss_ll {q : Nat → Int32} {A B : List sC} {i j : Nat} (hi : i < A.length) (hj : j < B.length) : sSteps q A B (A.length - i) (B.length - j) = if sBes q (A.getD i z0) (B.getD j z0) + dC q A B (A.length - (i + 1)) (B.length - (j + 1)) = dC q A B (A.length - i) (B.length - j) then st0 q A B i j :: sSteps q A B (A.length - (i + 1)) (B.length - (j + 1)) else if sAlone q A i + dC q A B (A.length - (i + 1)) (B.length - j) = dC q A B (A.length - i) (B.length - j) then st1 q A i :: sSteps q A B (A.length - (i + 1)) (B.length - j) else st2 q B j :: sSteps q A B (A.length - i) (B.length - (j + 1)) := by
  obtain ⟨a, ha⟩ : ∃ a, A.length - i = a + 1 := ⟨A.length - i - 1, by omega⟩
  obtain ⟨b, hb⟩ : ∃ b, B.length - j = b + 1 := ⟨B.length - j - 1, by omega⟩
  rw [ha, hb, sSteps, show A.length - (a + 1) = i by omega, show A.length - (i + 1) = a by omega, show B.length - (b + 1) = j by omega, show B.length - (j + 1) = b by omega]
theorem n480 (i : Nat) : (480 : Int32) + nI i = nI (20 * 24 + i) := nI_add 480 i
theorem n500 (i : Nat) : (500 : Int32) + nI i = nI (20 * 25 + i) := nI_add 500 i

abbrev YX10_findSteps : zY := (yX10_findSteps.cls, cX10_findSteps, 5, none, rmX10_findSteps, yX10_findSteps.name, fun _ _ => True)
set_option maxHeartbeats 4000000 in
set_option maxRecDepth 100000 in
theorem q_find_E (g : zG) (h : zH) (m : Nat) (S : sMS) (A B : sA) (hA : mRowIs S 24 A) (hB : mRowIs S 25 B) (q : Nat → Int32) (hq : ∀ i, i < 4 → S.1 7 i = q i) (hqo : rateOk q) (hT : tabIs q A.2 B.2 (S.1 8) 0 0) (T : List sStep) (S1 : sMS) (i j : Nat) (P : List sStep) (hi : i = A.2.length) (hj : j = B.2.length) (hf : frS S S1) (hs : stIs S1 P) (he : P ++ sSteps q A.2 B.2 (A.2.length - i) (B.2.length - j) = T) : zZ g YX10_findSteps (zE g (fun v h1 => v = none ∧ ∃ S2, h1 = mUp m S2 h ∧ frS S S2 ∧ stIs S2 T) 0 0) 9 [(1, .int (nI i)), (2, .int (nI j)), (0, .ref m)] [] (mUp m S1 h) 0 0 := by
  have hA' := frS_row hf hA
  have hB' := frS_row hf hB
  have lA : A.2.length ≤ 20 := hA.2.2.1.2.2.1
  have lB : B.2.length ≤ 20 := hB.2.2.1.2.2.1
  have hq' : ∀ i, i < 4 → S1.1 7 i = q i := fun i hi => by rw [hf.1 7 (by decide)]; exact hq i hi
  have sa : S1.1 5 (24 : Int32).toNatClampNeg = nI A.2.length := hA'.2.1
  have sb : S1.1 5 (25 : Int32).toNatClampNeg = nI B.2.length := hB'.2.1
  have tb : ∀ x y, x ≤ A.2.length → y ≤ B.2.length → S1.1 8 (nI (21 * x + y)).toNatClampNeg = nI (dC q A.2 B.2 (A.2.length - x) (B.2.length - y)) := fun x y hx hy => by rw [nI_clamp (by omega), hf.1 8 (by decide)]; exact hT x y hx hy (by omega)
  refine z_iload_n dX10_findSteps_9 rfl rfl ?_
  first | refine z_aload_n dX10_findSteps_10 rfl rfl ?_ | refine z_aload_nN dX10_findSteps_10 rfl rfl ?_
  refine zmg_24 rfl dX10_findSteps_11 rfl ?_
  refine z_bipush (v := 24) dX10_findSteps_14 rfl (by decide) ?_
  refine zm_iald dX10_findSteps_16 rfl rfl (vp_in_nI (n := 24) (by decide) (by decide)) ?_
  rw [sa]
  refine z_icmp_lt (tgt := 31) dX10_findSteps_17 rfl (by decide) (fun c17 => absurd c17 (nI_nlt (by omega) (by omega))) (fun c17 => ?_)
  refine z_iload_n dX10_findSteps_20 rfl rfl ?_
  first | refine z_aload_n dX10_findSteps_21 rfl rfl ?_ | refine z_aload_nN dX10_findSteps_21 rfl rfl ?_
  refine zmg_24 rfl dX10_findSteps_22 rfl ?_
  refine z_bipush (v := 25) dX10_findSteps_25 rfl (by decide) ?_
  refine zm_iald dX10_findSteps_27 rfl rfl (vp_in_nI (n := 25) (by decide) (by decide)) ?_
  rw [sb]
  refine z_icmp_ge (tgt := 224) dX10_findSteps_28 rfl (by decide) (fun c28 => ?_) (fun c28 => absurd c28 (fun z => z (nI_le (by omega) (by omega))))
  exact z_vret dX10_findSteps_224 rfl rfl ⟨rfl, S1, rfl, hf, by rw [hi, hj, Nat.sub_self, Nat.sub_self, sSteps, List.append_nil] at he; rw [← he]; exact hs⟩ (Nat.le_of_ble_eq_true rfl) (Nat.le_of_ble_eq_true rfl)
set_option maxHeartbeats 4000000 in
set_option maxRecDepth 100000 in
theorem q_find_L (g : zG) (h : zH) (m : Nat) (S : sMS) (A B : sA) (hA : mRowIs S 24 A) (hB : mRowIs S 25 B) (q : Nat → Int32) (hq : ∀ i, i < 4 → S.1 7 i = q i) (hqo : rateOk q) (hT : tabIs q A.2 B.2 (S.1 8) 0 0) (T : List sStep) : ∀ (N : Nat) (S1 : sMS) (i j : Nat) (P : List sStep), (A.2.length - i) + (B.2.length - j) ≤ N → i ≤ A.2.length → j ≤ B.2.length → P.length ≤ i + j → frS S S1 → stIs S1 P → P ++ sSteps q A.2 B.2 (A.2.length - i) (B.2.length - j) = T → zZ g YX10_findSteps (zE g (fun v h1 => v = none ∧ ∃ S2, h1 = mUp m S2 h ∧ frS S S2 ∧ stIs S2 T) 0 0) 9 [(1, .int (nI i)), (2, .int (nI j)), (0, .ref m)] [] (mUp m S1 h) 0 0 := by
  intro N
  induction N with
  | zero =>
    intro S1 i j P hN hi0 hj0 hP hf hs he
    exact q_find_E g h m S A B hA hB q hq hqo hT T S1 i j P (by omega) (by omega) hf hs he
  | succ N ih =>
    intro S1 i j P hN hi0 hj0 hP hf hs he
    have hA' := frS_row hf hA
    have hB' := frS_row hf hB
    have lA : A.2.length ≤ 20 := hA.2.2.1.2.2.1
    have lB : B.2.length ≤ 20 := hB.2.2.1.2.2.1
    have hq' : ∀ i, i < 4 → S1.1 7 i = q i := fun i hi => by rw [hf.1 7 (by decide)]; exact hq i hi
    have sa : S1.1 5 (24 : Int32).toNatClampNeg = nI A.2.length := hA'.2.1
    have sb : S1.1 5 (25 : Int32).toNatClampNeg = nI B.2.length := hB'.2.1
    have tb : ∀ x y, x ≤ A.2.length → y ≤ B.2.length → S1.1 8 (nI (21 * x + y)).toNatClampNeg = nI (dC q A.2 B.2 (A.2.length - x) (B.2.length - y)) := fun x y hx hy => by rw [nI_clamp (by omega), hf.1 8 (by decide)]; exact hT x y hx hy (by omega)
    have b1 := sAlone_le hqo A.2 i
    have b3 := sBes_le hqo (A.2.getD i z0) (B.2.getD j z0)
    have d0 := dC_le hqo A.2 B.2 (A.2.length - i) (B.2.length - j)
    have d1 := dC_le hqo A.2 B.2 (A.2.length - (i + 1)) (B.2.length - j)
    have d3 := dC_le hqo A.2 B.2 (A.2.length - (i + 1)) (B.2.length - (j + 1))
    rcases Nat.lt_or_eq_of_le hi0 with hi | hi
    · rcases Nat.lt_or_eq_of_le hj0 with hj | hj
      · have pa := row_at hA' (by decide) hi
        have pb := row_at hB' (by decide) hj
        refine z_iload_n dX10_findSteps_9 rfl rfl ?_
        first | refine z_aload_n dX10_findSteps_10 rfl rfl ?_ | refine z_aload_nN dX10_findSteps_10 rfl rfl ?_
        refine zmg_24 rfl dX10_findSteps_11 rfl ?_
        refine z_bipush (v := 24) dX10_findSteps_14 rfl (by decide) ?_
        refine zm_iald dX10_findSteps_16 rfl rfl (vp_in_nI (n := 24) (by decide) (by decide)) ?_
        rw [sa]
        refine z_icmp_lt (tgt := 31) dX10_findSteps_17 rfl (by decide) (fun c17 => ?_) (fun c17 => absurd c17 (fun z => z (nI_lt (by omega) (by omega))))
        first | refine z_aload_n dX10_findSteps_31 rfl rfl ?_ | refine z_aload_nN dX10_findSteps_31 rfl rfl ?_
        refine zmg_33 rfl dX10_findSteps_32 rfl ?_
        refine z_bipush (v := 21) dX10_findSteps_35 rfl (by decide) ?_
        refine z_iload_n dX10_findSteps_37 rfl rfl ?_
        refine z_imul dX10_findSteps_38 rfl ?_
        refine z_iload_n dX10_findSteps_39 rfl rfl ?_
        refine z_iadd dX10_findSteps_40 rfl ?_
        rw [n21]
        refine zm_iald dX10_findSteps_41 rfl rfl (vp_in_nI (by omega) (by decide)) ?_
        rw [tb i j (by omega) (by omega)]
        refine z_istore_n dX10_findSteps_42 rfl (Nat.le_of_ble_eq_true rfl) ?_
        refine z_iload_n dX10_findSteps_43 rfl rfl ?_
        first | refine z_aload_n dX10_findSteps_44 rfl rfl ?_ | refine z_aload_nN dX10_findSteps_44 rfl rfl ?_
        refine zmg_24 rfl dX10_findSteps_45 rfl ?_
        refine z_bipush (v := 24) dX10_findSteps_48 rfl (by decide) ?_
        refine zm_iald dX10_findSteps_50 rfl rfl (vp_in_nI (n := 24) (by decide) (by decide)) ?_
        rw [sa]
        refine z_icmp_ge (tgt := 82) dX10_findSteps_51 rfl (by decide) (fun c51 => absurd c51 (nI_ge (by omega) (by omega))) (fun c51 => ?_)
        refine z_iload_n dX10_findSteps_54 rfl rfl ?_
        first | refine z_aload_n dX10_findSteps_55 rfl rfl ?_ | refine z_aload_nN dX10_findSteps_55 rfl rfl ?_
        refine zmg_24 rfl dX10_findSteps_56 rfl ?_
        refine z_bipush (v := 25) dX10_findSteps_59 rfl (by decide) ?_
        refine zm_iald dX10_findSteps_61 rfl rfl (vp_in_nI (n := 25) (by decide) (by decide)) ?_
        rw [sb]
        refine z_icmp_ge (tgt := 82) dX10_findSteps_62 rfl (by decide) (fun c62 => absurd c62 (nI_ge (by omega) (by omega))) (fun c62 => ?_)
        first | refine z_aload_n dX10_findSteps_65 rfl rfl ?_ | refine z_aload_nN dX10_findSteps_65 rfl rfl ?_
        refine z_sipush (v := 480) dX10_findSteps_66 rfl (by decide) ?_
        refine z_iload_n dX10_findSteps_69 rfl rfl ?_
        refine z_iadd dX10_findSteps_70 rfl ?_
        refine z_sipush (v := 500) dX10_findSteps_71 rfl (by decide) ?_
        refine z_iload_n dX10_findSteps_74 rfl rfl ?_
        refine z_iadd dX10_findSteps_75 rfl ?_
        rw [n480, n500]
        refine zcx_X10_226 rfl dX10_findSteps_76 rfl mo_recv (q_besideCosts g h m S1 _ _ pa.1 pb.1 _ _ pa.2 pb.2 q hq' hqo) rfl rfl ⟨(Nat.le_of_ble_eq_true rfl), (Nat.le_of_ble_eq_true rfl)⟩ ⟨(Nat.le_of_ble_eq_true rfl), (Nat.le_of_ble_eq_true rfl)⟩ (Nat.le_of_ble_eq_true rfl) ?_
        refine z_goto (tgt := 84) dX10_findSteps_79 rfl (by decide) ?_
        refine z_istore dX10_findSteps_84 rfl (Nat.le_of_ble_eq_true rfl) ?_
        refine z_iload dX10_findSteps_86 rfl rfl ?_
        refine z_if_lt (tgt := 131) dX10_findSteps_88 rfl (by decide) (fun c88 => absurd c88 (fun z => absurd z (nI_ge0 (by omega)))) (fun c88 => ?_)
        refine z_iload dX10_findSteps_91 rfl rfl ?_
        first | refine z_aload_n dX10_findSteps_93 rfl rfl ?_ | refine z_aload_nN dX10_findSteps_93 rfl rfl ?_
        refine zmg_33 rfl dX10_findSteps_94 rfl ?_
        refine z_bipush (v := 21) dX10_findSteps_97 rfl (by decide) ?_
        refine z_iload_n dX10_findSteps_99 rfl rfl ?_
        refine z_imul dX10_findSteps_100 rfl ?_
        refine z_bipush (v := 22) dX10_findSteps_101 rfl (by decide) ?_
        refine z_iadd dX10_findSteps_103 rfl ?_
        refine z_iload_n dX10_findSteps_104 rfl rfl ?_
        refine z_iadd dX10_findSteps_105 rfl ?_
        rw [n21c]
        refine zm_iald dX10_findSteps_106 rfl rfl (vp_in_nI (by omega) (by decide)) ?_
        rw [tb (i + 1) (j + 1) (by omega) (by omega)]
        refine z_iadd dX10_findSteps_107 rfl ?_
        rw [nI_add]
        refine z_iload_n dX10_findSteps_108 rfl rfl ?_
        refine z_icmp_ne (tgt := 131) dX10_findSteps_109 rfl (by decide) (fun c109 => ?_) (fun c109 => ?_)
        · skip
          have cb := fun z => c109 ((nI_eq (by omega) (by omega)).mpr z)
          refine z_iload_n dX10_findSteps_131 rfl rfl ?_
          first | refine z_aload_n dX10_findSteps_132 rfl rfl ?_ | refine z_aload_nN dX10_findSteps_132 rfl rfl ?_
          refine zmg_24 rfl dX10_findSteps_133 rfl ?_
          refine z_bipush (v := 24) dX10_findSteps_136 rfl (by decide) ?_
          refine zm_iald dX10_findSteps_138 rfl rfl (vp_in_nI (n := 24) (by decide) (by decide)) ?_
          rw [sa]
          refine z_icmp_ge (tgt := 196) dX10_findSteps_139 rfl (by decide) (fun c139 => absurd c139 (nI_ge (by omega) (by omega))) (fun c139 => ?_)
          first | refine z_aload_n dX10_findSteps_142 rfl rfl ?_ | refine z_aload_nN dX10_findSteps_142 rfl rfl ?_
          refine z_bipush (v := 24) dX10_findSteps_143 rfl (by decide) ?_
          refine z_iload_n dX10_findSteps_145 rfl rfl ?_
          refine zcx_X10_220 rfl dX10_findSteps_146 rfl mo_recv (q_aloneCosts g h m S1 24 i A hA' (by decide) hi q hq' hqo) rfl rfl ⟨(Nat.le_of_ble_eq_true rfl), (Nat.le_of_ble_eq_true rfl)⟩ ⟨(Nat.le_of_ble_eq_true rfl), (Nat.le_of_ble_eq_true rfl)⟩ (Nat.le_of_ble_eq_true rfl) ?_
          first | refine z_aload_n dX10_findSteps_149 rfl rfl ?_ | refine z_aload_nN dX10_findSteps_149 rfl rfl ?_
          refine zmg_33 rfl dX10_findSteps_150 rfl ?_
          refine z_bipush (v := 21) dX10_findSteps_153 rfl (by decide) ?_
          refine z_iload_n dX10_findSteps_155 rfl rfl ?_
          refine z_imul dX10_findSteps_156 rfl ?_
          refine z_bipush (v := 21) dX10_findSteps_157 rfl (by decide) ?_
          refine z_iadd dX10_findSteps_159 rfl ?_
          refine z_iload_n dX10_findSteps_160 rfl rfl ?_
          refine z_iadd dX10_findSteps_161 rfl ?_
          rw [n21b]
          refine zm_iald dX10_findSteps_162 rfl rfl (vp_in_nI (by omega) (by decide)) ?_
          rw [tb (i + 1) j (by omega) (by omega)]
          refine z_iadd dX10_findSteps_163 rfl ?_
          rw [nI_add]
          refine z_iload_n dX10_findSteps_164 rfl rfl ?_
          refine z_icmp_ne (tgt := 196) dX10_findSteps_165 rfl (by decide) (fun c165 => ?_) (fun c165 => ?_)
          · skip
            have ca := fun z => c165 ((nI_eq (by omega) (by omega)).mpr z)
            first | refine z_aload_n dX10_findSteps_196 rfl rfl ?_ | refine z_aload_nN dX10_findSteps_196 rfl rfl ?_
            refine z_iconst (v := 2) dX10_findSteps_197 rfl (by decide) ?_
            refine z_bipush (v := -4) dX10_findSteps_198 rfl (by decide) ?_
            refine z_iload_n dX10_findSteps_200 rfl rfl ?_
            first | refine z_aload_n dX10_findSteps_201 rfl rfl ?_ | refine z_aload_nN dX10_findSteps_201 rfl rfl ?_
            refine z_bipush (v := 25) dX10_findSteps_202 rfl (by decide) ?_
            refine z_iload_n dX10_findSteps_204 rfl rfl ?_
            refine zcx_X10_220 rfl dX10_findSteps_205 rfl mo_recv (q_aloneCosts g h m S1 25 j B hB' (by decide) hj q hq' hqo) rfl rfl ⟨(Nat.le_of_ble_eq_true rfl), (Nat.le_of_ble_eq_true rfl)⟩ ⟨(Nat.le_of_ble_eq_true rfl), (Nat.le_of_ble_eq_true rfl)⟩ (Nat.le_of_ble_eq_true rfl) ?_
            first | refine z_aload_n dX10_findSteps_208 rfl rfl ?_ | refine z_aload_nN dX10_findSteps_208 rfl rfl ?_
            refine z_bipush (v := 25) dX10_findSteps_209 rfl (by decide) ?_
            refine z_iload_n dX10_findSteps_211 rfl rfl ?_
            refine zcx_X10_216 rfl dX10_findSteps_212 rfl mo_recv (q_isTwice g h m S1 25 j B hB' (by decide) hj) rfl rfl ⟨(Nat.le_of_ble_eq_true rfl), (Nat.le_of_ble_eq_true rfl)⟩ ⟨(Nat.le_of_ble_eq_true rfl), (Nat.le_of_ble_eq_true rfl)⟩ (Nat.le_of_ble_eq_true rfl) ?_
            refine zcv_X10_236 rfl dX10_findSteps_215 rfl mo_recv (r_goesStepA g h m S1 P.length (by omega) hs.1 _ _ _ _ B.2 j) rfl rfl ⟨(Nat.le_of_ble_eq_true rfl), (Nat.le_of_ble_eq_true rfl)⟩ ⟨(Nat.le_of_ble_eq_true rfl), (Nat.le_of_ble_eq_true rfl)⟩ (Nat.le_of_ble_eq_true rfl) ?_
            refine z_iinc (v := nI (j + 1)) dX10_findSteps_218 rfl rfl (nI_inc j) (Nat.le_of_ble_eq_true rfl) ?_
            refine z_goto (tgt := 9) dX10_findSteps_221 rfl (by decide) ?_
            refine z_lv [(1, .int (nI i)), (2, .int (nI (j + 1))), (0, .ref m)] ⟨rfl, rfl, rfl, trivial⟩ ?_
            exact ih (mStep S1 P.length (st2 q B.2 j)) i (j + 1) (P ++ [st2 q B.2 j]) (by omega) (by omega) (by omega) (by rw [List.length_append, List.length_singleton]; omega) (frS_t hf (mStep_fr S1 P.length _)) (mStep_is hs _) (by rw [List.append_assoc, List.singleton_append, ← he, ss_ll hi hj, if_neg cb, if_neg ca])
          · skip
            have ca := (nI_eq (by omega) (by omega)).mp c165
            first | refine z_aload_n dX10_findSteps_168 rfl rfl ?_ | refine z_aload_nN dX10_findSteps_168 rfl rfl ?_
            refine z_iconst (v := 1) dX10_findSteps_169 rfl (by decide) ?_
            refine z_iload_n dX10_findSteps_170 rfl rfl ?_
            refine z_bipush (v := -4) dX10_findSteps_171 rfl (by decide) ?_
            first | refine z_aload_n dX10_findSteps_173 rfl rfl ?_ | refine z_aload_nN dX10_findSteps_173 rfl rfl ?_
            refine z_bipush (v := 24) dX10_findSteps_174 rfl (by decide) ?_
            refine z_iload_n dX10_findSteps_176 rfl rfl ?_
            refine zcx_X10_220 rfl dX10_findSteps_177 rfl mo_recv (q_aloneCosts g h m S1 24 i A hA' (by decide) hi q hq' hqo) rfl rfl ⟨(Nat.le_of_ble_eq_true rfl), (Nat.le_of_ble_eq_true rfl)⟩ ⟨(Nat.le_of_ble_eq_true rfl), (Nat.le_of_ble_eq_true rfl)⟩ (Nat.le_of_ble_eq_true rfl) ?_
            first | refine z_aload_n dX10_findSteps_180 rfl rfl ?_ | refine z_aload_nN dX10_findSteps_180 rfl rfl ?_
            refine z_bipush (v := 24) dX10_findSteps_181 rfl (by decide) ?_
            refine z_iload_n dX10_findSteps_183 rfl rfl ?_
            refine zcx_X10_216 rfl dX10_findSteps_184 rfl mo_recv (q_isTwice g h m S1 24 i A hA' (by decide) hi) rfl rfl ⟨(Nat.le_of_ble_eq_true rfl), (Nat.le_of_ble_eq_true rfl)⟩ ⟨(Nat.le_of_ble_eq_true rfl), (Nat.le_of_ble_eq_true rfl)⟩ (Nat.le_of_ble_eq_true rfl) ?_
            refine zcv_X10_236 rfl dX10_findSteps_187 rfl mo_recv (r_goesStepA g h m S1 P.length (by omega) hs.1 _ _ _ _ A.2 i) rfl rfl ⟨(Nat.le_of_ble_eq_true rfl), (Nat.le_of_ble_eq_true rfl)⟩ ⟨(Nat.le_of_ble_eq_true rfl), (Nat.le_of_ble_eq_true rfl)⟩ (Nat.le_of_ble_eq_true rfl) ?_
            refine z_iinc (v := nI (i + 1)) dX10_findSteps_190 rfl rfl (nI_inc i) (Nat.le_of_ble_eq_true rfl) ?_
            refine z_goto (tgt := 221) dX10_findSteps_193 rfl (by decide) ?_
            refine z_goto (tgt := 9) dX10_findSteps_221 rfl (by decide) ?_
            refine z_lv [(1, .int (nI (i + 1))), (2, .int (nI j)), (0, .ref m)] ⟨rfl, rfl, rfl, trivial⟩ ?_
            exact ih (mStep S1 P.length (st1 q A.2 i)) (i + 1) j (P ++ [st1 q A.2 i]) (by omega) (by omega) (by omega) (by rw [List.length_append, List.length_singleton]; omega) (frS_t hf (mStep_fr S1 P.length _)) (mStep_is hs _) (by rw [List.append_assoc, List.singleton_append, ← he, ss_ll hi hj, if_neg cb, if_pos ca])
        · skip
          have cb := (nI_eq (by omega) (by omega)).mp c109
          first | refine z_aload_n dX10_findSteps_112 rfl rfl ?_ | refine z_aload_nN dX10_findSteps_112 rfl rfl ?_
          refine z_iconst (v := 0) dX10_findSteps_113 rfl (by decide) ?_
          refine z_iload_n dX10_findSteps_114 rfl rfl ?_
          refine z_iload_n dX10_findSteps_115 rfl rfl ?_
          refine z_iload dX10_findSteps_116 rfl rfl ?_
          refine z_iconst (v := 0) dX10_findSteps_118 rfl (by decide) ?_
          refine zcv_X10_236 rfl dX10_findSteps_119 rfl mo_recv (r_goesStep0 g h m S1 P.length (by omega) hs.1 _ _ (sLike (A.2.getD i z0) (B.2.getD j z0) (q 0)) _ (sLike_n4 _ _ _)) rfl rfl ⟨(Nat.le_of_ble_eq_true rfl), (Nat.le_of_ble_eq_true rfl)⟩ ⟨(Nat.le_of_ble_eq_true rfl), (Nat.le_of_ble_eq_true rfl)⟩ (Nat.le_of_ble_eq_true rfl) ?_
          refine z_iinc (v := nI (i + 1)) dX10_findSteps_122 rfl rfl (nI_inc i) (Nat.le_of_ble_eq_true rfl) ?_
          refine z_iinc (v := nI (j + 1)) dX10_findSteps_125 rfl rfl (nI_inc j) (Nat.le_of_ble_eq_true rfl) ?_
          refine z_goto (tgt := 221) dX10_findSteps_128 rfl (by decide) ?_
          refine z_goto (tgt := 9) dX10_findSteps_221 rfl (by decide) ?_
          refine z_lv [(1, .int (nI (i + 1))), (2, .int (nI (j + 1))), (0, .ref m)] ⟨rfl, rfl, rfl, trivial⟩ ?_
          exact ih (mStep S1 P.length (st0 q A.2 B.2 i j)) (i + 1) (j + 1) (P ++ [st0 q A.2 B.2 i j]) (by omega) (by omega) (by omega) (by rw [List.length_append, List.length_singleton]; omega) (frS_t hf (mStep_fr S1 P.length _)) (mStep_is hs _) (by rw [List.append_assoc, List.singleton_append, ← he, ss_ll hi hj, if_pos cb])
      · skip
        refine z_iload_n dX10_findSteps_9 rfl rfl ?_
        first | refine z_aload_n dX10_findSteps_10 rfl rfl ?_ | refine z_aload_nN dX10_findSteps_10 rfl rfl ?_
        refine zmg_24 rfl dX10_findSteps_11 rfl ?_
        refine z_bipush (v := 24) dX10_findSteps_14 rfl (by decide) ?_
        refine zm_iald dX10_findSteps_16 rfl rfl (vp_in_nI (n := 24) (by decide) (by decide)) ?_
        rw [sa]
        refine z_icmp_lt (tgt := 31) dX10_findSteps_17 rfl (by decide) (fun c17 => ?_) (fun c17 => absurd c17 (fun z => z (nI_lt (by omega) (by omega))))
        first | refine z_aload_n dX10_findSteps_31 rfl rfl ?_ | refine z_aload_nN dX10_findSteps_31 rfl rfl ?_
        refine zmg_33 rfl dX10_findSteps_32 rfl ?_
        refine z_bipush (v := 21) dX10_findSteps_35 rfl (by decide) ?_
        refine z_iload_n dX10_findSteps_37 rfl rfl ?_
        refine z_imul dX10_findSteps_38 rfl ?_
        refine z_iload_n dX10_findSteps_39 rfl rfl ?_
        refine z_iadd dX10_findSteps_40 rfl ?_
        rw [n21]
        refine zm_iald dX10_findSteps_41 rfl rfl (vp_in_nI (by omega) (by decide)) ?_
        rw [tb i j (by omega) (by omega)]
        refine z_istore_n dX10_findSteps_42 rfl (Nat.le_of_ble_eq_true rfl) ?_
        refine z_iload_n dX10_findSteps_43 rfl rfl ?_
        first | refine z_aload_n dX10_findSteps_44 rfl rfl ?_ | refine z_aload_nN dX10_findSteps_44 rfl rfl ?_
        refine zmg_24 rfl dX10_findSteps_45 rfl ?_
        refine z_bipush (v := 24) dX10_findSteps_48 rfl (by decide) ?_
        refine zm_iald dX10_findSteps_50 rfl rfl (vp_in_nI (n := 24) (by decide) (by decide)) ?_
        rw [sa]
        refine z_icmp_ge (tgt := 82) dX10_findSteps_51 rfl (by decide) (fun c51 => absurd c51 (nI_ge (by omega) (by omega))) (fun c51 => ?_)
        refine z_iload_n dX10_findSteps_54 rfl rfl ?_
        first | refine z_aload_n dX10_findSteps_55 rfl rfl ?_ | refine z_aload_nN dX10_findSteps_55 rfl rfl ?_
        refine zmg_24 rfl dX10_findSteps_56 rfl ?_
        refine z_bipush (v := 25) dX10_findSteps_59 rfl (by decide) ?_
        refine zm_iald dX10_findSteps_61 rfl rfl (vp_in_nI (n := 25) (by decide) (by decide)) ?_
        rw [sb]
        refine z_icmp_ge (tgt := 82) dX10_findSteps_62 rfl (by decide) (fun c62 => ?_) (fun c62 => absurd c62 (fun z => z (nI_le (by omega) (by omega))))
        refine z_bipush (v := -4) dX10_findSteps_82 rfl (by decide) ?_
        refine z_istore dX10_findSteps_84 rfl (Nat.le_of_ble_eq_true rfl) ?_
        refine z_iload dX10_findSteps_86 rfl rfl ?_
        refine z_if_lt (tgt := 131) dX10_findSteps_88 rfl (by decide) (fun c88 => ?_) (fun c88 => absurd c88 (fun z => z (by decide)))
        refine z_iload_n dX10_findSteps_131 rfl rfl ?_
        first | refine z_aload_n dX10_findSteps_132 rfl rfl ?_ | refine z_aload_nN dX10_findSteps_132 rfl rfl ?_
        refine zmg_24 rfl dX10_findSteps_133 rfl ?_
        refine z_bipush (v := 24) dX10_findSteps_136 rfl (by decide) ?_
        refine zm_iald dX10_findSteps_138 rfl rfl (vp_in_nI (n := 24) (by decide) (by decide)) ?_
        rw [sa]
        refine z_icmp_ge (tgt := 196) dX10_findSteps_139 rfl (by decide) (fun c139 => absurd c139 (nI_ge (by omega) (by omega))) (fun c139 => ?_)
        first | refine z_aload_n dX10_findSteps_142 rfl rfl ?_ | refine z_aload_nN dX10_findSteps_142 rfl rfl ?_
        refine z_bipush (v := 24) dX10_findSteps_143 rfl (by decide) ?_
        refine z_iload_n dX10_findSteps_145 rfl rfl ?_
        refine zcx_X10_220 rfl dX10_findSteps_146 rfl mo_recv (q_aloneCosts g h m S1 24 i A hA' (by decide) hi q hq' hqo) rfl rfl ⟨(Nat.le_of_ble_eq_true rfl), (Nat.le_of_ble_eq_true rfl)⟩ ⟨(Nat.le_of_ble_eq_true rfl), (Nat.le_of_ble_eq_true rfl)⟩ (Nat.le_of_ble_eq_true rfl) ?_
        first | refine z_aload_n dX10_findSteps_149 rfl rfl ?_ | refine z_aload_nN dX10_findSteps_149 rfl rfl ?_
        refine zmg_33 rfl dX10_findSteps_150 rfl ?_
        refine z_bipush (v := 21) dX10_findSteps_153 rfl (by decide) ?_
        refine z_iload_n dX10_findSteps_155 rfl rfl ?_
        refine z_imul dX10_findSteps_156 rfl ?_
        refine z_bipush (v := 21) dX10_findSteps_157 rfl (by decide) ?_
        refine z_iadd dX10_findSteps_159 rfl ?_
        refine z_iload_n dX10_findSteps_160 rfl rfl ?_
        refine z_iadd dX10_findSteps_161 rfl ?_
        rw [n21b]
        refine zm_iald dX10_findSteps_162 rfl rfl (vp_in_nI (by omega) (by decide)) ?_
        rw [tb (i + 1) j (by omega) (by omega)]
        refine z_iadd dX10_findSteps_163 rfl ?_
        rw [nI_add]
        refine z_iload_n dX10_findSteps_164 rfl rfl ?_
        refine z_icmp_ne (tgt := 196) dX10_findSteps_165 rfl (by decide) (fun c165 => absurd c165 (fun z => z (by rw [dC_l0 hi hj]))) (fun c165 => ?_)
        first | refine z_aload_n dX10_findSteps_168 rfl rfl ?_ | refine z_aload_nN dX10_findSteps_168 rfl rfl ?_
        refine z_iconst (v := 1) dX10_findSteps_169 rfl (by decide) ?_
        refine z_iload_n dX10_findSteps_170 rfl rfl ?_
        refine z_bipush (v := -4) dX10_findSteps_171 rfl (by decide) ?_
        first | refine z_aload_n dX10_findSteps_173 rfl rfl ?_ | refine z_aload_nN dX10_findSteps_173 rfl rfl ?_
        refine z_bipush (v := 24) dX10_findSteps_174 rfl (by decide) ?_
        refine z_iload_n dX10_findSteps_176 rfl rfl ?_
        refine zcx_X10_220 rfl dX10_findSteps_177 rfl mo_recv (q_aloneCosts g h m S1 24 i A hA' (by decide) hi q hq' hqo) rfl rfl ⟨(Nat.le_of_ble_eq_true rfl), (Nat.le_of_ble_eq_true rfl)⟩ ⟨(Nat.le_of_ble_eq_true rfl), (Nat.le_of_ble_eq_true rfl)⟩ (Nat.le_of_ble_eq_true rfl) ?_
        first | refine z_aload_n dX10_findSteps_180 rfl rfl ?_ | refine z_aload_nN dX10_findSteps_180 rfl rfl ?_
        refine z_bipush (v := 24) dX10_findSteps_181 rfl (by decide) ?_
        refine z_iload_n dX10_findSteps_183 rfl rfl ?_
        refine zcx_X10_216 rfl dX10_findSteps_184 rfl mo_recv (q_isTwice g h m S1 24 i A hA' (by decide) hi) rfl rfl ⟨(Nat.le_of_ble_eq_true rfl), (Nat.le_of_ble_eq_true rfl)⟩ ⟨(Nat.le_of_ble_eq_true rfl), (Nat.le_of_ble_eq_true rfl)⟩ (Nat.le_of_ble_eq_true rfl) ?_
        refine zcv_X10_236 rfl dX10_findSteps_187 rfl mo_recv (r_goesStepA g h m S1 P.length (by omega) hs.1 _ _ _ _ A.2 i) rfl rfl ⟨(Nat.le_of_ble_eq_true rfl), (Nat.le_of_ble_eq_true rfl)⟩ ⟨(Nat.le_of_ble_eq_true rfl), (Nat.le_of_ble_eq_true rfl)⟩ (Nat.le_of_ble_eq_true rfl) ?_
        refine z_iinc (v := nI (i + 1)) dX10_findSteps_190 rfl rfl (nI_inc i) (Nat.le_of_ble_eq_true rfl) ?_
        refine z_goto (tgt := 221) dX10_findSteps_193 rfl (by decide) ?_
        refine z_goto (tgt := 9) dX10_findSteps_221 rfl (by decide) ?_
        refine z_lv [(1, .int (nI (i + 1))), (2, .int (nI j)), (0, .ref m)] ⟨rfl, rfl, rfl, trivial⟩ ?_
        exact ih (mStep S1 P.length (st1 q A.2 i)) (i + 1) j (P ++ [st1 q A.2 i]) (by omega) (by omega) (by omega) (by rw [List.length_append, List.length_singleton]; omega) (frS_t hf (mStep_fr S1 P.length _)) (mStep_is hs _) (by rw [List.append_assoc, List.singleton_append, ← he, ss_l0 hi hj])
    · rcases Nat.lt_or_eq_of_le hj0 with hj | hj
      · skip
        refine z_iload_n dX10_findSteps_9 rfl rfl ?_
        first | refine z_aload_n dX10_findSteps_10 rfl rfl ?_ | refine z_aload_nN dX10_findSteps_10 rfl rfl ?_
        refine zmg_24 rfl dX10_findSteps_11 rfl ?_
        refine z_bipush (v := 24) dX10_findSteps_14 rfl (by decide) ?_
        refine zm_iald dX10_findSteps_16 rfl rfl (vp_in_nI (n := 24) (by decide) (by decide)) ?_
        rw [sa]
        refine z_icmp_lt (tgt := 31) dX10_findSteps_17 rfl (by decide) (fun c17 => absurd c17 (nI_nlt (by omega) (by omega))) (fun c17 => ?_)
        refine z_iload_n dX10_findSteps_20 rfl rfl ?_
        first | refine z_aload_n dX10_findSteps_21 rfl rfl ?_ | refine z_aload_nN dX10_findSteps_21 rfl rfl ?_
        refine zmg_24 rfl dX10_findSteps_22 rfl ?_
        refine z_bipush (v := 25) dX10_findSteps_25 rfl (by decide) ?_
        refine zm_iald dX10_findSteps_27 rfl rfl (vp_in_nI (n := 25) (by decide) (by decide)) ?_
        rw [sb]
        refine z_icmp_ge (tgt := 224) dX10_findSteps_28 rfl (by decide) (fun c28 => absurd c28 (nI_ge (by omega) (by omega))) (fun c28 => ?_)
        first | refine z_aload_n dX10_findSteps_31 rfl rfl ?_ | refine z_aload_nN dX10_findSteps_31 rfl rfl ?_
        refine zmg_33 rfl dX10_findSteps_32 rfl ?_
        refine z_bipush (v := 21) dX10_findSteps_35 rfl (by decide) ?_
        refine z_iload_n dX10_findSteps_37 rfl rfl ?_
        refine z_imul dX10_findSteps_38 rfl ?_
        refine z_iload_n dX10_findSteps_39 rfl rfl ?_
        refine z_iadd dX10_findSteps_40 rfl ?_
        rw [n21]
        refine zm_iald dX10_findSteps_41 rfl rfl (vp_in_nI (by omega) (by decide)) ?_
        rw [tb i j (by omega) (by omega)]
        refine z_istore_n dX10_findSteps_42 rfl (Nat.le_of_ble_eq_true rfl) ?_
        refine z_iload_n dX10_findSteps_43 rfl rfl ?_
        first | refine z_aload_n dX10_findSteps_44 rfl rfl ?_ | refine z_aload_nN dX10_findSteps_44 rfl rfl ?_
        refine zmg_24 rfl dX10_findSteps_45 rfl ?_
        refine z_bipush (v := 24) dX10_findSteps_48 rfl (by decide) ?_
        refine zm_iald dX10_findSteps_50 rfl rfl (vp_in_nI (n := 24) (by decide) (by decide)) ?_
        rw [sa]
        refine z_icmp_ge (tgt := 82) dX10_findSteps_51 rfl (by decide) (fun c51 => ?_) (fun c51 => absurd c51 (fun z => z (nI_le (by omega) (by omega))))
        refine z_bipush (v := -4) dX10_findSteps_82 rfl (by decide) ?_
        refine z_istore dX10_findSteps_84 rfl (Nat.le_of_ble_eq_true rfl) ?_
        refine z_iload dX10_findSteps_86 rfl rfl ?_
        refine z_if_lt (tgt := 131) dX10_findSteps_88 rfl (by decide) (fun c88 => ?_) (fun c88 => absurd c88 (fun z => z (by decide)))
        refine z_iload_n dX10_findSteps_131 rfl rfl ?_
        first | refine z_aload_n dX10_findSteps_132 rfl rfl ?_ | refine z_aload_nN dX10_findSteps_132 rfl rfl ?_
        refine zmg_24 rfl dX10_findSteps_133 rfl ?_
        refine z_bipush (v := 24) dX10_findSteps_136 rfl (by decide) ?_
        refine zm_iald dX10_findSteps_138 rfl rfl (vp_in_nI (n := 24) (by decide) (by decide)) ?_
        rw [sa]
        refine z_icmp_ge (tgt := 196) dX10_findSteps_139 rfl (by decide) (fun c139 => ?_) (fun c139 => absurd c139 (fun z => z (nI_le (by omega) (by omega))))
        first | refine z_aload_n dX10_findSteps_196 rfl rfl ?_ | refine z_aload_nN dX10_findSteps_196 rfl rfl ?_
        refine z_iconst (v := 2) dX10_findSteps_197 rfl (by decide) ?_
        refine z_bipush (v := -4) dX10_findSteps_198 rfl (by decide) ?_
        refine z_iload_n dX10_findSteps_200 rfl rfl ?_
        first | refine z_aload_n dX10_findSteps_201 rfl rfl ?_ | refine z_aload_nN dX10_findSteps_201 rfl rfl ?_
        refine z_bipush (v := 25) dX10_findSteps_202 rfl (by decide) ?_
        refine z_iload_n dX10_findSteps_204 rfl rfl ?_
        refine zcx_X10_220 rfl dX10_findSteps_205 rfl mo_recv (q_aloneCosts g h m S1 25 j B hB' (by decide) hj q hq' hqo) rfl rfl ⟨(Nat.le_of_ble_eq_true rfl), (Nat.le_of_ble_eq_true rfl)⟩ ⟨(Nat.le_of_ble_eq_true rfl), (Nat.le_of_ble_eq_true rfl)⟩ (Nat.le_of_ble_eq_true rfl) ?_
        first | refine z_aload_n dX10_findSteps_208 rfl rfl ?_ | refine z_aload_nN dX10_findSteps_208 rfl rfl ?_
        refine z_bipush (v := 25) dX10_findSteps_209 rfl (by decide) ?_
        refine z_iload_n dX10_findSteps_211 rfl rfl ?_
        refine zcx_X10_216 rfl dX10_findSteps_212 rfl mo_recv (q_isTwice g h m S1 25 j B hB' (by decide) hj) rfl rfl ⟨(Nat.le_of_ble_eq_true rfl), (Nat.le_of_ble_eq_true rfl)⟩ ⟨(Nat.le_of_ble_eq_true rfl), (Nat.le_of_ble_eq_true rfl)⟩ (Nat.le_of_ble_eq_true rfl) ?_
        refine zcv_X10_236 rfl dX10_findSteps_215 rfl mo_recv (r_goesStepA g h m S1 P.length (by omega) hs.1 _ _ _ _ B.2 j) rfl rfl ⟨(Nat.le_of_ble_eq_true rfl), (Nat.le_of_ble_eq_true rfl)⟩ ⟨(Nat.le_of_ble_eq_true rfl), (Nat.le_of_ble_eq_true rfl)⟩ (Nat.le_of_ble_eq_true rfl) ?_
        refine z_iinc (v := nI (j + 1)) dX10_findSteps_218 rfl rfl (nI_inc j) (Nat.le_of_ble_eq_true rfl) ?_
        refine z_goto (tgt := 9) dX10_findSteps_221 rfl (by decide) ?_
        refine z_lv [(1, .int (nI i)), (2, .int (nI (j + 1))), (0, .ref m)] ⟨rfl, rfl, rfl, trivial⟩ ?_
        exact ih (mStep S1 P.length (st2 q B.2 j)) i (j + 1) (P ++ [st2 q B.2 j]) (by omega) (by omega) (by omega) (by rw [List.length_append, List.length_singleton]; omega) (frS_t hf (mStep_fr S1 P.length _)) (mStep_is hs _) (by rw [List.append_assoc, List.singleton_append, ← he, ss_0l hi hj])
      · exact q_find_E g h m S A B hA hB q hq hqo hT T S1 i j P hi hj hf hs he
