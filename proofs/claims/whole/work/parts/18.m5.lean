/-- n cells laid one behind another -/
def mPut (S : sMS) (b : Nat) (c : Nat → sC) : Nat → sMS
  | 0 => S
  | n + 1 => mLay (mPut S b c n) (b + n) (c n)
theorem mPut_1 (S : sMS) (b : Nat) (c : Nat → sC) {j : Nat} (hj : j ≠ 1) : ∀ n, (mPut S b c n).1 j = S.1 j
  | 0 => rfl
  | n + 1 => by rw [mPut, mLay_1 _ _ _ hj, mPut_1 S b c hj n]
theorem mPut_s (S : sMS) (b : Nat) (c : Nat → sC) : ∀ n, (mPut S b c n).2.2.2 = S.2.2.2
  | 0 => rfl
  | n + 1 => by rw [mPut, mLay_s, mPut_s S b c n]
theorem mc_put (S : sMS) (b : Nat) (c : Nat → sC) (j : Nat) : ∀ n, mc (mPut S b c n) j = if b ≤ j ∧ j < b + n then c (j - b) else mc S j
  | 0 => by rw [mPut, if_neg (by omega)]
  | n + 1 => by
    rw [mPut, mc_lay, mc_put S b c j n]
    by_cases e : j = b + n
    · subst e
      rw [if_pos rfl, if_pos (by omega), Nat.add_sub_cancel_left]
    · rw [if_neg e]
      by_cases q : b ≤ j ∧ j < b + n
      · rw [if_pos q, if_pos (by omega)]
      · rw [if_neg q, if_neg (by omega)]
theorem mc_take (S : sMS) (r : Int32) (k : Nat) (kind size : Int32) (j : Nat) : mc (mTake S r k kind size) j = mc S j := by simp [mc, mTake, va_up]
theorem mTake_6 (S : sMS) (r : Int32) (k : Nat) (kind size : Int32) : (mTake S r k kind size).1 6 = upd (S.1 6) r.toNatClampNeg (nI k) := by simp [mTake, va_up]
theorem mTake_4 (S : sMS) (r : Int32) (k : Nat) (kind size : Int32) : (mTake S r k kind size).1 4 = upd (S.1 4) k kind := by simp [mTake, va_up]
theorem mTake_5 (S : sMS) (r : Int32) (k : Nat) (kind size : Int32) : (mTake S r k kind size).1 5 = upd (S.1 5) k size := by simp [mTake, va_up]
theorem mTake_o (S : sMS) (r : Int32) (k : Nat) (kind size : Int32) {j : Nat} (h4 : j ≠ 4) (h5 : j ≠ 5) (h6 : j ≠ 6) : (mTake S r k kind size).1 j = S.1 j := by simp [mTake, va_up, h4, h5, h6]
theorem n520 (i : Nat) : (520 : Int32) + nI i = nI (520 + i) := nI_add 520 i
theorem n20 (k i : Nat) : (20 : Int32) * nI k + nI i = nI (20 * k + i) := by
  have : (20 : Int32) * nI k = nI (20 * k) := pk_mul 20 k
  rw [this, nI_add]
theorem upd_same {f : Nat → Int32} {k : Nat} {x : Int32} : upd f k x k = x := by simp [upd]

abbrev YX10_takesMade : zY := (yX10_takesMade.cls, cX10_takesMade, 5, none, rmX10_takesMade, yX10_takesMade.name, fun _ _ => True)
set_option maxHeartbeats 4000000 in
set_option maxRecDepth 100000 in
theorem r_takesMade_L (g : zG) (h : zH) (m : Nat) (S : sMS) (r kind : Int32) (n k : Nat) (hn : n ≤ 20) (hr : vp_in r 8) (hk : k < 8) (hfr : mFresh S r k) : ∀ (nn i : Nat), i + nn = n → zZ g YX10_takesMade (zE g (fun v h1 => v = none ∧ ∃ k, k < 8 ∧ mFresh S r k ∧ h1 = mUp m (mPut (mTake S r k kind (nI n)) (20 * k) (fun i => sConv (mc S (520 + i)) kind) n) h) 0 0) 10 [(4, .int (nI i)), (0, .ref m), (1, .int r), (2, .int kind), (3, .int (nI n))] [] (mUp m (mPut (mTake S r k kind (nI n)) (20 * k) (fun i => sConv (mc S (520 + i)) kind) i) h) 0 0 := by
  intro nn
  induction nn with
  | zero =>
    intro i hi
    refine z_iload dX10_takesMade_10 rfl rfl ?_
    refine z_iload_n dX10_takesMade_12 rfl rfl ?_
    refine z_icmp_ge (tgt := 40) dX10_takesMade_13 rfl (by decide) (fun c13 => ?_) (fun c13 => absurd c13 (fun q => q (nI_le (by omega) (by omega))))
    exact z_vret dX10_takesMade_40 rfl rfl ⟨rfl, k, hk, hfr, by rw [show i = n by omega]⟩ (Nat.le_of_ble_eq_true rfl) (Nat.le_of_ble_eq_true rfl)
  | succ nn ih =>
    intro i hi
    refine z_iload dX10_takesMade_10 rfl rfl ?_
    refine z_iload_n dX10_takesMade_12 rfl rfl ?_
    refine z_icmp_ge (tgt := 40) dX10_takesMade_13 rfl (by decide) (fun c13 => absurd c13 (nI_ge (by omega) (by omega))) (fun c13 => ?_)
    first | refine z_aload_n dX10_takesMade_16 rfl rfl ?_ | refine z_aload_nN dX10_takesMade_16 rfl rfl ?_
    refine z_sipush (v := 520) dX10_takesMade_17 rfl (by decide) ?_
    refine z_iload dX10_takesMade_20 rfl rfl ?_
    refine z_iadd dX10_takesMade_22 rfl ?_
    rw [n520]
    refine z_iload_n dX10_takesMade_23 rfl rfl ?_
    first | refine z_aload_n dX10_takesMade_24 rfl rfl ?_ | refine z_aload_nN dX10_takesMade_24 rfl rfl ?_
    refine z_iload_n dX10_takesMade_25 rfl rfl ?_
    refine z_iload dX10_takesMade_26 rfl rfl ?_
    refine zcx_X10_135 rfl dX10_takesMade_28 rfl mo_recv (r_cellAt g h m _ _ _ hr) rfl rfl ⟨(Nat.le_of_ble_eq_true rfl), (Nat.le_of_ble_eq_true rfl)⟩ ⟨(Nat.le_of_ble_eq_true rfl), (Nat.le_of_ble_eq_true rfl)⟩ (Nat.le_of_ble_eq_true rfl) ?_
    rw [mPut_1 _ _ _ (by decide), mTake_6, upd_same, n20]
    refine zcv_X10_138 rfl dX10_takesMade_31 rfl mo_recv (r_widens g h m _ _ _ _ (vp_in_nI (show 520 + i < 880 by omega) (by decide)) (vp_in_nI (show 20 * k + i < 880 by omega) (by decide))) rfl rfl ⟨(Nat.le_of_ble_eq_true rfl), (Nat.le_of_ble_eq_true rfl)⟩ ⟨(Nat.le_of_ble_eq_true rfl), (Nat.le_of_ble_eq_true rfl)⟩ (Nat.le_of_ble_eq_true rfl) ?_
    rw [nI_clamp (show 520 + i < 2 ^ 31 by omega), nI_clamp (show 20 * k + i < 2 ^ 31 by omega), mc_put, if_neg (by omega), mc_take]
    refine z_iinc (v := nI (i + 1)) dX10_takesMade_34 rfl rfl (nI_inc i) (Nat.le_of_ble_eq_true rfl) ?_
    refine z_goto (tgt := 10) dX10_takesMade_37 rfl (by decide) ?_
    refine z_lv [(4, .int (nI (i + 1))), (0, .ref m), (1, .int r), (2, .int kind), (3, .int (nI n))] ⟨rfl, rfl, rfl, rfl, rfl, trivial⟩ ?_
    exact ih (i + 1) (by omega)
set_option maxHeartbeats 4000000 in
set_option maxRecDepth 100000 in
theorem r_takesMade (g : zG) (h : zH) (m : Nat) (S : sMS) (r kind : Int32) (n : Nat) (hn : n ≤ 20) (hr : vp_in r 8) : zM g yX10_takesMade cX10_takesMade 5 none rmX10_takesMade [.ref m, .int r, .int kind, .int (nI n)] (mUp m S h) (fun v h1 => v = none ∧ ∃ k, k < 8 ∧ mFresh S r k ∧ h1 = mUp m (mPut (mTake S r k kind (nI n)) (20 * k) (fun i => sConv (mc S (520 + i)) kind) n) h) := by
  refine zM_of (by decide) (Nat.le_of_ble_eq_true rfl) ?_
  first | refine z_aload_n dX10_takesMade_0 rfl rfl ?_ | refine z_aload_nN dX10_takesMade_0 rfl rfl ?_
  refine z_iload_n dX10_takesMade_1 rfl rfl ?_
  refine z_iload_n dX10_takesMade_2 rfl rfl ?_
  refine z_iload_n dX10_takesMade_3 rfl rfl ?_
  refine zc_X10_131 rfl dX10_takesMade_4 rfl mo_recv (r_takesRow g h m S r kind (nI n) hr) rfl rfl ⟨(Nat.le_of_ble_eq_true rfl), (Nat.le_of_ble_eq_true rfl)⟩ ⟨(Nat.le_of_ble_eq_true rfl), (Nat.le_of_ble_eq_true rfl)⟩ (Nat.le_of_ble_eq_true rfl) (fun v h1 hq => ?_)
  obtain ⟨rfl, k, hk, hfr, rfl⟩ := hq
  refine z_iconst (v := 0) dX10_takesMade_7 rfl (by decide) ?_
  refine z_istore dX10_takesMade_8 rfl (Nat.le_of_ble_eq_true rfl) ?_
  refine z_lv [(4, .int (nI 0)), (0, .ref m), (1, .int r), (2, .int kind), (3, .int (nI n))] ⟨rfl, rfl, rfl, rfl, rfl, trivial⟩ ?_
  exact r_takesMade_L g h m S r kind n k hn hr hk hfr n 0 (by omega)

