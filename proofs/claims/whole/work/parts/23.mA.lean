theorem le0 {x : Int32} (h : x ≤ 0) : ¬ 0 < x := by grind
theorem r_in32 (g : zG) (h : zH) (s a b : Int32) {x y : Int64} (ha : a.toInt64 = x) (hb : b.toInt64 = y) : zX g yX10_in cX10_in 6 (some .boolean) rmX10_in [.long s.toInt64, .long x, .long y] h (.int (if a ≤ s ∧ s ≤ b then 1 else 0)) h := by
  rw [← i64_in s a b ha hb]
  exact r_in g h _ _ _

theorem q_rowFault (g : zG) (h : zH) (m : Nat) (S : sMS) (R : sR) (hR : rRep (S.1 6) (mRowIs S) R) (r : Int32) (hr : isRec r) : zX g yX10_rowFault cX10_rowFault 2 (some .int) rmX10_rowFault [.ref m, .int r] (mUp m S h) (.int (rowF R (ix r))) (mUp m S h) := by
  rw [← rep_rf hR (ix_lt hr)]
  exact r_rowFault g h m S r (rec_in hr)
theorem q_cellFault (g : zG) (h : zH) (m : Nat) (S : sMS) (R : sR) (hR : rRep (S.1 6) (mRowIs S) R) (r : Int32) (i : Int64) (hr : isRec r) : zX g yX10_cellFault cX10_cellFault 5 (some .int) rmX10_cellFault [.ref m, .int r, .long i] (mUp m S h) (.int (cellF R (ix r) i.toInt)) (mUp m S h) := by
  rw [← rep_cf hR (ix_lt hr)]
  exact r_cellFault g h m S r i (rec_in hr) (rep_holds hR)
theorem q_cellFaultI (g : zG) (h : zH) (m : Nat) (S : sMS) (R : sR) (hR : rRep (S.1 6) (mRowIs S) R) (r i : Int32) (hr : isRec r) : zX g yX10_cellFault cX10_cellFault 5 (some .int) rmX10_cellFault [.ref m, .int r, .long i.toInt64] (mUp m S h) (.int (cellF R (ix r) i.toInt)) (mUp m S h) := by
  have := q_cellFault g h m S R hR r i.toInt64 hr
  rwa [Int32.toInt_toInt64] at this

set_option maxHeartbeats 4000000 in
set_option maxRecDepth 100000 in
/-- X10_askFault -/
theorem q_askFault (g : zG) (h : zH) (m : Nat) (S : sMS) (R : sR) (hR : rRep (S.1 6) (mRowIs S) R) (r : Int32) (i : Int64) (k : Int32) (hr : isRec r) : zX g yX10_askFault cX10_askFault 6 (some .int) rmX10_askFault [.ref m, .int r, .long i, .int k] (mUp m S h) (.int (askF R (ix r) i.toInt k)) (mUp m S h) := by
  refine zM_of (by decide) (Nat.le_of_ble_eq_true rfl) ?_
  first | refine z_aload_n dX10_askFault_0 rfl rfl ?_ | refine z_aload_nN dX10_askFault_0 rfl rfl ?_
  refine z_iload_n dX10_askFault_1 rfl rfl ?_
  refine z_lload_n dX10_askFault_2 rfl rfl ?_
  refine zcx_X10_155 rfl dX10_askFault_3 rfl mo_recv (q_cellFault g h m S R hR _ _ hr) rfl rfl ⟨(Nat.le_of_ble_eq_true rfl), (Nat.le_of_ble_eq_true rfl)⟩ ⟨(Nat.le_of_ble_eq_true rfl), (Nat.le_of_ble_eq_true rfl)⟩ (Nat.le_of_ble_eq_true rfl) ?_
  refine z_istore dX10_askFault_6 rfl (Nat.le_of_ble_eq_true rfl) ?_
  refine z_iload dX10_askFault_8 rfl rfl ?_
  refine z_if_le (tgt := 16) dX10_askFault_10 rfl (by decide) (fun c10 => ?_) (fun c10 => ?_)
  · skip
    have c10 := le0 c10
    have hk := rep_kind hR (ix_lt hr) (rf_2 (rep_st hR (ix_lt hr)) (cf_0 c10).1)
    first | refine z_aload_n dX10_askFault_16 rfl rfl ?_ | refine z_aload_nN dX10_askFault_16 rfl rfl ?_
    refine z_iload_n dX10_askFault_17 rfl rfl ?_
    refine zcx_X10_146 rfl dX10_askFault_18 rfl mo_recv (r_kindOf g h m S _ (rec_in hr) hk.2.2.1) rfl rfl ⟨(Nat.le_of_ble_eq_true rfl), (Nat.le_of_ble_eq_true rfl)⟩ ⟨(Nat.le_of_ble_eq_true rfl), (Nat.le_of_ble_eq_true rfl)⟩ (Nat.le_of_ble_eq_true rfl) ?_
    rw [hk.1]
    refine z_bipush (v := 7) dX10_askFault_21 rfl (by decide) ?_
    refine z_icmp_le (tgt := 30) dX10_askFault_23 rfl (by decide) (fun c23 => ?_) (fun c23 => ?_)
    · skip
      first | refine z_aload_n dX10_askFault_30 rfl rfl ?_ | refine z_aload_nN dX10_askFault_30 rfl rfl ?_
      refine z_iload_n dX10_askFault_31 rfl rfl ?_
      refine zcx_X10_146 rfl dX10_askFault_32 rfl mo_recv (r_kindOf g h m S _ (rec_in hr) hk.2.2.1) rfl rfl ⟨(Nat.le_of_ble_eq_true rfl), (Nat.le_of_ble_eq_true rfl)⟩ ⟨(Nat.le_of_ble_eq_true rfl), (Nat.le_of_ble_eq_true rfl)⟩ (Nat.le_of_ble_eq_true rfl) ?_
      rw [hk.1]
      refine z_iload dX10_askFault_35 rfl rfl ?_
      refine zcx_X10_80 rfl dX10_askFault_37 rfl (r_goesInto g _ _ _) rfl rfl ⟨(Nat.le_of_ble_eq_true rfl), (Nat.le_of_ble_eq_true rfl)⟩ ⟨(Nat.le_of_ble_eq_true rfl), (Nat.le_of_ble_eq_true rfl)⟩ (Nat.le_of_ble_eq_true rfl) ?_
      refine z_bif_eq (tgt := 47) dX10_askFault_40 rfl (by decide) (fun c40 => ?_) (fun c40 => ?_)
      · skip
        refine z_iconst (v := 5) dX10_askFault_47 rfl (by decide) ?_
        exact z_iret dX10_askFault_48 rfl rfl ⟨by grind [askF, readF], rfl⟩ (Nat.le_of_ble_eq_true rfl) (Nat.le_of_ble_eq_true rfl)
      · skip
        refine z_iconst (v := 0) dX10_askFault_43 rfl (by decide) ?_
        refine z_goto (tgt := 48) dX10_askFault_44 rfl (by decide) ?_
        exact z_iret dX10_askFault_48 rfl rfl ⟨by grind [askF, readF], rfl⟩ (Nat.le_of_ble_eq_true rfl) (Nat.le_of_ble_eq_true rfl)
    · skip
      refine z_iconst (v := 4) dX10_askFault_26 rfl (by decide) ?_
      refine z_goto (tgt := 48) dX10_askFault_27 rfl (by decide) ?_
      exact z_iret dX10_askFault_48 rfl rfl ⟨by grind [askF, readF], rfl⟩ (Nat.le_of_ble_eq_true rfl) (Nat.le_of_ble_eq_true rfl)
  · skip
    refine z_iload dX10_askFault_13 rfl rfl ?_
    exact z_iret dX10_askFault_15 rfl rfl ⟨by grind [askF, readF], rfl⟩ (Nat.le_of_ble_eq_true rfl) (Nat.le_of_ble_eq_true rfl)

set_option maxHeartbeats 4000000 in
set_option maxRecDepth 100000 in
/-- X10_putFault -/
theorem q_putFault (g : zG) (h : zH) (m : Nat) (S : sMS) (R : sR) (hR : rRep (S.1 6) (mRowIs S) R) (r : Int32) (i : Int64) (k : Int32) (hr : isRec r) : zX g yX10_putFault cX10_putFault 6 (some .int) rmX10_putFault [.ref m, .int r, .long i, .int k] (mUp m S h) (.int (putF R (ix r) i.toInt k)) (mUp m S h) := by
  refine zM_of (by decide) (Nat.le_of_ble_eq_true rfl) ?_
  first | refine z_aload_n dX10_putFault_0 rfl rfl ?_ | refine z_aload_nN dX10_putFault_0 rfl rfl ?_
  refine z_iload_n dX10_putFault_1 rfl rfl ?_
  refine z_lload_n dX10_putFault_2 rfl rfl ?_
  refine zcx_X10_155 rfl dX10_putFault_3 rfl mo_recv (q_cellFault g h m S R hR _ _ hr) rfl rfl ⟨(Nat.le_of_ble_eq_true rfl), (Nat.le_of_ble_eq_true rfl)⟩ ⟨(Nat.le_of_ble_eq_true rfl), (Nat.le_of_ble_eq_true rfl)⟩ (Nat.le_of_ble_eq_true rfl) ?_
  refine z_istore dX10_putFault_6 rfl (Nat.le_of_ble_eq_true rfl) ?_
  refine z_iload dX10_putFault_8 rfl rfl ?_
  refine z_if_le (tgt := 16) dX10_putFault_10 rfl (by decide) (fun c10 => ?_) (fun c10 => ?_)
  · skip
    have c10 := le0 c10
    have hk := rep_kind hR (ix_lt hr) (rf_2 (rep_st hR (ix_lt hr)) (cf_0 c10).1)
    first | refine z_aload_n dX10_putFault_16 rfl rfl ?_ | refine z_aload_nN dX10_putFault_16 rfl rfl ?_
    refine z_iload_n dX10_putFault_17 rfl rfl ?_
    refine zcx_X10_146 rfl dX10_putFault_18 rfl mo_recv (r_kindOf g h m S _ (rec_in hr) hk.2.2.1) rfl rfl ⟨(Nat.le_of_ble_eq_true rfl), (Nat.le_of_ble_eq_true rfl)⟩ ⟨(Nat.le_of_ble_eq_true rfl), (Nat.le_of_ble_eq_true rfl)⟩ (Nat.le_of_ble_eq_true rfl) ?_
    rw [hk.1]
    refine z_bipush (v := 7) dX10_putFault_21 rfl (by decide) ?_
    refine z_icmp_le (tgt := 30) dX10_putFault_23 rfl (by decide) (fun c23 => ?_) (fun c23 => ?_)
    · skip
      refine z_iload dX10_putFault_30 rfl rfl ?_
      first | refine z_aload_n dX10_putFault_32 rfl rfl ?_ | refine z_aload_nN dX10_putFault_32 rfl rfl ?_
      refine z_iload_n dX10_putFault_33 rfl rfl ?_
      refine zcx_X10_146 rfl dX10_putFault_34 rfl mo_recv (r_kindOf g h m S _ (rec_in hr) hk.2.2.1) rfl rfl ⟨(Nat.le_of_ble_eq_true rfl), (Nat.le_of_ble_eq_true rfl)⟩ ⟨(Nat.le_of_ble_eq_true rfl), (Nat.le_of_ble_eq_true rfl)⟩ (Nat.le_of_ble_eq_true rfl) ?_
      rw [hk.1]
      refine zcx_X10_80 rfl dX10_putFault_37 rfl (r_goesInto g _ _ _) rfl rfl ⟨(Nat.le_of_ble_eq_true rfl), (Nat.le_of_ble_eq_true rfl)⟩ ⟨(Nat.le_of_ble_eq_true rfl), (Nat.le_of_ble_eq_true rfl)⟩ (Nat.le_of_ble_eq_true rfl) ?_
      refine z_bif_eq (tgt := 47) dX10_putFault_40 rfl (by decide) (fun c40 => ?_) (fun c40 => ?_)
      · skip
        refine z_iconst (v := 5) dX10_putFault_47 rfl (by decide) ?_
        exact z_iret dX10_putFault_48 rfl rfl ⟨by grind [putF], rfl⟩ (Nat.le_of_ble_eq_true rfl) (Nat.le_of_ble_eq_true rfl)
      · skip
        refine z_iconst (v := 0) dX10_putFault_43 rfl (by decide) ?_
        refine z_goto (tgt := 48) dX10_putFault_44 rfl (by decide) ?_
        exact z_iret dX10_putFault_48 rfl rfl ⟨by grind [putF], rfl⟩ (Nat.le_of_ble_eq_true rfl) (Nat.le_of_ble_eq_true rfl)
    · skip
      refine z_iconst (v := 4) dX10_putFault_26 rfl (by decide) ?_
      refine z_goto (tgt := 48) dX10_putFault_27 rfl (by decide) ?_
      exact z_iret dX10_putFault_48 rfl rfl ⟨by grind [putF], rfl⟩ (Nat.le_of_ble_eq_true rfl) (Nat.le_of_ble_eq_true rfl)
  · skip
    refine z_iload dX10_putFault_13 rfl rfl ?_
    exact z_iret dX10_putFault_15 rfl rfl ⟨by grind [putF], rfl⟩ (Nat.le_of_ble_eq_true rfl) (Nat.le_of_ble_eq_true rfl)

set_option maxHeartbeats 4000000 in
set_option maxRecDepth 100000 in
/-- X10_layFault -/
theorem q_layFault (g : zG) (h : zH) (m : Nat) (S : sMS) (R : sR) (hR : rRep (S.1 6) (mRowIs S) R) (r : Int32) (i : Int64) (k : Int32) (hr : isRec r) : zX g yX10_layFault cX10_layFault 6 (some .int) rmX10_layFault [.ref m, .int r, .long i, .int k] (mUp m S h) (.int (layF R (ix r) i.toInt k)) (mUp m S h) := by
  refine zM_of (by decide) (Nat.le_of_ble_eq_true rfl) ?_
  first | refine z_aload_n dX10_layFault_0 rfl rfl ?_ | refine z_aload_nN dX10_layFault_0 rfl rfl ?_
  refine z_iload_n dX10_layFault_1 rfl rfl ?_
  refine z_lload_n dX10_layFault_2 rfl rfl ?_
  refine zcx_X10_155 rfl dX10_layFault_3 rfl mo_recv (q_cellFault g h m S R hR _ _ hr) rfl rfl ⟨(Nat.le_of_ble_eq_true rfl), (Nat.le_of_ble_eq_true rfl)⟩ ⟨(Nat.le_of_ble_eq_true rfl), (Nat.le_of_ble_eq_true rfl)⟩ (Nat.le_of_ble_eq_true rfl) ?_
  refine z_istore dX10_layFault_6 rfl (Nat.le_of_ble_eq_true rfl) ?_
  refine z_iload dX10_layFault_8 rfl rfl ?_
  refine z_if_le (tgt := 18) dX10_layFault_10 rfl (by decide) (fun c10 => ?_) (fun c10 => ?_)
  · skip
    have c10 := le0 c10
    have hk := rep_kind hR (ix_lt hr) (rf_2 (rep_st hR (ix_lt hr)) (cf_0 c10).1)
    refine z_iload dX10_layFault_18 rfl rfl ?_
    first | refine z_aload_n dX10_layFault_20 rfl rfl ?_ | refine z_aload_nN dX10_layFault_20 rfl rfl ?_
    refine z_iload_n dX10_layFault_21 rfl rfl ?_
    refine zcx_X10_146 rfl dX10_layFault_22 rfl mo_recv (r_kindOf g h m S _ (rec_in hr) hk.2.2.1) rfl rfl ⟨(Nat.le_of_ble_eq_true rfl), (Nat.le_of_ble_eq_true rfl)⟩ ⟨(Nat.le_of_ble_eq_true rfl), (Nat.le_of_ble_eq_true rfl)⟩ (Nat.le_of_ble_eq_true rfl) ?_
    rw [hk.1]
    refine zcx_X10_80 rfl dX10_layFault_25 rfl (r_goesInto g _ _ _) rfl rfl ⟨(Nat.le_of_ble_eq_true rfl), (Nat.le_of_ble_eq_true rfl)⟩ ⟨(Nat.le_of_ble_eq_true rfl), (Nat.le_of_ble_eq_true rfl)⟩ (Nat.le_of_ble_eq_true rfl) ?_
    refine z_bif_eq (tgt := 35) dX10_layFault_28 rfl (by decide) (fun c28 => ?_) (fun c28 => ?_)
    · skip
      refine z_iconst (v := 5) dX10_layFault_35 rfl (by decide) ?_
      exact z_iret dX10_layFault_36 rfl rfl ⟨by grind [layF], rfl⟩ (Nat.le_of_ble_eq_true rfl) (Nat.le_of_ble_eq_true rfl)
    · skip
      refine z_iconst (v := 0) dX10_layFault_31 rfl (by decide) ?_
      refine z_goto (tgt := 36) dX10_layFault_32 rfl (by decide) ?_
      exact z_iret dX10_layFault_36 rfl rfl ⟨by grind [layF], rfl⟩ (Nat.le_of_ble_eq_true rfl) (Nat.le_of_ble_eq_true rfl)
  · skip
    refine z_iload dX10_layFault_13 rfl rfl ?_
    refine z_goto (tgt := 36) dX10_layFault_15 rfl (by decide) ?_
    exact z_iret dX10_layFault_36 rfl rfl ⟨by grind [layF], rfl⟩ (Nat.le_of_ble_eq_true rfl) (Nat.le_of_ble_eq_true rfl)

theorem q_askFaultI (g : zG) (h : zH) (m : Nat) (S : sMS) (R : sR) (hR : rRep (S.1 6) (mRowIs S) R) (r i k : Int32) (hr : isRec r) : zX g yX10_askFault cX10_askFault 6 (some .int) rmX10_askFault [.ref m, .int r, .long i.toInt64, .int k] (mUp m S h) (.int (askF R (ix r) i.toInt k)) (mUp m S h) := by
  have := q_askFault g h m S R hR r i.toInt64 k hr
  rwa [Int32.toInt_toInt64] at this
theorem q_putFaultI (g : zG) (h : zH) (m : Nat) (S : sMS) (R : sR) (hR : rRep (S.1 6) (mRowIs S) R) (r i k : Int32) (hr : isRec r) : zX g yX10_putFault cX10_putFault 6 (some .int) rmX10_putFault [.ref m, .int r, .long i.toInt64, .int k] (mUp m S h) (.int (putF R (ix r) i.toInt k)) (mUp m S h) := by
  have := q_putFault g h m S R hR r i.toInt64 k hr
  rwa [Int32.toInt_toInt64] at this
theorem q_layFaultI (g : zG) (h : zH) (m : Nat) (S : sMS) (R : sR) (hR : rRep (S.1 6) (mRowIs S) R) (r i k : Int32) (hr : isRec r) : zX g yX10_layFault cX10_layFault 6 (some .int) rmX10_layFault [.ref m, .int r, .long i.toInt64, .int k] (mUp m S h) (.int (layF R (ix r) i.toInt k)) (mUp m S h) := by
  have := q_layFault g h m S R hR r i.toInt64 k hr
  rwa [Int32.toInt_toInt64] at this
theorem row_same {S S' : sMS} (h4 : S'.1 4 = S.1 4) (h5 : S'.1 5 = S.1 5) (hm : ∀ a, mc S' a = mc S a) (j : Nat) (A : sA) (h : mRowIs S j A) : mRowIs S' j A := ⟨by rw [h4]; exact h.1, by rw [h5]; exact h.2.1, h.2.2.1, fun i hi => by rw [hm]; exact h.2.2.2 i hi⟩
theorem agree_6 (S : sMS) (f : Nat → Int32) : agree S (va_up S.1 6 f, S.2) := agree_1 (fun j _ _ _ h6 => by simp [va_up, h6]) (fun k _ => by simp [va_up]) (fun a _ => rfl) ⟨rfl, rfl, rfl⟩
theorem RepM_share {S : sMS} {w : sW} {r s : Nat} (hR : RepM S w) (hs : s < 8) : RepM (va_up S.1 6 (upd (S.1 6) r (S.1 6 s)), S.2) (wR w (rShare w.1 r s)) := by
  refine ⟨rep_share hR.1 hs (by simp [va_up]) (row_same (by simp [va_up]) (by simp [va_up]) (fun a => rfl)), ?_, hR.2.2.1, hR.2.2.2⟩
  have := RepX_agree (agree_6 S (upd (S.1 6) r (S.1 6 s))) hR.2.1
  exact this

set_option maxHeartbeats 4000000 in
set_option maxRecDepth 100000 in
theorem R_share (g : zG) (h : zH) (m : Nat) (S : sMS) (w : sW) (hR : RepM S w) (r s : Int32) : zM g yX10_share cX10_share 3 (some .int) rmX10_share [.ref m, .int r, .int s] (mUp m S h) (mPost m h (pShare w r s)) := by
  refine zM_of (by decide) (Nat.le_of_ble_eq_true rfl) ?_
  refine z_iload_n dX10_share_0 rfl rfl ?_
  refine zcx_X10_141 rfl dX10_share_1 rfl (r_isRecord g _ _) rfl rfl ⟨(Nat.le_of_ble_eq_true rfl), (Nat.le_of_ble_eq_true rfl)⟩ ⟨(Nat.le_of_ble_eq_true rfl), (Nat.le_of_ble_eq_true rfl)⟩ (Nat.le_of_ble_eq_true rfl) ?_
  refine z_bif_eq (tgt := 14) dX10_share_4 rfl (by decide) (fun c4 => ?_) (fun c4 => ?_)
  · skip
    refine z_iconst (v := -1) dX10_share_14 rfl (by decide) ?_
    exact z_iret dX10_share_15 rfl rfl (mPost_of hR (by grind [pShare])) (Nat.le_of_ble_eq_true rfl) (Nat.le_of_ble_eq_true rfl)
  · skip
    refine z_iload_n dX10_share_7 rfl rfl ?_
    refine zcx_X10_141 rfl dX10_share_8 rfl (r_isRecord g _ _) rfl rfl ⟨(Nat.le_of_ble_eq_true rfl), (Nat.le_of_ble_eq_true rfl)⟩ ⟨(Nat.le_of_ble_eq_true rfl), (Nat.le_of_ble_eq_true rfl)⟩ (Nat.le_of_ble_eq_true rfl) ?_
    refine z_bif_ne (tgt := 16) dX10_share_11 rfl (by decide) (fun c11 => ?_) (fun c11 => ?_)
    · skip
      first | refine z_aload_n dX10_share_16 rfl rfl ?_ | refine z_aload_nN dX10_share_16 rfl rfl ?_
      refine zmg_27 rfl dX10_share_17 rfl ?_
      refine z_iload_n dX10_share_20 rfl rfl ?_
      first | refine z_aload_n dX10_share_21 rfl rfl ?_ | refine z_aload_nN dX10_share_21 rfl rfl ?_
      refine zmg_27 rfl dX10_share_22 rfl ?_
      refine z_iload_n dX10_share_25 rfl rfl ?_
      refine zm_iald dX10_share_26 rfl rfl (rec_in (by assumption)) ?_
      refine zm_iast dX10_share_27 rfl rfl (rec_in (by assumption)) ?_
      refine z_iconst (v := 1) dX10_share_28 rfl (by decide) ?_
      exact z_iret dX10_share_29 rfl rfl (mPost_of (RepM_share hR (ix_lt c11)) (by grind [pShare])) (Nat.le_of_ble_eq_true rfl) (Nat.le_of_ble_eq_true rfl)
    · skip
      refine z_iconst (v := -1) dX10_share_14 rfl (by decide) ?_
      exact z_iret dX10_share_15 rfl rfl (mPost_of hR (by grind [pShare])) (Nat.le_of_ble_eq_true rfl) (Nat.le_of_ble_eq_true rfl)

theorem rep_least {S : sMS} {R : sR} (h : rRep (S.1 6) (mRowIs S) R) {r i : Nat} (hr : r < 8) (hi : i < 8) (h2 : R.1 r = 2) : (R.1 i = 2 ∧ R.2.2 i r = true) ↔ S.1 6 i = S.1 6 r := by
  constructor
  · rintro ⟨a, b⟩
    exact (h.2 i r hi hr a h2).mp b
  · intro e
    obtain ⟨k, hk, e2, -⟩ := rep_row h hr h2
    have e3 : S.1 6 i = nI k := e.trans e2
    have : R.1 i = 2 := by
      rcases h.1 i hi with q | q | q
      · exact absurd (e3.symm.trans q.2) (nI_neg (by omega) (by decide))
      · exact absurd (e3.symm.trans q.2) (nI_neg (by omega) (by decide))
      · exact q.1
    exact ⟨this, (h.2 i r hi hr this h2).mpr e⟩

abbrev YX10_firstOf : zY := (yX10_firstOf.cls, cX10_firstOf, 3, (some .int), rmX10_firstOf, yX10_firstOf.name, fun _ _ => True)
set_option maxHeartbeats 4000000 in
set_option maxRecDepth 100000 in
theorem q_firstOf_L (g : zG) (h : zH) (m : Nat) (S : sMS) (R : sR) (hR : rRep (S.1 6) (mRowIs S) R) (r : Nat) (hr : r < 8) (h2 : R.1 r = 2) : ∀ (n i : Nat), i + n = 8 → i ≤ r → rLeast R r 8 0 = rLeast R r n i → zZ g YX10_firstOf (zE g (fun v h1 => v = some (.int (nI (rLeast R r 8 0))) ∧ h1 = mUp m S h) 0 0) 2 [(2, .int (nI i)), (0, .ref m), (1, .int (S.1 6 r))] [] (mUp m S h) 0 0 := by
  intro n
  induction n with
  | zero => intro i hi hir hs; omega
  | succ n ih =>
    intro i hi hir hs
    have hir2 : ¬ S.1 6 i = S.1 6 r → i + 1 ≤ r := fun q => by
      rcases Nat.lt_or_ge i r with z | z
      · omega
      · exact absurd (by rw [show i = r by omega]) q
    first | refine z_aload_n dX10_firstOf_2 rfl rfl ?_ | refine z_aload_nN dX10_firstOf_2 rfl rfl ?_
    refine zmg_27 rfl dX10_firstOf_3 rfl ?_
    refine z_iload_n dX10_firstOf_6 rfl rfl ?_
    refine zm_iald dX10_firstOf_7 rfl rfl (nI_in8 (by omega)) ?_
    refine z_iload_n dX10_firstOf_8 rfl rfl ?_
    rw [nI_clamp (show i < 2 ^ 31 by omega)]
    refine z_icmp_eq (tgt := 18) dX10_firstOf_9 rfl (by decide) (fun c9 => ?_) (fun c9 => ?_)
    · skip
      refine z_iload_n dX10_firstOf_18 rfl rfl ?_
      exact z_iret dX10_firstOf_19 rfl rfl ⟨by rw [hs, rLeast, if_pos ((rep_least hR hr (by omega) h2).mpr c9)], rfl⟩ (Nat.le_of_ble_eq_true rfl) (Nat.le_of_ble_eq_true rfl)
    · skip
      refine z_iinc (v := nI (i + 1)) dX10_firstOf_12 rfl rfl (nI_inc i) (Nat.le_of_ble_eq_true rfl) ?_
      refine z_goto (tgt := 2) dX10_firstOf_15 rfl (by decide) ?_
      refine z_lv [(2, .int (nI (i + 1))), (0, .ref m), (1, .int (S.1 6 r))] ⟨rfl, rfl, rfl, trivial⟩ ?_
      exact ih (i + 1) (by omega) (hir2 c9) (by rw [hs, rLeast, if_neg (fun q => c9 ((rep_least hR hr (by omega) h2).mp q))])
set_option maxHeartbeats 4000000 in
set_option maxRecDepth 100000 in
/-- X10_firstOf -/
theorem q_firstOf (g : zG) (h : zH) (m : Nat) (S : sMS) (R : sR) (hR : rRep (S.1 6) (mRowIs S) R) (r : Nat) (hr : r < 8) (h2 : R.1 r = 2) : zX g yX10_firstOf cX10_firstOf 3 (some .int) rmX10_firstOf [.ref m, .int (S.1 6 r)] (mUp m S h) (.int (nI (rLeast R r 8 0))) (mUp m S h) := by
  refine zM_of (by decide) (Nat.le_of_ble_eq_true rfl) ?_
  refine z_iconst (v := 0) dX10_firstOf_0 rfl (by decide) ?_
  refine z_istore_n dX10_firstOf_1 rfl (Nat.le_of_ble_eq_true rfl) ?_
  refine z_lv [(2, .int (nI 0)), (0, .ref m), (1, .int (S.1 6 r))] ⟨rfl, rfl, rfl, trivial⟩ ?_
  exact q_firstOf_L g h m S R hR r hr h2 8 0 rfl (Nat.zero_le _) rfl

theorem rep_lt0 {S : sMS} {R : sR} (h : rRep (S.1 6) (mRowIs S) R) {r : Nat} (hr : r < 8) : (0 ≤ S.1 6 r ↔ R.1 r = 2) ∧ (S.1 6 r = -2 ↔ R.1 r = 1) := by
  rcases h.1 r hr with q | q | ⟨q, k, hk, q2, -⟩
  · rw [q.1, q.2]; decide
  · rw [q.1, q.2]; decide
  · rw [q, q2]
    exact ⟨⟨fun _ => rfl, fun _ => nI_pos' (by omega)⟩, fun z => absurd z (nI_neg (by omega) (by decide)), fun z => absurd z (by decide)⟩

set_option maxHeartbeats 4000000 in
set_option maxRecDepth 100000 in
theorem R_kind (g : zG) (h : zH) (m : Nat) (S : sMS) (w : sW) (hR : RepM S w) (r what : Int32) : zM g yX10_kind cX10_kind 3 (some .int) rmX10_kind [.ref m, .int r, .int what] (mUp m S h) (mPost m h (pKind w r what)) := by
  refine zM_of (by decide) (Nat.le_of_ble_eq_true rfl) ?_
  refine z_iload_n dX10_kind_0 rfl rfl ?_
  refine zcx_X10_141 rfl dX10_kind_1 rfl (r_isRecord g _ _) rfl rfl ⟨(Nat.le_of_ble_eq_true rfl), (Nat.le_of_ble_eq_true rfl)⟩ ⟨(Nat.le_of_ble_eq_true rfl), (Nat.le_of_ble_eq_true rfl)⟩ (Nat.le_of_ble_eq_true rfl) ?_
  refine z_bif_eq (tgt := 17) dX10_kind_4 rfl (by decide) (fun c4 => ?_) (fun c4 => ?_)
  · skip
    refine z_iconst (v := -1) dX10_kind_17 rfl (by decide) ?_
    exact z_iret dX10_kind_18 rfl rfl (mPost_of hR (by grind [pKind])) (Nat.le_of_ble_eq_true rfl) (Nat.le_of_ble_eq_true rfl)
  · skip
    refine z_iload_n dX10_kind_7 rfl rfl ?_
    refine z_i2l dX10_kind_8 rfl ?_
    refine z_lconst (v := 0) dX10_kind_9 rfl (by decide) ?_
    refine z_lconst (v := 1) dX10_kind_10 rfl (by decide) ?_
    refine zcx_X10_72 rfl dX10_kind_11 rfl (r_in32 g _ _ 0 1 rfl rfl) rfl rfl ⟨(Nat.le_of_ble_eq_true rfl), (Nat.le_of_ble_eq_true rfl)⟩ ⟨(Nat.le_of_ble_eq_true rfl), (Nat.le_of_ble_eq_true rfl)⟩ (Nat.le_of_ble_eq_true rfl) ?_
    refine z_bif_ne (tgt := 19) dX10_kind_14 rfl (by decide) (fun c14 => ?_) (fun c14 => ?_)
    · skip
      have h0 := rep_lt0 hR.1 (ix_lt c4)
      first | refine z_aload_n dX10_kind_19 rfl rfl ?_ | refine z_aload_nN dX10_kind_19 rfl rfl ?_
      refine zmg_27 rfl dX10_kind_20 rfl ?_
      refine z_iload_n dX10_kind_23 rfl rfl ?_
      refine zm_iald dX10_kind_24 rfl rfl (rec_in c4) ?_
      refine z_if_ge (tgt := 57) dX10_kind_25 rfl (by decide) (fun c25 => ?_) (fun c25 => ?_)
      · skip
        refine z_iload_n dX10_kind_57 rfl rfl ?_
        refine z_if_ne (tgt := 69) dX10_kind_58 rfl (by decide) (fun c58 => ?_) (fun c58 => ?_)
        · skip
          first | refine z_aload_n dX10_kind_69 rfl rfl ?_ | refine z_aload_nN dX10_kind_69 rfl rfl ?_
          first | refine z_aload_n dX10_kind_70 rfl rfl ?_ | refine z_aload_nN dX10_kind_70 rfl rfl ?_
          refine zmg_27 rfl dX10_kind_71 rfl ?_
          refine z_iload_n dX10_kind_74 rfl rfl ?_
          refine zm_iald dX10_kind_75 rfl rfl (rec_in c4) ?_
          refine zcx_X10_149 rfl dX10_kind_76 rfl mo_recv (q_firstOf g h m S w.1 hR.1 _ (ix_lt c4) (h0.1.mp c25)) rfl rfl ⟨(Nat.le_of_ble_eq_true rfl), (Nat.le_of_ble_eq_true rfl)⟩ ⟨(Nat.le_of_ble_eq_true rfl), (Nat.le_of_ble_eq_true rfl)⟩ (Nat.le_of_ble_eq_true rfl) ?_
          exact z_iret dX10_kind_79 rfl rfl (mPost_of hR (by grind [pKind])) (Nat.le_of_ble_eq_true rfl) (Nat.le_of_ble_eq_true rfl)
        · skip
          have hk := rep_kind hR.1 (ix_lt c4) (h0.1.mp c25)
          first | refine z_aload_n dX10_kind_61 rfl rfl ?_ | refine z_aload_nN dX10_kind_61 rfl rfl ?_
          refine z_iload_n dX10_kind_62 rfl rfl ?_
          refine zcx_X10_146 rfl dX10_kind_63 rfl mo_recv (r_kindOf g h m S _ (rec_in c4) hk.2.2.1) rfl rfl ⟨(Nat.le_of_ble_eq_true rfl), (Nat.le_of_ble_eq_true rfl)⟩ ⟨(Nat.le_of_ble_eq_true rfl), (Nat.le_of_ble_eq_true rfl)⟩ (Nat.le_of_ble_eq_true rfl) ?_
          rw [hk.1]
          refine z_goto (tgt := 79) dX10_kind_66 rfl (by decide) ?_
          exact z_iret dX10_kind_79 rfl rfl (mPost_of hR (by grind [pKind])) (Nat.le_of_ble_eq_true rfl) (Nat.le_of_ble_eq_true rfl)
      · skip
        refine z_iload_n dX10_kind_28 rfl rfl ?_
        refine z_iconst (v := 1) dX10_kind_29 rfl (by decide) ?_
        refine z_icmp_ne (tgt := 38) dX10_kind_30 rfl (by decide) (fun c30 => ?_) (fun c30 => ?_)
        · skip
          first | refine z_aload_n dX10_kind_38 rfl rfl ?_ | refine z_aload_nN dX10_kind_38 rfl rfl ?_
          refine zmg_27 rfl dX10_kind_39 rfl ?_
          refine z_iload_n dX10_kind_42 rfl rfl ?_
          refine zm_iald dX10_kind_43 rfl rfl (rec_in c4) ?_
          refine z_bipush (v := -2) dX10_kind_44 rfl (by decide) ?_
          refine z_icmp_ne (tgt := 54) dX10_kind_46 rfl (by decide) (fun c46 => ?_) (fun c46 => ?_)
          · skip
            refine z_bipush (v := 12) dX10_kind_54 rfl (by decide) ?_
            exact z_iret dX10_kind_56 rfl rfl (mPost_of hR (by grind [pKind])) (Nat.le_of_ble_eq_true rfl) (Nat.le_of_ble_eq_true rfl)
          · skip
            refine z_bipush (v := 11) dX10_kind_49 rfl (by decide) ?_
            refine z_goto (tgt := 56) dX10_kind_51 rfl (by decide) ?_
            exact z_iret dX10_kind_56 rfl rfl (mPost_of hR (by grind [pKind])) (Nat.le_of_ble_eq_true rfl) (Nat.le_of_ble_eq_true rfl)
        · skip
          refine z_bipush (v := -4) dX10_kind_33 rfl (by decide) ?_
          refine z_goto (tgt := 56) dX10_kind_35 rfl (by decide) ?_
          exact z_iret dX10_kind_56 rfl rfl (mPost_of hR (by grind [pKind])) (Nat.le_of_ble_eq_true rfl) (Nat.le_of_ble_eq_true rfl)
    · skip
      refine z_iconst (v := -1) dX10_kind_17 rfl (by decide) ?_
      exact z_iret dX10_kind_18 rfl rfl (mPost_of hR (by grind [pKind])) (Nat.le_of_ble_eq_true rfl) (Nat.le_of_ble_eq_true rfl)

set_option maxHeartbeats 4000000 in
set_option maxRecDepth 100000 in
theorem R_size (g : zG) (h : zH) (m : Nat) (S : sMS) (w : sW) (hR : RepM S w) (r : Int32) : zM g yX10_size cX10_size 2 (some .int) rmX10_size [.ref m, .int r] (mUp m S h) (mPost m h (pSize w r)) := by
  refine zM_of (by decide) (Nat.le_of_ble_eq_true rfl) ?_
  refine z_iload_n dX10_size_0 rfl rfl ?_
  refine zcx_X10_141 rfl dX10_size_1 rfl (r_isRecord g _ _) rfl rfl ⟨(Nat.le_of_ble_eq_true rfl), (Nat.le_of_ble_eq_true rfl)⟩ ⟨(Nat.le_of_ble_eq_true rfl), (Nat.le_of_ble_eq_true rfl)⟩ (Nat.le_of_ble_eq_true rfl) ?_
  refine z_bif_ne (tgt := 9) dX10_size_4 rfl (by decide) (fun c4 => ?_) (fun c4 => ?_)
  · skip
    first | refine z_aload_n dX10_size_9 rfl rfl ?_ | refine z_aload_nN dX10_size_9 rfl rfl ?_
    refine z_iload_n dX10_size_10 rfl rfl ?_
    refine zcx_X10_124 rfl dX10_size_11 rfl mo_recv (q_rowFault g h m S w.1 hR.1 _ c4) rfl rfl ⟨(Nat.le_of_ble_eq_true rfl), (Nat.le_of_ble_eq_true rfl)⟩ ⟨(Nat.le_of_ble_eq_true rfl), (Nat.le_of_ble_eq_true rfl)⟩ (Nat.le_of_ble_eq_true rfl) ?_
    refine z_if_le (tgt := 28) dX10_size_14 rfl (by decide) (fun c14 => ?_) (fun c14 => ?_)
    · skip
      have hk := rep_kind hR.1 (ix_lt c4) (rf_2 (rep_st hR.1 (ix_lt c4)) (by grind))
      first | refine z_aload_n dX10_size_28 rfl rfl ?_ | refine z_aload_nN dX10_size_28 rfl rfl ?_
      refine z_iload_n dX10_size_29 rfl rfl ?_
      refine zcx_X10_152 rfl dX10_size_30 rfl mo_recv (r_sizeOf g h m S _ (rec_in c4) hk.2.2.1) rfl rfl ⟨(Nat.le_of_ble_eq_true rfl), (Nat.le_of_ble_eq_true rfl)⟩ ⟨(Nat.le_of_ble_eq_true rfl), (Nat.le_of_ble_eq_true rfl)⟩ (Nat.le_of_ble_eq_true rfl) ?_
      try rw [hk.2.1]
      exact z_iret dX10_size_33 rfl rfl (mPost_of hR (by grind [pSize])) (Nat.le_of_ble_eq_true rfl) (Nat.le_of_ble_eq_true rfl)
    · skip
      refine z_bipush (v := -10) dX10_size_17 rfl (by decide) ?_
      first | refine z_aload_n dX10_size_19 rfl rfl ?_ | refine z_aload_nN dX10_size_19 rfl rfl ?_
      refine z_iload_n dX10_size_20 rfl rfl ?_
      refine zcx_X10_124 rfl dX10_size_21 rfl mo_recv (q_rowFault g h m S w.1 hR.1 _ c4) rfl rfl ⟨(Nat.le_of_ble_eq_true rfl), (Nat.le_of_ble_eq_true rfl)⟩ ⟨(Nat.le_of_ble_eq_true rfl), (Nat.le_of_ble_eq_true rfl)⟩ (Nat.le_of_ble_eq_true rfl) ?_
      refine z_isub dX10_size_24 rfl ?_
      refine z_goto (tgt := 33) dX10_size_25 rfl (by decide) ?_
      try rw [hk.2.1]
      exact z_iret dX10_size_33 rfl rfl (mPost_of hR (by grind [pSize])) (Nat.le_of_ble_eq_true rfl) (Nat.le_of_ble_eq_true rfl)
  · skip
    refine z_iconst (v := -1) dX10_size_7 rfl (by decide) ?_
    exact z_iret dX10_size_8 rfl rfl (mPost_of hR (by grind [pSize])) (Nat.le_of_ble_eq_true rfl) (Nat.le_of_ble_eq_true rfl)

theorem RepM_got {S : sMS} {w : sW} (hR : RepM S w) (x : Int64) : RepM (S.1, S.2.1, S.2.2.1, S.2.2.2.1, x) (wGot w x) := ⟨hR.1, hR.2.1, rfl, hR.2.2.2⟩
theorem sInto_le {s k : Int32} (h : sInto s k = true) (hk : k ≤ 7) : s ≤ 7 := (sInto_7 h hk).1.2
theorem rcell_fit {S : sMS} {R : sR} (h : rRep (S.1 6) (mRowIs S) R) {r i : Nat} (hr : r < 8) (h2 : R.1 r = 2) (hi : i < (R.2.1 r).2.length) : sOk (rCell R r i) ∧ sFit (rCell R r i) (R.2.1 r).1 := by
  obtain ⟨k, hk, e, hA⟩ := rep_row h hr h2
  have hm : (R.2.1 r).2.getD i z0 ∈ (R.2.1 r).2 := by
    rw [List.getD_eq_getElem?_getD, List.getElem?_eq_getElem hi]
    exact List.getElem_mem hi
  exact hA.2.2.1.2.2.2 _ hm

set_option maxHeartbeats 4000000 in
set_option maxRecDepth 100000 in
theorem R_ask (g : zG) (h : zH) (m : Nat) (S : sMS) (w : sW) (hR : RepM S w) (r i kind : Int32) : zM g yX10_ask cX10_ask 5 (some .int) rmX10_ask [.ref m, .int r, .int i, .int kind] (mUp m S h) (mPost m h (pAsk w r i kind)) := by
  refine zM_of (by decide) (Nat.le_of_ble_eq_true rfl) ?_
  refine z_iload_n dX10_ask_0 rfl rfl ?_
  refine zcx_X10_141 rfl dX10_ask_1 rfl (r_isRecord g _ _) rfl rfl ⟨(Nat.le_of_ble_eq_true rfl), (Nat.le_of_ble_eq_true rfl)⟩ ⟨(Nat.le_of_ble_eq_true rfl), (Nat.le_of_ble_eq_true rfl)⟩ (Nat.le_of_ble_eq_true rfl) ?_
  refine z_bif_eq (tgt := 14) dX10_ask_4 rfl (by decide) (fun c4 => ?_) (fun c4 => ?_)
  · skip
    refine z_iconst (v := -1) dX10_ask_14 rfl (by decide) ?_
    exact z_iret dX10_ask_15 rfl rfl (mPost_of hR (by grind [pAsk])) (Nat.le_of_ble_eq_true rfl) (Nat.le_of_ble_eq_true rfl)
  · skip
    refine z_iload_n dX10_ask_7 rfl rfl ?_
    refine zcx_X10_159 rfl dX10_ask_8 rfl (r_isKind g _ _) rfl rfl ⟨(Nat.le_of_ble_eq_true rfl), (Nat.le_of_ble_eq_true rfl)⟩ ⟨(Nat.le_of_ble_eq_true rfl), (Nat.le_of_ble_eq_true rfl)⟩ (Nat.le_of_ble_eq_true rfl) ?_
    refine z_bif_ne (tgt := 16) dX10_ask_11 rfl (by decide) (fun c11 => ?_) (fun c11 => ?_)
    · skip
      first | refine z_aload_n dX10_ask_16 rfl rfl ?_ | refine z_aload_nN dX10_ask_16 rfl rfl ?_
      refine z_iload_n dX10_ask_17 rfl rfl ?_
      refine z_iload_n dX10_ask_18 rfl rfl ?_
      refine z_i2l dX10_ask_19 rfl ?_
      refine z_iload_n dX10_ask_20 rfl rfl ?_
      refine zcx_X10_162 rfl dX10_ask_21 rfl mo_recv (q_askFaultI g h m S w.1 hR.1 _ _ _ c4) rfl rfl ⟨(Nat.le_of_ble_eq_true rfl), (Nat.le_of_ble_eq_true rfl)⟩ ⟨(Nat.le_of_ble_eq_true rfl), (Nat.le_of_ble_eq_true rfl)⟩ (Nat.le_of_ble_eq_true rfl) ?_
      refine z_istore dX10_ask_24 rfl (Nat.le_of_ble_eq_true rfl) ?_
      refine z_iload dX10_ask_26 rfl rfl ?_
      refine z_if_le (tgt := 37) dX10_ask_28 rfl (by decide) (fun c28 => ?_) (fun c28 => ?_)
      · skip
        have c28 := le0 c28
        have hcf := cf_0 (af_0 c28).1
        have h2 := rf_2 (rep_st hR.1 (ix_lt c4)) hcf.1
        obtain ⟨hin, hmc, hok, hlt, k0, hk0, hke, hrow, hat⟩ := rep_cell hR.1 (i := i) (ix_lt c4) h2 hcf.2.1 hcf.2.2
        have hfit := (rcell_fit hR.1 (ix_lt c4) h2 hlt).2
        first | refine z_aload_n dX10_ask_37 rfl rfl ?_ | refine z_aload_nN dX10_ask_37 rfl rfl ?_
        first | refine z_aload_n dX10_ask_38 rfl rfl ?_ | refine z_aload_nN dX10_ask_38 rfl rfl ?_
        first | refine z_aload_n dX10_ask_39 rfl rfl ?_ | refine z_aload_nN dX10_ask_39 rfl rfl ?_
        refine z_iload_n dX10_ask_40 rfl rfl ?_
        refine z_iload_n dX10_ask_41 rfl rfl ?_
        refine zcx_X10_135 rfl dX10_ask_42 rfl mo_recv (r_cellAt g h m S _ _ (rec_in c4)) rfl rfl ⟨(Nat.le_of_ble_eq_true rfl), (Nat.le_of_ble_eq_true rfl)⟩ ⟨(Nat.le_of_ble_eq_true rfl), (Nat.le_of_ble_eq_true rfl)⟩ (Nat.le_of_ble_eq_true rfl) ?_
        refine z_iload_n dX10_ask_45 rfl rfl ?_
        refine zcx_X10_166 rfl dX10_ask_46 rfl mo_recv (r_amountOf g h m S _ _ hin (fun _ _ => by rw [hmc]; exact sReal_ok hok (by rw [hfit.1 (af_0 c28).2.1]; exact (af_0 c28).2.1) _)) rfl rfl ⟨(Nat.le_of_ble_eq_true rfl), (Nat.le_of_ble_eq_true rfl)⟩ ⟨(Nat.le_of_ble_eq_true rfl), (Nat.le_of_ble_eq_true rfl)⟩ (Nat.le_of_ble_eq_true rfl) ?_
        rw [hmc]
        refine zmp_170 rfl dX10_ask_49 rfl ?_
        refine z_iconst (v := 1) dX10_ask_52 rfl (by decide) ?_
        exact z_iret dX10_ask_53 rfl rfl (mPost_of (RepM_got hR _) (by grind [pAsk])) (Nat.le_of_ble_eq_true rfl) (Nat.le_of_ble_eq_true rfl)
      · skip
        refine z_bipush (v := -10) dX10_ask_31 rfl (by decide) ?_
        refine z_iload dX10_ask_33 rfl rfl ?_
        refine z_isub dX10_ask_35 rfl ?_
        exact z_iret dX10_ask_36 rfl rfl (mPost_of hR (by grind [pAsk])) (Nat.le_of_ble_eq_true rfl) (Nat.le_of_ble_eq_true rfl)
    · skip
      refine z_iconst (v := -1) dX10_ask_14 rfl (by decide) ?_
      exact z_iret dX10_ask_15 rfl rfl (mPost_of hR (by grind [pAsk])) (Nat.le_of_ble_eq_true rfl) (Nat.le_of_ble_eq_true rfl)

set_option maxHeartbeats 4000000 in
set_option maxRecDepth 100000 in
theorem R_box (g : zG) (h : zH) (m : Nat) (S : sMS) (w : sW) (hR : RepM S w) (r i : Int32) : zM g yX10_box cX10_box 5 (some .int) rmX10_box [.ref m, .int r, .int i] (mUp m S h) (mPost m h (pBox w r i)) := by
  refine zM_of (by decide) (Nat.le_of_ble_eq_true rfl) ?_
  refine z_iload_n dX10_box_0 rfl rfl ?_
  refine zcx_X10_141 rfl dX10_box_1 rfl (r_isRecord g _ _) rfl rfl ⟨(Nat.le_of_ble_eq_true rfl), (Nat.le_of_ble_eq_true rfl)⟩ ⟨(Nat.le_of_ble_eq_true rfl), (Nat.le_of_ble_eq_true rfl)⟩ (Nat.le_of_ble_eq_true rfl) ?_
  refine z_bif_ne (tgt := 9) dX10_box_4 rfl (by decide) (fun c4 => ?_) (fun c4 => ?_)
  · skip
    first | refine z_aload_n dX10_box_9 rfl rfl ?_ | refine z_aload_nN dX10_box_9 rfl rfl ?_
    refine z_iload_n dX10_box_10 rfl rfl ?_
    refine z_iload_n dX10_box_11 rfl rfl ?_
    refine z_i2l dX10_box_12 rfl ?_
    refine zcx_X10_155 rfl dX10_box_13 rfl mo_recv (q_cellFaultI g h m S w.1 hR.1 _ _ c4) rfl rfl ⟨(Nat.le_of_ble_eq_true rfl), (Nat.le_of_ble_eq_true rfl)⟩ ⟨(Nat.le_of_ble_eq_true rfl), (Nat.le_of_ble_eq_true rfl)⟩ (Nat.le_of_ble_eq_true rfl) ?_
    refine z_istore_n dX10_box_16 rfl (Nat.le_of_ble_eq_true rfl) ?_
    refine z_iload_n dX10_box_17 rfl rfl ?_
    refine z_if_le (tgt := 26) dX10_box_18 rfl (by decide) (fun c18 => ?_) (fun c18 => ?_)
    · skip
      have c18 := le0 c18
      have hcf := cf_0 c18
      have h2 := rf_2 (rep_st hR.1 (ix_lt c4)) hcf.1
      obtain ⟨hin, hmc, hok, hlt, k0, hk0, hke, hrow, hat⟩ := rep_cell hR.1 (i := i) (ix_lt c4) h2 hcf.2.1 hcf.2.2
      have hs1 : S.1 1 (20 * S.1 6 (ix r) + i).toNatClampNeg = (rCell w.1 (ix r) (ix i)).1 := congrArg (fun c : sC => c.1) hmc
      first | refine z_aload_n dX10_box_26 rfl rfl ?_ | refine z_aload_nN dX10_box_26 rfl rfl ?_
      refine z_iload_n dX10_box_27 rfl rfl ?_
      refine z_iload_n dX10_box_28 rfl rfl ?_
      refine zcx_X10_135 rfl dX10_box_29 rfl mo_recv (r_cellAt g h m S _ _ (rec_in c4)) rfl rfl ⟨(Nat.le_of_ble_eq_true rfl), (Nat.le_of_ble_eq_true rfl)⟩ ⟨(Nat.le_of_ble_eq_true rfl), (Nat.le_of_ble_eq_true rfl)⟩ (Nat.le_of_ble_eq_true rfl) ?_
      refine z_istore dX10_box_32 rfl (Nat.le_of_ble_eq_true rfl) ?_
      first | refine z_aload_n dX10_box_34 rfl rfl ?_ | refine z_aload_nN dX10_box_34 rfl rfl ?_
      first | refine z_aload_n dX10_box_35 rfl rfl ?_ | refine z_aload_nN dX10_box_35 rfl rfl ?_
      refine z_iload dX10_box_36 rfl rfl ?_
      first | refine z_aload_n dX10_box_38 rfl rfl ?_ | refine z_aload_nN dX10_box_38 rfl rfl ?_
      refine zmg_7 rfl dX10_box_39 rfl ?_
      refine z_iload dX10_box_42 rfl rfl ?_
      refine zm_iald dX10_box_44 rfl rfl hin ?_
      rw [hs1]
      refine zcx_X10_166 rfl dX10_box_45 rfl mo_recv (r_amountOf g h m S _ _ hin (fun z _ => by rw [hmc]; exact sReal_ok hok (by grind) _)) rfl rfl ⟨(Nat.le_of_ble_eq_true rfl), (Nat.le_of_ble_eq_true rfl)⟩ ⟨(Nat.le_of_ble_eq_true rfl), (Nat.le_of_ble_eq_true rfl)⟩ (Nat.le_of_ble_eq_true rfl) ?_
      rw [hmc]
      refine zmp_170 rfl dX10_box_48 rfl ?_
      first | refine z_aload_n dX10_box_51 rfl rfl ?_ | refine z_aload_nN dX10_box_51 rfl rfl ?_
      refine zmg_7 rfl dX10_box_52 rfl ?_
      refine z_iload dX10_box_55 rfl rfl ?_
      refine zm_iald dX10_box_57 rfl rfl hin ?_
      rw [hs1]
      exact z_iret dX10_box_58 rfl rfl (mPost_of (RepM_got hR _) (by grind [pBox])) (Nat.le_of_ble_eq_true rfl) (Nat.le_of_ble_eq_true rfl)
    · skip
      refine z_bipush (v := -10) dX10_box_21 rfl (by decide) ?_
      refine z_iload_n dX10_box_23 rfl rfl ?_
      refine z_isub dX10_box_24 rfl ?_
      exact z_iret dX10_box_25 rfl rfl (mPost_of hR (by grind [pBox])) (Nat.le_of_ble_eq_true rfl) (Nat.le_of_ble_eq_true rfl)
  · skip
    refine z_iconst (v := -1) dX10_box_7 rfl (by decide) ?_
    exact z_iret dX10_box_8 rfl rfl (mPost_of hR (by grind [pBox])) (Nat.le_of_ble_eq_true rfl) (Nat.le_of_ble_eq_true rfl)

set_option maxHeartbeats 4000000 in
set_option maxRecDepth 100000 in
/-- X10_got -/
theorem R_got (g : zG) (h : zH) (m : Nat) (S : sMS) (w : sW) (hR : RepM S w) : zX g yX10_got cX10_got 1 (some .long) rmX10_got [.ref m] (mUp m S h) (.long w.2.2.2.1) (mUp m S h) := by
  refine zM_of (by decide) (Nat.le_of_ble_eq_true rfl) ?_
  first | refine z_aload_n dX10_got_0 rfl rfl ?_ | refine z_aload_nN dX10_got_0 rfl rfl ?_
  refine zmg_170 rfl dX10_got_1 rfl ?_
  exact z_lret dX10_got_4 rfl rfl ⟨by rw [hR.2.2.1], rfl⟩ (Nat.le_of_ble_eq_true rfl) (Nat.le_of_ble_eq_true rfl)

set_option maxHeartbeats 4000000 in
set_option maxRecDepth 100000 in
/-- X10_torn -/
theorem R_torn (g : zG) (h : zH) (m : Nat) (S : sMS) (w : sW) (hR : RepM S w) : zX g yX10_torn cX10_torn 1 (some .int) rmX10_torn [.ref m] (mUp m S h) (.int w.2.2.2.2.1) (mUp m S h) := by
  refine zM_of (by decide) (Nat.le_of_ble_eq_true rfl) ?_
  first | refine z_aload_n dX10_torn_0 rfl rfl ?_ | refine z_aload_nN dX10_torn_0 rfl rfl ?_
  refine zmg_192 rfl dX10_torn_1 rfl ?_
  exact z_iret dX10_torn_4 rfl rfl ⟨by rw [← hR.2.2.2], rfl⟩ (Nat.le_of_ble_eq_true rfl) (Nat.le_of_ble_eq_true rfl)

