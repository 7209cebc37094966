theorem in520 : vp_in 520 880 := vp_in_nI (n := 520) (by decide) (by decide)
theorem RepM_set {S : sMS} {w : sW} {r k j : Nat} {c c' : sC} (hR : RepM S w) (hr : r < 8) (h2 : w.1.1 r = 2) (hk : S.1 6 r = nI k) (hk8 : k < 8) (hj : j < (w.1.2.1 r).2.length) (hc : sOk c' ∧ sFit c' (w.1.2.1 r).1) : RepM (mLay (mLay S 520 c) (20 * k + j) c') (wR w (rSet w.1 r j c')) := by
  have hl : (w.1.2.1 r).2.length ≤ 20 := by
    obtain ⟨k', -, -, hA⟩ := rep_row hR.1 hr h2
    exact hA.2.2.1.2.2.1
  refine ⟨rep_set hR.1 hr h2 hk hk8 hj hc (fun i hi => by rw [mLay_1 _ _ _ hi, mLay_1 _ _ _ hi]) (fun a ha => by rw [mc_lay, mc_lay]; congr 1; rw [if_neg (by omega)]), ?_, hR.2.2.1, hR.2.2.2⟩
  refine RepX_agree (S := S) (agree_1 (fun i h1 _ _ _ => by rw [mLay_1 _ _ _ h1, mLay_1 _ _ _ h1]) (fun i _ => by rw [mLay_1 _ _ _ (by decide), mLay_1 _ _ _ (by decide), mLay_1 _ _ _ (by decide), mLay_1 _ _ _ (by decide)]; exact ⟨rfl, rfl⟩) (fun a ha => by rw [mc_lay, mc_lay, if_neg (by omega), if_neg (by omega)]) ⟨rfl, rfl, rfl⟩) hR.2.1
theorem RepM_set1 {S : sMS} {w : sW} {r k j : Nat} {c' : sC} (hR : RepM S w) (hr : r < 8) (h2 : w.1.1 r = 2) (hk : S.1 6 r = nI k) (hk8 : k < 8) (hj : j < (w.1.2.1 r).2.length) (hc : sOk c' ∧ sFit c' (w.1.2.1 r).1) : RepM (mLay S (20 * k + j) c') (wR w (rSet w.1 r j c')) := by
  have hl : (w.1.2.1 r).2.length ≤ 20 := by
    obtain ⟨k', -, -, hA⟩ := rep_row hR.1 hr h2
    exact hA.2.2.1.2.2.1
  refine ⟨rep_set hR.1 hr h2 hk hk8 hj hc (fun i hi => by rw [mLay_1 _ _ _ hi]) (fun a ha => by rw [mc_lay]), ?_, hR.2.2.1, hR.2.2.2⟩
  refine RepX_agree (S := S) (agree_1 (fun i h1 _ _ _ => by rw [mLay_1 _ _ _ h1]) (fun i _ => by rw [mLay_1 _ _ _ (by decide), mLay_1 _ _ _ (by decide)]; exact ⟨rfl, rfl⟩) (fun a ha => by rw [mc_lay, if_neg (by omega)]) ⟨rfl, rfl, rfl⟩) hR.2.1
theorem RepM_torn {S : sMS} {w : sW} (hR : RepM S w) (x : Int32) : RepM (S.1, S.2.1, S.2.2.1, va_up S.2.2.2.1 7 x, S.2.2.2.2) (wTorn w x) := by
  refine ⟨hR.1, ?_, hR.2.2.1, by simp [va_up, wTorn]⟩
  exact RepX_agree (S := S) (agree_1 (fun i _ _ _ _ => rfl) (fun i _ => ⟨rfl, rfl⟩) (fun a ha => rfl) ⟨rfl, rfl, rfl⟩) hR.2.1
theorem addI {i : Int32} {k j : Nat} (h : i.toInt + k = j) (hj : j < 2 ^ 31) (hk : k < 2 ^ 31) : i + nI k = nI j := by
  apply Int32.toInt_inj.mp
  rw [Int32.toInt_add, nI_toInt hk, nI_toInt hj, h]
  have : ((j : Int)).bmod (2 ^ 32) = j := by
    rw [Int.bmod_def]
    omega
  exact this
theorem addL (i : Int32) {k : Nat} (hk : k < 2 ^ 31) : (i.toInt64 + (nI k).toInt64).toInt = i.toInt + k := by
  rw [Int64.toInt_add, Int32.toInt_toInt64, Int32.toInt_toInt64, nI_toInt hk]
  have h1 := i.le_toInt
  have h2 := i.toInt_lt
  rw [Int.bmod_def]
  omega

set_option maxHeartbeats 4000000 in
set_option maxRecDepth 100000 in
/-- X10_laysValue -/
theorem q_laysValue (g : zG) (h : zH) (m : Nat) (S : sMS) (r : Int32) (k j : Nat) (sort v : Int32) (hr : isRec r) (hk : S.1 6 (ix r) = nI k) (hk8 : k < 8) (hj : j < 20) : zXv g yX10_laysValue cX10_laysValue 5 none rmX10_laysValue [.ref m, .int r, .int (nI j), .int sort, .int v] (mUp m S h) (mUp m (mLay (mLay S 520 (sVal sort v)) (20 * k + j) (sConv (sVal sort v) (S.1 4 k))) h) := by
  refine zM_of (by decide) (Nat.le_of_ble_eq_true rfl) ?_
  first | refine z_aload_n dX10_laysValue_0 rfl rfl ?_ | refine z_aload_nN dX10_laysValue_0 rfl rfl ?_
  refine z_sipush (v := 520) dX10_laysValue_1 rfl (by decide) ?_
  refine z_iload_n dX10_laysValue_4 rfl rfl ?_
  refine z_iload dX10_laysValue_5 rfl rfl ?_
  refine zcv_X10_174 rfl dX10_laysValue_7 rfl mo_recv (r_values g h m S _ _ _ in520) rfl rfl ⟨(Nat.le_of_ble_eq_true rfl), (Nat.le_of_ble_eq_true rfl)⟩ ⟨(Nat.le_of_ble_eq_true rfl), (Nat.le_of_ble_eq_true rfl)⟩ (Nat.le_of_ble_eq_true rfl) ?_
  have e6 : (mLay S (520 : Int32).toNatClampNeg (sVal sort v)).1 6 r.toNatClampNeg = nI k := by rw [mLay_1 _ _ _ (by decide)]; exact hk
  have e4 : (mLay S (520 : Int32).toNatClampNeg (sVal sort v)).1 4 ((mLay S (520 : Int32).toNatClampNeg (sVal sort v)).1 6 r.toNatClampNeg).toNatClampNeg = S.1 4 k := by rw [e6, nI_clamp (by omega), mLay_1 _ _ _ (by decide)]
  first | refine z_aload_n dX10_laysValue_10 rfl rfl ?_ | refine z_aload_nN dX10_laysValue_10 rfl rfl ?_
  refine z_sipush (v := 520) dX10_laysValue_11 rfl (by decide) ?_
  first | refine z_aload_n dX10_laysValue_14 rfl rfl ?_ | refine z_aload_nN dX10_laysValue_14 rfl rfl ?_
  refine z_iload_n dX10_laysValue_15 rfl rfl ?_
  refine zcx_X10_146 rfl dX10_laysValue_16 rfl mo_recv (r_kindOf g h m _ _ (rec_in hr) (by rw [mLay_1 _ _ _ (by decide), hk]; exact vp_in_nI (by omega) (by decide))) rfl rfl ⟨(Nat.le_of_ble_eq_true rfl), (Nat.le_of_ble_eq_true rfl)⟩ ⟨(Nat.le_of_ble_eq_true rfl), (Nat.le_of_ble_eq_true rfl)⟩ (Nat.le_of_ble_eq_true rfl) ?_
  rw [e4]
  first | refine z_aload_n dX10_laysValue_19 rfl rfl ?_ | refine z_aload_nN dX10_laysValue_19 rfl rfl ?_
  refine z_iload_n dX10_laysValue_20 rfl rfl ?_
  refine z_iload_n dX10_laysValue_21 rfl rfl ?_
  refine zcx_X10_135 rfl dX10_laysValue_22 rfl mo_recv (r_cellAt g h m _ _ _ (rec_in hr)) rfl rfl ⟨(Nat.le_of_ble_eq_true rfl), (Nat.le_of_ble_eq_true rfl)⟩ ⟨(Nat.le_of_ble_eq_true rfl), (Nat.le_of_ble_eq_true rfl)⟩ (Nat.le_of_ble_eq_true rfl) ?_
  rw [e6, n20]
  refine zcv_X10_138 rfl dX10_laysValue_25 rfl mo_recv (r_widens g h m _ _ _ _ in520 (vp_in_nI (show 20 * k + j < 880 by omega) (by decide))) rfl rfl ⟨(Nat.le_of_ble_eq_true rfl), (Nat.le_of_ble_eq_true rfl)⟩ ⟨(Nat.le_of_ble_eq_true rfl), (Nat.le_of_ble_eq_true rfl)⟩ (Nat.le_of_ble_eq_true rfl) ?_
  exact z_vret dX10_laysValue_28 rfl rfl ⟨rfl, by rw [nI_clamp (show 20 * k + j < 2 ^ 31 by omega), mc_lay, if_pos rfl]; rfl⟩ (Nat.le_of_ble_eq_true rfl) (Nat.le_of_ble_eq_true rfl)

set_option maxHeartbeats 4000000 in
set_option maxRecDepth 100000 in
theorem R_put (g : zG) (h : zH) (m : Nat) (S : sMS) (w : sW) (hR : RepM S w) (r i sort v : Int32) : zM g yX10_put cX10_put 6 (some .int) rmX10_put [.ref m, .int r, .int i, .int sort, .int v] (mUp m S h) (mPost m h (pPut w r i sort v)) := by
  refine zM_of (by decide) (Nat.le_of_ble_eq_true rfl) ?_
  refine z_iload_n dX10_put_0 rfl rfl ?_
  refine zcx_X10_141 rfl dX10_put_1 rfl (r_isRecord g _ _) rfl rfl ⟨(Nat.le_of_ble_eq_true rfl), (Nat.le_of_ble_eq_true rfl)⟩ ⟨(Nat.le_of_ble_eq_true rfl), (Nat.le_of_ble_eq_true rfl)⟩ (Nat.le_of_ble_eq_true rfl) ?_
  refine z_bif_eq (tgt := 14) dX10_put_4 rfl (by decide) (fun c4 => ?_) (fun c4 => ?_)
  · skip
    refine z_iconst (v := -1) dX10_put_14 rfl (by decide) ?_
    exact z_iret dX10_put_15 rfl rfl (mPost_of hR (by grind [pPut])) (Nat.le_of_ble_eq_true rfl) (Nat.le_of_ble_eq_true rfl)
  · skip
    refine z_iload_n dX10_put_7 rfl rfl ?_
    refine zcx_X10_159 rfl dX10_put_8 rfl (r_isKind g _ _) rfl rfl ⟨(Nat.le_of_ble_eq_true rfl), (Nat.le_of_ble_eq_true rfl)⟩ ⟨(Nat.le_of_ble_eq_true rfl), (Nat.le_of_ble_eq_true rfl)⟩ (Nat.le_of_ble_eq_true rfl) ?_
    refine z_bif_ne (tgt := 16) dX10_put_11 rfl (by decide) (fun c11 => ?_) (fun c11 => ?_)
    · skip
      first | refine z_aload_n dX10_put_16 rfl rfl ?_ | refine z_aload_nN dX10_put_16 rfl rfl ?_
      refine z_iload_n dX10_put_17 rfl rfl ?_
      refine z_iload_n dX10_put_18 rfl rfl ?_
      refine z_i2l dX10_put_19 rfl ?_
      refine z_iload_n dX10_put_20 rfl rfl ?_
      refine zcx_X10_177 rfl dX10_put_21 rfl mo_recv (q_putFaultI g h m S w.1 hR.1 _ _ _ c4) rfl rfl ⟨(Nat.le_of_ble_eq_true rfl), (Nat.le_of_ble_eq_true rfl)⟩ ⟨(Nat.le_of_ble_eq_true rfl), (Nat.le_of_ble_eq_true rfl)⟩ (Nat.le_of_ble_eq_true rfl) ?_
      refine z_istore dX10_put_24 rfl (Nat.le_of_ble_eq_true rfl) ?_
      refine z_iload dX10_put_26 rfl rfl ?_
      refine z_if_le (tgt := 37) dX10_put_28 rfl (by decide) (fun c28 => ?_) (fun c28 => ?_)
      · skip
        have c28 := le0 c28
        have hcf := cf_0 (pf_0 c28).1
        have h2 := rf_2 (rep_st hR.1 (ix_lt c4)) hcf.1
        obtain ⟨k, hk8, hk, hA⟩ := rep_row hR.1 (ix_lt c4) h2
        have hl := hA.2.2.1.2.2.1
        obtain ⟨j, hj, rfl⟩ := vp_in_of (x := i) (vp_in_iff.mpr ⟨hcf.2.1, hcf.2.2⟩) (by omega)
        have hix : ix (nI j) = j := nI_clamp (by omega)
        first | refine z_aload_n dX10_put_37 rfl rfl ?_ | refine z_aload_nN dX10_put_37 rfl rfl ?_
        refine z_iload_n dX10_put_38 rfl rfl ?_
        refine z_iload_n dX10_put_39 rfl rfl ?_
        refine z_iload_n dX10_put_40 rfl rfl ?_
        refine z_iload dX10_put_41 rfl rfl ?_
        refine zcv_X10_180 rfl dX10_put_43 rfl mo_recv (q_laysValue g h m S r k j sort v c4 hk hk8 (by omega)) rfl rfl ⟨(Nat.le_of_ble_eq_true rfl), (Nat.le_of_ble_eq_true rfl)⟩ ⟨(Nat.le_of_ble_eq_true rfl), (Nat.le_of_ble_eq_true rfl)⟩ (Nat.le_of_ble_eq_true rfl) ?_
        rw [hA.1]
        refine z_iconst (v := 1) dX10_put_46 rfl (by decide) ?_
        exact z_iret dX10_put_47 rfl rfl (mPost_of (RepM_set (c := sVal sort v) hR (ix_lt c4) h2 hk hk8 hj (sConv_ok (sVal_ok v (by grind)) ⟨hA.2.2.1.1, hA.2.2.1.2.1⟩ (by rw [sVal_1]; exact (pf_0 c28).2.2))) (by grind [pPut])) (Nat.le_of_ble_eq_true rfl) (Nat.le_of_ble_eq_true rfl)
      · skip
        refine z_bipush (v := -10) dX10_put_31 rfl (by decide) ?_
        refine z_iload dX10_put_33 rfl rfl ?_
        refine z_isub dX10_put_35 rfl ?_
        exact z_iret dX10_put_36 rfl rfl (mPost_of hR (by grind [pPut])) (Nat.le_of_ble_eq_true rfl) (Nat.le_of_ble_eq_true rfl)
    · skip
      refine z_iconst (v := -1) dX10_put_14 rfl (by decide) ?_
      exact z_iret dX10_put_15 rfl rfl (mPost_of hR (by grind [pPut])) (Nat.le_of_ble_eq_true rfl) (Nat.le_of_ble_eq_true rfl)

set_option maxHeartbeats 4000000 in
set_option maxRecDepth 100000 in
theorem R_lay (g : zG) (h : zH) (m : Nat) (S : sMS) (w : sW) (hR : RepM S w) (r i sort v : Int32) : zM g yX10_lay cX10_lay 6 (some .int) rmX10_lay [.ref m, .int r, .int i, .int sort, .int v] (mUp m S h) (mPost m h (pLay w r i sort v)) := by
  refine zM_of (by decide) (Nat.le_of_ble_eq_true rfl) ?_
  refine z_iload_n dX10_lay_0 rfl rfl ?_
  refine zcx_X10_141 rfl dX10_lay_1 rfl (r_isRecord g _ _) rfl rfl ⟨(Nat.le_of_ble_eq_true rfl), (Nat.le_of_ble_eq_true rfl)⟩ ⟨(Nat.le_of_ble_eq_true rfl), (Nat.le_of_ble_eq_true rfl)⟩ (Nat.le_of_ble_eq_true rfl) ?_
  refine z_bif_eq (tgt := 14) dX10_lay_4 rfl (by decide) (fun c4 => ?_) (fun c4 => ?_)
  · skip
    refine z_iconst (v := -1) dX10_lay_14 rfl (by decide) ?_
    exact z_iret dX10_lay_15 rfl rfl (mPost_of hR (by grind [pLay])) (Nat.le_of_ble_eq_true rfl) (Nat.le_of_ble_eq_true rfl)
  · skip
    refine z_iload_n dX10_lay_7 rfl rfl ?_
    refine zcx_X10_184 rfl dX10_lay_8 rfl (r_isSort g _ _) rfl rfl ⟨(Nat.le_of_ble_eq_true rfl), (Nat.le_of_ble_eq_true rfl)⟩ ⟨(Nat.le_of_ble_eq_true rfl), (Nat.le_of_ble_eq_true rfl)⟩ (Nat.le_of_ble_eq_true rfl) ?_
    refine z_bif_ne (tgt := 16) dX10_lay_11 rfl (by decide) (fun c11 => ?_) (fun c11 => ?_)
    · skip
      first | refine z_aload_n dX10_lay_16 rfl rfl ?_ | refine z_aload_nN dX10_lay_16 rfl rfl ?_
      refine z_iload_n dX10_lay_17 rfl rfl ?_
      refine z_iload_n dX10_lay_18 rfl rfl ?_
      refine z_i2l dX10_lay_19 rfl ?_
      refine z_iload_n dX10_lay_20 rfl rfl ?_
      refine zcx_X10_187 rfl dX10_lay_21 rfl mo_recv (q_layFaultI g h m S w.1 hR.1 _ _ _ c4) rfl rfl ⟨(Nat.le_of_ble_eq_true rfl), (Nat.le_of_ble_eq_true rfl)⟩ ⟨(Nat.le_of_ble_eq_true rfl), (Nat.le_of_ble_eq_true rfl)⟩ (Nat.le_of_ble_eq_true rfl) ?_
      refine z_istore dX10_lay_24 rfl (Nat.le_of_ble_eq_true rfl) ?_
      refine z_iload dX10_lay_26 rfl rfl ?_
      refine z_if_le (tgt := 37) dX10_lay_28 rfl (by decide) (fun c28 => ?_) (fun c28 => ?_)
      · skip
        have c28 := le0 c28
        have hcf := cf_0 (lf_0 c28).1
        have h2 := rf_2 (rep_st hR.1 (ix_lt c4)) hcf.1
        obtain ⟨k, hk8, hk, hA⟩ := rep_row hR.1 (ix_lt c4) h2
        have hl := hA.2.2.1.2.2.1
        obtain ⟨j, hj, rfl⟩ := vp_in_of (x := i) (vp_in_iff.mpr ⟨hcf.2.1, hcf.2.2⟩) (by omega)
        have hix : ix (nI j) = j := nI_clamp (by omega)
        first | refine z_aload_n dX10_lay_37 rfl rfl ?_ | refine z_aload_nN dX10_lay_37 rfl rfl ?_
        refine z_iload_n dX10_lay_38 rfl rfl ?_
        refine z_iload_n dX10_lay_39 rfl rfl ?_
        refine z_iload_n dX10_lay_40 rfl rfl ?_
        refine z_iload dX10_lay_41 rfl rfl ?_
        refine zcv_X10_180 rfl dX10_lay_43 rfl mo_recv (q_laysValue g h m S r k j sort v c4 hk hk8 (by omega)) rfl rfl ⟨(Nat.le_of_ble_eq_true rfl), (Nat.le_of_ble_eq_true rfl)⟩ ⟨(Nat.le_of_ble_eq_true rfl), (Nat.le_of_ble_eq_true rfl)⟩ (Nat.le_of_ble_eq_true rfl) ?_
        rw [hA.1]
        refine z_iconst (v := 1) dX10_lay_46 rfl (by decide) ?_
        exact z_iret dX10_lay_47 rfl rfl (mPost_of (RepM_set (c := sVal sort v) hR (ix_lt c4) h2 hk hk8 hj (sConv_ok (sVal_ok v (by grind)) ⟨hA.2.2.1.1, hA.2.2.1.2.1⟩ (by rw [sVal_1]; exact (lf_0 c28).2))) (by grind [pLay])) (Nat.le_of_ble_eq_true rfl) (Nat.le_of_ble_eq_true rfl)
      · skip
        refine z_bipush (v := -10) dX10_lay_31 rfl (by decide) ?_
        refine z_iload dX10_lay_33 rfl rfl ?_
        refine z_isub dX10_lay_35 rfl ?_
        exact z_iret dX10_lay_36 rfl rfl (mPost_of hR (by grind [pLay])) (Nat.le_of_ble_eq_true rfl) (Nat.le_of_ble_eq_true rfl)
    · skip
      refine z_iconst (v := -1) dX10_lay_14 rfl (by decide) ?_
      exact z_iret dX10_lay_15 rfl rfl (mPost_of hR (by grind [pLay])) (Nat.le_of_ble_eq_true rfl) (Nat.le_of_ble_eq_true rfl)

abbrev YX10_fill : zY := (yX10_fill.cls, cX10_fill, 7, (some .int), rmX10_fill, yX10_fill.name, fun _ _ => True)
theorem fill_ans {w : sW} {r i sort v : Int32} {N k : Nat} {f : Int32} {R : sR} (hN : N ≤ 20) (hr : isRec r) (hs : sNum sort) (e : pFillL (ix r) i.toInt (sVal sort v) N 0 w.1 = (k, f, R)) : pFill w r i (nI N) sort v = (nI k, wTorn (wR w R) f) := by
  have h1 : 0 ≤ nI N ∧ nI N ≤ 20 := ⟨nI_pos' (by omega), nI_le (b := 20) hN (by decide)⟩
  unfold pFill
  rw [if_neg (fun q => q.elim (fun q => q hr) (fun q => q.elim (fun q => q h1) (fun q => q hs))), show ix (nI N) = N from nI_clamp (by omega), e]

set_option maxHeartbeats 4000000 in
set_option maxRecDepth 100000 in
theorem R_fill_S (g : zG) (h : zH) (m : Nat) (w : sW) (r i sort v : Int32) (N : Nat) (hN : N ≤ 20) (hr : isRec r) (hs : sNum sort) (S : sMS) (k : Nat) (f : Int32) (R : sR) (hk : k < N) (hf : f ≠ 0) (hR : RepM S (wTorn (wR w R) f)) (he : pFillL (ix r) i.toInt (sVal sort v) N 0 w.1 = (k, f, R)) : zZ g YX10_fill (zE g (mPost m h (pFill w r i (nI N) sort v)) 0 0) 37 [(6, .int (nI k)), (0, .ref m), (1, .int r), (2, .int i), (3, .int (nI N)), (4, .int sort), (5, .int v)] [] (mUp m S h) 0 0 := by
  refine z_iload dX10_fill_37 rfl rfl ?_
  refine z_iload_n dX10_fill_39 rfl rfl ?_
  refine z_icmp_ge (tgt := 93) dX10_fill_40 rfl (by decide) (fun c40 => absurd c40 (nI_ge (by omega) (by omega))) (fun c40 => ?_)
  first | refine z_aload_n dX10_fill_43 rfl rfl ?_ | refine z_aload_nN dX10_fill_43 rfl rfl ?_
  refine zmg_192 rfl dX10_fill_44 rfl ?_
  refine z_if_ne (tgt := 93) dX10_fill_47 rfl (by decide) (fun c47 => ?_) (fun c47 => absurd c47 (fun q => hf (by rw [← q, hR.2.2.2]; rfl)))
  refine z_iload dX10_fill_93 rfl rfl ?_
  exact z_iret dX10_fill_95 rfl rfl (mPost_of hR (fill_ans hN hr hs he)) (Nat.le_of_ble_eq_true rfl) (Nat.le_of_ble_eq_true rfl)
set_option maxHeartbeats 4000000 in
set_option maxRecDepth 100000 in
theorem R_fill_L (g : zG) (h : zH) (m : Nat) (w : sW) (r i sort v : Int32) (N : Nat) (hN : N ≤ 20) (hr : isRec r) (hs : sNum sort) : ∀ (n : Nat) (S : sMS) (k : Nat) (R : sR), k + n = N → RepM S (wTorn (wR w R) 0) → pFillL (ix r) i.toInt (sVal sort v) N 0 w.1 = pFillL (ix r) i.toInt (sVal sort v) n k R → zZ g YX10_fill (zE g (mPost m h (pFill w r i (nI N) sort v)) 0 0) 37 [(6, .int (nI k)), (0, .ref m), (1, .int r), (2, .int i), (3, .int (nI N)), (4, .int sort), (5, .int v)] [] (mUp m S h) 0 0 := by
  intro n
  induction n with
  | zero =>
    intro S k R hk hR he
    refine z_iload dX10_fill_37 rfl rfl ?_
    refine z_iload_n dX10_fill_39 rfl rfl ?_
    refine z_icmp_ge (tgt := 93) dX10_fill_40 rfl (by decide) (fun c40 => ?_) (fun c40 => absurd c40 (fun q => q (nI_le (by omega) (by omega))))
    refine z_iload dX10_fill_93 rfl rfl ?_
    exact z_iret dX10_fill_95 rfl rfl (mPost_of hR (fill_ans hN hr hs (by rw [he]; rfl))) (Nat.le_of_ble_eq_true rfl) (Nat.le_of_ble_eq_true rfl)
  | succ n ih =>
    intro S k R hk hR he
    refine z_iload dX10_fill_37 rfl rfl ?_
    refine z_iload_n dX10_fill_39 rfl rfl ?_
    refine z_icmp_ge (tgt := 93) dX10_fill_40 rfl (by decide) (fun c40 => absurd c40 (nI_ge (by omega) (by omega))) (fun c40 => ?_)
    first | refine z_aload_n dX10_fill_43 rfl rfl ?_ | refine z_aload_nN dX10_fill_43 rfl rfl ?_
    refine zmg_192 rfl dX10_fill_44 rfl ?_
    refine z_if_ne (tgt := 93) dX10_fill_47 rfl (by decide) (fun c47 => absurd c47 (fun q => q hR.2.2.2)) (fun c47 => ?_)
    first | refine z_aload_n dX10_fill_50 rfl rfl ?_ | refine z_aload_nN dX10_fill_50 rfl rfl ?_
    first | refine z_aload_n dX10_fill_51 rfl rfl ?_ | refine z_aload_nN dX10_fill_51 rfl rfl ?_
    refine z_iload_n dX10_fill_52 rfl rfl ?_
    refine z_iload_n dX10_fill_53 rfl rfl ?_
    refine z_i2l dX10_fill_54 rfl ?_
    refine z_iload dX10_fill_55 rfl rfl ?_
    refine z_i2l dX10_fill_57 rfl ?_
    refine z_ladd dX10_fill_58 rfl ?_
    refine z_iload dX10_fill_59 rfl rfl ?_
    refine zcx_X10_177 rfl dX10_fill_61 rfl mo_recv (q_putFault g h m S R hR.1 _ _ _ hr) rfl rfl ⟨(Nat.le_of_ble_eq_true rfl), (Nat.le_of_ble_eq_true rfl)⟩ ⟨(Nat.le_of_ble_eq_true rfl), (Nat.le_of_ble_eq_true rfl)⟩ (Nat.le_of_ble_eq_true rfl) ?_
    rw [addL i (by omega)]
    refine zmp_192 rfl dX10_fill_64 rfl ?_
    first | refine z_aload_n dX10_fill_67 rfl rfl ?_ | refine z_aload_nN dX10_fill_67 rfl rfl ?_
    refine zmg_192 rfl dX10_fill_68 rfl ?_
    refine z_if_ne (tgt := 37) dX10_fill_71 rfl (by decide) (fun c71 => ?_) (fun c71 => ?_)
    · exact z_lv [(6, .int (nI k)), (0, .ref m), (1, .int r), (2, .int i), (3, .int (nI N)), (4, .int sort), (5, .int v)] ⟨rfl, rfl, rfl, rfl, rfl, rfl, rfl, trivial⟩ (R_fill_S g h m w r i sort v N hN hr hs _ k (putF R (ix r) (i.toInt + k) sort) R (by omega) (show putF R (ix r) (i.toInt + k) sort ≠ 0 from c71) (RepM_torn hR _) (by rw [he, pFillL, if_neg (show ¬ putF R (ix r) (i.toInt + k) (sVal sort v).1 = 0 by rw [sVal_1]; exact c71), sVal_1]))
    have hpf : ¬ 0 < putF R (ix r) (i.toInt + k) sort := fun q => by
      have c72 : putF R (ix r) (i.toInt + k) sort = 0 := c71
      rw [c72] at q
      exact absurd q (by decide)
    have hcf := cf_0 (pf_0 hpf).1
    have h2 := rf_2 (rep_st hR.1 (ix_lt hr)) hcf.1
    obtain ⟨k0, hk8, hk0, hA⟩ := rep_row hR.1 (ix_lt hr) h2
    have hl : (R.2.1 (ix r)).2.length ≤ 20 := hA.2.2.1.2.2.1
    obtain ⟨j, hj⟩ : ∃ j : Nat, i.toInt + k = j := ⟨(i.toInt + k).toNat, by omega⟩
    have hj2 : j < (R.2.1 (ix r)).2.length := by omega
    first | refine z_aload_n dX10_fill_74 rfl rfl ?_ | refine z_aload_nN dX10_fill_74 rfl rfl ?_
    refine z_iload_n dX10_fill_75 rfl rfl ?_
    refine z_iload_n dX10_fill_76 rfl rfl ?_
    refine z_iload dX10_fill_77 rfl rfl ?_
    refine z_iadd dX10_fill_79 rfl ?_
    rw [addI hj (by omega) (by omega)]
    refine z_iload dX10_fill_80 rfl rfl ?_
    refine z_iload dX10_fill_82 rfl rfl ?_
    refine zcv_X10_180 rfl dX10_fill_84 rfl mo_recv (q_laysValue g h m _ r k0 j sort v hr hk0 hk8 (by omega)) rfl rfl ⟨(Nat.le_of_ble_eq_true rfl), (Nat.le_of_ble_eq_true rfl)⟩ ⟨(Nat.le_of_ble_eq_true rfl), (Nat.le_of_ble_eq_true rfl)⟩ (Nat.le_of_ble_eq_true rfl) ?_
    rw [hA.1]
    refine z_iinc (v := nI (k + 1)) dX10_fill_87 rfl rfl (nI_inc k) (Nat.le_of_ble_eq_true rfl) ?_
    refine z_goto (tgt := 37) dX10_fill_90 rfl (by decide) ?_
    refine z_lv [(6, .int (nI (k + 1))), (0, .ref m), (1, .int r), (2, .int i), (3, .int (nI N)), (4, .int sort), (5, .int v)] ⟨rfl, rfl, rfl, rfl, rfl, rfl, rfl, trivial⟩ ?_
    exact ih _ (k + 1) (rSet R (ix r) j (sConv (sVal sort v) (R.2.1 (ix r)).1)) (by omega) (RepM_set (w := wTorn (wR w R) 0) (by have := RepM_torn hR (putF R (ix r) (i.toInt + k) sort); rw [show putF R (ix r) (i.toInt + k) sort = 0 from c71] at this ⊢; exact this) (ix_lt hr) h2 hk0 hk8 hj2 (sConv_ok (sVal_ok v (by grind)) ⟨hA.2.2.1.1, hA.2.2.1.2.1⟩ (by rw [sVal_1]; exact (pf_0 hpf).2.2))) (by rw [he, pFillL, if_pos (show putF R (ix r) (i.toInt + k) (sVal sort v).1 = 0 by rw [sVal_1]; exact c71), show (i.toInt + k).toNat = j by omega])
set_option maxHeartbeats 4000000 in
set_option maxRecDepth 100000 in
theorem R_fill (g : zG) (h : zH) (m : Nat) (S : sMS) (w : sW) (hR : RepM S w) (r i n sort v : Int32) : zM g yX10_fill cX10_fill 7 (some .int) rmX10_fill [.ref m, .int r, .int i, .int n, .int sort, .int v] (mUp m S h) (mPost m h (pFill w r i n sort v)) := by
  refine zM_of (by decide) (Nat.le_of_ble_eq_true rfl) ?_
  refine z_iload_n dX10_fill_0 rfl rfl ?_
  refine zcx_X10_141 rfl dX10_fill_1 rfl (r_isRecord g _ _) rfl rfl ⟨(Nat.le_of_ble_eq_true rfl), (Nat.le_of_ble_eq_true rfl)⟩ ⟨(Nat.le_of_ble_eq_true rfl), (Nat.le_of_ble_eq_true rfl)⟩ (Nat.le_of_ble_eq_true rfl) ?_
  refine z_bif_eq (tgt := 27) dX10_fill_4 rfl (by decide) (fun c4 => ?_) (fun c4 => ?_)
  · skip
    refine z_iconst (v := -1) dX10_fill_27 rfl (by decide) ?_
    exact z_iret dX10_fill_28 rfl rfl (mPost_of hR (by grind [pFill])) (Nat.le_of_ble_eq_true rfl) (Nat.le_of_ble_eq_true rfl)
  · skip
    refine z_iload_n dX10_fill_7 rfl rfl ?_
    refine z_i2l dX10_fill_8 rfl ?_
    refine z_lconst (v := 0) dX10_fill_9 rfl (by decide) ?_
    refine zk_X10_190 rfl dX10_fill_10 rfl ?_
    refine zcx_X10_72 rfl dX10_fill_13 rfl (r_in32 g _ _ 0 20 rfl rfl) rfl rfl ⟨(Nat.le_of_ble_eq_true rfl), (Nat.le_of_ble_eq_true rfl)⟩ ⟨(Nat.le_of_ble_eq_true rfl), (Nat.le_of_ble_eq_true rfl)⟩ (Nat.le_of_ble_eq_true rfl) ?_
    refine z_bif_eq (tgt := 27) dX10_fill_16 rfl (by decide) (fun c16 => ?_) (fun c16 => ?_)
    · skip
      refine z_iconst (v := -1) dX10_fill_27 rfl (by decide) ?_
      exact z_iret dX10_fill_28 rfl rfl (mPost_of hR (by grind [pFill])) (Nat.le_of_ble_eq_true rfl) (Nat.le_of_ble_eq_true rfl)
    · skip
      refine z_iload dX10_fill_19 rfl rfl ?_
      refine zcx_X10_159 rfl dX10_fill_21 rfl (r_isKind g _ _) rfl rfl ⟨(Nat.le_of_ble_eq_true rfl), (Nat.le_of_ble_eq_true rfl)⟩ ⟨(Nat.le_of_ble_eq_true rfl), (Nat.le_of_ble_eq_true rfl)⟩ (Nat.le_of_ble_eq_true rfl) ?_
      refine z_bif_ne (tgt := 29) dX10_fill_24 rfl (by decide) (fun c24 => ?_) (fun c24 => ?_)
      · skip
        obtain ⟨N, hN, rfl⟩ := nI_of2 (x := n) (M := 20) (n := 20) (by decide) (by grind) c16.2
        refine z_iconst (v := 0) dX10_fill_29 rfl (by decide) ?_
        refine z_istore dX10_fill_30 rfl (Nat.le_of_ble_eq_true rfl) ?_
        first | refine z_aload_n dX10_fill_32 rfl rfl ?_ | refine z_aload_nN dX10_fill_32 rfl rfl ?_
        refine z_iconst (v := 0) dX10_fill_33 rfl (by decide) ?_
        refine zmp_192 rfl dX10_fill_34 rfl ?_
        refine z_lv [(6, .int (nI 0)), (0, .ref m), (1, .int r), (2, .int i), (3, .int (nI N)), (4, .int sort), (5, .int v)] ⟨rfl, rfl, rfl, rfl, rfl, rfl, rfl, trivial⟩ ?_
        exact R_fill_L g h m w r i sort v N hN c4 c24 N _ 0 w.1 (by omega) (RepM_torn hR 0) rfl
      · skip
        refine z_iconst (v := -1) dX10_fill_27 rfl (by decide) ?_
        exact z_iret dX10_fill_28 rfl rfl (mPost_of hR (by grind [pFill])) (Nat.le_of_ble_eq_true rfl) (Nat.le_of_ble_eq_true rfl)

