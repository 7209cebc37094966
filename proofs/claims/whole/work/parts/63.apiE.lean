set_option maxHeartbeats 800000 in
set_option maxRecDepth 100000 in
theorem C_put (g : zG) (h : zH) (x m : Nat) (w : sW) (hRC : RepC h x m w) (r i sort v : Int32) : zM g yX9_put cX9_put 6 (some .int) rmX9_put [.ref x, .int r, .int i, .int sort, .int v] h (cPost x m h (pPut w r i sort v)) := by
  refine zM_of (by decide) (Nat.le_of_ble_eq_true rfl) ?_
  obtain ⟨col, p, F, Z, k, I, P, q, T, V, hR⟩ := id hRC
  obtain ⟨hw, hz, hS, hq, hr, hX⟩ := id hR
  obtain ⟨S0, S1, S2, S3, S4, S5⟩ := id hS
  obtain ⟨R0, R1, R2, R3⟩ := id hr
  refine z_iload_n dX9_put_0 rfl rfl ?_
  refine zcx_X9_46 rfl dX9_put_1 rfl (m_isRecord g h _) rfl rfl ⟨(Nat.le_of_ble_eq_true rfl), (Nat.le_of_ble_eq_true rfl)⟩ ⟨(Nat.le_of_ble_eq_true rfl), (Nat.le_of_ble_eq_true rfl)⟩ (Nat.le_of_ble_eq_true rfl) ?_
  refine z_bif_eq (tgt := 17) dX9_put_4 rfl (by decide) (fun c4 => ?_) (fun c4 => ?_)
  · skip
    refine z_iconst (v := -1) dX9_put_17 rfl (by decide) ?_
    exact z_iret dX9_put_18 rfl rfl (cPost_same hRC (by grind [pPut])) (Nat.le_of_ble_eq_true rfl) (Nat.le_of_ble_eq_true rfl)
  · skip
    refine z_iload_n dX9_put_7 rfl rfl ?_
    refine z_iconst (v := 0) dX9_put_8 rfl (by decide) ?_
    refine z_bipush (v := 7) dX9_put_9 rfl (by decide) ?_
    refine zcx_X9_50 rfl dX9_put_11 rfl (m_isWithin g h _ _ _) rfl rfl ⟨(Nat.le_of_ble_eq_true rfl), (Nat.le_of_ble_eq_true rfl)⟩ ⟨(Nat.le_of_ble_eq_true rfl), (Nat.le_of_ble_eq_true rfl)⟩ (Nat.le_of_ble_eq_true rfl) ?_
    refine z_bif_ne (tgt := 19) dX9_put_14 rfl (by decide) (fun c14 => ?_) (fun c14 => ?_)
    · skip
      first | refine z_aload_n dX9_put_19 rfl rfl ?_ | refine z_aload_nN dX9_put_19 rfl rfl ?_
      refine zg_X9_42 rfl dX9_put_20 rfl S0 rfl ?_
      refine z_iconst (v := 0) dX9_put_23 rfl (by decide) ?_
      refine z_iload_n dX9_put_24 rfl rfl ?_
      refine z_iload dX9_put_25 rfl rfl ?_
      refine zcv_X9_110 rfl dX9_put_27 rfl S5.1 (m_setValue g h (x + 53) 9 1 V S5 (by decide) 0 (by decide) sort v) rfl rfl ⟨(Nat.le_of_ble_eq_true rfl), (Nat.le_of_ble_eq_true rfl)⟩ ⟨(Nat.le_of_ble_eq_true rfl), (Nat.le_of_ble_eq_true rfl)⟩ (Nat.le_of_ble_eq_true rfl) ?_
      have hR1 := (RC_v hR (uC V 0 (sVal sort v))).1
      have hm1 := ext_mod (RC_v hR (uC V 0 (sVal sort v))).2 hz (by unfold D1; decide)
      obtain ⟨S0, S1, S2, S3, S4, S5⟩ := id hR1.2.2.1
      have ov : sOk (uC V 0 (sVal sort v) 0) := sVal_ok v ⟨c14.1, by have := c14.2; grind⟩
      first | refine z_aload_n dX9_put_30 rfl rfl ?_ | refine z_aload_nN dX9_put_30 rfl rfl ?_
      refine z_iload_n dX9_put_31 rfl rfl ?_
      refine z_iload_n dX9_put_32 rfl rfl ?_
      refine zc_X9_114 rfl dX9_put_33 rfl S0 (m_writeNumber g (cUp (x + 53) 9 1 (uC V 0 (sVal sort v)) h) x m w col p F Z k I P q T (uC V 0 (sVal sort v)) hR1 r i c4 ov) rfl rfl ⟨(Nat.le_of_ble_eq_true rfl), (Nat.le_of_ble_eq_true rfl)⟩ ⟨(Nat.le_of_ble_eq_true rfl), (Nat.le_of_ble_eq_true rfl)⟩ (Nat.le_of_ble_eq_true rfl) (fun vv h1 hz1 => ?_)
      rw [show (uC V 0 (sVal sort v) 0) = sVal sort v from rfl, sVal_1] at hz1
      rcases hz1 with ⟨hne, rfl, rfl⟩ | ⟨h0, rfl, hR2, hm2⟩
      · skip
        refine z_istore dX9_put_36 rfl (Nat.le_of_ble_eq_true rfl) ?_
        refine z_iload dX9_put_38 rfl rfl ?_
        refine z_if_ne (tgt := 47) dX9_put_40 rfl (by decide) (fun c40 => ?_) (fun c40 => absurd c40 hne)
        refine z_iload dX9_put_47 rfl rfl ?_
        refine zcx_X9_62 rfl dX9_put_49 rfl (m_answer g (cUp (x + 53) 9 1 (uC V 0 (sVal sort v)) h) _) rfl rfl ⟨(Nat.le_of_ble_eq_true rfl), (Nat.le_of_ble_eq_true rfl)⟩ ⟨(Nat.le_of_ble_eq_true rfl), (Nat.le_of_ble_eq_true rfl)⟩ (Nat.le_of_ble_eq_true rfl) ?_
        exact z_iret dX9_put_52 rfl rfl (cPost_RC hR1 hm1 (by rw [pPut, if_neg (by grind), if_pos (by unfold putF at hne ⊢; have := cf_ge w.1 (ix r) i.toInt; grind)])) (Nat.le_of_ble_eq_true rfl) (Nat.le_of_ble_eq_true rfl)
      · skip
        refine z_istore dX9_put_36 rfl (Nat.le_of_ble_eq_true rfl) ?_
        refine z_iload dX9_put_38 rfl rfl ?_
        refine z_if_ne (tgt := 47) dX9_put_40 rfl (by decide) (fun c40 => absurd c40 (fun z => z rfl)) (fun c40 => ?_)
        refine z_iconst (v := 1) dX9_put_43 rfl (by decide) ?_
        refine z_goto (tgt := 52) dX9_put_44 rfl (by decide) ?_
        exact z_iret dX9_put_52 rfl rfl (cPost_RC hR2 (fun a b c => (hm2 a b c).trans (hm1 a b c)) (by rw [pPut, if_neg (by grind), if_neg (by rw [h0]; decide)])) (Nat.le_of_ble_eq_true rfl) (Nat.le_of_ble_eq_true rfl)
    · skip
      refine z_iconst (v := -1) dX9_put_17 rfl (by decide) ?_
      exact z_iret dX9_put_18 rfl rfl (cPost_same hRC (by grind [pPut])) (Nat.le_of_ble_eq_true rfl) (Nat.le_of_ble_eq_true rfl)

set_option maxHeartbeats 800000 in
set_option maxRecDepth 100000 in
theorem C_lay (g : zG) (h : zH) (x m : Nat) (w : sW) (hRC : RepC h x m w) (r i sort v : Int32) : zM g yX9_lay cX9_lay 6 (some .int) rmX9_lay [.ref x, .int r, .int i, .int sort, .int v] h (cPost x m h (pLay w r i sort v)) := by
  refine zM_of (by decide) (Nat.le_of_ble_eq_true rfl) ?_
  obtain ⟨col, p, F, Z, k, I, P, q, T, V, hR⟩ := id hRC
  obtain ⟨hw, hz, hS, hq, hr, hX⟩ := id hR
  obtain ⟨S0, S1, S2, S3, S4, S5⟩ := id hS
  obtain ⟨R0, R1, R2, R3⟩ := id hr
  refine z_iload_n dX9_lay_0 rfl rfl ?_
  refine zcx_X9_46 rfl dX9_lay_1 rfl (m_isRecord g h _) rfl rfl ⟨(Nat.le_of_ble_eq_true rfl), (Nat.le_of_ble_eq_true rfl)⟩ ⟨(Nat.le_of_ble_eq_true rfl), (Nat.le_of_ble_eq_true rfl)⟩ (Nat.le_of_ble_eq_true rfl) ?_
  refine z_bif_eq (tgt := 17) dX9_lay_4 rfl (by decide) (fun c4 => ?_) (fun c4 => ?_)
  · skip
    refine z_iconst (v := -1) dX9_lay_17 rfl (by decide) ?_
    exact z_iret dX9_lay_18 rfl rfl (cPost_same hRC (by grind [pLay])) (Nat.le_of_ble_eq_true rfl) (Nat.le_of_ble_eq_true rfl)
  · skip
    refine z_iload_n dX9_lay_7 rfl rfl ?_
    refine z_iconst (v := 0) dX9_lay_8 rfl (by decide) ?_
    refine z_bipush (v := 10) dX9_lay_9 rfl (by decide) ?_
    refine zcx_X9_50 rfl dX9_lay_11 rfl (m_isWithin g h _ _ _) rfl rfl ⟨(Nat.le_of_ble_eq_true rfl), (Nat.le_of_ble_eq_true rfl)⟩ ⟨(Nat.le_of_ble_eq_true rfl), (Nat.le_of_ble_eq_true rfl)⟩ (Nat.le_of_ble_eq_true rfl) ?_
    refine z_bif_ne (tgt := 19) dX9_lay_14 rfl (by decide) (fun c14 => ?_) (fun c14 => ?_)
    · skip
      first | refine z_aload_n dX9_lay_19 rfl rfl ?_ | refine z_aload_nN dX9_lay_19 rfl rfl ?_
      refine zg_X9_42 rfl dX9_lay_20 rfl S0 rfl ?_
      refine z_iconst (v := 0) dX9_lay_23 rfl (by decide) ?_
      refine z_iload_n dX9_lay_24 rfl rfl ?_
      refine z_iload dX9_lay_25 rfl rfl ?_
      refine zcv_X9_110 rfl dX9_lay_27 rfl S5.1 (m_setValue g h (x + 53) 9 1 V S5 (by decide) 0 (by decide) sort v) rfl rfl ⟨(Nat.le_of_ble_eq_true rfl), (Nat.le_of_ble_eq_true rfl)⟩ ⟨(Nat.le_of_ble_eq_true rfl), (Nat.le_of_ble_eq_true rfl)⟩ (Nat.le_of_ble_eq_true rfl) ?_
      have hR1 := (RC_v hR (uC V 0 (sVal sort v))).1
      have hm1 := ext_mod (RC_v hR (uC V 0 (sVal sort v))).2 hz (by unfold D1; decide)
      obtain ⟨S0, S1, S2, S3, S4, S5⟩ := id hR1.2.2.1
      have ov : sOk (uC V 0 (sVal sort v) 0) := sVal_ok v c14
      first | refine z_aload_n dX9_lay_30 rfl rfl ?_ | refine z_aload_nN dX9_lay_30 rfl rfl ?_
      refine z_iload_n dX9_lay_31 rfl rfl ?_
      refine z_iload_n dX9_lay_32 rfl rfl ?_
      first | refine z_aload_n dX9_lay_33 rfl rfl ?_ | refine z_aload_nN dX9_lay_33 rfl rfl ?_
      refine zg_X9_42 rfl dX9_lay_34 rfl S0 rfl ?_
      refine z_iconst (v := 0) dX9_lay_37 rfl (by decide) ?_
      refine zc_X9_117 rfl dX9_lay_38 rfl S0 (m_writeCell g (cUp (x + 53) 9 1 (uC V 0 (sVal sort v)) h) x m w col p F Z k I P q T (uC V 0 (sVal sort v)) hR1 r i c4 (x + 53) 9 1 (uC V 0 (sVal sort v)) S5 (by decide) 0 (by decide) ov) rfl rfl ⟨(Nat.le_of_ble_eq_true rfl), (Nat.le_of_ble_eq_true rfl)⟩ ⟨(Nat.le_of_ble_eq_true rfl), (Nat.le_of_ble_eq_true rfl)⟩ (Nat.le_of_ble_eq_true rfl) (fun vv h1 hz1 => ?_)
      rw [show (uC V 0 (sVal sort v) 0) = sVal sort v from rfl, sVal_1] at hz1
      rcases hz1 with ⟨hne, rfl, rfl⟩ | ⟨h0, rfl, hR2, hm2⟩
      · skip
        refine z_istore dX9_lay_41 rfl (Nat.le_of_ble_eq_true rfl) ?_
        refine z_iload dX9_lay_43 rfl rfl ?_
        refine z_if_ne (tgt := 52) dX9_lay_45 rfl (by decide) (fun c45 => ?_) (fun c45 => absurd c45 hne)
        refine z_iload dX9_lay_52 rfl rfl ?_
        refine zcx_X9_62 rfl dX9_lay_54 rfl (m_answer g (cUp (x + 53) 9 1 (uC V 0 (sVal sort v)) h) _) rfl rfl ⟨(Nat.le_of_ble_eq_true rfl), (Nat.le_of_ble_eq_true rfl)⟩ ⟨(Nat.le_of_ble_eq_true rfl), (Nat.le_of_ble_eq_true rfl)⟩ (Nat.le_of_ble_eq_true rfl) ?_
        exact z_iret dX9_lay_57 rfl rfl (cPost_RC hR1 hm1 (by rw [pLay, if_neg (by grind), if_pos (by unfold layF at hne ⊢; have := cf_ge w.1 (ix r) i.toInt; grind)])) (Nat.le_of_ble_eq_true rfl) (Nat.le_of_ble_eq_true rfl)
      · skip
        refine z_istore dX9_lay_41 rfl (Nat.le_of_ble_eq_true rfl) ?_
        refine z_iload dX9_lay_43 rfl rfl ?_
        refine z_if_ne (tgt := 52) dX9_lay_45 rfl (by decide) (fun c45 => absurd c45 (fun z => z rfl)) (fun c45 => ?_)
        refine z_iconst (v := 1) dX9_lay_48 rfl (by decide) ?_
        refine z_goto (tgt := 57) dX9_lay_49 rfl (by decide) ?_
        exact z_iret dX9_lay_57 rfl rfl (cPost_RC hR2 (fun a b c => (hm2 a b c).trans (hm1 a b c)) (by rw [pLay, if_neg (by grind), if_neg (by rw [h0]; decide)])) (Nat.le_of_ble_eq_true rfl) (Nat.le_of_ble_eq_true rfl)
    · skip
      refine z_iconst (v := -1) dX9_lay_17 rfl (by decide) ?_
      exact z_iret dX9_lay_18 rfl rfl (cPost_same hRC (by grind [pLay])) (Nat.le_of_ble_eq_true rfl) (Nat.le_of_ble_eq_true rfl)

set_option maxHeartbeats 800000 in
set_option maxRecDepth 100000 in
theorem C_sum (g : zG) (h : zH) (x m : Nat) (w : sW) (hRC : RepC h x m w) (r kind : Int32) : zM g yX9_sum cX9_sum 5 (some .int) rmX9_sum [.ref x, .int r, .int kind] h (cPost x m h (pSum w r kind)) := by
  refine zM_of (by decide) (Nat.le_of_ble_eq_true rfl) ?_
  obtain ⟨col, p, F, Z, k, I, P, q, T, V, hR⟩ := id hRC
  obtain ⟨hw, hz, hS, hq, hr, hX⟩ := id hR
  obtain ⟨S0, S1, S2, S3, S4, S5⟩ := id hS
  obtain ⟨R0, R1, R2, R3⟩ := id hr
  refine z_iload_n dX9_sum_0 rfl rfl ?_
  refine zcx_X9_46 rfl dX9_sum_1 rfl (m_isRecord g h _) rfl rfl ⟨(Nat.le_of_ble_eq_true rfl), (Nat.le_of_ble_eq_true rfl)⟩ ⟨(Nat.le_of_ble_eq_true rfl), (Nat.le_of_ble_eq_true rfl)⟩ (Nat.le_of_ble_eq_true rfl) ?_
  refine z_bif_eq (tgt := 17) dX9_sum_4 rfl (by decide) (fun c4 => ?_) (fun c4 => ?_)
  · skip
    refine z_iconst (v := -1) dX9_sum_17 rfl (by decide) ?_
    exact z_iret dX9_sum_18 rfl rfl (cPost_same hRC (by grind [pSum])) (Nat.le_of_ble_eq_true rfl) (Nat.le_of_ble_eq_true rfl)
  · skip
    refine z_iload_n dX9_sum_7 rfl rfl ?_
    refine z_iconst (v := 1) dX9_sum_8 rfl (by decide) ?_
    refine z_bipush (v := 7) dX9_sum_9 rfl (by decide) ?_
    refine zcx_X9_50 rfl dX9_sum_11 rfl (m_isWithin g h _ _ _) rfl rfl ⟨(Nat.le_of_ble_eq_true rfl), (Nat.le_of_ble_eq_true rfl)⟩ ⟨(Nat.le_of_ble_eq_true rfl), (Nat.le_of_ble_eq_true rfl)⟩ (Nat.le_of_ble_eq_true rfl) ?_
    refine z_bif_ne (tgt := 19) dX9_sum_14 rfl (by decide) (fun c14 => ?_) (fun c14 => ?_)
    · skip
      rcases hF : F (ix r) with _ | a
      · have hrf := rf_n hr (ix_lt c4) hF
        have hrn := rc_n hr (ix_lt c4) hF
        have hpos : 0 < rowF w.1 (ix r) := by rw [← hrf]; split <;> decide
        first | refine z_aload_n dX9_sum_19 rfl rfl ?_ | refine z_aload_nN dX9_sum_19 rfl rfl ?_
        refine zg_X9_10 rfl dX9_sum_20 rfl S0 rfl ?_
        refine zg_X9_69 rfl dX9_sum_23 rfl R0.1 rfl ?_
        refine z_iload_n dX9_sum_26 rfl rfl ?_
        refine z_aaldn dX9_sum_27 rfl R0.2.1 rfl rfl (rec_in c4) hF ?_
        first | refine z_astore_n dX9_sum_28 rfl (Nat.le_of_ble_eq_true rfl) ?_ | refine z_astore_nN dX9_sum_28 rfl (Nat.le_of_ble_eq_true rfl) ?_
        first | refine z_aload_n dX9_sum_29 rfl rfl ?_ | refine z_aload_nN dX9_sum_29 rfl rfl ?_
        refine z_ifnonnullN dX9_sum_30 rfl ?_
        first | refine z_aload_n dX9_sum_33 rfl rfl ?_ | refine z_aload_nN dX9_sum_33 rfl rfl ?_
        refine zg_X9_10 rfl dX9_sum_34 rfl S0 rfl ?_
        refine z_iload_n dX9_sum_37 rfl rfl ?_
        refine zcx_X9_85 rfl dX9_sum_38 rfl R0.1 (m_faultI g h p F Z R0 _ c4) rfl rfl ⟨(Nat.le_of_ble_eq_true rfl), (Nat.le_of_ble_eq_true rfl)⟩ ⟨(Nat.le_of_ble_eq_true rfl), (Nat.le_of_ble_eq_true rfl)⟩ (Nat.le_of_ble_eq_true rfl) ?_
        refine zcx_X9_62 rfl dX9_sum_41 rfl (m_answer g h _) rfl rfl ⟨(Nat.le_of_ble_eq_true rfl), (Nat.le_of_ble_eq_true rfl)⟩ ⟨(Nat.le_of_ble_eq_true rfl), (Nat.le_of_ble_eq_true rfl)⟩ (Nat.le_of_ble_eq_true rfl) ?_
        exact z_iret dX9_sum_44 rfl rfl (cPost_same hRC (by rw [pSum, if_neg (by grind), sumFt, if_pos hpos, if_pos hpos, hrf])) (Nat.le_of_ble_eq_true rfl) (Nat.le_of_ble_eq_true rfl)
      · obtain ⟨h2, hZ, ⟨ho, c, hc, hcl⟩, hcol⟩ := rc_a hr (ix_lt c4) hF
        have hrf := rf_a hr (ix_lt c4) hF
        have hl : (w.1.2.1 (ix r)).2.length ≤ 20 := ho.2.2.1
        have hck : ∀ j, j < (w.1.2.1 (ix r)).2.length → sOk (c j) ∧ sFit (c j) (w.1.2.1 (ix r)).1 := fun j hj => cl_ok (h := h) (a := a) ho hcl hj
        by_cases h0l : (w.1.2.1 (ix r)).2.length = 0
        · skip
          first | refine z_aload_n dX9_sum_19 rfl rfl ?_ | refine z_aload_nN dX9_sum_19 rfl rfl ?_
          refine zg_X9_10 rfl dX9_sum_20 rfl S0 rfl ?_
          refine zg_X9_69 rfl dX9_sum_23 rfl R0.1 rfl ?_
          refine z_iload_n dX9_sum_26 rfl rfl ?_
          refine z_aalds dX9_sum_27 rfl R0.2.1 rfl rfl (rec_in c4) hF ?_
          first | refine z_astore_n dX9_sum_28 rfl (Nat.le_of_ble_eq_true rfl) ?_ | refine z_astore_nN dX9_sum_28 rfl (Nat.le_of_ble_eq_true rfl) ?_
          first | refine z_aload_n dX9_sum_29 rfl rfl ?_ | refine z_aload_nN dX9_sum_29 rfl rfl ?_
          refine z_ifnonnull (tgt := 45) dX9_sum_30 rfl (by decide) ?_
          first | refine z_aload_n dX9_sum_45 rfl rfl ?_ | refine z_aload_nN dX9_sum_45 rfl rfl ?_
          refine zg_X9_88 rfl dX9_sum_46 rfl hc.1 rfl ?_
          refine z_if_ne (tgt := 56) dX9_sum_49 rfl (by decide) (fun c49 => absurd c49 (fun z => z (by rw [h0l]; rfl))) (fun c49 => ?_)
          refine z_iconst (v := 0) dX9_sum_52 rfl (by decide) ?_
          refine z_goto (tgt := 61) dX9_sum_53 rfl (by decide) ?_
          refine z_istore dX9_sum_61 rfl (Nat.le_of_ble_eq_true rfl) ?_
          refine z_iload dX9_sum_63 rfl rfl ?_
          refine z_if_eq (tgt := 74) dX9_sum_65 rfl (by decide) (fun c65 => ?_) (fun c65 => absurd c65 (fun z => z rfl))
          first | refine z_aload_n dX9_sum_74 rfl rfl ?_ | refine z_aload_nN dX9_sum_74 rfl rfl ?_
          first | refine z_aload_n dX9_sum_75 rfl rfl ?_ | refine z_aload_nN dX9_sum_75 rfl rfl ?_
          refine z_iload_n dX9_sum_76 rfl rfl ?_
          refine zcx_X9_124 rfl dX9_sum_77 rfl hc.1 (m_total g h a _ _ c hc hl (w.1.2.1 (ix r)).2 rfl hcl kind (fun e j hj => absurd hj (by omega)) (fun e j hj => absurd hj (by omega))) rfl rfl ⟨(Nat.le_of_ble_eq_true rfl), (Nat.le_of_ble_eq_true rfl)⟩ ⟨(Nat.le_of_ble_eq_true rfl), (Nat.le_of_ble_eq_true rfl)⟩ (Nat.le_of_ble_eq_true rfl) ?_
          refine zp_X9_103 rfl dX9_sum_80 rfl S0 rfl rfl (Nat.le_of_ble_eq_true rfl) ?_
          refine z_iconst (v := 1) dX9_sum_83 rfl (by decide) ?_
          exact z_iret dX9_sum_84 rfl rfl (cPost_x hR (w' := wGot w (sSum (w.1.2.1 (ix r)).2 kind)) ⟨rfl, rfl, rfl, rfl⟩ (by have hsf : sumFt w.1 (ix r) kind = 0 := (by rw [sumFt, hrf, if_neg (show ¬ (0 : Int32) < 0 by decide), if_pos h0l]); rw [pSum, if_neg (by grind), hsf, if_neg (by decide)])) (Nat.le_of_ble_eq_true rfl) (Nat.le_of_ble_eq_true rfl)
        · have hne0 := h0l
          first | refine z_aload_n dX9_sum_19 rfl rfl ?_ | refine z_aload_nN dX9_sum_19 rfl rfl ?_
          refine zg_X9_10 rfl dX9_sum_20 rfl S0 rfl ?_
          refine zg_X9_69 rfl dX9_sum_23 rfl R0.1 rfl ?_
          refine z_iload_n dX9_sum_26 rfl rfl ?_
          refine z_aalds dX9_sum_27 rfl R0.2.1 rfl rfl (rec_in c4) hF ?_
          first | refine z_astore_n dX9_sum_28 rfl (Nat.le_of_ble_eq_true rfl) ?_ | refine z_astore_nN dX9_sum_28 rfl (Nat.le_of_ble_eq_true rfl) ?_
          first | refine z_aload_n dX9_sum_29 rfl rfl ?_ | refine z_aload_nN dX9_sum_29 rfl rfl ?_
          refine z_ifnonnull (tgt := 45) dX9_sum_30 rfl (by decide) ?_
          first | refine z_aload_n dX9_sum_45 rfl rfl ?_ | refine z_aload_nN dX9_sum_45 rfl rfl ?_
          refine zg_X9_88 rfl dX9_sum_46 rfl hc.1 rfl ?_
          refine z_if_ne (tgt := 56) dX9_sum_49 rfl (by decide) (fun c49 => ?_) (fun c49 => absurd c49 (fun z => hne0 ((nI_eq0 (by omega)).mp z)))
          first | refine z_aload_n dX9_sum_56 rfl rfl ?_ | refine z_aload_nN dX9_sum_56 rfl rfl ?_
          refine z_iload_n dX9_sum_57 rfl rfl ?_
          refine zcx_X9_95 rfl dX9_sum_58 rfl (m_readFault g h a _ _ c hc ⟨ho.1, ho.2.1⟩ kind ⟨by have := c14.1; grind, by have := c14.2; grind⟩) rfl rfl ⟨(Nat.le_of_ble_eq_true rfl), (Nat.le_of_ble_eq_true rfl)⟩ ⟨(Nat.le_of_ble_eq_true rfl), (Nat.le_of_ble_eq_true rfl)⟩ (Nat.le_of_ble_eq_true rfl) ?_
          refine z_istore dX9_sum_61 rfl (Nat.le_of_ble_eq_true rfl) ?_
          refine z_iload dX9_sum_63 rfl rfl ?_
          refine z_if_eq (tgt := 74) dX9_sum_65 rfl (by decide) (fun c65 => ?_) (fun c65 => ?_)
          · skip
            have h7 : (w.1.2.1 (ix r)).1 ≤ 7 := by grind
            have hio : 0 < (w.1.2.1 (ix r)).2.length → sInto (w.1.2.1 (ix r)).1 kind = true := by grind
            first | refine z_aload_n dX9_sum_74 rfl rfl ?_ | refine z_aload_nN dX9_sum_74 rfl rfl ?_
            first | refine z_aload_n dX9_sum_75 rfl rfl ?_ | refine z_aload_nN dX9_sum_75 rfl rfl ?_
            refine z_iload_n dX9_sum_76 rfl rfl ?_
            refine zcx_X9_124 rfl dX9_sum_77 rfl hc.1 (m_total g h a _ _ c hc hl (w.1.2.1 (ix r)).2 rfl hcl kind (fun e j hj => ⟨(hck j hj).1.1, by rw [(hck j hj).2.1 h7]; exact h7, okF_fit (hck j hj).1 (hck j hj).2 h7 (by rw [← e]; exact hio (by omega))⟩) (fun e j hj => ⟨(hck j hj).1.1, by rw [(hck j hj).2.1 h7]; exact h7, sReal_ok (hck j hj).1 (by rw [(hck j hj).2.1 h7]; exact h7) 7⟩)) rfl rfl ⟨(Nat.le_of_ble_eq_true rfl), (Nat.le_of_ble_eq_true rfl)⟩ ⟨(Nat.le_of_ble_eq_true rfl), (Nat.le_of_ble_eq_true rfl)⟩ (Nat.le_of_ble_eq_true rfl) ?_
            refine zp_X9_103 rfl dX9_sum_80 rfl S0 rfl rfl (Nat.le_of_ble_eq_true rfl) ?_
            refine z_iconst (v := 1) dX9_sum_83 rfl (by decide) ?_
            exact z_iret dX9_sum_84 rfl rfl (cPost_x hR (w' := wGot w (sSum (w.1.2.1 (ix r)).2 kind)) ⟨rfl, rfl, rfl, rfl⟩ (by have hsf : sumFt w.1 (ix r) kind = 0 := (by rw [sumFt, hrf, if_neg (show ¬ (0 : Int32) < 0 by decide), if_neg hne0, readF, if_neg (by grind), if_pos (hio (by omega))]); rw [pSum, if_neg (by grind), hsf, if_neg (by decide)])) (Nat.le_of_ble_eq_true rfl) (Nat.le_of_ble_eq_true rfl)
          · skip
            refine z_iload dX9_sum_68 rfl rfl ?_
            refine zcx_X9_62 rfl dX9_sum_70 rfl (m_answer g h _) rfl rfl ⟨(Nat.le_of_ble_eq_true rfl), (Nat.le_of_ble_eq_true rfl)⟩ ⟨(Nat.le_of_ble_eq_true rfl), (Nat.le_of_ble_eq_true rfl)⟩ (Nat.le_of_ble_eq_true rfl) ?_
            exact z_iret dX9_sum_73 rfl rfl (cPost_same hRC (by have hrd : 0 < readF w.1 (ix r) kind := (by unfold readF; grind); have hsf : sumFt w.1 (ix r) kind = readF w.1 (ix r) kind := (by rw [sumFt, hrf, if_neg (show ¬ (0 : Int32) < 0 by decide), if_neg hne0]); rw [pSum, if_neg (by grind), hsf, if_pos hrd]; unfold readF; rfl)) (Nat.le_of_ble_eq_true rfl) (Nat.le_of_ble_eq_true rfl)
    · skip
      refine z_iconst (v := -1) dX9_sum_17 rfl (by decide) ?_
      exact z_iret dX9_sum_18 rfl rfl (cPost_same hRC (by grind [pSum])) (Nat.le_of_ble_eq_true rfl) (Nat.le_of_ble_eq_true rfl)

abbrev YX9_rate : zY := (yX9_rate.cls, cX9_rate, 6, (some .int), rmX9_rate, yX9_rate.name, fun _ _ => True)
set_option maxHeartbeats 800000 in
set_option maxRecDepth 100000 in
theorem C_rate (g : zG) (h : zH) (x m : Nat) (w : sW) (hRC : RepC h x m w) (what v : Int32) : zM g yX9_rate cX9_rate 6 (some .int) rmX9_rate [.ref x, .int what, .int v] h (cPost x m h (pRate w what v)) := by
  refine zM_of (by decide) (Nat.le_of_ble_eq_true rfl) ?_
  obtain ⟨col, p, F, Z, k, I, P, q, T, V, hR⟩ := id hRC
  obtain ⟨hw, hz, hS, hq, hr, hX⟩ := id hR
  obtain ⟨S0, S1, S2, S3, S4, S5⟩ := id hS
  obtain ⟨R0, R1, R2, R3⟩ := id hr
  refine z_iload_n dX9_rate_0 rfl rfl ?_
  refine z_iconst (v := 0) dX9_rate_1 rfl (by decide) ?_
  refine z_iconst (v := 3) dX9_rate_2 rfl (by decide) ?_
  refine zcx_X9_50 rfl dX9_rate_3 rfl (m_isWithin g h _ _ _) rfl rfl ⟨(Nat.le_of_ble_eq_true rfl), (Nat.le_of_ble_eq_true rfl)⟩ ⟨(Nat.le_of_ble_eq_true rfl), (Nat.le_of_ble_eq_true rfl)⟩ (Nat.le_of_ble_eq_true rfl) ?_
  refine z_bif_ne (tgt := 11) dX9_rate_6 rfl (by decide) (fun c6 => ?_) (fun c6 => ?_)
  · skip
    have kk : ∀ lo hi, lo = (if what = 1 ∨ what = 2 then (1 : Int32) else 0) → hi = (if what = 0 then (99 : Int32) else 9) → zZ g YX9_rate (zE g (cPost x m h (pRate w what v)) 0 0) 40 [(4, .int hi), (3, .int lo), (0, .ref x), (1, .int what), (2, .int v)] [] h 0 0 := by
      intro lo hi hlo hhi
      refine z_iload_n dX9_rate_40 rfl rfl ?_
      refine z_iload_n dX9_rate_41 rfl rfl ?_
      refine z_iload dX9_rate_42 rfl rfl ?_
      refine zcx_X9_50 rfl dX9_rate_44 rfl (m_isWithin g h _ _ _) rfl rfl ⟨(Nat.le_of_ble_eq_true rfl), (Nat.le_of_ble_eq_true rfl)⟩ ⟨(Nat.le_of_ble_eq_true rfl), (Nat.le_of_ble_eq_true rfl)⟩ (Nat.le_of_ble_eq_true rfl) ?_
      refine z_bif_ne (tgt := 52) dX9_rate_47 rfl (by decide) (fun c47 => ?_) (fun c47 => ?_)
      · skip
        rw [hlo, hhi] at c47
        first | refine z_aload_n dX9_rate_52 rfl rfl ?_ | refine z_aload_nN dX9_rate_52 rfl rfl ?_
        refine zg_X9_26 rfl dX9_rate_53 rfl S0 rfl ?_
        refine z_iload_n dX9_rate_56 rfl rfl ?_
        refine z_iald dX9_rate_57 rfl S3 (in4 c6) ?_
        rw [show q what.toNatClampNeg = w.2.2.1 (ix what) from hq.1 _ (in_lt (in4 c6))]
        refine z_istore dX9_rate_58 rfl (Nat.le_of_ble_eq_true rfl) ?_
        first | refine z_aload_n dX9_rate_60 rfl rfl ?_ | refine z_aload_nN dX9_rate_60 rfl rfl ?_
        refine zg_X9_26 rfl dX9_rate_61 rfl S0 rfl ?_
        refine z_iload_n dX9_rate_64 rfl rfl ?_
        refine z_iload_n dX9_rate_65 rfl rfl ?_
        refine z_iast dX9_rate_66 rfl S3 (in4 c6) ?_
        refine z_iload dX9_rate_67 rfl rfl ?_
        exact z_iret dX9_rate_69 rfl rfl (cPost_RC (RC_q hR (rate_ok hq.2 c6 c47.1 c47.2)) (fun a b c => vu_n (by have := hz.1; omega)) (by rw [pRate, if_neg (by rintro (z | z); exact z c6; exact z c47)])) (Nat.le_of_ble_eq_true rfl) (Nat.le_of_ble_eq_true rfl)
      · skip
        refine z_iconst (v := -1) dX9_rate_50 rfl (by decide) ?_
        exact z_iret dX9_rate_51 rfl rfl (cPost_same hRC (by rw [pRate, if_pos (Or.inr (by rw [← hlo, ← hhi]; exact c47))])) (Nat.le_of_ble_eq_true rfl) (Nat.le_of_ble_eq_true rfl)
    refine z_iload_n dX9_rate_11 rfl rfl ?_
    refine z_iconst (v := 1) dX9_rate_12 rfl (by decide) ?_
    refine z_icmp_eq (tgt := 21) dX9_rate_13 rfl (by decide) (fun c13 => ?_) (fun c13 => ?_)
    · skip
      refine z_iconst (v := 1) dX9_rate_21 rfl (by decide) ?_
      refine z_goto (tgt := 26) dX9_rate_22 rfl (by decide) ?_
      refine z_istore_n dX9_rate_26 rfl (Nat.le_of_ble_eq_true rfl) ?_
      refine z_iload_n dX9_rate_27 rfl rfl ?_
      refine z_if_ne (tgt := 36) dX9_rate_28 rfl (by decide) (fun c28 => ?_) (fun c28 => ?_)
      · skip
        refine z_bipush (v := 9) dX9_rate_36 rfl (by decide) ?_
        refine z_istore dX9_rate_38 rfl (Nat.le_of_ble_eq_true rfl) ?_
        refine z_lv [(4, .int _), (3, .int _), (0, .ref x), (1, .int what), (2, .int v)] ⟨rfl, rfl, rfl, rfl, rfl, trivial⟩ ?_
        exact kk _ _ (by grind) (by grind)
      · skip
        refine z_bipush (v := 99) dX9_rate_31 rfl (by decide) ?_
        refine z_goto (tgt := 38) dX9_rate_33 rfl (by decide) ?_
        refine z_istore dX9_rate_38 rfl (Nat.le_of_ble_eq_true rfl) ?_
        refine z_lv [(4, .int _), (3, .int _), (0, .ref x), (1, .int what), (2, .int v)] ⟨rfl, rfl, rfl, rfl, rfl, trivial⟩ ?_
        exact kk _ _ (by grind) (by grind)
    · skip
      refine z_iload_n dX9_rate_16 rfl rfl ?_
      refine z_iconst (v := 2) dX9_rate_17 rfl (by decide) ?_
      refine z_icmp_ne (tgt := 25) dX9_rate_18 rfl (by decide) (fun c18 => ?_) (fun c18 => ?_)
      · skip
        refine z_iconst (v := 0) dX9_rate_25 rfl (by decide) ?_
        refine z_istore_n dX9_rate_26 rfl (Nat.le_of_ble_eq_true rfl) ?_
        refine z_iload_n dX9_rate_27 rfl rfl ?_
        refine z_if_ne (tgt := 36) dX9_rate_28 rfl (by decide) (fun c28 => ?_) (fun c28 => ?_)
        · skip
          refine z_bipush (v := 9) dX9_rate_36 rfl (by decide) ?_
          refine z_istore dX9_rate_38 rfl (Nat.le_of_ble_eq_true rfl) ?_
          refine z_lv [(4, .int _), (3, .int _), (0, .ref x), (1, .int what), (2, .int v)] ⟨rfl, rfl, rfl, rfl, rfl, trivial⟩ ?_
          exact kk _ _ (by grind) (by grind)
        · skip
          refine z_bipush (v := 99) dX9_rate_31 rfl (by decide) ?_
          refine z_goto (tgt := 38) dX9_rate_33 rfl (by decide) ?_
          refine z_istore dX9_rate_38 rfl (Nat.le_of_ble_eq_true rfl) ?_
          refine z_lv [(4, .int _), (3, .int _), (0, .ref x), (1, .int what), (2, .int v)] ⟨rfl, rfl, rfl, rfl, rfl, trivial⟩ ?_
          exact kk _ _ (by grind) (by grind)
      · skip
        refine z_iconst (v := 1) dX9_rate_21 rfl (by decide) ?_
        refine z_goto (tgt := 26) dX9_rate_22 rfl (by decide) ?_
        refine z_istore_n dX9_rate_26 rfl (Nat.le_of_ble_eq_true rfl) ?_
        refine z_iload_n dX9_rate_27 rfl rfl ?_
        refine z_if_ne (tgt := 36) dX9_rate_28 rfl (by decide) (fun c28 => ?_) (fun c28 => ?_)
        · skip
          refine z_bipush (v := 9) dX9_rate_36 rfl (by decide) ?_
          refine z_istore dX9_rate_38 rfl (Nat.le_of_ble_eq_true rfl) ?_
          refine z_lv [(4, .int _), (3, .int _), (0, .ref x), (1, .int what), (2, .int v)] ⟨rfl, rfl, rfl, rfl, rfl, trivial⟩ ?_
          exact kk _ _ (by grind) (by grind)
        · skip
          refine z_bipush (v := 99) dX9_rate_31 rfl (by decide) ?_
          refine z_goto (tgt := 38) dX9_rate_33 rfl (by decide) ?_
          refine z_istore dX9_rate_38 rfl (Nat.le_of_ble_eq_true rfl) ?_
          refine z_lv [(4, .int _), (3, .int _), (0, .ref x), (1, .int what), (2, .int v)] ⟨rfl, rfl, rfl, rfl, rfl, trivial⟩ ?_
          exact kk _ _ (by grind) (by grind)
  · skip
    refine z_iconst (v := -1) dX9_rate_9 rfl (by decide) ?_
    exact z_iret dX9_rate_10 rfl rfl (cPost_same hRC (by rw [pRate, if_pos (Or.inl c6)])) (Nat.le_of_ble_eq_true rfl) (Nat.le_of_ble_eq_true rfl)

set_option maxHeartbeats 800000 in
set_option maxRecDepth 100000 in
theorem C_like (g : zG) (h : zH) (x m : Nat) (w : sW) (hRC : RepC h x m w) (a i b j : Int32) : zM g yX9_like cX9_like 6 (some .int) rmX9_like [.ref x, .int a, .int i, .int b, .int j] h (cPost x m h (pLike w a i b j)) := by
  refine zM_of (by decide) (Nat.le_of_ble_eq_true rfl) ?_
  obtain ⟨col, p, F, Z, k, I, P, q, T, V, hR⟩ := id hRC
  obtain ⟨hw, hz, hS, hq, hr, hX⟩ := id hR
  obtain ⟨S0, S1, S2, S3, S4, S5⟩ := id hS
  obtain ⟨R0, R1, R2, R3⟩ := id hr
  refine z_iload_n dX9_like_0 rfl rfl ?_
  refine zcx_X9_46 rfl dX9_like_1 rfl (m_isRecord g h _) rfl rfl ⟨(Nat.le_of_ble_eq_true rfl), (Nat.le_of_ble_eq_true rfl)⟩ ⟨(Nat.le_of_ble_eq_true rfl), (Nat.le_of_ble_eq_true rfl)⟩ (Nat.le_of_ble_eq_true rfl) ?_
  refine z_bif_eq (tgt := 14) dX9_like_4 rfl (by decide) (fun c4 => ?_) (fun c4 => ?_)
  · skip
    refine z_iconst (v := -1) dX9_like_14 rfl (by decide) ?_
    exact z_iret dX9_like_15 rfl rfl (cPost_same hRC (by grind [pLike])) (Nat.le_of_ble_eq_true rfl) (Nat.le_of_ble_eq_true rfl)
  · skip
    refine z_iload_n dX9_like_7 rfl rfl ?_
    refine zcx_X9_46 rfl dX9_like_8 rfl (m_isRecord g h _) rfl rfl ⟨(Nat.le_of_ble_eq_true rfl), (Nat.le_of_ble_eq_true rfl)⟩ ⟨(Nat.le_of_ble_eq_true rfl), (Nat.le_of_ble_eq_true rfl)⟩ (Nat.le_of_ble_eq_true rfl) ?_
    refine z_bif_ne (tgt := 16) dX9_like_11 rfl (by decide) (fun c11 => ?_) (fun c11 => ?_)
    · skip
      first | refine z_aload_n dX9_like_16 rfl rfl ?_ | refine z_aload_nN dX9_like_16 rfl rfl ?_
      refine z_iload_n dX9_like_17 rfl rfl ?_
      refine z_iload_n dX9_like_18 rfl rfl ?_
      refine zcx_X9_91 rfl dX9_like_19 rfl S0 (m_cellFault g h x m w col p F Z k I P q T V hR a i c4) rfl rfl ⟨(Nat.le_of_ble_eq_true rfl), (Nat.le_of_ble_eq_true rfl)⟩ ⟨(Nat.le_of_ble_eq_true rfl), (Nat.le_of_ble_eq_true rfl)⟩ (Nat.le_of_ble_eq_true rfl) ?_
      refine z_istore dX9_like_22 rfl (Nat.le_of_ble_eq_true rfl) ?_
      refine z_iload dX9_like_24 rfl rfl ?_
      refine z_if_ne (tgt := 38) dX9_like_26 rfl (by decide) (fun c26 => ?_) (fun c26 => ?_)
      · skip
        refine z_iload dX9_like_38 rfl rfl ?_
        refine z_if_eq (tgt := 49) dX9_like_40 rfl (by decide) (fun c40 => ?_) (fun c40 => ?_)
        · skip
          have e1 : cellF w.1 (ix a) i.toInt = 0 := by first | exact c26 | exact c40
          have e2 : cellF w.1 (ix b) j.toInt = 0 := by first | exact c40 | exact absurd c40 c26
          have hcfa : ¬ 0 < cellF w.1 (ix a) i.toInt := by rw [e1]; decide
          obtain ⟨hrfa, hi0a, hi1a⟩ := cf_0 hcfa
          obtain ⟨aa, hFa⟩ := rc_2 hr (ix_lt c4) hrfa
          obtain ⟨h2a, hZa, ⟨hoa, ca, hca, hcla⟩, hcola⟩ := rc_a hr (ix_lt c4) hFa
          obtain ⟨hiea, hila⟩ := ix_eq hi0a hi1a
          have hla : (w.1.2.1 (ix a)).2.length ≤ 20 := hoa.2.2.1
          have hcka := cl_ok (h := h) (a := aa) hoa hcla hila
          have hrca : rCell w.1 (ix a) (ix i) = ca (ix i) := (hcla _ hila).symm
          have hcfb : ¬ 0 < cellF w.1 (ix b) j.toInt := by rw [e2]; decide
          obtain ⟨hrfb, hi0b, hi1b⟩ := cf_0 hcfb
          obtain ⟨ab, hFb⟩ := rc_2 hr (ix_lt c11) hrfb
          obtain ⟨h2b, hZb, ⟨hob, cb, hcb, hclb⟩, hcolb⟩ := rc_a hr (ix_lt c11) hFb
          obtain ⟨hieb, hilb⟩ := ix_eq hi0b hi1b
          have hlb : (w.1.2.1 (ix b)).2.length ≤ 20 := hob.2.2.1
          have hckb := cl_ok (h := h) (a := ab) hob hclb hilb
          have hrcb : rCell w.1 (ix b) (ix j) = cb (ix j) := (hclb _ hilb).symm
          first | refine z_aload_n dX9_like_49 rfl rfl ?_ | refine z_aload_nN dX9_like_49 rfl rfl ?_
          refine zg_X9_10 rfl dX9_like_50 rfl S0 rfl ?_
          refine zg_X9_69 rfl dX9_like_53 rfl R0.1 rfl ?_
          refine z_iload_n dX9_like_56 rfl rfl ?_
          refine z_aalds dX9_like_57 rfl R0.2.1 rfl rfl (rec_in c4) hFa ?_
          refine z_iload_n dX9_like_58 rfl rfl ?_
          first | refine z_aload_n dX9_like_59 rfl rfl ?_ | refine z_aload_nN dX9_like_59 rfl rfl ?_
          refine zg_X9_10 rfl dX9_like_60 rfl S0 rfl ?_
          refine zg_X9_69 rfl dX9_like_63 rfl R0.1 rfl ?_
          refine z_iload_n dX9_like_66 rfl rfl ?_
          refine z_aalds dX9_like_67 rfl R0.2.1 rfl rfl (rec_in c11) hFb ?_
          refine z_iload dX9_like_68 rfl rfl ?_
          first | refine z_aload_n dX9_like_70 rfl rfl ?_ | refine z_aload_nN dX9_like_70 rfl rfl ?_
          refine zg_X9_26 rfl dX9_like_71 rfl S0 rfl ?_
          refine z_iconst (v := 0) dX9_like_74 rfl (by decide) ?_
          refine z_iald dX9_like_75 rfl S3 (in_0 4 (by decide)) ?_
          rw [show q (0 : Int32).toNatClampNeg = w.2.2.1 0 from hq.1 0 (by decide)]
          refine zcx_X9_128 rfl dX9_like_76 rfl ((by have z := m_verdict g h aa _ _ ca hca (by omega) (ix i) hila ab _ _ cb hcb (by omega) (ix j) hilb hcka.1 hckb.1 (w.2.2.1 0); rwa [hiea, hieb] at z)) rfl rfl ⟨(Nat.le_of_ble_eq_true rfl), (Nat.le_of_ble_eq_true rfl)⟩ ⟨(Nat.le_of_ble_eq_true rfl), (Nat.le_of_ble_eq_true rfl)⟩ (Nat.le_of_ble_eq_true rfl) ?_
          exact z_iret dX9_like_79 rfl rfl (cPost_same hRC (by rw [pLike, if_neg (by grind), if_neg hcfa, if_neg hcfb, hrca, hrcb])) (Nat.le_of_ble_eq_true rfl) (Nat.le_of_ble_eq_true rfl)
        · skip
          refine z_iload dX9_like_43 rfl rfl ?_
          refine zcx_X9_62 rfl dX9_like_45 rfl (m_answer g h _) rfl rfl ⟨(Nat.le_of_ble_eq_true rfl), (Nat.le_of_ble_eq_true rfl)⟩ ⟨(Nat.le_of_ble_eq_true rfl), (Nat.le_of_ble_eq_true rfl)⟩ (Nat.le_of_ble_eq_true rfl) ?_
          exact z_iret dX9_like_48 rfl rfl (cPost_same hRC (by have u := cf_ge w.1 (ix a) i.toInt; have u2 := cf_ge w.1 (ix b) j.toInt; rw [pLike, if_neg (by grind)]; grind)) (Nat.le_of_ble_eq_true rfl) (Nat.le_of_ble_eq_true rfl)
      · skip
        first | refine z_aload_n dX9_like_29 rfl rfl ?_ | refine z_aload_nN dX9_like_29 rfl rfl ?_
        refine z_iload_n dX9_like_30 rfl rfl ?_
        refine z_iload dX9_like_31 rfl rfl ?_
        refine zcx_X9_91 rfl dX9_like_33 rfl S0 (m_cellFault g h x m w col p F Z k I P q T V hR b j c11) rfl rfl ⟨(Nat.le_of_ble_eq_true rfl), (Nat.le_of_ble_eq_true rfl)⟩ ⟨(Nat.le_of_ble_eq_true rfl), (Nat.le_of_ble_eq_true rfl)⟩ (Nat.le_of_ble_eq_true rfl) ?_
        refine z_istore dX9_like_36 rfl (Nat.le_of_ble_eq_true rfl) ?_
        refine z_iload dX9_like_38 rfl rfl ?_
        refine z_if_eq (tgt := 49) dX9_like_40 rfl (by decide) (fun c40 => ?_) (fun c40 => ?_)
        · skip
          have e1 : cellF w.1 (ix a) i.toInt = 0 := by first | exact c26 | exact c40
          have e2 : cellF w.1 (ix b) j.toInt = 0 := by first | exact c40 | exact absurd c40 c26
          have hcfa : ¬ 0 < cellF w.1 (ix a) i.toInt := by rw [e1]; decide
          obtain ⟨hrfa, hi0a, hi1a⟩ := cf_0 hcfa
          obtain ⟨aa, hFa⟩ := rc_2 hr (ix_lt c4) hrfa
          obtain ⟨h2a, hZa, ⟨hoa, ca, hca, hcla⟩, hcola⟩ := rc_a hr (ix_lt c4) hFa
          obtain ⟨hiea, hila⟩ := ix_eq hi0a hi1a
          have hla : (w.1.2.1 (ix a)).2.length ≤ 20 := hoa.2.2.1
          have hcka := cl_ok (h := h) (a := aa) hoa hcla hila
          have hrca : rCell w.1 (ix a) (ix i) = ca (ix i) := (hcla _ hila).symm
          have hcfb : ¬ 0 < cellF w.1 (ix b) j.toInt := by rw [e2]; decide
          obtain ⟨hrfb, hi0b, hi1b⟩ := cf_0 hcfb
          obtain ⟨ab, hFb⟩ := rc_2 hr (ix_lt c11) hrfb
          obtain ⟨h2b, hZb, ⟨hob, cb, hcb, hclb⟩, hcolb⟩ := rc_a hr (ix_lt c11) hFb
          obtain ⟨hieb, hilb⟩ := ix_eq hi0b hi1b
          have hlb : (w.1.2.1 (ix b)).2.length ≤ 20 := hob.2.2.1
          have hckb := cl_ok (h := h) (a := ab) hob hclb hilb
          have hrcb : rCell w.1 (ix b) (ix j) = cb (ix j) := (hclb _ hilb).symm
          first | refine z_aload_n dX9_like_49 rfl rfl ?_ | refine z_aload_nN dX9_like_49 rfl rfl ?_
          refine zg_X9_10 rfl dX9_like_50 rfl S0 rfl ?_
          refine zg_X9_69 rfl dX9_like_53 rfl R0.1 rfl ?_
          refine z_iload_n dX9_like_56 rfl rfl ?_
          refine z_aalds dX9_like_57 rfl R0.2.1 rfl rfl (rec_in c4) hFa ?_
          refine z_iload_n dX9_like_58 rfl rfl ?_
          first | refine z_aload_n dX9_like_59 rfl rfl ?_ | refine z_aload_nN dX9_like_59 rfl rfl ?_
          refine zg_X9_10 rfl dX9_like_60 rfl S0 rfl ?_
          refine zg_X9_69 rfl dX9_like_63 rfl R0.1 rfl ?_
          refine z_iload_n dX9_like_66 rfl rfl ?_
          refine z_aalds dX9_like_67 rfl R0.2.1 rfl rfl (rec_in c11) hFb ?_
          refine z_iload dX9_like_68 rfl rfl ?_
          first | refine z_aload_n dX9_like_70 rfl rfl ?_ | refine z_aload_nN dX9_like_70 rfl rfl ?_
          refine zg_X9_26 rfl dX9_like_71 rfl S0 rfl ?_
          refine z_iconst (v := 0) dX9_like_74 rfl (by decide) ?_
          refine z_iald dX9_like_75 rfl S3 (in_0 4 (by decide)) ?_
          rw [show q (0 : Int32).toNatClampNeg = w.2.2.1 0 from hq.1 0 (by decide)]
          refine zcx_X9_128 rfl dX9_like_76 rfl ((by have z := m_verdict g h aa _ _ ca hca (by omega) (ix i) hila ab _ _ cb hcb (by omega) (ix j) hilb hcka.1 hckb.1 (w.2.2.1 0); rwa [hiea, hieb] at z)) rfl rfl ⟨(Nat.le_of_ble_eq_true rfl), (Nat.le_of_ble_eq_true rfl)⟩ ⟨(Nat.le_of_ble_eq_true rfl), (Nat.le_of_ble_eq_true rfl)⟩ (Nat.le_of_ble_eq_true rfl) ?_
          exact z_iret dX9_like_79 rfl rfl (cPost_same hRC (by rw [pLike, if_neg (by grind), if_neg hcfa, if_neg hcfb, hrca, hrcb])) (Nat.le_of_ble_eq_true rfl) (Nat.le_of_ble_eq_true rfl)
        · skip
          refine z_iload dX9_like_43 rfl rfl ?_
          refine zcx_X9_62 rfl dX9_like_45 rfl (m_answer g h _) rfl rfl ⟨(Nat.le_of_ble_eq_true rfl), (Nat.le_of_ble_eq_true rfl)⟩ ⟨(Nat.le_of_ble_eq_true rfl), (Nat.le_of_ble_eq_true rfl)⟩ (Nat.le_of_ble_eq_true rfl) ?_
          exact z_iret dX9_like_48 rfl rfl (cPost_same hRC (by have u := cf_ge w.1 (ix a) i.toInt; have u2 := cf_ge w.1 (ix b) j.toInt; rw [pLike, if_neg (by grind)]; grind)) (Nat.le_of_ble_eq_true rfl) (Nat.le_of_ble_eq_true rfl)
    · skip
      refine z_iconst (v := -1) dX9_like_14 rfl (by decide) ?_
      exact z_iret dX9_like_15 rfl rfl (cPost_same hRC (by grind [pLike])) (Nat.le_of_ble_eq_true rfl) (Nat.le_of_ble_eq_true rfl)

