theorem mrg_nI (C : sCo) (mode : Int32) : nI C.2.2.2.length - nI (C.2.2.2.countP (isV 4)) = nI (sMrg C mode).length := by
  have e := mrg_len C mode C.2.2.2
  have e2 : C.2.2.2.countP (isV 4) = C.2.2.2.countP isD := rfl
  rw [e2, nI_sub (by omega)]
  congr 1
  show _ = (C.2.2.2.filterMap (mrg C mode)).length
  omega

set_option maxHeartbeats 800000 in
set_option maxRecDepth 100000 in
theorem m_merged (g : zG) (h : zH) (kp l r s : Nat) (C : sCo) (f : Nat → Nat → Int32) (hk : h.2 kp = some (kOb l r s C.2.2.1 C.2.2.2.length)) (hf : csIs h s (C.1.2.length + C.2.1.2.length) f) (cl cr : Nat → sC) (oL : aOk C.1) (hl : cAt h l C.1.1 C.1.2.length cl) (hll : ∀ i, i < C.1.2.length → cl i = C.1.2.getD i z0) (oR : aOk C.2.1) (hr2 : cAt h r C.2.1.1 C.2.1.2.length cr) (hlr : ∀ i, i < C.2.1.2.length → cr i = C.2.1.2.getD i z0) (hLn : C.2.2.2.length ≤ C.1.2.length + C.2.1.2.length) (hL : ∀ k t, C.2.2.2[k]? = some t → stpIs f k t) (hOk : ∀ t, t ∈ C.2.2.2 → stpOk C.1 C.2.1 t) (hw : wfH h) (mode : Int32) (hN : (sMrg C mode).length ≤ 20) : zX g yX4_merged cX4_merged 5 (some (.object "LoggerTwins$Cells")) rmX4_merged [.ref kp, .int mode] h (.ref h.1) (cUp h.1 (sJoinK C.1.1 C.2.1.1) (sMrg C mode).length (lF (cIn (sJoinK C.1.1 C.2.1.1) (sMrg C mode).length) ((sMrg C mode).map (fun y => sConv y (sJoinK C.1.1 C.2.1.1)))) (h.1 + 4, h.2)) := by
  refine zM_of (by decide) (Nat.le_of_ble_eq_true rfl) ?_
  have la : C.1.2.length ≤ 20 := oL.2.2.1
  have lb : C.2.1.2.length ≤ 20 := oR.2.2.1
  have k1 := wf_lt hw hk
  have k2 : s + 5 ≤ h.1 := wf_lt hw (hf 4 (by decide))
  have k3 := cAt_lt hl hw
  have k4 := cAt_lt hr2 hw
  refine zn_X4_23 rfl dX4_merged_0 rfl (Nat.le_of_ble_eq_true rfl) (Nat.le_of_ble_eq_true rfl) ?_
  refine z_dup dX4_merged_3 rfl rfl ?_
  first | refine z_aload_n dX4_merged_4 rfl rfl ?_ | refine z_aload_nN dX4_merged_4 rfl rfl ?_
  refine zcx_X4_59 rfl dX4_merged_5 rfl ((vu_n (by omega)).trans hk) (m_mergedKind g ((h.1 + 1, (va_up h.2 h.1 (some (.inr (2, [.int 0, .int 0, .null, .null, .null]))))) : zH) kp l r s _ _ ((vu_n (by omega)).trans hk) _ _ _ _ _ _ (cAt_fr hl (fun z z1 z2 => vu_n (by omega))) (cAt_fr hr2 (fun z z1 z2 => vu_n (by omega))) oL.1 oR.1) rfl rfl ⟨(Nat.le_of_ble_eq_true rfl), (Nat.le_of_ble_eq_true rfl)⟩ ⟨(Nat.le_of_ble_eq_true rfl), (Nat.le_of_ble_eq_true rfl)⟩ (Nat.le_of_ble_eq_true rfl) ?_
  first | refine z_aload_n dX4_merged_8 rfl rfl ?_ | refine z_aload_nN dX4_merged_8 rfl rfl ?_
  refine zcx_X4_63 rfl dX4_merged_9 rfl ((vu_n (by omega)).trans hk) (m_mergedLength g ((h.1 + 1, (va_up h.2 h.1 (some (.inr (2, [.int 0, .int 0, .null, .null, .null]))))) : zH) kp l r s C.2.2.1 (C.1.2.length + C.2.1.2.length) f C.2.2.2 ((vu_n (by omega)).trans hk) (fun j hj => (vu_n (by omega)).trans (hf j hj)) hL hLn (by omega)) rfl rfl ⟨(Nat.le_of_ble_eq_true rfl), (Nat.le_of_ble_eq_true rfl)⟩ ⟨(Nat.le_of_ble_eq_true rfl), (Nat.le_of_ble_eq_true rfl)⟩ (Nat.le_of_ble_eq_true rfl) ?_
  rw [mrg_nI C mode]
  refine zc_X4_66 rfl dX4_merged_12 rfl (m_cinit g (va_up h.2 h.1 (some (.inr (2, [.int 0, .int 0, .null, .null, .null])))) h.1 _ vu_s rfl (sJoinK C.1.1 C.2.1.1) (sMrg C mode).length (by omega)) rfl rfl ⟨(Nat.le_of_ble_eq_true rfl), (Nat.le_of_ble_eq_true rfl)⟩ ⟨(Nat.le_of_ble_eq_true rfl), (Nat.le_of_ble_eq_true rfl)⟩ (Nat.le_of_ble_eq_true rfl) (fun v h1 hz => ?_)
  obtain ⟨rfl, rfl⟩ := hz
  rw [cUp_vu]
  first | refine z_astore_n dX4_merged_15 rfl (Nat.le_of_ble_eq_true rfl) ?_ | refine z_astore_nN dX4_merged_15 rfl (Nat.le_of_ble_eq_true rfl) ?_
  refine z_iconst (v := 0) dX4_merged_16 rfl (by decide) ?_
  refine z_istore_n dX4_merged_17 rfl (Nat.le_of_ble_eq_true rfl) ?_
  refine z_iconst (v := 0) dX4_merged_18 rfl (by decide) ?_
  refine z_istore dX4_merged_19 rfl (Nat.le_of_ble_eq_true rfl) ?_
  refine zZ_h (cUp h.1 (sJoinK C.1.1 C.2.1.1) (sMrg C mode).length (lF (cIn (sJoinK C.1.1 C.2.1.1) (sMrg C mode).length) (((C.2.2.2.take 0).filterMap (mrg C mode)).map (fun y => sConv y (sJoinK C.1.1 C.2.1.1)))) (h.1 + 4, h.2)) (by rw [show ((C.2.2.2.take 0).filterMap (mrg C mode)).map (fun y => sConv y (sJoinK C.1.1 C.2.1.1)) = [] from rfl, ← lF_0]) ?_
  refine z_lv [(2, .ref h.1), (3, .int (nI ((C.2.2.2.take 0).filterMap (mrg C mode)).length)), (4, .int (nI 0)), (0, .ref kp), (1, .int mode)] ⟨rfl, rfl, rfl, rfl, rfl, trivial⟩ ?_
  exact m_merged_L g h kp l r s C f hk hf cl cr oL hl hll oR hr2 hlr hLn hL hOk hw mode hN C.2.2.2.length 0 (by omega)

theorem mrg_c {C : sCo} (oL : aOk C.1) (oR : aOk C.2.1) (hOk : ∀ t, t ∈ C.2.2.2 → stpOk C.1 C.2.1 t) (mode : Int32) {c : sC} (hc : c ∈ sMrg C mode) : sOk c ∧ sInto c.1 (sJoinK C.1.1 C.2.1.1) = true := by
  obtain ⟨t, ht, hm⟩ := List.mem_filterMap.mp hc
  have hA : ∀ i, i < C.1.2.length → sOk (C.1.2.getD i z0) ∧ sFit (C.1.2.getD i z0) C.1.1 := fun i hi => by rw [List.getD_eq_getElem?_getD, List.getElem?_eq_getElem hi]; exact oL.2.2.2 _ (List.getElem_mem hi)
  have hB : ∀ i, i < C.2.1.2.length → sOk (C.2.1.2.getD i z0) ∧ sFit (C.2.1.2.getD i z0) C.2.1.1 := fun i hi => by rw [List.getD_eq_getElem?_getD, List.getElem?_eq_getElem hi]; exact oR.2.2.2 _ (List.getElem_mem hi)
  have la := oL.2.2.1
  have lb := oR.2.2.1
  unfold mrg at hm
  split at hm
  · cases hm
  rcases hOk t ht with ⟨e1, ⟨i, j, hi, hj, e2, e3, -⟩, -⟩ | ⟨e1, -, ⟨i, hi, e2⟩, -⟩ | ⟨e1, -, ⟨j, hj, e3⟩, -⟩
  · rw [if_pos e1, e2, e3, show ix (nI i) = i from nI_clamp (by omega), show ix (nI j) = j from nI_clamp (by omega)] at hm
    obtain rfl := Option.some.inj hm
    exact jk_make (hA i hi) (hB j hj) mode
  · rw [if_neg (by rw [e1]; decide), if_pos e1, e2, show ix (nI i) = i from nI_clamp (by omega)] at hm
    obtain rfl := Option.some.inj hm
    exact ⟨(hA i hi).1, jk_a (hA i hi).2⟩
  · rw [if_neg (by rw [e1]; decide), if_neg (by rw [e1]; decide), e3, show ix (nI j) = j from nI_clamp (by omega)] at hm
    obtain rfl := Option.some.inj hm
    exact ⟨(hB j hj).1, jk_b (hB j hj).2⟩
theorem map_cIs {h : zH} {a : Nat} {k : Int32} (hk : 0 ≤ k ∧ k ≤ 10) {M : List sC} (hl : M.length ≤ 20) (hM : ∀ c, c ∈ M → sOk c ∧ sInto c.1 k = true) {c : Nat → sC} (hc : cAt h a k M.length c) (hcl : ∀ i, i < M.length → c i = (M.map (fun y => sConv y k)).getD i z0) : cIs h a (k, M.map (fun y => sConv y k)) := by
  refine ⟨⟨hk.1, hk.2, by show (M.map _).length ≤ 20; rw [List.length_map]; exact hl, fun d hd => ?_⟩, c, by show cAt _ _ _ (M.map _).length _; rw [List.length_map]; exact hc, fun i hi => hcl i (by have hi : i < (M.map _).length := hi; rw [List.length_map] at hi; exact hi)⟩
  obtain ⟨e, he, rfl⟩ := List.mem_map.mp hd
  exact sConv_ok (hM e he).1 hk (hM e he).2

set_option maxHeartbeats 800000 in
set_option maxRecDepth 100000 in
theorem C_join (g : zG) (h : zH) (x m : Nat) (w : sW) (hRC : RepC h x m w) (r mode : Int32) : zM g yX9_join cX9_join 4 (some .int) rmX9_join [.ref x, .int r, .int mode] h (cPost x m h (pJoin w r mode)) := by
  refine zM_of (by decide) (Nat.le_of_ble_eq_true rfl) ?_
  obtain ⟨col, p, F, Z, k, I, P, q, T, V, hR⟩ := id hRC
  obtain ⟨hw, hz, hS, hq, hr, hX⟩ := id hR
  obtain ⟨S0, S1, S2, S3, S4, S5⟩ := id hS
  obtain ⟨R0, R1, R2, R3⟩ := id hr
  refine z_iload_n dX9_join_0 rfl rfl ?_
  refine zcx_X9_46 rfl dX9_join_1 rfl (m_isRecord g h _) rfl rfl ⟨(Nat.le_of_ble_eq_true rfl), (Nat.le_of_ble_eq_true rfl)⟩ ⟨(Nat.le_of_ble_eq_true rfl), (Nat.le_of_ble_eq_true rfl)⟩ (Nat.le_of_ble_eq_true rfl) ?_
  refine z_bif_eq (tgt := 16) dX9_join_4 rfl (by decide) (fun c4 => ?_) (fun c4 => ?_)
  · skip
    refine z_iconst (v := -1) dX9_join_16 rfl (by decide) ?_
    exact z_iret dX9_join_17 rfl rfl (cPost_same hRC (by grind [pJoin])) (Nat.le_of_ble_eq_true rfl) (Nat.le_of_ble_eq_true rfl)
  · skip
    refine z_iload_n dX9_join_7 rfl rfl ?_
    refine z_iconst (v := 0) dX9_join_8 rfl (by decide) ?_
    refine z_iconst (v := 2) dX9_join_9 rfl (by decide) ?_
    refine zcx_X9_50 rfl dX9_join_10 rfl (m_isWithin g h _ _ _) rfl rfl ⟨(Nat.le_of_ble_eq_true rfl), (Nat.le_of_ble_eq_true rfl)⟩ ⟨(Nat.le_of_ble_eq_true rfl), (Nat.le_of_ble_eq_true rfl)⟩ (Nat.le_of_ble_eq_true rfl) ?_
    refine z_bif_ne (tgt := 18) dX9_join_13 rfl (by decide) (fun c13 => ?_) (fun c13 => ?_)
    · skip
      rcases hC : w.2.2.2.2.2.1 with _ | C
      · obtain rfl := coC_n hX.2.1 hC
        first | refine z_aload_n dX9_join_18 rfl rfl ?_ | refine z_aload_nN dX9_join_18 rfl rfl ?_
        refine zg_X9_147 rfl dX9_join_19 rfl S0 rfl ?_
        refine z_ifnonnullN dX9_join_22 rfl ?_
        refine z_bipush (v := -2) dX9_join_25 rfl (by decide) ?_
        exact z_iret dX9_join_27 rfl rfl (cPost_same hRC (join_none c4 c13 hC)) (Nat.le_of_ble_eq_true rfl) (Nat.le_of_ble_eq_true rfl)
      · obtain ⟨kp, rfl, l, r_, s, f, hk, hf, hcl, hcr, hLn, hLs, hco, hc1, hc2, hc3, hc4⟩ := coC_s hX.2.1 hC
        obtain ⟨oL, cl, hl, hll⟩ := id hcl
        obtain ⟨oR, cr, hr2, hlr⟩ := id hcr
        have hla : C.1.2.length ≤ 20 := oL.2.2.1
        have hlb : C.2.1.2.length ≤ 20 := oR.2.2.1
        have hL : ∀ k t, C.2.2.2[k]? = some t → stpIs f k t := fun k t ht => (hLs k t ht).1
        have hOk : ∀ t, t ∈ C.2.2.2 → stpOk C.1 C.2.1 t := fun t ht => by
          obtain ⟨k, hk2⟩ := List.getElem?_of_mem ht
          exact (hLs k t hk2).2
        have hmn : (sMrg C mode).length ≤ 40 := by have := mrg_len C mode C.2.2.2; show (C.2.2.2.filterMap (mrg C mode)).length ≤ 40; omega
        first | refine z_aload_n dX9_join_18 rfl rfl ?_ | refine z_aload_nN dX9_join_18 rfl rfl ?_
        refine zg_X9_147 rfl dX9_join_19 rfl S0 rfl ?_
        refine z_ifnonnull (tgt := 28) dX9_join_22 rfl (by decide) ?_
        first | refine z_aload_n dX9_join_28 rfl rfl ?_ | refine z_aload_nN dX9_join_28 rfl rfl ?_
        refine zg_X9_147 rfl dX9_join_29 rfl S0 rfl ?_
        refine zcx_X9_171 rfl dX9_join_32 rfl hk (m_mergedLength g h kp l r_ s C.2.2.1 (C.1.2.length + C.2.1.2.length) f C.2.2.2 hk hf hL hLn (by omega)) rfl rfl ⟨(Nat.le_of_ble_eq_true rfl), (Nat.le_of_ble_eq_true rfl)⟩ ⟨(Nat.le_of_ble_eq_true rfl), (Nat.le_of_ble_eq_true rfl)⟩ (Nat.le_of_ble_eq_true rfl) ?_
        rw [mrg_nI C mode]
        refine z_bipush (v := 20) dX9_join_35 rfl (by decide) ?_
        refine z_icmp_le (tgt := 43) dX9_join_37 rfl (by decide) (fun c37 => ?_) (fun c37 => ?_)
        · skip
          have hN : ¬ 20 < (sMrg C mode).length := fun z => absurd c37 (Int32.not_le.mpr (nI_lt (a := 20) z (by omega)))
          first | refine z_aload_n dX9_join_43 rfl rfl ?_ | refine z_aload_nN dX9_join_43 rfl rfl ?_
          refine zg_X9_147 rfl dX9_join_44 rfl S0 rfl ?_
          refine z_iload_n dX9_join_47 rfl rfl ?_
          refine zcx_X9_192 rfl dX9_join_48 rfl hk (m_merged g h kp l r_ s C f hk hf cl cr oL hl hll oR hr2 hlr hLn hL hOk hw mode (by omega)) rfl rfl ⟨(Nat.le_of_ble_eq_true rfl), (Nat.le_of_ble_eq_true rfl)⟩ ⟨(Nat.le_of_ble_eq_true rfl), (Nat.le_of_ble_eq_true rfl)⟩ (Nat.le_of_ble_eq_true rfl) ?_
          have hp3 := wf_lt hw R0.2.2
          have hP1 : rAt (cUp h.1 (sJoinK C.1.1 C.2.1.1) (sMrg C mode).length (lF (cIn (sJoinK C.1.1 C.2.1.1) (sMrg C mode).length) ((sMrg C mode).map (fun y => sConv y (sJoinK C.1.1 C.2.1.1)))) (h.1 + 4, h.2)) p F Z := rAt_fr R0 (fun z z1 z2 => cUp_out (by omega))
          have hx1 : (cUp h.1 (sJoinK C.1.1 C.2.1.1) (sMrg C mode).length (lF (cIn (sJoinK C.1.1 C.2.1.1) (sMrg C mode).length) ((sMrg C mode).map (fun y => sConv y (sJoinK C.1.1 C.2.1.1)))) (h.1 + 4, h.2)).2 x = _ := (cUp_out (by have := hz.1; have := hz.2.1; omega)).trans S0
          first | refine z_astore_n dX9_join_51 rfl (Nat.le_of_ble_eq_true rfl) ?_ | refine z_astore_nN dX9_join_51 rfl (Nat.le_of_ble_eq_true rfl) ?_
          first | refine z_aload_n dX9_join_52 rfl rfl ?_ | refine z_aload_nN dX9_join_52 rfl rfl ?_
          refine zg_X9_10 rfl dX9_join_53 rfl hx1 rfl ?_
          refine z_iload_n dX9_join_56 rfl rfl ?_
          first | refine z_aload_n dX9_join_57 rfl rfl ?_ | refine z_aload_nN dX9_join_57 rfl rfl ?_
          refine zcv_X9_54 rfl dX9_join_58 rfl hP1.1 (m_holdI g _ p F Z hP1 r c4 h.1 _ (cUp_at _ _ _ _ _).1) rfl rfl ⟨(Nat.le_of_ble_eq_true rfl), (Nat.le_of_ble_eq_true rfl)⟩ ⟨(Nat.le_of_ble_eq_true rfl), (Nat.le_of_ble_eq_true rfl)⟩ (Nat.le_of_ble_eq_true rfl) ?_
          first | refine z_aload_n dX9_join_61 rfl rfl ?_ | refine z_aload_nN dX9_join_61 rfl rfl ?_
          refine zg_X9_88 rfl dX9_join_62 rfl ((rUp_out (by omega)).trans (cUp_at _ _ _ _ _).1) rfl ?_
          exact z_iret dX9_join_65 rfl rfl (cPost_new hR (wf_cUp hw _ _ _) (Nat.le_add_right _ _) (fun z hz2 => cUp_out (Or.inl hz2)) (Nat.le_refl _) (A := ((sJoinK C.1.1 C.2.1.1), ((sMrg C mode).map (fun y => sConv y (sJoinK C.1.1 C.2.1.1))))) (map_cIs (jk_in ⟨oL.1, oL.2.1⟩) (by omega) (fun c hc => mrg_c oL oR hOk mode hc) (cUp_at _ _ _ _ _) (fun i hi => lF_at (by rw [List.length_map]; exact hi))) (join_some c4 c13 hC hN)) (Nat.le_of_ble_eq_true rfl) (Nat.le_of_ble_eq_true rfl)
        · skip
          refine z_bipush (v := -3) dX9_join_40 rfl (by decide) ?_
          exact z_iret dX9_join_42 rfl rfl (cPost_same hRC (join_full c4 c13 hC (Nat.lt_of_not_le (fun z => c37 (nI_le (b := 20) z (by decide)))))) (Nat.le_of_ble_eq_true rfl) (Nat.le_of_ble_eq_true rfl)
    · skip
      refine z_iconst (v := -1) dX9_join_16 rfl (by decide) ?_
      exact z_iret dX9_join_17 rfl rfl (cPost_same hRC (by grind [pJoin])) (Nat.le_of_ble_eq_true rfl) (Nat.le_of_ble_eq_true rfl)

