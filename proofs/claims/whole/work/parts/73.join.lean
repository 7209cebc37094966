theorem conv_mean {c d : sC} {a b : Int32} (oc : sOk c) (od : sOk d) (hc : sFit c a) (hd : sFit d b) (ha : 0 ≤ a) (hb : 0 ≤ b) (hj : ¬ sJoin c.1 d.1 = -4) : sConv (sMean c d) (sJoinK a b) = sMean c d := by
  by_cases h7 : sJoinK a b ≤ 7
  · have hk : sNum a ∧ sNum b ∧ sJoinK a b = sJoin a b := by
      unfold sJoinK at h7 ⊢
      split at h7
      · rename_i z; rw [if_pos z]; exact ⟨z.1, z.2.1, rfl⟩
      · split at h7
        · rename_i z; exact absurd h7 (by grind)
        · exact absurd h7 (by decide)
    refine conv_fit (sMean_ok oc od hj) ⟨fun _ => ?_, fun z => absurd h7 (by grind)⟩ (by rw [hk.2.2, ← hc.1 hk.1.2, ← hd.1 hk.2.1.2]; exact (sJoin_into hj).1.1)
    rw [sMean_1, hk.2.2, hc.1 hk.1.2, hd.1 hk.2.1.2]
  · unfold sConv
    rw [if_pos (by grind)]
def lF (c0 : Nat → sC) (M : List sC) : Nat → sC := fun j => if j < M.length then M.getD j z0 else c0 j
theorem lF_s (c0 : Nat → sC) (M : List sC) (v : sC) : uC (lF c0 M) M.length v = lF c0 (M ++ [v]) := by
  funext j
  simp only [uC, lF, List.length_append, List.length_singleton]
  by_cases e : j = M.length
  · rw [if_pos e, if_pos (by omega), e, List.getD_eq_getElem?_getD, List.getElem?_append_right (Nat.le_refl _), Nat.sub_self]; rfl
  · rw [if_neg e]
    by_cases e2 : j < M.length
    · rw [if_pos e2, if_pos (by omega), List.getD_eq_getElem?_getD, List.getD_eq_getElem?_getD, List.getElem?_append_left e2]
    · rw [if_neg e2, if_neg (by omega)]
theorem lF_0 (c0 : Nat → sC) : c0 = lF c0 [] := by funext j; simp [lF]
theorem lF_at {c0 : Nat → sC} {M : List sC} {j : Nat} (h : j < M.length) : lF c0 M j = M.getD j z0 := if_pos h

abbrev YX4_mergeMean : zY := (yX4_mergeMean.cls, cX4_mergeMean, 7, none, rmX4_mergeMean, yX4_mergeMean.name, fun _ _ => True)
set_option maxHeartbeats 800000 in
set_option maxRecDepth 100000 in
theorem m_mergeMean (g : zG) (h : zH) (p l r s : Nat) (cost : Int32) (cnt : Nat) (hk : h.2 p = some (kOb l r s cost cnt)) (ka kb : Int32) (na nb : Nat) (ca cb : Nat → sC) (hl : cAt h l ka na ca) (hr2 : cAt h r kb nb cb) (hna : na ≤ 40) (hnb : nb ≤ 40) (o : Nat) (n : Nat) (c : Nat → sC) (ho : cAt h o (sJoinK ka kb) n c) (hn : n ≤ 40) (t i j : Nat) (ht : t < n) (hi : i < na) (hj : j < nb) (oa : sOk (ca i) ∧ sFit (ca i) ka) (ob : sOk (cb j) ∧ sFit (cb j) kb) (hka : 0 ≤ ka ∧ ka ≤ 10) (hkb : 0 ≤ kb ∧ kb ≤ 10) : zXv g yX4_mergeMean cX4_mergeMean 7 none rmX4_mergeMean [.ref p, .ref o, .int (nI t), .int (nI i), .int (nI j)] h (cUp o (sJoinK ka kb) n (uC c t (sConv (sMake (ca i) (cb j) 2) (sJoinK ka kb))) h) := by
  refine zM_of (by decide) (Nat.le_of_ble_eq_true rfl) ?_
  have kk : ∀ sj nu : Int32, sj = (if sJoin (ca i).1 (cb j).1 = -4 then -1 else sJoin (ca i).1 (cb j).1) → zZ g YX4_mergeMean (zE g (fun v h1 => v = none ∧ h1 = cUp o (sJoinK ka kb) n (uC c t (sConv (sMake (ca i) (cb j) 2) (sJoinK ka kb))) h) 0 0) 67 [(5, .int nu), (0, .ref p), (1, .ref o), (2, .int (nI t)), (3, .int (nI i)), (4, .int (nI j))] [.int sj] h 0 0 := by
    intro sj nu hso
    have hsn : sj = -1 → sJoin (ca i).1 (cb j).1 = -4 := fun e => sJo_m.mp (by rw [← e, hso]; rfl)
    refine z_istore dX4_mergeMean_67 rfl (Nat.le_of_ble_eq_true rfl) ?_
    refine z_iload dX4_mergeMean_69 rfl rfl ?_
    refine z_iconst (v := -1) dX4_mergeMean_71 rfl (by decide) ?_
    refine z_icmp_ne (tgt := 88) dX4_mergeMean_72 rfl (by decide) (fun c72 => ?_) (fun c72 => ?_)
    · skip
      have hJ : ¬ sJoin (ca i).1 (cb j).1 = -4 := fun z => c72 (hso.trans (by rw [if_pos z]))
      have hsj : sj = sJo (ca i).1 (cb j).1 := by rw [hso, if_neg hJ, sJo_n hJ]
      have hJs := sJo_n hJ
      first | refine z_aload_n dX4_mergeMean_88 rfl rfl ?_ | refine z_aload_nN dX4_mergeMean_88 rfl rfl ?_
      refine z_iload_n dX4_mergeMean_89 rfl rfl ?_
      refine z_iload dX4_mergeMean_90 rfl rfl ?_
      first | refine z_aload_n dX4_mergeMean_92 rfl rfl ?_ | refine z_aload_nN dX4_mergeMean_92 rfl rfl ?_
      refine zg_X4_9 rfl dX4_mergeMean_93 rfl hk rfl ?_
      refine z_iload_n dX4_mergeMean_96 rfl rfl ?_
      first | refine z_aload_n dX4_mergeMean_97 rfl rfl ?_ | refine z_aload_nN dX4_mergeMean_97 rfl rfl ?_
      refine zg_X4_15 rfl dX4_mergeMean_98 rfl hk rfl ?_
      refine z_iload dX4_mergeMean_101 rfl rfl ?_
      refine zcv_X4_84 rfl dX4_mergeMean_103 rfl ho.1 ((by rw [← sJo_n hJ] at hJs; exact (by have z := m_setMean g h o _ _ c ho hn t ht l _ _ ca hl hna i hi r _ _ cb hr2 hnb j hj oa.1 ob.1 hJ; rwa [← sJo_n hJ, ← hsj] at z))) rfl rfl ⟨(Nat.le_of_ble_eq_true rfl), (Nat.le_of_ble_eq_true rfl)⟩ ⟨(Nat.le_of_ble_eq_true rfl), (Nat.le_of_ble_eq_true rfl)⟩ (Nat.le_of_ble_eq_true rfl) ?_
      exact z_vret dX4_mergeMean_106 rfl rfl ⟨rfl, congrArg (fun z => cUp o (sJoinK ka kb) n (uC c t z) h) (by first | (rw [sMake, if_pos ⟨rfl, hJ⟩, conv_mean oa.1 ob.1 oa.2 ob.2 hka.1 hkb.1 hJ]) | (rw [sMake, if_neg (fun z => z.2 (hsn c72)), if_neg (by decide)]))⟩ (Nat.le_of_ble_eq_true rfl) (Nat.le_of_ble_eq_true rfl)
    · skip
      first | refine z_aload_n dX4_mergeMean_75 rfl rfl ?_ | refine z_aload_nN dX4_mergeMean_75 rfl rfl ?_
      refine z_iload_n dX4_mergeMean_76 rfl rfl ?_
      first | refine z_aload_n dX4_mergeMean_77 rfl rfl ?_ | refine z_aload_nN dX4_mergeMean_77 rfl rfl ?_
      refine zg_X4_9 rfl dX4_mergeMean_78 rfl hk rfl ?_
      refine z_iload_n dX4_mergeMean_81 rfl rfl ?_
      refine zcv_X4_77 rfl dX4_mergeMean_82 rfl ho.1 (m_take g h o _ _ c ho hn t ht l _ _ ca hl hna i hi oa.1 (jk_in hka) (jk_a oa.2)) rfl rfl ⟨(Nat.le_of_ble_eq_true rfl), (Nat.le_of_ble_eq_true rfl)⟩ ⟨(Nat.le_of_ble_eq_true rfl), (Nat.le_of_ble_eq_true rfl)⟩ (Nat.le_of_ble_eq_true rfl) ?_
      refine z_goto (tgt := 106) dX4_mergeMean_85 rfl (by decide) ?_
      exact z_vret dX4_mergeMean_106 rfl rfl ⟨rfl, congrArg (fun z => cUp o (sJoinK ka kb) n (uC c t z) h) (by first | (rw [sMake, if_pos ⟨rfl, hJ⟩, conv_mean oa.1 ob.1 oa.2 ob.2 hka.1 hkb.1 hJ]) | (rw [sMake, if_neg (fun z => z.2 (hsn c72)), if_neg (by decide)]))⟩ (Nat.le_of_ble_eq_true rfl) (Nat.le_of_ble_eq_true rfl)
  have hn4 : ¬ ((ca i).1 ≤ 7 ∧ (cb j).1 ≤ 7) → sJoin (ca i).1 (cb j).1 = -4 := fun z => if_neg (fun y => z ⟨y.1.2, y.2.2⟩)
  first | refine z_aload_n dX4_mergeMean_0 rfl rfl ?_ | refine z_aload_nN dX4_mergeMean_0 rfl rfl ?_
  refine zg_X4_9 rfl dX4_mergeMean_1 rfl hk rfl ?_
  refine zg_X4_81 rfl dX4_mergeMean_4 rfl hl.1 rfl ?_
  refine z_iload_n dX4_mergeMean_7 rfl rfl ?_
  refine z_iald dX4_mergeMean_8 rfl hl.2.1 (vp_in_nI (by omega) (by omega)) ?_
  rw [nI_clamp (show i < 2 ^ 31 by omega)]
  refine z_bipush (v := 7) dX4_mergeMean_9 rfl (by decide) ?_
  refine z_icmp_gt (tgt := 33) dX4_mergeMean_11 rfl (by decide) (fun c11 => ?_) (fun c11 => ?_)
  · skip
    refine z_iconst (v := 0) dX4_mergeMean_33 rfl (by decide) ?_
    refine z_istore dX4_mergeMean_34 rfl (Nat.le_of_ble_eq_true rfl) ?_
    refine z_iload dX4_mergeMean_36 rfl rfl ?_
    refine z_if_eq (tgt := 66) dX4_mergeMean_38 rfl (by decide) (fun c38 => ?_) (fun c38 => absurd c38 (fun z => z rfl))
    refine z_iconst (v := -1) dX4_mergeMean_66 rfl (by decide) ?_
    exact kk _ _ (by rw [if_pos (hn4 (by grind))])
  · skip
    first | refine z_aload_n dX4_mergeMean_14 rfl rfl ?_ | refine z_aload_nN dX4_mergeMean_14 rfl rfl ?_
    refine zg_X4_15 rfl dX4_mergeMean_15 rfl hk rfl ?_
    refine zg_X4_81 rfl dX4_mergeMean_18 rfl hr2.1 rfl ?_
    refine z_iload dX4_mergeMean_21 rfl rfl ?_
    refine z_iald dX4_mergeMean_23 rfl hr2.2.1 (vp_in_nI (by omega) (by omega)) ?_
    rw [nI_clamp (show j < 2 ^ 31 by omega)]
    refine z_bipush (v := 7) dX4_mergeMean_24 rfl (by decide) ?_
    refine z_icmp_gt (tgt := 33) dX4_mergeMean_26 rfl (by decide) (fun c26 => ?_) (fun c26 => ?_)
    · skip
      refine z_iconst (v := 0) dX4_mergeMean_33 rfl (by decide) ?_
      refine z_istore dX4_mergeMean_34 rfl (Nat.le_of_ble_eq_true rfl) ?_
      refine z_iload dX4_mergeMean_36 rfl rfl ?_
      refine z_if_eq (tgt := 66) dX4_mergeMean_38 rfl (by decide) (fun c38 => ?_) (fun c38 => absurd c38 (fun z => z rfl))
      refine z_iconst (v := -1) dX4_mergeMean_66 rfl (by decide) ?_
      exact kk _ _ (by rw [if_pos (hn4 (by grind))])
    · skip
      refine z_iconst (v := 1) dX4_mergeMean_29 rfl (by decide) ?_
      refine z_goto (tgt := 34) dX4_mergeMean_30 rfl (by decide) ?_
      refine z_istore dX4_mergeMean_34 rfl (Nat.le_of_ble_eq_true rfl) ?_
      refine z_iload dX4_mergeMean_36 rfl rfl ?_
      refine z_if_eq (tgt := 66) dX4_mergeMean_38 rfl (by decide) (fun c38 => absurd c38 (by decide)) (fun c38 => ?_)
      first | refine z_aload_n dX4_mergeMean_41 rfl rfl ?_ | refine z_aload_nN dX4_mergeMean_41 rfl rfl ?_
      refine zg_X4_9 rfl dX4_mergeMean_42 rfl hk rfl ?_
      refine zg_X4_81 rfl dX4_mergeMean_45 rfl hl.1 rfl ?_
      refine z_iload_n dX4_mergeMean_48 rfl rfl ?_
      refine z_iald dX4_mergeMean_49 rfl hl.2.1 (vp_in_nI (by omega) (by omega)) ?_
      rw [nI_clamp (show i < 2 ^ 31 by omega)]
      first | refine z_aload_n dX4_mergeMean_50 rfl rfl ?_ | refine z_aload_nN dX4_mergeMean_50 rfl rfl ?_
      refine zg_X4_15 rfl dX4_mergeMean_51 rfl hk rfl ?_
      refine zg_X4_81 rfl dX4_mergeMean_54 rfl hr2.1 rfl ?_
      refine z_iload dX4_mergeMean_57 rfl rfl ?_
      refine z_iald dX4_mergeMean_59 rfl hr2.2.1 (vp_in_nI (by omega) (by omega)) ?_
      rw [nI_clamp (show j < 2 ^ 31 by omega)]
      refine zcx_X4_49 rfl dX4_mergeMean_60 rfl (m_joined g h _ _ ⟨oa.1.1, by grind⟩ ⟨ob.1.1, by grind⟩) rfl rfl ⟨(Nat.le_of_ble_eq_true rfl), (Nat.le_of_ble_eq_true rfl)⟩ ⟨(Nat.le_of_ble_eq_true rfl), (Nat.le_of_ble_eq_true rfl)⟩ (Nat.le_of_ble_eq_true rfl) ?_
      refine z_goto (tgt := 67) dX4_mergeMean_63 rfl (by decide) ?_
      exact kk _ _ (by rw [sJo])

abbrev YX4_merged : zY := (yX4_merged.cls, cX4_merged, 5, (some (.object "LoggerTwins$Cells")), rmX4_merged, yX4_merged.name, fun _ _ => True)
set_option maxHeartbeats 800000 in
set_option maxRecDepth 100000 in
theorem m_merged_L (g : zG) (h : zH) (kp l r s : Nat) (C : sCo) (f : Nat → Nat → Int32) (hk : h.2 kp = some (kOb l r s C.2.2.1 C.2.2.2.length)) (hf : csIs h s (C.1.2.length + C.2.1.2.length) f) (cl cr : Nat → sC) (oL : aOk C.1) (hl : cAt h l C.1.1 C.1.2.length cl) (hll : ∀ i, i < C.1.2.length → cl i = C.1.2.getD i z0) (oR : aOk C.2.1) (hr2 : cAt h r C.2.1.1 C.2.1.2.length cr) (hlr : ∀ i, i < C.2.1.2.length → cr i = C.2.1.2.getD i z0) (hLn : C.2.2.2.length ≤ C.1.2.length + C.2.1.2.length) (hL : ∀ k t, C.2.2.2[k]? = some t → stpIs f k t) (hOk : ∀ t, t ∈ C.2.2.2 → stpOk C.1 C.2.1 t) (hw : wfH h) (mode : Int32) (hN : (sMrg C mode).length ≤ 20) : ∀ (n k : Nat), k + n = C.2.2.2.length → zZ g YX4_merged (zE g (fun v h1 => v = some (.ref h.1) ∧ h1 = cUp h.1 (sJoinK C.1.1 C.2.1.1) (sMrg C mode).length (lF (cIn (sJoinK C.1.1 C.2.1.1) (sMrg C mode).length) ((sMrg C mode).map (fun y => sConv y (sJoinK C.1.1 C.2.1.1)))) (h.1 + 4, h.2)) 4 125) 21 [(2, .ref h.1), (3, .int (nI ((C.2.2.2.take k).filterMap (mrg C mode)).length)), (4, .int (nI k)), (0, .ref kp), (1, .int mode)] [] (cUp h.1 (sJoinK C.1.1 C.2.1.1) (sMrg C mode).length (lF (cIn (sJoinK C.1.1 C.2.1.1) (sMrg C mode).length) (((C.2.2.2.take k).filterMap (mrg C mode)).map (fun y => sConv y (sJoinK C.1.1 C.2.1.1)))) (h.1 + 4, h.2)) 4 125 := by
  have la : C.1.2.length ≤ 20 := oL.2.2.1
  have lb : C.2.1.2.length ≤ 20 := oR.2.2.1
  have k1 := wf_lt hw hk
  have k2 : s + 5 ≤ h.1 := wf_lt hw (hf 4 (by decide))
  have k3 := cAt_lt hl hw
  have k4 := cAt_lt hr2 hw
  intro n
  induction n with
  | zero =>
    intro k hkn
    have hfull : ((C.2.2.2.take k).filterMap (mrg C mode)) = sMrg C mode := by rw [show k = C.2.2.2.length by omega, List.take_length]; rfl
    refine z_iload dX4_merged_21 rfl rfl ?_
    first | refine z_aload_n dX4_merged_23 rfl rfl ?_ | refine z_aload_nN dX4_merged_23 rfl rfl ?_
    refine zg_X4_43 rfl dX4_merged_24 rfl ((cUp_out (by omega)).trans hk) rfl ?_
    refine z_icmp_ge (tgt := 158) dX4_merged_27 rfl (by decide) (fun c27 => ?_) (fun c27 => absurd c27 (fun z => z (nI_le (by omega) (by omega))))
    first | refine z_aload_n dX4_merged_158 rfl rfl ?_ | refine z_aload_nN dX4_merged_158 rfl rfl ?_
    exact z_aret dX4_merged_159 rfl rfl (Or.inl ⟨_, rfl⟩) ⟨rfl, by rw [hfull]⟩ (Nat.le_of_ble_eq_true rfl) (Nat.le_of_ble_eq_true rfl)
  | succ n ih =>
    intro k hkn
    have hsplit : sMrg C mode = ((C.2.2.2.take k).filterMap (mrg C mode)) ++ (C.2.2.2.drop k).filterMap (mrg C mode) := by
      unfold sMrg
      rw [← List.filterMap_append, List.take_append_drop]
    have hML : ((C.2.2.2.take k).filterMap (mrg C mode)).length ≤ (sMrg C mode).length := by rw [hsplit, List.length_append]; omega
    by_cases hM : (sMrg C mode).length ≤ ((C.2.2.2.take k).filterMap (mrg C mode)).length
    · have hfull : ((C.2.2.2.take k).filterMap (mrg C mode)) = sMrg C mode := by
        have hz : ((C.2.2.2.drop k).filterMap (mrg C mode)).length = 0 := by
          have := congrArg List.length hsplit
          rw [List.length_append] at this
          omega
        rw [hsplit, List.eq_nil_of_length_eq_zero hz, List.append_nil]
      refine z_iload dX4_merged_21 rfl rfl ?_
      first | refine z_aload_n dX4_merged_23 rfl rfl ?_ | refine z_aload_nN dX4_merged_23 rfl rfl ?_
      refine zg_X4_43 rfl dX4_merged_24 rfl ((cUp_out (by omega)).trans hk) rfl ?_
      refine z_icmp_ge (tgt := 158) dX4_merged_27 rfl (by decide) (fun c27 => absurd c27 (nI_ge (by omega) (by omega))) (fun c27 => ?_)
      refine z_iload_n dX4_merged_30 rfl rfl ?_
      first | refine z_aload_n dX4_merged_31 rfl rfl ?_ | refine z_aload_nN dX4_merged_31 rfl rfl ?_
      refine zg_X4_22 rfl dX4_merged_32 rfl (cUp_at _ _ _ _ _).1 rfl ?_
      refine z_icmp_ge (tgt := 158) dX4_merged_35 rfl (by decide) (fun c35 => ?_) (fun c35 => absurd c35 (fun z => z (nI_le (by omega) (by omega))))
      first | refine z_aload_n dX4_merged_158 rfl rfl ?_ | refine z_aload_nN dX4_merged_158 rfl rfl ?_
      exact z_aret dX4_merged_159 rfl rfl (Or.inl ⟨_, rfl⟩) ⟨rfl, by rw [hfull]⟩ (Nat.le_of_ble_eq_true rfl) (Nat.le_of_ble_eq_true rfl)
    have hM2 : ((C.2.2.2.take k).filterMap (mrg C mode)).length < (sMrg C mode).length := by omega
    obtain ⟨t, ht⟩ : ∃ t, C.2.2.2[k]? = some t := ⟨_, List.getElem?_eq_getElem (by omega)⟩
    by_cases n4 : t.2.2.2.1 = 4
    · skip
      refine z_iload dX4_merged_21 rfl rfl ?_
      first | refine z_aload_n dX4_merged_23 rfl rfl ?_ | refine z_aload_nN dX4_merged_23 rfl rfl ?_
      refine zg_X4_43 rfl dX4_merged_24 rfl ((cUp_out (by omega)).trans hk) rfl ?_
      refine z_icmp_ge (tgt := 158) dX4_merged_27 rfl (by decide) (fun c27 => absurd c27 (nI_ge (by omega) (by omega))) (fun c27 => ?_)
      refine z_iload_n dX4_merged_30 rfl rfl ?_
      first | refine z_aload_n dX4_merged_31 rfl rfl ?_ | refine z_aload_nN dX4_merged_31 rfl rfl ?_
      refine zg_X4_22 rfl dX4_merged_32 rfl (cUp_at _ _ _ _ _).1 rfl ?_
      refine z_icmp_ge (tgt := 158) dX4_merged_35 rfl (by decide) (fun c35 => absurd c35 (nI_ge (by omega) (by omega))) (fun c35 => ?_)
      first | refine z_aload_n dX4_merged_38 rfl rfl ?_ | refine z_aload_nN dX4_merged_38 rfl rfl ?_
      refine zg_X4_37 rfl dX4_merged_39 rfl ((cUp_out (by omega)).trans hk) rfl ?_
      refine z_iload dX4_merged_42 rfl rfl ?_
      refine z_iald dX4_merged_44 rfl ((cUp_out (by omega)).trans (hf 3 (by decide))) (vp_in_nI (by omega) (by omega)) ?_
      rw [nI_clamp (show k < 2 ^ 31 by omega), (hL k t ht).2.2.2.1]
      refine z_iconst (v := 4) dX4_merged_45 rfl (by decide) ?_
      refine z_icmp_ne (tgt := 52) dX4_merged_46 rfl (by decide) (fun c46 => absurd c46 (fun z => z n4)) (fun c46 => ?_)
      refine z_goto (tgt := 152) dX4_merged_49 rfl (by decide) ?_
      refine z_iinc (v := nI (k + 1)) dX4_merged_152 rfl rfl (nI_inc k) (Nat.le_of_ble_eq_true rfl) ?_
      refine z_goto (tgt := 21) dX4_merged_155 rfl (by decide) ?_
      rw [show ((C.2.2.2.take k).filterMap (mrg C mode)) = ((C.2.2.2.take (k + 1)).filterMap (mrg C mode)) from (fm_none ht (by rw [mrg, if_pos n4])).symm]
      refine z_lv [(2, .ref h.1), (3, .int (nI ((C.2.2.2.take (k + 1)).filterMap (mrg C mode)).length)), (4, .int (nI (k + 1))), (0, .ref kp), (1, .int mode)] ⟨rfl, rfl, rfl, rfl, rfl, trivial⟩ ?_
      exact ih (k + 1) (by omega)
    have nxt_ : ∀ u, mrg C mode t = some u → uC (lF (cIn (sJoinK C.1.1 C.2.1.1) (sMrg C mode).length) (((C.2.2.2.take k).filterMap (mrg C mode)).map (fun y => sConv y (sJoinK C.1.1 C.2.1.1)))) ((C.2.2.2.take k).filterMap (mrg C mode)).length (sConv u (sJoinK C.1.1 C.2.1.1)) = lF (cIn (sJoinK C.1.1 C.2.1.1) (sMrg C mode).length) (((C.2.2.2.take (k + 1)).filterMap (mrg C mode)).map (fun y => sConv y (sJoinK C.1.1 C.2.1.1))) := fun u hu => by
      rw [fm_some ht hu, List.map_append, List.map_singleton, ← lF_s, List.length_map]
    rcases hOk t (List.mem_of_getElem? ht) with ⟨e1, ⟨i, j, hi, hj, e2, e3, -⟩, -⟩ | ⟨e1, -, ⟨i, hi, e2⟩, -⟩ | ⟨e1, -, ⟨j, hj, e3⟩, -⟩
    · have nl : t.1 ≠ 1 := by rw [e1]; decide
      have nr : t.1 ≠ 2 := by rw [e1]; decide
      have hmr : mrg C mode t = some (sMake (cl i) (cr j) mode) := by rw [mrg, if_neg n4, if_pos e1, e2, e3, show ix (nI i) = i from nI_clamp (by omega), show ix (nI j) = j from nI_clamp (by omega), hll i hi, hlr j hj]
      have hnx := nxt_ _ hmr
      by_cases em : mode = 2
      · have hval : sConv (sMake (cl i) (cr j) 2) (sJoinK C.1.1 C.2.1.1) = sConv (sMake (cl i) (cr j) mode) (sJoinK C.1.1 C.2.1.1) := by rw [em]
        refine z_iload dX4_merged_21 rfl rfl ?_
        first | refine z_aload_n dX4_merged_23 rfl rfl ?_ | refine z_aload_nN dX4_merged_23 rfl rfl ?_
        refine zg_X4_43 rfl dX4_merged_24 rfl ((cUp_out (by omega)).trans hk) rfl ?_
        refine z_icmp_ge (tgt := 158) dX4_merged_27 rfl (by decide) (fun c27 => absurd c27 (nI_ge (by omega) (by omega))) (fun c27 => ?_)
        refine z_iload_n dX4_merged_30 rfl rfl ?_
        first | refine z_aload_n dX4_merged_31 rfl rfl ?_ | refine z_aload_nN dX4_merged_31 rfl rfl ?_
        refine zg_X4_22 rfl dX4_merged_32 rfl (cUp_at _ _ _ _ _).1 rfl ?_
        refine z_icmp_ge (tgt := 158) dX4_merged_35 rfl (by decide) (fun c35 => absurd c35 (nI_ge (by omega) (by omega))) (fun c35 => ?_)
        first | refine z_aload_n dX4_merged_38 rfl rfl ?_ | refine z_aload_nN dX4_merged_38 rfl rfl ?_
        refine zg_X4_37 rfl dX4_merged_39 rfl ((cUp_out (by omega)).trans hk) rfl ?_
        refine z_iload dX4_merged_42 rfl rfl ?_
        refine z_iald dX4_merged_44 rfl ((cUp_out (by omega)).trans (hf 3 (by decide))) (vp_in_nI (by omega) (by omega)) ?_
        rw [nI_clamp (show k < 2 ^ 31 by omega), (hL k t ht).2.2.2.1]
        refine z_iconst (v := 4) dX4_merged_45 rfl (by decide) ?_
        refine z_icmp_ne (tgt := 52) dX4_merged_46 rfl (by decide) (fun c46 => ?_) (fun c46 => absurd c46 n4)
        first | refine z_aload_n dX4_merged_52 rfl rfl ?_ | refine z_aload_nN dX4_merged_52 rfl rfl ?_
        refine zg_X4_27 rfl dX4_merged_53 rfl ((cUp_out (by omega)).trans hk) rfl ?_
        refine z_iload dX4_merged_56 rfl rfl ?_
        refine z_iald dX4_merged_58 rfl ((cUp_out (by omega)).trans (hf 0 (by decide))) (vp_in_nI (by omega) (by omega)) ?_
        rw [nI_clamp (show k < 2 ^ 31 by omega), (hL k t ht).1]
        refine z_if_ne (tgt := 90) dX4_merged_59 rfl (by decide) (fun c59 => absurd c59 (fun z => z e1)) (fun c59 => ?_)
        refine z_iload_n dX4_merged_62 rfl rfl ?_
        refine z_iconst (v := 2) dX4_merged_63 rfl (by decide) ?_
        refine z_icmp_ne (tgt := 90) dX4_merged_64 rfl (by decide) (fun c64 => absurd c64 (fun z => z em)) (fun c64 => ?_)
        first | refine z_aload_n dX4_merged_67 rfl rfl ?_ | refine z_aload_nN dX4_merged_67 rfl rfl ?_
        first | refine z_aload_n dX4_merged_68 rfl rfl ?_ | refine z_aload_nN dX4_merged_68 rfl rfl ?_
        refine z_iload_n dX4_merged_69 rfl rfl ?_
        first | refine z_aload_n dX4_merged_70 rfl rfl ?_ | refine z_aload_nN dX4_merged_70 rfl rfl ?_
        refine zg_X4_31 rfl dX4_merged_71 rfl ((cUp_out (by omega)).trans hk) rfl ?_
        refine z_iload dX4_merged_74 rfl rfl ?_
        refine z_iald dX4_merged_76 rfl ((cUp_out (by omega)).trans (hf 1 (by decide))) (vp_in_nI (by omega) (by omega)) ?_
        rw [nI_clamp (show k < 2 ^ 31 by omega), (hL k t ht).2.1 (by rw [e1]; decide), e2]
        first | refine z_aload_n dX4_merged_77 rfl rfl ?_ | refine z_aload_nN dX4_merged_77 rfl rfl ?_
        refine zg_X4_34 rfl dX4_merged_78 rfl ((cUp_out (by omega)).trans hk) rfl ?_
        refine z_iload dX4_merged_81 rfl rfl ?_
        refine z_iald dX4_merged_83 rfl ((cUp_out (by omega)).trans (hf 2 (by decide))) (vp_in_nI (by omega) (by omega)) ?_
        rw [nI_clamp (show k < 2 ^ 31 by omega), (hL k t ht).2.2.1 (by rw [e1]; decide), e3]
        refine zcv_X4_69 rfl dX4_merged_84 rfl ((cUp_out (by omega)).trans hk) (m_mergeMean g (cUp h.1 (sJoinK C.1.1 C.2.1.1) (sMrg C mode).length (lF (cIn (sJoinK C.1.1 C.2.1.1) (sMrg C mode).length) (((C.2.2.2.take k).filterMap (mrg C mode)).map (fun y => sConv y (sJoinK C.1.1 C.2.1.1)))) (h.1 + 4, h.2)) kp l r s _ _ ((cUp_out (by omega)).trans hk) _ _ _ _ cl cr (cAt_fr hl (fun z z1 z2 => cUp_out (by omega))) (cAt_fr hr2 (fun z z1 z2 => cUp_out (by omega))) (by omega) (by omega) h.1 _ _ (cUp_at _ _ _ _ _) (by omega) ((C.2.2.2.take k).filterMap (mrg C mode)).length i j hM2 hi hj (cl_ok (h := h) (a := l) oL hll hi) (cl_ok (h := h) (a := r) oR hlr hj) ⟨oL.1, oL.2.1⟩ ⟨oR.1, oR.2.1⟩) rfl rfl ⟨(Nat.le_of_ble_eq_true rfl), (Nat.le_of_ble_eq_true rfl)⟩ ⟨(Nat.le_of_ble_eq_true rfl), (Nat.le_of_ble_eq_true rfl)⟩ (Nat.le_of_ble_eq_true rfl) ?_
        refine z_goto (tgt := 149) dX4_merged_87 rfl (by decide) ?_
        rw [hval]
        rw [hnx, cUp_up]
        refine z_iinc (v := nI (((C.2.2.2.take k).filterMap (mrg C mode)).length + 1)) dX4_merged_149 rfl rfl (nI_inc _) (Nat.le_of_ble_eq_true rfl) ?_
        refine z_iinc (v := nI (k + 1)) dX4_merged_152 rfl rfl (nI_inc k) (Nat.le_of_ble_eq_true rfl) ?_
        refine z_goto (tgt := 21) dX4_merged_155 rfl (by decide) ?_
        refine z_lv [(2, .ref h.1), (3, .int (nI ((C.2.2.2.take (k + 1)).filterMap (mrg C mode)).length)), (4, .int (nI (k + 1))), (0, .ref kp), (1, .int mode)] (by rw [show ((C.2.2.2.take (k + 1)).filterMap (mrg C mode)).length = ((C.2.2.2.take k).filterMap (mrg C mode)).length + 1 from by rw [fm_some ht hmr, List.length_append]; rfl]; exact ⟨rfl, rfl, rfl, rfl, rfl, trivial⟩) ?_
        exact ih (k + 1) (by omega)
      by_cases em1 : mode = 1
      · have hval : sConv (cr j) (sJoinK C.1.1 C.2.1.1) = sConv (sMake (cl i) (cr j) mode) (sJoinK C.1.1 C.2.1.1) := by rw [sMake, if_neg (fun z => em z.1), if_pos em1]
        refine z_iload dX4_merged_21 rfl rfl ?_
        first | refine z_aload_n dX4_merged_23 rfl rfl ?_ | refine z_aload_nN dX4_merged_23 rfl rfl ?_
        refine zg_X4_43 rfl dX4_merged_24 rfl ((cUp_out (by omega)).trans hk) rfl ?_
        refine z_icmp_ge (tgt := 158) dX4_merged_27 rfl (by decide) (fun c27 => absurd c27 (nI_ge (by omega) (by omega))) (fun c27 => ?_)
        refine z_iload_n dX4_merged_30 rfl rfl ?_
        first | refine z_aload_n dX4_merged_31 rfl rfl ?_ | refine z_aload_nN dX4_merged_31 rfl rfl ?_
        refine zg_X4_22 rfl dX4_merged_32 rfl (cUp_at _ _ _ _ _).1 rfl ?_
        refine z_icmp_ge (tgt := 158) dX4_merged_35 rfl (by decide) (fun c35 => absurd c35 (nI_ge (by omega) (by omega))) (fun c35 => ?_)
        first | refine z_aload_n dX4_merged_38 rfl rfl ?_ | refine z_aload_nN dX4_merged_38 rfl rfl ?_
        refine zg_X4_37 rfl dX4_merged_39 rfl ((cUp_out (by omega)).trans hk) rfl ?_
        refine z_iload dX4_merged_42 rfl rfl ?_
        refine z_iald dX4_merged_44 rfl ((cUp_out (by omega)).trans (hf 3 (by decide))) (vp_in_nI (by omega) (by omega)) ?_
        rw [nI_clamp (show k < 2 ^ 31 by omega), (hL k t ht).2.2.2.1]
        refine z_iconst (v := 4) dX4_merged_45 rfl (by decide) ?_
        refine z_icmp_ne (tgt := 52) dX4_merged_46 rfl (by decide) (fun c46 => ?_) (fun c46 => absurd c46 n4)
        first | refine z_aload_n dX4_merged_52 rfl rfl ?_ | refine z_aload_nN dX4_merged_52 rfl rfl ?_
        refine zg_X4_27 rfl dX4_merged_53 rfl ((cUp_out (by omega)).trans hk) rfl ?_
        refine z_iload dX4_merged_56 rfl rfl ?_
        refine z_iald dX4_merged_58 rfl ((cUp_out (by omega)).trans (hf 0 (by decide))) (vp_in_nI (by omega) (by omega)) ?_
        rw [nI_clamp (show k < 2 ^ 31 by omega), (hL k t ht).1]
        refine z_if_ne (tgt := 90) dX4_merged_59 rfl (by decide) (fun c59 => absurd c59 (fun z => z e1)) (fun c59 => ?_)
        refine z_iload_n dX4_merged_62 rfl rfl ?_
        refine z_iconst (v := 2) dX4_merged_63 rfl (by decide) ?_
        refine z_icmp_ne (tgt := 90) dX4_merged_64 rfl (by decide) (fun c64 => ?_) (fun c64 => absurd c64 em)
        first | refine z_aload_n dX4_merged_90 rfl rfl ?_ | refine z_aload_nN dX4_merged_90 rfl rfl ?_
        refine z_iload dX4_merged_91 rfl rfl ?_
        refine zcx_X4_73 rfl dX4_merged_93 rfl ((cUp_out (by omega)).trans hk) (m_hasLeft g (cUp h.1 (sJoinK C.1.1 C.2.1.1) (sMrg C mode).length (lF (cIn (sJoinK C.1.1 C.2.1.1) (sMrg C mode).length) (((C.2.2.2.take k).filterMap (mrg C mode)).map (fun y => sConv y (sJoinK C.1.1 C.2.1.1)))) (h.1 + 4, h.2)) kp l r s C.2.2.1 (C.1.2.length + C.2.1.2.length) f C.2.2.2 ((cUp_out (by omega)).trans hk) (fun j hj => (cUp_out (by omega)).trans (hf j hj)) hL hLn (by omega) k t ht) rfl rfl ⟨(Nat.le_of_ble_eq_true rfl), (Nat.le_of_ble_eq_true rfl)⟩ ⟨(Nat.le_of_ble_eq_true rfl), (Nat.le_of_ble_eq_true rfl)⟩ (Nat.le_of_ble_eq_true rfl) ?_
        refine z_bif_eq (tgt := 114) dX4_merged_96 rfl (by decide) (fun c96 => absurd c96 (fun z => z (by rw [e1]; decide))) (fun c96 => ?_)
        first | refine z_aload_n dX4_merged_99 rfl rfl ?_ | refine z_aload_nN dX4_merged_99 rfl rfl ?_
        refine zg_X4_27 rfl dX4_merged_100 rfl ((cUp_out (by omega)).trans hk) rfl ?_
        refine z_iload dX4_merged_103 rfl rfl ?_
        refine z_iald dX4_merged_105 rfl ((cUp_out (by omega)).trans (hf 0 (by decide))) (vp_in_nI (by omega) (by omega)) ?_
        rw [nI_clamp (show k < 2 ^ 31 by omega), (hL k t ht).1]
        refine z_if_ne (tgt := 133) dX4_merged_106 rfl (by decide) (fun c106 => absurd c106 (fun z => z e1)) (fun c106 => ?_)
        refine z_iload_n dX4_merged_109 rfl rfl ?_
        refine z_iconst (v := 1) dX4_merged_110 rfl (by decide) ?_
        refine z_icmp_ne (tgt := 133) dX4_merged_111 rfl (by decide) (fun c111 => absurd c111 (fun z => z em1)) (fun c111 => ?_)
        first | refine z_aload_n dX4_merged_114 rfl rfl ?_ | refine z_aload_nN dX4_merged_114 rfl rfl ?_
        refine z_iload_n dX4_merged_115 rfl rfl ?_
        first | refine z_aload_n dX4_merged_116 rfl rfl ?_ | refine z_aload_nN dX4_merged_116 rfl rfl ?_
        refine zg_X4_15 rfl dX4_merged_117 rfl ((cUp_out (by omega)).trans hk) rfl ?_
        first | refine z_aload_n dX4_merged_120 rfl rfl ?_ | refine z_aload_nN dX4_merged_120 rfl rfl ?_
        refine zg_X4_34 rfl dX4_merged_121 rfl ((cUp_out (by omega)).trans hk) rfl ?_
        refine z_iload dX4_merged_124 rfl rfl ?_
        refine z_iald dX4_merged_126 rfl ((cUp_out (by omega)).trans (hf 2 (by decide))) (vp_in_nI (by omega) (by omega)) ?_
        rw [nI_clamp (show k < 2 ^ 31 by omega), (hL k t ht).2.2.1 nl, e3]
        refine zcv_X4_77 rfl dX4_merged_127 rfl (cUp_at _ _ _ _ _).1 (m_take g (cUp h.1 (sJoinK C.1.1 C.2.1.1) (sMrg C mode).length (lF (cIn (sJoinK C.1.1 C.2.1.1) (sMrg C mode).length) (((C.2.2.2.take k).filterMap (mrg C mode)).map (fun y => sConv y (sJoinK C.1.1 C.2.1.1)))) (h.1 + 4, h.2)) h.1 _ _ _ (cUp_at _ _ _ _ _) (by omega) ((C.2.2.2.take k).filterMap (mrg C mode)).length hM2 r _ _ cr (cAt_fr hr2 (fun z z1 z2 => cUp_out (by omega))) (by omega) j hj (cl_ok (h := h) (a := r) oR hlr hj).1 (jk_in ⟨oL.1, oL.2.1⟩) (jk_b (cl_ok (h := h) (a := r) oR hlr hj).2)) rfl rfl ⟨(Nat.le_of_ble_eq_true rfl), (Nat.le_of_ble_eq_true rfl)⟩ ⟨(Nat.le_of_ble_eq_true rfl), (Nat.le_of_ble_eq_true rfl)⟩ (Nat.le_of_ble_eq_true rfl) ?_
        refine z_goto (tgt := 149) dX4_merged_130 rfl (by decide) ?_
        rw [hval]
        rw [hnx, cUp_up]
        refine z_iinc (v := nI (((C.2.2.2.take k).filterMap (mrg C mode)).length + 1)) dX4_merged_149 rfl rfl (nI_inc _) (Nat.le_of_ble_eq_true rfl) ?_
        refine z_iinc (v := nI (k + 1)) dX4_merged_152 rfl rfl (nI_inc k) (Nat.le_of_ble_eq_true rfl) ?_
        refine z_goto (tgt := 21) dX4_merged_155 rfl (by decide) ?_
        refine z_lv [(2, .ref h.1), (3, .int (nI ((C.2.2.2.take (k + 1)).filterMap (mrg C mode)).length)), (4, .int (nI (k + 1))), (0, .ref kp), (1, .int mode)] (by rw [show ((C.2.2.2.take (k + 1)).filterMap (mrg C mode)).length = ((C.2.2.2.take k).filterMap (mrg C mode)).length + 1 from by rw [fm_some ht hmr, List.length_append]; rfl]; exact ⟨rfl, rfl, rfl, rfl, rfl, trivial⟩) ?_
        exact ih (k + 1) (by omega)
      · have hval : sConv (cl i) (sJoinK C.1.1 C.2.1.1) = sConv (sMake (cl i) (cr j) mode) (sJoinK C.1.1 C.2.1.1) := by rw [sMake, if_neg (fun z => em z.1), if_neg em1]
        refine z_iload dX4_merged_21 rfl rfl ?_
        first | refine z_aload_n dX4_merged_23 rfl rfl ?_ | refine z_aload_nN dX4_merged_23 rfl rfl ?_
        refine zg_X4_43 rfl dX4_merged_24 rfl ((cUp_out (by omega)).trans hk) rfl ?_
        refine z_icmp_ge (tgt := 158) dX4_merged_27 rfl (by decide) (fun c27 => absurd c27 (nI_ge (by omega) (by omega))) (fun c27 => ?_)
        refine z_iload_n dX4_merged_30 rfl rfl ?_
        first | refine z_aload_n dX4_merged_31 rfl rfl ?_ | refine z_aload_nN dX4_merged_31 rfl rfl ?_
        refine zg_X4_22 rfl dX4_merged_32 rfl (cUp_at _ _ _ _ _).1 rfl ?_
        refine z_icmp_ge (tgt := 158) dX4_merged_35 rfl (by decide) (fun c35 => absurd c35 (nI_ge (by omega) (by omega))) (fun c35 => ?_)
        first | refine z_aload_n dX4_merged_38 rfl rfl ?_ | refine z_aload_nN dX4_merged_38 rfl rfl ?_
        refine zg_X4_37 rfl dX4_merged_39 rfl ((cUp_out (by omega)).trans hk) rfl ?_
        refine z_iload dX4_merged_42 rfl rfl ?_
        refine z_iald dX4_merged_44 rfl ((cUp_out (by omega)).trans (hf 3 (by decide))) (vp_in_nI (by omega) (by omega)) ?_
        rw [nI_clamp (show k < 2 ^ 31 by omega), (hL k t ht).2.2.2.1]
        refine z_iconst (v := 4) dX4_merged_45 rfl (by decide) ?_
        refine z_icmp_ne (tgt := 52) dX4_merged_46 rfl (by decide) (fun c46 => ?_) (fun c46 => absurd c46 n4)
        first | refine z_aload_n dX4_merged_52 rfl rfl ?_ | refine z_aload_nN dX4_merged_52 rfl rfl ?_
        refine zg_X4_27 rfl dX4_merged_53 rfl ((cUp_out (by omega)).trans hk) rfl ?_
        refine z_iload dX4_merged_56 rfl rfl ?_
        refine z_iald dX4_merged_58 rfl ((cUp_out (by omega)).trans (hf 0 (by decide))) (vp_in_nI (by omega) (by omega)) ?_
        rw [nI_clamp (show k < 2 ^ 31 by omega), (hL k t ht).1]
        refine z_if_ne (tgt := 90) dX4_merged_59 rfl (by decide) (fun c59 => absurd c59 (fun z => z e1)) (fun c59 => ?_)
        refine z_iload_n dX4_merged_62 rfl rfl ?_
        refine z_iconst (v := 2) dX4_merged_63 rfl (by decide) ?_
        refine z_icmp_ne (tgt := 90) dX4_merged_64 rfl (by decide) (fun c64 => ?_) (fun c64 => absurd c64 em)
        first | refine z_aload_n dX4_merged_90 rfl rfl ?_ | refine z_aload_nN dX4_merged_90 rfl rfl ?_
        refine z_iload dX4_merged_91 rfl rfl ?_
        refine zcx_X4_73 rfl dX4_merged_93 rfl ((cUp_out (by omega)).trans hk) (m_hasLeft g (cUp h.1 (sJoinK C.1.1 C.2.1.1) (sMrg C mode).length (lF (cIn (sJoinK C.1.1 C.2.1.1) (sMrg C mode).length) (((C.2.2.2.take k).filterMap (mrg C mode)).map (fun y => sConv y (sJoinK C.1.1 C.2.1.1)))) (h.1 + 4, h.2)) kp l r s C.2.2.1 (C.1.2.length + C.2.1.2.length) f C.2.2.2 ((cUp_out (by omega)).trans hk) (fun j hj => (cUp_out (by omega)).trans (hf j hj)) hL hLn (by omega) k t ht) rfl rfl ⟨(Nat.le_of_ble_eq_true rfl), (Nat.le_of_ble_eq_true rfl)⟩ ⟨(Nat.le_of_ble_eq_true rfl), (Nat.le_of_ble_eq_true rfl)⟩ (Nat.le_of_ble_eq_true rfl) ?_
        refine z_bif_eq (tgt := 114) dX4_merged_96 rfl (by decide) (fun c96 => absurd c96 (fun z => z (by rw [e1]; decide))) (fun c96 => ?_)
        first | refine z_aload_n dX4_merged_99 rfl rfl ?_ | refine z_aload_nN dX4_merged_99 rfl rfl ?_
        refine zg_X4_27 rfl dX4_merged_100 rfl ((cUp_out (by omega)).trans hk) rfl ?_
        refine z_iload dX4_merged_103 rfl rfl ?_
        refine z_iald dX4_merged_105 rfl ((cUp_out (by omega)).trans (hf 0 (by decide))) (vp_in_nI (by omega) (by omega)) ?_
        rw [nI_clamp (show k < 2 ^ 31 by omega), (hL k t ht).1]
        refine z_if_ne (tgt := 133) dX4_merged_106 rfl (by decide) (fun c106 => absurd c106 (fun z => z e1)) (fun c106 => ?_)
        refine z_iload_n dX4_merged_109 rfl rfl ?_
        refine z_iconst (v := 1) dX4_merged_110 rfl (by decide) ?_
        refine z_icmp_ne (tgt := 133) dX4_merged_111 rfl (by decide) (fun c111 => ?_) (fun c111 => absurd c111 em1)
        first | refine z_aload_n dX4_merged_133 rfl rfl ?_ | refine z_aload_nN dX4_merged_133 rfl rfl ?_
        refine z_iload_n dX4_merged_134 rfl rfl ?_
        first | refine z_aload_n dX4_merged_135 rfl rfl ?_ | refine z_aload_nN dX4_merged_135 rfl rfl ?_
        refine zg_X4_9 rfl dX4_merged_136 rfl ((cUp_out (by omega)).trans hk) rfl ?_
        first | refine z_aload_n dX4_merged_139 rfl rfl ?_ | refine z_aload_nN dX4_merged_139 rfl rfl ?_
        refine zg_X4_31 rfl dX4_merged_140 rfl ((cUp_out (by omega)).trans hk) rfl ?_
        refine z_iload dX4_merged_143 rfl rfl ?_
        refine z_iald dX4_merged_145 rfl ((cUp_out (by omega)).trans (hf 1 (by decide))) (vp_in_nI (by omega) (by omega)) ?_
        rw [nI_clamp (show k < 2 ^ 31 by omega), (hL k t ht).2.1 nr, e2]
        refine zcv_X4_77 rfl dX4_merged_146 rfl (cUp_at _ _ _ _ _).1 (m_take g (cUp h.1 (sJoinK C.1.1 C.2.1.1) (sMrg C mode).length (lF (cIn (sJoinK C.1.1 C.2.1.1) (sMrg C mode).length) (((C.2.2.2.take k).filterMap (mrg C mode)).map (fun y => sConv y (sJoinK C.1.1 C.2.1.1)))) (h.1 + 4, h.2)) h.1 _ _ _ (cUp_at _ _ _ _ _) (by omega) ((C.2.2.2.take k).filterMap (mrg C mode)).length hM2 l _ _ cl (cAt_fr hl (fun z z1 z2 => cUp_out (by omega))) (by omega) i hi (cl_ok (h := h) (a := l) oL hll hi).1 (jk_in ⟨oL.1, oL.2.1⟩) (jk_a (cl_ok (h := h) (a := l) oL hll hi).2)) rfl rfl ⟨(Nat.le_of_ble_eq_true rfl), (Nat.le_of_ble_eq_true rfl)⟩ ⟨(Nat.le_of_ble_eq_true rfl), (Nat.le_of_ble_eq_true rfl)⟩ (Nat.le_of_ble_eq_true rfl) ?_
        rw [hval]
        rw [hnx, cUp_up]
        refine z_iinc (v := nI (((C.2.2.2.take k).filterMap (mrg C mode)).length + 1)) dX4_merged_149 rfl rfl (nI_inc _) (Nat.le_of_ble_eq_true rfl) ?_
        refine z_iinc (v := nI (k + 1)) dX4_merged_152 rfl rfl (nI_inc k) (Nat.le_of_ble_eq_true rfl) ?_
        refine z_goto (tgt := 21) dX4_merged_155 rfl (by decide) ?_
        refine z_lv [(2, .ref h.1), (3, .int (nI ((C.2.2.2.take (k + 1)).filterMap (mrg C mode)).length)), (4, .int (nI (k + 1))), (0, .ref kp), (1, .int mode)] (by rw [show ((C.2.2.2.take (k + 1)).filterMap (mrg C mode)).length = ((C.2.2.2.take k).filterMap (mrg C mode)).length + 1 from by rw [fm_some ht hmr, List.length_append]; rfl]; exact ⟨rfl, rfl, rfl, rfl, rfl, trivial⟩) ?_
        exact ih (k + 1) (by omega)
    · have nr : t.1 ≠ 2 := by rw [e1]; decide
      have hmr : mrg C mode t = some (cl i) := by rw [mrg, if_neg n4, if_neg (by rw [e1]; decide), if_pos e1, e2, show ix (nI i) = i from nI_clamp (by omega), hll i hi]
      have hnx := nxt_ _ hmr
      have hval : sConv (cl i) (sJoinK C.1.1 C.2.1.1) = sConv (cl i) (sJoinK C.1.1 C.2.1.1) := rfl
      refine z_iload dX4_merged_21 rfl rfl ?_
      first | refine z_aload_n dX4_merged_23 rfl rfl ?_ | refine z_aload_nN dX4_merged_23 rfl rfl ?_
      refine zg_X4_43 rfl dX4_merged_24 rfl ((cUp_out (by omega)).trans hk) rfl ?_
      refine z_icmp_ge (tgt := 158) dX4_merged_27 rfl (by decide) (fun c27 => absurd c27 (nI_ge (by omega) (by omega))) (fun c27 => ?_)
      refine z_iload_n dX4_merged_30 rfl rfl ?_
      first | refine z_aload_n dX4_merged_31 rfl rfl ?_ | refine z_aload_nN dX4_merged_31 rfl rfl ?_
      refine zg_X4_22 rfl dX4_merged_32 rfl (cUp_at _ _ _ _ _).1 rfl ?_
      refine z_icmp_ge (tgt := 158) dX4_merged_35 rfl (by decide) (fun c35 => absurd c35 (nI_ge (by omega) (by omega))) (fun c35 => ?_)
      first | refine z_aload_n dX4_merged_38 rfl rfl ?_ | refine z_aload_nN dX4_merged_38 rfl rfl ?_
      refine zg_X4_37 rfl dX4_merged_39 rfl ((cUp_out (by omega)).trans hk) rfl ?_
      refine z_iload dX4_merged_42 rfl rfl ?_
      refine z_iald dX4_merged_44 rfl ((cUp_out (by omega)).trans (hf 3 (by decide))) (vp_in_nI (by omega) (by omega)) ?_
      rw [nI_clamp (show k < 2 ^ 31 by omega), (hL k t ht).2.2.2.1]
      refine z_iconst (v := 4) dX4_merged_45 rfl (by decide) ?_
      refine z_icmp_ne (tgt := 52) dX4_merged_46 rfl (by decide) (fun c46 => ?_) (fun c46 => absurd c46 n4)
      first | refine z_aload_n dX4_merged_52 rfl rfl ?_ | refine z_aload_nN dX4_merged_52 rfl rfl ?_
      refine zg_X4_27 rfl dX4_merged_53 rfl ((cUp_out (by omega)).trans hk) rfl ?_
      refine z_iload dX4_merged_56 rfl rfl ?_
      refine z_iald dX4_merged_58 rfl ((cUp_out (by omega)).trans (hf 0 (by decide))) (vp_in_nI (by omega) (by omega)) ?_
      rw [nI_clamp (show k < 2 ^ 31 by omega), (hL k t ht).1]
      refine z_if_ne (tgt := 90) dX4_merged_59 rfl (by decide) (fun c59 => ?_) (fun c59 => absurd c59 (by rw [e1]; decide))
      first | refine z_aload_n dX4_merged_90 rfl rfl ?_ | refine z_aload_nN dX4_merged_90 rfl rfl ?_
      refine z_iload dX4_merged_91 rfl rfl ?_
      refine zcx_X4_73 rfl dX4_merged_93 rfl ((cUp_out (by omega)).trans hk) (m_hasLeft g (cUp h.1 (sJoinK C.1.1 C.2.1.1) (sMrg C mode).length (lF (cIn (sJoinK C.1.1 C.2.1.1) (sMrg C mode).length) (((C.2.2.2.take k).filterMap (mrg C mode)).map (fun y => sConv y (sJoinK C.1.1 C.2.1.1)))) (h.1 + 4, h.2)) kp l r s C.2.2.1 (C.1.2.length + C.2.1.2.length) f C.2.2.2 ((cUp_out (by omega)).trans hk) (fun j hj => (cUp_out (by omega)).trans (hf j hj)) hL hLn (by omega) k t ht) rfl rfl ⟨(Nat.le_of_ble_eq_true rfl), (Nat.le_of_ble_eq_true rfl)⟩ ⟨(Nat.le_of_ble_eq_true rfl), (Nat.le_of_ble_eq_true rfl)⟩ (Nat.le_of_ble_eq_true rfl) ?_
      refine z_bif_eq (tgt := 114) dX4_merged_96 rfl (by decide) (fun c96 => absurd c96 (fun z => z (by rw [e1]; decide))) (fun c96 => ?_)
      first | refine z_aload_n dX4_merged_99 rfl rfl ?_ | refine z_aload_nN dX4_merged_99 rfl rfl ?_
      refine zg_X4_27 rfl dX4_merged_100 rfl ((cUp_out (by omega)).trans hk) rfl ?_
      refine z_iload dX4_merged_103 rfl rfl ?_
      refine z_iald dX4_merged_105 rfl ((cUp_out (by omega)).trans (hf 0 (by decide))) (vp_in_nI (by omega) (by omega)) ?_
      rw [nI_clamp (show k < 2 ^ 31 by omega), (hL k t ht).1]
      refine z_if_ne (tgt := 133) dX4_merged_106 rfl (by decide) (fun c106 => ?_) (fun c106 => absurd c106 (by rw [e1]; decide))
      first | refine z_aload_n dX4_merged_133 rfl rfl ?_ | refine z_aload_nN dX4_merged_133 rfl rfl ?_
      refine z_iload_n dX4_merged_134 rfl rfl ?_
      first | refine z_aload_n dX4_merged_135 rfl rfl ?_ | refine z_aload_nN dX4_merged_135 rfl rfl ?_
      refine zg_X4_9 rfl dX4_merged_136 rfl ((cUp_out (by omega)).trans hk) rfl ?_
      first | refine z_aload_n dX4_merged_139 rfl rfl ?_ | refine z_aload_nN dX4_merged_139 rfl rfl ?_
      refine zg_X4_31 rfl dX4_merged_140 rfl ((cUp_out (by omega)).trans hk) rfl ?_
      refine z_iload dX4_merged_143 rfl rfl ?_
      refine z_iald dX4_merged_145 rfl ((cUp_out (by omega)).trans (hf 1 (by decide))) (vp_in_nI (by omega) (by omega)) ?_
      rw [nI_clamp (show k < 2 ^ 31 by omega), (hL k t ht).2.1 nr, e2]
      refine zcv_X4_77 rfl dX4_merged_146 rfl (cUp_at _ _ _ _ _).1 (m_take g (cUp h.1 (sJoinK C.1.1 C.2.1.1) (sMrg C mode).length (lF (cIn (sJoinK C.1.1 C.2.1.1) (sMrg C mode).length) (((C.2.2.2.take k).filterMap (mrg C mode)).map (fun y => sConv y (sJoinK C.1.1 C.2.1.1)))) (h.1 + 4, h.2)) h.1 _ _ _ (cUp_at _ _ _ _ _) (by omega) ((C.2.2.2.take k).filterMap (mrg C mode)).length hM2 l _ _ cl (cAt_fr hl (fun z z1 z2 => cUp_out (by omega))) (by omega) i hi (cl_ok (h := h) (a := l) oL hll hi).1 (jk_in ⟨oL.1, oL.2.1⟩) (jk_a (cl_ok (h := h) (a := l) oL hll hi).2)) rfl rfl ⟨(Nat.le_of_ble_eq_true rfl), (Nat.le_of_ble_eq_true rfl)⟩ ⟨(Nat.le_of_ble_eq_true rfl), (Nat.le_of_ble_eq_true rfl)⟩ (Nat.le_of_ble_eq_true rfl) ?_
      rw [hval]
      rw [hnx, cUp_up]
      refine z_iinc (v := nI (((C.2.2.2.take k).filterMap (mrg C mode)).length + 1)) dX4_merged_149 rfl rfl (nI_inc _) (Nat.le_of_ble_eq_true rfl) ?_
      refine z_iinc (v := nI (k + 1)) dX4_merged_152 rfl rfl (nI_inc k) (Nat.le_of_ble_eq_true rfl) ?_
      refine z_goto (tgt := 21) dX4_merged_155 rfl (by decide) ?_
      refine z_lv [(2, .ref h.1), (3, .int (nI ((C.2.2.2.take (k + 1)).filterMap (mrg C mode)).length)), (4, .int (nI (k + 1))), (0, .ref kp), (1, .int mode)] (by rw [show ((C.2.2.2.take (k + 1)).filterMap (mrg C mode)).length = ((C.2.2.2.take k).filterMap (mrg C mode)).length + 1 from by rw [fm_some ht hmr, List.length_append]; rfl]; exact ⟨rfl, rfl, rfl, rfl, rfl, trivial⟩) ?_
      exact ih (k + 1) (by omega)
    · have nl : t.1 ≠ 1 := by rw [e1]; decide
      have hmr : mrg C mode t = some (cr j) := by rw [mrg, if_neg n4, if_neg (by rw [e1]; decide), if_neg (by rw [e1]; decide), e3, show ix (nI j) = j from nI_clamp (by omega), hlr j hj]
      have hnx := nxt_ _ hmr
      have hval : sConv (cr j) (sJoinK C.1.1 C.2.1.1) = sConv (cr j) (sJoinK C.1.1 C.2.1.1) := rfl
      refine z_iload dX4_merged_21 rfl rfl ?_
      first | refine z_aload_n dX4_merged_23 rfl rfl ?_ | refine z_aload_nN dX4_merged_23 rfl rfl ?_
      refine zg_X4_43 rfl dX4_merged_24 rfl ((cUp_out (by omega)).trans hk) rfl ?_
      refine z_icmp_ge (tgt := 158) dX4_merged_27 rfl (by decide) (fun c27 => absurd c27 (nI_ge (by omega) (by omega))) (fun c27 => ?_)
      refine z_iload_n dX4_merged_30 rfl rfl ?_
      first | refine z_aload_n dX4_merged_31 rfl rfl ?_ | refine z_aload_nN dX4_merged_31 rfl rfl ?_
      refine zg_X4_22 rfl dX4_merged_32 rfl (cUp_at _ _ _ _ _).1 rfl ?_
      refine z_icmp_ge (tgt := 158) dX4_merged_35 rfl (by decide) (fun c35 => absurd c35 (nI_ge (by omega) (by omega))) (fun c35 => ?_)
      first | refine z_aload_n dX4_merged_38 rfl rfl ?_ | refine z_aload_nN dX4_merged_38 rfl rfl ?_
      refine zg_X4_37 rfl dX4_merged_39 rfl ((cUp_out (by omega)).trans hk) rfl ?_
      refine z_iload dX4_merged_42 rfl rfl ?_
      refine z_iald dX4_merged_44 rfl ((cUp_out (by omega)).trans (hf 3 (by decide))) (vp_in_nI (by omega) (by omega)) ?_
      rw [nI_clamp (show k < 2 ^ 31 by omega), (hL k t ht).2.2.2.1]
      refine z_iconst (v := 4) dX4_merged_45 rfl (by decide) ?_
      refine z_icmp_ne (tgt := 52) dX4_merged_46 rfl (by decide) (fun c46 => ?_) (fun c46 => absurd c46 n4)
      first | refine z_aload_n dX4_merged_52 rfl rfl ?_ | refine z_aload_nN dX4_merged_52 rfl rfl ?_
      refine zg_X4_27 rfl dX4_merged_53 rfl ((cUp_out (by omega)).trans hk) rfl ?_
      refine z_iload dX4_merged_56 rfl rfl ?_
      refine z_iald dX4_merged_58 rfl ((cUp_out (by omega)).trans (hf 0 (by decide))) (vp_in_nI (by omega) (by omega)) ?_
      rw [nI_clamp (show k < 2 ^ 31 by omega), (hL k t ht).1]
      refine z_if_ne (tgt := 90) dX4_merged_59 rfl (by decide) (fun c59 => ?_) (fun c59 => absurd c59 (by rw [e1]; decide))
      first | refine z_aload_n dX4_merged_90 rfl rfl ?_ | refine z_aload_nN dX4_merged_90 rfl rfl ?_
      refine z_iload dX4_merged_91 rfl rfl ?_
      refine zcx_X4_73 rfl dX4_merged_93 rfl ((cUp_out (by omega)).trans hk) (m_hasLeft g (cUp h.1 (sJoinK C.1.1 C.2.1.1) (sMrg C mode).length (lF (cIn (sJoinK C.1.1 C.2.1.1) (sMrg C mode).length) (((C.2.2.2.take k).filterMap (mrg C mode)).map (fun y => sConv y (sJoinK C.1.1 C.2.1.1)))) (h.1 + 4, h.2)) kp l r s C.2.2.1 (C.1.2.length + C.2.1.2.length) f C.2.2.2 ((cUp_out (by omega)).trans hk) (fun j hj => (cUp_out (by omega)).trans (hf j hj)) hL hLn (by omega) k t ht) rfl rfl ⟨(Nat.le_of_ble_eq_true rfl), (Nat.le_of_ble_eq_true rfl)⟩ ⟨(Nat.le_of_ble_eq_true rfl), (Nat.le_of_ble_eq_true rfl)⟩ (Nat.le_of_ble_eq_true rfl) ?_
      refine z_bif_eq (tgt := 114) dX4_merged_96 rfl (by decide) (fun c96 => ?_) (fun c96 => absurd c96 (fun z => z e1))
      first | refine z_aload_n dX4_merged_114 rfl rfl ?_ | refine z_aload_nN dX4_merged_114 rfl rfl ?_
      refine z_iload_n dX4_merged_115 rfl rfl ?_
      first | refine z_aload_n dX4_merged_116 rfl rfl ?_ | refine z_aload_nN dX4_merged_116 rfl rfl ?_
      refine zg_X4_15 rfl dX4_merged_117 rfl ((cUp_out (by omega)).trans hk) rfl ?_
      first | refine z_aload_n dX4_merged_120 rfl rfl ?_ | refine z_aload_nN dX4_merged_120 rfl rfl ?_
      refine zg_X4_34 rfl dX4_merged_121 rfl ((cUp_out (by omega)).trans hk) rfl ?_
      refine z_iload dX4_merged_124 rfl rfl ?_
      refine z_iald dX4_merged_126 rfl ((cUp_out (by omega)).trans (hf 2 (by decide))) (vp_in_nI (by omega) (by omega)) ?_
      rw [nI_clamp (show k < 2 ^ 31 by omega), (hL k t ht).2.2.1 nl, e3]
      refine zcv_X4_77 rfl dX4_merged_127 rfl (cUp_at _ _ _ _ _).1 (m_take g (cUp h.1 (sJoinK C.1.1 C.2.1.1) (sMrg C mode).length (lF (cIn (sJoinK C.1.1 C.2.1.1) (sMrg C mode).length) (((C.2.2.2.take k).filterMap (mrg C mode)).map (fun y => sConv y (sJoinK C.1.1 C.2.1.1)))) (h.1 + 4, h.2)) h.1 _ _ _ (cUp_at _ _ _ _ _) (by omega) ((C.2.2.2.take k).filterMap (mrg C mode)).length hM2 r _ _ cr (cAt_fr hr2 (fun z z1 z2 => cUp_out (by omega))) (by omega) j hj (cl_ok (h := h) (a := r) oR hlr hj).1 (jk_in ⟨oL.1, oL.2.1⟩) (jk_b (cl_ok (h := h) (a := r) oR hlr hj).2)) rfl rfl ⟨(Nat.le_of_ble_eq_true rfl), (Nat.le_of_ble_eq_true rfl)⟩ ⟨(Nat.le_of_ble_eq_true rfl), (Nat.le_of_ble_eq_true rfl)⟩ (Nat.le_of_ble_eq_true rfl) ?_
      refine z_goto (tgt := 149) dX4_merged_130 rfl (by decide) ?_
      rw [hval]
      rw [hnx, cUp_up]
      refine z_iinc (v := nI (((C.2.2.2.take k).filterMap (mrg C mode)).length + 1)) dX4_merged_149 rfl rfl (nI_inc _) (Nat.le_of_ble_eq_true rfl) ?_
      refine z_iinc (v := nI (k + 1)) dX4_merged_152 rfl rfl (nI_inc k) (Nat.le_of_ble_eq_true rfl) ?_
      refine z_goto (tgt := 21) dX4_merged_155 rfl (by decide) ?_
      refine z_lv [(2, .ref h.1), (3, .int (nI ((C.2.2.2.take (k + 1)).filterMap (mrg C mode)).length)), (4, .int (nI (k + 1))), (0, .ref kp), (1, .int mode)] (by rw [show ((C.2.2.2.take (k + 1)).filterMap (mrg C mode)).length = ((C.2.2.2.take k).filterMap (mrg C mode)).length + 1 from by rw [fm_some ht hmr, List.length_append]; rfl]; exact ⟨rfl, rfl, rfl, rfl, rfl, trivial⟩) ?_
      exact ih (k + 1) (by omega)

