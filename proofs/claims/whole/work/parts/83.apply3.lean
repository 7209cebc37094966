set_option maxHeartbeats 800000 in
set_option maxRecDepth 100000 in
theorem C_apply (g : zG) (h : zH) (x m : Nat) (w : sW) (hRC : RepC h x m w) (pp r : Int32) : zM g yX9_apply cX9_apply 7 (some .int) rmX9_apply [.ref x, .int pp, .int r] h (cPost x m h (pApply w pp r)) := by
  refine zM_of (by decide) (Nat.le_of_ble_eq_true rfl) ?_
  obtain ⟨col, p, F, Z, k, I, P, q, T, V, hR⟩ := id hRC
  obtain ⟨hw, hz, hS, hq, hr, hX⟩ := id hR
  obtain ⟨S0, S1, S2, S3, S4, S5⟩ := id hS
  obtain ⟨R0, R1, R2, R3⟩ := id hr
  refine z_iload_n dX9_apply_0 rfl rfl ?_
  refine zcx_X9_214 rfl dX9_apply_1 rfl (m_isPatch g h _) rfl rfl ⟨(Nat.le_of_ble_eq_true rfl), (Nat.le_of_ble_eq_true rfl)⟩ ⟨(Nat.le_of_ble_eq_true rfl), (Nat.le_of_ble_eq_true rfl)⟩ (Nat.le_of_ble_eq_true rfl) ?_
  refine z_bif_eq (tgt := 14) dX9_apply_4 rfl (by decide) (fun c4 => ?_) (fun c4 => ?_)
  · skip
    refine z_iconst (v := -1) dX9_apply_14 rfl (by decide) ?_
    exact z_iret dX9_apply_15 rfl rfl (cPost_same hRC (apply_bad (by grind))) (Nat.le_of_ble_eq_true rfl) (Nat.le_of_ble_eq_true rfl)
  · skip
    refine z_iload_n dX9_apply_7 rfl rfl ?_
    refine zcx_X9_46 rfl dX9_apply_8 rfl (m_isRecord g h _) rfl rfl ⟨(Nat.le_of_ble_eq_true rfl), (Nat.le_of_ble_eq_true rfl)⟩ ⟨(Nat.le_of_ble_eq_true rfl), (Nat.le_of_ble_eq_true rfl)⟩ (Nat.le_of_ble_eq_true rfl) ?_
    refine z_bif_ne (tgt := 16) dX9_apply_11 rfl (by decide) (fun c11 => ?_) (fun c11 => ?_)
    · skip
      obtain ⟨pn, hpn3, rfl⟩ := nI_of2 (x := pp) (M := 3) (n := 3) (by decide) (by grind) c4.2
      have hpn : pn < 4 := by omega
      have hix : ix (nI pn) = pn := nI_clamp (by omega)
      have hPx := hX.2.2 pn hpn
      have hm20 := hz.2.1
      have hmx := hz.1
      rcases hC : w.2.2.2.2.2.2 pn with _ | L
      · have hPn := patC_n hPx hC
        first | refine z_aload_n dX9_apply_16 rfl rfl ?_ | refine z_aload_nN dX9_apply_16 rfl rfl ?_
        refine zg_X9_22 rfl dX9_apply_17 rfl S0 rfl ?_
        refine z_iload_n dX9_apply_20 rfl rfl ?_
        refine z_aaldn dX9_apply_21 rfl S2 rfl rfl (vp_in_nI (by omega) (by decide)) (by rw [nI_clamp (show pn < 2 ^ 31 by omega)]; exact hPn) ?_
        first | refine z_astore_n dX9_apply_22 rfl (Nat.le_of_ble_eq_true rfl) ?_ | refine z_astore_nN dX9_apply_22 rfl (Nat.le_of_ble_eq_true rfl) ?_
        first | refine z_aload_n dX9_apply_23 rfl rfl ?_ | refine z_aload_nN dX9_apply_23 rfl rfl ?_
        refine z_ifnonnullN dX9_apply_24 rfl ?_
        refine z_bipush (v := -2) dX9_apply_27 rfl (by decide) ?_
        exact z_iret dX9_apply_29 rfl rfl (cPost_same hRC (apply_none c4 c11 (by rw [hix]; exact hC))) (Nat.le_of_ble_eq_true rfl) (Nat.le_of_ble_eq_true rfl)
      · obtain ⟨b, hPn, o, v, f, co, cn, hPA, hL40, hAc, hpO, k1, k2, k3, k4⟩ := patC_s hPx hC
        rcases hF : F (ix r) with _ | a
        · have hrf := rf_n hr (ix_lt c11) hF
          have hpos : 0 < rowF w.1 (ix r) := by rw [← hrf]; split <;> decide
          first | refine z_aload_n dX9_apply_16 rfl rfl ?_ | refine z_aload_nN dX9_apply_16 rfl rfl ?_
          refine zg_X9_22 rfl dX9_apply_17 rfl S0 rfl ?_
          refine z_iload_n dX9_apply_20 rfl rfl ?_
          refine z_aalds dX9_apply_21 rfl S2 rfl rfl (vp_in_nI (by omega) (by decide)) (by rw [nI_clamp (show pn < 2 ^ 31 by omega)]; exact hPn) ?_
          first | refine z_astore_n dX9_apply_22 rfl (Nat.le_of_ble_eq_true rfl) ?_ | refine z_astore_nN dX9_apply_22 rfl (Nat.le_of_ble_eq_true rfl) ?_
          first | refine z_aload_n dX9_apply_23 rfl rfl ?_ | refine z_aload_nN dX9_apply_23 rfl rfl ?_
          refine z_ifnonnull (tgt := 30) dX9_apply_24 rfl (by decide) ?_
          first | refine z_aload_n dX9_apply_30 rfl rfl ?_ | refine z_aload_nN dX9_apply_30 rfl rfl ?_
          refine zg_X9_10 rfl dX9_apply_31 rfl S0 rfl ?_
          refine zg_X9_69 rfl dX9_apply_34 rfl R0.1 rfl ?_
          refine z_iload_n dX9_apply_37 rfl rfl ?_
          refine z_aaldn dX9_apply_38 rfl R0.2.1 rfl rfl (rec_in c11) hF ?_
          first | refine z_astore dX9_apply_39 rfl (Nat.le_of_ble_eq_true rfl) ?_ | refine z_astoreN dX9_apply_39 rfl (Nat.le_of_ble_eq_true rfl) ?_
          first | refine z_aload dX9_apply_41 rfl rfl ?_ | refine z_aloadN dX9_apply_41 rfl rfl ?_
          refine z_ifnonnullN dX9_apply_43 rfl ?_
          first | refine z_aload_n dX9_apply_46 rfl rfl ?_ | refine z_aload_nN dX9_apply_46 rfl rfl ?_
          refine zg_X9_10 rfl dX9_apply_47 rfl S0 rfl ?_
          refine z_iload_n dX9_apply_50 rfl rfl ?_
          refine zcx_X9_85 rfl dX9_apply_51 rfl R0.1 (m_faultI g h p F Z R0 _ c11) rfl rfl ⟨(Nat.le_of_ble_eq_true rfl), (Nat.le_of_ble_eq_true rfl)⟩ ⟨(Nat.le_of_ble_eq_true rfl), (Nat.le_of_ble_eq_true rfl)⟩ (Nat.le_of_ble_eq_true rfl) ?_
          refine zcx_X9_62 rfl dX9_apply_54 rfl (m_answer g h _) rfl rfl ⟨(Nat.le_of_ble_eq_true rfl), (Nat.le_of_ble_eq_true rfl)⟩ ⟨(Nat.le_of_ble_eq_true rfl), (Nat.le_of_ble_eq_true rfl)⟩ (Nat.le_of_ble_eq_true rfl) ?_
          exact z_iret dX9_apply_57 rfl rfl (cPost_same hRC (by rw [apply_row c4 c11 (by rw [hix]; exact hC) hpos, hrf])) (Nat.le_of_ble_eq_true rfl) (Nat.le_of_ble_eq_true rfl)
        · obtain ⟨h2, hZ, ⟨ho, c, hc, hcl⟩, hcol⟩ := rc_a hr (ix_lt c11) hF
          have hrf := rf_a hr (ix_lt c11) hF
          have hrf0 : ¬ 0 < rowF w.1 (ix r) := by rw [hrf]; decide
          have hp3 : p + 2 < h.1 := wf_lt hw R0.2.2
          obtain ⟨N, hcN⟩ : ∃ N, L.countP isIn = N := ⟨_, rfl⟩
          have hN20 : N ≤ 20 := by rw [← hcN]; exact hpO.1
          have hcx : col x = 1 := hz.2.2.1 x (by omega) (by omega) (by omega)
          have hpx : ¬ (p ≤ x ∧ x < p + 3) := fun y => absurd (hcx.symm.trans (R1 x y.1 y.2)) (by decide)
          first | refine z_aload_n dX9_apply_16 rfl rfl ?_ | refine z_aload_nN dX9_apply_16 rfl rfl ?_
          refine zg_X9_22 rfl dX9_apply_17 rfl S0 rfl ?_
          refine z_iload_n dX9_apply_20 rfl rfl ?_
          refine z_aalds dX9_apply_21 rfl S2 rfl rfl (vp_in_nI (by omega) (by decide)) (by rw [nI_clamp (show pn < 2 ^ 31 by omega)]; exact hPn) ?_
          first | refine z_astore_n dX9_apply_22 rfl (Nat.le_of_ble_eq_true rfl) ?_ | refine z_astore_nN dX9_apply_22 rfl (Nat.le_of_ble_eq_true rfl) ?_
          first | refine z_aload_n dX9_apply_23 rfl rfl ?_ | refine z_aload_nN dX9_apply_23 rfl rfl ?_
          refine z_ifnonnull (tgt := 30) dX9_apply_24 rfl (by decide) ?_
          first | refine z_aload_n dX9_apply_30 rfl rfl ?_ | refine z_aload_nN dX9_apply_30 rfl rfl ?_
          refine zg_X9_10 rfl dX9_apply_31 rfl S0 rfl ?_
          refine zg_X9_69 rfl dX9_apply_34 rfl R0.1 rfl ?_
          refine z_iload_n dX9_apply_37 rfl rfl ?_
          refine z_aalds dX9_apply_38 rfl R0.2.1 rfl rfl (rec_in c11) hF ?_
          first | refine z_astore dX9_apply_39 rfl (Nat.le_of_ble_eq_true rfl) ?_ | refine z_astoreN dX9_apply_39 rfl (Nat.le_of_ble_eq_true rfl) ?_
          first | refine z_aload dX9_apply_41 rfl rfl ?_ | refine z_aloadN dX9_apply_41 rfl rfl ?_
          refine z_ifnonnull (tgt := 58) dX9_apply_43 rfl (by decide) ?_
          refine zn_X9_242 rfl dX9_apply_58 rfl (Nat.le_of_ble_eq_true rfl) (Nat.le_of_ble_eq_true rfl) ?_
          refine z_dup dX9_apply_61 rfl rfl ?_
          first | refine z_aload_n dX9_apply_62 rfl rfl ?_ | refine z_aload_nN dX9_apply_62 rfl rfl ?_
          first | refine z_aload dX9_apply_63 rfl rfl ?_ | refine z_aloadN dX9_apply_63 rfl rfl ?_
          refine zcv_X9_244 rfl dX9_apply_65 rfl (m_apinit g h b a o v L f co cn hPA hL40 hAc (w.1.2.1 (ix r)) c ho hc hcl hw N hN20 hcN) rfl rfl ⟨(Nat.le_of_ble_eq_true rfl), (Nat.le_of_ble_eq_true rfl)⟩ ⟨(Nat.le_of_ble_eq_true rfl), (Nat.le_of_ble_eq_true rfl)⟩ (Nat.le_of_ble_eq_true rfl) ?_
          first | refine z_astore dX9_apply_68 rfl (Nat.le_of_ble_eq_true rfl) ?_ | refine z_astoreN dX9_apply_68 rfl (Nat.le_of_ble_eq_true rfl) ?_
          first | refine z_aload dX9_apply_70 rfl rfl ?_ | refine z_aloadN dX9_apply_70 rfl rfl ?_
          refine zc_X9_247 rfl dX9_apply_72 rfl aUp_o (m_run g h b a o v L f co cn hPA hL40 hAc (w.1.2.1 (ix r)) c ho hc hcl hw N hN20 hcN) rfl rfl ⟨(Nat.le_of_ble_eq_true rfl), (Nat.le_of_ble_eq_true rfl)⟩ ⟨(Nat.le_of_ble_eq_true rfl), (Nat.le_of_ble_eq_true rfl)⟩ (Nat.le_of_ble_eq_true rfl) (fun v h1 hz1 => ?_)
          obtain ⟨n', rfl, rfl⟩ := hz1
          rcases hRe : (apL (w.1.2.1 (ix r)) L 0 0 []) with ⟨RF, RK, RM⟩
          have hRF := congrArg (fun z : Int32 × Nat × List sC => z.1) hRe
          have hRM := congrArg (fun z : Int32 × Nat × List sC => z.2.2) hRe
          simp only at hRF hRM
          have hR9 : ∀ cc, cc ∈ RM → sOk cc ∧ sInto cc.1 (w.1.2.1 (ix r)).1 = true := by
            rw [← hRM]
            exact apL_c ho L 0 0 [] (fun t ht => by obtain ⟨j, hj⟩ := List.mem_iff_getElem?.mp ht; exact ⟨j, hAc j t hj⟩) (fun cc hcc => absurd hcc (by simp))
          have hRL : RF = 0 → RM.length = N := fun z => by
            rw [← hRM, apL_n (w.1.2.1 (ix r)) L 0 0 [] (hRF.trans z), List.length_nil, Nat.zero_add]; exact hcN
          have hold : ∀ z, z < h.1 → (aUp h.1 b a n' RM.length RF (cUp (h.1 + 1) (w.1.2.1 (ix r)).1 N (lF (cIn (w.1.2.1 (ix r)).1 N) (RM.map (fun y => sConv y (w.1.2.1 (ix r)).1))) (h.1 + 5, h.2))).2 z = h.2 z := fun z hz2 => (aUp_out (by omega)).trans (cUp_out (by omega))
          have hwR : wfH (aUp h.1 b a n' RM.length RF (cUp (h.1 + 1) (w.1.2.1 (ix r)).1 N (lF (cIn (w.1.2.1 (ix r)).1 N) (RM.map (fun y => sConv y (w.1.2.1 (ix r)).1))) (h.1 + 5, h.2))) := fun z hz2 => by
            have hz2 : h.1 + 5 ≤ z := hz2
            exact (aUp_out (by omega)).trans ((cUp_out (by omega)).trans (hw z (by omega)))
          refine z_istore dX9_apply_75 rfl (Nat.le_of_ble_eq_true rfl) ?_
          first | refine z_aload_n dX9_apply_77 rfl rfl ?_ | refine z_aload_nN dX9_apply_77 rfl rfl ?_
          first | refine z_aload dX9_apply_78 rfl rfl ?_ | refine z_aloadN dX9_apply_78 rfl rfl ?_
          refine zg_X9_250 rfl dX9_apply_80 rfl aUp_o rfl ?_
          refine zp_X9_121 rfl dX9_apply_83 rfl ((aUp_out (by omega)).trans ((cUp_out (by omega)).trans S0)) rfl rfl (Nat.le_of_ble_eq_true rfl) ?_
          first | refine z_aload_n dX9_apply_86 rfl rfl ?_ | refine z_aload_nN dX9_apply_86 rfl rfl ?_
          refine zg_X9_121 rfl dX9_apply_87 rfl vu_s rfl ?_
          refine z_if_eq (tgt := 99) dX9_apply_90 rfl (by decide) (fun c90 => ?_) (fun c90 => ?_)
          · skip
            have hPT : rAt (((aUp h.1 b a n' RM.length RF (cUp (h.1 + 1) (w.1.2.1 (ix r)).1 N (lF (cIn (w.1.2.1 (ix r)).1 N) (RM.map (fun y => sConv y (w.1.2.1 (ix r)).1))) (h.1 + 5, h.2)))).1, va_up ((aUp h.1 b a n' RM.length RF (cUp (h.1 + 1) (w.1.2.1 (ix r)).1 N (lF (cIn (w.1.2.1 (ix r)).1 N) (RM.map (fun y => sConv y (w.1.2.1 (ix r)).1))) (h.1 + 5, h.2)))).2 x (some (xOb x p k w.2.2.2.1 RF))) p F Z := rAt_fr R0 (fun z z1 z2 => (vu_n (by omega)).trans (hold z (by omega)))
            first | refine z_aload_n dX9_apply_99 rfl rfl ?_ | refine z_aload_nN dX9_apply_99 rfl rfl ?_
            refine zg_X9_10 rfl dX9_apply_100 rfl vu_s rfl ?_
            refine z_iload_n dX9_apply_103 rfl rfl ?_
            first | refine z_aload dX9_apply_104 rfl rfl ?_ | refine z_aloadN dX9_apply_104 rfl rfl ?_
            refine zg_X9_253 rfl dX9_apply_106 rfl ((vu_n (by omega)).trans aUp_o) rfl ?_
            refine zcv_X9_54 rfl dX9_apply_109 rfl hPT.1 (m_holdI g _ p F Z hPT r c11 (h.1 + 1) _ ((vu_n (by omega)).trans ((aUp_out (by omega)).trans (cUp_at _ _ _ _ _).1))) rfl rfl ⟨(Nat.le_of_ble_eq_true rfl), (Nat.le_of_ble_eq_true rfl)⟩ ⟨(Nat.le_of_ble_eq_true rfl), (Nat.le_of_ble_eq_true rfl)⟩ (Nat.le_of_ble_eq_true rfl) ?_
            first | refine z_aload dX9_apply_112 rfl rfl ?_ | refine z_aloadN dX9_apply_112 rfl rfl ?_
            refine zg_X9_253 rfl dX9_apply_114 rfl ((rUp_out (by omega)).trans ((vu_n (by omega)).trans aUp_o)) rfl ?_
            refine zg_X9_88 rfl dX9_apply_117 rfl ((rUp_out (by omega)).trans ((vu_n (by omega)).trans ((aUp_out (by omega)).trans (cUp_at _ _ _ _ _).1))) rfl ?_
            subst c90
            have hMN := hRL rfl
            have hwT : wfH (((aUp h.1 b a n' RM.length 0 (cUp (h.1 + 1) (w.1.2.1 (ix r)).1 N (lF (cIn (w.1.2.1 (ix r)).1 N) (RM.map (fun y => sConv y (w.1.2.1 (ix r)).1))) (h.1 + 5, h.2)))).1, va_up ((aUp h.1 b a n' RM.length 0 (cUp (h.1 + 1) (w.1.2.1 (ix r)).1 N (lF (cIn (w.1.2.1 (ix r)).1 N) (RM.map (fun y => sConv y (w.1.2.1 (ix r)).1))) (h.1 + 5, h.2)))).2 x (some (xOb x p k w.2.2.2.1 0))) := fun z hz2 => by
              have hz2 : h.1 + 5 ≤ z := hz2
              exact (vu_n (by omega)).trans (hwR z hz2)
            have hcI : cIs (((aUp h.1 b a n' RM.length 0 (cUp (h.1 + 1) (w.1.2.1 (ix r)).1 N (lF (cIn (w.1.2.1 (ix r)).1 N) (RM.map (fun y => sConv y (w.1.2.1 (ix r)).1))) (h.1 + 5, h.2)))).1, va_up ((aUp h.1 b a n' RM.length 0 (cUp (h.1 + 1) (w.1.2.1 (ix r)).1 N (lF (cIn (w.1.2.1 (ix r)).1 N) (RM.map (fun y => sConv y (w.1.2.1 (ix r)).1))) (h.1 + 5, h.2)))).2 x (some (xOb x p k w.2.2.2.1 0))) (h.1 + 1) ((w.1.2.1 (ix r)).1, RM.map (fun y => sConv y (w.1.2.1 (ix r)).1)) := map_cIs ⟨ho.1, ho.2.1⟩ (by omega) hR9 (c := lF (cIn (w.1.2.1 (ix r)).1 N) (RM.map (fun y => sConv y (w.1.2.1 (ix r)).1))) (by rw [hMN]; exact cAt_fr (cUp_at (h.1 + 1) _ _ _ _) (fun z z1 z2 => (vu_n (by omega)).trans (aUp_out (by omega)))) (fun i hi => lF_at (by rw [List.length_map]; exact hi))
            have hRx := RC_x (w' := wTorn w 0) hR ⟨rfl, rfl, rfl, rfl⟩
            exact z_iret dX9_apply_120 rfl rfl (cPost_tr (h' := (h.1, va_up h.2 x (some (xOb x p k w.2.2.2.1 0)))) (cPost_new (ans := pApply w (nI pn) r) (v := nI N) (r := ix r) hRx hwT (by show h.1 ≤ h.1 + 5; omega) (fun z hz2 => by
              have hz2 : z < h.1 := hz2
              by_cases e : z = x
              · rw [e]; exact vu_s.trans vu_s.symm
              · exact (vu_n e).trans ((hold z hz2).trans (vu_n e).symm)) (by show h.1 ≤ h.1 + 1; omega) hcI (by rw [apply_0 c4 c11 (by rw [hix]; exact hC) hrf0 hRe, hMN]; rfl)) (fun z z1 z2 => vu_n (show z ≠ x by omega))) (Nat.le_of_ble_eq_true rfl) (Nat.le_of_ble_eq_true rfl)
          · skip
            refine z_bipush (v := -20) dX9_apply_93 rfl (by decide) ?_
            refine z_iload dX9_apply_95 rfl rfl ?_
            refine z_isub dX9_apply_97 rfl ?_
            exact z_iret dX9_apply_98 rfl rfl (cPost_tr (cPost_x (w' := wTorn w RF) (RC_new hR 2 hwR (by show h.1 ≤ h.1 + 5; omega) hold) ⟨rfl, rfl, rfl, rfl⟩ (by rw [apply_f c4 c11 (by rw [hix]; exact hC) hrf0 hRe c90])) (fun z z1 z2 => hold z (by omega))) (Nat.le_of_ble_eq_true rfl) (Nat.le_of_ble_eq_true rfl)
    · skip
      refine z_iconst (v := -1) dX9_apply_14 rfl (by decide) ?_
      exact z_iret dX9_apply_15 rfl rfl (cPost_same hRC (apply_bad (by grind))) (Nat.le_of_ble_eq_true rfl) (Nat.le_of_ble_eq_true rfl)

