theorem cPost_tr {x m : Nat} {h h' h1 : zH} {ans : Int32 × sW} {v : Option Value} (hc : cPost x m h' ans v h1) (hm : ∀ q, m ≤ q → q < m + 20 → h'.2 q = h.2 q) : cPost x m h ans v h1 := ⟨hc.1, hc.2.1, fun q a b => (hc.2.2 q a b).trans (hm q a b)⟩
theorem logL_ok {kind : Int32} : ∀ (L : List sC) (z : Int32), (∀ c, c ∈ L → sOk c ∧ c.1 ≤ 7 ∧ sInto c.1 kind = true) → ∀ d, d ∈ logL L z → sOk d ∧ sInto d.1 kind = true
  | [], _, _, d, hd => absurd hd (by simp [logL])
  | c :: L, z, h, d, hd => by
    rw [logL] at hd
    rcases List.mem_append.mp hd with y | y
    · have hc := h c List.mem_cons_self
      have := logC_ok hc.1 hc.2.1 d y
      exact ⟨this.1, by rw [this.2]; exact hc.2.2⟩
    · exact logL_ok L _ (fun e he => h e (List.mem_cons_of_mem _ he)) d y
theorem logL_40 : ∀ (L : List sC) (z : Int32), (logL L z).length ≤ 2 * L.length
  | [], _ => Nat.le_refl _
  | c :: L, z => by
    rw [logL, List.length_append, List.length_cons]
    have := logC_le c (wy (nxt z))
    have := logL_40 L (nxt z)
    omega

set_option maxHeartbeats 800000 in
set_option maxRecDepth 100000 in
theorem m_logged (g : zG) (h : zH) (x b o : Nat) (fx : List Value) (hx : h.2 x = some (.inr (6, fx))) (hfx : fx[4]? = some (.ref (x + 53))) (kind : Int32) (B : sA) (cs : Nat → sC) (oB : aOk B) (hc : cAt h b B.1 B.2.length cs) (hcl : ∀ i, i < B.2.length → cs i = B.2.getD i z0) (N : Nat) (hN : N ≤ 20) (c0 : Nat → sC) (d1 : b + 4 ≤ x + 53 ∨ x + 57 ≤ b) (d2 : b + 4 ≤ o ∨ o + 4 ≤ b) (d3 : x + 57 ≤ o) (h7 : B.1 ≤ 7) (hio : sInto B.1 kind = true) (hk : 0 ≤ kind ∧ kind ≤ 7) (seed : Int32) (hNl : (logL B.2 seed).length = N) (V : Nat → sC) : zM g yX9_logged cX9_logged 9 (some (.object "LoggerTwins$Cells")) rmX9_logged [.ref x, .ref b, .ref o, .int seed] (cUp o kind N c0 (cUp (x + 53) 9 1 V h)) (fun v h1 => v = some (.ref o) ∧ ∃ V, h1 = (cUp o kind N (lF c0 ((logL B.2 seed).map (fun y => sConv y kind))) (cUp (x + 53) 9 1 V h))) := by
  refine zM_of (by decide) (Nat.le_of_ble_eq_true rfl) ?_
  refine z_iconst (v := 0) dX9_logged_0 rfl (by decide) ?_
  refine z_istore dX9_logged_1 rfl (Nat.le_of_ble_eq_true rfl) ?_
  refine z_iload_n dX9_logged_3 rfl rfl ?_
  refine z_istore dX9_logged_4 rfl (Nat.le_of_ble_eq_true rfl) ?_
  refine z_iconst (v := 0) dX9_logged_6 rfl (by decide) ?_
  refine z_istore dX9_logged_7 rfl (Nat.le_of_ble_eq_true rfl) ?_
  refine zZ_h (cUp o kind N (lF c0 (([] : List sC).map (fun y => sConv y kind))) (cUp (x + 53) 9 1 V h)) (by rw [List.map_nil, ← lF_0]) ?_
  refine z_lv [(6, .int (nI 0)), (5, .int seed), (4, .int (nI ([] : List sC).length)), (0, .ref x), (1, .ref b), (2, .ref o)] ⟨rfl, rfl, rfl, rfl, rfl, rfl, trivial⟩ ?_
  exact m_logged_L g h x b o fx hx hfx kind B cs oB hc hcl N hN c0 d1 d2 d3 h7 hio hk seed hNl B.2 V 0 seed [] (by omega) rfl (by simp)

set_option maxHeartbeats 800000 in
set_option maxRecDepth 100000 in
theorem C_log (g : zG) (h : zH) (x m : Nat) (w : sW) (hRC : RepC h x m w) (r s kind seed : Int32) : zM g yX9_log cX9_log 8 (some .int) rmX9_log [.ref x, .int r, .int s, .int kind, .int seed] h (cPost x m h (pLog w r s kind seed)) := by
  refine zM_of (by decide) (Nat.le_of_ble_eq_true rfl) ?_
  obtain ⟨col, p, F, Z, k, I, P, q, T, V, hR⟩ := id hRC
  obtain ⟨hw, hz, hS, hq, hr, hX⟩ := id hR
  obtain ⟨S0, S1, S2, S3, S4, S5⟩ := id hS
  obtain ⟨R0, R1, R2, R3⟩ := id hr
  refine z_iload_n dX9_log_0 rfl rfl ?_
  refine zcx_X9_46 rfl dX9_log_1 rfl (m_isRecord g h _) rfl rfl ⟨(Nat.le_of_ble_eq_true rfl), (Nat.le_of_ble_eq_true rfl)⟩ ⟨(Nat.le_of_ble_eq_true rfl), (Nat.le_of_ble_eq_true rfl)⟩ (Nat.le_of_ble_eq_true rfl) ?_
  refine z_bif_eq (tgt := 24) dX9_log_4 rfl (by decide) (fun c4 => ?_) (fun c4 => ?_)
  · skip
    refine z_iconst (v := -1) dX9_log_24 rfl (by decide) ?_
    exact z_iret dX9_log_25 rfl rfl (cPost_same hRC (log_bad (by grind))) (Nat.le_of_ble_eq_true rfl) (Nat.le_of_ble_eq_true rfl)
  · skip
    refine z_iload_n dX9_log_7 rfl rfl ?_
    refine zcx_X9_46 rfl dX9_log_8 rfl (m_isRecord g h _) rfl rfl ⟨(Nat.le_of_ble_eq_true rfl), (Nat.le_of_ble_eq_true rfl)⟩ ⟨(Nat.le_of_ble_eq_true rfl), (Nat.le_of_ble_eq_true rfl)⟩ (Nat.le_of_ble_eq_true rfl) ?_
    refine z_bif_eq (tgt := 24) dX9_log_11 rfl (by decide) (fun c11 => ?_) (fun c11 => ?_)
    · skip
      refine z_iconst (v := -1) dX9_log_24 rfl (by decide) ?_
      exact z_iret dX9_log_25 rfl rfl (cPost_same hRC (log_bad (by grind))) (Nat.le_of_ble_eq_true rfl) (Nat.le_of_ble_eq_true rfl)
    · skip
      refine z_iload_n dX9_log_14 rfl rfl ?_
      refine z_iconst (v := 0) dX9_log_15 rfl (by decide) ?_
      refine z_bipush (v := 7) dX9_log_16 rfl (by decide) ?_
      refine zcx_X9_50 rfl dX9_log_18 rfl (m_isWithin g h _ _ _) rfl rfl ⟨(Nat.le_of_ble_eq_true rfl), (Nat.le_of_ble_eq_true rfl)⟩ ⟨(Nat.le_of_ble_eq_true rfl), (Nat.le_of_ble_eq_true rfl)⟩ (Nat.le_of_ble_eq_true rfl) ?_
      refine z_bif_ne (tgt := 26) dX9_log_21 rfl (by decide) (fun c21 => ?_) (fun c21 => ?_)
      · skip
        rcases hF : F (ix s) with _ | a
        · have hrf := rf_n hr (ix_lt c11) hF
          have hpos : 0 < rowF w.1 (ix s) := by rw [← hrf]; split <;> decide
          first | refine z_aload_n dX9_log_26 rfl rfl ?_ | refine z_aload_nN dX9_log_26 rfl rfl ?_
          refine zg_X9_10 rfl dX9_log_27 rfl S0 rfl ?_
          refine zg_X9_69 rfl dX9_log_30 rfl R0.1 rfl ?_
          refine z_iload_n dX9_log_33 rfl rfl ?_
          refine z_aaldn dX9_log_34 rfl R0.2.1 rfl rfl (rec_in c11) hF ?_
          first | refine z_astore dX9_log_35 rfl (Nat.le_of_ble_eq_true rfl) ?_ | refine z_astoreN dX9_log_35 rfl (Nat.le_of_ble_eq_true rfl) ?_
          first | refine z_aload dX9_log_37 rfl rfl ?_ | refine z_aloadN dX9_log_37 rfl rfl ?_
          refine z_ifnonnullN dX9_log_39 rfl ?_
          first | refine z_aload_n dX9_log_42 rfl rfl ?_ | refine z_aload_nN dX9_log_42 rfl rfl ?_
          refine zg_X9_10 rfl dX9_log_43 rfl S0 rfl ?_
          refine z_iload_n dX9_log_46 rfl rfl ?_
          refine zcx_X9_85 rfl dX9_log_47 rfl R0.1 (m_faultI g h p F Z R0 _ c11) rfl rfl ⟨(Nat.le_of_ble_eq_true rfl), (Nat.le_of_ble_eq_true rfl)⟩ ⟨(Nat.le_of_ble_eq_true rfl), (Nat.le_of_ble_eq_true rfl)⟩ (Nat.le_of_ble_eq_true rfl) ?_
          refine zcx_X9_62 rfl dX9_log_50 rfl (m_answer g h _) rfl rfl ⟨(Nat.le_of_ble_eq_true rfl), (Nat.le_of_ble_eq_true rfl)⟩ ⟨(Nat.le_of_ble_eq_true rfl), (Nat.le_of_ble_eq_true rfl)⟩ (Nat.le_of_ble_eq_true rfl) ?_
          exact z_iret dX9_log_53 rfl rfl (cPost_same hRC (by rw [log_f c4 c11 c21 (x := rowF w.1 (ix s)) (by rw [logF, if_pos hpos]) hpos, hrf])) (Nat.le_of_ble_eq_true rfl) (Nat.le_of_ble_eq_true rfl)
        · obtain ⟨h2, hZ, ⟨ho, c, hc, hcl⟩, hcol⟩ := rc_a hr (ix_lt c11) hF
          have hrf := rf_a hr (ix_lt c11) hF
          have hl : (w.1.2.1 (ix s)).2.length ≤ 20 := ho.2.2.1
          first | refine z_aload_n dX9_log_26 rfl rfl ?_ | refine z_aload_nN dX9_log_26 rfl rfl ?_
          refine zg_X9_10 rfl dX9_log_27 rfl S0 rfl ?_
          refine zg_X9_69 rfl dX9_log_30 rfl R0.1 rfl ?_
          refine z_iload_n dX9_log_33 rfl rfl ?_
          refine z_aalds dX9_log_34 rfl R0.2.1 rfl rfl (rec_in c11) hF ?_
          first | refine z_astore dX9_log_35 rfl (Nat.le_of_ble_eq_true rfl) ?_ | refine z_astoreN dX9_log_35 rfl (Nat.le_of_ble_eq_true rfl) ?_
          first | refine z_aload dX9_log_37 rfl rfl ?_ | refine z_aloadN dX9_log_37 rfl rfl ?_
          refine z_ifnonnull (tgt := 54) dX9_log_39 rfl (by decide) ?_
          first | refine z_aload dX9_log_54 rfl rfl ?_ | refine z_aloadN dX9_log_54 rfl rfl ?_
          refine z_iload_n dX9_log_56 rfl rfl ?_
          refine zcx_X9_95 rfl dX9_log_57 rfl (m_readFault g h a _ _ c hc ⟨ho.1, ho.2.1⟩ kind ⟨c21.1, by have := c21.2; grind⟩) rfl rfl ⟨(Nat.le_of_ble_eq_true rfl), (Nat.le_of_ble_eq_true rfl)⟩ ⟨(Nat.le_of_ble_eq_true rfl), (Nat.le_of_ble_eq_true rfl)⟩ (Nat.le_of_ble_eq_true rfl) ?_
          refine z_istore dX9_log_60 rfl (Nat.le_of_ble_eq_true rfl) ?_
          refine z_iload dX9_log_62 rfl rfl ?_
          refine z_if_eq (tgt := 73) dX9_log_64 rfl (by decide) (fun c64 => ?_) (fun c64 => ?_)
          · skip
            have hrd : readF w.1 (ix s) kind = 0 := by unfold readF; exact c64
            have h7 : (w.1.2.1 (ix s)).1 ≤ 7 := by grind
            have hio : sInto (w.1.2.1 (ix s)).1 kind = true := by grind
            have hxz : ¬ 0 < logF w.1 (ix s) kind := by rw [logF, hrf, if_neg (by decide), hrd]; decide
            have h40 := logL_40 (w.1.2.1 (ix s)).2 seed
            first | refine z_aload dX9_log_73 rfl rfl ?_ | refine z_aloadN dX9_log_73 rfl rfl ?_
            refine zg_X9_88 rfl dX9_log_75 rfl hc.1 rfl ?_
            refine z_iload dX9_log_78 rfl rfl ?_
            refine zcx_X9_256 rfl dX9_log_80 rfl (m_loggedLength g h (w.1.2.1 (ix s)).2 hl seed) rfl rfl ⟨(Nat.le_of_ble_eq_true rfl), (Nat.le_of_ble_eq_true rfl)⟩ ⟨(Nat.le_of_ble_eq_true rfl), (Nat.le_of_ble_eq_true rfl)⟩ (Nat.le_of_ble_eq_true rfl) ?_
            refine z_istore dX9_log_83 rfl (Nat.le_of_ble_eq_true rfl) ?_
            refine z_iload dX9_log_85 rfl rfl ?_
            refine z_bipush (v := 20) dX9_log_87 rfl (by decide) ?_
            refine z_icmp_le (tgt := 95) dX9_log_89 rfl (by decide) (fun c89 => ?_) (fun c89 => ?_)
            · skip
              have hle : ¬ 20 < (logL (w.1.2.1 (ix s)).2 seed).length := fun z => absurd c89 (Int32.not_le.mpr (nI_lt (a := 20) z (by omega)))
              have hm20 := hz.2.1
              have hmx := hz.1
              have hcx := cell_out hz hcol
              have hlt := cAt_lt hc hw
              have hp3 := wf_lt hw R0.2.2
              first | refine z_aload_n dX9_log_95 rfl rfl ?_ | refine z_aload_nN dX9_log_95 rfl rfl ?_
              refine zg_X9_10 rfl dX9_log_96 rfl S0 rfl ?_
              refine z_iload_n dX9_log_99 rfl rfl ?_
              first | refine z_aload_n dX9_log_100 rfl rfl ?_ | refine z_aload_nN dX9_log_100 rfl rfl ?_
              first | refine z_aload dX9_log_101 rfl rfl ?_ | refine z_aloadN dX9_log_101 rfl rfl ?_
              refine zn_X9_37 rfl dX9_log_103 rfl (Nat.le_of_ble_eq_true rfl) (Nat.le_of_ble_eq_true rfl) ?_
              refine z_dup dX9_log_106 rfl rfl ?_
              refine z_iload_n dX9_log_107 rfl rfl ?_
              refine z_iload dX9_log_108 rfl rfl ?_
              refine zc_X9_39 rfl dX9_log_110 rfl (m_cinit g (va_up h.2 h.1 _) h.1 _ vu_s rfl kind (logL (w.1.2.1 (ix s)).2 seed).length (by omega)) rfl rfl ⟨(Nat.le_of_ble_eq_true rfl), (Nat.le_of_ble_eq_true rfl)⟩ ⟨(Nat.le_of_ble_eq_true rfl), (Nat.le_of_ble_eq_true rfl)⟩ (Nat.le_of_ble_eq_true rfl) (fun v h1 hz1 => ?_)
              obtain ⟨rfl, rfl⟩ := hz1
              rw [cUp_vu]
              refine zZ_h (cUp h.1 kind (logL (w.1.2.1 (ix s)).2 seed).length (cIn kind (logL (w.1.2.1 (ix s)).2 seed).length) (cUp (x + 53) 9 1 V ((h.1 + 4, h.2) : zH))) (by rw [show cUp (x + 53) 9 1 V ((h.1 + 4, h.2) : zH) = ((h.1 + 4, h.2) : zH) from cAt_self (cAt_fr S5 (fun _ _ _ => rfl))]) ?_
              refine z_iload dX9_log_113 rfl rfl ?_
              refine zc_X9_259 rfl dX9_log_115 rfl ((cUp_out (by omega)).trans ((cUp_out (by omega)).trans S0)) (m_logged g ((h.1 + 4, h.2) : zH) x a h.1 _ S0 rfl kind (w.1.2.1 (ix s)) c ho (cAt_fr hc (fun _ _ _ => rfl)) hcl (logL (w.1.2.1 (ix s)).2 seed).length (by omega) (cIn kind (logL (w.1.2.1 (ix s)).2 seed).length) (by omega) (by omega) (by omega) h7 hio c21 seed rfl V) rfl rfl ⟨(Nat.le_of_ble_eq_true rfl), (Nat.le_of_ble_eq_true rfl)⟩ ⟨(Nat.le_of_ble_eq_true rfl), (Nat.le_of_ble_eq_true rfl)⟩ (Nat.le_of_ble_eq_true rfl) (fun v h1 hz1 => ?_)
              obtain ⟨rfl, V1, rfl⟩ := hz1
              have hP1 : rAt (cUp h.1 kind (logL (w.1.2.1 (ix s)).2 seed).length (lF (cIn kind (logL (w.1.2.1 (ix s)).2 seed).length) ((logL (w.1.2.1 (ix s)).2 seed).map (fun y => sConv y kind))) (cUp (x + 53) 9 1 V1 ((h.1 + 4, h.2) : zH))) p F Z := rAt_fr R0 (fun z z1 z2 => (cUp_out (by omega)).trans (cUp_out (by rcases Nat.lt_or_ge z (x + 53) with q1 | q1; exact Or.inl q1; rcases Nat.lt_or_ge z (x + 57) with q2 | q2; exact absurd ((R1 z z1 z2).symm.trans (hz.2.2.1 z (by omega) q2 (by omega))) (by decide); exact Or.inr q2)))
              refine zcv_X9_54 rfl dX9_log_118 rfl hP1.1 (m_holdI g (cUp h.1 kind (logL (w.1.2.1 (ix s)).2 seed).length (lF (cIn kind (logL (w.1.2.1 (ix s)).2 seed).length) ((logL (w.1.2.1 (ix s)).2 seed).map (fun y => sConv y kind))) (cUp (x + 53) 9 1 V1 ((h.1 + 4, h.2) : zH))) p F Z hP1 r c4 h.1 _ (cUp_at _ _ _ _ _).1) rfl rfl ⟨(Nat.le_of_ble_eq_true rfl), (Nat.le_of_ble_eq_true rfl)⟩ ⟨(Nat.le_of_ble_eq_true rfl), (Nat.le_of_ble_eq_true rfl)⟩ (Nat.le_of_ble_eq_true rfl) ?_
              refine z_iload dX9_log_121 rfl rfl ?_
              exact z_iret dX9_log_123 rfl rfl (cPost_tr (cPost_new (RC_v hR V1).1 (a := h.1) (h1 := (cUp h.1 kind (logL (w.1.2.1 (ix s)).2 seed).length (lF (cIn kind (logL (w.1.2.1 (ix s)).2 seed).length) ((logL (w.1.2.1 (ix s)).2 seed).map (fun y => sConv y kind))) (cUp (x + 53) 9 1 V1 ((h.1 + 4, h.2) : zH)))) (wf_cUp (RC_v hR V1).1.1 _ _ _) (Nat.le_add_right _ _) (fun z hz2 => cUp_out (Or.inl hz2)) (Nat.le_refl _) (A := (kind, (logL (w.1.2.1 (ix s)).2 seed).map (fun y => sConv y kind))) (map_cIs ⟨c21.1, by have := c21.2; grind⟩ (by omega) (logL_ok _ _ (fun d hd => by have hd2 := ho.2.2.2 d hd; have e := hd2.2.1 h7; exact ⟨hd2.1, by rw [e]; exact h7, by rw [e]; exact hio⟩)) (cUp_at _ _ _ _ _) (fun i hi => lF_at (by rw [List.length_map]; exact hi))) (log_ok c4 c11 c21 hxz rfl hle)) (fun z z1 z2 => cUp_out (by omega))) (Nat.le_of_ble_eq_true rfl) (Nat.le_of_ble_eq_true rfl)
            · skip
              refine z_bipush (v := -3) dX9_log_92 rfl (by decide) ?_
              exact z_iret dX9_log_94 rfl rfl (cPost_same hRC (log_full c4 c11 c21 hxz rfl (Nat.lt_of_not_le (fun z => c89 (nI_le (b := 20) z (by decide)))))) (Nat.le_of_ble_eq_true rfl) (Nat.le_of_ble_eq_true rfl)
          · skip
            refine z_iload dX9_log_67 rfl rfl ?_
            refine zcx_X9_62 rfl dX9_log_69 rfl (m_answer g h _) rfl rfl ⟨(Nat.le_of_ble_eq_true rfl), (Nat.le_of_ble_eq_true rfl)⟩ ⟨(Nat.le_of_ble_eq_true rfl), (Nat.le_of_ble_eq_true rfl)⟩ (Nat.le_of_ble_eq_true rfl) ?_
            exact z_iret dX9_log_72 rfl rfl (cPost_same hRC (by have hps : 0 < (if 7 < (w.1.2.1 (ix s)).1 then (4 : Int32) else if sInto (w.1.2.1 (ix s)).1 kind = true then 0 else 5) := (by grind); rw [log_f c4 c11 c21 (x := readF w.1 (ix s) kind) (by rw [logF, hrf, if_neg (by decide)]) hps]; unfold readF; rfl)) (Nat.le_of_ble_eq_true rfl) (Nat.le_of_ble_eq_true rfl)
      · skip
        refine z_iconst (v := -1) dX9_log_24 rfl (by decide) ?_
        exact z_iret dX9_log_25 rfl rfl (cPost_same hRC (log_bad (by grind))) (Nat.le_of_ble_eq_true rfl) (Nat.le_of_ble_eq_true rfl)

