abbrev YX9_lag : zY := (yX9_lag.cls, cX9_lag, 10, (some .int), rmX9_lag, yX9_lag.name, fun _ _ => True)
set_option maxHeartbeats 800000 in
set_option maxRecDepth 100000 in
theorem C_lag_L (g : zG) (h : zH) (x m : Nat) (w : sW) (hRC : RepC h x m w) (a b : Int32) (ha : isRec a) (hb : isRec b) (ha2 : w.1.1 (ix a) = 2) (hb2 : w.1.1 (ix b) = 2) (aa ab : Nat) (ca cb : Nat → sC) (oa : aOk (w.1.2.1 (ix a))) (hca : cAt h aa (w.1.2.1 (ix a)).1 (w.1.2.1 (ix a)).2.length ca) (hcla : ∀ i, i < (w.1.2.1 (ix a)).2.length → ca i = (w.1.2.1 (ix a)).2.getD i z0) (ob : aOk (w.1.2.1 (ix b))) (hcb : cAt h ab (w.1.2.1 (ix b)).1 (w.1.2.1 (ix b)).2.length cb) (hclb : ∀ i, i < (w.1.2.1 (ix b)).2.length → cb i = (w.1.2.1 (ix b)).2.getD i z0) : ∀ (n : Nat) (p : Int32 × Nat) (k : Nat), k + n = 20 → 1 ≤ k → p.2 ≤ 20 → lagL (w.1.2.1 (ix a)).2 (w.1.2.1 (ix b)).2 19 1 (0, alN (w.1.2.1 (ix a)).2 (w.1.2.1 (ix b)).2 0 (w.1.2.1 (ix a)).2.length) = lagL (w.1.2.1 (ix a)).2 (w.1.2.1 (ix b)).2 n k p → zZ g YX9_lag (zE g (cPost x m h (pLag w a b)) 0 0) 85 [(5, .int p.1), (6, .int (nI p.2)), (7, .int (nI k)), (0, .ref x), (3, .ref aa), (4, .ref ab)] [] h 0 0 := by
  intro n
  induction n with
  | zero =>
    intro p k hin hk1 hp he
    have la : (w.1.2.1 (ix a)).2.length ≤ 20 := oa.2.2.1
    refine z_iload dX9_lag_85 rfl rfl ?_
    refine z_bipush (v := 19) dX9_lag_87 rfl (by decide) ?_
    refine z_icmp_gt (tgt := 150) dX9_lag_89 rfl (by decide) (fun c89 => ?_) (fun c89 => absurd c89 (fun z => z (nI_lt (a := 19) (by omega) (by omega))))
    refine z_iload dX9_lag_150 rfl rfl ?_
    refine z_if_ne (tgt := 160) dX9_lag_152 rfl (by decide) (fun c152 => ?_) (fun c152 => ?_)
    · skip
      refine z_bipush (v := 100) dX9_lag_160 rfl (by decide) ?_
      refine z_iload dX9_lag_162 rfl rfl ?_
      refine z_iadd dX9_lag_164 rfl ?_
      exact z_iret dX9_lag_165 rfl rfl (cPost_same hRC (lag_ans ha hb ha2 hb2 (show _ = p from he) (by have e0 := nI_eq0 (n := p.2) (by omega); grind [lagOf]))) (Nat.le_of_ble_eq_true rfl) (Nat.le_of_ble_eq_true rfl)
    · skip
      refine z_bipush (v := -4) dX9_lag_155 rfl (by decide) ?_
      refine z_goto (tgt := 165) dX9_lag_157 rfl (by decide) ?_
      exact z_iret dX9_lag_165 rfl rfl (cPost_same hRC (lag_ans ha hb ha2 hb2 (show _ = p from he) (by have e0 := nI_eq0 (n := p.2) (by omega); grind [lagOf]))) (Nat.le_of_ble_eq_true rfl) (Nat.le_of_ble_eq_true rfl)
  | succ n ih =>
    intro p k hin hk1 hp he
    have la : (w.1.2.1 (ix a)).2.length ≤ 20 := oa.2.2.1
    have hA1 := alN_le (w.1.2.1 (ix a)).2 (w.1.2.1 (ix b)).2 (-nI k).toInt (w.1.2.1 (ix a)).2.length
    have hA2 := alN_le (w.1.2.1 (ix a)).2 (w.1.2.1 (ix b)).2 (nI k).toInt (w.1.2.1 (ix a)).2.length
    refine z_iload dX9_lag_85 rfl rfl ?_
    refine z_bipush (v := 19) dX9_lag_87 rfl (by decide) ?_
    refine z_icmp_gt (tgt := 150) dX9_lag_89 rfl (by decide) (fun c89 => absurd c89 (nI_nlt (a := 19) (by omega) (by decide))) (fun c89 => ?_)
    first | refine z_aload_n dX9_lag_92 rfl rfl ?_ | refine z_aload_nN dX9_lag_92 rfl rfl ?_
    first | refine z_aload dX9_lag_93 rfl rfl ?_ | refine z_aloadN dX9_lag_93 rfl rfl ?_
    refine z_iload dX9_lag_95 rfl rfl ?_
    refine z_ineg dX9_lag_97 rfl ?_
    refine zcx_X9_196 rfl dX9_lag_98 rfl (m_shift g h aa ab (w.1.2.1 (ix a)) (w.1.2.1 (ix b)) ca cb oa hca hcla ob hcb hclb (-nI k) (by rw [neg_sh (by omega)]; omega) (by rw [neg_sh (by omega)]; omega)) rfl rfl ⟨(Nat.le_of_ble_eq_true rfl), (Nat.le_of_ble_eq_true rfl)⟩ ⟨(Nat.le_of_ble_eq_true rfl), (Nat.le_of_ble_eq_true rfl)⟩ (Nat.le_of_ble_eq_true rfl) ?_
    refine z_istore dX9_lag_101 rfl (Nat.le_of_ble_eq_true rfl) ?_
    refine z_iload dX9_lag_103 rfl rfl ?_
    refine z_iload dX9_lag_105 rfl rfl ?_
    refine z_icmp_le (tgt := 119) dX9_lag_107 rfl (by decide) (fun c107 => ?_) (fun c107 => ?_)
    · skip
      have hlt1 : ¬ p.2 < alN (w.1.2.1 (ix a)).2 (w.1.2.1 (ix b)).2 (-nI k).toInt (w.1.2.1 (ix a)).2.length := fun z => absurd c107 (Int32.not_le.mpr (nI_lt z (by omega)))
      have hp1 := hp
      refine z_lv [(5, .int p.1), (6, .int (nI p.2)), (7, .int (nI k)), (0, .ref x), (3, .ref aa), (4, .ref ab)] ⟨rfl, rfl, rfl, rfl, rfl, rfl, trivial⟩ ?_
      first | refine z_aload_n dX9_lag_119 rfl rfl ?_ | refine z_aload_nN dX9_lag_119 rfl rfl ?_
      first | refine z_aload dX9_lag_120 rfl rfl ?_ | refine z_aloadN dX9_lag_120 rfl rfl ?_
      refine z_iload dX9_lag_122 rfl rfl ?_
      refine zcx_X9_196 rfl dX9_lag_124 rfl (m_shift g h aa ab (w.1.2.1 (ix a)) (w.1.2.1 (ix b)) ca cb oa hca hcla ob hcb hclb (nI k) (by rw [nI_toInt (by omega)]; omega) (by rw [nI_toInt (by omega)]; omega)) rfl rfl ⟨(Nat.le_of_ble_eq_true rfl), (Nat.le_of_ble_eq_true rfl)⟩ ⟨(Nat.le_of_ble_eq_true rfl), (Nat.le_of_ble_eq_true rfl)⟩ (Nat.le_of_ble_eq_true rfl) ?_
      refine z_istore dX9_lag_127 rfl (Nat.le_of_ble_eq_true rfl) ?_
      refine z_iload dX9_lag_129 rfl rfl ?_
      refine z_iload dX9_lag_131 rfl rfl ?_
      refine z_icmp_le (tgt := 144) dX9_lag_133 rfl (by decide) (fun c133 => ?_) (fun c133 => ?_)
      · skip
        have hlt2 : ¬ p.2 < alN (w.1.2.1 (ix a)).2 (w.1.2.1 (ix b)).2 (nI k).toInt (w.1.2.1 (ix a)).2.length := fun z => absurd c133 (Int32.not_le.mpr (nI_lt z (by omega)))
        refine z_iinc (v := nI (k + 1)) dX9_lag_144 rfl rfl (nI_inc k) (Nat.le_of_ble_eq_true rfl) ?_
        refine z_goto (tgt := 85) dX9_lag_147 rfl (by decide) ?_
        rw [show (nI (k + 1)) = nI (k + 1) from rfl]
        refine z_lv [(5, .int p.1), (6, .int (nI p.2)), (7, .int (nI (k + 1))), (0, .ref x), (3, .ref aa), (4, .ref ab)] ⟨rfl, rfl, rfl, rfl, rfl, rfl, trivial⟩ ?_
        exact ih p (k + 1) (by omega) (by omega) hp1 (by rw [he, lagL]; rw [lagS_0 hlt1, lagS_0 hlt2])
      · skip
        have hlt2 : p.2 < alN (w.1.2.1 (ix a)).2 (w.1.2.1 (ix b)).2 (nI k).toInt (w.1.2.1 (ix a)).2.length := Nat.lt_of_not_le (fun z => c133 (nI_le z (by omega)))
        refine z_iload dX9_lag_136 rfl rfl ?_
        refine z_istore dX9_lag_138 rfl (Nat.le_of_ble_eq_true rfl) ?_
        refine z_iload dX9_lag_140 rfl rfl ?_
        refine z_istore dX9_lag_142 rfl (Nat.le_of_ble_eq_true rfl) ?_
        refine z_iinc (v := nI (k + 1)) dX9_lag_144 rfl rfl (nI_inc k) (Nat.le_of_ble_eq_true rfl) ?_
        refine z_goto (tgt := 85) dX9_lag_147 rfl (by decide) ?_
        rw [show (nI (k + 1)) = nI (k + 1) from rfl]
        refine z_lv [(5, .int (nI k)), (6, .int (nI (alN (w.1.2.1 (ix a)).2 (w.1.2.1 (ix b)).2 (nI k).toInt (w.1.2.1 (ix a)).2.length))), (7, .int (nI (k + 1))), (0, .ref x), (3, .ref aa), (4, .ref ab)] ⟨rfl, rfl, rfl, rfl, rfl, rfl, trivial⟩ ?_
        exact ih (nI k, alN (w.1.2.1 (ix a)).2 (w.1.2.1 (ix b)).2 (nI k).toInt (w.1.2.1 (ix a)).2.length) (k + 1) (by omega) (by omega) (by show alN _ _ _ _ ≤ 20; have := alN_le (w.1.2.1 (ix a)).2 (w.1.2.1 (ix b)).2 (nI k).toInt (w.1.2.1 (ix a)).2.length; omega) (by rw [he, lagL]; rw [lagS_0 hlt1, lagS_1 hlt2])
    · skip
      have hlt1 : p.2 < alN (w.1.2.1 (ix a)).2 (w.1.2.1 (ix b)).2 (-nI k).toInt (w.1.2.1 (ix a)).2.length := Nat.lt_of_not_le (fun z => c107 (nI_le z (by omega)))
      have hp1 : ((-nI k, alN (w.1.2.1 (ix a)).2 (w.1.2.1 (ix b)).2 (-nI k).toInt (w.1.2.1 (ix a)).2.length) : Int32 × Nat).2 ≤ 20 := by show alN _ _ _ _ ≤ 20; have := alN_le (w.1.2.1 (ix a)).2 (w.1.2.1 (ix b)).2 (-nI k).toInt (w.1.2.1 (ix a)).2.length; omega
      refine z_iload dX9_lag_110 rfl rfl ?_
      refine z_ineg dX9_lag_112 rfl ?_
      refine z_istore dX9_lag_113 rfl (Nat.le_of_ble_eq_true rfl) ?_
      refine z_iload dX9_lag_115 rfl rfl ?_
      refine z_istore dX9_lag_117 rfl (Nat.le_of_ble_eq_true rfl) ?_
      refine z_lv [(5, .int ((-nI k, alN (w.1.2.1 (ix a)).2 (w.1.2.1 (ix b)).2 (-nI k).toInt (w.1.2.1 (ix a)).2.length) : Int32 × Nat).1), (6, .int (nI ((-nI k, alN (w.1.2.1 (ix a)).2 (w.1.2.1 (ix b)).2 (-nI k).toInt (w.1.2.1 (ix a)).2.length) : Int32 × Nat).2)), (7, .int (nI k)), (0, .ref x), (3, .ref aa), (4, .ref ab)] ⟨rfl, rfl, rfl, rfl, rfl, rfl, trivial⟩ ?_
      first | refine z_aload_n dX9_lag_119 rfl rfl ?_ | refine z_aload_nN dX9_lag_119 rfl rfl ?_
      first | refine z_aload dX9_lag_120 rfl rfl ?_ | refine z_aloadN dX9_lag_120 rfl rfl ?_
      refine z_iload dX9_lag_122 rfl rfl ?_
      refine zcx_X9_196 rfl dX9_lag_124 rfl (m_shift g h aa ab (w.1.2.1 (ix a)) (w.1.2.1 (ix b)) ca cb oa hca hcla ob hcb hclb (nI k) (by rw [nI_toInt (by omega)]; omega) (by rw [nI_toInt (by omega)]; omega)) rfl rfl ⟨(Nat.le_of_ble_eq_true rfl), (Nat.le_of_ble_eq_true rfl)⟩ ⟨(Nat.le_of_ble_eq_true rfl), (Nat.le_of_ble_eq_true rfl)⟩ (Nat.le_of_ble_eq_true rfl) ?_
      refine z_istore dX9_lag_127 rfl (Nat.le_of_ble_eq_true rfl) ?_
      refine z_iload dX9_lag_129 rfl rfl ?_
      refine z_iload dX9_lag_131 rfl rfl ?_
      refine z_icmp_le (tgt := 144) dX9_lag_133 rfl (by decide) (fun c133 => ?_) (fun c133 => ?_)
      · skip
        have hlt2 : ¬ ((-nI k, alN (w.1.2.1 (ix a)).2 (w.1.2.1 (ix b)).2 (-nI k).toInt (w.1.2.1 (ix a)).2.length) : Int32 × Nat).2 < alN (w.1.2.1 (ix a)).2 (w.1.2.1 (ix b)).2 (nI k).toInt (w.1.2.1 (ix a)).2.length := fun z => absurd c133 (Int32.not_le.mpr (nI_lt z (by omega)))
        refine z_iinc (v := nI (k + 1)) dX9_lag_144 rfl rfl (nI_inc k) (Nat.le_of_ble_eq_true rfl) ?_
        refine z_goto (tgt := 85) dX9_lag_147 rfl (by decide) ?_
        rw [show (nI (k + 1)) = nI (k + 1) from rfl]
        refine z_lv [(5, .int ((-nI k, alN (w.1.2.1 (ix a)).2 (w.1.2.1 (ix b)).2 (-nI k).toInt (w.1.2.1 (ix a)).2.length) : Int32 × Nat).1), (6, .int (nI ((-nI k, alN (w.1.2.1 (ix a)).2 (w.1.2.1 (ix b)).2 (-nI k).toInt (w.1.2.1 (ix a)).2.length) : Int32 × Nat).2)), (7, .int (nI (k + 1))), (0, .ref x), (3, .ref aa), (4, .ref ab)] ⟨rfl, rfl, rfl, rfl, rfl, rfl, trivial⟩ ?_
        exact ih ((-nI k, alN (w.1.2.1 (ix a)).2 (w.1.2.1 (ix b)).2 (-nI k).toInt (w.1.2.1 (ix a)).2.length) : Int32 × Nat) (k + 1) (by omega) (by omega) hp1 (by rw [he, lagL]; rw [lagS_1 hlt1, lagS_0 hlt2])
      · skip
        have hlt2 : ((-nI k, alN (w.1.2.1 (ix a)).2 (w.1.2.1 (ix b)).2 (-nI k).toInt (w.1.2.1 (ix a)).2.length) : Int32 × Nat).2 < alN (w.1.2.1 (ix a)).2 (w.1.2.1 (ix b)).2 (nI k).toInt (w.1.2.1 (ix a)).2.length := Nat.lt_of_not_le (fun z => c133 (nI_le z (by omega)))
        refine z_iload dX9_lag_136 rfl rfl ?_
        refine z_istore dX9_lag_138 rfl (Nat.le_of_ble_eq_true rfl) ?_
        refine z_iload dX9_lag_140 rfl rfl ?_
        refine z_istore dX9_lag_142 rfl (Nat.le_of_ble_eq_true rfl) ?_
        refine z_iinc (v := nI (k + 1)) dX9_lag_144 rfl rfl (nI_inc k) (Nat.le_of_ble_eq_true rfl) ?_
        refine z_goto (tgt := 85) dX9_lag_147 rfl (by decide) ?_
        rw [show (nI (k + 1)) = nI (k + 1) from rfl]
        refine z_lv [(5, .int (nI k)), (6, .int (nI (alN (w.1.2.1 (ix a)).2 (w.1.2.1 (ix b)).2 (nI k).toInt (w.1.2.1 (ix a)).2.length))), (7, .int (nI (k + 1))), (0, .ref x), (3, .ref aa), (4, .ref ab)] ⟨rfl, rfl, rfl, rfl, rfl, rfl, trivial⟩ ?_
        exact ih (nI k, alN (w.1.2.1 (ix a)).2 (w.1.2.1 (ix b)).2 (nI k).toInt (w.1.2.1 (ix a)).2.length) (k + 1) (by omega) (by omega) (by show alN _ _ _ _ ≤ 20; have := alN_le (w.1.2.1 (ix a)).2 (w.1.2.1 (ix b)).2 (nI k).toInt (w.1.2.1 (ix a)).2.length; omega) (by rw [he, lagL]; rw [lagS_1 hlt1, lagS_1 hlt2])

set_option maxHeartbeats 800000 in
set_option maxRecDepth 100000 in
theorem C_lag (g : zG) (h : zH) (x m : Nat) (w : sW) (hRC : RepC h x m w) (a b : Int32) : zM g yX9_lag cX9_lag 10 (some .int) rmX9_lag [.ref x, .int a, .int b] h (cPost x m h (pLag w a b)) := by
  refine zM_of (by decide) (Nat.le_of_ble_eq_true rfl) ?_
  obtain ⟨col, p, F, Z, k, I, P, q, T, V, hR⟩ := id hRC
  obtain ⟨hw, hz, hS, hq, hr, hX⟩ := id hR
  obtain ⟨S0, S1, S2, S3, S4, S5⟩ := id hS
  obtain ⟨R0, R1, R2, R3⟩ := id hr
  refine z_iload_n dX9_lag_0 rfl rfl ?_
  refine zcx_X9_46 rfl dX9_lag_1 rfl (m_isRecord g h _) rfl rfl ⟨(Nat.le_of_ble_eq_true rfl), (Nat.le_of_ble_eq_true rfl)⟩ ⟨(Nat.le_of_ble_eq_true rfl), (Nat.le_of_ble_eq_true rfl)⟩ (Nat.le_of_ble_eq_true rfl) ?_
  refine z_bif_eq (tgt := 14) dX9_lag_4 rfl (by decide) (fun c4 => ?_) (fun c4 => ?_)
  · skip
    refine z_iconst (v := -1) dX9_lag_14 rfl (by decide) ?_
    exact z_iret dX9_lag_15 rfl rfl (cPost_same hRC (by grind [pLag])) (Nat.le_of_ble_eq_true rfl) (Nat.le_of_ble_eq_true rfl)
  · skip
    refine z_iload_n dX9_lag_7 rfl rfl ?_
    refine zcx_X9_46 rfl dX9_lag_8 rfl (m_isRecord g h _) rfl rfl ⟨(Nat.le_of_ble_eq_true rfl), (Nat.le_of_ble_eq_true rfl)⟩ ⟨(Nat.le_of_ble_eq_true rfl), (Nat.le_of_ble_eq_true rfl)⟩ (Nat.le_of_ble_eq_true rfl) ?_
    refine z_bif_ne (tgt := 16) dX9_lag_11 rfl (by decide) (fun c11 => ?_) (fun c11 => ?_)
    · skip
      rcases hFa : F (ix a) with _ | aa
      · have hrfa := rf_n hr (ix_lt c4) hFa
        have hposa : 0 < rowF w.1 (ix a) := by rw [← hrfa]; split <;> decide
        first | refine z_aload_n dX9_lag_16 rfl rfl ?_ | refine z_aload_nN dX9_lag_16 rfl rfl ?_
        refine zg_X9_10 rfl dX9_lag_17 rfl S0 rfl ?_
        refine zg_X9_69 rfl dX9_lag_20 rfl R0.1 rfl ?_
        refine z_iload_n dX9_lag_23 rfl rfl ?_
        refine z_aaldn dX9_lag_24 rfl R0.2.1 rfl rfl (rec_in c4) hFa ?_
        first | refine z_astore_n dX9_lag_25 rfl (Nat.le_of_ble_eq_true rfl) ?_ | refine z_astore_nN dX9_lag_25 rfl (Nat.le_of_ble_eq_true rfl) ?_
        first | refine z_aload_n dX9_lag_26 rfl rfl ?_ | refine z_aload_nN dX9_lag_26 rfl rfl ?_
        refine z_ifnonnullN dX9_lag_27 rfl ?_
        first | refine z_aload_n dX9_lag_30 rfl rfl ?_ | refine z_aload_nN dX9_lag_30 rfl rfl ?_
        refine zg_X9_10 rfl dX9_lag_31 rfl S0 rfl ?_
        refine z_iload_n dX9_lag_34 rfl rfl ?_
        refine zcx_X9_85 rfl dX9_lag_35 rfl R0.1 (m_faultI g h p F Z R0 _ c4) rfl rfl ⟨(Nat.le_of_ble_eq_true rfl), (Nat.le_of_ble_eq_true rfl)⟩ ⟨(Nat.le_of_ble_eq_true rfl), (Nat.le_of_ble_eq_true rfl)⟩ (Nat.le_of_ble_eq_true rfl) ?_
        refine zcx_X9_62 rfl dX9_lag_38 rfl (m_answer g h _) rfl rfl ⟨(Nat.le_of_ble_eq_true rfl), (Nat.le_of_ble_eq_true rfl)⟩ ⟨(Nat.le_of_ble_eq_true rfl), (Nat.le_of_ble_eq_true rfl)⟩ (Nat.le_of_ble_eq_true rfl) ?_
        exact z_iret dX9_lag_41 rfl rfl (cPost_same hRC (by rw [pLag, if_neg (by grind), if_pos hposa, hrfa])) (Nat.le_of_ble_eq_true rfl) (Nat.le_of_ble_eq_true rfl)
      · obtain ⟨h2a, hZa, ⟨hoa, ca, hca, hcla⟩, hcola⟩ := rc_a hr (ix_lt c4) hFa
        have hrfa := rf_a hr (ix_lt c4) hFa
        have hla : (w.1.2.1 (ix a)).2.length ≤ 20 := hoa.2.2.1
        rcases hFb : F (ix b) with _ | ab
        · have hrfb := rf_n hr (ix_lt c11) hFb
          have hposb : 0 < rowF w.1 (ix b) := by rw [← hrfb]; split <;> decide
          first | refine z_aload_n dX9_lag_16 rfl rfl ?_ | refine z_aload_nN dX9_lag_16 rfl rfl ?_
          refine zg_X9_10 rfl dX9_lag_17 rfl S0 rfl ?_
          refine zg_X9_69 rfl dX9_lag_20 rfl R0.1 rfl ?_
          refine z_iload_n dX9_lag_23 rfl rfl ?_
          refine z_aalds dX9_lag_24 rfl R0.2.1 rfl rfl (rec_in c4) hFa ?_
          first | refine z_astore_n dX9_lag_25 rfl (Nat.le_of_ble_eq_true rfl) ?_ | refine z_astore_nN dX9_lag_25 rfl (Nat.le_of_ble_eq_true rfl) ?_
          first | refine z_aload_n dX9_lag_26 rfl rfl ?_ | refine z_aload_nN dX9_lag_26 rfl rfl ?_
          refine z_ifnonnull (tgt := 42) dX9_lag_27 rfl (by decide) ?_
          first | refine z_aload_n dX9_lag_42 rfl rfl ?_ | refine z_aload_nN dX9_lag_42 rfl rfl ?_
          refine zg_X9_10 rfl dX9_lag_43 rfl S0 rfl ?_
          refine zg_X9_69 rfl dX9_lag_46 rfl R0.1 rfl ?_
          refine z_iload_n dX9_lag_49 rfl rfl ?_
          refine z_aaldn dX9_lag_50 rfl R0.2.1 rfl rfl (rec_in c11) hFb ?_
          first | refine z_astore dX9_lag_51 rfl (Nat.le_of_ble_eq_true rfl) ?_ | refine z_astoreN dX9_lag_51 rfl (Nat.le_of_ble_eq_true rfl) ?_
          first | refine z_aload dX9_lag_53 rfl rfl ?_ | refine z_aloadN dX9_lag_53 rfl rfl ?_
          refine z_ifnonnullN dX9_lag_55 rfl ?_
          first | refine z_aload_n dX9_lag_58 rfl rfl ?_ | refine z_aload_nN dX9_lag_58 rfl rfl ?_
          refine zg_X9_10 rfl dX9_lag_59 rfl S0 rfl ?_
          refine z_iload_n dX9_lag_62 rfl rfl ?_
          refine zcx_X9_85 rfl dX9_lag_63 rfl R0.1 (m_faultI g h p F Z R0 _ c11) rfl rfl ⟨(Nat.le_of_ble_eq_true rfl), (Nat.le_of_ble_eq_true rfl)⟩ ⟨(Nat.le_of_ble_eq_true rfl), (Nat.le_of_ble_eq_true rfl)⟩ (Nat.le_of_ble_eq_true rfl) ?_
          refine zcx_X9_62 rfl dX9_lag_66 rfl (m_answer g h _) rfl rfl ⟨(Nat.le_of_ble_eq_true rfl), (Nat.le_of_ble_eq_true rfl)⟩ ⟨(Nat.le_of_ble_eq_true rfl), (Nat.le_of_ble_eq_true rfl)⟩ (Nat.le_of_ble_eq_true rfl) ?_
          exact z_iret dX9_lag_69 rfl rfl (cPost_same hRC (by rw [pLag, if_neg (by grind), if_neg (by rw [hrfa]; decide), if_pos hposb, hrfb])) (Nat.le_of_ble_eq_true rfl) (Nat.le_of_ble_eq_true rfl)
        · obtain ⟨h2b, hZb, ⟨hob, cb, hcb, hclb⟩, hcolb⟩ := rc_a hr (ix_lt c11) hFb
          have hrfb := rf_a hr (ix_lt c11) hFb
          have hlb : (w.1.2.1 (ix b)).2.length ≤ 20 := hob.2.2.1
          first | refine z_aload_n dX9_lag_16 rfl rfl ?_ | refine z_aload_nN dX9_lag_16 rfl rfl ?_
          refine zg_X9_10 rfl dX9_lag_17 rfl S0 rfl ?_
          refine zg_X9_69 rfl dX9_lag_20 rfl R0.1 rfl ?_
          refine z_iload_n dX9_lag_23 rfl rfl ?_
          refine z_aalds dX9_lag_24 rfl R0.2.1 rfl rfl (rec_in c4) hFa ?_
          first | refine z_astore_n dX9_lag_25 rfl (Nat.le_of_ble_eq_true rfl) ?_ | refine z_astore_nN dX9_lag_25 rfl (Nat.le_of_ble_eq_true rfl) ?_
          first | refine z_aload_n dX9_lag_26 rfl rfl ?_ | refine z_aload_nN dX9_lag_26 rfl rfl ?_
          refine z_ifnonnull (tgt := 42) dX9_lag_27 rfl (by decide) ?_
          first | refine z_aload_n dX9_lag_42 rfl rfl ?_ | refine z_aload_nN dX9_lag_42 rfl rfl ?_
          refine zg_X9_10 rfl dX9_lag_43 rfl S0 rfl ?_
          refine zg_X9_69 rfl dX9_lag_46 rfl R0.1 rfl ?_
          refine z_iload_n dX9_lag_49 rfl rfl ?_
          refine z_aalds dX9_lag_50 rfl R0.2.1 rfl rfl (rec_in c11) hFb ?_
          first | refine z_astore dX9_lag_51 rfl (Nat.le_of_ble_eq_true rfl) ?_ | refine z_astoreN dX9_lag_51 rfl (Nat.le_of_ble_eq_true rfl) ?_
          first | refine z_aload dX9_lag_53 rfl rfl ?_ | refine z_aloadN dX9_lag_53 rfl rfl ?_
          refine z_ifnonnull (tgt := 70) dX9_lag_55 rfl (by decide) ?_
          refine z_iconst (v := 0) dX9_lag_70 rfl (by decide) ?_
          refine z_istore dX9_lag_71 rfl (Nat.le_of_ble_eq_true rfl) ?_
          first | refine z_aload_n dX9_lag_73 rfl rfl ?_ | refine z_aload_nN dX9_lag_73 rfl rfl ?_
          first | refine z_aload dX9_lag_74 rfl rfl ?_ | refine z_aloadN dX9_lag_74 rfl rfl ?_
          refine z_iconst (v := 0) dX9_lag_76 rfl (by decide) ?_
          refine zcx_X9_196 rfl dX9_lag_77 rfl (m_shift g h aa ab (w.1.2.1 (ix a)) (w.1.2.1 (ix b)) ca cb hoa hca hcla hob hcb hclb 0 (by decide) (by decide)) rfl rfl ⟨(Nat.le_of_ble_eq_true rfl), (Nat.le_of_ble_eq_true rfl)⟩ ⟨(Nat.le_of_ble_eq_true rfl), (Nat.le_of_ble_eq_true rfl)⟩ (Nat.le_of_ble_eq_true rfl) ?_
          refine z_istore dX9_lag_80 rfl (Nat.le_of_ble_eq_true rfl) ?_
          refine z_iconst (v := 1) dX9_lag_82 rfl (by decide) ?_
          refine z_istore dX9_lag_83 rfl (Nat.le_of_ble_eq_true rfl) ?_
          refine z_lv [(5, .int 0), (6, .int (nI (alN (w.1.2.1 (ix a)).2 (w.1.2.1 (ix b)).2 0 (w.1.2.1 (ix a)).2.length))), (7, .int (nI 1)), (0, .ref x), (3, .ref aa), (4, .ref ab)] ⟨rfl, rfl, rfl, rfl, rfl, rfl, trivial⟩ ?_
          exact C_lag_L g h x m w hRC a b c4 c11 h2a h2b aa ab ca cb hoa hca hcla hob hcb hclb 19 (0, alN (w.1.2.1 (ix a)).2 (w.1.2.1 (ix b)).2 0 (w.1.2.1 (ix a)).2.length) 1 (by omega) (by omega) (by show alN _ _ _ _ ≤ 20; have := alN_le (w.1.2.1 (ix a)).2 (w.1.2.1 (ix b)).2 0 (w.1.2.1 (ix a)).2.length; omega) rfl
    · skip
      refine z_iconst (v := -1) dX9_lag_14 rfl (by decide) ?_
      exact z_iret dX9_lag_15 rfl rfl (cPost_same hRC (by grind [pLag])) (Nat.le_of_ble_eq_true rfl) (Nat.le_of_ble_eq_true rfl)

