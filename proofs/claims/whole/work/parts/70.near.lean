abbrev YX9_near : zY := (yX9_near.cls, cX9_near, 8, (some .int), rmX9_near, yX9_near.name, fun _ _ => True)
set_option maxHeartbeats 800000 in
set_option maxRecDepth 100000 in
theorem C_near_L (g : zG) (h : zH) (x m : Nat) (w : sW) (r : Int32) (hr1 : isRec r) (hrf : ¬ 0 < rowF w.1 (ix r)) (col : Nat → Nat) (p : Nat) (F : Nat → Option Nat) (Z : Nat → Int32) (k : Option Nat) (I P : Nat → Option Nat) (q : Nat → Int32) (V : Nat → sC) (aa : Nat) (hFa : F (ix r) = some aa) : ∀ (n : Nat) (h1 : zH) (T : alT) (b : Int32) (c : Nat) (i : Nat), i + n = 8 → RC h1 x m w col p F Z k I P q T V → (∀ a, m ≤ a → a < m + 20 → h1.2 a = h.2 a) → c ≤ 400 → nearL w (ix r) 8 0 (-4) 0 = nearL w (ix r) n i b c → zZ g YX9_near (zE g (cPost x m h (pNear w r)) 0 0) 44 [(5, .int (nI i)), (3, .int b), (4, .int (nI c)), (0, .ref x), (1, .int r), (2, .ref aa)] [] h1 0 0 := by
  intro n
  induction n with
  | zero =>
    intro h1 T b c i hin hR1 hm1 hc4 he
    refine z_iload dX9_near_44 rfl rfl ?_
    refine z_bipush (v := 8) dX9_near_46 rfl (by decide) ?_
    refine z_icmp_ge (tgt := 119) dX9_near_48 rfl (by decide) (fun c48 => ?_) (fun c48 => absurd c48 (fun z => z (nI_ge8 (by omega) (by omega))))
    refine z_iload_n dX9_near_119 rfl rfl ?_
    exact z_iret dX9_near_120 rfl rfl (cPost_RC hR1 hm1 (by rw [pNear, if_neg (fun z => z hr1), if_neg hrf, he]; rfl)) (Nat.le_of_ble_eq_true rfl) (Nat.le_of_ble_eq_true rfl)
  | succ n ih =>
    intro h1 T b c i hin hR1 hm1 hc4 he
    obtain ⟨hw, hz, hS, hq, hr, hX⟩ := id hR1
    obtain ⟨S0, S1, S2, S3, S4, S5⟩ := id hS
    obtain ⟨R0, R1, R2, R3⟩ := id hr
    by_cases ei : i = ix r
    · have hFi : F i = some aa := by rw [ei]; exact hFa
      refine z_iload dX9_near_44 rfl rfl ?_
      refine z_bipush (v := 8) dX9_near_46 rfl (by decide) ?_
      refine z_icmp_ge (tgt := 119) dX9_near_48 rfl (by decide) (fun c48 => absurd c48 (nI_nge8 (by omega))) (fun c48 => ?_)
      first | refine z_aload_n dX9_near_51 rfl rfl ?_ | refine z_aload_nN dX9_near_51 rfl rfl ?_
      refine zg_X9_10 rfl dX9_near_52 rfl S0 rfl ?_
      refine zg_X9_69 rfl dX9_near_55 rfl R0.1 rfl ?_
      refine z_iload dX9_near_58 rfl rfl ?_
      refine z_aalds dX9_near_60 rfl R0.2.1 rfl rfl (vp_in_nI (by omega) (by decide)) (by rw [nI_clamp (show i < 2 ^ 31 by omega)]; exact hFi) ?_
      first | refine z_astore dX9_near_61 rfl (Nat.le_of_ble_eq_true rfl) ?_ | refine z_astoreN dX9_near_61 rfl (Nat.le_of_ble_eq_true rfl) ?_
      refine z_iload dX9_near_63 rfl rfl ?_
      refine z_iload_n dX9_near_65 rfl rfl ?_
      refine z_icmp_eq (tgt := 113) dX9_near_66 rfl (by decide) (fun c66 => ?_) (fun c66 => absurd c66 (fun z => z ((rec_nI hr1 (by omega)).mpr ei)))
      refine z_iinc (v := nI (i + 1)) dX9_near_113 rfl rfl (nI_inc i) (Nat.le_of_ble_eq_true rfl) ?_
      refine z_goto (tgt := 44) dX9_near_116 rfl (by decide) ?_
      refine z_lv [(5, .int (nI (i + 1))), (3, .int b), (4, .int (nI c)), (0, .ref x), (1, .int r), (2, .ref aa)] ⟨rfl, rfl, rfl, rfl, rfl, rfl, trivial⟩ ?_
      exact ih h1 T b c (i + 1) (by omega) hR1 hm1 (by omega) (by rw [he, nearL, if_neg (fun z => z.1 ei)])
    rcases hFi : F i with _ | ab
    · have h2n : ¬ w.1.1 i = 2 := by rcases rc_n hr (show i < 8 by omega) hFi with z | z <;> rw [z.1] <;> decide
      refine z_iload dX9_near_44 rfl rfl ?_
      refine z_bipush (v := 8) dX9_near_46 rfl (by decide) ?_
      refine z_icmp_ge (tgt := 119) dX9_near_48 rfl (by decide) (fun c48 => absurd c48 (nI_nge8 (by omega))) (fun c48 => ?_)
      first | refine z_aload_n dX9_near_51 rfl rfl ?_ | refine z_aload_nN dX9_near_51 rfl rfl ?_
      refine zg_X9_10 rfl dX9_near_52 rfl S0 rfl ?_
      refine zg_X9_69 rfl dX9_near_55 rfl R0.1 rfl ?_
      refine z_iload dX9_near_58 rfl rfl ?_
      refine z_aaldn dX9_near_60 rfl R0.2.1 rfl rfl (vp_in_nI (by omega) (by decide)) (by rw [nI_clamp (show i < 2 ^ 31 by omega)]; exact hFi) ?_
      first | refine z_astore dX9_near_61 rfl (Nat.le_of_ble_eq_true rfl) ?_ | refine z_astoreN dX9_near_61 rfl (Nat.le_of_ble_eq_true rfl) ?_
      refine z_iload dX9_near_63 rfl rfl ?_
      refine z_iload_n dX9_near_65 rfl rfl ?_
      refine z_icmp_eq (tgt := 113) dX9_near_66 rfl (by decide) (fun c66 => absurd c66 (fun z => ei ((rec_nI hr1 (by omega)).mp z))) (fun c66 => ?_)
      first | refine z_aload dX9_near_69 rfl rfl ?_ | refine z_aloadN dX9_near_69 rfl rfl ?_
      refine z_ifnonnullN dX9_near_71 rfl ?_
      refine z_goto (tgt := 113) dX9_near_74 rfl (by decide) ?_
      refine z_iinc (v := nI (i + 1)) dX9_near_113 rfl rfl (nI_inc i) (Nat.le_of_ble_eq_true rfl) ?_
      refine z_goto (tgt := 44) dX9_near_116 rfl (by decide) ?_
      refine z_lv [(5, .int (nI (i + 1))), (3, .int b), (4, .int (nI c)), (0, .ref x), (1, .int r), (2, .ref aa)] ⟨rfl, rfl, rfl, rfl, rfl, rfl, trivial⟩ ?_
      exact ih h1 T b c (i + 1) (by omega) hR1 hm1 (by omega) (by rw [he, nearL, if_neg (fun z => h2n z.2)])
    · obtain ⟨h2i, hZi, ⟨hob, cb, hcb, hclb⟩, hcolb⟩ := rc_a hr (show i < 8 by omega) hFi
      obtain ⟨h2a, hZa, ⟨hoa, ca, hca, hcla⟩, hcola⟩ := rc_a hr (ix_lt hr1) hFa
      have hla : (w.1.2.1 (ix r)).2.length ≤ 20 := hoa.2.2.1
      have hlb : (w.1.2.1 i).2.length ≤ 20 := hob.2.2.1
      have hox1 := cell_out hz hcola
      have hox2 := cell_out hz hcolb
      have hD4 : (dC w.2.2.1 (w.1.2.1 (ix r)).2 (w.1.2.1 i).2 (w.1.2.1 (ix r)).2.length (w.1.2.1 i).2.length) ≤ 400 := by have := dC_le hq.2 (w.1.2.1 (ix r)).2 (w.1.2.1 i).2 (w.1.2.1 (ix r)).2.length (w.1.2.1 i).2.length; omega
      refine z_iload dX9_near_44 rfl rfl ?_
      refine z_bipush (v := 8) dX9_near_46 rfl (by decide) ?_
      refine z_icmp_ge (tgt := 119) dX9_near_48 rfl (by decide) (fun c48 => absurd c48 (nI_nge8 (by omega))) (fun c48 => ?_)
      first | refine z_aload_n dX9_near_51 rfl rfl ?_ | refine z_aload_nN dX9_near_51 rfl rfl ?_
      refine zg_X9_10 rfl dX9_near_52 rfl S0 rfl ?_
      refine zg_X9_69 rfl dX9_near_55 rfl R0.1 rfl ?_
      refine z_iload dX9_near_58 rfl rfl ?_
      refine z_aalds dX9_near_60 rfl R0.2.1 rfl rfl (vp_in_nI (by omega) (by decide)) (by rw [nI_clamp (show i < 2 ^ 31 by omega)]; exact hFi) ?_
      first | refine z_astore dX9_near_61 rfl (Nat.le_of_ble_eq_true rfl) ?_ | refine z_astoreN dX9_near_61 rfl (Nat.le_of_ble_eq_true rfl) ?_
      refine z_iload dX9_near_63 rfl rfl ?_
      refine z_iload_n dX9_near_65 rfl rfl ?_
      refine z_icmp_eq (tgt := 113) dX9_near_66 rfl (by decide) (fun c66 => absurd c66 (fun z => ei ((rec_nI hr1 (by omega)).mp z))) (fun c66 => ?_)
      first | refine z_aload dX9_near_69 rfl rfl ?_ | refine z_aloadN dX9_near_69 rfl rfl ?_
      refine z_ifnonnull (tgt := 77) dX9_near_71 rfl (by decide) ?_
      first | refine z_aload_n dX9_near_77 rfl rfl ?_ | refine z_aload_nN dX9_near_77 rfl rfl ?_
      refine zg_X9_33 rfl dX9_near_78 rfl S0 rfl ?_
      first | refine z_aload_n dX9_near_81 rfl rfl ?_ | refine z_aload_nN dX9_near_81 rfl rfl ?_
      first | refine z_aload dX9_near_82 rfl rfl ?_ | refine z_aloadN dX9_near_82 rfl rfl ?_
      first | refine z_aload_n dX9_near_84 rfl rfl ?_ | refine z_aload_nN dX9_near_84 rfl rfl ?_
      refine zg_X9_26 rfl dX9_near_85 rfl S0 rfl ?_
      refine zc_X9_134 rfl dX9_near_88 rfl S4.1 (m_leastCost g h1 (x + 7) T S4 aa ab (w.1.2.1 (ix r)) (w.1.2.1 i) ca cb hoa hca hcla hob hcb hclb (by omega) (by omega) (x + 6) w.2.2.1 q S3 (by omega) hq.1 hq.2) rfl rfl ⟨(Nat.le_of_ble_eq_true rfl), (Nat.le_of_ble_eq_true rfl)⟩ ⟨(Nat.le_of_ble_eq_true rfl), (Nat.le_of_ble_eq_true rfl)⟩ (Nat.le_of_ble_eq_true rfl) (fun v h2 hz1 => ?_)
      obtain ⟨rfl, T2, rfl, hT2⟩ := hz1
      refine z_istore dX9_near_91 rfl (Nat.le_of_ble_eq_true rfl) ?_
      refine z_iload_n dX9_near_93 rfl rfl ?_
      refine z_bipush (v := -4) dX9_near_94 rfl (by decide) ?_
      refine z_icmp_eq (tgt := 106) dX9_near_96 rfl (by decide) (fun c96 => ?_) (fun c96 => ?_)
      · skip
        refine z_iload dX9_near_106 rfl rfl ?_
        refine z_istore_n dX9_near_108 rfl (Nat.le_of_ble_eq_true rfl) ?_
        refine z_iload dX9_near_109 rfl rfl ?_
        refine z_istore dX9_near_111 rfl (Nat.le_of_ble_eq_true rfl) ?_
        refine z_iinc (v := nI (i + 1)) dX9_near_113 rfl rfl (nI_inc i) (Nat.le_of_ble_eq_true rfl) ?_
        refine z_goto (tgt := 44) dX9_near_116 rfl (by decide) ?_
        refine z_lv [(5, .int (nI (i + 1))), (3, .int (nI i)), (4, .int (nI (dC w.2.2.1 (w.1.2.1 (ix r)).2 (w.1.2.1 i).2 (w.1.2.1 (ix r)).2.length (w.1.2.1 i).2.length))), (0, .ref x), (1, .int r), (2, .ref aa)] ⟨rfl, rfl, rfl, rfl, rfl, rfl, trivial⟩ ?_
        exact ih (alUp (x + 7) T2 h1) T2 (nI i) (dC w.2.2.1 (w.1.2.1 (ix r)).2 (w.1.2.1 i).2 (w.1.2.1 (ix r)).2.length (w.1.2.1 i).2.length) (i + 1) (by omega) (RC_al hR1 T2).1 (fun z z1 z2 => (alUp_out (by have := hz.1; omega)).trans (hm1 z z1 z2)) hD4 (by rw [he, nearL, if_pos ⟨ei, h2i⟩, if_pos (by first | exact Or.inl c96 | exact Or.inr (Nat.lt_of_not_le (fun z => absurd c103 (fun y => y (nI_le z (by omega))))))])
      · skip
        refine z_iload dX9_near_99 rfl rfl ?_
        refine z_iload dX9_near_101 rfl rfl ?_
        refine z_icmp_ge (tgt := 113) dX9_near_103 rfl (by decide) (fun c103 => ?_) (fun c103 => ?_)
        · skip
          refine z_iinc (v := nI (i + 1)) dX9_near_113 rfl rfl (nI_inc i) (Nat.le_of_ble_eq_true rfl) ?_
          refine z_goto (tgt := 44) dX9_near_116 rfl (by decide) ?_
          refine z_lv [(5, .int (nI (i + 1))), (3, .int b), (4, .int (nI c)), (0, .ref x), (1, .int r), (2, .ref aa)] ⟨rfl, rfl, rfl, rfl, rfl, rfl, trivial⟩ ?_
          exact ih (alUp (x + 7) T2 h1) T2 b c (i + 1) (by omega) (RC_al hR1 T2).1 (fun z z1 z2 => (alUp_out (by have := hz.1; omega)).trans (hm1 z z1 z2)) (by omega) (by rw [he, nearL, if_pos ⟨ei, h2i⟩, if_neg (by rintro (z | z); exact c96 z; exact absurd c103 (nI_ge z (by omega)))])
        · skip
          refine z_iload dX9_near_106 rfl rfl ?_
          refine z_istore_n dX9_near_108 rfl (Nat.le_of_ble_eq_true rfl) ?_
          refine z_iload dX9_near_109 rfl rfl ?_
          refine z_istore dX9_near_111 rfl (Nat.le_of_ble_eq_true rfl) ?_
          refine z_iinc (v := nI (i + 1)) dX9_near_113 rfl rfl (nI_inc i) (Nat.le_of_ble_eq_true rfl) ?_
          refine z_goto (tgt := 44) dX9_near_116 rfl (by decide) ?_
          refine z_lv [(5, .int (nI (i + 1))), (3, .int (nI i)), (4, .int (nI (dC w.2.2.1 (w.1.2.1 (ix r)).2 (w.1.2.1 i).2 (w.1.2.1 (ix r)).2.length (w.1.2.1 i).2.length))), (0, .ref x), (1, .int r), (2, .ref aa)] ⟨rfl, rfl, rfl, rfl, rfl, rfl, trivial⟩ ?_
          exact ih (alUp (x + 7) T2 h1) T2 (nI i) (dC w.2.2.1 (w.1.2.1 (ix r)).2 (w.1.2.1 i).2 (w.1.2.1 (ix r)).2.length (w.1.2.1 i).2.length) (i + 1) (by omega) (RC_al hR1 T2).1 (fun z z1 z2 => (alUp_out (by have := hz.1; omega)).trans (hm1 z z1 z2)) hD4 (by rw [he, nearL, if_pos ⟨ei, h2i⟩, if_pos (by first | exact Or.inl c96 | exact Or.inr (Nat.lt_of_not_le (fun z => absurd c103 (fun y => y (nI_le z (by omega))))))])

set_option maxHeartbeats 800000 in
set_option maxRecDepth 100000 in
theorem C_near (g : zG) (h : zH) (x m : Nat) (w : sW) (hRC : RepC h x m w) (r : Int32) : zM g yX9_near cX9_near 8 (some .int) rmX9_near [.ref x, .int r] h (cPost x m h (pNear w r)) := by
  refine zM_of (by decide) (Nat.le_of_ble_eq_true rfl) ?_
  obtain ⟨col, p, F, Z, k, I, P, q, T, V, hR⟩ := id hRC
  obtain ⟨hw, hz, hS, hq, hr, hX⟩ := id hR
  obtain ⟨S0, S1, S2, S3, S4, S5⟩ := id hS
  obtain ⟨R0, R1, R2, R3⟩ := id hr
  refine z_iload_n dX9_near_0 rfl rfl ?_
  refine zcx_X9_46 rfl dX9_near_1 rfl (m_isRecord g h _) rfl rfl ⟨(Nat.le_of_ble_eq_true rfl), (Nat.le_of_ble_eq_true rfl)⟩ ⟨(Nat.le_of_ble_eq_true rfl), (Nat.le_of_ble_eq_true rfl)⟩ (Nat.le_of_ble_eq_true rfl) ?_
  refine z_bif_ne (tgt := 9) dX9_near_4 rfl (by decide) (fun c4 => ?_) (fun c4 => ?_)
  · skip
    rcases hF : F (ix r) with _ | a
    · have hrf := rf_n hr (ix_lt c4) hF
      have hrn := rc_n hr (ix_lt c4) hF
      have hpos : 0 < rowF w.1 (ix r) := by rw [← hrf]; split <;> decide
      first | refine z_aload_n dX9_near_9 rfl rfl ?_ | refine z_aload_nN dX9_near_9 rfl rfl ?_
      refine zg_X9_10 rfl dX9_near_10 rfl S0 rfl ?_
      refine zg_X9_69 rfl dX9_near_13 rfl R0.1 rfl ?_
      refine z_iload_n dX9_near_16 rfl rfl ?_
      refine z_aaldn dX9_near_17 rfl R0.2.1 rfl rfl (rec_in c4) hF ?_
      first | refine z_astore_n dX9_near_18 rfl (Nat.le_of_ble_eq_true rfl) ?_ | refine z_astore_nN dX9_near_18 rfl (Nat.le_of_ble_eq_true rfl) ?_
      first | refine z_aload_n dX9_near_19 rfl rfl ?_ | refine z_aload_nN dX9_near_19 rfl rfl ?_
      refine z_ifnonnullN dX9_near_20 rfl ?_
      first | refine z_aload_n dX9_near_23 rfl rfl ?_ | refine z_aload_nN dX9_near_23 rfl rfl ?_
      refine zg_X9_10 rfl dX9_near_24 rfl S0 rfl ?_
      refine z_iload_n dX9_near_27 rfl rfl ?_
      refine zcx_X9_85 rfl dX9_near_28 rfl R0.1 (m_faultI g h p F Z R0 _ c4) rfl rfl ⟨(Nat.le_of_ble_eq_true rfl), (Nat.le_of_ble_eq_true rfl)⟩ ⟨(Nat.le_of_ble_eq_true rfl), (Nat.le_of_ble_eq_true rfl)⟩ (Nat.le_of_ble_eq_true rfl) ?_
      refine zcx_X9_62 rfl dX9_near_31 rfl (m_answer g h _) rfl rfl ⟨(Nat.le_of_ble_eq_true rfl), (Nat.le_of_ble_eq_true rfl)⟩ ⟨(Nat.le_of_ble_eq_true rfl), (Nat.le_of_ble_eq_true rfl)⟩ (Nat.le_of_ble_eq_true rfl) ?_
      exact z_iret dX9_near_34 rfl rfl (cPost_same hRC (by rw [pNear, if_neg (fun z => z c4), if_pos hpos, hrf])) (Nat.le_of_ble_eq_true rfl) (Nat.le_of_ble_eq_true rfl)
    · obtain ⟨h2, hZ, ⟨ho, c, hc, hcl⟩, hcol⟩ := rc_a hr (ix_lt c4) hF
      have hrf := rf_a hr (ix_lt c4) hF
      have hl : (w.1.2.1 (ix r)).2.length ≤ 20 := ho.2.2.1
      first | refine z_aload_n dX9_near_9 rfl rfl ?_ | refine z_aload_nN dX9_near_9 rfl rfl ?_
      refine zg_X9_10 rfl dX9_near_10 rfl S0 rfl ?_
      refine zg_X9_69 rfl dX9_near_13 rfl R0.1 rfl ?_
      refine z_iload_n dX9_near_16 rfl rfl ?_
      refine z_aalds dX9_near_17 rfl R0.2.1 rfl rfl (rec_in c4) hF ?_
      first | refine z_astore_n dX9_near_18 rfl (Nat.le_of_ble_eq_true rfl) ?_ | refine z_astore_nN dX9_near_18 rfl (Nat.le_of_ble_eq_true rfl) ?_
      first | refine z_aload_n dX9_near_19 rfl rfl ?_ | refine z_aload_nN dX9_near_19 rfl rfl ?_
      refine z_ifnonnull (tgt := 35) dX9_near_20 rfl (by decide) ?_
      refine z_bipush (v := -4) dX9_near_35 rfl (by decide) ?_
      refine z_istore_n dX9_near_37 rfl (Nat.le_of_ble_eq_true rfl) ?_
      refine z_iconst (v := 0) dX9_near_38 rfl (by decide) ?_
      refine z_istore dX9_near_39 rfl (Nat.le_of_ble_eq_true rfl) ?_
      refine z_iconst (v := 0) dX9_near_41 rfl (by decide) ?_
      refine z_istore dX9_near_42 rfl (Nat.le_of_ble_eq_true rfl) ?_
      refine z_lv [(5, .int (nI 0)), (3, .int (-4)), (4, .int (nI 0)), (0, .ref x), (1, .int r), (2, .ref a)] ⟨rfl, rfl, rfl, rfl, rfl, rfl, trivial⟩ ?_
      exact C_near_L g h x m w r c4 (by rw [hrf]; decide) col p F Z k I P q V a hF 8 h T (-4) 0 0 (by omega) hR (fun _ _ _ => rfl) (by omega) rfl
  · skip
    refine z_iconst (v := -1) dX9_near_7 rfl (by decide) ?_
    exact z_iret dX9_near_8 rfl rfl (cPost_same hRC (by grind [pNear])) (Nat.le_of_ble_eq_true rfl) (Nat.le_of_ble_eq_true rfl)

theorem sub_sh {n : Nat} {s : Int32} (hn : n ≤ 20) (h1 : -19 ≤ s.toInt) (h2 : s.toInt ≤ 19) : (nI n - s).toInt = n - s.toInt := by
  rw [Int32.toInt_sub, nI_toInt (by omega)]
  exact Int.bmod_eq_of_le (by omega) (by omega)
theorem neg_s {s : Int32} (h1 : -19 ≤ s.toInt) (h2 : s.toInt ≤ 19) : (-s).toInt = -s.toInt := by
  rw [Int32.toInt_neg]
  exact Int.bmod_eq_of_le (by omega) (by omega)
theorem alN_s (A B : List sC) (s : Int) (i : Nat) : alN A B s (i + 1) = alN A B s i + if isAl A B s i = true then 1 else 0 := by
  unfold alN
  rw [List.range_succ, List.countP_append, List.countP_singleton]
theorem alN_lo {A B : List sC} {s : Int} : ∀ {i : Nat}, (i : Int) ≤ -s ∨ i = 0 → alN A B s i = 0
  | 0, _ => rfl
  | i + 1, h => by
    rw [alN_s, alN_lo (by omega), isAl, decide_eq_false (by omega)]
    rfl
theorem alN_hi {A B : List sC} {s : Int} {i : Nat} (hi : (B.length : Int) - s ≤ i) : ∀ n, alN A B s (i + n) = alN A B s i
  | 0 => rfl
  | n + 1 => by
    rw [← Nat.add_assoc, alN_s, alN_hi hi n, isAl, decide_eq_false (by omega)]
    rfl

abbrev YX6_alikeAtShift : zY := (yX6_alikeAtShift.cls, cX6_alikeAtShift, 6, (some .int), rmX6_alikeAtShift, yX6_alikeAtShift.name, fun _ _ => True)
set_option maxHeartbeats 800000 in
set_option maxRecDepth 100000 in
theorem m_shift_L (g : zG) (h : zH) (a b : Nat) (A B : sA) (ca cb : Nat → sC) (oa : aOk A) (hca : cAt h a A.1 A.2.length ca) (hcla : ∀ i, i < A.2.length → ca i = A.2.getD i z0) (ob : aOk B) (hcb : cAt h b B.1 B.2.length cb) (hclb : ∀ i, i < B.2.length → cb i = B.2.getD i z0) (s : Int32) (h1 : -19 ≤ s.toInt) (h2 : s.toInt ≤ 19) (e : Int32) (he : e.toInt = (min (A.2.length : Int) (B.2.length - s.toInt))) : ∀ (n i : Nat), ((min (A.2.length : Int) (B.2.length - s.toInt)) - i).toNat ≤ n → -s.toInt ≤ i → i ≤ A.2.length → zZ g YX6_alikeAtShift (zE g (fun v h1 => v = some (.int (nI (alN A.2 B.2 s.toInt A.2.length))) ∧ h1 = h) 0 0) 25 [(3, .int (nI (alN A.2 B.2 s.toInt i))), (4, .int e), (5, .int (nI i)), (0, .ref a), (1, .ref b), (2, .int s)] [] h 0 0 := by
  have la : A.2.length ≤ 20 := oa.2.2.1
  have lb : B.2.length ≤ 20 := ob.2.2.1
  have fin : ∀ i : Nat, (min (A.2.length : Int) (B.2.length - s.toInt)) ≤ i → i ≤ A.2.length → e ≤ nI i ∧ alN A.2 B.2 s.toInt i = alN A.2 B.2 s.toInt A.2.length := by
    intro i hi hia
    refine ⟨by rw [Int32.le_iff_toInt_le, he, nI_toInt (by omega)]; exact hi, ?_⟩
    rcases Nat.lt_or_ge i A.2.length with z | z
    · have := alN_hi (A := A.2) (B := B.2) (s := s.toInt) (i := i) (by omega) (A.2.length - i)
      rw [← this]
      congr 1
      omega
    · rw [show i = A.2.length by omega]
  intro n
  induction n with
  | zero =>
    intro i hn hlo hia
    obtain ⟨hge, hend⟩ := fin i (by omega) hia
    refine z_iload dX6_alikeAtShift_25 rfl rfl ?_
    refine z_iload dX6_alikeAtShift_27 rfl rfl ?_
    refine z_icmp_ge (tgt := 55) dX6_alikeAtShift_29 rfl (by decide) (fun c29 => ?_) (fun c29 => absurd c29 (fun z => z hge))
    refine z_iload_n dX6_alikeAtShift_55 rfl rfl ?_
    exact z_iret dX6_alikeAtShift_56 rfl rfl ⟨by rw [hend], rfl⟩ (Nat.le_of_ble_eq_true rfl) (Nat.le_of_ble_eq_true rfl)
  | succ n ih =>
    intro i hn hlo hia
    by_cases hi : (min (A.2.length : Int) (B.2.length - s.toInt)) ≤ i
    · obtain ⟨hge, hend⟩ := fin i hi hia
      refine z_iload dX6_alikeAtShift_25 rfl rfl ?_
      refine z_iload dX6_alikeAtShift_27 rfl rfl ?_
      refine z_icmp_ge (tgt := 55) dX6_alikeAtShift_29 rfl (by decide) (fun c29 => ?_) (fun c29 => absurd c29 (fun z => z hge))
      refine z_iload_n dX6_alikeAtShift_55 rfl rfl ?_
      exact z_iret dX6_alikeAtShift_56 rfl rfl ⟨by rw [hend], rfl⟩ (Nat.le_of_ble_eq_true rfl) (Nat.le_of_ble_eq_true rfl)
    have hni : ¬ e ≤ nI i := by rw [Int32.le_iff_toInt_le, he, nI_toInt (by omega)]; exact hi
    obtain ⟨j, hj⟩ : ∃ j : Nat, (j : Int) = i + s.toInt := ⟨(i + s.toInt).toNat, by omega⟩
    have hjl : j < B.2.length := by omega
    have hij : nI i + s = nI j := by
      apply Int32.toInt_inj.mp
      rw [add_sh (by omega) h1 h2, nI_toInt (by omega)]
      omega
    by_cases hal : sAlike (A.2.getD i z0) (B.2.getD j z0) = true
    · have hia : isAl A.2 B.2 s.toInt i = true := by rw [isAl, decide_eq_true (by omega), show ((i : Int) + s.toInt).toNat = j by omega, hal]; rfl
      refine z_iload dX6_alikeAtShift_25 rfl rfl ?_
      refine z_iload dX6_alikeAtShift_27 rfl rfl ?_
      refine z_icmp_ge (tgt := 55) dX6_alikeAtShift_29 rfl (by decide) (fun c29 => absurd c29 hni) (fun c29 => ?_)
      first | refine z_aload_n dX6_alikeAtShift_32 rfl rfl ?_ | refine z_aload_nN dX6_alikeAtShift_32 rfl rfl ?_
      refine z_iload dX6_alikeAtShift_33 rfl rfl ?_
      first | refine z_aload_n dX6_alikeAtShift_35 rfl rfl ?_ | refine z_aload_nN dX6_alikeAtShift_35 rfl rfl ?_
      refine z_iload dX6_alikeAtShift_36 rfl rfl ?_
      refine z_iload_n dX6_alikeAtShift_38 rfl rfl ?_
      refine z_iadd dX6_alikeAtShift_39 rfl ?_
      rw [show nI i + s = nI j from hij]
      refine zcx_X6_59 rfl dX6_alikeAtShift_40 rfl (m_isAlike g h a _ _ ca hca (by omega) i (by omega) b _ _ cb hcb (by omega) j (by omega) (cl_ok (h := h) (a := a) oa hcla (by omega)).1 (cl_ok (h := h) (a := b) ob hclb (by omega)).1) rfl rfl ⟨(Nat.le_of_ble_eq_true rfl), (Nat.le_of_ble_eq_true rfl)⟩ ⟨(Nat.le_of_ble_eq_true rfl), (Nat.le_of_ble_eq_true rfl)⟩ (Nat.le_of_ble_eq_true rfl) ?_
      rw [hcla i (by omega), hclb j (by omega)]
      refine z_bif_eq (tgt := 49) dX6_alikeAtShift_43 rfl (by decide) (fun c43 => absurd c43 (fun z => z hal)) (fun c43 => ?_)
      refine z_iinc (v := nI (alN A.2 B.2 s.toInt i + 1)) dX6_alikeAtShift_46 rfl rfl (nI_inc _) (Nat.le_of_ble_eq_true rfl) ?_
      rw [show nI (alN A.2 B.2 s.toInt i + 1) = nI (alN A.2 B.2 s.toInt (i + 1)) from by rw [alN_s, hia, if_pos rfl]]
      refine z_iinc (v := nI (i + 1)) dX6_alikeAtShift_49 rfl rfl (nI_inc i) (Nat.le_of_ble_eq_true rfl) ?_
      refine z_goto (tgt := 25) dX6_alikeAtShift_52 rfl (by decide) ?_
      refine z_lv [(3, .int (nI (alN A.2 B.2 s.toInt (i + 1)))), (4, .int e), (5, .int (nI (i + 1))), (0, .ref a), (1, .ref b), (2, .int s)] ⟨rfl, rfl, rfl, rfl, rfl, rfl, trivial⟩ ?_
      exact ih (i + 1) (by omega) (by omega) (by omega)
    · have hia : isAl A.2 B.2 s.toInt i = false := by rw [isAl, decide_eq_true (by omega), show ((i : Int) + s.toInt).toNat = j by omega, Bool.true_and]; exact Bool.eq_false_iff.mpr hal
      refine z_iload dX6_alikeAtShift_25 rfl rfl ?_
      refine z_iload dX6_alikeAtShift_27 rfl rfl ?_
      refine z_icmp_ge (tgt := 55) dX6_alikeAtShift_29 rfl (by decide) (fun c29 => absurd c29 hni) (fun c29 => ?_)
      first | refine z_aload_n dX6_alikeAtShift_32 rfl rfl ?_ | refine z_aload_nN dX6_alikeAtShift_32 rfl rfl ?_
      refine z_iload dX6_alikeAtShift_33 rfl rfl ?_
      first | refine z_aload_n dX6_alikeAtShift_35 rfl rfl ?_ | refine z_aload_nN dX6_alikeAtShift_35 rfl rfl ?_
      refine z_iload dX6_alikeAtShift_36 rfl rfl ?_
      refine z_iload_n dX6_alikeAtShift_38 rfl rfl ?_
      refine z_iadd dX6_alikeAtShift_39 rfl ?_
      rw [show nI i + s = nI j from hij]
      refine zcx_X6_59 rfl dX6_alikeAtShift_40 rfl (m_isAlike g h a _ _ ca hca (by omega) i (by omega) b _ _ cb hcb (by omega) j (by omega) (cl_ok (h := h) (a := a) oa hcla (by omega)).1 (cl_ok (h := h) (a := b) ob hclb (by omega)).1) rfl rfl ⟨(Nat.le_of_ble_eq_true rfl), (Nat.le_of_ble_eq_true rfl)⟩ ⟨(Nat.le_of_ble_eq_true rfl), (Nat.le_of_ble_eq_true rfl)⟩ (Nat.le_of_ble_eq_true rfl) ?_
      rw [hcla i (by omega), hclb j (by omega)]
      refine z_bif_eq (tgt := 49) dX6_alikeAtShift_43 rfl (by decide) (fun c43 => ?_) (fun c43 => absurd c43 hal)
      rw [show nI (alN A.2 B.2 s.toInt i) = nI (alN A.2 B.2 s.toInt (i + 1)) from by rw [alN_s, hia, if_neg Bool.false_ne_true, Nat.add_zero]]
      refine z_iinc (v := nI (i + 1)) dX6_alikeAtShift_49 rfl rfl (nI_inc i) (Nat.le_of_ble_eq_true rfl) ?_
      refine z_goto (tgt := 25) dX6_alikeAtShift_52 rfl (by decide) ?_
      refine z_lv [(3, .int (nI (alN A.2 B.2 s.toInt (i + 1)))), (4, .int e), (5, .int (nI (i + 1))), (0, .ref a), (1, .ref b), (2, .int s)] ⟨rfl, rfl, rfl, rfl, rfl, rfl, trivial⟩ ?_
      exact ih (i + 1) (by omega) (by omega) (by omega)

set_option maxHeartbeats 4000000 in
set_option maxRecDepth 100000 in
/-- X6_alikeAtShift -/
theorem m_shift (g : zG) (h : zH) (a b : Nat) (A B : sA) (ca cb : Nat → sC) (oa : aOk A) (hca : cAt h a A.1 A.2.length ca) (hcla : ∀ i, i < A.2.length → ca i = A.2.getD i z0) (ob : aOk B) (hcb : cAt h b B.1 B.2.length cb) (hclb : ∀ i, i < B.2.length → cb i = B.2.getD i z0) (s : Int32) (h1 : -19 ≤ s.toInt) (h2 : s.toInt ≤ 19) : zX g yX6_alikeAtShift cX6_alikeAtShift 6 (some .int) rmX6_alikeAtShift [.ref a, .ref b, .int s] h (.int (nI (alN A.2 B.2 s.toInt A.2.length))) h := by
  refine zM_of (by decide) (Nat.le_of_ble_eq_true rfl) ?_
  refine z_iconst (v := 0) dX6_alikeAtShift_0 rfl (by decide) ?_
  refine z_istore_n dX6_alikeAtShift_1 rfl (Nat.le_of_ble_eq_true rfl) ?_
  first | refine z_aload_n dX6_alikeAtShift_2 rfl rfl ?_ | refine z_aload_nN dX6_alikeAtShift_2 rfl rfl ?_
  refine zg_X6_47 rfl dX6_alikeAtShift_3 rfl hca.1 rfl ?_
  first | refine z_aload_n dX6_alikeAtShift_6 rfl rfl ?_ | refine z_aload_nN dX6_alikeAtShift_6 rfl rfl ?_
  refine zg_X6_47 rfl dX6_alikeAtShift_7 rfl hcb.1 rfl ?_
  refine z_iload_n dX6_alikeAtShift_10 rfl rfl ?_
  refine z_isub dX6_alikeAtShift_11 rfl ?_
  refine zc_X6_51 rfl dX6_alikeAtShift_12 rfl (Nat.le_of_ble_eq_true rfl) (Nat.le_of_ble_eq_true rfl) (Nat.le_of_ble_eq_true rfl) (Nat.le_of_ble_eq_true rfl) ?_
  refine z_istore dX6_alikeAtShift_15 rfl (Nat.le_of_ble_eq_true rfl) ?_
  refine z_iconst (v := 0) dX6_alikeAtShift_17 rfl (by decide) ?_
  refine z_iload_n dX6_alikeAtShift_18 rfl rfl ?_
  refine z_ineg dX6_alikeAtShift_19 rfl ?_
  refine zc_X6_56 rfl dX6_alikeAtShift_20 rfl (Nat.le_of_ble_eq_true rfl) (Nat.le_of_ble_eq_true rfl) (Nat.le_of_ble_eq_true rfl) (Nat.le_of_ble_eq_true rfl) ?_
  refine z_istore dX6_alikeAtShift_23 rfl (Nat.le_of_ble_eq_true rfl) ?_
  have la : A.2.length ≤ 20 := oa.2.2.1
  have lb : B.2.length ≤ 20 := ob.2.2.1
  have he : (if nI B.2.length - s < nI A.2.length then nI B.2.length - s else nI A.2.length).toInt = (min (A.2.length : Int) (B.2.length - s.toInt)) := by
    have e1 := sub_sh (n := B.2.length) (s := s) lb h1 h2
    have e2 : (nI A.2.length).toInt = A.2.length := nI_toInt (by omega)
    split
    · rename_i z; rw [Int32.lt_iff_toInt_lt, e1, e2] at z; rw [e1]; omega
    · rename_i z; rw [Int32.lt_iff_toInt_lt, e1, e2] at z; rw [e2]; omega
  obtain ⟨i, hi, hie⟩ : ∃ i : Nat, ((i : Int) = -s.toInt ∨ ((i : Int) = 0 ∧ -s.toInt ≤ 0)) ∧ (if (0 : Int32) < -s then -s else 0) = nI i := by
    have e1 := neg_s h1 h2
    by_cases z : (0 : Int32) < -s
    · rw [if_pos z]
      rw [Int32.lt_iff_toInt_lt, e1, show (0 : Int32).toInt = 0 from rfl] at z
      exact ⟨(-s.toInt).toNat, Or.inl (by omega), Int32.toInt_inj.mp (by rw [e1, nI_toInt (by omega)]; omega)⟩
    · rw [if_neg z]
      rw [Int32.lt_iff_toInt_lt, e1, show (0 : Int32).toInt = 0 from rfl] at z
      exact ⟨0, Or.inr ⟨rfl, by omega⟩, rfl⟩
  rw [hie]
  have h0 : alN A.2 B.2 s.toInt i = 0 := alN_lo (by omega)
  by_cases hiA : i ≤ A.2.length
  · refine z_lv [(3, .int (nI (alN A.2 B.2 s.toInt i))), (4, .int (if nI B.2.length - s < nI A.2.length then nI B.2.length - s else nI A.2.length)), (5, .int (nI i)), (0, .ref a), (1, .ref b), (2, .int s)] (by rw [h0]; exact ⟨rfl, rfl, rfl, rfl, rfl, rfl, trivial⟩) ?_
    exact m_shift_L g h a b A B ca cb oa hca hcla ob hcb hclb s h1 h2 _ he 40 i (by omega) (by omega) hiA
  · have hz : alN A.2 B.2 s.toInt A.2.length = 0 := alN_lo (by omega)
    have hge : (if nI B.2.length - s < nI A.2.length then nI B.2.length - s else nI A.2.length) ≤ nI i := by rw [Int32.le_iff_toInt_le, he, nI_toInt (by omega)]; omega
    refine z_iload dX6_alikeAtShift_25 rfl rfl ?_
    refine z_iload dX6_alikeAtShift_27 rfl rfl ?_
    refine z_icmp_ge (tgt := 55) dX6_alikeAtShift_29 rfl (by decide) (fun c29 => ?_) (fun c29 => absurd c29 (fun z => z hge))
    refine z_iload_n dX6_alikeAtShift_55 rfl rfl ?_
    exact z_iret dX6_alikeAtShift_56 rfl rfl ⟨by rw [hz]; rfl, rfl⟩ (Nat.le_of_ble_eq_true rfl) (Nat.le_of_ble_eq_true rfl)

