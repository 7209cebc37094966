theorem in_0 (n : Nat) (h : 0 < n) : vp_in 0 n := by
  unfold vp_in
  rw [show (0 : Int32).toNatClampNeg = 0 from rfl]
  intro q
  rcases q with q | q
  · exact absurd q (by decide)
  · omega
theorem sFar_ok {c d : sC} (hc : sOk c) (hd : sOk d) (hj : ¬ sJoin c.1 d.1 = -4) (k : Int32) : fpD 64 (FP.dsub (sReal c k) (sReal d k)) ∧ fpD 64 (FP.dsub (sReal d k) (sReal c k)) :=
  ⟨fpD_dsub (sReal_ok hc (sJoin_num hj).1.2 k).1 (sReal_ok hd (sJoin_num hj).2.2 k).1 (by decide), fpD_dsub (sReal_ok hd (sJoin_num hj).2.2 k).1 (sReal_ok hc (sJoin_num hj).1.2 k).1 (by decide)⟩

set_option maxHeartbeats 4000000 in
set_option maxRecDepth 100000 in
/-- X10_areNear -/
theorem r_areNear (g : zG) (h : zH) (m : Nat) (S : sMS) (p q : Int32) (hp : vp_in p 880) (hq : vp_in q 880) (hc : sOk (mc S p.toNatClampNeg)) (hd : sOk (mc S q.toNatClampNeg)) : zX g yX10_areNear cX10_areNear 8 (some .boolean) rmX10_areNear [.ref m, .int p, .int q] (mUp m S h) (.int (if sNear (mc S p.toNatClampNeg) (mc S q.toNatClampNeg) (S.1 7 0) = true then 1 else 0)) (mUp m S h) := by
  refine zM_of (by decide) (Nat.le_of_ble_eq_true rfl) ?_
  first | refine z_aload_n dX10_areNear_0 rfl rfl ?_ | refine z_aload_nN dX10_areNear_0 rfl rfl ?_
  refine zmg_7 rfl dX10_areNear_1 rfl ?_
  refine z_iload_n dX10_areNear_4 rfl rfl ?_
  refine zm_iald dX10_areNear_5 rfl rfl (by assumption) ?_
  first | refine z_aload_n dX10_areNear_6 rfl rfl ?_ | refine z_aload_nN dX10_areNear_6 rfl rfl ?_
  refine zmg_7 rfl dX10_areNear_7 rfl ?_
  refine z_iload_n dX10_areNear_10 rfl rfl ?_
  refine zm_iald dX10_areNear_11 rfl rfl (by assumption) ?_
  refine zcx_X10_108 rfl dX10_areNear_12 rfl (r_joinOf g _ _ _) rfl rfl ⟨(Nat.le_of_ble_eq_true rfl), (Nat.le_of_ble_eq_true rfl)⟩ ⟨(Nat.le_of_ble_eq_true rfl), (Nat.le_of_ble_eq_true rfl)⟩ (Nat.le_of_ble_eq_true rfl) ?_
  refine z_istore_n dX10_areNear_15 rfl (Nat.le_of_ble_eq_true rfl) ?_
  refine z_iload_n dX10_areNear_16 rfl rfl ?_
  refine z_iconst (v := 1) dX10_areNear_17 rfl (by decide) ?_
  refine z_icmp_lt (tgt := 30) dX10_areNear_18 rfl (by decide) (fun c18 => ?_) (fun c18 => ?_)
  · skip
    refine z_iconst (v := 0) dX10_areNear_30 rfl (by decide) ?_
    exact z_zret dX10_areNear_31 rfl rfl rfl ⟨by grind [sNear, mc, sFar, sFarL], rfl⟩ (Nat.le_of_ble_eq_true rfl) (Nat.le_of_ble_eq_true rfl)
  · skip
    first | refine z_aload_n dX10_areNear_21 rfl rfl ?_ | refine z_aload_nN dX10_areNear_21 rfl rfl ?_
    refine z_iload_n dX10_areNear_22 rfl rfl ?_
    refine z_iload_n dX10_areNear_23 rfl rfl ?_
    refine zcx_X10_112 rfl dX10_areNear_24 rfl mo_recv (r_areAlike g h m S _ _ hp hq hc hd) rfl rfl ⟨(Nat.le_of_ble_eq_true rfl), (Nat.le_of_ble_eq_true rfl)⟩ ⟨(Nat.le_of_ble_eq_true rfl), (Nat.le_of_ble_eq_true rfl)⟩ (Nat.le_of_ble_eq_true rfl) ?_
    refine z_bif_eq (tgt := 32) dX10_areNear_27 rfl (by decide) (fun c27 => ?_) (fun c27 => ?_)
    · skip
      refine z_iload_n dX10_areNear_32 rfl rfl ?_
      refine z_bipush (v := 6) dX10_areNear_33 rfl (by decide) ?_
      refine z_icmp_lt (tgt := 92) dX10_areNear_35 rfl (by decide) (fun c35 => ?_) (fun c35 => ?_)
      · skip
        first | refine z_aload_n dX10_areNear_92 rfl rfl ?_ | refine z_aload_nN dX10_areNear_92 rfl rfl ?_
        refine zmg_13 rfl dX10_areNear_93 rfl ?_
        refine z_iload_n dX10_areNear_96 rfl rfl ?_
        refine zm_lald dX10_areNear_97 rfl rfl (by assumption) ?_
        first | refine z_aload_n dX10_areNear_98 rfl rfl ?_ | refine z_aload_nN dX10_areNear_98 rfl rfl ?_
        refine zmg_13 rfl dX10_areNear_99 rfl ?_
        refine z_iload_n dX10_areNear_102 rfl rfl ?_
        refine zm_lald dX10_areNear_103 rfl rfl (by assumption) ?_
        refine z_lc_le (tgt := 124) dX10_areNear_104 rfl dX10_areNear_105 (by decide) (fun c104 => ?_) (fun c104 => ?_)
        · skip
          first | refine z_aload_n dX10_areNear_124 rfl rfl ?_ | refine z_aload_nN dX10_areNear_124 rfl rfl ?_
          refine zmg_13 rfl dX10_areNear_125 rfl ?_
          refine z_iload_n dX10_areNear_128 rfl rfl ?_
          refine zm_lald dX10_areNear_129 rfl rfl (by assumption) ?_
          first | refine z_aload_n dX10_areNear_130 rfl rfl ?_ | refine z_aload_nN dX10_areNear_130 rfl rfl ?_
          refine zmg_13 rfl dX10_areNear_131 rfl ?_
          refine z_iload_n dX10_areNear_134 rfl rfl ?_
          refine zm_lald dX10_areNear_135 rfl rfl (by assumption) ?_
          refine z_lsub dX10_areNear_136 rfl ?_
          refine z_lstore dX10_areNear_137 rfl (Nat.le_of_ble_eq_true rfl) ?_
          refine z_lload dX10_areNear_139 rfl rfl ?_
          refine z_lconst (v := 0) dX10_areNear_141 rfl (by decide) ?_
          refine z_lc_lt (tgt := 163) dX10_areNear_142 rfl dX10_areNear_143 (by decide) (fun c142 => ?_) (fun c142 => ?_)
          · skip
            refine z_iconst (v := 0) dX10_areNear_163 rfl (by decide) ?_
            exact z_zret dX10_areNear_164 rfl rfl rfl ⟨by grind [sNear, mc, sFar, sFarL], rfl⟩ (Nat.le_of_ble_eq_true rfl) (Nat.le_of_ble_eq_true rfl)
          · skip
            refine z_lload dX10_areNear_146 rfl rfl ?_
            first | refine z_aload_n dX10_areNear_148 rfl rfl ?_ | refine z_aload_nN dX10_areNear_148 rfl rfl ?_
            refine zmg_30 rfl dX10_areNear_149 rfl ?_
            refine z_iconst (v := 0) dX10_areNear_152 rfl (by decide) ?_
            refine zm_iald dX10_areNear_153 rfl rfl (in_0 4 (by decide)) ?_
            refine z_i2l dX10_areNear_154 rfl ?_
            refine z_lc_gt (tgt := 163) dX10_areNear_155 rfl dX10_areNear_156 (by decide) (fun c155 => ?_) (fun c155 => ?_)
            · skip
              refine z_iconst (v := 0) dX10_areNear_163 rfl (by decide) ?_
              exact z_zret dX10_areNear_164 rfl rfl rfl ⟨by grind [sNear, mc, sFar, sFarL], rfl⟩ (Nat.le_of_ble_eq_true rfl) (Nat.le_of_ble_eq_true rfl)
            · skip
              refine z_iconst (v := 1) dX10_areNear_159 rfl (by decide) ?_
              refine z_goto (tgt := 164) dX10_areNear_160 rfl (by decide) ?_
              exact z_zret dX10_areNear_164 rfl rfl rfl ⟨by grind [sNear, mc, sFar, sFarL], rfl⟩ (Nat.le_of_ble_eq_true rfl) (Nat.le_of_ble_eq_true rfl)
        · skip
          first | refine z_aload_n dX10_areNear_108 rfl rfl ?_ | refine z_aload_nN dX10_areNear_108 rfl rfl ?_
          refine zmg_13 rfl dX10_areNear_109 rfl ?_
          refine z_iload_n dX10_areNear_112 rfl rfl ?_
          refine zm_lald dX10_areNear_113 rfl rfl (by assumption) ?_
          first | refine z_aload_n dX10_areNear_114 rfl rfl ?_ | refine z_aload_nN dX10_areNear_114 rfl rfl ?_
          refine zmg_13 rfl dX10_areNear_115 rfl ?_
          refine z_iload_n dX10_areNear_118 rfl rfl ?_
          refine zm_lald dX10_areNear_119 rfl rfl (by assumption) ?_
          refine z_lsub dX10_areNear_120 rfl ?_
          refine z_goto (tgt := 137) dX10_areNear_121 rfl (by decide) ?_
          refine z_lstore dX10_areNear_137 rfl (Nat.le_of_ble_eq_true rfl) ?_
          refine z_lload dX10_areNear_139 rfl rfl ?_
          refine z_lconst (v := 0) dX10_areNear_141 rfl (by decide) ?_
          refine z_lc_lt (tgt := 163) dX10_areNear_142 rfl dX10_areNear_143 (by decide) (fun c142 => ?_) (fun c142 => ?_)
          · skip
            refine z_iconst (v := 0) dX10_areNear_163 rfl (by decide) ?_
            exact z_zret dX10_areNear_164 rfl rfl rfl ⟨by grind [sNear, mc, sFar, sFarL], rfl⟩ (Nat.le_of_ble_eq_true rfl) (Nat.le_of_ble_eq_true rfl)
          · skip
            refine z_lload dX10_areNear_146 rfl rfl ?_
            first | refine z_aload_n dX10_areNear_148 rfl rfl ?_ | refine z_aload_nN dX10_areNear_148 rfl rfl ?_
            refine zmg_30 rfl dX10_areNear_149 rfl ?_
            refine z_iconst (v := 0) dX10_areNear_152 rfl (by decide) ?_
            refine zm_iald dX10_areNear_153 rfl rfl (in_0 4 (by decide)) ?_
            refine z_i2l dX10_areNear_154 rfl ?_
            refine z_lc_gt (tgt := 163) dX10_areNear_155 rfl dX10_areNear_156 (by decide) (fun c155 => ?_) (fun c155 => ?_)
            · skip
              refine z_iconst (v := 0) dX10_areNear_163 rfl (by decide) ?_
              exact z_zret dX10_areNear_164 rfl rfl rfl ⟨by grind [sNear, mc, sFar, sFarL], rfl⟩ (Nat.le_of_ble_eq_true rfl) (Nat.le_of_ble_eq_true rfl)
            · skip
              refine z_iconst (v := 1) dX10_areNear_159 rfl (by decide) ?_
              refine z_goto (tgt := 164) dX10_areNear_160 rfl (by decide) ?_
              exact z_zret dX10_areNear_164 rfl rfl rfl ⟨by grind [sNear, mc, sFar, sFarL], rfl⟩ (Nat.le_of_ble_eq_true rfl) (Nat.le_of_ble_eq_true rfl)
      · skip
        have nj : ¬ sJoin (mc S p.toNatClampNeg).1 (mc S q.toNatClampNeg).1 = -4 := fun z => c35 (by show sJoin (mc S p.toNatClampNeg).1 (mc S q.toNatClampNeg).1 < 6; rw [z]; decide)
        have hcm := sJoin_cmp hc hd nj (sJoin (S.1 1 p.toNatClampNeg) (S.1 1 q.toNatClampNeg))
        have hfar := sFar_ok hc hd nj (sJoin (S.1 1 p.toNatClampNeg) (S.1 1 q.toNatClampNeg))
        first | refine z_aload_n dX10_areNear_38 rfl rfl ?_ | refine z_aload_nN dX10_areNear_38 rfl rfl ?_
        refine z_iload_n dX10_areNear_39 rfl rfl ?_
        refine z_iload_n dX10_areNear_40 rfl rfl ?_
        refine zcx_X10_88 rfl dX10_areNear_41 rfl mo_recv (r_fractionOf g h m S _ _ (by assumption)) rfl rfl ⟨(Nat.le_of_ble_eq_true rfl), (Nat.le_of_ble_eq_true rfl)⟩ ⟨(Nat.le_of_ble_eq_true rfl), (Nat.le_of_ble_eq_true rfl)⟩ (Nat.le_of_ble_eq_true rfl) ?_
        refine z_dstore dX10_areNear_44 rfl (Nat.le_of_ble_eq_true rfl) ?_
        first | refine z_aload_n dX10_areNear_46 rfl rfl ?_ | refine z_aload_nN dX10_areNear_46 rfl rfl ?_
        refine z_iload_n dX10_areNear_47 rfl rfl ?_
        refine z_iload_n dX10_areNear_48 rfl rfl ?_
        refine zcx_X10_88 rfl dX10_areNear_49 rfl mo_recv (r_fractionOf g h m S _ _ (by assumption)) rfl rfl ⟨(Nat.le_of_ble_eq_true rfl), (Nat.le_of_ble_eq_true rfl)⟩ ⟨(Nat.le_of_ble_eq_true rfl), (Nat.le_of_ble_eq_true rfl)⟩ (Nat.le_of_ble_eq_true rfl) ?_
        refine z_dstore dX10_areNear_52 rfl (Nat.le_of_ble_eq_true rfl) ?_
        refine z_dload dX10_areNear_54 rfl rfl ?_
        refine z_dload dX10_areNear_56 rfl rfl ?_
        refine z_dc_le (tgt := 70) dX10_areNear_58 rfl dX10_areNear_59 (by decide) hcm (fun c58 => ?_) (fun c58 => ?_)
        · skip
          have hz := hfar.2
          refine z_dload dX10_areNear_70 rfl rfl ?_
          refine z_dload dX10_areNear_72 rfl rfl ?_
          refine z_dsub dX10_areNear_74 rfl (fpD_n hz) ?_
          first | refine z_aload_n dX10_areNear_75 rfl rfl ?_ | refine z_aload_nN dX10_areNear_75 rfl rfl ?_
          refine zmg_30 rfl dX10_areNear_76 rfl ?_
          refine z_iconst (v := 0) dX10_areNear_79 rfl (by decide) ?_
          refine zm_iald dX10_areNear_80 rfl rfl (in_0 4 (by decide)) ?_
          refine z_i2d dX10_areNear_81 rfl ?_
          refine z_dc_gt (tgt := 90) dX10_areNear_82 rfl dX10_areNear_83 (by decide) (dcmp_ok hz (fpD_up (fpD_i2d _) (by decide))) (fun c82 => ?_) (fun c82 => ?_)
          · skip
            refine z_iconst (v := 0) dX10_areNear_90 rfl (by decide) ?_
            exact z_zret dX10_areNear_91 rfl rfl rfl ⟨by grind [sNear, mc, sFar, sFarL], rfl⟩ (Nat.le_of_ble_eq_true rfl) (Nat.le_of_ble_eq_true rfl)
          · skip
            refine z_iconst (v := 1) dX10_areNear_86 rfl (by decide) ?_
            refine z_goto (tgt := 91) dX10_areNear_87 rfl (by decide) ?_
            exact z_zret dX10_areNear_91 rfl rfl rfl ⟨by grind [sNear, mc, sFar, sFarL], rfl⟩ (Nat.le_of_ble_eq_true rfl) (Nat.le_of_ble_eq_true rfl)
        · skip
          have hz := hfar.1
          refine z_dload dX10_areNear_62 rfl rfl ?_
          refine z_dload dX10_areNear_64 rfl rfl ?_
          refine z_dsub dX10_areNear_66 rfl (fpD_n hz) ?_
          refine z_goto (tgt := 75) dX10_areNear_67 rfl (by decide) ?_
          first | refine z_aload_n dX10_areNear_75 rfl rfl ?_ | refine z_aload_nN dX10_areNear_75 rfl rfl ?_
          refine zmg_30 rfl dX10_areNear_76 rfl ?_
          refine z_iconst (v := 0) dX10_areNear_79 rfl (by decide) ?_
          refine zm_iald dX10_areNear_80 rfl rfl (in_0 4 (by decide)) ?_
          refine z_i2d dX10_areNear_81 rfl ?_
          refine z_dc_gt (tgt := 90) dX10_areNear_82 rfl dX10_areNear_83 (by decide) (dcmp_ok hz (fpD_up (fpD_i2d _) (by decide))) (fun c82 => ?_) (fun c82 => ?_)
          · skip
            refine z_iconst (v := 0) dX10_areNear_90 rfl (by decide) ?_
            exact z_zret dX10_areNear_91 rfl rfl rfl ⟨by grind [sNear, mc, sFar, sFarL], rfl⟩ (Nat.le_of_ble_eq_true rfl) (Nat.le_of_ble_eq_true rfl)
          · skip
            refine z_iconst (v := 1) dX10_areNear_86 rfl (by decide) ?_
            refine z_goto (tgt := 91) dX10_areNear_87 rfl (by decide) ?_
            exact z_zret dX10_areNear_91 rfl rfl rfl ⟨by grind [sNear, mc, sFar, sFarL], rfl⟩ (Nat.le_of_ble_eq_true rfl) (Nat.le_of_ble_eq_true rfl)
    · skip
      refine z_iconst (v := 0) dX10_areNear_30 rfl (by decide) ?_
      exact z_zret dX10_areNear_31 rfl rfl rfl ⟨by grind [sNear, mc, sFar, sFarL], rfl⟩ (Nat.le_of_ble_eq_true rfl) (Nat.le_of_ble_eq_true rfl)

set_option maxHeartbeats 4000000 in
set_option maxRecDepth 100000 in
/-- X10_likeness -/
theorem r_likeness (g : zG) (h : zH) (m : Nat) (S : sMS) (p q : Int32) (hp : vp_in p 880) (hq : vp_in q 880) (hc : sOk (mc S p.toNatClampNeg)) (hd : sOk (mc S q.toNatClampNeg)) : zX g yX10_likeness cX10_likeness 3 (some .int) rmX10_likeness [.ref m, .int p, .int q] (mUp m S h) (.int (sLike (mc S p.toNatClampNeg) (mc S q.toNatClampNeg) (S.1 7 0))) (mUp m S h) := by
  refine zM_of (by decide) (Nat.le_of_ble_eq_true rfl) ?_
  first | refine z_aload_n dX10_likeness_0 rfl rfl ?_ | refine z_aload_nN dX10_likeness_0 rfl rfl ?_
  refine z_iload_n dX10_likeness_1 rfl rfl ?_
  refine z_iload_n dX10_likeness_2 rfl rfl ?_
  refine zcx_X10_112 rfl dX10_likeness_3 rfl mo_recv (r_areAlike g h m S _ _ hp hq hc hd) rfl rfl ⟨(Nat.le_of_ble_eq_true rfl), (Nat.le_of_ble_eq_true rfl)⟩ ⟨(Nat.le_of_ble_eq_true rfl), (Nat.le_of_ble_eq_true rfl)⟩ (Nat.le_of_ble_eq_true rfl) ?_
  refine z_bif_eq (tgt := 13) dX10_likeness_6 rfl (by decide) (fun c6 => ?_) (fun c6 => ?_)
  · skip
    first | refine z_aload_n dX10_likeness_13 rfl rfl ?_ | refine z_aload_nN dX10_likeness_13 rfl rfl ?_
    refine z_iload_n dX10_likeness_14 rfl rfl ?_
    refine z_iload_n dX10_likeness_15 rfl rfl ?_
    refine zcx_X10_115 rfl dX10_likeness_16 rfl mo_recv (r_areNear g h m S _ _ hp hq hc hd) rfl rfl ⟨(Nat.le_of_ble_eq_true rfl), (Nat.le_of_ble_eq_true rfl)⟩ ⟨(Nat.le_of_ble_eq_true rfl), (Nat.le_of_ble_eq_true rfl)⟩ (Nat.le_of_ble_eq_true rfl) ?_
    refine z_bif_eq (tgt := 26) dX10_likeness_19 rfl (by decide) (fun c19 => ?_) (fun c19 => ?_)
    · skip
      refine z_iconst (v := 2) dX10_likeness_26 rfl (by decide) ?_
      exact z_iret dX10_likeness_27 rfl rfl ⟨by grind [sLike], rfl⟩ (Nat.le_of_ble_eq_true rfl) (Nat.le_of_ble_eq_true rfl)
    · skip
      refine z_iconst (v := 1) dX10_likeness_22 rfl (by decide) ?_
      refine z_goto (tgt := 27) dX10_likeness_23 rfl (by decide) ?_
      exact z_iret dX10_likeness_27 rfl rfl ⟨by grind [sLike], rfl⟩ (Nat.le_of_ble_eq_true rfl) (Nat.le_of_ble_eq_true rfl)
  · skip
    refine z_iconst (v := 0) dX10_likeness_9 rfl (by decide) ?_
    refine z_goto (tgt := 27) dX10_likeness_10 rfl (by decide) ?_
    exact z_iret dX10_likeness_27 rfl rfl ⟨by grind [sLike], rfl⟩ (Nat.le_of_ble_eq_true rfl) (Nat.le_of_ble_eq_true rfl)

set_option maxHeartbeats 4000000 in
set_option maxRecDepth 100000 in
/-- X10_values -/
theorem r_values (g : zG) (h : zH) (m : Nat) (S : sMS) (at_ s v : Int32) (hat : vp_in at_ 880) : zXv g yX10_values cX10_values 4 none rmX10_values [.ref m, .int at_, .int s, .int v] (mUp m S h) (mUp m (mLay S at_.toNatClampNeg (sVal s v)) h) := by
  refine zM_of (by decide) (Nat.le_of_ble_eq_true rfl) ?_
  refine z_iload_n dX10_values_0 rfl rfl ?_
  refine z_sw10 (fun s1 => ?_) (fun s1 => ?_) (fun s1 => ?_) (fun s1 => ?_) (fun s1 => ?_) (fun s1 => ?_) (fun s1 => ?_) (fun s1 => ?_) (fun s1 => ?_) (fun s1 => ?_) (fun s1 => ?_) (fun s1 => ?_)
  · skip
    refine z_tableOut (tgt := 176) dX10_values_1 rfl (sw_out s1) (by decide) ?_
    first | refine z_aload_n dX10_values_176 rfl rfl ?_ | refine z_aload_nN dX10_values_176 rfl rfl ?_
    refine z_iload_n dX10_values_177 rfl rfl ?_
    refine z_iload_n dX10_values_178 rfl rfl ?_
    refine z_iload_n dX10_values_179 rfl rfl ?_
    refine z_i2l dX10_values_180 rfl ?_
    refine z_dconst0 dX10_values_181 rfl ?_
    refine zcv_X10_84 rfl dX10_values_182 rfl mo_recv (r_lays g h m S _ _ _ _ hat) rfl rfl ⟨(Nat.le_of_ble_eq_true rfl), (Nat.le_of_ble_eq_true rfl)⟩ ⟨(Nat.le_of_ble_eq_true rfl), (Nat.le_of_ble_eq_true rfl)⟩ (Nat.le_of_ble_eq_true rfl) ?_
    exact z_vret dX10_values_185 rfl rfl ⟨rfl, congrArg (fun c => mUp m (mLay S at_.toNatClampNeg c) h) (by grind [sVal, FP.dconst0])⟩ (Nat.le_of_ble_eq_true rfl) (Nat.le_of_ble_eq_true rfl)
  · skip
    refine z_tableIn (off := 59) (tgt := 60) dX10_values_1 rfl (by decide) (by decide) (by decide) (by decide) ?_
    first | refine z_aload_n dX10_values_60 rfl rfl ?_ | refine z_aload_nN dX10_values_60 rfl rfl ?_
    refine z_iload_n dX10_values_61 rfl rfl ?_
    refine z_iload_n dX10_values_62 rfl rfl ?_
    refine z_iload_n dX10_values_63 rfl rfl ?_
    refine z_iconst (v := 1) dX10_values_64 rfl (by decide) ?_
    refine z_iand dX10_values_65 rfl ?_
    refine z_i2l dX10_values_66 rfl ?_
    refine z_dconst0 dX10_values_67 rfl ?_
    refine zcv_X10_84 rfl dX10_values_68 rfl mo_recv (r_lays g h m S _ _ _ _ hat) rfl rfl ⟨(Nat.le_of_ble_eq_true rfl), (Nat.le_of_ble_eq_true rfl)⟩ ⟨(Nat.le_of_ble_eq_true rfl), (Nat.le_of_ble_eq_true rfl)⟩ (Nat.le_of_ble_eq_true rfl) ?_
    refine z_goto (tgt := 185) dX10_values_71 rfl (by decide) ?_
    exact z_vret dX10_values_185 rfl rfl ⟨rfl, congrArg (fun c => mUp m (mLay S at_.toNatClampNeg c) h) (by grind [sVal, FP.dconst0])⟩ (Nat.le_of_ble_eq_true rfl) (Nat.le_of_ble_eq_true rfl)
  · skip
    refine z_tableIn (off := 73) (tgt := 74) dX10_values_1 rfl (by decide) (by decide) (by decide) (by decide) ?_
    first | refine z_aload_n dX10_values_74 rfl rfl ?_ | refine z_aload_nN dX10_values_74 rfl rfl ?_
    refine z_iload_n dX10_values_75 rfl rfl ?_
    refine z_iload_n dX10_values_76 rfl rfl ?_
    refine z_iload_n dX10_values_77 rfl rfl ?_
    refine z_i2b dX10_values_78 rfl ?_
    refine z_i2l dX10_values_79 rfl ?_
    refine z_dconst0 dX10_values_80 rfl ?_
    refine zcv_X10_84 rfl dX10_values_81 rfl mo_recv (r_lays g h m S _ _ _ _ hat) rfl rfl ⟨(Nat.le_of_ble_eq_true rfl), (Nat.le_of_ble_eq_true rfl)⟩ ⟨(Nat.le_of_ble_eq_true rfl), (Nat.le_of_ble_eq_true rfl)⟩ (Nat.le_of_ble_eq_true rfl) ?_
    refine z_goto (tgt := 185) dX10_values_84 rfl (by decide) ?_
    exact z_vret dX10_values_185 rfl rfl ⟨rfl, congrArg (fun c => mUp m (mLay S at_.toNatClampNeg c) h) (by grind [sVal, FP.dconst0])⟩ (Nat.le_of_ble_eq_true rfl) (Nat.le_of_ble_eq_true rfl)
  · skip
    refine z_tableIn (off := 86) (tgt := 87) dX10_values_1 rfl (by decide) (by decide) (by decide) (by decide) ?_
    first | refine z_aload_n dX10_values_87 rfl rfl ?_ | refine z_aload_nN dX10_values_87 rfl rfl ?_
    refine z_iload_n dX10_values_88 rfl rfl ?_
    refine z_iload_n dX10_values_89 rfl rfl ?_
    refine z_iload_n dX10_values_90 rfl rfl ?_
    refine zk_X10_118 rfl dX10_values_91 rfl ?_
    refine z_iand dX10_values_93 rfl ?_
    refine z_i2l dX10_values_94 rfl ?_
    refine z_dconst0 dX10_values_95 rfl ?_
    refine zcv_X10_84 rfl dX10_values_96 rfl mo_recv (r_lays g h m S _ _ _ _ hat) rfl rfl ⟨(Nat.le_of_ble_eq_true rfl), (Nat.le_of_ble_eq_true rfl)⟩ ⟨(Nat.le_of_ble_eq_true rfl), (Nat.le_of_ble_eq_true rfl)⟩ (Nat.le_of_ble_eq_true rfl) ?_
    refine z_goto (tgt := 185) dX10_values_99 rfl (by decide) ?_
    exact z_vret dX10_values_185 rfl rfl ⟨rfl, congrArg (fun c => mUp m (mLay S at_.toNatClampNeg c) h) (by grind [sVal, FP.dconst0])⟩ (Nat.le_of_ble_eq_true rfl) (Nat.le_of_ble_eq_true rfl)
  · skip
    refine z_tableIn (off := 101) (tgt := 102) dX10_values_1 rfl (by decide) (by decide) (by decide) (by decide) ?_
    first | refine z_aload_n dX10_values_102 rfl rfl ?_ | refine z_aload_nN dX10_values_102 rfl rfl ?_
    refine z_iload_n dX10_values_103 rfl rfl ?_
    refine z_iload_n dX10_values_104 rfl rfl ?_
    refine z_iload_n dX10_values_105 rfl rfl ?_
    refine z_i2s dX10_values_106 rfl ?_
    refine z_i2l dX10_values_107 rfl ?_
    refine z_dconst0 dX10_values_108 rfl ?_
    refine zcv_X10_84 rfl dX10_values_109 rfl mo_recv (r_lays g h m S _ _ _ _ hat) rfl rfl ⟨(Nat.le_of_ble_eq_true rfl), (Nat.le_of_ble_eq_true rfl)⟩ ⟨(Nat.le_of_ble_eq_true rfl), (Nat.le_of_ble_eq_true rfl)⟩ (Nat.le_of_ble_eq_true rfl) ?_
    refine z_goto (tgt := 185) dX10_values_112 rfl (by decide) ?_
    exact z_vret dX10_values_185 rfl rfl ⟨rfl, congrArg (fun c => mUp m (mLay S at_.toNatClampNeg c) h) (by grind [sVal, FP.dconst0])⟩ (Nat.le_of_ble_eq_true rfl) (Nat.le_of_ble_eq_true rfl)
  · skip
    refine z_tableIn (off := 175) (tgt := 176) dX10_values_1 rfl (by decide) (by decide) (by decide) (by decide) ?_
    first | refine z_aload_n dX10_values_176 rfl rfl ?_ | refine z_aload_nN dX10_values_176 rfl rfl ?_
    refine z_iload_n dX10_values_177 rfl rfl ?_
    refine z_iload_n dX10_values_178 rfl rfl ?_
    refine z_iload_n dX10_values_179 rfl rfl ?_
    refine z_i2l dX10_values_180 rfl ?_
    refine z_dconst0 dX10_values_181 rfl ?_
    refine zcv_X10_84 rfl dX10_values_182 rfl mo_recv (r_lays g h m S _ _ _ _ hat) rfl rfl ⟨(Nat.le_of_ble_eq_true rfl), (Nat.le_of_ble_eq_true rfl)⟩ ⟨(Nat.le_of_ble_eq_true rfl), (Nat.le_of_ble_eq_true rfl)⟩ (Nat.le_of_ble_eq_true rfl) ?_
    exact z_vret dX10_values_185 rfl rfl ⟨rfl, congrArg (fun c => mUp m (mLay S at_.toNatClampNeg c) h) (by grind [sVal, FP.dconst0])⟩ (Nat.le_of_ble_eq_true rfl) (Nat.le_of_ble_eq_true rfl)
  · skip
    refine z_tableIn (off := 175) (tgt := 176) dX10_values_1 rfl (by decide) (by decide) (by decide) (by decide) ?_
    first | refine z_aload_n dX10_values_176 rfl rfl ?_ | refine z_aload_nN dX10_values_176 rfl rfl ?_
    refine z_iload_n dX10_values_177 rfl rfl ?_
    refine z_iload_n dX10_values_178 rfl rfl ?_
    refine z_iload_n dX10_values_179 rfl rfl ?_
    refine z_i2l dX10_values_180 rfl ?_
    refine z_dconst0 dX10_values_181 rfl ?_
    refine zcv_X10_84 rfl dX10_values_182 rfl mo_recv (r_lays g h m S _ _ _ _ hat) rfl rfl ⟨(Nat.le_of_ble_eq_true rfl), (Nat.le_of_ble_eq_true rfl)⟩ ⟨(Nat.le_of_ble_eq_true rfl), (Nat.le_of_ble_eq_true rfl)⟩ (Nat.le_of_ble_eq_true rfl) ?_
    exact z_vret dX10_values_185 rfl rfl ⟨rfl, congrArg (fun c => mUp m (mLay S at_.toNatClampNeg c) h) (by grind [sVal, FP.dconst0])⟩ (Nat.le_of_ble_eq_true rfl) (Nat.le_of_ble_eq_true rfl)
  · skip
    refine z_tableIn (off := 114) (tgt := 115) dX10_values_1 rfl (by decide) (by decide) (by decide) (by decide) ?_
    first | refine z_aload_n dX10_values_115 rfl rfl ?_ | refine z_aload_nN dX10_values_115 rfl rfl ?_
    refine z_iload_n dX10_values_116 rfl rfl ?_
    refine z_iload_n dX10_values_117 rfl rfl ?_
    refine z_lconst (v := 0) dX10_values_118 rfl (by decide) ?_
    refine z_iload_n dX10_values_119 rfl rfl ?_
    refine z_i2f dX10_values_120 rfl ?_
    refine zk_X10_119 rfl dX10_values_121 rfl ?_
    refine z_fmul dX10_values_123 rfl (fpS_n (okS_val _).1) ?_
    refine z_f2d dX10_values_124 rfl (fpD_n (okS_f2d (okS_val _)).1) ?_
    refine zcv_X10_84 rfl dX10_values_125 rfl mo_recv (r_lays g h m S _ _ _ _ hat) rfl rfl ⟨(Nat.le_of_ble_eq_true rfl), (Nat.le_of_ble_eq_true rfl)⟩ ⟨(Nat.le_of_ble_eq_true rfl), (Nat.le_of_ble_eq_true rfl)⟩ (Nat.le_of_ble_eq_true rfl) ?_
    refine z_goto (tgt := 185) dX10_values_128 rfl (by decide) ?_
    exact z_vret dX10_values_185 rfl rfl ⟨rfl, congrArg (fun c => mUp m (mLay S at_.toNatClampNeg c) h) (by grind [sVal, FP.dconst0])⟩ (Nat.le_of_ble_eq_true rfl) (Nat.le_of_ble_eq_true rfl)
  · skip
    refine z_tableIn (off := 130) (tgt := 131) dX10_values_1 rfl (by decide) (by decide) (by decide) (by decide) ?_
    first | refine z_aload_n dX10_values_131 rfl rfl ?_ | refine z_aload_nN dX10_values_131 rfl rfl ?_
    refine z_iload_n dX10_values_132 rfl rfl ?_
    refine z_iload_n dX10_values_133 rfl rfl ?_
    refine z_lconst (v := 0) dX10_values_134 rfl (by decide) ?_
    refine z_iload_n dX10_values_135 rfl rfl ?_
    refine z_i2d dX10_values_136 rfl ?_
    refine zk_X10_120 rfl dX10_values_137 rfl ?_
    refine z_dmul dX10_values_140 rfl (fpD_n (okD_val _).1) ?_
    refine zcv_X10_84 rfl dX10_values_141 rfl mo_recv (r_lays g h m S _ _ _ _ hat) rfl rfl ⟨(Nat.le_of_ble_eq_true rfl), (Nat.le_of_ble_eq_true rfl)⟩ ⟨(Nat.le_of_ble_eq_true rfl), (Nat.le_of_ble_eq_true rfl)⟩ (Nat.le_of_ble_eq_true rfl) ?_
    refine z_goto (tgt := 185) dX10_values_144 rfl (by decide) ?_
    exact z_vret dX10_values_185 rfl rfl ⟨rfl, congrArg (fun c => mUp m (mLay S at_.toNatClampNeg c) h) (by grind [sVal, FP.dconst0])⟩ (Nat.le_of_ble_eq_true rfl) (Nat.le_of_ble_eq_true rfl)
  · skip
    refine z_tableIn (off := 175) (tgt := 176) dX10_values_1 rfl (by decide) (by decide) (by decide) (by decide) ?_
    first | refine z_aload_n dX10_values_176 rfl rfl ?_ | refine z_aload_nN dX10_values_176 rfl rfl ?_
    refine z_iload_n dX10_values_177 rfl rfl ?_
    refine z_iload_n dX10_values_178 rfl rfl ?_
    refine z_iload_n dX10_values_179 rfl rfl ?_
    refine z_i2l dX10_values_180 rfl ?_
    refine z_dconst0 dX10_values_181 rfl ?_
    refine zcv_X10_84 rfl dX10_values_182 rfl mo_recv (r_lays g h m S _ _ _ _ hat) rfl rfl ⟨(Nat.le_of_ble_eq_true rfl), (Nat.le_of_ble_eq_true rfl)⟩ ⟨(Nat.le_of_ble_eq_true rfl), (Nat.le_of_ble_eq_true rfl)⟩ (Nat.le_of_ble_eq_true rfl) ?_
    exact z_vret dX10_values_185 rfl rfl ⟨rfl, congrArg (fun c => mUp m (mLay S at_.toNatClampNeg c) h) (by grind [sVal, FP.dconst0])⟩ (Nat.le_of_ble_eq_true rfl) (Nat.le_of_ble_eq_true rfl)
  · skip
    refine z_tableIn (off := 146) (tgt := 147) dX10_values_1 rfl (by decide) (by decide) (by decide) (by decide) ?_
    first | refine z_aload_n dX10_values_147 rfl rfl ?_ | refine z_aload_nN dX10_values_147 rfl rfl ?_
    refine z_iload_n dX10_values_148 rfl rfl ?_
    refine z_iload_n dX10_values_149 rfl rfl ?_
    refine z_lconst (v := 0) dX10_values_150 rfl (by decide) ?_
    refine z_dconst0 dX10_values_151 rfl ?_
    refine zcv_X10_84 rfl dX10_values_152 rfl mo_recv (r_lays g h m S _ _ _ _ hat) rfl rfl ⟨(Nat.le_of_ble_eq_true rfl), (Nat.le_of_ble_eq_true rfl)⟩ ⟨(Nat.le_of_ble_eq_true rfl), (Nat.le_of_ble_eq_true rfl)⟩ (Nat.le_of_ble_eq_true rfl) ?_
    refine z_goto (tgt := 185) dX10_values_155 rfl (by decide) ?_
    exact z_vret dX10_values_185 rfl rfl ⟨rfl, congrArg (fun c => mUp m (mLay S at_.toNatClampNeg c) h) (by grind [sVal, FP.dconst0])⟩ (Nat.le_of_ble_eq_true rfl) (Nat.le_of_ble_eq_true rfl)
  · skip
    refine z_tableIn (off := 157) (tgt := 158) dX10_values_1 rfl (by decide) (by decide) (by decide) (by decide) ?_
    first | refine z_aload_n dX10_values_158 rfl rfl ?_ | refine z_aload_nN dX10_values_158 rfl rfl ?_
    refine z_iload_n dX10_values_159 rfl rfl ?_
    refine z_iload_n dX10_values_160 rfl rfl ?_
    refine z_iload_n dX10_values_161 rfl rfl ?_
    refine z_iconst (v := 5) dX10_values_162 rfl (by decide) ?_
    refine z_irem dX10_values_163 rfl (by decide) ?_
    refine z_iconst (v := 5) dX10_values_164 rfl (by decide) ?_
    refine z_iadd dX10_values_165 rfl ?_
    refine z_iconst (v := 5) dX10_values_166 rfl (by decide) ?_
    refine z_irem dX10_values_167 rfl (by decide) ?_
    refine z_i2l dX10_values_168 rfl ?_
    refine z_dconst0 dX10_values_169 rfl ?_
    refine zcv_X10_84 rfl dX10_values_170 rfl mo_recv (r_lays g h m S _ _ _ _ hat) rfl rfl ⟨(Nat.le_of_ble_eq_true rfl), (Nat.le_of_ble_eq_true rfl)⟩ ⟨(Nat.le_of_ble_eq_true rfl), (Nat.le_of_ble_eq_true rfl)⟩ (Nat.le_of_ble_eq_true rfl) ?_
    refine z_goto (tgt := 185) dX10_values_173 rfl (by decide) ?_
    exact z_vret dX10_values_185 rfl rfl ⟨rfl, congrArg (fun c => mUp m (mLay S at_.toNatClampNeg c) h) (by grind [sVal, FP.dconst0])⟩ (Nat.le_of_ble_eq_true rfl) (Nat.le_of_ble_eq_true rfl)

/-- of a record: its hold; the fault of a record as a row -/
def mRF (S : sMS) (r : Int32) : Int32 := if S.1 6 r.toNatClampNeg = -1 then 1 else if S.1 6 r.toNatClampNeg = -2 then 2 else 0
def mCF (S : sMS) (r : Int32) (i : Int64) : Int32 := if 0 < mRF S r then mRF S r else if 0 ≤ i ∧ i ≤ (S.1 5 (S.1 6 r.toNatClampNeg).toNatClampNeg - 1).toInt64 then 0 else 3
/-- every record holds nothing, a tag, or one of the rows 0 to 7 -/
def mHolds (S : sMS) : Prop := ∀ r : Nat, r < 8 → S.1 6 r = -1 ∨ S.1 6 r = -2 ∨ ∃ k : Nat, k < 8 ∧ S.1 6 r = nI k
theorem in_lt {r : Int32} {n : Nat} (h : vp_in r n) : r.toNatClampNeg < n := Nat.not_le.mp fun q => h (Or.inr q)
theorem mRF_0 {S : sMS} (hH : mHolds S) {r : Int32} (hr : vp_in r 8) (h : ¬ 0 < mRF S r) : ∃ k : Nat, k < 8 ∧ S.1 6 r.toNatClampNeg = nI k := by
  rcases hH _ (in_lt hr) with q | q | q
  · unfold mRF at h; rw [q] at h; exact absurd (by decide) h
  · unfold mRF at h; rw [q] at h; exact absurd (by decide) h
  · exact q
theorem mRF_in {S : sMS} (hH : mHolds S) {r : Int32} (hr : vp_in r 8) (h : ¬ 0 < mRF S r) : vp_in (S.1 6 r.toNatClampNeg) 27 := by
  obtain ⟨k, h1, h2⟩ := mRF_0 hH hr h
  rw [h2]
  exact vp_in_nI (by omega) (by decide)

set_option maxHeartbeats 4000000 in
set_option maxRecDepth 100000 in
/-- X10_rowFault -/
theorem r_rowFault (g : zG) (h : zH) (m : Nat) (S : sMS) (r : Int32) (hr : vp_in r 8) : zX g yX10_rowFault cX10_rowFault 2 (some .int) rmX10_rowFault [.ref m, .int r] (mUp m S h) (.int (mRF S r)) (mUp m S h) := by
  refine zM_of (by decide) (Nat.le_of_ble_eq_true rfl) ?_
  first | refine z_aload_n dX10_rowFault_0 rfl rfl ?_ | refine z_aload_nN dX10_rowFault_0 rfl rfl ?_
  refine zmg_27 rfl dX10_rowFault_1 rfl ?_
  refine z_iload_n dX10_rowFault_4 rfl rfl ?_
  refine zm_iald dX10_rowFault_5 rfl rfl hr ?_
  refine z_iconst (v := -1) dX10_rowFault_6 rfl (by decide) ?_
  refine z_icmp_ne (tgt := 14) dX10_rowFault_7 rfl (by decide) (fun c7 => ?_) (fun c7 => ?_)
  · skip
    first | refine z_aload_n dX10_rowFault_14 rfl rfl ?_ | refine z_aload_nN dX10_rowFault_14 rfl rfl ?_
    refine zmg_27 rfl dX10_rowFault_15 rfl ?_
    refine z_iload_n dX10_rowFault_18 rfl rfl ?_
    refine zm_iald dX10_rowFault_19 rfl rfl hr ?_
    refine z_bipush (v := -2) dX10_rowFault_20 rfl (by decide) ?_
    refine z_icmp_ne (tgt := 29) dX10_rowFault_22 rfl (by decide) (fun c22 => ?_) (fun c22 => ?_)
    · skip
      refine z_iconst (v := 0) dX10_rowFault_29 rfl (by decide) ?_
      exact z_iret dX10_rowFault_30 rfl rfl ⟨by grind [mRF], rfl⟩ (Nat.le_of_ble_eq_true rfl) (Nat.le_of_ble_eq_true rfl)
    · skip
      refine z_iconst (v := 2) dX10_rowFault_25 rfl (by decide) ?_
      refine z_goto (tgt := 30) dX10_rowFault_26 rfl (by decide) ?_
      exact z_iret dX10_rowFault_30 rfl rfl ⟨by grind [mRF], rfl⟩ (Nat.le_of_ble_eq_true rfl) (Nat.le_of_ble_eq_true rfl)
  · skip
    refine z_iconst (v := 1) dX10_rowFault_10 rfl (by decide) ?_
    refine z_goto (tgt := 30) dX10_rowFault_11 rfl (by decide) ?_
    exact z_iret dX10_rowFault_30 rfl rfl ⟨by grind [mRF], rfl⟩ (Nat.le_of_ble_eq_true rfl) (Nat.le_of_ble_eq_true rfl)

set_option maxHeartbeats 4000000 in
set_option maxRecDepth 100000 in
/-- X10_cellFault -/
theorem r_cellFault (g : zG) (h : zH) (m : Nat) (S : sMS) (r : Int32) (i : Int64) (hr : vp_in r 8) (hH : mHolds S) : zX g yX10_cellFault cX10_cellFault 5 (some .int) rmX10_cellFault [.ref m, .int r, .long i] (mUp m S h) (.int (mCF S r i)) (mUp m S h) := by
  refine zM_of (by decide) (Nat.le_of_ble_eq_true rfl) ?_
  first | refine z_aload_n dX10_cellFault_0 rfl rfl ?_ | refine z_aload_nN dX10_cellFault_0 rfl rfl ?_
  refine z_iload_n dX10_cellFault_1 rfl rfl ?_
  refine zcx_X10_124 rfl dX10_cellFault_2 rfl mo_recv (r_rowFault g h m S _ hr) rfl rfl ⟨(Nat.le_of_ble_eq_true rfl), (Nat.le_of_ble_eq_true rfl)⟩ ⟨(Nat.le_of_ble_eq_true rfl), (Nat.le_of_ble_eq_true rfl)⟩ (Nat.le_of_ble_eq_true rfl) ?_
  refine z_istore dX10_cellFault_5 rfl (Nat.le_of_ble_eq_true rfl) ?_
  refine z_iload dX10_cellFault_7 rfl rfl ?_
  refine z_if_le (tgt := 17) dX10_cellFault_9 rfl (by decide) (fun c9 => ?_) (fun c9 => ?_)
  · skip
    refine z_lload_n dX10_cellFault_17 rfl rfl ?_
    refine z_lconst (v := 0) dX10_cellFault_18 rfl (by decide) ?_
    first | refine z_aload_n dX10_cellFault_19 rfl rfl ?_ | refine z_aload_nN dX10_cellFault_19 rfl rfl ?_
    refine zmg_24 rfl dX10_cellFault_20 rfl ?_
    first | refine z_aload_n dX10_cellFault_23 rfl rfl ?_ | refine z_aload_nN dX10_cellFault_23 rfl rfl ?_
    refine zmg_27 rfl dX10_cellFault_24 rfl ?_
    refine z_iload_n dX10_cellFault_27 rfl rfl ?_
    refine zm_iald dX10_cellFault_28 rfl rfl hr ?_
    refine zm_iald dX10_cellFault_29 rfl rfl (mRF_in hH hr (by grind)) ?_
    refine z_iconst (v := 1) dX10_cellFault_30 rfl (by decide) ?_
    refine z_isub dX10_cellFault_31 rfl ?_
    refine z_i2l dX10_cellFault_32 rfl ?_
    refine zcx_X10_72 rfl dX10_cellFault_33 rfl (r_in g _ _ _ _) rfl rfl ⟨(Nat.le_of_ble_eq_true rfl), (Nat.le_of_ble_eq_true rfl)⟩ ⟨(Nat.le_of_ble_eq_true rfl), (Nat.le_of_ble_eq_true rfl)⟩ (Nat.le_of_ble_eq_true rfl) ?_
    refine z_bif_eq (tgt := 43) dX10_cellFault_36 rfl (by decide) (fun c36 => ?_) (fun c36 => ?_)
    · skip
      refine z_iconst (v := 3) dX10_cellFault_43 rfl (by decide) ?_
      exact z_iret dX10_cellFault_44 rfl rfl ⟨by grind [mCF], rfl⟩ (Nat.le_of_ble_eq_true rfl) (Nat.le_of_ble_eq_true rfl)
    · skip
      refine z_iconst (v := 0) dX10_cellFault_39 rfl (by decide) ?_
      refine z_goto (tgt := 44) dX10_cellFault_40 rfl (by decide) ?_
      exact z_iret dX10_cellFault_44 rfl rfl ⟨by grind [mCF], rfl⟩ (Nat.le_of_ble_eq_true rfl) (Nat.le_of_ble_eq_true rfl)
  · skip
    refine z_iload dX10_cellFault_12 rfl rfl ?_
    refine z_goto (tgt := 44) dX10_cellFault_14 rfl (by decide) ?_
    exact z_iret dX10_cellFault_44 rfl rfl ⟨by grind [mCF], rfl⟩ (Nat.le_of_ble_eq_true rfl) (Nat.le_of_ble_eq_true rfl)

set_option maxHeartbeats 4000000 in
set_option maxRecDepth 100000 in
/-- X10_cellAt -/
theorem r_cellAt (g : zG) (h : zH) (m : Nat) (S : sMS) (r i : Int32) (hr : vp_in r 8) : zX g yX10_cellAt cX10_cellAt 3 (some .int) rmX10_cellAt [.ref m, .int r, .int i] (mUp m S h) (.int (20 * S.1 6 r.toNatClampNeg + i)) (mUp m S h) := by
  refine zM_of (by decide) (Nat.le_of_ble_eq_true rfl) ?_
  refine z_bipush (v := 20) dX10_cellAt_0 rfl (by decide) ?_
  first | refine z_aload_n dX10_cellAt_2 rfl rfl ?_ | refine z_aload_nN dX10_cellAt_2 rfl rfl ?_
  refine zmg_27 rfl dX10_cellAt_3 rfl ?_
  refine z_iload_n dX10_cellAt_6 rfl rfl ?_
  refine zm_iald dX10_cellAt_7 rfl rfl hr ?_
  refine z_imul dX10_cellAt_8 rfl ?_
  refine z_iload_n dX10_cellAt_9 rfl rfl ?_
  refine z_iadd dX10_cellAt_10 rfl ?_
  exact z_iret dX10_cellAt_11 rfl rfl ⟨rfl, rfl⟩ (Nat.le_of_ble_eq_true rfl) (Nat.le_of_ble_eq_true rfl)

set_option maxHeartbeats 4000000 in
set_option maxRecDepth 100000 in
/-- X10_kindOf -/
theorem r_kindOf (g : zG) (h : zH) (m : Nat) (S : sMS) (r : Int32) (hr : vp_in r 8) (hk : vp_in (S.1 6 r.toNatClampNeg) 27) : zX g yX10_kindOf cX10_kindOf 2 (some .int) rmX10_kindOf [.ref m, .int r] (mUp m S h) (.int (S.1 4 (S.1 6 r.toNatClampNeg).toNatClampNeg)) (mUp m S h) := by
  refine zM_of (by decide) (Nat.le_of_ble_eq_true rfl) ?_
  first | refine z_aload_n dX10_kindOf_0 rfl rfl ?_ | refine z_aload_nN dX10_kindOf_0 rfl rfl ?_
  refine zmg_21 rfl dX10_kindOf_1 rfl ?_
  first | refine z_aload_n dX10_kindOf_4 rfl rfl ?_ | refine z_aload_nN dX10_kindOf_4 rfl rfl ?_
  refine zmg_27 rfl dX10_kindOf_5 rfl ?_
  refine z_iload_n dX10_kindOf_8 rfl rfl ?_
  refine zm_iald dX10_kindOf_9 rfl rfl (by assumption) ?_
  refine zm_iald dX10_kindOf_10 rfl rfl (by assumption) ?_
  exact z_iret dX10_kindOf_11 rfl rfl ⟨rfl, rfl⟩ (Nat.le_of_ble_eq_true rfl) (Nat.le_of_ble_eq_true rfl)

set_option maxHeartbeats 4000000 in
set_option maxRecDepth 100000 in
/-- X10_sizeOf -/
theorem r_sizeOf (g : zG) (h : zH) (m : Nat) (S : sMS) (r : Int32) (hr : vp_in r 8) (hk : vp_in (S.1 6 r.toNatClampNeg) 27) : zX g yX10_sizeOf cX10_sizeOf 2 (some .int) rmX10_sizeOf [.ref m, .int r] (mUp m S h) (.int (S.1 5 (S.1 6 r.toNatClampNeg).toNatClampNeg)) (mUp m S h) := by
  refine zM_of (by decide) (Nat.le_of_ble_eq_true rfl) ?_
  first | refine z_aload_n dX10_sizeOf_0 rfl rfl ?_ | refine z_aload_nN dX10_sizeOf_0 rfl rfl ?_
  refine zmg_24 rfl dX10_sizeOf_1 rfl ?_
  first | refine z_aload_n dX10_sizeOf_4 rfl rfl ?_ | refine z_aload_nN dX10_sizeOf_4 rfl rfl ?_
  refine zmg_27 rfl dX10_sizeOf_5 rfl ?_
  refine z_iload_n dX10_sizeOf_8 rfl rfl ?_
  refine zm_iald dX10_sizeOf_9 rfl rfl (by assumption) ?_
  refine zm_iald dX10_sizeOf_10 rfl rfl (by assumption) ?_
  exact z_iret dX10_sizeOf_11 rfl rfl ⟨rfl, rfl⟩ (Nat.le_of_ble_eq_true rfl) (Nat.le_of_ble_eq_true rfl)

