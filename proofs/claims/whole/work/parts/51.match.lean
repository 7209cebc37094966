theorem sJo_n {a b : Int32} (h : ¬ sJoin a b = -4) : sJo a b = sJoin a b := if_neg h
theorem sJo_m {a b : Int32} : sJo a b = -1 ↔ sJoin a b = -4 := by
  unfold sJo
  by_cases h : sJoin a b = -4
  · rw [if_pos h]; exact ⟨fun _ => h, fun _ => rfl⟩
  · rw [if_neg h]
    have := (sJoin_into h).1.1
    constructor
    · intro q; rw [q] at this; exact absurd this (by decide)
    · intro q; exact absurd q h
theorem vd_obj {c d : sC} {tol : Int32} (hc : sOk c) (hd : sOk d) (h : 7 < c.1 ∨ 7 < d.1) : sLike c d tol = if c.1 = d.1 ∧ c.2.1 = d.2.1 then 0 else 2 := by
  have hj : sJoin c.1 d.1 = -4 := by
    refine if_neg ?_
    rintro ⟨a, b⟩
    rcases h with h | h
    · exact absurd a.2 (by grind)
    · exact absurd b.2 (by grind)
  have hn : sNear c d tol = false := by
    unfold sNear
    rw [if_pos (Or.inl (by rw [hj]; decide))]
  unfold sLike
  rw [hn]
  unfold sAlike
  rw [if_pos hj]
  have h9c := hc.2.2.2.2.2.2
  have h9d := hd.2.2.2.2.2.2
  by_cases e : c.1 = d.1 ∧ c.2.1 = d.2.1
  · rw [if_pos e, if_pos (by rw [decide_eq_true_eq]; exact ⟨fun z => by have := z.2; grind, e.1, Or.inr e.2⟩)]
  · rw [if_neg e, if_neg (by rw [decide_eq_true_eq]; rintro ⟨-, e1, e2⟩; exact e ⟨e1, by rcases e2 with e2 | e2; rw [h9c e2, h9d (e1 ▸ e2)]; exact e2⟩), if_neg Bool.false_ne_true]
theorem vd_none {c d : sC} {tol : Int32} (hc : sNum c.1) (h : sJoin c.1 d.1 = -4) : sLike c d tol = 2 := by
  unfold sLike sNear sAlike
  rw [if_pos h, if_neg (by rw [decide_eq_true_eq]; exact fun z => z.1 hc), if_pos (Or.inl (by rw [h]; decide)), if_neg Bool.false_ne_true]
theorem vd_real {c d : sC} {tol : Int32} (h : ¬ sJoin c.1 d.1 = -4) (h6 : 6 ≤ sJoin c.1 d.1) : sLike c d tol = if FP.dcmp (sReal c (sJoin c.1 d.1)) (sReal d (sJoin c.1 d.1)) = some .eq then 0 else if ¬ FP.dcmp (sFar (sReal c (sJoin c.1 d.1)) (sReal d (sJoin c.1 d.1))) (FP.i2d tol) = some .gt then 1 else 2 := by
  have ha : sAlike c d = decide (FP.dcmp (sReal c (sJoin c.1 d.1)) (sReal d (sJoin c.1 d.1)) = some .eq) := by unfold sAlike; rw [if_neg h, if_pos h6]
  unfold sLike
  rw [ha]
  by_cases e : FP.dcmp (sReal c (sJoin c.1 d.1)) (sReal d (sJoin c.1 d.1)) = some .eq
  · rw [if_pos (decide_eq_true e), if_pos e]
  · rw [if_neg (by rw [decide_eq_true_eq]; exact e), if_neg e]
    have hn : sNear c d tol = decide (¬ FP.dcmp (sFar (sReal c (sJoin c.1 d.1)) (sReal d (sJoin c.1 d.1))) (FP.i2d tol) = some .gt) := by
      unfold sNear
      rw [if_neg (show ¬ (sJoin c.1 d.1 < 1 ∨ sAlike c d = true) from by rw [ha, decide_eq_true_eq]; rintro (z | z); exact absurd z (by grind); exact e z), if_pos h6]
    rw [hn]
    simp only [decide_eq_true_eq]
theorem vd_whole {c d : sC} {tol : Int32} (h : ¬ sJoin c.1 d.1 = -4) (h6 : ¬ 6 ≤ sJoin c.1 d.1) : sLike c d tol = if c.2.1 = d.2.1 then 0 else if sJoin c.1 d.1 ≠ 0 ∧ (0 ≤ (if c.2.1 < d.2.1 then d.2.1 - c.2.1 else c.2.1 - d.2.1) ∧ (if c.2.1 < d.2.1 then d.2.1 - c.2.1 else c.2.1 - d.2.1) ≤ tol.toInt64) then 1 else 2 := by
  have ha : sAlike c d = decide (c.2.1 = d.2.1) := by unfold sAlike; rw [if_neg h, if_neg h6]
  have h0 := (sJoin_into h).1.1
  unfold sLike
  rw [ha]
  by_cases e : c.2.1 = d.2.1
  · rw [if_pos (decide_eq_true e), if_pos e]
  · rw [if_neg (by rw [decide_eq_true_eq]; exact e), if_neg e]
    unfold sNear
    by_cases e0 : sJoin c.1 d.1 = 0
    · rw [if_pos (Or.inl (by rw [e0]; decide)), if_neg Bool.false_ne_true, if_neg (fun z => z.1 e0)]
    · rw [show (if sJoin c.1 d.1 < 1 ∨ sAlike c d = true then false else if 6 ≤ sJoin c.1 d.1 then decide (¬ FP.dcmp (sFar (sReal c (sJoin c.1 d.1)) (sReal d (sJoin c.1 d.1))) (FP.i2d tol) = some .gt) else decide (0 ≤ sFarL c.2.1 d.2.1 ∧ sFarL c.2.1 d.2.1 ≤ tol.toInt64)) = decide (0 ≤ sFarL c.2.1 d.2.1 ∧ sFarL c.2.1 d.2.1 ≤ tol.toInt64) from by rw [if_neg (show ¬ (sJoin c.1 d.1 < 1 ∨ sAlike c d = true) from by rw [ha, decide_eq_true_eq]; rintro (z | z); exact e0 (by grind); exact e z), if_neg h6]]
      have ef : sFarL c.2.1 d.2.1 = (if c.2.1 < d.2.1 then d.2.1 - c.2.1 else c.2.1 - d.2.1) := by unfold sFarL; grind
      rw [ef]
      simp only [decide_eq_true_eq]
      by_cases q : 0 ≤ (if c.2.1 < d.2.1 then d.2.1 - c.2.1 else c.2.1 - d.2.1) ∧ (if c.2.1 < d.2.1 then d.2.1 - c.2.1 else c.2.1 - d.2.1) ≤ tol.toInt64
      · rw [if_pos q, if_pos ⟨e0, q⟩]
      · rw [if_neg q, if_neg (fun z => q z.2)]
theorem sLike_0 {c d : sC} {t : Int32} : sLike c d t = 0 ↔ sAlike c d = true := by
  unfold sLike
  constructor
  · intro h
    split at h
    · assumption
    · split at h <;> exact absurd h (by decide)
  · intro h; rw [if_pos h]

set_option maxHeartbeats 4000000 in
set_option maxRecDepth 100000 in
/-- X6_verdict -/
theorem m_verdict (g : zG) (h : zH) (a : Nat) (ka : Int32) (na : Nat) (ca : Nat → sC) (hA : cAt h a ka na ca) (hna : na ≤ 40) (i : Nat) (hi : i < na) (b : Nat) (kb : Int32) (nb : Nat) (cb : Nat → sC) (hB : cAt h b kb nb cb) (hnb : nb ≤ 40) (j : Nat) (hj : j < nb) (oa : sOk (ca i)) (ob : sOk (cb j)) (tol : Int32) : zX g yX6_verdict cX6_verdict 8 (some .int) rmX6_verdict [.ref a, .int (nI i), .ref b, .int (nI j), .int tol] h (.int (sLike (ca i) (cb j) tol)) h := by
  refine zM_of (by decide) (Nat.le_of_ble_eq_true rfl) ?_
  have hA0 := hA
  have hB0 := hB
  obtain ⟨A0, A1, A2, A3⟩ := hA0
  obtain ⟨B0, B1, B2, B3⟩ := hB0
  first | refine z_aload_n dX6_verdict_0 rfl rfl ?_ | refine z_aload_nN dX6_verdict_0 rfl rfl ?_
  refine zg_X6_9 rfl dX6_verdict_1 rfl (by assumption) rfl ?_
  refine z_iload_n dX6_verdict_4 rfl rfl ?_
  refine z_iald dX6_verdict_5 rfl (by assumption) (vp_in_nI (by omega) (by omega)) ?_
  rw [nI_clamp (show i < 2 ^ 31 by omega)]
  refine z_istore dX6_verdict_6 rfl (Nat.le_of_ble_eq_true rfl) ?_
  first | refine z_aload_n dX6_verdict_8 rfl rfl ?_ | refine z_aload_nN dX6_verdict_8 rfl rfl ?_
  refine zg_X6_9 rfl dX6_verdict_9 rfl (by assumption) rfl ?_
  refine z_iload_n dX6_verdict_12 rfl rfl ?_
  refine z_iald dX6_verdict_13 rfl (by assumption) (vp_in_nI (by omega) (by omega)) ?_
  rw [nI_clamp (show j < 2 ^ 31 by omega)]
  refine z_istore dX6_verdict_14 rfl (Nat.le_of_ble_eq_true rfl) ?_
  refine z_iload dX6_verdict_16 rfl rfl ?_
  refine z_bipush (v := 7) dX6_verdict_18 rfl (by decide) ?_
  refine z_icmp_gt (tgt := 30) dX6_verdict_20 rfl (by decide) (fun c20 => ?_) (fun c20 => ?_)
  · skip
    refine z_iload dX6_verdict_30 rfl rfl ?_
    refine z_iload dX6_verdict_32 rfl rfl ?_
    refine z_icmp_ne (tgt := 57) dX6_verdict_34 rfl (by decide) (fun c34 => ?_) (fun c34 => ?_)
    · skip
      refine z_iconst (v := 2) dX6_verdict_57 rfl (by decide) ?_
      exact z_iret dX6_verdict_58 rfl rfl ⟨by rw [vd_obj oa ob (by grind)]; grind, rfl⟩ (Nat.le_of_ble_eq_true rfl) (Nat.le_of_ble_eq_true rfl)
    · skip
      first | refine z_aload_n dX6_verdict_37 rfl rfl ?_ | refine z_aload_nN dX6_verdict_37 rfl rfl ?_
      refine zg_X6_15 rfl dX6_verdict_38 rfl (by assumption) rfl ?_
      refine z_iload_n dX6_verdict_41 rfl rfl ?_
      refine z_lald dX6_verdict_42 rfl (by assumption) (vp_in_nI (by omega) (by omega)) ?_
      rw [nI_clamp (show i < 2 ^ 31 by omega)]
      first | refine z_aload_n dX6_verdict_43 rfl rfl ?_ | refine z_aload_nN dX6_verdict_43 rfl rfl ?_
      refine zg_X6_15 rfl dX6_verdict_44 rfl (by assumption) rfl ?_
      refine z_iload_n dX6_verdict_47 rfl rfl ?_
      refine z_lald dX6_verdict_48 rfl (by assumption) (vp_in_nI (by omega) (by omega)) ?_
      rw [nI_clamp (show j < 2 ^ 31 by omega)]
      refine z_lc_ne (tgt := 57) dX6_verdict_49 rfl dX6_verdict_50 (by decide) (fun c49 => ?_) (fun c49 => ?_)
      · skip
        refine z_iconst (v := 2) dX6_verdict_57 rfl (by decide) ?_
        exact z_iret dX6_verdict_58 rfl rfl ⟨by rw [vd_obj oa ob (by grind)]; grind, rfl⟩ (Nat.le_of_ble_eq_true rfl) (Nat.le_of_ble_eq_true rfl)
      · skip
        refine z_iconst (v := 0) dX6_verdict_53 rfl (by decide) ?_
        refine z_goto (tgt := 58) dX6_verdict_54 rfl (by decide) ?_
        exact z_iret dX6_verdict_58 rfl rfl ⟨by rw [vd_obj oa ob (by grind)]; grind, rfl⟩ (Nat.le_of_ble_eq_true rfl) (Nat.le_of_ble_eq_true rfl)
  · skip
    refine z_iload dX6_verdict_23 rfl rfl ?_
    refine z_bipush (v := 7) dX6_verdict_25 rfl (by decide) ?_
    refine z_icmp_le (tgt := 59) dX6_verdict_27 rfl (by decide) (fun c27 => ?_) (fun c27 => ?_)
    · skip
      have hsa : sNum (ca i).1 := ⟨oa.1, by grind⟩
      have hsb : sNum (cb j).1 := ⟨ob.1, by grind⟩
      refine z_iload dX6_verdict_59 rfl rfl ?_
      refine z_iload dX6_verdict_61 rfl rfl ?_
      refine zcx_X6_19 rfl dX6_verdict_63 rfl (m_joined g h _ _ hsa hsb) rfl rfl ⟨(Nat.le_of_ble_eq_true rfl), (Nat.le_of_ble_eq_true rfl)⟩ ⟨(Nat.le_of_ble_eq_true rfl), (Nat.le_of_ble_eq_true rfl)⟩ (Nat.le_of_ble_eq_true rfl) ?_
      refine z_istore dX6_verdict_66 rfl (Nat.le_of_ble_eq_true rfl) ?_
      refine z_iload dX6_verdict_68 rfl rfl ?_
      refine z_iconst (v := -1) dX6_verdict_70 rfl (by decide) ?_
      refine z_icmp_ne (tgt := 76) dX6_verdict_71 rfl (by decide) (fun c71 => ?_) (fun c71 => ?_)
      · skip
        have hJ : ¬ sJoin (ca i).1 (cb j).1 = -4 := fun z => c71 (sJo_m.mpr z)
        refine z_iload dX6_verdict_76 rfl rfl ?_
        refine zcx_X6_25 rfl dX6_verdict_78 rfl (m_isReal g h _) rfl rfl ⟨(Nat.le_of_ble_eq_true rfl), (Nat.le_of_ble_eq_true rfl)⟩ ⟨(Nat.le_of_ble_eq_true rfl), (Nat.le_of_ble_eq_true rfl)⟩ (Nat.le_of_ble_eq_true rfl) ?_
        refine z_bif_eq (tgt := 104) dX6_verdict_81 rfl (by decide) (fun c81 => ?_) (fun c81 => ?_)
        · skip
          first | refine z_aload_n dX6_verdict_104 rfl rfl ?_ | refine z_aload_nN dX6_verdict_104 rfl rfl ?_
          refine zg_X6_15 rfl dX6_verdict_105 rfl (by assumption) rfl ?_
          refine z_iload_n dX6_verdict_108 rfl rfl ?_
          refine z_lald dX6_verdict_109 rfl (by assumption) (vp_in_nI (by omega) (by omega)) ?_
          rw [nI_clamp (show i < 2 ^ 31 by omega)]
          first | refine z_aload_n dX6_verdict_110 rfl rfl ?_ | refine z_aload_nN dX6_verdict_110 rfl rfl ?_
          refine zg_X6_15 rfl dX6_verdict_111 rfl (by assumption) rfl ?_
          refine z_iload_n dX6_verdict_114 rfl rfl ?_
          refine z_lald dX6_verdict_115 rfl (by assumption) (vp_in_nI (by omega) (by omega)) ?_
          rw [nI_clamp (show j < 2 ^ 31 by omega)]
          refine z_lc_ne (tgt := 122) dX6_verdict_116 rfl dX6_verdict_117 (by decide) (fun c116 => ?_) (fun c116 => ?_)
          · skip
            refine z_iload dX6_verdict_122 rfl rfl ?_
            refine z_if_eq (tgt := 151) dX6_verdict_124 rfl (by decide) (fun c124 => ?_) (fun c124 => ?_)
            · skip
              refine z_iconst (v := 2) dX6_verdict_151 rfl (by decide) ?_
              exact z_iret dX6_verdict_152 rfl rfl ⟨by rw [vd_whole hJ (by rw [← sJo_n hJ]; intro z; exact c81 (by have := (sJoin_into hJ).1.2; rw [← sJo_n hJ] at this; grind)), ← sJo_n hJ]; grind, rfl⟩ (Nat.le_of_ble_eq_true rfl) (Nat.le_of_ble_eq_true rfl)
            · skip
              first | refine z_aload_n dX6_verdict_127 rfl rfl ?_ | refine z_aload_nN dX6_verdict_127 rfl rfl ?_
              refine zg_X6_15 rfl dX6_verdict_128 rfl (by assumption) rfl ?_
              refine z_iload_n dX6_verdict_131 rfl rfl ?_
              refine z_lald dX6_verdict_132 rfl (by assumption) (vp_in_nI (by omega) (by omega)) ?_
              rw [nI_clamp (show i < 2 ^ 31 by omega)]
              first | refine z_aload_n dX6_verdict_133 rfl rfl ?_ | refine z_aload_nN dX6_verdict_133 rfl rfl ?_
              refine zg_X6_15 rfl dX6_verdict_134 rfl (by assumption) rfl ?_
              refine z_iload_n dX6_verdict_137 rfl rfl ?_
              refine z_lald dX6_verdict_138 rfl (by assumption) (vp_in_nI (by omega) (by omega)) ?_
              rw [nI_clamp (show j < 2 ^ 31 by omega)]
              refine z_iload dX6_verdict_139 rfl rfl ?_
              refine zcx_X6_39 rfl dX6_verdict_141 rfl (m_isClose g h _ _ _) rfl rfl ⟨(Nat.le_of_ble_eq_true rfl), (Nat.le_of_ble_eq_true rfl)⟩ ⟨(Nat.le_of_ble_eq_true rfl), (Nat.le_of_ble_eq_true rfl)⟩ (Nat.le_of_ble_eq_true rfl) ?_
              refine z_bif_eq (tgt := 151) dX6_verdict_144 rfl (by decide) (fun c144 => ?_) (fun c144 => ?_)
              · skip
                refine z_iconst (v := 2) dX6_verdict_151 rfl (by decide) ?_
                exact z_iret dX6_verdict_152 rfl rfl ⟨by rw [vd_whole hJ (by rw [← sJo_n hJ]; intro z; exact c81 (by have := (sJoin_into hJ).1.2; rw [← sJo_n hJ] at this; grind)), ← sJo_n hJ]; grind, rfl⟩ (Nat.le_of_ble_eq_true rfl) (Nat.le_of_ble_eq_true rfl)
              · skip
                refine z_iconst (v := 1) dX6_verdict_147 rfl (by decide) ?_
                refine z_goto (tgt := 152) dX6_verdict_148 rfl (by decide) ?_
                exact z_iret dX6_verdict_152 rfl rfl ⟨by rw [vd_whole hJ (by rw [← sJo_n hJ]; intro z; exact c81 (by have := (sJoin_into hJ).1.2; rw [← sJo_n hJ] at this; grind)), ← sJo_n hJ]; grind, rfl⟩ (Nat.le_of_ble_eq_true rfl) (Nat.le_of_ble_eq_true rfl)
          · skip
            refine z_iconst (v := 0) dX6_verdict_120 rfl (by decide) ?_
            exact z_iret dX6_verdict_121 rfl rfl ⟨by rw [vd_whole hJ (by rw [← sJo_n hJ]; intro z; exact c81 (by have := (sJoin_into hJ).1.2; rw [← sJo_n hJ] at this; grind)), ← sJo_n hJ]; grind, rfl⟩ (Nat.le_of_ble_eq_true rfl) (Nat.le_of_ble_eq_true rfl)
        · skip
          have h6 : 6 ≤ sJoin (ca i).1 (cb j).1 := by rw [← sJo_n hJ]; grind
          first | refine z_aload_n dX6_verdict_84 rfl rfl ?_ | refine z_aload_nN dX6_verdict_84 rfl rfl ?_
          refine z_iload_n dX6_verdict_85 rfl rfl ?_
          refine z_iload dX6_verdict_86 rfl rfl ?_
          refine zcx_X6_29 rfl dX6_verdict_88 rfl (by assumption) (m_realAs g h a ka na ca hA hna i hi _ hsa.1 hsa.2) rfl rfl ⟨(Nat.le_of_ble_eq_true rfl), (Nat.le_of_ble_eq_true rfl)⟩ ⟨(Nat.le_of_ble_eq_true rfl), (Nat.le_of_ble_eq_true rfl)⟩ (Nat.le_of_ble_eq_true rfl) ?_
          first | refine z_aload_n dX6_verdict_91 rfl rfl ?_ | refine z_aload_nN dX6_verdict_91 rfl rfl ?_
          refine z_iload_n dX6_verdict_92 rfl rfl ?_
          refine z_iload dX6_verdict_93 rfl rfl ?_
          refine zcx_X6_29 rfl dX6_verdict_95 rfl (by assumption) (m_realAs g h b kb nb cb hB hnb j hj _ hsb.1 hsb.2) rfl rfl ⟨(Nat.le_of_ble_eq_true rfl), (Nat.le_of_ble_eq_true rfl)⟩ ⟨(Nat.le_of_ble_eq_true rfl), (Nat.le_of_ble_eq_true rfl)⟩ (Nat.le_of_ble_eq_true rfl) ?_
          refine z_iload dX6_verdict_98 rfl rfl ?_
          refine zcx_X6_33 rfl dX6_verdict_100 rfl (m_ofReals g h _ _ _ (sReal_ok oa hsa.2 _) (sReal_ok ob hsb.2 _)) rfl rfl ⟨(Nat.le_of_ble_eq_true rfl), (Nat.le_of_ble_eq_true rfl)⟩ ⟨(Nat.le_of_ble_eq_true rfl), (Nat.le_of_ble_eq_true rfl)⟩ (Nat.le_of_ble_eq_true rfl) ?_
          exact z_iret dX6_verdict_103 rfl rfl ⟨by rw [vd_real hJ h6, sJo_n hJ], rfl⟩ (Nat.le_of_ble_eq_true rfl) (Nat.le_of_ble_eq_true rfl)
      · skip
        refine z_iconst (v := 2) dX6_verdict_74 rfl (by decide) ?_
        exact z_iret dX6_verdict_75 rfl rfl ⟨by rw [vd_none hsa (sJo_m.mp c71)], rfl⟩ (Nat.le_of_ble_eq_true rfl) (Nat.le_of_ble_eq_true rfl)
    · skip
      refine z_iload dX6_verdict_30 rfl rfl ?_
      refine z_iload dX6_verdict_32 rfl rfl ?_
      refine z_icmp_ne (tgt := 57) dX6_verdict_34 rfl (by decide) (fun c34 => ?_) (fun c34 => ?_)
      · skip
        refine z_iconst (v := 2) dX6_verdict_57 rfl (by decide) ?_
        exact z_iret dX6_verdict_58 rfl rfl ⟨by rw [vd_obj oa ob (by grind)]; grind, rfl⟩ (Nat.le_of_ble_eq_true rfl) (Nat.le_of_ble_eq_true rfl)
      · skip
        first | refine z_aload_n dX6_verdict_37 rfl rfl ?_ | refine z_aload_nN dX6_verdict_37 rfl rfl ?_
        refine zg_X6_15 rfl dX6_verdict_38 rfl (by assumption) rfl ?_
        refine z_iload_n dX6_verdict_41 rfl rfl ?_
        refine z_lald dX6_verdict_42 rfl (by assumption) (vp_in_nI (by omega) (by omega)) ?_
        rw [nI_clamp (show i < 2 ^ 31 by omega)]
        first | refine z_aload_n dX6_verdict_43 rfl rfl ?_ | refine z_aload_nN dX6_verdict_43 rfl rfl ?_
        refine zg_X6_15 rfl dX6_verdict_44 rfl (by assumption) rfl ?_
        refine z_iload_n dX6_verdict_47 rfl rfl ?_
        refine z_lald dX6_verdict_48 rfl (by assumption) (vp_in_nI (by omega) (by omega)) ?_
        rw [nI_clamp (show j < 2 ^ 31 by omega)]
        refine z_lc_ne (tgt := 57) dX6_verdict_49 rfl dX6_verdict_50 (by decide) (fun c49 => ?_) (fun c49 => ?_)
        · skip
          refine z_iconst (v := 2) dX6_verdict_57 rfl (by decide) ?_
          exact z_iret dX6_verdict_58 rfl rfl ⟨by rw [vd_obj oa ob (by grind)]; grind, rfl⟩ (Nat.le_of_ble_eq_true rfl) (Nat.le_of_ble_eq_true rfl)
        · skip
          refine z_iconst (v := 0) dX6_verdict_53 rfl (by decide) ?_
          refine z_goto (tgt := 58) dX6_verdict_54 rfl (by decide) ?_
          exact z_iret dX6_verdict_58 rfl rfl ⟨by rw [vd_obj oa ob (by grind)]; grind, rfl⟩ (Nat.le_of_ble_eq_true rfl) (Nat.le_of_ble_eq_true rfl)

set_option maxHeartbeats 4000000 in
set_option maxRecDepth 100000 in
/-- X6_isAlike -/
theorem m_isAlike (g : zG) (h : zH) (a : Nat) (ka : Int32) (na : Nat) (ca : Nat → sC) (hA : cAt h a ka na ca) (hna : na ≤ 40) (i : Nat) (hi : i < na) (b : Nat) (kb : Int32) (nb : Nat) (cb : Nat → sC) (hB : cAt h b kb nb cb) (hnb : nb ≤ 40) (j : Nat) (hj : j < nb) (oa : sOk (ca i)) (ob : sOk (cb j)) : zX g yX6_isAlike cX6_isAlike 4 (some .boolean) rmX6_isAlike [.ref a, .int (nI i), .ref b, .int (nI j)] h (.int (if sAlike (ca i) (cb j) = true then 1 else 0)) h := by
  refine zM_of (by decide) (Nat.le_of_ble_eq_true rfl) ?_
  first | refine z_aload_n dX6_isAlike_0 rfl rfl ?_ | refine z_aload_nN dX6_isAlike_0 rfl rfl ?_
  refine z_iload_n dX6_isAlike_1 rfl rfl ?_
  first | refine z_aload_n dX6_isAlike_2 rfl rfl ?_ | refine z_aload_nN dX6_isAlike_2 rfl rfl ?_
  refine z_iload_n dX6_isAlike_3 rfl rfl ?_
  refine z_iconst (v := 0) dX6_isAlike_4 rfl (by decide) ?_
  refine zcx_X6_43 rfl dX6_isAlike_5 rfl (m_verdict g h a ka na ca hA hna i hi b kb nb cb hB hnb j hj oa ob 0) rfl rfl ⟨(Nat.le_of_ble_eq_true rfl), (Nat.le_of_ble_eq_true rfl)⟩ ⟨(Nat.le_of_ble_eq_true rfl), (Nat.le_of_ble_eq_true rfl)⟩ (Nat.le_of_ble_eq_true rfl) ?_
  refine z_if_ne (tgt := 15) dX6_isAlike_8 rfl (by decide) (fun c8 => ?_) (fun c8 => ?_)
  · skip
    refine z_iconst (v := 0) dX6_isAlike_15 rfl (by decide) ?_
    exact z_zret dX6_isAlike_16 rfl rfl rfl ⟨by have := sLike_0 (c := ca i) (d := cb j) (t := 0); grind, rfl⟩ (Nat.le_of_ble_eq_true rfl) (Nat.le_of_ble_eq_true rfl)
  · skip
    refine z_iconst (v := 1) dX6_isAlike_11 rfl (by decide) ?_
    refine z_goto (tgt := 16) dX6_isAlike_12 rfl (by decide) ?_
    exact z_zret dX6_isAlike_16 rfl rfl rfl ⟨by have := sLike_0 (c := ca i) (d := cb j) (t := 0); grind, rfl⟩ (Nat.le_of_ble_eq_true rfl) (Nat.le_of_ble_eq_true rfl)

