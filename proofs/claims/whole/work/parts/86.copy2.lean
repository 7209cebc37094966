abbrev YX8_copy : zY := (yX8_copy.cls, cX8_copy, 3, (some (.object "LoggerTwins$Records")), rmX8_copy, yX8_copy.name, fun _ _ => True)
set_option maxHeartbeats 800000 in
set_option maxRecDepth 100000 in
theorem m_rcopy_L (g : zG) (h : zH) (col : Nat → Nat) (cc oc p : Nat) (R : sR) (F : Nat → Option Nat) (Z : Nat → Int32) (hr : rcAt h col cc oc p R F Z) (hw : wfH h) : ∀ (n : Nat) (F' : Nat → Option Nat) (Z' : Nat → Int32) (G : zH) (i : Nat), i + n = 8 → cpI h R F Z i F' Z' G → zZ g YX8_copy (zE g (fun v h1 => v = some (.ref h.1) ∧ ∃ F' Z' G, h1 = rUp h.1 F' Z' G ∧ cpI h R F Z 8 F' Z' G) 35 1018) 10 [(1, .ref h.1), (2, .int (nI i)), (0, .ref p)] [] (rUp h.1 F' Z' G) (3 + 4 * i) (18 + 125 * i) := by
  have hp3 : p + 2 < h.1 := wf_lt hw hr.1.2.2
  intro n
  induction n with
  | zero =>
    intro F' Z' G i hin hI
    obtain rfl : i = 8 := by omega
    refine z_iload_n dX8_copy_10 rfl rfl ?_
    refine z_bipush (v := 8) dX8_copy_11 rfl (by decide) ?_
    refine z_icmp_ge (tgt := 88) dX8_copy_13 rfl (by decide) (fun c13 => ?_) (fun c13 => absurd c13 (fun z => z (nI_le (a := 8) (by omega) (by omega))))
    first | refine z_aload_n dX8_copy_88 rfl rfl ?_ | refine z_aload_nN dX8_copy_88 rfl rfl ?_
    exact z_aret dX8_copy_89 rfl rfl (Or.inl ⟨_, rfl⟩) ⟨rfl, F', Z', G, rfl, hI⟩ (Nat.le_of_ble_eq_true rfl) (Nat.le_of_ble_eq_true rfl)
  | succ n ih =>
    intro F' Z' G i hin hI
    have hG := hI.2.2.1
    have hG3 := hI.1
    have hPx : rAt (rUp h.1 F' Z' G) p F Z := rAt_fr hr.1 (fun z z1 z2 => (rUp_out (by omega)).trans (hG z (by omega)))
    rcases hF : F i with _ | a
    · rcases rc_n hr (show i < 8 by omega) hF with ⟨-, hZ⟩ | ⟨-, hZ⟩
      · skip
        refine z_iload_n dX8_copy_10 rfl rfl ?_
        refine z_bipush (v := 8) dX8_copy_11 rfl (by decide) ?_
        refine z_icmp_ge (tgt := 88) dX8_copy_13 rfl (by decide) (fun c13 => absurd c13 (nI_ge (b := 8) (by omega) (by decide))) (fun c13 => ?_)
        first | refine z_aload_n dX8_copy_16 rfl rfl ?_ | refine z_aload_nN dX8_copy_16 rfl rfl ?_
        refine zg_X8_17 rfl dX8_copy_17 rfl hPx.1 rfl ?_
        refine z_iload_n dX8_copy_20 rfl rfl ?_
        refine z_zald dX8_copy_21 rfl hPx.2.2 (vp_in_nI (by omega) (by decide)) ?_
        rw [nI_clamp (show i < 2 ^ 31 by omega), hZ]
        refine z_if_eq (tgt := 33) dX8_copy_22 rfl (by decide) (fun c22 => ?_) (fun c22 => absurd c22 (fun z => z rfl))
        first | refine z_aload_n dX8_copy_33 rfl rfl ?_ | refine z_aload_nN dX8_copy_33 rfl rfl ?_
        refine z_iload_n dX8_copy_34 rfl rfl ?_
        refine zcx_X8_30 rfl dX8_copy_35 rfl hPx.1 (m_isFirstF g (rUp h.1 F' Z' G) p F Z hPx i (by omega) hF) rfl rfl ⟨(Nat.le_of_ble_eq_true rfl), (Nat.le_of_ble_eq_true rfl)⟩ ⟨Nat.le_trans (Nat.add_le_add_right (show 3 + 4 * i ≤ 31 by omega) _) (Nat.le_of_ble_eq_true rfl), Nat.le_trans (Nat.add_le_add_right (show 18 + 125 * i ≤ 893 by omega) _) (Nat.le_of_ble_eq_true rfl)⟩ (Nat.le_of_ble_eq_true rfl) ?_
        refine z_bif_eq (tgt := 58) dX8_copy_38 rfl (by decide) (fun c38 => ?_) (fun c38 => absurd c38 (fun z => z))
        first | refine z_aload_n dX8_copy_58 rfl rfl ?_ | refine z_aload_nN dX8_copy_58 rfl rfl ?_
        refine zg_X8_11 rfl dX8_copy_59 rfl hPx.1 rfl ?_
        refine z_iload_n dX8_copy_62 rfl rfl ?_
        refine z_aaldn dX8_copy_63 rfl hPx.2.1 rfl rfl (vp_in_nI (by omega) (by decide)) (by rw [nI_clamp (show i < 2 ^ 31 by omega)]; exact hF) ?_
        refine z_ifnullN (tgt := 82) dX8_copy_64 rfl (by decide) ?_
        refine z_iinc (v := nI (i + 1)) dX8_copy_82 rfl rfl (nI_inc i) (Nat.le_of_ble_eq_true rfl) ?_
        refine z_goto (tgt := 10) dX8_copy_85 rfl (by decide) ?_
        refine z_widen (ce' := 3 + 4 * (i + 1)) (sl' := 18 + 125 * (i + 1)) (by first | (show 3 + 4 * i ≤ _; omega) | (show 3 + 4 * i + 4 ≤ _; omega)) (by first | (show 18 + 125 * i ≤ _; omega) | (show 18 + 125 * i + 125 ≤ _; omega)) ?_
        refine z_lv [(1, .ref h.1), (2, .int (nI (i + 1))), (0, .ref p)] ⟨rfl, rfl, rfl, trivial⟩ ?_
        exact ih F' Z' G (i + 1) (by omega) (cp_n hI hF (fun _ _ => ⟨rfl, rfl⟩) ⟨(hI.2.2.2.1 i (Nat.le_refl _)).1, by rw [hZ]; exact (hI.2.2.2.1 i (Nat.le_refl _)).2⟩)
      · skip
        refine z_iload_n dX8_copy_10 rfl rfl ?_
        refine z_bipush (v := 8) dX8_copy_11 rfl (by decide) ?_
        refine z_icmp_ge (tgt := 88) dX8_copy_13 rfl (by decide) (fun c13 => absurd c13 (nI_ge (b := 8) (by omega) (by decide))) (fun c13 => ?_)
        first | refine z_aload_n dX8_copy_16 rfl rfl ?_ | refine z_aload_nN dX8_copy_16 rfl rfl ?_
        refine zg_X8_17 rfl dX8_copy_17 rfl hPx.1 rfl ?_
        refine z_iload_n dX8_copy_20 rfl rfl ?_
        refine z_zald dX8_copy_21 rfl hPx.2.2 (vp_in_nI (by omega) (by decide)) ?_
        rw [nI_clamp (show i < 2 ^ 31 by omega), hZ]
        refine z_if_eq (tgt := 33) dX8_copy_22 rfl (by decide) (fun c22 => absurd c22 (by decide)) (fun c22 => ?_)
        first | refine z_aload_n dX8_copy_25 rfl rfl ?_ | refine z_aload_nN dX8_copy_25 rfl rfl ?_
        refine z_iload_n dX8_copy_26 rfl rfl ?_
        refine zcv_X8_26 rfl dX8_copy_27 rfl (rUp_at _ _ _ _).1 (m_holdSingle g (rUp h.1 F' Z' G) h.1 F' Z' (rUp_at _ _ _ _) i (by omega)) rfl rfl ⟨(Nat.le_of_ble_eq_true rfl), (Nat.le_of_ble_eq_true rfl)⟩ ⟨Nat.le_trans (Nat.add_le_add_right (show 3 + 4 * i ≤ 31 by omega) _) (Nat.le_of_ble_eq_true rfl), Nat.le_trans (Nat.add_le_add_right (show 18 + 125 * i ≤ 893 by omega) _) (Nat.le_of_ble_eq_true rfl)⟩ (Nat.le_of_ble_eq_true rfl) ?_
        refine z_goto (tgt := 82) dX8_copy_30 rfl (by decide) ?_
        rw [rUp_up]
        refine z_iinc (v := nI (i + 1)) dX8_copy_82 rfl rfl (nI_inc i) (Nat.le_of_ble_eq_true rfl) ?_
        refine z_goto (tgt := 10) dX8_copy_85 rfl (by decide) ?_
        refine z_widen (ce' := 3 + 4 * (i + 1)) (sl' := 18 + 125 * (i + 1)) (by first | (show 3 + 4 * i ≤ _; omega) | (show 3 + 4 * i + 4 ≤ _; omega)) (by first | (show 18 + 125 * i ≤ _; omega) | (show 18 + 125 * i + 125 ≤ _; omega)) ?_
        refine z_lv [(1, .ref h.1), (2, .int (nI (i + 1))), (0, .ref p)] ⟨rfl, rfl, rfl, trivial⟩ ?_
        exact ih (va_up F' i none) (upd Z' i 1) G (i + 1) (by omega) (cp_n hI hF (fun r hne => ⟨by simp only [va_up]; rw [if_neg hne], by simp only [upd]; rw [if_neg hne]⟩) ⟨by simp only [va_up]; rw [if_pos trivial], by rw [hZ]; simp only [upd]; rw [if_pos trivial]⟩)
    · obtain ⟨hst, hZ, ⟨ho, c, hc, hcl⟩, -⟩ := rc_a hr (show i < 8 by omega) hF
      have l20 := ho.2.2.1
      by_cases hl : lhF F a 7 0 = i
      · have hal := cAt_lt hc hw
        have hcx : cAt (rUp h.1 F' Z' G) a (R.2.1 i).1 (R.2.1 i).2.length c := cAt_fr hc (fun z z1 z2 => (rUp_out (by omega)).trans (hG z (by omega)))
        have hwH : wfH (rUp h.1 F' Z' G) := fun z hz => (rUp_out (by have hz : G.1 ≤ z := hz; omega)).trans (hI.2.1 z hz)
        have hrC : rAt (cUp G.1 (R.2.1 i).1 (R.2.1 i).2.length (cCp c (R.2.1 i).1 (R.2.1 i).2.length (R.2.1 i).2.length) (G.1 + 4, (rUp h.1 F' Z' G).2)) h.1 F' Z' := rAt_fr (rUp_at _ _ _ _) (fun z z1 z2 => cUp_out (by omega))
        have hcc : cIs (cUp G.1 (R.2.1 i).1 (R.2.1 i).2.length (cCp c (R.2.1 i).1 (R.2.1 i).2.length (R.2.1 i).2.length) (G.1 + 4, G.2)) G.1 (R.2.1 i) := ⟨ho, _, cUp_at _ _ _ _ _, fun j hj => (show cCp c _ _ _ j = c j from if_pos hj).trans (hcl j hj)⟩
        have hfr : ∀ r d, r < i → F r = some d → ¬ F' r = some G.1 := fun r d hr2 hd z => by
          obtain ⟨-, b, e1, -, e2⟩ := hI.2.2.2.2.2.1 r d hr2 hd
          rw [z] at e1
          obtain rfl := Option.some.inj e1
          have := cIs_lt e2 hI.2.1
          omega
        refine z_iload_n dX8_copy_10 rfl rfl ?_
        refine z_bipush (v := 8) dX8_copy_11 rfl (by decide) ?_
        refine z_icmp_ge (tgt := 88) dX8_copy_13 rfl (by decide) (fun c13 => absurd c13 (nI_ge (b := 8) (by omega) (by decide))) (fun c13 => ?_)
        first | refine z_aload_n dX8_copy_16 rfl rfl ?_ | refine z_aload_nN dX8_copy_16 rfl rfl ?_
        refine zg_X8_17 rfl dX8_copy_17 rfl hPx.1 rfl ?_
        refine z_iload_n dX8_copy_20 rfl rfl ?_
        refine z_zald dX8_copy_21 rfl hPx.2.2 (vp_in_nI (by omega) (by decide)) ?_
        rw [nI_clamp (show i < 2 ^ 31 by omega), hZ]
        refine z_if_eq (tgt := 33) dX8_copy_22 rfl (by decide) (fun c22 => ?_) (fun c22 => absurd c22 (fun z => z rfl))
        first | refine z_aload_n dX8_copy_33 rfl rfl ?_ | refine z_aload_nN dX8_copy_33 rfl rfl ?_
        refine z_iload_n dX8_copy_34 rfl rfl ?_
        refine zcx_X8_30 rfl dX8_copy_35 rfl hPx.1 (m_isFirst g (rUp h.1 F' Z' G) p F Z hPx i (by omega) a hF) rfl rfl ⟨(Nat.le_of_ble_eq_true rfl), (Nat.le_of_ble_eq_true rfl)⟩ ⟨Nat.le_trans (Nat.add_le_add_right (show 3 + 4 * i ≤ 31 by omega) _) (Nat.le_of_ble_eq_true rfl), Nat.le_trans (Nat.add_le_add_right (show 18 + 125 * i ≤ 893 by omega) _) (Nat.le_of_ble_eq_true rfl)⟩ (Nat.le_of_ble_eq_true rfl) ?_
        refine z_bif_eq (tgt := 58) dX8_copy_38 rfl (by decide) (fun c38 => absurd c38 (fun z => z hl)) (fun c38 => ?_)
        first | refine z_aload_n dX8_copy_41 rfl rfl ?_ | refine z_aload_nN dX8_copy_41 rfl rfl ?_
        refine z_iload_n dX8_copy_42 rfl rfl ?_
        first | refine z_aload_n dX8_copy_43 rfl rfl ?_ | refine z_aload_nN dX8_copy_43 rfl rfl ?_
        refine zg_X8_11 rfl dX8_copy_44 rfl hPx.1 rfl ?_
        refine z_iload_n dX8_copy_47 rfl rfl ?_
        refine z_aalds dX8_copy_48 rfl hPx.2.1 rfl rfl (vp_in_nI (by omega) (by decide)) (by rw [nI_clamp (show i < 2 ^ 31 by omega)]; exact hF) ?_
        refine zcx_X8_34 rfl dX8_copy_49 rfl hcx.1 (m_copy g (rUp h.1 F' Z' G) a _ _ c hcx (by omega) hwH ⟨ho.1, ho.2.1⟩ (fun j hj => cl_ok (h := h) (a := a) ho hcl hj)) rfl rfl ⟨(Nat.le_of_ble_eq_true rfl), (Nat.le_of_ble_eq_true rfl)⟩ ⟨Nat.le_trans (Nat.add_le_add_right (show 3 + 4 * i ≤ 31 by omega) _) (Nat.le_of_ble_eq_true rfl), Nat.le_trans (Nat.add_le_add_right (show 18 + 125 * i ≤ 893 by omega) _) (Nat.le_of_ble_eq_true rfl)⟩ (Nat.le_of_ble_eq_true rfl) ?_
        refine zcv_X8_38 rfl dX8_copy_52 rfl hrC.1 (m_hold g (cUp G.1 (R.2.1 i).1 (R.2.1 i).2.length (cCp c (R.2.1 i).1 (R.2.1 i).2.length (R.2.1 i).2.length) (G.1 + 4, (rUp h.1 F' Z' G).2)) h.1 F' Z' hrC i (by omega) G.1 _ (cUp_at _ _ _ _ _).1) rfl rfl ⟨(Nat.le_of_ble_eq_true rfl), (Nat.le_of_ble_eq_true rfl)⟩ ⟨Nat.le_trans (Nat.add_le_add_right (show 3 + 4 * i + 4 ≤ 35 by omega) _) (Nat.le_of_ble_eq_true rfl), Nat.le_trans (Nat.add_le_add_right (show 18 + 125 * i + 125 ≤ 1018 by omega) _) (Nat.le_of_ble_eq_true rfl)⟩ (Nat.le_of_ble_eq_true rfl) ?_
        refine z_goto (tgt := 82) dX8_copy_55 rfl (by decide) ?_
        rw [rUp_cU (by omega)]
        refine z_iinc (v := nI (i + 1)) dX8_copy_82 rfl rfl (nI_inc i) (Nat.le_of_ble_eq_true rfl) ?_
        refine z_goto (tgt := 10) dX8_copy_85 rfl (by decide) ?_
        refine z_widen (ce' := 3 + 4 * (i + 1)) (sl' := 18 + 125 * (i + 1)) (by first | (show 3 + 4 * i ≤ _; omega) | (show 3 + 4 * i + 4 ≤ _; omega)) (by first | (show 18 + 125 * i ≤ _; omega) | (show 18 + 125 * i + 125 ≤ _; omega)) ?_
        refine z_lv [(1, .ref h.1), (2, .int (nI (i + 1))), (0, .ref p)] ⟨rfl, rfl, rfl, trivial⟩ ?_
        exact ih (va_up F' i (some G.1)) (upd Z' i 0) (cUp G.1 (R.2.1 i).1 (R.2.1 i).2.length (cCp c (R.2.1 i).1 (R.2.1 i).2.length (R.2.1 i).2.length) (G.1 + 4, G.2)) (i + 1) (by omega) (cp_a hI hF (fun r hne => ⟨by simp only [va_up]; rw [if_neg hne], by simp only [upd]; rw [if_neg hne]⟩) ⟨by simp only [va_up]; rw [if_pos trivial], by simp only [upd]; rw [if_pos trivial]⟩ (wf_cUp hI.2.1 _ _ _) (Nat.le_add_right _ _) (fun q hq => cUp_out (Or.inl hq)) (by omega) hcc (fun r d hr2 hd => ⟨fun z => absurd z (hfr r d hr2 hd), fun z => absurd (z ▸ hd) (lhF_lt 7 0 (Nat.zero_le _) (by rw [hl]; exact hr2))⟩))
      · obtain ⟨hle, hsF⟩ := lhF_f hF 7 0 (Nat.zero_le _) (by omega)
        have hsl : lhF F a 7 0 < i := by omega
        obtain ⟨hs1, b, hs2, hs3, hs4⟩ := hI.2.2.2.2.2.1 _ a hsl hsF
        have hAe : R.2.1 (lhF F a 7 0) = R.2.1 i := cIs_inj (rc_a hr (show lhF F a 7 0 < 8 by omega) hsF).2.2.1 (rc_a hr (show i < 8 by omega) hF).2.2.1
        obtain ⟨-, cb, hcb, -⟩ := id hs4
        have hbv := (rUp_out (p := h.1) (F := F') (Z := Z') (h := G) (Or.inr hs3)).trans hcb.1
        refine z_iload_n dX8_copy_10 rfl rfl ?_
        refine z_bipush (v := 8) dX8_copy_11 rfl (by decide) ?_
        refine z_icmp_ge (tgt := 88) dX8_copy_13 rfl (by decide) (fun c13 => absurd c13 (nI_ge (b := 8) (by omega) (by decide))) (fun c13 => ?_)
        first | refine z_aload_n dX8_copy_16 rfl rfl ?_ | refine z_aload_nN dX8_copy_16 rfl rfl ?_
        refine zg_X8_17 rfl dX8_copy_17 rfl hPx.1 rfl ?_
        refine z_iload_n dX8_copy_20 rfl rfl ?_
        refine z_zald dX8_copy_21 rfl hPx.2.2 (vp_in_nI (by omega) (by decide)) ?_
        rw [nI_clamp (show i < 2 ^ 31 by omega), hZ]
        refine z_if_eq (tgt := 33) dX8_copy_22 rfl (by decide) (fun c22 => ?_) (fun c22 => absurd c22 (fun z => z rfl))
        first | refine z_aload_n dX8_copy_33 rfl rfl ?_ | refine z_aload_nN dX8_copy_33 rfl rfl ?_
        refine z_iload_n dX8_copy_34 rfl rfl ?_
        refine zcx_X8_30 rfl dX8_copy_35 rfl hPx.1 (m_isFirst g (rUp h.1 F' Z' G) p F Z hPx i (by omega) a hF) rfl rfl ⟨(Nat.le_of_ble_eq_true rfl), (Nat.le_of_ble_eq_true rfl)⟩ ⟨Nat.le_trans (Nat.add_le_add_right (show 3 + 4 * i ≤ 31 by omega) _) (Nat.le_of_ble_eq_true rfl), Nat.le_trans (Nat.add_le_add_right (show 18 + 125 * i ≤ 893 by omega) _) (Nat.le_of_ble_eq_true rfl)⟩ (Nat.le_of_ble_eq_true rfl) ?_
        refine z_bif_eq (tgt := 58) dX8_copy_38 rfl (by decide) (fun c38 => ?_) (fun c38 => absurd c38 hl)
        first | refine z_aload_n dX8_copy_58 rfl rfl ?_ | refine z_aload_nN dX8_copy_58 rfl rfl ?_
        refine zg_X8_11 rfl dX8_copy_59 rfl hPx.1 rfl ?_
        refine z_iload_n dX8_copy_62 rfl rfl ?_
        refine z_aalds dX8_copy_63 rfl hPx.2.1 rfl rfl (vp_in_nI (by omega) (by decide)) (by rw [nI_clamp (show i < 2 ^ 31 by omega)]; exact hF) ?_
        refine z_ifnull dX8_copy_64 rfl ?_
        first | refine z_aload_n dX8_copy_67 rfl rfl ?_ | refine z_aload_nN dX8_copy_67 rfl rfl ?_
        refine z_iload_n dX8_copy_68 rfl rfl ?_
        first | refine z_aload_n dX8_copy_69 rfl rfl ?_ | refine z_aload_nN dX8_copy_69 rfl rfl ?_
        first | refine z_aload_n dX8_copy_70 rfl rfl ?_ | refine z_aload_nN dX8_copy_70 rfl rfl ?_
        refine zg_X8_11 rfl dX8_copy_71 rfl hPx.1 rfl ?_
        refine z_iload_n dX8_copy_74 rfl rfl ?_
        refine z_aalds dX8_copy_75 rfl hPx.2.1 rfl rfl (vp_in_nI (by omega) (by decide)) (by rw [nI_clamp (show i < 2 ^ 31 by omega)]; exact hF) ?_
        refine zcx_X8_21 rfl dX8_copy_76 rfl hPx.1 (m_leastHolder g (rUp h.1 F' Z' G) p F Z hPx a) rfl rfl ⟨(Nat.le_of_ble_eq_true rfl), (Nat.le_of_ble_eq_true rfl)⟩ ⟨Nat.le_trans (Nat.add_le_add_right (show 3 + 4 * i ≤ 31 by omega) _) (Nat.le_of_ble_eq_true rfl), Nat.le_trans (Nat.add_le_add_right (show 18 + 125 * i ≤ 893 by omega) _) (Nat.le_of_ble_eq_true rfl)⟩ (Nat.le_of_ble_eq_true rfl) ?_
        refine zcv_X8_42 rfl dX8_copy_79 rfl (rUp_at _ _ _ _).1 (m_holdSame g (rUp h.1 F' Z' G) h.1 F' Z' (rUp_at _ _ _ _) i (by omega) (lhF F a 7 0) (by omega) (Or.inl hs1) b _ hs2 hbv) rfl rfl ⟨(Nat.le_of_ble_eq_true rfl), (Nat.le_of_ble_eq_true rfl)⟩ ⟨Nat.le_trans (Nat.add_le_add_right (show 3 + 4 * i ≤ 31 by omega) _) (Nat.le_of_ble_eq_true rfl), Nat.le_trans (Nat.add_le_add_right (show 18 + 125 * i ≤ 893 by omega) _) (Nat.le_of_ble_eq_true rfl)⟩ (Nat.le_of_ble_eq_true rfl) ?_
        rw [rUp_up]
        refine z_iinc (v := nI (i + 1)) dX8_copy_82 rfl rfl (nI_inc i) (Nat.le_of_ble_eq_true rfl) ?_
        refine z_goto (tgt := 10) dX8_copy_85 rfl (by decide) ?_
        refine z_widen (ce' := 3 + 4 * (i + 1)) (sl' := 18 + 125 * (i + 1)) (by first | (show 3 + 4 * i ≤ _; omega) | (show 3 + 4 * i + 4 ≤ _; omega)) (by first | (show 18 + 125 * i ≤ _; omega) | (show 18 + 125 * i + 125 ≤ _; omega)) ?_
        refine z_lv [(1, .ref h.1), (2, .int (nI (i + 1))), (0, .ref p)] ⟨rfl, rfl, rfl, trivial⟩ ?_
        exact ih (va_up F' i (some b)) (upd Z' i (Z' (lhF F a 7 0))) G (i + 1) (by omega) (cp_a hI hF (fun r hne => ⟨by simp only [va_up]; rw [if_neg hne], by simp only [upd]; rw [if_neg hne]⟩) ⟨by simp only [va_up]; rw [if_pos trivial], by rw [hs1]; simp only [upd]; rw [if_pos trivial]⟩ hI.2.1 (Nat.le_refl _) (fun _ _ => rfl) hs3 (hAe ▸ hs4) (fun r d hr2 hd => by rw [← hs2]; exact hI.2.2.2.2.2.2 r _ d a hr2 hsl hd hsF))

