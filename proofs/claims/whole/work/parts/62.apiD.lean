theorem rc_set {h : zH} {col : Nat → Nat} {p : Nat} {R : sR} {F : Nat → Option Nat} {Z : Nat → Int32} (hw : wfH h) (hr : rcAt h col 2 8 p R F Z) {r a i : Nat} (hr8 : r < 8) (hF : F r = some a) {c : Nat → sC} (hc : cAt h a (R.2.1 r).1 (R.2.1 r).2.length c) (hcl : ∀ i, i < (R.2.1 r).2.length → c i = (R.2.1 r).2.getD i z0) (hi : i < (R.2.1 r).2.length) {v : sC} (hv : sOk v ∧ sFit v (R.2.1 r).1) : rcAt (cUp a (R.2.1 r).1 (R.2.1 r).2.length (uC c i v) h) col 2 8 p (rSet R r i v) F Z ∧ ext h (cUp a (R.2.1 r).1 (R.2.1 r).2.length (uC c i v) h) col col D28 := by
  obtain ⟨h2, hZ, ⟨ho, -⟩, hcol⟩ := rc_a hr hr8 hF
  have hl := cAt_lt hc hw
  have hx : ext h (cUp a (R.2.1 r).1 (R.2.1 r).2.length (uC c i v) h) col col (fun c => c = 2) := ⟨Nat.le_refl _, fun q hq => by
      have hq : h.1 ≤ q := hq
      rw [cUp_out (by omega)]; exact hw q hq, fun _ _ => rfl, fun q _ hD => cUp_out (by
      rcases Nat.lt_or_ge q a with z | z
      · exact Or.inl z
      · rcases Nat.lt_or_ge q (a + 4) with z2 | z2
        · exact absurd (hcol q z z2) hD
        · exact Or.inr z2)⟩
  refine ⟨⟨?_, hr.2.1, fun s hs => ?_, hr.2.2.2⟩, hx.1, hx.2.1, hx.2.2.1, fun q hq hD => hx.2.2.2 q hq (fun z => hD (Or.inl z))⟩
  · have hp := wf_lt hw hr.1.2.2
    exact rAt_fr hr.1 (fun q q1 q2 => hx.2.2.2 q (by omega) (by rw [hr.2.1 q q1 q2]; decide))
  · rcases hr.2.2.1 s hs with z | z | ⟨z1, z2, b, z3, z4, z5⟩
    · exact Or.inl z
    · exact Or.inr (Or.inl z)
    · refine Or.inr (Or.inr ⟨z1, z2, b, z3, ?_, z5⟩)
      show cIs _ b (if R.2.2 s r = true then ((R.2.1 r).1, (R.2.1 r).2.set i v) else R.2.1 s)
      by_cases e : b = a
      · subst e
        rw [if_pos ((hr.2.2.2 s r hs hr8 z1 h2).mpr (by rw [z3, hF]))]
        refine ⟨⟨ho.1, ho.2.1, by show ((R.2.1 r).2.set i v).length ≤ 20; rw [List.length_set]; exact ho.2.2.1, fun d hd => ?_⟩, uC c i v, ?_, fun j hj => ?_⟩
        · rcases List.mem_or_eq_of_mem_set hd with q | q
          · exact ho.2.2.2 d q
          · rw [q]; exact hv
        · show cAt _ b (R.2.1 r).1 ((R.2.1 r).2.set i v).length _
          rw [List.length_set]
          exact cUp_at _ _ _ _ _
        · have hj : j < ((R.2.1 r).2.set i v).length := hj
          rw [List.length_set] at hj
          show uC c i v j = ((R.2.1 r).2.set i v).getD j z0
          rw [List.getD_eq_getElem?_getD, List.getElem?_set]
          simp only [uC]
          by_cases q : j = i
          · rw [if_pos q, if_pos q.symm, if_pos (by omega)]; rfl
          · rw [if_neg q, if_neg (fun z => q z.symm), hcl j hj, List.getD_eq_getElem?_getD]
      · rw [if_neg (fun q => e (Option.some.inj (z3.symm.trans (((hr.2.2.2 s r hs hr8 z1 h2).mp q).trans hF))))]
        obtain ⟨o2, c2, q1, q2⟩ := z4
        exact ⟨o2, c2, cAt_up hc q1 (fun z => e z.symm), q2⟩
theorem RC_set {x m : Nat} {h : zH} {w : sW} {col : Nat → Nat} {p : Nat} {F : Nat → Option Nat} {Z : Nat → Int32} {k : Option Nat} {I P : Nat → Option Nat} {q : Nat → Int32} {T : alT} {V : Nat → sC} (hR : RC h x m w col p F Z k I P q T V) {r a i : Nat} (hr8 : r < 8) (hF : F r = some a) {c : Nat → sC} (hc : cAt h a (w.1.2.1 r).1 (w.1.2.1 r).2.length c) (hcl : ∀ i, i < (w.1.2.1 r).2.length → c i = (w.1.2.1 r).2.getD i z0) (hi : i < (w.1.2.1 r).2.length) {v : sC} (hv : sOk v ∧ sFit v (w.1.2.1 r).1) : RC (cUp a (w.1.2.1 r).1 (w.1.2.1 r).2.length (uC c i v) h) x m (wR w (rSet w.1 r i v)) col p F Z k I P q T V ∧ ext h (cUp a (w.1.2.1 r).1 (w.1.2.1 r).2.length (uC c i v) h) col col D28 := by
  have z := rc_set hR.1 hR.2.2.2.2.1 hr8 hF hc hcl hi hv
  exact ⟨RC_rec hR z.2 z.1, z.2⟩
theorem RC_q {x m : Nat} {h : zH} {w : sW} {col : Nat → Nat} {p : Nat} {F : Nat → Option Nat} {Z : Nat → Int32} {k : Option Nat} {I P : Nat → Option Nat} {q : Nat → Int32} {T : alT} {V : Nat → sC} (hR : RC h x m w col p F Z k I P q T V) {i : Nat} {v : Int32} (hq : rateOk (upd w.2.2.1 i v)) : RC (h.1, va_up h.2 (x + 6) (some (.inl (0, 4, .inl (upd q i v))))) x m (wRate w i v) col p F Z k I P (upd q i v) T V := by
  obtain ⟨a1, a2, a3, a4, a5, a6⟩ := hR.2.2.1
  refine RC_st hR (vu_st (w' := w) hR _ (fun a ha => vu_n (by omega))) ⟨(vu_n (by omega)).trans a1, (vu_n (by omega)).trans a2, (vu_n (by omega)).trans a3, vu_s, alAt_fr a5 (fun q q1 q2 => vu_n (by omega)), cAt_fr a6 (fun q q1 q2 => vu_n (by omega))⟩ ⟨fun j hj => ?_, hq⟩ rfl rfl rfl
  show upd q i v j = upd w.2.2.1 i v j
  simp only [upd]
  split
  · rfl
  · exact hR.2.2.2.1.1 j hj
theorem RC_v {x m : Nat} {h : zH} {w : sW} {col : Nat → Nat} {p : Nat} {F : Nat → Option Nat} {Z : Nat → Int32} {k : Option Nat} {I P : Nat → Option Nat} {q : Nat → Int32} {T : alT} {V : Nat → sC} (hR : RC h x m w col p F Z k I P q T V) (V' : Nat → sC) : RC (cUp (x + 53) 9 1 V' h) x m w col p F Z k I P q T V' ∧ ext h (cUp (x + 53) 9 1 V' h) col col D1 := by
  obtain ⟨a1, a2, a3, a4, a5, a6⟩ := hR.2.2.1
  have hx := vu_st (w' := w) hR (cUp (x + 53) 9 1 V' h).2 (fun a ha => cUp_out (by omega))
  exact ⟨RC_st hR hx ⟨(cUp_out (by omega)).trans a1, (cUp_out (by omega)).trans a2, (cUp_out (by omega)).trans a3, (cUp_out (by omega)).trans a4, alAt_fr a5 (fun q q1 q2 => cUp_out (by omega)), cUp_at _ _ _ _ _⟩ hR.2.2.2.1 rfl rfl rfl, hx⟩
theorem cPost_RC {x m : Nat} {h h1 : zH} {ans : Int32 × sW} {v : Int32} {w' : sW} {col : Nat → Nat} {p : Nat} {F : Nat → Option Nat} {Z : Nat → Int32} {k : Option Nat} {I P : Nat → Option Nat} {q : Nat → Int32} {T : alT} {V : Nat → sC} (hR : RC h1 x m w' col p F Z k I P q T V) (hm : ∀ q, m ≤ q → q < m + 20 → h1.2 q = h.2 q) (ea : ans = (v, w')) : cPost x m h ans (some (.int v)) h1 := ⟨by rw [ea], by rw [ea]; exact ⟨col, p, F, Z, k, I, P, q, T, V, hR⟩, hm⟩

set_option maxHeartbeats 800000 in
set_option maxRecDepth 100000 in
theorem m_writeCell (g : zG) (h : zH) (x m : Nat) (w : sW) (col : Nat → Nat) (p : Nat) (F : Nat → Option Nat) (Z : Nat → Int32) (k : Option Nat) (I P : Nat → Option Nat) (q : Nat → Int32) (T : alT) (V : Nat → sC) (hR : RC h x m w col p F Z k I P q T V) (r i : Int32) (hr1 : isRec r) (b : Nat) (kb : Int32) (nb : Nat) (cb : Nat → sC) (hB : cAt h b kb nb cb) (hnb : nb ≤ 40) (j : Nat) (hj : j < nb) (ob : sOk (cb j)) : zM g yX9_writeCell cX9_writeCell 7 (some .int) rmX9_writeCell [.ref x, .int r, .int i, .ref b, .int (nI j)] h (fun v h1 => (¬ (layF w.1 (ix r) i.toInt (cb j).1) = 0 ∧ v = some (.int (layF w.1 (ix r) i.toInt (cb j).1)) ∧ h1 = h) ∨ ((layF w.1 (ix r) i.toInt (cb j).1) = 0 ∧ v = some (.int 0) ∧ RC h1 x m (wR w (rSet w.1 (ix r) (ix i) (sConv (cb j) (w.1.2.1 (ix r)).1))) col p F Z k I P q T V ∧ ∀ a, m ≤ a → a < m + 20 → h1.2 a = h.2 a)) := by
  refine zM_of (by decide) (Nat.le_of_ble_eq_true rfl) ?_
  obtain ⟨hw, hz, hS, hq, hr, hX⟩ := id hR
  obtain ⟨S0, S1, S2, S3, S4, S5⟩ := id hS
  obtain ⟨R0, R1, R2, R3⟩ := id hr
  first | refine z_aload_n dX9_writeCell_0 rfl rfl ?_ | refine z_aload_nN dX9_writeCell_0 rfl rfl ?_
  refine z_iload_n dX9_writeCell_1 rfl rfl ?_
  refine z_iload_n dX9_writeCell_2 rfl rfl ?_
  refine zcx_X9_91 rfl dX9_writeCell_3 rfl S0 (m_cellFault g h x m w col p F Z k I P q T V hR r i hr1) rfl rfl ⟨(Nat.le_of_ble_eq_true rfl), (Nat.le_of_ble_eq_true rfl)⟩ ⟨(Nat.le_of_ble_eq_true rfl), (Nat.le_of_ble_eq_true rfl)⟩ (Nat.le_of_ble_eq_true rfl) ?_
  refine z_istore dX9_writeCell_6 rfl (Nat.le_of_ble_eq_true rfl) ?_
  refine z_iload dX9_writeCell_8 rfl rfl ?_
  refine z_if_eq (tgt := 16) dX9_writeCell_10 rfl (by decide) (fun c10 => ?_) (fun c10 => ?_)
  · skip
    have hcf : ¬ 0 < cellF w.1 (ix r) i.toInt := by rw [c10]; decide
    obtain ⟨hrf0, hi0, hi1⟩ := cf_0 hcf
    obtain ⟨a, hF⟩ := rc_2 hr (ix_lt hr1) hrf0
    obtain ⟨h2, hZ, ⟨ho, c, hc, hcl⟩, hcol⟩ := rc_a hr (ix_lt hr1) hF
    obtain ⟨hie, hil⟩ := ix_eq hi0 hi1
    have hl : (w.1.2.1 (ix r)).2.length ≤ 20 := ho.2.2.1
    have hck := cl_ok (h := h) (a := a) ho hcl hil
    have hrc : rCell w.1 (ix r) (ix i) = c (ix i) := (hcl _ hil).symm
    first | refine z_aload_n dX9_writeCell_16 rfl rfl ?_ | refine z_aload_nN dX9_writeCell_16 rfl rfl ?_
    refine zg_X9_10 rfl dX9_writeCell_17 rfl S0 rfl ?_
    refine zg_X9_69 rfl dX9_writeCell_20 rfl R0.1 rfl ?_
    refine z_iload_n dX9_writeCell_23 rfl rfl ?_
    refine z_aalds dX9_writeCell_24 rfl R0.2.1 rfl rfl (rec_in hr1) hF ?_
    first | refine z_astore dX9_writeCell_25 rfl (Nat.le_of_ble_eq_true rfl) ?_ | refine z_astoreN dX9_writeCell_25 rfl (Nat.le_of_ble_eq_true rfl) ?_
    first | refine z_aload_n dX9_writeCell_27 rfl rfl ?_ | refine z_aload_nN dX9_writeCell_27 rfl rfl ?_
    refine zg_X9_107 rfl dX9_writeCell_28 rfl hB.1 rfl ?_
    refine z_iload dX9_writeCell_31 rfl rfl ?_
    refine z_iald dX9_writeCell_33 rfl hB.2.1 (vp_in_nI (by omega) (by omega)) ?_
    rw [nI_clamp (show j < 2 ^ 31 by omega)]
    first | refine z_aload dX9_writeCell_34 rfl rfl ?_ | refine z_aloadN dX9_writeCell_34 rfl rfl ?_
    refine zg_X9_77 rfl dX9_writeCell_36 rfl hc.1 rfl ?_
    refine zcx_X9_204 rfl dX9_writeCell_39 rfl (m_fits g h _ _ ⟨ob.1, ob.2.1⟩ ⟨ho.1, ho.2.1⟩) rfl rfl ⟨(Nat.le_of_ble_eq_true rfl), (Nat.le_of_ble_eq_true rfl)⟩ ⟨(Nat.le_of_ble_eq_true rfl), (Nat.le_of_ble_eq_true rfl)⟩ (Nat.le_of_ble_eq_true rfl) ?_
    refine z_bif_ne (tgt := 47) dX9_writeCell_42 rfl (by decide) (fun c42 => ?_) (fun c42 => ?_)
    · skip
      first | refine z_aload dX9_writeCell_47 rfl rfl ?_ | refine z_aloadN dX9_writeCell_47 rfl rfl ?_
      refine z_iload_n dX9_writeCell_49 rfl rfl ?_
      first | refine z_aload_n dX9_writeCell_50 rfl rfl ?_ | refine z_aload_nN dX9_writeCell_50 rfl rfl ?_
      refine z_iload dX9_writeCell_51 rfl rfl ?_
      refine zcv_X9_210 rfl dX9_writeCell_53 rfl hc.1 ((by have z := m_take g h a _ _ c hc (by omega) (ix i) hil b kb nb cb hB hnb j hj ob ⟨ho.1, ho.2.1⟩ c42; rwa [hie] at z)) rfl rfl ⟨(Nat.le_of_ble_eq_true rfl), (Nat.le_of_ble_eq_true rfl)⟩ ⟨(Nat.le_of_ble_eq_true rfl), (Nat.le_of_ble_eq_true rfl)⟩ (Nat.le_of_ble_eq_true rfl) ?_
      refine z_iconst (v := 0) dX9_writeCell_56 rfl (by decide) ?_
      exact z_iret dX9_writeCell_57 rfl rfl (by have z := RC_set hR (ix_lt hr1) hF hc hcl hil (sConv_ok ob ⟨ho.1, ho.2.1⟩ c42); exact Or.inr ⟨by rw [layF, if_neg hcf, if_pos c42], rfl, z.1, ext_mod z.2 hz (by unfold D28; omega)⟩) (Nat.le_of_ble_eq_true rfl) (Nat.le_of_ble_eq_true rfl)
    · skip
      refine z_iconst (v := 5) dX9_writeCell_45 rfl (by decide) ?_
      exact z_iret dX9_writeCell_46 rfl rfl (Or.inl (by have hf : (layF w.1 (ix r) i.toInt (cb j).1) = 5 := (by rw [layF, if_neg hcf, if_neg c42]); exact ⟨by rw [hf]; decide, by rw [hf], rfl⟩)) (Nat.le_of_ble_eq_true rfl) (Nat.le_of_ble_eq_true rfl)
  · skip
    refine z_iload dX9_writeCell_13 rfl rfl ?_
    exact z_iret dX9_writeCell_15 rfl rfl (Or.inl (by have hf : (layF w.1 (ix r) i.toInt (cb j).1) = cellF w.1 (ix r) i.toInt := (by rw [layF, if_pos (cf_ne c10)]); exact ⟨by rw [hf]; exact c10, by rw [hf], rfl⟩)) (Nat.le_of_ble_eq_true rfl) (Nat.le_of_ble_eq_true rfl)

set_option maxHeartbeats 800000 in
set_option maxRecDepth 100000 in
theorem m_writeNumber (g : zG) (h : zH) (x m : Nat) (w : sW) (col : Nat → Nat) (p : Nat) (F : Nat → Option Nat) (Z : Nat → Int32) (k : Option Nat) (I P : Nat → Option Nat) (q : Nat → Int32) (T : alT) (V : Nat → sC) (hR : RC h x m w col p F Z k I P q T V) (r i : Int32) (hr1 : isRec r) (ov : sOk (V 0)) : zM g yX9_writeNumber cX9_writeNumber 4 (some .int) rmX9_writeNumber [.ref x, .int r, .int i] h (fun v h1 => (¬ (putF w.1 (ix r) i.toInt (V 0).1) = 0 ∧ v = some (.int (putF w.1 (ix r) i.toInt (V 0).1)) ∧ h1 = h) ∨ ((putF w.1 (ix r) i.toInt (V 0).1) = 0 ∧ v = some (.int 0) ∧ RC h1 x m (wR w (rSet w.1 (ix r) (ix i) (sConv (V 0) (w.1.2.1 (ix r)).1))) col p F Z k I P q T V ∧ ∀ a, m ≤ a → a < m + 20 → h1.2 a = h.2 a)) := by
  refine zM_of (by decide) (Nat.le_of_ble_eq_true rfl) ?_
  obtain ⟨hw, hz, hS, hq, hr, hX⟩ := id hR
  obtain ⟨S0, S1, S2, S3, S4, S5⟩ := id hS
  obtain ⟨R0, R1, R2, R3⟩ := id hr
  first | refine z_aload_n dX9_writeNumber_0 rfl rfl ?_ | refine z_aload_nN dX9_writeNumber_0 rfl rfl ?_
  refine z_iload_n dX9_writeNumber_1 rfl rfl ?_
  refine z_iload_n dX9_writeNumber_2 rfl rfl ?_
  refine zcx_X9_91 rfl dX9_writeNumber_3 rfl S0 (m_cellFault g h x m w col p F Z k I P q T V hR r i hr1) rfl rfl ⟨(Nat.le_of_ble_eq_true rfl), (Nat.le_of_ble_eq_true rfl)⟩ ⟨(Nat.le_of_ble_eq_true rfl), (Nat.le_of_ble_eq_true rfl)⟩ (Nat.le_of_ble_eq_true rfl) ?_
  refine z_istore_n dX9_writeNumber_6 rfl (Nat.le_of_ble_eq_true rfl) ?_
  refine z_iload_n dX9_writeNumber_7 rfl rfl ?_
  refine z_if_eq (tgt := 13) dX9_writeNumber_8 rfl (by decide) (fun c8 => ?_) (fun c8 => ?_)
  · skip
    have hcf : ¬ 0 < cellF w.1 (ix r) i.toInt := by rw [c8]; decide
    obtain ⟨hrf0, hi0, hi1⟩ := cf_0 hcf
    obtain ⟨a, hF⟩ := rc_2 hr (ix_lt hr1) hrf0
    obtain ⟨h2, hZ, ⟨ho, c, hc, hcl⟩, hcol⟩ := rc_a hr (ix_lt hr1) hF
    obtain ⟨hie, hil⟩ := ix_eq hi0 hi1
    have hl : (w.1.2.1 (ix r)).2.length ≤ 20 := ho.2.2.1
    have hck := cl_ok (h := h) (a := a) ho hcl hil
    have hrc : rCell w.1 (ix r) (ix i) = c (ix i) := (hcl _ hil).symm
    first | refine z_aload_n dX9_writeNumber_13 rfl rfl ?_ | refine z_aload_nN dX9_writeNumber_13 rfl rfl ?_
    refine zg_X9_10 rfl dX9_writeNumber_14 rfl S0 rfl ?_
    refine zg_X9_69 rfl dX9_writeNumber_17 rfl R0.1 rfl ?_
    refine z_iload_n dX9_writeNumber_20 rfl rfl ?_
    refine z_aalds dX9_writeNumber_21 rfl R0.2.1 rfl rfl (rec_in hr1) hF ?_
    refine zg_X9_77 rfl dX9_writeNumber_22 rfl hc.1 rfl ?_
    refine z_bipush (v := 7) dX9_writeNumber_25 rfl (by decide) ?_
    refine z_icmp_le (tgt := 34) dX9_writeNumber_27 rfl (by decide) (fun c27 => ?_) (fun c27 => ?_)
    · skip
      first | refine z_aload_n dX9_writeNumber_34 rfl rfl ?_ | refine z_aload_nN dX9_writeNumber_34 rfl rfl ?_
      refine z_iload_n dX9_writeNumber_35 rfl rfl ?_
      refine z_iload_n dX9_writeNumber_36 rfl rfl ?_
      first | refine z_aload_n dX9_writeNumber_37 rfl rfl ?_ | refine z_aload_nN dX9_writeNumber_37 rfl rfl ?_
      refine zg_X9_42 rfl dX9_writeNumber_38 rfl S0 rfl ?_
      refine z_iconst (v := 0) dX9_writeNumber_41 rfl (by decide) ?_
      refine zc_X9_117 rfl dX9_writeNumber_42 rfl S0 (m_writeCell g h x m w col p F Z k I P q T V hR r i hr1 (x + 53) 9 1 V S5 (by decide) 0 (by decide) ov) rfl rfl ⟨(Nat.le_of_ble_eq_true rfl), (Nat.le_of_ble_eq_true rfl)⟩ ⟨(Nat.le_of_ble_eq_true rfl), (Nat.le_of_ble_eq_true rfl)⟩ (Nat.le_of_ble_eq_true rfl) (fun v h1 hz1 => ?_)
      have hpl : (putF w.1 (ix r) i.toInt (V 0).1) = (layF w.1 (ix r) i.toInt (V 0).1) := by rw [putF, layF, if_neg hcf, if_neg hcf, if_neg (by grind)]
      rcases hz1 with ⟨hne, rfl, rfl⟩ | ⟨h0, rfl, hR1, hm1⟩
      · exact z_iret dX9_writeNumber_45 rfl rfl (Or.inl ⟨by rw [hpl]; exact hne, by rw [hpl], rfl⟩) (Nat.le_of_ble_eq_true rfl) (Nat.le_of_ble_eq_true rfl)
      · exact z_iret dX9_writeNumber_45 rfl rfl (Or.inr ⟨by rw [hpl]; exact h0, rfl, hR1, hm1⟩) (Nat.le_of_ble_eq_true rfl) (Nat.le_of_ble_eq_true rfl)
    · skip
      refine z_iconst (v := 4) dX9_writeNumber_30 rfl (by decide) ?_
      refine z_goto (tgt := 45) dX9_writeNumber_31 rfl (by decide) ?_
      exact z_iret dX9_writeNumber_45 rfl rfl (Or.inl (by have hf : (putF w.1 (ix r) i.toInt (V 0).1) = 4 := (by rw [putF, if_neg hcf, if_pos (by grind)]); exact ⟨by rw [hf]; decide, by rw [hf], rfl⟩)) (Nat.le_of_ble_eq_true rfl) (Nat.le_of_ble_eq_true rfl)
  · skip
    refine z_iload_n dX9_writeNumber_11 rfl rfl ?_
    exact z_iret dX9_writeNumber_12 rfl rfl (Or.inl (by have hf : (putF w.1 (ix r) i.toInt (V 0).1) = cellF w.1 (ix r) i.toInt := (by rw [putF, if_pos (cf_ne c8)]); exact ⟨by rw [hf]; exact c8, by rw [hf], rfl⟩)) (Nat.le_of_ble_eq_true rfl) (Nat.le_of_ble_eq_true rfl)

