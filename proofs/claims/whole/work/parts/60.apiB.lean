theorem vu_st {x m : Nat} {h : zH} {w w' : sW} {col : Nat → Nat} {p : Nat} {F : Nat → Option Nat} {Z : Nat → Int32} {k : Option Nat} {I P : Nat → Option Nat} {q : Nat → Int32} {T : alT} {V : Nat → sC} (hR : RC h x m w col p F Z k I P q T V) (h1 : Nat → Option zOb) (hf : ∀ a, (a < x ∨ x + 57 ≤ a ∨ (x + 1 ≤ a ∧ a < x + 4)) → h1 a = h.2 a) : ext h (h.1, h1) col col D1 := by
  obtain ⟨hw, hz, -⟩ := hR
  have := hz.1
  have := hz.2.1
  refine ⟨Nat.le_refl _, fun a ha => by rw [show (h.1, h1).2 a = h.2 a from hf a (Or.inr (Or.inl (by show x + 57 ≤ a; have : h.1 ≤ a := ha; omega)))]; exact hw a ha, fun _ _ => rfl, fun a _ hD => ?_⟩
  refine hf a ?_
  rcases Nat.lt_or_ge a x with q1 | q1
  · exact Or.inl q1
  · rcases Nat.lt_or_ge a (x + 57) with q2 | q2
    · rcases Nat.lt_or_ge a (x + 1) with q3 | q3
      · exact absurd (hz.2.2.1 a q1 q2 (Or.inl q3)) hD
      · rcases Nat.lt_or_ge a (x + 4) with q4 | q4
        · exact Or.inr (Or.inr ⟨q3, q4⟩)
        · exact absurd (hz.2.2.1 a q1 q2 (Or.inr q4)) hD
    · exact Or.inr (Or.inl q2)
theorem st_x {h : zH} {x p : Nat} {k : Option Nat} {got got' : Int64} {torn torn' : Int32} {I P : Nat → Option Nat} {q : Nat → Int32} {T : alT} {V : Nat → sC} (hA : stAt h x p k got torn I P q T V) : stAt (h.1, va_up h.2 x (some (xOb x p k got' torn'))) x p k got' torn' I P q T V := by
  obtain ⟨a1, a2, a3, a4, a5, a6⟩ := hA
  exact ⟨vu_s, (vu_n (by omega)).trans a2, (vu_n (by omega)).trans a3, (vu_n (by omega)).trans a4, alAt_fr a5 (fun q q1 q2 => vu_n (by omega)), cAt_fr a6 (fun q q1 q2 => vu_n (by omega))⟩
/-- got, torn change -/
theorem RC_x {x m : Nat} {h : zH} {w w' : sW} {col : Nat → Nat} {p : Nat} {F : Nat → Option Nat} {Z : Nat → Int32} {k : Option Nat} {I P : Nat → Option Nat} {q : Nat → Int32} {T : alT} {V : Nat → sC} (hR : RC h x m w col p F Z k I P q T V) (e : w'.1 = w.1 ∧ w'.2.1 = w.2.1 ∧ w'.2.2.1 = w.2.2.1 ∧ w'.2.2.2.2.2 = w.2.2.2.2.2) : RC (h.1, va_up h.2 x (some (xOb x p k w'.2.2.2.1 w'.2.2.2.2.1))) x m w' col p F Z k I P q T V := RC_st hR (vu_st (w' := w) hR _ (fun a ha => vu_n (by omega))) (st_x hR.2.2.1) ⟨fun i hi => by rw [e.2.2.1]; exact hR.2.2.2.1.1 i hi, by rw [e.2.2.1]; exact hR.2.2.2.1.2⟩ e.1 e.2.1 e.2.2.2
theorem cPost_x {x m : Nat} {h : zH} {w w' : sW} {ans : Int32 × sW} {v : Int32} {col : Nat → Nat} {p : Nat} {F : Nat → Option Nat} {Z : Nat → Int32} {k : Option Nat} {I P : Nat → Option Nat} {q : Nat → Int32} {T : alT} {V : Nat → sC} (hR : RC h x m w col p F Z k I P q T V) (e : w'.1 = w.1 ∧ w'.2.1 = w.2.1 ∧ w'.2.2.1 = w.2.2.1 ∧ w'.2.2.2.2.2 = w.2.2.2.2.2) (ea : ans = (v, w')) : cPost x m h ans (some (.int v)) (h.1, va_up h.2 x (some (xOb x p k w'.2.2.2.1 w'.2.2.2.2.1))) := ⟨by rw [ea], by rw [ea]; exact ⟨col, p, F, Z, k, I, P, q, T, V, RC_x hR e⟩, fun a h1 h2 => vu_n (by have := hR.2.1.1; omega)⟩
theorem cl_ok {h : zH} {a : Nat} {A : sA} {c : Nat → sC} (ho : aOk A) (hcl : ∀ i, i < A.2.length → c i = A.2.getD i z0) {i : Nat} (hi : i < A.2.length) : sOk (c i) ∧ sFit (c i) A.1 := by
  rw [hcl i hi, List.getD_eq_getElem?_getD, List.getElem?_eq_getElem hi]
  exact ho.2.2.2 _ (List.getElem_mem hi)
theorem okF_fit {c : sC} {k : Int32} (h : sOk c) (hf : sFit c k) (h7 : k ≤ 7) (hi : sInto k 6 = true) : okF (sReal c 6) := okF_into h (by rw [hf.1 h7]; exact hi)

theorem cf_ge (R : sR) (r : Nat) (i : Int) : 0 ≤ cellF R r i := by unfold cellF rowF; grind
theorem cf_ne {R : sR} {r : Nat} {i : Int} (h : ¬ cellF R r i = 0) : 0 < cellF R r i := by have := cf_ge R r i; grind
theorem rc_2 {h : zH} {col : Nat → Nat} {cc oc p : Nat} {R : sR} {F : Nat → Option Nat} {Z : Nat → Int32} (hA : rcAt h col cc oc p R F Z) {r : Nat} (hr : r < 8) (h0 : ¬ 0 < rowF R r) : ∃ a, F r = some a := by
  rcases hA.2.2.1 r hr with z | z | ⟨z1, z2, b, z3, z4, z5⟩
  · exact absurd (by unfold rowF; rw [z.1]; decide) h0
  · exact absurd (by unfold rowF; rw [z.1]; decide) h0
  · exact ⟨b, z3⟩

set_option maxHeartbeats 800000 in
set_option maxRecDepth 100000 in
theorem C_ask (g : zG) (h : zH) (x m : Nat) (w : sW) (hRC : RepC h x m w) (r i kind : Int32) : zM g yX9_ask cX9_ask 6 (some .int) rmX9_ask [.ref x, .int r, .int i, .int kind] h (cPost x m h (pAsk w r i kind)) := by
  refine zM_of (by decide) (Nat.le_of_ble_eq_true rfl) ?_
  obtain ⟨col, p, F, Z, k, I, P, q, T, V, hR⟩ := id hRC
  obtain ⟨hw, hz, hS, hq, hr, hX⟩ := id hR
  obtain ⟨S0, S1, S2, S3, S4, S5⟩ := id hS
  obtain ⟨R0, R1, R2, R3⟩ := id hr
  refine z_iload_n dX9_ask_0 rfl rfl ?_
  refine zcx_X9_46 rfl dX9_ask_1 rfl (m_isRecord g h _) rfl rfl ⟨(Nat.le_of_ble_eq_true rfl), (Nat.le_of_ble_eq_true rfl)⟩ ⟨(Nat.le_of_ble_eq_true rfl), (Nat.le_of_ble_eq_true rfl)⟩ (Nat.le_of_ble_eq_true rfl) ?_
  refine z_bif_eq (tgt := 17) dX9_ask_4 rfl (by decide) (fun c4 => ?_) (fun c4 => ?_)
  · skip
    refine z_iconst (v := -1) dX9_ask_17 rfl (by decide) ?_
    exact z_iret dX9_ask_18 rfl rfl (cPost_same hRC (by grind [pAsk])) (Nat.le_of_ble_eq_true rfl) (Nat.le_of_ble_eq_true rfl)
  · skip
    refine z_iload_n dX9_ask_7 rfl rfl ?_
    refine z_iconst (v := 0) dX9_ask_8 rfl (by decide) ?_
    refine z_bipush (v := 7) dX9_ask_9 rfl (by decide) ?_
    refine zcx_X9_50 rfl dX9_ask_11 rfl (m_isWithin g h _ _ _) rfl rfl ⟨(Nat.le_of_ble_eq_true rfl), (Nat.le_of_ble_eq_true rfl)⟩ ⟨(Nat.le_of_ble_eq_true rfl), (Nat.le_of_ble_eq_true rfl)⟩ (Nat.le_of_ble_eq_true rfl) ?_
    refine z_bif_ne (tgt := 19) dX9_ask_14 rfl (by decide) (fun c14 => ?_) (fun c14 => ?_)
    · skip
      first | refine z_aload_n dX9_ask_19 rfl rfl ?_ | refine z_aload_nN dX9_ask_19 rfl rfl ?_
      refine z_iload_n dX9_ask_20 rfl rfl ?_
      refine z_iload_n dX9_ask_21 rfl rfl ?_
      refine zcx_X9_91 rfl dX9_ask_22 rfl S0 (m_cellFault g h x m w col p F Z k I P q T V hR r i c4) rfl rfl ⟨(Nat.le_of_ble_eq_true rfl), (Nat.le_of_ble_eq_true rfl)⟩ ⟨(Nat.le_of_ble_eq_true rfl), (Nat.le_of_ble_eq_true rfl)⟩ (Nat.le_of_ble_eq_true rfl) ?_
      refine z_istore dX9_ask_25 rfl (Nat.le_of_ble_eq_true rfl) ?_
      refine z_iload dX9_ask_27 rfl rfl ?_
      refine z_if_eq (tgt := 38) dX9_ask_29 rfl (by decide) (fun c29 => ?_) (fun c29 => ?_)
      · skip
        have hcf : ¬ 0 < cellF w.1 (ix r) i.toInt := by rw [c29]; decide
        obtain ⟨hrf0, hi0, hi1⟩ := cf_0 hcf
        obtain ⟨a, hF⟩ := rc_2 hr (ix_lt c4) hrf0
        obtain ⟨h2, hZ, ⟨ho, c, hc, hcl⟩, hcol⟩ := rc_a hr (ix_lt c4) hF
        obtain ⟨hie, hil⟩ := ix_eq hi0 hi1
        have hl : (w.1.2.1 (ix r)).2.length ≤ 20 := ho.2.2.1
        have hck := cl_ok (h := h) (a := a) ho hcl hil
        have hrc : rCell w.1 (ix r) (ix i) = c (ix i) := (hcl _ hil).symm
        first | refine z_aload_n dX9_ask_38 rfl rfl ?_ | refine z_aload_nN dX9_ask_38 rfl rfl ?_
        refine zg_X9_10 rfl dX9_ask_39 rfl S0 rfl ?_
        refine zg_X9_69 rfl dX9_ask_42 rfl R0.1 rfl ?_
        refine z_iload_n dX9_ask_45 rfl rfl ?_
        refine z_aalds dX9_ask_46 rfl R0.2.1 rfl rfl (rec_in c4) hF ?_
        first | refine z_astore dX9_ask_47 rfl (Nat.le_of_ble_eq_true rfl) ?_ | refine z_astoreN dX9_ask_47 rfl (Nat.le_of_ble_eq_true rfl) ?_
        first | refine z_aload dX9_ask_49 rfl rfl ?_ | refine z_aloadN dX9_ask_49 rfl rfl ?_
        refine z_iload_n dX9_ask_51 rfl rfl ?_
        refine zcx_X9_95 rfl dX9_ask_52 rfl (m_readFault g h a _ _ c hc ⟨ho.1, ho.2.1⟩ kind ⟨c14.1, by have := c14.2; grind⟩) rfl rfl ⟨(Nat.le_of_ble_eq_true rfl), (Nat.le_of_ble_eq_true rfl)⟩ ⟨(Nat.le_of_ble_eq_true rfl), (Nat.le_of_ble_eq_true rfl)⟩ (Nat.le_of_ble_eq_true rfl) ?_
        refine z_istore dX9_ask_55 rfl (Nat.le_of_ble_eq_true rfl) ?_
        refine z_iload dX9_ask_57 rfl rfl ?_
        refine z_if_eq (tgt := 68) dX9_ask_59 rfl (by decide) (fun c59 => ?_) (fun c59 => ?_)
        · skip
          have h7 : (w.1.2.1 (ix r)).1 ≤ 7 := by grind
          have hio : sInto (w.1.2.1 (ix r)).1 kind = true := by grind
          first | refine z_aload_n dX9_ask_68 rfl rfl ?_ | refine z_aload_nN dX9_ask_68 rfl rfl ?_
          first | refine z_aload dX9_ask_69 rfl rfl ?_ | refine z_aloadN dX9_ask_69 rfl rfl ?_
          refine z_iload_n dX9_ask_71 rfl rfl ?_
          refine z_iload_n dX9_ask_72 rfl rfl ?_
          refine zcx_X9_99 rfl dX9_ask_73 rfl hc.1 ((by have z := m_amountAs g h a _ _ c hc (by omega) (ix i) hil kind hck.1 (fun e => ⟨by rw [hck.2.1 h7]; exact h7, fun e6 => okF_fit hck.1 hck.2 h7 (by rw [← e6]; exact hio)⟩); rwa [hie] at z)) rfl rfl ⟨(Nat.le_of_ble_eq_true rfl), (Nat.le_of_ble_eq_true rfl)⟩ ⟨(Nat.le_of_ble_eq_true rfl), (Nat.le_of_ble_eq_true rfl)⟩ (Nat.le_of_ble_eq_true rfl) ?_
          refine zp_X9_103 rfl dX9_ask_76 rfl S0 rfl rfl (Nat.le_of_ble_eq_true rfl) ?_
          refine z_iconst (v := 1) dX9_ask_79 rfl (by decide) ?_
          exact z_iret dX9_ask_80 rfl rfl (cPost_x hR (w' := wGot w (sAmt (c (ix i)) kind)) ⟨rfl, rfl, rfl, rfl⟩ (by rw [pAsk, if_neg (by grind), askF, if_neg hcf, if_neg (by unfold readF; grind), hrc])) (Nat.le_of_ble_eq_true rfl) (Nat.le_of_ble_eq_true rfl)
        · skip
          refine z_iload dX9_ask_62 rfl rfl ?_
          refine zcx_X9_62 rfl dX9_ask_64 rfl (m_answer g h _) rfl rfl ⟨(Nat.le_of_ble_eq_true rfl), (Nat.le_of_ble_eq_true rfl)⟩ ⟨(Nat.le_of_ble_eq_true rfl), (Nat.le_of_ble_eq_true rfl)⟩ (Nat.le_of_ble_eq_true rfl) ?_
          exact z_iret dX9_ask_67 rfl rfl (cPost_same hRC (by have hrd : 0 < readF w.1 (ix r) kind := (by unfold readF; grind); rw [pAsk, if_neg (by grind), askF, if_neg hcf, if_pos hrd]; unfold readF; rfl)) (Nat.le_of_ble_eq_true rfl) (Nat.le_of_ble_eq_true rfl)
      · skip
        refine z_iload dX9_ask_32 rfl rfl ?_
        refine zcx_X9_62 rfl dX9_ask_34 rfl (m_answer g h _) rfl rfl ⟨(Nat.le_of_ble_eq_true rfl), (Nat.le_of_ble_eq_true rfl)⟩ ⟨(Nat.le_of_ble_eq_true rfl), (Nat.le_of_ble_eq_true rfl)⟩ (Nat.le_of_ble_eq_true rfl) ?_
        exact z_iret dX9_ask_37 rfl rfl (cPost_same hRC (by rw [pAsk, if_neg (by grind), askF, if_pos (cf_ne c29), if_pos (cf_ne c29)])) (Nat.le_of_ble_eq_true rfl) (Nat.le_of_ble_eq_true rfl)
    · skip
      refine z_iconst (v := -1) dX9_ask_17 rfl (by decide) ?_
      exact z_iret dX9_ask_18 rfl rfl (cPost_same hRC (by grind [pAsk])) (Nat.le_of_ble_eq_true rfl) (Nat.le_of_ble_eq_true rfl)

set_option maxHeartbeats 800000 in
set_option maxRecDepth 100000 in
theorem C_box (g : zG) (h : zH) (x m : Nat) (w : sW) (hRC : RepC h x m w) (r i : Int32) : zM g yX9_box cX9_box 6 (some .int) rmX9_box [.ref x, .int r, .int i] h (cPost x m h (pBox w r i)) := by
  refine zM_of (by decide) (Nat.le_of_ble_eq_true rfl) ?_
  obtain ⟨col, p, F, Z, k, I, P, q, T, V, hR⟩ := id hRC
  obtain ⟨hw, hz, hS, hq, hr, hX⟩ := id hR
  obtain ⟨S0, S1, S2, S3, S4, S5⟩ := id hS
  obtain ⟨R0, R1, R2, R3⟩ := id hr
  refine z_iload_n dX9_box_0 rfl rfl ?_
  refine zcx_X9_46 rfl dX9_box_1 rfl (m_isRecord g h _) rfl rfl ⟨(Nat.le_of_ble_eq_true rfl), (Nat.le_of_ble_eq_true rfl)⟩ ⟨(Nat.le_of_ble_eq_true rfl), (Nat.le_of_ble_eq_true rfl)⟩ (Nat.le_of_ble_eq_true rfl) ?_
  refine z_bif_ne (tgt := 9) dX9_box_4 rfl (by decide) (fun c4 => ?_) (fun c4 => ?_)
  · skip
    first | refine z_aload_n dX9_box_9 rfl rfl ?_ | refine z_aload_nN dX9_box_9 rfl rfl ?_
    refine z_iload_n dX9_box_10 rfl rfl ?_
    refine z_iload_n dX9_box_11 rfl rfl ?_
    refine zcx_X9_91 rfl dX9_box_12 rfl S0 (m_cellFault g h x m w col p F Z k I P q T V hR r i c4) rfl rfl ⟨(Nat.le_of_ble_eq_true rfl), (Nat.le_of_ble_eq_true rfl)⟩ ⟨(Nat.le_of_ble_eq_true rfl), (Nat.le_of_ble_eq_true rfl)⟩ (Nat.le_of_ble_eq_true rfl) ?_
    refine z_istore_n dX9_box_15 rfl (Nat.le_of_ble_eq_true rfl) ?_
    refine z_iload_n dX9_box_16 rfl rfl ?_
    refine z_if_eq (tgt := 25) dX9_box_17 rfl (by decide) (fun c17 => ?_) (fun c17 => ?_)
    · skip
      have hcf : ¬ 0 < cellF w.1 (ix r) i.toInt := by rw [c17]; decide
      obtain ⟨hrf0, hi0, hi1⟩ := cf_0 hcf
      obtain ⟨a, hF⟩ := rc_2 hr (ix_lt c4) hrf0
      obtain ⟨h2, hZ, ⟨ho, c, hc, hcl⟩, hcol⟩ := rc_a hr (ix_lt c4) hF
      obtain ⟨hie, hil⟩ := ix_eq hi0 hi1
      have hl : (w.1.2.1 (ix r)).2.length ≤ 20 := ho.2.2.1
      have hck := cl_ok (h := h) (a := a) ho hcl hil
      have hrc : rCell w.1 (ix r) (ix i) = c (ix i) := (hcl _ hil).symm
      first | refine z_aload_n dX9_box_25 rfl rfl ?_ | refine z_aload_nN dX9_box_25 rfl rfl ?_
      refine zg_X9_10 rfl dX9_box_26 rfl S0 rfl ?_
      refine zg_X9_69 rfl dX9_box_29 rfl R0.1 rfl ?_
      refine z_iload_n dX9_box_32 rfl rfl ?_
      refine z_aalds dX9_box_33 rfl R0.2.1 rfl rfl (rec_in c4) hF ?_
      first | refine z_astore dX9_box_34 rfl (Nat.le_of_ble_eq_true rfl) ?_ | refine z_astoreN dX9_box_34 rfl (Nat.le_of_ble_eq_true rfl) ?_
      first | refine z_aload dX9_box_36 rfl rfl ?_ | refine z_aloadN dX9_box_36 rfl rfl ?_
      refine zg_X9_107 rfl dX9_box_38 rfl hc.1 rfl ?_
      refine z_iload_n dX9_box_41 rfl rfl ?_
      refine z_iald dX9_box_42 rfl hc.2.1 (by rw [← hie]; exact vp_in_nI (by omega) (by omega)) ?_
      refine z_istore dX9_box_43 rfl (Nat.le_of_ble_eq_true rfl) ?_
      first | refine z_aload_n dX9_box_45 rfl rfl ?_ | refine z_aload_nN dX9_box_45 rfl rfl ?_
      first | refine z_aload dX9_box_46 rfl rfl ?_ | refine z_aloadN dX9_box_46 rfl rfl ?_
      refine z_iload_n dX9_box_48 rfl rfl ?_
      refine z_iload dX9_box_49 rfl rfl ?_
      refine zcx_X9_99 rfl dX9_box_51 rfl hc.1 ((by have z := m_amountAs g h a _ _ c hc (by omega) (ix i) hil (c (ix i)).1 hck.1 (fun e => ⟨by rcases e with e | e <;> rw [e] <;> decide, fun e6 => by have z := (hck.1.2.2.1 e6).2; unfold sReal; rw [if_pos (by rw [e6]; decide)]; exact z⟩); rwa [hie] at z)) rfl rfl ⟨(Nat.le_of_ble_eq_true rfl), (Nat.le_of_ble_eq_true rfl)⟩ ⟨(Nat.le_of_ble_eq_true rfl), (Nat.le_of_ble_eq_true rfl)⟩ (Nat.le_of_ble_eq_true rfl) ?_
      refine zp_X9_103 rfl dX9_box_54 rfl S0 rfl rfl (Nat.le_of_ble_eq_true rfl) ?_
      refine z_iload dX9_box_57 rfl rfl ?_
      exact z_iret dX9_box_59 rfl rfl (cPost_x hR (w' := wGot w (sAmt (c (ix i)) (c (ix i)).1)) ⟨rfl, rfl, rfl, rfl⟩ (by rw [pBox, if_neg (fun z => z c4), if_neg hcf, hrc])) (Nat.le_of_ble_eq_true rfl) (Nat.le_of_ble_eq_true rfl)
    · skip
      refine z_iload_n dX9_box_20 rfl rfl ?_
      refine zcx_X9_62 rfl dX9_box_21 rfl (m_answer g h _) rfl rfl ⟨(Nat.le_of_ble_eq_true rfl), (Nat.le_of_ble_eq_true rfl)⟩ ⟨(Nat.le_of_ble_eq_true rfl), (Nat.le_of_ble_eq_true rfl)⟩ (Nat.le_of_ble_eq_true rfl) ?_
      exact z_iret dX9_box_24 rfl rfl (cPost_same hRC (by rw [pBox, if_neg (fun z => z c4), if_pos (cf_ne c17)])) (Nat.le_of_ble_eq_true rfl) (Nat.le_of_ble_eq_true rfl)
  · skip
    refine z_iconst (v := -1) dX9_box_7 rfl (by decide) ?_
    exact z_iret dX9_box_8 rfl rfl (cPost_same hRC (by grind [pBox])) (Nat.le_of_ble_eq_true rfl) (Nat.le_of_ble_eq_true rfl)

