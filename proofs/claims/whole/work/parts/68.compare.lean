set_option maxHeartbeats 800000 in
set_option maxRecDepth 100000 in
theorem m_traceSteps (g : zG) (h : zH) (a : Nat) (T : alT) (hA0 : alAt h a T) (A B : sA) (lA : A.2.length ≤ 20) (lB : B.2.length ≤ 20) (ra : Nat) (q q' : Nat → Int32) (hr : h.2 ra = some (.inl (0, 4, .inl q'))) (hqq : ∀ i, i < 4 → q' i = q i) (hq : rateOk q) (hT : tC q A.2 B.2 T (fun _ _ => True) (fun _ _ => True)) (p l r s : Nat) (cost : Int32) (hp : p < s ∨ s + 5 ≤ p) (dp : p < a ∨ a + 46 ≤ p) (ds : s + 5 ≤ a ∨ a + 46 ≤ s) (rp : ra ≠ p) (rs : ra < s ∨ s + 5 ≤ ra) (f : Nat → Nat → Int32) (ka kb : Int32) (ca cb : Nat → sC) (hl : cAt h l ka A.2.length ca) (hr2 : cAt h r kb B.2.length cb) (dl : (p < l ∨ l + 4 ≤ p) ∧ (s + 5 ≤ l ∨ l + 4 ≤ s)) (dr : (p < r ∨ r + 4 ≤ p) ∧ (s + 5 ≤ r ∨ r + 4 ≤ s)) : zM g yX0_traceSteps cX0_traceSteps 8 none rmX0_traceSteps [.ref a, .ref p, .ref ra] (kUp p l r s cost 0 (A.2.length + B.2.length) f h) (fun v h1 => v = none ∧ ∃ f, h1 = kUp p l r s cost (sSteps q A.2 B.2 A.2.length B.2.length).length (A.2.length + B.2.length) f h ∧ ∀ k t, (sSteps q A.2 B.2 A.2.length B.2.length)[k]? = some t → stpIs f k t) := by
  refine zM_of (by decide) (Nat.le_of_ble_eq_true rfl) ?_
  first | refine z_aload_n dX0_traceSteps_0 rfl rfl ?_ | refine z_aload_nN dX0_traceSteps_0 rfl rfl ?_
  refine zg_X0_66 rfl dX0_traceSteps_1 rfl kUp_o rfl ?_
  refine zg_X0_26 rfl dX0_traceSteps_4 rfl (cAt_fr hl (fun z z1 z2 => kUp_out (by omega) (by omega))).1 rfl ?_
  refine z_istore_n dX0_traceSteps_7 rfl (Nat.le_of_ble_eq_true rfl) ?_
  first | refine z_aload_n dX0_traceSteps_8 rfl rfl ?_ | refine z_aload_nN dX0_traceSteps_8 rfl rfl ?_
  refine zg_X0_72 rfl dX0_traceSteps_9 rfl kUp_o rfl ?_
  refine zg_X0_26 rfl dX0_traceSteps_12 rfl (cAt_fr hr2 (fun z z1 z2 => kUp_out (by omega) (by omega))).1 rfl ?_
  refine z_istore dX0_traceSteps_15 rfl (Nat.le_of_ble_eq_true rfl) ?_
  refine z_iconst (v := 0) dX0_traceSteps_17 rfl (by decide) ?_
  refine z_istore dX0_traceSteps_18 rfl (Nat.le_of_ble_eq_true rfl) ?_
  refine z_iconst (v := 0) dX0_traceSteps_20 rfl (by decide) ?_
  refine z_istore dX0_traceSteps_21 rfl (Nat.le_of_ble_eq_true rfl) ?_
  refine z_iconst (v := 0) dX0_traceSteps_23 rfl (by decide) ?_
  refine z_istore dX0_traceSteps_24 rfl (Nat.le_of_ble_eq_true rfl) ?_
  refine z_lv [(7, .int (nI ([] : List sStep).length)), (5, .int (nI 0)), (6, .int (nI 0)), (3, .int (nI A.2.length)), (4, .int (nI B.2.length)), (0, .ref a), (1, .ref p), (2, .ref ra)] ⟨rfl, rfl, rfl, rfl, rfl, rfl, rfl, rfl, trivial⟩ ?_
  exact m_trace_L g h a T hA0 A B lA lB ra q q' hr hqq hq hT p l r s cost hp dp ds rp rs (sSteps q A.2 B.2 A.2.length B.2.length) ((A.2.length + B.2.length)) f 0 0 [] (by omega) (by omega) (by omega) (by simp) (fun k t z => absurd z (by simp)) (by simp)
theorem kUp_vu {p l r s : Nat} {cost : Int32} {cnt n : Nat} {f : Nat → Nat → Int32} {h : zH} {x : Nat} (v : Option zOb) (h1 : x ≠ p) (h2 : x < s ∨ s + 5 ≤ x) : ((kUp p l r s cost cnt n f h).1, va_up (kUp p l r s cost cnt n f h).2 x v) = kUp p l r s cost cnt n f (h.1, va_up h.2 x v) := by
  refine Prod.ext rfl (funext fun q => ?_)
  simp only [kUp, va_up]
  by_cases e : q = x
  · rw [if_pos e, if_neg (by omega), if_neg (by omega), if_pos e]
  · simp only [if_neg e]
theorem ss_c1 (q : Nat → Int32) (A B : List sC) : ∀ a b, (sSteps q A B a b).countP (fun t => !decide (t.1 = 2)) = a ∧ (sSteps q A B a b).countP (fun t => !decide (t.1 = 1)) = b
  | 0, 0 => by rw [sSteps]; exact ⟨rfl, rfl⟩
  | a + 1, 0 => by rw [sSteps, List.countP_cons, List.countP_cons]; have := ss_c1 q A B a 0; exact ⟨by rw [this.1]; rfl, by rw [this.2]; rfl⟩
  | 0, b + 1 => by rw [sSteps, List.countP_cons, List.countP_cons]; have := ss_c1 q A B 0 b; exact ⟨by rw [this.1]; rfl, by rw [this.2]; rfl⟩
  | a + 1, b + 1 => by
    rw [sSteps]
    have h1 := ss_c1 q A B a b
    have h2 := ss_c1 q A B a (b + 1)
    have h3 := ss_c1 q A B (a + 1) b
    split
    · rw [List.countP_cons, List.countP_cons]; exact ⟨by rw [h1.1]; rfl, by rw [h1.2]; rfl⟩
    · split
      · rw [List.countP_cons, List.countP_cons]; exact ⟨by rw [h2.1]; rfl, by rw [h2.2]; rfl⟩
      · rw [List.countP_cons, List.countP_cons]; exact ⟨by rw [h3.1]; rfl, by rw [h3.2]; rfl⟩
termination_by a b => a + b
theorem stp_of {q : Nat → Int32} {A B : sA} {t : sStep} (h : stepOk q A.2 B.2 t) : stpOk A B t := by
  rcases h with ⟨i, j, hi, hj, rfl⟩ | ⟨i, hi, rfl⟩ | ⟨j, hj, rfl⟩
  · exact Or.inl ⟨rfl, ⟨i, j, hi, hj, rfl, rfl, sLike_0.symm⟩, sLike_le _ _ _⟩
  · exact Or.inr (Or.inl ⟨rfl, rfl, ⟨i, hi, rfl⟩, by show sAl A.2 i = 3 ∨ sAl A.2 i = 4; unfold sAl; split <;> simp⟩)
  · exact Or.inr (Or.inr ⟨rfl, rfl, ⟨j, hj, rfl⟩, by show sAl B.2 j = 3 ∨ sAl B.2 j = 4; unfold sAl; split <;> simp⟩)
theorem cell_out {x m : Nat} {h : zH} {col : Nat → Nat} (hz : zone x m h col) {a : Nat} (hc : ∀ q, a ≤ q → q < a + 4 → col q = 2) : a + 4 ≤ x + 4 ∨ x + 57 ≤ a := by
  rcases Nat.lt_or_ge (x + 4) (a + 4) with z | z
  · rcases Nat.lt_or_ge a (x + 57) with z2 | z2
    · exfalso
      rcases Nat.lt_or_ge a (x + 4) with z3 | z3
      · have e1 := hc (x + 4) (by omega) (by omega)
        rw [hz.2.2.1 (x + 4) (by omega) (by omega) (by omega)] at e1
        exact absurd e1 (by decide)
      · have e1 := hc a (by omega) (by omega)
        rw [hz.2.2.1 a (by omega) (by omega) (by omega)] at e1
        exact absurd e1 (by decide)
    · exact Or.inr z2
  · exact Or.inl z
theorem RC_al {x m : Nat} {h : zH} {w : sW} {col : Nat → Nat} {p : Nat} {F : Nat → Option Nat} {Z : Nat → Int32} {k : Option Nat} {I P : Nat → Option Nat} {q : Nat → Int32} {T : alT} {V : Nat → sC} (hR : RC h x m w col p F Z k I P q T V) (T' : alT) : RC (alUp (x + 7) T' h) x m w col p F Z k I P q T' V ∧ ext h (alUp (x + 7) T' h) col col D1 := by
  obtain ⟨a1, a2, a3, a4, a5, a6⟩ := hR.2.2.1
  have hx := vu_st (w' := w) hR (alUp (x + 7) T' h).2 (fun a ha => alUp_out (by omega))
  exact ⟨RC_st hR hx ⟨(alUp_out (by omega)).trans a1, (alUp_out (by omega)).trans a2, (alUp_out (by omega)).trans a3, (alUp_out (by omega)).trans a4, alUp_at a5, cAt_fr a6 (fun q q1 q2 => alUp_out (by omega))⟩ hR.2.2.2.1 rfl rfl rfl, hx⟩
theorem RC_co {x m : Nat} {h h1 : zH} {w : sW} {col col' : Nat → Nat} {p : Nat} {F : Nat → Option Nat} {Z : Nat → Int32} {k : Option Nat} {I P : Nat → Option Nat} {q : Nat → Int32} {T : alT} {V : Nat → sC} (hR : RC h x m w col p F Z k I P q T V) (hx : ext h h1 col col' D1) {kp : Nat} {C : sCo} (hs : stAt h1 x p (some kp) w.2.2.2.1 w.2.2.2.2.1 I P q T V) (hk : kIs h1 col' kp C) : RC h1 x m (wCo w (some C)) col' p F Z (some kp) I P q T V := by
  obtain ⟨a1, a2, a3, a4, a5, a6⟩ := hR
  obtain ⟨b1, b2, b3⟩ := a6
  exact ⟨hx.2.1, zone_ext hx a2, hs, a4, rcAt_ext a1 hx a5 (by unfold D1; omega) (by unfold D1; omega), fun i hi => imgC_ext a1 hx (b1 i hi) (by unfold D1; omega), ⟨kp, rfl, hk⟩, fun i hi => patC_ext a1 hx (b3 i hi) (by unfold D1; omega) (by unfold D1; omega)⟩

set_option maxHeartbeats 800000 in
set_option maxRecDepth 100000 in
theorem C_compare (g : zG) (h : zH) (x m : Nat) (w : sW) (hRC : RepC h x m w) (a b : Int32) : zM g yX9_compare cX9_compare 6 (some .int) rmX9_compare [.ref x, .int a, .int b] h (cPost x m h (pCompare w a b)) := by
  refine zM_of (by decide) (Nat.le_of_ble_eq_true rfl) ?_
  obtain ⟨col, p, F, Z, k, I, P, q, T, V, hR⟩ := id hRC
  obtain ⟨hw, hz, hS, hq, hr, hX⟩ := id hR
  obtain ⟨S0, S1, S2, S3, S4, S5⟩ := id hS
  obtain ⟨R0, R1, R2, R3⟩ := id hr
  refine z_iload_n dX9_compare_0 rfl rfl ?_
  refine zcx_X9_46 rfl dX9_compare_1 rfl (m_isRecord g h _) rfl rfl ⟨(Nat.le_of_ble_eq_true rfl), (Nat.le_of_ble_eq_true rfl)⟩ ⟨(Nat.le_of_ble_eq_true rfl), (Nat.le_of_ble_eq_true rfl)⟩ (Nat.le_of_ble_eq_true rfl) ?_
  refine z_bif_eq (tgt := 14) dX9_compare_4 rfl (by decide) (fun c4 => ?_) (fun c4 => ?_)
  · skip
    refine z_iconst (v := -1) dX9_compare_14 rfl (by decide) ?_
    exact z_iret dX9_compare_15 rfl rfl (cPost_same hRC (by grind [pCompare])) (Nat.le_of_ble_eq_true rfl) (Nat.le_of_ble_eq_true rfl)
  · skip
    refine z_iload_n dX9_compare_7 rfl rfl ?_
    refine zcx_X9_46 rfl dX9_compare_8 rfl (m_isRecord g h _) rfl rfl ⟨(Nat.le_of_ble_eq_true rfl), (Nat.le_of_ble_eq_true rfl)⟩ ⟨(Nat.le_of_ble_eq_true rfl), (Nat.le_of_ble_eq_true rfl)⟩ (Nat.le_of_ble_eq_true rfl) ?_
    refine z_bif_ne (tgt := 16) dX9_compare_11 rfl (by decide) (fun c11 => ?_) (fun c11 => ?_)
    · skip
      rcases hFa : F (ix a) with _ | aa
      · have hrfa := rf_n hr (ix_lt c4) hFa
        have hposa : 0 < rowF w.1 (ix a) := by rw [← hrfa]; split <;> decide
        first | refine z_aload_n dX9_compare_16 rfl rfl ?_ | refine z_aload_nN dX9_compare_16 rfl rfl ?_
        refine zg_X9_10 rfl dX9_compare_17 rfl S0 rfl ?_
        refine zg_X9_69 rfl dX9_compare_20 rfl R0.1 rfl ?_
        refine z_iload_n dX9_compare_23 rfl rfl ?_
        refine z_aaldn dX9_compare_24 rfl R0.2.1 rfl rfl (rec_in c4) hFa ?_
        first | refine z_astore_n dX9_compare_25 rfl (Nat.le_of_ble_eq_true rfl) ?_ | refine z_astore_nN dX9_compare_25 rfl (Nat.le_of_ble_eq_true rfl) ?_
        first | refine z_aload_n dX9_compare_26 rfl rfl ?_ | refine z_aload_nN dX9_compare_26 rfl rfl ?_
        refine z_ifnonnullN dX9_compare_27 rfl ?_
        first | refine z_aload_n dX9_compare_30 rfl rfl ?_ | refine z_aload_nN dX9_compare_30 rfl rfl ?_
        refine zg_X9_10 rfl dX9_compare_31 rfl S0 rfl ?_
        refine z_iload_n dX9_compare_34 rfl rfl ?_
        refine zcx_X9_85 rfl dX9_compare_35 rfl R0.1 (m_faultI g h p F Z R0 _ c4) rfl rfl ⟨(Nat.le_of_ble_eq_true rfl), (Nat.le_of_ble_eq_true rfl)⟩ ⟨(Nat.le_of_ble_eq_true rfl), (Nat.le_of_ble_eq_true rfl)⟩ (Nat.le_of_ble_eq_true rfl) ?_
        refine zcx_X9_62 rfl dX9_compare_38 rfl (m_answer g h _) rfl rfl ⟨(Nat.le_of_ble_eq_true rfl), (Nat.le_of_ble_eq_true rfl)⟩ ⟨(Nat.le_of_ble_eq_true rfl), (Nat.le_of_ble_eq_true rfl)⟩ (Nat.le_of_ble_eq_true rfl) ?_
        exact z_iret dX9_compare_41 rfl rfl (cPost_same hRC (by rw [pCompare, if_neg (by grind), if_pos hposa, hrfa])) (Nat.le_of_ble_eq_true rfl) (Nat.le_of_ble_eq_true rfl)
      · obtain ⟨h2a, hZa, ⟨hoa, ca, hca, hcla⟩, hcola⟩ := rc_a hr (ix_lt c4) hFa
        have hrfa := rf_a hr (ix_lt c4) hFa
        have hla : (w.1.2.1 (ix a)).2.length ≤ 20 := hoa.2.2.1
        have hoax := cell_out hz hcola
        have hlta := cAt_lt hca hw
        rcases hFb : F (ix b) with _ | ab
        · have hrfb := rf_n hr (ix_lt c11) hFb
          have hposb : 0 < rowF w.1 (ix b) := by rw [← hrfb]; split <;> decide
          first | refine z_aload_n dX9_compare_16 rfl rfl ?_ | refine z_aload_nN dX9_compare_16 rfl rfl ?_
          refine zg_X9_10 rfl dX9_compare_17 rfl S0 rfl ?_
          refine zg_X9_69 rfl dX9_compare_20 rfl R0.1 rfl ?_
          refine z_iload_n dX9_compare_23 rfl rfl ?_
          refine z_aalds dX9_compare_24 rfl R0.2.1 rfl rfl (rec_in c4) hFa ?_
          first | refine z_astore_n dX9_compare_25 rfl (Nat.le_of_ble_eq_true rfl) ?_ | refine z_astore_nN dX9_compare_25 rfl (Nat.le_of_ble_eq_true rfl) ?_
          first | refine z_aload_n dX9_compare_26 rfl rfl ?_ | refine z_aload_nN dX9_compare_26 rfl rfl ?_
          refine z_ifnonnull (tgt := 42) dX9_compare_27 rfl (by decide) ?_
          first | refine z_aload_n dX9_compare_42 rfl rfl ?_ | refine z_aload_nN dX9_compare_42 rfl rfl ?_
          refine zg_X9_10 rfl dX9_compare_43 rfl S0 rfl ?_
          refine zg_X9_69 rfl dX9_compare_46 rfl R0.1 rfl ?_
          refine z_iload_n dX9_compare_49 rfl rfl ?_
          refine z_aaldn dX9_compare_50 rfl R0.2.1 rfl rfl (rec_in c11) hFb ?_
          first | refine z_astore dX9_compare_51 rfl (Nat.le_of_ble_eq_true rfl) ?_ | refine z_astoreN dX9_compare_51 rfl (Nat.le_of_ble_eq_true rfl) ?_
          first | refine z_aload dX9_compare_53 rfl rfl ?_ | refine z_aloadN dX9_compare_53 rfl rfl ?_
          refine z_ifnonnullN dX9_compare_55 rfl ?_
          first | refine z_aload_n dX9_compare_58 rfl rfl ?_ | refine z_aload_nN dX9_compare_58 rfl rfl ?_
          refine zg_X9_10 rfl dX9_compare_59 rfl S0 rfl ?_
          refine z_iload_n dX9_compare_62 rfl rfl ?_
          refine zcx_X9_85 rfl dX9_compare_63 rfl R0.1 (m_faultI g h p F Z R0 _ c11) rfl rfl ⟨(Nat.le_of_ble_eq_true rfl), (Nat.le_of_ble_eq_true rfl)⟩ ⟨(Nat.le_of_ble_eq_true rfl), (Nat.le_of_ble_eq_true rfl)⟩ (Nat.le_of_ble_eq_true rfl) ?_
          refine zcx_X9_62 rfl dX9_compare_66 rfl (m_answer g h _) rfl rfl ⟨(Nat.le_of_ble_eq_true rfl), (Nat.le_of_ble_eq_true rfl)⟩ ⟨(Nat.le_of_ble_eq_true rfl), (Nat.le_of_ble_eq_true rfl)⟩ (Nat.le_of_ble_eq_true rfl) ?_
          exact z_iret dX9_compare_69 rfl rfl (cPost_same hRC (by rw [pCompare, if_neg (by grind), if_neg (by rw [hrfa]; decide), if_pos hposb, hrfb])) (Nat.le_of_ble_eq_true rfl) (Nat.le_of_ble_eq_true rfl)
        · obtain ⟨h2b, hZb, ⟨hob, cb, hcb, hclb⟩, hcolb⟩ := rc_a hr (ix_lt c11) hFb
          have hrfb := rf_a hr (ix_lt c11) hFb
          have hlb : (w.1.2.1 (ix b)).2.length ≤ 20 := hob.2.2.1
          have hobx := cell_out hz hcolb
          have hltb := cAt_lt hcb hw
          first | refine z_aload_n dX9_compare_16 rfl rfl ?_ | refine z_aload_nN dX9_compare_16 rfl rfl ?_
          refine zg_X9_10 rfl dX9_compare_17 rfl S0 rfl ?_
          refine zg_X9_69 rfl dX9_compare_20 rfl R0.1 rfl ?_
          refine z_iload_n dX9_compare_23 rfl rfl ?_
          refine z_aalds dX9_compare_24 rfl R0.2.1 rfl rfl (rec_in c4) hFa ?_
          first | refine z_astore_n dX9_compare_25 rfl (Nat.le_of_ble_eq_true rfl) ?_ | refine z_astore_nN dX9_compare_25 rfl (Nat.le_of_ble_eq_true rfl) ?_
          first | refine z_aload_n dX9_compare_26 rfl rfl ?_ | refine z_aload_nN dX9_compare_26 rfl rfl ?_
          refine z_ifnonnull (tgt := 42) dX9_compare_27 rfl (by decide) ?_
          first | refine z_aload_n dX9_compare_42 rfl rfl ?_ | refine z_aload_nN dX9_compare_42 rfl rfl ?_
          refine zg_X9_10 rfl dX9_compare_43 rfl S0 rfl ?_
          refine zg_X9_69 rfl dX9_compare_46 rfl R0.1 rfl ?_
          refine z_iload_n dX9_compare_49 rfl rfl ?_
          refine z_aalds dX9_compare_50 rfl R0.2.1 rfl rfl (rec_in c11) hFb ?_
          first | refine z_astore dX9_compare_51 rfl (Nat.le_of_ble_eq_true rfl) ?_ | refine z_astoreN dX9_compare_51 rfl (Nat.le_of_ble_eq_true rfl) ?_
          first | refine z_aload dX9_compare_53 rfl rfl ?_ | refine z_aloadN dX9_compare_53 rfl rfl ?_
          refine z_ifnonnull (tgt := 70) dX9_compare_55 rfl (by decide) ?_
          first | refine z_aload_n dX9_compare_70 rfl rfl ?_ | refine z_aload_nN dX9_compare_70 rfl rfl ?_
          refine zg_X9_33 rfl dX9_compare_71 rfl S0 rfl ?_
          first | refine z_aload_n dX9_compare_74 rfl rfl ?_ | refine z_aload_nN dX9_compare_74 rfl rfl ?_
          first | refine z_aload dX9_compare_75 rfl rfl ?_ | refine z_aloadN dX9_compare_75 rfl rfl ?_
          first | refine z_aload_n dX9_compare_77 rfl rfl ?_ | refine z_aload_nN dX9_compare_77 rfl rfl ?_
          refine zg_X9_26 rfl dX9_compare_78 rfl S0 rfl ?_
          refine zc_X9_134 rfl dX9_compare_81 rfl S4.1 (m_leastCost g h (x + 7) T S4 aa ab (w.1.2.1 (ix a)) (w.1.2.1 (ix b)) ca cb hoa hca hcla hob hcb hclb (by omega) (by omega) (x + 6) w.2.2.1 q S3 (by omega) hq.1 hq.2) rfl rfl ⟨(Nat.le_of_ble_eq_true rfl), (Nat.le_of_ble_eq_true rfl)⟩ ⟨(Nat.le_of_ble_eq_true rfl), (Nat.le_of_ble_eq_true rfl)⟩ (Nat.le_of_ble_eq_true rfl) (fun v h1 hz1 => ?_)
          obtain ⟨rfl, T1, rfl, hT1⟩ := hz1
          have hm20 := hz.2.1
          have hmx := hz.1
          have hR1 := (RC_al hR T1).1
          have hw1 := hR1.1
          have hw2 : wfH ((h.1 + 1, (va_up (alUp (x + 7) T1 h).2 h.1 (some (.inr (3, [.null, .null, .int 0, .null, .null, .null, .null, .null, .int 0]))))) : zH) := fun z hz2 => (vu_n (by have : h.1 + 1 ≤ z := hz2; omega)).trans (hw1 z (by have : h.1 + 1 ≤ z := hz2; show h.1 ≤ z; omega))
          have hca2 : cAt ((h.1 + 1, (va_up (alUp (x + 7) T1 h).2 h.1 (some (.inr (3, [.null, .null, .int 0, .null, .null, .null, .null, .null, .int 0]))))) : zH) aa (w.1.2.1 (ix a)).1 (w.1.2.1 (ix a)).2.length ca := cAt_fr hca (fun z z1 z2 => (vu_n (by omega)).trans (alUp_out (by omega)))
          have hcb2 : cAt ((h.1 + 1, (va_up (alUp (x + 7) T1 h).2 h.1 (some (.inr (3, [.null, .null, .int 0, .null, .null, .null, .null, .null, .int 0]))))) : zH) ab (w.1.2.1 (ix b)).1 (w.1.2.1 (ix b)).2.length cb := cAt_fr hcb (fun z z1 z2 => (vu_n (by omega)).trans (alUp_out (by omega)))
          have hw3 : wfH (cUp (h.1 + 1) (w.1.2.1 (ix a)).1 (w.1.2.1 (ix a)).2.length (cCp ca (w.1.2.1 (ix a)).1 (w.1.2.1 (ix a)).2.length (w.1.2.1 (ix a)).2.length) (h.1 + 1 + 4, ((h.1 + 1, (va_up (alUp (x + 7) T1 h).2 h.1 (some (.inr (3, [.null, .null, .int 0, .null, .null, .null, .null, .null, .int 0]))))) : zH).2)) := wf_cUp hw2 _ _ _
          have hcb3 : cAt (cUp (h.1 + 1) (w.1.2.1 (ix a)).1 (w.1.2.1 (ix a)).2.length (cCp ca (w.1.2.1 (ix a)).1 (w.1.2.1 (ix a)).2.length (w.1.2.1 (ix a)).2.length) (h.1 + 1 + 4, ((h.1 + 1, (va_up (alUp (x + 7) T1 h).2 h.1 (some (.inr (3, [.null, .null, .int 0, .null, .null, .null, .null, .null, .int 0]))))) : zH).2)) ab (w.1.2.1 (ix b)).1 (w.1.2.1 (ix b)).2.length cb := cAt_fr hcb2 (fun z z1 z2 => cUp_out (by omega))
          have hw4 : wfH (cUp (h.1 + 1 + 4) (w.1.2.1 (ix b)).1 (w.1.2.1 (ix b)).2.length (cCp cb (w.1.2.1 (ix b)).1 (w.1.2.1 (ix b)).2.length (w.1.2.1 (ix b)).2.length) (h.1 + 1 + 4 + 4, (cUp (h.1 + 1) (w.1.2.1 (ix a)).1 (w.1.2.1 (ix a)).2.length (cCp ca (w.1.2.1 (ix a)).1 (w.1.2.1 (ix a)).2.length (w.1.2.1 (ix a)).2.length) (h.1 + 1 + 4, ((h.1 + 1, (va_up (alUp (x + 7) T1 h).2 h.1 (some (.inr (3, [.null, .null, .int 0, .null, .null, .null, .null, .null, .int 0]))))) : zH).2)).2)) := wf_cUp hw3 _ _ _
          have hL4 : cAt (cUp (h.1 + 1 + 4) (w.1.2.1 (ix b)).1 (w.1.2.1 (ix b)).2.length (cCp cb (w.1.2.1 (ix b)).1 (w.1.2.1 (ix b)).2.length (w.1.2.1 (ix b)).2.length) (h.1 + 1 + 4 + 4, (cUp (h.1 + 1) (w.1.2.1 (ix a)).1 (w.1.2.1 (ix a)).2.length (cCp ca (w.1.2.1 (ix a)).1 (w.1.2.1 (ix a)).2.length (w.1.2.1 (ix a)).2.length) (h.1 + 1 + 4, ((h.1 + 1, (va_up (alUp (x + 7) T1 h).2 h.1 (some (.inr (3, [.null, .null, .int 0, .null, .null, .null, .null, .null, .int 0]))))) : zH).2)).2)) (h.1 + 1) (w.1.2.1 (ix a)).1 (w.1.2.1 (ix a)).2.length (cCp ca (w.1.2.1 (ix a)).1 (w.1.2.1 (ix a)).2.length (w.1.2.1 (ix a)).2.length) := cAt_fr (cUp_at _ _ _ _ _) (fun z z1 z2 => cUp_out (by omega))
          have hR4 : cAt (cUp (h.1 + 1 + 4) (w.1.2.1 (ix b)).1 (w.1.2.1 (ix b)).2.length (cCp cb (w.1.2.1 (ix b)).1 (w.1.2.1 (ix b)).2.length (w.1.2.1 (ix b)).2.length) (h.1 + 1 + 4 + 4, (cUp (h.1 + 1) (w.1.2.1 (ix a)).1 (w.1.2.1 (ix a)).2.length (cCp ca (w.1.2.1 (ix a)).1 (w.1.2.1 (ix a)).2.length (w.1.2.1 (ix a)).2.length) (h.1 + 1 + 4, ((h.1 + 1, (va_up (alUp (x + 7) T1 h).2 h.1 (some (.inr (3, [.null, .null, .int 0, .null, .null, .null, .null, .null, .int 0]))))) : zH).2)).2)) (h.1 + 1 + 4) (w.1.2.1 (ix b)).1 (w.1.2.1 (ix b)).2.length (cCp cb (w.1.2.1 (ix b)).1 (w.1.2.1 (ix b)).2.length (w.1.2.1 (ix b)).2.length) := cUp_at _ _ _ _ _
          have hk4 : (cUp (h.1 + 1 + 4) (w.1.2.1 (ix b)).1 (w.1.2.1 (ix b)).2.length (cCp cb (w.1.2.1 (ix b)).1 (w.1.2.1 (ix b)).2.length (w.1.2.1 (ix b)).2.length) (h.1 + 1 + 4 + 4, (cUp (h.1 + 1) (w.1.2.1 (ix a)).1 (w.1.2.1 (ix a)).2.length (cCp ca (w.1.2.1 (ix a)).1 (w.1.2.1 (ix a)).2.length (w.1.2.1 (ix a)).2.length) (h.1 + 1 + 4, ((h.1 + 1, (va_up (alUp (x + 7) T1 h).2 h.1 (some (.inr (3, [.null, .null, .int 0, .null, .null, .null, .null, .null, .int 0]))))) : zH).2)).2)).2 h.1 = some (.inr (3, [.null, .null, .int 0, .null, .null, .null, .null, .null, .int 0])) := (cUp_out (by omega)).trans ((cUp_out (by omega)).trans vu_s)
          have hold : ∀ z, z < h.1 → (cUp (h.1 + 1 + 4) (w.1.2.1 (ix b)).1 (w.1.2.1 (ix b)).2.length (cCp cb (w.1.2.1 (ix b)).1 (w.1.2.1 (ix b)).2.length (w.1.2.1 (ix b)).2.length) (h.1 + 1 + 4 + 4, (cUp (h.1 + 1) (w.1.2.1 (ix a)).1 (w.1.2.1 (ix a)).2.length (cCp ca (w.1.2.1 (ix a)).1 (w.1.2.1 (ix a)).2.length (w.1.2.1 (ix a)).2.length) (h.1 + 1 + 4, ((h.1 + 1, (va_up (alUp (x + 7) T1 h).2 h.1 (some (.inr (3, [.null, .null, .int 0, .null, .null, .null, .null, .null, .int 0]))))) : zH).2)).2)).2 z = (alUp (x + 7) T1 h).2 z := fun z hz2 => (cUp_out (by omega)).trans ((cUp_out (by omega)).trans (vu_n (by omega)))
          obtain ⟨t0, t1, t2, t3, t4, t5⟩ := hR1.2.2.1
          refine z_istore dX9_compare_84 rfl (Nat.le_of_ble_eq_true rfl) ?_
          first | refine z_aload_n dX9_compare_86 rfl rfl ?_ | refine z_aload_nN dX9_compare_86 rfl rfl ?_
          refine zn_X9_138 rfl dX9_compare_87 rfl (Nat.le_of_ble_eq_true rfl) (Nat.le_of_ble_eq_true rfl) ?_
          refine z_dup dX9_compare_90 rfl rfl ?_
          change zZ _ _ _ _ _ (.ref h.1 :: .ref h.1 :: _) ((h.1 + 1, (va_up (alUp (x + 7) T1 h).2 h.1 (some (.inr (3, [.null, .null, .int 0, .null, .null, .null, .null, .null, .int 0]))))) : zH) _ _
          first | refine z_aload_n dX9_compare_91 rfl rfl ?_ | refine z_aload_nN dX9_compare_91 rfl rfl ?_
          refine zcx_X9_140 rfl dX9_compare_92 rfl hca2.1 (m_copy g ((h.1 + 1, (va_up (alUp (x + 7) T1 h).2 h.1 (some (.inr (3, [.null, .null, .int 0, .null, .null, .null, .null, .null, .int 0]))))) : zH) aa _ _ ca hca2 (by omega) hw2 ⟨hoa.1, hoa.2.1⟩ (fun i hi => cl_ok (h := h) (a := aa) hoa hcla hi)) rfl rfl ⟨(Nat.le_of_ble_eq_true rfl), (Nat.le_of_ble_eq_true rfl)⟩ ⟨(Nat.le_of_ble_eq_true rfl), (Nat.le_of_ble_eq_true rfl)⟩ (Nat.le_of_ble_eq_true rfl) ?_
          change zZ _ _ _ _ _ (.ref (h.1 + 1) :: _) (cUp (h.1 + 1) (w.1.2.1 (ix a)).1 (w.1.2.1 (ix a)).2.length (cCp ca (w.1.2.1 (ix a)).1 (w.1.2.1 (ix a)).2.length (w.1.2.1 (ix a)).2.length) (h.1 + 1 + 4, ((h.1 + 1, (va_up (alUp (x + 7) T1 h).2 h.1 (some (.inr (3, [.null, .null, .int 0, .null, .null, .null, .null, .null, .int 0]))))) : zH).2)) _ _
          first | refine z_aload dX9_compare_95 rfl rfl ?_ | refine z_aloadN dX9_compare_95 rfl rfl ?_
          refine zcx_X9_140 rfl dX9_compare_97 rfl hcb3.1 (m_copy g (cUp (h.1 + 1) (w.1.2.1 (ix a)).1 (w.1.2.1 (ix a)).2.length (cCp ca (w.1.2.1 (ix a)).1 (w.1.2.1 (ix a)).2.length (w.1.2.1 (ix a)).2.length) (h.1 + 1 + 4, ((h.1 + 1, (va_up (alUp (x + 7) T1 h).2 h.1 (some (.inr (3, [.null, .null, .int 0, .null, .null, .null, .null, .null, .int 0]))))) : zH).2)) ab _ _ cb hcb3 (by omega) hw3 ⟨hob.1, hob.2.1⟩ (fun i hi => cl_ok (h := h) (a := ab) hob hclb hi)) rfl rfl ⟨(Nat.le_of_ble_eq_true rfl), (Nat.le_of_ble_eq_true rfl)⟩ ⟨(Nat.le_of_ble_eq_true rfl), (Nat.le_of_ble_eq_true rfl)⟩ (Nat.le_of_ble_eq_true rfl) ?_
          change zZ _ _ _ _ _ (.ref (h.1 + 1 + 4) :: _) (cUp (h.1 + 1 + 4) (w.1.2.1 (ix b)).1 (w.1.2.1 (ix b)).2.length (cCp cb (w.1.2.1 (ix b)).1 (w.1.2.1 (ix b)).2.length (w.1.2.1 (ix b)).2.length) (h.1 + 1 + 4 + 4, (cUp (h.1 + 1) (w.1.2.1 (ix a)).1 (w.1.2.1 (ix a)).2.length (cCp ca (w.1.2.1 (ix a)).1 (w.1.2.1 (ix a)).2.length (w.1.2.1 (ix a)).2.length) (h.1 + 1 + 4, ((h.1 + 1, (va_up (alUp (x + 7) T1 h).2 h.1 (some (.inr (3, [.null, .null, .int 0, .null, .null, .null, .null, .null, .int 0]))))) : zH).2)).2)) _ _
          have hG1 : (cUp (h.1 + 1 + 4) (w.1.2.1 (ix b)).1 (w.1.2.1 (ix b)).2.length (cCp cb (w.1.2.1 (ix b)).1 (w.1.2.1 (ix b)).2.length (w.1.2.1 (ix b)).2.length) (h.1 + 1 + 4 + 4, (cUp (h.1 + 1) (w.1.2.1 (ix a)).1 (w.1.2.1 (ix a)).2.length (cCp ca (w.1.2.1 (ix a)).1 (w.1.2.1 (ix a)).2.length (w.1.2.1 (ix a)).2.length) (h.1 + 1 + 4, ((h.1 + 1, (va_up (alUp (x + 7) T1 h).2 h.1 (some (.inr (3, [.null, .null, .int 0, .null, .null, .null, .null, .null, .int 0]))))) : zH).2)).2)).1 = h.1 + 1 + 4 + 4 := rfl
          generalize (cUp (h.1 + 1 + 4) (w.1.2.1 (ix b)).1 (w.1.2.1 (ix b)).2.length (cCp cb (w.1.2.1 (ix b)).1 (w.1.2.1 (ix b)).2.length (w.1.2.1 (ix b)).2.length) (h.1 + 1 + 4 + 4, (cUp (h.1 + 1) (w.1.2.1 (ix a)).1 (w.1.2.1 (ix a)).2.length (cCp ca (w.1.2.1 (ix a)).1 (w.1.2.1 (ix a)).2.length (w.1.2.1 (ix a)).2.length) (h.1 + 1 + 4, ((h.1 + 1, (va_up (alUp (x + 7) T1 h).2 h.1 (some (.inr (3, [.null, .null, .int 0, .null, .null, .null, .null, .null, .int 0]))))) : zH).2)).2)) = G4 at hw4 hL4 hR4 hk4 hold hG1 ⊢
          refine zZ_h (h.1 + 1 + 4 + 4, G4.2) (Prod.ext hG1 rfl) ?_
          refine z_iload dX9_compare_100 rfl rfl ?_
          refine zc_X9_144 rfl dX9_compare_102 rfl (m_kinit g G4.2 h.1 (h.1 + 1 + 4 + 4) _ hk4 rfl rfl (by omega) (h.1 + 1) (h.1 + 1 + 4) _ _ _ _ _ _ (cAt_fr hL4 (fun _ _ _ => rfl)) (cAt_fr hR4 (fun _ _ _ => rfl)) ⟨by omega, by omega⟩ (by omega) (nI (dC w.2.2.1 (w.1.2.1 (ix a)).2 (w.1.2.1 (ix b)).2 (w.1.2.1 (ix a)).2.length (w.1.2.1 (ix b)).2.length))) rfl rfl ⟨(Nat.le_of_ble_eq_true rfl), (Nat.le_of_ble_eq_true rfl)⟩ ⟨(Nat.le_of_ble_eq_true rfl), (Nat.le_of_ble_eq_true rfl)⟩ (Nat.le_of_ble_eq_true rfl) (fun v h1 hz1 => ?_)
          obtain ⟨rfl, rfl⟩ := hz1
          refine zp_X9_147 rfl dX9_compare_105 rfl ((kUp_out (by omega) (by omega)).trans ((hold x (by omega)).trans t0)) rfl rfl (Nat.le_of_ble_eq_true rfl) ?_
          refine zZ_h (kUp h.1 (h.1 + 1) (h.1 + 1 + 4) (h.1 + 1 + 4 + 4) (nI (dC w.2.2.1 (w.1.2.1 (ix a)).2 (w.1.2.1 (ix b)).2 (w.1.2.1 (ix a)).2.length (w.1.2.1 (ix b)).2.length)) 0 ((w.1.2.1 (ix a)).2.length + (w.1.2.1 (ix b)).2.length) (fun _ _ => 0) ((h.1 + 1 + 4 + 4 + 5, va_up G4.2 x (some (xOb x p (some h.1) w.2.2.2.1 w.2.2.2.2.1))) : zH)) (kUp_vu _ (by omega) (by omega)) ?_
          first | refine z_aload_n dX9_compare_108 rfl rfl ?_ | refine z_aload_nN dX9_compare_108 rfl rfl ?_
          refine zg_X9_33 rfl dX9_compare_109 rfl ((kUp_out (by omega) (by omega)).trans vu_s) rfl ?_
          first | refine z_aload_n dX9_compare_112 rfl rfl ?_ | refine z_aload_nN dX9_compare_112 rfl rfl ?_
          refine zg_X9_147 rfl dX9_compare_113 rfl ((kUp_out (by omega) (by omega)).trans vu_s) rfl ?_
          first | refine z_aload_n dX9_compare_116 rfl rfl ?_ | refine z_aload_nN dX9_compare_116 rfl rfl ?_
          refine zg_X9_26 rfl dX9_compare_117 rfl ((kUp_out (by omega) (by omega)).trans vu_s) rfl ?_
          refine zc_X9_151 rfl dX9_compare_120 rfl ((kUp_out (by omega) (by omega)).trans ((vu_n (by omega)).trans ((hold (x + 7) (by omega)).trans t4.1))) (m_traceSteps g ((h.1 + 1 + 4 + 4 + 5, va_up G4.2 x (some (xOb x p (some h.1) w.2.2.2.1 w.2.2.2.2.1))) : zH) (x + 7) T1 (alAt_fr t4 (fun z z1 z2 => (vu_n (by omega)).trans (hold z (by omega)))) (w.1.2.1 (ix a)) (w.1.2.1 (ix b)) hla hlb (x + 6) w.2.2.1 q ((vu_n (by omega)).trans ((hold (x + 6) (by omega)).trans t3)) hq.1 hq.2 hT1 h.1 (h.1 + 1) (h.1 + 1 + 4) (h.1 + 1 + 4 + 4) (nI (dC w.2.2.1 (w.1.2.1 (ix a)).2 (w.1.2.1 (ix b)).2 (w.1.2.1 (ix a)).2.length (w.1.2.1 (ix b)).2.length)) (by omega) (by omega) (by omega) (by omega) (by omega) (fun _ _ => 0) _ _ _ _ (cAt_fr hL4 (fun z z1 z2 => vu_n (by omega))) (cAt_fr hR4 (fun z z1 z2 => vu_n (by omega))) (by omega) (by omega)) rfl rfl ⟨(Nat.le_of_ble_eq_true rfl), (Nat.le_of_ble_eq_true rfl)⟩ ⟨(Nat.le_of_ble_eq_true rfl), (Nat.le_of_ble_eq_true rfl)⟩ (Nat.le_of_ble_eq_true rfl) (fun v h1 hz1 => ?_)
          obtain ⟨rfl, f1, rfl, hf1⟩ := hz1
          refine z_iload dX9_compare_123 rfl rfl ?_
          have hwF : wfH (kUp h.1 (h.1 + 1) (h.1 + 1 + 4) (h.1 + 1 + 4 + 4) (nI (dC w.2.2.1 (w.1.2.1 (ix a)).2 (w.1.2.1 (ix b)).2 (w.1.2.1 (ix a)).2.length (w.1.2.1 (ix b)).2.length)) (sSteps w.2.2.1 (w.1.2.1 (ix a)).2 (w.1.2.1 (ix b)).2 (w.1.2.1 (ix a)).2.length (w.1.2.1 (ix b)).2.length).length ((w.1.2.1 (ix a)).2.length + (w.1.2.1 (ix b)).2.length) f1 ((h.1 + 1 + 4 + 4 + 5, va_up G4.2 x (some (xOb x p (some h.1) w.2.2.2.1 w.2.2.2.2.1))) : zH)) := fun z hz2 => by
            have hz2 : h.1 + 1 + 4 + 4 + 5 ≤ z := hz2
            rw [kUp_out (by omega) (by omega)]
            exact (vu_n (by omega)).trans (hw4 z (by rw [hG1]; omega))
          have holdF : ∀ z, z < h.1 → z ≠ x → (kUp h.1 (h.1 + 1) (h.1 + 1 + 4) (h.1 + 1 + 4 + 4) (nI (dC w.2.2.1 (w.1.2.1 (ix a)).2 (w.1.2.1 (ix b)).2 (w.1.2.1 (ix a)).2.length (w.1.2.1 (ix b)).2.length)) (sSteps w.2.2.1 (w.1.2.1 (ix a)).2 (w.1.2.1 (ix b)).2 (w.1.2.1 (ix a)).2.length (w.1.2.1 (ix b)).2.length).length ((w.1.2.1 (ix a)).2.length + (w.1.2.1 (ix b)).2.length) f1 ((h.1 + 1 + 4 + 4 + 5, va_up G4.2 x (some (xOb x p (some h.1) w.2.2.2.1 w.2.2.2.2.1))) : zH)).2 z = (alUp (x + 7) T1 h).2 z := fun z hz2 hzx => (kUp_out (by omega) (by omega)).trans ((vu_n hzx).trans (hold z hz2))
          have hxF : ext (alUp (x + 7) T1 h) (kUp h.1 (h.1 + 1) (h.1 + 1 + 4) (h.1 + 1 + 4 + 4) (nI (dC w.2.2.1 (w.1.2.1 (ix a)).2 (w.1.2.1 (ix b)).2 (w.1.2.1 (ix a)).2.length (w.1.2.1 (ix b)).2.length)) (sSteps w.2.2.1 (w.1.2.1 (ix a)).2 (w.1.2.1 (ix b)).2 (w.1.2.1 (ix a)).2.length (w.1.2.1 (ix b)).2.length).length ((w.1.2.1 (ix a)).2.length + (w.1.2.1 (ix b)).2.length) f1 ((h.1 + 1 + 4 + 4 + 5, va_up G4.2 x (some (xOb x p (some h.1) w.2.2.2.1 w.2.2.2.2.1))) : zH)) col (colN col h.1 3) D1 := ⟨by show h.1 ≤ h.1 + 1 + 4 + 4 + 5; omega, hwF, fun z hz2 => by have hz2 : z < h.1 := hz2; simp only [colN]; rw [if_neg (by omega)], fun z hz2 hD => holdF z hz2 (fun e => hD (by rw [e]; exact hz.2.2.1 x (by omega) (by omega) (by omega)))⟩
          have hcol3 : ∀ z, h.1 ≤ z → colN col h.1 3 z = 3 := fun z hz2 => by simp only [colN]; rw [if_pos hz2]
          have hcpa : ∀ i, i < (w.1.2.1 (ix a)).2.length → (cCp ca (w.1.2.1 (ix a)).1 (w.1.2.1 (ix a)).2.length (w.1.2.1 (ix a)).2.length) i = (w.1.2.1 (ix a)).2.getD i z0 := fun i hi => by rw [← hcla i hi]; simp only [cCp]; rw [if_pos hi]
          have hcpb : ∀ i, i < (w.1.2.1 (ix b)).2.length → (cCp cb (w.1.2.1 (ix b)).1 (w.1.2.1 (ix b)).2.length (w.1.2.1 (ix b)).2.length) i = (w.1.2.1 (ix b)).2.getD i z0 := fun i hi => by rw [← hclb i hi]; simp only [cCp]; rw [if_pos hi]
          have hcnt := ss_c1 w.2.2.1 (w.1.2.1 (ix a)).2 (w.1.2.1 (ix b)).2 (w.1.2.1 (ix a)).2.length (w.1.2.1 (ix b)).2.length
          have hkF : kIs (kUp h.1 (h.1 + 1) (h.1 + 1 + 4) (h.1 + 1 + 4 + 4) (nI (dC w.2.2.1 (w.1.2.1 (ix a)).2 (w.1.2.1 (ix b)).2 (w.1.2.1 (ix a)).2.length (w.1.2.1 (ix b)).2.length)) (sSteps w.2.2.1 (w.1.2.1 (ix a)).2 (w.1.2.1 (ix b)).2 (w.1.2.1 (ix a)).2.length (w.1.2.1 (ix b)).2.length).length ((w.1.2.1 (ix a)).2.length + (w.1.2.1 (ix b)).2.length) f1 ((h.1 + 1 + 4 + 4 + 5, va_up G4.2 x (some (xOb x p (some h.1) w.2.2.2.1 w.2.2.2.2.1))) : zH)) (colN col h.1 3) h.1 (sComp w.2.2.1 (w.1.2.1 (ix a)) (w.1.2.1 (ix b))) := ⟨h.1 + 1, h.1 + 1 + 4, h.1 + 1 + 4 + 4, f1, kUp_o, fun j hj => kUp_a (by omega) hj, ⟨hoa, _, cAt_fr hL4 (fun z z1 z2 => (kUp_out (by omega) (by omega)).trans (vu_n (by omega))), hcpa⟩, ⟨hob, _, cAt_fr hR4 (fun z z1 z2 => (kUp_out (by omega) (by omega)).trans (vu_n (by omega))), hcpb⟩, sSteps_len _ _ _ _ _, fun kq t ht => ⟨hf1 kq t ht, stp_of (ss_ok _ _ _ _ _ (Nat.le_refl _) (Nat.le_refl _) t (List.mem_of_getElem? ht))⟩, ⟨by rw [show (sComp w.2.2.1 (w.1.2.1 (ix a)) (w.1.2.1 (ix b))).2.2.2 = (sSteps w.2.2.1 (w.1.2.1 (ix a)).2 (w.1.2.1 (ix b)).2 (w.1.2.1 (ix a)).2.length (w.1.2.1 (ix b)).2.length) from rfl, hcnt.2]; exact hlb, by rw [show (sComp w.2.2.1 (w.1.2.1 (ix a)) (w.1.2.1 (ix b))).2.2.2 = (sSteps w.2.2.1 (w.1.2.1 (ix a)).2 (w.1.2.1 (ix b)).2 (w.1.2.1 (ix a)).2.length (w.1.2.1 (ix b)).2.length) from rfl, hcnt.1]; exact hla⟩, hcol3 _ (by omega), fun j hj => hcol3 _ (by omega), fun z z1 z2 => hcol3 _ (by omega), fun z z1 z2 => hcol3 _ (by omega)⟩
          have hsF : stAt (kUp h.1 (h.1 + 1) (h.1 + 1 + 4) (h.1 + 1 + 4 + 4) (nI (dC w.2.2.1 (w.1.2.1 (ix a)).2 (w.1.2.1 (ix b)).2 (w.1.2.1 (ix a)).2.length (w.1.2.1 (ix b)).2.length)) (sSteps w.2.2.1 (w.1.2.1 (ix a)).2 (w.1.2.1 (ix b)).2 (w.1.2.1 (ix a)).2.length (w.1.2.1 (ix b)).2.length).length ((w.1.2.1 (ix a)).2.length + (w.1.2.1 (ix b)).2.length) f1 ((h.1 + 1 + 4 + 4 + 5, va_up G4.2 x (some (xOb x p (some h.1) w.2.2.2.1 w.2.2.2.2.1))) : zH)) x p (some h.1) w.2.2.2.1 w.2.2.2.2.1 I P q T1 V := ⟨(kUp_out (by omega) (by omega)).trans vu_s, (holdF _ (by omega) (by omega)).trans t1, (holdF _ (by omega) (by omega)).trans t2, (holdF _ (by omega) (by omega)).trans t3, alAt_fr t4 (fun z z1 z2 => holdF z (by omega) (by omega)), cAt_fr t5 (fun z z1 z2 => holdF z (by omega) (by omega))⟩
          exact z_iret dX9_compare_125 rfl rfl (cPost_RC (RC_co hR1 hxF hsF hkF) (fun z z1 z2 => (holdF z (by omega) (by omega)).trans (alUp_out (by omega))) (cmp_ans c4 c11 (by rw [hrfa]; decide) (by rw [hrfb]; decide) rfl)) (Nat.le_of_ble_eq_true rfl) (Nat.le_of_ble_eq_true rfl)
    · skip
      refine z_iconst (v := -1) dX9_compare_14 rfl (by decide) ?_
      exact z_iret dX9_compare_15 rfl rfl (cPost_same hRC (by grind [pCompare])) (Nat.le_of_ble_eq_true rfl) (Nat.le_of_ble_eq_true rfl)

