def vF (c0 G : Nat → sC) (i : Nat) : Nat → sC := fun j => if j < i then G j else c0 j
theorem vF_k {c0 G : Nat → sC} {i : Nat} (h : c0 i = G i) : vF c0 G i = vF c0 G (i + 1) := by
  funext j
  simp only [vF]
  by_cases e : j < i
  · rw [if_pos e, if_pos (by omega)]
  · rw [if_neg e]
    by_cases e2 : j = i
    · rw [if_pos (by omega), e2, h]
    · rw [if_neg (by omega)]
theorem vF_s (c0 G : Nat → sC) (i : Nat) : uC (vF c0 G i) i (G i) = vF c0 G (i + 1) := by
  funext j
  simp only [uC, vF]
  by_cases e : j = i
  · rw [if_pos e, if_pos (by omega), e]
  · rw [if_neg e]
    by_cases e2 : j < i
    · rw [if_pos e2, if_pos (by omega)]
    · rw [if_neg e2, if_neg (by omega)]
theorem vF_0 (c0 G : Nat → sC) : c0 = vF c0 G 0 := by funext j; simp [vF]
theorem rg_s (P : Nat → Bool) (i : Nat) : (List.range (i + 1)).countP P = (List.range i).countP P + if P i = true then 1 else 0 := by
  rw [List.range_succ, List.countP_append, List.countP_singleton]

abbrev YX9_vote : zY := (yX9_vote.cls, cX9_vote, 11, (some .int), rmX9_vote, yX9_vote.name, fun _ _ => True)
set_option maxHeartbeats 800000 in
set_option maxRecDepth 100000 in
theorem C_vote_L (g : zG) (h : zH) (x m : Nat) (w : sW) (col : Nat → Nat) (p : Nat) (F : Nat → Option Nat) (Z : Nat → Int32) (kk : Option Nat) (I P : Nat → Option Nat) (q : Nat → Int32) (T : alT) (V : Nat → sC) (hR : RC h x m w col p F Z kk I P q T V) (r a b c : Int32) (hr1 : isRec r) (ha : isRec a) (hb : isRec b) (hc : isRec c) (aa : Nat) (ca : Nat → sC) (oa : aOk (w.1.2.1 (ix a))) (hca : cAt h aa (w.1.2.1 (ix a)).1 (w.1.2.1 (ix a)).2.length ca) (hcla : ∀ i, i < (w.1.2.1 (ix a)).2.length → ca i = (w.1.2.1 (ix a)).2.getD i z0) (hFa : F (ix a) = some aa) (ab : Nat) (cb : Nat → sC) (ob : aOk (w.1.2.1 (ix b))) (hcb : cAt h ab (w.1.2.1 (ix b)).1 (w.1.2.1 (ix b)).2.length cb) (hclb : ∀ i, i < (w.1.2.1 (ix b)).2.length → cb i = (w.1.2.1 (ix b)).2.getD i z0) (hFb : F (ix b) = some ab) (ac : Nat) (cc : Nat → sC) (oc : aOk (w.1.2.1 (ix c))) (hcc : cAt h ac (w.1.2.1 (ix c)).1 (w.1.2.1 (ix c)).2.length cc) (hclc : ∀ i, i < (w.1.2.1 (ix c)).2.length → cc i = (w.1.2.1 (ix c)).2.getD i z0) (hFc : F (ix c) = some ac) (eb : (w.1.2.1 (ix b)).2.length = (w.1.2.1 (ix a)).2.length) (ec : (w.1.2.1 (ix c)).2.length = (w.1.2.1 (ix a)).2.length) : ∀ (n i : Nat), i + n = (w.1.2.1 (ix a)).2.length → (∀ j, j < i → vtB (w.1.2.1 (ix a)) (w.1.2.1 (ix b)).2 (w.1.2.1 (ix c)).2 j = false) → zZ g YX9_vote (zE g (cPost x m h (pVote w r a b c)) 4 125) 159 [(8, .ref h.1), (9, .int (nI ((List.range i).countP (vtS (w.1.2.1 (ix a)).2 (w.1.2.1 (ix b)).2 (w.1.2.1 (ix c)).2)))), (10, .int (nI i)), (0, .ref x), (1, .int r), (5, .ref aa), (6, .ref ab), (7, .ref ac)] [] (cUp h.1 (w.1.2.1 (ix a)).1 (w.1.2.1 (ix a)).2.length (vF (cCp ca (w.1.2.1 (ix a)).1 (w.1.2.1 (ix a)).2.length (w.1.2.1 (ix a)).2.length) (fun j => sConv (vtC (w.1.2.1 (ix a)).2 (w.1.2.1 (ix b)).2 (w.1.2.1 (ix c)).2 j) (w.1.2.1 (ix a)).1) i) (h.1 + 4, h.2)) 4 125 := by
  obtain ⟨hw, hz, hS, hq, hr, hX⟩ := id hR
  obtain ⟨S0, S1, S2, S3, S4, S5⟩ := id hS
  obtain ⟨R0, R1, R2, R3⟩ := id hr
  obtain ⟨h2a, -⟩ := rc_a hr (ix_lt ha) hFa
  obtain ⟨h2b, -⟩ := rc_a hr (ix_lt hb) hFb
  obtain ⟨h2c, -⟩ := rc_a hr (ix_lt hc) hFc
  have hGl : (((List.range (w.1.2.1 (ix a)).2.length).map (vtC (w.1.2.1 (ix a)).2 (w.1.2.1 (ix b)).2 (w.1.2.1 (ix c)).2)).map (fun x => sConv x (w.1.2.1 (ix a)).1)).length = (w.1.2.1 (ix a)).2.length := by rw [List.length_map, List.length_map, List.length_range]
  have hGi : ∀ j, j < (w.1.2.1 (ix a)).2.length → (((List.range (w.1.2.1 (ix a)).2.length).map (vtC (w.1.2.1 (ix a)).2 (w.1.2.1 (ix b)).2 (w.1.2.1 (ix c)).2)).map (fun x => sConv x (w.1.2.1 (ix a)).1))[j]? = some ((fun j => sConv (vtC (w.1.2.1 (ix a)).2 (w.1.2.1 (ix b)).2 (w.1.2.1 (ix c)).2 j) (w.1.2.1 (ix a)).1) j) := fun j hj => by
    rw [List.getElem?_map, List.getElem?_map, List.getElem?_range hj]; rfl
  have hGok : (∀ j, j < (w.1.2.1 (ix a)).2.length → vtB (w.1.2.1 (ix a)) (w.1.2.1 (ix b)).2 (w.1.2.1 (ix c)).2 j = false) → ∀ j, j < (w.1.2.1 (ix a)).2.length → sOk ((fun j => sConv (vtC (w.1.2.1 (ix a)).2 (w.1.2.1 (ix b)).2 (w.1.2.1 (ix c)).2 j) (w.1.2.1 (ix a)).1) j) ∧ sFit ((fun j => sConv (vtC (w.1.2.1 (ix a)).2 (w.1.2.1 (ix b)).2 (w.1.2.1 (ix c)).2 j) (w.1.2.1 (ix a)).1) j) (w.1.2.1 (ix a)).1 := fun hnb j hj => by
    have oka := cl_ok (h := h) (a := aa) oa hcla hj
    have okb := cl_ok (h := h) (a := ab) ob hclb (show j < (w.1.2.1 (ix b)).2.length by omega)
    rw [hcla j hj] at oka
    rw [hclb j (by omega)] at okb
    show sOk (sConv (vtC (w.1.2.1 (ix a)).2 (w.1.2.1 (ix b)).2 (w.1.2.1 (ix c)).2 j) (w.1.2.1 (ix a)).1) ∧ sFit (sConv (vtC (w.1.2.1 (ix a)).2 (w.1.2.1 (ix b)).2 (w.1.2.1 (ix c)).2 j) (w.1.2.1 (ix a)).1) (w.1.2.1 (ix a)).1
    refine sConv_ok ?_ ⟨oa.1, oa.2.1⟩ ?_
    · unfold vtC; split; exact okb.1; exact oka.1
    · unfold vtC
      split
      · rename_i hO
        have hn := hnb j hj
        rw [vtB, hO, Bool.true_and, Bool.not_eq_false'] at hn
        exact hn
      · exact into_fit oka.2 ⟨oa.1, oa.2.1⟩
  have hCI : (∀ j, j < (w.1.2.1 (ix a)).2.length → vtB (w.1.2.1 (ix a)) (w.1.2.1 (ix b)).2 (w.1.2.1 (ix c)).2 j = false) → cIs (cUp h.1 (w.1.2.1 (ix a)).1 (w.1.2.1 (ix a)).2.length (vF (cCp ca (w.1.2.1 (ix a)).1 (w.1.2.1 (ix a)).2.length (w.1.2.1 (ix a)).2.length) (fun j => sConv (vtC (w.1.2.1 (ix a)).2 (w.1.2.1 (ix b)).2 (w.1.2.1 (ix c)).2 j) (w.1.2.1 (ix a)).1) (w.1.2.1 (ix a)).2.length) (h.1 + 4, h.2)) h.1 ((w.1.2.1 (ix a)).1, ((List.range (w.1.2.1 (ix a)).2.length).map (vtC (w.1.2.1 (ix a)).2 (w.1.2.1 (ix b)).2 (w.1.2.1 (ix c)).2)).map (fun x => sConv x (w.1.2.1 (ix a)).1)) := fun hnb => by
    refine ⟨⟨oa.1, oa.2.1, by show _ ≤ 20; rw [hGl]; exact oa.2.2.1, fun d hd => ?_⟩, _, by show cAt _ _ _ (List.length _) _; rw [hGl]; exact cUp_at _ _ _ _ _, fun j hj => ?_⟩
    · obtain ⟨j, hj⟩ := List.getElem?_of_mem hd
      have hjl := (List.getElem?_eq_some_iff.mp hj).1
      rw [hGl] at hjl
      rw [hGi j hjl] at hj
      obtain rfl := Option.some.inj hj
      exact hGok hnb j hjl
    · have hj : j < _ := hj
      rw [hGl] at hj
      show vF _ _ _ j = _
      rw [List.getD_eq_getElem?_getD, hGi j hj]
      simp only [vF]
      rw [if_pos hj]
      rfl
  intro n
  induction n with
  | zero =>
    intro i hin hnb
    have ei : i = (w.1.2.1 (ix a)).2.length := by omega
    have la : (w.1.2.1 (ix a)).2.length ≤ 20 := oa.2.2.1
    have lta := cAt_lt hca hw
    have ltb := cAt_lt hcb hw
    have ltc := cAt_lt hcc hw
    refine z_iload dX9_vote_159 rfl rfl ?_
    first | refine z_aload dX9_vote_161 rfl rfl ?_ | refine z_aloadN dX9_vote_161 rfl rfl ?_
    refine zg_X9_88 rfl dX9_vote_163 rfl (cAt_fr hca (fun z z1 z2 => cUp_out (by omega))).1 rfl ?_
    refine z_icmp_ge (tgt := 265) dX9_vote_166 rfl (by decide) (fun c166 => ?_) (fun c166 => absurd c166 (fun z => z (nI_le (by omega) (by omega))))
    have hP1 : rAt (cUp h.1 (w.1.2.1 (ix a)).1 (w.1.2.1 (ix a)).2.length (vF (cCp ca (w.1.2.1 (ix a)).1 (w.1.2.1 (ix a)).2.length (w.1.2.1 (ix a)).2.length) (fun j => sConv (vtC (w.1.2.1 (ix a)).2 (w.1.2.1 (ix b)).2 (w.1.2.1 (ix c)).2 j) (w.1.2.1 (ix a)).1) i) (h.1 + 4, h.2)) p F Z := rAt_fr R0 (fun z z1 z2 => cUp_out (by have := wf_lt hw R0.2.2; omega))
    have hx1 : (cUp h.1 (w.1.2.1 (ix a)).1 (w.1.2.1 (ix a)).2.length (vF (cCp ca (w.1.2.1 (ix a)).1 (w.1.2.1 (ix a)).2.length (w.1.2.1 (ix a)).2.length) (fun j => sConv (vtC (w.1.2.1 (ix a)).2 (w.1.2.1 (ix b)).2 (w.1.2.1 (ix c)).2 j) (w.1.2.1 (ix a)).1) i) (h.1 + 4, h.2)).2 x = _ := (cUp_out (by have := hz.1; have := hz.2.1; omega)).trans S0
    subst ei
    first | refine z_aload_n dX9_vote_265 rfl rfl ?_ | refine z_aload_nN dX9_vote_265 rfl rfl ?_
    refine zg_X9_10 rfl dX9_vote_266 rfl hx1 rfl ?_
    refine z_iload_n dX9_vote_269 rfl rfl ?_
    first | refine z_aload dX9_vote_270 rfl rfl ?_ | refine z_aloadN dX9_vote_270 rfl rfl ?_
    refine zcv_X9_54 rfl dX9_vote_272 rfl hP1.1 (m_holdI g _ p F Z hP1 r hr1 h.1 _ (cUp_at _ _ _ _ _).1) rfl rfl ⟨(Nat.le_of_ble_eq_true rfl), (Nat.le_of_ble_eq_true rfl)⟩ ⟨(Nat.le_of_ble_eq_true rfl), (Nat.le_of_ble_eq_true rfl)⟩ (Nat.le_of_ble_eq_true rfl) ?_
    refine z_iload dX9_vote_275 rfl rfl ?_
    exact z_iret dX9_vote_277 rfl rfl (cPost_new hR (wf_cUp hw _ _ _) (Nat.le_add_right _ _) (fun z hz2 => cUp_out (Or.inl hz2)) (Nat.le_refl _) (A := ((w.1.2.1 (ix a)).1, ((List.range (w.1.2.1 (ix a)).2.length).map (vtC (w.1.2.1 (ix a)).2 (w.1.2.1 (ix b)).2 (w.1.2.1 (ix c)).2)).map (fun x => sConv x (w.1.2.1 (ix a)).1))) (hCI hnb) (by rw [vote_at hr1 ha hb hc h2a h2b h2c eb ec, rg_none hnb])) (Nat.le_of_ble_eq_true rfl) (Nat.le_of_ble_eq_true rfl)
  | succ n ih =>
    intro i hin hnb
    have la : (w.1.2.1 (ix a)).2.length ≤ 20 := oa.2.2.1
    have lta := cAt_lt hca hw
    have ltb := cAt_lt hcb hw
    have ltc := cAt_lt hcc hw
    have oka := cl_ok (h := h) (a := aa) oa hcla (show i < (w.1.2.1 (ix a)).2.length by omega)
    have okb := cl_ok (h := h) (a := ab) ob hclb (show i < (w.1.2.1 (ix b)).2.length by omega)
    rw [hclb i (by omega)] at okb
    by_cases h1 : sAlike ((w.1.2.1 (ix a)).2.getD i z0) ((w.1.2.1 (ix b)).2.getD i z0) = true
    · have hT : vtT ((w.1.2.1 (ix a)).2.getD i z0) ((w.1.2.1 (ix b)).2.getD i z0) ((w.1.2.1 (ix c)).2.getD i z0) = true := by rw [vtT, h1]; rfl
      have hO : vtO ((w.1.2.1 (ix a)).2.getD i z0) ((w.1.2.1 (ix b)).2.getD i z0) ((w.1.2.1 (ix c)).2.getD i z0) = false := by rw [vtO, hT]; rfl
      have hkp : (cCp ca (w.1.2.1 (ix a)).1 (w.1.2.1 (ix a)).2.length (w.1.2.1 (ix a)).2.length) i = (fun j => sConv (vtC (w.1.2.1 (ix a)).2 (w.1.2.1 (ix b)).2 (w.1.2.1 (ix c)).2 j) (w.1.2.1 (ix a)).1) i := by show _ = sConv (vtC (w.1.2.1 (ix a)).2 (w.1.2.1 (ix b)).2 (w.1.2.1 (ix c)).2 i) (w.1.2.1 (ix a)).1; rw [vtC, hO, if_neg Bool.false_ne_true, conv_fit (by rw [← hcla i (by omega)]; exact oka.1) (by rw [← hcla i (by omega)]; exact oka.2) oa.1, ← hcla i (by omega)]; simp only [cCp]; rw [if_pos (by omega)]
      refine z_iload dX9_vote_159 rfl rfl ?_
      first | refine z_aload dX9_vote_161 rfl rfl ?_ | refine z_aloadN dX9_vote_161 rfl rfl ?_
      refine zg_X9_88 rfl dX9_vote_163 rfl (cAt_fr hca (fun z z1 z2 => cUp_out (by omega))).1 rfl ?_
      refine z_icmp_ge (tgt := 265) dX9_vote_166 rfl (by decide) (fun c166 => absurd c166 (nI_ge (by omega) (by omega))) (fun c166 => ?_)
      first | refine z_aload dX9_vote_169 rfl rfl ?_ | refine z_aloadN dX9_vote_169 rfl rfl ?_
      refine z_iload dX9_vote_171 rfl rfl ?_
      first | refine z_aload dX9_vote_173 rfl rfl ?_ | refine z_aloadN dX9_vote_173 rfl rfl ?_
      refine z_iload dX9_vote_175 rfl rfl ?_
      refine zcx_X9_200 rfl dX9_vote_177 rfl (m_isAlike g (cUp h.1 (w.1.2.1 (ix a)).1 (w.1.2.1 (ix a)).2.length (vF (cCp ca (w.1.2.1 (ix a)).1 (w.1.2.1 (ix a)).2.length (w.1.2.1 (ix a)).2.length) (fun j => sConv (vtC (w.1.2.1 (ix a)).2 (w.1.2.1 (ix b)).2 (w.1.2.1 (ix c)).2 j) (w.1.2.1 (ix a)).1) i) (h.1 + 4, h.2)) aa _ _ ca (cAt_fr hca (fun z z1 z2 => cUp_out (by omega))) (by omega) i (by omega) ab _ _ cb (cAt_fr hcb (fun z z1 z2 => cUp_out (by omega))) (by omega) i (by omega) (cl_ok (h := h) (a := aa) oa hcla (by omega)).1 (cl_ok (h := h) (a := ab) ob hclb (by omega)).1) rfl rfl ⟨(Nat.le_of_ble_eq_true rfl), (Nat.le_of_ble_eq_true rfl)⟩ ⟨(Nat.le_of_ble_eq_true rfl), (Nat.le_of_ble_eq_true rfl)⟩ (Nat.le_of_ble_eq_true rfl) ?_
      rw [hcla i (by omega), hclb i (by omega)]
      refine z_bif_ne (tgt := 259) dX9_vote_180 rfl (by decide) (fun c180 => ?_) (fun c180 => absurd c180 (fun z => z h1))
      refine z_iinc (v := nI (i + 1)) dX9_vote_259 rfl rfl (nI_inc i) (Nat.le_of_ble_eq_true rfl) ?_
      refine z_goto (tgt := 159) dX9_vote_262 rfl (by decide) ?_
      refine z_lv [(8, .ref h.1), (9, .int (nI ((List.range (i + 1)).countP (vtS (w.1.2.1 (ix a)).2 (w.1.2.1 (ix b)).2 (w.1.2.1 (ix c)).2)))), (10, .int (nI (i + 1))), (0, .ref x), (1, .int r), (5, .ref aa), (6, .ref ab), (7, .ref ac)] (by rw [show ((List.range (i + 1)).countP (vtS (w.1.2.1 (ix a)).2 (w.1.2.1 (ix b)).2 (w.1.2.1 (ix c)).2)) = ((List.range i).countP (vtS (w.1.2.1 (ix a)).2 (w.1.2.1 (ix b)).2 (w.1.2.1 (ix c)).2)) from by rw [rg_s, show vtS (w.1.2.1 (ix a)).2 (w.1.2.1 (ix b)).2 (w.1.2.1 (ix c)).2 i = false by rw [vtS, hT, hO]; rfl]; rfl]; exact ⟨rfl, rfl, rfl, rfl, rfl, rfl, rfl, rfl, trivial⟩) ?_
      rw [vF_k hkp]
      exact ih (i + 1) (by omega) (fun j hj => by rcases Nat.lt_or_eq_of_le (Nat.le_of_lt_succ hj) with z | z; exact hnb j z; rw [z]; exact (by rw [vtB, hO]; rfl))
    by_cases h2 : sAlike ((w.1.2.1 (ix a)).2.getD i z0) ((w.1.2.1 (ix c)).2.getD i z0) = true
    · have hT : vtT ((w.1.2.1 (ix a)).2.getD i z0) ((w.1.2.1 (ix b)).2.getD i z0) ((w.1.2.1 (ix c)).2.getD i z0) = true := by rw [vtT, h2, Bool.or_true]
      have hO : vtO ((w.1.2.1 (ix a)).2.getD i z0) ((w.1.2.1 (ix b)).2.getD i z0) ((w.1.2.1 (ix c)).2.getD i z0) = false := by rw [vtO, hT]; rfl
      have hkp : (cCp ca (w.1.2.1 (ix a)).1 (w.1.2.1 (ix a)).2.length (w.1.2.1 (ix a)).2.length) i = (fun j => sConv (vtC (w.1.2.1 (ix a)).2 (w.1.2.1 (ix b)).2 (w.1.2.1 (ix c)).2 j) (w.1.2.1 (ix a)).1) i := by show _ = sConv (vtC (w.1.2.1 (ix a)).2 (w.1.2.1 (ix b)).2 (w.1.2.1 (ix c)).2 i) (w.1.2.1 (ix a)).1; rw [vtC, hO, if_neg Bool.false_ne_true, conv_fit (by rw [← hcla i (by omega)]; exact oka.1) (by rw [← hcla i (by omega)]; exact oka.2) oa.1, ← hcla i (by omega)]; simp only [cCp]; rw [if_pos (by omega)]
      refine z_iload dX9_vote_159 rfl rfl ?_
      first | refine z_aload dX9_vote_161 rfl rfl ?_ | refine z_aloadN dX9_vote_161 rfl rfl ?_
      refine zg_X9_88 rfl dX9_vote_163 rfl (cAt_fr hca (fun z z1 z2 => cUp_out (by omega))).1 rfl ?_
      refine z_icmp_ge (tgt := 265) dX9_vote_166 rfl (by decide) (fun c166 => absurd c166 (nI_ge (by omega) (by omega))) (fun c166 => ?_)
      first | refine z_aload dX9_vote_169 rfl rfl ?_ | refine z_aloadN dX9_vote_169 rfl rfl ?_
      refine z_iload dX9_vote_171 rfl rfl ?_
      first | refine z_aload dX9_vote_173 rfl rfl ?_ | refine z_aloadN dX9_vote_173 rfl rfl ?_
      refine z_iload dX9_vote_175 rfl rfl ?_
      refine zcx_X9_200 rfl dX9_vote_177 rfl (m_isAlike g (cUp h.1 (w.1.2.1 (ix a)).1 (w.1.2.1 (ix a)).2.length (vF (cCp ca (w.1.2.1 (ix a)).1 (w.1.2.1 (ix a)).2.length (w.1.2.1 (ix a)).2.length) (fun j => sConv (vtC (w.1.2.1 (ix a)).2 (w.1.2.1 (ix b)).2 (w.1.2.1 (ix c)).2 j) (w.1.2.1 (ix a)).1) i) (h.1 + 4, h.2)) aa _ _ ca (cAt_fr hca (fun z z1 z2 => cUp_out (by omega))) (by omega) i (by omega) ab _ _ cb (cAt_fr hcb (fun z z1 z2 => cUp_out (by omega))) (by omega) i (by omega) (cl_ok (h := h) (a := aa) oa hcla (by omega)).1 (cl_ok (h := h) (a := ab) ob hclb (by omega)).1) rfl rfl ⟨(Nat.le_of_ble_eq_true rfl), (Nat.le_of_ble_eq_true rfl)⟩ ⟨(Nat.le_of_ble_eq_true rfl), (Nat.le_of_ble_eq_true rfl)⟩ (Nat.le_of_ble_eq_true rfl) ?_
      rw [hcla i (by omega), hclb i (by omega)]
      refine z_bif_ne (tgt := 259) dX9_vote_180 rfl (by decide) (fun c180 => absurd c180 h1) (fun c180 => ?_)
      first | refine z_aload dX9_vote_183 rfl rfl ?_ | refine z_aloadN dX9_vote_183 rfl rfl ?_
      refine z_iload dX9_vote_185 rfl rfl ?_
      first | refine z_aload dX9_vote_187 rfl rfl ?_ | refine z_aloadN dX9_vote_187 rfl rfl ?_
      refine z_iload dX9_vote_189 rfl rfl ?_
      refine zcx_X9_200 rfl dX9_vote_191 rfl (m_isAlike g (cUp h.1 (w.1.2.1 (ix a)).1 (w.1.2.1 (ix a)).2.length (vF (cCp ca (w.1.2.1 (ix a)).1 (w.1.2.1 (ix a)).2.length (w.1.2.1 (ix a)).2.length) (fun j => sConv (vtC (w.1.2.1 (ix a)).2 (w.1.2.1 (ix b)).2 (w.1.2.1 (ix c)).2 j) (w.1.2.1 (ix a)).1) i) (h.1 + 4, h.2)) aa _ _ ca (cAt_fr hca (fun z z1 z2 => cUp_out (by omega))) (by omega) i (by omega) ac _ _ cc (cAt_fr hcc (fun z z1 z2 => cUp_out (by omega))) (by omega) i (by omega) (cl_ok (h := h) (a := aa) oa hcla (by omega)).1 (cl_ok (h := h) (a := ac) oc hclc (by omega)).1) rfl rfl ⟨(Nat.le_of_ble_eq_true rfl), (Nat.le_of_ble_eq_true rfl)⟩ ⟨(Nat.le_of_ble_eq_true rfl), (Nat.le_of_ble_eq_true rfl)⟩ (Nat.le_of_ble_eq_true rfl) ?_
      rw [hcla i (by omega), hclc i (by omega)]
      refine z_bif_eq (tgt := 200) dX9_vote_194 rfl (by decide) (fun c194 => absurd c194 (fun z => z h2)) (fun c194 => ?_)
      refine z_goto (tgt := 259) dX9_vote_197 rfl (by decide) ?_
      refine z_iinc (v := nI (i + 1)) dX9_vote_259 rfl rfl (nI_inc i) (Nat.le_of_ble_eq_true rfl) ?_
      refine z_goto (tgt := 159) dX9_vote_262 rfl (by decide) ?_
      refine z_lv [(8, .ref h.1), (9, .int (nI ((List.range (i + 1)).countP (vtS (w.1.2.1 (ix a)).2 (w.1.2.1 (ix b)).2 (w.1.2.1 (ix c)).2)))), (10, .int (nI (i + 1))), (0, .ref x), (1, .int r), (5, .ref aa), (6, .ref ab), (7, .ref ac)] (by rw [show ((List.range (i + 1)).countP (vtS (w.1.2.1 (ix a)).2 (w.1.2.1 (ix b)).2 (w.1.2.1 (ix c)).2)) = ((List.range i).countP (vtS (w.1.2.1 (ix a)).2 (w.1.2.1 (ix b)).2 (w.1.2.1 (ix c)).2)) from by rw [rg_s, show vtS (w.1.2.1 (ix a)).2 (w.1.2.1 (ix b)).2 (w.1.2.1 (ix c)).2 i = false by rw [vtS, hT, hO]; rfl]; rfl]; exact ⟨rfl, rfl, rfl, rfl, rfl, rfl, rfl, rfl, trivial⟩) ?_
      rw [vF_k hkp]
      exact ih (i + 1) (by omega) (fun j hj => by rcases Nat.lt_or_eq_of_le (Nat.le_of_lt_succ hj) with z | z; exact hnb j z; rw [z]; exact (by rw [vtB, hO]; rfl))
    have hT : vtT ((w.1.2.1 (ix a)).2.getD i z0) ((w.1.2.1 (ix b)).2.getD i z0) ((w.1.2.1 (ix c)).2.getD i z0) = false := by rw [vtT, Bool.eq_false_iff.mpr h1, Bool.eq_false_iff.mpr h2]; rfl
    by_cases h3 : sAlike ((w.1.2.1 (ix b)).2.getD i z0) ((w.1.2.1 (ix c)).2.getD i z0) = true
    · have hO : vtO ((w.1.2.1 (ix a)).2.getD i z0) ((w.1.2.1 (ix b)).2.getD i z0) ((w.1.2.1 (ix c)).2.getD i z0) = true := by rw [vtO, hT, h3]; rfl
      refine z_iload dX9_vote_159 rfl rfl ?_
      first | refine z_aload dX9_vote_161 rfl rfl ?_ | refine z_aloadN dX9_vote_161 rfl rfl ?_
      refine zg_X9_88 rfl dX9_vote_163 rfl (cAt_fr hca (fun z z1 z2 => cUp_out (by omega))).1 rfl ?_
      refine z_icmp_ge (tgt := 265) dX9_vote_166 rfl (by decide) (fun c166 => absurd c166 (nI_ge (by omega) (by omega))) (fun c166 => ?_)
      first | refine z_aload dX9_vote_169 rfl rfl ?_ | refine z_aloadN dX9_vote_169 rfl rfl ?_
      refine z_iload dX9_vote_171 rfl rfl ?_
      first | refine z_aload dX9_vote_173 rfl rfl ?_ | refine z_aloadN dX9_vote_173 rfl rfl ?_
      refine z_iload dX9_vote_175 rfl rfl ?_
      refine zcx_X9_200 rfl dX9_vote_177 rfl (m_isAlike g (cUp h.1 (w.1.2.1 (ix a)).1 (w.1.2.1 (ix a)).2.length (vF (cCp ca (w.1.2.1 (ix a)).1 (w.1.2.1 (ix a)).2.length (w.1.2.1 (ix a)).2.length) (fun j => sConv (vtC (w.1.2.1 (ix a)).2 (w.1.2.1 (ix b)).2 (w.1.2.1 (ix c)).2 j) (w.1.2.1 (ix a)).1) i) (h.1 + 4, h.2)) aa _ _ ca (cAt_fr hca (fun z z1 z2 => cUp_out (by omega))) (by omega) i (by omega) ab _ _ cb (cAt_fr hcb (fun z z1 z2 => cUp_out (by omega))) (by omega) i (by omega) (cl_ok (h := h) (a := aa) oa hcla (by omega)).1 (cl_ok (h := h) (a := ab) ob hclb (by omega)).1) rfl rfl ⟨(Nat.le_of_ble_eq_true rfl), (Nat.le_of_ble_eq_true rfl)⟩ ⟨(Nat.le_of_ble_eq_true rfl), (Nat.le_of_ble_eq_true rfl)⟩ (Nat.le_of_ble_eq_true rfl) ?_
      rw [hcla i (by omega), hclb i (by omega)]
      refine z_bif_ne (tgt := 259) dX9_vote_180 rfl (by decide) (fun c180 => absurd c180 h1) (fun c180 => ?_)
      first | refine z_aload dX9_vote_183 rfl rfl ?_ | refine z_aloadN dX9_vote_183 rfl rfl ?_
      refine z_iload dX9_vote_185 rfl rfl ?_
      first | refine z_aload dX9_vote_187 rfl rfl ?_ | refine z_aloadN dX9_vote_187 rfl rfl ?_
      refine z_iload dX9_vote_189 rfl rfl ?_
      refine zcx_X9_200 rfl dX9_vote_191 rfl (m_isAlike g (cUp h.1 (w.1.2.1 (ix a)).1 (w.1.2.1 (ix a)).2.length (vF (cCp ca (w.1.2.1 (ix a)).1 (w.1.2.1 (ix a)).2.length (w.1.2.1 (ix a)).2.length) (fun j => sConv (vtC (w.1.2.1 (ix a)).2 (w.1.2.1 (ix b)).2 (w.1.2.1 (ix c)).2 j) (w.1.2.1 (ix a)).1) i) (h.1 + 4, h.2)) aa _ _ ca (cAt_fr hca (fun z z1 z2 => cUp_out (by omega))) (by omega) i (by omega) ac _ _ cc (cAt_fr hcc (fun z z1 z2 => cUp_out (by omega))) (by omega) i (by omega) (cl_ok (h := h) (a := aa) oa hcla (by omega)).1 (cl_ok (h := h) (a := ac) oc hclc (by omega)).1) rfl rfl ⟨(Nat.le_of_ble_eq_true rfl), (Nat.le_of_ble_eq_true rfl)⟩ ⟨(Nat.le_of_ble_eq_true rfl), (Nat.le_of_ble_eq_true rfl)⟩ (Nat.le_of_ble_eq_true rfl) ?_
      rw [hcla i (by omega), hclc i (by omega)]
      refine z_bif_eq (tgt := 200) dX9_vote_194 rfl (by decide) (fun c194 => ?_) (fun c194 => absurd c194 h2)
      first | refine z_aload dX9_vote_200 rfl rfl ?_ | refine z_aloadN dX9_vote_200 rfl rfl ?_
      refine z_iload dX9_vote_202 rfl rfl ?_
      first | refine z_aload dX9_vote_204 rfl rfl ?_ | refine z_aloadN dX9_vote_204 rfl rfl ?_
      refine z_iload dX9_vote_206 rfl rfl ?_
      refine zcx_X9_200 rfl dX9_vote_208 rfl (m_isAlike g (cUp h.1 (w.1.2.1 (ix a)).1 (w.1.2.1 (ix a)).2.length (vF (cCp ca (w.1.2.1 (ix a)).1 (w.1.2.1 (ix a)).2.length (w.1.2.1 (ix a)).2.length) (fun j => sConv (vtC (w.1.2.1 (ix a)).2 (w.1.2.1 (ix b)).2 (w.1.2.1 (ix c)).2 j) (w.1.2.1 (ix a)).1) i) (h.1 + 4, h.2)) ab _ _ cb (cAt_fr hcb (fun z z1 z2 => cUp_out (by omega))) (by omega) i (by omega) ac _ _ cc (cAt_fr hcc (fun z z1 z2 => cUp_out (by omega))) (by omega) i (by omega) (cl_ok (h := h) (a := ab) ob hclb (by omega)).1 (cl_ok (h := h) (a := ac) oc hclc (by omega)).1) rfl rfl ⟨(Nat.le_of_ble_eq_true rfl), (Nat.le_of_ble_eq_true rfl)⟩ ⟨(Nat.le_of_ble_eq_true rfl), (Nat.le_of_ble_eq_true rfl)⟩ (Nat.le_of_ble_eq_true rfl) ?_
      rw [hclb i (by omega), hclc i (by omega)]
      refine z_bif_ne (tgt := 220) dX9_vote_211 rfl (by decide) (fun c211 => ?_) (fun c211 => absurd c211 (fun z => z h3))
      first | refine z_aload dX9_vote_220 rfl rfl ?_ | refine z_aloadN dX9_vote_220 rfl rfl ?_
      refine zg_X9_107 rfl dX9_vote_222 rfl (cAt_fr hcb (fun z z1 z2 => cUp_out (by omega))).1 rfl ?_
      refine z_iload dX9_vote_225 rfl rfl ?_
      refine z_iald dX9_vote_227 rfl (cAt_fr hcb (fun z z1 z2 => cUp_out (by omega))).2.1 (vp_in_nI (by omega) (by omega)) ?_
      rw [nI_clamp (show i < 2 ^ 31 by omega), hclb i (by omega)]
      first | refine z_aload dX9_vote_228 rfl rfl ?_ | refine z_aloadN dX9_vote_228 rfl rfl ?_
      refine zg_X9_77 rfl dX9_vote_230 rfl (cUp_at _ _ _ _ _).1 rfl ?_
      refine zcx_X9_204 rfl dX9_vote_233 rfl (m_fits g _ _ _ ⟨okb.1.1, okb.1.2.1⟩ ⟨oa.1, oa.2.1⟩) rfl rfl ⟨(Nat.le_of_ble_eq_true rfl), (Nat.le_of_ble_eq_true rfl)⟩ ⟨(Nat.le_of_ble_eq_true rfl), (Nat.le_of_ble_eq_true rfl)⟩ (Nat.le_of_ble_eq_true rfl) ?_
      refine z_bif_eq (tgt := 253) dX9_vote_236 rfl (by decide) (fun c236 => ?_) (fun c236 => ?_)
      · skip
        refine z_bipush (v := -20) dX9_vote_253 rfl (by decide) ?_
        refine z_iload dX9_vote_255 rfl rfl ?_
        refine z_isub dX9_vote_257 rfl ?_
        exact z_iret dX9_vote_258 rfl rfl (cPost_RC (RC_new hR 3 (wf_cUp hw _ _ _) (Nat.le_add_right _ _) (fun z hz2 => cUp_out (Or.inl hz2))) (fun z z1 z2 => cUp_out (by have := hz.2.1; omega)) (by rw [vote_at hr1 ha hb hc h2a h2b h2c eb ec, rg_find (show i < _ by omega) (by rw [vtB, hO, Bool.eq_false_iff.mpr c236]; rfl) hnb])) (Nat.le_of_ble_eq_true rfl) (Nat.le_of_ble_eq_true rfl)
      · skip
        first | refine z_aload dX9_vote_239 rfl rfl ?_ | refine z_aloadN dX9_vote_239 rfl rfl ?_
        refine z_iload dX9_vote_241 rfl rfl ?_
        first | refine z_aload dX9_vote_243 rfl rfl ?_ | refine z_aloadN dX9_vote_243 rfl rfl ?_
        refine z_iload dX9_vote_245 rfl rfl ?_
        refine zcv_X9_210 rfl dX9_vote_247 rfl (cUp_at _ _ _ _ _).1 (m_take g (cUp h.1 (w.1.2.1 (ix a)).1 (w.1.2.1 (ix a)).2.length (vF (cCp ca (w.1.2.1 (ix a)).1 (w.1.2.1 (ix a)).2.length (w.1.2.1 (ix a)).2.length) (fun j => sConv (vtC (w.1.2.1 (ix a)).2 (w.1.2.1 (ix b)).2 (w.1.2.1 (ix c)).2 j) (w.1.2.1 (ix a)).1) i) (h.1 + 4, h.2)) h.1 _ _ _ (cUp_at _ _ _ _ _) (by omega) i (by omega) ab _ _ cb (cAt_fr hcb (fun z z1 z2 => cUp_out (by omega))) (by omega) i (by omega) (by rw [hclb i (by omega)]; exact okb.1) ⟨oa.1, oa.2.1⟩ (by rw [hclb i (by omega)]; exact c236)) rfl rfl ⟨(Nat.le_of_ble_eq_true rfl), (Nat.le_of_ble_eq_true rfl)⟩ ⟨(Nat.le_of_ble_eq_true rfl), (Nat.le_of_ble_eq_true rfl)⟩ (Nat.le_of_ble_eq_true rfl) ?_
        refine z_goto (tgt := 259) dX9_vote_250 rfl (by decide) ?_
        refine z_iinc (v := nI (i + 1)) dX9_vote_259 rfl rfl (nI_inc i) (Nat.le_of_ble_eq_true rfl) ?_
        refine z_goto (tgt := 159) dX9_vote_262 rfl (by decide) ?_
        refine z_lv [(8, .ref h.1), (9, .int (nI ((List.range (i + 1)).countP (vtS (w.1.2.1 (ix a)).2 (w.1.2.1 (ix b)).2 (w.1.2.1 (ix c)).2)))), (10, .int (nI (i + 1))), (0, .ref x), (1, .int r), (5, .ref aa), (6, .ref ab), (7, .ref ac)] (by rw [show ((List.range (i + 1)).countP (vtS (w.1.2.1 (ix a)).2 (w.1.2.1 (ix b)).2 (w.1.2.1 (ix c)).2)) = ((List.range i).countP (vtS (w.1.2.1 (ix a)).2 (w.1.2.1 (ix b)).2 (w.1.2.1 (ix c)).2)) from by rw [rg_s, show vtS (w.1.2.1 (ix a)).2 (w.1.2.1 (ix b)).2 (w.1.2.1 (ix c)).2 i = false by rw [vtS, hT, hO]; rfl]; rfl]; exact ⟨rfl, rfl, rfl, rfl, rfl, rfl, rfl, rfl, trivial⟩) ?_
        rw [hclb i (by omega), show sConv ((w.1.2.1 (ix b)).2.getD i z0) (w.1.2.1 (ix a)).1 = (fun j => sConv (vtC (w.1.2.1 (ix a)).2 (w.1.2.1 (ix b)).2 (w.1.2.1 (ix c)).2 j) (w.1.2.1 (ix a)).1) i from by show _ = sConv (vtC (w.1.2.1 (ix a)).2 (w.1.2.1 (ix b)).2 (w.1.2.1 (ix c)).2 i) (w.1.2.1 (ix a)).1; rw [show vtC (w.1.2.1 (ix a)).2 (w.1.2.1 (ix b)).2 (w.1.2.1 (ix c)).2 i = (w.1.2.1 (ix b)).2.getD i z0 from by rw [vtC, hO, if_pos rfl]], vF_s, cUp_up]
        exact ih (i + 1) (by omega) (fun j hj => by rcases Nat.lt_or_eq_of_le (Nat.le_of_lt_succ hj) with z | z; exact hnb j z; rw [z]; exact (by rw [vtB, c236, Bool.not_true, Bool.and_false]))
    · have hO : vtO ((w.1.2.1 (ix a)).2.getD i z0) ((w.1.2.1 (ix b)).2.getD i z0) ((w.1.2.1 (ix c)).2.getD i z0) = false := by rw [vtO, hT, Bool.eq_false_iff.mpr h3]; rfl
      have hkp : (cCp ca (w.1.2.1 (ix a)).1 (w.1.2.1 (ix a)).2.length (w.1.2.1 (ix a)).2.length) i = (fun j => sConv (vtC (w.1.2.1 (ix a)).2 (w.1.2.1 (ix b)).2 (w.1.2.1 (ix c)).2 j) (w.1.2.1 (ix a)).1) i := by show _ = sConv (vtC (w.1.2.1 (ix a)).2 (w.1.2.1 (ix b)).2 (w.1.2.1 (ix c)).2 i) (w.1.2.1 (ix a)).1; rw [vtC, hO, if_neg Bool.false_ne_true, conv_fit (by rw [← hcla i (by omega)]; exact oka.1) (by rw [← hcla i (by omega)]; exact oka.2) oa.1, ← hcla i (by omega)]; simp only [cCp]; rw [if_pos (by omega)]
      refine z_iload dX9_vote_159 rfl rfl ?_
      first | refine z_aload dX9_vote_161 rfl rfl ?_ | refine z_aloadN dX9_vote_161 rfl rfl ?_
      refine zg_X9_88 rfl dX9_vote_163 rfl (cAt_fr hca (fun z z1 z2 => cUp_out (by omega))).1 rfl ?_
      refine z_icmp_ge (tgt := 265) dX9_vote_166 rfl (by decide) (fun c166 => absurd c166 (nI_ge (by omega) (by omega))) (fun c166 => ?_)
      first | refine z_aload dX9_vote_169 rfl rfl ?_ | refine z_aloadN dX9_vote_169 rfl rfl ?_
      refine z_iload dX9_vote_171 rfl rfl ?_
      first | refine z_aload dX9_vote_173 rfl rfl ?_ | refine z_aloadN dX9_vote_173 rfl rfl ?_
      refine z_iload dX9_vote_175 rfl rfl ?_
      refine zcx_X9_200 rfl dX9_vote_177 rfl (m_isAlike g (cUp h.1 (w.1.2.1 (ix a)).1 (w.1.2.1 (ix a)).2.length (vF (cCp ca (w.1.2.1 (ix a)).1 (w.1.2.1 (ix a)).2.length (w.1.2.1 (ix a)).2.length) (fun j => sConv (vtC (w.1.2.1 (ix a)).2 (w.1.2.1 (ix b)).2 (w.1.2.1 (ix c)).2 j) (w.1.2.1 (ix a)).1) i) (h.1 + 4, h.2)) aa _ _ ca (cAt_fr hca (fun z z1 z2 => cUp_out (by omega))) (by omega) i (by omega) ab _ _ cb (cAt_fr hcb (fun z z1 z2 => cUp_out (by omega))) (by omega) i (by omega) (cl_ok (h := h) (a := aa) oa hcla (by omega)).1 (cl_ok (h := h) (a := ab) ob hclb (by omega)).1) rfl rfl ⟨(Nat.le_of_ble_eq_true rfl), (Nat.le_of_ble_eq_true rfl)⟩ ⟨(Nat.le_of_ble_eq_true rfl), (Nat.le_of_ble_eq_true rfl)⟩ (Nat.le_of_ble_eq_true rfl) ?_
      rw [hcla i (by omega), hclb i (by omega)]
      refine z_bif_ne (tgt := 259) dX9_vote_180 rfl (by decide) (fun c180 => absurd c180 h1) (fun c180 => ?_)
      first | refine z_aload dX9_vote_183 rfl rfl ?_ | refine z_aloadN dX9_vote_183 rfl rfl ?_
      refine z_iload dX9_vote_185 rfl rfl ?_
      first | refine z_aload dX9_vote_187 rfl rfl ?_ | refine z_aloadN dX9_vote_187 rfl rfl ?_
      refine z_iload dX9_vote_189 rfl rfl ?_
      refine zcx_X9_200 rfl dX9_vote_191 rfl (m_isAlike g (cUp h.1 (w.1.2.1 (ix a)).1 (w.1.2.1 (ix a)).2.length (vF (cCp ca (w.1.2.1 (ix a)).1 (w.1.2.1 (ix a)).2.length (w.1.2.1 (ix a)).2.length) (fun j => sConv (vtC (w.1.2.1 (ix a)).2 (w.1.2.1 (ix b)).2 (w.1.2.1 (ix c)).2 j) (w.1.2.1 (ix a)).1) i) (h.1 + 4, h.2)) aa _ _ ca (cAt_fr hca (fun z z1 z2 => cUp_out (by omega))) (by omega) i (by omega) ac _ _ cc (cAt_fr hcc (fun z z1 z2 => cUp_out (by omega))) (by omega) i (by omega) (cl_ok (h := h) (a := aa) oa hcla (by omega)).1 (cl_ok (h := h) (a := ac) oc hclc (by omega)).1) rfl rfl ⟨(Nat.le_of_ble_eq_true rfl), (Nat.le_of_ble_eq_true rfl)⟩ ⟨(Nat.le_of_ble_eq_true rfl), (Nat.le_of_ble_eq_true rfl)⟩ (Nat.le_of_ble_eq_true rfl) ?_
      rw [hcla i (by omega), hclc i (by omega)]
      refine z_bif_eq (tgt := 200) dX9_vote_194 rfl (by decide) (fun c194 => ?_) (fun c194 => absurd c194 h2)
      first | refine z_aload dX9_vote_200 rfl rfl ?_ | refine z_aloadN dX9_vote_200 rfl rfl ?_
      refine z_iload dX9_vote_202 rfl rfl ?_
      first | refine z_aload dX9_vote_204 rfl rfl ?_ | refine z_aloadN dX9_vote_204 rfl rfl ?_
      refine z_iload dX9_vote_206 rfl rfl ?_
      refine zcx_X9_200 rfl dX9_vote_208 rfl (m_isAlike g (cUp h.1 (w.1.2.1 (ix a)).1 (w.1.2.1 (ix a)).2.length (vF (cCp ca (w.1.2.1 (ix a)).1 (w.1.2.1 (ix a)).2.length (w.1.2.1 (ix a)).2.length) (fun j => sConv (vtC (w.1.2.1 (ix a)).2 (w.1.2.1 (ix b)).2 (w.1.2.1 (ix c)).2 j) (w.1.2.1 (ix a)).1) i) (h.1 + 4, h.2)) ab _ _ cb (cAt_fr hcb (fun z z1 z2 => cUp_out (by omega))) (by omega) i (by omega) ac _ _ cc (cAt_fr hcc (fun z z1 z2 => cUp_out (by omega))) (by omega) i (by omega) (cl_ok (h := h) (a := ab) ob hclb (by omega)).1 (cl_ok (h := h) (a := ac) oc hclc (by omega)).1) rfl rfl ⟨(Nat.le_of_ble_eq_true rfl), (Nat.le_of_ble_eq_true rfl)⟩ ⟨(Nat.le_of_ble_eq_true rfl), (Nat.le_of_ble_eq_true rfl)⟩ (Nat.le_of_ble_eq_true rfl) ?_
      rw [hclb i (by omega), hclc i (by omega)]
      refine z_bif_ne (tgt := 220) dX9_vote_211 rfl (by decide) (fun c211 => absurd c211 h3) (fun c211 => ?_)
      refine z_iinc (v := nI (((List.range i).countP (vtS (w.1.2.1 (ix a)).2 (w.1.2.1 (ix b)).2 (w.1.2.1 (ix c)).2)) + 1)) dX9_vote_214 rfl rfl (nI_inc _) (Nat.le_of_ble_eq_true rfl) ?_
      refine z_goto (tgt := 259) dX9_vote_217 rfl (by decide) ?_
      refine z_iinc (v := nI (i + 1)) dX9_vote_259 rfl rfl (nI_inc i) (Nat.le_of_ble_eq_true rfl) ?_
      refine z_goto (tgt := 159) dX9_vote_262 rfl (by decide) ?_
      refine z_lv [(8, .ref h.1), (9, .int (nI ((List.range (i + 1)).countP (vtS (w.1.2.1 (ix a)).2 (w.1.2.1 (ix b)).2 (w.1.2.1 (ix c)).2)))), (10, .int (nI (i + 1))), (0, .ref x), (1, .int r), (5, .ref aa), (6, .ref ab), (7, .ref ac)] (by rw [show ((List.range (i + 1)).countP (vtS (w.1.2.1 (ix a)).2 (w.1.2.1 (ix b)).2 (w.1.2.1 (ix c)).2)) = ((List.range i).countP (vtS (w.1.2.1 (ix a)).2 (w.1.2.1 (ix b)).2 (w.1.2.1 (ix c)).2)) + 1 from by rw [rg_s, show vtS (w.1.2.1 (ix a)).2 (w.1.2.1 (ix b)).2 (w.1.2.1 (ix c)).2 i = true by rw [vtS, hT, hO]; rfl]; rfl]; exact ⟨rfl, rfl, rfl, rfl, rfl, rfl, rfl, rfl, trivial⟩) ?_
      rw [vF_k hkp]
      exact ih (i + 1) (by omega) (fun j hj => by rcases Nat.lt_or_eq_of_le (Nat.le_of_lt_succ hj) with z | z; exact hnb j z; rw [z]; exact (by rw [vtB, hO]; rfl))

set_option maxHeartbeats 800000 in
set_option maxRecDepth 100000 in
theorem C_vote (g : zG) (h : zH) (x m : Nat) (w : sW) (hRC : RepC h x m w) (r a b c : Int32) : zM g yX9_vote cX9_vote 11 (some .int) rmX9_vote [.ref x, .int r, .int a, .int b, .int c] h (cPost x m h (pVote w r a b c)) := by
  refine zM_of (by decide) (Nat.le_of_ble_eq_true rfl) ?_
  obtain ⟨col, p, F, Z, k, I, P, q, T, V, hR⟩ := id hRC
  obtain ⟨hw, hz, hS, hq, hr, hX⟩ := id hR
  obtain ⟨S0, S1, S2, S3, S4, S5⟩ := id hS
  obtain ⟨R0, R1, R2, R3⟩ := id hr
  refine z_iload_n dX9_vote_0 rfl rfl ?_
  refine zcx_X9_46 rfl dX9_vote_1 rfl (m_isRecord g h _) rfl rfl ⟨(Nat.le_of_ble_eq_true rfl), (Nat.le_of_ble_eq_true rfl)⟩ ⟨(Nat.le_of_ble_eq_true rfl), (Nat.le_of_ble_eq_true rfl)⟩ (Nat.le_of_ble_eq_true rfl) ?_
  refine z_bif_eq (tgt := 29) dX9_vote_4 rfl (by decide) (fun c4 => ?_) (fun c4 => ?_)
  · skip
    refine z_iconst (v := -1) dX9_vote_29 rfl (by decide) ?_
    exact z_iret dX9_vote_30 rfl rfl (cPost_same hRC (vote_b (by grind))) (Nat.le_of_ble_eq_true rfl) (Nat.le_of_ble_eq_true rfl)
  · skip
    refine z_iload_n dX9_vote_7 rfl rfl ?_
    refine zcx_X9_46 rfl dX9_vote_8 rfl (m_isRecord g h _) rfl rfl ⟨(Nat.le_of_ble_eq_true rfl), (Nat.le_of_ble_eq_true rfl)⟩ ⟨(Nat.le_of_ble_eq_true rfl), (Nat.le_of_ble_eq_true rfl)⟩ (Nat.le_of_ble_eq_true rfl) ?_
    refine z_bif_eq (tgt := 29) dX9_vote_11 rfl (by decide) (fun c11 => ?_) (fun c11 => ?_)
    · skip
      refine z_iconst (v := -1) dX9_vote_29 rfl (by decide) ?_
      exact z_iret dX9_vote_30 rfl rfl (cPost_same hRC (vote_b (by grind))) (Nat.le_of_ble_eq_true rfl) (Nat.le_of_ble_eq_true rfl)
    · skip
      refine z_iload_n dX9_vote_14 rfl rfl ?_
      refine zcx_X9_46 rfl dX9_vote_15 rfl (m_isRecord g h _) rfl rfl ⟨(Nat.le_of_ble_eq_true rfl), (Nat.le_of_ble_eq_true rfl)⟩ ⟨(Nat.le_of_ble_eq_true rfl), (Nat.le_of_ble_eq_true rfl)⟩ (Nat.le_of_ble_eq_true rfl) ?_
      refine z_bif_eq (tgt := 29) dX9_vote_18 rfl (by decide) (fun c18 => ?_) (fun c18 => ?_)
      · skip
        refine z_iconst (v := -1) dX9_vote_29 rfl (by decide) ?_
        exact z_iret dX9_vote_30 rfl rfl (cPost_same hRC (vote_b (by grind))) (Nat.le_of_ble_eq_true rfl) (Nat.le_of_ble_eq_true rfl)
      · skip
        refine z_iload dX9_vote_21 rfl rfl ?_
        refine zcx_X9_46 rfl dX9_vote_23 rfl (m_isRecord g h _) rfl rfl ⟨(Nat.le_of_ble_eq_true rfl), (Nat.le_of_ble_eq_true rfl)⟩ ⟨(Nat.le_of_ble_eq_true rfl), (Nat.le_of_ble_eq_true rfl)⟩ (Nat.le_of_ble_eq_true rfl) ?_
        refine z_bif_ne (tgt := 31) dX9_vote_26 rfl (by decide) (fun c26 => ?_) (fun c26 => ?_)
        · skip
          rcases hFa : F (ix a) with _ | aa
          · have hrfa := rf_n hr (ix_lt c11) hFa
            have hposa : 0 < rowF w.1 (ix a) := by rw [← hrfa]; split <;> decide
            first | refine z_aload_n dX9_vote_31 rfl rfl ?_ | refine z_aload_nN dX9_vote_31 rfl rfl ?_
            refine zg_X9_10 rfl dX9_vote_32 rfl S0 rfl ?_
            refine zg_X9_69 rfl dX9_vote_35 rfl R0.1 rfl ?_
            refine z_iload_n dX9_vote_38 rfl rfl ?_
            refine z_aaldn dX9_vote_39 rfl R0.2.1 rfl rfl (rec_in c11) hFa ?_
            first | refine z_astore dX9_vote_40 rfl (Nat.le_of_ble_eq_true rfl) ?_ | refine z_astoreN dX9_vote_40 rfl (Nat.le_of_ble_eq_true rfl) ?_
            first | refine z_aload dX9_vote_42 rfl rfl ?_ | refine z_aloadN dX9_vote_42 rfl rfl ?_
            refine z_ifnonnullN dX9_vote_44 rfl ?_
            first | refine z_aload_n dX9_vote_47 rfl rfl ?_ | refine z_aload_nN dX9_vote_47 rfl rfl ?_
            refine zg_X9_10 rfl dX9_vote_48 rfl S0 rfl ?_
            refine z_iload_n dX9_vote_51 rfl rfl ?_
            refine zcx_X9_85 rfl dX9_vote_52 rfl R0.1 (m_faultI g h p F Z R0 _ c11) rfl rfl ⟨(Nat.le_of_ble_eq_true rfl), (Nat.le_of_ble_eq_true rfl)⟩ ⟨(Nat.le_of_ble_eq_true rfl), (Nat.le_of_ble_eq_true rfl)⟩ (Nat.le_of_ble_eq_true rfl) ?_
            refine zcx_X9_62 rfl dX9_vote_55 rfl (m_answer g h _) rfl rfl ⟨(Nat.le_of_ble_eq_true rfl), (Nat.le_of_ble_eq_true rfl)⟩ ⟨(Nat.le_of_ble_eq_true rfl), (Nat.le_of_ble_eq_true rfl)⟩ (Nat.le_of_ble_eq_true rfl) ?_
            exact z_iret dX9_vote_58 rfl rfl (cPost_same hRC (by rw [vote_f c4 c11 c18 c26 (x := rowF w.1 (ix a)) (by rw [voteF, if_pos hposa]) hposa, hrfa])) (Nat.le_of_ble_eq_true rfl) (Nat.le_of_ble_eq_true rfl)
          · obtain ⟨h2a, hZa, ⟨hoa, ca, hca, hcla⟩, hcola⟩ := rc_a hr (ix_lt c11) hFa
            have hrfa := rf_a hr (ix_lt c11) hFa
            have hla : (w.1.2.1 (ix a)).2.length ≤ 20 := hoa.2.2.1
            rcases hFb : F (ix b) with _ | ab
            · have hrfb := rf_n hr (ix_lt c18) hFb
              have hposb : 0 < rowF w.1 (ix b) := by rw [← hrfb]; split <;> decide
              first | refine z_aload_n dX9_vote_31 rfl rfl ?_ | refine z_aload_nN dX9_vote_31 rfl rfl ?_
              refine zg_X9_10 rfl dX9_vote_32 rfl S0 rfl ?_
              refine zg_X9_69 rfl dX9_vote_35 rfl R0.1 rfl ?_
              refine z_iload_n dX9_vote_38 rfl rfl ?_
              refine z_aalds dX9_vote_39 rfl R0.2.1 rfl rfl (rec_in c11) hFa ?_
              first | refine z_astore dX9_vote_40 rfl (Nat.le_of_ble_eq_true rfl) ?_ | refine z_astoreN dX9_vote_40 rfl (Nat.le_of_ble_eq_true rfl) ?_
              first | refine z_aload dX9_vote_42 rfl rfl ?_ | refine z_aloadN dX9_vote_42 rfl rfl ?_
              refine z_ifnonnull (tgt := 59) dX9_vote_44 rfl (by decide) ?_
              first | refine z_aload_n dX9_vote_59 rfl rfl ?_ | refine z_aload_nN dX9_vote_59 rfl rfl ?_
              refine zg_X9_10 rfl dX9_vote_60 rfl S0 rfl ?_
              refine zg_X9_69 rfl dX9_vote_63 rfl R0.1 rfl ?_
              refine z_iload_n dX9_vote_66 rfl rfl ?_
              refine z_aaldn dX9_vote_67 rfl R0.2.1 rfl rfl (rec_in c18) hFb ?_
              first | refine z_astore dX9_vote_68 rfl (Nat.le_of_ble_eq_true rfl) ?_ | refine z_astoreN dX9_vote_68 rfl (Nat.le_of_ble_eq_true rfl) ?_
              first | refine z_aload dX9_vote_70 rfl rfl ?_ | refine z_aloadN dX9_vote_70 rfl rfl ?_
              refine z_ifnonnullN dX9_vote_72 rfl ?_
              first | refine z_aload_n dX9_vote_75 rfl rfl ?_ | refine z_aload_nN dX9_vote_75 rfl rfl ?_
              refine zg_X9_10 rfl dX9_vote_76 rfl S0 rfl ?_
              refine z_iload_n dX9_vote_79 rfl rfl ?_
              refine zcx_X9_85 rfl dX9_vote_80 rfl R0.1 (m_faultI g h p F Z R0 _ c18) rfl rfl ⟨(Nat.le_of_ble_eq_true rfl), (Nat.le_of_ble_eq_true rfl)⟩ ⟨(Nat.le_of_ble_eq_true rfl), (Nat.le_of_ble_eq_true rfl)⟩ (Nat.le_of_ble_eq_true rfl) ?_
              refine zcx_X9_62 rfl dX9_vote_83 rfl (m_answer g h _) rfl rfl ⟨(Nat.le_of_ble_eq_true rfl), (Nat.le_of_ble_eq_true rfl)⟩ ⟨(Nat.le_of_ble_eq_true rfl), (Nat.le_of_ble_eq_true rfl)⟩ (Nat.le_of_ble_eq_true rfl) ?_
              exact z_iret dX9_vote_86 rfl rfl (cPost_same hRC (by rw [vote_f c4 c11 c18 c26 (x := rowF w.1 (ix b)) (by rw [voteF, if_neg (by rw [hrfa]; decide), if_pos hposb]) hposb, hrfb])) (Nat.le_of_ble_eq_true rfl) (Nat.le_of_ble_eq_true rfl)
            · obtain ⟨h2b, hZb, ⟨hob, cb, hcb, hclb⟩, hcolb⟩ := rc_a hr (ix_lt c18) hFb
              have hrfb := rf_a hr (ix_lt c18) hFb
              have hlb : (w.1.2.1 (ix b)).2.length ≤ 20 := hob.2.2.1
              rcases hFc : F (ix c) with _ | ac
              · have hrfc := rf_n hr (ix_lt c26) hFc
                have hposc : 0 < rowF w.1 (ix c) := by rw [← hrfc]; split <;> decide
                first | refine z_aload_n dX9_vote_31 rfl rfl ?_ | refine z_aload_nN dX9_vote_31 rfl rfl ?_
                refine zg_X9_10 rfl dX9_vote_32 rfl S0 rfl ?_
                refine zg_X9_69 rfl dX9_vote_35 rfl R0.1 rfl ?_
                refine z_iload_n dX9_vote_38 rfl rfl ?_
                refine z_aalds dX9_vote_39 rfl R0.2.1 rfl rfl (rec_in c11) hFa ?_
                first | refine z_astore dX9_vote_40 rfl (Nat.le_of_ble_eq_true rfl) ?_ | refine z_astoreN dX9_vote_40 rfl (Nat.le_of_ble_eq_true rfl) ?_
                first | refine z_aload dX9_vote_42 rfl rfl ?_ | refine z_aloadN dX9_vote_42 rfl rfl ?_
                refine z_ifnonnull (tgt := 59) dX9_vote_44 rfl (by decide) ?_
                first | refine z_aload_n dX9_vote_59 rfl rfl ?_ | refine z_aload_nN dX9_vote_59 rfl rfl ?_
                refine zg_X9_10 rfl dX9_vote_60 rfl S0 rfl ?_
                refine zg_X9_69 rfl dX9_vote_63 rfl R0.1 rfl ?_
                refine z_iload_n dX9_vote_66 rfl rfl ?_
                refine z_aalds dX9_vote_67 rfl R0.2.1 rfl rfl (rec_in c18) hFb ?_
                first | refine z_astore dX9_vote_68 rfl (Nat.le_of_ble_eq_true rfl) ?_ | refine z_astoreN dX9_vote_68 rfl (Nat.le_of_ble_eq_true rfl) ?_
                first | refine z_aload dX9_vote_70 rfl rfl ?_ | refine z_aloadN dX9_vote_70 rfl rfl ?_
                refine z_ifnonnull (tgt := 87) dX9_vote_72 rfl (by decide) ?_
                first | refine z_aload_n dX9_vote_87 rfl rfl ?_ | refine z_aload_nN dX9_vote_87 rfl rfl ?_
                refine zg_X9_10 rfl dX9_vote_88 rfl S0 rfl ?_
                refine zg_X9_69 rfl dX9_vote_91 rfl R0.1 rfl ?_
                refine z_iload dX9_vote_94 rfl rfl ?_
                refine z_aaldn dX9_vote_96 rfl R0.2.1 rfl rfl (rec_in c26) hFc ?_
                first | refine z_astore dX9_vote_97 rfl (Nat.le_of_ble_eq_true rfl) ?_ | refine z_astoreN dX9_vote_97 rfl (Nat.le_of_ble_eq_true rfl) ?_
                first | refine z_aload dX9_vote_99 rfl rfl ?_ | refine z_aloadN dX9_vote_99 rfl rfl ?_
                refine z_ifnonnullN dX9_vote_101 rfl ?_
                first | refine z_aload_n dX9_vote_104 rfl rfl ?_ | refine z_aload_nN dX9_vote_104 rfl rfl ?_
                refine zg_X9_10 rfl dX9_vote_105 rfl S0 rfl ?_
                refine z_iload dX9_vote_108 rfl rfl ?_
                refine zcx_X9_85 rfl dX9_vote_110 rfl R0.1 (m_faultI g h p F Z R0 _ c26) rfl rfl ⟨(Nat.le_of_ble_eq_true rfl), (Nat.le_of_ble_eq_true rfl)⟩ ⟨(Nat.le_of_ble_eq_true rfl), (Nat.le_of_ble_eq_true rfl)⟩ (Nat.le_of_ble_eq_true rfl) ?_
                refine zcx_X9_62 rfl dX9_vote_113 rfl (m_answer g h _) rfl rfl ⟨(Nat.le_of_ble_eq_true rfl), (Nat.le_of_ble_eq_true rfl)⟩ ⟨(Nat.le_of_ble_eq_true rfl), (Nat.le_of_ble_eq_true rfl)⟩ (Nat.le_of_ble_eq_true rfl) ?_
                exact z_iret dX9_vote_116 rfl rfl (cPost_same hRC (by rw [vote_f c4 c11 c18 c26 (x := rowF w.1 (ix c)) (by rw [voteF, if_neg (by rw [hrfa]; decide), if_neg (by rw [hrfb]; decide)]) hposc, hrfc])) (Nat.le_of_ble_eq_true rfl) (Nat.le_of_ble_eq_true rfl)
              · obtain ⟨h2c, hZc, ⟨hoc, cc, hcc, hclc⟩, hcolc⟩ := rc_a hr (ix_lt c26) hFc
                have hrfc := rf_a hr (ix_lt c26) hFc
                have hlc : (w.1.2.1 (ix c)).2.length ≤ 20 := hoc.2.2.1
                first | refine z_aload_n dX9_vote_31 rfl rfl ?_ | refine z_aload_nN dX9_vote_31 rfl rfl ?_
                refine zg_X9_10 rfl dX9_vote_32 rfl S0 rfl ?_
                refine zg_X9_69 rfl dX9_vote_35 rfl R0.1 rfl ?_
                refine z_iload_n dX9_vote_38 rfl rfl ?_
                refine z_aalds dX9_vote_39 rfl R0.2.1 rfl rfl (rec_in c11) hFa ?_
                first | refine z_astore dX9_vote_40 rfl (Nat.le_of_ble_eq_true rfl) ?_ | refine z_astoreN dX9_vote_40 rfl (Nat.le_of_ble_eq_true rfl) ?_
                first | refine z_aload dX9_vote_42 rfl rfl ?_ | refine z_aloadN dX9_vote_42 rfl rfl ?_
                refine z_ifnonnull (tgt := 59) dX9_vote_44 rfl (by decide) ?_
                first | refine z_aload_n dX9_vote_59 rfl rfl ?_ | refine z_aload_nN dX9_vote_59 rfl rfl ?_
                refine zg_X9_10 rfl dX9_vote_60 rfl S0 rfl ?_
                refine zg_X9_69 rfl dX9_vote_63 rfl R0.1 rfl ?_
                refine z_iload_n dX9_vote_66 rfl rfl ?_
                refine z_aalds dX9_vote_67 rfl R0.2.1 rfl rfl (rec_in c18) hFb ?_
                first | refine z_astore dX9_vote_68 rfl (Nat.le_of_ble_eq_true rfl) ?_ | refine z_astoreN dX9_vote_68 rfl (Nat.le_of_ble_eq_true rfl) ?_
                first | refine z_aload dX9_vote_70 rfl rfl ?_ | refine z_aloadN dX9_vote_70 rfl rfl ?_
                refine z_ifnonnull (tgt := 87) dX9_vote_72 rfl (by decide) ?_
                first | refine z_aload_n dX9_vote_87 rfl rfl ?_ | refine z_aload_nN dX9_vote_87 rfl rfl ?_
                refine zg_X9_10 rfl dX9_vote_88 rfl S0 rfl ?_
                refine zg_X9_69 rfl dX9_vote_91 rfl R0.1 rfl ?_
                refine z_iload dX9_vote_94 rfl rfl ?_
                refine z_aalds dX9_vote_96 rfl R0.2.1 rfl rfl (rec_in c26) hFc ?_
                first | refine z_astore dX9_vote_97 rfl (Nat.le_of_ble_eq_true rfl) ?_ | refine z_astoreN dX9_vote_97 rfl (Nat.le_of_ble_eq_true rfl) ?_
                first | refine z_aload dX9_vote_99 rfl rfl ?_ | refine z_aloadN dX9_vote_99 rfl rfl ?_
                refine z_ifnonnull (tgt := 117) dX9_vote_101 rfl (by decide) ?_
                first | refine z_aload dX9_vote_117 rfl rfl ?_ | refine z_aloadN dX9_vote_117 rfl rfl ?_
                refine zg_X9_88 rfl dX9_vote_119 rfl hca.1 rfl ?_
                first | refine z_aload dX9_vote_122 rfl rfl ?_ | refine z_aloadN dX9_vote_122 rfl rfl ?_
                refine zg_X9_88 rfl dX9_vote_124 rfl hcb.1 rfl ?_
                refine z_icmp_ne (tgt := 143) dX9_vote_127 rfl (by decide) (fun c127 => ?_) (fun c127 => ?_)
                · skip
                  refine z_bipush (v := -2) dX9_vote_143 rfl (by decide) ?_
                  exact z_iret dX9_vote_145 rfl rfl (cPost_same hRC (vote_ne c4 c11 c18 c26 (by rw [voteF, if_neg (by rw [hrfa]; decide), if_neg (by rw [hrfb]; decide), hrfc]; decide) (by first | exact fun z => c127 (by rw [z.1]) | exact fun z => c140 (by rw [z.2])))) (Nat.le_of_ble_eq_true rfl) (Nat.le_of_ble_eq_true rfl)
                · skip
                  first | refine z_aload dX9_vote_130 rfl rfl ?_ | refine z_aloadN dX9_vote_130 rfl rfl ?_
                  refine zg_X9_88 rfl dX9_vote_132 rfl hca.1 rfl ?_
                  first | refine z_aload dX9_vote_135 rfl rfl ?_ | refine z_aloadN dX9_vote_135 rfl rfl ?_
                  refine zg_X9_88 rfl dX9_vote_137 rfl hcc.1 rfl ?_
                  refine z_icmp_eq (tgt := 146) dX9_vote_140 rfl (by decide) (fun c140 => ?_) (fun c140 => ?_)
                  · skip
                    first | refine z_aload dX9_vote_146 rfl rfl ?_ | refine z_aloadN dX9_vote_146 rfl rfl ?_
                    refine zcx_X9_140 rfl dX9_vote_148 rfl hca.1 (m_copy g h aa _ _ ca hca (by omega) hw ⟨hoa.1, hoa.2.1⟩ (fun i hi => cl_ok (h := h) (a := aa) hoa hcla hi)) rfl rfl ⟨(Nat.le_of_ble_eq_true rfl), (Nat.le_of_ble_eq_true rfl)⟩ ⟨(Nat.le_of_ble_eq_true rfl), (Nat.le_of_ble_eq_true rfl)⟩ (Nat.le_of_ble_eq_true rfl) ?_
                    first | refine z_astore dX9_vote_151 rfl (Nat.le_of_ble_eq_true rfl) ?_ | refine z_astoreN dX9_vote_151 rfl (Nat.le_of_ble_eq_true rfl) ?_
                    refine z_iconst (v := 0) dX9_vote_153 rfl (by decide) ?_
                    refine z_istore dX9_vote_154 rfl (Nat.le_of_ble_eq_true rfl) ?_
                    refine z_iconst (v := 0) dX9_vote_156 rfl (by decide) ?_
                    refine z_istore dX9_vote_157 rfl (Nat.le_of_ble_eq_true rfl) ?_
                    have eb := ((nI_eq (by omega) (by omega)).mp c127).symm
                    have ec := ((nI_eq (by omega) (by omega)).mp c140).symm
                    refine zZ_h (cUp h.1 (w.1.2.1 (ix a)).1 (w.1.2.1 (ix a)).2.length (vF (cCp ca (w.1.2.1 (ix a)).1 (w.1.2.1 (ix a)).2.length (w.1.2.1 (ix a)).2.length) (fun j => sConv (vtC (w.1.2.1 (ix a)).2 (w.1.2.1 (ix b)).2 (w.1.2.1 (ix c)).2 j) (w.1.2.1 (ix a)).1) 0) (h.1 + 4, h.2)) (by rw [← vF_0]) ?_
                    refine z_lv [(8, .ref h.1), (9, .int (nI ((List.range 0).countP (vtS (w.1.2.1 (ix a)).2 (w.1.2.1 (ix b)).2 (w.1.2.1 (ix c)).2)))), (10, .int (nI 0)), (0, .ref x), (1, .int r), (5, .ref aa), (6, .ref ab), (7, .ref ac)] ⟨rfl, rfl, rfl, rfl, rfl, rfl, rfl, rfl, trivial⟩ ?_
                    exact C_vote_L g h x m w col p F Z k I P q T V hR r a b c c4 c11 c18 c26 aa ca hoa hca hcla hFa ab cb hob hcb hclb hFb ac cc hoc hcc hclc hFc eb ec (w.1.2.1 (ix a)).2.length 0 (by omega) (fun j hj => absurd hj (by omega))
                  · skip
                    refine z_bipush (v := -2) dX9_vote_143 rfl (by decide) ?_
                    exact z_iret dX9_vote_145 rfl rfl (cPost_same hRC (vote_ne c4 c11 c18 c26 (by rw [voteF, if_neg (by rw [hrfa]; decide), if_neg (by rw [hrfb]; decide), hrfc]; decide) (by first | exact fun z => c127 (by rw [z.1]) | exact fun z => c140 (by rw [z.2])))) (Nat.le_of_ble_eq_true rfl) (Nat.le_of_ble_eq_true rfl)
        · skip
          refine z_iconst (v := -1) dX9_vote_29 rfl (by decide) ?_
          exact z_iret dX9_vote_30 rfl rfl (cPost_same hRC (vote_b (by grind))) (Nat.le_of_ble_eq_true rfl) (Nat.le_of_ble_eq_true rfl)

