def actC (t : sStep) : Int32 := if t.1 = 0 then (if t.2.2.2.1 = 0 then 0 else 1) else if t.1 = 1 then 2 else 3
def mkAct (C : sCo) (t : sStep) : sAct := (actC t, if t.1 = 2 then none else some (C.1.2.getD (ix t.2.1) z0), if t.1 = 1 then none else some (C.2.1.2.getD (ix t.2.2.1) z0))
def isCh (a : sAct) : Bool := !decide (a.1 = 0)
/-- 24 -/
def pPatch (w : sW) (p : Int32) : Int32 × sW :=
  if ¬ (0 ≤ p ∧ p ≤ 3) then (-1, w) else match w.2.2.2.2.2.1 with
  | none => (-2, w)
  | some C => (nI ((C.2.2.2.map (mkAct C)).countP isCh), wPat w (ix p) (some (C.2.2.2.map (mkAct C))))
theorem patch_none {w : sW} {p : Int32} (hp : 0 ≤ p ∧ p ≤ 3) (h : w.2.2.2.2.2.1 = none) : pPatch w p = (-2, w) := by
  unfold pPatch
  rw [if_neg (fun z => z hp), h]
theorem patch_some {w : sW} {p : Int32} {C : sCo} (hp : 0 ≤ p ∧ p ≤ 3) (h : w.2.2.2.2.2.1 = some C) : pPatch w p = (nI ((C.2.2.2.map (mkAct C)).countP isCh), wPat w (ix p) (some (C.2.2.2.map (mkAct C)))) := by
  unfold pPatch
  rw [if_neg (fun z => z hp), h]
theorem agP_co {S S' : sMS} {p : Nat} (h : agP S S' p) {C : sCo} (h4 : coIs S (some C)) : coIs S' (some C) := by
  have e9 := h.1 9 (by decide) (by decide) (by decide) (by decide)
  have e10 := h.1 10 (by decide) (by decide) (by decide) (by decide)
  have e11 := h.1 11 (by decide) (by decide) (by decide) (by decide)
  have e12 := h.1 12 (by decide) (by decide) (by decide) (by decide)
  have e13 := h.1 13 (by decide) (by decide) (by decide) (by decide)
  have e14 := h.1 14 (by decide) (by decide) (by decide) (by decide)
  obtain ⟨q1, q2, q3, q4, q5, q6, q7⟩ := h4
  refine ⟨by rw [h.2.2.2]; exact q1, agP_row h (by decide) q2, agP_row h (by decide) q3, by rw [h.2.2.2]; exact q4, by rw [h.2.2.2]; exact q5, q6, fun k t hk => ?_⟩
  have := q7 k t hk
  unfold stepIs at this ⊢
  rw [e9, e10, e11, e12, e13, e14]
  exact this
/-- the cells that a step takes -/
theorem co_cells {S : sMS} {C : sCo} (hC : coIs S (some C)) {k : Nat} {t : sStep} (hk : C.2.2.2[k]? = some t) : S.1 9 k = t.1 ∧ (t.1 = 0 ∨ t.1 = 1 ∨ t.1 = 2) ∧ (t.1 ≠ 2 → ∃ i, i < 20 ∧ S.1 10 k = nI i ∧ mc S (20 * 24 + i) = C.1.2.getD (ix t.2.1) z0 ∧ sOk (C.1.2.getD (ix t.2.1) z0)) ∧ (t.1 ≠ 1 → ∃ i, i < 20 ∧ S.1 11 k = nI i ∧ mc S (20 * 25 + i) = C.2.1.2.getD (ix t.2.2.1) z0 ∧ sOk (C.2.1.2.getD (ix t.2.2.1) z0)) := by
  obtain ⟨q1, q2, q3, q4, q5, q6, q7⟩ := hC
  have l1 := q2.2.2.1.2.2.1
  have l2 := q3.2.2.1.2.2.1
  have hL : ∀ i, i < C.1.2.length → ∀ v, v = nI i → mc S (20 * 24 + i) = C.1.2.getD (ix v) z0 ∧ sOk (C.1.2.getD (ix v) z0) := fun i hi v hv => by
    rw [hv, show ix (nI i) = i from nI_clamp (by omega)]
    refine ⟨q2.2.2.2 i hi, ?_⟩
    rw [List.getD_eq_getElem?_getD, List.getElem?_eq_getElem hi]
    exact (q2.2.2.1.2.2.2 _ (List.getElem_mem hi)).1
  have hR : ∀ i, i < C.2.1.2.length → ∀ v, v = nI i → mc S (20 * 25 + i) = C.2.1.2.getD (ix v) z0 ∧ sOk (C.2.1.2.getD (ix v) z0) := fun i hi v hv => by
    rw [hv, show ix (nI i) = i from nI_clamp (by omega)]
    refine ⟨q3.2.2.2 i hi, ?_⟩
    rw [List.getD_eq_getElem?_getD, List.getElem?_eq_getElem hi]
    exact (q3.2.2.1.2.2.2 _ (List.getElem_mem hi)).1
  obtain ⟨s1, s2, s3, s4⟩ := q7 k t hk
  refine ⟨s1, ?_⟩
  rcases s4 with ⟨z, y1, y2, ⟨i, j, hi, hj, e1, e2, -⟩, -⟩ | ⟨z, y1, y2, -, ⟨i, hi, e1⟩, -⟩ | ⟨z, y1, y2, -, ⟨j, hj, e2⟩, -⟩
  · exact ⟨Or.inl z, fun _ => ⟨i, by omega, y1.trans e1, hL i hi _ e1⟩, fun _ => ⟨j, by omega, y2.trans e2, hR j hj _ e2⟩⟩
  · exact ⟨Or.inr (Or.inl z), fun _ => ⟨i, by omega, y1.trans e1, hL i hi _ e1⟩, fun q => absurd z q⟩
  · exact ⟨Or.inr (Or.inr z), fun q => absurd z q, fun _ => ⟨j, by omega, y2.trans e2, hR j hj _ e2⟩⟩
/-- k acts are laid -/
def ptIs (S S1 : sMS) (p : Nat) (C : sCo) (k : Nat) : Prop := agP S S1 p ∧ ∀ j t, j < k → C.2.2.2[j]? = some t → actIs S1 p j (mkAct C t)
theorem pt_step {S S1 S4 : sMS} {p k : Nat} {C : sCo} {t : sStep} (hp : p < 4) (hl : C.2.2.2.length ≤ 40) (h : ptIs S S1 p C k) (hk : C.2.2.2[k]? = some t) (f1 : ∀ j, j ≠ 1 → j ≠ 17 → S4.1 j = S1.1 j) (f2 : ∀ q, S4.1 17 q = if q = 40 * p + k then actC t else S1.1 17 q) (f3 : ∀ q, q ≠ 560 + (40 * p + k) → q ≠ 720 + (40 * p + k) → mc S4 q = mc S1 q) (f4 : S4.2.2.2 = S1.2.2.2) (ht : t.1 = 0 ∨ t.1 = 1 ∨ t.1 = 2) (hL : t.1 ≠ 2 → mc S4 (560 + (40 * p + k)) = C.1.2.getD (ix t.2.1) z0 ∧ sOk (C.1.2.getD (ix t.2.1) z0)) (hR : t.1 ≠ 1 → mc S4 (720 + (40 * p + k)) = C.2.1.2.getD (ix t.2.2.1) z0 ∧ sOk (C.2.1.2.getD (ix t.2.2.1) z0)) : ptIs S S4 p C (k + 1) := by
  obtain ⟨h1, h4⟩ := h
  have hkl := (List.getElem?_eq_some_iff.mp hk).1
  refine ⟨agP_act hp (show k < 40 by omega) h1 f1 (fun q hq => by rw [f2, if_neg hq]) (fun q a b c => f3 q b c) f4, fun j u hjk hj => ?_⟩
  have hjl := (List.getElem?_eq_some_iff.mp hj).1
  by_cases e : j = k
  · subst e
    rw [hk] at hj
    obtain rfl := Option.some.inj hj
    refine ⟨by rw [f2, if_pos rfl]; rfl, ?_, ?_, ?_, ?_, fun c hc => ?_, fun c hc => ?_⟩
    · show 0 ≤ actC t; unfold actC; grind
    · show actC t ≤ 3; unfold actC; grind
    · show (if t.1 = 2 then none else some _) = none ↔ actC t = 3
      unfold actC
      grind
    · show (if t.1 = 1 then none else some _) = none ↔ actC t = 2
      unfold actC
      grind
    · have hc : (if t.1 = 2 then none else some (C.1.2.getD (ix t.2.1) z0)) = some c := hc
      by_cases e2 : t.1 = 2
      · rw [if_pos e2] at hc; cases hc
      · rw [if_neg e2] at hc; obtain rfl := Option.some.inj hc; exact hL e2
    · have hc : (if t.1 = 1 then none else some (C.2.1.2.getD (ix t.2.2.1) z0)) = some c := hc
      by_cases e2 : t.1 = 1
      · rw [if_pos e2] at hc; cases hc
      · rw [if_neg e2] at hc; obtain rfl := Option.some.inj hc; exact hR e2
  · exact act_fr (S4 := S4) hp (show j < 40 by omega) (show k < 40 by omega) e (fun q hq => by rw [f2, if_neg hq]) (fun q a b c => f3 q b c) (h4 j u (by omega) hj)
/-- the patch's flags are set -/
def mPF (S : sMS) (p : Nat) (n : Int32) : sMS := (va_up (va_up S.1 15 (upd (S.1 15) p 1)) 16 (upd (S.1 16) p n), S.2)
theorem mPF_eq (S : sMS) (p : Nat) (n : Int32) : (va_up (va_up S.1 15 (upd (S.1 15) p 1)) 16 (upd ((va_up S.1 15 (upd (S.1 15) p 1)) 16) p n), S.2) = mPF S p n := by simp [mPF, va_up]
theorem mPF_o (S : sMS) (p : Nat) (n : Int32) {j : Nat} (h : j ≠ 15) (h2 : j ≠ 16) : (mPF S p n).1 j = S.1 j := by simp [mPF, va_up, h, h2]
theorem mPF_15 (S : sMS) (p : Nat) (n : Int32) : (mPF S p n).1 15 = upd (S.1 15) p 1 := by simp [mPF, va_up]
theorem mPF_16 (S : sMS) (p : Nat) (n : Int32) : (mPF S p n).1 16 = upd (S.1 16) p n := by simp [mPF, va_up]
theorem mc_PF (S : sMS) (p : Nat) (n : Int32) (j : Nat) : mc (mPF S p n) j = mc S j := by simp [mc, mPF, va_up]
theorem pt_end {S S1 : sMS} {p : Nat} {C : sCo} (h : ptIs S S1 p C C.2.2.2.length) (hl : C.2.2.2.length ≤ 40) : agP S (mPF S1 p (nI C.2.2.2.length)) p ∧ patIs (mPF S1 p (nI C.2.2.2.length)) p (some (C.2.2.2.map (mkAct C))) := by
  obtain ⟨h1, h4⟩ := h
  refine ⟨agP_t h1 ⟨fun j a b c d => mPF_o _ _ _ b c, fun q hq hqp => ⟨by rw [mPF_15, upd, if_neg hqp], by rw [mPF_16, upd, if_neg hqp], fun i hi => ⟨by rw [mPF_o _ _ _ (by decide) (by decide)], mc_PF _ _ _ _, mc_PF _ _ _ _⟩⟩, fun a ha => mc_PF _ _ _ _, rfl⟩, by rw [mPF_15, upd, if_pos rfl], by rw [mPF_16, upd, if_pos rfl, List.length_map], by rw [List.length_map]; exact hl, fun k a hk => ?_⟩
  rw [List.getElem?_map, Option.map_eq_some_iff] at hk
  obtain ⟨t, ht, rfl⟩ := hk
  obtain ⟨a1, a2, a3, a4, a5, a6, a7⟩ := h4 k t (List.getElem?_eq_some_iff.mp ht).1 ht
  exact ⟨by rw [mPF_o _ _ _ (by decide) (by decide)]; exact a1, a2, a3, a4, a5, fun c hc => by rw [mc_PF]; exact a6 c hc, fun c hc => by rw [mc_PF]; exact a7 c hc⟩
theorem cnt_mk {C : sCo} {k : Nat} {t : sStep} (hk : C.2.2.2[k]? = some t) (P : Prop) [Decidable P] (hP : P ↔ ¬ actC t = 0) : nI (((C.2.2.2.take k).map (mkAct C)).countP isCh) + (if P then (1 : Int32) else 0) = nI (((C.2.2.2.take (k + 1)).map (mkAct C)).countP isCh) := by
  rw [take_s' hk, List.map_append, List.countP_append, List.map_singleton, List.countP_singleton]
  have e : isCh (mkAct C t) = decide P := by
    show (!decide (actC t = 0)) = _
    by_cases q : actC t = 0
    · rw [decide_eq_true q, decide_eq_false (fun z => hP.mp z q)]; rfl
    · rw [decide_eq_false q, decide_eq_true (hP.mpr q)]; rfl
  rw [e]
  by_cases q : P
  · rw [decide_eq_true q, if_pos rfl, if_pos q]; exact nI_1 _
  · rw [decide_eq_false q, if_neg Bool.false_ne_true, if_neg q, Nat.add_zero, Int32.add_zero]

abbrev YX10_patch : zY := (yX10_patch.cls, cX10_patch, 5, (some .int), rmX10_patch, yX10_patch.name, fun _ _ => True)
set_option maxHeartbeats 800000 in
set_option maxRecDepth 100000 in
theorem R_patch_L (g : zG) (h : zH) (m : Nat) (S : sMS) (w : sW) (hR : RepM S w) (pn : Nat) (hpn : pn < 4) (hp3 : 0 ≤ nI pn ∧ nI pn ≤ 3) (hix : ix (nI pn) = pn) (C : sCo) (hw : w.2.2.2.2.2.1 = some C) (hC : coIs S (some C)) : ∀ (n : Nat) (S1 : sMS) (k : Nat), k + n = C.2.2.2.length → ptIs S S1 pn C k → zZ g YX10_patch (zE g (mPost m h (pPatch w (nI pn))) 0 0) 23 [(2, .int (nI (((C.2.2.2.take k).map (mkAct C)).countP isCh))), (3, .int (nI k)), (0, .ref m), (1, .int (nI pn))] [] (mUp m S1 h) 0 0 := by
  have hl : C.2.2.2.length ≤ 40 := hC.2.2.2.2.2.1
  intro n
  induction n with
  | zero =>
    intro S1 k hkn hT
    have ek : k = C.2.2.2.length := by omega
    subst ek
    have hC1 := agP_co hT.1 hC
    refine z_iload_n dX10_patch_23 rfl rfl ?_
    first | refine z_aload_n dX10_patch_24 rfl rfl ?_ | refine z_aload_nN dX10_patch_24 rfl rfl ?_
    refine zmg_233 rfl dX10_patch_25 rfl ?_
    rw [show S1.2.2.2.1 12 = nI C.2.2.2.length from hC1.2.2.2.2.1]
    refine z_icmp_ge (tgt := 175) dX10_patch_28 rfl (by decide) (fun c28 => ?_) (fun c28 => absurd c28 (fun z => z (nI_le (by omega) (by omega))))
    first | refine z_aload_n dX10_patch_175 rfl rfl ?_ | refine z_aload_nN dX10_patch_175 rfl rfl ?_
    refine zmg_55 rfl dX10_patch_176 rfl ?_
    refine z_iload_n dX10_patch_179 rfl rfl ?_
    refine z_iconst (v := 1) dX10_patch_180 rfl (by decide) ?_
    refine zm_zast dX10_patch_181 rfl rfl (vp_in_nI (by omega) (by decide)) ?_
    rw [nI_clamp (show pn < 2 ^ 31 by omega), show vp_nar .boolean (1 : Int32) = 1 from by decide]
    first | refine z_aload_n dX10_patch_182 rfl rfl ?_ | refine z_aload_nN dX10_patch_182 rfl rfl ?_
    refine zmg_58 rfl dX10_patch_183 rfl ?_
    refine z_iload_n dX10_patch_186 rfl rfl ?_
    first | refine z_aload_n dX10_patch_187 rfl rfl ?_ | refine z_aload_nN dX10_patch_187 rfl rfl ?_
    refine zmg_233 rfl dX10_patch_188 rfl ?_
    rw [show S1.2.2.2.1 12 = nI C.2.2.2.length from hC1.2.2.2.2.1]
    refine zm_iast dX10_patch_191 rfl rfl (vp_in_nI (by omega) (by decide)) ?_
    rw [nI_clamp (show pn < 2 ^ 31 by omega), mPF_eq]
    refine z_iload_n dX10_patch_192 rfl rfl ?_
    exact z_iret dX10_patch_193 rfl rfl (mPost_of (RepM_pat hR (pt_end hT hl).1 (pt_end hT hl).2) (by rw [patch_some hp3 hw, hix, List.take_length])) (Nat.le_of_ble_eq_true rfl) (Nat.le_of_ble_eq_true rfl)
  | succ n ih =>
    intro S1 k hkn hT
    have hC1 := agP_co hT.1 hC
    obtain ⟨t, hk⟩ : ∃ t, C.2.2.2[k]? = some t := ⟨_, List.getElem?_eq_getElem (by omega)⟩
    obtain ⟨w9, ht3, hcl, hcr⟩ := co_cells hC1 hk
    rcases ht3 with ht | ht | ht
    · obtain ⟨li, hli1, hli2, hli3, hli4⟩ := hcl (by rw [ht]; decide)
      obtain ⟨ri, hri1, hri2, hri3, hri4⟩ := hcr (by rw [ht]; decide)
      by_cases hc0 : t.2.2.2.1 = 0
      · have hx : actC t = 0 := by rw [actC, if_pos ht, if_pos hc0]
        refine z_iload_n dX10_patch_23 rfl rfl ?_
        first | refine z_aload_n dX10_patch_24 rfl rfl ?_ | refine z_aload_nN dX10_patch_24 rfl rfl ?_
        refine zmg_233 rfl dX10_patch_25 rfl ?_
        rw [show S1.2.2.2.1 12 = nI C.2.2.2.length from hC1.2.2.2.2.1]
        refine z_icmp_ge (tgt := 175) dX10_patch_28 rfl (by decide) (fun c28 => absurd c28 (nI_ge (by omega) (by omega))) (fun c28 => ?_)
        refine z_bipush (v := 40) dX10_patch_31 rfl (by decide) ?_
        refine z_iload_n dX10_patch_33 rfl rfl ?_
        refine z_imul dX10_patch_34 rfl ?_
        refine z_iload_n dX10_patch_35 rfl rfl ?_
        refine z_iadd dX10_patch_36 rfl ?_
        rw [n40]
        refine z_istore dX10_patch_37 rfl (Nat.le_of_ble_eq_true rfl) ?_
        first | refine z_aload_n dX10_patch_39 rfl rfl ?_ | refine z_aload_nN dX10_patch_39 rfl rfl ?_
        refine zmg_61 rfl dX10_patch_40 rfl ?_
        refine z_iload dX10_patch_43 rfl rfl ?_
        first | refine z_aload_n dX10_patch_45 rfl rfl ?_ | refine z_aload_nN dX10_patch_45 rfl rfl ?_
        refine zmg_36 rfl dX10_patch_46 rfl ?_
        refine z_iload_n dX10_patch_49 rfl rfl ?_
        refine zm_iald dX10_patch_50 rfl rfl (vp_in_nI (by omega) (by decide)) ?_
        rw [nI_clamp (show k < 2 ^ 31 by omega), w9, ht]
        refine z_if_ne (tgt := 70) dX10_patch_51 rfl (by decide) (fun c51 => absurd c51 (fun z => z rfl)) (fun c51 => ?_)
        first | refine z_aload_n dX10_patch_54 rfl rfl ?_ | refine z_aload_nN dX10_patch_54 rfl rfl ?_
        refine z_iload_n dX10_patch_55 rfl rfl ?_
        refine zcx_X10_262 rfl dX10_patch_56 rfl mo_recv (q_stepLikeness g h m S1 C hC1 k t hk ht) rfl rfl ⟨(Nat.le_of_ble_eq_true rfl), (Nat.le_of_ble_eq_true rfl)⟩ ⟨(Nat.le_of_ble_eq_true rfl), (Nat.le_of_ble_eq_true rfl)⟩ (Nat.le_of_ble_eq_true rfl) ?_
        refine z_if_ne (tgt := 66) dX10_patch_59 rfl (by decide) (fun c59 => absurd c59 (fun z => z hc0)) (fun c59 => ?_)
        refine z_iconst (v := 0) dX10_patch_62 rfl (by decide) ?_
        refine z_goto (tgt := 85) dX10_patch_63 rfl (by decide) ?_
        refine zm_iast dX10_patch_85 rfl rfl (vp_in_nI (by omega) (by decide)) ?_
        rw [nI_clamp (show 40 * pn + k < 2 ^ 31 by omega)]
        change zZ _ _ _ _ _ _ (mUp m (mAct S1 (40 * pn + k) 0) h) _ _
        first | refine z_aload_n dX10_patch_86 rfl rfl ?_ | refine z_aload_nN dX10_patch_86 rfl rfl ?_
        refine zmg_61 rfl dX10_patch_87 rfl ?_
        refine z_iload dX10_patch_90 rfl rfl ?_
        refine zm_iald dX10_patch_92 rfl rfl (vp_in_nI (by omega) (by decide)) ?_
        rw [show ((mAct S1 (40 * pn + k) 0).1 17) (nI (40 * pn + k)).toNatClampNeg = 0 from by rw [nI_clamp (by omega), mAct_17, upd_same]]
        refine z_iconst (v := 3) dX10_patch_93 rfl (by decide) ?_
        refine z_icmp_eq (tgt := 117) dX10_patch_94 rfl (by decide) (fun c94 => absurd c94 (by decide)) (fun c94 => ?_)
        first | refine z_aload_n dX10_patch_97 rfl rfl ?_ | refine z_aload_nN dX10_patch_97 rfl rfl ?_
        refine z_sipush (v := 480) dX10_patch_98 rfl (by decide) ?_
        first | refine z_aload_n dX10_patch_101 rfl rfl ?_ | refine z_aload_nN dX10_patch_101 rfl rfl ?_
        refine zmg_39 rfl dX10_patch_102 rfl ?_
        refine z_iload_n dX10_patch_105 rfl rfl ?_
        refine zm_iald dX10_patch_106 rfl rfl (vp_in_nI (by omega) (by decide)) ?_
        rw [show ((mAct S1 (40 * pn + k) 0).1 10) (nI k).toNatClampNeg = nI li from by rw [nI_clamp (by omega), mAct_o _ _ _ (by decide)]; exact hli2]
        refine z_iadd dX10_patch_107 rfl ?_
        rw [n480]
        refine z_sipush (v := 560) dX10_patch_108 rfl (by decide) ?_
        refine z_iload dX10_patch_111 rfl rfl ?_
        refine z_iadd dX10_patch_113 rfl ?_
        rw [n560]
        refine zcv_X10_229 rfl dX10_patch_114 rfl mo_recv (r_copiesCell g h m _ _ _ (vp_in_nI (by omega) (by decide)) (vp_in_nI (by omega) (by decide))) rfl rfl ⟨(Nat.le_of_ble_eq_true rfl), (Nat.le_of_ble_eq_true rfl)⟩ ⟨(Nat.le_of_ble_eq_true rfl), (Nat.le_of_ble_eq_true rfl)⟩ (Nat.le_of_ble_eq_true rfl) ?_
        rw [nI_clamp (show 560 + (40 * pn + k) < 2 ^ 31 by omega), nI_clamp (show 20 * 24 + li < 2 ^ 31 by omega)]
        first | refine z_aload_n dX10_patch_117 rfl rfl ?_ | refine z_aload_nN dX10_patch_117 rfl rfl ?_
        refine zmg_61 rfl dX10_patch_118 rfl ?_
        refine z_iload dX10_patch_121 rfl rfl ?_
        refine zm_iald dX10_patch_123 rfl rfl (vp_in_nI (by omega) (by decide)) ?_
        rw [show ((mLay (mAct S1 (40 * pn + k) 0) (560 + (40 * pn + k)) (mc (mAct S1 (40 * pn + k) 0) (20 * 24 + li))).1 17) (nI (40 * pn + k)).toNatClampNeg = 0 from by rw [nI_clamp (by omega), mLay_1 _ _ _ (by decide), mAct_17, upd_same]]
        refine z_iconst (v := 2) dX10_patch_124 rfl (by decide) ?_
        refine z_icmp_eq (tgt := 148) dX10_patch_125 rfl (by decide) (fun c125 => absurd c125 (by decide)) (fun c125 => ?_)
        first | refine z_aload_n dX10_patch_128 rfl rfl ?_ | refine z_aload_nN dX10_patch_128 rfl rfl ?_
        refine z_sipush (v := 500) dX10_patch_129 rfl (by decide) ?_
        first | refine z_aload_n dX10_patch_132 rfl rfl ?_ | refine z_aload_nN dX10_patch_132 rfl rfl ?_
        refine zmg_42 rfl dX10_patch_133 rfl ?_
        refine z_iload_n dX10_patch_136 rfl rfl ?_
        refine zm_iald dX10_patch_137 rfl rfl (vp_in_nI (by omega) (by decide)) ?_
        rw [show ((mLay (mAct S1 (40 * pn + k) 0) (560 + (40 * pn + k)) (mc (mAct S1 (40 * pn + k) 0) (20 * 24 + li))).1 11) (nI k).toNatClampNeg = nI ri from by rw [nI_clamp (by omega), mLay_1 _ _ _ (by decide), mAct_o _ _ _ (by decide)]; exact hri2]
        refine z_iadd dX10_patch_138 rfl ?_
        rw [n500]
        refine z_sipush (v := 720) dX10_patch_139 rfl (by decide) ?_
        refine z_iload dX10_patch_142 rfl rfl ?_
        refine z_iadd dX10_patch_144 rfl ?_
        rw [n720]
        refine zcv_X10_229 rfl dX10_patch_145 rfl mo_recv (r_copiesCell g h m _ _ _ (vp_in_nI (by omega) (by decide)) (vp_in_nI (by omega) (by decide))) rfl rfl ⟨(Nat.le_of_ble_eq_true rfl), (Nat.le_of_ble_eq_true rfl)⟩ ⟨(Nat.le_of_ble_eq_true rfl), (Nat.le_of_ble_eq_true rfl)⟩ (Nat.le_of_ble_eq_true rfl) ?_
        rw [nI_clamp (show 720 + (40 * pn + k) < 2 ^ 31 by omega), nI_clamp (show 20 * 25 + ri < 2 ^ 31 by omega)]
        refine z_iload_n dX10_patch_148 rfl rfl ?_
        first | refine z_aload_n dX10_patch_149 rfl rfl ?_ | refine z_aload_nN dX10_patch_149 rfl rfl ?_
        refine zmg_61 rfl dX10_patch_150 rfl ?_
        refine z_iload dX10_patch_153 rfl rfl ?_
        refine zm_iald dX10_patch_155 rfl rfl (vp_in_nI (by omega) (by decide)) ?_
        rw [show ((mLay (mLay (mAct S1 (40 * pn + k) 0) (560 + (40 * pn + k)) (mc (mAct S1 (40 * pn + k) 0) (20 * 24 + li))) (720 + (40 * pn + k)) (mc (mLay (mAct S1 (40 * pn + k) 0) (560 + (40 * pn + k)) (mc (mAct S1 (40 * pn + k) 0) (20 * 24 + li))) (20 * 25 + ri))).1 17) (nI (40 * pn + k)).toNatClampNeg = 0 from by rw [nI_clamp (by omega), mLay_1 _ _ _ (by decide), mLay_1 _ _ _ (by decide), mAct_17, upd_same]]
        refine z_if_eq (tgt := 163) dX10_patch_156 rfl (by decide) (fun c156 => ?_) (fun c156 => absurd c156 (fun z => z rfl))
        refine z_iconst (v := 0) dX10_patch_163 rfl (by decide) ?_
        refine zcx_X10_200 rfl dX10_patch_164 rfl (r_flag g _ False) rfl rfl ⟨(Nat.le_of_ble_eq_true rfl), (Nat.le_of_ble_eq_true rfl)⟩ ⟨(Nat.le_of_ble_eq_true rfl), (Nat.le_of_ble_eq_true rfl)⟩ (Nat.le_of_ble_eq_true rfl) ?_
        refine z_iadd dX10_patch_167 rfl ?_
        rw [cnt_mk hk False (by rw [hx]; decide)]
        refine z_istore_n dX10_patch_168 rfl (Nat.le_of_ble_eq_true rfl) ?_
        refine z_iinc (v := nI (k + 1)) dX10_patch_169 rfl rfl (nI_inc k) (Nat.le_of_ble_eq_true rfl) ?_
        refine z_goto (tgt := 23) dX10_patch_172 rfl (by decide) ?_
        refine z_lv [(2, .int (nI (((C.2.2.2.take (k + 1)).map (mkAct C)).countP isCh))), (3, .int (nI (k + 1))), (0, .ref m), (1, .int (nI pn))] ⟨rfl, rfl, rfl, rfl, trivial⟩ ?_
        exact ih (mLay (mLay (mAct S1 (40 * pn + k) 0) (560 + (40 * pn + k)) (mc (mAct S1 (40 * pn + k) 0) (20 * 24 + li))) (720 + (40 * pn + k)) (mc (mLay (mAct S1 (40 * pn + k) 0) (560 + (40 * pn + k)) (mc (mAct S1 (40 * pn + k) 0) (20 * 24 + li))) (20 * 25 + ri))) (k + 1) (by omega) (pt_step (by omega) hl hT hk (fun j a b => by rw [mLay_1 _ _ _ a, mLay_1 _ _ _ a, mAct_o _ _ _ b]) (fun q => by rw [mLay_1 _ _ _ (by decide), mLay_1 _ _ _ (by decide), mAct_17, hx]; rfl) (fun q a b => by rw [mc_lay, if_neg b, mc_lay, if_neg a, mc_act]) rfl (Or.inl ht) (fun _ => ⟨by rw [mc_lay, if_neg (by omega), mc_lay, if_pos rfl, mc_act]; exact hli3, hli4⟩) (fun _ => ⟨by rw [mc_lay, if_pos rfl, mc_lay, if_neg (by omega), mc_act]; exact hri3, hri4⟩))
      · have hx : actC t = 1 := by rw [actC, if_pos ht, if_neg hc0]
        refine z_iload_n dX10_patch_23 rfl rfl ?_
        first | refine z_aload_n dX10_patch_24 rfl rfl ?_ | refine z_aload_nN dX10_patch_24 rfl rfl ?_
        refine zmg_233 rfl dX10_patch_25 rfl ?_
        rw [show S1.2.2.2.1 12 = nI C.2.2.2.length from hC1.2.2.2.2.1]
        refine z_icmp_ge (tgt := 175) dX10_patch_28 rfl (by decide) (fun c28 => absurd c28 (nI_ge (by omega) (by omega))) (fun c28 => ?_)
        refine z_bipush (v := 40) dX10_patch_31 rfl (by decide) ?_
        refine z_iload_n dX10_patch_33 rfl rfl ?_
        refine z_imul dX10_patch_34 rfl ?_
        refine z_iload_n dX10_patch_35 rfl rfl ?_
        refine z_iadd dX10_patch_36 rfl ?_
        rw [n40]
        refine z_istore dX10_patch_37 rfl (Nat.le_of_ble_eq_true rfl) ?_
        first | refine z_aload_n dX10_patch_39 rfl rfl ?_ | refine z_aload_nN dX10_patch_39 rfl rfl ?_
        refine zmg_61 rfl dX10_patch_40 rfl ?_
        refine z_iload dX10_patch_43 rfl rfl ?_
        first | refine z_aload_n dX10_patch_45 rfl rfl ?_ | refine z_aload_nN dX10_patch_45 rfl rfl ?_
        refine zmg_36 rfl dX10_patch_46 rfl ?_
        refine z_iload_n dX10_patch_49 rfl rfl ?_
        refine zm_iald dX10_patch_50 rfl rfl (vp_in_nI (by omega) (by decide)) ?_
        rw [nI_clamp (show k < 2 ^ 31 by omega), w9, ht]
        refine z_if_ne (tgt := 70) dX10_patch_51 rfl (by decide) (fun c51 => absurd c51 (fun z => z rfl)) (fun c51 => ?_)
        first | refine z_aload_n dX10_patch_54 rfl rfl ?_ | refine z_aload_nN dX10_patch_54 rfl rfl ?_
        refine z_iload_n dX10_patch_55 rfl rfl ?_
        refine zcx_X10_262 rfl dX10_patch_56 rfl mo_recv (q_stepLikeness g h m S1 C hC1 k t hk ht) rfl rfl ⟨(Nat.le_of_ble_eq_true rfl), (Nat.le_of_ble_eq_true rfl)⟩ ⟨(Nat.le_of_ble_eq_true rfl), (Nat.le_of_ble_eq_true rfl)⟩ (Nat.le_of_ble_eq_true rfl) ?_
        refine z_if_ne (tgt := 66) dX10_patch_59 rfl (by decide) (fun c59 => ?_) (fun c59 => absurd c59 hc0)
        refine z_iconst (v := 1) dX10_patch_66 rfl (by decide) ?_
        refine z_goto (tgt := 85) dX10_patch_67 rfl (by decide) ?_
        refine zm_iast dX10_patch_85 rfl rfl (vp_in_nI (by omega) (by decide)) ?_
        rw [nI_clamp (show 40 * pn + k < 2 ^ 31 by omega)]
        change zZ _ _ _ _ _ _ (mUp m (mAct S1 (40 * pn + k) 1) h) _ _
        first | refine z_aload_n dX10_patch_86 rfl rfl ?_ | refine z_aload_nN dX10_patch_86 rfl rfl ?_
        refine zmg_61 rfl dX10_patch_87 rfl ?_
        refine z_iload dX10_patch_90 rfl rfl ?_
        refine zm_iald dX10_patch_92 rfl rfl (vp_in_nI (by omega) (by decide)) ?_
        rw [show ((mAct S1 (40 * pn + k) 1).1 17) (nI (40 * pn + k)).toNatClampNeg = 1 from by rw [nI_clamp (by omega), mAct_17, upd_same]]
        refine z_iconst (v := 3) dX10_patch_93 rfl (by decide) ?_
        refine z_icmp_eq (tgt := 117) dX10_patch_94 rfl (by decide) (fun c94 => absurd c94 (by decide)) (fun c94 => ?_)
        first | refine z_aload_n dX10_patch_97 rfl rfl ?_ | refine z_aload_nN dX10_patch_97 rfl rfl ?_
        refine z_sipush (v := 480) dX10_patch_98 rfl (by decide) ?_
        first | refine z_aload_n dX10_patch_101 rfl rfl ?_ | refine z_aload_nN dX10_patch_101 rfl rfl ?_
        refine zmg_39 rfl dX10_patch_102 rfl ?_
        refine z_iload_n dX10_patch_105 rfl rfl ?_
        refine zm_iald dX10_patch_106 rfl rfl (vp_in_nI (by omega) (by decide)) ?_
        rw [show ((mAct S1 (40 * pn + k) 1).1 10) (nI k).toNatClampNeg = nI li from by rw [nI_clamp (by omega), mAct_o _ _ _ (by decide)]; exact hli2]
        refine z_iadd dX10_patch_107 rfl ?_
        rw [n480]
        refine z_sipush (v := 560) dX10_patch_108 rfl (by decide) ?_
        refine z_iload dX10_patch_111 rfl rfl ?_
        refine z_iadd dX10_patch_113 rfl ?_
        rw [n560]
        refine zcv_X10_229 rfl dX10_patch_114 rfl mo_recv (r_copiesCell g h m _ _ _ (vp_in_nI (by omega) (by decide)) (vp_in_nI (by omega) (by decide))) rfl rfl ⟨(Nat.le_of_ble_eq_true rfl), (Nat.le_of_ble_eq_true rfl)⟩ ⟨(Nat.le_of_ble_eq_true rfl), (Nat.le_of_ble_eq_true rfl)⟩ (Nat.le_of_ble_eq_true rfl) ?_
        rw [nI_clamp (show 560 + (40 * pn + k) < 2 ^ 31 by omega), nI_clamp (show 20 * 24 + li < 2 ^ 31 by omega)]
        first | refine z_aload_n dX10_patch_117 rfl rfl ?_ | refine z_aload_nN dX10_patch_117 rfl rfl ?_
        refine zmg_61 rfl dX10_patch_118 rfl ?_
        refine z_iload dX10_patch_121 rfl rfl ?_
        refine zm_iald dX10_patch_123 rfl rfl (vp_in_nI (by omega) (by decide)) ?_
        rw [show ((mLay (mAct S1 (40 * pn + k) 1) (560 + (40 * pn + k)) (mc (mAct S1 (40 * pn + k) 1) (20 * 24 + li))).1 17) (nI (40 * pn + k)).toNatClampNeg = 1 from by rw [nI_clamp (by omega), mLay_1 _ _ _ (by decide), mAct_17, upd_same]]
        refine z_iconst (v := 2) dX10_patch_124 rfl (by decide) ?_
        refine z_icmp_eq (tgt := 148) dX10_patch_125 rfl (by decide) (fun c125 => absurd c125 (by decide)) (fun c125 => ?_)
        first | refine z_aload_n dX10_patch_128 rfl rfl ?_ | refine z_aload_nN dX10_patch_128 rfl rfl ?_
        refine z_sipush (v := 500) dX10_patch_129 rfl (by decide) ?_
        first | refine z_aload_n dX10_patch_132 rfl rfl ?_ | refine z_aload_nN dX10_patch_132 rfl rfl ?_
        refine zmg_42 rfl dX10_patch_133 rfl ?_
        refine z_iload_n dX10_patch_136 rfl rfl ?_
        refine zm_iald dX10_patch_137 rfl rfl (vp_in_nI (by omega) (by decide)) ?_
        rw [show ((mLay (mAct S1 (40 * pn + k) 1) (560 + (40 * pn + k)) (mc (mAct S1 (40 * pn + k) 1) (20 * 24 + li))).1 11) (nI k).toNatClampNeg = nI ri from by rw [nI_clamp (by omega), mLay_1 _ _ _ (by decide), mAct_o _ _ _ (by decide)]; exact hri2]
        refine z_iadd dX10_patch_138 rfl ?_
        rw [n500]
        refine z_sipush (v := 720) dX10_patch_139 rfl (by decide) ?_
        refine z_iload dX10_patch_142 rfl rfl ?_
        refine z_iadd dX10_patch_144 rfl ?_
        rw [n720]
        refine zcv_X10_229 rfl dX10_patch_145 rfl mo_recv (r_copiesCell g h m _ _ _ (vp_in_nI (by omega) (by decide)) (vp_in_nI (by omega) (by decide))) rfl rfl ⟨(Nat.le_of_ble_eq_true rfl), (Nat.le_of_ble_eq_true rfl)⟩ ⟨(Nat.le_of_ble_eq_true rfl), (Nat.le_of_ble_eq_true rfl)⟩ (Nat.le_of_ble_eq_true rfl) ?_
        rw [nI_clamp (show 720 + (40 * pn + k) < 2 ^ 31 by omega), nI_clamp (show 20 * 25 + ri < 2 ^ 31 by omega)]
        refine z_iload_n dX10_patch_148 rfl rfl ?_
        first | refine z_aload_n dX10_patch_149 rfl rfl ?_ | refine z_aload_nN dX10_patch_149 rfl rfl ?_
        refine zmg_61 rfl dX10_patch_150 rfl ?_
        refine z_iload dX10_patch_153 rfl rfl ?_
        refine zm_iald dX10_patch_155 rfl rfl (vp_in_nI (by omega) (by decide)) ?_
        rw [show ((mLay (mLay (mAct S1 (40 * pn + k) 1) (560 + (40 * pn + k)) (mc (mAct S1 (40 * pn + k) 1) (20 * 24 + li))) (720 + (40 * pn + k)) (mc (mLay (mAct S1 (40 * pn + k) 1) (560 + (40 * pn + k)) (mc (mAct S1 (40 * pn + k) 1) (20 * 24 + li))) (20 * 25 + ri))).1 17) (nI (40 * pn + k)).toNatClampNeg = 1 from by rw [nI_clamp (by omega), mLay_1 _ _ _ (by decide), mLay_1 _ _ _ (by decide), mAct_17, upd_same]]
        refine z_if_eq (tgt := 163) dX10_patch_156 rfl (by decide) (fun c156 => absurd c156 (by decide)) (fun c156 => ?_)
        refine z_iconst (v := 1) dX10_patch_159 rfl (by decide) ?_
        refine z_goto (tgt := 164) dX10_patch_160 rfl (by decide) ?_
        refine zcx_X10_200 rfl dX10_patch_164 rfl (r_flag g _ True) rfl rfl ⟨(Nat.le_of_ble_eq_true rfl), (Nat.le_of_ble_eq_true rfl)⟩ ⟨(Nat.le_of_ble_eq_true rfl), (Nat.le_of_ble_eq_true rfl)⟩ (Nat.le_of_ble_eq_true rfl) ?_
        refine z_iadd dX10_patch_167 rfl ?_
        rw [cnt_mk hk True (by rw [hx]; decide)]
        refine z_istore_n dX10_patch_168 rfl (Nat.le_of_ble_eq_true rfl) ?_
        refine z_iinc (v := nI (k + 1)) dX10_patch_169 rfl rfl (nI_inc k) (Nat.le_of_ble_eq_true rfl) ?_
        refine z_goto (tgt := 23) dX10_patch_172 rfl (by decide) ?_
        refine z_lv [(2, .int (nI (((C.2.2.2.take (k + 1)).map (mkAct C)).countP isCh))), (3, .int (nI (k + 1))), (0, .ref m), (1, .int (nI pn))] ⟨rfl, rfl, rfl, rfl, trivial⟩ ?_
        exact ih (mLay (mLay (mAct S1 (40 * pn + k) 1) (560 + (40 * pn + k)) (mc (mAct S1 (40 * pn + k) 1) (20 * 24 + li))) (720 + (40 * pn + k)) (mc (mLay (mAct S1 (40 * pn + k) 1) (560 + (40 * pn + k)) (mc (mAct S1 (40 * pn + k) 1) (20 * 24 + li))) (20 * 25 + ri))) (k + 1) (by omega) (pt_step (by omega) hl hT hk (fun j a b => by rw [mLay_1 _ _ _ a, mLay_1 _ _ _ a, mAct_o _ _ _ b]) (fun q => by rw [mLay_1 _ _ _ (by decide), mLay_1 _ _ _ (by decide), mAct_17, hx]; rfl) (fun q a b => by rw [mc_lay, if_neg b, mc_lay, if_neg a, mc_act]) rfl (Or.inl ht) (fun _ => ⟨by rw [mc_lay, if_neg (by omega), mc_lay, if_pos rfl, mc_act]; exact hli3, hli4⟩) (fun _ => ⟨by rw [mc_lay, if_pos rfl, mc_lay, if_neg (by omega), mc_act]; exact hri3, hri4⟩))
    · obtain ⟨li, hli1, hli2, hli3, hli4⟩ := hcl (by rw [ht]; decide)
      have hx : actC t = 2 := by rw [actC, if_neg (by rw [ht]; decide), if_pos ht]
      refine z_iload_n dX10_patch_23 rfl rfl ?_
      first | refine z_aload_n dX10_patch_24 rfl rfl ?_ | refine z_aload_nN dX10_patch_24 rfl rfl ?_
      refine zmg_233 rfl dX10_patch_25 rfl ?_
      rw [show S1.2.2.2.1 12 = nI C.2.2.2.length from hC1.2.2.2.2.1]
      refine z_icmp_ge (tgt := 175) dX10_patch_28 rfl (by decide) (fun c28 => absurd c28 (nI_ge (by omega) (by omega))) (fun c28 => ?_)
      refine z_bipush (v := 40) dX10_patch_31 rfl (by decide) ?_
      refine z_iload_n dX10_patch_33 rfl rfl ?_
      refine z_imul dX10_patch_34 rfl ?_
      refine z_iload_n dX10_patch_35 rfl rfl ?_
      refine z_iadd dX10_patch_36 rfl ?_
      rw [n40]
      refine z_istore dX10_patch_37 rfl (Nat.le_of_ble_eq_true rfl) ?_
      first | refine z_aload_n dX10_patch_39 rfl rfl ?_ | refine z_aload_nN dX10_patch_39 rfl rfl ?_
      refine zmg_61 rfl dX10_patch_40 rfl ?_
      refine z_iload dX10_patch_43 rfl rfl ?_
      first | refine z_aload_n dX10_patch_45 rfl rfl ?_ | refine z_aload_nN dX10_patch_45 rfl rfl ?_
      refine zmg_36 rfl dX10_patch_46 rfl ?_
      refine z_iload_n dX10_patch_49 rfl rfl ?_
      refine zm_iald dX10_patch_50 rfl rfl (vp_in_nI (by omega) (by decide)) ?_
      rw [nI_clamp (show k < 2 ^ 31 by omega), w9, ht]
      refine z_if_ne (tgt := 70) dX10_patch_51 rfl (by decide) (fun c51 => ?_) (fun c51 => absurd c51 (by decide))
      first | refine z_aload_n dX10_patch_70 rfl rfl ?_ | refine z_aload_nN dX10_patch_70 rfl rfl ?_
      refine zmg_36 rfl dX10_patch_71 rfl ?_
      refine z_iload_n dX10_patch_74 rfl rfl ?_
      refine zm_iald dX10_patch_75 rfl rfl (vp_in_nI (by omega) (by decide)) ?_
      rw [nI_clamp (show k < 2 ^ 31 by omega), w9, ht]
      refine z_iconst (v := 1) dX10_patch_76 rfl (by decide) ?_
      refine z_icmp_ne (tgt := 84) dX10_patch_77 rfl (by decide) (fun c77 => absurd c77 (fun z => z rfl)) (fun c77 => ?_)
      refine z_iconst (v := 2) dX10_patch_80 rfl (by decide) ?_
      refine z_goto (tgt := 85) dX10_patch_81 rfl (by decide) ?_
      refine zm_iast dX10_patch_85 rfl rfl (vp_in_nI (by omega) (by decide)) ?_
      rw [nI_clamp (show 40 * pn + k < 2 ^ 31 by omega)]
      change zZ _ _ _ _ _ _ (mUp m (mAct S1 (40 * pn + k) 2) h) _ _
      first | refine z_aload_n dX10_patch_86 rfl rfl ?_ | refine z_aload_nN dX10_patch_86 rfl rfl ?_
      refine zmg_61 rfl dX10_patch_87 rfl ?_
      refine z_iload dX10_patch_90 rfl rfl ?_
      refine zm_iald dX10_patch_92 rfl rfl (vp_in_nI (by omega) (by decide)) ?_
      rw [show ((mAct S1 (40 * pn + k) 2).1 17) (nI (40 * pn + k)).toNatClampNeg = 2 from by rw [nI_clamp (by omega), mAct_17, upd_same]]
      refine z_iconst (v := 3) dX10_patch_93 rfl (by decide) ?_
      refine z_icmp_eq (tgt := 117) dX10_patch_94 rfl (by decide) (fun c94 => absurd c94 (by decide)) (fun c94 => ?_)
      first | refine z_aload_n dX10_patch_97 rfl rfl ?_ | refine z_aload_nN dX10_patch_97 rfl rfl ?_
      refine z_sipush (v := 480) dX10_patch_98 rfl (by decide) ?_
      first | refine z_aload_n dX10_patch_101 rfl rfl ?_ | refine z_aload_nN dX10_patch_101 rfl rfl ?_
      refine zmg_39 rfl dX10_patch_102 rfl ?_
      refine z_iload_n dX10_patch_105 rfl rfl ?_
      refine zm_iald dX10_patch_106 rfl rfl (vp_in_nI (by omega) (by decide)) ?_
      rw [show ((mAct S1 (40 * pn + k) 2).1 10) (nI k).toNatClampNeg = nI li from by rw [nI_clamp (by omega), mAct_o _ _ _ (by decide)]; exact hli2]
      refine z_iadd dX10_patch_107 rfl ?_
      rw [n480]
      refine z_sipush (v := 560) dX10_patch_108 rfl (by decide) ?_
      refine z_iload dX10_patch_111 rfl rfl ?_
      refine z_iadd dX10_patch_113 rfl ?_
      rw [n560]
      refine zcv_X10_229 rfl dX10_patch_114 rfl mo_recv (r_copiesCell g h m _ _ _ (vp_in_nI (by omega) (by decide)) (vp_in_nI (by omega) (by decide))) rfl rfl ⟨(Nat.le_of_ble_eq_true rfl), (Nat.le_of_ble_eq_true rfl)⟩ ⟨(Nat.le_of_ble_eq_true rfl), (Nat.le_of_ble_eq_true rfl)⟩ (Nat.le_of_ble_eq_true rfl) ?_
      rw [nI_clamp (show 560 + (40 * pn + k) < 2 ^ 31 by omega), nI_clamp (show 20 * 24 + li < 2 ^ 31 by omega)]
      first | refine z_aload_n dX10_patch_117 rfl rfl ?_ | refine z_aload_nN dX10_patch_117 rfl rfl ?_
      refine zmg_61 rfl dX10_patch_118 rfl ?_
      refine z_iload dX10_patch_121 rfl rfl ?_
      refine zm_iald dX10_patch_123 rfl rfl (vp_in_nI (by omega) (by decide)) ?_
      rw [show ((mLay (mAct S1 (40 * pn + k) 2) (560 + (40 * pn + k)) (mc (mAct S1 (40 * pn + k) 2) (20 * 24 + li))).1 17) (nI (40 * pn + k)).toNatClampNeg = 2 from by rw [nI_clamp (by omega), mLay_1 _ _ _ (by decide), mAct_17, upd_same]]
      refine z_iconst (v := 2) dX10_patch_124 rfl (by decide) ?_
      refine z_icmp_eq (tgt := 148) dX10_patch_125 rfl (by decide) (fun c125 => ?_) (fun c125 => absurd c125 (by decide))
      refine z_iload_n dX10_patch_148 rfl rfl ?_
      first | refine z_aload_n dX10_patch_149 rfl rfl ?_ | refine z_aload_nN dX10_patch_149 rfl rfl ?_
      refine zmg_61 rfl dX10_patch_150 rfl ?_
      refine z_iload dX10_patch_153 rfl rfl ?_
      refine zm_iald dX10_patch_155 rfl rfl (vp_in_nI (by omega) (by decide)) ?_
      rw [show ((mLay (mAct S1 (40 * pn + k) 2) (560 + (40 * pn + k)) (mc (mAct S1 (40 * pn + k) 2) (20 * 24 + li))).1 17) (nI (40 * pn + k)).toNatClampNeg = 2 from by rw [nI_clamp (by omega), mLay_1 _ _ _ (by decide), mAct_17, upd_same]]
      refine z_if_eq (tgt := 163) dX10_patch_156 rfl (by decide) (fun c156 => absurd c156 (by decide)) (fun c156 => ?_)
      refine z_iconst (v := 1) dX10_patch_159 rfl (by decide) ?_
      refine z_goto (tgt := 164) dX10_patch_160 rfl (by decide) ?_
      refine zcx_X10_200 rfl dX10_patch_164 rfl (r_flag g _ True) rfl rfl ⟨(Nat.le_of_ble_eq_true rfl), (Nat.le_of_ble_eq_true rfl)⟩ ⟨(Nat.le_of_ble_eq_true rfl), (Nat.le_of_ble_eq_true rfl)⟩ (Nat.le_of_ble_eq_true rfl) ?_
      refine z_iadd dX10_patch_167 rfl ?_
      rw [cnt_mk hk True (by rw [hx]; decide)]
      refine z_istore_n dX10_patch_168 rfl (Nat.le_of_ble_eq_true rfl) ?_
      refine z_iinc (v := nI (k + 1)) dX10_patch_169 rfl rfl (nI_inc k) (Nat.le_of_ble_eq_true rfl) ?_
      refine z_goto (tgt := 23) dX10_patch_172 rfl (by decide) ?_
      refine z_lv [(2, .int (nI (((C.2.2.2.take (k + 1)).map (mkAct C)).countP isCh))), (3, .int (nI (k + 1))), (0, .ref m), (1, .int (nI pn))] ⟨rfl, rfl, rfl, rfl, trivial⟩ ?_
      exact ih (mLay (mAct S1 (40 * pn + k) 2) (560 + (40 * pn + k)) (mc (mAct S1 (40 * pn + k) 2) (20 * 24 + li))) (k + 1) (by omega) (pt_step (by omega) hl hT hk (fun j a b => by rw [mLay_1 _ _ _ a, mAct_o _ _ _ b]) (fun q => by rw [mLay_1 _ _ _ (by decide), mAct_17, hx]; rfl) (fun q a b => by rw [mc_lay, if_neg a, mc_act]) rfl (Or.inr (Or.inl ht)) (fun _ => ⟨by rw [mc_lay, if_pos rfl, mc_act]; exact hli3, hli4⟩) (fun z => absurd ht z))
    · obtain ⟨ri, hri1, hri2, hri3, hri4⟩ := hcr (by rw [ht]; decide)
      have hx : actC t = 3 := by rw [actC, if_neg (by rw [ht]; decide), if_neg (by rw [ht]; decide)]
      refine z_iload_n dX10_patch_23 rfl rfl ?_
      first | refine z_aload_n dX10_patch_24 rfl rfl ?_ | refine z_aload_nN dX10_patch_24 rfl rfl ?_
      refine zmg_233 rfl dX10_patch_25 rfl ?_
      rw [show S1.2.2.2.1 12 = nI C.2.2.2.length from hC1.2.2.2.2.1]
      refine z_icmp_ge (tgt := 175) dX10_patch_28 rfl (by decide) (fun c28 => absurd c28 (nI_ge (by omega) (by omega))) (fun c28 => ?_)
      refine z_bipush (v := 40) dX10_patch_31 rfl (by decide) ?_
      refine z_iload_n dX10_patch_33 rfl rfl ?_
      refine z_imul dX10_patch_34 rfl ?_
      refine z_iload_n dX10_patch_35 rfl rfl ?_
      refine z_iadd dX10_patch_36 rfl ?_
      rw [n40]
      refine z_istore dX10_patch_37 rfl (Nat.le_of_ble_eq_true rfl) ?_
      first | refine z_aload_n dX10_patch_39 rfl rfl ?_ | refine z_aload_nN dX10_patch_39 rfl rfl ?_
      refine zmg_61 rfl dX10_patch_40 rfl ?_
      refine z_iload dX10_patch_43 rfl rfl ?_
      first | refine z_aload_n dX10_patch_45 rfl rfl ?_ | refine z_aload_nN dX10_patch_45 rfl rfl ?_
      refine zmg_36 rfl dX10_patch_46 rfl ?_
      refine z_iload_n dX10_patch_49 rfl rfl ?_
      refine zm_iald dX10_patch_50 rfl rfl (vp_in_nI (by omega) (by decide)) ?_
      rw [nI_clamp (show k < 2 ^ 31 by omega), w9, ht]
      refine z_if_ne (tgt := 70) dX10_patch_51 rfl (by decide) (fun c51 => ?_) (fun c51 => absurd c51 (by decide))
      first | refine z_aload_n dX10_patch_70 rfl rfl ?_ | refine z_aload_nN dX10_patch_70 rfl rfl ?_
      refine zmg_36 rfl dX10_patch_71 rfl ?_
      refine z_iload_n dX10_patch_74 rfl rfl ?_
      refine zm_iald dX10_patch_75 rfl rfl (vp_in_nI (by omega) (by decide)) ?_
      rw [nI_clamp (show k < 2 ^ 31 by omega), w9, ht]
      refine z_iconst (v := 1) dX10_patch_76 rfl (by decide) ?_
      refine z_icmp_ne (tgt := 84) dX10_patch_77 rfl (by decide) (fun c77 => ?_) (fun c77 => absurd c77 (by decide))
      refine z_iconst (v := 3) dX10_patch_84 rfl (by decide) ?_
      refine zm_iast dX10_patch_85 rfl rfl (vp_in_nI (by omega) (by decide)) ?_
      rw [nI_clamp (show 40 * pn + k < 2 ^ 31 by omega)]
      change zZ _ _ _ _ _ _ (mUp m (mAct S1 (40 * pn + k) 3) h) _ _
      first | refine z_aload_n dX10_patch_86 rfl rfl ?_ | refine z_aload_nN dX10_patch_86 rfl rfl ?_
      refine zmg_61 rfl dX10_patch_87 rfl ?_
      refine z_iload dX10_patch_90 rfl rfl ?_
      refine zm_iald dX10_patch_92 rfl rfl (vp_in_nI (by omega) (by decide)) ?_
      rw [show ((mAct S1 (40 * pn + k) 3).1 17) (nI (40 * pn + k)).toNatClampNeg = 3 from by rw [nI_clamp (by omega), mAct_17, upd_same]]
      refine z_iconst (v := 3) dX10_patch_93 rfl (by decide) ?_
      refine z_icmp_eq (tgt := 117) dX10_patch_94 rfl (by decide) (fun c94 => ?_) (fun c94 => absurd c94 (by decide))
      first | refine z_aload_n dX10_patch_117 rfl rfl ?_ | refine z_aload_nN dX10_patch_117 rfl rfl ?_
      refine zmg_61 rfl dX10_patch_118 rfl ?_
      refine z_iload dX10_patch_121 rfl rfl ?_
      refine zm_iald dX10_patch_123 rfl rfl (vp_in_nI (by omega) (by decide)) ?_
      rw [show ((mAct S1 (40 * pn + k) 3).1 17) (nI (40 * pn + k)).toNatClampNeg = 3 from by rw [nI_clamp (by omega), mAct_17, upd_same]]
      refine z_iconst (v := 2) dX10_patch_124 rfl (by decide) ?_
      refine z_icmp_eq (tgt := 148) dX10_patch_125 rfl (by decide) (fun c125 => absurd c125 (by decide)) (fun c125 => ?_)
      first | refine z_aload_n dX10_patch_128 rfl rfl ?_ | refine z_aload_nN dX10_patch_128 rfl rfl ?_
      refine z_sipush (v := 500) dX10_patch_129 rfl (by decide) ?_
      first | refine z_aload_n dX10_patch_132 rfl rfl ?_ | refine z_aload_nN dX10_patch_132 rfl rfl ?_
      refine zmg_42 rfl dX10_patch_133 rfl ?_
      refine z_iload_n dX10_patch_136 rfl rfl ?_
      refine zm_iald dX10_patch_137 rfl rfl (vp_in_nI (by omega) (by decide)) ?_
      rw [show ((mAct S1 (40 * pn + k) 3).1 11) (nI k).toNatClampNeg = nI ri from by rw [nI_clamp (by omega), mAct_o _ _ _ (by decide)]; exact hri2]
      refine z_iadd dX10_patch_138 rfl ?_
      rw [n500]
      refine z_sipush (v := 720) dX10_patch_139 rfl (by decide) ?_
      refine z_iload dX10_patch_142 rfl rfl ?_
      refine z_iadd dX10_patch_144 rfl ?_
      rw [n720]
      refine zcv_X10_229 rfl dX10_patch_145 rfl mo_recv (r_copiesCell g h m _ _ _ (vp_in_nI (by omega) (by decide)) (vp_in_nI (by omega) (by decide))) rfl rfl ⟨(Nat.le_of_ble_eq_true rfl), (Nat.le_of_ble_eq_true rfl)⟩ ⟨(Nat.le_of_ble_eq_true rfl), (Nat.le_of_ble_eq_true rfl)⟩ (Nat.le_of_ble_eq_true rfl) ?_
      rw [nI_clamp (show 720 + (40 * pn + k) < 2 ^ 31 by omega), nI_clamp (show 20 * 25 + ri < 2 ^ 31 by omega)]
      refine z_iload_n dX10_patch_148 rfl rfl ?_
      first | refine z_aload_n dX10_patch_149 rfl rfl ?_ | refine z_aload_nN dX10_patch_149 rfl rfl ?_
      refine zmg_61 rfl dX10_patch_150 rfl ?_
      refine z_iload dX10_patch_153 rfl rfl ?_
      refine zm_iald dX10_patch_155 rfl rfl (vp_in_nI (by omega) (by decide)) ?_
      rw [show ((mLay (mAct S1 (40 * pn + k) 3) (720 + (40 * pn + k)) (mc (mAct S1 (40 * pn + k) 3) (20 * 25 + ri))).1 17) (nI (40 * pn + k)).toNatClampNeg = 3 from by rw [nI_clamp (by omega), mLay_1 _ _ _ (by decide), mAct_17, upd_same]]
      refine z_if_eq (tgt := 163) dX10_patch_156 rfl (by decide) (fun c156 => absurd c156 (by decide)) (fun c156 => ?_)
      refine z_iconst (v := 1) dX10_patch_159 rfl (by decide) ?_
      refine z_goto (tgt := 164) dX10_patch_160 rfl (by decide) ?_
      refine zcx_X10_200 rfl dX10_patch_164 rfl (r_flag g _ True) rfl rfl ⟨(Nat.le_of_ble_eq_true rfl), (Nat.le_of_ble_eq_true rfl)⟩ ⟨(Nat.le_of_ble_eq_true rfl), (Nat.le_of_ble_eq_true rfl)⟩ (Nat.le_of_ble_eq_true rfl) ?_
      refine z_iadd dX10_patch_167 rfl ?_
      rw [cnt_mk hk True (by rw [hx]; decide)]
      refine z_istore_n dX10_patch_168 rfl (Nat.le_of_ble_eq_true rfl) ?_
      refine z_iinc (v := nI (k + 1)) dX10_patch_169 rfl rfl (nI_inc k) (Nat.le_of_ble_eq_true rfl) ?_
      refine z_goto (tgt := 23) dX10_patch_172 rfl (by decide) ?_
      refine z_lv [(2, .int (nI (((C.2.2.2.take (k + 1)).map (mkAct C)).countP isCh))), (3, .int (nI (k + 1))), (0, .ref m), (1, .int (nI pn))] ⟨rfl, rfl, rfl, rfl, trivial⟩ ?_
      exact ih (mLay (mAct S1 (40 * pn + k) 3) (720 + (40 * pn + k)) (mc (mAct S1 (40 * pn + k) 3) (20 * 25 + ri))) (k + 1) (by omega) (pt_step (by omega) hl hT hk (fun j a b => by rw [mLay_1 _ _ _ a, mAct_o _ _ _ b]) (fun q => by rw [mLay_1 _ _ _ (by decide), mAct_17, hx]; rfl) (fun q a b => by rw [mc_lay, if_neg b, mc_act]) rfl (Or.inr (Or.inr ht)) (fun z => absurd ht z) (fun _ => ⟨by rw [mc_lay, if_pos rfl, mc_act]; exact hri3, hri4⟩))

set_option maxHeartbeats 800000 in
set_option maxRecDepth 100000 in
theorem R_patch (g : zG) (h : zH) (m : Nat) (S : sMS) (w : sW) (hR : RepM S w) (p : Int32) : zM g yX10_patch cX10_patch 5 (some .int) rmX10_patch [.ref m, .int p] (mUp m S h) (mPost m h (pPatch w p)) := by
  refine zM_of (by decide) (Nat.le_of_ble_eq_true rfl) ?_
  refine z_iload_n dX10_patch_0 rfl rfl ?_
  refine zcx_X10_300 rfl dX10_patch_1 rfl (r_isPatchNumber g _ _) rfl rfl ⟨(Nat.le_of_ble_eq_true rfl), (Nat.le_of_ble_eq_true rfl)⟩ ⟨(Nat.le_of_ble_eq_true rfl), (Nat.le_of_ble_eq_true rfl)⟩ (Nat.le_of_ble_eq_true rfl) ?_
  refine z_bif_ne (tgt := 9) dX10_patch_4 rfl (by decide) (fun c4 => ?_) (fun c4 => ?_)
  · skip
    obtain ⟨pn, hpn3, rfl⟩ := nI_of2 (x := p) (M := 3) (n := 3) (by decide) (by grind) c4.2
    have hpn : pn < 4 := by omega
    have hix : ix (nI pn) = pn := nI_clamp (by omega)
    rcases hw : w.2.2.2.2.2.1 with _ | C
    · skip
      first | refine z_aload_n dX10_patch_9 rfl rfl ?_ | refine z_aload_nN dX10_patch_9 rfl rfl ?_
      refine zmg_258 rfl dX10_patch_10 rfl ?_
      rw [wco_none hR hw]
      refine z_if_ne (tgt := 19) dX10_patch_13 rfl (by decide) (fun c13 => absurd c13 (fun z => z rfl)) (fun c13 => ?_)
      refine z_bipush (v := -2) dX10_patch_16 rfl (by decide) ?_
      exact z_iret dX10_patch_18 rfl rfl (mPost_of hR (patch_none c4 hw)) (Nat.le_of_ble_eq_true rfl) (Nat.le_of_ble_eq_true rfl)
    · have hC := wco_some hR hw
      first | refine z_aload_n dX10_patch_9 rfl rfl ?_ | refine z_aload_nN dX10_patch_9 rfl rfl ?_
      refine zmg_258 rfl dX10_patch_10 rfl ?_
      rw [hC.1]
      refine z_if_ne (tgt := 19) dX10_patch_13 rfl (by decide) (fun c13 => ?_) (fun c13 => absurd c13 (by decide))
      refine z_iconst (v := 0) dX10_patch_19 rfl (by decide) ?_
      refine z_istore_n dX10_patch_20 rfl (Nat.le_of_ble_eq_true rfl) ?_
      refine z_iconst (v := 0) dX10_patch_21 rfl (by decide) ?_
      refine z_istore_n dX10_patch_22 rfl (Nat.le_of_ble_eq_true rfl) ?_
      refine z_lv [(2, .int (nI (((C.2.2.2.take 0).map (mkAct C)).countP isCh))), (3, .int (nI 0)), (0, .ref m), (1, .int (nI pn))] ⟨rfl, rfl, rfl, rfl, trivial⟩ ?_
      exact R_patch_L g h m S w hR pn hpn c4 hix C hw hC C.2.2.2.length S 0 (by omega) ⟨agP_r S pn, fun j t hj _ => absurd hj (by omega)⟩
  · skip
    refine z_iconst (v := -1) dX10_patch_7 rfl (by decide) ?_
    exact z_iret dX10_patch_8 rfl rfl (mPost_of hR (by grind [pPatch])) (Nat.le_of_ble_eq_true rfl) (Nat.le_of_ble_eq_true rfl)

