set_option maxHeartbeats 4000000 in
set_option maxRecDepth 100000 in
/-- X7_actOf -/
theorem m_actOf (g : zG) (h : zH) (t : sStep) (ht : t.1 = 0 ∨ t.1 = 1 ∨ t.1 = 2) : zX g yX7_actOf cX7_actOf 2 (some .int) rmX7_actOf [.int t.1, .int t.2.2.2.1] h (.int (actC t)) h := by
  refine zM_of (by decide) (Nat.le_of_ble_eq_true rfl) ?_
  refine z_iload_n dX7_actOf_0 rfl rfl ?_
  refine z_iconst (v := 1) dX7_actOf_1 rfl (by decide) ?_
  refine z_icmp_ne (tgt := 7) dX7_actOf_2 rfl (by decide) (fun c2 => ?_) (fun c2 => ?_)
  · skip
    refine z_iload_n dX7_actOf_7 rfl rfl ?_
    refine z_iconst (v := 2) dX7_actOf_8 rfl (by decide) ?_
    refine z_icmp_ne (tgt := 14) dX7_actOf_9 rfl (by decide) (fun c9 => ?_) (fun c9 => ?_)
    · skip
      refine z_iload_n dX7_actOf_14 rfl rfl ?_
      refine z_if_ne (tgt := 22) dX7_actOf_15 rfl (by decide) (fun c15 => ?_) (fun c15 => ?_)
      · skip
        refine z_iconst (v := 1) dX7_actOf_22 rfl (by decide) ?_
        exact z_iret dX7_actOf_23 rfl rfl ⟨by unfold actC; grind, rfl⟩ (Nat.le_of_ble_eq_true rfl) (Nat.le_of_ble_eq_true rfl)
      · skip
        refine z_iconst (v := 0) dX7_actOf_18 rfl (by decide) ?_
        refine z_goto (tgt := 23) dX7_actOf_19 rfl (by decide) ?_
        exact z_iret dX7_actOf_23 rfl rfl ⟨by unfold actC; grind, rfl⟩ (Nat.le_of_ble_eq_true rfl) (Nat.le_of_ble_eq_true rfl)
    · skip
      refine z_iconst (v := 3) dX7_actOf_12 rfl (by decide) ?_
      exact z_iret dX7_actOf_13 rfl rfl ⟨by unfold actC; grind, rfl⟩ (Nat.le_of_ble_eq_true rfl) (Nat.le_of_ble_eq_true rfl)
  · skip
    refine z_iconst (v := 2) dX7_actOf_5 rfl (by decide) ?_
    exact z_iret dX7_actOf_6 rfl rfl ⟨by unfold actC; grind, rfl⟩ (Nat.le_of_ble_eq_true rfl) (Nat.le_of_ble_eq_true rfl)

theorem pUp_cU {p o v n : Nat} {f : Nat → Int32} {k : Int32} {a n1 : Nat} {c c' : Nat → sC} {X : zH} (hd : p + 2 ≤ a ∨ a + 4 ≤ p) : cUp a k n1 c' (pUp p o v n f (cUp a k n1 c X)) = pUp p o v n f (cUp a k n1 c' X) := by
  refine Prod.ext rfl (funext fun q => ?_)
  simp only [cUp, pUp]
  by_cases e : a ≤ q ∧ q < a + 4
  · rw [if_pos e, if_neg (by omega), if_neg (by omega), if_pos e]
  · simp only [if_neg e]
theorem pUp_cU2 {p o v n : Nat} {f : Nat → Int32} {k k2 : Int32} {a b n1 n2 : Nat} {c c' d : Nat → sC} {X : zH} (hd : p + 2 ≤ a ∨ a + 4 ≤ p) (hab : a + 4 ≤ b ∨ b + 4 ≤ a) : cUp a k n1 c' (pUp p o v n f (cUp b k2 n2 d (cUp a k n1 c X))) = pUp p o v n f (cUp b k2 n2 d (cUp a k n1 c' X)) := by
  refine Prod.ext rfl (funext fun q => ?_)
  simp only [cUp, pUp]
  by_cases e : a ≤ q ∧ q < a + 4
  · rw [if_pos e, if_neg (by omega), if_neg (by omega), if_neg (by omega), if_pos e]
  · simp only [if_neg e]
/-- k acts stand -/
def paN (C : sCo) (f : Nat → Int32) (cO cN : Nat → sC) (k : Nat) : Prop := ∀ j t, j < k → C.2.2.2[j]? = some t → f j = actC t ∧ (t.1 ≠ 2 → cO j = C.1.2.getD (ix t.2.1) z0) ∧ (t.1 ≠ 1 → cN j = C.2.1.2.getD (ix t.2.2.1) z0)
theorem paN_s {C : sCo} {f : Nat → Int32} {cO cN cO' cN' : Nat → sC} {k : Nat} {t : sStep} (h : paN C f cO cN k) (ht : C.2.2.2[k]? = some t) (hO : (∀ j, j ≠ k → cO' j = cO j) ∧ (t.1 ≠ 2 → cO' k = C.1.2.getD (ix t.2.1) z0)) (hN : (∀ j, j ≠ k → cN' j = cN j) ∧ (t.1 ≠ 1 → cN' k = C.2.1.2.getD (ix t.2.2.1) z0)) : paN C (upd f k (actC t)) cO' cN' (k + 1) := by
  intro j u hj hu
  by_cases e : j = k
  · subst e
    rw [ht] at hu
    obtain rfl := Option.some.inj hu
    exact ⟨by simp [upd], hO.2, hN.2⟩
  · have := h j u (by omega) hu
    exact ⟨by simp only [upd]; rw [if_neg e]; exact this.1, fun z => by rw [hO.1 j e]; exact this.2.1 z, fun z => by rw [hN.1 j e]; exact this.2.2 z⟩

abbrev YX7_init : zY := (yX7_init.cls, cX7_init, 3, none, rmX7_init, yX7_init.name, fun _ _ => True)
set_option maxHeartbeats 800000 in
set_option maxRecDepth 100000 in
theorem m_pinit_L (g : zG) (h : zH) (kp l r s : Nat) (C : sCo) (f0 : Nat → Nat → Int32) (hk : h.2 kp = some (kOb l r s C.2.2.1 C.2.2.2.length)) (hf : csIs h s (C.1.2.length + C.2.1.2.length) f0) (cl cr : Nat → sC) (oL : aOk C.1) (hl : cAt h l C.1.1 C.1.2.length cl) (hll : ∀ i, i < C.1.2.length → cl i = C.1.2.getD i z0) (oR : aOk C.2.1) (hr2 : cAt h r C.2.1.1 C.2.1.2.length cr) (hlr : ∀ i, i < C.2.1.2.length → cr i = C.2.1.2.getD i z0) (hLn : C.2.2.2.length ≤ C.1.2.length + C.2.1.2.length) (hL : ∀ k t, C.2.2.2[k]? = some t → stpIs f0 k t) (hOk : ∀ t, t ∈ C.2.2.2 → stpOk C.1 C.2.1 t) (p : Nat) (hw : ∀ z, p ≤ z → h.2 z = none) : ∀ (n : Nat) (f : Nat → Int32) (cO cN : Nat → sC) (i : Nat), i + n = C.2.2.2.length → paN C f cO cN i → zZ g YX7_init (zE g (fun v h1 => v = none ∧ ∃ f cO cN, h1 = (pUp p (p + 2) (p + 6) C.2.2.2.length f (cUp (p + 2) 9 C.2.2.2.length cO (cUp (p + 6) 9 C.2.2.2.length cN ((p + 10, h.2) : zH)))) ∧ paN C f cO cN C.2.2.2.length) 9 290) 58 [(2, .int (nI i)), (0, .ref p), (1, .ref kp)] [] (pUp p (p + 2) (p + 6) C.2.2.2.length f (cUp (p + 2) 9 C.2.2.2.length cO (cUp (p + 6) 9 C.2.2.2.length cN ((p + 10, h.2) : zH)))) 9 290 := by
  have la : C.1.2.length ≤ 20 := oL.2.2.1
  have lb : C.2.1.2.length ≤ 20 := oR.2.2.1
  have lt_ : ∀ z o, h.2 z = some o → z < p := fun z o e => by
    rcases Nat.lt_or_ge z p with y | y
    · exact y
    · rw [hw z y] at e; cases e
  have k1 := lt_ _ _ hk
  have k2 := lt_ _ _ (hf 4 (by decide))
  have k3 := lt_ _ _ hl.2.2.2
  have k4 := lt_ _ _ hr2.2.2.2
  intro n
  induction n with
  | zero =>
    intro f cO cN i hin hpa
    refine z_iload_n dX7_init_58 rfl rfl ?_
    first | refine z_aload_n dX7_init_59 rfl rfl ?_ | refine z_aload_nN dX7_init_59 rfl rfl ?_
    refine zg_X7_15 rfl dX7_init_60 rfl pUp_o rfl ?_
    refine z_icmp_ge (tgt := 145) dX7_init_63 rfl (by decide) (fun c63 => ?_) (fun c63 => absurd c63 (fun z => z (nI_le (by omega) (by omega))))
    exact z_vret dX7_init_145 rfl rfl ⟨rfl, f, cO, cN, rfl, by rw [show C.2.2.2.length = i from by omega]; exact hpa⟩ (Nat.le_of_ble_eq_true rfl) (Nat.le_of_ble_eq_true rfl)
  | succ n ih =>
    intro f cO cN i hin hpa
    obtain ⟨t, ht⟩ : ∃ t, C.2.2.2[i]? = some t := ⟨_, List.getElem?_eq_getElem (by omega)⟩
    rcases hOk t (List.mem_of_getElem? ht) with ⟨e1, ⟨a, b, ha, hb, e2, e3, -⟩, -⟩ | ⟨e1, -, ⟨a, ha, e2⟩, -⟩ | ⟨e1, -, ⟨b, hb, e3⟩, -⟩
    · have nl : t.1 ≠ 1 := by rw [e1]; decide
      have nr : t.1 ≠ 2 := by rw [e1]; decide
      have ht3 : t.1 = 0 ∨ t.1 = 1 ∨ t.1 = 2 := Or.inl e1
      refine z_iload_n dX7_init_58 rfl rfl ?_
      first | refine z_aload_n dX7_init_59 rfl rfl ?_ | refine z_aload_nN dX7_init_59 rfl rfl ?_
      refine zg_X7_15 rfl dX7_init_60 rfl pUp_o rfl ?_
      refine z_icmp_ge (tgt := 145) dX7_init_63 rfl (by decide) (fun c63 => absurd c63 (nI_ge (by omega) (by omega))) (fun c63 => ?_)
      first | refine z_aload_n dX7_init_66 rfl rfl ?_ | refine z_aload_nN dX7_init_66 rfl rfl ?_
      refine zg_X7_20 rfl dX7_init_67 rfl pUp_o rfl ?_
      refine z_iload_n dX7_init_70 rfl rfl ?_
      first | refine z_aload_n dX7_init_71 rfl rfl ?_ | refine z_aload_nN dX7_init_71 rfl rfl ?_
      refine zg_X7_36 rfl dX7_init_72 rfl (((pUp_out (by omega)).trans ((cUp_out (by omega)).trans (cUp_out (by omega)))).trans hk) rfl ?_
      refine z_iload_n dX7_init_75 rfl rfl ?_
      refine z_iald dX7_init_76 rfl (((pUp_out (by omega)).trans ((cUp_out (by omega)).trans (cUp_out (by omega)))).trans (hf 0 (by decide))) (vp_in_nI (by omega) (by omega)) ?_
      rw [nI_clamp (show i < 2 ^ 31 by omega), (hL i t ht).1]
      first | refine z_aload_n dX7_init_77 rfl rfl ?_ | refine z_aload_nN dX7_init_77 rfl rfl ?_
      refine zg_X7_39 rfl dX7_init_78 rfl (((pUp_out (by omega)).trans ((cUp_out (by omega)).trans (cUp_out (by omega)))).trans hk) rfl ?_
      refine z_iload_n dX7_init_81 rfl rfl ?_
      refine z_iald dX7_init_82 rfl (((pUp_out (by omega)).trans ((cUp_out (by omega)).trans (cUp_out (by omega)))).trans (hf 3 (by decide))) (vp_in_nI (by omega) (by omega)) ?_
      rw [nI_clamp (show i < 2 ^ 31 by omega), (hL i t ht).2.2.2.1]
      refine zcx_X7_42 rfl dX7_init_83 rfl (m_actOf g _ t ht3) rfl rfl ⟨(Nat.le_of_ble_eq_true rfl), (Nat.le_of_ble_eq_true rfl)⟩ ⟨(Nat.le_of_ble_eq_true rfl), (Nat.le_of_ble_eq_true rfl)⟩ (Nat.le_of_ble_eq_true rfl) ?_
      refine z_iast dX7_init_86 rfl pUp_a (vp_in_nI (by omega) (by omega)) ?_
      rw [nI_clamp (show i < 2 ^ 31 by omega)]
      refine zZ_h (pUp p (p + 2) (p + 6) C.2.2.2.length (upd f i (actC t)) (cUp (p + 2) 9 C.2.2.2.length cO (cUp (p + 6) 9 C.2.2.2.length cN ((p + 10, h.2) : zH)))) (pUp_s _) ?_
      first | refine z_aload_n dX7_init_87 rfl rfl ?_ | refine z_aload_nN dX7_init_87 rfl rfl ?_
      refine z_iload_n dX7_init_88 rfl rfl ?_
      refine zcx_X7_46 rfl dX7_init_89 rfl (((pUp_out (by omega)).trans ((cUp_out (by omega)).trans (cUp_out (by omega)))).trans hk) (m_hasLeft g (pUp p (p + 2) (p + 6) C.2.2.2.length (upd f i (actC t)) (cUp (p + 2) 9 C.2.2.2.length cO (cUp (p + 6) 9 C.2.2.2.length cN ((p + 10, h.2) : zH)))) kp l r s C.2.2.1 (C.1.2.length + C.2.1.2.length) f0 C.2.2.2 (((pUp_out (by omega)).trans ((cUp_out (by omega)).trans (cUp_out (by omega)))).trans hk) (fun j hj => ((pUp_out (by omega)).trans ((cUp_out (by omega)).trans (cUp_out (by omega)))).trans (hf j hj)) hL hLn (by omega) i t ht) rfl rfl ⟨(Nat.le_of_ble_eq_true rfl), (Nat.le_of_ble_eq_true rfl)⟩ ⟨(Nat.le_of_ble_eq_true rfl), (Nat.le_of_ble_eq_true rfl)⟩ (Nat.le_of_ble_eq_true rfl) ?_
      refine z_bif_eq (tgt := 113) dX7_init_92 rfl (by decide) (fun c92 => absurd c92 (fun z => z nr)) (fun c92 => ?_)
      first | refine z_aload_n dX7_init_95 rfl rfl ?_ | refine z_aload_nN dX7_init_95 rfl rfl ?_
      refine zg_X7_29 rfl dX7_init_96 rfl pUp_o rfl ?_
      refine z_iload_n dX7_init_99 rfl rfl ?_
      first | refine z_aload_n dX7_init_100 rfl rfl ?_ | refine z_aload_nN dX7_init_100 rfl rfl ?_
      refine zg_X7_50 rfl dX7_init_101 rfl (((pUp_out (by omega)).trans ((cUp_out (by omega)).trans (cUp_out (by omega)))).trans hk) rfl ?_
      first | refine z_aload_n dX7_init_104 rfl rfl ?_ | refine z_aload_nN dX7_init_104 rfl rfl ?_
      refine zg_X7_53 rfl dX7_init_105 rfl (((pUp_out (by omega)).trans ((cUp_out (by omega)).trans (cUp_out (by omega)))).trans hk) rfl ?_
      refine z_iload_n dX7_init_108 rfl rfl ?_
      refine z_iald dX7_init_109 rfl (((pUp_out (by omega)).trans ((cUp_out (by omega)).trans (cUp_out (by omega)))).trans (hf 1 (by decide))) (vp_in_nI (by omega) (by omega)) ?_
      rw [nI_clamp (show i < 2 ^ 31 by omega), (hL i t ht).2.1 nr, e2]
      refine zcv_X7_56 rfl dX7_init_110 rfl (cAt_fr (cUp_at (p + 2) 9 _ _ _) (fun z z1 z2 => pUp_out (by omega))).1 (m_take g (pUp p (p + 2) (p + 6) C.2.2.2.length (upd f i (actC t)) (cUp (p + 2) 9 C.2.2.2.length cO (cUp (p + 6) 9 C.2.2.2.length cN ((p + 10, h.2) : zH)))) (p + 2) _ _ _ (cAt_fr (cUp_at (p + 2) 9 _ _ _) (fun z z1 z2 => pUp_out (by omega))) (by omega) i (by omega) l _ _ cl (cAt_fr hl (fun z z1 z2 => (pUp_out (by omega)).trans ((cUp_out (by omega)).trans (cUp_out (by omega))))) (by omega) a ha (cl_ok (h := h) (a := l) oL hll ha).1 (by decide) (into_9 _)) rfl rfl ⟨(Nat.le_of_ble_eq_true rfl), (Nat.le_of_ble_eq_true rfl)⟩ ⟨(Nat.le_of_ble_eq_true rfl), (Nat.le_of_ble_eq_true rfl)⟩ (Nat.le_of_ble_eq_true rfl) ?_
      rw [show sConv (cl a) 9 = cl a from by unfold sConv; rw [if_pos (by decide)], pUp_cU (by omega)]
      first | refine z_aload_n dX7_init_113 rfl rfl ?_ | refine z_aload_nN dX7_init_113 rfl rfl ?_
      refine z_iload_n dX7_init_114 rfl rfl ?_
      refine zcx_X7_60 rfl dX7_init_115 rfl (((pUp_out (by omega)).trans ((cUp_out (by omega)).trans (cUp_out (by omega)))).trans hk) (m_hasRight g (pUp p (p + 2) (p + 6) C.2.2.2.length (upd f i (actC t)) (cUp (p + 2) 9 C.2.2.2.length (uC cO i (cl a)) (cUp (p + 6) 9 C.2.2.2.length cN ((p + 10, h.2) : zH)))) kp l r s C.2.2.1 (C.1.2.length + C.2.1.2.length) f0 C.2.2.2 (((pUp_out (by omega)).trans ((cUp_out (by omega)).trans (cUp_out (by omega)))).trans hk) (fun j hj => ((pUp_out (by omega)).trans ((cUp_out (by omega)).trans (cUp_out (by omega)))).trans (hf j hj)) hL hLn (by omega) i t ht) rfl rfl ⟨(Nat.le_of_ble_eq_true rfl), (Nat.le_of_ble_eq_true rfl)⟩ ⟨(Nat.le_of_ble_eq_true rfl), (Nat.le_of_ble_eq_true rfl)⟩ (Nat.le_of_ble_eq_true rfl) ?_
      refine z_bif_eq (tgt := 139) dX7_init_118 rfl (by decide) (fun c118 => absurd c118 (fun z => z nl)) (fun c118 => ?_)
      first | refine z_aload_n dX7_init_121 rfl rfl ?_ | refine z_aload_nN dX7_init_121 rfl rfl ?_
      refine zg_X7_33 rfl dX7_init_122 rfl pUp_o rfl ?_
      refine z_iload_n dX7_init_125 rfl rfl ?_
      first | refine z_aload_n dX7_init_126 rfl rfl ?_ | refine z_aload_nN dX7_init_126 rfl rfl ?_
      refine zg_X7_63 rfl dX7_init_127 rfl (((pUp_out (by omega)).trans ((cUp_out (by omega)).trans (cUp_out (by omega)))).trans hk) rfl ?_
      first | refine z_aload_n dX7_init_130 rfl rfl ?_ | refine z_aload_nN dX7_init_130 rfl rfl ?_
      refine zg_X7_66 rfl dX7_init_131 rfl (((pUp_out (by omega)).trans ((cUp_out (by omega)).trans (cUp_out (by omega)))).trans hk) rfl ?_
      refine z_iload_n dX7_init_134 rfl rfl ?_
      refine z_iald dX7_init_135 rfl (((pUp_out (by omega)).trans ((cUp_out (by omega)).trans (cUp_out (by omega)))).trans (hf 2 (by decide))) (vp_in_nI (by omega) (by omega)) ?_
      rw [nI_clamp (show i < 2 ^ 31 by omega), (hL i t ht).2.2.1 nl, e3]
      refine zcv_X7_56 rfl dX7_init_136 rfl (cAt_fr (cUp_at (p + 6) 9 _ _ _) (fun z z1 z2 => (pUp_out (by omega)).trans (cUp_out (by omega)))).1 (m_take g (pUp p (p + 2) (p + 6) C.2.2.2.length (upd f i (actC t)) (cUp (p + 2) 9 C.2.2.2.length (uC cO i (cl a)) (cUp (p + 6) 9 C.2.2.2.length cN ((p + 10, h.2) : zH)))) (p + 6) _ _ _ (cAt_fr (cUp_at (p + 6) 9 _ _ _) (fun z z1 z2 => (pUp_out (by omega)).trans (cUp_out (by omega)))) (by omega) i (by omega) r _ _ cr (cAt_fr hr2 (fun z z1 z2 => (pUp_out (by omega)).trans ((cUp_out (by omega)).trans (cUp_out (by omega))))) (by omega) b hb (cl_ok (h := h) (a := r) oR hlr hb).1 (by decide) (into_9 _)) rfl rfl ⟨(Nat.le_of_ble_eq_true rfl), (Nat.le_of_ble_eq_true rfl)⟩ ⟨(Nat.le_of_ble_eq_true rfl), (Nat.le_of_ble_eq_true rfl)⟩ (Nat.le_of_ble_eq_true rfl) ?_
      rw [show sConv (cr b) 9 = cr b from by unfold sConv; rw [if_pos (by decide)], pUp_cU2 (by omega) (by omega)]
      refine z_iinc (v := nI (i + 1)) dX7_init_139 rfl rfl (nI_inc i) (Nat.le_of_ble_eq_true rfl) ?_
      refine z_goto (tgt := 58) dX7_init_142 rfl (by decide) ?_
      refine z_lv [(2, .int (nI (i + 1))), (0, .ref p), (1, .ref kp)] ⟨rfl, rfl, rfl, trivial⟩ ?_
      exact ih (upd f i (actC t)) (uC cO i (cl a)) (uC cN i (cr b)) (i + 1) (by omega) (paN_s hpa ht ⟨fun j hj => by simp only [uC]; rw [if_neg hj], fun _ => by simp only [uC]; rw [if_pos trivial, e2, show ix (nI a) = a from nI_clamp (by omega), hll a ha]⟩ ⟨fun j hj => by simp only [uC]; rw [if_neg hj], fun _ => by simp only [uC]; rw [if_pos trivial, e3, show ix (nI b) = b from nI_clamp (by omega), hlr b hb]⟩)
    · have nr : t.1 ≠ 2 := by rw [e1]; decide
      have ht3 : t.1 = 0 ∨ t.1 = 1 ∨ t.1 = 2 := Or.inr (Or.inl e1)
      refine z_iload_n dX7_init_58 rfl rfl ?_
      first | refine z_aload_n dX7_init_59 rfl rfl ?_ | refine z_aload_nN dX7_init_59 rfl rfl ?_
      refine zg_X7_15 rfl dX7_init_60 rfl pUp_o rfl ?_
      refine z_icmp_ge (tgt := 145) dX7_init_63 rfl (by decide) (fun c63 => absurd c63 (nI_ge (by omega) (by omega))) (fun c63 => ?_)
      first | refine z_aload_n dX7_init_66 rfl rfl ?_ | refine z_aload_nN dX7_init_66 rfl rfl ?_
      refine zg_X7_20 rfl dX7_init_67 rfl pUp_o rfl ?_
      refine z_iload_n dX7_init_70 rfl rfl ?_
      first | refine z_aload_n dX7_init_71 rfl rfl ?_ | refine z_aload_nN dX7_init_71 rfl rfl ?_
      refine zg_X7_36 rfl dX7_init_72 rfl (((pUp_out (by omega)).trans ((cUp_out (by omega)).trans (cUp_out (by omega)))).trans hk) rfl ?_
      refine z_iload_n dX7_init_75 rfl rfl ?_
      refine z_iald dX7_init_76 rfl (((pUp_out (by omega)).trans ((cUp_out (by omega)).trans (cUp_out (by omega)))).trans (hf 0 (by decide))) (vp_in_nI (by omega) (by omega)) ?_
      rw [nI_clamp (show i < 2 ^ 31 by omega), (hL i t ht).1]
      first | refine z_aload_n dX7_init_77 rfl rfl ?_ | refine z_aload_nN dX7_init_77 rfl rfl ?_
      refine zg_X7_39 rfl dX7_init_78 rfl (((pUp_out (by omega)).trans ((cUp_out (by omega)).trans (cUp_out (by omega)))).trans hk) rfl ?_
      refine z_iload_n dX7_init_81 rfl rfl ?_
      refine z_iald dX7_init_82 rfl (((pUp_out (by omega)).trans ((cUp_out (by omega)).trans (cUp_out (by omega)))).trans (hf 3 (by decide))) (vp_in_nI (by omega) (by omega)) ?_
      rw [nI_clamp (show i < 2 ^ 31 by omega), (hL i t ht).2.2.2.1]
      refine zcx_X7_42 rfl dX7_init_83 rfl (m_actOf g _ t ht3) rfl rfl ⟨(Nat.le_of_ble_eq_true rfl), (Nat.le_of_ble_eq_true rfl)⟩ ⟨(Nat.le_of_ble_eq_true rfl), (Nat.le_of_ble_eq_true rfl)⟩ (Nat.le_of_ble_eq_true rfl) ?_
      refine z_iast dX7_init_86 rfl pUp_a (vp_in_nI (by omega) (by omega)) ?_
      rw [nI_clamp (show i < 2 ^ 31 by omega)]
      refine zZ_h (pUp p (p + 2) (p + 6) C.2.2.2.length (upd f i (actC t)) (cUp (p + 2) 9 C.2.2.2.length cO (cUp (p + 6) 9 C.2.2.2.length cN ((p + 10, h.2) : zH)))) (pUp_s _) ?_
      first | refine z_aload_n dX7_init_87 rfl rfl ?_ | refine z_aload_nN dX7_init_87 rfl rfl ?_
      refine z_iload_n dX7_init_88 rfl rfl ?_
      refine zcx_X7_46 rfl dX7_init_89 rfl (((pUp_out (by omega)).trans ((cUp_out (by omega)).trans (cUp_out (by omega)))).trans hk) (m_hasLeft g (pUp p (p + 2) (p + 6) C.2.2.2.length (upd f i (actC t)) (cUp (p + 2) 9 C.2.2.2.length cO (cUp (p + 6) 9 C.2.2.2.length cN ((p + 10, h.2) : zH)))) kp l r s C.2.2.1 (C.1.2.length + C.2.1.2.length) f0 C.2.2.2 (((pUp_out (by omega)).trans ((cUp_out (by omega)).trans (cUp_out (by omega)))).trans hk) (fun j hj => ((pUp_out (by omega)).trans ((cUp_out (by omega)).trans (cUp_out (by omega)))).trans (hf j hj)) hL hLn (by omega) i t ht) rfl rfl ⟨(Nat.le_of_ble_eq_true rfl), (Nat.le_of_ble_eq_true rfl)⟩ ⟨(Nat.le_of_ble_eq_true rfl), (Nat.le_of_ble_eq_true rfl)⟩ (Nat.le_of_ble_eq_true rfl) ?_
      refine z_bif_eq (tgt := 113) dX7_init_92 rfl (by decide) (fun c92 => absurd c92 (fun z => z nr)) (fun c92 => ?_)
      first | refine z_aload_n dX7_init_95 rfl rfl ?_ | refine z_aload_nN dX7_init_95 rfl rfl ?_
      refine zg_X7_29 rfl dX7_init_96 rfl pUp_o rfl ?_
      refine z_iload_n dX7_init_99 rfl rfl ?_
      first | refine z_aload_n dX7_init_100 rfl rfl ?_ | refine z_aload_nN dX7_init_100 rfl rfl ?_
      refine zg_X7_50 rfl dX7_init_101 rfl (((pUp_out (by omega)).trans ((cUp_out (by omega)).trans (cUp_out (by omega)))).trans hk) rfl ?_
      first | refine z_aload_n dX7_init_104 rfl rfl ?_ | refine z_aload_nN dX7_init_104 rfl rfl ?_
      refine zg_X7_53 rfl dX7_init_105 rfl (((pUp_out (by omega)).trans ((cUp_out (by omega)).trans (cUp_out (by omega)))).trans hk) rfl ?_
      refine z_iload_n dX7_init_108 rfl rfl ?_
      refine z_iald dX7_init_109 rfl (((pUp_out (by omega)).trans ((cUp_out (by omega)).trans (cUp_out (by omega)))).trans (hf 1 (by decide))) (vp_in_nI (by omega) (by omega)) ?_
      rw [nI_clamp (show i < 2 ^ 31 by omega), (hL i t ht).2.1 nr, e2]
      refine zcv_X7_56 rfl dX7_init_110 rfl (cAt_fr (cUp_at (p + 2) 9 _ _ _) (fun z z1 z2 => pUp_out (by omega))).1 (m_take g (pUp p (p + 2) (p + 6) C.2.2.2.length (upd f i (actC t)) (cUp (p + 2) 9 C.2.2.2.length cO (cUp (p + 6) 9 C.2.2.2.length cN ((p + 10, h.2) : zH)))) (p + 2) _ _ _ (cAt_fr (cUp_at (p + 2) 9 _ _ _) (fun z z1 z2 => pUp_out (by omega))) (by omega) i (by omega) l _ _ cl (cAt_fr hl (fun z z1 z2 => (pUp_out (by omega)).trans ((cUp_out (by omega)).trans (cUp_out (by omega))))) (by omega) a ha (cl_ok (h := h) (a := l) oL hll ha).1 (by decide) (into_9 _)) rfl rfl ⟨(Nat.le_of_ble_eq_true rfl), (Nat.le_of_ble_eq_true rfl)⟩ ⟨(Nat.le_of_ble_eq_true rfl), (Nat.le_of_ble_eq_true rfl)⟩ (Nat.le_of_ble_eq_true rfl) ?_
      rw [show sConv (cl a) 9 = cl a from by unfold sConv; rw [if_pos (by decide)], pUp_cU (by omega)]
      first | refine z_aload_n dX7_init_113 rfl rfl ?_ | refine z_aload_nN dX7_init_113 rfl rfl ?_
      refine z_iload_n dX7_init_114 rfl rfl ?_
      refine zcx_X7_60 rfl dX7_init_115 rfl (((pUp_out (by omega)).trans ((cUp_out (by omega)).trans (cUp_out (by omega)))).trans hk) (m_hasRight g (pUp p (p + 2) (p + 6) C.2.2.2.length (upd f i (actC t)) (cUp (p + 2) 9 C.2.2.2.length (uC cO i (cl a)) (cUp (p + 6) 9 C.2.2.2.length cN ((p + 10, h.2) : zH)))) kp l r s C.2.2.1 (C.1.2.length + C.2.1.2.length) f0 C.2.2.2 (((pUp_out (by omega)).trans ((cUp_out (by omega)).trans (cUp_out (by omega)))).trans hk) (fun j hj => ((pUp_out (by omega)).trans ((cUp_out (by omega)).trans (cUp_out (by omega)))).trans (hf j hj)) hL hLn (by omega) i t ht) rfl rfl ⟨(Nat.le_of_ble_eq_true rfl), (Nat.le_of_ble_eq_true rfl)⟩ ⟨(Nat.le_of_ble_eq_true rfl), (Nat.le_of_ble_eq_true rfl)⟩ (Nat.le_of_ble_eq_true rfl) ?_
      refine z_bif_eq (tgt := 139) dX7_init_118 rfl (by decide) (fun c118 => ?_) (fun c118 => absurd c118 (fun z => z e1))
      refine z_iinc (v := nI (i + 1)) dX7_init_139 rfl rfl (nI_inc i) (Nat.le_of_ble_eq_true rfl) ?_
      refine z_goto (tgt := 58) dX7_init_142 rfl (by decide) ?_
      refine z_lv [(2, .int (nI (i + 1))), (0, .ref p), (1, .ref kp)] ⟨rfl, rfl, rfl, trivial⟩ ?_
      exact ih (upd f i (actC t)) (uC cO i (cl a)) cN (i + 1) (by omega) (paN_s hpa ht ⟨fun j hj => by simp only [uC]; rw [if_neg hj], fun _ => by simp only [uC]; rw [if_pos trivial, e2, show ix (nI a) = a from nI_clamp (by omega), hll a ha]⟩ ⟨fun _ _ => rfl, fun z => absurd e1 z⟩)
    · have nl : t.1 ≠ 1 := by rw [e1]; decide
      have ht3 : t.1 = 0 ∨ t.1 = 1 ∨ t.1 = 2 := Or.inr (Or.inr e1)
      refine z_iload_n dX7_init_58 rfl rfl ?_
      first | refine z_aload_n dX7_init_59 rfl rfl ?_ | refine z_aload_nN dX7_init_59 rfl rfl ?_
      refine zg_X7_15 rfl dX7_init_60 rfl pUp_o rfl ?_
      refine z_icmp_ge (tgt := 145) dX7_init_63 rfl (by decide) (fun c63 => absurd c63 (nI_ge (by omega) (by omega))) (fun c63 => ?_)
      first | refine z_aload_n dX7_init_66 rfl rfl ?_ | refine z_aload_nN dX7_init_66 rfl rfl ?_
      refine zg_X7_20 rfl dX7_init_67 rfl pUp_o rfl ?_
      refine z_iload_n dX7_init_70 rfl rfl ?_
      first | refine z_aload_n dX7_init_71 rfl rfl ?_ | refine z_aload_nN dX7_init_71 rfl rfl ?_
      refine zg_X7_36 rfl dX7_init_72 rfl (((pUp_out (by omega)).trans ((cUp_out (by omega)).trans (cUp_out (by omega)))).trans hk) rfl ?_
      refine z_iload_n dX7_init_75 rfl rfl ?_
      refine z_iald dX7_init_76 rfl (((pUp_out (by omega)).trans ((cUp_out (by omega)).trans (cUp_out (by omega)))).trans (hf 0 (by decide))) (vp_in_nI (by omega) (by omega)) ?_
      rw [nI_clamp (show i < 2 ^ 31 by omega), (hL i t ht).1]
      first | refine z_aload_n dX7_init_77 rfl rfl ?_ | refine z_aload_nN dX7_init_77 rfl rfl ?_
      refine zg_X7_39 rfl dX7_init_78 rfl (((pUp_out (by omega)).trans ((cUp_out (by omega)).trans (cUp_out (by omega)))).trans hk) rfl ?_
      refine z_iload_n dX7_init_81 rfl rfl ?_
      refine z_iald dX7_init_82 rfl (((pUp_out (by omega)).trans ((cUp_out (by omega)).trans (cUp_out (by omega)))).trans (hf 3 (by decide))) (vp_in_nI (by omega) (by omega)) ?_
      rw [nI_clamp (show i < 2 ^ 31 by omega), (hL i t ht).2.2.2.1]
      refine zcx_X7_42 rfl dX7_init_83 rfl (m_actOf g _ t ht3) rfl rfl ⟨(Nat.le_of_ble_eq_true rfl), (Nat.le_of_ble_eq_true rfl)⟩ ⟨(Nat.le_of_ble_eq_true rfl), (Nat.le_of_ble_eq_true rfl)⟩ (Nat.le_of_ble_eq_true rfl) ?_
      refine z_iast dX7_init_86 rfl pUp_a (vp_in_nI (by omega) (by omega)) ?_
      rw [nI_clamp (show i < 2 ^ 31 by omega)]
      refine zZ_h (pUp p (p + 2) (p + 6) C.2.2.2.length (upd f i (actC t)) (cUp (p + 2) 9 C.2.2.2.length cO (cUp (p + 6) 9 C.2.2.2.length cN ((p + 10, h.2) : zH)))) (pUp_s _) ?_
      first | refine z_aload_n dX7_init_87 rfl rfl ?_ | refine z_aload_nN dX7_init_87 rfl rfl ?_
      refine z_iload_n dX7_init_88 rfl rfl ?_
      refine zcx_X7_46 rfl dX7_init_89 rfl (((pUp_out (by omega)).trans ((cUp_out (by omega)).trans (cUp_out (by omega)))).trans hk) (m_hasLeft g (pUp p (p + 2) (p + 6) C.2.2.2.length (upd f i (actC t)) (cUp (p + 2) 9 C.2.2.2.length cO (cUp (p + 6) 9 C.2.2.2.length cN ((p + 10, h.2) : zH)))) kp l r s C.2.2.1 (C.1.2.length + C.2.1.2.length) f0 C.2.2.2 (((pUp_out (by omega)).trans ((cUp_out (by omega)).trans (cUp_out (by omega)))).trans hk) (fun j hj => ((pUp_out (by omega)).trans ((cUp_out (by omega)).trans (cUp_out (by omega)))).trans (hf j hj)) hL hLn (by omega) i t ht) rfl rfl ⟨(Nat.le_of_ble_eq_true rfl), (Nat.le_of_ble_eq_true rfl)⟩ ⟨(Nat.le_of_ble_eq_true rfl), (Nat.le_of_ble_eq_true rfl)⟩ (Nat.le_of_ble_eq_true rfl) ?_
      refine z_bif_eq (tgt := 113) dX7_init_92 rfl (by decide) (fun c92 => ?_) (fun c92 => absurd c92 (fun z => z e1))
      first | refine z_aload_n dX7_init_113 rfl rfl ?_ | refine z_aload_nN dX7_init_113 rfl rfl ?_
      refine z_iload_n dX7_init_114 rfl rfl ?_
      refine zcx_X7_60 rfl dX7_init_115 rfl (((pUp_out (by omega)).trans ((cUp_out (by omega)).trans (cUp_out (by omega)))).trans hk) (m_hasRight g (pUp p (p + 2) (p + 6) C.2.2.2.length (upd f i (actC t)) (cUp (p + 2) 9 C.2.2.2.length cO (cUp (p + 6) 9 C.2.2.2.length cN ((p + 10, h.2) : zH)))) kp l r s C.2.2.1 (C.1.2.length + C.2.1.2.length) f0 C.2.2.2 (((pUp_out (by omega)).trans ((cUp_out (by omega)).trans (cUp_out (by omega)))).trans hk) (fun j hj => ((pUp_out (by omega)).trans ((cUp_out (by omega)).trans (cUp_out (by omega)))).trans (hf j hj)) hL hLn (by omega) i t ht) rfl rfl ⟨(Nat.le_of_ble_eq_true rfl), (Nat.le_of_ble_eq_true rfl)⟩ ⟨(Nat.le_of_ble_eq_true rfl), (Nat.le_of_ble_eq_true rfl)⟩ (Nat.le_of_ble_eq_true rfl) ?_
      refine z_bif_eq (tgt := 139) dX7_init_118 rfl (by decide) (fun c118 => absurd c118 (fun z => z nl)) (fun c118 => ?_)
      first | refine z_aload_n dX7_init_121 rfl rfl ?_ | refine z_aload_nN dX7_init_121 rfl rfl ?_
      refine zg_X7_33 rfl dX7_init_122 rfl pUp_o rfl ?_
      refine z_iload_n dX7_init_125 rfl rfl ?_
      first | refine z_aload_n dX7_init_126 rfl rfl ?_ | refine z_aload_nN dX7_init_126 rfl rfl ?_
      refine zg_X7_63 rfl dX7_init_127 rfl (((pUp_out (by omega)).trans ((cUp_out (by omega)).trans (cUp_out (by omega)))).trans hk) rfl ?_
      first | refine z_aload_n dX7_init_130 rfl rfl ?_ | refine z_aload_nN dX7_init_130 rfl rfl ?_
      refine zg_X7_66 rfl dX7_init_131 rfl (((pUp_out (by omega)).trans ((cUp_out (by omega)).trans (cUp_out (by omega)))).trans hk) rfl ?_
      refine z_iload_n dX7_init_134 rfl rfl ?_
      refine z_iald dX7_init_135 rfl (((pUp_out (by omega)).trans ((cUp_out (by omega)).trans (cUp_out (by omega)))).trans (hf 2 (by decide))) (vp_in_nI (by omega) (by omega)) ?_
      rw [nI_clamp (show i < 2 ^ 31 by omega), (hL i t ht).2.2.1 nl, e3]
      refine zcv_X7_56 rfl dX7_init_136 rfl (cAt_fr (cUp_at (p + 6) 9 _ _ _) (fun z z1 z2 => (pUp_out (by omega)).trans (cUp_out (by omega)))).1 (m_take g (pUp p (p + 2) (p + 6) C.2.2.2.length (upd f i (actC t)) (cUp (p + 2) 9 C.2.2.2.length cO (cUp (p + 6) 9 C.2.2.2.length cN ((p + 10, h.2) : zH)))) (p + 6) _ _ _ (cAt_fr (cUp_at (p + 6) 9 _ _ _) (fun z z1 z2 => (pUp_out (by omega)).trans (cUp_out (by omega)))) (by omega) i (by omega) r _ _ cr (cAt_fr hr2 (fun z z1 z2 => (pUp_out (by omega)).trans ((cUp_out (by omega)).trans (cUp_out (by omega))))) (by omega) b hb (cl_ok (h := h) (a := r) oR hlr hb).1 (by decide) (into_9 _)) rfl rfl ⟨(Nat.le_of_ble_eq_true rfl), (Nat.le_of_ble_eq_true rfl)⟩ ⟨(Nat.le_of_ble_eq_true rfl), (Nat.le_of_ble_eq_true rfl)⟩ (Nat.le_of_ble_eq_true rfl) ?_
      rw [show sConv (cr b) 9 = cr b from by unfold sConv; rw [if_pos (by decide)], pUp_cU2 (by omega) (by omega)]
      refine z_iinc (v := nI (i + 1)) dX7_init_139 rfl rfl (nI_inc i) (Nat.le_of_ble_eq_true rfl) ?_
      refine z_goto (tgt := 58) dX7_init_142 rfl (by decide) ?_
      refine z_lv [(2, .int (nI (i + 1))), (0, .ref p), (1, .ref kp)] ⟨rfl, rfl, rfl, trivial⟩ ?_
      exact ih (upd f i (actC t)) cO (uC cN i (cr b)) (i + 1) (by omega) (paN_s hpa ht ⟨fun _ _ => rfl, fun z => absurd e1 z⟩ ⟨fun j hj => by simp only [uC]; rw [if_neg hj], fun _ => by simp only [uC]; rw [if_pos trivial, e3, show ix (nI b) = b from nI_clamp (by omega), hlr b hb]⟩)

