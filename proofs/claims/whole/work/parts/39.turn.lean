
def mAct (S : sMS) (a : Nat) (x : Int32) : sMS := (va_up S.1 17 (upd (S.1 17) a x), S.2)
theorem mAct_o (S : sMS) (a : Nat) (x : Int32) {j : Nat} (h : j ≠ 17) : (mAct S a x).1 j = S.1 j := by simp [mAct, va_up, h]
theorem mAct_17 (S : sMS) (a : Nat) (x : Int32) : (mAct S a x).1 17 = upd (S.1 17) a x := by simp [mAct, va_up]
theorem mc_act (S : sMS) (a : Nat) (x : Int32) (j : Nat) : mc (mAct S a x) j = mc S j := by simp [mc, mAct, va_up]
/-- one act is laid anew, all others stay -/
theorem act_fr {S1 S4 : sMS} {p j k : Nat} {t : sAct} (hp : p < 4) (hj : j < 40) (hk : k < 40) (hjk : j ≠ k) (h17 : ∀ q, q ≠ 40 * p + k → S4.1 17 q = S1.1 17 q) (hm : ∀ q, 560 ≤ q → q ≠ 560 + (40 * p + k) → q ≠ 720 + (40 * p + k) → mc S4 q = mc S1 q) (h : actIs S1 p j t) : actIs S4 p j t := by
  obtain ⟨a1, a2, a3, a4, a5, a6, a7⟩ := h
  exact ⟨by rw [h17 _ (by omega)]; exact a1, a2, a3, a4, a5, fun c hc => by rw [hm _ (by omega) (by omega) (by omega)]; exact a6 c hc, fun c hc => by rw [hm _ (by omega) (by omega) (by omega)]; exact a7 c hc⟩
theorem agP_act {S S1 S4 : sMS} {p k : Nat} (hp : p < 4) (hk : k < 40) (h : agP S S1 p) (h1 : ∀ j, j ≠ 1 → j ≠ 17 → S4.1 j = S1.1 j) (h17 : ∀ q, q ≠ 40 * p + k → S4.1 17 q = S1.1 17 q) (hm : ∀ q, q ≠ 520 → q ≠ 560 + (40 * p + k) → q ≠ 720 + (40 * p + k) → mc S4 q = mc S1 q) (hs : S4.2.2.2 = S1.2.2.2) : agP S S4 p := by
  refine agP_t h ⟨fun j a b c d => h1 j a d, fun q hq hqp => ⟨by rw [h1 15 (by decide) (by decide)], by rw [h1 16 (by decide) (by decide)], fun i hi => ⟨h17 _ (by omega), hm _ (by omega) (by omega) (by omega), hm _ (by omega) (by omega) (by omega)⟩⟩, fun a ha => hm _ (by omega) (by omega) (by omega), hs⟩
def mSwap (S : sMS) (a : Nat) : sMS := mLay (mLay (mLay S 520 (mc S (560 + a))) (560 + a) (mc (mLay S 520 (mc S (560 + a))) (720 + a))) (720 + a) (mc (mLay (mLay S 520 (mc S (560 + a))) (560 + a) (mc (mLay S 520 (mc S (560 + a))) (720 + a))) 520)
theorem mc_swap (S : sMS) (a j : Nat) : mc (mSwap S a) j = if j = 720 + a then mc S (560 + a) else if j = 560 + a then mc S (720 + a) else if j = 520 then mc S (560 + a) else mc S j := by
  unfold mSwap
  simp only [mc_lay]
  by_cases e1 : j = 720 + a
  · rw [if_pos e1, if_pos e1, if_neg (by omega), if_pos trivial]
  · rw [if_neg e1, if_neg e1]
    by_cases e2 : j = 560 + a
    · rw [if_pos e2, if_pos e2, if_neg (by omega)]
    · rw [if_neg e2, if_neg e2]
theorem mSwap_1 (S : sMS) (a : Nat) {j : Nat} (hj : j ≠ 1) : (mSwap S a).1 j = S.1 j := by unfold mSwap; rw [mLay_1 _ _ _ hj, mLay_1 _ _ _ hj, mLay_1 _ _ _ hj]
theorem mSwap_s (S : sMS) (a : Nat) : (mSwap S a).2.2.2 = S.2.2.2 := rfl
/-- k acts are turned -/
def tnIs (S S1 : sMS) (p : Nat) (L : List sAct) (k : Nat) : Prop := agP S S1 p ∧ S1.1 15 = S.1 15 ∧ S1.1 16 = S.1 16 ∧ ∀ j t, L[j]? = some t → actIs S1 p j (if j < k then turnA t else t)
theorem turnA_x (t : sAct) (h : 0 ≤ t.1 ∧ t.1 ≤ 3) (h2 : (t.2.1 = none ↔ t.1 = 3) ∧ (t.2.2 = none ↔ t.1 = 2)) : (0 ≤ (turnA t).1 ∧ (turnA t).1 ≤ 3) ∧ ((turnA t).2.1 = none ↔ (turnA t).1 = 3) ∧ ((turnA t).2.2 = none ↔ (turnA t).1 = 2) := by
  obtain ⟨x, a, b⟩ := t
  simp only [turnA] at h h2 ⊢
  obtain ⟨q1, q2⟩ := h2
  refine ⟨by grind, ?_, ?_⟩
  · rw [q2]; grind
  · rw [q1]; grind
theorem tn_step {S S1 : sMS} {p k : Nat} {L : List sAct} {t : sAct} (hp : p < 4) (hl : L.length ≤ 40) (h : tnIs S S1 p L k) (hk : L[k]? = some t) : tnIs S (mSwap (mAct S1 (40 * p + k) (turnA t).1) (40 * p + k)) p L (k + 1) := by
  obtain ⟨h1, h2, h3, h4⟩ := h
  have hkl := (List.getElem?_eq_some_iff.mp hk).1
  have f1 : ∀ j, j ≠ 1 → j ≠ 17 → (mSwap (mAct S1 (40 * p + k) (turnA t).1) (40 * p + k)).1 j = S1.1 j := fun j a b => by rw [mSwap_1 _ _ a, mAct_o _ _ _ b]
  have f2 : ∀ q, (mSwap (mAct S1 (40 * p + k) (turnA t).1) (40 * p + k)).1 17 q = if q = 40 * p + k then (turnA t).1 else S1.1 17 q := fun q => by rw [mSwap_1 _ _ (by decide), mAct_17]; rfl
  have f3 : ∀ q, mc (mSwap (mAct S1 (40 * p + k) (turnA t).1) (40 * p + k)) q = if q = 720 + (40 * p + k) then mc S1 (560 + (40 * p + k)) else if q = 560 + (40 * p + k) then mc S1 (720 + (40 * p + k)) else if q = 520 then mc S1 (560 + (40 * p + k)) else mc S1 q := fun q => by rw [mc_swap]; simp only [mc_act]
  have f4 : (mSwap (mAct S1 (40 * p + k) (turnA t).1) (40 * p + k)).2.2.2 = S1.2.2.2 := rfl
  generalize mSwap (mAct S1 (40 * p + k) (turnA t).1) (40 * p + k) = S4 at f1 f2 f3 f4 ⊢
  refine ⟨agP_act hp (show k < 40 by omega) h1 f1 (fun q hq => by rw [f2, if_neg hq]) (fun q a b c => by rw [f3, if_neg c, if_neg b, if_neg a]) f4, (f1 15 (by decide) (by decide)).trans h2, (f1 16 (by decide) (by decide)).trans h3, fun j u hj => ?_⟩
  have hjl := (List.getElem?_eq_some_iff.mp hj).1
  by_cases e : j = k
  · subst e
    rw [hk] at hj
    obtain rfl := Option.some.inj hj
    rw [if_pos (by omega)]
    have hh := h4 j t hk
    rw [if_neg (by omega)] at hh
    obtain ⟨a1, a2, a3, a4, a5, a6, a7⟩ := hh
    have x := turnA_x t ⟨a2, a3⟩ ⟨a4, a5⟩
    refine ⟨by rw [f2, if_pos rfl], x.1.1, x.1.2, x.2.1, x.2.2, fun c hc => ?_, fun c hc => ?_⟩
    · rw [f3, if_neg (by omega), if_pos rfl]; exact a7 c hc
    · rw [f3, if_pos rfl]; exact a6 c hc
  · have hh := act_fr (S4 := S4) hp (show j < 40 by omega) (show k < 40 by omega) e (fun q hq => by rw [f2, if_neg hq]) (fun q a b c => by rw [f3, if_neg c, if_neg b, if_neg (by omega)]) (h4 j u hj)
    by_cases e2 : j < k
    · rw [if_pos e2] at hh; rw [if_pos (by omega)]; exact hh
    · rw [if_neg e2] at hh; rw [if_neg (by omega)]; exact hh
theorem tn_end {S S1 : sMS} {p : Nat} {L : List sAct} (h : tnIs S S1 p L L.length) (hP : patIs S p (some L)) : patIs S1 p (some (L.map turnA)) := by
  obtain ⟨h1, h2, h3, h4⟩ := h
  refine ⟨by rw [h2]; exact hP.1, by rw [h3, List.length_map]; exact hP.2.1, by rw [List.length_map]; exact hP.2.2.1, fun k a hk => ?_⟩
  rw [List.getElem?_map, Option.map_eq_some_iff] at hk
  obtain ⟨t, ht, rfl⟩ := hk
  have := h4 k t ht
  rwa [if_pos (List.getElem?_eq_some_iff.mp ht).1] at this
theorem turn_none {w : sW} {p : Int32} (hp : 0 ≤ p ∧ p ≤ 3) (h : w.2.2.2.2.2.2 (ix p) = none) : pTurn w p = (-2, w) := by
  unfold pTurn
  rw [if_neg (fun z => z hp), h]
theorem turn_some {w : sW} {p : Int32} {L : List sAct} (hp : 0 ≤ p ∧ p ≤ 3) (h : w.2.2.2.2.2.2 (ix p) = some L) : pTurn w p = (nI L.length, wPat w (ix p) (some (L.map turnA))) := by
  unfold pTurn
  rw [if_neg (fun z => z hp), h]

abbrev YX10_turn : zY := (yX10_turn.cls, cX10_turn, 4, (some .int), rmX10_turn, yX10_turn.name, fun _ _ => True)
set_option maxHeartbeats 800000 in
set_option maxRecDepth 100000 in
theorem R_turn_L (g : zG) (h : zH) (m : Nat) (S : sMS) (w : sW) (hR : RepM S w) (pn : Nat) (hpn : pn < 4) (hp3 : 0 ≤ nI pn ∧ nI pn ≤ 3) (hix : ix (nI pn) = pn) (L : List sAct) (hw : w.2.2.2.2.2.2 pn = some L) (hP : patIs S pn (some L)) : ∀ (n : Nat) (S1 : sMS) (k : Nat), k + n = L.length → tnIs S S1 pn L k → zZ g YX10_turn (zE g (mPost m h (pTurn w (nI pn))) 0 0) 23 [(2, .int (nI k)), (0, .ref m), (1, .int (nI pn))] [] (mUp m S1 h) 0 0 := by
  have hl : L.length ≤ 40 := hP.2.2.1
  intro n
  induction n with
  | zero =>
    intro S1 k hkn hT
    have ek : k = L.length := by omega
    refine z_iload_n dX10_turn_23 rfl rfl ?_
    first | refine z_aload_n dX10_turn_24 rfl rfl ?_ | refine z_aload_nN dX10_turn_24 rfl rfl ?_
    refine zmg_58 rfl dX10_turn_25 rfl ?_
    refine z_iload_n dX10_turn_28 rfl rfl ?_
    refine zm_iald dX10_turn_29 rfl rfl (vp_in_nI (by omega) (by decide)) ?_
    rw [nI_clamp (show pn < 2 ^ 31 by omega), show S1.1 16 pn = nI L.length from by rw [hT.2.2.1]; exact hP.2.1]
    refine z_icmp_ge (tgt := 124) dX10_turn_30 rfl (by decide) (fun c30 => ?_) (fun c30 => absurd c30 (fun z => z (nI_le (by omega) (by omega))))
    first | refine z_aload_n dX10_turn_124 rfl rfl ?_ | refine z_aload_nN dX10_turn_124 rfl rfl ?_
    refine zmg_58 rfl dX10_turn_125 rfl ?_
    refine z_iload_n dX10_turn_128 rfl rfl ?_
    refine zm_iald dX10_turn_129 rfl rfl (vp_in_nI (by omega) (by decide)) ?_
    rw [nI_clamp (show pn < 2 ^ 31 by omega), show S1.1 16 pn = nI L.length from by rw [hT.2.2.1]; exact hP.2.1]
    exact z_iret dX10_turn_130 rfl rfl (mPost_of (by subst ek; exact RepM_pat hR hT.1 (tn_end hT hP)) (by rw [turn_some hp3 (by rw [hix]; exact hw), hix])) (Nat.le_of_ble_eq_true rfl) (Nat.le_of_ble_eq_true rfl)
  | succ n ih =>
    intro S1 k hkn hT
    obtain ⟨t, hk⟩ : ∃ t, L[k]? = some t := ⟨_, List.getElem?_eq_getElem (by omega)⟩
    have hA := hT.2.2.2 k t hk
    rw [if_neg (by omega)] at hA
    have w1 : S1.1 17 (nI (40 * pn + k)).toNatClampNeg = t.1 := by rw [nI_clamp (by omega)]; exact hA.1
    have kk : ∀ x, x = (turnA t).1 → zZ g YX10_turn (zE g (mPost m h (pTurn w (nI pn))) 0 0) 79 [(3, .int (nI (40 * pn + k))), (2, .int (nI k)), (0, .ref m), (1, .int (nI pn))] [.int x, .int (nI (40 * pn + k)), .ref (m + 17)] (mUp m S1 h) 0 0 := by
      intro x hx
      refine zm_iast dX10_turn_79 rfl rfl (vp_in_nI (by omega) (by decide)) ?_
      rw [nI_clamp (show 40 * pn + k < 2 ^ 31 by omega)]
      change zZ _ _ _ _ _ _ (mUp m (mAct S1 (40 * pn + k) x) h) _ _
      first | refine z_aload_n dX10_turn_80 rfl rfl ?_ | refine z_aload_nN dX10_turn_80 rfl rfl ?_
      refine z_sipush (v := 560) dX10_turn_81 rfl (by decide) ?_
      refine z_iload_n dX10_turn_84 rfl rfl ?_
      refine z_iadd dX10_turn_85 rfl ?_
      rw [n560]
      refine z_sipush (v := 520) dX10_turn_86 rfl (by decide) ?_
      refine zcv_X10_229 rfl dX10_turn_89 rfl mo_recv (r_copiesCell g h m _ _ _ (vp_in_nI (by omega) (by decide)) in520) rfl rfl ⟨(Nat.le_of_ble_eq_true rfl), (Nat.le_of_ble_eq_true rfl)⟩ ⟨(Nat.le_of_ble_eq_true rfl), (Nat.le_of_ble_eq_true rfl)⟩ (Nat.le_of_ble_eq_true rfl) ?_
      rw [nI_clamp (show 560 + (40 * pn + k) < 2 ^ 31 by omega), show (520 : Int32).toNatClampNeg = 520 from rfl]
      first | refine z_aload_n dX10_turn_92 rfl rfl ?_ | refine z_aload_nN dX10_turn_92 rfl rfl ?_
      refine z_sipush (v := 720) dX10_turn_93 rfl (by decide) ?_
      refine z_iload_n dX10_turn_96 rfl rfl ?_
      refine z_iadd dX10_turn_97 rfl ?_
      rw [n720]
      refine z_sipush (v := 560) dX10_turn_98 rfl (by decide) ?_
      refine z_iload_n dX10_turn_101 rfl rfl ?_
      refine z_iadd dX10_turn_102 rfl ?_
      rw [n560]
      refine zcv_X10_229 rfl dX10_turn_103 rfl mo_recv (r_copiesCell g h m _ _ _ (vp_in_nI (by omega) (by decide)) (vp_in_nI (by omega) (by decide))) rfl rfl ⟨(Nat.le_of_ble_eq_true rfl), (Nat.le_of_ble_eq_true rfl)⟩ ⟨(Nat.le_of_ble_eq_true rfl), (Nat.le_of_ble_eq_true rfl)⟩ (Nat.le_of_ble_eq_true rfl) ?_
      rw [nI_clamp (show 560 + (40 * pn + k) < 2 ^ 31 by omega), nI_clamp (show 720 + (40 * pn + k) < 2 ^ 31 by omega)]
      first | refine z_aload_n dX10_turn_106 rfl rfl ?_ | refine z_aload_nN dX10_turn_106 rfl rfl ?_
      refine z_sipush (v := 520) dX10_turn_107 rfl (by decide) ?_
      refine z_sipush (v := 720) dX10_turn_110 rfl (by decide) ?_
      refine z_iload_n dX10_turn_113 rfl rfl ?_
      refine z_iadd dX10_turn_114 rfl ?_
      rw [n720]
      refine zcv_X10_229 rfl dX10_turn_115 rfl mo_recv (r_copiesCell g h m _ _ _ in520 (vp_in_nI (by omega) (by decide))) rfl rfl ⟨(Nat.le_of_ble_eq_true rfl), (Nat.le_of_ble_eq_true rfl)⟩ ⟨(Nat.le_of_ble_eq_true rfl), (Nat.le_of_ble_eq_true rfl)⟩ (Nat.le_of_ble_eq_true rfl) ?_
      rw [nI_clamp (show 720 + (40 * pn + k) < 2 ^ 31 by omega), show (520 : Int32).toNatClampNeg = 520 from rfl]
      refine z_iinc (v := nI (k + 1)) dX10_turn_118 rfl rfl (nI_inc k) (Nat.le_of_ble_eq_true rfl) ?_
      refine z_goto (tgt := 23) dX10_turn_121 rfl (by decide) ?_
      refine z_lv [(2, .int (nI (k + 1))), (0, .ref m), (1, .int (nI pn))] ⟨rfl, rfl, rfl, trivial⟩ ?_
      exact ih (mSwap (mAct S1 (40 * pn + k) x) (40 * pn + k)) (k + 1) (by omega) (by rw [hx]; exact tn_step (by omega) hl hT hk)
    refine z_iload_n dX10_turn_23 rfl rfl ?_
    first | refine z_aload_n dX10_turn_24 rfl rfl ?_ | refine z_aload_nN dX10_turn_24 rfl rfl ?_
    refine zmg_58 rfl dX10_turn_25 rfl ?_
    refine z_iload_n dX10_turn_28 rfl rfl ?_
    refine zm_iald dX10_turn_29 rfl rfl (vp_in_nI (by omega) (by decide)) ?_
    rw [nI_clamp (show pn < 2 ^ 31 by omega), show S1.1 16 pn = nI L.length from by rw [hT.2.2.1]; exact hP.2.1]
    refine z_icmp_ge (tgt := 124) dX10_turn_30 rfl (by decide) (fun c30 => absurd c30 (nI_ge (by omega) (by omega))) (fun c30 => ?_)
    refine z_bipush (v := 40) dX10_turn_33 rfl (by decide) ?_
    refine z_iload_n dX10_turn_35 rfl rfl ?_
    refine z_imul dX10_turn_36 rfl ?_
    refine z_iload_n dX10_turn_37 rfl rfl ?_
    refine z_iadd dX10_turn_38 rfl ?_
    rw [n40]
    refine z_istore_n dX10_turn_39 rfl (Nat.le_of_ble_eq_true rfl) ?_
    first | refine z_aload_n dX10_turn_40 rfl rfl ?_ | refine z_aload_nN dX10_turn_40 rfl rfl ?_
    refine zmg_61 rfl dX10_turn_41 rfl ?_
    refine z_iload_n dX10_turn_44 rfl rfl ?_
    first | refine z_aload_n dX10_turn_45 rfl rfl ?_ | refine z_aload_nN dX10_turn_45 rfl rfl ?_
    refine zmg_61 rfl dX10_turn_46 rfl ?_
    refine z_iload_n dX10_turn_49 rfl rfl ?_
    refine zm_iald dX10_turn_50 rfl rfl (vp_in_nI (by omega) (by decide)) ?_
    rw [w1]
    refine z_iconst (v := 2) dX10_turn_51 rfl (by decide) ?_
    refine z_icmp_ne (tgt := 59) dX10_turn_52 rfl (by decide) (fun c52 => ?_) (fun c52 => ?_)
    · skip
      first | refine z_aload_n dX10_turn_59 rfl rfl ?_ | refine z_aload_nN dX10_turn_59 rfl rfl ?_
      refine zmg_61 rfl dX10_turn_60 rfl ?_
      refine z_iload_n dX10_turn_63 rfl rfl ?_
      refine zm_iald dX10_turn_64 rfl rfl (vp_in_nI (by omega) (by decide)) ?_
      rw [w1]
      refine z_iconst (v := 3) dX10_turn_65 rfl (by decide) ?_
      refine z_icmp_ne (tgt := 73) dX10_turn_66 rfl (by decide) (fun c66 => ?_) (fun c66 => ?_)
      · skip
        first | refine z_aload_n dX10_turn_73 rfl rfl ?_ | refine z_aload_nN dX10_turn_73 rfl rfl ?_
        refine zmg_61 rfl dX10_turn_74 rfl ?_
        refine z_iload_n dX10_turn_77 rfl rfl ?_
        refine zm_iald dX10_turn_78 rfl rfl (vp_in_nI (by omega) (by decide)) ?_
        exact kk _ (by first | rw [w1]; grind [turnA] | grind [turnA])
      · skip
        refine z_iconst (v := 2) dX10_turn_69 rfl (by decide) ?_
        refine z_goto (tgt := 79) dX10_turn_70 rfl (by decide) ?_
        exact kk _ (by first | rw [w1]; grind [turnA] | grind [turnA])
    · skip
      refine z_iconst (v := 3) dX10_turn_55 rfl (by decide) ?_
      refine z_goto (tgt := 79) dX10_turn_56 rfl (by decide) ?_
      exact kk _ (by first | rw [w1]; grind [turnA] | grind [turnA])

set_option maxHeartbeats 800000 in
set_option maxRecDepth 100000 in
theorem R_turn (g : zG) (h : zH) (m : Nat) (S : sMS) (w : sW) (hR : RepM S w) (p : Int32) : zM g yX10_turn cX10_turn 4 (some .int) rmX10_turn [.ref m, .int p] (mUp m S h) (mPost m h (pTurn w p)) := by
  refine zM_of (by decide) (Nat.le_of_ble_eq_true rfl) ?_
  refine z_iload_n dX10_turn_0 rfl rfl ?_
  refine zcx_X10_300 rfl dX10_turn_1 rfl (r_isPatchNumber g _ _) rfl rfl ⟨(Nat.le_of_ble_eq_true rfl), (Nat.le_of_ble_eq_true rfl)⟩ ⟨(Nat.le_of_ble_eq_true rfl), (Nat.le_of_ble_eq_true rfl)⟩ (Nat.le_of_ble_eq_true rfl) ?_
  refine z_bif_ne (tgt := 9) dX10_turn_4 rfl (by decide) (fun c4 => ?_) (fun c4 => ?_)
  · skip
    obtain ⟨pn, hpn3, rfl⟩ := nI_of2 (x := p) (M := 3) (n := 3) (by decide) (by grind) c4.2
    have hpn : pn < 4 := by omega
    have hix : ix (nI pn) = pn := nI_clamp (by omega)
    rcases hw : w.2.2.2.2.2.2 pn with _ | L
    · skip
      first | refine z_aload_n dX10_turn_9 rfl rfl ?_ | refine z_aload_nN dX10_turn_9 rfl rfl ?_
      refine zmg_55 rfl dX10_turn_10 rfl ?_
      refine z_iload_n dX10_turn_13 rfl rfl ?_
      refine zm_zald dX10_turn_14 rfl rfl (vp_in_nI (by omega) (by decide)) ?_
      rw [nI_clamp (by omega), pat_none hR hpn hw]
      refine z_if_ne (tgt := 21) dX10_turn_15 rfl (by decide) (fun c15 => absurd c15 (fun z => z rfl)) (fun c15 => ?_)
      refine z_bipush (v := -2) dX10_turn_18 rfl (by decide) ?_
      exact z_iret dX10_turn_20 rfl rfl (mPost_of hR (turn_none c4 (by rw [hix]; exact hw))) (Nat.le_of_ble_eq_true rfl) (Nat.le_of_ble_eq_true rfl)
    · have hP := pat_some hR hpn hw
      first | refine z_aload_n dX10_turn_9 rfl rfl ?_ | refine z_aload_nN dX10_turn_9 rfl rfl ?_
      refine zmg_55 rfl dX10_turn_10 rfl ?_
      refine z_iload_n dX10_turn_13 rfl rfl ?_
      refine zm_zald dX10_turn_14 rfl rfl (vp_in_nI (by omega) (by decide)) ?_
      rw [nI_clamp (show pn < 2 ^ 31 by omega), hP.1]
      refine z_if_ne (tgt := 21) dX10_turn_15 rfl (by decide) (fun c15 => ?_) (fun c15 => absurd c15 (by decide))
      refine z_iconst (v := 0) dX10_turn_21 rfl (by decide) ?_
      refine z_istore_n dX10_turn_22 rfl (Nat.le_of_ble_eq_true rfl) ?_
      refine z_lv [(2, .int (nI 0)), (0, .ref m), (1, .int (nI pn))] ⟨rfl, rfl, rfl, trivial⟩ ?_
      exact R_turn_L g h m S w hR pn hpn c4 hix L hw hP L.length S 0 (by omega) ⟨agP_r S pn, rfl, rfl, fun j t hj => by rw [if_neg (by omega)]; exact hP.2.2.2 j t hj⟩
  · skip
    refine z_iconst (v := -1) dX10_turn_7 rfl (by decide) ?_
    exact z_iret dX10_turn_8 rfl rfl (mPost_of hR (by grind [pTurn])) (Nat.le_of_ble_eq_true rfl) (Nat.le_of_ble_eq_true rfl)

