def actOf (t : sAct) (what : Int32) : Int32 := if what = 0 then t.1 else match (if what = 1 then t.2.1 else t.2.2) with
  | none => -4
  | some c => c.1
/-- 26 -/
def pAct (w : sW) (p k what : Int32) : Int32 × sW :=
  (if ¬ (0 ≤ p ∧ p ≤ 3) ∨ k < 0 ∨ ¬ (0 ≤ what ∧ what ≤ 2) then -1 else match w.2.2.2.2.2.2 (ix p) with
  | none => -2
  | some L => match L[ix k]? with
    | none => -4
    | some t => actOf t what, w)
theorem act_none {w : sW} {p k what : Int32} (hp : 0 ≤ p ∧ p ≤ 3) (hk : ¬ k < 0) (hw : 0 ≤ what ∧ what ≤ 2) (h : w.2.2.2.2.2.2 (ix p) = none) : pAct w p k what = (-2, w) := by
  unfold pAct
  rw [if_neg (fun z => z.elim (fun z => z hp) (fun z => z.elim hk (fun z => z hw))), h]
theorem act_no {w : sW} {p k what : Int32} {L : List sAct} (hp : 0 ≤ p ∧ p ≤ 3) (hk : ¬ k < 0) (hw : 0 ≤ what ∧ what ≤ 2) (h : w.2.2.2.2.2.2 (ix p) = some L) (hL : L[ix k]? = none) : pAct w p k what = (-4, w) := by
  unfold pAct
  rw [if_neg (fun z => z.elim (fun z => z hp) (fun z => z.elim hk (fun z => z hw))), h]
  simp only [hL]
theorem act_some {w : sW} {p k what : Int32} {L : List sAct} {t : sAct} (hp : 0 ≤ p ∧ p ≤ 3) (hk : ¬ k < 0) (hw : 0 ≤ what ∧ what ≤ 2) (h : w.2.2.2.2.2.2 (ix p) = some L) (hL : L[ix k]? = some t) {x : Int32} (hx : x = actOf t what) : pAct w p k what = (x, w) := by
  unfold pAct
  rw [if_neg (fun z => z.elim (fun z => z hp) (fun z => z.elim hk (fun z => z hw))), h]
  simp only [hL, hx]
theorem pat_none {S : sMS} {w : sW} (hR : RepM S w) {p : Nat} (hp : p < 4) (h : w.2.2.2.2.2.2 p = none) : S.1 15 p = 0 := by
  have := hR.2.1.2.2.2.2 p hp
  rw [h] at this
  exact this
theorem pat_some {S : sMS} {w : sW} (hR : RepM S w) {p : Nat} (hp : p < 4) {L : List sAct} (h : w.2.2.2.2.2.2 p = some L) : patIs S p (some L) := by
  have := hR.2.1.2.2.2.2 p hp
  rwa [h] at this
theorem n40 (p k : Nat) : (40 : Int32) * nI p + nI k = nI (40 * p + k) := by
  have : (40 : Int32) * nI p = nI (40 * p) := pk_mul 40 p
  rw [this, nI_add]
theorem n560 (i : Nat) : (560 : Int32) + nI i = nI (560 + i) := nI_add 560 i
theorem n720 (i : Nat) : (720 : Int32) + nI i = nI (720 + i) := nI_add 720 i

set_option maxHeartbeats 800000 in
set_option maxRecDepth 100000 in
theorem R_act (g : zG) (h : zH) (m : Nat) (S : sMS) (w : sW) (hR : RepM S w) (p k what : Int32) : zM g yX10_act cX10_act 5 (some .int) rmX10_act [.ref m, .int p, .int k, .int what] (mUp m S h) (mPost m h (pAct w p k what)) := by
  refine zM_of (by decide) (Nat.le_of_ble_eq_true rfl) ?_
  refine z_iload_n dX10_act_0 rfl rfl ?_
  refine zcx_X10_300 rfl dX10_act_1 rfl (r_isPatchNumber g _ _) rfl rfl ⟨(Nat.le_of_ble_eq_true rfl), (Nat.le_of_ble_eq_true rfl)⟩ ⟨(Nat.le_of_ble_eq_true rfl), (Nat.le_of_ble_eq_true rfl)⟩ (Nat.le_of_ble_eq_true rfl) ?_
  refine z_bif_eq (tgt := 23) dX10_act_4 rfl (by decide) (fun c4 => ?_) (fun c4 => ?_)
  · skip
    refine z_iconst (v := -1) dX10_act_23 rfl (by decide) ?_
    exact z_iret dX10_act_24 rfl rfl (mPost_of hR (by grind [pAct])) (Nat.le_of_ble_eq_true rfl) (Nat.le_of_ble_eq_true rfl)
  · skip
    refine z_iload_n dX10_act_7 rfl rfl ?_
    refine z_if_lt (tgt := 23) dX10_act_8 rfl (by decide) (fun c8 => ?_) (fun c8 => ?_)
    · skip
      refine z_iconst (v := -1) dX10_act_23 rfl (by decide) ?_
      exact z_iret dX10_act_24 rfl rfl (mPost_of hR (by grind [pAct])) (Nat.le_of_ble_eq_true rfl) (Nat.le_of_ble_eq_true rfl)
    · skip
      refine z_iload_n dX10_act_11 rfl rfl ?_
      refine z_i2l dX10_act_12 rfl ?_
      refine z_lconst (v := 0) dX10_act_13 rfl (by decide) ?_
      refine zk_X10_288 rfl dX10_act_14 rfl ?_
      refine zcx_X10_72 rfl dX10_act_17 rfl (r_in32 g _ _ 0 2 rfl rfl) rfl rfl ⟨(Nat.le_of_ble_eq_true rfl), (Nat.le_of_ble_eq_true rfl)⟩ ⟨(Nat.le_of_ble_eq_true rfl), (Nat.le_of_ble_eq_true rfl)⟩ (Nat.le_of_ble_eq_true rfl) ?_
      refine z_bif_ne (tgt := 25) dX10_act_20 rfl (by decide) (fun c20 => ?_) (fun c20 => ?_)
      · skip
        obtain ⟨pn, hpn3, rfl⟩ := nI_of2 (x := p) (M := 3) (n := 3) (by decide) (by grind) c4.2
        obtain ⟨kn, hkn, rfl⟩ := nI_of0 c8
        have hpn : pn < 4 := by omega
        have hix : ix (nI pn) = pn := nI_clamp (by omega)
        have hkx : ix (nI kn) = kn := nI_clamp (by omega)
        rcases hw : w.2.2.2.2.2.2 pn with _ | L
        · skip
          first | refine z_aload_n dX10_act_25 rfl rfl ?_ | refine z_aload_nN dX10_act_25 rfl rfl ?_
          refine zmg_55 rfl dX10_act_26 rfl ?_
          refine z_iload_n dX10_act_29 rfl rfl ?_
          refine zm_zald dX10_act_30 rfl rfl (vp_in_nI (by omega) (by decide)) ?_
          rw [nI_clamp (by omega), pat_none hR hpn hw]
          refine z_if_ne (tgt := 37) dX10_act_31 rfl (by decide) (fun c31 => absurd c31 (fun z => z rfl)) (fun c31 => ?_)
          refine z_bipush (v := -2) dX10_act_34 rfl (by decide) ?_
          exact z_iret dX10_act_36 rfl rfl (mPost_of hR (act_none c4 c8 c20 (by rw [hix]; exact hw))) (Nat.le_of_ble_eq_true rfl) (Nat.le_of_ble_eq_true rfl)
        · have hP := pat_some hR hpn hw
          have hl40 : L.length ≤ 40 := hP.2.2.1
          first | refine z_aload_n dX10_act_25 rfl rfl ?_ | refine z_aload_nN dX10_act_25 rfl rfl ?_
          refine zmg_55 rfl dX10_act_26 rfl ?_
          refine z_iload_n dX10_act_29 rfl rfl ?_
          refine zm_zald dX10_act_30 rfl rfl (vp_in_nI (by omega) (by decide)) ?_
          rw [nI_clamp (show pn < 2 ^ 31 by omega), hP.1]
          refine z_if_ne (tgt := 37) dX10_act_31 rfl (by decide) (fun c31 => ?_) (fun c31 => absurd c31 (by decide))
          refine z_iload_n dX10_act_37 rfl rfl ?_
          first | refine z_aload_n dX10_act_38 rfl rfl ?_ | refine z_aload_nN dX10_act_38 rfl rfl ?_
          refine zmg_58 rfl dX10_act_39 rfl ?_
          refine z_iload_n dX10_act_42 rfl rfl ?_
          refine zm_iald dX10_act_43 rfl rfl (vp_in_nI (by omega) (by decide)) ?_
          rw [nI_clamp (show pn < 2 ^ 31 by omega), hP.2.1]
          refine z_icmp_lt (tgt := 50) dX10_act_44 rfl (by decide) (fun c44 => ?_) (fun c44 => ?_)
          · skip
            have hkl : kn < L.length := Nat.lt_of_not_le (fun z => absurd c44 (nI_nlt z (by omega)))
            obtain ⟨t, hk⟩ : ∃ t, L[kn]? = some t := ⟨_, List.getElem?_eq_getElem hkl⟩
            obtain ⟨a1, a2, a3, a4, a5, a6, a7⟩ := hP.2.2.2 kn t hk
            have w1 : S.1 17 (nI (40 * pn + kn)).toNatClampNeg = t.1 := by rw [nI_clamp (by omega)]; exact a1
            refine z_bipush (v := 40) dX10_act_50 rfl (by decide) ?_
            refine z_iload_n dX10_act_52 rfl rfl ?_
            refine z_imul dX10_act_53 rfl ?_
            refine z_iload_n dX10_act_54 rfl rfl ?_
            refine z_iadd dX10_act_55 rfl ?_
            rw [n40]
            refine z_istore dX10_act_56 rfl (Nat.le_of_ble_eq_true rfl) ?_
            refine z_iload_n dX10_act_58 rfl rfl ?_
            refine z_if_ne (tgt := 70) dX10_act_59 rfl (by decide) (fun c59 => ?_) (fun c59 => ?_)
            · skip
              first | refine z_aload_n dX10_act_70 rfl rfl ?_ | refine z_aload_nN dX10_act_70 rfl rfl ?_
              refine zmg_61 rfl dX10_act_71 rfl ?_
              refine z_iload dX10_act_74 rfl rfl ?_
              refine zm_iald dX10_act_76 rfl rfl (vp_in_nI (by omega) (by decide)) ?_
              rw [w1]
              refine z_iload_n dX10_act_77 rfl rfl ?_
              refine z_iconst (v := 1) dX10_act_78 rfl (by decide) ?_
              refine z_icmp_ne (tgt := 86) dX10_act_79 rfl (by decide) (fun c79 => ?_) (fun c79 => ?_)
              · skip
                refine z_iconst (v := 2) dX10_act_86 rfl (by decide) ?_
                refine z_icmp_ne (tgt := 95) dX10_act_87 rfl (by decide) (fun c87 => ?_) (fun c87 => ?_)
                · skip
                  obtain ⟨x, hx⟩ : ∃ x, t.2.2 = some x := by
                    cases q : t.2.2 with
                    | none => exact absurd (a5.mp q) c87
                    | some x => exact ⟨x, rfl⟩
                  first | refine z_aload_n dX10_act_95 rfl rfl ?_ | refine z_aload_nN dX10_act_95 rfl rfl ?_
                  refine zmg_7 rfl dX10_act_96 rfl ?_
                  refine z_iload_n dX10_act_99 rfl rfl ?_
                  refine z_iconst (v := 1) dX10_act_100 rfl (by decide) ?_
                  refine z_icmp_ne (tgt := 110) dX10_act_101 rfl (by decide) (fun c101 => ?_) (fun c101 => absurd c101 c79)
                  refine z_sipush (v := 720) dX10_act_110 rfl (by decide) ?_
                  refine z_iload dX10_act_113 rfl rfl ?_
                  refine z_iadd dX10_act_115 rfl ?_
                  rw [n720]
                  refine zm_iald dX10_act_116 rfl rfl (vp_in_nI (by omega) (by decide)) ?_
                  first | rw [show S.1 1 (nI (720 + (40 * pn + kn))).toNatClampNeg = x.1 from by rw [nI_clamp (by omega)]; exact congrArg (fun c : sC => c.1) (a7 x hx).1] | skip
                  exact z_iret dX10_act_117 rfl rfl (by first | exact (mPost_of hR (act_some c4 c8 c20 (by rw [hix]; exact hw) (by rw [hkx]; exact hk) (by rw [actOf, if_neg c59, if_neg c79, hx]))) | exact (mPost_of hR (act_some c4 c8 c20 (by rw [hix]; exact hw) (by rw [hkx]; exact hk) (by rw [actOf, if_neg c59, if_neg c79, a5.mpr c87])))) (Nat.le_of_ble_eq_true rfl) (Nat.le_of_ble_eq_true rfl)
                · skip
                  refine z_bipush (v := -4) dX10_act_90 rfl (by decide) ?_
                  refine z_goto (tgt := 117) dX10_act_92 rfl (by decide) ?_
                  first | rw [show S.1 1 (nI (720 + (40 * pn + kn))).toNatClampNeg = x.1 from by rw [nI_clamp (by omega)]; exact congrArg (fun c : sC => c.1) (a7 x hx).1] | skip
                  exact z_iret dX10_act_117 rfl rfl (by first | exact (mPost_of hR (act_some c4 c8 c20 (by rw [hix]; exact hw) (by rw [hkx]; exact hk) (by rw [actOf, if_neg c59, if_neg c79, hx]))) | exact (mPost_of hR (act_some c4 c8 c20 (by rw [hix]; exact hw) (by rw [hkx]; exact hk) (by rw [actOf, if_neg c59, if_neg c79, a5.mpr c87])))) (Nat.le_of_ble_eq_true rfl) (Nat.le_of_ble_eq_true rfl)
              · skip
                refine z_iconst (v := 3) dX10_act_82 rfl (by decide) ?_
                refine z_goto (tgt := 87) dX10_act_83 rfl (by decide) ?_
                refine z_icmp_ne (tgt := 95) dX10_act_87 rfl (by decide) (fun c87 => ?_) (fun c87 => ?_)
                · skip
                  obtain ⟨x, hx⟩ : ∃ x, t.2.1 = some x := by
                    cases q : t.2.1 with
                    | none => exact absurd (a4.mp q) c87
                    | some x => exact ⟨x, rfl⟩
                  first | refine z_aload_n dX10_act_95 rfl rfl ?_ | refine z_aload_nN dX10_act_95 rfl rfl ?_
                  refine zmg_7 rfl dX10_act_96 rfl ?_
                  refine z_iload_n dX10_act_99 rfl rfl ?_
                  refine z_iconst (v := 1) dX10_act_100 rfl (by decide) ?_
                  refine z_icmp_ne (tgt := 110) dX10_act_101 rfl (by decide) (fun c101 => absurd c101 (fun z => z c79)) (fun c101 => ?_)
                  refine z_sipush (v := 560) dX10_act_104 rfl (by decide) ?_
                  refine z_goto (tgt := 113) dX10_act_107 rfl (by decide) ?_
                  refine z_iload dX10_act_113 rfl rfl ?_
                  refine z_iadd dX10_act_115 rfl ?_
                  rw [n560]
                  refine zm_iald dX10_act_116 rfl rfl (vp_in_nI (by omega) (by decide)) ?_
                  first | rw [show S.1 1 (nI (560 + (40 * pn + kn))).toNatClampNeg = x.1 from by rw [nI_clamp (by omega)]; exact congrArg (fun c : sC => c.1) (a6 x hx).1] | skip
                  exact z_iret dX10_act_117 rfl rfl (by first | exact (mPost_of hR (act_some c4 c8 c20 (by rw [hix]; exact hw) (by rw [hkx]; exact hk) (by rw [actOf, if_neg c59, if_pos c79, hx]))) | exact (mPost_of hR (act_some c4 c8 c20 (by rw [hix]; exact hw) (by rw [hkx]; exact hk) (by rw [actOf, if_neg c59, if_pos c79, a4.mpr c87])))) (Nat.le_of_ble_eq_true rfl) (Nat.le_of_ble_eq_true rfl)
                · skip
                  refine z_bipush (v := -4) dX10_act_90 rfl (by decide) ?_
                  refine z_goto (tgt := 117) dX10_act_92 rfl (by decide) ?_
                  first | rw [show S.1 1 (nI (560 + (40 * pn + kn))).toNatClampNeg = x.1 from by rw [nI_clamp (by omega)]; exact congrArg (fun c : sC => c.1) (a6 x hx).1] | skip
                  exact z_iret dX10_act_117 rfl rfl (by first | exact (mPost_of hR (act_some c4 c8 c20 (by rw [hix]; exact hw) (by rw [hkx]; exact hk) (by rw [actOf, if_neg c59, if_pos c79, hx]))) | exact (mPost_of hR (act_some c4 c8 c20 (by rw [hix]; exact hw) (by rw [hkx]; exact hk) (by rw [actOf, if_neg c59, if_pos c79, a4.mpr c87])))) (Nat.le_of_ble_eq_true rfl) (Nat.le_of_ble_eq_true rfl)
            · skip
              first | refine z_aload_n dX10_act_62 rfl rfl ?_ | refine z_aload_nN dX10_act_62 rfl rfl ?_
              refine zmg_61 rfl dX10_act_63 rfl ?_
              refine z_iload dX10_act_66 rfl rfl ?_
              refine zm_iald dX10_act_68 rfl rfl (vp_in_nI (by omega) (by decide)) ?_
              rw [w1]
              exact z_iret dX10_act_69 rfl rfl (mPost_of hR (act_some c4 c8 c20 (by rw [hix]; exact hw) (by rw [hkx]; exact hk) (by rw [actOf, if_pos c59]))) (Nat.le_of_ble_eq_true rfl) (Nat.le_of_ble_eq_true rfl)
          · skip
            refine z_bipush (v := -4) dX10_act_47 rfl (by decide) ?_
            exact z_iret dX10_act_49 rfl rfl (mPost_of hR (act_no c4 c8 c20 (by rw [hix]; exact hw) (by rw [hkx]; exact List.getElem?_eq_none (Nat.le_of_not_lt (fun z => c44 (nI_lt z (by omega))))))) (Nat.le_of_ble_eq_true rfl) (Nat.le_of_ble_eq_true rfl)
      · skip
        refine z_iconst (v := -1) dX10_act_23 rfl (by decide) ?_
        exact z_iret dX10_act_24 rfl rfl (mPost_of hR (by grind [pAct])) (Nat.le_of_ble_eq_true rfl) (Nat.le_of_ble_eq_true rfl)

