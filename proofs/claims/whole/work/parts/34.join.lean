/-- what a step lays into the merged array -/
def mrg (C : sCo) (mode : Int32) (t : sStep) : Option sC := if t.2.2.2.1 = 4 then none else if t.1 = 0 then some (sMake (C.1.2.getD (ix t.2.1) z0) (C.2.1.2.getD (ix t.2.2.1) z0) mode) else if t.1 = 1 then some (C.1.2.getD (ix t.2.1) z0) else some (C.2.1.2.getD (ix t.2.2.1) z0)
def sMrg (C : sCo) (mode : Int32) : List sC := C.2.2.2.filterMap (mrg C mode)
/-- nothing but the place where cells are made -/
def scr (S S' : sMS) : Prop := (∀ j, j ≠ 1 → S'.1 j = S.1 j) ∧ (∀ a, a < 520 ∨ 560 ≤ a → mc S' a = mc S a) ∧ S'.2.2.2 = S.2.2.2
theorem scr_r (S : sMS) : scr S S := ⟨fun _ _ => rfl, fun _ _ => rfl, rfl⟩
theorem scr_lay {S S' : sMS} (h : scr S S') {n : Nat} (hn : n < 40) (c : sC) : scr S (mLay S' (520 + n) c) := ⟨fun j hj => by rw [mLay_1 _ _ _ hj]; exact h.1 j hj, fun a ha => by rw [mc_lay, if_neg (by omega)]; exact h.2.1 a ha, h.2.2⟩
theorem scr_row {S S' : sMS} (h : scr S S') {k : Nat} (hk : k < 26) {A : sA} (hA : mRowIs S k A) : mRowIs S' k A := by
  have hl := hA.2.2.1.2.2.1
  exact ⟨by rw [h.1 4 (by decide)]; exact hA.1, by rw [h.1 5 (by decide)]; exact hA.2.1, hA.2.2.1, fun i hi => by rw [h.2.1 _ (by omega)]; exact hA.2.2.2 i hi⟩
theorem scr_co {S S' : sMS} (h : scr S S') {C : sCo} (hC : coIs S (some C)) : coIs S' (some C) := by
  obtain ⟨h10, hA, hB, h11, h12, hl, hst⟩ := hC
  refine ⟨by rw [h.2.2]; exact h10, scr_row h (by decide) hA, scr_row h (by decide) hB, by rw [h.2.2]; exact h11, by rw [h.2.2]; exact h12, hl, fun k t hk => ?_⟩
  have := hst k t hk
  unfold stepIs at this ⊢
  rw [h.1 9 (by decide), h.1 10 (by decide), h.1 11 (by decide), h.1 12 (by decide), h.1 13 (by decide), h.1 14 (by decide)]
  exact this
theorem RepM_scr {S S' : sMS} {w : sW} (hR : RepM S w) (h : scr S S') : RepM S' w := by
  refine ⟨⟨fun r hr => ?_, fun r s hr hs a b => by rw [h.1 6 (by decide)]; exact hR.1.2 r s hr hs a b⟩, RepX_agree (S := S) ⟨fun j hj => h.1 j (by omega), fun k _ _ => by rw [h.1 4 (by decide), h.1 5 (by decide)]; exact ⟨rfl, rfl⟩, fun a ha => h.2.1 a (by omega), by rw [h.2.2], by rw [h.2.2], by rw [h.2.2]⟩ hR.2.1, by rw [h.2.2]; exact hR.2.2.1, by rw [h.2.2]; exact hR.2.2.2⟩
  rw [h.1 6 (by decide)]
  rcases hR.1.1 r hr with z | z | ⟨z, j, hj, z2, z3⟩
  · exact Or.inl z
  · exact Or.inr (Or.inl z)
  · exact Or.inr (Or.inr ⟨z, j, hj, z2, scr_row h (by omega) z3⟩)
/-- the cells made so far -/
def made (S : sMS) (L : List sC) : Prop := ∀ i, i < L.length → mc S (520 + i) = L.getD i z0
theorem made_s {S : sMS} {L : List sC} (h : made S L) (c : sC) : made (mLay S (520 + L.length) c) (L ++ [c]) := by
  intro i hi
  rw [List.length_append, List.length_singleton] at hi
  rw [mc_lay, List.getD_eq_getElem?_getD]
  by_cases e : i = L.length
  · subst e
    rw [if_pos rfl, List.getElem?_append_right (Nat.le_refl _), Nat.sub_self]
    rfl
  · rw [if_neg (by omega), List.getElem?_append_left (by omega), ← List.getD_eq_getElem?_getD]
    exact h i (by omega)
theorem fm_some {L : List sStep} {k : Nat} {t : sStep} {f : sStep → Option sC} {c : sC} (hk : L[k]? = some t) (h : f t = some c) : (L.take (k + 1)).filterMap f = (L.take k).filterMap f ++ [c] := by
  rw [take_s' hk, List.filterMap_append, List.filterMap_cons, h]
  rfl
theorem fm_none {L : List sStep} {k : Nat} {t : sStep} {f : sStep → Option sC} (hk : L[k]? = some t) (h : f t = none) : (L.take (k + 1)).filterMap f = (L.take k).filterMap f := by
  rw [take_s' hk, List.filterMap_append, List.filterMap_cons, h]
  simp
theorem fm_le (L : List sStep) (f : sStep → Option sC) (k : Nat) : ((L.take k).filterMap f).length ≤ k := by
  have h1 := List.length_filterMap_le f (L.take k)
  have h2 : (L.take k).length ≤ k := by rw [List.length_take]; omega
  omega

abbrev YX10_join : zY := (yX10_join.cls, cX10_join, 6, (some .int), rmX10_join, yX10_join.name, fun _ _ => True)
set_option maxHeartbeats 1000000 in
set_option maxRecDepth 100000 in
theorem R_join_L (g : zG) (h : zH) (m : Nat) (S : sMS) (Q0 : Array Value → List Frame → State → State → Prop) (C : sCo) (hC : coIs S (some C)) (r mode : Int32) (kk : ∀ S1, scr S S1 → made S1 (sMrg C mode) → zZ g YX10_join Q0 190 [(3, .int (nI (sMrg C mode).length)), (4, .int (nI C.2.2.2.length)), (0, .ref m), (1, .int r), (2, .int mode)] [] (mUp m S1 h) 0 0) : ∀ (n : Nat) (S1 : sMS) (k : Nat), k + n = C.2.2.2.length → scr S S1 → made S1 ((C.2.2.2.take k).filterMap (mrg C mode)) → zZ g YX10_join Q0 53 [(3, .int (nI ((C.2.2.2.take k).filterMap (mrg C mode)).length)), (4, .int (nI k)), (0, .ref m), (1, .int r), (2, .int mode)] [] (mUp m S1 h) 0 0 := by
  intro n
  induction n with
  | zero =>
    intro S1 k hkn hs hm
    have hC1 := scr_co hs hC
    obtain ⟨h10, hA, hB, h11, h12, hl, hst⟩ := hC1
    refine z_iload dX10_join_53 rfl rfl ?_
    first | refine z_aload_n dX10_join_55 rfl rfl ?_ | refine z_aload_nN dX10_join_55 rfl rfl ?_
    refine zmg_233 rfl dX10_join_56 rfl ?_
    rw [h12]
    refine z_icmp_ge (tgt := 190) dX10_join_59 rfl (by decide) (fun c59 => ?_) (fun c59 => absurd c59 (fun z => z (nI_le (by omega) (by omega))))
    refine z_lv [(3, .int (nI ((C.2.2.2.take k).filterMap (mrg C mode)).length)), (4, .int (nI k)), (0, .ref m), (1, .int r), (2, .int mode)] ⟨rfl, rfl, rfl, rfl, rfl, trivial⟩ ?_
    rw [show C.2.2.2.take k = C.2.2.2 from by rw [show k = C.2.2.2.length by omega]; exact List.take_length, show k = C.2.2.2.length by omega]
    exact kk S1 hs (by rw [show C.2.2.2.take k = C.2.2.2 from by rw [show k = C.2.2.2.length by omega]; exact List.take_length] at hm; exact hm)
  | succ n ih =>
    intro S1 k hkn hs hm
    have hC1 := scr_co hs hC
    obtain ⟨h10, hA, hB, h11, h12, hl, hst⟩ := hC1
    have hfl := fm_le C.2.2.2 (mrg C mode) k
    obtain ⟨t, hk⟩ : ∃ t, C.2.2.2[k]? = some t := ⟨_, List.getElem?_eq_getElem (by omega)⟩
    obtain ⟨s1, s2, s3, s4⟩ := hst k t hk
    have w0 : S1.1 9 (nI k).toNatClampNeg = t.1 := by rw [nI_clamp (by omega)]; exact s1
    have w3 : S1.1 13 (nI k).toNatClampNeg = (if t.2.2.2.1 = 4 then 1 else 0) := by rw [nI_clamp (by omega)]; exact s3
    rcases s4 with ⟨h0, l1, l2, ⟨i, j, hi, hj, e1, e2, hal⟩, hn, hcl⟩ | ⟨h0, l1, l2, l3, ⟨i, hi, e1⟩, hcl⟩ | ⟨h0, l1, l2, l3, ⟨j, hj, e2⟩, hcl⟩
    · have n4 : ¬ t.2.2.2.1 = 4 := by grind
      have lA := hA.2.2.1.2.2.1
      have lB := hB.2.2.1.2.2.1
      have pa := row_at hA (by decide) hi
      have pb := row_at hB (by decide) hj
      have w1 : S1.1 10 (nI k).toNatClampNeg = nI i := by rw [nI_clamp (by omega), l1, e1]
      have w2 : S1.1 11 (nI k).toNatClampNeg = nI j := by rw [nI_clamp (by omega), l2, e2]
      have hmr : mrg C mode t = some (sMake (C.1.2.getD i z0) (C.2.1.2.getD j z0) mode) := by
        unfold mrg
        rw [if_neg n4, if_pos h0, e1, e2, show ix (nI i) = i from nI_clamp (by omega), show ix (nI j) = j from nI_clamp (by omega)]
      · skip
        refine z_iload dX10_join_53 rfl rfl ?_
        first | refine z_aload_n dX10_join_55 rfl rfl ?_ | refine z_aload_nN dX10_join_55 rfl rfl ?_
        refine zmg_233 rfl dX10_join_56 rfl ?_
        rw [h12]
        refine z_icmp_ge (tgt := 190) dX10_join_59 rfl (by decide) (fun c59 => absurd c59 (nI_ge (by omega) (by omega))) (fun c59 => ?_)
        refine z_sipush (v := 520) dX10_join_62 rfl (by decide) ?_
        refine z_iload_n dX10_join_65 rfl rfl ?_
        refine z_iadd dX10_join_66 rfl ?_
        rw [n520]
        refine z_istore dX10_join_67 rfl (Nat.le_of_ble_eq_true rfl) ?_
        first | refine z_aload_n dX10_join_69 rfl rfl ?_ | refine z_aload_nN dX10_join_69 rfl rfl ?_
        refine zmg_36 rfl dX10_join_70 rfl ?_
        refine z_iload dX10_join_73 rfl rfl ?_
        refine zm_iald dX10_join_75 rfl rfl (vp_in_nI (by omega) (by decide)) ?_
        rw [w0]
        refine z_if_ne (tgt := 111) dX10_join_76 rfl (by decide) (fun c76 => absurd c76 (fun z => z h0)) (fun c76 => ?_)
        first | refine z_aload_n dX10_join_79 rfl rfl ?_ | refine z_aload_nN dX10_join_79 rfl rfl ?_
        refine z_sipush (v := 480) dX10_join_80 rfl (by decide) ?_
        first | refine z_aload_n dX10_join_83 rfl rfl ?_ | refine z_aload_nN dX10_join_83 rfl rfl ?_
        refine zmg_39 rfl dX10_join_84 rfl ?_
        refine z_iload dX10_join_87 rfl rfl ?_
        refine zm_iald dX10_join_89 rfl rfl (vp_in_nI (by omega) (by decide)) ?_
        rw [w1]
        refine z_iadd dX10_join_90 rfl ?_
        refine z_sipush (v := 500) dX10_join_91 rfl (by decide) ?_
        first | refine z_aload_n dX10_join_94 rfl rfl ?_ | refine z_aload_nN dX10_join_94 rfl rfl ?_
        refine zmg_42 rfl dX10_join_95 rfl ?_
        refine z_iload dX10_join_98 rfl rfl ?_
        refine zm_iald dX10_join_100 rfl rfl (vp_in_nI (by omega) (by decide)) ?_
        rw [w2]
        refine z_iadd dX10_join_101 rfl ?_
        refine z_iload_n dX10_join_102 rfl rfl ?_
        refine z_iload dX10_join_103 rfl rfl ?_
        rw [n480, n500]
        refine zcv_X10_290 rfl dX10_join_105 rfl mo_recv (r_makesBeside g h m S1 _ _ mode _ pa.1 pb.1 (vp_in_nI (show 520 + ((C.2.2.2.take k).filterMap (mrg C mode)).length < 880 by omega) (by decide)) _ _ pa.2 pb.2) rfl rfl ⟨(Nat.le_of_ble_eq_true rfl), (Nat.le_of_ble_eq_true rfl)⟩ ⟨(Nat.le_of_ble_eq_true rfl), (Nat.le_of_ble_eq_true rfl)⟩ (Nat.le_of_ble_eq_true rfl) ?_
        refine z_goto (tgt := 163) dX10_join_108 rfl (by decide) ?_
        rw [nI_clamp (show 520 + ((C.2.2.2.take k).filterMap (mrg C mode)).length < 2 ^ 31 by omega)]
        refine z_iload_n dX10_join_163 rfl rfl ?_
        first | refine z_aload_n dX10_join_164 rfl rfl ?_ | refine z_aload_nN dX10_join_164 rfl rfl ?_
        refine zmg_48 rfl dX10_join_165 rfl ?_
        refine z_iload dX10_join_168 rfl rfl ?_
        refine zm_zald dX10_join_170 rfl rfl (vp_in_nI (by omega) (by decide)) ?_
        rw [mLay_1 _ _ _ (by decide), w3, if_neg n4]
        refine z_if_ne (tgt := 178) dX10_join_171 rfl (by decide) (fun c171 => absurd c171 (fun z => z rfl)) (fun c171 => ?_)
        refine z_iconst (v := 1) dX10_join_174 rfl (by decide) ?_
        refine z_goto (tgt := 179) dX10_join_175 rfl (by decide) ?_
        refine zcx_X10_200 rfl dX10_join_179 rfl (r_flag g _ True) rfl rfl ⟨(Nat.le_of_ble_eq_true rfl), (Nat.le_of_ble_eq_true rfl)⟩ ⟨(Nat.le_of_ble_eq_true rfl), (Nat.le_of_ble_eq_true rfl)⟩ (Nat.le_of_ble_eq_true rfl) ?_
        refine z_iadd dX10_join_182 rfl ?_
        rw [show nI ((C.2.2.2.take k).filterMap (mrg C mode)).length + (if True then (1 : Int32) else 0) = nI ((C.2.2.2.take (k + 1)).filterMap (mrg C mode)).length from by rw [fm_some hk hmr, List.length_append]; exact nI_1 _]
        refine z_istore_n dX10_join_183 rfl (Nat.le_of_ble_eq_true rfl) ?_
        refine z_iinc (v := nI (k + 1)) dX10_join_184 rfl rfl (nI_inc k) (Nat.le_of_ble_eq_true rfl) ?_
        refine z_goto (tgt := 53) dX10_join_187 rfl (by decide) ?_
        refine z_lv [(3, .int (nI ((C.2.2.2.take (k + 1)).filterMap (mrg C mode)).length)), (4, .int (nI (k + 1))), (0, .ref m), (1, .int r), (2, .int mode)] ⟨rfl, rfl, rfl, rfl, rfl, trivial⟩ ?_
        exact ih _ (k + 1) (by omega) (scr_lay hs (by omega) _) (by rw [fm_some hk hmr]; exact made_s hm _)
    · have n0 : ¬ t.1 = 0 := by rw [h0]; decide
      have lA := hA.2.2.1.2.2.1
      have pa := row_at hA (by decide) hi
      have w1 : S1.1 10 (nI k).toNatClampNeg = nI i := by rw [nI_clamp (by omega), l1, e1]
      by_cases h4 : t.2.2.2.1 = 4
      · have hmr : mrg C mode t = none := if_pos h4
        refine z_iload dX10_join_53 rfl rfl ?_
        first | refine z_aload_n dX10_join_55 rfl rfl ?_ | refine z_aload_nN dX10_join_55 rfl rfl ?_
        refine zmg_233 rfl dX10_join_56 rfl ?_
        rw [h12]
        refine z_icmp_ge (tgt := 190) dX10_join_59 rfl (by decide) (fun c59 => absurd c59 (nI_ge (by omega) (by omega))) (fun c59 => ?_)
        refine z_sipush (v := 520) dX10_join_62 rfl (by decide) ?_
        refine z_iload_n dX10_join_65 rfl rfl ?_
        refine z_iadd dX10_join_66 rfl ?_
        rw [n520]
        refine z_istore dX10_join_67 rfl (Nat.le_of_ble_eq_true rfl) ?_
        first | refine z_aload_n dX10_join_69 rfl rfl ?_ | refine z_aload_nN dX10_join_69 rfl rfl ?_
        refine zmg_36 rfl dX10_join_70 rfl ?_
        refine z_iload dX10_join_73 rfl rfl ?_
        refine zm_iald dX10_join_75 rfl rfl (vp_in_nI (by omega) (by decide)) ?_
        rw [w0]
        refine z_if_ne (tgt := 111) dX10_join_76 rfl (by decide) (fun c76 => ?_) (fun c76 => absurd c76 (fun z => absurd z n0))
        first | refine z_aload_n dX10_join_111 rfl rfl ?_ | refine z_aload_nN dX10_join_111 rfl rfl ?_
        refine zmg_48 rfl dX10_join_112 rfl ?_
        refine z_iload dX10_join_115 rfl rfl ?_
        refine zm_zald dX10_join_117 rfl rfl (vp_in_nI (by omega) (by decide)) ?_
        rw [w3, if_pos h4]
        refine z_if_ne (tgt := 163) dX10_join_118 rfl (by decide) (fun c118 => ?_) (fun c118 => absurd c118 (by decide))
        refine z_iload_n dX10_join_163 rfl rfl ?_
        first | refine z_aload_n dX10_join_164 rfl rfl ?_ | refine z_aload_nN dX10_join_164 rfl rfl ?_
        refine zmg_48 rfl dX10_join_165 rfl ?_
        refine z_iload dX10_join_168 rfl rfl ?_
        refine zm_zald dX10_join_170 rfl rfl (vp_in_nI (by omega) (by decide)) ?_
        rw [w3, if_pos h4]
        refine z_if_ne (tgt := 178) dX10_join_171 rfl (by decide) (fun c171 => ?_) (fun c171 => absurd c171 (by decide))
        refine z_iconst (v := 0) dX10_join_178 rfl (by decide) ?_
        refine zcx_X10_200 rfl dX10_join_179 rfl (r_flag g _ False) rfl rfl ⟨(Nat.le_of_ble_eq_true rfl), (Nat.le_of_ble_eq_true rfl)⟩ ⟨(Nat.le_of_ble_eq_true rfl), (Nat.le_of_ble_eq_true rfl)⟩ (Nat.le_of_ble_eq_true rfl) ?_
        refine z_iadd dX10_join_182 rfl ?_
        rw [show nI ((C.2.2.2.take k).filterMap (mrg C mode)).length + (if False then (1 : Int32) else 0) = nI ((C.2.2.2.take (k + 1)).filterMap (mrg C mode)).length from by rw [fm_none hk hmr, if_neg not_false, Int32.add_zero]]
        refine z_istore_n dX10_join_183 rfl (Nat.le_of_ble_eq_true rfl) ?_
        refine z_iinc (v := nI (k + 1)) dX10_join_184 rfl rfl (nI_inc k) (Nat.le_of_ble_eq_true rfl) ?_
        refine z_goto (tgt := 53) dX10_join_187 rfl (by decide) ?_
        refine z_lv [(3, .int (nI ((C.2.2.2.take (k + 1)).filterMap (mrg C mode)).length)), (4, .int (nI (k + 1))), (0, .ref m), (1, .int r), (2, .int mode)] ⟨rfl, rfl, rfl, rfl, rfl, trivial⟩ ?_
        exact ih _ (k + 1) (by omega) hs (by rw [fm_none hk hmr]; exact hm)
      · have n4 := h4
        have hmr : mrg C mode t = some (C.1.2.getD i z0) := by
          unfold mrg
          rw [if_neg n4, if_neg n0, if_pos h0, e1, show ix (nI i) = i from nI_clamp (by omega)]
        refine z_iload dX10_join_53 rfl rfl ?_
        first | refine z_aload_n dX10_join_55 rfl rfl ?_ | refine z_aload_nN dX10_join_55 rfl rfl ?_
        refine zmg_233 rfl dX10_join_56 rfl ?_
        rw [h12]
        refine z_icmp_ge (tgt := 190) dX10_join_59 rfl (by decide) (fun c59 => absurd c59 (nI_ge (by omega) (by omega))) (fun c59 => ?_)
        refine z_sipush (v := 520) dX10_join_62 rfl (by decide) ?_
        refine z_iload_n dX10_join_65 rfl rfl ?_
        refine z_iadd dX10_join_66 rfl ?_
        rw [n520]
        refine z_istore dX10_join_67 rfl (Nat.le_of_ble_eq_true rfl) ?_
        first | refine z_aload_n dX10_join_69 rfl rfl ?_ | refine z_aload_nN dX10_join_69 rfl rfl ?_
        refine zmg_36 rfl dX10_join_70 rfl ?_
        refine z_iload dX10_join_73 rfl rfl ?_
        refine zm_iald dX10_join_75 rfl rfl (vp_in_nI (by omega) (by decide)) ?_
        rw [w0]
        refine z_if_ne (tgt := 111) dX10_join_76 rfl (by decide) (fun c76 => ?_) (fun c76 => absurd c76 (fun z => absurd z n0))
        first | refine z_aload_n dX10_join_111 rfl rfl ?_ | refine z_aload_nN dX10_join_111 rfl rfl ?_
        refine zmg_48 rfl dX10_join_112 rfl ?_
        refine z_iload dX10_join_115 rfl rfl ?_
        refine zm_zald dX10_join_117 rfl rfl (vp_in_nI (by omega) (by decide)) ?_
        rw [w3, if_neg n4]
        refine z_if_ne (tgt := 163) dX10_join_118 rfl (by decide) (fun c118 => absurd c118 (fun z => z rfl)) (fun c118 => ?_)
        first | refine z_aload_n dX10_join_121 rfl rfl ?_ | refine z_aload_nN dX10_join_121 rfl rfl ?_
        first | refine z_aload_n dX10_join_122 rfl rfl ?_ | refine z_aload_nN dX10_join_122 rfl rfl ?_
        refine zmg_36 rfl dX10_join_123 rfl ?_
        refine z_iload dX10_join_126 rfl rfl ?_
        refine zm_iald dX10_join_128 rfl rfl (vp_in_nI (by omega) (by decide)) ?_
        rw [w0]
        refine z_iconst (v := 1) dX10_join_129 rfl (by decide) ?_
        refine z_icmp_ne (tgt := 147) dX10_join_130 rfl (by decide) (fun c130 => absurd c130 (fun z => z h0)) (fun c130 => ?_)
        refine z_sipush (v := 480) dX10_join_133 rfl (by decide) ?_
        first | refine z_aload_n dX10_join_136 rfl rfl ?_ | refine z_aload_nN dX10_join_136 rfl rfl ?_
        refine zmg_39 rfl dX10_join_137 rfl ?_
        refine z_iload dX10_join_140 rfl rfl ?_
        refine zm_iald dX10_join_142 rfl rfl (vp_in_nI (by omega) (by decide)) ?_
        rw [w1]
        refine z_iadd dX10_join_143 rfl ?_
        refine z_goto (tgt := 158) dX10_join_144 rfl (by decide) ?_
        rw [n480]
        refine z_iload dX10_join_158 rfl rfl ?_
        refine zcv_X10_229 rfl dX10_join_160 rfl mo_recv (r_copiesCell g h m S1 _ _ pa.1 (vp_in_nI (show 520 + ((C.2.2.2.take k).filterMap (mrg C mode)).length < 880 by omega) (by decide))) rfl rfl ⟨(Nat.le_of_ble_eq_true rfl), (Nat.le_of_ble_eq_true rfl)⟩ ⟨(Nat.le_of_ble_eq_true rfl), (Nat.le_of_ble_eq_true rfl)⟩ (Nat.le_of_ble_eq_true rfl) ?_
        rw [nI_clamp (show 520 + ((C.2.2.2.take k).filterMap (mrg C mode)).length < 2 ^ 31 by omega), pa.2.1]
        refine z_iload_n dX10_join_163 rfl rfl ?_
        first | refine z_aload_n dX10_join_164 rfl rfl ?_ | refine z_aload_nN dX10_join_164 rfl rfl ?_
        refine zmg_48 rfl dX10_join_165 rfl ?_
        refine z_iload dX10_join_168 rfl rfl ?_
        refine zm_zald dX10_join_170 rfl rfl (vp_in_nI (by omega) (by decide)) ?_
        rw [mLay_1 _ _ _ (by decide), w3, if_neg n4]
        refine z_if_ne (tgt := 178) dX10_join_171 rfl (by decide) (fun c171 => absurd c171 (fun z => z rfl)) (fun c171 => ?_)
        refine z_iconst (v := 1) dX10_join_174 rfl (by decide) ?_
        refine z_goto (tgt := 179) dX10_join_175 rfl (by decide) ?_
        refine zcx_X10_200 rfl dX10_join_179 rfl (r_flag g _ True) rfl rfl ⟨(Nat.le_of_ble_eq_true rfl), (Nat.le_of_ble_eq_true rfl)⟩ ⟨(Nat.le_of_ble_eq_true rfl), (Nat.le_of_ble_eq_true rfl)⟩ (Nat.le_of_ble_eq_true rfl) ?_
        refine z_iadd dX10_join_182 rfl ?_
        rw [show nI ((C.2.2.2.take k).filterMap (mrg C mode)).length + (if True then (1 : Int32) else 0) = nI ((C.2.2.2.take (k + 1)).filterMap (mrg C mode)).length from by rw [fm_some hk hmr, List.length_append]; exact nI_1 _]
        refine z_istore_n dX10_join_183 rfl (Nat.le_of_ble_eq_true rfl) ?_
        refine z_iinc (v := nI (k + 1)) dX10_join_184 rfl rfl (nI_inc k) (Nat.le_of_ble_eq_true rfl) ?_
        refine z_goto (tgt := 53) dX10_join_187 rfl (by decide) ?_
        refine z_lv [(3, .int (nI ((C.2.2.2.take (k + 1)).filterMap (mrg C mode)).length)), (4, .int (nI (k + 1))), (0, .ref m), (1, .int r), (2, .int mode)] ⟨rfl, rfl, rfl, rfl, rfl, trivial⟩ ?_
        exact ih _ (k + 1) (by omega) (scr_lay hs (by omega) _) (by rw [fm_some hk hmr]; exact made_s hm _)
    · have n0 : ¬ t.1 = 0 := by rw [h0]; decide
      have n1 : ¬ t.1 = 1 := by rw [h0]; decide
      have lB := hB.2.2.1.2.2.1
      have pb := row_at hB (by decide) hj
      have w2 : S1.1 11 (nI k).toNatClampNeg = nI j := by rw [nI_clamp (by omega), l2, e2]
      by_cases h4 : t.2.2.2.1 = 4
      · have hmr : mrg C mode t = none := if_pos h4
        refine z_iload dX10_join_53 rfl rfl ?_
        first | refine z_aload_n dX10_join_55 rfl rfl ?_ | refine z_aload_nN dX10_join_55 rfl rfl ?_
        refine zmg_233 rfl dX10_join_56 rfl ?_
        rw [h12]
        refine z_icmp_ge (tgt := 190) dX10_join_59 rfl (by decide) (fun c59 => absurd c59 (nI_ge (by omega) (by omega))) (fun c59 => ?_)
        refine z_sipush (v := 520) dX10_join_62 rfl (by decide) ?_
        refine z_iload_n dX10_join_65 rfl rfl ?_
        refine z_iadd dX10_join_66 rfl ?_
        rw [n520]
        refine z_istore dX10_join_67 rfl (Nat.le_of_ble_eq_true rfl) ?_
        first | refine z_aload_n dX10_join_69 rfl rfl ?_ | refine z_aload_nN dX10_join_69 rfl rfl ?_
        refine zmg_36 rfl dX10_join_70 rfl ?_
        refine z_iload dX10_join_73 rfl rfl ?_
        refine zm_iald dX10_join_75 rfl rfl (vp_in_nI (by omega) (by decide)) ?_
        rw [w0]
        refine z_if_ne (tgt := 111) dX10_join_76 rfl (by decide) (fun c76 => ?_) (fun c76 => absurd c76 (fun z => absurd z n0))
        first | refine z_aload_n dX10_join_111 rfl rfl ?_ | refine z_aload_nN dX10_join_111 rfl rfl ?_
        refine zmg_48 rfl dX10_join_112 rfl ?_
        refine z_iload dX10_join_115 rfl rfl ?_
        refine zm_zald dX10_join_117 rfl rfl (vp_in_nI (by omega) (by decide)) ?_
        rw [w3, if_pos h4]
        refine z_if_ne (tgt := 163) dX10_join_118 rfl (by decide) (fun c118 => ?_) (fun c118 => absurd c118 (by decide))
        refine z_iload_n dX10_join_163 rfl rfl ?_
        first | refine z_aload_n dX10_join_164 rfl rfl ?_ | refine z_aload_nN dX10_join_164 rfl rfl ?_
        refine zmg_48 rfl dX10_join_165 rfl ?_
        refine z_iload dX10_join_168 rfl rfl ?_
        refine zm_zald dX10_join_170 rfl rfl (vp_in_nI (by omega) (by decide)) ?_
        rw [w3, if_pos h4]
        refine z_if_ne (tgt := 178) dX10_join_171 rfl (by decide) (fun c171 => ?_) (fun c171 => absurd c171 (by decide))
        refine z_iconst (v := 0) dX10_join_178 rfl (by decide) ?_
        refine zcx_X10_200 rfl dX10_join_179 rfl (r_flag g _ False) rfl rfl ⟨(Nat.le_of_ble_eq_true rfl), (Nat.le_of_ble_eq_true rfl)⟩ ⟨(Nat.le_of_ble_eq_true rfl), (Nat.le_of_ble_eq_true rfl)⟩ (Nat.le_of_ble_eq_true rfl) ?_
        refine z_iadd dX10_join_182 rfl ?_
        rw [show nI ((C.2.2.2.take k).filterMap (mrg C mode)).length + (if False then (1 : Int32) else 0) = nI ((C.2.2.2.take (k + 1)).filterMap (mrg C mode)).length from by rw [fm_none hk hmr, if_neg not_false, Int32.add_zero]]
        refine z_istore_n dX10_join_183 rfl (Nat.le_of_ble_eq_true rfl) ?_
        refine z_iinc (v := nI (k + 1)) dX10_join_184 rfl rfl (nI_inc k) (Nat.le_of_ble_eq_true rfl) ?_
        refine z_goto (tgt := 53) dX10_join_187 rfl (by decide) ?_
        refine z_lv [(3, .int (nI ((C.2.2.2.take (k + 1)).filterMap (mrg C mode)).length)), (4, .int (nI (k + 1))), (0, .ref m), (1, .int r), (2, .int mode)] ⟨rfl, rfl, rfl, rfl, rfl, trivial⟩ ?_
        exact ih _ (k + 1) (by omega) hs (by rw [fm_none hk hmr]; exact hm)
      · have n4 := h4
        have hmr : mrg C mode t = some (C.2.1.2.getD j z0) := by
          unfold mrg
          rw [if_neg n4, if_neg n0, if_neg n1, e2, show ix (nI j) = j from nI_clamp (by omega)]
        refine z_iload dX10_join_53 rfl rfl ?_
        first | refine z_aload_n dX10_join_55 rfl rfl ?_ | refine z_aload_nN dX10_join_55 rfl rfl ?_
        refine zmg_233 rfl dX10_join_56 rfl ?_
        rw [h12]
        refine z_icmp_ge (tgt := 190) dX10_join_59 rfl (by decide) (fun c59 => absurd c59 (nI_ge (by omega) (by omega))) (fun c59 => ?_)
        refine z_sipush (v := 520) dX10_join_62 rfl (by decide) ?_
        refine z_iload_n dX10_join_65 rfl rfl ?_
        refine z_iadd dX10_join_66 rfl ?_
        rw [n520]
        refine z_istore dX10_join_67 rfl (Nat.le_of_ble_eq_true rfl) ?_
        first | refine z_aload_n dX10_join_69 rfl rfl ?_ | refine z_aload_nN dX10_join_69 rfl rfl ?_
        refine zmg_36 rfl dX10_join_70 rfl ?_
        refine z_iload dX10_join_73 rfl rfl ?_
        refine zm_iald dX10_join_75 rfl rfl (vp_in_nI (by omega) (by decide)) ?_
        rw [w0]
        refine z_if_ne (tgt := 111) dX10_join_76 rfl (by decide) (fun c76 => ?_) (fun c76 => absurd c76 (fun z => absurd z n0))
        first | refine z_aload_n dX10_join_111 rfl rfl ?_ | refine z_aload_nN dX10_join_111 rfl rfl ?_
        refine zmg_48 rfl dX10_join_112 rfl ?_
        refine z_iload dX10_join_115 rfl rfl ?_
        refine zm_zald dX10_join_117 rfl rfl (vp_in_nI (by omega) (by decide)) ?_
        rw [w3, if_neg n4]
        refine z_if_ne (tgt := 163) dX10_join_118 rfl (by decide) (fun c118 => absurd c118 (fun z => z rfl)) (fun c118 => ?_)
        first | refine z_aload_n dX10_join_121 rfl rfl ?_ | refine z_aload_nN dX10_join_121 rfl rfl ?_
        first | refine z_aload_n dX10_join_122 rfl rfl ?_ | refine z_aload_nN dX10_join_122 rfl rfl ?_
        refine zmg_36 rfl dX10_join_123 rfl ?_
        refine z_iload dX10_join_126 rfl rfl ?_
        refine zm_iald dX10_join_128 rfl rfl (vp_in_nI (by omega) (by decide)) ?_
        rw [w0]
        refine z_iconst (v := 1) dX10_join_129 rfl (by decide) ?_
        refine z_icmp_ne (tgt := 147) dX10_join_130 rfl (by decide) (fun c130 => ?_) (fun c130 => absurd c130 (fun z => absurd z n1))
        refine z_sipush (v := 500) dX10_join_147 rfl (by decide) ?_
        first | refine z_aload_n dX10_join_150 rfl rfl ?_ | refine z_aload_nN dX10_join_150 rfl rfl ?_
        refine zmg_42 rfl dX10_join_151 rfl ?_
        refine z_iload dX10_join_154 rfl rfl ?_
        refine zm_iald dX10_join_156 rfl rfl (vp_in_nI (by omega) (by decide)) ?_
        rw [w2]
        refine z_iadd dX10_join_157 rfl ?_
        rw [n500]
        refine z_iload dX10_join_158 rfl rfl ?_
        refine zcv_X10_229 rfl dX10_join_160 rfl mo_recv (r_copiesCell g h m S1 _ _ pb.1 (vp_in_nI (show 520 + ((C.2.2.2.take k).filterMap (mrg C mode)).length < 880 by omega) (by decide))) rfl rfl ⟨(Nat.le_of_ble_eq_true rfl), (Nat.le_of_ble_eq_true rfl)⟩ ⟨(Nat.le_of_ble_eq_true rfl), (Nat.le_of_ble_eq_true rfl)⟩ (Nat.le_of_ble_eq_true rfl) ?_
        rw [nI_clamp (show 520 + ((C.2.2.2.take k).filterMap (mrg C mode)).length < 2 ^ 31 by omega), pb.2.1]
        refine z_iload_n dX10_join_163 rfl rfl ?_
        first | refine z_aload_n dX10_join_164 rfl rfl ?_ | refine z_aload_nN dX10_join_164 rfl rfl ?_
        refine zmg_48 rfl dX10_join_165 rfl ?_
        refine z_iload dX10_join_168 rfl rfl ?_
        refine zm_zald dX10_join_170 rfl rfl (vp_in_nI (by omega) (by decide)) ?_
        rw [mLay_1 _ _ _ (by decide), w3, if_neg n4]
        refine z_if_ne (tgt := 178) dX10_join_171 rfl (by decide) (fun c171 => absurd c171 (fun z => z rfl)) (fun c171 => ?_)
        refine z_iconst (v := 1) dX10_join_174 rfl (by decide) ?_
        refine z_goto (tgt := 179) dX10_join_175 rfl (by decide) ?_
        refine zcx_X10_200 rfl dX10_join_179 rfl (r_flag g _ True) rfl rfl ⟨(Nat.le_of_ble_eq_true rfl), (Nat.le_of_ble_eq_true rfl)⟩ ⟨(Nat.le_of_ble_eq_true rfl), (Nat.le_of_ble_eq_true rfl)⟩ (Nat.le_of_ble_eq_true rfl) ?_
        refine z_iadd dX10_join_182 rfl ?_
        rw [show nI ((C.2.2.2.take k).filterMap (mrg C mode)).length + (if True then (1 : Int32) else 0) = nI ((C.2.2.2.take (k + 1)).filterMap (mrg C mode)).length from by rw [fm_some hk hmr, List.length_append]; exact nI_1 _]
        refine z_istore_n dX10_join_183 rfl (Nat.le_of_ble_eq_true rfl) ?_
        refine z_iinc (v := nI (k + 1)) dX10_join_184 rfl rfl (nI_inc k) (Nat.le_of_ble_eq_true rfl) ?_
        refine z_goto (tgt := 53) dX10_join_187 rfl (by decide) ?_
        refine z_lv [(3, .int (nI ((C.2.2.2.take (k + 1)).filterMap (mrg C mode)).length)), (4, .int (nI (k + 1))), (0, .ref m), (1, .int r), (2, .int mode)] ⟨rfl, rfl, rfl, rfl, rfl, trivial⟩ ?_
        exact ih _ (k + 1) (by omega) (scr_lay hs (by omega) _) (by rw [fm_some hk hmr]; exact made_s hm _)

