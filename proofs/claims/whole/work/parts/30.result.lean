/-- the kind of the merged array -/
def sJoinK (a b : Int32) : Int32 := if sNum a ∧ sNum b ∧ sJoin a b ≠ -4 then sJoin a b else if a = b ∧ 7 < a then a else 9
def isT (x : Int32) (t : sStep) : Bool := decide (t.1 = x)
def isB (x : Int32) (t : sStep) : Bool := decide (t.1 = 0 ∧ t.2.2.2.1 = x)
def isD (t : sStep) : Bool := decide (t.2.2.2.1 = 4)
def resOf (C : sCo) (what : Int32) : Int32 :=
  if what = 0 then C.2.2.1 else if what = 1 then nI C.2.2.2.length
  else if what ≤ 4 then nI (C.2.2.2.countP (isB (what - 2)))
  else if what ≤ 6 then nI (C.2.2.2.countP (isT (what - 4)))
  else if what = 7 then nI (C.2.2.2.countP isD)
  else if what = 8 then sJoinK C.1.1 C.2.1.1
  else nI C.2.2.2.length - nI (C.2.2.2.countP isD)
/-- 18 -/
def pResult (w : sW) (what : Int32) : Int32 × sW :=
  (if ¬ (0 ≤ what ∧ what ≤ 9) then -1 else match w.2.2.2.2.2.1 with
  | none => -2
  | some C => resOf C what, w)
def stepOf (t : sStep) (what : Int32) : Int32 := if what = 0 then t.1 else if what = 1 then t.2.1 else if what = 2 then t.2.2.1 else t.2.2.2.2
/-- 19 -/
def pStep (w : sW) (k what : Int32) : Int32 × sW :=
  (if k < 0 ∨ ¬ (0 ≤ what ∧ what ≤ 3) then -1 else match w.2.2.2.2.2.1 with
  | none => -2
  | some C => match C.2.2.2[ix k]? with
    | none => -4
    | some t => stepOf t what, w)
theorem take_s' {L : List sStep} {k : Nat} {t : sStep} (hk : L[k]? = some t) : L.take (k + 1) = L.take k ++ [t] := by rw [List.take_succ, hk]; rfl
theorem cnt_T {L : List sStep} {k : Nat} {t : sStep} {P : sStep → Bool} (hk : L[k]? = some t) (h : P t = true) : nI ((L.take k).countP P) + (if True then (1 : Int32) else 0) = nI ((L.take (k + 1)).countP P) := by
  rw [take_s' hk, List.countP_append, List.countP_singleton, h, if_pos rfl, if_pos trivial]
  exact nI_1 _
theorem cnt_F {L : List sStep} {k : Nat} {t : sStep} {P : sStep → Bool} (hk : L[k]? = some t) (h : P t = false) : nI ((L.take k).countP P) + (if False then (1 : Int32) else 0) = nI ((L.take (k + 1)).countP P) := by
  rw [take_s' hk, List.countP_append, List.countP_singleton, h, if_neg Bool.false_ne_true, if_neg not_false, Nat.add_zero, Int32.add_zero]
theorem cnt_D {L : List sStep} {k : Nat} {t : sStep} (hk : L[k]? = some t) : nI ((L.take k).countP isD) + (if t.2.2.2.1 = 4 then (1 : Int32) else 0) = nI ((L.take (k + 1)).countP isD) := by
  by_cases c : t.2.2.2.1 = 4
  · have := cnt_T hk (P := isD) (decide_eq_true c)
    rw [if_pos trivial] at this
    rw [if_pos c, this]
  · have := cnt_F hk (P := isD) (decide_eq_false c)
    rw [if_neg not_false] at this
    rw [if_neg c, this]

set_option maxHeartbeats 4000000 in
set_option maxRecDepth 100000 in
/-- X10_stepLikeness -/
theorem q_stepLikeness (g : zG) (h : zH) (m : Nat) (S : sMS) (C : sCo) (hC : coIs S (some C)) (k : Nat) (t : sStep) (hk : C.2.2.2[k]? = some t) (h0 : t.1 = 0) : zX g yX10_stepLikeness cX10_stepLikeness 2 (some .int) rmX10_stepLikeness [.ref m, .int (nI k)] (mUp m S h) (.int t.2.2.2.1) (mUp m S h) := by
  refine zM_of (by decide) (Nat.le_of_ble_eq_true rfl) ?_
  obtain ⟨h10, hA, hB, h11, h12, hl, hst⟩ := hC
  have hkl := (List.getElem?_eq_some_iff.mp hk).1
  obtain ⟨s1, s2, s3, s4⟩ := hst k t hk
  rcases s4 with ⟨-, l1, l2, ⟨i, j, hi, hj, e1, e2, hal⟩, hn, hcl⟩ | ⟨z, -⟩ | ⟨z, -⟩
  rotate_left
  · exact absurd (h0.symm.trans z) (by decide)
  · exact absurd (h0.symm.trans z) (by decide)
  have pa := row_at hA (by decide) hi
  have pb := row_at hB (by decide) hj
  have w1 : S.1 10 (nI k).toNatClampNeg = nI i := by rw [nI_clamp (by omega), l1, e1]
  have w2 : S.1 11 (nI k).toNatClampNeg = nI j := by rw [nI_clamp (by omega), l2, e2]
  have w3 : S.1 14 (nI k).toNatClampNeg = (if t.2.2.2.1 = 1 then 1 else 0) := by rw [nI_clamp (by omega), hn]
  first | refine z_aload_n dX10_stepLikeness_0 rfl rfl ?_ | refine z_aload_nN dX10_stepLikeness_0 rfl rfl ?_
  refine z_sipush (v := 480) dX10_stepLikeness_1 rfl (by decide) ?_
  first | refine z_aload_n dX10_stepLikeness_4 rfl rfl ?_ | refine z_aload_nN dX10_stepLikeness_4 rfl rfl ?_
  refine zmg_39 rfl dX10_stepLikeness_5 rfl ?_
  refine z_iload_n dX10_stepLikeness_8 rfl rfl ?_
  refine zm_iald dX10_stepLikeness_9 rfl rfl (vp_in_nI (by omega) (by decide)) ?_
  rw [w1]
  refine z_iadd dX10_stepLikeness_10 rfl ?_
  refine z_sipush (v := 500) dX10_stepLikeness_11 rfl (by decide) ?_
  first | refine z_aload_n dX10_stepLikeness_14 rfl rfl ?_ | refine z_aload_nN dX10_stepLikeness_14 rfl rfl ?_
  refine zmg_42 rfl dX10_stepLikeness_15 rfl ?_
  refine z_iload_n dX10_stepLikeness_18 rfl rfl ?_
  refine zm_iald dX10_stepLikeness_19 rfl rfl (vp_in_nI (by omega) (by decide)) ?_
  rw [w2]
  refine z_iadd dX10_stepLikeness_20 rfl ?_
  rw [n480, n500]
  refine zcx_X10_112 rfl dX10_stepLikeness_21 rfl mo_recv (r_areAlike g h m S _ _ pa.1 pb.1 (by rw [pa.2.1]; exact pa.2.2) (by rw [pb.2.1]; exact pb.2.2)) rfl rfl ⟨(Nat.le_of_ble_eq_true rfl), (Nat.le_of_ble_eq_true rfl)⟩ ⟨(Nat.le_of_ble_eq_true rfl), (Nat.le_of_ble_eq_true rfl)⟩ (Nat.le_of_ble_eq_true rfl) ?_
  rw [pa.2.1, pb.2.1]
  refine z_bif_eq (tgt := 31) dX10_stepLikeness_24 rfl (by decide) (fun c24 => ?_) (fun c24 => ?_)
  · skip
    first | refine z_aload_n dX10_stepLikeness_31 rfl rfl ?_ | refine z_aload_nN dX10_stepLikeness_31 rfl rfl ?_
    refine zmg_52 rfl dX10_stepLikeness_32 rfl ?_
    refine z_iload_n dX10_stepLikeness_35 rfl rfl ?_
    refine zm_zald dX10_stepLikeness_36 rfl rfl (vp_in_nI (by omega) (by decide)) ?_
    rw [w3]
    refine z_if_eq (tgt := 44) dX10_stepLikeness_37 rfl (by decide) (fun c37 => ?_) (fun c37 => ?_)
    · skip
      refine z_iconst (v := 2) dX10_stepLikeness_44 rfl (by decide) ?_
      exact z_iret dX10_stepLikeness_45 rfl rfl ⟨by congr 2; grind, rfl⟩ (Nat.le_of_ble_eq_true rfl) (Nat.le_of_ble_eq_true rfl)
    · skip
      refine z_iconst (v := 1) dX10_stepLikeness_40 rfl (by decide) ?_
      refine z_goto (tgt := 45) dX10_stepLikeness_41 rfl (by decide) ?_
      exact z_iret dX10_stepLikeness_45 rfl rfl ⟨by congr 2; grind, rfl⟩ (Nat.le_of_ble_eq_true rfl) (Nat.le_of_ble_eq_true rfl)
  · skip
    refine z_iconst (v := 0) dX10_stepLikeness_27 rfl (by decide) ?_
    refine z_goto (tgt := 45) dX10_stepLikeness_28 rfl (by decide) ?_
    exact z_iret dX10_stepLikeness_45 rfl rfl ⟨by congr 2; grind, rfl⟩ (Nat.le_of_ble_eq_true rfl) (Nat.le_of_ble_eq_true rfl)

abbrev YX10_withWhich : zY := (yX10_withWhich.cls, cX10_withWhich, 4, (some .int), rmX10_withWhich, yX10_withWhich.name, fun _ _ => True)
set_option maxHeartbeats 4000000 in
set_option maxRecDepth 100000 in
theorem q_withWhich_L (g : zG) (h : zH) (m : Nat) (S : sMS) (C : sCo) (hC : coIs S (some C)) (x : Int32) : ∀ (n k : Nat), k + n = C.2.2.2.length → zZ g YX10_withWhich (zE g (fun v h1 => v = some (.int (nI (C.2.2.2.countP (isT x)))) ∧ h1 = mUp m S h) 0 0) 4 [(2, .int (nI ((C.2.2.2.take k).countP (isT x)))), (3, .int (nI k)), (0, .ref m), (1, .int x)] [] (mUp m S h) 0 0 := by
  have hC0 := hC
  obtain ⟨h10, hA, hB, h11, h12, hl, hst⟩ := hC
  intro n
  induction n with
  | zero =>
    intro k hkn
    refine z_iload_n dX10_withWhich_4 rfl rfl ?_
    first | refine z_aload_n dX10_withWhich_5 rfl rfl ?_ | refine z_aload_nN dX10_withWhich_5 rfl rfl ?_
    refine zmg_233 rfl dX10_withWhich_6 rfl ?_
    rw [h12]
    refine z_icmp_ge (tgt := 39) dX10_withWhich_9 rfl (by decide) (fun c9 => ?_) (fun c9 => absurd c9 (fun z => z (nI_le (by omega) (by omega))))
    refine z_iload_n dX10_withWhich_39 rfl rfl ?_
    exact z_iret dX10_withWhich_40 rfl rfl ⟨by rw [show C.2.2.2.take k = C.2.2.2 from by rw [show k = C.2.2.2.length by omega]; exact List.take_length], rfl⟩ (Nat.le_of_ble_eq_true rfl) (Nat.le_of_ble_eq_true rfl)
  | succ n ih =>
    intro k hkn
    obtain ⟨t, hk⟩ : ∃ t, C.2.2.2[k]? = some t := ⟨_, List.getElem?_eq_getElem (by omega)⟩
    have hs := hst k t hk
    have w0 : S.1 9 (nI k).toNatClampNeg = t.1 := by rw [nI_clamp (by omega)]; exact hs.1
    have w3 : S.1 13 (nI k).toNatClampNeg = (if t.2.2.2.1 = 4 then 1 else 0) := by rw [nI_clamp (by omega)]; exact hs.2.2.1
    refine z_iload_n dX10_withWhich_4 rfl rfl ?_
    first | refine z_aload_n dX10_withWhich_5 rfl rfl ?_ | refine z_aload_nN dX10_withWhich_5 rfl rfl ?_
    refine zmg_233 rfl dX10_withWhich_6 rfl ?_
    rw [h12]
    refine z_icmp_ge (tgt := 39) dX10_withWhich_9 rfl (by decide) (fun c9 => absurd c9 (nI_ge (by omega) (by omega))) (fun c9 => ?_)
    refine z_iload_n dX10_withWhich_12 rfl rfl ?_
    first | refine z_aload_n dX10_withWhich_13 rfl rfl ?_ | refine z_aload_nN dX10_withWhich_13 rfl rfl ?_
    refine zmg_36 rfl dX10_withWhich_14 rfl ?_
    refine z_iload_n dX10_withWhich_17 rfl rfl ?_
    refine zm_iald dX10_withWhich_18 rfl rfl (vp_in_nI (by omega) (by decide)) ?_
    rw [w0]
    refine z_iload_n dX10_withWhich_19 rfl rfl ?_
    refine z_icmp_ne (tgt := 27) dX10_withWhich_20 rfl (by decide) (fun c20 => ?_) (fun c20 => ?_)
    · skip
      refine z_iconst (v := 0) dX10_withWhich_27 rfl (by decide) ?_
      first | refine zcx_X10_200 rfl dX10_withWhich_28 rfl (r_flag g _ True) rfl rfl ⟨(Nat.le_of_ble_eq_true rfl), (Nat.le_of_ble_eq_true rfl)⟩ ⟨(Nat.le_of_ble_eq_true rfl), (Nat.le_of_ble_eq_true rfl)⟩ (Nat.le_of_ble_eq_true rfl) ?_ | refine zcx_X10_200 rfl dX10_withWhich_28 rfl (r_flag g _ False) rfl rfl ⟨(Nat.le_of_ble_eq_true rfl), (Nat.le_of_ble_eq_true rfl)⟩ ⟨(Nat.le_of_ble_eq_true rfl), (Nat.le_of_ble_eq_true rfl)⟩ (Nat.le_of_ble_eq_true rfl) ?_
      refine z_iadd dX10_withWhich_31 rfl ?_
      first | rw [cnt_T hk (decide_eq_true c20)] | rw [cnt_F hk (decide_eq_false c20)]
      refine z_istore_n dX10_withWhich_32 rfl (Nat.le_of_ble_eq_true rfl) ?_
      refine z_iinc (v := nI (k + 1)) dX10_withWhich_33 rfl rfl (nI_inc k) (Nat.le_of_ble_eq_true rfl) ?_
      refine z_goto (tgt := 4) dX10_withWhich_36 rfl (by decide) ?_
      refine z_lv [(2, .int (nI ((C.2.2.2.take (k + 1)).countP (isT x)))), (3, .int (nI (k + 1))), (0, .ref m), (1, .int x)] ⟨rfl, rfl, rfl, rfl, trivial⟩ ?_
      exact ih (k + 1) (by omega)
    · skip
      refine z_iconst (v := 1) dX10_withWhich_23 rfl (by decide) ?_
      refine z_goto (tgt := 28) dX10_withWhich_24 rfl (by decide) ?_
      first | refine zcx_X10_200 rfl dX10_withWhich_28 rfl (r_flag g _ True) rfl rfl ⟨(Nat.le_of_ble_eq_true rfl), (Nat.le_of_ble_eq_true rfl)⟩ ⟨(Nat.le_of_ble_eq_true rfl), (Nat.le_of_ble_eq_true rfl)⟩ (Nat.le_of_ble_eq_true rfl) ?_ | refine zcx_X10_200 rfl dX10_withWhich_28 rfl (r_flag g _ False) rfl rfl ⟨(Nat.le_of_ble_eq_true rfl), (Nat.le_of_ble_eq_true rfl)⟩ ⟨(Nat.le_of_ble_eq_true rfl), (Nat.le_of_ble_eq_true rfl)⟩ (Nat.le_of_ble_eq_true rfl) ?_
      refine z_iadd dX10_withWhich_31 rfl ?_
      first | rw [cnt_T hk (decide_eq_true c20)] | rw [cnt_F hk (decide_eq_false c20)]
      refine z_istore_n dX10_withWhich_32 rfl (Nat.le_of_ble_eq_true rfl) ?_
      refine z_iinc (v := nI (k + 1)) dX10_withWhich_33 rfl rfl (nI_inc k) (Nat.le_of_ble_eq_true rfl) ?_
      refine z_goto (tgt := 4) dX10_withWhich_36 rfl (by decide) ?_
      refine z_lv [(2, .int (nI ((C.2.2.2.take (k + 1)).countP (isT x)))), (3, .int (nI (k + 1))), (0, .ref m), (1, .int x)] ⟨rfl, rfl, rfl, rfl, trivial⟩ ?_
      exact ih (k + 1) (by omega)

set_option maxHeartbeats 4000000 in
set_option maxRecDepth 100000 in
/-- X10_withWhich -/
theorem q_withWhich (g : zG) (h : zH) (m : Nat) (S : sMS) (C : sCo) (hC : coIs S (some C)) (x : Int32) : zX g yX10_withWhich cX10_withWhich 4 (some .int) rmX10_withWhich [.ref m, .int x] (mUp m S h) (.int (nI (C.2.2.2.countP (isT x)))) (mUp m S h) := by
  refine zM_of (by decide) (Nat.le_of_ble_eq_true rfl) ?_
  refine z_iconst (v := 0) dX10_withWhich_0 rfl (by decide) ?_
  refine z_istore_n dX10_withWhich_1 rfl (Nat.le_of_ble_eq_true rfl) ?_
  refine z_iconst (v := 0) dX10_withWhich_2 rfl (by decide) ?_
  refine z_istore_n dX10_withWhich_3 rfl (Nat.le_of_ble_eq_true rfl) ?_
  refine z_lv [(2, .int (nI ((C.2.2.2.take 0).countP (isT x)))), (3, .int (nI 0)), (0, .ref m), (1, .int x)] ⟨rfl, rfl, rfl, rfl, trivial⟩ ?_
  exact q_withWhich_L g h m S C hC x C.2.2.2.length 0 (by omega)

abbrev YX10_doubles : zY := (yX10_doubles.cls, cX10_doubles, 3, (some .int), rmX10_doubles, yX10_doubles.name, fun _ _ => True)
set_option maxHeartbeats 4000000 in
set_option maxRecDepth 100000 in
theorem q_doubles_L (g : zG) (h : zH) (m : Nat) (S : sMS) (C : sCo) (hC : coIs S (some C)) : ∀ (n k : Nat), k + n = C.2.2.2.length → zZ g YX10_doubles (zE g (fun v h1 => v = some (.int (nI (C.2.2.2.countP (isD)))) ∧ h1 = mUp m S h) 0 0) 4 [(1, .int (nI ((C.2.2.2.take k).countP (isD)))), (2, .int (nI k)), (0, .ref m)] [] (mUp m S h) 0 0 := by
  have hC0 := hC
  obtain ⟨h10, hA, hB, h11, h12, hl, hst⟩ := hC
  intro n
  induction n with
  | zero =>
    intro k hkn
    refine z_iload_n dX10_doubles_4 rfl rfl ?_
    first | refine z_aload_n dX10_doubles_5 rfl rfl ?_ | refine z_aload_nN dX10_doubles_5 rfl rfl ?_
    refine zmg_233 rfl dX10_doubles_6 rfl ?_
    rw [h12]
    refine z_icmp_ge (tgt := 30) dX10_doubles_9 rfl (by decide) (fun c9 => ?_) (fun c9 => absurd c9 (fun z => z (nI_le (by omega) (by omega))))
    refine z_iload_n dX10_doubles_30 rfl rfl ?_
    exact z_iret dX10_doubles_31 rfl rfl ⟨by rw [show C.2.2.2.take k = C.2.2.2 from by rw [show k = C.2.2.2.length by omega]; exact List.take_length], rfl⟩ (Nat.le_of_ble_eq_true rfl) (Nat.le_of_ble_eq_true rfl)
  | succ n ih =>
    intro k hkn
    obtain ⟨t, hk⟩ : ∃ t, C.2.2.2[k]? = some t := ⟨_, List.getElem?_eq_getElem (by omega)⟩
    have hs := hst k t hk
    have w0 : S.1 9 (nI k).toNatClampNeg = t.1 := by rw [nI_clamp (by omega)]; exact hs.1
    have w3 : S.1 13 (nI k).toNatClampNeg = (if t.2.2.2.1 = 4 then 1 else 0) := by rw [nI_clamp (by omega)]; exact hs.2.2.1
    refine z_iload_n dX10_doubles_4 rfl rfl ?_
    first | refine z_aload_n dX10_doubles_5 rfl rfl ?_ | refine z_aload_nN dX10_doubles_5 rfl rfl ?_
    refine zmg_233 rfl dX10_doubles_6 rfl ?_
    rw [h12]
    refine z_icmp_ge (tgt := 30) dX10_doubles_9 rfl (by decide) (fun c9 => absurd c9 (nI_ge (by omega) (by omega))) (fun c9 => ?_)
    refine z_iload_n dX10_doubles_12 rfl rfl ?_
    first | refine z_aload_n dX10_doubles_13 rfl rfl ?_ | refine z_aload_nN dX10_doubles_13 rfl rfl ?_
    refine zmg_48 rfl dX10_doubles_14 rfl ?_
    refine z_iload_n dX10_doubles_17 rfl rfl ?_
    refine zm_zald dX10_doubles_18 rfl rfl (vp_in_nI (by omega) (by decide)) ?_
    rw [w3]
    refine zcx_X10_200 rfl dX10_doubles_19 rfl (r_flag g _ (t.2.2.2.1 = 4)) rfl rfl ⟨(Nat.le_of_ble_eq_true rfl), (Nat.le_of_ble_eq_true rfl)⟩ ⟨(Nat.le_of_ble_eq_true rfl), (Nat.le_of_ble_eq_true rfl)⟩ (Nat.le_of_ble_eq_true rfl) ?_
    refine z_iadd dX10_doubles_22 rfl ?_
    rw [cnt_D hk]
    refine z_istore_n dX10_doubles_23 rfl (Nat.le_of_ble_eq_true rfl) ?_
    refine z_iinc (v := nI (k + 1)) dX10_doubles_24 rfl rfl (nI_inc k) (Nat.le_of_ble_eq_true rfl) ?_
    refine z_goto (tgt := 4) dX10_doubles_27 rfl (by decide) ?_
    refine z_lv [(1, .int (nI ((C.2.2.2.take (k + 1)).countP (isD)))), (2, .int (nI (k + 1))), (0, .ref m)] ⟨rfl, rfl, rfl, trivial⟩ ?_
    exact ih (k + 1) (by omega)

set_option maxHeartbeats 4000000 in
set_option maxRecDepth 100000 in
/-- X10_doubles -/
theorem q_doubles (g : zG) (h : zH) (m : Nat) (S : sMS) (C : sCo) (hC : coIs S (some C)) : zX g yX10_doubles cX10_doubles 3 (some .int) rmX10_doubles [.ref m] (mUp m S h) (.int (nI (C.2.2.2.countP (isD)))) (mUp m S h) := by
  refine zM_of (by decide) (Nat.le_of_ble_eq_true rfl) ?_
  refine z_iconst (v := 0) dX10_doubles_0 rfl (by decide) ?_
  refine z_istore_n dX10_doubles_1 rfl (Nat.le_of_ble_eq_true rfl) ?_
  refine z_iconst (v := 0) dX10_doubles_2 rfl (by decide) ?_
  refine z_istore_n dX10_doubles_3 rfl (Nat.le_of_ble_eq_true rfl) ?_
  refine z_lv [(1, .int (nI ((C.2.2.2.take 0).countP (isD)))), (2, .int (nI 0)), (0, .ref m)] ⟨rfl, rfl, rfl, trivial⟩ ?_
  exact q_doubles_L g h m S C hC C.2.2.2.length 0 (by omega)

abbrev YX10_besides : zY := (yX10_besides.cls, cX10_besides, 4, (some .int), rmX10_besides, yX10_besides.name, fun _ _ => True)
set_option maxHeartbeats 4000000 in
set_option maxRecDepth 100000 in
theorem q_besides_L (g : zG) (h : zH) (m : Nat) (S : sMS) (C : sCo) (hC : coIs S (some C)) (x : Int32) : ∀ (n k : Nat), k + n = C.2.2.2.length → zZ g YX10_besides (zE g (fun v h1 => v = some (.int (nI (C.2.2.2.countP (isB x)))) ∧ h1 = mUp m S h) 0 0) 4 [(2, .int (nI ((C.2.2.2.take k).countP (isB x)))), (3, .int (nI k)), (0, .ref m), (1, .int x)] [] (mUp m S h) 0 0 := by
  have hC0 := hC
  obtain ⟨h10, hA, hB, h11, h12, hl, hst⟩ := hC
  intro n
  induction n with
  | zero =>
    intro k hkn
    refine z_iload_n dX10_besides_4 rfl rfl ?_
    first | refine z_aload_n dX10_besides_5 rfl rfl ?_ | refine z_aload_nN dX10_besides_5 rfl rfl ?_
    refine zmg_233 rfl dX10_besides_6 rfl ?_
    rw [h12]
    refine z_icmp_ge (tgt := 47) dX10_besides_9 rfl (by decide) (fun c9 => ?_) (fun c9 => absurd c9 (fun z => z (nI_le (by omega) (by omega))))
    refine z_iload_n dX10_besides_47 rfl rfl ?_
    exact z_iret dX10_besides_48 rfl rfl ⟨by rw [show C.2.2.2.take k = C.2.2.2 from by rw [show k = C.2.2.2.length by omega]; exact List.take_length], rfl⟩ (Nat.le_of_ble_eq_true rfl) (Nat.le_of_ble_eq_true rfl)
  | succ n ih =>
    intro k hkn
    obtain ⟨t, hk⟩ : ∃ t, C.2.2.2[k]? = some t := ⟨_, List.getElem?_eq_getElem (by omega)⟩
    have hs := hst k t hk
    have w0 : S.1 9 (nI k).toNatClampNeg = t.1 := by rw [nI_clamp (by omega)]; exact hs.1
    have w3 : S.1 13 (nI k).toNatClampNeg = (if t.2.2.2.1 = 4 then 1 else 0) := by rw [nI_clamp (by omega)]; exact hs.2.2.1
    refine z_iload_n dX10_besides_4 rfl rfl ?_
    first | refine z_aload_n dX10_besides_5 rfl rfl ?_ | refine z_aload_nN dX10_besides_5 rfl rfl ?_
    refine zmg_233 rfl dX10_besides_6 rfl ?_
    rw [h12]
    refine z_icmp_ge (tgt := 47) dX10_besides_9 rfl (by decide) (fun c9 => absurd c9 (nI_ge (by omega) (by omega))) (fun c9 => ?_)
    refine z_iload_n dX10_besides_12 rfl rfl ?_
    first | refine z_aload_n dX10_besides_13 rfl rfl ?_ | refine z_aload_nN dX10_besides_13 rfl rfl ?_
    refine zmg_36 rfl dX10_besides_14 rfl ?_
    refine z_iload_n dX10_besides_17 rfl rfl ?_
    refine zm_iald dX10_besides_18 rfl rfl (vp_in_nI (by omega) (by decide)) ?_
    rw [w0]
    refine z_if_ne (tgt := 35) dX10_besides_19 rfl (by decide) (fun c19 => ?_) (fun c19 => ?_)
    · skip
      refine z_iconst (v := 0) dX10_besides_35 rfl (by decide) ?_
      first | refine zcx_X10_200 rfl dX10_besides_36 rfl (r_flag g _ True) rfl rfl ⟨(Nat.le_of_ble_eq_true rfl), (Nat.le_of_ble_eq_true rfl)⟩ ⟨(Nat.le_of_ble_eq_true rfl), (Nat.le_of_ble_eq_true rfl)⟩ (Nat.le_of_ble_eq_true rfl) ?_ | refine zcx_X10_200 rfl dX10_besides_36 rfl (r_flag g _ False) rfl rfl ⟨(Nat.le_of_ble_eq_true rfl), (Nat.le_of_ble_eq_true rfl)⟩ ⟨(Nat.le_of_ble_eq_true rfl), (Nat.le_of_ble_eq_true rfl)⟩ (Nat.le_of_ble_eq_true rfl) ?_
      refine z_iadd dX10_besides_39 rfl ?_
      first | rw [cnt_T hk (decide_eq_true ⟨c19, c28⟩)] | rw [cnt_F hk (decide_eq_false (fun z => c28 z.2))] | rw [cnt_F hk (decide_eq_false (fun z => c19 z.1))]
      refine z_istore_n dX10_besides_40 rfl (Nat.le_of_ble_eq_true rfl) ?_
      refine z_iinc (v := nI (k + 1)) dX10_besides_41 rfl rfl (nI_inc k) (Nat.le_of_ble_eq_true rfl) ?_
      refine z_goto (tgt := 4) dX10_besides_44 rfl (by decide) ?_
      refine z_lv [(2, .int (nI ((C.2.2.2.take (k + 1)).countP (isB x)))), (3, .int (nI (k + 1))), (0, .ref m), (1, .int x)] ⟨rfl, rfl, rfl, rfl, trivial⟩ ?_
      exact ih (k + 1) (by omega)
    · skip
      first | refine z_aload_n dX10_besides_22 rfl rfl ?_ | refine z_aload_nN dX10_besides_22 rfl rfl ?_
      refine z_iload_n dX10_besides_23 rfl rfl ?_
      refine zcx_X10_262 rfl dX10_besides_24 rfl mo_recv (q_stepLikeness g h m S C hC0 k t hk c19) rfl rfl ⟨(Nat.le_of_ble_eq_true rfl), (Nat.le_of_ble_eq_true rfl)⟩ ⟨(Nat.le_of_ble_eq_true rfl), (Nat.le_of_ble_eq_true rfl)⟩ (Nat.le_of_ble_eq_true rfl) ?_
      refine z_iload_n dX10_besides_27 rfl rfl ?_
      refine z_icmp_ne (tgt := 35) dX10_besides_28 rfl (by decide) (fun c28 => ?_) (fun c28 => ?_)
      · skip
        refine z_iconst (v := 0) dX10_besides_35 rfl (by decide) ?_
        first | refine zcx_X10_200 rfl dX10_besides_36 rfl (r_flag g _ True) rfl rfl ⟨(Nat.le_of_ble_eq_true rfl), (Nat.le_of_ble_eq_true rfl)⟩ ⟨(Nat.le_of_ble_eq_true rfl), (Nat.le_of_ble_eq_true rfl)⟩ (Nat.le_of_ble_eq_true rfl) ?_ | refine zcx_X10_200 rfl dX10_besides_36 rfl (r_flag g _ False) rfl rfl ⟨(Nat.le_of_ble_eq_true rfl), (Nat.le_of_ble_eq_true rfl)⟩ ⟨(Nat.le_of_ble_eq_true rfl), (Nat.le_of_ble_eq_true rfl)⟩ (Nat.le_of_ble_eq_true rfl) ?_
        refine z_iadd dX10_besides_39 rfl ?_
        first | rw [cnt_T hk (decide_eq_true ⟨c19, c28⟩)] | rw [cnt_F hk (decide_eq_false (fun z => c28 z.2))] | rw [cnt_F hk (decide_eq_false (fun z => c19 z.1))]
        refine z_istore_n dX10_besides_40 rfl (Nat.le_of_ble_eq_true rfl) ?_
        refine z_iinc (v := nI (k + 1)) dX10_besides_41 rfl rfl (nI_inc k) (Nat.le_of_ble_eq_true rfl) ?_
        refine z_goto (tgt := 4) dX10_besides_44 rfl (by decide) ?_
        refine z_lv [(2, .int (nI ((C.2.2.2.take (k + 1)).countP (isB x)))), (3, .int (nI (k + 1))), (0, .ref m), (1, .int x)] ⟨rfl, rfl, rfl, rfl, trivial⟩ ?_
        exact ih (k + 1) (by omega)
      · skip
        refine z_iconst (v := 1) dX10_besides_31 rfl (by decide) ?_
        refine z_goto (tgt := 36) dX10_besides_32 rfl (by decide) ?_
        first | refine zcx_X10_200 rfl dX10_besides_36 rfl (r_flag g _ True) rfl rfl ⟨(Nat.le_of_ble_eq_true rfl), (Nat.le_of_ble_eq_true rfl)⟩ ⟨(Nat.le_of_ble_eq_true rfl), (Nat.le_of_ble_eq_true rfl)⟩ (Nat.le_of_ble_eq_true rfl) ?_ | refine zcx_X10_200 rfl dX10_besides_36 rfl (r_flag g _ False) rfl rfl ⟨(Nat.le_of_ble_eq_true rfl), (Nat.le_of_ble_eq_true rfl)⟩ ⟨(Nat.le_of_ble_eq_true rfl), (Nat.le_of_ble_eq_true rfl)⟩ (Nat.le_of_ble_eq_true rfl) ?_
        refine z_iadd dX10_besides_39 rfl ?_
        first | rw [cnt_T hk (decide_eq_true ⟨c19, c28⟩)] | rw [cnt_F hk (decide_eq_false (fun z => c28 z.2))] | rw [cnt_F hk (decide_eq_false (fun z => c19 z.1))]
        refine z_istore_n dX10_besides_40 rfl (Nat.le_of_ble_eq_true rfl) ?_
        refine z_iinc (v := nI (k + 1)) dX10_besides_41 rfl rfl (nI_inc k) (Nat.le_of_ble_eq_true rfl) ?_
        refine z_goto (tgt := 4) dX10_besides_44 rfl (by decide) ?_
        refine z_lv [(2, .int (nI ((C.2.2.2.take (k + 1)).countP (isB x)))), (3, .int (nI (k + 1))), (0, .ref m), (1, .int x)] ⟨rfl, rfl, rfl, rfl, trivial⟩ ?_
        exact ih (k + 1) (by omega)

set_option maxHeartbeats 4000000 in
set_option maxRecDepth 100000 in
/-- X10_besides -/
theorem q_besides (g : zG) (h : zH) (m : Nat) (S : sMS) (C : sCo) (hC : coIs S (some C)) (x : Int32) : zX g yX10_besides cX10_besides 4 (some .int) rmX10_besides [.ref m, .int x] (mUp m S h) (.int (nI (C.2.2.2.countP (isB x)))) (mUp m S h) := by
  refine zM_of (by decide) (Nat.le_of_ble_eq_true rfl) ?_
  refine z_iconst (v := 0) dX10_besides_0 rfl (by decide) ?_
  refine z_istore_n dX10_besides_1 rfl (Nat.le_of_ble_eq_true rfl) ?_
  refine z_iconst (v := 0) dX10_besides_2 rfl (by decide) ?_
  refine z_istore_n dX10_besides_3 rfl (Nat.le_of_ble_eq_true rfl) ?_
  refine z_lv [(2, .int (nI ((C.2.2.2.take 0).countP (isB x)))), (3, .int (nI 0)), (0, .ref m), (1, .int x)] ⟨rfl, rfl, rfl, rfl, trivial⟩ ?_
  exact q_besides_L g h m S C hC x C.2.2.2.length 0 (by omega)

set_option maxHeartbeats 4000000 in
set_option maxRecDepth 100000 in
/-- X10_joinedKind -/
theorem q_joinedKind (g : zG) (h : zH) (m : Nat) (S : sMS) (C : sCo) (hC : coIs S (some C)) : zX g yX10_joinedKind cX10_joinedKind 3 (some .int) rmX10_joinedKind [.ref m] (mUp m S h) (.int (sJoinK C.1.1 C.2.1.1)) (mUp m S h) := by
  refine zM_of (by decide) (Nat.le_of_ble_eq_true rfl) ?_
  obtain ⟨h10, hA, hB, h11, h12, hl, hst⟩ := hC
  have ka : S.1 4 (24 : Int32).toNatClampNeg = C.1.1 := hA.1
  have kb : S.1 4 (25 : Int32).toNatClampNeg = C.2.1.1 := hB.1
  first | refine z_aload_n dX10_joinedKind_0 rfl rfl ?_ | refine z_aload_nN dX10_joinedKind_0 rfl rfl ?_
  refine zmg_21 rfl dX10_joinedKind_1 rfl ?_
  refine z_bipush (v := 24) dX10_joinedKind_4 rfl (by decide) ?_
  refine zm_iald dX10_joinedKind_6 rfl rfl (vp_in_nI (n := 24) (by decide) (by decide)) ?_
  rw [ka]
  refine z_istore_n dX10_joinedKind_7 rfl (Nat.le_of_ble_eq_true rfl) ?_
  first | refine z_aload_n dX10_joinedKind_8 rfl rfl ?_ | refine z_aload_nN dX10_joinedKind_8 rfl rfl ?_
  refine zmg_21 rfl dX10_joinedKind_9 rfl ?_
  refine z_bipush (v := 25) dX10_joinedKind_12 rfl (by decide) ?_
  refine zm_iald dX10_joinedKind_14 rfl rfl (vp_in_nI (n := 25) (by decide) (by decide)) ?_
  rw [kb]
  refine z_istore_n dX10_joinedKind_15 rfl (Nat.le_of_ble_eq_true rfl) ?_
  refine z_iload_n dX10_joinedKind_16 rfl rfl ?_
  refine zcx_X10_76 rfl dX10_joinedKind_17 rfl (r_isNumber g _ _) rfl rfl ⟨(Nat.le_of_ble_eq_true rfl), (Nat.le_of_ble_eq_true rfl)⟩ ⟨(Nat.le_of_ble_eq_true rfl), (Nat.le_of_ble_eq_true rfl)⟩ (Nat.le_of_ble_eq_true rfl) ?_
  refine z_bif_eq (tgt := 46) dX10_joinedKind_20 rfl (by decide) (fun c20 => ?_) (fun c20 => ?_)
  · skip
    refine z_iload_n dX10_joinedKind_46 rfl rfl ?_
    refine z_iload_n dX10_joinedKind_47 rfl rfl ?_
    refine z_icmp_ne (tgt := 61) dX10_joinedKind_48 rfl (by decide) (fun c48 => ?_) (fun c48 => ?_)
    · skip
      refine z_bipush (v := 9) dX10_joinedKind_61 rfl (by decide) ?_
      exact z_iret dX10_joinedKind_63 rfl rfl ⟨by grind [sJoinK], rfl⟩ (Nat.le_of_ble_eq_true rfl) (Nat.le_of_ble_eq_true rfl)
    · skip
      refine z_iload_n dX10_joinedKind_51 rfl rfl ?_
      refine z_bipush (v := 7) dX10_joinedKind_52 rfl (by decide) ?_
      refine z_icmp_le (tgt := 61) dX10_joinedKind_54 rfl (by decide) (fun c54 => ?_) (fun c54 => ?_)
      · skip
        refine z_bipush (v := 9) dX10_joinedKind_61 rfl (by decide) ?_
        exact z_iret dX10_joinedKind_63 rfl rfl ⟨by grind [sJoinK], rfl⟩ (Nat.le_of_ble_eq_true rfl) (Nat.le_of_ble_eq_true rfl)
      · skip
        refine z_iload_n dX10_joinedKind_57 rfl rfl ?_
        refine z_goto (tgt := 63) dX10_joinedKind_58 rfl (by decide) ?_
        exact z_iret dX10_joinedKind_63 rfl rfl ⟨by grind [sJoinK], rfl⟩ (Nat.le_of_ble_eq_true rfl) (Nat.le_of_ble_eq_true rfl)
  · skip
    refine z_iload_n dX10_joinedKind_23 rfl rfl ?_
    refine zcx_X10_76 rfl dX10_joinedKind_24 rfl (r_isNumber g _ _) rfl rfl ⟨(Nat.le_of_ble_eq_true rfl), (Nat.le_of_ble_eq_true rfl)⟩ ⟨(Nat.le_of_ble_eq_true rfl), (Nat.le_of_ble_eq_true rfl)⟩ (Nat.le_of_ble_eq_true rfl) ?_
    refine z_bif_eq (tgt := 46) dX10_joinedKind_27 rfl (by decide) (fun c27 => ?_) (fun c27 => ?_)
    · skip
      refine z_iload_n dX10_joinedKind_46 rfl rfl ?_
      refine z_iload_n dX10_joinedKind_47 rfl rfl ?_
      refine z_icmp_ne (tgt := 61) dX10_joinedKind_48 rfl (by decide) (fun c48 => ?_) (fun c48 => ?_)
      · skip
        refine z_bipush (v := 9) dX10_joinedKind_61 rfl (by decide) ?_
        exact z_iret dX10_joinedKind_63 rfl rfl ⟨by grind [sJoinK], rfl⟩ (Nat.le_of_ble_eq_true rfl) (Nat.le_of_ble_eq_true rfl)
      · skip
        refine z_iload_n dX10_joinedKind_51 rfl rfl ?_
        refine z_bipush (v := 7) dX10_joinedKind_52 rfl (by decide) ?_
        refine z_icmp_le (tgt := 61) dX10_joinedKind_54 rfl (by decide) (fun c54 => ?_) (fun c54 => ?_)
        · skip
          refine z_bipush (v := 9) dX10_joinedKind_61 rfl (by decide) ?_
          exact z_iret dX10_joinedKind_63 rfl rfl ⟨by grind [sJoinK], rfl⟩ (Nat.le_of_ble_eq_true rfl) (Nat.le_of_ble_eq_true rfl)
        · skip
          refine z_iload_n dX10_joinedKind_57 rfl rfl ?_
          refine z_goto (tgt := 63) dX10_joinedKind_58 rfl (by decide) ?_
          exact z_iret dX10_joinedKind_63 rfl rfl ⟨by grind [sJoinK], rfl⟩ (Nat.le_of_ble_eq_true rfl) (Nat.le_of_ble_eq_true rfl)
    · skip
      refine z_iload_n dX10_joinedKind_30 rfl rfl ?_
      refine z_iload_n dX10_joinedKind_31 rfl rfl ?_
      refine zcx_X10_108 rfl dX10_joinedKind_32 rfl (r_joinOf g _ _ _) rfl rfl ⟨(Nat.le_of_ble_eq_true rfl), (Nat.le_of_ble_eq_true rfl)⟩ ⟨(Nat.le_of_ble_eq_true rfl), (Nat.le_of_ble_eq_true rfl)⟩ (Nat.le_of_ble_eq_true rfl) ?_
      refine z_bipush (v := -4) dX10_joinedKind_35 rfl (by decide) ?_
      refine z_icmp_eq (tgt := 46) dX10_joinedKind_37 rfl (by decide) (fun c37 => ?_) (fun c37 => ?_)
      · skip
        refine z_iload_n dX10_joinedKind_46 rfl rfl ?_
        refine z_iload_n dX10_joinedKind_47 rfl rfl ?_
        refine z_icmp_ne (tgt := 61) dX10_joinedKind_48 rfl (by decide) (fun c48 => ?_) (fun c48 => ?_)
        · skip
          refine z_bipush (v := 9) dX10_joinedKind_61 rfl (by decide) ?_
          exact z_iret dX10_joinedKind_63 rfl rfl ⟨by grind [sJoinK], rfl⟩ (Nat.le_of_ble_eq_true rfl) (Nat.le_of_ble_eq_true rfl)
        · skip
          refine z_iload_n dX10_joinedKind_51 rfl rfl ?_
          refine z_bipush (v := 7) dX10_joinedKind_52 rfl (by decide) ?_
          refine z_icmp_le (tgt := 61) dX10_joinedKind_54 rfl (by decide) (fun c54 => ?_) (fun c54 => ?_)
          · skip
            refine z_bipush (v := 9) dX10_joinedKind_61 rfl (by decide) ?_
            exact z_iret dX10_joinedKind_63 rfl rfl ⟨by grind [sJoinK], rfl⟩ (Nat.le_of_ble_eq_true rfl) (Nat.le_of_ble_eq_true rfl)
          · skip
            refine z_iload_n dX10_joinedKind_57 rfl rfl ?_
            refine z_goto (tgt := 63) dX10_joinedKind_58 rfl (by decide) ?_
            exact z_iret dX10_joinedKind_63 rfl rfl ⟨by grind [sJoinK], rfl⟩ (Nat.le_of_ble_eq_true rfl) (Nat.le_of_ble_eq_true rfl)
      · skip
        refine z_iload_n dX10_joinedKind_40 rfl rfl ?_
        refine z_iload_n dX10_joinedKind_41 rfl rfl ?_
        refine zcx_X10_108 rfl dX10_joinedKind_42 rfl (r_joinOf g _ _ _) rfl rfl ⟨(Nat.le_of_ble_eq_true rfl), (Nat.le_of_ble_eq_true rfl)⟩ ⟨(Nat.le_of_ble_eq_true rfl), (Nat.le_of_ble_eq_true rfl)⟩ (Nat.le_of_ble_eq_true rfl) ?_
        exact z_iret dX10_joinedKind_45 rfl rfl ⟨by grind [sJoinK], rfl⟩ (Nat.le_of_ble_eq_true rfl) (Nat.le_of_ble_eq_true rfl)

theorem res_none {w : sW} {what : Int32} (h : w.2.2.2.2.2.1 = none) (h9 : 0 ≤ what ∧ what ≤ 9) : pResult w what = (-2, w) := by
  unfold pResult
  rw [if_neg (fun z => z h9), h]
theorem res_some {w : sW} {what : Int32} {C : sCo} (h : w.2.2.2.2.2.1 = some C) (h9 : 0 ≤ what ∧ what ≤ 9) {x : Int32} (hx : x = resOf C what) : pResult w what = (x, w) := by
  unfold pResult
  rw [if_neg (fun z => z h9), h, hx]
theorem stp_none {w : sW} {k what : Int32} (h : w.2.2.2.2.2.1 = none) (h1 : ¬ k < 0) (h9 : 0 ≤ what ∧ what ≤ 3) : pStep w k what = (-2, w) := by
  unfold pStep
  rw [if_neg (fun z => z.elim h1 (fun z => z h9)), h]
theorem stp_no {w : sW} {k what : Int32} {C : sCo} (h : w.2.2.2.2.2.1 = some C) (h1 : ¬ k < 0) (h9 : 0 ≤ what ∧ what ≤ 3) (hk : C.2.2.2[ix k]? = none) : pStep w k what = (-4, w) := by
  unfold pStep
  rw [if_neg (fun z => z.elim h1 (fun z => z h9)), h]
  simp only [hk]
theorem stp_some {w : sW} {k what : Int32} {C : sCo} {t : sStep} (h : w.2.2.2.2.2.1 = some C) (h1 : ¬ k < 0) (h9 : 0 ≤ what ∧ what ≤ 3) (hk : C.2.2.2[ix k]? = some t) {x : Int32} (hx : x = stepOf t what) : pStep w k what = (x, w) := by
  unfold pStep
  rw [if_neg (fun z => z.elim h1 (fun z => z h9)), h]
  simp only [hk, hx]
theorem nI_of0 {k : Int32} (h : ¬ k < 0) : ∃ n, n < 2 ^ 31 ∧ k = nI n := by
  have h0 : 0 ≤ k := by grind
  have h1 := Int32.le_iff_toInt_le.mp h0
  have h2 := k.toInt_lt
  rw [show (0 : Int32).toInt = 0 from by decide] at h1
  exact ⟨ix k, by have e : ((ix k : Nat) : Int) = k.toInt := Int.toNat_of_nonneg h1; omega, (nI_ix h0).symm⟩
theorem wco_none {S : sMS} {w : sW} (hR : RepM S w) (h : w.2.2.2.2.2.1 = none) : S.2.2.2.1 10 = 0 := by
  have := hR.2.1.2.2.2.1
  rw [h] at this
  exact this
theorem wco_some {S : sMS} {w : sW} (hR : RepM S w) {C : sCo} (h : w.2.2.2.2.2.1 = some C) : coIs S (some C) := by
  have := hR.2.1.2.2.2.1
  rwa [h] at this
theorem step_a {S : sMS} {A B : sA} {k : Nat} {t : sStep} (h : stepIs S A B k t) : S.1 9 k = t.1 ∧ S.1 10 k = t.2.1 ∧ S.1 11 k = t.2.2.1 ∧ S.1 12 k = t.2.2.2.2 := by
  obtain ⟨a1, a2, a3, z | z | z⟩ := h
  · exact ⟨a1, z.2.1, z.2.2.1, a2⟩
  · exact ⟨a1, z.2.1, z.2.2.1, a2⟩
  · exact ⟨a1, z.2.1, z.2.2.1, a2⟩

set_option maxHeartbeats 4000000 in
set_option maxRecDepth 100000 in
theorem R_result (g : zG) (h : zH) (m : Nat) (S : sMS) (w : sW) (hR : RepM S w) (what : Int32) : zM g yX10_result cX10_result 2 (some .int) rmX10_result [.ref m, .int what] (mUp m S h) (mPost m h (pResult w what)) := by
  refine zM_of (by decide) (Nat.le_of_ble_eq_true rfl) ?_
  refine z_iload_n dX10_result_0 rfl rfl ?_
  refine z_i2l dX10_result_1 rfl ?_
  refine z_lconst (v := 0) dX10_result_2 rfl (by decide) ?_
  refine zk_X10_211 rfl dX10_result_3 rfl ?_
  refine zcx_X10_72 rfl dX10_result_6 rfl (r_in32 g _ _ 0 9 rfl rfl) rfl rfl ⟨(Nat.le_of_ble_eq_true rfl), (Nat.le_of_ble_eq_true rfl)⟩ ⟨(Nat.le_of_ble_eq_true rfl), (Nat.le_of_ble_eq_true rfl)⟩ (Nat.le_of_ble_eq_true rfl) ?_
  refine z_bif_ne (tgt := 14) dX10_result_9 rfl (by decide) (fun c9 => ?_) (fun c9 => ?_)
  · skip
    rcases hw : w.2.2.2.2.2.1 with _ | C
    · skip
      first | refine z_aload_n dX10_result_14 rfl rfl ?_ | refine z_aload_nN dX10_result_14 rfl rfl ?_
      refine zmg_258 rfl dX10_result_15 rfl ?_
      rw [wco_none hR hw]
      refine z_if_ne (tgt := 24) dX10_result_18 rfl (by decide) (fun c18 => absurd c18 (fun z => z rfl)) (fun c18 => ?_)
      refine z_bipush (v := -2) dX10_result_21 rfl (by decide) ?_
      exact z_iret dX10_result_23 rfl rfl (mPost_of hR (res_none hw c9)) (Nat.le_of_ble_eq_true rfl) (Nat.le_of_ble_eq_true rfl)
    · have hC := wco_some hR hw
      first | refine z_aload_n dX10_result_14 rfl rfl ?_ | refine z_aload_nN dX10_result_14 rfl rfl ?_
      refine zmg_258 rfl dX10_result_15 rfl ?_
      rw [hC.1]
      refine z_if_ne (tgt := 24) dX10_result_18 rfl (by decide) (fun c18 => ?_) (fun c18 => absurd c18 (by decide))
      refine z_iload_n dX10_result_24 rfl rfl ?_
      refine z_sw8 (fun s25 => ?_) (fun s25 => ?_) (fun s25 => ?_) (fun s25 => ?_) (fun s25 => ?_) (fun s25 => ?_) (fun s25 => ?_) (fun s25 => ?_) (fun s25 => ?_) (fun s25 => ?_)
      · skip
        refine z_tableOut (tgt := 112) dX10_result_25 rfl (sw_out s25) (by decide) ?_
        first | refine z_aload_n dX10_result_112 rfl rfl ?_ | refine z_aload_nN dX10_result_112 rfl rfl ?_
        refine zmg_233 rfl dX10_result_113 rfl ?_
        rw [hC.2.2.2.2.1]
        first | refine z_aload_n dX10_result_116 rfl rfl ?_ | refine z_aload_nN dX10_result_116 rfl rfl ?_
        refine zcx_X10_271 rfl dX10_result_117 rfl mo_recv (q_doubles g h m S C hC) rfl rfl ⟨(Nat.le_of_ble_eq_true rfl), (Nat.le_of_ble_eq_true rfl)⟩ ⟨(Nat.le_of_ble_eq_true rfl), (Nat.le_of_ble_eq_true rfl)⟩ (Nat.le_of_ble_eq_true rfl) ?_
        refine z_isub dX10_result_120 rfl ?_
        exact z_iret dX10_result_121 rfl rfl (mPost_of hR (res_some hw c9 (by grind [resOf]))) (Nat.le_of_ble_eq_true rfl) (Nat.le_of_ble_eq_true rfl)
      · skip
        refine z_tableIn (off := 51) (tgt := 76) dX10_result_25 rfl (by decide) (by decide) (by decide) (by decide) ?_
        first | refine z_aload_n dX10_result_76 rfl rfl ?_ | refine z_aload_nN dX10_result_76 rfl rfl ?_
        refine zmg_249 rfl dX10_result_77 rfl ?_
        rw [hC.2.2.2.1]
        exact z_iret dX10_result_80 rfl rfl (mPost_of hR (res_some hw c9 (by grind [resOf]))) (Nat.le_of_ble_eq_true rfl) (Nat.le_of_ble_eq_true rfl)
      · skip
        refine z_tableIn (off := 56) (tgt := 81) dX10_result_25 rfl (by decide) (by decide) (by decide) (by decide) ?_
        first | refine z_aload_n dX10_result_81 rfl rfl ?_ | refine z_aload_nN dX10_result_81 rfl rfl ?_
        refine zmg_233 rfl dX10_result_82 rfl ?_
        rw [hC.2.2.2.2.1]
        exact z_iret dX10_result_85 rfl rfl (mPost_of hR (res_some hw c9 (by grind [resOf]))) (Nat.le_of_ble_eq_true rfl) (Nat.le_of_ble_eq_true rfl)
      · skip
        refine z_tableIn (off := 61) (tgt := 86) dX10_result_25 rfl (by decide) (by decide) (by decide) (by decide) ?_
        first | refine z_aload_n dX10_result_86 rfl rfl ?_ | refine z_aload_nN dX10_result_86 rfl rfl ?_
        refine z_iload_n dX10_result_87 rfl rfl ?_
        refine z_iconst (v := 2) dX10_result_88 rfl (by decide) ?_
        refine z_isub dX10_result_89 rfl ?_
        refine zcx_X10_265 rfl dX10_result_90 rfl mo_recv (q_besides g h m S C hC _) rfl rfl ⟨(Nat.le_of_ble_eq_true rfl), (Nat.le_of_ble_eq_true rfl)⟩ ⟨(Nat.le_of_ble_eq_true rfl), (Nat.le_of_ble_eq_true rfl)⟩ (Nat.le_of_ble_eq_true rfl) ?_
        exact z_iret dX10_result_93 rfl rfl (mPost_of hR (res_some hw c9 (by grind [resOf]))) (Nat.le_of_ble_eq_true rfl) (Nat.le_of_ble_eq_true rfl)
      · skip
        refine z_tableIn (off := 61) (tgt := 86) dX10_result_25 rfl (by decide) (by decide) (by decide) (by decide) ?_
        first | refine z_aload_n dX10_result_86 rfl rfl ?_ | refine z_aload_nN dX10_result_86 rfl rfl ?_
        refine z_iload_n dX10_result_87 rfl rfl ?_
        refine z_iconst (v := 2) dX10_result_88 rfl (by decide) ?_
        refine z_isub dX10_result_89 rfl ?_
        refine zcx_X10_265 rfl dX10_result_90 rfl mo_recv (q_besides g h m S C hC _) rfl rfl ⟨(Nat.le_of_ble_eq_true rfl), (Nat.le_of_ble_eq_true rfl)⟩ ⟨(Nat.le_of_ble_eq_true rfl), (Nat.le_of_ble_eq_true rfl)⟩ (Nat.le_of_ble_eq_true rfl) ?_
        exact z_iret dX10_result_93 rfl rfl (mPost_of hR (res_some hw c9 (by grind [resOf]))) (Nat.le_of_ble_eq_true rfl) (Nat.le_of_ble_eq_true rfl)
      · skip
        refine z_tableIn (off := 61) (tgt := 86) dX10_result_25 rfl (by decide) (by decide) (by decide) (by decide) ?_
        first | refine z_aload_n dX10_result_86 rfl rfl ?_ | refine z_aload_nN dX10_result_86 rfl rfl ?_
        refine z_iload_n dX10_result_87 rfl rfl ?_
        refine z_iconst (v := 2) dX10_result_88 rfl (by decide) ?_
        refine z_isub dX10_result_89 rfl ?_
        refine zcx_X10_265 rfl dX10_result_90 rfl mo_recv (q_besides g h m S C hC _) rfl rfl ⟨(Nat.le_of_ble_eq_true rfl), (Nat.le_of_ble_eq_true rfl)⟩ ⟨(Nat.le_of_ble_eq_true rfl), (Nat.le_of_ble_eq_true rfl)⟩ (Nat.le_of_ble_eq_true rfl) ?_
        exact z_iret dX10_result_93 rfl rfl (mPost_of hR (res_some hw c9 (by grind [resOf]))) (Nat.le_of_ble_eq_true rfl) (Nat.le_of_ble_eq_true rfl)
      · skip
        refine z_tableIn (off := 69) (tgt := 94) dX10_result_25 rfl (by decide) (by decide) (by decide) (by decide) ?_
        first | refine z_aload_n dX10_result_94 rfl rfl ?_ | refine z_aload_nN dX10_result_94 rfl rfl ?_
        refine z_iload_n dX10_result_95 rfl rfl ?_
        refine z_iconst (v := 4) dX10_result_96 rfl (by decide) ?_
        refine z_isub dX10_result_97 rfl ?_
        refine zcx_X10_268 rfl dX10_result_98 rfl mo_recv (q_withWhich g h m S C hC _) rfl rfl ⟨(Nat.le_of_ble_eq_true rfl), (Nat.le_of_ble_eq_true rfl)⟩ ⟨(Nat.le_of_ble_eq_true rfl), (Nat.le_of_ble_eq_true rfl)⟩ (Nat.le_of_ble_eq_true rfl) ?_
        exact z_iret dX10_result_101 rfl rfl (mPost_of hR (res_some hw c9 (by grind [resOf]))) (Nat.le_of_ble_eq_true rfl) (Nat.le_of_ble_eq_true rfl)
      · skip
        refine z_tableIn (off := 69) (tgt := 94) dX10_result_25 rfl (by decide) (by decide) (by decide) (by decide) ?_
        first | refine z_aload_n dX10_result_94 rfl rfl ?_ | refine z_aload_nN dX10_result_94 rfl rfl ?_
        refine z_iload_n dX10_result_95 rfl rfl ?_
        refine z_iconst (v := 4) dX10_result_96 rfl (by decide) ?_
        refine z_isub dX10_result_97 rfl ?_
        refine zcx_X10_268 rfl dX10_result_98 rfl mo_recv (q_withWhich g h m S C hC _) rfl rfl ⟨(Nat.le_of_ble_eq_true rfl), (Nat.le_of_ble_eq_true rfl)⟩ ⟨(Nat.le_of_ble_eq_true rfl), (Nat.le_of_ble_eq_true rfl)⟩ (Nat.le_of_ble_eq_true rfl) ?_
        exact z_iret dX10_result_101 rfl rfl (mPost_of hR (res_some hw c9 (by grind [resOf]))) (Nat.le_of_ble_eq_true rfl) (Nat.le_of_ble_eq_true rfl)
      · skip
        refine z_tableIn (off := 77) (tgt := 102) dX10_result_25 rfl (by decide) (by decide) (by decide) (by decide) ?_
        first | refine z_aload_n dX10_result_102 rfl rfl ?_ | refine z_aload_nN dX10_result_102 rfl rfl ?_
        refine zcx_X10_271 rfl dX10_result_103 rfl mo_recv (q_doubles g h m S C hC) rfl rfl ⟨(Nat.le_of_ble_eq_true rfl), (Nat.le_of_ble_eq_true rfl)⟩ ⟨(Nat.le_of_ble_eq_true rfl), (Nat.le_of_ble_eq_true rfl)⟩ (Nat.le_of_ble_eq_true rfl) ?_
        exact z_iret dX10_result_106 rfl rfl (mPost_of hR (res_some hw c9 (by grind [resOf]))) (Nat.le_of_ble_eq_true rfl) (Nat.le_of_ble_eq_true rfl)
      · skip
        refine z_tableIn (off := 82) (tgt := 107) dX10_result_25 rfl (by decide) (by decide) (by decide) (by decide) ?_
        first | refine z_aload_n dX10_result_107 rfl rfl ?_ | refine z_aload_nN dX10_result_107 rfl rfl ?_
        refine zcx_X10_275 rfl dX10_result_108 rfl mo_recv (q_joinedKind g h m S C hC) rfl rfl ⟨(Nat.le_of_ble_eq_true rfl), (Nat.le_of_ble_eq_true rfl)⟩ ⟨(Nat.le_of_ble_eq_true rfl), (Nat.le_of_ble_eq_true rfl)⟩ (Nat.le_of_ble_eq_true rfl) ?_
        exact z_iret dX10_result_111 rfl rfl (mPost_of hR (res_some hw c9 (by grind [resOf]))) (Nat.le_of_ble_eq_true rfl) (Nat.le_of_ble_eq_true rfl)
  · skip
    refine z_iconst (v := -1) dX10_result_12 rfl (by decide) ?_
    exact z_iret dX10_result_13 rfl rfl (mPost_of hR (by grind [pResult])) (Nat.le_of_ble_eq_true rfl) (Nat.le_of_ble_eq_true rfl)

set_option maxHeartbeats 4000000 in
set_option maxRecDepth 100000 in
theorem R_step (g : zG) (h : zH) (m : Nat) (S : sMS) (w : sW) (hR : RepM S w) (k what : Int32) : zM g yX10_step cX10_step 3 (some .int) rmX10_step [.ref m, .int k, .int what] (mUp m S h) (mPost m h (pStep w k what)) := by
  refine zM_of (by decide) (Nat.le_of_ble_eq_true rfl) ?_
  refine z_iload_n dX10_step_0 rfl rfl ?_
  refine z_if_lt (tgt := 16) dX10_step_1 rfl (by decide) (fun c1 => ?_) (fun c1 => ?_)
  · skip
    refine z_iconst (v := -1) dX10_step_16 rfl (by decide) ?_
    exact z_iret dX10_step_17 rfl rfl (mPost_of hR (by grind [pStep])) (Nat.le_of_ble_eq_true rfl) (Nat.le_of_ble_eq_true rfl)
  · skip
    refine z_iload_n dX10_step_4 rfl rfl ?_
    refine z_i2l dX10_step_5 rfl ?_
    refine z_lconst (v := 0) dX10_step_6 rfl (by decide) ?_
    refine zk_X10_207 rfl dX10_step_7 rfl ?_
    refine zcx_X10_72 rfl dX10_step_10 rfl (r_in32 g _ _ 0 3 rfl rfl) rfl rfl ⟨(Nat.le_of_ble_eq_true rfl), (Nat.le_of_ble_eq_true rfl)⟩ ⟨(Nat.le_of_ble_eq_true rfl), (Nat.le_of_ble_eq_true rfl)⟩ (Nat.le_of_ble_eq_true rfl) ?_
    refine z_bif_ne (tgt := 18) dX10_step_13 rfl (by decide) (fun c13 => ?_) (fun c13 => ?_)
    · skip
      rcases hw : w.2.2.2.2.2.1 with _ | C
      · skip
        first | refine z_aload_n dX10_step_18 rfl rfl ?_ | refine z_aload_nN dX10_step_18 rfl rfl ?_
        refine zmg_258 rfl dX10_step_19 rfl ?_
        rw [wco_none hR hw]
        refine z_if_ne (tgt := 28) dX10_step_22 rfl (by decide) (fun c22 => absurd c22 (fun z => z rfl)) (fun c22 => ?_)
        refine z_bipush (v := -2) dX10_step_25 rfl (by decide) ?_
        exact z_iret dX10_step_27 rfl rfl (mPost_of hR (stp_none hw c1 c13)) (Nat.le_of_ble_eq_true rfl) (Nat.le_of_ble_eq_true rfl)
      · have hC := wco_some hR hw
        have hl40 : C.2.2.2.length ≤ 40 := hC.2.2.2.2.2.1
        obtain ⟨n, hn, rfl⟩ := nI_of0 c1
        have hix : ix (nI n) = n := nI_clamp (by omega)
        first | refine z_aload_n dX10_step_18 rfl rfl ?_ | refine z_aload_nN dX10_step_18 rfl rfl ?_
        refine zmg_258 rfl dX10_step_19 rfl ?_
        rw [hC.1]
        refine z_if_ne (tgt := 28) dX10_step_22 rfl (by decide) (fun c22 => ?_) (fun c22 => absurd c22 (by decide))
        refine z_iload_n dX10_step_28 rfl rfl ?_
        first | refine z_aload_n dX10_step_29 rfl rfl ?_ | refine z_aload_nN dX10_step_29 rfl rfl ?_
        refine zmg_233 rfl dX10_step_30 rfl ?_
        rw [hC.2.2.2.2.1]
        refine z_icmp_lt (tgt := 39) dX10_step_33 rfl (by decide) (fun c33 => ?_) (fun c33 => ?_)
        · skip
          have hkl : n < C.2.2.2.length := Nat.lt_of_not_le (fun z => absurd c33 (nI_nlt z (by omega)))
          obtain ⟨t, hk⟩ : ∃ t, C.2.2.2[n]? = some t := ⟨_, List.getElem?_eq_getElem hkl⟩
          have hs := step_a (hC.2.2.2.2.2.2 n t hk)
          refine z_iload_n dX10_step_39 rfl rfl ?_
          refine z_sw2 (fun s40 => ?_) (fun s40 => ?_) (fun s40 => ?_) (fun s40 => ?_)
          · skip
            refine z_tableOut (tgt := 89) dX10_step_40 rfl (sw_out s40) (by decide) ?_
            first | refine z_aload_n dX10_step_89 rfl rfl ?_ | refine z_aload_nN dX10_step_89 rfl rfl ?_
            refine zmg_45 rfl dX10_step_90 rfl ?_
            refine z_iload_n dX10_step_93 rfl rfl ?_
            refine zm_iald dX10_step_94 rfl rfl (vp_in_nI (by omega) (by decide)) ?_
            rw [nI_clamp hn, hs.2.2.2]
            exact z_iret dX10_step_95 rfl rfl (mPost_of hR (stp_some hw c1 c13 (by rw [hix]; exact hk) (by grind [stepOf]))) (Nat.le_of_ble_eq_true rfl) (Nat.le_of_ble_eq_true rfl)
          · skip
            refine z_tableIn (off := 28) (tgt := 68) dX10_step_40 rfl (by decide) (by decide) (by decide) (by decide) ?_
            first | refine z_aload_n dX10_step_68 rfl rfl ?_ | refine z_aload_nN dX10_step_68 rfl rfl ?_
            refine zmg_36 rfl dX10_step_69 rfl ?_
            refine z_iload_n dX10_step_72 rfl rfl ?_
            refine zm_iald dX10_step_73 rfl rfl (vp_in_nI (by omega) (by decide)) ?_
            rw [nI_clamp hn, hs.1]
            exact z_iret dX10_step_74 rfl rfl (mPost_of hR (stp_some hw c1 c13 (by rw [hix]; exact hk) (by grind [stepOf]))) (Nat.le_of_ble_eq_true rfl) (Nat.le_of_ble_eq_true rfl)
          · skip
            refine z_tableIn (off := 35) (tgt := 75) dX10_step_40 rfl (by decide) (by decide) (by decide) (by decide) ?_
            first | refine z_aload_n dX10_step_75 rfl rfl ?_ | refine z_aload_nN dX10_step_75 rfl rfl ?_
            refine zmg_39 rfl dX10_step_76 rfl ?_
            refine z_iload_n dX10_step_79 rfl rfl ?_
            refine zm_iald dX10_step_80 rfl rfl (vp_in_nI (by omega) (by decide)) ?_
            rw [nI_clamp hn, hs.2.1]
            exact z_iret dX10_step_81 rfl rfl (mPost_of hR (stp_some hw c1 c13 (by rw [hix]; exact hk) (by grind [stepOf]))) (Nat.le_of_ble_eq_true rfl) (Nat.le_of_ble_eq_true rfl)
          · skip
            refine z_tableIn (off := 42) (tgt := 82) dX10_step_40 rfl (by decide) (by decide) (by decide) (by decide) ?_
            first | refine z_aload_n dX10_step_82 rfl rfl ?_ | refine z_aload_nN dX10_step_82 rfl rfl ?_
            refine zmg_42 rfl dX10_step_83 rfl ?_
            refine z_iload_n dX10_step_86 rfl rfl ?_
            refine zm_iald dX10_step_87 rfl rfl (vp_in_nI (by omega) (by decide)) ?_
            rw [nI_clamp hn, hs.2.2.1]
            exact z_iret dX10_step_88 rfl rfl (mPost_of hR (stp_some hw c1 c13 (by rw [hix]; exact hk) (by grind [stepOf]))) (Nat.le_of_ble_eq_true rfl) (Nat.le_of_ble_eq_true rfl)
        · skip
          refine z_bipush (v := -4) dX10_step_36 rfl (by decide) ?_
          exact z_iret dX10_step_38 rfl rfl (mPost_of hR (stp_no hw c1 c13 (by rw [hix]; exact List.getElem?_eq_none (Nat.le_of_not_lt (fun z => c33 (nI_lt z (by omega))))))) (Nat.le_of_ble_eq_true rfl) (Nat.le_of_ble_eq_true rfl)
    · skip
      refine z_iconst (v := -1) dX10_step_16 rfl (by decide) ?_
      exact z_iret dX10_step_17 rfl rfl (mPost_of hR (by grind [pStep])) (Nat.le_of_ble_eq_true rfl) (Nat.le_of_ble_eq_true rfl)

