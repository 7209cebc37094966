abbrev YX8_holders : zY := (yX8_holders.cls, cX8_holders, 3, (some .int), rmX8_holders, yX8_holders.name, fun _ _ => True)
set_option maxHeartbeats 800000 in
set_option maxRecDepth 100000 in
theorem m_holders_L (g : zG) (h : zH) (col : Nat → Nat) (cc oc p : Nat) (R : sR) (F : Nat → Option Nat) (Z : Nat → Int32) (hr : rcAt h col cc oc p R F Z) : ∀ (n i : Nat), i + n = 8 → zZ g YX8_holders (zE g (fun v h1 => v = some (.int (nI (sm 8 (fun r => if R.1 r = 2 then 1 else 0)))) ∧ h1 = h) 0 0) 4 [(1, .int (nI (sm i (fun r => if R.1 r = 2 then 1 else 0)))), (2, .int (nI i)), (0, .ref p)] [] h 0 0 := by
  intro n
  induction n with
  | zero =>
    intro i hin
    refine z_iload_n dX8_holders_4 rfl rfl ?_
    refine z_bipush (v := 8) dX8_holders_5 rfl (by decide) ?_
    refine z_icmp_ge (tgt := 28) dX8_holders_7 rfl (by decide) (fun c7 => ?_) (fun c7 => absurd c7 (fun z => z (nI_le (a := 8) (by omega) (by omega))))
    refine z_iload_n dX8_holders_28 rfl rfl ?_
    exact z_iret dX8_holders_29 rfl rfl ⟨by rw [show i = 8 from by omega], rfl⟩ (Nat.le_of_ble_eq_true rfl) (Nat.le_of_ble_eq_true rfl)
  | succ n ih =>
    intro i hin
    rcases hF : F i with _ | a
    · have hst : ¬ R.1 i = 2 := fun e => by rcases rc_n hr (show i < 8 by omega) hF with z | z <;> (rw [z.1] at e; exact absurd e (by decide))
      refine z_iload_n dX8_holders_4 rfl rfl ?_
      refine z_bipush (v := 8) dX8_holders_5 rfl (by decide) ?_
      refine z_icmp_ge (tgt := 28) dX8_holders_7 rfl (by decide) (fun c7 => absurd c7 (nI_ge (b := 8) (by omega) (by omega))) (fun c7 => ?_)
      first | refine z_aload_n dX8_holders_10 rfl rfl ?_ | refine z_aload_nN dX8_holders_10 rfl rfl ?_
      refine zg_X8_11 rfl dX8_holders_11 rfl hr.1.1 rfl ?_
      refine z_iload_n dX8_holders_14 rfl rfl ?_
      refine z_aaldn dX8_holders_15 rfl hr.1.2.1 rfl rfl (vp_in_nI (by omega) (by decide)) (by rw [nI_clamp (show i < 2 ^ 31 by omega)]; exact hF) ?_
      refine z_ifnullN (tgt := 22) dX8_holders_16 rfl (by decide) ?_
      refine z_iinc (v := nI (i + 1)) dX8_holders_22 rfl rfl (nI_inc i) (Nat.le_of_ble_eq_true rfl) ?_
      refine z_goto (tgt := 4) dX8_holders_25 rfl (by decide) ?_
      have hss : sm (i + 1) (fun r => if R.1 r = 2 then 1 else 0) = sm i (fun r => if R.1 r = 2 then 1 else 0) := by show _ + (if R.1 i = 2 then 1 else 0) = _; rw [if_neg hst, Nat.add_zero]
      refine z_lv [(1, .int (nI (sm (i + 1) (fun r => if R.1 r = 2 then 1 else 0)))), (2, .int (nI (i + 1))), (0, .ref p)] (by rw [hss]; exact ⟨rfl, rfl, rfl, trivial⟩) ?_
      exact ih (i + 1) (by omega)
    · have hst := (rc_a hr (show i < 8 by omega) hF).1
      refine z_iload_n dX8_holders_4 rfl rfl ?_
      refine z_bipush (v := 8) dX8_holders_5 rfl (by decide) ?_
      refine z_icmp_ge (tgt := 28) dX8_holders_7 rfl (by decide) (fun c7 => absurd c7 (nI_ge (b := 8) (by omega) (by omega))) (fun c7 => ?_)
      first | refine z_aload_n dX8_holders_10 rfl rfl ?_ | refine z_aload_nN dX8_holders_10 rfl rfl ?_
      refine zg_X8_11 rfl dX8_holders_11 rfl hr.1.1 rfl ?_
      refine z_iload_n dX8_holders_14 rfl rfl ?_
      refine z_aalds dX8_holders_15 rfl hr.1.2.1 rfl rfl (vp_in_nI (by omega) (by decide)) (by rw [nI_clamp (show i < 2 ^ 31 by omega)]; exact hF) ?_
      refine z_ifnull dX8_holders_16 rfl ?_
      refine z_iinc (v := nI ((sm i (fun r => if R.1 r = 2 then 1 else 0)) + 1)) dX8_holders_19 rfl rfl (nI_inc _) (Nat.le_of_ble_eq_true rfl) ?_
      refine z_iinc (v := nI (i + 1)) dX8_holders_22 rfl rfl (nI_inc i) (Nat.le_of_ble_eq_true rfl) ?_
      refine z_goto (tgt := 4) dX8_holders_25 rfl (by decide) ?_
      have hss : sm (i + 1) (fun r => if R.1 r = 2 then 1 else 0) = sm i (fun r => if R.1 r = 2 then 1 else 0) + 1 := by show _ + (if R.1 i = 2 then 1 else 0) = _; rw [if_pos hst]
      refine z_lv [(1, .int (nI (sm (i + 1) (fun r => if R.1 r = 2 then 1 else 0)))), (2, .int (nI (i + 1))), (0, .ref p)] (by rw [hss]; exact ⟨rfl, rfl, rfl, trivial⟩) ?_
      exact ih (i + 1) (by omega)

set_option maxHeartbeats 4000000 in
set_option maxRecDepth 100000 in
/-- X8_holders -/
theorem m_holders (g : zG) (h : zH) (col : Nat → Nat) (cc oc p : Nat) (R : sR) (F : Nat → Option Nat) (Z : Nat → Int32) (hr : rcAt h col cc oc p R F Z) : zX g yX8_holders cX8_holders 3 (some .int) rmX8_holders [.ref p] h (.int (nI (sm 8 (fun r => if R.1 r = 2 then 1 else 0)))) h := by
  refine zM_of (by decide) (Nat.le_of_ble_eq_true rfl) ?_
  refine z_iconst (v := 0) dX8_holders_0 rfl (by decide) ?_
  refine z_istore_n dX8_holders_1 rfl (Nat.le_of_ble_eq_true rfl) ?_
  refine z_iconst (v := 0) dX8_holders_2 rfl (by decide) ?_
  refine z_istore_n dX8_holders_3 rfl (Nat.le_of_ble_eq_true rfl) ?_
  refine z_lv [(1, .int (nI (sm 0 (fun r => if R.1 r = 2 then 1 else 0)))), (2, .int (nI 0)), (0, .ref p)] ⟨rfl, rfl, rfl, trivial⟩ ?_
  exact m_holders_L g h col cc oc p R F Z hr 8 0 (by omega)

theorem img_iff {h : zH} {col : Nat → Nat} {i : Option Nat} {I : Option sR} (hI : imgC h col i I) : I.isSome = true ↔ i.isSome = true := by
  cases I with
  | none => have hI : i = none := hI; rw [hI]; exact ⟨fun z => absurd z (by decide), fun z => absurd z (by decide)⟩
  | some R => obtain ⟨p, F, Z, e, -⟩ := hI; rw [e]; exact ⟨fun _ => rfl, fun _ => rfl⟩
theorem pat_iff {h : zH} {col : Nat → Nat} {c : Nat} {i : Option Nat} {I : Option (List sAct)} (hI : patC h col c i I) : I.isSome = true ↔ i.isSome = true := by
  cases I with
  | none => have hI : i = none := hI; rw [hI]; exact ⟨fun z => absurd z (by decide), fun z => absurd z (by decide)⟩
  | some R => obtain ⟨p, e, -⟩ := hI; rw [e]; exact ⟨fun _ => rfl, fun _ => rfl⟩

abbrev YX9_patchesMade : zY := (yX9_patchesMade.cls, cX9_patchesMade, 3, (some .int), rmX9_patchesMade, yX9_patchesMade.name, fun _ _ => True)
set_option maxHeartbeats 800000 in
set_option maxRecDepth 100000 in
theorem m_patchesMade_L (g : zG) (h : zH) (x m : Nat) (w : sW) (col : Nat → Nat) (p : Nat) (F : Nat → Option Nat) (Z : Nat → Int32) (k : Option Nat) (I P : Nat → Option Nat) (q : Nat → Int32) (T : alT) (V : Nat → sC) (hR : RC h x m w col p F Z k I P q T V) : ∀ (n i : Nat), i + n = 4 → zZ g YX9_patchesMade (zE g (fun v h1 => v = some (.int (nI (sm 4 (fun p => if (w.2.2.2.2.2.2 p).isSome = true then 1 else 0)))) ∧ h1 = h) 0 0) 4 [(1, .int (nI (sm i (fun p => if (w.2.2.2.2.2.2 p).isSome = true then 1 else 0)))), (2, .int (nI i)), (0, .ref x)] [] h 0 0 := by
  intro n
  induction n with
  | zero =>
    intro i hin
    refine z_iload_n dX9_patchesMade_4 rfl rfl ?_
    refine z_iconst (v := 4) dX9_patchesMade_5 rfl (by decide) ?_
    refine z_icmp_ge (tgt := 27) dX9_patchesMade_6 rfl (by decide) (fun c6 => ?_) (fun c6 => absurd c6 (fun z => z (nI_le (a := 4) (by omega) (by omega))))
    refine z_iload_n dX9_patchesMade_27 rfl rfl ?_
    exact z_iret dX9_patchesMade_28 rfl rfl ⟨by rw [show i = 4 from by omega], rfl⟩ (Nat.le_of_ble_eq_true rfl) (Nat.le_of_ble_eq_true rfl)
  | succ n ih =>
    intro i hin
    rcases hF : P i with _ | a
    · have hst := (fun e => (absurd ((pat_iff (hR.2.2.2.2.2.2.2 i (by omega))).mp e) (by rw [hF]; decide) : False))
      refine z_iload_n dX9_patchesMade_4 rfl rfl ?_
      refine z_iconst (v := 4) dX9_patchesMade_5 rfl (by decide) ?_
      refine z_icmp_ge (tgt := 27) dX9_patchesMade_6 rfl (by decide) (fun c6 => absurd c6 (nI_ge (b := 4) (by omega) (by omega))) (fun c6 => ?_)
      first | refine z_aload_n dX9_patchesMade_9 rfl rfl ?_ | refine z_aload_nN dX9_patchesMade_9 rfl rfl ?_
      refine zg_X9_22 rfl dX9_patchesMade_10 rfl hR.2.2.1.1 rfl ?_
      refine z_iload_n dX9_patchesMade_13 rfl rfl ?_
      refine z_aaldn dX9_patchesMade_14 rfl hR.2.2.1.2.2.1 rfl rfl (vp_in_nI (by omega) (by decide)) (by rw [nI_clamp (show i < 2 ^ 31 by omega)]; exact hF) ?_
      refine z_ifnullN (tgt := 21) dX9_patchesMade_15 rfl (by decide) ?_
      refine z_iinc (v := nI (i + 1)) dX9_patchesMade_21 rfl rfl (nI_inc i) (Nat.le_of_ble_eq_true rfl) ?_
      refine z_goto (tgt := 4) dX9_patchesMade_24 rfl (by decide) ?_
      have hss : sm (i + 1) (fun p => if (w.2.2.2.2.2.2 p).isSome = true then 1 else 0) = sm i (fun p => if (w.2.2.2.2.2.2 p).isSome = true then 1 else 0) := by show _ + (if _ then 1 else 0) = _; rw [if_neg hst, Nat.add_zero]
      refine z_lv [(1, .int (nI (sm (i + 1) (fun p => if (w.2.2.2.2.2.2 p).isSome = true then 1 else 0)))), (2, .int (nI (i + 1))), (0, .ref x)] (by rw [hss]; exact ⟨rfl, rfl, rfl, trivial⟩) ?_
      exact ih (i + 1) (by omega)
    · have hst := (pat_iff (hR.2.2.2.2.2.2.2 i (by omega))).mpr (by rw [hF]; rfl)
      refine z_iload_n dX9_patchesMade_4 rfl rfl ?_
      refine z_iconst (v := 4) dX9_patchesMade_5 rfl (by decide) ?_
      refine z_icmp_ge (tgt := 27) dX9_patchesMade_6 rfl (by decide) (fun c6 => absurd c6 (nI_ge (b := 4) (by omega) (by omega))) (fun c6 => ?_)
      first | refine z_aload_n dX9_patchesMade_9 rfl rfl ?_ | refine z_aload_nN dX9_patchesMade_9 rfl rfl ?_
      refine zg_X9_22 rfl dX9_patchesMade_10 rfl hR.2.2.1.1 rfl ?_
      refine z_iload_n dX9_patchesMade_13 rfl rfl ?_
      refine z_aalds dX9_patchesMade_14 rfl hR.2.2.1.2.2.1 rfl rfl (vp_in_nI (by omega) (by decide)) (by rw [nI_clamp (show i < 2 ^ 31 by omega)]; exact hF) ?_
      refine z_ifnull dX9_patchesMade_15 rfl ?_
      refine z_iinc (v := nI ((sm i (fun p => if (w.2.2.2.2.2.2 p).isSome = true then 1 else 0)) + 1)) dX9_patchesMade_18 rfl rfl (nI_inc _) (Nat.le_of_ble_eq_true rfl) ?_
      refine z_iinc (v := nI (i + 1)) dX9_patchesMade_21 rfl rfl (nI_inc i) (Nat.le_of_ble_eq_true rfl) ?_
      refine z_goto (tgt := 4) dX9_patchesMade_24 rfl (by decide) ?_
      have hss : sm (i + 1) (fun p => if (w.2.2.2.2.2.2 p).isSome = true then 1 else 0) = sm i (fun p => if (w.2.2.2.2.2.2 p).isSome = true then 1 else 0) + 1 := by show _ + (if _ then 1 else 0) = _; rw [if_pos hst]
      refine z_lv [(1, .int (nI (sm (i + 1) (fun p => if (w.2.2.2.2.2.2 p).isSome = true then 1 else 0)))), (2, .int (nI (i + 1))), (0, .ref x)] (by rw [hss]; exact ⟨rfl, rfl, rfl, trivial⟩) ?_
      exact ih (i + 1) (by omega)

set_option maxHeartbeats 4000000 in
set_option maxRecDepth 100000 in
/-- X9_patchesMade -/
theorem m_patchesMade (g : zG) (h : zH) (x m : Nat) (w : sW) (col : Nat → Nat) (p : Nat) (F : Nat → Option Nat) (Z : Nat → Int32) (k : Option Nat) (I P : Nat → Option Nat) (q : Nat → Int32) (T : alT) (V : Nat → sC) (hR : RC h x m w col p F Z k I P q T V) : zX g yX9_patchesMade cX9_patchesMade 3 (some .int) rmX9_patchesMade [.ref x] h (.int (nI (sm 4 (fun p => if (w.2.2.2.2.2.2 p).isSome = true then 1 else 0)))) h := by
  refine zM_of (by decide) (Nat.le_of_ble_eq_true rfl) ?_
  refine z_iconst (v := 0) dX9_patchesMade_0 rfl (by decide) ?_
  refine z_istore_n dX9_patchesMade_1 rfl (Nat.le_of_ble_eq_true rfl) ?_
  refine z_iconst (v := 0) dX9_patchesMade_2 rfl (by decide) ?_
  refine z_istore_n dX9_patchesMade_3 rfl (Nat.le_of_ble_eq_true rfl) ?_
  refine z_lv [(1, .int (nI (sm 0 (fun p => if (w.2.2.2.2.2.2 p).isSome = true then 1 else 0)))), (2, .int (nI 0)), (0, .ref x)] ⟨rfl, rfl, rfl, trivial⟩ ?_
  exact m_patchesMade_L g h x m w col p F Z k I P q T V hR 4 0 (by omega)

abbrev YX9_imagesKept : zY := (yX9_imagesKept.cls, cX9_imagesKept, 3, (some .int), rmX9_imagesKept, yX9_imagesKept.name, fun _ _ => True)
set_option maxHeartbeats 800000 in
set_option maxRecDepth 100000 in
theorem m_imagesKept_L (g : zG) (h : zH) (x m : Nat) (w : sW) (col : Nat → Nat) (p : Nat) (F : Nat → Option Nat) (Z : Nat → Int32) (k : Option Nat) (I P : Nat → Option Nat) (q : Nat → Int32) (T : alT) (V : Nat → sC) (hR : RC h x m w col p F Z k I P q T V) : ∀ (n i : Nat), i + n = 2 → zZ g YX9_imagesKept (zE g (fun v h1 => v = some (.int (nI (sm 2 (fun p => if (w.2.1 p).isSome = true then 1 else 0)))) ∧ h1 = h) 0 0) 4 [(1, .int (nI (sm i (fun p => if (w.2.1 p).isSome = true then 1 else 0)))), (2, .int (nI i)), (0, .ref x)] [] h 0 0 := by
  intro n
  induction n with
  | zero =>
    intro i hin
    refine z_iload_n dX9_imagesKept_4 rfl rfl ?_
    refine z_iconst (v := 2) dX9_imagesKept_5 rfl (by decide) ?_
    refine z_icmp_ge (tgt := 27) dX9_imagesKept_6 rfl (by decide) (fun c6 => ?_) (fun c6 => absurd c6 (fun z => z (nI_le (a := 2) (by omega) (by omega))))
    refine z_iload_n dX9_imagesKept_27 rfl rfl ?_
    exact z_iret dX9_imagesKept_28 rfl rfl ⟨by rw [show i = 2 from by omega], rfl⟩ (Nat.le_of_ble_eq_true rfl) (Nat.le_of_ble_eq_true rfl)
  | succ n ih =>
    intro i hin
    rcases hF : I i with _ | a
    · have hst := (fun e => (absurd ((img_iff (hR.2.2.2.2.2.1 i (by omega))).mp e) (by rw [hF]; decide) : False))
      refine z_iload_n dX9_imagesKept_4 rfl rfl ?_
      refine z_iconst (v := 2) dX9_imagesKept_5 rfl (by decide) ?_
      refine z_icmp_ge (tgt := 27) dX9_imagesKept_6 rfl (by decide) (fun c6 => absurd c6 (nI_ge (b := 2) (by omega) (by omega))) (fun c6 => ?_)
      first | refine z_aload_n dX9_imagesKept_9 rfl rfl ?_ | refine z_aload_nN dX9_imagesKept_9 rfl rfl ?_
      refine zg_X9_16 rfl dX9_imagesKept_10 rfl hR.2.2.1.1 rfl ?_
      refine z_iload_n dX9_imagesKept_13 rfl rfl ?_
      refine z_aaldn dX9_imagesKept_14 rfl hR.2.2.1.2.1 rfl rfl (vp_in_nI (by omega) (by decide)) (by rw [nI_clamp (show i < 2 ^ 31 by omega)]; exact hF) ?_
      refine z_ifnullN (tgt := 21) dX9_imagesKept_15 rfl (by decide) ?_
      refine z_iinc (v := nI (i + 1)) dX9_imagesKept_21 rfl rfl (nI_inc i) (Nat.le_of_ble_eq_true rfl) ?_
      refine z_goto (tgt := 4) dX9_imagesKept_24 rfl (by decide) ?_
      have hss : sm (i + 1) (fun p => if (w.2.1 p).isSome = true then 1 else 0) = sm i (fun p => if (w.2.1 p).isSome = true then 1 else 0) := by show _ + (if _ then 1 else 0) = _; rw [if_neg hst, Nat.add_zero]
      refine z_lv [(1, .int (nI (sm (i + 1) (fun p => if (w.2.1 p).isSome = true then 1 else 0)))), (2, .int (nI (i + 1))), (0, .ref x)] (by rw [hss]; exact ⟨rfl, rfl, rfl, trivial⟩) ?_
      exact ih (i + 1) (by omega)
    · have hst := (img_iff (hR.2.2.2.2.2.1 i (by omega))).mpr (by rw [hF]; rfl)
      refine z_iload_n dX9_imagesKept_4 rfl rfl ?_
      refine z_iconst (v := 2) dX9_imagesKept_5 rfl (by decide) ?_
      refine z_icmp_ge (tgt := 27) dX9_imagesKept_6 rfl (by decide) (fun c6 => absurd c6 (nI_ge (b := 2) (by omega) (by omega))) (fun c6 => ?_)
      first | refine z_aload_n dX9_imagesKept_9 rfl rfl ?_ | refine z_aload_nN dX9_imagesKept_9 rfl rfl ?_
      refine zg_X9_16 rfl dX9_imagesKept_10 rfl hR.2.2.1.1 rfl ?_
      refine z_iload_n dX9_imagesKept_13 rfl rfl ?_
      refine z_aalds dX9_imagesKept_14 rfl hR.2.2.1.2.1 rfl rfl (vp_in_nI (by omega) (by decide)) (by rw [nI_clamp (show i < 2 ^ 31 by omega)]; exact hF) ?_
      refine z_ifnull dX9_imagesKept_15 rfl ?_
      refine z_iinc (v := nI ((sm i (fun p => if (w.2.1 p).isSome = true then 1 else 0)) + 1)) dX9_imagesKept_18 rfl rfl (nI_inc _) (Nat.le_of_ble_eq_true rfl) ?_
      refine z_iinc (v := nI (i + 1)) dX9_imagesKept_21 rfl rfl (nI_inc i) (Nat.le_of_ble_eq_true rfl) ?_
      refine z_goto (tgt := 4) dX9_imagesKept_24 rfl (by decide) ?_
      have hss : sm (i + 1) (fun p => if (w.2.1 p).isSome = true then 1 else 0) = sm i (fun p => if (w.2.1 p).isSome = true then 1 else 0) + 1 := by show _ + (if _ then 1 else 0) = _; rw [if_pos hst]
      refine z_lv [(1, .int (nI (sm (i + 1) (fun p => if (w.2.1 p).isSome = true then 1 else 0)))), (2, .int (nI (i + 1))), (0, .ref x)] (by rw [hss]; exact ⟨rfl, rfl, rfl, trivial⟩) ?_
      exact ih (i + 1) (by omega)

set_option maxHeartbeats 4000000 in
set_option maxRecDepth 100000 in
/-- X9_imagesKept -/
theorem m_imagesKept (g : zG) (h : zH) (x m : Nat) (w : sW) (col : Nat → Nat) (p : Nat) (F : Nat → Option Nat) (Z : Nat → Int32) (k : Option Nat) (I P : Nat → Option Nat) (q : Nat → Int32) (T : alT) (V : Nat → sC) (hR : RC h x m w col p F Z k I P q T V) : zX g yX9_imagesKept cX9_imagesKept 3 (some .int) rmX9_imagesKept [.ref x] h (.int (nI (sm 2 (fun p => if (w.2.1 p).isSome = true then 1 else 0)))) h := by
  refine zM_of (by decide) (Nat.le_of_ble_eq_true rfl) ?_
  refine z_iconst (v := 0) dX9_imagesKept_0 rfl (by decide) ?_
  refine z_istore_n dX9_imagesKept_1 rfl (Nat.le_of_ble_eq_true rfl) ?_
  refine z_iconst (v := 0) dX9_imagesKept_2 rfl (by decide) ?_
  refine z_istore_n dX9_imagesKept_3 rfl (Nat.le_of_ble_eq_true rfl) ?_
  refine z_lv [(1, .int (nI (sm 0 (fun p => if (w.2.1 p).isSome = true then 1 else 0)))), (2, .int (nI 0)), (0, .ref x)] ⟨rfl, rfl, rfl, trivial⟩ ?_
  exact m_imagesKept_L g h x m w col p F Z k I P q T V hR 2 0 (by omega)

theorem m_isFirstF (g : zG) (h : zH) (p : Nat) (F : Nat → Option Nat) (Z : Nat → Int32) (hP : rAt h p F Z) (r : Nat) (hr : r < 8) (hF : F r = none) : zX g yX8_isFirstHolder cX8_isFirstHolder 2 (some .boolean) rmX8_isFirstHolder [.ref p, .int (nI r)] h (.int (if False then 1 else 0)) h := by
  rw [if_neg not_false]; exact m_isFirstN g h p F Z hP r hr hF

abbrev YX8_distinct : zY := (yX8_distinct.cls, cX8_distinct, 3, (some .int), rmX8_distinct, yX8_distinct.name, fun _ _ => True)
set_option maxHeartbeats 800000 in
set_option maxRecDepth 100000 in
theorem m_distinct_L (g : zG) (h : zH) (col : Nat → Nat) (cc oc p : Nat) (R : sR) (F : Nat → Option Nat) (Z : Nat → Int32) (hr : rcAt h col cc oc p R F Z) : ∀ (n i : Nat), i + n = 8 → zZ g YX8_distinct (zE g (fun v h1 => v = some (.int (nI (sm 8 (fun r => if R.1 r = 2 ∧ rLeast R r 8 0 = r then cntC 1 (R.2.1 r) else 0)))) ∧ h1 = h) 0 0) 4 [(1, .int (nI (sm i (fun r => if R.1 r = 2 ∧ rLeast R r 8 0 = r then cntC 1 (R.2.1 r) else 0)))), (2, .int (nI i)), (0, .ref p)] [] h 0 0 := by
  intro n
  induction n with
  | zero =>
    intro i hin
    refine z_iload_n dX8_distinct_4 rfl rfl ?_
    refine z_bipush (v := 8) dX8_distinct_5 rfl (by decide) ?_
    refine z_icmp_ge (tgt := 27) dX8_distinct_7 rfl (by decide) (fun c7 => ?_) (fun c7 => absurd c7 (fun z => z (nI_le (a := 8) (by omega) (by omega))))
    refine z_iload_n dX8_distinct_27 rfl rfl ?_
    exact z_iret dX8_distinct_28 rfl rfl ⟨by rw [show i = 8 from by omega], rfl⟩ (Nat.le_of_ble_eq_true rfl) (Nat.le_of_ble_eq_true rfl)
  | succ n ih =>
    intro i hin
    rcases hF : F i with _ | a
    · have hst : ¬ R.1 i = 2 := fun e => by rcases rc_n hr (show i < 8 by omega) hF with z | z <;> (rw [z.1] at e; exact absurd e (by decide))
      refine z_iload_n dX8_distinct_4 rfl rfl ?_
      refine z_bipush (v := 8) dX8_distinct_5 rfl (by decide) ?_
      refine z_icmp_ge (tgt := 27) dX8_distinct_7 rfl (by decide) (fun c7 => absurd c7 (nI_ge (b := 8) (by omega) (by omega))) (fun c7 => ?_)
      first | refine z_aload_n dX8_distinct_10 rfl rfl ?_ | refine z_aload_nN dX8_distinct_10 rfl rfl ?_
      refine z_iload_n dX8_distinct_11 rfl rfl ?_
      refine zcx_X8_30 rfl dX8_distinct_12 rfl hr.1.1 (m_isFirstF g h p F Z hr.1 i (by omega) hF) rfl rfl ⟨(Nat.le_of_ble_eq_true rfl), (Nat.le_of_ble_eq_true rfl)⟩ ⟨(Nat.le_of_ble_eq_true rfl), (Nat.le_of_ble_eq_true rfl)⟩ (Nat.le_of_ble_eq_true rfl) ?_
      refine z_bif_eq (tgt := 21) dX8_distinct_15 rfl (by decide) (fun c15 => ?_) (fun c15 => absurd c15 (fun z => z))
      refine z_iinc (v := nI (i + 1)) dX8_distinct_21 rfl rfl (nI_inc i) (Nat.le_of_ble_eq_true rfl) ?_
      refine z_goto (tgt := 4) dX8_distinct_24 rfl (by decide) ?_
      have hss : sm (i + 1) (fun r => if R.1 r = 2 ∧ rLeast R r 8 0 = r then cntC 1 (R.2.1 r) else 0) = sm i (fun r => if R.1 r = 2 ∧ rLeast R r 8 0 = r then cntC 1 (R.2.1 r) else 0) := by show _ + (if R.1 i = 2 ∧ rLeast R i 8 0 = i then _ else 0) = _; rw [if_neg (fun e => hst e.1), Nat.add_zero]
      refine z_lv [(1, .int (nI (sm (i + 1) (fun r => if R.1 r = 2 ∧ rLeast R r 8 0 = r then cntC 1 (R.2.1 r) else 0)))), (2, .int (nI (i + 1))), (0, .ref p)] (by rw [hss]; exact ⟨rfl, rfl, rfl, trivial⟩) ?_
      exact ih (i + 1) (by omega)
    · obtain ⟨hst, -, ⟨ho, c, hc, hcl⟩, -⟩ := rc_a hr (show i < 8 by omega) hF
      have hll := lh_rl hr (show i < 8 by omega) hF
      have l20 := ho.2.2.1
      by_cases hq : rLeast R i 8 0 = i
      · skip
        refine z_iload_n dX8_distinct_4 rfl rfl ?_
        refine z_bipush (v := 8) dX8_distinct_5 rfl (by decide) ?_
        refine z_icmp_ge (tgt := 27) dX8_distinct_7 rfl (by decide) (fun c7 => absurd c7 (nI_ge (b := 8) (by omega) (by omega))) (fun c7 => ?_)
        first | refine z_aload_n dX8_distinct_10 rfl rfl ?_ | refine z_aload_nN dX8_distinct_10 rfl rfl ?_
        refine z_iload_n dX8_distinct_11 rfl rfl ?_
        refine zcx_X8_30 rfl dX8_distinct_12 rfl hr.1.1 (m_isFirst g h p F Z hr.1 i (by omega) a hF) rfl rfl ⟨(Nat.le_of_ble_eq_true rfl), (Nat.le_of_ble_eq_true rfl)⟩ ⟨(Nat.le_of_ble_eq_true rfl), (Nat.le_of_ble_eq_true rfl)⟩ (Nat.le_of_ble_eq_true rfl) ?_
        refine z_bif_eq (tgt := 21) dX8_distinct_15 rfl (by decide) (fun c15 => absurd c15 (fun z => z (hll.trans hq))) (fun c15 => ?_)
        refine z_iinc (v := nI ((sm i (fun r => if R.1 r = 2 ∧ rLeast R r 8 0 = r then cntC 1 (R.2.1 r) else 0)) + 1)) dX8_distinct_18 rfl rfl (nI_inc _) (Nat.le_of_ble_eq_true rfl) ?_
        refine z_iinc (v := nI (i + 1)) dX8_distinct_21 rfl rfl (nI_inc i) (Nat.le_of_ble_eq_true rfl) ?_
        refine z_goto (tgt := 4) dX8_distinct_24 rfl (by decide) ?_
        have hss : sm (i + 1) (fun r => if R.1 r = 2 ∧ rLeast R r 8 0 = r then cntC 1 (R.2.1 r) else 0) = sm i (fun r => if R.1 r = 2 ∧ rLeast R r 8 0 = r then cntC 1 (R.2.1 r) else 0) + 1 := by show _ + (if R.1 i = 2 ∧ rLeast R i 8 0 = i then _ else 0) = _; rw [if_pos ⟨hst, hq⟩]; rfl
        refine z_lv [(1, .int (nI (sm (i + 1) (fun r => if R.1 r = 2 ∧ rLeast R r 8 0 = r then cntC 1 (R.2.1 r) else 0)))), (2, .int (nI (i + 1))), (0, .ref p)] (by rw [hss]; exact ⟨rfl, rfl, rfl, trivial⟩) ?_
        exact ih (i + 1) (by omega)
      · skip
        refine z_iload_n dX8_distinct_4 rfl rfl ?_
        refine z_bipush (v := 8) dX8_distinct_5 rfl (by decide) ?_
        refine z_icmp_ge (tgt := 27) dX8_distinct_7 rfl (by decide) (fun c7 => absurd c7 (nI_ge (b := 8) (by omega) (by omega))) (fun c7 => ?_)
        first | refine z_aload_n dX8_distinct_10 rfl rfl ?_ | refine z_aload_nN dX8_distinct_10 rfl rfl ?_
        refine z_iload_n dX8_distinct_11 rfl rfl ?_
        refine zcx_X8_30 rfl dX8_distinct_12 rfl hr.1.1 (m_isFirst g h p F Z hr.1 i (by omega) a hF) rfl rfl ⟨(Nat.le_of_ble_eq_true rfl), (Nat.le_of_ble_eq_true rfl)⟩ ⟨(Nat.le_of_ble_eq_true rfl), (Nat.le_of_ble_eq_true rfl)⟩ (Nat.le_of_ble_eq_true rfl) ?_
        refine z_bif_eq (tgt := 21) dX8_distinct_15 rfl (by decide) (fun c15 => ?_) (fun c15 => absurd c15 (fun z => hq (hll.symm.trans z)))
        refine z_iinc (v := nI (i + 1)) dX8_distinct_21 rfl rfl (nI_inc i) (Nat.le_of_ble_eq_true rfl) ?_
        refine z_goto (tgt := 4) dX8_distinct_24 rfl (by decide) ?_
        have hss : sm (i + 1) (fun r => if R.1 r = 2 ∧ rLeast R r 8 0 = r then cntC 1 (R.2.1 r) else 0) = sm i (fun r => if R.1 r = 2 ∧ rLeast R r 8 0 = r then cntC 1 (R.2.1 r) else 0) := by show _ + (if R.1 i = 2 ∧ rLeast R i 8 0 = i then _ else 0) = _; rw [if_neg (fun e => hq e.2), Nat.add_zero]
        refine z_lv [(1, .int (nI (sm (i + 1) (fun r => if R.1 r = 2 ∧ rLeast R r 8 0 = r then cntC 1 (R.2.1 r) else 0)))), (2, .int (nI (i + 1))), (0, .ref p)] (by rw [hss]; exact ⟨rfl, rfl, rfl, trivial⟩) ?_
        exact ih (i + 1) (by omega)

set_option maxHeartbeats 4000000 in
set_option maxRecDepth 100000 in
/-- X8_distinct -/
theorem m_distinct (g : zG) (h : zH) (col : Nat → Nat) (cc oc p : Nat) (R : sR) (F : Nat → Option Nat) (Z : Nat → Int32) (hr : rcAt h col cc oc p R F Z) : zX g yX8_distinct cX8_distinct 3 (some .int) rmX8_distinct [.ref p] h (.int (nI (sm 8 (fun r => if R.1 r = 2 ∧ rLeast R r 8 0 = r then cntC 1 (R.2.1 r) else 0)))) h := by
  refine zM_of (by decide) (Nat.le_of_ble_eq_true rfl) ?_
  refine z_iconst (v := 0) dX8_distinct_0 rfl (by decide) ?_
  refine z_istore_n dX8_distinct_1 rfl (Nat.le_of_ble_eq_true rfl) ?_
  refine z_iconst (v := 0) dX8_distinct_2 rfl (by decide) ?_
  refine z_istore_n dX8_distinct_3 rfl (Nat.le_of_ble_eq_true rfl) ?_
  refine z_lv [(1, .int (nI (sm 0 (fun r => if R.1 r = 2 ∧ rLeast R r 8 0 = r then cntC 1 (R.2.1 r) else 0)))), (2, .int (nI 0)), (0, .ref p)] ⟨rfl, rfl, rfl, trivial⟩ ?_
  exact m_distinct_L g h col cc oc p R F Z hr 8 0 (by omega)

abbrev YX8_distinctCells : zY := (yX8_distinctCells.cls, cX8_distinctCells, 3, (some .int), rmX8_distinctCells, yX8_distinctCells.name, fun _ _ => True)
set_option maxHeartbeats 800000 in
set_option maxRecDepth 100000 in
theorem m_distinctCells_L (g : zG) (h : zH) (col : Nat → Nat) (cc oc p : Nat) (R : sR) (F : Nat → Option Nat) (Z : Nat → Int32) (hr : rcAt h col cc oc p R F Z) : ∀ (n i : Nat), i + n = 8 → zZ g YX8_distinctCells (zE g (fun v h1 => v = some (.int (nI (sm 8 (fun r => if R.1 r = 2 ∧ rLeast R r 8 0 = r then cntC 2 (R.2.1 r) else 0)))) ∧ h1 = h) 0 0) 4 [(1, .int (nI (sm i (fun r => if R.1 r = 2 ∧ rLeast R r 8 0 = r then cntC 2 (R.2.1 r) else 0)))), (2, .int (nI i)), (0, .ref p)] [] h 0 0 := by
  intro n
  induction n with
  | zero =>
    intro i hin
    refine z_iload_n dX8_distinctCells_4 rfl rfl ?_
    refine z_bipush (v := 8) dX8_distinctCells_5 rfl (by decide) ?_
    refine z_icmp_ge (tgt := 36) dX8_distinctCells_7 rfl (by decide) (fun c7 => ?_) (fun c7 => absurd c7 (fun z => z (nI_le (a := 8) (by omega) (by omega))))
    refine z_iload_n dX8_distinctCells_36 rfl rfl ?_
    exact z_iret dX8_distinctCells_37 rfl rfl ⟨by rw [show i = 8 from by omega], rfl⟩ (Nat.le_of_ble_eq_true rfl) (Nat.le_of_ble_eq_true rfl)
  | succ n ih =>
    intro i hin
    rcases hF : F i with _ | a
    · have hst : ¬ R.1 i = 2 := fun e => by rcases rc_n hr (show i < 8 by omega) hF with z | z <;> (rw [z.1] at e; exact absurd e (by decide))
      refine z_iload_n dX8_distinctCells_4 rfl rfl ?_
      refine z_bipush (v := 8) dX8_distinctCells_5 rfl (by decide) ?_
      refine z_icmp_ge (tgt := 36) dX8_distinctCells_7 rfl (by decide) (fun c7 => absurd c7 (nI_ge (b := 8) (by omega) (by omega))) (fun c7 => ?_)
      first | refine z_aload_n dX8_distinctCells_10 rfl rfl ?_ | refine z_aload_nN dX8_distinctCells_10 rfl rfl ?_
      refine z_iload_n dX8_distinctCells_11 rfl rfl ?_
      refine zcx_X8_30 rfl dX8_distinctCells_12 rfl hr.1.1 (m_isFirstF g h p F Z hr.1 i (by omega) hF) rfl rfl ⟨(Nat.le_of_ble_eq_true rfl), (Nat.le_of_ble_eq_true rfl)⟩ ⟨(Nat.le_of_ble_eq_true rfl), (Nat.le_of_ble_eq_true rfl)⟩ (Nat.le_of_ble_eq_true rfl) ?_
      refine z_bif_eq (tgt := 30) dX8_distinctCells_15 rfl (by decide) (fun c15 => ?_) (fun c15 => absurd c15 (fun z => z))
      refine z_iinc (v := nI (i + 1)) dX8_distinctCells_30 rfl rfl (nI_inc i) (Nat.le_of_ble_eq_true rfl) ?_
      refine z_goto (tgt := 4) dX8_distinctCells_33 rfl (by decide) ?_
      have hss : sm (i + 1) (fun r => if R.1 r = 2 ∧ rLeast R r 8 0 = r then cntC 2 (R.2.1 r) else 0) = sm i (fun r => if R.1 r = 2 ∧ rLeast R r 8 0 = r then cntC 2 (R.2.1 r) else 0) := by show _ + (if R.1 i = 2 ∧ rLeast R i 8 0 = i then _ else 0) = _; rw [if_neg (fun e => hst e.1), Nat.add_zero]
      refine z_lv [(1, .int (nI (sm (i + 1) (fun r => if R.1 r = 2 ∧ rLeast R r 8 0 = r then cntC 2 (R.2.1 r) else 0)))), (2, .int (nI (i + 1))), (0, .ref p)] (by rw [hss]; exact ⟨rfl, rfl, rfl, trivial⟩) ?_
      exact ih (i + 1) (by omega)
    · obtain ⟨hst, -, ⟨ho, c, hc, hcl⟩, -⟩ := rc_a hr (show i < 8 by omega) hF
      have hll := lh_rl hr (show i < 8 by omega) hF
      have l20 := ho.2.2.1
      by_cases hq : rLeast R i 8 0 = i
      · skip
        refine z_iload_n dX8_distinctCells_4 rfl rfl ?_
        refine z_bipush (v := 8) dX8_distinctCells_5 rfl (by decide) ?_
        refine z_icmp_ge (tgt := 36) dX8_distinctCells_7 rfl (by decide) (fun c7 => absurd c7 (nI_ge (b := 8) (by omega) (by omega))) (fun c7 => ?_)
        first | refine z_aload_n dX8_distinctCells_10 rfl rfl ?_ | refine z_aload_nN dX8_distinctCells_10 rfl rfl ?_
        refine z_iload_n dX8_distinctCells_11 rfl rfl ?_
        refine zcx_X8_30 rfl dX8_distinctCells_12 rfl hr.1.1 (m_isFirst g h p F Z hr.1 i (by omega) a hF) rfl rfl ⟨(Nat.le_of_ble_eq_true rfl), (Nat.le_of_ble_eq_true rfl)⟩ ⟨(Nat.le_of_ble_eq_true rfl), (Nat.le_of_ble_eq_true rfl)⟩ (Nat.le_of_ble_eq_true rfl) ?_
        refine z_bif_eq (tgt := 30) dX8_distinctCells_15 rfl (by decide) (fun c15 => absurd c15 (fun z => z (hll.trans hq))) (fun c15 => ?_)
        refine z_iload_n dX8_distinctCells_18 rfl rfl ?_
        first | refine z_aload_n dX8_distinctCells_19 rfl rfl ?_ | refine z_aload_nN dX8_distinctCells_19 rfl rfl ?_
        refine zg_X8_11 rfl dX8_distinctCells_20 rfl hr.1.1 rfl ?_
        refine z_iload_n dX8_distinctCells_23 rfl rfl ?_
        refine z_aalds dX8_distinctCells_24 rfl hr.1.2.1 rfl rfl (vp_in_nI (by omega) (by decide)) (by rw [nI_clamp (show i < 2 ^ 31 by omega)]; exact hF) ?_
        refine zg_X8_46 rfl dX8_distinctCells_25 rfl hc.1 rfl ?_
        refine z_iadd dX8_distinctCells_28 rfl ?_
        rw [nI_add]
        refine z_istore_n dX8_distinctCells_29 rfl (Nat.le_of_ble_eq_true rfl) ?_
        refine z_iinc (v := nI (i + 1)) dX8_distinctCells_30 rfl rfl (nI_inc i) (Nat.le_of_ble_eq_true rfl) ?_
        refine z_goto (tgt := 4) dX8_distinctCells_33 rfl (by decide) ?_
        have hss : sm (i + 1) (fun r => if R.1 r = 2 ∧ rLeast R r 8 0 = r then cntC 2 (R.2.1 r) else 0) = sm i (fun r => if R.1 r = 2 ∧ rLeast R r 8 0 = r then cntC 2 (R.2.1 r) else 0) + (R.2.1 i).2.length := by show _ + (if R.1 i = 2 ∧ rLeast R i 8 0 = i then _ else 0) = _; rw [if_pos ⟨hst, hq⟩]; rfl
        refine z_lv [(1, .int (nI (sm (i + 1) (fun r => if R.1 r = 2 ∧ rLeast R r 8 0 = r then cntC 2 (R.2.1 r) else 0)))), (2, .int (nI (i + 1))), (0, .ref p)] (by rw [hss]; exact ⟨rfl, rfl, rfl, trivial⟩) ?_
        exact ih (i + 1) (by omega)
      · skip
        refine z_iload_n dX8_distinctCells_4 rfl rfl ?_
        refine z_bipush (v := 8) dX8_distinctCells_5 rfl (by decide) ?_
        refine z_icmp_ge (tgt := 36) dX8_distinctCells_7 rfl (by decide) (fun c7 => absurd c7 (nI_ge (b := 8) (by omega) (by omega))) (fun c7 => ?_)
        first | refine z_aload_n dX8_distinctCells_10 rfl rfl ?_ | refine z_aload_nN dX8_distinctCells_10 rfl rfl ?_
        refine z_iload_n dX8_distinctCells_11 rfl rfl ?_
        refine zcx_X8_30 rfl dX8_distinctCells_12 rfl hr.1.1 (m_isFirst g h p F Z hr.1 i (by omega) a hF) rfl rfl ⟨(Nat.le_of_ble_eq_true rfl), (Nat.le_of_ble_eq_true rfl)⟩ ⟨(Nat.le_of_ble_eq_true rfl), (Nat.le_of_ble_eq_true rfl)⟩ (Nat.le_of_ble_eq_true rfl) ?_
        refine z_bif_eq (tgt := 30) dX8_distinctCells_15 rfl (by decide) (fun c15 => ?_) (fun c15 => absurd c15 (fun z => hq (hll.symm.trans z)))
        refine z_iinc (v := nI (i + 1)) dX8_distinctCells_30 rfl rfl (nI_inc i) (Nat.le_of_ble_eq_true rfl) ?_
        refine z_goto (tgt := 4) dX8_distinctCells_33 rfl (by decide) ?_
        have hss : sm (i + 1) (fun r => if R.1 r = 2 ∧ rLeast R r 8 0 = r then cntC 2 (R.2.1 r) else 0) = sm i (fun r => if R.1 r = 2 ∧ rLeast R r 8 0 = r then cntC 2 (R.2.1 r) else 0) := by show _ + (if R.1 i = 2 ∧ rLeast R i 8 0 = i then _ else 0) = _; rw [if_neg (fun e => hq e.2), Nat.add_zero]
        refine z_lv [(1, .int (nI (sm (i + 1) (fun r => if R.1 r = 2 ∧ rLeast R r 8 0 = r then cntC 2 (R.2.1 r) else 0)))), (2, .int (nI (i + 1))), (0, .ref p)] (by rw [hss]; exact ⟨rfl, rfl, rfl, trivial⟩) ?_
        exact ih (i + 1) (by omega)

set_option maxHeartbeats 4000000 in
set_option maxRecDepth 100000 in
/-- X8_distinctCells -/
theorem m_distinctCells (g : zG) (h : zH) (col : Nat → Nat) (cc oc p : Nat) (R : sR) (F : Nat → Option Nat) (Z : Nat → Int32) (hr : rcAt h col cc oc p R F Z) : zX g yX8_distinctCells cX8_distinctCells 3 (some .int) rmX8_distinctCells [.ref p] h (.int (nI (sm 8 (fun r => if R.1 r = 2 ∧ rLeast R r 8 0 = r then cntC 2 (R.2.1 r) else 0)))) h := by
  refine zM_of (by decide) (Nat.le_of_ble_eq_true rfl) ?_
  refine z_iconst (v := 0) dX8_distinctCells_0 rfl (by decide) ?_
  refine z_istore_n dX8_distinctCells_1 rfl (Nat.le_of_ble_eq_true rfl) ?_
  refine z_iconst (v := 0) dX8_distinctCells_2 rfl (by decide) ?_
  refine z_istore_n dX8_distinctCells_3 rfl (Nat.le_of_ble_eq_true rfl) ?_
  refine z_lv [(1, .int (nI (sm 0 (fun r => if R.1 r = 2 ∧ rLeast R r 8 0 = r then cntC 2 (R.2.1 r) else 0)))), (2, .int (nI 0)), (0, .ref p)] ⟨rfl, rfl, rfl, trivial⟩ ?_
  exact m_distinctCells_L g h col cc oc p R F Z hr 8 0 (by omega)

abbrev YX8_distinctNulls : zY := (yX8_distinctNulls.cls, cX8_distinctNulls, 3, (some .int), rmX8_distinctNulls, yX8_distinctNulls.name, fun _ _ => True)
set_option maxHeartbeats 800000 in
set_option maxRecDepth 100000 in
theorem m_distinctNulls_L (g : zG) (h : zH) (col : Nat → Nat) (cc oc p : Nat) (R : sR) (F : Nat → Option Nat) (Z : Nat → Int32) (hr : rcAt h col cc oc p R F Z) : ∀ (n i : Nat), i + n = 8 → zZ g YX8_distinctNulls (zE g (fun v h1 => v = some (.int (nI (sm 8 (fun r => if R.1 r = 2 ∧ rLeast R r 8 0 = r then cntC 3 (R.2.1 r) else 0)))) ∧ h1 = h) 0 0) 4 [(1, .int (nI (sm i (fun r => if R.1 r = 2 ∧ rLeast R r 8 0 = r then cntC 3 (R.2.1 r) else 0)))), (2, .int (nI i)), (0, .ref p)] [] h 0 0 := by
  intro n
  induction n with
  | zero =>
    intro i hin
    refine z_iload_n dX8_distinctNulls_4 rfl rfl ?_
    refine z_bipush (v := 8) dX8_distinctNulls_5 rfl (by decide) ?_
    refine z_icmp_ge (tgt := 36) dX8_distinctNulls_7 rfl (by decide) (fun c7 => ?_) (fun c7 => absurd c7 (fun z => z (nI_le (a := 8) (by omega) (by omega))))
    refine z_iload_n dX8_distinctNulls_36 rfl rfl ?_
    exact z_iret dX8_distinctNulls_37 rfl rfl ⟨by rw [show i = 8 from by omega], rfl⟩ (Nat.le_of_ble_eq_true rfl) (Nat.le_of_ble_eq_true rfl)
  | succ n ih =>
    intro i hin
    rcases hF : F i with _ | a
    · have hst : ¬ R.1 i = 2 := fun e => by rcases rc_n hr (show i < 8 by omega) hF with z | z <;> (rw [z.1] at e; exact absurd e (by decide))
      refine z_iload_n dX8_distinctNulls_4 rfl rfl ?_
      refine z_bipush (v := 8) dX8_distinctNulls_5 rfl (by decide) ?_
      refine z_icmp_ge (tgt := 36) dX8_distinctNulls_7 rfl (by decide) (fun c7 => absurd c7 (nI_ge (b := 8) (by omega) (by omega))) (fun c7 => ?_)
      first | refine z_aload_n dX8_distinctNulls_10 rfl rfl ?_ | refine z_aload_nN dX8_distinctNulls_10 rfl rfl ?_
      refine z_iload_n dX8_distinctNulls_11 rfl rfl ?_
      refine zcx_X8_30 rfl dX8_distinctNulls_12 rfl hr.1.1 (m_isFirstF g h p F Z hr.1 i (by omega) hF) rfl rfl ⟨(Nat.le_of_ble_eq_true rfl), (Nat.le_of_ble_eq_true rfl)⟩ ⟨(Nat.le_of_ble_eq_true rfl), (Nat.le_of_ble_eq_true rfl)⟩ (Nat.le_of_ble_eq_true rfl) ?_
      refine z_bif_eq (tgt := 30) dX8_distinctNulls_15 rfl (by decide) (fun c15 => ?_) (fun c15 => absurd c15 (fun z => z))
      refine z_iinc (v := nI (i + 1)) dX8_distinctNulls_30 rfl rfl (nI_inc i) (Nat.le_of_ble_eq_true rfl) ?_
      refine z_goto (tgt := 4) dX8_distinctNulls_33 rfl (by decide) ?_
      have hss : sm (i + 1) (fun r => if R.1 r = 2 ∧ rLeast R r 8 0 = r then cntC 3 (R.2.1 r) else 0) = sm i (fun r => if R.1 r = 2 ∧ rLeast R r 8 0 = r then cntC 3 (R.2.1 r) else 0) := by show _ + (if R.1 i = 2 ∧ rLeast R i 8 0 = i then _ else 0) = _; rw [if_neg (fun e => hst e.1), Nat.add_zero]
      refine z_lv [(1, .int (nI (sm (i + 1) (fun r => if R.1 r = 2 ∧ rLeast R r 8 0 = r then cntC 3 (R.2.1 r) else 0)))), (2, .int (nI (i + 1))), (0, .ref p)] (by rw [hss]; exact ⟨rfl, rfl, rfl, trivial⟩) ?_
      exact ih (i + 1) (by omega)
    · obtain ⟨hst, -, ⟨ho, c, hc, hcl⟩, -⟩ := rc_a hr (show i < 8 by omega) hF
      have hll := lh_rl hr (show i < 8 by omega) hF
      have l20 := ho.2.2.1
      by_cases hq : rLeast R i 8 0 = i
      · skip
        refine z_iload_n dX8_distinctNulls_4 rfl rfl ?_
        refine z_bipush (v := 8) dX8_distinctNulls_5 rfl (by decide) ?_
        refine z_icmp_ge (tgt := 36) dX8_distinctNulls_7 rfl (by decide) (fun c7 => absurd c7 (nI_ge (b := 8) (by omega) (by omega))) (fun c7 => ?_)
        first | refine z_aload_n dX8_distinctNulls_10 rfl rfl ?_ | refine z_aload_nN dX8_distinctNulls_10 rfl rfl ?_
        refine z_iload_n dX8_distinctNulls_11 rfl rfl ?_
        refine zcx_X8_30 rfl dX8_distinctNulls_12 rfl hr.1.1 (m_isFirst g h p F Z hr.1 i (by omega) a hF) rfl rfl ⟨(Nat.le_of_ble_eq_true rfl), (Nat.le_of_ble_eq_true rfl)⟩ ⟨(Nat.le_of_ble_eq_true rfl), (Nat.le_of_ble_eq_true rfl)⟩ (Nat.le_of_ble_eq_true rfl) ?_
        refine z_bif_eq (tgt := 30) dX8_distinctNulls_15 rfl (by decide) (fun c15 => absurd c15 (fun z => z (hll.trans hq))) (fun c15 => ?_)
        refine z_iload_n dX8_distinctNulls_18 rfl rfl ?_
        first | refine z_aload_n dX8_distinctNulls_19 rfl rfl ?_ | refine z_aload_nN dX8_distinctNulls_19 rfl rfl ?_
        refine zg_X8_11 rfl dX8_distinctNulls_20 rfl hr.1.1 rfl ?_
        refine z_iload_n dX8_distinctNulls_23 rfl rfl ?_
        refine z_aalds dX8_distinctNulls_24 rfl hr.1.2.1 rfl rfl (vp_in_nI (by omega) (by decide)) (by rw [nI_clamp (show i < 2 ^ 31 by omega)]; exact hF) ?_
        refine zcx_X8_50 rfl dX8_distinctNulls_25 rfl hc.1 (m_nulls g h a _ _ c hc ho.2.2.1 (R.2.1 i).2 rfl hcl) rfl rfl ⟨(Nat.le_of_ble_eq_true rfl), (Nat.le_of_ble_eq_true rfl)⟩ ⟨(Nat.le_of_ble_eq_true rfl), (Nat.le_of_ble_eq_true rfl)⟩ (Nat.le_of_ble_eq_true rfl) ?_
        refine z_iadd dX8_distinctNulls_28 rfl ?_
        rw [nI_add]
        refine z_istore_n dX8_distinctNulls_29 rfl (Nat.le_of_ble_eq_true rfl) ?_
        refine z_iinc (v := nI (i + 1)) dX8_distinctNulls_30 rfl rfl (nI_inc i) (Nat.le_of_ble_eq_true rfl) ?_
        refine z_goto (tgt := 4) dX8_distinctNulls_33 rfl (by decide) ?_
        have hss : sm (i + 1) (fun r => if R.1 r = 2 ∧ rLeast R r 8 0 = r then cntC 3 (R.2.1 r) else 0) = sm i (fun r => if R.1 r = 2 ∧ rLeast R r 8 0 = r then cntC 3 (R.2.1 r) else 0) + (R.2.1 i).2.countP isNu := by show _ + (if R.1 i = 2 ∧ rLeast R i 8 0 = i then _ else 0) = _; rw [if_pos ⟨hst, hq⟩]; rfl
        refine z_lv [(1, .int (nI (sm (i + 1) (fun r => if R.1 r = 2 ∧ rLeast R r 8 0 = r then cntC 3 (R.2.1 r) else 0)))), (2, .int (nI (i + 1))), (0, .ref p)] (by rw [hss]; exact ⟨rfl, rfl, rfl, trivial⟩) ?_
        exact ih (i + 1) (by omega)
      · skip
        refine z_iload_n dX8_distinctNulls_4 rfl rfl ?_
        refine z_bipush (v := 8) dX8_distinctNulls_5 rfl (by decide) ?_
        refine z_icmp_ge (tgt := 36) dX8_distinctNulls_7 rfl (by decide) (fun c7 => absurd c7 (nI_ge (b := 8) (by omega) (by omega))) (fun c7 => ?_)
        first | refine z_aload_n dX8_distinctNulls_10 rfl rfl ?_ | refine z_aload_nN dX8_distinctNulls_10 rfl rfl ?_
        refine z_iload_n dX8_distinctNulls_11 rfl rfl ?_
        refine zcx_X8_30 rfl dX8_distinctNulls_12 rfl hr.1.1 (m_isFirst g h p F Z hr.1 i (by omega) a hF) rfl rfl ⟨(Nat.le_of_ble_eq_true rfl), (Nat.le_of_ble_eq_true rfl)⟩ ⟨(Nat.le_of_ble_eq_true rfl), (Nat.le_of_ble_eq_true rfl)⟩ (Nat.le_of_ble_eq_true rfl) ?_
        refine z_bif_eq (tgt := 30) dX8_distinctNulls_15 rfl (by decide) (fun c15 => ?_) (fun c15 => absurd c15 (fun z => hq (hll.symm.trans z)))
        refine z_iinc (v := nI (i + 1)) dX8_distinctNulls_30 rfl rfl (nI_inc i) (Nat.le_of_ble_eq_true rfl) ?_
        refine z_goto (tgt := 4) dX8_distinctNulls_33 rfl (by decide) ?_
        have hss : sm (i + 1) (fun r => if R.1 r = 2 ∧ rLeast R r 8 0 = r then cntC 3 (R.2.1 r) else 0) = sm i (fun r => if R.1 r = 2 ∧ rLeast R r 8 0 = r then cntC 3 (R.2.1 r) else 0) := by show _ + (if R.1 i = 2 ∧ rLeast R i 8 0 = i then _ else 0) = _; rw [if_neg (fun e => hq e.2), Nat.add_zero]
        refine z_lv [(1, .int (nI (sm (i + 1) (fun r => if R.1 r = 2 ∧ rLeast R r 8 0 = r then cntC 3 (R.2.1 r) else 0)))), (2, .int (nI (i + 1))), (0, .ref p)] (by rw [hss]; exact ⟨rfl, rfl, rfl, trivial⟩) ?_
        exact ih (i + 1) (by omega)

set_option maxHeartbeats 4000000 in
set_option maxRecDepth 100000 in
/-- X8_distinctNulls -/
theorem m_distinctNulls (g : zG) (h : zH) (col : Nat → Nat) (cc oc p : Nat) (R : sR) (F : Nat → Option Nat) (Z : Nat → Int32) (hr : rcAt h col cc oc p R F Z) : zX g yX8_distinctNulls cX8_distinctNulls 3 (some .int) rmX8_distinctNulls [.ref p] h (.int (nI (sm 8 (fun r => if R.1 r = 2 ∧ rLeast R r 8 0 = r then cntC 3 (R.2.1 r) else 0)))) h := by
  refine zM_of (by decide) (Nat.le_of_ble_eq_true rfl) ?_
  refine z_iconst (v := 0) dX8_distinctNulls_0 rfl (by decide) ?_
  refine z_istore_n dX8_distinctNulls_1 rfl (Nat.le_of_ble_eq_true rfl) ?_
  refine z_iconst (v := 0) dX8_distinctNulls_2 rfl (by decide) ?_
  refine z_istore_n dX8_distinctNulls_3 rfl (Nat.le_of_ble_eq_true rfl) ?_
  refine z_lv [(1, .int (nI (sm 0 (fun r => if R.1 r = 2 ∧ rLeast R r 8 0 = r then cntC 3 (R.2.1 r) else 0)))), (2, .int (nI 0)), (0, .ref p)] ⟨rfl, rfl, rfl, trivial⟩ ?_
  exact m_distinctNulls_L g h col cc oc p R F Z hr 8 0 (by omega)

set_option maxHeartbeats 800000 in
set_option maxRecDepth 100000 in
theorem C_count (g : zG) (h : zH) (x m : Nat) (w : sW) (hRC : RepC h x m w) (what : Int32) : zM g yX9_count cX9_count 2 (some .int) rmX9_count [.ref x, .int what] h (cPost x m h (pCount w what)) := by
  refine zM_of (by decide) (Nat.le_of_ble_eq_true rfl) ?_
  obtain ⟨col, p, F, Z, k, I, P, q, T, V, hR⟩ := id hRC
  obtain ⟨hw, hz, hS, hq, hr, hX⟩ := id hR
  obtain ⟨S0, S1, S2, S3, S4, S5⟩ := id hS
  obtain ⟨R0, R1, R2, R3⟩ := id hr
  refine z_iload_n dX9_count_0 rfl rfl ?_
  refine z_sw5 (fun s1 => ?_) (fun s1 => ?_) (fun s1 => ?_) (fun s1 => ?_) (fun s1 => ?_) (fun s1 => ?_) (fun s1 => ?_)
  · skip
    refine z_tableOut (tgt := 82) dX9_count_1 rfl (sw_out s1) (by decide) ?_
    refine z_iconst (v := -1) dX9_count_82 rfl (by decide) ?_
    exact z_iret dX9_count_83 rfl rfl (cPost_same hRC (by unfold pCount rCnt rHold; grind)) (Nat.le_of_ble_eq_true rfl) (Nat.le_of_ble_eq_true rfl)
  · skip
    refine z_tableIn (off := 39) (tgt := 40) dX9_count_1 rfl (by decide) (by decide) (by decide) (by decide) ?_
    first | refine z_aload_n dX9_count_40 rfl rfl ?_ | refine z_aload_nN dX9_count_40 rfl rfl ?_
    refine zg_X9_10 rfl dX9_count_41 rfl S0 rfl ?_
    refine zcx_X9_278 rfl dX9_count_44 rfl R0.1 (m_holders g h col 2 8 p w.1 F Z hr) rfl rfl ⟨(Nat.le_of_ble_eq_true rfl), (Nat.le_of_ble_eq_true rfl)⟩ ⟨(Nat.le_of_ble_eq_true rfl), (Nat.le_of_ble_eq_true rfl)⟩ (Nat.le_of_ble_eq_true rfl) ?_
    exact z_iret dX9_count_47 rfl rfl (cPost_same hRC (by unfold pCount rCnt rHold; grind)) (Nat.le_of_ble_eq_true rfl) (Nat.le_of_ble_eq_true rfl)
  · skip
    refine z_tableIn (off := 47) (tgt := 48) dX9_count_1 rfl (by decide) (by decide) (by decide) (by decide) ?_
    first | refine z_aload_n dX9_count_48 rfl rfl ?_ | refine z_aload_nN dX9_count_48 rfl rfl ?_
    refine zg_X9_10 rfl dX9_count_49 rfl S0 rfl ?_
    refine zcx_X9_281 rfl dX9_count_52 rfl R0.1 (m_distinct g h col 2 8 p w.1 F Z hr) rfl rfl ⟨(Nat.le_of_ble_eq_true rfl), (Nat.le_of_ble_eq_true rfl)⟩ ⟨(Nat.le_of_ble_eq_true rfl), (Nat.le_of_ble_eq_true rfl)⟩ (Nat.le_of_ble_eq_true rfl) ?_
    exact z_iret dX9_count_55 rfl rfl (cPost_same hRC (by unfold pCount rCnt rHold; grind)) (Nat.le_of_ble_eq_true rfl) (Nat.le_of_ble_eq_true rfl)
  · skip
    refine z_tableIn (off := 55) (tgt := 56) dX9_count_1 rfl (by decide) (by decide) (by decide) (by decide) ?_
    first | refine z_aload_n dX9_count_56 rfl rfl ?_ | refine z_aload_nN dX9_count_56 rfl rfl ?_
    refine zg_X9_10 rfl dX9_count_57 rfl S0 rfl ?_
    refine zcx_X9_284 rfl dX9_count_60 rfl R0.1 (m_distinctCells g h col 2 8 p w.1 F Z hr) rfl rfl ⟨(Nat.le_of_ble_eq_true rfl), (Nat.le_of_ble_eq_true rfl)⟩ ⟨(Nat.le_of_ble_eq_true rfl), (Nat.le_of_ble_eq_true rfl)⟩ (Nat.le_of_ble_eq_true rfl) ?_
    exact z_iret dX9_count_63 rfl rfl (cPost_same hRC (by unfold pCount rCnt rHold; grind)) (Nat.le_of_ble_eq_true rfl) (Nat.le_of_ble_eq_true rfl)
  · skip
    refine z_tableIn (off := 63) (tgt := 64) dX9_count_1 rfl (by decide) (by decide) (by decide) (by decide) ?_
    first | refine z_aload_n dX9_count_64 rfl rfl ?_ | refine z_aload_nN dX9_count_64 rfl rfl ?_
    refine zg_X9_10 rfl dX9_count_65 rfl S0 rfl ?_
    refine zcx_X9_287 rfl dX9_count_68 rfl R0.1 (m_distinctNulls g h col 2 8 p w.1 F Z hr) rfl rfl ⟨(Nat.le_of_ble_eq_true rfl), (Nat.le_of_ble_eq_true rfl)⟩ ⟨(Nat.le_of_ble_eq_true rfl), (Nat.le_of_ble_eq_true rfl)⟩ (Nat.le_of_ble_eq_true rfl) ?_
    exact z_iret dX9_count_71 rfl rfl (cPost_same hRC (by unfold pCount rCnt rHold; grind)) (Nat.le_of_ble_eq_true rfl) (Nat.le_of_ble_eq_true rfl)
  · skip
    refine z_tableIn (off := 71) (tgt := 72) dX9_count_1 rfl (by decide) (by decide) (by decide) (by decide) ?_
    first | refine z_aload_n dX9_count_72 rfl rfl ?_ | refine z_aload_nN dX9_count_72 rfl rfl ?_
    refine zcx_X9_290 rfl dX9_count_73 rfl S0 (m_patchesMade g h x m w col p F Z k I P q T V hR) rfl rfl ⟨(Nat.le_of_ble_eq_true rfl), (Nat.le_of_ble_eq_true rfl)⟩ ⟨(Nat.le_of_ble_eq_true rfl), (Nat.le_of_ble_eq_true rfl)⟩ (Nat.le_of_ble_eq_true rfl) ?_
    exact z_iret dX9_count_76 rfl rfl (cPost_same hRC (by unfold pCount rCnt rHold; grind)) (Nat.le_of_ble_eq_true rfl) (Nat.le_of_ble_eq_true rfl)
  · skip
    refine z_tableIn (off := 76) (tgt := 77) dX9_count_1 rfl (by decide) (by decide) (by decide) (by decide) ?_
    first | refine z_aload_n dX9_count_77 rfl rfl ?_ | refine z_aload_nN dX9_count_77 rfl rfl ?_
    refine zcx_X9_293 rfl dX9_count_78 rfl S0 (m_imagesKept g h x m w col p F Z k I P q T V hR) rfl rfl ⟨(Nat.le_of_ble_eq_true rfl), (Nat.le_of_ble_eq_true rfl)⟩ ⟨(Nat.le_of_ble_eq_true rfl), (Nat.le_of_ble_eq_true rfl)⟩ (Nat.le_of_ble_eq_true rfl) ?_
    exact z_iret dX9_count_81 rfl rfl (cPost_same hRC (by unfold pCount rCnt rHold; grind)) (Nat.le_of_ble_eq_true rfl) (Nat.le_of_ble_eq_true rfl)

