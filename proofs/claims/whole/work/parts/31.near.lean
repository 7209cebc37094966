/-- the record nearest to r among those from i on, given the best so far -/
def nearL (w : sW) (r : Nat) : Nat → Nat → Int32 → Nat → Int32
  | 0, _, b, _ => b
  | n + 1, i, b, c =>
    if i ≠ r ∧ w.1.1 i = 2 then
      (if b = -4 ∨ dC w.2.2.1 (w.1.2.1 r).2 (w.1.2.1 i).2 (w.1.2.1 r).2.length (w.1.2.1 i).2.length < c then nearL w r n (i + 1) (nI i) (dC w.2.2.1 (w.1.2.1 r).2 (w.1.2.1 i).2 (w.1.2.1 r).2.length (w.1.2.1 i).2.length) else nearL w r n (i + 1) b c)
    else nearL w r n (i + 1) b c
/-- 21 -/
def pNear (w : sW) (r : Int32) : Int32 × sW :=
  (if ¬ isRec r then -1 else if 0 < rowF w.1 (ix r) then -10 - rowF w.1 (ix r) else nearL w (ix r) 8 0 (-4) 0, w)
theorem RepM_rest {S : sMS} {w : sW} (hR : RepM S w) (f : Nat → Int32) : RepM (mRest S f) w := by
  refine ⟨⟨fun r hr => ?_, fun r s hr hs a b => by rw [mRest_o _ _ (by decide)]; exact hR.1.2 r s hr hs a b⟩, ?_, hR.2.2.1, hR.2.2.2⟩
  · rw [mRest_o _ _ (by decide)]
    rcases hR.1.1 r hr with z | z | ⟨z, j, hj, z2, z3⟩
    · exact Or.inl z
    · exact Or.inr (Or.inl z)
    · exact Or.inr (Or.inr ⟨z, j, hj, z2, mRest_row f z3⟩)
  · exact RepX_agree (S := S) ⟨fun j hj => mRest_o _ _ (by omega), fun k _ _ => by rw [mRest_o _ _ (by decide), mRest_o _ _ (by decide)]; exact ⟨rfl, rfl⟩, fun a _ => rfl, rfl, rfl, rfl⟩ hR.2.1
theorem rec_nI {r : Int32} (h : isRec r) {i : Nat} (hi : i < 8) : nI i = r ↔ i = ix r := by
  constructor
  · rintro rfl
    exact (nI_clamp (by omega)).symm
  · rintro rfl
    exact nI_ix h.1

abbrev YX10_near : zY := (yX10_near.cls, cX10_near, 6, (some .int), rmX10_near, yX10_near.name, fun _ _ => True)
set_option maxHeartbeats 800000 in
set_option maxRecDepth 100000 in
theorem R_near_L (g : zG) (h : zH) (m : Nat) (w : sW) (r : Int32) (hr : isRec r) (h0 : ¬ 0 < rowF w.1 (ix r)) : ∀ (n : Nat) (S : sMS) (i : Nat) (b : Int32) (c : Nat), i + n = 8 → RepM S w → c ≤ 400 → nearL w (ix r) 8 0 (-4) 0 = nearL w (ix r) n i b c → zZ g YX10_near (zE g (mPost m h (pNear w r)) 0 0) 34 [(4, .int (nI i)), (2, .int b), (3, .int (nI c)), (0, .ref m), (1, .int r)] [] (mUp m S h) 0 0 := by
  intro n
  induction n with
  | zero =>
    intro S i b c hi hR hc he
    refine z_iload dX10_near_34 rfl rfl ?_
    refine z_bipush (v := 8) dX10_near_36 rfl (by decide) ?_
    refine z_icmp_ge (tgt := 100) dX10_near_38 rfl (by decide) (fun c38 => ?_) (fun c38 => absurd c38 (fun z => z (nI_le (a := 8) (by omega) (by omega))))
    refine z_iload_n dX10_near_100 rfl rfl ?_
    exact z_iret dX10_near_101 rfl rfl (mPost_of hR (by rw [pNear, if_neg (fun z => z hr), if_neg h0, he, nearL])) (Nat.le_of_ble_eq_true rfl) (Nat.le_of_ble_eq_true rfl)
  | succ n ih =>
    intro S i b c hi hR hc he
    refine z_iload dX10_near_34 rfl rfl ?_
    refine z_bipush (v := 8) dX10_near_36 rfl (by decide) ?_
    refine z_icmp_ge (tgt := 100) dX10_near_38 rfl (by decide) (fun c38 => absurd c38 (nI_ge (b := 8) (by omega) (by omega))) (fun c38 => ?_)
    refine z_iload dX10_near_41 rfl rfl ?_
    refine z_iload_n dX10_near_43 rfl rfl ?_
    refine z_icmp_eq (tgt := 94) dX10_near_44 rfl (by decide) (fun c44 => ?_) (fun c44 => ?_)
    · skip
      refine z_iinc (v := nI (i + 1)) dX10_near_94 rfl rfl (nI_inc i) (Nat.le_of_ble_eq_true rfl) ?_
      refine z_goto (tgt := 34) dX10_near_97 rfl (by decide) ?_
      refine z_lv [(4, .int (nI (i + 1))), (2, .int b), (3, .int (nI c)), (0, .ref m), (1, .int r)] ⟨rfl, rfl, rfl, rfl, rfl, trivial⟩ ?_
      exact ih _ (i + 1) b c (by omega) (hR) (by omega) (by rw [he, nearL, if_neg (fun z => z.1 ((rec_nI hr (by omega)).mp c44))])
    · skip
      first | refine z_aload_n dX10_near_47 rfl rfl ?_ | refine z_aload_nN dX10_near_47 rfl rfl ?_
      refine zmg_27 rfl dX10_near_48 rfl ?_
      refine z_iload dX10_near_51 rfl rfl ?_
      refine zm_iald dX10_near_53 rfl rfl (nI_in8 (by omega)) ?_
      rw [nI_clamp (show i < 2 ^ 31 by omega)]
      refine z_if_lt (tgt := 94) dX10_near_54 rfl (by decide) (fun c54 => ?_) (fun c54 => ?_)
      · skip
        refine z_iinc (v := nI (i + 1)) dX10_near_94 rfl rfl (nI_inc i) (Nat.le_of_ble_eq_true rfl) ?_
        refine z_goto (tgt := 34) dX10_near_97 rfl (by decide) ?_
        refine z_lv [(4, .int (nI (i + 1))), (2, .int b), (3, .int (nI c)), (0, .ref m), (1, .int r)] ⟨rfl, rfl, rfl, rfl, rfl, trivial⟩ ?_
        exact ih _ (i + 1) b c (by omega) (hR) (by omega) (by rw [he, nearL, if_neg (fun z => absurd ((rep_lt0 hR.1 (by omega)).1.mpr z.2) (by grind))])
      · skip
        have hir : i ≠ ix r := fun z => c44 ((rec_nI hr (by omega)).mpr z)
        have hi2 : w.1.1 i = 2 := (rep_lt0 hR.1 (by omega)).1.mp (by grind)
        obtain ⟨kr, hkr, hkre, hA⟩ := rep_row hR.1 (ix_lt hr) (rf_2 (rep_st hR.1 (ix_lt hr)) h0)
        obtain ⟨ki, hki, hkie, hB⟩ := rep_row hR.1 (show i < 8 by omega) hi2
        have la : (w.1.2.1 (ix r)).2.length ≤ 20 := hA.2.2.1.2.2.1
        have lb : (w.1.2.1 i).2.length ≤ 20 := hB.2.2.1.2.2.1
        have hd : (dC w.2.2.1 (w.1.2.1 (ix r)).2 (w.1.2.1 i).2 (w.1.2.1 (ix r)).2.length (w.1.2.1 i).2.length) ≤ 9 * ((w.1.2.1 (ix r)).2.length + (w.1.2.1 i).2.length) := dC_le hR.2.1.2.2.1 _ _ _ _
        first | refine z_aload_n dX10_near_57 rfl rfl ?_ | refine z_aload_nN dX10_near_57 rfl rfl ?_
        first | refine z_aload_n dX10_near_58 rfl rfl ?_ | refine z_aload_nN dX10_near_58 rfl rfl ?_
        refine zmg_27 rfl dX10_near_59 rfl ?_
        refine z_iload_n dX10_near_62 rfl rfl ?_
        refine zm_iald dX10_near_63 rfl rfl (rec_in hr) ?_
        rw [hkre]
        first | refine z_aload_n dX10_near_64 rfl rfl ?_ | refine z_aload_nN dX10_near_64 rfl rfl ?_
        refine zmg_27 rfl dX10_near_65 rfl ?_
        refine z_iload dX10_near_68 rfl rfl ?_
        refine zm_iald dX10_near_70 rfl rfl (nI_in8 (by omega)) ?_
        rw [nI_clamp (show i < 2 ^ 31 by omega), hkie]
        refine zc_X10_246 rfl dX10_near_71 rfl mo_recv (q_pathCosts g h m S kr ki _ _ hA hB (by omega) (by omega) w.2.2.1 hR.2.1.2.1 hR.2.1.2.2.1) rfl rfl ⟨(Nat.le_of_ble_eq_true rfl), (Nat.le_of_ble_eq_true rfl)⟩ ⟨(Nat.le_of_ble_eq_true rfl), (Nat.le_of_ble_eq_true rfl)⟩ (Nat.le_of_ble_eq_true rfl) (fun v h1 hz => ?_)
        obtain ⟨f, rfl, rfl, hT⟩ := hz
        refine z_istore dX10_near_74 rfl (Nat.le_of_ble_eq_true rfl) ?_
        refine z_iload_n dX10_near_76 rfl rfl ?_
        refine z_bipush (v := -4) dX10_near_77 rfl (by decide) ?_
        refine z_icmp_eq (tgt := 88) dX10_near_79 rfl (by decide) (fun c79 => ?_) (fun c79 => ?_)
        · skip
          refine z_iload dX10_near_88 rfl rfl ?_
          refine z_istore_n dX10_near_90 rfl (Nat.le_of_ble_eq_true rfl) ?_
          refine z_iload dX10_near_91 rfl rfl ?_
          refine z_istore_n dX10_near_93 rfl (Nat.le_of_ble_eq_true rfl) ?_
          refine z_iinc (v := nI (i + 1)) dX10_near_94 rfl rfl (nI_inc i) (Nat.le_of_ble_eq_true rfl) ?_
          refine z_goto (tgt := 34) dX10_near_97 rfl (by decide) ?_
          refine z_lv [(4, .int (nI (i + 1))), (2, .int (nI i)), (3, .int (nI (dC w.2.2.1 (w.1.2.1 (ix r)).2 (w.1.2.1 i).2 (w.1.2.1 (ix r)).2.length (w.1.2.1 i).2.length))), (0, .ref m), (1, .int r)] ⟨rfl, rfl, rfl, rfl, rfl, trivial⟩ ?_
          exact ih _ (i + 1) (nI i) (dC w.2.2.1 (w.1.2.1 (ix r)).2 (w.1.2.1 i).2 (w.1.2.1 (ix r)).2.length (w.1.2.1 i).2.length) (by omega) (RepM_rest hR f) (by omega) (by rw [he, nearL, if_pos ⟨hir, hi2⟩, if_pos (Or.inl c79)])
        · skip
          refine z_iload dX10_near_82 rfl rfl ?_
          refine z_iload_n dX10_near_84 rfl rfl ?_
          refine z_icmp_ge (tgt := 94) dX10_near_85 rfl (by decide) (fun c85 => ?_) (fun c85 => ?_)
          · skip
            refine z_iinc (v := nI (i + 1)) dX10_near_94 rfl rfl (nI_inc i) (Nat.le_of_ble_eq_true rfl) ?_
            refine z_goto (tgt := 34) dX10_near_97 rfl (by decide) ?_
            refine z_lv [(4, .int (nI (i + 1))), (2, .int b), (3, .int (nI c)), (0, .ref m), (1, .int r)] ⟨rfl, rfl, rfl, rfl, rfl, trivial⟩ ?_
            exact ih _ (i + 1) b c (by omega) (RepM_rest hR f) (by omega) (by rw [he, nearL, if_pos ⟨hir, hi2⟩, if_neg (fun z => z.elim c79 (fun z => absurd c85 (nI_ge z (by omega))))])
          · skip
            refine z_iload dX10_near_88 rfl rfl ?_
            refine z_istore_n dX10_near_90 rfl (Nat.le_of_ble_eq_true rfl) ?_
            refine z_iload dX10_near_91 rfl rfl ?_
            refine z_istore_n dX10_near_93 rfl (Nat.le_of_ble_eq_true rfl) ?_
            refine z_iinc (v := nI (i + 1)) dX10_near_94 rfl rfl (nI_inc i) (Nat.le_of_ble_eq_true rfl) ?_
            refine z_goto (tgt := 34) dX10_near_97 rfl (by decide) ?_
            refine z_lv [(4, .int (nI (i + 1))), (2, .int (nI i)), (3, .int (nI (dC w.2.2.1 (w.1.2.1 (ix r)).2 (w.1.2.1 i).2 (w.1.2.1 (ix r)).2.length (w.1.2.1 i).2.length))), (0, .ref m), (1, .int r)] ⟨rfl, rfl, rfl, rfl, rfl, trivial⟩ ?_
            exact ih _ (i + 1) (nI i) (dC w.2.2.1 (w.1.2.1 (ix r)).2 (w.1.2.1 i).2 (w.1.2.1 (ix r)).2.length (w.1.2.1 i).2.length) (by omega) (RepM_rest hR f) (by omega) (by rw [he, nearL, if_pos ⟨hir, hi2⟩, if_pos (Or.inr (Nat.lt_of_not_le (fun z => c85 (nI_le z (by omega)))))])

set_option maxHeartbeats 4000000 in
set_option maxRecDepth 100000 in
theorem R_near (g : zG) (h : zH) (m : Nat) (S : sMS) (w : sW) (hR : RepM S w) (r : Int32) : zM g yX10_near cX10_near 6 (some .int) rmX10_near [.ref m, .int r] (mUp m S h) (mPost m h (pNear w r)) := by
  refine zM_of (by decide) (Nat.le_of_ble_eq_true rfl) ?_
  refine z_iload_n dX10_near_0 rfl rfl ?_
  refine zcx_X10_141 rfl dX10_near_1 rfl (r_isRecord g _ _) rfl rfl ⟨(Nat.le_of_ble_eq_true rfl), (Nat.le_of_ble_eq_true rfl)⟩ ⟨(Nat.le_of_ble_eq_true rfl), (Nat.le_of_ble_eq_true rfl)⟩ (Nat.le_of_ble_eq_true rfl) ?_
  refine z_bif_ne (tgt := 9) dX10_near_4 rfl (by decide) (fun c4 => ?_) (fun c4 => ?_)
  · skip
    first | refine z_aload_n dX10_near_9 rfl rfl ?_ | refine z_aload_nN dX10_near_9 rfl rfl ?_
    refine z_iload_n dX10_near_10 rfl rfl ?_
    refine zcx_X10_124 rfl dX10_near_11 rfl mo_recv (q_rowFault g h m S w.1 hR.1 _ c4) rfl rfl ⟨(Nat.le_of_ble_eq_true rfl), (Nat.le_of_ble_eq_true rfl)⟩ ⟨(Nat.le_of_ble_eq_true rfl), (Nat.le_of_ble_eq_true rfl)⟩ (Nat.le_of_ble_eq_true rfl) ?_
    refine z_if_le (tgt := 26) dX10_near_14 rfl (by decide) (fun c14 => ?_) (fun c14 => ?_)
    · skip
      refine z_bipush (v := -4) dX10_near_26 rfl (by decide) ?_
      refine z_istore_n dX10_near_28 rfl (Nat.le_of_ble_eq_true rfl) ?_
      refine z_iconst (v := 0) dX10_near_29 rfl (by decide) ?_
      refine z_istore_n dX10_near_30 rfl (Nat.le_of_ble_eq_true rfl) ?_
      refine z_iconst (v := 0) dX10_near_31 rfl (by decide) ?_
      refine z_istore dX10_near_32 rfl (Nat.le_of_ble_eq_true rfl) ?_
      refine z_lv [(4, .int (nI 0)), (2, .int (-4)), (3, .int (nI 0)), (0, .ref m), (1, .int r)] ⟨rfl, rfl, rfl, rfl, rfl, trivial⟩ ?_
      exact R_near_L g h m w r c4 (le0 c14) 8 S 0 (-4) 0 rfl hR (by decide) rfl
    · skip
      refine z_bipush (v := -10) dX10_near_17 rfl (by decide) ?_
      first | refine z_aload_n dX10_near_19 rfl rfl ?_ | refine z_aload_nN dX10_near_19 rfl rfl ?_
      refine z_iload_n dX10_near_20 rfl rfl ?_
      refine zcx_X10_124 rfl dX10_near_21 rfl mo_recv (q_rowFault g h m S w.1 hR.1 _ c4) rfl rfl ⟨(Nat.le_of_ble_eq_true rfl), (Nat.le_of_ble_eq_true rfl)⟩ ⟨(Nat.le_of_ble_eq_true rfl), (Nat.le_of_ble_eq_true rfl)⟩ (Nat.le_of_ble_eq_true rfl) ?_
      refine z_isub dX10_near_24 rfl ?_
      exact z_iret dX10_near_25 rfl rfl (mPost_of hR (by grind [pNear])) (Nat.le_of_ble_eq_true rfl) (Nat.le_of_ble_eq_true rfl)
  · skip
    refine z_iconst (v := -1) dX10_near_7 rfl (by decide) ?_
    exact z_iret dX10_near_8 rfl rfl (mPost_of hR (by grind [pNear])) (Nat.le_of_ble_eq_true rfl) (Nat.le_of_ble_eq_true rfl)

