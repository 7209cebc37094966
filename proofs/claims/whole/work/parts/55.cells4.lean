def cCp (c : Nat → sC) (k : Int32) (n i : Nat) : Nat → sC := fun j => if j < i then c j else cIn k n j
theorem cCp_s (c : Nat → sC) (k : Int32) (n i : Nat) : uC (cCp c k n i) i (c i) = cCp c k n (i + 1) := by
  funext j
  simp only [uC, cCp]
  by_cases e : j = i
  · rw [if_pos e, if_pos (by omega), e]
  · rw [if_neg e]
    by_cases q : j < i
    · rw [if_pos q, if_pos (by omega)]
    · rw [if_neg q, if_neg (by omega)]
theorem cCp_0 (c : Nat → sC) (k : Int32) (n : Nat) : cIn k n = cCp c k n 0 := by funext j; simp [cCp]

abbrev YX3_copy : zY := (yX3_copy.cls, cX3_copy, 3, (some (.object "LoggerTwins$Cells")), rmX3_copy, yX3_copy.name, fun _ _ => True)
theorem into_fit {c : sC} {k : Int32} (h : sFit c k) (hk : 0 ≤ k ∧ k ≤ 10) : sInto c.1 k = true := by
  by_cases h7 : k ≤ 7
  · rw [h.1 h7]; exact into_kk ⟨hk.1, h7⟩
  · exact h.2 (by grind)

set_option maxHeartbeats 800000 in
set_option maxRecDepth 100000 in
theorem m_copy_L (g : zG) (h : zH) (a : Nat) (k : Int32) (n : Nat) (c : Nat → sC) (hA : cAt h a k n c) (hn : n ≤ 40) (hlt : a + 4 ≤ h.1) (hk : 0 ≤ k ∧ k ≤ 10) (hc : ∀ i, i < n → sOk (c i) ∧ sFit (c i) k) : ∀ (nn : Nat) (i : Nat), i + nn = n → zZ g YX3_copy (zE g (fun v h1 => v = some (.ref h.1) ∧ h1 = (cUp h.1 k n (cCp c k n n) (h.1 + 4, h.2))) 4 125) 18 [(2, .int (nI i)), (1, .ref h.1), (0, .ref a)] [] (cUp h.1 k n (cCp c k n i) (h.1 + 4, h.2)) 4 125 := by
  intro nn
  induction nn with
  | zero =>
    intro i hin
    refine z_iload_n dX3_copy_18 rfl rfl ?_
    first | refine z_aload_n dX3_copy_19 rfl rfl ?_ | refine z_aload_nN dX3_copy_19 rfl rfl ?_
    refine zg_X3_15 rfl dX3_copy_20 rfl (cAt_fr hA (fun q q1 q2 => cUp_out (by omega))).1 rfl ?_
    refine z_icmp_ge (tgt := 39) dX3_copy_23 rfl (by decide) (fun c23 => ?_) (fun c23 => absurd c23 (fun z => z (nI_le (by omega) (by omega))))
    first | refine z_aload_n dX3_copy_39 rfl rfl ?_ | refine z_aload_nN dX3_copy_39 rfl rfl ?_
    exact z_aret dX3_copy_40 rfl rfl (Or.inl ⟨_, rfl⟩) ⟨rfl, by rw [show i = n from by omega]⟩ (Nat.le_of_ble_eq_true rfl) (Nat.le_of_ble_eq_true rfl)
  | succ nn ih =>
    intro i hin
    refine z_iload_n dX3_copy_18 rfl rfl ?_
    first | refine z_aload_n dX3_copy_19 rfl rfl ?_ | refine z_aload_nN dX3_copy_19 rfl rfl ?_
    refine zg_X3_15 rfl dX3_copy_20 rfl (cAt_fr hA (fun q q1 q2 => cUp_out (by omega))).1 rfl ?_
    refine z_icmp_ge (tgt := 39) dX3_copy_23 rfl (by decide) (fun c23 => absurd c23 (nI_ge (by omega) (by omega))) (fun c23 => ?_)
    first | refine z_aload_n dX3_copy_26 rfl rfl ?_ | refine z_aload_nN dX3_copy_26 rfl rfl ?_
    refine z_iload_n dX3_copy_27 rfl rfl ?_
    first | refine z_aload_n dX3_copy_28 rfl rfl ?_ | refine z_aload_nN dX3_copy_28 rfl rfl ?_
    refine z_iload_n dX3_copy_29 rfl rfl ?_
    refine zcv_X3_33 rfl dX3_copy_30 rfl (cUp_at _ _ _ _ _).1 (m_take g (cUp h.1 k n (cCp c k n i) (h.1 + 4, h.2)) h.1 k n _ (cUp_at _ _ _ _ _) hn i (by omega) a k n c (cAt_fr hA (fun q q1 q2 => cUp_out (by omega))) hn i (by omega) (hc i (by omega)).1 hk (into_fit (hc i (by omega)).2 hk)) rfl rfl ⟨(Nat.le_of_ble_eq_true rfl), (Nat.le_of_ble_eq_true rfl)⟩ ⟨(Nat.le_of_ble_eq_true rfl), (Nat.le_of_ble_eq_true rfl)⟩ (Nat.le_of_ble_eq_true rfl) ?_
    rw [conv_fit (hc i (by omega)).1 (hc i (by omega)).2 hk.1, cCp_s, cUp_up]
    refine z_iinc (v := nI (i + 1)) dX3_copy_33 rfl rfl (nI_inc i) (Nat.le_of_ble_eq_true rfl) ?_
    refine z_goto (tgt := 18) dX3_copy_36 rfl (by decide) ?_
    refine z_lv [(2, .int (nI (i + 1))), (1, .ref h.1), (0, .ref a)] ⟨rfl, rfl, rfl, trivial⟩ ?_
    exact ih (i + 1) (by omega)

set_option maxHeartbeats 4000000 in
set_option maxRecDepth 100000 in
/-- X3_copy -/
theorem m_copy (g : zG) (h : zH) (a : Nat) (k : Int32) (n : Nat) (c : Nat → sC) (hA : cAt h a k n c) (hn : n ≤ 40) (hw : wfH h) (hk : 0 ≤ k ∧ k ≤ 10) (hc : ∀ i, i < n → sOk (c i) ∧ sFit (c i) k) : zX g yX3_copy cX3_copy 3 (some (.object "LoggerTwins$Cells")) rmX3_copy [.ref a] h (.ref h.1) (cUp h.1 k n (cCp c k n n) (h.1 + 4, h.2)) := by
  refine zM_of (by decide) (Nat.le_of_ble_eq_true rfl) ?_
  have hlt := cAt_lt hA hw
  refine zn_X3_10 rfl dX3_copy_0 rfl (Nat.le_of_ble_eq_true rfl) (Nat.le_of_ble_eq_true rfl) ?_
  refine z_dup dX3_copy_3 rfl rfl ?_
  first | refine z_aload_n dX3_copy_4 rfl rfl ?_ | refine z_aload_nN dX3_copy_4 rfl rfl ?_
  refine zg_X3_9 rfl dX3_copy_5 rfl ((vu_n (by omega)).trans hA.1) rfl ?_
  first | refine z_aload_n dX3_copy_8 rfl rfl ?_ | refine z_aload_nN dX3_copy_8 rfl rfl ?_
  refine zg_X3_15 rfl dX3_copy_9 rfl ((vu_n (by omega)).trans hA.1) rfl ?_
  refine zc_X3_30 rfl dX3_copy_12 rfl (m_cinit g (va_up h.2 h.1 _) h.1 _ vu_s rfl k n hn) rfl rfl ⟨(Nat.le_of_ble_eq_true rfl), (Nat.le_of_ble_eq_true rfl)⟩ ⟨(Nat.le_of_ble_eq_true rfl), (Nat.le_of_ble_eq_true rfl)⟩ (Nat.le_of_ble_eq_true rfl) (fun v h1 hz => ?_)
  obtain ⟨rfl, rfl⟩ := hz
  rw [cUp_vu]
  first | refine z_astore_n dX3_copy_15 rfl (Nat.le_of_ble_eq_true rfl) ?_ | refine z_astore_nN dX3_copy_15 rfl (Nat.le_of_ble_eq_true rfl) ?_
  refine z_iconst (v := 0) dX3_copy_16 rfl (by decide) ?_
  refine z_istore_n dX3_copy_17 rfl (Nat.le_of_ble_eq_true rfl) ?_
  rw [cCp_0 c k n]
  refine z_lv [(2, .int (nI 0)), (1, .ref h.1), (0, .ref a)] ⟨rfl, rfl, rfl, trivial⟩ ?_
  exact m_copy_L g h a k n c hA hn hlt hk hc n 0 (by omega)

set_option maxHeartbeats 4000000 in
set_option maxRecDepth 100000 in
/-- X3_isDuplicate -/
theorem m_isDuplicate (g : zG) (h : zH) (a : Nat) (k : Int32) (n : Nat) (c : Nat → sC) (hA : cAt h a k n c) (hn : n ≤ 40) (i : Nat) (hi : i < n) (hc : ∀ i, i < n → sOk (c i)) : zX g yX3_isDuplicate cX3_isDuplicate 2 (some .boolean) rmX3_isDuplicate [.ref a, .int (nI i)] h (.int (if (decide (0 < i) && sAlike (c (i - 1)) (c i)) = true then 1 else 0)) h := by
  refine zM_of (by decide) (Nat.le_of_ble_eq_true rfl) ?_
  refine z_iload_n dX3_isDuplicate_0 rfl rfl ?_
  refine z_if_le (tgt := 21) dX3_isDuplicate_1 rfl (by decide) (fun c1 => ?_) (fun c1 => ?_)
  · skip
    refine z_iconst (v := 0) dX3_isDuplicate_21 rfl (by decide) ?_
    exact z_zret dX3_isDuplicate_22 rfl rfl rfl ⟨by rw [show i = 0 from (nI_le0 (by omega)).mp c1]; rfl, rfl⟩ (Nat.le_of_ble_eq_true rfl) (Nat.le_of_ble_eq_true rfl)
  · skip
    first | refine z_aload_n dX3_isDuplicate_4 rfl rfl ?_ | refine z_aload_nN dX3_isDuplicate_4 rfl rfl ?_
    refine z_iload_n dX3_isDuplicate_5 rfl rfl ?_
    first | refine z_aload_n dX3_isDuplicate_6 rfl rfl ?_ | refine z_aload_nN dX3_isDuplicate_6 rfl rfl ?_
    refine z_iload_n dX3_isDuplicate_7 rfl rfl ?_
    refine z_iconst (v := 1) dX3_isDuplicate_8 rfl (by decide) ?_
    refine z_isub dX3_isDuplicate_9 rfl ?_
    have hi0 : 0 < i := Nat.pos_of_ne_zero (fun z => c1 (by rw [z]; decide))
    rw [show nI i - 1 = nI (i - 1) from nI_sub (a := i) (b := 1) (by omega)]
    refine z_iconst (v := 0) dX3_isDuplicate_10 rfl (by decide) ?_
    refine zcx_X3_94 rfl dX3_isDuplicate_11 rfl (m_verdict g h a k n c hA hn i hi a k n c hA hn (i - 1) (by omega) (hc i hi) (hc _ (by omega)) 0) rfl rfl ⟨(Nat.le_of_ble_eq_true rfl), (Nat.le_of_ble_eq_true rfl)⟩ ⟨(Nat.le_of_ble_eq_true rfl), (Nat.le_of_ble_eq_true rfl)⟩ (Nat.le_of_ble_eq_true rfl) ?_
    refine z_if_ne (tgt := 21) dX3_isDuplicate_14 rfl (by decide) (fun c14 => ?_) (fun c14 => ?_)
    · skip
      refine z_iconst (v := 0) dX3_isDuplicate_21 rfl (by decide) ?_
      exact z_zret dX3_isDuplicate_22 rfl rfl rfl ⟨by rw [sAlike_comm]; have z := sLike_0 (c := c i) (d := c (i - 1)) (t := 0); grind, rfl⟩ (Nat.le_of_ble_eq_true rfl) (Nat.le_of_ble_eq_true rfl)
    · skip
      refine z_iconst (v := 1) dX3_isDuplicate_17 rfl (by decide) ?_
      refine z_goto (tgt := 22) dX3_isDuplicate_18 rfl (by decide) ?_
      exact z_zret dX3_isDuplicate_22 rfl rfl rfl ⟨by rw [sAlike_comm]; have z := sLike_0 (c := c i) (d := c (i - 1)) (t := 0); grind, rfl⟩ (Nat.le_of_ble_eq_true rfl) (Nat.le_of_ble_eq_true rfl)

abbrev YX3_wholeTotal : zY := (yX3_wholeTotal.cls, cX3_wholeTotal, 4, (some .long), rmX3_wholeTotal, yX3_wholeTotal.name, fun _ _ => True)
set_option maxHeartbeats 800000 in
set_option maxRecDepth 100000 in
theorem m_wholeTotal_L (g : zG) (h : zH) (a : Nat) (k : Int32) (n : Nat) (c : Nat → sC) (hA : cAt h a k n c) (hn : n ≤ 20) (L : List sC) (hL : L.length = n) (hc : ∀ i, i < n → c i = L.getD i z0) : ∀ (nn : Nat) (i : Nat), i + nn = n → zZ g YX3_wholeTotal (zE g (fun v h1 => v = some (.long (sumL L)) ∧ h1 = h) 0 0) 4 [(1, .long (sumL (L.take i))), (3, .int (nI i)), (0, .ref a)] [] h 0 0 := by
  have hA0 := hA
  obtain ⟨A0, A1, A2, A3⟩ := hA0
  intro nn
  induction nn with
  | zero =>
    intro i hin
    refine z_iload_n dX3_wholeTotal_4 rfl rfl ?_
    first | refine z_aload_n dX3_wholeTotal_5 rfl rfl ?_ | refine z_aload_nN dX3_wholeTotal_5 rfl rfl ?_
    refine zg_X3_15 rfl dX3_wholeTotal_6 rfl (by assumption) rfl ?_
    refine z_icmp_ge (tgt := 27) dX3_wholeTotal_9 rfl (by decide) (fun c9 => ?_) (fun c9 => absurd c9 (fun z => z (nI_le (by omega) (by omega))))
    refine z_lload_n dX3_wholeTotal_27 rfl rfl ?_
    exact z_lret dX3_wholeTotal_28 rfl rfl ⟨by rw [show i = L.length from by omega, List.take_length], rfl⟩ (Nat.le_of_ble_eq_true rfl) (Nat.le_of_ble_eq_true rfl)
  | succ nn ih =>
    intro i hin
    refine z_iload_n dX3_wholeTotal_4 rfl rfl ?_
    first | refine z_aload_n dX3_wholeTotal_5 rfl rfl ?_ | refine z_aload_nN dX3_wholeTotal_5 rfl rfl ?_
    refine zg_X3_15 rfl dX3_wholeTotal_6 rfl (by assumption) rfl ?_
    refine z_icmp_ge (tgt := 27) dX3_wholeTotal_9 rfl (by decide) (fun c9 => absurd c9 (nI_ge (by omega) (by omega))) (fun c9 => ?_)
    refine z_lload_n dX3_wholeTotal_12 rfl rfl ?_
    first | refine z_aload_n dX3_wholeTotal_13 rfl rfl ?_ | refine z_aload_nN dX3_wholeTotal_13 rfl rfl ?_
    refine zg_X3_22 rfl dX3_wholeTotal_14 rfl (by assumption) rfl ?_
    refine z_iload_n dX3_wholeTotal_17 rfl rfl ?_
    refine z_lald dX3_wholeTotal_18 rfl (by assumption) (vp_in_nI (by omega) (by omega)) ?_
    rw [nI_clamp (show i < 2 ^ 31 by omega), hc i (by omega)]
    refine z_ladd dX3_wholeTotal_19 rfl ?_
    rw [sumL_s (by omega)]
    refine z_lstore_n dX3_wholeTotal_20 rfl (Nat.le_of_ble_eq_true rfl) ?_
    refine z_iinc (v := nI (i + 1)) dX3_wholeTotal_21 rfl rfl (nI_inc i) (Nat.le_of_ble_eq_true rfl) ?_
    refine z_goto (tgt := 4) dX3_wholeTotal_24 rfl (by decide) ?_
    refine z_lv [(1, .long (sumL (L.take (i + 1)))), (3, .int (nI (i + 1))), (0, .ref a)] ⟨rfl, rfl, rfl, trivial⟩ ?_
    exact ih (i + 1) (by omega)

set_option maxHeartbeats 4000000 in
set_option maxRecDepth 100000 in
/-- X3_wholeTotal -/
theorem m_wholeTotal (g : zG) (h : zH) (a : Nat) (k : Int32) (n : Nat) (c : Nat → sC) (hA : cAt h a k n c) (hn : n ≤ 20) (L : List sC) (hL : L.length = n) (hc : ∀ i, i < n → c i = L.getD i z0) : zX g yX3_wholeTotal cX3_wholeTotal 4 (some .long) rmX3_wholeTotal [.ref a] h (.long (sumL L)) h := by
  refine zM_of (by decide) (Nat.le_of_ble_eq_true rfl) ?_
  refine z_lconst (v := 0) dX3_wholeTotal_0 rfl (by decide) ?_
  refine z_lstore_n dX3_wholeTotal_1 rfl (Nat.le_of_ble_eq_true rfl) ?_
  refine z_iconst (v := 0) dX3_wholeTotal_2 rfl (by decide) ?_
  refine z_istore_n dX3_wholeTotal_3 rfl (Nat.le_of_ble_eq_true rfl) ?_
  refine z_lv [(1, .long (sumL (L.take 0))), (3, .int (nI 0)), (0, .ref a)] ⟨rfl, rfl, rfl, trivial⟩ ?_
  exact m_wholeTotal_L g h a k n c hA hn L hL hc  n 0 (by omega)

abbrev YX3_floatTotal : zY := (yX3_floatTotal.cls, cX3_floatTotal, 3, (some .float), rmX3_floatTotal, yX3_floatTotal.name, fun _ _ => True)
set_option maxHeartbeats 800000 in
set_option maxRecDepth 100000 in
theorem m_floatTotal_L (g : zG) (h : zH) (a : Nat) (k : Int32) (n : Nat) (c : Nat → sC) (hA : cAt h a k n c) (hn : n ≤ 20) (L : List sC) (hL : L.length = n) (hc : ∀ i, i < n → c i = L.getD i z0) (hok : ∀ i, i < n → 0 ≤ (c i).1 ∧ (c i).1 ≤ 7 ∧ okD (sReal (c i) 6)) : ∀ (nn : Nat) (i : Nat), i + nn = n → zZ g YX3_floatTotal (zE g (fun v h1 => v = some (.float (sumF L)) ∧ h1 = h) 0 0) 4 [(1, .float (sumF (L.take i))), (2, .int (nI i)), (0, .ref a)] [] h 0 0 := by
  have hA0 := hA
  obtain ⟨A0, A1, A2, A3⟩ := hA0
  intro nn
  induction nn with
  | zero =>
    intro i hin
    refine z_iload_n dX3_floatTotal_4 rfl rfl ?_
    first | refine z_aload_n dX3_floatTotal_5 rfl rfl ?_ | refine z_aload_nN dX3_floatTotal_5 rfl rfl ?_
    refine zg_X3_15 rfl dX3_floatTotal_6 rfl (by assumption) rfl ?_
    refine z_icmp_ge (tgt := 29) dX3_floatTotal_9 rfl (by decide) (fun c9 => ?_) (fun c9 => absurd c9 (fun z => z (nI_le (by omega) (by omega))))
    refine z_fload_n dX3_floatTotal_29 rfl rfl ?_
    exact z_fret dX3_floatTotal_30 rfl rfl ⟨by rw [show i = L.length from by omega, List.take_length], rfl⟩ (Nat.le_of_ble_eq_true rfl) (Nat.le_of_ble_eq_true rfl)
  | succ nn ih =>
    intro i hin
    refine z_iload_n dX3_floatTotal_4 rfl rfl ?_
    first | refine z_aload_n dX3_floatTotal_5 rfl rfl ?_ | refine z_aload_nN dX3_floatTotal_5 rfl rfl ?_
    refine zg_X3_15 rfl dX3_floatTotal_6 rfl (by assumption) rfl ?_
    refine z_icmp_ge (tgt := 29) dX3_floatTotal_9 rfl (by decide) (fun c9 => absurd c9 (nI_ge (by omega) (by omega))) (fun c9 => ?_)
    have hD : ∀ i, i < L.length → okD (sReal (L.getD i z0) 6) := fun i hi => by rw [← hc i (by omega)]; exact (hok i (by omega)).2.2
    refine z_fload_n dX3_floatTotal_12 rfl rfl ?_
    first | refine z_aload_n dX3_floatTotal_13 rfl rfl ?_ | refine z_aload_nN dX3_floatTotal_13 rfl rfl ?_
    refine z_iload_n dX3_floatTotal_14 rfl rfl ?_
    refine z_bipush (v := 6) dX3_floatTotal_15 rfl (by decide) ?_
    refine zcx_X3_66 rfl dX3_floatTotal_17 rfl (by assumption) (m_realAs g h a k n c hA (by omega) i (by omega) 6 (hok i (by omega)).1 (hok i (by omega)).2.1) rfl rfl ⟨(Nat.le_of_ble_eq_true rfl), (Nat.le_of_ble_eq_true rfl)⟩ ⟨(Nat.le_of_ble_eq_true rfl), (Nat.le_of_ble_eq_true rfl)⟩ (Nat.le_of_ble_eq_true rfl) ?_
    rw [hc i (by omega)]
    refine z_d2f dX3_floatTotal_20 rfl (fpS_n (fpS_d2f (hD i (by omega)).1 (by decide))) ?_
    refine z_fadd dX3_floatTotal_21 rfl (by rw [sumF_s (by omega)]; exact fpS_n (sumF_le hD (i + 1) (by omega) (by omega))) ?_
    rw [sumF_s (by omega)]
    refine z_fstore_n dX3_floatTotal_22 rfl (Nat.le_of_ble_eq_true rfl) ?_
    refine z_iinc (v := nI (i + 1)) dX3_floatTotal_23 rfl rfl (nI_inc i) (Nat.le_of_ble_eq_true rfl) ?_
    refine z_goto (tgt := 4) dX3_floatTotal_26 rfl (by decide) ?_
    refine z_lv [(1, .float (sumF (L.take (i + 1)))), (2, .int (nI (i + 1))), (0, .ref a)] ⟨rfl, rfl, rfl, trivial⟩ ?_
    exact ih (i + 1) (by omega)

set_option maxHeartbeats 4000000 in
set_option maxRecDepth 100000 in
/-- X3_floatTotal -/
theorem m_floatTotal (g : zG) (h : zH) (a : Nat) (k : Int32) (n : Nat) (c : Nat → sC) (hA : cAt h a k n c) (hn : n ≤ 20) (L : List sC) (hL : L.length = n) (hc : ∀ i, i < n → c i = L.getD i z0) (hok : ∀ i, i < n → 0 ≤ (c i).1 ∧ (c i).1 ≤ 7 ∧ okD (sReal (c i) 6)) : zX g yX3_floatTotal cX3_floatTotal 3 (some .float) rmX3_floatTotal [.ref a] h (.float (sumF L)) h := by
  refine zM_of (by decide) (Nat.le_of_ble_eq_true rfl) ?_
  refine z_fconst0 dX3_floatTotal_0 rfl ?_
  refine z_fstore_n dX3_floatTotal_1 rfl (Nat.le_of_ble_eq_true rfl) ?_
  refine z_iconst (v := 0) dX3_floatTotal_2 rfl (by decide) ?_
  refine z_istore_n dX3_floatTotal_3 rfl (Nat.le_of_ble_eq_true rfl) ?_
  refine z_lv [(1, .float (sumF (L.take 0))), (2, .int (nI 0)), (0, .ref a)] ⟨rfl, rfl, rfl, trivial⟩ ?_
  exact m_floatTotal_L g h a k n c hA hn L hL hc hok n 0 (by omega)

abbrev YX3_doubleTotal : zY := (yX3_doubleTotal.cls, cX3_doubleTotal, 4, (some .double), rmX3_doubleTotal, yX3_doubleTotal.name, fun _ _ => True)
set_option maxHeartbeats 800000 in
set_option maxRecDepth 100000 in
theorem m_doubleTotal_L (g : zG) (h : zH) (a : Nat) (k : Int32) (n : Nat) (c : Nat → sC) (hA : cAt h a k n c) (hn : n ≤ 20) (L : List sC) (hL : L.length = n) (hc : ∀ i, i < n → c i = L.getD i z0) (hok : ∀ i, i < n → 0 ≤ (c i).1 ∧ (c i).1 ≤ 7 ∧ okD (sReal (c i) 7)) : ∀ (nn : Nat) (i : Nat), i + nn = n → zZ g YX3_doubleTotal (zE g (fun v h1 => v = some (.double (sumD L)) ∧ h1 = h) 0 0) 4 [(1, .double (sumD (L.take i))), (3, .int (nI i)), (0, .ref a)] [] h 0 0 := by
  have hA0 := hA
  obtain ⟨A0, A1, A2, A3⟩ := hA0
  intro nn
  induction nn with
  | zero =>
    intro i hin
    refine z_iload_n dX3_doubleTotal_4 rfl rfl ?_
    first | refine z_aload_n dX3_doubleTotal_5 rfl rfl ?_ | refine z_aload_nN dX3_doubleTotal_5 rfl rfl ?_
    refine zg_X3_15 rfl dX3_doubleTotal_6 rfl (by assumption) rfl ?_
    refine z_icmp_ge (tgt := 28) dX3_doubleTotal_9 rfl (by decide) (fun c9 => ?_) (fun c9 => absurd c9 (fun z => z (nI_le (by omega) (by omega))))
    refine z_dload_n dX3_doubleTotal_28 rfl rfl ?_
    exact z_dret dX3_doubleTotal_29 rfl rfl ⟨by rw [show i = L.length from by omega, List.take_length], rfl⟩ (Nat.le_of_ble_eq_true rfl) (Nat.le_of_ble_eq_true rfl)
  | succ nn ih =>
    intro i hin
    refine z_iload_n dX3_doubleTotal_4 rfl rfl ?_
    first | refine z_aload_n dX3_doubleTotal_5 rfl rfl ?_ | refine z_aload_nN dX3_doubleTotal_5 rfl rfl ?_
    refine zg_X3_15 rfl dX3_doubleTotal_6 rfl (by assumption) rfl ?_
    refine z_icmp_ge (tgt := 28) dX3_doubleTotal_9 rfl (by decide) (fun c9 => absurd c9 (nI_ge (by omega) (by omega))) (fun c9 => ?_)
    have hD : ∀ i, i < L.length → okD (sReal (L.getD i z0) 7) := fun i hi => by rw [← hc i (by omega)]; exact (hok i (by omega)).2.2
    refine z_dload_n dX3_doubleTotal_12 rfl rfl ?_
    first | refine z_aload_n dX3_doubleTotal_13 rfl rfl ?_ | refine z_aload_nN dX3_doubleTotal_13 rfl rfl ?_
    refine z_iload_n dX3_doubleTotal_14 rfl rfl ?_
    refine z_bipush (v := 7) dX3_doubleTotal_15 rfl (by decide) ?_
    refine zcx_X3_66 rfl dX3_doubleTotal_17 rfl (by assumption) (m_realAs g h a k n c hA (by omega) i (by omega) 7 (hok i (by omega)).1 (hok i (by omega)).2.1) rfl rfl ⟨(Nat.le_of_ble_eq_true rfl), (Nat.le_of_ble_eq_true rfl)⟩ ⟨(Nat.le_of_ble_eq_true rfl), (Nat.le_of_ble_eq_true rfl)⟩ (Nat.le_of_ble_eq_true rfl) ?_
    rw [hc i (by omega)]
    refine z_dadd dX3_doubleTotal_20 rfl (by rw [sumD_s (by omega)]; exact fpD_n (sumD_le hD (i + 1) (by omega) (by omega))) ?_
    rw [sumD_s (by omega)]
    refine z_dstore_n dX3_doubleTotal_21 rfl (Nat.le_of_ble_eq_true rfl) ?_
    refine z_iinc (v := nI (i + 1)) dX3_doubleTotal_22 rfl rfl (nI_inc i) (Nat.le_of_ble_eq_true rfl) ?_
    refine z_goto (tgt := 4) dX3_doubleTotal_25 rfl (by decide) ?_
    refine z_lv [(1, .double (sumD (L.take (i + 1)))), (3, .int (nI (i + 1))), (0, .ref a)] ⟨rfl, rfl, rfl, trivial⟩ ?_
    exact ih (i + 1) (by omega)

set_option maxHeartbeats 4000000 in
set_option maxRecDepth 100000 in
/-- X3_doubleTotal -/
theorem m_doubleTotal (g : zG) (h : zH) (a : Nat) (k : Int32) (n : Nat) (c : Nat → sC) (hA : cAt h a k n c) (hn : n ≤ 20) (L : List sC) (hL : L.length = n) (hc : ∀ i, i < n → c i = L.getD i z0) (hok : ∀ i, i < n → 0 ≤ (c i).1 ∧ (c i).1 ≤ 7 ∧ okD (sReal (c i) 7)) : zX g yX3_doubleTotal cX3_doubleTotal 4 (some .double) rmX3_doubleTotal [.ref a] h (.double (sumD L)) h := by
  refine zM_of (by decide) (Nat.le_of_ble_eq_true rfl) ?_
  refine z_dconst0 dX3_doubleTotal_0 rfl ?_
  refine z_dstore_n dX3_doubleTotal_1 rfl (Nat.le_of_ble_eq_true rfl) ?_
  refine z_iconst (v := 0) dX3_doubleTotal_2 rfl (by decide) ?_
  refine z_istore_n dX3_doubleTotal_3 rfl (Nat.le_of_ble_eq_true rfl) ?_
  refine z_lv [(1, .double (sumD (L.take 0))), (3, .int (nI 0)), (0, .ref a)] ⟨rfl, rfl, rfl, trivial⟩ ?_
  exact m_doubleTotal_L g h a k n c hA hn L hL hc hok n 0 (by omega)

def isNu (c : sC) : Bool := decide (c.1 = 9)
theorem nu_s {L : List sC} {i : Nat} (hi : i < L.length) : nI ((L.take (i + 1)).countP isNu) = if (L.getD i z0).1 = 9 then nI ((L.take i).countP isNu + 1) else nI ((L.take i).countP isNu) := by
  have e : L[i]? = some (L.getD i z0) := by rw [List.getD_eq_getElem?_getD, List.getElem?_eq_getElem hi]; rfl
  rw [tk_s e, List.countP_append, List.countP_singleton]
  by_cases q : (L.getD i z0).1 = 9
  · rw [if_pos q, show isNu (L.getD i z0) = true from decide_eq_true q, if_pos rfl]
  · rw [if_neg q, show isNu (L.getD i z0) = false from decide_eq_false q, if_neg Bool.false_ne_true, Nat.add_zero]

abbrev YX3_nulls : zY := (yX3_nulls.cls, cX3_nulls, 3, (some .int), rmX3_nulls, yX3_nulls.name, fun _ _ => True)
set_option maxHeartbeats 800000 in
set_option maxRecDepth 100000 in
theorem m_nulls_L (g : zG) (h : zH) (a : Nat) (k : Int32) (n : Nat) (c : Nat → sC) (hA : cAt h a k n c) (hn : n ≤ 20) (L : List sC) (hL : L.length = n) (hc : ∀ i, i < n → c i = L.getD i z0) : ∀ (nn : Nat) (i : Nat), i + nn = n → zZ g YX3_nulls (zE g (fun v h1 => v = some (.int (nI (L.countP isNu))) ∧ h1 = h) 0 0) 4 [(1, .int (nI ((L.take i).countP isNu))), (2, .int (nI i)), (0, .ref a)] [] h 0 0 := by
  have hA0 := hA
  obtain ⟨A0, A1, A2, A3⟩ := hA0
  intro nn
  induction nn with
  | zero =>
    intro i hin
    refine z_iload_n dX3_nulls_4 rfl rfl ?_
    first | refine z_aload_n dX3_nulls_5 rfl rfl ?_ | refine z_aload_nN dX3_nulls_5 rfl rfl ?_
    refine zg_X3_15 rfl dX3_nulls_6 rfl (by assumption) rfl ?_
    refine z_icmp_ge (tgt := 32) dX3_nulls_9 rfl (by decide) (fun c9 => ?_) (fun c9 => absurd c9 (fun z => z (nI_le (by omega) (by omega))))
    refine z_iload_n dX3_nulls_32 rfl rfl ?_
    exact z_iret dX3_nulls_33 rfl rfl ⟨by rw [show i = L.length from by omega, List.take_length], rfl⟩ (Nat.le_of_ble_eq_true rfl) (Nat.le_of_ble_eq_true rfl)
  | succ nn ih =>
    intro i hin
    refine z_iload_n dX3_nulls_4 rfl rfl ?_
    first | refine z_aload_n dX3_nulls_5 rfl rfl ?_ | refine z_aload_nN dX3_nulls_5 rfl rfl ?_
    refine zg_X3_15 rfl dX3_nulls_6 rfl (by assumption) rfl ?_
    refine z_icmp_ge (tgt := 32) dX3_nulls_9 rfl (by decide) (fun c9 => absurd c9 (nI_ge (by omega) (by omega))) (fun c9 => ?_)
    first | refine z_aload_n dX3_nulls_12 rfl rfl ?_ | refine z_aload_nN dX3_nulls_12 rfl rfl ?_
    refine zg_X3_18 rfl dX3_nulls_13 rfl (by assumption) rfl ?_
    refine z_iload_n dX3_nulls_16 rfl rfl ?_
    refine z_iald dX3_nulls_17 rfl (by assumption) (vp_in_nI (by omega) (by omega)) ?_
    rw [nI_clamp (show i < 2 ^ 31 by omega), hc i (by omega)]
    refine z_bipush (v := 9) dX3_nulls_18 rfl (by decide) ?_
    refine z_icmp_ne (tgt := 26) dX3_nulls_20 rfl (by decide) (fun c20 => ?_) (fun c20 => ?_)
    · skip
      first | rw [← show nI ((L.take (i + 1)).countP isNu) = nI ((L.take i).countP isNu + 1) from by rw [nu_s (by omega), if_pos c20]] | rw [← show nI ((L.take (i + 1)).countP isNu) = nI ((L.take i).countP isNu) from by rw [nu_s (by omega), if_neg c20]]
      refine z_iinc (v := nI (i + 1)) dX3_nulls_26 rfl rfl (nI_inc i) (Nat.le_of_ble_eq_true rfl) ?_
      refine z_goto (tgt := 4) dX3_nulls_29 rfl (by decide) ?_
      refine z_lv [(1, .int (nI ((L.take (i + 1)).countP isNu))), (2, .int (nI (i + 1))), (0, .ref a)] ⟨rfl, rfl, rfl, trivial⟩ ?_
      exact ih (i + 1) (by omega)
    · skip
      refine z_iinc (v := nI ((L.take i).countP isNu + 1)) dX3_nulls_23 rfl rfl (nI_inc _) (Nat.le_of_ble_eq_true rfl) ?_
      first | rw [← show nI ((L.take (i + 1)).countP isNu) = nI ((L.take i).countP isNu + 1) from by rw [nu_s (by omega), if_pos c20]] | rw [← show nI ((L.take (i + 1)).countP isNu) = nI ((L.take i).countP isNu) from by rw [nu_s (by omega), if_neg c20]]
      refine z_iinc (v := nI (i + 1)) dX3_nulls_26 rfl rfl (nI_inc i) (Nat.le_of_ble_eq_true rfl) ?_
      refine z_goto (tgt := 4) dX3_nulls_29 rfl (by decide) ?_
      refine z_lv [(1, .int (nI ((L.take (i + 1)).countP isNu))), (2, .int (nI (i + 1))), (0, .ref a)] ⟨rfl, rfl, rfl, trivial⟩ ?_
      exact ih (i + 1) (by omega)

set_option maxHeartbeats 4000000 in
set_option maxRecDepth 100000 in
/-- X3_nulls -/
theorem m_nulls (g : zG) (h : zH) (a : Nat) (k : Int32) (n : Nat) (c : Nat → sC) (hA : cAt h a k n c) (hn : n ≤ 20) (L : List sC) (hL : L.length = n) (hc : ∀ i, i < n → c i = L.getD i z0) : zX g yX3_nulls cX3_nulls 3 (some .int) rmX3_nulls [.ref a] h (.int (nI (L.countP isNu))) h := by
  refine zM_of (by decide) (Nat.le_of_ble_eq_true rfl) ?_
  refine z_iconst (v := 0) dX3_nulls_0 rfl (by decide) ?_
  refine z_istore_n dX3_nulls_1 rfl (Nat.le_of_ble_eq_true rfl) ?_
  refine z_iconst (v := 0) dX3_nulls_2 rfl (by decide) ?_
  refine z_istore_n dX3_nulls_3 rfl (Nat.le_of_ble_eq_true rfl) ?_
  refine z_lv [(1, .int (nI ((L.take 0).countP isNu))), (2, .int (nI 0)), (0, .ref a)] ⟨rfl, rfl, rfl, trivial⟩ ?_
  exact m_nulls_L g h a k n c hA hn L hL hc  n 0 (by omega)

theorem mean_6 {c d : sC} (h6 : sJoin c.1 d.1 = 6) : ((sJoin c.1 d.1, 0, FP.f2d (FP.fadd (FP.fmul (FP.fadd (FP.d2f (sReal c (sJoin c.1 d.1))) (FP.d2f (sReal d (sJoin c.1 d.1)))) 1056964608) FP.fconst0)) : sC) = sMean c d := by
  unfold sMean
  rw [if_neg (by rw [h6]; decide), if_neg (by rw [h6]; decide), if_pos h6, h6]
theorem mean_7 {c d : sC} (h7 : sJoin c.1 d.1 = 7) : ((sJoin c.1 d.1, 0, FP.dadd (FP.dmul (FP.dadd (sReal c (sJoin c.1 d.1)) (sReal d (sJoin c.1 d.1))) 4602678819172646912) FP.dconst0) : sC) = sMean c d := by
  unfold sMean
  rw [if_neg (by rw [h7]; decide), if_neg (by rw [h7]; decide), if_neg (by rw [h7]; decide)]
theorem mean_w {c d : sC} (oc : sOk c) (od : sOk d) (hj : ¬ sJoin c.1 d.1 = -4) (h6 : ¬ sJoin c.1 d.1 = 6) (h7 : ¬ sJoin c.1 d.1 = 7) : ((sJoin c.1 d.1, (c.2.1 &&& d.2.1) + ((c.2.1 ^^^ d.2.1) >>> 1), 0) : sC) = sMean c d := by
  have hj2 := sJoin_into hj
  unfold sMean
  by_cases h0 : sJoin c.1 d.1 = 0
  · rw [if_pos h0]
    have e1 : c.1 = 0 := into_0 (by rw [← h0]; exact hj2.2.1)
    have e2 : d.1 = 0 := into_0 (by rw [← h0]; exact hj2.2.2)
    rw [mean_01 (oc.2.2.2.2.2.1 e1) (od.2.2.2.2.2.1 e2)]
  · rw [if_neg h0, if_pos (by have := hj2.1.2; grind), mean_eq]

set_option maxHeartbeats 4000000 in
set_option maxRecDepth 100000 in
/-- X3_setMean -/
theorem m_setMean (g : zG) (h : zH) (a : Nat) (k : Int32) (n : Nat) (c : Nat → sC) (hA : cAt h a k n c) (hn : n ≤ 40) (i : Nat) (hi : i < n) (x : Nat) (kx : Int32) (nx : Nat) (cx : Nat → sC) (hX : cAt h x kx nx cx) (hnx : nx ≤ 40) (p : Nat) (hp : p < nx) (y : Nat) (ky : Int32) (ny : Nat) (cy : Nat → sC) (hY : cAt h y ky ny cy) (hny : ny ≤ 40) (q : Nat) (hq : q < ny) (ox : sOk (cx p)) (oy : sOk (cy q)) (hj : ¬ sJoin (cx p).1 (cy q).1 = -4) : zXv g yX3_setMean cX3_setMean 11 none rmX3_setMean [.ref a, .int (nI i), .int (sJoin (cx p).1 (cy q).1), .ref x, .int (nI p), .ref y, .int (nI q)] h (cUp a k n (uC c i (sMean (cx p) (cy q))) h) := by
  refine zM_of (by decide) (Nat.le_of_ble_eq_true rfl) ?_
  have hj2 := sJoin_num hj
  refine z_iload_n dX3_setMean_0 rfl rfl ?_
  refine z_bipush (v := 6) dX3_setMean_1 rfl (by decide) ?_
  refine z_icmp_ne (tgt := 43) dX3_setMean_3 rfl (by decide) (fun c3 => ?_) (fun c3 => ?_)
  · skip
    refine z_iload_n dX3_setMean_43 rfl rfl ?_
    refine z_bipush (v := 7) dX3_setMean_44 rfl (by decide) ?_
    refine z_icmp_ne (tgt := 80) dX3_setMean_46 rfl (by decide) (fun c46 => ?_) (fun c46 => ?_)
    · skip
      first | refine z_aload_n dX3_setMean_80 rfl rfl ?_ | refine z_aload_nN dX3_setMean_80 rfl rfl ?_
      refine zg_X3_22 rfl dX3_setMean_81 rfl hX.1 rfl ?_
      refine z_iload dX3_setMean_84 rfl rfl ?_
      refine z_lald dX3_setMean_86 rfl hX.2.2.1 (vp_in_nI (by omega) (by omega)) ?_
      rw [nI_clamp (show p < 2 ^ 31 by omega)]
      refine z_lstore dX3_setMean_87 rfl (Nat.le_of_ble_eq_true rfl) ?_
      first | refine z_aload dX3_setMean_89 rfl rfl ?_ | refine z_aloadN dX3_setMean_89 rfl rfl ?_
      refine zg_X3_22 rfl dX3_setMean_91 rfl hY.1 rfl ?_
      refine z_iload dX3_setMean_94 rfl rfl ?_
      refine z_lald dX3_setMean_96 rfl hY.2.2.1 (vp_in_nI (by omega) (by omega)) ?_
      rw [nI_clamp (show q < 2 ^ 31 by omega)]
      refine z_lstore dX3_setMean_97 rfl (Nat.le_of_ble_eq_true rfl) ?_
      first | refine z_aload_n dX3_setMean_99 rfl rfl ?_ | refine z_aload_nN dX3_setMean_99 rfl rfl ?_
      refine z_iload_n dX3_setMean_100 rfl rfl ?_
      refine z_iload_n dX3_setMean_101 rfl rfl ?_
      refine z_lload dX3_setMean_102 rfl rfl ?_
      refine z_lload dX3_setMean_104 rfl rfl ?_
      refine z_land dX3_setMean_106 rfl ?_
      refine z_lload dX3_setMean_107 rfl rfl ?_
      refine z_lload dX3_setMean_109 rfl rfl ?_
      refine z_lxor dX3_setMean_111 rfl ?_
      refine z_iconst (v := 1) dX3_setMean_112 rfl (by decide) ?_
      refine z_lshr dX3_setMean_113 rfl ?_
      refine z_ladd dX3_setMean_114 rfl ?_
      refine zcv_X3_48 rfl dX3_setMean_115 rfl hA.1 (m_setWhole g h a k n c hA hn i hi _ _) rfl rfl ⟨(Nat.le_of_ble_eq_true rfl), (Nat.le_of_ble_eq_true rfl)⟩ ⟨(Nat.le_of_ble_eq_true rfl), (Nat.le_of_ble_eq_true rfl)⟩ (Nat.le_of_ble_eq_true rfl) ?_
      exact z_vret dX3_setMean_118 rfl rfl ⟨rfl, congrArg (fun z => cUp a k n (uC c i z) h) (by first | exact mean_7 c46 | exact (mean_7 c46).symm | exact mean_w ox oy hj c3 c46 | exact (mean_w ox oy hj c3 c46).symm | (have z := mean_6 c3; rw [c3] at z; exact z) | (have z := mean_6 c3; rw [c3] at z; exact z.symm))⟩ (Nat.le_of_ble_eq_true rfl) (Nat.le_of_ble_eq_true rfl)
    · skip
      have hm := okD_mean (sReal_ok ox hj2.1.2 (sJoin (cx p).1 (cy q).1)) (sReal_ok oy hj2.2.2 (sJoin (cx p).1 (cy q).1))
      first | refine z_aload_n dX3_setMean_49 rfl rfl ?_ | refine z_aload_nN dX3_setMean_49 rfl rfl ?_
      refine z_iload_n dX3_setMean_50 rfl rfl ?_
      refine z_iload_n dX3_setMean_51 rfl rfl ?_
      first | refine z_aload_n dX3_setMean_52 rfl rfl ?_ | refine z_aload_nN dX3_setMean_52 rfl rfl ?_
      refine z_iload dX3_setMean_53 rfl rfl ?_
      refine z_iload_n dX3_setMean_55 rfl rfl ?_
      refine zcx_X3_66 rfl dX3_setMean_56 rfl hX.1 (m_realAs g h x kx nx cx hX hnx p hp _ hj2.1.1 hj2.1.2) rfl rfl ⟨(Nat.le_of_ble_eq_true rfl), (Nat.le_of_ble_eq_true rfl)⟩ ⟨(Nat.le_of_ble_eq_true rfl), (Nat.le_of_ble_eq_true rfl)⟩ (Nat.le_of_ble_eq_true rfl) ?_
      first | refine z_aload dX3_setMean_59 rfl rfl ?_ | refine z_aloadN dX3_setMean_59 rfl rfl ?_
      refine z_iload dX3_setMean_61 rfl rfl ?_
      refine z_iload_n dX3_setMean_63 rfl rfl ?_
      refine zcx_X3_66 rfl dX3_setMean_64 rfl hY.1 (m_realAs g h y ky ny cy hY hny q hq _ hj2.2.1 hj2.2.2) rfl rfl ⟨(Nat.le_of_ble_eq_true rfl), (Nat.le_of_ble_eq_true rfl)⟩ ⟨(Nat.le_of_ble_eq_true rfl), (Nat.le_of_ble_eq_true rfl)⟩ (Nat.le_of_ble_eq_true rfl) ?_
      refine z_dadd dX3_setMean_67 rfl (fpD_n hm.1) ?_
      refine zk_X3_92 rfl dX3_setMean_68 rfl ?_
      refine z_dmul dX3_setMean_71 rfl (fpD_n hm.2.1) ?_
      refine z_dconst0 dX3_setMean_72 rfl ?_
      refine z_dadd dX3_setMean_73 rfl (fpD_n hm.2.2.1) ?_
      refine zcv_X3_38 rfl dX3_setMean_74 rfl hA.1 (m_setReal g h a k n c hA hn i hi _ _) rfl rfl ⟨(Nat.le_of_ble_eq_true rfl), (Nat.le_of_ble_eq_true rfl)⟩ ⟨(Nat.le_of_ble_eq_true rfl), (Nat.le_of_ble_eq_true rfl)⟩ (Nat.le_of_ble_eq_true rfl) ?_
      refine z_goto (tgt := 118) dX3_setMean_77 rfl (by decide) ?_
      exact z_vret dX3_setMean_118 rfl rfl ⟨rfl, congrArg (fun z => cUp a k n (uC c i z) h) (by first | exact mean_7 c46 | exact (mean_7 c46).symm | exact mean_w ox oy hj c3 c46 | exact (mean_w ox oy hj c3 c46).symm | (have z := mean_6 c3; rw [c3] at z; exact z) | (have z := mean_6 c3; rw [c3] at z; exact z.symm))⟩ (Nat.le_of_ble_eq_true rfl) (Nat.le_of_ble_eq_true rfl)
  · skip
    have hm := okS_mean (okF_d2f (okF_into ox (by have z := (sJoin_into hj).2.1; rw [c3] at z; exact z))) (okF_d2f (okF_into oy (by have z := (sJoin_into hj).2.2; rw [c3] at z; exact z)))
    first | refine z_aload_n dX3_setMean_6 rfl rfl ?_ | refine z_aload_nN dX3_setMean_6 rfl rfl ?_
    refine z_iload dX3_setMean_7 rfl rfl ?_
    refine z_iload_n dX3_setMean_9 rfl rfl ?_
    refine zcx_X3_66 rfl dX3_setMean_10 rfl hX.1 (m_realAs g h x kx nx cx hX hnx p hp _ hj2.1.1 hj2.1.2) rfl rfl ⟨(Nat.le_of_ble_eq_true rfl), (Nat.le_of_ble_eq_true rfl)⟩ ⟨(Nat.le_of_ble_eq_true rfl), (Nat.le_of_ble_eq_true rfl)⟩ (Nat.le_of_ble_eq_true rfl) ?_
    rw [c3]
    refine z_d2f dX3_setMean_13 rfl (fpS_n (okF_d2f (okF_into ox (by have z := (sJoin_into hj).2.1; rw [c3] at z; exact z))).1) ?_
    first | refine z_aload dX3_setMean_14 rfl rfl ?_ | refine z_aloadN dX3_setMean_14 rfl rfl ?_
    refine z_iload dX3_setMean_16 rfl rfl ?_
    refine z_iload_n dX3_setMean_18 rfl rfl ?_
    refine zcx_X3_66 rfl dX3_setMean_19 rfl hY.1 (m_realAs g h y ky ny cy hY hny q hq _ hj2.2.1 hj2.2.2) rfl rfl ⟨(Nat.le_of_ble_eq_true rfl), (Nat.le_of_ble_eq_true rfl)⟩ ⟨(Nat.le_of_ble_eq_true rfl), (Nat.le_of_ble_eq_true rfl)⟩ (Nat.le_of_ble_eq_true rfl) ?_
    refine z_d2f dX3_setMean_22 rfl (fpS_n (okF_d2f (okF_into oy (by have z := (sJoin_into hj).2.2; rw [c3] at z; exact z))).1) ?_
    refine z_fadd dX3_setMean_23 rfl (fpS_n hm.1) ?_
    refine zk_X3_91 rfl dX3_setMean_24 rfl ?_
    refine z_fmul dX3_setMean_26 rfl (fpS_n hm.2.1) ?_
    refine z_fconst0 dX3_setMean_27 rfl ?_
    refine z_fadd dX3_setMean_28 rfl (fpS_n hm.2.2.1) ?_
    refine z_fstore dX3_setMean_29 rfl (Nat.le_of_ble_eq_true rfl) ?_
    first | refine z_aload_n dX3_setMean_31 rfl rfl ?_ | refine z_aload_nN dX3_setMean_31 rfl rfl ?_
    refine z_iload_n dX3_setMean_32 rfl rfl ?_
    refine z_iload_n dX3_setMean_33 rfl rfl ?_
    refine z_fload dX3_setMean_34 rfl rfl ?_
    refine z_f2d dX3_setMean_36 rfl (fpD_n (okS_f2d hm.2.2).1) ?_
    refine zcv_X3_38 rfl dX3_setMean_37 rfl hA.1 (m_setReal g h a k n c hA hn i hi _ _) rfl rfl ⟨(Nat.le_of_ble_eq_true rfl), (Nat.le_of_ble_eq_true rfl)⟩ ⟨(Nat.le_of_ble_eq_true rfl), (Nat.le_of_ble_eq_true rfl)⟩ (Nat.le_of_ble_eq_true rfl) ?_
    refine z_goto (tgt := 118) dX3_setMean_40 rfl (by decide) ?_
    exact z_vret dX3_setMean_118 rfl rfl ⟨rfl, congrArg (fun z => cUp a k n (uC c i z) h) (by first | exact mean_7 c46 | exact (mean_7 c46).symm | exact mean_w ox oy hj c3 c46 | exact (mean_w ox oy hj c3 c46).symm | (have z := mean_6 c3; rw [c3] at z; exact z) | (have z := mean_6 c3; rw [c3] at z; exact z.symm))⟩ (Nat.le_of_ble_eq_true rfl) (Nat.le_of_ble_eq_true rfl)

