theorem nat_ax : ∀ n a b : Nat, a < 2 ^ n → a + b = 2 * (a &&& b) + (a ^^^ b)
  | 0, a, b, h => by
    have : a = 0 := by simpa using h
    subst this
    simp
  | n + 1, a, b, h => by
    have ih := nat_ax n (a / 2) (b / 2) (by omega)
    have d1 : (a &&& b) / 2 = a / 2 &&& b / 2 := Nat.and_div_two
    have d2 : (a ^^^ b) / 2 = a / 2 ^^^ b / 2 := Nat.xor_div_two
    have m1 : (a &&& b) % 2 = 1 ↔ a % 2 = 1 ∧ b % 2 = 1 := Nat.and_mod_two_eq_one
    have m2 : (a ^^^ b) % 2 = 1 ↔ ¬ ((a % 2 = 1) ↔ (b % 2 = 1)) := Nat.xor_mod_two_eq_one
    rw [← d1, ← d2] at ih
    omega
theorem bv_ax (x y : BitVec 64) : x + y = (x &&& y) + (x &&& y) + (x ^^^ y) := by
  apply BitVec.eq_of_toNat_eq
  have := nat_ax 64 x.toNat y.toNat x.isLt
  simp only [BitVec.toNat_add, BitVec.toNat_and, BitVec.toNat_xor]
  omega
theorem bv_half (z : BitVec 64) : z = z.sshiftRight 1 + z.sshiftRight 1 + (z &&& 1#64) := by
  apply BitVec.eq_of_toInt_eq
  have h1 : (z.sshiftRight 1).toInt = z.toInt / 2 := by rw [BitVec.toInt_sshiftRight, Int.shiftRight_eq_div_pow]; rfl
  have h2 : (z &&& 1#64).toNat = z.toNat % 2 := by rw [BitVec.toNat_and]; exact Nat.and_one_is_mod z.toNat
  have h3 : (z &&& 1#64).toInt = ((z.toNat % 2 : Nat) : Int) := by
    rw [← h2]
    exact BitVec.toInt_eq_toNat_of_lt (by rw [h2]; omega)
  have h4 : z.toInt % 2 = ((z.toNat % 2 : Nat) : Int) := by
    have := BitVec.toInt_eq_toNat_cond z
    split at this <;> omega
  have hb := BitVec.toInt_lt (x := z)
  have hl := BitVec.le_toInt (x := z)
  rw [BitVec.toInt_add, BitVec.toInt_add, h1, h3, ← h4]
  have hb : z.toInt < 9223372036854775808 := by simpa using hb
  have hl : -9223372036854775808 ≤ z.toInt := by simpa using hl
  rw [Int.bmod_eq_of_le (n := z.toInt / 2 + z.toInt / 2) (by omega) (by omega)]
  rw [show z.toInt / 2 + z.toInt / 2 + z.toInt % 2 = z.toInt by omega]
  exact (Int.bmod_eq_of_le (by omega) (by omega)).symm
theorem mean_eq (x y : Int64) : (x &&& y) + ((x ^^^ y) >>> 1) = (x >>> 1) + (y >>> 1) + (x &&& y &&& 1) := by
  apply Int64.toBitVec_inj.mp
  have s1 : ∀ z : Int64, (z >>> 1).toBitVec = z.toBitVec.sshiftRight 1 := fun z => rfl
  show (x.toBitVec &&& y.toBitVec) + ((x ^^^ y) >>> 1).toBitVec = (x >>> 1).toBitVec + (y >>> 1).toBitVec + (x.toBitVec &&& y.toBitVec &&& 1#64)
  rw [s1, s1, s1, show (x ^^^ y).toBitVec = x.toBitVec ^^^ y.toBitVec from rfl, BitVec.sshiftRight_xor_distrib, bv_ax (x.toBitVec.sshiftRight 1) (y.toBitVec.sshiftRight 1), ← BitVec.sshiftRight_and_distrib]
  conv => lhs; lhs; rw [bv_half (x.toBitVec &&& y.toBitVec)]
  rw [BitVec.add_assoc, BitVec.add_assoc, BitVec.add_assoc, BitVec.add_assoc]
  congr 2
  exact BitVec.add_comm _ _
theorem mean_01 {x y : Int64} (hx : x = 0 ∨ x = 1) (hy : y = 0 ∨ y = 1) : (x &&& y) + ((x ^^^ y) >>> 1) = x &&& y := by
  rcases hx with rfl | rfl <;> rcases hy with rfl | rfl <;> decide
theorem sJn_comm (a b : Int32) : ∀ n i, sJn a b n i = sJn b a n i
  | 0, i => rfl
  | n + 1, i => by
    unfold sJn
    rw [sJn_comm a b n]
    grind
theorem sJoin_comm (a b : Int32) : sJoin a b = sJoin b a := by
  unfold sJoin
  rw [sJn_comm]
  grind
theorem deq_comm (x y : UInt64) : FP.dcmp x y = some .eq ↔ FP.dcmp y x = some .eq := by
  have e : FP.dcmp y x = (FP.dcmp x y).map Ordering.swap := FP.Core.dcmp_swap x y
  rw [e]
  cases FP.dcmp x y with
  | none => simp
  | some o => cases o <;> simp
theorem sAlike_comm (c d : sC) : sAlike c d = sAlike d c := by
  unfold sAlike
  rw [sJoin_comm d.1 c.1]
  by_cases h : sJoin c.1 d.1 = -4
  · rw [if_pos h, if_pos h]
    apply decide_eq_decide.mpr
    grind
  · rw [if_neg h, if_neg h]
    by_cases h6 : 6 ≤ sJoin c.1 d.1
    · rw [if_pos h6, if_pos h6]
      exact decide_eq_decide.mpr (deq_comm _ _)
    · rw [if_neg h6, if_neg h6]
      apply decide_eq_decide.mpr
      grind
theorem conv_fit {c : sC} {k : Int32} (h : sOk c) (hf : sFit c k) (hk : 0 ≤ k) : sConv c k = c := by
  obtain ⟨h0, h1, h6, h7, hz, -, -⟩ := h
  obtain ⟨f1, f2⟩ := hf
  obtain ⟨s, n, f⟩ := c
  unfold sConv sReal
  simp only at *
  by_cases e : 7 < k
  · rw [if_pos e]
  · have e1 := f1 (by grind)
    subst e1
    rw [if_neg e]
    by_cases e6 : 6 ≤ s
    · rw [if_pos e6, if_pos e6]
      have : s = 6 ∨ s = 7 := by grind
      rcases this with q | q
      · rw [(h6 q).1]
      · rw [(h7 q).1]
    · rw [if_neg e6, hz (by grind) (by grind)]

set_option maxHeartbeats 4000000 in
set_option maxRecDepth 100000 in
/-- X3_setValue -/
theorem m_setValue (g : zG) (h : zH) (a : Nat) (k : Int32) (n : Nat) (c : Nat → sC) (hA : cAt h a k n c) (hn : n ≤ 40) (i : Nat) (hi : i < n) (s v : Int32) : zXv g yX3_setValue cX3_setValue 4 none rmX3_setValue [.ref a, .int (nI i), .int s, .int v] h (cUp a k n (uC c i (sVal s v)) h) := by
  refine zM_of (by decide) (Nat.le_of_ble_eq_true rfl) ?_
  have hA0 := hA
  obtain ⟨A0, A1, A2, A3⟩ := hA0
  refine z_iload_n dX3_setValue_0 rfl rfl ?_
  refine z_bipush (v := 6) dX3_setValue_1 rfl (by decide) ?_
  refine z_icmp_ne (tgt := 21) dX3_setValue_3 rfl (by decide) (fun c3 => ?_) (fun c3 => ?_)
  · skip
    refine z_iload_n dX3_setValue_21 rfl rfl ?_
    refine z_bipush (v := 7) dX3_setValue_22 rfl (by decide) ?_
    refine z_icmp_ne (tgt := 42) dX3_setValue_24 rfl (by decide) (fun c24 => ?_) (fun c24 => ?_)
    · skip
      first | refine z_aload_n dX3_setValue_42 rfl rfl ?_ | refine z_aload_nN dX3_setValue_42 rfl rfl ?_
      refine z_iload_n dX3_setValue_43 rfl rfl ?_
      refine z_iload_n dX3_setValue_44 rfl rfl ?_
      refine z_iload_n dX3_setValue_45 rfl rfl ?_
      refine z_iload_n dX3_setValue_46 rfl rfl ?_
      refine z_i2l dX3_setValue_47 rfl ?_
      refine zcx_X3_44 rfl dX3_setValue_48 rfl (m_wholeOf g h _ _) rfl rfl ⟨(Nat.le_of_ble_eq_true rfl), (Nat.le_of_ble_eq_true rfl)⟩ ⟨(Nat.le_of_ble_eq_true rfl), (Nat.le_of_ble_eq_true rfl)⟩ (Nat.le_of_ble_eq_true rfl) ?_
      refine zcv_X3_48 rfl dX3_setValue_51 rfl (by assumption) (m_setWhole g h a k n c hA hn i hi _ _) rfl rfl ⟨(Nat.le_of_ble_eq_true rfl), (Nat.le_of_ble_eq_true rfl)⟩ ⟨(Nat.le_of_ble_eq_true rfl), (Nat.le_of_ble_eq_true rfl)⟩ (Nat.le_of_ble_eq_true rfl) ?_
      exact z_vret dX3_setValue_54 rfl rfl ⟨rfl, congrArg (fun x => cUp a k n (uC c i x) h) (by first | exact (whOf_val s v c3 c24).symm | exact whOf_val s v c3 c24 | (rw [c3]; rfl) | (rw [c24]; rfl) | (subst c3; rfl) | (subst c24; rfl))⟩ (Nat.le_of_ble_eq_true rfl) (Nat.le_of_ble_eq_true rfl)
    · skip
      first | refine z_aload_n dX3_setValue_27 rfl rfl ?_ | refine z_aload_nN dX3_setValue_27 rfl rfl ?_
      refine z_iload_n dX3_setValue_28 rfl rfl ?_
      refine z_iload_n dX3_setValue_29 rfl rfl ?_
      refine z_iload_n dX3_setValue_30 rfl rfl ?_
      refine z_i2d dX3_setValue_31 rfl ?_
      refine zk_X3_42 rfl dX3_setValue_32 rfl ?_
      refine z_dmul dX3_setValue_35 rfl (fpD_n (okD_val v).1) ?_
      refine zcv_X3_38 rfl dX3_setValue_36 rfl (by assumption) (m_setReal g h a k n c hA hn i hi _ _) rfl rfl ⟨(Nat.le_of_ble_eq_true rfl), (Nat.le_of_ble_eq_true rfl)⟩ ⟨(Nat.le_of_ble_eq_true rfl), (Nat.le_of_ble_eq_true rfl)⟩ (Nat.le_of_ble_eq_true rfl) ?_
      refine z_goto (tgt := 54) dX3_setValue_39 rfl (by decide) ?_
      exact z_vret dX3_setValue_54 rfl rfl ⟨rfl, congrArg (fun x => cUp a k n (uC c i x) h) (by first | exact (whOf_val s v c3 c24).symm | exact whOf_val s v c3 c24 | (rw [c3]; rfl) | (rw [c24]; rfl) | (subst c3; rfl) | (subst c24; rfl))⟩ (Nat.le_of_ble_eq_true rfl) (Nat.le_of_ble_eq_true rfl)
  · skip
    first | refine z_aload_n dX3_setValue_6 rfl rfl ?_ | refine z_aload_nN dX3_setValue_6 rfl rfl ?_
    refine z_iload_n dX3_setValue_7 rfl rfl ?_
    refine z_iload_n dX3_setValue_8 rfl rfl ?_
    refine z_iload_n dX3_setValue_9 rfl rfl ?_
    refine z_i2f dX3_setValue_10 rfl ?_
    refine zk_X3_37 rfl dX3_setValue_11 rfl ?_
    refine z_fmul dX3_setValue_13 rfl (fpS_n (okS_val v).1) ?_
    refine z_f2d dX3_setValue_14 rfl (fpD_n (okS_f2d (okS_val v)).1) ?_
    refine zcv_X3_38 rfl dX3_setValue_15 rfl (by assumption) (m_setReal g h a k n c hA hn i hi _ _) rfl rfl ⟨(Nat.le_of_ble_eq_true rfl), (Nat.le_of_ble_eq_true rfl)⟩ ⟨(Nat.le_of_ble_eq_true rfl), (Nat.le_of_ble_eq_true rfl)⟩ (Nat.le_of_ble_eq_true rfl) ?_
    refine z_goto (tgt := 54) dX3_setValue_18 rfl (by decide) ?_
    exact z_vret dX3_setValue_54 rfl rfl ⟨rfl, congrArg (fun x => cUp a k n (uC c i x) h) (by first | exact (whOf_val s v c3 c24).symm | exact whOf_val s v c3 c24 | (rw [c3]; rfl) | (rw [c24]; rfl) | (subst c3; rfl) | (subst c24; rfl))⟩ (Nat.le_of_ble_eq_true rfl) (Nat.le_of_ble_eq_true rfl)

theorem take_r {c : sC} {k s : Int32} (h : sOk c) (hk : 0 ≤ k ∧ k ≤ 10) (hf : sInto c.1 k = true) (hs : s = if 7 < k then c.1 else k) (hr : s = 6 ∨ s = 7) : ((s, 0, sReal c s) : sC) = sConv c k ∧ 0 ≤ c.1 ∧ c.1 ≤ 7 := by
  obtain ⟨h0, h1, h6, h7, hz, -, -⟩ := h
  by_cases e : 7 < k
  · rw [if_pos e] at hs
    subst hs
    refine ⟨?_, h0, by grind⟩
    unfold sConv
    rw [if_pos e]
    refine Prod.ext rfl (Prod.ext ?_ ?_)
    · rcases hr with q | q
      · exact (h6 q).1.symm
      · exact (h7 q).1.symm
    · show sReal c c.1 = c.2.2
      unfold sReal
      rw [if_pos (by grind)]
  · rw [if_neg e] at hs
    subst hs
    have q := sInto_7 hf (by grind)
    refine ⟨?_, q.1⟩
    unfold sConv
    rw [if_neg e, if_pos (by grind)]
theorem take_w {c : sC} {k s : Int32} (h : sOk c) (hk : 0 ≤ k ∧ k ≤ 10) (hs : s = if 7 < k then c.1 else k) (hr : ¬ (s = 6 ∨ s = 7)) : ((s, c.2.1, 0) : sC) = sConv c k := by
  obtain ⟨h0, h1, h6, h7, hz, -, -⟩ := h
  by_cases e : 7 < k
  · rw [if_pos e] at hs
    subst hs
    unfold sConv
    rw [if_pos e]
    exact Prod.ext rfl (Prod.ext rfl (hz (by grind) (by grind)).symm)
  · rw [if_neg e] at hs
    subst hs
    unfold sConv
    rw [if_neg e, if_neg (by grind)]

abbrev YX3_take : zY := (yX3_take.cls, cX3_take, 5, none, rmX3_take, yX3_take.name, fun _ _ => True)
set_option maxHeartbeats 800000 in
set_option maxRecDepth 100000 in
theorem m_take (g : zG) (h : zH) (a : Nat) (k : Int32) (n : Nat) (c : Nat → sC) (hA : cAt h a k n c) (hn : n ≤ 40) (i : Nat) (hi : i < n) (b : Nat) (kb : Int32) (nb : Nat) (cb : Nat → sC) (hB : cAt h b kb nb cb) (hnb : nb ≤ 40) (j : Nat) (hj : j < nb) (ob : sOk (cb j)) (hk : 0 ≤ k ∧ k ≤ 10) (hf : sInto (cb j).1 k = true) : zXv g yX3_take cX3_take 5 none rmX3_take [.ref a, .int (nI i), .ref b, .int (nI j)] h (cUp a k n (uC c i (sConv (cb j) k)) h) := by
  refine zM_of (by decide) (Nat.le_of_ble_eq_true rfl) ?_
  have hA0 := hA
  obtain ⟨A0, A1, A2, A3⟩ := hA0
  have hB0 := hB
  obtain ⟨B0, B1, B2, B3⟩ := hB0
  have kk : ∀ s, s = (if 7 < k then (cb j).1 else k) → zZ g YX3_take (zE g (fun v h1 => v = none ∧ h1 = cUp a k n (uC c i (sConv (cb j) k)) h) 0 0) 22 [(0, .ref a), (1, .int (nI i)), (2, .ref b), (3, .int (nI j))] [.int s] h 0 0 := by
    intro s hss
    refine z_istore dX3_take_22 rfl (Nat.le_of_ble_eq_true rfl) ?_
    refine z_iload dX3_take_24 rfl rfl ?_
    refine zcx_X3_60 rfl dX3_take_26 rfl (m_isReal g h _) rfl rfl ⟨(Nat.le_of_ble_eq_true rfl), (Nat.le_of_ble_eq_true rfl)⟩ ⟨(Nat.le_of_ble_eq_true rfl), (Nat.le_of_ble_eq_true rfl)⟩ (Nat.le_of_ble_eq_true rfl) ?_
    refine z_bif_eq (tgt := 49) dX3_take_29 rfl (by decide) (fun c29 => ?_) (fun c29 => ?_)
    · skip
      first | refine z_aload_n dX3_take_49 rfl rfl ?_ | refine z_aload_nN dX3_take_49 rfl rfl ?_
      refine z_iload_n dX3_take_50 rfl rfl ?_
      refine z_iload dX3_take_51 rfl rfl ?_
      first | refine z_aload_n dX3_take_53 rfl rfl ?_ | refine z_aload_nN dX3_take_53 rfl rfl ?_
      refine zg_X3_22 rfl dX3_take_54 rfl B0 rfl ?_
      refine z_iload_n dX3_take_57 rfl rfl ?_
      refine z_lald dX3_take_58 rfl (by assumption) (vp_in_nI (by omega) (by omega)) ?_
      rw [nI_clamp (show j < 2 ^ 31 by omega)]
      refine zcv_X3_48 rfl dX3_take_59 rfl (by assumption) (m_setWhole g h a k n c hA hn i hi _ _) rfl rfl ⟨(Nat.le_of_ble_eq_true rfl), (Nat.le_of_ble_eq_true rfl)⟩ ⟨(Nat.le_of_ble_eq_true rfl), (Nat.le_of_ble_eq_true rfl)⟩ (Nat.le_of_ble_eq_true rfl) ?_
      exact z_vret dX3_take_62 rfl rfl ⟨rfl, congrArg (fun x => cUp a k n (uC c i x) h) (by first | exact (take_r ob hk hf hss c29).1.symm | exact (take_r ob hk hf hss c29).1 | exact take_w ob hk hss c29 | exact (take_w ob hk hss c29).symm)⟩ (Nat.le_of_ble_eq_true rfl) (Nat.le_of_ble_eq_true rfl)
    · skip
      first | refine z_aload_n dX3_take_32 rfl rfl ?_ | refine z_aload_nN dX3_take_32 rfl rfl ?_
      refine z_iload_n dX3_take_33 rfl rfl ?_
      refine z_iload dX3_take_34 rfl rfl ?_
      first | refine z_aload_n dX3_take_36 rfl rfl ?_ | refine z_aload_nN dX3_take_36 rfl rfl ?_
      refine z_iload_n dX3_take_37 rfl rfl ?_
      refine z_iload dX3_take_38 rfl rfl ?_
      refine zcx_X3_66 rfl dX3_take_40 rfl B0 (m_realAs g h b kb nb cb hB hnb j hj _ (take_r ob hk hf hss c29).2.1 (take_r ob hk hf hss c29).2.2) rfl rfl ⟨(Nat.le_of_ble_eq_true rfl), (Nat.le_of_ble_eq_true rfl)⟩ ⟨(Nat.le_of_ble_eq_true rfl), (Nat.le_of_ble_eq_true rfl)⟩ (Nat.le_of_ble_eq_true rfl) ?_
      refine zcv_X3_38 rfl dX3_take_43 rfl (by assumption) (m_setReal g h a k n c hA hn i hi _ _) rfl rfl ⟨(Nat.le_of_ble_eq_true rfl), (Nat.le_of_ble_eq_true rfl)⟩ ⟨(Nat.le_of_ble_eq_true rfl), (Nat.le_of_ble_eq_true rfl)⟩ (Nat.le_of_ble_eq_true rfl) ?_
      refine z_goto (tgt := 62) dX3_take_46 rfl (by decide) ?_
      exact z_vret dX3_take_62 rfl rfl ⟨rfl, congrArg (fun x => cUp a k n (uC c i x) h) (by first | exact (take_r ob hk hf hss c29).1.symm | exact (take_r ob hk hf hss c29).1 | exact take_w ob hk hss c29 | exact (take_w ob hk hss c29).symm)⟩ (Nat.le_of_ble_eq_true rfl) (Nat.le_of_ble_eq_true rfl)
  first | refine z_aload_n dX3_take_0 rfl rfl ?_ | refine z_aload_nN dX3_take_0 rfl rfl ?_
  refine zg_X3_9 rfl dX3_take_1 rfl (by assumption) rfl ?_
  refine z_bipush (v := 7) dX3_take_4 rfl (by decide) ?_
  refine z_icmp_gt (tgt := 16) dX3_take_6 rfl (by decide) (fun c6 => ?_) (fun c6 => ?_)
  · skip
    first | refine z_aload_n dX3_take_16 rfl rfl ?_ | refine z_aload_nN dX3_take_16 rfl rfl ?_
    refine zg_X3_18 rfl dX3_take_17 rfl (by assumption) rfl ?_
    refine z_iload_n dX3_take_20 rfl rfl ?_
    refine z_iald dX3_take_21 rfl (by assumption) (vp_in_nI (by omega) (by omega)) ?_
    first | (rw [nI_clamp (show j < 2 ^ 31 by omega)]; exact kk _ (by rw [if_pos c6])) | exact kk _ (by rw [if_neg (by grind)])
  · skip
    first | refine z_aload_n dX3_take_9 rfl rfl ?_ | refine z_aload_nN dX3_take_9 rfl rfl ?_
    refine zg_X3_9 rfl dX3_take_10 rfl (by assumption) rfl ?_
    refine z_goto (tgt := 22) dX3_take_13 rfl (by decide) ?_
    first | (rw [nI_clamp (show j < 2 ^ 31 by omega)]; exact kk _ (by rw [if_pos c6])) | exact kk _ (by rw [if_neg (by grind)])

theorem stray_6 {c : sC} (h : sOk c) (e : c.1 = 6) : ((c.1, 0, FP.f2d (FP.fadd (FP.d2f c.2.2) FP.fconst1)) : sC) = sStray c := by
  refine Prod.ext rfl (Prod.ext ?_ ?_)
  · show 0 = (if c.1 = 0 then _ else _)
    rw [e]; exact (h.2.2.1 e).1.symm
  · show _ = (if c.1 = 6 then _ else _)
    rw [if_pos e]
theorem stray_7 {c : sC} (h : sOk c) (e : c.1 = 7) : ((c.1, 0, FP.dadd c.2.2 FP.dconst1) : sC) = sStray c := by
  refine Prod.ext rfl (Prod.ext ?_ ?_)
  · show 0 = (if c.1 = 0 then _ else _)
    rw [e]; exact (h.2.2.2.1 e).1.symm
  · show _ = (if c.1 = 6 then _ else _)
    rw [if_neg (by rw [e]; decide), if_pos e]

set_option maxHeartbeats 4000000 in
set_option maxRecDepth 100000 in
/-- X3_falsify -/
theorem m_falsify (g : zG) (h : zH) (a : Nat) (k : Int32) (n : Nat) (c : Nat → sC) (hA : cAt h a k n c) (hn : n ≤ 40) (i : Nat) (hi : i < n) (oc : sOk (c i)) (h7 : (c i).1 ≤ 7) : zXv g yX3_falsify cX3_falsify 3 none rmX3_falsify [.ref a, .int (nI i)] h (cUp a k n (uC c i (sStray (c i))) h) := by
  refine zM_of (by decide) (Nat.le_of_ble_eq_true rfl) ?_
  have hA0 := hA
  obtain ⟨A0, A1, A2, A3⟩ := hA0
  first | refine z_aload_n dX3_falsify_0 rfl rfl ?_ | refine z_aload_nN dX3_falsify_0 rfl rfl ?_
  refine zg_X3_18 rfl dX3_falsify_1 rfl (by assumption) rfl ?_
  refine z_iload_n dX3_falsify_4 rfl rfl ?_
  refine z_iald dX3_falsify_5 rfl (by assumption) (vp_in_nI (by omega) (by omega)) ?_
  rw [nI_clamp (show i < 2 ^ 31 by omega)]
  refine z_istore_n dX3_falsify_6 rfl (Nat.le_of_ble_eq_true rfl) ?_
  refine z_iload_n dX3_falsify_7 rfl rfl ?_
  refine z_bipush (v := 6) dX3_falsify_8 rfl (by decide) ?_
  refine z_icmp_ne (tgt := 32) dX3_falsify_10 rfl (by decide) (fun c10 => ?_) (fun c10 => ?_)
  · skip
    refine z_iload_n dX3_falsify_32 rfl rfl ?_
    refine z_bipush (v := 7) dX3_falsify_33 rfl (by decide) ?_
    refine z_icmp_ne (tgt := 55) dX3_falsify_35 rfl (by decide) (fun c35 => ?_) (fun c35 => ?_)
    · skip
      first | refine z_aload_n dX3_falsify_55 rfl rfl ?_ | refine z_aload_nN dX3_falsify_55 rfl rfl ?_
      refine z_iload_n dX3_falsify_56 rfl rfl ?_
      refine z_iload_n dX3_falsify_57 rfl rfl ?_
      refine z_iload_n dX3_falsify_58 rfl rfl ?_
      first | refine z_aload_n dX3_falsify_59 rfl rfl ?_ | refine z_aload_nN dX3_falsify_59 rfl rfl ?_
      refine zg_X3_22 rfl dX3_falsify_60 rfl (by assumption) rfl ?_
      refine z_iload_n dX3_falsify_63 rfl rfl ?_
      refine z_lald dX3_falsify_64 rfl (by assumption) (vp_in_nI (by omega) (by omega)) ?_
      rw [nI_clamp (show i < 2 ^ 31 by omega)]
      refine z_lconst (v := 1) dX3_falsify_65 rfl (by decide) ?_
      refine z_ladd dX3_falsify_66 rfl ?_
      refine zcx_X3_44 rfl dX3_falsify_67 rfl (m_wholeOf g h _ _) rfl rfl ⟨(Nat.le_of_ble_eq_true rfl), (Nat.le_of_ble_eq_true rfl)⟩ ⟨(Nat.le_of_ble_eq_true rfl), (Nat.le_of_ble_eq_true rfl)⟩ (Nat.le_of_ble_eq_true rfl) ?_
      refine zcv_X3_48 rfl dX3_falsify_70 rfl (by assumption) (m_setWhole g h a k n c hA hn i hi _ _) rfl rfl ⟨(Nat.le_of_ble_eq_true rfl), (Nat.le_of_ble_eq_true rfl)⟩ ⟨(Nat.le_of_ble_eq_true rfl), (Nat.le_of_ble_eq_true rfl)⟩ (Nat.le_of_ble_eq_true rfl) ?_
      exact z_vret dX3_falsify_73 rfl rfl ⟨rfl, congrArg (fun x => cUp a k n (uC c i x) h) (by first | exact whOf_str oc c10 c35 h7 | exact (whOf_str oc c10 c35 h7).symm | exact (stray_6 oc c10) | exact (stray_6 oc c10).symm | exact (stray_7 oc c35) | exact (stray_7 oc c35).symm)⟩ (Nat.le_of_ble_eq_true rfl) (Nat.le_of_ble_eq_true rfl)
    · skip
      first | refine z_aload_n dX3_falsify_38 rfl rfl ?_ | refine z_aload_nN dX3_falsify_38 rfl rfl ?_
      refine z_iload_n dX3_falsify_39 rfl rfl ?_
      refine z_iload_n dX3_falsify_40 rfl rfl ?_
      first | refine z_aload_n dX3_falsify_41 rfl rfl ?_ | refine z_aload_nN dX3_falsify_41 rfl rfl ?_
      refine zg_X3_26 rfl dX3_falsify_42 rfl (by assumption) rfl ?_
      refine z_iload_n dX3_falsify_45 rfl rfl ?_
      refine z_dald dX3_falsify_46 rfl (by assumption) (vp_in_nI (by omega) (by omega)) ?_
      rw [nI_clamp (show i < 2 ^ 31 by omega)]
      have h7b := oc.2.2.2.1 c35
      refine z_dconst1 dX3_falsify_47 rfl ?_
      refine z_dadd dX3_falsify_48 rfl (fpD_n (okD_inc h7b.2).1) ?_
      refine zcv_X3_38 rfl dX3_falsify_49 rfl (by assumption) (m_setReal g h a k n c hA hn i hi _ _) rfl rfl ⟨(Nat.le_of_ble_eq_true rfl), (Nat.le_of_ble_eq_true rfl)⟩ ⟨(Nat.le_of_ble_eq_true rfl), (Nat.le_of_ble_eq_true rfl)⟩ (Nat.le_of_ble_eq_true rfl) ?_
      refine z_goto (tgt := 73) dX3_falsify_52 rfl (by decide) ?_
      exact z_vret dX3_falsify_73 rfl rfl ⟨rfl, congrArg (fun x => cUp a k n (uC c i x) h) (by first | exact whOf_str oc c10 c35 h7 | exact (whOf_str oc c10 c35 h7).symm | exact (stray_6 oc c10) | exact (stray_6 oc c10).symm | exact (stray_7 oc c35) | exact (stray_7 oc c35).symm)⟩ (Nat.le_of_ble_eq_true rfl) (Nat.le_of_ble_eq_true rfl)
  · skip
    first | refine z_aload_n dX3_falsify_13 rfl rfl ?_ | refine z_aload_nN dX3_falsify_13 rfl rfl ?_
    refine z_iload_n dX3_falsify_14 rfl rfl ?_
    refine z_iload_n dX3_falsify_15 rfl rfl ?_
    first | refine z_aload_n dX3_falsify_16 rfl rfl ?_ | refine z_aload_nN dX3_falsify_16 rfl rfl ?_
    refine zg_X3_26 rfl dX3_falsify_17 rfl (by assumption) rfl ?_
    refine z_iload_n dX3_falsify_20 rfl rfl ?_
    refine z_dald dX3_falsify_21 rfl (by assumption) (vp_in_nI (by omega) (by omega)) ?_
    rw [nI_clamp (show i < 2 ^ 31 by omega)]
    have h6 := oc.2.2.1 c10
    refine z_d2f dX3_falsify_22 rfl (fpS_n (okF_d2f h6.2).1) ?_
    refine z_fconst1 dX3_falsify_23 rfl ?_
    refine z_fadd dX3_falsify_24 rfl (fpS_n (okS_inc (okF_d2f h6.2)).1) ?_
    refine z_f2d dX3_falsify_25 rfl (fpD_n (okS_f2d (okS_inc (okF_d2f h6.2))).1) ?_
    refine zcv_X3_38 rfl dX3_falsify_26 rfl (by assumption) (m_setReal g h a k n c hA hn i hi _ _) rfl rfl ⟨(Nat.le_of_ble_eq_true rfl), (Nat.le_of_ble_eq_true rfl)⟩ ⟨(Nat.le_of_ble_eq_true rfl), (Nat.le_of_ble_eq_true rfl)⟩ (Nat.le_of_ble_eq_true rfl) ?_
    refine z_goto (tgt := 73) dX3_falsify_29 rfl (by decide) ?_
    exact z_vret dX3_falsify_73 rfl rfl ⟨rfl, congrArg (fun x => cUp a k n (uC c i x) h) (by first | exact whOf_str oc c10 c35 h7 | exact (whOf_str oc c10 c35 h7).symm | exact (stray_6 oc c10) | exact (stray_6 oc c10).symm | exact (stray_7 oc c35) | exact (stray_7 oc c35).symm)⟩ (Nat.le_of_ble_eq_true rfl) (Nat.le_of_ble_eq_true rfl)

