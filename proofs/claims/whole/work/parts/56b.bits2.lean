theorem bits64 {x : UInt64} {s : Bool} {c : Nat} {q : Int} (h : FP.Core.val64 x = .fin s c q) : x.toNat = (if s then 2 ^ 63 else 0) + (q + 1074).toNat * 2 ^ 52 + c := by
  have hx := x.toNat_lt
  unfold FP.Core.val64 FP.Core.decode at h
  have t : FP.Core.b64.tails = 2 ^ 52 := rfl
  have ex : FP.Core.b64.exps = 2 ^ 11 := rfl
  unfold FP.Core.fieldE FP.Core.fieldT FP.Core.fieldS at h
  rw [t, ex, b64_qmin] at h
  generalize x.toNat = n at h hx ⊢
  have hs : (n / 2 ^ 52 / 2 ^ 11 % 2 == 1) = decide (2 ^ 63 ≤ n) := by
    by_cases z : 2 ^ 63 ≤ n
    · rw [decide_eq_true z, beq_iff_eq]; omega
    · rw [decide_eq_false z]
      have : n / 2 ^ 52 / 2 ^ 11 % 2 = 0 := by omega
      rw [this]; rfl
  rw [hs] at h
  split at h
  · split at h <;> cases h
  · split at h
    · cases h
      by_cases z : 2 ^ 63 ≤ n
      · rw [decide_eq_true z]; simp only [if_true]; omega
      · rw [decide_eq_false z]; simp only [Bool.false_eq_true, if_false]; omega
    · cases h
      by_cases z : 2 ^ 63 ≤ n
      · rw [decide_eq_true z]; simp only [if_true]; omega
      · rw [decide_eq_false z]; simp only [Bool.false_eq_true, if_false]; omega
theorem bits32 {x : UInt32} {s : Bool} {c : Nat} {q : Int} (h : FP.Core.val32 x = .fin s c q) : x.toNat = (if s then 2 ^ 31 else 0) + (q + 149).toNat * 2 ^ 23 + c := by
  have hx := x.toNat_lt
  unfold FP.Core.val32 FP.Core.decode at h
  have t : FP.Core.b32.tails = 2 ^ 23 := rfl
  have ex : FP.Core.b32.exps = 2 ^ 8 := rfl
  unfold FP.Core.fieldE FP.Core.fieldT FP.Core.fieldS at h
  rw [t, ex, b32_qmin] at h
  generalize x.toNat = n at h hx ⊢
  have hs : (n / 2 ^ 23 / 2 ^ 8 % 2 == 1) = decide (2 ^ 31 ≤ n) := by
    by_cases z : 2 ^ 31 ≤ n
    · rw [decide_eq_true z, beq_iff_eq]; omega
    · rw [decide_eq_false z]
      have : n / 2 ^ 23 / 2 ^ 8 % 2 = 0 := by omega
      rw [this]; rfl
  rw [hs] at h
  split at h
  · split at h <;> cases h
  · split at h
    · cases h
      by_cases z : 2 ^ 31 ≤ n
      · rw [decide_eq_true z]; simp only [if_true]; omega
      · rw [decide_eq_false z]; simp only [Bool.false_eq_true, if_false]; omega
    · cases h
      by_cases z : 2 ^ 31 ≤ n
      · rw [decide_eq_true z]; simp only [if_true]; omega
      · rw [decide_eq_false z]; simp only [Bool.false_eq_true, if_false]; omega
theorem u64_l (x : UInt64) : x.toInt64 = lN x.toNat := by
  apply wb_inj
  rw [wb_tb]
  show x.toBitVec = BitVec.ofNat 64 x.toBitVec.toNat
  simp
theorem u32_i (x : UInt32) : x.toInt32 = nI x.toNat := by
  apply Int32.toBitVec_inj.mp
  show x.toBitVec = BitVec.ofNat 32 x.toBitVec.toNat
  simp
theorem neg_l (n : Nat) : lN n - (-9223372036854775808) = lN (2 ^ 63 + n) := by
  rw [show (-9223372036854775808 : Int64) = - lN (2 ^ 63) by decide, Int64.sub_neg, lN_add, Nat.add_comm]
theorem neg_i {n : Nat} (h : n < 2 ^ 31) : (nI (2 ^ 31 + n)).toInt64 = lN n - 2147483648 := by
  apply Int64.toInt_inj.mp
  have e1 : (nI (2 ^ 31 + n)).toInt = (n : Int) - 2 ^ 31 := by
    show (Int32.ofNat _).toInt = _
    rw [Int32.toInt_ofNat', Int.bmod_def]
    have hs : ((Int32.size : Nat) : Int) = 4294967296 := rfl
    rw [hs]
    split <;> omega
  have e2 : (lN n).toInt = n := lg_ofNat_toInt (by omega)
  rw [Int32.toInt_toInt64, e1, Int64.toInt_sub, e2, show (2147483648 : Int64).toInt = 2147483648 from rfl]
  rw [Int.bmod_def]
  omega
/-- below 0 -/
theorem sg_lt {x : UInt64} {s : Bool} {c : Nat} {q : Int} (h : FP.Core.val64 x = .fin s c q) (hz : c = 0 → s = false) : FP.dcmp x FP.dconst0 = some .lt ↔ s = true := by
  show FP.Core.dcmp x FP.Core.dconst0 = some .lt ↔ _
  have e0 : FP.Core.zval FP.Core.b64 (FP.Core.val64 FP.Core.dconst0) = ((0 : Nat) : Int) := hasV_z hasV_0
  rw [FP.Core.dcmp_lt, e0, h]
  have e : FP.Core.zval FP.Core.b64 (.fin s c q) = FP.Core.signed s (FP.Core.inUnits c q FP.Core.b64.qmin) := rfl
  rw [e]
  cases s with
  | false =>
    constructor
    · intro z; have := z.2.2; unfold FP.Core.signed at this; simp only [Bool.false_eq_true, if_false] at this; omega
    · intro z; cases z
  | true =>
    have hc : 0 < c := by
      rcases Nat.eq_zero_or_pos c with z | z
      · exact absurd (hz z) (by decide)
      · exact z
    have hp : 0 < FP.Core.inUnits c q FP.Core.b64.qmin := Nat.mul_pos hc (Nat.two_pow_pos _)
    refine ⟨fun _ => rfl, fun _ => ⟨fun z => (by cases z), hasV_nn hasV_0, ?_⟩⟩
    unfold FP.Core.signed
    simp only [if_true]
    omega
theorem sg_V {x : UInt64} {c : Nat} {q : Int} (h : FP.Core.val64 x = .fin true c q) : FP.Core.val64 (FP.dneg x) = .fin false c q := by
  have e := FP.val64_dneg x
  rw [h] at e
  exact e
theorem sg_nn {x : UInt64} {s : Bool} {c : Nat} {q : Int} (h : FP.Core.val64 x = .fin s c q) : FP.dcmp x FP.dconst0 ≠ none := dcmp_sm (by rw [h]; exact fun z => by cases z) (hasV_nn hasV_0)

set_option maxHeartbeats 800000 in
set_option maxRecDepth 100000 in
theorem m_ofDouble (g : zG) (h : zH) (x : UInt64) (hx : fpD 100 x ∧ x ≠ FP.Core.dzeroNeg) : zX g yX2_ofDouble cX2_ofDouble 4 (some .long) rmX2_ofDouble [.double x] h (.long (sBits 7 x)) h := by
  refine zM_of (by decide) (Nat.le_of_ble_eq_true rfl) ?_
  obtain ⟨⟨s, C, q, h1, h2⟩, h0⟩ := hx
  have hz := nz64' h0 h1
  have hb := bits64 h1
  have hf := FP.Core.val64_fits x
  rw [h1] at hf
  obtain ⟨hC, q1, q2, q3⟩ := hf
  rw [b64_qmin] at q1 q3
  have q2 : q ≤ 971 := q2
  obtain ⟨a, ha⟩ : ∃ a : Nat, (q + 1074).toNat = a := ⟨_, rfl⟩
  have hC : C < 2 ^ (52 + 1) := hC
  have hA : 1022 ≤ a + 1022 := by omega
  have hA2 : a ≤ 1022 + 900 := by
    rcases Int.lt_or_le 800 q with z | z
    · exfalso
      have hC0 : 2 ^ 52 ≤ C := by
        rcases q3 with y | y
        · omega
        · exact y
      unfold vle at h2
      rw [show ((100 : Nat) - q : Int).toNat = 0 by omega, Nat.pow_zero] at h2
      have := Nat.mul_le_mul hC0 (Nat.two_pow_pos (q - (100 : Nat) : Int).toNat)
      omega
    · omega
  have hN : 2 ^ 52 ≤ C ∨ a + 1022 = 1022 := by
    rcases q3 with y | y
    · exact Or.inr (by omega)
    · exact Or.inl y
  have hb7 : sBits 7 x = lN x.toNat := by
    rw [← u64_l]; exact if_neg (by decide)
  rw [ha] at hb
  have eU : ∀ z, FP.Core.val64 z = .fin false C q → hasV z (C * 2 ^ a) := fun z hz => ⟨C, q, hz, by unfold FP.Core.inUnits; rw [b64_qmin, show (q - -1074).toNat = a by omega]⟩
  cases s with
  | true =>
    have hV := eU _ (sg_V h1)
    have hNeg : sBits 7 x = lN ((a + 1022 - 1022) * 2 ^ 52 + C) - (-9223372036854775808) := by
      rw [hb7, hb, neg_l, Nat.add_sub_cancel]
      simp only [if_true, Nat.add_assoc]
    refine z_dload_n dX2_ofDouble_0 rfl rfl ?_
    refine z_dconst0 dX2_ofDouble_1 rfl ?_
    refine z_dc_ge (tgt := 11) dX2_ofDouble_2 rfl dX2_ofDouble_3 (by decide) (sg_nn h1) (fun c2 => absurd c2 (fun z => z ((sg_lt h1 hz).mpr rfl))) (fun c2 => ?_)
    refine z_dload_n dX2_ofDouble_6 rfl rfl ?_
    refine z_dneg dX2_ofDouble_7 rfl ?_
    refine z_goto (tgt := 12) dX2_ofDouble_8 rfl (by decide) ?_
    refine z_bipush (v := nI 52) dX2_ofDouble_12 rfl (by decide) ?_
    refine z_sipush (v := eI (-(1022 : Int))) dX2_ofDouble_14 rfl (by decide) ?_
    refine zcx_X2_7 rfl dX2_ofDouble_17 rfl (m_ofSize52 g h (FP.dneg x) C a hV hC hA hA2 hN) rfl rfl ⟨(Nat.le_of_ble_eq_true rfl), (Nat.le_of_ble_eq_true rfl)⟩ ⟨(Nat.le_of_ble_eq_true rfl), (Nat.le_of_ble_eq_true rfl)⟩ (Nat.le_of_ble_eq_true rfl) ?_
    refine z_lstore_n dX2_ofDouble_20 rfl (Nat.le_of_ble_eq_true rfl) ?_
    refine z_dload_n dX2_ofDouble_21 rfl rfl ?_
    refine z_dconst0 dX2_ofDouble_22 rfl ?_
    refine z_dc_ge (tgt := 35) dX2_ofDouble_23 rfl dX2_ofDouble_24 (by decide) (sg_nn h1) (fun c23 => absurd c23 (fun z => z ((sg_lt h1 hz).mpr rfl))) (fun c23 => ?_)
    refine z_lload_n dX2_ofDouble_27 rfl rfl ?_
    refine zk_X2_15 rfl dX2_ofDouble_28 rfl ?_
    refine z_lsub dX2_ofDouble_31 rfl ?_
    refine z_goto (tgt := 36) dX2_ofDouble_32 rfl (by decide) ?_
    exact z_lret dX2_ofDouble_36 rfl rfl ⟨congrArg some (congrArg Value.long hNeg.symm), rfl⟩ (Nat.le_of_ble_eq_true rfl) (Nat.le_of_ble_eq_true rfl)
  | false =>
    have hV := eU _ h1
    have hPos : sBits 7 x = lN ((a + 1022 - 1022) * 2 ^ 52 + C) := by
      rw [hb7, hb, Nat.add_sub_cancel]
      simp only [Bool.false_eq_true, if_false, Nat.zero_add]
    refine z_dload_n dX2_ofDouble_0 rfl rfl ?_
    refine z_dconst0 dX2_ofDouble_1 rfl ?_
    refine z_dc_ge (tgt := 11) dX2_ofDouble_2 rfl dX2_ofDouble_3 (by decide) (sg_nn h1) (fun c2 => ?_) (fun c2 => absurd c2 (fun c => absurd ((sg_lt h1 hz).mp c) (by decide)))
    refine z_dload_n dX2_ofDouble_11 rfl rfl ?_
    refine z_bipush (v := nI 52) dX2_ofDouble_12 rfl (by decide) ?_
    refine z_sipush (v := eI (-(1022 : Int))) dX2_ofDouble_14 rfl (by decide) ?_
    refine zcx_X2_7 rfl dX2_ofDouble_17 rfl (m_ofSize52 g h x C a hV hC hA hA2 hN) rfl rfl ⟨(Nat.le_of_ble_eq_true rfl), (Nat.le_of_ble_eq_true rfl)⟩ ⟨(Nat.le_of_ble_eq_true rfl), (Nat.le_of_ble_eq_true rfl)⟩ (Nat.le_of_ble_eq_true rfl) ?_
    refine z_lstore_n dX2_ofDouble_20 rfl (Nat.le_of_ble_eq_true rfl) ?_
    refine z_dload_n dX2_ofDouble_21 rfl rfl ?_
    refine z_dconst0 dX2_ofDouble_22 rfl ?_
    refine z_dc_ge (tgt := 35) dX2_ofDouble_23 rfl dX2_ofDouble_24 (by decide) (sg_nn h1) (fun c23 => ?_) (fun c23 => absurd c23 (fun c => absurd ((sg_lt h1 hz).mp c) (by decide)))
    refine z_lload_n dX2_ofDouble_35 rfl rfl ?_
    exact z_lret dX2_ofDouble_36 rfl rfl ⟨congrArg some (congrArg Value.long hPos.symm), rfl⟩ (Nat.le_of_ble_eq_true rfl) (Nat.le_of_ble_eq_true rfl)

set_option maxHeartbeats 800000 in
set_option maxRecDepth 100000 in
theorem m_ofFloat (g : zG) (h : zH) (x : UInt64) (hx : ∃ y, x = FP.f2d y ∧ fpS 100 y ∧ y ≠ FP.Core.fzeroNeg) : zX g yX2_ofFloat cX2_ofFloat 4 (some .long) rmX2_ofFloat [.double x] h (.long (sBits 6 x)) h := by
  refine zM_of (by decide) (Nat.le_of_ble_eq_true rfl) ?_
  obtain ⟨y, hxy, hS, h0⟩ := hx
  have hyn := fpS_nn hS
  have hxn : FP.Core.val64 x ≠ .nan := by rw [hxy]; exact fpD_nn (fpD_f2d hS (by decide))
  have hd : FP.d2f x = y := by
    rw [d2f_core hxn, hxy, f2d_core hyn]
    exact FP.Core.d2f_f2d hyn
  obtain ⟨s, C, q, h1y, -⟩ := hS
  have hz0 := nz32' h0 h1y
  have hb := bits32 h1y
  have hf := FP.Core.val32_fits y
  rw [h1y] at hf
  obtain ⟨hC, q1, q2, q3⟩ := hf
  rw [b32_qmin] at q1 q3
  have q2 : q ≤ 104 := q2
  have hC : C < 2 ^ (23 + 1) := hC
  obtain ⟨c', q', f1, f2⟩ := FP.Core.round_exact FP.Core.good_b64 s (c := C) (q := q) (Nat.lt_of_lt_of_le hC (Nat.pow_le_pow_right (by decide) (by decide))) (by rw [b64_qmin]; omega) (by show _ ≤ (971 : Int); omega)
  have h1 : FP.Core.val64 x = .fin s c' q' := by
    rw [hxy, f2d_core hyn, FP.Core.val64_f2d, h1y]
    exact f1
  obtain ⟨a, ha⟩ : ∃ a : Nat, (q + 1074).toNat = a := ⟨_, rfl⟩
  have hu : FP.Core.inUnits c' q' FP.Core.b64.qmin = C * 2 ^ a := by
    rw [f2]; unfold FP.Core.inUnits; rw [b64_qmin, show (q - -1074).toNat = a by omega]
  have hz : c' = 0 → s = false := by
    intro z
    apply hz0
    rw [z] at hu
    unfold FP.Core.inUnits at hu
    rw [Nat.zero_mul] at hu
    exact (Nat.mul_eq_zero.mp hu.symm).resolve_right (by have := Nat.two_pow_pos a; omega)
  have hA : 1051 ≤ a + 126 := by omega
  have hA2 : a ≤ 1051 + 900 := by omega
  have hN : 2 ^ 23 ≤ C ∨ a + 126 = 1051 := by
    rcases q3 with y | y
    · exact Or.inr (by omega)
    · exact Or.inl y
  have hb6 : sBits 6 x = (nI y.toNat).toInt64 := by
    rw [← u32_i, ← hd]; exact if_pos rfl
  have hlt := y.toNat_lt
  rw [show (q + 149).toNat = a + 126 - 1051 by omega] at hb
  have eU : ∀ z, FP.Core.val64 z = .fin false c' q' → hasV z (C * 2 ^ a) := fun z hz => ⟨c', q', hz, hu⟩
  generalize hm : (a + 126 - 1051) * 2 ^ 23 + C = mm at *
  cases s with
  | true =>
    have hV := eU _ (sg_V h1)
    simp only [if_true] at hb
    have hNeg : sBits 6 x = lN ((a + 126 - 1051) * 2 ^ 23 + C) - 2147483648 := by
      rw [hb6, hb, Nat.add_assoc, hm, neg_i (by omega)]
    refine z_dload_n dX2_ofFloat_0 rfl rfl ?_
    refine z_dconst0 dX2_ofFloat_1 rfl ?_
    refine z_dc_ge (tgt := 11) dX2_ofFloat_2 rfl dX2_ofFloat_3 (by decide) (sg_nn h1) (fun c2 => absurd c2 (fun z => z ((sg_lt h1 hz).mpr rfl))) (fun c2 => ?_)
    refine z_dload_n dX2_ofFloat_6 rfl rfl ?_
    refine z_dneg dX2_ofFloat_7 rfl ?_
    refine z_goto (tgt := 12) dX2_ofFloat_8 rfl (by decide) ?_
    refine z_bipush (v := nI 23) dX2_ofFloat_12 rfl (by decide) ?_
    refine z_bipush (v := eI (-(126 : Int))) dX2_ofFloat_14 rfl (by decide) ?_
    refine zcx_X2_7 rfl dX2_ofFloat_16 rfl (m_ofSize23 g h (FP.dneg x) C a hV hC hA hA2 hN) rfl rfl ⟨(Nat.le_of_ble_eq_true rfl), (Nat.le_of_ble_eq_true rfl)⟩ ⟨(Nat.le_of_ble_eq_true rfl), (Nat.le_of_ble_eq_true rfl)⟩ (Nat.le_of_ble_eq_true rfl) ?_
    refine z_lstore_n dX2_ofFloat_19 rfl (Nat.le_of_ble_eq_true rfl) ?_
    refine z_dload_n dX2_ofFloat_20 rfl rfl ?_
    refine z_dconst0 dX2_ofFloat_21 rfl ?_
    refine z_dc_ge (tgt := 34) dX2_ofFloat_22 rfl dX2_ofFloat_23 (by decide) (sg_nn h1) (fun c22 => absurd c22 (fun z => z ((sg_lt h1 hz).mpr rfl))) (fun c22 => ?_)
    refine z_lload_n dX2_ofFloat_26 rfl rfl ?_
    refine zk_X2_13 rfl dX2_ofFloat_27 rfl ?_
    refine z_lsub dX2_ofFloat_30 rfl ?_
    refine z_goto (tgt := 35) dX2_ofFloat_31 rfl (by decide) ?_
    exact z_lret dX2_ofFloat_35 rfl rfl ⟨congrArg some (congrArg Value.long hNeg.symm), rfl⟩ (Nat.le_of_ble_eq_true rfl) (Nat.le_of_ble_eq_true rfl)
  | false =>
    have hV := eU _ h1
    simp only [Bool.false_eq_true, if_false, Nat.zero_add] at hb
    have hq : mm < 2 ^ 31 := by omega
    have hPos : sBits 6 x = lN ((a + 126 - 1051) * 2 ^ 23 + C) := by
      rw [hb6, hb, hm, nI_l hq]
    refine z_dload_n dX2_ofFloat_0 rfl rfl ?_
    refine z_dconst0 dX2_ofFloat_1 rfl ?_
    refine z_dc_ge (tgt := 11) dX2_ofFloat_2 rfl dX2_ofFloat_3 (by decide) (sg_nn h1) (fun c2 => ?_) (fun c2 => absurd c2 (fun c => absurd ((sg_lt h1 hz).mp c) (by decide)))
    refine z_dload_n dX2_ofFloat_11 rfl rfl ?_
    refine z_bipush (v := nI 23) dX2_ofFloat_12 rfl (by decide) ?_
    refine z_bipush (v := eI (-(126 : Int))) dX2_ofFloat_14 rfl (by decide) ?_
    refine zcx_X2_7 rfl dX2_ofFloat_16 rfl (m_ofSize23 g h x C a hV hC hA hA2 hN) rfl rfl ⟨(Nat.le_of_ble_eq_true rfl), (Nat.le_of_ble_eq_true rfl)⟩ ⟨(Nat.le_of_ble_eq_true rfl), (Nat.le_of_ble_eq_true rfl)⟩ (Nat.le_of_ble_eq_true rfl) ?_
    refine z_lstore_n dX2_ofFloat_19 rfl (Nat.le_of_ble_eq_true rfl) ?_
    refine z_dload_n dX2_ofFloat_20 rfl rfl ?_
    refine z_dconst0 dX2_ofFloat_21 rfl ?_
    refine z_dc_ge (tgt := 34) dX2_ofFloat_22 rfl dX2_ofFloat_23 (by decide) (sg_nn h1) (fun c22 => ?_) (fun c22 => absurd c22 (fun c => absurd ((sg_lt h1 hz).mp c) (by decide)))
    refine z_lload_n dX2_ofFloat_34 rfl rfl ?_
    exact z_lret dX2_ofFloat_35 rfl rfl ⟨congrArg some (congrArg Value.long hPos.symm), rfl⟩ (Nat.le_of_ble_eq_true rfl) (Nat.le_of_ble_eq_true rfl)

