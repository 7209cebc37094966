/-! The bits of a float, found by halving and doubling -/
/-- z stands for N times 2^-1074 -/
def hasV (z : UInt64) (N : Nat) : Prop := ∃ c q, FP.Core.val64 z = .fin false c q ∧ FP.Core.inUnits c q FP.Core.b64.qmin = N
theorem hasV_nn {z : UInt64} {N : Nat} (h : hasV z N) : FP.Core.val64 z ≠ .nan := by
  obtain ⟨c, q, h1, -⟩ := h
  rw [h1]
  exact fun h => by cases h
theorem hasV_z {z : UInt64} {N : Nat} (h : hasV z N) : FP.Core.zval FP.Core.b64 (FP.Core.val64 z) = (N : Int) := by
  obtain ⟨c, q, h1, h2⟩ := h
  rw [h1, ← h2]
  rfl
theorem hasV_lt {z y : UInt64} {N M : Nat} (hz : hasV z N) (hy : hasV y M) : FP.dcmp z y = some .lt ↔ N < M := by
  show FP.Core.dcmp z y = some .lt ↔ N < M
  rw [FP.Core.dcmp_lt, hasV_z hz, hasV_z hy]
  constructor
  · intro h; have := h.2.2; omega
  · intro h; exact ⟨hasV_nn hz, hasV_nn hy, by omega⟩
theorem hasV_eq {z y : UInt64} {N M : Nat} (hz : hasV z N) (hy : hasV y M) : FP.dcmp z y = some .eq ↔ N = M := by
  show FP.Core.dcmp z y = some .eq ↔ N = M
  rw [FP.Core.dcmp_eq, hasV_z hz, hasV_z hy]
  constructor
  · intro h; have := h.2.2; omega
  · intro h; exact ⟨hasV_nn hz, hasV_nn hy, by omega⟩
theorem dcmp_sm {z y : UInt64} (hz : FP.Core.val64 z ≠ .nan) (hy : FP.Core.val64 y ≠ .nan) : FP.dcmp z y ≠ none := by
  show FP.Core.dcmp z y ≠ none
  intro h
  rcases (FP.Core.dcmp_none z y).mp h with q | q
  · exact hz q
  · exact hy q
theorem pw_V {k : Nat} {r : Int} {n : Nat} {z : UInt64} (h : FP.Core.val64 z = .fin false (2 ^ k) r) (hn : (n : Int) = k + r + 1074) (hr : -1074 ≤ r) : hasV z (2 ^ n) := by
  refine ⟨_, _, h, ?_⟩
  unfold FP.Core.inUnits
  rw [b64_qmin, ← Nat.pow_add]
  congr 1
  omega
theorem v64_two : FP.Core.val64 4611686018427387904 = .fin false (2 ^ 52) (-51) := by decide +kernel
theorem hasV_0 : hasV FP.dconst0 0 := ⟨0, _, FP.Core.val64_dconst0, by unfold FP.Core.inUnits; rw [Nat.zero_mul]⟩
theorem hasV_1 : hasV FP.dconst1 (2 ^ 1074) := pw_V FP.Core.val64_dconst1 (by decide) (by decide)
theorem hasV_2 : hasV 4611686018427387904 (2 ^ 1075) := pw_V v64_two (by decide) (by decide)
/-- times a power of two -/
theorem hasV_mul {z p : UInt64} {C a b : Nat} {r : Int} (hz : hasV z (C * 2 ^ a)) (hp : FP.Core.val64 p = .fin false (2 ^ 52) r) (hb : (b : Int) = a + r + 52) (hC : C < 2 ^ 53) (hb2 : b ≤ 2000) : hasV (FP.dmul z p) (C * 2 ^ b) := by
  obtain ⟨c, q, h1, h2⟩ := hz
  have hq := v64q h1
  rw [b64_qmin] at hq
  have e := FP.Core.val64_dmul z p
  rw [h1, hp] at e
  have e2 : FP.Core.roundRatio FP.Core.b64 (false != false) (c * 2 ^ 52) 1 (q + r) = FP.Core.roundRatio FP.Core.b64 false C 1 ((b : Int) - 1074) := by
    apply FP.Core.roundRatio_congr (by decide) (by decide)
    unfold FP.Core.inUnits at h2
    rw [b64_qmin] at h2
    obtain ⟨n1, hn1⟩ : ∃ n1 : Nat, (q - -1074).toNat = n1 := ⟨_, rfl⟩
    rw [hn1] at h2
    rw [Nat.mul_one, Nat.mul_one]
    rcases Nat.lt_or_ge n1 (a + 52) with z1 | z1
    · obtain ⟨m, hm⟩ : ∃ m, a + 52 = n1 + m := ⟨a + 52 - n1, by omega⟩
      rw [show (q + r - ((b : Int) - 1074)).toNat = 0 by omega, show ((b : Int) - 1074 - (q + r)).toNat = m by omega, Nat.pow_zero, Nat.mul_one]
      apply Nat.eq_of_mul_eq_mul_right (Nat.two_pow_pos n1)
      rw [Nat.mul_assoc C, ← Nat.pow_add, show m + n1 = a + 52 by omega, Nat.pow_add, ← Nat.mul_assoc, ← h2, Nat.mul_assoc, Nat.mul_assoc, Nat.mul_comm (2 ^ 52)]
    · obtain ⟨m, hm⟩ : ∃ m, n1 = 52 + m + a := ⟨n1 - a - 52, by omega⟩
      rw [show (q + r - ((b : Int) - 1074)).toNat = m by omega, show ((b : Int) - 1074 - (q + r)).toNat = 0 by omega, Nat.pow_zero, Nat.mul_one]
      apply Nat.eq_of_mul_eq_mul_right (Nat.two_pow_pos a)
      rw [Nat.mul_assoc, Nat.mul_assoc, ← h2, hm, Nat.pow_add, Nat.pow_add, Nat.mul_assoc]
  obtain ⟨c', q', f1, f2⟩ := FP.Core.round_exact FP.Core.good_b64 false (c := C) (q := (b : Int) - 1074) hC (by rw [b64_qmin]; omega) (by show _ ≤ (971 : Int); omega)
  refine ⟨c', q', e.trans (e2.trans f1), f2.trans ?_⟩
  unfold FP.Core.inUnits
  rw [b64_qmin, show ((b : Int) - 1074 - -1074).toNat = b by omega]
theorem hasV_d2l {z : UInt64} {C : Nat} (hz : hasV z (C * 2 ^ 1074)) (hC : C < 2 ^ 53) : FP.d2l z = lN C := by
  obtain ⟨c, q, h1, h2⟩ := hz
  have e := FP.Core.d2l_val (a := z) (by rw [h1]; exact fun h => by cases h)
  rw [h1] at e
  have e2 : FP.Core.signed (FP.Core.sgn (.fin false c q)) (FP.Core.zmag FP.Core.b64 (.fin false c q) / FP.Core.one64) = (C : Int) := by
    show FP.Core.signed false (FP.Core.inUnits c q FP.Core.b64.qmin / FP.Core.one64) = _
    rw [h2]
    unfold FP.Core.one64
    rw [Nat.mul_div_cancel _ (Nat.two_pow_pos 1074)]
    rfl
  rw [e2] at e
  apply Int64.toInt_inj.mp
  have e3 : (lN C).toInt = (C : Int) := lg_ofNat_toInt (by omega)
  rw [e3]
  refine e.trans ?_
  omega
theorem wb_tb (n : Nat) : (lN n).toBitVec = BitVec.ofNat 64 n := rfl
theorem wb_inj {a b : Int64} (h : a.toBitVec = b.toBitVec) : a = b := Int64.toBitVec_inj.mp h
theorem wb_c : ∀ k, k < 64 → ((nI k).toInt64 &&& 63) = lN k := by decide +kernel
theorem wb_sm : ∀ k, k < 64 → (BitVec.ofNat 64 k).smod 64 = BitVec.ofNat 64 k := by decide +kernel
theorem wb_shl (n : Nat) {k : Nat} (hk : k < 64) : lN n <<< ((nI k).toInt64 &&& 63) = lN (n * 2 ^ k) := by
  rw [wb_c k hk]
  apply wb_inj
  rw [Int64.toBitVec_shiftLeft, wb_tb, wb_tb, wb_tb, wb_sm k hk]
  apply BitVec.eq_of_toNat_eq
  rw [BitVec.shiftLeft_eq', BitVec.toNat_shiftLeft, BitVec.toNat_ofNat, BitVec.toNat_ofNat, BitVec.toNat_ofNat, Nat.mod_eq_of_lt (show k < 2 ^ 64 by omega), Nat.shiftLeft_eq, Nat.mul_mod, Nat.mod_mod, ← Nat.mul_mod]
/-- an exponent -/
def eI (e : Int) : Int32 := Int32.ofInt e
theorem eI_to {e : Int} (h1 : -2000 ≤ e) (h2 : e ≤ 2000) : (eI e).toInt = e := Int32.toInt_ofInt_of_le (by omega) (by omega)
theorem eI_n (n : Nat) : nI n = eI n := by
  unfold nI eI
  exact (Int32.ofInt_eq_ofNat).symm
theorem eI_add (a b : Int) : eI a + Int32.ofInt b = eI (a + b) := (Int32.ofInt_add a b).symm
theorem eI_sub (a b : Int) : eI a - eI b = eI (a - b) := (Int32.ofInt_sub a b).symm
theorem eI_le {a b : Int} (h1 : -2000 ≤ a) (h2 : a ≤ 2000) (h3 : -2000 ≤ b) (h4 : b ≤ 2000) : eI a ≤ eI b ↔ a ≤ b := by
  rw [Int32.le_iff_toInt_le, eI_to h1 h2, eI_to h3 h4]
theorem low_lt {C b w B : Nat} (hC : C < 2 ^ (w + 1)) (hb : b ≤ B) (hB : B + w = 1074) : C * 2 ^ b < 2 ^ 1075 := by
  have h1 : C * 2 ^ b < 2 ^ (w + 1) * 2 ^ b := Nat.mul_lt_mul_of_pos_right hC (Nat.two_pow_pos b)
  rw [← Nat.pow_add] at h1
  exact Nat.lt_of_lt_of_le h1 (Nat.pow_le_pow_right (by decide) (by omega))
theorem low_lt1 {C b w B : Nat} (hC : C < 2 ^ (w + 1)) (hb : b < B) (hB : B + w = 1074) : C * 2 ^ b < 2 ^ 1074 := by
  have h1 : C * 2 ^ b < 2 ^ (w + 1) * 2 ^ b := Nat.mul_lt_mul_of_pos_right hC (Nat.two_pow_pos b)
  rw [← Nat.pow_add] at h1
  exact Nat.lt_of_lt_of_le h1 (Nat.pow_le_pow_right (by decide) (by omega))
theorem high_ge {C b w B : Nat} (hC : 2 ^ w ≤ C) (hb : B < b) (hB : B + w = 1074) : ¬ C * 2 ^ b < 2 ^ 1075 := by
  have h1 : 2 ^ w * 2 ^ b ≤ C * 2 ^ b := Nat.mul_le_mul_right _ hC
  rw [← Nat.pow_add] at h1
  exact Nat.not_lt.mpr (Nat.le_trans (Nat.pow_le_pow_right (by decide) (by omega)) h1)
theorem high_ge1 {C w B : Nat} (hC : 2 ^ w ≤ C) (hB : B + w = 1074) : ¬ C * 2 ^ B < 2 ^ 1074 := by
  have h1 : 2 ^ w * 2 ^ B ≤ C * 2 ^ B := Nat.mul_le_mul_right _ hC
  rw [← Nat.pow_add, show w + B = 1074 by omega] at h1
  exact Nat.not_lt.mpr h1

abbrev YX2_ofSize : zY := (yX2_ofSize.cls, cX2_ofSize, 8, (some .long), rmX2_ofSize, yX2_ofSize.name, fun _ _ => True)
set_option maxHeartbeats 800000 in
set_option maxRecDepth 100000 in
theorem os_1 (g : zG) (h : zH) (Q : Array Value → List Frame → State → State → Prop) (x : UInt64) (C a w B L : Nat) (lo : Int32) (hC : C < 2 ^ (w + 1)) (hw : w ≤ 52) (hB : B + w = 1074) (hL : L ≤ 1022) (ha : B ≤ a + L) (ha2 : a ≤ B + 900) (hN : 2 ^ w ≤ C ∨ a + L = B) (K : ∀ z, hasV z (C * 2 ^ (a - (a - B))) → zZ g YX2_ofSize Q 51 [(7, .int (nI (a - B))), (6, .int (nI (a - B))), (4, .double z), (3, .int lo), (2, .int (nI w)), (0, .double x)] [] h 0 0) : ∀ (n k : Nat) (z : UInt64), k + n = a - B → hasV z (C * 2 ^ (a - k)) → zZ g YX2_ofSize Q 17 [(7, .int (nI k)), (6, .int (nI k)), (4, .double z), (3, .int lo), (2, .int (nI w)), (0, .double x)] [] h 0 0 := by
  intro n
  induction n with
  | zero =>
    intro k z hk hz
    refine z_iload dX2_ofSize_17 rfl rfl ?_
    refine z_sipush (v := 1100) dX2_ofSize_19 rfl (by decide) ?_
    refine z_icmp_ge (tgt := 51) dX2_ofSize_22 rfl (by decide) (fun c22 => absurd c22 (nI_ge (b := 1100) (by omega) (by decide))) (fun c22 => ?_)
    refine z_dload dX2_ofSize_25 rfl rfl ?_
    refine zk_X2_17 rfl dX2_ofSize_27 rfl ?_
    refine z_dc_lt (tgt := 51) dX2_ofSize_30 rfl dX2_ofSize_31 (by decide) (dcmp_sm (hasV_nn hz) (hasV_nn hasV_2)) (fun c30 => ?_) (fun c30 => absurd c30 (fun z => z ((hasV_lt hz hasV_2).mpr (low_lt hC (by omega) hB))))
    refine z_lv [(7, .int (nI k)), (6, .int (nI k)), (4, .double z), (3, .int lo), (2, .int (nI w)), (0, .double x)] ⟨rfl, rfl, rfl, rfl, rfl, rfl, trivial⟩ ?_
    rw [show k = a - B by omega]
    exact K z (by rw [show a - (a - B) = a - k by omega]; exact hz)
  | succ n ih =>
    intro k z hk hz
    have hN2 : 2 ^ w ≤ C := by
      rcases hN with q | q
      · exact q
      · omega
    have hz2 : hasV (FP.dmul z 4602678819172646912) (C * 2 ^ (a - (k + 1))) := hasV_mul hz val64_half (by omega) (Nat.lt_of_lt_of_le hC (Nat.pow_le_pow_right (by decide) (by omega))) (by omega)
    refine z_iload dX2_ofSize_17 rfl rfl ?_
    refine z_sipush (v := 1100) dX2_ofSize_19 rfl (by decide) ?_
    refine z_icmp_ge (tgt := 51) dX2_ofSize_22 rfl (by decide) (fun c22 => absurd c22 (nI_ge (b := 1100) (by omega) (by decide))) (fun c22 => ?_)
    refine z_dload dX2_ofSize_25 rfl rfl ?_
    refine zk_X2_17 rfl dX2_ofSize_27 rfl ?_
    refine z_dc_lt (tgt := 51) dX2_ofSize_30 rfl dX2_ofSize_31 (by decide) (dcmp_sm (hasV_nn hz) (hasV_nn hasV_2)) (fun c30 => absurd c30 (fun c => (high_ge hN2 (show B < a - k by omega) hB ((hasV_lt hz hasV_2).mp c)))) (fun c30 => ?_)
    refine z_dload dX2_ofSize_34 rfl rfl ?_
    refine zk_X2_19 rfl dX2_ofSize_36 rfl ?_
    refine z_dmul dX2_ofSize_39 rfl (fp_n64 (hasV_nn hz2)) ?_
    refine z_dstore dX2_ofSize_40 rfl (Nat.le_of_ble_eq_true rfl) ?_
    refine z_iinc (v := nI (k + 1)) dX2_ofSize_42 rfl rfl (nI_inc k) (Nat.le_of_ble_eq_true rfl) ?_
    refine z_iinc (v := nI (k + 1)) dX2_ofSize_45 rfl rfl (nI_inc k) (Nat.le_of_ble_eq_true rfl) ?_
    refine z_goto (tgt := 17) dX2_ofSize_48 rfl (by decide) ?_
    refine z_lv [(7, .int (nI (k + 1))), (6, .int (nI (k + 1))), (4, .double (FP.dmul z 4602678819172646912)), (3, .int lo), (2, .int (nI w)), (0, .double x)] ⟨rfl, rfl, rfl, rfl, rfl, rfl, trivial⟩ ?_
    exact ih (k + 1) _ (by omega) hz2

set_option maxHeartbeats 800000 in
set_option maxRecDepth 100000 in
theorem os_2 (g : zG) (h : zH) (Q : Array Value → List Frame → State → State → Prop) (x : UInt64) (C a w B L : Nat) (lo : Int32) (hC : C < 2 ^ (w + 1)) (hw : w ≤ 52) (hB : B + w = 1074) (hL : L ≤ 1022) (ha : B ≤ a + L) (ha2 : a ≤ B + 900) (hN : 2 ^ w ≤ C ∨ a + L = B) (hlo : lo = eI (-(L : Int))) (b0 : Nat) (hb0 : b0 ≤ B) (hb1 : b0 = a ∨ b0 = B) (K : ∀ v z, hasV z (C * 2 ^ B) → zZ g YX2_ofSize Q 92 [(7, .int v), (6, .int (eI ((a : Int) - (B : Nat)))), (4, .double z), (3, .int lo), (2, .int (nI w)), (0, .double x)] [] h 0 0) : ∀ (n j : Nat) (z : UInt64), b0 + j + n = B → hasV z (C * 2 ^ (b0 + j)) → zZ g YX2_ofSize Q 54 [(7, .int (nI j)), (6, .int (eI ((a : Int) - (b0 + j : Nat)))), (4, .double z), (3, .int lo), (2, .int (nI w)), (0, .double x)] [] h 0 0 := by
  intro n
  induction n with
  | zero =>
    intro j z hj hz
    rcases hN with hN | hN
    · skip
      refine z_iload dX2_ofSize_54 rfl rfl ?_
      refine z_sipush (v := 1100) dX2_ofSize_56 rfl (by decide) ?_
      refine z_icmp_ge (tgt := 92) dX2_ofSize_59 rfl (by decide) (fun c59 => absurd c59 (nI_ge (b := 1100) (by omega) (by decide))) (fun c59 => ?_)
      refine z_dload dX2_ofSize_62 rfl rfl ?_
      refine z_dconst1 dX2_ofSize_64 rfl ?_
      refine z_dc_ge (tgt := 92) dX2_ofSize_65 rfl dX2_ofSize_66 (by decide) (dcmp_sm (hasV_nn hz) (hasV_nn hasV_1)) (fun c65 => ?_) (fun c65 => absurd c65 (fun c => high_ge1 hN hB (by have := (hasV_lt hz hasV_1).mp c; rwa [show b0 + j = B by omega] at this)))
      refine z_lv [(7, .int (nI j)), (6, .int (eI ((a : Int) - (b0 + j : Nat)))), (4, .double z), (3, .int lo), (2, .int (nI w)), (0, .double x)] ⟨rfl, rfl, rfl, rfl, rfl, rfl, trivial⟩ ?_
      rw [show b0 + j = B by omega]
      exact K _ z (by rw [show B = b0 + j by omega]; exact hz)
    · skip
      refine z_iload dX2_ofSize_54 rfl rfl ?_
      refine z_sipush (v := 1100) dX2_ofSize_56 rfl (by decide) ?_
      refine z_icmp_ge (tgt := 92) dX2_ofSize_59 rfl (by decide) (fun c59 => absurd c59 (nI_ge (b := 1100) (by omega) (by decide))) (fun c59 => ?_)
      refine z_dload dX2_ofSize_62 rfl rfl ?_
      refine z_dconst1 dX2_ofSize_64 rfl ?_
      refine z_dc_ge (tgt := 92) dX2_ofSize_65 rfl dX2_ofSize_66 (by decide) (dcmp_sm (hasV_nn hz) (hasV_nn hasV_1)) (fun c65 => ?_) (fun c65 => ?_)
      · skip
        refine z_lv [(7, .int (nI j)), (6, .int (eI ((a : Int) - (b0 + j : Nat)))), (4, .double z), (3, .int lo), (2, .int (nI w)), (0, .double x)] ⟨rfl, rfl, rfl, rfl, rfl, rfl, trivial⟩ ?_
        rw [show b0 + j = B by omega]
        exact K _ z (by rw [show B = b0 + j by omega]; exact hz)
      · skip
        refine z_iload dX2_ofSize_69 rfl rfl ?_
        refine z_iload_n dX2_ofSize_71 rfl rfl ?_
        refine z_icmp_le (tgt := 92) dX2_ofSize_72 rfl (by decide) (fun c72 => ?_) (fun c72 => absurd c72 (fun z => z (by rw [hlo]; exact (eI_le (by omega) (by omega) (by omega) (by omega)).mpr (by omega))))
        refine z_lv [(7, .int (nI j)), (6, .int (eI ((a : Int) - (b0 + j : Nat)))), (4, .double z), (3, .int lo), (2, .int (nI w)), (0, .double x)] ⟨rfl, rfl, rfl, rfl, rfl, rfl, trivial⟩ ?_
        rw [show b0 + j = B by omega]
        exact K _ z (by rw [show B = b0 + j by omega]; exact hz)
  | succ n ih =>
    intro j z hj hz
    have hz2 : hasV (FP.dmul z 4611686018427387904) (C * 2 ^ (b0 + (j + 1))) := hasV_mul hz v64_two (by omega) (Nat.lt_of_lt_of_le hC (Nat.pow_le_pow_right (by decide) (by omega))) (by omega)
    refine z_iload dX2_ofSize_54 rfl rfl ?_
    refine z_sipush (v := 1100) dX2_ofSize_56 rfl (by decide) ?_
    refine z_icmp_ge (tgt := 92) dX2_ofSize_59 rfl (by decide) (fun c59 => absurd c59 (nI_ge (b := 1100) (by omega) (by decide))) (fun c59 => ?_)
    refine z_dload dX2_ofSize_62 rfl rfl ?_
    refine z_dconst1 dX2_ofSize_64 rfl ?_
    refine z_dc_ge (tgt := 92) dX2_ofSize_65 rfl dX2_ofSize_66 (by decide) (dcmp_sm (hasV_nn hz) (hasV_nn hasV_1)) (fun c65 => absurd c65 (fun z => z ((hasV_lt hz hasV_1).mpr (low_lt1 hC (show b0 + j < B by omega) hB)))) (fun c65 => ?_)
    refine z_iload dX2_ofSize_69 rfl rfl ?_
    refine z_iload_n dX2_ofSize_71 rfl rfl ?_
    refine z_icmp_le (tgt := 92) dX2_ofSize_72 rfl (by decide) (fun c72 => absurd c72 (fun z => by rw [hlo] at z; have := (eI_le (by omega) (by omega) (by omega) (by omega)).mp z; omega)) (fun c72 => ?_)
    refine z_dload dX2_ofSize_75 rfl rfl ?_
    refine zk_X2_17 rfl dX2_ofSize_77 rfl ?_
    refine z_dmul dX2_ofSize_80 rfl (fp_n64 (hasV_nn hz2)) ?_
    refine z_dstore dX2_ofSize_81 rfl (Nat.le_of_ble_eq_true rfl) ?_
    refine z_iinc (v := (eI ((a : Int) - (b0 + (j + 1) : Nat)))) dX2_ofSize_83 rfl rfl ((eI_add _ _).trans (congrArg eI (by omega))) (Nat.le_of_ble_eq_true rfl) ?_
    refine z_iinc (v := nI (j + 1)) dX2_ofSize_86 rfl rfl (nI_inc j) (Nat.le_of_ble_eq_true rfl) ?_
    refine z_goto (tgt := 54) dX2_ofSize_89 rfl (by decide) ?_
    refine z_lv [(7, .int (nI (j + 1))), (6, .int (eI ((a : Int) - (b0 + (j + 1) : Nat)))), (4, .double (FP.dmul z 4611686018427387904)), (3, .int lo), (2, .int (nI w)), (0, .double x)] ⟨rfl, rfl, rfl, rfl, rfl, rfl, trivial⟩ ?_
    exact ih (j + 1) _ (by omega) hz2

set_option maxHeartbeats 800000 in
set_option maxRecDepth 100000 in
theorem v64_p23 : FP.Core.val64 4710765210229538816 = .fin false (2 ^ 52) (-29) := by decide +kernel
theorem m_ofSize23 (g : zG) (h : zH) (x : UInt64) (C a : Nat) (hx : hasV x (C * 2 ^ a)) (hC : C < 2 ^ (23 + 1)) (ha : 1051 ≤ a + 126) (ha2 : a ≤ 1051 + 900) (hN : 2 ^ 23 ≤ C ∨ a + 126 = 1051) : zX g yX2_ofSize cX2_ofSize 8 (some .long) rmX2_ofSize [.double x, .int (nI 23), .int (eI (-(126 : Int)))] h (.long (lN ((a + 126 - 1051) * 2 ^ 23 + C))) h := by
  refine zM_of (by decide) (Nat.le_of_ble_eq_true rfl) ?_
  by_cases hC0 : C = 0
  · have hN2 : a + 126 = 1051 := by
      rcases hN with q | q
      · rw [hC0] at q; exact absurd q (by decide)
      · exact q
    refine z_dload_n dX2_ofSize_0 rfl rfl ?_
    refine z_dconst0 dX2_ofSize_1 rfl ?_
    refine z_dc_ne (tgt := 8) dX2_ofSize_2 rfl dX2_ofSize_3 (by decide) (dcmp_sm (hasV_nn hx) (hasV_nn hasV_0)) (fun c2 => absurd c2 (fun z => z ((hasV_eq hx hasV_0).mpr (by rw [hC0, Nat.zero_mul])))) (fun c2 => ?_)
    refine z_lconst (v := 0) dX2_ofSize_6 rfl (by decide) ?_
    exact z_lret dX2_ofSize_7 rfl rfl ⟨congrArg some (congrArg Value.long (by rw [hC0, show a + 126 - 1051 = 0 by omega, Nat.zero_mul]; decide)), rfl⟩ (Nat.le_of_ble_eq_true rfl) (Nat.le_of_ble_eq_true rfl)
  have hC53 : C < 2 ^ 53 := Nat.lt_of_lt_of_le hC (Nat.pow_le_pow_right (by decide) (by decide))
  have K : ∀ v z, hasV z (C * 2 ^ 1051) → zZ g YX2_ofSize (zE g (fun v h1 => v = some (.long (lN ((a + 126 - 1051) * 2 ^ 23 + C))) ∧ h1 = h) 0 0) 92 [(7, .int v), (6, .int (eI ((a : Int) - (1051 : Nat)))), (4, .double z), (3, .int (eI (-(126 : Int)))), (2, .int (nI 23)), (0, .double x)] [] h 0 0 := by
    intro v z hz
    have hz2 : hasV (FP.dmul z 4710765210229538816) (C * 2 ^ 1074) := hasV_mul hz v64_p23 (by decide) hC53 (by decide)
    refine z_iload dX2_ofSize_92 rfl rfl ?_
    refine z_iload_n dX2_ofSize_94 rfl rfl ?_
    refine z_isub dX2_ofSize_95 rfl ?_
    refine z_i2l dX2_ofSize_96 rfl ?_
    refine z_iload_n dX2_ofSize_97 rfl rfl ?_
    refine z_lshl dX2_ofSize_98 rfl ?_
    refine z_dload dX2_ofSize_99 rfl rfl ?_
    refine z_lconst (v := 1) dX2_ofSize_101 rfl (by decide) ?_
    refine z_iload_n dX2_ofSize_102 rfl rfl ?_
    refine z_lshl dX2_ofSize_103 rfl ?_
    refine z_l2d dX2_ofSize_104 rfl ?_
    rw [show FP.l2d ((1 : Int64) <<< ((nI 23).toInt64 &&& 63)) = 4710765210229538816 by decide +kernel]
    refine z_dmul dX2_ofSize_105 rfl (fp_n64 (hasV_nn hz2)) ?_
    refine z_d2l dX2_ofSize_106 rfl ?_
    refine z_ladd dX2_ofSize_107 rfl ?_
    exact z_lret dX2_ofSize_108 rfl rfl ⟨congrArg some (congrArg Value.long (by rw [hasV_d2l hz2 hC53, eI_sub, show (a : Int) - (1051 : Nat) - -(126 : Int) = ((a + 126 - 1051 : Nat) : Int) by omega, ← eI_n, nI_l (by omega), wb_shl _ (by decide), lN_add])), rfl⟩ (Nat.le_of_ble_eq_true rfl) (Nat.le_of_ble_eq_true rfl)
  refine z_dload_n dX2_ofSize_0 rfl rfl ?_
  refine z_dconst0 dX2_ofSize_1 rfl ?_
  refine z_dc_ne (tgt := 8) dX2_ofSize_2 rfl dX2_ofSize_3 (by decide) (dcmp_sm (hasV_nn hx) (hasV_nn hasV_0)) (fun c2 => ?_) (fun c2 => absurd c2 (fun c => hC0 (by have := (hasV_eq hx hasV_0).mp c; exact (Nat.mul_eq_zero.mp this).resolve_right (by have := Nat.two_pow_pos a; omega))))
  refine z_dload_n dX2_ofSize_8 rfl rfl ?_
  refine z_dstore dX2_ofSize_9 rfl (Nat.le_of_ble_eq_true rfl) ?_
  refine z_iconst (v := nI 0) dX2_ofSize_11 rfl (by decide) ?_
  refine z_istore dX2_ofSize_12 rfl (Nat.le_of_ble_eq_true rfl) ?_
  refine z_iconst (v := nI 0) dX2_ofSize_14 rfl (by decide) ?_
  refine z_istore dX2_ofSize_15 rfl (Nat.le_of_ble_eq_true rfl) ?_
  refine z_lv [(7, .int (nI 0)), (6, .int (nI 0)), (4, .double x), (3, .int (eI (-(126 : Int)))), (2, .int (nI 23)), (0, .double x)] ⟨rfl, rfl, rfl, rfl, rfl, rfl, trivial⟩ ?_
  refine os_1 g h _ x C a 23 1051 126 _ hC (by decide) (by decide) (by decide) ha ha2 hN (fun z hz => ?_) (a - 1051) 0 x (by omega) hx
  refine z_iconst (v := nI 0) dX2_ofSize_51 rfl (by decide) ?_
  refine z_istore dX2_ofSize_52 rfl (Nat.le_of_ble_eq_true rfl) ?_
  refine z_lv [(7, .int (nI 0)), (6, .int (eI ((a : Int) - ((a - (a - 1051) + 0 : Nat) : Int)))), (4, .double z), (3, .int (eI (-(126 : Int)))), (2, .int (nI 23)), (0, .double x)] (by rw [show (a : Int) - ((a - (a - 1051) + 0 : Nat) : Int) = ((a - 1051 : Nat) : Int) by omega, ← eI_n]; exact ⟨rfl, rfl, rfl, rfl, rfl, rfl, trivial⟩) ?_
  exact os_2 g h _ x C a 23 1051 126 _ hC (by decide) (by decide) (by decide) ha ha2 hN rfl (a - (a - 1051)) (by omega) (by omega) K (1051 - (a - (a - 1051))) 0 z (by omega) (by rw [Nat.add_zero]; exact hz)

set_option maxHeartbeats 800000 in
set_option maxRecDepth 100000 in
theorem v64_p52 : FP.Core.val64 4841369599423283200 = .fin false (2 ^ 52) 0 := by decide +kernel
theorem m_ofSize52 (g : zG) (h : zH) (x : UInt64) (C a : Nat) (hx : hasV x (C * 2 ^ a)) (hC : C < 2 ^ (52 + 1)) (ha : 1022 ≤ a + 1022) (ha2 : a ≤ 1022 + 900) (hN : 2 ^ 52 ≤ C ∨ a + 1022 = 1022) : zX g yX2_ofSize cX2_ofSize 8 (some .long) rmX2_ofSize [.double x, .int (nI 52), .int (eI (-(1022 : Int)))] h (.long (lN ((a + 1022 - 1022) * 2 ^ 52 + C))) h := by
  refine zM_of (by decide) (Nat.le_of_ble_eq_true rfl) ?_
  by_cases hC0 : C = 0
  · have hN2 : a + 1022 = 1022 := by
      rcases hN with q | q
      · rw [hC0] at q; exact absurd q (by decide)
      · exact q
    refine z_dload_n dX2_ofSize_0 rfl rfl ?_
    refine z_dconst0 dX2_ofSize_1 rfl ?_
    refine z_dc_ne (tgt := 8) dX2_ofSize_2 rfl dX2_ofSize_3 (by decide) (dcmp_sm (hasV_nn hx) (hasV_nn hasV_0)) (fun c2 => absurd c2 (fun z => z ((hasV_eq hx hasV_0).mpr (by rw [hC0, Nat.zero_mul])))) (fun c2 => ?_)
    refine z_lconst (v := 0) dX2_ofSize_6 rfl (by decide) ?_
    exact z_lret dX2_ofSize_7 rfl rfl ⟨congrArg some (congrArg Value.long (by rw [hC0, show a + 1022 - 1022 = 0 by omega, Nat.zero_mul]; decide)), rfl⟩ (Nat.le_of_ble_eq_true rfl) (Nat.le_of_ble_eq_true rfl)
  have hC53 : C < 2 ^ 53 := Nat.lt_of_lt_of_le hC (Nat.pow_le_pow_right (by decide) (by decide))
  have K : ∀ v z, hasV z (C * 2 ^ 1022) → zZ g YX2_ofSize (zE g (fun v h1 => v = some (.long (lN ((a + 1022 - 1022) * 2 ^ 52 + C))) ∧ h1 = h) 0 0) 92 [(7, .int v), (6, .int (eI ((a : Int) - (1022 : Nat)))), (4, .double z), (3, .int (eI (-(1022 : Int)))), (2, .int (nI 52)), (0, .double x)] [] h 0 0 := by
    intro v z hz
    have hz2 : hasV (FP.dmul z 4841369599423283200) (C * 2 ^ 1074) := hasV_mul hz v64_p52 (by decide) hC53 (by decide)
    refine z_iload dX2_ofSize_92 rfl rfl ?_
    refine z_iload_n dX2_ofSize_94 rfl rfl ?_
    refine z_isub dX2_ofSize_95 rfl ?_
    refine z_i2l dX2_ofSize_96 rfl ?_
    refine z_iload_n dX2_ofSize_97 rfl rfl ?_
    refine z_lshl dX2_ofSize_98 rfl ?_
    refine z_dload dX2_ofSize_99 rfl rfl ?_
    refine z_lconst (v := 1) dX2_ofSize_101 rfl (by decide) ?_
    refine z_iload_n dX2_ofSize_102 rfl rfl ?_
    refine z_lshl dX2_ofSize_103 rfl ?_
    refine z_l2d dX2_ofSize_104 rfl ?_
    rw [show FP.l2d ((1 : Int64) <<< ((nI 52).toInt64 &&& 63)) = 4841369599423283200 by decide +kernel]
    refine z_dmul dX2_ofSize_105 rfl (fp_n64 (hasV_nn hz2)) ?_
    refine z_d2l dX2_ofSize_106 rfl ?_
    refine z_ladd dX2_ofSize_107 rfl ?_
    exact z_lret dX2_ofSize_108 rfl rfl ⟨congrArg some (congrArg Value.long (by rw [hasV_d2l hz2 hC53, eI_sub, show (a : Int) - (1022 : Nat) - -(1022 : Int) = ((a + 1022 - 1022 : Nat) : Int) by omega, ← eI_n, nI_l (by omega), wb_shl _ (by decide), lN_add])), rfl⟩ (Nat.le_of_ble_eq_true rfl) (Nat.le_of_ble_eq_true rfl)
  refine z_dload_n dX2_ofSize_0 rfl rfl ?_
  refine z_dconst0 dX2_ofSize_1 rfl ?_
  refine z_dc_ne (tgt := 8) dX2_ofSize_2 rfl dX2_ofSize_3 (by decide) (dcmp_sm (hasV_nn hx) (hasV_nn hasV_0)) (fun c2 => ?_) (fun c2 => absurd c2 (fun c => hC0 (by have := (hasV_eq hx hasV_0).mp c; exact (Nat.mul_eq_zero.mp this).resolve_right (by have := Nat.two_pow_pos a; omega))))
  refine z_dload_n dX2_ofSize_8 rfl rfl ?_
  refine z_dstore dX2_ofSize_9 rfl (Nat.le_of_ble_eq_true rfl) ?_
  refine z_iconst (v := nI 0) dX2_ofSize_11 rfl (by decide) ?_
  refine z_istore dX2_ofSize_12 rfl (Nat.le_of_ble_eq_true rfl) ?_
  refine z_iconst (v := nI 0) dX2_ofSize_14 rfl (by decide) ?_
  refine z_istore dX2_ofSize_15 rfl (Nat.le_of_ble_eq_true rfl) ?_
  refine z_lv [(7, .int (nI 0)), (6, .int (nI 0)), (4, .double x), (3, .int (eI (-(1022 : Int)))), (2, .int (nI 52)), (0, .double x)] ⟨rfl, rfl, rfl, rfl, rfl, rfl, trivial⟩ ?_
  refine os_1 g h _ x C a 52 1022 1022 _ hC (by decide) (by decide) (by decide) ha ha2 hN (fun z hz => ?_) (a - 1022) 0 x (by omega) hx
  refine z_iconst (v := nI 0) dX2_ofSize_51 rfl (by decide) ?_
  refine z_istore dX2_ofSize_52 rfl (Nat.le_of_ble_eq_true rfl) ?_
  refine z_lv [(7, .int (nI 0)), (6, .int (eI ((a : Int) - ((a - (a - 1022) + 0 : Nat) : Int)))), (4, .double z), (3, .int (eI (-(1022 : Int)))), (2, .int (nI 52)), (0, .double x)] (by rw [show (a : Int) - ((a - (a - 1022) + 0 : Nat) : Int) = ((a - 1022 : Nat) : Int) by omega, ← eI_n]; exact ⟨rfl, rfl, rfl, rfl, rfl, rfl, trivial⟩) ?_
  exact os_2 g h _ x C a 52 1022 1022 _ hC (by decide) (by decide) (by decide) ha ha2 hN rfl (a - (a - 1022)) (by omega) (by omega) K (1022 - (a - (a - 1022))) 0 z (by omega) (by rw [Nat.add_zero]; exact hz)

