/-! Floats: what is finite, how great, and never -0.0 -/
/-- A * 2^e is at most 2^k -/
def vle (A : Nat) (e k : Int) : Prop := A * 2 ^ (e - k).toNat ≤ 2 ^ (k - e).toNat
theorem vle_iff {A : Nat} {e k : Int} (z : Int) (h1 : z ≤ e) (h2 : z ≤ k) : vle A e k ↔ A * 2 ^ (e - z).toNat ≤ 2 ^ (k - z).toNat := by
  unfold vle
  rcases Int.le_total k e with h | h
  · obtain ⟨n, hn⟩ : ∃ n : Nat, e = k + n := ⟨(e - k).toNat, by omega⟩
    obtain ⟨m, hm⟩ : ∃ m : Nat, k = z + m := ⟨(k - z).toNat, by omega⟩
    subst hn
    subst hm
    rw [show (z + (m : Int) + n - (z + m)).toNat = n by omega, show (z + (m : Int) - (z + m + n)).toNat = 0 by omega, show (z + (m : Int) + n - z).toNat = n + m by omega, show (z + (m : Int) - z).toNat = m by omega, Nat.pow_add, ← Nat.mul_assoc]
    constructor
    · intro q
      calc A * 2 ^ n * 2 ^ m ≤ 2 ^ 0 * 2 ^ m := Nat.mul_le_mul_right _ q
        _ = 2 ^ m := by simp
    · intro q
      exact Nat.le_of_mul_le_mul_right (by simpa using q) (Nat.two_pow_pos m)
  · obtain ⟨n, hn⟩ : ∃ n : Nat, k = e + n := ⟨(k - e).toNat, by omega⟩
    obtain ⟨m, hm⟩ : ∃ m : Nat, e = z + m := ⟨(e - z).toNat, by omega⟩
    subst hn
    subst hm
    rw [show (z + (m : Int) - (z + m + n)).toNat = 0 by omega, show (z + (m : Int) + n - (z + m)).toNat = n by omega, show (z + (m : Int) - z).toNat = m by omega, show (z + (m : Int) + n - z).toNat = n + m by omega, Nat.pow_add]
    simp only [Nat.pow_zero, Nat.mul_one]
    constructor
    · intro q
      exact Nat.mul_le_mul_right _ q
    · intro q
      exact Nat.le_of_mul_le_mul_right q (Nat.two_pow_pos m)
theorem vle_0 (e k : Int) : vle 0 e k := by unfold vle; rw [Nat.zero_mul]; exact Nat.zero_le _
theorem vle_up {A : Nat} {e k k' : Int} (h : vle A e k) (hk : k ≤ k') : vle A e k' := by
  rw [vle_iff (min e k) (by omega) (by omega)] at h
  rw [vle_iff (min e k) (by omega) (by omega)]
  exact Nat.le_trans h (Nat.pow_le_pow_right (by decide) (by omega))
/-- a rounding is at most 2^k where the exact value is -/
theorem rr_le {f : FP.Core.Fmt} (hf : FP.Core.Good f) (s : Bool) {A : Nat} {e k : Int} (h : vle A e k) (h1 : f.qmin ≤ k) (h2 : k ≤ f.emax) : ∃ c q, FP.Core.roundRatio f s A 1 e = .fin s c q ∧ vle c q k ∧ (A = 0 → c = 0) := by
  unfold FP.Core.roundRatio
  split
  · exact ⟨0, f.qmin, rfl, vle_0 _ _, fun _ => rfl⟩
  · rename_i hA0
    have hA : 0 < A := by omega
    have hl : FP.Core.leading A 1 + e ≤ k := by
      apply Classical.byContradiction
      intro hn
      refine (FP.Core.leading_spec hA (show 0 < 1 by decide)).1 (FP.Core.below_mono (a := k - e + 1) (by omega) ?_)
      have e1 : k - e + 1 = (((k - e).toNat + 1 : Nat) : Int) - ((e - k).toNat : Nat) := by omega
      rw [e1, FP.Core.below_iff, Nat.one_mul, Nat.pow_succ]
      unfold vle at h
      have := Nat.two_pow_pos (k - e).toNat
      omega
    have hp := hf.2
    have hqk : FP.Core.quantum f A 1 e ≤ k := by unfold FP.Core.quantum; omega
    have hqm : FP.Core.quantum f A 1 e ≤ f.qmax := by
      have g1 := FP.Core.qmax_qmin f
      have g2 := FP.Core.emax_pos hf
      have g3 : f.qmax = (f.emax : Int) - (f.p : Int) + 1 := rfl
      unfold FP.Core.quantum
      omega
    unfold FP.Core.roundAt
    have hm1 := FP.Core.nearest_units_le (f := f) hA (show 0 < 1 by decide) e
    generalize FP.Core.quantum f A 1 e = q at hqk hqm hm1 ⊢
    have hm2 : FP.Core.nearest (FP.Core.unitsNum A e q) (FP.Core.unitsDen 1 e q) ≤ 2 ^ (k - q).toNat := by
      refine FP.Core.nearest_le (FP.Core.unitsDen_pos (by decide) _ _) ?_
      unfold FP.Core.unitsNum FP.Core.unitsDen
      rw [Nat.one_mul, ← Nat.pow_add]
      rw [vle_iff (min e q) (by omega) (by omega)] at h
      rcases Int.le_total e q with hh | hh
      · rw [show min e q = e by omega] at h
        rw [show (e - e).toNat = 0 by omega] at h
        rw [show (e - q).toNat = 0 by omega, show (k - q).toNat + (q - e).toNat = (k - e).toNat by omega]
        exact h
      · rw [show min e q = q by omega] at h
        rw [show (q - e).toNat = 0 by omega, Nat.add_zero]
        exact h
    generalize FP.Core.nearest (FP.Core.unitsNum A e q) (FP.Core.unitsDen 1 e q) = mm at hm1 hm2 ⊢
    unfold FP.Core.settle
    split
    · unfold FP.Core.bound
      rw [if_pos hqm]
      refine ⟨mm, q, rfl, (vle_iff q (Int.le_refl _) hqk).mpr ?_, fun h => absurd h hA0⟩
      rw [Int.sub_self]
      simpa using hm2
    · rename_i hlt
      have hmm : mm = 2 ^ f.p := by omega
      have hpk : f.p ≤ (k - q).toNat := by
        rw [hmm] at hm2
        exact (Nat.pow_le_pow_iff_right (by decide)).mp hm2
      have g3 : f.qmax = (f.emax : Int) - (f.p : Int) + 1 := rfl
      unfold FP.Core.bound
      rw [if_pos (by omega)]
      refine ⟨f.tails, q + 1, rfl, (vle_iff q (by omega) hqk).mpr ?_, fun h => absurd h hA0⟩
      rw [show (q + 1 - q).toNat = 1 by omega, Nat.pow_one, Nat.mul_comm, ← FP.Core.two_tails hf, ← hmm]
      exact hm2
theorem sum_le {s t : Bool} {c d : Nat} {q r k : Int} (h1 : vle c q k) (h2 : vle d r k) : vle (FP.Core.sumUnits s c q t d r (min q r)).natAbs (min q r) (k + 1) := by
  rw [vle_iff (min (min q r) k) (by omega) (by omega)] at h1 h2
  rw [vle_iff (min (min q r) k) (by omega) (by omega)]
  have hn : (FP.Core.sumUnits s c q t d r (min q r)).natAbs ≤ c * 2 ^ (q - min q r).toNat + d * 2 ^ (r - min q r).toNat := by
    unfold FP.Core.sumUnits
    refine Nat.le_trans (Int.natAbs_add_le _ _) ?_
    rw [FP.Core.natAbs_signed, FP.Core.natAbs_signed]
    exact Nat.le_refl _
  generalize (FP.Core.sumUnits s c q t d r (min q r)).natAbs = n at hn ⊢
  have e1 : (q - min (min q r) k).toNat = (q - min q r).toNat + (min q r - min (min q r) k).toNat := by omega
  have e2 : (r - min (min q r) k).toNat = (r - min q r).toNat + (min q r - min (min q r) k).toNat := by omega
  have e3 : (k + 1 - min (min q r) k).toNat = (k - min (min q r) k).toNat + 1 := by omega
  rw [e1, Nat.pow_add, ← Nat.mul_assoc] at h1
  rw [e2, Nat.pow_add, ← Nat.mul_assoc] at h2
  rw [e3, Nat.pow_succ]
  have := Nat.mul_le_mul_right (2 ^ (min q r - min (min q r) k).toNat) hn
  rw [Nat.add_mul] at this
  omega
theorem vle_scale {c n : Nat} {q m k : Int} (h : vle c q (k + m - n)) : vle (c * 2 ^ n) (q - m) k := by
  rw [vle_iff (min (q - m) k - n) (by omega) (by omega)]
  rw [vle_iff (min (q - m) k - n + m - n) (by omega) (by omega)] at h
  have e1 : (q - (min (q - m) k - n + m - n)).toNat = n + (q - m - (min (q - m) k - n)).toNat := by omega
  have e2 : (k + m - n - (min (q - m) k - n + m - n)).toNat = (k - (min (q - m) k - n)).toNat := by omega
  rw [e1, e2, Nat.pow_add, ← Nat.mul_assoc] at h
  exact h
/-- finite, and at most 2^k -/
def fpD (k : Nat) (x : UInt64) : Prop := ∃ (s : Bool) (c : Nat) (q : Int), FP.Core.val64 x = .fin s c q ∧ vle c q k
def fpS (k : Nat) (x : UInt32) : Prop := ∃ (s : Bool) (c : Nat) (q : Int), FP.Core.val32 x = .fin s c q ∧ vle c q k
theorem fpD_up {k k' : Nat} {x : UInt64} (h : fpD k x) (hk : k ≤ k') : fpD k' x := by
  obtain ⟨s, c, q, h1, h2⟩ := h
  exact ⟨s, c, q, h1, vle_up h2 (by omega)⟩
theorem fpS_up {k k' : Nat} {x : UInt32} (h : fpS k x) (hk : k ≤ k') : fpS k' x := by
  obtain ⟨s, c, q, h1, h2⟩ := h
  exact ⟨s, c, q, h1, vle_up h2 (by omega)⟩
theorem fp_n64 {x : UInt64} (h : FP.Core.val64 x ≠ .nan) : vf_n64 x := by
  unfold vf_n64
  apply Classical.byContradiction
  intro hn
  apply h
  have hx := x.toNat_lt
  have e : (x &&& 0x7fffffffffffffff).toNat = x.toNat % 2 ^ 63 := by
    rw [UInt64.toNat_and]
    exact Nat.and_two_pow_sub_one_eq_mod x.toNat 63
  have hn2 : 0x7ff0000000000000 < x.toNat % 2 ^ 63 := by
    rw [← e]
    exact UInt64.lt_iff_toNat_lt.mp (UInt64.not_le.mp hn)
  unfold FP.Core.val64 FP.Core.decode
  have t : FP.Core.b64.tails = 2 ^ 52 := rfl
  have ex : FP.Core.b64.exps = 2 ^ 11 := rfl
  have hE : FP.Core.fieldE FP.Core.b64 x.toNat = FP.Core.b64.exps - 1 := by
    unfold FP.Core.fieldE
    rw [t, ex]
    omega
  have hT : FP.Core.fieldT FP.Core.b64 x.toNat ≠ 0 := by
    unfold FP.Core.fieldT
    rw [t]
    omega
  rw [if_pos hE, if_neg hT]
theorem fp_n32 {x : UInt32} (h : FP.Core.val32 x ≠ .nan) : vf_n32 x := by
  unfold vf_n32
  apply Classical.byContradiction
  intro hn
  apply h
  have hx := x.toNat_lt
  have e : (x &&& 0x7fffffff).toNat = x.toNat % 2 ^ 31 := by
    rw [UInt32.toNat_and]
    exact Nat.and_two_pow_sub_one_eq_mod x.toNat 31
  have hn2 : 0x7f800000 < x.toNat % 2 ^ 31 := by
    rw [← e]
    exact UInt32.lt_iff_toNat_lt.mp (UInt32.not_le.mp hn)
  unfold FP.Core.val32 FP.Core.decode
  have t : FP.Core.b32.tails = 2 ^ 23 := rfl
  have ex : FP.Core.b32.exps = 2 ^ 8 := rfl
  have hE : FP.Core.fieldE FP.Core.b32 x.toNat = FP.Core.b32.exps - 1 := by
    unfold FP.Core.fieldE
    rw [t, ex]
    omega
  have hT : FP.Core.fieldT FP.Core.b32 x.toNat ≠ 0 := by
    unfold FP.Core.fieldT
    rw [t]
    omega
  rw [if_pos hE, if_neg hT]
theorem fpD_nn {k : Nat} {x : UInt64} (h : fpD k x) : FP.Core.val64 x ≠ .nan := by
  obtain ⟨s, c, q, h1, -⟩ := h
  rw [h1]
  exact fun h => by cases h
theorem fpS_nn {k : Nat} {x : UInt32} (h : fpS k x) : FP.Core.val32 x ≠ .nan := by
  obtain ⟨s, c, q, h1, -⟩ := h
  rw [h1]
  exact fun h => by cases h
theorem fpD_n {k : Nat} {x : UInt64} (h : fpD k x) : vf_n64 x := fp_n64 (fpD_nn h)
theorem fpS_n {k : Nat} {x : UInt32} (h : fpS k x) : vf_n32 x := fp_n32 (fpS_nn h)
theorem b64_qmin : FP.Core.b64.qmin = -1074 := by decide
theorem b32_qmin : FP.Core.b32.qmin = -149 := by decide
theorem b64_emax : FP.Core.b64.emax = 1023 := by decide
theorem b32_emax : FP.Core.b32.emax = 127 := by decide
theorem round_le {f : FP.Core.Fmt} (hf : FP.Core.Good f) {s : Bool} {c : Nat} {q k : Int} (h : vle c q k) (h1 : f.qmin ≤ k) (h2 : k ≤ f.emax) : ∃ c' q', FP.Core.round f (.fin s c q) = .fin s c' q' ∧ vle c' q' k := by
  obtain ⟨c', q', e, hv, -⟩ := rr_le hf s h h1 h2
  exact ⟨c', q', e, hv⟩
theorem fpD_dadd {k : Nat} {x y : UInt64} (hx : fpD k x) (hy : fpD k y) (hk : k + 1 ≤ 1023) : fpD (k + 1) (FP.dadd x y) := by
  obtain ⟨s, c, q, h1, h2⟩ := hx
  obtain ⟨t, d, r, h3, h4⟩ := hy
  obtain ⟨c', q', e, hv⟩ := round_le (f := FP.Core.b64) FP.Core.good_b64 (s := FP.Core.sumSign s t (FP.Core.sumUnits s c q t d r (min q r))) (sum_le (s := s) (t := t) h2 h4) (by rw [b64_qmin]; omega) (by rw [b64_emax]; omega)
  have e2 := FP.Core.val64_dadd x y
  rw [h1, h3] at e2
  exact ⟨_, c', q', e2.trans e, by exact_mod_cast hv⟩
theorem fpD_dsub {k : Nat} {x y : UInt64} (hx : fpD k x) (hy : fpD k y) (hk : k + 1 ≤ 1023) : fpD (k + 1) (FP.dsub x y) := by
  obtain ⟨s, c, q, h1, h2⟩ := hx
  obtain ⟨t, d, r, h3, h4⟩ := hy
  obtain ⟨c', q', e, hv⟩ := round_le (f := FP.Core.b64) FP.Core.good_b64 (s := FP.Core.sumSign s (!t) (FP.Core.sumUnits s c q (!t) d r (min q r))) (sum_le (s := s) (t := !t) h2 h4) (by rw [b64_qmin]; omega) (by rw [b64_emax]; omega)
  have e2 := FP.Core.val64_dsub x y
  rw [h1, h3] at e2
  exact ⟨_, c', q', e2.trans e, by exact_mod_cast hv⟩
theorem fpS_fadd {k : Nat} {x y : UInt32} (hx : fpS k x) (hy : fpS k y) (hk : k + 1 ≤ 127) : fpS (k + 1) (FP.fadd x y) := by
  obtain ⟨s, c, q, h1, h2⟩ := hx
  obtain ⟨t, d, r, h3, h4⟩ := hy
  obtain ⟨c', q', e, hv⟩ := round_le (f := FP.Core.b32) FP.Core.good_b32 (s := FP.Core.sumSign s t (FP.Core.sumUnits s c q t d r (min q r))) (sum_le (s := s) (t := t) h2 h4) (by rw [b32_qmin]; omega) (by rw [b32_emax]; omega)
  have e2 := FP.Core.val32_fadd x y
  rw [h1, h3] at e2
  exact ⟨_, c', q', e2.trans e, by exact_mod_cast hv⟩
/-- times a power of two: 2^n * 2^(-m) -/
theorem fpD_dmul {k : Nat} {x p : UInt64} {n : Nat} {m : Int} (hx : fpD (k + (m - n).toNat) x) (hm : n ≤ m) (hp : FP.Core.val64 p = .fin false (2 ^ n) (-m)) (hk : k ≤ 1023) : fpD k (FP.dmul x p) := by
  obtain ⟨s, c, q, h1, h2⟩ := hx
  have hv : vle (c * 2 ^ n) (q - m) k := vle_scale (by rw [show (k : Int) + m - n = ((k + (m - n).toNat : Nat) : Int) by omega]; exact h2)
  obtain ⟨c', q', e, hv'⟩ := round_le (f := FP.Core.b64) FP.Core.good_b64 (s := (s != false)) hv (by rw [b64_qmin]; omega) (by rw [b64_emax]; omega)
  have e2 := FP.Core.val64_dmul x p
  rw [h1, hp] at e2
  exact ⟨_, c', q', e2.trans e, by exact_mod_cast hv'⟩
theorem fpS_fmul {k : Nat} {x p : UInt32} {n : Nat} {m : Int} (hx : fpS (k + (m - n).toNat) x) (hm : n ≤ m) (hp : FP.Core.val32 p = .fin false (2 ^ n) (-m)) (hk : k ≤ 127) : fpS k (FP.fmul x p) := by
  obtain ⟨s, c, q, h1, h2⟩ := hx
  have hv : vle (c * 2 ^ n) (q - m) k := vle_scale (by rw [show (k : Int) + m - n = ((k + (m - n).toNat : Nat) : Int) by omega]; exact h2)
  obtain ⟨c', q', e, hv'⟩ := round_le (f := FP.Core.b32) FP.Core.good_b32 (s := (s != false)) hv (by rw [b32_qmin]; omega) (by rw [b32_emax]; omega)
  have e2 := FP.Core.val32_fmul x p
  rw [h1, hp] at e2
  exact ⟨_, c', q', e2.trans e, by exact_mod_cast hv'⟩
theorem ofInt_le {i : Int} {k : Nat} (h : i.natAbs ≤ 2 ^ k) : vle i.natAbs 0 k := by
  rw [vle_iff 0 (Int.le_refl _) (by omega)]
  simpa using h
theorem fpD_l2d (a : Int64) : fpD 63 (FP.l2d a) := by
  have hb : a.toInt.natAbs ≤ 2 ^ 63 := by
    have h1 := a.le_toInt
    have h2 := a.toInt_lt
    omega
  obtain ⟨c', q', e, hv⟩ := round_le (f := FP.Core.b64) FP.Core.good_b64 (s := decide (a.toInt < 0)) (ofInt_le hb) (by rw [b64_qmin]; omega) (by rw [b64_emax]; omega)
  exact ⟨_, c', q', by rw [show FP.l2d a = FP.Core.l2d a from rfl, FP.Core.val64_l2d]; exact e, hv⟩
theorem fpS_l2f (a : Int64) : fpS 63 (FP.l2f a) := by
  have hb : a.toInt.natAbs ≤ 2 ^ 63 := by
    have h1 := a.le_toInt
    have h2 := a.toInt_lt
    omega
  obtain ⟨c', q', e, hv⟩ := round_le (f := FP.Core.b32) FP.Core.good_b32 (s := decide (a.toInt < 0)) (ofInt_le hb) (by rw [b32_qmin]; omega) (by rw [b32_emax]; omega)
  exact ⟨_, c', q', by rw [show FP.l2f a = FP.Core.l2f a from rfl, FP.Core.val32_l2f]; exact e, hv⟩
theorem fpD_i2d (a : Int32) : fpD 31 (FP.i2d a) := by
  have hb : a.toInt.natAbs ≤ 2 ^ 31 := by
    have h1 := a.le_toInt
    have h2 := a.toInt_lt
    omega
  obtain ⟨c', q', e, hv⟩ := round_le (f := FP.Core.b64) FP.Core.good_b64 (s := decide (a.toInt < 0)) (ofInt_le hb) (by rw [b64_qmin]; omega) (by rw [b64_emax]; omega)
  exact ⟨_, c', q', by rw [show FP.i2d a = FP.Core.i2d a from rfl, FP.Core.val64_i2d]; exact e, hv⟩
theorem fpS_i2f (a : Int32) : fpS 31 (FP.i2f a) := by
  have hb : a.toInt.natAbs ≤ 2 ^ 31 := by
    have h1 := a.le_toInt
    have h2 := a.toInt_lt
    omega
  obtain ⟨c', q', e, hv⟩ := round_le (f := FP.Core.b32) FP.Core.good_b32 (s := decide (a.toInt < 0)) (ofInt_le hb) (by rw [b32_qmin]; omega) (by rw [b32_emax]; omega)
  exact ⟨_, c', q', by rw [show FP.i2f a = FP.Core.i2f a from rfl, FP.Core.val32_i2f]; exact e, hv⟩
theorem f2d_core {y : UInt32} (h : FP.Core.val32 y ≠ .nan) : FP.f2d y = FP.Core.f2d y := by
  unfold FP.f2d
  rw [if_neg]
  intro q
  exact h ((FP.Core.fIsNaN_iff y).mp q)
theorem d2f_core {x : UInt64} (h : FP.Core.val64 x ≠ .nan) : FP.d2f x = FP.Core.d2f x := by
  unfold FP.d2f
  rw [if_neg]
  intro q
  exact h ((FP.Core.dIsNaN_iff x).mp q)
theorem fpD_f2d {k : Nat} {y : UInt32} (hy : fpS k y) (hk : k ≤ 1023) : fpD k (FP.f2d y) := by
  rw [f2d_core (fpS_nn hy)]
  obtain ⟨s, c, q, h1, h2⟩ := hy
  obtain ⟨c', q', e, hv⟩ := round_le (f := FP.Core.b64) FP.Core.good_b64 (s := s) h2 (by rw [b64_qmin]; omega) (by rw [b64_emax]; omega)
  exact ⟨_, c', q', by rw [FP.Core.val64_f2d, h1]; exact e, hv⟩
theorem fpS_d2f {k : Nat} {x : UInt64} (hx : fpD k x) (hk : k ≤ 127) : fpS k (FP.d2f x) := by
  rw [d2f_core (fpD_nn hx)]
  obtain ⟨s, c, q, h1, h2⟩ := hx
  obtain ⟨c', q', e, hv⟩ := round_le (f := FP.Core.b32) FP.Core.good_b32 (s := s) h2 (by rw [b32_qmin]; omega) (by rw [b32_emax]; omega)
  exact ⟨_, c', q', by rw [FP.Core.val32_d2f, h1]; exact e, hv⟩
