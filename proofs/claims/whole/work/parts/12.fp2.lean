/-! Floats: never -0.0, and the numbers that cells hold -/
/-- A * 2^e is at least 2^k -/
def vge (A : Nat) (e k : Int) : Prop := 2 ^ (k - e).toNat ≤ A * 2 ^ (e - k).toNat
theorem vge_iff {A : Nat} {e k : Int} (z : Int) (h1 : z ≤ e) (h2 : z ≤ k) : vge A e k ↔ 2 ^ (k - z).toNat ≤ A * 2 ^ (e - z).toNat := by
  unfold vge
  rcases Int.le_total k e with h | h
  · obtain ⟨n, hn⟩ : ∃ n : Nat, e = k + n := ⟨(e - k).toNat, by omega⟩
    obtain ⟨m, hm⟩ : ∃ m : Nat, k = z + m := ⟨(k - z).toNat, by omega⟩
    subst hn
    subst hm
    rw [show (z + (m : Int) + n - (z + m)).toNat = n by omega, show (z + (m : Int) - (z + m + n)).toNat = 0 by omega, show (z + (m : Int) + n - z).toNat = n + m by omega, show (z + (m : Int) - z).toNat = m by omega, Nat.pow_add, ← Nat.mul_assoc]
    constructor
    · intro q
      calc 2 ^ m = 2 ^ 0 * 2 ^ m := by simp
        _ ≤ A * 2 ^ n * 2 ^ m := Nat.mul_le_mul_right _ q
    · intro q
      exact Nat.le_of_mul_le_mul_right (by simpa using q) (Nat.two_pow_pos m)
  · obtain ⟨n, hn⟩ : ∃ n : Nat, k = e + n := ⟨(k - e).toNat, by omega⟩
    obtain ⟨m, hm⟩ : ∃ m : Nat, e = z + m := ⟨(e - z).toNat, by omega⟩
    subst hn
    subst hm
    rw [show (z + (m : Int) - (z + m + n)).toNat = 0 by omega, show (z + (m : Int) + n - (z + m)).toNat = n by omega, show (z + (m : Int) - z).toNat = m by omega, show (z + (m : Int) + n - z).toNat = n + m by omega, Nat.pow_add]
    simp only [Nat.pow_zero, Nat.mul_one]
    constructor
    · intro q
      exact Nat.mul_le_mul_right _ q
    · intro q
      exact Nat.le_of_mul_le_mul_right q (Nat.two_pow_pos m)
theorem vge_pos {A : Nat} {e k : Int} (h : vge A e k) : 0 < A := by
  unfold vge at h
  have := Nat.two_pow_pos (k - e).toNat
  rcases Nat.eq_zero_or_pos A with q | q
  · subst q
    rw [Nat.zero_mul] at h
    omega
  · exact q
theorem vge_of {A : Nat} {e k : Int} (hA : 0 < A) (h : k ≤ e) : vge A e k := by
  unfold vge
  rw [show (k - e).toNat = 0 by omega]
  exact Nat.mul_pos hA (Nat.two_pow_pos _)
theorem vge_scale {c n : Nat} {q m k : Int} (h : vge c q (k + m - n)) : vge (c * 2 ^ n) (q - m) k := by
  rw [vge_iff (min (q - m) k - n) (by omega) (by omega)]
  rw [vge_iff (min (q - m) k - n + m - n) (by omega) (by omega)] at h
  have e1 : (q - (min (q - m) k - n + m - n)).toNat = n + (q - m - (min (q - m) k - n)).toNat := by omega
  have e2 : (k + m - n - (min (q - m) k - n + m - n)).toNat = (k - (min (q - m) k - n)).toNat := by omega
  rw [e1, e2, Nat.pow_add, ← Nat.mul_assoc] at h
  exact h
theorem rr_ge {f : FP.Core.Fmt} (hf : FP.Core.Good f) {s t : Bool} {A c : Nat} {e k q : Int} (h : vge A e k) (h1 : f.qmin ≤ k) (hr : FP.Core.roundRatio f s A 1 e = .fin t c q) : t = s ∧ vge c q k := by
  have hA := vge_pos h
  unfold FP.Core.roundRatio at hr
  rw [if_neg (by omega)] at hr
  unfold FP.Core.roundAt at hr
  have hm1 := FP.Core.nearest_units_le (f := f) hA (show 0 < 1 by decide) e
  have hnb := FP.Core.quantum_not_below (f := f) hA (show 0 < 1 by decide) e
  generalize FP.Core.quantum f A 1 e = q0 at hr hm1 hnb
  have hp := hf.2
  have key : vge (FP.Core.nearest (FP.Core.unitsNum A e q0) (FP.Core.unitsDen 1 e q0)) q0 k := by
    rcases Int.le_total q0 k with hqk | hqk
    · rw [vge_iff q0 (Int.le_refl _) hqk, Int.sub_self]
      simp only [Int.toNat_zero, Nat.pow_zero, Nat.mul_one]
      refine FP.Core.nearest_ge (FP.Core.unitsDen_pos (by decide) _ _) ?_
      unfold FP.Core.unitsNum FP.Core.unitsDen
      rw [Nat.one_mul, ← Nat.pow_add]
      rw [vge_iff (min e q0) (by omega) (by omega)] at h
      rcases Int.le_total e q0 with hh | hh
      · rw [show min e q0 = e by omega, show (e - e).toNat = 0 by omega] at h
        rw [show (e - q0).toNat = 0 by omega, show (k - q0).toNat + (q0 - e).toNat = (k - e).toNat by omega]
        exact h
      · rw [show min e q0 = q0 by omega] at h
        rw [show (q0 - e).toNat = 0 by omega, Nat.add_zero]
        exact h
    · rcases hnb with hb | hb
      · have : q0 = k := by omega
        subst this
        rw [vge_iff q0 (Int.le_refl _) (Int.le_refl _), Int.sub_self]
        simp only [Int.toNat_zero, Nat.pow_zero, Nat.mul_one]
        refine FP.Core.nearest_ge (FP.Core.unitsDen_pos (by decide) _ _) ?_
        unfold FP.Core.unitsNum FP.Core.unitsDen
        unfold vge at h
        rw [Nat.one_mul, Nat.one_mul]
        exact h
      · rw [show (f.p : Int) - 1 = ((f.p - 1 : Nat) : Int) by omega, ← FP.Core.units_below] at hb
        have := FP.Core.nearest_ge (FP.Core.unitsDen_pos (show 0 < 1 by decide) e q0) (Nat.le_of_not_lt hb)
        exact vge_of (Nat.lt_of_lt_of_le (Nat.two_pow_pos _) this) hqk
  generalize FP.Core.nearest (FP.Core.unitsNum A e q0) (FP.Core.unitsDen 1 e q0) = mm at hr key hm1
  unfold FP.Core.settle at hr
  split at hr
  · unfold FP.Core.bound at hr
    split at hr
    · cases hr
      exact ⟨rfl, key⟩
    · cases hr
  · have hmm : mm = 2 ^ f.p := by omega
    unfold FP.Core.bound at hr
    split at hr
    · cases hr
      refine ⟨rfl, ?_⟩
      rw [vge_iff (min q0 k) (by omega) (by omega)] at key ⊢
      rw [show (q0 + 1 - min q0 k).toNat = 1 + (q0 - min q0 k).toNat by omega, Nat.pow_add, Nat.pow_one, ← Nat.mul_assoc, Nat.mul_comm f.tails 2, ← FP.Core.two_tails hf, ← hmm]
      exact key
    · cases hr
theorem nz64 {x : UInt64} {s : Bool} {c : Nat} {q : Int} (h : FP.Core.val64 x = .fin s c q) (hz : c = 0 → s = false) : x ≠ FP.Core.dzeroNeg := by
  intro e
  rw [e, FP.Core.val64_dzeroNeg] at h
  cases h
  exact absurd (hz rfl) (by decide)
theorem nz64' {x : UInt64} {s : Bool} {c : Nat} {q : Int} (hx : x ≠ FP.Core.dzeroNeg) (h : FP.Core.val64 x = .fin s c q) (hc : c = 0) : s = false := by
  subst hc
  cases s with
  | false => rfl
  | true =>
    exfalso
    have hf := FP.Core.val64_fits x
    rw [h] at hf
    have hq := FP.Core.fits_zero_q FP.Core.good_b64 hf
    subst hq
    exact hx (FP.Core.val64_inj (by rw [h]; exact fun q => by cases q) (h.trans FP.Core.val64_dzeroNeg.symm))
theorem nz32 {x : UInt32} {s : Bool} {c : Nat} {q : Int} (h : FP.Core.val32 x = .fin s c q) (hz : c = 0 → s = false) : x ≠ FP.Core.fzeroNeg := by
  intro e
  rw [e, FP.Core.val32_fzeroNeg] at h
  cases h
  exact absurd (hz rfl) (by decide)
theorem nz32' {x : UInt32} {s : Bool} {c : Nat} {q : Int} (hx : x ≠ FP.Core.fzeroNeg) (h : FP.Core.val32 x = .fin s c q) (hc : c = 0) : s = false := by
  subst hc
  cases s with
  | false => rfl
  | true =>
    exfalso
    have hf := FP.Core.val32_fits x
    rw [h] at hf
    have hq := FP.Core.fits_zero_q FP.Core.good_b32 hf
    subst hq
    exact hx (FP.Core.val32_inj (by rw [h]; exact fun q => by cases q) (h.trans FP.Core.val32_fzeroNeg.symm))
/-- a sum is no -0 unless both are -/
theorem sum_nz {f : FP.Core.Fmt} (hf : FP.Core.Good f) {s t s' : Bool} {c d c' : Nat} {q r q' : Int} (hq : f.qmin ≤ q) (hr : f.qmin ≤ r) (hz : (c = 0 → s = false) ∨ (d = 0 → t = false)) (h : FP.Core.round f (FP.Core.exactSum (.fin s c q) (.fin t d r)) = .fin s' c' q') : c' = 0 → s' = false := by
  intro hc'
  have h2 : FP.Core.roundRatio f (FP.Core.sumSign s t (FP.Core.sumUnits s c q t d r (min q r))) (FP.Core.sumUnits s c q t d r (min q r)).natAbs 1 (min q r) = .fin s' c' q' := h
  by_cases hv : FP.Core.sumUnits s c q t d r (min q r) = 0
  · rw [hv] at h2
    unfold FP.Core.roundRatio at h2
    rw [if_pos (by rfl)] at h2
    have e1 : FP.Core.sumSign s t 0 = s' := by
      injection h2
    unfold FP.Core.sumSign at e1
    rw [if_pos rfl] at e1
    rw [← e1]
    cases s with
    | false => rfl
    | true =>
      cases t with
      | false => rfl
      | true =>
        exfalso
        unfold FP.Core.sumUnits FP.Core.signed FP.Core.inUnits at hv
        simp only [if_true] at hv
        have p1 : 0 < 2 ^ (q - min q r).toNat := Nat.two_pow_pos _
        have p2 : 0 < 2 ^ (r - min q r).toNat := Nat.two_pow_pos _
        have z1 : c * 2 ^ (q - min q r).toNat = 0 := by omega
        have z2 : d * 2 ^ (r - min q r).toNat = 0 := by omega
        have y1 : c = 0 := (Nat.mul_eq_zero.mp z1).resolve_right (by omega)
        have y2 : d = 0 := (Nat.mul_eq_zero.mp z2).resolve_right (by omega)
        rcases hz with hz | hz
        · exact absurd (hz y1) (by decide)
        · exact absurd (hz y2) (by decide)
  · exfalso
    have hn : 0 < (FP.Core.sumUnits s c q t d r (min q r)).natAbs := by omega
    have hg := (rr_ge hf (vge_of hn (show f.qmin ≤ min q r by omega)) (Int.le_refl _) h2).2
    have := vge_pos hg
    omega
theorem fits_q {f : FP.Core.Fmt} {s : Bool} {c : Nat} {q : Int} (h : FP.Core.fits f (.fin s c q)) : f.qmin ≤ q := h.2.1
theorem v64q {x : UInt64} {s : Bool} {c : Nat} {q : Int} (h : FP.Core.val64 x = .fin s c q) : FP.Core.b64.qmin ≤ q := by
  have := FP.Core.val64_fits x
  rw [h] at this
  exact fits_q this
theorem v32q {x : UInt32} {s : Bool} {c : Nat} {q : Int} (h : FP.Core.val32 x = .fin s c q) : FP.Core.b32.qmin ≤ q := by
  have := FP.Core.val32_fits x
  rw [h] at this
  exact fits_q this
theorem nz_dadd {k : Nat} {x y : UInt64} (hx : fpD k x) (hy : fpD k y) (hk : k + 1 ≤ 1023) (hz : x ≠ FP.Core.dzeroNeg ∨ y ≠ FP.Core.dzeroNeg) : FP.dadd x y ≠ FP.Core.dzeroNeg := by
  obtain ⟨s', c', q', h', -⟩ := fpD_dadd hx hy hk
  obtain ⟨s, c, q, h1, -⟩ := hx
  obtain ⟨t, d, r, h3, -⟩ := hy
  have e2 := FP.Core.val64_dadd x y
  rw [h1, h3] at e2
  have h'' : FP.Core.val64 (FP.Core.dadd x y) = .fin s' c' q' := h'
  refine nz64 h' (sum_nz FP.Core.good_b64 (v64q h1) (v64q h3) ?_ (e2.symm.trans h''))
  rcases hz with hz | hz
  · exact Or.inl (nz64' hz h1)
  · exact Or.inr (nz64' hz h3)
theorem nz_fadd {k : Nat} {x y : UInt32} (hx : fpS k x) (hy : fpS k y) (hk : k + 1 ≤ 127) (hz : x ≠ FP.Core.fzeroNeg ∨ y ≠ FP.Core.fzeroNeg) : FP.fadd x y ≠ FP.Core.fzeroNeg := by
  obtain ⟨s', c', q', h', -⟩ := fpS_fadd hx hy hk
  obtain ⟨s, c, q, h1, -⟩ := hx
  obtain ⟨t, d, r, h3, -⟩ := hy
  have e2 := FP.Core.val32_fadd x y
  rw [h1, h3] at e2
  have h'' : FP.Core.val32 (FP.Core.fadd x y) = .fin s' c' q' := h'
  refine nz32 h' (sum_nz FP.Core.good_b32 (v32q h1) (v32q h3) ?_ (e2.symm.trans h''))
  rcases hz with hz | hz
  · exact Or.inl (nz32' hz h1)
  · exact Or.inr (nz32' hz h3)
theorem ofInt_nz {f : FP.Core.Fmt} (hf : FP.Core.Good f) (h0 : f.qmin ≤ 0) {i : Int} {s : Bool} {c : Nat} {q : Int} (h : FP.Core.round f (FP.Core.ofInt i) = .fin s c q) : (c = 0 → s = false) ∧ (i ≠ 0 → vge c q 0) ∧ (i = 0 → c = 0 ∧ s = false) := by
  have h2 : FP.Core.roundRatio f (decide (i < 0)) i.natAbs 1 0 = .fin s c q := h
  by_cases hi : i = 0
  · subst hi
    unfold FP.Core.roundRatio at h2
    rw [if_pos (by decide)] at h2
    cases h2
    exact ⟨fun _ => rfl, fun h => absurd rfl h, fun _ => ⟨rfl, rfl⟩⟩
  · have hg := (rr_ge hf (vge_of (show 0 < i.natAbs by omega) (Int.le_refl 0)) h0 h2).2
    refine ⟨fun hc => ?_, fun _ => hg, fun h => absurd h hi⟩
    have := vge_pos hg
    omega
/-- what a double cell holds -/
def okD (x : UInt64) : Prop := fpD 63 x ∧ x ≠ FP.Core.dzeroNeg
def okS (y : UInt32) : Prop := fpS 63 y ∧ y ≠ FP.Core.fzeroNeg
/-- what a float cell holds -/
def okF (x : UInt64) : Prop := ∃ y : UInt32, x = FP.f2d y ∧ okS y
theorem okS_f2d {y : UInt32} (h : okS y) : okD (FP.f2d y) := by
  refine ⟨fpD_f2d h.1 (by decide), ?_⟩
  obtain ⟨s', c', q', h', -⟩ := fpD_f2d h.1 (show 63 ≤ 1023 by decide)
  rw [f2d_core (fpS_nn h.1)] at h' ⊢
  obtain ⟨s, c, q, h1, -⟩ := h.1
  have e := FP.Core.val64_f2d y
  rw [h1] at e
  have h2 : FP.Core.roundRatio FP.Core.b64 s c 1 q = .fin s' c' q' := e.symm.trans h'
  refine nz64 h' (fun hc => ?_)
  by_cases h0 : c = 0
  · subst h0
    unfold FP.Core.roundRatio at h2
    rw [if_pos rfl] at h2
    cases h2
    exact nz32' h.2 h1 rfl
  · have hg := (rr_ge FP.Core.good_b64 (vge_of (show 0 < c by omega) (v32q h1)) (by decide) h2).2
    have := vge_pos hg
    omega
theorem okF_okD {x : UInt64} (h : okF x) : okD x := by
  obtain ⟨y, rfl, hy⟩ := h
  exact okS_f2d hy
theorem d2f_f2d {y : UInt32} (h : okS y) : FP.d2f (FP.f2d y) = y := by
  rw [d2f_core (fpD_nn (okS_f2d h).1), f2d_core (fpS_nn h.1)]
  exact FP.Core.d2f_f2d (fpS_nn h.1)
theorem okF_d2f {x : UInt64} (h : okF x) : okS (FP.d2f x) := by
  obtain ⟨y, rfl, hy⟩ := h
  rw [d2f_f2d hy]
  exact hy
theorem okS_l2f (a : Int64) : okS (FP.l2f a) := by
  refine ⟨fpS_l2f a, ?_⟩
  obtain ⟨s, c, q, h, -⟩ := fpS_l2f a
  have e := FP.Core.val32_l2f a
  exact nz32 h (ofInt_nz FP.Core.good_b32 (by decide) (e.symm.trans h)).1
theorem okD_l2d (a : Int64) : okD (FP.l2d a) := by
  refine ⟨fpD_l2d a, ?_⟩
  obtain ⟨s, c, q, h, -⟩ := fpD_l2d a
  have e := FP.Core.val64_l2d a
  exact nz64 h (ofInt_nz FP.Core.good_b64 (by decide) (e.symm.trans h)).1
theorem val64_eighth : FP.Core.val64 4593671619917905920 = .fin false (2 ^ 52) (-55) := by decide +kernel
theorem val32_eighth : FP.Core.val32 1040187392 = .fin false (2 ^ 23) (-26) := by decide +kernel
theorem val64_half : FP.Core.val64 4602678819172646912 = .fin false (2 ^ 52) (-53) := by decide +kernel
theorem val32_half : FP.Core.val32 1056964608 = .fin false (2 ^ 23) (-24) := by decide +kernel
/-- the value of an int as a double -/
theorem okD_val (v : Int32) : okD (FP.dmul (FP.i2d v) 4593671619917905920) := by
  have hk : fpD 31 (FP.dmul (FP.i2d v) 4593671619917905920) := fpD_dmul (n := 52) (m := 55) (fpD_up (fpD_i2d v) (by decide)) (by decide) val64_eighth (by decide)
  refine ⟨fpD_up hk (by decide), ?_⟩
  obtain ⟨s', c', q', h', -⟩ := hk
  obtain ⟨s, c, q, h, -⟩ := fpD_i2d v
  have e1 := ofInt_nz FP.Core.good_b64 (by decide) ((FP.Core.val64_i2d v).symm.trans h)
  have e := FP.Core.val64_dmul (FP.i2d v) 4593671619917905920
  rw [h, val64_eighth] at e
  have h2 : FP.Core.roundRatio FP.Core.b64 (s != false) (c * 2 ^ 52) 1 (q + -55) = .fin s' c' q' := e.symm.trans h'
  refine nz64 h' (fun hc => ?_)
  by_cases hv : v.toInt = 0
  · obtain ⟨rfl, rfl⟩ := e1.2.2 hv
    unfold FP.Core.roundRatio at h2
    rw [if_pos rfl] at h2
    cases h2
    rfl
  · have hg := (rr_ge FP.Core.good_b64 (vge_scale (m := 55) (k := -3) (by simpa using e1.2.1 hv)) (by decide) h2).2
    have := vge_pos hg
    omega
theorem okS_val (v : Int32) : okS (FP.fmul (FP.i2f v) 1040187392) := by
  have hk : fpS 31 (FP.fmul (FP.i2f v) 1040187392) := fpS_fmul (n := 23) (m := 26) (fpS_up (fpS_i2f v) (by decide)) (by decide) val32_eighth (by decide)
  refine ⟨fpS_up hk (by decide), ?_⟩
  obtain ⟨s', c', q', h', -⟩ := hk
  obtain ⟨s, c, q, h, -⟩ := fpS_i2f v
  have e1 := ofInt_nz FP.Core.good_b32 (by decide) ((FP.Core.val32_i2f v).symm.trans h)
  have e := FP.Core.val32_fmul (FP.i2f v) 1040187392
  rw [h, val32_eighth] at e
  have h2 : FP.Core.roundRatio FP.Core.b32 (s != false) (c * 2 ^ 23) 1 (q + -26) = .fin s' c' q' := e.symm.trans h'
  refine nz32 h' (fun hc => ?_)
  by_cases hv : v.toInt = 0
  · obtain ⟨rfl, rfl⟩ := e1.2.2 hv
    unfold FP.Core.roundRatio at h2
    rw [if_pos rfl] at h2
    cases h2
    rfl
  · have hg := (rr_ge FP.Core.good_b32 (vge_scale (m := 26) (k := -3) (by simpa using e1.2.1 hv)) (by decide) h2).2
    have := vge_pos hg
    omega
theorem inc_vle {s : Bool} {c p1 : Nat} {q : Int} (hp : p1 ≤ 60) (hc : c < 2 ^ (p1 + 1)) (h : vle c q 63) (ht : s = true ∨ ¬ vge c q 63) : vle (FP.Core.sumUnits s c q false (2 ^ p1) (-(p1 : Int)) (min q (-(p1 : Int)))).natAbs (min q (-(p1 : Int))) 63 := by
  obtain ⟨e, he⟩ : ∃ e : Int, e = min q (-(p1 : Int)) := ⟨_, rfl⟩
  rw [← he]
  have hO : 2 ^ p1 * 2 ^ (-(p1 : Int) - e).toNat = 2 ^ (-e).toNat := by
    rw [← Nat.pow_add, show p1 + (-(p1 : Int) - e).toNat = (-e).toNat by omega]
  have hB : 2 ^ (63 - e).toNat = 2 ^ 63 * 2 ^ (-e).toNat := by
    rw [← Nat.pow_add, show 63 + (-e).toNat = (63 - e).toNat by omega]
  rw [vle_iff e (by omega) (by omega)] at h ⊢
  rw [vge_iff e (by omega) (by omega)] at ht
  rw [Int.sub_self, Int.toNat_zero, Nat.pow_zero, Nat.mul_one]
  unfold FP.Core.sumUnits FP.Core.inUnits
  rw [hO, hB]
  rw [hB] at h ht
  have hpos : 0 < 2 ^ (-e).toNat := Nat.two_pow_pos _
  have hbig : 2 ^ (-e).toNat ≤ 2 ^ 63 * 2 ^ (-e).toNat := Nat.le_mul_of_pos_left _ (by decide)
  cases s with
  | true =>
    unfold FP.Core.signed
    simp only [if_true, Bool.false_eq_true, if_false]
    omega
  | false =>
    unfold FP.Core.signed
    simp only [Bool.false_eq_true, if_false]
    have hlt : c * 2 ^ (q - e).toNat < 2 ^ 63 * 2 ^ (-e).toNat := by
      rcases ht with ht | ht
      · cases ht
      · omega
    have key : c * 2 ^ (q - e).toNat + 2 ^ (-e).toNat ≤ 2 ^ 63 * 2 ^ (-e).toNat := by
      rcases Int.lt_or_le q 0 with hq | hq
      · have h1 : c * 2 ^ (q - e).toNat ≤ 2 ^ (p1 + 1) * 2 ^ (-1 - e).toNat := Nat.mul_le_mul (Nat.le_of_lt hc) (Nat.pow_le_pow_right (by decide) (by omega))
        rw [← Nat.pow_add, show p1 + 1 + (-1 - e).toNat = p1 + (-e).toNat by omega, Nat.pow_add] at h1
        have h2 : 2 ^ p1 ≤ 2 ^ 60 := Nat.pow_le_pow_right (by decide) hp
        have h3 : 2 ^ p1 * 2 ^ (-e).toNat ≤ 2 ^ 60 * 2 ^ (-e).toNat := Nat.mul_le_mul_right _ h2
        omega
      · have e1 : c * 2 ^ (q - e).toNat = c * 2 ^ q.toNat * 2 ^ (-e).toNat := by
          rw [show (q - e).toNat = q.toNat + (-e).toNat by omega, Nat.pow_add, Nat.mul_assoc]
        rw [e1] at hlt ⊢
        have h2 : c * 2 ^ q.toNat < 2 ^ 63 := Nat.lt_of_mul_lt_mul_right hlt
        have h3 : (c * 2 ^ q.toNat + 1) * 2 ^ (-e).toNat ≤ 2 ^ 63 * 2 ^ (-e).toNat := Nat.mul_le_mul_right _ h2
        rw [Nat.add_mul, Nat.one_mul] at h3
        exact h3
    omega
theorem top_one {f : FP.Core.Fmt} {c : Nat} {q : Int} (hp : f.p ≤ 60 ∧ 2 ≤ f.p) (hqm : f.qmin < 0) (hfit : FP.Core.fits f (.fin false c q)) (h1 : vle c q 63) (h2 : vge c q 63) : c = f.tails ∧ q = 63 - ((f.p : Int) - 1) := by
  obtain ⟨hc, hq1, hq2, hcan⟩ := hfit
  obtain ⟨hp1, hp2⟩ := hp
  have ht : f.tails = 2 ^ (f.p - 1) := rfl
  have hc0 := vge_pos h2
  have hq63 : q ≤ 63 := by
    apply Classical.byContradiction
    intro hn
    unfold vle at h1
    rw [show (63 - q).toNat = 0 by omega, Nat.pow_zero] at h1
    have h3 : 2 ^ 1 ≤ 2 ^ (q - 63).toNat := Nat.pow_le_pow_right (by decide) (by omega)
    have h4 : 1 * 2 ^ (q - 63).toNat ≤ c * 2 ^ (q - 63).toNat := Nat.mul_le_mul_right _ hc0
    omega
  unfold vle at h1
  unfold vge at h2
  rw [show (q - 63).toNat = 0 by omega, Nat.pow_zero, Nat.mul_one] at h1 h2
  have hce : c = 2 ^ (63 - q).toNat := by omega
  have hlt : (63 - q).toNat < f.p := by
    rw [hce] at hc
    exact (Nat.pow_lt_pow_iff_right (by decide)).mp hc
  have hge : f.p - 1 ≤ (63 - q).toNat := by
    rcases hcan with hcan | hcan
    · omega
    · rw [ht, hce] at hcan
      exact (Nat.pow_le_pow_iff_right (by decide)).mp hcan
  have : (63 - q).toNat = f.p - 1 := by omega
  refine ⟨by rw [hce, this, ht], by omega⟩
theorem okD_inc {x : UInt64} (h : okD x) : okD (FP.dadd x FP.dconst1) := by
  have h1k : fpD 63 FP.dconst1 := ⟨_, _, _, FP.Core.val64_dconst1, by unfold vle; decide⟩
  refine ⟨?_, nz_dadd h.1 h1k (by decide) (Or.inl h.2)⟩
  obtain ⟨s, c, q, h1, h2⟩ := h.1
  have hfit := FP.Core.val64_fits x
  rw [h1] at hfit
  by_cases ht : s = true ∨ ¬ vge c q 63
  · have e2 := FP.Core.val64_dadd x FP.Core.dconst1
    rw [h1, FP.Core.val64_dconst1] at e2
    obtain ⟨c', q', e, hv⟩ := round_le (f := FP.Core.b64) FP.Core.good_b64 (s := FP.Core.sumSign s false (FP.Core.sumUnits s c q false (2 ^ 52) (-52) (min q (-52)))) (inc_vle (p1 := 52) (by decide) hfit.1 h2 ht) (by decide) (by decide)
    exact ⟨_, c', q', e2.trans e, hv⟩
  · have hs : s = false := by
      cases s with
      | false => rfl
      | true => exact absurd (Or.inl rfl) ht
    subst hs
    have hg : vge c q 63 := Classical.byContradiction fun hn => ht (Or.inr hn)
    obtain ⟨rfl, rfl⟩ := top_one (f := FP.Core.b64) (by decide) (by decide) hfit h2 hg
    have hx : x = 4890909195324358656 := FP.Core.val64_inj (by rw [h1]; exact fun q => by cases q) (h1.trans (by decide +kernel))
    subst hx
    have e : FP.dadd 4890909195324358656 FP.dconst1 = 4890909195324358656 := by decide +kernel
    rw [e]
    exact h.1
theorem okS_inc {x : UInt32} (h : okS x) : okS (FP.fadd x FP.fconst1) := by
  have h1k : fpS 63 FP.fconst1 := ⟨_, _, _, FP.Core.val32_fconst1, by unfold vle; decide⟩
  refine ⟨?_, nz_fadd h.1 h1k (by decide) (Or.inl h.2)⟩
  obtain ⟨s, c, q, h1, h2⟩ := h.1
  have hfit := FP.Core.val32_fits x
  rw [h1] at hfit
  by_cases ht : s = true ∨ ¬ vge c q 63
  · have e2 := FP.Core.val32_fadd x FP.Core.fconst1
    rw [h1, FP.Core.val32_fconst1] at e2
    obtain ⟨c', q', e, hv⟩ := round_le (f := FP.Core.b32) FP.Core.good_b32 (s := FP.Core.sumSign s false (FP.Core.sumUnits s c q false (2 ^ 23) (-23) (min q (-23)))) (inc_vle (p1 := 23) (by decide) hfit.1 h2 ht) (by decide) (by decide)
    exact ⟨_, c', q', e2.trans e, hv⟩
  · have hs : s = false := by
      cases s with
      | false => rfl
      | true => exact absurd (Or.inl rfl) ht
    subst hs
    have hg : vge c q 63 := Classical.byContradiction fun hn => ht (Or.inr hn)
    obtain ⟨rfl, rfl⟩ := top_one (f := FP.Core.b32) (by decide) (by decide) hfit h2 hg
    have hx : x = 1593835520 := FP.Core.val32_inj (by rw [h1]; exact fun q => by cases q) (h1.trans (by decide +kernel))
    subst hx
    have e : FP.fadd 1593835520 FP.fconst1 = 1593835520 := by decide +kernel
    rw [e]
    exact h.1
/-- the mean of two doubles -/
theorem okD_mean {x y : UInt64} (hx : okD x) (hy : okD y) : fpD 64 (FP.dadd x y) ∧ fpD 63 (FP.dmul (FP.dadd x y) 4602678819172646912) ∧ okD (FP.dadd (FP.dmul (FP.dadd x y) 4602678819172646912) FP.dconst0) := by
  have h1 : fpD 64 (FP.dadd x y) := fpD_dadd hx.1 hy.1 (by decide)
  have h2 : fpD 63 (FP.dmul (FP.dadd x y) 4602678819172646912) := fpD_dmul (n := 52) (m := 53) h1 (by decide) val64_half (by decide)
  refine ⟨h1, h2, ?_⟩
  generalize FP.dmul (FP.dadd x y) 4602678819172646912 = z at h2
  by_cases hz : z = FP.Core.dzeroNeg
  · subst hz
    have e : FP.dadd FP.Core.dzeroNeg FP.dconst0 = 0 := by decide +kernel
    rw [e]
    exact ⟨⟨false, 0, _, FP.Core.val64_dconst0, vle_0 _ _⟩, by decide⟩
  · have e : FP.dadd z FP.dconst0 = z := FP.Core.dadd_zero (fpD_nn h2) hz
    rw [e]
    exact ⟨h2, hz⟩
theorem okS_mean {x y : UInt32} (hx : okS x) (hy : okS y) : fpS 64 (FP.fadd x y) ∧ fpS 63 (FP.fmul (FP.fadd x y) 1056964608) ∧ okS (FP.fadd (FP.fmul (FP.fadd x y) 1056964608) FP.fconst0) := by
  have h1 : fpS 64 (FP.fadd x y) := fpS_fadd hx.1 hy.1 (by decide)
  have h2 : fpS 63 (FP.fmul (FP.fadd x y) 1056964608) := fpS_fmul (n := 23) (m := 24) h1 (by decide) val32_half (by decide)
  refine ⟨h1, h2, ?_⟩
  generalize FP.fmul (FP.fadd x y) 1056964608 = z at h2
  by_cases hz : z = FP.Core.fzeroNeg
  · subst hz
    have e : FP.fadd FP.Core.fzeroNeg FP.fconst0 = 0 := by decide +kernel
    rw [e]
    exact ⟨⟨false, 0, _, FP.Core.val32_fconst0, vle_0 _ _⟩, by decide⟩
  · have e : FP.fadd z FP.fconst0 = z := FP.Core.fadd_zero (fpS_nn h2) hz
    rw [e]
    exact ⟨h2, hz⟩
