def R00 : sR := (fun _ => 0, fun _ => (0, []), fun _ _ => false)
/-- the world of a new object -/
def w00 : sW := (R00, fun _ => none, fun i => if i = 1 then 3 else if i = 2 then 2 else if i = 3 then 1 else 0, 0, 0, none, fun _ => none)
theorem rate_0 : rateOk w00.2.2.1 := by unfold rateOk; decide
theorem RepM_0 : RepM mS1 w00 := by
  refine ⟨⟨fun r hr => Or.inl ⟨rfl, ?_⟩, fun r s hr hs h => absurd h (show ¬ (0 : Nat) = 2 by decide)⟩, ⟨fun k hk => ?_, fun i hi => ?_, rate_0, rfl, fun p hp => ?_⟩, rfl, rfl⟩
  · simp [mS1, mPt, mSi, mS0, va_up, hr]
  · show mS1.1 18 k = 0
    simp [mS1, mPt, mSi, mS0, va_up]
  · rcases (show i = 0 ∨ i = 1 ∨ i = 2 ∨ i = 3 by omega) with e | e | e | e <;> subst e <;> rfl
  · show mS1.1 15 p = 0
    simp [mS1, mPt, mSi, mS0, va_up]
theorem RepC_m {h : zH} {x m : Nat} {w : sW} (S : sMS) (hR : RepC h x m w) : RepC (mUp m S h) x m w := by
  obtain ⟨col, p, F, Z, k, I, P, q, T, V, a1, a2, a3, a4, a5, a6⟩ := hR
  have hx : ext h (mUp m S h) col col (fun c => c = 0) := by
    refine ⟨Nat.le_refl _, fun q hq => ?_, fun _ _ => rfl, fun q hq hc => ?_⟩
    · have hq2 : h.1 ≤ q := hq
      have := a2.2.1
      rw [mUp_out (by omega)]
      exact a1 q hq2
    · apply mUp_out
      rcases Nat.lt_or_ge q m with z | z
      · exact Or.inl z
      · rcases Nat.lt_or_ge q (m + 20) with z2 | z2
        · exact absurd (a2.2.2.2 q z z2) hc
        · exact Or.inr z2
  exact ⟨col, p, F, Z, k, I, P, q, T, V, hx.2.1, zone_ext hx a2, ext_st hx a2 (by decide) a3, a4, rcAt_ext a1 hx a5 (by decide) (by decide), RX_ext a1 hx a6 (by decide) (fun p hp => by omega) rfl rfl⟩
theorem RepC_pOk {h : zH} {x m : Nat} {w : sW} (hR : RepC h x m w) : ∀ p, p < 4 → ∀ L, w.2.2.2.2.2.2 p = some L → L.countP isIn ≤ 20 := by
  obtain ⟨col, p, F, Z, k, I, P, q, T, V, a1, a2, a3, a4, a5, a6⟩ := hR
  intro j hj L hL
  have := a6.2.2 j hj
  rw [hL] at this
  obtain ⟨_, _, _, _, _, _, _, _, _, _, hO, _⟩ := this
  exact hO.1
theorem mUp_mUp (m : Nat) (S S' : sMS) (h : zH) : mUp m S (mUp m S' h) = mUp m S h := by
  refine Prod.ext rfl (funext fun a => ?_)
  simp only [mUp]
  by_cases e : m ≤ a ∧ a < m + 20
  · rw [if_pos e, if_pos e]
  · rw [if_neg e, if_neg e, if_neg e]
theorem mUp_kept {m : Nat} {S : sMS} {h h1 : zH} (hh : h = mUp m S h) (hk : ∀ q, m ≤ q → q < m + 20 → h1.2 q = h.2 q) : h1 = mUp m S h1 := by
  refine Prod.ext rfl (funext fun a => ?_)
  simp only [mUp]
  by_cases e : m ≤ a ∧ a < m + 20
  · rw [if_pos e, hk a e.1 e.2, hh]
    simp only [mUp]
    rw [if_pos e]
  · rw [if_neg e]
/-- both sides stand for the same world -/
def LI (x m : Nat) (w : sW) (H : zH) : Prop := RepC H x m w ∧ ∃ S, H = mUp m S H ∧ RepM S w
theorem LI_0 {x : Nat} {f : Nat → Option zOb} {h1 : zH} (hf : ∀ q, x + 57 ≤ q → f q = none) (hX : xNew f x h1) : LI x (x + 57) w00 (mUp (x + 57) mS1 (x + 57 + 20, h1.2)) := by
  obtain ⟨n1, f1⟩ := h1
  obtain ⟨b1, ⟨q, b2, b3, b4, b5, b6⟩, b7, b8⟩ := hX
  refine ⟨⟨fun a => if x + 57 ≤ a ∧ a < x + 57 + 20 then 0 else if x + 1 ≤ a ∧ a < x + 4 then 8 else 1, x + 1, fun _ => none, fun _ => 0, none, fun _ => none, fun _ => none, q, alT0, cIn 9 1, fun a ha => ?_, ⟨rfl, Nat.le_refl _, fun a h1 h2 h3 => ?_, fun a h1 h2 => ?_⟩, stAt_fr b2 (fun a h1 h2 h3 => mUp_out (by omega)), ⟨fun i hi => ?_, rate_0⟩, ⟨rAt_fr b7 (fun a h1 h2 => mUp_out (by omega)), fun a h1 h2 => ?_, fun r hr => Or.inl ⟨rfl, rfl, rfl⟩, fun r s hr hs h => absurd h (show ¬ (0 : Nat) = 2 by decide)⟩, fun i hi => rfl, rfl, fun p hp => rfl⟩, mS1, (mUp_mUp _ _ _ _).symm, RepM_0⟩
  · have ha2 : x + 57 + 20 ≤ a := ha
    rw [mUp_out (by omega)]
    exact (b8 a (by omega)).trans (hf a (by omega))
  · show (if _ then _ else if _ then _ else _) = _
    rw [if_neg (by omega), if_neg (by omega)]
  · show (if _ then _ else if _ then _ else _) = _
    rw [if_pos (by omega)]
  · rcases (show i = 0 ∨ i = 1 ∨ i = 2 ∨ i = 3 by omega) with e | e | e | e <;> subst e
    · exact b3
    · exact b4
    · exact b5
    · exact b6
  · show (if _ then _ else if _ then _ else _) = _
    rw [if_neg (by omega), if_pos (by omega)]

