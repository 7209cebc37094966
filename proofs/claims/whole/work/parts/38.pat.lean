def wPat (w : sW) (p : Nat) (L : Option (List sAct)) : sW := (w.1, w.2.1, w.2.2.1, w.2.2.2.1, w.2.2.2.2.1, w.2.2.2.2.2.1, fun x => if x = p then L else w.2.2.2.2.2.2 x)
/-- all but patch p and the place of made cells is the same -/
def agP (S S' : sMS) (p : Nat) : Prop := (∀ j, j ≠ 1 → j ≠ 15 → j ≠ 16 → j ≠ 17 → S'.1 j = S.1 j) ∧ (∀ q, q < 4 → q ≠ p → S'.1 15 q = S.1 15 q ∧ S'.1 16 q = S.1 16 q ∧ ∀ k, k < 40 → S'.1 17 (40 * q + k) = S.1 17 (40 * q + k) ∧ mc S' (560 + (40 * q + k)) = mc S (560 + (40 * q + k)) ∧ mc S' (720 + (40 * q + k)) = mc S (720 + (40 * q + k))) ∧ (∀ a, a < 520 → mc S' a = mc S a) ∧ S'.2.2.2 = S.2.2.2
theorem agP_r (S : sMS) (p : Nat) : agP S S p := ⟨fun _ _ _ _ _ => rfl, fun _ _ _ => ⟨rfl, rfl, fun _ _ => ⟨rfl, rfl, rfl⟩⟩, fun _ _ => rfl, rfl⟩
theorem agP_t {S S' S2 : sMS} {p : Nat} (h : agP S S' p) (h2 : agP S' S2 p) : agP S S2 p := ⟨fun j a b c d => (h2.1 j a b c d).trans (h.1 j a b c d), fun q hq hqp => ⟨((h2.2.1 q hq hqp).1).trans (h.2.1 q hq hqp).1, ((h2.2.1 q hq hqp).2.1).trans (h.2.1 q hq hqp).2.1, fun k hk => ⟨(((h2.2.1 q hq hqp).2.2 k hk).1).trans ((h.2.1 q hq hqp).2.2 k hk).1, (((h2.2.1 q hq hqp).2.2 k hk).2.1).trans ((h.2.1 q hq hqp).2.2 k hk).2.1, (((h2.2.1 q hq hqp).2.2 k hk).2.2).trans ((h.2.1 q hq hqp).2.2 k hk).2.2⟩⟩, fun a ha => (h2.2.2.1 a ha).trans (h.2.2.1 a ha), h2.2.2.2.trans h.2.2.2⟩
theorem agP_row {S S' : sMS} {p : Nat} (h : agP S S' p) {k : Nat} (hk : k < 26) {A : sA} (hA : mRowIs S k A) : mRowIs S' k A := by
  have hl := hA.2.2.1.2.2.1
  exact ⟨by rw [h.1 4 (by decide) (by decide) (by decide) (by decide)]; exact hA.1, by rw [h.1 5 (by decide) (by decide) (by decide) (by decide)]; exact hA.2.1, hA.2.2.1, fun i hi => by rw [h.2.2.1 _ (by omega)]; exact hA.2.2.2 i hi⟩
theorem RepM_pat {S S' : sMS} {w : sW} {p : Nat} {L : Option (List sAct)} (hR : RepM S w) (h : agP S S' p) (hL : patIs S' p L) : RepM S' (wPat w p L) := by
  obtain ⟨⟨r1, r2⟩, ⟨h1, h2, h3, h4, h5⟩, h6, h7⟩ := hR
  have e6 := h.1 6 (by decide) (by decide) (by decide) (by decide)
  have e7 := h.1 7 (by decide) (by decide) (by decide) (by decide)
  have e9 := h.1 9 (by decide) (by decide) (by decide) (by decide)
  have e10 := h.1 10 (by decide) (by decide) (by decide) (by decide)
  have e11 := h.1 11 (by decide) (by decide) (by decide) (by decide)
  have e12 := h.1 12 (by decide) (by decide) (by decide) (by decide)
  have e13 := h.1 13 (by decide) (by decide) (by decide) (by decide)
  have e14 := h.1 14 (by decide) (by decide) (by decide) (by decide)
  have e18 := h.1 18 (by decide) (by decide) (by decide) (by decide)
  have e19 := h.1 19 (by decide) (by decide) (by decide) (by decide)
  refine ⟨⟨fun r hr => ?_, fun r s hr hs a b => by rw [e6]; exact r2 r s hr hs a b⟩, ⟨fun k hk => ?_, fun i hi => by rw [e7]; exact h2 i hi, h3, ?_, fun q hq => ?_⟩, by rw [h.2.2.2]; exact h6, by rw [h.2.2.2]; exact h7⟩
  · rw [e6]
    rcases r1 r hr with z | z | ⟨z, j, hj, z2, z3⟩
    · exact Or.inl z
    · exact Or.inr (Or.inl z)
    · exact Or.inr (Or.inr ⟨z, j, hj, z2, agP_row h (by omega) z3⟩)
  · have := h1 k hk
    show imgIs S' k (w.2.1 k)
    unfold imgIs at this ⊢
    generalize w.2.1 k = I at this ⊢
    cases I with
    | none => rw [e18]; exact this
    | some R =>
      simp only [e18, e19]
      refine ⟨this.1, fun r hr => ?_, this.2.2⟩
      rcases this.2.1 r hr with z | z | ⟨z, j, hj, z2, z3⟩
      · exact Or.inl z
      · exact Or.inr (Or.inl z)
      · exact Or.inr (Or.inr ⟨z, j, hj, z2, agP_row h (by omega) z3⟩)
  · show coIs S' w.2.2.2.2.2.1
    unfold coIs at h4 ⊢
    generalize w.2.2.2.2.2.1 = I at h4 ⊢
    cases I with
    | none => rw [h.2.2.2]; exact h4
    | some C =>
      obtain ⟨q1, q2, q3, q4, q5, q6, q7⟩ := h4
      refine ⟨by rw [h.2.2.2]; exact q1, agP_row h (by decide) q2, agP_row h (by decide) q3, by rw [h.2.2.2]; exact q4, by rw [h.2.2.2]; exact q5, q6, fun k t hk => ?_⟩
      have := q7 k t hk
      unfold stepIs at this ⊢
      rw [e9, e10, e11, e12, e13, e14]
      exact this
  · show patIs S' q (if q = p then L else w.2.2.2.2.2.2 q)
    by_cases e : q = p
    · rw [if_pos e, e]; exact hL
    · rw [if_neg e]
      have := h5 q hq
      obtain ⟨f1, f2, f3⟩ := h.2.1 q hq e
      unfold patIs at this ⊢
      generalize w.2.2.2.2.2.2 q = I at this ⊢
      cases I with
      | none => rw [f1]; exact this
      | some L =>
        obtain ⟨z1, z2, z3, z4⟩ := this
        refine ⟨by rw [f1]; exact z1, by rw [f2]; exact z2, z3, fun k a hk => ?_⟩
        obtain ⟨a1, a2, a3, a4, a5, a6, a7⟩ := z4 k a hk
        have hkl := (List.getElem?_eq_some_iff.mp hk).1
        obtain ⟨g1, g2, g3⟩ := f3 k (by omega)
        exact ⟨by rw [g1]; exact a1, a2, a3, a4, a5, fun c hc => by rw [g2]; exact a6 c hc, fun c hc => by rw [g3]; exact a7 c hc⟩
def turnA (t : sAct) : sAct := (if t.1 = 2 then 3 else if t.1 = 3 then 2 else t.1, t.2.2, t.2.1)
/-- 25 -/
def pTurn (w : sW) (p : Int32) : Int32 × sW :=
  if ¬ (0 ≤ p ∧ p ≤ 3) then (-1, w) else match w.2.2.2.2.2.2 (ix p) with
  | none => (-2, w)
  | some L => (nI L.length, wPat w (ix p) (some (L.map turnA)))

