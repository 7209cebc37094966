def cpI (h : zH) (R : sR) (F : Nat → Option Nat) (Z : Nat → Int32) (i : Nat) (F' : Nat → Option Nat) (Z' : Nat → Int32) (G : zH) : Prop :=
  h.1 + 3 ≤ G.1 ∧ wfH G ∧ (∀ q, q < h.1 → G.2 q = h.2 q) ∧ (∀ r, i ≤ r → F' r = none ∧ Z' r = 0) ∧ (∀ r, r < i → F r = none → F' r = none ∧ Z' r = Z r) ∧ (∀ r a, r < i → F r = some a → Z' r = 0 ∧ ∃ b, F' r = some b ∧ h.1 + 3 ≤ b ∧ cIs G b (R.2.1 r)) ∧ ∀ r s a b, r < i → s < i → F r = some a → F s = some b → (F' r = F' s ↔ a = b)
theorem cAt_inj {h : zH} {a : Nat} {k k' : Int32} {n n' : Nat} {c d : Nat → sC} (hA : cAt h a k n c) (hB : cAt h a k' n' d) (i : Nat) : c i = d i := by
  have e1 := hA.2.1.symm.trans hB.2.1
  have e2 := hA.2.2.1.symm.trans hB.2.2.1
  have e3 := hA.2.2.2.symm.trans hB.2.2.2
  simp only [Option.some.injEq, Sum.inl.injEq, Sum.inr.injEq, Prod.mk.injEq, true_and] at e1 e2 e3
  exact Prod.ext (congrFun e1.2 i) (Prod.ext (congrFun e2.2 i) (congrFun e3.2 i))
theorem cIs_inj {h : zH} {a : Nat} {A B : sA} (hA : cIs h a A) (hB : cIs h a B) : A = B := by
  obtain ⟨oA, c, c1, c2⟩ := hA
  obtain ⟨oB, d, d1, d2⟩ := hB
  have la := oA.2.2.1
  have lb := oB.2.2.1
  have e0 := c1.1.symm.trans d1.1
  simp only [Option.some.injEq, Sum.inr.injEq, Prod.mk.injEq, List.cons.injEq, Value.int.injEq, true_and, and_true] at e0
  have hl : A.2.length = B.2.length := (nI_eq (by omega) (by omega)).mp e0.2
  have hcd : ∀ i, i < A.2.length → c i = d i := fun i _ => cAt_inj c1 d1 i
  refine Prod.ext e0.1 (List.ext_getElem hl (fun i h1 h2 => ?_))
  have e1 := c2 i h1
  have e2 := d2 i h2
  rw [List.getD_eq_getElem?_getD, List.getElem?_eq_getElem h1] at e1
  rw [List.getD_eq_getElem?_getD, List.getElem?_eq_getElem h2] at e2
  exact e1.symm.trans ((hcd i h1).trans e2)
theorem lhF_f {F : Nat → Option Nat} {v r : Nat} (hF : F r = some v) : ∀ n i, i ≤ r → r ≤ i + n → lhF F v n i ≤ r ∧ F (lhF F v n i) = some v
  | 0, i, h1, h2 => by
    have e : i = r := by omega
    rw [lhF, e]; exact ⟨Nat.le_refl _, hF⟩
  | n + 1, i, h1, h2 => by
    rw [lhF]
    by_cases e : F i = some v
    · rw [if_pos e]; exact ⟨h1, e⟩
    · rw [if_neg e]
      exact lhF_f hF n (i + 1) (by rcases Nat.lt_or_eq_of_le h1 with z | z; exact z; exact absurd (z ▸ hF) e) (by omega)
theorem lhF_lt {F : Nat → Option Nat} {v r : Nat} : ∀ n i, i ≤ r → r < lhF F v n i → F r ≠ some v
  | 0, i, h1, h2 => by rw [lhF] at h2; omega
  | n + 1, i, h1, h2 => by
    rw [lhF] at h2
    by_cases e : F i = some v
    · rw [if_pos e] at h2; omega
    · rw [if_neg e] at h2
      by_cases e2 : i = r
      · rw [← e2]; exact e
      · exact lhF_lt n (i + 1) (by omega) h2

theorem cIs_fr {h h1 : zH} {a : Nat} {A : sA} (hA : cIs h a A) (hf : ∀ q, a ≤ q → q < a + 4 → h1.2 q = h.2 q) : cIs h1 a A := by
  obtain ⟨o, c, c1, c2⟩ := hA
  exact ⟨o, c, cAt_fr c1 hf, c2⟩
theorem cIs_lt {h : zH} {a : Nat} {A : sA} (hA : cIs h a A) (hw : wfH h) : a + 4 ≤ h.1 := by
  obtain ⟨o, c, c1, c2⟩ := hA
  exact cAt_lt c1 hw
theorem rUp_vu (a : Nat) (F : Nat → Option Nat) (Z : Nat → Int32) (m : Nat) (f : Nat → Option zOb) (v : Option zOb) : rUp a F Z (m, va_up f a v) = rUp a F Z (m, f) := by
  refine Prod.ext rfl (funext fun q => ?_)
  simp only [rUp, va_up]
  by_cases e : a ≤ q ∧ q < a + 3
  · rw [if_pos e, if_pos e]
  · rw [if_neg e, if_neg e, if_neg (by omega)]
theorem rUp_cU {p a : Nat} {F F' : Nat → Option Nat} {Z Z' : Nat → Int32} {k : Int32} {n : Nat} {c : Nat → sC} {N : Nat} {G : zH} (hd : p + 3 ≤ a) : rUp p F Z (cUp a k n c (N, (rUp p F' Z' G).2)) = rUp p F Z (cUp a k n c (N, G.2)) := by
  refine Prod.ext rfl (funext fun q => ?_)
  simp only [rUp, cUp]
  by_cases e : p ≤ q ∧ q < p + 3
  · rw [if_pos e, if_pos e]
  · rw [if_neg e, if_neg e, if_neg e]
theorem cp_0 {h : zH} (hw : wfH h) (R : sR) (F : Nat → Option Nat) (Z : Nat → Int32) : cpI h R F Z 0 (fun _ => none) (fun _ => 0) (h.1 + 3, h.2) := ⟨Nat.le_refl _, fun q hq => hw q (by have hq : h.1 + 3 ≤ q := hq; omega), fun _ _ => rfl, fun _ _ => ⟨rfl, rfl⟩, fun _ hr => absurd hr (by omega), fun _ _ hr => absurd hr (by omega), fun _ _ _ _ hr => absurd hr (by omega)⟩
theorem cp_n {h G : zH} {R : sR} {F F' F2 : Nat → Option Nat} {Z Z' Z2 : Nat → Int32} {i : Nat} (hI : cpI h R F Z i F' Z' G) (hF : F i = none) (hf : ∀ r, r ≠ i → F2 r = F' r ∧ Z2 r = Z' r) (h1 : F2 i = none ∧ Z2 i = Z i) : cpI h R F Z (i + 1) F2 Z2 G := by
  obtain ⟨a1, a2, a3, a4, a5, a6, a7⟩ := hI
  refine ⟨a1, a2, a3, fun r hr => ?_, fun r hr e => ?_, fun r a hr e => ?_, fun r s a b hr hs e1 e2 => ?_⟩
  · rw [(hf r (by omega)).1, (hf r (by omega)).2]; exact a4 r (by omega)
  · by_cases q : r = i
    · rw [q]; exact h1
    · rw [(hf r q).1, (hf r q).2]; exact a5 r (by omega) e
  · by_cases q : r = i
    · rw [q, hF] at e; cases e
    · rw [(hf r q).1, (hf r q).2]; exact a6 r a (by omega) e
  · by_cases q : r = i
    · rw [q, hF] at e1; cases e1
    by_cases q2 : s = i
    · rw [q2, hF] at e2; cases e2
    rw [(hf r q).1, (hf s q2).1]; exact a7 r s a b (by omega) (by omega) e1 e2
theorem cp_a {h G G2 : zH} {R : sR} {F F' F2 : Nat → Option Nat} {Z Z' Z2 : Nat → Int32} {i : Nat} (hI : cpI h R F Z i F' Z' G) {a b : Nat} (hF : F i = some a) (hf : ∀ r, r ≠ i → F2 r = F' r ∧ Z2 r = Z' r) (h1 : F2 i = some b ∧ Z2 i = 0) (hw2 : wfH G2) (hl : G.1 ≤ G2.1) (hg : ∀ q, q < G.1 → G2.2 q = G.2 q) (hb : h.1 + 3 ≤ b) (hc : cIs G2 b (R.2.1 i)) (hu : ∀ r c, r < i → F r = some c → (F' r = some b ↔ c = a)) : cpI h R F Z (i + 1) F2 Z2 G2 := by
  obtain ⟨a1, a2, a3, a4, a5, a6, a7⟩ := hI
  refine ⟨by omega, hw2, fun q hq => (hg q (by omega)).trans (a3 q hq), fun r hr => ?_, fun r hr e => ?_, fun r a hr e => ?_, fun r s a b hr hs e1 e2 => ?_⟩
  · rw [(hf r (by omega)).1, (hf r (by omega)).2]; exact a4 r (by omega)
  · by_cases q : r = i
    · rw [q, hF] at e; cases e
    · rw [(hf r q).1, (hf r q).2]; exact a5 r (by omega) e
  · by_cases q : r = i
    · rw [q]; exact ⟨h1.2, b, h1.1, hb, hc⟩
    · rw [(hf r q).1, (hf r q).2]
      obtain ⟨z1, d, z2, z3, z4⟩ := a6 r a (by omega) e
      have := cIs_lt z4 a2
      exact ⟨z1, d, z2, z3, cIs_fr z4 (fun q q1 q2 => hg q (by omega))⟩
  · by_cases q : r = i
    · by_cases q2 : s = i
      · rw [q, q2]; rw [q, hF] at e1; rw [q2, hF] at e2
        exact ⟨fun _ => Option.some.inj (e1.symm.trans e2), fun _ => rfl⟩
      · rw [q, hF] at e1
        obtain rfl := Option.some.inj e1
        rw [q, h1.1, (hf s q2).1]
        have := hu s b (by omega) e2
        exact ⟨fun z => (this.mp z.symm).symm, fun z => (this.mpr z.symm).symm⟩
    · by_cases q2 : s = i
      · rw [q2, hF] at e2
        obtain rfl := Option.some.inj e2
        rw [q2, h1.1, (hf r q).1]
        exact hu r a (by omega) e1
      · rw [(hf r q).1, (hf s q2).1]; exact a7 r s a b (by omega) (by omega) e1 e2

