def cIs (h : zH) (a : Nat) (A : sA) : Prop := aOk A ∧ ∃ c, cAt h a A.1 A.2.length c ∧ ∀ i, i < A.2.length → c i = A.2.getD i z0
/-- records at p: where its cells lie, its single tags; the colour of the cells, of the object -/
def rcAt (h : zH) (col : Nat → Nat) (cc oc p : Nat) (R : sR) (F : Nat → Option Nat) (Z : Nat → Int32) : Prop :=
  rAt h p F Z ∧ (∀ q, p ≤ q → q < p + 3 → col q = oc) ∧
  (∀ r, r < 8 → (R.1 r = 0 ∧ F r = none ∧ Z r = 0) ∨ (R.1 r = 1 ∧ F r = none ∧ Z r = 1) ∨ (R.1 r = 2 ∧ Z r = 0 ∧ ∃ a, F r = some a ∧ cIs h a (R.2.1 r) ∧ ∀ q, a ≤ q → q < a + 4 → col q = cc)) ∧
  ∀ r s, r < 8 → s < 8 → R.1 r = 2 → R.1 s = 2 → (R.2.2 r s = true ↔ F r = F s)
def csIs (h : zH) (s n : Nat) (f : Nat → Nat → Int32) : Prop := ∀ j, j < 5 → h.2 (s + j) = some (.inl (0, n, .inl (f j)))
def stpOk (A B : sA) (t : sStep) : Prop :=
  (t.1 = 0 ∧ (∃ i j, i < A.2.length ∧ j < B.2.length ∧ t.2.1 = nI i ∧ t.2.2.1 = nI j ∧ (sAlike (A.2.getD i z0) (B.2.getD j z0) = true ↔ t.2.2.2.1 = 0)) ∧ (t.2.2.2.1 = 0 ∨ t.2.2.2.1 = 1 ∨ t.2.2.2.1 = 2)) ∨
  (t.1 = 1 ∧ t.2.2.1 = -4 ∧ (∃ i, i < A.2.length ∧ t.2.1 = nI i) ∧ (t.2.2.2.1 = 3 ∨ t.2.2.2.1 = 4)) ∨
  (t.1 = 2 ∧ t.2.1 = -4 ∧ (∃ j, j < B.2.length ∧ t.2.2.1 = nI j) ∧ (t.2.2.2.1 = 3 ∨ t.2.2.2.1 = 4))
def stpIs (f : Nat → Nat → Int32) (k : Nat) (t : sStep) : Prop := f 0 k = t.1 ∧ (t.1 ≠ 2 → f 1 k = t.2.1) ∧ (t.1 ≠ 1 → f 2 k = t.2.2.1) ∧ f 3 k = t.2.2.2.1 ∧ f 4 k = t.2.2.2.2
def coOk (C : sCo) : Prop := C.2.2.2.countP (fun t => !decide (t.1 = 1)) ≤ 20 ∧ C.2.2.2.countP (fun t => !decide (t.1 = 2)) ≤ 20
def kOb (l r s : Nat) (cost : Int32) (cnt : Nat) : zOb := .inr (3, [.ref l, .ref r, .int cost, .ref s, .ref (s + 1), .ref (s + 2), .ref (s + 3), .ref (s + 4), .int (nI cnt)])
/-- a comparison -/
def kIs (h : zH) (col : Nat → Nat) (p : Nat) (C : sCo) : Prop := ∃ l r s f, h.2 p = some (kOb l r s C.2.2.1 C.2.2.2.length) ∧ csIs h s (C.1.2.length + C.2.1.2.length) f ∧ cIs h l C.1 ∧ cIs h r C.2.1 ∧ C.2.2.2.length ≤ C.1.2.length + C.2.1.2.length ∧ (∀ k t, C.2.2.2[k]? = some t → stpIs f k t ∧ stpOk C.1 C.2.1 t) ∧ coOk C ∧ col p = 3 ∧ (∀ j, j < 5 → col (s + j) = 3) ∧ (∀ q, l ≤ q → q < l + 4 → col q = 3) ∧ ∀ q, r ≤ q → q < r + 4 → col q = 3
def actOk (f : Nat → Int32) (co cn : Nat → sC) (k : Nat) (a : sAct) : Prop := f k = a.1 ∧ 0 ≤ a.1 ∧ a.1 ≤ 3 ∧ (a.2.1 = none ↔ a.1 = 3) ∧ (a.2.2 = none ↔ a.1 = 2) ∧ (∀ c, a.2.1 = some c → co k = c ∧ sOk c) ∧ ∀ c, a.2.2 = some c → cn k = c ∧ sOk c
/-- a patch -/
def paAt (h : zH) (p o v : Nat) (n : Nat) (f : Nat → Int32) (co cn : Nat → sC) : Prop := h.2 p = some (.inr (4, [.int (nI n), .ref (p + 1), .ref o, .ref v])) ∧ h.2 (p + 1) = some (.inl (0, n, .inl f)) ∧ cAt h o 9 n co ∧ cAt h v 9 n cn
def paIs (h : zH) (col : Nat → Nat) (c p : Nat) (L : List sAct) : Prop := ∃ o v f co cn, paAt h p o v L.length f co cn ∧ L.length ≤ 40 ∧ (∀ k a, L[k]? = some a → actOk f co cn k a) ∧ pOk L ∧ col p = c ∧ col (p + 1) = c ∧ (∀ q, o ≤ q → q < o + 4 → col q = 3) ∧ ∀ q, v ≤ q → q < v + 4 → col q = 3
abbrev alT : Type := (Nat → Int32) × (Nat → Int32) × (Nat → Nat → Int32) × (Nat → Nat → Int32)
/-- the aligner -/
def alAt (h : zH) (a : Nat) (T : alT) : Prop := h.2 a = some (.inr (0, [.ref (a + 1), .ref (a + 2), .ref (a + 3), .ref (a + 24)])) ∧ h.2 (a + 1) = some (.inl (0, 20, .inl T.1)) ∧ h.2 (a + 2) = some (.inl (0, 20, .inl T.2.1)) ∧ (∃ f, h.2 (a + 3) = some (.inl (7, 20, .inr (.inr (.inr (.inr f))))) ∧ ∀ i, i < 20 → f i = some (a + 4 + i)) ∧ (∀ i, i < 20 → h.2 (a + 4 + i) = some (.inl (0, 20, .inl (T.2.2.1 i)))) ∧ (∃ f, h.2 (a + 24) = some (.inl (7, 21, .inr (.inr (.inr (.inr f))))) ∧ ∀ i, i < 21 → f i = some (a + 25 + i)) ∧ ∀ i, i < 21 → h.2 (a + 25 + i) = some (.inl (0, 21, .inl (T.2.2.2 i)))
def xOb (x p : Nat) (k : Option Nat) (got : Int64) (torn : Int32) : zOb := .inr (6, [.ref (x + 4), .ref (x + 5), .ref (x + 6), .ref (x + 7), .ref (x + 53), .ref p, va_rf k, .long got, .int torn])
def stAt (h : zH) (x p : Nat) (k : Option Nat) (got : Int64) (torn : Int32) (I P : Nat → Option Nat) (q : Nat → Int32) (T : alT) (V : Nat → sC) : Prop := h.2 x = some (xOb x p k got torn) ∧ h.2 (x + 4) = some (.inl (5, 2, .inr (.inr (.inr (.inr I))))) ∧ h.2 (x + 5) = some (.inl (6, 4, .inr (.inr (.inr (.inr P))))) ∧ h.2 (x + 6) = some (.inl (0, 4, .inl q)) ∧ alAt h (x + 7) T ∧ cAt h (x + 53) 9 1 V
def imgC (h : zH) (col : Nat → Nat) (i : Option Nat) (I : Option sR) : Prop := match I with
  | none => i = none
  | some R => ∃ p F Z, i = some p ∧ rcAt h col 3 3 p R F Z
def coC (h : zH) (col : Nat → Nat) (k : Option Nat) (C : Option sCo) : Prop := match C with
  | none => k = none
  | some C => ∃ p, k = some p ∧ kIs h col p C
def patC (h : zH) (col : Nat → Nat) (c : Nat) (i : Option Nat) (L : Option (List sAct)) : Prop := match L with
  | none => i = none
  | some L => ∃ p, i = some p ∧ paIs h col c p L
def zone (x m : Nat) (h : zH) (col : Nat → Nat) : Prop := m = x + 57 ∧ m + 20 ≤ h.1 ∧ (∀ q, x ≤ q → q < x + 57 → (q < x + 1 ∨ x + 4 ≤ q) → col q = 1) ∧ ∀ q, m ≤ q → q < m + 20 → col q = 0
/-- images, comparison, patches -/
def RX (h : zH) (col : Nat → Nat) (w : sW) (k : Option Nat) (I P : Nat → Option Nat) : Prop := (∀ i, i < 2 → imgC h col (I i) (w.2.1 i)) ∧ coC h col k w.2.2.2.2.2.1 ∧ ∀ p, p < 4 → patC h col (4 + p) (P p) (w.2.2.2.2.2.2 p)
def RC (h : zH) (x m : Nat) (w : sW) (col : Nat → Nat) (p : Nat) (F : Nat → Option Nat) (Z : Nat → Int32) (k : Option Nat) (I P : Nat → Option Nat) (q : Nat → Int32) (T : alT) (V : Nat → sC) : Prop :=
  wfH h ∧ zone x m h col ∧ stAt h x p k w.2.2.2.1 w.2.2.2.2.1 I P q T V ∧ ((∀ i, i < 4 → q i = w.2.2.1 i) ∧ rateOk w.2.2.1) ∧ rcAt h col 2 8 p w.1 F Z ∧ RX h col w k I P
def RepC (h : zH) (x m : Nat) (w : sW) : Prop := ∃ col p F Z k I P q T V, RC h x m w col p F Z k I P q T V
def cPost (x m : Nat) (h : zH) (ans : Int32 × sW) : Option Value → zH → Prop := fun v h1 => v = some (.int ans.1) ∧ RepC h1 x m ans.2 ∧ ∀ q, m ≤ q → q < m + 20 → h1.2 q = h.2 q
/-- what an operation leaves as it was: all but the colours D; what is new lies behind -/
def ext (h h1 : zH) (col col' : Nat → Nat) (D : Nat → Prop) : Prop := h.1 ≤ h1.1 ∧ wfH h1 ∧ (∀ q, q < h.1 → col' q = col q) ∧ ∀ q, q < h.1 → ¬ D (col q) → h1.2 q = h.2 q
theorem wf_lt {h : zH} (hw : wfH h) {q : Nat} {o : zOb} (e : h.2 q = some o) : q < h.1 := by
  rcases Nat.lt_or_ge q h.1 with z | z
  · exact z
  · rw [hw q z] at e; cases e
theorem cAt_ext {h h1 : zH} {col col' : Nat → Nat} {D : Nat → Prop} (hw : wfH h) (hx : ext h h1 col col' D) {a c : Nat} {k : Int32} {n : Nat} {f : Nat → sC} (hA : cAt h a k n f) (hc : ∀ q, a ≤ q → q < a + 4 → col q = c) (hD : ¬ D c) : cAt h1 a k n f ∧ ∀ q, a ≤ q → q < a + 4 → col' q = c := by
  have hl := cAt_lt hA hw
  exact ⟨cAt_fr hA (fun q q1 q2 => hx.2.2.2 q (by omega) (by rw [hc q q1 q2]; exact hD)), fun q q1 q2 => by rw [hx.2.2.1 q (by omega)]; exact hc q q1 q2⟩
theorem cIs_ext {h h1 : zH} {col col' : Nat → Nat} {D : Nat → Prop} (hw : wfH h) (hx : ext h h1 col col' D) {a c : Nat} {A : sA} (hA : cIs h a A) (hc : ∀ q, a ≤ q → q < a + 4 → col q = c) (hD : ¬ D c) : cIs h1 a A ∧ ∀ q, a ≤ q → q < a + 4 → col' q = c := by
  obtain ⟨o, f, h1, h2⟩ := hA
  have := cAt_ext hw hx h1 hc hD
  exact ⟨⟨o, f, this.1, h2⟩, this.2⟩
theorem rcAt_ext {h h1 : zH} {col col' : Nat → Nat} {D : Nat → Prop} (hw : wfH h) (hx : ext h h1 col col' D) {cc oc p : Nat} {R : sR} {F : Nat → Option Nat} {Z : Nat → Int32} (hA : rcAt h col cc oc p R F Z) (hD : ¬ D cc) (hD2 : ¬ D oc) : rcAt h1 col' cc oc p R F Z := by
  obtain ⟨a1, a2, a3, a4⟩ := hA
  have hl := wf_lt hw a1.2.2
  refine ⟨rAt_fr a1 (fun q q1 q2 => hx.2.2.2 q (by omega) (by rw [a2 q q1 q2]; exact hD2)), fun q q1 q2 => by rw [hx.2.2.1 q (by omega)]; exact a2 q q1 q2, fun r hr => ?_, a4⟩
  rcases a3 r hr with z | z | ⟨z1, z2, a, z3, z4, z5⟩
  · exact Or.inl z
  · exact Or.inr (Or.inl z)
  · have := cIs_ext hw hx z4 z5 hD
    exact Or.inr (Or.inr ⟨z1, z2, a, z3, this.1, this.2⟩)
theorem kIs_ext {h h1 : zH} {col col' : Nat → Nat} {D : Nat → Prop} (hw : wfH h) (hx : ext h h1 col col' D) {p : Nat} {C : sCo} (hA : kIs h col p C) (hD : ¬ D 3) : kIs h1 col' p C := by
  obtain ⟨l, r, s, f, a1, a2, a3, a4, a5, a6, a7, a8, a9, a10, a11⟩ := hA
  have hl := wf_lt hw a1
  have c1 := cIs_ext hw hx a3 a10 hD
  have c2 := cIs_ext hw hx a4 a11 hD
  refine ⟨l, r, s, f, by rw [hx.2.2.2 p hl (by rw [a8]; exact hD)]; exact a1, fun j hj => ?_, c1.1, c2.1, a5, a6, a7, by rw [hx.2.2.1 p hl]; exact a8, fun j hj => ?_, c1.2, c2.2⟩
  · rw [hx.2.2.2 _ (wf_lt hw (a2 j hj)) (by rw [a9 j hj]; exact hD)]; exact a2 j hj
  · rw [hx.2.2.1 _ (wf_lt hw (a2 j hj))]; exact a9 j hj
theorem paIs_ext {h h1 : zH} {col col' : Nat → Nat} {D : Nat → Prop} (hw : wfH h) (hx : ext h h1 col col' D) {c p : Nat} {L : List sAct} (hA : paIs h col c p L) (hD : ¬ D 3) (hD2 : ¬ D c) : paIs h1 col' c p L := by
  obtain ⟨o, v, f, co, cn, ⟨a1, a2, a3, a4⟩, b1, b2, b3, b4, b5, b6, b7⟩ := hA
  have l1 := wf_lt hw a1
  have l2 := wf_lt hw a2
  have c1 := cAt_ext hw hx a3 b6 hD
  have c2 := cAt_ext hw hx a4 b7 hD
  exact ⟨o, v, f, co, cn, ⟨by rw [hx.2.2.2 p l1 (by rw [b4]; exact hD2)]; exact a1, by rw [hx.2.2.2 _ l2 (by rw [b5]; exact hD2)]; exact a2, c1.1, c2.1⟩, b1, b2, b3, by rw [hx.2.2.1 p l1]; exact b4, by rw [hx.2.2.1 _ l2]; exact b5, c1.2, c2.2⟩
theorem imgC_ext {h h1 : zH} {col col' : Nat → Nat} {D : Nat → Prop} (hw : wfH h) (hx : ext h h1 col col' D) {i : Option Nat} {I : Option sR} (hA : imgC h col i I) (hD : ¬ D 3) : imgC h1 col' i I := by
  unfold imgC at hA ⊢
  cases I with
  | none => exact hA
  | some R =>
    obtain ⟨p, F, Z, e, z⟩ := hA
    exact ⟨p, F, Z, e, rcAt_ext hw hx z hD hD⟩
theorem coC_ext {h h1 : zH} {col col' : Nat → Nat} {D : Nat → Prop} (hw : wfH h) (hx : ext h h1 col col' D) {i : Option Nat} {I : Option sCo} (hA : coC h col i I) (hD : ¬ D 3) : coC h1 col' i I := by
  unfold coC at hA ⊢
  cases I with
  | none => exact hA
  | some R =>
    obtain ⟨p, e, z⟩ := hA
    exact ⟨p, e, kIs_ext hw hx z hD⟩
theorem patC_ext {h h1 : zH} {col col' : Nat → Nat} {D : Nat → Prop} (hw : wfH h) (hx : ext h h1 col col' D) {c : Nat} {i : Option Nat} {I : Option (List sAct)} (hA : patC h col c i I) (hD : ¬ D 3) (hD2 : ¬ D c) : patC h1 col' c i I := by
  unfold patC at hA ⊢
  cases I with
  | none => exact hA
  | some R =>
    obtain ⟨p, e, z⟩ := hA
    exact ⟨p, e, paIs_ext hw hx z hD hD2⟩
theorem RX_ext {h h1 : zH} {col col' : Nat → Nat} {D : Nat → Prop} (hw : wfH h) (hx : ext h h1 col col' D) {w w' : sW} {k : Option Nat} {I P : Nat → Option Nat} (hA : RX h col w k I P) (hD : ¬ D 3) (hD2 : ∀ p, p < 4 → ¬ D (4 + p)) (e1 : w'.2.1 = w.2.1) (e2 : w'.2.2.2.2.2 = w.2.2.2.2.2) : RX h1 col' w' k I P := by
  obtain ⟨a, b, c⟩ := hA
  refine ⟨fun i hi => by rw [e1]; exact imgC_ext hw hx (a i hi) hD, by rw [e2]; exact coC_ext hw hx b hD, fun p hp => by rw [e2]; exact patC_ext hw hx (c p hp) hD (hD2 p hp)⟩
theorem alAt_fr {h h1 : zH} {a : Nat} {T : alT} (hA : alAt h a T) (hf : ∀ q, a ≤ q → q < a + 46 → h1.2 q = h.2 q) : alAt h1 a T := by
  obtain ⟨a1, a2, a3, ⟨f, a4, a4b⟩, a5, ⟨f', a6, a6b⟩, a7⟩ := hA
  exact ⟨by rw [hf _ (by omega) (by omega)]; exact a1, by rw [hf _ (by omega) (by omega)]; exact a2, by rw [hf _ (by omega) (by omega)]; exact a3, ⟨f, by rw [hf _ (by omega) (by omega)]; exact a4, a4b⟩, fun i hi => by rw [hf _ (by omega) (by omega)]; exact a5 i hi, ⟨f', by rw [hf _ (by omega) (by omega)]; exact a6, a6b⟩, fun i hi => by rw [hf _ (by omega) (by omega)]; exact a7 i hi⟩
theorem stAt_fr {h h1 : zH} {x p : Nat} {k : Option Nat} {got : Int64} {torn : Int32} {I P : Nat → Option Nat} {q : Nat → Int32} {T : alT} {V : Nat → sC} (hA : stAt h x p k got torn I P q T V) (hf : ∀ q, x ≤ q → q < x + 57 → (q < x + 1 ∨ x + 4 ≤ q) → h1.2 q = h.2 q) : stAt h1 x p k got torn I P q T V := by
  obtain ⟨a1, a2, a3, a4, a5, a6⟩ := hA
  exact ⟨by rw [hf _ (by omega) (by omega) (by omega)]; exact a1, by rw [hf _ (by omega) (by omega) (by omega)]; exact a2, by rw [hf _ (by omega) (by omega) (by omega)]; exact a3, by rw [hf _ (by omega) (by omega) (by omega)]; exact a4, alAt_fr a5 (fun q q1 q2 => hf q (by omega) (by omega) (by omega)), cAt_fr a6 (fun q q1 q2 => hf q (by omega) (by omega) (by omega))⟩
theorem zone_ext {x m : Nat} {h h1 : zH} {col col' : Nat → Nat} {D : Nat → Prop} (hx : ext h h1 col col' D) (hz : zone x m h col) : zone x m h1 col' := by
  obtain ⟨a, b, c, d⟩ := hz
  have := hx.1
  exact ⟨a, by omega, fun q q1 q2 q3 => by rw [hx.2.2.1 q (by omega)]; exact c q q1 q2 q3, fun q q1 q2 => by rw [hx.2.2.1 q (by omega)]; exact d q q1 q2⟩
theorem ext_mod {x m : Nat} {h h1 : zH} {col col' : Nat → Nat} {D : Nat → Prop} (hx : ext h h1 col col' D) (hz : zone x m h col) (hD : ¬ D 0) : ∀ q, m ≤ q → q < m + 20 → h1.2 q = h.2 q := fun q q1 q2 => hx.2.2.2 q (by have := hz.2.1; omega) (by rw [hz.2.2.2 q q1 q2]; exact hD)
/-- the records change, and what is new -/
def D28 (c : Nat) : Prop := c = 2 ∨ c = 8
/-- the object's own fields and tables change -/
def D1 (c : Nat) : Prop := c = 1
theorem ext_st {x m : Nat} {h h1 : zH} {col col' : Nat → Nat} {D : Nat → Prop} (hx : ext h h1 col col' D) (hz : zone x m h col) (hD : ¬ D 1) {p : Nat} {k : Option Nat} {got : Int64} {torn : Int32} {I P : Nat → Option Nat} {q : Nat → Int32} {T : alT} {V : Nat → sC} (hA : stAt h x p k got torn I P q T V) : stAt h1 x p k got torn I P q T V := stAt_fr hA (fun q q1 q2 q3 => hx.2.2.2 q (by have := hz.1; have := hz.2.1; omega) (by rw [hz.2.2.1 q q1 q2 q3]; exact hD))
theorem RC_rec {h h1 : zH} {x m : Nat} {w : sW} {col col' : Nat → Nat} {p : Nat} {F F' : Nat → Option Nat} {Z Z' : Nat → Int32} {k : Option Nat} {I P : Nat → Option Nat} {q : Nat → Int32} {T : alT} {V : Nat → sC} (hR : RC h x m w col p F Z k I P q T V) (hx : ext h h1 col col' D28) {R' : sR} (hr : rcAt h1 col' 2 8 p R' F' Z') : RC h1 x m (wR w R') col' p F' Z' k I P q T V := by
  obtain ⟨a1, a2, a3, a4, a5, a6⟩ := hR
  exact ⟨hx.2.1, zone_ext hx a2, ext_st hx a2 (by unfold D28; omega) a3, a4, hr, RX_ext a1 hx a6 (by unfold D28; omega) (fun p hp => by unfold D28; omega) rfl rfl⟩
theorem RC_st {h h1 : zH} {x m : Nat} {w w' : sW} {col col' : Nat → Nat} {p : Nat} {F : Nat → Option Nat} {Z : Nat → Int32} {k : Option Nat} {I P : Nat → Option Nat} {q q' : Nat → Int32} {T T' : alT} {V V' : Nat → sC} (hR : RC h x m w col p F Z k I P q T V) (hx : ext h h1 col col' D1) (hs : stAt h1 x p k w'.2.2.2.1 w'.2.2.2.2.1 I P q' T' V') (hq : (∀ i, i < 4 → q' i = w'.2.2.1 i) ∧ rateOk w'.2.2.1) (e0 : w'.1 = w.1) (e1 : w'.2.1 = w.2.1) (e2 : w'.2.2.2.2.2 = w.2.2.2.2.2) : RC h1 x m w' col' p F Z k I P q' T' V' := by
  obtain ⟨a1, a2, a3, a4, a5, a6⟩ := hR
  exact ⟨hx.2.1, zone_ext hx a2, hs, hq, by rw [e0]; exact rcAt_ext a1 hx a5 (by unfold D1; omega) (by unfold D1; omega), RX_ext a1 hx a6 (by unfold D1; omega) (fun p hp => by unfold D1; omega) e1 e2⟩
theorem cPost_same {x m : Nat} {h : zH} {ans : Int32 × sW} {v : Int32} {w : sW} (hR : RepC h x m w) (e : ans = (v, w)) : cPost x m h ans (some (.int v)) h := ⟨by rw [e], by rw [e]; exact hR, fun _ _ _ => rfl⟩

