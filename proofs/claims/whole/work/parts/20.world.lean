/-! The document's world, and what each promise answers in it (my words; both programs are held against them) -/
/-- an array: its kind, its cells -/
abbrev sA : Type := Int32 × List sC
/-- the records: 0 empty, 1 a tag, 2 an array; its array; which hold the same -/
abbrev sR : Type := (Nat → Nat) × (Nat → sA) × (Nat → Nat → Bool)
/-- a step: which, left, right, 0 alike 1 near 2 off 3 alone 4 twice, its cost -/
abbrev sStep : Type := Int32 × Int32 × Int32 × Int32 × Int32
abbrev sCo : Type := sA × sA × Int32 × List sStep
/-- an act: which, old cell, new cell -/
abbrev sAct : Type := Int32 × Option sC × Option sC
/-- records, images, rates, got, torn, comparison, patches -/
abbrev sW : Type := sR × (Nat → Option sR) × (Nat → Int32) × Int64 × Int32 × Option sCo × (Nat → Option (List sAct))
abbrev z0 : sC := (0, 0, 0)
/-- a cell stands in arrays of this kind -/
def sFit (c : sC) (k : Int32) : Prop := (k ≤ 7 → c.1 = k) ∧ (7 < k → sInto c.1 k = true)
def aOk (A : sA) : Prop := 0 ≤ A.1 ∧ A.1 ≤ 10 ∧ A.2.length ≤ 20 ∧ ∀ c, c ∈ A.2 → sOk c ∧ sFit c A.1
abbrev isRec (r : Int32) : Prop := 0 ≤ r ∧ r ≤ 7
def rNew (R : sR) (r : Nat) (A : sA) : sR := (fun x => if x = r then 2 else R.1 x, fun x => if x = r then A else R.2.1 x, fun x y => if x = r ∨ y = r then decide (x = y) else R.2.2 x y)
def rStat (R : sR) (r st : Nat) : sR := (fun x => if x = r then st else R.1 x, R.2)
def rShare (R : sR) (r s : Nat) : sR := (fun x => R.1 (if x = r then s else x), fun x => R.2.1 (if x = r then s else x), fun x y => R.2.2 (if x = r then s else x) (if y = r then s else y))
def rWrite (R : sR) (r : Nat) (A : sA) : sR := (R.1, fun x => if R.2.2 x r = true then A else R.2.1 x, R.2.2)
def rCell (R : sR) (r i : Nat) : sC := (R.2.1 r).2.getD i z0
def rSet (R : sR) (r i : Nat) (c : sC) : sR := rWrite R r ((R.2.1 r).1, (R.2.1 r).2.set i c)
def blank0 (kind : Int32) (n : Nat) : sA := (kind, List.replicate n (if 7 < kind then 9 else kind, 0, 0))
def rowF (R : sR) (r : Nat) : Int32 := if R.1 r = 0 then 1 else if R.1 r = 1 then 2 else 0
def cellF (R : sR) (r : Nat) (i : Int) : Int32 := if 0 < rowF R r then rowF R r else if 0 ≤ i ∧ i < (R.2.1 r).2.length then 0 else 3
def readF (R : sR) (r : Nat) (kind : Int32) : Int32 := if 7 < (R.2.1 r).1 then 4 else if sInto (R.2.1 r).1 kind = true then 0 else 5
def askF (R : sR) (r : Nat) (i : Int) (kind : Int32) : Int32 := if 0 < cellF R r i then cellF R r i else readF R r kind
def putF (R : sR) (r : Nat) (i : Int) (sort : Int32) : Int32 := if 0 < cellF R r i then cellF R r i else if 7 < (R.2.1 r).1 then 4 else if sInto sort (R.2.1 r).1 = true then 0 else 5
def layF (R : sR) (r : Nat) (i : Int) (sort : Int32) : Int32 := if 0 < cellF R r i then cellF R r i else if sInto sort (R.2.1 r).1 = true then 0 else 5
/-- the least of the records from i on that holds the same as r -/
def rLeast (R : sR) (r : Nat) : Nat → Nat → Nat
  | 0, i => i
  | n + 1, i => if R.1 i = 2 ∧ R.2.2 i r = true then i else rLeast R r n (i + 1)
abbrev ix (r : Int32) : Nat := r.toNatClampNeg
def wR (w : sW) (R : sR) : sW := (R, w.2)
def wGot (w : sW) (x : Int64) : sW := (w.1, w.2.1, w.2.2.1, x, w.2.2.2.2)
def wTorn (w : sW) (x : Int32) : sW := (w.1, w.2.1, w.2.2.1, w.2.2.2.1, x, w.2.2.2.2.2)
def wRate (w : sW) (i : Nat) (x : Int32) : sW := (w.1, w.2.1, upd w.2.2.1 i x, w.2.2.2)
/-- 2 -/
def pRecord (w : sW) (r kind n : Int32) : Int32 × sW :=
  if ¬ isRec r ∨ ¬ (0 ≤ kind ∧ kind ≤ 12) ∨ (kind ≤ 10 ∧ 20 < n) then (-1, w)
  else if 10 < kind then (1, wR w (rStat w.1 (ix r) (if kind = 11 then 1 else 0)))
  else if n < 0 then (-16, w)
  else (1, wR w (rNew w.1 (ix r) (blank0 kind (ix n))))
/-- 3 -/
def pShare (w : sW) (r s : Int32) : Int32 × sW := if ¬ isRec r ∨ ¬ isRec s then (-1, w) else (1, wR w (rShare w.1 (ix r) (ix s)))
/-- 4 -/
def pKind (w : sW) (r what : Int32) : Int32 × sW :=
  (if ¬ isRec r ∨ ¬ (0 ≤ what ∧ what ≤ 1) then -1
  else if w.1.1 (ix r) ≠ 2 then (if what = 1 then -4 else if w.1.1 (ix r) = 1 then 11 else 12)
  else if what = 0 then (w.1.2.1 (ix r)).1 else nI (rLeast w.1 (ix r) 8 0), w)
/-- 5 -/
def pSize (w : sW) (r : Int32) : Int32 × sW := (if ¬ isRec r then -1 else if 0 < rowF w.1 (ix r) then -10 - rowF w.1 (ix r) else nI (w.1.2.1 (ix r)).2.length, w)
/-- 6 -/
def pAsk (w : sW) (r i kind : Int32) : Int32 × sW :=
  if ¬ isRec r ∨ ¬ sNum kind then (-1, w)
  else if 0 < askF w.1 (ix r) i.toInt kind then (-10 - askF w.1 (ix r) i.toInt kind, w)
  else (1, wGot w (sAmt (rCell w.1 (ix r) (ix i)) kind))
/-- 7 -/
def pBox (w : sW) (r i : Int32) : Int32 × sW :=
  if ¬ isRec r then (-1, w)
  else if 0 < cellF w.1 (ix r) i.toInt then (-10 - cellF w.1 (ix r) i.toInt, w)
  else ((rCell w.1 (ix r) (ix i)).1, wGot w (sAmt (rCell w.1 (ix r) (ix i)) (rCell w.1 (ix r) (ix i)).1))
/-- 9 -/
def pPut (w : sW) (r i sort v : Int32) : Int32 × sW :=
  if ¬ isRec r ∨ ¬ sNum sort then (-1, w)
  else if 0 < putF w.1 (ix r) i.toInt sort then (-10 - putF w.1 (ix r) i.toInt sort, w)
  else (1, wR w (rSet w.1 (ix r) (ix i) (sConv (sVal sort v) (w.1.2.1 (ix r)).1)))
/-- 10 -/
def pLay (w : sW) (r i sort v : Int32) : Int32 × sW :=
  if ¬ isRec r ∨ ¬ (0 ≤ sort ∧ sort ≤ 10) then (-1, w)
  else if 0 < layF w.1 (ix r) i.toInt sort then (-10 - layF w.1 (ix r) i.toInt sort, w)
  else (1, wR w (rSet w.1 (ix r) (ix i) (sConv (sVal sort v) (w.1.2.1 (ix r)).1)))
/-- n cells more, from the k-th on, as put does: how many, the fault, the records -/
def pFillL (r : Nat) (i : Int) (c : sC) : Nat → Nat → sR → Nat × Int32 × sR
  | 0, k, R => (k, 0, R)
  | n + 1, k, R => if putF R r (i + k) c.1 = 0 then pFillL r i c n (k + 1) (rSet R r (i + k).toNat (sConv c (R.2.1 r).1)) else (k, putF R r (i + k) c.1, R)
/-- 11 -/
def pFill (w : sW) (r i n sort v : Int32) : Int32 × sW :=
  if ¬ isRec r ∨ ¬ (0 ≤ n ∧ n ≤ 20) ∨ ¬ sNum sort then (-1, w)
  else (nI (pFillL (ix r) i.toInt (sVal sort v) (ix n) 0 w.1).1, wTorn (wR w (pFillL (ix r) i.toInt (sVal sort v) (ix n) 0 w.1).2.2) (pFillL (ix r) i.toInt (sVal sort v) (ix n) 0 w.1).2.1)
def moveF (R : sR) (r : Nat) (i : Int) (s : Nat) (j : Int) : Int32 := if 0 < cellF R s j then cellF R s j else layF R r i (rCell R s j.toNat).1
def pMoveL (r : Nat) (i : Int) (s : Nat) (j : Int) : Nat → Nat → sR → Nat × Int32 × sR
  | 0, k, R => (k, 0, R)
  | n + 1, k, R => if moveF R r (i + k) s (j + k) = 0 then pMoveL r i s j n (k + 1) (rSet R r (i + k).toNat (sConv (rCell R s (j + k).toNat) (R.2.1 r).1)) else (k, moveF R r (i + k) s (j + k), R)
/-- 12 -/
def pMove (w : sW) (r i s j n : Int32) : Int32 × sW :=
  if ¬ isRec r ∨ ¬ isRec s ∨ ¬ (0 ≤ n ∧ n ≤ 20) then (-1, w)
  else (nI (pMoveL (ix r) i.toInt (ix s) j.toInt (ix n) 0 w.1).1, wTorn (wR w (pMoveL (ix r) i.toInt (ix s) j.toInt (ix n) 0 w.1).2.2) (pMoveL (ix r) i.toInt (ix s) j.toInt (ix n) 0 w.1).2.1)
def sumL (L : List sC) : Int64 := L.foldl (fun a c => a + c.2.1) 0
def sumF (L : List sC) : UInt32 := L.foldl (fun a c => FP.fadd a (FP.d2f (sReal c 6))) FP.fconst0
def sumD (L : List sC) : UInt64 := L.foldl (fun a c => FP.dadd a (sReal c 7)) FP.dconst0
def sSum (L : List sC) (kind : Int32) : Int64 := if kind = 6 then sBits 6 (FP.f2d (sumF L)) else if kind = 7 then sBits 7 (sumD L) else sumL L
def sumFt (R : sR) (r : Nat) (kind : Int32) : Int32 := if 0 < rowF R r then rowF R r else if (R.2.1 r).2.length = 0 then 0 else readF R r kind
/-- 14 -/
def pSum (w : sW) (r kind : Int32) : Int32 × sW :=
  if ¬ isRec r ∨ ¬ (1 ≤ kind ∧ kind ≤ 7) then (-1, w)
  else if 0 < sumFt w.1 (ix r) kind then (-10 - sumFt w.1 (ix r) kind, w)
  else (1, wGot w (sSum (w.1.2.1 (ix r)).2 kind))
/-- 15 -/
def pRate (w : sW) (what v : Int32) : Int32 × sW :=
  if ¬ (0 ≤ what ∧ what ≤ 3) ∨ ¬ ((if what = 1 ∨ what = 2 then 1 else 0) ≤ v ∧ v ≤ (if what = 0 then 99 else 9)) then (-1, w)
  else (w.2.2.1 (ix what), wRate w (ix what) v)
/-- 16 -/
def pLike (w : sW) (a i b j : Int32) : Int32 × sW :=
  (if ¬ isRec a ∨ ¬ isRec b then -1
  else if 0 < cellF w.1 (ix a) i.toInt then -10 - cellF w.1 (ix a) i.toInt
  else if 0 < cellF w.1 (ix b) j.toInt then -10 - cellF w.1 (ix b) j.toInt
  else sLike (rCell w.1 (ix a) (ix i)) (rCell w.1 (ix b) (ix j)) (w.2.2.1 0), w)
/-! The reference's state stands for a world -/
def mRowIs (S : sMS) (k : Nat) (A : sA) : Prop := S.1 4 k = A.1 ∧ S.1 5 k = nI A.2.length ∧ aOk A ∧ ∀ i, i < A.2.length → mc S (20 * k + i) = A.2.getD i z0
def rRep (hold : Nat → Int32) (row : Nat → sA → Prop) (R : sR) : Prop :=
  (∀ r, r < 8 → (R.1 r = 0 ∧ hold r = -1) ∨ (R.1 r = 1 ∧ hold r = -2) ∨ (R.1 r = 2 ∧ ∃ k, k < 8 ∧ hold r = nI k ∧ row k (R.2.1 r))) ∧
  ∀ r s, r < 8 → s < 8 → R.1 r = 2 → R.1 s = 2 → (R.2.2 r s = true ↔ hold r = hold s)
def rateOk (q : Nat → Int32) : Prop := 0 ≤ q 0 ∧ q 0 ≤ 99 ∧ 1 ≤ q 1 ∧ q 1 ≤ 9 ∧ 1 ≤ q 2 ∧ q 2 ≤ 9 ∧ 0 ≤ q 3 ∧ q 3 ≤ 9
def stepIs (S : sMS) (A B : sA) (k : Nat) (t : sStep) : Prop :=
  S.1 9 k = t.1 ∧ S.1 12 k = t.2.2.2.2 ∧ S.1 13 k = (if t.2.2.2.1 = 4 then 1 else 0) ∧
  ((t.1 = 0 ∧ S.1 10 k = t.2.1 ∧ S.1 11 k = t.2.2.1 ∧ (∃ i j, i < A.2.length ∧ j < B.2.length ∧ t.2.1 = nI i ∧ t.2.2.1 = nI j ∧ (sAlike (A.2.getD i z0) (B.2.getD j z0) = true ↔ t.2.2.2.1 = 0)) ∧ S.1 14 k = (if t.2.2.2.1 = 1 then 1 else 0) ∧ (t.2.2.2.1 = 0 ∨ t.2.2.2.1 = 1 ∨ t.2.2.2.1 = 2)) ∨
   (t.1 = 1 ∧ S.1 10 k = t.2.1 ∧ S.1 11 k = t.2.2.1 ∧ t.2.2.1 = -4 ∧ (∃ i, i < A.2.length ∧ t.2.1 = nI i) ∧ (t.2.2.2.1 = 3 ∨ t.2.2.2.1 = 4)) ∨
   (t.1 = 2 ∧ S.1 10 k = t.2.1 ∧ S.1 11 k = t.2.2.1 ∧ t.2.1 = -4 ∧ (∃ j, j < B.2.length ∧ t.2.2.1 = nI j) ∧ (t.2.2.2.1 = 3 ∨ t.2.2.2.1 = 4)))
def coIs (S : sMS) (C : Option sCo) : Prop := match C with
  | none => S.2.2.2.1 10 = 0
  | some C => S.2.2.2.1 10 = 1 ∧ mRowIs S 24 C.1 ∧ mRowIs S 25 C.2.1 ∧ S.2.2.2.1 11 = C.2.2.1 ∧ S.2.2.2.1 12 = nI C.2.2.2.length ∧ C.2.2.2.length ≤ 40 ∧ ∀ k t, C.2.2.2[k]? = some t → stepIs S C.1 C.2.1 k t
def actIs (S : sMS) (p k : Nat) (a : sAct) : Prop := S.1 17 (40 * p + k) = a.1 ∧ 0 ≤ a.1 ∧ a.1 ≤ 3 ∧ (a.2.1 = none ↔ a.1 = 3) ∧ (a.2.2 = none ↔ a.1 = 2) ∧ (∀ c, a.2.1 = some c → mc S (560 + (40 * p + k)) = c ∧ sOk c) ∧ (∀ c, a.2.2 = some c → mc S (720 + (40 * p + k)) = c ∧ sOk c)
def patIs (S : sMS) (p : Nat) (L : Option (List sAct)) : Prop := match L with
  | none => S.1 15 p = 0
  | some L => S.1 15 p = 1 ∧ S.1 16 p = nI L.length ∧ L.length ≤ 40 ∧ ∀ k a, L[k]? = some a → actIs S p k a
def imgIs (S : sMS) (k : Nat) (I : Option sR) : Prop := match I with
  | none => S.1 18 k = 0
  | some R => S.1 18 k = 1 ∧ rRep (fun r => S.1 19 (8 * k + r)) (fun j => mRowIs S (8 + 8 * k + j)) R
/-- all but the records, got and torn -/
def RepX (S : sMS) (w : sW) : Prop := (∀ k, k < 2 → imgIs S k (w.2.1 k)) ∧ (∀ i, i < 4 → S.1 7 i = w.2.2.1 i) ∧ rateOk w.2.2.1 ∧ coIs S w.2.2.2.2.2.1 ∧ ∀ p, p < 4 → patIs S p (w.2.2.2.2.2.2 p)
def RepM (S : sMS) (w : sW) : Prop := rRep (S.1 6) (mRowIs S) w.1 ∧ RepX S w ∧ S.2.2.2.2 = w.2.2.2.1 ∧ S.2.2.2.1 7 = w.2.2.2.2.1
/-- what the rest rests on is the same -/
def agree (S S' : sMS) : Prop := (∀ j, j = 7 ∨ (8 < j ∧ j < 20) → S'.1 j = S.1 j) ∧ (∀ k, 8 ≤ k → k < 26 → S'.1 4 k = S.1 4 k ∧ S'.1 5 k = S.1 5 k) ∧ (∀ a, (160 ≤ a ∧ a < 520) ∨ 560 ≤ a → mc S' a = mc S a) ∧ S'.2.2.2.1 10 = S.2.2.2.1 10 ∧ S'.2.2.2.1 11 = S.2.2.2.1 11 ∧ S'.2.2.2.1 12 = S.2.2.2.1 12
theorem mRowIs_agree {S S' : sMS} (h : agree S S') {k : Nat} (h8 : 8 ≤ k) (h26 : k < 26) {A : sA} (hA : mRowIs S k A) : mRowIs S' k A := by
  obtain ⟨h1, h2, h3, h4⟩ := hA
  refine ⟨((h.2.1 k h8 h26).1).trans h1, ((h.2.1 k h8 h26).2).trans h2, h3, fun i hi => ?_⟩
  have := h3.2.2.1
  rw [h.2.2.1 _ (Or.inl ⟨by omega, by omega⟩)]
  exact h4 i hi
theorem RepX_agree {S S' : sMS} {w : sW} (h : agree S S') (hX : RepX S w) : RepX S' w := by
  obtain ⟨h1, h2, h3, h4, h5⟩ := hX
  have e7 := h.1 7 (by omega)
  have e9 := h.1 9 (by omega)
  have e10 := h.1 10 (by omega)
  have e11 := h.1 11 (by omega)
  have e12 := h.1 12 (by omega)
  have e13 := h.1 13 (by omega)
  have e14 := h.1 14 (by omega)
  have e15 := h.1 15 (by omega)
  have e16 := h.1 16 (by omega)
  have e17 := h.1 17 (by omega)
  have e18 := h.1 18 (by omega)
  have e19 := h.1 19 (by omega)
  refine ⟨fun k hk => ?_, fun i hi => by rw [e7]; exact h2 i hi, h3, ?_, fun p hp => ?_⟩
  · have := h1 k hk
    unfold imgIs at this ⊢
    generalize w.2.1 k = I at this ⊢
    cases I with
    | none => rw [e18]; exact this
    | some R =>
      simp only [e18, e19]
      refine ⟨this.1, fun r hr => ?_, this.2.2⟩
      rcases this.2.1 r hr with q | q | ⟨q, j, hj, q2, q3⟩
      · exact Or.inl q
      · exact Or.inr (Or.inl q)
      · exact Or.inr (Or.inr ⟨q, j, hj, q2, mRowIs_agree h (by omega) (by omega) q3⟩)
  · unfold coIs at h4 ⊢
    generalize w.2.2.2.2.2.1 = I at h4 ⊢
    cases I with
    | none => rw [h.2.2.2.1]; exact h4
    | some C =>
      obtain ⟨q1, q2, q3, q4, q5, q6, q7⟩ := h4
      refine ⟨by rw [h.2.2.2.1]; exact q1, mRowIs_agree h (by omega) (by omega) q2, mRowIs_agree h (by omega) (by omega) q3, by rw [h.2.2.2.2.1]; exact q4, by rw [h.2.2.2.2.2]; exact q5, q6, fun k t hk => ?_⟩
      have := q7 k t hk
      unfold stepIs at this ⊢
      rw [e9, e10, e11, e12, e13, e14]
      exact this
  · have := h5 p hp
    unfold patIs at this ⊢
    generalize w.2.2.2.2.2.2 p = I at this ⊢
    cases I with
    | none => rw [e15]; exact this
    | some L =>
      obtain ⟨q1, q2, q3, q4⟩ := this
      refine ⟨by rw [e15]; exact q1, by rw [e16]; exact q2, q3, fun k a hk => ?_⟩
      obtain ⟨a1, a2, a3, a4, a5, a6, a7⟩ := q4 k a hk
      exact ⟨by rw [e17]; exact a1, a2, a3, a4, a5, fun c hc => by rw [h.2.2.1 _ (Or.inr (by omega))]; exact a6 c hc, fun c hc => by rw [h.2.2.1 _ (Or.inr (by omega))]; exact a7 c hc⟩
