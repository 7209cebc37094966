theorem rc_re {h : zH} {col : Nat → Nat} {p : Nat} {R R' : sR} {F F' : Nat → Option Nat} {Z Z' : Nat → Int32} (hw : wfH h) (hr : rcAt h col 2 8 p R F Z) (H3 : ∀ r, r < 8 → (R'.1 r = 0 ∧ F' r = none ∧ Z' r = 0) ∨ (R'.1 r = 1 ∧ F' r = none ∧ Z' r = 1) ∨ (R'.1 r = 2 ∧ Z' r = 0 ∧ ∃ a, F' r = some a ∧ cIs h a (R'.2.1 r) ∧ ∀ q, a ≤ q → q < a + 4 → col q = 2)) (H4 : ∀ r s, r < 8 → s < 8 → R'.1 r = 2 → R'.1 s = 2 → (R'.2.2 r s = true ↔ F' r = F' s)) : rcAt (rUp p F' Z' h) col 2 8 p R' F' Z' ∧ ext h (rUp p F' Z' h) col col D28 := by
  obtain ⟨a1, a2, a3, a4⟩ := hr
  have hl := wf_lt hw a1.2.2
  have hx : ext h (rUp p F' Z' h) col col (fun c => c = 8) := ⟨Nat.le_refl _, fun q hq => by
      have hq : h.1 ≤ q := hq
      rw [rUp_out (by omega)]; exact hw q hq, fun _ _ => rfl, fun q _ hD => rUp_out (by
      rcases Nat.lt_or_ge q p with z | z
      · exact Or.inl z
      · rcases Nat.lt_or_ge q (p + 3) with z2 | z2
        · exact absurd (a2 q z z2) hD
        · exact Or.inr z2)⟩
  refine ⟨⟨rUp_at _ _ _ _, a2, fun r hr => ?_, H4⟩, hx.1, hx.2.1, hx.2.2.1, fun q hq hD => hx.2.2.2 q hq (fun z => hD (Or.inr z))⟩
  rcases H3 r hr with z | z | ⟨z1, z2, a, z3, z4, z5⟩
  · exact Or.inl z
  · exact Or.inr (Or.inl z)
  · have := cIs_ext hw hx z4 z5 (by decide)
    exact Or.inr (Or.inr ⟨z1, z2, a, z3, this.1, this.2⟩)
theorem rc_stat {h : zH} {col : Nat → Nat} {p : Nat} {R : sR} {F : Nat → Option Nat} {Z : Nat → Int32} (hw : wfH h) (hr : rcAt h col 2 8 p R F Z) {r st : Nat} {z : Int32} (hst : (st = 0 ∧ z = 0) ∨ (st = 1 ∧ z = 1)) : rcAt (rUp p (va_up F r none) (upd Z r z) h) col 2 8 p (rStat R r st) (va_up F r none) (upd Z r z) ∧ ext h (rUp p (va_up F r none) (upd Z r z) h) col col D28 := by
  refine rc_re hw hr (fun s hs => ?_) (fun s t hs ht e1 e2 => ?_)
  · simp only [rStat, va_up, upd]
    by_cases e : s = r
    · simp only [if_pos e]
      rcases hst with q | q
      · exact Or.inl ⟨q.1, trivial, q.2⟩
      · exact Or.inr (Or.inl ⟨q.1, trivial, q.2⟩)
    · simp only [if_neg e]
      exact hr.2.2.1 s hs
  · simp only [rStat] at e1 e2
    have n1 : s ≠ r := fun q => by rw [if_pos q] at e1; omega
    have n2 : t ≠ r := fun q => by rw [if_pos q] at e2; omega
    rw [if_neg n1] at e1
    rw [if_neg n2] at e2
    simp only [rStat, va_up, if_neg n1, if_neg n2]
    exact hr.2.2.2 s t hs ht e1 e2
theorem rc_share {h : zH} {col : Nat → Nat} {p : Nat} {R : sR} {F : Nat → Option Nat} {Z : Nat → Int32} (hw : wfH h) (hr : rcAt h col 2 8 p R F Z) {r s : Nat} (hs8 : s < 8) : rcAt (rUp p (va_up F r (F s)) (upd Z r (Z s)) h) col 2 8 p (rShare R r s) (va_up F r (F s)) (upd Z r (Z s)) ∧ ext h (rUp p (va_up F r (F s)) (upd Z r (Z s)) h) col col D28 := by
  have eF : ∀ t, va_up F r (F s) t = F (if t = r then s else t) := fun t => by simp only [va_up]; split <;> rfl
  have eZ : ∀ t, upd Z r (Z s) t = Z (if t = r then s else t) := fun t => by simp only [upd]; split <;> rfl
  have lt : ∀ t, t < 8 → (if t = r then s else t) < 8 := fun t ht => by split <;> assumption
  refine rc_re hw hr (fun t ht => ?_) (fun t u ht hu e1 e2 => ?_)
  · rw [eF, eZ]
    exact hr.2.2.1 _ (lt t ht)
  · rw [eF, eF]
    exact hr.2.2.2 _ _ (lt t ht) (lt u hu) e1 e2
theorem rc_put {h : zH} {col : Nat → Nat} {p : Nat} {R : sR} {F : Nat → Option Nat} {Z : Nat → Int32} (hw : wfH h) (hr : rcAt h col 2 8 p R F Z) {r a : Nat} {A : sA} (hA : cIs h a A) (hcol : ∀ q, a ≤ q → q < a + 4 → col q = 2) (hne : ∀ s, s < 8 → F s ≠ some a) : rcAt (rUp p (va_up F r (some a)) (upd Z r 0) h) col 2 8 p (rNew R r A) (va_up F r (some a)) (upd Z r 0) ∧ ext h (rUp p (va_up F r (some a)) (upd Z r 0) h) col col D28 := by
  refine rc_re hw hr (fun s hs => ?_) (fun s t hs ht e1 e2 => ?_)
  · simp only [rNew, va_up, upd]
    by_cases e : s = r
    · simp only [if_pos e]
      exact Or.inr (Or.inr ⟨trivial, trivial, a, rfl, hA, hcol⟩)
    · simp only [if_neg e]
      exact hr.2.2.1 s hs
  · simp only [rNew, va_up] at e1 e2 ⊢
    by_cases n1 : s = r
    · by_cases n2 : t = r
      · rw [if_pos n1, if_pos n2, if_pos (Or.inl n1), decide_eq_true_eq, n1, n2]; exact ⟨fun _ => rfl, fun _ => rfl⟩
      · rw [if_pos n1, if_neg n2, if_pos (Or.inl n1), decide_eq_true_eq]
        exact ⟨fun z => absurd (z.symm.trans n1) n2, fun z => absurd z.symm (hne t ht)⟩
    · rw [if_neg n1] at e1
      by_cases n2 : t = r
      · rw [if_neg n1, if_pos n2, if_pos (Or.inr n2), decide_eq_true_eq]
        exact ⟨fun z => absurd (z.trans n2) n1, fun z => absurd z (hne s hs)⟩
      · rw [if_neg n2] at e2
        rw [if_neg n1, if_neg n2, if_neg (by rintro (z | z); exact n1 z; exact n2 z)]
        exact hr.2.2.2 s t hs ht e1 e2
theorem cPost_rc {x m : Nat} {h h1 : zH} {w : sW} {ans : Int32 × sW} {v : Int32} {col col' : Nat → Nat} {p : Nat} {F F' : Nat → Option Nat} {Z Z' : Nat → Int32} {k : Option Nat} {I P : Nat → Option Nat} {q : Nat → Int32} {T : alT} {V : Nat → sC} (hR : RC h x m w col p F Z k I P q T V) {R' : sR} (hh : rcAt h1 col' 2 8 p R' F' Z' ∧ ext h h1 col col' D28) (ea : ans = (v, wR w R')) : cPost x m h ans (some (.int v)) h1 := ⟨by rw [ea], by rw [ea]; exact ⟨col', p, F', Z', k, I, P, q, T, V, RC_rec hR hh.2 hh.1⟩, ext_mod hh.2 hR.2.1 (by unfold D28; omega)⟩
/-- a new row of cells lies behind all: its colour is 2 -/
def colN (col : Nat → Nat) (b c : Nat) : Nat → Nat := fun q => if b ≤ q then c else col q
theorem ext_new {h h1 : zH} {col : Nat → Nat} (c : Nat) (D : Nat → Prop) (h1w : wfH h1) (hl : h.1 ≤ h1.1) (hf : ∀ q, q < h.1 → h1.2 q = h.2 q) : ext h h1 col (colN col h.1 c) D := ⟨hl, h1w, fun q hq => by simp only [colN]; rw [if_neg (by omega)], fun q hq _ => hf q hq⟩
theorem wf_cUp {h : zH} (hw : wfH h) (k : Int32) (n : Nat) (c : Nat → sC) : wfH (cUp h.1 k n c (h.1 + 4, h.2)) := fun q hq => by
  have hq : h.1 + 4 ≤ q := hq
  rw [cUp_out (by omega)]
  exact hw q (by omega)
/-- the world with a new row of cells that nobody holds yet -/
theorem RC_new {h h1 : zH} {x m : Nat} {w : sW} {col : Nat → Nat} {p : Nat} {F : Nat → Option Nat} {Z : Nat → Int32} {k : Option Nat} {I P : Nat → Option Nat} {q : Nat → Int32} {T : alT} {V : Nat → sC} (hR : RC h x m w col p F Z k I P q T V) (c : Nat) (h1w : wfH h1) (hl : h.1 ≤ h1.1) (hf : ∀ q, q < h.1 → h1.2 q = h.2 q) : RC h1 x m w (colN col h.1 c) p F Z k I P q T V := by
  have hx := ext_new (col := col) c D1 h1w hl hf
  refine RC_st hR hx (stAt_fr hR.2.2.1 (fun q q1 q2 q3 => hf q ?_)) hR.2.2.2.1 rfl rfl rfl
  have := hR.2.1.1
  have := hR.2.1.2.1
  omega
theorem rc_fresh {h : zH} {col : Nat → Nat} {cc oc p : Nat} {R : sR} {F : Nat → Option Nat} {Z : Nat → Int32} (hw : wfH h) (hr : rcAt h col cc oc p R F Z) {a : Nat} (ha : h.1 ≤ a) : ∀ s, s < 8 → F s ≠ some a := fun s hs e => by
  obtain ⟨-, -, ⟨-, c, hc, -⟩, -⟩ := rc_a hr hs e
  have := cAt_lt hc hw
  omega
/-- a record holds a new row of cells at a -/
theorem cPost_new {x m : Nat} {h h1 : zH} {w : sW} {ans : Int32 × sW} {v : Int32} {col : Nat → Nat} {p : Nat} {F : Nat → Option Nat} {Z : Nat → Int32} {k : Option Nat} {I P : Nat → Option Nat} {q : Nat → Int32} {T : alT} {V : Nat → sC} (hR : RC h x m w col p F Z k I P q T V) (h1w : wfH h1) (hl : h.1 ≤ h1.1) (hf : ∀ q, q < h.1 → h1.2 q = h.2 q) {a : Nat} (ha : h.1 ≤ a) {A : sA} (hA : cIs h1 a A) {r : Nat} (ea : ans = (v, wR w (rNew w.1 r A))) : cPost x m h ans (some (.int v)) (rUp p (va_up F r (some a)) (upd Z r 0) h1) := by
  have hR1 := RC_new hR 2 h1w hl hf
  have hc := rc_put (r := r) h1w hR1.2.2.2.2.1 hA (fun q q1 q2 => by simp only [colN]; rw [if_pos (by omega)]) (rc_fresh hR.1 hR.2.2.2.2.1 ha)
  have := cPost_rc hR1 hc ea
  refine ⟨this.1, this.2.1, fun q q1 q2 => (this.2.2 q q1 q2).trans (hf q ?_)⟩
  have := hR.2.1.2.1
  omega
theorem m_holdI (g : zG) (h : zH) (p : Nat) (F : Nat → Option Nat) (Z : Nat → Int32) (hP : rAt h p F Z) (r : Int32) (hr : isRec r) (v : Nat) (vs : List Value) (hv : h.2 v = some (.inr (2, vs))) : zXv g yX8_hold cX8_hold 3 none rmX8_hold [.ref p, .int r, .ref v] h (rUp p (va_up F (ix r) (some v)) (upd Z (ix r) 0) h) := by
  have := m_hold g h p F Z hP (ix r) (ix_lt hr) v vs hv
  rwa [nI_ix hr.1] at this
theorem m_holdNI (g : zG) (h : zH) (p : Nat) (F : Nat → Option Nat) (Z : Nat → Int32) (hP : rAt h p F Z) (r : Int32) (hr : isRec r) : zXv g yX8_hold cX8_hold 3 none rmX8_hold [.ref p, .int r, .null] h (rUp p (va_up F (ix r) none) (upd Z (ix r) 0) h) := by
  have := m_holdN g h p F Z hP (ix r) (ix_lt hr)
  rwa [nI_ix hr.1] at this
theorem m_holdSiI (g : zG) (h : zH) (p : Nat) (F : Nat → Option Nat) (Z : Nat → Int32) (hP : rAt h p F Z) (r : Int32) (hr : isRec r) : zXv g yX8_holdSingle cX8_holdSingle 2 none rmX8_holdSingle [.ref p, .int r] h (rUp p (va_up F (ix r) none) (upd Z (ix r) 1) h) := by
  have := m_holdSingle g h p F Z hP (ix r) (ix_lt hr)
  rwa [nI_ix hr.1] at this
theorem m_holdSaI (g : zG) (h : zH) (col : Nat → Nat) (p : Nat) (R : sR) (F : Nat → Option Nat) (Z : Nat → Int32) (hA : rcAt h col 2 8 p R F Z) (r s : Int32) (hr : isRec r) (hs : isRec s) : zXv g yX8_holdSame cX8_holdSame 3 none rmX8_holdSame [.ref p, .int r, .int s] h (rUp p (va_up F (ix r) (F (ix s))) (upd Z (ix r) (Z (ix s))) h) := by
  rcases hF : F (ix s) with _ | v
  · have := m_holdSameN g h p F Z hA.1 (ix r) (ix_lt hr) (ix s) (ix_lt hs) (rc_Z hA (ix_lt hs)) hF
    rwa [nI_ix hr.1, nI_ix hs.1] at this
  · obtain ⟨-, -, ⟨-, c, hc, -⟩, -⟩ := rc_a hA (ix_lt hs) hF
    have := m_holdSame g h p F Z hA.1 (ix r) (ix_lt hr) (ix s) (ix_lt hs) (rc_Z hA (ix_lt hs)) v _ hF hc.1
    rwa [nI_ix hr.1, nI_ix hs.1] at this
theorem blank_c (kind : Int32) (n : Nat) : ∀ i, i < (blank0 kind n).2.length → cIn kind n i = (blank0 kind n).2.getD i z0 := fun i hi => by
  have hl : (blank0 kind n).2.length = n := List.length_replicate
  rw [hl] at hi
  show ((if i < n then (bC kind).1 else 0, 0, 0) : sC) = (List.replicate n _).getD i z0
  rw [if_pos hi, List.getD_eq_getElem?_getD, List.getElem?_replicate, if_pos hi]
  rfl

set_option maxHeartbeats 800000 in
set_option maxRecDepth 100000 in
theorem C_record (g : zG) (h : zH) (x m : Nat) (w : sW) (hRC : RepC h x m w) (r kind n : Int32) : zM g yX9_record cX9_record 4 (some .int) rmX9_record [.ref x, .int r, .int kind, .int n] h (cPost x m h (pRecord w r kind n)) := by
  refine zM_of (by decide) (Nat.le_of_ble_eq_true rfl) ?_
  obtain ⟨col, p, F, Z, k, I, P, q, T, V, hR⟩ := id hRC
  obtain ⟨hw, hz, hS, hq, hr, hX⟩ := id hR
  obtain ⟨S0, S1, S2, S3, S4, S5⟩ := id hS
  obtain ⟨R0, R1, R2, R3⟩ := id hr
  refine z_iload_n dX9_record_0 rfl rfl ?_
  refine zcx_X9_46 rfl dX9_record_1 rfl (m_isRecord g h _) rfl rfl ⟨(Nat.le_of_ble_eq_true rfl), (Nat.le_of_ble_eq_true rfl)⟩ ⟨(Nat.le_of_ble_eq_true rfl), (Nat.le_of_ble_eq_true rfl)⟩ (Nat.le_of_ble_eq_true rfl) ?_
  refine z_bif_eq (tgt := 17) dX9_record_4 rfl (by decide) (fun c4 => ?_) (fun c4 => ?_)
  · skip
    refine z_iconst (v := -1) dX9_record_17 rfl (by decide) ?_
    exact z_iret dX9_record_18 rfl rfl (cPost_same hRC (by grind [pRecord])) (Nat.le_of_ble_eq_true rfl) (Nat.le_of_ble_eq_true rfl)
  · skip
    refine z_iload_n dX9_record_7 rfl rfl ?_
    refine z_iconst (v := 0) dX9_record_8 rfl (by decide) ?_
    refine z_bipush (v := 12) dX9_record_9 rfl (by decide) ?_
    refine zcx_X9_50 rfl dX9_record_11 rfl (m_isWithin g h _ _ _) rfl rfl ⟨(Nat.le_of_ble_eq_true rfl), (Nat.le_of_ble_eq_true rfl)⟩ ⟨(Nat.le_of_ble_eq_true rfl), (Nat.le_of_ble_eq_true rfl)⟩ (Nat.le_of_ble_eq_true rfl) ?_
    refine z_bif_ne (tgt := 19) dX9_record_14 rfl (by decide) (fun c14 => ?_) (fun c14 => ?_)
    · skip
      refine z_iload_n dX9_record_19 rfl rfl ?_
      refine z_bipush (v := 12) dX9_record_20 rfl (by decide) ?_
      refine z_icmp_ne (tgt := 36) dX9_record_22 rfl (by decide) (fun c22 => ?_) (fun c22 => ?_)
      · skip
        refine z_iload_n dX9_record_36 rfl rfl ?_
        refine z_bipush (v := 11) dX9_record_37 rfl (by decide) ?_
        refine z_icmp_ne (tgt := 52) dX9_record_39 rfl (by decide) (fun c39 => ?_) (fun c39 => ?_)
        · skip
          refine z_iload_n dX9_record_52 rfl rfl ?_
          refine z_bipush (v := 20) dX9_record_53 rfl (by decide) ?_
          refine z_icmp_le (tgt := 60) dX9_record_55 rfl (by decide) (fun c55 => ?_) (fun c55 => ?_)
          · skip
            refine z_iload_n dX9_record_60 rfl rfl ?_
            refine z_if_ge (tgt := 70) dX9_record_61 rfl (by decide) (fun c61 => ?_) (fun c61 => ?_)
            · skip
              obtain ⟨N, hN, rfl⟩ := nI_of2 (x := n) (M := 20) (n := 20) (by decide) (by grind) (by grind)
              first | refine z_aload_n dX9_record_70 rfl rfl ?_ | refine z_aload_nN dX9_record_70 rfl rfl ?_
              refine zg_X9_10 rfl dX9_record_71 rfl S0 rfl ?_
              refine z_iload_n dX9_record_74 rfl rfl ?_
              refine zn_X9_37 rfl dX9_record_75 rfl (Nat.le_of_ble_eq_true rfl) (Nat.le_of_ble_eq_true rfl) ?_
              refine z_dup dX9_record_78 rfl rfl ?_
              refine z_iload_n dX9_record_79 rfl rfl ?_
              refine z_iload_n dX9_record_80 rfl rfl ?_
              refine zc_X9_39 rfl dX9_record_81 rfl (m_cinit g (va_up h.2 h.1 _) h.1 _ vu_s rfl kind N (by omega)) rfl rfl ⟨(Nat.le_of_ble_eq_true rfl), (Nat.le_of_ble_eq_true rfl)⟩ ⟨(Nat.le_of_ble_eq_true rfl), (Nat.le_of_ble_eq_true rfl)⟩ (Nat.le_of_ble_eq_true rfl) (fun v h1 hz => ?_)
              obtain ⟨rfl, rfl⟩ := hz
              rw [cUp_vu]
              have hP1 : rAt (cUp h.1 kind N (cIn kind N) (h.1 + 4, h.2)) p F Z := rAt_fr R0 (fun q q1 q2 => cUp_out (by have := wf_lt hw R0.2.2; omega))
              refine zcv_X9_54 rfl dX9_record_84 rfl hP1.1 (m_holdI g _ p F Z hP1 r c4 h.1 _ (cUp_at _ _ _ _ _).1) rfl rfl ⟨(Nat.le_of_ble_eq_true rfl), (Nat.le_of_ble_eq_true rfl)⟩ ⟨(Nat.le_of_ble_eq_true rfl), (Nat.le_of_ble_eq_true rfl)⟩ (Nat.le_of_ble_eq_true rfl) ?_
              refine z_iconst (v := 1) dX9_record_87 rfl (by decide) ?_
              exact z_iret dX9_record_88 rfl rfl (cPost_new hR (wf_cUp hw _ _ _) (Nat.le_add_right _ _) (fun q hq => cUp_out (Or.inl hq)) (Nat.le_refl _) (A := blank0 kind N) ⟨blank_ok ⟨c14.1, by grind⟩ hN, cIn kind N, (by have e : (blank0 kind N).2.length = N := List.length_replicate; rw [e]; exact cUp_at _ _ _ _ _), blank_c kind N⟩ (by rw [pRecord, if_neg (by grind), if_neg (by grind), if_neg (by grind), show ix (nI N) = N from nI_clamp (by omega)])) (Nat.le_of_ble_eq_true rfl) (Nat.le_of_ble_eq_true rfl)
            · skip
              refine z_bipush (v := 6) dX9_record_64 rfl (by decide) ?_
              refine zcx_X9_62 rfl dX9_record_66 rfl (m_answer g h _) rfl rfl ⟨(Nat.le_of_ble_eq_true rfl), (Nat.le_of_ble_eq_true rfl)⟩ ⟨(Nat.le_of_ble_eq_true rfl), (Nat.le_of_ble_eq_true rfl)⟩ (Nat.le_of_ble_eq_true rfl) ?_
              exact z_iret dX9_record_69 rfl rfl (cPost_same hRC (by rw [pRecord, if_neg (by grind), if_neg (by grind), if_pos (by grind)]; rfl)) (Nat.le_of_ble_eq_true rfl) (Nat.le_of_ble_eq_true rfl)
          · skip
            refine z_iconst (v := -1) dX9_record_58 rfl (by decide) ?_
            exact z_iret dX9_record_59 rfl rfl (cPost_same hRC (by grind [pRecord])) (Nat.le_of_ble_eq_true rfl) (Nat.le_of_ble_eq_true rfl)
        · skip
          first | refine z_aload_n dX9_record_42 rfl rfl ?_ | refine z_aload_nN dX9_record_42 rfl rfl ?_
          refine zg_X9_10 rfl dX9_record_43 rfl S0 rfl ?_
          refine z_iload_n dX9_record_46 rfl rfl ?_
          refine zcv_X9_58 rfl dX9_record_47 rfl R0.1 (m_holdSiI g h p F Z R0 r c4) rfl rfl ⟨(Nat.le_of_ble_eq_true rfl), (Nat.le_of_ble_eq_true rfl)⟩ ⟨(Nat.le_of_ble_eq_true rfl), (Nat.le_of_ble_eq_true rfl)⟩ (Nat.le_of_ble_eq_true rfl) ?_
          refine z_iconst (v := 1) dX9_record_50 rfl (by decide) ?_
          exact z_iret dX9_record_51 rfl rfl (cPost_rc hR (rc_stat hw hr (Or.inr ⟨rfl, rfl⟩)) (by subst c39; rw [pRecord, if_neg (by grind), if_pos (by decide)]; rfl)) (Nat.le_of_ble_eq_true rfl) (Nat.le_of_ble_eq_true rfl)
      · skip
        first | refine z_aload_n dX9_record_25 rfl rfl ?_ | refine z_aload_nN dX9_record_25 rfl rfl ?_
        refine zg_X9_10 rfl dX9_record_26 rfl S0 rfl ?_
        refine z_iload_n dX9_record_29 rfl rfl ?_
        refine z_null dX9_record_30 rfl ?_
        refine zcv_X9_54 rfl dX9_record_31 rfl R0.1 (m_holdNI g h p F Z R0 r c4) rfl rfl ⟨(Nat.le_of_ble_eq_true rfl), (Nat.le_of_ble_eq_true rfl)⟩ ⟨(Nat.le_of_ble_eq_true rfl), (Nat.le_of_ble_eq_true rfl)⟩ (Nat.le_of_ble_eq_true rfl) ?_
        refine z_iconst (v := 1) dX9_record_34 rfl (by decide) ?_
        exact z_iret dX9_record_35 rfl rfl (cPost_rc hR (rc_stat hw hr (Or.inl ⟨rfl, rfl⟩)) (by subst c22; rw [pRecord, if_neg (by grind), if_pos (by decide)]; rfl)) (Nat.le_of_ble_eq_true rfl) (Nat.le_of_ble_eq_true rfl)
    · skip
      refine z_iconst (v := -1) dX9_record_17 rfl (by decide) ?_
      exact z_iret dX9_record_18 rfl rfl (cPost_same hRC (by grind [pRecord])) (Nat.le_of_ble_eq_true rfl) (Nat.le_of_ble_eq_true rfl)

set_option maxHeartbeats 800000 in
set_option maxRecDepth 100000 in
theorem C_share (g : zG) (h : zH) (x m : Nat) (w : sW) (hRC : RepC h x m w) (r s : Int32) : zM g yX9_share cX9_share 3 (some .int) rmX9_share [.ref x, .int r, .int s] h (cPost x m h (pShare w r s)) := by
  refine zM_of (by decide) (Nat.le_of_ble_eq_true rfl) ?_
  obtain ⟨col, p, F, Z, k, I, P, q, T, V, hR⟩ := id hRC
  obtain ⟨hw, hz, hS, hq, hr, hX⟩ := id hR
  obtain ⟨S0, S1, S2, S3, S4, S5⟩ := id hS
  obtain ⟨R0, R1, R2, R3⟩ := id hr
  refine z_iload_n dX9_share_0 rfl rfl ?_
  refine zcx_X9_46 rfl dX9_share_1 rfl (m_isRecord g h _) rfl rfl ⟨(Nat.le_of_ble_eq_true rfl), (Nat.le_of_ble_eq_true rfl)⟩ ⟨(Nat.le_of_ble_eq_true rfl), (Nat.le_of_ble_eq_true rfl)⟩ (Nat.le_of_ble_eq_true rfl) ?_
  refine z_bif_eq (tgt := 14) dX9_share_4 rfl (by decide) (fun c4 => ?_) (fun c4 => ?_)
  · skip
    refine z_iconst (v := -1) dX9_share_14 rfl (by decide) ?_
    exact z_iret dX9_share_15 rfl rfl (cPost_same hRC (by grind [pShare])) (Nat.le_of_ble_eq_true rfl) (Nat.le_of_ble_eq_true rfl)
  · skip
    refine z_iload_n dX9_share_7 rfl rfl ?_
    refine zcx_X9_46 rfl dX9_share_8 rfl (m_isRecord g h _) rfl rfl ⟨(Nat.le_of_ble_eq_true rfl), (Nat.le_of_ble_eq_true rfl)⟩ ⟨(Nat.le_of_ble_eq_true rfl), (Nat.le_of_ble_eq_true rfl)⟩ (Nat.le_of_ble_eq_true rfl) ?_
    refine z_bif_ne (tgt := 16) dX9_share_11 rfl (by decide) (fun c11 => ?_) (fun c11 => ?_)
    · skip
      first | refine z_aload_n dX9_share_16 rfl rfl ?_ | refine z_aload_nN dX9_share_16 rfl rfl ?_
      refine zg_X9_10 rfl dX9_share_17 rfl S0 rfl ?_
      refine z_iload_n dX9_share_20 rfl rfl ?_
      refine z_iload_n dX9_share_21 rfl rfl ?_
      refine zcv_X9_66 rfl dX9_share_22 rfl R0.1 (m_holdSaI g h col p w.1 F Z hr r s c4 c11) rfl rfl ⟨(Nat.le_of_ble_eq_true rfl), (Nat.le_of_ble_eq_true rfl)⟩ ⟨(Nat.le_of_ble_eq_true rfl), (Nat.le_of_ble_eq_true rfl)⟩ (Nat.le_of_ble_eq_true rfl) ?_
      refine z_iconst (v := 1) dX9_share_25 rfl (by decide) ?_
      exact z_iret dX9_share_26 rfl rfl (cPost_rc hR (rc_share hw hr (ix_lt c11)) (by rw [pShare, if_neg (by grind)])) (Nat.le_of_ble_eq_true rfl) (Nat.le_of_ble_eq_true rfl)
    · skip
      refine z_iconst (v := -1) dX9_share_14 rfl (by decide) ?_
      exact z_iret dX9_share_15 rfl rfl (cPost_same hRC (by grind [pShare])) (Nat.le_of_ble_eq_true rfl) (Nat.le_of_ble_eq_true rfl)

