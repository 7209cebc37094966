def sm : Nat → (Nat → Nat) → Nat
  | 0, _ => 0
  | n + 1, f => sm n f + f n
def rHold (R : sR) : Nat := sm 8 (fun r => if R.1 r = 2 then 1 else 0)
def wImg (w : sW) (k : Nat) (R : sR) : sW := (w.1, fun x => if x = k then some R else w.2.1 x, w.2.2)
/-- 30 -/
def pKeep (w : sW) (k : Int32) : Int32 × sW := if ¬ (0 ≤ k ∧ k ≤ 1) then (-1, w) else (if (w.2.1 (ix k)).isSome = true then 1 else 0, wImg w (ix k) w.1)
/-- 31 -/
def pBack (w : sW) (k : Int32) : Int32 × sW := if ¬ (0 ≤ k ∧ k ≤ 1) then (-1, w) else match w.2.1 (ix k) with
  | none => (-2, w)
  | some R => (nI (rHold R), wR w R)
theorem back_none {w : sW} {k : Int32} (hk : 0 ≤ k ∧ k ≤ 1) (h : w.2.1 (ix k) = none) : pBack w k = (-2, w) := by
  unfold pBack
  rw [if_neg (fun z => z hk), h]
theorem back_some {w : sW} {k : Int32} {R : sR} (hk : 0 ≤ k ∧ k ≤ 1) (h : w.2.1 (ix k) = some R) : pBack w k = (nI (rHold R), wR w R) := by
  unfold pBack
  rw [if_neg (fun z => z hk), h]
theorem img_flag {S : sMS} {w : sW} (hR : RepM S w) {k : Nat} (hk : k < 2) : S.1 18 k = if (w.2.1 k).isSome = true then 1 else 0 := by
  have := hR.2.1.1 k hk
  unfold imgIs at this
  generalize w.2.1 k = I at this ⊢
  cases I with
  | none => exact this
  | some R => exact this.1
theorem img_some {S : sMS} {w : sW} (hR : RepM S w) {k : Nat} (hk : k < 2) {R : sR} (h : w.2.1 k = some R) : S.1 18 k = 1 ∧ rRep (fun r => S.1 19 (8 * k + r)) (fun j => mRowIs S (8 + 8 * k + j)) R := by
  have := hR.2.1.1 k hk
  rw [h] at this
  exact this
/-- the image k stands as far as i -/
def kpIs (S S1 : sMS) (k i : Nat) : Prop := (∀ j, j ≠ 1 → j ≠ 4 → j ≠ 5 → j ≠ 18 → j ≠ 19 → S1.1 j = S.1 j) ∧ S1.1 18 k = 1 ∧ (∀ q, q ≠ k → S1.1 18 q = S.1 18 q) ∧ (∀ q, (q < 8 * k ∨ 8 * k + 8 ≤ q) → S1.1 19 q = S.1 19 q) ∧ (∀ r, r < i → S1.1 19 (8 * k + r) = S.1 6 r) ∧ (∀ j, (j < 8 + 8 * k ∨ 16 + 8 * k ≤ j) → S1.1 4 j = S.1 4 j ∧ S1.1 5 j = S.1 5 j) ∧ (∀ a, (a < 160 + 160 * k ∨ 320 + 160 * k ≤ a) → mc S1 a = mc S a) ∧ (∀ j, j < i → ∀ A, mRowIs S j A → mRowIs S1 (8 + 8 * k + j) A) ∧ S1.2.2.2 = S.2.2.2
def mKp (S : sMS) (a : Nat) (x : Int32) : sMS := (va_up S.1 19 (upd (S.1 19) a x), S.2)
theorem mKp_o (S : sMS) (a : Nat) (x : Int32) {j : Nat} (h : j ≠ 19) : (mKp S a x).1 j = S.1 j := by simp [mKp, va_up, h]
theorem mKp_19 (S : sMS) (a : Nat) (x : Int32) : (mKp S a x).1 19 = upd (S.1 19) a x := by simp [mKp, va_up]
theorem mKp_c (S : sMS) (a : Nat) (x : Int32) (j : Nat) : mc (mKp S a x) j = mc S j := by simp [mc, mKp, va_up]
theorem mKp_row {S : sMS} {a : Nat} {x : Int32} {k : Nat} {A : sA} (h : mRowIs S k A) : mRowIs (mKp S a x) k A := ⟨by rw [mKp_o _ _ _ (by decide)]; exact h.1, by rw [mKp_o _ _ _ (by decide)]; exact h.2.1, h.2.2.1, fun i hi => by rw [mKp_c]; exact h.2.2.2 i hi⟩
theorem kp_step {S S1 : sMS} {k i : Nat} (hk : k < 2) (hi : i < 8) (h : kpIs S S1 k i) : kpIs S (mCopy (mKp S1 (8 * k + i) (S1.1 6 i)) i (8 + 8 * k + i)) k (i + 1) := by
  obtain ⟨h1, h2, h3, h4, h5, h6, h7, h8, h9⟩ := h
  have e6 : S1.1 6 i = S.1 6 i := by rw [h1 6 (by decide) (by decide) (by decide) (by decide) (by decide)]
  refine ⟨fun j a b c d e => ?_, ?_, fun q hq => ?_, fun q hq => ?_, fun r hr => ?_, fun j hj => ?_, fun a ha => ?_, fun j hj A hA => ?_, ?_⟩
  · rw [mCopy_o _ _ _ a b c, mKp_o _ _ _ e]; exact h1 j a b c d e
  · rw [mCopy_o _ _ _ (by decide) (by decide) (by decide), mKp_o _ _ _ (by decide)]; exact h2
  · rw [mCopy_o _ _ _ (by decide) (by decide) (by decide), mKp_o _ _ _ (by decide)]; exact h3 q hq
  · rw [mCopy_o _ _ _ (by decide) (by decide) (by decide), mKp_19, upd, if_neg (by omega)]; exact h4 q hq
  · rw [mCopy_o _ _ _ (by decide) (by decide) (by decide), mKp_19, upd]
    by_cases e : r = i
    · rw [if_pos (by rw [e]), e]; exact e6
    · rw [if_neg (by omega)]; exact h5 r (by omega)
  · rw [mCopy_4, mCopy_5, upd, if_neg (by omega), upd, if_neg (by omega), mKp_o _ _ _ (by decide), mKp_o _ _ _ (by decide)]; exact h6 j hj
  · rw [mc_copy, if_neg (by omega), mKp_c]; exact h7 a ha
  · have hA1 : ∀ j, j < 8 → ∀ A, mRowIs S j A → mRowIs S1 j A := fun j hj A hA => by
      have hl := hA.2.2.1.2.2.1
      exact ⟨by rw [(h6 j (by omega)).1]; exact hA.1, by rw [(h6 j (by omega)).2]; exact hA.2.1, hA.2.2.1, fun i hi => by rw [h7 _ (by omega)]; exact hA.2.2.2 i hi⟩
    by_cases e : j = i
    · subst e
      exact copy_row (mKp_row (hA1 j hi A hA))
    · exact copy_oth (by omega) (mKp_row (h8 j (by omega) A hA))
  · rw [mCopy_s]; exact h9
theorem kp_row {S S1 : sMS} {k i : Nat} (h : kpIs S S1 k i) {j : Nat} (hj : j < 8 + 8 * k ∨ 16 + 8 * k ≤ j) {A : sA} (hA : mRowIs S j A) : mRowIs S1 j A := by
  have hl := hA.2.2.1.2.2.1
  exact ⟨by rw [(h.2.2.2.2.2.1 j hj).1]; exact hA.1, by rw [(h.2.2.2.2.2.1 j hj).2]; exact hA.2.1, hA.2.2.1, fun i hi => by rw [h.2.2.2.2.2.2.1 _ (by omega)]; exact hA.2.2.2 i hi⟩
theorem kp_end {S S1 : sMS} {w : sW} {k : Nat} (hk : k < 2) (hR : RepM S w) (h : kpIs S S1 k 8) : RepM S1 (wImg w k w.1) := by
  have hh := h
  obtain ⟨f1, f2, f3, f4, f5, f6, f7, f8, f9⟩ := h
  obtain ⟨⟨r1, r2⟩, ⟨h1, h2, h3, h4, h5⟩, h6, h7⟩ := hR
  have ee : ∀ j, j = 6 ∨ j = 7 ∨ (8 < j ∧ j < 18) → S1.1 j = S.1 j := fun j hj => f1 j (by omega) (by omega) (by omega) (by omega) (by omega)
  have e6 := ee 6 (by omega)
  have e7 := ee 7 (by omega)
  have e9 := ee 9 (by omega)
  have e10 := ee 10 (by omega)
  have e11 := ee 11 (by omega)
  have e12 := ee 12 (by omega)
  have e13 := ee 13 (by omega)
  have e14 := ee 14 (by omega)
  have e15 := ee 15 (by omega)
  have e16 := ee 16 (by omega)
  have e17 := ee 17 (by omega)
  refine ⟨⟨fun r hr => ?_, fun r s hr hs a b => by rw [e6]; exact r2 r s hr hs a b⟩, ⟨fun q hq => ?_, fun i hi => by rw [e7]; exact h2 i hi, h3, ?_, fun q hq => ?_⟩, by rw [f9]; exact h6, by rw [f9]; exact h7⟩
  · rw [e6]
    rcases r1 r hr with z | z | ⟨z, j, hj, z2, z3⟩
    · exact Or.inl z
    · exact Or.inr (Or.inl z)
    · exact Or.inr (Or.inr ⟨z, j, hj, z2, kp_row hh (by omega) z3⟩)
  · show imgIs S1 q (if q = k then some w.1 else w.2.1 q)
    by_cases e : q = k
    · rw [if_pos e, e]
      refine ⟨f2, fun r hr => ?_, fun r s hr hs a b => ?_⟩
      · show (_ ∧ S1.1 19 (8 * k + r) = -1) ∨ (_ ∧ S1.1 19 (8 * k + r) = -2) ∨ (_ ∧ ∃ j, j < 8 ∧ S1.1 19 (8 * k + r) = nI j ∧ _)
        rw [f5 r hr]
        rcases r1 r hr with z | z | ⟨z, j, hj, z2, z3⟩
        · exact Or.inl z
        · exact Or.inr (Or.inl z)
        · exact Or.inr (Or.inr ⟨z, j, hj, z2, f8 j hj _ z3⟩)
      · show _ ↔ S1.1 19 (8 * k + r) = S1.1 19 (8 * k + s)
        rw [f5 r hr, f5 s hs]
        exact r2 r s hr hs a b
    · rw [if_neg e]
      have := h1 q hq
      unfold imgIs at this ⊢
      generalize w.2.1 q = I at this ⊢
      cases I with
      | none => exact (f3 q e).trans this
      | some R =>
        have g19 : ∀ r, r < 8 → S1.1 19 (8 * q + r) = S.1 19 (8 * q + r) := fun r hr => f4 _ (by omega)
        refine ⟨(f3 q e).trans this.1, fun r hr => ?_, fun r s hr hs a b => ?_⟩
        · show (_ ∧ S1.1 19 (8 * q + r) = -1) ∨ (_ ∧ S1.1 19 (8 * q + r) = -2) ∨ (_ ∧ ∃ j, j < 8 ∧ S1.1 19 (8 * q + r) = nI j ∧ _)
          rw [g19 r hr]
          rcases this.2.1 r hr with z | z | ⟨z, j, hj, z2, z3⟩
          · exact Or.inl z
          · exact Or.inr (Or.inl z)
          · exact Or.inr (Or.inr ⟨z, j, hj, z2, kp_row hh (by omega) z3⟩)
        · show _ ↔ S1.1 19 (8 * q + r) = S1.1 19 (8 * q + s)
          rw [g19 r hr, g19 s hs]
          exact this.2.2 r s hr hs a b
  · show coIs S1 w.2.2.2.2.2.1
    unfold coIs at h4 ⊢
    generalize w.2.2.2.2.2.1 = I at h4 ⊢
    cases I with
    | none => rw [f9]; exact h4
    | some C =>
      obtain ⟨q1, q2, q3, q4, q5, q6, q7⟩ := h4
      refine ⟨by rw [f9]; exact q1, kp_row hh (by omega) q2, kp_row hh (by omega) q3, by rw [f9]; exact q4, by rw [f9]; exact q5, q6, fun k t hk => ?_⟩
      have := q7 k t hk
      unfold stepIs at this ⊢
      rw [e9, e10, e11, e12, e13, e14]
      exact this
  · show patIs S1 q (w.2.2.2.2.2.2 q)
    have := h5 q hq
    unfold patIs at this ⊢
    generalize w.2.2.2.2.2.2 q = I at this ⊢
    cases I with
    | none => rw [e15]; exact this
    | some L =>
      obtain ⟨q1, q2, q3, q4⟩ := this
      refine ⟨by rw [e15]; exact q1, by rw [e16]; exact q2, q3, fun k a hk => ?_⟩
      obtain ⟨a1, a2, a3, a4, a5, a6, a7⟩ := q4 k a hk
      exact ⟨by rw [e17]; exact a1, a2, a3, a4, a5, fun c hc => by rw [f7 _ (by omega)]; exact a6 c hc, fun c hc => by rw [f7 _ (by omega)]; exact a7 c hc⟩

abbrev YX10_keep : zY := (yX10_keep.cls, cX10_keep, 4, (some .int), rmX10_keep, yX10_keep.name, fun _ _ => True)
theorem n8 (k i : Nat) : (8 : Int32) * nI k + nI i = nI (8 * k + i) := by
  rw [show (8 : Int32) * nI k = nI (8 * k) from pk_mul 8 k, nI_add]
theorem n88 (k i : Nat) : (8 : Int32) + 8 * nI k + nI i = nI (8 + 8 * k + i) := by
  rw [show (8 : Int32) * nI k = nI (8 * k) from pk_mul 8 k, show (8 : Int32) + nI (8 * k) = nI (8 + 8 * k) from nI_add 8 _, nI_add]

set_option maxHeartbeats 800000 in
set_option maxRecDepth 100000 in
theorem R_keep_L (g : zG) (h : zH) (m : Nat) (S : sMS) (w : sW) (hR : RepM S w) (k : Nat) (hk : k < 2) (hk1 : 0 ≤ nI k ∧ nI k ≤ 1) (hix : ix (nI k) = k) (had : Int32) (hhad : had = if (w.2.1 k).isSome = true then 1 else 0) : ∀ (n : Nat) (S1 : sMS) (i : Nat), i + n = 8 → kpIs S S1 k i → zZ g YX10_keep (zE g (mPost m h (pKeep w (nI k))) 0 0) 31 [(3, .int (nI i)), (2, .int had), (0, .ref m), (1, .int (nI k))] [] (mUp m S1 h) 0 0 := by
  intro n
  induction n with
  | zero =>
    intro S1 i hin hT
    have ei : i = 8 := by omega
    subst ei
    refine z_iload_n dX10_keep_31 rfl rfl ?_
    refine z_bipush (v := 8) dX10_keep_32 rfl (by decide) ?_
    refine z_icmp_ge (tgt := 74) dX10_keep_34 rfl (by decide) (fun c34 => ?_) (fun c34 => absurd c34 (fun z => z (nI_ge8 (by omega) (by omega))))
    refine z_iload_n dX10_keep_74 rfl rfl ?_
    exact z_iret dX10_keep_75 rfl rfl (mPost_of (kp_end hk hR hT) (by rw [pKeep, if_neg (fun z => z hk1), hix, hhad])) (Nat.le_of_ble_eq_true rfl) (Nat.le_of_ble_eq_true rfl)
  | succ n ih =>
    intro S1 i hin hT
    refine z_iload_n dX10_keep_31 rfl rfl ?_
    refine z_bipush (v := 8) dX10_keep_32 rfl (by decide) ?_
    refine z_icmp_ge (tgt := 74) dX10_keep_34 rfl (by decide) (fun c34 => absurd c34 (nI_nge8 (by omega))) (fun c34 => ?_)
    first | refine z_aload_n dX10_keep_37 rfl rfl ?_ | refine z_aload_nN dX10_keep_37 rfl rfl ?_
    refine zmg_67 rfl dX10_keep_38 rfl ?_
    refine z_bipush (v := 8) dX10_keep_41 rfl (by decide) ?_
    refine z_iload_n dX10_keep_43 rfl rfl ?_
    refine z_imul dX10_keep_44 rfl ?_
    refine z_iload_n dX10_keep_45 rfl rfl ?_
    refine z_iadd dX10_keep_46 rfl ?_
    rw [n8]
    first | refine z_aload_n dX10_keep_47 rfl rfl ?_ | refine z_aload_nN dX10_keep_47 rfl rfl ?_
    refine zmg_27 rfl dX10_keep_48 rfl ?_
    refine z_iload_n dX10_keep_51 rfl rfl ?_
    refine zm_iald dX10_keep_52 rfl rfl (vp_in_nI (by omega) (by decide)) ?_
    rw [nI_clamp (show i < 2 ^ 31 by omega)]
    refine zm_iast dX10_keep_53 rfl rfl (vp_in_nI (by omega) (by decide)) ?_
    rw [nI_clamp (show 8 * k + i < 2 ^ 31 by omega)]
    change zZ _ _ _ _ _ _ (mUp m (mKp S1 (8 * k + i) (S1.1 6 i)) h) _ _
    first | refine z_aload_n dX10_keep_54 rfl rfl ?_ | refine z_aload_nN dX10_keep_54 rfl rfl ?_
    refine z_iload_n dX10_keep_55 rfl rfl ?_
    refine z_bipush (v := 8) dX10_keep_56 rfl (by decide) ?_
    refine z_bipush (v := 8) dX10_keep_58 rfl (by decide) ?_
    refine z_iload_n dX10_keep_60 rfl rfl ?_
    refine z_imul dX10_keep_61 rfl ?_
    refine z_iadd dX10_keep_62 rfl ?_
    refine z_iload_n dX10_keep_63 rfl rfl ?_
    refine z_iadd dX10_keep_64 rfl ?_
    rw [n88]
    refine zcv_X10_243 rfl dX10_keep_65 rfl mo_recv (r_copiesRow g h m _ i (8 + 8 * k + i) (by omega) (by omega) (by omega)) rfl rfl ⟨(Nat.le_of_ble_eq_true rfl), (Nat.le_of_ble_eq_true rfl)⟩ ⟨(Nat.le_of_ble_eq_true rfl), (Nat.le_of_ble_eq_true rfl)⟩ (Nat.le_of_ble_eq_true rfl) ?_
    refine z_iinc (v := nI (i + 1)) dX10_keep_68 rfl rfl (nI_inc i) (Nat.le_of_ble_eq_true rfl) ?_
    refine z_goto (tgt := 31) dX10_keep_71 rfl (by decide) ?_
    refine z_lv [(3, .int (nI (i + 1))), (2, .int had), (0, .ref m), (1, .int (nI k))] ⟨rfl, rfl, rfl, rfl, trivial⟩ ?_
    exact ih _ (i + 1) (by omega) (kp_step hk (by omega) hT)

set_option maxHeartbeats 800000 in
set_option maxRecDepth 100000 in
theorem R_keep (g : zG) (h : zH) (m : Nat) (S : sMS) (w : sW) (hR : RepM S w) (k : Int32) : zM g yX10_keep cX10_keep 4 (some .int) rmX10_keep [.ref m, .int k] (mUp m S h) (mPost m h (pKeep w k)) := by
  refine zM_of (by decide) (Nat.le_of_ble_eq_true rfl) ?_
  refine z_iload_n dX10_keep_0 rfl rfl ?_
  refine z_i2l dX10_keep_1 rfl ?_
  refine z_lconst (v := 0) dX10_keep_2 rfl (by decide) ?_
  refine z_lconst (v := 1) dX10_keep_3 rfl (by decide) ?_
  refine zcx_X10_72 rfl dX10_keep_4 rfl (r_in32 g _ _ 0 1 rfl rfl) rfl rfl ⟨(Nat.le_of_ble_eq_true rfl), (Nat.le_of_ble_eq_true rfl)⟩ ⟨(Nat.le_of_ble_eq_true rfl), (Nat.le_of_ble_eq_true rfl)⟩ (Nat.le_of_ble_eq_true rfl) ?_
  refine z_bif_ne (tgt := 12) dX10_keep_7 rfl (by decide) (fun c7 => ?_) (fun c7 => ?_)
  · skip
    obtain ⟨kn, hk3, rfl⟩ := nI_of2 (x := k) (M := 1) (n := 1) (by decide) (by grind) c7.2
    have hk : kn < 2 := by omega
    have hix : ix (nI kn) = kn := nI_clamp (by omega)
    first | refine z_aload_n dX10_keep_12 rfl rfl ?_ | refine z_aload_nN dX10_keep_12 rfl rfl ?_
    refine zmg_64 rfl dX10_keep_13 rfl ?_
    refine z_iload_n dX10_keep_16 rfl rfl ?_
    refine zm_zald dX10_keep_17 rfl rfl (vp_in_nI (by omega) (by decide)) ?_
    rw [nI_clamp (show kn < 2 ^ 31 by omega), img_flag hR hk]
    refine zcx_X10_200 rfl dX10_keep_18 rfl (r_flag g _ ((w.2.1 kn).isSome = true)) rfl rfl ⟨(Nat.le_of_ble_eq_true rfl), (Nat.le_of_ble_eq_true rfl)⟩ ⟨(Nat.le_of_ble_eq_true rfl), (Nat.le_of_ble_eq_true rfl)⟩ (Nat.le_of_ble_eq_true rfl) ?_
    refine z_istore_n dX10_keep_21 rfl (Nat.le_of_ble_eq_true rfl) ?_
    first | refine z_aload_n dX10_keep_22 rfl rfl ?_ | refine z_aload_nN dX10_keep_22 rfl rfl ?_
    refine zmg_64 rfl dX10_keep_23 rfl ?_
    refine z_iload_n dX10_keep_26 rfl rfl ?_
    refine z_iconst (v := 1) dX10_keep_27 rfl (by decide) ?_
    refine zm_zast dX10_keep_28 rfl rfl (vp_in_nI (by omega) (by decide)) ?_
    rw [nI_clamp (show kn < 2 ^ 31 by omega), show vp_nar .boolean (1 : Int32) = 1 from by decide]
    refine z_iconst (v := 0) dX10_keep_29 rfl (by decide) ?_
    refine z_istore_n dX10_keep_30 rfl (Nat.le_of_ble_eq_true rfl) ?_
    refine z_lv [(3, .int (nI 0)), (2, .int (if (w.2.1 kn).isSome = true then 1 else 0)), (0, .ref m), (1, .int (nI kn))] ⟨rfl, rfl, rfl, rfl, trivial⟩ ?_
    exact R_keep_L g h m S w hR kn hk c7 hix _ rfl 8 _ 0 (by omega) ⟨fun j a b c d e => by simp only [va_up]; rw [if_neg d], by simp [va_up, upd], fun q hq => by simp [va_up, upd, hq], fun q hq => by simp [va_up], fun r hr => absurd hr (by omega), fun j hj => by simp [va_up], fun a ha => by simp [mc, va_up], fun j hj => absurd hj (by omega), rfl⟩
  · skip
    refine z_iconst (v := -1) dX10_keep_10 rfl (by decide) ?_
    exact z_iret dX10_keep_11 rfl rfl (mPost_of hR (by grind [pKeep])) (Nat.le_of_ble_eq_true rfl) (Nat.le_of_ble_eq_true rfl)

theorem sm_s {f : Nat → Nat} {i : Nat} (P : Prop) [Decidable P] (h : f i = if P then 1 else 0) : nI (sm i f) + (if P then (1 : Int32) else 0) = nI (sm (i + 1) f) := by
  show _ = nI (sm i f + f i)
  rw [h]
  by_cases q : P
  · rw [if_pos q, if_pos q]; exact nI_1 _
  · rw [if_neg q, if_neg q, Nat.add_zero, Int32.add_zero]

abbrev YX10_rowsHeld : zY := (yX10_rowsHeld.cls, cX10_rowsHeld, 3, (some .int), rmX10_rowsHeld, yX10_rowsHeld.name, fun _ _ => True)
set_option maxHeartbeats 800000 in
set_option maxRecDepth 100000 in
theorem q_rowsHeld_L (g : zG) (h : zH) (m : Nat) (S : sMS) (R : sR) (row : Nat → sA → Prop) (hR : rRep (S.1 6) row R) : ∀ (n : Nat) (i : Nat), i + n = 8 → zZ g YX10_rowsHeld (zE g (fun v h1 => v = some (.int (nI (rHold R))) ∧ h1 = mUp m S h) 0 0) 4 [(1, .int (nI (sm i (fun r => if R.1 r = 2 then 1 else 0)))), (2, .int (nI i)), (0, .ref m)] [] (mUp m S h) 0 0 := by
  intro n
  induction n with
  | zero =>
    intro i hin
    have ei : i = 8 := by omega
    subst ei
    refine z_iload_n dX10_rowsHeld_4 rfl rfl ?_
    refine z_bipush (v := 8) dX10_rowsHeld_5 rfl (by decide) ?_
    refine z_icmp_ge (tgt := 36) dX10_rowsHeld_7 rfl (by decide) (fun c7 => ?_) (fun c7 => absurd c7 (fun z => z (nI_ge8 (by omega) (by omega))))
    refine z_iload_n dX10_rowsHeld_36 rfl rfl ?_
    exact z_iret dX10_rowsHeld_37 rfl rfl ⟨rfl, rfl⟩ (Nat.le_of_ble_eq_true rfl) (Nat.le_of_ble_eq_true rfl)
  | succ n ih =>
    intro i hin
    by_cases h2 : R.1 i = 2
    · have hlt : ¬ S.1 6 i < 0 := by
        rcases hR.1 i (by omega) with z | z | ⟨z, j, hj, z2, z3⟩
        · rw [h2] at z; exact absurd z.1 (by decide)
        · rw [h2] at z; exact absurd z.1 (by decide)
        · rw [z2]; exact nI_ge0 (by omega)
      refine z_iload_n dX10_rowsHeld_4 rfl rfl ?_
      refine z_bipush (v := 8) dX10_rowsHeld_5 rfl (by decide) ?_
      refine z_icmp_ge (tgt := 36) dX10_rowsHeld_7 rfl (by decide) (fun c7 => absurd c7 (nI_nge8 (by omega))) (fun c7 => ?_)
      refine z_iload_n dX10_rowsHeld_10 rfl rfl ?_
      first | refine z_aload_n dX10_rowsHeld_11 rfl rfl ?_ | refine z_aload_nN dX10_rowsHeld_11 rfl rfl ?_
      refine zmg_27 rfl dX10_rowsHeld_12 rfl ?_
      refine z_iload_n dX10_rowsHeld_15 rfl rfl ?_
      refine zm_iald dX10_rowsHeld_16 rfl rfl (vp_in_nI (by omega) (by decide)) ?_
      rw [nI_clamp (show i < 2 ^ 31 by omega)]
      refine z_if_lt (tgt := 24) dX10_rowsHeld_17 rfl (by decide) (fun c17 => absurd c17 hlt) (fun c17 => ?_)
      refine z_iconst (v := 1) dX10_rowsHeld_20 rfl (by decide) ?_
      refine z_goto (tgt := 25) dX10_rowsHeld_21 rfl (by decide) ?_
      refine zcx_X10_200 rfl dX10_rowsHeld_25 rfl (r_flag g _ True) rfl rfl ⟨(Nat.le_of_ble_eq_true rfl), (Nat.le_of_ble_eq_true rfl)⟩ ⟨(Nat.le_of_ble_eq_true rfl), (Nat.le_of_ble_eq_true rfl)⟩ (Nat.le_of_ble_eq_true rfl) ?_
      refine z_iadd dX10_rowsHeld_28 rfl ?_
      rw [sm_s True (by rw [if_pos h2]; rfl)]
      refine z_istore_n dX10_rowsHeld_29 rfl (Nat.le_of_ble_eq_true rfl) ?_
      refine z_iinc (v := nI (i + 1)) dX10_rowsHeld_30 rfl rfl (nI_inc i) (Nat.le_of_ble_eq_true rfl) ?_
      refine z_goto (tgt := 4) dX10_rowsHeld_33 rfl (by decide) ?_
      refine z_lv [(1, .int (nI (sm (i + 1) (fun r => if R.1 r = 2 then 1 else 0)))), (2, .int (nI (i + 1))), (0, .ref m)] ⟨rfl, rfl, rfl, trivial⟩ ?_
      exact ih (i + 1) (by omega)
    · have hlt : S.1 6 i < 0 := by
        rcases hR.1 i (by omega) with z | z | z
        · rw [z.2]; decide
        · rw [z.2]; decide
        · exact absurd z.1 h2
      refine z_iload_n dX10_rowsHeld_4 rfl rfl ?_
      refine z_bipush (v := 8) dX10_rowsHeld_5 rfl (by decide) ?_
      refine z_icmp_ge (tgt := 36) dX10_rowsHeld_7 rfl (by decide) (fun c7 => absurd c7 (nI_nge8 (by omega))) (fun c7 => ?_)
      refine z_iload_n dX10_rowsHeld_10 rfl rfl ?_
      first | refine z_aload_n dX10_rowsHeld_11 rfl rfl ?_ | refine z_aload_nN dX10_rowsHeld_11 rfl rfl ?_
      refine zmg_27 rfl dX10_rowsHeld_12 rfl ?_
      refine z_iload_n dX10_rowsHeld_15 rfl rfl ?_
      refine zm_iald dX10_rowsHeld_16 rfl rfl (vp_in_nI (by omega) (by decide)) ?_
      rw [nI_clamp (show i < 2 ^ 31 by omega)]
      refine z_if_lt (tgt := 24) dX10_rowsHeld_17 rfl (by decide) (fun c17 => ?_) (fun c17 => absurd c17 (fun z => z hlt))
      refine z_iconst (v := 0) dX10_rowsHeld_24 rfl (by decide) ?_
      refine zcx_X10_200 rfl dX10_rowsHeld_25 rfl (r_flag g _ False) rfl rfl ⟨(Nat.le_of_ble_eq_true rfl), (Nat.le_of_ble_eq_true rfl)⟩ ⟨(Nat.le_of_ble_eq_true rfl), (Nat.le_of_ble_eq_true rfl)⟩ (Nat.le_of_ble_eq_true rfl) ?_
      refine z_iadd dX10_rowsHeld_28 rfl ?_
      rw [sm_s False (by rw [if_neg h2]; rfl)]
      refine z_istore_n dX10_rowsHeld_29 rfl (Nat.le_of_ble_eq_true rfl) ?_
      refine z_iinc (v := nI (i + 1)) dX10_rowsHeld_30 rfl rfl (nI_inc i) (Nat.le_of_ble_eq_true rfl) ?_
      refine z_goto (tgt := 4) dX10_rowsHeld_33 rfl (by decide) ?_
      refine z_lv [(1, .int (nI (sm (i + 1) (fun r => if R.1 r = 2 then 1 else 0)))), (2, .int (nI (i + 1))), (0, .ref m)] ⟨rfl, rfl, rfl, trivial⟩ ?_
      exact ih (i + 1) (by omega)

set_option maxHeartbeats 4000000 in
set_option maxRecDepth 100000 in
/-- X10_rowsHeld -/
theorem q_rowsHeld (g : zG) (h : zH) (m : Nat) (S : sMS) (R : sR) (row : Nat → sA → Prop) (hR : rRep (S.1 6) row R) : zX g yX10_rowsHeld cX10_rowsHeld 3 (some .int) rmX10_rowsHeld [.ref m] (mUp m S h) (.int (nI (rHold R))) (mUp m S h) := by
  refine zM_of (by decide) (Nat.le_of_ble_eq_true rfl) ?_
  refine z_iconst (v := 0) dX10_rowsHeld_0 rfl (by decide) ?_
  refine z_istore_n dX10_rowsHeld_1 rfl (Nat.le_of_ble_eq_true rfl) ?_
  refine z_iconst (v := 0) dX10_rowsHeld_2 rfl (by decide) ?_
  refine z_istore_n dX10_rowsHeld_3 rfl (Nat.le_of_ble_eq_true rfl) ?_
  refine z_lv [(1, .int (nI (sm 0 (fun r => if R.1 r = 2 then 1 else 0)))), (2, .int (nI 0)), (0, .ref m)] ⟨rfl, rfl, rfl, trivial⟩ ?_
  exact q_rowsHeld_L g h m S R row hR 8 0 (by omega)

def bkIs (S S1 : sMS) (k i : Nat) : Prop := (∀ j, j ≠ 1 → j ≠ 4 → j ≠ 5 → j ≠ 6 → S1.1 j = S.1 j) ∧ (∀ r, r < i → S1.1 6 r = S.1 19 (8 * k + r)) ∧ (∀ j, 8 ≤ j → S1.1 4 j = S.1 4 j ∧ S1.1 5 j = S.1 5 j) ∧ (∀ a, 160 ≤ a → mc S1 a = mc S a) ∧ (∀ j, j < i → ∀ A, mRowIs S (8 + 8 * k + j) A → mRowIs S1 j A) ∧ S1.2.2.2 = S.2.2.2
def mHo (S : sMS) (a : Nat) (x : Int32) : sMS := (va_up S.1 6 (upd (S.1 6) a x), S.2)
theorem mHo_o (S : sMS) (a : Nat) (x : Int32) {j : Nat} (h : j ≠ 6) : (mHo S a x).1 j = S.1 j := by simp [mHo, va_up, h]
theorem mHo_6 (S : sMS) (a : Nat) (x : Int32) : (mHo S a x).1 6 = upd (S.1 6) a x := by simp [mHo, va_up]
theorem mHo_c (S : sMS) (a : Nat) (x : Int32) (j : Nat) : mc (mHo S a x) j = mc S j := by simp [mc, mHo, va_up]
theorem mHo_row {S : sMS} {a : Nat} {x : Int32} {k : Nat} {A : sA} (h : mRowIs S k A) : mRowIs (mHo S a x) k A := ⟨by rw [mHo_o _ _ _ (by decide)]; exact h.1, by rw [mHo_o _ _ _ (by decide)]; exact h.2.1, h.2.2.1, fun i hi => by rw [mHo_c]; exact h.2.2.2 i hi⟩
theorem bk_step {S S1 : sMS} {k i : Nat} (hk : k < 2) (hi : i < 8) (h : bkIs S S1 k i) : bkIs S (mCopy (mHo S1 i (S1.1 19 (8 * k + i))) (8 + 8 * k + i) i) k (i + 1) := by
  obtain ⟨h1, h2, h3, h4, h5, h6⟩ := h
  refine ⟨fun j a b c d => ?_, fun r hr => ?_, fun j hj => ?_, fun a ha => ?_, fun j hj A hA => ?_, ?_⟩
  · rw [mCopy_o _ _ _ a b c, mHo_o _ _ _ d]; exact h1 j a b c d
  · rw [mCopy_o _ _ _ (by decide) (by decide) (by decide), mHo_6, upd]
    by_cases e : r = i
    · rw [if_pos e, e, h1 19 (by decide) (by decide) (by decide) (by decide)]
    · rw [if_neg e]; exact h2 r (by omega)
  · rw [mCopy_4, mCopy_5, upd, if_neg (by omega), upd, if_neg (by omega), mHo_o _ _ _ (by decide), mHo_o _ _ _ (by decide)]; exact h3 j hj
  · rw [mc_copy, if_neg (by omega), mHo_c]; exact h4 a ha
  · by_cases e : j = i
    · subst e
      have hl := hA.2.2.1.2.2.1
      refine copy_row (mHo_row ?_)
      exact ⟨by rw [(h3 _ (by omega)).1]; exact hA.1, by rw [(h3 _ (by omega)).2]; exact hA.2.1, hA.2.2.1, fun i hi => by rw [h4 _ (by omega)]; exact hA.2.2.2 i hi⟩
    · exact copy_oth (by omega) (mHo_row (h5 j (by omega) A hA))
  · rw [mCopy_s]; exact h6
theorem bk_rep {S S1 : sMS} {k : Nat} {R : sR} (h : bkIs S S1 k 8) (hI : rRep (fun r => S.1 19 (8 * k + r)) (fun j => mRowIs S (8 + 8 * k + j)) R) : rRep (S1.1 6) (mRowIs S1) R := by
  obtain ⟨h1, h2, h3, h4, h5, h6⟩ := h
  refine ⟨fun r hr => ?_, fun r s hr hs a b => ?_⟩
  · rw [h2 r hr]
    rcases hI.1 r hr with z | z | ⟨z, j, hj, z2, z3⟩
    · exact Or.inl z
    · exact Or.inr (Or.inl z)
    · exact Or.inr (Or.inr ⟨z, j, hj, z2, h5 j hj _ z3⟩)
  · rw [h2 r hr, h2 s hs]
    exact hI.2 r s hr hs a b
theorem bk_end {S S1 : sMS} {w : sW} {k : Nat} {R : sR} (hR : RepM S w) (h : bkIs S S1 k 8) (hI : rRep (fun r => S.1 19 (8 * k + r)) (fun j => mRowIs S (8 + 8 * k + j)) R) : RepM S1 (wR w R) := by
  have hh := bk_rep h hI
  obtain ⟨h1, h2, h3, h4, h5, h6⟩ := h
  exact ⟨hh, RepX_agree ⟨fun j hj => h1 j (by omega) (by omega) (by omega) (by omega), fun k h8 h26 => h3 k h8, fun a ha => h4 a (by omega), by rw [h6], by rw [h6], by rw [h6]⟩ hR.2.1, by rw [h6]; exact hR.2.2.1, by rw [h6]; exact hR.2.2.2⟩

abbrev YX10_back : zY := (yX10_back.cls, cX10_back, 3, (some .int), rmX10_back, yX10_back.name, fun _ _ => True)
set_option maxHeartbeats 800000 in
set_option maxRecDepth 100000 in
theorem R_back_L (g : zG) (h : zH) (m : Nat) (S : sMS) (w : sW) (hR : RepM S w) (k : Nat) (hk : k < 2) (hk1 : 0 ≤ nI k ∧ nI k ≤ 1) (hix : ix (nI k) = k) (R : sR) (hw : w.2.1 k = some R) (hI : rRep (fun r => S.1 19 (8 * k + r)) (fun j => mRowIs S (8 + 8 * k + j)) R) : ∀ (n : Nat) (S1 : sMS) (i : Nat), i + n = 8 → bkIs S S1 k i → zZ g YX10_back (zE g (mPost m h (pBack w (nI k))) 0 0) 26 [(2, .int (nI i)), (0, .ref m), (1, .int (nI k))] [] (mUp m S1 h) 0 0 := by
  intro n
  induction n with
  | zero =>
    intro S1 i hin hT
    have ei : i = 8 := by omega
    subst ei
    refine z_iload_n dX10_back_26 rfl rfl ?_
    refine z_bipush (v := 8) dX10_back_27 rfl (by decide) ?_
    refine z_icmp_ge (tgt := 69) dX10_back_29 rfl (by decide) (fun c29 => ?_) (fun c29 => absurd c29 (fun z => z (nI_ge8 (by omega) (by omega))))
    first | refine z_aload_n dX10_back_69 rfl rfl ?_ | refine z_aload_nN dX10_back_69 rfl rfl ?_
    refine zcx_X10_321 rfl dX10_back_70 rfl mo_recv (q_rowsHeld g h m S1 R _ (bk_rep hT hI)) rfl rfl ⟨(Nat.le_of_ble_eq_true rfl), (Nat.le_of_ble_eq_true rfl)⟩ ⟨(Nat.le_of_ble_eq_true rfl), (Nat.le_of_ble_eq_true rfl)⟩ (Nat.le_of_ble_eq_true rfl) ?_
    exact z_iret dX10_back_73 rfl rfl (mPost_of (bk_end hR hT hI) (back_some hk1 (by rw [hix]; exact hw))) (Nat.le_of_ble_eq_true rfl) (Nat.le_of_ble_eq_true rfl)
  | succ n ih =>
    intro S1 i hin hT
    refine z_iload_n dX10_back_26 rfl rfl ?_
    refine z_bipush (v := 8) dX10_back_27 rfl (by decide) ?_
    refine z_icmp_ge (tgt := 69) dX10_back_29 rfl (by decide) (fun c29 => absurd c29 (nI_nge8 (by omega))) (fun c29 => ?_)
    first | refine z_aload_n dX10_back_32 rfl rfl ?_ | refine z_aload_nN dX10_back_32 rfl rfl ?_
    refine zmg_27 rfl dX10_back_33 rfl ?_
    refine z_iload_n dX10_back_36 rfl rfl ?_
    first | refine z_aload_n dX10_back_37 rfl rfl ?_ | refine z_aload_nN dX10_back_37 rfl rfl ?_
    refine zmg_67 rfl dX10_back_38 rfl ?_
    refine z_bipush (v := 8) dX10_back_41 rfl (by decide) ?_
    refine z_iload_n dX10_back_43 rfl rfl ?_
    refine z_imul dX10_back_44 rfl ?_
    refine z_iload_n dX10_back_45 rfl rfl ?_
    refine z_iadd dX10_back_46 rfl ?_
    rw [n8]
    refine zm_iald dX10_back_47 rfl rfl (vp_in_nI (by omega) (by decide)) ?_
    rw [nI_clamp (show 8 * k + i < 2 ^ 31 by omega)]
    refine zm_iast dX10_back_48 rfl rfl (vp_in_nI (by omega) (by decide)) ?_
    rw [nI_clamp (show i < 2 ^ 31 by omega)]
    change zZ _ _ _ _ _ _ (mUp m (mHo S1 i (S1.1 19 (8 * k + i))) h) _ _
    first | refine z_aload_n dX10_back_49 rfl rfl ?_ | refine z_aload_nN dX10_back_49 rfl rfl ?_
    refine z_bipush (v := 8) dX10_back_50 rfl (by decide) ?_
    refine z_bipush (v := 8) dX10_back_52 rfl (by decide) ?_
    refine z_iload_n dX10_back_54 rfl rfl ?_
    refine z_imul dX10_back_55 rfl ?_
    refine z_iadd dX10_back_56 rfl ?_
    refine z_iload_n dX10_back_57 rfl rfl ?_
    refine z_iadd dX10_back_58 rfl ?_
    rw [n88]
    refine z_iload_n dX10_back_59 rfl rfl ?_
    refine zcv_X10_243 rfl dX10_back_60 rfl mo_recv (r_copiesRow g h m _ (8 + 8 * k + i) i (by omega) (by omega) (by omega)) rfl rfl ⟨(Nat.le_of_ble_eq_true rfl), (Nat.le_of_ble_eq_true rfl)⟩ ⟨(Nat.le_of_ble_eq_true rfl), (Nat.le_of_ble_eq_true rfl)⟩ (Nat.le_of_ble_eq_true rfl) ?_
    refine z_iinc (v := nI (i + 1)) dX10_back_63 rfl rfl (nI_inc i) (Nat.le_of_ble_eq_true rfl) ?_
    refine z_goto (tgt := 26) dX10_back_66 rfl (by decide) ?_
    refine z_lv [(2, .int (nI (i + 1))), (0, .ref m), (1, .int (nI k))] ⟨rfl, rfl, rfl, trivial⟩ ?_
    exact ih _ (i + 1) (by omega) (bk_step hk (by omega) hT)

set_option maxHeartbeats 800000 in
set_option maxRecDepth 100000 in
theorem R_back (g : zG) (h : zH) (m : Nat) (S : sMS) (w : sW) (hR : RepM S w) (k : Int32) : zM g yX10_back cX10_back 3 (some .int) rmX10_back [.ref m, .int k] (mUp m S h) (mPost m h (pBack w k)) := by
  refine zM_of (by decide) (Nat.le_of_ble_eq_true rfl) ?_
  refine z_iload_n dX10_back_0 rfl rfl ?_
  refine z_i2l dX10_back_1 rfl ?_
  refine z_lconst (v := 0) dX10_back_2 rfl (by decide) ?_
  refine z_lconst (v := 1) dX10_back_3 rfl (by decide) ?_
  refine zcx_X10_72 rfl dX10_back_4 rfl (r_in32 g _ _ 0 1 rfl rfl) rfl rfl ⟨(Nat.le_of_ble_eq_true rfl), (Nat.le_of_ble_eq_true rfl)⟩ ⟨(Nat.le_of_ble_eq_true rfl), (Nat.le_of_ble_eq_true rfl)⟩ (Nat.le_of_ble_eq_true rfl) ?_
  refine z_bif_ne (tgt := 12) dX10_back_7 rfl (by decide) (fun c7 => ?_) (fun c7 => ?_)
  · skip
    obtain ⟨kn, hk3, rfl⟩ := nI_of2 (x := k) (M := 1) (n := 1) (by decide) (by grind) c7.2
    have hk : kn < 2 := by omega
    have hix : ix (nI kn) = kn := nI_clamp (by omega)
    rcases hw : w.2.1 kn with _ | R
    · skip
      first | refine z_aload_n dX10_back_12 rfl rfl ?_ | refine z_aload_nN dX10_back_12 rfl rfl ?_
      refine zmg_64 rfl dX10_back_13 rfl ?_
      refine z_iload_n dX10_back_16 rfl rfl ?_
      refine zm_zald dX10_back_17 rfl rfl (vp_in_nI (by omega) (by decide)) ?_
      rw [nI_clamp (show kn < 2 ^ 31 by omega), img_flag hR hk, hw]
      refine z_if_ne (tgt := 24) dX10_back_18 rfl (by decide) (fun c18 => absurd c18 (fun z => z rfl)) (fun c18 => ?_)
      refine z_bipush (v := -2) dX10_back_21 rfl (by decide) ?_
      exact z_iret dX10_back_23 rfl rfl (mPost_of hR (back_none c7 (by rw [hix]; exact hw))) (Nat.le_of_ble_eq_true rfl) (Nat.le_of_ble_eq_true rfl)
    · skip
      first | refine z_aload_n dX10_back_12 rfl rfl ?_ | refine z_aload_nN dX10_back_12 rfl rfl ?_
      refine zmg_64 rfl dX10_back_13 rfl ?_
      refine z_iload_n dX10_back_16 rfl rfl ?_
      refine zm_zald dX10_back_17 rfl rfl (vp_in_nI (by omega) (by decide)) ?_
      rw [nI_clamp (show kn < 2 ^ 31 by omega), img_flag hR hk, hw]
      refine z_if_ne (tgt := 24) dX10_back_18 rfl (by decide) (fun c18 => ?_) (fun c18 => absurd c18 (show ¬ (1 : Int32) = 0 from by decide))
      refine z_iconst (v := 0) dX10_back_24 rfl (by decide) ?_
      refine z_istore_n dX10_back_25 rfl (Nat.le_of_ble_eq_true rfl) ?_
      refine z_lv [(2, .int (nI 0)), (0, .ref m), (1, .int (nI kn))] ⟨rfl, rfl, rfl, trivial⟩ ?_
      exact R_back_L g h m S w hR kn hk c7 hix R hw (img_some hR hk hw).2 8 S 0 (by omega) ⟨fun _ _ _ _ _ => rfl, fun r hr => absurd hr (by omega), fun _ _ => ⟨rfl, rfl⟩, fun _ _ => rfl, fun j hj => absurd hj (by omega), rfl⟩
  · skip
    refine z_iconst (v := -1) dX10_back_10 rfl (by decide) ?_
    exact z_iret dX10_back_11 rfl rfl (mPost_of hR (by grind [pBack])) (Nat.le_of_ble_eq_true rfl) (Nat.le_of_ble_eq_true rfl)

