def oC (c : Option sC) : sC := c.getD z0
/-- what stands against an act, next cell n of the array -/
def apF (A : sA) (t : sAct) (n : Nat) : Int32 := if t.1 ≠ 3 ∧ A.2.length ≤ n then 3 else if (t.1 = 1 ∨ t.1 = 2) ∧ ¬ sAlike (A.2.getD n z0) (oC t.2.1) = true then 7 else if (t.1 = 1 ∨ t.1 = 3) ∧ ¬ sInto (oC t.2.2).1 A.1 = true then 5 else 0
/-- what an act appends -/
def apC (A : sA) (t : sAct) (n : Nat) : List sC := if t.1 = 2 then [] else if t.1 = 0 then [A.2.getD n z0] else [oC t.2.2]
def apN (t : sAct) (n : Nat) : Nat := if t.1 = 3 then n else n + 1
/-- fault, acts done, cells made -/
def apL (A : sA) : List sAct → Nat → Nat → List sC → Int32 × Nat × List sC
  | [], k, n, M => (if n < A.2.length then 3 else 0, k, M)
  | t :: T, k, n, M => if apF A t n = 0 then apL A T (k + 1) (apN t n) (M ++ apC A t n) else (apF A t n, k, M)
/-- 27 -/
def pApply (w : sW) (p r : Int32) : Int32 × sW :=
  if ¬ (0 ≤ p ∧ p ≤ 3) ∨ ¬ isRec r then (-1, w) else match w.2.2.2.2.2.2 (ix p) with
  | none => (-2, w)
  | some L => if 0 < rowF w.1 (ix r) then (-10 - rowF w.1 (ix r), w)
    else if (apL (w.1.2.1 (ix r)) L 0 0 []).1 = 0 then (nI (apL (w.1.2.1 (ix r)) L 0 0 []).2.2.length, wTorn (wR w (rNew w.1 (ix r) ((w.1.2.1 (ix r)).1, (apL (w.1.2.1 (ix r)) L 0 0 []).2.2.map (fun c => sConv c (w.1.2.1 (ix r)).1)))) 0)
    else (-20 - nI (apL (w.1.2.1 (ix r)) L 0 0 []).2.1, wTorn w (apL (w.1.2.1 (ix r)) L 0 0 []).1)
def isIn (a : sAct) : Bool := !decide (a.1 = 2)
def isOld (a : sAct) : Bool := !decide (a.1 = 3)
/-- a patch makes, and takes, at most twenty cells -/
def pOk (L : List sAct) : Prop := L.countP isIn ≤ 20 ∧ L.countP isOld ≤ 20
theorem apply_bad {w : sW} {p r : Int32} (h : ¬ (0 ≤ p ∧ p ≤ 3) ∨ ¬ isRec r) : pApply w p r = (-1, w) := if_pos h
theorem apply_none {w : sW} {p r : Int32} (hp : 0 ≤ p ∧ p ≤ 3) (hr : isRec r) (h : w.2.2.2.2.2.2 (ix p) = none) : pApply w p r = (-2, w) := by
  unfold pApply
  rw [if_neg (fun z => z.elim (fun z => z hp) (fun z => z hr)), h]
theorem apply_row {w : sW} {p r : Int32} {L : List sAct} (hp : 0 ≤ p ∧ p ≤ 3) (hr : isRec r) (h : w.2.2.2.2.2.2 (ix p) = some L) (hf : 0 < rowF w.1 (ix r)) : pApply w p r = (-10 - rowF w.1 (ix r), w) := by
  unfold pApply
  rw [if_neg (fun z => z.elim (fun z => z hp) (fun z => z hr)), h]
  simp only [if_pos hf]
theorem apply_0 {w : sW} {p r : Int32} {L : List sAct} (hp : 0 ≤ p ∧ p ≤ 3) (hr : isRec r) (h : w.2.2.2.2.2.2 (ix p) = some L) (hf : ¬ 0 < rowF w.1 (ix r)) {k : Nat} {M : List sC} (he : apL (w.1.2.1 (ix r)) L 0 0 [] = (0, k, M)) : pApply w p r = (nI M.length, wTorn (wR w (rNew w.1 (ix r) ((w.1.2.1 (ix r)).1, M.map (fun c => sConv c (w.1.2.1 (ix r)).1)))) 0) := by
  unfold pApply
  rw [if_neg (fun z => z.elim (fun z => z hp) (fun z => z hr)), h]
  simp only [if_neg hf, he, if_true]
theorem apply_f {w : sW} {p r : Int32} {L : List sAct} (hp : 0 ≤ p ∧ p ≤ 3) (hr : isRec r) (h : w.2.2.2.2.2.2 (ix p) = some L) (hf : ¬ 0 < rowF w.1 (ix r)) {x : Int32} {k : Nat} {M : List sC} (he : apL (w.1.2.1 (ix r)) L 0 0 [] = (x, k, M)) (hx : ¬ x = 0) : pApply w p r = (-20 - nI k, wTorn w x) := by
  unfold pApply
  rw [if_neg (fun z => z.elim (fun z => z hp) (fun z => z hr)), h]
  simp only [if_neg hf, he, if_neg hx]
/-- fields of the application -/
def mNx (S : sMS) (v : Int32) : sMS := (S.1, S.2.1, S.2.2.1, va_up S.2.2.2.1 22 v, S.2.2.2.2)
def mLd (S : sMS) (v : Int32) : sMS := (S.1, S.2.1, S.2.2.1, va_up S.2.2.2.1 23 v, S.2.2.2.2)
theorem RepM_fld {S : sMS} {w : sW} (hR : RepM S w) {j : Nat} (hj : 12 < j) (v : Int32) : RepM (S.1, S.2.1, S.2.2.1, va_up S.2.2.2.1 j v, S.2.2.2.2) w := by
  obtain ⟨a, ⟨b, c, d, e, f⟩, g, k⟩ := hR
  have q : ∀ i, i ≤ 12 → va_up S.2.2.2.1 j v i = S.2.2.2.1 i := fun i hi => by simp only [va_up]; rw [if_neg (by omega)]
  refine ⟨a, ⟨b, c, d, ?_, f⟩, g, (q 7 (by decide)).trans k⟩
  unfold coIs at e ⊢
  generalize w.2.2.2.2.2.1 = I at e ⊢
  cases I with
  | none => exact (q 10 (by decide)).trans e
  | some C =>
    obtain ⟨q1, q2, q3, q4, q5, q6, q7⟩ := e
    exact ⟨(q 10 (by decide)).trans q1, q2, q3, (q 11 (by decide)).trans q4, (q 12 (by decide)).trans q5, q6, q7⟩
/-- where the application stands -/
def apIs (S : sMS) (w : sW) (n : Nat) (M : List sC) : Prop := RepM S w ∧ S.2.2.2.1 22 = nI n ∧ S.2.2.2.1 23 = nI M.length ∧ made S M
theorem ap_0 {S : sMS} {w : sW} {n n' : Nat} {M : List sC} (h : apIs S w n M) : apIs (mNx S (nI n')) w n' M := ⟨RepM_fld h.1 (by decide) _, by simp [mNx, va_up], by rw [← h.2.2.1]; simp [mNx, va_up], h.2.2.2⟩
theorem ap_1 {S : sMS} {w : sW} {n n' : Nat} {M : List sC} (h : apIs S w n M) (hl : M.length < 40) (c : sC) : apIs (mLd (mLay (mNx S (nI n')) (520 + M.length) c) (nI (M.length + 1))) w n' (M ++ [c]) := by
  have h1 := ap_0 (n' := n') h
  refine ⟨RepM_fld (RepM_scr h1.1 (scr_lay (scr_r _) hl c)) (by decide) _, ?_, ?_, ?_⟩
  · show va_up (mLay (mNx S (nI n')) (520 + M.length) c).2.2.2.1 23 (nI (M.length + 1)) 22 = _
    rw [mLay_s]
    simp [mNx, va_up]
  · rw [List.length_append]
    simp [mLd, va_up]
  · exact made_s (S := mNx S (nI n')) h1.2.2.2 c

set_option maxHeartbeats 800000 in
set_option maxRecDepth 100000 in
theorem q_actFault (g : zG) (h : zH) (m : Nat) (S : sMS) (w : sW) (r : Int32) (hr : isRec r) (h2 : w.1.1 (ix r) = 2) (p k : Nat) (hp : p < 4) (hk4 : k < 40) (n : Nat) (M : List sC) (hn : n < 2 ^ 30) (hM : M.length < 40) (hA : apIs S w n M) (t : sAct) (ht : actIs S p k t) : zM g yX10_actFault cX10_actFault 6 (some .int) rmX10_actFault [.ref m, .int (nI (40 * p + k)), .int r] (mUp m S h) (fun v h1 => (¬ apF (w.1.2.1 (ix r)) t n = 0 ∧ v = some (.int (apF (w.1.2.1 (ix r)) t n)) ∧ h1 = mUp m S h) ∨ (apF (w.1.2.1 (ix r)) t n = 0 ∧ v = some (.int 0) ∧ ∃ S2, h1 = mUp m S2 h ∧ apIs S2 w (apN t n) (M ++ apC (w.1.2.1 (ix r)) t n))) := by
  refine zM_of (by decide) (Nat.le_of_ble_eq_true rfl) ?_
  have kz := rep_kind hA.1.1 (ix_lt hr) h2
  have la : (w.1.2.1 (ix r)).2.length ≤ 20 := kz.2.2.2.2.2.1
  have hx4 : t.1 = 0 ∨ t.1 = 1 ∨ t.1 = 2 ∨ t.1 = 3 := by have := ht.2.1; have := ht.2.2.1; grind
  rcases hx4 with e1 | e1 | e1 | e1
  · skip
    first | refine z_aload_n dX10_actFault_0 rfl rfl ?_ | refine z_aload_nN dX10_actFault_0 rfl rfl ?_
    refine zmg_61 rfl dX10_actFault_1 rfl ?_
    refine z_iload_n dX10_actFault_4 rfl rfl ?_
    refine zm_iald dX10_actFault_5 rfl rfl (vp_in_nI (by omega) (by decide)) ?_
    rw [show S.1 17 (nI (40 * p + k)).toNatClampNeg = t.1 from by rw [nI_clamp (by omega)]; exact ht.1, e1]
    refine z_iconst (v := 3) dX10_actFault_6 rfl (by decide) ?_
    refine z_icmp_eq (tgt := 14) dX10_actFault_7 rfl (by decide) (fun c7 => absurd c7 (by decide)) (fun c7 => ?_)
    refine z_iconst (v := 1) dX10_actFault_10 rfl (by decide) ?_
    refine z_goto (tgt := 15) dX10_actFault_11 rfl (by decide) ?_
    refine z_istore_n dX10_actFault_15 rfl (Nat.le_of_ble_eq_true rfl) ?_
    refine z_iload_n dX10_actFault_16 rfl rfl ?_
    refine z_if_eq (tgt := 34) dX10_actFault_17 rfl (by decide) (fun c17 => absurd c17 (by decide)) (fun c17 => ?_)
    first | refine z_aload_n dX10_actFault_20 rfl rfl ?_ | refine z_aload_nN dX10_actFault_20 rfl rfl ?_
    refine zmg_303 rfl dX10_actFault_21 rfl ?_
    rw [hA.2.1]
    first | refine z_aload_n dX10_actFault_24 rfl rfl ?_ | refine z_aload_nN dX10_actFault_24 rfl rfl ?_
    refine z_iload_n dX10_actFault_25 rfl rfl ?_
    refine zcx_X10_152 rfl dX10_actFault_26 rfl mo_recv (r_sizeOf g h m S _ (rec_in hr) kz.2.2.1) rfl rfl ⟨(Nat.le_of_ble_eq_true rfl), (Nat.le_of_ble_eq_true rfl)⟩ ⟨(Nat.le_of_ble_eq_true rfl), (Nat.le_of_ble_eq_true rfl)⟩ (Nat.le_of_ble_eq_true rfl) ?_
    rw [kz.2.1]
    refine z_icmp_lt (tgt := 34) dX10_actFault_29 rfl (by decide) (fun c29 => ?_) (fun c29 => ?_)
    · skip
      refine z_iload_n dX10_actFault_34 rfl rfl ?_
      refine z_if_eq (tgt := 50) dX10_actFault_35 rfl (by decide) (fun c35 => absurd c35 (by decide)) (fun c35 => ?_)
      have hlt : n < (w.1.2.1 (ix r)).2.length := Nat.lt_of_not_le (fun z => absurd c29 (nI_nlt z (by omega)))
      obtain ⟨pa, pm, po, -⟩ := rep_cell hA.1.1 (i := nI n) (ix_lt hr) h2 (by rw [nI_toInt (by omega)]; omega) (by rw [nI_toInt (by omega)]; omega)
      rw [show ix (nI n) = n from nI_clamp (by omega)] at pm po
      have pm : mc S (20 * S.1 6 (ix r) + nI n).toNatClampNeg = (w.1.2.1 (ix r)).2.getD n z0 := pm
      first | refine z_aload_n dX10_actFault_38 rfl rfl ?_ | refine z_aload_nN dX10_actFault_38 rfl rfl ?_
      refine z_iload_n dX10_actFault_39 rfl rfl ?_
      first | refine z_aload_n dX10_actFault_40 rfl rfl ?_ | refine z_aload_nN dX10_actFault_40 rfl rfl ?_
      refine zmg_303 rfl dX10_actFault_41 rfl ?_
      rw [hA.2.1]
      refine zcx_X10_135 rfl dX10_actFault_44 rfl mo_recv (r_cellAt g h m S _ _ (rec_in hr)) rfl rfl ⟨(Nat.le_of_ble_eq_true rfl), (Nat.le_of_ble_eq_true rfl)⟩ ⟨(Nat.le_of_ble_eq_true rfl), (Nat.le_of_ble_eq_true rfl)⟩ (Nat.le_of_ble_eq_true rfl) ?_
      refine z_goto (tgt := 52) dX10_actFault_47 rfl (by decide) ?_
      refine z_istore dX10_actFault_52 rfl (Nat.le_of_ble_eq_true rfl) ?_
      first | refine z_aload_n dX10_actFault_54 rfl rfl ?_ | refine z_aload_nN dX10_actFault_54 rfl rfl ?_
      refine zmg_61 rfl dX10_actFault_55 rfl ?_
      refine z_iload_n dX10_actFault_58 rfl rfl ?_
      refine zm_iald dX10_actFault_59 rfl rfl (vp_in_nI (by omega) (by decide)) ?_
      rw [show S.1 17 (nI (40 * p + k)).toNatClampNeg = t.1 from by rw [nI_clamp (by omega)]; exact ht.1, e1]
      refine z_iconst (v := 1) dX10_actFault_60 rfl (by decide) ?_
      refine z_icmp_eq (tgt := 74) dX10_actFault_61 rfl (by decide) (fun c61 => absurd c61 (by decide)) (fun c61 => ?_)
      first | refine z_aload_n dX10_actFault_64 rfl rfl ?_ | refine z_aload_nN dX10_actFault_64 rfl rfl ?_
      refine zmg_61 rfl dX10_actFault_65 rfl ?_
      refine z_iload_n dX10_actFault_68 rfl rfl ?_
      refine zm_iald dX10_actFault_69 rfl rfl (vp_in_nI (by omega) (by decide)) ?_
      rw [show S.1 17 (nI (40 * p + k)).toNatClampNeg = t.1 from by rw [nI_clamp (by omega)]; exact ht.1, e1]
      refine z_iconst (v := 3) dX10_actFault_70 rfl (by decide) ?_
      refine z_icmp_ne (tgt := 78) dX10_actFault_71 rfl (by decide) (fun c71 => ?_) (fun c71 => absurd c71 (by decide))
      refine z_iconst (v := 0) dX10_actFault_78 rfl (by decide) ?_
      refine z_istore dX10_actFault_79 rfl (Nat.le_of_ble_eq_true rfl) ?_
      first | refine z_aload_n dX10_actFault_81 rfl rfl ?_ | refine z_aload_nN dX10_actFault_81 rfl rfl ?_
      refine zmg_61 rfl dX10_actFault_82 rfl ?_
      refine z_iload_n dX10_actFault_85 rfl rfl ?_
      refine zm_iald dX10_actFault_86 rfl rfl (vp_in_nI (by omega) (by decide)) ?_
      rw [show S.1 17 (nI (40 * p + k)).toNatClampNeg = t.1 from by rw [nI_clamp (by omega)]; exact ht.1, e1]
      refine z_iconst (v := 1) dX10_actFault_87 rfl (by decide) ?_
      refine z_icmp_eq (tgt := 101) dX10_actFault_88 rfl (by decide) (fun c88 => absurd c88 (by decide)) (fun c88 => ?_)
      first | refine z_aload_n dX10_actFault_91 rfl rfl ?_ | refine z_aload_nN dX10_actFault_91 rfl rfl ?_
      refine zmg_61 rfl dX10_actFault_92 rfl ?_
      refine z_iload_n dX10_actFault_95 rfl rfl ?_
      refine zm_iald dX10_actFault_96 rfl rfl (vp_in_nI (by omega) (by decide)) ?_
      rw [show S.1 17 (nI (40 * p + k)).toNatClampNeg = t.1 from by rw [nI_clamp (by omega)]; exact ht.1, e1]
      refine z_iconst (v := 2) dX10_actFault_97 rfl (by decide) ?_
      refine z_icmp_ne (tgt := 118) dX10_actFault_98 rfl (by decide) (fun c98 => ?_) (fun c98 => absurd c98 (by decide))
      refine z_iload dX10_actFault_118 rfl rfl ?_
      refine z_if_eq (tgt := 146) dX10_actFault_120 rfl (by decide) (fun c120 => ?_) (fun c120 => absurd c120 (fun z => z rfl))
      first | refine z_aload_n dX10_actFault_146 rfl rfl ?_ | refine z_aload_nN dX10_actFault_146 rfl rfl ?_
      refine z_dup dX10_actFault_147 rfl rfl ?_
      refine zmg_303 rfl dX10_actFault_148 rfl ?_
      rw [hA.2.1]
      refine z_iload_n dX10_actFault_151 rfl rfl ?_
      refine zcx_X10_200 rfl dX10_actFault_152 rfl (r_flag g _ True) rfl rfl ⟨(Nat.le_of_ble_eq_true rfl), (Nat.le_of_ble_eq_true rfl)⟩ ⟨(Nat.le_of_ble_eq_true rfl), (Nat.le_of_ble_eq_true rfl)⟩ (Nat.le_of_ble_eq_true rfl) ?_
      refine z_iadd dX10_actFault_155 rfl ?_
      rw [if_pos trivial, show nI n + (1 : Int32) = nI (n + 1) from nI_1 n]
      refine zmp_303 rfl dX10_actFault_156 rfl ?_
      change zZ _ _ _ _ _ _ (mUp m (mNx S (nI (n + 1))) h) _ _
      first | refine z_aload_n dX10_actFault_159 rfl rfl ?_ | refine z_aload_nN dX10_actFault_159 rfl rfl ?_
      refine zmg_61 rfl dX10_actFault_160 rfl ?_
      refine z_iload_n dX10_actFault_163 rfl rfl ?_
      refine zm_iald dX10_actFault_164 rfl rfl (vp_in_nI (by omega) (by decide)) ?_
      rw [show (mNx S (nI (n + 1))).1 17 (nI (40 * p + k)).toNatClampNeg = t.1 from by rw [nI_clamp (by omega)]; exact ht.1, e1]
      refine z_iconst (v := 2) dX10_actFault_165 rfl (by decide) ?_
      refine z_icmp_eq (tgt := 206) dX10_actFault_166 rfl (by decide) (fun c166 => absurd c166 (by decide)) (fun c166 => ?_)
      first | refine z_aload_n dX10_actFault_169 rfl rfl ?_ | refine z_aload_nN dX10_actFault_169 rfl rfl ?_
      refine z_iload dX10_actFault_170 rfl rfl ?_
      refine z_if_eq (tgt := 183) dX10_actFault_172 rfl (by decide) (fun c172 => ?_) (fun c172 => absurd c172 (fun z => z rfl))
      refine z_iload dX10_actFault_183 rfl rfl ?_
      refine z_sipush (v := 520) dX10_actFault_185 rfl (by decide) ?_
      first | refine z_aload_n dX10_actFault_188 rfl rfl ?_ | refine z_aload_nN dX10_actFault_188 rfl rfl ?_
      refine zmg_306 rfl dX10_actFault_189 rfl ?_
      rw [show (mNx S (nI (n + 1))).2.2.2.1 23 = nI M.length from by rw [← hA.2.2.1]; simp [mNx, va_up]]
      refine z_iadd dX10_actFault_192 rfl ?_
      rw [n520]
      refine zcv_X10_229 rfl dX10_actFault_193 rfl mo_recv (r_copiesCell g h m _ _ _ pa (vp_in_nI (show 520 + M.length < 880 by omega) (by decide))) rfl rfl ⟨(Nat.le_of_ble_eq_true rfl), (Nat.le_of_ble_eq_true rfl)⟩ ⟨(Nat.le_of_ble_eq_true rfl), (Nat.le_of_ble_eq_true rfl)⟩ (Nat.le_of_ble_eq_true rfl) ?_
      rw [nI_clamp (show 520 + M.length < 2 ^ 31 by omega), show mc (mNx S (nI (n + 1))) _ = (w.1.2.1 (ix r)).2.getD n z0 from pm]
      first | refine z_aload_n dX10_actFault_196 rfl rfl ?_ | refine z_aload_nN dX10_actFault_196 rfl rfl ?_
      refine z_dup dX10_actFault_197 rfl rfl ?_
      refine zmg_306 rfl dX10_actFault_198 rfl ?_
      rw [show (mLay (mNx S (nI (n + 1))) (520 + M.length) ((w.1.2.1 (ix r)).2.getD n z0)).2.2.2.1 23 = nI M.length from by rw [mLay_s, ← hA.2.2.1]; simp [mNx, va_up]]
      refine z_iconst (v := 1) dX10_actFault_201 rfl (by decide) ?_
      refine z_iadd dX10_actFault_202 rfl ?_
      rw [show nI M.length + (1 : Int32) = nI (M.length + 1) from nI_1 _]
      refine zmp_306 rfl dX10_actFault_203 rfl ?_
      change zZ _ _ _ _ _ _ (mUp m (mLd (mLay (mNx S (nI (n + 1))) (520 + M.length) ((w.1.2.1 (ix r)).2.getD n z0)) (nI (M.length + 1))) h) _ _
      refine z_iconst (v := 0) dX10_actFault_206 rfl (by decide) ?_
      exact z_iret dX10_actFault_207 rfl rfl (by have hfx : apF (w.1.2.1 (ix r)) t n = 0 := (by unfold apF; grind [oC]); have hN2 : apN t n = (n + 1) := (by unfold apN; grind); have hC2 : apC (w.1.2.1 (ix r)) t n = [(w.1.2.1 (ix r)).2.getD n z0] := (by unfold apC; grind [oC]); exact Or.inr ⟨hfx, rfl, _, rfl, (by rw [hN2, hC2]; exact ap_1 hA hM _)⟩) (Nat.le_of_ble_eq_true rfl) (Nat.le_of_ble_eq_true rfl)
    · skip
      refine z_iconst (v := 3) dX10_actFault_32 rfl (by decide) ?_
      exact z_iret dX10_actFault_33 rfl rfl (by have hfx : apF (w.1.2.1 (ix r)) t n = 3 := (by have hle : (w.1.2.1 (ix r)).2.length ≤ n := Nat.le_of_not_lt (fun z => c29 (nI_lt z (by omega))); unfold apF; grind); exact Or.inl ⟨by rw [hfx]; decide, by rw [hfx], rfl⟩) (Nat.le_of_ble_eq_true rfl) (Nat.le_of_ble_eq_true rfl)
  · obtain ⟨cO, eO⟩ : ∃ c, t.2.1 = some c := by
      cases q : t.2.1 with
      | none => exact absurd (ht.2.2.2.1.mp q) (by rw [e1]; decide)
      | some c => exact ⟨c, rfl⟩
    have hO := ht.2.2.2.2.2.1 cO eO
    obtain ⟨cN, eN⟩ : ∃ c, t.2.2 = some c := by
      cases q : t.2.2 with
      | none => exact absurd (ht.2.2.2.2.1.mp q) (by rw [e1]; decide)
      | some c => exact ⟨c, rfl⟩
    have hN := ht.2.2.2.2.2.2 cN eN
    first | refine z_aload_n dX10_actFault_0 rfl rfl ?_ | refine z_aload_nN dX10_actFault_0 rfl rfl ?_
    refine zmg_61 rfl dX10_actFault_1 rfl ?_
    refine z_iload_n dX10_actFault_4 rfl rfl ?_
    refine zm_iald dX10_actFault_5 rfl rfl (vp_in_nI (by omega) (by decide)) ?_
    rw [show S.1 17 (nI (40 * p + k)).toNatClampNeg = t.1 from by rw [nI_clamp (by omega)]; exact ht.1, e1]
    refine z_iconst (v := 3) dX10_actFault_6 rfl (by decide) ?_
    refine z_icmp_eq (tgt := 14) dX10_actFault_7 rfl (by decide) (fun c7 => absurd c7 (by decide)) (fun c7 => ?_)
    refine z_iconst (v := 1) dX10_actFault_10 rfl (by decide) ?_
    refine z_goto (tgt := 15) dX10_actFault_11 rfl (by decide) ?_
    refine z_istore_n dX10_actFault_15 rfl (Nat.le_of_ble_eq_true rfl) ?_
    refine z_iload_n dX10_actFault_16 rfl rfl ?_
    refine z_if_eq (tgt := 34) dX10_actFault_17 rfl (by decide) (fun c17 => absurd c17 (by decide)) (fun c17 => ?_)
    first | refine z_aload_n dX10_actFault_20 rfl rfl ?_ | refine z_aload_nN dX10_actFault_20 rfl rfl ?_
    refine zmg_303 rfl dX10_actFault_21 rfl ?_
    rw [hA.2.1]
    first | refine z_aload_n dX10_actFault_24 rfl rfl ?_ | refine z_aload_nN dX10_actFault_24 rfl rfl ?_
    refine z_iload_n dX10_actFault_25 rfl rfl ?_
    refine zcx_X10_152 rfl dX10_actFault_26 rfl mo_recv (r_sizeOf g h m S _ (rec_in hr) kz.2.2.1) rfl rfl ⟨(Nat.le_of_ble_eq_true rfl), (Nat.le_of_ble_eq_true rfl)⟩ ⟨(Nat.le_of_ble_eq_true rfl), (Nat.le_of_ble_eq_true rfl)⟩ (Nat.le_of_ble_eq_true rfl) ?_
    rw [kz.2.1]
    refine z_icmp_lt (tgt := 34) dX10_actFault_29 rfl (by decide) (fun c29 => ?_) (fun c29 => ?_)
    · skip
      refine z_iload_n dX10_actFault_34 rfl rfl ?_
      refine z_if_eq (tgt := 50) dX10_actFault_35 rfl (by decide) (fun c35 => absurd c35 (by decide)) (fun c35 => ?_)
      have hlt : n < (w.1.2.1 (ix r)).2.length := Nat.lt_of_not_le (fun z => absurd c29 (nI_nlt z (by omega)))
      obtain ⟨pa, pm, po, -⟩ := rep_cell hA.1.1 (i := nI n) (ix_lt hr) h2 (by rw [nI_toInt (by omega)]; omega) (by rw [nI_toInt (by omega)]; omega)
      rw [show ix (nI n) = n from nI_clamp (by omega)] at pm po
      have pm : mc S (20 * S.1 6 (ix r) + nI n).toNatClampNeg = (w.1.2.1 (ix r)).2.getD n z0 := pm
      first | refine z_aload_n dX10_actFault_38 rfl rfl ?_ | refine z_aload_nN dX10_actFault_38 rfl rfl ?_
      refine z_iload_n dX10_actFault_39 rfl rfl ?_
      first | refine z_aload_n dX10_actFault_40 rfl rfl ?_ | refine z_aload_nN dX10_actFault_40 rfl rfl ?_
      refine zmg_303 rfl dX10_actFault_41 rfl ?_
      rw [hA.2.1]
      refine zcx_X10_135 rfl dX10_actFault_44 rfl mo_recv (r_cellAt g h m S _ _ (rec_in hr)) rfl rfl ⟨(Nat.le_of_ble_eq_true rfl), (Nat.le_of_ble_eq_true rfl)⟩ ⟨(Nat.le_of_ble_eq_true rfl), (Nat.le_of_ble_eq_true rfl)⟩ (Nat.le_of_ble_eq_true rfl) ?_
      refine z_goto (tgt := 52) dX10_actFault_47 rfl (by decide) ?_
      refine z_istore dX10_actFault_52 rfl (Nat.le_of_ble_eq_true rfl) ?_
      first | refine z_aload_n dX10_actFault_54 rfl rfl ?_ | refine z_aload_nN dX10_actFault_54 rfl rfl ?_
      refine zmg_61 rfl dX10_actFault_55 rfl ?_
      refine z_iload_n dX10_actFault_58 rfl rfl ?_
      refine zm_iald dX10_actFault_59 rfl rfl (vp_in_nI (by omega) (by decide)) ?_
      rw [show S.1 17 (nI (40 * p + k)).toNatClampNeg = t.1 from by rw [nI_clamp (by omega)]; exact ht.1, e1]
      refine z_iconst (v := 1) dX10_actFault_60 rfl (by decide) ?_
      refine z_icmp_eq (tgt := 74) dX10_actFault_61 rfl (by decide) (fun c61 => ?_) (fun c61 => absurd c61 (fun z => z rfl))
      refine z_iconst (v := 1) dX10_actFault_74 rfl (by decide) ?_
      refine z_goto (tgt := 79) dX10_actFault_75 rfl (by decide) ?_
      refine z_istore dX10_actFault_79 rfl (Nat.le_of_ble_eq_true rfl) ?_
      first | refine z_aload_n dX10_actFault_81 rfl rfl ?_ | refine z_aload_nN dX10_actFault_81 rfl rfl ?_
      refine zmg_61 rfl dX10_actFault_82 rfl ?_
      refine z_iload_n dX10_actFault_85 rfl rfl ?_
      refine zm_iald dX10_actFault_86 rfl rfl (vp_in_nI (by omega) (by decide)) ?_
      rw [show S.1 17 (nI (40 * p + k)).toNatClampNeg = t.1 from by rw [nI_clamp (by omega)]; exact ht.1, e1]
      refine z_iconst (v := 1) dX10_actFault_87 rfl (by decide) ?_
      refine z_icmp_eq (tgt := 101) dX10_actFault_88 rfl (by decide) (fun c88 => ?_) (fun c88 => absurd c88 (fun z => z rfl))
      first | refine z_aload_n dX10_actFault_101 rfl rfl ?_ | refine z_aload_nN dX10_actFault_101 rfl rfl ?_
      refine z_iload dX10_actFault_102 rfl rfl ?_
      refine z_sipush (v := 560) dX10_actFault_104 rfl (by decide) ?_
      refine z_iload_n dX10_actFault_107 rfl rfl ?_
      refine z_iadd dX10_actFault_108 rfl ?_
      rw [n560]
      refine zcx_X10_112 rfl dX10_actFault_109 rfl mo_recv (r_areAlike g h m S _ _ pa (vp_in_nI (by omega) (by decide)) (by rw [pm]; exact po) (by rw [nI_clamp (by omega), hO.1]; exact hO.2)) rfl rfl ⟨(Nat.le_of_ble_eq_true rfl), (Nat.le_of_ble_eq_true rfl)⟩ ⟨(Nat.le_of_ble_eq_true rfl), (Nat.le_of_ble_eq_true rfl)⟩ (Nat.le_of_ble_eq_true rfl) ?_
      rw [pm, nI_clamp (show 560 + (40 * p + k) < 2 ^ 31 by omega), hO.1]
      refine z_bif_ne (tgt := 118) dX10_actFault_112 rfl (by decide) (fun c112 => ?_) (fun c112 => ?_)
      · skip
        refine z_iload dX10_actFault_118 rfl rfl ?_
        refine z_if_eq (tgt := 146) dX10_actFault_120 rfl (by decide) (fun c120 => absurd c120 (by decide)) (fun c120 => ?_)
        first | refine z_aload_n dX10_actFault_123 rfl rfl ?_ | refine z_aload_nN dX10_actFault_123 rfl rfl ?_
        refine zmg_7 rfl dX10_actFault_124 rfl ?_
        refine z_sipush (v := 720) dX10_actFault_127 rfl (by decide) ?_
        refine z_iload_n dX10_actFault_130 rfl rfl ?_
        refine z_iadd dX10_actFault_131 rfl ?_
        rw [n720]
        refine zm_iald dX10_actFault_132 rfl rfl (vp_in_nI (by omega) (by decide)) ?_
        rw [show S.1 1 (nI (720 + (40 * p + k))).toNatClampNeg = cN.1 from by rw [nI_clamp (by omega)]; exact congrArg (fun c : sC => c.1) hN.1]
        first | refine z_aload_n dX10_actFault_133 rfl rfl ?_ | refine z_aload_nN dX10_actFault_133 rfl rfl ?_
        refine z_iload_n dX10_actFault_134 rfl rfl ?_
        refine zcx_X10_146 rfl dX10_actFault_135 rfl mo_recv (r_kindOf g h m S _ (rec_in hr) kz.2.2.1) rfl rfl ⟨(Nat.le_of_ble_eq_true rfl), (Nat.le_of_ble_eq_true rfl)⟩ ⟨(Nat.le_of_ble_eq_true rfl), (Nat.le_of_ble_eq_true rfl)⟩ (Nat.le_of_ble_eq_true rfl) ?_
        rw [kz.1]
        refine zcx_X10_80 rfl dX10_actFault_138 rfl (r_goesInto g _ _ _) rfl rfl ⟨(Nat.le_of_ble_eq_true rfl), (Nat.le_of_ble_eq_true rfl)⟩ ⟨(Nat.le_of_ble_eq_true rfl), (Nat.le_of_ble_eq_true rfl)⟩ (Nat.le_of_ble_eq_true rfl) ?_
        refine z_bif_ne (tgt := 146) dX10_actFault_141 rfl (by decide) (fun c141 => ?_) (fun c141 => ?_)
        · skip
          first | refine z_aload_n dX10_actFault_146 rfl rfl ?_ | refine z_aload_nN dX10_actFault_146 rfl rfl ?_
          refine z_dup dX10_actFault_147 rfl rfl ?_
          refine zmg_303 rfl dX10_actFault_148 rfl ?_
          rw [hA.2.1]
          refine z_iload_n dX10_actFault_151 rfl rfl ?_
          refine zcx_X10_200 rfl dX10_actFault_152 rfl (r_flag g _ True) rfl rfl ⟨(Nat.le_of_ble_eq_true rfl), (Nat.le_of_ble_eq_true rfl)⟩ ⟨(Nat.le_of_ble_eq_true rfl), (Nat.le_of_ble_eq_true rfl)⟩ (Nat.le_of_ble_eq_true rfl) ?_
          refine z_iadd dX10_actFault_155 rfl ?_
          rw [if_pos trivial, show nI n + (1 : Int32) = nI (n + 1) from nI_1 n]
          refine zmp_303 rfl dX10_actFault_156 rfl ?_
          change zZ _ _ _ _ _ _ (mUp m (mNx S (nI (n + 1))) h) _ _
          first | refine z_aload_n dX10_actFault_159 rfl rfl ?_ | refine z_aload_nN dX10_actFault_159 rfl rfl ?_
          refine zmg_61 rfl dX10_actFault_160 rfl ?_
          refine z_iload_n dX10_actFault_163 rfl rfl ?_
          refine zm_iald dX10_actFault_164 rfl rfl (vp_in_nI (by omega) (by decide)) ?_
          rw [show (mNx S (nI (n + 1))).1 17 (nI (40 * p + k)).toNatClampNeg = t.1 from by rw [nI_clamp (by omega)]; exact ht.1, e1]
          refine z_iconst (v := 2) dX10_actFault_165 rfl (by decide) ?_
          refine z_icmp_eq (tgt := 206) dX10_actFault_166 rfl (by decide) (fun c166 => absurd c166 (by decide)) (fun c166 => ?_)
          first | refine z_aload_n dX10_actFault_169 rfl rfl ?_ | refine z_aload_nN dX10_actFault_169 rfl rfl ?_
          refine z_iload dX10_actFault_170 rfl rfl ?_
          refine z_if_eq (tgt := 183) dX10_actFault_172 rfl (by decide) (fun c172 => absurd c172 (by decide)) (fun c172 => ?_)
          refine z_sipush (v := 720) dX10_actFault_175 rfl (by decide) ?_
          refine z_iload_n dX10_actFault_178 rfl rfl ?_
          refine z_iadd dX10_actFault_179 rfl ?_
          rw [n720]
          refine z_goto (tgt := 185) dX10_actFault_180 rfl (by decide) ?_
          refine z_sipush (v := 520) dX10_actFault_185 rfl (by decide) ?_
          first | refine z_aload_n dX10_actFault_188 rfl rfl ?_ | refine z_aload_nN dX10_actFault_188 rfl rfl ?_
          refine zmg_306 rfl dX10_actFault_189 rfl ?_
          rw [show (mNx S (nI (n + 1))).2.2.2.1 23 = nI M.length from by rw [← hA.2.2.1]; simp [mNx, va_up]]
          refine z_iadd dX10_actFault_192 rfl ?_
          rw [n520]
          refine zcv_X10_229 rfl dX10_actFault_193 rfl mo_recv (r_copiesCell g h m _ _ _ (vp_in_nI (by omega) (by decide)) (vp_in_nI (show 520 + M.length < 880 by omega) (by decide))) rfl rfl ⟨(Nat.le_of_ble_eq_true rfl), (Nat.le_of_ble_eq_true rfl)⟩ ⟨(Nat.le_of_ble_eq_true rfl), (Nat.le_of_ble_eq_true rfl)⟩ (Nat.le_of_ble_eq_true rfl) ?_
          rw [nI_clamp (show 520 + M.length < 2 ^ 31 by omega), nI_clamp (show 720 + (40 * p + k) < 2 ^ 31 by omega), show mc (mNx S (nI (n + 1))) (720 + (40 * p + k)) = cN from hN.1]
          first | refine z_aload_n dX10_actFault_196 rfl rfl ?_ | refine z_aload_nN dX10_actFault_196 rfl rfl ?_
          refine z_dup dX10_actFault_197 rfl rfl ?_
          refine zmg_306 rfl dX10_actFault_198 rfl ?_
          rw [show (mLay (mNx S (nI (n + 1))) (520 + M.length) cN).2.2.2.1 23 = nI M.length from by rw [mLay_s, ← hA.2.2.1]; simp [mNx, va_up]]
          refine z_iconst (v := 1) dX10_actFault_201 rfl (by decide) ?_
          refine z_iadd dX10_actFault_202 rfl ?_
          rw [show nI M.length + (1 : Int32) = nI (M.length + 1) from nI_1 _]
          refine zmp_306 rfl dX10_actFault_203 rfl ?_
          change zZ _ _ _ _ _ _ (mUp m (mLd (mLay (mNx S (nI (n + 1))) (520 + M.length) cN) (nI (M.length + 1))) h) _ _
          refine z_iconst (v := 0) dX10_actFault_206 rfl (by decide) ?_
          exact z_iret dX10_actFault_207 rfl rfl (by have hfx : apF (w.1.2.1 (ix r)) t n = 0 := (by unfold apF; grind [oC]); have hN2 : apN t n = (n + 1) := (by unfold apN; grind); have hC2 : apC (w.1.2.1 (ix r)) t n = [cN] := (by unfold apC; grind [oC]); exact Or.inr ⟨hfx, rfl, _, rfl, (by rw [hN2, hC2]; exact ap_1 hA hM _)⟩) (Nat.le_of_ble_eq_true rfl) (Nat.le_of_ble_eq_true rfl)
        · skip
          refine z_iconst (v := 5) dX10_actFault_144 rfl (by decide) ?_
          exact z_iret dX10_actFault_145 rfl rfl (by have hfx : apF (w.1.2.1 (ix r)) t n = 5 := (by unfold apF; grind [oC]); exact Or.inl ⟨by rw [hfx]; decide, by rw [hfx], rfl⟩) (Nat.le_of_ble_eq_true rfl) (Nat.le_of_ble_eq_true rfl)
      · skip
        refine z_bipush (v := 7) dX10_actFault_115 rfl (by decide) ?_
        exact z_iret dX10_actFault_117 rfl rfl (by have hfx : apF (w.1.2.1 (ix r)) t n = 7 := (by unfold apF; grind [oC]); exact Or.inl ⟨by rw [hfx]; decide, by rw [hfx], rfl⟩) (Nat.le_of_ble_eq_true rfl) (Nat.le_of_ble_eq_true rfl)
    · skip
      refine z_iconst (v := 3) dX10_actFault_32 rfl (by decide) ?_
      exact z_iret dX10_actFault_33 rfl rfl (by have hfx : apF (w.1.2.1 (ix r)) t n = 3 := (by have hle : (w.1.2.1 (ix r)).2.length ≤ n := Nat.le_of_not_lt (fun z => c29 (nI_lt z (by omega))); unfold apF; grind); exact Or.inl ⟨by rw [hfx]; decide, by rw [hfx], rfl⟩) (Nat.le_of_ble_eq_true rfl) (Nat.le_of_ble_eq_true rfl)
  · obtain ⟨cO, eO⟩ : ∃ c, t.2.1 = some c := by
      cases q : t.2.1 with
      | none => exact absurd (ht.2.2.2.1.mp q) (by rw [e1]; decide)
      | some c => exact ⟨c, rfl⟩
    have hO := ht.2.2.2.2.2.1 cO eO
    first | refine z_aload_n dX10_actFault_0 rfl rfl ?_ | refine z_aload_nN dX10_actFault_0 rfl rfl ?_
    refine zmg_61 rfl dX10_actFault_1 rfl ?_
    refine z_iload_n dX10_actFault_4 rfl rfl ?_
    refine zm_iald dX10_actFault_5 rfl rfl (vp_in_nI (by omega) (by decide)) ?_
    rw [show S.1 17 (nI (40 * p + k)).toNatClampNeg = t.1 from by rw [nI_clamp (by omega)]; exact ht.1, e1]
    refine z_iconst (v := 3) dX10_actFault_6 rfl (by decide) ?_
    refine z_icmp_eq (tgt := 14) dX10_actFault_7 rfl (by decide) (fun c7 => absurd c7 (by decide)) (fun c7 => ?_)
    refine z_iconst (v := 1) dX10_actFault_10 rfl (by decide) ?_
    refine z_goto (tgt := 15) dX10_actFault_11 rfl (by decide) ?_
    refine z_istore_n dX10_actFault_15 rfl (Nat.le_of_ble_eq_true rfl) ?_
    refine z_iload_n dX10_actFault_16 rfl rfl ?_
    refine z_if_eq (tgt := 34) dX10_actFault_17 rfl (by decide) (fun c17 => absurd c17 (by decide)) (fun c17 => ?_)
    first | refine z_aload_n dX10_actFault_20 rfl rfl ?_ | refine z_aload_nN dX10_actFault_20 rfl rfl ?_
    refine zmg_303 rfl dX10_actFault_21 rfl ?_
    rw [hA.2.1]
    first | refine z_aload_n dX10_actFault_24 rfl rfl ?_ | refine z_aload_nN dX10_actFault_24 rfl rfl ?_
    refine z_iload_n dX10_actFault_25 rfl rfl ?_
    refine zcx_X10_152 rfl dX10_actFault_26 rfl mo_recv (r_sizeOf g h m S _ (rec_in hr) kz.2.2.1) rfl rfl ⟨(Nat.le_of_ble_eq_true rfl), (Nat.le_of_ble_eq_true rfl)⟩ ⟨(Nat.le_of_ble_eq_true rfl), (Nat.le_of_ble_eq_true rfl)⟩ (Nat.le_of_ble_eq_true rfl) ?_
    rw [kz.2.1]
    refine z_icmp_lt (tgt := 34) dX10_actFault_29 rfl (by decide) (fun c29 => ?_) (fun c29 => ?_)
    · skip
      refine z_iload_n dX10_actFault_34 rfl rfl ?_
      refine z_if_eq (tgt := 50) dX10_actFault_35 rfl (by decide) (fun c35 => absurd c35 (by decide)) (fun c35 => ?_)
      have hlt : n < (w.1.2.1 (ix r)).2.length := Nat.lt_of_not_le (fun z => absurd c29 (nI_nlt z (by omega)))
      obtain ⟨pa, pm, po, -⟩ := rep_cell hA.1.1 (i := nI n) (ix_lt hr) h2 (by rw [nI_toInt (by omega)]; omega) (by rw [nI_toInt (by omega)]; omega)
      rw [show ix (nI n) = n from nI_clamp (by omega)] at pm po
      have pm : mc S (20 * S.1 6 (ix r) + nI n).toNatClampNeg = (w.1.2.1 (ix r)).2.getD n z0 := pm
      first | refine z_aload_n dX10_actFault_38 rfl rfl ?_ | refine z_aload_nN dX10_actFault_38 rfl rfl ?_
      refine z_iload_n dX10_actFault_39 rfl rfl ?_
      first | refine z_aload_n dX10_actFault_40 rfl rfl ?_ | refine z_aload_nN dX10_actFault_40 rfl rfl ?_
      refine zmg_303 rfl dX10_actFault_41 rfl ?_
      rw [hA.2.1]
      refine zcx_X10_135 rfl dX10_actFault_44 rfl mo_recv (r_cellAt g h m S _ _ (rec_in hr)) rfl rfl ⟨(Nat.le_of_ble_eq_true rfl), (Nat.le_of_ble_eq_true rfl)⟩ ⟨(Nat.le_of_ble_eq_true rfl), (Nat.le_of_ble_eq_true rfl)⟩ (Nat.le_of_ble_eq_true rfl) ?_
      refine z_goto (tgt := 52) dX10_actFault_47 rfl (by decide) ?_
      refine z_istore dX10_actFault_52 rfl (Nat.le_of_ble_eq_true rfl) ?_
      first | refine z_aload_n dX10_actFault_54 rfl rfl ?_ | refine z_aload_nN dX10_actFault_54 rfl rfl ?_
      refine zmg_61 rfl dX10_actFault_55 rfl ?_
      refine z_iload_n dX10_actFault_58 rfl rfl ?_
      refine zm_iald dX10_actFault_59 rfl rfl (vp_in_nI (by omega) (by decide)) ?_
      rw [show S.1 17 (nI (40 * p + k)).toNatClampNeg = t.1 from by rw [nI_clamp (by omega)]; exact ht.1, e1]
      refine z_iconst (v := 1) dX10_actFault_60 rfl (by decide) ?_
      refine z_icmp_eq (tgt := 74) dX10_actFault_61 rfl (by decide) (fun c61 => absurd c61 (by decide)) (fun c61 => ?_)
      first | refine z_aload_n dX10_actFault_64 rfl rfl ?_ | refine z_aload_nN dX10_actFault_64 rfl rfl ?_
      refine zmg_61 rfl dX10_actFault_65 rfl ?_
      refine z_iload_n dX10_actFault_68 rfl rfl ?_
      refine zm_iald dX10_actFault_69 rfl rfl (vp_in_nI (by omega) (by decide)) ?_
      rw [show S.1 17 (nI (40 * p + k)).toNatClampNeg = t.1 from by rw [nI_clamp (by omega)]; exact ht.1, e1]
      refine z_iconst (v := 3) dX10_actFault_70 rfl (by decide) ?_
      refine z_icmp_ne (tgt := 78) dX10_actFault_71 rfl (by decide) (fun c71 => ?_) (fun c71 => absurd c71 (by decide))
      refine z_iconst (v := 0) dX10_actFault_78 rfl (by decide) ?_
      refine z_istore dX10_actFault_79 rfl (Nat.le_of_ble_eq_true rfl) ?_
      first | refine z_aload_n dX10_actFault_81 rfl rfl ?_ | refine z_aload_nN dX10_actFault_81 rfl rfl ?_
      refine zmg_61 rfl dX10_actFault_82 rfl ?_
      refine z_iload_n dX10_actFault_85 rfl rfl ?_
      refine zm_iald dX10_actFault_86 rfl rfl (vp_in_nI (by omega) (by decide)) ?_
      rw [show S.1 17 (nI (40 * p + k)).toNatClampNeg = t.1 from by rw [nI_clamp (by omega)]; exact ht.1, e1]
      refine z_iconst (v := 1) dX10_actFault_87 rfl (by decide) ?_
      refine z_icmp_eq (tgt := 101) dX10_actFault_88 rfl (by decide) (fun c88 => absurd c88 (by decide)) (fun c88 => ?_)
      first | refine z_aload_n dX10_actFault_91 rfl rfl ?_ | refine z_aload_nN dX10_actFault_91 rfl rfl ?_
      refine zmg_61 rfl dX10_actFault_92 rfl ?_
      refine z_iload_n dX10_actFault_95 rfl rfl ?_
      refine zm_iald dX10_actFault_96 rfl rfl (vp_in_nI (by omega) (by decide)) ?_
      rw [show S.1 17 (nI (40 * p + k)).toNatClampNeg = t.1 from by rw [nI_clamp (by omega)]; exact ht.1, e1]
      refine z_iconst (v := 2) dX10_actFault_97 rfl (by decide) ?_
      refine z_icmp_ne (tgt := 118) dX10_actFault_98 rfl (by decide) (fun c98 => absurd c98 (fun z => z rfl)) (fun c98 => ?_)
      first | refine z_aload_n dX10_actFault_101 rfl rfl ?_ | refine z_aload_nN dX10_actFault_101 rfl rfl ?_
      refine z_iload dX10_actFault_102 rfl rfl ?_
      refine z_sipush (v := 560) dX10_actFault_104 rfl (by decide) ?_
      refine z_iload_n dX10_actFault_107 rfl rfl ?_
      refine z_iadd dX10_actFault_108 rfl ?_
      rw [n560]
      refine zcx_X10_112 rfl dX10_actFault_109 rfl mo_recv (r_areAlike g h m S _ _ pa (vp_in_nI (by omega) (by decide)) (by rw [pm]; exact po) (by rw [nI_clamp (by omega), hO.1]; exact hO.2)) rfl rfl ⟨(Nat.le_of_ble_eq_true rfl), (Nat.le_of_ble_eq_true rfl)⟩ ⟨(Nat.le_of_ble_eq_true rfl), (Nat.le_of_ble_eq_true rfl)⟩ (Nat.le_of_ble_eq_true rfl) ?_
      rw [pm, nI_clamp (show 560 + (40 * p + k) < 2 ^ 31 by omega), hO.1]
      refine z_bif_ne (tgt := 118) dX10_actFault_112 rfl (by decide) (fun c112 => ?_) (fun c112 => ?_)
      · skip
        refine z_iload dX10_actFault_118 rfl rfl ?_
        refine z_if_eq (tgt := 146) dX10_actFault_120 rfl (by decide) (fun c120 => ?_) (fun c120 => absurd c120 (fun z => z rfl))
        first | refine z_aload_n dX10_actFault_146 rfl rfl ?_ | refine z_aload_nN dX10_actFault_146 rfl rfl ?_
        refine z_dup dX10_actFault_147 rfl rfl ?_
        refine zmg_303 rfl dX10_actFault_148 rfl ?_
        rw [hA.2.1]
        refine z_iload_n dX10_actFault_151 rfl rfl ?_
        refine zcx_X10_200 rfl dX10_actFault_152 rfl (r_flag g _ True) rfl rfl ⟨(Nat.le_of_ble_eq_true rfl), (Nat.le_of_ble_eq_true rfl)⟩ ⟨(Nat.le_of_ble_eq_true rfl), (Nat.le_of_ble_eq_true rfl)⟩ (Nat.le_of_ble_eq_true rfl) ?_
        refine z_iadd dX10_actFault_155 rfl ?_
        rw [if_pos trivial, show nI n + (1 : Int32) = nI (n + 1) from nI_1 n]
        refine zmp_303 rfl dX10_actFault_156 rfl ?_
        change zZ _ _ _ _ _ _ (mUp m (mNx S (nI (n + 1))) h) _ _
        first | refine z_aload_n dX10_actFault_159 rfl rfl ?_ | refine z_aload_nN dX10_actFault_159 rfl rfl ?_
        refine zmg_61 rfl dX10_actFault_160 rfl ?_
        refine z_iload_n dX10_actFault_163 rfl rfl ?_
        refine zm_iald dX10_actFault_164 rfl rfl (vp_in_nI (by omega) (by decide)) ?_
        rw [show (mNx S (nI (n + 1))).1 17 (nI (40 * p + k)).toNatClampNeg = t.1 from by rw [nI_clamp (by omega)]; exact ht.1, e1]
        refine z_iconst (v := 2) dX10_actFault_165 rfl (by decide) ?_
        refine z_icmp_eq (tgt := 206) dX10_actFault_166 rfl (by decide) (fun c166 => ?_) (fun c166 => absurd c166 (fun z => z rfl))
        refine z_iconst (v := 0) dX10_actFault_206 rfl (by decide) ?_
        exact z_iret dX10_actFault_207 rfl rfl (by have hfx : apF (w.1.2.1 (ix r)) t n = 0 := (by unfold apF; grind [oC]); have hN2 : apN t n = (n + 1) := (by unfold apN; grind); have hC2 : apC (w.1.2.1 (ix r)) t n = [] := (by unfold apC; grind [oC]); exact Or.inr ⟨hfx, rfl, _, rfl, (by rw [hN2, hC2]; exact (by rw [List.append_nil]; exact ap_0 hA))⟩) (Nat.le_of_ble_eq_true rfl) (Nat.le_of_ble_eq_true rfl)
      · skip
        refine z_bipush (v := 7) dX10_actFault_115 rfl (by decide) ?_
        exact z_iret dX10_actFault_117 rfl rfl (by have hfx : apF (w.1.2.1 (ix r)) t n = 7 := (by unfold apF; grind [oC]); exact Or.inl ⟨by rw [hfx]; decide, by rw [hfx], rfl⟩) (Nat.le_of_ble_eq_true rfl) (Nat.le_of_ble_eq_true rfl)
    · skip
      refine z_iconst (v := 3) dX10_actFault_32 rfl (by decide) ?_
      exact z_iret dX10_actFault_33 rfl rfl (by have hfx : apF (w.1.2.1 (ix r)) t n = 3 := (by have hle : (w.1.2.1 (ix r)).2.length ≤ n := Nat.le_of_not_lt (fun z => c29 (nI_lt z (by omega))); unfold apF; grind); exact Or.inl ⟨by rw [hfx]; decide, by rw [hfx], rfl⟩) (Nat.le_of_ble_eq_true rfl) (Nat.le_of_ble_eq_true rfl)
  · obtain ⟨cN, eN⟩ : ∃ c, t.2.2 = some c := by
      cases q : t.2.2 with
      | none => exact absurd (ht.2.2.2.2.1.mp q) (by rw [e1]; decide)
      | some c => exact ⟨c, rfl⟩
    have hN := ht.2.2.2.2.2.2 cN eN
    first | refine z_aload_n dX10_actFault_0 rfl rfl ?_ | refine z_aload_nN dX10_actFault_0 rfl rfl ?_
    refine zmg_61 rfl dX10_actFault_1 rfl ?_
    refine z_iload_n dX10_actFault_4 rfl rfl ?_
    refine zm_iald dX10_actFault_5 rfl rfl (vp_in_nI (by omega) (by decide)) ?_
    rw [show S.1 17 (nI (40 * p + k)).toNatClampNeg = t.1 from by rw [nI_clamp (by omega)]; exact ht.1, e1]
    refine z_iconst (v := 3) dX10_actFault_6 rfl (by decide) ?_
    refine z_icmp_eq (tgt := 14) dX10_actFault_7 rfl (by decide) (fun c7 => ?_) (fun c7 => absurd c7 (fun z => z rfl))
    refine z_iconst (v := 0) dX10_actFault_14 rfl (by decide) ?_
    refine z_istore_n dX10_actFault_15 rfl (Nat.le_of_ble_eq_true rfl) ?_
    refine z_iload_n dX10_actFault_16 rfl rfl ?_
    refine z_if_eq (tgt := 34) dX10_actFault_17 rfl (by decide) (fun c17 => ?_) (fun c17 => absurd c17 (fun z => z rfl))
    refine z_iload_n dX10_actFault_34 rfl rfl ?_
    refine z_if_eq (tgt := 50) dX10_actFault_35 rfl (by decide) (fun c35 => ?_) (fun c35 => absurd c35 (fun z => z rfl))
    refine z_bipush (v := -4) dX10_actFault_50 rfl (by decide) ?_
    refine z_istore dX10_actFault_52 rfl (Nat.le_of_ble_eq_true rfl) ?_
    first | refine z_aload_n dX10_actFault_54 rfl rfl ?_ | refine z_aload_nN dX10_actFault_54 rfl rfl ?_
    refine zmg_61 rfl dX10_actFault_55 rfl ?_
    refine z_iload_n dX10_actFault_58 rfl rfl ?_
    refine zm_iald dX10_actFault_59 rfl rfl (vp_in_nI (by omega) (by decide)) ?_
    rw [show S.1 17 (nI (40 * p + k)).toNatClampNeg = t.1 from by rw [nI_clamp (by omega)]; exact ht.1, e1]
    refine z_iconst (v := 1) dX10_actFault_60 rfl (by decide) ?_
    refine z_icmp_eq (tgt := 74) dX10_actFault_61 rfl (by decide) (fun c61 => absurd c61 (by decide)) (fun c61 => ?_)
    first | refine z_aload_n dX10_actFault_64 rfl rfl ?_ | refine z_aload_nN dX10_actFault_64 rfl rfl ?_
    refine zmg_61 rfl dX10_actFault_65 rfl ?_
    refine z_iload_n dX10_actFault_68 rfl rfl ?_
    refine zm_iald dX10_actFault_69 rfl rfl (vp_in_nI (by omega) (by decide)) ?_
    rw [show S.1 17 (nI (40 * p + k)).toNatClampNeg = t.1 from by rw [nI_clamp (by omega)]; exact ht.1, e1]
    refine z_iconst (v := 3) dX10_actFault_70 rfl (by decide) ?_
    refine z_icmp_ne (tgt := 78) dX10_actFault_71 rfl (by decide) (fun c71 => absurd c71 (fun z => z rfl)) (fun c71 => ?_)
    refine z_iconst (v := 1) dX10_actFault_74 rfl (by decide) ?_
    refine z_goto (tgt := 79) dX10_actFault_75 rfl (by decide) ?_
    refine z_istore dX10_actFault_79 rfl (Nat.le_of_ble_eq_true rfl) ?_
    first | refine z_aload_n dX10_actFault_81 rfl rfl ?_ | refine z_aload_nN dX10_actFault_81 rfl rfl ?_
    refine zmg_61 rfl dX10_actFault_82 rfl ?_
    refine z_iload_n dX10_actFault_85 rfl rfl ?_
    refine zm_iald dX10_actFault_86 rfl rfl (vp_in_nI (by omega) (by decide)) ?_
    rw [show S.1 17 (nI (40 * p + k)).toNatClampNeg = t.1 from by rw [nI_clamp (by omega)]; exact ht.1, e1]
    refine z_iconst (v := 1) dX10_actFault_87 rfl (by decide) ?_
    refine z_icmp_eq (tgt := 101) dX10_actFault_88 rfl (by decide) (fun c88 => absurd c88 (by decide)) (fun c88 => ?_)
    first | refine z_aload_n dX10_actFault_91 rfl rfl ?_ | refine z_aload_nN dX10_actFault_91 rfl rfl ?_
    refine zmg_61 rfl dX10_actFault_92 rfl ?_
    refine z_iload_n dX10_actFault_95 rfl rfl ?_
    refine zm_iald dX10_actFault_96 rfl rfl (vp_in_nI (by omega) (by decide)) ?_
    rw [show S.1 17 (nI (40 * p + k)).toNatClampNeg = t.1 from by rw [nI_clamp (by omega)]; exact ht.1, e1]
    refine z_iconst (v := 2) dX10_actFault_97 rfl (by decide) ?_
    refine z_icmp_ne (tgt := 118) dX10_actFault_98 rfl (by decide) (fun c98 => ?_) (fun c98 => absurd c98 (by decide))
    refine z_iload dX10_actFault_118 rfl rfl ?_
    refine z_if_eq (tgt := 146) dX10_actFault_120 rfl (by decide) (fun c120 => absurd c120 (by decide)) (fun c120 => ?_)
    first | refine z_aload_n dX10_actFault_123 rfl rfl ?_ | refine z_aload_nN dX10_actFault_123 rfl rfl ?_
    refine zmg_7 rfl dX10_actFault_124 rfl ?_
    refine z_sipush (v := 720) dX10_actFault_127 rfl (by decide) ?_
    refine z_iload_n dX10_actFault_130 rfl rfl ?_
    refine z_iadd dX10_actFault_131 rfl ?_
    rw [n720]
    refine zm_iald dX10_actFault_132 rfl rfl (vp_in_nI (by omega) (by decide)) ?_
    rw [show S.1 1 (nI (720 + (40 * p + k))).toNatClampNeg = cN.1 from by rw [nI_clamp (by omega)]; exact congrArg (fun c : sC => c.1) hN.1]
    first | refine z_aload_n dX10_actFault_133 rfl rfl ?_ | refine z_aload_nN dX10_actFault_133 rfl rfl ?_
    refine z_iload_n dX10_actFault_134 rfl rfl ?_
    refine zcx_X10_146 rfl dX10_actFault_135 rfl mo_recv (r_kindOf g h m S _ (rec_in hr) kz.2.2.1) rfl rfl ⟨(Nat.le_of_ble_eq_true rfl), (Nat.le_of_ble_eq_true rfl)⟩ ⟨(Nat.le_of_ble_eq_true rfl), (Nat.le_of_ble_eq_true rfl)⟩ (Nat.le_of_ble_eq_true rfl) ?_
    rw [kz.1]
    refine zcx_X10_80 rfl dX10_actFault_138 rfl (r_goesInto g _ _ _) rfl rfl ⟨(Nat.le_of_ble_eq_true rfl), (Nat.le_of_ble_eq_true rfl)⟩ ⟨(Nat.le_of_ble_eq_true rfl), (Nat.le_of_ble_eq_true rfl)⟩ (Nat.le_of_ble_eq_true rfl) ?_
    refine z_bif_ne (tgt := 146) dX10_actFault_141 rfl (by decide) (fun c141 => ?_) (fun c141 => ?_)
    · skip
      first | refine z_aload_n dX10_actFault_146 rfl rfl ?_ | refine z_aload_nN dX10_actFault_146 rfl rfl ?_
      refine z_dup dX10_actFault_147 rfl rfl ?_
      refine zmg_303 rfl dX10_actFault_148 rfl ?_
      rw [hA.2.1]
      refine z_iload_n dX10_actFault_151 rfl rfl ?_
      refine zcx_X10_200 rfl dX10_actFault_152 rfl (r_flag g _ False) rfl rfl ⟨(Nat.le_of_ble_eq_true rfl), (Nat.le_of_ble_eq_true rfl)⟩ ⟨(Nat.le_of_ble_eq_true rfl), (Nat.le_of_ble_eq_true rfl)⟩ (Nat.le_of_ble_eq_true rfl) ?_
      refine z_iadd dX10_actFault_155 rfl ?_
      rw [if_neg not_false, Int32.add_zero]
      refine zmp_303 rfl dX10_actFault_156 rfl ?_
      change zZ _ _ _ _ _ _ (mUp m (mNx S (nI n)) h) _ _
      first | refine z_aload_n dX10_actFault_159 rfl rfl ?_ | refine z_aload_nN dX10_actFault_159 rfl rfl ?_
      refine zmg_61 rfl dX10_actFault_160 rfl ?_
      refine z_iload_n dX10_actFault_163 rfl rfl ?_
      refine zm_iald dX10_actFault_164 rfl rfl (vp_in_nI (by omega) (by decide)) ?_
      rw [show (mNx S (nI n)).1 17 (nI (40 * p + k)).toNatClampNeg = t.1 from by rw [nI_clamp (by omega)]; exact ht.1, e1]
      refine z_iconst (v := 2) dX10_actFault_165 rfl (by decide) ?_
      refine z_icmp_eq (tgt := 206) dX10_actFault_166 rfl (by decide) (fun c166 => absurd c166 (by decide)) (fun c166 => ?_)
      first | refine z_aload_n dX10_actFault_169 rfl rfl ?_ | refine z_aload_nN dX10_actFault_169 rfl rfl ?_
      refine z_iload dX10_actFault_170 rfl rfl ?_
      refine z_if_eq (tgt := 183) dX10_actFault_172 rfl (by decide) (fun c172 => absurd c172 (by decide)) (fun c172 => ?_)
      refine z_sipush (v := 720) dX10_actFault_175 rfl (by decide) ?_
      refine z_iload_n dX10_actFault_178 rfl rfl ?_
      refine z_iadd dX10_actFault_179 rfl ?_
      rw [n720]
      refine z_goto (tgt := 185) dX10_actFault_180 rfl (by decide) ?_
      refine z_sipush (v := 520) dX10_actFault_185 rfl (by decide) ?_
      first | refine z_aload_n dX10_actFault_188 rfl rfl ?_ | refine z_aload_nN dX10_actFault_188 rfl rfl ?_
      refine zmg_306 rfl dX10_actFault_189 rfl ?_
      rw [show (mNx S (nI n)).2.2.2.1 23 = nI M.length from by rw [← hA.2.2.1]; simp [mNx, va_up]]
      refine z_iadd dX10_actFault_192 rfl ?_
      rw [n520]
      refine zcv_X10_229 rfl dX10_actFault_193 rfl mo_recv (r_copiesCell g h m _ _ _ (vp_in_nI (by omega) (by decide)) (vp_in_nI (show 520 + M.length < 880 by omega) (by decide))) rfl rfl ⟨(Nat.le_of_ble_eq_true rfl), (Nat.le_of_ble_eq_true rfl)⟩ ⟨(Nat.le_of_ble_eq_true rfl), (Nat.le_of_ble_eq_true rfl)⟩ (Nat.le_of_ble_eq_true rfl) ?_
      rw [nI_clamp (show 520 + M.length < 2 ^ 31 by omega), nI_clamp (show 720 + (40 * p + k) < 2 ^ 31 by omega), show mc (mNx S (nI n)) (720 + (40 * p + k)) = cN from hN.1]
      first | refine z_aload_n dX10_actFault_196 rfl rfl ?_ | refine z_aload_nN dX10_actFault_196 rfl rfl ?_
      refine z_dup dX10_actFault_197 rfl rfl ?_
      refine zmg_306 rfl dX10_actFault_198 rfl ?_
      rw [show (mLay (mNx S (nI n)) (520 + M.length) cN).2.2.2.1 23 = nI M.length from by rw [mLay_s, ← hA.2.2.1]; simp [mNx, va_up]]
      refine z_iconst (v := 1) dX10_actFault_201 rfl (by decide) ?_
      refine z_iadd dX10_actFault_202 rfl ?_
      rw [show nI M.length + (1 : Int32) = nI (M.length + 1) from nI_1 _]
      refine zmp_306 rfl dX10_actFault_203 rfl ?_
      change zZ _ _ _ _ _ _ (mUp m (mLd (mLay (mNx S (nI n)) (520 + M.length) cN) (nI (M.length + 1))) h) _ _
      refine z_iconst (v := 0) dX10_actFault_206 rfl (by decide) ?_
      exact z_iret dX10_actFault_207 rfl rfl (by have hfx : apF (w.1.2.1 (ix r)) t n = 0 := (by unfold apF; grind [oC]); have hN2 : apN t n = n := (by unfold apN; grind); have hC2 : apC (w.1.2.1 (ix r)) t n = [cN] := (by unfold apC; grind [oC]); exact Or.inr ⟨hfx, rfl, _, rfl, (by rw [hN2, hC2]; exact ap_1 hA hM _)⟩) (Nat.le_of_ble_eq_true rfl) (Nat.le_of_ble_eq_true rfl)
    · skip
      refine z_iconst (v := 5) dX10_actFault_144 rfl (by decide) ?_
      exact z_iret dX10_actFault_145 rfl rfl (by have hfx : apF (w.1.2.1 (ix r)) t n = 5 := (by unfold apF; grind [oC]); exact Or.inl ⟨by rw [hfx]; decide, by rw [hfx], rfl⟩) (Nat.le_of_ble_eq_true rfl) (Nat.le_of_ble_eq_true rfl)

