def tC (q : Nat → Int32) (A B : List sC) (T : alT) (P Pv : Nat → Nat → Prop) : Prop := (∀ i, i < A.length → T.1 i = sAl A i) ∧ (∀ j, j < B.length → T.2.1 j = sAl B j) ∧ (∀ i j, i ≤ A.length → j ≤ B.length → P i j → T.2.2.2 i j = nI (dC q A B (A.length - i) (B.length - j))) ∧ ∀ i j, i < A.length → j < B.length → Pv i j → T.2.2.1 i j = sLike (A.getD i z0) (B.getD j z0) (q 0)
theorem tC_re {q : Nat → Int32} {A B : List sC} {T : alT} {P P' Pv : Nat → Nat → Prop} (h : tC q A B T P Pv) {i j : Nat} {v : Int32} (hv : v = nI (dC q A B (A.length - i) (B.length - j))) (hP : ∀ x y, x ≤ A.length → y ≤ B.length → P' x y → (x = i ∧ y = j) ∨ P x y) : tC q A B (T.1, T.2.1, T.2.2.1, va_up T.2.2.2 i (upd (T.2.2.2 i) j v)) P' Pv := by
  refine ⟨h.1, h.2.1, fun x y hx hy hp => ?_, h.2.2.2⟩
  show va_up T.2.2.2 i (upd (T.2.2.2 i) j v) x y = _
  by_cases e : x = i
  · subst e
    rw [vu_s]
    simp only [upd]
    by_cases e2 : y = j
    · rw [if_pos e2, hv, e2]
    · rw [if_neg e2]
      rcases hP x y hx hy hp with z | z
      · exact absurd z.2 e2
      · exact h.2.2.1 x y hx hy z
  · rw [vu_n e]
    rcases hP x y hx hy hp with z | z
    · exact absurd z.1 e
    · exact h.2.2.1 x y hx hy z
theorem tC_pv {q : Nat → Int32} {A B : List sC} {T : alT} {P Pv Pv' : Nat → Nat → Prop} (h : tC q A B T P Pv) {i j : Nat} {v : Int32} (hv : v = sLike (A.getD i z0) (B.getD j z0) (q 0)) (hP : ∀ x y, x < A.length → y < B.length → Pv' x y → (x = i ∧ y = j) ∨ Pv x y) : tC q A B (T.1, T.2.1, va_up T.2.2.1 i (upd (T.2.2.1 i) j v), T.2.2.2) P Pv' := by
  refine ⟨h.1, h.2.1, h.2.2.1, fun x y hx hy hp => ?_⟩
  show va_up T.2.2.1 i (upd (T.2.2.1 i) j v) x y = _
  by_cases e : x = i
  · subst e
    rw [vu_s]
    simp only [upd]
    by_cases e2 : y = j
    · rw [if_pos e2, hv, e2]
    · rw [if_neg e2]
      rcases hP x y hx hy hp with z | z
      · exact absurd z.2 e2
      · exact h.2.2.2 x y hx hy z
  · rw [vu_n e]
    rcases hP x y hx hy hp with z | z
    · exact absurd z.1 e
    · exact h.2.2.2 x y hx hy z
theorem tC_w {q : Nat → Int32} {A B : List sC} {T : alT} {P P' Pv Pv' : Nat → Nat → Prop} (h : tC q A B T P Pv) (hP : ∀ x y, x ≤ A.length → y ≤ B.length → P' x y → P x y) (hPv : ∀ x y, x < A.length → y < B.length → Pv' x y → Pv x y) : tC q A B T P' Pv' := ⟨h.1, h.2.1, fun x y a b c => h.2.2.1 x y a b (hP x y a b c), fun x y a b c => h.2.2.2 x y a b (hPv x y a b c)⟩
theorem cst_q {q q' : Nat → Int32} (h : ∀ i, i < 4 → q' i = q i) (v : Int32) : cstV q' v = cstV q v := by unfold cstV; rw [h 1 (by decide), h 2 (by decide), h 3 (by decide)]
theorem cL {q q' : Nat → Int32} {A B : List sC} {T : alT} {P Pv : Nat → Nat → Prop} (hq : rateOk q) (hqq : ∀ i, i < 4 → q' i = q i) (h : tC q A B T P Pv) {i j : Nat} (hi : i < A.length) (hj : j ≤ B.length) (hP : P (i + 1) j) : cstV q' (T.1 i) + T.2.2.2 (i + 1) j = nI (sAlone q A i + dC q A B (A.length - (i + 1)) (B.length - j)) := by
  rw [cst_q hqq, h.1 i hi, cstV_al hq, h.2.2.1 (i + 1) j (by omega) hj hP, nI_add]
theorem cR {q q' : Nat → Int32} {A B : List sC} {T : alT} {P Pv : Nat → Nat → Prop} (hq : rateOk q) (hqq : ∀ i, i < 4 → q' i = q i) (h : tC q A B T P Pv) {i j : Nat} (hi : i ≤ A.length) (hj : j < B.length) (hP : P i (j + 1)) : cstV q' (T.2.1 j) + T.2.2.2 i (j + 1) = nI (sAlone q B j + dC q A B (A.length - i) (B.length - (j + 1))) := by
  rw [cst_q hqq, h.2.1 j hj, cstV_al hq, h.2.2.1 i (j + 1) hi (by omega) hP, nI_add]
theorem cP {q q' : Nat → Int32} {A B : List sC} {T : alT} {P Pv : Nat → Nat → Prop} (hq : rateOk q) (hqq : ∀ i, i < 4 → q' i = q i) (h : tC q A B T P Pv) {i j : Nat} (hi : i < A.length) (hj : j < B.length) (hP : P (i + 1) (j + 1)) (hv : Pv i j) : cstV q' (T.2.2.1 i j) + T.2.2.2 (i + 1) (j + 1) = nI (sBes q (A.getD i z0) (B.getD j z0) + dC q A B (A.length - (i + 1)) (B.length - (j + 1))) := by
  rw [cst_q hqq, h.2.2.2 i j hi hj hv, cstV_b hq, h.2.2.1 (i + 1) (j + 1) (by omega) (by omega) hP, nI_add]
theorem cB {q : Nat → Int32} (hq : rateOk q) (A B : List sC) {n m x : Nat} (hx : x ≤ 9) (hn : n ≤ 20) (hm : m ≤ 20) : x + dC q A B n m < 2 ^ 31 := by
  have := dC_le hq A B n m
  omega
theorem nI_p1 (i : Nat) : nI (i + 1) - 1 = nI i := nI_sub (a := i + 1) (b := 1) (by omega)

abbrev YX0_leastCost : zY := (yX0_leastCost.cls, cX0_leastCost, 9, (some .int), rmX0_leastCost, yX0_leastCost.name, fun _ _ => True)
set_option maxHeartbeats 800000 in
set_option maxRecDepth 100000 in
theorem m_least_4 (g : zG) (h : zH) (a : Nat) (T0 : alT) (hA0 : alAt h a T0) (b1 b2 : Nat) (A B : sA) (cA cb : Nat → sC) (oA : aOk A) (hcA : cAt h b1 A.1 A.2.length cA) (hlA : ∀ i, i < A.2.length → cA i = A.2.getD i z0) (oB : aOk B) (hcB : cAt h b2 B.1 B.2.length cb) (hlB : ∀ i, i < B.2.length → cb i = B.2.getD i z0) (d1 : b1 + 4 ≤ a ∨ a + 46 ≤ b1) (d2 : b2 + 4 ≤ a ∨ a + 46 ≤ b2) (ra : Nat) (q q' : Nat → Int32) (hr : h.2 ra = some (.inl (0, 4, .inl q'))) (dr : ra < a ∨ a + 46 ≤ ra) (hqq : ∀ i, i < 4 → q' i = q i) (hq : rateOk q) (i : Nat) (hi : i < A.2.length) (kk : ∀ T, tC q A.2 B.2 T (fun x y => y = B.2.length ∨ x = A.2.length ∨ i + 1 ≤ x ∨ (x = i ∧ 0 ≤ y)) (fun x y => i + 1 ≤ x ∨ (x = i ∧ 0 ≤ y)) → zZ g YX0_leastCost (zE g (fun v h1 => v = some (.int (nI (dC q A.2 B.2 A.2.length B.2.length))) ∧ ∃ T, h1 = alUp a T h ∧ tC q A.2 B.2 T (fun _ _ => True) (fun _ _ => True)) 0 0) 208 [(6, .int (nI i)), (0, .ref a), (1, .ref b1), (2, .ref b2), (3, .ref ra), (4, .int (nI A.2.length)), (5, .int (nI B.2.length))] [] (alUp a T h) 0 0) : ∀ (j : Nat) (T : alT), j ≤ B.2.length → tC q A.2 B.2 T (fun x y => y = B.2.length ∨ x = A.2.length ∨ i + 1 ≤ x ∨ (x = i ∧ j ≤ y)) (fun x y => i + 1 ≤ x ∨ (x = i ∧ j ≤ y)) → zZ g YX0_leastCost (zE g (fun v h1 => v = some (.int (nI (dC q A.2 B.2 A.2.length B.2.length))) ∧ ∃ T, h1 = alUp a T h ∧ tC q A.2 B.2 T (fun _ _ => True) (fun _ _ => True)) 0 0) 128 [(7, .int (nI j - 1)), (6, .int (nI i)), (0, .ref a), (1, .ref b1), (2, .ref b2), (3, .ref ra), (4, .int (nI A.2.length)), (5, .int (nI B.2.length))] [] (alUp a T h) 0 0 := by
  intro j
  induction j with
  | zero =>
    intro T hj hT
    refine z_iload dX0_leastCost_128 rfl rfl ?_
    refine z_if_lt (tgt := 208) dX0_leastCost_130 rfl (by decide) (fun c130 => ?_) (fun c130 => absurd c130 (fun z => z (by decide)))
    refine z_lv [(6, .int (nI i)), (0, .ref a), (1, .ref b1), (2, .ref b2), (3, .ref ra), (4, .int (nI A.2.length)), (5, .int (nI B.2.length))] ⟨rfl, rfl, rfl, rfl, rfl, rfl, rfl, trivial⟩ ?_
    exact kk T hT
  | succ j jh =>
    intro T hj hT
    have lA : A.2.length ≤ 20 := oA.2.2.1
    have lB : B.2.length ≤ 20 := oB.2.2.1
    rw [nI_p1]
    have hLb : sAlone q A.2 i + dC q A.2 B.2 (A.2.length - (i + 1)) (B.2.length - j) < 2 ^ 31 := cB hq _ _ (sAlone_le hq _ _) (by omega) (by omega)
    have hRb : sAlone q B.2 j + dC q A.2 B.2 (A.2.length - i) (B.2.length - (j + 1)) < 2 ^ 31 := cB hq _ _ (sAlone_le hq _ _) (by omega) (by omega)
    have hPb : sBes q (A.2.getD i z0) (B.2.getD j z0) + dC q A.2 B.2 (A.2.length - (i + 1)) (B.2.length - (j + 1)) < 2 ^ 31 := cB hq _ _ (sBes_le hq _ _) (by omega) (by omega)
    obtain ⟨a1, a2, a3, ⟨fo, a4, a4b⟩, a5, ⟨fp, a6, a6b⟩, a7⟩ := alUp_at (T := T) hA0
    have fr := (alUp_out (T := T) dr).trans hr
    refine z_iload dX0_leastCost_128 rfl rfl ?_
    refine z_if_lt (tgt := 208) dX0_leastCost_130 rfl (by decide) (fun c130 => absurd c130 (nI_ge0 (by omega))) (fun c130 => ?_)
    first | refine z_aload_n dX0_leastCost_133 rfl rfl ?_ | refine z_aload_nN dX0_leastCost_133 rfl rfl ?_
    refine zg_X0_20 rfl dX0_leastCost_134 rfl a1 rfl ?_
    refine z_iload dX0_leastCost_137 rfl rfl ?_
    refine z_aalds dX0_leastCost_139 rfl a4 rfl rfl (vp_in_nI (by omega) (by omega)) (by rw [nI_clamp (show i < 2 ^ 31 by omega)]; exact a4b i (by omega)) ?_
    refine z_iload dX0_leastCost_140 rfl rfl ?_
    first | refine z_aload_n dX0_leastCost_142 rfl rfl ?_ | refine z_aload_nN dX0_leastCost_142 rfl rfl ?_
    refine z_iload dX0_leastCost_143 rfl rfl ?_
    first | refine z_aload_n dX0_leastCost_145 rfl rfl ?_ | refine z_aload_nN dX0_leastCost_145 rfl rfl ?_
    refine z_iload dX0_leastCost_146 rfl rfl ?_
    first | refine z_aload_n dX0_leastCost_148 rfl rfl ?_ | refine z_aload_nN dX0_leastCost_148 rfl rfl ?_
    refine z_iconst (v := 0) dX0_leastCost_149 rfl (by decide) ?_
    refine z_iald dX0_leastCost_150 rfl fr (in_0 4 (by decide)) ?_
    rw [show q' (0 : Int32).toNatClampNeg = q' 0 from rfl]
    refine zcx_X0_47 rfl dX0_leastCost_151 rfl (m_verdict g (alUp a T h) b1 _ _ cA (cAt_fr hcA (fun q q1 q2 => alUp_out (by omega))) (by omega) i (by omega) b2 _ _ cb (cAt_fr hcB (fun q q1 q2 => alUp_out (by omega))) (by omega) j (by omega) (cl_ok (h := h) (a := b1) oA hlA (by omega)).1 (cl_ok (h := h) (a := b2) oB hlB (by omega)).1 (q' 0)) rfl rfl ⟨(Nat.le_of_ble_eq_true rfl), (Nat.le_of_ble_eq_true rfl)⟩ ⟨(Nat.le_of_ble_eq_true rfl), (Nat.le_of_ble_eq_true rfl)⟩ (Nat.le_of_ble_eq_true rfl) ?_
    refine z_iast dX0_leastCost_154 rfl (a5 i (by omega)) (vp_in_nI (by omega) (by omega)) ?_
    rw [nI_clamp (show j < 2 ^ 31 by omega)]
    refine zZ_h (alUp a (T.1, T.2.1, va_up T.2.2.1 i (upd (T.2.2.1 i) j (sLike (cA i) (cb j) (q' 0))), T.2.2.2) h) (alUp_pv (by omega) _) ?_
    have hT1 : tC q A.2 B.2 (T.1, T.2.1, va_up T.2.2.1 i (upd (T.2.2.1 i) j (sLike (cA i) (cb j) (q' 0))), T.2.2.2) (fun x y => y = B.2.length ∨ x = A.2.length ∨ i + 1 ≤ x ∨ (x = i ∧ (j + 1) ≤ y)) (fun x y => i + 1 ≤ x ∨ (x = i ∧ j ≤ y)) := tC_pv hT (by rw [hlA i (by omega), hlB j (by omega), hqq 0 (by decide)]) (fun x y _ _ z => by rcases z with z | ⟨z, z2⟩; exact Or.inr (Or.inl z); by_cases e : y = j; exact Or.inl ⟨z, e⟩; exact Or.inr (Or.inr ⟨z, by omega⟩))
    obtain ⟨a1, a2, a3, ⟨fo, a4, a4b⟩, a5, ⟨fp, a6, a6b⟩, a7⟩ := alUp_at (T := (T.1, T.2.1, va_up T.2.2.1 i (upd (T.2.2.1 i) j (sLike (cA i) (cb j) (q' 0))), T.2.2.2)) hA0
    have fr := (alUp_out (T := (T.1, T.2.1, va_up T.2.2.1 i (upd (T.2.2.1 i) j (sLike (cA i) (cb j) (q' 0))), T.2.2.2)) dr).trans hr
    first | refine z_aload_n dX0_leastCost_155 rfl rfl ?_ | refine z_aload_nN dX0_leastCost_155 rfl rfl ?_
    refine z_iload dX0_leastCost_156 rfl rfl ?_
    refine z_iload dX0_leastCost_158 rfl rfl ?_
    first | refine z_aload_n dX0_leastCost_160 rfl rfl ?_ | refine z_aload_nN dX0_leastCost_160 rfl rfl ?_
    refine zcx_X0_40 rfl dX0_leastCost_161 rfl a1 (m_leftCost g (alUp a (T.1, T.2.1, va_up T.2.2.1 i (upd (T.2.2.1 i) j (sLike (cA i) (cb j) (q' 0))), T.2.2.2) h) a _ (alUp_at (T := (T.1, T.2.1, va_up T.2.2.1 i (upd (T.2.2.1 i) j (sLike (cA i) (cb j) (q' 0))), T.2.2.2)) hA0) ra q' fr i j (by omega) (by omega)) rfl rfl ⟨(Nat.le_of_ble_eq_true rfl), (Nat.le_of_ble_eq_true rfl)⟩ ⟨(Nat.le_of_ble_eq_true rfl), (Nat.le_of_ble_eq_true rfl)⟩ (Nat.le_of_ble_eq_true rfl) ?_
    rw [cL hq hqq hT1 (by omega) (by omega) (Or.inr (Or.inr (Or.inl (by omega))))]
    first | refine z_aload_n dX0_leastCost_164 rfl rfl ?_ | refine z_aload_nN dX0_leastCost_164 rfl rfl ?_
    refine z_iload dX0_leastCost_165 rfl rfl ?_
    refine z_iload dX0_leastCost_167 rfl rfl ?_
    first | refine z_aload_n dX0_leastCost_169 rfl rfl ?_ | refine z_aload_nN dX0_leastCost_169 rfl rfl ?_
    refine zcx_X0_44 rfl dX0_leastCost_170 rfl a1 (m_rightCost g (alUp a (T.1, T.2.1, va_up T.2.2.1 i (upd (T.2.2.1 i) j (sLike (cA i) (cb j) (q' 0))), T.2.2.2) h) a _ (alUp_at (T := (T.1, T.2.1, va_up T.2.2.1 i (upd (T.2.2.1 i) j (sLike (cA i) (cb j) (q' 0))), T.2.2.2)) hA0) ra q' fr i j (by omega) (by omega)) rfl rfl ⟨(Nat.le_of_ble_eq_true rfl), (Nat.le_of_ble_eq_true rfl)⟩ ⟨(Nat.le_of_ble_eq_true rfl), (Nat.le_of_ble_eq_true rfl)⟩ (Nat.le_of_ble_eq_true rfl) ?_
    rw [cR hq hqq hT1 (by omega) (by omega) (by by_cases z : j + 1 = B.2.length; exact Or.inl z; exact Or.inr (Or.inr (Or.inr ⟨rfl, by omega⟩)))]
    refine zc_X0_53 rfl dX0_leastCost_173 rfl (Nat.le_of_ble_eq_true rfl) (Nat.le_of_ble_eq_true rfl) (Nat.le_of_ble_eq_true rfl) (Nat.le_of_ble_eq_true rfl) ?_
    rw [least_n hRb hLb, Nat.min_comm (sAlone q B.2 j + dC q A.2 B.2 (A.2.length - i) (B.2.length - (j + 1)))]
    refine z_istore dX0_leastCost_176 rfl (Nat.le_of_ble_eq_true rfl) ?_
    first | refine z_aload_n dX0_leastCost_178 rfl rfl ?_ | refine z_aload_nN dX0_leastCost_178 rfl rfl ?_
    refine zg_X0_23 rfl dX0_leastCost_179 rfl a1 rfl ?_
    refine z_iload dX0_leastCost_182 rfl rfl ?_
    refine z_aalds dX0_leastCost_184 rfl a6 rfl rfl (vp_in_nI (by omega) (by omega)) (by rw [nI_clamp (show i < 2 ^ 31 by omega)]; exact a6b i (by omega)) ?_
    refine z_iload dX0_leastCost_185 rfl rfl ?_
    first | refine z_aload_n dX0_leastCost_187 rfl rfl ?_ | refine z_aload_nN dX0_leastCost_187 rfl rfl ?_
    refine z_iload dX0_leastCost_188 rfl rfl ?_
    refine z_iload dX0_leastCost_190 rfl rfl ?_
    first | refine z_aload_n dX0_leastCost_192 rfl rfl ?_ | refine z_aload_nN dX0_leastCost_192 rfl rfl ?_
    refine zcx_X0_59 rfl dX0_leastCost_193 rfl a1 (m_pairCost g (alUp a (T.1, T.2.1, va_up T.2.2.1 i (upd (T.2.2.1 i) j (sLike (cA i) (cb j) (q' 0))), T.2.2.2) h) a _ (alUp_at (T := (T.1, T.2.1, va_up T.2.2.1 i (upd (T.2.2.1 i) j (sLike (cA i) (cb j) (q' 0))), T.2.2.2)) hA0) ra q' fr i j (by omega) (by omega)) rfl rfl ⟨(Nat.le_of_ble_eq_true rfl), (Nat.le_of_ble_eq_true rfl)⟩ ⟨(Nat.le_of_ble_eq_true rfl), (Nat.le_of_ble_eq_true rfl)⟩ (Nat.le_of_ble_eq_true rfl) ?_
    rw [cP hq hqq hT1 (by omega) (by omega) (by by_cases z : i + 1 = A.2.length; exact Or.inr (Or.inl z); exact Or.inr (Or.inr (Or.inl (by omega)))) (Or.inr ⟨rfl, by omega⟩)]
    refine z_iload dX0_leastCost_196 rfl rfl ?_
    refine zc_X0_53 rfl dX0_leastCost_198 rfl (Nat.le_of_ble_eq_true rfl) (Nat.le_of_ble_eq_true rfl) (Nat.le_of_ble_eq_true rfl) (Nat.le_of_ble_eq_true rfl) ?_
    rw [least_n (Nat.lt_of_le_of_lt (Nat.min_le_left (sAlone q A.2 i + dC q A.2 B.2 (A.2.length - (i + 1)) (B.2.length - j)) (sAlone q B.2 j + dC q A.2 B.2 (A.2.length - i) (B.2.length - (j + 1)))) hLb) hPb, Nat.min_comm _ (sBes q (A.2.getD i z0) (B.2.getD j z0) + dC q A.2 B.2 (A.2.length - (i + 1)) (B.2.length - (j + 1)))]
    refine z_iast dX0_leastCost_201 rfl (a7 i (by omega)) (vp_in_nI (by omega) (by omega)) ?_
    rw [nI_clamp (show j < 2 ^ 31 by omega)]
    refine zZ_h (alUp a ((T.1, T.2.1, va_up T.2.2.1 i (upd (T.2.2.1 i) j (sLike (cA i) (cb j) (q' 0))), T.2.2.2).1, (T.1, T.2.1, va_up T.2.2.1 i (upd (T.2.2.1 i) j (sLike (cA i) (cb j) (q' 0))), T.2.2.2).2.1, (T.1, T.2.1, va_up T.2.2.1 i (upd (T.2.2.1 i) j (sLike (cA i) (cb j) (q' 0))), T.2.2.2).2.2.1, va_up (T.1, T.2.1, va_up T.2.2.1 i (upd (T.2.2.1 i) j (sLike (cA i) (cb j) (q' 0))), T.2.2.2).2.2.2 i (upd ((T.1, T.2.1, va_up T.2.2.1 i (upd (T.2.2.1 i) j (sLike (cA i) (cb j) (q' 0))), T.2.2.2).2.2.2 i) j (nI (min (sBes q (A.2.getD i z0) (B.2.getD j z0) + dC q A.2 B.2 (A.2.length - (i + 1)) (B.2.length - (j + 1))) (min (sAlone q A.2 i + dC q A.2 B.2 (A.2.length - (i + 1)) (B.2.length - j)) (sAlone q B.2 j + dC q A.2 B.2 (A.2.length - i) (B.2.length - (j + 1)))))))) h) (alUp_re (by omega) _) ?_
    refine z_iinc (v := nI j - 1) dX0_leastCost_202 rfl rfl nI_m (Nat.le_of_ble_eq_true rfl) ?_
    refine z_goto (tgt := 128) dX0_leastCost_205 rfl (by decide) ?_
    refine z_lv [(7, .int (nI j - 1)), (6, .int (nI i)), (0, .ref a), (1, .ref b1), (2, .ref b2), (3, .ref ra), (4, .int (nI A.2.length)), (5, .int (nI B.2.length))] ⟨rfl, rfl, rfl, rfl, rfl, rfl, rfl, rfl, trivial⟩ ?_
    exact jh _ (by omega) (tC_re hT1 (by rw [dC_ll (i := i) (j := j) (by omega) (by omega), Nat.min_comm _ (sBes q (A.2.getD i z0) (B.2.getD j z0) + dC q A.2 B.2 (A.2.length - (i + 1)) (B.2.length - (j + 1)))]) (fun x y _ _ z => by rcases z with z | z | z | ⟨z, z2⟩; exact Or.inr (Or.inl z); exact Or.inr (Or.inr (Or.inl z)); exact Or.inr (Or.inr (Or.inr (Or.inl z))); by_cases e : y = j; exact Or.inl ⟨z, e⟩; exact Or.inr (Or.inr (Or.inr (Or.inr ⟨z, by omega⟩)))))

set_option maxHeartbeats 800000 in
set_option maxRecDepth 100000 in
theorem m_least_3 (g : zG) (h : zH) (a : Nat) (T0 : alT) (hA0 : alAt h a T0) (b1 b2 : Nat) (A B : sA) (cA cb : Nat → sC) (oA : aOk A) (hcA : cAt h b1 A.1 A.2.length cA) (hlA : ∀ i, i < A.2.length → cA i = A.2.getD i z0) (oB : aOk B) (hcB : cAt h b2 B.1 B.2.length cb) (hlB : ∀ i, i < B.2.length → cb i = B.2.getD i z0) (d1 : b1 + 4 ≤ a ∨ a + 46 ≤ b1) (d2 : b2 + 4 ≤ a ∨ a + 46 ≤ b2) (ra : Nat) (q q' : Nat → Int32) (hr : h.2 ra = some (.inl (0, 4, .inl q'))) (dr : ra < a ∨ a + 46 ≤ ra) (hqq : ∀ i, i < 4 → q' i = q i) (hq : rateOk q) : ∀ (i : Nat) (T : alT), i ≤ A.2.length → tC q A.2 B.2 T (fun x y => y = B.2.length ∨ x = A.2.length ∨ i ≤ x) (fun x y => i ≤ x) → zZ g YX0_leastCost (zE g (fun v h1 => v = some (.int (nI (dC q A.2 B.2 A.2.length B.2.length))) ∧ ∃ T, h1 = alUp a T h ∧ tC q A.2 B.2 T (fun _ _ => True) (fun _ _ => True)) 0 0) 117 [(6, .int (nI i - 1)), (0, .ref a), (1, .ref b1), (2, .ref b2), (3, .ref ra), (4, .int (nI A.2.length)), (5, .int (nI B.2.length))] [] (alUp a T h) 0 0 := by
  intro i
  induction i with
  | zero =>
    intro T hi hT
    have lA : A.2.length ≤ 20 := oA.2.2.1
    have lB : B.2.length ≤ 20 := oB.2.2.1
    refine z_iload dX0_leastCost_117 rfl rfl ?_
    refine z_if_lt (tgt := 214) dX0_leastCost_119 rfl (by decide) (fun c119 => ?_) (fun c119 => absurd c119 (fun z => z (by decide)))
    obtain ⟨a1, a2, a3, ⟨fo, a4, a4b⟩, a5, ⟨fp, a6, a6b⟩, a7⟩ := alUp_at (T := T) hA0
    have fr := (alUp_out (T := T) dr).trans hr
    first | refine z_aload_n dX0_leastCost_214 rfl rfl ?_ | refine z_aload_nN dX0_leastCost_214 rfl rfl ?_
    refine zg_X0_23 rfl dX0_leastCost_215 rfl a1 rfl ?_
    refine z_iconst (v := 0) dX0_leastCost_218 rfl (by decide) ?_
    refine z_aalds dX0_leastCost_219 rfl a6 rfl rfl (in_0 21 (by decide)) (show fp (0 : Int32).toNatClampNeg = _ from a6b 0 (by decide)) ?_
    refine z_iconst (v := 0) dX0_leastCost_220 rfl (by decide) ?_
    refine z_iald dX0_leastCost_221 rfl (a7 0 (by decide)) (in_0 21 (by decide)) ?_
    exact z_iret dX0_leastCost_222 rfl rfl ⟨by rw [show T.2.2.2 0 (0 : Int32).toNatClampNeg = _ from hT.2.2.1 0 0 (by omega) (by omega) (Or.inr (Or.inr (by omega))), Nat.sub_zero, Nat.sub_zero], T, rfl, tC_w hT (fun _ _ _ _ _ => Or.inr (Or.inr (by omega))) (fun _ _ _ _ _ => by show 0 ≤ _; omega)⟩ (Nat.le_of_ble_eq_true rfl) (Nat.le_of_ble_eq_true rfl)
  | succ i ih =>
    intro T hi hT
    have lA : A.2.length ≤ 20 := oA.2.2.1
    have lB : B.2.length ≤ 20 := oB.2.2.1
    have kb : ∀ T2, tC q A.2 B.2 T2 (fun x y => y = B.2.length ∨ x = A.2.length ∨ i ≤ x) (fun x y => i ≤ x) → zZ g YX0_leastCost (zE g (fun v h1 => v = some (.int (nI (dC q A.2 B.2 A.2.length B.2.length))) ∧ ∃ T, h1 = alUp a T h ∧ tC q A.2 B.2 T (fun _ _ => True) (fun _ _ => True)) 0 0) 208 [(6, .int (nI i)), (0, .ref a), (1, .ref b1), (2, .ref b2), (3, .ref ra), (4, .int (nI A.2.length)), (5, .int (nI B.2.length))] [] (alUp a T2 h) 0 0 := by
      intro T2 hT2
      refine z_iinc (v := nI i - 1) dX0_leastCost_208 rfl rfl nI_m (Nat.le_of_ble_eq_true rfl) ?_
      refine z_goto (tgt := 117) dX0_leastCost_211 rfl (by decide) ?_
      refine z_lv [(6, .int (nI i - 1)), (0, .ref a), (1, .ref b1), (2, .ref b2), (3, .ref ra), (4, .int (nI A.2.length)), (5, .int (nI B.2.length))] ⟨rfl, rfl, rfl, rfl, rfl, rfl, rfl, trivial⟩ ?_
      exact ih T2 (by omega) hT2
    rw [nI_p1]
    refine z_iload dX0_leastCost_117 rfl rfl ?_
    refine z_if_lt (tgt := 214) dX0_leastCost_119 rfl (by decide) (fun c119 => absurd c119 (nI_ge0 (by omega))) (fun c119 => ?_)
    refine z_iload dX0_leastCost_122 rfl rfl ?_
    refine z_iconst (v := 1) dX0_leastCost_124 rfl (by decide) ?_
    refine z_isub dX0_leastCost_125 rfl ?_
    refine z_istore dX0_leastCost_126 rfl (Nat.le_of_ble_eq_true rfl) ?_
    refine z_lv [(7, .int (nI B.2.length - 1)), (6, .int (nI i)), (0, .ref a), (1, .ref b1), (2, .ref b2), (3, .ref ra), (4, .int (nI A.2.length)), (5, .int (nI B.2.length))] ⟨rfl, rfl, rfl, rfl, rfl, rfl, rfl, rfl, trivial⟩ ?_
    exact m_least_4 g h a T0 hA0 b1 b2 A B cA cb oA hcA hlA oB hcB hlB d1 d2 ra q q' hr dr hqq hq i (by omega) (fun T2 hT2 => kb T2 (tC_w hT2 (fun x y _ _ z => by rcases z with z | z | z; exact Or.inl z; exact Or.inr (Or.inl z); by_cases e : x = i; exact Or.inr (Or.inr (Or.inr ⟨e, by omega⟩)); exact Or.inr (Or.inr (Or.inl (by omega)))) (fun x y _ _ z => by by_cases e : x = i; exact Or.inr ⟨e, by omega⟩; exact Or.inl (by omega)))) B.2.length T (by omega) (tC_w hT (fun x y _ hy z => by rcases z with z | z | z | ⟨z, z2⟩; exact Or.inl z; exact Or.inr (Or.inl z); exact Or.inr (Or.inr z); exact Or.inl (by omega)) (fun x y _ hy z => by rcases z with z | ⟨z, z2⟩; exact z; exact absurd hy (by omega)))

set_option maxHeartbeats 800000 in
set_option maxRecDepth 100000 in
theorem m_least_2 (g : zG) (h : zH) (a : Nat) (T0 : alT) (hA0 : alAt h a T0) (b1 b2 : Nat) (A B : sA) (cA cb : Nat → sC) (oA : aOk A) (hcA : cAt h b1 A.1 A.2.length cA) (hlA : ∀ i, i < A.2.length → cA i = A.2.getD i z0) (oB : aOk B) (hcB : cAt h b2 B.1 B.2.length cb) (hlB : ∀ i, i < B.2.length → cb i = B.2.getD i z0) (d1 : b1 + 4 ≤ a ∨ a + 46 ≤ b1) (d2 : b2 + 4 ≤ a ∨ a + 46 ≤ b2) (ra : Nat) (q q' : Nat → Int32) (hr : h.2 ra = some (.inl (0, 4, .inl q'))) (dr : ra < a ∨ a + 46 ≤ ra) (hqq : ∀ i, i < 4 → q' i = q i) (hq : rateOk q) : ∀ (j : Nat) (T : alT), j ≤ B.2.length → tC q A.2 B.2 T (fun x y => y = B.2.length ∨ (x = A.2.length ∧ j ≤ y)) (fun _ _ => False) → zZ g YX0_leastCost (zE g (fun v h1 => v = some (.int (nI (dC q A.2 B.2 A.2.length B.2.length))) ∧ ∃ T, h1 = alUp a T h ∧ tC q A.2 B.2 T (fun _ _ => True) (fun _ _ => True)) 0 0) 81 [(6, .int (nI j - 1)), (0, .ref a), (1, .ref b1), (2, .ref b2), (3, .ref ra), (4, .int (nI A.2.length)), (5, .int (nI B.2.length))] [] (alUp a T h) 0 0 := by
  intro j
  induction j with
  | zero =>
    intro T hj hT
    have lA : A.2.length ≤ 20 := oA.2.2.1
    have lB : B.2.length ≤ 20 := oB.2.2.1
    refine z_iload dX0_leastCost_81 rfl rfl ?_
    refine z_if_lt (tgt := 111) dX0_leastCost_83 rfl (by decide) (fun c83 => ?_) (fun c83 => absurd c83 (fun z => z (by decide)))
    refine z_iload dX0_leastCost_111 rfl rfl ?_
    refine z_iconst (v := 1) dX0_leastCost_113 rfl (by decide) ?_
    refine z_isub dX0_leastCost_114 rfl ?_
    refine z_istore dX0_leastCost_115 rfl (Nat.le_of_ble_eq_true rfl) ?_
    refine z_lv [(6, .int (nI A.2.length - 1)), (0, .ref a), (1, .ref b1), (2, .ref b2), (3, .ref ra), (4, .int (nI A.2.length)), (5, .int (nI B.2.length))] ⟨rfl, rfl, rfl, rfl, rfl, rfl, rfl, trivial⟩ ?_
    exact m_least_3 g h a T0 hA0 b1 b2 A B cA cb oA hcA hlA oB hcB hlB d1 d2 ra q q' hr dr hqq hq A.2.length T (by omega) (tC_w hT (fun x y hx _ z => by rcases z with z | z | z; exact Or.inl z; exact Or.inr ⟨z, by omega⟩; exact Or.inr ⟨by omega, by omega⟩) (fun x y hx _ z => absurd hx (by omega)))
  | succ j jh =>
    intro T hj hT
    have lA : A.2.length ≤ 20 := oA.2.2.1
    have lB : B.2.length ≤ 20 := oB.2.2.1
    rw [nI_p1]
    obtain ⟨a1, a2, a3, ⟨fo, a4, a4b⟩, a5, ⟨fp, a6, a6b⟩, a7⟩ := alUp_at (T := T) hA0
    have fr := (alUp_out (T := T) dr).trans hr
    refine z_iload dX0_leastCost_81 rfl rfl ?_
    refine z_if_lt (tgt := 111) dX0_leastCost_83 rfl (by decide) (fun c83 => absurd c83 (nI_ge0 (by omega))) (fun c83 => ?_)
    first | refine z_aload_n dX0_leastCost_86 rfl rfl ?_ | refine z_aload_nN dX0_leastCost_86 rfl rfl ?_
    refine zg_X0_23 rfl dX0_leastCost_87 rfl a1 rfl ?_
    refine z_iload dX0_leastCost_90 rfl rfl ?_
    refine z_aalds dX0_leastCost_92 rfl a6 rfl rfl (vp_in_nI (by omega) (by omega)) (by rw [nI_clamp (show A.2.length < 2 ^ 31 by omega)]; exact a6b A.2.length (by omega)) ?_
    refine z_iload dX0_leastCost_93 rfl rfl ?_
    first | refine z_aload_n dX0_leastCost_95 rfl rfl ?_ | refine z_aload_nN dX0_leastCost_95 rfl rfl ?_
    refine z_iload dX0_leastCost_96 rfl rfl ?_
    refine z_iload dX0_leastCost_98 rfl rfl ?_
    first | refine z_aload_n dX0_leastCost_100 rfl rfl ?_ | refine z_aload_nN dX0_leastCost_100 rfl rfl ?_
    refine zcx_X0_44 rfl dX0_leastCost_101 rfl a1 (m_rightCost g (alUp a T h) a _ (alUp_at (T := T) hA0) ra q' fr A.2.length j (by omega) (by omega)) rfl rfl ⟨(Nat.le_of_ble_eq_true rfl), (Nat.le_of_ble_eq_true rfl)⟩ ⟨(Nat.le_of_ble_eq_true rfl), (Nat.le_of_ble_eq_true rfl)⟩ (Nat.le_of_ble_eq_true rfl) ?_
    rw [cR hq hqq hT (by omega) (by omega) (by by_cases z : j + 1 = B.2.length; exact Or.inl z; exact Or.inr ⟨rfl, by omega⟩)]
    refine z_iast dX0_leastCost_104 rfl (a7 A.2.length (by omega)) (vp_in_nI (by omega) (by omega)) ?_
    rw [nI_clamp (show j < 2 ^ 31 by omega)]
    refine zZ_h (alUp a (T.1, T.2.1, T.2.2.1, va_up T.2.2.2 A.2.length (upd (T.2.2.2 A.2.length) j (nI (sAlone q B.2 j + dC q A.2 B.2 (A.2.length - A.2.length) (B.2.length - (j + 1)))))) h) (alUp_re (by omega) _) ?_
    refine z_iinc (v := nI j - 1) dX0_leastCost_105 rfl rfl nI_m (Nat.le_of_ble_eq_true rfl) ?_
    refine z_goto (tgt := 81) dX0_leastCost_108 rfl (by decide) ?_
    refine z_lv [(6, .int (nI j - 1)), (0, .ref a), (1, .ref b1), (2, .ref b2), (3, .ref ra), (4, .int (nI A.2.length)), (5, .int (nI B.2.length))] ⟨rfl, rfl, rfl, rfl, rfl, rfl, rfl, trivial⟩ ?_
    exact jh _ (by omega) (tC_re hT (by rw [dC_0l (i := A.2.length) (j := j) rfl (by omega)]) (fun x y _ _ z => by rcases z with z | ⟨z, z2⟩; exact Or.inr (Or.inl z); by_cases e : y = j; exact Or.inl ⟨z, e⟩; exact Or.inr (Or.inr ⟨z, by omega⟩)))

set_option maxHeartbeats 800000 in
set_option maxRecDepth 100000 in
theorem m_least_1 (g : zG) (h : zH) (a : Nat) (T0 : alT) (hA0 : alAt h a T0) (b1 b2 : Nat) (A B : sA) (cA cb : Nat → sC) (oA : aOk A) (hcA : cAt h b1 A.1 A.2.length cA) (hlA : ∀ i, i < A.2.length → cA i = A.2.getD i z0) (oB : aOk B) (hcB : cAt h b2 B.1 B.2.length cb) (hlB : ∀ i, i < B.2.length → cb i = B.2.getD i z0) (d1 : b1 + 4 ≤ a ∨ a + 46 ≤ b1) (d2 : b2 + 4 ≤ a ∨ a + 46 ≤ b2) (ra : Nat) (q q' : Nat → Int32) (hr : h.2 ra = some (.inl (0, 4, .inl q'))) (dr : ra < a ∨ a + 46 ≤ ra) (hqq : ∀ i, i < 4 → q' i = q i) (hq : rateOk q) : ∀ (i : Nat) (T : alT), i ≤ A.2.length → tC q A.2 B.2 T (fun x y => y = B.2.length ∧ i ≤ x) (fun _ _ => False) → zZ g YX0_leastCost (zE g (fun v h1 => v = some (.int (nI (dC q A.2 B.2 A.2.length B.2.length))) ∧ ∃ T, h1 = alUp a T h ∧ tC q A.2 B.2 T (fun _ _ => True) (fun _ _ => True)) 0 0) 45 [(6, .int (nI i - 1)), (0, .ref a), (1, .ref b1), (2, .ref b2), (3, .ref ra), (4, .int (nI A.2.length)), (5, .int (nI B.2.length))] [] (alUp a T h) 0 0 := by
  intro i
  induction i with
  | zero =>
    intro T hi hT
    have lA : A.2.length ≤ 20 := oA.2.2.1
    have lB : B.2.length ≤ 20 := oB.2.2.1
    refine z_iload dX0_leastCost_45 rfl rfl ?_
    refine z_if_lt (tgt := 75) dX0_leastCost_47 rfl (by decide) (fun c47 => ?_) (fun c47 => absurd c47 (fun z => z (by decide)))
    refine z_iload dX0_leastCost_75 rfl rfl ?_
    refine z_iconst (v := 1) dX0_leastCost_77 rfl (by decide) ?_
    refine z_isub dX0_leastCost_78 rfl ?_
    refine z_istore dX0_leastCost_79 rfl (Nat.le_of_ble_eq_true rfl) ?_
    refine z_lv [(6, .int (nI B.2.length - 1)), (0, .ref a), (1, .ref b1), (2, .ref b2), (3, .ref ra), (4, .int (nI A.2.length)), (5, .int (nI B.2.length))] ⟨rfl, rfl, rfl, rfl, rfl, rfl, rfl, trivial⟩ ?_
    exact m_least_2 g h a T0 hA0 b1 b2 A B cA cb oA hcA hlA oB hcB hlB d1 d2 ra q q' hr dr hqq hq B.2.length T (by omega) (tC_w hT (fun x y hx hy z => by rcases z with z | ⟨z, z2⟩; exact ⟨z, by omega⟩; exact ⟨by omega, by omega⟩) (fun x y hx _ z => z))
  | succ i ih =>
    intro T hi hT
    have lA : A.2.length ≤ 20 := oA.2.2.1
    have lB : B.2.length ≤ 20 := oB.2.2.1
    rw [nI_p1]
    obtain ⟨a1, a2, a3, ⟨fo, a4, a4b⟩, a5, ⟨fp, a6, a6b⟩, a7⟩ := alUp_at (T := T) hA0
    have fr := (alUp_out (T := T) dr).trans hr
    refine z_iload dX0_leastCost_45 rfl rfl ?_
    refine z_if_lt (tgt := 75) dX0_leastCost_47 rfl (by decide) (fun c47 => absurd c47 (nI_ge0 (by omega))) (fun c47 => ?_)
    first | refine z_aload_n dX0_leastCost_50 rfl rfl ?_ | refine z_aload_nN dX0_leastCost_50 rfl rfl ?_
    refine zg_X0_23 rfl dX0_leastCost_51 rfl a1 rfl ?_
    refine z_iload dX0_leastCost_54 rfl rfl ?_
    refine z_aalds dX0_leastCost_56 rfl a6 rfl rfl (vp_in_nI (by omega) (by omega)) (by rw [nI_clamp (show i < 2 ^ 31 by omega)]; exact a6b i (by omega)) ?_
    refine z_iload dX0_leastCost_57 rfl rfl ?_
    first | refine z_aload_n dX0_leastCost_59 rfl rfl ?_ | refine z_aload_nN dX0_leastCost_59 rfl rfl ?_
    refine z_iload dX0_leastCost_60 rfl rfl ?_
    refine z_iload dX0_leastCost_62 rfl rfl ?_
    first | refine z_aload_n dX0_leastCost_64 rfl rfl ?_ | refine z_aload_nN dX0_leastCost_64 rfl rfl ?_
    refine zcx_X0_40 rfl dX0_leastCost_65 rfl a1 (m_leftCost g (alUp a T h) a _ (alUp_at (T := T) hA0) ra q' fr i B.2.length (by omega) (by omega)) rfl rfl ⟨(Nat.le_of_ble_eq_true rfl), (Nat.le_of_ble_eq_true rfl)⟩ ⟨(Nat.le_of_ble_eq_true rfl), (Nat.le_of_ble_eq_true rfl)⟩ (Nat.le_of_ble_eq_true rfl) ?_
    rw [cL hq hqq hT (by omega) (by omega) ⟨rfl, by omega⟩]
    refine z_iast dX0_leastCost_68 rfl (a7 i (by omega)) (vp_in_nI (by omega) (by omega)) ?_
    rw [nI_clamp (show B.2.length < 2 ^ 31 by omega)]
    refine zZ_h (alUp a (T.1, T.2.1, T.2.2.1, va_up T.2.2.2 i (upd (T.2.2.2 i) B.2.length (nI (sAlone q A.2 i + dC q A.2 B.2 (A.2.length - (i + 1)) (B.2.length - B.2.length))))) h) (alUp_re (by omega) _) ?_
    refine z_iinc (v := nI i - 1) dX0_leastCost_69 rfl rfl nI_m (Nat.le_of_ble_eq_true rfl) ?_
    refine z_goto (tgt := 45) dX0_leastCost_72 rfl (by decide) ?_
    refine z_lv [(6, .int (nI i - 1)), (0, .ref a), (1, .ref b1), (2, .ref b2), (3, .ref ra), (4, .int (nI A.2.length)), (5, .int (nI B.2.length))] ⟨rfl, rfl, rfl, rfl, rfl, rfl, rfl, trivial⟩ ?_
    exact ih _ (by omega) (tC_re hT (by rw [dC_l0 (i := i) (j := B.2.length) (by omega) rfl]) (fun x y _ _ z => by obtain ⟨z, z2⟩ := z; by_cases e : x = i; exact Or.inl ⟨e, z⟩; exact Or.inr ⟨z, by omega⟩))

set_option maxHeartbeats 800000 in
set_option maxRecDepth 100000 in
theorem m_leastCost (g : zG) (h : zH) (a : Nat) (T0 : alT) (hA0 : alAt h a T0) (b1 b2 : Nat) (A B : sA) (cA cb : Nat → sC) (oA : aOk A) (hcA : cAt h b1 A.1 A.2.length cA) (hlA : ∀ i, i < A.2.length → cA i = A.2.getD i z0) (oB : aOk B) (hcB : cAt h b2 B.1 B.2.length cb) (hlB : ∀ i, i < B.2.length → cb i = B.2.getD i z0) (d1 : b1 + 4 ≤ a ∨ a + 46 ≤ b1) (d2 : b2 + 4 ≤ a ∨ a + 46 ≤ b2) (ra : Nat) (q q' : Nat → Int32) (hr : h.2 ra = some (.inl (0, 4, .inl q'))) (dr : ra < a ∨ a + 46 ≤ ra) (hqq : ∀ i, i < 4 → q' i = q i) (hq : rateOk q) : zM g yX0_leastCost cX0_leastCost 9 (some .int) rmX0_leastCost [.ref a, .ref b1, .ref b2, .ref ra] h (fun v h1 => v = some (.int (nI (dC q A.2 B.2 A.2.length B.2.length))) ∧ ∃ T, h1 = alUp a T h ∧ tC q A.2 B.2 T (fun _ _ => True) (fun _ _ => True)) := by
  refine zM_of (by decide) (Nat.le_of_ble_eq_true rfl) ?_
  have lA : A.2.length ≤ 20 := oA.2.2.1
  have lB : B.2.length ≤ 20 := oB.2.2.1
  first | refine z_aload_n dX0_leastCost_0 rfl rfl ?_ | refine z_aload_nN dX0_leastCost_0 rfl rfl ?_
  first | refine z_aload_n dX0_leastCost_1 rfl rfl ?_ | refine z_aload_nN dX0_leastCost_1 rfl rfl ?_
  refine zg_X0_9 rfl dX0_leastCost_2 rfl hA0.1 rfl ?_
  refine zcv_X0_36 rfl dX0_leastCost_5 rfl (m_judgeAlone g h b1 (a + 1) A cA oA hcA hlA _ hA0.2.1 (by omega)) rfl rfl ⟨(Nat.le_of_ble_eq_true rfl), (Nat.le_of_ble_eq_true rfl)⟩ ⟨(Nat.le_of_ble_eq_true rfl), (Nat.le_of_ble_eq_true rfl)⟩ (Nat.le_of_ble_eq_true rfl) ?_
  refine zZ_h (alUp a (jA A.2 A.2.length T0.1, T0.2) h) (by rw [← alUp_lv, alUp_self hA0]) ?_
  first | refine z_aload_n dX0_leastCost_8 rfl rfl ?_ | refine z_aload_nN dX0_leastCost_8 rfl rfl ?_
  first | refine z_aload_n dX0_leastCost_9 rfl rfl ?_ | refine z_aload_nN dX0_leastCost_9 rfl rfl ?_
  refine zg_X0_15 rfl dX0_leastCost_10 rfl (alUp_at (T := (jA A.2 A.2.length T0.1, T0.2)) hA0).1 rfl ?_
  refine zcv_X0_36 rfl dX0_leastCost_13 rfl (m_judgeAlone g (alUp a (jA A.2 A.2.length T0.1, T0.2) h) b2 (a + 2) B cb oB (cAt_fr hcB (fun q q1 q2 => alUp_out (T := (jA A.2 A.2.length T0.1, T0.2)) (by omega))) hlB _ (alUp_at (T := (jA A.2 A.2.length T0.1, T0.2)) hA0).2.2.1 (by omega)) rfl rfl ⟨(Nat.le_of_ble_eq_true rfl), (Nat.le_of_ble_eq_true rfl)⟩ ⟨(Nat.le_of_ble_eq_true rfl), (Nat.le_of_ble_eq_true rfl)⟩ (Nat.le_of_ble_eq_true rfl) ?_
  refine zZ_h (alUp a (jA A.2 A.2.length T0.1, jA B.2 B.2.length T0.2.1, T0.2.2) h) (by rw [alUp_rv]) ?_
  first | refine z_aload_n dX0_leastCost_16 rfl rfl ?_ | refine z_aload_nN dX0_leastCost_16 rfl rfl ?_
  refine zg_X0_26 rfl dX0_leastCost_17 rfl (cAt_fr hcA (fun q q1 q2 => alUp_out (T := (jA A.2 A.2.length T0.1, jA B.2 B.2.length T0.2.1, T0.2.2)) (by omega))).1 rfl ?_
  refine z_istore dX0_leastCost_20 rfl (Nat.le_of_ble_eq_true rfl) ?_
  first | refine z_aload_n dX0_leastCost_22 rfl rfl ?_ | refine z_aload_nN dX0_leastCost_22 rfl rfl ?_
  refine zg_X0_26 rfl dX0_leastCost_23 rfl (cAt_fr hcB (fun q q1 q2 => alUp_out (T := (jA A.2 A.2.length T0.1, jA B.2 B.2.length T0.2.1, T0.2.2)) (by omega))).1 rfl ?_
  refine z_istore dX0_leastCost_26 rfl (Nat.le_of_ble_eq_true rfl) ?_
  obtain ⟨a1, a2, a3, ⟨fo, a4, a4b⟩, a5, ⟨fp, a6, a6b⟩, a7⟩ := alUp_at (T := (jA A.2 A.2.length T0.1, jA B.2 B.2.length T0.2.1, T0.2.2)) hA0
  have fr := (alUp_out (T := (jA A.2 A.2.length T0.1, jA B.2 B.2.length T0.2.1, T0.2.2)) dr).trans hr
  first | refine z_aload_n dX0_leastCost_28 rfl rfl ?_ | refine z_aload_nN dX0_leastCost_28 rfl rfl ?_
  refine zg_X0_23 rfl dX0_leastCost_29 rfl a1 rfl ?_
  refine z_iload dX0_leastCost_32 rfl rfl ?_
  refine z_aalds dX0_leastCost_34 rfl a6 rfl rfl (vp_in_nI (by omega) (by omega)) (by rw [nI_clamp (show A.2.length < 2 ^ 31 by omega)]; exact a6b A.2.length (by omega)) ?_
  refine z_iload dX0_leastCost_35 rfl rfl ?_
  refine z_iconst (v := 0) dX0_leastCost_37 rfl (by decide) ?_
  refine z_iast dX0_leastCost_38 rfl (a7 A.2.length (by omega)) (vp_in_nI (by omega) (by omega)) ?_
  rw [nI_clamp (show B.2.length < 2 ^ 31 by omega)]
  refine zZ_h (alUp a ((jA A.2 A.2.length T0.1, jA B.2 B.2.length T0.2.1, T0.2.2).1, (jA A.2 A.2.length T0.1, jA B.2 B.2.length T0.2.1, T0.2.2).2.1, (jA A.2 A.2.length T0.1, jA B.2 B.2.length T0.2.1, T0.2.2).2.2.1, va_up (jA A.2 A.2.length T0.1, jA B.2 B.2.length T0.2.1, T0.2.2).2.2.2 A.2.length (upd ((jA A.2 A.2.length T0.1, jA B.2 B.2.length T0.2.1, T0.2.2).2.2.2 A.2.length) B.2.length 0)) h) (alUp_re (by omega) _) ?_
  refine z_iload dX0_leastCost_39 rfl rfl ?_
  refine z_iconst (v := 1) dX0_leastCost_41 rfl (by decide) ?_
  refine z_isub dX0_leastCost_42 rfl ?_
  refine z_istore dX0_leastCost_43 rfl (Nat.le_of_ble_eq_true rfl) ?_
  refine z_lv [(6, .int (nI A.2.length - 1)), (0, .ref a), (1, .ref b1), (2, .ref b2), (3, .ref ra), (4, .int (nI A.2.length)), (5, .int (nI B.2.length))] ⟨rfl, rfl, rfl, rfl, rfl, rfl, rfl, trivial⟩ ?_
  exact m_least_1 g h a T0 hA0 b1 b2 A B cA cb oA hcA hlA oB hcB hlB d1 d2 ra q q' hr dr hqq hq A.2.length _ (by omega) ⟨fun i hi => by show (if i < A.2.length then sAl A.2 i else _) = _; rw [if_pos hi], fun j hj => by show (if j < B.2.length then sAl B.2 j else _) = _; rw [if_pos hj], fun x y hx hy z => by have e : x = A.2.length := (by omega); rw [e, z.1]; show va_up _ _ (upd _ _ 0) _ _ = _; rw [vu_s, upd_same, Nat.sub_self, Nat.sub_self, dC_ee]; rfl, fun x y hx hy z => absurd z id⟩

