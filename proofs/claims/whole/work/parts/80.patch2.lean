theorem pI_new (p n : Nat) (h : Nat → Option zOb) (F0 F1 F2 F3 F4 I : Option zOb) (c d : Nat → sC) (hI : I = some (.inl (0, n, .inl (fun _ => 0)))) (hF : F4 = some (.inr (4, [.int (nI n), .ref (p + 1), .ref (p + 2), .ref (p + 6)]))) : ((p + 10, va_up (cUp (p + 6) 9 n d (p + 10, va_up (cUp (p + 2) 9 n c (p + 6, va_up (va_up (va_up (va_up h p F0) p F1) (p + 1) I) p F2)).2 p F3)).2 p F4) : zH) = pUp p (p + 2) (p + 6) n (fun _ => 0) (cUp (p + 2) 9 n c (cUp (p + 6) 9 n d (p + 10, h))) := by
  subst hI hF
  refine Prod.ext rfl (funext fun q => ?_)
  simp only [pUp, cUp]
  by_cases e : q = p
  · rw [if_pos e, e, vu_s]
  rw [if_neg e, vu_n e]
  by_cases e1 : q = p + 1
  · rw [if_pos e1, if_neg (by omega), vu_n e, if_neg (by omega), vu_n e, e1, vu_s]
  rw [if_neg e1]
  by_cases e2 : p + 2 ≤ q ∧ q < p + 2 + 4
  · rw [if_pos e2, if_neg (by omega), vu_n e, if_pos e2]
  rw [if_neg e2]
  by_cases e6 : p + 6 ≤ q ∧ q < p + 6 + 4
  · rw [if_pos e6, if_pos e6]
  · rw [if_neg e6, if_neg e6, vu_n e, if_neg e2, vu_n e, vu_n e1, vu_n e, vu_n e]

set_option maxHeartbeats 800000 in
set_option maxRecDepth 100000 in
theorem m_pinit (g : zG) (h : zH) (kp l r s : Nat) (C : sCo) (f0 : Nat → Nat → Int32) (hk : h.2 kp = some (kOb l r s C.2.2.1 C.2.2.2.length)) (hf : csIs h s (C.1.2.length + C.2.1.2.length) f0) (cl cr : Nat → sC) (oL : aOk C.1) (hl : cAt h l C.1.1 C.1.2.length cl) (hll : ∀ i, i < C.1.2.length → cl i = C.1.2.getD i z0) (oR : aOk C.2.1) (hr2 : cAt h r C.2.1.1 C.2.1.2.length cr) (hlr : ∀ i, i < C.2.1.2.length → cr i = C.2.1.2.getD i z0) (hLn : C.2.2.2.length ≤ C.1.2.length + C.2.1.2.length) (hL : ∀ k t, C.2.2.2[k]? = some t → stpIs f0 k t) (hOk : ∀ t, t ∈ C.2.2.2 → stpOk C.1 C.2.1 t) (hw : wfH h) : zM g yX7_init cX7_init 3 none rmX7_init [.ref h.1, .ref kp] (h.1 + 1, (va_up h.2 h.1 (some (.inr (4, [.int 0, .null, .null, .null]))))) (fun v h1 => v = none ∧ ∃ f cO cN, h1 = (pUp h.1 (h.1 + 2) (h.1 + 6) C.2.2.2.length f (cUp (h.1 + 2) 9 C.2.2.2.length cO (cUp (h.1 + 6) 9 C.2.2.2.length cN (h.1 + 10, h.2)))) ∧ paN C f cO cN C.2.2.2.length) := by
  refine zM_of (by decide) (Nat.le_of_ble_eq_true rfl) ?_
  have la : C.1.2.length ≤ 20 := oL.2.2.1
  have lb : C.2.1.2.length ≤ 20 := oR.2.2.1
  have k1 := wf_lt hw hk
  first | refine z_aload_n dX7_init_0 rfl rfl ?_ | refine z_aload_nN dX7_init_0 rfl rfl ?_
  refine zc_X7_3 rfl dX7_init_1 rfl (Nat.le_of_ble_eq_true rfl) (Nat.le_of_ble_eq_true rfl) ?_
  first | refine z_aload_n dX7_init_4 rfl rfl ?_ | refine z_aload_nN dX7_init_4 rfl rfl ?_
  first | refine z_aload_n dX7_init_5 rfl rfl ?_ | refine z_aload_nN dX7_init_5 rfl rfl ?_
  refine zg_X7_9 rfl dX7_init_6 rfl ((vu_n (by omega)).trans hk) rfl ?_
  refine zp_X7_15 rfl rfl dX7_init_9 rfl vu_s rfl rfl (Nat.le_of_ble_eq_true rfl) ?_
  first | refine z_aload_n dX7_init_12 rfl rfl ?_ | refine z_aload_nN dX7_init_12 rfl rfl ?_
  first | refine z_aload_n dX7_init_13 rfl rfl ?_ | refine z_aload_nN dX7_init_13 rfl rfl ?_
  refine zg_X7_15 rfl dX7_init_14 rfl vu_s rfl ?_
  refine z_newi (N := C.2.2.2.length) dX7_init_17 rfl (nI_ge0 (by omega)) (nI_clamp (by omega)) (by omega) (by show _ ≤ 9; omega) (by show _ ≤ 290; omega) ?_
  refine zp_X7_20 rfl rfl dX7_init_19 rfl ((vu_n (by omega)).trans vu_s) rfl rfl (Nat.le_of_ble_eq_true rfl) ?_
  refine z_widen (ce' := 1) (sl' := 40) (by omega) (by omega) ?_
  first | refine z_aload_n dX7_init_22 rfl rfl ?_ | refine z_aload_nN dX7_init_22 rfl rfl ?_
  refine zn_X7_24 rfl dX7_init_23 rfl (Nat.le_of_ble_eq_true rfl) (Nat.le_of_ble_eq_true rfl) ?_
  refine z_dup dX7_init_26 rfl rfl ?_
  refine z_bipush (v := 9) dX7_init_27 rfl (by decide) ?_
  first | refine z_aload_n dX7_init_29 rfl rfl ?_ | refine z_aload_nN dX7_init_29 rfl rfl ?_
  refine zg_X7_15 rfl dX7_init_30 rfl ((vu_n (by omega)).trans vu_s) rfl ?_
  refine zc_X7_26 rfl dX7_init_33 rfl (m_cinit g _ (h.1 + 1 + 1) _ vu_s rfl 9 C.2.2.2.length (by omega)) rfl rfl ⟨(Nat.le_of_ble_eq_true rfl), (Nat.le_of_ble_eq_true rfl)⟩ ⟨(Nat.le_of_ble_eq_true rfl), (Nat.le_of_ble_eq_true rfl)⟩ (Nat.le_of_ble_eq_true rfl) (fun v h1 hz => ?_)
  obtain ⟨rfl, rfl⟩ := hz
  rw [cUp_vu]
  refine zp_X7_29 rfl dX7_init_36 rfl ((cUp_out (by omega)).trans vu_s) rfl rfl (Nat.le_of_ble_eq_true rfl) ?_
  first | refine z_aload_n dX7_init_39 rfl rfl ?_ | refine z_aload_nN dX7_init_39 rfl rfl ?_
  refine zn_X7_24 rfl dX7_init_40 rfl (Nat.le_of_ble_eq_true rfl) (Nat.le_of_ble_eq_true rfl) ?_
  refine z_dup dX7_init_43 rfl rfl ?_
  refine z_bipush (v := 9) dX7_init_44 rfl (by decide) ?_
  first | refine z_aload_n dX7_init_46 rfl rfl ?_ | refine z_aload_nN dX7_init_46 rfl rfl ?_
  refine zg_X7_15 rfl dX7_init_47 rfl ((vu_n (show h.1 ≠ h.1 + 1 + 1 + 4 by omega)).trans vu_s) rfl ?_
  refine zc_X7_26 rfl dX7_init_50 rfl (m_cinit g _ (h.1 + 1 + 1 + 4) _ vu_s rfl 9 C.2.2.2.length (by omega)) rfl rfl ⟨(Nat.le_of_ble_eq_true rfl), (Nat.le_of_ble_eq_true rfl)⟩ ⟨(Nat.le_of_ble_eq_true rfl), (Nat.le_of_ble_eq_true rfl)⟩ (Nat.le_of_ble_eq_true rfl) (fun v h1 hz => ?_)
  obtain ⟨rfl, rfl⟩ := hz
  rw [cUp_vu]
  refine zp_X7_33 rfl dX7_init_53 rfl ((cUp_out (by omega)).trans vu_s) rfl rfl (Nat.le_of_ble_eq_true rfl) ?_
  refine z_iconst (v := 0) dX7_init_56 rfl (by decide) ?_
  refine z_istore_n dX7_init_57 rfl (Nat.le_of_ble_eq_true rfl) ?_
  refine zZ_h (pUp h.1 (h.1 + 2) (h.1 + 6) C.2.2.2.length (fun _ => 0) (cUp (h.1 + 2) 9 C.2.2.2.length (cIn 9 C.2.2.2.length) (cUp (h.1 + 6) 9 C.2.2.2.length (cIn 9 C.2.2.2.length) (h.1 + 10, h.2)))) (pI_new h.1 C.2.2.2.length h.2 _ _ _ _ _ _ _ _ rfl rfl) ?_
  refine z_lv [(2, .int (nI 0)), (0, .ref h.1), (1, .ref kp)] ⟨rfl, rfl, rfl, trivial⟩ ?_
  refine z_widen (ce' := 9) (sl' := 290) (Nat.le_of_ble_eq_true rfl) (Nat.le_of_ble_eq_true rfl) ?_
  exact m_pinit_L g h kp l r s C f0 hk hf cl cr oL hl hll oR hr2 hlr hLn hL hOk h.1 hw C.2.2.2.length _ _ _ 0 (by omega) (fun j t hj _ => absurd hj (by omega))

abbrev YX7_actsOf : zY := (yX7_actsOf.cls, cX7_actsOf, 4, (some .int), rmX7_actsOf, yX7_actsOf.name, fun _ _ => True)
def fcn (f : Nat → Int32) (v : Int32) : Nat → Nat
  | 0 => 0
  | n + 1 => fcn f v n + if f n = v then 1 else 0
theorem fcn_le (f : Nat → Int32) (v : Int32) : ∀ n, fcn f v n ≤ n
  | 0 => Nat.le_refl _
  | n + 1 => by have := fcn_le f v n; unfold fcn; split <;> omega
theorem fcn_L {α : Type} (f : Nat → Int32) (v : Int32) (P : α → Bool) : ∀ (M : List α), (∀ k a, M[k]? = some a → (f k = v ↔ P a = true)) → fcn f v M.length = M.countP P := by
  intro M
  have gen : ∀ n, n ≤ M.length → (∀ k a, M[k]? = some a → (f k = v ↔ P a = true)) → fcn f v n = (M.take n).countP P := by
    intro n
    induction n with
    | zero => intro _ _; rfl
    | succ n ih =>
      intro hn h
      obtain ⟨a, ha⟩ : ∃ a, M[n]? = some a := ⟨_, List.getElem?_eq_getElem (by omega)⟩
      have e : M.take (n + 1) = M.take n ++ [a] := by rw [List.take_succ, ha]; rfl
      rw [fcn, ih (by omega) h, e, List.countP_append, List.countP_singleton]
      by_cases q : P a = true
      · rw [if_pos ((h n a ha).mpr q), if_pos q]
      · rw [if_neg (fun z => q ((h n a ha).mp z)), if_neg q]
  intro h
  rw [gen M.length (Nat.le_refl _) h, List.take_length]

set_option maxHeartbeats 800000 in
set_option maxRecDepth 100000 in
theorem m_actsOf_L (g : zG) (h : zH) (p o v n : Nat) (f : Nat → Int32) (h1 : h.2 p = some (.inr (4, [.int (nI n), .ref (p + 1), .ref o, .ref v]))) (h2 : h.2 (p + 1) = some (.inl (0, n, .inl f))) (hn : n ≤ 40) (y : Int32) : ∀ (nn : Nat) (i : Nat), i + nn = n → zZ g YX7_actsOf (zE g (fun w h1 => w = some (.int (nI (fcn f y n))) ∧ h1 = h) 0 0) 4 [(2, .int (nI (fcn f y i))), (3, .int (nI i)), (0, .ref p), (1, .int y)] [] h 0 0 := by
  intro nn
  induction nn with
  | zero =>
    intro i hin
    refine z_iload_n dX7_actsOf_4 rfl rfl ?_
    first | refine z_aload_n dX7_actsOf_5 rfl rfl ?_ | refine z_aload_nN dX7_actsOf_5 rfl rfl ?_
    refine zg_X7_15 rfl dX7_actsOf_6 rfl h1 rfl ?_
    refine z_icmp_ge (tgt := 31) dX7_actsOf_9 rfl (by decide) (fun c9 => ?_) (fun c9 => absurd c9 (fun z => z (nI_le (by omega) (by omega))))
    refine z_iload_n dX7_actsOf_31 rfl rfl ?_
    exact z_iret dX7_actsOf_32 rfl rfl ⟨by rw [show i = n from by omega], rfl⟩ (Nat.le_of_ble_eq_true rfl) (Nat.le_of_ble_eq_true rfl)
  | succ nn ih =>
    intro i hin
    refine z_iload_n dX7_actsOf_4 rfl rfl ?_
    first | refine z_aload_n dX7_actsOf_5 rfl rfl ?_ | refine z_aload_nN dX7_actsOf_5 rfl rfl ?_
    refine zg_X7_15 rfl dX7_actsOf_6 rfl h1 rfl ?_
    refine z_icmp_ge (tgt := 31) dX7_actsOf_9 rfl (by decide) (fun c9 => absurd c9 (nI_ge (by omega) (by omega))) (fun c9 => ?_)
    first | refine z_aload_n dX7_actsOf_12 rfl rfl ?_ | refine z_aload_nN dX7_actsOf_12 rfl rfl ?_
    refine zg_X7_20 rfl dX7_actsOf_13 rfl h1 rfl ?_
    refine z_iload_n dX7_actsOf_16 rfl rfl ?_
    refine z_iald dX7_actsOf_17 rfl h2 (vp_in_nI (by omega) (by omega)) ?_
    rw [nI_clamp (show i < 2 ^ 31 by omega)]
    refine z_iload_n dX7_actsOf_18 rfl rfl ?_
    refine z_icmp_ne (tgt := 25) dX7_actsOf_19 rfl (by decide) (fun c19 => ?_) (fun c19 => ?_)
    · skip
      first | rw [show nI (fcn f y i + 1) = nI (fcn f y (i + 1)) from by rw [fcn, if_pos c19]] | rw [show nI (fcn f y i) = nI (fcn f y (i + 1)) from by rw [fcn, if_neg c19, Nat.add_zero]]
      refine z_iinc (v := nI (i + 1)) dX7_actsOf_25 rfl rfl (nI_inc i) (Nat.le_of_ble_eq_true rfl) ?_
      refine z_goto (tgt := 4) dX7_actsOf_28 rfl (by decide) ?_
      refine z_lv [(2, .int (nI (fcn f y (i + 1)))), (3, .int (nI (i + 1))), (0, .ref p), (1, .int y)] ⟨rfl, rfl, rfl, rfl, trivial⟩ ?_
      exact ih (i + 1) (by omega)
    · skip
      refine z_iinc (v := nI (fcn f y i + 1)) dX7_actsOf_22 rfl rfl (nI_inc _) (Nat.le_of_ble_eq_true rfl) ?_
      first | rw [show nI (fcn f y i + 1) = nI (fcn f y (i + 1)) from by rw [fcn, if_pos c19]] | rw [show nI (fcn f y i) = nI (fcn f y (i + 1)) from by rw [fcn, if_neg c19, Nat.add_zero]]
      refine z_iinc (v := nI (i + 1)) dX7_actsOf_25 rfl rfl (nI_inc i) (Nat.le_of_ble_eq_true rfl) ?_
      refine z_goto (tgt := 4) dX7_actsOf_28 rfl (by decide) ?_
      refine z_lv [(2, .int (nI (fcn f y (i + 1)))), (3, .int (nI (i + 1))), (0, .ref p), (1, .int y)] ⟨rfl, rfl, rfl, rfl, trivial⟩ ?_
      exact ih (i + 1) (by omega)

set_option maxHeartbeats 4000000 in
set_option maxRecDepth 100000 in
/-- X7_actsOf -/
theorem m_actsOf (g : zG) (h : zH) (p o v n : Nat) (f : Nat → Int32) (h1 : h.2 p = some (.inr (4, [.int (nI n), .ref (p + 1), .ref o, .ref v]))) (h2 : h.2 (p + 1) = some (.inl (0, n, .inl f))) (hn : n ≤ 40) (y : Int32) : zX g yX7_actsOf cX7_actsOf 4 (some .int) rmX7_actsOf [.ref p, .int y] h (.int (nI (fcn f y n))) h := by
  refine zM_of (by decide) (Nat.le_of_ble_eq_true rfl) ?_
  refine z_iconst (v := 0) dX7_actsOf_0 rfl (by decide) ?_
  refine z_istore_n dX7_actsOf_1 rfl (Nat.le_of_ble_eq_true rfl) ?_
  refine z_iconst (v := 0) dX7_actsOf_2 rfl (by decide) ?_
  refine z_istore_n dX7_actsOf_3 rfl (Nat.le_of_ble_eq_true rfl) ?_
  refine z_lv [(2, .int (nI (fcn f y 0))), (3, .int (nI 0)), (0, .ref p), (1, .int y)] ⟨rfl, rfl, rfl, rfl, trivial⟩ ?_
  exact m_actsOf_L g h p o v n f h1 h2 hn y n 0 (by omega)

theorem mk_ok {C : sCo} (oL : aOk C.1) (oR : aOk C.2.1) {t : sStep} (h : stpOk C.1 C.2.1 t) {f : Nat → Int32} {cO cN : Nat → sC} {k : Nat} (a1 : f k = actC t) (a2 : t.1 ≠ 2 → cO k = C.1.2.getD (ix t.2.1) z0) (a3 : t.1 ≠ 1 → cN k = C.2.1.2.getD (ix t.2.2.1) z0) : actOk f cO cN k (mkAct C t) := by
  have la := oL.2.2.1
  have lb := oR.2.2.1
  have hA : ∀ i, i < C.1.2.length → sOk (C.1.2.getD i z0) := fun i hi => by rw [List.getD_eq_getElem?_getD, List.getElem?_eq_getElem hi]; exact (oL.2.2.2 _ (List.getElem_mem hi)).1
  have hB : ∀ i, i < C.2.1.2.length → sOk (C.2.1.2.getD i z0) := fun i hi => by rw [List.getD_eq_getElem?_getD, List.getElem?_eq_getElem hi]; exact (oR.2.2.2 _ (List.getElem_mem hi)).1
  have h3 : t.1 = 0 ∨ t.1 = 1 ∨ t.1 = 2 := by rcases h with y | y | y; exact Or.inl y.1; exact Or.inr (Or.inl y.1); exact Or.inr (Or.inr y.1)
  have hx : t.1 ≠ 2 → sOk (C.1.2.getD (ix t.2.1) z0) := fun z => by
    rcases h with ⟨-, ⟨i, j, hi, hj, e2, e3, -⟩, -⟩ | ⟨-, -, ⟨i, hi, e2⟩, -⟩ | ⟨y, -⟩
    · rw [e2, show ix (nI i) = i from nI_clamp (by omega)]; exact hA i hi
    · rw [e2, show ix (nI i) = i from nI_clamp (by omega)]; exact hA i hi
    · exact absurd y z
  have hy : t.1 ≠ 1 → sOk (C.2.1.2.getD (ix t.2.2.1) z0) := fun z => by
    rcases h with ⟨-, ⟨i, j, hi, hj, e2, e3, -⟩, -⟩ | ⟨y, -⟩ | ⟨-, -, ⟨j, hj, e3⟩, -⟩
    · rw [e3, show ix (nI j) = j from nI_clamp (by omega)]; exact hB j hj
    · exact absurd y z
    · rw [e3, show ix (nI j) = j from nI_clamp (by omega)]; exact hB j hj
  refine ⟨a1, by show 0 ≤ actC t; unfold actC; grind, by show actC t ≤ 3; unfold actC; grind, ?_, ?_, fun c hc => ?_, fun c hc => ?_⟩
  · show (if t.1 = 2 then none else some _) = none ↔ actC t = 3
    unfold actC; grind
  · show (if t.1 = 1 then none else some _) = none ↔ actC t = 2
    unfold actC; grind
  · have hc : (if t.1 = 2 then none else some (C.1.2.getD (ix t.2.1) z0)) = some c := hc
    by_cases e2 : t.1 = 2
    · rw [if_pos e2] at hc; cases hc
    · rw [if_neg e2] at hc; obtain rfl := Option.some.inj hc; exact ⟨a2 e2, hx e2⟩
  · have hc : (if t.1 = 1 then none else some (C.2.1.2.getD (ix t.2.2.1) z0)) = some c := hc
    by_cases e2 : t.1 = 1
    · rw [if_pos e2] at hc; cases hc
    · rw [if_neg e2] at hc; obtain rfl := Option.some.inj hc; exact ⟨a3 e2, hy e2⟩
theorem cnt_mk1 {C : sCo} (hOk : ∀ t, t ∈ C.2.2.2 → stpOk C.1 C.2.1 t) : C.2.2.2.countP (isIn ∘ mkAct C) = C.2.2.2.countP (fun t => !decide (t.1 = 1)) := by
  apply List.countP_congr
  intro t ht
  have h3 : t.1 = 0 ∨ t.1 = 1 ∨ t.1 = 2 := by rcases hOk t ht with y | y | y; exact Or.inl y.1; exact Or.inr (Or.inl y.1); exact Or.inr (Or.inr y.1)
  show (!decide (actC t = 2)) = true ↔ (!decide (t.1 = 1)) = true
  unfold actC
  grind
theorem cnt_mk2 {C : sCo} (hOk : ∀ t, t ∈ C.2.2.2 → stpOk C.1 C.2.1 t) : C.2.2.2.countP (isOld ∘ mkAct C) = C.2.2.2.countP (fun t => !decide (t.1 = 2)) := by
  apply List.countP_congr
  intro t ht
  have h3 : t.1 = 0 ∨ t.1 = 1 ∨ t.1 = 2 := by rcases hOk t ht with y | y | y; exact Or.inl y.1; exact Or.inr (Or.inl y.1); exact Or.inr (Or.inr y.1)
  show (!decide (actC t = 3)) = true ↔ (!decide (t.1 = 2)) = true
  unfold actC
  grind

set_option maxHeartbeats 800000 in
set_option maxRecDepth 100000 in
theorem C_patch (g : zG) (h : zH) (x m : Nat) (w : sW) (hRC : RepC h x m w) (pp : Int32) : zM g yX9_patch cX9_patch 3 (some .int) rmX9_patch [.ref x, .int pp] h (cPost x m h (pPatch w pp)) := by
  refine zM_of (by decide) (Nat.le_of_ble_eq_true rfl) ?_
  obtain ⟨col, p, F, Z, k, I, P, q, T, V, hR⟩ := id hRC
  obtain ⟨hw, hz, hS, hq, hr, hX⟩ := id hR
  obtain ⟨S0, S1, S2, S3, S4, S5⟩ := id hS
  obtain ⟨R0, R1, R2, R3⟩ := id hr
  refine z_iload_n dX9_patch_0 rfl rfl ?_
  refine zcx_X9_214 rfl dX9_patch_1 rfl (m_isPatch g h _) rfl rfl ⟨(Nat.le_of_ble_eq_true rfl), (Nat.le_of_ble_eq_true rfl)⟩ ⟨(Nat.le_of_ble_eq_true rfl), (Nat.le_of_ble_eq_true rfl)⟩ (Nat.le_of_ble_eq_true rfl) ?_
  refine z_bif_ne (tgt := 9) dX9_patch_4 rfl (by decide) (fun c4 => ?_) (fun c4 => ?_)
  · skip
    obtain ⟨pn, hpn3, rfl⟩ := nI_of2 (x := pp) (M := 3) (n := 3) (by decide) (by grind) c4.2
    have hpn : pn < 4 := by omega
    have hix : ix (nI pn) = pn := nI_clamp (by omega)
    have hPx := hX.2.2 pn hpn
    have hm20 := hz.2.1
    have hmx := hz.1
    rcases hC : w.2.2.2.2.2.1 with _ | C
    · obtain rfl := coC_n hX.2.1 hC
      first | refine z_aload_n dX9_patch_9 rfl rfl ?_ | refine z_aload_nN dX9_patch_9 rfl rfl ?_
      refine zg_X9_147 rfl dX9_patch_10 rfl S0 rfl ?_
      refine z_ifnonnullN dX9_patch_13 rfl ?_
      refine z_bipush (v := -2) dX9_patch_16 rfl (by decide) ?_
      exact z_iret dX9_patch_18 rfl rfl (cPost_same hRC (patch_none c4 hC)) (Nat.le_of_ble_eq_true rfl) (Nat.le_of_ble_eq_true rfl)
    · obtain ⟨kp, rfl, l, r, s, f0, hk, hf, hcl, hcr, hLn, hLs, hco, hc1, hc2, hc3, hc4⟩ := coC_s hX.2.1 hC
      obtain ⟨oL, cl, hl, hll⟩ := id hcl
      obtain ⟨oR, cr, hr2, hlr⟩ := id hcr
      have hla : C.1.2.length ≤ 20 := oL.2.2.1
      have hlb : C.2.1.2.length ≤ 20 := oR.2.2.1
      have hL : ∀ k t, C.2.2.2[k]? = some t → stpIs f0 k t := fun k t ht => (hLs k t ht).1
      have hOk : ∀ t, t ∈ C.2.2.2 → stpOk C.1 C.2.1 t := fun t ht => by
        obtain ⟨k, hk2⟩ := List.getElem?_of_mem ht
        exact (hLs k t hk2).2
      first | refine z_aload_n dX9_patch_9 rfl rfl ?_ | refine z_aload_nN dX9_patch_9 rfl rfl ?_
      refine zg_X9_147 rfl dX9_patch_10 rfl S0 rfl ?_
      refine z_ifnonnull (tgt := 19) dX9_patch_13 rfl (by decide) ?_
      refine zn_X9_20 rfl dX9_patch_19 rfl (Nat.le_of_ble_eq_true rfl) (Nat.le_of_ble_eq_true rfl) ?_
      refine z_dup dX9_patch_22 rfl rfl ?_
      first | refine z_aload_n dX9_patch_23 rfl rfl ?_ | refine z_aload_nN dX9_patch_23 rfl rfl ?_
      refine zg_X9_147 rfl dX9_patch_24 rfl ((vu_n (by omega)).trans S0) rfl ?_
      refine zc_X9_217 rfl dX9_patch_27 rfl (m_pinit g h kp l r s C f0 hk hf cl cr oL hl hll oR hr2 hlr hLn hL hOk hw) rfl rfl ⟨(Nat.le_of_ble_eq_true rfl), (Nat.le_of_ble_eq_true rfl)⟩ ⟨(Nat.le_of_ble_eq_true rfl), (Nat.le_of_ble_eq_true rfl)⟩ (Nat.le_of_ble_eq_true rfl) (fun v h1 hz1 => ?_)
      obtain ⟨rfl, f, cO, cN, rfl, hpa⟩ := hz1
      first | refine z_astore_n dX9_patch_30 rfl (Nat.le_of_ble_eq_true rfl) ?_ | refine z_astore_nN dX9_patch_30 rfl (Nat.le_of_ble_eq_true rfl) ?_
      first | refine z_aload_n dX9_patch_31 rfl rfl ?_ | refine z_aload_nN dX9_patch_31 rfl rfl ?_
      refine zg_X9_22 rfl dX9_patch_32 rfl ((pUp_out (by omega)).trans ((cUp_out (by omega)).trans ((cUp_out (by omega)).trans S0))) rfl ?_
      refine z_iload_n dX9_patch_35 rfl rfl ?_
      first | refine z_aload_n dX9_patch_36 rfl rfl ?_ | refine z_aload_nN dX9_patch_36 rfl rfl ?_
      refine z_aast dX9_patch_37 rfl ((pUp_out (by omega)).trans ((cUp_out (by omega)).trans ((cUp_out (by omega)).trans S2))) rfl pUp_o rfl (vp_in_nI (by omega) (by decide)) ?_
      rw [nI_clamp (show pn < 2 ^ 31 by omega)]
      first | refine z_aload_n dX9_patch_38 rfl rfl ?_ | refine z_aload_nN dX9_patch_38 rfl rfl ?_
      refine zg_X9_220 rfl dX9_patch_39 rfl ((vu_n (by omega)).trans pUp_o) rfl ?_
      first | refine z_aload_n dX9_patch_42 rfl rfl ?_ | refine z_aload_nN dX9_patch_42 rfl rfl ?_
      refine z_iconst (v := 0) dX9_patch_43 rfl (by decide) ?_
      refine zcx_X9_221 rfl dX9_patch_44 rfl ((vu_n (by omega)).trans pUp_o) (m_actsOf g _ h.1 (h.1 + 2) (h.1 + 6) C.2.2.2.length f ((vu_n (by omega)).trans pUp_o) ((vu_n (by omega)).trans pUp_a) (by omega) 0) rfl rfl ⟨(Nat.le_of_ble_eq_true rfl), (Nat.le_of_ble_eq_true rfl)⟩ ⟨(Nat.le_of_ble_eq_true rfl), (Nat.le_of_ble_eq_true rfl)⟩ (Nat.le_of_ble_eq_true rfl) ?_
      refine z_isub dX9_patch_47 rfl ?_
      have hll2 : (C.2.2.2.map (mkAct C)).length = C.2.2.2.length := List.length_map _
      have hfl : fcn f 0 C.2.2.2.length = C.2.2.2.countP (fun t => decide (actC t = 0)) := fcn_L f 0 _ C.2.2.2 (fun kq t ht => by rw [(hpa kq t (List.getElem?_eq_some_iff.mp ht).1 ht).1, decide_eq_true_eq])
      have hcc : nI C.2.2.2.length - nI (fcn f 0 C.2.2.2.length) = nI ((C.2.2.2.map (mkAct C)).countP isCh) := by
        rw [hfl, List.countP_map]
        have e := List.length_eq_countP_add_countP (fun t => decide (actC t = 0)) (l := C.2.2.2)
        rw [nI_sub (by omega)]
        congr 1
        have e2 : C.2.2.2.countP (isCh ∘ mkAct C) = C.2.2.2.countP (fun t => ¬ (decide (actC t = 0)) = true) := by
          apply List.countP_congr
          intro t _
          show (!decide (actC t = 0)) = true ↔ _
          simp
        rw [e2]
        omega
      have hwF : wfH ((((pUp h.1 (h.1 + 2) (h.1 + 6) C.2.2.2.length f (cUp (h.1 + 2) 9 C.2.2.2.length cO (cUp (h.1 + 6) 9 C.2.2.2.length cN (h.1 + 10, h.2)))) : zH)).1, va_up (((pUp h.1 (h.1 + 2) (h.1 + 6) C.2.2.2.length f (cUp (h.1 + 2) 9 C.2.2.2.length cO (cUp (h.1 + 6) 9 C.2.2.2.length cN (h.1 + 10, h.2)))) : zH)).2 (x + 5) (some (.inl (6, 4, .inr (.inr (.inr (.inr (va_up P pn (some h.1))))))))) := fun z hz2 => by
        have hz2 : h.1 + 10 ≤ z := hz2
        exact (vu_n (by omega)).trans ((pUp_out (by omega)).trans ((cUp_out (by omega)).trans ((cUp_out (by omega)).trans (hw z (by omega)))))
      have hold : ∀ z, z < h.1 → z ≠ x + 5 → ((((pUp h.1 (h.1 + 2) (h.1 + 6) C.2.2.2.length f (cUp (h.1 + 2) 9 C.2.2.2.length cO (cUp (h.1 + 6) 9 C.2.2.2.length cN (h.1 + 10, h.2)))) : zH)).1, va_up (((pUp h.1 (h.1 + 2) (h.1 + 6) C.2.2.2.length f (cUp (h.1 + 2) 9 C.2.2.2.length cO (cUp (h.1 + 6) 9 C.2.2.2.length cN (h.1 + 10, h.2)))) : zH)).2 (x + 5) (some (.inl (6, 4, .inr (.inr (.inr (.inr (va_up P pn (some h.1))))))))).2 z = h.2 z := fun z hz2 hne => (vu_n hne).trans ((pUp_out (by omega)).trans ((cUp_out (by omega)).trans (cUp_out (by omega))))
      have hxF : ext h ((((pUp h.1 (h.1 + 2) (h.1 + 6) C.2.2.2.length f (cUp (h.1 + 2) 9 C.2.2.2.length cO (cUp (h.1 + 6) 9 C.2.2.2.length cN (h.1 + 10, h.2)))) : zH)).1, va_up (((pUp h.1 (h.1 + 2) (h.1 + 6) C.2.2.2.length f (cUp (h.1 + 2) 9 C.2.2.2.length cO (cUp (h.1 + 6) 9 C.2.2.2.length cN (h.1 + 10, h.2)))) : zH)).2 (x + 5) (some (.inl (6, 4, .inr (.inr (.inr (.inr (va_up P pn (some h.1))))))))) col (fun z => if h.1 + 2 ≤ z then 3 else if h.1 ≤ z then 4 + pn else col z) (fun c => c = 4 + pn ∨ c = 1) := ⟨by show h.1 ≤ h.1 + 10; omega, hwF, fun z hz2 => by show (if _ then _ else if _ then _ else _) = _; rw [if_neg (by omega), if_neg (by omega)], fun z hz2 hD => hold z hz2 (fun e => hD (Or.inr (by rw [e]; exact hz.2.2.1 (x + 5) (by omega) (by omega) (by omega))))⟩
      have hAt : ∀ b n c, cAt ((pUp h.1 (h.1 + 2) (h.1 + 6) C.2.2.2.length f (cUp (h.1 + 2) 9 C.2.2.2.length cO (cUp (h.1 + 6) 9 C.2.2.2.length cN (h.1 + 10, h.2)))) : zH) b 9 n c → (b = h.1 + 2 ∨ b = h.1 + 6) → cAt ((((pUp h.1 (h.1 + 2) (h.1 + 6) C.2.2.2.length f (cUp (h.1 + 2) 9 C.2.2.2.length cO (cUp (h.1 + 6) 9 C.2.2.2.length cN (h.1 + 10, h.2)))) : zH)).1, va_up (((pUp h.1 (h.1 + 2) (h.1 + 6) C.2.2.2.length f (cUp (h.1 + 2) 9 C.2.2.2.length cO (cUp (h.1 + 6) 9 C.2.2.2.length cN (h.1 + 10, h.2)))) : zH)).2 (x + 5) (some (.inl (6, 4, .inr (.inr (.inr (.inr (va_up P pn (some h.1))))))))) b 9 n c := fun b n c hb hbb => cAt_fr hb (fun z z1 z2 => vu_n (by omega))
      have hpF : paIs ((((pUp h.1 (h.1 + 2) (h.1 + 6) C.2.2.2.length f (cUp (h.1 + 2) 9 C.2.2.2.length cO (cUp (h.1 + 6) 9 C.2.2.2.length cN (h.1 + 10, h.2)))) : zH)).1, va_up (((pUp h.1 (h.1 + 2) (h.1 + 6) C.2.2.2.length f (cUp (h.1 + 2) 9 C.2.2.2.length cO (cUp (h.1 + 6) 9 C.2.2.2.length cN (h.1 + 10, h.2)))) : zH)).2 (x + 5) (some (.inl (6, 4, .inr (.inr (.inr (.inr (va_up P pn (some h.1))))))))) (fun z => if h.1 + 2 ≤ z then 3 else if h.1 ≤ z then 4 + pn else col z) (4 + pn) h.1 (C.2.2.2.map (mkAct C)) := by
        refine ⟨h.1 + 2, h.1 + 6, f, cO, cN, by rw [hll2]; exact ⟨(vu_n (by omega)).trans pUp_o, (vu_n (by omega)).trans pUp_a, hAt _ _ _ (cAt_fr (cUp_at (h.1 + 2) 9 _ _ _) (fun z z1 z2 => pUp_out (by omega))) (Or.inl rfl), hAt _ _ _ (cAt_fr (cUp_at (h.1 + 6) 9 _ _ _) (fun z z1 z2 => (pUp_out (by omega)).trans (cUp_out (by omega)))) (Or.inr rfl)⟩, by rw [hll2]; omega, fun kq u hu => ?_, ⟨?_, ?_⟩, by show (if _ then _ else if _ then _ else _) = _; rw [if_neg (by omega), if_pos (by omega)], by show (if _ then _ else if _ then _ else _) = _; rw [if_neg (by omega), if_pos (by omega)], fun z z1 z2 => by show (if _ then _ else if _ then _ else _) = _; rw [if_pos (by omega)], fun z z1 z2 => by show (if _ then _ else if _ then _ else _) = _; rw [if_pos (by omega)]⟩
        · rw [List.getElem?_map, Option.map_eq_some_iff] at hu
          obtain ⟨t, ht, rfl⟩ := hu
          obtain ⟨a1, a2, a3⟩ := hpa kq t (List.getElem?_eq_some_iff.mp ht).1 ht
          exact mk_ok oL oR (hOk t (List.mem_of_getElem? ht)) a1 a2 a3
        · rw [List.countP_map, cnt_mk1 hOk]; exact hco.1
        · rw [List.countP_map, cnt_mk2 hOk]; exact hco.2
      have hsF : stAt ((((pUp h.1 (h.1 + 2) (h.1 + 6) C.2.2.2.length f (cUp (h.1 + 2) 9 C.2.2.2.length cO (cUp (h.1 + 6) 9 C.2.2.2.length cN (h.1 + 10, h.2)))) : zH)).1, va_up (((pUp h.1 (h.1 + 2) (h.1 + 6) C.2.2.2.length f (cUp (h.1 + 2) 9 C.2.2.2.length cO (cUp (h.1 + 6) 9 C.2.2.2.length cN (h.1 + 10, h.2)))) : zH)).2 (x + 5) (some (.inl (6, 4, .inr (.inr (.inr (.inr (va_up P pn (some h.1))))))))) x p (some kp) w.2.2.2.1 w.2.2.2.2.1 I (va_up P pn (some h.1)) q T V := ⟨(hold _ (by omega) (by omega)).trans S0, (hold _ (by omega) (by omega)).trans S1, vu_s, (hold _ (by omega) (by omega)).trans S3, alAt_fr S4 (fun z z1 z2 => hold z (by omega) (by omega)), cAt_fr S5 (fun z z1 z2 => hold z (by omega) (by omega))⟩
      rw [hcc]
      exact z_iret dX9_patch_48 rfl rfl (cPost_RC (RC_pat hR hpn hxF hsF (fun i hi hne => vu_n hne) vu_s hpF) (fun z z1 z2 => hold z (by omega) (by omega)) (by rw [patch_some c4 hC, hix])) (Nat.le_of_ble_eq_true rfl) (Nat.le_of_ble_eq_true rfl)
  · skip
    refine z_iconst (v := -1) dX9_patch_7 rfl (by decide) ?_
    exact z_iret dX9_patch_8 rfl rfl (cPost_same hRC (by grind [pPatch])) (Nat.le_of_ble_eq_true rfl) (Nat.le_of_ble_eq_true rfl)

