theorem okF_x {x : UInt64} (h : okF x) : ∃ y, x = FP.f2d y ∧ fpS 100 y ∧ y ≠ FP.Core.fzeroNeg := by
  obtain ⟨y, e, h1, h2⟩ := h
  exact ⟨y, e, fpS_up h1 (by decide), h2⟩
theorem okD_x {x : UInt64} (h : okD x) : fpD 100 x ∧ x ≠ FP.Core.dzeroNeg := ⟨fpD_up h.1 (by decide), h.2⟩

set_option maxHeartbeats 4000000 in
set_option maxRecDepth 100000 in
/-- X3_amountAs -/
theorem m_amountAs (g : zG) (h : zH) (a : Nat) (k : Int32) (n : Nat) (c : Nat → sC) (hA : cAt h a k n c) (hn : n ≤ 40) (i : Nat) (hi : i < n) (s : Int32) (oc : sOk (c i)) (h67 : s = 6 ∨ s = 7 → (c i).1 ≤ 7 ∧ (s = 6 → okF (sReal (c i) 6))) : zX g yX3_amountAs cX3_amountAs 3 (some .long) rmX3_amountAs [.ref a, .int (nI i), .int s] h (.long (sAmt (c i) s)) h := by
  refine zM_of (by decide) (Nat.le_of_ble_eq_true rfl) ?_
  have hA0 := hA
  obtain ⟨A0, A1, A2, A3⟩ := hA0
  refine z_iload_n dX3_amountAs_0 rfl rfl ?_
  refine z_bipush (v := 6) dX3_amountAs_1 rfl (by decide) ?_
  refine z_icmp_ne (tgt := 16) dX3_amountAs_3 rfl (by decide) (fun c3 => ?_) (fun c3 => ?_)
  · skip
    refine z_iload_n dX3_amountAs_16 rfl rfl ?_
    refine z_bipush (v := 7) dX3_amountAs_17 rfl (by decide) ?_
    refine z_icmp_ne (tgt := 34) dX3_amountAs_19 rfl (by decide) (fun c19 => ?_) (fun c19 => ?_)
    · skip
      first | refine z_aload_n dX3_amountAs_34 rfl rfl ?_ | refine z_aload_nN dX3_amountAs_34 rfl rfl ?_
      refine zg_X3_22 rfl dX3_amountAs_35 rfl (by assumption) rfl ?_
      refine z_iload_n dX3_amountAs_38 rfl rfl ?_
      refine z_lald dX3_amountAs_39 rfl (by assumption) (vp_in_nI (by omega) (by omega)) ?_
      exact z_lret dX3_amountAs_40 rfl rfl ⟨by first | rw [c19, sAmt, if_neg (by have := (h67 (Or.inr c19)).1; grind), if_pos (Or.inr rfl)] | (rw [nI_clamp (show i < 2 ^ 31 by omega), sAmt]; have := oc.2.2.2.2.2.2; grind), rfl⟩ (Nat.le_of_ble_eq_true rfl) (Nat.le_of_ble_eq_true rfl)
    · skip
      first | refine z_aload_n dX3_amountAs_22 rfl rfl ?_ | refine z_aload_nN dX3_amountAs_22 rfl rfl ?_
      refine z_iload_n dX3_amountAs_23 rfl rfl ?_
      refine z_iload_n dX3_amountAs_24 rfl rfl ?_
      refine zcx_X3_66 rfl dX3_amountAs_25 rfl (by assumption) (m_realAs g h a k n c hA hn i hi _ oc.1 (h67 (Or.inr c19)).1) rfl rfl ⟨(Nat.le_of_ble_eq_true rfl), (Nat.le_of_ble_eq_true rfl)⟩ ⟨(Nat.le_of_ble_eq_true rfl), (Nat.le_of_ble_eq_true rfl)⟩ (Nat.le_of_ble_eq_true rfl) ?_
      refine zcx_X3_76 rfl dX3_amountAs_28 rfl (m_ofDouble g h _ (okD_x (sReal_ok oc (h67 (Or.inr c19)).1 _))) rfl rfl ⟨(Nat.le_of_ble_eq_true rfl), (Nat.le_of_ble_eq_true rfl)⟩ ⟨(Nat.le_of_ble_eq_true rfl), (Nat.le_of_ble_eq_true rfl)⟩ (Nat.le_of_ble_eq_true rfl) ?_
      refine z_goto (tgt := 40) dX3_amountAs_31 rfl (by decide) ?_
      exact z_lret dX3_amountAs_40 rfl rfl ⟨by first | rw [c19, sAmt, if_neg (by have := (h67 (Or.inr c19)).1; grind), if_pos (Or.inr rfl)] | (rw [nI_clamp (show i < 2 ^ 31 by omega), sAmt]; have := oc.2.2.2.2.2.2; grind), rfl⟩ (Nat.le_of_ble_eq_true rfl) (Nat.le_of_ble_eq_true rfl)
  · skip
    first | refine z_aload_n dX3_amountAs_6 rfl rfl ?_ | refine z_aload_nN dX3_amountAs_6 rfl rfl ?_
    refine z_iload_n dX3_amountAs_7 rfl rfl ?_
    refine z_iload_n dX3_amountAs_8 rfl rfl ?_
    refine zcx_X3_66 rfl dX3_amountAs_9 rfl (by assumption) (m_realAs g h a k n c hA hn i hi _ oc.1 (h67 (Or.inl c3)).1) rfl rfl ⟨(Nat.le_of_ble_eq_true rfl), (Nat.le_of_ble_eq_true rfl)⟩ ⟨(Nat.le_of_ble_eq_true rfl), (Nat.le_of_ble_eq_true rfl)⟩ (Nat.le_of_ble_eq_true rfl) ?_
    refine zcx_X3_70 rfl dX3_amountAs_12 rfl (m_ofFloat g h _ (okF_x (by rw [c3]; exact (h67 (Or.inl c3)).2 c3))) rfl rfl ⟨(Nat.le_of_ble_eq_true rfl), (Nat.le_of_ble_eq_true rfl)⟩ ⟨(Nat.le_of_ble_eq_true rfl), (Nat.le_of_ble_eq_true rfl)⟩ (Nat.le_of_ble_eq_true rfl) ?_
    exact z_lret dX3_amountAs_15 rfl rfl ⟨by rw [c3, sAmt, if_neg (by have := (h67 (Or.inl c3)).1; grind), if_pos (Or.inl rfl)], rfl⟩ (Nat.le_of_ble_eq_true rfl) (Nat.le_of_ble_eq_true rfl)

theorem sumF_nz {L : List sC} (hL : ∀ i, i < L.length → okF (sReal (L.getD i z0) 6)) : ∀ i, i ≤ L.length → i ≤ 20 → sumF (L.take i) ≠ FP.Core.fzeroNeg
  | 0, _, _ => show FP.fconst0 ≠ FP.Core.fzeroNeg by decide
  | i + 1, h1, h2 => by
    have hD : ∀ i, i < L.length → okD (sReal (L.getD i z0) 6) := fun i hi => okF_okD (hL i hi)
    rw [← sumF_s (by omega)]
    have a := sumF_le hD i (by omega) (by omega)
    have b := okF_d2f (hL i (by omega))
    exact nz_fadd a (fpS_up b.1 (by omega)) (by omega) (Or.inr b.2)
theorem sumD_nz {L : List sC} (hL : ∀ i, i < L.length → okD (sReal (L.getD i z0) 7)) : ∀ i, i ≤ L.length → i ≤ 20 → sumD (L.take i) ≠ FP.Core.dzeroNeg
  | 0, _, _ => show FP.dconst0 ≠ FP.Core.dzeroNeg by decide
  | i + 1, h1, h2 => by
    rw [← sumD_s (by omega)]
    have a := sumD_le hL i (by omega) (by omega)
    have b := hL i (by omega)
    exact nz_dadd a (fpD_up b.1 (by omega)) (by omega) (Or.inr b.2)

set_option maxHeartbeats 4000000 in
set_option maxRecDepth 100000 in
/-- X3_total -/
theorem m_total (g : zG) (h : zH) (a : Nat) (k : Int32) (n : Nat) (c : Nat → sC) (hA : cAt h a k n c) (hn : n ≤ 20) (L : List sC) (hL : L.length = n) (hc : ∀ i, i < n → c i = L.getD i z0) (s : Int32) (h6 : s = 6 → ∀ i, i < n → 0 ≤ (c i).1 ∧ (c i).1 ≤ 7 ∧ okF (sReal (c i) 6)) (h7 : s = 7 → ∀ i, i < n → 0 ≤ (c i).1 ∧ (c i).1 ≤ 7 ∧ okD (sReal (c i) 7)) : zX g yX3_total cX3_total 2 (some .long) rmX3_total [.ref a, .int s] h (.long (sSum L s)) h := by
  refine zM_of (by decide) (Nat.le_of_ble_eq_true rfl) ?_
  refine z_iload_n dX3_total_0 rfl rfl ?_
  refine z_bipush (v := 6) dX3_total_1 rfl (by decide) ?_
  refine z_icmp_ne (tgt := 15) dX3_total_3 rfl (by decide) (fun c3 => ?_) (fun c3 => ?_)
  · skip
    refine z_iload_n dX3_total_15 rfl rfl ?_
    refine z_bipush (v := 7) dX3_total_16 rfl (by decide) ?_
    refine z_icmp_ne (tgt := 31) dX3_total_18 rfl (by decide) (fun c18 => ?_) (fun c18 => ?_)
    · skip
      first | refine z_aload_n dX3_total_31 rfl rfl ?_ | refine z_aload_nN dX3_total_31 rfl rfl ?_
      refine zcx_X3_87 rfl dX3_total_32 rfl hA.1 (m_wholeTotal g h a k n c hA hn L hL hc) rfl rfl ⟨(Nat.le_of_ble_eq_true rfl), (Nat.le_of_ble_eq_true rfl)⟩ ⟨(Nat.le_of_ble_eq_true rfl), (Nat.le_of_ble_eq_true rfl)⟩ (Nat.le_of_ble_eq_true rfl) ?_
      exact z_lret dX3_total_35 rfl rfl ⟨by first | rw [c18, sSum_7] | rw [sSum, if_neg c3, if_neg c18], rfl⟩ (Nat.le_of_ble_eq_true rfl) (Nat.le_of_ble_eq_true rfl)
    · skip
      have hD : ∀ i, i < L.length → okD (sReal (L.getD i z0) 7) := fun i hi => by rw [← hc i (by omega)]; exact (h7 c18 i (by omega)).2.2
      have le7 := sumD_le hD L.length (by omega) (by omega)
      have nz7 := sumD_nz hD L.length (by omega) (by omega)
      rw [List.take_length] at le7 nz7
      first | refine z_aload_n dX3_total_21 rfl rfl ?_ | refine z_aload_nN dX3_total_21 rfl rfl ?_
      refine zcx_X3_83 rfl dX3_total_22 rfl hA.1 (m_doubleTotal g h a k n c hA hn L hL hc (h7 c18)) rfl rfl ⟨(Nat.le_of_ble_eq_true rfl), (Nat.le_of_ble_eq_true rfl)⟩ ⟨(Nat.le_of_ble_eq_true rfl), (Nat.le_of_ble_eq_true rfl)⟩ (Nat.le_of_ble_eq_true rfl) ?_
      refine zcx_X3_76 rfl dX3_total_25 rfl (m_ofDouble g h _ ⟨fpD_up le7 (by omega), nz7⟩) rfl rfl ⟨(Nat.le_of_ble_eq_true rfl), (Nat.le_of_ble_eq_true rfl)⟩ ⟨(Nat.le_of_ble_eq_true rfl), (Nat.le_of_ble_eq_true rfl)⟩ (Nat.le_of_ble_eq_true rfl) ?_
      refine z_goto (tgt := 35) dX3_total_28 rfl (by decide) ?_
      exact z_lret dX3_total_35 rfl rfl ⟨by first | rw [c18, sSum_7] | rw [sSum, if_neg c3, if_neg c18], rfl⟩ (Nat.le_of_ble_eq_true rfl) (Nat.le_of_ble_eq_true rfl)
  · skip
    have hF : ∀ i, i < L.length → okF (sReal (L.getD i z0) 6) := fun i hi => by rw [← hc i (by omega)]; exact (h6 c3 i (by omega)).2.2
    have le6 := sumF_le (fun i hi => okF_okD (hF i hi)) L.length (by omega) (by omega)
    have nz6 := sumF_nz hF L.length (by omega) (by omega)
    rw [List.take_length] at le6 nz6
    first | refine z_aload_n dX3_total_6 rfl rfl ?_ | refine z_aload_nN dX3_total_6 rfl rfl ?_
    refine zcx_X3_79 rfl dX3_total_7 rfl hA.1 (m_floatTotal g h a k n c hA hn L hL hc (fun i hi => ⟨(h6 c3 i hi).1, (h6 c3 i hi).2.1, okF_okD (h6 c3 i hi).2.2⟩)) rfl rfl ⟨(Nat.le_of_ble_eq_true rfl), (Nat.le_of_ble_eq_true rfl)⟩ ⟨(Nat.le_of_ble_eq_true rfl), (Nat.le_of_ble_eq_true rfl)⟩ (Nat.le_of_ble_eq_true rfl) ?_
    refine z_f2d dX3_total_10 rfl (fpD_n (fpD_f2d le6 (by omega))) ?_
    refine zcx_X3_70 rfl dX3_total_11 rfl (m_ofFloat g h _ ⟨_, rfl, fpS_up le6 (by omega), nz6⟩) rfl rfl ⟨(Nat.le_of_ble_eq_true rfl), (Nat.le_of_ble_eq_true rfl)⟩ ⟨(Nat.le_of_ble_eq_true rfl), (Nat.le_of_ble_eq_true rfl)⟩ (Nat.le_of_ble_eq_true rfl) ?_
    exact z_lret dX3_total_14 rfl rfl ⟨by rw [c3, sSum_6], rfl⟩ (Nat.le_of_ble_eq_true rfl) (Nat.le_of_ble_eq_true rfl)

theorem z_aaldn {g : zG} {Y : zY} {Q : Array Value → List Frame → State → State → Prop} {pc pc0 : Nat} {lv : List (Nat × Value)} {st : List Value} {h : zH} {ce sl : Nat} {a n t : Nat} {f : Nat → Option Nat} {i : Int32} {ty : FieldType} (hd : decode Y.2.1 pc = .ok (.aaload, 1)) (hp : pc0 = pc) (ho : h.2 a = some (.inl (t, n, .inr (.inr (.inr (.inr f)))))) (ht : (zTys g)[t]? = some (g.2.2.1 t, ty)) (hrt : ty.isReference = true) (hi : vp_in i n) (hf : f i.toNatClampNeg = none) (kn : zZ g Y Q (pc + 1) lv (.null :: st) h ce sl) : zZ g Y Q pc0 lv (.int i :: .ref a :: st) h ce sl := z_aaldc hd hp ho ht hrt hi (fun _ => kn) (fun b e => absurd (hf.symm.trans e) (by simp))
def rCel (p : Nat) (F : Nat → Option Nat) (Z : Nat → Int32) (j : Nat) : zOb := if j = 0 then .inr (5, [.ref (p + 1), .ref (p + 2)]) else if j = 1 then .inl (4, 8, .inr (.inr (.inr (.inr F)))) else .inl (3, 8, .inl Z)
def rAt (h : zH) (p : Nat) (F : Nat → Option Nat) (Z : Nat → Int32) : Prop := h.2 p = some (.inr (5, [.ref (p + 1), .ref (p + 2)])) ∧ h.2 (p + 1) = some (.inl (4, 8, .inr (.inr (.inr (.inr F))))) ∧ h.2 (p + 2) = some (.inl (3, 8, .inl Z))
def rUp (p : Nat) (F : Nat → Option Nat) (Z : Nat → Int32) (h : zH) : zH := (h.1, fun q => if p ≤ q ∧ q < p + 3 then some (rCel p F Z (q - p)) else h.2 q)
theorem rUp_at (p : Nat) (F : Nat → Option Nat) (Z : Nat → Int32) (h : zH) : rAt (rUp p F Z h) p F Z := by
  refine ⟨?_, ?_, ?_⟩ <;> simp only [rUp] <;> rw [if_pos (by omega)]
  · rw [Nat.sub_self]; rfl
  · rw [Nat.add_sub_cancel_left]; rfl
  · rw [Nat.add_sub_cancel_left]; rfl
theorem rUp_out {p : Nat} {F : Nat → Option Nat} {Z : Nat → Int32} {h : zH} {q : Nat} (hq : q < p ∨ p + 3 ≤ q) : (rUp p F Z h).2 q = h.2 q := by
  simp only [rUp]; rw [if_neg (by omega)]
theorem rUp_up (p : Nat) (F F' : Nat → Option Nat) (Z Z' : Nat → Int32) (h : zH) : rUp p F Z (rUp p F' Z' h) = rUp p F Z h := by
  refine Prod.ext rfl (funext fun q => ?_)
  simp only [rUp]
  split <;> rfl
theorem rAt_fr {h h1 : zH} {p : Nat} {F : Nat → Option Nat} {Z : Nat → Int32} (hA : rAt h p F Z) (hf : ∀ q, p ≤ q → q < p + 3 → h1.2 q = h.2 q) : rAt h1 p F Z := by
  obtain ⟨A0, A1, A2⟩ := hA
  exact ⟨by rw [hf p (by omega) (by omega)]; exact A0, by rw [hf _ (by omega) (by omega)]; exact A1, by rw [hf _ (by omega) (by omega)]; exact A2⟩
theorem rUp_st {h : zH} {p : Nat} {F F' : Nat → Option Nat} {Z Z' : Nat → Int32} (hA : rAt h p F Z) : (h.1, va_up (va_up h.2 (p + 1) (some (.inl (4, 8, .inr (.inr (.inr (.inr F'))))))) (p + 2) (some (.inl (3, 8, .inl Z')))) = rUp p F' Z' h := by
  refine Prod.ext rfl (funext fun q => ?_)
  simp only [rUp]
  by_cases hq : p ≤ q ∧ q < p + 3
  · rw [if_pos hq]
    rcases (show q = p ∨ q = p + 1 ∨ q = p + 2 by omega) with e | e | e <;> subst e
    · rw [vu_n (by omega), vu_n (by omega), hA.1, Nat.sub_self]; rfl
    · rw [vu_n (by omega), vu_s, Nat.add_sub_cancel_left]; rfl
    · rw [vu_s, Nat.add_sub_cancel_left]; rfl
  · rw [if_neg hq, vu_n (by omega), vu_n (by omega)]
theorem rUp_new (a : Nat) (f : Nat → Option zOb) (F1 I B F2 : Option zOb) (hI : I = some (.inl (4, 8, .inr (.inr (.inr (.inr (fun _ => none))))))) (hB : B = some (.inl (3, 8, .inl (fun _ => 0)))) (hF : F2 = some (.inr (5, [.ref (a + 1), .ref (a + 2)]))) : ((a + 1 + 1 + 1, va_up (va_up (va_up (va_up f (a + 1) I) a F1) (a + 1 + 1) B) a F2) : zH) = rUp a (fun _ => none) (fun _ => 0) (a + 3, f) := by
  subst hI hB hF
  refine Prod.ext rfl (funext fun q => ?_)
  simp only [rUp]
  by_cases hq : a ≤ q ∧ q < a + 3
  · rw [if_pos hq]
    rcases (show q = a ∨ q = a + 1 ∨ q = a + 2 by omega) with e | e | e <;> subst e
    · rw [vu_s, Nat.sub_self]; rfl
    · rw [vu_n (by omega), vu_n (by omega), vu_n (by omega), vu_s, Nat.add_sub_cancel_left]; rfl
    · rw [vu_n (by omega), vu_s, Nat.add_sub_cancel_left]; rfl
  · rw [if_neg hq, vu_n (by omega), vu_n (by omega), vu_n (by omega), vu_n (by omega)]

set_option maxHeartbeats 800000 in
set_option maxRecDepth 100000 in
theorem m_rinit (g : zG) (f : Nat → Option zOb) (a : Nat) (fs : List Value) (hf : f a = some (.inr (5, fs))) (hfs : fs.length = 2) : zXv g yX8_init cX8_init 1 none rmX8_init [.ref a] (a + 1, f) (rUp a (fun _ => none) (fun _ => 0) (a + 3, f)) := by
  refine zM_of (by decide) (Nat.le_of_ble_eq_true rfl) ?_
  obtain ⟨x0, x1, rfl⟩ : ∃ x0 x1, fs = [x0, x1] := by
    match fs, hfs with
    | [x0, x1], _ => exact ⟨x0, x1, rfl⟩
  first | refine z_aload_n dX8_init_0 rfl rfl ?_ | refine z_aload_nN dX8_init_0 rfl rfl ?_
  refine zc_X8_3 rfl dX8_init_1 rfl (Nat.le_of_ble_eq_true rfl) (Nat.le_of_ble_eq_true rfl) ?_
  first | refine z_aload_n dX8_init_4 rfl rfl ?_ | refine z_aload_nN dX8_init_4 rfl rfl ?_
  refine z_bipush (v := 8) dX8_init_5 rfl (by decide) ?_
  refine za_X8_9 (N := 8) rfl dX8_init_7 rfl (by decide) rfl (by decide) (by show _ ≤ 2; omega) (by show _ ≤ 16; omega) ?_
  refine zp_X8_11 rfl rfl dX8_init_10 rfl ((vu_n (by omega)).trans hf) rfl rfl (Nat.le_of_ble_eq_true rfl) ?_
  first | refine z_aload_n dX8_init_13 rfl rfl ?_ | refine z_aload_nN dX8_init_13 rfl rfl ?_
  refine z_bipush (v := 8) dX8_init_14 rfl (by decide) ?_
  refine z_newz (N := 8) dX8_init_16 rfl (by decide) rfl (by decide) (by show _ ≤ 2; omega) (by show _ ≤ 16; omega) ?_
  refine zp_X8_17 rfl rfl dX8_init_18 rfl ((vu_n (by omega)).trans vu_s) rfl rfl (Nat.le_of_ble_eq_true rfl) ?_
  exact z_vret dX8_init_21 rfl rfl ⟨rfl, rUp_new a f _ _ _ _ rfl rfl rfl⟩ (Nat.le_of_ble_eq_true rfl) (Nat.le_of_ble_eq_true rfl)

set_option maxHeartbeats 4000000 in
set_option maxRecDepth 100000 in
/-- X8_hold -/
theorem m_hold (g : zG) (h : zH) (p : Nat) (F : Nat → Option Nat) (Z : Nat → Int32) (hP : rAt h p F Z) (r : Nat) (hr : r < 8) (v : Nat) (vs : List Value) (hv : h.2 v = some (.inr (2, vs))) : zXv g yX8_hold cX8_hold 3 none rmX8_hold [.ref p, .int (nI r), .ref v] h (rUp p (va_up F r (some v)) (upd Z r 0) h) := by
  refine zM_of (by decide) (Nat.le_of_ble_eq_true rfl) ?_
  have hP0 := hP
  obtain ⟨P0, P1, P2⟩ := hP0
  first | refine z_aload_n dX8_hold_0 rfl rfl ?_ | refine z_aload_nN dX8_hold_0 rfl rfl ?_
  refine zg_X8_11 rfl dX8_hold_1 rfl (by assumption) rfl ?_
  refine z_iload_n dX8_hold_4 rfl rfl ?_
  first | refine z_aload_n dX8_hold_5 rfl rfl ?_ | refine z_aload_nN dX8_hold_5 rfl rfl ?_
  refine z_aast dX8_hold_6 rfl (by assumption) rfl hv rfl (vp_in_nI (by omega) (by decide)) ?_
  first | refine z_aload_n dX8_hold_7 rfl rfl ?_ | refine z_aload_nN dX8_hold_7 rfl rfl ?_
  refine zg_X8_17 rfl dX8_hold_8 rfl ((vu_n (by omega)).trans P0) rfl ?_
  refine z_iload_n dX8_hold_11 rfl rfl ?_
  refine z_iconst (v := 0) dX8_hold_12 rfl (by decide) ?_
  refine z_zast dX8_hold_13 rfl ((vu_n (by omega)).trans P2) (vp_in_nI (by omega) (by decide)) ?_
  exact z_vret dX8_hold_14 rfl rfl ⟨rfl, by rw [nI_clamp (show r < 2 ^ 31 by omega), show vp_nar .boolean (0 : Int32) = 0 from by decide]; exact rUp_st hP⟩ (Nat.le_of_ble_eq_true rfl) (Nat.le_of_ble_eq_true rfl)

set_option maxHeartbeats 4000000 in
set_option maxRecDepth 100000 in
/-- X8_hold -/
theorem m_holdN (g : zG) (h : zH) (p : Nat) (F : Nat → Option Nat) (Z : Nat → Int32) (hP : rAt h p F Z) (r : Nat) (hr : r < 8) : zXv g yX8_hold cX8_hold 3 none rmX8_hold [.ref p, .int (nI r), .null] h (rUp p (va_up F r none) (upd Z r 0) h) := by
  refine zM_of (by decide) (Nat.le_of_ble_eq_true rfl) ?_
  have hP0 := hP
  obtain ⟨P0, P1, P2⟩ := hP0
  first | refine z_aload_n dX8_hold_0 rfl rfl ?_ | refine z_aload_nN dX8_hold_0 rfl rfl ?_
  refine zg_X8_11 rfl dX8_hold_1 rfl (by assumption) rfl ?_
  refine z_iload_n dX8_hold_4 rfl rfl ?_
  first | refine z_aload_n dX8_hold_5 rfl rfl ?_ | refine z_aload_nN dX8_hold_5 rfl rfl ?_
  refine z_aastN dX8_hold_6 rfl (by assumption) rfl (vp_in_nI (by omega) (by decide)) ?_
  first | refine z_aload_n dX8_hold_7 rfl rfl ?_ | refine z_aload_nN dX8_hold_7 rfl rfl ?_
  refine zg_X8_17 rfl dX8_hold_8 rfl ((vu_n (by omega)).trans P0) rfl ?_
  refine z_iload_n dX8_hold_11 rfl rfl ?_
  refine z_iconst (v := 0) dX8_hold_12 rfl (by decide) ?_
  refine z_zast dX8_hold_13 rfl ((vu_n (by omega)).trans P2) (vp_in_nI (by omega) (by decide)) ?_
  exact z_vret dX8_hold_14 rfl rfl ⟨rfl, by rw [nI_clamp (show r < 2 ^ 31 by omega), show vp_nar .boolean (0 : Int32) = 0 from by decide]; exact rUp_st hP⟩ (Nat.le_of_ble_eq_true rfl) (Nat.le_of_ble_eq_true rfl)

set_option maxHeartbeats 4000000 in
set_option maxRecDepth 100000 in
/-- X8_holdSingle -/
theorem m_holdSingle (g : zG) (h : zH) (p : Nat) (F : Nat → Option Nat) (Z : Nat → Int32) (hP : rAt h p F Z) (r : Nat) (hr : r < 8) : zXv g yX8_holdSingle cX8_holdSingle 2 none rmX8_holdSingle [.ref p, .int (nI r)] h (rUp p (va_up F r none) (upd Z r 1) h) := by
  refine zM_of (by decide) (Nat.le_of_ble_eq_true rfl) ?_
  have hP0 := hP
  obtain ⟨P0, P1, P2⟩ := hP0
  first | refine z_aload_n dX8_holdSingle_0 rfl rfl ?_ | refine z_aload_nN dX8_holdSingle_0 rfl rfl ?_
  refine zg_X8_11 rfl dX8_holdSingle_1 rfl (by assumption) rfl ?_
  refine z_iload_n dX8_holdSingle_4 rfl rfl ?_
  refine z_null dX8_holdSingle_5 rfl ?_
  refine z_aastN dX8_holdSingle_6 rfl (by assumption) rfl (vp_in_nI (by omega) (by decide)) ?_
  first | refine z_aload_n dX8_holdSingle_7 rfl rfl ?_ | refine z_aload_nN dX8_holdSingle_7 rfl rfl ?_
  refine zg_X8_17 rfl dX8_holdSingle_8 rfl ((vu_n (by omega)).trans P0) rfl ?_
  refine z_iload_n dX8_holdSingle_11 rfl rfl ?_
  refine z_iconst (v := 1) dX8_holdSingle_12 rfl (by decide) ?_
  refine z_zast dX8_holdSingle_13 rfl ((vu_n (by omega)).trans P2) (vp_in_nI (by omega) (by decide)) ?_
  exact z_vret dX8_holdSingle_14 rfl rfl ⟨rfl, by rw [nI_clamp (show r < 2 ^ 31 by omega), show vp_nar .boolean (1 : Int32) = 1 from by decide]; exact rUp_st hP⟩ (Nat.le_of_ble_eq_true rfl) (Nat.le_of_ble_eq_true rfl)

set_option maxHeartbeats 4000000 in
set_option maxRecDepth 100000 in
/-- X8_holdSame -/
theorem m_holdSame (g : zG) (h : zH) (p : Nat) (F : Nat → Option Nat) (Z : Nat → Int32) (hP : rAt h p F Z) (r : Nat) (hr : r < 8) (s : Nat) (hs : s < 8) (hZ : Z s = 0 ∨ Z s = 1) (v : Nat) (vs : List Value) (hF : F s = some v) (hv : h.2 v = some (.inr (2, vs))) : zXv g yX8_holdSame cX8_holdSame 3 none rmX8_holdSame [.ref p, .int (nI r), .int (nI s)] h (rUp p (va_up F r (some v)) (upd Z r (Z s)) h) := by
  refine zM_of (by decide) (Nat.le_of_ble_eq_true rfl) ?_
  have hP0 := hP
  obtain ⟨P0, P1, P2⟩ := hP0
  first | refine z_aload_n dX8_holdSame_0 rfl rfl ?_ | refine z_aload_nN dX8_holdSame_0 rfl rfl ?_
  refine zg_X8_11 rfl dX8_holdSame_1 rfl (by assumption) rfl ?_
  refine z_iload_n dX8_holdSame_4 rfl rfl ?_
  first | refine z_aload_n dX8_holdSame_5 rfl rfl ?_ | refine z_aload_nN dX8_holdSame_5 rfl rfl ?_
  refine zg_X8_11 rfl dX8_holdSame_6 rfl (by assumption) rfl ?_
  refine z_iload_n dX8_holdSame_9 rfl rfl ?_
  refine z_aalds dX8_holdSame_10 rfl (by assumption) rfl rfl (vp_in_nI (by omega) (by decide)) (by rw [nI_clamp (show s < 2 ^ 31 by omega)]; exact hF) ?_
  refine z_aast dX8_holdSame_11 rfl (by assumption) rfl hv rfl (vp_in_nI (by omega) (by decide)) ?_
  first | refine z_aload_n dX8_holdSame_12 rfl rfl ?_ | refine z_aload_nN dX8_holdSame_12 rfl rfl ?_
  refine zg_X8_17 rfl dX8_holdSame_13 rfl ((vu_n (by omega)).trans P0) rfl ?_
  refine z_iload_n dX8_holdSame_16 rfl rfl ?_
  first | refine z_aload_n dX8_holdSame_17 rfl rfl ?_ | refine z_aload_nN dX8_holdSame_17 rfl rfl ?_
  refine zg_X8_17 rfl dX8_holdSame_18 rfl ((vu_n (by omega)).trans P0) rfl ?_
  refine z_iload_n dX8_holdSame_21 rfl rfl ?_
  refine z_zald dX8_holdSame_22 rfl ((vu_n (by omega)).trans P2) (vp_in_nI (by omega) (by decide)) ?_
  rw [nI_clamp (show s < 2 ^ 31 by omega)]
  refine z_zast dX8_holdSame_23 rfl ((vu_n (by omega)).trans P2) (vp_in_nI (by omega) (by decide)) ?_
  exact z_vret dX8_holdSame_24 rfl rfl ⟨rfl, by rw [nI_clamp (show r < 2 ^ 31 by omega), show vp_nar .boolean (Z s) = Z s from by rcases hZ with q | q <;> rw [q] <;> decide]; exact rUp_st hP⟩ (Nat.le_of_ble_eq_true rfl) (Nat.le_of_ble_eq_true rfl)

set_option maxHeartbeats 4000000 in
set_option maxRecDepth 100000 in
/-- X8_holdSame -/
theorem m_holdSameN (g : zG) (h : zH) (p : Nat) (F : Nat → Option Nat) (Z : Nat → Int32) (hP : rAt h p F Z) (r : Nat) (hr : r < 8) (s : Nat) (hs : s < 8) (hZ : Z s = 0 ∨ Z s = 1) (hF : F s = none) : zXv g yX8_holdSame cX8_holdSame 3 none rmX8_holdSame [.ref p, .int (nI r), .int (nI s)] h (rUp p (va_up F r none) (upd Z r (Z s)) h) := by
  refine zM_of (by decide) (Nat.le_of_ble_eq_true rfl) ?_
  have hP0 := hP
  obtain ⟨P0, P1, P2⟩ := hP0
  first | refine z_aload_n dX8_holdSame_0 rfl rfl ?_ | refine z_aload_nN dX8_holdSame_0 rfl rfl ?_
  refine zg_X8_11 rfl dX8_holdSame_1 rfl (by assumption) rfl ?_
  refine z_iload_n dX8_holdSame_4 rfl rfl ?_
  first | refine z_aload_n dX8_holdSame_5 rfl rfl ?_ | refine z_aload_nN dX8_holdSame_5 rfl rfl ?_
  refine zg_X8_11 rfl dX8_holdSame_6 rfl (by assumption) rfl ?_
  refine z_iload_n dX8_holdSame_9 rfl rfl ?_
  refine z_aaldn dX8_holdSame_10 rfl (by assumption) rfl rfl (vp_in_nI (by omega) (by decide)) (by rw [nI_clamp (show s < 2 ^ 31 by omega)]; exact hF) ?_
  refine z_aastN dX8_holdSame_11 rfl (by assumption) rfl (vp_in_nI (by omega) (by decide)) ?_
  first | refine z_aload_n dX8_holdSame_12 rfl rfl ?_ | refine z_aload_nN dX8_holdSame_12 rfl rfl ?_
  refine zg_X8_17 rfl dX8_holdSame_13 rfl ((vu_n (by omega)).trans P0) rfl ?_
  refine z_iload_n dX8_holdSame_16 rfl rfl ?_
  first | refine z_aload_n dX8_holdSame_17 rfl rfl ?_ | refine z_aload_nN dX8_holdSame_17 rfl rfl ?_
  refine zg_X8_17 rfl dX8_holdSame_18 rfl ((vu_n (by omega)).trans P0) rfl ?_
  refine z_iload_n dX8_holdSame_21 rfl rfl ?_
  refine z_zald dX8_holdSame_22 rfl ((vu_n (by omega)).trans P2) (vp_in_nI (by omega) (by decide)) ?_
  rw [nI_clamp (show s < 2 ^ 31 by omega)]
  refine z_zast dX8_holdSame_23 rfl ((vu_n (by omega)).trans P2) (vp_in_nI (by omega) (by decide)) ?_
  exact z_vret dX8_holdSame_24 rfl rfl ⟨rfl, by rw [nI_clamp (show r < 2 ^ 31 by omega), show vp_nar .boolean (Z s) = Z s from by rcases hZ with q | q <;> rw [q] <;> decide]; exact rUp_st hP⟩ (Nat.le_of_ble_eq_true rfl) (Nat.le_of_ble_eq_true rfl)

set_option maxHeartbeats 4000000 in
set_option maxRecDepth 100000 in
/-- X8_faultWithoutArray -/
theorem m_faultW (g : zG) (h : zH) (p : Nat) (F : Nat → Option Nat) (Z : Nat → Int32) (hP : rAt h p F Z) (r : Nat) (hr : r < 8) : zX g yX8_faultWithoutArray cX8_faultWithoutArray 2 (some .int) rmX8_faultWithoutArray [.ref p, .int (nI r)] h (.int (if Z r = 0 then 1 else 2)) h := by
  refine zM_of (by decide) (Nat.le_of_ble_eq_true rfl) ?_
  have hP0 := hP
  obtain ⟨P0, P1, P2⟩ := hP0
  first | refine z_aload_n dX8_faultWithoutArray_0 rfl rfl ?_ | refine z_aload_nN dX8_faultWithoutArray_0 rfl rfl ?_
  refine zg_X8_17 rfl dX8_faultWithoutArray_1 rfl (by assumption) rfl ?_
  refine z_iload_n dX8_faultWithoutArray_4 rfl rfl ?_
  refine z_zald dX8_faultWithoutArray_5 rfl (by assumption) (vp_in_nI (by omega) (by decide)) ?_
  rw [nI_clamp (show r < 2 ^ 31 by omega)]
  refine z_if_eq (tgt := 13) dX8_faultWithoutArray_6 rfl (by decide) (fun c6 => ?_) (fun c6 => ?_)
  · skip
    refine z_iconst (v := 1) dX8_faultWithoutArray_13 rfl (by decide) ?_
    exact z_iret dX8_faultWithoutArray_14 rfl rfl ⟨by grind, rfl⟩ (Nat.le_of_ble_eq_true rfl) (Nat.le_of_ble_eq_true rfl)
  · skip
    refine z_iconst (v := 2) dX8_faultWithoutArray_9 rfl (by decide) ?_
    refine z_goto (tgt := 14) dX8_faultWithoutArray_10 rfl (by decide) ?_
    exact z_iret dX8_faultWithoutArray_14 rfl rfl ⟨by grind, rfl⟩ (Nat.le_of_ble_eq_true rfl) (Nat.le_of_ble_eq_true rfl)

def lhF (F : Nat → Option Nat) (v : Nat) : Nat → Nat → Nat
  | 0, i => i
  | n + 1, i => if F i = some v then i else lhF F v n (i + 1)

abbrev YX8_leastHolder : zY := (yX8_leastHolder.cls, cX8_leastHolder, 3, (some .int), rmX8_leastHolder, yX8_leastHolder.name, fun _ _ => True)
set_option maxHeartbeats 800000 in
set_option maxRecDepth 100000 in
theorem m_leastHolder_L (g : zG) (h : zH) (p : Nat) (F : Nat → Option Nat) (Z : Nat → Int32) (hP : rAt h p F Z) (v : Nat) : ∀ (n : Nat)  (i : Nat), i + n = 7 → lhF F v 7 0 = lhF F v n i → zZ g YX8_leastHolder (zE g (fun w h1 => w = some (.int (nI (lhF F v 7 0))) ∧ h1 = h) 0 0) 2 [(2, .int (nI i)), (0, .ref p), (1, .ref v)] [] h 0 0 := by
  intro n
  induction n with
  | zero =>
    intro i hin he
    refine z_iload_n dX8_leastHolder_2 rfl rfl ?_
    refine z_bipush (v := 7) dX8_leastHolder_3 rfl (by decide) ?_
    refine z_icmp_ge (tgt := 24) dX8_leastHolder_5 rfl (by decide) (fun c5 => ?_) (fun c5 => absurd c5 (fun z => z (nI_le (a := 7) (by omega) (by omega))))
    refine z_iload_n dX8_leastHolder_24 rfl rfl ?_
    exact z_iret dX8_leastHolder_25 rfl rfl ⟨by rw [he]; rfl, rfl⟩ (Nat.le_of_ble_eq_true rfl) (Nat.le_of_ble_eq_true rfl)
  | succ n ih =>
    intro i hin he
    refine z_iload_n dX8_leastHolder_2 rfl rfl ?_
    refine z_bipush (v := 7) dX8_leastHolder_3 rfl (by decide) ?_
    refine z_icmp_ge (tgt := 24) dX8_leastHolder_5 rfl (by decide) (fun c5 => absurd c5 (nI_ge (b := 7) (by omega) (by decide))) (fun c5 => ?_)
    first | refine z_aload_n dX8_leastHolder_8 rfl rfl ?_ | refine z_aload_nN dX8_leastHolder_8 rfl rfl ?_
    refine zg_X8_11 rfl dX8_leastHolder_9 rfl hP.1 rfl ?_
    refine z_iload_n dX8_leastHolder_12 rfl rfl ?_
    refine z_aald dX8_leastHolder_13 rfl hP.2.1 rfl rfl (vp_in_nI (by omega) (by decide)) ?_
    rw [nI_clamp (show i < 2 ^ 31 by omega)]
    first | refine z_aload_n dX8_leastHolder_14 rfl rfl ?_ | refine z_aload_nN dX8_leastHolder_14 rfl rfl ?_
    refine z_acmp_eq (rx := F i) (ry := some v) (tgt := 24) dX8_leastHolder_15 rfl (by decide) (fun c15 => ?_) (fun c15 => ?_)
    · skip
      refine z_iload_n dX8_leastHolder_24 rfl rfl ?_
      exact z_iret dX8_leastHolder_25 rfl rfl ⟨by rw [he, lhF, if_pos c15], rfl⟩ (Nat.le_of_ble_eq_true rfl) (Nat.le_of_ble_eq_true rfl)
    · skip
      refine z_iinc (v := nI (i + 1)) dX8_leastHolder_18 rfl rfl (nI_inc i) (Nat.le_of_ble_eq_true rfl) ?_
      refine z_goto (tgt := 2) dX8_leastHolder_21 rfl (by decide) ?_
      refine z_lv [(2, .int (nI (i + 1))), (0, .ref p), (1, .ref v)] ⟨rfl, rfl, rfl, trivial⟩ ?_
      exact ih (i + 1) (by omega) (by rw [he, lhF, if_neg c15])

set_option maxHeartbeats 4000000 in
set_option maxRecDepth 100000 in
/-- X8_leastHolder -/
theorem m_leastHolder (g : zG) (h : zH) (p : Nat) (F : Nat → Option Nat) (Z : Nat → Int32) (hP : rAt h p F Z) (v : Nat) : zX g yX8_leastHolder cX8_leastHolder 3 (some .int) rmX8_leastHolder [.ref p, .ref v] h (.int (nI (lhF F v 7 0))) h := by
  refine zM_of (by decide) (Nat.le_of_ble_eq_true rfl) ?_
  refine z_iconst (v := 0) dX8_leastHolder_0 rfl (by decide) ?_
  refine z_istore_n dX8_leastHolder_1 rfl (Nat.le_of_ble_eq_true rfl) ?_
  refine z_lv [(2, .int (nI 0)), (0, .ref p), (1, .ref v)] ⟨rfl, rfl, rfl, trivial⟩ ?_
  exact m_leastHolder_L g h p F Z hP v 7 0 (by omega) rfl

def isF (F : Nat → Option Nat) (r : Nat) : Prop := ∃ v, F r = some v ∧ lhF F v 7 0 = r
theorem lhF_le (F : Nat → Option Nat) (v : Nat) : ∀ n i, lhF F v n i ≤ i + n
  | 0, i => Nat.le_refl _
  | n + 1, i => by
    unfold lhF
    split
    · omega
    · have := lhF_le F v n (i + 1); omega

set_option maxHeartbeats 4000000 in
set_option maxRecDepth 100000 in
/-- X8_isFirstHolder -/
theorem m_isFirst (g : zG) (h : zH) (p : Nat) (F : Nat → Option Nat) (Z : Nat → Int32) (hP : rAt h p F Z) (r : Nat) (hr : r < 8) (v : Nat) (hF : F r = some v) : zX g yX8_isFirstHolder cX8_isFirstHolder 2 (some .boolean) rmX8_isFirstHolder [.ref p, .int (nI r)] h (.int (if lhF F v 7 0 = r then 1 else 0)) h := by
  refine zM_of (by decide) (Nat.le_of_ble_eq_true rfl) ?_
  have hP0 := hP
  obtain ⟨P0, P1, P2⟩ := hP0
  first | refine z_aload_n dX8_isFirstHolder_0 rfl rfl ?_ | refine z_aload_nN dX8_isFirstHolder_0 rfl rfl ?_
  refine zg_X8_11 rfl dX8_isFirstHolder_1 rfl (by assumption) rfl ?_
  refine z_iload_n dX8_isFirstHolder_4 rfl rfl ?_
  refine z_aalds dX8_isFirstHolder_5 rfl (by assumption) rfl rfl (vp_in_nI (by omega) (by decide)) (by rw [nI_clamp (show r < 2 ^ 31 by omega)]; exact hF) ?_
  refine z_ifnull dX8_isFirstHolder_6 rfl ?_
  first | refine z_aload_n dX8_isFirstHolder_9 rfl rfl ?_ | refine z_aload_nN dX8_isFirstHolder_9 rfl rfl ?_
  first | refine z_aload_n dX8_isFirstHolder_10 rfl rfl ?_ | refine z_aload_nN dX8_isFirstHolder_10 rfl rfl ?_
  refine zg_X8_11 rfl dX8_isFirstHolder_11 rfl (by assumption) rfl ?_
  refine z_iload_n dX8_isFirstHolder_14 rfl rfl ?_
  refine z_aalds dX8_isFirstHolder_15 rfl (by assumption) rfl rfl (vp_in_nI (by omega) (by decide)) (by rw [nI_clamp (show r < 2 ^ 31 by omega)]; exact hF) ?_
  refine zcx_X8_21 rfl dX8_isFirstHolder_16 rfl P0 (m_leastHolder g h p F Z hP v) rfl rfl ⟨(Nat.le_of_ble_eq_true rfl), (Nat.le_of_ble_eq_true rfl)⟩ ⟨(Nat.le_of_ble_eq_true rfl), (Nat.le_of_ble_eq_true rfl)⟩ (Nat.le_of_ble_eq_true rfl) ?_
  refine z_iload_n dX8_isFirstHolder_19 rfl rfl ?_
  refine z_icmp_ne (tgt := 27) dX8_isFirstHolder_20 rfl (by decide) (fun c20 => ?_) (fun c20 => ?_)
  · skip
    refine z_iconst (v := 0) dX8_isFirstHolder_27 rfl (by decide) ?_
    exact z_zret dX8_isFirstHolder_28 rfl rfl rfl ⟨by have := lhF_le F v 7 0; have z := nI_eq (a := lhF F v 7 0) (b := r) (by omega) (by omega); grind, rfl⟩ (Nat.le_of_ble_eq_true rfl) (Nat.le_of_ble_eq_true rfl)
  · skip
    refine z_iconst (v := 1) dX8_isFirstHolder_23 rfl (by decide) ?_
    refine z_goto (tgt := 28) dX8_isFirstHolder_24 rfl (by decide) ?_
    exact z_zret dX8_isFirstHolder_28 rfl rfl rfl ⟨by have := lhF_le F v 7 0; have z := nI_eq (a := lhF F v 7 0) (b := r) (by omega) (by omega); grind, rfl⟩ (Nat.le_of_ble_eq_true rfl) (Nat.le_of_ble_eq_true rfl)

set_option maxHeartbeats 4000000 in
set_option maxRecDepth 100000 in
/-- X8_isFirstHolder -/
theorem m_isFirstN (g : zG) (h : zH) (p : Nat) (F : Nat → Option Nat) (Z : Nat → Int32) (hP : rAt h p F Z) (r : Nat) (hr : r < 8) (hF : F r = none) : zX g yX8_isFirstHolder cX8_isFirstHolder 2 (some .boolean) rmX8_isFirstHolder [.ref p, .int (nI r)] h (.int 0) h := by
  refine zM_of (by decide) (Nat.le_of_ble_eq_true rfl) ?_
  have hP0 := hP
  obtain ⟨P0, P1, P2⟩ := hP0
  first | refine z_aload_n dX8_isFirstHolder_0 rfl rfl ?_ | refine z_aload_nN dX8_isFirstHolder_0 rfl rfl ?_
  refine zg_X8_11 rfl dX8_isFirstHolder_1 rfl (by assumption) rfl ?_
  refine z_iload_n dX8_isFirstHolder_4 rfl rfl ?_
  refine z_aaldn dX8_isFirstHolder_5 rfl (by assumption) rfl rfl (vp_in_nI (by omega) (by decide)) (by rw [nI_clamp (show r < 2 ^ 31 by omega)]; exact hF) ?_
  refine z_ifnullN (tgt := 27) dX8_isFirstHolder_6 rfl (by decide) ?_
  refine z_iconst (v := 0) dX8_isFirstHolder_27 rfl (by decide) ?_
  exact z_zret dX8_isFirstHolder_28 rfl rfl rfl ⟨rfl, rfl⟩ (Nat.le_of_ble_eq_true rfl) (Nat.le_of_ble_eq_true rfl)

