def alUp (a : Nat) (T : alT) (h : zH) : zH := (h.1, fun q => if q = a + 1 then some (.inl (0, 20, .inl T.1)) else if q = a + 2 then some (.inl (0, 20, .inl T.2.1)) else if a + 4 ≤ q ∧ q < a + 24 then some (.inl (0, 20, .inl (T.2.2.1 (q - (a + 4))))) else if a + 25 ≤ q ∧ q < a + 46 then some (.inl (0, 21, .inl (T.2.2.2 (q - (a + 25))))) else h.2 q)
theorem alUp_out {a : Nat} {T : alT} {h : zH} {q : Nat} (hq : q < a ∨ a + 46 ≤ q) : (alUp a T h).2 q = h.2 q := by
  simp only [alUp]
  rw [if_neg (by omega), if_neg (by omega), if_neg (by omega), if_neg (by omega)]
theorem alUp_at {a : Nat} {T T0 : alT} {h : zH} (hA : alAt h a T0) : alAt (alUp a T h) a T := by
  obtain ⟨a1, a2, a3, ⟨f, a4, a4b⟩, a5, ⟨f', a6, a6b⟩, a7⟩ := hA
  refine ⟨?_, ?_, ?_, ⟨f, ?_, a4b⟩, fun i hi => ?_, ⟨f', ?_, a6b⟩, fun i hi => ?_⟩ <;> simp only [alUp]
  · rw [if_neg (by omega), if_neg (by omega), if_neg (by omega), if_neg (by omega)]; exact a1
  · rw [if_pos trivial]
  · rw [if_neg (by omega), if_pos trivial]
  · rw [if_neg (by omega), if_neg (by omega), if_neg (by omega), if_neg (by omega)]; exact a4
  · rw [if_neg (by omega), if_neg (by omega), if_pos (by omega), Nat.add_sub_cancel_left]
  · rw [if_neg (by omega), if_neg (by omega), if_neg (by omega), if_neg (by omega)]; exact a6
  · rw [if_neg (by omega), if_neg (by omega), if_neg (by omega), if_pos (by omega), Nat.add_sub_cancel_left]
theorem alUp_self {a : Nat} {T : alT} {h : zH} (hA : alAt h a T) : alUp a T h = h := by
  obtain ⟨a1, a2, a3, -, a5, -, a7⟩ := hA
  refine Prod.ext rfl (funext fun q => ?_)
  simp only [alUp]
  by_cases e1 : q = a + 1
  · rw [if_pos e1, e1, a2]
  rw [if_neg e1]
  by_cases e2 : q = a + 2
  · rw [if_pos e2, e2, a3]
  rw [if_neg e2]
  by_cases e3 : a + 4 ≤ q ∧ q < a + 24
  · rw [if_pos e3]
    obtain ⟨i, rfl⟩ : ∃ i, q = a + 4 + i := ⟨q - (a + 4), by omega⟩
    rw [a5 i (by omega), Nat.add_sub_cancel_left]
  rw [if_neg e3]
  by_cases e4 : a + 25 ≤ q ∧ q < a + 46
  · rw [if_pos e4]
    obtain ⟨i, rfl⟩ : ∃ i, q = a + 25 + i := ⟨q - (a + 25), by omega⟩
    rw [a7 i (by omega), Nat.add_sub_cancel_left]
  rw [if_neg e4]
theorem alUp_lv {a : Nat} {T : alT} {h : zH} (f : Nat → Int32) : ((alUp a T h).1, va_up (alUp a T h).2 (a + 1) (some (.inl (0, 20, .inl f)))) = alUp a (f, T.2) h := by
  refine Prod.ext rfl (funext fun q => ?_)
  simp only [alUp, va_up]
  by_cases e1 : q = a + 1
  · rw [if_pos e1, if_pos e1]
  · simp only [if_neg e1]
theorem alUp_rv {a : Nat} {T : alT} {h : zH} (f : Nat → Int32) : ((alUp a T h).1, va_up (alUp a T h).2 (a + 2) (some (.inl (0, 20, .inl f)))) = alUp a (T.1, f, T.2.2) h := by
  refine Prod.ext rfl (funext fun q => ?_)
  simp only [alUp, va_up]
  by_cases e1 : q = a + 1
  · rw [if_neg (by omega), if_pos e1, if_pos e1]
  · simp only [if_neg e1]
    by_cases e2 : q = a + 2
    · rw [if_pos e2, if_pos e2]
    · simp only [if_neg e2]
theorem alUp_pv {a : Nat} {T : alT} {h : zH} {i : Nat} (hi : i < 20) (f : Nat → Int32) : ((alUp a T h).1, va_up (alUp a T h).2 (a + 4 + i) (some (.inl (0, 20, .inl f)))) = alUp a (T.1, T.2.1, va_up T.2.2.1 i f, T.2.2.2) h := by
  refine Prod.ext rfl (funext fun q => ?_)
  simp only [alUp, va_up]
  by_cases e : q = a + 4 + i
  · rw [if_pos e, if_neg (by omega), if_neg (by omega), if_pos (by omega), if_pos (by omega)]
  · rw [if_neg e]
    by_cases e3 : a + 4 ≤ q ∧ q < a + 24
    · simp only [if_pos e3]
      rw [if_neg (show ¬ q - (a + 4) = i by omega)]
    · simp only [if_neg e3]
theorem alUp_re {a : Nat} {T : alT} {h : zH} {i : Nat} (hi : i < 21) (f : Nat → Int32) : ((alUp a T h).1, va_up (alUp a T h).2 (a + 25 + i) (some (.inl (0, 21, .inl f)))) = alUp a (T.1, T.2.1, T.2.2.1, va_up T.2.2.2 i f) h := by
  refine Prod.ext rfl (funext fun q => ?_)
  simp only [alUp, va_up]
  by_cases e : q = a + 25 + i
  · rw [if_pos e, if_neg (by omega), if_neg (by omega), if_neg (by omega), if_pos (by omega), if_pos (by omega)]
  · rw [if_neg e]
    by_cases e3 : a + 25 ≤ q ∧ q < a + 46
    · simp only [if_pos e3]
      rw [if_neg (show ¬ q - (a + 25) = i by omega)]
    · simp only [if_neg e3]
def cstV (q : Nat → Int32) (v : Int32) : Int32 := if v = 0 then 0 else if v = 1 then 1 else if v = 2 then q 1 else if v = 3 then q 2 else q 3
theorem cstV_al {q : Nat → Int32} (hq : rateOk q) (L : List sC) (i : Nat) : cstV q (sAl L i) = nI (sAlone q L i) := by
  obtain ⟨-, -, -, -, h5, -, h7, -⟩ := hq
  unfold cstV sAl sAlone
  split
  · rw [nI_ix h7]; rfl
  · rw [nI_ix (by grind)]; rfl
theorem cstV_b {q : Nat → Int32} (hq : rateOk q) (c d : sC) : cstV q (sLike c d (q 0)) = nI (sBes q c d) := by
  obtain ⟨-, -, h3, -⟩ := hq
  unfold cstV sBes
  rcases sLike_le c d (q 0) with e | e | e <;> rw [e]
  · rfl
  · rfl
  · show q 1 = nI (ix (q 1))
    rw [nI_ix (by grind)]

set_option maxHeartbeats 4000000 in
set_option maxRecDepth 100000 in
/-- X0_costOf -/
theorem m_costOf (g : zG) (h : zH) (v : Int32) (ra : Nat) (q : Nat → Int32) (hr : h.2 ra = some (.inl (0, 4, .inl q))) : zX g yX0_costOf cX0_costOf 2 (some .int) rmX0_costOf [.int v, .ref ra] h (.int (cstV q v)) h := by
  refine zM_of (by decide) (Nat.le_of_ble_eq_true rfl) ?_
  refine z_iload_n dX0_costOf_0 rfl rfl ?_
  refine z_sw3 (fun s1 => ?_) (fun s1 => ?_) (fun s1 => ?_) (fun s1 => ?_) (fun s1 => ?_)
  · skip
    refine z_tableOut (tgt := 44) dX0_costOf_1 rfl (sw_out s1) (by decide) ?_
    first | refine z_aload_n dX0_costOf_44 rfl rfl ?_ | refine z_aload_nN dX0_costOf_44 rfl rfl ?_
    refine z_iconst (v := 3) dX0_costOf_45 rfl (by decide) ?_
    refine z_iald dX0_costOf_46 rfl hr (vp_in_nI (show 3 < 4 by decide) (by decide)) ?_
    exact z_iret dX0_costOf_47 rfl rfl ⟨by first | (rw [s1]; rfl) | (unfold cstV; rw [if_neg (by grind), if_neg (by grind), if_neg (by grind), if_neg (by grind)]; rfl), rfl⟩ (Nat.le_of_ble_eq_true rfl) (Nat.le_of_ble_eq_true rfl)
  · skip
    refine z_tableIn (off := 31) (tgt := 32) dX0_costOf_1 rfl (by decide) (by decide) (by decide) (by decide) ?_
    refine z_iconst (v := 0) dX0_costOf_32 rfl (by decide) ?_
    exact z_iret dX0_costOf_33 rfl rfl ⟨by first | (rw [s1]; rfl) | (unfold cstV; rw [if_neg (by grind), if_neg (by grind), if_neg (by grind), if_neg (by grind)]; rfl), rfl⟩ (Nat.le_of_ble_eq_true rfl) (Nat.le_of_ble_eq_true rfl)
  · skip
    refine z_tableIn (off := 33) (tgt := 34) dX0_costOf_1 rfl (by decide) (by decide) (by decide) (by decide) ?_
    refine z_iconst (v := 1) dX0_costOf_34 rfl (by decide) ?_
    exact z_iret dX0_costOf_35 rfl rfl ⟨by first | (rw [s1]; rfl) | (unfold cstV; rw [if_neg (by grind), if_neg (by grind), if_neg (by grind), if_neg (by grind)]; rfl), rfl⟩ (Nat.le_of_ble_eq_true rfl) (Nat.le_of_ble_eq_true rfl)
  · skip
    refine z_tableIn (off := 35) (tgt := 36) dX0_costOf_1 rfl (by decide) (by decide) (by decide) (by decide) ?_
    first | refine z_aload_n dX0_costOf_36 rfl rfl ?_ | refine z_aload_nN dX0_costOf_36 rfl rfl ?_
    refine z_iconst (v := 1) dX0_costOf_37 rfl (by decide) ?_
    refine z_iald dX0_costOf_38 rfl hr (vp_in_nI (show 1 < 4 by decide) (by decide)) ?_
    exact z_iret dX0_costOf_39 rfl rfl ⟨by first | (rw [s1]; rfl) | (unfold cstV; rw [if_neg (by grind), if_neg (by grind), if_neg (by grind), if_neg (by grind)]; rfl), rfl⟩ (Nat.le_of_ble_eq_true rfl) (Nat.le_of_ble_eq_true rfl)
  · skip
    refine z_tableIn (off := 39) (tgt := 40) dX0_costOf_1 rfl (by decide) (by decide) (by decide) (by decide) ?_
    first | refine z_aload_n dX0_costOf_40 rfl rfl ?_ | refine z_aload_nN dX0_costOf_40 rfl rfl ?_
    refine z_iconst (v := 2) dX0_costOf_41 rfl (by decide) ?_
    refine z_iald dX0_costOf_42 rfl hr (vp_in_nI (show 2 < 4 by decide) (by decide)) ?_
    exact z_iret dX0_costOf_43 rfl rfl ⟨by first | (rw [s1]; rfl) | (unfold cstV; rw [if_neg (by grind), if_neg (by grind), if_neg (by grind), if_neg (by grind)]; rfl), rfl⟩ (Nat.le_of_ble_eq_true rfl) (Nat.le_of_ble_eq_true rfl)

def jA (L : List sC) (n : Nat) (f : Nat → Int32) : Nat → Int32 := fun i => if i < n then sAl L i else f i
theorem jA_s (L : List sC) (n : Nat) (f : Nat → Int32) {v : Int32} (hv : v = sAl L n) : upd (jA L n f) n v = jA L (n + 1) f := by
  funext i
  simp only [upd, jA]
  by_cases e : i = n
  · rw [if_pos e, if_pos (by omega), e, hv]
  · rw [if_neg e]
    by_cases e2 : i < n
    · rw [if_pos e2, if_pos (by omega)]
    · rw [if_neg e2, if_neg (by omega)]
theorem tw_c {c : Nat → sC} {L : List sC} {i : Nat} (h : ∀ j, j < L.length → c j = L.getD j z0) (hi : i < L.length) : (decide (0 < i) && sAlike (c (i - 1)) (c i)) = sTwice L i := by
  rw [sTwice, h i hi, h (i - 1) (by omega)]
theorem vu_vu (n : Nat) (f : Nat → Option zOb) (a : Nat) (x y : Option zOb) : ((n, va_up (va_up f a x) a y) : zH) = (n, va_up f a y) := by
  refine Prod.ext rfl (funext fun q => ?_)
  simp only [va_up]
  split <;> rfl
theorem vu_id (h : zH) {a : Nat} {x : Option zOb} (e : h.2 a = x) : h = (h.1, va_up h.2 a x) := by
  refine Prod.ext rfl (funext fun q => ?_)
  simp only [va_up]
  split
  · rename_i z; rw [z, e]
  · rfl
theorem jA_0 (L : List sC) (f : Nat → Int32) : f = jA L 0 f := by funext i; simp [jA]

abbrev YX0_judgeAlone : zY := (yX0_judgeAlone.cls, cX0_judgeAlone, 3, none, rmX0_judgeAlone, yX0_judgeAlone.name, fun _ _ => True)
set_option maxHeartbeats 800000 in
set_option maxRecDepth 100000 in
theorem m_judgeAlone_L (g : zG) (h : zH) (b ar : Nat) (B : sA) (c : Nat → sC) (ho : aOk B) (hc : cAt h b B.1 B.2.length c) (hcl : ∀ i, i < B.2.length → c i = B.2.getD i z0) (f : Nat → Int32) (hf : h.2 ar = some (.inl (0, 20, .inl f))) (hd : ar < b ∨ b + 4 ≤ ar) : ∀ (n : Nat)  (i : Nat), i + n = B.2.length → zZ g YX0_judgeAlone (zE g (fun v h1 => v = none ∧ h1 = (h.1, va_up h.2 ar (some (.inl (0, 20, .inl (jA B.2 B.2.length f)))))) 0 0) 2 [(2, .int (nI i)), (0, .ref b), (1, .ref ar)] [] (h.1, va_up h.2 ar (some (.inl (0, 20, .inl (jA B.2 i f))))) 0 0 := by
  intro n
  induction n with
  | zero =>
    intro i hin
    have hl : B.2.length ≤ 20 := ho.2.2.1
    refine z_iload_n dX0_judgeAlone_2 rfl rfl ?_
    first | refine z_aload_n dX0_judgeAlone_3 rfl rfl ?_ | refine z_aload_nN dX0_judgeAlone_3 rfl rfl ?_
    refine zg_X0_26 rfl dX0_judgeAlone_4 rfl (cAt_fr hc (fun q q1 q2 => vu_n (by omega))).1 rfl ?_
    refine z_icmp_ge (tgt := 32) dX0_judgeAlone_7 rfl (by decide) (fun c7 => ?_) (fun c7 => absurd c7 (fun z => z (nI_le (by omega) (by omega))))
    exact z_vret dX0_judgeAlone_32 rfl rfl ⟨rfl, by rw [show i = B.2.length from by omega]⟩ (Nat.le_of_ble_eq_true rfl) (Nat.le_of_ble_eq_true rfl)
  | succ n ih =>
    intro i hin
    have hl : B.2.length ≤ 20 := ho.2.2.1
    refine z_iload_n dX0_judgeAlone_2 rfl rfl ?_
    first | refine z_aload_n dX0_judgeAlone_3 rfl rfl ?_ | refine z_aload_nN dX0_judgeAlone_3 rfl rfl ?_
    refine zg_X0_26 rfl dX0_judgeAlone_4 rfl (cAt_fr hc (fun q q1 q2 => vu_n (by omega))).1 rfl ?_
    refine z_icmp_ge (tgt := 32) dX0_judgeAlone_7 rfl (by decide) (fun c7 => absurd c7 (nI_ge (by omega) (by omega))) (fun c7 => ?_)
    first | refine z_aload_n dX0_judgeAlone_10 rfl rfl ?_ | refine z_aload_nN dX0_judgeAlone_10 rfl rfl ?_
    refine z_iload_n dX0_judgeAlone_11 rfl rfl ?_
    first | refine z_aload_n dX0_judgeAlone_12 rfl rfl ?_ | refine z_aload_nN dX0_judgeAlone_12 rfl rfl ?_
    refine z_iload_n dX0_judgeAlone_13 rfl rfl ?_
    refine zcx_X0_32 rfl dX0_judgeAlone_14 rfl (cAt_fr hc (fun q q1 q2 => vu_n (by omega))).1 (m_isDuplicate g (h.1, va_up h.2 ar (some (.inl (0, 20, .inl (jA B.2 i f))))) b _ _ c (cAt_fr hc (fun q q1 q2 => vu_n (by omega))) (by omega) i (by omega) (fun j hj => (cl_ok (h := h) (a := b) ho hcl hj).1)) rfl rfl ⟨(Nat.le_of_ble_eq_true rfl), (Nat.le_of_ble_eq_true rfl)⟩ ⟨(Nat.le_of_ble_eq_true rfl), (Nat.le_of_ble_eq_true rfl)⟩ (Nat.le_of_ble_eq_true rfl) ?_
    rw [tw_c hcl (by omega)]
    refine z_bif_eq (tgt := 24) dX0_judgeAlone_17 rfl (by decide) (fun c17 => ?_) (fun c17 => ?_)
    · skip
      refine z_iconst (v := 3) dX0_judgeAlone_24 rfl (by decide) ?_
      refine z_iast dX0_judgeAlone_25 rfl vu_s (vp_in_nI (by omega) (by decide)) ?_
      rw [nI_clamp (show i < 2 ^ 31 by omega), jA_s B.2 i f (by unfold sAl; first | rw [if_pos c17] | rw [if_neg c17])]
      refine zZ_h (h.1, va_up h.2 ar (some (.inl (0, 20, .inl (jA B.2 (i + 1) f))))) (vu_vu _ _ _ _ _) ?_
      refine z_iinc (v := nI (i + 1)) dX0_judgeAlone_26 rfl rfl (nI_inc i) (Nat.le_of_ble_eq_true rfl) ?_
      refine z_goto (tgt := 2) dX0_judgeAlone_29 rfl (by decide) ?_
      refine z_lv [(2, .int (nI (i + 1))), (0, .ref b), (1, .ref ar)] ⟨rfl, rfl, rfl, trivial⟩ ?_
      exact ih (i + 1) (by omega)
    · skip
      refine z_iconst (v := 4) dX0_judgeAlone_20 rfl (by decide) ?_
      refine z_goto (tgt := 25) dX0_judgeAlone_21 rfl (by decide) ?_
      refine z_iast dX0_judgeAlone_25 rfl vu_s (vp_in_nI (by omega) (by decide)) ?_
      rw [nI_clamp (show i < 2 ^ 31 by omega), jA_s B.2 i f (by unfold sAl; first | rw [if_pos c17] | rw [if_neg c17])]
      refine zZ_h (h.1, va_up h.2 ar (some (.inl (0, 20, .inl (jA B.2 (i + 1) f))))) (vu_vu _ _ _ _ _) ?_
      refine z_iinc (v := nI (i + 1)) dX0_judgeAlone_26 rfl rfl (nI_inc i) (Nat.le_of_ble_eq_true rfl) ?_
      refine z_goto (tgt := 2) dX0_judgeAlone_29 rfl (by decide) ?_
      refine z_lv [(2, .int (nI (i + 1))), (0, .ref b), (1, .ref ar)] ⟨rfl, rfl, rfl, trivial⟩ ?_
      exact ih (i + 1) (by omega)

set_option maxHeartbeats 4000000 in
set_option maxRecDepth 100000 in
/-- X0_judgeAlone -/
theorem m_judgeAlone (g : zG) (h : zH) (b ar : Nat) (B : sA) (c : Nat → sC) (ho : aOk B) (hc : cAt h b B.1 B.2.length c) (hcl : ∀ i, i < B.2.length → c i = B.2.getD i z0) (f : Nat → Int32) (hf : h.2 ar = some (.inl (0, 20, .inl f))) (hd : ar < b ∨ b + 4 ≤ ar) : zXv g yX0_judgeAlone cX0_judgeAlone 3 none rmX0_judgeAlone [.ref b, .ref ar] h (h.1, va_up h.2 ar (some (.inl (0, 20, .inl (jA B.2 B.2.length f))))) := by
  refine zM_of (by decide) (Nat.le_of_ble_eq_true rfl) ?_
  refine z_iconst (v := 0) dX0_judgeAlone_0 rfl (by decide) ?_
  refine z_istore_n dX0_judgeAlone_1 rfl (Nat.le_of_ble_eq_true rfl) ?_
  refine zZ_h (h.1, va_up h.2 ar (some (.inl (0, 20, .inl (jA B.2 0 f))))) (by rw [← jA_0]; exact vu_id h hf) ?_
  refine z_lv [(2, .int (nI 0)), (0, .ref b), (1, .ref ar)] ⟨rfl, rfl, rfl, trivial⟩ ?_
  exact m_judgeAlone_L g h b ar B c ho hc hcl f hf hd B.2.length 0 (by omega)

set_option maxHeartbeats 4000000 in
set_option maxRecDepth 100000 in
/-- X0_leftCost -/
theorem m_leftCost (g : zG) (h : zH) (a : Nat) (T : alT) (hA : alAt h a T) (ra : Nat) (q : Nat → Int32) (hr : h.2 ra = some (.inl (0, 4, .inl q))) (i j : Nat) (hi : i < 20) (hj : j < 21) : zX g yX0_leftCost cX0_leftCost 4 (some .int) rmX0_leftCost [.ref a, .int (nI i), .int (nI j), .ref ra] h (.int (cstV q (T.1 i) + T.2.2.2 (i + 1) j)) h := by
  refine zM_of (by decide) (Nat.le_of_ble_eq_true rfl) ?_
  obtain ⟨a1, a2, a3, ⟨fo, a4, a4b⟩, a5, ⟨fp, a6, a6b⟩, a7⟩ := id hA
  first | refine z_aload_n dX0_leftCost_0 rfl rfl ?_ | refine z_aload_nN dX0_leftCost_0 rfl rfl ?_
  refine zg_X0_9 rfl dX0_leftCost_1 rfl a1 rfl ?_
  refine z_iload_n dX0_leftCost_4 rfl rfl ?_
  refine z_iald dX0_leftCost_5 rfl a2 (vp_in_nI (by omega) (by omega)) ?_
  rw [nI_clamp (show i < 2 ^ 31 by omega)]
  first | refine z_aload_n dX0_leftCost_6 rfl rfl ?_ | refine z_aload_nN dX0_leftCost_6 rfl rfl ?_
  refine zcx_X0_62 rfl dX0_leftCost_7 rfl (m_costOf g h _ ra q hr) rfl rfl ⟨(Nat.le_of_ble_eq_true rfl), (Nat.le_of_ble_eq_true rfl)⟩ ⟨(Nat.le_of_ble_eq_true rfl), (Nat.le_of_ble_eq_true rfl)⟩ (Nat.le_of_ble_eq_true rfl) ?_
  first | refine z_aload_n dX0_leftCost_10 rfl rfl ?_ | refine z_aload_nN dX0_leftCost_10 rfl rfl ?_
  refine zg_X0_23 rfl dX0_leftCost_11 rfl a1 rfl ?_
  refine z_iload_n dX0_leftCost_14 rfl rfl ?_
  refine z_iconst (v := 1) dX0_leftCost_15 rfl (by decide) ?_
  refine z_iadd dX0_leftCost_16 rfl ?_
  rw [show nI i + (1 : Int32) = nI (i + 1) from nI_1 i]
  refine z_aalds dX0_leftCost_17 rfl a6 rfl rfl (vp_in_nI (by omega) (by omega)) (by rw [nI_clamp (show i + 1 < 2 ^ 31 by omega)]; exact a6b (i + 1) (by omega)) ?_
  refine z_iload_n dX0_leftCost_18 rfl rfl ?_
  refine z_iald dX0_leftCost_19 rfl (a7 (i + 1) (by omega)) (vp_in_nI (by omega) (by omega)) ?_
  rw [nI_clamp (show j < 2 ^ 31 by omega)]
  refine z_iadd dX0_leftCost_20 rfl ?_
  exact z_iret dX0_leftCost_21 rfl rfl ⟨rfl, rfl⟩ (Nat.le_of_ble_eq_true rfl) (Nat.le_of_ble_eq_true rfl)

set_option maxHeartbeats 4000000 in
set_option maxRecDepth 100000 in
/-- X0_rightCost -/
theorem m_rightCost (g : zG) (h : zH) (a : Nat) (T : alT) (hA : alAt h a T) (ra : Nat) (q : Nat → Int32) (hr : h.2 ra = some (.inl (0, 4, .inl q))) (i j : Nat) (hi : i < 21) (hj : j < 20) : zX g yX0_rightCost cX0_rightCost 4 (some .int) rmX0_rightCost [.ref a, .int (nI i), .int (nI j), .ref ra] h (.int (cstV q (T.2.1 j) + T.2.2.2 i (j + 1))) h := by
  refine zM_of (by decide) (Nat.le_of_ble_eq_true rfl) ?_
  obtain ⟨a1, a2, a3, ⟨fo, a4, a4b⟩, a5, ⟨fp, a6, a6b⟩, a7⟩ := id hA
  first | refine z_aload_n dX0_rightCost_0 rfl rfl ?_ | refine z_aload_nN dX0_rightCost_0 rfl rfl ?_
  refine zg_X0_15 rfl dX0_rightCost_1 rfl a1 rfl ?_
  refine z_iload_n dX0_rightCost_4 rfl rfl ?_
  refine z_iald dX0_rightCost_5 rfl a3 (vp_in_nI (by omega) (by omega)) ?_
  rw [nI_clamp (show j < 2 ^ 31 by omega)]
  first | refine z_aload_n dX0_rightCost_6 rfl rfl ?_ | refine z_aload_nN dX0_rightCost_6 rfl rfl ?_
  refine zcx_X0_62 rfl dX0_rightCost_7 rfl (m_costOf g h _ ra q hr) rfl rfl ⟨(Nat.le_of_ble_eq_true rfl), (Nat.le_of_ble_eq_true rfl)⟩ ⟨(Nat.le_of_ble_eq_true rfl), (Nat.le_of_ble_eq_true rfl)⟩ (Nat.le_of_ble_eq_true rfl) ?_
  first | refine z_aload_n dX0_rightCost_10 rfl rfl ?_ | refine z_aload_nN dX0_rightCost_10 rfl rfl ?_
  refine zg_X0_23 rfl dX0_rightCost_11 rfl a1 rfl ?_
  refine z_iload_n dX0_rightCost_14 rfl rfl ?_
  refine z_aalds dX0_rightCost_15 rfl a6 rfl rfl (vp_in_nI (by omega) (by omega)) (by rw [nI_clamp (show i < 2 ^ 31 by omega)]; exact a6b i (by omega)) ?_
  refine z_iload_n dX0_rightCost_16 rfl rfl ?_
  refine z_iconst (v := 1) dX0_rightCost_17 rfl (by decide) ?_
  refine z_iadd dX0_rightCost_18 rfl ?_
  rw [show nI j + (1 : Int32) = nI (j + 1) from nI_1 j]
  refine z_iald dX0_rightCost_19 rfl (a7 i (by omega)) (vp_in_nI (by omega) (by omega)) ?_
  rw [nI_clamp (show j + 1 < 2 ^ 31 by omega)]
  refine z_iadd dX0_rightCost_20 rfl ?_
  exact z_iret dX0_rightCost_21 rfl rfl ⟨rfl, rfl⟩ (Nat.le_of_ble_eq_true rfl) (Nat.le_of_ble_eq_true rfl)

set_option maxHeartbeats 4000000 in
set_option maxRecDepth 100000 in
/-- X0_pairCost -/
theorem m_pairCost (g : zG) (h : zH) (a : Nat) (T : alT) (hA : alAt h a T) (ra : Nat) (q : Nat → Int32) (hr : h.2 ra = some (.inl (0, 4, .inl q))) (i j : Nat) (hi : i < 20) (hj : j < 20) : zX g yX0_pairCost cX0_pairCost 4 (some .int) rmX0_pairCost [.ref a, .int (nI i), .int (nI j), .ref ra] h (.int (cstV q (T.2.2.1 i j) + T.2.2.2 (i + 1) (j + 1))) h := by
  refine zM_of (by decide) (Nat.le_of_ble_eq_true rfl) ?_
  obtain ⟨a1, a2, a3, ⟨fo, a4, a4b⟩, a5, ⟨fp, a6, a6b⟩, a7⟩ := id hA
  first | refine z_aload_n dX0_pairCost_0 rfl rfl ?_ | refine z_aload_nN dX0_pairCost_0 rfl rfl ?_
  refine zg_X0_20 rfl dX0_pairCost_1 rfl a1 rfl ?_
  refine z_iload_n dX0_pairCost_4 rfl rfl ?_
  refine z_aalds dX0_pairCost_5 rfl a4 rfl rfl (vp_in_nI (by omega) (by omega)) (by rw [nI_clamp (show i < 2 ^ 31 by omega)]; exact a4b i (by omega)) ?_
  refine z_iload_n dX0_pairCost_6 rfl rfl ?_
  refine z_iald dX0_pairCost_7 rfl (a5 i (by omega)) (vp_in_nI (by omega) (by omega)) ?_
  rw [nI_clamp (show j < 2 ^ 31 by omega)]
  first | refine z_aload_n dX0_pairCost_8 rfl rfl ?_ | refine z_aload_nN dX0_pairCost_8 rfl rfl ?_
  refine zcx_X0_62 rfl dX0_pairCost_9 rfl (m_costOf g h _ ra q hr) rfl rfl ⟨(Nat.le_of_ble_eq_true rfl), (Nat.le_of_ble_eq_true rfl)⟩ ⟨(Nat.le_of_ble_eq_true rfl), (Nat.le_of_ble_eq_true rfl)⟩ (Nat.le_of_ble_eq_true rfl) ?_
  first | refine z_aload_n dX0_pairCost_12 rfl rfl ?_ | refine z_aload_nN dX0_pairCost_12 rfl rfl ?_
  refine zg_X0_23 rfl dX0_pairCost_13 rfl a1 rfl ?_
  refine z_iload_n dX0_pairCost_16 rfl rfl ?_
  refine z_iconst (v := 1) dX0_pairCost_17 rfl (by decide) ?_
  refine z_iadd dX0_pairCost_18 rfl ?_
  rw [show nI i + (1 : Int32) = nI (i + 1) from nI_1 i]
  refine z_aalds dX0_pairCost_19 rfl a6 rfl rfl (vp_in_nI (by omega) (by omega)) (by rw [nI_clamp (show i + 1 < 2 ^ 31 by omega)]; exact a6b (i + 1) (by omega)) ?_
  refine z_iload_n dX0_pairCost_20 rfl rfl ?_
  refine z_iconst (v := 1) dX0_pairCost_21 rfl (by decide) ?_
  refine z_iadd dX0_pairCost_22 rfl ?_
  rw [show nI j + (1 : Int32) = nI (j + 1) from nI_1 j]
  refine z_iald dX0_pairCost_23 rfl (a7 (i + 1) (by omega)) (vp_in_nI (by omega) (by omega)) ?_
  rw [nI_clamp (show j + 1 < 2 ^ 31 by omega)]
  refine z_iadd dX0_pairCost_24 rfl ?_
  exact z_iret dX0_pairCost_25 rfl rfl ⟨rfl, rfl⟩ (Nat.le_of_ble_eq_true rfl) (Nat.le_of_ble_eq_true rfl)

