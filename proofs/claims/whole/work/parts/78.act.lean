theorem RC_pat {x m : Nat} {h h1 : zH} {w : sW} {col col' : Nat → Nat} {p : Nat} {F : Nat → Option Nat} {Z : Nat → Int32} {k : Option Nat} {I P P' : Nat → Option Nat} {q : Nat → Int32} {T : alT} {V : Nat → sC} (hR : RC h x m w col p F Z k I P q T V) {pn : Nat} (hpn : pn < 4) (hx : ext h h1 col col' (fun c => c = 4 + pn ∨ c = 1)) (hs : stAt h1 x p k w.2.2.2.1 w.2.2.2.2.1 I P' q T V) (hP : ∀ i, i < 4 → i ≠ pn → P' i = P i) {L : List sAct} {a : Nat} (ha : P' pn = some a) (hp : paIs h1 col' (4 + pn) a L) : RC h1 x m (wPat w pn (some L)) col' p F Z k I P' q T V := by
  obtain ⟨a1, a2, a3, a4, a5, b1, b2, b3⟩ := hR
  refine ⟨hx.2.1, zone_ext hx a2, hs, a4, rcAt_ext a1 hx a5 (by omega) (by omega), fun i hi => imgC_ext a1 hx (b1 i hi) (by omega), coC_ext a1 hx b2 (by omega), fun i hi => ?_⟩
  show patC h1 col' (4 + i) (P' i) (if i = pn then some L else w.2.2.2.2.2.2 i)
  by_cases e : i = pn
  · rw [if_pos e, e]; exact ⟨a, ha, hp⟩
  · rw [if_neg e, hP i hi e]
    exact patC_ext a1 hx (b3 i hi) (by omega) (by omega)
theorem patC_n {h : zH} {col : Nat → Nat} {c : Nat} {k : Option Nat} {C : Option (List sAct)} (hC : patC h col c k C) (e : C = none) : k = none := by
  rw [e] at hC; exact hC
theorem patC_s {h : zH} {col : Nat → Nat} {c : Nat} {k : Option Nat} {C : Option (List sAct)} {L : List sAct} (hC : patC h col c k C) (e : C = some L) : ∃ p, k = some p ∧ paIs h col c p L := by
  rw [e] at hC; exact hC
def pUp (p o v n : Nat) (f : Nat → Int32) (h : zH) : zH := (h.1, fun q => if q = p then some (.inr (4, [.int (nI n), .ref (p + 1), .ref o, .ref v])) else if q = p + 1 then some (.inl (0, n, .inl f)) else h.2 q)
theorem pUp_o {p o v n : Nat} {f : Nat → Int32} {h : zH} : (pUp p o v n f h).2 p = some (.inr (4, [.int (nI n), .ref (p + 1), .ref o, .ref v])) := by simp only [pUp]; rw [if_pos trivial]
theorem pUp_a {p o v n : Nat} {f : Nat → Int32} {h : zH} : (pUp p o v n f h).2 (p + 1) = some (.inl (0, n, .inl f)) := by simp only [pUp]; rw [if_neg (by omega), if_pos trivial]
theorem pUp_out {p o v n : Nat} {f : Nat → Int32} {h : zH} {q : Nat} (h1 : q < p ∨ p + 2 ≤ q) : (pUp p o v n f h).2 q = h.2 q := by simp only [pUp]; rw [if_neg (by omega), if_neg (by omega)]
theorem pUp_s {p o v n : Nat} {f : Nat → Int32} {h : zH} (f' : Nat → Int32) : ((pUp p o v n f h).1, va_up (pUp p o v n f h).2 (p + 1) (some (.inl (0, n, .inl f')))) = pUp p o v n f' h := by
  refine Prod.ext rfl (funext fun q => ?_)
  simp only [pUp, va_up]
  by_cases e : q = p + 1
  · rw [if_pos e, if_neg (by omega), if_pos e]
  · simp only [if_neg e]
theorem pUp_c {p o v o' v' n : Nat} {f : Nat → Int32} {h : zH} : ((pUp p o v n f h).1, va_up (pUp p o v n f h).2 p (some (.inr (4, [.int (nI n), .ref (p + 1), .ref o', .ref v'])))) = pUp p o' v' n f h := by
  refine Prod.ext rfl (funext fun q => ?_)
  simp only [pUp, va_up]
  by_cases e : q = p
  · simp only [if_pos e]
  · simp only [if_neg e]
theorem pUp_self {p o v n : Nat} {f : Nat → Int32} {h : zH} (h1 : h.2 p = some (.inr (4, [.int (nI n), .ref (p + 1), .ref o, .ref v]))) (h2 : h.2 (p + 1) = some (.inl (0, n, .inl f))) : h = pUp p o v n f h := by
  refine Prod.ext rfl (funext fun q => ?_)
  simp only [pUp]
  by_cases e : q = p
  · rw [if_pos e, e, h1]
  · rw [if_neg e]
    by_cases e2 : q = p + 1
    · rw [if_pos e2, e2, h2]
    · rw [if_neg e2]
def swA (x : Int32) : Int32 := if x = 2 then 3 else if x = 3 then 2 else x
def rvF (f : Nat → Int32) (i : Nat) : Nat → Int32 := fun k => if k < i then swA (f k) else f k
theorem rvF_s (f : Nat → Int32) (i : Nat) {v : Int32} (h : v = swA (f i)) : upd (rvF f i) i v = rvF f (i + 1) := by
  funext k
  simp only [upd, rvF]
  by_cases e : k = i
  · rw [if_pos e, if_pos (by omega), h, e]
  · rw [if_neg e]
    by_cases e2 : k < i
    · rw [if_pos e2, if_pos (by omega)]
    · rw [if_neg e2, if_neg (by omega)]
theorem rvF_k (f : Nat → Int32) (i : Nat) (h : f i = swA (f i)) : rvF f i = rvF f (i + 1) := by
  rw [← rvF_s f i h]
  funext k
  simp only [upd]
  split
  · rename_i e; rw [e]; simp [rvF]
  · rfl
theorem rvF_0 (f : Nat → Int32) : f = rvF f 0 := by funext k; simp [rvF]
theorem rvF_i (f : Nat → Int32) (i : Nat) : rvF f i i = f i := by simp [rvF]

abbrev YX7_reverse : zY := (yX7_reverse.cls, cX7_reverse, 3, none, rmX7_reverse, yX7_reverse.name, fun _ _ => True)
set_option maxHeartbeats 800000 in
set_option maxRecDepth 100000 in
theorem m_reverse_L (g : zG) (h : zH) (p o v n : Nat) (f : Nat → Int32) (hn : n ≤ 40) : ∀ (nn i : Nat), i + nn = n → zZ g YX7_reverse (zE g (fun u h1 => u = none ∧ h1 = (pUp p v o n (rvF f n) h)) 0 0) 20 [(2, .int (nI i)), (0, .ref p)] [] (pUp p v o n (rvF f i) h) 0 0 := by
  intro nn
  induction nn with
  | zero =>
    intro i hin
    refine z_iload_n dX7_reverse_20 rfl rfl ?_
    first | refine z_aload_n dX7_reverse_21 rfl rfl ?_ | refine z_aload_nN dX7_reverse_21 rfl rfl ?_
    refine zg_X7_15 rfl dX7_reverse_22 rfl pUp_o rfl ?_
    refine z_icmp_ge (tgt := 71) dX7_reverse_25 rfl (by decide) (fun c25 => ?_) (fun c25 => absurd c25 (fun z => z (nI_le (by omega) (by omega))))
    exact z_vret dX7_reverse_71 rfl rfl ⟨rfl, by rw [show i = n from by omega]⟩ (Nat.le_of_ble_eq_true rfl) (Nat.le_of_ble_eq_true rfl)
  | succ nn ih =>
    intro i hin
    by_cases e2 : f i = 2
    · have hsw : (3 : Int32) = swA (f i) := by rw [swA, if_pos e2]
      refine z_iload_n dX7_reverse_20 rfl rfl ?_
      first | refine z_aload_n dX7_reverse_21 rfl rfl ?_ | refine z_aload_nN dX7_reverse_21 rfl rfl ?_
      refine zg_X7_15 rfl dX7_reverse_22 rfl pUp_o rfl ?_
      refine z_icmp_ge (tgt := 71) dX7_reverse_25 rfl (by decide) (fun c25 => absurd c25 (nI_ge (by omega) (by omega))) (fun c25 => ?_)
      first | refine z_aload_n dX7_reverse_28 rfl rfl ?_ | refine z_aload_nN dX7_reverse_28 rfl rfl ?_
      refine zg_X7_20 rfl dX7_reverse_29 rfl pUp_o rfl ?_
      refine z_iload_n dX7_reverse_32 rfl rfl ?_
      refine z_iald dX7_reverse_33 rfl pUp_a (vp_in_nI (by omega) (by omega)) ?_
      rw [nI_clamp (show i < 2 ^ 31 by omega), rvF_i]
      refine z_iconst (v := 2) dX7_reverse_34 rfl (by decide) ?_
      refine z_icmp_ne (tgt := 48) dX7_reverse_35 rfl (by decide) (fun c35 => absurd c35 (fun z => z e2)) (fun c35 => ?_)
      first | refine z_aload_n dX7_reverse_38 rfl rfl ?_ | refine z_aload_nN dX7_reverse_38 rfl rfl ?_
      refine zg_X7_20 rfl dX7_reverse_39 rfl pUp_o rfl ?_
      refine z_iload_n dX7_reverse_42 rfl rfl ?_
      refine z_iconst (v := 3) dX7_reverse_43 rfl (by decide) ?_
      refine z_iast dX7_reverse_44 rfl pUp_a (vp_in_nI (by omega) (by omega)) ?_
      rw [nI_clamp (show i < 2 ^ 31 by omega)]
      refine zZ_h (pUp p v o n (rvF f (i + 1)) h) ((pUp_s _).trans (by rw [rvF_s f i hsw])) ?_
      refine z_goto (tgt := 65) dX7_reverse_45 rfl (by decide) ?_
      refine z_iinc (v := nI (i + 1)) dX7_reverse_65 rfl rfl (nI_inc i) (Nat.le_of_ble_eq_true rfl) ?_
      refine z_goto (tgt := 20) dX7_reverse_68 rfl (by decide) ?_
      refine z_lv [(2, .int (nI (i + 1))), (0, .ref p)] ⟨rfl, rfl, trivial⟩ ?_
      exact ih (i + 1) (by omega)
    by_cases e3 : f i = 3
    · have hsw : (2 : Int32) = swA (f i) := by rw [swA, if_neg e2, if_pos e3]
      refine z_iload_n dX7_reverse_20 rfl rfl ?_
      first | refine z_aload_n dX7_reverse_21 rfl rfl ?_ | refine z_aload_nN dX7_reverse_21 rfl rfl ?_
      refine zg_X7_15 rfl dX7_reverse_22 rfl pUp_o rfl ?_
      refine z_icmp_ge (tgt := 71) dX7_reverse_25 rfl (by decide) (fun c25 => absurd c25 (nI_ge (by omega) (by omega))) (fun c25 => ?_)
      first | refine z_aload_n dX7_reverse_28 rfl rfl ?_ | refine z_aload_nN dX7_reverse_28 rfl rfl ?_
      refine zg_X7_20 rfl dX7_reverse_29 rfl pUp_o rfl ?_
      refine z_iload_n dX7_reverse_32 rfl rfl ?_
      refine z_iald dX7_reverse_33 rfl pUp_a (vp_in_nI (by omega) (by omega)) ?_
      rw [nI_clamp (show i < 2 ^ 31 by omega), rvF_i]
      refine z_iconst (v := 2) dX7_reverse_34 rfl (by decide) ?_
      refine z_icmp_ne (tgt := 48) dX7_reverse_35 rfl (by decide) (fun c35 => ?_) (fun c35 => absurd c35 e2)
      first | refine z_aload_n dX7_reverse_48 rfl rfl ?_ | refine z_aload_nN dX7_reverse_48 rfl rfl ?_
      refine zg_X7_20 rfl dX7_reverse_49 rfl pUp_o rfl ?_
      refine z_iload_n dX7_reverse_52 rfl rfl ?_
      refine z_iald dX7_reverse_53 rfl pUp_a (vp_in_nI (by omega) (by omega)) ?_
      rw [nI_clamp (show i < 2 ^ 31 by omega), rvF_i]
      refine z_iconst (v := 3) dX7_reverse_54 rfl (by decide) ?_
      refine z_icmp_ne (tgt := 65) dX7_reverse_55 rfl (by decide) (fun c55 => absurd c55 (fun z => z e3)) (fun c55 => ?_)
      first | refine z_aload_n dX7_reverse_58 rfl rfl ?_ | refine z_aload_nN dX7_reverse_58 rfl rfl ?_
      refine zg_X7_20 rfl dX7_reverse_59 rfl pUp_o rfl ?_
      refine z_iload_n dX7_reverse_62 rfl rfl ?_
      refine z_iconst (v := 2) dX7_reverse_63 rfl (by decide) ?_
      refine z_iast dX7_reverse_64 rfl pUp_a (vp_in_nI (by omega) (by omega)) ?_
      rw [nI_clamp (show i < 2 ^ 31 by omega)]
      refine zZ_h (pUp p v o n (rvF f (i + 1)) h) ((pUp_s _).trans (by rw [rvF_s f i hsw])) ?_
      refine z_iinc (v := nI (i + 1)) dX7_reverse_65 rfl rfl (nI_inc i) (Nat.le_of_ble_eq_true rfl) ?_
      refine z_goto (tgt := 20) dX7_reverse_68 rfl (by decide) ?_
      refine z_lv [(2, .int (nI (i + 1))), (0, .ref p)] ⟨rfl, rfl, trivial⟩ ?_
      exact ih (i + 1) (by omega)
    · have hsw : f i = swA (f i) := by rw [swA, if_neg e2, if_neg e3]
      refine z_iload_n dX7_reverse_20 rfl rfl ?_
      first | refine z_aload_n dX7_reverse_21 rfl rfl ?_ | refine z_aload_nN dX7_reverse_21 rfl rfl ?_
      refine zg_X7_15 rfl dX7_reverse_22 rfl pUp_o rfl ?_
      refine z_icmp_ge (tgt := 71) dX7_reverse_25 rfl (by decide) (fun c25 => absurd c25 (nI_ge (by omega) (by omega))) (fun c25 => ?_)
      first | refine z_aload_n dX7_reverse_28 rfl rfl ?_ | refine z_aload_nN dX7_reverse_28 rfl rfl ?_
      refine zg_X7_20 rfl dX7_reverse_29 rfl pUp_o rfl ?_
      refine z_iload_n dX7_reverse_32 rfl rfl ?_
      refine z_iald dX7_reverse_33 rfl pUp_a (vp_in_nI (by omega) (by omega)) ?_
      rw [nI_clamp (show i < 2 ^ 31 by omega), rvF_i]
      refine z_iconst (v := 2) dX7_reverse_34 rfl (by decide) ?_
      refine z_icmp_ne (tgt := 48) dX7_reverse_35 rfl (by decide) (fun c35 => ?_) (fun c35 => absurd c35 e2)
      first | refine z_aload_n dX7_reverse_48 rfl rfl ?_ | refine z_aload_nN dX7_reverse_48 rfl rfl ?_
      refine zg_X7_20 rfl dX7_reverse_49 rfl pUp_o rfl ?_
      refine z_iload_n dX7_reverse_52 rfl rfl ?_
      refine z_iald dX7_reverse_53 rfl pUp_a (vp_in_nI (by omega) (by omega)) ?_
      rw [nI_clamp (show i < 2 ^ 31 by omega), rvF_i]
      refine z_iconst (v := 3) dX7_reverse_54 rfl (by decide) ?_
      refine z_icmp_ne (tgt := 65) dX7_reverse_55 rfl (by decide) (fun c55 => ?_) (fun c55 => absurd c55 e3)
      rw [rvF_k f i hsw]
      refine z_iinc (v := nI (i + 1)) dX7_reverse_65 rfl rfl (nI_inc i) (Nat.le_of_ble_eq_true rfl) ?_
      refine z_goto (tgt := 20) dX7_reverse_68 rfl (by decide) ?_
      refine z_lv [(2, .int (nI (i + 1))), (0, .ref p)] ⟨rfl, rfl, trivial⟩ ?_
      exact ih (i + 1) (by omega)

set_option maxHeartbeats 800000 in
set_option maxRecDepth 100000 in
theorem m_reverse (g : zG) (h : zH) (p o v n : Nat) (f : Nat → Int32) (hn : n ≤ 40) : zXv g yX7_reverse cX7_reverse 3 none rmX7_reverse [.ref p] (pUp p o v n f h) (pUp p v o n (rvF f n) h) := by
  refine zM_of (by decide) (Nat.le_of_ble_eq_true rfl) ?_
  first | refine z_aload_n dX7_reverse_0 rfl rfl ?_ | refine z_aload_nN dX7_reverse_0 rfl rfl ?_
  refine zg_X7_29 rfl dX7_reverse_1 rfl pUp_o rfl ?_
  first | refine z_astore_n dX7_reverse_4 rfl (Nat.le_of_ble_eq_true rfl) ?_ | refine z_astore_nN dX7_reverse_4 rfl (Nat.le_of_ble_eq_true rfl) ?_
  first | refine z_aload_n dX7_reverse_5 rfl rfl ?_ | refine z_aload_nN dX7_reverse_5 rfl rfl ?_
  first | refine z_aload_n dX7_reverse_6 rfl rfl ?_ | refine z_aload_nN dX7_reverse_6 rfl rfl ?_
  refine zg_X7_33 rfl dX7_reverse_7 rfl pUp_o rfl ?_
  refine zp_X7_29 rfl dX7_reverse_10 rfl pUp_o rfl rfl (Nat.le_of_ble_eq_true rfl) ?_
  first | refine z_aload_n dX7_reverse_13 rfl rfl ?_ | refine z_aload_nN dX7_reverse_13 rfl rfl ?_
  first | refine z_aload_n dX7_reverse_14 rfl rfl ?_ | refine z_aload_nN dX7_reverse_14 rfl rfl ?_
  refine zp_X7_33 rfl dX7_reverse_15 rfl vu_s rfl rfl (Nat.le_of_ble_eq_true rfl) ?_
  refine z_iconst (v := 0) dX7_reverse_18 rfl (by decide) ?_
  refine z_istore_n dX7_reverse_19 rfl (Nat.le_of_ble_eq_true rfl) ?_
  refine zZ_h (pUp p v o n (rvF f 0) h) (by rw [← rvF_0]; exact (vu_vu (pUp p o v n f h).1 (pUp p o v n f h).2 p _ _).trans (pUp_c (o' := v) (v' := o))) ?_
  refine z_lv [(2, .int (nI 0)), (0, .ref p)] ⟨rfl, rfl, trivial⟩ ?_
  exact m_reverse_L g h p o v n f hn n 0 (by omega)

theorem cnt_turn1 (L : List sAct) : L.countP (isIn ∘ turnA) = L.countP isOld := by
  apply List.countP_congr
  intro t _
  show (!decide ((turnA t).1 = 2)) = true ↔ (!decide (t.1 = 3)) = true
  unfold turnA
  grind
theorem cnt_turn2 (L : List sAct) : L.countP (isOld ∘ turnA) = L.countP isIn := by
  apply List.countP_congr
  intro t _
  show (!decide ((turnA t).1 = 3)) = true ↔ (!decide (t.1 = 2)) = true
  unfold turnA
  grind

set_option maxHeartbeats 800000 in
set_option maxRecDepth 100000 in
theorem C_turn (g : zG) (h : zH) (x m : Nat) (w : sW) (hRC : RepC h x m w) (pp : Int32) : zM g yX9_turn cX9_turn 3 (some .int) rmX9_turn [.ref x, .int pp] h (cPost x m h (pTurn w pp)) := by
  refine zM_of (by decide) (Nat.le_of_ble_eq_true rfl) ?_
  obtain ⟨col, p, F, Z, k, I, P, q, T, V, hR⟩ := id hRC
  obtain ⟨hw, hz, hS, hq, hr, hX⟩ := id hR
  obtain ⟨S0, S1, S2, S3, S4, S5⟩ := id hS
  obtain ⟨R0, R1, R2, R3⟩ := id hr
  refine z_iload_n dX9_turn_0 rfl rfl ?_
  refine zcx_X9_214 rfl dX9_turn_1 rfl (m_isPatch g h _) rfl rfl ⟨(Nat.le_of_ble_eq_true rfl), (Nat.le_of_ble_eq_true rfl)⟩ ⟨(Nat.le_of_ble_eq_true rfl), (Nat.le_of_ble_eq_true rfl)⟩ (Nat.le_of_ble_eq_true rfl) ?_
  refine z_bif_ne (tgt := 9) dX9_turn_4 rfl (by decide) (fun c4 => ?_) (fun c4 => ?_)
  · skip
    obtain ⟨pn, hpn3, rfl⟩ := nI_of2 (x := pp) (M := 3) (n := 3) (by decide) (by grind) c4.2
    have hpn : pn < 4 := by omega
    have hix : ix (nI pn) = pn := nI_clamp (by omega)
    have hPx := hX.2.2 pn hpn
    rcases hC : w.2.2.2.2.2.2 pn with _ | L
    · have hPn := patC_n hPx hC
      first | refine z_aload_n dX9_turn_9 rfl rfl ?_ | refine z_aload_nN dX9_turn_9 rfl rfl ?_
      refine zg_X9_22 rfl dX9_turn_10 rfl S0 rfl ?_
      refine z_iload_n dX9_turn_13 rfl rfl ?_
      refine z_aaldn dX9_turn_14 rfl S2 rfl rfl (vp_in_nI (by omega) (by decide)) (by rw [nI_clamp (show pn < 2 ^ 31 by omega)]; exact hPn) ?_
      first | refine z_astore_n dX9_turn_15 rfl (Nat.le_of_ble_eq_true rfl) ?_ | refine z_astore_nN dX9_turn_15 rfl (Nat.le_of_ble_eq_true rfl) ?_
      first | refine z_aload_n dX9_turn_16 rfl rfl ?_ | refine z_aload_nN dX9_turn_16 rfl rfl ?_
      refine z_ifnonnullN dX9_turn_17 rfl ?_
      refine z_bipush (v := -2) dX9_turn_20 rfl (by decide) ?_
      exact z_iret dX9_turn_22 rfl rfl (cPost_same hRC (turn_none c4 (by rw [hix]; exact hC))) (Nat.le_of_ble_eq_true rfl) (Nat.le_of_ble_eq_true rfl)
    · obtain ⟨a, hPn, o, v, f, co, cn, ⟨q1, q2, q3, q4⟩, hL40, hAc, hpO, k1, k2, k3, k4⟩ := patC_s hPx hC
      have hm20 := hz.2.1
      have hmx := hz.1
      have hzn : ∀ z, x ≤ z → z < x + 77 → (z < x + 1 ∨ x + 4 ≤ z) → z < a ∨ a + 2 ≤ z := fun z z1 z2 z3 => by
        have hcz : col z = 0 ∨ col z = 1 := by
          rcases Nat.lt_or_ge z (x + 57) with y | y
          · exact Or.inr (hz.2.2.1 z z1 y z3)
          · exact Or.inl (hz.2.2.2 z (by omega) (by omega))
        rcases Nat.lt_or_ge z a with y | y
        · exact Or.inl y
        rcases Nat.lt_or_ge z (a + 2) with y2 | y2
        · rcases (show z = a ∨ z = a + 1 by omega) with e | e
          · rw [e, k1] at hcz; omega
          · rw [e, k2] at hcz; omega
        · exact Or.inr y2
      have hxF : ext h (pUp a v o L.length (rvF f L.length) h) col col (fun c => c = 4 + pn ∨ c = 1) := ⟨Nat.le_refl _, fun z hz2 => by
          have hz2 : h.1 ≤ z := hz2
          rw [pUp_out (by have := wf_lt hw q2; omega)]; exact hw z hz2, fun _ _ => rfl, fun z _ hD => pUp_out (by
          rcases Nat.lt_or_ge z a with y | y
          · exact Or.inl y
          rcases Nat.lt_or_ge z (a + 2) with y2 | y2
          · rcases (show z = a ∨ z = a + 1 by omega) with e | e
            · rw [e, k1] at hD; exact absurd (Or.inl rfl) hD
            · rw [e, k2] at hD; exact absurd (Or.inl rfl) hD
          · exact Or.inr y2)⟩
      have hcf : ∀ b k n c, cAt h b k n c → (∀ z, b ≤ z → z < b + 4 → col z = 3) → cAt (pUp a v o L.length (rvF f L.length) h) b k n c := fun b k n c hb hc => cAt_fr hb (fun z z1 z2 => hxF.2.2.2 z (by have := cAt_lt hb hw; omega) (by rw [hc z z1 z2]; omega))
      have hml : (L.map turnA).length = L.length := List.length_map _
      have hpF : paIs (pUp a v o L.length (rvF f L.length) h) col (4 + pn) a (L.map turnA) := ⟨v, o, rvF f L.length, cn, co, by rw [hml]; exact ⟨pUp_o, pUp_a, hcf _ _ _ _ q4 k4, hcf _ _ _ _ q3 k3⟩, by rw [hml]; exact hL40, fun kq u hu => (by
          rw [List.getElem?_map, Option.map_eq_some_iff] at hu
          obtain ⟨t, ht, rfl⟩ := hu
          obtain ⟨a1, a2, a3, a4, a5, a6, a7⟩ := hAc kq t ht
          have y := turnA_x t ⟨a2, a3⟩ ⟨a4, a5⟩
          have hkl := (List.getElem?_eq_some_iff.mp ht).1
          exact ⟨by simp only [rvF]; rw [if_pos hkl, a1]; rfl, y.1.1, y.1.2, y.2.1, y.2.2, a7, a6⟩), ⟨by rw [List.countP_map, cnt_turn1]; exact hpO.2, by rw [List.countP_map, cnt_turn2]; exact hpO.1⟩, k1, k2, k4, k3⟩
      first | refine z_aload_n dX9_turn_9 rfl rfl ?_ | refine z_aload_nN dX9_turn_9 rfl rfl ?_
      refine zg_X9_22 rfl dX9_turn_10 rfl S0 rfl ?_
      refine z_iload_n dX9_turn_13 rfl rfl ?_
      refine z_aalds dX9_turn_14 rfl S2 rfl rfl (vp_in_nI (by omega) (by decide)) (by rw [nI_clamp (show pn < 2 ^ 31 by omega)]; exact hPn) ?_
      first | refine z_astore_n dX9_turn_15 rfl (Nat.le_of_ble_eq_true rfl) ?_ | refine z_astore_nN dX9_turn_15 rfl (Nat.le_of_ble_eq_true rfl) ?_
      first | refine z_aload_n dX9_turn_16 rfl rfl ?_ | refine z_aload_nN dX9_turn_16 rfl rfl ?_
      refine z_ifnonnull (tgt := 23) dX9_turn_17 rfl (by decide) ?_
      first | refine z_aload_n dX9_turn_23 rfl rfl ?_ | refine z_aload_nN dX9_turn_23 rfl rfl ?_
      refine zZ_h (pUp a o v L.length f h) (pUp_self q1 q2) ?_
      refine zcv_X9_224 rfl dX9_turn_24 rfl pUp_o (m_reverse g h a o v L.length f hL40) rfl rfl ⟨(Nat.le_of_ble_eq_true rfl), (Nat.le_of_ble_eq_true rfl)⟩ ⟨(Nat.le_of_ble_eq_true rfl), (Nat.le_of_ble_eq_true rfl)⟩ (Nat.le_of_ble_eq_true rfl) ?_
      first | refine z_aload_n dX9_turn_27 rfl rfl ?_ | refine z_aload_nN dX9_turn_27 rfl rfl ?_
      refine zg_X9_220 rfl dX9_turn_28 rfl pUp_o rfl ?_
      exact z_iret dX9_turn_31 rfl rfl (cPost_RC (RC_pat hR hpn hxF (stAt_fr hS (fun z z1 z2 z3 => pUp_out (hzn z z1 (by omega) z3))) (fun _ _ _ => rfl) hPn hpF) (fun z z1 z2 => pUp_out (hzn z (by omega) (by omega) (by omega))) (by rw [turn_some c4 (by rw [hix]; exact hC), hix])) (Nat.le_of_ble_eq_true rfl) (Nat.le_of_ble_eq_true rfl)
  · skip
    refine z_iconst (v := -1) dX9_turn_7 rfl (by decide) ?_
    exact z_iret dX9_turn_8 rfl rfl (cPost_same hRC (by grind [pTurn])) (Nat.le_of_ble_eq_true rfl) (Nat.le_of_ble_eq_true rfl)

set_option maxHeartbeats 4000000 in
set_option maxRecDepth 100000 in
/-- X7_hasOld -/
theorem m_hasOld (g : zG) (h : zH) (p o v n : Nat) (f : Nat → Int32) (h1 : h.2 p = some (.inr (4, [.int (nI n), .ref (p + 1), .ref o, .ref v]))) (h2 : h.2 (p + 1) = some (.inl (0, n, .inl f))) (hn : n ≤ 40) (k : Nat) (hk : k < n) : zX g yX7_hasOld cX7_hasOld 2 (some .boolean) rmX7_hasOld [.ref p, .int (nI k)] h (.int (if ¬ f k = 3 then 1 else 0)) h := by
  refine zM_of (by decide) (Nat.le_of_ble_eq_true rfl) ?_
  first | refine z_aload_n dX7_hasOld_0 rfl rfl ?_ | refine z_aload_nN dX7_hasOld_0 rfl rfl ?_
  refine zg_X7_20 rfl dX7_hasOld_1 rfl h1 rfl ?_
  refine z_iload_n dX7_hasOld_4 rfl rfl ?_
  refine z_iald dX7_hasOld_5 rfl h2 (vp_in_nI (by omega) (by omega)) ?_
  rw [nI_clamp (show k < 2 ^ 31 by omega)]
  refine z_iconst (v := 3) dX7_hasOld_6 rfl (by decide) ?_
  refine z_icmp_eq (tgt := 14) dX7_hasOld_7 rfl (by decide) (fun c7 => ?_) (fun c7 => ?_)
  · skip
    refine z_iconst (v := 0) dX7_hasOld_14 rfl (by decide) ?_
    exact z_zret dX7_hasOld_15 rfl rfl rfl ⟨by grind, rfl⟩ (Nat.le_of_ble_eq_true rfl) (Nat.le_of_ble_eq_true rfl)
  · skip
    refine z_iconst (v := 1) dX7_hasOld_10 rfl (by decide) ?_
    refine z_goto (tgt := 15) dX7_hasOld_11 rfl (by decide) ?_
    exact z_zret dX7_hasOld_15 rfl rfl rfl ⟨by grind, rfl⟩ (Nat.le_of_ble_eq_true rfl) (Nat.le_of_ble_eq_true rfl)

set_option maxHeartbeats 4000000 in
set_option maxRecDepth 100000 in
/-- X7_hasNew -/
theorem m_hasNew (g : zG) (h : zH) (p o v n : Nat) (f : Nat → Int32) (h1 : h.2 p = some (.inr (4, [.int (nI n), .ref (p + 1), .ref o, .ref v]))) (h2 : h.2 (p + 1) = some (.inl (0, n, .inl f))) (hn : n ≤ 40) (k : Nat) (hk : k < n) : zX g yX7_hasNew cX7_hasNew 2 (some .boolean) rmX7_hasNew [.ref p, .int (nI k)] h (.int (if ¬ f k = 2 then 1 else 0)) h := by
  refine zM_of (by decide) (Nat.le_of_ble_eq_true rfl) ?_
  first | refine z_aload_n dX7_hasNew_0 rfl rfl ?_ | refine z_aload_nN dX7_hasNew_0 rfl rfl ?_
  refine zg_X7_20 rfl dX7_hasNew_1 rfl h1 rfl ?_
  refine z_iload_n dX7_hasNew_4 rfl rfl ?_
  refine z_iald dX7_hasNew_5 rfl h2 (vp_in_nI (by omega) (by omega)) ?_
  rw [nI_clamp (show k < 2 ^ 31 by omega)]
  refine z_iconst (v := 2) dX7_hasNew_6 rfl (by decide) ?_
  refine z_icmp_eq (tgt := 14) dX7_hasNew_7 rfl (by decide) (fun c7 => ?_) (fun c7 => ?_)
  · skip
    refine z_iconst (v := 0) dX7_hasNew_14 rfl (by decide) ?_
    exact z_zret dX7_hasNew_15 rfl rfl rfl ⟨by grind, rfl⟩ (Nat.le_of_ble_eq_true rfl) (Nat.le_of_ble_eq_true rfl)
  · skip
    refine z_iconst (v := 1) dX7_hasNew_10 rfl (by decide) ?_
    refine z_goto (tgt := 15) dX7_hasNew_11 rfl (by decide) ?_
    exact z_zret dX7_hasNew_15 rfl rfl rfl ⟨by grind, rfl⟩ (Nat.le_of_ble_eq_true rfl) (Nat.le_of_ble_eq_true rfl)

set_option maxHeartbeats 800000 in
set_option maxRecDepth 100000 in
theorem C_act (g : zG) (h : zH) (x m : Nat) (w : sW) (hRC : RepC h x m w) (pp kk what : Int32) : zM g yX9_act cX9_act 5 (some .int) rmX9_act [.ref x, .int pp, .int kk, .int what] h (cPost x m h (pAct w pp kk what)) := by
  refine zM_of (by decide) (Nat.le_of_ble_eq_true rfl) ?_
  obtain ⟨col, p, F, Z, k, I, P, q, T, V, hR⟩ := id hRC
  obtain ⟨hw, hz, hS, hq, hr, hX⟩ := id hR
  obtain ⟨S0, S1, S2, S3, S4, S5⟩ := id hS
  obtain ⟨R0, R1, R2, R3⟩ := id hr
  refine z_iload_n dX9_act_0 rfl rfl ?_
  refine zcx_X9_214 rfl dX9_act_1 rfl (m_isPatch g h _) rfl rfl ⟨(Nat.le_of_ble_eq_true rfl), (Nat.le_of_ble_eq_true rfl)⟩ ⟨(Nat.le_of_ble_eq_true rfl), (Nat.le_of_ble_eq_true rfl)⟩ (Nat.le_of_ble_eq_true rfl) ?_
  refine z_bif_eq (tgt := 20) dX9_act_4 rfl (by decide) (fun c4 => ?_) (fun c4 => ?_)
  · skip
    refine z_iconst (v := -1) dX9_act_20 rfl (by decide) ?_
    exact z_iret dX9_act_21 rfl rfl (cPost_same hRC (by grind [pAct])) (Nat.le_of_ble_eq_true rfl) (Nat.le_of_ble_eq_true rfl)
  · skip
    refine z_iload_n dX9_act_7 rfl rfl ?_
    refine z_if_lt (tgt := 20) dX9_act_8 rfl (by decide) (fun c8 => ?_) (fun c8 => ?_)
    · skip
      refine z_iconst (v := -1) dX9_act_20 rfl (by decide) ?_
      exact z_iret dX9_act_21 rfl rfl (cPost_same hRC (by grind [pAct])) (Nat.le_of_ble_eq_true rfl) (Nat.le_of_ble_eq_true rfl)
    · skip
      refine z_iload_n dX9_act_11 rfl rfl ?_
      refine z_iconst (v := 0) dX9_act_12 rfl (by decide) ?_
      refine z_iconst (v := 2) dX9_act_13 rfl (by decide) ?_
      refine zcx_X9_50 rfl dX9_act_14 rfl (m_isWithin g h _ _ _) rfl rfl ⟨(Nat.le_of_ble_eq_true rfl), (Nat.le_of_ble_eq_true rfl)⟩ ⟨(Nat.le_of_ble_eq_true rfl), (Nat.le_of_ble_eq_true rfl)⟩ (Nat.le_of_ble_eq_true rfl) ?_
      refine z_bif_ne (tgt := 22) dX9_act_17 rfl (by decide) (fun c17 => ?_) (fun c17 => ?_)
      · skip
        obtain ⟨pn, hpn3, rfl⟩ := nI_of2 (x := pp) (M := 3) (n := 3) (by decide) (by grind) c4.2
        have hpn : pn < 4 := by omega
        have hix : ix (nI pn) = pn := nI_clamp (by omega)
        have hPx := hX.2.2 pn hpn
        obtain ⟨kn, hkn, rfl⟩ := nI_of0 c8
        have hkx : ix (nI kn) = kn := nI_clamp (by omega)
        rcases hC : w.2.2.2.2.2.2 pn with _ | L
        · have hPn := patC_n hPx hC
          first | refine z_aload_n dX9_act_22 rfl rfl ?_ | refine z_aload_nN dX9_act_22 rfl rfl ?_
          refine zg_X9_22 rfl dX9_act_23 rfl S0 rfl ?_
          refine z_iload_n dX9_act_26 rfl rfl ?_
          refine z_aaldn dX9_act_27 rfl S2 rfl rfl (vp_in_nI (by omega) (by decide)) (by rw [nI_clamp (show pn < 2 ^ 31 by omega)]; exact hPn) ?_
          first | refine z_astore dX9_act_28 rfl (Nat.le_of_ble_eq_true rfl) ?_ | refine z_astoreN dX9_act_28 rfl (Nat.le_of_ble_eq_true rfl) ?_
          first | refine z_aload dX9_act_30 rfl rfl ?_ | refine z_aloadN dX9_act_30 rfl rfl ?_
          refine z_ifnonnullN dX9_act_32 rfl ?_
          refine z_bipush (v := -2) dX9_act_35 rfl (by decide) ?_
          exact z_iret dX9_act_37 rfl rfl (cPost_same hRC (act_none c4 c8 c17 (by rw [hix]; exact hC))) (Nat.le_of_ble_eq_true rfl) (Nat.le_of_ble_eq_true rfl)
        · obtain ⟨a, hPn, o, v, f, co, cn, ⟨q1, q2, q3, q4⟩, hL40, hAc, hpO, k1, k2, k3, k4⟩ := patC_s hPx hC
          first | refine z_aload_n dX9_act_22 rfl rfl ?_ | refine z_aload_nN dX9_act_22 rfl rfl ?_
          refine zg_X9_22 rfl dX9_act_23 rfl S0 rfl ?_
          refine z_iload_n dX9_act_26 rfl rfl ?_
          refine z_aalds dX9_act_27 rfl S2 rfl rfl (vp_in_nI (by omega) (by decide)) (by rw [nI_clamp (show pn < 2 ^ 31 by omega)]; exact hPn) ?_
          first | refine z_astore dX9_act_28 rfl (Nat.le_of_ble_eq_true rfl) ?_ | refine z_astoreN dX9_act_28 rfl (Nat.le_of_ble_eq_true rfl) ?_
          first | refine z_aload dX9_act_30 rfl rfl ?_ | refine z_aloadN dX9_act_30 rfl rfl ?_
          refine z_ifnonnull (tgt := 38) dX9_act_32 rfl (by decide) ?_
          refine z_iload_n dX9_act_38 rfl rfl ?_
          first | refine z_aload dX9_act_39 rfl rfl ?_ | refine z_aloadN dX9_act_39 rfl rfl ?_
          refine zg_X9_220 rfl dX9_act_41 rfl q1 rfl ?_
          refine z_icmp_lt (tgt := 50) dX9_act_44 rfl (by decide) (fun c44 => ?_) (fun c44 => ?_)
          · skip
            have hkl : kn < L.length := Nat.lt_of_not_le (fun z => absurd c44 (nI_nlt z (by omega)))
            obtain ⟨t, ht⟩ : ∃ t, L[kn]? = some t := ⟨_, List.getElem?_eq_getElem hkl⟩
            obtain ⟨a1, a2, a3, a4, a5, a6, a7⟩ := hAc kn t ht
            refine z_iload_n dX9_act_50 rfl rfl ?_
            refine z_if_ne (tgt := 62) dX9_act_51 rfl (by decide) (fun c51 => ?_) (fun c51 => ?_)
            · skip
              refine z_iload_n dX9_act_62 rfl rfl ?_
              refine z_iconst (v := 1) dX9_act_63 rfl (by decide) ?_
              refine z_icmp_ne (tgt := 92) dX9_act_64 rfl (by decide) (fun c64 => ?_) (fun c64 => ?_)
              · skip
                first | refine z_aload dX9_act_92 rfl rfl ?_ | refine z_aloadN dX9_act_92 rfl rfl ?_
                refine z_iload_n dX9_act_94 rfl rfl ?_
                refine zcx_X9_236 rfl dX9_act_95 rfl q1 (m_hasNew g h a o v L.length f q1 q2 hL40 kn hkl) rfl rfl ⟨(Nat.le_of_ble_eq_true rfl), (Nat.le_of_ble_eq_true rfl)⟩ ⟨(Nat.le_of_ble_eq_true rfl), (Nat.le_of_ble_eq_true rfl)⟩ (Nat.le_of_ble_eq_true rfl) ?_
                rw [a1]
                refine z_bif_eq (tgt := 114) dX9_act_98 rfl (by decide) (fun c98 => ?_) (fun c98 => ?_)
                · skip
                  refine z_bipush (v := -4) dX9_act_114 rfl (by decide) ?_
                  exact z_iret dX9_act_116 rfl rfl (by first | exact (cPost_same hRC (act_some c4 c8 c17 (by rw [hix]; exact hC) (by rw [hkx]; exact ht) (by rw [actOf, if_neg c51, if_neg c64, hy]))) | exact (cPost_same hRC (act_some c4 c8 c17 (by rw [hix]; exact hC) (by rw [hkx]; exact ht) (by rw [actOf, if_neg c51, if_neg c64, a5.mpr (Classical.not_not.mp c98)])))) (Nat.le_of_ble_eq_true rfl) (Nat.le_of_ble_eq_true rfl)
                · skip
                  first | refine z_aload dX9_act_101 rfl rfl ?_ | refine z_aloadN dX9_act_101 rfl rfl ?_
                  refine zg_X9_239 rfl dX9_act_103 rfl q1 rfl ?_
                  refine zg_X9_107 rfl dX9_act_106 rfl q4.1 rfl ?_
                  refine z_iload_n dX9_act_109 rfl rfl ?_
                  refine z_iald dX9_act_110 rfl q4.2.1 (vp_in_nI (by omega) (by omega)) ?_
                  obtain ⟨y, hy⟩ := Option.ne_none_iff_exists'.mp (fun q => c98 (a5.mp q))
                  rw [nI_clamp (show kn < 2 ^ 31 by omega), (a7 y hy).1]
                  refine z_goto (tgt := 116) dX9_act_111 rfl (by decide) ?_
                  exact z_iret dX9_act_116 rfl rfl (by first | exact (cPost_same hRC (act_some c4 c8 c17 (by rw [hix]; exact hC) (by rw [hkx]; exact ht) (by rw [actOf, if_neg c51, if_neg c64, hy]))) | exact (cPost_same hRC (act_some c4 c8 c17 (by rw [hix]; exact hC) (by rw [hkx]; exact ht) (by rw [actOf, if_neg c51, if_neg c64, a5.mpr (Classical.not_not.mp c98)])))) (Nat.le_of_ble_eq_true rfl) (Nat.le_of_ble_eq_true rfl)
              · skip
                first | refine z_aload dX9_act_67 rfl rfl ?_ | refine z_aloadN dX9_act_67 rfl rfl ?_
                refine z_iload_n dX9_act_69 rfl rfl ?_
                refine zcx_X9_230 rfl dX9_act_70 rfl q1 (m_hasOld g h a o v L.length f q1 q2 hL40 kn hkl) rfl rfl ⟨(Nat.le_of_ble_eq_true rfl), (Nat.le_of_ble_eq_true rfl)⟩ ⟨(Nat.le_of_ble_eq_true rfl), (Nat.le_of_ble_eq_true rfl)⟩ (Nat.le_of_ble_eq_true rfl) ?_
                rw [a1]
                refine z_bif_eq (tgt := 89) dX9_act_73 rfl (by decide) (fun c73 => ?_) (fun c73 => ?_)
                · skip
                  refine z_bipush (v := -4) dX9_act_89 rfl (by decide) ?_
                  exact z_iret dX9_act_91 rfl rfl (by first | exact (cPost_same hRC (act_some c4 c8 c17 (by rw [hix]; exact hC) (by rw [hkx]; exact ht) (by rw [actOf, if_neg c51, if_pos c64, hy]))) | exact (cPost_same hRC (act_some c4 c8 c17 (by rw [hix]; exact hC) (by rw [hkx]; exact ht) (by rw [actOf, if_neg c51, if_pos c64, a4.mpr (Classical.not_not.mp c73)])))) (Nat.le_of_ble_eq_true rfl) (Nat.le_of_ble_eq_true rfl)
                · skip
                  first | refine z_aload dX9_act_76 rfl rfl ?_ | refine z_aloadN dX9_act_76 rfl rfl ?_
                  refine zg_X9_233 rfl dX9_act_78 rfl q1 rfl ?_
                  refine zg_X9_107 rfl dX9_act_81 rfl q3.1 rfl ?_
                  refine z_iload_n dX9_act_84 rfl rfl ?_
                  refine z_iald dX9_act_85 rfl q3.2.1 (vp_in_nI (by omega) (by omega)) ?_
                  obtain ⟨y, hy⟩ := Option.ne_none_iff_exists'.mp (fun q => c73 (a4.mp q))
                  rw [nI_clamp (show kn < 2 ^ 31 by omega), (a6 y hy).1]
                  refine z_goto (tgt := 91) dX9_act_86 rfl (by decide) ?_
                  exact z_iret dX9_act_91 rfl rfl (by first | exact (cPost_same hRC (act_some c4 c8 c17 (by rw [hix]; exact hC) (by rw [hkx]; exact ht) (by rw [actOf, if_neg c51, if_pos c64, hy]))) | exact (cPost_same hRC (act_some c4 c8 c17 (by rw [hix]; exact hC) (by rw [hkx]; exact ht) (by rw [actOf, if_neg c51, if_pos c64, a4.mpr (Classical.not_not.mp c73)])))) (Nat.le_of_ble_eq_true rfl) (Nat.le_of_ble_eq_true rfl)
            · skip
              first | refine z_aload dX9_act_54 rfl rfl ?_ | refine z_aloadN dX9_act_54 rfl rfl ?_
              refine zg_X9_227 rfl dX9_act_56 rfl q1 rfl ?_
              refine z_iload_n dX9_act_59 rfl rfl ?_
              refine z_iald dX9_act_60 rfl q2 (vp_in_nI (by omega) (by omega)) ?_
              rw [nI_clamp (show kn < 2 ^ 31 by omega), a1]
              exact z_iret dX9_act_61 rfl rfl (cPost_same hRC (act_some c4 c8 c17 (by rw [hix]; exact hC) (by rw [hkx]; exact ht) (by rw [actOf, if_pos c51]))) (Nat.le_of_ble_eq_true rfl) (Nat.le_of_ble_eq_true rfl)
          · skip
            refine z_bipush (v := -4) dX9_act_47 rfl (by decide) ?_
            exact z_iret dX9_act_49 rfl rfl (cPost_same hRC (act_no c4 c8 c17 (by rw [hix]; exact hC) (by rw [hkx]; exact List.getElem?_eq_none (Nat.le_of_not_lt (fun z => c44 (nI_lt z (by omega))))))) (Nat.le_of_ble_eq_true rfl) (Nat.le_of_ble_eq_true rfl)
      · skip
        refine z_iconst (v := -1) dX9_act_20 rfl (by decide) ?_
        exact z_iret dX9_act_21 rfl rfl (cPost_same hRC (by grind [pAct])) (Nat.le_of_ble_eq_true rfl) (Nat.le_of_ble_eq_true rfl)

