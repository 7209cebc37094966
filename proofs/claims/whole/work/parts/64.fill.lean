theorem wrap_cf {R : sR} {r : Nat} (hl : ¬ 0 < rowF R r → (R.2.1 r).2.length ≤ 20) (i : Int32) {k : Nat} (hk : k ≤ 20) : cellF R r (i + nI k).toInt = cellF R r (i.toInt + k) ∧ (¬ 0 < cellF R r (i.toInt + k) → ix (i + nI k) = (i.toInt + k).toNat) := by
  have hb := Int32.toInt_lt i
  have hlo := Int32.le_toInt i
  have e : (i + nI k).toInt = i.toInt + k ∨ ((i + nI k).toInt = i.toInt + k - 4294967296 ∧ 2147483648 ≤ i.toInt + k) := by
    rw [Int32.toInt_add, nI_toInt (by omega)]
    rcases Int.lt_or_le (i.toInt + k) 2147483648 with z | z
    · exact Or.inl (Int.bmod_eq_of_le (by omega) (by omega))
    · refine Or.inr ⟨?_, z⟩
      rw [Int.bmod_def]
      simp only [Nat.reducePow]
      omega
  rcases e with e | ⟨e, e2⟩
  · refine ⟨by rw [e], fun _ => ?_⟩
    show (i + nI k).toInt.toNat = _
    rw [e]
  · have n1 : ¬ 0 < rowF R r → ¬ (0 ≤ (i + nI k).toInt ∧ (i + nI k).toInt < (R.2.1 r).2.length) := fun z => by rw [e]; omega
    have n2 : ¬ 0 < rowF R r → ¬ (0 ≤ i.toInt + k ∧ i.toInt + k < (R.2.1 r).2.length) := fun z => by have := hl z; omega
    by_cases hf : 0 < rowF R r
    · refine ⟨by rw [cellF, cellF, if_pos hf, if_pos hf], fun z => absurd (by rw [cellF, if_pos hf]; exact hf) z⟩
    · refine ⟨by rw [cellF, cellF, if_neg hf, if_neg hf, if_neg (n1 hf), if_neg (n2 hf)], fun z => absurd (by rw [cellF, if_neg hf, if_neg (n2 hf)]; decide) z⟩
theorem wrap_pf {R : sR} {r : Nat} (hl : ¬ 0 < rowF R r → (R.2.1 r).2.length ≤ 20) (i : Int32) {k : Nat} (hk : k ≤ 20) (s : Int32) : putF R r (i + nI k).toInt s = putF R r (i.toInt + k) s := by unfold putF; rw [(wrap_cf hl i hk).1]
theorem wrap_lf {R : sR} {r : Nat} (hl : ¬ 0 < rowF R r → (R.2.1 r).2.length ≤ 20) (i : Int32) {k : Nat} (hk : k ≤ 20) (s : Int32) : layF R r (i + nI k).toInt s = layF R r (i.toInt + k) s := by unfold layF; rw [(wrap_cf hl i hk).1]
theorem rc_len {h : zH} {col : Nat → Nat} {cc oc p : Nat} {R : sR} {F : Nat → Option Nat} {Z : Nat → Int32} (hA : rcAt h col cc oc p R F Z) {r : Nat} (hr : r < 8) : ¬ 0 < rowF R r → (R.2.1 r).2.length ≤ 20 := fun z => by
  obtain ⟨a, hF⟩ := rc_2 hA hr z
  exact (rc_a hA hr hF).2.2.1.1.2.2.1

abbrev YX9_fill : zY := (yX9_fill.cls, cX9_fill, 7, (some .int), rmX9_fill, yX9_fill.name, fun _ _ => True)
set_option maxHeartbeats 800000 in
set_option maxRecDepth 100000 in
theorem C_fill_L (g : zG) (h : zH) (x m : Nat) (w : sW) (r i sort v : Int32) (N : Nat) (hN : N ≤ 20) (hr1 : isRec r) (hs : sNum sort) (col : Nat → Nat) (p : Nat) (F : Nat → Option Nat) (Z : Nat → Int32) (k : Option Nat) (I P : Nat → Option Nat) (q : Nat → Int32) (T : alT) (V : Nat → sC) (hV : V 0 = sVal sort v) : ∀ (n : Nat) (h1 : zH) (R : sR) (kk : Nat), kk + n = N → RC h1 x m (wTorn (wR w R) 0) col p F Z k I P q T V → (∀ a, m ≤ a → a < m + 20 → h1.2 a = h.2 a) → pFillL (ix r) i.toInt (sVal sort v) N 0 w.1 = pFillL (ix r) i.toInt (sVal sort v) n kk R → zZ g YX9_fill (zE g (cPost x m h (pFill w r i (nI N) sort v)) 0 0) 50 [(6, .int (nI kk)), (0, .ref x), (1, .int r), (2, .int i), (3, .int (nI N)), (4, .int sort), (5, .int v)] [] h1 0 0 := by
  intro n
  induction n with
  | zero =>
    intro h1 R kk hin hR1 hm1 he
    refine z_iload dX9_fill_50 rfl rfl ?_
    refine z_iload_n dX9_fill_52 rfl rfl ?_
    refine z_icmp_ge (tgt := 85) dX9_fill_53 rfl (by decide) (fun c53 => ?_) (fun c53 => absurd c53 (fun z => z (nI_le (by omega) (by omega))))
    refine z_iload_n dX9_fill_85 rfl rfl ?_
    exact z_iret dX9_fill_86 rfl rfl (cPost_RC hR1 hm1 (by have z := fill_ans (w := w) (r := r) (i := i) (sort := sort) (v := v) hN hr1 hs (k := kk) (f := 0) (R := R) he; rw [z]; rw [show kk = N from by omega])) (Nat.le_of_ble_eq_true rfl) (Nat.le_of_ble_eq_true rfl)
  | succ n ih =>
    intro h1 R kk hin hR1 hm1 he
    have S0 := hR1.2.2.1.1
    refine z_iload dX9_fill_50 rfl rfl ?_
    refine z_iload_n dX9_fill_52 rfl rfl ?_
    refine z_icmp_ge (tgt := 85) dX9_fill_53 rfl (by decide) (fun c53 => absurd c53 (nI_ge (by omega) (by omega))) (fun c53 => ?_)
    first | refine z_aload_n dX9_fill_56 rfl rfl ?_ | refine z_aload_nN dX9_fill_56 rfl rfl ?_
    first | refine z_aload_n dX9_fill_57 rfl rfl ?_ | refine z_aload_nN dX9_fill_57 rfl rfl ?_
    refine z_iload_n dX9_fill_58 rfl rfl ?_
    refine z_iload_n dX9_fill_59 rfl rfl ?_
    refine z_iload dX9_fill_60 rfl rfl ?_
    refine z_iadd dX9_fill_62 rfl ?_
    refine zc_X9_114 rfl dX9_fill_63 rfl S0 (m_writeNumber g h1 x m (wTorn (wR w R) 0) col p F Z k I P q T V hR1 r (i + nI kk) hr1 (by rw [hV]; exact sVal_ok v ⟨hs.1, by have := hs.2; grind⟩)) rfl rfl ⟨(Nat.le_of_ble_eq_true rfl), (Nat.le_of_ble_eq_true rfl)⟩ ⟨(Nat.le_of_ble_eq_true rfl), (Nat.le_of_ble_eq_true rfl)⟩ (Nat.le_of_ble_eq_true rfl) (fun vv h2 hz1 => ?_)
    rw [show (((wTorn (wR w R) 0) : sW)).1 = R from rfl, hV, wrap_pf (R := R) (rc_len hR1.2.2.2.2.1 (ix_lt hr1)) i (show kk ≤ 20 by omega)] at hz1
    rcases hz1 with ⟨hne, rfl, rfl⟩ | ⟨h0, rfl, hR2, hm2⟩
    · skip
      refine zp_X9_121 rfl dX9_fill_66 rfl S0 rfl rfl (Nat.le_of_ble_eq_true rfl) ?_
      first | refine z_aload_n dX9_fill_69 rfl rfl ?_ | refine z_aload_nN dX9_fill_69 rfl rfl ?_
      refine zg_X9_121 rfl dX9_fill_70 rfl vu_s rfl ?_
      refine z_if_eq (tgt := 79) dX9_fill_73 rfl (by decide) (fun c73 => absurd c73 hne) (fun c73 => ?_)
      refine z_iload dX9_fill_76 rfl rfl ?_
      exact z_iret dX9_fill_78 rfl rfl (cPost_RC (RC_x hR1 (w' := wTorn (wR w R) (putF R (ix r) (i.toInt + kk) (sVal sort v).1)) ⟨rfl, rfl, rfl, rfl⟩) (fun a b c => (vu_n (by have := hR1.2.1.1; omega)).trans (hm1 a b c)) (by have z := fill_ans (w := w) (r := r) (i := i) (sort := sort) (v := v) hN hr1 hs (k := kk) (f := (putF R (ix r) (i.toInt + kk) (sVal sort v).1)) (R := R) (by rw [he, pFillL, if_neg hne]); exact z)) (Nat.le_of_ble_eq_true rfl) (Nat.le_of_ble_eq_true rfl)
    · have hcf : ¬ 0 < cellF R (ix r) (i.toInt + kk) := (pf_0 (by rw [h0]; decide)).1
      rw [(wrap_cf (R := R) (rc_len hR1.2.2.2.2.1 (ix_lt hr1)) i (show kk ≤ 20 by omega)).2 hcf] at hR2
      refine zp_X9_121 rfl dX9_fill_66 rfl hR2.2.2.1.1 rfl rfl (Nat.le_of_ble_eq_true rfl) ?_
      first | refine z_aload_n dX9_fill_69 rfl rfl ?_ | refine z_aload_nN dX9_fill_69 rfl rfl ?_
      refine zg_X9_121 rfl dX9_fill_70 rfl vu_s rfl ?_
      refine z_if_eq (tgt := 79) dX9_fill_73 rfl (by decide) (fun c73 => ?_) (fun c73 => absurd c73 (fun z => z rfl))
      refine z_iinc (v := nI (kk + 1)) dX9_fill_79 rfl rfl (nI_inc kk) (Nat.le_of_ble_eq_true rfl) ?_
      refine z_goto (tgt := 50) dX9_fill_82 rfl (by decide) ?_
      refine z_lv [(6, .int (nI (kk + 1))), (0, .ref x), (1, .int r), (2, .int i), (3, .int (nI N)), (4, .int sort), (5, .int v)] ⟨rfl, rfl, rfl, rfl, rfl, rfl, rfl, trivial⟩ ?_
      exact ih _ (rSet R (ix r) (i.toInt + kk).toNat (sConv (sVal sort v) (R.2.1 (ix r)).1)) (kk + 1) (by omega) (RC_x hR2 (w' := wTorn (wR w (rSet R (ix r) (i.toInt + kk).toNat (sConv (sVal sort v) (R.2.1 (ix r)).1))) 0) ⟨rfl, rfl, rfl, rfl⟩) (fun a b c => (vu_n (by have := hR1.2.1.1; omega)).trans ((hm2 a b c).trans (hm1 a b c))) (by rw [he, pFillL, if_pos h0])

set_option maxHeartbeats 800000 in
set_option maxRecDepth 100000 in
theorem C_fill (g : zG) (h : zH) (x m : Nat) (w : sW) (hRC : RepC h x m w) (r i n sort v : Int32) : zM g yX9_fill cX9_fill 7 (some .int) rmX9_fill [.ref x, .int r, .int i, .int n, .int sort, .int v] h (cPost x m h (pFill w r i n sort v)) := by
  refine zM_of (by decide) (Nat.le_of_ble_eq_true rfl) ?_
  obtain ⟨col, p, F, Z, k, I, P, q, T, V, hR⟩ := id hRC
  obtain ⟨hw, hz, hS, hq, hr, hX⟩ := id hR
  obtain ⟨S0, S1, S2, S3, S4, S5⟩ := id hS
  obtain ⟨R0, R1, R2, R3⟩ := id hr
  refine z_iload_n dX9_fill_0 rfl rfl ?_
  refine zcx_X9_46 rfl dX9_fill_1 rfl (m_isRecord g h _) rfl rfl ⟨(Nat.le_of_ble_eq_true rfl), (Nat.le_of_ble_eq_true rfl)⟩ ⟨(Nat.le_of_ble_eq_true rfl), (Nat.le_of_ble_eq_true rfl)⟩ (Nat.le_of_ble_eq_true rfl) ?_
  refine z_bif_eq (tgt := 28) dX9_fill_4 rfl (by decide) (fun c4 => ?_) (fun c4 => ?_)
  · skip
    refine z_iconst (v := -1) dX9_fill_28 rfl (by decide) ?_
    exact z_iret dX9_fill_29 rfl rfl (cPost_same hRC (by grind [pFill])) (Nat.le_of_ble_eq_true rfl) (Nat.le_of_ble_eq_true rfl)
  · skip
    refine z_iload_n dX9_fill_7 rfl rfl ?_
    refine z_iconst (v := 0) dX9_fill_8 rfl (by decide) ?_
    refine z_bipush (v := 20) dX9_fill_9 rfl (by decide) ?_
    refine zcx_X9_50 rfl dX9_fill_11 rfl (m_isWithin g h _ _ _) rfl rfl ⟨(Nat.le_of_ble_eq_true rfl), (Nat.le_of_ble_eq_true rfl)⟩ ⟨(Nat.le_of_ble_eq_true rfl), (Nat.le_of_ble_eq_true rfl)⟩ (Nat.le_of_ble_eq_true rfl) ?_
    refine z_bif_eq (tgt := 28) dX9_fill_14 rfl (by decide) (fun c14 => ?_) (fun c14 => ?_)
    · skip
      refine z_iconst (v := -1) dX9_fill_28 rfl (by decide) ?_
      exact z_iret dX9_fill_29 rfl rfl (cPost_same hRC (by grind [pFill])) (Nat.le_of_ble_eq_true rfl) (Nat.le_of_ble_eq_true rfl)
    · skip
      refine z_iload dX9_fill_17 rfl rfl ?_
      refine z_iconst (v := 0) dX9_fill_19 rfl (by decide) ?_
      refine z_bipush (v := 7) dX9_fill_20 rfl (by decide) ?_
      refine zcx_X9_50 rfl dX9_fill_22 rfl (m_isWithin g h _ _ _) rfl rfl ⟨(Nat.le_of_ble_eq_true rfl), (Nat.le_of_ble_eq_true rfl)⟩ ⟨(Nat.le_of_ble_eq_true rfl), (Nat.le_of_ble_eq_true rfl)⟩ (Nat.le_of_ble_eq_true rfl) ?_
      refine z_bif_ne (tgt := 30) dX9_fill_25 rfl (by decide) (fun c25 => ?_) (fun c25 => ?_)
      · skip
        obtain ⟨N, hN, rfl⟩ := nI_of2 (x := n) (M := 20) (n := 20) (by decide) (by grind) c14.2
        first | refine z_aload_n dX9_fill_30 rfl rfl ?_ | refine z_aload_nN dX9_fill_30 rfl rfl ?_
        refine zg_X9_42 rfl dX9_fill_31 rfl S0 rfl ?_
        refine z_iconst (v := 0) dX9_fill_34 rfl (by decide) ?_
        refine z_iload dX9_fill_35 rfl rfl ?_
        refine z_iload dX9_fill_37 rfl rfl ?_
        refine zcv_X9_110 rfl dX9_fill_39 rfl S5.1 (m_setValue g h (x + 53) 9 1 V S5 (by decide) 0 (by decide) sort v) rfl rfl ⟨(Nat.le_of_ble_eq_true rfl), (Nat.le_of_ble_eq_true rfl)⟩ ⟨(Nat.le_of_ble_eq_true rfl), (Nat.le_of_ble_eq_true rfl)⟩ (Nat.le_of_ble_eq_true rfl) ?_
        have hR1 := (RC_v hR (uC V 0 (sVal sort v))).1
        have hm1 := ext_mod (RC_v hR (uC V 0 (sVal sort v))).2 hz (by unfold D1; decide)
        have S0 := hR1.2.2.1.1
        first | refine z_aload_n dX9_fill_42 rfl rfl ?_ | refine z_aload_nN dX9_fill_42 rfl rfl ?_
        refine z_iconst (v := 0) dX9_fill_43 rfl (by decide) ?_
        refine zp_X9_121 rfl dX9_fill_44 rfl S0 rfl rfl (Nat.le_of_ble_eq_true rfl) ?_
        refine z_iconst (v := 0) dX9_fill_47 rfl (by decide) ?_
        refine z_istore dX9_fill_48 rfl (Nat.le_of_ble_eq_true rfl) ?_
        refine z_lv [(6, .int (nI 0)), (0, .ref x), (1, .int r), (2, .int i), (3, .int (nI N)), (4, .int sort), (5, .int v)] ⟨rfl, rfl, rfl, rfl, rfl, rfl, rfl, trivial⟩ ?_
        exact C_fill_L g h x m w r i sort v N hN c4 c25 col p F Z k I P q T (uC V 0 (sVal sort v)) rfl N _ w.1 0 (by omega) (RC_x hR1 (w' := wTorn (wR w w.1) 0) ⟨rfl, rfl, rfl, rfl⟩) (fun a b c => (vu_n (by have := hz.1; omega)).trans (hm1 a b c)) rfl
      · skip
        refine z_iconst (v := -1) dX9_fill_28 rfl (by decide) ?_
        exact z_iret dX9_fill_29 rfl rfl (cPost_same hRC (by grind [pFill])) (Nat.le_of_ble_eq_true rfl) (Nat.le_of_ble_eq_true rfl)

abbrev YX9_move : zY := (yX9_move.cls, cX9_move, 7, (some .int), rmX9_move, yX9_move.name, fun _ _ => True)
set_option maxHeartbeats 800000 in
set_option maxRecDepth 100000 in
theorem C_move_L (g : zG) (h : zH) (x m : Nat) (w : sW) (r i s j : Int32) (N : Nat) (hN : N ≤ 20) (hr1 : isRec r) (hs : isRec s) (col : Nat → Nat) (p : Nat) (F : Nat → Option Nat) (Z : Nat → Int32) (k : Option Nat) (I P : Nat → Option Nat) (q : Nat → Int32) (T : alT) (V : Nat → sC) : ∀ (n : Nat) (h1 : zH) (R : sR) (kk : Nat), kk + n = N → RC h1 x m (wTorn (wR w R) 0) col p F Z k I P q T V → (∀ a, m ≤ a → a < m + 20 → h1.2 a = h.2 a) → pMoveL (ix r) i.toInt (ix s) j.toInt N 0 w.1 = pMoveL (ix r) i.toInt (ix s) j.toInt n kk R → zZ g YX9_move (zE g (cPost x m h (pMove w r i s j (nI N))) 0 0) 35 [(6, .int (nI kk)), (0, .ref x), (1, .int r), (2, .int i), (3, .int s), (4, .int j), (5, .int (nI N))] [] h1 0 0 := by
  intro n
  induction n with
  | zero =>
    intro h1 R kk hin hR1 hm1 he
    refine z_iload dX9_move_35 rfl rfl ?_
    refine z_iload dX9_move_37 rfl rfl ?_
    refine z_icmp_ge (tgt := 106) dX9_move_39 rfl (by decide) (fun c39 => ?_) (fun c39 => absurd c39 (fun z => z (nI_le (by omega) (by omega))))
    refine z_iload dX9_move_106 rfl rfl ?_
    exact z_iret dX9_move_108 rfl rfl (cPost_RC hR1 hm1 (by have z := move_ans (w := w) (r := r) (i := i) (s := s) (j := j) hN hr1 hs (k := kk) (f := 0) (R := R) he; rw [z]; rw [show kk = N from by omega])) (Nat.le_of_ble_eq_true rfl) (Nat.le_of_ble_eq_true rfl)
  | succ n ih =>
    intro h1 R kk hin hR1 hm1 he
    have S0 := hR1.2.2.1.1
    refine z_iload dX9_move_35 rfl rfl ?_
    refine z_iload dX9_move_37 rfl rfl ?_
    refine z_icmp_ge (tgt := 106) dX9_move_39 rfl (by decide) (fun c39 => absurd c39 (nI_ge (by omega) (by omega))) (fun c39 => ?_)
    first | refine z_aload_n dX9_move_42 rfl rfl ?_ | refine z_aload_nN dX9_move_42 rfl rfl ?_
    first | refine z_aload_n dX9_move_43 rfl rfl ?_ | refine z_aload_nN dX9_move_43 rfl rfl ?_
    refine z_iload_n dX9_move_44 rfl rfl ?_
    refine z_iload dX9_move_45 rfl rfl ?_
    refine z_iload dX9_move_47 rfl rfl ?_
    refine z_iadd dX9_move_49 rfl ?_
    refine zcx_X9_91 rfl dX9_move_50 rfl S0 (m_cellFault g h1 x m (wTorn (wR w R) 0) col p F Z k I P q T V hR1 s (j + nI kk) hs) rfl rfl ⟨(Nat.le_of_ble_eq_true rfl), (Nat.le_of_ble_eq_true rfl)⟩ ⟨(Nat.le_of_ble_eq_true rfl), (Nat.le_of_ble_eq_true rfl)⟩ (Nat.le_of_ble_eq_true rfl) ?_
    have hw1 := (wrap_cf (rc_len hR1.2.2.2.2.1 (ix_lt hs)) j (show kk ≤ 20 by omega)).1
    by_cases h0c : (cellF R (ix s) (j.toInt + kk)) = 0
    · have hcfe : cellF R (ix s) (j + nI kk).toInt = 0 := hw1.trans h0c
      rw [show cellF (((wTorn (wR w R) 0) : sW)).1 (ix s) (j + nI kk).toInt = 0 from hcfe]
      have hmf : (moveF R (ix r) (i.toInt + kk) (ix s) (j.toInt + kk)) = (layF R (ix r) (i.toInt + kk) (rCell R (ix s) (j.toInt + kk).toNat).1) := by rw [moveF, if_neg (by rw [h0c]; decide)]
      refine zp_X9_121 rfl dX9_move_53 rfl S0 rfl rfl (Nat.le_of_ble_eq_true rfl) ?_
      have hRb : RC (h1.1, va_up h1.2 x (some (xOb x p k w.2.2.2.1 0))) x m (wTorn (wR w R) 0) col p F Z k I P q T V := RC_x hR1 (w' := (wTorn (wR w R) 0)) ⟨rfl, rfl, rfl, rfl⟩
      have hmb : ∀ a, m ≤ a → a < m + 20 → ((h1.1, va_up h1.2 x (some (xOb x p k w.2.2.2.1 0))) : zH).2 a = h.2 a := fun a b c => (vu_n (by have := hR1.2.1.1; omega)).trans (hm1 a b c)
      have S0b := hRb.2.2.1.1
      have hrb := hRb.2.2.2.2.1
      have hcf : ¬ 0 < cellF R (ix s) (j + nI kk).toInt := by rw [hcfe]; decide
      obtain ⟨hrf0, hi0, hi1⟩ := cf_0 hcf
      obtain ⟨b, hFs⟩ := rc_2 hrb (ix_lt hs) hrf0
      obtain ⟨h2s, hZs, ⟨ho, c, hc, hcl⟩, hcol⟩ := rc_a hrb (ix_lt hs) hFs
      obtain ⟨hie, hil⟩ := ix_eq hi0 hi1
      have hl : (R.2.1 (ix s)).2.length ≤ 20 := ho.2.2.1
      have hck := cl_ok (h := h) (a := b) ho hcl hil
      have hcj : c (ix (j + nI kk)) = rCell R (ix s) (j.toInt + kk).toNat := by rw [hcl _ hil, (wrap_cf (rc_len hR1.2.2.2.2.1 (ix_lt hs)) j (show kk ≤ 20 by omega)).2 (by rw [← (wrap_cf (rc_len hR1.2.2.2.2.1 (ix_lt hs)) j (show kk ≤ 20 by omega)).1]; exact hcf)]; rfl
      first | refine z_aload_n dX9_move_56 rfl rfl ?_ | refine z_aload_nN dX9_move_56 rfl rfl ?_
      refine zg_X9_121 rfl dX9_move_57 rfl vu_s rfl ?_
      refine z_if_ne (tgt := 90) dX9_move_60 rfl (by decide) (fun c60 => absurd c60 (fun z => z rfl)) (fun c60 => ?_)
      first | refine z_aload_n dX9_move_63 rfl rfl ?_ | refine z_aload_nN dX9_move_63 rfl rfl ?_
      first | refine z_aload_n dX9_move_64 rfl rfl ?_ | refine z_aload_nN dX9_move_64 rfl rfl ?_
      refine z_iload_n dX9_move_65 rfl rfl ?_
      refine z_iload_n dX9_move_66 rfl rfl ?_
      refine z_iload dX9_move_67 rfl rfl ?_
      refine z_iadd dX9_move_69 rfl ?_
      first | refine z_aload_n dX9_move_70 rfl rfl ?_ | refine z_aload_nN dX9_move_70 rfl rfl ?_
      refine zg_X9_10 rfl dX9_move_71 rfl S0b rfl ?_
      refine zg_X9_69 rfl dX9_move_74 rfl hrb.1.1 rfl ?_
      refine z_iload_n dX9_move_77 rfl rfl ?_
      refine z_aalds dX9_move_78 rfl hrb.1.2.1 rfl rfl (rec_in hs) hFs ?_
      refine z_iload dX9_move_79 rfl rfl ?_
      refine z_iload dX9_move_81 rfl rfl ?_
      refine z_iadd dX9_move_83 rfl ?_
      refine zc_X9_117 rfl dX9_move_84 rfl (by assumption) ((by have z := m_writeCell g (h1.1, va_up h1.2 x (some (xOb x p k w.2.2.2.1 0))) x m (wTorn (wR w R) 0) col p F Z k I P q T V hRb r (i + nI kk) hr1 b _ _ c hc (show (R.2.1 (ix s)).2.length ≤ 40 by omega) (ix (j + nI kk)) hil hck.1; rwa [hie] at z)) rfl rfl ⟨(Nat.le_of_ble_eq_true rfl), (Nat.le_of_ble_eq_true rfl)⟩ ⟨(Nat.le_of_ble_eq_true rfl), (Nat.le_of_ble_eq_true rfl)⟩ (Nat.le_of_ble_eq_true rfl) (fun vv h2 hz1 => ?_)
      rw [show (((wTorn (wR w R) 0) : sW)).1 = R from rfl, hcj, wrap_lf (R := R) (rc_len hR1.2.2.2.2.1 (ix_lt hr1)) i (show kk ≤ 20 by omega)] at hz1
      rcases hz1 with ⟨hne, rfl, rfl⟩ | ⟨h0, rfl, hR2, hm2⟩
      · skip
        refine zp_X9_121 rfl dX9_move_87 rfl S0b rfl rfl (Nat.le_of_ble_eq_true rfl) ?_
        first | refine z_aload_n dX9_move_90 rfl rfl ?_ | refine z_aload_nN dX9_move_90 rfl rfl ?_
        refine zg_X9_121 rfl dX9_move_91 rfl vu_s rfl ?_
        refine z_if_eq (tgt := 100) dX9_move_94 rfl (by decide) (fun c94 => absurd c94 hne) (fun c94 => ?_)
        refine z_iload dX9_move_97 rfl rfl ?_
        exact z_iret dX9_move_99 rfl rfl (cPost_RC (RC_x hRb (w' := wTorn (wR w R) (layF R (ix r) (i.toInt + kk) (rCell R (ix s) (j.toInt + kk).toNat).1)) ⟨rfl, rfl, rfl, rfl⟩) (fun a b c => (vu_n (by have := hR1.2.1.1; omega)).trans (hmb a b c)) (by have z := move_ans (w := w) (r := r) (i := i) (s := s) (j := j) hN hr1 hs (k := kk) (f := (layF R (ix r) (i.toInt + kk) (rCell R (ix s) (j.toInt + kk).toNat).1)) (R := R) (by rw [he, pMoveL, if_neg (by rw [hmf]; exact hne), hmf]); exact z)) (Nat.le_of_ble_eq_true rfl) (Nat.le_of_ble_eq_true rfl)
      · have hcf2 : ¬ 0 < cellF R (ix r) (i.toInt + kk) := (lf_0 (by rw [h0]; decide)).1
        rw [(wrap_cf (R := R) (rc_len hR1.2.2.2.2.1 (ix_lt hr1)) i (show kk ≤ 20 by omega)).2 hcf2] at hR2
        refine zp_X9_121 rfl dX9_move_87 rfl hR2.2.2.1.1 rfl rfl (Nat.le_of_ble_eq_true rfl) ?_
        first | refine z_aload_n dX9_move_90 rfl rfl ?_ | refine z_aload_nN dX9_move_90 rfl rfl ?_
        refine zg_X9_121 rfl dX9_move_91 rfl vu_s rfl ?_
        refine z_if_eq (tgt := 100) dX9_move_94 rfl (by decide) (fun c94 => ?_) (fun c94 => absurd c94 (fun z => z rfl))
        refine z_iinc (v := nI (kk + 1)) dX9_move_100 rfl rfl (nI_inc kk) (Nat.le_of_ble_eq_true rfl) ?_
        refine z_goto (tgt := 35) dX9_move_103 rfl (by decide) ?_
        refine z_lv [(6, .int (nI (kk + 1))), (0, .ref x), (1, .int r), (2, .int i), (3, .int s), (4, .int j), (5, .int (nI N))] ⟨rfl, rfl, rfl, rfl, rfl, rfl, rfl, trivial⟩ ?_
        exact ih _ (rSet R (ix r) (i.toInt + kk).toNat (sConv (rCell R (ix s) (j.toInt + kk).toNat) (R.2.1 (ix r)).1)) (kk + 1) (by omega) (RC_x hR2 (w' := wTorn (wR w (rSet R (ix r) (i.toInt + kk).toNat (sConv (rCell R (ix s) (j.toInt + kk).toNat) (R.2.1 (ix r)).1))) 0) ⟨rfl, rfl, rfl, rfl⟩) (fun a b c => (vu_n (by have := hR1.2.1.1; omega)).trans ((hm2 a b c).trans (hmb a b c))) (by rw [he, pMoveL, if_pos (by rw [hmf]; exact h0)])
    · have hne := h0c
      rw [show cellF (((wTorn (wR w R) 0) : sW)).1 (ix s) (j + nI kk).toInt = (cellF R (ix s) (j.toInt + kk)) from hw1]
      have hmf : (moveF R (ix r) (i.toInt + kk) (ix s) (j.toInt + kk)) = (cellF R (ix s) (j.toInt + kk)) := by rw [moveF, if_pos (cf_ne h0c)]
      refine zp_X9_121 rfl dX9_move_53 rfl S0 rfl rfl (Nat.le_of_ble_eq_true rfl) ?_
      first | refine z_aload_n dX9_move_56 rfl rfl ?_ | refine z_aload_nN dX9_move_56 rfl rfl ?_
      refine zg_X9_121 rfl dX9_move_57 rfl vu_s rfl ?_
      refine z_if_ne (tgt := 90) dX9_move_60 rfl (by decide) (fun c60 => ?_) (fun c60 => absurd c60 hne)
      first | refine z_aload_n dX9_move_90 rfl rfl ?_ | refine z_aload_nN dX9_move_90 rfl rfl ?_
      refine zg_X9_121 rfl dX9_move_91 rfl vu_s rfl ?_
      refine z_if_eq (tgt := 100) dX9_move_94 rfl (by decide) (fun c94 => absurd c94 hne) (fun c94 => ?_)
      refine z_iload dX9_move_97 rfl rfl ?_
      exact z_iret dX9_move_99 rfl rfl (cPost_RC (RC_x hR1 (w' := wTorn (wR w R) (cellF R (ix s) (j.toInt + kk))) ⟨rfl, rfl, rfl, rfl⟩) (fun a b c => (vu_n (by have := hR1.2.1.1; omega)).trans (hm1 a b c)) (by have z := move_ans (w := w) (r := r) (i := i) (s := s) (j := j) hN hr1 hs (k := kk) (f := (cellF R (ix s) (j.toInt + kk))) (R := R) (by rw [he, pMoveL, if_neg (by rw [hmf]; exact hne), hmf]); exact z)) (Nat.le_of_ble_eq_true rfl) (Nat.le_of_ble_eq_true rfl)

set_option maxHeartbeats 800000 in
set_option maxRecDepth 100000 in
theorem C_move (g : zG) (h : zH) (x m : Nat) (w : sW) (hRC : RepC h x m w) (r i s j n : Int32) : zM g yX9_move cX9_move 7 (some .int) rmX9_move [.ref x, .int r, .int i, .int s, .int j, .int n] h (cPost x m h (pMove w r i s j n)) := by
  refine zM_of (by decide) (Nat.le_of_ble_eq_true rfl) ?_
  obtain ⟨col, p, F, Z, k, I, P, q, T, V, hR⟩ := id hRC
  obtain ⟨hw, hz, hS, hq, hr, hX⟩ := id hR
  obtain ⟨S0, S1, S2, S3, S4, S5⟩ := id hS
  obtain ⟨R0, R1, R2, R3⟩ := id hr
  refine z_iload_n dX9_move_0 rfl rfl ?_
  refine zcx_X9_46 rfl dX9_move_1 rfl (m_isRecord g h _) rfl rfl ⟨(Nat.le_of_ble_eq_true rfl), (Nat.le_of_ble_eq_true rfl)⟩ ⟨(Nat.le_of_ble_eq_true rfl), (Nat.le_of_ble_eq_true rfl)⟩ (Nat.le_of_ble_eq_true rfl) ?_
  refine z_bif_eq (tgt := 25) dX9_move_4 rfl (by decide) (fun c4 => ?_) (fun c4 => ?_)
  · skip
    refine z_iconst (v := -1) dX9_move_25 rfl (by decide) ?_
    exact z_iret dX9_move_26 rfl rfl (cPost_same hRC (by grind [pMove])) (Nat.le_of_ble_eq_true rfl) (Nat.le_of_ble_eq_true rfl)
  · skip
    refine z_iload_n dX9_move_7 rfl rfl ?_
    refine zcx_X9_46 rfl dX9_move_8 rfl (m_isRecord g h _) rfl rfl ⟨(Nat.le_of_ble_eq_true rfl), (Nat.le_of_ble_eq_true rfl)⟩ ⟨(Nat.le_of_ble_eq_true rfl), (Nat.le_of_ble_eq_true rfl)⟩ (Nat.le_of_ble_eq_true rfl) ?_
    refine z_bif_eq (tgt := 25) dX9_move_11 rfl (by decide) (fun c11 => ?_) (fun c11 => ?_)
    · skip
      refine z_iconst (v := -1) dX9_move_25 rfl (by decide) ?_
      exact z_iret dX9_move_26 rfl rfl (cPost_same hRC (by grind [pMove])) (Nat.le_of_ble_eq_true rfl) (Nat.le_of_ble_eq_true rfl)
    · skip
      refine z_iload dX9_move_14 rfl rfl ?_
      refine z_iconst (v := 0) dX9_move_16 rfl (by decide) ?_
      refine z_bipush (v := 20) dX9_move_17 rfl (by decide) ?_
      refine zcx_X9_50 rfl dX9_move_19 rfl (m_isWithin g h _ _ _) rfl rfl ⟨(Nat.le_of_ble_eq_true rfl), (Nat.le_of_ble_eq_true rfl)⟩ ⟨(Nat.le_of_ble_eq_true rfl), (Nat.le_of_ble_eq_true rfl)⟩ (Nat.le_of_ble_eq_true rfl) ?_
      refine z_bif_ne (tgt := 27) dX9_move_22 rfl (by decide) (fun c22 => ?_) (fun c22 => ?_)
      · skip
        obtain ⟨N, hN, rfl⟩ := nI_of2 (x := n) (M := 20) (n := 20) (by decide) (by grind) c22.2
        first | refine z_aload_n dX9_move_27 rfl rfl ?_ | refine z_aload_nN dX9_move_27 rfl rfl ?_
        refine z_iconst (v := 0) dX9_move_28 rfl (by decide) ?_
        refine zp_X9_121 rfl dX9_move_29 rfl S0 rfl rfl (Nat.le_of_ble_eq_true rfl) ?_
        refine z_iconst (v := 0) dX9_move_32 rfl (by decide) ?_
        refine z_istore dX9_move_33 rfl (Nat.le_of_ble_eq_true rfl) ?_
        refine z_lv [(6, .int (nI 0)), (0, .ref x), (1, .int r), (2, .int i), (3, .int s), (4, .int j), (5, .int (nI N))] ⟨rfl, rfl, rfl, rfl, rfl, rfl, rfl, trivial⟩ ?_
        exact C_move_L g h x m w r i s j N hN c4 c11 col p F Z k I P q T V N _ w.1 0 (by omega) (RC_x hR (w' := wTorn (wR w w.1) 0) ⟨rfl, rfl, rfl, rfl⟩) (fun a b c => vu_n (by have := hz.1; omega)) rfl
      · skip
        refine z_iconst (v := -1) dX9_move_25 rfl (by decide) ?_
        exact z_iret dX9_move_26 rfl rfl (cPost_same hRC (by grind [pMove])) (Nat.le_of_ble_eq_true rfl) (Nat.le_of_ble_eq_true rfl)

