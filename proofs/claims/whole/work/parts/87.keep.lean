set_option maxHeartbeats 800000 in
set_option maxRecDepth 100000 in
theorem m_rcopy (g : zG) (h : zH) (col : Nat → Nat) (cc oc p : Nat) (R : sR) (F : Nat → Option Nat) (Z : Nat → Int32) (hr : rcAt h col cc oc p R F Z) (hw : wfH h) : zM g yX8_copy cX8_copy 3 (some (.object "LoggerTwins$Records")) rmX8_copy [.ref p] h (fun v h1 => v = some (.ref h.1) ∧ ∃ F' Z' G, h1 = rUp h.1 F' Z' G ∧ cpI h R F Z 8 F' Z' G) := by
  refine zM_of (by decide) (Nat.le_of_ble_eq_true rfl) ?_
  refine zn_X8_12 rfl dX8_copy_0 rfl (Nat.le_of_ble_eq_true rfl) (Nat.le_of_ble_eq_true rfl) ?_
  refine z_dup dX8_copy_3 rfl rfl ?_
  refine zc_X8_25 rfl dX8_copy_4 rfl (m_rinit g _ h.1 _ vu_s rfl) rfl rfl ⟨(Nat.le_of_ble_eq_true rfl), (Nat.le_of_ble_eq_true rfl)⟩ ⟨(Nat.le_of_ble_eq_true rfl), (Nat.le_of_ble_eq_true rfl)⟩ (Nat.le_of_ble_eq_true rfl) (fun v h1 hz => ?_)
  obtain ⟨rfl, rfl⟩ := hz
  rw [rUp_vu]
  first | refine z_astore_n dX8_copy_7 rfl (Nat.le_of_ble_eq_true rfl) ?_ | refine z_astore_nN dX8_copy_7 rfl (Nat.le_of_ble_eq_true rfl) ?_
  refine z_iconst (v := 0) dX8_copy_8 rfl (by decide) ?_
  refine z_istore_n dX8_copy_9 rfl (Nat.le_of_ble_eq_true rfl) ?_
  refine z_lv [(1, .ref h.1), (2, .int (nI 0)), (0, .ref p)] ⟨rfl, rfl, rfl, trivial⟩ ?_
  exact m_rcopy_L g h col cc oc p R F Z hr hw 8 _ _ _ 0 (by omega) (cp_0 hw R F Z)

theorem cp_rc {h G : zH} {col col' : Nat → Nat} {cc oc cc' oc' p : Nat} {R : sR} {F F' : Nat → Option Nat} {Z Z' : Nat → Int32} (hr : rcAt h col cc oc p R F Z) (hI : cpI h R F Z 8 F' Z' G) {h1 : zH} (hf : ∀ q, h.1 ≤ q → h1.2 q = (rUp h.1 F' Z' G).2 q) (h3 : ∀ q, h.1 ≤ q → q < h.1 + 3 → col' q = oc') (h4 : ∀ q, h.1 + 3 ≤ q → col' q = cc') : rcAt h1 col' cc' oc' h.1 R F' Z' := by
  obtain ⟨a1, a2, a3, a4, a5, a6, a7⟩ := hI
  refine ⟨rAt_fr (rUp_at _ _ _ _) (fun q q1 q2 => hf q q1), h3, fun r hr8 => ?_, fun r s r8 s8 er es => ?_⟩
  · rcases hr.2.2.1 r hr8 with ⟨z1, z2, z3⟩ | ⟨z1, z2, z3⟩ | ⟨z1, z2, a, z3, z4, -⟩
    · have := a5 r hr8 z2; exact Or.inl ⟨z1, this.1, this.2.trans z3⟩
    · have := a5 r hr8 z2; exact Or.inr (Or.inl ⟨z1, this.1, this.2.trans z3⟩)
    · obtain ⟨y1, b, y2, y3, y4⟩ := a6 r a hr8 z3
      exact Or.inr (Or.inr ⟨z1, y1, b, y2, cIs_fr y4 (fun q q1 q2 => (hf q (by omega)).trans (rUp_out (by omega))), fun q q1 q2 => h4 q (by omega)⟩)
  · have ea : ∀ t, t < 8 → R.1 t = 2 → ∃ a, F t = some a := fun t ht e => by
      rcases hr.2.2.1 t ht with ⟨z1, -⟩ | ⟨z1, -⟩ | ⟨-, -, a, z3, -⟩
      · rw [z1] at e; exact absurd e (by decide)
      · rw [z1] at e; exact absurd e (by decide)
      · exact ⟨a, z3⟩
    obtain ⟨a, e1⟩ := ea r r8 er
    obtain ⟨b, e2⟩ := ea s s8 es
    rw [hr.2.2.2 r s r8 s8 er es, a7 r s a b r8 s8 e1 e2, e1, e2]
    exact ⟨fun z => Option.some.inj z, fun z => by rw [z]⟩
theorem RC_img {x m : Nat} {h h1 : zH} {w : sW} {col col' : Nat → Nat} {p : Nat} {F : Nat → Option Nat} {Z : Nat → Int32} {k : Option Nat} {I I' P : Nat → Option Nat} {q : Nat → Int32} {T : alT} {V : Nat → sC} (hR : RC h x m w col p F Z k I P q T V) {kn : Nat} (hx : ext h h1 col col' (fun c => c = 1)) (hs : stAt h1 x p k w.2.2.2.1 w.2.2.2.2.1 I' P q T V) (hP : ∀ i, i ≠ kn → I' i = I i) {R : sR} {a : Nat} (ha : I' kn = some a) {F2 : Nat → Option Nat} {Z2 : Nat → Int32} (hp : rcAt h1 col' 3 3 a R F2 Z2) : RC h1 x m (wImg w kn R) col' p F Z k I' P q T V := by
  obtain ⟨a1, a2, a3, a4, a5, b1, b2, b3⟩ := hR
  refine ⟨hx.2.1, zone_ext hx a2, hs, a4, rcAt_ext a1 hx a5 (by omega) (by omega), fun i hi => ?_, coC_ext a1 hx b2 (by omega), fun i hi => patC_ext a1 hx (b3 i hi) (by omega) (by omega)⟩
  show imgC h1 col' (I' i) (if i = kn then some R else w.2.1 i)
  by_cases e : i = kn
  · rw [if_pos e, e]; exact ⟨a, F2, Z2, ha, hp⟩
  · rw [if_neg e, hP i e]
    exact imgC_ext a1 hx (b1 i hi) (by omega)
theorem RC_bk {x m : Nat} {h h1 : zH} {w : sW} {col col' : Nat → Nat} {p : Nat} {F : Nat → Option Nat} {Z : Nat → Int32} {k : Option Nat} {I P : Nat → Option Nat} {q : Nat → Int32} {T : alT} {V : Nat → sC} (hR : RC h x m w col p F Z k I P q T V) (hx : ext h h1 col col' (fun c => c = 1)) {a : Nat} (hs : stAt h1 x a k w.2.2.2.1 w.2.2.2.2.1 I P q T V) {R : sR} {F2 : Nat → Option Nat} {Z2 : Nat → Int32} (hp : rcAt h1 col' 2 8 a R F2 Z2) : RC h1 x m (wR w R) col' a F2 Z2 k I P q T V := by
  obtain ⟨a1, a2, a3, a4, a5, b1, b2, b3⟩ := hR
  exact ⟨hx.2.1, zone_ext hx a2, hs, a4, hp, fun i hi => imgC_ext a1 hx (b1 i hi) (by omega), coC_ext a1 hx b2 (by omega), fun i hi => patC_ext a1 hx (b3 i hi) (by omega) (by omega)⟩

set_option maxHeartbeats 800000 in
set_option maxRecDepth 100000 in
theorem C_keep (g : zG) (h : zH) (x m : Nat) (w : sW) (hRC : RepC h x m w) (kk : Int32) : zM g yX9_keep cX9_keep 3 (some .int) rmX9_keep [.ref x, .int kk] h (cPost x m h (pKeep w kk)) := by
  refine zM_of (by decide) (Nat.le_of_ble_eq_true rfl) ?_
  obtain ⟨col, p, F, Z, k, I, P, q, T, V, hR⟩ := id hRC
  obtain ⟨hw, hz, hS, hq, hr, hX⟩ := id hR
  obtain ⟨S0, S1, S2, S3, S4, S5⟩ := id hS
  obtain ⟨R0, R1, R2, R3⟩ := id hr
  refine z_iload_n dX9_keep_0 rfl rfl ?_
  refine z_iconst (v := 0) dX9_keep_1 rfl (by decide) ?_
  refine z_iconst (v := 1) dX9_keep_2 rfl (by decide) ?_
  refine zcx_X9_50 rfl dX9_keep_3 rfl (m_isWithin g h _ _ _) rfl rfl ⟨(Nat.le_of_ble_eq_true rfl), (Nat.le_of_ble_eq_true rfl)⟩ ⟨(Nat.le_of_ble_eq_true rfl), (Nat.le_of_ble_eq_true rfl)⟩ (Nat.le_of_ble_eq_true rfl) ?_
  refine z_bif_ne (tgt := 11) dX9_keep_6 rfl (by decide) (fun c6 => ?_) (fun c6 => ?_)
  · skip
    obtain ⟨kn, hkn1, rfl⟩ := nI_of2 (x := kk) (M := 1) (n := 1) (by decide) (by grind) c6.2
    have hix : ix (nI kn) = kn := nI_clamp (by omega)
    have hm20 := hz.2.1
    have hmx := hz.1
    have hIx := hX.1 kn (by omega)
    rcases hIn : I kn with _ | a0
    · have hst : ¬ (w.2.1 kn).isSome = true := fun e => absurd ((img_iff hIx).mp e) (by rw [hIn]; decide)
      first | refine z_aload_n dX9_keep_11 rfl rfl ?_ | refine z_aload_nN dX9_keep_11 rfl rfl ?_
      refine zg_X9_16 rfl dX9_keep_12 rfl S0 rfl ?_
      refine z_iload_n dX9_keep_15 rfl rfl ?_
      refine z_aaldn dX9_keep_16 rfl S1 rfl rfl (vp_in_nI (by omega) (by decide)) (by rw [nI_clamp (show kn < 2 ^ 31 by omega)]; exact hIn) ?_
      refine z_ifnonnullN dX9_keep_17 rfl ?_
      refine z_iconst (v := 0) dX9_keep_20 rfl (by decide) ?_
      refine z_goto (tgt := 25) dX9_keep_21 rfl (by decide) ?_
      refine z_istore_n dX9_keep_25 rfl (Nat.le_of_ble_eq_true rfl) ?_
      first | refine z_aload_n dX9_keep_26 rfl rfl ?_ | refine z_aload_nN dX9_keep_26 rfl rfl ?_
      refine zg_X9_16 rfl dX9_keep_27 rfl S0 rfl ?_
      refine z_iload_n dX9_keep_30 rfl rfl ?_
      first | refine z_aload_n dX9_keep_31 rfl rfl ?_ | refine z_aload_nN dX9_keep_31 rfl rfl ?_
      refine zg_X9_10 rfl dX9_keep_32 rfl S0 rfl ?_
      refine zc_X9_275 rfl dX9_keep_35 rfl R0.1 (m_rcopy g h col 2 8 p w.1 F Z hr hw) rfl rfl ⟨(Nat.le_of_ble_eq_true rfl), (Nat.le_of_ble_eq_true rfl)⟩ ⟨(Nat.le_of_ble_eq_true rfl), (Nat.le_of_ble_eq_true rfl)⟩ (Nat.le_of_ble_eq_true rfl) (fun v h1 hz1 => ?_)
      obtain ⟨rfl, F', Z', G, rfl, hI⟩ := hz1
      have hG := hI.2.2.1
      have hG3 := hI.1
      have hold : ∀ z, z < h.1 → (rUp h.1 F' Z' G).2 z = h.2 z := fun z hz2 => (rUp_out (by omega)).trans (hG z hz2)
      have hwH : wfH (rUp h.1 F' Z' G) := fun z hz => (rUp_out (by have hz : G.1 ≤ z := hz; omega)).trans (hI.2.1 z hz)
      refine z_aast dX9_keep_38 rfl (hold (x + 4) (by omega) |>.trans S1) rfl (rUp_at _ _ _ _).1 rfl (vp_in_nI (by omega) (by decide)) ?_
      rw [nI_clamp (show kn < 2 ^ 31 by omega)]
      refine z_iload_n dX9_keep_39 rfl rfl ?_
      have hold2 : ∀ z, z < h.1 → z ≠ x + 4 → ((rUp h.1 F' Z' G).1, va_up (rUp h.1 F' Z' G).2 (x + 4) (some (.inl (5, 2, .inr (.inr (.inr (.inr (va_up I kn (some h.1))))))))).2 z = h.2 z := fun z hz2 hne => (vu_n hne).trans (hold z hz2)
      have hwK : wfH ((rUp h.1 F' Z' G).1, va_up (rUp h.1 F' Z' G).2 (x + 4) (some (.inl (5, 2, .inr (.inr (.inr (.inr (va_up I kn (some h.1))))))))) := fun z hz => (vu_n (by have hz : G.1 ≤ z := hz; omega)).trans (hwH z hz)
      have hxK : ext h ((rUp h.1 F' Z' G).1, va_up (rUp h.1 F' Z' G).2 (x + 4) (some (.inl (5, 2, .inr (.inr (.inr (.inr (va_up I kn (some h.1))))))))) col (fun z => if h.1 ≤ z then 3 else col z) (fun c => c = 1) := ⟨by show h.1 ≤ G.1; omega, hwK, fun z hz2 => by show (if _ then _ else _) = _; rw [if_neg (by omega)], fun z hz2 hD => hold2 z hz2 (fun e => hD (by rw [e]; exact hz.2.2.1 (x + 4) (by omega) (by omega) (by omega)))⟩
      have hrK := cp_rc (col' := fun z => if h.1 ≤ z then 3 else col z) (cc' := 3) (oc' := 3) (h1 := ((rUp h.1 F' Z' G).1, va_up (rUp h.1 F' Z' G).2 (x + 4) (some (.inl (5, 2, .inr (.inr (.inr (.inr (va_up I kn (some h.1)))))))))) hr hI (fun z z1 => vu_n (by omega)) (fun z z1 z2 => by show (if _ then _ else _) = _; rw [if_pos z1]) (fun z z1 => by show (if _ then _ else _) = _; rw [if_pos (by omega)])
      have hsK : stAt ((rUp h.1 F' Z' G).1, va_up (rUp h.1 F' Z' G).2 (x + 4) (some (.inl (5, 2, .inr (.inr (.inr (.inr (va_up I kn (some h.1))))))))) x p k w.2.2.2.1 w.2.2.2.2.1 (va_up I kn (some h.1)) P q T V := ⟨(hold2 _ (by omega) (by omega)).trans S0, vu_s, (hold2 _ (by omega) (by omega)).trans S2, (hold2 _ (by omega) (by omega)).trans S3, alAt_fr S4 (fun z z1 z2 => hold2 z (by omega) (by omega)), cAt_fr S5 (fun z z1 z2 => hold2 z (by omega) (by omega))⟩
      exact z_iret dX9_keep_40 rfl rfl (cPost_RC (RC_img hR hxK hsK (fun i hne => vu_n hne) vu_s hrK) (fun z z1 z2 => hold2 z (by omega) (by omega)) (by rw [pKeep, if_neg (fun z => z c6), hix, if_neg hst])) (Nat.le_of_ble_eq_true rfl) (Nat.le_of_ble_eq_true rfl)
    · have hst : (w.2.1 kn).isSome = true := (img_iff hIx).mpr (by rw [hIn]; rfl)
      first | refine z_aload_n dX9_keep_11 rfl rfl ?_ | refine z_aload_nN dX9_keep_11 rfl rfl ?_
      refine zg_X9_16 rfl dX9_keep_12 rfl S0 rfl ?_
      refine z_iload_n dX9_keep_15 rfl rfl ?_
      refine z_aalds dX9_keep_16 rfl S1 rfl rfl (vp_in_nI (by omega) (by decide)) (by rw [nI_clamp (show kn < 2 ^ 31 by omega)]; exact hIn) ?_
      refine z_ifnonnull (tgt := 24) dX9_keep_17 rfl (by decide) ?_
      refine z_iconst (v := 1) dX9_keep_24 rfl (by decide) ?_
      refine z_istore_n dX9_keep_25 rfl (Nat.le_of_ble_eq_true rfl) ?_
      first | refine z_aload_n dX9_keep_26 rfl rfl ?_ | refine z_aload_nN dX9_keep_26 rfl rfl ?_
      refine zg_X9_16 rfl dX9_keep_27 rfl S0 rfl ?_
      refine z_iload_n dX9_keep_30 rfl rfl ?_
      first | refine z_aload_n dX9_keep_31 rfl rfl ?_ | refine z_aload_nN dX9_keep_31 rfl rfl ?_
      refine zg_X9_10 rfl dX9_keep_32 rfl S0 rfl ?_
      refine zc_X9_275 rfl dX9_keep_35 rfl R0.1 (m_rcopy g h col 2 8 p w.1 F Z hr hw) rfl rfl ⟨(Nat.le_of_ble_eq_true rfl), (Nat.le_of_ble_eq_true rfl)⟩ ⟨(Nat.le_of_ble_eq_true rfl), (Nat.le_of_ble_eq_true rfl)⟩ (Nat.le_of_ble_eq_true rfl) (fun v h1 hz1 => ?_)
      obtain ⟨rfl, F', Z', G, rfl, hI⟩ := hz1
      have hG := hI.2.2.1
      have hG3 := hI.1
      have hold : ∀ z, z < h.1 → (rUp h.1 F' Z' G).2 z = h.2 z := fun z hz2 => (rUp_out (by omega)).trans (hG z hz2)
      have hwH : wfH (rUp h.1 F' Z' G) := fun z hz => (rUp_out (by have hz : G.1 ≤ z := hz; omega)).trans (hI.2.1 z hz)
      refine z_aast dX9_keep_38 rfl (hold (x + 4) (by omega) |>.trans S1) rfl (rUp_at _ _ _ _).1 rfl (vp_in_nI (by omega) (by decide)) ?_
      rw [nI_clamp (show kn < 2 ^ 31 by omega)]
      refine z_iload_n dX9_keep_39 rfl rfl ?_
      have hold2 : ∀ z, z < h.1 → z ≠ x + 4 → ((rUp h.1 F' Z' G).1, va_up (rUp h.1 F' Z' G).2 (x + 4) (some (.inl (5, 2, .inr (.inr (.inr (.inr (va_up I kn (some h.1))))))))).2 z = h.2 z := fun z hz2 hne => (vu_n hne).trans (hold z hz2)
      have hwK : wfH ((rUp h.1 F' Z' G).1, va_up (rUp h.1 F' Z' G).2 (x + 4) (some (.inl (5, 2, .inr (.inr (.inr (.inr (va_up I kn (some h.1))))))))) := fun z hz => (vu_n (by have hz : G.1 ≤ z := hz; omega)).trans (hwH z hz)
      have hxK : ext h ((rUp h.1 F' Z' G).1, va_up (rUp h.1 F' Z' G).2 (x + 4) (some (.inl (5, 2, .inr (.inr (.inr (.inr (va_up I kn (some h.1))))))))) col (fun z => if h.1 ≤ z then 3 else col z) (fun c => c = 1) := ⟨by show h.1 ≤ G.1; omega, hwK, fun z hz2 => by show (if _ then _ else _) = _; rw [if_neg (by omega)], fun z hz2 hD => hold2 z hz2 (fun e => hD (by rw [e]; exact hz.2.2.1 (x + 4) (by omega) (by omega) (by omega)))⟩
      have hrK := cp_rc (col' := fun z => if h.1 ≤ z then 3 else col z) (cc' := 3) (oc' := 3) (h1 := ((rUp h.1 F' Z' G).1, va_up (rUp h.1 F' Z' G).2 (x + 4) (some (.inl (5, 2, .inr (.inr (.inr (.inr (va_up I kn (some h.1)))))))))) hr hI (fun z z1 => vu_n (by omega)) (fun z z1 z2 => by show (if _ then _ else _) = _; rw [if_pos z1]) (fun z z1 => by show (if _ then _ else _) = _; rw [if_pos (by omega)])
      have hsK : stAt ((rUp h.1 F' Z' G).1, va_up (rUp h.1 F' Z' G).2 (x + 4) (some (.inl (5, 2, .inr (.inr (.inr (.inr (va_up I kn (some h.1))))))))) x p k w.2.2.2.1 w.2.2.2.2.1 (va_up I kn (some h.1)) P q T V := ⟨(hold2 _ (by omega) (by omega)).trans S0, vu_s, (hold2 _ (by omega) (by omega)).trans S2, (hold2 _ (by omega) (by omega)).trans S3, alAt_fr S4 (fun z z1 z2 => hold2 z (by omega) (by omega)), cAt_fr S5 (fun z z1 z2 => hold2 z (by omega) (by omega))⟩
      exact z_iret dX9_keep_40 rfl rfl (cPost_RC (RC_img hR hxK hsK (fun i hne => vu_n hne) vu_s hrK) (fun z z1 z2 => hold2 z (by omega) (by omega)) (by rw [pKeep, if_neg (fun z => z c6), hix, if_pos hst])) (Nat.le_of_ble_eq_true rfl) (Nat.le_of_ble_eq_true rfl)
  · skip
    refine z_iconst (v := -1) dX9_keep_9 rfl (by decide) ?_
    exact z_iret dX9_keep_10 rfl rfl (cPost_same hRC (by rw [pKeep, if_pos c6])) (Nat.le_of_ble_eq_true rfl) (Nat.le_of_ble_eq_true rfl)

