theorem img_n {h : zH} {col : Nat → Nat} {i : Option Nat} {I : Option sR} (hI : imgC h col i I) (e : I = none) : i = none := by
  rw [e] at hI; exact hI
theorem img_s {h : zH} {col : Nat → Nat} {i : Option Nat} {I : Option sR} {R : sR} (hI : imgC h col i I) (e : I = some R) : ∃ p F Z, i = some p ∧ rcAt h col 3 3 p R F Z := by
  rw [e] at hI; exact hI

set_option maxHeartbeats 800000 in
set_option maxRecDepth 100000 in
theorem C_back (g : zG) (h : zH) (x m : Nat) (w : sW) (hRC : RepC h x m w) (kk : Int32) : zM g yX9_back cX9_back 3 (some .int) rmX9_back [.ref x, .int kk] h (cPost x m h (pBack w kk)) := by
  refine zM_of (by decide) (Nat.le_of_ble_eq_true rfl) ?_
  obtain ⟨col, p, F, Z, k, I, P, q, T, V, hR⟩ := id hRC
  obtain ⟨hw, hz, hS, hq, hr, hX⟩ := id hR
  obtain ⟨S0, S1, S2, S3, S4, S5⟩ := id hS
  obtain ⟨R0, R1, R2, R3⟩ := id hr
  refine z_iload_n dX9_back_0 rfl rfl ?_
  refine z_iconst (v := 0) dX9_back_1 rfl (by decide) ?_
  refine z_iconst (v := 1) dX9_back_2 rfl (by decide) ?_
  refine zcx_X9_50 rfl dX9_back_3 rfl (m_isWithin g h _ _ _) rfl rfl ⟨(Nat.le_of_ble_eq_true rfl), (Nat.le_of_ble_eq_true rfl)⟩ ⟨(Nat.le_of_ble_eq_true rfl), (Nat.le_of_ble_eq_true rfl)⟩ (Nat.le_of_ble_eq_true rfl) ?_
  refine z_bif_ne (tgt := 11) dX9_back_6 rfl (by decide) (fun c6 => ?_) (fun c6 => ?_)
  · skip
    obtain ⟨kn, hkn1, rfl⟩ := nI_of2 (x := kk) (M := 1) (n := 1) (by decide) (by grind) c6.2
    have hix : ix (nI kn) = kn := nI_clamp (by omega)
    have hm20 := hz.2.1
    have hmx := hz.1
    have hIx := hX.1 kn (by omega)
    rcases hC : w.2.1 kn with _ | R
    · have hIn := img_n hIx hC
      first | refine z_aload_n dX9_back_11 rfl rfl ?_ | refine z_aload_nN dX9_back_11 rfl rfl ?_
      refine zg_X9_16 rfl dX9_back_12 rfl S0 rfl ?_
      refine z_iload_n dX9_back_15 rfl rfl ?_
      refine z_aaldn dX9_back_16 rfl S1 rfl rfl (vp_in_nI (by omega) (by decide)) (by rw [nI_clamp (show kn < 2 ^ 31 by omega)]; exact hIn) ?_
      first | refine z_astore_n dX9_back_17 rfl (Nat.le_of_ble_eq_true rfl) ?_ | refine z_astore_nN dX9_back_17 rfl (Nat.le_of_ble_eq_true rfl) ?_
      first | refine z_aload_n dX9_back_18 rfl rfl ?_ | refine z_aload_nN dX9_back_18 rfl rfl ?_
      refine z_ifnonnullN dX9_back_19 rfl ?_
      refine z_bipush (v := -2) dX9_back_22 rfl (by decide) ?_
      exact z_iret dX9_back_24 rfl rfl (cPost_same hRC (back_none c6 (by rw [hix]; exact hC))) (Nat.le_of_ble_eq_true rfl) (Nat.le_of_ble_eq_true rfl)
    · obtain ⟨pi, Fi, Zi, hIn, hri⟩ := img_s hIx hC
      first | refine z_aload_n dX9_back_11 rfl rfl ?_ | refine z_aload_nN dX9_back_11 rfl rfl ?_
      refine zg_X9_16 rfl dX9_back_12 rfl S0 rfl ?_
      refine z_iload_n dX9_back_15 rfl rfl ?_
      refine z_aalds dX9_back_16 rfl S1 rfl rfl (vp_in_nI (by omega) (by decide)) (by rw [nI_clamp (show kn < 2 ^ 31 by omega)]; exact hIn) ?_
      first | refine z_astore_n dX9_back_17 rfl (Nat.le_of_ble_eq_true rfl) ?_ | refine z_astore_nN dX9_back_17 rfl (Nat.le_of_ble_eq_true rfl) ?_
      first | refine z_aload_n dX9_back_18 rfl rfl ?_ | refine z_aload_nN dX9_back_18 rfl rfl ?_
      refine z_ifnonnull (tgt := 25) dX9_back_19 rfl (by decide) ?_
      first | refine z_aload_n dX9_back_25 rfl rfl ?_ | refine z_aload_nN dX9_back_25 rfl rfl ?_
      first | refine z_aload_n dX9_back_26 rfl rfl ?_ | refine z_aload_nN dX9_back_26 rfl rfl ?_
      refine zc_X9_275 rfl dX9_back_27 rfl hri.1.1 (m_rcopy g h col 3 3 pi R Fi Zi hri hw) rfl rfl ⟨(Nat.le_of_ble_eq_true rfl), (Nat.le_of_ble_eq_true rfl)⟩ ⟨(Nat.le_of_ble_eq_true rfl), (Nat.le_of_ble_eq_true rfl)⟩ (Nat.le_of_ble_eq_true rfl) (fun v h1 hz1 => ?_)
      obtain ⟨rfl, F', Z', G, rfl, hI⟩ := hz1
      have hG := hI.2.2.1
      have hG3 := hI.1
      have hold : ∀ z, z < h.1 → (rUp h.1 F' Z' G).2 z = h.2 z := fun z hz2 => (rUp_out (by omega)).trans (hG z hz2)
      have hwH : wfH (rUp h.1 F' Z' G) := fun z hz => (rUp_out (by have hz : G.1 ≤ z := hz; omega)).trans (hI.2.1 z hz)
      refine zp_X9_10 rfl dX9_back_30 rfl ((hold x (by omega)).trans S0) rfl rfl (Nat.le_of_ble_eq_true rfl) ?_
      have hrB := cp_rc (col' := (fun z => if h.1 + 3 ≤ z then 2 else if h.1 ≤ z then 8 else col z)) (cc' := 2) (oc' := 8) (h1 := ((rUp h.1 F' Z' G).1, va_up (rUp h.1 F' Z' G).2 x (some (xOb x h.1 k w.2.2.2.1 w.2.2.2.2.1)))) hri hI (fun z z1 => vu_n (by omega)) (fun z z1 z2 => by show (if _ then _ else if _ then _ else _) = _; rw [if_neg (by omega), if_pos z1]) (fun z z1 => by show (if _ then _ else _) = _; rw [if_pos z1])
      first | refine z_aload_n dX9_back_33 rfl rfl ?_ | refine z_aload_nN dX9_back_33 rfl rfl ?_
      refine zg_X9_10 rfl dX9_back_34 rfl vu_s rfl ?_
      refine zcx_X9_278 rfl dX9_back_37 rfl hrB.1.1 (m_holders g ((rUp h.1 F' Z' G).1, va_up (rUp h.1 F' Z' G).2 x (some (xOb x h.1 k w.2.2.2.1 w.2.2.2.2.1))) (fun z => if h.1 + 3 ≤ z then 2 else if h.1 ≤ z then 8 else col z) 2 8 h.1 R F' Z' hrB) rfl rfl ⟨(Nat.le_of_ble_eq_true rfl), (Nat.le_of_ble_eq_true rfl)⟩ ⟨(Nat.le_of_ble_eq_true rfl), (Nat.le_of_ble_eq_true rfl)⟩ (Nat.le_of_ble_eq_true rfl) ?_
      have hold2 : ∀ z, z < h.1 → z ≠ x → ((rUp h.1 F' Z' G).1, va_up (rUp h.1 F' Z' G).2 x (some (xOb x h.1 k w.2.2.2.1 w.2.2.2.2.1))).2 z = h.2 z := fun z hz2 hne => (vu_n hne).trans (hold z hz2)
      have hwB : wfH ((rUp h.1 F' Z' G).1, va_up (rUp h.1 F' Z' G).2 x (some (xOb x h.1 k w.2.2.2.1 w.2.2.2.2.1))) := fun z hz => (vu_n (by have hz : G.1 ≤ z := hz; omega)).trans (hwH z hz)
      have hxB : ext h ((rUp h.1 F' Z' G).1, va_up (rUp h.1 F' Z' G).2 x (some (xOb x h.1 k w.2.2.2.1 w.2.2.2.2.1))) col (fun z => if h.1 + 3 ≤ z then 2 else if h.1 ≤ z then 8 else col z) (fun c => c = 1) := ⟨by show h.1 ≤ G.1; omega, hwB, fun z hz2 => by show (if _ then _ else if _ then _ else _) = _; rw [if_neg (by omega), if_neg (by omega)], fun z hz2 hD => hold2 z hz2 (fun e => hD (by rw [e]; exact hz.2.2.1 x (by omega) (by omega) (by omega)))⟩
      have hsB : stAt ((rUp h.1 F' Z' G).1, va_up (rUp h.1 F' Z' G).2 x (some (xOb x h.1 k w.2.2.2.1 w.2.2.2.2.1))) x h.1 k w.2.2.2.1 w.2.2.2.2.1 I P q T V := ⟨vu_s, (hold2 _ (by omega) (by omega)).trans S1, (hold2 _ (by omega) (by omega)).trans S2, (hold2 _ (by omega) (by omega)).trans S3, alAt_fr S4 (fun z z1 z2 => hold2 z (by omega) (by omega)), cAt_fr S5 (fun z z1 z2 => hold2 z (by omega) (by omega))⟩
      exact z_iret dX9_back_40 rfl rfl (cPost_RC (RC_bk hR hxB hsB hrB) (fun z z1 z2 => hold2 z (by omega) (by omega)) (by rw [back_some c6 (by rw [hix]; exact hC)]; rfl)) (Nat.le_of_ble_eq_true rfl) (Nat.le_of_ble_eq_true rfl)
  · skip
    refine z_iconst (v := -1) dX9_back_9 rfl (by decide) ?_
    exact z_iret dX9_back_10 rfl rfl (cPost_same hRC (by rw [pBack, if_pos c6])) (Nat.le_of_ble_eq_true rfl) (Nat.le_of_ble_eq_true rfl)

