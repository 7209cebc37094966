set_option maxHeartbeats 800000 in
set_option maxRecDepth 100000 in
theorem law_loop (g : zG) (b L n0 : Nat) (xs : Nat → Int32) (nm : String) (hg : g.2.2.2 = n0) (hL : L ≤ 3072) (x m : Nat) : ∀ (n k : Nat) (H : zH) (w : sW), k + n = 513 → LI x m w H → zZ g (YL b L n0 xs nm) QL 18 [(3, .int (nI (6 * k))), (2, .ref m), (1, .ref x), (0, .ref b)] [] H (100 + 35 * k) (6000 + 1018 * k) := by
  intro n
  induction n with
  | zero =>
    intro k H w hk hI
    refine z_iload_n dL_law_18 rfl rfl ?_
    refine z_aload_n dL_law_19 rfl rfl ?_
    refine z_slen hg dL_law_20 rfl ?_
    refine z_bipush (v := 6) dL_law_21 rfl (by decide) ?_
    refine z_isub dL_law_23 rfl ?_
    refine z_icmp_gt (tgt := 1292) dL_law_24 rfl (by decide) (fun c => ?_) (fun c => absurd ((law_gt (i := 6 * k) (by omega) hL).mpr (by omega)) c)
    refine z_iconst (v := 1) dL_law_1292 rfl (by decide) ?_
    exact z_lawret hg dL_law_1293 rfl (by omega) (by omega)
  | succ n ih =>
    intro k H w hk hI
    refine z_iload_n dL_law_18 rfl rfl ?_
    refine z_aload_n dL_law_19 rfl rfl ?_
    refine z_slen hg dL_law_20 rfl ?_
    refine z_bipush (v := 6) dL_law_21 rfl (by decide) ?_
    refine z_isub dL_law_23 rfl ?_
    refine z_icmp_gt (tgt := 1292) dL_law_24 rfl (by decide) (fun c => ?_) (fun c => ?_)
    · skip
      refine z_iconst (v := 1) dL_law_1292 rfl (by decide) ?_
      exact z_lawret hg dL_law_1293 rfl (by omega) (by omega)
    · have hi : 6 * k + 6 ≤ L := by
        rcases Nat.lt_or_ge L (6 * k + 6) with z | z
        · exact absurd ((law_gt (i := 6 * k) (by omega) hL).mpr z) c
        · exact z
      refine z_aload_n dL_law_27 rfl rfl ?_
      refine z_iload_n dL_law_28 rfl rfl ?_
      refine z_sld hg dL_law_29 rfl (vp_in_nI (by omega) (by omega)) ?_
      refine z_bipush (v := 31) dL_law_30 rfl (by decide) ?_
      refine z_iand dL_law_32 rfl ?_
      have K : ∀ (H' : zH) (w' : sW), LI x m w' H' → zZ g (YL b L n0 xs nm) QL 1286 [(3, .int (nI (6 * k))), (2, .ref m), (1, .ref x), (0, .ref b)] [] H' (100 + 35 * k + 35) (6000 + 1018 * k + 1018) := by
        intro H' w' hI'
        refine z_iinc (v := nI (6 * (k + 1))) dL_law_1286 rfl rfl (nI_j (6 * k) 6) (Nat.le_of_ble_eq_true rfl) ?_
        refine z_goto (tgt := 18) dL_law_1289 rfl (by decide) ?_
        refine z_lv [(3, .int (nI (6 * (k + 1)))), (2, .ref m), (1, .ref x), (0, .ref b)] ⟨rfl, rfl, rfl, rfl, trivial⟩ ?_
        exact z_widen (by omega) (by omega) (ih (k + 1) H' w' (by omega) hI')
      exact z_sw30 (fun s33 => z_tableOut (tgt := 1286) dL_law_33 rfl (sw_out s33) (by decide) (z_widen (by omega) (by omega) (K H w hI))) (fun _ => z_tableIn (off := 139) (tgt := 172) dL_law_33 rfl (by decide) (by decide) (by decide) (by decide) (L_record g b L n0 xs nm hg hL x m w H hI (6 * k) (by omega) _ _ (by omega) (by omega) K)) (fun _ => z_tableIn (off := 182) (tgt := 215) dL_law_33 rfl (by decide) (by decide) (by decide) (by decide) (L_share g b L n0 xs nm hg hL x m w H hI (6 * k) (by omega) _ _ (by omega) (by omega) K)) (fun _ => z_tableIn (off := 215) (tgt := 248) dL_law_33 rfl (by decide) (by decide) (by decide) (by decide) (L_kind g b L n0 xs nm hg hL x m w H hI (6 * k) (by omega) _ _ (by omega) (by omega) K)) (fun _ => z_tableIn (off := 248) (tgt := 281) dL_law_33 rfl (by decide) (by decide) (by decide) (by decide) (L_size g b L n0 xs nm hg hL x m w H hI (6 * k) (by omega) _ _ (by omega) (by omega) K)) (fun _ => z_tableIn (off := 271) (tgt := 304) dL_law_33 rfl (by decide) (by decide) (by decide) (by decide) (L_ask g b L n0 xs nm hg hL x m w H hI (6 * k) (by omega) _ _ (by omega) (by omega) K)) (fun _ => z_tableIn (off := 314) (tgt := 347) dL_law_33 rfl (by decide) (by decide) (by decide) (by decide) (L_box g b L n0 xs nm hg hL x m w H hI (6 * k) (by omega) _ _ (by omega) (by omega) K)) (fun _ => z_tableIn (off := 347) (tgt := 380) dL_law_33 rfl (by decide) (by decide) (by decide) (by decide) (L_got g b L n0 xs nm hg hL x m w H hI (6 * k) (by omega) _ _ (by omega) (by omega) K)) (fun _ => z_tableIn (off := 361) (tgt := 394) dL_law_33 rfl (by decide) (by decide) (by decide) (by decide) (L_put g b L n0 xs nm hg hL x m w H hI (6 * k) (by omega) _ _ (by omega) (by omega) K)) (fun _ => z_tableIn (off := 414) (tgt := 447) dL_law_33 rfl (by decide) (by decide) (by decide) (by decide) (L_lay g b L n0 xs nm hg hL x m w H hI (6 * k) (by omega) _ _ (by omega) (by omega) K)) (fun _ => z_tableIn (off := 467) (tgt := 500) dL_law_33 rfl (by decide) (by decide) (by decide) (by decide) (L_fill g b L n0 xs nm hg hL x m w H hI (6 * k) (by omega) _ _ (by omega) (by omega) K)) (fun _ => z_tableIn (off := 530) (tgt := 563) dL_law_33 rfl (by decide) (by decide) (by decide) (by decide) (L_move g b L n0 xs nm hg hL x m w H hI (6 * k) (by omega) _ _ (by omega) (by omega) K)) (fun _ => z_tableIn (off := 593) (tgt := 626) dL_law_33 rfl (by decide) (by decide) (by decide) (by decide) (L_torn g b L n0 xs nm hg hL x m w H hI (6 * k) (by omega) _ _ (by omega) (by omega) K)) (fun _ => z_tableIn (off := 606) (tgt := 639) dL_law_33 rfl (by decide) (by decide) (by decide) (by decide) (L_sum g b L n0 xs nm hg hL x m w H hI (6 * k) (by omega) _ _ (by omega) (by omega) K)) (fun _ => z_tableIn (off := 639) (tgt := 672) dL_law_33 rfl (by decide) (by decide) (by decide) (by decide) (L_rate g b L n0 xs nm hg hL x m w H hI (6 * k) (by omega) _ _ (by omega) (by omega) K)) (fun _ => z_tableIn (off := 672) (tgt := 705) dL_law_33 rfl (by decide) (by decide) (by decide) (by decide) (L_like g b L n0 xs nm hg hL x m w H hI (6 * k) (by omega) _ _ (by omega) (by omega) K)) (fun _ => z_tableIn (off := 725) (tgt := 758) dL_law_33 rfl (by decide) (by decide) (by decide) (by decide) (L_compare g b L n0 xs nm hg hL x m w H hI (6 * k) (by omega) _ _ (by omega) (by omega) K)) (fun _ => z_tableIn (off := 758) (tgt := 791) dL_law_33 rfl (by decide) (by decide) (by decide) (by decide) (L_result g b L n0 xs nm hg hL x m w H hI (6 * k) (by omega) _ _ (by omega) (by omega) K)) (fun _ => z_tableIn (off := 781) (tgt := 814) dL_law_33 rfl (by decide) (by decide) (by decide) (by decide) (L_step g b L n0 xs nm hg hL x m w H hI (6 * k) (by omega) _ _ (by omega) (by omega) K)) (fun _ => z_tableIn (off := 814) (tgt := 847) dL_law_33 rfl (by decide) (by decide) (by decide) (by decide) (L_join g b L n0 xs nm hg hL x m w H hI (6 * k) (by omega) _ _ (by omega) (by omega) K)) (fun _ => z_tableIn (off := 847) (tgt := 880) dL_law_33 rfl (by decide) (by decide) (by decide) (by decide) (L_near g b L n0 xs nm hg hL x m w H hI (6 * k) (by omega) _ _ (by omega) (by omega) K)) (fun _ => z_tableIn (off := 870) (tgt := 903) dL_law_33 rfl (by decide) (by decide) (by decide) (by decide) (L_lag g b L n0 xs nm hg hL x m w H hI (6 * k) (by omega) _ _ (by omega) (by omega) K)) (fun _ => z_tableIn (off := 903) (tgt := 936) dL_law_33 rfl (by decide) (by decide) (by decide) (by decide) (L_vote g b L n0 xs nm hg hL x m w H hI (6 * k) (by omega) _ _ (by omega) (by omega) K)) (fun _ => z_tableIn (off := 956) (tgt := 989) dL_law_33 rfl (by decide) (by decide) (by decide) (by decide) (L_patch g b L n0 xs nm hg hL x m w H hI (6 * k) (by omega) _ _ (by omega) (by omega) K)) (fun _ => z_tableIn (off := 979) (tgt := 1012) dL_law_33 rfl (by decide) (by decide) (by decide) (by decide) (L_turn g b L n0 xs nm hg hL x m w H hI (6 * k) (by omega) _ _ (by omega) (by omega) K)) (fun _ => z_tableIn (off := 1002) (tgt := 1035) dL_law_33 rfl (by decide) (by decide) (by decide) (by decide) (L_act g b L n0 xs nm hg hL x m w H hI (6 * k) (by omega) _ _ (by omega) (by omega) K)) (fun _ => z_tableIn (off := 1045) (tgt := 1078) dL_law_33 rfl (by decide) (by decide) (by decide) (by decide) (L_apply g b L n0 xs nm hg hL x m w H hI (6 * k) (by omega) _ _ (by omega) (by omega) K)) (fun _ => z_tableIn (off := 1078) (tgt := 1111) dL_law_33 rfl (by decide) (by decide) (by decide) (by decide) (L_log g b L n0 xs nm hg hL x m w H hI (6 * k) (by omega) _ _ (by omega) (by omega) K)) (fun _ => z_tableIn (off := 1131) (tgt := 1164) dL_law_33 rfl (by decide) (by decide) (by decide) (by decide) (L_draw g b L n0 xs nm hg hL x m w H hI (6 * k) (by omega) _ _ (by omega) (by omega) K)) (fun _ => z_tableIn (off := 1184) (tgt := 1217) dL_law_33 rfl (by decide) (by decide) (by decide) (by decide) (L_keep g b L n0 xs nm hg hL x m w H hI (6 * k) (by omega) _ _ (by omega) (by omega) K)) (fun _ => z_tableIn (off := 1207) (tgt := 1240) dL_law_33 rfl (by decide) (by decide) (by decide) (by decide) (L_back g b L n0 xs nm hg hL x m w H hI (6 * k) (by omega) _ _ (by omega) (by omega) K)) (fun _ => z_tableIn (off := 1230) (tgt := 1263) dL_law_33 rfl (by decide) (by decide) (by decide) (by decide) (L_count g b L n0 xs nm hg hL x m w H hI (6 * k) (by omega) _ _ (by omega) (by omega) K))

set_option maxHeartbeats 800000 in
set_option maxRecDepth 100000 in
theorem law_K {s : State} {b : Nat} (l : Launch) (hts : ∀ w ∈ lw_tbl, w.before #[Value.ref b] s = true) : ∃ g : zG, g.1 = l ∧ g.2.2.2 = s.heap.size ∧ zK g s := by
  obtain ⟨c0, i0, k0⟩ := u_known (C := RX0) (T := TX0) (N := 4) (n := 4) hts in_X0 (hts (.instantiable RX0 4) (List.mem_of_getElem? (i := 106) (by decide +kernel)))
  obtain ⟨c1, i1, k1⟩ := u_known (C := RX1) (T := TX1) (N := 6) (n := 6) hts in_X1 (hts (.instantiable RX1 6) (List.mem_of_getElem? (i := 631) (by decide +kernel)))
  obtain ⟨c2, i2, k2⟩ := u_known (C := RX3) (T := TX3) (N := 5) (n := 5) hts in_X3 (hts (.instantiable RX3 5) (List.mem_of_getElem? (i := 128) (by decide +kernel)))
  obtain ⟨c3, i3, k3⟩ := u_known (C := RX4) (T := TX4) (N := 9) (n := 9) hts in_X4 (hts (.instantiable RX4 9) (List.mem_of_getElem? (i := 418) (by decide +kernel)))
  obtain ⟨c4, i4, k4⟩ := u_known (C := RX7) (T := TX7) (N := 4) (n := 4) hts in_X7 (hts (.instantiable RX7 4) (List.mem_of_getElem? (i := 568) (by decide +kernel)))
  obtain ⟨c5, i5, k5⟩ := u_known (C := RX8) (T := TX8) (N := 2) (n := 2) hts in_X8 (hts (.instantiable RX8 2) (List.mem_of_getElem? (i := 85) (by decide +kernel)))
  obtain ⟨c6, i6, k6⟩ := u_known (C := RX9) (T := TX9) (N := 9) (n := 9) hts in_X9 (hts (.instantiable RX9 9) (List.mem_of_getElem? (i := 77) (by decide +kernel)))
  obtain ⟨c7, i7, k7⟩ := u_known (C := RX10) (T := TX10) (N := 26) (n := 26) hts in_X10 (hts (.instantiable RX10 26) (List.mem_of_getElem? (i := 762) (by decide +kernel)))
  obtain ⟨a0, b0, e0, u0, v0, w0⟩ := Cond.arrayClass_spec (type := .int) (hts (.arrayClass .int) (List.mem_of_getElem? (i := 126) (by decide +kernel)))
  obtain ⟨a1, b1, e1, u1, v1, w1⟩ := Cond.arrayClass_spec (type := .long) (hts (.arrayClass .long) (List.mem_of_getElem? (i := 163) (by decide +kernel)))
  obtain ⟨a2, b2, e2, u2, v2, w2⟩ := Cond.arrayClass_spec (type := .double) (hts (.arrayClass .double) (List.mem_of_getElem? (i := 164) (by decide +kernel)))
  obtain ⟨a3, b3, e3, u3, v3, w3⟩ := Cond.arrayClass_spec (type := .boolean) (hts (.arrayClass .boolean) (List.mem_of_getElem? (i := 101) (by decide +kernel)))
  have ao4 := hts (.arrayOver (.object "LoggerTwins$Cells")) (List.mem_of_getElem? (i := 91) (by decide +kernel))
  obtain ⟨e4, a4, b4, z4, -, v4, w4, u4⟩ := Cond.arrayOver_spec ao4
  have ao5 := hts (.arrayOver (.object "LoggerTwins$Records")) (List.mem_of_getElem? (i := 102) (by decide +kernel))
  obtain ⟨e5, a5, b5, z5, -, v5, w5, u5⟩ := Cond.arrayOver_spec ao5
  have ao6 := hts (.arrayOver (.object "LoggerTwins$Patch")) (List.mem_of_getElem? (i := 104) (by decide +kernel))
  obtain ⟨e6, a6, b6, z6, -, v6, w6, u6⟩ := Cond.arrayOver_spec ao6
  have ao7 := hts (.arrayOver (.array .int)) (List.mem_of_getElem? (i := 112) (by decide +kernel))
  obtain ⟨e7, a7, b7, z7, -, v7, w7, u7⟩ := arrayOverA_spec ao7
  refine ⟨(l, (fun k => if k = 0 then c0 else if k = 1 then c1 else if k = 2 then c2 else if k = 3 then c3 else if k = 4 then c4 else if k = 5 then c5 else if k = 6 then c6 else c7, fun k => if k = 0 then i0 else if k = 1 then i1 else if k = 2 then i2 else if k = 3 then i3 else if k = 4 then i4 else if k = 5 then i5 else if k = 6 then i6 else i7), fun k => if k = 0 then a0 else if k = 1 then a1 else if k = 2 then a2 else if k = 3 then a3 else if k = 4 then a4 else if k = 5 then a5 else if k = 6 then a6 else a7, s.heap.size), rfl, rfl, fun w hw hgw => word_at (U := s) (State.WarmedH.refl s) (good_of_word hgw) (hts w hw), ⟨?_, ?_⟩, ao4, ao5, ao6, ao7, hts (.methodLinkNest RX9 32 yX0_init RX9) (List.mem_of_getElem? (i := 107) (by decide +kernel)), hts (.methodLinkNest RX9 9 yX8_init RX9) (List.mem_of_getElem? (i := 86) (by decide +kernel))⟩
  · intro k q hq
    match k, hq with
      | 0, hq => cases hq; exact k0
      | 1, hq => cases hq; exact k1
      | 2, hq => cases hq; exact k2
      | 3, hq => cases hq; exact k3
      | 4, hq => cases hq; exact k4
      | 5, hq => cases hq; exact k5
      | 6, hq => cases hq; exact k6
      | 7, hq => cases hq; exact k7
      | k + 8, hq => simp [vwCl] at hq
  · intro k q hq
    match k, hq with
      | 0, hq => cases hq; exact ⟨fun n z => ⟨fun k h => (by cases h), b0, v0, e0, w0⟩, u0⟩
      | 1, hq => cases hq; exact ⟨fun n z => ⟨fun k h => (by cases h), b1, v1, e1, w1⟩, u1⟩
      | 2, hq => cases hq; exact ⟨fun n z => ⟨fun k h => (by cases h), b2, v2, e2, w2⟩, u2⟩
      | 3, hq => cases hq; exact ⟨fun n z => ⟨fun k h => (by cases h), b3, v3, e3, w3⟩, u3⟩
      | 4, hq => cases hq; exact ⟨fun n z => ⟨fun k h => (by cases h), b4, v4, e4, w4⟩, ⟨b4, e4, v4, w4, z4, u4⟩⟩
      | 5, hq => cases hq; exact ⟨fun n z => ⟨fun k h => (by cases h), b5, v5, e5, w5⟩, ⟨b5, e5, v5, w5, z5, u5⟩⟩
      | 6, hq => cases hq; exact ⟨fun n z => ⟨fun k h => (by cases h), b6, v6, e6, w6⟩, ⟨b6, e6, v6, w6, z6, u6⟩⟩
      | 7, hq => cases hq; exact ⟨fun n z => ⟨fun k h => (by cases h), b7, v7, e7, w7⟩, u7⟩
      | k + 8, hq => simp [zTys] at hq

set_option maxHeartbeats 800000 in
set_option maxRecDepth 100000 in
theorem whole_start {p : Program} {e : Env} {s : State} {m : MethodId} {below : List Frame} {meth : Method} {c : Code} (l : Launch) (hflags : l.flags = flags0) {b L : Nat} {xs : Nat → Int32} (hL : L ≤ 3072) (C0 : lw_At p s m meth c b L xs) : W p l e room_1 s m #[Value.ref b] below meth c s.heap [] 0 0 (lw_Z below #[Value.ref b] s) (entryFrame m ([Value.ref b] : List Value).toArray 4) := by
  obtain ⟨hx, hb, hr, hml, hown, hts, hX, hbl, hlocks, hgv⟩ := id C0
  obtain ⟨g, rfl, hg, hK⟩ := law_K l hts
  have k : zZ g (YL b L s.heap.size xs meth.name) QL 0 [(0, .ref b)] [] (s.heap.size, fun _ => none) 0 0 := by
    generalize s.heap.size = x at hg ⊢
    refine zn_L_7 rfl dL_law_0 rfl (Nat.le_of_ble_eq_true rfl) (Nat.le_of_ble_eq_true rfl) ?_
    refine z_dup dL_law_3 rfl rfl ?_
    refine zc_L_9 rfl dL_law_4 rfl (m_xinit g _ x vu_s) rfl rfl ⟨(Nat.le_of_ble_eq_true rfl), (Nat.le_of_ble_eq_true rfl)⟩ ⟨(Nat.le_of_ble_eq_true rfl), (Nat.le_of_ble_eq_true rfl)⟩ (Nat.le_of_ble_eq_true rfl) (fun v1 h1 e1 => ?_)
    obtain ⟨rfl, hN⟩ := e1
    obtain ⟨n1, f1⟩ := h1
    have hn1 : n1 = x + 57 := hN.1
    subst hn1
    refine z_astore_n dL_law_7 rfl (Nat.le_of_ble_eq_true rfl) ?_
    refine zn_L_10 rfl dL_law_8 rfl (Nat.le_of_ble_eq_true rfl) (Nat.le_of_ble_eq_true rfl) ?_
    refine z_dup dL_law_11 rfl rfl ?_
    refine zc_L_12 rfl dL_law_12 rfl (r_init g f1 (x + 57)) rfl rfl ⟨(Nat.le_of_ble_eq_true rfl), (Nat.le_of_ble_eq_true rfl)⟩ ⟨(Nat.le_of_ble_eq_true rfl), (Nat.le_of_ble_eq_true rfl)⟩ (Nat.le_of_ble_eq_true rfl) (fun v2 h2 e2 => ?_)
    obtain ⟨rfl, rfl⟩ := e2
    refine z_astore_n dL_law_15 rfl (Nat.le_of_ble_eq_true rfl) ?_
    refine z_iconst (v := nI (6 * 0)) dL_law_16 rfl (by decide) ?_
    refine z_istore_n dL_law_17 rfl (Nat.le_of_ble_eq_true rfl) ?_
    refine z_lv [(3, .int (nI (6 * 0))), (2, .ref (x + 57)), (1, .ref x), (0, .ref b)] ⟨rfl, rfl, rfl, rfl, trivial⟩ ?_
    refine z_widen (ce' := 100 + 35 * 0) (sl' := 6000 + 1018 * 0) (Nat.le_of_ble_eq_true rfl) (Nat.le_of_ble_eq_true rfl) ?_
    exact law_loop g b L x xs meth.name hg hL x (x + 57) 513 0 _ w00 rfl (LI_0 (fun q hq => by rw [vu_n (by omega)]) hN)
  have hl := lv_entry ([.ref b]) (n := 4) (Nat.le_of_ble_eq_true rfl)
  rw [lg_entry_eq]
  generalize (lg_sl ([.ref b]) ++ List.replicate (4 - (lg_sl ([.ref b])).length) Slot.unset).toArray = ls at hl ⊢
  have hl : lv_has ls 4 [(0, .ref b)] := hl
  exact k p e s m #[Value.ref b] below meth c s.heap [] ls ⟨hx, hb, hml, hr, hown, hlocks, rfl, hK, by rw [hg]; exact Nat.le_refl _, rfl, rfl, hX, hbl⟩ ⟨rfl, fun a o h => by cases h⟩ va_S.rf hl

set_option maxHeartbeats 4000000 in
theorem lw_walk (l : Launch) (hflags : l.flags = flags0) (b : Addr) (xs : List Int32) : MetFree l x (headSpec (Jvm.Cond.code x code maxLocals ret :: tables_1) room_1) (lw_P b xs) (fun _ _ _ _ _ => True) lw_Q := by
  refine MetFree.of_bodyS (code := code) (maxLocals := maxLocals) (ret := ret) (by decide) ?_ ?_
  · intro args s m h hn
    obtain ⟨meth, c, h1, h2, h3, h4, h5, h6, -, -⟩ := Cond.code_spec hn (atoms_spec (ws := Jvm.Cond.code x code maxLocals ret :: tables_1) h _ List.mem_cons_self)
    exact ⟨meth, c, h1, h2, h3, h4, h5, h6⟩
  · intro p e s m args below meth c s₁ B hml0 hP _
    obtain ⟨rfl, hx, hbd, hgv⟩ := hP
    obtain ⟨scr, harrAt, hlist, hof, hsmall⟩ := hx
    obtain ⟨hcb, hkn, -, -⟩ := State.arrayAt?_spec harrAt
    have hown : s.vm.findClass R_law = some m.cls := findClass_of_methodNamed B.named
    have hts0 : ∀ c ∈ (Jvm.Cond.code x code maxLocals ret :: tables_1), c.before #[Value.ref b] s = true := atoms_spec (ws := Jvm.Cond.code x code maxLocals ret :: tables_1) B.pre
    have hts : ∀ w ∈ lw_tbl, w.before #[Value.ref b] s = true := k2_hts_sels lw_privs (fun w hw => hts0 w (List.mem_cons_of_mem _ hw)) lw_privs_ok
    have hml : c.maxLocals = 4 := B.maxLocals_eq (hts0 _ List.mem_cons_self)
    have X₀ : Stand p l e room_1 s m #[Value.ref b] below meth c s₁ [] 0 0 := Stand.of_body B
    have hh0 : s₁.heap = s.heap := by rw [B.state]; rfl
    have hsz : scr.slots.size = xs.length := by rw [← Array.length_toList, hlist, List.length_map]
    have hval : ∀ j : Nat, j < xs.length → scr.slots[j]? = some (.int (xs.getD j 0)) := fun j hj => by
      rw [← Array.getElem?_toList, hlist]
      simp [hj]
    have hbl : b < s.heap.size := (Array.getElem?_eq_some_iff.mp hcb).1
    have hX : va_X b xs.length (fun j => xs.getD j 0) s s.heap := ⟨scr, hcb, hof, hkn, hsz, hval⟩
    have K : W p l e room_1 s m #[Value.ref b] below meth c s₁.heap [] 0 0 (lw_Z below #[Value.ref b] s) (entryFrame m ([Value.ref b] : List Value).toArray 4) := by
      rw [hh0]
      exact whole_start l hflags hbd ⟨B.exec, B.bytes, B.returns, hml, hown, hts, hX, hbl, B.notSynchronized, hgv⟩
    obtain ⟨t, a1, o, b1, b2, b3⟩ := K s₁ rfl X₀
    exact ⟨t, o, a1, b1, b2, b3⟩
theorem lw_pre_spec {args : Array Value} {s : State} (h : (Jvm.Cond.and given_1 narrow_1).before args s = true) (hr : rest_1_c.before args s = true) : ∃ (b : Addr) (xs : List Int32), lw_P b xs args s := by
  have hs := flat_of_before _ h
  have hq := flat_of_before _ hr
  have hc : (Cond.count 1).before args s = true := hs _ (by decide +kernel)
  have harr : (Cond.arrayOf (.arg 0) .int).before args s = true := hs _ (by decide +kernel)
  have hle : (Cond.le (.length (.arg 0)) (.int 3072)).before args s = true := hs _ (by decide +kernel)
  have hlen : (Cond.isInt (.length (.arg 0))).before args s = true := hq _ (by decide +kernel)
  have hall : (Cond.all (.arg 0) (.isInt (.elem (.arg 0) (.index 0)))).before args s = true := hq _ (by decide +kernel)
  obtain ⟨b, xs, hb, hx⟩ := State.ints_of_pre rfl harr hlen hall
  have hsm : xs.length < 2 ^ 31 := hx.choose_spec.2.2.2
  have hev : (Term.length (.arg 0)).eval args s none [] s = some (.int xs.length.toInt32) := hx.length_eval hb
  have hv := Cond.le_ints hev (show (Term.int 3072).eval args s none [] s = some (.int 3072) from rfl)
  have hd : xs.length.toInt32 ≤ 3072 := by
    simpa [Cond.before, Cond.holds, hv] using hle
  have hN : xs.length ≤ 3072 := (Int32.ofNat_le_ofNat hsm (by decide)).mp (show Int32.ofNat xs.length ≤ Int32.ofNat 3072 from hd)
  exact ⟨b, xs, Cond.one_arg hc (show args[0]? = some (.ref b) from hb), hx, hN, h⟩
theorem lw_comes (l : Launch) (hflags : l.flags = flags0) : Comes l x (Jvm.Cond.code x code maxLocals ret :: tables_1) room_1 (fun tb e args s => Calls_1 tb e args s ∧ rest_1 tb e args s ∧ Pre_1 tb e args s)
    (fun _ _ args s o t => lw_Q args s o t) := by
  intro p e ha hc hk s m args below hf hfit hheap happ hpre
  obtain ⟨b, xs, hP⟩ := lw_pre_spec hpre.2.2 hpre.2.1
  obtain ⟨k, o, h1, h2, h3, hQ⟩ := lw_walk l hflags b xs p e ha hc hk s m args below hf ((Spec.applies_iff_loose hf).mp happ).1 hP trivial
  exact ⟨k, o, h1, h2, h3, hQ⟩
theorem lw_frame {s t : State} {o : Outcome} {args : Array Value} (h : State.butDraws s t lw_cs (fun t1 => Framed s o t1 [] 600000 7302250)) :
    State.butDraws s t [Jvm.Choice.named "NaN.bits"] (fun t1 => Framed s o t1 (fieldLocs frame_1_writes args s ++ arrayLocs frame_1_arrays args s ++ staticLocs frame_1_statics s) 600000 7302250) := h
theorem lw_limb (L : Cond) (hL : ∀ (args : Array Value) (s t : State), L.after args s (.returned (some (.int 1))) t = true) :
    ArmFor flags0 classFile x code maxLocals ret World_1 tables_1 room_1 Calls_1 rest_1 Pre_1
      (fun tb e a s o t => postC L tb e a s o t ∧ State.butDraws s t [Jvm.Choice.named "NaN.bits"] (fun t1 => Framed s o t1 (fieldLocs frame_1_writes a s ++ arrayLocs frame_1_arrays a s ++ staticLocs frame_1_statics s) 600000 7302250)) := by
  intro l hflags _ _ p e ha hc hk s m args below hf hfit hheap happ hpre
  obtain ⟨k, o, h1, h2, h3, rfl, hF⟩ := lw_comes l hflags p e ha hc hk s m args below hf hfit hheap happ hpre
  exact ⟨k, _, h1, h2, h3, hL args s _, lw_frame hF⟩
theorem i_vc : Claimed_1_1 ∧ Claimed_1_2 := ⟨lw_limb limb_1_1 (fun args s t => by simp [limb_1_1, Cond.after, Cond.holds, Cond.value]), lw_limb limb_1_2 (fun args s t => Cond.after_iff.mpr (by
  first | (rw [show limb_1_2 = Cond.eq .result (.int 1) from rfl, Cond.eq_ints (x := 1) (y := 1) rfl rfl]; simp; done) | (simp [limb_1_2, Cond.value, Term.eval]; done)))⟩

