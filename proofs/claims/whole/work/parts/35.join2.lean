theorem sMean_1 (c d : sC) : (sMean c d).1 = sJoin c.1 d.1 := by
  unfold sMean
  split
  · rfl
  · split
    · rfl
    · split
      · rfl
      · rfl
theorem into_0 {s : Int32} (h : sInto s 0 = true) : s = 0 := by grind [sInto]
theorem into_kk {k : Int32} (h : 0 ≤ k ∧ k ≤ 7) : sInto k k = true := by grind [sInto]
theorem into_9 (s : Int32) : sInto s 9 = true := by grind [sInto]
theorem into_o {s k : Int32} (h : sInto s k = true) (hk : 7 < k) (h9 : k ≠ 9) : ¬ sNum s := by grind [sInto]
theorem and_01 {x y : Int64} (hx : x = 0 ∨ x = 1) (hy : y = 0 ∨ y = 1) : x &&& y = 0 ∨ x &&& y = 1 := by
  rcases hx with rfl | rfl <;> rcases hy with rfl | rfl <;> decide
theorem sOk_0 {n : Int64} (h : n = 0 ∨ n = 1) : sOk (0, n, 0) := ⟨show (0 : Int32) ≤ 0 by decide, show (0 : Int32) ≤ 10 by decide, fun q => absurd (show (0 : Int32) = 6 from q) (by decide), fun q => absurd (show (0 : Int32) = 7 from q) (by decide), fun _ _ => rfl, fun _ => h, fun q => absurd (show (0 : Int32) = 9 from q) (by decide)⟩
theorem sOk_6 {x : UInt64} (h : okF x) : sOk (6, 0, x) := ⟨show (0 : Int32) ≤ 6 by decide, show (6 : Int32) ≤ 10 by decide, fun _ => ⟨rfl, h⟩, fun q => absurd (show (6 : Int32) = 7 from q) (by decide), fun q => absurd rfl q, fun q => absurd (show (6 : Int32) = 0 from q) (by decide), fun _ => rfl⟩
theorem sMean_ok {c d : sC} (hc : sOk c) (hd : sOk d) (hj : ¬ sJoin c.1 d.1 = -4) : sOk (sMean c d) := by
  obtain ⟨⟨k0, k7⟩, i1, i2⟩ := sJoin_into hj
  unfold sMean
  by_cases z0 : sJoin c.1 d.1 = 0
  · rw [if_pos z0]
    have e1 : c.1 = 0 := into_0 (by rw [← z0]; exact i1)
    have e2 : d.1 = 0 := into_0 (by rw [← z0]; exact i2)
    rw [z0]
    exact sOk_0 (and_01 (hc.2.2.2.2.2.1 e1) (hd.2.2.2.2.2.1 e2))
  · rw [if_neg z0]
    by_cases z6 : 6 ≤ sJoin c.1 d.1
    · rw [if_neg (fun q => q z6)]
      by_cases e6 : sJoin c.1 d.1 = 6
      · rw [if_pos e6]
        have hm := okS_mean (okF_d2f (okF_into hc (by rw [← e6]; exact i1))) (okF_d2f (okF_into hd (by rw [← e6]; exact i2)))
        rw [e6]
        exact sOk_6 ⟨_, rfl, hm.2.2⟩
      · rw [if_neg e6]
        have hm := okD_mean (sReal_ok hc (sJoin_num hj).1.2 (sJoin c.1 d.1)) (sReal_ok hd (sJoin_num hj).2.2 (sJoin c.1 d.1))
        have e7 : sJoin c.1 d.1 = 7 := by grind
        exact ⟨k0, by grind, fun q => absurd q e6, fun _ => ⟨rfl, hm.2.2⟩, fun _ q => absurd e7 q, fun q => absurd q z0, fun _ => rfl⟩
    · rw [if_pos z6]
      exact ⟨k0, by grind, fun q => absurd q (show ¬ sJoin c.1 d.1 = 6 by grind), fun q => absurd q (show ¬ sJoin c.1 d.1 = 7 by grind), fun _ _ => rfl, fun q => absurd q z0, fun q => absurd q (show ¬ sJoin c.1 d.1 = 9 by grind)⟩
theorem jk_in {a b : Int32} (ha : 0 ≤ a ∧ a ≤ 10) : 0 ≤ sJoinK a b ∧ sJoinK a b ≤ 10 := by
  unfold sJoinK
  split
  · rename_i h
    have := (sJoin_into h.2.2).1
    grind
  · split
    · exact ha
    · decide
theorem fit_num {c : sC} {a : Int32} (h : sFit c a) (ha : sNum a) : c.1 = a := h.1 ha.2
theorem jk_a {c : sC} {a b : Int32} (h : sFit c a) : sInto c.1 (sJoinK a b) = true := by
  unfold sJoinK
  split
  · rename_i z
    rw [fit_num h z.1]
    exact (sJoin_into z.2.2).2.1
  · split
    · rename_i z
      exact h.2 z.2
    · exact into_9 _
theorem jk_b {c : sC} {a b : Int32} (h : sFit c b) : sInto c.1 (sJoinK a b) = true := by
  unfold sJoinK
  split
  · rename_i z
    rw [fit_num h z.2.1]
    exact (sJoin_into z.2.2).2.2
  · split
    · rename_i z
      rw [z.1]
      exact h.2 (by rw [← z.1]; exact z.2)
    · exact into_9 _
theorem jk_m {c d : sC} {a b : Int32} (hc : sFit c a) (hd : sFit d b) (hj : ¬ sJoin c.1 d.1 = -4) : sInto (sMean c d).1 (sJoinK a b) = true := by
  rw [sMean_1]
  unfold sJoinK
  split
  · rename_i z
    rw [fit_num hc z.1, fit_num hd z.2.1]
    exact into_kk (sJoin_into z.2.2).1
  · split
    · rename_i z
      by_cases e9 : a = 9
      · rw [e9]; exact into_9 _
      · exact absurd (sJoin_num hj).1 (into_o (hc.2 z.2) z.2 e9)
    · exact into_9 _
theorem jk_make {c d : sC} {a b : Int32} (hc : sOk c ∧ sFit c a) (hd : sOk d ∧ sFit d b) (mode : Int32) : sOk (sMake c d mode) ∧ sInto (sMake c d mode).1 (sJoinK a b) = true := by
  unfold sMake
  split
  · rename_i z
    exact ⟨sMean_ok hc.1 hd.1 z.2, jk_m hc.2 hd.2 z.2⟩
  · split
    · exact ⟨hd.1, jk_b hd.2⟩
    · exact ⟨hc.1, jk_a hc.2⟩
theorem aOk_at {A : sA} (h : aOk A) {i : Nat} (hi : i < A.2.length) : sOk (A.2.getD i z0) ∧ sFit (A.2.getD i z0) A.1 := by
  refine h.2.2.2 _ ?_
  rw [List.getD_eq_getElem?_getD, List.getElem?_eq_getElem hi]
  exact List.getElem_mem hi
theorem mrg_ok {S : sMS} {C : sCo} (hC : coIs S (some C)) (mode : Int32) {c : sC} (hc : c ∈ sMrg C mode) : sOk c ∧ sInto c.1 (sJoinK C.1.1 C.2.1.1) = true := by
  obtain ⟨t, ht, hm⟩ := List.mem_filterMap.mp hc
  obtain ⟨k, hk⟩ := List.getElem?_of_mem ht
  have hA := hC.2.1.2.2.1
  have hB := hC.2.2.1.2.2.1
  have lA := hA.2.2.1
  have lB := hB.2.2.1
  obtain ⟨-, -, -, s4⟩ := hC.2.2.2.2.2.2 k t hk
  unfold mrg at hm
  by_cases h4 : t.2.2.2.1 = 4
  · rw [if_pos h4] at hm; cases hm
  · rw [if_neg h4] at hm
    rcases s4 with ⟨h0, l1, l2, ⟨i, j, hi, hj, e1, e2, -⟩, -⟩ | ⟨h0, l1, l2, l3, ⟨i, hi, e1⟩, -⟩ | ⟨h0, l1, l2, l3, ⟨j, hj, e2⟩, -⟩
    · rw [if_pos h0, e1, e2, show ix (nI i) = i from nI_clamp (by omega), show ix (nI j) = j from nI_clamp (by omega)] at hm
      cases hm
      exact jk_make (aOk_at hA hi) (aOk_at hB hj) mode
    · rw [if_neg (show ¬ t.1 = 0 by rw [h0]; decide), if_pos h0, e1, show ix (nI i) = i from nI_clamp (by omega)] at hm
      cases hm
      exact ⟨(aOk_at hA hi).1, jk_a (aOk_at hA hi).2⟩
    · rw [if_neg (show ¬ t.1 = 0 by rw [h0]; decide), if_neg (show ¬ t.1 = 1 by rw [h0]; decide), e2, show ix (nI j) = j from nI_clamp (by omega)] at hm
      cases hm
      exact ⟨(aOk_at hB hj).1, jk_b (aOk_at hB hj).2⟩
theorem mrg_len (C : sCo) (mode : Int32) : ∀ L : List sStep, (L.filterMap (mrg C mode)).length + L.countP isD = L.length
  | [] => rfl
  | t :: L => by
    have ih := mrg_len C mode L
    rw [List.filterMap_cons, List.countP_cons, List.length_cons]
    by_cases h4 : t.2.2.2.1 = 4
    · rw [show mrg C mode t = none from if_pos h4, show isD t = true from decide_eq_true h4, if_pos rfl]
      show (L.filterMap (mrg C mode)).length + (L.countP isD + 1) = _
      omega
    · obtain ⟨c, hc⟩ : ∃ c, mrg C mode t = some c := by
        unfold mrg
        rw [if_neg h4]
        split
        · exact ⟨_, rfl⟩
        · split
          · exact ⟨_, rfl⟩
          · exact ⟨_, rfl⟩
      rw [hc, show isD t = false from decide_eq_false h4, if_neg Bool.false_ne_true]
      show ((L.filterMap (mrg C mode)).length + 1) + (L.countP isD + 0) = _
      omega
theorem nI_sub {a b : Nat} (h : b ≤ a) : nI a - nI b = nI (a - b) := by
  have e : nI (a - b) + nI b = nI a := by rw [nI_add, Nat.sub_add_cancel h]
  rw [← e, Int32.add_sub_cancel]
/-- 20 -/
def pJoin (w : sW) (r mode : Int32) : Int32 × sW :=
  if ¬ isRec r ∨ ¬ (0 ≤ mode ∧ mode ≤ 2) then (-1, w) else match w.2.2.2.2.2.1 with
  | none => (-2, w)
  | some C => if 20 < (sMrg C mode).length then (-3, w) else (nI (sMrg C mode).length, wR w (rNew w.1 (ix r) (sJoinK C.1.1 C.2.1.1, (sMrg C mode).map (fun c => sConv c (sJoinK C.1.1 C.2.1.1)))))
theorem join_none {w : sW} {r mode : Int32} (hr : isRec r) (hm : 0 ≤ mode ∧ mode ≤ 2) (h : w.2.2.2.2.2.1 = none) : pJoin w r mode = (-2, w) := by
  unfold pJoin
  rw [if_neg (fun z => z.elim (fun z => z hr) (fun z => z hm)), h]
theorem join_full {w : sW} {r mode : Int32} {C : sCo} (hr : isRec r) (hm : 0 ≤ mode ∧ mode ≤ 2) (h : w.2.2.2.2.2.1 = some C) (hf : 20 < (sMrg C mode).length) : pJoin w r mode = (-3, w) := by
  unfold pJoin
  rw [if_neg (fun z => z.elim (fun z => z hr) (fun z => z hm)), h]
  exact if_pos hf
theorem join_some {w : sW} {r mode : Int32} {C : sCo} (hr : isRec r) (hm : 0 ≤ mode ∧ mode ≤ 2) (h : w.2.2.2.2.2.1 = some C) (hf : ¬ 20 < (sMrg C mode).length) : pJoin w r mode = (nI (sMrg C mode).length, wR w (rNew w.1 (ix r) (sJoinK C.1.1 C.2.1.1, (sMrg C mode).map (fun c => sConv c (sJoinK C.1.1 C.2.1.1))))) := by
  unfold pJoin
  rw [if_neg (fun z => z.elim (fun z => z hr) (fun z => z hm)), h]
  exact if_neg hf
/-- a new row out of the cells made -/
theorem RepM_made {S1 : sMS} {w : sW} {r kind : Int32} {k : Nat} {L : List sC} (hR : RepM S1 w) (hr : isRec r) (hk : k < 8) (hf : mFresh S1 r k) (hki : 0 ≤ kind ∧ kind ≤ 10) (hL : L.length ≤ 20) (hc : ∀ c, c ∈ L → sOk c ∧ sInto c.1 kind = true) (hm : made S1 L) : RepM (mPut (mTake S1 r k kind (nI L.length)) (20 * k) (fun i => sConv (mc S1 (520 + i)) kind) L.length) (wR w (rNew w.1 (ix r) (kind, L.map (fun c => sConv c kind)))) := by
  refine RepM_new hR hr hk hf ⟨hki.1, hki.2, by simp only [List.length_map]; exact hL, fun c h => ?_⟩ (by rw [List.length_map]) _ (fun i hi => ?_)
  · obtain ⟨d, hd, rfl⟩ := List.mem_map.mp h
    exact sConv_ok (hc d hd).1 hki (hc d hd).2
  · show sConv (mc S1 (520 + i)) kind = _
    rw [hm i hi, List.getD_eq_getElem?_getD, List.getD_eq_getElem?_getD, List.getElem?_map, List.getElem?_eq_getElem hi]
    rfl

set_option maxHeartbeats 800000 in
set_option maxRecDepth 100000 in
theorem R_join (g : zG) (h : zH) (m : Nat) (S : sMS) (w : sW) (hR : RepM S w) (r mode : Int32) : zM g yX10_join cX10_join 6 (some .int) rmX10_join [.ref m, .int r, .int mode] (mUp m S h) (mPost m h (pJoin w r mode)) := by
  refine zM_of (by decide) (Nat.le_of_ble_eq_true rfl) ?_
  refine z_iload_n dX10_join_0 rfl rfl ?_
  refine zcx_X10_141 rfl dX10_join_1 rfl (r_isRecord g _ _) rfl rfl ⟨(Nat.le_of_ble_eq_true rfl), (Nat.le_of_ble_eq_true rfl)⟩ ⟨(Nat.le_of_ble_eq_true rfl), (Nat.le_of_ble_eq_true rfl)⟩ (Nat.le_of_ble_eq_true rfl) ?_
  refine z_bif_eq (tgt := 19) dX10_join_4 rfl (by decide) (fun c4 => ?_) (fun c4 => ?_)
  · skip
    refine z_iconst (v := -1) dX10_join_19 rfl (by decide) ?_
    exact z_iret dX10_join_20 rfl rfl (mPost_of hR (by grind [pJoin])) (Nat.le_of_ble_eq_true rfl) (Nat.le_of_ble_eq_true rfl)
  · skip
    refine z_iload_n dX10_join_7 rfl rfl ?_
    refine z_i2l dX10_join_8 rfl ?_
    refine z_lconst (v := 0) dX10_join_9 rfl (by decide) ?_
    refine zk_X10_288 rfl dX10_join_10 rfl ?_
    refine zcx_X10_72 rfl dX10_join_13 rfl (r_in32 g _ _ 0 2 rfl rfl) rfl rfl ⟨(Nat.le_of_ble_eq_true rfl), (Nat.le_of_ble_eq_true rfl)⟩ ⟨(Nat.le_of_ble_eq_true rfl), (Nat.le_of_ble_eq_true rfl)⟩ (Nat.le_of_ble_eq_true rfl) ?_
    refine z_bif_ne (tgt := 21) dX10_join_16 rfl (by decide) (fun c16 => ?_) (fun c16 => ?_)
    · skip
      rcases hw : w.2.2.2.2.2.1 with _ | C
      · skip
        first | refine z_aload_n dX10_join_21 rfl rfl ?_ | refine z_aload_nN dX10_join_21 rfl rfl ?_
        refine zmg_258 rfl dX10_join_22 rfl ?_
        rw [wco_none hR hw]
        refine z_if_ne (tgt := 31) dX10_join_25 rfl (by decide) (fun c25 => absurd c25 (fun z => z rfl)) (fun c25 => ?_)
        refine z_bipush (v := -2) dX10_join_28 rfl (by decide) ?_
        exact z_iret dX10_join_30 rfl rfl (mPost_of hR (join_none c4 c16 hw)) (Nat.le_of_ble_eq_true rfl) (Nat.le_of_ble_eq_true rfl)
      · have hC := wco_some hR hw
        first | refine z_aload_n dX10_join_21 rfl rfl ?_ | refine z_aload_nN dX10_join_21 rfl rfl ?_
        refine zmg_258 rfl dX10_join_22 rfl ?_
        rw [hC.1]
        refine z_if_ne (tgt := 31) dX10_join_25 rfl (by decide) (fun c25 => ?_) (fun c25 => absurd c25 (by decide))
        first | refine z_aload_n dX10_join_31 rfl rfl ?_ | refine z_aload_nN dX10_join_31 rfl rfl ?_
        refine zmg_233 rfl dX10_join_32 rfl ?_
        rw [hC.2.2.2.2.1]
        first | refine z_aload_n dX10_join_35 rfl rfl ?_ | refine z_aload_nN dX10_join_35 rfl rfl ?_
        refine zcx_X10_271 rfl dX10_join_36 rfl mo_recv (q_doubles g h m S C hC) rfl rfl ⟨(Nat.le_of_ble_eq_true rfl), (Nat.le_of_ble_eq_true rfl)⟩ ⟨(Nat.le_of_ble_eq_true rfl), (Nat.le_of_ble_eq_true rfl)⟩ (Nat.le_of_ble_eq_true rfl) ?_
        refine z_isub dX10_join_39 rfl ?_
        have hml := mrg_len C mode C.2.2.2
        have hl40 : C.2.2.2.length ≤ 40 := hC.2.2.2.2.2.1
        have hsl : (sMrg C mode).length = C.2.2.2.length - C.2.2.2.countP isD := by unfold sMrg; omega
        rw [nI_sub (show C.2.2.2.countP isD ≤ C.2.2.2.length by omega), ← hsl]
        refine z_bipush (v := 20) dX10_join_40 rfl (by decide) ?_
        refine z_icmp_le (tgt := 48) dX10_join_42 rfl (by decide) (fun c42 => ?_) (fun c42 => ?_)
        · skip
          have hle : ¬ 20 < (sMrg C mode).length := fun z => absurd c42 (nI_ge (a := 20) z (by omega))
          refine z_iconst (v := 0) dX10_join_48 rfl (by decide) ?_
          refine z_istore_n dX10_join_49 rfl (Nat.le_of_ble_eq_true rfl) ?_
          refine z_iconst (v := 0) dX10_join_50 rfl (by decide) ?_
          refine z_istore dX10_join_51 rfl (Nat.le_of_ble_eq_true rfl) ?_
          refine z_lv [(3, .int (nI ((C.2.2.2.take 0).filterMap (mrg C mode)).length)), (4, .int (nI 0)), (0, .ref m), (1, .int r), (2, .int mode)] ⟨rfl, rfl, rfl, rfl, rfl, trivial⟩ ?_
          refine R_join_L g h m S _ C hC r mode (fun S1 hs hm => ?_) C.2.2.2.length S 0 (by omega) (scr_r S) (fun i hi => absurd hi (by simp))
          first | refine z_aload_n dX10_join_190 rfl rfl ?_ | refine z_aload_nN dX10_join_190 rfl rfl ?_
          refine z_iload_n dX10_join_191 rfl rfl ?_
          first | refine z_aload_n dX10_join_192 rfl rfl ?_ | refine z_aload_nN dX10_join_192 rfl rfl ?_
          refine zcx_X10_275 rfl dX10_join_193 rfl mo_recv (q_joinedKind g h m S1 C (scr_co hs hC)) rfl rfl ⟨(Nat.le_of_ble_eq_true rfl), (Nat.le_of_ble_eq_true rfl)⟩ ⟨(Nat.le_of_ble_eq_true rfl), (Nat.le_of_ble_eq_true rfl)⟩ (Nat.le_of_ble_eq_true rfl) ?_
          refine z_iload_n dX10_join_196 rfl rfl ?_
          refine zc_X10_293 rfl dX10_join_197 rfl mo_recv (r_takesMade g h m S1 r _ (sMrg C mode).length (by omega) (rec_in c4)) rfl rfl ⟨(Nat.le_of_ble_eq_true rfl), (Nat.le_of_ble_eq_true rfl)⟩ ⟨(Nat.le_of_ble_eq_true rfl), (Nat.le_of_ble_eq_true rfl)⟩ (Nat.le_of_ble_eq_true rfl) (fun v h1 hz => ?_)
          obtain ⟨rfl, k, hk, hfr, rfl⟩ := hz
          refine z_iload_n dX10_join_200 rfl rfl ?_
          exact z_iret dX10_join_201 rfl rfl (mPost_of (RepM_made (RepM_scr hR hs) c4 hk hfr (jk_in ⟨hC.2.1.2.2.1.1, hC.2.1.2.2.1.2.1⟩) (by omega) (fun c hc => mrg_ok hC mode hc) hm) (join_some c4 c16 hw hle)) (Nat.le_of_ble_eq_true rfl) (Nat.le_of_ble_eq_true rfl)
        · skip
          refine z_bipush (v := -3) dX10_join_45 rfl (by decide) ?_
          exact z_iret dX10_join_47 rfl rfl (mPost_of hR (join_full c4 c16 hw (Nat.lt_of_not_le (fun z => c42 (nI_le (b := 20) z (by decide)))))) (Nat.le_of_ble_eq_true rfl) (Nat.le_of_ble_eq_true rfl)
    · skip
      refine z_iconst (v := -1) dX10_join_19 rfl (by decide) ?_
      exact z_iret dX10_join_20 rfl rfl (mPost_of hR (by grind [pJoin])) (Nat.le_of_ble_eq_true rfl) (Nat.le_of_ble_eq_true rfl)

