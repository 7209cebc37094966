theorem okS_0 : okS 0 := ⟨⟨false, 0, _, FP.Core.val32_fconst0, vle_0 _ _⟩, by decide⟩
theorem okF_0 : okF 0 := ⟨0, by decide, okS_0⟩
theorem fit_9 {k : Int32} (h : 7 < k) : sInto 9 k = true := by
  unfold sInto
  by_cases h9 : k = 9
  · rw [if_pos h9]
  · rw [if_neg h9, if_pos h]; rfl
/-- a blank cell of a kind -/
def bl0 (kind : Int32) : sC := (if 7 < kind then 9 else kind, 0, 0)
theorem bl_ok {k : Int32} (h : 0 ≤ k ∧ k ≤ 10) : sOk (bl0 k) ∧ sFit (bl0 k) k := by
  unfold bl0
  by_cases h7 : 7 < k
  · rw [if_pos h7]
    exact ⟨⟨by decide, by decide, fun q => absurd q (by decide), fun q => absurd q (by decide), fun _ _ => rfl, fun q => absurd q (by decide), fun _ => rfl⟩, fun q => absurd h7 (by grind), fun _ => fit_9 h7⟩
  · rw [if_neg h7]
    exact ⟨⟨h.1, h.2, fun _ => ⟨rfl, okF_0⟩, fun _ => ⟨rfl, okD_0⟩, fun _ _ => rfl, fun _ => Or.inl rfl, fun _ => rfl⟩, fun _ => rfl, fun q => absurd q h7⟩
theorem blank_ok {k : Int32} (h : 0 ≤ k ∧ k ≤ 10) {n : Nat} (hn : n ≤ 20) : aOk (blank0 k n) := ⟨h.1, h.2, by simp only [blank0, List.length_replicate]; exact hn, fun c hc => by rw [(List.mem_replicate.mp hc).2]; exact bl_ok h⟩
theorem RepM_new {S : sMS} {w : sW} {r kind : Int32} {k n : Nat} {L : List sC} (hR : RepM S w) (hr : isRec r) (hk : k < 8) (hf : mFresh S r k) (hA : aOk (kind, L)) (hn : n = L.length) (c : Nat → sC) (hc : ∀ i, i < n → c i = L.getD i z0) : RepM (mPut (mTake S r k kind (nI n)) (20 * k) c n) (wR w (rNew w.1 (ix r) (kind, L))) := by
  subst hn
  have hl : L.length ≤ 20 := hA.2.2.1
  refine ⟨rep_new hR.1 (ix_lt hr) hk hf (by rw [mPut_1 _ _ _ (by decide), mTake_6]) ⟨?_, ?_, hA, fun i hi => ?_⟩ (fun j hj hjk => ⟨?_, ?_, fun i hi => ?_⟩), ?_, ?_, ?_⟩
  · rw [mPut_1 _ _ _ (by decide), mTake_4, upd_same]
  · rw [mPut_1 _ _ _ (by decide), mTake_5, upd_same]
  · have hi : i < L.length := hi
    rw [mc_put, if_pos (by omega), Nat.add_sub_cancel_left]; exact hc i hi
  · rw [mPut_1 _ _ _ (by decide), mTake_4, upd, if_neg hjk]
  · rw [mPut_1 _ _ _ (by decide), mTake_5, upd, if_neg hjk]
  · rw [mc_put, if_neg (by omega), mc_take]
  · refine RepX_agree (S := S) (agree_1 (fun i h1 h4 h5 h6 => by rw [mPut_1 _ _ _ h1, mTake_o _ _ _ _ _ h4 h5 h6]) (fun i hi => ?_) (fun a ha => by rw [mc_put, if_neg (by omega), mc_take]) ?_) hR.2.1
    · rw [mPut_1 _ _ _ (by decide), mPut_1 _ _ _ (by decide), mTake_4, mTake_5, upd, if_neg (by omega), upd, if_neg (by omega)]; exact ⟨rfl, rfl⟩
    · rw [mPut_s]; exact ⟨rfl, rfl, rfl⟩
  · rw [mPut_s]; exact hR.2.2.1
  · rw [mPut_s]; exact hR.2.2.2
theorem RepM_stat {S : sMS} {w : sW} {r : Nat} {st : Nat} {v : Int32} (hR : RepM S w) (hst : (st = 0 ∧ v = -1) ∨ (st = 1 ∧ v = -2)) : RepM (va_up S.1 6 (upd (S.1 6) r v), S.2) (wR w (rStat w.1 r st)) := by
  refine ⟨rep_stat hR.1 hst (by simp [va_up]) (row_same (by simp [va_up]) (by simp [va_up]) (fun a => rfl)), ?_, hR.2.2.1, hR.2.2.2⟩
  have := RepX_agree (agree_6 S (upd (S.1 6) r v)) hR.2.1
  exact this

abbrev YX10_record : zY := (yX10_record.cls, cX10_record, 5, (some .int), rmX10_record, yX10_record.name, fun _ _ => True)
set_option maxHeartbeats 4000000 in
set_option maxRecDepth 100000 in
theorem R_record_L (g : zG) (h : zH) (m : Nat) (S : sMS) (w : sW) (hR : RepM S w) (r kind : Int32) (n k : Nat) (hn : n ≤ 20) (hr : isRec r) (hki : 0 ≤ kind ∧ kind ≤ 10) (hk : k < 8) (hfr : mFresh S r k) (he : (pRecord w r kind (nI n)) = (1, wR w (rNew w.1 (ix r) (blank0 kind n)))) : ∀ (nn i : Nat), i + nn = n → zZ g YX10_record (zE g (mPost m h (pRecord w r kind (nI n))) 0 0) 76 [(4, .int (nI i)), (0, .ref m), (1, .int r), (2, .int kind), (3, .int (nI n))] [] (mUp m (mPut (mTake S r k kind (nI n)) (20 * k) (fun _ => bl0 kind) i) h) 0 0 := by
  intro nn
  induction nn with
  | zero =>
    intro i hi
    refine z_iload dX10_record_76 rfl rfl ?_
    refine z_iload_n dX10_record_78 rfl rfl ?_
    refine z_icmp_ge (tgt := 113) dX10_record_79 rfl (by decide) (fun c79 => ?_) (fun c79 => absurd c79 (fun q => q (nI_le (by omega) (by omega))))
    refine z_iconst (v := 1) dX10_record_113 rfl (by decide) ?_
    exact z_iret dX10_record_114 rfl rfl (mPost_of (by rw [show i = n by omega]; exact RepM_new hR hr hk hfr (blank_ok hki hn) (by rw [List.length_replicate]) _ (fun i hi => by rw [List.getD_eq_getElem?_getD, List.getElem?_replicate, if_pos hi]; rfl)) he) (Nat.le_of_ble_eq_true rfl) (Nat.le_of_ble_eq_true rfl)
  | succ nn ih =>
    intro i hi
    refine z_iload dX10_record_76 rfl rfl ?_
    refine z_iload_n dX10_record_78 rfl rfl ?_
    refine z_icmp_ge (tgt := 113) dX10_record_79 rfl (by decide) (fun c79 => absurd c79 (nI_ge (by omega) (by omega))) (fun c79 => ?_)
    first | refine z_aload_n dX10_record_82 rfl rfl ?_ | refine z_aload_nN dX10_record_82 rfl rfl ?_
    first | refine z_aload_n dX10_record_83 rfl rfl ?_ | refine z_aload_nN dX10_record_83 rfl rfl ?_
    refine z_iload_n dX10_record_84 rfl rfl ?_
    refine z_iload dX10_record_85 rfl rfl ?_
    refine zcx_X10_135 rfl dX10_record_87 rfl mo_recv (r_cellAt g h m _ _ _ (rec_in hr)) rfl rfl ⟨(Nat.le_of_ble_eq_true rfl), (Nat.le_of_ble_eq_true rfl)⟩ ⟨(Nat.le_of_ble_eq_true rfl), (Nat.le_of_ble_eq_true rfl)⟩ (Nat.le_of_ble_eq_true rfl) ?_
    rw [mPut_1 _ _ _ (by decide), mTake_6, upd_same, n20]
    refine z_iload_n dX10_record_90 rfl rfl ?_
    refine z_bipush (v := 7) dX10_record_91 rfl (by decide) ?_
    refine z_icmp_le (tgt := 101) dX10_record_93 rfl (by decide) (fun c93 => ?_) (fun c93 => ?_)
    · skip
      refine z_iload_n dX10_record_101 rfl rfl ?_
      refine z_lconst (v := 0) dX10_record_102 rfl (by decide) ?_
      refine z_dconst0 dX10_record_103 rfl ?_
      refine zcv_X10_84 rfl dX10_record_104 rfl mo_recv (r_lays g h m _ _ _ _ _ (vp_in_nI (show 20 * k + i < 880 by omega) (by decide))) rfl rfl ⟨(Nat.le_of_ble_eq_true rfl), (Nat.le_of_ble_eq_true rfl)⟩ ⟨(Nat.le_of_ble_eq_true rfl), (Nat.le_of_ble_eq_true rfl)⟩ (Nat.le_of_ble_eq_true rfl) ?_
      rw [nI_clamp (show 20 * k + i < 2 ^ 31 by omega), show ((kind : Int32), (0 : Int64), FP.dconst0) = bl0 kind from by unfold bl0; rw [if_neg (by grind)]; rfl]
      refine z_iinc (v := nI (i + 1)) dX10_record_107 rfl rfl (nI_inc i) (Nat.le_of_ble_eq_true rfl) ?_
      refine z_goto (tgt := 76) dX10_record_110 rfl (by decide) ?_
      refine z_lv [(4, .int (nI (i + 1))), (0, .ref m), (1, .int r), (2, .int kind), (3, .int (nI n))] ⟨rfl, rfl, rfl, rfl, rfl, trivial⟩ ?_
      exact ih (i + 1) (by omega)
    · skip
      refine z_bipush (v := 9) dX10_record_96 rfl (by decide) ?_
      refine z_goto (tgt := 102) dX10_record_98 rfl (by decide) ?_
      refine z_lconst (v := 0) dX10_record_102 rfl (by decide) ?_
      refine z_dconst0 dX10_record_103 rfl ?_
      refine zcv_X10_84 rfl dX10_record_104 rfl mo_recv (r_lays g h m _ _ _ _ _ (vp_in_nI (show 20 * k + i < 880 by omega) (by decide))) rfl rfl ⟨(Nat.le_of_ble_eq_true rfl), (Nat.le_of_ble_eq_true rfl)⟩ ⟨(Nat.le_of_ble_eq_true rfl), (Nat.le_of_ble_eq_true rfl)⟩ (Nat.le_of_ble_eq_true rfl) ?_
      rw [nI_clamp (show 20 * k + i < 2 ^ 31 by omega), show ((9 : Int32), (0 : Int64), FP.dconst0) = bl0 kind from by unfold bl0; rw [if_pos (by grind)]; rfl]
      refine z_iinc (v := nI (i + 1)) dX10_record_107 rfl rfl (nI_inc i) (Nat.le_of_ble_eq_true rfl) ?_
      refine z_goto (tgt := 76) dX10_record_110 rfl (by decide) ?_
      refine z_lv [(4, .int (nI (i + 1))), (0, .ref m), (1, .int r), (2, .int kind), (3, .int (nI n))] ⟨rfl, rfl, rfl, rfl, rfl, trivial⟩ ?_
      exact ih (i + 1) (by omega)
set_option maxHeartbeats 4000000 in
set_option maxRecDepth 100000 in
theorem R_record (g : zG) (h : zH) (m : Nat) (S : sMS) (w : sW) (hR : RepM S w) (r kind n : Int32) : zM g yX10_record cX10_record 5 (some .int) rmX10_record [.ref m, .int r, .int kind, .int n] (mUp m S h) (mPost m h (pRecord w r kind n)) := by
  refine zM_of (by decide) (Nat.le_of_ble_eq_true rfl) ?_
  refine z_iload_n dX10_record_0 rfl rfl ?_
  refine zcx_X10_141 rfl dX10_record_1 rfl (r_isRecord g _ _) rfl rfl ⟨(Nat.le_of_ble_eq_true rfl), (Nat.le_of_ble_eq_true rfl)⟩ ⟨(Nat.le_of_ble_eq_true rfl), (Nat.le_of_ble_eq_true rfl)⟩ (Nat.le_of_ble_eq_true rfl) ?_
  refine z_bif_eq (tgt := 31) dX10_record_4 rfl (by decide) (fun c4 => ?_) (fun c4 => ?_)
  · skip
    refine z_iconst (v := -1) dX10_record_31 rfl (by decide) ?_
    exact z_iret dX10_record_32 rfl rfl (mPost_of hR (by grind [pRecord])) (Nat.le_of_ble_eq_true rfl) (Nat.le_of_ble_eq_true rfl)
  · skip
    refine z_iload_n dX10_record_7 rfl rfl ?_
    refine z_i2l dX10_record_8 rfl ?_
    refine z_lconst (v := 0) dX10_record_9 rfl (by decide) ?_
    refine zk_X10_144 rfl dX10_record_10 rfl ?_
    refine zcx_X10_72 rfl dX10_record_13 rfl (r_in32 g _ _ 0 12 rfl rfl) rfl rfl ⟨(Nat.le_of_ble_eq_true rfl), (Nat.le_of_ble_eq_true rfl)⟩ ⟨(Nat.le_of_ble_eq_true rfl), (Nat.le_of_ble_eq_true rfl)⟩ (Nat.le_of_ble_eq_true rfl) ?_
    refine z_bif_eq (tgt := 31) dX10_record_16 rfl (by decide) (fun c16 => ?_) (fun c16 => ?_)
    · skip
      refine z_iconst (v := -1) dX10_record_31 rfl (by decide) ?_
      exact z_iret dX10_record_32 rfl rfl (mPost_of hR (by grind [pRecord])) (Nat.le_of_ble_eq_true rfl) (Nat.le_of_ble_eq_true rfl)
    · skip
      refine z_iload_n dX10_record_19 rfl rfl ?_
      refine z_bipush (v := 10) dX10_record_20 rfl (by decide) ?_
      refine z_icmp_gt (tgt := 33) dX10_record_22 rfl (by decide) (fun c22 => ?_) (fun c22 => ?_)
      · skip
        refine z_iload_n dX10_record_33 rfl rfl ?_
        refine z_bipush (v := 10) dX10_record_34 rfl (by decide) ?_
        refine z_icmp_le (tgt := 59) dX10_record_36 rfl (by decide) (fun c36 => ?_) (fun c36 => ?_)
        · skip
          refine z_iload_n dX10_record_59 rfl rfl ?_
          refine z_if_ge (tgt := 66) dX10_record_60 rfl (by decide) (fun c60 => ?_) (fun c60 => ?_)
          · skip
            obtain ⟨N, hN, rfl⟩ := nI_of2 (x := n) (M := 20) (n := 20) (by decide) (by grind) (by grind)
            first | refine z_aload_n dX10_record_66 rfl rfl ?_ | refine z_aload_nN dX10_record_66 rfl rfl ?_
            refine z_iload_n dX10_record_67 rfl rfl ?_
            refine z_iload_n dX10_record_68 rfl rfl ?_
            refine z_iload_n dX10_record_69 rfl rfl ?_
            refine zc_X10_131 rfl dX10_record_70 rfl mo_recv (r_takesRow g h m S r kind (nI N) (rec_in c4)) rfl rfl ⟨(Nat.le_of_ble_eq_true rfl), (Nat.le_of_ble_eq_true rfl)⟩ ⟨(Nat.le_of_ble_eq_true rfl), (Nat.le_of_ble_eq_true rfl)⟩ (Nat.le_of_ble_eq_true rfl) (fun v h1 hq => ?_)
            obtain ⟨rfl, k, hk, hfr, rfl⟩ := hq
            refine z_iconst (v := 0) dX10_record_73 rfl (by decide) ?_
            refine z_istore dX10_record_74 rfl (Nat.le_of_ble_eq_true rfl) ?_
            refine z_lv [(4, .int (nI 0)), (0, .ref m), (1, .int r), (2, .int kind), (3, .int (nI N))] ⟨rfl, rfl, rfl, rfl, rfl, trivial⟩ ?_
            exact R_record_L g h m S w hR r kind N k hN c4 (by grind) hk hfr (by have e : ix (nI N) = N := nI_clamp (by omega); unfold pRecord; rw [if_neg (by grind), if_neg (by grind), if_neg (by grind), e]) N 0 (by omega)
          · skip
            refine z_bipush (v := -16) dX10_record_63 rfl (by decide) ?_
            exact z_iret dX10_record_65 rfl rfl (mPost_of hR (by grind [pRecord])) (Nat.le_of_ble_eq_true rfl) (Nat.le_of_ble_eq_true rfl)
        · skip
          first | refine z_aload_n dX10_record_39 rfl rfl ?_ | refine z_aload_nN dX10_record_39 rfl rfl ?_
          refine zmg_27 rfl dX10_record_40 rfl ?_
          refine z_iload_n dX10_record_43 rfl rfl ?_
          refine z_iload_n dX10_record_44 rfl rfl ?_
          refine z_bipush (v := 11) dX10_record_45 rfl (by decide) ?_
          refine z_icmp_ne (tgt := 55) dX10_record_47 rfl (by decide) (fun c47 => ?_) (fun c47 => ?_)
          · skip
            refine z_iconst (v := -1) dX10_record_55 rfl (by decide) ?_
            refine zm_iast dX10_record_56 rfl rfl (rec_in c4) ?_
            refine z_iconst (v := 1) dX10_record_57 rfl (by decide) ?_
            exact z_iret dX10_record_58 rfl rfl (mPost_of (RepM_stat (st := if kind = 11 then 1 else 0) hR (by grind)) (by grind [pRecord])) (Nat.le_of_ble_eq_true rfl) (Nat.le_of_ble_eq_true rfl)
          · skip
            refine z_bipush (v := -2) dX10_record_50 rfl (by decide) ?_
            refine z_goto (tgt := 56) dX10_record_52 rfl (by decide) ?_
            refine zm_iast dX10_record_56 rfl rfl (rec_in c4) ?_
            refine z_iconst (v := 1) dX10_record_57 rfl (by decide) ?_
            exact z_iret dX10_record_58 rfl rfl (mPost_of (RepM_stat (st := if kind = 11 then 1 else 0) hR (by grind)) (by grind [pRecord])) (Nat.le_of_ble_eq_true rfl) (Nat.le_of_ble_eq_true rfl)
      · skip
        refine z_iload_n dX10_record_25 rfl rfl ?_
        refine z_bipush (v := 20) dX10_record_26 rfl (by decide) ?_
        refine z_icmp_le (tgt := 33) dX10_record_28 rfl (by decide) (fun c28 => ?_) (fun c28 => ?_)
        · skip
          refine z_iload_n dX10_record_33 rfl rfl ?_
          refine z_bipush (v := 10) dX10_record_34 rfl (by decide) ?_
          refine z_icmp_le (tgt := 59) dX10_record_36 rfl (by decide) (fun c36 => ?_) (fun c36 => ?_)
          · skip
            refine z_iload_n dX10_record_59 rfl rfl ?_
            refine z_if_ge (tgt := 66) dX10_record_60 rfl (by decide) (fun c60 => ?_) (fun c60 => ?_)
            · skip
              obtain ⟨N, hN, rfl⟩ := nI_of2 (x := n) (M := 20) (n := 20) (by decide) (by grind) (by grind)
              first | refine z_aload_n dX10_record_66 rfl rfl ?_ | refine z_aload_nN dX10_record_66 rfl rfl ?_
              refine z_iload_n dX10_record_67 rfl rfl ?_
              refine z_iload_n dX10_record_68 rfl rfl ?_
              refine z_iload_n dX10_record_69 rfl rfl ?_
              refine zc_X10_131 rfl dX10_record_70 rfl mo_recv (r_takesRow g h m S r kind (nI N) (rec_in c4)) rfl rfl ⟨(Nat.le_of_ble_eq_true rfl), (Nat.le_of_ble_eq_true rfl)⟩ ⟨(Nat.le_of_ble_eq_true rfl), (Nat.le_of_ble_eq_true rfl)⟩ (Nat.le_of_ble_eq_true rfl) (fun v h1 hq => ?_)
              obtain ⟨rfl, k, hk, hfr, rfl⟩ := hq
              refine z_iconst (v := 0) dX10_record_73 rfl (by decide) ?_
              refine z_istore dX10_record_74 rfl (Nat.le_of_ble_eq_true rfl) ?_
              refine z_lv [(4, .int (nI 0)), (0, .ref m), (1, .int r), (2, .int kind), (3, .int (nI N))] ⟨rfl, rfl, rfl, rfl, rfl, trivial⟩ ?_
              exact R_record_L g h m S w hR r kind N k hN c4 (by grind) hk hfr (by have e : ix (nI N) = N := nI_clamp (by omega); unfold pRecord; rw [if_neg (by grind), if_neg (by grind), if_neg (by grind), e]) N 0 (by omega)
            · skip
              refine z_bipush (v := -16) dX10_record_63 rfl (by decide) ?_
              exact z_iret dX10_record_65 rfl rfl (mPost_of hR (by grind [pRecord])) (Nat.le_of_ble_eq_true rfl) (Nat.le_of_ble_eq_true rfl)
          · skip
            first | refine z_aload_n dX10_record_39 rfl rfl ?_ | refine z_aload_nN dX10_record_39 rfl rfl ?_
            refine zmg_27 rfl dX10_record_40 rfl ?_
            refine z_iload_n dX10_record_43 rfl rfl ?_
            refine z_iload_n dX10_record_44 rfl rfl ?_
            refine z_bipush (v := 11) dX10_record_45 rfl (by decide) ?_
            refine z_icmp_ne (tgt := 55) dX10_record_47 rfl (by decide) (fun c47 => ?_) (fun c47 => ?_)
            · skip
              refine z_iconst (v := -1) dX10_record_55 rfl (by decide) ?_
              refine zm_iast dX10_record_56 rfl rfl (rec_in c4) ?_
              refine z_iconst (v := 1) dX10_record_57 rfl (by decide) ?_
              exact z_iret dX10_record_58 rfl rfl (mPost_of (RepM_stat (st := if kind = 11 then 1 else 0) hR (by grind)) (by grind [pRecord])) (Nat.le_of_ble_eq_true rfl) (Nat.le_of_ble_eq_true rfl)
            · skip
              refine z_bipush (v := -2) dX10_record_50 rfl (by decide) ?_
              refine z_goto (tgt := 56) dX10_record_52 rfl (by decide) ?_
              refine zm_iast dX10_record_56 rfl rfl (rec_in c4) ?_
              refine z_iconst (v := 1) dX10_record_57 rfl (by decide) ?_
              exact z_iret dX10_record_58 rfl rfl (mPost_of (RepM_stat (st := if kind = 11 then 1 else 0) hR (by grind)) (by grind [pRecord])) (Nat.le_of_ble_eq_true rfl) (Nat.le_of_ble_eq_true rfl)
        · skip
          refine z_iconst (v := -1) dX10_record_31 rfl (by decide) ?_
          exact z_iret dX10_record_32 rfl rfl (mPost_of hR (by grind [pRecord])) (Nat.le_of_ble_eq_true rfl) (Nat.le_of_ble_eq_true rfl)

theorem take_s {L : List sC} {i : Nat} (hi : i < L.length) : L.take (i + 1) = L.take i ++ [L.getD i z0] := by
  rw [List.take_succ, List.getD_eq_getElem?_getD, List.getElem?_eq_getElem hi]
  rfl
theorem sumL_s {L : List sC} {i : Nat} (hi : i < L.length) : sumL (L.take i) + (L.getD i z0).2.1 = sumL (L.take (i + 1)) := by
  rw [take_s hi]
  simp only [sumL, List.foldl_append, List.foldl_cons, List.foldl_nil]
theorem sumF_s {L : List sC} {i : Nat} (hi : i < L.length) : FP.fadd (sumF (L.take i)) (FP.d2f (sReal (L.getD i z0) 6)) = sumF (L.take (i + 1)) := by
  rw [take_s hi]
  simp only [sumF, List.foldl_append, List.foldl_cons, List.foldl_nil]
theorem sumD_s {L : List sC} {i : Nat} (hi : i < L.length) : FP.dadd (sumD (L.take i)) (sReal (L.getD i z0) 7) = sumD (L.take (i + 1)) := by
  rw [take_s hi]
  simp only [sumD, List.foldl_append, List.foldl_cons, List.foldl_nil]
theorem sSum_6 (L : List sC) : sSum L 6 = sBits 6 (FP.f2d (sumF L)) := by unfold sSum; rw [if_pos rfl]
theorem sSum_7 (L : List sC) : sSum L 7 = sBits 7 (sumD L) := by unfold sSum; rw [if_neg (by decide), if_pos rfl]
theorem fpS_0 (k : Nat) : fpS k FP.fconst0 := ⟨false, 0, _, FP.Core.val32_fconst0, vle_0 _ _⟩
theorem fpD_0 (k : Nat) : fpD k FP.dconst0 := ⟨false, 0, _, FP.Core.val64_dconst0, vle_0 _ _⟩
theorem sumF_le {L : List sC} (hL : ∀ i, i < L.length → okD (sReal (L.getD i z0) 6)) : ∀ i, i ≤ L.length → i ≤ 20 → fpS (63 + i) (sumF (L.take i))
  | 0, _, _ => by rw [List.take_zero]; exact fpS_0 _
  | i + 1, h, h2 => by
    rw [← sumF_s (by omega)]
    exact fpS_fadd (k := 63 + i) (sumF_le hL i (by omega) (by omega)) (fpS_up (fpS_d2f (hL i (by omega)).1 (by decide)) (by omega)) (by omega)
theorem sumD_le {L : List sC} (hL : ∀ i, i < L.length → okD (sReal (L.getD i z0) 7)) : ∀ i, i ≤ L.length → i ≤ 20 → fpD (63 + i) (sumD (L.take i))
  | 0, _, _ => by rw [List.take_zero]; exact fpD_0 _
  | i + 1, h, h2 => by
    rw [← sumD_s (by omega)]
    exact fpD_dadd (k := 63 + i) (sumD_le hL i (by omega) (by omega)) (fpD_up (hL i (by omega)).1 (by omega)) (by omega)

abbrev YX10_summed : zY := (yX10_summed.cls, cX10_summed, 9, (some .long), rmX10_summed, yX10_summed.name, fun _ _ => True)
set_option maxHeartbeats 4000000 in
set_option maxRecDepth 100000 in
theorem q_summed_6 (g : zG) (h : zH) (m : Nat) (S : sMS) (R : sR) (hR : rRep (S.1 6) (mRowIs S) R) (r  : Int32) (hr : isRec r) (h2 : R.1 (ix r) = 2) (hL : ∀ i, i < (R.2.1 (ix r)).2.length → okD (sReal ((R.2.1 (ix r)).2.getD i z0) 6)) : ∀ (n i : Nat), i + n = (R.2.1 (ix r)).2.length → zZ g YX10_summed (zE g (fun v h1 => v = some (.long (sSum (R.2.1 (ix r)).2 6)) ∧ h1 = mUp m S h) 0 0) 11 [(8, .int (nI i)), (0, .ref m), (1, .int r), (2, .int 6), (3, .long 0), (5, .float (sumF ((R.2.1 (ix r)).2.take i))), (6, .double FP.dconst0)] [] (mUp m S h) 0 0 := by
  have hk := rep_kind hR (ix_lt hr) h2
  have hl : (R.2.1 (ix r)).2.length ≤ 20 := hk.2.2.2.2.2.1
  intro n
  induction n with
  | zero =>
    intro i hi
    have ei : (R.2.1 (ix r)).2.take i = (R.2.1 (ix r)).2 := by rw [show i = (R.2.1 (ix r)).2.length by omega]; exact List.take_length
    refine z_iload dX10_summed_11 rfl rfl ?_
    first | refine z_aload_n dX10_summed_13 rfl rfl ?_ | refine z_aload_nN dX10_summed_13 rfl rfl ?_
    refine z_iload_n dX10_summed_14 rfl rfl ?_
    refine zcx_X10_152 rfl dX10_summed_15 rfl mo_recv (r_sizeOf g h m S _ (rec_in hr) hk.2.2.1) rfl rfl ⟨(Nat.le_of_ble_eq_true rfl), (Nat.le_of_ble_eq_true rfl)⟩ ⟨(Nat.le_of_ble_eq_true rfl), (Nat.le_of_ble_eq_true rfl)⟩ (Nat.le_of_ble_eq_true rfl) ?_
    rw [hk.2.1]
    refine z_icmp_ge (tgt := 95) dX10_summed_18 rfl (by decide) (fun c18 => ?_) (fun c18 => absurd c18 (fun q => q (nI_le (by omega) (by omega))))
    refine z_iload_n dX10_summed_95 rfl rfl ?_
    refine z_bipush (v := 6) dX10_summed_96 rfl (by decide) ?_
    refine z_icmp_ne (tgt := 111) dX10_summed_98 rfl (by decide) (fun c98 => absurd c98 (fun q => q rfl)) (fun c98 => ?_)
    refine z_iload_n dX10_summed_101 rfl rfl ?_
    refine z_fload dX10_summed_102 rfl rfl ?_
    refine z_f2d dX10_summed_104 rfl (fpD_n (fpD_f2d (sumF_le hL i (by omega) (by omega)) (by omega))) ?_
    refine zcx_X10_104 rfl dX10_summed_105 rfl (r_bitsOf g _ _ _ (fun _ => fpD_up (fpD_f2d (sumF_le hL i (by omega) (by omega)) (by omega)) (by omega)) (fun q => absurd rfl q)) rfl rfl ⟨(Nat.le_of_ble_eq_true rfl), (Nat.le_of_ble_eq_true rfl)⟩ ⟨(Nat.le_of_ble_eq_true rfl), (Nat.le_of_ble_eq_true rfl)⟩ (Nat.le_of_ble_eq_true rfl) ?_
    refine z_goto (tgt := 127) dX10_summed_108 rfl (by decide) ?_
    exact z_lret dX10_summed_127 rfl rfl ⟨by rw [ei, sSum_6], rfl⟩ (Nat.le_of_ble_eq_true rfl) (Nat.le_of_ble_eq_true rfl)
  | succ n ih =>
    intro i hi
    refine z_iload dX10_summed_11 rfl rfl ?_
    first | refine z_aload_n dX10_summed_13 rfl rfl ?_ | refine z_aload_nN dX10_summed_13 rfl rfl ?_
    refine z_iload_n dX10_summed_14 rfl rfl ?_
    refine zcx_X10_152 rfl dX10_summed_15 rfl mo_recv (r_sizeOf g h m S _ (rec_in hr) hk.2.2.1) rfl rfl ⟨(Nat.le_of_ble_eq_true rfl), (Nat.le_of_ble_eq_true rfl)⟩ ⟨(Nat.le_of_ble_eq_true rfl), (Nat.le_of_ble_eq_true rfl)⟩ (Nat.le_of_ble_eq_true rfl) ?_
    rw [hk.2.1]
    refine z_icmp_ge (tgt := 95) dX10_summed_18 rfl (by decide) (fun c18 => absurd c18 (nI_ge (by omega) (by omega))) (fun c18 => ?_)
    obtain ⟨hin, hmc, hok, hlt, k0, hk0, hke, hrow, hat⟩ := rep_cell hR (i := nI i) (ix_lt hr) h2 (by rw [nI_toInt (by omega)]; omega) (by rw [nI_toInt (by omega)]; omega)
    have hix : ix (nI i) = i := nI_clamp (by omega)
    rw [hix] at hmc
    have hmc : mc S (20 * S.1 6 (ix r) + nI i).toNatClampNeg = (R.2.1 (ix r)).2.getD i z0 := hmc
    refine z_iload_n dX10_summed_21 rfl rfl ?_
    refine z_bipush (v := 6) dX10_summed_22 rfl (by decide) ?_
    refine z_icmp_ne (tgt := 48) dX10_summed_24 rfl (by decide) (fun c24 => absurd c24 (fun q => q rfl)) (fun c24 => ?_)
    refine z_fload dX10_summed_27 rfl rfl ?_
    first | refine z_aload_n dX10_summed_29 rfl rfl ?_ | refine z_aload_nN dX10_summed_29 rfl rfl ?_
    first | refine z_aload_n dX10_summed_30 rfl rfl ?_ | refine z_aload_nN dX10_summed_30 rfl rfl ?_
    refine z_iload_n dX10_summed_31 rfl rfl ?_
    refine z_iload dX10_summed_32 rfl rfl ?_
    refine zcx_X10_135 rfl dX10_summed_34 rfl mo_recv (r_cellAt g h m S _ _ (rec_in hr)) rfl rfl ⟨(Nat.le_of_ble_eq_true rfl), (Nat.le_of_ble_eq_true rfl)⟩ ⟨(Nat.le_of_ble_eq_true rfl), (Nat.le_of_ble_eq_true rfl)⟩ (Nat.le_of_ble_eq_true rfl) ?_
    refine z_iload_n dX10_summed_37 rfl rfl ?_
    refine zcx_X10_88 rfl dX10_summed_38 rfl mo_recv (r_fractionOf g h m S _ _ hin) rfl rfl ⟨(Nat.le_of_ble_eq_true rfl), (Nat.le_of_ble_eq_true rfl)⟩ ⟨(Nat.le_of_ble_eq_true rfl), (Nat.le_of_ble_eq_true rfl)⟩ (Nat.le_of_ble_eq_true rfl) ?_
    rw [hmc]
    refine z_d2f dX10_summed_41 rfl (fpS_n (fpS_d2f (hL i (by omega)).1 (by decide))) ?_
    refine z_fadd dX10_summed_42 rfl (fpS_n (fpS_fadd (k := 63 + i) (sumF_le hL i (by omega) (by omega)) (fpS_up (fpS_d2f (hL i (by omega)).1 (by decide)) (by omega)) (by omega))) ?_
    rw [sumF_s (show i < (R.2.1 (ix r)).2.length by omega)]
    refine z_fstore dX10_summed_43 rfl (Nat.le_of_ble_eq_true rfl) ?_
    refine z_goto (tgt := 89) dX10_summed_45 rfl (by decide) ?_
    refine z_iinc (v := nI (i + 1)) dX10_summed_89 rfl rfl (nI_inc i) (Nat.le_of_ble_eq_true rfl) ?_
    refine z_goto (tgt := 11) dX10_summed_92 rfl (by decide) ?_
    refine z_lv [(8, .int (nI (i + 1))), (0, .ref m), (1, .int r), (2, .int 6), (3, .long 0), (5, .float (sumF ((R.2.1 (ix r)).2.take (i + 1)))), (6, .double FP.dconst0)] ⟨rfl, rfl, rfl, rfl, rfl, rfl, rfl, trivial⟩ ?_
    exact ih (i + 1) (by omega)
set_option maxHeartbeats 4000000 in
set_option maxRecDepth 100000 in
theorem q_summed_7 (g : zG) (h : zH) (m : Nat) (S : sMS) (R : sR) (hR : rRep (S.1 6) (mRowIs S) R) (r  : Int32) (hr : isRec r) (h2 : R.1 (ix r) = 2) (hL : ∀ i, i < (R.2.1 (ix r)).2.length → okD (sReal ((R.2.1 (ix r)).2.getD i z0) 7)) : ∀ (n i : Nat), i + n = (R.2.1 (ix r)).2.length → zZ g YX10_summed (zE g (fun v h1 => v = some (.long (sSum (R.2.1 (ix r)).2 7)) ∧ h1 = mUp m S h) 0 0) 11 [(8, .int (nI i)), (0, .ref m), (1, .int r), (2, .int 7), (3, .long 0), (5, .float FP.fconst0), (6, .double (sumD ((R.2.1 (ix r)).2.take i)))] [] (mUp m S h) 0 0 := by
  have hk := rep_kind hR (ix_lt hr) h2
  have hl : (R.2.1 (ix r)).2.length ≤ 20 := hk.2.2.2.2.2.1
  intro n
  induction n with
  | zero =>
    intro i hi
    have ei : (R.2.1 (ix r)).2.take i = (R.2.1 (ix r)).2 := by rw [show i = (R.2.1 (ix r)).2.length by omega]; exact List.take_length
    refine z_iload dX10_summed_11 rfl rfl ?_
    first | refine z_aload_n dX10_summed_13 rfl rfl ?_ | refine z_aload_nN dX10_summed_13 rfl rfl ?_
    refine z_iload_n dX10_summed_14 rfl rfl ?_
    refine zcx_X10_152 rfl dX10_summed_15 rfl mo_recv (r_sizeOf g h m S _ (rec_in hr) hk.2.2.1) rfl rfl ⟨(Nat.le_of_ble_eq_true rfl), (Nat.le_of_ble_eq_true rfl)⟩ ⟨(Nat.le_of_ble_eq_true rfl), (Nat.le_of_ble_eq_true rfl)⟩ (Nat.le_of_ble_eq_true rfl) ?_
    rw [hk.2.1]
    refine z_icmp_ge (tgt := 95) dX10_summed_18 rfl (by decide) (fun c18 => ?_) (fun c18 => absurd c18 (fun q => q (nI_le (by omega) (by omega))))
    refine z_iload_n dX10_summed_95 rfl rfl ?_
    refine z_bipush (v := 6) dX10_summed_96 rfl (by decide) ?_
    refine z_icmp_ne (tgt := 111) dX10_summed_98 rfl (by decide) (fun c98 => ?_) (fun c98 => absurd c98 (by decide))
    refine z_iload_n dX10_summed_111 rfl rfl ?_
    refine z_bipush (v := 7) dX10_summed_112 rfl (by decide) ?_
    refine z_icmp_ne (tgt := 126) dX10_summed_114 rfl (by decide) (fun c114 => absurd c114 (fun q => q rfl)) (fun c114 => ?_)
    refine z_iload_n dX10_summed_117 rfl rfl ?_
    refine z_dload dX10_summed_118 rfl rfl ?_
    refine zcx_X10_104 rfl dX10_summed_120 rfl (r_bitsOf g _ _ _ (fun q => absurd q (by decide)) (fun _ => fpD_nn (sumD_le hL i (by omega) (by omega)))) rfl rfl ⟨(Nat.le_of_ble_eq_true rfl), (Nat.le_of_ble_eq_true rfl)⟩ ⟨(Nat.le_of_ble_eq_true rfl), (Nat.le_of_ble_eq_true rfl)⟩ (Nat.le_of_ble_eq_true rfl) ?_
    refine z_goto (tgt := 127) dX10_summed_123 rfl (by decide) ?_
    exact z_lret dX10_summed_127 rfl rfl ⟨by rw [ei, sSum_7], rfl⟩ (Nat.le_of_ble_eq_true rfl) (Nat.le_of_ble_eq_true rfl)
  | succ n ih =>
    intro i hi
    refine z_iload dX10_summed_11 rfl rfl ?_
    first | refine z_aload_n dX10_summed_13 rfl rfl ?_ | refine z_aload_nN dX10_summed_13 rfl rfl ?_
    refine z_iload_n dX10_summed_14 rfl rfl ?_
    refine zcx_X10_152 rfl dX10_summed_15 rfl mo_recv (r_sizeOf g h m S _ (rec_in hr) hk.2.2.1) rfl rfl ⟨(Nat.le_of_ble_eq_true rfl), (Nat.le_of_ble_eq_true rfl)⟩ ⟨(Nat.le_of_ble_eq_true rfl), (Nat.le_of_ble_eq_true rfl)⟩ (Nat.le_of_ble_eq_true rfl) ?_
    rw [hk.2.1]
    refine z_icmp_ge (tgt := 95) dX10_summed_18 rfl (by decide) (fun c18 => absurd c18 (nI_ge (by omega) (by omega))) (fun c18 => ?_)
    obtain ⟨hin, hmc, hok, hlt, k0, hk0, hke, hrow, hat⟩ := rep_cell hR (i := nI i) (ix_lt hr) h2 (by rw [nI_toInt (by omega)]; omega) (by rw [nI_toInt (by omega)]; omega)
    have hix : ix (nI i) = i := nI_clamp (by omega)
    rw [hix] at hmc
    have hmc : mc S (20 * S.1 6 (ix r) + nI i).toNatClampNeg = (R.2.1 (ix r)).2.getD i z0 := hmc
    refine z_iload_n dX10_summed_21 rfl rfl ?_
    refine z_bipush (v := 6) dX10_summed_22 rfl (by decide) ?_
    refine z_icmp_ne (tgt := 48) dX10_summed_24 rfl (by decide) (fun c24 => ?_) (fun c24 => absurd c24 (by decide))
    refine z_iload_n dX10_summed_48 rfl rfl ?_
    refine z_bipush (v := 7) dX10_summed_49 rfl (by decide) ?_
    refine z_icmp_ne (tgt := 74) dX10_summed_51 rfl (by decide) (fun c51 => absurd c51 (fun q => q rfl)) (fun c51 => ?_)
    refine z_dload dX10_summed_54 rfl rfl ?_
    first | refine z_aload_n dX10_summed_56 rfl rfl ?_ | refine z_aload_nN dX10_summed_56 rfl rfl ?_
    first | refine z_aload_n dX10_summed_57 rfl rfl ?_ | refine z_aload_nN dX10_summed_57 rfl rfl ?_
    refine z_iload_n dX10_summed_58 rfl rfl ?_
    refine z_iload dX10_summed_59 rfl rfl ?_
    refine zcx_X10_135 rfl dX10_summed_61 rfl mo_recv (r_cellAt g h m S _ _ (rec_in hr)) rfl rfl ⟨(Nat.le_of_ble_eq_true rfl), (Nat.le_of_ble_eq_true rfl)⟩ ⟨(Nat.le_of_ble_eq_true rfl), (Nat.le_of_ble_eq_true rfl)⟩ (Nat.le_of_ble_eq_true rfl) ?_
    refine z_iload_n dX10_summed_64 rfl rfl ?_
    refine zcx_X10_88 rfl dX10_summed_65 rfl mo_recv (r_fractionOf g h m S _ _ hin) rfl rfl ⟨(Nat.le_of_ble_eq_true rfl), (Nat.le_of_ble_eq_true rfl)⟩ ⟨(Nat.le_of_ble_eq_true rfl), (Nat.le_of_ble_eq_true rfl)⟩ (Nat.le_of_ble_eq_true rfl) ?_
    rw [hmc]
    refine z_dadd dX10_summed_68 rfl (fpD_n (fpD_dadd (k := 63 + i) (sumD_le hL i (by omega) (by omega)) (fpD_up (hL i (by omega)).1 (by omega)) (by omega))) ?_
    rw [sumD_s (show i < (R.2.1 (ix r)).2.length by omega)]
    refine z_dstore dX10_summed_69 rfl (Nat.le_of_ble_eq_true rfl) ?_
    refine z_goto (tgt := 89) dX10_summed_71 rfl (by decide) ?_
    refine z_iinc (v := nI (i + 1)) dX10_summed_89 rfl rfl (nI_inc i) (Nat.le_of_ble_eq_true rfl) ?_
    refine z_goto (tgt := 11) dX10_summed_92 rfl (by decide) ?_
    refine z_lv [(8, .int (nI (i + 1))), (0, .ref m), (1, .int r), (2, .int 7), (3, .long 0), (5, .float FP.fconst0), (6, .double (sumD ((R.2.1 (ix r)).2.take (i + 1))))] ⟨rfl, rfl, rfl, rfl, rfl, rfl, rfl, trivial⟩ ?_
    exact ih (i + 1) (by omega)
set_option maxHeartbeats 4000000 in
set_option maxRecDepth 100000 in
theorem q_summed_n (g : zG) (h : zH) (m : Nat) (S : sMS) (R : sR) (hR : rRep (S.1 6) (mRowIs S) R) (r kind : Int32) (hr : isRec r) (h2 : R.1 (ix r) = 2) (h6 : ¬ kind = 6) (h7 : ¬ kind = 7) : ∀ (n i : Nat), i + n = (R.2.1 (ix r)).2.length → zZ g YX10_summed (zE g (fun v h1 => v = some (.long (sSum (R.2.1 (ix r)).2 kind)) ∧ h1 = mUp m S h) 0 0) 11 [(8, .int (nI i)), (0, .ref m), (1, .int r), (2, .int kind), (3, .long (sumL ((R.2.1 (ix r)).2.take i))), (5, .float FP.fconst0), (6, .double FP.dconst0)] [] (mUp m S h) 0 0 := by
  have hk := rep_kind hR (ix_lt hr) h2
  have hl : (R.2.1 (ix r)).2.length ≤ 20 := hk.2.2.2.2.2.1
  intro n
  induction n with
  | zero =>
    intro i hi
    have ei : (R.2.1 (ix r)).2.take i = (R.2.1 (ix r)).2 := by rw [show i = (R.2.1 (ix r)).2.length by omega]; exact List.take_length
    refine z_iload dX10_summed_11 rfl rfl ?_
    first | refine z_aload_n dX10_summed_13 rfl rfl ?_ | refine z_aload_nN dX10_summed_13 rfl rfl ?_
    refine z_iload_n dX10_summed_14 rfl rfl ?_
    refine zcx_X10_152 rfl dX10_summed_15 rfl mo_recv (r_sizeOf g h m S _ (rec_in hr) hk.2.2.1) rfl rfl ⟨(Nat.le_of_ble_eq_true rfl), (Nat.le_of_ble_eq_true rfl)⟩ ⟨(Nat.le_of_ble_eq_true rfl), (Nat.le_of_ble_eq_true rfl)⟩ (Nat.le_of_ble_eq_true rfl) ?_
    rw [hk.2.1]
    refine z_icmp_ge (tgt := 95) dX10_summed_18 rfl (by decide) (fun c18 => ?_) (fun c18 => absurd c18 (fun q => q (nI_le (by omega) (by omega))))
    refine z_iload_n dX10_summed_95 rfl rfl ?_
    refine z_bipush (v := 6) dX10_summed_96 rfl (by decide) ?_
    refine z_icmp_ne (tgt := 111) dX10_summed_98 rfl (by decide) (fun c98 => ?_) (fun c98 => absurd c98 h6)
    refine z_iload_n dX10_summed_111 rfl rfl ?_
    refine z_bipush (v := 7) dX10_summed_112 rfl (by decide) ?_
    refine z_icmp_ne (tgt := 126) dX10_summed_114 rfl (by decide) (fun c114 => ?_) (fun c114 => absurd c114 h7)
    refine z_lload_n dX10_summed_126 rfl rfl ?_
    exact z_lret dX10_summed_127 rfl rfl ⟨by rw [ei, sSum, if_neg h6, if_neg h7], rfl⟩ (Nat.le_of_ble_eq_true rfl) (Nat.le_of_ble_eq_true rfl)
  | succ n ih =>
    intro i hi
    refine z_iload dX10_summed_11 rfl rfl ?_
    first | refine z_aload_n dX10_summed_13 rfl rfl ?_ | refine z_aload_nN dX10_summed_13 rfl rfl ?_
    refine z_iload_n dX10_summed_14 rfl rfl ?_
    refine zcx_X10_152 rfl dX10_summed_15 rfl mo_recv (r_sizeOf g h m S _ (rec_in hr) hk.2.2.1) rfl rfl ⟨(Nat.le_of_ble_eq_true rfl), (Nat.le_of_ble_eq_true rfl)⟩ ⟨(Nat.le_of_ble_eq_true rfl), (Nat.le_of_ble_eq_true rfl)⟩ (Nat.le_of_ble_eq_true rfl) ?_
    rw [hk.2.1]
    refine z_icmp_ge (tgt := 95) dX10_summed_18 rfl (by decide) (fun c18 => absurd c18 (nI_ge (by omega) (by omega))) (fun c18 => ?_)
    obtain ⟨hin, hmc, hok, hlt, k0, hk0, hke, hrow, hat⟩ := rep_cell hR (i := nI i) (ix_lt hr) h2 (by rw [nI_toInt (by omega)]; omega) (by rw [nI_toInt (by omega)]; omega)
    have hix : ix (nI i) = i := nI_clamp (by omega)
    rw [hix] at hmc
    have hmc : mc S (20 * S.1 6 (ix r) + nI i).toNatClampNeg = (R.2.1 (ix r)).2.getD i z0 := hmc
    refine z_iload_n dX10_summed_21 rfl rfl ?_
    refine z_bipush (v := 6) dX10_summed_22 rfl (by decide) ?_
    refine z_icmp_ne (tgt := 48) dX10_summed_24 rfl (by decide) (fun c24 => ?_) (fun c24 => absurd c24 h6)
    refine z_iload_n dX10_summed_48 rfl rfl ?_
    refine z_bipush (v := 7) dX10_summed_49 rfl (by decide) ?_
    refine z_icmp_ne (tgt := 74) dX10_summed_51 rfl (by decide) (fun c51 => ?_) (fun c51 => absurd c51 h7)
    refine z_lload_n dX10_summed_74 rfl rfl ?_
    first | refine z_aload_n dX10_summed_75 rfl rfl ?_ | refine z_aload_nN dX10_summed_75 rfl rfl ?_
    refine zmg_13 rfl dX10_summed_76 rfl ?_
    first | refine z_aload_n dX10_summed_79 rfl rfl ?_ | refine z_aload_nN dX10_summed_79 rfl rfl ?_
    refine z_iload_n dX10_summed_80 rfl rfl ?_
    refine z_iload dX10_summed_81 rfl rfl ?_
    refine zcx_X10_135 rfl dX10_summed_83 rfl mo_recv (r_cellAt g h m S _ _ (rec_in hr)) rfl rfl ⟨(Nat.le_of_ble_eq_true rfl), (Nat.le_of_ble_eq_true rfl)⟩ ⟨(Nat.le_of_ble_eq_true rfl), (Nat.le_of_ble_eq_true rfl)⟩ (Nat.le_of_ble_eq_true rfl) ?_
    refine zm_lald dX10_summed_86 rfl rfl hin ?_
    rw [show S.2.1 (20 * S.1 6 (ix r) + nI i).toNatClampNeg = ((R.2.1 (ix r)).2.getD i z0).2.1 from congrArg (fun c : sC => c.2.1) hmc]
    refine z_ladd dX10_summed_87 rfl ?_
    rw [sumL_s (show i < (R.2.1 (ix r)).2.length by omega)]
    refine z_lstore_n dX10_summed_88 rfl (Nat.le_of_ble_eq_true rfl) ?_
    refine z_iinc (v := nI (i + 1)) dX10_summed_89 rfl rfl (nI_inc i) (Nat.le_of_ble_eq_true rfl) ?_
    refine z_goto (tgt := 11) dX10_summed_92 rfl (by decide) ?_
    refine z_lv [(8, .int (nI (i + 1))), (0, .ref m), (1, .int r), (2, .int kind), (3, .long (sumL ((R.2.1 (ix r)).2.take (i + 1)))), (5, .float FP.fconst0), (6, .double FP.dconst0)] ⟨rfl, rfl, rfl, rfl, rfl, rfl, rfl, trivial⟩ ?_
    exact ih (i + 1) (by omega)
set_option maxHeartbeats 4000000 in
set_option maxRecDepth 100000 in
/-- X10_summed -/
theorem q_summed (g : zG) (h : zH) (m : Nat) (S : sMS) (R : sR) (hR : rRep (S.1 6) (mRowIs S) R) (r kind : Int32) (hr : isRec r) (h2 : R.1 (ix r) = 2) (h67 : kind = 6 ∨ kind = 7 → ∀ i, i < (R.2.1 (ix r)).2.length → okD (sReal ((R.2.1 (ix r)).2.getD i z0) kind)) : zX g yX10_summed cX10_summed 9 (some .long) rmX10_summed [.ref m, .int r, .int kind] (mUp m S h) (.long (sSum (R.2.1 (ix r)).2 kind)) (mUp m S h) := by
  refine zM_of (by decide) (Nat.le_of_ble_eq_true rfl) ?_
  refine z_lconst (v := 0) dX10_summed_0 rfl (by decide) ?_
  refine z_lstore_n dX10_summed_1 rfl (Nat.le_of_ble_eq_true rfl) ?_
  refine z_fconst0 dX10_summed_2 rfl ?_
  refine z_fstore dX10_summed_3 rfl (Nat.le_of_ble_eq_true rfl) ?_
  refine z_dconst0 dX10_summed_5 rfl ?_
  refine z_dstore dX10_summed_6 rfl (Nat.le_of_ble_eq_true rfl) ?_
  refine z_iconst (v := 0) dX10_summed_8 rfl (by decide) ?_
  refine z_istore dX10_summed_9 rfl (Nat.le_of_ble_eq_true rfl) ?_
  by_cases e6 : kind = 6
  · subst e6
    refine z_lv [(8, .int (nI 0)), (0, .ref m), (1, .int r), (2, .int 6), (3, .long 0), (5, .float FP.fconst0), (6, .double FP.dconst0)] ⟨rfl, rfl, rfl, rfl, rfl, rfl, rfl, trivial⟩ ?_
    have q := q_summed_6 g h m S R hR r hr h2 (h67 (Or.inl rfl)) (R.2.1 (ix r)).2.length 0 (by omega)
    rw [List.take_zero] at q
    exact q
  by_cases e7 : kind = 7
  · subst e7
    refine z_lv [(8, .int (nI 0)), (0, .ref m), (1, .int r), (2, .int 7), (3, .long 0), (5, .float FP.fconst0), (6, .double FP.dconst0)] ⟨rfl, rfl, rfl, rfl, rfl, rfl, rfl, trivial⟩ ?_
    have q := q_summed_7 g h m S R hR r hr h2 (h67 (Or.inr rfl)) (R.2.1 (ix r)).2.length 0 (by omega)
    rw [List.take_zero] at q
    exact q
  · skip
    refine z_lv [(8, .int (nI 0)), (0, .ref m), (1, .int r), (2, .int kind), (3, .long 0), (5, .float FP.fconst0), (6, .double FP.dconst0)] ⟨rfl, rfl, rfl, rfl, rfl, rfl, rfl, trivial⟩ ?_
    have q := q_summed_n g h m S R hR r kind hr h2 e6 e7 (R.2.1 (ix r)).2.length 0 (by omega)
    rw [List.take_zero] at q
    exact q

theorem sum_ok {S : sMS} {R : sR} (hR : rRep (S.1 6) (mRowIs S) R) {r : Nat} (hr : r < 8) (h2 : R.1 r = 2) (h7 : (R.2.1 r).1 ≤ 7) (kind : Int32) : ∀ i, i < (R.2.1 r).2.length → okD (sReal ((R.2.1 r).2.getD i z0) kind) := fun i hi => by
  have := rcell_fit hR hr h2 hi
  have e : (rCell R r i).1 = (R.2.1 r).1 := this.2.1 h7
  exact sReal_ok this.1 (by rw [e]; exact h7) kind
theorem nI_le0 {n : Nat} (hn : n < 2 ^ 31) : nI n ≤ 0 ↔ n = 0 := by
  rw [Int32.le_iff_toInt_le, nI_toInt hn, show (0 : Int32).toInt = 0 from by decide]
  omega
theorem ask_0 {R : sR} {r : Nat} (h1 : rowF R r = 0) (h2 : (R.2.1 r).2.length ≠ 0) (k : Int32) : askF R r (0 : Int64).toInt k = readF R r k := by
  have e : cellF R r (0 : Int64).toInt = 0 := by
    unfold cellF
    rw [h1, if_neg (by decide), if_pos (by rw [show (0 : Int64).toInt = 0 from by decide]; omega)]
  unfold askF
  rw [e, if_neg (by decide)]

set_option maxHeartbeats 4000000 in
set_option maxRecDepth 100000 in
theorem R_sum (g : zG) (h : zH) (m : Nat) (S : sMS) (w : sW) (hR : RepM S w) (r kind : Int32) : zM g yX10_sum cX10_sum 4 (some .int) rmX10_sum [.ref m, .int r, .int kind] (mUp m S h) (mPost m h (pSum w r kind)) := by
  refine zM_of (by decide) (Nat.le_of_ble_eq_true rfl) ?_
  refine z_iload_n dX10_sum_0 rfl rfl ?_
  refine zcx_X10_141 rfl dX10_sum_1 rfl (r_isRecord g _ _) rfl rfl ⟨(Nat.le_of_ble_eq_true rfl), (Nat.le_of_ble_eq_true rfl)⟩ ⟨(Nat.le_of_ble_eq_true rfl), (Nat.le_of_ble_eq_true rfl)⟩ (Nat.le_of_ble_eq_true rfl) ?_
  refine z_bif_eq (tgt := 19) dX10_sum_4 rfl (by decide) (fun c4 => ?_) (fun c4 => ?_)
  · skip
    refine z_iconst (v := -1) dX10_sum_19 rfl (by decide) ?_
    exact z_iret dX10_sum_20 rfl rfl (mPost_of hR (by grind [pSum])) (Nat.le_of_ble_eq_true rfl) (Nat.le_of_ble_eq_true rfl)
  · skip
    refine z_iload_n dX10_sum_7 rfl rfl ?_
    refine z_i2l dX10_sum_8 rfl ?_
    refine z_lconst (v := 1) dX10_sum_9 rfl (by decide) ?_
    refine zk_X10_70 rfl dX10_sum_10 rfl ?_
    refine zcx_X10_72 rfl dX10_sum_13 rfl (r_in32 g _ _ 1 7 rfl rfl) rfl rfl ⟨(Nat.le_of_ble_eq_true rfl), (Nat.le_of_ble_eq_true rfl)⟩ ⟨(Nat.le_of_ble_eq_true rfl), (Nat.le_of_ble_eq_true rfl)⟩ (Nat.le_of_ble_eq_true rfl) ?_
    refine z_bif_ne (tgt := 21) dX10_sum_16 rfl (by decide) (fun c16 => ?_) (fun c16 => ?_)
    · skip
      first | refine z_aload_n dX10_sum_21 rfl rfl ?_ | refine z_aload_nN dX10_sum_21 rfl rfl ?_
      refine z_iload_n dX10_sum_22 rfl rfl ?_
      refine zcx_X10_124 rfl dX10_sum_23 rfl mo_recv (q_rowFault g h m S w.1 hR.1 _ c4) rfl rfl ⟨(Nat.le_of_ble_eq_true rfl), (Nat.le_of_ble_eq_true rfl)⟩ ⟨(Nat.le_of_ble_eq_true rfl), (Nat.le_of_ble_eq_true rfl)⟩ (Nat.le_of_ble_eq_true rfl) ?_
      refine z_istore_n dX10_sum_26 rfl (Nat.le_of_ble_eq_true rfl) ?_
      refine z_iload_n dX10_sum_27 rfl rfl ?_
      refine z_if_ne (tgt := 47) dX10_sum_28 rfl (by decide) (fun c28 => ?_) (fun c28 => ?_)
      · skip
        refine z_iload_n dX10_sum_47 rfl rfl ?_
        refine z_if_le (tgt := 56) dX10_sum_48 rfl (by decide) (fun c48 => absurd c48 (by grind [rowF])) (fun c48 => ?_)
        refine z_bipush (v := -10) dX10_sum_51 rfl (by decide) ?_
        refine z_iload_n dX10_sum_53 rfl rfl ?_
        refine z_isub dX10_sum_54 rfl ?_
        exact z_iret dX10_sum_55 rfl rfl (mPost_of hR (by grind [pSum, sumFt, rowF])) (Nat.le_of_ble_eq_true rfl) (Nat.le_of_ble_eq_true rfl)
      · skip
        have h2 := rf_2 (rep_st hR.1 (ix_lt c4)) (show ¬ 0 < rowF w.1 (ix r) by grind)
        have hk := rep_kind hR.1 (ix_lt c4) h2
        have hl : (w.1.2.1 (ix r)).2.length ≤ 20 := hk.2.2.2.2.2.1
        first | refine z_aload_n dX10_sum_31 rfl rfl ?_ | refine z_aload_nN dX10_sum_31 rfl rfl ?_
        refine z_iload_n dX10_sum_32 rfl rfl ?_
        refine zcx_X10_152 rfl dX10_sum_33 rfl mo_recv (r_sizeOf g h m S _ (rec_in c4) hk.2.2.1) rfl rfl ⟨(Nat.le_of_ble_eq_true rfl), (Nat.le_of_ble_eq_true rfl)⟩ ⟨(Nat.le_of_ble_eq_true rfl), (Nat.le_of_ble_eq_true rfl)⟩ (Nat.le_of_ble_eq_true rfl) ?_
        rw [hk.2.1]
        refine z_if_le (tgt := 47) dX10_sum_36 rfl (by decide) (fun c36 => ?_) (fun c36 => ?_)
        · skip
          have e0 := (nI_le0 (by omega)).mp c36
          refine z_iload_n dX10_sum_47 rfl rfl ?_
          refine z_if_le (tgt := 56) dX10_sum_48 rfl (by decide) (fun c48 => ?_) (fun c48 => absurd c48 (by grind))
          first | refine z_aload_n dX10_sum_56 rfl rfl ?_ | refine z_aload_nN dX10_sum_56 rfl rfl ?_
          first | refine z_aload_n dX10_sum_57 rfl rfl ?_ | refine z_aload_nN dX10_sum_57 rfl rfl ?_
          refine z_iload_n dX10_sum_58 rfl rfl ?_
          refine z_iload_n dX10_sum_59 rfl rfl ?_
          refine zcx_X10_204 rfl dX10_sum_60 rfl mo_recv (q_summed g h m S w.1 hR.1 r kind c4 h2 (fun _ i hi => by omega)) rfl rfl ⟨(Nat.le_of_ble_eq_true rfl), (Nat.le_of_ble_eq_true rfl)⟩ ⟨(Nat.le_of_ble_eq_true rfl), (Nat.le_of_ble_eq_true rfl)⟩ (Nat.le_of_ble_eq_true rfl) ?_
          refine zmp_170 rfl dX10_sum_63 rfl ?_
          refine z_iconst (v := 1) dX10_sum_66 rfl (by decide) ?_
          exact z_iret dX10_sum_67 rfl rfl (mPost_of (RepM_got hR _) (by grind [pSum, sumFt])) (Nat.le_of_ble_eq_true rfl) (Nat.le_of_ble_eq_true rfl)
        · skip
          have e0 : (w.1.2.1 (ix r)).2.length ≠ 0 := fun q => c36 ((nI_le0 (by omega)).mpr q)
          first | refine z_aload_n dX10_sum_39 rfl rfl ?_ | refine z_aload_nN dX10_sum_39 rfl rfl ?_
          refine z_iload_n dX10_sum_40 rfl rfl ?_
          refine z_lconst (v := 0) dX10_sum_41 rfl (by decide) ?_
          refine z_iload_n dX10_sum_42 rfl rfl ?_
          refine zcx_X10_162 rfl dX10_sum_43 rfl mo_recv (q_askFault g h m S w.1 hR.1 _ _ _ c4) rfl rfl ⟨(Nat.le_of_ble_eq_true rfl), (Nat.le_of_ble_eq_true rfl)⟩ ⟨(Nat.le_of_ble_eq_true rfl), (Nat.le_of_ble_eq_true rfl)⟩ (Nat.le_of_ble_eq_true rfl) ?_
          rw [ask_0 (by grind) e0]
          refine z_istore_n dX10_sum_46 rfl (Nat.le_of_ble_eq_true rfl) ?_
          refine z_iload_n dX10_sum_47 rfl rfl ?_
          refine z_if_le (tgt := 56) dX10_sum_48 rfl (by decide) (fun c48 => ?_) (fun c48 => ?_)
          · skip
            first | refine z_aload_n dX10_sum_56 rfl rfl ?_ | refine z_aload_nN dX10_sum_56 rfl rfl ?_
            first | refine z_aload_n dX10_sum_57 rfl rfl ?_ | refine z_aload_nN dX10_sum_57 rfl rfl ?_
            refine z_iload_n dX10_sum_58 rfl rfl ?_
            refine z_iload_n dX10_sum_59 rfl rfl ?_
            refine zcx_X10_204 rfl dX10_sum_60 rfl mo_recv (q_summed g h m S w.1 hR.1 r kind c4 h2 (fun _ => sum_ok hR.1 (ix_lt c4) h2 (by grind [readF]) kind)) rfl rfl ⟨(Nat.le_of_ble_eq_true rfl), (Nat.le_of_ble_eq_true rfl)⟩ ⟨(Nat.le_of_ble_eq_true rfl), (Nat.le_of_ble_eq_true rfl)⟩ (Nat.le_of_ble_eq_true rfl) ?_
            refine zmp_170 rfl dX10_sum_63 rfl ?_
            refine z_iconst (v := 1) dX10_sum_66 rfl (by decide) ?_
            exact z_iret dX10_sum_67 rfl rfl (mPost_of (RepM_got hR _) (by grind [pSum, sumFt])) (Nat.le_of_ble_eq_true rfl) (Nat.le_of_ble_eq_true rfl)
          · skip
            refine z_bipush (v := -10) dX10_sum_51 rfl (by decide) ?_
            refine z_iload_n dX10_sum_53 rfl rfl ?_
            refine z_isub dX10_sum_54 rfl ?_
            exact z_iret dX10_sum_55 rfl rfl (mPost_of hR (by grind [pSum, sumFt])) (Nat.le_of_ble_eq_true rfl) (Nat.le_of_ble_eq_true rfl)
    · skip
      refine z_iconst (v := -1) dX10_sum_19 rfl (by decide) ?_
      exact z_iret dX10_sum_20 rfl rfl (mPost_of hR (by grind [pSum])) (Nat.le_of_ble_eq_true rfl) (Nat.le_of_ble_eq_true rfl)

