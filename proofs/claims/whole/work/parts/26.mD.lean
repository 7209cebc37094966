theorem okS_0 : okS 0 := ⟨⟨false, 0, _, FP.Core.val32_fconst0, vle_0 _ _⟩, by decide⟩
theorem okF_0 : okF 0 := ⟨0, by decide, okS_0⟩
theorem fit_9 {k : Int32} (h : 7 < k) : sInto 9 k = true := by
  unfold sInto
  by_cases h9 : k = 9
  · rw [if_pos h9]
  · rw [if_neg h9, if_pos h]; rfl
/-- a blank cell of a kind -/
def bl0 (kind : Int32) : sC := (if 7 < kind then 9 else kind, 0, 0)
theorem bl_ok {k : Int32} (h : 0 ≤ k ∧ k ≤ 10) : sOk (bl0 k) ∧ sFit (bl0 k) k := by
  unfold bl0
  by_cases h7 : 7 < k
  · rw [if_pos h7]
    exact ⟨⟨by decide, by decide, fun q => absurd q (by decide), fun q => absurd q (by decide), fun _ _ => rfl, fun q => absurd q (by decide), fun _ => rfl⟩, fun q => absurd h7 (by grind), fun _ => fit_9 h7⟩
  · rw [if_neg h7]
    exact ⟨⟨h.1, h.2, fun _ => ⟨rfl, okF_0⟩, fun _ => ⟨rfl, okD_0⟩, fun _ _ => rfl, fun _ => Or.inl rfl, fun _ => rfl⟩, fun _ => rfl, fun q => absurd q h7⟩
theorem blank_ok {k : Int32} (h : 0 ≤ k ∧ k ≤ 10) {n : Nat} (hn : n ≤ 20) : aOk (blank0 k n) := ⟨h.1, h.2, by simp only [blank0, List.length_replicate]; exact hn, fun c hc => by rw [(List.mem_replicate.mp hc).2]; exact bl_ok h⟩
theorem RepM_new {S : sMS} {w : sW} {r kind : Int32} {k n : Nat} {L : List sC} (hR : RepM S w) (hr : isRec r) (hk : k < 8) (hf : mFresh S r k) (hA : aOk (kind, L)) (hn : n = L.length) (c : Nat → sC) (hc : ∀ i, i < n → c i = L.getD i z0) : RepM (mPut (mTake S r k kind (nI n)) (20 * k) c n) (wR w (rNew w.1 (ix r) (kind, L))) := by
  subst hn
  have hl : L.length ≤ 20 := hA.2.2.1
  refine ⟨rep_new hR.1 (ix_lt hr) hk hf (by rw [mPut_1 _ _ _ (by decide), mTake_6]) ⟨?_, ?_, hA, fun i hi => ?_⟩ (fun j hj hjk => ⟨?_, ?_, fun i hi => ?_⟩), ?_, ?_, ?_⟩
  · rw [mPut_1 _ _ _ (by decide), mTake_4, upd_same]
  · rw [mPut_1 _ _ _ (by decide), mTake_5, upd_same]
  · have hi : i < L.length := hi
    rw [mc_put, if_pos (by omega), Nat.add_sub_cancel_left]; exact hc i hi
  · rw [mPut_1 _ _ _ (by decide), mTake_4, upd, if_neg hjk]
  · rw [mPut_1 _ _ _ (by decide), mTake_5, upd, if_neg hjk]
  · rw [mc_put, if_neg (by omega), mc_take]
  · refine RepX_agree (S := S) (agree_1 (fun i h1 h4 h5 h6 => by rw [mPut_1 _ _ _ h1, mTake_o _ _ _ _ _ h4 h5 h6]) (fun i hi => ?_) (fun a ha => by rw [mc_put, if_neg (by omega), mc_take]) ?_) hR.2.1
    · rw [mPut_1 _ _ _ (by decide), mPut_1 _ _ _ (by decide), mTake_4, mTake_5, upd, if_neg (by omega), upd, if_neg (by omega)]; exact ⟨rfl, rfl⟩
    · rw [mPut_s]; exact ⟨rfl, rfl, rfl⟩
  · rw [mPut_s]; exact hR.2.2.1
  · rw [mPut_s]; exact hR.2.2.2
theorem RepM_stat {S : sMS} {w : sW} {r : Nat} {st : Nat} {v : Int32} (hR : RepM S w) (hst : (st = 0 ∧ v = -1) ∨ (st = 1 ∧ v = -2)) : RepM (va_up S.1 6 (upd (S.1 6) r v), S.2) (wR w (rStat w.1 r st)) := by
  refine ⟨rep_stat hR.1 hst (by simp [va_up]) (row_same (by simp [va_up]) (by simp [va_up]) (fun a => rfl)), ?_, hR.2.2.1, hR.2.2.2⟩
  have := RepX_agree (agree_6 S (upd (S.1 6) r v)) hR.2.1
  exact this

abbrev YX10_record : zY := (yX10_record.cls, cX10_record, 5, (some .int), rmX10_record, yX10_record.name, fun _ _ => True)
set_option maxHeartbeats 4000000 in
set_option maxRecDepth 100000 in
theorem R_record_L (g : zG) (h : zH) (m : Nat) (S : sMS) (w : sW) (hR : RepM S w) (r kind : Int32) (n k : Nat) (hn : n ≤ 20) (hr : isRec r) (hki : 0 ≤ kind ∧ kind ≤ 10) (hk : k < 8) (hfr : mFresh S r k) (he : (pRecord w r kind (nI n)) = (1, wR w (rNew w.1 (ix r) (blank0 kind n)))) : ∀ (nn i : Nat), i + nn = n → zZ g YX10_record (zE g (mPost m h (pRecord w r kind (nI n))) 0 0) 76 [(4, .int (nI i)), (0, .ref m), (1, .int r), (2, .int kind), (3, .int (nI n))] [] (mUp m (mPut (mTake S r k kind (nI n)) (20 * k) (fun _ => bl0 kind) i) h) 0 0 := by
  intro nn
  induction nn with
  | zero =>
    intro i hi
    refine z_iload dX10_record_76 rfl rfl ?_
    refine z_iload_n dX10_record_78 rfl rfl ?_
    refine z_icmp_ge (tgt := 113) dX10_record_79 rfl (by decide) (fun c79 => ?_) (fun c79 => absurd c79 (fun q => q (nI_le (by omega) (by omega))))
    refine z_iconst (v := 1) dX10_record_113 rfl (by decide) ?_
    exact z_iret dX10_record_114 rfl rfl (mPost_of (by rw [show i = n by omega]; exact RepM_new hR hr hk hfr (blank_ok hki hn) (by rw [List.length_replicate]) _ (fun i hi => by rw [List.getD_eq_getElem?_getD, List.getElem?_replicate, if_pos hi]; rfl)) he) (Nat.le_of_ble_eq_true rfl) (Nat.le_of_ble_eq_true rfl)
  | succ nn ih =>
    intro i hi
    refine z_iload dX10_record_76 rfl rfl ?_
    refine z_iload_n dX10_record_78 rfl rfl ?_
    refine z_icmp_ge (tgt := 113) dX10_record_79 rfl (by decide) (fun c79 => absurd c79 (nI_ge (by omega) (by omega))) (fun c79 => ?_)
    first | refine z_aload_n dX10_record_82 rfl rfl ?_ | refine z_aload_nN dX10_record_82 rfl rfl ?_
    first | refine z_aload_n dX10_record_83 rfl rfl ?_ | refine z_aload_nN dX10_record_83 rfl rfl ?_
    refine z_iload_n dX10_record_84 rfl rfl ?_
    refine z_iload dX10_record_85 rfl rfl ?_
    refine zcx_X10_135 rfl dX10_record_87 rfl mo_recv (r_cellAt g h m _ _ _ (rec_in hr)) rfl rfl ⟨(Nat.le_of_ble_eq_true rfl), (Nat.le_of_ble_eq_true rfl)⟩ ⟨(Nat.le_of_ble_eq_true rfl), (Nat.le_of_ble_eq_true rfl)⟩ (Nat.le_of_ble_eq_true rfl) ?_
    rw [mPut_1 _ _ _ (by decide), mTake_6, upd_same, n20]
    refine z_iload_n dX10_record_90 rfl rfl ?_
    refine z_bipush (v := 7) dX10_record_91 rfl (by decide) ?_
    refine z_icmp_le (tgt := 101) dX10_record_93 rfl (by decide) (fun c93 => ?_) (fun c93 => ?_)
    · skip
      refine z_iload_n dX10_record_101 rfl rfl ?_
      refine z_lconst (v := 0) dX10_record_102 rfl (by decide) ?_
      refine z_dconst0 dX10_record_103 rfl ?_
      refine zcv_X10_84 rfl dX10_record_104 rfl mo_recv (r_lays g h m _ _ _ _ _ (vp_in_nI (show 20 * k + i < 880 by omega) (by decide))) rfl rfl ⟨(Nat.le_of_ble_eq_true rfl), (Nat.le_of_ble_eq_true rfl)⟩ ⟨(Nat.le_of_ble_eq_true rfl), (Nat.le_of_ble_eq_true rfl)⟩ (Nat.le_of_ble_eq_true rfl) ?_
      rw [nI_clamp (show 20 * k + i < 2 ^ 31 by omega), show ((kind : Int32), (0 : Int64), FP.dconst0) = bl0 kind from by unfold bl0; rw [if_neg (by grind)]; rfl]
      refine z_iinc (v := nI (i + 1)) dX10_record_107 rfl rfl (nI_inc i) (Nat.le_of_ble_eq_true rfl) ?_
      refine z_goto (tgt := 76) dX10_record_110 rfl (by decide) ?_
      refine z_lv [(4, .int (nI (i + 1))), (0, .ref m), (1, .int r), (2, .int kind), (3, .int (nI n))] ⟨rfl, rfl, rfl, rfl, rfl, trivial⟩ ?_
      exact ih (i + 1) (by omega)
    · skip
      refine z_bipush (v := 9) dX10_record_96 rfl (by decide) ?_
      refine z_goto (tgt := 102) dX10_record_98 rfl (by decide) ?_
      refine z_lconst (v := 0) dX10_record_102 rfl (by decide) ?_
      refine z_dconst0 dX10_record_103 rfl ?_
      refine zcv_X10_84 rfl dX10_record_104 rfl mo_recv (r_lays g h m _ _ _ _ _ (vp_in_nI (show 20 * k + i < 880 by omega) (by decide))) rfl rfl ⟨(Nat.le_of_ble_eq_true rfl), (Nat.le_of_ble_eq_true rfl)⟩ ⟨(Nat.le_of_ble_eq_true rfl), (Nat.le_of_ble_eq_true rfl)⟩ (Nat.le_of_ble_eq_true rfl) ?_
      rw [nI_clamp (show 20 * k + i < 2 ^ 31 by omega), show ((9 : Int32), (0 : Int64), FP.dconst0) = bl0 kind from by unfold bl0; rw [if_pos (by grind)]; rfl]
      refine z_iinc (v := nI (i + 1)) dX10_record_107 rfl rfl (nI_inc i) (Nat.le_of_ble_eq_true rfl) ?_
      refine z_goto (tgt := 76) dX10_record_110 rfl (by decide) ?_
      refine z_lv [(4, .int (nI (i + 1))), (0, .ref m), (1, .int r), (2, .int kind), (3, .int (nI n))] ⟨rfl, rfl, rfl, rfl, rfl, trivial⟩ ?_
      exact ih (i + 1) (by omega)
set_option maxHeartbeats 4000000 in
set_option maxRecDepth 100000 in
theorem R_record (g : zG) (h : zH) (m : Nat) (S : sMS) (w : sW) (hR : RepM S w) (r kind n : Int32) : zM g yX10_record cX10_record 5 (some .int) rmX10_record [.ref m, .int r, .int kind, .int n] (mUp m S h) (mPost m h (pRecord w r kind n)) := by
  refine zM_of (by decide) (Nat.le_of_ble_eq_true rfl) ?_
  refine z_iload_n dX10_record_0 rfl rfl ?_
  refine zcx_X10_141 rfl dX10_record_1 rfl (r_isRecord g _ _) rfl rfl ⟨(Nat.le_of_ble_eq_true rfl), (Nat.le_of_ble_eq_true rfl)⟩ ⟨(Nat.le_of_ble_eq_true rfl), (Nat.le_of_ble_eq_true rfl)⟩ (Nat.le_of_ble_eq_true rfl) ?_
  refine z_bif_eq (tgt := 31) dX10_record_4 rfl (by decide) (fun c4 => ?_) (fun c4 => ?_)
  · skip
    refine z_iconst (v := -1) dX10_record_31 rfl (by decide) ?_
    exact z_iret dX10_record_32 rfl rfl (mPost_of hR (by grind [pRecord])) (Nat.le_of_ble_eq_true rfl) (Nat.le_of_ble_eq_true rfl)
  · skip
    refine z_iload_n dX10_record_7 rfl rfl ?_
    refine z_i2l dX10_record_8 rfl ?_
    refine z_lconst (v := 0) dX10_record_9 rfl (by decide) ?_
    refine zk_X10_144 rfl dX10_record_10 rfl ?_
    refine zcx_X10_72 rfl dX10_record_13 rfl (r_in32 g _ _ 0 12 rfl rfl) rfl rfl ⟨(Nat.le_of_ble_eq_true rfl), (Nat.le_of_ble_eq_true rfl)⟩ ⟨(Nat.le_of_ble_eq_true rfl), (Nat.le_of_ble_eq_true rfl)⟩ (Nat.le_of_ble_eq_true rfl) ?_
    refine z_bif_eq (tgt := 31) dX10_record_16 rfl (by decide) (fun c16 => ?_) (fun c16 => ?_)
    · skip
      refine z_iconst (v := -1) dX10_record_31 rfl (by decide) ?_
      exact z_iret dX10_record_32 rfl rfl (mPost_of hR (by grind [pRecord])) (Nat.le_of_ble_eq_true rfl) (Nat.le_of_ble_eq_true rfl)
    · skip
      refine z_iload_n dX10_record_19 rfl rfl ?_
      refine z_bipush (v := 10) dX10_record_20 rfl (by decide) ?_
      refine z_icmp_gt (tgt := 33) dX10_record_22 rfl (by decide) (fun c22 => ?_) (fun c22 => ?_)
      · skip
        refine z_iload_n dX10_record_33 rfl rfl ?_
        refine z_bipush (v := 10) dX10_record_34 rfl (by decide) ?_
        refine z_icmp_le (tgt := 59) dX10_record_36 rfl (by decide) (fun c36 => ?_) (fun c36 => ?_)
        · skip
          refine z_iload_n dX10_record_59 rfl rfl ?_
          refine z_if_ge (tgt := 66) dX10_record_60 rfl (by decide) (fun c60 => ?_) (fun c60 => ?_)
          · skip
            obtain ⟨N, hN, rfl⟩ := nI_of2 (x := n) (M := 20) (n := 20) (by decide) (by grind) (by grind)
            first | refine z_aload_n dX10_record_66 rfl rfl ?_ | refine z_aload_nN dX10_record_66 rfl rfl ?_
            refine z_iload_n dX10_record_67 rfl rfl ?_
            refine z_iload_n dX10_record_68 rfl rfl ?_
            refine z_iload_n dX10_record_69 rfl rfl ?_
            refine zc_X10_131 rfl dX10_record_70 rfl mo_recv (r_takesRow g h m S r kind (nI N) (rec_in c4)) rfl rfl ⟨(Nat.le_of_ble_eq_true rfl), (Nat.le_of_ble_eq_true rfl)⟩ ⟨(Nat.le_of_ble_eq_true rfl), (Nat.le_of_ble_eq_true rfl)⟩ (Nat.le_of_ble_eq_true rfl) (fun v h1 hq => ?_)
            obtain ⟨rfl, k, hk, hfr, rfl⟩ := hq
            refine z_iconst (v := 0) dX10_record_73 rfl (by decide) ?_
            refine z_istore dX10_record_74 rfl (Nat.le_of_ble_eq_true rfl) ?_
            refine z_lv [(4, .int (nI 0)), (0, .ref m), (1, .int r), (2, .int kind), (3, .int (nI N))] ⟨rfl, rfl, rfl, rfl, rfl, trivial⟩ ?_
            exact R_record_L g h m S w hR r kind N k hN c4 (by grind) hk hfr (by have e : ix (nI N) = N := nI_clamp (by omega); unfold pRecord; rw [if_neg (by grind), if_neg (by grind), if_neg (by grind), e]) N 0 (by omega)
          · skip
            refine z_bipush (v := -16) dX10_record_63 rfl (by decide) ?_
            exact z_iret dX10_record_65 rfl rfl (mPost_of hR (by grind [pRecord])) (Nat.le_of_ble_eq_true rfl) (Nat.le_of_ble_eq_true rfl)
        · skip
          first | refine z_aload_n dX10_record_39 rfl rfl ?_ | refine z_aload_nN dX10_record_39 rfl rfl ?_
          refine zmg_27 rfl dX10_record_40 rfl ?_
          refine z_iload_n dX10_record_43 rfl rfl ?_
          refine z_iload_n dX10_record_44 rfl rfl ?_
          refine z_bipush (v := 11) dX10_record_45 rfl (by decide) ?_
          refine z_icmp_ne (tgt := 55) dX10_record_47 rfl (by decide) (fun c47 => ?_) (fun c47 => ?_)
          · skip
            refine z_iconst (v := -1) dX10_record_55 rfl (by decide) ?_
            refine zm_iast dX10_record_56 rfl rfl (rec_in c4) ?_
            refine z_iconst (v := 1) dX10_record_57 rfl (by decide) ?_
            exact z_iret dX10_record_58 rfl rfl (mPost_of (RepM_stat (st := if kind = 11 then 1 else 0) hR (by grind)) (by grind [pRecord])) (Nat.le_of_ble_eq_true rfl) (Nat.le_of_ble_eq_true rfl)
          · skip
            refine z_bipush (v := -2) dX10_record_50 rfl (by decide) ?_
            refine z_goto (tgt := 56) dX10_record_52 rfl (by decide) ?_
            refine zm_iast dX10_record_56 rfl rfl (rec_in c4) ?_
            refine z_iconst (v := 1) dX10_record_57 rfl (by decide) ?_
            exact z_iret dX10_record_58 rfl rfl (mPost_of (RepM_stat (st := if kind = 11 then 1 else 0) hR (by grind)) (by grind [pRecord])) (Nat.le_of_ble_eq_true rfl) (Nat.le_of_ble_eq_true rfl)
      · skip
        refine z_iload_n dX10_record_25 rfl rfl ?_
        refine z_bipush (v := 20) dX10_record_26 rfl (by decide) ?_
        refine z_icmp_le (tgt := 33) dX10_record_28 rfl (by decide) (fun c28 => ?_) (fun c28 => ?_)
        · skip
          refine z_iload_n dX10_record_33 rfl rfl ?_
          refine z_bipush (v := 10) dX10_record_34 rfl (by decide) ?_
          refine z_icmp_le (tgt := 59) dX10_record_36 rfl (by decide) (fun c36 => ?_) (fun c36 => ?_)
          · skip
            refine z_iload_n dX10_record_59 rfl rfl ?_
            refine z_if_ge (tgt := 66) dX10_record_60 rfl (by decide) (fun c60 => ?_) (fun c60 => ?_)
            · skip
              obtain ⟨N, hN, rfl⟩ := nI_of2 (x := n) (M := 20) (n := 20) (by decide) (by grind) (by grind)
              first | refine z_aload_n dX10_record_66 rfl rfl ?_ | refine z_aload_nN dX10_record_66 rfl rfl ?_
              refine z_iload_n dX10_record_67 rfl rfl ?_
              refine z_iload_n dX10_record_68 rfl rfl ?_
              refine z_iload_n dX10_record_69 rfl rfl ?_
              refine zc_X10_131 rfl dX10_record_70 rfl mo_recv (r_takesRow g h m S r kind (nI N) (rec_in c4)) rfl rfl ⟨(Nat.le_of_ble_eq_true rfl), (Nat.le_of_ble_eq_true rfl)⟩ ⟨(Nat.le_of_ble_eq_true rfl), (Nat.le_of_ble_eq_true rfl)⟩ (Nat.le_of_ble_eq_true rfl) (fun v h1 hq => ?_)
              obtain ⟨rfl, k, hk, hfr, rfl⟩ := hq
              refine z_iconst (v := 0) dX10_record_73 rfl (by decide) ?_
              refine z_istore dX10_record_74 rfl (Nat.le_of_ble_eq_true rfl) ?_
              refine z_lv [(4, .int (nI 0)), (0, .ref m), (1, .int r), (2, .int kind), (3, .int (nI N))] ⟨rfl, rfl, rfl, rfl, rfl, trivial⟩ ?_
              exact R_record_L g h m S w hR r kind N k hN c4 (by grind) hk hfr (by have e : ix (nI N) = N := nI_clamp (by omega); unfold pRecord; rw [if_neg (by grind), if_neg (by grind), if_neg (by grind), e]) N 0 (by omega)
            · skip
              refine z_bipush (v := -16) dX10_record_63 rfl (by decide) ?_
              exact z_iret dX10_record_65 rfl rfl (mPost_of hR (by grind [pRecord])) (Nat.le_of_ble_eq_true rfl) (Nat.le_of_ble_eq_true rfl)
          · skip
            first | refine z_aload_n dX10_record_39 rfl rfl ?_ | refine z_aload_nN dX10_record_39 rfl rfl ?_
            refine zmg_27 rfl dX10_record_40 rfl ?_
            refine z_iload_n dX10_record_43 rfl rfl ?_
            refine z_iload_n dX10_record_44 rfl rfl ?_
            refine z_bipush (v := 11) dX10_record_45 rfl (by decide) ?_
            refine z_icmp_ne (tgt := 55) dX10_record_47 rfl (by decide) (fun c47 => ?_) (fun c47 => ?_)
            · skip
              refine z_iconst (v := -1) dX10_record_55 rfl (by decide) ?_
              refine zm_iast dX10_record_56 rfl rfl (rec_in c4) ?_
              refine z_iconst (v := 1) dX10_record_57 rfl (by decide) ?_
              exact z_iret dX10_record_58 rfl rfl (mPost_of (RepM_stat (st := if kind = 11 then 1 else 0) hR (by grind)) (by grind [pRecord])) (Nat.le_of_ble_eq_true rfl) (Nat.le_of_ble_eq_true rfl)
            · skip
              refine z_bipush (v := -2) dX10_record_50 rfl (by decide) ?_
              refine z_goto (tgt := 56) dX10_record_52 rfl (by decide) ?_
              refine zm_iast dX10_record_56 rfl rfl (rec_in c4) ?_
              refine z_iconst (v := 1) dX10_record_57 rfl (by decide) ?_
              exact z_iret dX10_record_58 rfl rfl (mPost_of (RepM_stat (st := if kind = 11 then 1 else 0) hR (by grind)) (by grind [pRecord])) (Nat.le_of_ble_eq_true rfl) (Nat.le_of_ble_eq_true rfl)
        · skip
          refine z_iconst (v := -1) dX10_record_31 rfl (by decide) ?_
          exact z_iret dX10_record_32 rfl rfl (mPost_of hR (by grind [pRecord])) (Nat.le_of_ble_eq_true rfl) (Nat.le_of_ble_eq_true rfl)

