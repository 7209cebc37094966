/-- the cell at a place -/
def mc (S : sMS) (k : Nat) : sC := (S.1 1 k, S.2.1 k, S.2.2.1 k)
def mLay (S : sMS) (k : Nat) (c : sC) : sMS := (va_up S.1 1 (upd (S.1 1) k c.1), vp_updL S.2.1 k c.2.1, vf_upd S.2.2.1 k c.2.2, S.2.2.2)
theorem mc_lay (S : sMS) (k : Nat) (c : sC) (j : Nat) : mc (mLay S k c) j = if j = k then c else mc S j := by
  by_cases e : j = k
  · simp [mc, mLay, va_up, upd, vp_updL, vf_upd, e]
  · simp [mc, mLay, va_up, upd, vp_updL, vf_upd, e]
theorem mLay_1 (S : sMS) (k : Nat) (c : sC) {j : Nat} (hj : j ≠ 1) : (mLay S k c).1 j = S.1 j := by simp [mLay, va_up, hj]
theorem mLay_s (S : sMS) (k : Nat) (c : sC) : (mLay S k c).2.2.2 = S.2.2.2 := rfl
theorem nI_le7 {i : Nat} (h : i ≤ 7) : ¬ (7 : Int32) < nI i := nI_nlt (a := 7) h (by decide)
theorem nI_gt7 {i : Nat} (h : 7 < i) (h2 : i < 2 ^ 31) : (7 : Int32) < nI i := nI_lt (a := 7) h h2
theorem nI_inc (i : Nat) : nI i + Int32.ofInt 1 = nI (i + 1) := nI_1 i
theorem sJoin_num {a b : Int32} (h : ¬ sJoin a b = -4) : sNum a ∧ sNum b := by
  unfold sJoin at h
  split at h
  · assumption
  · exact absurd rfl h

abbrev YX10_joinOf : zY := (yX10_joinOf.cls, cX10_joinOf, 3, (some .int), rmX10_joinOf, yX10_joinOf.name, fun _ _ => True)
set_option maxHeartbeats 4000000 in
set_option maxRecDepth 100000 in
theorem r_joinOf_L (g : zG) (h : zH) (a b : Int32) : ∀ (n i : Nat), i + n = 8 → (sNum a ∧ sNum b → sJn a b 8 0 = sJn a b n i) → zZ g YX10_joinOf (zE g (fun v h1 => v = some (.int (sJoin a b)) ∧ h1 = h) 0 0) 2 [(2, .int (nI i)), (0, .int a), (1, .int b)] [] h 0 0 := by
  intro n
  induction n with
  | zero =>
    intro i hi hs
    refine z_iload_n dX10_joinOf_2 rfl rfl ?_
    refine z_bipush (v := 7) dX10_joinOf_3 rfl (by decide) ?_
    refine z_icmp_gt (tgt := 46) dX10_joinOf_5 rfl (by decide) (fun c5 => ?_) (fun c5 => absurd c5 (fun q => q (nI_gt7 (by omega) (by omega))))
    refine z_bipush (v := -4) dX10_joinOf_46 rfl (by decide) ?_
    exact z_iret dX10_joinOf_48 rfl rfl ⟨by unfold sJoin; split <;> first | (rename_i q; rw [hs q]; rfl) | rfl, rfl⟩ (Nat.le_of_ble_eq_true rfl) (Nat.le_of_ble_eq_true rfl)
  | succ n ih =>
    intro i hi hs
    refine z_iload_n dX10_joinOf_2 rfl rfl ?_
    refine z_bipush (v := 7) dX10_joinOf_3 rfl (by decide) ?_
    refine z_icmp_gt (tgt := 46) dX10_joinOf_5 rfl (by decide) (fun c5 => absurd c5 (nI_le7 (by omega))) (fun c5 => ?_)
    refine z_iload_n dX10_joinOf_8 rfl rfl ?_
    refine zcx_X10_76 rfl dX10_joinOf_9 rfl (r_isNumber g h _) rfl rfl ⟨(Nat.le_of_ble_eq_true rfl), (Nat.le_of_ble_eq_true rfl)⟩ ⟨(Nat.le_of_ble_eq_true rfl), (Nat.le_of_ble_eq_true rfl)⟩ (Nat.le_of_ble_eq_true rfl) ?_
    refine z_bif_eq (tgt := 46) dX10_joinOf_12 rfl (by decide) (fun c12 => ?_) (fun c12 => ?_)
    · skip
      refine z_bipush (v := -4) dX10_joinOf_46 rfl (by decide) ?_
      exact z_iret dX10_joinOf_48 rfl rfl ⟨by unfold sJoin; rw [if_neg (by grind)], rfl⟩ (Nat.le_of_ble_eq_true rfl) (Nat.le_of_ble_eq_true rfl)
    · skip
      refine z_iload_n dX10_joinOf_15 rfl rfl ?_
      refine zcx_X10_76 rfl dX10_joinOf_16 rfl (r_isNumber g h _) rfl rfl ⟨(Nat.le_of_ble_eq_true rfl), (Nat.le_of_ble_eq_true rfl)⟩ ⟨(Nat.le_of_ble_eq_true rfl), (Nat.le_of_ble_eq_true rfl)⟩ (Nat.le_of_ble_eq_true rfl) ?_
      refine z_bif_eq (tgt := 46) dX10_joinOf_19 rfl (by decide) (fun c19 => ?_) (fun c19 => ?_)
      · skip
        refine z_bipush (v := -4) dX10_joinOf_46 rfl (by decide) ?_
        exact z_iret dX10_joinOf_48 rfl rfl ⟨by unfold sJoin; rw [if_neg (by grind)], rfl⟩ (Nat.le_of_ble_eq_true rfl) (Nat.le_of_ble_eq_true rfl)
      · skip
        refine z_iload_n dX10_joinOf_22 rfl rfl ?_
        refine z_iload_n dX10_joinOf_23 rfl rfl ?_
        refine zcx_X10_80 rfl dX10_joinOf_24 rfl (r_goesInto g h _ _) rfl rfl ⟨(Nat.le_of_ble_eq_true rfl), (Nat.le_of_ble_eq_true rfl)⟩ ⟨(Nat.le_of_ble_eq_true rfl), (Nat.le_of_ble_eq_true rfl)⟩ (Nat.le_of_ble_eq_true rfl) ?_
        refine z_bif_eq (tgt := 40) dX10_joinOf_27 rfl (by decide) (fun c27 => ?_) (fun c27 => ?_)
        · skip
          refine z_iinc (v := nI (i + 1)) dX10_joinOf_40 rfl rfl (nI_inc i) (Nat.le_of_ble_eq_true rfl) ?_
          refine z_goto (tgt := 2) dX10_joinOf_43 rfl (by decide) ?_
          refine z_lv [(2, .int (nI (i + 1))), (0, .int a), (1, .int b)] ⟨rfl, rfl, rfl, trivial⟩ ?_
          exact ih (i + 1) (by omega) (fun q => by rw [hs q, sJn, if_neg (by grind)])
        · skip
          refine z_iload_n dX10_joinOf_30 rfl rfl ?_
          refine z_iload_n dX10_joinOf_31 rfl rfl ?_
          refine zcx_X10_80 rfl dX10_joinOf_32 rfl (r_goesInto g h _ _) rfl rfl ⟨(Nat.le_of_ble_eq_true rfl), (Nat.le_of_ble_eq_true rfl)⟩ ⟨(Nat.le_of_ble_eq_true rfl), (Nat.le_of_ble_eq_true rfl)⟩ (Nat.le_of_ble_eq_true rfl) ?_
          refine z_bif_eq (tgt := 40) dX10_joinOf_35 rfl (by decide) (fun c35 => ?_) (fun c35 => ?_)
          · skip
            refine z_iinc (v := nI (i + 1)) dX10_joinOf_40 rfl rfl (nI_inc i) (Nat.le_of_ble_eq_true rfl) ?_
            refine z_goto (tgt := 2) dX10_joinOf_43 rfl (by decide) ?_
            refine z_lv [(2, .int (nI (i + 1))), (0, .int a), (1, .int b)] ⟨rfl, rfl, rfl, trivial⟩ ?_
            exact ih (i + 1) (by omega) (fun q => by rw [hs q, sJn, if_neg (by grind)])
          · skip
            refine z_iload_n dX10_joinOf_38 rfl rfl ?_
            exact z_iret dX10_joinOf_39 rfl rfl ⟨by unfold sJoin; rw [if_pos ⟨c12, c19⟩, hs ⟨c12, c19⟩, sJn, if_pos ⟨c27, c35⟩], rfl⟩ (Nat.le_of_ble_eq_true rfl) (Nat.le_of_ble_eq_true rfl)
set_option maxHeartbeats 4000000 in
set_option maxRecDepth 100000 in
/-- X10_joinOf -/
theorem r_joinOf (g : zG) (h : zH) (a b : Int32) : zX g yX10_joinOf cX10_joinOf 3 (some .int) rmX10_joinOf [.int a, .int b] h (.int (sJoin a b)) h := by
  refine zM_of (by decide) (Nat.le_of_ble_eq_true rfl) ?_
  refine z_iconst (v := 0) dX10_joinOf_0 rfl (by decide) ?_
  refine z_istore_n dX10_joinOf_1 rfl (Nat.le_of_ble_eq_true rfl) ?_
  refine z_lv [(2, .int (nI 0)), (0, .int a), (1, .int b)] ⟨rfl, rfl, rfl, trivial⟩ ?_
  exact r_joinOf_L g h a b 8 0 rfl (fun _ => rfl)

set_option maxHeartbeats 4000000 in
set_option maxRecDepth 100000 in
/-- X10_lays -/
theorem r_lays (g : zG) (h : zH) (m : Nat) (S : sMS) (at_ s : Int32) (n : Int64) (f : UInt64) (hat : vp_in at_ 880) : zXv g yX10_lays cX10_lays 7 none rmX10_lays [.ref m, .int at_, .int s, .long n, .double f] (mUp m S h) (mUp m (mLay S at_.toNatClampNeg (s, n, f)) h) := by
  refine zM_of (by decide) (Nat.le_of_ble_eq_true rfl) ?_
  first | refine z_aload_n dX10_lays_0 rfl rfl ?_ | refine z_aload_nN dX10_lays_0 rfl rfl ?_
  refine zmg_7 rfl dX10_lays_1 rfl ?_
  refine z_iload_n dX10_lays_4 rfl rfl ?_
  refine z_iload_n dX10_lays_5 rfl rfl ?_
  refine zm_iast dX10_lays_6 rfl rfl hat ?_
  first | refine z_aload_n dX10_lays_7 rfl rfl ?_ | refine z_aload_nN dX10_lays_7 rfl rfl ?_
  refine zmg_13 rfl dX10_lays_8 rfl ?_
  refine z_iload_n dX10_lays_11 rfl rfl ?_
  refine z_lload_n dX10_lays_12 rfl rfl ?_
  refine zm_last dX10_lays_13 rfl rfl hat ?_
  first | refine z_aload_n dX10_lays_14 rfl rfl ?_ | refine z_aload_nN dX10_lays_14 rfl rfl ?_
  refine zmg_17 rfl dX10_lays_15 rfl ?_
  refine z_iload_n dX10_lays_18 rfl rfl ?_
  refine z_dload dX10_lays_19 rfl rfl ?_
  refine zm_dast dX10_lays_21 rfl rfl hat ?_
  exact z_vret dX10_lays_22 rfl rfl ⟨rfl, rfl⟩ (Nat.le_of_ble_eq_true rfl) (Nat.le_of_ble_eq_true rfl)

set_option maxHeartbeats 4000000 in
set_option maxRecDepth 100000 in
/-- X10_fractionOf -/
theorem r_fractionOf (g : zG) (h : zH) (m : Nat) (S : sMS) (at_ k : Int32) (hat : vp_in at_ 880) : zX g yX10_fractionOf cX10_fractionOf 3 (some .double) rmX10_fractionOf [.ref m, .int at_, .int k] (mUp m S h) (.double (sReal (mc S at_.toNatClampNeg) k)) (mUp m S h) := by
  refine zM_of (by decide) (Nat.le_of_ble_eq_true rfl) ?_
  first | refine z_aload_n dX10_fractionOf_0 rfl rfl ?_ | refine z_aload_nN dX10_fractionOf_0 rfl rfl ?_
  refine zmg_7 rfl dX10_fractionOf_1 rfl ?_
  refine z_iload_n dX10_fractionOf_4 rfl rfl ?_
  refine zm_iald dX10_fractionOf_5 rfl rfl hat ?_
  refine z_bipush (v := 6) dX10_fractionOf_6 rfl (by decide) ?_
  refine z_icmp_lt (tgt := 18) dX10_fractionOf_8 rfl (by decide) (fun c8 => ?_) (fun c8 => ?_)
  · skip
    refine z_iload_n dX10_fractionOf_18 rfl rfl ?_
    refine z_bipush (v := 6) dX10_fractionOf_19 rfl (by decide) ?_
    refine z_icmp_ne (tgt := 35) dX10_fractionOf_21 rfl (by decide) (fun c21 => ?_) (fun c21 => ?_)
    · skip
      first | refine z_aload_n dX10_fractionOf_35 rfl rfl ?_ | refine z_aload_nN dX10_fractionOf_35 rfl rfl ?_
      refine zmg_13 rfl dX10_fractionOf_36 rfl ?_
      refine z_iload_n dX10_fractionOf_39 rfl rfl ?_
      refine zm_lald dX10_fractionOf_40 rfl rfl hat ?_
      refine z_l2d dX10_fractionOf_41 rfl ?_
      exact z_dret dX10_fractionOf_42 rfl rfl ⟨by grind [sReal, mc], rfl⟩ (Nat.le_of_ble_eq_true rfl) (Nat.le_of_ble_eq_true rfl)
    · skip
      first | refine z_aload_n dX10_fractionOf_24 rfl rfl ?_ | refine z_aload_nN dX10_fractionOf_24 rfl rfl ?_
      refine zmg_13 rfl dX10_fractionOf_25 rfl ?_
      refine z_iload_n dX10_fractionOf_28 rfl rfl ?_
      refine zm_lald dX10_fractionOf_29 rfl rfl hat ?_
      refine z_l2f dX10_fractionOf_30 rfl ?_
      refine z_f2d dX10_fractionOf_31 rfl (fpD_n (okS_f2d (okS_l2f _)).1) ?_
      refine z_goto (tgt := 42) dX10_fractionOf_32 rfl (by decide) ?_
      exact z_dret dX10_fractionOf_42 rfl rfl ⟨by grind [sReal, mc], rfl⟩ (Nat.le_of_ble_eq_true rfl) (Nat.le_of_ble_eq_true rfl)
  · skip
    first | refine z_aload_n dX10_fractionOf_11 rfl rfl ?_ | refine z_aload_nN dX10_fractionOf_11 rfl rfl ?_
    refine zmg_17 rfl dX10_fractionOf_12 rfl ?_
    refine z_iload_n dX10_fractionOf_15 rfl rfl ?_
    refine zm_dald dX10_fractionOf_16 rfl rfl hat ?_
    exact z_dret dX10_fractionOf_17 rfl rfl ⟨by grind [sReal, mc], rfl⟩ (Nat.le_of_ble_eq_true rfl) (Nat.le_of_ble_eq_true rfl)

set_option maxHeartbeats 4000000 in
set_option maxRecDepth 100000 in
/-- X10_widens -/
theorem r_widens (g : zG) (h : zH) (m : Nat) (S : sMS) (fr k to : Int32) (hfr : vp_in fr 880) (hto : vp_in to 880) : zXv g yX10_widens cX10_widens 4 none rmX10_widens [.ref m, .int fr, .int k, .int to] (mUp m S h) (mUp m (mLay S to.toNatClampNeg (sConv (mc S fr.toNatClampNeg) k)) h) := by
  refine zM_of (by decide) (Nat.le_of_ble_eq_true rfl) ?_
  refine z_iload_n dX10_widens_0 rfl rfl ?_
  refine z_bipush (v := 7) dX10_widens_1 rfl (by decide) ?_
  refine z_icmp_le (tgt := 32) dX10_widens_3 rfl (by decide) (fun c3 => ?_) (fun c3 => ?_)
  · skip
    refine z_iload_n dX10_widens_32 rfl rfl ?_
    refine z_bipush (v := 6) dX10_widens_33 rfl (by decide) ?_
    refine z_icmp_lt (tgt := 54) dX10_widens_35 rfl (by decide) (fun c35 => ?_) (fun c35 => ?_)
    · skip
      first | refine z_aload_n dX10_widens_54 rfl rfl ?_ | refine z_aload_nN dX10_widens_54 rfl rfl ?_
      refine z_iload_n dX10_widens_55 rfl rfl ?_
      refine z_iload_n dX10_widens_56 rfl rfl ?_
      first | refine z_aload_n dX10_widens_57 rfl rfl ?_ | refine z_aload_nN dX10_widens_57 rfl rfl ?_
      refine zmg_13 rfl dX10_widens_58 rfl ?_
      refine z_iload_n dX10_widens_61 rfl rfl ?_
      refine zm_lald dX10_widens_62 rfl rfl hfr ?_
      refine z_dconst0 dX10_widens_63 rfl ?_
      refine zcv_X10_84 rfl dX10_widens_64 rfl mo_recv (r_lays g h m _ _ _ _ _ hto) rfl rfl ⟨(Nat.le_of_ble_eq_true rfl), (Nat.le_of_ble_eq_true rfl)⟩ ⟨(Nat.le_of_ble_eq_true rfl), (Nat.le_of_ble_eq_true rfl)⟩ (Nat.le_of_ble_eq_true rfl) ?_
      exact z_vret dX10_widens_67 rfl rfl ⟨rfl, congrArg (fun c => mUp m (mLay S to.toNatClampNeg c) h) (by grind [sConv, mc, FP.dconst0])⟩ (Nat.le_of_ble_eq_true rfl) (Nat.le_of_ble_eq_true rfl)
    · skip
      first | refine z_aload_n dX10_widens_38 rfl rfl ?_ | refine z_aload_nN dX10_widens_38 rfl rfl ?_
      refine z_iload_n dX10_widens_39 rfl rfl ?_
      refine z_iload_n dX10_widens_40 rfl rfl ?_
      refine z_lconst (v := 0) dX10_widens_41 rfl (by decide) ?_
      first | refine z_aload_n dX10_widens_42 rfl rfl ?_ | refine z_aload_nN dX10_widens_42 rfl rfl ?_
      refine z_iload_n dX10_widens_43 rfl rfl ?_
      refine z_iload_n dX10_widens_44 rfl rfl ?_
      refine zcx_X10_88 rfl dX10_widens_45 rfl mo_recv (r_fractionOf g h m S _ _ hfr) rfl rfl ⟨(Nat.le_of_ble_eq_true rfl), (Nat.le_of_ble_eq_true rfl)⟩ ⟨(Nat.le_of_ble_eq_true rfl), (Nat.le_of_ble_eq_true rfl)⟩ (Nat.le_of_ble_eq_true rfl) ?_
      refine zcv_X10_84 rfl dX10_widens_48 rfl mo_recv (r_lays g h m _ _ _ _ _ hto) rfl rfl ⟨(Nat.le_of_ble_eq_true rfl), (Nat.le_of_ble_eq_true rfl)⟩ ⟨(Nat.le_of_ble_eq_true rfl), (Nat.le_of_ble_eq_true rfl)⟩ (Nat.le_of_ble_eq_true rfl) ?_
      refine z_goto (tgt := 67) dX10_widens_51 rfl (by decide) ?_
      exact z_vret dX10_widens_67 rfl rfl ⟨rfl, congrArg (fun c => mUp m (mLay S to.toNatClampNeg c) h) (by grind [sConv, mc, FP.dconst0])⟩ (Nat.le_of_ble_eq_true rfl) (Nat.le_of_ble_eq_true rfl)
  · skip
    first | refine z_aload_n dX10_widens_6 rfl rfl ?_ | refine z_aload_nN dX10_widens_6 rfl rfl ?_
    refine z_iload_n dX10_widens_7 rfl rfl ?_
    first | refine z_aload_n dX10_widens_8 rfl rfl ?_ | refine z_aload_nN dX10_widens_8 rfl rfl ?_
    refine zmg_7 rfl dX10_widens_9 rfl ?_
    refine z_iload_n dX10_widens_12 rfl rfl ?_
    refine zm_iald dX10_widens_13 rfl rfl hfr ?_
    first | refine z_aload_n dX10_widens_14 rfl rfl ?_ | refine z_aload_nN dX10_widens_14 rfl rfl ?_
    refine zmg_13 rfl dX10_widens_15 rfl ?_
    refine z_iload_n dX10_widens_18 rfl rfl ?_
    refine zm_lald dX10_widens_19 rfl rfl hfr ?_
    first | refine z_aload_n dX10_widens_20 rfl rfl ?_ | refine z_aload_nN dX10_widens_20 rfl rfl ?_
    refine zmg_17 rfl dX10_widens_21 rfl ?_
    refine z_iload_n dX10_widens_24 rfl rfl ?_
    refine zm_dald dX10_widens_25 rfl rfl hfr ?_
    refine zcv_X10_84 rfl dX10_widens_26 rfl mo_recv (r_lays g h m _ _ _ _ _ hto) rfl rfl ⟨(Nat.le_of_ble_eq_true rfl), (Nat.le_of_ble_eq_true rfl)⟩ ⟨(Nat.le_of_ble_eq_true rfl), (Nat.le_of_ble_eq_true rfl)⟩ (Nat.le_of_ble_eq_true rfl) ?_
    refine z_goto (tgt := 67) dX10_widens_29 rfl (by decide) ?_
    exact z_vret dX10_widens_67 rfl rfl ⟨rfl, congrArg (fun c => mUp m (mLay S to.toNatClampNeg c) h) (by grind [sConv, mc, FP.dconst0])⟩ (Nat.le_of_ble_eq_true rfl) (Nat.le_of_ble_eq_true rfl)

/-- as zM_of, for a method that no entry of the machine runs in its place (classes of the JDK) -/
theorem zM_ofF {g : zG} {y : MethodName} {cc : ByteArray} {maxL : Nat} {ret : Option FieldType} {rm : Room} {av : List Value} {h : zH} {post : Option Value → zH → Prop} (hy : plainFor y = true) (hlen : (lg_sl av).length ≤ maxL) (k : zZ g (y.cls, cc, maxL, ret, rm, y.name, fun _ _ => True) (zE g post rm.cells rm.slots) 0 (lv_args 0 av) [] h 0 0) : zM g y cc maxL ret rm av h post := by
  unfold zM Met
  refine MetFree.of_bodySF (code := cc) (maxLocals := maxL) (ret := ret) hy ?_ ?_
  · intro args s m h hn
    obtain ⟨meth, c, h1, h2, h3, h4, h5, h6, -, -⟩ := Cond.code_spec hn (atoms_spec (ws := [Cond.code y cc maxL ret]) h _ List.mem_cons_self)
    exact ⟨meth, c, h1, h2, h3, h4, h5, h6⟩
  · intro p e s m args below meth c s₁ B hml hv _
    have hh0 : s₁.heap = s.heap := by rw [B.state]; rfl
    obtain ⟨rfl, hO, hK, hlo⟩ := hv
    have hl := lv_entry av (n := maxL) hlen
    have kk := k p e s m av.toArray below meth c s.heap [] ((lg_sl av ++ List.replicate (maxL - (lg_sl av).length) Slot.unset).toArray) ⟨B.exec, B.bytes, hml, B.returns, findClass_of_methodNamed B.named, B.notSynchronized, (name_of_methodNamed B.named B.method).1, hK, hlo, trivial⟩ hO va_S.rf hl
    rw [← lg_entry_eq] at kk
    obtain ⟨t, a1, o, b1, b2, b3⟩ := kk s₁ hh0 (Stand.of_body B)
    exact ⟨t, o, a1, b1, b2, ⟨b3.1, b3.2⟩⟩
set_option maxHeartbeats 4000000 in
set_option maxRecDepth 100000 in
/-- Jxf58ca_isNaN_12338 -/
theorem j_fnan (g : zG) (h : zH) (y : UInt32) (hy : FP.Core.val32 y ≠ .nan) : zX g yJxf58ca_isNaN_12338 cJxf58ca_isNaN_12338 1 (some .boolean) rmJxf58ca_isNaN_12338 [.float y] h (.int 0) h := by
  refine zM_ofF (by decide +kernel) (Nat.le_of_ble_eq_true rfl) ?_
  refine z_fload_n dJxf58ca_isNaN_12338_0 rfl rfl ?_
  refine z_fload_n dJxf58ca_isNaN_12338_1 rfl rfl ?_
  refine z_fc_eq (tgt := 10) dJxf58ca_isNaN_12338_2 rfl dJxf58ca_isNaN_12338_3 (by decide) (fun q => by rw [show FP.fcmp y y = some .eq from FP.Core.fcmp_self hy] at q; cases q) (fun c2 => ?_) (fun c2 => absurd c2 (fun q => q (FP.Core.fcmp_self hy)))
  refine z_iconst (v := 0) dJxf58ca_isNaN_12338_10 rfl (by decide) ?_
  exact z_zret dJxf58ca_isNaN_12338_11 rfl rfl rfl ⟨rfl, rfl⟩ (Nat.le_of_ble_eq_true rfl) (Nat.le_of_ble_eq_true rfl)

set_option maxHeartbeats 4000000 in
set_option maxRecDepth 100000 in
/-- Jxe99ae_isNaN_b9ae7 -/
theorem j_dnan (g : zG) (h : zH) (y : UInt64) (hy : FP.Core.val64 y ≠ .nan) : zX g yJxe99ae_isNaN_b9ae7 cJxe99ae_isNaN_b9ae7 2 (some .boolean) rmJxe99ae_isNaN_b9ae7 [.double y] h (.int 0) h := by
  refine zM_ofF (by decide +kernel) (Nat.le_of_ble_eq_true rfl) ?_
  refine z_dload_n dJxe99ae_isNaN_b9ae7_0 rfl rfl ?_
  refine z_dload_n dJxe99ae_isNaN_b9ae7_1 rfl rfl ?_
  refine z_dc_eq (tgt := 10) dJxe99ae_isNaN_b9ae7_2 rfl dJxe99ae_isNaN_b9ae7_3 (by decide) (fun q => by rw [show FP.dcmp y y = some .eq from FP.Core.dcmp_self hy] at q; cases q) (fun c2 => ?_) (fun c2 => absurd c2 (fun q => q (FP.Core.dcmp_self hy)))
  refine z_iconst (v := 0) dJxe99ae_isNaN_b9ae7_10 rfl (by decide) ?_
  exact z_zret dJxe99ae_isNaN_b9ae7_11 rfl rfl rfl ⟨rfl, rfl⟩ (Nat.le_of_ble_eq_true rfl) (Nat.le_of_ble_eq_true rfl)

set_option maxHeartbeats 4000000 in
set_option maxRecDepth 100000 in
/-- Jxf58ca_floatToIntBits_5c35a -/
theorem j_fbits (g : zG) (h : zH) (y : UInt32) (hy : FP.Core.val32 y ≠ .nan) : zX g yJxf58ca_floatToIntBits_5c35a cJxf58ca_floatToIntBits_5c35a 1 (some .int) rmJxf58ca_floatToIntBits_5c35a [.float y] h (.int y.toInt32) h := by
  refine zM_ofF (by decide +kernel) (Nat.le_of_ble_eq_true rfl) ?_
  refine z_fload_n dJxf58ca_floatToIntBits_5c35a_0 rfl rfl ?_
  refine zcx_Jxf58ca_59 rfl dJxf58ca_floatToIntBits_5c35a_1 rfl (j_fnan g h _ hy) rfl rfl ⟨(Nat.le_of_ble_eq_true rfl), (Nat.le_of_ble_eq_true rfl)⟩ ⟨(Nat.le_of_ble_eq_true rfl), (Nat.le_of_ble_eq_true rfl)⟩ (Nat.le_of_ble_eq_true rfl) ?_
  refine z_if_ne (tgt := 12) dJxf58ca_floatToIntBits_5c35a_4 rfl (by decide) (fun c4 => absurd rfl c4) (fun c4 => ?_)
  refine z_fload_n dJxf58ca_floatToIntBits_5c35a_7 rfl rfl ?_
  refine zc_nf rfl dJxf58ca_floatToIntBits_5c35a_8 rfl (Nat.le_of_ble_eq_true rfl) (Nat.le_of_ble_eq_true rfl) ?_
  exact z_iret dJxf58ca_floatToIntBits_5c35a_11 rfl rfl ⟨rfl, rfl⟩ (Nat.le_of_ble_eq_true rfl) (Nat.le_of_ble_eq_true rfl)

set_option maxHeartbeats 4000000 in
set_option maxRecDepth 100000 in
/-- Jxe99ae_doubleToLongBits_ccdee -/
theorem j_dbits (g : zG) (h : zH) (y : UInt64) (hy : FP.Core.val64 y ≠ .nan) : zX g yJxe99ae_doubleToLongBits_ccdee cJxe99ae_doubleToLongBits_ccdee 2 (some .long) rmJxe99ae_doubleToLongBits_ccdee [.double y] h (.long y.toInt64) h := by
  refine zM_ofF (by decide +kernel) (Nat.le_of_ble_eq_true rfl) ?_
  refine z_dload_n dJxe99ae_doubleToLongBits_ccdee_0 rfl rfl ?_
  refine zcx_Jxe99ae_122 rfl dJxe99ae_doubleToLongBits_ccdee_1 rfl (j_dnan g h _ hy) rfl rfl ⟨(Nat.le_of_ble_eq_true rfl), (Nat.le_of_ble_eq_true rfl)⟩ ⟨(Nat.le_of_ble_eq_true rfl), (Nat.le_of_ble_eq_true rfl)⟩ (Nat.le_of_ble_eq_true rfl) ?_
  refine z_if_ne (tgt := 12) dJxe99ae_doubleToLongBits_ccdee_4 rfl (by decide) (fun c4 => absurd rfl c4) (fun c4 => ?_)
  refine z_dload_n dJxe99ae_doubleToLongBits_ccdee_7 rfl rfl ?_
  refine zc_nd rfl dJxe99ae_doubleToLongBits_ccdee_8 rfl (Nat.le_of_ble_eq_true rfl) (Nat.le_of_ble_eq_true rfl) ?_
  exact z_lret dJxe99ae_doubleToLongBits_ccdee_11 rfl rfl ⟨rfl, rfl⟩ (Nat.le_of_ble_eq_true rfl) (Nat.le_of_ble_eq_true rfl)

set_option maxHeartbeats 4000000 in
set_option maxRecDepth 100000 in
/-- J9_floorMod_f86c9 -/
theorem j_fmod (g : zG) (h : zH) (x y : Int64) (hy : ¬ y = 0) : zX g yJ9_floorMod_f86c9 cJ9_floorMod_f86c9 6 (some .long) rmJ9_floorMod_f86c9 [.long x, .long y] h (.long (if x ^^^ y < 0 ∧ x - x / y * y ≠ 0 then x - x / y * y + y else x - x / y * y)) h := by
  refine zM_ofF (by decide +kernel) (Nat.le_of_ble_eq_true rfl) ?_
  refine z_lload_n dJ9_floorMod_f86c9_0 rfl rfl ?_
  refine z_lload_n dJ9_floorMod_f86c9_1 rfl rfl ?_
  refine z_lrem dJ9_floorMod_f86c9_2 rfl hy ?_
  refine z_lstore dJ9_floorMod_f86c9_3 rfl (Nat.le_of_ble_eq_true rfl) ?_
  refine z_lload_n dJ9_floorMod_f86c9_5 rfl rfl ?_
  refine z_lload_n dJ9_floorMod_f86c9_6 rfl rfl ?_
  refine z_lxor dJ9_floorMod_f86c9_7 rfl ?_
  refine z_lconst (v := 0) dJ9_floorMod_f86c9_8 rfl (by decide) ?_
  refine z_lc_ge (tgt := 25) dJ9_floorMod_f86c9_9 rfl dJ9_floorMod_f86c9_10 (by decide) (fun c9 => ?_) (fun c9 => ?_)
  · skip
    refine z_lload dJ9_floorMod_f86c9_25 rfl rfl ?_
    exact z_lret dJ9_floorMod_f86c9_27 rfl rfl ⟨by grind, rfl⟩ (Nat.le_of_ble_eq_true rfl) (Nat.le_of_ble_eq_true rfl)
  · skip
    refine z_lload dJ9_floorMod_f86c9_13 rfl rfl ?_
    refine z_lconst (v := 0) dJ9_floorMod_f86c9_15 rfl (by decide) ?_
    refine z_lc_eq (tgt := 25) dJ9_floorMod_f86c9_16 rfl dJ9_floorMod_f86c9_17 (by decide) (fun c16 => ?_) (fun c16 => ?_)
    · skip
      refine z_lload dJ9_floorMod_f86c9_25 rfl rfl ?_
      exact z_lret dJ9_floorMod_f86c9_27 rfl rfl ⟨by grind, rfl⟩ (Nat.le_of_ble_eq_true rfl) (Nat.le_of_ble_eq_true rfl)
    · skip
      refine z_lload dJ9_floorMod_f86c9_20 rfl rfl ?_
      refine z_lload_n dJ9_floorMod_f86c9_22 rfl rfl ?_
      refine z_ladd dJ9_floorMod_f86c9_23 rfl ?_
      exact z_lret dJ9_floorMod_f86c9_24 rfl rfl ⟨by grind, rfl⟩ (Nat.le_of_ble_eq_true rfl) (Nat.le_of_ble_eq_true rfl)

set_option maxHeartbeats 4000000 in
set_option maxRecDepth 100000 in
/-- X10_bitsOf -/
theorem r_bitsOf (g : zG) (h : zH) (k : Int32) (x : UInt64) (h6 : k = 6 → fpD 100 x) (h7 : ¬ k = 6 → FP.Core.val64 x ≠ .nan) : zX g yX10_bitsOf cX10_bitsOf 3 (some .long) rmX10_bitsOf [.int k, .double x] h (.long (sBits k x)) h := by
  refine zM_of (by decide) (Nat.le_of_ble_eq_true rfl) ?_
  refine z_iload_n dX10_bitsOf_0 rfl rfl ?_
  refine z_bipush (v := 6) dX10_bitsOf_1 rfl (by decide) ?_
  refine z_icmp_ne (tgt := 15) dX10_bitsOf_3 rfl (by decide) (fun c3 => ?_) (fun c3 => ?_)
  · skip
    refine z_dload_n dX10_bitsOf_15 rfl rfl ?_
    refine zcx_X10_98 rfl dX10_bitsOf_16 rfl (j_dbits g h _ (h7 c3)) rfl rfl ⟨(Nat.le_of_ble_eq_true rfl), (Nat.le_of_ble_eq_true rfl)⟩ ⟨(Nat.le_of_ble_eq_true rfl), (Nat.le_of_ble_eq_true rfl)⟩ (Nat.le_of_ble_eq_true rfl) ?_
    exact z_lret dX10_bitsOf_19 rfl rfl ⟨by grind [sBits], rfl⟩ (Nat.le_of_ble_eq_true rfl) (Nat.le_of_ble_eq_true rfl)
  · skip
    refine z_dload_n dX10_bitsOf_6 rfl rfl ?_
    refine z_d2f dX10_bitsOf_7 rfl (fpS_n (fpS_d2f (h6 c3) (by decide))) ?_
    refine zcx_X10_92 rfl dX10_bitsOf_8 rfl (j_fbits g h _ (fpS_nn (fpS_d2f (h6 c3) (by decide)))) rfl rfl ⟨(Nat.le_of_ble_eq_true rfl), (Nat.le_of_ble_eq_true rfl)⟩ ⟨(Nat.le_of_ble_eq_true rfl), (Nat.le_of_ble_eq_true rfl)⟩ (Nat.le_of_ble_eq_true rfl) ?_
    refine z_i2l dX10_bitsOf_11 rfl ?_
    refine z_goto (tgt := 19) dX10_bitsOf_12 rfl (by decide) ?_
    exact z_lret dX10_bitsOf_19 rfl rfl ⟨by grind [sBits], rfl⟩ (Nat.le_of_ble_eq_true rfl) (Nat.le_of_ble_eq_true rfl)

set_option maxHeartbeats 4000000 in
set_option maxRecDepth 100000 in
/-- X10_amountOf -/
theorem r_amountOf (g : zG) (h : zH) (m : Nat) (S : sMS) (at_ k : Int32) (hat : vp_in at_ 880) (hk : (k = 6 ∨ k = 7) → ¬ (mc S at_.toNatClampNeg).1 = 9 → okD (sReal (mc S at_.toNatClampNeg) k)) : zX g yX10_amountOf cX10_amountOf 3 (some .long) rmX10_amountOf [.ref m, .int at_, .int k] (mUp m S h) (.long (sAmt (mc S at_.toNatClampNeg) k)) (mUp m S h) := by
  refine zM_of (by decide) (Nat.le_of_ble_eq_true rfl) ?_
  first | refine z_aload_n dX10_amountOf_0 rfl rfl ?_ | refine z_aload_nN dX10_amountOf_0 rfl rfl ?_
  refine zmg_7 rfl dX10_amountOf_1 rfl ?_
  refine z_iload_n dX10_amountOf_4 rfl rfl ?_
  refine zm_iald dX10_amountOf_5 rfl rfl hat ?_
  refine z_bipush (v := 9) dX10_amountOf_6 rfl (by decide) ?_
  refine z_icmp_ne (tgt := 13) dX10_amountOf_8 rfl (by decide) (fun c8 => ?_) (fun c8 => ?_)
  · skip
    refine z_iload_n dX10_amountOf_13 rfl rfl ?_
    refine z_bipush (v := 6) dX10_amountOf_14 rfl (by decide) ?_
    refine z_icmp_eq (tgt := 25) dX10_amountOf_16 rfl (by decide) (fun c16 => ?_) (fun c16 => ?_)
    · skip
      refine z_iload_n dX10_amountOf_25 rfl rfl ?_
      first | refine z_aload_n dX10_amountOf_26 rfl rfl ?_ | refine z_aload_nN dX10_amountOf_26 rfl rfl ?_
      refine z_iload_n dX10_amountOf_27 rfl rfl ?_
      refine z_iload_n dX10_amountOf_28 rfl rfl ?_
      refine zcx_X10_88 rfl dX10_amountOf_29 rfl mo_recv (r_fractionOf g h m S _ _ hat) rfl rfl ⟨(Nat.le_of_ble_eq_true rfl), (Nat.le_of_ble_eq_true rfl)⟩ ⟨(Nat.le_of_ble_eq_true rfl), (Nat.le_of_ble_eq_true rfl)⟩ (Nat.le_of_ble_eq_true rfl) ?_
      refine zcx_X10_104 rfl dX10_amountOf_32 rfl (r_bitsOf g _ _ _ (fun _ => fpD_up (hk (by grind) c8).1 (by decide)) (fun _ => fpD_nn (hk (by grind) c8).1)) rfl rfl ⟨(Nat.le_of_ble_eq_true rfl), (Nat.le_of_ble_eq_true rfl)⟩ ⟨(Nat.le_of_ble_eq_true rfl), (Nat.le_of_ble_eq_true rfl)⟩ (Nat.le_of_ble_eq_true rfl) ?_
      refine z_goto (tgt := 44) dX10_amountOf_35 rfl (by decide) ?_
      exact z_lret dX10_amountOf_44 rfl rfl ⟨by grind [sAmt, mc], rfl⟩ (Nat.le_of_ble_eq_true rfl) (Nat.le_of_ble_eq_true rfl)
    · skip
      refine z_iload_n dX10_amountOf_19 rfl rfl ?_
      refine z_bipush (v := 7) dX10_amountOf_20 rfl (by decide) ?_
      refine z_icmp_ne (tgt := 38) dX10_amountOf_22 rfl (by decide) (fun c22 => ?_) (fun c22 => ?_)
      · skip
        first | refine z_aload_n dX10_amountOf_38 rfl rfl ?_ | refine z_aload_nN dX10_amountOf_38 rfl rfl ?_
        refine zmg_13 rfl dX10_amountOf_39 rfl ?_
        refine z_iload_n dX10_amountOf_42 rfl rfl ?_
        refine zm_lald dX10_amountOf_43 rfl rfl hat ?_
        exact z_lret dX10_amountOf_44 rfl rfl ⟨by grind [sAmt, mc], rfl⟩ (Nat.le_of_ble_eq_true rfl) (Nat.le_of_ble_eq_true rfl)
      · skip
        refine z_iload_n dX10_amountOf_25 rfl rfl ?_
        first | refine z_aload_n dX10_amountOf_26 rfl rfl ?_ | refine z_aload_nN dX10_amountOf_26 rfl rfl ?_
        refine z_iload_n dX10_amountOf_27 rfl rfl ?_
        refine z_iload_n dX10_amountOf_28 rfl rfl ?_
        refine zcx_X10_88 rfl dX10_amountOf_29 rfl mo_recv (r_fractionOf g h m S _ _ hat) rfl rfl ⟨(Nat.le_of_ble_eq_true rfl), (Nat.le_of_ble_eq_true rfl)⟩ ⟨(Nat.le_of_ble_eq_true rfl), (Nat.le_of_ble_eq_true rfl)⟩ (Nat.le_of_ble_eq_true rfl) ?_
        refine zcx_X10_104 rfl dX10_amountOf_32 rfl (r_bitsOf g _ _ _ (fun _ => fpD_up (hk (by grind) c8).1 (by decide)) (fun _ => fpD_nn (hk (by grind) c8).1)) rfl rfl ⟨(Nat.le_of_ble_eq_true rfl), (Nat.le_of_ble_eq_true rfl)⟩ ⟨(Nat.le_of_ble_eq_true rfl), (Nat.le_of_ble_eq_true rfl)⟩ (Nat.le_of_ble_eq_true rfl) ?_
        refine z_goto (tgt := 44) dX10_amountOf_35 rfl (by decide) ?_
        exact z_lret dX10_amountOf_44 rfl rfl ⟨by grind [sAmt, mc], rfl⟩ (Nat.le_of_ble_eq_true rfl) (Nat.le_of_ble_eq_true rfl)
  · skip
    refine z_lconst (v := 0) dX10_amountOf_11 rfl (by decide) ?_
    exact z_lret dX10_amountOf_12 rfl rfl ⟨by grind [sAmt, mc], rfl⟩ (Nat.le_of_ble_eq_true rfl) (Nat.le_of_ble_eq_true rfl)

theorem sJoin_cmp {c d : sC} (hc : sOk c) (hd : sOk d) (hj : ¬ sJoin c.1 d.1 = -4) (k : Int32) : FP.dcmp (sReal c k) (sReal d k) ≠ none := dcmp_ok (sReal_ok hc (sJoin_num hj).1.2 k).1 (sReal_ok hd (sJoin_num hj).2.2 k).1
set_option maxHeartbeats 4000000 in
set_option maxRecDepth 100000 in
/-- X10_areAlike -/
theorem r_areAlike (g : zG) (h : zH) (m : Nat) (S : sMS) (p q : Int32) (hp : vp_in p 880) (hq : vp_in q 880) (hc : sOk (mc S p.toNatClampNeg)) (hd : sOk (mc S q.toNatClampNeg)) : zX g yX10_areAlike cX10_areAlike 4 (some .boolean) rmX10_areAlike [.ref m, .int p, .int q] (mUp m S h) (.int (if sAlike (mc S p.toNatClampNeg) (mc S q.toNatClampNeg) = true then 1 else 0)) (mUp m S h) := by
  refine zM_of (by decide) (Nat.le_of_ble_eq_true rfl) ?_
  first | refine z_aload_n dX10_areAlike_0 rfl rfl ?_ | refine z_aload_nN dX10_areAlike_0 rfl rfl ?_
  refine zmg_7 rfl dX10_areAlike_1 rfl ?_
  refine z_iload_n dX10_areAlike_4 rfl rfl ?_
  refine zm_iald dX10_areAlike_5 rfl rfl (by assumption) ?_
  first | refine z_aload_n dX10_areAlike_6 rfl rfl ?_ | refine z_aload_nN dX10_areAlike_6 rfl rfl ?_
  refine zmg_7 rfl dX10_areAlike_7 rfl ?_
  refine z_iload_n dX10_areAlike_10 rfl rfl ?_
  refine zm_iald dX10_areAlike_11 rfl rfl (by assumption) ?_
  refine zcx_X10_108 rfl dX10_areAlike_12 rfl (r_joinOf g _ _ _) rfl rfl ⟨(Nat.le_of_ble_eq_true rfl), (Nat.le_of_ble_eq_true rfl)⟩ ⟨(Nat.le_of_ble_eq_true rfl), (Nat.le_of_ble_eq_true rfl)⟩ (Nat.le_of_ble_eq_true rfl) ?_
  refine z_istore_n dX10_areAlike_15 rfl (Nat.le_of_ble_eq_true rfl) ?_
  refine z_iload_n dX10_areAlike_16 rfl rfl ?_
  refine z_bipush (v := -4) dX10_areAlike_17 rfl (by decide) ?_
  refine z_icmp_ne (tgt := 82) dX10_areAlike_19 rfl (by decide) (fun c19 => ?_) (fun c19 => ?_)
  · skip
    refine z_iload_n dX10_areAlike_82 rfl rfl ?_
    refine z_bipush (v := 6) dX10_areAlike_83 rfl (by decide) ?_
    refine z_icmp_lt (tgt := 112) dX10_areAlike_85 rfl (by decide) (fun c85 => ?_) (fun c85 => ?_)
    · skip
      first | refine z_aload_n dX10_areAlike_112 rfl rfl ?_ | refine z_aload_nN dX10_areAlike_112 rfl rfl ?_
      refine zmg_13 rfl dX10_areAlike_113 rfl ?_
      refine z_iload_n dX10_areAlike_116 rfl rfl ?_
      refine zm_lald dX10_areAlike_117 rfl rfl (by assumption) ?_
      first | refine z_aload_n dX10_areAlike_118 rfl rfl ?_ | refine z_aload_nN dX10_areAlike_118 rfl rfl ?_
      refine zmg_13 rfl dX10_areAlike_119 rfl ?_
      refine z_iload_n dX10_areAlike_122 rfl rfl ?_
      refine zm_lald dX10_areAlike_123 rfl rfl (by assumption) ?_
      refine z_lc_ne (tgt := 132) dX10_areAlike_124 rfl dX10_areAlike_125 (by decide) (fun c124 => ?_) (fun c124 => ?_)
      · skip
        refine z_iconst (v := 0) dX10_areAlike_132 rfl (by decide) ?_
        exact z_zret dX10_areAlike_133 rfl rfl rfl ⟨by grind [sAlike, mc], rfl⟩ (Nat.le_of_ble_eq_true rfl) (Nat.le_of_ble_eq_true rfl)
      · skip
        refine z_iconst (v := 1) dX10_areAlike_128 rfl (by decide) ?_
        refine z_goto (tgt := 133) dX10_areAlike_129 rfl (by decide) ?_
        exact z_zret dX10_areAlike_133 rfl rfl rfl ⟨by grind [sAlike, mc], rfl⟩ (Nat.le_of_ble_eq_true rfl) (Nat.le_of_ble_eq_true rfl)
    · skip
      first | refine z_aload_n dX10_areAlike_88 rfl rfl ?_ | refine z_aload_nN dX10_areAlike_88 rfl rfl ?_
      refine z_iload_n dX10_areAlike_89 rfl rfl ?_
      refine z_iload_n dX10_areAlike_90 rfl rfl ?_
      refine zcx_X10_88 rfl dX10_areAlike_91 rfl mo_recv (r_fractionOf g h m S _ _ (by assumption)) rfl rfl ⟨(Nat.le_of_ble_eq_true rfl), (Nat.le_of_ble_eq_true rfl)⟩ ⟨(Nat.le_of_ble_eq_true rfl), (Nat.le_of_ble_eq_true rfl)⟩ (Nat.le_of_ble_eq_true rfl) ?_
      first | refine z_aload_n dX10_areAlike_94 rfl rfl ?_ | refine z_aload_nN dX10_areAlike_94 rfl rfl ?_
      refine z_iload_n dX10_areAlike_95 rfl rfl ?_
      refine z_iload_n dX10_areAlike_96 rfl rfl ?_
      refine zcx_X10_88 rfl dX10_areAlike_97 rfl mo_recv (r_fractionOf g h m S _ _ (by assumption)) rfl rfl ⟨(Nat.le_of_ble_eq_true rfl), (Nat.le_of_ble_eq_true rfl)⟩ ⟨(Nat.le_of_ble_eq_true rfl), (Nat.le_of_ble_eq_true rfl)⟩ (Nat.le_of_ble_eq_true rfl) ?_
      refine z_dc_ne (tgt := 108) dX10_areAlike_100 rfl dX10_areAlike_101 (by decide) (sJoin_cmp hc hd c19 _) (fun c100 => ?_) (fun c100 => ?_)
      · skip
        refine z_iconst (v := 0) dX10_areAlike_108 rfl (by decide) ?_
        refine z_goto (tgt := 133) dX10_areAlike_109 rfl (by decide) ?_
        exact z_zret dX10_areAlike_133 rfl rfl rfl ⟨by grind [sAlike, mc], rfl⟩ (Nat.le_of_ble_eq_true rfl) (Nat.le_of_ble_eq_true rfl)
      · skip
        refine z_iconst (v := 1) dX10_areAlike_104 rfl (by decide) ?_
        refine z_goto (tgt := 133) dX10_areAlike_105 rfl (by decide) ?_
        exact z_zret dX10_areAlike_133 rfl rfl rfl ⟨by grind [sAlike, mc], rfl⟩ (Nat.le_of_ble_eq_true rfl) (Nat.le_of_ble_eq_true rfl)
  · skip
    first | refine z_aload_n dX10_areAlike_22 rfl rfl ?_ | refine z_aload_nN dX10_areAlike_22 rfl rfl ?_
    refine zmg_7 rfl dX10_areAlike_23 rfl ?_
    refine z_iload_n dX10_areAlike_26 rfl rfl ?_
    refine zm_iald dX10_areAlike_27 rfl rfl (by assumption) ?_
    refine zcx_X10_76 rfl dX10_areAlike_28 rfl (r_isNumber g _ _) rfl rfl ⟨(Nat.le_of_ble_eq_true rfl), (Nat.le_of_ble_eq_true rfl)⟩ ⟨(Nat.le_of_ble_eq_true rfl), (Nat.le_of_ble_eq_true rfl)⟩ (Nat.le_of_ble_eq_true rfl) ?_
    refine z_bif_ne (tgt := 80) dX10_areAlike_31 rfl (by decide) (fun c31 => ?_) (fun c31 => ?_)
    · skip
      refine z_iconst (v := 0) dX10_areAlike_80 rfl (by decide) ?_
      exact z_zret dX10_areAlike_81 rfl rfl rfl ⟨by grind [sAlike, mc], rfl⟩ (Nat.le_of_ble_eq_true rfl) (Nat.le_of_ble_eq_true rfl)
    · skip
      first | refine z_aload_n dX10_areAlike_34 rfl rfl ?_ | refine z_aload_nN dX10_areAlike_34 rfl rfl ?_
      refine zmg_7 rfl dX10_areAlike_35 rfl ?_
      refine z_iload_n dX10_areAlike_38 rfl rfl ?_
      refine zm_iald dX10_areAlike_39 rfl rfl (by assumption) ?_
      first | refine z_aload_n dX10_areAlike_40 rfl rfl ?_ | refine z_aload_nN dX10_areAlike_40 rfl rfl ?_
      refine zmg_7 rfl dX10_areAlike_41 rfl ?_
      refine z_iload_n dX10_areAlike_44 rfl rfl ?_
      refine zm_iald dX10_areAlike_45 rfl rfl (by assumption) ?_
      refine z_icmp_ne (tgt := 80) dX10_areAlike_46 rfl (by decide) (fun c46 => ?_) (fun c46 => ?_)
      · skip
        refine z_iconst (v := 0) dX10_areAlike_80 rfl (by decide) ?_
        exact z_zret dX10_areAlike_81 rfl rfl rfl ⟨by grind [sAlike, mc], rfl⟩ (Nat.le_of_ble_eq_true rfl) (Nat.le_of_ble_eq_true rfl)
      · skip
        first | refine z_aload_n dX10_areAlike_49 rfl rfl ?_ | refine z_aload_nN dX10_areAlike_49 rfl rfl ?_
        refine zmg_7 rfl dX10_areAlike_50 rfl ?_
        refine z_iload_n dX10_areAlike_53 rfl rfl ?_
        refine zm_iald dX10_areAlike_54 rfl rfl (by assumption) ?_
        refine z_bipush (v := 9) dX10_areAlike_55 rfl (by decide) ?_
        refine z_icmp_eq (tgt := 76) dX10_areAlike_57 rfl (by decide) (fun c57 => ?_) (fun c57 => ?_)
        · skip
          refine z_iconst (v := 1) dX10_areAlike_76 rfl (by decide) ?_
          refine z_goto (tgt := 81) dX10_areAlike_77 rfl (by decide) ?_
          exact z_zret dX10_areAlike_81 rfl rfl rfl ⟨by grind [sAlike, mc], rfl⟩ (Nat.le_of_ble_eq_true rfl) (Nat.le_of_ble_eq_true rfl)
        · skip
          first | refine z_aload_n dX10_areAlike_60 rfl rfl ?_ | refine z_aload_nN dX10_areAlike_60 rfl rfl ?_
          refine zmg_13 rfl dX10_areAlike_61 rfl ?_
          refine z_iload_n dX10_areAlike_64 rfl rfl ?_
          refine zm_lald dX10_areAlike_65 rfl rfl (by assumption) ?_
          first | refine z_aload_n dX10_areAlike_66 rfl rfl ?_ | refine z_aload_nN dX10_areAlike_66 rfl rfl ?_
          refine zmg_13 rfl dX10_areAlike_67 rfl ?_
          refine z_iload_n dX10_areAlike_70 rfl rfl ?_
          refine zm_lald dX10_areAlike_71 rfl rfl (by assumption) ?_
          refine z_lc_ne (tgt := 80) dX10_areAlike_72 rfl dX10_areAlike_73 (by decide) (fun c72 => ?_) (fun c72 => ?_)
          · skip
            refine z_iconst (v := 0) dX10_areAlike_80 rfl (by decide) ?_
            exact z_zret dX10_areAlike_81 rfl rfl rfl ⟨by grind [sAlike, mc], rfl⟩ (Nat.le_of_ble_eq_true rfl) (Nat.le_of_ble_eq_true rfl)
          · skip
            refine z_iconst (v := 1) dX10_areAlike_76 rfl (by decide) ?_
            refine z_goto (tgt := 81) dX10_areAlike_77 rfl (by decide) ?_
            exact z_zret dX10_areAlike_81 rfl rfl rfl ⟨by grind [sAlike, mc], rfl⟩ (Nat.le_of_ble_eq_true rfl) (Nat.le_of_ble_eq_true rfl)

