def isAl (A B : List sC) (s : Int) (i : Nat) : Bool := decide (0 ≤ i + s ∧ i + s < B.length) && sAlike (A.getD i z0) (B.getD (i + s).toNat z0)
/-- how many of the first n cells of A are alike to those of B that lie s further -/
def alN (A B : List sC) (s : Int) (n : Nat) : Nat := (List.range n).countP (isAl A B s)
def lagS (A B : List sC) (p : Int32 × Nat) (s : Int32) : Int32 × Nat := if p.2 < alN A B s.toInt A.length then (s, alN A B s.toInt A.length) else p
def lagL (A B : List sC) : Nat → Nat → Int32 × Nat → Int32 × Nat
  | 0, _, p => p
  | n + 1, k, p => lagL A B n (k + 1) (lagS A B (lagS A B p (-nI k)) (nI k))
def lagOf (p : Int32 × Nat) : Int32 := if p.2 = 0 then -4 else 100 + p.1
/-- 22 -/
def pLag (w : sW) (a b : Int32) : Int32 × sW :=
  (if ¬ isRec a ∨ ¬ isRec b then -1 else if 0 < rowF w.1 (ix a) then -10 - rowF w.1 (ix a) else if 0 < rowF w.1 (ix b) then -10 - rowF w.1 (ix b)
  else lagOf (lagL (w.1.2.1 (ix a)).2 (w.1.2.1 (ix b)).2 19 1 (0, alN (w.1.2.1 (ix a)).2 (w.1.2.1 (ix b)).2 0 (w.1.2.1 (ix a)).2.length)), w)
theorem al_T {A B : List sC} {s : Int} {i : Nat} (h : isAl A B s i = true) : nI (alN A B s i) + (if True then (1 : Int32) else 0) = nI (alN A B s (i + 1)) := by
  unfold alN
  rw [List.range_succ, List.countP_append, List.countP_singleton, h, if_pos rfl, if_pos trivial]
  exact nI_1 _
theorem al_F {A B : List sC} {s : Int} {i : Nat} (h : isAl A B s i = false) : nI (alN A B s i) + (if False then (1 : Int32) else 0) = nI (alN A B s (i + 1)) := by
  unfold alN
  rw [List.range_succ, List.countP_append, List.countP_singleton, h, if_neg Bool.false_ne_true, if_neg not_false, Nat.add_zero, Int32.add_zero]
theorem alN_le (A B : List sC) (s : Int) (n : Nat) : alN A B s n ≤ n := by
  have := List.countP_le_length (p := isAl A B s) (l := List.range n)
  rw [List.length_range] at this
  exact this
theorem add_sh {i : Nat} {s : Int32} (hi : i < 20) (h1 : -19 ≤ s.toInt) (h2 : s.toInt ≤ 19) : (nI i + s).toInt = i + s.toInt := by
  rw [Int32.toInt_add, nI_toInt (by omega), Int.bmod_def]
  omega
theorem in_sh {i n : Nat} {s : Int32} (hi : i < 20) (hn : n ≤ 20) (h1 : -19 ≤ s.toInt) (h2 : s.toInt ≤ 19) : (0 ≤ nI i + s ∧ nI i + s ≤ nI n - 1) ↔ (0 ≤ i + s.toInt ∧ i + s.toInt < n) := by
  have e : (nI n - 1).toInt = n - 1 := by
    have := nI_m1_l hn
    rwa [Int32.toInt_toInt64] at this
  rw [Int32.le_iff_toInt_le, Int32.le_iff_toInt_le, add_sh hi h1 h2, e, show (0 : Int32).toInt = 0 from by decide]
  omega

abbrev YX10_alikeBy : zY := (yX10_alikeBy.cls, cX10_alikeBy, 6, (some .int), rmX10_alikeBy, yX10_alikeBy.name, fun _ _ => True)
set_option maxHeartbeats 800000 in
set_option maxRecDepth 100000 in
theorem q_alikeBy_L (g : zG) (h : zH) (m : Nat) (S : sMS) (R : sR) (hR : rRep (S.1 6) (mRowIs S) R) (a b s : Int32) (ha : isRec a) (hb : isRec b) (ha2 : R.1 (ix a) = 2) (hb2 : R.1 (ix b) = 2) (h1 : -19 ≤ s.toInt) (h2 : s.toInt ≤ 19) : ∀ (n i : Nat), i + n = (R.2.1 (ix a)).2.length → zZ g YX10_alikeBy (zE g (fun v h1 => v = some (.int (nI (alN (R.2.1 (ix a)).2 (R.2.1 (ix b)).2 s.toInt (R.2.1 (ix a)).2.length))) ∧ h1 = mUp m S h) 0 0) 6 [(4, .int (nI (alN (R.2.1 (ix a)).2 (R.2.1 (ix b)).2 s.toInt i))), (5, .int (nI i)), (0, .ref m), (1, .int a), (2, .int b), (3, .int s)] [] (mUp m S h) 0 0 := by
  have ka := rep_kind hR (ix_lt ha) ha2
  have kb := rep_kind hR (ix_lt hb) hb2
  have la : (R.2.1 (ix a)).2.length ≤ 20 := ka.2.2.2.2.2.1
  have lb : (R.2.1 (ix b)).2.length ≤ 20 := kb.2.2.2.2.2.1
  intro n
  induction n with
  | zero =>
    intro i hi
    refine z_iload dX10_alikeBy_6 rfl rfl ?_
    first | refine z_aload_n dX10_alikeBy_8 rfl rfl ?_ | refine z_aload_nN dX10_alikeBy_8 rfl rfl ?_
    refine z_iload_n dX10_alikeBy_9 rfl rfl ?_
    refine zcx_X10_152 rfl dX10_alikeBy_10 rfl mo_recv (r_sizeOf g h m S _ (rec_in ha) ka.2.2.1) rfl rfl ⟨(Nat.le_of_ble_eq_true rfl), (Nat.le_of_ble_eq_true rfl)⟩ ⟨(Nat.le_of_ble_eq_true rfl), (Nat.le_of_ble_eq_true rfl)⟩ (Nat.le_of_ble_eq_true rfl) ?_
    rw [ka.2.1]
    refine z_icmp_ge (tgt := 78) dX10_alikeBy_13 rfl (by decide) (fun c13 => ?_) (fun c13 => absurd c13 (fun z => z (nI_le (by omega) (by omega))))
    refine z_iload dX10_alikeBy_78 rfl rfl ?_
    exact z_iret dX10_alikeBy_80 rfl rfl ⟨by rw [show i = (R.2.1 (ix a)).2.length by omega], rfl⟩ (Nat.le_of_ble_eq_true rfl) (Nat.le_of_ble_eq_true rfl)
  | succ n ih =>
    intro i hi
    refine z_iload dX10_alikeBy_6 rfl rfl ?_
    first | refine z_aload_n dX10_alikeBy_8 rfl rfl ?_ | refine z_aload_nN dX10_alikeBy_8 rfl rfl ?_
    refine z_iload_n dX10_alikeBy_9 rfl rfl ?_
    refine zcx_X10_152 rfl dX10_alikeBy_10 rfl mo_recv (r_sizeOf g h m S _ (rec_in ha) ka.2.2.1) rfl rfl ⟨(Nat.le_of_ble_eq_true rfl), (Nat.le_of_ble_eq_true rfl)⟩ ⟨(Nat.le_of_ble_eq_true rfl), (Nat.le_of_ble_eq_true rfl)⟩ (Nat.le_of_ble_eq_true rfl) ?_
    rw [ka.2.1]
    refine z_icmp_ge (tgt := 78) dX10_alikeBy_13 rfl (by decide) (fun c13 => absurd c13 (nI_ge (by omega) (by omega))) (fun c13 => ?_)
    refine z_iload dX10_alikeBy_16 rfl rfl ?_
    refine z_iload dX10_alikeBy_18 rfl rfl ?_
    refine z_iload_n dX10_alikeBy_20 rfl rfl ?_
    refine z_iadd dX10_alikeBy_21 rfl ?_
    refine z_i2l dX10_alikeBy_22 rfl ?_
    refine z_lconst (v := 0) dX10_alikeBy_23 rfl (by decide) ?_
    first | refine z_aload_n dX10_alikeBy_24 rfl rfl ?_ | refine z_aload_nN dX10_alikeBy_24 rfl rfl ?_
    refine z_iload_n dX10_alikeBy_25 rfl rfl ?_
    refine zcx_X10_152 rfl dX10_alikeBy_26 rfl mo_recv (r_sizeOf g h m S _ (rec_in hb) kb.2.2.1) rfl rfl ⟨(Nat.le_of_ble_eq_true rfl), (Nat.le_of_ble_eq_true rfl)⟩ ⟨(Nat.le_of_ble_eq_true rfl), (Nat.le_of_ble_eq_true rfl)⟩ (Nat.le_of_ble_eq_true rfl) ?_
    rw [kb.2.1]
    refine z_iconst (v := 1) dX10_alikeBy_29 rfl (by decide) ?_
    refine z_isub dX10_alikeBy_30 rfl ?_
    refine z_i2l dX10_alikeBy_31 rfl ?_
    refine zcx_X10_72 rfl dX10_alikeBy_32 rfl (r_in32 g _ _ 0 _ rfl rfl) rfl rfl ⟨(Nat.le_of_ble_eq_true rfl), (Nat.le_of_ble_eq_true rfl)⟩ ⟨(Nat.le_of_ble_eq_true rfl), (Nat.le_of_ble_eq_true rfl)⟩ (Nat.le_of_ble_eq_true rfl) ?_
    refine z_bif_eq (tgt := 65) dX10_alikeBy_35 rfl (by decide) (fun c35 => ?_) (fun c35 => ?_)
    · skip
      refine z_iconst (v := 0) dX10_alikeBy_65 rfl (by decide) ?_
      first | refine zcx_X10_200 rfl dX10_alikeBy_66 rfl (r_flag g _ True) rfl rfl ⟨(Nat.le_of_ble_eq_true rfl), (Nat.le_of_ble_eq_true rfl)⟩ ⟨(Nat.le_of_ble_eq_true rfl), (Nat.le_of_ble_eq_true rfl)⟩ (Nat.le_of_ble_eq_true rfl) ?_ | refine zcx_X10_200 rfl dX10_alikeBy_66 rfl (r_flag g _ False) rfl rfl ⟨(Nat.le_of_ble_eq_true rfl), (Nat.le_of_ble_eq_true rfl)⟩ ⟨(Nat.le_of_ble_eq_true rfl), (Nat.le_of_ble_eq_true rfl)⟩ (Nat.le_of_ble_eq_true rfl) ?_
      refine z_iadd dX10_alikeBy_69 rfl ?_
      first | rw [al_T (show isAl (R.2.1 (ix a)).2 (R.2.1 (ix b)).2 s.toInt i = true by unfold isAl; rw [decide_eq_true hin, Bool.true_and, hz, Int.toNat_natCast]; exact c58)] | rw [al_F (show isAl (R.2.1 (ix a)).2 (R.2.1 (ix b)).2 s.toInt i = false by unfold isAl; rw [hz, Int.toNat_natCast, show sAlike ((R.2.1 (ix a)).2.getD i z0) ((R.2.1 (ix b)).2.getD z z0) = false from Bool.eq_false_iff.mpr c58, Bool.and_false])] | rw [al_F (show isAl (R.2.1 (ix a)).2 (R.2.1 (ix b)).2 s.toInt i = false by unfold isAl; rw [decide_eq_false (fun z => c35 ((in_sh (show i < 20 by omega) lb h1 h2).mpr z)), Bool.false_and])]
      refine z_istore dX10_alikeBy_70 rfl (Nat.le_of_ble_eq_true rfl) ?_
      refine z_iinc (v := nI (i + 1)) dX10_alikeBy_72 rfl rfl (nI_inc i) (Nat.le_of_ble_eq_true rfl) ?_
      refine z_goto (tgt := 6) dX10_alikeBy_75 rfl (by decide) ?_
      refine z_lv [(4, .int (nI (alN (R.2.1 (ix a)).2 (R.2.1 (ix b)).2 s.toInt (i + 1)))), (5, .int (nI (i + 1))), (0, .ref m), (1, .int a), (2, .int b), (3, .int s)] ⟨rfl, rfl, rfl, rfl, rfl, rfl, trivial⟩ ?_
      exact ih (i + 1) (by omega)
    · skip
      have hin := (in_sh (show i < 20 by omega) lb h1 h2).mp c35
      obtain ⟨z, hz⟩ : ∃ z : Nat, (i : Int) + s.toInt = z := ⟨(i + s.toInt).toNat, by omega⟩
      have ez : nI i + s = nI z := Int32.toInt_inj.mp (by rw [add_sh (by omega) h1 h2, nI_toInt (by omega), hz])
      have ti := nI_toInt (show i < 2 ^ 31 by omega)
      have tz := nI_toInt (show z < 2 ^ 31 by omega)
      obtain ⟨pa, pm, po, -⟩ := rep_cell hR (i := nI i) (ix_lt ha) ha2 (by omega) (by omega)
      obtain ⟨qa, qm, qo, -⟩ := rep_cell hR (i := nI z) (ix_lt hb) hb2 (by omega) (by omega)
      rw [show ix (nI i) = i from nI_clamp (by omega)] at pm po
      rw [show ix (nI z) = z from nI_clamp (by omega)] at qm qo
      first | refine z_aload_n dX10_alikeBy_38 rfl rfl ?_ | refine z_aload_nN dX10_alikeBy_38 rfl rfl ?_
      first | refine z_aload_n dX10_alikeBy_39 rfl rfl ?_ | refine z_aload_nN dX10_alikeBy_39 rfl rfl ?_
      refine z_iload_n dX10_alikeBy_40 rfl rfl ?_
      refine z_iload dX10_alikeBy_41 rfl rfl ?_
      refine zcx_X10_135 rfl dX10_alikeBy_43 rfl mo_recv (r_cellAt g h m S _ _ (rec_in ha)) rfl rfl ⟨(Nat.le_of_ble_eq_true rfl), (Nat.le_of_ble_eq_true rfl)⟩ ⟨(Nat.le_of_ble_eq_true rfl), (Nat.le_of_ble_eq_true rfl)⟩ (Nat.le_of_ble_eq_true rfl) ?_
      first | refine z_aload_n dX10_alikeBy_46 rfl rfl ?_ | refine z_aload_nN dX10_alikeBy_46 rfl rfl ?_
      refine z_iload_n dX10_alikeBy_47 rfl rfl ?_
      refine z_iload dX10_alikeBy_48 rfl rfl ?_
      refine z_iload_n dX10_alikeBy_50 rfl rfl ?_
      refine z_iadd dX10_alikeBy_51 rfl ?_
      rw [ez]
      refine zcx_X10_135 rfl dX10_alikeBy_52 rfl mo_recv (r_cellAt g h m S _ _ (rec_in hb)) rfl rfl ⟨(Nat.le_of_ble_eq_true rfl), (Nat.le_of_ble_eq_true rfl)⟩ ⟨(Nat.le_of_ble_eq_true rfl), (Nat.le_of_ble_eq_true rfl)⟩ (Nat.le_of_ble_eq_true rfl) ?_
      refine zcx_X10_112 rfl dX10_alikeBy_55 rfl mo_recv (r_areAlike g h m S _ _ pa qa (by rw [pm]; exact po) (by rw [qm]; exact qo)) rfl rfl ⟨(Nat.le_of_ble_eq_true rfl), (Nat.le_of_ble_eq_true rfl)⟩ ⟨(Nat.le_of_ble_eq_true rfl), (Nat.le_of_ble_eq_true rfl)⟩ (Nat.le_of_ble_eq_true rfl) ?_
      rw [pm, qm]
      refine z_bif_eq (tgt := 65) dX10_alikeBy_58 rfl (by decide) (fun c58 => ?_) (fun c58 => ?_)
      · skip
        refine z_iconst (v := 0) dX10_alikeBy_65 rfl (by decide) ?_
        first | refine zcx_X10_200 rfl dX10_alikeBy_66 rfl (r_flag g _ True) rfl rfl ⟨(Nat.le_of_ble_eq_true rfl), (Nat.le_of_ble_eq_true rfl)⟩ ⟨(Nat.le_of_ble_eq_true rfl), (Nat.le_of_ble_eq_true rfl)⟩ (Nat.le_of_ble_eq_true rfl) ?_ | refine zcx_X10_200 rfl dX10_alikeBy_66 rfl (r_flag g _ False) rfl rfl ⟨(Nat.le_of_ble_eq_true rfl), (Nat.le_of_ble_eq_true rfl)⟩ ⟨(Nat.le_of_ble_eq_true rfl), (Nat.le_of_ble_eq_true rfl)⟩ (Nat.le_of_ble_eq_true rfl) ?_
        refine z_iadd dX10_alikeBy_69 rfl ?_
        first | rw [al_T (show isAl (R.2.1 (ix a)).2 (R.2.1 (ix b)).2 s.toInt i = true by unfold isAl; rw [decide_eq_true hin, Bool.true_and, hz, Int.toNat_natCast]; exact c58)] | rw [al_F (show isAl (R.2.1 (ix a)).2 (R.2.1 (ix b)).2 s.toInt i = false by unfold isAl; rw [hz, Int.toNat_natCast, show sAlike ((R.2.1 (ix a)).2.getD i z0) ((R.2.1 (ix b)).2.getD z z0) = false from Bool.eq_false_iff.mpr c58, Bool.and_false])] | rw [al_F (show isAl (R.2.1 (ix a)).2 (R.2.1 (ix b)).2 s.toInt i = false by unfold isAl; rw [decide_eq_false (fun z => c35 ((in_sh (show i < 20 by omega) lb h1 h2).mpr z)), Bool.false_and])]
        refine z_istore dX10_alikeBy_70 rfl (Nat.le_of_ble_eq_true rfl) ?_
        refine z_iinc (v := nI (i + 1)) dX10_alikeBy_72 rfl rfl (nI_inc i) (Nat.le_of_ble_eq_true rfl) ?_
        refine z_goto (tgt := 6) dX10_alikeBy_75 rfl (by decide) ?_
        refine z_lv [(4, .int (nI (alN (R.2.1 (ix a)).2 (R.2.1 (ix b)).2 s.toInt (i + 1)))), (5, .int (nI (i + 1))), (0, .ref m), (1, .int a), (2, .int b), (3, .int s)] ⟨rfl, rfl, rfl, rfl, rfl, rfl, trivial⟩ ?_
        exact ih (i + 1) (by omega)
      · skip
        refine z_iconst (v := 1) dX10_alikeBy_61 rfl (by decide) ?_
        refine z_goto (tgt := 66) dX10_alikeBy_62 rfl (by decide) ?_
        first | refine zcx_X10_200 rfl dX10_alikeBy_66 rfl (r_flag g _ True) rfl rfl ⟨(Nat.le_of_ble_eq_true rfl), (Nat.le_of_ble_eq_true rfl)⟩ ⟨(Nat.le_of_ble_eq_true rfl), (Nat.le_of_ble_eq_true rfl)⟩ (Nat.le_of_ble_eq_true rfl) ?_ | refine zcx_X10_200 rfl dX10_alikeBy_66 rfl (r_flag g _ False) rfl rfl ⟨(Nat.le_of_ble_eq_true rfl), (Nat.le_of_ble_eq_true rfl)⟩ ⟨(Nat.le_of_ble_eq_true rfl), (Nat.le_of_ble_eq_true rfl)⟩ (Nat.le_of_ble_eq_true rfl) ?_
        refine z_iadd dX10_alikeBy_69 rfl ?_
        first | rw [al_T (show isAl (R.2.1 (ix a)).2 (R.2.1 (ix b)).2 s.toInt i = true by unfold isAl; rw [decide_eq_true hin, Bool.true_and, hz, Int.toNat_natCast]; exact c58)] | rw [al_F (show isAl (R.2.1 (ix a)).2 (R.2.1 (ix b)).2 s.toInt i = false by unfold isAl; rw [hz, Int.toNat_natCast, show sAlike ((R.2.1 (ix a)).2.getD i z0) ((R.2.1 (ix b)).2.getD z z0) = false from Bool.eq_false_iff.mpr c58, Bool.and_false])] | rw [al_F (show isAl (R.2.1 (ix a)).2 (R.2.1 (ix b)).2 s.toInt i = false by unfold isAl; rw [decide_eq_false (fun z => c35 ((in_sh (show i < 20 by omega) lb h1 h2).mpr z)), Bool.false_and])]
        refine z_istore dX10_alikeBy_70 rfl (Nat.le_of_ble_eq_true rfl) ?_
        refine z_iinc (v := nI (i + 1)) dX10_alikeBy_72 rfl rfl (nI_inc i) (Nat.le_of_ble_eq_true rfl) ?_
        refine z_goto (tgt := 6) dX10_alikeBy_75 rfl (by decide) ?_
        refine z_lv [(4, .int (nI (alN (R.2.1 (ix a)).2 (R.2.1 (ix b)).2 s.toInt (i + 1)))), (5, .int (nI (i + 1))), (0, .ref m), (1, .int a), (2, .int b), (3, .int s)] ⟨rfl, rfl, rfl, rfl, rfl, rfl, trivial⟩ ?_
        exact ih (i + 1) (by omega)
set_option maxHeartbeats 4000000 in
set_option maxRecDepth 100000 in
/-- X10_alikeBy -/
theorem q_alikeBy (g : zG) (h : zH) (m : Nat) (S : sMS) (R : sR) (hR : rRep (S.1 6) (mRowIs S) R) (a b s : Int32) (ha : isRec a) (hb : isRec b) (ha2 : R.1 (ix a) = 2) (hb2 : R.1 (ix b) = 2) (h1 : -19 ≤ s.toInt) (h2 : s.toInt ≤ 19) : zX g yX10_alikeBy cX10_alikeBy 6 (some .int) rmX10_alikeBy [.ref m, .int a, .int b, .int s] (mUp m S h) (.int (nI (alN (R.2.1 (ix a)).2 (R.2.1 (ix b)).2 s.toInt (R.2.1 (ix a)).2.length))) (mUp m S h) := by
  refine zM_of (by decide) (Nat.le_of_ble_eq_true rfl) ?_
  refine z_iconst (v := 0) dX10_alikeBy_0 rfl (by decide) ?_
  refine z_istore dX10_alikeBy_1 rfl (Nat.le_of_ble_eq_true rfl) ?_
  refine z_iconst (v := 0) dX10_alikeBy_3 rfl (by decide) ?_
  refine z_istore dX10_alikeBy_4 rfl (Nat.le_of_ble_eq_true rfl) ?_
  refine z_lv [(4, .int (nI (alN (R.2.1 (ix a)).2 (R.2.1 (ix b)).2 s.toInt 0))), (5, .int (nI 0)), (0, .ref m), (1, .int a), (2, .int b), (3, .int s)] ⟨rfl, rfl, rfl, rfl, rfl, rfl, trivial⟩ ?_
  exact q_alikeBy_L g h m S R hR a b s ha hb ha2 hb2 h1 h2 (R.2.1 (ix a)).2.length 0 (by omega)

theorem neg_sh {k : Nat} (hk : k ≤ 19) : (-nI k).toInt = -(k : Int) := by
  rw [Int32.toInt_neg, nI_toInt (by omega), Int.bmod_def]
  omega
theorem lagS_le {A B : List sC} {p : Int32 × Nat} {s : Int32} (hA : A.length ≤ 20) (hp : p.2 ≤ 20) : (lagS A B p s).2 ≤ 20 := by
  unfold lagS
  split
  · exact Nat.le_trans (alN_le _ _ _ _) hA
  · exact hp
theorem lagS_1 {A B : List sC} {p : Int32 × Nat} {s : Int32} (h : p.2 < alN A B s.toInt A.length) : lagS A B p s = (s, alN A B s.toInt A.length) := if_pos h
theorem lagS_0 {A B : List sC} {p : Int32 × Nat} {s : Int32} (h : ¬ p.2 < alN A B s.toInt A.length) : lagS A B p s = p := if_neg h

abbrev YX10_lag : zY := (yX10_lag.cls, cX10_lag, 9, (some .int), rmX10_lag, yX10_lag.name, fun _ _ => True)
set_option maxHeartbeats 800000 in
set_option maxRecDepth 100000 in
theorem R_lag_C (g : zG) (h : zH) (m : Nat) (S : sMS) (w : sW) (hR : RepM S w) (a b : Int32) (ha : isRec a) (hb : isRec b) (ha2 : w.1.1 (ix a) = 2) (hb2 : w.1.1 (ix b) = 2) (p : Int32 × Nat) (hp : p.2 ≤ 20) (k : Nat) (j s : Int32) (h1 : -19 ≤ s.toInt) (h2 : s.toInt ≤ 19) (kk : zZ g YX10_lag (zE g (mPost m h (pLag w a b)) 0 0) 120 [(3, .int (lagS (w.1.2.1 (ix a)).2 (w.1.2.1 (ix b)).2 p s).1), (4, .int (nI (lagS (w.1.2.1 (ix a)).2 (w.1.2.1 (ix b)).2 p s).2)), (5, .int (nI k)), (6, .int j), (0, .ref m), (1, .int a), (2, .int b)] [] (mUp m S h) 0 0) : zZ g YX10_lag (zE g (mPost m h (pLag w a b)) 0 0) 80 [(3, .int p.1), (4, .int (nI p.2)), (5, .int (nI k)), (6, .int j), (7, .int s), (0, .ref m), (1, .int a), (2, .int b)] [] (mUp m S h) 0 0 := by
  have la : (w.1.2.1 (ix a)).2.length ≤ 20 := (rep_kind hR.1 (ix_lt ha) ha2).2.2.2.2.2.1
  have hal := alN_le (w.1.2.1 (ix a)).2 (w.1.2.1 (ix b)).2 s.toInt (w.1.2.1 (ix a)).2.length
  by_cases hlt : p.2 < alN (w.1.2.1 (ix a)).2 (w.1.2.1 (ix b)).2 s.toInt (w.1.2.1 (ix a)).2.length
  · skip
    first | refine z_aload_n dX10_lag_80 rfl rfl ?_ | refine z_aload_nN dX10_lag_80 rfl rfl ?_
    refine z_iload_n dX10_lag_81 rfl rfl ?_
    refine z_iload_n dX10_lag_82 rfl rfl ?_
    refine z_iload dX10_lag_83 rfl rfl ?_
    refine zcx_X10_296 rfl dX10_lag_85 rfl mo_recv (q_alikeBy g h m S w.1 hR.1 a b s ha hb ha2 hb2 h1 h2) rfl rfl ⟨(Nat.le_of_ble_eq_true rfl), (Nat.le_of_ble_eq_true rfl)⟩ ⟨(Nat.le_of_ble_eq_true rfl), (Nat.le_of_ble_eq_true rfl)⟩ (Nat.le_of_ble_eq_true rfl) ?_
    refine z_istore dX10_lag_88 rfl (Nat.le_of_ble_eq_true rfl) ?_
    refine z_iload dX10_lag_90 rfl rfl ?_
    refine z_iload dX10_lag_92 rfl rfl ?_
    refine z_icmp_le (tgt := 102) dX10_lag_94 rfl (by decide) (fun c94 => absurd c94 (by rintro z; exact absurd z (nI_ge hlt (by omega)))) (fun c94 => ?_)
    refine z_iload dX10_lag_97 rfl rfl ?_
    refine z_goto (tgt := 103) dX10_lag_99 rfl (by decide) ?_
    refine z_istore_n dX10_lag_103 rfl (Nat.le_of_ble_eq_true rfl) ?_
    refine z_iload dX10_lag_104 rfl rfl ?_
    refine z_iload dX10_lag_106 rfl rfl ?_
    refine z_icmp_le (tgt := 116) dX10_lag_108 rfl (by decide) (fun c108 => absurd c108 (by rintro z; exact absurd z (nI_ge hlt (by omega)))) (fun c108 => ?_)
    refine z_iload dX10_lag_111 rfl rfl ?_
    refine z_goto (tgt := 118) dX10_lag_113 rfl (by decide) ?_
    refine z_istore dX10_lag_118 rfl (Nat.le_of_ble_eq_true rfl) ?_
    rw [lagS_1 hlt] at kk
    refine z_lv [(3, .int ((s, alN (w.1.2.1 (ix a)).2 (w.1.2.1 (ix b)).2 s.toInt (w.1.2.1 (ix a)).2.length) : Int32 × Nat).1), (4, .int (nI ((s, alN (w.1.2.1 (ix a)).2 (w.1.2.1 (ix b)).2 s.toInt (w.1.2.1 (ix a)).2.length) : Int32 × Nat).2)), (5, .int (nI k)), (6, .int j), (0, .ref m), (1, .int a), (2, .int b)] ⟨rfl, rfl, rfl, rfl, rfl, rfl, rfl, trivial⟩ ?_
    exact kk
  · skip
    first | refine z_aload_n dX10_lag_80 rfl rfl ?_ | refine z_aload_nN dX10_lag_80 rfl rfl ?_
    refine z_iload_n dX10_lag_81 rfl rfl ?_
    refine z_iload_n dX10_lag_82 rfl rfl ?_
    refine z_iload dX10_lag_83 rfl rfl ?_
    refine zcx_X10_296 rfl dX10_lag_85 rfl mo_recv (q_alikeBy g h m S w.1 hR.1 a b s ha hb ha2 hb2 h1 h2) rfl rfl ⟨(Nat.le_of_ble_eq_true rfl), (Nat.le_of_ble_eq_true rfl)⟩ ⟨(Nat.le_of_ble_eq_true rfl), (Nat.le_of_ble_eq_true rfl)⟩ (Nat.le_of_ble_eq_true rfl) ?_
    refine z_istore dX10_lag_88 rfl (Nat.le_of_ble_eq_true rfl) ?_
    refine z_iload dX10_lag_90 rfl rfl ?_
    refine z_iload dX10_lag_92 rfl rfl ?_
    refine z_icmp_le (tgt := 102) dX10_lag_94 rfl (by decide) (fun c94 => ?_) (fun c94 => absurd c94 (fun z => z (nI_le (by omega) (by omega))))
    refine z_iload_n dX10_lag_102 rfl rfl ?_
    refine z_istore_n dX10_lag_103 rfl (Nat.le_of_ble_eq_true rfl) ?_
    refine z_iload dX10_lag_104 rfl rfl ?_
    refine z_iload dX10_lag_106 rfl rfl ?_
    refine z_icmp_le (tgt := 116) dX10_lag_108 rfl (by decide) (fun c108 => ?_) (fun c108 => absurd c108 (fun z => z (nI_le (by omega) (by omega))))
    refine z_iload dX10_lag_116 rfl rfl ?_
    refine z_istore dX10_lag_118 rfl (Nat.le_of_ble_eq_true rfl) ?_
    rw [lagS_0 hlt] at kk
    refine z_lv [(3, .int p.1), (4, .int (nI p.2)), (5, .int (nI k)), (6, .int j), (0, .ref m), (1, .int a), (2, .int b)] ⟨rfl, rfl, rfl, rfl, rfl, rfl, rfl, trivial⟩ ?_
    exact kk

theorem st_rf {R : sR} {r : Nat} (h : R.1 r = 2) : ¬ 0 < rowF R r := by
  unfold rowF
  rw [h]
  decide
theorem lag_ans {w : sW} {a b : Int32} (ha : isRec a) (hb : isRec b) (ha2 : w.1.1 (ix a) = 2) (hb2 : w.1.1 (ix b) = 2) {p : Int32 × Nat} (hq : lagL (w.1.2.1 (ix a)).2 (w.1.2.1 (ix b)).2 19 1 (0, alN (w.1.2.1 (ix a)).2 (w.1.2.1 (ix b)).2 0 (w.1.2.1 (ix a)).2.length) = p) {x : Int32} (hx : x = lagOf p) : pLag w a b = (x, w) := by
  unfold pLag
  rw [if_neg (fun z => z.elim (fun z => z ha) (fun z => z hb)), if_neg (st_rf ha2), if_neg (st_rf hb2), hq, hx]
theorem nI_eq0 {n : Nat} (hn : n < 2 ^ 31) : nI n = 0 ↔ n = 0 := nI_eq (b := 0) hn (by decide)

set_option maxHeartbeats 800000 in
set_option maxRecDepth 100000 in
theorem R_lag_E (g : zG) (h : zH) (m : Nat) (S : sMS) (w : sW) (hR : RepM S w) (a b : Int32) (ha : isRec a) (hb : isRec b) (ha2 : w.1.1 (ix a) = 2) (hb2 : w.1.1 (ix b) = 2) (p : Int32 × Nat) (hp : p.2 ≤ 20) (k : Nat) (hq : lagL (w.1.2.1 (ix a)).2 (w.1.2.1 (ix b)).2 19 1 (0, alN (w.1.2.1 (ix a)).2 (w.1.2.1 (ix b)).2 0 (w.1.2.1 (ix a)).2.length) = p) : zZ g YX10_lag (zE g (mPost m h (pLag w a b)) 0 0) 132 [(3, .int p.1), (4, .int (nI p.2)), (5, .int (nI k)), (0, .ref m), (1, .int a), (2, .int b)] [] (mUp m S h) 0 0 := by
  have e0 := nI_eq0 (n := p.2) (by omega)
  refine z_iload dX10_lag_132 rfl rfl ?_
  refine z_if_ne (tgt := 142) dX10_lag_134 rfl (by decide) (fun c134 => ?_) (fun c134 => ?_)
  · skip
    refine z_bipush (v := 100) dX10_lag_142 rfl (by decide) ?_
    refine z_iload_n dX10_lag_144 rfl rfl ?_
    refine z_iadd dX10_lag_145 rfl ?_
    exact z_iret dX10_lag_146 rfl rfl (mPost_of hR (lag_ans ha hb ha2 hb2 hq (by grind [lagOf]))) (Nat.le_of_ble_eq_true rfl) (Nat.le_of_ble_eq_true rfl)
  · skip
    refine z_bipush (v := -4) dX10_lag_137 rfl (by decide) ?_
    refine z_goto (tgt := 146) dX10_lag_139 rfl (by decide) ?_
    exact z_iret dX10_lag_146 rfl rfl (mPost_of hR (lag_ans ha hb ha2 hb2 hq (by grind [lagOf]))) (Nat.le_of_ble_eq_true rfl) (Nat.le_of_ble_eq_true rfl)

set_option maxHeartbeats 800000 in
set_option maxRecDepth 100000 in
theorem R_lag_L (g : zG) (h : zH) (m : Nat) (S : sMS) (w : sW) (hR : RepM S w) (a b : Int32) (ha : isRec a) (hb : isRec b) (ha2 : w.1.1 (ix a) = 2) (hb2 : w.1.1 (ix b) = 2) : ∀ (n k : Nat) (p : Int32 × Nat), k + n = 20 → 1 ≤ k → p.2 ≤ 20 → lagL (w.1.2.1 (ix a)).2 (w.1.2.1 (ix b)).2 19 1 (0, alN (w.1.2.1 (ix a)).2 (w.1.2.1 (ix b)).2 0 (w.1.2.1 (ix a)).2.length) = lagL (w.1.2.1 (ix a)).2 (w.1.2.1 (ix b)).2 n k p → zZ g YX10_lag (zE g (mPost m h (pLag w a b)) 0 0) 49 [(3, .int p.1), (4, .int (nI p.2)), (5, .int (nI k)), (0, .ref m), (1, .int a), (2, .int b)] [] (mUp m S h) 0 0 := by
  have la : (w.1.2.1 (ix a)).2.length ≤ 20 := (rep_kind hR.1 (ix_lt ha) ha2).2.2.2.2.2.1
  intro n
  induction n with
  | zero =>
    intro k p hk h1 hp he
    refine z_iload dX10_lag_49 rfl rfl ?_
    refine z_bipush (v := 20) dX10_lag_51 rfl (by decide) ?_
    refine z_icmp_ge (tgt := 132) dX10_lag_53 rfl (by decide) (fun c53 => ?_) (fun c53 => absurd c53 (fun z => z (nI_le (a := 20) (by omega) (by omega))))
    exact R_lag_E g h m S w hR a b ha hb ha2 hb2 p hp k he
  | succ n ih =>
    intro k p hk h1 hp he
    refine z_iload dX10_lag_49 rfl rfl ?_
    refine z_bipush (v := 20) dX10_lag_51 rfl (by decide) ?_
    refine z_icmp_ge (tgt := 132) dX10_lag_53 rfl (by decide) (fun c53 => absurd c53 (nI_ge (b := 20) (by omega) (by omega))) (fun c53 => ?_)
    refine z_iconst (v := 0) dX10_lag_56 rfl (by decide) ?_
    refine z_istore dX10_lag_57 rfl (Nat.le_of_ble_eq_true rfl) ?_
    refine z_iload dX10_lag_59 rfl rfl ?_
    refine z_iconst (v := 2) dX10_lag_61 rfl (by decide) ?_
    refine z_icmp_ge (tgt := 126) dX10_lag_62 rfl (by decide) (fun c62 => absurd c62 (by decide)) (fun c62 => ?_)
    refine z_iload dX10_lag_65 rfl rfl ?_
    refine z_if_ne (tgt := 76) dX10_lag_67 rfl (by decide) (fun c67 => absurd c67 (fun z => z rfl)) (fun c67 => ?_)
    refine z_iload dX10_lag_70 rfl rfl ?_
    refine z_ineg dX10_lag_72 rfl ?_
    refine z_goto (tgt := 78) dX10_lag_73 rfl (by decide) ?_
    refine z_istore dX10_lag_78 rfl (Nat.le_of_ble_eq_true rfl) ?_
    refine z_lv [(3, .int p.1), (4, .int (nI p.2)), (5, .int (nI k)), (6, .int 0), (7, .int (-nI k)), (0, .ref m), (1, .int a), (2, .int b)] ⟨rfl, rfl, rfl, rfl, rfl, rfl, rfl, rfl, trivial⟩ ?_
    refine R_lag_C g h m S w hR a b ha hb ha2 hb2 p hp k 0 (-nI k) (by rw [neg_sh (by omega)]; omega) (by rw [neg_sh (by omega)]; omega) ?_
    refine z_iinc (v := 1) dX10_lag_120 rfl rfl (by decide) (Nat.le_of_ble_eq_true rfl) ?_
    refine z_goto (tgt := 59) dX10_lag_123 rfl (by decide) ?_
    refine z_lv [(3, .int (lagS (w.1.2.1 (ix a)).2 (w.1.2.1 (ix b)).2 p (-nI k)).1), (4, .int (nI (lagS (w.1.2.1 (ix a)).2 (w.1.2.1 (ix b)).2 p (-nI k)).2)), (5, .int (nI k)), (6, .int 1), (0, .ref m), (1, .int a), (2, .int b)] ⟨rfl, rfl, rfl, rfl, rfl, rfl, rfl, trivial⟩ ?_
    refine z_iload dX10_lag_59 rfl rfl ?_
    refine z_iconst (v := 2) dX10_lag_61 rfl (by decide) ?_
    refine z_icmp_ge (tgt := 126) dX10_lag_62 rfl (by decide) (fun c62 => absurd c62 (by decide)) (fun c62 => ?_)
    refine z_iload dX10_lag_65 rfl rfl ?_
    refine z_if_ne (tgt := 76) dX10_lag_67 rfl (by decide) (fun c67 => ?_) (fun c67 => absurd c67 (by decide))
    refine z_iload dX10_lag_76 rfl rfl ?_
    refine z_istore dX10_lag_78 rfl (Nat.le_of_ble_eq_true rfl) ?_
    refine z_lv [(3, .int (lagS (w.1.2.1 (ix a)).2 (w.1.2.1 (ix b)).2 p (-nI k)).1), (4, .int (nI (lagS (w.1.2.1 (ix a)).2 (w.1.2.1 (ix b)).2 p (-nI k)).2)), (5, .int (nI k)), (6, .int 1), (7, .int (nI k)), (0, .ref m), (1, .int a), (2, .int b)] ⟨rfl, rfl, rfl, rfl, rfl, rfl, rfl, rfl, trivial⟩ ?_
    refine R_lag_C g h m S w hR a b ha hb ha2 hb2 (lagS (w.1.2.1 (ix a)).2 (w.1.2.1 (ix b)).2 p (-nI k)) (lagS_le la hp) k 1 (nI k) (by rw [nI_toInt (by omega)]; omega) (by rw [nI_toInt (by omega)]; omega) ?_
    refine z_iinc (v := 2) dX10_lag_120 rfl rfl (by decide) (Nat.le_of_ble_eq_true rfl) ?_
    refine z_goto (tgt := 59) dX10_lag_123 rfl (by decide) ?_
    refine z_lv [(3, .int (lagS (w.1.2.1 (ix a)).2 (w.1.2.1 (ix b)).2 (lagS (w.1.2.1 (ix a)).2 (w.1.2.1 (ix b)).2 p (-nI k)) (nI k)).1), (4, .int (nI (lagS (w.1.2.1 (ix a)).2 (w.1.2.1 (ix b)).2 (lagS (w.1.2.1 (ix a)).2 (w.1.2.1 (ix b)).2 p (-nI k)) (nI k)).2)), (5, .int (nI k)), (6, .int 2), (0, .ref m), (1, .int a), (2, .int b)] ⟨rfl, rfl, rfl, rfl, rfl, rfl, rfl, trivial⟩ ?_
    refine z_iload dX10_lag_59 rfl rfl ?_
    refine z_iconst (v := 2) dX10_lag_61 rfl (by decide) ?_
    refine z_icmp_ge (tgt := 126) dX10_lag_62 rfl (by decide) (fun c62 => ?_) (fun c62 => absurd c62 (by decide))
    refine z_iinc (v := nI (k + 1)) dX10_lag_126 rfl rfl (nI_inc k) (Nat.le_of_ble_eq_true rfl) ?_
    refine z_goto (tgt := 49) dX10_lag_129 rfl (by decide) ?_
    refine z_lv [(3, .int (lagS (w.1.2.1 (ix a)).2 (w.1.2.1 (ix b)).2 (lagS (w.1.2.1 (ix a)).2 (w.1.2.1 (ix b)).2 p (-nI k)) (nI k)).1), (4, .int (nI (lagS (w.1.2.1 (ix a)).2 (w.1.2.1 (ix b)).2 (lagS (w.1.2.1 (ix a)).2 (w.1.2.1 (ix b)).2 p (-nI k)) (nI k)).2)), (5, .int (nI (k + 1))), (0, .ref m), (1, .int a), (2, .int b)] ⟨rfl, rfl, rfl, rfl, rfl, rfl, trivial⟩ ?_
    exact ih (k + 1) (lagS (w.1.2.1 (ix a)).2 (w.1.2.1 (ix b)).2 (lagS (w.1.2.1 (ix a)).2 (w.1.2.1 (ix b)).2 p (-nI k)) (nI k)) (by omega) (by omega) (lagS_le la (lagS_le la hp)) (by rw [he, lagL])

set_option maxHeartbeats 800000 in
set_option maxRecDepth 100000 in
theorem R_lag (g : zG) (h : zH) (m : Nat) (S : sMS) (w : sW) (hR : RepM S w) (a b : Int32) : zM g yX10_lag cX10_lag 9 (some .int) rmX10_lag [.ref m, .int a, .int b] (mUp m S h) (mPost m h (pLag w a b)) := by
  refine zM_of (by decide) (Nat.le_of_ble_eq_true rfl) ?_
  refine z_iload_n dX10_lag_0 rfl rfl ?_
  refine zcx_X10_141 rfl dX10_lag_1 rfl (r_isRecord g _ _) rfl rfl ⟨(Nat.le_of_ble_eq_true rfl), (Nat.le_of_ble_eq_true rfl)⟩ ⟨(Nat.le_of_ble_eq_true rfl), (Nat.le_of_ble_eq_true rfl)⟩ (Nat.le_of_ble_eq_true rfl) ?_
  refine z_bif_eq (tgt := 14) dX10_lag_4 rfl (by decide) (fun c4 => ?_) (fun c4 => ?_)
  · skip
    refine z_iconst (v := -1) dX10_lag_14 rfl (by decide) ?_
    exact z_iret dX10_lag_15 rfl rfl (mPost_of hR (by grind [pLag])) (Nat.le_of_ble_eq_true rfl) (Nat.le_of_ble_eq_true rfl)
  · skip
    refine z_iload_n dX10_lag_7 rfl rfl ?_
    refine zcx_X10_141 rfl dX10_lag_8 rfl (r_isRecord g _ _) rfl rfl ⟨(Nat.le_of_ble_eq_true rfl), (Nat.le_of_ble_eq_true rfl)⟩ ⟨(Nat.le_of_ble_eq_true rfl), (Nat.le_of_ble_eq_true rfl)⟩ (Nat.le_of_ble_eq_true rfl) ?_
    refine z_bif_ne (tgt := 16) dX10_lag_11 rfl (by decide) (fun c11 => ?_) (fun c11 => ?_)
    · skip
      first | refine z_aload_n dX10_lag_16 rfl rfl ?_ | refine z_aload_nN dX10_lag_16 rfl rfl ?_
      refine z_iload_n dX10_lag_17 rfl rfl ?_
      refine z_iload_n dX10_lag_18 rfl rfl ?_
      refine zcx_X10_240 rfl dX10_lag_19 rfl mo_recv (q_rowsFault g h m S w.1 hR.1 _ _ c4 c11) rfl rfl ⟨(Nat.le_of_ble_eq_true rfl), (Nat.le_of_ble_eq_true rfl)⟩ ⟨(Nat.le_of_ble_eq_true rfl), (Nat.le_of_ble_eq_true rfl)⟩ (Nat.le_of_ble_eq_true rfl) ?_
      refine z_if_le (tgt := 35) dX10_lag_22 rfl (by decide) (fun c22 => ?_) (fun c22 => ?_)
      · skip
        have hfa : ¬ 0 < rowF w.1 (ix a) := by grind
        have hfb : ¬ 0 < rowF w.1 (ix b) := by grind
        have ha2 := rf_2 (rep_st hR.1 (ix_lt c4)) hfa
        have hb2 := rf_2 (rep_st hR.1 (ix_lt c11)) hfb
        have la : (w.1.2.1 (ix a)).2.length ≤ 20 := (rep_kind hR.1 (ix_lt c4) ha2).2.2.2.2.2.1
        refine z_iconst (v := 0) dX10_lag_35 rfl (by decide) ?_
        refine z_istore_n dX10_lag_36 rfl (Nat.le_of_ble_eq_true rfl) ?_
        first | refine z_aload_n dX10_lag_37 rfl rfl ?_ | refine z_aload_nN dX10_lag_37 rfl rfl ?_
        refine z_iload_n dX10_lag_38 rfl rfl ?_
        refine z_iload_n dX10_lag_39 rfl rfl ?_
        refine z_iconst (v := 0) dX10_lag_40 rfl (by decide) ?_
        refine zcx_X10_296 rfl dX10_lag_41 rfl mo_recv (q_alikeBy g h m S w.1 hR.1 a b 0 c4 c11 ha2 hb2 (by decide) (by decide)) rfl rfl ⟨(Nat.le_of_ble_eq_true rfl), (Nat.le_of_ble_eq_true rfl)⟩ ⟨(Nat.le_of_ble_eq_true rfl), (Nat.le_of_ble_eq_true rfl)⟩ (Nat.le_of_ble_eq_true rfl) ?_
        refine z_istore dX10_lag_44 rfl (Nat.le_of_ble_eq_true rfl) ?_
        refine z_iconst (v := 1) dX10_lag_46 rfl (by decide) ?_
        refine z_istore dX10_lag_47 rfl (Nat.le_of_ble_eq_true rfl) ?_
        refine z_lv [(3, .int ((0, alN (w.1.2.1 (ix a)).2 (w.1.2.1 (ix b)).2 0 (w.1.2.1 (ix a)).2.length) : Int32 × Nat).1), (4, .int (nI ((0, alN (w.1.2.1 (ix a)).2 (w.1.2.1 (ix b)).2 0 (w.1.2.1 (ix a)).2.length) : Int32 × Nat).2)), (5, .int (nI 1)), (0, .ref m), (1, .int a), (2, .int b)] ⟨rfl, rfl, rfl, rfl, rfl, rfl, trivial⟩ ?_
        exact R_lag_L g h m S w hR a b c4 c11 ha2 hb2 19 1 (0, alN (w.1.2.1 (ix a)).2 (w.1.2.1 (ix b)).2 0 (w.1.2.1 (ix a)).2.length) rfl (Nat.le_refl _) (Nat.le_trans (alN_le _ _ _ _) la) rfl
      · skip
        refine z_bipush (v := -10) dX10_lag_25 rfl (by decide) ?_
        first | refine z_aload_n dX10_lag_27 rfl rfl ?_ | refine z_aload_nN dX10_lag_27 rfl rfl ?_
        refine z_iload_n dX10_lag_28 rfl rfl ?_
        refine z_iload_n dX10_lag_29 rfl rfl ?_
        refine zcx_X10_240 rfl dX10_lag_30 rfl mo_recv (q_rowsFault g h m S w.1 hR.1 _ _ c4 c11) rfl rfl ⟨(Nat.le_of_ble_eq_true rfl), (Nat.le_of_ble_eq_true rfl)⟩ ⟨(Nat.le_of_ble_eq_true rfl), (Nat.le_of_ble_eq_true rfl)⟩ (Nat.le_of_ble_eq_true rfl) ?_
        refine z_isub dX10_lag_33 rfl ?_
        exact z_iret dX10_lag_34 rfl rfl (mPost_of hR (by grind [pLag])) (Nat.le_of_ble_eq_true rfl) (Nat.le_of_ble_eq_true rfl)
    · skip
      refine z_iconst (v := -1) dX10_lag_14 rfl (by decide) ?_
      exact z_iret dX10_lag_15 rfl rfl (mPost_of hR (by grind [pLag])) (Nat.le_of_ble_eq_true rfl) (Nat.le_of_ble_eq_true rfl)

