theorem in_len {i : Int32} {n : Nat} (hn : n ≤ 40) : (0 ≤ i ∧ i ≤ nI n - 1) ↔ (0 ≤ i.toInt ∧ i.toInt < n) := by
  rw [Int32.le_iff_toInt_le, Int32.le_iff_toInt_le, show (0 : Int32).toInt = 0 from rfl]
  have e : (nI n - 1).toInt = (n : Int) - 1 := by
    rw [Int32.toInt_sub, nI_toInt (by omega), show (1 : Int32).toInt = 1 from rfl]
    exact Int.bmod_eq_of_le (by omega) (by omega)
  rw [e]
  omega
theorem ix_eq {i : Int32} {n : Nat} (h0 : 0 ≤ i.toInt) (h1 : i.toInt < n) : nI (ix i) = i ∧ ix i < n := by
  have h : 0 ≤ i := by rw [Int32.le_iff_toInt_le]; exact h0
  refine ⟨nI_ix h, ?_⟩
  have : (i.toNatClampNeg : Int) = i.toInt := by
    show ((i.toInt.toNat : Nat) : Int) = _
    omega
  show i.toNatClampNeg < n
  omega
theorem rc_a {h : zH} {col : Nat → Nat} {cc oc p : Nat} {R : sR} {F : Nat → Option Nat} {Z : Nat → Int32} (hA : rcAt h col cc oc p R F Z) {r a : Nat} (hr : r < 8) (hF : F r = some a) : R.1 r = 2 ∧ Z r = 0 ∧ cIs h a (R.2.1 r) ∧ ∀ q, a ≤ q → q < a + 4 → col q = cc := by
  rcases hA.2.2.1 r hr with z | z | ⟨z1, z2, b, z3, z4, z5⟩
  · rw [hF] at z; exact absurd z.2.1 (by simp)
  · rw [hF] at z; exact absurd z.2.1 (by simp)
  · rw [hF] at z3; obtain rfl := Option.some.inj z3; exact ⟨z1, z2, z4, z5⟩
theorem rc_n {h : zH} {col : Nat → Nat} {cc oc p : Nat} {R : sR} {F : Nat → Option Nat} {Z : Nat → Int32} (hA : rcAt h col cc oc p R F Z) {r : Nat} (hr : r < 8) (hF : F r = none) : (R.1 r = 0 ∧ Z r = 0) ∨ (R.1 r = 1 ∧ Z r = 1) := by
  rcases hA.2.2.1 r hr with z | z | ⟨z1, z2, b, z3, z4, z5⟩
  · exact Or.inl ⟨z.1, z.2.2⟩
  · exact Or.inr ⟨z.1, z.2.2⟩
  · rw [hF] at z3; cases z3
theorem rc_Z {h : zH} {col : Nat → Nat} {cc oc p : Nat} {R : sR} {F : Nat → Option Nat} {Z : Nat → Int32} (hA : rcAt h col cc oc p R F Z) {r : Nat} (hr : r < 8) : Z r = 0 ∨ Z r = 1 := by
  rcases hA.2.2.1 r hr with z | z | ⟨z1, z2, -⟩
  · exact Or.inl z.2.2
  · exact Or.inr z.2.2
  · exact Or.inl z2
theorem rf_n {h : zH} {col : Nat → Nat} {cc oc p : Nat} {R : sR} {F : Nat → Option Nat} {Z : Nat → Int32} (hA : rcAt h col cc oc p R F Z) {r : Nat} (hr : r < 8) (hF : F r = none) : (if Z r = 0 then (1 : Int32) else 2) = rowF R r := by
  unfold rowF
  rcases rc_n hA hr hF with z | z
  · rw [z.1, z.2]; rfl
  · rw [z.1, z.2]; rfl
theorem rf_a {h : zH} {col : Nat → Nat} {cc oc p : Nat} {R : sR} {F : Nat → Option Nat} {Z : Nat → Int32} (hA : rcAt h col cc oc p R F Z) {r a : Nat} (hr : r < 8) (hF : F r = some a) : rowF R r = 0 := by
  unfold rowF
  rw [(rc_a hA hr hF).1]; rfl
theorem m_faultI (g : zG) (h : zH) (p : Nat) (F : Nat → Option Nat) (Z : Nat → Int32) (hP : rAt h p F Z) (r : Int32) (hr : isRec r) : zX g yX8_faultWithoutArray cX8_faultWithoutArray 2 (some .int) rmX8_faultWithoutArray [.ref p, .int r] h (.int (if Z (ix r) = 0 then 1 else 2)) h := by
  have := m_faultW g h p F Z hP (ix r) (ix_lt hr)
  rwa [nI_ix hr.1] at this

set_option maxHeartbeats 800000 in
set_option maxRecDepth 100000 in
theorem m_cellFault (g : zG) (h : zH) (x m : Nat) (w : sW) (col : Nat → Nat) (p : Nat) (F : Nat → Option Nat) (Z : Nat → Int32) (k : Option Nat) (I P : Nat → Option Nat) (q : Nat → Int32) (T : alT) (V : Nat → sC) (hR : RC h x m w col p F Z k I P q T V) (r i : Int32) (hr1 : isRec r) : zX g yX9_cellFault cX9_cellFault 4 (some .int) rmX9_cellFault [.ref x, .int r, .int i] h (.int (cellF w.1 (ix r) i.toInt)) h := by
  refine zM_of (by decide) (Nat.le_of_ble_eq_true rfl) ?_
  obtain ⟨hw, hz, hS, hq, hr, hX⟩ := id hR
  obtain ⟨S0, S1, S2, S3, S4, S5⟩ := id hS
  obtain ⟨R0, R1, R2, R3⟩ := id hr
  rcases hF : F (ix r) with _ | a
  · have hrf := rf_n hr (ix_lt hr1) hF
    have hpos : 0 < rowF w.1 (ix r) := by rw [← hrf]; split <;> decide
    first | refine z_aload_n dX9_cellFault_0 rfl rfl ?_ | refine z_aload_nN dX9_cellFault_0 rfl rfl ?_
    refine zg_X9_10 rfl dX9_cellFault_1 rfl S0 rfl ?_
    refine zg_X9_69 rfl dX9_cellFault_4 rfl R0.1 rfl ?_
    refine z_iload_n dX9_cellFault_7 rfl rfl ?_
    refine z_aaldn dX9_cellFault_8 rfl R0.2.1 rfl rfl (rec_in hr1) hF ?_
    first | refine z_astore_n dX9_cellFault_9 rfl (Nat.le_of_ble_eq_true rfl) ?_ | refine z_astore_nN dX9_cellFault_9 rfl (Nat.le_of_ble_eq_true rfl) ?_
    first | refine z_aload_n dX9_cellFault_10 rfl rfl ?_ | refine z_aload_nN dX9_cellFault_10 rfl rfl ?_
    refine z_ifnonnullN dX9_cellFault_11 rfl ?_
    first | refine z_aload_n dX9_cellFault_14 rfl rfl ?_ | refine z_aload_nN dX9_cellFault_14 rfl rfl ?_
    refine zg_X9_10 rfl dX9_cellFault_15 rfl S0 rfl ?_
    refine z_iload_n dX9_cellFault_18 rfl rfl ?_
    refine zcx_X9_85 rfl dX9_cellFault_19 rfl R0.1 (m_faultI g h p F Z R0 _ hr1) rfl rfl ⟨(Nat.le_of_ble_eq_true rfl), (Nat.le_of_ble_eq_true rfl)⟩ ⟨(Nat.le_of_ble_eq_true rfl), (Nat.le_of_ble_eq_true rfl)⟩ (Nat.le_of_ble_eq_true rfl) ?_
    exact z_iret dX9_cellFault_22 rfl rfl ⟨by rw [hrf, cellF, if_pos hpos], rfl⟩ (Nat.le_of_ble_eq_true rfl) (Nat.le_of_ble_eq_true rfl)
  · obtain ⟨h2, hZ, ⟨ho, c, hc, hcl⟩, hcol⟩ := rc_a hr (ix_lt hr1) hF
    have hrf := rf_a hr (ix_lt hr1) hF
    have hl : (w.1.2.1 (ix r)).2.length ≤ 20 := ho.2.2.1
    first | refine z_aload_n dX9_cellFault_0 rfl rfl ?_ | refine z_aload_nN dX9_cellFault_0 rfl rfl ?_
    refine zg_X9_10 rfl dX9_cellFault_1 rfl S0 rfl ?_
    refine zg_X9_69 rfl dX9_cellFault_4 rfl R0.1 rfl ?_
    refine z_iload_n dX9_cellFault_7 rfl rfl ?_
    refine z_aalds dX9_cellFault_8 rfl R0.2.1 rfl rfl (rec_in hr1) hF ?_
    first | refine z_astore_n dX9_cellFault_9 rfl (Nat.le_of_ble_eq_true rfl) ?_ | refine z_astore_nN dX9_cellFault_9 rfl (Nat.le_of_ble_eq_true rfl) ?_
    first | refine z_aload_n dX9_cellFault_10 rfl rfl ?_ | refine z_aload_nN dX9_cellFault_10 rfl rfl ?_
    refine z_ifnonnull (tgt := 23) dX9_cellFault_11 rfl (by decide) ?_
    refine z_iload_n dX9_cellFault_23 rfl rfl ?_
    refine z_iconst (v := 0) dX9_cellFault_24 rfl (by decide) ?_
    first | refine z_aload_n dX9_cellFault_25 rfl rfl ?_ | refine z_aload_nN dX9_cellFault_25 rfl rfl ?_
    refine zg_X9_88 rfl dX9_cellFault_26 rfl hc.1 rfl ?_
    refine z_iconst (v := 1) dX9_cellFault_29 rfl (by decide) ?_
    refine z_isub dX9_cellFault_30 rfl ?_
    refine zcx_X9_50 rfl dX9_cellFault_31 rfl (m_isWithin g h _ _ _) rfl rfl ⟨(Nat.le_of_ble_eq_true rfl), (Nat.le_of_ble_eq_true rfl)⟩ ⟨(Nat.le_of_ble_eq_true rfl), (Nat.le_of_ble_eq_true rfl)⟩ (Nat.le_of_ble_eq_true rfl) ?_
    refine z_bif_eq (tgt := 41) dX9_cellFault_34 rfl (by decide) (fun c34 => ?_) (fun c34 => ?_)
    · skip
      refine z_iconst (v := 3) dX9_cellFault_41 rfl (by decide) ?_
      exact z_iret dX9_cellFault_42 rfl rfl ⟨by have z := in_len (i := i) (n := (w.1.2.1 (ix r)).2.length) (by omega); rw [cellF, hrf, if_neg (by decide)]; grind, rfl⟩ (Nat.le_of_ble_eq_true rfl) (Nat.le_of_ble_eq_true rfl)
    · skip
      refine z_iconst (v := 0) dX9_cellFault_37 rfl (by decide) ?_
      refine z_goto (tgt := 42) dX9_cellFault_38 rfl (by decide) ?_
      exact z_iret dX9_cellFault_42 rfl rfl ⟨by have z := in_len (i := i) (n := (w.1.2.1 (ix r)).2.length) (by omega); rw [cellF, hrf, if_neg (by decide)]; grind, rfl⟩ (Nat.le_of_ble_eq_true rfl) (Nat.le_of_ble_eq_true rfl)

set_option maxHeartbeats 4000000 in
set_option maxRecDepth 100000 in
/-- X9_readFault -/
theorem m_readFault (g : zG) (h : zH) (a : Nat) (k : Int32) (n : Nat) (c : Nat → sC) (hA : cAt h a k n c) (hk : 0 ≤ k ∧ k ≤ 10) (kind : Int32) (hkd : 0 ≤ kind ∧ kind ≤ 10) : zX g yX9_readFault cX9_readFault 2 (some .int) rmX9_readFault [.ref a, .int kind] h (.int (if 7 < k then 4 else if sInto k kind = true then 0 else 5)) h := by
  refine zM_of (by decide) (Nat.le_of_ble_eq_true rfl) ?_
  first | refine z_aload_n dX9_readFault_0 rfl rfl ?_ | refine z_aload_nN dX9_readFault_0 rfl rfl ?_
  refine zg_X9_77 rfl dX9_readFault_1 rfl hA.1 rfl ?_
  refine z_bipush (v := 7) dX9_readFault_4 rfl (by decide) ?_
  refine z_icmp_le (tgt := 11) dX9_readFault_6 rfl (by decide) (fun c6 => ?_) (fun c6 => ?_)
  · skip
    first | refine z_aload_n dX9_readFault_11 rfl rfl ?_ | refine z_aload_nN dX9_readFault_11 rfl rfl ?_
    refine zg_X9_77 rfl dX9_readFault_12 rfl hA.1 rfl ?_
    refine z_iload_n dX9_readFault_15 rfl rfl ?_
    refine zcx_X9_204 rfl dX9_readFault_16 rfl (m_fits g h _ _ hk hkd) rfl rfl ⟨(Nat.le_of_ble_eq_true rfl), (Nat.le_of_ble_eq_true rfl)⟩ ⟨(Nat.le_of_ble_eq_true rfl), (Nat.le_of_ble_eq_true rfl)⟩ (Nat.le_of_ble_eq_true rfl) ?_
    refine z_bif_eq (tgt := 26) dX9_readFault_19 rfl (by decide) (fun c19 => ?_) (fun c19 => ?_)
    · skip
      refine z_iconst (v := 5) dX9_readFault_26 rfl (by decide) ?_
      exact z_iret dX9_readFault_27 rfl rfl ⟨by grind, rfl⟩ (Nat.le_of_ble_eq_true rfl) (Nat.le_of_ble_eq_true rfl)
    · skip
      refine z_iconst (v := 0) dX9_readFault_22 rfl (by decide) ?_
      refine z_goto (tgt := 27) dX9_readFault_23 rfl (by decide) ?_
      exact z_iret dX9_readFault_27 rfl rfl ⟨by grind, rfl⟩ (Nat.le_of_ble_eq_true rfl) (Nat.le_of_ble_eq_true rfl)
  · skip
    refine z_iconst (v := 4) dX9_readFault_9 rfl (by decide) ?_
    exact z_iret dX9_readFault_10 rfl rfl ⟨by grind, rfl⟩ (Nat.le_of_ble_eq_true rfl) (Nat.le_of_ble_eq_true rfl)

set_option maxHeartbeats 4000000 in
set_option maxRecDepth 100000 in
/-- X9_isPatch -/
theorem m_isPatch (g : zG) (h : zH) (r : Int32) : zX g yX9_isPatch cX9_isPatch 1 (some .boolean) rmX9_isPatch [.int r] h (.int (if 0 ≤ r ∧ r ≤ 3 then 1 else 0)) h := by
  refine zM_of (by decide) (Nat.le_of_ble_eq_true rfl) ?_
  refine z_iload_n dX9_isPatch_0 rfl rfl ?_
  refine z_iconst (v := 0) dX9_isPatch_1 rfl (by decide) ?_
  refine z_iconst (v := 3) dX9_isPatch_2 rfl (by decide) ?_
  refine zcx_X9_50 rfl dX9_isPatch_3 rfl (m_isWithin g h _ _ _) rfl rfl ⟨(Nat.le_of_ble_eq_true rfl), (Nat.le_of_ble_eq_true rfl)⟩ ⟨(Nat.le_of_ble_eq_true rfl), (Nat.le_of_ble_eq_true rfl)⟩ (Nat.le_of_ble_eq_true rfl) ?_
  exact z_zret dX9_isPatch_6 rfl rfl (z_nb _) ⟨rfl, rfl⟩ (Nat.le_of_ble_eq_true rfl) (Nat.le_of_ble_eq_true rfl)

set_option maxHeartbeats 800000 in
set_option maxRecDepth 100000 in
theorem C_size (g : zG) (h : zH) (x m : Nat) (w : sW) (hRC : RepC h x m w) (r : Int32) : zM g yX9_size cX9_size 3 (some .int) rmX9_size [.ref x, .int r] h (cPost x m h (pSize w r)) := by
  refine zM_of (by decide) (Nat.le_of_ble_eq_true rfl) ?_
  obtain ⟨col, p, F, Z, k, I, P, q, T, V, hR⟩ := id hRC
  obtain ⟨hw, hz, hS, hq, hr, hX⟩ := id hR
  obtain ⟨S0, S1, S2, S3, S4, S5⟩ := id hS
  obtain ⟨R0, R1, R2, R3⟩ := id hr
  refine z_iload_n dX9_size_0 rfl rfl ?_
  refine zcx_X9_46 rfl dX9_size_1 rfl (m_isRecord g h _) rfl rfl ⟨(Nat.le_of_ble_eq_true rfl), (Nat.le_of_ble_eq_true rfl)⟩ ⟨(Nat.le_of_ble_eq_true rfl), (Nat.le_of_ble_eq_true rfl)⟩ (Nat.le_of_ble_eq_true rfl) ?_
  refine z_bif_ne (tgt := 9) dX9_size_4 rfl (by decide) (fun c4 => ?_) (fun c4 => ?_)
  · skip
    rcases hF : F (ix r) with _ | a
    · have hrf := rf_n hr (ix_lt c4) hF
      have hrn := rc_n hr (ix_lt c4) hF
      have hpos : 0 < rowF w.1 (ix r) := by rw [← hrf]; split <;> decide
      first | refine z_aload_n dX9_size_9 rfl rfl ?_ | refine z_aload_nN dX9_size_9 rfl rfl ?_
      refine zg_X9_10 rfl dX9_size_10 rfl S0 rfl ?_
      refine zg_X9_69 rfl dX9_size_13 rfl R0.1 rfl ?_
      refine z_iload_n dX9_size_16 rfl rfl ?_
      refine z_aaldn dX9_size_17 rfl R0.2.1 rfl rfl (rec_in c4) hF ?_
      first | refine z_astore_n dX9_size_18 rfl (Nat.le_of_ble_eq_true rfl) ?_ | refine z_astore_nN dX9_size_18 rfl (Nat.le_of_ble_eq_true rfl) ?_
      first | refine z_aload_n dX9_size_19 rfl rfl ?_ | refine z_aload_nN dX9_size_19 rfl rfl ?_
      refine z_ifnonnullN dX9_size_20 rfl ?_
      first | refine z_aload_n dX9_size_23 rfl rfl ?_ | refine z_aload_nN dX9_size_23 rfl rfl ?_
      refine zg_X9_10 rfl dX9_size_24 rfl S0 rfl ?_
      refine z_iload_n dX9_size_27 rfl rfl ?_
      refine zcx_X9_85 rfl dX9_size_28 rfl R0.1 (m_faultI g h p F Z R0 _ c4) rfl rfl ⟨(Nat.le_of_ble_eq_true rfl), (Nat.le_of_ble_eq_true rfl)⟩ ⟨(Nat.le_of_ble_eq_true rfl), (Nat.le_of_ble_eq_true rfl)⟩ (Nat.le_of_ble_eq_true rfl) ?_
      refine zcx_X9_62 rfl dX9_size_31 rfl (m_answer g h _) rfl rfl ⟨(Nat.le_of_ble_eq_true rfl), (Nat.le_of_ble_eq_true rfl)⟩ ⟨(Nat.le_of_ble_eq_true rfl), (Nat.le_of_ble_eq_true rfl)⟩ (Nat.le_of_ble_eq_true rfl) ?_
      refine z_goto (tgt := 41) dX9_size_34 rfl (by decide) ?_
      exact z_iret dX9_size_41 rfl rfl (cPost_same hRC (by rw [pSize, if_neg (fun z => z c4), if_pos hpos, hrf])) (Nat.le_of_ble_eq_true rfl) (Nat.le_of_ble_eq_true rfl)
    · obtain ⟨h2, hZ, ⟨ho, c, hc, hcl⟩, hcol⟩ := rc_a hr (ix_lt c4) hF
      have hrf := rf_a hr (ix_lt c4) hF
      have hl : (w.1.2.1 (ix r)).2.length ≤ 20 := ho.2.2.1
      first | refine z_aload_n dX9_size_9 rfl rfl ?_ | refine z_aload_nN dX9_size_9 rfl rfl ?_
      refine zg_X9_10 rfl dX9_size_10 rfl S0 rfl ?_
      refine zg_X9_69 rfl dX9_size_13 rfl R0.1 rfl ?_
      refine z_iload_n dX9_size_16 rfl rfl ?_
      refine z_aalds dX9_size_17 rfl R0.2.1 rfl rfl (rec_in c4) hF ?_
      first | refine z_astore_n dX9_size_18 rfl (Nat.le_of_ble_eq_true rfl) ?_ | refine z_astore_nN dX9_size_18 rfl (Nat.le_of_ble_eq_true rfl) ?_
      first | refine z_aload_n dX9_size_19 rfl rfl ?_ | refine z_aload_nN dX9_size_19 rfl rfl ?_
      refine z_ifnonnull (tgt := 37) dX9_size_20 rfl (by decide) ?_
      first | refine z_aload_n dX9_size_37 rfl rfl ?_ | refine z_aload_nN dX9_size_37 rfl rfl ?_
      refine zg_X9_88 rfl dX9_size_38 rfl hc.1 rfl ?_
      exact z_iret dX9_size_41 rfl rfl (cPost_same hRC (by rw [pSize, if_neg (fun z => z c4), hrf, if_neg (by decide)])) (Nat.le_of_ble_eq_true rfl) (Nat.le_of_ble_eq_true rfl)
  · skip
    refine z_iconst (v := -1) dX9_size_7 rfl (by decide) ?_
    exact z_iret dX9_size_8 rfl rfl (cPost_same hRC (by grind [pSize])) (Nat.le_of_ble_eq_true rfl) (Nat.le_of_ble_eq_true rfl)

theorem lh_rl {h : zH} {col : Nat → Nat} {cc oc p : Nat} {R : sR} {F : Nat → Option Nat} {Z : Nat → Int32} (hA : rcAt h col cc oc p R F Z) {r a : Nat} (hr : r < 8) (hF : F r = some a) : lhF F a 7 0 = rLeast R r 8 0 := by
  have h2 := (rc_a hA hr hF).1
  have key : ∀ q, q < 8 → (F q = some a ↔ (R.1 q = 2 ∧ R.2.2 q r = true)) := fun q hq => by
    constructor
    · intro z
      have z2 := (rc_a hA hq z).1
      exact ⟨z2, (hA.2.2.2 q r hq hr z2 h2).mpr (by rw [z, hF])⟩
    · rintro ⟨z1, z2⟩
      rw [(hA.2.2.2 q r hq hr z1 h2).mp z2]; exact hF
  have gen : ∀ n i, i + n = 7 → i ≤ r → lhF F a n i = rLeast R r (n + 1) i := by
    intro n
    induction n with
    | zero =>
      intro i hi hir
      have e : i = r := by omega
      subst e
      unfold rLeast
      rw [if_pos ((key i hr).mp hF)]
      rfl
    | succ n ih =>
      intro i hi hir
      rw [lhF, rLeast]
      by_cases e : F i = some a
      · rw [if_pos e, if_pos ((key i (by omega)).mp e)]
      · have hne : i ≠ r := fun z => e (by rw [z]; exact hF)
        rw [if_neg e, if_neg (fun z => e ((key i (by omega)).mpr z)), ih (i + 1) (by omega) (by omega)]
  exact gen 7 0 rfl (by omega)

set_option maxHeartbeats 800000 in
set_option maxRecDepth 100000 in
theorem C_kind (g : zG) (h : zH) (x m : Nat) (w : sW) (hRC : RepC h x m w) (r what : Int32) : zM g yX9_kind cX9_kind 4 (some .int) rmX9_kind [.ref x, .int r, .int what] h (cPost x m h (pKind w r what)) := by
  refine zM_of (by decide) (Nat.le_of_ble_eq_true rfl) ?_
  obtain ⟨col, p, F, Z, k, I, P, q, T, V, hR⟩ := id hRC
  obtain ⟨hw, hz, hS, hq, hr, hX⟩ := id hR
  obtain ⟨S0, S1, S2, S3, S4, S5⟩ := id hS
  obtain ⟨R0, R1, R2, R3⟩ := id hr
  refine z_iload_n dX9_kind_0 rfl rfl ?_
  refine zcx_X9_46 rfl dX9_kind_1 rfl (m_isRecord g h _) rfl rfl ⟨(Nat.le_of_ble_eq_true rfl), (Nat.le_of_ble_eq_true rfl)⟩ ⟨(Nat.le_of_ble_eq_true rfl), (Nat.le_of_ble_eq_true rfl)⟩ (Nat.le_of_ble_eq_true rfl) ?_
  refine z_bif_eq (tgt := 16) dX9_kind_4 rfl (by decide) (fun c4 => ?_) (fun c4 => ?_)
  · skip
    refine z_iconst (v := -1) dX9_kind_16 rfl (by decide) ?_
    exact z_iret dX9_kind_17 rfl rfl (cPost_same hRC (by grind [pKind])) (Nat.le_of_ble_eq_true rfl) (Nat.le_of_ble_eq_true rfl)
  · skip
    refine z_iload_n dX9_kind_7 rfl rfl ?_
    refine z_iconst (v := 0) dX9_kind_8 rfl (by decide) ?_
    refine z_iconst (v := 1) dX9_kind_9 rfl (by decide) ?_
    refine zcx_X9_50 rfl dX9_kind_10 rfl (m_isWithin g h _ _ _) rfl rfl ⟨(Nat.le_of_ble_eq_true rfl), (Nat.le_of_ble_eq_true rfl)⟩ ⟨(Nat.le_of_ble_eq_true rfl), (Nat.le_of_ble_eq_true rfl)⟩ (Nat.le_of_ble_eq_true rfl) ?_
    refine z_bif_ne (tgt := 18) dX9_kind_13 rfl (by decide) (fun c13 => ?_) (fun c13 => ?_)
    · skip
      rcases hF : F (ix r) with _ | a
      · have hrf := rf_n hr (ix_lt c4) hF
        have hrn := rc_n hr (ix_lt c4) hF
        first | refine z_aload_n dX9_kind_18 rfl rfl ?_ | refine z_aload_nN dX9_kind_18 rfl rfl ?_
        refine zg_X9_10 rfl dX9_kind_19 rfl S0 rfl ?_
        refine zg_X9_69 rfl dX9_kind_22 rfl R0.1 rfl ?_
        refine z_iload_n dX9_kind_25 rfl rfl ?_
        refine z_aaldn dX9_kind_26 rfl R0.2.1 rfl rfl (rec_in c4) hF ?_
        first | refine z_astore_n dX9_kind_27 rfl (Nat.le_of_ble_eq_true rfl) ?_ | refine z_astore_nN dX9_kind_27 rfl (Nat.le_of_ble_eq_true rfl) ?_
        refine z_iload_n dX9_kind_28 rfl rfl ?_
        refine z_iconst (v := 1) dX9_kind_29 rfl (by decide) ?_
        refine z_icmp_ne (tgt := 51) dX9_kind_30 rfl (by decide) (fun c30 => ?_) (fun c30 => ?_)
        · skip
          first | refine z_aload_n dX9_kind_51 rfl rfl ?_ | refine z_aload_nN dX9_kind_51 rfl rfl ?_
          refine z_ifnullN (tgt := 60) dX9_kind_52 rfl (by decide) ?_
          first | refine z_aload_n dX9_kind_60 rfl rfl ?_ | refine z_aload_nN dX9_kind_60 rfl rfl ?_
          refine zg_X9_10 rfl dX9_kind_61 rfl S0 rfl ?_
          refine zg_X9_81 rfl dX9_kind_64 rfl R0.1 rfl ?_
          refine z_iload_n dX9_kind_67 rfl rfl ?_
          refine z_zald dX9_kind_68 rfl R0.2.2 (rec_in c4) ?_
          refine z_if_eq (tgt := 77) dX9_kind_69 rfl (by decide) (fun c69 => ?_) (fun c69 => ?_)
          · skip
            refine z_bipush (v := 12) dX9_kind_77 rfl (by decide) ?_
            exact z_iret dX9_kind_79 rfl rfl (cPost_same hRC (by rcases hrn with z | z <;> grind [pKind])) (Nat.le_of_ble_eq_true rfl) (Nat.le_of_ble_eq_true rfl)
          · skip
            refine z_bipush (v := 11) dX9_kind_72 rfl (by decide) ?_
            refine z_goto (tgt := 79) dX9_kind_74 rfl (by decide) ?_
            exact z_iret dX9_kind_79 rfl rfl (cPost_same hRC (by rcases hrn with z | z <;> grind [pKind])) (Nat.le_of_ble_eq_true rfl) (Nat.le_of_ble_eq_true rfl)
        · skip
          first | refine z_aload_n dX9_kind_33 rfl rfl ?_ | refine z_aload_nN dX9_kind_33 rfl rfl ?_
          refine z_ifnonnullN dX9_kind_34 rfl ?_
          refine z_bipush (v := -4) dX9_kind_37 rfl (by decide) ?_
          refine z_goto (tgt := 50) dX9_kind_39 rfl (by decide) ?_
          exact z_iret dX9_kind_50 rfl rfl (cPost_same hRC (by rcases hrn with z | z <;> grind [pKind])) (Nat.le_of_ble_eq_true rfl) (Nat.le_of_ble_eq_true rfl)
      · obtain ⟨h2, hZ, ⟨ho, c, hc, hcl⟩, hcol⟩ := rc_a hr (ix_lt c4) hF
        have hrf := rf_a hr (ix_lt c4) hF
        have hl : (w.1.2.1 (ix r)).2.length ≤ 20 := ho.2.2.1
        first | refine z_aload_n dX9_kind_18 rfl rfl ?_ | refine z_aload_nN dX9_kind_18 rfl rfl ?_
        refine zg_X9_10 rfl dX9_kind_19 rfl S0 rfl ?_
        refine zg_X9_69 rfl dX9_kind_22 rfl R0.1 rfl ?_
        refine z_iload_n dX9_kind_25 rfl rfl ?_
        refine z_aalds dX9_kind_26 rfl R0.2.1 rfl rfl (rec_in c4) hF ?_
        first | refine z_astore_n dX9_kind_27 rfl (Nat.le_of_ble_eq_true rfl) ?_ | refine z_astore_nN dX9_kind_27 rfl (Nat.le_of_ble_eq_true rfl) ?_
        refine z_iload_n dX9_kind_28 rfl rfl ?_
        refine z_iconst (v := 1) dX9_kind_29 rfl (by decide) ?_
        refine z_icmp_ne (tgt := 51) dX9_kind_30 rfl (by decide) (fun c30 => ?_) (fun c30 => ?_)
        · skip
          first | refine z_aload_n dX9_kind_51 rfl rfl ?_ | refine z_aload_nN dX9_kind_51 rfl rfl ?_
          refine z_ifnull dX9_kind_52 rfl ?_
          first | refine z_aload_n dX9_kind_55 rfl rfl ?_ | refine z_aload_nN dX9_kind_55 rfl rfl ?_
          refine zg_X9_77 rfl dX9_kind_56 rfl hc.1 rfl ?_
          exact z_iret dX9_kind_59 rfl rfl (cPost_same hRC (by have z := lh_rl hr (ix_lt c4) hF; grind [pKind])) (Nat.le_of_ble_eq_true rfl) (Nat.le_of_ble_eq_true rfl)
        · skip
          first | refine z_aload_n dX9_kind_33 rfl rfl ?_ | refine z_aload_nN dX9_kind_33 rfl rfl ?_
          refine z_ifnonnull (tgt := 42) dX9_kind_34 rfl (by decide) ?_
          first | refine z_aload_n dX9_kind_42 rfl rfl ?_ | refine z_aload_nN dX9_kind_42 rfl rfl ?_
          refine zg_X9_10 rfl dX9_kind_43 rfl S0 rfl ?_
          first | refine z_aload_n dX9_kind_46 rfl rfl ?_ | refine z_aload_nN dX9_kind_46 rfl rfl ?_
          refine zcx_X9_73 rfl dX9_kind_47 rfl R0.1 (m_leastHolder g h p F Z R0 a) rfl rfl ⟨(Nat.le_of_ble_eq_true rfl), (Nat.le_of_ble_eq_true rfl)⟩ ⟨(Nat.le_of_ble_eq_true rfl), (Nat.le_of_ble_eq_true rfl)⟩ (Nat.le_of_ble_eq_true rfl) ?_
          exact z_iret dX9_kind_50 rfl rfl (cPost_same hRC (by have z := lh_rl hr (ix_lt c4) hF; grind [pKind])) (Nat.le_of_ble_eq_true rfl) (Nat.le_of_ble_eq_true rfl)
    · skip
      refine z_iconst (v := -1) dX9_kind_16 rfl (by decide) ?_
      exact z_iret dX9_kind_17 rfl rfl (cPost_same hRC (by grind [pKind])) (Nat.le_of_ble_eq_true rfl) (Nat.le_of_ble_eq_true rfl)

set_option maxHeartbeats 800000 in
set_option maxRecDepth 100000 in
theorem C_got (g : zG) (h : zH) (x m : Nat) (w : sW) (hRC : RepC h x m w) : zM g yX9_got cX9_got 1 (some .long) rmX9_got [.ref x] h (fun v h1 => v = some (.long w.2.2.2.1) ∧ h1 = h) := by
  refine zM_of (by decide) (Nat.le_of_ble_eq_true rfl) ?_
  obtain ⟨col, p, F, Z, k, I, P, q, T, V, hR⟩ := id hRC
  obtain ⟨hw, hz, hS, hq, hr, hX⟩ := id hR
  obtain ⟨S0, S1, S2, S3, S4, S5⟩ := id hS
  obtain ⟨R0, R1, R2, R3⟩ := id hr
  first | refine z_aload_n dX9_got_0 rfl rfl ?_ | refine z_aload_nN dX9_got_0 rfl rfl ?_
  refine zg_X9_103 rfl dX9_got_1 rfl S0 rfl ?_
  exact z_lret dX9_got_4 rfl rfl ⟨rfl, rfl⟩ (Nat.le_of_ble_eq_true rfl) (Nat.le_of_ble_eq_true rfl)

set_option maxHeartbeats 800000 in
set_option maxRecDepth 100000 in
theorem C_torn (g : zG) (h : zH) (x m : Nat) (w : sW) (hRC : RepC h x m w) : zM g yX9_torn cX9_torn 1 (some .int) rmX9_torn [.ref x] h (fun v h1 => v = some (.int w.2.2.2.2.1) ∧ h1 = h) := by
  refine zM_of (by decide) (Nat.le_of_ble_eq_true rfl) ?_
  obtain ⟨col, p, F, Z, k, I, P, q, T, V, hR⟩ := id hRC
  obtain ⟨hw, hz, hS, hq, hr, hX⟩ := id hR
  obtain ⟨S0, S1, S2, S3, S4, S5⟩ := id hS
  obtain ⟨R0, R1, R2, R3⟩ := id hr
  first | refine z_aload_n dX9_torn_0 rfl rfl ?_ | refine z_aload_nN dX9_torn_0 rfl rfl ?_
  refine zg_X9_121 rfl dX9_torn_1 rfl S0 rfl ?_
  exact z_iret dX9_torn_4 rfl rfl ⟨rfl, rfl⟩ (Nat.le_of_ble_eq_true rfl) (Nat.le_of_ble_eq_true rfl)

