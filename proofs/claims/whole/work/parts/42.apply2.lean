theorem ap_ok {S : sMS} {w : sW} {r : Int32} (hR : RepM S w) (hr : isRec r) (h2 : w.1.1 (ix r) = 2) {p k n : Nat} {t : sAct} (ht : actIs S p k t) (h0 : apF (w.1.2.1 (ix r)) t n = 0) : ∀ c, c ∈ apC (w.1.2.1 (ix r)) t n → sOk c ∧ sInto c.1 (w.1.2.1 (ix r)).1 = true := by
  intro c hc
  have hx4 : t.1 = 0 ∨ t.1 = 1 ∨ t.1 = 2 ∨ t.1 = 3 := by have := ht.2.1; have := ht.2.2.1; grind
  have ka := (rep_kind hR.1 (ix_lt hr) h2).2.2.2
  rcases hx4 with e1 | e1 | e1 | e1
  · rw [apC, if_neg (by rw [e1]; decide), if_pos e1, List.mem_singleton] at hc
    subst hc
    have hlt : n < (w.1.2.1 (ix r)).2.length := by
      unfold apF at h0
      rcases Nat.lt_or_ge n (w.1.2.1 (ix r)).2.length with z | z
      · exact z
      · rw [if_pos ⟨by rw [e1]; decide, z⟩] at h0
        exact absurd h0 (by decide)
    have pa := rcell_fit hR.1 (ix_lt hr) h2 (i := n) hlt
    refine ⟨pa.1, ?_⟩
    show sInto (rCell w.1 (ix r) n).1 _ = true
    by_cases h7 : (w.1.2.1 (ix r)).1 ≤ 7
    · rw [pa.2.1 h7]
      exact into_kk ⟨ka.1, h7⟩
    · exact pa.2.2 (by grind)
  all_goals
    first
      | (rw [apC, if_pos e1] at hc; exact absurd hc (by simp))
      | (rw [apC, if_neg (by rw [e1]; decide), if_neg (by rw [e1]; decide), List.mem_singleton] at hc
         subst hc
         cases q : t.2.2 with
         | none => exact absurd (ht.2.2.2.2.1.mp q) (by rw [e1]; decide)
         | some c =>
           have hN := ht.2.2.2.2.2.2 c q
           refine ⟨hN.2, ?_⟩
           unfold apF at h0
           rw [q] at h0
           show sInto c.1 _ = true
           grind [oC])
theorem ap_len (A : sA) (t : sAct) (n : Nat) (T : List sAct) (M : List sC) : (M ++ apC A t n).length + T.countP isIn = M.length + (t :: T).countP isIn := by
  rw [List.length_append, List.countP_cons]
  unfold apC isIn
  by_cases e : t.1 = 2
  · rw [if_pos e, decide_eq_true e]
    simp
  · rw [if_neg e, decide_eq_false e]
    split <;> simp <;> omega

abbrev YX10_apply : zY := (yX10_apply.cls, cX10_apply, 5, (some .int), rmX10_apply, yX10_apply.name, fun _ _ => True)
set_option maxHeartbeats 800000 in
set_option maxRecDepth 100000 in
theorem R_apply_L (g : zG) (h : zH) (m : Nat) (w : sW) (r : Int32) (hr : isRec r) (h2 : w.1.1 (ix r) = 2) (hf : ¬ 0 < rowF w.1 (ix r)) (pn : Nat) (hpn : pn < 4) (hp3 : 0 ≤ nI pn ∧ nI pn ≤ 3) (hix : ix (nI pn) = pn) (L : List sAct) (hw : w.2.2.2.2.2.2 pn = some L) : ∀ (T : List sAct) (S1 : sMS) (k nx : Nat) (M : List sC), k + T.length = L.length → L.drop k = T → apIs S1 w nx M → M.length + T.countP isIn ≤ 20 → nx ≤ k → (∀ c, c ∈ M → sOk c ∧ sInto c.1 (w.1.2.1 (ix r)).1 = true) → apL (w.1.2.1 (ix r)) L 0 0 [] = apL (w.1.2.1 (ix r)) T k nx M → zZ g YX10_apply (zE g (mPost m h (pApply w (nI pn) r)) 0 0) 57 [(3, .int (nI k)), (0, .ref m), (1, .int (nI pn)), (2, .int r)] [] (mUp m S1 h) 0 0 := by
  intro T
  induction T with
  | nil =>
    intro S1 k nx M hkn hT hA hM hnk hcs he
    have ek : L.length = k := by rw [← hkn]; rfl
    have hP := pat_some hA.1 hpn hw
    have hl : L.length ≤ 40 := hP.2.2.1
    have kz := rep_kind hA.1.1 (ix_lt hr) h2
    have la : (w.1.2.1 (ix r)).2.length ≤ 20 := kz.2.2.2.2.2.1
    refine z_iload_n dX10_apply_57 rfl rfl ?_
    first | refine z_aload_n dX10_apply_58 rfl rfl ?_ | refine z_aload_nN dX10_apply_58 rfl rfl ?_
    refine zmg_58 rfl dX10_apply_59 rfl ?_
    refine z_iload_n dX10_apply_62 rfl rfl ?_
    refine zm_iald dX10_apply_63 rfl rfl (vp_in_nI (by omega) (by decide)) ?_
    rw [nI_clamp (show pn < 2 ^ 31 by omega), show S1.1 16 pn = nI L.length from hP.2.1]
    refine z_icmp_ge (tgt := 102) dX10_apply_64 rfl (by decide) (fun c64 => ?_) (fun c64 => absurd c64 (fun z => z (nI_le (by omega) (by omega))))
    first | refine z_aload_n dX10_apply_102 rfl rfl ?_ | refine z_aload_nN dX10_apply_102 rfl rfl ?_
    refine zmg_303 rfl dX10_apply_103 rfl ?_
    rw [hA.2.1]
    first | refine z_aload_n dX10_apply_106 rfl rfl ?_ | refine z_aload_nN dX10_apply_106 rfl rfl ?_
    refine z_iload_n dX10_apply_107 rfl rfl ?_
    refine zcx_X10_152 rfl dX10_apply_108 rfl mo_recv (r_sizeOf g h m S1 _ (rec_in hr) kz.2.2.1) rfl rfl ⟨(Nat.le_of_ble_eq_true rfl), (Nat.le_of_ble_eq_true rfl)⟩ ⟨(Nat.le_of_ble_eq_true rfl), (Nat.le_of_ble_eq_true rfl)⟩ (Nat.le_of_ble_eq_true rfl) ?_
    rw [kz.2.1]
    refine z_icmp_ge (tgt := 129) dX10_apply_111 rfl (by decide) (fun c111 => ?_) (fun c111 => ?_)
    · skip
      first | refine z_aload_n dX10_apply_129 rfl rfl ?_ | refine z_aload_nN dX10_apply_129 rfl rfl ?_
      refine z_iload_n dX10_apply_130 rfl rfl ?_
      first | refine z_aload_n dX10_apply_131 rfl rfl ?_ | refine z_aload_nN dX10_apply_131 rfl rfl ?_
      refine z_iload_n dX10_apply_132 rfl rfl ?_
      refine zcx_X10_146 rfl dX10_apply_133 rfl mo_recv (r_kindOf g h m S1 _ (rec_in hr) kz.2.2.1) rfl rfl ⟨(Nat.le_of_ble_eq_true rfl), (Nat.le_of_ble_eq_true rfl)⟩ ⟨(Nat.le_of_ble_eq_true rfl), (Nat.le_of_ble_eq_true rfl)⟩ (Nat.le_of_ble_eq_true rfl) ?_
      rw [kz.1]
      first | refine z_aload_n dX10_apply_136 rfl rfl ?_ | refine z_aload_nN dX10_apply_136 rfl rfl ?_
      refine zmg_306 rfl dX10_apply_137 rfl ?_
      rw [hA.2.2.1]
      refine zc_X10_293 rfl dX10_apply_140 rfl mo_recv (r_takesMade g h m S1 r _ M.length (by omega) (rec_in hr)) rfl rfl ⟨(Nat.le_of_ble_eq_true rfl), (Nat.le_of_ble_eq_true rfl)⟩ ⟨(Nat.le_of_ble_eq_true rfl), (Nat.le_of_ble_eq_true rfl)⟩ (Nat.le_of_ble_eq_true rfl) (fun v h1 hz => ?_)
      obtain ⟨rfl, j, hj, hfr, rfl⟩ := hz
      have hRm : RepM (mPut (mTake S1 r j (w.1.2.1 (ix r)).1 (nI M.length)) (20 * j) (fun i => sConv (mc S1 (520 + i)) (w.1.2.1 (ix r)).1) M.length) (wR w (rNew w.1 (ix r) ((w.1.2.1 (ix r)).1, M.map (fun c => sConv c (w.1.2.1 (ix r)).1)))) := RepM_made hA.1 hr hj hfr ⟨kz.2.2.2.1, kz.2.2.2.2.1⟩ (by omega) hcs hA.2.2.2
      have hf3 : (mPut (mTake S1 r j (w.1.2.1 (ix r)).1 (nI M.length)) (20 * j) (fun i => sConv (mc S1 (520 + i)) (w.1.2.1 (ix r)).1) M.length).2.2.2 = S1.2.2.2 := by rw [mPut_s]; rfl
      generalize mPut (mTake S1 r j (w.1.2.1 (ix r)).1 (nI M.length)) (20 * j) (fun i => sConv (mc S1 (520 + i)) (w.1.2.1 (ix r)).1) M.length = S3 at hRm hf3 ⊢
      first | refine z_aload_n dX10_apply_143 rfl rfl ?_ | refine z_aload_nN dX10_apply_143 rfl rfl ?_
      refine z_iconst (v := 0) dX10_apply_144 rfl (by decide) ?_
      refine zmp_192 rfl dX10_apply_145 rfl ?_
      first | refine z_aload_n dX10_apply_148 rfl rfl ?_ | refine z_aload_nN dX10_apply_148 rfl rfl ?_
      refine zmg_306 rfl dX10_apply_149 rfl ?_
      rw [show (S3.1, S3.2.1, S3.2.2.1, va_up S3.2.2.2.1 7 0, S3.2.2.2.2).2.2.2.1 23 = nI M.length from by show va_up S3.2.2.2.1 7 0 23 = _; rw [hf3, ← hA.2.2.1]; simp [va_up]]
      exact z_iret dX10_apply_152 rfl rfl (mPost_of (RepM_torn hRm 0) (apply_0 hp3 hr (by rw [hix]; exact hw) hf (k := L.length) (by rw [he, apL, if_neg (Nat.not_lt_of_le (Nat.le_of_not_lt (fun z => absurd c111 (nI_ge z (by omega))))), ← ek]))) (Nat.le_of_ble_eq_true rfl) (Nat.le_of_ble_eq_true rfl)
    · skip
      first | refine z_aload_n dX10_apply_114 rfl rfl ?_ | refine z_aload_nN dX10_apply_114 rfl rfl ?_
      refine z_iconst (v := 3) dX10_apply_115 rfl (by decide) ?_
      refine zmp_192 rfl dX10_apply_116 rfl ?_
      refine z_bipush (v := -20) dX10_apply_119 rfl (by decide) ?_
      first | refine z_aload_n dX10_apply_121 rfl rfl ?_ | refine z_aload_nN dX10_apply_121 rfl rfl ?_
      refine zmg_58 rfl dX10_apply_122 rfl ?_
      refine z_iload_n dX10_apply_125 rfl rfl ?_
      refine zm_iald dX10_apply_126 rfl rfl (vp_in_nI (by omega) (by decide)) ?_
      rw [nI_clamp (show pn < 2 ^ 31 by omega), show S1.1 16 pn = nI L.length from hP.2.1]
      refine z_isub dX10_apply_127 rfl ?_
      exact z_iret dX10_apply_128 rfl rfl (mPost_of (RepM_torn hA.1 3) (apply_f hp3 hr (by rw [hix]; exact hw) hf (x := 3) (k := L.length) (M := M) (by rw [he, apL, if_pos (Nat.lt_of_not_le (fun z => c111 (nI_le z (by omega)))), ← ek]) (by decide))) (Nat.le_of_ble_eq_true rfl) (Nat.le_of_ble_eq_true rfl)
  | cons t T ih =>
    intro S1 k nx M hkn hT hA hM hnk hcs he
    have hP := pat_some hA.1 hpn hw
    have hl : L.length ≤ 40 := hP.2.2.1
    rw [List.length_cons] at hkn
    have hk : L[k]? = some t := by
      have z : (L.drop k)[0]? = some t := by rw [hT]; rfl
      rwa [List.getElem?_drop, Nat.add_zero] at z
    have ht := hP.2.2.2 k t hk
    refine z_iload_n dX10_apply_57 rfl rfl ?_
    first | refine z_aload_n dX10_apply_58 rfl rfl ?_ | refine z_aload_nN dX10_apply_58 rfl rfl ?_
    refine zmg_58 rfl dX10_apply_59 rfl ?_
    refine z_iload_n dX10_apply_62 rfl rfl ?_
    refine zm_iald dX10_apply_63 rfl rfl (vp_in_nI (by omega) (by decide)) ?_
    rw [nI_clamp (show pn < 2 ^ 31 by omega), show S1.1 16 pn = nI L.length from hP.2.1]
    refine z_icmp_ge (tgt := 102) dX10_apply_64 rfl (by decide) (fun c64 => absurd c64 (nI_ge (by omega) (by omega))) (fun c64 => ?_)
    first | refine z_aload_n dX10_apply_67 rfl rfl ?_ | refine z_aload_nN dX10_apply_67 rfl rfl ?_
    refine z_bipush (v := 40) dX10_apply_68 rfl (by decide) ?_
    refine z_iload_n dX10_apply_70 rfl rfl ?_
    refine z_imul dX10_apply_71 rfl ?_
    refine z_iload_n dX10_apply_72 rfl rfl ?_
    refine z_iadd dX10_apply_73 rfl ?_
    rw [n40]
    refine z_iload_n dX10_apply_74 rfl rfl ?_
    refine zc_X10_309 rfl dX10_apply_75 rfl mo_recv (q_actFault g h m S1 w r hr h2 pn k hpn (by omega) nx M (by omega) (by omega) hA t ht) rfl rfl ⟨(Nat.le_of_ble_eq_true rfl), (Nat.le_of_ble_eq_true rfl)⟩ ⟨(Nat.le_of_ble_eq_true rfl), (Nat.le_of_ble_eq_true rfl)⟩ (Nat.le_of_ble_eq_true rfl) (fun v h1 hz => ?_)
    rcases hz with ⟨hne, rfl, rfl⟩ | ⟨h0, rfl, S2, rfl, hA2⟩
    · skip
      have hpos : 0 < apF (w.1.2.1 (ix r)) t nx := by unfold apF at hne ⊢; grind
      refine z_istore dX10_apply_78 rfl (Nat.le_of_ble_eq_true rfl) ?_
      refine z_iload dX10_apply_80 rfl rfl ?_
      refine z_if_le (tgt := 96) dX10_apply_82 rfl (by decide) (fun c82 => absurd c82 (fun z => absurd hpos (Int32.not_lt.mpr z))) (fun c82 => ?_)
      first | refine z_aload_n dX10_apply_85 rfl rfl ?_ | refine z_aload_nN dX10_apply_85 rfl rfl ?_
      refine z_iload dX10_apply_86 rfl rfl ?_
      refine zmp_192 rfl dX10_apply_88 rfl ?_
      refine z_bipush (v := -20) dX10_apply_91 rfl (by decide) ?_
      refine z_iload_n dX10_apply_93 rfl rfl ?_
      refine z_isub dX10_apply_94 rfl ?_
      exact z_iret dX10_apply_95 rfl rfl (mPost_of (RepM_torn hA.1 _) (apply_f hp3 hr (by rw [hix]; exact hw) hf (x := apF (w.1.2.1 (ix r)) t nx) (k := k) (M := M) (by rw [he, apL, if_neg hne]) hne)) (Nat.le_of_ble_eq_true rfl) (Nat.le_of_ble_eq_true rfl)
    · skip
      refine z_istore dX10_apply_78 rfl (Nat.le_of_ble_eq_true rfl) ?_
      refine z_iload dX10_apply_80 rfl rfl ?_
      refine z_if_le (tgt := 96) dX10_apply_82 rfl (by decide) (fun c82 => ?_) (fun c82 => absurd c82 (fun z => z (by decide)))
      refine z_iinc (v := nI (k + 1)) dX10_apply_96 rfl rfl (nI_inc k) (Nat.le_of_ble_eq_true rfl) ?_
      refine z_goto (tgt := 57) dX10_apply_99 rfl (by decide) ?_
      refine z_lv [(3, .int (nI (k + 1))), (0, .ref m), (1, .int (nI pn)), (2, .int r)] ⟨rfl, rfl, rfl, rfl, trivial⟩ ?_
      exact ih S2 (k + 1) (apN t nx) (M ++ apC (w.1.2.1 (ix r)) t nx) (by omega) (by rw [← List.drop_drop, hT]; rfl) hA2 (by rw [ap_len]; omega) (by unfold apN; split <;> omega) (fun c hc => by rcases List.mem_append.mp hc with z | z; exact hcs c z; exact ap_ok hA.1 hr h2 ht h0 c z) (by rw [he, apL, if_pos h0])

set_option maxHeartbeats 800000 in
set_option maxRecDepth 100000 in
theorem R_apply (g : zG) (h : zH) (m : Nat) (S : sMS) (w : sW) (hR : RepM S w) (hO : ∀ p, p < 4 → ∀ L, w.2.2.2.2.2.2 p = some L → L.countP isIn ≤ 20) (p r : Int32) : zM g yX10_apply cX10_apply 5 (some .int) rmX10_apply [.ref m, .int p, .int r] (mUp m S h) (mPost m h (pApply w p r)) := by
  refine zM_of (by decide) (Nat.le_of_ble_eq_true rfl) ?_
  refine z_iload_n dX10_apply_0 rfl rfl ?_
  refine zcx_X10_300 rfl dX10_apply_1 rfl (r_isPatchNumber g _ _) rfl rfl ⟨(Nat.le_of_ble_eq_true rfl), (Nat.le_of_ble_eq_true rfl)⟩ ⟨(Nat.le_of_ble_eq_true rfl), (Nat.le_of_ble_eq_true rfl)⟩ (Nat.le_of_ble_eq_true rfl) ?_
  refine z_bif_eq (tgt := 14) dX10_apply_4 rfl (by decide) (fun c4 => ?_) (fun c4 => ?_)
  · skip
    refine z_iconst (v := -1) dX10_apply_14 rfl (by decide) ?_
    exact z_iret dX10_apply_15 rfl rfl (mPost_of hR (apply_bad (by grind))) (Nat.le_of_ble_eq_true rfl) (Nat.le_of_ble_eq_true rfl)
  · skip
    refine z_iload_n dX10_apply_7 rfl rfl ?_
    refine zcx_X10_141 rfl dX10_apply_8 rfl (r_isRecord g _ _) rfl rfl ⟨(Nat.le_of_ble_eq_true rfl), (Nat.le_of_ble_eq_true rfl)⟩ ⟨(Nat.le_of_ble_eq_true rfl), (Nat.le_of_ble_eq_true rfl)⟩ (Nat.le_of_ble_eq_true rfl) ?_
    refine z_bif_ne (tgt := 16) dX10_apply_11 rfl (by decide) (fun c11 => ?_) (fun c11 => ?_)
    · skip
      obtain ⟨pn, hpn3, rfl⟩ := nI_of2 (x := p) (M := 3) (n := 3) (by decide) (by grind) c4.2
      have hpn : pn < 4 := by omega
      have hix : ix (nI pn) = pn := nI_clamp (by omega)
      rcases hw : w.2.2.2.2.2.2 pn with _ | L
      · skip
        first | refine z_aload_n dX10_apply_16 rfl rfl ?_ | refine z_aload_nN dX10_apply_16 rfl rfl ?_
        refine zmg_55 rfl dX10_apply_17 rfl ?_
        refine z_iload_n dX10_apply_20 rfl rfl ?_
        refine zm_zald dX10_apply_21 rfl rfl (vp_in_nI (by omega) (by decide)) ?_
        rw [nI_clamp (by omega), pat_none hR hpn hw]
        refine z_if_ne (tgt := 28) dX10_apply_22 rfl (by decide) (fun c22 => absurd c22 (fun z => z rfl)) (fun c22 => ?_)
        refine z_bipush (v := -2) dX10_apply_25 rfl (by decide) ?_
        exact z_iret dX10_apply_27 rfl rfl (mPost_of hR (apply_none c4 c11 (by rw [hix]; exact hw))) (Nat.le_of_ble_eq_true rfl) (Nat.le_of_ble_eq_true rfl)
      · have hP := pat_some hR hpn hw
        first | refine z_aload_n dX10_apply_16 rfl rfl ?_ | refine z_aload_nN dX10_apply_16 rfl rfl ?_
        refine zmg_55 rfl dX10_apply_17 rfl ?_
        refine z_iload_n dX10_apply_20 rfl rfl ?_
        refine zm_zald dX10_apply_21 rfl rfl (vp_in_nI (by omega) (by decide)) ?_
        rw [nI_clamp (show pn < 2 ^ 31 by omega), hP.1]
        refine z_if_ne (tgt := 28) dX10_apply_22 rfl (by decide) (fun c22 => ?_) (fun c22 => absurd c22 (by decide))
        first | refine z_aload_n dX10_apply_28 rfl rfl ?_ | refine z_aload_nN dX10_apply_28 rfl rfl ?_
        refine z_iload_n dX10_apply_29 rfl rfl ?_
        refine zcx_X10_124 rfl dX10_apply_30 rfl mo_recv (q_rowFault g h m S w.1 hR.1 _ c11) rfl rfl ⟨(Nat.le_of_ble_eq_true rfl), (Nat.le_of_ble_eq_true rfl)⟩ ⟨(Nat.le_of_ble_eq_true rfl), (Nat.le_of_ble_eq_true rfl)⟩ (Nat.le_of_ble_eq_true rfl) ?_
        refine z_if_le (tgt := 45) dX10_apply_33 rfl (by decide) (fun c33 => ?_) (fun c33 => ?_)
        · skip
          have hf : ¬ 0 < rowF w.1 (ix r) := Int32.not_lt.mpr c33
          first | refine z_aload_n dX10_apply_45 rfl rfl ?_ | refine z_aload_nN dX10_apply_45 rfl rfl ?_
          refine z_iconst (v := 0) dX10_apply_46 rfl (by decide) ?_
          refine zmp_303 rfl dX10_apply_47 rfl ?_
          change zZ _ _ _ _ _ _ (mUp m (mNx S 0) h) _ _
          first | refine z_aload_n dX10_apply_50 rfl rfl ?_ | refine z_aload_nN dX10_apply_50 rfl rfl ?_
          refine z_iconst (v := 0) dX10_apply_51 rfl (by decide) ?_
          refine zmp_306 rfl dX10_apply_52 rfl ?_
          change zZ _ _ _ _ _ _ (mUp m (mLd (mNx S 0) 0) h) _ _
          refine z_iconst (v := 0) dX10_apply_55 rfl (by decide) ?_
          refine z_istore_n dX10_apply_56 rfl (Nat.le_of_ble_eq_true rfl) ?_
          refine z_lv [(3, .int (nI 0)), (0, .ref m), (1, .int (nI pn)), (2, .int r)] ⟨rfl, rfl, rfl, rfl, trivial⟩ ?_
          exact R_apply_L g h m w r c11 (rf_2 (rep_st hR.1 (ix_lt c11)) hf) hf pn hpn c4 hix L hw L _ 0 0 [] (by omega) rfl ⟨RepM_fld (RepM_fld hR (by decide) _) (by decide) _, by simp [mLd, mNx, va_up]; rfl, by simp [mLd, mNx, va_up]; rfl, fun i hi => absurd hi (by simp)⟩ (by have := hO pn hpn L hw; simp only [List.length_nil]; omega) (by omega) (fun c hc => absurd hc (by simp)) rfl
        · skip
          refine z_bipush (v := -10) dX10_apply_36 rfl (by decide) ?_
          first | refine z_aload_n dX10_apply_38 rfl rfl ?_ | refine z_aload_nN dX10_apply_38 rfl rfl ?_
          refine z_iload_n dX10_apply_39 rfl rfl ?_
          refine zcx_X10_124 rfl dX10_apply_40 rfl mo_recv (q_rowFault g h m S w.1 hR.1 _ c11) rfl rfl ⟨(Nat.le_of_ble_eq_true rfl), (Nat.le_of_ble_eq_true rfl)⟩ ⟨(Nat.le_of_ble_eq_true rfl), (Nat.le_of_ble_eq_true rfl)⟩ (Nat.le_of_ble_eq_true rfl) ?_
          refine z_isub dX10_apply_43 rfl ?_
          exact z_iret dX10_apply_44 rfl rfl (mPost_of hR (apply_row c4 c11 (by rw [hix]; exact hw) (Int32.not_le.mp c33))) (Nat.le_of_ble_eq_true rfl) (Nat.le_of_ble_eq_true rfl)
    · skip
      refine z_iconst (v := -1) dX10_apply_14 rfl (by decide) ?_
      exact z_iret dX10_apply_15 rfl rfl (mPost_of hR (apply_bad (by grind))) (Nat.le_of_ble_eq_true rfl) (Nat.le_of_ble_eq_true rfl)

