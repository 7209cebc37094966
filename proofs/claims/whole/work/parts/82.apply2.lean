theorem apL_c {A : sA} (oA : aOk A) {f : Nat → Int32} {co cn : Nat → sC} : ∀ (T : List sAct) (k n : Nat) (M : List sC), (∀ t, t ∈ T → ∃ j, actOk f co cn j t) → (∀ c, c ∈ M → sOk c ∧ sInto c.1 A.1 = true) → ∀ c, c ∈ (apL A T k n M).2.2 → sOk c ∧ sInto c.1 A.1 = true
  | [], k, n, M, _, hM => hM
  | t :: T, k, n, M, hT, hM => by
    rw [apL]
    by_cases h0 : apF A t n = 0
    · rw [if_pos h0]
      obtain ⟨j, hj⟩ := hT t (List.mem_cons_self ..)
      exact apL_c oA T _ _ _ (fun u hu => hT u (List.mem_cons_of_mem _ hu)) (fun c hc => (List.mem_append.mp hc).elim (hM c) (apC_ok oA hj h0 c))
    · rw [if_neg h0]; exact hM
theorem apL_n (A : sA) : ∀ (T : List sAct) (k n : Nat) (M : List sC), (apL A T k n M).1 = 0 → (apL A T k n M).2.2.length = M.length + T.countP isIn
  | [], k, n, M, _ => rfl
  | t :: T, k, n, M, h => by
    rw [apL] at h ⊢
    by_cases h0 : apF A t n = 0
    · rw [if_pos h0] at h ⊢
      rw [apL_n A T _ _ _ h, ap_len]
    · rw [if_neg h0] at h; exact absurd h h0

set_option maxHeartbeats 800000 in
set_option maxRecDepth 100000 in
theorem m_run_L (g : zG) (h : zH) (pa so o v : Nat) (L : List sAct) (f : Nat → Int32) (co cn : Nat → sC) (hP : paAt h pa o v L.length f co cn) (hL40 : L.length ≤ 40) (hAc : ∀ k a, L[k]? = some a → actOk f co cn k a) (A : sA) (cs : Nat → sC) (oA : aOk A) (hs : cAt h so A.1 A.2.length cs) (hsl : ∀ i, i < A.2.length → cs i = A.2.getD i z0) (hw : wfH h) (N : Nat) (hN : N ≤ 20) : ∀ (T : List sAct) (k n : Nat) (M : List sC), k + T.length = L.length → L.drop k = T → n ≤ k → M.length + T.countP isIn ≤ N → apL A T k n M = (apL A L 0 0 []) → zZ g YX1_run (zE g (fun v h1 => ∃ n', v = some (.int (nI (apL A L 0 0 []).2.1)) ∧ h1 = (aUp h.1 pa so n' (apL A L 0 0 []).2.2.length (apL A L 0 0 []).1 (cUp (h.1 + 1) A.1 N (lF (cIn A.1 N) ((apL A L 0 0 []).2.2.map (fun y => sConv y A.1))) (h.1 + 5, h.2)))) 0 0) 2 [(1, .int (nI k)), (0, .ref h.1)] [] (aUp h.1 pa so n M.length 0 (cUp (h.1 + 1) A.1 N (lF (cIn A.1 N) (M.map (fun y => sConv y A.1))) (h.1 + 5, h.2))) 0 0 := by
  have k1 : pa + 1 < h.1 := wf_lt hw hP.2.1
  have k2 := cAt_lt hP.2.2.1 hw
  have k3 := cAt_lt hP.2.2.2 hw
  have k4 := cAt_lt hs hw
  have la : A.2.length ≤ 20 := oA.2.2.1
  intro T
  induction T with
  | nil =>
    intro k n M hk hd hn hM he
    have hk : k = L.length := hk
    have hR1 : (apL A L 0 0 []) = (if n < A.2.length then 3 else 0, L.length, M) := by rw [← he, ← hk]; rfl
    refine z_iload_n dX1_run_2 rfl rfl ?_
    first | refine z_aload_n dX1_run_3 rfl rfl ?_ | refine z_aload_nN dX1_run_3 rfl rfl ?_
    refine zg_X1_9 rfl dX1_run_4 rfl aUp_o rfl ?_
    refine zg_X1_25 rfl dX1_run_7 rfl (((aUp_out (by omega)).trans (cUp_out (by omega))).trans hP.1) rfl ?_
    refine z_icmp_ge (tgt := 42) dX1_run_10 rfl (by decide) (fun c10 => ?_) (fun c10 => absurd c10 (fun z => z (nI_le (by omega) (by omega))))
    first | refine z_aload_n dX1_run_42 rfl rfl ?_ | refine z_aload_nN dX1_run_42 rfl rfl ?_
    refine zg_X1_50 rfl dX1_run_43 rfl aUp_o rfl ?_
    first | refine z_aload_n dX1_run_46 rfl rfl ?_ | refine z_aload_nN dX1_run_46 rfl rfl ?_
    refine zg_X1_15 rfl dX1_run_47 rfl aUp_o rfl ?_
    refine zg_X1_53 rfl dX1_run_50 rfl (cAt_fr hs (fun z z1 z2 => (aUp_out (by omega)).trans (cUp_out (by omega)))).1 rfl ?_
    refine z_icmp_ge (tgt := 61) dX1_run_53 rfl (by decide) (fun c53 => ?_) (fun c53 => ?_)
    · skip
      first | refine zZ_h (aUp h.1 pa so n M.length 3 (cUp (h.1 + 1) A.1 N (lF (cIn A.1 N) (M.map (fun y => sConv y A.1))) (h.1 + 5, h.2))) aUp_a ?_ | skip
      first | refine z_aload_n dX1_run_61 rfl rfl ?_ | refine z_aload_nN dX1_run_61 rfl rfl ?_
      refine zg_X1_9 rfl dX1_run_62 rfl aUp_o rfl ?_
      refine zg_X1_25 rfl dX1_run_65 rfl (((aUp_out (by omega)).trans (cUp_out (by omega))).trans hP.1) rfl ?_
      exact z_iret dX1_run_68 rfl rfl (by have hc3 : (if n < A.2.length then (3 : Int32) else 0) = 3 ∨ (if n < A.2.length then (3 : Int32) else 0) = 0 := (by split <;> simp); exact ⟨n, by rw [hR1], by rw [hR1]; first | rw [if_pos (Nat.lt_of_not_le (fun z => c53 (nI_le z (by omega))))] | rw [if_neg (fun z => absurd c53 (Int32.not_le.mpr (nI_lt z (by omega))))]⟩) (Nat.le_of_ble_eq_true rfl) (Nat.le_of_ble_eq_true rfl)
    · skip
      first | refine z_aload_n dX1_run_56 rfl rfl ?_ | refine z_aload_nN dX1_run_56 rfl rfl ?_
      refine z_iconst (v := 3) dX1_run_57 rfl (by decide) ?_
      refine zp_X1_43 rfl dX1_run_58 rfl aUp_o rfl rfl (Nat.le_of_ble_eq_true rfl) ?_
      first | refine zZ_h (aUp h.1 pa so n M.length 3 (cUp (h.1 + 1) A.1 N (lF (cIn A.1 N) (M.map (fun y => sConv y A.1))) (h.1 + 5, h.2))) aUp_a ?_ | skip
      first | refine z_aload_n dX1_run_61 rfl rfl ?_ | refine z_aload_nN dX1_run_61 rfl rfl ?_
      refine zg_X1_9 rfl dX1_run_62 rfl aUp_o rfl ?_
      refine zg_X1_25 rfl dX1_run_65 rfl (((aUp_out (by omega)).trans (cUp_out (by omega))).trans hP.1) rfl ?_
      exact z_iret dX1_run_68 rfl rfl (by have hc3 : (if n < A.2.length then (3 : Int32) else 0) = 3 ∨ (if n < A.2.length then (3 : Int32) else 0) = 0 := (by split <;> simp); exact ⟨n, by rw [hR1], by rw [hR1]; first | rw [if_pos (Nat.lt_of_not_le (fun z => c53 (nI_le z (by omega))))] | rw [if_neg (fun z => absurd c53 (Int32.not_le.mpr (nI_lt z (by omega))))]⟩) (Nat.le_of_ble_eq_true rfl) (Nat.le_of_ble_eq_true rfl)
  | cons t T ih =>
    intro k n M hk hd hn hM he
    have hk : k + (T.length + 1) = L.length := hk
    have htk : L[k]? = some t := by rw [← List.head?_drop, hd]; rfl
    have hdr : L.drop (k + 1) = T := by rw [← List.drop_drop, hd]; rfl
    have hn2 : apN t n ≤ k + 1 := by unfold apN; split <;> omega
    have hlen := ap_len A t n T M
    refine z_iload_n dX1_run_2 rfl rfl ?_
    first | refine z_aload_n dX1_run_3 rfl rfl ?_ | refine z_aload_nN dX1_run_3 rfl rfl ?_
    refine zg_X1_9 rfl dX1_run_4 rfl aUp_o rfl ?_
    refine zg_X1_25 rfl dX1_run_7 rfl (((aUp_out (by omega)).trans (cUp_out (by omega))).trans hP.1) rfl ?_
    refine z_icmp_ge (tgt := 42) dX1_run_10 rfl (by decide) (fun c10 => absurd c10 (nI_ge (by omega) (by omega))) (fun c10 => ?_)
    first | refine z_aload_n dX1_run_13 rfl rfl ?_ | refine z_aload_nN dX1_run_13 rfl rfl ?_
    first | refine z_aload_n dX1_run_14 rfl rfl ?_ | refine z_aload_nN dX1_run_14 rfl rfl ?_
    refine z_iload_n dX1_run_15 rfl rfl ?_
    refine zcx_X1_40 rfl dX1_run_16 rfl aUp_o (m_faultOf g (aUp h.1 pa so n M.length 0 (cUp (h.1 + 1) A.1 N (lF (cIn A.1 N) (M.map (fun y => sConv y A.1))) (h.1 + 5, h.2))) h.1 pa so o v n M.length 0 aUp_o L.length f co cn (⟨((aUp_out (by omega)).trans (cUp_out (by omega))).trans hP.1, ((aUp_out (by omega)).trans (cUp_out (by omega))).trans hP.2.1, cAt_fr hP.2.2.1 (fun z z1 z2 => (aUp_out (by omega)).trans (cUp_out (by omega))), cAt_fr hP.2.2.2 (fun z z1 z2 => (aUp_out (by omega)).trans (cUp_out (by omega)))⟩ : paAt _ pa o v L.length f co cn) hL40 A cs oA (cAt_fr hs (fun z z1 z2 => (aUp_out (by omega)).trans (cUp_out (by omega)))) hsl k (by omega) t (hAc k t htk) (by omega)) rfl rfl ⟨(Nat.le_of_ble_eq_true rfl), (Nat.le_of_ble_eq_true rfl)⟩ ⟨(Nat.le_of_ble_eq_true rfl), (Nat.le_of_ble_eq_true rfl)⟩ (Nat.le_of_ble_eq_true rfl) ?_
    refine zp_X1_43 rfl dX1_run_19 rfl aUp_o rfl rfl (Nat.le_of_ble_eq_true rfl) ?_
    refine zZ_h (aUp h.1 pa so n M.length (apF A t n) (cUp (h.1 + 1) A.1 N (lF (cIn A.1 N) (M.map (fun y => sConv y A.1))) (h.1 + 5, h.2))) aUp_a ?_
    first | refine z_aload_n dX1_run_22 rfl rfl ?_ | refine z_aload_nN dX1_run_22 rfl rfl ?_
    refine zg_X1_43 rfl dX1_run_23 rfl aUp_o rfl ?_
    refine z_if_eq (tgt := 31) dX1_run_26 rfl (by decide) (fun c26 => ?_) (fun c26 => ?_)
    · skip
      rw [c26]
      first | refine z_aload_n dX1_run_31 rfl rfl ?_ | refine z_aload_nN dX1_run_31 rfl rfl ?_
      refine z_iload_n dX1_run_32 rfl rfl ?_
      refine zcv_X1_46 rfl dX1_run_33 rfl aUp_o (m_perform g h pa so o v L f co cn hP hL40 hAc A cs oA hs hsl hw N hN k (by omega) t htk n M 0 (by omega) c26 (by omega)) rfl rfl ⟨(Nat.le_of_ble_eq_true rfl), (Nat.le_of_ble_eq_true rfl)⟩ ⟨(Nat.le_of_ble_eq_true rfl), (Nat.le_of_ble_eq_true rfl)⟩ (Nat.le_of_ble_eq_true rfl) ?_
      refine z_iinc (v := nI (k + 1)) dX1_run_36 rfl rfl (nI_inc k) (Nat.le_of_ble_eq_true rfl) ?_
      refine z_goto (tgt := 2) dX1_run_39 rfl (by decide) ?_
      refine z_lv [(1, .int (nI (k + 1))), (0, .ref h.1)] ⟨rfl, rfl, trivial⟩ ?_
      exact ih (k + 1) (apN t n) (M ++ apC A t n) (by omega) hdr hn2 (by omega) (by rw [← he, apL, if_pos c26])
    · skip
      refine z_iload_n dX1_run_29 rfl rfl ?_
      exact z_iret dX1_run_30 rfl rfl ⟨n, by rw [← he, apL, if_neg c26], by rw [← he, apL, if_neg c26]⟩ (Nat.le_of_ble_eq_true rfl) (Nat.le_of_ble_eq_true rfl)

set_option maxHeartbeats 800000 in
set_option maxRecDepth 100000 in
theorem m_run (g : zG) (h : zH) (pa so o v : Nat) (L : List sAct) (f : Nat → Int32) (co cn : Nat → sC) (hP : paAt h pa o v L.length f co cn) (hL40 : L.length ≤ 40) (hAc : ∀ k a, L[k]? = some a → actOk f co cn k a) (A : sA) (cs : Nat → sC) (oA : aOk A) (hs : cAt h so A.1 A.2.length cs) (hsl : ∀ i, i < A.2.length → cs i = A.2.getD i z0) (hw : wfH h) (N : Nat) (hN : N ≤ 20) (hcN : L.countP isIn = N) : zM g yX1_run cX1_run 2 (some .int) rmX1_run [.ref h.1] (aUp h.1 pa so 0 ([] : List sC).length 0 (cUp (h.1 + 1) A.1 N (lF (cIn A.1 N) (([] : List sC).map (fun y => sConv y A.1))) (h.1 + 5, h.2))) (fun v h1 => ∃ n', v = some (.int (nI (apL A L 0 0 []).2.1)) ∧ h1 = (aUp h.1 pa so n' (apL A L 0 0 []).2.2.length (apL A L 0 0 []).1 (cUp (h.1 + 1) A.1 N (lF (cIn A.1 N) ((apL A L 0 0 []).2.2.map (fun y => sConv y A.1))) (h.1 + 5, h.2)))) := by
  refine zM_of (by decide) (Nat.le_of_ble_eq_true rfl) ?_
  refine z_iconst (v := 0) dX1_run_0 rfl (by decide) ?_
  refine z_istore_n dX1_run_1 rfl (Nat.le_of_ble_eq_true rfl) ?_
  refine z_lv [(1, .int (nI 0)), (0, .ref h.1)] ⟨rfl, rfl, trivial⟩ ?_
  exact m_run_L g h pa so o v L f co cn hP hL40 hAc A cs oA hs hsl hw N hN L 0 0 [] (by omega) rfl (Nat.le_refl _) (by rw [List.length_nil]; omega) rfl

theorem aI_new (a pa so : Nat) (h : Nat → Option zOb) (F1 F3 : Option zOb) (k : Int32) (N : Nat) (c : Nat → sC) (hF : F3 = some (aOb a pa so 0 0 0)) : ((a + 5, va_up (cUp (a + 1) k N c (a + 5, va_up h a F1)).2 a F3) : zH) = aUp a pa so 0 0 0 (cUp (a + 1) k N c (a + 5, h)) := by
  subst hF
  refine Prod.ext rfl (funext fun q => ?_)
  simp only [aUp, cUp, va_up]
  by_cases e : q = a
  · rw [if_pos e, if_pos e]
  · simp only [if_neg e]

set_option maxHeartbeats 800000 in
set_option maxRecDepth 100000 in
theorem m_apinit (g : zG) (h : zH) (pa so o v : Nat) (L : List sAct) (f : Nat → Int32) (co cn : Nat → sC) (hP : paAt h pa o v L.length f co cn) (hL40 : L.length ≤ 40) (hAc : ∀ k a, L[k]? = some a → actOk f co cn k a) (A : sA) (cs : Nat → sC) (oA : aOk A) (hs : cAt h so A.1 A.2.length cs) (hsl : ∀ i, i < A.2.length → cs i = A.2.getD i z0) (hw : wfH h) (N : Nat) (hN : N ≤ 20) (hcN : L.countP isIn = N) : zXv g yX1_init cX1_init 3 none rmX1_init [.ref h.1, .ref pa, .ref so] (h.1 + 1, (va_up h.2 h.1 (some (.inr (1, [.null, .null, .null, .int 0, .int 0, .int 0]))))) (aUp h.1 pa so 0 ([] : List sC).length 0 (cUp (h.1 + 1) A.1 N (lF (cIn A.1 N) (([] : List sC).map (fun y => sConv y A.1))) (h.1 + 5, h.2))) := by
  refine zM_of (by decide) (Nat.le_of_ble_eq_true rfl) ?_
  have k1 : pa + 1 < h.1 := wf_lt hw hP.2.1
  have k2 := cAt_lt hP.2.2.1 hw
  have k3 := cAt_lt hP.2.2.2 hw
  have k4 := cAt_lt hs hw
  have hfl : fcn f 2 L.length = L.countP (fun a => ¬ isIn a = true) := fcn_L f 2 _ L (fun k a ha => by rw [(hAc k a ha).1]; show _ ↔ decide (¬ (!decide (a.1 = 2)) = true) = true; simp)
  have hle := fcn_le f 2 L.length
  have hnn : nI L.length - nI (fcn f 2 L.length) = nI N := by
    have e := List.length_eq_countP_add_countP isIn (l := L)
    rw [nI_sub (by omega)]
    congr 1
    rw [hfl]
    omega
  first | refine z_aload_n dX1_init_0 rfl rfl ?_ | refine z_aload_nN dX1_init_0 rfl rfl ?_
  refine zc_X1_3 rfl dX1_init_1 rfl (Nat.le_of_ble_eq_true rfl) (Nat.le_of_ble_eq_true rfl) ?_
  first | refine z_aload_n dX1_init_4 rfl rfl ?_ | refine z_aload_nN dX1_init_4 rfl rfl ?_
  first | refine z_aload_n dX1_init_5 rfl rfl ?_ | refine z_aload_nN dX1_init_5 rfl rfl ?_
  refine zp_X1_9 rfl rfl dX1_init_6 rfl vu_s rfl rfl (Nat.le_of_ble_eq_true rfl) ?_
  first | refine z_aload_n dX1_init_9 rfl rfl ?_ | refine z_aload_nN dX1_init_9 rfl rfl ?_
  first | refine z_aload_n dX1_init_10 rfl rfl ?_ | refine z_aload_nN dX1_init_10 rfl rfl ?_
  refine zp_X1_15 rfl rfl dX1_init_11 rfl vu_s rfl rfl (Nat.le_of_ble_eq_true rfl) ?_
  refine zZ_h ((h.1 + 1, (va_up h.2 h.1 (some (.inr (1, [.ref pa, .ref so, .null, .int 0, .int 0, .int 0]))))) : zH) ((vu_vu _ _ _ _ _).trans (vu_vu _ _ _ _ _)) ?_
  first | refine z_aload_n dX1_init_14 rfl rfl ?_ | refine z_aload_nN dX1_init_14 rfl rfl ?_
  refine zn_X1_19 rfl dX1_init_15 rfl (Nat.le_of_ble_eq_true rfl) (Nat.le_of_ble_eq_true rfl) ?_
  refine z_dup dX1_init_18 rfl rfl ?_
  first | refine z_aload_n dX1_init_19 rfl rfl ?_ | refine z_aload_nN dX1_init_19 rfl rfl ?_
  refine zg_X1_21 rfl dX1_init_20 rfl ((vu_n (by omega)).trans ((vu_n (by omega)).trans hs.1)) rfl ?_
  first | refine z_aload_n dX1_init_23 rfl rfl ?_ | refine z_aload_nN dX1_init_23 rfl rfl ?_
  refine zg_X1_25 rfl dX1_init_24 rfl ((vu_n (by omega)).trans ((vu_n (by omega)).trans hP.1)) rfl ?_
  first | refine z_aload_n dX1_init_27 rfl rfl ?_ | refine z_aload_nN dX1_init_27 rfl rfl ?_
  refine z_iconst (v := 2) dX1_init_28 rfl (by decide) ?_
  refine zcx_X1_30 rfl dX1_init_29 rfl ((vu_n (by omega)).trans ((vu_n (by omega)).trans hP.1)) (m_actsOf g _ pa o v L.length f ((vu_n (by omega)).trans ((vu_n (by omega)).trans hP.1)) ((vu_n (by omega)).trans ((vu_n (by omega)).trans hP.2.1)) hL40 2) rfl rfl ⟨(Nat.le_of_ble_eq_true rfl), (Nat.le_of_ble_eq_true rfl)⟩ ⟨(Nat.le_of_ble_eq_true rfl), (Nat.le_of_ble_eq_true rfl)⟩ (Nat.le_of_ble_eq_true rfl) ?_
  refine z_isub dX1_init_32 rfl ?_
  rw [hnn]
  refine zc_X1_34 rfl dX1_init_33 rfl (m_cinit g _ (h.1 + 1) _ vu_s rfl A.1 N (by omega)) rfl rfl ⟨(Nat.le_of_ble_eq_true rfl), (Nat.le_of_ble_eq_true rfl)⟩ ⟨(Nat.le_of_ble_eq_true rfl), (Nat.le_of_ble_eq_true rfl)⟩ (Nat.le_of_ble_eq_true rfl) (fun v h1 hz => ?_)
  obtain ⟨rfl, rfl⟩ := hz
  rw [cUp_vu]
  refine zp_X1_37 rfl rfl dX1_init_36 rfl ((cUp_out (by omega)).trans vu_s) rfl rfl (Nat.le_of_ble_eq_true rfl) ?_
  exact z_vret dX1_init_39 rfl rfl ⟨rfl, (aI_new h.1 pa so h.2 _ _ A.1 N _ rfl).trans (by rw [show (([] : List sC).map (fun y => sConv y A.1)) = [] from rfl, ← lF_0]; rfl)⟩ (Nat.le_of_ble_eq_true rfl) (Nat.le_of_ble_eq_true rfl)

