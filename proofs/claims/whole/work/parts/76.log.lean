theorem logC_len (c : sC) (y : Int32) : (logC c y).length = if y = 0 then 0 else if y = 1 then 2 else 1 := by
  unfold logC
  split
  · rfl
  split
  · rfl
  split <;> rfl
theorem cUp_in {o v : Nat} {k k' : Int32} {n n' : Nat} {c V V' : Nat → sC} {h : zH} (hd : o + 4 ≤ v ∨ v + 4 ≤ o) : cUp v k' n' V' (cUp o k n c (cUp v k' n' V h)) = cUp o k n c (cUp v k' n' V' h) := by
  refine Prod.ext rfl (funext fun q => ?_)
  simp only [cUp]
  by_cases e : v ≤ q ∧ q < v + 4
  · rw [if_pos e, if_neg (by omega), if_pos e]
  · rw [if_neg e]
    by_cases e2 : o ≤ q ∧ q < o + 4
    · rw [if_pos e2, if_pos e2]
    · rw [if_neg e2, if_neg e2, if_neg e, if_neg e]
theorem nI_if (P Q : Prop) [Decidable P] [Decidable Q] : (if P then (0 : Int32) else if Q then 2 else 1) = nI (if P then 0 else if Q then 2 else 1) := by
  split
  · rfl
  split <;> rfl

abbrev YX9_loggedLength : zY := (yX9_loggedLength.cls, cX9_loggedLength, 5, (some .int), rmX9_loggedLength, yX9_loggedLength.name, fun _ _ => True)
set_option maxHeartbeats 800000 in
set_option maxRecDepth 100000 in
theorem m_loggedLength_L (g : zG) (h : zH) (L : List sC) (hL : L.length ≤ 20) (seed : Int32) : ∀ (T : List sC) (i : Nat) (z : Int32) (acc : Nat), i + T.length = L.length → (logL L seed).length = acc + (logL T z).length → zZ g YX9_loggedLength (zE g (fun v h1 => v = some (.int (nI (logL L seed).length)) ∧ h1 = h) 0 0) 7 [(4, .int (nI i)), (3, .int z), (2, .int (nI acc)), (0, .int (nI L.length))] [] h 0 0 := by
  intro T
  induction T with
  | nil =>
    intro i z acc hin he
    have hin : i + 0 = L.length := hin
    refine z_iload dX9_loggedLength_7 rfl rfl ?_
    refine z_iload_n dX9_loggedLength_9 rfl rfl ?_
    refine z_icmp_ge (tgt := 34) dX9_loggedLength_10 rfl (by decide) (fun c10 => ?_) (fun c10 => absurd c10 (fun z => z (nI_le (by omega) (by omega))))
    refine z_iload_n dX9_loggedLength_34 rfl rfl ?_
    exact z_iret dX9_loggedLength_35 rfl rfl ⟨by rw [he]; rfl, rfl⟩ (Nat.le_of_ble_eq_true rfl) (Nat.le_of_ble_eq_true rfl)
  | cons c T ih =>
    intro i z acc hin he
    rw [List.length_cons] at hin
    refine z_iload dX9_loggedLength_7 rfl rfl ?_
    refine z_iload_n dX9_loggedLength_9 rfl rfl ?_
    refine z_icmp_ge (tgt := 34) dX9_loggedLength_10 rfl (by decide) (fun c10 => absurd c10 (nI_ge (by omega) (by omega))) (fun c10 => ?_)
    refine z_iload_n dX9_loggedLength_13 rfl rfl ?_
    refine zcx_X9_263 rfl dX9_loggedLength_14 rfl (m_nextState g _ _) rfl rfl ⟨(Nat.le_of_ble_eq_true rfl), (Nat.le_of_ble_eq_true rfl)⟩ ⟨(Nat.le_of_ble_eq_true rfl), (Nat.le_of_ble_eq_true rfl)⟩ (Nat.le_of_ble_eq_true rfl) ?_
    refine z_istore_n dX9_loggedLength_17 rfl (Nat.le_of_ble_eq_true rfl) ?_
    refine z_iload_n dX9_loggedLength_18 rfl rfl ?_
    refine z_iload_n dX9_loggedLength_19 rfl rfl ?_
    refine zcx_X9_266 rfl dX9_loggedLength_20 rfl (m_drawOf g _ _) rfl rfl ⟨(Nat.le_of_ble_eq_true rfl), (Nat.le_of_ble_eq_true rfl)⟩ ⟨(Nat.le_of_ble_eq_true rfl), (Nat.le_of_ble_eq_true rfl)⟩ (Nat.le_of_ble_eq_true rfl) ?_
    refine zcx_X9_297 rfl dX9_loggedLength_23 rfl (m_times g _ _) rfl rfl ⟨(Nat.le_of_ble_eq_true rfl), (Nat.le_of_ble_eq_true rfl)⟩ ⟨(Nat.le_of_ble_eq_true rfl), (Nat.le_of_ble_eq_true rfl)⟩ (Nat.le_of_ble_eq_true rfl) ?_
    refine z_iadd dX9_loggedLength_26 rfl ?_
    rw [nI_if, nI_add, show (if drw (nxt z) - drw (nxt z) / 8 * 8 = 0 then 0 else if drw (nxt z) - drw (nxt z) / 8 * 8 = 1 then 2 else 1) = (logC c (wy (nxt z))).length from (logC_len _ _).symm]
    refine z_istore_n dX9_loggedLength_27 rfl (Nat.le_of_ble_eq_true rfl) ?_
    refine z_iinc (v := nI (i + 1)) dX9_loggedLength_28 rfl rfl (nI_inc i) (Nat.le_of_ble_eq_true rfl) ?_
    refine z_goto (tgt := 7) dX9_loggedLength_31 rfl (by decide) ?_
    refine z_lv [(4, .int (nI (i + 1))), (3, .int (nxt z)), (2, .int (nI (acc + (logC c (wy (nxt z))).length))), (0, .int (nI L.length))] ⟨rfl, rfl, rfl, rfl, trivial⟩ ?_
    exact ih (i + 1) (nxt z) _ (by omega) (by rw [he, logL, List.length_append]; omega)

set_option maxHeartbeats 4000000 in
set_option maxRecDepth 100000 in
/-- X9_loggedLength -/
theorem m_loggedLength (g : zG) (h : zH) (L : List sC) (hL : L.length ≤ 20) (seed : Int32) : zX g yX9_loggedLength cX9_loggedLength 5 (some .int) rmX9_loggedLength [.int (nI L.length), .int seed] h (.int (nI (logL L seed).length)) h := by
  refine zM_of (by decide) (Nat.le_of_ble_eq_true rfl) ?_
  refine z_iconst (v := 0) dX9_loggedLength_0 rfl (by decide) ?_
  refine z_istore_n dX9_loggedLength_1 rfl (Nat.le_of_ble_eq_true rfl) ?_
  refine z_iload_n dX9_loggedLength_2 rfl rfl ?_
  refine z_istore_n dX9_loggedLength_3 rfl (Nat.le_of_ble_eq_true rfl) ?_
  refine z_iconst (v := 0) dX9_loggedLength_4 rfl (by decide) ?_
  refine z_istore dX9_loggedLength_5 rfl (Nat.le_of_ble_eq_true rfl) ?_
  refine z_lv [(4, .int (nI 0)), (3, .int seed), (2, .int (nI 0)), (0, .int (nI L.length))] ⟨rfl, rfl, rfl, rfl, trivial⟩ ?_
  exact m_loggedLength_L g h L hL seed L 0 seed 0 (by omega) (by omega)

abbrev YX9_logged : zY := (yX9_logged.cls, cX9_logged, 9, (some (.object "LoggerTwins$Cells")), rmX9_logged, yX9_logged.name, fun _ _ => True)
set_option maxHeartbeats 800000 in
set_option maxRecDepth 100000 in
theorem logged_w (g : zG) (h : zH) (x b o : Nat) (fx : List Value) (hx : h.2 x = some (.inr (6, fx))) (hfx : fx[4]? = some (.ref (x + 53))) (kind : Int32) (B : sA) (cs : Nat → sC) (oB : aOk B) (hc : cAt h b B.1 B.2.length cs) (hcl : ∀ i, i < B.2.length → cs i = B.2.getD i z0) (N : Nat) (hN : N ≤ 20) (c0 : Nat → sC) (d1 : b + 4 ≤ x + 53 ∨ x + 57 ≤ b) (d2 : b + 4 ≤ o ∨ o + 4 ≤ b) (d3 : x + 57 ≤ o) (h7 : B.1 ≤ 7) (hio : sInto B.1 kind = true) (hk : 0 ≤ kind ∧ kind ≤ 7) (seed : Int32) (hNl : (logL B.2 seed).length = N) (M : List sC) (V : Nat → sC) (hM : M.length < N) (i : Nat) (z t t2 : Int32) (htt : t + Int32.ofInt (-1) = t2) (ov : sOk (V 0)) (hvi : sInto (V 0).1 kind = true) (kk : zZ g YX9_logged (zE g (fun v h1 => v = some (.ref o) ∧ ∃ V, h1 = (cUp o kind N (lF c0 ((logL B.2 seed).map (fun y => sConv y kind))) (cUp (x + 53) 9 1 V h))) 0 0) 67 [(8, .int t2), (7, .int (drw z)), (6, .int (nI i)), (5, .int z), (4, .int (nI (M ++ [V 0]).length)), (0, .ref x), (1, .ref b), (2, .ref o)] [] (cUp o kind N (lF c0 ((M ++ [V 0]).map (fun y => sConv y kind))) (cUp (x + 53) 9 1 V h)) 0 0) : zZ g YX9_logged (zE g (fun v h1 => v = some (.ref o) ∧ ∃ V, h1 = (cUp o kind N (lF c0 ((logL B.2 seed).map (fun y => sConv y kind))) (cUp (x + 53) 9 1 V h))) 0 0) 81 [(8, .int t), (7, .int (drw z)), (6, .int (nI i)), (5, .int z), (4, .int (nI M.length)), (0, .ref x), (1, .ref b), (2, .ref o)] [] (cUp o kind N (lF c0 (M.map (fun y => sConv y kind))) (cUp (x + 53) 9 1 V h)) 0 0 := by
  first | refine z_aload_n dX9_logged_81 rfl rfl ?_ | refine z_aload_nN dX9_logged_81 rfl rfl ?_
  refine z_iload dX9_logged_82 rfl rfl ?_
  first | refine z_aload_n dX9_logged_84 rfl rfl ?_ | refine z_aload_nN dX9_logged_84 rfl rfl ?_
  refine zg_X9_42 rfl dX9_logged_85 rfl ((cUp_out (by omega)).trans ((cUp_out (by omega)).trans hx)) hfx ?_
  refine z_iconst (v := 0) dX9_logged_88 rfl (by decide) ?_
  refine zcv_X9_210 rfl dX9_logged_89 rfl (cUp_at _ _ _ _ _).1 (m_take g (cUp o kind N (lF c0 (M.map (fun y => sConv y kind))) (cUp (x + 53) 9 1 V h)) o _ _ _ (cUp_at _ _ _ _ _) (by omega) M.length (by omega) (x + 53) 9 1 V (cAt_fr (cUp_at (x + 53) 9 1 _ h) (fun y y1 y2 => cUp_out (by omega))) (by decide) 0 (by decide) ov ⟨hk.1, by have := hk.2; grind⟩ hvi) rfl rfl ⟨(Nat.le_of_ble_eq_true rfl), (Nat.le_of_ble_eq_true rfl)⟩ ⟨(Nat.le_of_ble_eq_true rfl), (Nat.le_of_ble_eq_true rfl)⟩ (Nat.le_of_ble_eq_true rfl) ?_
  rw [show uC (lF c0 (M.map (fun y => sConv y kind))) M.length (sConv (V 0) kind) = lF c0 ((M ++ [V 0]).map (fun y => sConv y kind)) from by rw [List.map_append, List.map_singleton, ← lF_s, List.length_map], cUp_up]
  refine z_iinc (v := nI (M.length + 1)) dX9_logged_92 rfl rfl (nI_inc _) (Nat.le_of_ble_eq_true rfl) ?_
  refine z_iinc (v := t2) dX9_logged_95 rfl rfl htt (Nat.le_of_ble_eq_true rfl) ?_
  refine z_goto (tgt := 67) dX9_logged_98 rfl (by decide) ?_
  refine z_lv [(8, .int t2), (7, .int (drw z)), (6, .int (nI i)), (5, .int z), (4, .int (nI (M ++ [V 0]).length)), (0, .ref x), (1, .ref b), (2, .ref o)] (by rw [List.length_append]; exact ⟨rfl, rfl, rfl, rfl, rfl, rfl, rfl, rfl, trivial⟩) ?_
  exact kk

set_option maxHeartbeats 800000 in
set_option maxRecDepth 100000 in
theorem m_logged_L (g : zG) (h : zH) (x b o : Nat) (fx : List Value) (hx : h.2 x = some (.inr (6, fx))) (hfx : fx[4]? = some (.ref (x + 53))) (kind : Int32) (B : sA) (cs : Nat → sC) (oB : aOk B) (hc : cAt h b B.1 B.2.length cs) (hcl : ∀ i, i < B.2.length → cs i = B.2.getD i z0) (N : Nat) (hN : N ≤ 20) (c0 : Nat → sC) (d1 : b + 4 ≤ x + 53 ∨ x + 57 ≤ b) (d2 : b + 4 ≤ o ∨ o + 4 ≤ b) (d3 : x + 57 ≤ o) (h7 : B.1 ≤ 7) (hio : sInto B.1 kind = true) (hk : 0 ≤ kind ∧ kind ≤ 7) (seed : Int32) (hNl : (logL B.2 seed).length = N) : ∀ (T : List sC) (V : Nat → sC) (i : Nat) (z : Int32) (M : List sC), i + T.length = B.2.length → B.2.drop i = T → logL B.2 seed = M ++ logL T z → zZ g YX9_logged (zE g (fun v h1 => v = some (.ref o) ∧ ∃ V, h1 = (cUp o kind N (lF c0 ((logL B.2 seed).map (fun y => sConv y kind))) (cUp (x + 53) 9 1 V h))) 0 0) 9 [(6, .int (nI i)), (5, .int z), (4, .int (nI M.length)), (0, .ref x), (1, .ref b), (2, .ref o)] [] (cUp o kind N (lF c0 (M.map (fun y => sConv y kind))) (cUp (x + 53) 9 1 V h)) 0 0 := by
  have lB : B.2.length ≤ 20 := oB.2.2.1
  intro T
  induction T with
  | nil =>
    intro V i z M hin hT he
    have hin : i + 0 = B.2.length := hin
    have he0 : logL B.2 seed = M := by rw [he]; exact List.append_nil M
    refine z_iload dX9_logged_9 rfl rfl ?_
    first | refine z_aload_n dX9_logged_11 rfl rfl ?_ | refine z_aload_nN dX9_logged_11 rfl rfl ?_
    refine zg_X9_88 rfl dX9_logged_12 rfl (cAt_fr hc (fun y y1 y2 => (cUp_out (by omega)).trans (cUp_out (by omega)))).1 rfl ?_
    refine z_icmp_ge (tgt := 107) dX9_logged_15 rfl (by decide) (fun c15 => ?_) (fun c15 => absurd c15 (fun z => z (nI_le (by omega) (by omega))))
    first | refine z_aload_n dX9_logged_107 rfl rfl ?_ | refine z_aload_nN dX9_logged_107 rfl rfl ?_
    exact z_aret dX9_logged_108 rfl rfl (Or.inl ⟨_, rfl⟩) ⟨rfl, V, by rw [he0]⟩ (Nat.le_of_ble_eq_true rfl) (Nat.le_of_ble_eq_true rfl)
  | cons c T ih =>
    intro V i z M hin hT he
    rw [List.length_cons] at hin
    have hMN : M.length ≤ N := by rw [← hNl, he, List.length_append]; omega
    have hck := cl_ok (h := h) (a := b) oB hcl (show i < B.2.length by omega)
    have hgc : c = cs i := by
      have z2 : (B.2.drop i)[0]? = some c := by rw [hT]; rfl
      rw [List.getElem?_drop, Nat.add_zero] at z2
      rw [hcl i (by omega), List.getD_eq_getElem?_getD, z2]; rfl
    refine z_iload dX9_logged_9 rfl rfl ?_
    first | refine z_aload_n dX9_logged_11 rfl rfl ?_ | refine z_aload_nN dX9_logged_11 rfl rfl ?_
    refine zg_X9_88 rfl dX9_logged_12 rfl (cAt_fr hc (fun y y1 y2 => (cUp_out (by omega)).trans (cUp_out (by omega)))).1 rfl ?_
    refine z_icmp_ge (tgt := 107) dX9_logged_15 rfl (by decide) (fun c15 => absurd c15 (nI_ge (by omega) (by omega))) (fun c15 => ?_)
    refine z_iload dX9_logged_18 rfl rfl ?_
    refine zcx_X9_263 rfl dX9_logged_20 rfl (m_nextState g _ _) rfl rfl ⟨(Nat.le_of_ble_eq_true rfl), (Nat.le_of_ble_eq_true rfl)⟩ ⟨(Nat.le_of_ble_eq_true rfl), (Nat.le_of_ble_eq_true rfl)⟩ (Nat.le_of_ble_eq_true rfl) ?_
    refine z_istore dX9_logged_23 rfl (Nat.le_of_ble_eq_true rfl) ?_
    refine z_iload dX9_logged_25 rfl rfl ?_
    refine zcx_X9_266 rfl dX9_logged_27 rfl (m_drawOf g _ _) rfl rfl ⟨(Nat.le_of_ble_eq_true rfl), (Nat.le_of_ble_eq_true rfl)⟩ ⟨(Nat.le_of_ble_eq_true rfl), (Nat.le_of_ble_eq_true rfl)⟩ (Nat.le_of_ble_eq_true rfl) ?_
    refine z_istore dX9_logged_30 rfl (Nat.le_of_ble_eq_true rfl) ?_
    first | refine z_aload_n dX9_logged_32 rfl rfl ?_ | refine z_aload_nN dX9_logged_32 rfl rfl ?_
    refine zg_X9_42 rfl dX9_logged_33 rfl ((cUp_out (by omega)).trans ((cUp_out (by omega)).trans hx)) hfx ?_
    refine z_iconst (v := 0) dX9_logged_36 rfl (by decide) ?_
    first | refine z_aload_n dX9_logged_37 rfl rfl ?_ | refine z_aload_nN dX9_logged_37 rfl rfl ?_
    refine z_iload dX9_logged_38 rfl rfl ?_
    refine zcv_X9_210 rfl dX9_logged_40 rfl (cAt_fr (cUp_at (x + 53) 9 1 _ h) (fun y y1 y2 => cUp_out (by omega))).1 (m_take g (cUp o kind N (lF c0 (M.map (fun y => sConv y kind))) (cUp (x + 53) 9 1 V h)) (x + 53) 9 1 V (cAt_fr (cUp_at (x + 53) 9 1 _ h) (fun y y1 y2 => cUp_out (by omega))) (by decide) 0 (by decide) b _ _ cs (cAt_fr hc (fun y y1 y2 => (cUp_out (by omega)).trans (cUp_out (by omega)))) (by omega) i (by omega) hck.1 (by decide) (into_9 _)) rfl rfl ⟨(Nat.le_of_ble_eq_true rfl), (Nat.le_of_ble_eq_true rfl)⟩ ⟨(Nat.le_of_ble_eq_true rfl), (Nat.le_of_ble_eq_true rfl)⟩ (Nat.le_of_ble_eq_true rfl) ?_
    rw [show sConv (cs i) 9 = cs i from by unfold sConv; rw [if_pos (by decide)], cUp_in (by omega)]
    refine z_lv [(7, .int (drw (nxt z))), (6, .int (nI i)), (5, .int (nxt z)), (4, .int (nI M.length)), (0, .ref x), (1, .ref b), (2, .ref o)] ⟨rfl, rfl, rfl, rfl, rfl, rfl, rfl, trivial⟩ ?_
    by_cases n0 : wy (nxt z) = 0
    · have hlc : logC c (wy (nxt z)) = [] := by rw [logC, if_pos n0]
      refine z_iload dX9_logged_43 rfl rfl ?_
      refine z_bipush (v := 8) dX9_logged_45 rfl (by decide) ?_
      refine z_irem dX9_logged_47 rfl (by decide) ?_
      refine z_iconst (v := 2) dX9_logged_48 rfl (by decide) ?_
      refine z_icmp_ne (tgt := 60) dX9_logged_49 rfl (by decide) (fun c49 => ?_) (fun c49 => absurd c49 (fun y => absurd (n0.symm.trans y) (by decide)))
      refine z_iload dX9_logged_60 rfl rfl ?_
      refine zcx_X9_297 rfl dX9_logged_62 rfl (m_times g _ _) rfl rfl ⟨(Nat.le_of_ble_eq_true rfl), (Nat.le_of_ble_eq_true rfl)⟩ ⟨(Nat.le_of_ble_eq_true rfl), (Nat.le_of_ble_eq_true rfl)⟩ (Nat.le_of_ble_eq_true rfl) ?_
      rw [show (if drw (nxt z) - drw (nxt z) / 8 * 8 = 0 then (0 : Int32) else if drw (nxt z) - drw (nxt z) / 8 * 8 = 1 then 2 else 1) = 0 from by rw [if_pos (show drw (nxt z) - drw (nxt z) / 8 * 8 = 0 from n0)]]
      refine z_istore dX9_logged_65 rfl (Nat.le_of_ble_eq_true rfl) ?_
      refine z_lv [(8, .int 0), (7, .int (drw (nxt z))), (6, .int (nI i)), (5, .int (nxt z)), (4, .int (nI M.length)), (0, .ref x), (1, .ref b), (2, .ref o)] ⟨rfl, rfl, rfl, rfl, rfl, rfl, rfl, rfl, trivial⟩ ?_
      refine z_iload dX9_logged_67 rfl rfl ?_
      refine z_if_le (tgt := 101) dX9_logged_69 rfl (by decide) (fun c69 => ?_) (fun c69 => absurd c69 (fun y => y (by decide)))
      refine z_iinc (v := nI (i + 1)) dX9_logged_101 rfl rfl (nI_inc i) (Nat.le_of_ble_eq_true rfl) ?_
      refine z_goto (tgt := 9) dX9_logged_104 rfl (by decide) ?_
      refine z_lv [(6, .int (nI (i + 1))), (5, .int (nxt z)), (4, .int (nI M.length)), (0, .ref x), (1, .ref b), (2, .ref o)] ⟨rfl, rfl, rfl, rfl, rfl, rfl, trivial⟩ ?_
      exact ih (uC V 0 (cs i)) (i + 1) (nxt z) M (by omega) (by rw [← List.drop_drop, hT]; rfl) (by rw [he, logL, hlc]; simp only [List.append_assoc, List.cons_append, List.nil_append])
    by_cases n1 : wy (nxt z) = 1
    · have hlc : logC c (wy (nxt z)) = [cs i, cs i] := by rw [logC, if_neg n0, if_pos n1, hgc]
      refine z_iload dX9_logged_43 rfl rfl ?_
      refine z_bipush (v := 8) dX9_logged_45 rfl (by decide) ?_
      refine z_irem dX9_logged_47 rfl (by decide) ?_
      refine z_iconst (v := 2) dX9_logged_48 rfl (by decide) ?_
      refine z_icmp_ne (tgt := 60) dX9_logged_49 rfl (by decide) (fun c49 => ?_) (fun c49 => absurd c49 (fun y => absurd (n1.symm.trans y) (by decide)))
      refine z_iload dX9_logged_60 rfl rfl ?_
      refine zcx_X9_297 rfl dX9_logged_62 rfl (m_times g _ _) rfl rfl ⟨(Nat.le_of_ble_eq_true rfl), (Nat.le_of_ble_eq_true rfl)⟩ ⟨(Nat.le_of_ble_eq_true rfl), (Nat.le_of_ble_eq_true rfl)⟩ (Nat.le_of_ble_eq_true rfl) ?_
      rw [show (if drw (nxt z) - drw (nxt z) / 8 * 8 = 0 then (0 : Int32) else if drw (nxt z) - drw (nxt z) / 8 * 8 = 1 then 2 else 1) = 2 from by rw [if_neg (show ¬ drw (nxt z) - drw (nxt z) / 8 * 8 = 0 from n0), if_pos (show drw (nxt z) - drw (nxt z) / 8 * 8 = 1 from n1)]]
      refine z_istore dX9_logged_65 rfl (Nat.le_of_ble_eq_true rfl) ?_
      refine z_lv [(8, .int 2), (7, .int (drw (nxt z))), (6, .int (nI i)), (5, .int (nxt z)), (4, .int (nI M.length)), (0, .ref x), (1, .ref b), (2, .ref o)] ⟨rfl, rfl, rfl, rfl, rfl, rfl, rfl, rfl, trivial⟩ ?_
      refine z_iload dX9_logged_67 rfl rfl ?_
      refine z_if_le (tgt := 101) dX9_logged_69 rfl (by decide) (fun c69 => absurd c69 (by decide)) (fun c69 => ?_)
      refine z_iload dX9_logged_72 rfl rfl ?_
      first | refine z_aload_n dX9_logged_74 rfl rfl ?_ | refine z_aload_nN dX9_logged_74 rfl rfl ?_
      refine zg_X9_88 rfl dX9_logged_75 rfl (cUp_at _ _ _ _ _).1 rfl ?_
      refine z_icmp_ge (tgt := 101) dX9_logged_78 rfl (by decide) (fun c78 => absurd c78 (nI_ge (by have hlen := congrArg List.length he; rw [hNl, logL, hlc, List.length_append, List.length_append] at hlen; simp only [List.length_append, List.length_cons, List.length_nil] at hlen ⊢; omega) (by omega))) (fun c78 => ?_)
      refine logged_w g h x b o fx hx hfx kind B cs oB hc hcl N hN c0 d1 d2 d3 h7 hio hk seed hNl M (uC V 0 (cs i)) (by have hlen := congrArg List.length he; rw [hNl, logL, hlc, List.length_append, List.length_append] at hlen; simp only [List.length_append, List.length_cons, List.length_nil] at hlen ⊢; omega) i (nxt z) 2 1 (by decide) (hck.1) (by show sInto (cs i).1 kind = true; rw [hck.2.1 h7]; exact hio) ?_
      refine z_iload dX9_logged_67 rfl rfl ?_
      refine z_if_le (tgt := 101) dX9_logged_69 rfl (by decide) (fun c69 => absurd c69 (by decide)) (fun c69 => ?_)
      refine z_iload dX9_logged_72 rfl rfl ?_
      first | refine z_aload_n dX9_logged_74 rfl rfl ?_ | refine z_aload_nN dX9_logged_74 rfl rfl ?_
      refine zg_X9_88 rfl dX9_logged_75 rfl (cUp_at _ _ _ _ _).1 rfl ?_
      refine z_icmp_ge (tgt := 101) dX9_logged_78 rfl (by decide) (fun c78 => absurd c78 (nI_ge (by have hlen := congrArg List.length he; rw [hNl, logL, hlc, List.length_append, List.length_append] at hlen; simp only [List.length_append, List.length_cons, List.length_nil] at hlen ⊢; omega) (by omega))) (fun c78 => ?_)
      refine logged_w g h x b o fx hx hfx kind B cs oB hc hcl N hN c0 d1 d2 d3 h7 hio hk seed hNl (M ++ [cs i]) (uC V 0 (cs i)) (by have hlen := congrArg List.length he; rw [hNl, logL, hlc, List.length_append, List.length_append] at hlen; simp only [List.length_append, List.length_cons, List.length_nil] at hlen ⊢; omega) i (nxt z) 1 0 (by decide) (hck.1) (by show sInto (cs i).1 kind = true; rw [hck.2.1 h7]; exact hio) ?_
      refine z_iload dX9_logged_67 rfl rfl ?_
      refine z_if_le (tgt := 101) dX9_logged_69 rfl (by decide) (fun c69 => ?_) (fun c69 => absurd c69 (fun y => y (by decide)))
      refine z_iinc (v := nI (i + 1)) dX9_logged_101 rfl rfl (nI_inc i) (Nat.le_of_ble_eq_true rfl) ?_
      refine z_goto (tgt := 9) dX9_logged_104 rfl (by decide) ?_
      refine z_lv [(6, .int (nI (i + 1))), (5, .int (nxt z)), (4, .int (nI ((M ++ [cs i]) ++ [cs i]).length)), (0, .ref x), (1, .ref b), (2, .ref o)] ⟨rfl, rfl, rfl, rfl, rfl, rfl, trivial⟩ ?_
      exact ih (uC V 0 (cs i)) (i + 1) (nxt z) ((M ++ [cs i]) ++ [cs i]) (by omega) (by rw [← List.drop_drop, hT]; rfl) (by rw [he, logL, hlc]; simp only [List.append_assoc, List.cons_append, List.nil_append])
    by_cases n2 : wy (nxt z) = 2
    · have hlc : logC c (wy (nxt z)) = [sStray (cs i)] := by rw [logC, if_neg n0, if_neg n1, if_pos n2, hgc]
      refine z_iload dX9_logged_43 rfl rfl ?_
      refine z_bipush (v := 8) dX9_logged_45 rfl (by decide) ?_
      refine z_irem dX9_logged_47 rfl (by decide) ?_
      refine z_iconst (v := 2) dX9_logged_48 rfl (by decide) ?_
      refine z_icmp_ne (tgt := 60) dX9_logged_49 rfl (by decide) (fun c49 => absurd c49 (fun y => y n2)) (fun c49 => ?_)
      first | refine z_aload_n dX9_logged_52 rfl rfl ?_ | refine z_aload_nN dX9_logged_52 rfl rfl ?_
      refine zg_X9_42 rfl dX9_logged_53 rfl ((cUp_out (by omega)).trans ((cUp_out (by omega)).trans hx)) hfx ?_
      refine z_iconst (v := 0) dX9_logged_56 rfl (by decide) ?_
      refine zcv_X9_300 rfl dX9_logged_57 rfl (cAt_fr (cUp_at (x + 53) 9 1 _ h) (fun y y1 y2 => cUp_out (by omega))).1 (m_falsify g (cUp o kind N (lF c0 (M.map (fun y => sConv y kind))) (cUp (x + 53) 9 1 (uC V 0 (cs i)) h)) (x + 53) 9 1 (uC V 0 (cs i)) (cAt_fr (cUp_at (x + 53) 9 1 _ h) (fun y y1 y2 => cUp_out (by omega))) (by decide) 0 (by decide) hck.1 (by show (cs i).1 ≤ 7; rw [hck.2.1 h7]; exact h7)) rfl rfl ⟨(Nat.le_of_ble_eq_true rfl), (Nat.le_of_ble_eq_true rfl)⟩ ⟨(Nat.le_of_ble_eq_true rfl), (Nat.le_of_ble_eq_true rfl)⟩ (Nat.le_of_ble_eq_true rfl) ?_
      rw [show sStray ((uC V 0 (cs i)) 0) = sStray (cs i) from rfl, cUp_in (by omega)]
      refine z_iload dX9_logged_60 rfl rfl ?_
      refine zcx_X9_297 rfl dX9_logged_62 rfl (m_times g _ _) rfl rfl ⟨(Nat.le_of_ble_eq_true rfl), (Nat.le_of_ble_eq_true rfl)⟩ ⟨(Nat.le_of_ble_eq_true rfl), (Nat.le_of_ble_eq_true rfl)⟩ (Nat.le_of_ble_eq_true rfl) ?_
      rw [show (if drw (nxt z) - drw (nxt z) / 8 * 8 = 0 then (0 : Int32) else if drw (nxt z) - drw (nxt z) / 8 * 8 = 1 then 2 else 1) = 1 from by rw [if_neg (show ¬ drw (nxt z) - drw (nxt z) / 8 * 8 = 0 from n0), if_neg (show ¬ drw (nxt z) - drw (nxt z) / 8 * 8 = 1 from n1)]]
      refine z_istore dX9_logged_65 rfl (Nat.le_of_ble_eq_true rfl) ?_
      refine z_lv [(8, .int 1), (7, .int (drw (nxt z))), (6, .int (nI i)), (5, .int (nxt z)), (4, .int (nI M.length)), (0, .ref x), (1, .ref b), (2, .ref o)] ⟨rfl, rfl, rfl, rfl, rfl, rfl, rfl, rfl, trivial⟩ ?_
      refine z_iload dX9_logged_67 rfl rfl ?_
      refine z_if_le (tgt := 101) dX9_logged_69 rfl (by decide) (fun c69 => absurd c69 (by decide)) (fun c69 => ?_)
      refine z_iload dX9_logged_72 rfl rfl ?_
      first | refine z_aload_n dX9_logged_74 rfl rfl ?_ | refine z_aload_nN dX9_logged_74 rfl rfl ?_
      refine zg_X9_88 rfl dX9_logged_75 rfl (cUp_at _ _ _ _ _).1 rfl ?_
      refine z_icmp_ge (tgt := 101) dX9_logged_78 rfl (by decide) (fun c78 => absurd c78 (nI_ge (by have hlen := congrArg List.length he; rw [hNl, logL, hlc, List.length_append, List.length_append] at hlen; simp only [List.length_append, List.length_cons, List.length_nil] at hlen ⊢; omega) (by omega))) (fun c78 => ?_)
      refine logged_w g h x b o fx hx hfx kind B cs oB hc hcl N hN c0 d1 d2 d3 h7 hio hk seed hNl M (uC (uC V 0 (cs i)) 0 (sStray (cs i))) (by have hlen := congrArg List.length he; rw [hNl, logL, hlc, List.length_append, List.length_append] at hlen; simp only [List.length_append, List.length_cons, List.length_nil] at hlen ⊢; omega) i (nxt z) 1 0 (by decide) (stray_ok hck.1 (by rw [hck.2.1 h7]; exact h7)) (by show sInto (sStray (cs i)).1 kind = true; rw [stray_1, hck.2.1 h7]; exact hio) ?_
      refine z_iload dX9_logged_67 rfl rfl ?_
      refine z_if_le (tgt := 101) dX9_logged_69 rfl (by decide) (fun c69 => ?_) (fun c69 => absurd c69 (fun y => y (by decide)))
      refine z_iinc (v := nI (i + 1)) dX9_logged_101 rfl rfl (nI_inc i) (Nat.le_of_ble_eq_true rfl) ?_
      refine z_goto (tgt := 9) dX9_logged_104 rfl (by decide) ?_
      refine z_lv [(6, .int (nI (i + 1))), (5, .int (nxt z)), (4, .int (nI (M ++ [sStray (cs i)]).length)), (0, .ref x), (1, .ref b), (2, .ref o)] ⟨rfl, rfl, rfl, rfl, rfl, rfl, trivial⟩ ?_
      exact ih (uC (uC V 0 (cs i)) 0 (sStray (cs i))) (i + 1) (nxt z) (M ++ [sStray (cs i)]) (by omega) (by rw [← List.drop_drop, hT]; rfl) (by rw [he, logL, hlc]; simp only [List.append_assoc, List.cons_append, List.nil_append])
    have hlc : logC c (wy (nxt z)) = [cs i] := by rw [logC, if_neg n0, if_neg n1, if_neg n2, hgc]
    refine z_iload dX9_logged_43 rfl rfl ?_
    refine z_bipush (v := 8) dX9_logged_45 rfl (by decide) ?_
    refine z_irem dX9_logged_47 rfl (by decide) ?_
    refine z_iconst (v := 2) dX9_logged_48 rfl (by decide) ?_
    refine z_icmp_ne (tgt := 60) dX9_logged_49 rfl (by decide) (fun c49 => ?_) (fun c49 => absurd c49 n2)
    refine z_iload dX9_logged_60 rfl rfl ?_
    refine zcx_X9_297 rfl dX9_logged_62 rfl (m_times g _ _) rfl rfl ⟨(Nat.le_of_ble_eq_true rfl), (Nat.le_of_ble_eq_true rfl)⟩ ⟨(Nat.le_of_ble_eq_true rfl), (Nat.le_of_ble_eq_true rfl)⟩ (Nat.le_of_ble_eq_true rfl) ?_
    rw [show (if drw (nxt z) - drw (nxt z) / 8 * 8 = 0 then (0 : Int32) else if drw (nxt z) - drw (nxt z) / 8 * 8 = 1 then 2 else 1) = 1 from by rw [if_neg (show ¬ drw (nxt z) - drw (nxt z) / 8 * 8 = 0 from n0), if_neg (show ¬ drw (nxt z) - drw (nxt z) / 8 * 8 = 1 from n1)]]
    refine z_istore dX9_logged_65 rfl (Nat.le_of_ble_eq_true rfl) ?_
    refine z_lv [(8, .int 1), (7, .int (drw (nxt z))), (6, .int (nI i)), (5, .int (nxt z)), (4, .int (nI M.length)), (0, .ref x), (1, .ref b), (2, .ref o)] ⟨rfl, rfl, rfl, rfl, rfl, rfl, rfl, rfl, trivial⟩ ?_
    refine z_iload dX9_logged_67 rfl rfl ?_
    refine z_if_le (tgt := 101) dX9_logged_69 rfl (by decide) (fun c69 => absurd c69 (by decide)) (fun c69 => ?_)
    refine z_iload dX9_logged_72 rfl rfl ?_
    first | refine z_aload_n dX9_logged_74 rfl rfl ?_ | refine z_aload_nN dX9_logged_74 rfl rfl ?_
    refine zg_X9_88 rfl dX9_logged_75 rfl (cUp_at _ _ _ _ _).1 rfl ?_
    refine z_icmp_ge (tgt := 101) dX9_logged_78 rfl (by decide) (fun c78 => absurd c78 (nI_ge (by have hlen := congrArg List.length he; rw [hNl, logL, hlc, List.length_append, List.length_append] at hlen; simp only [List.length_append, List.length_cons, List.length_nil] at hlen ⊢; omega) (by omega))) (fun c78 => ?_)
    refine logged_w g h x b o fx hx hfx kind B cs oB hc hcl N hN c0 d1 d2 d3 h7 hio hk seed hNl M (uC V 0 (cs i)) (by have hlen := congrArg List.length he; rw [hNl, logL, hlc, List.length_append, List.length_append] at hlen; simp only [List.length_append, List.length_cons, List.length_nil] at hlen ⊢; omega) i (nxt z) 1 0 (by decide) (hck.1) (by show sInto (cs i).1 kind = true; rw [hck.2.1 h7]; exact hio) ?_
    refine z_iload dX9_logged_67 rfl rfl ?_
    refine z_if_le (tgt := 101) dX9_logged_69 rfl (by decide) (fun c69 => ?_) (fun c69 => absurd c69 (fun y => y (by decide)))
    refine z_iinc (v := nI (i + 1)) dX9_logged_101 rfl rfl (nI_inc i) (Nat.le_of_ble_eq_true rfl) ?_
    refine z_goto (tgt := 9) dX9_logged_104 rfl (by decide) ?_
    refine z_lv [(6, .int (nI (i + 1))), (5, .int (nxt z)), (4, .int (nI (M ++ [cs i]).length)), (0, .ref x), (1, .ref b), (2, .ref o)] ⟨rfl, rfl, rfl, rfl, rfl, rfl, trivial⟩ ?_
    exact ih (uC V 0 (cs i)) (i + 1) (nxt z) (M ++ [cs i]) (by omega) (by rw [← List.drop_drop, hT]; rfl) (by rw [he, logL, hlc]; simp only [List.append_assoc, List.cons_append, List.nil_append])

