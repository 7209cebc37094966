set_option maxHeartbeats 4000000 in
set_option maxRecDepth 100000 in
/-- X9_nextState -/
theorem m_nextState (g : zG) (h : zH) (x : Int32) : zX g yX9_nextState cX9_nextState 1 (some .int) rmX9_nextState [.int x] h (.int (nxt x)) h := by
  refine zM_of (by decide) (Nat.le_of_ble_eq_true rfl) ?_
  refine z_iload_n dX9_nextState_0 rfl rfl ?_
  refine zk_X9_296w rfl dX9_nextState_1 rfl ?_
  refine z_imul dX9_nextState_4 rfl ?_
  refine z_sipush (v := 12345) dX9_nextState_5 rfl (by decide) ?_
  refine z_iadd dX9_nextState_8 rfl ?_
  exact z_iret dX9_nextState_9 rfl rfl ⟨rfl, rfl⟩ (Nat.le_of_ble_eq_true rfl) (Nat.le_of_ble_eq_true rfl)

set_option maxHeartbeats 4000000 in
set_option maxRecDepth 100000 in
/-- X9_drawOf -/
theorem m_drawOf (g : zG) (h : zH) (x : Int32) : zX g yX9_drawOf cX9_drawOf 1 (some .int) rmX9_drawOf [.int x] h (.int (drw x)) h := by
  refine zM_of (by decide) (Nat.le_of_ble_eq_true rfl) ?_
  refine z_iload_n dX9_drawOf_0 rfl rfl ?_
  refine z_bipush (v := 16) dX9_drawOf_1 rfl (by decide) ?_
  refine z_ishr dX9_drawOf_3 rfl ?_
  rw [show (16 : Int32) &&& 31 = 16 from by decide]
  refine z_sipush (v := 32767) dX9_drawOf_4 rfl (by decide) ?_
  refine z_iand dX9_drawOf_7 rfl ?_
  exact z_iret dX9_drawOf_8 rfl rfl ⟨rfl, rfl⟩ (Nat.le_of_ble_eq_true rfl) (Nat.le_of_ble_eq_true rfl)

set_option maxHeartbeats 4000000 in
set_option maxRecDepth 100000 in
/-- X9_timesWritten -/
theorem m_times (g : zG) (h : zH) (u : Int32) : zX g yX9_timesWritten cX9_timesWritten 1 (some .int) rmX9_timesWritten [.int u] h (.int (if u - u / 8 * 8 = 0 then 0 else if u - u / 8 * 8 = 1 then 2 else 1)) h := by
  refine zM_of (by decide) (Nat.le_of_ble_eq_true rfl) ?_
  refine z_iload_n dX9_timesWritten_0 rfl rfl ?_
  refine z_bipush (v := 8) dX9_timesWritten_1 rfl (by decide) ?_
  refine z_irem dX9_timesWritten_3 rfl (by decide) ?_
  refine z_if_ne (tgt := 9) dX9_timesWritten_4 rfl (by decide) (fun c4 => ?_) (fun c4 => ?_)
  · skip
    refine z_iload_n dX9_timesWritten_9 rfl rfl ?_
    refine z_bipush (v := 8) dX9_timesWritten_10 rfl (by decide) ?_
    refine z_irem dX9_timesWritten_12 rfl (by decide) ?_
    refine z_iconst (v := 1) dX9_timesWritten_13 rfl (by decide) ?_
    refine z_icmp_ne (tgt := 21) dX9_timesWritten_14 rfl (by decide) (fun c14 => ?_) (fun c14 => ?_)
    · skip
      refine z_iconst (v := 1) dX9_timesWritten_21 rfl (by decide) ?_
      exact z_iret dX9_timesWritten_22 rfl rfl ⟨by grind, rfl⟩ (Nat.le_of_ble_eq_true rfl) (Nat.le_of_ble_eq_true rfl)
    · skip
      refine z_iconst (v := 2) dX9_timesWritten_17 rfl (by decide) ?_
      refine z_goto (tgt := 22) dX9_timesWritten_18 rfl (by decide) ?_
      exact z_iret dX9_timesWritten_22 rfl rfl ⟨by grind, rfl⟩ (Nat.le_of_ble_eq_true rfl) (Nat.le_of_ble_eq_true rfl)
  · skip
    refine z_iconst (v := 0) dX9_timesWritten_7 rfl (by decide) ?_
    exact z_iret dX9_timesWritten_8 rfl rfl ⟨by grind, rfl⟩ (Nat.le_of_ble_eq_true rfl) (Nat.le_of_ble_eq_true rfl)

theorem drC_conv {kind : Int32} (hk : 0 ≤ kind ∧ kind ≤ 10) (x : Int32) : sConv (drC kind (drw x)) kind = drC kind (drw x) := by
  have h := drC_ok hk x
  by_cases h7 : kind ≤ 7
  · refine conv_fit h.1 ⟨fun _ => ?_, fun z => absurd h7 (by grind)⟩ hk.1
    rw [drC_1, drS, if_neg (by intro z; rw [z] at h7; exact absurd h7 (by decide))]
  · unfold sConv
    rw [if_pos (by grind)]

abbrev YX9_draw : zY := (yX9_draw.cls, cX9_draw, 11, (some .int), rmX9_draw, yX9_draw.name, fun _ _ => True)
set_option maxHeartbeats 800000 in
set_option maxRecDepth 100000 in
theorem C_draw_L (g : zG) (h : zH) (x m : Nat) (w : sW) (col : Nat → Nat) (p : Nat) (F : Nat → Option Nat) (Z : Nat → Int32) (k : Option Nat) (I P : Nat → Option Nat) (q : Nat → Int32) (T : alT) (V : Nat → sC) (hR : RC h x m w col p F Z k I P q T V) (r kind seed : Int32) (N : Nat) (hr1 : isRec r) (hk : 0 ≤ kind ∧ kind ≤ 10) (hn : 0 ≤ nI N ∧ nI N ≤ 20) (hN : N ≤ 20) : ∀ (n : Nat) (z : Int32) (M : List sC) (i : Nat), i + n = N → M.length = i → drawL kind N seed = M ++ drawL kind n z → M.map (fun y => sConv y kind) = M → zZ g YX9_draw (zE g (cPost x m h (pDraw w r kind (nI N) seed)) 4 125) 47 [(7, .int (nI i)), (6, .int z), (5, .ref h.1), (0, .ref x), (1, .int r), (2, .int kind), (3, .int (nI N))] [] (cUp h.1 kind N (lF (cIn kind N) M) (h.1 + 4, h.2)) 4 125 := by
  obtain ⟨hw, hz, hS, hq, hr, hX⟩ := id hR
  obtain ⟨S0, S1, S2, S3, S4, S5⟩ := id hS
  obtain ⟨R0, R1, R2, R3⟩ := id hr
  intro n
  induction n with
  | zero =>
    intro z M i hin hMi he hMc
    have he0 : drawL kind N seed = M := by rw [he]; exact List.append_nil M
    refine z_iload dX9_draw_47 rfl rfl ?_
    refine z_iload_n dX9_draw_49 rfl rfl ?_
    refine z_icmp_ge (tgt := 149) dX9_draw_50 rfl (by decide) (fun c50 => ?_) (fun c50 => absurd c50 (fun z => z (nI_le (by omega) (by omega))))
    have hp3 := wf_lt hw R0.2.2
    have hP1 : rAt (cUp h.1 kind N (lF (cIn kind N) M) (h.1 + 4, h.2)) p F Z := rAt_fr R0 (fun z z1 z2 => cUp_out (by omega))
    have hx1 : (cUp h.1 kind N (lF (cIn kind N) M) (h.1 + 4, h.2)).2 x = _ := (cUp_out (by have := hz.1; have := hz.2.1; omega)).trans S0
    first | refine z_aload_n dX9_draw_149 rfl rfl ?_ | refine z_aload_nN dX9_draw_149 rfl rfl ?_
    refine zg_X9_10 rfl dX9_draw_150 rfl hx1 rfl ?_
    refine z_iload_n dX9_draw_153 rfl rfl ?_
    first | refine z_aload dX9_draw_154 rfl rfl ?_ | refine z_aloadN dX9_draw_154 rfl rfl ?_
    refine zcv_X9_54 rfl dX9_draw_156 rfl hP1.1 (m_holdI g _ p F Z hP1 r hr1 h.1 _ (cUp_at _ _ _ _ _).1) rfl rfl ⟨(Nat.le_of_ble_eq_true rfl), (Nat.le_of_ble_eq_true rfl)⟩ ⟨(Nat.le_of_ble_eq_true rfl), (Nat.le_of_ble_eq_true rfl)⟩ (Nat.le_of_ble_eq_true rfl) ?_
    refine z_iconst (v := 1) dX9_draw_159 rfl (by decide) ?_
    exact z_iret dX9_draw_160 rfl rfl (cPost_new hR (wf_cUp hw _ _ _) (Nat.le_add_right _ _) (fun z hz2 => cUp_out (Or.inl hz2)) (Nat.le_refl _) (A := (kind, (drawL kind N seed).map (fun y => sConv y kind))) (map_cIs hk (by rw [drawL_len]; exact hN) (drawL_ok hk _ _) (by rw [drawL_len]; exact cUp_at _ _ _ _ _) (fun i hi => by rw [drawL_len] at hi; rw [lF_at (by omega), he0, hMc])) (draw_ok hr1 hk hn hN)) (Nat.le_of_ble_eq_true rfl) (Nat.le_of_ble_eq_true rfl)
  | succ n ih =>
    intro z M i hin hMi he hMc
    have kk : ∀ s, s = drS kind (drw (nxt z)) → zZ g YX9_draw (zE g (cPost x m h (pDraw w r kind (nI N) seed)) 4 125) 95 [(9, .int (drV (drw (nxt z)))), (8, .int (drw (nxt z))), (7, .int (nI i)), (6, .int (nxt z)), (5, .ref h.1), (0, .ref x), (1, .int r), (2, .int kind), (3, .int (nI N))] [.int s] (cUp h.1 kind N (lF (cIn kind N) M) (h.1 + 4, h.2)) 4 125 := by
      intro s hs
      subst hs
      refine z_istore dX9_draw_95 rfl (Nat.le_of_ble_eq_true rfl) ?_
      by_cases hs5 : drS kind (drw (nxt z)) = 5
      · by_cases h1 : drw (nxt z) / 16 - drw (nxt z) / 16 / 2 * 2 = 1
        · skip
          refine z_iload dX9_draw_97 rfl rfl ?_
          refine z_iconst (v := 5) dX9_draw_99 rfl (by decide) ?_
          refine z_icmp_ne (tgt := 132) dX9_draw_100 rfl (by decide) (fun c100 => absurd c100 (fun y => y hs5)) (fun c100 => ?_)
          refine z_iload dX9_draw_103 rfl rfl ?_
          refine z_bipush (v := 16) dX9_draw_105 rfl (by decide) ?_
          refine z_idiv dX9_draw_107 rfl (by decide) ?_
          refine z_iconst (v := 2) dX9_draw_108 rfl (by decide) ?_
          refine z_irem dX9_draw_109 rfl (by decide) ?_
          refine z_iconst (v := 1) dX9_draw_110 rfl (by decide) ?_
          refine z_icmp_ne (tgt := 132) dX9_draw_111 rfl (by decide) (fun c111 => absurd c111 (fun y => y h1)) (fun c111 => ?_)
          first | refine z_aload dX9_draw_114 rfl rfl ?_ | refine z_aloadN dX9_draw_114 rfl rfl ?_
          refine z_iload dX9_draw_116 rfl rfl ?_
          refine z_iconst (v := 5) dX9_draw_118 rfl (by decide) ?_
          refine z_iload dX9_draw_119 rfl rfl ?_
          refine z_i2l dX9_draw_121 rfl ?_
          refine zk_X9_269 rfl dX9_draw_122 rfl ?_
          refine z_lmul dX9_draw_125 rfl ?_
          refine zcv_X9_271 rfl dX9_draw_126 rfl (cUp_at _ _ _ _ _).1 (m_setWhole g (cUp h.1 kind N (lF (cIn kind N) M) (h.1 + 4, h.2)) h.1 _ _ _ (cUp_at _ _ _ _ _) (by omega) i (by omega) _ _) rfl rfl ⟨(Nat.le_of_ble_eq_true rfl), (Nat.le_of_ble_eq_true rfl)⟩ ⟨(Nat.le_of_ble_eq_true rfl), (Nat.le_of_ble_eq_true rfl)⟩ (Nat.le_of_ble_eq_true rfl) ?_
          refine z_goto (tgt := 143) dX9_draw_129 rfl (by decide) ?_
          rw [show ((5, (drV (drw (nxt z))).toInt64 * 1000000007, 0) : sC) = (drC kind (drw (nxt z))) from by rw [drC, if_pos ⟨hs5, h1⟩]]
          rw [show uC (lF (cIn kind N) M) i (drC kind (drw (nxt z))) = lF (cIn kind N) (M ++ [(drC kind (drw (nxt z)))]) from by rw [← lF_s, hMi], cUp_up]
          refine z_iinc (v := nI (i + 1)) dX9_draw_143 rfl rfl (nI_inc i) (Nat.le_of_ble_eq_true rfl) ?_
          refine z_goto (tgt := 47) dX9_draw_146 rfl (by decide) ?_
          refine z_lv [(7, .int (nI (i + 1))), (6, .int (nxt z)), (5, .ref h.1), (0, .ref x), (1, .int r), (2, .int kind), (3, .int (nI N))] ⟨rfl, rfl, rfl, rfl, rfl, rfl, rfl, trivial⟩ ?_
          exact ih (nxt z) (M ++ [(drC kind (drw (nxt z)))]) (i + 1) (by omega) (by rw [List.length_append, hMi]; rfl) (by rw [he, drawL]; simp only [List.append_assoc, List.cons_append, List.nil_append]) (by rw [List.map_append, List.map_singleton, hMc, drC_conv hk])
        · have hno : ¬ (drS kind (drw (nxt z)) = 5 ∧ drw (nxt z) / 16 - drw (nxt z) / 16 / 2 * 2 = 1) := fun y => h1 y.2
          refine z_iload dX9_draw_97 rfl rfl ?_
          refine z_iconst (v := 5) dX9_draw_99 rfl (by decide) ?_
          refine z_icmp_ne (tgt := 132) dX9_draw_100 rfl (by decide) (fun c100 => absurd c100 (fun y => y hs5)) (fun c100 => ?_)
          refine z_iload dX9_draw_103 rfl rfl ?_
          refine z_bipush (v := 16) dX9_draw_105 rfl (by decide) ?_
          refine z_idiv dX9_draw_107 rfl (by decide) ?_
          refine z_iconst (v := 2) dX9_draw_108 rfl (by decide) ?_
          refine z_irem dX9_draw_109 rfl (by decide) ?_
          refine z_iconst (v := 1) dX9_draw_110 rfl (by decide) ?_
          refine z_icmp_ne (tgt := 132) dX9_draw_111 rfl (by decide) (fun c111 => ?_) (fun c111 => absurd c111 h1)
          first | refine z_aload dX9_draw_132 rfl rfl ?_ | refine z_aloadN dX9_draw_132 rfl rfl ?_
          refine z_iload dX9_draw_134 rfl rfl ?_
          refine z_iload dX9_draw_136 rfl rfl ?_
          refine z_iload dX9_draw_138 rfl rfl ?_
          refine zcv_X9_110 rfl dX9_draw_140 rfl (cUp_at _ _ _ _ _).1 (m_setValue g (cUp h.1 kind N (lF (cIn kind N) M) (h.1 + 4, h.2)) h.1 _ _ _ (cUp_at _ _ _ _ _) (by omega) i (by omega) _ _) rfl rfl ⟨(Nat.le_of_ble_eq_true rfl), (Nat.le_of_ble_eq_true rfl)⟩ ⟨(Nat.le_of_ble_eq_true rfl), (Nat.le_of_ble_eq_true rfl)⟩ (Nat.le_of_ble_eq_true rfl) ?_
          rw [show sVal (drS kind (drw (nxt z))) (drV (drw (nxt z))) = (drC kind (drw (nxt z))) from by rw [drC, if_neg hno]]
          rw [show uC (lF (cIn kind N) M) i (drC kind (drw (nxt z))) = lF (cIn kind N) (M ++ [(drC kind (drw (nxt z)))]) from by rw [← lF_s, hMi], cUp_up]
          refine z_iinc (v := nI (i + 1)) dX9_draw_143 rfl rfl (nI_inc i) (Nat.le_of_ble_eq_true rfl) ?_
          refine z_goto (tgt := 47) dX9_draw_146 rfl (by decide) ?_
          refine z_lv [(7, .int (nI (i + 1))), (6, .int (nxt z)), (5, .ref h.1), (0, .ref x), (1, .int r), (2, .int kind), (3, .int (nI N))] ⟨rfl, rfl, rfl, rfl, rfl, rfl, rfl, trivial⟩ ?_
          exact ih (nxt z) (M ++ [(drC kind (drw (nxt z)))]) (i + 1) (by omega) (by rw [List.length_append, hMi]; rfl) (by rw [he, drawL]; simp only [List.append_assoc, List.cons_append, List.nil_append]) (by rw [List.map_append, List.map_singleton, hMc, drC_conv hk])
      · have hno : ¬ (drS kind (drw (nxt z)) = 5 ∧ drw (nxt z) / 16 - drw (nxt z) / 16 / 2 * 2 = 1) := fun y => hs5 y.1
        refine z_iload dX9_draw_97 rfl rfl ?_
        refine z_iconst (v := 5) dX9_draw_99 rfl (by decide) ?_
        refine z_icmp_ne (tgt := 132) dX9_draw_100 rfl (by decide) (fun c100 => ?_) (fun c100 => absurd c100 hs5)
        first | refine z_aload dX9_draw_132 rfl rfl ?_ | refine z_aloadN dX9_draw_132 rfl rfl ?_
        refine z_iload dX9_draw_134 rfl rfl ?_
        refine z_iload dX9_draw_136 rfl rfl ?_
        refine z_iload dX9_draw_138 rfl rfl ?_
        refine zcv_X9_110 rfl dX9_draw_140 rfl (cUp_at _ _ _ _ _).1 (m_setValue g (cUp h.1 kind N (lF (cIn kind N) M) (h.1 + 4, h.2)) h.1 _ _ _ (cUp_at _ _ _ _ _) (by omega) i (by omega) _ _) rfl rfl ⟨(Nat.le_of_ble_eq_true rfl), (Nat.le_of_ble_eq_true rfl)⟩ ⟨(Nat.le_of_ble_eq_true rfl), (Nat.le_of_ble_eq_true rfl)⟩ (Nat.le_of_ble_eq_true rfl) ?_
        rw [show sVal (drS kind (drw (nxt z))) (drV (drw (nxt z))) = (drC kind (drw (nxt z))) from by rw [drC, if_neg hno]]
        rw [show uC (lF (cIn kind N) M) i (drC kind (drw (nxt z))) = lF (cIn kind N) (M ++ [(drC kind (drw (nxt z)))]) from by rw [← lF_s, hMi], cUp_up]
        refine z_iinc (v := nI (i + 1)) dX9_draw_143 rfl rfl (nI_inc i) (Nat.le_of_ble_eq_true rfl) ?_
        refine z_goto (tgt := 47) dX9_draw_146 rfl (by decide) ?_
        refine z_lv [(7, .int (nI (i + 1))), (6, .int (nxt z)), (5, .ref h.1), (0, .ref x), (1, .int r), (2, .int kind), (3, .int (nI N))] ⟨rfl, rfl, rfl, rfl, rfl, rfl, rfl, trivial⟩ ?_
        exact ih (nxt z) (M ++ [(drC kind (drw (nxt z)))]) (i + 1) (by omega) (by rw [List.length_append, hMi]; rfl) (by rw [he, drawL]; simp only [List.append_assoc, List.cons_append, List.nil_append]) (by rw [List.map_append, List.map_singleton, hMc, drC_conv hk])
    refine z_iload dX9_draw_47 rfl rfl ?_
    refine z_iload_n dX9_draw_49 rfl rfl ?_
    refine z_icmp_ge (tgt := 149) dX9_draw_50 rfl (by decide) (fun c50 => absurd c50 (nI_ge (by omega) (by omega))) (fun c50 => ?_)
    refine z_iload dX9_draw_53 rfl rfl ?_
    refine zcx_X9_263 rfl dX9_draw_55 rfl (m_nextState g _ _) rfl rfl ⟨(Nat.le_of_ble_eq_true rfl), (Nat.le_of_ble_eq_true rfl)⟩ ⟨(Nat.le_of_ble_eq_true rfl), (Nat.le_of_ble_eq_true rfl)⟩ (Nat.le_of_ble_eq_true rfl) ?_
    refine z_istore dX9_draw_58 rfl (Nat.le_of_ble_eq_true rfl) ?_
    refine z_iload dX9_draw_60 rfl rfl ?_
    refine zcx_X9_266 rfl dX9_draw_62 rfl (m_drawOf g _ _) rfl rfl ⟨(Nat.le_of_ble_eq_true rfl), (Nat.le_of_ble_eq_true rfl)⟩ ⟨(Nat.le_of_ble_eq_true rfl), (Nat.le_of_ble_eq_true rfl)⟩ (Nat.le_of_ble_eq_true rfl) ?_
    refine z_istore dX9_draw_65 rfl (Nat.le_of_ble_eq_true rfl) ?_
    refine z_iload dX9_draw_67 rfl rfl ?_
    refine z_bipush (v := 16) dX9_draw_69 rfl (by decide) ?_
    refine z_idiv dX9_draw_71 rfl (by decide) ?_
    refine z_bipush (v := 64) dX9_draw_72 rfl (by decide) ?_
    refine z_irem dX9_draw_74 rfl (by decide) ?_
    refine z_bipush (v := 8) dX9_draw_75 rfl (by decide) ?_
    refine z_isub dX9_draw_77 rfl ?_
    change zZ _ _ _ _ _ (.int (drV (drw (nxt z))) :: _) _ _ _
    refine z_istore dX9_draw_78 rfl (Nat.le_of_ble_eq_true rfl) ?_
    refine z_iload_n dX9_draw_80 rfl rfl ?_
    refine z_bipush (v := 9) dX9_draw_81 rfl (by decide) ?_
    refine z_icmp_ne (tgt := 94) dX9_draw_83 rfl (by decide) (fun c83 => ?_) (fun c83 => ?_)
    · skip
      refine z_iload_n dX9_draw_94 rfl rfl ?_
      refine z_lv [(9, .int (drV (drw (nxt z)))), (8, .int (drw (nxt z))), (7, .int (nI i)), (6, .int (nxt z)), (5, .ref h.1), (0, .ref x), (1, .int r), (2, .int kind), (3, .int (nI N))] ⟨rfl, rfl, rfl, rfl, rfl, rfl, rfl, rfl, rfl, trivial⟩ ?_
      exact kk _ (by first | rw [drS, if_pos c83] | rw [drS, if_neg c83])
    · skip
      refine z_iload dX9_draw_86 rfl rfl ?_
      refine z_bipush (v := 11) dX9_draw_88 rfl (by decide) ?_
      refine z_irem dX9_draw_90 rfl (by decide) ?_
      refine z_goto (tgt := 95) dX9_draw_91 rfl (by decide) ?_
      refine z_lv [(9, .int (drV (drw (nxt z)))), (8, .int (drw (nxt z))), (7, .int (nI i)), (6, .int (nxt z)), (5, .ref h.1), (0, .ref x), (1, .int r), (2, .int kind), (3, .int (nI N))] ⟨rfl, rfl, rfl, rfl, rfl, rfl, rfl, rfl, rfl, trivial⟩ ?_
      exact kk _ (by first | rw [drS, if_pos c83] | rw [drS, if_neg c83])

set_option maxHeartbeats 800000 in
set_option maxRecDepth 100000 in
theorem C_draw (g : zG) (h : zH) (x m : Nat) (w : sW) (hRC : RepC h x m w) (r kind n seed : Int32) : zM g yX9_draw cX9_draw 11 (some .int) rmX9_draw [.ref x, .int r, .int kind, .int n, .int seed] h (cPost x m h (pDraw w r kind n seed)) := by
  refine zM_of (by decide) (Nat.le_of_ble_eq_true rfl) ?_
  obtain ⟨col, p, F, Z, k, I, P, q, T, V, hR⟩ := id hRC
  obtain ⟨hw, hz, hS, hq, hr, hX⟩ := id hR
  obtain ⟨S0, S1, S2, S3, S4, S5⟩ := id hS
  obtain ⟨R0, R1, R2, R3⟩ := id hr
  refine z_iload_n dX9_draw_0 rfl rfl ?_
  refine zcx_X9_46 rfl dX9_draw_1 rfl (m_isRecord g h _) rfl rfl ⟨(Nat.le_of_ble_eq_true rfl), (Nat.le_of_ble_eq_true rfl)⟩ ⟨(Nat.le_of_ble_eq_true rfl), (Nat.le_of_ble_eq_true rfl)⟩ (Nat.le_of_ble_eq_true rfl) ?_
  refine z_bif_eq (tgt := 27) dX9_draw_4 rfl (by decide) (fun c4 => ?_) (fun c4 => ?_)
  · skip
    refine z_iconst (v := -1) dX9_draw_27 rfl (by decide) ?_
    exact z_iret dX9_draw_28 rfl rfl (cPost_same hRC (draw_bad (by grind))) (Nat.le_of_ble_eq_true rfl) (Nat.le_of_ble_eq_true rfl)
  · skip
    refine z_iload_n dX9_draw_7 rfl rfl ?_
    refine z_iconst (v := 0) dX9_draw_8 rfl (by decide) ?_
    refine z_bipush (v := 10) dX9_draw_9 rfl (by decide) ?_
    refine zcx_X9_50 rfl dX9_draw_11 rfl (m_isWithin g h _ _ _) rfl rfl ⟨(Nat.le_of_ble_eq_true rfl), (Nat.le_of_ble_eq_true rfl)⟩ ⟨(Nat.le_of_ble_eq_true rfl), (Nat.le_of_ble_eq_true rfl)⟩ (Nat.le_of_ble_eq_true rfl) ?_
    refine z_bif_eq (tgt := 27) dX9_draw_14 rfl (by decide) (fun c14 => ?_) (fun c14 => ?_)
    · skip
      refine z_iconst (v := -1) dX9_draw_27 rfl (by decide) ?_
      exact z_iret dX9_draw_28 rfl rfl (cPost_same hRC (draw_bad (by grind))) (Nat.le_of_ble_eq_true rfl) (Nat.le_of_ble_eq_true rfl)
    · skip
      refine z_iload_n dX9_draw_17 rfl rfl ?_
      refine z_iconst (v := 0) dX9_draw_18 rfl (by decide) ?_
      refine z_bipush (v := 20) dX9_draw_19 rfl (by decide) ?_
      refine zcx_X9_50 rfl dX9_draw_21 rfl (m_isWithin g h _ _ _) rfl rfl ⟨(Nat.le_of_ble_eq_true rfl), (Nat.le_of_ble_eq_true rfl)⟩ ⟨(Nat.le_of_ble_eq_true rfl), (Nat.le_of_ble_eq_true rfl)⟩ (Nat.le_of_ble_eq_true rfl) ?_
      refine z_bif_ne (tgt := 29) dX9_draw_24 rfl (by decide) (fun c24 => ?_) (fun c24 => ?_)
      · skip
        obtain ⟨N, hN, rfl⟩ := nI_of2 (x := n) (M := 20) (n := 20) (by decide) (by grind) c24.2
        refine zn_X9_37 rfl dX9_draw_29 rfl (Nat.le_of_ble_eq_true rfl) (Nat.le_of_ble_eq_true rfl) ?_
        refine z_dup dX9_draw_32 rfl rfl ?_
        refine z_iload_n dX9_draw_33 rfl rfl ?_
        refine z_iload_n dX9_draw_34 rfl rfl ?_
        refine zc_X9_39 rfl dX9_draw_35 rfl (m_cinit g (va_up h.2 h.1 _) h.1 _ vu_s rfl kind N (by omega)) rfl rfl ⟨(Nat.le_of_ble_eq_true rfl), (Nat.le_of_ble_eq_true rfl)⟩ ⟨(Nat.le_of_ble_eq_true rfl), (Nat.le_of_ble_eq_true rfl)⟩ (Nat.le_of_ble_eq_true rfl) (fun v h1 hz => ?_)
        obtain ⟨rfl, rfl⟩ := hz
        rw [cUp_vu]
        first | refine z_astore dX9_draw_38 rfl (Nat.le_of_ble_eq_true rfl) ?_ | refine z_astoreN dX9_draw_38 rfl (Nat.le_of_ble_eq_true rfl) ?_
        refine z_iload dX9_draw_40 rfl rfl ?_
        refine z_istore dX9_draw_42 rfl (Nat.le_of_ble_eq_true rfl) ?_
        refine z_iconst (v := 0) dX9_draw_44 rfl (by decide) ?_
        refine z_istore dX9_draw_45 rfl (Nat.le_of_ble_eq_true rfl) ?_
        refine zZ_h (cUp h.1 kind N (lF (cIn kind N) []) (h.1 + 4, h.2)) (by rw [← lF_0]) ?_
        refine z_lv [(7, .int (nI 0)), (6, .int seed), (5, .ref h.1), (0, .ref x), (1, .int r), (2, .int kind), (3, .int (nI N))] ⟨rfl, rfl, rfl, rfl, rfl, rfl, rfl, trivial⟩ ?_
        exact C_draw_L g h x m w col p F Z k I P q T V hR r kind seed N c4 c14 c24 hN N seed [] 0 (by omega) rfl (by simp) rfl
      · skip
        refine z_iconst (v := -1) dX9_draw_27 rfl (by decide) ?_
        exact z_iret dX9_draw_28 rfl rfl (cPost_same hRC (draw_bad (by grind))) (Nat.le_of_ble_eq_true rfl) (Nat.le_of_ble_eq_true rfl)

