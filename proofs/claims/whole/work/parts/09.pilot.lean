set_option maxHeartbeats 4000000 in
set_option maxRecDepth 100000 in
/--  -/
theorem m_isWithin (g : zG) (h : zH) (x lo hi : Int32) : zX g yX9_isWithin cX9_isWithin 3 (some .boolean) rmX9_isWithin [.int x, .int lo, .int hi] h (.int (if lo ≤ x ∧ x ≤ hi then 1 else 0)) h := by
  refine zM_of (by decide) (Nat.le_of_ble_eq_true rfl) ?_
  refine z_iload_n dX9_isWithin_0 rfl rfl ?_
  refine z_iload_n dX9_isWithin_1 rfl rfl ?_
  refine z_icmp_gt (tgt := 14) dX9_isWithin_2 rfl (by decide) (fun c2 => ?_) (fun c2 => ?_)
  · skip
    refine z_iconst (v := 0) dX9_isWithin_14 rfl (by decide) ?_
    exact z_zret dX9_isWithin_15 rfl rfl rfl ⟨by grind, rfl⟩ (Nat.le_of_ble_eq_true rfl) (Nat.le_of_ble_eq_true rfl)
  · skip
    refine z_iload_n dX9_isWithin_5 rfl rfl ?_
    refine z_iload_n dX9_isWithin_6 rfl rfl ?_
    refine z_icmp_gt (tgt := 14) dX9_isWithin_7 rfl (by decide) (fun c7 => ?_) (fun c7 => ?_)
    · skip
      refine z_iconst (v := 0) dX9_isWithin_14 rfl (by decide) ?_
      exact z_zret dX9_isWithin_15 rfl rfl rfl ⟨by grind, rfl⟩ (Nat.le_of_ble_eq_true rfl) (Nat.le_of_ble_eq_true rfl)
    · skip
      refine z_iconst (v := 1) dX9_isWithin_10 rfl (by decide) ?_
      refine z_goto (tgt := 15) dX9_isWithin_11 rfl (by decide) ?_
      exact z_zret dX9_isWithin_15 rfl rfl rfl ⟨by grind, rfl⟩ (Nat.le_of_ble_eq_true rfl) (Nat.le_of_ble_eq_true rfl)
set_option maxHeartbeats 4000000 in
set_option maxRecDepth 100000 in
/--  -/
theorem m_isRecord (g : zG) (h : zH) (r : Int32) : zX g yX9_isRecord cX9_isRecord 1 (some .boolean) rmX9_isRecord [.int r] h (.int (if 0 ≤ r ∧ r ≤ 7 then 1 else 0)) h := by
  refine zM_of (by decide) (Nat.le_of_ble_eq_true rfl) ?_
  refine z_iload_n dX9_isRecord_0 rfl rfl ?_
  refine z_iconst (v := 0) dX9_isRecord_1 rfl (by decide) ?_
  refine z_bipush (v := 7) dX9_isRecord_2 rfl (by decide) ?_
  refine zcx_X9_50 rfl dX9_isRecord_4 rfl (m_isWithin g h _ _ _) rfl rfl ⟨(Nat.le_of_ble_eq_true rfl), (Nat.le_of_ble_eq_true rfl)⟩ ⟨(Nat.le_of_ble_eq_true rfl), (Nat.le_of_ble_eq_true rfl)⟩ (Nat.le_of_ble_eq_true rfl) ?_
  exact z_zret dX9_isRecord_7 rfl rfl (z_nb _) ⟨rfl, rfl⟩ (Nat.le_of_ble_eq_true rfl) (Nat.le_of_ble_eq_true rfl)
set_option maxHeartbeats 4000000 in
set_option maxRecDepth 100000 in
/--  -/
theorem m_answer (g : zG) (h : zH) (f : Int32) : zX g yX9_answer cX9_answer 1 (some .int) rmX9_answer [.int f] h (.int (-10 - f)) h := by
  refine zM_of (by decide) (Nat.le_of_ble_eq_true rfl) ?_
  refine z_bipush (v := -10) dX9_answer_0 rfl (by decide) ?_
  refine z_iload_n dX9_answer_2 rfl rfl ?_
  refine z_isub dX9_answer_3 rfl ?_
  exact z_iret dX9_answer_4 rfl rfl ⟨rfl, rfl⟩ (Nat.le_of_ble_eq_true rfl) (Nat.le_of_ble_eq_true rfl)
