abbrev YX3_init : zY := (yX3_init.cls, cX3_init, 4, none, rmX3_init, yX3_init.name, fun _ _ => True)
theorem cIn_s (k : Int32) (i : Nat) : upd (fun j => (cIn k i j).1) i (bC k).1 = fun j => (cIn k (i + 1) j).1 := by
  funext j
  simp only [upd, cIn]
  by_cases e : j = i
  · rw [if_pos e, if_pos (by omega)]
  · rw [if_neg e]
    by_cases q : j < i
    · rw [if_pos q, if_pos (by omega)]
    · rw [if_neg q, if_neg (by omega)]

set_option maxHeartbeats 800000 in
set_option maxRecDepth 100000 in
theorem m_cinit_L (g : zG) (f : Nat → Option zOb) (a : Nat) (k : Int32) (n : Nat) (hn : n ≤ 40) : ∀ (nn : Nat) (i : Nat), i + nn = n → zZ g YX3_init (zE g (fun v h1 => v = none ∧ h1 = cUp a k n (cIn k n) (a + 4, f)) 3 120) 37 [(3, .int (nI i)), (0, .ref a), (1, .int k), (2, .int (nI n))] [] (cUp a k n (cIn k i) (a + 4, f)) 3 (0 + n + n + n) := by
  intro nn
  induction nn with
  | zero =>
    intro i hin
    refine z_iload_n dX3_init_37 rfl rfl ?_
    refine z_iload_n dX3_init_38 rfl rfl ?_
    refine z_icmp_ge (tgt := 66) dX3_init_39 rfl (by decide) (fun c39 => ?_) (fun c39 => absurd c39 (fun z => z (nI_le (by omega) (by omega))))
    exact z_vret dX3_init_66 rfl rfl ⟨rfl, by rw [show i = n from by omega]⟩ (by show _ ≤ _; omega) (by show _ ≤ _; omega)
  | succ nn ih =>
    intro i hin
    by_cases h7 : 7 < k
    · have hb : (9 : Int32) = (bC k).1 := by show _ = (if 7 < k then (9 : Int32) else k); rw [if_pos h7]
      refine z_iload_n dX3_init_37 rfl rfl ?_
      refine z_iload_n dX3_init_38 rfl rfl ?_
      refine z_icmp_ge (tgt := 66) dX3_init_39 rfl (by decide) (fun c39 => absurd c39 (nI_ge (by omega) (by omega))) (fun c39 => ?_)
      first | refine z_aload_n dX3_init_42 rfl rfl ?_ | refine z_aload_nN dX3_init_42 rfl rfl ?_
      refine zg_X3_18 rfl dX3_init_43 rfl (cUp_at a k n _ _).1 rfl ?_
      refine z_iload_n dX3_init_46 rfl rfl ?_
      refine z_iload_n dX3_init_47 rfl rfl ?_
      refine z_bipush (v := 7) dX3_init_48 rfl (by decide) ?_
      refine z_icmp_gt (tgt := 57) dX3_init_50 rfl (by decide) (fun c50 => ?_) (fun c50 => absurd c50 (fun z => z h7))
      refine z_bipush (v := 9) dX3_init_57 rfl (by decide) ?_
      refine z_iast dX3_init_59 rfl (cUp_at a k n _ _).2.1 (vp_in_nI (by omega) (by omega)) ?_
      rw [nI_clamp (show i < 2 ^ 31 by omega), show upd (fun j => (cIn k i j).1) i _ = fun j => (cIn k (i + 1) j).1 from (congrArg (upd (fun j => (cIn k i j).1) i) hb).trans (cIn_s k i)]
      refine zZ_h (cUp a k n (cIn k (i + 1)) (a + 4, f)) (cUp_s1 a k n (cIn k i) (cIn k (i + 1)) (a + 4, f) (fun _ => rfl)) ?_
      refine z_iinc (v := nI (i + 1)) dX3_init_60 rfl rfl (nI_inc i) (Nat.le_of_ble_eq_true rfl) ?_
      refine z_goto (tgt := 37) dX3_init_63 rfl (by decide) ?_
      refine z_lv [(3, .int (nI (i + 1))), (0, .ref a), (1, .int k), (2, .int (nI n))] ⟨rfl, rfl, rfl, rfl, trivial⟩ ?_
      exact ih (i + 1) (by omega)
    · have hb : k = (bC k).1 := by show _ = (if 7 < k then (9 : Int32) else k); rw [if_neg h7]
      refine z_iload_n dX3_init_37 rfl rfl ?_
      refine z_iload_n dX3_init_38 rfl rfl ?_
      refine z_icmp_ge (tgt := 66) dX3_init_39 rfl (by decide) (fun c39 => absurd c39 (nI_ge (by omega) (by omega))) (fun c39 => ?_)
      first | refine z_aload_n dX3_init_42 rfl rfl ?_ | refine z_aload_nN dX3_init_42 rfl rfl ?_
      refine zg_X3_18 rfl dX3_init_43 rfl (cUp_at a k n _ _).1 rfl ?_
      refine z_iload_n dX3_init_46 rfl rfl ?_
      refine z_iload_n dX3_init_47 rfl rfl ?_
      refine z_bipush (v := 7) dX3_init_48 rfl (by decide) ?_
      refine z_icmp_gt (tgt := 57) dX3_init_50 rfl (by decide) (fun c50 => absurd c50 h7) (fun c50 => ?_)
      refine z_iload_n dX3_init_53 rfl rfl ?_
      refine z_goto (tgt := 59) dX3_init_54 rfl (by decide) ?_
      refine z_iast dX3_init_59 rfl (cUp_at a k n _ _).2.1 (vp_in_nI (by omega) (by omega)) ?_
      rw [nI_clamp (show i < 2 ^ 31 by omega), show upd (fun j => (cIn k i j).1) i _ = fun j => (cIn k (i + 1) j).1 from (congrArg (upd (fun j => (cIn k i j).1) i) hb).trans (cIn_s k i)]
      refine zZ_h (cUp a k n (cIn k (i + 1)) (a + 4, f)) (cUp_s1 a k n (cIn k i) (cIn k (i + 1)) (a + 4, f) (fun _ => rfl)) ?_
      refine z_iinc (v := nI (i + 1)) dX3_init_60 rfl rfl (nI_inc i) (Nat.le_of_ble_eq_true rfl) ?_
      refine z_goto (tgt := 37) dX3_init_63 rfl (by decide) ?_
      refine z_lv [(3, .int (nI (i + 1))), (0, .ref a), (1, .int k), (2, .int (nI n))] ⟨rfl, rfl, rfl, rfl, trivial⟩ ?_
      exact ih (i + 1) (by omega)

set_option maxHeartbeats 800000 in
set_option maxRecDepth 100000 in
theorem m_cinit (g : zG) (f : Nat → Option zOb) (a : Nat) (fs : List Value) (hf : f a = some (.inr (2, fs))) (hfs : fs.length = 5) (k : Int32) (n : Nat) (hn : n ≤ 40) : zXv g yX3_init cX3_init 4 none rmX3_init [.ref a, .int k, .int (nI n)] (a + 1, f) (cUp a k n (cIn k n) (a + 4, f)) := by
  refine zM_of (by decide) (Nat.le_of_ble_eq_true rfl) ?_
  obtain ⟨x0, x1, x2, x3, x4, rfl⟩ : ∃ x0 x1 x2 x3 x4, fs = [x0, x1, x2, x3, x4] := by
    match fs, hfs with
    | [x0, x1, x2, x3, x4], _ => exact ⟨x0, x1, x2, x3, x4, rfl⟩
  first | refine z_aload_n dX3_init_0 rfl rfl ?_ | refine z_aload_nN dX3_init_0 rfl rfl ?_
  refine zc_X3_3 rfl dX3_init_1 rfl (Nat.le_of_ble_eq_true rfl) (Nat.le_of_ble_eq_true rfl) ?_
  first | refine z_aload_n dX3_init_4 rfl rfl ?_ | refine z_aload_nN dX3_init_4 rfl rfl ?_
  refine z_iload_n dX3_init_5 rfl rfl ?_
  refine zp_X3_9 rfl rfl dX3_init_6 rfl hf rfl rfl (Nat.le_of_ble_eq_true rfl) ?_
  first | refine z_aload_n dX3_init_9 rfl rfl ?_ | refine z_aload_nN dX3_init_9 rfl rfl ?_
  refine z_iload_n dX3_init_10 rfl rfl ?_
  refine zp_X3_15 rfl rfl dX3_init_11 rfl vu_s rfl rfl (Nat.le_of_ble_eq_true rfl) ?_
  first | refine z_aload_n dX3_init_14 rfl rfl ?_ | refine z_aload_nN dX3_init_14 rfl rfl ?_
  refine z_iload_n dX3_init_15 rfl rfl ?_
  refine z_newi (N := n) dX3_init_16 rfl (nI_ge0 (by omega)) (nI_clamp (by omega)) (by omega) (by show _ ≤ 3; omega) (by show _ ≤ 120; omega) ?_
  refine zp_X3_18 rfl rfl dX3_init_18 rfl ((vu_n (by omega)).trans vu_s) rfl rfl (Nat.le_of_ble_eq_true rfl) ?_
  first | refine z_aload_n dX3_init_21 rfl rfl ?_ | refine z_aload_nN dX3_init_21 rfl rfl ?_
  refine z_iload_n dX3_init_22 rfl rfl ?_
  refine z_newl (N := n) dX3_init_23 rfl (nI_ge0 (by omega)) (nI_clamp (by omega)) (by omega) (by show _ ≤ 3; omega) (by show _ ≤ 120; omega) ?_
  refine zp_X3_22 rfl rfl dX3_init_25 rfl ((vu_n (by omega)).trans vu_s) rfl rfl (Nat.le_of_ble_eq_true rfl) ?_
  first | refine z_aload_n dX3_init_28 rfl rfl ?_ | refine z_aload_nN dX3_init_28 rfl rfl ?_
  refine z_iload_n dX3_init_29 rfl rfl ?_
  refine z_newd (N := n) dX3_init_30 rfl (nI_ge0 (by omega)) (nI_clamp (by omega)) (by omega) (by show _ ≤ 3; omega) (by show _ ≤ 120; omega) ?_
  refine zp_X3_26 rfl rfl dX3_init_32 rfl ((vu_n (by omega)).trans vu_s) rfl rfl (Nat.le_of_ble_eq_true rfl) ?_
  refine z_iconst (v := 0) dX3_init_35 rfl (by decide) ?_
  refine z_istore_n dX3_init_36 rfl (Nat.le_of_ble_eq_true rfl) ?_
  refine zZ_h (cUp a k n (cIn k 0) (a + 4, f)) (cUp_new a k n f _ _ _ _ _ _ _ rfl rfl rfl _ rfl) ?_
  refine z_lv [(3, .int (nI 0)), (0, .ref a), (1, .int k), (2, .int (nI n))] ⟨rfl, rfl, rfl, rfl, trivial⟩ ?_
  exact m_cinit_L g f a k n hn n 0 (by omega)

