theorem wq_87 : Cond.instanceMethod yX8_init ∈ lw_tbl := List.mem_of_getElem? (i := 87) (by decide +kernel)
theorem wq_63 : Cond.initialized yX8_init.cls ∈ lw_tbl := List.mem_of_getElem? (i := 63) (by decide +kernel)
theorem wq_88 : Cond.code yX8_init cX8_init 1 none ∈ lw_tbl := List.mem_of_getElem? (i := 88) (by decide +kernel)
theorem wq_108 : Cond.instanceMethod yX0_init ∈ lw_tbl := List.mem_of_getElem? (i := 108) (by decide +kernel)
theorem wq_64 : Cond.initialized yX0_init.cls ∈ lw_tbl := List.mem_of_getElem? (i := 64) (by decide +kernel)
theorem wq_109 : Cond.code yX0_init cX0_init 1 none ∈ lw_tbl := List.mem_of_getElem? (i := 109) (by decide +kernel)
/-- the class's object as its constructor leaves it -/
def xNew (f : Nat → Option zOb) (x : Nat) (h1 : zH) : Prop := h1.1 = x + 57 ∧ (∃ q, stAt h1 x (x + 1) none 0 0 (fun _ => none) (fun _ => none) q alT0 (cIn 9 1) ∧ q 0 = 0 ∧ q 1 = 3 ∧ q 2 = 2 ∧ q 3 = 1) ∧ rAt h1 (x + 1) (fun _ => none) (fun _ => 0) ∧ ∀ q, q < x ∨ x + 57 ≤ q → h1.2 q = f q

abbrev YX9_init : zY := (yX9_init.cls, cX9_init, 1, none, rmX9_init, yX9_init.name, fun _ _ => True)
def qR0 : Nat → Int32 := fun _ => 0
def qR1 : Nat → Int32 := upd qR0 0 0
def qR2 : Nat → Int32 := upd qR1 1 3
def qR3 : Nat → Int32 := upd qR2 2 2
def qR4 : Nat → Int32 := upd qR3 3 1
theorem x_new (f : Nat → Option zOb) (x : Nat) (G : Nat → Option zOb) (e2b : alAt (x + 53, G) (x + 7) alT0) (e2c : ∀ q, q < x + 7 ∨ x + 7 + 46 ≤ q → G q = (va_up (va_up (va_up (va_up (va_up (va_up (va_up (va_up (rUp (x + 1) (fun _ => none) (fun _ => 0) (x + 4, va_up f (x + 1) (some (.inr (5, [.null, .null]))))).2 x (some (.inr (6, [.null, .null, .null, .null, .null, .ref (x + 1), .null, .long 0, .int 0])))) (x + 4) (some (.inl (5, 2, .inr (.inr (.inr (.inr (fun _ => none)))))))) x (some (.inr (6, [.ref (x + 4), .null, .null, .null, .null, .ref (x + 1), .null, .long 0, .int 0])))) (x + 5) (some (.inl (6, 4, .inr (.inr (.inr (.inr (fun _ => none)))))))) x (some (.inr (6, [.ref (x + 4), .ref (x + 5), .null, .null, .null, .ref (x + 1), .null, .long 0, .int 0])))) (x + 6) (some (.inl (0, 4, .inl qR4)))) x (some (.inr (6, [.ref (x + 4), .ref (x + 5), .ref (x + 6), .null, .null, .ref (x + 1), .null, .long 0, .int 0])))) (x + 7) (some (.inr (0, [.null, .null, .null, .null])))) q) : xNew f x (x + 57, (va_up (cUp (x + 53) 9 1 (cIn 9 1) (x + 57, va_up (va_up G x (some (.inr (6, [.ref (x + 4), .ref (x + 5), .ref (x + 6), .ref (x + 7), .null, .ref (x + 1), .null, .long 0, .int 0])))) (x + 53) (some (.inr (2, [.int 0, .int 0, .null, .null, .null]))))).2 x (some (.inr (6, [.ref (x + 4), .ref (x + 5), .ref (x + 6), .ref (x + 7), .ref (x + 53), .ref (x + 1), .null, .long 0, .int 0]))))) := by
  have T : ∀ q, q ≠ x → q < x + 53 ∨ x + 57 ≤ q → (va_up (cUp (x + 53) 9 1 (cIn 9 1) (x + 57, va_up (va_up G x (some (.inr (6, [.ref (x + 4), .ref (x + 5), .ref (x + 6), .ref (x + 7), .null, .ref (x + 1), .null, .long 0, .int 0])))) (x + 53) (some (.inr (2, [.int 0, .int 0, .null, .null, .null]))))).2 x (some (.inr (6, [.ref (x + 4), .ref (x + 5), .ref (x + 6), .ref (x + 7), .ref (x + 53), .ref (x + 1), .null, .long 0, .int 0])))) q = G q := by
    intro q h1 h2
    rw [vu_n h1, cUp_out (by omega)]
    show va_up (va_up G x (some (.inr (6, [.ref (x + 4), .ref (x + 5), .ref (x + 6), .ref (x + 7), .null, .ref (x + 1), .null, .long 0, .int 0])))) (x + 53) _ q = _
    rw [vu_n (by omega), vu_n h1]
  refine ⟨rfl, ⟨qR4, ⟨vu_s, ?_, ?_, ?_, ?_, ?_⟩, ?_, ?_, ?_, ?_⟩, ?_, fun q hq => ?_⟩
  · refine (T (x + 4) (by omega) (by omega)).trans ((e2c (x + 4) (by omega)).trans ?_)
    rw [vu_n (by omega), vu_n (by omega), vu_n (by omega), vu_n (by omega), vu_n (by omega), vu_n (by omega), vu_s]
  · refine (T (x + 5) (by omega) (by omega)).trans ((e2c (x + 5) (by omega)).trans ?_)
    rw [vu_n (by omega), vu_n (by omega), vu_n (by omega), vu_n (by omega), vu_s]
  · refine (T (x + 6) (by omega) (by omega)).trans ((e2c (x + 6) (by omega)).trans ?_)
    rw [vu_n (by omega), vu_n (by omega), vu_s]
  · exact alAt_fr e2b (fun q q1 q2 => T q (by omega) (by omega))
  · refine cAt_fr (cUp_at (x + 53) 9 1 (cIn 9 1) (x + 57, va_up (va_up G x (some (.inr (6, [.ref (x + 4), .ref (x + 5), .ref (x + 6), .ref (x + 7), .null, .ref (x + 1), .null, .long 0, .int 0])))) (x + 53) (some (.inr (2, [.int 0, .int 0, .null, .null, .null]))))) (fun q q1 q2 => ?_)
    show (va_up (cUp (x + 53) 9 1 (cIn 9 1) (x + 57, va_up (va_up G x (some (.inr (6, [.ref (x + 4), .ref (x + 5), .ref (x + 6), .ref (x + 7), .null, .ref (x + 1), .null, .long 0, .int 0])))) (x + 53) (some (.inr (2, [.int 0, .int 0, .null, .null, .null]))))).2 x (some (.inr (6, [.ref (x + 4), .ref (x + 5), .ref (x + 6), .ref (x + 7), .ref (x + 53), .ref (x + 1), .null, .long 0, .int 0])))) q = _
    rw [vu_n (by omega)]
  · decide
  · decide
  · decide
  · decide
  · refine rAt_fr (rUp_at (x + 1) (fun _ => none) (fun _ => 0) (x + 4, va_up f (x + 1) (some (.inr (5, [.null, .null]))))) (fun q q1 q2 => ?_)
    refine (T q (by omega) (by omega)).trans ((e2c q (by omega)).trans ?_)
    rw [vu_n (by omega), vu_n (by omega), vu_n (by omega), vu_n (by omega), vu_n (by omega), vu_n (by omega), vu_n (by omega), vu_n (by omega)]
  · refine (T q (by omega) (by omega)).trans ((e2c q (by omega)).trans ?_)
    rw [vu_n (by omega), vu_n (by omega), vu_n (by omega), vu_n (by omega), vu_n (by omega), vu_n (by omega), vu_n (by omega), vu_n (by omega), rUp_out (by omega)]
    show va_up f (x + 1) _ q = _
    rw [vu_n (by omega)]

set_option maxHeartbeats 800000 in
set_option maxRecDepth 100000 in
theorem m_xinit (g : zG) (f : Nat → Option zOb) (x : Nat) (hf : f x = some (.inr (6, [.null, .null, .null, .null, .null, .null, .null, .long 0, .int 0]))) : zM g yX9_init cX9_init 1 none rmX9_init [.ref x] (x + 1, f) (fun v h1 => v = none ∧ xNew f x h1) := by
  refine zM_of (by decide) (Nat.le_of_ble_eq_true rfl) ?_
  first | refine z_aload_n dX9_init_0 rfl rfl ?_ | refine z_aload_nN dX9_init_0 rfl rfl ?_
  refine zc_X9_1 rfl dX9_init_1 rfl (Nat.le_of_ble_eq_true rfl) (Nat.le_of_ble_eq_true rfl) ?_
  first | refine z_aload_n dX9_init_4 rfl rfl ?_ | refine z_aload_nN dX9_init_4 rfl rfl ?_
  refine zn_X9_7 rfl dX9_init_5 rfl (Nat.le_of_ble_eq_true rfl) (Nat.le_of_ble_eq_true rfl) ?_
  refine z_dup dX9_init_8 rfl rfl ?_
  refine z_callIN (y := yX8_init) (As := []) (b := x + 1) (fun U hU => hU.2.2.2.2.2.2.2) wq_87 wq_63 wq_88 0 ⟨by decide, by decide, by decide +kernel⟩ rfl dX9_init_9 rfl (m_rinit g (va_up f (x + 1) (some (.inr (5, [.null, .null])))) (x + 1) _ vu_s rfl) rfl rfl ⟨(Nat.le_of_ble_eq_true rfl), (Nat.le_of_ble_eq_true rfl)⟩ ⟨(Nat.le_of_ble_eq_true rfl), (Nat.le_of_ble_eq_true rfl)⟩ (Nat.le_of_ble_eq_true rfl) (fun v1 h1 e1 => ?_)
  obtain ⟨rfl, rfl⟩ := e1
  refine zp_X9_10 rfl dX9_init_12 rfl ((rUp_out (by omega)).trans ((vu_n (by omega)).trans hf)) rfl rfl (Nat.le_of_ble_eq_true rfl) ?_
  refine zZ_h (x + 4, (va_up (rUp (x + 1) (fun _ => none) (fun _ => 0) (x + 4, va_up f (x + 1) (some (.inr (5, [.null, .null]))))).2 x (some (.inr (6, [.null, .null, .null, .null, .null, .ref (x + 1), .null, .long 0, .int 0]))))) rfl ?_
  first | refine z_aload_n dX9_init_15 rfl rfl ?_ | refine z_aload_nN dX9_init_15 rfl rfl ?_
  refine z_iconst (v := 2) dX9_init_16 rfl (by decide) ?_
  refine za_X9_7 (N := 2) rfl dX9_init_17 rfl (by decide) rfl (by decide) (by decide) (by decide) ?_
  refine zp_X9_16 rfl rfl dX9_init_20 rfl ((vu_n (by omega)).trans vu_s) rfl rfl (Nat.le_of_ble_eq_true rfl) ?_
  refine zZ_h (x + 5, (va_up (va_up (va_up (rUp (x + 1) (fun _ => none) (fun _ => 0) (x + 4, va_up f (x + 1) (some (.inr (5, [.null, .null]))))).2 x (some (.inr (6, [.null, .null, .null, .null, .null, .ref (x + 1), .null, .long 0, .int 0])))) (x + 4) (some (.inl (5, 2, .inr (.inr (.inr (.inr (fun _ => none)))))))) x (some (.inr (6, [.ref (x + 4), .null, .null, .null, .null, .ref (x + 1), .null, .long 0, .int 0]))))) rfl ?_
  first | refine z_aload_n dX9_init_23 rfl rfl ?_ | refine z_aload_nN dX9_init_23 rfl rfl ?_
  refine z_iconst (v := 4) dX9_init_24 rfl (by decide) ?_
  refine za_X9_20 (N := 4) rfl dX9_init_25 rfl (by decide) rfl (by decide) (by decide) (by decide) ?_
  refine zp_X9_22 rfl rfl dX9_init_28 rfl ((vu_n (by omega)).trans vu_s) rfl rfl (Nat.le_of_ble_eq_true rfl) ?_
  refine zZ_h (x + 6, (va_up (va_up (va_up (va_up (va_up (rUp (x + 1) (fun _ => none) (fun _ => 0) (x + 4, va_up f (x + 1) (some (.inr (5, [.null, .null]))))).2 x (some (.inr (6, [.null, .null, .null, .null, .null, .ref (x + 1), .null, .long 0, .int 0])))) (x + 4) (some (.inl (5, 2, .inr (.inr (.inr (.inr (fun _ => none)))))))) x (some (.inr (6, [.ref (x + 4), .null, .null, .null, .null, .ref (x + 1), .null, .long 0, .int 0])))) (x + 5) (some (.inl (6, 4, .inr (.inr (.inr (.inr (fun _ => none)))))))) x (some (.inr (6, [.ref (x + 4), .ref (x + 5), .null, .null, .null, .ref (x + 1), .null, .long 0, .int 0]))))) rfl ?_
  first | refine z_aload_n dX9_init_31 rfl rfl ?_ | refine z_aload_nN dX9_init_31 rfl rfl ?_
  refine z_iconst (v := 4) dX9_init_32 rfl (by decide) ?_
  refine z_newi (N := 4) dX9_init_33 rfl (by decide) rfl (by decide) (by decide) (by decide) ?_
  refine zZ_h (x + 7, (va_up (va_up (va_up (va_up (va_up (va_up (rUp (x + 1) (fun _ => none) (fun _ => 0) (x + 4, va_up f (x + 1) (some (.inr (5, [.null, .null]))))).2 x (some (.inr (6, [.null, .null, .null, .null, .null, .ref (x + 1), .null, .long 0, .int 0])))) (x + 4) (some (.inl (5, 2, .inr (.inr (.inr (.inr (fun _ => none)))))))) x (some (.inr (6, [.ref (x + 4), .null, .null, .null, .null, .ref (x + 1), .null, .long 0, .int 0])))) (x + 5) (some (.inl (6, 4, .inr (.inr (.inr (.inr (fun _ => none)))))))) x (some (.inr (6, [.ref (x + 4), .ref (x + 5), .null, .null, .null, .ref (x + 1), .null, .long 0, .int 0])))) (x + 6) (some (.inl (0, 4, .inl qR0))))) rfl ?_
  refine z_dup dX9_init_35 rfl rfl ?_
  refine z_iconst (v := 0) dX9_init_36 rfl (by decide) ?_
  refine z_iconst (v := 0) dX9_init_37 rfl (by decide) ?_
  refine z_iast dX9_init_38 rfl vu_s (vp_in_nI (n := 0) (N := 4) (by decide) (by decide)) ?_
  refine zZ_h (x + 7, (va_up (va_up (va_up (va_up (va_up (va_up (rUp (x + 1) (fun _ => none) (fun _ => 0) (x + 4, va_up f (x + 1) (some (.inr (5, [.null, .null]))))).2 x (some (.inr (6, [.null, .null, .null, .null, .null, .ref (x + 1), .null, .long 0, .int 0])))) (x + 4) (some (.inl (5, 2, .inr (.inr (.inr (.inr (fun _ => none)))))))) x (some (.inr (6, [.ref (x + 4), .null, .null, .null, .null, .ref (x + 1), .null, .long 0, .int 0])))) (x + 5) (some (.inl (6, 4, .inr (.inr (.inr (.inr (fun _ => none)))))))) x (some (.inr (6, [.ref (x + 4), .ref (x + 5), .null, .null, .null, .ref (x + 1), .null, .long 0, .int 0])))) (x + 6) (some (.inl (0, 4, .inl qR1))))) (vu_vu _ _ _ _ _) ?_
  refine z_dup dX9_init_39 rfl rfl ?_
  refine z_iconst (v := 1) dX9_init_40 rfl (by decide) ?_
  refine z_iconst (v := 3) dX9_init_41 rfl (by decide) ?_
  refine z_iast dX9_init_42 rfl vu_s (vp_in_nI (n := 1) (N := 4) (by decide) (by decide)) ?_
  refine zZ_h (x + 7, (va_up (va_up (va_up (va_up (va_up (va_up (rUp (x + 1) (fun _ => none) (fun _ => 0) (x + 4, va_up f (x + 1) (some (.inr (5, [.null, .null]))))).2 x (some (.inr (6, [.null, .null, .null, .null, .null, .ref (x + 1), .null, .long 0, .int 0])))) (x + 4) (some (.inl (5, 2, .inr (.inr (.inr (.inr (fun _ => none)))))))) x (some (.inr (6, [.ref (x + 4), .null, .null, .null, .null, .ref (x + 1), .null, .long 0, .int 0])))) (x + 5) (some (.inl (6, 4, .inr (.inr (.inr (.inr (fun _ => none)))))))) x (some (.inr (6, [.ref (x + 4), .ref (x + 5), .null, .null, .null, .ref (x + 1), .null, .long 0, .int 0])))) (x + 6) (some (.inl (0, 4, .inl qR2))))) (vu_vu _ _ _ _ _) ?_
  refine z_dup dX9_init_43 rfl rfl ?_
  refine z_iconst (v := 2) dX9_init_44 rfl (by decide) ?_
  refine z_iconst (v := 2) dX9_init_45 rfl (by decide) ?_
  refine z_iast dX9_init_46 rfl vu_s (vp_in_nI (n := 2) (N := 4) (by decide) (by decide)) ?_
  refine zZ_h (x + 7, (va_up (va_up (va_up (va_up (va_up (va_up (rUp (x + 1) (fun _ => none) (fun _ => 0) (x + 4, va_up f (x + 1) (some (.inr (5, [.null, .null]))))).2 x (some (.inr (6, [.null, .null, .null, .null, .null, .ref (x + 1), .null, .long 0, .int 0])))) (x + 4) (some (.inl (5, 2, .inr (.inr (.inr (.inr (fun _ => none)))))))) x (some (.inr (6, [.ref (x + 4), .null, .null, .null, .null, .ref (x + 1), .null, .long 0, .int 0])))) (x + 5) (some (.inl (6, 4, .inr (.inr (.inr (.inr (fun _ => none)))))))) x (some (.inr (6, [.ref (x + 4), .ref (x + 5), .null, .null, .null, .ref (x + 1), .null, .long 0, .int 0])))) (x + 6) (some (.inl (0, 4, .inl qR3))))) (vu_vu _ _ _ _ _) ?_
  refine z_dup dX9_init_47 rfl rfl ?_
  refine z_iconst (v := 3) dX9_init_48 rfl (by decide) ?_
  refine z_iconst (v := 1) dX9_init_49 rfl (by decide) ?_
  refine z_iast dX9_init_50 rfl vu_s (vp_in_nI (n := 3) (N := 4) (by decide) (by decide)) ?_
  refine zZ_h (x + 7, (va_up (va_up (va_up (va_up (va_up (va_up (rUp (x + 1) (fun _ => none) (fun _ => 0) (x + 4, va_up f (x + 1) (some (.inr (5, [.null, .null]))))).2 x (some (.inr (6, [.null, .null, .null, .null, .null, .ref (x + 1), .null, .long 0, .int 0])))) (x + 4) (some (.inl (5, 2, .inr (.inr (.inr (.inr (fun _ => none)))))))) x (some (.inr (6, [.ref (x + 4), .null, .null, .null, .null, .ref (x + 1), .null, .long 0, .int 0])))) (x + 5) (some (.inl (6, 4, .inr (.inr (.inr (.inr (fun _ => none)))))))) x (some (.inr (6, [.ref (x + 4), .ref (x + 5), .null, .null, .null, .ref (x + 1), .null, .long 0, .int 0])))) (x + 6) (some (.inl (0, 4, .inl qR4))))) (vu_vu _ _ _ _ _) ?_
  refine zp_X9_26 rfl rfl dX9_init_51 rfl ((vu_n (by omega)).trans vu_s) rfl rfl (Nat.le_of_ble_eq_true rfl) ?_
  refine zZ_h (x + 7, (va_up (va_up (va_up (va_up (va_up (va_up (va_up (rUp (x + 1) (fun _ => none) (fun _ => 0) (x + 4, va_up f (x + 1) (some (.inr (5, [.null, .null]))))).2 x (some (.inr (6, [.null, .null, .null, .null, .null, .ref (x + 1), .null, .long 0, .int 0])))) (x + 4) (some (.inl (5, 2, .inr (.inr (.inr (.inr (fun _ => none)))))))) x (some (.inr (6, [.ref (x + 4), .null, .null, .null, .null, .ref (x + 1), .null, .long 0, .int 0])))) (x + 5) (some (.inl (6, 4, .inr (.inr (.inr (.inr (fun _ => none)))))))) x (some (.inr (6, [.ref (x + 4), .ref (x + 5), .null, .null, .null, .ref (x + 1), .null, .long 0, .int 0])))) (x + 6) (some (.inl (0, 4, .inl qR4)))) x (some (.inr (6, [.ref (x + 4), .ref (x + 5), .ref (x + 6), .null, .null, .ref (x + 1), .null, .long 0, .int 0]))))) rfl ?_
  first | refine z_aload_n dX9_init_54 rfl rfl ?_ | refine z_aload_nN dX9_init_54 rfl rfl ?_
  refine zn_X9_30 rfl dX9_init_55 rfl (Nat.le_of_ble_eq_true rfl) (Nat.le_of_ble_eq_true rfl) ?_
  refine z_dup dX9_init_58 rfl rfl ?_
  refine z_callIN (y := yX0_init) (As := []) (b := x + 7) (fun U hU => hU.2.2.2.2.2.2.1) wq_108 wq_64 wq_109 0 ⟨by decide, by decide, by decide +kernel⟩ rfl dX9_init_59 rfl (m_ainit g (va_up (va_up (va_up (va_up (va_up (va_up (va_up (va_up (rUp (x + 1) (fun _ => none) (fun _ => 0) (x + 4, va_up f (x + 1) (some (.inr (5, [.null, .null]))))).2 x (some (.inr (6, [.null, .null, .null, .null, .null, .ref (x + 1), .null, .long 0, .int 0])))) (x + 4) (some (.inl (5, 2, .inr (.inr (.inr (.inr (fun _ => none)))))))) x (some (.inr (6, [.ref (x + 4), .null, .null, .null, .null, .ref (x + 1), .null, .long 0, .int 0])))) (x + 5) (some (.inl (6, 4, .inr (.inr (.inr (.inr (fun _ => none)))))))) x (some (.inr (6, [.ref (x + 4), .ref (x + 5), .null, .null, .null, .ref (x + 1), .null, .long 0, .int 0])))) (x + 6) (some (.inl (0, 4, .inl qR4)))) x (some (.inr (6, [.ref (x + 4), .ref (x + 5), .ref (x + 6), .null, .null, .ref (x + 1), .null, .long 0, .int 0])))) (x + 7) (some (.inr (0, [.null, .null, .null, .null])))) (x + 7) vu_s) rfl rfl ⟨(Nat.le_of_ble_eq_true rfl), (Nat.le_of_ble_eq_true rfl)⟩ ⟨(Nat.le_of_ble_eq_true rfl), (Nat.le_of_ble_eq_true rfl)⟩ (Nat.le_of_ble_eq_true rfl) (fun v2 h2 e2 => ?_)
  obtain ⟨n2, G⟩ := h2
  obtain ⟨rfl, e2a, e2b, e2c⟩ := e2
  have e2d : n2 = x + 53 := e2a
  subst e2d
  have gx := e2c x (Or.inl (by omega))
  refine zp_X9_33 rfl rfl dX9_init_62 rfl (gx.trans ((vu_n (by omega)).trans vu_s)) rfl rfl (Nat.le_of_ble_eq_true rfl) ?_
  refine zZ_h (x + 53, (va_up G x (some (.inr (6, [.ref (x + 4), .ref (x + 5), .ref (x + 6), .ref (x + 7), .null, .ref (x + 1), .null, .long 0, .int 0]))))) rfl ?_
  first | refine z_aload_n dX9_init_65 rfl rfl ?_ | refine z_aload_nN dX9_init_65 rfl rfl ?_
  refine zn_X9_37 rfl dX9_init_66 rfl (Nat.le_of_ble_eq_true rfl) (Nat.le_of_ble_eq_true rfl) ?_
  refine z_dup dX9_init_69 rfl rfl ?_
  refine z_bipush (v := 9) dX9_init_70 rfl (by decide) ?_
  refine z_iconst (v := 1) dX9_init_72 rfl (by decide) ?_
  refine zcv_X9_39 rfl dX9_init_73 rfl (m_cinit g (va_up (va_up G x (some (.inr (6, [.ref (x + 4), .ref (x + 5), .ref (x + 6), .ref (x + 7), .null, .ref (x + 1), .null, .long 0, .int 0])))) (x + 53) (some (.inr (2, [.int 0, .int 0, .null, .null, .null])))) (x + 53) _ vu_s rfl 9 1 (by decide)) rfl rfl ⟨(Nat.le_of_ble_eq_true rfl), (Nat.le_of_ble_eq_true rfl)⟩ ⟨(Nat.le_of_ble_eq_true rfl), (Nat.le_of_ble_eq_true rfl)⟩ (Nat.le_of_ble_eq_true rfl) ?_
  refine zp_X9_42 rfl rfl dX9_init_76 rfl ((cUp_out (by omega)).trans ((vu_n (by omega)).trans vu_s)) rfl rfl (Nat.le_of_ble_eq_true rfl) ?_
  refine zZ_h (x + 57, (va_up (cUp (x + 53) 9 1 (cIn 9 1) (x + 57, va_up (va_up G x (some (.inr (6, [.ref (x + 4), .ref (x + 5), .ref (x + 6), .ref (x + 7), .null, .ref (x + 1), .null, .long 0, .int 0])))) (x + 53) (some (.inr (2, [.int 0, .int 0, .null, .null, .null]))))).2 x (some (.inr (6, [.ref (x + 4), .ref (x + 5), .ref (x + 6), .ref (x + 7), .ref (x + 53), .ref (x + 1), .null, .long 0, .int 0]))))) rfl ?_
  exact z_vret dX9_init_79 rfl rfl ⟨rfl, x_new f x G e2b e2c⟩ (by decide) (by decide)

