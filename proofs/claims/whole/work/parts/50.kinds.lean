/-! The class's side. A row of cells at a: its object and its three arrays -/
def cCell (a : Nat) (k : Int32) (n : Nat) (c : Nat → sC) (j : Nat) : zOb := if j = 0 then .inr (2, [.int k, .int (nI n), .ref (a + 1), .ref (a + 2), .ref (a + 3)]) else if j = 1 then .inl (0, n, .inl (fun i => (c i).1)) else if j = 2 then .inl (1, n, .inr (.inl (fun i => (c i).2.1))) else .inl (2, n, .inr (.inr (.inr (.inl (fun i => (c i).2.2)))))
def cAt (h : zH) (a : Nat) (k : Int32) (n : Nat) (c : Nat → sC) : Prop := h.2 a = some (.inr (2, [.int k, .int (nI n), .ref (a + 1), .ref (a + 2), .ref (a + 3)])) ∧ h.2 (a + 1) = some (.inl (0, n, .inl (fun i => (c i).1))) ∧ h.2 (a + 2) = some (.inl (1, n, .inr (.inl (fun i => (c i).2.1)))) ∧ h.2 (a + 3) = some (.inl (2, n, .inr (.inr (.inr (.inl (fun i => (c i).2.2))))))
def cUp (a : Nat) (k : Int32) (n : Nat) (c : Nat → sC) (h : zH) : zH := (h.1, fun q => if a ≤ q ∧ q < a + 4 then some (cCell a k n c (q - a)) else h.2 q)
def uC (c : Nat → sC) (i : Nat) (v : sC) : Nat → sC := fun j => if j = i then v else c j
def sJo (a b : Int32) : Int32 := if sJoin a b = -4 then -1 else sJoin a b
theorem cUp_at (a : Nat) (k : Int32) (n : Nat) (c : Nat → sC) (h : zH) : cAt (cUp a k n c h) a k n c := by
  refine ⟨?_, ?_, ?_, ?_⟩ <;> simp only [cUp] <;> rw [if_pos (by omega)]
  · rw [Nat.sub_self]; rfl
  · rw [Nat.add_sub_cancel_left]; rfl
  · rw [Nat.add_sub_cancel_left]; rfl
  · rw [Nat.add_sub_cancel_left]; rfl
theorem cUp_out {a : Nat} {k : Int32} {n : Nat} {c : Nat → sC} {h : zH} {q : Nat} (hq : q < a ∨ a + 4 ≤ q) : (cUp a k n c h).2 q = h.2 q := by
  simp only [cUp]; rw [if_neg (by omega)]
theorem cUp_up (a : Nat) (k k' : Int32) (n n' : Nat) (c c' : Nat → sC) (h : zH) : cUp a k n c (cUp a k' n' c' h) = cUp a k n c h := by
  refine Prod.ext rfl (funext fun q => ?_)
  simp only [cUp]
  split <;> rfl
theorem cAt_self {h : zH} {a : Nat} {k : Int32} {n : Nat} {c : Nat → sC} (hA : cAt h a k n c) : cUp a k n c h = h := by
  refine Prod.ext rfl (funext fun q => ?_)
  simp only [cUp]
  split
  · rename_i hq
    obtain ⟨A0, A1, A2, A3⟩ := hA
    rcases (show q = a ∨ q = a + 1 ∨ q = a + 2 ∨ q = a + 3 by omega) with e | e | e | e <;> subst e
    · rw [A0, Nat.sub_self]; rfl
    · rw [A1, Nat.add_sub_cancel_left]; rfl
    · rw [A2, Nat.add_sub_cancel_left]; rfl
    · rw [A3, Nat.add_sub_cancel_left]; rfl
  · rfl
theorem cAt_fr {h h1 : zH} {a : Nat} {k : Int32} {n : Nat} {c : Nat → sC} (hA : cAt h a k n c) (hf : ∀ q, a ≤ q → q < a + 4 → h1.2 q = h.2 q) : cAt h1 a k n c := by
  obtain ⟨A0, A1, A2, A3⟩ := hA
  exact ⟨by rw [hf a (by omega) (by omega)]; exact A0, by rw [hf _ (by omega) (by omega)]; exact A1, by rw [hf _ (by omega) (by omega)]; exact A2, by rw [hf _ (by omega) (by omega)]; exact A3⟩
theorem cAt_dis {h : zH} {a b : Nat} {k k' : Int32} {n n' : Nat} {c c' : Nat → sC} (hA : cAt h a k n c) (hB : cAt h b k' n' c') (hne : a ≠ b) : a + 4 ≤ b ∨ b + 4 ≤ a := by
  obtain ⟨A0, A1, A2, A3⟩ := hA
  obtain ⟨B0, B1, B2, B3⟩ := hB
  rcases Nat.lt_or_gt_of_ne hne with q | q
  · rcases (show b = a + 1 ∨ b = a + 2 ∨ b = a + 3 ∨ a + 4 ≤ b by omega) with e | e | e | e
    · rw [e, A1] at B0; cases B0
    · rw [e, A2] at B0; cases B0
    · rw [e, A3] at B0; cases B0
    · exact Or.inl e
  · rcases (show a = b + 1 ∨ a = b + 2 ∨ a = b + 3 ∨ b + 4 ≤ a by omega) with e | e | e | e
    · rw [e, B1] at A0; cases A0
    · rw [e, B2] at A0; cases A0
    · rw [e, B3] at A0; cases A0
    · exact Or.inr e
theorem cAt_up {h : zH} {a b : Nat} {k k' k2 : Int32} {n n' n2 : Nat} {c c' c2 : Nat → sC} (hA : cAt h a k n c) (hB : cAt h b k' n' c') (hne : a ≠ b) : cAt (cUp a k2 n2 c2 h) b k' n' c' := cAt_fr hB (fun q h1 h2 => cUp_out (by have := cAt_dis hA hB hne; omega))
theorem dlt_gt {x y : UInt64} (hn : FP.dcmp x y ≠ none) (he : ¬ FP.dcmp x y = some .eq) : (¬ FP.dcmp x y = some .lt) ↔ FP.dcmp x y = some .gt := by
  cases q : FP.dcmp x y with
  | none => exact absurd q hn
  | some o => cases o <;> simp_all
theorem sJo_dec : ∀ i j : Fin 8, sJo (nI i) (nI j) = (if nI i.1 = nI j.1 then nI i else if nI i.1 = 0 ∨ nI j.1 = 0 then -1 else if 4 ≤ (if nI j.1 ≤ nI i.1 then nI i.1 else nI j.1) then (if nI j.1 ≤ nI i.1 then nI i.1 else nI j.1) else if nI i.1 = 2 ∨ nI j.1 = 2 then 4 else 3) := by decide
theorem sJo_eq {a b : Int32} (ha : sNum a) (hb : sNum b) : sJo a b = (if a = b then a else if a = 0 ∨ b = 0 then -1 else if 4 ≤ (if b ≤ a then a else b) then (if b ≤ a then a else b) else if a = 2 ∨ b = 2 then 4 else 3) := by
  obtain ⟨i, hi, rfl⟩ := nI_of2 (x := a) (M := 7) (n := 7) (by decide) (by have := ha.1; grind) ha.2
  obtain ⟨j, hj, rfl⟩ := nI_of2 (x := b) (M := 7) (n := 7) (by decide) (by have := hb.1; grind) hb.2
  exact sJo_dec ⟨i, by omega⟩ ⟨j, by omega⟩

set_option maxHeartbeats 4000000 in
set_option maxRecDepth 100000 in
/-- X5_isReal -/
theorem m_isReal (g : zG) (h : zH) (s : Int32) : zX g yX5_isReal cX5_isReal 1 (some .boolean) rmX5_isReal [.int s] h (.int (if s = 6 ∨ s = 7 then 1 else 0)) h := by
  refine zM_of (by decide) (Nat.le_of_ble_eq_true rfl) ?_
  refine z_iload_n dX5_isReal_0 rfl rfl ?_
  refine z_bipush (v := 6) dX5_isReal_1 rfl (by decide) ?_
  refine z_icmp_eq (tgt := 12) dX5_isReal_3 rfl (by decide) (fun c3 => ?_) (fun c3 => ?_)
  · skip
    refine z_iconst (v := 1) dX5_isReal_12 rfl (by decide) ?_
    refine z_goto (tgt := 17) dX5_isReal_13 rfl (by decide) ?_
    exact z_zret dX5_isReal_17 rfl rfl rfl ⟨by grind, rfl⟩ (Nat.le_of_ble_eq_true rfl) (Nat.le_of_ble_eq_true rfl)
  · skip
    refine z_iload_n dX5_isReal_6 rfl rfl ?_
    refine z_bipush (v := 7) dX5_isReal_7 rfl (by decide) ?_
    refine z_icmp_ne (tgt := 16) dX5_isReal_9 rfl (by decide) (fun c9 => ?_) (fun c9 => ?_)
    · skip
      refine z_iconst (v := 0) dX5_isReal_16 rfl (by decide) ?_
      exact z_zret dX5_isReal_17 rfl rfl rfl ⟨by grind, rfl⟩ (Nat.le_of_ble_eq_true rfl) (Nat.le_of_ble_eq_true rfl)
    · skip
      refine z_iconst (v := 1) dX5_isReal_12 rfl (by decide) ?_
      refine z_goto (tgt := 17) dX5_isReal_13 rfl (by decide) ?_
      exact z_zret dX5_isReal_17 rfl rfl rfl ⟨by grind, rfl⟩ (Nat.le_of_ble_eq_true rfl) (Nat.le_of_ble_eq_true rfl)

set_option maxHeartbeats 4000000 in
set_option maxRecDepth 100000 in
/-- X5_fits -/
theorem m_fits (g : zG) (h : zH) (s k : Int32) (hs : 0 ≤ s ∧ s ≤ 10) (hk : 0 ≤ k ∧ k ≤ 10) : zX g yX5_fits cX5_fits 2 (some .boolean) rmX5_fits [.int s, .int k] h (.int (if sInto s k = true then 1 else 0)) h := by
  refine zM_of (by decide) (Nat.le_of_ble_eq_true rfl) ?_
  refine z_iload_n dX5_fits_0 rfl rfl ?_
  refine z_bipush (v := 9) dX5_fits_1 rfl (by decide) ?_
  refine z_icmp_ne (tgt := 8) dX5_fits_3 rfl (by decide) (fun c3 => ?_) (fun c3 => ?_)
  · skip
    refine z_iload_n dX5_fits_8 rfl rfl ?_
    refine z_bipush (v := 7) dX5_fits_9 rfl (by decide) ?_
    refine z_icmp_le (tgt := 31) dX5_fits_11 rfl (by decide) (fun c11 => ?_) (fun c11 => ?_)
    · skip
      refine z_iload_n dX5_fits_31 rfl rfl ?_
      refine z_iload_n dX5_fits_32 rfl rfl ?_
      refine z_icmp_ne (tgt := 38) dX5_fits_33 rfl (by decide) (fun c33 => ?_) (fun c33 => ?_)
      · skip
        refine z_iload_n dX5_fits_38 rfl rfl ?_
        refine z_if_eq (tgt := 48) dX5_fits_39 rfl (by decide) (fun c39 => ?_) (fun c39 => ?_)
        · skip
          refine z_iconst (v := 0) dX5_fits_48 rfl (by decide) ?_
          exact z_zret dX5_fits_49 rfl rfl rfl ⟨by grind [sInto], rfl⟩ (Nat.le_of_ble_eq_true rfl) (Nat.le_of_ble_eq_true rfl)
        · skip
          refine z_iload_n dX5_fits_42 rfl rfl ?_
          refine z_bipush (v := 7) dX5_fits_43 rfl (by decide) ?_
          refine z_icmp_le (tgt := 50) dX5_fits_45 rfl (by decide) (fun c45 => ?_) (fun c45 => ?_)
          · skip
            refine z_iload_n dX5_fits_50 rfl rfl ?_
            refine z_iconst (v := 4) dX5_fits_51 rfl (by decide) ?_
            refine z_icmp_lt (tgt := 68) dX5_fits_52 rfl (by decide) (fun c52 => ?_) (fun c52 => ?_)
            · skip
              refine z_iload_n dX5_fits_68 rfl rfl ?_
              refine z_iconst (v := 3) dX5_fits_69 rfl (by decide) ?_
              refine z_icmp_ne (tgt := 82) dX5_fits_70 rfl (by decide) (fun c70 => ?_) (fun c70 => ?_)
              · skip
                refine z_iconst (v := 0) dX5_fits_82 rfl (by decide) ?_
                exact z_zret dX5_fits_83 rfl rfl rfl ⟨by grind [sInto], rfl⟩ (Nat.le_of_ble_eq_true rfl) (Nat.le_of_ble_eq_true rfl)
              · skip
                refine z_iload_n dX5_fits_73 rfl rfl ?_
                refine z_iconst (v := 1) dX5_fits_74 rfl (by decide) ?_
                refine z_icmp_ne (tgt := 82) dX5_fits_75 rfl (by decide) (fun c75 => ?_) (fun c75 => ?_)
                · skip
                  refine z_iconst (v := 0) dX5_fits_82 rfl (by decide) ?_
                  exact z_zret dX5_fits_83 rfl rfl rfl ⟨by grind [sInto], rfl⟩ (Nat.le_of_ble_eq_true rfl) (Nat.le_of_ble_eq_true rfl)
                · skip
                  refine z_iconst (v := 1) dX5_fits_78 rfl (by decide) ?_
                  refine z_goto (tgt := 83) dX5_fits_79 rfl (by decide) ?_
                  exact z_zret dX5_fits_83 rfl rfl rfl ⟨by grind [sInto], rfl⟩ (Nat.le_of_ble_eq_true rfl) (Nat.le_of_ble_eq_true rfl)
            · skip
              refine z_iload_n dX5_fits_55 rfl rfl ?_
              refine z_iload_n dX5_fits_56 rfl rfl ?_
              refine z_icmp_ge (tgt := 64) dX5_fits_57 rfl (by decide) (fun c57 => ?_) (fun c57 => ?_)
              · skip
                refine z_iconst (v := 0) dX5_fits_64 rfl (by decide) ?_
                refine z_goto (tgt := 83) dX5_fits_65 rfl (by decide) ?_
                exact z_zret dX5_fits_83 rfl rfl rfl ⟨by grind [sInto], rfl⟩ (Nat.le_of_ble_eq_true rfl) (Nat.le_of_ble_eq_true rfl)
              · skip
                refine z_iconst (v := 1) dX5_fits_60 rfl (by decide) ?_
                refine z_goto (tgt := 83) dX5_fits_61 rfl (by decide) ?_
                exact z_zret dX5_fits_83 rfl rfl rfl ⟨by grind [sInto], rfl⟩ (Nat.le_of_ble_eq_true rfl) (Nat.le_of_ble_eq_true rfl)
          · skip
            refine z_iconst (v := 0) dX5_fits_48 rfl (by decide) ?_
            exact z_zret dX5_fits_49 rfl rfl rfl ⟨by grind [sInto], rfl⟩ (Nat.le_of_ble_eq_true rfl) (Nat.le_of_ble_eq_true rfl)
      · skip
        refine z_iconst (v := 1) dX5_fits_36 rfl (by decide) ?_
        exact z_zret dX5_fits_37 rfl rfl rfl ⟨by grind [sInto], rfl⟩ (Nat.le_of_ble_eq_true rfl) (Nat.le_of_ble_eq_true rfl)
    · skip
      refine z_iload_n dX5_fits_14 rfl rfl ?_
      refine z_iload_n dX5_fits_15 rfl rfl ?_
      refine z_icmp_eq (tgt := 25) dX5_fits_16 rfl (by decide) (fun c16 => ?_) (fun c16 => ?_)
      · skip
        refine z_iconst (v := 1) dX5_fits_25 rfl (by decide) ?_
        refine z_goto (tgt := 30) dX5_fits_26 rfl (by decide) ?_
        exact z_zret dX5_fits_30 rfl rfl rfl ⟨by grind [sInto], rfl⟩ (Nat.le_of_ble_eq_true rfl) (Nat.le_of_ble_eq_true rfl)
      · skip
        refine z_iload_n dX5_fits_19 rfl rfl ?_
        refine z_bipush (v := 9) dX5_fits_20 rfl (by decide) ?_
        refine z_icmp_ne (tgt := 29) dX5_fits_22 rfl (by decide) (fun c22 => ?_) (fun c22 => ?_)
        · skip
          refine z_iconst (v := 0) dX5_fits_29 rfl (by decide) ?_
          exact z_zret dX5_fits_30 rfl rfl rfl ⟨by grind [sInto], rfl⟩ (Nat.le_of_ble_eq_true rfl) (Nat.le_of_ble_eq_true rfl)
        · skip
          refine z_iconst (v := 1) dX5_fits_25 rfl (by decide) ?_
          refine z_goto (tgt := 30) dX5_fits_26 rfl (by decide) ?_
          exact z_zret dX5_fits_30 rfl rfl rfl ⟨by grind [sInto], rfl⟩ (Nat.le_of_ble_eq_true rfl) (Nat.le_of_ble_eq_true rfl)
  · skip
    refine z_iconst (v := 1) dX5_fits_6 rfl (by decide) ?_
    exact z_zret dX5_fits_7 rfl rfl rfl ⟨by grind [sInto], rfl⟩ (Nat.le_of_ble_eq_true rfl) (Nat.le_of_ble_eq_true rfl)

set_option maxHeartbeats 4000000 in
set_option maxRecDepth 100000 in
/-- X5_joined -/
theorem m_joined (g : zG) (h : zH) (a b : Int32) (ha : sNum a) (hb : sNum b) : zX g yX5_joined cX5_joined 3 (some .int) rmX5_joined [.int a, .int b] h (.int (sJo a b)) h := by
  refine zM_of (by decide) (Nat.le_of_ble_eq_true rfl) ?_
  refine z_iload_n dX5_joined_0 rfl rfl ?_
  refine z_iload_n dX5_joined_1 rfl rfl ?_
  refine z_icmp_ne (tgt := 7) dX5_joined_2 rfl (by decide) (fun c2 => ?_) (fun c2 => ?_)
  · skip
    refine z_iload_n dX5_joined_7 rfl rfl ?_
    refine z_if_eq (tgt := 15) dX5_joined_8 rfl (by decide) (fun c8 => ?_) (fun c8 => ?_)
    · skip
      refine z_iconst (v := -1) dX5_joined_15 rfl (by decide) ?_
      exact z_iret dX5_joined_16 rfl rfl ⟨by rw [sJo_eq ha hb]; grind, rfl⟩ (Nat.le_of_ble_eq_true rfl) (Nat.le_of_ble_eq_true rfl)
    · skip
      refine z_iload_n dX5_joined_11 rfl rfl ?_
      refine z_if_ne (tgt := 17) dX5_joined_12 rfl (by decide) (fun c12 => ?_) (fun c12 => ?_)
      · skip
        refine z_iload_n dX5_joined_17 rfl rfl ?_
        refine z_iload_n dX5_joined_18 rfl rfl ?_
        refine zc_X5_9 rfl dX5_joined_19 rfl (Nat.le_of_ble_eq_true rfl) (Nat.le_of_ble_eq_true rfl) (Nat.le_of_ble_eq_true rfl) (Nat.le_of_ble_eq_true rfl) ?_
        refine z_istore_n dX5_joined_22 rfl (Nat.le_of_ble_eq_true rfl) ?_
        refine z_iload_n dX5_joined_23 rfl rfl ?_
        refine z_iconst (v := 4) dX5_joined_24 rfl (by decide) ?_
        refine z_icmp_lt (tgt := 30) dX5_joined_25 rfl (by decide) (fun c25 => ?_) (fun c25 => ?_)
        · skip
          refine z_iload_n dX5_joined_30 rfl rfl ?_
          refine z_iconst (v := 2) dX5_joined_31 rfl (by decide) ?_
          refine z_icmp_eq (tgt := 40) dX5_joined_32 rfl (by decide) (fun c32 => ?_) (fun c32 => ?_)
          · skip
            refine z_iconst (v := 4) dX5_joined_40 rfl (by decide) ?_
            refine z_goto (tgt := 45) dX5_joined_41 rfl (by decide) ?_
            exact z_iret dX5_joined_45 rfl rfl ⟨by rw [sJo_eq ha hb]; grind, rfl⟩ (Nat.le_of_ble_eq_true rfl) (Nat.le_of_ble_eq_true rfl)
          · skip
            refine z_iload_n dX5_joined_35 rfl rfl ?_
            refine z_iconst (v := 2) dX5_joined_36 rfl (by decide) ?_
            refine z_icmp_ne (tgt := 44) dX5_joined_37 rfl (by decide) (fun c37 => ?_) (fun c37 => ?_)
            · skip
              refine z_iconst (v := 3) dX5_joined_44 rfl (by decide) ?_
              exact z_iret dX5_joined_45 rfl rfl ⟨by rw [sJo_eq ha hb]; grind, rfl⟩ (Nat.le_of_ble_eq_true rfl) (Nat.le_of_ble_eq_true rfl)
            · skip
              refine z_iconst (v := 4) dX5_joined_40 rfl (by decide) ?_
              refine z_goto (tgt := 45) dX5_joined_41 rfl (by decide) ?_
              exact z_iret dX5_joined_45 rfl rfl ⟨by rw [sJo_eq ha hb]; grind, rfl⟩ (Nat.le_of_ble_eq_true rfl) (Nat.le_of_ble_eq_true rfl)
        · skip
          refine z_iload_n dX5_joined_28 rfl rfl ?_
          exact z_iret dX5_joined_29 rfl rfl ⟨by rw [sJo_eq ha hb]; grind, rfl⟩ (Nat.le_of_ble_eq_true rfl) (Nat.le_of_ble_eq_true rfl)
      · skip
        refine z_iconst (v := -1) dX5_joined_15 rfl (by decide) ?_
        exact z_iret dX5_joined_16 rfl rfl ⟨by rw [sJo_eq ha hb]; grind, rfl⟩ (Nat.le_of_ble_eq_true rfl) (Nat.le_of_ble_eq_true rfl)
  · skip
    refine z_iload_n dX5_joined_5 rfl rfl ?_
    exact z_iret dX5_joined_6 rfl rfl ⟨by rw [sJo_eq ha hb]; grind, rfl⟩ (Nat.le_of_ble_eq_true rfl) (Nat.le_of_ble_eq_true rfl)

set_option maxHeartbeats 4000000 in
set_option maxRecDepth 100000 in
/-- X3_realAs -/
theorem m_realAs (g : zG) (h : zH) (a : Nat) (k : Int32) (n : Nat) (c : Nat → sC) (hA : cAt h a k n c) (hn : n ≤ 40) (i : Nat) (hi : i < n) (sort : Int32) (h0 : 0 ≤ (c i).1) (h7 : (c i).1 ≤ 7) : zX g yX3_realAs cX3_realAs 3 (some .double) rmX3_realAs [.ref a, .int (nI i), .int sort] h (.double (sReal (c i) sort)) h := by
  refine zM_of (by decide) (Nat.le_of_ble_eq_true rfl) ?_
  obtain ⟨A0, A1, A2, A3⟩ := hA
  first | refine z_aload_n dX3_realAs_0 rfl rfl ?_ | refine z_aload_nN dX3_realAs_0 rfl rfl ?_
  refine zg_X3_18 rfl dX3_realAs_1 rfl (by assumption) rfl ?_
  refine z_iload_n dX3_realAs_4 rfl rfl ?_
  refine z_iald dX3_realAs_5 rfl (by assumption) (vp_in_nI (by omega) (by omega)) ?_
  rw [nI_clamp (show i < 2 ^ 31 by omega)]
  refine zcx_X3_60 rfl dX3_realAs_6 rfl (m_isReal g h _) rfl rfl ⟨(Nat.le_of_ble_eq_true rfl), (Nat.le_of_ble_eq_true rfl)⟩ ⟨(Nat.le_of_ble_eq_true rfl), (Nat.le_of_ble_eq_true rfl)⟩ (Nat.le_of_ble_eq_true rfl) ?_
  refine z_bif_eq (tgt := 19) dX3_realAs_9 rfl (by decide) (fun c9 => ?_) (fun c9 => ?_)
  · skip
    refine z_iload_n dX3_realAs_19 rfl rfl ?_
    refine z_bipush (v := 6) dX3_realAs_20 rfl (by decide) ?_
    refine z_icmp_ne (tgt := 36) dX3_realAs_22 rfl (by decide) (fun c22 => ?_) (fun c22 => ?_)
    · skip
      first | refine z_aload_n dX3_realAs_36 rfl rfl ?_ | refine z_aload_nN dX3_realAs_36 rfl rfl ?_
      refine zg_X3_22 rfl dX3_realAs_37 rfl (by assumption) rfl ?_
      refine z_iload_n dX3_realAs_40 rfl rfl ?_
      refine z_lald dX3_realAs_41 rfl (by assumption) (vp_in_nI (by omega) (by omega)) ?_
      rw [nI_clamp (show i < 2 ^ 31 by omega)]
      refine z_l2d dX3_realAs_42 rfl ?_
      exact z_dret dX3_realAs_43 rfl rfl ⟨by grind [sReal], rfl⟩ (Nat.le_of_ble_eq_true rfl) (Nat.le_of_ble_eq_true rfl)
    · skip
      first | refine z_aload_n dX3_realAs_25 rfl rfl ?_ | refine z_aload_nN dX3_realAs_25 rfl rfl ?_
      refine zg_X3_22 rfl dX3_realAs_26 rfl (by assumption) rfl ?_
      refine z_iload_n dX3_realAs_29 rfl rfl ?_
      refine z_lald dX3_realAs_30 rfl (by assumption) (vp_in_nI (by omega) (by omega)) ?_
      rw [nI_clamp (show i < 2 ^ 31 by omega)]
      refine z_l2f dX3_realAs_31 rfl ?_
      refine z_f2d dX3_realAs_32 rfl (fpD_n (okS_f2d (okS_l2f _)).1) ?_
      refine z_goto (tgt := 43) dX3_realAs_33 rfl (by decide) ?_
      exact z_dret dX3_realAs_43 rfl rfl ⟨by grind [sReal], rfl⟩ (Nat.le_of_ble_eq_true rfl) (Nat.le_of_ble_eq_true rfl)
  · skip
    first | refine z_aload_n dX3_realAs_12 rfl rfl ?_ | refine z_aload_nN dX3_realAs_12 rfl rfl ?_
    refine zg_X3_26 rfl dX3_realAs_13 rfl (by assumption) rfl ?_
    refine z_iload_n dX3_realAs_16 rfl rfl ?_
    refine z_dald dX3_realAs_17 rfl (by assumption) (vp_in_nI (by omega) (by omega)) ?_
    rw [nI_clamp (show i < 2 ^ 31 by omega)]
    exact z_dret dX3_realAs_18 rfl rfl ⟨by grind [sReal], rfl⟩ (Nat.le_of_ble_eq_true rfl) (Nat.le_of_ble_eq_true rfl)

set_option maxHeartbeats 4000000 in
set_option maxRecDepth 100000 in
/-- X6_ofReals -/
theorem m_ofReals (g : zG) (h : zH) (x y : UInt64) (tol : Int32) (hx : okD x) (hy : okD y) : zX g yX6_ofReals cX6_ofReals 7 (some .int) rmX6_ofReals [.double x, .double y, .int tol] h (.int (if FP.dcmp x y = some .eq then 0 else if ¬ FP.dcmp (sFar x y) (FP.i2d tol) = some .gt then 1 else 2)) h := by
  refine zM_of (by decide) (Nat.le_of_ble_eq_true rfl) ?_
  refine z_dload_n dX6_ofReals_0 rfl rfl ?_
  refine z_dload_n dX6_ofReals_1 rfl rfl ?_
  refine z_dc_ne (tgt := 8) dX6_ofReals_2 rfl dX6_ofReals_3 (by decide) (dcmp_ok hx.1 hy.1) (fun c2 => ?_) (fun c2 => ?_)
  · skip
    refine z_dload_n dX6_ofReals_8 rfl rfl ?_
    refine z_dload_n dX6_ofReals_9 rfl rfl ?_
    refine z_dc_ge (tgt := 20) dX6_ofReals_10 rfl dX6_ofReals_11 (by decide) (dcmp_ok hx.1 hy.1) (fun c10 => ?_) (fun c10 => ?_)
    · skip
      refine z_dload_n dX6_ofReals_20 rfl rfl ?_
      refine z_dload_n dX6_ofReals_21 rfl rfl ?_
      refine z_dsub dX6_ofReals_22 rfl (fpD_n (fpD_dsub hx.1 hy.1 (by decide))) ?_
      refine z_dstore dX6_ofReals_23 rfl (Nat.le_of_ble_eq_true rfl) ?_
      refine z_dload dX6_ofReals_25 rfl rfl ?_
      refine z_iload dX6_ofReals_27 rfl rfl ?_
      refine z_i2d dX6_ofReals_29 rfl ?_
      refine z_dc_gt (tgt := 38) dX6_ofReals_30 rfl dX6_ofReals_31 (by decide) (dcmp_ok (k := 64) (by first | exact (fpD_dsub hy.1 hx.1 (by decide)) | exact (fpD_dsub hx.1 hy.1 (by decide))) (fpD_up (fpD_i2d tol) (by decide))) (fun c30 => ?_) (fun c30 => ?_)
      · skip
        refine z_iconst (v := 2) dX6_ofReals_38 rfl (by decide) ?_
        exact z_iret dX6_ofReals_39 rfl rfl ⟨by have hz := dlt_gt (dcmp_ok hx.1 hy.1) c2; rw [if_neg c2, sFar]; grind, rfl⟩ (Nat.le_of_ble_eq_true rfl) (Nat.le_of_ble_eq_true rfl)
      · skip
        refine z_iconst (v := 1) dX6_ofReals_34 rfl (by decide) ?_
        refine z_goto (tgt := 39) dX6_ofReals_35 rfl (by decide) ?_
        exact z_iret dX6_ofReals_39 rfl rfl ⟨by have hz := dlt_gt (dcmp_ok hx.1 hy.1) c2; rw [if_neg c2, sFar]; grind, rfl⟩ (Nat.le_of_ble_eq_true rfl) (Nat.le_of_ble_eq_true rfl)
    · skip
      refine z_dload_n dX6_ofReals_14 rfl rfl ?_
      refine z_dload_n dX6_ofReals_15 rfl rfl ?_
      refine z_dsub dX6_ofReals_16 rfl (fpD_n (fpD_dsub hy.1 hx.1 (by decide))) ?_
      refine z_goto (tgt := 23) dX6_ofReals_17 rfl (by decide) ?_
      refine z_dstore dX6_ofReals_23 rfl (Nat.le_of_ble_eq_true rfl) ?_
      refine z_dload dX6_ofReals_25 rfl rfl ?_
      refine z_iload dX6_ofReals_27 rfl rfl ?_
      refine z_i2d dX6_ofReals_29 rfl ?_
      refine z_dc_gt (tgt := 38) dX6_ofReals_30 rfl dX6_ofReals_31 (by decide) (dcmp_ok (k := 64) (by first | exact (fpD_dsub hy.1 hx.1 (by decide)) | exact (fpD_dsub hx.1 hy.1 (by decide))) (fpD_up (fpD_i2d tol) (by decide))) (fun c30 => ?_) (fun c30 => ?_)
      · skip
        refine z_iconst (v := 2) dX6_ofReals_38 rfl (by decide) ?_
        exact z_iret dX6_ofReals_39 rfl rfl ⟨by have hz := dlt_gt (dcmp_ok hx.1 hy.1) c2; rw [if_neg c2, sFar]; grind, rfl⟩ (Nat.le_of_ble_eq_true rfl) (Nat.le_of_ble_eq_true rfl)
      · skip
        refine z_iconst (v := 1) dX6_ofReals_34 rfl (by decide) ?_
        refine z_goto (tgt := 39) dX6_ofReals_35 rfl (by decide) ?_
        exact z_iret dX6_ofReals_39 rfl rfl ⟨by have hz := dlt_gt (dcmp_ok hx.1 hy.1) c2; rw [if_neg c2, sFar]; grind, rfl⟩ (Nat.le_of_ble_eq_true rfl) (Nat.le_of_ble_eq_true rfl)
  · skip
    refine z_iconst (v := 0) dX6_ofReals_6 rfl (by decide) ?_
    exact z_iret dX6_ofReals_7 rfl rfl ⟨by rw [if_pos c2], rfl⟩ (Nat.le_of_ble_eq_true rfl) (Nat.le_of_ble_eq_true rfl)

set_option maxHeartbeats 4000000 in
set_option maxRecDepth 100000 in
/-- X6_isClose -/
theorem m_isClose (g : zG) (h : zH) (x y : Int64) (tol : Int32) : zX g yX6_isClose cX6_isClose 7 (some .boolean) rmX6_isClose [.long x, .long y, .int tol] h (.int (if 0 ≤ (if x < y then y - x else x - y) ∧ (if x < y then y - x else x - y) ≤ tol.toInt64 then 1 else 0)) h := by
  refine zM_of (by decide) (Nat.le_of_ble_eq_true rfl) ?_
  refine z_lload_n dX6_isClose_0 rfl rfl ?_
  refine z_lload_n dX6_isClose_1 rfl rfl ?_
  refine z_lc_ge (tgt := 12) dX6_isClose_2 rfl dX6_isClose_3 (by decide) (fun c2 => ?_) (fun c2 => ?_)
  · skip
    refine z_lload_n dX6_isClose_12 rfl rfl ?_
    refine z_lload_n dX6_isClose_13 rfl rfl ?_
    refine z_lsub dX6_isClose_14 rfl ?_
    refine z_lstore dX6_isClose_15 rfl (Nat.le_of_ble_eq_true rfl) ?_
    refine z_lload dX6_isClose_17 rfl rfl ?_
    refine z_lconst (v := 0) dX6_isClose_19 rfl (by decide) ?_
    refine z_lc_lt (tgt := 37) dX6_isClose_20 rfl dX6_isClose_21 (by decide) (fun c20 => ?_) (fun c20 => ?_)
    · skip
      refine z_iconst (v := 0) dX6_isClose_37 rfl (by decide) ?_
      exact z_zret dX6_isClose_38 rfl rfl rfl ⟨by grind, rfl⟩ (Nat.le_of_ble_eq_true rfl) (Nat.le_of_ble_eq_true rfl)
    · skip
      refine z_lload dX6_isClose_24 rfl rfl ?_
      refine z_iload dX6_isClose_26 rfl rfl ?_
      refine z_i2l dX6_isClose_28 rfl ?_
      refine z_lc_gt (tgt := 37) dX6_isClose_29 rfl dX6_isClose_30 (by decide) (fun c29 => ?_) (fun c29 => ?_)
      · skip
        refine z_iconst (v := 0) dX6_isClose_37 rfl (by decide) ?_
        exact z_zret dX6_isClose_38 rfl rfl rfl ⟨by grind, rfl⟩ (Nat.le_of_ble_eq_true rfl) (Nat.le_of_ble_eq_true rfl)
      · skip
        refine z_iconst (v := 1) dX6_isClose_33 rfl (by decide) ?_
        refine z_goto (tgt := 38) dX6_isClose_34 rfl (by decide) ?_
        exact z_zret dX6_isClose_38 rfl rfl rfl ⟨by grind, rfl⟩ (Nat.le_of_ble_eq_true rfl) (Nat.le_of_ble_eq_true rfl)
  · skip
    refine z_lload_n dX6_isClose_6 rfl rfl ?_
    refine z_lload_n dX6_isClose_7 rfl rfl ?_
    refine z_lsub dX6_isClose_8 rfl ?_
    refine z_goto (tgt := 15) dX6_isClose_9 rfl (by decide) ?_
    refine z_lstore dX6_isClose_15 rfl (Nat.le_of_ble_eq_true rfl) ?_
    refine z_lload dX6_isClose_17 rfl rfl ?_
    refine z_lconst (v := 0) dX6_isClose_19 rfl (by decide) ?_
    refine z_lc_lt (tgt := 37) dX6_isClose_20 rfl dX6_isClose_21 (by decide) (fun c20 => ?_) (fun c20 => ?_)
    · skip
      refine z_iconst (v := 0) dX6_isClose_37 rfl (by decide) ?_
      exact z_zret dX6_isClose_38 rfl rfl rfl ⟨by grind, rfl⟩ (Nat.le_of_ble_eq_true rfl) (Nat.le_of_ble_eq_true rfl)
    · skip
      refine z_lload dX6_isClose_24 rfl rfl ?_
      refine z_iload dX6_isClose_26 rfl rfl ?_
      refine z_i2l dX6_isClose_28 rfl ?_
      refine z_lc_gt (tgt := 37) dX6_isClose_29 rfl dX6_isClose_30 (by decide) (fun c29 => ?_) (fun c29 => ?_)
      · skip
        refine z_iconst (v := 0) dX6_isClose_37 rfl (by decide) ?_
        exact z_zret dX6_isClose_38 rfl rfl rfl ⟨by grind, rfl⟩ (Nat.le_of_ble_eq_true rfl) (Nat.le_of_ble_eq_true rfl)
      · skip
        refine z_iconst (v := 1) dX6_isClose_33 rfl (by decide) ?_
        refine z_goto (tgt := 38) dX6_isClose_34 rfl (by decide) ?_
        exact z_zret dX6_isClose_38 rfl rfl rfl ⟨by grind, rfl⟩ (Nat.le_of_ble_eq_true rfl) (Nat.le_of_ble_eq_true rfl)

