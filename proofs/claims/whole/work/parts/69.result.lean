def isV (x : Int32) (t : sStep) : Bool := decide (t.2.2.2.1 = x)
theorem cn_t {L : List sStep} {k : Nat} {t : sStep} {P : sStep → Bool} (hk : L[k]? = some t) : nI ((L.take (k + 1)).countP P) = if P t = true then nI ((L.take k).countP P + 1) else nI ((L.take k).countP P) := by
  rw [take_s' hk, List.countP_append, List.countP_singleton]
  by_cases q : P t = true
  · rw [if_pos q, if_pos q]
  · rw [if_neg q, if_neg q, Nat.add_zero]

abbrev YX4_stepsOf : zY := (yX4_stepsOf.cls, cX4_stepsOf, 4, (some .int), rmX4_stepsOf, yX4_stepsOf.name, fun _ _ => True)
set_option maxHeartbeats 800000 in
set_option maxRecDepth 100000 in
theorem m_stepsOf_L (g : zG) (h : zH) (p l r s : Nat) (cost : Int32) (n : Nat) (f : Nat → Nat → Int32) (L : List sStep) (hk : h.2 p = some (kOb l r s cost L.length)) (hf : csIs h s n f) (hL : ∀ k t, L[k]? = some t → stpIs f k t) (hLn : L.length ≤ n) (hn : n ≤ 40) (v : Int32) : ∀ (n : Nat)  (i : Nat), i + n = L.length → zZ g YX4_stepsOf (zE g (fun w h1 => w = some (.int (nI (L.countP (isT v)))) ∧ h1 = h) 0 0) 4 [(2, .int (nI ((L.take i).countP (isT v)))), (3, .int (nI i)), (0, .ref p), (1, .int v)] [] h 0 0 := by
  intro n
  induction n with
  | zero =>
    intro i hin
    refine z_iload_n dX4_stepsOf_4 rfl rfl ?_
    first | refine z_aload_n dX4_stepsOf_5 rfl rfl ?_ | refine z_aload_nN dX4_stepsOf_5 rfl rfl ?_
    refine zg_X4_43 rfl dX4_stepsOf_6 rfl hk rfl ?_
    refine z_icmp_ge (tgt := 31) dX4_stepsOf_9 rfl (by decide) (fun c9 => ?_) (fun c9 => absurd c9 (fun z => z (nI_le (by omega) (by omega))))
    refine z_iload_n dX4_stepsOf_31 rfl rfl ?_
    exact z_iret dX4_stepsOf_32 rfl rfl ⟨by rw [show i = L.length from by omega, List.take_length], rfl⟩ (Nat.le_of_ble_eq_true rfl) (Nat.le_of_ble_eq_true rfl)
  | succ n ih =>
    intro i hin
    obtain ⟨t, ht⟩ : ∃ t, L[i]? = some t := ⟨_, List.getElem?_eq_getElem (by omega)⟩
    refine z_iload_n dX4_stepsOf_4 rfl rfl ?_
    first | refine z_aload_n dX4_stepsOf_5 rfl rfl ?_ | refine z_aload_nN dX4_stepsOf_5 rfl rfl ?_
    refine zg_X4_43 rfl dX4_stepsOf_6 rfl hk rfl ?_
    refine z_icmp_ge (tgt := 31) dX4_stepsOf_9 rfl (by decide) (fun c9 => absurd c9 (nI_ge (by omega) (by omega))) (fun c9 => ?_)
    first | refine z_aload_n dX4_stepsOf_12 rfl rfl ?_ | refine z_aload_nN dX4_stepsOf_12 rfl rfl ?_
    refine zg_X4_27 rfl dX4_stepsOf_13 rfl hk rfl ?_
    refine z_iload_n dX4_stepsOf_16 rfl rfl ?_
    refine z_iald dX4_stepsOf_17 rfl (hf 0 (by decide)) (vp_in_nI (by omega) (by omega)) ?_
    rw [nI_clamp (show i < 2 ^ 31 by omega), (hL i t ht).1]
    refine z_iload_n dX4_stepsOf_18 rfl rfl ?_
    refine z_icmp_ne (tgt := 25) dX4_stepsOf_19 rfl (by decide) (fun c19 => ?_) (fun c19 => ?_)
    · skip
      first | rw [← show nI ((L.take (i + 1)).countP (isT v)) = nI ((L.take i).countP (isT v) + 1) from by rw [cn_t ht, if_pos (show isT v t = true from decide_eq_true c19)]] | rw [← show nI ((L.take (i + 1)).countP (isT v)) = nI ((L.take i).countP (isT v)) from by rw [cn_t ht, if_neg (by rw [show isT v t = false from decide_eq_false c19]; decide)]]
      refine z_iinc (v := nI (i + 1)) dX4_stepsOf_25 rfl rfl (nI_inc i) (Nat.le_of_ble_eq_true rfl) ?_
      refine z_goto (tgt := 4) dX4_stepsOf_28 rfl (by decide) ?_
      refine z_lv [(2, .int (nI ((L.take (i + 1)).countP (isT v)))), (3, .int (nI (i + 1))), (0, .ref p), (1, .int v)] ⟨rfl, rfl, rfl, rfl, trivial⟩ ?_
      exact ih (i + 1) (by omega)
    · skip
      refine z_iinc (v := nI ((L.take i).countP (isT v) + 1)) dX4_stepsOf_22 rfl rfl (nI_inc _) (Nat.le_of_ble_eq_true rfl) ?_
      first | rw [← show nI ((L.take (i + 1)).countP (isT v)) = nI ((L.take i).countP (isT v) + 1) from by rw [cn_t ht, if_pos (show isT v t = true from decide_eq_true c19)]] | rw [← show nI ((L.take (i + 1)).countP (isT v)) = nI ((L.take i).countP (isT v)) from by rw [cn_t ht, if_neg (by rw [show isT v t = false from decide_eq_false c19]; decide)]]
      refine z_iinc (v := nI (i + 1)) dX4_stepsOf_25 rfl rfl (nI_inc i) (Nat.le_of_ble_eq_true rfl) ?_
      refine z_goto (tgt := 4) dX4_stepsOf_28 rfl (by decide) ?_
      refine z_lv [(2, .int (nI ((L.take (i + 1)).countP (isT v)))), (3, .int (nI (i + 1))), (0, .ref p), (1, .int v)] ⟨rfl, rfl, rfl, rfl, trivial⟩ ?_
      exact ih (i + 1) (by omega)

set_option maxHeartbeats 4000000 in
set_option maxRecDepth 100000 in
/-- X4_stepsOf -/
theorem m_stepsOf (g : zG) (h : zH) (p l r s : Nat) (cost : Int32) (n : Nat) (f : Nat → Nat → Int32) (L : List sStep) (hk : h.2 p = some (kOb l r s cost L.length)) (hf : csIs h s n f) (hL : ∀ k t, L[k]? = some t → stpIs f k t) (hLn : L.length ≤ n) (hn : n ≤ 40) (v : Int32) : zX g yX4_stepsOf cX4_stepsOf 4 (some .int) rmX4_stepsOf [.ref p, .int v] h (.int (nI (L.countP (isT v)))) h := by
  refine zM_of (by decide) (Nat.le_of_ble_eq_true rfl) ?_
  refine z_iconst (v := 0) dX4_stepsOf_0 rfl (by decide) ?_
  refine z_istore_n dX4_stepsOf_1 rfl (Nat.le_of_ble_eq_true rfl) ?_
  refine z_iconst (v := 0) dX4_stepsOf_2 rfl (by decide) ?_
  refine z_istore_n dX4_stepsOf_3 rfl (Nat.le_of_ble_eq_true rfl) ?_
  refine z_lv [(2, .int (nI ((L.take 0).countP (isT v)))), (3, .int (nI 0)), (0, .ref p), (1, .int v)] ⟨rfl, rfl, rfl, rfl, trivial⟩ ?_
  exact m_stepsOf_L g h p l r s cost n f L hk hf hL hLn hn v L.length 0 (by omega)

abbrev YX4_verdictsOf : zY := (yX4_verdictsOf.cls, cX4_verdictsOf, 4, (some .int), rmX4_verdictsOf, yX4_verdictsOf.name, fun _ _ => True)
set_option maxHeartbeats 800000 in
set_option maxRecDepth 100000 in
theorem m_verdictsOf_L (g : zG) (h : zH) (p l r s : Nat) (cost : Int32) (n : Nat) (f : Nat → Nat → Int32) (L : List sStep) (hk : h.2 p = some (kOb l r s cost L.length)) (hf : csIs h s n f) (hL : ∀ k t, L[k]? = some t → stpIs f k t) (hLn : L.length ≤ n) (hn : n ≤ 40) (v : Int32) : ∀ (n : Nat)  (i : Nat), i + n = L.length → zZ g YX4_verdictsOf (zE g (fun w h1 => w = some (.int (nI (L.countP (isV v)))) ∧ h1 = h) 0 0) 4 [(2, .int (nI ((L.take i).countP (isV v)))), (3, .int (nI i)), (0, .ref p), (1, .int v)] [] h 0 0 := by
  intro n
  induction n with
  | zero =>
    intro i hin
    refine z_iload_n dX4_verdictsOf_4 rfl rfl ?_
    first | refine z_aload_n dX4_verdictsOf_5 rfl rfl ?_ | refine z_aload_nN dX4_verdictsOf_5 rfl rfl ?_
    refine zg_X4_43 rfl dX4_verdictsOf_6 rfl hk rfl ?_
    refine z_icmp_ge (tgt := 31) dX4_verdictsOf_9 rfl (by decide) (fun c9 => ?_) (fun c9 => absurd c9 (fun z => z (nI_le (by omega) (by omega))))
    refine z_iload_n dX4_verdictsOf_31 rfl rfl ?_
    exact z_iret dX4_verdictsOf_32 rfl rfl ⟨by rw [show i = L.length from by omega, List.take_length], rfl⟩ (Nat.le_of_ble_eq_true rfl) (Nat.le_of_ble_eq_true rfl)
  | succ n ih =>
    intro i hin
    obtain ⟨t, ht⟩ : ∃ t, L[i]? = some t := ⟨_, List.getElem?_eq_getElem (by omega)⟩
    refine z_iload_n dX4_verdictsOf_4 rfl rfl ?_
    first | refine z_aload_n dX4_verdictsOf_5 rfl rfl ?_ | refine z_aload_nN dX4_verdictsOf_5 rfl rfl ?_
    refine zg_X4_43 rfl dX4_verdictsOf_6 rfl hk rfl ?_
    refine z_icmp_ge (tgt := 31) dX4_verdictsOf_9 rfl (by decide) (fun c9 => absurd c9 (nI_ge (by omega) (by omega))) (fun c9 => ?_)
    first | refine z_aload_n dX4_verdictsOf_12 rfl rfl ?_ | refine z_aload_nN dX4_verdictsOf_12 rfl rfl ?_
    refine zg_X4_37 rfl dX4_verdictsOf_13 rfl hk rfl ?_
    refine z_iload_n dX4_verdictsOf_16 rfl rfl ?_
    refine z_iald dX4_verdictsOf_17 rfl (hf 3 (by decide)) (vp_in_nI (by omega) (by omega)) ?_
    rw [nI_clamp (show i < 2 ^ 31 by omega), (hL i t ht).2.2.2.1]
    refine z_iload_n dX4_verdictsOf_18 rfl rfl ?_
    refine z_icmp_ne (tgt := 25) dX4_verdictsOf_19 rfl (by decide) (fun c19 => ?_) (fun c19 => ?_)
    · skip
      first | rw [← show nI ((L.take (i + 1)).countP (isV v)) = nI ((L.take i).countP (isV v) + 1) from by rw [cn_t ht, if_pos (show isV v t = true from decide_eq_true c19)]] | rw [← show nI ((L.take (i + 1)).countP (isV v)) = nI ((L.take i).countP (isV v)) from by rw [cn_t ht, if_neg (by rw [show isV v t = false from decide_eq_false c19]; decide)]]
      refine z_iinc (v := nI (i + 1)) dX4_verdictsOf_25 rfl rfl (nI_inc i) (Nat.le_of_ble_eq_true rfl) ?_
      refine z_goto (tgt := 4) dX4_verdictsOf_28 rfl (by decide) ?_
      refine z_lv [(2, .int (nI ((L.take (i + 1)).countP (isV v)))), (3, .int (nI (i + 1))), (0, .ref p), (1, .int v)] ⟨rfl, rfl, rfl, rfl, trivial⟩ ?_
      exact ih (i + 1) (by omega)
    · skip
      refine z_iinc (v := nI ((L.take i).countP (isV v) + 1)) dX4_verdictsOf_22 rfl rfl (nI_inc _) (Nat.le_of_ble_eq_true rfl) ?_
      first | rw [← show nI ((L.take (i + 1)).countP (isV v)) = nI ((L.take i).countP (isV v) + 1) from by rw [cn_t ht, if_pos (show isV v t = true from decide_eq_true c19)]] | rw [← show nI ((L.take (i + 1)).countP (isV v)) = nI ((L.take i).countP (isV v)) from by rw [cn_t ht, if_neg (by rw [show isV v t = false from decide_eq_false c19]; decide)]]
      refine z_iinc (v := nI (i + 1)) dX4_verdictsOf_25 rfl rfl (nI_inc i) (Nat.le_of_ble_eq_true rfl) ?_
      refine z_goto (tgt := 4) dX4_verdictsOf_28 rfl (by decide) ?_
      refine z_lv [(2, .int (nI ((L.take (i + 1)).countP (isV v)))), (3, .int (nI (i + 1))), (0, .ref p), (1, .int v)] ⟨rfl, rfl, rfl, rfl, trivial⟩ ?_
      exact ih (i + 1) (by omega)

set_option maxHeartbeats 4000000 in
set_option maxRecDepth 100000 in
/-- X4_verdictsOf -/
theorem m_verdictsOf (g : zG) (h : zH) (p l r s : Nat) (cost : Int32) (n : Nat) (f : Nat → Nat → Int32) (L : List sStep) (hk : h.2 p = some (kOb l r s cost L.length)) (hf : csIs h s n f) (hL : ∀ k t, L[k]? = some t → stpIs f k t) (hLn : L.length ≤ n) (hn : n ≤ 40) (v : Int32) : zX g yX4_verdictsOf cX4_verdictsOf 4 (some .int) rmX4_verdictsOf [.ref p, .int v] h (.int (nI (L.countP (isV v)))) h := by
  refine zM_of (by decide) (Nat.le_of_ble_eq_true rfl) ?_
  refine z_iconst (v := 0) dX4_verdictsOf_0 rfl (by decide) ?_
  refine z_istore_n dX4_verdictsOf_1 rfl (Nat.le_of_ble_eq_true rfl) ?_
  refine z_iconst (v := 0) dX4_verdictsOf_2 rfl (by decide) ?_
  refine z_istore_n dX4_verdictsOf_3 rfl (Nat.le_of_ble_eq_true rfl) ?_
  refine z_lv [(2, .int (nI ((L.take 0).countP (isV v)))), (3, .int (nI 0)), (0, .ref p), (1, .int v)] ⟨rfl, rfl, rfl, rfl, trivial⟩ ?_
  exact m_verdictsOf_L g h p l r s cost n f L hk hf hL hLn hn v L.length 0 (by omega)

set_option maxHeartbeats 4000000 in
set_option maxRecDepth 100000 in
/-- X4_hasLeft -/
theorem m_hasLeft (g : zG) (h : zH) (p l r s : Nat) (cost : Int32) (n : Nat) (f : Nat → Nat → Int32) (L : List sStep) (hk : h.2 p = some (kOb l r s cost L.length)) (hf : csIs h s n f) (hL : ∀ k t, L[k]? = some t → stpIs f k t) (hLn : L.length ≤ n) (hn : n ≤ 40) (k : Nat) (t : sStep) (ht : L[k]? = some t) : zX g yX4_hasLeft cX4_hasLeft 2 (some .boolean) rmX4_hasLeft [.ref p, .int (nI k)] h (.int (if ¬ t.1 = 2 then 1 else 0)) h := by
  refine zM_of (by decide) (Nat.le_of_ble_eq_true rfl) ?_
  have hkl := (List.getElem?_eq_some_iff.mp ht).1
  first | refine z_aload_n dX4_hasLeft_0 rfl rfl ?_ | refine z_aload_nN dX4_hasLeft_0 rfl rfl ?_
  refine zg_X4_27 rfl dX4_hasLeft_1 rfl hk rfl ?_
  refine z_iload_n dX4_hasLeft_4 rfl rfl ?_
  refine z_iald dX4_hasLeft_5 rfl (hf 0 (by decide)) (vp_in_nI (by omega) (by omega)) ?_
  rw [nI_clamp (show k < 2 ^ 31 by omega), (hL k t ht).1]
  refine z_iconst (v := 2) dX4_hasLeft_6 rfl (by decide) ?_
  refine z_icmp_eq (tgt := 14) dX4_hasLeft_7 rfl (by decide) (fun c7 => ?_) (fun c7 => ?_)
  · skip
    refine z_iconst (v := 0) dX4_hasLeft_14 rfl (by decide) ?_
    exact z_zret dX4_hasLeft_15 rfl rfl rfl ⟨by grind, rfl⟩ (Nat.le_of_ble_eq_true rfl) (Nat.le_of_ble_eq_true rfl)
  · skip
    refine z_iconst (v := 1) dX4_hasLeft_10 rfl (by decide) ?_
    refine z_goto (tgt := 15) dX4_hasLeft_11 rfl (by decide) ?_
    exact z_zret dX4_hasLeft_15 rfl rfl rfl ⟨by grind, rfl⟩ (Nat.le_of_ble_eq_true rfl) (Nat.le_of_ble_eq_true rfl)

set_option maxHeartbeats 4000000 in
set_option maxRecDepth 100000 in
/-- X4_hasRight -/
theorem m_hasRight (g : zG) (h : zH) (p l r s : Nat) (cost : Int32) (n : Nat) (f : Nat → Nat → Int32) (L : List sStep) (hk : h.2 p = some (kOb l r s cost L.length)) (hf : csIs h s n f) (hL : ∀ k t, L[k]? = some t → stpIs f k t) (hLn : L.length ≤ n) (hn : n ≤ 40) (k : Nat) (t : sStep) (ht : L[k]? = some t) : zX g yX4_hasRight cX4_hasRight 2 (some .boolean) rmX4_hasRight [.ref p, .int (nI k)] h (.int (if ¬ t.1 = 1 then 1 else 0)) h := by
  refine zM_of (by decide) (Nat.le_of_ble_eq_true rfl) ?_
  have hkl := (List.getElem?_eq_some_iff.mp ht).1
  first | refine z_aload_n dX4_hasRight_0 rfl rfl ?_ | refine z_aload_nN dX4_hasRight_0 rfl rfl ?_
  refine zg_X4_27 rfl dX4_hasRight_1 rfl hk rfl ?_
  refine z_iload_n dX4_hasRight_4 rfl rfl ?_
  refine z_iald dX4_hasRight_5 rfl (hf 0 (by decide)) (vp_in_nI (by omega) (by omega)) ?_
  rw [nI_clamp (show k < 2 ^ 31 by omega), (hL k t ht).1]
  refine z_iconst (v := 1) dX4_hasRight_6 rfl (by decide) ?_
  refine z_icmp_eq (tgt := 14) dX4_hasRight_7 rfl (by decide) (fun c7 => ?_) (fun c7 => ?_)
  · skip
    refine z_iconst (v := 0) dX4_hasRight_14 rfl (by decide) ?_
    exact z_zret dX4_hasRight_15 rfl rfl rfl ⟨by grind, rfl⟩ (Nat.le_of_ble_eq_true rfl) (Nat.le_of_ble_eq_true rfl)
  · skip
    refine z_iconst (v := 1) dX4_hasRight_10 rfl (by decide) ?_
    refine z_goto (tgt := 15) dX4_hasRight_11 rfl (by decide) ?_
    exact z_zret dX4_hasRight_15 rfl rfl rfl ⟨by grind, rfl⟩ (Nat.le_of_ble_eq_true rfl) (Nat.le_of_ble_eq_true rfl)

set_option maxHeartbeats 4000000 in
set_option maxRecDepth 100000 in
/-- X4_mergedLength -/
theorem m_mergedLength (g : zG) (h : zH) (p l r s : Nat) (cost : Int32) (n : Nat) (f : Nat → Nat → Int32) (L : List sStep) (hk : h.2 p = some (kOb l r s cost L.length)) (hf : csIs h s n f) (hL : ∀ k t, L[k]? = some t → stpIs f k t) (hLn : L.length ≤ n) (hn : n ≤ 40) : zX g yX4_mergedLength cX4_mergedLength 1 (some .int) rmX4_mergedLength [.ref p] h (.int (nI L.length - nI (L.countP (isV 4)))) h := by
  refine zM_of (by decide) (Nat.le_of_ble_eq_true rfl) ?_
  first | refine z_aload_n dX4_mergedLength_0 rfl rfl ?_ | refine z_aload_nN dX4_mergedLength_0 rfl rfl ?_
  refine zg_X4_43 rfl dX4_mergedLength_1 rfl hk rfl ?_
  first | refine z_aload_n dX4_mergedLength_4 rfl rfl ?_ | refine z_aload_nN dX4_mergedLength_4 rfl rfl ?_
  refine z_iconst (v := 4) dX4_mergedLength_5 rfl (by decide) ?_
  refine zcx_X4_55 rfl dX4_mergedLength_6 rfl hk (m_verdictsOf g h p l r s cost n f L hk hf hL hLn hn 4) rfl rfl ⟨(Nat.le_of_ble_eq_true rfl), (Nat.le_of_ble_eq_true rfl)⟩ ⟨(Nat.le_of_ble_eq_true rfl), (Nat.le_of_ble_eq_true rfl)⟩ (Nat.le_of_ble_eq_true rfl) ?_
  refine z_isub dX4_mergedLength_9 rfl ?_
  exact z_iret dX4_mergedLength_10 rfl rfl ⟨rfl, rfl⟩ (Nat.le_of_ble_eq_true rfl) (Nat.le_of_ble_eq_true rfl)

theorem jk_o {a b : Int32} (h : 7 < a ∨ 7 < b) : sJoinK a b = if a = b then a else 9 := by
  unfold sJoinK
  rw [if_neg (by rintro ⟨x, y, -⟩; rcases h with h | h; exact absurd x.2 (by grind); exact absurd y.2 (by grind))]
  grind
theorem jk_n {a b : Int32} (ha : sNum a) (hb : sNum b) : sJoinK a b = if sJo a b = -1 then 9 else sJo a b := by
  by_cases h : sJoin a b = -4
  · rw [if_pos (sJo_m.mpr h)]
    unfold sJoinK
    rw [if_neg (fun z => z.2.2 h), if_neg (fun z => absurd ha.2 (by grind))]
  · rw [if_neg (fun z => h (sJo_m.mp z)), sJo_n h]
    unfold sJoinK
    rw [if_pos ⟨ha, hb, h⟩]

set_option maxHeartbeats 4000000 in
set_option maxRecDepth 100000 in
/-- X4_mergedKind -/
theorem m_mergedKind (g : zG) (h : zH) (p l r s : Nat) (cost : Int32) (cnt : Nat) (hk : h.2 p = some (kOb l r s cost cnt)) (ka kb : Int32) (na nb : Nat) (ca cb : Nat → sC) (hl : cAt h l ka na ca) (hr2 : cAt h r kb nb cb) (oa : 0 ≤ ka) (ob : 0 ≤ kb) : zX g yX4_mergedKind cX4_mergedKind 2 (some .int) rmX4_mergedKind [.ref p] h (.int (sJoinK ka kb)) h := by
  refine zM_of (by decide) (Nat.le_of_ble_eq_true rfl) ?_
  first | refine z_aload_n dX4_mergedKind_0 rfl rfl ?_ | refine z_aload_nN dX4_mergedKind_0 rfl rfl ?_
  refine zg_X4_9 rfl dX4_mergedKind_1 rfl hk rfl ?_
  refine zg_X4_46 rfl dX4_mergedKind_4 rfl hl.1 rfl ?_
  refine z_bipush (v := 7) dX4_mergedKind_7 rfl (by decide) ?_
  refine z_icmp_gt (tgt := 24) dX4_mergedKind_9 rfl (by decide) (fun c9 => ?_) (fun c9 => ?_)
  · skip
    first | refine z_aload_n dX4_mergedKind_24 rfl rfl ?_ | refine z_aload_nN dX4_mergedKind_24 rfl rfl ?_
    refine zg_X4_9 rfl dX4_mergedKind_25 rfl hk rfl ?_
    refine zg_X4_46 rfl dX4_mergedKind_28 rfl hl.1 rfl ?_
    first | refine z_aload_n dX4_mergedKind_31 rfl rfl ?_ | refine z_aload_nN dX4_mergedKind_31 rfl rfl ?_
    refine zg_X4_15 rfl dX4_mergedKind_32 rfl hk rfl ?_
    refine zg_X4_46 rfl dX4_mergedKind_35 rfl hr2.1 rfl ?_
    refine z_icmp_ne (tgt := 51) dX4_mergedKind_38 rfl (by decide) (fun c38 => ?_) (fun c38 => ?_)
    · skip
      refine z_bipush (v := 9) dX4_mergedKind_51 rfl (by decide) ?_
      exact z_iret dX4_mergedKind_53 rfl rfl ⟨by rw [jk_o (by grind)]; grind, rfl⟩ (Nat.le_of_ble_eq_true rfl) (Nat.le_of_ble_eq_true rfl)
    · skip
      first | refine z_aload_n dX4_mergedKind_41 rfl rfl ?_ | refine z_aload_nN dX4_mergedKind_41 rfl rfl ?_
      refine zg_X4_9 rfl dX4_mergedKind_42 rfl hk rfl ?_
      refine zg_X4_46 rfl dX4_mergedKind_45 rfl hl.1 rfl ?_
      refine z_goto (tgt := 53) dX4_mergedKind_48 rfl (by decide) ?_
      exact z_iret dX4_mergedKind_53 rfl rfl ⟨by rw [jk_o (by grind)]; grind, rfl⟩ (Nat.le_of_ble_eq_true rfl) (Nat.le_of_ble_eq_true rfl)
  · skip
    first | refine z_aload_n dX4_mergedKind_12 rfl rfl ?_ | refine z_aload_nN dX4_mergedKind_12 rfl rfl ?_
    refine zg_X4_15 rfl dX4_mergedKind_13 rfl hk rfl ?_
    refine zg_X4_46 rfl dX4_mergedKind_16 rfl hr2.1 rfl ?_
    refine z_bipush (v := 7) dX4_mergedKind_19 rfl (by decide) ?_
    refine z_icmp_le (tgt := 54) dX4_mergedKind_21 rfl (by decide) (fun c21 => ?_) (fun c21 => ?_)
    · skip
      first | refine z_aload_n dX4_mergedKind_54 rfl rfl ?_ | refine z_aload_nN dX4_mergedKind_54 rfl rfl ?_
      refine zg_X4_9 rfl dX4_mergedKind_55 rfl hk rfl ?_
      refine zg_X4_46 rfl dX4_mergedKind_58 rfl hl.1 rfl ?_
      first | refine z_aload_n dX4_mergedKind_61 rfl rfl ?_ | refine z_aload_nN dX4_mergedKind_61 rfl rfl ?_
      refine zg_X4_15 rfl dX4_mergedKind_62 rfl hk rfl ?_
      refine zg_X4_46 rfl dX4_mergedKind_65 rfl hr2.1 rfl ?_
      refine zcx_X4_49 rfl dX4_mergedKind_68 rfl (m_joined g h _ _ ⟨oa, by grind⟩ ⟨ob, by grind⟩) rfl rfl ⟨(Nat.le_of_ble_eq_true rfl), (Nat.le_of_ble_eq_true rfl)⟩ ⟨(Nat.le_of_ble_eq_true rfl), (Nat.le_of_ble_eq_true rfl)⟩ (Nat.le_of_ble_eq_true rfl) ?_
      refine z_istore_n dX4_mergedKind_71 rfl (Nat.le_of_ble_eq_true rfl) ?_
      refine z_iload_n dX4_mergedKind_72 rfl rfl ?_
      refine z_iconst (v := -1) dX4_mergedKind_73 rfl (by decide) ?_
      refine z_icmp_ne (tgt := 82) dX4_mergedKind_74 rfl (by decide) (fun c74 => ?_) (fun c74 => ?_)
      · skip
        refine z_iload_n dX4_mergedKind_82 rfl rfl ?_
        exact z_iret dX4_mergedKind_83 rfl rfl ⟨by rw [jk_n ⟨oa, by grind⟩ ⟨ob, by grind⟩]; grind, rfl⟩ (Nat.le_of_ble_eq_true rfl) (Nat.le_of_ble_eq_true rfl)
      · skip
        refine z_bipush (v := 9) dX4_mergedKind_77 rfl (by decide) ?_
        refine z_goto (tgt := 83) dX4_mergedKind_79 rfl (by decide) ?_
        exact z_iret dX4_mergedKind_83 rfl rfl ⟨by rw [jk_n ⟨oa, by grind⟩ ⟨ob, by grind⟩]; grind, rfl⟩ (Nat.le_of_ble_eq_true rfl) (Nat.le_of_ble_eq_true rfl)
    · skip
      first | refine z_aload_n dX4_mergedKind_24 rfl rfl ?_ | refine z_aload_nN dX4_mergedKind_24 rfl rfl ?_
      refine zg_X4_9 rfl dX4_mergedKind_25 rfl hk rfl ?_
      refine zg_X4_46 rfl dX4_mergedKind_28 rfl hl.1 rfl ?_
      first | refine z_aload_n dX4_mergedKind_31 rfl rfl ?_ | refine z_aload_nN dX4_mergedKind_31 rfl rfl ?_
      refine zg_X4_15 rfl dX4_mergedKind_32 rfl hk rfl ?_
      refine zg_X4_46 rfl dX4_mergedKind_35 rfl hr2.1 rfl ?_
      refine z_icmp_ne (tgt := 51) dX4_mergedKind_38 rfl (by decide) (fun c38 => ?_) (fun c38 => ?_)
      · skip
        refine z_bipush (v := 9) dX4_mergedKind_51 rfl (by decide) ?_
        exact z_iret dX4_mergedKind_53 rfl rfl ⟨by rw [jk_o (by grind)]; grind, rfl⟩ (Nat.le_of_ble_eq_true rfl) (Nat.le_of_ble_eq_true rfl)
      · skip
        first | refine z_aload_n dX4_mergedKind_41 rfl rfl ?_ | refine z_aload_nN dX4_mergedKind_41 rfl rfl ?_
        refine zg_X4_9 rfl dX4_mergedKind_42 rfl hk rfl ?_
        refine zg_X4_46 rfl dX4_mergedKind_45 rfl hl.1 rfl ?_
        refine z_goto (tgt := 53) dX4_mergedKind_48 rfl (by decide) ?_
        exact z_iret dX4_mergedKind_53 rfl rfl ⟨by rw [jk_o (by grind)]; grind, rfl⟩ (Nat.le_of_ble_eq_true rfl) (Nat.le_of_ble_eq_true rfl)

theorem cnt_VB {A B : sA} {x : Int32} (hx : x = 0 ∨ x = 1 ∨ x = 2) : ∀ {L : List sStep}, (∀ t, t ∈ L → stpOk A B t) → L.countP (isV x) = L.countP (isB x)
  | [], _ => rfl
  | t :: L, h => by
    rw [List.countP_cons, List.countP_cons, cnt_VB hx (fun u hu => h u (List.mem_cons_of_mem _ hu))]
    have e : isV x t = isB x t := by
      unfold isV isB
      apply decide_eq_decide.mpr
      constructor
      · intro z
        refine ⟨?_, z⟩
        rcases h t List.mem_cons_self with y | y | y
        · exact y.1
        · rcases y.2.2.2 with u | u <;> rw [u] at z <;> rcases hx with v | v | v <;> rw [v] at z <;> exact absurd z (by decide)
        · rcases y.2.2.2 with u | u <;> rw [u] at z <;> rcases hx with v | v | v <;> rw [v] at z <;> exact absurd z (by decide)
      · exact fun z => z.2
    rw [e]
theorem coC_n {h : zH} {col : Nat → Nat} {k : Option Nat} {C : Option sCo} (hC : coC h col k C) (e : C = none) : k = none := by
  rw [e] at hC; exact hC
theorem coC_s {h : zH} {col : Nat → Nat} {k : Option Nat} {C : Option sCo} {c : sCo} (hC : coC h col k C) (e : C = some c) : ∃ p, k = some p ∧ kIs h col p c := by
  rw [e] at hC; exact hC

set_option maxHeartbeats 800000 in
set_option maxRecDepth 100000 in
theorem C_result (g : zG) (h : zH) (x m : Nat) (w : sW) (hRC : RepC h x m w) (what : Int32) : zM g yX9_result cX9_result 2 (some .int) rmX9_result [.ref x, .int what] h (cPost x m h (pResult w what)) := by
  refine zM_of (by decide) (Nat.le_of_ble_eq_true rfl) ?_
  obtain ⟨col, p, F, Z, k, I, P, q, T, V, hR⟩ := id hRC
  obtain ⟨hw, hz, hS, hq, hr, hX⟩ := id hR
  obtain ⟨S0, S1, S2, S3, S4, S5⟩ := id hS
  obtain ⟨R0, R1, R2, R3⟩ := id hr
  refine z_iload_n dX9_result_0 rfl rfl ?_
  refine z_iconst (v := 0) dX9_result_1 rfl (by decide) ?_
  refine z_bipush (v := 9) dX9_result_2 rfl (by decide) ?_
  refine zcx_X9_50 rfl dX9_result_4 rfl (m_isWithin g h _ _ _) rfl rfl ⟨(Nat.le_of_ble_eq_true rfl), (Nat.le_of_ble_eq_true rfl)⟩ ⟨(Nat.le_of_ble_eq_true rfl), (Nat.le_of_ble_eq_true rfl)⟩ (Nat.le_of_ble_eq_true rfl) ?_
  refine z_bif_ne (tgt := 12) dX9_result_7 rfl (by decide) (fun c7 => ?_) (fun c7 => ?_)
  · skip
    rcases hC : w.2.2.2.2.2.1 with _ | C
    · obtain rfl := coC_n hX.2.1 hC
      first | refine z_aload_n dX9_result_12 rfl rfl ?_ | refine z_aload_nN dX9_result_12 rfl rfl ?_
      refine zg_X9_147 rfl dX9_result_13 rfl S0 rfl ?_
      refine z_ifnonnullN dX9_result_16 rfl ?_
      refine z_bipush (v := -2) dX9_result_19 rfl (by decide) ?_
      exact z_iret dX9_result_21 rfl rfl (cPost_same hRC (res_none hC c7)) (Nat.le_of_ble_eq_true rfl) (Nat.le_of_ble_eq_true rfl)
    · obtain ⟨kp, rfl, l, r, s, f, hk, hf, hcl, hcr, hLn, hLs, hco, hc1, hc2, hc3, hc4⟩ := coC_s hX.2.1 hC
      obtain ⟨oL, cl, hl, hll⟩ := id hcl
      obtain ⟨oR, cr, hr2, hlr⟩ := id hcr
      have hla : C.1.2.length ≤ 20 := oL.2.2.1
      have hlb : C.2.1.2.length ≤ 20 := oR.2.2.1
      have hL : ∀ k t, C.2.2.2[k]? = some t → stpIs f k t := fun k t ht => (hLs k t ht).1
      have hOk : ∀ t, t ∈ C.2.2.2 → stpOk C.1 C.2.1 t := fun t ht => by
        obtain ⟨k, hk2⟩ := List.getElem?_of_mem ht
        exact (hLs k t hk2).2
      first | refine z_aload_n dX9_result_12 rfl rfl ?_ | refine z_aload_nN dX9_result_12 rfl rfl ?_
      refine zg_X9_147 rfl dX9_result_13 rfl S0 rfl ?_
      refine z_ifnonnull (tgt := 22) dX9_result_16 rfl (by decide) ?_
      refine z_iload_n dX9_result_22 rfl rfl ?_
      refine z_sw8 (fun s23 => ?_) (fun s23 => ?_) (fun s23 => ?_) (fun s23 => ?_) (fun s23 => ?_) (fun s23 => ?_) (fun s23 => ?_) (fun s23 => ?_) (fun s23 => ?_) (fun s23 => ?_)
      · skip
        refine z_tableOut (tgt := 150) dX9_result_23 rfl (sw_out s23) (by decide) ?_
        first | refine z_aload_n dX9_result_150 rfl rfl ?_ | refine z_aload_nN dX9_result_150 rfl rfl ?_
        refine zg_X9_147 rfl dX9_result_151 rfl S0 rfl ?_
        refine zcx_X9_171 rfl dX9_result_154 rfl hk (m_mergedLength g h kp l r s C.2.2.1 (C.1.2.length + C.2.1.2.length) f C.2.2.2 hk hf hL hLn (by omega)) rfl rfl ⟨(Nat.le_of_ble_eq_true rfl), (Nat.le_of_ble_eq_true rfl)⟩ ⟨(Nat.le_of_ble_eq_true rfl), (Nat.le_of_ble_eq_true rfl)⟩ (Nat.le_of_ble_eq_true rfl) ?_
        exact z_iret dX9_result_157 rfl rfl (cPost_same hRC (res_some hC c7 (by have e : what = 9 := (by grind); subst e; rfl))) (Nat.le_of_ble_eq_true rfl) (Nat.le_of_ble_eq_true rfl)
      · skip
        refine z_tableIn (off := 49) (tgt := 72) dX9_result_23 rfl (by decide) (by decide) (by decide) (by decide) ?_
        first | refine z_aload_n dX9_result_72 rfl rfl ?_ | refine z_aload_nN dX9_result_72 rfl rfl ?_
        refine zg_X9_147 rfl dX9_result_73 rfl S0 rfl ?_
        refine zg_X9_155 rfl dX9_result_76 rfl hk rfl ?_
        exact z_iret dX9_result_79 rfl rfl (cPost_same hRC (res_some hC c7 (by subst s23; rfl))) (Nat.le_of_ble_eq_true rfl) (Nat.le_of_ble_eq_true rfl)
      · skip
        refine z_tableIn (off := 57) (tgt := 80) dX9_result_23 rfl (by decide) (by decide) (by decide) (by decide) ?_
        first | refine z_aload_n dX9_result_80 rfl rfl ?_ | refine z_aload_nN dX9_result_80 rfl rfl ?_
        refine zg_X9_147 rfl dX9_result_81 rfl S0 rfl ?_
        refine zg_X9_158 rfl dX9_result_84 rfl hk rfl ?_
        exact z_iret dX9_result_87 rfl rfl (cPost_same hRC (res_some hC c7 (by subst s23; rfl))) (Nat.le_of_ble_eq_true rfl) (Nat.le_of_ble_eq_true rfl)
      · skip
        refine z_tableIn (off := 65) (tgt := 88) dX9_result_23 rfl (by decide) (by decide) (by decide) (by decide) ?_
        first | refine z_aload_n dX9_result_88 rfl rfl ?_ | refine z_aload_nN dX9_result_88 rfl rfl ?_
        refine zg_X9_147 rfl dX9_result_89 rfl S0 rfl ?_
        refine z_iconst (v := 0) dX9_result_92 rfl (by decide) ?_
        refine zcx_X9_161 rfl dX9_result_93 rfl hk (m_verdictsOf g h kp l r s C.2.2.1 (C.1.2.length + C.2.1.2.length) f C.2.2.2 hk hf hL hLn (by omega) 0) rfl rfl ⟨(Nat.le_of_ble_eq_true rfl), (Nat.le_of_ble_eq_true rfl)⟩ ⟨(Nat.le_of_ble_eq_true rfl), (Nat.le_of_ble_eq_true rfl)⟩ (Nat.le_of_ble_eq_true rfl) ?_
        exact z_iret dX9_result_96 rfl rfl (cPost_same hRC (res_some hC c7 (by subst s23; rw [cnt_VB (by decide) hOk]; rfl))) (Nat.le_of_ble_eq_true rfl) (Nat.le_of_ble_eq_true rfl)
      · skip
        refine z_tableIn (off := 74) (tgt := 97) dX9_result_23 rfl (by decide) (by decide) (by decide) (by decide) ?_
        first | refine z_aload_n dX9_result_97 rfl rfl ?_ | refine z_aload_nN dX9_result_97 rfl rfl ?_
        refine zg_X9_147 rfl dX9_result_98 rfl S0 rfl ?_
        refine z_iconst (v := 1) dX9_result_101 rfl (by decide) ?_
        refine zcx_X9_161 rfl dX9_result_102 rfl hk (m_verdictsOf g h kp l r s C.2.2.1 (C.1.2.length + C.2.1.2.length) f C.2.2.2 hk hf hL hLn (by omega) 1) rfl rfl ⟨(Nat.le_of_ble_eq_true rfl), (Nat.le_of_ble_eq_true rfl)⟩ ⟨(Nat.le_of_ble_eq_true rfl), (Nat.le_of_ble_eq_true rfl)⟩ (Nat.le_of_ble_eq_true rfl) ?_
        exact z_iret dX9_result_105 rfl rfl (cPost_same hRC (res_some hC c7 (by subst s23; rw [cnt_VB (by decide) hOk]; rfl))) (Nat.le_of_ble_eq_true rfl) (Nat.le_of_ble_eq_true rfl)
      · skip
        refine z_tableIn (off := 83) (tgt := 106) dX9_result_23 rfl (by decide) (by decide) (by decide) (by decide) ?_
        first | refine z_aload_n dX9_result_106 rfl rfl ?_ | refine z_aload_nN dX9_result_106 rfl rfl ?_
        refine zg_X9_147 rfl dX9_result_107 rfl S0 rfl ?_
        refine z_iconst (v := 2) dX9_result_110 rfl (by decide) ?_
        refine zcx_X9_161 rfl dX9_result_111 rfl hk (m_verdictsOf g h kp l r s C.2.2.1 (C.1.2.length + C.2.1.2.length) f C.2.2.2 hk hf hL hLn (by omega) 2) rfl rfl ⟨(Nat.le_of_ble_eq_true rfl), (Nat.le_of_ble_eq_true rfl)⟩ ⟨(Nat.le_of_ble_eq_true rfl), (Nat.le_of_ble_eq_true rfl)⟩ (Nat.le_of_ble_eq_true rfl) ?_
        exact z_iret dX9_result_114 rfl rfl (cPost_same hRC (res_some hC c7 (by subst s23; rw [cnt_VB (by decide) hOk]; rfl))) (Nat.le_of_ble_eq_true rfl) (Nat.le_of_ble_eq_true rfl)
      · skip
        refine z_tableIn (off := 92) (tgt := 115) dX9_result_23 rfl (by decide) (by decide) (by decide) (by decide) ?_
        first | refine z_aload_n dX9_result_115 rfl rfl ?_ | refine z_aload_nN dX9_result_115 rfl rfl ?_
        refine zg_X9_147 rfl dX9_result_116 rfl S0 rfl ?_
        refine z_iconst (v := 1) dX9_result_119 rfl (by decide) ?_
        refine zcx_X9_164 rfl dX9_result_120 rfl hk (m_stepsOf g h kp l r s C.2.2.1 (C.1.2.length + C.2.1.2.length) f C.2.2.2 hk hf hL hLn (by omega) 1) rfl rfl ⟨(Nat.le_of_ble_eq_true rfl), (Nat.le_of_ble_eq_true rfl)⟩ ⟨(Nat.le_of_ble_eq_true rfl), (Nat.le_of_ble_eq_true rfl)⟩ (Nat.le_of_ble_eq_true rfl) ?_
        exact z_iret dX9_result_123 rfl rfl (cPost_same hRC (res_some hC c7 (by subst s23; rfl))) (Nat.le_of_ble_eq_true rfl) (Nat.le_of_ble_eq_true rfl)
      · skip
        refine z_tableIn (off := 101) (tgt := 124) dX9_result_23 rfl (by decide) (by decide) (by decide) (by decide) ?_
        first | refine z_aload_n dX9_result_124 rfl rfl ?_ | refine z_aload_nN dX9_result_124 rfl rfl ?_
        refine zg_X9_147 rfl dX9_result_125 rfl S0 rfl ?_
        refine z_iconst (v := 2) dX9_result_128 rfl (by decide) ?_
        refine zcx_X9_164 rfl dX9_result_129 rfl hk (m_stepsOf g h kp l r s C.2.2.1 (C.1.2.length + C.2.1.2.length) f C.2.2.2 hk hf hL hLn (by omega) 2) rfl rfl ⟨(Nat.le_of_ble_eq_true rfl), (Nat.le_of_ble_eq_true rfl)⟩ ⟨(Nat.le_of_ble_eq_true rfl), (Nat.le_of_ble_eq_true rfl)⟩ (Nat.le_of_ble_eq_true rfl) ?_
        exact z_iret dX9_result_132 rfl rfl (cPost_same hRC (res_some hC c7 (by subst s23; rfl))) (Nat.le_of_ble_eq_true rfl) (Nat.le_of_ble_eq_true rfl)
      · skip
        refine z_tableIn (off := 110) (tgt := 133) dX9_result_23 rfl (by decide) (by decide) (by decide) (by decide) ?_
        first | refine z_aload_n dX9_result_133 rfl rfl ?_ | refine z_aload_nN dX9_result_133 rfl rfl ?_
        refine zg_X9_147 rfl dX9_result_134 rfl S0 rfl ?_
        refine z_iconst (v := 4) dX9_result_137 rfl (by decide) ?_
        refine zcx_X9_161 rfl dX9_result_138 rfl hk (m_verdictsOf g h kp l r s C.2.2.1 (C.1.2.length + C.2.1.2.length) f C.2.2.2 hk hf hL hLn (by omega) 4) rfl rfl ⟨(Nat.le_of_ble_eq_true rfl), (Nat.le_of_ble_eq_true rfl)⟩ ⟨(Nat.le_of_ble_eq_true rfl), (Nat.le_of_ble_eq_true rfl)⟩ (Nat.le_of_ble_eq_true rfl) ?_
        exact z_iret dX9_result_141 rfl rfl (cPost_same hRC (res_some hC c7 (by subst s23; rfl))) (Nat.le_of_ble_eq_true rfl) (Nat.le_of_ble_eq_true rfl)
      · skip
        refine z_tableIn (off := 119) (tgt := 142) dX9_result_23 rfl (by decide) (by decide) (by decide) (by decide) ?_
        first | refine z_aload_n dX9_result_142 rfl rfl ?_ | refine z_aload_nN dX9_result_142 rfl rfl ?_
        refine zg_X9_147 rfl dX9_result_143 rfl S0 rfl ?_
        refine zcx_X9_167 rfl dX9_result_146 rfl hk (m_mergedKind g h kp l r s _ _ hk _ _ _ _ _ _ hl hr2 oL.1 oR.1) rfl rfl ⟨(Nat.le_of_ble_eq_true rfl), (Nat.le_of_ble_eq_true rfl)⟩ ⟨(Nat.le_of_ble_eq_true rfl), (Nat.le_of_ble_eq_true rfl)⟩ (Nat.le_of_ble_eq_true rfl) ?_
        exact z_iret dX9_result_149 rfl rfl (cPost_same hRC (res_some hC c7 (by subst s23; rfl))) (Nat.le_of_ble_eq_true rfl) (Nat.le_of_ble_eq_true rfl)
  · skip
    refine z_iconst (v := -1) dX9_result_10 rfl (by decide) ?_
    exact z_iret dX9_result_11 rfl rfl (cPost_same hRC (by grind [pResult])) (Nat.le_of_ble_eq_true rfl) (Nat.le_of_ble_eq_true rfl)

theorem stp_l {A B : sA} {t : sStep} (h : stpOk A B t) (e : t.1 = 2) : stepOf t 1 = -4 := by
  show t.2.1 = -4
  rcases h with y | y | y
  · rw [y.1] at e; exact absurd e (by decide)
  · rw [y.1] at e; exact absurd e (by decide)
  · exact y.2.1
theorem stp_r {A B : sA} {t : sStep} (h : stpOk A B t) (e : t.1 = 1) : stepOf t 2 = -4 := by
  show t.2.2.1 = -4
  rcases h with y | y | y
  · rw [y.1] at e; exact absurd e (by decide)
  · exact y.2.1
  · rw [y.1] at e; exact absurd e (by decide)

set_option maxHeartbeats 800000 in
set_option maxRecDepth 100000 in
theorem C_step (g : zG) (h : zH) (x m : Nat) (w : sW) (hRC : RepC h x m w) (kk what : Int32) : zM g yX9_step cX9_step 3 (some .int) rmX9_step [.ref x, .int kk, .int what] h (cPost x m h (pStep w kk what)) := by
  refine zM_of (by decide) (Nat.le_of_ble_eq_true rfl) ?_
  obtain ⟨col, p, F, Z, k, I, P, q, T, V, hR⟩ := id hRC
  obtain ⟨hw, hz, hS, hq, hr, hX⟩ := id hR
  obtain ⟨S0, S1, S2, S3, S4, S5⟩ := id hS
  obtain ⟨R0, R1, R2, R3⟩ := id hr
  refine z_iload_n dX9_step_0 rfl rfl ?_
  refine z_if_lt (tgt := 13) dX9_step_1 rfl (by decide) (fun c1 => ?_) (fun c1 => ?_)
  · skip
    refine z_iconst (v := -1) dX9_step_13 rfl (by decide) ?_
    exact z_iret dX9_step_14 rfl rfl (cPost_same hRC (by grind [pStep])) (Nat.le_of_ble_eq_true rfl) (Nat.le_of_ble_eq_true rfl)
  · skip
    refine z_iload_n dX9_step_4 rfl rfl ?_
    refine z_iconst (v := 0) dX9_step_5 rfl (by decide) ?_
    refine z_iconst (v := 3) dX9_step_6 rfl (by decide) ?_
    refine zcx_X9_50 rfl dX9_step_7 rfl (m_isWithin g h _ _ _) rfl rfl ⟨(Nat.le_of_ble_eq_true rfl), (Nat.le_of_ble_eq_true rfl)⟩ ⟨(Nat.le_of_ble_eq_true rfl), (Nat.le_of_ble_eq_true rfl)⟩ (Nat.le_of_ble_eq_true rfl) ?_
    refine z_bif_ne (tgt := 15) dX9_step_10 rfl (by decide) (fun c10 => ?_) (fun c10 => ?_)
    · skip
      rcases hC : w.2.2.2.2.2.1 with _ | C
      · obtain rfl := coC_n hX.2.1 hC
        first | refine z_aload_n dX9_step_15 rfl rfl ?_ | refine z_aload_nN dX9_step_15 rfl rfl ?_
        refine zg_X9_147 rfl dX9_step_16 rfl S0 rfl ?_
        refine z_ifnonnullN dX9_step_19 rfl ?_
        refine z_bipush (v := -2) dX9_step_22 rfl (by decide) ?_
        exact z_iret dX9_step_24 rfl rfl (cPost_same hRC (stp_none hC c1 c10)) (Nat.le_of_ble_eq_true rfl) (Nat.le_of_ble_eq_true rfl)
      · obtain ⟨kp, rfl, l, r, s, f, hk, hf, hcl, hcr, hLn, hLs, hco, hc1, hc2, hc3, hc4⟩ := coC_s hX.2.1 hC
        obtain ⟨oL, cl, hl, hll⟩ := id hcl
        obtain ⟨oR, cr, hr2, hlr⟩ := id hcr
        have hla : C.1.2.length ≤ 20 := oL.2.2.1
        have hlb : C.2.1.2.length ≤ 20 := oR.2.2.1
        have hL : ∀ k t, C.2.2.2[k]? = some t → stpIs f k t := fun k t ht => (hLs k t ht).1
        have hOk : ∀ t, t ∈ C.2.2.2 → stpOk C.1 C.2.1 t := fun t ht => by
          obtain ⟨k, hk2⟩ := List.getElem?_of_mem ht
          exact (hLs k t hk2).2
        obtain ⟨kn, hkn, rfl⟩ := nI_of0 c1
        have hkx : ix (nI kn) = kn := nI_clamp (by omega)
        first | refine z_aload_n dX9_step_15 rfl rfl ?_ | refine z_aload_nN dX9_step_15 rfl rfl ?_
        refine zg_X9_147 rfl dX9_step_16 rfl S0 rfl ?_
        refine z_ifnonnull (tgt := 25) dX9_step_19 rfl (by decide) ?_
        refine z_iload_n dX9_step_25 rfl rfl ?_
        first | refine z_aload_n dX9_step_26 rfl rfl ?_ | refine z_aload_nN dX9_step_26 rfl rfl ?_
        refine zg_X9_147 rfl dX9_step_27 rfl S0 rfl ?_
        refine zg_X9_158 rfl dX9_step_30 rfl hk rfl ?_
        refine z_icmp_lt (tgt := 39) dX9_step_33 rfl (by decide) (fun c33 => ?_) (fun c33 => ?_)
        · skip
          have hkl : kn < C.2.2.2.length := Nat.lt_of_not_le (fun z => absurd c33 (nI_nlt z (by omega)))
          obtain ⟨t, ht⟩ : ∃ t, C.2.2.2[kn]? = some t := ⟨_, List.getElem?_eq_getElem hkl⟩
          refine z_iload_n dX9_step_39 rfl rfl ?_
          refine z_sw2 (fun s40 => ?_) (fun s40 => ?_) (fun s40 => ?_) (fun s40 => ?_)
          · skip
            refine z_tableOut (tgt := 130) dX9_step_40 rfl (sw_out s40) (by decide) ?_
            first | refine z_aload_n dX9_step_130 rfl rfl ?_ | refine z_aload_nN dX9_step_130 rfl rfl ?_
            refine zg_X9_147 rfl dX9_step_131 rfl S0 rfl ?_
            refine zg_X9_189 rfl dX9_step_134 rfl hk rfl ?_
            refine z_iload_n dX9_step_137 rfl rfl ?_
            refine z_iald dX9_step_138 rfl (hf 4 (by decide)) (vp_in_nI (by omega) (by omega)) ?_
            rw [nI_clamp (show kn < 2 ^ 31 by omega), (hL kn t ht).2.2.2.2]
            exact z_iret dX9_step_139 rfl rfl (cPost_same hRC (stp_some hC c1 c10 (by rw [hkx]; exact ht) (by rw [stepOf, if_neg (by grind), if_neg (by grind), if_neg (by grind)]))) (Nat.le_of_ble_eq_true rfl) (Nat.le_of_ble_eq_true rfl)
          · skip
            refine z_tableIn (off := 28) (tgt := 68) dX9_step_40 rfl (by decide) (by decide) (by decide) (by decide) ?_
            first | refine z_aload_n dX9_step_68 rfl rfl ?_ | refine z_aload_nN dX9_step_68 rfl rfl ?_
            refine zg_X9_147 rfl dX9_step_69 rfl S0 rfl ?_
            refine zg_X9_174 rfl dX9_step_72 rfl hk rfl ?_
            refine z_iload_n dX9_step_75 rfl rfl ?_
            refine z_iald dX9_step_76 rfl (hf 0 (by decide)) (vp_in_nI (by omega) (by omega)) ?_
            rw [nI_clamp (show kn < 2 ^ 31 by omega), (hL kn t ht).1]
            exact z_iret dX9_step_77 rfl rfl (cPost_same hRC (stp_some hC c1 c10 (by rw [hkx]; exact ht) (by subst s40; rfl))) (Nat.le_of_ble_eq_true rfl) (Nat.le_of_ble_eq_true rfl)
          · skip
            refine z_tableIn (off := 38) (tgt := 78) dX9_step_40 rfl (by decide) (by decide) (by decide) (by decide) ?_
            first | refine z_aload_n dX9_step_78 rfl rfl ?_ | refine z_aload_nN dX9_step_78 rfl rfl ?_
            refine zg_X9_147 rfl dX9_step_79 rfl S0 rfl ?_
            refine z_iload_n dX9_step_82 rfl rfl ?_
            refine zcx_X9_177 rfl dX9_step_83 rfl hk (m_hasLeft g h kp l r s C.2.2.1 (C.1.2.length + C.2.1.2.length) f C.2.2.2 hk hf hL hLn (by omega) kn t ht) rfl rfl ⟨(Nat.le_of_ble_eq_true rfl), (Nat.le_of_ble_eq_true rfl)⟩ ⟨(Nat.le_of_ble_eq_true rfl), (Nat.le_of_ble_eq_true rfl)⟩ (Nat.le_of_ble_eq_true rfl) ?_
            refine z_bif_eq (tgt := 101) dX9_step_86 rfl (by decide) (fun c86 => ?_) (fun c86 => ?_)
            · skip
              refine z_bipush (v := -4) dX9_step_101 rfl (by decide) ?_
              exact z_iret dX9_step_103 rfl rfl (cPost_same hRC (stp_some hC c1 c10 (by rw [hkx]; exact ht) (by subst s40; first | rfl | exact (stp_l (hOk t (List.mem_of_getElem? ht)) (Classical.not_not.mp c86)).symm))) (Nat.le_of_ble_eq_true rfl) (Nat.le_of_ble_eq_true rfl)
            · skip
              first | refine z_aload_n dX9_step_89 rfl rfl ?_ | refine z_aload_nN dX9_step_89 rfl rfl ?_
              refine zg_X9_147 rfl dX9_step_90 rfl S0 rfl ?_
              refine zg_X9_180 rfl dX9_step_93 rfl hk rfl ?_
              refine z_iload_n dX9_step_96 rfl rfl ?_
              refine z_iald dX9_step_97 rfl (hf 1 (by decide)) (vp_in_nI (by omega) (by omega)) ?_
              rw [nI_clamp (show kn < 2 ^ 31 by omega), (hL kn t ht).2.1 c86]
              refine z_goto (tgt := 103) dX9_step_98 rfl (by decide) ?_
              exact z_iret dX9_step_103 rfl rfl (cPost_same hRC (stp_some hC c1 c10 (by rw [hkx]; exact ht) (by subst s40; first | rfl | exact (stp_l (hOk t (List.mem_of_getElem? ht)) (Classical.not_not.mp c86)).symm))) (Nat.le_of_ble_eq_true rfl) (Nat.le_of_ble_eq_true rfl)
          · skip
            refine z_tableIn (off := 64) (tgt := 104) dX9_step_40 rfl (by decide) (by decide) (by decide) (by decide) ?_
            first | refine z_aload_n dX9_step_104 rfl rfl ?_ | refine z_aload_nN dX9_step_104 rfl rfl ?_
            refine zg_X9_147 rfl dX9_step_105 rfl S0 rfl ?_
            refine z_iload_n dX9_step_108 rfl rfl ?_
            refine zcx_X9_183 rfl dX9_step_109 rfl hk (m_hasRight g h kp l r s C.2.2.1 (C.1.2.length + C.2.1.2.length) f C.2.2.2 hk hf hL hLn (by omega) kn t ht) rfl rfl ⟨(Nat.le_of_ble_eq_true rfl), (Nat.le_of_ble_eq_true rfl)⟩ ⟨(Nat.le_of_ble_eq_true rfl), (Nat.le_of_ble_eq_true rfl)⟩ (Nat.le_of_ble_eq_true rfl) ?_
            refine z_bif_eq (tgt := 127) dX9_step_112 rfl (by decide) (fun c112 => ?_) (fun c112 => ?_)
            · skip
              refine z_bipush (v := -4) dX9_step_127 rfl (by decide) ?_
              exact z_iret dX9_step_129 rfl rfl (cPost_same hRC (stp_some hC c1 c10 (by rw [hkx]; exact ht) (by subst s40; first | rfl | exact (stp_r (hOk t (List.mem_of_getElem? ht)) (Classical.not_not.mp c112)).symm))) (Nat.le_of_ble_eq_true rfl) (Nat.le_of_ble_eq_true rfl)
            · skip
              first | refine z_aload_n dX9_step_115 rfl rfl ?_ | refine z_aload_nN dX9_step_115 rfl rfl ?_
              refine zg_X9_147 rfl dX9_step_116 rfl S0 rfl ?_
              refine zg_X9_186 rfl dX9_step_119 rfl hk rfl ?_
              refine z_iload_n dX9_step_122 rfl rfl ?_
              refine z_iald dX9_step_123 rfl (hf 2 (by decide)) (vp_in_nI (by omega) (by omega)) ?_
              rw [nI_clamp (show kn < 2 ^ 31 by omega), (hL kn t ht).2.2.1 c112]
              refine z_goto (tgt := 129) dX9_step_124 rfl (by decide) ?_
              exact z_iret dX9_step_129 rfl rfl (cPost_same hRC (stp_some hC c1 c10 (by rw [hkx]; exact ht) (by subst s40; first | rfl | exact (stp_r (hOk t (List.mem_of_getElem? ht)) (Classical.not_not.mp c112)).symm))) (Nat.le_of_ble_eq_true rfl) (Nat.le_of_ble_eq_true rfl)
        · skip
          refine z_bipush (v := -4) dX9_step_36 rfl (by decide) ?_
          exact z_iret dX9_step_38 rfl rfl (cPost_same hRC (stp_no hC c1 c10 (by rw [hkx]; exact List.getElem?_eq_none (Nat.le_of_not_lt (fun z => c33 (nI_lt z (by omega))))))) (Nat.le_of_ble_eq_true rfl) (Nat.le_of_ble_eq_true rfl)
    · skip
      refine z_iconst (v := -1) dX9_step_13 rfl (by decide) ?_
      exact z_iret dX9_step_14 rfl rfl (cPost_same hRC (by grind [pStep])) (Nat.le_of_ble_eq_true rfl) (Nat.le_of_ble_eq_true rfl)

