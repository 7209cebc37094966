set_option maxHeartbeats 4000000 in
set_option maxRecDepth 100000 in
/-- X10_in -/
theorem r_in (g : zG) (h : zH) (v lo hi : Int64) : zX g yX10_in cX10_in 6 (some .boolean) rmX10_in [.long v, .long lo, .long hi] h (.int (if lo ≤ v ∧ v ≤ hi then 1 else 0)) h := by
  refine zM_of (by decide) (Nat.le_of_ble_eq_true rfl) ?_
  refine z_lload_n dX10_in_0 rfl rfl ?_
  refine z_lload_n dX10_in_1 rfl rfl ?_
  refine z_lc_lt (tgt := 17) dX10_in_2 rfl dX10_in_3 (by decide) (fun c2 => ?_) (fun c2 => ?_)
  · skip
    refine z_iconst (v := 0) dX10_in_17 rfl (by decide) ?_
    exact z_zret dX10_in_18 rfl rfl rfl ⟨by grind, rfl⟩ (Nat.le_of_ble_eq_true rfl) (Nat.le_of_ble_eq_true rfl)
  · skip
    refine z_lload_n dX10_in_6 rfl rfl ?_
    refine z_lload dX10_in_7 rfl rfl ?_
    refine z_lc_gt (tgt := 17) dX10_in_9 rfl dX10_in_10 (by decide) (fun c9 => ?_) (fun c9 => ?_)
    · skip
      refine z_iconst (v := 0) dX10_in_17 rfl (by decide) ?_
      exact z_zret dX10_in_18 rfl rfl rfl ⟨by grind, rfl⟩ (Nat.le_of_ble_eq_true rfl) (Nat.le_of_ble_eq_true rfl)
    · skip
      refine z_iconst (v := 1) dX10_in_13 rfl (by decide) ?_
      refine z_goto (tgt := 18) dX10_in_14 rfl (by decide) ?_
      exact z_zret dX10_in_18 rfl rfl rfl ⟨by grind, rfl⟩ (Nat.le_of_ble_eq_true rfl) (Nat.le_of_ble_eq_true rfl)

theorem i64_le (a b : Int32) : a.toInt64 ≤ b.toInt64 ↔ a ≤ b := by
  rw [Int64.le_iff_toInt_le, Int32.le_iff_toInt_le, Int32.toInt_toInt64, Int32.toInt_toInt64]
theorem i64_in (s a b : Int32) {x y : Int64} (ha : a.toInt64 = x) (hb : b.toInt64 = y) : (if x ≤ s.toInt64 ∧ s.toInt64 ≤ y then (1 : Int32) else 0) = if a ≤ s ∧ s ≤ b then 1 else 0 := by
  subst ha; subst hb; simp only [i64_le]
theorem i64_i {s a b : Int32} {x y : Int64} (ha : a.toInt64 = x) (hb : b.toInt64 = y) : Value.int (if x ≤ s.toInt64 ∧ s.toInt64 ≤ y then (1 : Int32) else 0) = .int (if a ≤ s ∧ s ≤ b then 1 else 0) := by rw [i64_in s a b ha hb]

set_option maxHeartbeats 4000000 in
set_option maxRecDepth 100000 in
/-- X10_flag -/
theorem r_flag (g : zG) (h : zH) (P : Prop) [Decidable P] : zX g yX10_flag cX10_flag 1 (some .int) rmX10_flag [.int (if P then 1 else 0)] h (.int (if P then 1 else 0)) h := by
  refine zM_of (by decide) (Nat.le_of_ble_eq_true rfl) ?_
  refine z_iload_n dX10_flag_0 rfl rfl ?_
  refine z_bif_eq (tgt := 8) dX10_flag_1 rfl (by decide) (fun c1 => ?_) (fun c1 => ?_)
  · refine z_iconst (v := 0) dX10_flag_8 rfl (by decide) ?_
    exact z_iret dX10_flag_9 rfl rfl ⟨by simp [c1], rfl⟩ (Nat.le_of_ble_eq_true rfl) (Nat.le_of_ble_eq_true rfl)
  · refine z_iconst (v := 1) dX10_flag_4 rfl (by decide) ?_
    refine z_goto (tgt := 9) dX10_flag_5 rfl (by decide) ?_
    exact z_iret dX10_flag_9 rfl rfl ⟨by simp [c1], rfl⟩ (Nat.le_of_ble_eq_true rfl) (Nat.le_of_ble_eq_true rfl)

set_option maxHeartbeats 4000000 in
set_option maxRecDepth 100000 in
/-- X10_isNumber -/
theorem r_isNumber (g : zG) (h : zH) (s : Int32) : zX g yX10_isNumber cX10_isNumber 1 (some .boolean) rmX10_isNumber [.int s] h (.int (if 0 ≤ s ∧ s ≤ 7 then 1 else 0)) h := by
  refine zM_of (by decide) (Nat.le_of_ble_eq_true rfl) ?_
  refine z_iload_n dX10_isNumber_0 rfl rfl ?_
  refine z_i2l dX10_isNumber_1 rfl ?_
  refine z_lconst (v := 0) dX10_isNumber_2 rfl (by decide) ?_
  refine zk_X10_70 rfl dX10_isNumber_3 rfl ?_
  refine zcx_X10_72 rfl dX10_isNumber_6 rfl (r_in g h _ _ _) rfl rfl ⟨(Nat.le_of_ble_eq_true rfl), (Nat.le_of_ble_eq_true rfl)⟩ ⟨(Nat.le_of_ble_eq_true rfl), (Nat.le_of_ble_eq_true rfl)⟩ (Nat.le_of_ble_eq_true rfl) ?_
  exact z_zret dX10_isNumber_9 rfl rfl (z_nb _) ⟨congrArg some (i64_i rfl rfl), rfl⟩ (Nat.le_of_ble_eq_true rfl) (Nat.le_of_ble_eq_true rfl)

set_option maxHeartbeats 4000000 in
set_option maxRecDepth 100000 in
/-- X10_isRecord -/
theorem r_isRecord (g : zG) (h : zH) (s : Int32) : zX g yX10_isRecord cX10_isRecord 1 (some .boolean) rmX10_isRecord [.int s] h (.int (if 0 ≤ s ∧ s ≤ 7 then 1 else 0)) h := by
  refine zM_of (by decide) (Nat.le_of_ble_eq_true rfl) ?_
  refine z_iload_n dX10_isRecord_0 rfl rfl ?_
  refine z_i2l dX10_isRecord_1 rfl ?_
  refine z_lconst (v := 0) dX10_isRecord_2 rfl (by decide) ?_
  refine zk_X10_70 rfl dX10_isRecord_3 rfl ?_
  refine zcx_X10_72 rfl dX10_isRecord_6 rfl (r_in g h _ _ _) rfl rfl ⟨(Nat.le_of_ble_eq_true rfl), (Nat.le_of_ble_eq_true rfl)⟩ ⟨(Nat.le_of_ble_eq_true rfl), (Nat.le_of_ble_eq_true rfl)⟩ (Nat.le_of_ble_eq_true rfl) ?_
  exact z_zret dX10_isRecord_9 rfl rfl (z_nb _) ⟨congrArg some (i64_i rfl rfl), rfl⟩ (Nat.le_of_ble_eq_true rfl) (Nat.le_of_ble_eq_true rfl)

set_option maxHeartbeats 4000000 in
set_option maxRecDepth 100000 in
/-- X10_isKind -/
theorem r_isKind (g : zG) (h : zH) (s : Int32) : zX g yX10_isKind cX10_isKind 1 (some .boolean) rmX10_isKind [.int s] h (.int (if 0 ≤ s ∧ s ≤ 7 then 1 else 0)) h := by
  refine zM_of (by decide) (Nat.le_of_ble_eq_true rfl) ?_
  refine z_iload_n dX10_isKind_0 rfl rfl ?_
  refine z_i2l dX10_isKind_1 rfl ?_
  refine z_lconst (v := 0) dX10_isKind_2 rfl (by decide) ?_
  refine zk_X10_70 rfl dX10_isKind_3 rfl ?_
  refine zcx_X10_72 rfl dX10_isKind_6 rfl (r_in g h _ _ _) rfl rfl ⟨(Nat.le_of_ble_eq_true rfl), (Nat.le_of_ble_eq_true rfl)⟩ ⟨(Nat.le_of_ble_eq_true rfl), (Nat.le_of_ble_eq_true rfl)⟩ (Nat.le_of_ble_eq_true rfl) ?_
  exact z_zret dX10_isKind_9 rfl rfl (z_nb _) ⟨congrArg some (i64_i rfl rfl), rfl⟩ (Nat.le_of_ble_eq_true rfl) (Nat.le_of_ble_eq_true rfl)

set_option maxHeartbeats 4000000 in
set_option maxRecDepth 100000 in
/-- X10_isSort -/
theorem r_isSort (g : zG) (h : zH) (s : Int32) : zX g yX10_isSort cX10_isSort 1 (some .boolean) rmX10_isSort [.int s] h (.int (if 0 ≤ s ∧ s ≤ 10 then 1 else 0)) h := by
  refine zM_of (by decide) (Nat.le_of_ble_eq_true rfl) ?_
  refine z_iload_n dX10_isSort_0 rfl rfl ?_
  refine z_i2l dX10_isSort_1 rfl ?_
  refine z_lconst (v := 0) dX10_isSort_2 rfl (by decide) ?_
  refine zk_X10_122 rfl dX10_isSort_3 rfl ?_
  refine zcx_X10_72 rfl dX10_isSort_6 rfl (r_in g h _ _ _) rfl rfl ⟨(Nat.le_of_ble_eq_true rfl), (Nat.le_of_ble_eq_true rfl)⟩ ⟨(Nat.le_of_ble_eq_true rfl), (Nat.le_of_ble_eq_true rfl)⟩ (Nat.le_of_ble_eq_true rfl) ?_
  exact z_zret dX10_isSort_9 rfl rfl (z_nb _) ⟨congrArg some (i64_i rfl rfl), rfl⟩ (Nat.le_of_ble_eq_true rfl) (Nat.le_of_ble_eq_true rfl)

set_option maxHeartbeats 4000000 in
set_option maxRecDepth 100000 in
/-- X10_isPatchNumber -/
theorem r_isPatchNumber (g : zG) (h : zH) (s : Int32) : zX g yX10_isPatchNumber cX10_isPatchNumber 1 (some .boolean) rmX10_isPatchNumber [.int s] h (.int (if 0 ≤ s ∧ s ≤ 3 then 1 else 0)) h := by
  refine zM_of (by decide) (Nat.le_of_ble_eq_true rfl) ?_
  refine z_iload_n dX10_isPatchNumber_0 rfl rfl ?_
  refine z_i2l dX10_isPatchNumber_1 rfl ?_
  refine z_lconst (v := 0) dX10_isPatchNumber_2 rfl (by decide) ?_
  refine zk_X10_207 rfl dX10_isPatchNumber_3 rfl ?_
  refine zcx_X10_72 rfl dX10_isPatchNumber_6 rfl (r_in g h _ _ _) rfl rfl ⟨(Nat.le_of_ble_eq_true rfl), (Nat.le_of_ble_eq_true rfl)⟩ ⟨(Nat.le_of_ble_eq_true rfl), (Nat.le_of_ble_eq_true rfl)⟩ (Nat.le_of_ble_eq_true rfl) ?_
  exact z_zret dX10_isPatchNumber_9 rfl rfl (z_nb _) ⟨congrArg some (i64_i rfl rfl), rfl⟩ (Nat.le_of_ble_eq_true rfl) (Nat.le_of_ble_eq_true rfl)

set_option maxHeartbeats 4000000 in
set_option maxRecDepth 100000 in
/-- X10_goesInto -/
theorem r_goesInto (g : zG) (h : zH) (s k : Int32) : zX g yX10_goesInto cX10_goesInto 2 (some .boolean) rmX10_goesInto [.int s, .int k] h (.int (if sInto s k = true then 1 else 0)) h := by
  refine zM_of (by decide) (Nat.le_of_ble_eq_true rfl) ?_
  refine z_iload_n dX10_goesInto_0 rfl rfl ?_
  refine z_bipush (v := 9) dX10_goesInto_1 rfl (by decide) ?_
  refine z_icmp_ne (tgt := 8) dX10_goesInto_3 rfl (by decide) (fun c3 => ?_) (fun c3 => ?_)
  · skip
    refine z_iload_n dX10_goesInto_8 rfl rfl ?_
    refine z_bipush (v := 7) dX10_goesInto_9 rfl (by decide) ?_
    refine z_icmp_le (tgt := 31) dX10_goesInto_11 rfl (by decide) (fun c11 => ?_) (fun c11 => ?_)
    · skip
      refine z_iload_n dX10_goesInto_31 rfl rfl ?_
      refine zcx_X10_76 rfl dX10_goesInto_32 rfl (r_isNumber g h _) rfl rfl ⟨(Nat.le_of_ble_eq_true rfl), (Nat.le_of_ble_eq_true rfl)⟩ ⟨(Nat.le_of_ble_eq_true rfl), (Nat.le_of_ble_eq_true rfl)⟩ (Nat.le_of_ble_eq_true rfl) ?_
      refine z_bif_ne (tgt := 40) dX10_goesInto_35 rfl (by decide) (fun c35 => ?_) (fun c35 => ?_)
      · skip
        refine z_iload_n dX10_goesInto_40 rfl rfl ?_
        refine z_iload_n dX10_goesInto_41 rfl rfl ?_
        refine z_icmp_eq (tgt := 69) dX10_goesInto_42 rfl (by decide) (fun c42 => ?_) (fun c42 => ?_)
        · skip
          refine z_iconst (v := 1) dX10_goesInto_69 rfl (by decide) ?_
          refine z_goto (tgt := 74) dX10_goesInto_70 rfl (by decide) ?_
          exact z_zret dX10_goesInto_74 rfl rfl rfl ⟨by grind [sInto], rfl⟩ (Nat.le_of_ble_eq_true rfl) (Nat.le_of_ble_eq_true rfl)
        · skip
          refine z_iload_n dX10_goesInto_45 rfl rfl ?_
          refine z_if_le (tgt := 73) dX10_goesInto_46 rfl (by decide) (fun c46 => ?_) (fun c46 => ?_)
          · skip
            refine z_iconst (v := 0) dX10_goesInto_73 rfl (by decide) ?_
            exact z_zret dX10_goesInto_74 rfl rfl rfl ⟨by grind [sInto], rfl⟩ (Nat.le_of_ble_eq_true rfl) (Nat.le_of_ble_eq_true rfl)
          · skip
            refine z_iload_n dX10_goesInto_49 rfl rfl ?_
            refine z_iload_n dX10_goesInto_50 rfl rfl ?_
            refine z_icmp_le (tgt := 73) dX10_goesInto_51 rfl (by decide) (fun c51 => ?_) (fun c51 => ?_)
            · skip
              refine z_iconst (v := 0) dX10_goesInto_73 rfl (by decide) ?_
              exact z_zret dX10_goesInto_74 rfl rfl rfl ⟨by grind [sInto], rfl⟩ (Nat.le_of_ble_eq_true rfl) (Nat.le_of_ble_eq_true rfl)
            · skip
              refine z_iload_n dX10_goesInto_54 rfl rfl ?_
              refine z_iconst (v := 3) dX10_goesInto_55 rfl (by decide) ?_
              refine z_icmp_lt (tgt := 73) dX10_goesInto_56 rfl (by decide) (fun c56 => ?_) (fun c56 => ?_)
              · skip
                refine z_iconst (v := 0) dX10_goesInto_73 rfl (by decide) ?_
                exact z_zret dX10_goesInto_74 rfl rfl rfl ⟨by grind [sInto], rfl⟩ (Nat.le_of_ble_eq_true rfl) (Nat.le_of_ble_eq_true rfl)
              · skip
                refine z_iload_n dX10_goesInto_59 rfl rfl ?_
                refine z_iconst (v := 2) dX10_goesInto_60 rfl (by decide) ?_
                refine z_icmp_ne (tgt := 69) dX10_goesInto_61 rfl (by decide) (fun c61 => ?_) (fun c61 => ?_)
                · skip
                  refine z_iconst (v := 1) dX10_goesInto_69 rfl (by decide) ?_
                  refine z_goto (tgt := 74) dX10_goesInto_70 rfl (by decide) ?_
                  exact z_zret dX10_goesInto_74 rfl rfl rfl ⟨by grind [sInto], rfl⟩ (Nat.le_of_ble_eq_true rfl) (Nat.le_of_ble_eq_true rfl)
                · skip
                  refine z_iload_n dX10_goesInto_64 rfl rfl ?_
                  refine z_iconst (v := 3) dX10_goesInto_65 rfl (by decide) ?_
                  refine z_icmp_eq (tgt := 73) dX10_goesInto_66 rfl (by decide) (fun c66 => ?_) (fun c66 => ?_)
                  · skip
                    refine z_iconst (v := 0) dX10_goesInto_73 rfl (by decide) ?_
                    exact z_zret dX10_goesInto_74 rfl rfl rfl ⟨by grind [sInto], rfl⟩ (Nat.le_of_ble_eq_true rfl) (Nat.le_of_ble_eq_true rfl)
                  · skip
                    refine z_iconst (v := 1) dX10_goesInto_69 rfl (by decide) ?_
                    refine z_goto (tgt := 74) dX10_goesInto_70 rfl (by decide) ?_
                    exact z_zret dX10_goesInto_74 rfl rfl rfl ⟨by grind [sInto], rfl⟩ (Nat.le_of_ble_eq_true rfl) (Nat.le_of_ble_eq_true rfl)
      · skip
        refine z_iconst (v := 0) dX10_goesInto_38 rfl (by decide) ?_
        exact z_zret dX10_goesInto_39 rfl rfl rfl ⟨by grind [sInto], rfl⟩ (Nat.le_of_ble_eq_true rfl) (Nat.le_of_ble_eq_true rfl)
    · skip
      refine z_iload_n dX10_goesInto_14 rfl rfl ?_
      refine z_bipush (v := 9) dX10_goesInto_15 rfl (by decide) ?_
      refine z_icmp_eq (tgt := 25) dX10_goesInto_17 rfl (by decide) (fun c17 => ?_) (fun c17 => ?_)
      · skip
        refine z_iconst (v := 1) dX10_goesInto_25 rfl (by decide) ?_
        refine z_goto (tgt := 30) dX10_goesInto_26 rfl (by decide) ?_
        exact z_zret dX10_goesInto_30 rfl rfl rfl ⟨by grind [sInto], rfl⟩ (Nat.le_of_ble_eq_true rfl) (Nat.le_of_ble_eq_true rfl)
      · skip
        refine z_iload_n dX10_goesInto_20 rfl rfl ?_
        refine z_iload_n dX10_goesInto_21 rfl rfl ?_
        refine z_icmp_ne (tgt := 29) dX10_goesInto_22 rfl (by decide) (fun c22 => ?_) (fun c22 => ?_)
        · skip
          refine z_iconst (v := 0) dX10_goesInto_29 rfl (by decide) ?_
          exact z_zret dX10_goesInto_30 rfl rfl rfl ⟨by grind [sInto], rfl⟩ (Nat.le_of_ble_eq_true rfl) (Nat.le_of_ble_eq_true rfl)
        · skip
          refine z_iconst (v := 1) dX10_goesInto_25 rfl (by decide) ?_
          refine z_goto (tgt := 30) dX10_goesInto_26 rfl (by decide) ?_
          exact z_zret dX10_goesInto_30 rfl rfl rfl ⟨by grind [sInto], rfl⟩ (Nat.le_of_ble_eq_true rfl) (Nat.le_of_ble_eq_true rfl)
  · skip
    refine z_iconst (v := 1) dX10_goesInto_6 rfl (by decide) ?_
    exact z_zret dX10_goesInto_7 rfl rfl rfl ⟨by grind [sInto], rfl⟩ (Nat.le_of_ble_eq_true rfl) (Nat.le_of_ble_eq_true rfl)

set_option maxHeartbeats 4000000 in
set_option maxRecDepth 100000 in
/-- X10_leastOf -/
theorem r_leastOf (g : zG) (h : zH) (x y : Int32) : zX g yX10_leastOf cX10_leastOf 2 (some .int) rmX10_leastOf [.int x, .int y] h (.int (if x < y then x else y)) h := by
  refine zM_of (by decide) (Nat.le_of_ble_eq_true rfl) ?_
  refine z_iload_n dX10_leastOf_0 rfl rfl ?_
  refine z_iload_n dX10_leastOf_1 rfl rfl ?_
  refine z_icmp_ge (tgt := 9) dX10_leastOf_2 rfl (by decide) (fun c2 => ?_) (fun c2 => ?_)
  · skip
    refine z_iload_n dX10_leastOf_9 rfl rfl ?_
    exact z_iret dX10_leastOf_10 rfl rfl ⟨by grind, rfl⟩ (Nat.le_of_ble_eq_true rfl) (Nat.le_of_ble_eq_true rfl)
  · skip
    refine z_iload_n dX10_leastOf_5 rfl rfl ?_
    refine z_goto (tgt := 10) dX10_leastOf_6 rfl (by decide) ?_
    exact z_iret dX10_leastOf_10 rfl rfl ⟨by grind, rfl⟩ (Nat.le_of_ble_eq_true rfl) (Nat.le_of_ble_eq_true rfl)

set_option maxHeartbeats 4000000 in
set_option maxRecDepth 100000 in
/-- X10_halfOf -/
theorem r_halfOf (g : zG) (h : zH) (x y : Int64) : zX g yX10_halfOf cX10_halfOf 4 (some .long) rmX10_halfOf [.long x, .long y] h (.long ((x >>> 1) + (y >>> 1) + (x &&& y &&& 1))) h := by
  refine zM_of (by decide) (Nat.le_of_ble_eq_true rfl) ?_
  refine z_lload_n dX10_halfOf_0 rfl rfl ?_
  refine z_iconst (v := 1) dX10_halfOf_1 rfl (by decide) ?_
  refine z_lshr dX10_halfOf_2 rfl ?_
  refine z_lload_n dX10_halfOf_3 rfl rfl ?_
  refine z_iconst (v := 1) dX10_halfOf_4 rfl (by decide) ?_
  refine z_lshr dX10_halfOf_5 rfl ?_
  refine z_ladd dX10_halfOf_6 rfl ?_
  refine z_lload_n dX10_halfOf_7 rfl rfl ?_
  refine z_lload_n dX10_halfOf_8 rfl rfl ?_
  refine z_land dX10_halfOf_9 rfl ?_
  refine z_lconst (v := 1) dX10_halfOf_10 rfl (by decide) ?_
  refine z_land dX10_halfOf_11 rfl ?_
  refine z_ladd dX10_halfOf_12 rfl ?_
  exact z_lret dX10_halfOf_13 rfl rfl ⟨rfl, rfl⟩ (Nat.le_of_ble_eq_true rfl) (Nat.le_of_ble_eq_true rfl)

