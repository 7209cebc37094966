def mS0 : sMS := (fun _ _ => 0, fun _ => 0, fun _ => 0, fun _ => 0, 0)
/-- the object and its first j arrays -/
def mB (m : Nat) (fs : List Value) (j : Nat) (h : Nat → Option zOb) : zH := (m + j + 1, fun a => if a = m then some (.inr (7, fs)) else if m < a ∧ a ≤ m + j then some (mCell m mS0 (a - m)) else h a)
theorem mB_o {m : Nat} {fs : List Value} {j : Nat} {h : Nat → Option zOb} : (mB m fs j h).2 m = some (.inr (7, fs)) := if_pos rfl
theorem mB_0 (m : Nat) (fs : List Value) (h : Nat → Option zOb) : ((m + 1, va_up h m (some (.inr (7, fs)))) : zH) = mB m fs 0 h := by
  refine Prod.ext rfl (funext fun a => ?_)
  simp only [mB, va_up]
  by_cases e : a = m
  · rw [if_pos e, if_pos e]
  · rw [if_neg e, if_neg e, if_neg (by omega)]
theorem mB_s (m : Nat) (fs fs' : List Value) (j : Nat) (h : Nat → Option zOb) {o : zOb} (ho : o = mCell m mS0 (j + 1)) : ((m + j + 1 + 1, va_up (va_up (mB m fs j h).2 (m + j + 1) (some o)) m (some (.inr (7, fs')))) : zH) = mB m fs' (j + 1) h := by
  subst ho
  refine Prod.ext rfl (funext fun a => ?_)
  simp only [mB, va_up]
  by_cases e : a = m
  · rw [if_pos e, if_pos e]
  simp only [if_neg e]
  by_cases e2 : a = m + j + 1
  · rw [if_pos e2, if_pos (by omega), e2, show m + j + 1 - m = j + 1 by omega]
  · rw [if_neg e2]
    by_cases e3 : m < a ∧ a ≤ m + j
    · rw [if_pos e3, if_pos (by omega)]
    · rw [if_neg e3, if_neg (by omega)]
theorem mB_e (m : Nat) (h : Nat → Option zOb) : mB m (mFs m mS0) 19 h = mUp m mS0 (m + 20, h) := by
  refine Prod.ext rfl (funext fun a => ?_)
  simp only [mB, mUp]
  by_cases e : a = m
  · rw [if_pos e, if_pos (by omega), e, Nat.sub_self]; rfl
  rw [if_neg e]
  by_cases e3 : m < a ∧ a ≤ m + 19
  · rw [if_pos e3, if_pos (by omega)]
  · rw [if_neg e3, if_neg (by omega)]

abbrev YX10_init : zY := (yX10_init.cls, cX10_init, 2, none, rmX10_init, yX10_init.name, fun _ _ => True)
set_option maxHeartbeats 800000 in
set_option maxRecDepth 100000 in
theorem r_init_1 (g : zG) (f : Nat → Option zOb) (m : Nat) (Q : Array Value → List Frame → State → State → Prop) (K : zZ g YX10_init Q 157 [(0, .ref m)] [] (mUp m mS0 (m + 20, f)) 19 3900) : zZ g YX10_init Q 0 [(0, .ref m)] [] (m + 1, va_up f m (some (.inr (7, [.null, .null, .null, .null, .null, .null, .long 0, .int 0, .null, .null, .int 0, .int 0, .int 0, .null, .null, .null, .null, .null, .null, .null, .null, .null, .int 0, .int 0, .null, .null])))) 0 0 := by
  first | refine z_aload_n dX10_init_0 rfl rfl ?_ | refine z_aload_nN dX10_init_0 rfl rfl ?_
  refine zc_X10_1 rfl dX10_init_1 rfl (Nat.le_of_ble_eq_true rfl) (Nat.le_of_ble_eq_true rfl) ?_
  refine zZ_h (mB m [.null, .null, .null, .null, .null, .null, .long 0, .int 0, .null, .null, .int 0, .int 0, .int 0, .null, .null, .null, .null, .null, .null, .null, .null, .null, .int 0, .int 0, .null, .null] 0 f) (mB_0 m _ f) ?_
  first | refine z_aload_n dX10_init_4 rfl rfl ?_ | refine z_aload_nN dX10_init_4 rfl rfl ?_
  refine z_sipush (v := 880) dX10_init_5 rfl (by decide) ?_
  refine z_newi (N := 880) dX10_init_8 rfl (by decide) rfl (Nat.le_of_ble_eq_true rfl) (Nat.le_of_ble_eq_true rfl) (Nat.le_of_ble_eq_true rfl) ?_
  refine zp_X10_7 rfl rfl dX10_init_10 rfl ((vu_n (show m ≠ m + 0 + 1 by omega)).trans mB_o) rfl rfl (Nat.le_of_ble_eq_true rfl) ?_
  refine zZ_h (mB m [.ref (m + 1), .null, .null, .null, .null, .null, .long 0, .int 0, .null, .null, .int 0, .int 0, .int 0, .null, .null, .null, .null, .null, .null, .null, .null, .null, .int 0, .int 0, .null, .null] 1 f) (mB_s m _ _ 0 f rfl) ?_
  first | refine z_aload_n dX10_init_13 rfl rfl ?_ | refine z_aload_nN dX10_init_13 rfl rfl ?_
  refine z_sipush (v := 880) dX10_init_14 rfl (by decide) ?_
  refine z_newl (N := 880) dX10_init_17 rfl (by decide) rfl (Nat.le_of_ble_eq_true rfl) (Nat.le_of_ble_eq_true rfl) (Nat.le_of_ble_eq_true rfl) ?_
  refine zp_X10_13 rfl rfl dX10_init_19 rfl ((vu_n (show m ≠ m + 1 + 1 by omega)).trans mB_o) rfl rfl (Nat.le_of_ble_eq_true rfl) ?_
  refine zZ_h (mB m [.ref (m + 1), .ref (m + 2), .null, .null, .null, .null, .long 0, .int 0, .null, .null, .int 0, .int 0, .int 0, .null, .null, .null, .null, .null, .null, .null, .null, .null, .int 0, .int 0, .null, .null] 2 f) (mB_s m _ _ 1 f rfl) ?_
  first | refine z_aload_n dX10_init_22 rfl rfl ?_ | refine z_aload_nN dX10_init_22 rfl rfl ?_
  refine z_sipush (v := 880) dX10_init_23 rfl (by decide) ?_
  refine z_newd (N := 880) dX10_init_26 rfl (by decide) rfl (Nat.le_of_ble_eq_true rfl) (Nat.le_of_ble_eq_true rfl) (Nat.le_of_ble_eq_true rfl) ?_
  refine zp_X10_17 rfl rfl dX10_init_28 rfl ((vu_n (show m ≠ m + 2 + 1 by omega)).trans mB_o) rfl rfl (Nat.le_of_ble_eq_true rfl) ?_
  refine zZ_h (mB m [.ref (m + 1), .ref (m + 2), .ref (m + 3), .null, .null, .null, .long 0, .int 0, .null, .null, .int 0, .int 0, .int 0, .null, .null, .null, .null, .null, .null, .null, .null, .null, .int 0, .int 0, .null, .null] 3 f) (mB_s m _ _ 2 f rfl) ?_
  first | refine z_aload_n dX10_init_31 rfl rfl ?_ | refine z_aload_nN dX10_init_31 rfl rfl ?_
  refine z_bipush (v := 27) dX10_init_32 rfl (by decide) ?_
  refine z_newi (N := 27) dX10_init_34 rfl (by decide) rfl (Nat.le_of_ble_eq_true rfl) (Nat.le_of_ble_eq_true rfl) (Nat.le_of_ble_eq_true rfl) ?_
  refine zp_X10_21 rfl rfl dX10_init_36 rfl ((vu_n (show m ≠ m + 3 + 1 by omega)).trans mB_o) rfl rfl (Nat.le_of_ble_eq_true rfl) ?_
  refine zZ_h (mB m [.ref (m + 1), .ref (m + 2), .ref (m + 3), .ref (m + 4), .null, .null, .long 0, .int 0, .null, .null, .int 0, .int 0, .int 0, .null, .null, .null, .null, .null, .null, .null, .null, .null, .int 0, .int 0, .null, .null] 4 f) (mB_s m _ _ 3 f rfl) ?_
  first | refine z_aload_n dX10_init_39 rfl rfl ?_ | refine z_aload_nN dX10_init_39 rfl rfl ?_
  refine z_bipush (v := 27) dX10_init_40 rfl (by decide) ?_
  refine z_newi (N := 27) dX10_init_42 rfl (by decide) rfl (Nat.le_of_ble_eq_true rfl) (Nat.le_of_ble_eq_true rfl) (Nat.le_of_ble_eq_true rfl) ?_
  refine zp_X10_24 rfl rfl dX10_init_44 rfl ((vu_n (show m ≠ m + 4 + 1 by omega)).trans mB_o) rfl rfl (Nat.le_of_ble_eq_true rfl) ?_
  refine zZ_h (mB m [.ref (m + 1), .ref (m + 2), .ref (m + 3), .ref (m + 4), .ref (m + 5), .null, .long 0, .int 0, .null, .null, .int 0, .int 0, .int 0, .null, .null, .null, .null, .null, .null, .null, .null, .null, .int 0, .int 0, .null, .null] 5 f) (mB_s m _ _ 4 f rfl) ?_
  first | refine z_aload_n dX10_init_47 rfl rfl ?_ | refine z_aload_nN dX10_init_47 rfl rfl ?_
  refine z_bipush (v := 8) dX10_init_48 rfl (by decide) ?_
  refine z_newi (N := 8) dX10_init_50 rfl (by decide) rfl (Nat.le_of_ble_eq_true rfl) (Nat.le_of_ble_eq_true rfl) (Nat.le_of_ble_eq_true rfl) ?_
  refine zp_X10_27 rfl rfl dX10_init_52 rfl ((vu_n (show m ≠ m + 5 + 1 by omega)).trans mB_o) rfl rfl (Nat.le_of_ble_eq_true rfl) ?_
  refine zZ_h (mB m [.ref (m + 1), .ref (m + 2), .ref (m + 3), .ref (m + 4), .ref (m + 5), .ref (m + 6), .long 0, .int 0, .null, .null, .int 0, .int 0, .int 0, .null, .null, .null, .null, .null, .null, .null, .null, .null, .int 0, .int 0, .null, .null] 6 f) (mB_s m _ _ 5 f rfl) ?_
  first | refine z_aload_n dX10_init_55 rfl rfl ?_ | refine z_aload_nN dX10_init_55 rfl rfl ?_
  refine z_iconst (v := 4) dX10_init_56 rfl (by decide) ?_
  refine z_newi (N := 4) dX10_init_57 rfl (by decide) rfl (Nat.le_of_ble_eq_true rfl) (Nat.le_of_ble_eq_true rfl) (Nat.le_of_ble_eq_true rfl) ?_
  refine zp_X10_30 rfl rfl dX10_init_59 rfl ((vu_n (show m ≠ m + 6 + 1 by omega)).trans mB_o) rfl rfl (Nat.le_of_ble_eq_true rfl) ?_
  refine zZ_h (mB m [.ref (m + 1), .ref (m + 2), .ref (m + 3), .ref (m + 4), .ref (m + 5), .ref (m + 6), .long 0, .int 0, .ref (m + 7), .null, .int 0, .int 0, .int 0, .null, .null, .null, .null, .null, .null, .null, .null, .null, .int 0, .int 0, .null, .null] 7 f) (mB_s m _ _ 6 f rfl) ?_
  first | refine z_aload_n dX10_init_62 rfl rfl ?_ | refine z_aload_nN dX10_init_62 rfl rfl ?_
  refine z_sipush (v := 441) dX10_init_63 rfl (by decide) ?_
  refine z_newi (N := 441) dX10_init_66 rfl (by decide) rfl (Nat.le_of_ble_eq_true rfl) (Nat.le_of_ble_eq_true rfl) (Nat.le_of_ble_eq_true rfl) ?_
  refine zp_X10_33 rfl rfl dX10_init_68 rfl ((vu_n (show m ≠ m + 7 + 1 by omega)).trans mB_o) rfl rfl (Nat.le_of_ble_eq_true rfl) ?_
  refine zZ_h (mB m [.ref (m + 1), .ref (m + 2), .ref (m + 3), .ref (m + 4), .ref (m + 5), .ref (m + 6), .long 0, .int 0, .ref (m + 7), .ref (m + 8), .int 0, .int 0, .int 0, .null, .null, .null, .null, .null, .null, .null, .null, .null, .int 0, .int 0, .null, .null] 8 f) (mB_s m _ _ 7 f rfl) ?_
  first | refine z_aload_n dX10_init_71 rfl rfl ?_ | refine z_aload_nN dX10_init_71 rfl rfl ?_
  refine z_bipush (v := 40) dX10_init_72 rfl (by decide) ?_
  refine z_newi (N := 40) dX10_init_74 rfl (by decide) rfl (Nat.le_of_ble_eq_true rfl) (Nat.le_of_ble_eq_true rfl) (Nat.le_of_ble_eq_true rfl) ?_
  refine zp_X10_36 rfl rfl dX10_init_76 rfl ((vu_n (show m ≠ m + 8 + 1 by omega)).trans mB_o) rfl rfl (Nat.le_of_ble_eq_true rfl) ?_
  refine zZ_h (mB m [.ref (m + 1), .ref (m + 2), .ref (m + 3), .ref (m + 4), .ref (m + 5), .ref (m + 6), .long 0, .int 0, .ref (m + 7), .ref (m + 8), .int 0, .int 0, .int 0, .ref (m + 9), .null, .null, .null, .null, .null, .null, .null, .null, .int 0, .int 0, .null, .null] 9 f) (mB_s m _ _ 8 f rfl) ?_
  first | refine z_aload_n dX10_init_79 rfl rfl ?_ | refine z_aload_nN dX10_init_79 rfl rfl ?_
  refine z_bipush (v := 40) dX10_init_80 rfl (by decide) ?_
  refine z_newi (N := 40) dX10_init_82 rfl (by decide) rfl (Nat.le_of_ble_eq_true rfl) (Nat.le_of_ble_eq_true rfl) (Nat.le_of_ble_eq_true rfl) ?_
  refine zp_X10_39 rfl rfl dX10_init_84 rfl ((vu_n (show m ≠ m + 9 + 1 by omega)).trans mB_o) rfl rfl (Nat.le_of_ble_eq_true rfl) ?_
  refine zZ_h (mB m [.ref (m + 1), .ref (m + 2), .ref (m + 3), .ref (m + 4), .ref (m + 5), .ref (m + 6), .long 0, .int 0, .ref (m + 7), .ref (m + 8), .int 0, .int 0, .int 0, .ref (m + 9), .ref (m + 10), .null, .null, .null, .null, .null, .null, .null, .int 0, .int 0, .null, .null] 10 f) (mB_s m _ _ 9 f rfl) ?_
  first | refine z_aload_n dX10_init_87 rfl rfl ?_ | refine z_aload_nN dX10_init_87 rfl rfl ?_
  refine z_bipush (v := 40) dX10_init_88 rfl (by decide) ?_
  refine z_newi (N := 40) dX10_init_90 rfl (by decide) rfl (Nat.le_of_ble_eq_true rfl) (Nat.le_of_ble_eq_true rfl) (Nat.le_of_ble_eq_true rfl) ?_
  refine zp_X10_42 rfl rfl dX10_init_92 rfl ((vu_n (show m ≠ m + 10 + 1 by omega)).trans mB_o) rfl rfl (Nat.le_of_ble_eq_true rfl) ?_
  refine zZ_h (mB m [.ref (m + 1), .ref (m + 2), .ref (m + 3), .ref (m + 4), .ref (m + 5), .ref (m + 6), .long 0, .int 0, .ref (m + 7), .ref (m + 8), .int 0, .int 0, .int 0, .ref (m + 9), .ref (m + 10), .ref (m + 11), .null, .null, .null, .null, .null, .null, .int 0, .int 0, .null, .null] 11 f) (mB_s m _ _ 10 f rfl) ?_
  first | refine z_aload_n dX10_init_95 rfl rfl ?_ | refine z_aload_nN dX10_init_95 rfl rfl ?_
  refine z_bipush (v := 40) dX10_init_96 rfl (by decide) ?_
  refine z_newi (N := 40) dX10_init_98 rfl (by decide) rfl (Nat.le_of_ble_eq_true rfl) (Nat.le_of_ble_eq_true rfl) (Nat.le_of_ble_eq_true rfl) ?_
  refine zp_X10_45 rfl rfl dX10_init_100 rfl ((vu_n (show m ≠ m + 11 + 1 by omega)).trans mB_o) rfl rfl (Nat.le_of_ble_eq_true rfl) ?_
  refine zZ_h (mB m [.ref (m + 1), .ref (m + 2), .ref (m + 3), .ref (m + 4), .ref (m + 5), .ref (m + 6), .long 0, .int 0, .ref (m + 7), .ref (m + 8), .int 0, .int 0, .int 0, .ref (m + 9), .ref (m + 10), .ref (m + 11), .ref (m + 12), .null, .null, .null, .null, .null, .int 0, .int 0, .null, .null] 12 f) (mB_s m _ _ 11 f rfl) ?_
  first | refine z_aload_n dX10_init_103 rfl rfl ?_ | refine z_aload_nN dX10_init_103 rfl rfl ?_
  refine z_bipush (v := 40) dX10_init_104 rfl (by decide) ?_
  refine z_newz (N := 40) dX10_init_106 rfl (by decide) rfl (Nat.le_of_ble_eq_true rfl) (Nat.le_of_ble_eq_true rfl) (Nat.le_of_ble_eq_true rfl) ?_
  refine zp_X10_48 rfl rfl dX10_init_108 rfl ((vu_n (show m ≠ m + 12 + 1 by omega)).trans mB_o) rfl rfl (Nat.le_of_ble_eq_true rfl) ?_
  refine zZ_h (mB m [.ref (m + 1), .ref (m + 2), .ref (m + 3), .ref (m + 4), .ref (m + 5), .ref (m + 6), .long 0, .int 0, .ref (m + 7), .ref (m + 8), .int 0, .int 0, .int 0, .ref (m + 9), .ref (m + 10), .ref (m + 11), .ref (m + 12), .ref (m + 13), .null, .null, .null, .null, .int 0, .int 0, .null, .null] 13 f) (mB_s m _ _ 12 f rfl) ?_
  first | refine z_aload_n dX10_init_111 rfl rfl ?_ | refine z_aload_nN dX10_init_111 rfl rfl ?_
  refine z_bipush (v := 40) dX10_init_112 rfl (by decide) ?_
  refine z_newz (N := 40) dX10_init_114 rfl (by decide) rfl (Nat.le_of_ble_eq_true rfl) (Nat.le_of_ble_eq_true rfl) (Nat.le_of_ble_eq_true rfl) ?_
  refine zp_X10_52 rfl rfl dX10_init_116 rfl ((vu_n (show m ≠ m + 13 + 1 by omega)).trans mB_o) rfl rfl (Nat.le_of_ble_eq_true rfl) ?_
  refine zZ_h (mB m [.ref (m + 1), .ref (m + 2), .ref (m + 3), .ref (m + 4), .ref (m + 5), .ref (m + 6), .long 0, .int 0, .ref (m + 7), .ref (m + 8), .int 0, .int 0, .int 0, .ref (m + 9), .ref (m + 10), .ref (m + 11), .ref (m + 12), .ref (m + 13), .ref (m + 14), .null, .null, .null, .int 0, .int 0, .null, .null] 14 f) (mB_s m _ _ 13 f rfl) ?_
  first | refine z_aload_n dX10_init_119 rfl rfl ?_ | refine z_aload_nN dX10_init_119 rfl rfl ?_
  refine z_iconst (v := 4) dX10_init_120 rfl (by decide) ?_
  refine z_newz (N := 4) dX10_init_121 rfl (by decide) rfl (Nat.le_of_ble_eq_true rfl) (Nat.le_of_ble_eq_true rfl) (Nat.le_of_ble_eq_true rfl) ?_
  refine zp_X10_55 rfl rfl dX10_init_123 rfl ((vu_n (show m ≠ m + 14 + 1 by omega)).trans mB_o) rfl rfl (Nat.le_of_ble_eq_true rfl) ?_
  refine zZ_h (mB m [.ref (m + 1), .ref (m + 2), .ref (m + 3), .ref (m + 4), .ref (m + 5), .ref (m + 6), .long 0, .int 0, .ref (m + 7), .ref (m + 8), .int 0, .int 0, .int 0, .ref (m + 9), .ref (m + 10), .ref (m + 11), .ref (m + 12), .ref (m + 13), .ref (m + 14), .ref (m + 15), .null, .null, .int 0, .int 0, .null, .null] 15 f) (mB_s m _ _ 14 f rfl) ?_
  first | refine z_aload_n dX10_init_126 rfl rfl ?_ | refine z_aload_nN dX10_init_126 rfl rfl ?_
  refine z_iconst (v := 4) dX10_init_127 rfl (by decide) ?_
  refine z_newi (N := 4) dX10_init_128 rfl (by decide) rfl (Nat.le_of_ble_eq_true rfl) (Nat.le_of_ble_eq_true rfl) (Nat.le_of_ble_eq_true rfl) ?_
  refine zp_X10_58 rfl rfl dX10_init_130 rfl ((vu_n (show m ≠ m + 15 + 1 by omega)).trans mB_o) rfl rfl (Nat.le_of_ble_eq_true rfl) ?_
  refine zZ_h (mB m [.ref (m + 1), .ref (m + 2), .ref (m + 3), .ref (m + 4), .ref (m + 5), .ref (m + 6), .long 0, .int 0, .ref (m + 7), .ref (m + 8), .int 0, .int 0, .int 0, .ref (m + 9), .ref (m + 10), .ref (m + 11), .ref (m + 12), .ref (m + 13), .ref (m + 14), .ref (m + 15), .ref (m + 16), .null, .int 0, .int 0, .null, .null] 16 f) (mB_s m _ _ 15 f rfl) ?_
  first | refine z_aload_n dX10_init_133 rfl rfl ?_ | refine z_aload_nN dX10_init_133 rfl rfl ?_
  refine z_sipush (v := 160) dX10_init_134 rfl (by decide) ?_
  refine z_newi (N := 160) dX10_init_137 rfl (by decide) rfl (Nat.le_of_ble_eq_true rfl) (Nat.le_of_ble_eq_true rfl) (Nat.le_of_ble_eq_true rfl) ?_
  refine zp_X10_61 rfl rfl dX10_init_139 rfl ((vu_n (show m ≠ m + 16 + 1 by omega)).trans mB_o) rfl rfl (Nat.le_of_ble_eq_true rfl) ?_
  refine zZ_h (mB m [.ref (m + 1), .ref (m + 2), .ref (m + 3), .ref (m + 4), .ref (m + 5), .ref (m + 6), .long 0, .int 0, .ref (m + 7), .ref (m + 8), .int 0, .int 0, .int 0, .ref (m + 9), .ref (m + 10), .ref (m + 11), .ref (m + 12), .ref (m + 13), .ref (m + 14), .ref (m + 15), .ref (m + 16), .ref (m + 17), .int 0, .int 0, .null, .null] 17 f) (mB_s m _ _ 16 f rfl) ?_
  first | refine z_aload_n dX10_init_142 rfl rfl ?_ | refine z_aload_nN dX10_init_142 rfl rfl ?_
  refine z_iconst (v := 2) dX10_init_143 rfl (by decide) ?_
  refine z_newz (N := 2) dX10_init_144 rfl (by decide) rfl (Nat.le_of_ble_eq_true rfl) (Nat.le_of_ble_eq_true rfl) (Nat.le_of_ble_eq_true rfl) ?_
  refine zp_X10_64 rfl rfl dX10_init_146 rfl ((vu_n (show m ≠ m + 17 + 1 by omega)).trans mB_o) rfl rfl (Nat.le_of_ble_eq_true rfl) ?_
  refine zZ_h (mB m [.ref (m + 1), .ref (m + 2), .ref (m + 3), .ref (m + 4), .ref (m + 5), .ref (m + 6), .long 0, .int 0, .ref (m + 7), .ref (m + 8), .int 0, .int 0, .int 0, .ref (m + 9), .ref (m + 10), .ref (m + 11), .ref (m + 12), .ref (m + 13), .ref (m + 14), .ref (m + 15), .ref (m + 16), .ref (m + 17), .int 0, .int 0, .ref (m + 18), .null] 18 f) (mB_s m _ _ 17 f rfl) ?_
  first | refine z_aload_n dX10_init_149 rfl rfl ?_ | refine z_aload_nN dX10_init_149 rfl rfl ?_
  refine z_bipush (v := 16) dX10_init_150 rfl (by decide) ?_
  refine z_newi (N := 16) dX10_init_152 rfl (by decide) rfl (Nat.le_of_ble_eq_true rfl) (Nat.le_of_ble_eq_true rfl) (Nat.le_of_ble_eq_true rfl) ?_
  refine zp_X10_67 rfl rfl dX10_init_154 rfl ((vu_n (show m ≠ m + 18 + 1 by omega)).trans mB_o) rfl rfl (Nat.le_of_ble_eq_true rfl) ?_
  refine zZ_h (mB m [.ref (m + 1), .ref (m + 2), .ref (m + 3), .ref (m + 4), .ref (m + 5), .ref (m + 6), .long 0, .int 0, .ref (m + 7), .ref (m + 8), .int 0, .int 0, .int 0, .ref (m + 9), .ref (m + 10), .ref (m + 11), .ref (m + 12), .ref (m + 13), .ref (m + 14), .ref (m + 15), .ref (m + 16), .ref (m + 17), .int 0, .int 0, .ref (m + 18), .ref (m + 19)] 19 f) (mB_s m _ _ 18 f rfl) ?_
  refine zZ_h (mUp m mS0 (m + 20, f)) (mB_e m f) ?_
  refine z_widen (ce' := 19) (sl' := 3900) (by decide) (by decide) ?_
  exact K

