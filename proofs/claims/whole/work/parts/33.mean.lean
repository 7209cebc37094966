section LDCWF
variable {p : Program} {l : Launch} {e : Env} {R : Room} {s : State} {m : MethodId} {args : Array Value} {below : List Frame} {meth : Method} {c : Code} {H : Heap} {locs : List Loc} {cells slots : Nat} {Q : State → Prop} {cc : ByteArray} {pc : Nat} {ls : Array Slot} {rest : List Value}
theorem my_ldcwF {T : State} (X : Stand p l e R s m args below meth c T locs cells slots) (hexec : p.tables.exec = Jvm.exec) {own : String} {index : Nat} {v : UInt32} (hown : s.vm.findClass own = some m.cls)
    (hconst : (Cond.constantFloat own index v).before args s = true) {g : JFrame} (hg : g.method = m) (hdg : decode c.code g.pc = .ok (.ldc_w index, 3)) :
    ∀ target, Steps p.tables e below (T.setTop { g with pc := g.pc + 3, stack := .float v :: g.stack }) target → Steps p.tables e below (T.setTop g) target := by
  obtain ⟨k, cf, hk, hcf, hcp⟩ := Cond.constantFloat_spec hown hconst
  obtain ⟨k', hk', he⟩ := X.warmed.alike.2.2 _ _ hk
  intro target hrest
  subst hg
  jvm_step X.here [hexec, hdg, ldc_w.wp_float (s := T) (f := g) X.here.top hk' (by rw [he]; exact hcf) hcp]
  exact hrest
theorem my_lvldcwf (hexec : p.tables.exec = Jvm.exec) (hb : c.code = cc) {own : String} {index : Nat} {v : UInt32} (hown : s.vm.findClass own = some m.cls) (hconst : (Jvm.Cond.constantFloat own index v).before args s = true) (hdg : decode cc pc = .ok (.ldc_w index, 3)) (k : W p l e R s m args below meth c H locs cells slots Q (F0 m (pc + 3) ls (.float v :: rest))) : W p l e R s m args below meth c H locs cells slots Q (F0 m pc ls rest) := by
  intro T hT X
  obtain ⟨t, a, b⟩ := k T hT X
  exact ⟨t, my_ldcwF X hexec hown hconst (g := F0 m pc ls rest) rfl (by rw [hb]; exact hdg) t a, b⟩
end LDCWF
section ZLW
variable {g : zG} {Y : zY} {Q : Array Value → List Frame → State → State → Prop} {pc pc0 : Nat} {lv : List (Nat × Value)} {st : List Value} {h : zH} {ce sl : Nat}
theorem z_ldcwf {index : Nat} {v : UInt32} (hd : decode Y.2.1 pc = .ok (.ldc_w index, 3)) (hp : pc0 = pc) (hw : Cond.constantFloat Y.1 index v ∈ lw_tbl) (k : zZ g Y Q (pc + 3) lv (.float v :: st) h ce sl) : zZ g Y Q pc0 lv st h ce sl := by
  subst hp
  intro p e s m args below meth c H locs ls C hO hS hl
  exact my_lvldcwf C.1 C.2.1 C.own (C.K.word hw rfl) hd (k p e s m args below meth c H locs ls C hO hS hl)
theorem zk_X10_282w (hY : Y.1 = RX10) (hd : decode Y.2.1 pc = .ok (.ldc_w 282, 3)) (hp : pc0 = pc) (k : zZ g Y Q (pc + 3) lv (.float (1056964608 : UInt32) :: st) h ce sl) : zZ g Y Q pc0 lv st h ce sl := z_ldcwf hd hp (by rw [hY]; exact wd_1143) k
end ZLW
theorem sJn_into (a b : Int32) : ∀ n i, i + n = 8 → ¬ sJn a b n i = -4 → ∃ k, k < 8 ∧ sJn a b n i = nI k ∧ sInto a (nI k) = true ∧ sInto b (nI k) = true
  | 0, i, _, h => absurd rfl h
  | n + 1, i, hi, h => by
    rw [sJn] at h ⊢
    by_cases c : sInto a (nI i) = true ∧ sInto b (nI i) = true
    · rw [if_pos c]; exact ⟨i, by omega, rfl, c⟩
    · rw [if_neg c] at h ⊢; exact sJn_into a b n (i + 1) (by omega) h
theorem sJoin_into {a b : Int32} (h : ¬ sJoin a b = -4) : (0 ≤ sJoin a b ∧ sJoin a b ≤ 7) ∧ sInto a (sJoin a b) = true ∧ sInto b (sJoin a b) = true := by
  have hn := sJoin_num h
  have e : sJoin a b = sJn a b 8 0 := if_pos hn
  obtain ⟨k, hk, e2, h1, h2⟩ := sJn_into a b 8 0 rfl (by rw [← e]; exact h)
  rw [e, e2]
  exact ⟨⟨nI_pos' (by omega), nI_le (b := 7) (by omega) (by decide)⟩, h1, h2⟩
theorem okF_into {c : sC} (h : sOk c) (h6 : sInto c.1 6 = true) : okF (sReal c 6) := by
  unfold sReal
  by_cases c6 : 6 ≤ c.1
  · rw [if_pos c6]
    have e : c.1 = 6 := by grind [sInto]
    exact (h.2.2.1 e).2
  · rw [if_neg c6, if_pos rfl]
    exact ⟨_, rfl, okS_l2f _⟩
/-- the mean of two cells -/
def sMean (c d : sC) : sC :=
  if sJoin c.1 d.1 = 0 then (sJoin c.1 d.1, c.2.1 &&& d.2.1, 0)
  else if ¬ 6 ≤ sJoin c.1 d.1 then (sJoin c.1 d.1, (c.2.1 >>> 1) + (d.2.1 >>> 1) + (c.2.1 &&& d.2.1 &&& 1), 0)
  else if sJoin c.1 d.1 = 6 then (sJoin c.1 d.1, 0, FP.f2d (FP.fadd (FP.fmul (FP.fadd (FP.d2f (sReal c 6)) (FP.d2f (sReal d 6))) 1056964608) FP.fconst0))
  else (sJoin c.1 d.1, 0, FP.dadd (FP.dmul (FP.dadd (sReal c (sJoin c.1 d.1)) (sReal d (sJoin c.1 d.1))) 4602678819172646912) FP.dconst0)
/-- a cell of a pair, by the mode -/
def sMake (c d : sC) (mode : Int32) : sC := if mode = 2 ∧ ¬ sJoin c.1 d.1 = -4 then sMean c d else if mode = 1 then d else c

set_option maxHeartbeats 1500000 in
set_option maxRecDepth 100000 in
/-- X10_laysMean -/
theorem r_laysMean (g : zG) (h : zH) (m : Nat) (S : sMS) (p q to : Int32) (hp : vp_in p 880) (hq : vp_in q 880) (hto : vp_in to 880) (c d : sC) (hc : mc S p.toNatClampNeg = c ∧ sOk c) (hd : mc S q.toNatClampNeg = d ∧ sOk d) (hj : ¬ sJoin c.1 d.1 = -4) : zXv g yX10_laysMean cX10_laysMean 5 none rmX10_laysMean [.ref m, .int p, .int q, .int to] (mUp m S h) (mUp m (mLay S to.toNatClampNeg (sMean c d)) h) := by
  refine zM_of (by decide) (Nat.le_of_ble_eq_true rfl) ?_
  have hj2 := sJoin_into hj
  first | refine z_aload_n dX10_laysMean_0 rfl rfl ?_ | refine z_aload_nN dX10_laysMean_0 rfl rfl ?_
  refine zmg_7 rfl dX10_laysMean_1 rfl ?_
  refine z_iload_n dX10_laysMean_4 rfl rfl ?_
  refine zm_iald dX10_laysMean_5 rfl rfl hp ?_
  rw [show S.1 1 p.toNatClampNeg = c.1 from congrArg (fun c : sC => c.1) hc.1]
  first | refine z_aload_n dX10_laysMean_6 rfl rfl ?_ | refine z_aload_nN dX10_laysMean_6 rfl rfl ?_
  refine zmg_7 rfl dX10_laysMean_7 rfl ?_
  refine z_iload_n dX10_laysMean_10 rfl rfl ?_
  refine zm_iald dX10_laysMean_11 rfl rfl hq ?_
  rw [show S.1 1 q.toNatClampNeg = d.1 from congrArg (fun c : sC => c.1) hd.1]
  refine zcx_X10_108 rfl dX10_laysMean_12 rfl (r_joinOf g _ _ _) rfl rfl ⟨(Nat.le_of_ble_eq_true rfl), (Nat.le_of_ble_eq_true rfl)⟩ ⟨(Nat.le_of_ble_eq_true rfl), (Nat.le_of_ble_eq_true rfl)⟩ (Nat.le_of_ble_eq_true rfl) ?_
  refine z_istore dX10_laysMean_15 rfl (Nat.le_of_ble_eq_true rfl) ?_
  refine z_iload dX10_laysMean_17 rfl rfl ?_
  refine z_if_ne (tgt := 46) dX10_laysMean_19 rfl (by decide) (fun c19 => ?_) (fun c19 => ?_)
  · skip
    refine z_iload dX10_laysMean_46 rfl rfl ?_
    refine z_bipush (v := 6) dX10_laysMean_48 rfl (by decide) ?_
    refine z_icmp_ge (tgt := 79) dX10_laysMean_50 rfl (by decide) (fun c50 => ?_) (fun c50 => ?_)
    · skip
      refine z_iload dX10_laysMean_79 rfl rfl ?_
      refine z_bipush (v := 6) dX10_laysMean_81 rfl (by decide) ?_
      refine z_icmp_ne (tgt := 121) dX10_laysMean_83 rfl (by decide) (fun c83 => ?_) (fun c83 => ?_)
      · skip
        have hm := okD_mean (sReal_ok hc.2 (sJoin_num hj).1.2 (sJoin c.1 d.1)) (sReal_ok hd.2 (sJoin_num hj).2.2 (sJoin c.1 d.1))
        first | refine z_aload_n dX10_laysMean_121 rfl rfl ?_ | refine z_aload_nN dX10_laysMean_121 rfl rfl ?_
        refine z_iload_n dX10_laysMean_122 rfl rfl ?_
        refine z_iload dX10_laysMean_123 rfl rfl ?_
        refine z_lconst (v := 0) dX10_laysMean_125 rfl (by decide) ?_
        first | refine z_aload_n dX10_laysMean_126 rfl rfl ?_ | refine z_aload_nN dX10_laysMean_126 rfl rfl ?_
        refine z_iload_n dX10_laysMean_127 rfl rfl ?_
        refine z_iload dX10_laysMean_128 rfl rfl ?_
        refine zcx_X10_88 rfl dX10_laysMean_130 rfl mo_recv (r_fractionOf g h m S _ _ hp) rfl rfl ⟨(Nat.le_of_ble_eq_true rfl), (Nat.le_of_ble_eq_true rfl)⟩ ⟨(Nat.le_of_ble_eq_true rfl), (Nat.le_of_ble_eq_true rfl)⟩ (Nat.le_of_ble_eq_true rfl) ?_
        rw [hc.1]
        first | refine z_aload_n dX10_laysMean_133 rfl rfl ?_ | refine z_aload_nN dX10_laysMean_133 rfl rfl ?_
        refine z_iload_n dX10_laysMean_134 rfl rfl ?_
        refine z_iload dX10_laysMean_135 rfl rfl ?_
        refine zcx_X10_88 rfl dX10_laysMean_137 rfl mo_recv (r_fractionOf g h m S _ _ hq) rfl rfl ⟨(Nat.le_of_ble_eq_true rfl), (Nat.le_of_ble_eq_true rfl)⟩ ⟨(Nat.le_of_ble_eq_true rfl), (Nat.le_of_ble_eq_true rfl)⟩ (Nat.le_of_ble_eq_true rfl) ?_
        rw [hd.1]
        refine z_dadd dX10_laysMean_140 rfl (fpD_n hm.1) ?_
        refine zk_X10_283 rfl dX10_laysMean_141 rfl ?_
        refine z_dmul dX10_laysMean_144 rfl (fpD_n hm.2.1) ?_
        refine z_dconst0 dX10_laysMean_145 rfl ?_
        refine z_dadd dX10_laysMean_146 rfl (fpD_n hm.2.2.1) ?_
        refine zcv_X10_84 rfl dX10_laysMean_147 rfl mo_recv (r_lays g h m S _ _ _ _ hto) rfl rfl ⟨(Nat.le_of_ble_eq_true rfl), (Nat.le_of_ble_eq_true rfl)⟩ ⟨(Nat.le_of_ble_eq_true rfl), (Nat.le_of_ble_eq_true rfl)⟩ (Nat.le_of_ble_eq_true rfl) ?_
        exact z_vret dX10_laysMean_150 rfl rfl ⟨rfl, by first | (rw [sMean, if_pos c19]; done) | (rw [sMean, if_pos c19]; rfl) | (rw [sMean, if_neg c19, if_pos c50]; done) | (rw [sMean, if_neg c19, if_pos c50]; rfl) | (rw [sMean, if_neg c19, if_neg (fun z => z c50), if_pos c83, j6]; done) | (rw [sMean, if_neg c19, if_neg (fun z => z c50), if_neg c83]; done)⟩ (Nat.le_of_ble_eq_true rfl) (Nat.le_of_ble_eq_true rfl)
      · skip
        have j6 : sJoin c.1 d.1 = 6 := c83
        have hm := okS_mean (okF_d2f (okF_into hc.2 (by rw [← j6]; exact hj2.2.1))) (okF_d2f (okF_into hd.2 (by rw [← j6]; exact hj2.2.2)))
        rw [j6]
        first | refine z_aload_n dX10_laysMean_86 rfl rfl ?_ | refine z_aload_nN dX10_laysMean_86 rfl rfl ?_
        refine z_iload_n dX10_laysMean_87 rfl rfl ?_
        refine z_iload dX10_laysMean_88 rfl rfl ?_
        refine z_lconst (v := 0) dX10_laysMean_90 rfl (by decide) ?_
        first | refine z_aload_n dX10_laysMean_91 rfl rfl ?_ | refine z_aload_nN dX10_laysMean_91 rfl rfl ?_
        refine z_iload_n dX10_laysMean_92 rfl rfl ?_
        refine z_iload dX10_laysMean_93 rfl rfl ?_
        refine zcx_X10_88 rfl dX10_laysMean_95 rfl mo_recv (r_fractionOf g h m S _ _ hp) rfl rfl ⟨(Nat.le_of_ble_eq_true rfl), (Nat.le_of_ble_eq_true rfl)⟩ ⟨(Nat.le_of_ble_eq_true rfl), (Nat.le_of_ble_eq_true rfl)⟩ (Nat.le_of_ble_eq_true rfl) ?_
        rw [hc.1]
        refine z_d2f dX10_laysMean_98 rfl (fpS_n (okF_d2f (okF_into hc.2 (by rw [← j6]; exact hj2.2.1))).1) ?_
        first | refine z_aload_n dX10_laysMean_99 rfl rfl ?_ | refine z_aload_nN dX10_laysMean_99 rfl rfl ?_
        refine z_iload_n dX10_laysMean_100 rfl rfl ?_
        refine z_iload dX10_laysMean_101 rfl rfl ?_
        refine zcx_X10_88 rfl dX10_laysMean_103 rfl mo_recv (r_fractionOf g h m S _ _ hq) rfl rfl ⟨(Nat.le_of_ble_eq_true rfl), (Nat.le_of_ble_eq_true rfl)⟩ ⟨(Nat.le_of_ble_eq_true rfl), (Nat.le_of_ble_eq_true rfl)⟩ (Nat.le_of_ble_eq_true rfl) ?_
        rw [hd.1]
        refine z_d2f dX10_laysMean_106 rfl (fpS_n (okF_d2f (okF_into hd.2 (by rw [← j6]; exact hj2.2.2))).1) ?_
        refine z_fadd dX10_laysMean_107 rfl (fpS_n hm.1) ?_
        refine zk_X10_282w rfl dX10_laysMean_108 rfl ?_
        refine z_fmul dX10_laysMean_111 rfl (fpS_n hm.2.1) ?_
        refine z_fconst0 dX10_laysMean_112 rfl ?_
        refine z_fadd dX10_laysMean_113 rfl (fpS_n hm.2.2.1) ?_
        refine z_f2d dX10_laysMean_114 rfl (fpD_n (okS_f2d hm.2.2).1) ?_
        refine zcv_X10_84 rfl dX10_laysMean_115 rfl mo_recv (r_lays g h m S _ _ _ _ hto) rfl rfl ⟨(Nat.le_of_ble_eq_true rfl), (Nat.le_of_ble_eq_true rfl)⟩ ⟨(Nat.le_of_ble_eq_true rfl), (Nat.le_of_ble_eq_true rfl)⟩ (Nat.le_of_ble_eq_true rfl) ?_
        refine z_goto (tgt := 150) dX10_laysMean_118 rfl (by decide) ?_
        exact z_vret dX10_laysMean_150 rfl rfl ⟨rfl, by first | (rw [sMean, if_pos c19]; done) | (rw [sMean, if_pos c19]; rfl) | (rw [sMean, if_neg c19, if_pos c50]; done) | (rw [sMean, if_neg c19, if_pos c50]; rfl) | (rw [sMean, if_neg c19, if_neg (fun z => z c50), if_pos c83, j6]; done) | (rw [sMean, if_neg c19, if_neg (fun z => z c50), if_neg c83]; done)⟩ (Nat.le_of_ble_eq_true rfl) (Nat.le_of_ble_eq_true rfl)
    · skip
      first | refine z_aload_n dX10_laysMean_53 rfl rfl ?_ | refine z_aload_nN dX10_laysMean_53 rfl rfl ?_
      refine z_iload_n dX10_laysMean_54 rfl rfl ?_
      refine z_iload dX10_laysMean_55 rfl rfl ?_
      first | refine z_aload_n dX10_laysMean_57 rfl rfl ?_ | refine z_aload_nN dX10_laysMean_57 rfl rfl ?_
      refine zmg_13 rfl dX10_laysMean_58 rfl ?_
      refine z_iload_n dX10_laysMean_61 rfl rfl ?_
      refine zm_lald dX10_laysMean_62 rfl rfl hp ?_
      rw [show S.2.1 p.toNatClampNeg = c.2.1 from congrArg (fun c : sC => c.2.1) hc.1]
      first | refine z_aload_n dX10_laysMean_63 rfl rfl ?_ | refine z_aload_nN dX10_laysMean_63 rfl rfl ?_
      refine zmg_13 rfl dX10_laysMean_64 rfl ?_
      refine z_iload_n dX10_laysMean_67 rfl rfl ?_
      refine zm_lald dX10_laysMean_68 rfl rfl hq ?_
      rw [show S.2.1 q.toNatClampNeg = d.2.1 from congrArg (fun c : sC => c.2.1) hd.1]
      refine zcx_X10_278 rfl dX10_laysMean_69 rfl (r_halfOf g _ _ _) rfl rfl ⟨(Nat.le_of_ble_eq_true rfl), (Nat.le_of_ble_eq_true rfl)⟩ ⟨(Nat.le_of_ble_eq_true rfl), (Nat.le_of_ble_eq_true rfl)⟩ (Nat.le_of_ble_eq_true rfl) ?_
      refine z_dconst0 dX10_laysMean_72 rfl ?_
      refine zcv_X10_84 rfl dX10_laysMean_73 rfl mo_recv (r_lays g h m S _ _ _ _ hto) rfl rfl ⟨(Nat.le_of_ble_eq_true rfl), (Nat.le_of_ble_eq_true rfl)⟩ ⟨(Nat.le_of_ble_eq_true rfl), (Nat.le_of_ble_eq_true rfl)⟩ (Nat.le_of_ble_eq_true rfl) ?_
      refine z_goto (tgt := 150) dX10_laysMean_76 rfl (by decide) ?_
      exact z_vret dX10_laysMean_150 rfl rfl ⟨rfl, by first | (rw [sMean, if_pos c19]; done) | (rw [sMean, if_pos c19]; rfl) | (rw [sMean, if_neg c19, if_pos c50]; done) | (rw [sMean, if_neg c19, if_pos c50]; rfl) | (rw [sMean, if_neg c19, if_neg (fun z => z c50), if_pos c83, j6]; done) | (rw [sMean, if_neg c19, if_neg (fun z => z c50), if_neg c83]; done)⟩ (Nat.le_of_ble_eq_true rfl) (Nat.le_of_ble_eq_true rfl)
  · skip
    first | refine z_aload_n dX10_laysMean_22 rfl rfl ?_ | refine z_aload_nN dX10_laysMean_22 rfl rfl ?_
    refine z_iload_n dX10_laysMean_23 rfl rfl ?_
    refine z_iload dX10_laysMean_24 rfl rfl ?_
    first | refine z_aload_n dX10_laysMean_26 rfl rfl ?_ | refine z_aload_nN dX10_laysMean_26 rfl rfl ?_
    refine zmg_13 rfl dX10_laysMean_27 rfl ?_
    refine z_iload_n dX10_laysMean_30 rfl rfl ?_
    refine zm_lald dX10_laysMean_31 rfl rfl hp ?_
    rw [show S.2.1 p.toNatClampNeg = c.2.1 from congrArg (fun c : sC => c.2.1) hc.1]
    first | refine z_aload_n dX10_laysMean_32 rfl rfl ?_ | refine z_aload_nN dX10_laysMean_32 rfl rfl ?_
    refine zmg_13 rfl dX10_laysMean_33 rfl ?_
    refine z_iload_n dX10_laysMean_36 rfl rfl ?_
    refine zm_lald dX10_laysMean_37 rfl rfl hq ?_
    rw [show S.2.1 q.toNatClampNeg = d.2.1 from congrArg (fun c : sC => c.2.1) hd.1]
    refine z_land dX10_laysMean_38 rfl ?_
    refine z_dconst0 dX10_laysMean_39 rfl ?_
    refine zcv_X10_84 rfl dX10_laysMean_40 rfl mo_recv (r_lays g h m S _ _ _ _ hto) rfl rfl ⟨(Nat.le_of_ble_eq_true rfl), (Nat.le_of_ble_eq_true rfl)⟩ ⟨(Nat.le_of_ble_eq_true rfl), (Nat.le_of_ble_eq_true rfl)⟩ (Nat.le_of_ble_eq_true rfl) ?_
    refine z_goto (tgt := 150) dX10_laysMean_43 rfl (by decide) ?_
    exact z_vret dX10_laysMean_150 rfl rfl ⟨rfl, by first | (rw [sMean, if_pos c19]; done) | (rw [sMean, if_pos c19]; rfl) | (rw [sMean, if_neg c19, if_pos c50]; done) | (rw [sMean, if_neg c19, if_pos c50]; rfl) | (rw [sMean, if_neg c19, if_neg (fun z => z c50), if_pos c83, j6]; done) | (rw [sMean, if_neg c19, if_neg (fun z => z c50), if_neg c83]; done)⟩ (Nat.le_of_ble_eq_true rfl) (Nat.le_of_ble_eq_true rfl)

set_option maxHeartbeats 1500000 in
set_option maxRecDepth 100000 in
/-- X10_makesBeside -/
theorem r_makesBeside (g : zG) (h : zH) (m : Nat) (S : sMS) (p q mode to : Int32) (hp : vp_in p 880) (hq : vp_in q 880) (hto : vp_in to 880) (c d : sC) (hc : mc S p.toNatClampNeg = c ∧ sOk c) (hd : mc S q.toNatClampNeg = d ∧ sOk d) : zXv g yX10_makesBeside cX10_makesBeside 5 none rmX10_makesBeside [.ref m, .int p, .int q, .int mode, .int to] (mUp m S h) (mUp m (mLay S to.toNatClampNeg (sMake c d mode)) h) := by
  refine zM_of (by decide) (Nat.le_of_ble_eq_true rfl) ?_
  refine z_iload_n dX10_makesBeside_0 rfl rfl ?_
  refine z_iconst (v := 2) dX10_makesBeside_1 rfl (by decide) ?_
  refine z_icmp_ne (tgt := 36) dX10_makesBeside_2 rfl (by decide) (fun c2 => ?_) (fun c2 => ?_)
  · skip
    first | refine z_aload_n dX10_makesBeside_36 rfl rfl ?_ | refine z_aload_nN dX10_makesBeside_36 rfl rfl ?_
    refine z_iload_n dX10_makesBeside_37 rfl rfl ?_
    refine z_iconst (v := 1) dX10_makesBeside_38 rfl (by decide) ?_
    refine z_icmp_ne (tgt := 46) dX10_makesBeside_39 rfl (by decide) (fun c39 => ?_) (fun c39 => ?_)
    · skip
      refine z_iload_n dX10_makesBeside_46 rfl rfl ?_
      refine z_iload dX10_makesBeside_47 rfl rfl ?_
      first | refine zcv_X10_229 rfl dX10_makesBeside_49 rfl mo_recv (r_copiesCell g h m S q to hq hto) rfl rfl ⟨(Nat.le_of_ble_eq_true rfl), (Nat.le_of_ble_eq_true rfl)⟩ ⟨(Nat.le_of_ble_eq_true rfl), (Nat.le_of_ble_eq_true rfl)⟩ (Nat.le_of_ble_eq_true rfl) ?_ | refine zcv_X10_229 rfl dX10_makesBeside_49 rfl mo_recv (r_copiesCell g h m S p to hp hto) rfl rfl ⟨(Nat.le_of_ble_eq_true rfl), (Nat.le_of_ble_eq_true rfl)⟩ ⟨(Nat.le_of_ble_eq_true rfl), (Nat.le_of_ble_eq_true rfl)⟩ (Nat.le_of_ble_eq_true rfl) ?_
      exact z_vret dX10_makesBeside_52 rfl rfl ⟨rfl, by first | rw [hc.1, sMake, if_neg (by grind), if_neg (by grind)] | rw [hd.1, sMake, if_neg (by grind), if_pos (by grind)] | rw [sMake, if_pos (by grind)]⟩ (Nat.le_of_ble_eq_true rfl) (Nat.le_of_ble_eq_true rfl)
    · skip
      refine z_iload_n dX10_makesBeside_42 rfl rfl ?_
      refine z_goto (tgt := 47) dX10_makesBeside_43 rfl (by decide) ?_
      refine z_iload dX10_makesBeside_47 rfl rfl ?_
      first | refine zcv_X10_229 rfl dX10_makesBeside_49 rfl mo_recv (r_copiesCell g h m S q to hq hto) rfl rfl ⟨(Nat.le_of_ble_eq_true rfl), (Nat.le_of_ble_eq_true rfl)⟩ ⟨(Nat.le_of_ble_eq_true rfl), (Nat.le_of_ble_eq_true rfl)⟩ (Nat.le_of_ble_eq_true rfl) ?_ | refine zcv_X10_229 rfl dX10_makesBeside_49 rfl mo_recv (r_copiesCell g h m S p to hp hto) rfl rfl ⟨(Nat.le_of_ble_eq_true rfl), (Nat.le_of_ble_eq_true rfl)⟩ ⟨(Nat.le_of_ble_eq_true rfl), (Nat.le_of_ble_eq_true rfl)⟩ (Nat.le_of_ble_eq_true rfl) ?_
      exact z_vret dX10_makesBeside_52 rfl rfl ⟨rfl, by first | rw [hc.1, sMake, if_neg (by grind), if_neg (by grind)] | rw [hd.1, sMake, if_neg (by grind), if_pos (by grind)] | rw [sMake, if_pos (by grind)]⟩ (Nat.le_of_ble_eq_true rfl) (Nat.le_of_ble_eq_true rfl)
  · skip
    first | refine z_aload_n dX10_makesBeside_5 rfl rfl ?_ | refine z_aload_nN dX10_makesBeside_5 rfl rfl ?_
    refine zmg_7 rfl dX10_makesBeside_6 rfl ?_
    refine z_iload_n dX10_makesBeside_9 rfl rfl ?_
    refine zm_iald dX10_makesBeside_10 rfl rfl hp ?_
    rw [show S.1 1 p.toNatClampNeg = c.1 from congrArg (fun c : sC => c.1) hc.1]
    first | refine z_aload_n dX10_makesBeside_11 rfl rfl ?_ | refine z_aload_nN dX10_makesBeside_11 rfl rfl ?_
    refine zmg_7 rfl dX10_makesBeside_12 rfl ?_
    refine z_iload_n dX10_makesBeside_15 rfl rfl ?_
    refine zm_iald dX10_makesBeside_16 rfl rfl hq ?_
    rw [show S.1 1 q.toNatClampNeg = d.1 from congrArg (fun c : sC => c.1) hd.1]
    refine zcx_X10_108 rfl dX10_makesBeside_17 rfl (r_joinOf g _ _ _) rfl rfl ⟨(Nat.le_of_ble_eq_true rfl), (Nat.le_of_ble_eq_true rfl)⟩ ⟨(Nat.le_of_ble_eq_true rfl), (Nat.le_of_ble_eq_true rfl)⟩ (Nat.le_of_ble_eq_true rfl) ?_
    refine z_bipush (v := -4) dX10_makesBeside_20 rfl (by decide) ?_
    refine z_icmp_eq (tgt := 36) dX10_makesBeside_22 rfl (by decide) (fun c22 => ?_) (fun c22 => ?_)
    · skip
      first | refine z_aload_n dX10_makesBeside_36 rfl rfl ?_ | refine z_aload_nN dX10_makesBeside_36 rfl rfl ?_
      refine z_iload_n dX10_makesBeside_37 rfl rfl ?_
      refine z_iconst (v := 1) dX10_makesBeside_38 rfl (by decide) ?_
      refine z_icmp_ne (tgt := 46) dX10_makesBeside_39 rfl (by decide) (fun c39 => ?_) (fun c39 => ?_)
      · skip
        refine z_iload_n dX10_makesBeside_46 rfl rfl ?_
        refine z_iload dX10_makesBeside_47 rfl rfl ?_
        first | refine zcv_X10_229 rfl dX10_makesBeside_49 rfl mo_recv (r_copiesCell g h m S q to hq hto) rfl rfl ⟨(Nat.le_of_ble_eq_true rfl), (Nat.le_of_ble_eq_true rfl)⟩ ⟨(Nat.le_of_ble_eq_true rfl), (Nat.le_of_ble_eq_true rfl)⟩ (Nat.le_of_ble_eq_true rfl) ?_ | refine zcv_X10_229 rfl dX10_makesBeside_49 rfl mo_recv (r_copiesCell g h m S p to hp hto) rfl rfl ⟨(Nat.le_of_ble_eq_true rfl), (Nat.le_of_ble_eq_true rfl)⟩ ⟨(Nat.le_of_ble_eq_true rfl), (Nat.le_of_ble_eq_true rfl)⟩ (Nat.le_of_ble_eq_true rfl) ?_
        exact z_vret dX10_makesBeside_52 rfl rfl ⟨rfl, by first | rw [hc.1, sMake, if_neg (by grind), if_neg (by grind)] | rw [hd.1, sMake, if_neg (by grind), if_pos (by grind)] | rw [sMake, if_pos (by grind)]⟩ (Nat.le_of_ble_eq_true rfl) (Nat.le_of_ble_eq_true rfl)
      · skip
        refine z_iload_n dX10_makesBeside_42 rfl rfl ?_
        refine z_goto (tgt := 47) dX10_makesBeside_43 rfl (by decide) ?_
        refine z_iload dX10_makesBeside_47 rfl rfl ?_
        first | refine zcv_X10_229 rfl dX10_makesBeside_49 rfl mo_recv (r_copiesCell g h m S q to hq hto) rfl rfl ⟨(Nat.le_of_ble_eq_true rfl), (Nat.le_of_ble_eq_true rfl)⟩ ⟨(Nat.le_of_ble_eq_true rfl), (Nat.le_of_ble_eq_true rfl)⟩ (Nat.le_of_ble_eq_true rfl) ?_ | refine zcv_X10_229 rfl dX10_makesBeside_49 rfl mo_recv (r_copiesCell g h m S p to hp hto) rfl rfl ⟨(Nat.le_of_ble_eq_true rfl), (Nat.le_of_ble_eq_true rfl)⟩ ⟨(Nat.le_of_ble_eq_true rfl), (Nat.le_of_ble_eq_true rfl)⟩ (Nat.le_of_ble_eq_true rfl) ?_
        exact z_vret dX10_makesBeside_52 rfl rfl ⟨rfl, by first | rw [hc.1, sMake, if_neg (by grind), if_neg (by grind)] | rw [hd.1, sMake, if_neg (by grind), if_pos (by grind)] | rw [sMake, if_pos (by grind)]⟩ (Nat.le_of_ble_eq_true rfl) (Nat.le_of_ble_eq_true rfl)
    · skip
      first | refine z_aload_n dX10_makesBeside_25 rfl rfl ?_ | refine z_aload_nN dX10_makesBeside_25 rfl rfl ?_
      refine z_iload_n dX10_makesBeside_26 rfl rfl ?_
      refine z_iload_n dX10_makesBeside_27 rfl rfl ?_
      refine z_iload dX10_makesBeside_28 rfl rfl ?_
      refine zcv_X10_285 rfl dX10_makesBeside_30 rfl mo_recv (r_laysMean g h m S p q to hp hq hto c d hc hd c22) rfl rfl ⟨(Nat.le_of_ble_eq_true rfl), (Nat.le_of_ble_eq_true rfl)⟩ ⟨(Nat.le_of_ble_eq_true rfl), (Nat.le_of_ble_eq_true rfl)⟩ (Nat.le_of_ble_eq_true rfl) ?_
      refine z_goto (tgt := 52) dX10_makesBeside_33 rfl (by decide) ?_
      exact z_vret dX10_makesBeside_52 rfl rfl ⟨rfl, by first | rw [hc.1, sMake, if_neg (by grind), if_neg (by grind)] | rw [hd.1, sMake, if_neg (by grind), if_pos (by grind)] | rw [sMake, if_pos (by grind)]⟩ (Nat.le_of_ble_eq_true rfl) (Nat.le_of_ble_eq_true rfl)

