theorem vu_s {α : Type} {f : Nat → α} {a : Nat} {v : α} : va_up f a v a = v := by simp [va_up]
theorem vu_n {α : Type} {f : Nat → α} {a q : Nat} {v : α} (h : q ≠ a) : va_up f a v q = f q := by simp [va_up, h]
theorem zZ_h {g : zG} {Y : zY} {Q : Array Value → List Frame → State → State → Prop} {pc : Nat} {lv : List (Nat × Value)} {st : List Value} {h : zH} {ce sl : Nat} (h' : zH) (e : h = h') (k : zZ g Y Q pc lv st h' ce sl) : zZ g Y Q pc lv st h ce sl := e ▸ k
theorem cUp_st {h : zH} {a : Nat} {k : Int32} {n : Nat} {c : Nat → sC} (hA : cAt h a k n c) (i : Nat) (v : sC) : (h.1, va_up (va_up (va_up h.2 (a + 1) (some (.inl (0, n, .inl (upd (fun i => (c i).1) i v.1))))) (a + 2) (some (.inl (1, n, .inr (.inl (vp_updL (fun i => (c i).2.1) i v.2.1)))))) (a + 3) (some (.inl (2, n, .inr (.inr (.inr (.inl (vf_upd (fun i => (c i).2.2) i v.2.2)))))))) = cUp a k n (uC c i v) h := by
  have e1 : upd (fun i => (c i).1) i v.1 = fun j => (uC c i v j).1 := by funext j; simp only [upd, uC]; split <;> rfl
  have e2 : vp_updL (fun i => (c i).2.1) i v.2.1 = fun j => (uC c i v j).2.1 := by funext j; simp only [vp_updL, uC]; split <;> rfl
  have e3 : vf_upd (fun i => (c i).2.2) i v.2.2 = fun j => (uC c i v j).2.2 := by funext j; simp only [vf_upd, uC]; split <;> rfl
  rw [e1, e2, e3]
  refine Prod.ext rfl (funext fun q => ?_)
  simp only [cUp]
  by_cases hq : a ≤ q ∧ q < a + 4
  · rw [if_pos hq]
    rcases (show q = a ∨ q = a + 1 ∨ q = a + 2 ∨ q = a + 3 by omega) with e | e | e | e <;> subst e
    · rw [vu_n (by omega), vu_n (by omega), vu_n (by omega), hA.1, Nat.sub_self]; rfl
    · rw [vu_n (by omega), vu_n (by omega), vu_s, Nat.add_sub_cancel_left]; rfl
    · rw [vu_n (by omega), vu_s, Nat.add_sub_cancel_left]; rfl
    · rw [vu_s, Nat.add_sub_cancel_left]; rfl
  · rw [if_neg hq, vu_n (by omega), vu_n (by omega), vu_n (by omega)]
theorem cUp_vu (a : Nat) (k : Int32) (n : Nat) (c : Nat → sC) (m : Nat) (f : Nat → Option zOb) (v : Option zOb) : cUp a k n c (m, va_up f a v) = cUp a k n c (m, f) := by
  refine Prod.ext rfl (funext fun q => ?_)
  simp only [cUp]
  split
  · rfl
  · rw [vu_n (by omega)]
theorem cUp_s1 (a : Nat) (k : Int32) (n : Nat) (c c' : Nat → sC) (h : zH) (hc : ∀ i, (c' i).2 = (c i).2) : ((cUp a k n c h).1, va_up (cUp a k n c h).2 (a + 1) (some (.inl (0, n, .inl (fun i => (c' i).1))))) = cUp a k n c' h := by
  refine Prod.ext rfl (funext fun q => ?_)
  by_cases e : q = a + 1
  · subst e
    show va_up (cUp a k n c h).2 (a + 1) _ (a + 1) = _
    rw [vu_s]
    simp only [cUp]
    rw [if_pos (by omega), Nat.add_sub_cancel_left]; rfl
  · show va_up (cUp a k n c h).2 (a + 1) _ q = _
    rw [vu_n e]
    simp only [cUp]
    split
    · rcases (show q = a ∨ q = a + 2 ∨ q = a + 3 by omega) with e | e | e <;> subst e
      · rw [Nat.sub_self]; rfl
      · rw [Nat.add_sub_cancel_left]; simp only [cCell, hc]; rfl
      · rw [Nat.add_sub_cancel_left]; simp only [cCell, hc]; rfl
    · rfl
def wfH (h : zH) : Prop := ∀ q, h.1 ≤ q → h.2 q = none
theorem cAt_lt {h : zH} {a : Nat} {k : Int32} {n : Nat} {c : Nat → sC} (hA : cAt h a k n c) (hw : wfH h) : a + 4 ≤ h.1 := by
  rcases Nat.lt_or_ge (a + 3) h.1 with q | q
  · omega
  · have := hw _ q
    rw [hA.2.2.2] at this
    cases this
/-- a new cell of a kind -/
def bC (k : Int32) : sC := (if 7 < k then 9 else k, 0, 0)
def cIn (k : Int32) (i : Nat) : Nat → sC := fun j => (if j < i then (bC k).1 else 0, 0, 0)
theorem cUp_new (a : Nat) (k : Int32) (n : Nat) (f : Nat → Option zOb) (F1 F2 F3 F4 : Option zOb) (I : Option zOb) (L : Option zOb) (D : Option zOb) (hI : I = some (.inl (0, n, .inl (fun _ => 0)))) (hL : L = some (.inl (1, n, .inr (.inl (fun _ => 0))))) (hD : D = some (.inl (2, n, .inr (.inr (.inr (.inl (fun _ => 0))))))) (F5 : Option zOb) (hF : F5 = some (.inr (2, [.int k, .int (nI n), .ref (a + 1), .ref (a + 2), .ref (a + 3)]))) : ((a + 1 + 1 + 1 + 1, va_up (va_up (va_up (va_up (va_up (va_up (va_up (va_up f a F1) a F2) (a + 1) I) a F3) (a + 1 + 1) L) a F4) (a + 1 + 1 + 1) D) a F5) : zH) = cUp a k n (cIn k 0) (a + 4, f) := by
  subst hI hL hD hF
  refine Prod.ext rfl (funext fun q => ?_)
  simp only [cUp]
  by_cases hq : a ≤ q ∧ q < a + 4
  · rw [if_pos hq]
    rcases (show q = a ∨ q = a + 1 ∨ q = a + 2 ∨ q = a + 3 by omega) with e | e | e | e <;> subst e
    · rw [vu_s, Nat.sub_self]; rfl
    · rw [vu_n (by omega), vu_n (by omega), vu_n (by omega), vu_n (by omega), vu_n (by omega), vu_s, Nat.add_sub_cancel_left]; simp [cCell, cIn]
    · rw [vu_n (by omega), vu_n (by omega), vu_n (by omega), vu_s, Nat.add_sub_cancel_left]; simp [cCell, cIn]
    · rw [vu_n (by omega), vu_s, Nat.add_sub_cancel_left]; simp [cCell, cIn]
  · rw [if_neg hq, vu_n (by omega), vu_n (by omega), vu_n (by omega), vu_n (by omega), vu_n (by omega), vu_n (by omega), vu_n (by omega), vu_n (by omega)]

set_option maxHeartbeats 4000000 in
set_option maxRecDepth 100000 in
/-- X3_setWhole -/
theorem m_setWhole (g : zG) (h : zH) (a : Nat) (k : Int32) (n : Nat) (c : Nat → sC) (hA : cAt h a k n c) (hn : n ≤ 40) (i : Nat) (hi : i < n) (s : Int32) (x : Int64) : zXv g yX3_setWhole cX3_setWhole 5 none rmX3_setWhole [.ref a, .int (nI i), .int s, .long x] h (cUp a k n (uC c i (s, x, 0)) h) := by
  refine zM_of (by decide) (Nat.le_of_ble_eq_true rfl) ?_
  have hA0 := hA
  obtain ⟨A0, A1, A2, A3⟩ := hA0
  first | refine z_aload_n dX3_setWhole_0 rfl rfl ?_ | refine z_aload_nN dX3_setWhole_0 rfl rfl ?_
  refine zg_X3_18 rfl dX3_setWhole_1 rfl (by assumption) rfl ?_
  refine z_iload_n dX3_setWhole_4 rfl rfl ?_
  refine z_iload_n dX3_setWhole_5 rfl rfl ?_
  refine z_iast dX3_setWhole_6 rfl (by assumption) (vp_in_nI (by omega) (by omega)) ?_
  first | refine z_aload_n dX3_setWhole_7 rfl rfl ?_ | refine z_aload_nN dX3_setWhole_7 rfl rfl ?_
  refine zg_X3_22 rfl dX3_setWhole_8 rfl ((vu_n (by omega)).trans A0) rfl ?_
  refine z_iload_n dX3_setWhole_11 rfl rfl ?_
  refine z_lload_n dX3_setWhole_12 rfl rfl ?_
  refine z_last dX3_setWhole_13 rfl ((vu_n (by omega)).trans A2) (vp_in_nI (by omega) (by omega)) ?_
  first | refine z_aload_n dX3_setWhole_14 rfl rfl ?_ | refine z_aload_nN dX3_setWhole_14 rfl rfl ?_
  refine zg_X3_26 rfl dX3_setWhole_15 rfl ((vu_n (by omega)).trans ((vu_n (by omega)).trans A0)) rfl ?_
  refine z_iload_n dX3_setWhole_18 rfl rfl ?_
  refine z_dconst0 dX3_setWhole_19 rfl ?_
  refine z_dast dX3_setWhole_20 rfl ((vu_n (by omega)).trans ((vu_n (by omega)).trans A3)) (vp_in_nI (by omega) (by omega)) ?_
  exact z_vret dX3_setWhole_21 rfl rfl ⟨rfl, by rw [nI_clamp (show i < 2 ^ 31 by omega)]; exact cUp_st hA i (s, x, 0)⟩ (Nat.le_of_ble_eq_true rfl) (Nat.le_of_ble_eq_true rfl)

set_option maxHeartbeats 4000000 in
set_option maxRecDepth 100000 in
/-- X3_setReal -/
theorem m_setReal (g : zG) (h : zH) (a : Nat) (k : Int32) (n : Nat) (c : Nat → sC) (hA : cAt h a k n c) (hn : n ≤ 40) (i : Nat) (hi : i < n) (s : Int32) (x : UInt64) : zXv g yX3_setReal cX3_setReal 5 none rmX3_setReal [.ref a, .int (nI i), .int s, .double x] h (cUp a k n (uC c i (s, 0, x)) h) := by
  refine zM_of (by decide) (Nat.le_of_ble_eq_true rfl) ?_
  have hA0 := hA
  obtain ⟨A0, A1, A2, A3⟩ := hA0
  first | refine z_aload_n dX3_setReal_0 rfl rfl ?_ | refine z_aload_nN dX3_setReal_0 rfl rfl ?_
  refine zg_X3_18 rfl dX3_setReal_1 rfl (by assumption) rfl ?_
  refine z_iload_n dX3_setReal_4 rfl rfl ?_
  refine z_iload_n dX3_setReal_5 rfl rfl ?_
  refine z_iast dX3_setReal_6 rfl (by assumption) (vp_in_nI (by omega) (by omega)) ?_
  first | refine z_aload_n dX3_setReal_7 rfl rfl ?_ | refine z_aload_nN dX3_setReal_7 rfl rfl ?_
  refine zg_X3_22 rfl dX3_setReal_8 rfl ((vu_n (by omega)).trans A0) rfl ?_
  refine z_iload_n dX3_setReal_11 rfl rfl ?_
  refine z_lconst (v := 0) dX3_setReal_12 rfl (by decide) ?_
  refine z_last dX3_setReal_13 rfl ((vu_n (by omega)).trans A2) (vp_in_nI (by omega) (by omega)) ?_
  first | refine z_aload_n dX3_setReal_14 rfl rfl ?_ | refine z_aload_nN dX3_setReal_14 rfl rfl ?_
  refine zg_X3_26 rfl dX3_setReal_15 rfl ((vu_n (by omega)).trans ((vu_n (by omega)).trans A0)) rfl ?_
  refine z_iload_n dX3_setReal_18 rfl rfl ?_
  refine z_dload_n dX3_setReal_19 rfl rfl ?_
  refine z_dast dX3_setReal_20 rfl ((vu_n (by omega)).trans ((vu_n (by omega)).trans A3)) (vp_in_nI (by omega) (by omega)) ?_
  exact z_vret dX3_setReal_21 rfl rfl ⟨rfl, by rw [nI_clamp (show i < 2 ^ 31 by omega)]; exact cUp_st hA i (s, 0, x)⟩ (Nat.le_of_ble_eq_true rfl) (Nat.le_of_ble_eq_true rfl)

def whOf (s : Int32) (v : Int64) : Int64 := if s = 0 then v &&& 1 else if s = 1 then v.toInt32.toInt8.toInt32.toInt64 else if s = 2 then (v.toInt32.toUInt32 % 65536).toInt32.toInt64 else if s = 3 then v.toInt32.toInt16.toInt32.toInt64 else if s = 4 then v.toInt32.toInt64 else if s = 9 then 0 else if s = 10 then (if v ^^^ 5 < 0 ∧ v - v / 5 * 5 ≠ 0 then v - v / 5 * 5 + 5 else v - v / 5 * 5) else v

set_option maxHeartbeats 4000000 in
set_option maxRecDepth 100000 in
/-- X3_wholeOf -/
theorem m_wholeOf (g : zG) (h : zH) (s : Int32) (v : Int64) : zX g yX3_wholeOf cX3_wholeOf 3 (some .long) rmX3_wholeOf [.int s, .long v] h (.long (whOf s v)) h := by
  refine zM_of (by decide) (Nat.le_of_ble_eq_true rfl) ?_
  refine z_iload_n dX3_wholeOf_0 rfl rfl ?_
  refine z_sw10 (fun s1 => ?_) (fun s1 => ?_) (fun s1 => ?_) (fun s1 => ?_) (fun s1 => ?_) (fun s1 => ?_) (fun s1 => ?_) (fun s1 => ?_) (fun s1 => ?_) (fun s1 => ?_) (fun s1 => ?_) (fun s1 => ?_)
  · skip
    refine z_tableOut (tgt := 93) dX3_wholeOf_1 rfl (sw_out s1) (by decide) ?_
    refine z_lload_n dX3_wholeOf_93 rfl rfl ?_
    exact z_lret dX3_wholeOf_94 rfl rfl ⟨by grind [whOf], rfl⟩ (Nat.le_of_ble_eq_true rfl) (Nat.le_of_ble_eq_true rfl)
  · skip
    refine z_tableIn (off := 59) (tgt := 60) dX3_wholeOf_1 rfl (by decide) (by decide) (by decide) (by decide) ?_
    refine z_lload_n dX3_wholeOf_60 rfl rfl ?_
    refine z_lconst (v := 1) dX3_wholeOf_61 rfl (by decide) ?_
    refine z_land dX3_wholeOf_62 rfl ?_
    exact z_lret dX3_wholeOf_63 rfl rfl ⟨by grind [whOf], rfl⟩ (Nat.le_of_ble_eq_true rfl) (Nat.le_of_ble_eq_true rfl)
  · skip
    refine z_tableIn (off := 63) (tgt := 64) dX3_wholeOf_1 rfl (by decide) (by decide) (by decide) (by decide) ?_
    refine z_lload_n dX3_wholeOf_64 rfl rfl ?_
    refine z_l2i dX3_wholeOf_65 rfl ?_
    refine z_i2b dX3_wholeOf_66 rfl ?_
    refine z_i2l dX3_wholeOf_67 rfl ?_
    exact z_lret dX3_wholeOf_68 rfl rfl ⟨by grind [whOf], rfl⟩ (Nat.le_of_ble_eq_true rfl) (Nat.le_of_ble_eq_true rfl)
  · skip
    refine z_tableIn (off := 68) (tgt := 69) dX3_wholeOf_1 rfl (by decide) (by decide) (by decide) (by decide) ?_
    refine z_lload_n dX3_wholeOf_69 rfl rfl ?_
    refine z_l2i dX3_wholeOf_70 rfl ?_
    refine z_i2c dX3_wholeOf_71 rfl ?_
    refine z_i2l dX3_wholeOf_72 rfl ?_
    exact z_lret dX3_wholeOf_73 rfl rfl ⟨by grind [whOf], rfl⟩ (Nat.le_of_ble_eq_true rfl) (Nat.le_of_ble_eq_true rfl)
  · skip
    refine z_tableIn (off := 73) (tgt := 74) dX3_wholeOf_1 rfl (by decide) (by decide) (by decide) (by decide) ?_
    refine z_lload_n dX3_wholeOf_74 rfl rfl ?_
    refine z_l2i dX3_wholeOf_75 rfl ?_
    refine z_i2s dX3_wholeOf_76 rfl ?_
    refine z_i2l dX3_wholeOf_77 rfl ?_
    exact z_lret dX3_wholeOf_78 rfl rfl ⟨by grind [whOf], rfl⟩ (Nat.le_of_ble_eq_true rfl) (Nat.le_of_ble_eq_true rfl)
  · skip
    refine z_tableIn (off := 78) (tgt := 79) dX3_wholeOf_1 rfl (by decide) (by decide) (by decide) (by decide) ?_
    refine z_lload_n dX3_wholeOf_79 rfl rfl ?_
    refine z_l2i dX3_wholeOf_80 rfl ?_
    refine z_i2l dX3_wholeOf_81 rfl ?_
    exact z_lret dX3_wholeOf_82 rfl rfl ⟨by grind [whOf], rfl⟩ (Nat.le_of_ble_eq_true rfl) (Nat.le_of_ble_eq_true rfl)
  · skip
    refine z_tableIn (off := 92) (tgt := 93) dX3_wholeOf_1 rfl (by decide) (by decide) (by decide) (by decide) ?_
    refine z_lload_n dX3_wholeOf_93 rfl rfl ?_
    exact z_lret dX3_wholeOf_94 rfl rfl ⟨by grind [whOf], rfl⟩ (Nat.le_of_ble_eq_true rfl) (Nat.le_of_ble_eq_true rfl)
  · skip
    refine z_tableIn (off := 92) (tgt := 93) dX3_wholeOf_1 rfl (by decide) (by decide) (by decide) (by decide) ?_
    refine z_lload_n dX3_wholeOf_93 rfl rfl ?_
    exact z_lret dX3_wholeOf_94 rfl rfl ⟨by grind [whOf], rfl⟩ (Nat.le_of_ble_eq_true rfl) (Nat.le_of_ble_eq_true rfl)
  · skip
    refine z_tableIn (off := 92) (tgt := 93) dX3_wholeOf_1 rfl (by decide) (by decide) (by decide) (by decide) ?_
    refine z_lload_n dX3_wholeOf_93 rfl rfl ?_
    exact z_lret dX3_wholeOf_94 rfl rfl ⟨by grind [whOf], rfl⟩ (Nat.le_of_ble_eq_true rfl) (Nat.le_of_ble_eq_true rfl)
  · skip
    refine z_tableIn (off := 92) (tgt := 93) dX3_wholeOf_1 rfl (by decide) (by decide) (by decide) (by decide) ?_
    refine z_lload_n dX3_wholeOf_93 rfl rfl ?_
    exact z_lret dX3_wholeOf_94 rfl rfl ⟨by grind [whOf], rfl⟩ (Nat.le_of_ble_eq_true rfl) (Nat.le_of_ble_eq_true rfl)
  · skip
    refine z_tableIn (off := 82) (tgt := 83) dX3_wholeOf_1 rfl (by decide) (by decide) (by decide) (by decide) ?_
    refine z_lconst (v := 0) dX3_wholeOf_83 rfl (by decide) ?_
    exact z_lret dX3_wholeOf_84 rfl rfl ⟨by grind [whOf], rfl⟩ (Nat.le_of_ble_eq_true rfl) (Nat.le_of_ble_eq_true rfl)
  · skip
    refine z_tableIn (off := 84) (tgt := 85) dX3_wholeOf_1 rfl (by decide) (by decide) (by decide) (by decide) ?_
    refine z_lload_n dX3_wholeOf_85 rfl rfl ?_
    refine zk_X3_52 rfl dX3_wholeOf_86 rfl ?_
    refine zcx_X3_54 rfl dX3_wholeOf_89 rfl (j_fmod g h _ _ (by decide)) rfl rfl ⟨(Nat.le_of_ble_eq_true rfl), (Nat.le_of_ble_eq_true rfl)⟩ ⟨(Nat.le_of_ble_eq_true rfl), (Nat.le_of_ble_eq_true rfl)⟩ (Nat.le_of_ble_eq_true rfl) ?_
    exact z_lret dX3_wholeOf_92 rfl rfl ⟨by grind [whOf], rfl⟩ (Nat.le_of_ble_eq_true rfl) (Nat.le_of_ble_eq_true rfl)

theorem i2c_and (x : Int32) : (x.toUInt32 % 65536).toInt32 = x &&& 65535 := by
  apply Int32.toBitVec_inj.mp
  apply BitVec.eq_of_toNat_eq
  have h1 : ((x.toUInt32 % 65536).toInt32).toBitVec.toNat = x.toBitVec.toNat % 65536 := rfl
  have h2 : (x &&& 65535).toBitVec = x.toBitVec &&& 65535#32 := rfl
  rw [h1, h2, BitVec.toNat_and]
  exact (Nat.and_two_pow_sub_one_eq_mod x.toBitVec.toNat 16).symm
theorem and_16 (y : Int64) : y.toInt32.toInt64 &&& 65535 = y &&& 65535 := by
  apply Int64.toBitVec_inj.mp
  apply BitVec.eq_of_toNat_eq
  have h1 : (y.toInt32.toInt64 &&& 65535).toBitVec = (y.toBitVec.signExtend 32).signExtend 64 &&& 65535#64 := rfl
  have h2 : (y &&& 65535).toBitVec = y.toBitVec &&& 65535#64 := rfl
  rw [h1, h2, BitVec.toNat_and, BitVec.toNat_and]
  have e : ∀ z : Nat, z &&& (65535#64).toNat = z % 65536 := fun z => Nat.and_two_pow_sub_one_eq_mod z 16
  rw [e, e, BitVec.toNat_signExtend]
  have h3 : (BitVec.signExtend 32 y.toBitVec).toNat = y.toBitVec.toNat % 4294967296 := by
    rw [BitVec.signExtend_eq_setWidth_of_le _ (by decide), BitVec.toNat_setWidth]
  have h4 : (BitVec.setWidth 64 (BitVec.signExtend 32 y.toBitVec)).toNat = y.toBitVec.toNat % 4294967296 := by
    rw [BitVec.toNat_setWidth, h3, Nat.mod_eq_of_lt]
    have := Nat.mod_lt y.toBitVec.toNat (show 4294967296 > 0 by decide)
    omega
  rw [h4]
  split <;> omega
theorem and1_64 (v : Int32) : v.toInt64 &&& 1 = (v &&& 1).toInt64 := (Int32.toInt64_and v 1).symm
theorem rem5_32 (v : Int32) : (v - v / 5 * 5).toInt = v.toInt.tmod 5 := by
  have hb := Int32.toInt_lt v
  have hl := Int32.le_toInt v
  have e0 := Int.tmod_add_tdiv_mul v.toInt 5
  have q1 : v.toInt.tdiv 5 ≤ 2147483647 ∧ -2147483648 ≤ v.toInt.tdiv 5 ∧ v.toInt.tdiv 5 * 5 ≤ 2147483647 ∧ -2147483648 ≤ v.toInt.tdiv 5 * 5 ∧ v.toInt.tmod 5 < 5 ∧ -5 < v.toInt.tmod 5 := by
    have a := Int.tmod_lt_of_pos v.toInt (show (0 : Int) < 5 by decide)
    have b := Int.lt_tmod_of_pos v.toInt (show (0 : Int) < 5 by decide) 
    have s1 : 0 ≤ v.toInt → 0 ≤ v.toInt.tmod 5 := fun h => Int.tmod_nonneg _ h
    have s2 : v.toInt < 0 → v.toInt.tmod 5 ≤ 0 := fun h => by
      have := Int.tmod_nonneg (a := -v.toInt) 5 (by omega)
      rw [Int.neg_tmod] at this
      omega
    refine ⟨by omega, by omega, by omega, by omega, a, b⟩
  have e1 : (v / 5).toInt = v.toInt.tdiv 5 := by
    rw [Int32.toInt_div, show (5 : Int32).toInt = 5 from rfl]
    exact Int.bmod_eq_of_le (by omega) (by omega)
  have e2 : (v / 5 * 5).toInt = v.toInt.tdiv 5 * 5 := by
    rw [Int32.toInt_mul, e1, show (5 : Int32).toInt = 5 from rfl]
    exact Int.bmod_eq_of_le (by omega) (by omega)
  rw [Int32.toInt_sub, e2]
  rw [show v.toInt - v.toInt.tdiv 5 * 5 = v.toInt.tmod 5 by omega]
  exact Int.bmod_eq_of_le (by omega) (by omega)
theorem rem5_64 (v : Int64) : (v - v / 5 * 5).toInt = v.toInt.tmod 5 := by
  have hb := Int64.toInt_lt v
  have hl := Int64.le_toInt v
  have e0 := Int.tmod_add_tdiv_mul v.toInt 5
  have q1 : v.toInt.tdiv 5 ≤ 9223372036854775807 ∧ -9223372036854775808 ≤ v.toInt.tdiv 5 ∧ v.toInt.tdiv 5 * 5 ≤ 9223372036854775807 ∧ -9223372036854775808 ≤ v.toInt.tdiv 5 * 5 ∧ v.toInt.tmod 5 < 5 ∧ -5 < v.toInt.tmod 5 := by
    have a := Int.tmod_lt_of_pos v.toInt (show (0 : Int) < 5 by decide)
    have b := Int.lt_tmod_of_pos v.toInt (show (0 : Int) < 5 by decide)
    have s1 : 0 ≤ v.toInt → 0 ≤ v.toInt.tmod 5 := fun h => Int.tmod_nonneg _ h
    have s2 : v.toInt < 0 → v.toInt.tmod 5 ≤ 0 := fun h => by
      have := Int.tmod_nonneg (a := -v.toInt) 5 (by omega)
      rw [Int.neg_tmod] at this
      omega
    refine ⟨by omega, by omega, by omega, by omega, a, b⟩
  have e1 : (v / 5).toInt = v.toInt.tdiv 5 := by
    rw [Int64.toInt_div, show (5 : Int64).toInt = 5 from rfl]
    exact Int.bmod_eq_of_le (by omega) (by omega)
  have e2 : (v / 5 * 5).toInt = v.toInt.tdiv 5 * 5 := by
    rw [Int64.toInt_mul, e1, show (5 : Int64).toInt = 5 from rfl]
    exact Int.bmod_eq_of_le (by omega) (by omega)
  rw [Int64.toInt_sub, e2]
  rw [show v.toInt - v.toInt.tdiv 5 * 5 = v.toInt.tmod 5 by omega]
  exact Int.bmod_eq_of_le (by omega) (by omega)
theorem fmod_5 (v : Int32) : (if v.toInt64 ^^^ 5 < 0 ∧ v.toInt64 - v.toInt64 / 5 * 5 ≠ 0 then v.toInt64 - v.toInt64 / 5 * 5 + 5 else v.toInt64 - v.toInt64 / 5 * 5) = ((v - v / 5 * 5 + 5) - (v - v / 5 * 5 + 5) / 5 * 5).toInt64 := by
  have ex : (v.toInt64 ^^^ 5 < 0) ↔ v.toInt < 0 := by
    rw [Int64.lt_iff_toInt_lt, show (0 : Int64).toInt = 0 from rfl]
    have h1 : (v.toInt64 ^^^ 5).toInt = (v.toInt64.toBitVec ^^^ 5#64).toInt := rfl
    have h2 : v.toInt64.toBitVec.toInt = v.toInt := Int32.toInt_toInt64 v
    have m1 := BitVec.msb_eq_toInt (x := v.toInt64.toBitVec ^^^ 5#64)
    have m2 := BitVec.msb_eq_toInt (x := v.toInt64.toBitVec)
    rw [BitVec.msb_xor, show (5#64).msb = false from by decide, Bool.xor_false, m2, h2] at m1
    rw [h1]
    have := decide_eq_decide.mp m1
    exact this.symm
  have e64 : (v.toInt64 - v.toInt64 / 5 * 5).toInt = v.toInt.tmod 5 := by rw [rem5_64, Int32.toInt_toInt64]
  have e32 := rem5_32 v
  have a := Int.tmod_lt_of_pos v.toInt (show (0 : Int) < 5 by decide)
  have b := Int.lt_tmod_of_pos v.toInt (show (0 : Int) < 5 by decide)
  have e5 : (v - v / 5 * 5 + 5).toInt = v.toInt.tmod 5 + 5 := by
    rw [Int32.toInt_add, e32, show (5 : Int32).toInt = 5 from rfl]
    exact Int.bmod_eq_of_le (by omega) (by omega)
  have sg : (0 ≤ v.toInt → 0 ≤ v.toInt.tmod 5) ∧ (v.toInt < 0 → v.toInt.tmod 5 ≤ 0) := ⟨fun h => Int.tmod_nonneg _ h, fun h => by
    have := Int.tmod_nonneg (a := -v.toInt) 5 (by omega)
    rw [Int.neg_tmod] at this
    omega⟩
  apply Int64.toInt_inj.mp
  rw [Int32.toInt_toInt64, rem5_32, e5]
  generalize hr : v.toInt.tmod 5 = r at *
  have hz : (v.toInt64 - v.toInt64 / 5 * 5 = 0) ↔ r = 0 := by
    rw [← e64]
    exact ⟨fun q => by rw [q]; rfl, fun q => Int64.toInt_inj.mp (by rw [q]; rfl)⟩
  by_cases hc : v.toInt64 ^^^ 5 < 0 ∧ v.toInt64 - v.toInt64 / 5 * 5 ≠ 0
  · rw [if_pos hc, Int64.toInt_add, e64, show (5 : Int64).toInt = 5 from rfl]
    have n1 := ex.mp hc.1
    have n2 : r ≠ 0 := fun q => hc.2 (hz.mpr q)
    have := sg.2 n1
    rw [Int.bmod_eq_of_le (by omega) (by omega), Int.tmod_eq_of_lt (by omega) (by omega)]
  · rw [if_neg hc, e64]
    by_cases n0 : r = 0
    · rw [n0]; decide
    · have n1 : ¬ v.toInt < 0 := fun q => hc ⟨ex.mpr q, fun z => n0 (hz.mp z)⟩
      have := sg.1 (by omega)
      have e : (r + 5).tmod 5 = r := by
        rw [Int.tmod_eq_emod_of_nonneg (by omega)]; omega
      rw [e]
theorem whOf_val (s v : Int32) (h6 : s ≠ 6) (h7 : s ≠ 7) : ((s, whOf s v.toInt64, 0) : sC) = sVal s v := by
  unfold sVal whOf
  rw [fmod_5, and1_64, Int32.toInt32_toInt64, i2c_and]
  by_cases e0 : s = 0
  · rw [if_pos e0, if_pos e0]
  rw [if_neg e0, if_neg e0]
  by_cases e1 : s = 1
  · rw [if_pos e1, if_pos e1]
  rw [if_neg e1, if_neg e1]
  by_cases e2 : s = 2
  · rw [if_pos e2, if_pos e2]
  rw [if_neg e2, if_neg e2]
  by_cases e3 : s = 3
  · rw [if_pos e3, if_pos e3]
  rw [if_neg e3, if_neg e3, if_neg h6, if_neg h7]
  by_cases e4 : s = 4
  · rw [if_pos e4, if_neg (by rw [e4]; decide), if_neg (by rw [e4]; decide)]
  rw [if_neg e4]
  by_cases e9 : s = 9
  · rw [if_pos e9, if_pos e9]
  rw [if_neg e9, if_neg e9]
  by_cases e10 : s = 10
  · rw [if_pos e10, if_pos e10]
  rw [if_neg e10, if_neg e10]
theorem whOf_str {c : sC} (h : sOk c) (h6 : c.1 ≠ 6) (h7 : c.1 ≠ 7) (hn : c.1 ≤ 7) : ((c.1, whOf c.1 (c.2.1 + 1), 0) : sC) = sStray c := by
  have h5 := h.2.2.2.2.1 h6 h7
  unfold sStray whOf
  rw [if_neg h6, if_neg h7, h5, i2c_and]
  refine Prod.ext rfl (Prod.ext ?_ rfl)
  show (if c.1 = 0 then _ else _) = (if c.1 = 0 then _ else _)
  by_cases e0 : c.1 = 0
  · rw [if_pos e0, if_pos e0]
    rcases h.2.2.2.2.2.1 e0 with z | z <;> rw [z] <;> decide
  rw [if_neg e0, if_neg e0]
  by_cases e1 : c.1 = 1
  · rw [if_pos e1, if_pos e1]
  rw [if_neg e1, if_neg e1]
  by_cases e2 : c.1 = 2
  · rw [if_pos e2, if_pos e2, Int32.toInt64_and]
    exact and_16 _
  rw [if_neg e2, if_neg e2]
  by_cases e3 : c.1 = 3
  · rw [if_pos e3, if_pos e3]
  rw [if_neg e3, if_neg e3]
  by_cases e4 : c.1 = 4
  · rw [if_pos e4, if_pos e4]
  rw [if_neg e4, if_neg e4, if_neg (by intro z; rw [z] at hn; exact absurd hn (by decide)), if_neg (by intro z; rw [z] at hn; exact absurd hn (by decide)), if_pos (by have := h.1; grind)]

