def nxt (x : Int32) : Int32 := x * 1103515245 + 12345
def drw (x : Int32) : Int32 := (x >>> 16) &&& 32767
def wy (x : Int32) : Int32 := drw x - drw x / 8 * 8
/-- a cell strays by one -/
def sStray (c : sC) : sC := (c.1, if c.1 = 0 then 1 - c.2.1 else if c.1 = 1 then (c.2.1 + 1).toInt32.toInt8.toInt32.toInt64 else if c.1 = 2 then (c.2.1 + 1) &&& 65535 else if c.1 = 3 then (c.2.1 + 1).toInt32.toInt16.toInt32.toInt64 else if c.1 = 4 then (c.2.1 + 1).toInt32.toInt64 else if c.1 = 5 then c.2.1 + 1 else c.2.1, if c.1 = 6 then FP.f2d (FP.fadd (FP.d2f c.2.2) FP.fconst1) else if c.1 = 7 then FP.dadd c.2.2 FP.dconst1 else c.2.2)
def logC (c : sC) (y : Int32) : List sC := if y = 0 then [] else if y = 1 then [c, c] else if y = 2 then [sStray c] else [c]
def logL : List sC → Int32 → List sC
  | [], _ => []
  | c :: T, x => logC c (wy (nxt x)) ++ logL T (nxt x)
def logF (R : sR) (s : Nat) (kind : Int32) : Int32 := if 0 < rowF R s then rowF R s else readF R s kind
/-- 28 -/
def pLog (w : sW) (r s kind seed : Int32) : Int32 × sW :=
  if ¬ isRec r ∨ ¬ isRec s ∨ ¬ sNum kind then (-1, w)
  else if 0 < logF w.1 (ix s) kind then (-10 - logF w.1 (ix s) kind, w)
  else if 20 < (logL (w.1.2.1 (ix s)).2 seed).length then (-3, w)
  else (nI (logL (w.1.2.1 (ix s)).2 seed).length, wR w (rNew w.1 (ix r) (kind, (logL (w.1.2.1 (ix s)).2 seed).map (fun c => sConv c kind))))
theorem upd_id (f : Nat → Int32) (k : Nat) : upd f k (f k) = f := by funext j; simp only [upd]; split <;> simp_all
theorem updL_id (f : Nat → Int64) (k : Nat) : vp_updL f k (f k) = f := by funext j; simp only [vp_updL]; split <;> simp_all
theorem updF_id (f : Nat → UInt64) (k : Nat) : vf_upd f k (f k) = f := by funext j; simp only [vf_upd]; split <;> simp_all
theorem vaup_id (f : Nat → Nat → Int32) (k : Nat) : va_up f k (f k) = f := by funext j; simp only [va_up]; split <;> simp_all
theorem mLay_n (S : sMS) (k : Nat) (x : Int64) : (S.1, vp_updL S.2.1 k x, S.2.2) = mLay S k (S.1 1 k, x, S.2.2.1 k) := by
  simp only [mLay, upd_id, updF_id, vaup_id]
theorem mLay_f (S : sMS) (k : Nat) (x : UInt64) : (S.1, S.2.1, vf_upd S.2.2.1 k x, S.2.2.2) = mLay S k (S.1 1 k, S.2.1 k, x) := by
  simp only [mLay, upd_id, updL_id, vaup_id]
theorem mLay_lay (S : sMS) (k : Nat) (c d : sC) : mLay (mLay S k c) k d = mLay S k d := by
  have e1 : ∀ (f : Nat → Int32) (x y : Int32), upd (upd f k x) k y = upd f k y := fun f x y => by funext j; simp only [upd]; split <;> rfl
  have e2 : ∀ (f : Nat → Int64) (x y : Int64), vp_updL (vp_updL f k x) k y = vp_updL f k y := fun f x y => by funext j; simp only [vp_updL]; split <;> rfl
  have e3 : ∀ (f : Nat → UInt64) (x y : UInt64), vf_upd (vf_upd f k x) k y = vf_upd f k y := fun f x y => by funext j; simp only [vf_upd]; split <;> rfl
  have e4 : ∀ (f : Nat → Nat → Int32) (x y : Nat → Int32), va_up (va_up f 1 x) 1 y = va_up f 1 y := fun f x y => by funext j; simp only [va_up]; split <;> rfl
  simp only [mLay, e2, e3, e4]
  rw [show (va_up S.1 1 (upd (S.1 1) k c.1)) 1 = upd (S.1 1) k c.1 from by simp [va_up], e1]

set_option maxHeartbeats 800000 in
set_option maxRecDepth 100000 in
/-- X10_strays -/
theorem r_strays (g : zG) (h : zH) (m : Nat) (S : sMS) (p : Nat) (hp : p < 880) (c : sC) (hc : mc S p = c) (ho : sOk c) (h7 : c.1 ≤ 7) : zXv g yX10_strays cX10_strays 5 none rmX10_strays [.ref m, .int (nI p)] (mUp m S h) (mUp m (mLay S p (sStray c)) h) := by
  refine zM_of (by decide) (Nat.le_of_ble_eq_true rfl) ?_
  first | refine z_aload_n dX10_strays_0 rfl rfl ?_ | refine z_aload_nN dX10_strays_0 rfl rfl ?_
  refine zmg_7 rfl dX10_strays_1 rfl ?_
  refine z_iload_n dX10_strays_4 rfl rfl ?_
  refine zm_iald dX10_strays_5 rfl rfl (vp_in_nI hp (by decide)) ?_
  rw [nI_clamp (show p < 2 ^ 31 by omega), show S.1 1 p = c.1 from congrArg (fun c : sC => c.1) hc]
  refine z_istore_n dX10_strays_6 rfl (Nat.le_of_ble_eq_true rfl) ?_
  first | refine z_aload_n dX10_strays_7 rfl rfl ?_ | refine z_aload_nN dX10_strays_7 rfl rfl ?_
  refine zmg_13 rfl dX10_strays_8 rfl ?_
  refine z_iload_n dX10_strays_11 rfl rfl ?_
  refine zm_lald dX10_strays_12 rfl rfl (vp_in_nI hp (by decide)) ?_
  rw [nI_clamp (show p < 2 ^ 31 by omega), show S.2.1 p = c.2.1 from congrArg (fun c : sC => c.2.1) hc]
  refine z_lconst (v := 1) dX10_strays_13 rfl (by decide) ?_
  refine z_ladd dX10_strays_14 rfl ?_
  refine z_lstore_n dX10_strays_15 rfl (Nat.le_of_ble_eq_true rfl) ?_
  refine z_iload_n dX10_strays_16 rfl rfl ?_
  refine z_sw6 (fun s17 => ?_) (fun s17 => ?_) (fun s17 => ?_) (fun s17 => ?_) (fun s17 => ?_) (fun s17 => ?_) (fun s17 => ?_) (fun s17 => ?_)
  · skip
    refine z_tableOut (tgt := 158) dX10_strays_17 rfl (sw_out s17) (by decide) ?_
    first | refine z_aload_n dX10_strays_158 rfl rfl ?_ | refine z_aload_nN dX10_strays_158 rfl rfl ?_
    refine zmg_17 rfl dX10_strays_159 rfl ?_
    refine z_iload_n dX10_strays_162 rfl rfl ?_
    first | refine z_aload_n dX10_strays_163 rfl rfl ?_ | refine z_aload_nN dX10_strays_163 rfl rfl ?_
    refine zmg_17 rfl dX10_strays_164 rfl ?_
    refine z_iload_n dX10_strays_167 rfl rfl ?_
    refine zm_dald dX10_strays_168 rfl rfl (vp_in_nI hp (by decide)) ?_
    rw [nI_clamp (show p < 2 ^ 31 by omega), show S.2.2.1 p = c.2.2 from congrArg (fun c : sC => c.2.2) hc]
    have s7 : c.1 = 7 := by have := ho.1; grind
    have h7b := ho.2.2.2.1 s7
    refine z_dconst1 dX10_strays_169 rfl ?_
    refine z_dadd dX10_strays_170 rfl (fpD_n (okD_inc h7b.2).1) ?_
    refine zm_dast dX10_strays_171 rfl rfl (vp_in_nI hp (by decide)) ?_
    exact z_vret dX10_strays_172 rfl rfl ⟨rfl, by rw [nI_clamp (show p < 2 ^ 31 by omega)]; (first | rw [mLay_n] | rw [mLay_f]); exact congrArg (fun x => mUp m (mLay S p x) h) (by subst hc; have := ho.1; simp only [mc] at *; grind [sStray])⟩ (Nat.le_of_ble_eq_true rfl) (Nat.le_of_ble_eq_true rfl)
  · skip
    refine z_tableIn (off := 43) (tgt := 60) dX10_strays_17 rfl (by decide) (by decide) (by decide) (by decide) ?_
    first | refine z_aload_n dX10_strays_60 rfl rfl ?_ | refine z_aload_nN dX10_strays_60 rfl rfl ?_
    refine zmg_13 rfl dX10_strays_61 rfl ?_
    refine z_iload_n dX10_strays_64 rfl rfl ?_
    refine z_lconst (v := 1) dX10_strays_65 rfl (by decide) ?_
    first | refine z_aload_n dX10_strays_66 rfl rfl ?_ | refine z_aload_nN dX10_strays_66 rfl rfl ?_
    refine zmg_13 rfl dX10_strays_67 rfl ?_
    refine z_iload_n dX10_strays_70 rfl rfl ?_
    refine zm_lald dX10_strays_71 rfl rfl (vp_in_nI hp (by decide)) ?_
    rw [nI_clamp (show p < 2 ^ 31 by omega), show S.2.1 p = c.2.1 from congrArg (fun c : sC => c.2.1) hc]
    refine z_lsub dX10_strays_72 rfl ?_
    refine zm_last dX10_strays_73 rfl rfl (vp_in_nI hp (by decide)) ?_
    refine z_goto (tgt := 172) dX10_strays_74 rfl (by decide) ?_
    exact z_vret dX10_strays_172 rfl rfl ⟨rfl, by rw [nI_clamp (show p < 2 ^ 31 by omega)]; (first | rw [mLay_n] | rw [mLay_f]); exact congrArg (fun x => mUp m (mLay S p x) h) (by subst hc; have := ho.1; simp only [mc] at *; grind [sStray])⟩ (Nat.le_of_ble_eq_true rfl) (Nat.le_of_ble_eq_true rfl)
  · skip
    refine z_tableIn (off := 60) (tgt := 77) dX10_strays_17 rfl (by decide) (by decide) (by decide) (by decide) ?_
    first | refine z_aload_n dX10_strays_77 rfl rfl ?_ | refine z_aload_nN dX10_strays_77 rfl rfl ?_
    refine zmg_13 rfl dX10_strays_78 rfl ?_
    refine z_iload_n dX10_strays_81 rfl rfl ?_
    refine z_lload_n dX10_strays_82 rfl rfl ?_
    refine z_l2i dX10_strays_83 rfl ?_
    refine z_i2b dX10_strays_84 rfl ?_
    refine z_i2l dX10_strays_85 rfl ?_
    refine zm_last dX10_strays_86 rfl rfl (vp_in_nI hp (by decide)) ?_
    refine z_goto (tgt := 172) dX10_strays_87 rfl (by decide) ?_
    exact z_vret dX10_strays_172 rfl rfl ⟨rfl, by rw [nI_clamp (show p < 2 ^ 31 by omega)]; (first | rw [mLay_n] | rw [mLay_f]); exact congrArg (fun x => mUp m (mLay S p x) h) (by subst hc; have := ho.1; simp only [mc] at *; grind [sStray])⟩ (Nat.le_of_ble_eq_true rfl) (Nat.le_of_ble_eq_true rfl)
  · skip
    refine z_tableIn (off := 73) (tgt := 90) dX10_strays_17 rfl (by decide) (by decide) (by decide) (by decide) ?_
    first | refine z_aload_n dX10_strays_90 rfl rfl ?_ | refine z_aload_nN dX10_strays_90 rfl rfl ?_
    refine zmg_13 rfl dX10_strays_91 rfl ?_
    refine z_iload_n dX10_strays_94 rfl rfl ?_
    refine z_lload_n dX10_strays_95 rfl rfl ?_
    refine zk_X10_312 rfl dX10_strays_96 rfl ?_
    refine z_land dX10_strays_99 rfl ?_
    refine zm_last dX10_strays_100 rfl rfl (vp_in_nI hp (by decide)) ?_
    refine z_goto (tgt := 172) dX10_strays_101 rfl (by decide) ?_
    exact z_vret dX10_strays_172 rfl rfl ⟨rfl, by rw [nI_clamp (show p < 2 ^ 31 by omega)]; (first | rw [mLay_n] | rw [mLay_f]); exact congrArg (fun x => mUp m (mLay S p x) h) (by subst hc; have := ho.1; simp only [mc] at *; grind [sStray])⟩ (Nat.le_of_ble_eq_true rfl) (Nat.le_of_ble_eq_true rfl)
  · skip
    refine z_tableIn (off := 87) (tgt := 104) dX10_strays_17 rfl (by decide) (by decide) (by decide) (by decide) ?_
    first | refine z_aload_n dX10_strays_104 rfl rfl ?_ | refine z_aload_nN dX10_strays_104 rfl rfl ?_
    refine zmg_13 rfl dX10_strays_105 rfl ?_
    refine z_iload_n dX10_strays_108 rfl rfl ?_
    refine z_lload_n dX10_strays_109 rfl rfl ?_
    refine z_l2i dX10_strays_110 rfl ?_
    refine z_i2s dX10_strays_111 rfl ?_
    refine z_i2l dX10_strays_112 rfl ?_
    refine zm_last dX10_strays_113 rfl rfl (vp_in_nI hp (by decide)) ?_
    refine z_goto (tgt := 172) dX10_strays_114 rfl (by decide) ?_
    exact z_vret dX10_strays_172 rfl rfl ⟨rfl, by rw [nI_clamp (show p < 2 ^ 31 by omega)]; (first | rw [mLay_n] | rw [mLay_f]); exact congrArg (fun x => mUp m (mLay S p x) h) (by subst hc; have := ho.1; simp only [mc] at *; grind [sStray])⟩ (Nat.le_of_ble_eq_true rfl) (Nat.le_of_ble_eq_true rfl)
  · skip
    refine z_tableIn (off := 100) (tgt := 117) dX10_strays_17 rfl (by decide) (by decide) (by decide) (by decide) ?_
    first | refine z_aload_n dX10_strays_117 rfl rfl ?_ | refine z_aload_nN dX10_strays_117 rfl rfl ?_
    refine zmg_13 rfl dX10_strays_118 rfl ?_
    refine z_iload_n dX10_strays_121 rfl rfl ?_
    refine z_lload_n dX10_strays_122 rfl rfl ?_
    refine z_l2i dX10_strays_123 rfl ?_
    refine z_i2l dX10_strays_124 rfl ?_
    refine zm_last dX10_strays_125 rfl rfl (vp_in_nI hp (by decide)) ?_
    refine z_goto (tgt := 172) dX10_strays_126 rfl (by decide) ?_
    exact z_vret dX10_strays_172 rfl rfl ⟨rfl, by rw [nI_clamp (show p < 2 ^ 31 by omega)]; (first | rw [mLay_n] | rw [mLay_f]); exact congrArg (fun x => mUp m (mLay S p x) h) (by subst hc; have := ho.1; simp only [mc] at *; grind [sStray])⟩ (Nat.le_of_ble_eq_true rfl) (Nat.le_of_ble_eq_true rfl)
  · skip
    refine z_tableIn (off := 112) (tgt := 129) dX10_strays_17 rfl (by decide) (by decide) (by decide) (by decide) ?_
    first | refine z_aload_n dX10_strays_129 rfl rfl ?_ | refine z_aload_nN dX10_strays_129 rfl rfl ?_
    refine zmg_13 rfl dX10_strays_130 rfl ?_
    refine z_iload_n dX10_strays_133 rfl rfl ?_
    refine z_lload_n dX10_strays_134 rfl rfl ?_
    refine zm_last dX10_strays_135 rfl rfl (vp_in_nI hp (by decide)) ?_
    refine z_goto (tgt := 172) dX10_strays_136 rfl (by decide) ?_
    exact z_vret dX10_strays_172 rfl rfl ⟨rfl, by rw [nI_clamp (show p < 2 ^ 31 by omega)]; (first | rw [mLay_n] | rw [mLay_f]); exact congrArg (fun x => mUp m (mLay S p x) h) (by subst hc; have := ho.1; simp only [mc] at *; grind [sStray])⟩ (Nat.le_of_ble_eq_true rfl) (Nat.le_of_ble_eq_true rfl)
  · skip
    refine z_tableIn (off := 122) (tgt := 139) dX10_strays_17 rfl (by decide) (by decide) (by decide) (by decide) ?_
    first | refine z_aload_n dX10_strays_139 rfl rfl ?_ | refine z_aload_nN dX10_strays_139 rfl rfl ?_
    refine zmg_17 rfl dX10_strays_140 rfl ?_
    refine z_iload_n dX10_strays_143 rfl rfl ?_
    first | refine z_aload_n dX10_strays_144 rfl rfl ?_ | refine z_aload_nN dX10_strays_144 rfl rfl ?_
    refine zmg_17 rfl dX10_strays_145 rfl ?_
    refine z_iload_n dX10_strays_148 rfl rfl ?_
    refine zm_dald dX10_strays_149 rfl rfl (vp_in_nI hp (by decide)) ?_
    rw [nI_clamp (show p < 2 ^ 31 by omega), show S.2.2.1 p = c.2.2 from congrArg (fun c : sC => c.2.2) hc]
    have h6 := ho.2.2.1 s17
    refine z_d2f dX10_strays_150 rfl (fpS_n (okF_d2f h6.2).1) ?_
    refine z_fconst1 dX10_strays_151 rfl ?_
    refine z_fadd dX10_strays_152 rfl (fpS_n (okS_inc (okF_d2f h6.2)).1) ?_
    refine z_f2d dX10_strays_153 rfl (fpD_n (okS_f2d (okS_inc (okF_d2f h6.2))).1) ?_
    refine zm_dast dX10_strays_154 rfl rfl (vp_in_nI hp (by decide)) ?_
    refine z_goto (tgt := 172) dX10_strays_155 rfl (by decide) ?_
    exact z_vret dX10_strays_172 rfl rfl ⟨rfl, by rw [nI_clamp (show p < 2 ^ 31 by omega)]; (first | rw [mLay_n] | rw [mLay_f]); exact congrArg (fun x => mUp m (mLay S p x) h) (by subst hc; have := ho.1; simp only [mc] at *; grind [sStray])⟩ (Nat.le_of_ble_eq_true rfl) (Nat.le_of_ble_eq_true rfl)

theorem logC_le (c : sC) (y : Int32) : (logC c y).length ≤ 2 := by unfold logC; grind
theorem stray_1 (c : sC) : (sStray c).1 = c.1 := rfl
theorem stray_ok {c : sC} (h : sOk c) (h7 : c.1 ≤ 7) : sOk (sStray c) := by
  obtain ⟨a1, a2, a3, a4, a5, a6, a7⟩ := h
  refine ⟨a1, a2, fun e => ?_, fun e => ?_, fun e e2 => ?_, fun e => ?_, fun e => absurd (show c.1 = 9 from e) (by intro z; rw [z] at h7; exact absurd h7 (by decide))⟩
  · have e : c.1 = 6 := e
    have q := a3 e
    refine ⟨?_, ?_⟩
    · show (if c.1 = 0 then _ else _) = (0 : Int64)
      rw [e]; exact q.1
    · show okF (if c.1 = 6 then _ else _)
      rw [if_pos e]
      exact ⟨_, rfl, okS_inc (okF_d2f q.2)⟩
  · have e : c.1 = 7 := e
    have q := a4 e
    refine ⟨?_, ?_⟩
    · show (if c.1 = 0 then _ else _) = (0 : Int64)
      rw [e]; exact q.1
    · show okD (if c.1 = 6 then _ else _)
      rw [if_neg (by rw [e]; decide), if_pos e]
      exact okD_inc q.2
  · show (if c.1 = 6 then _ else _) = (0 : UInt64)
    have e : ¬ c.1 = 6 := e
    have e2 : ¬ c.1 = 7 := e2
    rw [if_neg e, if_neg e2]; exact a5 e e2
  · have e : c.1 = 0 := e
    show (if c.1 = 0 then _ else _) = (0 : Int64) ∨ (if c.1 = 0 then _ else _) = (1 : Int64)
    rw [if_pos e]
    rcases a6 e with z | z <;> rw [z] <;> decide
theorem logC_ok {c : sC} {y : Int32} (h : sOk c) (h7 : c.1 ≤ 7) : ∀ d, d ∈ logC c y → sOk d ∧ d.1 = c.1 := by
  intro d hd
  unfold logC at hd
  split at hd
  · exact absurd hd (by simp)
  split at hd
  · have : d = c := by simpa using hd
    rw [this]; exact ⟨h, rfl⟩
  split at hd
  · have : d = sStray c := by simpa using hd
    rw [this]; exact ⟨stray_ok h h7, rfl⟩
  · have : d = c := by simpa using hd
    rw [this]; exact ⟨h, rfl⟩
theorem log_bad {w : sW} {r s kind seed : Int32} (h : ¬ isRec r ∨ ¬ isRec s ∨ ¬ sNum kind) : pLog w r s kind seed = (-1, w) := if_pos h
theorem log_f {w : sW} {r s kind seed x : Int32} (hr : isRec r) (hs : isRec s) (hk : sNum kind) (hx : logF w.1 (ix s) kind = x) (h : 0 < x) : pLog w r s kind seed = (-10 - x, w) := by
  unfold pLog
  rw [if_neg (fun z => z.elim (fun z => z hr) (fun z => z.elim (fun z => z hs) (fun z => z hk))), hx, if_pos h]
theorem log_full {w : sW} {r s kind seed : Int32} (hr : isRec r) (hs : isRec s) (hk : sNum kind) (hx : ¬ 0 < logF w.1 (ix s) kind) {M : List sC} (hM : logL (w.1.2.1 (ix s)).2 seed = M) (h : 20 < M.length) : pLog w r s kind seed = (-3, w) := by
  unfold pLog
  rw [if_neg (fun z => z.elim (fun z => z hr) (fun z => z.elim (fun z => z hs) (fun z => z hk))), if_neg hx, hM, if_pos h]
theorem log_ok {w : sW} {r s kind seed : Int32} (hr : isRec r) (hs : isRec s) (hk : sNum kind) (hx : ¬ 0 < logF w.1 (ix s) kind) {M : List sC} (hM : logL (w.1.2.1 (ix s)).2 seed = M) (h : ¬ 20 < M.length) : pLog w r s kind seed = (nI M.length, wR w (rNew w.1 (ix r) (kind, M.map (fun c => sConv c kind)))) := by
  unfold pLog
  rw [if_neg (fun z => z.elim (fun z => z hr) (fun z => z.elim (fun z => z hs) (fun z => z hk))), if_neg hx, hM, if_neg h]

abbrev YX10_log : zY := (yX10_log.cls, cX10_log, 11, (some .int), rmX10_log, yX10_log.name, fun _ _ => True)
set_option maxHeartbeats 800000 in
set_option maxRecDepth 100000 in
theorem log_cp (g : zG) (h : zH) (m : Nat) (Q : Array Value → List Frame → State → State → Prop) (r s kind x y q q2 : Int32) (hq : q + Int32.ofInt 1 = q2) (i : Nat) (S1 : sMS) (hs : isRec s) (M : List sC) (hM : M.length < 40) (c : sC) (hcin : vp_in (20 * S1.1 6 (ix s) + nI i) 880) (hcell : mc S1 (20 * S1.1 6 (ix s) + nI i).toNatClampNeg = c) (k : zZ g YX10_log Q 133 [(10, .int q2), (9, .int y), (8, .int (nI i)), (7, .int (nI (M ++ [c]).length)), (6, .int x), (0, .ref m), (1, .int r), (2, .int s), (3, .int kind)] [] (mUp m (mLay S1 (520 + M.length) c) h) 0 0) : zZ g YX10_log Q 158 [(10, .int q), (9, .int y), (8, .int (nI i)), (7, .int (nI M.length)), (6, .int x), (0, .ref m), (1, .int r), (2, .int s), (3, .int kind)] [] (mUp m S1 h) 0 0 := by
  first | refine z_aload_n dX10_log_158 rfl rfl ?_ | refine z_aload_nN dX10_log_158 rfl rfl ?_
  first | refine z_aload_n dX10_log_159 rfl rfl ?_ | refine z_aload_nN dX10_log_159 rfl rfl ?_
  refine z_iload_n dX10_log_160 rfl rfl ?_
  refine z_iload dX10_log_161 rfl rfl ?_
  refine zcx_X10_135 rfl dX10_log_163 rfl mo_recv (r_cellAt g h m S1 _ _ (rec_in hs)) rfl rfl ⟨(Nat.le_of_ble_eq_true rfl), (Nat.le_of_ble_eq_true rfl)⟩ ⟨(Nat.le_of_ble_eq_true rfl), (Nat.le_of_ble_eq_true rfl)⟩ (Nat.le_of_ble_eq_true rfl) ?_
  refine z_sipush (v := 520) dX10_log_166 rfl (by decide) ?_
  refine z_iload dX10_log_169 rfl rfl ?_
  refine z_iadd dX10_log_171 rfl ?_
  rw [n520]
  refine zcv_X10_229 rfl dX10_log_172 rfl mo_recv (r_copiesCell g h m _ _ _ hcin (vp_in_nI (show 520 + M.length < 880 by omega) (by decide))) rfl rfl ⟨(Nat.le_of_ble_eq_true rfl), (Nat.le_of_ble_eq_true rfl)⟩ ⟨(Nat.le_of_ble_eq_true rfl), (Nat.le_of_ble_eq_true rfl)⟩ (Nat.le_of_ble_eq_true rfl) ?_
  rw [nI_clamp (show 520 + M.length < 2 ^ 31 by omega), hcell]
  refine z_iinc (v := nI (M.length + 1)) dX10_log_175 rfl rfl (nI_inc _) (Nat.le_of_ble_eq_true rfl) ?_
  refine z_iinc (v := q2) dX10_log_178 rfl rfl hq (Nat.le_of_ble_eq_true rfl) ?_
  refine z_goto (tgt := 133) dX10_log_181 rfl (by decide) ?_
  refine z_lv [(10, .int q2), (9, .int y), (8, .int (nI i)), (7, .int (nI (M ++ [c]).length)), (6, .int x), (0, .ref m), (1, .int r), (2, .int s), (3, .int kind)] (by rw [List.length_append]; exact ⟨rfl, rfl, rfl, rfl, rfl, rfl, rfl, rfl, rfl, trivial⟩) ?_
  exact k

set_option maxHeartbeats 800000 in
set_option maxRecDepth 100000 in
theorem R_log_L (g : zG) (h : zH) (m : Nat) (S : sMS) (w : sW) (hR : RepM S w) (r s kind seed : Int32) (hr : isRec r) (hs : isRec s) (hk : sNum kind) (h2 : w.1.1 (ix s) = 2) (hx : ¬ 0 < logF w.1 (ix s) kind) (h7 : (w.1.2.1 (ix s)).1 ≤ 7) (hio : sInto (w.1.2.1 (ix s)).1 kind = true) : ∀ (T : List sC) (S1 : sMS) (i : Nat) (x : Int32) (M : List sC), i + T.length = (w.1.2.1 (ix s)).2.length → (w.1.2.1 (ix s)).2.drop i = T → scr S S1 → made S1 M → M.length ≤ 2 * i → (∀ c, c ∈ M → sOk c ∧ sInto c.1 kind = true) → logL (w.1.2.1 (ix s)).2 seed = M ++ logL T x → zZ g YX10_log (zE g (mPost m h (pLog w r s kind seed)) 0 0) 94 [(8, .int (nI i)), (7, .int (nI M.length)), (6, .int x), (0, .ref m), (1, .int r), (2, .int s), (3, .int kind)] [] (mUp m S1 h) 0 0 := by
  intro T
  induction T with
  | nil =>
    intro S1 i x M hin hT hs1 hm hMi hcs he
    have ei : i = (w.1.2.1 (ix s)).2.length := by rw [← hin]; rfl
    have he0 : logL (w.1.2.1 (ix s)).2 seed = M := by rw [he]; exact List.append_nil M
    have hR1 := RepM_scr hR hs1
    have kz := rep_kind hR1.1 (ix_lt hs) h2
    have la : (w.1.2.1 (ix s)).2.length ≤ 20 := kz.2.2.2.2.2.1
    refine z_iload dX10_log_94 rfl rfl ?_
    first | refine z_aload_n dX10_log_96 rfl rfl ?_ | refine z_aload_nN dX10_log_96 rfl rfl ?_
    refine z_iload_n dX10_log_97 rfl rfl ?_
    refine zcx_X10_152 rfl dX10_log_98 rfl mo_recv (r_sizeOf g h m S1 _ (rec_in hs) kz.2.2.1) rfl rfl ⟨(Nat.le_of_ble_eq_true rfl), (Nat.le_of_ble_eq_true rfl)⟩ ⟨(Nat.le_of_ble_eq_true rfl), (Nat.le_of_ble_eq_true rfl)⟩ (Nat.le_of_ble_eq_true rfl) ?_
    rw [kz.2.1]
    refine z_icmp_ge (tgt := 208) dX10_log_101 rfl (by decide) (fun c101 => ?_) (fun c101 => absurd c101 (fun z => z (nI_le (by omega) (by omega))))
    refine z_iload dX10_log_208 rfl rfl ?_
    refine z_bipush (v := 20) dX10_log_210 rfl (by decide) ?_
    refine z_icmp_le (tgt := 218) dX10_log_212 rfl (by decide) (fun c212 => ?_) (fun c212 => ?_)
    · skip
      have hle : M.length ≤ 20 := Nat.le_of_not_lt (fun z => absurd c212 (Int32.not_le.mpr (nI_lt (a := 20) z (by omega))))
      first | refine z_aload_n dX10_log_218 rfl rfl ?_ | refine z_aload_nN dX10_log_218 rfl rfl ?_
      refine z_iload_n dX10_log_219 rfl rfl ?_
      refine z_iload_n dX10_log_220 rfl rfl ?_
      refine z_iload dX10_log_221 rfl rfl ?_
      refine zc_X10_293 rfl dX10_log_223 rfl mo_recv (r_takesMade g h m S1 r _ M.length hle (rec_in hr)) rfl rfl ⟨(Nat.le_of_ble_eq_true rfl), (Nat.le_of_ble_eq_true rfl)⟩ ⟨(Nat.le_of_ble_eq_true rfl), (Nat.le_of_ble_eq_true rfl)⟩ (Nat.le_of_ble_eq_true rfl) (fun v h1 hz => ?_)
      obtain ⟨rfl, j, hj, hfr, rfl⟩ := hz
      refine z_iload dX10_log_226 rfl rfl ?_
      exact z_iret dX10_log_228 rfl rfl (mPost_of (RepM_made hR1 hr hj hfr ⟨hk.1, by have := hk.2; grind⟩ hle hcs hm) (log_ok hr hs hk hx he0 (Nat.not_lt.mpr hle))) (Nat.le_of_ble_eq_true rfl) (Nat.le_of_ble_eq_true rfl)
    · skip
      refine z_bipush (v := -3) dX10_log_215 rfl (by decide) ?_
      exact z_iret dX10_log_217 rfl rfl (mPost_of hR1 (log_full hr hs hk hx he0 (Nat.lt_of_not_le (fun z => c212 (nI_le (b := 20) z (by decide)))))) (Nat.le_of_ble_eq_true rfl) (Nat.le_of_ble_eq_true rfl)
  | cons c T ih =>
    intro S1 i x M hin hT hs1 hm hMi hcs he
    rw [List.length_cons] at hin
    have hR1 := RepM_scr hR hs1
    have kz := rep_kind hR1.1 (ix_lt hs) h2
    have la : (w.1.2.1 (ix s)).2.length ≤ 20 := kz.2.2.2.2.2.1
    have hcg : (w.1.2.1 (ix s)).2[i]? = some c := by
      have z : ((w.1.2.1 (ix s)).2.drop i)[0]? = some c := by rw [hT]; rfl
      rwa [List.getElem?_drop, Nat.add_zero] at z
    have hgd : (w.1.2.1 (ix s)).2.getD i z0 = c := by rw [List.getD_eq_getElem?_getD, hcg]; rfl
    obtain ⟨hcin, hcell, hcok, -, kr, hkr8, hkr6, -, hkre⟩ := rep_cell hR1.1 (i := nI i) (ix_lt hs) h2 (by rw [nI_toInt (by omega)]; omega) (by rw [nI_toInt (by omega)]; omega)
    have hfar : ¬ (20 * S1.1 6 (ix s) + nI i).toNatClampNeg = 520 + M.length := by
      rw [hkre, show ix (nI i) = i from nI_clamp (by omega)]; omega
    rw [show ix (nI i) = i from nI_clamp (by omega)] at hcell hcok
    have hcell : mc S1 (20 * S1.1 6 (ix s) + nI i).toNatClampNeg = c := by rw [hcell]; exact hgd
    have hco : sOk c ∧ c.1 ≤ 7 := by
      have z := rcell_fit hR1.1 (ix_lt hs) h2 (i := i) (by omega)
      rw [show rCell w.1 (ix s) i = c from hgd] at z
      exact ⟨z.1, by rw [z.2.1 h7]; exact h7⟩
    have hck : c.1 = (w.1.2.1 (ix s)).1 := by
      have z := rcell_fit hR1.1 (ix_lt hs) h2 (i := i) (by omega)
      rw [show rCell w.1 (ix s) i = c from hgd] at z
      exact z.2.1 h7
    have hok : ∀ d, d ∈ logC c (wy (nxt x)) → sOk d ∧ sInto d.1 kind = true := fun d hd => ⟨(logC_ok hco.1 hco.2 d hd).1, by rw [(logC_ok hco.1 hco.2 d hd).2, hck]; exact hio⟩
    have kk : zZ g YX10_log (zE g (mPost m h (pLog w r s kind seed)) 0 0) 133 [(10, .int 0), (9, .int (wy (nxt x))), (8, .int (nI i)), (7, .int (nI M.length)), (6, .int (nxt x)), (0, .ref m), (1, .int r), (2, .int s), (3, .int kind)] [] (mUp m S1 h) 0 0 := by
      by_cases n0 : wy (nxt x) = 0
      · have hlc : logC c (wy (nxt x)) = [] := by rw [logC, if_pos n0]
        rw [n0]
        refine z_iload dX10_log_133 rfl rfl ?_
        refine z_iload dX10_log_135 rfl rfl ?_
        refine z_if_ne (tgt := 144) dX10_log_137 rfl (by decide) (fun c137 => absurd c137 (fun z => z rfl)) (fun c137 => ?_)
        refine z_iconst (v := 0) dX10_log_140 rfl (by decide) ?_
        refine z_goto (tgt := 155) dX10_log_141 rfl (by decide) ?_
        refine z_icmp_ge (tgt := 184) dX10_log_155 rfl (by decide) (fun c155 => ?_) (fun c155 => absurd c155 (fun z => z (by decide)))
        refine z_iload dX10_log_184 rfl rfl ?_
        refine z_iconst (v := 2) dX10_log_186 rfl (by decide) ?_
        refine z_icmp_ne (tgt := 202) dX10_log_187 rfl (by decide) (fun c187 => ?_) (fun c187 => absurd c187 (by decide))
        refine z_iinc (v := nI (i + 1)) dX10_log_202 rfl rfl (nI_inc i) (Nat.le_of_ble_eq_true rfl) ?_
        refine z_goto (tgt := 94) dX10_log_205 rfl (by decide) ?_
        refine z_lv [(8, .int (nI (i + 1))), (7, .int (nI M.length)), (6, .int (nxt x)), (0, .ref m), (1, .int r), (2, .int s), (3, .int kind)] ⟨rfl, rfl, rfl, rfl, rfl, rfl, rfl, trivial⟩ ?_
        exact ih S1 (i + 1) (nxt x) M (by omega) (by rw [← List.drop_drop, hT]; rfl) hs1 hm (by first | omega | (simp only [List.length_append, List.length_cons, List.length_nil]; omega)) hcs (by rw [he, logL, hlc]; simp only [List.append_assoc, List.cons_append, List.nil_append])
      by_cases n1 : wy (nxt x) = 1
      · have hlc : logC c (wy (nxt x)) = [c, c] := by rw [logC, if_neg n0, if_pos n1]
        rw [n1]
        refine z_iload dX10_log_133 rfl rfl ?_
        refine z_iload dX10_log_135 rfl rfl ?_
        refine z_if_ne (tgt := 144) dX10_log_137 rfl (by decide) (fun c137 => ?_) (fun c137 => absurd c137 (by decide))
        refine z_iload dX10_log_144 rfl rfl ?_
        refine z_iconst (v := 1) dX10_log_146 rfl (by decide) ?_
        refine z_icmp_ne (tgt := 154) dX10_log_147 rfl (by decide) (fun c147 => absurd c147 (fun z => z rfl)) (fun c147 => ?_)
        refine z_iconst (v := 2) dX10_log_150 rfl (by decide) ?_
        refine z_goto (tgt := 155) dX10_log_151 rfl (by decide) ?_
        refine z_icmp_ge (tgt := 184) dX10_log_155 rfl (by decide) (fun c155 => absurd c155 (by decide)) (fun c155 => ?_)
        refine log_cp g h m _ r s kind (nxt x) 1 0 1 (by decide) i S1 hs M (by first | omega | (simp only [List.length_append, List.length_cons, List.length_nil]; omega)) c hcin hcell ?_
        refine z_iload dX10_log_133 rfl rfl ?_
        refine z_iload dX10_log_135 rfl rfl ?_
        refine z_if_ne (tgt := 144) dX10_log_137 rfl (by decide) (fun c137 => ?_) (fun c137 => absurd c137 (by decide))
        refine z_iload dX10_log_144 rfl rfl ?_
        refine z_iconst (v := 1) dX10_log_146 rfl (by decide) ?_
        refine z_icmp_ne (tgt := 154) dX10_log_147 rfl (by decide) (fun c147 => absurd c147 (fun z => z rfl)) (fun c147 => ?_)
        refine z_iconst (v := 2) dX10_log_150 rfl (by decide) ?_
        refine z_goto (tgt := 155) dX10_log_151 rfl (by decide) ?_
        refine z_icmp_ge (tgt := 184) dX10_log_155 rfl (by decide) (fun c155 => absurd c155 (by decide)) (fun c155 => ?_)
        refine log_cp g h m _ r s kind (nxt x) 1 1 2 (by decide) i (mLay S1 (520 + M.length) c) hs (M ++ [c]) (by first | omega | (simp only [List.length_append, List.length_cons, List.length_nil]; omega)) c (by rw [mLay_1 _ _ _ (by decide)]; exact hcin) (by rw [mLay_1 _ _ _ (by decide), mc_lay, if_neg hfar]; exact hcell) ?_
        refine z_iload dX10_log_133 rfl rfl ?_
        refine z_iload dX10_log_135 rfl rfl ?_
        refine z_if_ne (tgt := 144) dX10_log_137 rfl (by decide) (fun c137 => ?_) (fun c137 => absurd c137 (by decide))
        refine z_iload dX10_log_144 rfl rfl ?_
        refine z_iconst (v := 1) dX10_log_146 rfl (by decide) ?_
        refine z_icmp_ne (tgt := 154) dX10_log_147 rfl (by decide) (fun c147 => absurd c147 (fun z => z rfl)) (fun c147 => ?_)
        refine z_iconst (v := 2) dX10_log_150 rfl (by decide) ?_
        refine z_goto (tgt := 155) dX10_log_151 rfl (by decide) ?_
        refine z_icmp_ge (tgt := 184) dX10_log_155 rfl (by decide) (fun c155 => ?_) (fun c155 => absurd c155 (fun z => z (by decide)))
        refine z_iload dX10_log_184 rfl rfl ?_
        refine z_iconst (v := 2) dX10_log_186 rfl (by decide) ?_
        refine z_icmp_ne (tgt := 202) dX10_log_187 rfl (by decide) (fun c187 => ?_) (fun c187 => absurd c187 (by decide))
        refine z_iinc (v := nI (i + 1)) dX10_log_202 rfl rfl (nI_inc i) (Nat.le_of_ble_eq_true rfl) ?_
        refine z_goto (tgt := 94) dX10_log_205 rfl (by decide) ?_
        refine z_lv [(8, .int (nI (i + 1))), (7, .int (nI ((M ++ [c]) ++ [c]).length)), (6, .int (nxt x)), (0, .ref m), (1, .int r), (2, .int s), (3, .int kind)] ⟨rfl, rfl, rfl, rfl, rfl, rfl, rfl, trivial⟩ ?_
        exact ih (mLay (mLay S1 (520 + M.length) c) (520 + (M ++ [c]).length) c) (i + 1) (nxt x) ((M ++ [c]) ++ [c]) (by omega) (by rw [← List.drop_drop, hT]; rfl) (scr_lay (scr_lay hs1 (by omega) c) (by first | omega | (simp only [List.length_append, List.length_cons, List.length_nil]; omega)) c) (made_s (made_s hm c) c) (by first | omega | (simp only [List.length_append, List.length_cons, List.length_nil]; omega)) (by rw [List.append_assoc]; exact (fun d hd => by rcases List.mem_append.mp hd with z | z; exact hcs d z; exact hok d (by rw [hlc]; exact z))) (by rw [he, logL, hlc]; simp only [List.append_assoc, List.cons_append, List.nil_append])
      by_cases n2 : wy (nxt x) = 2
      · have hlc : logC c (wy (nxt x)) = [sStray c] := by rw [logC, if_neg n0, if_neg n1, if_pos n2]
        rw [n2]
        refine z_iload dX10_log_133 rfl rfl ?_
        refine z_iload dX10_log_135 rfl rfl ?_
        refine z_if_ne (tgt := 144) dX10_log_137 rfl (by decide) (fun c137 => ?_) (fun c137 => absurd c137 (by decide))
        refine z_iload dX10_log_144 rfl rfl ?_
        refine z_iconst (v := 1) dX10_log_146 rfl (by decide) ?_
        refine z_icmp_ne (tgt := 154) dX10_log_147 rfl (by decide) (fun c147 => ?_) (fun c147 => absurd c147 (by decide))
        refine z_iconst (v := 1) dX10_log_154 rfl (by decide) ?_
        refine z_icmp_ge (tgt := 184) dX10_log_155 rfl (by decide) (fun c155 => absurd c155 (by decide)) (fun c155 => ?_)
        refine log_cp g h m _ r s kind (nxt x) 2 0 1 (by decide) i S1 hs M (by first | omega | (simp only [List.length_append, List.length_cons, List.length_nil]; omega)) c hcin hcell ?_
        refine z_iload dX10_log_133 rfl rfl ?_
        refine z_iload dX10_log_135 rfl rfl ?_
        refine z_if_ne (tgt := 144) dX10_log_137 rfl (by decide) (fun c137 => ?_) (fun c137 => absurd c137 (by decide))
        refine z_iload dX10_log_144 rfl rfl ?_
        refine z_iconst (v := 1) dX10_log_146 rfl (by decide) ?_
        refine z_icmp_ne (tgt := 154) dX10_log_147 rfl (by decide) (fun c147 => ?_) (fun c147 => absurd c147 (by decide))
        refine z_iconst (v := 1) dX10_log_154 rfl (by decide) ?_
        refine z_icmp_ge (tgt := 184) dX10_log_155 rfl (by decide) (fun c155 => ?_) (fun c155 => absurd c155 (fun z => z (by decide)))
        refine z_iload dX10_log_184 rfl rfl ?_
        refine z_iconst (v := 2) dX10_log_186 rfl (by decide) ?_
        refine z_icmp_ne (tgt := 202) dX10_log_187 rfl (by decide) (fun c187 => absurd c187 (fun z => z rfl)) (fun c187 => ?_)
        first | refine z_aload_n dX10_log_190 rfl rfl ?_ | refine z_aload_nN dX10_log_190 rfl rfl ?_
        refine z_sipush (v := 520) dX10_log_191 rfl (by decide) ?_
        refine z_iload dX10_log_194 rfl rfl ?_
        refine z_iadd dX10_log_196 rfl ?_
        rw [n520]
        refine z_iconst (v := 1) dX10_log_197 rfl (by decide) ?_
        refine z_isub dX10_log_198 rfl ?_
        rw [List.length_append, show nI (520 + (M.length + [c].length)) - 1 = nI (520 + M.length) from nI_sub (a := 520 + (M.length + 1)) (b := 1) (by omega)]
        refine zcv_X10_315 rfl dX10_log_199 rfl mo_recv (r_strays g h m (mLay S1 (520 + M.length) c) (520 + M.length) (by omega) c (by rw [mc_lay, if_pos rfl]) hco.1 hco.2) rfl rfl ⟨(Nat.le_of_ble_eq_true rfl), (Nat.le_of_ble_eq_true rfl)⟩ ⟨(Nat.le_of_ble_eq_true rfl), (Nat.le_of_ble_eq_true rfl)⟩ (Nat.le_of_ble_eq_true rfl) ?_
        rw [mLay_lay]
        refine z_lv [(10, .int 1), (9, .int 2), (8, .int (nI i)), (7, .int (nI (M ++ [sStray c]).length)), (6, .int (nxt x)), (0, .ref m), (1, .int r), (2, .int s), (3, .int kind)] (by simp only [List.length_append, List.length_cons, List.length_nil]; exact ⟨rfl, rfl, rfl, rfl, rfl, rfl, rfl, rfl, rfl, trivial⟩) ?_
        refine z_iinc (v := nI (i + 1)) dX10_log_202 rfl rfl (nI_inc i) (Nat.le_of_ble_eq_true rfl) ?_
        refine z_goto (tgt := 94) dX10_log_205 rfl (by decide) ?_
        refine z_lv [(8, .int (nI (i + 1))), (7, .int (nI (M ++ [sStray c]).length)), (6, .int (nxt x)), (0, .ref m), (1, .int r), (2, .int s), (3, .int kind)] ⟨rfl, rfl, rfl, rfl, rfl, rfl, rfl, trivial⟩ ?_
        exact ih (mLay S1 (520 + M.length) (sStray c)) (i + 1) (nxt x) (M ++ [sStray c]) (by omega) (by rw [← List.drop_drop, hT]; rfl) (scr_lay hs1 (by omega) _) (made_s hm _) (by first | omega | (simp only [List.length_append, List.length_cons, List.length_nil]; omega)) (fun d hd => by rcases List.mem_append.mp hd with z | z; exact hcs d z; exact hok d (by rw [hlc]; exact z)) (by rw [he, logL, hlc]; simp only [List.append_assoc, List.cons_append, List.nil_append])
      have hlc : logC c (wy (nxt x)) = [c] := by rw [logC, if_neg n0, if_neg n1, if_neg n2]
      refine z_iload dX10_log_133 rfl rfl ?_
      refine z_iload dX10_log_135 rfl rfl ?_
      refine z_if_ne (tgt := 144) dX10_log_137 rfl (by decide) (fun c137 => ?_) (fun c137 => absurd c137 n0)
      refine z_iload dX10_log_144 rfl rfl ?_
      refine z_iconst (v := 1) dX10_log_146 rfl (by decide) ?_
      refine z_icmp_ne (tgt := 154) dX10_log_147 rfl (by decide) (fun c147 => ?_) (fun c147 => absurd c147 n1)
      refine z_iconst (v := 1) dX10_log_154 rfl (by decide) ?_
      refine z_icmp_ge (tgt := 184) dX10_log_155 rfl (by decide) (fun c155 => absurd c155 (by decide)) (fun c155 => ?_)
      refine log_cp g h m _ r s kind (nxt x) (wy (nxt x)) 0 1 (by decide) i S1 hs M (by first | omega | (simp only [List.length_append, List.length_cons, List.length_nil]; omega)) c hcin hcell ?_
      refine z_iload dX10_log_133 rfl rfl ?_
      refine z_iload dX10_log_135 rfl rfl ?_
      refine z_if_ne (tgt := 144) dX10_log_137 rfl (by decide) (fun c137 => ?_) (fun c137 => absurd c137 n0)
      refine z_iload dX10_log_144 rfl rfl ?_
      refine z_iconst (v := 1) dX10_log_146 rfl (by decide) ?_
      refine z_icmp_ne (tgt := 154) dX10_log_147 rfl (by decide) (fun c147 => ?_) (fun c147 => absurd c147 n1)
      refine z_iconst (v := 1) dX10_log_154 rfl (by decide) ?_
      refine z_icmp_ge (tgt := 184) dX10_log_155 rfl (by decide) (fun c155 => ?_) (fun c155 => absurd c155 (fun z => z (by decide)))
      refine z_iload dX10_log_184 rfl rfl ?_
      refine z_iconst (v := 2) dX10_log_186 rfl (by decide) ?_
      refine z_icmp_ne (tgt := 202) dX10_log_187 rfl (by decide) (fun c187 => ?_) (fun c187 => absurd c187 n2)
      refine z_iinc (v := nI (i + 1)) dX10_log_202 rfl rfl (nI_inc i) (Nat.le_of_ble_eq_true rfl) ?_
      refine z_goto (tgt := 94) dX10_log_205 rfl (by decide) ?_
      refine z_lv [(8, .int (nI (i + 1))), (7, .int (nI (M ++ [c]).length)), (6, .int (nxt x)), (0, .ref m), (1, .int r), (2, .int s), (3, .int kind)] ⟨rfl, rfl, rfl, rfl, rfl, rfl, rfl, trivial⟩ ?_
      exact ih (mLay S1 (520 + M.length) c) (i + 1) (nxt x) (M ++ [c]) (by omega) (by rw [← List.drop_drop, hT]; rfl) (scr_lay hs1 (by omega) _) (made_s hm _) (by first | omega | (simp only [List.length_append, List.length_cons, List.length_nil]; omega)) (fun d hd => by rcases List.mem_append.mp hd with z | z; exact hcs d z; exact hok d (by rw [hlc]; exact z)) (by rw [he, logL, hlc]; simp only [List.append_assoc, List.cons_append, List.nil_append])
    refine z_iload dX10_log_94 rfl rfl ?_
    first | refine z_aload_n dX10_log_96 rfl rfl ?_ | refine z_aload_nN dX10_log_96 rfl rfl ?_
    refine z_iload_n dX10_log_97 rfl rfl ?_
    refine zcx_X10_152 rfl dX10_log_98 rfl mo_recv (r_sizeOf g h m S1 _ (rec_in hs) kz.2.2.1) rfl rfl ⟨(Nat.le_of_ble_eq_true rfl), (Nat.le_of_ble_eq_true rfl)⟩ ⟨(Nat.le_of_ble_eq_true rfl), (Nat.le_of_ble_eq_true rfl)⟩ (Nat.le_of_ble_eq_true rfl) ?_
    rw [kz.2.1]
    refine z_icmp_ge (tgt := 208) dX10_log_101 rfl (by decide) (fun c101 => absurd c101 (nI_ge (by omega) (by omega))) (fun c101 => ?_)
    refine z_iload dX10_log_104 rfl rfl ?_
    refine zk_X10_314w rfl dX10_log_106 rfl ?_
    refine z_imul dX10_log_109 rfl ?_
    refine z_sipush (v := 12345) dX10_log_110 rfl (by decide) ?_
    refine z_iadd dX10_log_113 rfl ?_
    change zZ _ _ _ _ _ (.int (nxt x) :: _) _ _ _
    refine z_istore dX10_log_114 rfl (Nat.le_of_ble_eq_true rfl) ?_
    refine z_iload dX10_log_116 rfl rfl ?_
    refine z_bipush (v := 16) dX10_log_118 rfl (by decide) ?_
    refine z_ishr dX10_log_120 rfl ?_
    rw [show (16 : Int32) &&& 31 = 16 from by decide]
    refine z_sipush (v := 32767) dX10_log_121 rfl (by decide) ?_
    refine z_iand dX10_log_124 rfl ?_
    change zZ _ _ _ _ _ (.int (drw (nxt x)) :: _) _ _ _
    refine z_bipush (v := 8) dX10_log_125 rfl (by decide) ?_
    refine z_irem dX10_log_127 rfl (by decide) ?_
    change zZ _ _ _ _ _ (.int (wy (nxt x)) :: _) _ _ _
    refine z_istore dX10_log_128 rfl (Nat.le_of_ble_eq_true rfl) ?_
    refine z_iconst (v := 0) dX10_log_130 rfl (by decide) ?_
    refine z_istore dX10_log_131 rfl (Nat.le_of_ble_eq_true rfl) ?_
    refine z_lv [(10, .int 0), (9, .int (wy (nxt x))), (8, .int (nI i)), (7, .int (nI M.length)), (6, .int (nxt x)), (0, .ref m), (1, .int r), (2, .int s), (3, .int kind)] ⟨rfl, rfl, rfl, rfl, rfl, rfl, rfl, rfl, rfl, trivial⟩ ?_
    exact kk

set_option maxHeartbeats 800000 in
set_option maxRecDepth 100000 in
theorem R_log (g : zG) (h : zH) (m : Nat) (S : sMS) (w : sW) (hR : RepM S w) (r s kind seed : Int32) : zM g yX10_log cX10_log 11 (some .int) rmX10_log [.ref m, .int r, .int s, .int kind, .int seed] (mUp m S h) (mPost m h (pLog w r s kind seed)) := by
  refine zM_of (by decide) (Nat.le_of_ble_eq_true rfl) ?_
  refine z_iload_n dX10_log_0 rfl rfl ?_
  refine zcx_X10_141 rfl dX10_log_1 rfl (r_isRecord g _ _) rfl rfl ⟨(Nat.le_of_ble_eq_true rfl), (Nat.le_of_ble_eq_true rfl)⟩ ⟨(Nat.le_of_ble_eq_true rfl), (Nat.le_of_ble_eq_true rfl)⟩ (Nat.le_of_ble_eq_true rfl) ?_
  refine z_bif_eq (tgt := 21) dX10_log_4 rfl (by decide) (fun c4 => ?_) (fun c4 => ?_)
  · skip
    refine z_iconst (v := -1) dX10_log_21 rfl (by decide) ?_
    exact z_iret dX10_log_22 rfl rfl (mPost_of hR (log_bad (by grind))) (Nat.le_of_ble_eq_true rfl) (Nat.le_of_ble_eq_true rfl)
  · skip
    refine z_iload_n dX10_log_7 rfl rfl ?_
    refine zcx_X10_141 rfl dX10_log_8 rfl (r_isRecord g _ _) rfl rfl ⟨(Nat.le_of_ble_eq_true rfl), (Nat.le_of_ble_eq_true rfl)⟩ ⟨(Nat.le_of_ble_eq_true rfl), (Nat.le_of_ble_eq_true rfl)⟩ (Nat.le_of_ble_eq_true rfl) ?_
    refine z_bif_eq (tgt := 21) dX10_log_11 rfl (by decide) (fun c11 => ?_) (fun c11 => ?_)
    · skip
      refine z_iconst (v := -1) dX10_log_21 rfl (by decide) ?_
      exact z_iret dX10_log_22 rfl rfl (mPost_of hR (log_bad (by grind))) (Nat.le_of_ble_eq_true rfl) (Nat.le_of_ble_eq_true rfl)
    · skip
      refine z_iload_n dX10_log_14 rfl rfl ?_
      refine zcx_X10_159 rfl dX10_log_15 rfl (r_isKind g _ _) rfl rfl ⟨(Nat.le_of_ble_eq_true rfl), (Nat.le_of_ble_eq_true rfl)⟩ ⟨(Nat.le_of_ble_eq_true rfl), (Nat.le_of_ble_eq_true rfl)⟩ (Nat.le_of_ble_eq_true rfl) ?_
      refine z_bif_ne (tgt := 23) dX10_log_18 rfl (by decide) (fun c18 => ?_) (fun c18 => ?_)
      · skip
        have kk : ∀ f, logF w.1 (ix s) kind = f → zZ g YX10_log (zE g (mPost m h (pLog w r s kind seed)) 0 0) 71 [(5, .int (rowF w.1 (ix s))), (0, .ref m), (1, .int r), (2, .int s), (3, .int kind), (4, .int seed)] [.int f] (mUp m S h) 0 0 := by
          intro f hff
          refine z_istore dX10_log_71 rfl (Nat.le_of_ble_eq_true rfl) ?_
          refine z_iload dX10_log_73 rfl rfl ?_
          refine z_if_le (tgt := 84) dX10_log_75 rfl (by decide) (fun c75 => ?_) (fun c75 => ?_)
          · skip
            refine z_iload dX10_log_84 rfl rfl ?_
            refine z_istore dX10_log_86 rfl (Nat.le_of_ble_eq_true rfl) ?_
            refine z_iconst (v := 0) dX10_log_88 rfl (by decide) ?_
            refine z_istore dX10_log_89 rfl (Nat.le_of_ble_eq_true rfl) ?_
            refine z_iconst (v := 0) dX10_log_91 rfl (by decide) ?_
            refine z_istore dX10_log_92 rfl (Nat.le_of_ble_eq_true rfl) ?_
            subst hff
            have hx : ¬ 0 < logF w.1 (ix s) kind := Int32.not_lt.mpr c75
            have hf0 : ¬ 0 < rowF w.1 (ix s) := fun z => hx (by rw [logF, if_pos z]; exact z)
            have h2 := rf_2 (rep_st hR.1 (ix_lt c11)) hf0
            have hrd : ¬ 0 < readF w.1 (ix s) kind := fun z => hx (by rw [logF, if_neg hf0]; exact z)
            have h7 : (w.1.2.1 (ix s)).1 ≤ 7 := by unfold readF at hrd; grind
            have hio : sInto (w.1.2.1 (ix s)).1 kind = true := by unfold readF at hrd; grind
            refine z_lv [(8, .int (nI 0)), (7, .int (nI ([] : List sC).length)), (6, .int seed), (0, .ref m), (1, .int r), (2, .int s), (3, .int kind)] ⟨rfl, rfl, rfl, rfl, rfl, rfl, rfl, trivial⟩ ?_
            exact R_log_L g h m S w hR r s kind seed c4 c11 c18 h2 hx h7 hio (w.1.2.1 (ix s)).2 S 0 seed [] (by omega) rfl (scr_r S) (fun i hi => absurd hi (by simp)) (by simp) (fun c hc => absurd hc (by simp)) (by simp)
          · skip
            refine z_bipush (v := -10) dX10_log_78 rfl (by decide) ?_
            refine z_iload dX10_log_80 rfl rfl ?_
            refine z_isub dX10_log_82 rfl ?_
            exact z_iret dX10_log_83 rfl rfl (mPost_of hR (log_f c4 c11 c18 hff (Int32.not_le.mp c75))) (Nat.le_of_ble_eq_true rfl) (Nat.le_of_ble_eq_true rfl)
        first | refine z_aload_n dX10_log_23 rfl rfl ?_ | refine z_aload_nN dX10_log_23 rfl rfl ?_
        refine z_iload_n dX10_log_24 rfl rfl ?_
        refine zcx_X10_124 rfl dX10_log_25 rfl mo_recv (q_rowFault g h m S w.1 hR.1 _ c11) rfl rfl ⟨(Nat.le_of_ble_eq_true rfl), (Nat.le_of_ble_eq_true rfl)⟩ ⟨(Nat.le_of_ble_eq_true rfl), (Nat.le_of_ble_eq_true rfl)⟩ (Nat.le_of_ble_eq_true rfl) ?_
        refine z_istore dX10_log_28 rfl (Nat.le_of_ble_eq_true rfl) ?_
        refine z_iload dX10_log_30 rfl rfl ?_
        refine z_if_le (tgt := 40) dX10_log_32 rfl (by decide) (fun c32 => ?_) (fun c32 => ?_)
        · skip
          have hf0 : ¬ 0 < rowF w.1 (ix s) := Int32.not_lt.mpr c32
          have h2 := rf_2 (rep_st hR.1 (ix_lt c11)) hf0
          have kz := rep_kind hR.1 (ix_lt c11) h2
          first | refine z_aload_n dX10_log_40 rfl rfl ?_ | refine z_aload_nN dX10_log_40 rfl rfl ?_
          refine z_iload_n dX10_log_41 rfl rfl ?_
          refine zcx_X10_146 rfl dX10_log_42 rfl mo_recv (r_kindOf g h m S _ (rec_in c11) kz.2.2.1) rfl rfl ⟨(Nat.le_of_ble_eq_true rfl), (Nat.le_of_ble_eq_true rfl)⟩ ⟨(Nat.le_of_ble_eq_true rfl), (Nat.le_of_ble_eq_true rfl)⟩ (Nat.le_of_ble_eq_true rfl) ?_
          rw [kz.1]
          refine z_bipush (v := 7) dX10_log_45 rfl (by decide) ?_
          refine z_icmp_le (tgt := 54) dX10_log_47 rfl (by decide) (fun c47 => ?_) (fun c47 => ?_)
          · skip
            first | refine z_aload_n dX10_log_54 rfl rfl ?_ | refine z_aload_nN dX10_log_54 rfl rfl ?_
            refine z_iload_n dX10_log_55 rfl rfl ?_
            refine zcx_X10_146 rfl dX10_log_56 rfl mo_recv (r_kindOf g h m S _ (rec_in c11) kz.2.2.1) rfl rfl ⟨(Nat.le_of_ble_eq_true rfl), (Nat.le_of_ble_eq_true rfl)⟩ ⟨(Nat.le_of_ble_eq_true rfl), (Nat.le_of_ble_eq_true rfl)⟩ (Nat.le_of_ble_eq_true rfl) ?_
            rw [kz.1]
            refine z_iload_n dX10_log_59 rfl rfl ?_
            refine zcx_X10_80 rfl dX10_log_60 rfl (r_goesInto g _ _ _) rfl rfl ⟨(Nat.le_of_ble_eq_true rfl), (Nat.le_of_ble_eq_true rfl)⟩ ⟨(Nat.le_of_ble_eq_true rfl), (Nat.le_of_ble_eq_true rfl)⟩ (Nat.le_of_ble_eq_true rfl) ?_
            refine z_bif_eq (tgt := 70) dX10_log_63 rfl (by decide) (fun c63 => ?_) (fun c63 => ?_)
            · skip
              refine z_iconst (v := 5) dX10_log_70 rfl (by decide) ?_
              exact kk _ (by unfold logF readF; grind)
            · skip
              refine z_iconst (v := 0) dX10_log_66 rfl (by decide) ?_
              refine z_goto (tgt := 71) dX10_log_67 rfl (by decide) ?_
              exact kk _ (by unfold logF readF; grind)
          · skip
            refine z_iconst (v := 4) dX10_log_50 rfl (by decide) ?_
            refine z_goto (tgt := 71) dX10_log_51 rfl (by decide) ?_
            exact kk _ (by rw [logF, if_neg hf0, readF, if_pos (Int32.not_le.mp c47)])
        · skip
          refine z_iload dX10_log_35 rfl rfl ?_
          refine z_goto (tgt := 71) dX10_log_37 rfl (by decide) ?_
          exact kk _ (by rw [logF, if_pos (Int32.not_le.mp c32)])
      · skip
        refine z_iconst (v := -1) dX10_log_21 rfl (by decide) ?_
        exact z_iret dX10_log_22 rfl rfl (mPost_of hR (log_bad (by grind))) (Nat.le_of_ble_eq_true rfl) (Nat.le_of_ble_eq_true rfl)

