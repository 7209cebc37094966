def mSi (i : Nat) : sMS := (va_up mS0.1 6 (fun q => if q < i then -1 else 0), mS0.2)
def mPt (S : sMS) (j a : Nat) (v : Int32) : sMS := (va_up S.1 j (upd (S.1 j) a v), S.2)
def mS1 : sMS := mPt (mPt (mPt (mSi 8) 7 1 3) 7 2 2) 7 3 1
theorem mSi_0 : mS0 = mSi 0 := by
  refine Prod.ext (funext fun j => funext fun q => ?_) rfl
  simp [mSi, mS0, va_up]
theorem mSi_s (i : Nat) : mPt (mSi i) 6 i (-1) = mSi (i + 1) := by
  refine Prod.ext (funext fun j => funext fun q => ?_) rfl
  simp only [mPt, mSi, va_up, upd]
  by_cases e : j = 6
  · simp only [if_pos e, if_true, upd]
    by_cases e2 : q = i
    · rw [if_pos e2, if_pos (by omega)]
    · rw [if_neg e2]
      by_cases e3 : q < i
      · rw [if_pos e3, if_pos (by omega)]
      · rw [if_neg e3, if_neg (by omega)]
  · simp only [if_neg e]

set_option maxHeartbeats 800000 in
set_option maxRecDepth 100000 in
theorem r_init_L (g : zG) (h : zH) (m : Nat) : ∀ (n i : Nat), i + n = 8 → zZ g YX10_init (zE g (fun v h1 => v = none ∧ h1 = mUp m mS1 h) 19 3900) 159 [(1, .int (nI i)), (0, .ref m)] [] (mUp m (mSi i) h) 19 3900 := by
  intro n
  induction n with
  | zero =>
    intro i hin
    refine z_iload_n dX10_init_159 rfl rfl ?_
    refine z_bipush (v := 8) dX10_init_160 rfl (by decide) ?_
    refine z_icmp_ge (tgt := 178) dX10_init_162 rfl (by decide) (fun c162 => ?_) (fun c162 => absurd c162 (fun z => z (nI_le (a := 8) (by omega) (by omega))))
    first | refine z_aload_n dX10_init_178 rfl rfl ?_ | refine z_aload_nN dX10_init_178 rfl rfl ?_
    refine zmg_30 rfl dX10_init_179 rfl ?_
    refine z_iconst (v := 1) dX10_init_182 rfl (by decide) ?_
    refine z_iconst (v := 3) dX10_init_183 rfl (by decide) ?_
    refine zm_iast dX10_init_184 rfl rfl (vp_in_nI (n := 1) (N := 4) (by decide) (by decide)) ?_
    first | refine z_aload_n dX10_init_185 rfl rfl ?_ | refine z_aload_nN dX10_init_185 rfl rfl ?_
    refine zmg_30 rfl dX10_init_186 rfl ?_
    refine z_iconst (v := 2) dX10_init_189 rfl (by decide) ?_
    refine z_iconst (v := 2) dX10_init_190 rfl (by decide) ?_
    refine zm_iast dX10_init_191 rfl rfl (vp_in_nI (n := 2) (N := 4) (by decide) (by decide)) ?_
    first | refine z_aload_n dX10_init_192 rfl rfl ?_ | refine z_aload_nN dX10_init_192 rfl rfl ?_
    refine zmg_30 rfl dX10_init_193 rfl ?_
    refine z_iconst (v := 3) dX10_init_196 rfl (by decide) ?_
    refine z_iconst (v := 1) dX10_init_197 rfl (by decide) ?_
    refine zm_iast dX10_init_198 rfl rfl (vp_in_nI (n := 3) (N := 4) (by decide) (by decide)) ?_
    exact z_vret dX10_init_199 rfl rfl ⟨rfl, by rw [show i = 8 by omega]; rfl⟩ (Nat.le_of_ble_eq_true rfl) (Nat.le_of_ble_eq_true rfl)
  | succ n ih =>
    intro i hin
    refine z_iload_n dX10_init_159 rfl rfl ?_
    refine z_bipush (v := 8) dX10_init_160 rfl (by decide) ?_
    refine z_icmp_ge (tgt := 178) dX10_init_162 rfl (by decide) (fun c162 => absurd c162 (nI_ge (b := 8) (by omega) (by decide))) (fun c162 => ?_)
    first | refine z_aload_n dX10_init_165 rfl rfl ?_ | refine z_aload_nN dX10_init_165 rfl rfl ?_
    refine zmg_27 rfl dX10_init_166 rfl ?_
    refine z_iload_n dX10_init_169 rfl rfl ?_
    refine z_iconst (v := -1) dX10_init_170 rfl (by decide) ?_
    refine zm_iast dX10_init_171 rfl rfl (vp_in_nI (by omega) (by decide)) ?_
    refine zZ_h (mUp m (mSi (i + 1)) h) (congrArg (fun S => mUp m S h) (by rw [← mSi_s, nI_clamp (show i < 2 ^ 31 by omega)]; rfl)) ?_
    refine z_iinc (v := nI (i + 1)) dX10_init_172 rfl rfl (nI_inc i) (Nat.le_of_ble_eq_true rfl) ?_
    refine z_goto (tgt := 159) dX10_init_175 rfl (by decide) ?_
    refine z_lv [(1, .int (nI (i + 1))), (0, .ref m)] ⟨rfl, rfl, trivial⟩ ?_
    exact ih (i + 1) (by omega)

set_option maxHeartbeats 800000 in
set_option maxRecDepth 100000 in
theorem r_init (g : zG) (f : Nat → Option zOb) (m : Nat) : zXv g yX10_init cX10_init 2 none rmX10_init [.ref m] (m + 1, (va_up f m (some (.inr (7, [.null, .null, .null, .null, .null, .null, .long 0, .int 0, .null, .null, .int 0, .int 0, .int 0, .null, .null, .null, .null, .null, .null, .null, .null, .null, .int 0, .int 0, .null, .null]))))) (mUp m mS1 (m + 20, f)) := by
  refine zM_of (by decide) (Nat.le_of_ble_eq_true rfl) ?_
  refine r_init_1 g f m _ ?_
  refine z_iconst (v := 0) dX10_init_157 rfl (by decide) ?_
  refine z_istore_n dX10_init_158 rfl (Nat.le_of_ble_eq_true rfl) ?_
  refine zZ_h (mUp m (mSi 0) (m + 20, f)) (by rw [← mSi_0]) ?_
  refine z_lv [(1, .int (nI 0)), (0, .ref m)] ⟨rfl, rfl, trivial⟩ ?_
  exact r_init_L g (m + 20, f) m 8 0 (by omega)

