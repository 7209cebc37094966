def drS (kind u : Int32) : Int32 := if kind = 9 then u - u / 11 * 11 else kind
def drV (u : Int32) : Int32 := u / 16 - u / 16 / 64 * 64 - 8
def drC (kind u : Int32) : sC := if drS kind u = 5 ∧ u / 16 - u / 16 / 2 * 2 = 1 then (5, (drV u).toInt64 * 1000000007, 0) else sVal (drS kind u) (drV u)
def drawL (kind : Int32) : Nat → Int32 → List sC
  | 0, _ => []
  | n + 1, x => drC kind (drw (nxt x)) :: drawL kind n (nxt x)
/-- 29 -/
def pDraw (w : sW) (r kind n seed : Int32) : Int32 × sW :=
  if ¬ isRec r ∨ ¬ (0 ≤ kind ∧ kind ≤ 10) ∨ ¬ (0 ≤ n ∧ n ≤ 20) then (-1, w)
  else (1, wR w (rNew w.1 (ix r) (kind, (drawL kind (ix n) seed).map (fun c => sConv c kind))))
theorem nI_div {n d : Nat} (hn : n < 2 ^ 31) (hd : d < 2 ^ 31) (h0 : 0 < d) : nI n / nI d = nI (n / d) := by
  apply Int32.toInt_inj.mp
  have hq : n / d ≤ n := Nat.div_le_self n d
  rw [Int32.toInt_div, nI_toInt hn, nI_toInt hd, nI_toInt (by omega), Int.tdiv_eq_ediv_of_nonneg (by omega)]
  have e : ((n : Int) / (d : Int)) = ((n / d : Nat) : Int) := by rfl
  rw [e]
  generalize n / d = q at hq
  exact Int.bmod_eq_of_le (by omega) (by omega)
theorem nI_rem {n d : Nat} (hn : n < 2 ^ 31) (hd : d < 2 ^ 31) (h0 : 0 < d) : nI n - nI n / nI d * nI d = nI (n % d) := by
  rw [nI_div hn hd h0, show nI (n / d) * nI d = nI (n / d * d) from pk_mul _ _, nI_sub (Nat.div_mul_le_self n d)]
  congr 1
  have := Nat.div_add_mod n d
  rw [Nat.mul_comm] at this
  omega
theorem drw_n (x : Int32) : ∃ n, n < 32768 ∧ drw x = nI n := by
  have h : 0 ≤ drw x ∧ drw x ≤ 32767 := by
    have e : (drw x).toBitVec = (x >>> 16).toBitVec &&& 32767#32 := rfl
    have hu : (drw x).toBitVec.toNat ≤ 32767 := by rw [e, BitVec.toNat_and]; exact Nat.and_le_right
    have hi : (drw x).toInt = (drw x).toBitVec.toInt := rfl
    have hk : (drw x).toBitVec.toInt = ((drw x).toBitVec.toNat : Int) := BitVec.toInt_eq_toNat_of_lt (by omega)
    refine ⟨?_, ?_⟩
    · rw [Int32.le_iff_toInt_le, hi, hk]; show (0 : Int) ≤ _; omega
    · rw [Int32.le_iff_toInt_le, hi, hk]; show _ ≤ (32767 : Int); omega
  obtain ⟨n, hn, e⟩ := nI_of2 (x := drw x) (M := 32767) (n := 32767) (by decide) (by have := h.1; grind) h.2
  exact ⟨n, by omega, e⟩
theorem drS_in {kind : Int32} (hk : 0 ≤ kind ∧ kind ≤ 10) (x : Int32) : 0 ≤ drS kind (drw x) ∧ drS kind (drw x) ≤ 10 := by
  unfold drS
  split
  · obtain ⟨n, hn, e⟩ := drw_n x
    rw [e, show nI n - nI n / 11 * 11 = nI (n % 11) from nI_rem (d := 11) (by omega) (by decide) (by decide)]
    have : n % 11 < 11 := Nat.mod_lt _ (by decide)
    exact ⟨nI_le (a := 0) (by omega) (by omega), nI_le (b := 10) (by omega) (by decide)⟩
  · exact hk
theorem drC_1 (kind u : Int32) : (drC kind u).1 = drS kind u := by
  unfold drC
  split
  · rename_i h; exact h.1.symm
  · exact sVal_1 _ _
theorem drC_ok {kind : Int32} (hk : 0 ≤ kind ∧ kind ≤ 10) (x : Int32) : sOk (drC kind (drw x)) ∧ sInto (drC kind (drw x)).1 kind = true := by
  refine ⟨?_, ?_⟩
  · unfold drC
    split
    · exact ⟨show (0 : Int32) ≤ 5 by decide, show (5 : Int32) ≤ 10 by decide, fun q => absurd (show (5 : Int32) = 6 from q) (by decide), fun q => absurd (show (5 : Int32) = 7 from q) (by decide), fun _ _ => rfl, fun q => absurd (show (5 : Int32) = 0 from q) (by decide), fun q => absurd (show (5 : Int32) = 9 from q) (by decide)⟩
    · exact sVal_ok _ (drS_in hk x)
  · rw [drC_1]
    unfold drS
    split
    · rename_i h; rw [h]; exact into_9 _
    · by_cases h7 : kind ≤ 7
      · exact into_kk ⟨hk.1, h7⟩
      · have : 7 < kind := by grind
        unfold sInto
        grind
theorem drawL_len (kind : Int32) : ∀ n x, (drawL kind n x).length = n
  | 0, _ => rfl
  | n + 1, x => by rw [drawL, List.length_cons, drawL_len kind n]
theorem drawL_ok {kind : Int32} (hk : 0 ≤ kind ∧ kind ≤ 10) : ∀ n x c, c ∈ drawL kind n x → sOk c ∧ sInto c.1 kind = true
  | 0, _, c, h => absurd h (by simp [drawL])
  | n + 1, x, c, h => by
    rw [drawL, List.mem_cons] at h
    rcases h with h | h
    · rw [h]; exact drC_ok hk _
    · exact drawL_ok hk n _ c h
theorem draw_bad {w : sW} {r kind n seed : Int32} (h : ¬ isRec r ∨ ¬ (0 ≤ kind ∧ kind ≤ 10) ∨ ¬ (0 ≤ n ∧ n ≤ 20)) : pDraw w r kind n seed = (-1, w) := if_pos h
theorem draw_ok {w : sW} {r kind seed : Int32} {N : Nat} (hr : isRec r) (hk : 0 ≤ kind ∧ kind ≤ 10) (hn : 0 ≤ nI N ∧ nI N ≤ 20) (hN : N ≤ 20) : pDraw w r kind (nI N) seed = (1, wR w (rNew w.1 (ix r) (kind, (drawL kind N seed).map (fun c => sConv c kind)))) := by
  unfold pDraw
  rw [if_neg (fun z => z.elim (fun z => z hr) (fun z => z.elim (fun z => z hk) (fun z => z hn))), show ix (nI N) = N from nI_clamp (by omega)]
theorem mLay_at (S : sMS) (k : Nat) (c : sC) (x : Int64) : (( mLay S k c).1, vp_updL (mLay S k c).2.1 k x, (mLay S k c).2.2) = mLay S k (c.1, x, c.2.2) := by
  rw [mLay_n, mLay_lay]
  congr 1
  have h := mc_lay S k c k
  rw [if_pos rfl] at h
  show ((mLay S k c).1 1 k, x, (mLay S k c).2.2.1 k) = _
  rw [show (mLay S k c).1 1 k = c.1 from congrArg (fun c : sC => c.1) h, show (mLay S k c).2.2.1 k = c.2.2 from congrArg (fun c : sC => c.2.2) h]

abbrev YX10_draw : zY := (yX10_draw.cls, cX10_draw, 10, (some .int), rmX10_draw, yX10_draw.name, fun _ _ => True)
set_option maxHeartbeats 800000 in
set_option maxRecDepth 100000 in
theorem R_draw_L (g : zG) (h : zH) (m : Nat) (S : sMS) (w : sW) (hR : RepM S w) (r kind seed : Int32) (N : Nat) (hr : isRec r) (hk : 0 ≤ kind ∧ kind ≤ 10) (hn : 0 ≤ nI N ∧ nI N ≤ 20) (hN : N ≤ 20) : ∀ (n : Nat) (S1 : sMS) (i : Nat) (x : Int32) (M : List sC), i + n = N → M.length = i → scr S S1 → made S1 M → drawL kind N seed = M ++ drawL kind n x → zZ g YX10_draw (zE g (mPost m h (pDraw w r kind (nI N) seed)) 0 0) 35 [(6, .int (nI i)), (5, .int x), (0, .ref m), (1, .int r), (2, .int kind), (3, .int (nI N))] [] (mUp m S1 h) 0 0 := by
  intro n
  induction n with
  | zero =>
    intro S1 i x M hin hMi hs1 hm he
    have hMN : M.length = N := by omega
    have he0 : drawL kind N seed = M := by rw [he]; exact List.append_nil M
    refine z_iload dX10_draw_35 rfl rfl ?_
    refine z_iload_n dX10_draw_37 rfl rfl ?_
    refine z_icmp_ge (tgt := 144) dX10_draw_38 rfl (by decide) (fun c38 => ?_) (fun c38 => absurd c38 (fun z => z (nI_le (by omega) (by omega))))
    first | refine z_aload_n dX10_draw_144 rfl rfl ?_ | refine z_aload_nN dX10_draw_144 rfl rfl ?_
    refine z_iload_n dX10_draw_145 rfl rfl ?_
    refine z_iload_n dX10_draw_146 rfl rfl ?_
    refine z_iload_n dX10_draw_147 rfl rfl ?_
    refine zc_X10_293 rfl dX10_draw_148 rfl mo_recv (r_takesMade g h m S1 r _ N hN (rec_in hr)) rfl rfl ⟨(Nat.le_of_ble_eq_true rfl), (Nat.le_of_ble_eq_true rfl)⟩ ⟨(Nat.le_of_ble_eq_true rfl), (Nat.le_of_ble_eq_true rfl)⟩ (Nat.le_of_ble_eq_true rfl) (fun v h1 hz => ?_)
    obtain ⟨rfl, j, hj, hfr, rfl⟩ := hz
    refine z_iconst (v := 1) dX10_draw_151 rfl (by decide) ?_
    exact z_iret dX10_draw_152 rfl rfl (mPost_of (by have z := RepM_made (RepM_scr hR hs1) hr hj hfr hk (L := M) (by omega) (by rw [← he0]; exact drawL_ok hk _ _) hm; rw [hMN] at z; exact z) (by rw [draw_ok hr hk hn hN, he0])) (Nat.le_of_ble_eq_true rfl) (Nat.le_of_ble_eq_true rfl)
  | succ n ih =>
    intro S1 i x M hin hMi hs1 hm he
    have kk : ∀ s, s = drS kind (drw (nxt x)) → zZ g YX10_draw (zE g (mPost m h (pDraw w r kind (nI N) seed)) 0 0) 79 [(7, .int (drw (nxt x))), (5, .int (nxt x)), (6, .int (nI i)), (0, .ref m), (1, .int r), (2, .int kind), (3, .int (nI N))] [.int s] (mUp m S1 h) 0 0 := by
      intro s hs
      subst hs
      refine z_istore dX10_draw_79 rfl (Nat.le_of_ble_eq_true rfl) ?_
      by_cases hs5 : drS kind (drw (nxt x)) = 5
      · by_cases h1 : drw (nxt x) / 16 - drw (nxt x) / 16 / 2 * 2 = 1
        · skip
          refine z_sipush (v := 520) dX10_draw_81 rfl (by decide) ?_
          refine z_iload dX10_draw_84 rfl rfl ?_
          refine z_iadd dX10_draw_86 rfl ?_
          rw [n520]
          refine z_istore dX10_draw_87 rfl (Nat.le_of_ble_eq_true rfl) ?_
          first | refine z_aload_n dX10_draw_89 rfl rfl ?_ | refine z_aload_nN dX10_draw_89 rfl rfl ?_
          refine z_iload dX10_draw_90 rfl rfl ?_
          refine z_iload dX10_draw_92 rfl rfl ?_
          refine z_iload dX10_draw_94 rfl rfl ?_
          refine z_bipush (v := 16) dX10_draw_96 rfl (by decide) ?_
          refine z_idiv dX10_draw_98 rfl (by decide) ?_
          refine z_bipush (v := 64) dX10_draw_99 rfl (by decide) ?_
          refine z_irem dX10_draw_101 rfl (by decide) ?_
          refine z_bipush (v := 8) dX10_draw_102 rfl (by decide) ?_
          refine z_isub dX10_draw_104 rfl ?_
          change zZ _ _ _ _ _ (.int (drV (drw (nxt x))) :: _) _ _ _
          refine zcv_X10_174 rfl dX10_draw_105 rfl mo_recv (r_values g h m S1 _ _ _ (vp_in_nI (show 520 + i < 880 by omega) (by decide))) rfl rfl ⟨(Nat.le_of_ble_eq_true rfl), (Nat.le_of_ble_eq_true rfl)⟩ ⟨(Nat.le_of_ble_eq_true rfl), (Nat.le_of_ble_eq_true rfl)⟩ (Nat.le_of_ble_eq_true rfl) ?_
          rw [nI_clamp (show 520 + i < 2 ^ 31 by omega)]
          refine z_iload dX10_draw_108 rfl rfl ?_
          refine z_iconst (v := 5) dX10_draw_110 rfl (by decide) ?_
          refine z_icmp_ne (tgt := 138) dX10_draw_111 rfl (by decide) (fun c111 => absurd c111 (fun z => z hs5)) (fun c111 => ?_)
          refine z_iload dX10_draw_114 rfl rfl ?_
          refine z_bipush (v := 16) dX10_draw_116 rfl (by decide) ?_
          refine z_idiv dX10_draw_118 rfl (by decide) ?_
          refine z_iconst (v := 2) dX10_draw_119 rfl (by decide) ?_
          refine z_irem dX10_draw_120 rfl (by decide) ?_
          refine z_iconst (v := 1) dX10_draw_121 rfl (by decide) ?_
          refine z_icmp_ne (tgt := 138) dX10_draw_122 rfl (by decide) (fun c122 => absurd c122 (fun z => z h1)) (fun c122 => ?_)
          first | refine z_aload_n dX10_draw_125 rfl rfl ?_ | refine z_aload_nN dX10_draw_125 rfl rfl ?_
          refine zmg_13 rfl dX10_draw_126 rfl ?_
          refine z_iload dX10_draw_129 rfl rfl ?_
          refine z_dup2 dX10_draw_131 rfl rfl rfl ?_
          refine zm_lald dX10_draw_132 rfl rfl (vp_in_nI (show 520 + i < 880 by omega) (by decide)) ?_
          rw [nI_clamp (show 520 + i < 2 ^ 31 by omega), show (mLay S1 (520 + i) (sVal (drS kind (drw (nxt x))) (drV (drw (nxt x))))).2.1 (520 + i) = (drV (drw (nxt x))).toInt64 from by have z := mc_lay S1 (520 + i) (sVal (drS kind (drw (nxt x))) (drV (drw (nxt x)))) (520 + i); rw [if_pos rfl] at z; exact (congrArg (fun c : sC => c.2.1) z).trans (by rw [hs5]; rfl)]
          refine zk_X10_319 rfl dX10_draw_133 rfl ?_
          refine z_lmul dX10_draw_136 rfl ?_
          refine zm_last dX10_draw_137 rfl rfl (vp_in_nI (show 520 + i < 880 by omega) (by decide)) ?_
          rw [nI_clamp (show 520 + i < 2 ^ 31 by omega), mLay_at, show ((sVal (drS kind (drw (nxt x))) (drV (drw (nxt x)))).1, (drV (drw (nxt x))).toInt64 * 1000000007, (sVal (drS kind (drw (nxt x))) (drV (drw (nxt x)))).2.2) = drC kind (drw (nxt x)) from by rw [drC, if_pos ⟨hs5, h1⟩, hs5]; rfl]
          refine z_iinc (v := nI (i + 1)) dX10_draw_138 rfl rfl (nI_inc i) (Nat.le_of_ble_eq_true rfl) ?_
          refine z_goto (tgt := 35) dX10_draw_141 rfl (by decide) ?_
          refine z_lv [(6, .int (nI (i + 1))), (5, .int (nxt x)), (0, .ref m), (1, .int r), (2, .int kind), (3, .int (nI N))] ⟨rfl, rfl, rfl, rfl, rfl, rfl, trivial⟩ ?_
          exact ih (mLay S1 (520 + i) (drC kind (drw (nxt x)))) (i + 1) (nxt x) (M ++ [drC kind (drw (nxt x))]) (by omega) (by rw [List.length_append, hMi]; rfl) (scr_lay hs1 (by omega) _) (by have z := made_s hm (drC kind (drw (nxt x))); rw [hMi] at z; exact z) (by rw [he, drawL]; simp only [List.append_assoc, List.cons_append, List.nil_append])
        · have n1 := h1
          refine z_sipush (v := 520) dX10_draw_81 rfl (by decide) ?_
          refine z_iload dX10_draw_84 rfl rfl ?_
          refine z_iadd dX10_draw_86 rfl ?_
          rw [n520]
          refine z_istore dX10_draw_87 rfl (Nat.le_of_ble_eq_true rfl) ?_
          first | refine z_aload_n dX10_draw_89 rfl rfl ?_ | refine z_aload_nN dX10_draw_89 rfl rfl ?_
          refine z_iload dX10_draw_90 rfl rfl ?_
          refine z_iload dX10_draw_92 rfl rfl ?_
          refine z_iload dX10_draw_94 rfl rfl ?_
          refine z_bipush (v := 16) dX10_draw_96 rfl (by decide) ?_
          refine z_idiv dX10_draw_98 rfl (by decide) ?_
          refine z_bipush (v := 64) dX10_draw_99 rfl (by decide) ?_
          refine z_irem dX10_draw_101 rfl (by decide) ?_
          refine z_bipush (v := 8) dX10_draw_102 rfl (by decide) ?_
          refine z_isub dX10_draw_104 rfl ?_
          change zZ _ _ _ _ _ (.int (drV (drw (nxt x))) :: _) _ _ _
          refine zcv_X10_174 rfl dX10_draw_105 rfl mo_recv (r_values g h m S1 _ _ _ (vp_in_nI (show 520 + i < 880 by omega) (by decide))) rfl rfl ⟨(Nat.le_of_ble_eq_true rfl), (Nat.le_of_ble_eq_true rfl)⟩ ⟨(Nat.le_of_ble_eq_true rfl), (Nat.le_of_ble_eq_true rfl)⟩ (Nat.le_of_ble_eq_true rfl) ?_
          rw [nI_clamp (show 520 + i < 2 ^ 31 by omega)]
          refine z_iload dX10_draw_108 rfl rfl ?_
          refine z_iconst (v := 5) dX10_draw_110 rfl (by decide) ?_
          refine z_icmp_ne (tgt := 138) dX10_draw_111 rfl (by decide) (fun c111 => absurd c111 (fun z => z hs5)) (fun c111 => ?_)
          refine z_iload dX10_draw_114 rfl rfl ?_
          refine z_bipush (v := 16) dX10_draw_116 rfl (by decide) ?_
          refine z_idiv dX10_draw_118 rfl (by decide) ?_
          refine z_iconst (v := 2) dX10_draw_119 rfl (by decide) ?_
          refine z_irem dX10_draw_120 rfl (by decide) ?_
          refine z_iconst (v := 1) dX10_draw_121 rfl (by decide) ?_
          refine z_icmp_ne (tgt := 138) dX10_draw_122 rfl (by decide) (fun c122 => ?_) (fun c122 => absurd c122 n1)
          rw [show sVal (drS kind (drw (nxt x))) (drV (drw (nxt x))) = drC kind (drw (nxt x)) from by rw [drC, if_neg (fun z => n1 z.2)]]
          refine z_iinc (v := nI (i + 1)) dX10_draw_138 rfl rfl (nI_inc i) (Nat.le_of_ble_eq_true rfl) ?_
          refine z_goto (tgt := 35) dX10_draw_141 rfl (by decide) ?_
          refine z_lv [(6, .int (nI (i + 1))), (5, .int (nxt x)), (0, .ref m), (1, .int r), (2, .int kind), (3, .int (nI N))] ⟨rfl, rfl, rfl, rfl, rfl, rfl, trivial⟩ ?_
          exact ih (mLay S1 (520 + i) (drC kind (drw (nxt x)))) (i + 1) (nxt x) (M ++ [drC kind (drw (nxt x))]) (by omega) (by rw [List.length_append, hMi]; rfl) (scr_lay hs1 (by omega) _) (by have z := made_s hm (drC kind (drw (nxt x))); rw [hMi] at z; exact z) (by rw [he, drawL]; simp only [List.append_assoc, List.cons_append, List.nil_append])
      · have ns := hs5
        refine z_sipush (v := 520) dX10_draw_81 rfl (by decide) ?_
        refine z_iload dX10_draw_84 rfl rfl ?_
        refine z_iadd dX10_draw_86 rfl ?_
        rw [n520]
        refine z_istore dX10_draw_87 rfl (Nat.le_of_ble_eq_true rfl) ?_
        first | refine z_aload_n dX10_draw_89 rfl rfl ?_ | refine z_aload_nN dX10_draw_89 rfl rfl ?_
        refine z_iload dX10_draw_90 rfl rfl ?_
        refine z_iload dX10_draw_92 rfl rfl ?_
        refine z_iload dX10_draw_94 rfl rfl ?_
        refine z_bipush (v := 16) dX10_draw_96 rfl (by decide) ?_
        refine z_idiv dX10_draw_98 rfl (by decide) ?_
        refine z_bipush (v := 64) dX10_draw_99 rfl (by decide) ?_
        refine z_irem dX10_draw_101 rfl (by decide) ?_
        refine z_bipush (v := 8) dX10_draw_102 rfl (by decide) ?_
        refine z_isub dX10_draw_104 rfl ?_
        change zZ _ _ _ _ _ (.int (drV (drw (nxt x))) :: _) _ _ _
        refine zcv_X10_174 rfl dX10_draw_105 rfl mo_recv (r_values g h m S1 _ _ _ (vp_in_nI (show 520 + i < 880 by omega) (by decide))) rfl rfl ⟨(Nat.le_of_ble_eq_true rfl), (Nat.le_of_ble_eq_true rfl)⟩ ⟨(Nat.le_of_ble_eq_true rfl), (Nat.le_of_ble_eq_true rfl)⟩ (Nat.le_of_ble_eq_true rfl) ?_
        rw [nI_clamp (show 520 + i < 2 ^ 31 by omega)]
        refine z_iload dX10_draw_108 rfl rfl ?_
        refine z_iconst (v := 5) dX10_draw_110 rfl (by decide) ?_
        refine z_icmp_ne (tgt := 138) dX10_draw_111 rfl (by decide) (fun c111 => ?_) (fun c111 => absurd c111 ns)
        rw [show sVal (drS kind (drw (nxt x))) (drV (drw (nxt x))) = drC kind (drw (nxt x)) from by rw [drC, if_neg (fun z => ns z.1)]]
        refine z_iinc (v := nI (i + 1)) dX10_draw_138 rfl rfl (nI_inc i) (Nat.le_of_ble_eq_true rfl) ?_
        refine z_goto (tgt := 35) dX10_draw_141 rfl (by decide) ?_
        refine z_lv [(6, .int (nI (i + 1))), (5, .int (nxt x)), (0, .ref m), (1, .int r), (2, .int kind), (3, .int (nI N))] ⟨rfl, rfl, rfl, rfl, rfl, rfl, trivial⟩ ?_
        exact ih (mLay S1 (520 + i) (drC kind (drw (nxt x)))) (i + 1) (nxt x) (M ++ [drC kind (drw (nxt x))]) (by omega) (by rw [List.length_append, hMi]; rfl) (scr_lay hs1 (by omega) _) (by have z := made_s hm (drC kind (drw (nxt x))); rw [hMi] at z; exact z) (by rw [he, drawL]; simp only [List.append_assoc, List.cons_append, List.nil_append])
    refine z_iload dX10_draw_35 rfl rfl ?_
    refine z_iload_n dX10_draw_37 rfl rfl ?_
    refine z_icmp_ge (tgt := 144) dX10_draw_38 rfl (by decide) (fun c38 => absurd c38 (nI_ge (by omega) (by omega))) (fun c38 => ?_)
    refine z_iload dX10_draw_41 rfl rfl ?_
    refine zk_X10_314w rfl dX10_draw_43 rfl ?_
    refine z_imul dX10_draw_46 rfl ?_
    refine z_sipush (v := 12345) dX10_draw_47 rfl (by decide) ?_
    refine z_iadd dX10_draw_50 rfl ?_
    change zZ _ _ _ _ _ (.int (nxt x) :: _) _ _ _
    refine z_istore dX10_draw_51 rfl (Nat.le_of_ble_eq_true rfl) ?_
    refine z_iload dX10_draw_53 rfl rfl ?_
    refine z_bipush (v := 16) dX10_draw_55 rfl (by decide) ?_
    refine z_ishr dX10_draw_57 rfl ?_
    rw [show (16 : Int32) &&& 31 = 16 from by decide]
    refine z_sipush (v := 32767) dX10_draw_58 rfl (by decide) ?_
    refine z_iand dX10_draw_61 rfl ?_
    change zZ _ _ _ _ _ (.int (drw (nxt x)) :: _) _ _ _
    refine z_istore dX10_draw_62 rfl (Nat.le_of_ble_eq_true rfl) ?_
    refine z_iload_n dX10_draw_64 rfl rfl ?_
    refine z_bipush (v := 9) dX10_draw_65 rfl (by decide) ?_
    refine z_icmp_ne (tgt := 78) dX10_draw_67 rfl (by decide) (fun c67 => ?_) (fun c67 => ?_)
    · skip
      refine z_iload_n dX10_draw_78 rfl rfl ?_
      exact kk _ (by first | rw [drS, if_pos c67] | rw [drS, if_neg c67])
    · skip
      refine z_iload dX10_draw_70 rfl rfl ?_
      refine z_bipush (v := 11) dX10_draw_72 rfl (by decide) ?_
      refine z_irem dX10_draw_74 rfl (by decide) ?_
      refine z_goto (tgt := 79) dX10_draw_75 rfl (by decide) ?_
      exact kk _ (by first | rw [drS, if_pos c67] | rw [drS, if_neg c67])

set_option maxHeartbeats 800000 in
set_option maxRecDepth 100000 in
theorem R_draw (g : zG) (h : zH) (m : Nat) (S : sMS) (w : sW) (hR : RepM S w) (r kind n seed : Int32) : zM g yX10_draw cX10_draw 10 (some .int) rmX10_draw [.ref m, .int r, .int kind, .int n, .int seed] (mUp m S h) (mPost m h (pDraw w r kind n seed)) := by
  refine zM_of (by decide) (Nat.le_of_ble_eq_true rfl) ?_
  refine z_iload_n dX10_draw_0 rfl rfl ?_
  refine zcx_X10_141 rfl dX10_draw_1 rfl (r_isRecord g _ _) rfl rfl ⟨(Nat.le_of_ble_eq_true rfl), (Nat.le_of_ble_eq_true rfl)⟩ ⟨(Nat.le_of_ble_eq_true rfl), (Nat.le_of_ble_eq_true rfl)⟩ (Nat.le_of_ble_eq_true rfl) ?_
  refine z_bif_eq (tgt := 26) dX10_draw_4 rfl (by decide) (fun c4 => ?_) (fun c4 => ?_)
  · skip
    refine z_iconst (v := -1) dX10_draw_26 rfl (by decide) ?_
    exact z_iret dX10_draw_27 rfl rfl (mPost_of hR (draw_bad (by grind))) (Nat.le_of_ble_eq_true rfl) (Nat.le_of_ble_eq_true rfl)
  · skip
    refine z_iload_n dX10_draw_7 rfl rfl ?_
    refine zcx_X10_184 rfl dX10_draw_8 rfl (r_isSort g _ _) rfl rfl ⟨(Nat.le_of_ble_eq_true rfl), (Nat.le_of_ble_eq_true rfl)⟩ ⟨(Nat.le_of_ble_eq_true rfl), (Nat.le_of_ble_eq_true rfl)⟩ (Nat.le_of_ble_eq_true rfl) ?_
    refine z_bif_eq (tgt := 26) dX10_draw_11 rfl (by decide) (fun c11 => ?_) (fun c11 => ?_)
    · skip
      refine z_iconst (v := -1) dX10_draw_26 rfl (by decide) ?_
      exact z_iret dX10_draw_27 rfl rfl (mPost_of hR (draw_bad (by grind))) (Nat.le_of_ble_eq_true rfl) (Nat.le_of_ble_eq_true rfl)
    · skip
      refine z_iload_n dX10_draw_14 rfl rfl ?_
      refine z_i2l dX10_draw_15 rfl ?_
      refine z_lconst (v := 0) dX10_draw_16 rfl (by decide) ?_
      refine zk_X10_190 rfl dX10_draw_17 rfl ?_
      refine zcx_X10_72 rfl dX10_draw_20 rfl (r_in32 g _ _ 0 20 rfl rfl) rfl rfl ⟨(Nat.le_of_ble_eq_true rfl), (Nat.le_of_ble_eq_true rfl)⟩ ⟨(Nat.le_of_ble_eq_true rfl), (Nat.le_of_ble_eq_true rfl)⟩ (Nat.le_of_ble_eq_true rfl) ?_
      refine z_bif_ne (tgt := 28) dX10_draw_23 rfl (by decide) (fun c23 => ?_) (fun c23 => ?_)
      · skip
        obtain ⟨N, hN, rfl⟩ := nI_of2 (x := n) (M := 20) (n := 20) (by decide) (by grind) c23.2
        refine z_iload dX10_draw_28 rfl rfl ?_
        refine z_istore dX10_draw_30 rfl (Nat.le_of_ble_eq_true rfl) ?_
        refine z_iconst (v := 0) dX10_draw_32 rfl (by decide) ?_
        refine z_istore dX10_draw_33 rfl (Nat.le_of_ble_eq_true rfl) ?_
        refine z_lv [(6, .int (nI 0)), (5, .int seed), (0, .ref m), (1, .int r), (2, .int kind), (3, .int (nI N))] ⟨rfl, rfl, rfl, rfl, rfl, rfl, trivial⟩ ?_
        exact R_draw_L g h m S w hR r kind seed N c4 c11 c23 hN N S 0 seed [] (by omega) rfl (scr_r S) (fun i hi => absurd hi (by simp)) (by simp)
      · skip
        refine z_iconst (v := -1) dX10_draw_26 rfl (by decide) ?_
        exact z_iret dX10_draw_27 rfl rfl (mPost_of hR (draw_bad (by grind))) (Nat.le_of_ble_eq_true rfl) (Nat.le_of_ble_eq_true rfl)

