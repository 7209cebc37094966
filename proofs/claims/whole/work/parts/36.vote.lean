def vtT (a b c : sC) : Bool := sAlike a b || sAlike a c
def vtO (a b c : sC) : Bool := !vtT a b c && sAlike b c
def vtC (A B D : List sC) (i : Nat) : sC := if vtO (A.getD i z0) (B.getD i z0) (D.getD i z0) = true then B.getD i z0 else A.getD i z0
def vtS (A B D : List sC) (i : Nat) : Bool := !vtT (A.getD i z0) (B.getD i z0) (D.getD i z0) && !vtO (A.getD i z0) (B.getD i z0) (D.getD i z0)
/-- the cell of b is taken here, and does not fit -/
def vtB (A : sA) (B D : List sC) (i : Nat) : Bool := vtO (A.2.getD i z0) (B.getD i z0) (D.getD i z0) && !sInto (B.getD i z0).1 A.1
def voteF (R : sR) (a b c : Nat) : Int32 := if 0 < rowF R a then rowF R a else if 0 < rowF R b then rowF R b else rowF R c
/-- 23 -/
def pVote (w : sW) (r a b c : Int32) : Int32 × sW :=
  if ¬ isRec r ∨ ¬ isRec a ∨ ¬ isRec b ∨ ¬ isRec c then (-1, w)
  else if 0 < voteF w.1 (ix a) (ix b) (ix c) then (-10 - voteF w.1 (ix a) (ix b) (ix c), w)
  else if ¬ ((w.1.2.1 (ix b)).2.length = (w.1.2.1 (ix a)).2.length ∧ (w.1.2.1 (ix c)).2.length = (w.1.2.1 (ix a)).2.length) then (-2, w)
  else match (List.range (w.1.2.1 (ix a)).2.length).find? (vtB (w.1.2.1 (ix a)) (w.1.2.1 (ix b)).2 (w.1.2.1 (ix c)).2) with
  | some i => (-20 - nI i, w)
  | none => (nI ((List.range (w.1.2.1 (ix a)).2.length).countP (vtS (w.1.2.1 (ix a)).2 (w.1.2.1 (ix b)).2 (w.1.2.1 (ix c)).2)), wR w (rNew w.1 (ix r) ((w.1.2.1 (ix a)).1, ((List.range (w.1.2.1 (ix a)).2.length).map (vtC (w.1.2.1 (ix a)).2 (w.1.2.1 (ix b)).2 (w.1.2.1 (ix c)).2)).map (fun x => sConv x (w.1.2.1 (ix a)).1))))
theorem rg_T {P : Nat → Bool} {i : Nat} (h : P i = true) : nI ((List.range i).countP P) + (if True then (1 : Int32) else 0) = nI ((List.range (i + 1)).countP P) := by
  rw [List.range_succ, List.countP_append, List.countP_singleton, h, if_pos rfl, if_pos trivial]
  exact nI_1 _
theorem rg_F {P : Nat → Bool} {i : Nat} (h : P i = false) : nI ((List.range i).countP P) + (if False then (1 : Int32) else 0) = nI ((List.range (i + 1)).countP P) := by
  rw [List.range_succ, List.countP_append, List.countP_singleton, h, if_neg Bool.false_ne_true, if_neg not_false, Nat.add_zero, Int32.add_zero]
theorem rg_find {P : Nat → Bool} {n i : Nat} (hi : i < n) (h : P i = true) (hb : ∀ j, j < i → P j = false) : (List.range n).find? P = some i := by
  rw [List.find?_range_eq_some]
  exact ⟨h, List.mem_range.mpr hi, fun j hj => by rw [hb j hj]; rfl⟩
theorem rg_none {P : Nat → Bool} {n : Nat} (hb : ∀ j, j < n → P j = false) : (List.range n).find? P = none := by
  rw [List.find?_eq_none]
  intro j hj
  rw [hb j (List.mem_range.mp hj)]
  exact Bool.false_ne_true

abbrev YX10_vote : zY := (yX10_vote.cls, cX10_vote, 13, (some .int), rmX10_vote, yX10_vote.name, fun _ _ => True)
theorem vote_at {w : sW} {r a b c : Int32} (hr : isRec r) (ha : isRec a) (hb : isRec b) (hc : isRec c) (ha2 : w.1.1 (ix a) = 2) (hb2 : w.1.1 (ix b) = 2) (hc2 : w.1.1 (ix c) = 2) (eb : (w.1.2.1 (ix b)).2.length = (w.1.2.1 (ix a)).2.length) (ec : (w.1.2.1 (ix c)).2.length = (w.1.2.1 (ix a)).2.length) : pVote w r a b c = match (List.range (w.1.2.1 (ix a)).2.length).find? (vtB (w.1.2.1 (ix a)) (w.1.2.1 (ix b)).2 (w.1.2.1 (ix c)).2) with
  | some i => (-20 - nI i, w)
  | none => (nI ((List.range (w.1.2.1 (ix a)).2.length).countP (vtS (w.1.2.1 (ix a)).2 (w.1.2.1 (ix b)).2 (w.1.2.1 (ix c)).2)), wR w (rNew w.1 (ix r) ((w.1.2.1 (ix a)).1, ((List.range (w.1.2.1 (ix a)).2.length).map (vtC (w.1.2.1 (ix a)).2 (w.1.2.1 (ix b)).2 (w.1.2.1 (ix c)).2)).map (fun x => sConv x (w.1.2.1 (ix a)).1)))) := by
  have hv : ¬ 0 < voteF w.1 (ix a) (ix b) (ix c) := by
    unfold voteF
    rw [if_neg (st_rf ha2), if_neg (st_rf hb2)]
    exact st_rf hc2
  unfold pVote
  rw [if_neg (fun z => z.elim (fun z => z hr) (fun z => z.elim (fun z => z ha) (fun z => z.elim (fun z => z hb) (fun z => z hc)))), if_neg hv, if_neg (fun z => z ⟨eb, ec⟩)]
theorem made_len (A B D : List sC) (i : Nat) : ((List.range i).map (vtC A B D)).length = i := by rw [List.length_map, List.length_range]

set_option maxHeartbeats 800000 in
set_option maxRecDepth 100000 in
theorem R_vote_L (g : zG) (h : zH) (m : Nat) (S : sMS) (w : sW) (hR : RepM S w) (r a b c : Int32) (hr : isRec r) (ha : isRec a) (hb : isRec b) (hc : isRec c) (ha2 : w.1.1 (ix a) = 2) (hb2 : w.1.1 (ix b) = 2) (hc2 : w.1.1 (ix c) = 2) (eb : (w.1.2.1 (ix b)).2.length = (w.1.2.1 (ix a)).2.length) (ec : (w.1.2.1 (ix c)).2.length = (w.1.2.1 (ix a)).2.length) (hcs : ∀ x, x ∈ ((List.range (w.1.2.1 (ix a)).2.length).map (vtC (w.1.2.1 (ix a)).2 (w.1.2.1 (ix b)).2 (w.1.2.1 (ix c)).2)) → (∀ j, j < (w.1.2.1 (ix a)).2.length → vtB (w.1.2.1 (ix a)) (w.1.2.1 (ix b)).2 (w.1.2.1 (ix c)).2 j = false) → sOk x ∧ sInto x.1 (w.1.2.1 (ix a)).1 = true) : ∀ (n : Nat) (S1 : sMS) (i : Nat), i + n = (w.1.2.1 (ix a)).2.length → scr S S1 → made S1 ((List.range i).map (vtC (w.1.2.1 (ix a)).2 (w.1.2.1 (ix b)).2 (w.1.2.1 (ix c)).2)) → (∀ j, j < i → vtB (w.1.2.1 (ix a)) (w.1.2.1 (ix b)).2 (w.1.2.1 (ix c)).2 j = false) → zZ g YX10_vote (zE g (mPost m h (pVote w r a b c)) 0 0) 105 [(6, .int (nI (w.1.2.1 (ix a)).2.length)), (7, .int (nI ((List.range i).countP (vtS (w.1.2.1 (ix a)).2 (w.1.2.1 (ix b)).2 (w.1.2.1 (ix c)).2)))), (8, .int (nI i)), (0, .ref m), (1, .int r), (2, .int a), (3, .int b), (4, .int c)] [] (mUp m S1 h) 0 0 := by
  intro n
  induction n with
  | zero =>
    intro S1 i hin hs hm hnb
    have hR1 := RepM_scr hR hs
    have ka := rep_kind hR1.1 (ix_lt ha) ha2
    have la : (w.1.2.1 (ix a)).2.length ≤ 20 := ka.2.2.2.2.2.1
    have ei : i = (w.1.2.1 (ix a)).2.length := by omega
    subst ei
    refine z_iload dX10_vote_105 rfl rfl ?_
    refine z_iload dX10_vote_107 rfl rfl ?_
    refine z_icmp_ge (tgt := 274) dX10_vote_109 rfl (by decide) (fun c109 => ?_) (fun c109 => absurd c109 (fun z => z (nI_le (by omega) (by omega))))
    first | refine z_aload_n dX10_vote_274 rfl rfl ?_ | refine z_aload_nN dX10_vote_274 rfl rfl ?_
    refine z_iload_n dX10_vote_275 rfl rfl ?_
    first | refine z_aload_n dX10_vote_276 rfl rfl ?_ | refine z_aload_nN dX10_vote_276 rfl rfl ?_
    refine z_iload_n dX10_vote_277 rfl rfl ?_
    refine zcx_X10_146 rfl dX10_vote_278 rfl mo_recv (r_kindOf g h m S1 _ (rec_in ha) ka.2.2.1) rfl rfl ⟨(Nat.le_of_ble_eq_true rfl), (Nat.le_of_ble_eq_true rfl)⟩ ⟨(Nat.le_of_ble_eq_true rfl), (Nat.le_of_ble_eq_true rfl)⟩ (Nat.le_of_ble_eq_true rfl) ?_
    rw [ka.1]
    refine z_iload dX10_vote_281 rfl rfl ?_
    refine zc_X10_293 rfl dX10_vote_283 rfl mo_recv (r_takesMade g h m S1 r _ (w.1.2.1 (ix a)).2.length (by omega) (rec_in hr)) rfl rfl ⟨(Nat.le_of_ble_eq_true rfl), (Nat.le_of_ble_eq_true rfl)⟩ ⟨(Nat.le_of_ble_eq_true rfl), (Nat.le_of_ble_eq_true rfl)⟩ (Nat.le_of_ble_eq_true rfl) (fun v h1 hz => ?_)
    obtain ⟨rfl, k, hk, hfr, rfl⟩ := hz
    refine z_iload dX10_vote_286 rfl rfl ?_
    exact z_iret dX10_vote_288 rfl rfl (mPost_of (by have z := RepM_made hR1 hr hk hfr ⟨ka.2.2.2.1, ka.2.2.2.2.1⟩ (by rw [made_len]; omega) (fun x hx => hcs x hx hnb) hm; rw [made_len] at z; exact z) (by rw [vote_at hr ha hb hc ha2 hb2 hc2 eb ec, rg_none hnb])) (Nat.le_of_ble_eq_true rfl) (Nat.le_of_ble_eq_true rfl)
  | succ n ih =>
    intro S1 i hin hs hm hnb
    have hR1 := RepM_scr hR hs
    have ka := rep_kind hR1.1 (ix_lt ha) ha2
    have la : (w.1.2.1 (ix a)).2.length ≤ 20 := ka.2.2.2.2.2.1
    have hix : ix (nI i) = i := nI_clamp (by omega)
    obtain ⟨pa, pm, po, -⟩ := rep_cell hR1.1 (i := nI i) (ix_lt ha) ha2 (by rw [nI_toInt (by omega)]; omega) (by rw [nI_toInt (by omega)]; omega)
    rw [hix] at pm po
    have pm : mc S1 (20 * S1.1 6 (ix a) + nI i).toNatClampNeg = (w.1.2.1 (ix a)).2.getD i z0 := pm
    obtain ⟨qa, qm, qo, -⟩ := rep_cell hR1.1 (i := nI i) (ix_lt hb) hb2 (by rw [nI_toInt (by omega)]; omega) (by rw [nI_toInt (by omega)]; omega)
    rw [hix] at qm qo
    have qm : mc S1 (20 * S1.1 6 (ix b) + nI i).toNatClampNeg = (w.1.2.1 (ix b)).2.getD i z0 := qm
    obtain ⟨ua, um, uo, -⟩ := rep_cell hR1.1 (i := nI i) (ix_lt hc) hc2 (by rw [nI_toInt (by omega)]; omega) (by rw [nI_toInt (by omega)]; omega)
    rw [hix] at um uo
    have um : mc S1 (20 * S1.1 6 (ix c) + nI i).toNatClampNeg = (w.1.2.1 (ix c)).2.getD i z0 := um
    by_cases h1 : sAlike ((w.1.2.1 (ix a)).2.getD i z0) ((w.1.2.1 (ix b)).2.getD i z0) = true
    · have hT : vtT ((w.1.2.1 (ix a)).2.getD i z0) ((w.1.2.1 (ix b)).2.getD i z0) ((w.1.2.1 (ix c)).2.getD i z0) = true := by rw [vtT, h1]; rfl
      have hO : vtO ((w.1.2.1 (ix a)).2.getD i z0) ((w.1.2.1 (ix b)).2.getD i z0) ((w.1.2.1 (ix c)).2.getD i z0) = false := by rw [vtO, hT]; rfl
      refine z_iload dX10_vote_105 rfl rfl ?_
      refine z_iload dX10_vote_107 rfl rfl ?_
      refine z_icmp_ge (tgt := 274) dX10_vote_109 rfl (by decide) (fun c109 => absurd c109 (nI_ge (by omega) (by omega))) (fun c109 => ?_)
      first | refine z_aload_n dX10_vote_112 rfl rfl ?_ | refine z_aload_nN dX10_vote_112 rfl rfl ?_
      refine z_iload_n dX10_vote_113 rfl rfl ?_
      refine z_iload dX10_vote_114 rfl rfl ?_
      refine zcx_X10_135 rfl dX10_vote_116 rfl mo_recv (r_cellAt g h m S1 _ _ (rec_in ha)) rfl rfl ⟨(Nat.le_of_ble_eq_true rfl), (Nat.le_of_ble_eq_true rfl)⟩ ⟨(Nat.le_of_ble_eq_true rfl), (Nat.le_of_ble_eq_true rfl)⟩ (Nat.le_of_ble_eq_true rfl) ?_
      refine z_istore dX10_vote_119 rfl (Nat.le_of_ble_eq_true rfl) ?_
      first | refine z_aload_n dX10_vote_121 rfl rfl ?_ | refine z_aload_nN dX10_vote_121 rfl rfl ?_
      refine z_iload_n dX10_vote_122 rfl rfl ?_
      refine z_iload dX10_vote_123 rfl rfl ?_
      refine zcx_X10_135 rfl dX10_vote_125 rfl mo_recv (r_cellAt g h m S1 _ _ (rec_in hb)) rfl rfl ⟨(Nat.le_of_ble_eq_true rfl), (Nat.le_of_ble_eq_true rfl)⟩ ⟨(Nat.le_of_ble_eq_true rfl), (Nat.le_of_ble_eq_true rfl)⟩ (Nat.le_of_ble_eq_true rfl) ?_
      refine z_istore dX10_vote_128 rfl (Nat.le_of_ble_eq_true rfl) ?_
      first | refine z_aload_n dX10_vote_130 rfl rfl ?_ | refine z_aload_nN dX10_vote_130 rfl rfl ?_
      refine z_iload dX10_vote_131 rfl rfl ?_
      refine z_iload dX10_vote_133 rfl rfl ?_
      refine zcx_X10_112 rfl dX10_vote_135 rfl mo_recv (r_areAlike g h m S1 _ _ pa qa (by rw [pm]; exact po) (by rw [qm]; exact qo)) rfl rfl ⟨(Nat.le_of_ble_eq_true rfl), (Nat.le_of_ble_eq_true rfl)⟩ ⟨(Nat.le_of_ble_eq_true rfl), (Nat.le_of_ble_eq_true rfl)⟩ (Nat.le_of_ble_eq_true rfl) ?_
      rw [pm, qm]
      refine z_bif_ne (tgt := 158) dX10_vote_138 rfl (by decide) (fun c138 => ?_) (fun c138 => absurd c138 (fun z => z h1))
      refine z_iconst (v := 1) dX10_vote_158 rfl (by decide) ?_
      refine z_goto (tgt := 163) dX10_vote_159 rfl (by decide) ?_
      refine z_istore dX10_vote_163 rfl (Nat.le_of_ble_eq_true rfl) ?_
      refine z_iload dX10_vote_165 rfl rfl ?_
      refine z_if_ne (tgt := 191) dX10_vote_167 rfl (by decide) (fun c167 => ?_) (fun c167 => absurd c167 (by decide))
      refine z_iconst (v := 0) dX10_vote_191 rfl (by decide) ?_
      refine z_istore dX10_vote_192 rfl (Nat.le_of_ble_eq_true rfl) ?_
      refine z_iload dX10_vote_194 rfl rfl ?_
      refine z_if_eq (tgt := 223) dX10_vote_196 rfl (by decide) (fun c196 => ?_) (fun c196 => absurd c196 (fun z => z rfl))
      first | refine z_aload_n dX10_vote_223 rfl rfl ?_ | refine z_aload_nN dX10_vote_223 rfl rfl ?_
      refine z_iload dX10_vote_224 rfl rfl ?_
      refine z_if_eq (tgt := 234) dX10_vote_226 rfl (by decide) (fun c226 => ?_) (fun c226 => absurd c226 (fun z => z rfl))
      refine z_iload dX10_vote_234 rfl rfl ?_
      refine z_sipush (v := 520) dX10_vote_236 rfl (by decide) ?_
      refine z_iload dX10_vote_239 rfl rfl ?_
      refine z_iadd dX10_vote_241 rfl ?_
      rw [n520]
      refine zcv_X10_229 rfl dX10_vote_242 rfl mo_recv (r_copiesCell g h m S1 _ _ pa (vp_in_nI (show 520 + i < 880 by omega) (by decide))) rfl rfl ⟨(Nat.le_of_ble_eq_true rfl), (Nat.le_of_ble_eq_true rfl)⟩ ⟨(Nat.le_of_ble_eq_true rfl), (Nat.le_of_ble_eq_true rfl)⟩ (Nat.le_of_ble_eq_true rfl) ?_
      rw [nI_clamp (show 520 + i < 2 ^ 31 by omega), pm]
      refine z_iload dX10_vote_245 rfl rfl ?_
      refine z_iload dX10_vote_247 rfl rfl ?_
      refine z_if_ne (tgt := 261) dX10_vote_249 rfl (by decide) (fun c249 => ?_) (fun c249 => absurd c249 (by decide))
      refine z_iconst (v := 0) dX10_vote_261 rfl (by decide) ?_
      refine zcx_X10_200 rfl dX10_vote_262 rfl (r_flag g _ False) rfl rfl ⟨(Nat.le_of_ble_eq_true rfl), (Nat.le_of_ble_eq_true rfl)⟩ ⟨(Nat.le_of_ble_eq_true rfl), (Nat.le_of_ble_eq_true rfl)⟩ (Nat.le_of_ble_eq_true rfl) ?_
      refine z_iadd dX10_vote_265 rfl ?_
      rw [rg_F (show vtS (w.1.2.1 (ix a)).2 (w.1.2.1 (ix b)).2 (w.1.2.1 (ix c)).2 i = false by rw [vtS, hT, hO]; rfl)]
      refine z_istore dX10_vote_266 rfl (Nat.le_of_ble_eq_true rfl) ?_
      refine z_iinc (v := nI (i + 1)) dX10_vote_268 rfl rfl (nI_inc i) (Nat.le_of_ble_eq_true rfl) ?_
      refine z_goto (tgt := 105) dX10_vote_271 rfl (by decide) ?_
      refine z_lv [(6, .int (nI (w.1.2.1 (ix a)).2.length)), (7, .int (nI ((List.range (i + 1)).countP (vtS (w.1.2.1 (ix a)).2 (w.1.2.1 (ix b)).2 (w.1.2.1 (ix c)).2)))), (8, .int (nI (i + 1))), (0, .ref m), (1, .int r), (2, .int a), (3, .int b), (4, .int c)] ⟨rfl, rfl, rfl, rfl, rfl, rfl, rfl, rfl, trivial⟩ ?_
      exact ih _ (i + 1) (by omega) (scr_lay hs (by omega) _) (by rw [List.range_succ, List.map_append, List.map_singleton, show vtC (w.1.2.1 (ix a)).2 (w.1.2.1 (ix b)).2 (w.1.2.1 (ix c)).2 i = (w.1.2.1 (ix a)).2.getD i z0 from by rw [vtC, hO, if_neg Bool.false_ne_true]]; have z := made_s hm ((w.1.2.1 (ix a)).2.getD i z0); rw [made_len] at z; exact z) (fun j hj => by rcases Nat.lt_or_eq_of_le (Nat.le_of_lt_succ hj) with z | z; exact hnb j z; rw [z]; exact (by rw [vtB, hO]; rfl))
    by_cases h2 : sAlike ((w.1.2.1 (ix a)).2.getD i z0) ((w.1.2.1 (ix c)).2.getD i z0) = true
    · have hT : vtT ((w.1.2.1 (ix a)).2.getD i z0) ((w.1.2.1 (ix b)).2.getD i z0) ((w.1.2.1 (ix c)).2.getD i z0) = true := by rw [vtT, h2, Bool.or_true]
      have hO : vtO ((w.1.2.1 (ix a)).2.getD i z0) ((w.1.2.1 (ix b)).2.getD i z0) ((w.1.2.1 (ix c)).2.getD i z0) = false := by rw [vtO, hT]; rfl
      refine z_iload dX10_vote_105 rfl rfl ?_
      refine z_iload dX10_vote_107 rfl rfl ?_
      refine z_icmp_ge (tgt := 274) dX10_vote_109 rfl (by decide) (fun c109 => absurd c109 (nI_ge (by omega) (by omega))) (fun c109 => ?_)
      first | refine z_aload_n dX10_vote_112 rfl rfl ?_ | refine z_aload_nN dX10_vote_112 rfl rfl ?_
      refine z_iload_n dX10_vote_113 rfl rfl ?_
      refine z_iload dX10_vote_114 rfl rfl ?_
      refine zcx_X10_135 rfl dX10_vote_116 rfl mo_recv (r_cellAt g h m S1 _ _ (rec_in ha)) rfl rfl ⟨(Nat.le_of_ble_eq_true rfl), (Nat.le_of_ble_eq_true rfl)⟩ ⟨(Nat.le_of_ble_eq_true rfl), (Nat.le_of_ble_eq_true rfl)⟩ (Nat.le_of_ble_eq_true rfl) ?_
      refine z_istore dX10_vote_119 rfl (Nat.le_of_ble_eq_true rfl) ?_
      first | refine z_aload_n dX10_vote_121 rfl rfl ?_ | refine z_aload_nN dX10_vote_121 rfl rfl ?_
      refine z_iload_n dX10_vote_122 rfl rfl ?_
      refine z_iload dX10_vote_123 rfl rfl ?_
      refine zcx_X10_135 rfl dX10_vote_125 rfl mo_recv (r_cellAt g h m S1 _ _ (rec_in hb)) rfl rfl ⟨(Nat.le_of_ble_eq_true rfl), (Nat.le_of_ble_eq_true rfl)⟩ ⟨(Nat.le_of_ble_eq_true rfl), (Nat.le_of_ble_eq_true rfl)⟩ (Nat.le_of_ble_eq_true rfl) ?_
      refine z_istore dX10_vote_128 rfl (Nat.le_of_ble_eq_true rfl) ?_
      first | refine z_aload_n dX10_vote_130 rfl rfl ?_ | refine z_aload_nN dX10_vote_130 rfl rfl ?_
      refine z_iload dX10_vote_131 rfl rfl ?_
      refine z_iload dX10_vote_133 rfl rfl ?_
      refine zcx_X10_112 rfl dX10_vote_135 rfl mo_recv (r_areAlike g h m S1 _ _ pa qa (by rw [pm]; exact po) (by rw [qm]; exact qo)) rfl rfl ⟨(Nat.le_of_ble_eq_true rfl), (Nat.le_of_ble_eq_true rfl)⟩ ⟨(Nat.le_of_ble_eq_true rfl), (Nat.le_of_ble_eq_true rfl)⟩ (Nat.le_of_ble_eq_true rfl) ?_
      rw [pm, qm]
      refine z_bif_ne (tgt := 158) dX10_vote_138 rfl (by decide) (fun c138 => absurd c138 h1) (fun c138 => ?_)
      first | refine z_aload_n dX10_vote_141 rfl rfl ?_ | refine z_aload_nN dX10_vote_141 rfl rfl ?_
      refine z_iload dX10_vote_142 rfl rfl ?_
      first | refine z_aload_n dX10_vote_144 rfl rfl ?_ | refine z_aload_nN dX10_vote_144 rfl rfl ?_
      refine z_iload dX10_vote_145 rfl rfl ?_
      refine z_iload dX10_vote_147 rfl rfl ?_
      refine zcx_X10_135 rfl dX10_vote_149 rfl mo_recv (r_cellAt g h m S1 _ _ (rec_in hc)) rfl rfl ⟨(Nat.le_of_ble_eq_true rfl), (Nat.le_of_ble_eq_true rfl)⟩ ⟨(Nat.le_of_ble_eq_true rfl), (Nat.le_of_ble_eq_true rfl)⟩ (Nat.le_of_ble_eq_true rfl) ?_
      refine zcx_X10_112 rfl dX10_vote_152 rfl mo_recv (r_areAlike g h m S1 _ _ pa ua (by rw [pm]; exact po) (by rw [um]; exact uo)) rfl rfl ⟨(Nat.le_of_ble_eq_true rfl), (Nat.le_of_ble_eq_true rfl)⟩ ⟨(Nat.le_of_ble_eq_true rfl), (Nat.le_of_ble_eq_true rfl)⟩ (Nat.le_of_ble_eq_true rfl) ?_
      rw [pm, um]
      refine z_bif_eq (tgt := 162) dX10_vote_155 rfl (by decide) (fun c155 => absurd c155 (fun z => z h2)) (fun c155 => ?_)
      refine z_iconst (v := 1) dX10_vote_158 rfl (by decide) ?_
      refine z_goto (tgt := 163) dX10_vote_159 rfl (by decide) ?_
      refine z_istore dX10_vote_163 rfl (Nat.le_of_ble_eq_true rfl) ?_
      refine z_iload dX10_vote_165 rfl rfl ?_
      refine z_if_ne (tgt := 191) dX10_vote_167 rfl (by decide) (fun c167 => ?_) (fun c167 => absurd c167 (by decide))
      refine z_iconst (v := 0) dX10_vote_191 rfl (by decide) ?_
      refine z_istore dX10_vote_192 rfl (Nat.le_of_ble_eq_true rfl) ?_
      refine z_iload dX10_vote_194 rfl rfl ?_
      refine z_if_eq (tgt := 223) dX10_vote_196 rfl (by decide) (fun c196 => ?_) (fun c196 => absurd c196 (fun z => z rfl))
      first | refine z_aload_n dX10_vote_223 rfl rfl ?_ | refine z_aload_nN dX10_vote_223 rfl rfl ?_
      refine z_iload dX10_vote_224 rfl rfl ?_
      refine z_if_eq (tgt := 234) dX10_vote_226 rfl (by decide) (fun c226 => ?_) (fun c226 => absurd c226 (fun z => z rfl))
      refine z_iload dX10_vote_234 rfl rfl ?_
      refine z_sipush (v := 520) dX10_vote_236 rfl (by decide) ?_
      refine z_iload dX10_vote_239 rfl rfl ?_
      refine z_iadd dX10_vote_241 rfl ?_
      rw [n520]
      refine zcv_X10_229 rfl dX10_vote_242 rfl mo_recv (r_copiesCell g h m S1 _ _ pa (vp_in_nI (show 520 + i < 880 by omega) (by decide))) rfl rfl ⟨(Nat.le_of_ble_eq_true rfl), (Nat.le_of_ble_eq_true rfl)⟩ ⟨(Nat.le_of_ble_eq_true rfl), (Nat.le_of_ble_eq_true rfl)⟩ (Nat.le_of_ble_eq_true rfl) ?_
      rw [nI_clamp (show 520 + i < 2 ^ 31 by omega), pm]
      refine z_iload dX10_vote_245 rfl rfl ?_
      refine z_iload dX10_vote_247 rfl rfl ?_
      refine z_if_ne (tgt := 261) dX10_vote_249 rfl (by decide) (fun c249 => ?_) (fun c249 => absurd c249 (by decide))
      refine z_iconst (v := 0) dX10_vote_261 rfl (by decide) ?_
      refine zcx_X10_200 rfl dX10_vote_262 rfl (r_flag g _ False) rfl rfl ⟨(Nat.le_of_ble_eq_true rfl), (Nat.le_of_ble_eq_true rfl)⟩ ⟨(Nat.le_of_ble_eq_true rfl), (Nat.le_of_ble_eq_true rfl)⟩ (Nat.le_of_ble_eq_true rfl) ?_
      refine z_iadd dX10_vote_265 rfl ?_
      rw [rg_F (show vtS (w.1.2.1 (ix a)).2 (w.1.2.1 (ix b)).2 (w.1.2.1 (ix c)).2 i = false by rw [vtS, hT, hO]; rfl)]
      refine z_istore dX10_vote_266 rfl (Nat.le_of_ble_eq_true rfl) ?_
      refine z_iinc (v := nI (i + 1)) dX10_vote_268 rfl rfl (nI_inc i) (Nat.le_of_ble_eq_true rfl) ?_
      refine z_goto (tgt := 105) dX10_vote_271 rfl (by decide) ?_
      refine z_lv [(6, .int (nI (w.1.2.1 (ix a)).2.length)), (7, .int (nI ((List.range (i + 1)).countP (vtS (w.1.2.1 (ix a)).2 (w.1.2.1 (ix b)).2 (w.1.2.1 (ix c)).2)))), (8, .int (nI (i + 1))), (0, .ref m), (1, .int r), (2, .int a), (3, .int b), (4, .int c)] ⟨rfl, rfl, rfl, rfl, rfl, rfl, rfl, rfl, trivial⟩ ?_
      exact ih _ (i + 1) (by omega) (scr_lay hs (by omega) _) (by rw [List.range_succ, List.map_append, List.map_singleton, show vtC (w.1.2.1 (ix a)).2 (w.1.2.1 (ix b)).2 (w.1.2.1 (ix c)).2 i = (w.1.2.1 (ix a)).2.getD i z0 from by rw [vtC, hO, if_neg Bool.false_ne_true]]; have z := made_s hm ((w.1.2.1 (ix a)).2.getD i z0); rw [made_len] at z; exact z) (fun j hj => by rcases Nat.lt_or_eq_of_le (Nat.le_of_lt_succ hj) with z | z; exact hnb j z; rw [z]; exact (by rw [vtB, hO]; rfl))
    have hT : vtT ((w.1.2.1 (ix a)).2.getD i z0) ((w.1.2.1 (ix b)).2.getD i z0) ((w.1.2.1 (ix c)).2.getD i z0) = false := by rw [vtT, Bool.eq_false_iff.mpr h1, Bool.eq_false_iff.mpr h2]; rfl
    by_cases h3 : sAlike ((w.1.2.1 (ix b)).2.getD i z0) ((w.1.2.1 (ix c)).2.getD i z0) = true
    · have hO : vtO ((w.1.2.1 (ix a)).2.getD i z0) ((w.1.2.1 (ix b)).2.getD i z0) ((w.1.2.1 (ix c)).2.getD i z0) = true := by rw [vtO, hT, h3]; rfl
      refine z_iload dX10_vote_105 rfl rfl ?_
      refine z_iload dX10_vote_107 rfl rfl ?_
      refine z_icmp_ge (tgt := 274) dX10_vote_109 rfl (by decide) (fun c109 => absurd c109 (nI_ge (by omega) (by omega))) (fun c109 => ?_)
      first | refine z_aload_n dX10_vote_112 rfl rfl ?_ | refine z_aload_nN dX10_vote_112 rfl rfl ?_
      refine z_iload_n dX10_vote_113 rfl rfl ?_
      refine z_iload dX10_vote_114 rfl rfl ?_
      refine zcx_X10_135 rfl dX10_vote_116 rfl mo_recv (r_cellAt g h m S1 _ _ (rec_in ha)) rfl rfl ⟨(Nat.le_of_ble_eq_true rfl), (Nat.le_of_ble_eq_true rfl)⟩ ⟨(Nat.le_of_ble_eq_true rfl), (Nat.le_of_ble_eq_true rfl)⟩ (Nat.le_of_ble_eq_true rfl) ?_
      refine z_istore dX10_vote_119 rfl (Nat.le_of_ble_eq_true rfl) ?_
      first | refine z_aload_n dX10_vote_121 rfl rfl ?_ | refine z_aload_nN dX10_vote_121 rfl rfl ?_
      refine z_iload_n dX10_vote_122 rfl rfl ?_
      refine z_iload dX10_vote_123 rfl rfl ?_
      refine zcx_X10_135 rfl dX10_vote_125 rfl mo_recv (r_cellAt g h m S1 _ _ (rec_in hb)) rfl rfl ⟨(Nat.le_of_ble_eq_true rfl), (Nat.le_of_ble_eq_true rfl)⟩ ⟨(Nat.le_of_ble_eq_true rfl), (Nat.le_of_ble_eq_true rfl)⟩ (Nat.le_of_ble_eq_true rfl) ?_
      refine z_istore dX10_vote_128 rfl (Nat.le_of_ble_eq_true rfl) ?_
      first | refine z_aload_n dX10_vote_130 rfl rfl ?_ | refine z_aload_nN dX10_vote_130 rfl rfl ?_
      refine z_iload dX10_vote_131 rfl rfl ?_
      refine z_iload dX10_vote_133 rfl rfl ?_
      refine zcx_X10_112 rfl dX10_vote_135 rfl mo_recv (r_areAlike g h m S1 _ _ pa qa (by rw [pm]; exact po) (by rw [qm]; exact qo)) rfl rfl ⟨(Nat.le_of_ble_eq_true rfl), (Nat.le_of_ble_eq_true rfl)⟩ ⟨(Nat.le_of_ble_eq_true rfl), (Nat.le_of_ble_eq_true rfl)⟩ (Nat.le_of_ble_eq_true rfl) ?_
      rw [pm, qm]
      refine z_bif_ne (tgt := 158) dX10_vote_138 rfl (by decide) (fun c138 => absurd c138 h1) (fun c138 => ?_)
      first | refine z_aload_n dX10_vote_141 rfl rfl ?_ | refine z_aload_nN dX10_vote_141 rfl rfl ?_
      refine z_iload dX10_vote_142 rfl rfl ?_
      first | refine z_aload_n dX10_vote_144 rfl rfl ?_ | refine z_aload_nN dX10_vote_144 rfl rfl ?_
      refine z_iload dX10_vote_145 rfl rfl ?_
      refine z_iload dX10_vote_147 rfl rfl ?_
      refine zcx_X10_135 rfl dX10_vote_149 rfl mo_recv (r_cellAt g h m S1 _ _ (rec_in hc)) rfl rfl ⟨(Nat.le_of_ble_eq_true rfl), (Nat.le_of_ble_eq_true rfl)⟩ ⟨(Nat.le_of_ble_eq_true rfl), (Nat.le_of_ble_eq_true rfl)⟩ (Nat.le_of_ble_eq_true rfl) ?_
      refine zcx_X10_112 rfl dX10_vote_152 rfl mo_recv (r_areAlike g h m S1 _ _ pa ua (by rw [pm]; exact po) (by rw [um]; exact uo)) rfl rfl ⟨(Nat.le_of_ble_eq_true rfl), (Nat.le_of_ble_eq_true rfl)⟩ ⟨(Nat.le_of_ble_eq_true rfl), (Nat.le_of_ble_eq_true rfl)⟩ (Nat.le_of_ble_eq_true rfl) ?_
      rw [pm, um]
      refine z_bif_eq (tgt := 162) dX10_vote_155 rfl (by decide) (fun c155 => ?_) (fun c155 => absurd c155 h2)
      refine z_iconst (v := 0) dX10_vote_162 rfl (by decide) ?_
      refine z_istore dX10_vote_163 rfl (Nat.le_of_ble_eq_true rfl) ?_
      refine z_iload dX10_vote_165 rfl rfl ?_
      refine z_if_ne (tgt := 191) dX10_vote_167 rfl (by decide) (fun c167 => absurd c167 (fun z => z rfl)) (fun c167 => ?_)
      first | refine z_aload_n dX10_vote_170 rfl rfl ?_ | refine z_aload_nN dX10_vote_170 rfl rfl ?_
      refine z_iload dX10_vote_171 rfl rfl ?_
      first | refine z_aload_n dX10_vote_173 rfl rfl ?_ | refine z_aload_nN dX10_vote_173 rfl rfl ?_
      refine z_iload dX10_vote_174 rfl rfl ?_
      refine z_iload dX10_vote_176 rfl rfl ?_
      refine zcx_X10_135 rfl dX10_vote_178 rfl mo_recv (r_cellAt g h m S1 _ _ (rec_in hc)) rfl rfl ⟨(Nat.le_of_ble_eq_true rfl), (Nat.le_of_ble_eq_true rfl)⟩ ⟨(Nat.le_of_ble_eq_true rfl), (Nat.le_of_ble_eq_true rfl)⟩ (Nat.le_of_ble_eq_true rfl) ?_
      refine zcx_X10_112 rfl dX10_vote_181 rfl mo_recv (r_areAlike g h m S1 _ _ qa ua (by rw [qm]; exact qo) (by rw [um]; exact uo)) rfl rfl ⟨(Nat.le_of_ble_eq_true rfl), (Nat.le_of_ble_eq_true rfl)⟩ ⟨(Nat.le_of_ble_eq_true rfl), (Nat.le_of_ble_eq_true rfl)⟩ (Nat.le_of_ble_eq_true rfl) ?_
      rw [qm, um]
      refine z_bif_eq (tgt := 191) dX10_vote_184 rfl (by decide) (fun c184 => absurd c184 (fun z => z h3)) (fun c184 => ?_)
      refine z_iconst (v := 1) dX10_vote_187 rfl (by decide) ?_
      refine z_goto (tgt := 192) dX10_vote_188 rfl (by decide) ?_
      refine z_istore dX10_vote_192 rfl (Nat.le_of_ble_eq_true rfl) ?_
      refine z_iload dX10_vote_194 rfl rfl ?_
      refine z_if_eq (tgt := 223) dX10_vote_196 rfl (by decide) (fun c196 => absurd c196 (by decide)) (fun c196 => ?_)
      first | refine z_aload_n dX10_vote_199 rfl rfl ?_ | refine z_aload_nN dX10_vote_199 rfl rfl ?_
      refine zmg_7 rfl dX10_vote_200 rfl ?_
      refine z_iload dX10_vote_203 rfl rfl ?_
      refine zm_iald dX10_vote_205 rfl rfl qa ?_
      rw [show S1.1 1 (20 * S1.1 6 (ix b) + nI i).toNatClampNeg = ((w.1.2.1 (ix b)).2.getD i z0).1 from congrArg (fun c : sC => c.1) qm]
      first | refine z_aload_n dX10_vote_206 rfl rfl ?_ | refine z_aload_nN dX10_vote_206 rfl rfl ?_
      refine z_iload_n dX10_vote_207 rfl rfl ?_
      refine zcx_X10_146 rfl dX10_vote_208 rfl mo_recv (r_kindOf g h m S1 _ (rec_in ha) ka.2.2.1) rfl rfl ⟨(Nat.le_of_ble_eq_true rfl), (Nat.le_of_ble_eq_true rfl)⟩ ⟨(Nat.le_of_ble_eq_true rfl), (Nat.le_of_ble_eq_true rfl)⟩ (Nat.le_of_ble_eq_true rfl) ?_
      rw [ka.1]
      refine zcx_X10_80 rfl dX10_vote_211 rfl (r_goesInto g _ _ _) rfl rfl ⟨(Nat.le_of_ble_eq_true rfl), (Nat.le_of_ble_eq_true rfl)⟩ ⟨(Nat.le_of_ble_eq_true rfl), (Nat.le_of_ble_eq_true rfl)⟩ (Nat.le_of_ble_eq_true rfl) ?_
      refine z_bif_ne (tgt := 223) dX10_vote_214 rfl (by decide) (fun c214 => ?_) (fun c214 => ?_)
      · skip
        first | refine z_aload_n dX10_vote_223 rfl rfl ?_ | refine z_aload_nN dX10_vote_223 rfl rfl ?_
        refine z_iload dX10_vote_224 rfl rfl ?_
        refine z_if_eq (tgt := 234) dX10_vote_226 rfl (by decide) (fun c226 => absurd c226 (by decide)) (fun c226 => ?_)
        refine z_iload dX10_vote_229 rfl rfl ?_
        refine z_goto (tgt := 236) dX10_vote_231 rfl (by decide) ?_
        refine z_sipush (v := 520) dX10_vote_236 rfl (by decide) ?_
        refine z_iload dX10_vote_239 rfl rfl ?_
        refine z_iadd dX10_vote_241 rfl ?_
        rw [n520]
        refine zcv_X10_229 rfl dX10_vote_242 rfl mo_recv (r_copiesCell g h m S1 _ _ qa (vp_in_nI (show 520 + i < 880 by omega) (by decide))) rfl rfl ⟨(Nat.le_of_ble_eq_true rfl), (Nat.le_of_ble_eq_true rfl)⟩ ⟨(Nat.le_of_ble_eq_true rfl), (Nat.le_of_ble_eq_true rfl)⟩ (Nat.le_of_ble_eq_true rfl) ?_
        rw [nI_clamp (show 520 + i < 2 ^ 31 by omega), qm]
        refine z_iload dX10_vote_245 rfl rfl ?_
        refine z_iload dX10_vote_247 rfl rfl ?_
        refine z_if_ne (tgt := 261) dX10_vote_249 rfl (by decide) (fun c249 => absurd c249 (fun z => z rfl)) (fun c249 => ?_)
        refine z_iload dX10_vote_252 rfl rfl ?_
        refine z_if_ne (tgt := 261) dX10_vote_254 rfl (by decide) (fun c254 => ?_) (fun c254 => absurd c254 (by decide))
        refine z_iconst (v := 0) dX10_vote_261 rfl (by decide) ?_
        refine zcx_X10_200 rfl dX10_vote_262 rfl (r_flag g _ False) rfl rfl ⟨(Nat.le_of_ble_eq_true rfl), (Nat.le_of_ble_eq_true rfl)⟩ ⟨(Nat.le_of_ble_eq_true rfl), (Nat.le_of_ble_eq_true rfl)⟩ (Nat.le_of_ble_eq_true rfl) ?_
        refine z_iadd dX10_vote_265 rfl ?_
        rw [rg_F (show vtS (w.1.2.1 (ix a)).2 (w.1.2.1 (ix b)).2 (w.1.2.1 (ix c)).2 i = false by rw [vtS, hT, hO]; rfl)]
        refine z_istore dX10_vote_266 rfl (Nat.le_of_ble_eq_true rfl) ?_
        refine z_iinc (v := nI (i + 1)) dX10_vote_268 rfl rfl (nI_inc i) (Nat.le_of_ble_eq_true rfl) ?_
        refine z_goto (tgt := 105) dX10_vote_271 rfl (by decide) ?_
        refine z_lv [(6, .int (nI (w.1.2.1 (ix a)).2.length)), (7, .int (nI ((List.range (i + 1)).countP (vtS (w.1.2.1 (ix a)).2 (w.1.2.1 (ix b)).2 (w.1.2.1 (ix c)).2)))), (8, .int (nI (i + 1))), (0, .ref m), (1, .int r), (2, .int a), (3, .int b), (4, .int c)] ⟨rfl, rfl, rfl, rfl, rfl, rfl, rfl, rfl, trivial⟩ ?_
        exact ih _ (i + 1) (by omega) (scr_lay hs (by omega) _) (by rw [List.range_succ, List.map_append, List.map_singleton, show vtC (w.1.2.1 (ix a)).2 (w.1.2.1 (ix b)).2 (w.1.2.1 (ix c)).2 i = (w.1.2.1 (ix b)).2.getD i z0 from by rw [vtC, hO, if_pos rfl]]; have z := made_s hm ((w.1.2.1 (ix b)).2.getD i z0); rw [made_len] at z; exact z) (fun j hj => by rcases Nat.lt_or_eq_of_le (Nat.le_of_lt_succ hj) with z | z; exact hnb j z; rw [z]; exact (by rw [vtB, c214, Bool.not_true, Bool.and_false]))
      · skip
        refine z_bipush (v := -20) dX10_vote_217 rfl (by decide) ?_
        refine z_iload dX10_vote_219 rfl rfl ?_
        refine z_isub dX10_vote_221 rfl ?_
        exact z_iret dX10_vote_222 rfl rfl (mPost_of hR1 (by rw [vote_at hr ha hb hc ha2 hb2 hc2 eb ec, rg_find (show i < _ by omega) (by rw [vtB, hO, Bool.eq_false_iff.mpr c214]; rfl) hnb])) (Nat.le_of_ble_eq_true rfl) (Nat.le_of_ble_eq_true rfl)
    · have hO : vtO ((w.1.2.1 (ix a)).2.getD i z0) ((w.1.2.1 (ix b)).2.getD i z0) ((w.1.2.1 (ix c)).2.getD i z0) = false := by rw [vtO, hT, Bool.eq_false_iff.mpr h3]; rfl
      refine z_iload dX10_vote_105 rfl rfl ?_
      refine z_iload dX10_vote_107 rfl rfl ?_
      refine z_icmp_ge (tgt := 274) dX10_vote_109 rfl (by decide) (fun c109 => absurd c109 (nI_ge (by omega) (by omega))) (fun c109 => ?_)
      first | refine z_aload_n dX10_vote_112 rfl rfl ?_ | refine z_aload_nN dX10_vote_112 rfl rfl ?_
      refine z_iload_n dX10_vote_113 rfl rfl ?_
      refine z_iload dX10_vote_114 rfl rfl ?_
      refine zcx_X10_135 rfl dX10_vote_116 rfl mo_recv (r_cellAt g h m S1 _ _ (rec_in ha)) rfl rfl ⟨(Nat.le_of_ble_eq_true rfl), (Nat.le_of_ble_eq_true rfl)⟩ ⟨(Nat.le_of_ble_eq_true rfl), (Nat.le_of_ble_eq_true rfl)⟩ (Nat.le_of_ble_eq_true rfl) ?_
      refine z_istore dX10_vote_119 rfl (Nat.le_of_ble_eq_true rfl) ?_
      first | refine z_aload_n dX10_vote_121 rfl rfl ?_ | refine z_aload_nN dX10_vote_121 rfl rfl ?_
      refine z_iload_n dX10_vote_122 rfl rfl ?_
      refine z_iload dX10_vote_123 rfl rfl ?_
      refine zcx_X10_135 rfl dX10_vote_125 rfl mo_recv (r_cellAt g h m S1 _ _ (rec_in hb)) rfl rfl ⟨(Nat.le_of_ble_eq_true rfl), (Nat.le_of_ble_eq_true rfl)⟩ ⟨(Nat.le_of_ble_eq_true rfl), (Nat.le_of_ble_eq_true rfl)⟩ (Nat.le_of_ble_eq_true rfl) ?_
      refine z_istore dX10_vote_128 rfl (Nat.le_of_ble_eq_true rfl) ?_
      first | refine z_aload_n dX10_vote_130 rfl rfl ?_ | refine z_aload_nN dX10_vote_130 rfl rfl ?_
      refine z_iload dX10_vote_131 rfl rfl ?_
      refine z_iload dX10_vote_133 rfl rfl ?_
      refine zcx_X10_112 rfl dX10_vote_135 rfl mo_recv (r_areAlike g h m S1 _ _ pa qa (by rw [pm]; exact po) (by rw [qm]; exact qo)) rfl rfl ⟨(Nat.le_of_ble_eq_true rfl), (Nat.le_of_ble_eq_true rfl)⟩ ⟨(Nat.le_of_ble_eq_true rfl), (Nat.le_of_ble_eq_true rfl)⟩ (Nat.le_of_ble_eq_true rfl) ?_
      rw [pm, qm]
      refine z_bif_ne (tgt := 158) dX10_vote_138 rfl (by decide) (fun c138 => absurd c138 h1) (fun c138 => ?_)
      first | refine z_aload_n dX10_vote_141 rfl rfl ?_ | refine z_aload_nN dX10_vote_141 rfl rfl ?_
      refine z_iload dX10_vote_142 rfl rfl ?_
      first | refine z_aload_n dX10_vote_144 rfl rfl ?_ | refine z_aload_nN dX10_vote_144 rfl rfl ?_
      refine z_iload dX10_vote_145 rfl rfl ?_
      refine z_iload dX10_vote_147 rfl rfl ?_
      refine zcx_X10_135 rfl dX10_vote_149 rfl mo_recv (r_cellAt g h m S1 _ _ (rec_in hc)) rfl rfl ⟨(Nat.le_of_ble_eq_true rfl), (Nat.le_of_ble_eq_true rfl)⟩ ⟨(Nat.le_of_ble_eq_true rfl), (Nat.le_of_ble_eq_true rfl)⟩ (Nat.le_of_ble_eq_true rfl) ?_
      refine zcx_X10_112 rfl dX10_vote_152 rfl mo_recv (r_areAlike g h m S1 _ _ pa ua (by rw [pm]; exact po) (by rw [um]; exact uo)) rfl rfl ⟨(Nat.le_of_ble_eq_true rfl), (Nat.le_of_ble_eq_true rfl)⟩ ⟨(Nat.le_of_ble_eq_true rfl), (Nat.le_of_ble_eq_true rfl)⟩ (Nat.le_of_ble_eq_true rfl) ?_
      rw [pm, um]
      refine z_bif_eq (tgt := 162) dX10_vote_155 rfl (by decide) (fun c155 => ?_) (fun c155 => absurd c155 h2)
      refine z_iconst (v := 0) dX10_vote_162 rfl (by decide) ?_
      refine z_istore dX10_vote_163 rfl (Nat.le_of_ble_eq_true rfl) ?_
      refine z_iload dX10_vote_165 rfl rfl ?_
      refine z_if_ne (tgt := 191) dX10_vote_167 rfl (by decide) (fun c167 => absurd c167 (fun z => z rfl)) (fun c167 => ?_)
      first | refine z_aload_n dX10_vote_170 rfl rfl ?_ | refine z_aload_nN dX10_vote_170 rfl rfl ?_
      refine z_iload dX10_vote_171 rfl rfl ?_
      first | refine z_aload_n dX10_vote_173 rfl rfl ?_ | refine z_aload_nN dX10_vote_173 rfl rfl ?_
      refine z_iload dX10_vote_174 rfl rfl ?_
      refine z_iload dX10_vote_176 rfl rfl ?_
      refine zcx_X10_135 rfl dX10_vote_178 rfl mo_recv (r_cellAt g h m S1 _ _ (rec_in hc)) rfl rfl ⟨(Nat.le_of_ble_eq_true rfl), (Nat.le_of_ble_eq_true rfl)⟩ ⟨(Nat.le_of_ble_eq_true rfl), (Nat.le_of_ble_eq_true rfl)⟩ (Nat.le_of_ble_eq_true rfl) ?_
      refine zcx_X10_112 rfl dX10_vote_181 rfl mo_recv (r_areAlike g h m S1 _ _ qa ua (by rw [qm]; exact qo) (by rw [um]; exact uo)) rfl rfl ⟨(Nat.le_of_ble_eq_true rfl), (Nat.le_of_ble_eq_true rfl)⟩ ⟨(Nat.le_of_ble_eq_true rfl), (Nat.le_of_ble_eq_true rfl)⟩ (Nat.le_of_ble_eq_true rfl) ?_
      rw [qm, um]
      refine z_bif_eq (tgt := 191) dX10_vote_184 rfl (by decide) (fun c184 => ?_) (fun c184 => absurd c184 h3)
      refine z_iconst (v := 0) dX10_vote_191 rfl (by decide) ?_
      refine z_istore dX10_vote_192 rfl (Nat.le_of_ble_eq_true rfl) ?_
      refine z_iload dX10_vote_194 rfl rfl ?_
      refine z_if_eq (tgt := 223) dX10_vote_196 rfl (by decide) (fun c196 => ?_) (fun c196 => absurd c196 (fun z => z rfl))
      first | refine z_aload_n dX10_vote_223 rfl rfl ?_ | refine z_aload_nN dX10_vote_223 rfl rfl ?_
      refine z_iload dX10_vote_224 rfl rfl ?_
      refine z_if_eq (tgt := 234) dX10_vote_226 rfl (by decide) (fun c226 => ?_) (fun c226 => absurd c226 (fun z => z rfl))
      refine z_iload dX10_vote_234 rfl rfl ?_
      refine z_sipush (v := 520) dX10_vote_236 rfl (by decide) ?_
      refine z_iload dX10_vote_239 rfl rfl ?_
      refine z_iadd dX10_vote_241 rfl ?_
      rw [n520]
      refine zcv_X10_229 rfl dX10_vote_242 rfl mo_recv (r_copiesCell g h m S1 _ _ pa (vp_in_nI (show 520 + i < 880 by omega) (by decide))) rfl rfl ⟨(Nat.le_of_ble_eq_true rfl), (Nat.le_of_ble_eq_true rfl)⟩ ⟨(Nat.le_of_ble_eq_true rfl), (Nat.le_of_ble_eq_true rfl)⟩ (Nat.le_of_ble_eq_true rfl) ?_
      rw [nI_clamp (show 520 + i < 2 ^ 31 by omega), pm]
      refine z_iload dX10_vote_245 rfl rfl ?_
      refine z_iload dX10_vote_247 rfl rfl ?_
      refine z_if_ne (tgt := 261) dX10_vote_249 rfl (by decide) (fun c249 => absurd c249 (fun z => z rfl)) (fun c249 => ?_)
      refine z_iload dX10_vote_252 rfl rfl ?_
      refine z_if_ne (tgt := 261) dX10_vote_254 rfl (by decide) (fun c254 => absurd c254 (fun z => z rfl)) (fun c254 => ?_)
      refine z_iconst (v := 1) dX10_vote_257 rfl (by decide) ?_
      refine z_goto (tgt := 262) dX10_vote_258 rfl (by decide) ?_
      refine zcx_X10_200 rfl dX10_vote_262 rfl (r_flag g _ True) rfl rfl ⟨(Nat.le_of_ble_eq_true rfl), (Nat.le_of_ble_eq_true rfl)⟩ ⟨(Nat.le_of_ble_eq_true rfl), (Nat.le_of_ble_eq_true rfl)⟩ (Nat.le_of_ble_eq_true rfl) ?_
      refine z_iadd dX10_vote_265 rfl ?_
      rw [rg_T (show vtS (w.1.2.1 (ix a)).2 (w.1.2.1 (ix b)).2 (w.1.2.1 (ix c)).2 i = true by rw [vtS, hT, hO]; rfl)]
      refine z_istore dX10_vote_266 rfl (Nat.le_of_ble_eq_true rfl) ?_
      refine z_iinc (v := nI (i + 1)) dX10_vote_268 rfl rfl (nI_inc i) (Nat.le_of_ble_eq_true rfl) ?_
      refine z_goto (tgt := 105) dX10_vote_271 rfl (by decide) ?_
      refine z_lv [(6, .int (nI (w.1.2.1 (ix a)).2.length)), (7, .int (nI ((List.range (i + 1)).countP (vtS (w.1.2.1 (ix a)).2 (w.1.2.1 (ix b)).2 (w.1.2.1 (ix c)).2)))), (8, .int (nI (i + 1))), (0, .ref m), (1, .int r), (2, .int a), (3, .int b), (4, .int c)] ⟨rfl, rfl, rfl, rfl, rfl, rfl, rfl, rfl, trivial⟩ ?_
      exact ih _ (i + 1) (by omega) (scr_lay hs (by omega) _) (by rw [List.range_succ, List.map_append, List.map_singleton, show vtC (w.1.2.1 (ix a)).2 (w.1.2.1 (ix b)).2 (w.1.2.1 (ix c)).2 i = (w.1.2.1 (ix a)).2.getD i z0 from by rw [vtC, hO, if_neg Bool.false_ne_true]]; have z := made_s hm ((w.1.2.1 (ix a)).2.getD i z0); rw [made_len] at z; exact z) (fun j hj => by rcases Nat.lt_or_eq_of_le (Nat.le_of_lt_succ hj) with z | z; exact hnb j z; rw [z]; exact (by rw [vtB, hO]; rfl))

theorem vote_cs {S : sMS} {w : sW} (hR : RepM S w) {a b c : Int32} (ha : isRec a) (hb : isRec b) (ha2 : w.1.1 (ix a) = 2) (hb2 : w.1.1 (ix b) = 2) (eb : (w.1.2.1 (ix b)).2.length = (w.1.2.1 (ix a)).2.length) : ∀ x, x ∈ ((List.range (w.1.2.1 (ix a)).2.length).map (vtC (w.1.2.1 (ix a)).2 (w.1.2.1 (ix b)).2 (w.1.2.1 (ix c)).2)) → (∀ j, j < (w.1.2.1 (ix a)).2.length → vtB (w.1.2.1 (ix a)) (w.1.2.1 (ix b)).2 (w.1.2.1 (ix c)).2 j = false) → sOk x ∧ sInto x.1 (w.1.2.1 (ix a)).1 = true := by
  intro x hx hnb
  obtain ⟨j, hj, rfl⟩ := List.mem_map.mp hx
  have hj := List.mem_range.mp hj
  have pa := rcell_fit hR.1 (ix_lt ha) ha2 (i := j) hj
  have pb := rcell_fit hR.1 (ix_lt hb) hb2 (i := j) (by omega)
  have ka := (rep_kind hR.1 (ix_lt ha) ha2).2.2.2
  have hn := hnb j hj
  unfold vtC
  split
  · rename_i hO
    refine ⟨pb.1, ?_⟩
    rw [vtB, hO, Bool.true_and, Bool.not_eq_false'] at hn
    exact hn
  · refine ⟨pa.1, ?_⟩
    show sInto (rCell w.1 (ix a) j).1 _ = true
    by_cases h7 : (w.1.2.1 (ix a)).1 ≤ 7
    · rw [pa.2.1 h7]
      exact into_kk ⟨ka.1, h7⟩
    · exact pa.2.2 (by grind)
theorem vote_ne {w : sW} {r a b c : Int32} (hr : isRec r) (ha : isRec a) (hb : isRec b) (hc : isRec c) (hv : ¬ 0 < voteF w.1 (ix a) (ix b) (ix c)) (h : ¬ ((w.1.2.1 (ix b)).2.length = (w.1.2.1 (ix a)).2.length ∧ (w.1.2.1 (ix c)).2.length = (w.1.2.1 (ix a)).2.length)) : pVote w r a b c = (-2, w) := by
  unfold pVote
  rw [if_neg (fun z => z.elim (fun z => z hr) (fun z => z.elim (fun z => z ha) (fun z => z.elim (fun z => z hb) (fun z => z hc)))), if_neg hv, if_pos h]
theorem vote_f {w : sW} {r a b c : Int32} (hr : isRec r) (ha : isRec a) (hb : isRec b) (hc : isRec c) {x : Int32} (hv : voteF w.1 (ix a) (ix b) (ix c) = x) (h : 0 < x) : pVote w r a b c = (-10 - x, w) := by
  unfold pVote
  rw [if_neg (fun z => z.elim (fun z => z hr) (fun z => z.elim (fun z => z ha) (fun z => z.elim (fun z => z hb) (fun z => z hc)))), hv, if_pos h]
theorem vote_b {w : sW} {r a b c : Int32} (h : ¬ isRec r ∨ ¬ isRec a ∨ ¬ isRec b ∨ ¬ isRec c) : pVote w r a b c = (-1, w) := if_pos h

set_option maxHeartbeats 800000 in
set_option maxRecDepth 100000 in
theorem R_vote (g : zG) (h : zH) (m : Nat) (S : sMS) (w : sW) (hR : RepM S w) (r a b c : Int32) : zM g yX10_vote cX10_vote 13 (some .int) rmX10_vote [.ref m, .int r, .int a, .int b, .int c] (mUp m S h) (mPost m h (pVote w r a b c)) := by
  refine zM_of (by decide) (Nat.le_of_ble_eq_true rfl) ?_
  refine z_iload_n dX10_vote_0 rfl rfl ?_
  refine zcx_X10_141 rfl dX10_vote_1 rfl (r_isRecord g _ _) rfl rfl ⟨(Nat.le_of_ble_eq_true rfl), (Nat.le_of_ble_eq_true rfl)⟩ ⟨(Nat.le_of_ble_eq_true rfl), (Nat.le_of_ble_eq_true rfl)⟩ (Nat.le_of_ble_eq_true rfl) ?_
  refine z_bif_eq (tgt := 29) dX10_vote_4 rfl (by decide) (fun c4 => ?_) (fun c4 => ?_)
  · skip
    refine z_iconst (v := -1) dX10_vote_29 rfl (by decide) ?_
    exact z_iret dX10_vote_30 rfl rfl (mPost_of hR (vote_b (by grind))) (Nat.le_of_ble_eq_true rfl) (Nat.le_of_ble_eq_true rfl)
  · skip
    refine z_iload_n dX10_vote_7 rfl rfl ?_
    refine zcx_X10_141 rfl dX10_vote_8 rfl (r_isRecord g _ _) rfl rfl ⟨(Nat.le_of_ble_eq_true rfl), (Nat.le_of_ble_eq_true rfl)⟩ ⟨(Nat.le_of_ble_eq_true rfl), (Nat.le_of_ble_eq_true rfl)⟩ (Nat.le_of_ble_eq_true rfl) ?_
    refine z_bif_eq (tgt := 29) dX10_vote_11 rfl (by decide) (fun c11 => ?_) (fun c11 => ?_)
    · skip
      refine z_iconst (v := -1) dX10_vote_29 rfl (by decide) ?_
      exact z_iret dX10_vote_30 rfl rfl (mPost_of hR (vote_b (by grind))) (Nat.le_of_ble_eq_true rfl) (Nat.le_of_ble_eq_true rfl)
    · skip
      refine z_iload_n dX10_vote_14 rfl rfl ?_
      refine zcx_X10_141 rfl dX10_vote_15 rfl (r_isRecord g _ _) rfl rfl ⟨(Nat.le_of_ble_eq_true rfl), (Nat.le_of_ble_eq_true rfl)⟩ ⟨(Nat.le_of_ble_eq_true rfl), (Nat.le_of_ble_eq_true rfl)⟩ (Nat.le_of_ble_eq_true rfl) ?_
      refine z_bif_eq (tgt := 29) dX10_vote_18 rfl (by decide) (fun c18 => ?_) (fun c18 => ?_)
      · skip
        refine z_iconst (v := -1) dX10_vote_29 rfl (by decide) ?_
        exact z_iret dX10_vote_30 rfl rfl (mPost_of hR (vote_b (by grind))) (Nat.le_of_ble_eq_true rfl) (Nat.le_of_ble_eq_true rfl)
      · skip
        refine z_iload dX10_vote_21 rfl rfl ?_
        refine zcx_X10_141 rfl dX10_vote_23 rfl (r_isRecord g _ _) rfl rfl ⟨(Nat.le_of_ble_eq_true rfl), (Nat.le_of_ble_eq_true rfl)⟩ ⟨(Nat.le_of_ble_eq_true rfl), (Nat.le_of_ble_eq_true rfl)⟩ (Nat.le_of_ble_eq_true rfl) ?_
        refine z_bif_ne (tgt := 31) dX10_vote_26 rfl (by decide) (fun c26 => ?_) (fun c26 => ?_)
        · skip
          first | refine z_aload_n dX10_vote_31 rfl rfl ?_ | refine z_aload_nN dX10_vote_31 rfl rfl ?_
          refine z_iload_n dX10_vote_32 rfl rfl ?_
          refine z_iload_n dX10_vote_33 rfl rfl ?_
          refine zcx_X10_240 rfl dX10_vote_34 rfl mo_recv (q_rowsFault g h m S w.1 hR.1 _ _ c11 c18) rfl rfl ⟨(Nat.le_of_ble_eq_true rfl), (Nat.le_of_ble_eq_true rfl)⟩ ⟨(Nat.le_of_ble_eq_true rfl), (Nat.le_of_ble_eq_true rfl)⟩ (Nat.le_of_ble_eq_true rfl) ?_
          refine z_if_le (tgt := 49) dX10_vote_37 rfl (by decide) (fun c37 => ?_) (fun c37 => ?_)
          · skip
            first | refine z_aload_n dX10_vote_49 rfl rfl ?_ | refine z_aload_nN dX10_vote_49 rfl rfl ?_
            refine z_iload dX10_vote_50 rfl rfl ?_
            refine zcx_X10_124 rfl dX10_vote_52 rfl mo_recv (q_rowFault g h m S w.1 hR.1 _ c26) rfl rfl ⟨(Nat.le_of_ble_eq_true rfl), (Nat.le_of_ble_eq_true rfl)⟩ ⟨(Nat.le_of_ble_eq_true rfl), (Nat.le_of_ble_eq_true rfl)⟩ (Nat.le_of_ble_eq_true rfl) ?_
            refine z_istore dX10_vote_55 rfl (Nat.le_of_ble_eq_true rfl) ?_
            refine z_iload dX10_vote_57 rfl rfl ?_
            refine z_if_le (tgt := 68) dX10_vote_59 rfl (by decide) (fun c59 => ?_) (fun c59 => ?_)
            · skip
              have hfa : ¬ 0 < rowF w.1 (ix a) := by grind
              have hfb : ¬ 0 < rowF w.1 (ix b) := by grind
              have hfc : ¬ 0 < rowF w.1 (ix c) := by grind
              have hv : ¬ 0 < voteF w.1 (ix a) (ix b) (ix c) := by unfold voteF; grind
              have ha2 := rf_2 (rep_st hR.1 (ix_lt c11)) hfa
              have hb2 := rf_2 (rep_st hR.1 (ix_lt c18)) hfb
              have hc2 := rf_2 (rep_st hR.1 (ix_lt c26)) hfc
              have ka := rep_kind hR.1 (ix_lt c11) ha2
              have kb := rep_kind hR.1 (ix_lt c18) hb2
              have kc := rep_kind hR.1 (ix_lt c26) hc2
              have la : (w.1.2.1 (ix a)).2.length ≤ 20 := ka.2.2.2.2.2.1
              have lb : (w.1.2.1 (ix b)).2.length ≤ 20 := kb.2.2.2.2.2.1
              have lc : (w.1.2.1 (ix c)).2.length ≤ 20 := kc.2.2.2.2.2.1
              first | refine z_aload_n dX10_vote_68 rfl rfl ?_ | refine z_aload_nN dX10_vote_68 rfl rfl ?_
              refine z_iload_n dX10_vote_69 rfl rfl ?_
              refine zcx_X10_152 rfl dX10_vote_70 rfl mo_recv (r_sizeOf g h m S _ (rec_in c11) ka.2.2.1) rfl rfl ⟨(Nat.le_of_ble_eq_true rfl), (Nat.le_of_ble_eq_true rfl)⟩ ⟨(Nat.le_of_ble_eq_true rfl), (Nat.le_of_ble_eq_true rfl)⟩ (Nat.le_of_ble_eq_true rfl) ?_
              rw [ka.2.1]
              refine z_istore dX10_vote_73 rfl (Nat.le_of_ble_eq_true rfl) ?_
              first | refine z_aload_n dX10_vote_75 rfl rfl ?_ | refine z_aload_nN dX10_vote_75 rfl rfl ?_
              refine z_iload_n dX10_vote_76 rfl rfl ?_
              refine zcx_X10_152 rfl dX10_vote_77 rfl mo_recv (r_sizeOf g h m S _ (rec_in c18) kb.2.2.1) rfl rfl ⟨(Nat.le_of_ble_eq_true rfl), (Nat.le_of_ble_eq_true rfl)⟩ ⟨(Nat.le_of_ble_eq_true rfl), (Nat.le_of_ble_eq_true rfl)⟩ (Nat.le_of_ble_eq_true rfl) ?_
              rw [kb.2.1]
              refine z_iload dX10_vote_80 rfl rfl ?_
              refine z_icmp_ne (tgt := 96) dX10_vote_82 rfl (by decide) (fun c82 => ?_) (fun c82 => ?_)
              · skip
                refine z_bipush (v := -2) dX10_vote_96 rfl (by decide) ?_
                exact z_iret dX10_vote_98 rfl rfl (mPost_of hR (vote_ne c4 c11 c18 c26 hv (by first | exact fun z => c82 (by rw [z.1]) | exact fun z => c93 (by rw [z.2])))) (Nat.le_of_ble_eq_true rfl) (Nat.le_of_ble_eq_true rfl)
              · skip
                first | refine z_aload_n dX10_vote_85 rfl rfl ?_ | refine z_aload_nN dX10_vote_85 rfl rfl ?_
                refine z_iload dX10_vote_86 rfl rfl ?_
                refine zcx_X10_152 rfl dX10_vote_88 rfl mo_recv (r_sizeOf g h m S _ (rec_in c26) kc.2.2.1) rfl rfl ⟨(Nat.le_of_ble_eq_true rfl), (Nat.le_of_ble_eq_true rfl)⟩ ⟨(Nat.le_of_ble_eq_true rfl), (Nat.le_of_ble_eq_true rfl)⟩ (Nat.le_of_ble_eq_true rfl) ?_
                rw [kc.2.1]
                refine z_iload dX10_vote_91 rfl rfl ?_
                refine z_icmp_eq (tgt := 99) dX10_vote_93 rfl (by decide) (fun c93 => ?_) (fun c93 => ?_)
                · skip
                  refine z_iconst (v := 0) dX10_vote_99 rfl (by decide) ?_
                  refine z_istore dX10_vote_100 rfl (Nat.le_of_ble_eq_true rfl) ?_
                  refine z_iconst (v := 0) dX10_vote_102 rfl (by decide) ?_
                  refine z_istore dX10_vote_103 rfl (Nat.le_of_ble_eq_true rfl) ?_
                  have eb := (nI_eq (by omega) (by omega)).mp c82
                  have ec := (nI_eq (by omega) (by omega)).mp c93
                  refine z_lv [(6, .int (nI (w.1.2.1 (ix a)).2.length)), (7, .int (nI ((List.range 0).countP (vtS (w.1.2.1 (ix a)).2 (w.1.2.1 (ix b)).2 (w.1.2.1 (ix c)).2)))), (8, .int (nI 0)), (0, .ref m), (1, .int r), (2, .int a), (3, .int b), (4, .int c)] ⟨rfl, rfl, rfl, rfl, rfl, rfl, rfl, rfl, trivial⟩ ?_
                  exact R_vote_L g h m S w hR r a b c c4 c11 c18 c26 ha2 hb2 hc2 eb ec (vote_cs hR c11 c18 ha2 hb2 eb) (w.1.2.1 (ix a)).2.length S 0 (by omega) (scr_r S) (fun i hi => absurd hi (by simp)) (fun j hj => absurd hj (by omega))
                · skip
                  refine z_bipush (v := -2) dX10_vote_96 rfl (by decide) ?_
                  exact z_iret dX10_vote_98 rfl rfl (mPost_of hR (vote_ne c4 c11 c18 c26 hv (by first | exact fun z => c82 (by rw [z.1]) | exact fun z => c93 (by rw [z.2])))) (Nat.le_of_ble_eq_true rfl) (Nat.le_of_ble_eq_true rfl)
            · skip
              refine z_bipush (v := -10) dX10_vote_62 rfl (by decide) ?_
              refine z_iload dX10_vote_64 rfl rfl ?_
              refine z_isub dX10_vote_66 rfl ?_
              exact z_iret dX10_vote_67 rfl rfl (mPost_of hR (vote_f c4 c11 c18 c26 (by unfold voteF; grind) (by grind))) (Nat.le_of_ble_eq_true rfl) (Nat.le_of_ble_eq_true rfl)
          · skip
            first | refine z_aload_n dX10_vote_40 rfl rfl ?_ | refine z_aload_nN dX10_vote_40 rfl rfl ?_
            refine z_iload_n dX10_vote_41 rfl rfl ?_
            refine z_iload_n dX10_vote_42 rfl rfl ?_
            refine zcx_X10_240 rfl dX10_vote_43 rfl mo_recv (q_rowsFault g h m S w.1 hR.1 _ _ c11 c18) rfl rfl ⟨(Nat.le_of_ble_eq_true rfl), (Nat.le_of_ble_eq_true rfl)⟩ ⟨(Nat.le_of_ble_eq_true rfl), (Nat.le_of_ble_eq_true rfl)⟩ (Nat.le_of_ble_eq_true rfl) ?_
            refine z_goto (tgt := 55) dX10_vote_46 rfl (by decide) ?_
            refine z_istore dX10_vote_55 rfl (Nat.le_of_ble_eq_true rfl) ?_
            refine z_iload dX10_vote_57 rfl rfl ?_
            refine z_if_le (tgt := 68) dX10_vote_59 rfl (by decide) (fun c59 => absurd c59 c37) (fun c59 => ?_)
            refine z_bipush (v := -10) dX10_vote_62 rfl (by decide) ?_
            refine z_iload dX10_vote_64 rfl rfl ?_
            refine z_isub dX10_vote_66 rfl ?_
            exact z_iret dX10_vote_67 rfl rfl (mPost_of hR (vote_f c4 c11 c18 c26 (by unfold voteF; grind) (by grind))) (Nat.le_of_ble_eq_true rfl) (Nat.le_of_ble_eq_true rfl)
        · skip
          refine z_iconst (v := -1) dX10_vote_29 rfl (by decide) ?_
          exact z_iret dX10_vote_30 rfl rfl (mPost_of hR (vote_b (by grind))) (Nat.le_of_ble_eq_true rfl) (Nat.le_of_ble_eq_true rfl)

