set_option maxHeartbeats 4000000 in
set_option maxRecDepth 100000 in
theorem q_findSteps (g : zG) (h : zH) (m : Nat) (S : sMS) (A B : sA) (hA : mRowIs S 24 A) (hB : mRowIs S 25 B) (q : Nat → Int32) (hq : ∀ i, i < 4 → S.1 7 i = q i) (hqo : rateOk q) (hT : tabIs q A.2 B.2 (S.1 8) 0 0) : zM g yX10_findSteps cX10_findSteps 5 none rmX10_findSteps [.ref m] (mUp m S h) (fun v h1 => v = none ∧ ∃ S2, h1 = mUp m S2 h ∧ frS S S2 ∧ stIs S2 (sSteps q A.2 B.2 A.2.length B.2.length)) := by
  refine zM_of (by decide) (Nat.le_of_ble_eq_true rfl) ?_
  first | refine z_aload_n dX10_findSteps_0 rfl rfl ?_ | refine z_aload_nN dX10_findSteps_0 rfl rfl ?_
  refine z_iconst (v := 0) dX10_findSteps_1 rfl (by decide) ?_
  refine zmp_233 rfl dX10_findSteps_2 rfl ?_
  refine z_iconst (v := 0) dX10_findSteps_5 rfl (by decide) ?_
  refine z_istore_n dX10_findSteps_6 rfl (Nat.le_of_ble_eq_true rfl) ?_
  refine z_iconst (v := 0) dX10_findSteps_7 rfl (by decide) ?_
  refine z_istore_n dX10_findSteps_8 rfl (Nat.le_of_ble_eq_true rfl) ?_
  refine z_lv [(1, .int (nI 0)), (2, .int (nI 0)), (0, .ref m)] ⟨rfl, rfl, rfl, trivial⟩ ?_
  exact q_find_L g h m S A B hA hB q hq hqo hT _ _ _ 0 0 [] (Nat.le_refl _) (Nat.zero_le _) (Nat.zero_le _) (Nat.le_refl _) ⟨fun _ _ => rfl, rfl, rfl, fun j hj => by simp [va_up, hj], rfl⟩ ⟨by simp [va_up]; rfl, fun k t hk => by cases hk⟩ rfl

/-- each step is one of three -/
def stepOk (q : Nat → Int32) (A B : List sC) (t : sStep) : Prop := (∃ i j, i < A.length ∧ j < B.length ∧ t = st0 q A B i j) ∨ (∃ i, i < A.length ∧ t = st1 q A i) ∨ (∃ j, j < B.length ∧ t = st2 q B j)
theorem ss_ok (q : Nat → Int32) (A B : List sC) : ∀ a b, a ≤ A.length → b ≤ B.length → ∀ t, t ∈ sSteps q A B a b → stepOk q A B t
  | 0, 0, _, _, t, ht => by rw [sSteps] at ht; cases ht
  | a + 1, 0, ha, hb, t, ht => by
    rw [sSteps] at ht
    rcases List.mem_cons.mp ht with e | e
    · exact Or.inr (Or.inl ⟨_, by omega, e⟩)
    · exact ss_ok q A B a 0 (by omega) hb t e
  | 0, b + 1, ha, hb, t, ht => by
    rw [sSteps] at ht
    rcases List.mem_cons.mp ht with e | e
    · exact Or.inr (Or.inr ⟨_, by omega, e⟩)
    · exact ss_ok q A B 0 b ha (by omega) t e
  | a + 1, b + 1, ha, hb, t, ht => by
    rw [sSteps] at ht
    split at ht
    · rcases List.mem_cons.mp ht with e | e
      · exact Or.inl ⟨_, _, by omega, by omega, e⟩
      · exact ss_ok q A B a b (by omega) (by omega) t e
    · split at ht
      · rcases List.mem_cons.mp ht with e | e
        · exact Or.inr (Or.inl ⟨_, by omega, e⟩)
        · exact ss_ok q A B a (b + 1) (by omega) hb t e
      · rcases List.mem_cons.mp ht with e | e
        · exact Or.inr (Or.inr ⟨_, by omega, e⟩)
        · exact ss_ok q A B (a + 1) b ha (by omega) t e
termination_by a b => a + b
def mNr (S : sMS) (e : Nat → Int32) : sMS := (va_up S.1 14 e, S.2)
theorem mNr_o (S : sMS) (e : Nat → Int32) {j : Nat} (h : j ≠ 14) : (mNr S e).1 j = S.1 j := by simp [mNr, va_up, h]
theorem mNr_14 (S : sMS) (e : Nat → Int32) : (mNr S e).1 14 = e := by simp [mNr, va_up]
theorem mNr_up (S : sMS) (f : Nat → Int32) (k : Nat) (v : Int32) : (va_up (mNr S f).1 14 (upd ((mNr S f).1 14) k v), (mNr S f).2) = mNr S (upd f k v) := by
  unfold mNr
  refine Prod.ext ?_ rfl
  funext j
  simp only [va_up]
  split <;> simp_all
theorem mNr_row {S : sMS} (f : Nat → Int32) {k : Nat} {A : sA} (hA : mRowIs S k A) : mRowIs (mNr S f) k A := ⟨by rw [mNr_o _ _ (by decide)]; exact hA.1, by rw [mNr_o _ _ (by decide)]; exact hA.2.1, hA.2.2.1, hA.2.2.2⟩
def nrIs (L : List sStep) (e : Nat → Int32) (n : Nat) : Prop := ∀ k t, k < n → L[k]? = some t → t.1 = 0 → e k = (if t.2.2.2.1 = 1 then 1 else 0)
theorem nr_s {L : List sStep} {e : Nat → Int32} {n : Nat} {x : Int32} {t : sStep} (h : nrIs L e n) (ht : L[n]? = some t) (hx : t.1 = 0 → x = (if t.2.2.2.1 = 1 then 1 else 0)) : nrIs L (upd e n x) (n + 1) := by
  intro k u hk hu h0
  unfold upd
  by_cases c : k = n
  · rw [if_pos c]
    subst c
    rw [ht] at hu
    cases hu
    exact hx h0
  · rw [if_neg c]
    exact h k u (by omega) hu h0
theorem sLike_1 {c d : sC} {t : Int32} : sLike c d t = 1 ↔ sNear c d t = true := by
  unfold sLike
  by_cases a : sAlike c d = true
  · rw [if_pos a]
    refine ⟨fun z => absurd z (by decide), fun z => ?_⟩
    unfold sNear at z
    rw [if_pos (Or.inr a)] at z
    cases z
  · rw [if_neg a]
    by_cases n : sNear c d t = true
    · rw [if_pos n]; exact ⟨fun _ => n, fun _ => rfl⟩
    · rw [if_neg n]; exact ⟨fun z => absurd z (by decide), fun z => absurd z n⟩

abbrev YX10_seesNear : zY := (yX10_seesNear.cls, cX10_seesNear, 2, none, rmX10_seesNear, yX10_seesNear.name, fun _ _ => True)
set_option maxHeartbeats 4000000 in
set_option maxRecDepth 100000 in
theorem r_seesNear_L (g : zG) (h : zH) (m : Nat) (S : sMS) (A B : sA) (hA : mRowIs S 24 A) (hB : mRowIs S 25 B) (q : Nat → Int32) (hq : S.1 7 0 = q 0) (L : List sStep) (hL : L.length ≤ 40) (hs : stIs S L) (ho : ∀ t, t ∈ L → stepOk q A.2 B.2 t) : ∀ (n : Nat) (e : Nat → Int32) (k : Nat), k + n = L.length → nrIs L e k → zZ g YX10_seesNear (zE g (fun v h1 => v = none ∧ ∃ e, h1 = mUp m (mNr S e) h ∧ nrIs L e L.length) 0 0) 2 [(1, .int (nI k)), (0, .ref m)] [] (mUp m (mNr S e) h) 0 0 := by
  intro n
  induction n with
  | zero =>
    intro e k hkn hn
    have h12 : (mNr S e).2.2.2.1 12 = nI L.length := hs.1
    refine z_iload_n dX10_seesNear_2 rfl rfl ?_
    first | refine z_aload_n dX10_seesNear_3 rfl rfl ?_ | refine z_aload_nN dX10_seesNear_3 rfl rfl ?_
    refine zmg_233 rfl dX10_seesNear_4 rfl ?_
    rw [h12]
    refine z_icmp_ge (tgt := 63) dX10_seesNear_7 rfl (by decide) (fun c7 => ?_) (fun c7 => absurd c7 (fun z => z (nI_le (by omega) (by omega))))
    exact z_vret dX10_seesNear_63 rfl rfl ⟨rfl, e, rfl, by rw [show L.length = k by omega]; exact hn⟩ (Nat.le_of_ble_eq_true rfl) (Nat.le_of_ble_eq_true rfl)
  | succ n ih =>
    intro e k hkn hn
    have h12 : (mNr S e).2.2.2.1 12 = nI L.length := hs.1
    obtain ⟨t, hk⟩ : ∃ t, L[k]? = some t := ⟨_, List.getElem?_eq_getElem (by omega)⟩
    have hst := hs.2 k t hk
    have w0 : (mNr S e).1 9 (nI k).toNatClampNeg = t.1 := by rw [nI_clamp (by omega), mNr_o _ _ (by decide)]; exact hst.1
    have w1 : (mNr S e).1 10 (nI k).toNatClampNeg = t.2.1 := by rw [nI_clamp (by omega), mNr_o _ _ (by decide)]; exact hst.2.1
    have w2 : (mNr S e).1 11 (nI k).toNatClampNeg = t.2.2.1 := by rw [nI_clamp (by omega), mNr_o _ _ (by decide)]; exact hst.2.2.1
    rcases ho t (List.mem_of_getElem? hk) with ⟨i, j, hi, hj, rfl⟩ | ⟨i, hi, rfl⟩ | ⟨j, hj, rfl⟩
    · have pa := row_at (mNr_row e hA) (by decide) hi
      have pb := row_at (mNr_row e hB) (by decide) hj
      refine z_iload_n dX10_seesNear_2 rfl rfl ?_
      first | refine z_aload_n dX10_seesNear_3 rfl rfl ?_ | refine z_aload_nN dX10_seesNear_3 rfl rfl ?_
      refine zmg_233 rfl dX10_seesNear_4 rfl ?_
      rw [h12]
      refine z_icmp_ge (tgt := 63) dX10_seesNear_7 rfl (by decide) (fun c7 => absurd c7 (nI_ge (by omega) (by omega))) (fun c7 => ?_)
      first | refine z_aload_n dX10_seesNear_10 rfl rfl ?_ | refine z_aload_nN dX10_seesNear_10 rfl rfl ?_
      refine zmg_52 rfl dX10_seesNear_11 rfl ?_
      refine z_iload_n dX10_seesNear_14 rfl rfl ?_
      first | refine z_aload_n dX10_seesNear_15 rfl rfl ?_ | refine z_aload_nN dX10_seesNear_15 rfl rfl ?_
      refine zmg_36 rfl dX10_seesNear_16 rfl ?_
      refine z_iload_n dX10_seesNear_19 rfl rfl ?_
      refine zm_iald dX10_seesNear_20 rfl rfl (vp_in_nI (by omega) (by decide)) ?_
      rw [w0]
      refine z_if_ne (tgt := 55) dX10_seesNear_21 rfl (by decide) (fun c21 => absurd c21 (fun z => z rfl)) (fun c21 => ?_)
      first | refine z_aload_n dX10_seesNear_24 rfl rfl ?_ | refine z_aload_nN dX10_seesNear_24 rfl rfl ?_
      refine z_sipush (v := 480) dX10_seesNear_25 rfl (by decide) ?_
      first | refine z_aload_n dX10_seesNear_28 rfl rfl ?_ | refine z_aload_nN dX10_seesNear_28 rfl rfl ?_
      refine zmg_39 rfl dX10_seesNear_29 rfl ?_
      refine z_iload_n dX10_seesNear_32 rfl rfl ?_
      refine zm_iald dX10_seesNear_33 rfl rfl (vp_in_nI (by omega) (by decide)) ?_
      rw [w1]
      refine z_iadd dX10_seesNear_34 rfl ?_
      refine z_sipush (v := 500) dX10_seesNear_35 rfl (by decide) ?_
      first | refine z_aload_n dX10_seesNear_38 rfl rfl ?_ | refine z_aload_nN dX10_seesNear_38 rfl rfl ?_
      refine zmg_42 rfl dX10_seesNear_39 rfl ?_
      refine z_iload_n dX10_seesNear_42 rfl rfl ?_
      refine zm_iald dX10_seesNear_43 rfl rfl (vp_in_nI (by omega) (by decide)) ?_
      rw [w2]
      refine z_iadd dX10_seesNear_44 rfl ?_
      rw [n480, n500]
      refine zcx_X10_115 rfl dX10_seesNear_45 rfl mo_recv (r_areNear g h m (mNr S e) _ _ pa.1 pb.1 (by rw [pa.2.1]; exact pa.2.2) (by rw [pb.2.1]; exact pb.2.2)) rfl rfl ⟨(Nat.le_of_ble_eq_true rfl), (Nat.le_of_ble_eq_true rfl)⟩ ⟨(Nat.le_of_ble_eq_true rfl), (Nat.le_of_ble_eq_true rfl)⟩ (Nat.le_of_ble_eq_true rfl) ?_
      rw [pa.2.1, pb.2.1, mNr_o _ _ (by decide), hq]
      refine z_bif_eq (tgt := 55) dX10_seesNear_48 rfl (by decide) (fun c48 => ?_) (fun c48 => ?_)
      · skip
        refine z_iconst (v := 0) dX10_seesNear_55 rfl (by decide) ?_
        refine zm_zast dX10_seesNear_56 rfl rfl (vp_in_nI (by omega) (by decide)) ?_
        rw [mNr_up, nI_clamp (show k < 2 ^ 31 by omega), show vp_nar .boolean 0 = 0 from by decide]
        refine z_iinc (v := nI (k + 1)) dX10_seesNear_57 rfl rfl (nI_inc k) (Nat.le_of_ble_eq_true rfl) ?_
        refine z_goto (tgt := 2) dX10_seesNear_60 rfl (by decide) ?_
        refine z_lv [(1, .int (nI (k + 1))), (0, .ref m)] ⟨rfl, rfl, trivial⟩ ?_
        exact ih _ (k + 1) (by omega) (nr_s hn hk (fun _ => (if_neg (fun z => c48 (sLike_1.mp z))).symm))
      · skip
        refine z_iconst (v := 1) dX10_seesNear_51 rfl (by decide) ?_
        refine z_goto (tgt := 56) dX10_seesNear_52 rfl (by decide) ?_
        refine zm_zast dX10_seesNear_56 rfl rfl (vp_in_nI (by omega) (by decide)) ?_
        rw [mNr_up, nI_clamp (show k < 2 ^ 31 by omega), show vp_nar .boolean 1 = 1 from by decide]
        refine z_iinc (v := nI (k + 1)) dX10_seesNear_57 rfl rfl (nI_inc k) (Nat.le_of_ble_eq_true rfl) ?_
        refine z_goto (tgt := 2) dX10_seesNear_60 rfl (by decide) ?_
        refine z_lv [(1, .int (nI (k + 1))), (0, .ref m)] ⟨rfl, rfl, trivial⟩ ?_
        exact ih _ (k + 1) (by omega) (nr_s hn hk (fun _ => (if_pos (sLike_1.mpr c48)).symm))
    · skip
      refine z_iload_n dX10_seesNear_2 rfl rfl ?_
      first | refine z_aload_n dX10_seesNear_3 rfl rfl ?_ | refine z_aload_nN dX10_seesNear_3 rfl rfl ?_
      refine zmg_233 rfl dX10_seesNear_4 rfl ?_
      rw [h12]
      refine z_icmp_ge (tgt := 63) dX10_seesNear_7 rfl (by decide) (fun c7 => absurd c7 (nI_ge (by omega) (by omega))) (fun c7 => ?_)
      first | refine z_aload_n dX10_seesNear_10 rfl rfl ?_ | refine z_aload_nN dX10_seesNear_10 rfl rfl ?_
      refine zmg_52 rfl dX10_seesNear_11 rfl ?_
      refine z_iload_n dX10_seesNear_14 rfl rfl ?_
      first | refine z_aload_n dX10_seesNear_15 rfl rfl ?_ | refine z_aload_nN dX10_seesNear_15 rfl rfl ?_
      refine zmg_36 rfl dX10_seesNear_16 rfl ?_
      refine z_iload_n dX10_seesNear_19 rfl rfl ?_
      refine zm_iald dX10_seesNear_20 rfl rfl (vp_in_nI (by omega) (by decide)) ?_
      rw [w0]
      refine z_if_ne (tgt := 55) dX10_seesNear_21 rfl (by decide) (fun c21 => ?_) (fun c21 => absurd c21 (fun z => absurd (show (1 : Int32) = 0 from z) (by decide)))
      refine z_iconst (v := 0) dX10_seesNear_55 rfl (by decide) ?_
      refine zm_zast dX10_seesNear_56 rfl rfl (vp_in_nI (by omega) (by decide)) ?_
      rw [mNr_up, nI_clamp (show k < 2 ^ 31 by omega), show vp_nar .boolean 0 = 0 from by decide]
      refine z_iinc (v := nI (k + 1)) dX10_seesNear_57 rfl rfl (nI_inc k) (Nat.le_of_ble_eq_true rfl) ?_
      refine z_goto (tgt := 2) dX10_seesNear_60 rfl (by decide) ?_
      refine z_lv [(1, .int (nI (k + 1))), (0, .ref m)] ⟨rfl, rfl, trivial⟩ ?_
      exact ih _ (k + 1) (by omega) (nr_s hn hk (fun z => absurd (show (1 : Int32) = 0 from z) (by decide)))
    · skip
      refine z_iload_n dX10_seesNear_2 rfl rfl ?_
      first | refine z_aload_n dX10_seesNear_3 rfl rfl ?_ | refine z_aload_nN dX10_seesNear_3 rfl rfl ?_
      refine zmg_233 rfl dX10_seesNear_4 rfl ?_
      rw [h12]
      refine z_icmp_ge (tgt := 63) dX10_seesNear_7 rfl (by decide) (fun c7 => absurd c7 (nI_ge (by omega) (by omega))) (fun c7 => ?_)
      first | refine z_aload_n dX10_seesNear_10 rfl rfl ?_ | refine z_aload_nN dX10_seesNear_10 rfl rfl ?_
      refine zmg_52 rfl dX10_seesNear_11 rfl ?_
      refine z_iload_n dX10_seesNear_14 rfl rfl ?_
      first | refine z_aload_n dX10_seesNear_15 rfl rfl ?_ | refine z_aload_nN dX10_seesNear_15 rfl rfl ?_
      refine zmg_36 rfl dX10_seesNear_16 rfl ?_
      refine z_iload_n dX10_seesNear_19 rfl rfl ?_
      refine zm_iald dX10_seesNear_20 rfl rfl (vp_in_nI (by omega) (by decide)) ?_
      rw [w0]
      refine z_if_ne (tgt := 55) dX10_seesNear_21 rfl (by decide) (fun c21 => ?_) (fun c21 => absurd c21 (fun z => absurd (show (2 : Int32) = 0 from z) (by decide)))
      refine z_iconst (v := 0) dX10_seesNear_55 rfl (by decide) ?_
      refine zm_zast dX10_seesNear_56 rfl rfl (vp_in_nI (by omega) (by decide)) ?_
      rw [mNr_up, nI_clamp (show k < 2 ^ 31 by omega), show vp_nar .boolean 0 = 0 from by decide]
      refine z_iinc (v := nI (k + 1)) dX10_seesNear_57 rfl rfl (nI_inc k) (Nat.le_of_ble_eq_true rfl) ?_
      refine z_goto (tgt := 2) dX10_seesNear_60 rfl (by decide) ?_
      refine z_lv [(1, .int (nI (k + 1))), (0, .ref m)] ⟨rfl, rfl, trivial⟩ ?_
      exact ih _ (k + 1) (by omega) (nr_s hn hk (fun z => absurd (show (2 : Int32) = 0 from z) (by decide)))

set_option maxHeartbeats 4000000 in
set_option maxRecDepth 100000 in
theorem r_seesNear (g : zG) (h : zH) (m : Nat) (S : sMS) (A B : sA) (hA : mRowIs S 24 A) (hB : mRowIs S 25 B) (q : Nat → Int32) (hq : S.1 7 0 = q 0) (L : List sStep) (hL : L.length ≤ 40) (hs : stIs S L) (ho : ∀ t, t ∈ L → stepOk q A.2 B.2 t) : zM g yX10_seesNear cX10_seesNear 2 none rmX10_seesNear [.ref m] (mUp m S h) (fun v h1 => v = none ∧ ∃ e, h1 = mUp m (mNr S e) h ∧ nrIs L e L.length) := by
  refine zM_of (by decide) (Nat.le_of_ble_eq_true rfl) ?_
  refine z_iconst (v := 0) dX10_seesNear_0 rfl (by decide) ?_
  refine z_istore_n dX10_seesNear_1 rfl (Nat.le_of_ble_eq_true rfl) ?_
  refine z_lv [(1, .int (nI 0)), (0, .ref m)] ⟨rfl, rfl, trivial⟩ ?_
  have e : S = mNr S (S.1 14) := Prod.ext (funext fun j => by simp only [mNr, va_up]; split <;> simp_all) rfl
  have z := r_seesNear_L g h m S A B hA hB q hq L hL hs ho L.length (S.1 14) 0 (by omega) (fun k t hk => absurd hk (by omega))
  rw [← e] at z
  exact z

/-- all but the comparison is the same -/
def agC (S S' : sMS) : Prop := (∀ j, j = 6 ∨ j = 7 ∨ (14 < j ∧ j < 20) → S'.1 j = S.1 j) ∧ (∀ k, k < 24 → S'.1 4 k = S.1 4 k ∧ S'.1 5 k = S.1 5 k) ∧ (∀ a, a < 480 ∨ 560 ≤ a → mc S' a = mc S a) ∧ S'.2.2.2.2 = S.2.2.2.2 ∧ S'.2.2.2.1 7 = S.2.2.2.1 7
theorem agC_t {S S' S2 : sMS} (h : agC S S') (h2 : agC S' S2) : agC S S2 := ⟨fun j hj => (h2.1 j hj).trans (h.1 j hj), fun k hk => ⟨((h2.2.1 k hk).1).trans (h.2.1 k hk).1, ((h2.2.1 k hk).2).trans (h.2.1 k hk).2⟩, fun a ha => (h2.2.2.1 a ha).trans (h.2.2.1 a ha), h2.2.2.2.1.trans h.2.2.2.1, h2.2.2.2.2.trans h.2.2.2.2⟩
theorem agC_row {S S' : sMS} (h : agC S S') {k : Nat} (hk : k < 24) {A : sA} (hA : mRowIs S k A) : mRowIs S' k A := by
  have := hA.2.2.1.2.2.1
  exact ⟨((h.2.1 k hk).1).trans hA.1, ((h.2.1 k hk).2).trans hA.2.1, hA.2.2.1, fun i hi => by rw [h.2.2.1 _ (by omega)]; exact hA.2.2.2 i hi⟩
def wCo (w : sW) (C : Option sCo) : sW := (w.1, w.2.1, w.2.2.1, w.2.2.2.1, w.2.2.2.2.1, C, w.2.2.2.2.2.2)
theorem RepM_agC {S S' : sMS} {w : sW} {C : Option sCo} (hR : RepM S w) (h : agC S S') (hC : coIs S' C) : RepM S' (wCo w C) := by
  obtain ⟨⟨r1, r2⟩, ⟨h1, h2, h3, -, h5⟩, h6, h7⟩ := hR
  have e6 := h.1 6 (by omega)
  have e7 := h.1 7 (by omega)
  have e15 := h.1 15 (by omega)
  have e16 := h.1 16 (by omega)
  have e17 := h.1 17 (by omega)
  have e18 := h.1 18 (by omega)
  have e19 := h.1 19 (by omega)
  refine ⟨⟨fun r hr => ?_, fun r s hr hs a b => by rw [e6]; exact r2 r s hr hs a b⟩, ⟨fun k hk => ?_, fun i hi => by rw [e7]; exact h2 i hi, h3, hC, fun p hp => ?_⟩, h.2.2.2.1.trans h6, h.2.2.2.2.trans h7⟩
  · rw [e6]
    rcases r1 r hr with z | z | ⟨z, j, hj, z2, z3⟩
    · exact Or.inl z
    · exact Or.inr (Or.inl z)
    · exact Or.inr (Or.inr ⟨z, j, hj, z2, agC_row h (by omega) z3⟩)
  · have := h1 k hk
    show imgIs S' k (w.2.1 k)
    unfold imgIs at this ⊢
    generalize w.2.1 k = I at this ⊢
    cases I with
    | none => rw [e18]; exact this
    | some R =>
      simp only [e18, e19]
      refine ⟨this.1, fun r hr => ?_, this.2.2⟩
      rcases this.2.1 r hr with z | z | ⟨z, j, hj, z2, z3⟩
      · exact Or.inl z
      · exact Or.inr (Or.inl z)
      · exact Or.inr (Or.inr ⟨z, j, hj, z2, agC_row h (by omega) z3⟩)
  · have := h5 p hp
    show patIs S' p (w.2.2.2.2.2.2 p)
    unfold patIs at this ⊢
    generalize w.2.2.2.2.2.2 p = I at this ⊢
    cases I with
    | none => rw [e15]; exact this
    | some L =>
      obtain ⟨z1, z2, z3, z4⟩ := this
      refine ⟨by rw [e15]; exact z1, by rw [e16]; exact z2, z3, fun k a hk => ?_⟩
      obtain ⟨a1, a2, a3, a4, a5, a6, a7⟩ := z4 k a hk
      exact ⟨by rw [e17]; exact a1, a2, a3, a4, a5, fun c hc => by rw [h.2.2.1 _ (Or.inr (by omega))]; exact a6 c hc, fun c hc => by rw [h.2.2.1 _ (Or.inr (by omega))]; exact a7 c hc⟩
theorem agC_copy (S : sMS) (k : Nat) {t : Nat} (ht : t = 24 ∨ t = 25) : agC S (mCopy S k t) := ⟨fun j hj => mCopy_o _ _ _ (by omega) (by omega) (by omega), fun j hj => by rw [mCopy_4, mCopy_5, upd, if_neg (by omega), upd, if_neg (by omega)]; exact ⟨rfl, rfl⟩, fun a ha => by rw [mc_copy, if_neg (by omega)], by rw [mCopy_s], by rw [mCopy_s]⟩
theorem agC_rest (S : sMS) (f : Nat → Int32) : agC S (mRest S f) := ⟨fun j hj => mRest_o _ _ (by omega), fun j hj => by rw [mRest_o _ _ (by decide), mRest_o _ _ (by decide)]; exact ⟨rfl, rfl⟩, fun a ha => rfl, rfl, rfl⟩
theorem agC_nr (S : sMS) (f : Nat → Int32) : agC S (mNr S f) := ⟨fun j hj => mNr_o _ _ (by omega), fun j hj => by rw [mNr_o _ _ (by decide), mNr_o _ _ (by decide)]; exact ⟨rfl, rfl⟩, fun a ha => rfl, rfl, rfl⟩
theorem agC_fr {S S' : sMS} (h : frS S S') : agC S S' := ⟨fun j hj => h.1 j (by omega), fun j hj => by rw [h.1 4 (by decide), h.1 5 (by decide)]; exact ⟨rfl, rfl⟩, fun a ha => by unfold mc; rw [h.1 1 (by decide), h.2.1, h.2.2.1], h.2.2.2.2, h.2.2.2.1 7 (by decide)⟩
theorem agC_sc (S : sMS) {j : Nat} (hj : j ≠ 7) (x : Int32) : agC S (S.1, S.2.1, S.2.2.1, va_up S.2.2.2.1 j x, S.2.2.2.2) := ⟨fun _ _ => rfl, fun _ _ => ⟨rfl, rfl⟩, fun _ _ => rfl, rfl, by simp only [va_up]; rw [if_neg (fun z => hj z.symm)]⟩
/-- the comparison of two arrays -/
def sComp (q : Nat → Int32) (A B : sA) : sCo := (A, B, nI (dC q A.2 B.2 A.2.length B.2.length), sSteps q A.2 B.2 A.2.length B.2.length)
/-- 17 -/
def pCompare (w : sW) (a b : Int32) : Int32 × sW :=
  if ¬ isRec a ∨ ¬ isRec b then (-1, w)
  else if 0 < rowF w.1 (ix a) then (-10 - rowF w.1 (ix a), w)
  else if 0 < rowF w.1 (ix b) then (-10 - rowF w.1 (ix b), w)
  else ((sComp w.2.2.1 (w.1.2.1 (ix a)) (w.1.2.1 (ix b))).2.2.1, wCo w (some (sComp w.2.2.1 (w.1.2.1 (ix a)) (w.1.2.1 (ix b)))))
theorem step_is {q : Nat → Int32} {A B : sA} {S : sMS} {k : Nat} {t : sStep} (h : S.1 9 k = t.1 ∧ S.1 10 k = t.2.1 ∧ S.1 11 k = t.2.2.1 ∧ S.1 12 k = t.2.2.2.2 ∧ S.1 13 k = (if t.2.2.2.1 = 4 then 1 else 0)) (hn : t.1 = 0 → S.1 14 k = (if t.2.2.2.1 = 1 then 1 else 0)) (ho : stepOk q A.2 B.2 t) : stepIs S A B k t := by
  obtain ⟨a1, a2, a3, a4, a5⟩ := h
  refine ⟨a1, a4, a5, ?_⟩
  rcases ho with ⟨i, j, hi, hj, rfl⟩ | ⟨i, hi, rfl⟩ | ⟨j, hj, rfl⟩
  · refine Or.inl ⟨rfl, a2, a3, ⟨i, j, hi, hj, rfl, rfl, ?_⟩, hn rfl, sLike_le _ _ _⟩
    show sAlike (A.2.getD i z0) (B.2.getD j z0) = true ↔ sLike (A.2.getD i z0) (B.2.getD j z0) (q 0) = 0
    unfold sLike
    by_cases c : sAlike (A.2.getD i z0) (B.2.getD j z0) = true
    · rw [if_pos c]; exact ⟨fun _ => rfl, fun _ => c⟩
    · rw [if_neg c]
      exact ⟨fun z => absurd z c, fun z => by split at z <;> exact absurd z (by decide)⟩
  · refine Or.inr (Or.inl ⟨rfl, a2, a3, rfl, ⟨i, hi, rfl⟩, ?_⟩)
    show sAl A.2 i = 3 ∨ sAl A.2 i = 4
    unfold sAl
    split
    · exact Or.inr rfl
    · exact Or.inl rfl
  · refine Or.inr (Or.inr ⟨rfl, a2, a3, rfl, ⟨j, hj, rfl⟩, ?_⟩)
    show sAl B.2 j = 3 ∨ sAl B.2 j = 4
    unfold sAl
    split
    · exact Or.inr rfl
    · exact Or.inl rfl

set_option maxHeartbeats 4000000 in
set_option maxRecDepth 100000 in
/-- X10_rowsFault -/
theorem q_rowsFault (g : zG) (h : zH) (m : Nat) (S : sMS) (R : sR) (hR : rRep (S.1 6) (mRowIs S) R) (a b : Int32) (ha : isRec a) (hb : isRec b) : zX g yX10_rowsFault cX10_rowsFault 3 (some .int) rmX10_rowsFault [.ref m, .int a, .int b] (mUp m S h) (.int (if 0 < rowF R (ix a) then rowF R (ix a) else rowF R (ix b))) (mUp m S h) := by
  refine zM_of (by decide) (Nat.le_of_ble_eq_true rfl) ?_
  first | refine z_aload_n dX10_rowsFault_0 rfl rfl ?_ | refine z_aload_nN dX10_rowsFault_0 rfl rfl ?_
  refine z_iload_n dX10_rowsFault_1 rfl rfl ?_
  refine zcx_X10_124 rfl dX10_rowsFault_2 rfl mo_recv (q_rowFault g h m S R hR _ ha) rfl rfl ⟨(Nat.le_of_ble_eq_true rfl), (Nat.le_of_ble_eq_true rfl)⟩ ⟨(Nat.le_of_ble_eq_true rfl), (Nat.le_of_ble_eq_true rfl)⟩ (Nat.le_of_ble_eq_true rfl) ?_
  refine z_if_le (tgt := 16) dX10_rowsFault_5 rfl (by decide) (fun c5 => ?_) (fun c5 => ?_)
  · skip
    first | refine z_aload_n dX10_rowsFault_16 rfl rfl ?_ | refine z_aload_nN dX10_rowsFault_16 rfl rfl ?_
    refine z_iload_n dX10_rowsFault_17 rfl rfl ?_
    refine zcx_X10_124 rfl dX10_rowsFault_18 rfl mo_recv (q_rowFault g h m S R hR _ hb) rfl rfl ⟨(Nat.le_of_ble_eq_true rfl), (Nat.le_of_ble_eq_true rfl)⟩ ⟨(Nat.le_of_ble_eq_true rfl), (Nat.le_of_ble_eq_true rfl)⟩ (Nat.le_of_ble_eq_true rfl) ?_
    exact z_iret dX10_rowsFault_21 rfl rfl ⟨by grind, rfl⟩ (Nat.le_of_ble_eq_true rfl) (Nat.le_of_ble_eq_true rfl)
  · skip
    first | refine z_aload_n dX10_rowsFault_8 rfl rfl ?_ | refine z_aload_nN dX10_rowsFault_8 rfl rfl ?_
    refine z_iload_n dX10_rowsFault_9 rfl rfl ?_
    refine zcx_X10_124 rfl dX10_rowsFault_10 rfl mo_recv (q_rowFault g h m S R hR _ ha) rfl rfl ⟨(Nat.le_of_ble_eq_true rfl), (Nat.le_of_ble_eq_true rfl)⟩ ⟨(Nat.le_of_ble_eq_true rfl), (Nat.le_of_ble_eq_true rfl)⟩ (Nat.le_of_ble_eq_true rfl) ?_
    refine z_goto (tgt := 21) dX10_rowsFault_13 rfl (by decide) ?_
    exact z_iret dX10_rowsFault_21 rfl rfl ⟨by grind, rfl⟩ (Nat.le_of_ble_eq_true rfl) (Nat.le_of_ble_eq_true rfl)

theorem row_sc {S : sMS} (j : Nat) (x : Int32) {k : Nat} {A : sA} (hA : mRowIs S k A) : mRowIs (S.1, S.2.1, S.2.2.1, va_up S.2.2.2.1 j x, S.2.2.2.2) k A := hA
theorem cmp_ans {w : sW} {a b : Int32} (ha : isRec a) (hb : isRec b) (hfa : ¬ 0 < rowF w.1 (ix a)) (hfb : ¬ 0 < rowF w.1 (ix b)) {x : Int32} (hx : x = (sComp w.2.2.1 (w.1.2.1 (ix a)) (w.1.2.1 (ix b))).2.2.1) : pCompare w a b = (x, wCo w (some (sComp w.2.2.1 (w.1.2.1 (ix a)) (w.1.2.1 (ix b))))) := by
  rw [pCompare, if_neg (by grind), if_neg hfa, if_neg hfb, hx]
theorem cmp_co {w : sW} {a b : Int32} {S6 : sMS} (h10 : S6.2.2.2.1 10 = 1) (hA : mRowIs S6 24 (w.1.2.1 (ix a))) (hB : mRowIs S6 25 (w.1.2.1 (ix b))) (h11 : S6.2.2.2.1 11 = nI (dC w.2.2.1 (w.1.2.1 (ix a)).2 (w.1.2.1 (ix b)).2 (w.1.2.1 (ix a)).2.length (w.1.2.1 (ix b)).2.length)) (hs : stIs S6 (sSteps w.2.2.1 (w.1.2.1 (ix a)).2 (w.1.2.1 (ix b)).2 (w.1.2.1 (ix a)).2.length (w.1.2.1 (ix b)).2.length)) (hl : (sSteps w.2.2.1 (w.1.2.1 (ix a)).2 (w.1.2.1 (ix b)).2 (w.1.2.1 (ix a)).2.length (w.1.2.1 (ix b)).2.length).length ≤ 40) (hn : nrIs (sSteps w.2.2.1 (w.1.2.1 (ix a)).2 (w.1.2.1 (ix b)).2 (w.1.2.1 (ix a)).2.length (w.1.2.1 (ix b)).2.length) (S6.1 14) (sSteps w.2.2.1 (w.1.2.1 (ix a)).2 (w.1.2.1 (ix b)).2 (w.1.2.1 (ix a)).2.length (w.1.2.1 (ix b)).2.length).length) : coIs S6 (some (sComp w.2.2.1 (w.1.2.1 (ix a)) (w.1.2.1 (ix b)))) := by
  refine ⟨h10, hA, hB, h11, hs.1, hl, fun k t hk => ?_⟩
  have hk : (sSteps w.2.2.1 (w.1.2.1 (ix a)).2 (w.1.2.1 (ix b)).2 (w.1.2.1 (ix a)).2.length (w.1.2.1 (ix b)).2.length)[k]? = some t := hk
  exact step_is (q := w.2.2.1) (hs.2 k t hk) (fun h0 => hn k t (List.getElem?_eq_some_iff.mp hk).1 hk h0) (ss_ok w.2.2.1 _ _ _ _ (Nat.le_refl _) (Nat.le_refl _) t (List.mem_of_getElem? hk))
theorem stIs_sc {S : sMS} {P : List sStep} {j : Nat} (hj : j ≠ 12) (x : Int32) (h : stIs S P) : stIs (S.1, S.2.1, S.2.2.1, va_up S.2.2.2.1 j x, S.2.2.2.2) P := ⟨by simp only [va_up]; rw [if_neg (fun z => hj z.symm)]; exact h.1, h.2⟩
theorem stIs_nr {S : sMS} {P : List sStep} (e : Nat → Int32) (h : stIs S P) : stIs (mNr S e) P := ⟨h.1, fun k t hk => by rw [mNr_o _ _ (by decide), mNr_o _ _ (by decide), mNr_o _ _ (by decide), mNr_o _ _ (by decide), mNr_o _ _ (by decide)]; exact h.2 k t hk⟩

set_option maxHeartbeats 600000 in
set_option maxRecDepth 100000 in
theorem R_compare (g : zG) (h : zH) (m : Nat) (S : sMS) (w : sW) (hR : RepM S w) (a b : Int32) : zM g yX10_compare cX10_compare 3 (some .int) rmX10_compare [.ref m, .int a, .int b] (mUp m S h) (mPost m h (pCompare w a b)) := by
  refine zM_of (by decide) (Nat.le_of_ble_eq_true rfl) ?_
  refine z_iload_n dX10_compare_0 rfl rfl ?_
  refine zcx_X10_141 rfl dX10_compare_1 rfl (r_isRecord g _ _) rfl rfl ⟨(Nat.le_of_ble_eq_true rfl), (Nat.le_of_ble_eq_true rfl)⟩ ⟨(Nat.le_of_ble_eq_true rfl), (Nat.le_of_ble_eq_true rfl)⟩ (Nat.le_of_ble_eq_true rfl) ?_
  refine z_bif_eq (tgt := 14) dX10_compare_4 rfl (by decide) (fun c4 => ?_) (fun c4 => ?_)
  · skip
    refine z_iconst (v := -1) dX10_compare_14 rfl (by decide) ?_
    exact z_iret dX10_compare_15 rfl rfl (mPost_of hR (by grind [pCompare])) (Nat.le_of_ble_eq_true rfl) (Nat.le_of_ble_eq_true rfl)
  · skip
    refine z_iload_n dX10_compare_7 rfl rfl ?_
    refine zcx_X10_141 rfl dX10_compare_8 rfl (r_isRecord g _ _) rfl rfl ⟨(Nat.le_of_ble_eq_true rfl), (Nat.le_of_ble_eq_true rfl)⟩ ⟨(Nat.le_of_ble_eq_true rfl), (Nat.le_of_ble_eq_true rfl)⟩ (Nat.le_of_ble_eq_true rfl) ?_
    refine z_bif_ne (tgt := 16) dX10_compare_11 rfl (by decide) (fun c11 => ?_) (fun c11 => ?_)
    · skip
      first | refine z_aload_n dX10_compare_16 rfl rfl ?_ | refine z_aload_nN dX10_compare_16 rfl rfl ?_
      refine z_iload_n dX10_compare_17 rfl rfl ?_
      refine z_iload_n dX10_compare_18 rfl rfl ?_
      refine zcx_X10_240 rfl dX10_compare_19 rfl mo_recv (q_rowsFault g h m S w.1 hR.1 _ _ c4 c11) rfl rfl ⟨(Nat.le_of_ble_eq_true rfl), (Nat.le_of_ble_eq_true rfl)⟩ ⟨(Nat.le_of_ble_eq_true rfl), (Nat.le_of_ble_eq_true rfl)⟩ (Nat.le_of_ble_eq_true rfl) ?_
      refine z_if_le (tgt := 35) dX10_compare_22 rfl (by decide) (fun c22 => ?_) (fun c22 => ?_)
      · skip
        have hfa : ¬ 0 < rowF w.1 (ix a) := by grind
        have hfb : ¬ 0 < rowF w.1 (ix b) := by grind
        obtain ⟨ka, hka8, hka, hA⟩ := rep_row hR.1 (ix_lt c4) (rf_2 (rep_st hR.1 (ix_lt c4)) hfa)
        obtain ⟨kb, hkb8, hkb, hB⟩ := rep_row hR.1 (ix_lt c11) (rf_2 (rep_st hR.1 (ix_lt c11)) hfb)
        have la : (w.1.2.1 (ix a)).2.length ≤ 20 := hA.2.2.1.2.2.1
        have lb : (w.1.2.1 (ix b)).2.length ≤ 20 := hB.2.2.1.2.2.1
        first | refine z_aload_n dX10_compare_35 rfl rfl ?_ | refine z_aload_nN dX10_compare_35 rfl rfl ?_
        first | refine z_aload_n dX10_compare_36 rfl rfl ?_ | refine z_aload_nN dX10_compare_36 rfl rfl ?_
        refine zmg_27 rfl dX10_compare_37 rfl ?_
        refine z_iload_n dX10_compare_40 rfl rfl ?_
        refine zm_iald dX10_compare_41 rfl rfl (rec_in c4) ?_
        rw [hka]
        refine z_bipush (v := 24) dX10_compare_42 rfl (by decide) ?_
        refine zcv_X10_243 rfl dX10_compare_44 rfl mo_recv (r_copiesRow g h m S ka 24 (by omega) (by decide) (by omega)) rfl rfl ⟨(Nat.le_of_ble_eq_true rfl), (Nat.le_of_ble_eq_true rfl)⟩ ⟨(Nat.le_of_ble_eq_true rfl), (Nat.le_of_ble_eq_true rfl)⟩ (Nat.le_of_ble_eq_true rfl) ?_
        first | refine z_aload_n dX10_compare_47 rfl rfl ?_ | refine z_aload_nN dX10_compare_47 rfl rfl ?_
        first | refine z_aload_n dX10_compare_48 rfl rfl ?_ | refine z_aload_nN dX10_compare_48 rfl rfl ?_
        refine zmg_27 rfl dX10_compare_49 rfl ?_
        refine z_iload_n dX10_compare_52 rfl rfl ?_
        refine zm_iald dX10_compare_53 rfl rfl (rec_in c11) ?_
        rw [mCopy_o _ _ _ (by decide) (by decide) (by decide), hkb]
        refine z_bipush (v := 25) dX10_compare_54 rfl (by decide) ?_
        refine zcv_X10_243 rfl dX10_compare_56 rfl mo_recv (r_copiesRow g h m (mCopy S ka 24) kb 25 (by omega) (by decide) (by omega)) rfl rfl ⟨(Nat.le_of_ble_eq_true rfl), (Nat.le_of_ble_eq_true rfl)⟩ ⟨(Nat.le_of_ble_eq_true rfl), (Nat.le_of_ble_eq_true rfl)⟩ (Nat.le_of_ble_eq_true rfl) ?_
        have hA2 : mRowIs (mCopy (mCopy S ka 24) kb 25) 24 (w.1.2.1 (ix a)) := copy_oth (by decide) (copy_row hA)
        have hB2 : mRowIs (mCopy (mCopy S ka 24) kb 25) 25 (w.1.2.1 (ix b)) := copy_row (copy_oth (by omega) hB)
        have hq2 : ∀ i, i < 4 → (mCopy (mCopy S ka 24) kb 25).1 7 i = w.2.2.1 i := fun i hi => by rw [mCopy_o _ _ _ (by decide) (by decide) (by decide), mCopy_o _ _ _ (by decide) (by decide) (by decide)]; exact hR.2.1.2.1 i hi
        have hg2 : agC S (mCopy (mCopy S ka 24) kb 25) := agC_t (agC_copy S ka (Or.inl rfl)) (agC_copy _ kb (Or.inr rfl))
        generalize mCopy (mCopy S ka 24) kb 25 = S2 at hA2 hB2 hq2 hg2 ⊢
        first | refine z_aload_n dX10_compare_59 rfl rfl ?_ | refine z_aload_nN dX10_compare_59 rfl rfl ?_
        first | refine z_aload_n dX10_compare_60 rfl rfl ?_ | refine z_aload_nN dX10_compare_60 rfl rfl ?_
        refine z_bipush (v := 24) dX10_compare_61 rfl (by decide) ?_
        refine z_bipush (v := 25) dX10_compare_63 rfl (by decide) ?_
        refine zc_X10_246 rfl dX10_compare_65 rfl mo_recv (q_pathCosts g h m S2 24 25 _ _ hA2 hB2 (by decide) (by decide) w.2.2.1 hq2 hR.2.1.2.2.1) rfl rfl ⟨(Nat.le_of_ble_eq_true rfl), (Nat.le_of_ble_eq_true rfl)⟩ ⟨(Nat.le_of_ble_eq_true rfl), (Nat.le_of_ble_eq_true rfl)⟩ (Nat.le_of_ble_eq_true rfl) (fun v h1 hz => ?_)
        obtain ⟨f, rfl, rfl, hT⟩ := hz
        have hA3 := mRest_row f hA2
        have hB3 := mRest_row f hB2
        have hq3 : ∀ i, i < 4 → (mRest S2 f).1 7 i = w.2.2.1 i := fun i hi => by rw [mRest_o _ _ (by decide)]; exact hq2 i hi
        have hT3 : tabIs w.2.2.1 (w.1.2.1 (ix a)).2 (w.1.2.1 (ix b)).2 ((mRest S2 f).1 8) 0 0 := by rw [mRest_8]; exact hT
        have hg3 := agC_t hg2 (agC_rest S2 f)
        generalize mRest S2 f = S3 at hA3 hB3 hq3 hT3 hg3 ⊢
        refine zmp_249 rfl dX10_compare_68 rfl ?_
        have hA4 := row_sc 11 (nI (dC w.2.2.1 (w.1.2.1 (ix a)).2 (w.1.2.1 (ix b)).2 (w.1.2.1 (ix a)).2.length (w.1.2.1 (ix b)).2.length)) hA3
        have hB4 := row_sc 11 (nI (dC w.2.2.1 (w.1.2.1 (ix a)).2 (w.1.2.1 (ix b)).2 (w.1.2.1 (ix a)).2.length (w.1.2.1 (ix b)).2.length)) hB3
        have hg4 := agC_t hg3 (agC_sc S3 (j := 11) (by decide) (nI (dC w.2.2.1 (w.1.2.1 (ix a)).2 (w.1.2.1 (ix b)).2 (w.1.2.1 (ix a)).2.length (w.1.2.1 (ix b)).2.length)))
        have hc4 : (S3.1, S3.2.1, S3.2.2.1, va_up S3.2.2.2.1 11 (nI (dC w.2.2.1 (w.1.2.1 (ix a)).2 (w.1.2.1 (ix b)).2 (w.1.2.1 (ix a)).2.length (w.1.2.1 (ix b)).2.length)), S3.2.2.2.2).2.2.2.1 11 = (nI (dC w.2.2.1 (w.1.2.1 (ix a)).2 (w.1.2.1 (ix b)).2 (w.1.2.1 (ix a)).2.length (w.1.2.1 (ix b)).2.length)) := rfl
        have hq4 : ∀ i, i < 4 → (S3.1, S3.2.1, S3.2.2.1, va_up S3.2.2.2.1 11 (nI (dC w.2.2.1 (w.1.2.1 (ix a)).2 (w.1.2.1 (ix b)).2 (w.1.2.1 (ix a)).2.length (w.1.2.1 (ix b)).2.length)), S3.2.2.2.2).1 7 i = w.2.2.1 i := hq3
        have hT4 : tabIs w.2.2.1 (w.1.2.1 (ix a)).2 (w.1.2.1 (ix b)).2 ((S3.1, S3.2.1, S3.2.2.1, va_up S3.2.2.2.1 11 (nI (dC w.2.2.1 (w.1.2.1 (ix a)).2 (w.1.2.1 (ix b)).2 (w.1.2.1 (ix a)).2.length (w.1.2.1 (ix b)).2.length)), S3.2.2.2.2).1 8) 0 0 := hT3
        generalize (S3.1, S3.2.1, S3.2.2.1, va_up S3.2.2.2.1 11 (nI (dC w.2.2.1 (w.1.2.1 (ix a)).2 (w.1.2.1 (ix b)).2 (w.1.2.1 (ix a)).2.length (w.1.2.1 (ix b)).2.length)), S3.2.2.2.2) = S4 at hA4 hB4 hg4 hc4 hq4 hT4 ⊢
        first | refine z_aload_n dX10_compare_71 rfl rfl ?_ | refine z_aload_nN dX10_compare_71 rfl rfl ?_
        refine zc_X10_252 rfl dX10_compare_72 rfl mo_recv (q_findSteps g h m S4 _ _ hA4 hB4 w.2.2.1 hq4 hR.2.1.2.2.1 hT4) rfl rfl ⟨(Nat.le_of_ble_eq_true rfl), (Nat.le_of_ble_eq_true rfl)⟩ ⟨(Nat.le_of_ble_eq_true rfl), (Nat.le_of_ble_eq_true rfl)⟩ (Nat.le_of_ble_eq_true rfl) (fun v h1 hz => ?_)
        obtain ⟨rfl, S5, rfl, hf5, hs5⟩ := hz
        have hlen := sSteps_len w.2.2.1 (w.1.2.1 (ix a)).2 (w.1.2.1 (ix b)).2 (w.1.2.1 (ix a)).2.length (w.1.2.1 (ix b)).2.length
        have hl40 : (sSteps w.2.2.1 (w.1.2.1 (ix a)).2 (w.1.2.1 (ix b)).2 (w.1.2.1 (ix a)).2.length (w.1.2.1 (ix b)).2.length).length ≤ 40 := by omega
        have ho := ss_ok w.2.2.1 (w.1.2.1 (ix a)).2 (w.1.2.1 (ix b)).2 _ _ (Nat.le_refl _) (Nat.le_refl _)
        have hA5 := frS_row hf5 hA4
        have hB5 := frS_row hf5 hB4
        have hg5 := agC_t hg4 (agC_fr hf5)
        have hc5 := (hf5.2.2.2.1 11 (by decide)).trans hc4
        have hq5 : S5.1 7 0 = w.2.2.1 0 := by rw [hf5.1 7 (by decide)]; exact hq4 0 (by decide)
        clear hf5
        first | refine z_aload_n dX10_compare_75 rfl rfl ?_ | refine z_aload_nN dX10_compare_75 rfl rfl ?_
        refine zc_X10_255 rfl dX10_compare_76 rfl mo_recv (r_seesNear g h m S5 _ _ hA5 hB5 w.2.2.1 hq5 _ hl40 hs5 ho) rfl rfl ⟨(Nat.le_of_ble_eq_true rfl), (Nat.le_of_ble_eq_true rfl)⟩ ⟨(Nat.le_of_ble_eq_true rfl), (Nat.le_of_ble_eq_true rfl)⟩ (Nat.le_of_ble_eq_true rfl) (fun v h1 hz => ?_)
        obtain ⟨rfl, e, rfl, hn⟩ := hz
        have hA6 := mNr_row e hA5
        have hB6 := mNr_row e hB5
        have hg6 := agC_t hg5 (agC_nr S5 e)
        have hs6 := stIs_nr e hs5
        have hc6 : (mNr S5 e).2.2.2.1 11 = _ := hc5
        have hn6 := hn
        rw [← mNr_14 S5 e] at hn6
        generalize mNr S5 e = S6 at hA6 hB6 hg6 hs6 hc6 hn6 ⊢
        first | refine z_aload_n dX10_compare_79 rfl rfl ?_ | refine z_aload_nN dX10_compare_79 rfl rfl ?_
        refine z_iconst (v := 1) dX10_compare_80 rfl (by decide) ?_
        refine zmp_258 rfl dX10_compare_81 rfl rfl rfl ?_
        first | refine z_aload_n dX10_compare_84 rfl rfl ?_ | refine z_aload_nN dX10_compare_84 rfl rfl ?_
        refine zmg_249 rfl dX10_compare_85 rfl ?_
        exact z_iret dX10_compare_88 rfl rfl (mPost_of (RepM_agC hR (agC_t hg6 (agC_sc S6 (j := 10) (by decide) 1)) (cmp_co (S6 := (S6.1, S6.2.1, S6.2.2.1, va_up S6.2.2.2.1 10 1, S6.2.2.2.2)) rfl (row_sc 10 1 hA6) (row_sc 10 1 hB6) hc6 (stIs_sc (by decide) 1 hs6) hl40 hn6)) (cmp_ans c4 c11 hfa hfb hc6)) (Nat.le_of_ble_eq_true rfl) (Nat.le_of_ble_eq_true rfl)
      · skip
        refine z_bipush (v := -10) dX10_compare_25 rfl (by decide) ?_
        first | refine z_aload_n dX10_compare_27 rfl rfl ?_ | refine z_aload_nN dX10_compare_27 rfl rfl ?_
        refine z_iload_n dX10_compare_28 rfl rfl ?_
        refine z_iload_n dX10_compare_29 rfl rfl ?_
        refine zcx_X10_240 rfl dX10_compare_30 rfl mo_recv (q_rowsFault g h m S w.1 hR.1 _ _ c4 c11) rfl rfl ⟨(Nat.le_of_ble_eq_true rfl), (Nat.le_of_ble_eq_true rfl)⟩ ⟨(Nat.le_of_ble_eq_true rfl), (Nat.le_of_ble_eq_true rfl)⟩ (Nat.le_of_ble_eq_true rfl) ?_
        refine z_isub dX10_compare_33 rfl ?_
        exact z_iret dX10_compare_34 rfl rfl (mPost_of hR (by grind [pCompare])) (Nat.le_of_ble_eq_true rfl) (Nat.le_of_ble_eq_true rfl)
    · skip
      refine z_iconst (v := -1) dX10_compare_14 rfl (by decide) ?_
      exact z_iret dX10_compare_15 rfl rfl (mPost_of hR (by grind [pCompare])) (Nat.le_of_ble_eq_true rfl) (Nat.le_of_ble_eq_true rfl)

