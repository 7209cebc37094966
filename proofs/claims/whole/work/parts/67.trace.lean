def kUp (p l r s : Nat) (cost : Int32) (cnt n : Nat) (f : Nat → Nat → Int32) (h : zH) : zH := (h.1, fun q => if q = p then some (kOb l r s cost cnt) else if s ≤ q ∧ q < s + 5 then some (.inl (0, n, .inl (f (q - s)))) else h.2 q)
theorem kUp_o {p l r s : Nat} {cost : Int32} {cnt n : Nat} {f : Nat → Nat → Int32} {h : zH} : (kUp p l r s cost cnt n f h).2 p = some (kOb l r s cost cnt) := by simp only [kUp]; rw [if_pos trivial]
theorem kUp_a {p l r s : Nat} {cost : Int32} {cnt n : Nat} {f : Nat → Nat → Int32} {h : zH} (hp : p < s ∨ s + 5 ≤ p) {j : Nat} (hj : j < 5) : (kUp p l r s cost cnt n f h).2 (s + j) = some (.inl (0, n, .inl (f j))) := by
  simp only [kUp]; rw [if_neg (by omega), if_pos (by omega), Nat.add_sub_cancel_left]
theorem kUp_out {p l r s : Nat} {cost : Int32} {cnt n : Nat} {f : Nat → Nat → Int32} {h : zH} {q : Nat} (h1 : q ≠ p) (h2 : q < s ∨ s + 5 ≤ q) : (kUp p l r s cost cnt n f h).2 q = h.2 q := by
  simp only [kUp]; rw [if_neg h1, if_neg (by omega)]
theorem kUp_s {p l r s : Nat} {cost : Int32} {cnt n : Nat} {f : Nat → Nat → Int32} {h : zH} (hp : p < s ∨ s + 5 ≤ p) {j : Nat} (hj : j < 5) (f' : Nat → Int32) : ((kUp p l r s cost cnt n f h).1, va_up (kUp p l r s cost cnt n f h).2 (s + j) (some (.inl (0, n, .inl f')))) = kUp p l r s cost cnt n (va_up f j f') h := by
  refine Prod.ext rfl (funext fun q => ?_)
  simp only [kUp, va_up]
  by_cases e : q = s + j
  · rw [if_pos e, if_neg (by omega), if_pos (by omega), if_pos (by omega)]
  · rw [if_neg e]
    by_cases e1 : q = p
    · simp only [if_pos e1]
    · simp only [if_neg e1]
      by_cases e2 : s ≤ q ∧ q < s + 5
      · simp only [if_pos e2]
        rw [if_neg (show ¬ q - s = j by omega)]
      · simp only [if_neg e2]
theorem kUp_c {p l r s : Nat} {cost : Int32} {cnt cnt' n : Nat} {f : Nat → Nat → Int32} {h : zH} : ((kUp p l r s cost cnt n f h).1, va_up (kUp p l r s cost cnt n f h).2 p (some (kOb l r s cost cnt'))) = kUp p l r s cost cnt' n f h := by
  refine Prod.ext rfl (funext fun q => ?_)
  simp only [kUp, va_up]
  by_cases e : q = p
  · simp only [if_pos e]
  · simp only [if_neg e]
def stF (f : Nat → Nat → Int32) (k : Nat) (a b c d e : Int32) : Nat → Nat → Int32 := va_up (va_up (va_up (va_up (va_up f 0 (upd (f 0) k a)) 1 (upd (f 1) k b)) 2 (upd (f 2) k c)) 3 (upd (f 3) k d)) 4 (upd (f 4) k e)
theorem stF_eq (f : Nat → Nat → Int32) (k : Nat) (a b c d e : Int32) : va_up (va_up (va_up (va_up (va_up f 0 (upd (f 0) k a)) 1 (upd ((va_up f 0 (upd (f 0) k a)) 1) k b)) 2 (upd ((va_up (va_up f 0 (upd (f 0) k a)) 1 (upd ((va_up f 0 (upd (f 0) k a)) 1) k b)) 2) k c)) 3 (upd ((va_up (va_up (va_up f 0 (upd (f 0) k a)) 1 (upd ((va_up f 0 (upd (f 0) k a)) 1) k b)) 2 (upd ((va_up (va_up f 0 (upd (f 0) k a)) 1 (upd ((va_up f 0 (upd (f 0) k a)) 1) k b)) 2) k c)) 3) k d)) 4 (upd ((va_up (va_up (va_up (va_up f 0 (upd (f 0) k a)) 1 (upd ((va_up f 0 (upd (f 0) k a)) 1) k b)) 2 (upd ((va_up (va_up f 0 (upd (f 0) k a)) 1 (upd ((va_up f 0 (upd (f 0) k a)) 1) k b)) 2) k c)) 3 (upd ((va_up (va_up (va_up f 0 (upd (f 0) k a)) 1 (upd ((va_up f 0 (upd (f 0) k a)) 1) k b)) 2 (upd ((va_up (va_up f 0 (upd (f 0) k a)) 1 (upd ((va_up f 0 (upd (f 0) k a)) 1) k b)) 2) k c)) 3) k d)) 4) k e) = stF f k a b c d e := by
  simp [stF, va_up]
theorem stF_at (f : Nat → Nat → Int32) (k i : Nat) (a b c d e : Int32) : stF f k a b c d e 0 i = (if i = k then a else f 0 i) ∧ stF f k a b c d e 1 i = (if i = k then b else f 1 i) ∧ stF f k a b c d e 2 i = (if i = k then c else f 2 i) ∧ stF f k a b c d e 3 i = (if i = k then d else f 3 i) ∧ stF f k a b c d e 4 i = (if i = k then e else f 4 i) := by
  refine ⟨?_, ?_, ?_, ?_, ?_⟩ <;> simp [stF, va_up, upd]
theorem stF_is {f : Nat → Nat → Int32} {L : List sStep} (h : ∀ k t, L[k]? = some t → stpIs f k t) {a b c d e : Int32} {t : sStep} (ht : t.1 = a ∧ (t.1 ≠ 2 → b = t.2.1) ∧ (t.1 ≠ 1 → c = t.2.2.1) ∧ d = t.2.2.2.1 ∧ e = t.2.2.2.2) : ∀ k u, (L ++ [t])[k]? = some u → stpIs (stF f L.length a b c d e) k u := by
  intro k u hk
  obtain ⟨q0, q1, q2, q3, q4⟩ := stF_at f L.length k a b c d e
  by_cases z : k = L.length
  · rw [z, List.getElem?_append_right (Nat.le_refl _), Nat.sub_self] at hk
    have hu : t = u := by simpa using hk
    subst hu
    rw [if_pos z] at q0 q1 q2 q3 q4
    exact ⟨q0.trans ht.1.symm, fun y => q1.trans (ht.2.1 y), fun y => q2.trans (ht.2.2.1 y), q3.trans ht.2.2.2.1, q4.trans ht.2.2.2.2⟩
  · have hl : k < L.length := by
      have := (List.getElem?_eq_some_iff.mp hk).1
      rw [List.length_append, List.length_singleton] at this
      omega
    rw [List.getElem?_append_left hl] at hk
    obtain ⟨s0, s1, s2, s3, s4⟩ := h k u hk
    rw [if_neg z] at q0 q1 q2 q3 q4
    exact ⟨q0.trans s0, fun y => q1.trans (s1 y), fun y => q2.trans (s2 y), q3.trans s3, q4.trans s4⟩

set_option maxHeartbeats 800000 in
set_option maxRecDepth 100000 in
theorem m_add (g : zG) (h : zH) (p l r s : Nat) (cost : Int32) (cnt n : Nat) (hcn : cnt < n) (hn : n ≤ 40) (f : Nat → Nat → Int32) (hp : p < s ∨ s + 5 ≤ p) (a b c d e : Int32) : zXv g yX4_add cX4_add 6 none rmX4_add [.ref p, .int a, .int b, .int c, .int d, .int e] (kUp p l r s cost cnt n f h) (kUp p l r s cost (cnt + 1) n (stF f cnt a b c d e) h) := by
  refine zM_of (by decide) (Nat.le_of_ble_eq_true rfl) ?_
  first | refine z_aload_n dX4_add_0 rfl rfl ?_ | refine z_aload_nN dX4_add_0 rfl rfl ?_
  refine zg_X4_27 rfl dX4_add_1 rfl kUp_o rfl ?_
  first | refine z_aload_n dX4_add_4 rfl rfl ?_ | refine z_aload_nN dX4_add_4 rfl rfl ?_
  refine zg_X4_43 rfl dX4_add_5 rfl kUp_o rfl ?_
  refine z_iload_n dX4_add_8 rfl rfl ?_
  refine z_iast dX4_add_9 rfl (kUp_a hp (j := 0) (by decide)) (vp_in_nI hcn (by omega)) ?_
  rw [nI_clamp (show cnt < 2 ^ 31 by omega)]
  refine zZ_h (kUp p l r s cost cnt n (va_up f 0 (upd (f 0) cnt a)) h) (kUp_s hp (j := 0) (by decide) _) ?_
  first | refine z_aload_n dX4_add_10 rfl rfl ?_ | refine z_aload_nN dX4_add_10 rfl rfl ?_
  refine zg_X4_31 rfl dX4_add_11 rfl kUp_o rfl ?_
  first | refine z_aload_n dX4_add_14 rfl rfl ?_ | refine z_aload_nN dX4_add_14 rfl rfl ?_
  refine zg_X4_43 rfl dX4_add_15 rfl kUp_o rfl ?_
  refine z_iload_n dX4_add_18 rfl rfl ?_
  refine z_iast dX4_add_19 rfl (kUp_a hp (j := 1) (by decide)) (vp_in_nI hcn (by omega)) ?_
  rw [nI_clamp (show cnt < 2 ^ 31 by omega)]
  refine zZ_h (kUp p l r s cost cnt n (va_up (va_up f 0 (upd (f 0) cnt a)) 1 (upd ((va_up f 0 (upd (f 0) cnt a)) 1) cnt b)) h) (kUp_s hp (j := 1) (by decide) _) ?_
  first | refine z_aload_n dX4_add_20 rfl rfl ?_ | refine z_aload_nN dX4_add_20 rfl rfl ?_
  refine zg_X4_34 rfl dX4_add_21 rfl kUp_o rfl ?_
  first | refine z_aload_n dX4_add_24 rfl rfl ?_ | refine z_aload_nN dX4_add_24 rfl rfl ?_
  refine zg_X4_43 rfl dX4_add_25 rfl kUp_o rfl ?_
  refine z_iload_n dX4_add_28 rfl rfl ?_
  refine z_iast dX4_add_29 rfl (kUp_a hp (j := 2) (by decide)) (vp_in_nI hcn (by omega)) ?_
  rw [nI_clamp (show cnt < 2 ^ 31 by omega)]
  refine zZ_h (kUp p l r s cost cnt n (va_up (va_up (va_up f 0 (upd (f 0) cnt a)) 1 (upd ((va_up f 0 (upd (f 0) cnt a)) 1) cnt b)) 2 (upd ((va_up (va_up f 0 (upd (f 0) cnt a)) 1 (upd ((va_up f 0 (upd (f 0) cnt a)) 1) cnt b)) 2) cnt c)) h) (kUp_s hp (j := 2) (by decide) _) ?_
  first | refine z_aload_n dX4_add_30 rfl rfl ?_ | refine z_aload_nN dX4_add_30 rfl rfl ?_
  refine zg_X4_37 rfl dX4_add_31 rfl kUp_o rfl ?_
  first | refine z_aload_n dX4_add_34 rfl rfl ?_ | refine z_aload_nN dX4_add_34 rfl rfl ?_
  refine zg_X4_43 rfl dX4_add_35 rfl kUp_o rfl ?_
  refine z_iload dX4_add_38 rfl rfl ?_
  refine z_iast dX4_add_40 rfl (kUp_a hp (j := 3) (by decide)) (vp_in_nI hcn (by omega)) ?_
  rw [nI_clamp (show cnt < 2 ^ 31 by omega)]
  refine zZ_h (kUp p l r s cost cnt n (va_up (va_up (va_up (va_up f 0 (upd (f 0) cnt a)) 1 (upd ((va_up f 0 (upd (f 0) cnt a)) 1) cnt b)) 2 (upd ((va_up (va_up f 0 (upd (f 0) cnt a)) 1 (upd ((va_up f 0 (upd (f 0) cnt a)) 1) cnt b)) 2) cnt c)) 3 (upd ((va_up (va_up (va_up f 0 (upd (f 0) cnt a)) 1 (upd ((va_up f 0 (upd (f 0) cnt a)) 1) cnt b)) 2 (upd ((va_up (va_up f 0 (upd (f 0) cnt a)) 1 (upd ((va_up f 0 (upd (f 0) cnt a)) 1) cnt b)) 2) cnt c)) 3) cnt d)) h) (kUp_s hp (j := 3) (by decide) _) ?_
  first | refine z_aload_n dX4_add_41 rfl rfl ?_ | refine z_aload_nN dX4_add_41 rfl rfl ?_
  refine zg_X4_40 rfl dX4_add_42 rfl kUp_o rfl ?_
  first | refine z_aload_n dX4_add_45 rfl rfl ?_ | refine z_aload_nN dX4_add_45 rfl rfl ?_
  refine zg_X4_43 rfl dX4_add_46 rfl kUp_o rfl ?_
  refine z_iload dX4_add_49 rfl rfl ?_
  refine z_iast dX4_add_51 rfl (kUp_a hp (j := 4) (by decide)) (vp_in_nI hcn (by omega)) ?_
  rw [nI_clamp (show cnt < 2 ^ 31 by omega)]
  refine zZ_h (kUp p l r s cost cnt n (va_up (va_up (va_up (va_up (va_up f 0 (upd (f 0) cnt a)) 1 (upd ((va_up f 0 (upd (f 0) cnt a)) 1) cnt b)) 2 (upd ((va_up (va_up f 0 (upd (f 0) cnt a)) 1 (upd ((va_up f 0 (upd (f 0) cnt a)) 1) cnt b)) 2) cnt c)) 3 (upd ((va_up (va_up (va_up f 0 (upd (f 0) cnt a)) 1 (upd ((va_up f 0 (upd (f 0) cnt a)) 1) cnt b)) 2 (upd ((va_up (va_up f 0 (upd (f 0) cnt a)) 1 (upd ((va_up f 0 (upd (f 0) cnt a)) 1) cnt b)) 2) cnt c)) 3) cnt d)) 4 (upd ((va_up (va_up (va_up (va_up f 0 (upd (f 0) cnt a)) 1 (upd ((va_up f 0 (upd (f 0) cnt a)) 1) cnt b)) 2 (upd ((va_up (va_up f 0 (upd (f 0) cnt a)) 1 (upd ((va_up f 0 (upd (f 0) cnt a)) 1) cnt b)) 2) cnt c)) 3 (upd ((va_up (va_up (va_up f 0 (upd (f 0) cnt a)) 1 (upd ((va_up f 0 (upd (f 0) cnt a)) 1) cnt b)) 2 (upd ((va_up (va_up f 0 (upd (f 0) cnt a)) 1 (upd ((va_up f 0 (upd (f 0) cnt a)) 1) cnt b)) 2) cnt c)) 3) cnt d)) 4) cnt e)) h) (kUp_s hp (j := 4) (by decide) _) ?_
  first | refine z_aload_n dX4_add_52 rfl rfl ?_ | refine z_aload_nN dX4_add_52 rfl rfl ?_
  refine z_dup dX4_add_53 rfl rfl ?_
  refine zg_X4_43 rfl dX4_add_54 rfl kUp_o rfl ?_
  refine z_iconst (v := 1) dX4_add_57 rfl (by decide) ?_
  refine z_iadd dX4_add_58 rfl ?_
  rw [show nI cnt + (1 : Int32) = nI (cnt + 1) from nI_1 cnt]
  refine zp_X4_43 rfl dX4_add_59 rfl kUp_o rfl rfl (Nat.le_of_ble_eq_true rfl) ?_
  exact z_vret dX4_add_62 rfl rfl ⟨rfl, by rw [← stF_eq]; exact kUp_c⟩ (Nat.le_of_ble_eq_true rfl) (Nat.le_of_ble_eq_true rfl)

theorem kUp_new (p l r s n : Nat) (cost : Int32) (f : Nat → Option zOb) (hp : p < s) (F1 F2 F3 F4 F5 F6 F7 F8 I : Option zOb) (hI : I = some (.inl (0, n, .inl (fun _ => 0)))) (hF : F8 = some (kOb l r s cost 0)) : ((s + 1 + 1 + 1 + 1 + 1, va_up (va_up (va_up (va_up (va_up (va_up (va_up (va_up (va_up (va_up (va_up (va_up (va_up f p F1) p F2) p F3) s I) p F4) (s + 1) I) p F5) (s + 1 + 1) I) p F6) (s + 1 + 1 + 1) I) p F7) (s + 1 + 1 + 1 + 1) I) p F8) : zH) = kUp p l r s cost 0 n (fun _ _ => 0) (s + 5, f) := by
  subst hI hF
  refine Prod.ext rfl (funext fun q => ?_)
  simp only [kUp]
  by_cases e : q = p
  · subst e; rw [if_pos rfl, vu_s]
  · rw [if_neg e, vu_n e]
    by_cases e2 : s ≤ q ∧ q < s + 5
    · rw [if_pos e2]
      rcases (show q = s ∨ q = s + 1 ∨ q = s + 2 ∨ q = s + 3 ∨ q = s + 4 by omega) with z | z | z | z | z <;> subst z
      · rw [vu_n (by omega), vu_n e, vu_n (by omega), vu_n e, vu_n (by omega), vu_n e, vu_n (by omega), vu_n e, vu_s]
      · rw [vu_n (by omega), vu_n e, vu_n (by omega), vu_n e, vu_n (by omega), vu_n e, vu_s]
      · rw [vu_n (by omega), vu_n e, vu_n (by omega), vu_n e, vu_s]
      · rw [vu_n (by omega), vu_n e, vu_s]
      · rw [vu_s]
    · rw [if_neg e2, vu_n (by omega), vu_n e, vu_n (by omega), vu_n e, vu_n (by omega), vu_n e, vu_n (by omega), vu_n e, vu_n (by omega), vu_n e, vu_n e, vu_n e]

set_option maxHeartbeats 800000 in
set_option maxRecDepth 100000 in
theorem m_kinit (g : zG) (f : Nat → Option zOb) (p s : Nat) (fs : List Value) (hf : f p = some (.inr (3, fs))) (hfs : fs.length = 9) (hf8 : fs[8]? = some (.int 0)) (hps : p < s) (l r : Nat) (ka kb : Int32) (na nb : Nat) (ca cb : Nat → sC) (hL : cAt (s, f) l ka na ca) (hR : cAt (s, f) r kb nb cb) (hla : l ≠ p ∧ r ≠ p) (hn : na + nb ≤ 40) (cost : Int32) : zXv g yX4_init cX4_init 5 none rmX4_init [.ref p, .ref l, .ref r, .int cost] (s, f) (kUp p l r s cost 0 (na + nb) (fun _ _ => 0) (s + 5, f)) := by
  refine zM_of (by decide) (Nat.le_of_ble_eq_true rfl) ?_
  obtain ⟨x0, x1, x2, x3, x4, x5, x6, x7, x8, rfl⟩ : ∃ x0 x1 x2 x3 x4 x5 x6 x7 x8, fs = [x0, x1, x2, x3, x4, x5, x6, x7, x8] := by
    match fs, hfs with
    | [x0, x1, x2, x3, x4, x5, x6, x7, x8], _ => exact ⟨x0, x1, x2, x3, x4, x5, x6, x7, x8, rfl⟩
  obtain rfl : x8 = .int 0 := by simpa using hf8
  first | refine z_aload_n dX4_init_0 rfl rfl ?_ | refine z_aload_nN dX4_init_0 rfl rfl ?_
  refine zc_X4_3 rfl dX4_init_1 rfl (Nat.le_of_ble_eq_true rfl) (Nat.le_of_ble_eq_true rfl) ?_
  first | refine z_aload_n dX4_init_4 rfl rfl ?_ | refine z_aload_nN dX4_init_4 rfl rfl ?_
  first | refine z_aload_n dX4_init_5 rfl rfl ?_ | refine z_aload_nN dX4_init_5 rfl rfl ?_
  refine zp_X4_9 rfl rfl dX4_init_6 rfl hf rfl rfl (Nat.le_of_ble_eq_true rfl) ?_
  first | refine z_aload_n dX4_init_9 rfl rfl ?_ | refine z_aload_nN dX4_init_9 rfl rfl ?_
  first | refine z_aload_n dX4_init_10 rfl rfl ?_ | refine z_aload_nN dX4_init_10 rfl rfl ?_
  refine zp_X4_15 rfl rfl dX4_init_11 rfl vu_s rfl rfl (Nat.le_of_ble_eq_true rfl) ?_
  first | refine z_aload_n dX4_init_14 rfl rfl ?_ | refine z_aload_nN dX4_init_14 rfl rfl ?_
  refine z_iload_n dX4_init_15 rfl rfl ?_
  refine zp_X4_18 rfl rfl dX4_init_16 rfl vu_s rfl rfl (Nat.le_of_ble_eq_true rfl) ?_
  first | refine z_aload_n dX4_init_19 rfl rfl ?_ | refine z_aload_nN dX4_init_19 rfl rfl ?_
  refine zg_X4_22 rfl dX4_init_20 rfl ((vu_n hla.1).trans ((vu_n hla.1).trans ((vu_n hla.1).trans hL.1))) rfl ?_
  first | refine z_aload_n dX4_init_23 rfl rfl ?_ | refine z_aload_nN dX4_init_23 rfl rfl ?_
  refine zg_X4_22 rfl dX4_init_24 rfl ((vu_n hla.2).trans ((vu_n hla.2).trans ((vu_n hla.2).trans hR.1))) rfl ?_
  refine z_iadd dX4_init_27 rfl ?_
  rw [nI_add]
  refine z_istore dX4_init_28 rfl (Nat.le_of_ble_eq_true rfl) ?_
  first | refine z_aload_n dX4_init_30 rfl rfl ?_ | refine z_aload_nN dX4_init_30 rfl rfl ?_
  refine z_iload dX4_init_31 rfl rfl ?_
  refine z_newi (N := (na + nb)) dX4_init_33 rfl (nI_ge0 (by omega)) (nI_clamp (by omega)) (by omega) (by show _ ≤ 5; omega) (by show _ ≤ 200; omega) ?_
  refine zp_X4_27 rfl rfl dX4_init_35 rfl ((vu_n (by omega)).trans vu_s) rfl rfl (Nat.le_of_ble_eq_true rfl) ?_
  first | refine z_aload_n dX4_init_38 rfl rfl ?_ | refine z_aload_nN dX4_init_38 rfl rfl ?_
  refine z_iload dX4_init_39 rfl rfl ?_
  refine z_newi (N := (na + nb)) dX4_init_41 rfl (nI_ge0 (by omega)) (nI_clamp (by omega)) (by omega) (by show _ ≤ 5; omega) (by show _ ≤ 200; omega) ?_
  refine zp_X4_31 rfl rfl dX4_init_43 rfl ((vu_n (by omega)).trans vu_s) rfl rfl (Nat.le_of_ble_eq_true rfl) ?_
  first | refine z_aload_n dX4_init_46 rfl rfl ?_ | refine z_aload_nN dX4_init_46 rfl rfl ?_
  refine z_iload dX4_init_47 rfl rfl ?_
  refine z_newi (N := (na + nb)) dX4_init_49 rfl (nI_ge0 (by omega)) (nI_clamp (by omega)) (by omega) (by show _ ≤ 5; omega) (by show _ ≤ 200; omega) ?_
  refine zp_X4_34 rfl rfl dX4_init_51 rfl ((vu_n (by omega)).trans vu_s) rfl rfl (Nat.le_of_ble_eq_true rfl) ?_
  first | refine z_aload_n dX4_init_54 rfl rfl ?_ | refine z_aload_nN dX4_init_54 rfl rfl ?_
  refine z_iload dX4_init_55 rfl rfl ?_
  refine z_newi (N := (na + nb)) dX4_init_57 rfl (nI_ge0 (by omega)) (nI_clamp (by omega)) (by omega) (by show _ ≤ 5; omega) (by show _ ≤ 200; omega) ?_
  refine zp_X4_37 rfl rfl dX4_init_59 rfl ((vu_n (by omega)).trans vu_s) rfl rfl (Nat.le_of_ble_eq_true rfl) ?_
  first | refine z_aload_n dX4_init_62 rfl rfl ?_ | refine z_aload_nN dX4_init_62 rfl rfl ?_
  refine z_iload dX4_init_63 rfl rfl ?_
  refine z_newi (N := (na + nb)) dX4_init_65 rfl (nI_ge0 (by omega)) (nI_clamp (by omega)) (by omega) (by show _ ≤ 5; omega) (by show _ ≤ 200; omega) ?_
  refine zp_X4_40 rfl rfl dX4_init_67 rfl ((vu_n (by omega)).trans vu_s) rfl rfl (Nat.le_of_ble_eq_true rfl) ?_
  exact z_vret dX4_init_70 rfl rfl ⟨rfl, kUp_new p l r s (na + nb) cost f hps _ _ _ _ _ _ _ _ _ rfl rfl⟩ (by first | (show _ ≤ 5; omega) | (show _ ≤ 200; omega)) (by first | (show _ ≤ 5; omega) | (show _ ≤ 200; omega))

abbrev YX0_traceSteps : zY := (yX0_traceSteps.cls, cX0_traceSteps, 8, none, rmX0_traceSteps, yX0_traceSteps.name, fun _ _ => True)
set_option maxHeartbeats 800000 in
set_option maxRecDepth 100000 in
theorem m_trace_L (g : zG) (h : zH) (a : Nat) (T : alT) (hA0 : alAt h a T) (A B : sA) (lA : A.2.length ≤ 20) (lB : B.2.length ≤ 20) (ra : Nat) (q q' : Nat → Int32) (hr : h.2 ra = some (.inl (0, 4, .inl q'))) (hqq : ∀ i, i < 4 → q' i = q i) (hq : rateOk q) (hT : tC q A.2 B.2 T (fun _ _ => True) (fun _ _ => True)) (p l r s : Nat) (cost : Int32) (hp : p < s ∨ s + 5 ≤ p) (dp : p < a ∨ a + 46 ≤ p) (ds : s + 5 ≤ a ∨ a + 46 ≤ s) (rp : ra ≠ p) (rs : ra < s ∨ s + 5 ≤ ra) (Tt : List sStep) : ∀ (N : Nat) (f : Nat → Nat → Int32) (i j : Nat) (L : List sStep), (A.2.length - i) + (B.2.length - j) ≤ N → i ≤ A.2.length → j ≤ B.2.length → L.length ≤ i + j → (∀ k t, L[k]? = some t → stpIs f k t) → L ++ sSteps q A.2 B.2 (A.2.length - i) (B.2.length - j) = Tt → zZ g YX0_traceSteps (zE g (fun v h1 => v = none ∧ ∃ f, h1 = kUp p l r s cost Tt.length (A.2.length + B.2.length) f h ∧ ∀ k t, Tt[k]? = some t → stpIs f k t) 0 0) 26 [(7, .int (nI L.length)), (5, .int (nI i)), (6, .int (nI j)), (3, .int (nI A.2.length)), (4, .int (nI B.2.length)), (0, .ref a), (1, .ref p), (2, .ref ra)] [] (kUp p l r s cost L.length (A.2.length + B.2.length) f h) 0 0 := by
  intro N
  induction N with
  | zero =>
    intro f i j L hN hi0 hj0 hl hL he
    have hTt : L = Tt := by rw [← he, show A.2.length - i = 0 by omega, show B.2.length - j = 0 by omega, sSteps, List.append_nil]
    by_cases hk : L.length < A.2.length + B.2.length
    · skip
      refine z_iload dX0_traceSteps_26 rfl rfl ?_
      refine z_iload_n dX0_traceSteps_28 rfl rfl ?_
      refine z_iload dX0_traceSteps_29 rfl rfl ?_
      refine z_iadd dX0_traceSteps_31 rfl ?_
      rw [nI_add]
      refine z_icmp_ge (tgt := 229) dX0_traceSteps_32 rfl (by decide) (fun c32 => absurd c32 (nI_ge (by omega) (by omega))) (fun c32 => ?_)
      refine z_iload dX0_traceSteps_35 rfl rfl ?_
      refine z_iload_n dX0_traceSteps_37 rfl rfl ?_
      refine z_icmp_lt (tgt := 48) dX0_traceSteps_38 rfl (by decide) (fun c38 => absurd c38 (nI_nlt (by omega) (by omega))) (fun c38 => ?_)
      refine z_iload dX0_traceSteps_41 rfl rfl ?_
      refine z_iload dX0_traceSteps_43 rfl rfl ?_
      refine z_icmp_ge (tgt := 229) dX0_traceSteps_45 rfl (by decide) (fun c45 => ?_) (fun c45 => absurd c45 (fun z => z (nI_le (by omega) (by omega))))
      exact z_vret dX0_traceSteps_229 rfl rfl ⟨rfl, f, by rw [hTt], by rw [← hTt]; exact hL⟩ (Nat.le_of_ble_eq_true rfl) (Nat.le_of_ble_eq_true rfl)
    · skip
      refine z_iload dX0_traceSteps_26 rfl rfl ?_
      refine z_iload_n dX0_traceSteps_28 rfl rfl ?_
      refine z_iload dX0_traceSteps_29 rfl rfl ?_
      refine z_iadd dX0_traceSteps_31 rfl ?_
      rw [nI_add]
      refine z_icmp_ge (tgt := 229) dX0_traceSteps_32 rfl (by decide) (fun c32 => ?_) (fun c32 => absurd c32 (fun z => z (nI_le (by omega) (by omega))))
      exact z_vret dX0_traceSteps_229 rfl rfl ⟨rfl, f, by rw [hTt], by rw [← hTt]; exact hL⟩ (Nat.le_of_ble_eq_true rfl) (Nat.le_of_ble_eq_true rfl)
  | succ N ih =>
    intro f i j L hN hi0 hj0 hl hL he
    by_cases hi : i < A.2.length
    · by_cases hj : j < B.2.length
      · have hD : dC q A.2 B.2 (A.2.length - i) (B.2.length - j) < 2 ^ 31 := by have := dC_le hq A.2 B.2 (A.2.length - i) (B.2.length - j); omega
        have hPb : sBes q (A.2.getD i z0) (B.2.getD j z0) + dC q A.2 B.2 (A.2.length - (i + 1)) (B.2.length - (j + 1)) < 2 ^ 31 := cB hq _ _ (sBes_le hq _ _) (by omega) (by omega)
        have hLb : sAlone q A.2 i + dC q A.2 B.2 (A.2.length - (i + 1)) (B.2.length - j) < 2 ^ 31 := cB hq _ _ (sAlone_le hq _ _) (by omega) (by omega)
        by_cases e1 : sBes q (A.2.getD i z0) (B.2.getD j z0) + dC q A.2 B.2 (A.2.length - (i + 1)) (B.2.length - (j + 1)) = dC q A.2 B.2 (A.2.length - i) (B.2.length - j)
        · skip
          refine z_iload dX0_traceSteps_26 rfl rfl ?_
          refine z_iload_n dX0_traceSteps_28 rfl rfl ?_
          refine z_iload dX0_traceSteps_29 rfl rfl ?_
          refine z_iadd dX0_traceSteps_31 rfl ?_
          rw [nI_add]
          refine z_icmp_ge (tgt := 229) dX0_traceSteps_32 rfl (by decide) (fun c32 => absurd c32 (nI_ge (by omega) (by omega))) (fun c32 => ?_)
          obtain ⟨a1, a2, a3, ⟨fo, a4, a4b⟩, a5, ⟨fp, a6, a6b⟩, a7⟩ := alAt_fr (h1 := (kUp p l r s cost L.length (A.2.length + B.2.length) f h)) hA0 (fun z z1 z2 => kUp_out (by omega) (by omega))
          have hAk := alAt_fr (h1 := (kUp p l r s cost L.length (A.2.length + B.2.length) f h)) hA0 (fun z z1 z2 => kUp_out (by omega) (by omega))
          have fr := (kUp_out (l := l) (r := r) (cost := cost) (cnt := L.length) (n := (A.2.length + B.2.length)) (f := f) rp rs).trans hr
          refine z_iload dX0_traceSteps_35 rfl rfl ?_
          refine z_iload_n dX0_traceSteps_37 rfl rfl ?_
          refine z_icmp_lt (tgt := 48) dX0_traceSteps_38 rfl (by decide) (fun c38 => ?_) (fun c38 => absurd c38 (fun z => z (nI_lt (by omega) (by omega))))
          refine z_iload dX0_traceSteps_48 rfl rfl ?_
          refine z_iload_n dX0_traceSteps_50 rfl rfl ?_
          refine z_icmp_ge (tgt := 125) dX0_traceSteps_51 rfl (by decide) (fun c51 => absurd c51 (nI_ge (by omega) (by omega))) (fun c51 => ?_)
          refine z_iload dX0_traceSteps_54 rfl rfl ?_
          refine z_iload dX0_traceSteps_56 rfl rfl ?_
          refine z_icmp_ge (tgt := 125) dX0_traceSteps_58 rfl (by decide) (fun c58 => absurd c58 (nI_ge (by omega) (by omega))) (fun c58 => ?_)
          first | refine z_aload_n dX0_traceSteps_61 rfl rfl ?_ | refine z_aload_nN dX0_traceSteps_61 rfl rfl ?_
          refine zg_X0_23 rfl dX0_traceSteps_62 rfl a1 rfl ?_
          refine z_iload dX0_traceSteps_65 rfl rfl ?_
          refine z_aalds dX0_traceSteps_67 rfl a6 rfl rfl (vp_in_nI (by omega) (by omega)) (by rw [nI_clamp (show i < 2 ^ 31 by omega)]; exact a6b i (by omega)) ?_
          refine z_iload dX0_traceSteps_68 rfl rfl ?_
          refine z_iald dX0_traceSteps_70 rfl (a7 i (by omega)) (vp_in_nI (by omega) (by omega)) ?_
          rw [nI_clamp (show j < 2 ^ 31 by omega), hT.2.2.1 i j (by omega) (by omega) trivial]
          first | refine z_aload_n dX0_traceSteps_71 rfl rfl ?_ | refine z_aload_nN dX0_traceSteps_71 rfl rfl ?_
          refine z_iload dX0_traceSteps_72 rfl rfl ?_
          refine z_iload dX0_traceSteps_74 rfl rfl ?_
          first | refine z_aload_n dX0_traceSteps_76 rfl rfl ?_ | refine z_aload_nN dX0_traceSteps_76 rfl rfl ?_
          refine zcx_X0_59 rfl dX0_traceSteps_77 rfl a1 (m_pairCost g (kUp p l r s cost L.length (A.2.length + B.2.length) f h) a _ hAk ra q' fr i j (by omega) (by omega)) rfl rfl ⟨(Nat.le_of_ble_eq_true rfl), (Nat.le_of_ble_eq_true rfl)⟩ ⟨(Nat.le_of_ble_eq_true rfl), (Nat.le_of_ble_eq_true rfl)⟩ (Nat.le_of_ble_eq_true rfl) ?_
          rw [cP hq hqq hT (by omega) (by omega) trivial trivial]
          refine z_icmp_ne (tgt := 125) dX0_traceSteps_80 rfl (by decide) (fun c80 => absurd c80 (fun z => z (by rw [e1]))) (fun c80 => ?_)
          first | refine z_aload_n dX0_traceSteps_83 rfl rfl ?_ | refine z_aload_nN dX0_traceSteps_83 rfl rfl ?_
          refine z_iconst (v := 0) dX0_traceSteps_84 rfl (by decide) ?_
          refine z_iload dX0_traceSteps_85 rfl rfl ?_
          refine z_iload dX0_traceSteps_87 rfl rfl ?_
          first | refine z_aload_n dX0_traceSteps_89 rfl rfl ?_ | refine z_aload_nN dX0_traceSteps_89 rfl rfl ?_
          refine zg_X0_20 rfl dX0_traceSteps_90 rfl a1 rfl ?_
          refine z_iload dX0_traceSteps_93 rfl rfl ?_
          refine z_aalds dX0_traceSteps_95 rfl a4 rfl rfl (vp_in_nI (by omega) (by omega)) (by rw [nI_clamp (show i < 2 ^ 31 by omega)]; exact a4b i (by omega)) ?_
          refine z_iload dX0_traceSteps_96 rfl rfl ?_
          refine z_iald dX0_traceSteps_98 rfl (a5 i (by omega)) (vp_in_nI (by omega) (by omega)) ?_
          rw [nI_clamp (show j < 2 ^ 31 by omega), hT.2.2.2 i j (by omega) (by omega) trivial]
          first | refine z_aload_n dX0_traceSteps_99 rfl rfl ?_ | refine z_aload_nN dX0_traceSteps_99 rfl rfl ?_
          refine zg_X0_20 rfl dX0_traceSteps_100 rfl a1 rfl ?_
          refine z_iload dX0_traceSteps_103 rfl rfl ?_
          refine z_aalds dX0_traceSteps_105 rfl a4 rfl rfl (vp_in_nI (by omega) (by omega)) (by rw [nI_clamp (show i < 2 ^ 31 by omega)]; exact a4b i (by omega)) ?_
          refine z_iload dX0_traceSteps_106 rfl rfl ?_
          refine z_iald dX0_traceSteps_108 rfl (a5 i (by omega)) (vp_in_nI (by omega) (by omega)) ?_
          rw [nI_clamp (show j < 2 ^ 31 by omega), hT.2.2.2 i j (by omega) (by omega) trivial]
          first | refine z_aload_n dX0_traceSteps_109 rfl rfl ?_ | refine z_aload_nN dX0_traceSteps_109 rfl rfl ?_
          refine zcx_X0_62 rfl dX0_traceSteps_110 rfl (m_costOf g (kUp p l r s cost L.length (A.2.length + B.2.length) f h) _ ra q' fr) rfl rfl ⟨(Nat.le_of_ble_eq_true rfl), (Nat.le_of_ble_eq_true rfl)⟩ ⟨(Nat.le_of_ble_eq_true rfl), (Nat.le_of_ble_eq_true rfl)⟩ (Nat.le_of_ble_eq_true rfl) ?_
          rw [cst_q hqq, cstV_b hq]
          refine zcv_X0_75 rfl dX0_traceSteps_113 rfl kUp_o (m_add g h p l r s cost L.length (A.2.length + B.2.length) (by omega) (by omega) f hp _ _ _ _ _) rfl rfl ⟨(Nat.le_of_ble_eq_true rfl), (Nat.le_of_ble_eq_true rfl)⟩ ⟨(Nat.le_of_ble_eq_true rfl), (Nat.le_of_ble_eq_true rfl)⟩ (Nat.le_of_ble_eq_true rfl) ?_
          refine z_iinc (v := nI (i + 1)) dX0_traceSteps_116 rfl rfl (nI_inc i) (Nat.le_of_ble_eq_true rfl) ?_
          refine z_iinc (v := nI (j + 1)) dX0_traceSteps_119 rfl rfl (nI_inc j) (Nat.le_of_ble_eq_true rfl) ?_
          refine z_goto (tgt := 223) dX0_traceSteps_122 rfl (by decide) ?_
          refine z_iinc (v := nI (L.length + 1)) dX0_traceSteps_223 rfl rfl (nI_inc _) (Nat.le_of_ble_eq_true rfl) ?_
          refine z_goto (tgt := 26) dX0_traceSteps_226 rfl (by decide) ?_
          refine z_lv [(7, .int (nI (L ++ [st0 q A.2 B.2 i j]).length)), (5, .int (nI (i + 1))), (6, .int (nI (j + 1))), (3, .int (nI A.2.length)), (4, .int (nI B.2.length)), (0, .ref a), (1, .ref p), (2, .ref ra)] (by rw [List.length_append]; exact ⟨rfl, rfl, rfl, rfl, rfl, rfl, rfl, rfl, trivial⟩) ?_
          rw [show L.length + 1 = (L ++ [st0 q A.2 B.2 i j]).length from by rw [List.length_append]; rfl]
          exact ih _ (i + 1) (j + 1) (L ++ [st0 q A.2 B.2 i j]) (by omega) (by omega) (by omega) (by rw [List.length_append]; show _ + 1 ≤ _; omega) (stF_is hL ⟨rfl, by first | exact fun _ => rfl | exact fun z => absurd rfl z, by first | exact fun _ => rfl | exact fun z => absurd rfl z, rfl, rfl⟩) (by rw [← he, ss_ll hi hj, if_pos e1, List.append_assoc]; rfl)
        by_cases e2 : sAlone q A.2 i + dC q A.2 B.2 (A.2.length - (i + 1)) (B.2.length - j) = dC q A.2 B.2 (A.2.length - i) (B.2.length - j)
        · skip
          refine z_iload dX0_traceSteps_26 rfl rfl ?_
          refine z_iload_n dX0_traceSteps_28 rfl rfl ?_
          refine z_iload dX0_traceSteps_29 rfl rfl ?_
          refine z_iadd dX0_traceSteps_31 rfl ?_
          rw [nI_add]
          refine z_icmp_ge (tgt := 229) dX0_traceSteps_32 rfl (by decide) (fun c32 => absurd c32 (nI_ge (by omega) (by omega))) (fun c32 => ?_)
          obtain ⟨a1, a2, a3, ⟨fo, a4, a4b⟩, a5, ⟨fp, a6, a6b⟩, a7⟩ := alAt_fr (h1 := (kUp p l r s cost L.length (A.2.length + B.2.length) f h)) hA0 (fun z z1 z2 => kUp_out (by omega) (by omega))
          have hAk := alAt_fr (h1 := (kUp p l r s cost L.length (A.2.length + B.2.length) f h)) hA0 (fun z z1 z2 => kUp_out (by omega) (by omega))
          have fr := (kUp_out (l := l) (r := r) (cost := cost) (cnt := L.length) (n := (A.2.length + B.2.length)) (f := f) rp rs).trans hr
          refine z_iload dX0_traceSteps_35 rfl rfl ?_
          refine z_iload_n dX0_traceSteps_37 rfl rfl ?_
          refine z_icmp_lt (tgt := 48) dX0_traceSteps_38 rfl (by decide) (fun c38 => ?_) (fun c38 => absurd c38 (fun z => z (nI_lt (by omega) (by omega))))
          refine z_iload dX0_traceSteps_48 rfl rfl ?_
          refine z_iload_n dX0_traceSteps_50 rfl rfl ?_
          refine z_icmp_ge (tgt := 125) dX0_traceSteps_51 rfl (by decide) (fun c51 => absurd c51 (nI_ge (by omega) (by omega))) (fun c51 => ?_)
          refine z_iload dX0_traceSteps_54 rfl rfl ?_
          refine z_iload dX0_traceSteps_56 rfl rfl ?_
          refine z_icmp_ge (tgt := 125) dX0_traceSteps_58 rfl (by decide) (fun c58 => absurd c58 (nI_ge (by omega) (by omega))) (fun c58 => ?_)
          first | refine z_aload_n dX0_traceSteps_61 rfl rfl ?_ | refine z_aload_nN dX0_traceSteps_61 rfl rfl ?_
          refine zg_X0_23 rfl dX0_traceSteps_62 rfl a1 rfl ?_
          refine z_iload dX0_traceSteps_65 rfl rfl ?_
          refine z_aalds dX0_traceSteps_67 rfl a6 rfl rfl (vp_in_nI (by omega) (by omega)) (by rw [nI_clamp (show i < 2 ^ 31 by omega)]; exact a6b i (by omega)) ?_
          refine z_iload dX0_traceSteps_68 rfl rfl ?_
          refine z_iald dX0_traceSteps_70 rfl (a7 i (by omega)) (vp_in_nI (by omega) (by omega)) ?_
          rw [nI_clamp (show j < 2 ^ 31 by omega), hT.2.2.1 i j (by omega) (by omega) trivial]
          first | refine z_aload_n dX0_traceSteps_71 rfl rfl ?_ | refine z_aload_nN dX0_traceSteps_71 rfl rfl ?_
          refine z_iload dX0_traceSteps_72 rfl rfl ?_
          refine z_iload dX0_traceSteps_74 rfl rfl ?_
          first | refine z_aload_n dX0_traceSteps_76 rfl rfl ?_ | refine z_aload_nN dX0_traceSteps_76 rfl rfl ?_
          refine zcx_X0_59 rfl dX0_traceSteps_77 rfl a1 (m_pairCost g (kUp p l r s cost L.length (A.2.length + B.2.length) f h) a _ hAk ra q' fr i j (by omega) (by omega)) rfl rfl ⟨(Nat.le_of_ble_eq_true rfl), (Nat.le_of_ble_eq_true rfl)⟩ ⟨(Nat.le_of_ble_eq_true rfl), (Nat.le_of_ble_eq_true rfl)⟩ (Nat.le_of_ble_eq_true rfl) ?_
          rw [cP hq hqq hT (by omega) (by omega) trivial trivial]
          refine z_icmp_ne (tgt := 125) dX0_traceSteps_80 rfl (by decide) (fun c80 => ?_) (fun c80 => absurd c80 (fun z => e1 ((nI_eq hD hPb).mp z).symm))
          refine z_iload dX0_traceSteps_125 rfl rfl ?_
          refine z_iload_n dX0_traceSteps_127 rfl rfl ?_
          refine z_icmp_ge (tgt := 186) dX0_traceSteps_128 rfl (by decide) (fun c128 => absurd c128 (nI_ge (by omega) (by omega))) (fun c128 => ?_)
          first | refine z_aload_n dX0_traceSteps_131 rfl rfl ?_ | refine z_aload_nN dX0_traceSteps_131 rfl rfl ?_
          refine zg_X0_23 rfl dX0_traceSteps_132 rfl a1 rfl ?_
          refine z_iload dX0_traceSteps_135 rfl rfl ?_
          refine z_aalds dX0_traceSteps_137 rfl a6 rfl rfl (vp_in_nI (by omega) (by omega)) (by rw [nI_clamp (show i < 2 ^ 31 by omega)]; exact a6b i (by omega)) ?_
          refine z_iload dX0_traceSteps_138 rfl rfl ?_
          refine z_iald dX0_traceSteps_140 rfl (a7 i (by omega)) (vp_in_nI (by omega) (by omega)) ?_
          rw [nI_clamp (show j < 2 ^ 31 by omega), hT.2.2.1 i j (by omega) (by omega) trivial]
          first | refine z_aload_n dX0_traceSteps_141 rfl rfl ?_ | refine z_aload_nN dX0_traceSteps_141 rfl rfl ?_
          refine z_iload dX0_traceSteps_142 rfl rfl ?_
          refine z_iload dX0_traceSteps_144 rfl rfl ?_
          first | refine z_aload_n dX0_traceSteps_146 rfl rfl ?_ | refine z_aload_nN dX0_traceSteps_146 rfl rfl ?_
          refine zcx_X0_40 rfl dX0_traceSteps_147 rfl a1 (m_leftCost g (kUp p l r s cost L.length (A.2.length + B.2.length) f h) a _ hAk ra q' fr i j (by omega) (by omega)) rfl rfl ⟨(Nat.le_of_ble_eq_true rfl), (Nat.le_of_ble_eq_true rfl)⟩ ⟨(Nat.le_of_ble_eq_true rfl), (Nat.le_of_ble_eq_true rfl)⟩ (Nat.le_of_ble_eq_true rfl) ?_
          rw [cL hq hqq hT (by omega) (by omega) trivial]
          refine z_icmp_ne (tgt := 186) dX0_traceSteps_150 rfl (by decide) (fun c150 => absurd c150 (fun z => z (by rw [e2]))) (fun c150 => ?_)
          first | refine z_aload_n dX0_traceSteps_153 rfl rfl ?_ | refine z_aload_nN dX0_traceSteps_153 rfl rfl ?_
          refine z_iconst (v := 1) dX0_traceSteps_154 rfl (by decide) ?_
          refine z_iload dX0_traceSteps_155 rfl rfl ?_
          refine z_iload dX0_traceSteps_157 rfl rfl ?_
          first | refine z_aload_n dX0_traceSteps_159 rfl rfl ?_ | refine z_aload_nN dX0_traceSteps_159 rfl rfl ?_
          refine zg_X0_9 rfl dX0_traceSteps_160 rfl a1 rfl ?_
          refine z_iload dX0_traceSteps_163 rfl rfl ?_
          refine z_iald dX0_traceSteps_165 rfl a2 (vp_in_nI (by omega) (by omega)) ?_
          rw [nI_clamp (show i < 2 ^ 31 by omega), hT.1 i (by omega)]
          first | refine z_aload_n dX0_traceSteps_166 rfl rfl ?_ | refine z_aload_nN dX0_traceSteps_166 rfl rfl ?_
          refine zg_X0_9 rfl dX0_traceSteps_167 rfl a1 rfl ?_
          refine z_iload dX0_traceSteps_170 rfl rfl ?_
          refine z_iald dX0_traceSteps_172 rfl a2 (vp_in_nI (by omega) (by omega)) ?_
          rw [nI_clamp (show i < 2 ^ 31 by omega), hT.1 i (by omega)]
          first | refine z_aload_n dX0_traceSteps_173 rfl rfl ?_ | refine z_aload_nN dX0_traceSteps_173 rfl rfl ?_
          refine zcx_X0_62 rfl dX0_traceSteps_174 rfl (m_costOf g (kUp p l r s cost L.length (A.2.length + B.2.length) f h) _ ra q' fr) rfl rfl ⟨(Nat.le_of_ble_eq_true rfl), (Nat.le_of_ble_eq_true rfl)⟩ ⟨(Nat.le_of_ble_eq_true rfl), (Nat.le_of_ble_eq_true rfl)⟩ (Nat.le_of_ble_eq_true rfl) ?_
          rw [cst_q hqq, cstV_al hq]
          refine zcv_X0_75 rfl dX0_traceSteps_177 rfl kUp_o (m_add g h p l r s cost L.length (A.2.length + B.2.length) (by omega) (by omega) f hp _ _ _ _ _) rfl rfl ⟨(Nat.le_of_ble_eq_true rfl), (Nat.le_of_ble_eq_true rfl)⟩ ⟨(Nat.le_of_ble_eq_true rfl), (Nat.le_of_ble_eq_true rfl)⟩ (Nat.le_of_ble_eq_true rfl) ?_
          refine z_iinc (v := nI (i + 1)) dX0_traceSteps_180 rfl rfl (nI_inc i) (Nat.le_of_ble_eq_true rfl) ?_
          refine z_goto (tgt := 223) dX0_traceSteps_183 rfl (by decide) ?_
          refine z_iinc (v := nI (L.length + 1)) dX0_traceSteps_223 rfl rfl (nI_inc _) (Nat.le_of_ble_eq_true rfl) ?_
          refine z_goto (tgt := 26) dX0_traceSteps_226 rfl (by decide) ?_
          refine z_lv [(7, .int (nI (L ++ [st1 q A.2 i]).length)), (5, .int (nI (i + 1))), (6, .int (nI j)), (3, .int (nI A.2.length)), (4, .int (nI B.2.length)), (0, .ref a), (1, .ref p), (2, .ref ra)] (by rw [List.length_append]; exact ⟨rfl, rfl, rfl, rfl, rfl, rfl, rfl, rfl, trivial⟩) ?_
          rw [show L.length + 1 = (L ++ [st1 q A.2 i]).length from by rw [List.length_append]; rfl]
          exact ih _ (i + 1) j (L ++ [st1 q A.2 i]) (by omega) (by omega) (by omega) (by rw [List.length_append]; show _ + 1 ≤ _; omega) (stF_is hL ⟨rfl, by first | exact fun _ => rfl | exact fun z => absurd rfl z, by first | exact fun _ => rfl | exact fun z => absurd rfl z, rfl, rfl⟩) (by rw [← he, ss_ll hi hj, if_neg e1, if_pos e2, List.append_assoc]; rfl)
        · skip
          refine z_iload dX0_traceSteps_26 rfl rfl ?_
          refine z_iload_n dX0_traceSteps_28 rfl rfl ?_
          refine z_iload dX0_traceSteps_29 rfl rfl ?_
          refine z_iadd dX0_traceSteps_31 rfl ?_
          rw [nI_add]
          refine z_icmp_ge (tgt := 229) dX0_traceSteps_32 rfl (by decide) (fun c32 => absurd c32 (nI_ge (by omega) (by omega))) (fun c32 => ?_)
          obtain ⟨a1, a2, a3, ⟨fo, a4, a4b⟩, a5, ⟨fp, a6, a6b⟩, a7⟩ := alAt_fr (h1 := (kUp p l r s cost L.length (A.2.length + B.2.length) f h)) hA0 (fun z z1 z2 => kUp_out (by omega) (by omega))
          have hAk := alAt_fr (h1 := (kUp p l r s cost L.length (A.2.length + B.2.length) f h)) hA0 (fun z z1 z2 => kUp_out (by omega) (by omega))
          have fr := (kUp_out (l := l) (r := r) (cost := cost) (cnt := L.length) (n := (A.2.length + B.2.length)) (f := f) rp rs).trans hr
          refine z_iload dX0_traceSteps_35 rfl rfl ?_
          refine z_iload_n dX0_traceSteps_37 rfl rfl ?_
          refine z_icmp_lt (tgt := 48) dX0_traceSteps_38 rfl (by decide) (fun c38 => ?_) (fun c38 => absurd c38 (fun z => z (nI_lt (by omega) (by omega))))
          refine z_iload dX0_traceSteps_48 rfl rfl ?_
          refine z_iload_n dX0_traceSteps_50 rfl rfl ?_
          refine z_icmp_ge (tgt := 125) dX0_traceSteps_51 rfl (by decide) (fun c51 => absurd c51 (nI_ge (by omega) (by omega))) (fun c51 => ?_)
          refine z_iload dX0_traceSteps_54 rfl rfl ?_
          refine z_iload dX0_traceSteps_56 rfl rfl ?_
          refine z_icmp_ge (tgt := 125) dX0_traceSteps_58 rfl (by decide) (fun c58 => absurd c58 (nI_ge (by omega) (by omega))) (fun c58 => ?_)
          first | refine z_aload_n dX0_traceSteps_61 rfl rfl ?_ | refine z_aload_nN dX0_traceSteps_61 rfl rfl ?_
          refine zg_X0_23 rfl dX0_traceSteps_62 rfl a1 rfl ?_
          refine z_iload dX0_traceSteps_65 rfl rfl ?_
          refine z_aalds dX0_traceSteps_67 rfl a6 rfl rfl (vp_in_nI (by omega) (by omega)) (by rw [nI_clamp (show i < 2 ^ 31 by omega)]; exact a6b i (by omega)) ?_
          refine z_iload dX0_traceSteps_68 rfl rfl ?_
          refine z_iald dX0_traceSteps_70 rfl (a7 i (by omega)) (vp_in_nI (by omega) (by omega)) ?_
          rw [nI_clamp (show j < 2 ^ 31 by omega), hT.2.2.1 i j (by omega) (by omega) trivial]
          first | refine z_aload_n dX0_traceSteps_71 rfl rfl ?_ | refine z_aload_nN dX0_traceSteps_71 rfl rfl ?_
          refine z_iload dX0_traceSteps_72 rfl rfl ?_
          refine z_iload dX0_traceSteps_74 rfl rfl ?_
          first | refine z_aload_n dX0_traceSteps_76 rfl rfl ?_ | refine z_aload_nN dX0_traceSteps_76 rfl rfl ?_
          refine zcx_X0_59 rfl dX0_traceSteps_77 rfl a1 (m_pairCost g (kUp p l r s cost L.length (A.2.length + B.2.length) f h) a _ hAk ra q' fr i j (by omega) (by omega)) rfl rfl ⟨(Nat.le_of_ble_eq_true rfl), (Nat.le_of_ble_eq_true rfl)⟩ ⟨(Nat.le_of_ble_eq_true rfl), (Nat.le_of_ble_eq_true rfl)⟩ (Nat.le_of_ble_eq_true rfl) ?_
          rw [cP hq hqq hT (by omega) (by omega) trivial trivial]
          refine z_icmp_ne (tgt := 125) dX0_traceSteps_80 rfl (by decide) (fun c80 => ?_) (fun c80 => absurd c80 (fun z => e1 ((nI_eq hD hPb).mp z).symm))
          refine z_iload dX0_traceSteps_125 rfl rfl ?_
          refine z_iload_n dX0_traceSteps_127 rfl rfl ?_
          refine z_icmp_ge (tgt := 186) dX0_traceSteps_128 rfl (by decide) (fun c128 => absurd c128 (nI_ge (by omega) (by omega))) (fun c128 => ?_)
          first | refine z_aload_n dX0_traceSteps_131 rfl rfl ?_ | refine z_aload_nN dX0_traceSteps_131 rfl rfl ?_
          refine zg_X0_23 rfl dX0_traceSteps_132 rfl a1 rfl ?_
          refine z_iload dX0_traceSteps_135 rfl rfl ?_
          refine z_aalds dX0_traceSteps_137 rfl a6 rfl rfl (vp_in_nI (by omega) (by omega)) (by rw [nI_clamp (show i < 2 ^ 31 by omega)]; exact a6b i (by omega)) ?_
          refine z_iload dX0_traceSteps_138 rfl rfl ?_
          refine z_iald dX0_traceSteps_140 rfl (a7 i (by omega)) (vp_in_nI (by omega) (by omega)) ?_
          rw [nI_clamp (show j < 2 ^ 31 by omega), hT.2.2.1 i j (by omega) (by omega) trivial]
          first | refine z_aload_n dX0_traceSteps_141 rfl rfl ?_ | refine z_aload_nN dX0_traceSteps_141 rfl rfl ?_
          refine z_iload dX0_traceSteps_142 rfl rfl ?_
          refine z_iload dX0_traceSteps_144 rfl rfl ?_
          first | refine z_aload_n dX0_traceSteps_146 rfl rfl ?_ | refine z_aload_nN dX0_traceSteps_146 rfl rfl ?_
          refine zcx_X0_40 rfl dX0_traceSteps_147 rfl a1 (m_leftCost g (kUp p l r s cost L.length (A.2.length + B.2.length) f h) a _ hAk ra q' fr i j (by omega) (by omega)) rfl rfl ⟨(Nat.le_of_ble_eq_true rfl), (Nat.le_of_ble_eq_true rfl)⟩ ⟨(Nat.le_of_ble_eq_true rfl), (Nat.le_of_ble_eq_true rfl)⟩ (Nat.le_of_ble_eq_true rfl) ?_
          rw [cL hq hqq hT (by omega) (by omega) trivial]
          refine z_icmp_ne (tgt := 186) dX0_traceSteps_150 rfl (by decide) (fun c150 => ?_) (fun c150 => absurd c150 (fun z => e2 ((nI_eq hD hLb).mp z).symm))
          refine z_iload dX0_traceSteps_186 rfl rfl ?_
          refine z_iload dX0_traceSteps_188 rfl rfl ?_
          refine z_icmp_ge (tgt := 223) dX0_traceSteps_190 rfl (by decide) (fun c190 => absurd c190 (nI_ge (by omega) (by omega))) (fun c190 => ?_)
          first | refine z_aload_n dX0_traceSteps_193 rfl rfl ?_ | refine z_aload_nN dX0_traceSteps_193 rfl rfl ?_
          refine z_iconst (v := 2) dX0_traceSteps_194 rfl (by decide) ?_
          refine z_iload dX0_traceSteps_195 rfl rfl ?_
          refine z_iload dX0_traceSteps_197 rfl rfl ?_
          first | refine z_aload_n dX0_traceSteps_199 rfl rfl ?_ | refine z_aload_nN dX0_traceSteps_199 rfl rfl ?_
          refine zg_X0_15 rfl dX0_traceSteps_200 rfl a1 rfl ?_
          refine z_iload dX0_traceSteps_203 rfl rfl ?_
          refine z_iald dX0_traceSteps_205 rfl a3 (vp_in_nI (by omega) (by omega)) ?_
          rw [nI_clamp (show j < 2 ^ 31 by omega), hT.2.1 j (by omega)]
          first | refine z_aload_n dX0_traceSteps_206 rfl rfl ?_ | refine z_aload_nN dX0_traceSteps_206 rfl rfl ?_
          refine zg_X0_15 rfl dX0_traceSteps_207 rfl a1 rfl ?_
          refine z_iload dX0_traceSteps_210 rfl rfl ?_
          refine z_iald dX0_traceSteps_212 rfl a3 (vp_in_nI (by omega) (by omega)) ?_
          rw [nI_clamp (show j < 2 ^ 31 by omega), hT.2.1 j (by omega)]
          first | refine z_aload_n dX0_traceSteps_213 rfl rfl ?_ | refine z_aload_nN dX0_traceSteps_213 rfl rfl ?_
          refine zcx_X0_62 rfl dX0_traceSteps_214 rfl (m_costOf g (kUp p l r s cost L.length (A.2.length + B.2.length) f h) _ ra q' fr) rfl rfl ⟨(Nat.le_of_ble_eq_true rfl), (Nat.le_of_ble_eq_true rfl)⟩ ⟨(Nat.le_of_ble_eq_true rfl), (Nat.le_of_ble_eq_true rfl)⟩ (Nat.le_of_ble_eq_true rfl) ?_
          rw [cst_q hqq, cstV_al hq]
          refine zcv_X0_75 rfl dX0_traceSteps_217 rfl kUp_o (m_add g h p l r s cost L.length (A.2.length + B.2.length) (by omega) (by omega) f hp _ _ _ _ _) rfl rfl ⟨(Nat.le_of_ble_eq_true rfl), (Nat.le_of_ble_eq_true rfl)⟩ ⟨(Nat.le_of_ble_eq_true rfl), (Nat.le_of_ble_eq_true rfl)⟩ (Nat.le_of_ble_eq_true rfl) ?_
          refine z_iinc (v := nI (j + 1)) dX0_traceSteps_220 rfl rfl (nI_inc j) (Nat.le_of_ble_eq_true rfl) ?_
          refine z_iinc (v := nI (L.length + 1)) dX0_traceSteps_223 rfl rfl (nI_inc _) (Nat.le_of_ble_eq_true rfl) ?_
          refine z_goto (tgt := 26) dX0_traceSteps_226 rfl (by decide) ?_
          refine z_lv [(7, .int (nI (L ++ [st2 q B.2 j]).length)), (5, .int (nI i)), (6, .int (nI (j + 1))), (3, .int (nI A.2.length)), (4, .int (nI B.2.length)), (0, .ref a), (1, .ref p), (2, .ref ra)] (by rw [List.length_append]; exact ⟨rfl, rfl, rfl, rfl, rfl, rfl, rfl, rfl, trivial⟩) ?_
          rw [show L.length + 1 = (L ++ [st2 q B.2 j]).length from by rw [List.length_append]; rfl]
          exact ih _ i (j + 1) (L ++ [st2 q B.2 j]) (by omega) (by omega) (by omega) (by rw [List.length_append]; show _ + 1 ≤ _; omega) (stF_is hL ⟨rfl, by first | exact fun _ => rfl | exact fun z => absurd rfl z, by first | exact fun _ => rfl | exact fun z => absurd rfl z, rfl, rfl⟩) (by rw [← he, ss_ll hi hj, if_neg e1, if_neg e2, List.append_assoc]; rfl)
      · have hj : j = B.2.length := by omega
        refine z_iload dX0_traceSteps_26 rfl rfl ?_
        refine z_iload_n dX0_traceSteps_28 rfl rfl ?_
        refine z_iload dX0_traceSteps_29 rfl rfl ?_
        refine z_iadd dX0_traceSteps_31 rfl ?_
        rw [nI_add]
        refine z_icmp_ge (tgt := 229) dX0_traceSteps_32 rfl (by decide) (fun c32 => absurd c32 (nI_ge (by omega) (by omega))) (fun c32 => ?_)
        obtain ⟨a1, a2, a3, ⟨fo, a4, a4b⟩, a5, ⟨fp, a6, a6b⟩, a7⟩ := alAt_fr (h1 := (kUp p l r s cost L.length (A.2.length + B.2.length) f h)) hA0 (fun z z1 z2 => kUp_out (by omega) (by omega))
        have hAk := alAt_fr (h1 := (kUp p l r s cost L.length (A.2.length + B.2.length) f h)) hA0 (fun z z1 z2 => kUp_out (by omega) (by omega))
        have fr := (kUp_out (l := l) (r := r) (cost := cost) (cnt := L.length) (n := (A.2.length + B.2.length)) (f := f) rp rs).trans hr
        refine z_iload dX0_traceSteps_35 rfl rfl ?_
        refine z_iload_n dX0_traceSteps_37 rfl rfl ?_
        refine z_icmp_lt (tgt := 48) dX0_traceSteps_38 rfl (by decide) (fun c38 => ?_) (fun c38 => absurd c38 (fun z => z (nI_lt (by omega) (by omega))))
        refine z_iload dX0_traceSteps_48 rfl rfl ?_
        refine z_iload_n dX0_traceSteps_50 rfl rfl ?_
        refine z_icmp_ge (tgt := 125) dX0_traceSteps_51 rfl (by decide) (fun c51 => absurd c51 (nI_ge (by omega) (by omega))) (fun c51 => ?_)
        refine z_iload dX0_traceSteps_54 rfl rfl ?_
        refine z_iload dX0_traceSteps_56 rfl rfl ?_
        refine z_icmp_ge (tgt := 125) dX0_traceSteps_58 rfl (by decide) (fun c58 => ?_) (fun c58 => absurd c58 (fun z => z (nI_le (by omega) (by omega))))
        refine z_iload dX0_traceSteps_125 rfl rfl ?_
        refine z_iload_n dX0_traceSteps_127 rfl rfl ?_
        refine z_icmp_ge (tgt := 186) dX0_traceSteps_128 rfl (by decide) (fun c128 => absurd c128 (nI_ge (by omega) (by omega))) (fun c128 => ?_)
        first | refine z_aload_n dX0_traceSteps_131 rfl rfl ?_ | refine z_aload_nN dX0_traceSteps_131 rfl rfl ?_
        refine zg_X0_23 rfl dX0_traceSteps_132 rfl a1 rfl ?_
        refine z_iload dX0_traceSteps_135 rfl rfl ?_
        refine z_aalds dX0_traceSteps_137 rfl a6 rfl rfl (vp_in_nI (by omega) (by omega)) (by rw [nI_clamp (show i < 2 ^ 31 by omega)]; exact a6b i (by omega)) ?_
        refine z_iload dX0_traceSteps_138 rfl rfl ?_
        refine z_iald dX0_traceSteps_140 rfl (a7 i (by omega)) (vp_in_nI (by omega) (by omega)) ?_
        rw [nI_clamp (show j < 2 ^ 31 by omega), hT.2.2.1 i j (by omega) (by omega) trivial]
        first | refine z_aload_n dX0_traceSteps_141 rfl rfl ?_ | refine z_aload_nN dX0_traceSteps_141 rfl rfl ?_
        refine z_iload dX0_traceSteps_142 rfl rfl ?_
        refine z_iload dX0_traceSteps_144 rfl rfl ?_
        first | refine z_aload_n dX0_traceSteps_146 rfl rfl ?_ | refine z_aload_nN dX0_traceSteps_146 rfl rfl ?_
        refine zcx_X0_40 rfl dX0_traceSteps_147 rfl a1 (m_leftCost g (kUp p l r s cost L.length (A.2.length + B.2.length) f h) a _ hAk ra q' fr i j (by omega) (by omega)) rfl rfl ⟨(Nat.le_of_ble_eq_true rfl), (Nat.le_of_ble_eq_true rfl)⟩ ⟨(Nat.le_of_ble_eq_true rfl), (Nat.le_of_ble_eq_true rfl)⟩ (Nat.le_of_ble_eq_true rfl) ?_
        rw [cL hq hqq hT (by omega) (by omega) trivial]
        refine z_icmp_ne (tgt := 186) dX0_traceSteps_150 rfl (by decide) (fun c150 => absurd c150 (fun z => z (by rw [dC_l0 hi hj]))) (fun c150 => ?_)
        first | refine z_aload_n dX0_traceSteps_153 rfl rfl ?_ | refine z_aload_nN dX0_traceSteps_153 rfl rfl ?_
        refine z_iconst (v := 1) dX0_traceSteps_154 rfl (by decide) ?_
        refine z_iload dX0_traceSteps_155 rfl rfl ?_
        refine z_iload dX0_traceSteps_157 rfl rfl ?_
        first | refine z_aload_n dX0_traceSteps_159 rfl rfl ?_ | refine z_aload_nN dX0_traceSteps_159 rfl rfl ?_
        refine zg_X0_9 rfl dX0_traceSteps_160 rfl a1 rfl ?_
        refine z_iload dX0_traceSteps_163 rfl rfl ?_
        refine z_iald dX0_traceSteps_165 rfl a2 (vp_in_nI (by omega) (by omega)) ?_
        rw [nI_clamp (show i < 2 ^ 31 by omega), hT.1 i (by omega)]
        first | refine z_aload_n dX0_traceSteps_166 rfl rfl ?_ | refine z_aload_nN dX0_traceSteps_166 rfl rfl ?_
        refine zg_X0_9 rfl dX0_traceSteps_167 rfl a1 rfl ?_
        refine z_iload dX0_traceSteps_170 rfl rfl ?_
        refine z_iald dX0_traceSteps_172 rfl a2 (vp_in_nI (by omega) (by omega)) ?_
        rw [nI_clamp (show i < 2 ^ 31 by omega), hT.1 i (by omega)]
        first | refine z_aload_n dX0_traceSteps_173 rfl rfl ?_ | refine z_aload_nN dX0_traceSteps_173 rfl rfl ?_
        refine zcx_X0_62 rfl dX0_traceSteps_174 rfl (m_costOf g (kUp p l r s cost L.length (A.2.length + B.2.length) f h) _ ra q' fr) rfl rfl ⟨(Nat.le_of_ble_eq_true rfl), (Nat.le_of_ble_eq_true rfl)⟩ ⟨(Nat.le_of_ble_eq_true rfl), (Nat.le_of_ble_eq_true rfl)⟩ (Nat.le_of_ble_eq_true rfl) ?_
        rw [cst_q hqq, cstV_al hq]
        refine zcv_X0_75 rfl dX0_traceSteps_177 rfl kUp_o (m_add g h p l r s cost L.length (A.2.length + B.2.length) (by omega) (by omega) f hp _ _ _ _ _) rfl rfl ⟨(Nat.le_of_ble_eq_true rfl), (Nat.le_of_ble_eq_true rfl)⟩ ⟨(Nat.le_of_ble_eq_true rfl), (Nat.le_of_ble_eq_true rfl)⟩ (Nat.le_of_ble_eq_true rfl) ?_
        refine z_iinc (v := nI (i + 1)) dX0_traceSteps_180 rfl rfl (nI_inc i) (Nat.le_of_ble_eq_true rfl) ?_
        refine z_goto (tgt := 223) dX0_traceSteps_183 rfl (by decide) ?_
        refine z_iinc (v := nI (L.length + 1)) dX0_traceSteps_223 rfl rfl (nI_inc _) (Nat.le_of_ble_eq_true rfl) ?_
        refine z_goto (tgt := 26) dX0_traceSteps_226 rfl (by decide) ?_
        refine z_lv [(7, .int (nI (L ++ [st1 q A.2 i]).length)), (5, .int (nI (i + 1))), (6, .int (nI j)), (3, .int (nI A.2.length)), (4, .int (nI B.2.length)), (0, .ref a), (1, .ref p), (2, .ref ra)] (by rw [List.length_append]; exact ⟨rfl, rfl, rfl, rfl, rfl, rfl, rfl, rfl, trivial⟩) ?_
        rw [show L.length + 1 = (L ++ [st1 q A.2 i]).length from by rw [List.length_append]; rfl]
        exact ih _ (i + 1) j (L ++ [st1 q A.2 i]) (by omega) (by omega) (by omega) (by rw [List.length_append]; show _ + 1 ≤ _; omega) (stF_is hL ⟨rfl, by first | exact fun _ => rfl | exact fun z => absurd rfl z, by first | exact fun _ => rfl | exact fun z => absurd rfl z, rfl, rfl⟩) (by rw [← he, ss_l0 hi hj, List.append_assoc]; rfl)
    · have hi : i = A.2.length := by omega
      by_cases hj : j < B.2.length
      · skip
        refine z_iload dX0_traceSteps_26 rfl rfl ?_
        refine z_iload_n dX0_traceSteps_28 rfl rfl ?_
        refine z_iload dX0_traceSteps_29 rfl rfl ?_
        refine z_iadd dX0_traceSteps_31 rfl ?_
        rw [nI_add]
        refine z_icmp_ge (tgt := 229) dX0_traceSteps_32 rfl (by decide) (fun c32 => absurd c32 (nI_ge (by omega) (by omega))) (fun c32 => ?_)
        obtain ⟨a1, a2, a3, ⟨fo, a4, a4b⟩, a5, ⟨fp, a6, a6b⟩, a7⟩ := alAt_fr (h1 := (kUp p l r s cost L.length (A.2.length + B.2.length) f h)) hA0 (fun z z1 z2 => kUp_out (by omega) (by omega))
        have hAk := alAt_fr (h1 := (kUp p l r s cost L.length (A.2.length + B.2.length) f h)) hA0 (fun z z1 z2 => kUp_out (by omega) (by omega))
        have fr := (kUp_out (l := l) (r := r) (cost := cost) (cnt := L.length) (n := (A.2.length + B.2.length)) (f := f) rp rs).trans hr
        refine z_iload dX0_traceSteps_35 rfl rfl ?_
        refine z_iload_n dX0_traceSteps_37 rfl rfl ?_
        refine z_icmp_lt (tgt := 48) dX0_traceSteps_38 rfl (by decide) (fun c38 => absurd c38 (nI_nlt (by omega) (by omega))) (fun c38 => ?_)
        refine z_iload dX0_traceSteps_41 rfl rfl ?_
        refine z_iload dX0_traceSteps_43 rfl rfl ?_
        refine z_icmp_ge (tgt := 229) dX0_traceSteps_45 rfl (by decide) (fun c45 => absurd c45 (nI_ge (by omega) (by omega))) (fun c45 => ?_)
        refine z_iload dX0_traceSteps_48 rfl rfl ?_
        refine z_iload_n dX0_traceSteps_50 rfl rfl ?_
        refine z_icmp_ge (tgt := 125) dX0_traceSteps_51 rfl (by decide) (fun c51 => ?_) (fun c51 => absurd c51 (fun z => z (nI_le (by omega) (by omega))))
        refine z_iload dX0_traceSteps_125 rfl rfl ?_
        refine z_iload_n dX0_traceSteps_127 rfl rfl ?_
        refine z_icmp_ge (tgt := 186) dX0_traceSteps_128 rfl (by decide) (fun c128 => ?_) (fun c128 => absurd c128 (fun z => z (nI_le (by omega) (by omega))))
        refine z_iload dX0_traceSteps_186 rfl rfl ?_
        refine z_iload dX0_traceSteps_188 rfl rfl ?_
        refine z_icmp_ge (tgt := 223) dX0_traceSteps_190 rfl (by decide) (fun c190 => absurd c190 (nI_ge (by omega) (by omega))) (fun c190 => ?_)
        first | refine z_aload_n dX0_traceSteps_193 rfl rfl ?_ | refine z_aload_nN dX0_traceSteps_193 rfl rfl ?_
        refine z_iconst (v := 2) dX0_traceSteps_194 rfl (by decide) ?_
        refine z_iload dX0_traceSteps_195 rfl rfl ?_
        refine z_iload dX0_traceSteps_197 rfl rfl ?_
        first | refine z_aload_n dX0_traceSteps_199 rfl rfl ?_ | refine z_aload_nN dX0_traceSteps_199 rfl rfl ?_
        refine zg_X0_15 rfl dX0_traceSteps_200 rfl a1 rfl ?_
        refine z_iload dX0_traceSteps_203 rfl rfl ?_
        refine z_iald dX0_traceSteps_205 rfl a3 (vp_in_nI (by omega) (by omega)) ?_
        rw [nI_clamp (show j < 2 ^ 31 by omega), hT.2.1 j (by omega)]
        first | refine z_aload_n dX0_traceSteps_206 rfl rfl ?_ | refine z_aload_nN dX0_traceSteps_206 rfl rfl ?_
        refine zg_X0_15 rfl dX0_traceSteps_207 rfl a1 rfl ?_
        refine z_iload dX0_traceSteps_210 rfl rfl ?_
        refine z_iald dX0_traceSteps_212 rfl a3 (vp_in_nI (by omega) (by omega)) ?_
        rw [nI_clamp (show j < 2 ^ 31 by omega), hT.2.1 j (by omega)]
        first | refine z_aload_n dX0_traceSteps_213 rfl rfl ?_ | refine z_aload_nN dX0_traceSteps_213 rfl rfl ?_
        refine zcx_X0_62 rfl dX0_traceSteps_214 rfl (m_costOf g (kUp p l r s cost L.length (A.2.length + B.2.length) f h) _ ra q' fr) rfl rfl ⟨(Nat.le_of_ble_eq_true rfl), (Nat.le_of_ble_eq_true rfl)⟩ ⟨(Nat.le_of_ble_eq_true rfl), (Nat.le_of_ble_eq_true rfl)⟩ (Nat.le_of_ble_eq_true rfl) ?_
        rw [cst_q hqq, cstV_al hq]
        refine zcv_X0_75 rfl dX0_traceSteps_217 rfl kUp_o (m_add g h p l r s cost L.length (A.2.length + B.2.length) (by omega) (by omega) f hp _ _ _ _ _) rfl rfl ⟨(Nat.le_of_ble_eq_true rfl), (Nat.le_of_ble_eq_true rfl)⟩ ⟨(Nat.le_of_ble_eq_true rfl), (Nat.le_of_ble_eq_true rfl)⟩ (Nat.le_of_ble_eq_true rfl) ?_
        refine z_iinc (v := nI (j + 1)) dX0_traceSteps_220 rfl rfl (nI_inc j) (Nat.le_of_ble_eq_true rfl) ?_
        refine z_iinc (v := nI (L.length + 1)) dX0_traceSteps_223 rfl rfl (nI_inc _) (Nat.le_of_ble_eq_true rfl) ?_
        refine z_goto (tgt := 26) dX0_traceSteps_226 rfl (by decide) ?_
        refine z_lv [(7, .int (nI (L ++ [st2 q B.2 j]).length)), (5, .int (nI i)), (6, .int (nI (j + 1))), (3, .int (nI A.2.length)), (4, .int (nI B.2.length)), (0, .ref a), (1, .ref p), (2, .ref ra)] (by rw [List.length_append]; exact ⟨rfl, rfl, rfl, rfl, rfl, rfl, rfl, rfl, trivial⟩) ?_
        rw [show L.length + 1 = (L ++ [st2 q B.2 j]).length from by rw [List.length_append]; rfl]
        exact ih _ i (j + 1) (L ++ [st2 q B.2 j]) (by omega) (by omega) (by omega) (by rw [List.length_append]; show _ + 1 ≤ _; omega) (stF_is hL ⟨rfl, by first | exact fun _ => rfl | exact fun z => absurd rfl z, by first | exact fun _ => rfl | exact fun z => absurd rfl z, rfl, rfl⟩) (by rw [← he, ss_0l hi hj, List.append_assoc]; rfl)
      · have hTt : L = Tt := by rw [← he, show A.2.length - i = 0 by omega, show B.2.length - j = 0 by omega, sSteps, List.append_nil]
        by_cases hk : L.length < A.2.length + B.2.length
        · skip
          refine z_iload dX0_traceSteps_26 rfl rfl ?_
          refine z_iload_n dX0_traceSteps_28 rfl rfl ?_
          refine z_iload dX0_traceSteps_29 rfl rfl ?_
          refine z_iadd dX0_traceSteps_31 rfl ?_
          rw [nI_add]
          refine z_icmp_ge (tgt := 229) dX0_traceSteps_32 rfl (by decide) (fun c32 => absurd c32 (nI_ge (by omega) (by omega))) (fun c32 => ?_)
          refine z_iload dX0_traceSteps_35 rfl rfl ?_
          refine z_iload_n dX0_traceSteps_37 rfl rfl ?_
          refine z_icmp_lt (tgt := 48) dX0_traceSteps_38 rfl (by decide) (fun c38 => absurd c38 (nI_nlt (by omega) (by omega))) (fun c38 => ?_)
          refine z_iload dX0_traceSteps_41 rfl rfl ?_
          refine z_iload dX0_traceSteps_43 rfl rfl ?_
          refine z_icmp_ge (tgt := 229) dX0_traceSteps_45 rfl (by decide) (fun c45 => ?_) (fun c45 => absurd c45 (fun z => z (nI_le (by omega) (by omega))))
          exact z_vret dX0_traceSteps_229 rfl rfl ⟨rfl, f, by rw [hTt], by rw [← hTt]; exact hL⟩ (Nat.le_of_ble_eq_true rfl) (Nat.le_of_ble_eq_true rfl)
        · skip
          refine z_iload dX0_traceSteps_26 rfl rfl ?_
          refine z_iload_n dX0_traceSteps_28 rfl rfl ?_
          refine z_iload dX0_traceSteps_29 rfl rfl ?_
          refine z_iadd dX0_traceSteps_31 rfl ?_
          rw [nI_add]
          refine z_icmp_ge (tgt := 229) dX0_traceSteps_32 rfl (by decide) (fun c32 => ?_) (fun c32 => absurd c32 (fun z => z (nI_le (by omega) (by omega))))
          exact z_vret dX0_traceSteps_229 rfl rfl ⟨rfl, f, by rw [hTt], by rw [← hTt]; exact hL⟩ (Nat.le_of_ble_eq_true rfl) (Nat.le_of_ble_eq_true rfl)

