theorem RepM_rate {S : sMS} {w : sW} (hR : RepM S w) {i : Nat} {v : Int32} (hq : rateOk (upd w.2.2.1 i v)) : RepM (va_up S.1 7 (upd (S.1 7) i v), S.2) (wRate w i v) := by
  refine ⟨hR.1, ⟨hR.2.1.1, fun j hj => ?_, hq, hR.2.1.2.2.2.1, hR.2.1.2.2.2.2⟩, hR.2.2.1, hR.2.2.2⟩
  show upd (S.1 7) i v j = upd w.2.2.1 i v j
  unfold upd
  by_cases e : j = i
  · rw [if_pos e, if_pos e]
  · rw [if_neg e, if_neg e]; exact hR.2.1.2.1 j hj
theorem rate_ok {q : Nat → Int32} (h : rateOk q) {x v : Int32} (hx : 0 ≤ x ∧ x ≤ 3) (h1 : (if x = 1 ∨ x = 2 then 1 else 0) ≤ v) (h2 : v ≤ (if x = 0 then 99 else 9)) : rateOk (upd q (ix x) v) := by
  obtain ⟨n, hn, rfl⟩ := nI_of2 (x := x) (M := 3) (n := 3) (by decide) (by grind) hx.2
  have e : ix (nI n) = n := nI_clamp (by omega)
  rw [e]
  obtain ⟨q1, q2, q3, q4, q5, q6, q7, q8⟩ := h
  rcases (show n = 0 ∨ n = 1 ∨ n = 2 ∨ n = 3 by omega) with z | z | z | z <;> subst z <;> simp only [rateOk, upd] <;> refine ⟨?_, ?_, ?_, ?_, ?_, ?_, ?_, ?_⟩ <;> first | assumption | exact h1 | exact h2
theorem in4 {x : Int32} (h : 0 ≤ x ∧ x ≤ 3) : vp_in x 4 := by
  obtain ⟨n, hn, rfl⟩ := nI_of2 (x := x) (M := 3) (n := 3) (by decide) (by grind) h.2
  exact vp_in_nI (by omega) (by decide)

set_option maxHeartbeats 4000000 in
set_option maxRecDepth 100000 in
theorem R_rate (g : zG) (h : zH) (m : Nat) (S : sMS) (w : sW) (hR : RepM S w) (what v : Int32) : zM g yX10_rate cX10_rate 4 (some .int) rmX10_rate [.ref m, .int what, .int v] (mUp m S h) (mPost m h (pRate w what v)) := by
  refine zM_of (by decide) (Nat.le_of_ble_eq_true rfl) ?_
  refine z_iload_n dX10_rate_0 rfl rfl ?_
  refine z_i2l dX10_rate_1 rfl ?_
  refine z_lconst (v := 0) dX10_rate_2 rfl (by decide) ?_
  refine zk_X10_207 rfl dX10_rate_3 rfl ?_
  refine zcx_X10_72 rfl dX10_rate_6 rfl (r_in32 g _ _ 0 3 rfl rfl) rfl rfl ⟨(Nat.le_of_ble_eq_true rfl), (Nat.le_of_ble_eq_true rfl)⟩ ⟨(Nat.le_of_ble_eq_true rfl), (Nat.le_of_ble_eq_true rfl)⟩ (Nat.le_of_ble_eq_true rfl) ?_
  refine z_bif_eq (tgt := 48) dX10_rate_9 rfl (by decide) (fun c9 => ?_) (fun c9 => ?_)
  · skip
    refine z_iconst (v := -1) dX10_rate_48 rfl (by decide) ?_
    exact z_iret dX10_rate_49 rfl rfl (mPost_of hR (by grind [pRate])) (Nat.le_of_ble_eq_true rfl) (Nat.le_of_ble_eq_true rfl)
  · skip
    refine z_iload_n dX10_rate_12 rfl rfl ?_
    refine z_i2l dX10_rate_13 rfl ?_
    refine z_iload_n dX10_rate_14 rfl rfl ?_
    refine z_iconst (v := 1) dX10_rate_15 rfl (by decide) ?_
    refine z_icmp_eq (tgt := 24) dX10_rate_16 rfl (by decide) (fun c16 => ?_) (fun c16 => ?_)
    · skip
      refine z_lconst (v := 1) dX10_rate_24 rfl (by decide) ?_
      refine z_goto (tgt := 29) dX10_rate_25 rfl (by decide) ?_
      refine z_iload_n dX10_rate_29 rfl rfl ?_
      refine z_if_ne (tgt := 39) dX10_rate_30 rfl (by decide) (fun c30 => ?_) (fun c30 => ?_)
      · skip
        refine zk_X10_211 rfl dX10_rate_39 rfl ?_
        first | refine zcx_X10_72 rfl dX10_rate_42 rfl (r_in32 g _ v 0 9 rfl rfl) rfl rfl ⟨(Nat.le_of_ble_eq_true rfl), (Nat.le_of_ble_eq_true rfl)⟩ ⟨(Nat.le_of_ble_eq_true rfl), (Nat.le_of_ble_eq_true rfl)⟩ (Nat.le_of_ble_eq_true rfl) ?_ | refine zcx_X10_72 rfl dX10_rate_42 rfl (r_in32 g _ v 0 99 rfl rfl) rfl rfl ⟨(Nat.le_of_ble_eq_true rfl), (Nat.le_of_ble_eq_true rfl)⟩ ⟨(Nat.le_of_ble_eq_true rfl), (Nat.le_of_ble_eq_true rfl)⟩ (Nat.le_of_ble_eq_true rfl) ?_ | refine zcx_X10_72 rfl dX10_rate_42 rfl (r_in32 g _ v 1 9 rfl rfl) rfl rfl ⟨(Nat.le_of_ble_eq_true rfl), (Nat.le_of_ble_eq_true rfl)⟩ ⟨(Nat.le_of_ble_eq_true rfl), (Nat.le_of_ble_eq_true rfl)⟩ (Nat.le_of_ble_eq_true rfl) ?_ | refine zcx_X10_72 rfl dX10_rate_42 rfl (r_in32 g _ v 1 99 rfl rfl) rfl rfl ⟨(Nat.le_of_ble_eq_true rfl), (Nat.le_of_ble_eq_true rfl)⟩ ⟨(Nat.le_of_ble_eq_true rfl), (Nat.le_of_ble_eq_true rfl)⟩ (Nat.le_of_ble_eq_true rfl) ?_
        refine z_bif_ne (tgt := 50) dX10_rate_45 rfl (by decide) (fun c45 => ?_) (fun c45 => ?_)
        · skip
          first | refine z_aload_n dX10_rate_50 rfl rfl ?_ | refine z_aload_nN dX10_rate_50 rfl rfl ?_
          refine zmg_30 rfl dX10_rate_51 rfl ?_
          refine z_iload_n dX10_rate_54 rfl rfl ?_
          refine zm_iald dX10_rate_55 rfl rfl (in4 c9) ?_
          refine z_istore_n dX10_rate_56 rfl (Nat.le_of_ble_eq_true rfl) ?_
          first | refine z_aload_n dX10_rate_57 rfl rfl ?_ | refine z_aload_nN dX10_rate_57 rfl rfl ?_
          refine zmg_30 rfl dX10_rate_58 rfl ?_
          refine z_iload_n dX10_rate_61 rfl rfl ?_
          refine z_iload_n dX10_rate_62 rfl rfl ?_
          refine zm_iast dX10_rate_63 rfl rfl (in4 c9) ?_
          refine z_iload_n dX10_rate_64 rfl rfl ?_
          exact z_iret dX10_rate_65 rfl rfl (mPost_of (RepM_rate hR (rate_ok hR.2.1.2.2.1 c9 (by grind) (by grind))) (by rw [hR.2.1.2.1 _ (in_lt (in4 c9))]; grind [pRate])) (Nat.le_of_ble_eq_true rfl) (Nat.le_of_ble_eq_true rfl)
        · skip
          refine z_iconst (v := -1) dX10_rate_48 rfl (by decide) ?_
          exact z_iret dX10_rate_49 rfl rfl (mPost_of hR (by grind [pRate])) (Nat.le_of_ble_eq_true rfl) (Nat.le_of_ble_eq_true rfl)
      · skip
        refine zk_X10_209 rfl dX10_rate_33 rfl ?_
        refine z_goto (tgt := 42) dX10_rate_36 rfl (by decide) ?_
        first | refine zcx_X10_72 rfl dX10_rate_42 rfl (r_in32 g _ v 0 9 rfl rfl) rfl rfl ⟨(Nat.le_of_ble_eq_true rfl), (Nat.le_of_ble_eq_true rfl)⟩ ⟨(Nat.le_of_ble_eq_true rfl), (Nat.le_of_ble_eq_true rfl)⟩ (Nat.le_of_ble_eq_true rfl) ?_ | refine zcx_X10_72 rfl dX10_rate_42 rfl (r_in32 g _ v 0 99 rfl rfl) rfl rfl ⟨(Nat.le_of_ble_eq_true rfl), (Nat.le_of_ble_eq_true rfl)⟩ ⟨(Nat.le_of_ble_eq_true rfl), (Nat.le_of_ble_eq_true rfl)⟩ (Nat.le_of_ble_eq_true rfl) ?_ | refine zcx_X10_72 rfl dX10_rate_42 rfl (r_in32 g _ v 1 9 rfl rfl) rfl rfl ⟨(Nat.le_of_ble_eq_true rfl), (Nat.le_of_ble_eq_true rfl)⟩ ⟨(Nat.le_of_ble_eq_true rfl), (Nat.le_of_ble_eq_true rfl)⟩ (Nat.le_of_ble_eq_true rfl) ?_ | refine zcx_X10_72 rfl dX10_rate_42 rfl (r_in32 g _ v 1 99 rfl rfl) rfl rfl ⟨(Nat.le_of_ble_eq_true rfl), (Nat.le_of_ble_eq_true rfl)⟩ ⟨(Nat.le_of_ble_eq_true rfl), (Nat.le_of_ble_eq_true rfl)⟩ (Nat.le_of_ble_eq_true rfl) ?_
        refine z_bif_ne (tgt := 50) dX10_rate_45 rfl (by decide) (fun c45 => ?_) (fun c45 => ?_)
        · skip
          first | refine z_aload_n dX10_rate_50 rfl rfl ?_ | refine z_aload_nN dX10_rate_50 rfl rfl ?_
          refine zmg_30 rfl dX10_rate_51 rfl ?_
          refine z_iload_n dX10_rate_54 rfl rfl ?_
          refine zm_iald dX10_rate_55 rfl rfl (in4 c9) ?_
          refine z_istore_n dX10_rate_56 rfl (Nat.le_of_ble_eq_true rfl) ?_
          first | refine z_aload_n dX10_rate_57 rfl rfl ?_ | refine z_aload_nN dX10_rate_57 rfl rfl ?_
          refine zmg_30 rfl dX10_rate_58 rfl ?_
          refine z_iload_n dX10_rate_61 rfl rfl ?_
          refine z_iload_n dX10_rate_62 rfl rfl ?_
          refine zm_iast dX10_rate_63 rfl rfl (in4 c9) ?_
          refine z_iload_n dX10_rate_64 rfl rfl ?_
          exact z_iret dX10_rate_65 rfl rfl (mPost_of (RepM_rate hR (rate_ok hR.2.1.2.2.1 c9 (by grind) (by grind))) (by rw [hR.2.1.2.1 _ (in_lt (in4 c9))]; grind [pRate])) (Nat.le_of_ble_eq_true rfl) (Nat.le_of_ble_eq_true rfl)
        · skip
          refine z_iconst (v := -1) dX10_rate_48 rfl (by decide) ?_
          exact z_iret dX10_rate_49 rfl rfl (mPost_of hR (by grind [pRate])) (Nat.le_of_ble_eq_true rfl) (Nat.le_of_ble_eq_true rfl)
    · skip
      refine z_iload_n dX10_rate_19 rfl rfl ?_
      refine z_iconst (v := 2) dX10_rate_20 rfl (by decide) ?_
      refine z_icmp_ne (tgt := 28) dX10_rate_21 rfl (by decide) (fun c21 => ?_) (fun c21 => ?_)
      · skip
        refine z_lconst (v := 0) dX10_rate_28 rfl (by decide) ?_
        refine z_iload_n dX10_rate_29 rfl rfl ?_
        refine z_if_ne (tgt := 39) dX10_rate_30 rfl (by decide) (fun c30 => ?_) (fun c30 => ?_)
        · skip
          refine zk_X10_211 rfl dX10_rate_39 rfl ?_
          first | refine zcx_X10_72 rfl dX10_rate_42 rfl (r_in32 g _ v 0 9 rfl rfl) rfl rfl ⟨(Nat.le_of_ble_eq_true rfl), (Nat.le_of_ble_eq_true rfl)⟩ ⟨(Nat.le_of_ble_eq_true rfl), (Nat.le_of_ble_eq_true rfl)⟩ (Nat.le_of_ble_eq_true rfl) ?_ | refine zcx_X10_72 rfl dX10_rate_42 rfl (r_in32 g _ v 0 99 rfl rfl) rfl rfl ⟨(Nat.le_of_ble_eq_true rfl), (Nat.le_of_ble_eq_true rfl)⟩ ⟨(Nat.le_of_ble_eq_true rfl), (Nat.le_of_ble_eq_true rfl)⟩ (Nat.le_of_ble_eq_true rfl) ?_ | refine zcx_X10_72 rfl dX10_rate_42 rfl (r_in32 g _ v 1 9 rfl rfl) rfl rfl ⟨(Nat.le_of_ble_eq_true rfl), (Nat.le_of_ble_eq_true rfl)⟩ ⟨(Nat.le_of_ble_eq_true rfl), (Nat.le_of_ble_eq_true rfl)⟩ (Nat.le_of_ble_eq_true rfl) ?_ | refine zcx_X10_72 rfl dX10_rate_42 rfl (r_in32 g _ v 1 99 rfl rfl) rfl rfl ⟨(Nat.le_of_ble_eq_true rfl), (Nat.le_of_ble_eq_true rfl)⟩ ⟨(Nat.le_of_ble_eq_true rfl), (Nat.le_of_ble_eq_true rfl)⟩ (Nat.le_of_ble_eq_true rfl) ?_
          refine z_bif_ne (tgt := 50) dX10_rate_45 rfl (by decide) (fun c45 => ?_) (fun c45 => ?_)
          · skip
            first | refine z_aload_n dX10_rate_50 rfl rfl ?_ | refine z_aload_nN dX10_rate_50 rfl rfl ?_
            refine zmg_30 rfl dX10_rate_51 rfl ?_
            refine z_iload_n dX10_rate_54 rfl rfl ?_
            refine zm_iald dX10_rate_55 rfl rfl (in4 c9) ?_
            refine z_istore_n dX10_rate_56 rfl (Nat.le_of_ble_eq_true rfl) ?_
            first | refine z_aload_n dX10_rate_57 rfl rfl ?_ | refine z_aload_nN dX10_rate_57 rfl rfl ?_
            refine zmg_30 rfl dX10_rate_58 rfl ?_
            refine z_iload_n dX10_rate_61 rfl rfl ?_
            refine z_iload_n dX10_rate_62 rfl rfl ?_
            refine zm_iast dX10_rate_63 rfl rfl (in4 c9) ?_
            refine z_iload_n dX10_rate_64 rfl rfl ?_
            exact z_iret dX10_rate_65 rfl rfl (mPost_of (RepM_rate hR (rate_ok hR.2.1.2.2.1 c9 (by grind) (by grind))) (by rw [hR.2.1.2.1 _ (in_lt (in4 c9))]; grind [pRate])) (Nat.le_of_ble_eq_true rfl) (Nat.le_of_ble_eq_true rfl)
          · skip
            refine z_iconst (v := -1) dX10_rate_48 rfl (by decide) ?_
            exact z_iret dX10_rate_49 rfl rfl (mPost_of hR (by grind [pRate])) (Nat.le_of_ble_eq_true rfl) (Nat.le_of_ble_eq_true rfl)
        · skip
          refine zk_X10_209 rfl dX10_rate_33 rfl ?_
          refine z_goto (tgt := 42) dX10_rate_36 rfl (by decide) ?_
          first | refine zcx_X10_72 rfl dX10_rate_42 rfl (r_in32 g _ v 0 9 rfl rfl) rfl rfl ⟨(Nat.le_of_ble_eq_true rfl), (Nat.le_of_ble_eq_true rfl)⟩ ⟨(Nat.le_of_ble_eq_true rfl), (Nat.le_of_ble_eq_true rfl)⟩ (Nat.le_of_ble_eq_true rfl) ?_ | refine zcx_X10_72 rfl dX10_rate_42 rfl (r_in32 g _ v 0 99 rfl rfl) rfl rfl ⟨(Nat.le_of_ble_eq_true rfl), (Nat.le_of_ble_eq_true rfl)⟩ ⟨(Nat.le_of_ble_eq_true rfl), (Nat.le_of_ble_eq_true rfl)⟩ (Nat.le_of_ble_eq_true rfl) ?_ | refine zcx_X10_72 rfl dX10_rate_42 rfl (r_in32 g _ v 1 9 rfl rfl) rfl rfl ⟨(Nat.le_of_ble_eq_true rfl), (Nat.le_of_ble_eq_true rfl)⟩ ⟨(Nat.le_of_ble_eq_true rfl), (Nat.le_of_ble_eq_true rfl)⟩ (Nat.le_of_ble_eq_true rfl) ?_ | refine zcx_X10_72 rfl dX10_rate_42 rfl (r_in32 g _ v 1 99 rfl rfl) rfl rfl ⟨(Nat.le_of_ble_eq_true rfl), (Nat.le_of_ble_eq_true rfl)⟩ ⟨(Nat.le_of_ble_eq_true rfl), (Nat.le_of_ble_eq_true rfl)⟩ (Nat.le_of_ble_eq_true rfl) ?_
          refine z_bif_ne (tgt := 50) dX10_rate_45 rfl (by decide) (fun c45 => ?_) (fun c45 => ?_)
          · skip
            first | refine z_aload_n dX10_rate_50 rfl rfl ?_ | refine z_aload_nN dX10_rate_50 rfl rfl ?_
            refine zmg_30 rfl dX10_rate_51 rfl ?_
            refine z_iload_n dX10_rate_54 rfl rfl ?_
            refine zm_iald dX10_rate_55 rfl rfl (in4 c9) ?_
            refine z_istore_n dX10_rate_56 rfl (Nat.le_of_ble_eq_true rfl) ?_
            first | refine z_aload_n dX10_rate_57 rfl rfl ?_ | refine z_aload_nN dX10_rate_57 rfl rfl ?_
            refine zmg_30 rfl dX10_rate_58 rfl ?_
            refine z_iload_n dX10_rate_61 rfl rfl ?_
            refine z_iload_n dX10_rate_62 rfl rfl ?_
            refine zm_iast dX10_rate_63 rfl rfl (in4 c9) ?_
            refine z_iload_n dX10_rate_64 rfl rfl ?_
            exact z_iret dX10_rate_65 rfl rfl (mPost_of (RepM_rate hR (rate_ok hR.2.1.2.2.1 c9 (by grind) (by grind))) (by rw [hR.2.1.2.1 _ (in_lt (in4 c9))]; grind [pRate])) (Nat.le_of_ble_eq_true rfl) (Nat.le_of_ble_eq_true rfl)
          · skip
            refine z_iconst (v := -1) dX10_rate_48 rfl (by decide) ?_
            exact z_iret dX10_rate_49 rfl rfl (mPost_of hR (by grind [pRate])) (Nat.le_of_ble_eq_true rfl) (Nat.le_of_ble_eq_true rfl)
      · skip
        refine z_lconst (v := 1) dX10_rate_24 rfl (by decide) ?_
        refine z_goto (tgt := 29) dX10_rate_25 rfl (by decide) ?_
        refine z_iload_n dX10_rate_29 rfl rfl ?_
        refine z_if_ne (tgt := 39) dX10_rate_30 rfl (by decide) (fun c30 => ?_) (fun c30 => ?_)
        · skip
          refine zk_X10_211 rfl dX10_rate_39 rfl ?_
          first | refine zcx_X10_72 rfl dX10_rate_42 rfl (r_in32 g _ v 0 9 rfl rfl) rfl rfl ⟨(Nat.le_of_ble_eq_true rfl), (Nat.le_of_ble_eq_true rfl)⟩ ⟨(Nat.le_of_ble_eq_true rfl), (Nat.le_of_ble_eq_true rfl)⟩ (Nat.le_of_ble_eq_true rfl) ?_ | refine zcx_X10_72 rfl dX10_rate_42 rfl (r_in32 g _ v 0 99 rfl rfl) rfl rfl ⟨(Nat.le_of_ble_eq_true rfl), (Nat.le_of_ble_eq_true rfl)⟩ ⟨(Nat.le_of_ble_eq_true rfl), (Nat.le_of_ble_eq_true rfl)⟩ (Nat.le_of_ble_eq_true rfl) ?_ | refine zcx_X10_72 rfl dX10_rate_42 rfl (r_in32 g _ v 1 9 rfl rfl) rfl rfl ⟨(Nat.le_of_ble_eq_true rfl), (Nat.le_of_ble_eq_true rfl)⟩ ⟨(Nat.le_of_ble_eq_true rfl), (Nat.le_of_ble_eq_true rfl)⟩ (Nat.le_of_ble_eq_true rfl) ?_ | refine zcx_X10_72 rfl dX10_rate_42 rfl (r_in32 g _ v 1 99 rfl rfl) rfl rfl ⟨(Nat.le_of_ble_eq_true rfl), (Nat.le_of_ble_eq_true rfl)⟩ ⟨(Nat.le_of_ble_eq_true rfl), (Nat.le_of_ble_eq_true rfl)⟩ (Nat.le_of_ble_eq_true rfl) ?_
          refine z_bif_ne (tgt := 50) dX10_rate_45 rfl (by decide) (fun c45 => ?_) (fun c45 => ?_)
          · skip
            first | refine z_aload_n dX10_rate_50 rfl rfl ?_ | refine z_aload_nN dX10_rate_50 rfl rfl ?_
            refine zmg_30 rfl dX10_rate_51 rfl ?_
            refine z_iload_n dX10_rate_54 rfl rfl ?_
            refine zm_iald dX10_rate_55 rfl rfl (in4 c9) ?_
            refine z_istore_n dX10_rate_56 rfl (Nat.le_of_ble_eq_true rfl) ?_
            first | refine z_aload_n dX10_rate_57 rfl rfl ?_ | refine z_aload_nN dX10_rate_57 rfl rfl ?_
            refine zmg_30 rfl dX10_rate_58 rfl ?_
            refine z_iload_n dX10_rate_61 rfl rfl ?_
            refine z_iload_n dX10_rate_62 rfl rfl ?_
            refine zm_iast dX10_rate_63 rfl rfl (in4 c9) ?_
            refine z_iload_n dX10_rate_64 rfl rfl ?_
            exact z_iret dX10_rate_65 rfl rfl (mPost_of (RepM_rate hR (rate_ok hR.2.1.2.2.1 c9 (by grind) (by grind))) (by rw [hR.2.1.2.1 _ (in_lt (in4 c9))]; grind [pRate])) (Nat.le_of_ble_eq_true rfl) (Nat.le_of_ble_eq_true rfl)
          · skip
            refine z_iconst (v := -1) dX10_rate_48 rfl (by decide) ?_
            exact z_iret dX10_rate_49 rfl rfl (mPost_of hR (by grind [pRate])) (Nat.le_of_ble_eq_true rfl) (Nat.le_of_ble_eq_true rfl)
        · skip
          refine zk_X10_209 rfl dX10_rate_33 rfl ?_
          refine z_goto (tgt := 42) dX10_rate_36 rfl (by decide) ?_
          first | refine zcx_X10_72 rfl dX10_rate_42 rfl (r_in32 g _ v 0 9 rfl rfl) rfl rfl ⟨(Nat.le_of_ble_eq_true rfl), (Nat.le_of_ble_eq_true rfl)⟩ ⟨(Nat.le_of_ble_eq_true rfl), (Nat.le_of_ble_eq_true rfl)⟩ (Nat.le_of_ble_eq_true rfl) ?_ | refine zcx_X10_72 rfl dX10_rate_42 rfl (r_in32 g _ v 0 99 rfl rfl) rfl rfl ⟨(Nat.le_of_ble_eq_true rfl), (Nat.le_of_ble_eq_true rfl)⟩ ⟨(Nat.le_of_ble_eq_true rfl), (Nat.le_of_ble_eq_true rfl)⟩ (Nat.le_of_ble_eq_true rfl) ?_ | refine zcx_X10_72 rfl dX10_rate_42 rfl (r_in32 g _ v 1 9 rfl rfl) rfl rfl ⟨(Nat.le_of_ble_eq_true rfl), (Nat.le_of_ble_eq_true rfl)⟩ ⟨(Nat.le_of_ble_eq_true rfl), (Nat.le_of_ble_eq_true rfl)⟩ (Nat.le_of_ble_eq_true rfl) ?_ | refine zcx_X10_72 rfl dX10_rate_42 rfl (r_in32 g _ v 1 99 rfl rfl) rfl rfl ⟨(Nat.le_of_ble_eq_true rfl), (Nat.le_of_ble_eq_true rfl)⟩ ⟨(Nat.le_of_ble_eq_true rfl), (Nat.le_of_ble_eq_true rfl)⟩ (Nat.le_of_ble_eq_true rfl) ?_
          refine z_bif_ne (tgt := 50) dX10_rate_45 rfl (by decide) (fun c45 => ?_) (fun c45 => ?_)
          · skip
            first | refine z_aload_n dX10_rate_50 rfl rfl ?_ | refine z_aload_nN dX10_rate_50 rfl rfl ?_
            refine zmg_30 rfl dX10_rate_51 rfl ?_
            refine z_iload_n dX10_rate_54 rfl rfl ?_
            refine zm_iald dX10_rate_55 rfl rfl (in4 c9) ?_
            refine z_istore_n dX10_rate_56 rfl (Nat.le_of_ble_eq_true rfl) ?_
            first | refine z_aload_n dX10_rate_57 rfl rfl ?_ | refine z_aload_nN dX10_rate_57 rfl rfl ?_
            refine zmg_30 rfl dX10_rate_58 rfl ?_
            refine z_iload_n dX10_rate_61 rfl rfl ?_
            refine z_iload_n dX10_rate_62 rfl rfl ?_
            refine zm_iast dX10_rate_63 rfl rfl (in4 c9) ?_
            refine z_iload_n dX10_rate_64 rfl rfl ?_
            exact z_iret dX10_rate_65 rfl rfl (mPost_of (RepM_rate hR (rate_ok hR.2.1.2.2.1 c9 (by grind) (by grind))) (by rw [hR.2.1.2.1 _ (in_lt (in4 c9))]; grind [pRate])) (Nat.le_of_ble_eq_true rfl) (Nat.le_of_ble_eq_true rfl)
          · skip
            refine z_iconst (v := -1) dX10_rate_48 rfl (by decide) ?_
            exact z_iret dX10_rate_49 rfl rfl (mPost_of hR (by grind [pRate])) (Nat.le_of_ble_eq_true rfl) (Nat.le_of_ble_eq_true rfl)

set_option maxHeartbeats 4000000 in
set_option maxRecDepth 100000 in
theorem R_like (g : zG) (h : zH) (m : Nat) (S : sMS) (w : sW) (hR : RepM S w) (a i b j : Int32) : zM g yX10_like cX10_like 6 (some .int) rmX10_like [.ref m, .int a, .int i, .int b, .int j] (mUp m S h) (mPost m h (pLike w a i b j)) := by
  refine zM_of (by decide) (Nat.le_of_ble_eq_true rfl) ?_
  refine z_iload_n dX10_like_0 rfl rfl ?_
  refine zcx_X10_141 rfl dX10_like_1 rfl (r_isRecord g _ _) rfl rfl ⟨(Nat.le_of_ble_eq_true rfl), (Nat.le_of_ble_eq_true rfl)⟩ ⟨(Nat.le_of_ble_eq_true rfl), (Nat.le_of_ble_eq_true rfl)⟩ (Nat.le_of_ble_eq_true rfl) ?_
  refine z_bif_eq (tgt := 14) dX10_like_4 rfl (by decide) (fun c4 => ?_) (fun c4 => ?_)
  · skip
    refine z_iconst (v := -1) dX10_like_14 rfl (by decide) ?_
    exact z_iret dX10_like_15 rfl rfl (mPost_of hR (by grind [pLike])) (Nat.le_of_ble_eq_true rfl) (Nat.le_of_ble_eq_true rfl)
  · skip
    refine z_iload_n dX10_like_7 rfl rfl ?_
    refine zcx_X10_141 rfl dX10_like_8 rfl (r_isRecord g _ _) rfl rfl ⟨(Nat.le_of_ble_eq_true rfl), (Nat.le_of_ble_eq_true rfl)⟩ ⟨(Nat.le_of_ble_eq_true rfl), (Nat.le_of_ble_eq_true rfl)⟩ (Nat.le_of_ble_eq_true rfl) ?_
    refine z_bif_ne (tgt := 16) dX10_like_11 rfl (by decide) (fun c11 => ?_) (fun c11 => ?_)
    · skip
      first | refine z_aload_n dX10_like_16 rfl rfl ?_ | refine z_aload_nN dX10_like_16 rfl rfl ?_
      refine z_iload_n dX10_like_17 rfl rfl ?_
      refine z_iload_n dX10_like_18 rfl rfl ?_
      refine z_i2l dX10_like_19 rfl ?_
      refine zcx_X10_155 rfl dX10_like_20 rfl mo_recv (q_cellFaultI g h m S w.1 hR.1 _ _ c4) rfl rfl ⟨(Nat.le_of_ble_eq_true rfl), (Nat.le_of_ble_eq_true rfl)⟩ ⟨(Nat.le_of_ble_eq_true rfl), (Nat.le_of_ble_eq_true rfl)⟩ (Nat.le_of_ble_eq_true rfl) ?_
      refine z_istore dX10_like_23 rfl (Nat.le_of_ble_eq_true rfl) ?_
      refine z_iload dX10_like_25 rfl rfl ?_
      refine z_if_le (tgt := 35) dX10_like_27 rfl (by decide) (fun c27 => ?_) (fun c27 => ?_)
      · skip
        first | refine z_aload_n dX10_like_35 rfl rfl ?_ | refine z_aload_nN dX10_like_35 rfl rfl ?_
        refine z_iload_n dX10_like_36 rfl rfl ?_
        refine z_iload dX10_like_37 rfl rfl ?_
        refine z_i2l dX10_like_39 rfl ?_
        refine zcx_X10_155 rfl dX10_like_40 rfl mo_recv (q_cellFaultI g h m S w.1 hR.1 _ _ c11) rfl rfl ⟨(Nat.le_of_ble_eq_true rfl), (Nat.le_of_ble_eq_true rfl)⟩ ⟨(Nat.le_of_ble_eq_true rfl), (Nat.le_of_ble_eq_true rfl)⟩ (Nat.le_of_ble_eq_true rfl) ?_
        refine z_istore dX10_like_43 rfl (Nat.le_of_ble_eq_true rfl) ?_
        refine z_iload dX10_like_45 rfl rfl ?_
        refine z_if_le (tgt := 58) dX10_like_47 rfl (by decide) (fun c47 => ?_) (fun c47 => ?_)
        · skip
          have c27 := le0 c27
          have hcf1 := cf_0 c27
          have h21 := rf_2 (rep_st hR.1 (ix_lt c4)) hcf1.1
          obtain ⟨hin1, hmc1, hok1, hlt1, k1, hk1, hke1, hrow1, hat1⟩ := rep_cell hR.1 (i := i) (ix_lt c4) h21 hcf1.2.1 hcf1.2.2
          have c47 := le0 c47
          have hcf2 := cf_0 c47
          have h22 := rf_2 (rep_st hR.1 (ix_lt c11)) hcf2.1
          obtain ⟨hin2, hmc2, hok2, hlt2, k2, hk2, hke2, hrow2, hat2⟩ := rep_cell hR.1 (i := j) (ix_lt c11) h22 hcf2.2.1 hcf2.2.2
          first | refine z_aload_n dX10_like_58 rfl rfl ?_ | refine z_aload_nN dX10_like_58 rfl rfl ?_
          first | refine z_aload_n dX10_like_59 rfl rfl ?_ | refine z_aload_nN dX10_like_59 rfl rfl ?_
          refine z_iload_n dX10_like_60 rfl rfl ?_
          refine z_iload_n dX10_like_61 rfl rfl ?_
          refine zcx_X10_135 rfl dX10_like_62 rfl mo_recv (r_cellAt g h m S _ _ (rec_in (by assumption))) rfl rfl ⟨(Nat.le_of_ble_eq_true rfl), (Nat.le_of_ble_eq_true rfl)⟩ ⟨(Nat.le_of_ble_eq_true rfl), (Nat.le_of_ble_eq_true rfl)⟩ (Nat.le_of_ble_eq_true rfl) ?_
          first | refine z_aload_n dX10_like_65 rfl rfl ?_ | refine z_aload_nN dX10_like_65 rfl rfl ?_
          refine z_iload_n dX10_like_66 rfl rfl ?_
          refine z_iload dX10_like_67 rfl rfl ?_
          refine zcx_X10_135 rfl dX10_like_69 rfl mo_recv (r_cellAt g h m S _ _ (rec_in (by assumption))) rfl rfl ⟨(Nat.le_of_ble_eq_true rfl), (Nat.le_of_ble_eq_true rfl)⟩ ⟨(Nat.le_of_ble_eq_true rfl), (Nat.le_of_ble_eq_true rfl)⟩ (Nat.le_of_ble_eq_true rfl) ?_
          refine zcx_X10_213 rfl dX10_like_72 rfl mo_recv (r_likeness g h m S _ _ hin1 hin2 (by rw [hmc1]; exact hok1) (by rw [hmc2]; exact hok2)) rfl rfl ⟨(Nat.le_of_ble_eq_true rfl), (Nat.le_of_ble_eq_true rfl)⟩ ⟨(Nat.le_of_ble_eq_true rfl), (Nat.le_of_ble_eq_true rfl)⟩ (Nat.le_of_ble_eq_true rfl) ?_
          try rw [hmc1, hmc2, hR.2.1.2.1 0 (by decide)]
          exact z_iret dX10_like_75 rfl rfl (mPost_of hR (by grind [pLike])) (Nat.le_of_ble_eq_true rfl) (Nat.le_of_ble_eq_true rfl)
        · skip
          refine z_bipush (v := -10) dX10_like_50 rfl (by decide) ?_
          refine z_iload dX10_like_52 rfl rfl ?_
          refine z_isub dX10_like_54 rfl ?_
          refine z_goto (tgt := 75) dX10_like_55 rfl (by decide) ?_
          try rw [hmc1, hmc2, hR.2.1.2.1 0 (by decide)]
          exact z_iret dX10_like_75 rfl rfl (mPost_of hR (by grind [pLike])) (Nat.le_of_ble_eq_true rfl) (Nat.le_of_ble_eq_true rfl)
      · skip
        refine z_iload dX10_like_30 rfl rfl ?_
        refine z_goto (tgt := 43) dX10_like_32 rfl (by decide) ?_
        refine z_istore dX10_like_43 rfl (Nat.le_of_ble_eq_true rfl) ?_
        refine z_iload dX10_like_45 rfl rfl ?_
        refine z_if_le (tgt := 58) dX10_like_47 rfl (by decide) (fun c47 => absurd c47 c27) (fun c47 => ?_)
        refine z_bipush (v := -10) dX10_like_50 rfl (by decide) ?_
        refine z_iload dX10_like_52 rfl rfl ?_
        refine z_isub dX10_like_54 rfl ?_
        refine z_goto (tgt := 75) dX10_like_55 rfl (by decide) ?_
        exact z_iret dX10_like_75 rfl rfl (mPost_of hR (by grind [pLike])) (Nat.le_of_ble_eq_true rfl) (Nat.le_of_ble_eq_true rfl)
    · skip
      refine z_iconst (v := -1) dX10_like_14 rfl (by decide) ?_
      exact z_iret dX10_like_15 rfl rfl (mPost_of hR (by grind [pLike])) (Nat.le_of_ble_eq_true rfl) (Nat.le_of_ble_eq_true rfl)

theorem l2i_n {x : Int64} {n : Nat} (h : x.toInt = n) (hn : n < 2 ^ 31) : x.toInt32 = nI n := by
  apply Int32.toInt_inj.mp
  rw [Int64.toInt_toInt32, h, nI_toInt hn, Int.bmod_def]
  omega
/-- the world after one cell moved -/
def wMove (w : sW) (r : Nat) (i : Int) (s : Nat) (j : Int) : sW := wR w (if moveF w.1 r i s j = 0 then rSet w.1 r i.toNat (sConv (rCell w.1 s j.toNat) (w.1.2.1 r).1) else w.1)
theorem mv_f {R : sR} {r s : Nat} {i j : Int} (h : ¬ 0 < cellF R s j) {jn : Nat} (hj : j = jn) : moveF R r i s j = layF R r i (rCell R s jn).1 := by
  unfold moveF
  rw [if_neg h, hj, Int.toNat_natCast]
theorem mv_g {R : sR} {r s : Nat} {i j : Int} (h : 0 < cellF R s j) : moveF R r i s j = cellF R s j := if_pos h
theorem mv_n {w : sW} {r s : Nat} {i j : Int} (h : moveF w.1 r i s j ≠ 0) : wMove w r i s j = w := by
  unfold wMove
  rw [if_neg h]
  rfl
def mMoveQ (m : Nat) (h : zH) (w : sW) (r : Nat) (i : Int) (s : Nat) (j : Int) : Option Value → zH → Prop := fun v h1 => ∃ S', v = some (.int (moveF w.1 r i s j)) ∧ h1 = mUp m S' h ∧ RepM S' (wMove w r i s j)
theorem mv_q {m : Nat} {h : zH} {w : sW} {r s : Nat} {i j : Int} {S' : sMS} {x : Int32} {w' : sW} (hR : RepM S' w') (e : moveF w.1 r i s j = x) (e2 : wMove w r i s j = w') : mMoveQ m h w r i s j (some (.int x)) (mUp m S' h) := ⟨S', by rw [e], rfl, by rw [e2]; exact hR⟩

set_option maxHeartbeats 4000000 in
set_option maxRecDepth 100000 in
theorem q_moves (g : zG) (h : zH) (m : Nat) (S : sMS) (w : sW) (hR : RepM S w) (r : Int32) (i : Int64) (s : Int32) (j : Int64) (hr : isRec r) (hs : isRec s) : zM g yX10_moves cX10_moves 9 (some .int) rmX10_moves [.ref m, .int r, .long i, .int s, .long j] (mUp m S h) (mMoveQ m h w (ix r) i.toInt (ix s) j.toInt) := by
  refine zM_of (by decide) (Nat.le_of_ble_eq_true rfl) ?_
  first | refine z_aload_n dX10_moves_0 rfl rfl ?_ | refine z_aload_nN dX10_moves_0 rfl rfl ?_
  refine z_iload dX10_moves_1 rfl rfl ?_
  refine z_lload dX10_moves_3 rfl rfl ?_
  refine zcx_X10_155 rfl dX10_moves_5 rfl mo_recv (q_cellFault g h m S w.1 hR.1 _ _ hs) rfl rfl ⟨(Nat.le_of_ble_eq_true rfl), (Nat.le_of_ble_eq_true rfl)⟩ ⟨(Nat.le_of_ble_eq_true rfl), (Nat.le_of_ble_eq_true rfl)⟩ (Nat.le_of_ble_eq_true rfl) ?_
  refine z_istore dX10_moves_8 rfl (Nat.le_of_ble_eq_true rfl) ?_
  refine z_iload dX10_moves_10 rfl rfl ?_
  refine z_if_le (tgt := 18) dX10_moves_12 rfl (by decide) (fun c12 => ?_) (fun c12 => ?_)
  · skip
    have c12 := le0 c12
    have hcf1 := cf_0 c12
    have h21 := rf_2 (rep_st hR.1 (ix_lt hs)) hcf1.1
    have hk1 := rep_kind hR.1 (ix_lt hs) h21
    have hl1 : (w.1.2.1 (ix s)).2.length ≤ 20 := hk1.2.2.2.2.2.1
    obtain ⟨jn, hj⟩ : ∃ jn : Nat, j.toInt = jn := ⟨j.toInt.toNat, by omega⟩
    have ejn := nI_toInt (show jn < 2 ^ 31 by omega)
    obtain ⟨hin1, hmc1, hok1, hlt1, k1, hke1, hke2, hrow1, hat1⟩ := rep_cell hR.1 (i := nI jn) (ix_lt hs) h21 (by omega) (by omega)
    have hix : ix (nI jn) = jn := nI_clamp (by omega)
    rw [hix] at hmc1 hok1
    have hs1 : S.1 1 (20 * S.1 6 (ix s) + nI jn).toNatClampNeg = (rCell w.1 (ix s) jn).1 := congrArg (fun c : sC => c.1) hmc1
    first | refine z_aload_n dX10_moves_18 rfl rfl ?_ | refine z_aload_nN dX10_moves_18 rfl rfl ?_
    refine z_iload dX10_moves_19 rfl rfl ?_
    refine z_lload dX10_moves_21 rfl rfl ?_
    refine z_l2i dX10_moves_23 rfl ?_
    rw [l2i_n hj (by omega)]
    refine zcx_X10_135 rfl dX10_moves_24 rfl mo_recv (r_cellAt g h m S _ _ (rec_in hs)) rfl rfl ⟨(Nat.le_of_ble_eq_true rfl), (Nat.le_of_ble_eq_true rfl)⟩ ⟨(Nat.le_of_ble_eq_true rfl), (Nat.le_of_ble_eq_true rfl)⟩ (Nat.le_of_ble_eq_true rfl) ?_
    refine z_istore dX10_moves_27 rfl (Nat.le_of_ble_eq_true rfl) ?_
    first | refine z_aload_n dX10_moves_29 rfl rfl ?_ | refine z_aload_nN dX10_moves_29 rfl rfl ?_
    refine z_iload_n dX10_moves_30 rfl rfl ?_
    refine z_lload_n dX10_moves_31 rfl rfl ?_
    first | refine z_aload_n dX10_moves_32 rfl rfl ?_ | refine z_aload_nN dX10_moves_32 rfl rfl ?_
    refine zmg_7 rfl dX10_moves_33 rfl ?_
    refine z_iload dX10_moves_36 rfl rfl ?_
    refine zm_iald dX10_moves_38 rfl rfl hin1 ?_
    rw [hs1]
    refine zcx_X10_187 rfl dX10_moves_39 rfl mo_recv (q_layFault g h m S w.1 hR.1 _ _ _ hr) rfl rfl ⟨(Nat.le_of_ble_eq_true rfl), (Nat.le_of_ble_eq_true rfl)⟩ ⟨(Nat.le_of_ble_eq_true rfl), (Nat.le_of_ble_eq_true rfl)⟩ (Nat.le_of_ble_eq_true rfl) ?_
    refine z_istore dX10_moves_42 rfl (Nat.le_of_ble_eq_true rfl) ?_
    refine z_iload dX10_moves_44 rfl rfl ?_
    refine z_if_ne (tgt := 67) dX10_moves_46 rfl (by decide) (fun c46 => ?_) (fun c46 => ?_)
    · skip
      refine z_iload dX10_moves_67 rfl rfl ?_
      exact z_iret dX10_moves_69 rfl rfl (mv_q hR (mv_f c12 hj) (mv_n (by rw [mv_f c12 hj]; exact c46))) (Nat.le_of_ble_eq_true rfl) (Nat.le_of_ble_eq_true rfl)
    · skip
      have hl0 : ¬ 0 < layF w.1 (ix r) i.toInt (rCell w.1 (ix s) jn).1 := fun q => by rw [c46] at q; exact absurd q (by decide)
      have hcf := cf_0 (lf_0 hl0).1
      have h2 := rf_2 (rep_st hR.1 (ix_lt hr)) hcf.1
      have hk := rep_kind hR.1 (ix_lt hr) h2
      obtain ⟨kr, hkr, hkre, hA⟩ := rep_row hR.1 (ix_lt hr) h2
      have hl : (w.1.2.1 (ix r)).2.length ≤ 20 := hA.2.2.1.2.2.1
      obtain ⟨iN, hi⟩ : ∃ iN : Nat, i.toInt = iN := ⟨i.toInt.toNat, by omega⟩
      first | refine z_aload_n dX10_moves_49 rfl rfl ?_ | refine z_aload_nN dX10_moves_49 rfl rfl ?_
      refine z_iload dX10_moves_50 rfl rfl ?_
      first | refine z_aload_n dX10_moves_52 rfl rfl ?_ | refine z_aload_nN dX10_moves_52 rfl rfl ?_
      refine z_iload_n dX10_moves_53 rfl rfl ?_
      refine zcx_X10_146 rfl dX10_moves_54 rfl mo_recv (r_kindOf g h m S _ (rec_in hr) hk.2.2.1) rfl rfl ⟨(Nat.le_of_ble_eq_true rfl), (Nat.le_of_ble_eq_true rfl)⟩ ⟨(Nat.le_of_ble_eq_true rfl), (Nat.le_of_ble_eq_true rfl)⟩ (Nat.le_of_ble_eq_true rfl) ?_
      rw [hk.1]
      first | refine z_aload_n dX10_moves_57 rfl rfl ?_ | refine z_aload_nN dX10_moves_57 rfl rfl ?_
      refine z_iload_n dX10_moves_58 rfl rfl ?_
      refine z_lload_n dX10_moves_59 rfl rfl ?_
      refine z_l2i dX10_moves_60 rfl ?_
      rw [l2i_n hi (by omega)]
      refine zcx_X10_135 rfl dX10_moves_61 rfl mo_recv (r_cellAt g h m S _ _ (rec_in hr)) rfl rfl ⟨(Nat.le_of_ble_eq_true rfl), (Nat.le_of_ble_eq_true rfl)⟩ ⟨(Nat.le_of_ble_eq_true rfl), (Nat.le_of_ble_eq_true rfl)⟩ (Nat.le_of_ble_eq_true rfl) ?_
      rw [hkre, n20]
      refine zcv_X10_138 rfl dX10_moves_64 rfl mo_recv (r_widens g h m S _ _ _ hin1 (vp_in_nI (show 20 * kr + iN < 880 by omega) (by decide))) rfl rfl ⟨(Nat.le_of_ble_eq_true rfl), (Nat.le_of_ble_eq_true rfl)⟩ ⟨(Nat.le_of_ble_eq_true rfl), (Nat.le_of_ble_eq_true rfl)⟩ (Nat.le_of_ble_eq_true rfl) ?_
      rw [nI_clamp (show 20 * kr + iN < 2 ^ 31 by omega), hmc1]
      refine z_iload dX10_moves_67 rfl rfl ?_
      exact z_iret dX10_moves_69 rfl rfl (mv_q (RepM_set1 hR (ix_lt hr) h2 hkre hkr (show iN < _ by omega) (sConv_ok hok1 ⟨hA.2.2.1.1, hA.2.2.1.2.1⟩ (lf_0 hl0).2)) (mv_f c12 hj) (by unfold wMove; rw [if_pos ((mv_f c12 hj).trans c46), hi, hj, Int.toNat_natCast, Int.toNat_natCast])) (Nat.le_of_ble_eq_true rfl) (Nat.le_of_ble_eq_true rfl)
  · skip
    refine z_iload dX10_moves_15 rfl rfl ?_
    exact z_iret dX10_moves_17 rfl rfl (mv_q hR (mv_g (by grind)) (mv_n (by rw [mv_g (by grind)]; grind))) (Nat.le_of_ble_eq_true rfl) (Nat.le_of_ble_eq_true rfl)

abbrev YX10_move : zY := (yX10_move.cls, cX10_move, 7, (some .int), rmX10_move, yX10_move.name, fun _ _ => True)
theorem move_ans {w : sW} {r i s j : Int32} {N k : Nat} {f : Int32} {R : sR} (hN : N ≤ 20) (hr : isRec r) (hs : isRec s) (e : pMoveL (ix r) i.toInt (ix s) j.toInt N 0 w.1 = (k, f, R)) : pMove w r i s j (nI N) = (nI k, wTorn (wR w R) f) := by
  have h1 : 0 ≤ nI N ∧ nI N ≤ 20 := ⟨nI_pos' (by omega), nI_le (b := 20) hN (by decide)⟩
  unfold pMove
  rw [if_neg (fun q => q.elim (fun q => q hr) (fun q => q.elim (fun q => q hs) (fun q => q h1))), show ix (nI N) = N from nI_clamp (by omega), e]

set_option maxHeartbeats 4000000 in
set_option maxRecDepth 100000 in
theorem R_move_S (g : zG) (h : zH) (m : Nat) (w : sW) (r i s j : Int32) (N : Nat) (hN : N ≤ 20) (hr : isRec r) (hs : isRec s) (S : sMS) (k : Nat) (f : Int32) (R : sR) (hk : k < N) (hf : f ≠ 0) (hR : RepM S (wTorn (wR w R) f)) (he : pMoveL (ix r) i.toInt (ix s) j.toInt N 0 w.1 = (k, f, R)) : zZ g YX10_move (zE g (mPost m h (pMove w r i s j (nI N))) 0 0) 37 [(6, .int (nI k)), (0, .ref m), (1, .int r), (2, .int i), (3, .int s), (4, .int j), (5, .int (nI N))] [] (mUp m S h) 0 0 := by
  refine z_iload dX10_move_37 rfl rfl ?_
  refine z_iload dX10_move_39 rfl rfl ?_
  refine z_icmp_ge (tgt := 97) dX10_move_41 rfl (by decide) (fun c41 => absurd c41 (nI_ge (by omega) (by omega))) (fun c41 => ?_)
  first | refine z_aload_n dX10_move_44 rfl rfl ?_ | refine z_aload_nN dX10_move_44 rfl rfl ?_
  refine zmg_192 rfl dX10_move_45 rfl ?_
  refine z_if_ne (tgt := 97) dX10_move_48 rfl (by decide) (fun c48 => ?_) (fun c48 => absurd c48 (fun q => hf (by rw [← q, hR.2.2.2]; rfl)))
  refine z_iload dX10_move_97 rfl rfl ?_
  exact z_iret dX10_move_99 rfl rfl (mPost_of hR (move_ans hN hr hs he)) (Nat.le_of_ble_eq_true rfl) (Nat.le_of_ble_eq_true rfl)
set_option maxHeartbeats 4000000 in
set_option maxRecDepth 100000 in
theorem R_move_L (g : zG) (h : zH) (m : Nat) (w : sW) (r i s j : Int32) (N : Nat) (hN : N ≤ 20) (hr : isRec r) (hs : isRec s) : ∀ (n : Nat) (S : sMS) (k : Nat) (R : sR), k + n = N → RepM S (wTorn (wR w R) 0) → pMoveL (ix r) i.toInt (ix s) j.toInt N 0 w.1 = pMoveL (ix r) i.toInt (ix s) j.toInt n k R → zZ g YX10_move (zE g (mPost m h (pMove w r i s j (nI N))) 0 0) 37 [(6, .int (nI k)), (0, .ref m), (1, .int r), (2, .int i), (3, .int s), (4, .int j), (5, .int (nI N))] [] (mUp m S h) 0 0 := by
  intro n
  induction n with
  | zero =>
    intro S k R hk hR he
    refine z_iload dX10_move_37 rfl rfl ?_
    refine z_iload dX10_move_39 rfl rfl ?_
    refine z_icmp_ge (tgt := 97) dX10_move_41 rfl (by decide) (fun c41 => ?_) (fun c41 => absurd c41 (fun q => q (nI_le (by omega) (by omega))))
    refine z_iload dX10_move_97 rfl rfl ?_
    exact z_iret dX10_move_99 rfl rfl (mPost_of hR (move_ans hN hr hs (by rw [he]; rfl))) (Nat.le_of_ble_eq_true rfl) (Nat.le_of_ble_eq_true rfl)
  | succ n ih =>
    intro S k R hk hR he
    refine z_iload dX10_move_37 rfl rfl ?_
    refine z_iload dX10_move_39 rfl rfl ?_
    refine z_icmp_ge (tgt := 97) dX10_move_41 rfl (by decide) (fun c41 => absurd c41 (nI_ge (by omega) (by omega))) (fun c41 => ?_)
    first | refine z_aload_n dX10_move_44 rfl rfl ?_ | refine z_aload_nN dX10_move_44 rfl rfl ?_
    refine zmg_192 rfl dX10_move_45 rfl ?_
    refine z_if_ne (tgt := 97) dX10_move_48 rfl (by decide) (fun c48 => absurd c48 (fun q => q hR.2.2.2)) (fun c48 => ?_)
    first | refine z_aload_n dX10_move_51 rfl rfl ?_ | refine z_aload_nN dX10_move_51 rfl rfl ?_
    first | refine z_aload_n dX10_move_52 rfl rfl ?_ | refine z_aload_nN dX10_move_52 rfl rfl ?_
    refine z_iload_n dX10_move_53 rfl rfl ?_
    refine z_iload_n dX10_move_54 rfl rfl ?_
    refine z_i2l dX10_move_55 rfl ?_
    refine z_iload dX10_move_56 rfl rfl ?_
    refine z_i2l dX10_move_58 rfl ?_
    refine z_ladd dX10_move_59 rfl ?_
    refine z_iload_n dX10_move_60 rfl rfl ?_
    refine z_iload dX10_move_61 rfl rfl ?_
    refine z_i2l dX10_move_63 rfl ?_
    refine z_iload dX10_move_64 rfl rfl ?_
    refine z_i2l dX10_move_66 rfl ?_
    refine z_ladd dX10_move_67 rfl ?_
    refine zc_X10_196 rfl dX10_move_68 rfl mo_recv (q_moves g h m S (wTorn (wR w R) 0) hR r _ s _ hr hs) rfl rfl ⟨(Nat.le_of_ble_eq_true rfl), (Nat.le_of_ble_eq_true rfl)⟩ ⟨(Nat.le_of_ble_eq_true rfl), (Nat.le_of_ble_eq_true rfl)⟩ (Nat.le_of_ble_eq_true rfl) (fun v h1 hq => ?_)
    obtain ⟨S1, rfl, rfl, hR1⟩ := hq
    rw [addL i (by omega), addL j (by omega)] at hR1
    have hR2 : moveF R (ix r) (i.toInt + k) (ix s) (j.toInt + k) = 0 → RepM (S1.1, S1.2.1, S1.2.2.1, va_up S1.2.2.2.1 7 (moveF R (ix r) (i.toInt + k) (ix s) (j.toInt + k)), S1.2.2.2.2) (wTorn (wR w (rSet R (ix r) (i.toInt + k).toNat (sConv (rCell R (ix s) (j.toInt + k).toNat) (R.2.1 (ix r)).1))) 0) := fun q => by
      have q2 := RepM_torn hR1 (moveF R (ix r) (i.toInt + k) (ix s) (j.toInt + k))
      unfold wMove at q2
      rw [if_pos (show moveF (wTorn (wR w R) 0).1 (ix r) (i.toInt + k) (ix s) (j.toInt + k) = 0 from q)] at q2
      rw [q] at q2 ⊢
      exact q2
    have hR3 : moveF R (ix r) (i.toInt + k) (ix s) (j.toInt + k) ≠ 0 → RepM (S1.1, S1.2.1, S1.2.2.1, va_up S1.2.2.2.1 7 (moveF R (ix r) (i.toInt + k) (ix s) (j.toInt + k)), S1.2.2.2.2) (wTorn (wR w R) (moveF R (ix r) (i.toInt + k) (ix s) (j.toInt + k))) := fun q => by
      have q2 := RepM_torn hR1 (moveF R (ix r) (i.toInt + k) (ix s) (j.toInt + k))
      rw [mv_n (w := wTorn (wR w R) 0) q] at q2
      exact q2
    rw [addL i (by omega), addL j (by omega)]
    refine zmp_192 rfl dX10_move_71 rfl ?_
    refine z_iload dX10_move_74 rfl rfl ?_
    first | refine z_aload_n dX10_move_76 rfl rfl ?_ | refine z_aload_nN dX10_move_76 rfl rfl ?_
    refine zmg_192 rfl dX10_move_77 rfl ?_
    refine z_if_ne (tgt := 87) dX10_move_80 rfl (by decide) (fun c80 => ?_) (fun c80 => ?_)
    · skip
      have c : moveF R (ix r) (i.toInt + k) (ix s) (j.toInt + k) ≠ 0 := c80
      refine z_iconst (v := 0) dX10_move_87 rfl (by decide) ?_
      refine zcx_X10_200 rfl dX10_move_88 rfl (r_flag g _ False) rfl rfl ⟨(Nat.le_of_ble_eq_true rfl), (Nat.le_of_ble_eq_true rfl)⟩ ⟨(Nat.le_of_ble_eq_true rfl), (Nat.le_of_ble_eq_true rfl)⟩ (Nat.le_of_ble_eq_true rfl) ?_
      refine z_iadd dX10_move_91 rfl ?_
      rw [show nI k + (if False then (1 : Int32) else 0) = nI k from by simp]
      refine z_istore dX10_move_92 rfl (Nat.le_of_ble_eq_true rfl) ?_
      refine z_goto (tgt := 37) dX10_move_94 rfl (by decide) ?_
      refine z_lv [(6, .int (nI k)), (0, .ref m), (1, .int r), (2, .int i), (3, .int s), (4, .int j), (5, .int (nI N))] ⟨rfl, rfl, rfl, rfl, rfl, rfl, rfl, trivial⟩ ?_
      exact R_move_S g h m w r i s j N hN hr hs _ k (moveF R (ix r) (i.toInt + k) (ix s) (j.toInt + k)) R (by omega) c (hR3 c) (by rw [he, pMoveL, if_neg c])
    · skip
      have c : moveF R (ix r) (i.toInt + k) (ix s) (j.toInt + k) = 0 := c80
      refine z_iconst (v := 1) dX10_move_83 rfl (by decide) ?_
      refine z_goto (tgt := 88) dX10_move_84 rfl (by decide) ?_
      refine zcx_X10_200 rfl dX10_move_88 rfl (r_flag g _ True) rfl rfl ⟨(Nat.le_of_ble_eq_true rfl), (Nat.le_of_ble_eq_true rfl)⟩ ⟨(Nat.le_of_ble_eq_true rfl), (Nat.le_of_ble_eq_true rfl)⟩ (Nat.le_of_ble_eq_true rfl) ?_
      refine z_iadd dX10_move_91 rfl ?_
      rw [show nI k + (if True then (1 : Int32) else 0) = nI (k + 1) from nI_inc k]
      refine z_istore dX10_move_92 rfl (Nat.le_of_ble_eq_true rfl) ?_
      refine z_goto (tgt := 37) dX10_move_94 rfl (by decide) ?_
      refine z_lv [(6, .int (nI (k + 1))), (0, .ref m), (1, .int r), (2, .int i), (3, .int s), (4, .int j), (5, .int (nI N))] ⟨rfl, rfl, rfl, rfl, rfl, rfl, rfl, trivial⟩ ?_
      exact ih _ (k + 1) (rSet R (ix r) (i.toInt + k).toNat (sConv (rCell R (ix s) (j.toInt + k).toNat) (R.2.1 (ix r)).1)) (by omega) (hR2 c) (by rw [he, pMoveL, if_pos c])
set_option maxHeartbeats 4000000 in
set_option maxRecDepth 100000 in
theorem R_move (g : zG) (h : zH) (m : Nat) (S : sMS) (w : sW) (hR : RepM S w) (r i s j n : Int32) : zM g yX10_move cX10_move 7 (some .int) rmX10_move [.ref m, .int r, .int i, .int s, .int j, .int n] (mUp m S h) (mPost m h (pMove w r i s j n)) := by
  refine zM_of (by decide) (Nat.le_of_ble_eq_true rfl) ?_
  refine z_iload_n dX10_move_0 rfl rfl ?_
  refine zcx_X10_141 rfl dX10_move_1 rfl (r_isRecord g _ _) rfl rfl ⟨(Nat.le_of_ble_eq_true rfl), (Nat.le_of_ble_eq_true rfl)⟩ ⟨(Nat.le_of_ble_eq_true rfl), (Nat.le_of_ble_eq_true rfl)⟩ (Nat.le_of_ble_eq_true rfl) ?_
  refine z_bif_eq (tgt := 27) dX10_move_4 rfl (by decide) (fun c4 => ?_) (fun c4 => ?_)
  · skip
    refine z_iconst (v := -1) dX10_move_27 rfl (by decide) ?_
    exact z_iret dX10_move_28 rfl rfl (mPost_of hR (by grind [pMove])) (Nat.le_of_ble_eq_true rfl) (Nat.le_of_ble_eq_true rfl)
  · skip
    refine z_iload_n dX10_move_7 rfl rfl ?_
    refine zcx_X10_141 rfl dX10_move_8 rfl (r_isRecord g _ _) rfl rfl ⟨(Nat.le_of_ble_eq_true rfl), (Nat.le_of_ble_eq_true rfl)⟩ ⟨(Nat.le_of_ble_eq_true rfl), (Nat.le_of_ble_eq_true rfl)⟩ (Nat.le_of_ble_eq_true rfl) ?_
    refine z_bif_eq (tgt := 27) dX10_move_11 rfl (by decide) (fun c11 => ?_) (fun c11 => ?_)
    · skip
      refine z_iconst (v := -1) dX10_move_27 rfl (by decide) ?_
      exact z_iret dX10_move_28 rfl rfl (mPost_of hR (by grind [pMove])) (Nat.le_of_ble_eq_true rfl) (Nat.le_of_ble_eq_true rfl)
    · skip
      refine z_iload dX10_move_14 rfl rfl ?_
      refine z_i2l dX10_move_16 rfl ?_
      refine z_lconst (v := 0) dX10_move_17 rfl (by decide) ?_
      refine zk_X10_190 rfl dX10_move_18 rfl ?_
      refine zcx_X10_72 rfl dX10_move_21 rfl (r_in32 g _ _ 0 20 rfl rfl) rfl rfl ⟨(Nat.le_of_ble_eq_true rfl), (Nat.le_of_ble_eq_true rfl)⟩ ⟨(Nat.le_of_ble_eq_true rfl), (Nat.le_of_ble_eq_true rfl)⟩ (Nat.le_of_ble_eq_true rfl) ?_
      refine z_bif_ne (tgt := 29) dX10_move_24 rfl (by decide) (fun c24 => ?_) (fun c24 => ?_)
      · skip
        obtain ⟨N, hN, rfl⟩ := nI_of2 (x := n) (M := 20) (n := 20) (by decide) (by grind) c24.2
        refine z_iconst (v := 0) dX10_move_29 rfl (by decide) ?_
        refine z_istore dX10_move_30 rfl (Nat.le_of_ble_eq_true rfl) ?_
        first | refine z_aload_n dX10_move_32 rfl rfl ?_ | refine z_aload_nN dX10_move_32 rfl rfl ?_
        refine z_iconst (v := 0) dX10_move_33 rfl (by decide) ?_
        refine zmp_192 rfl dX10_move_34 rfl ?_
        refine z_lv [(6, .int (nI 0)), (0, .ref m), (1, .int r), (2, .int i), (3, .int s), (4, .int j), (5, .int (nI N))] ⟨rfl, rfl, rfl, rfl, rfl, rfl, rfl, trivial⟩ ?_
        exact R_move_L g h m w r i s j N hN c4 c11 N _ 0 w.1 (by omega) (RepM_torn hR 0) rfl
      · skip
        refine z_iconst (v := -1) dX10_move_27 rfl (by decide) ?_
        exact z_iret dX10_move_28 rfl rfl (mPost_of hR (by grind [pMove])) (Nat.le_of_ble_eq_true rfl) (Nat.le_of_ble_eq_true rfl)

