theorem RepM_rate {S : sMS} {w : sW} (hR : RepM S w) {i : Nat} {v : Int32} (hq : rateOk (upd w.2.2.1 i v)) : RepM (va_up S.1 7 (upd (S.1 7) i v), S.2) (wRate w i v) := by
  refine ⟨hR.1, ⟨hR.2.1.1, fun j hj => ?_, hq, hR.2.1.2.2.2.1, hR.2.1.2.2.2.2⟩, hR.2.2.1, hR.2.2.2⟩
  show upd (S.1 7) i v j = upd w.2.2.1 i v j
  unfold upd
  by_cases e : j = i
  · rw [if_pos e, if_pos e]
  · rw [if_neg e, if_neg e]; exact hR.2.1.2.1 j hj
theorem rate_ok {q : Nat → Int32} (h : rateOk q) {x v : Int32} (hx : 0 ≤ x ∧ x ≤ 3) (h1 : (if x = 1 ∨ x = 2 then 1 else 0) ≤ v) (h2 : v ≤ (if x = 0 then 99 else 9)) : rateOk (upd q (ix x) v) := by
  obtain ⟨n, hn, rfl⟩ := nI_of2 (x := x) (M := 3) (n := 3) (by decide) (by grind) hx.2
  have e : ix (nI n) = n := nI_clamp (by omega)
  rw [e]
  obtain ⟨q1, q2, q3, q4, q5, q6, q7, q8⟩ := h
  rcases (show n = 0 ∨ n = 1 ∨ n = 2 ∨ n = 3 by omega) with z | z | z | z <;> subst z <;> simp only [rateOk, upd] <;> refine ⟨?_, ?_, ?_, ?_, ?_, ?_, ?_, ?_⟩ <;> first | assumption | exact h1 | exact h2
theorem in4 {x : Int32} (h : 0 ≤ x ∧ x ≤ 3) : vp_in x 4 := by
  obtain ⟨n, hn, rfl⟩ := nI_of2 (x := x) (M := 3) (n := 3) (by decide) (by grind) h.2
  exact vp_in_nI (by omega) (by decide)

set_option maxHeartbeats 4000000 in
set_option maxRecDepth 100000 in
theorem R_rate (g : zG) (h : zH) (m : Nat) (S : sMS) (w : sW) (hR : RepM S w) (what v : Int32) : zM g yX10_rate cX10_rate 4 (some .int) rmX10_rate [.ref m, .int what, .int v] (mUp m S h) (mPost m h (pRate w what v)) := by
  refine zM_of (by decide) (Nat.le_of_ble_eq_true rfl) ?_
  refine z_iload_n dX10_rate_0 rfl rfl ?_
  refine z_i2l dX10_rate_1 rfl ?_
  refine z_lconst (v := 0) dX10_rate_2 rfl (by decide) ?_
  refine zk_X10_207 rfl dX10_rate_3 rfl ?_
  refine zcx_X10_72 rfl dX10_rate_6 rfl (r_in32 g _ _ 0 3 rfl rfl) rfl rfl ⟨(Nat.le_of_ble_eq_true rfl), (Nat.le_of_ble_eq_true rfl)⟩ ⟨(Nat.le_of_ble_eq_true rfl), (Nat.le_of_ble_eq_true rfl)⟩ (Nat.le_of_ble_eq_true rfl) ?_
  refine z_bif_eq (tgt := 48) dX10_rate_9 rfl (by decide) (fun c9 => ?_) (fun c9 => ?_)
  · skip
    refine z_iconst (v := -1) dX10_rate_48 rfl (by decide) ?_
    exact z_iret dX10_rate_49 rfl rfl (mPost_of hR (by grind [pRate])) (Nat.le_of_ble_eq_true rfl) (Nat.le_of_ble_eq_true rfl)
  · skip
    refine z_iload_n dX10_rate_12 rfl rfl ?_
    refine z_i2l dX10_rate_13 rfl ?_
    refine z_iload_n dX10_rate_14 rfl rfl ?_
    refine z_iconst (v := 1) dX10_rate_15 rfl (by decide) ?_
    refine z_icmp_eq (tgt := 24) dX10_rate_16 rfl (by decide) (fun c16 => ?_) (fun c16 => ?_)
    · skip
      refine z_lconst (v := 1) dX10_rate_24 rfl (by decide) ?_
      refine z_goto (tgt := 29) dX10_rate_25 rfl (by decide) ?_
      refine z_iload_n dX10_rate_29 rfl rfl ?_
      refine z_if_ne (tgt := 39) dX10_rate_30 rfl (by decide) (fun c30 => ?_) (fun c30 => ?_)
      · skip
        refine zk_X10_211 rfl dX10_rate_39 rfl ?_
        first | refine zcx_X10_72 rfl dX10_rate_42 rfl (r_in32 g _ v 0 9 rfl rfl) rfl rfl ⟨(Nat.le_of_ble_eq_true rfl), (Nat.le_of_ble_eq_true rfl)⟩ ⟨(Nat.le_of_ble_eq_true rfl), (Nat.le_of_ble_eq_true rfl)⟩ (Nat.le_of_ble_eq_true rfl) ?_ | refine zcx_X10_72 rfl dX10_rate_42 rfl (r_in32 g _ v 0 99 rfl rfl) rfl rfl ⟨(Nat.le_of_ble_eq_true rfl), (Nat.le_of_ble_eq_true rfl)⟩ ⟨(Nat.le_of_ble_eq_true rfl), (Nat.le_of_ble_eq_true rfl)⟩ (Nat.le_of_ble_eq_true rfl) ?_ | refine zcx_X10_72 rfl dX10_rate_42 rfl (r_in32 g _ v 1 9 rfl rfl) rfl rfl ⟨(Nat.le_of_ble_eq_true rfl), (Nat.le_of_ble_eq_true rfl)⟩ ⟨(Nat.le_of_ble_eq_true rfl), (Nat.le_of_ble_eq_true rfl)⟩ (Nat.le_of_ble_eq_true rfl) ?_ | refine zcx_X10_72 rfl dX10_rate_42 rfl (r_in32 g _ v 1 99 rfl rfl) rfl rfl ⟨(Nat.le_of_ble_eq_true rfl), (Nat.le_of_ble_eq_true rfl)⟩ ⟨(Nat.le_of_ble_eq_true rfl), (Nat.le_of_ble_eq_true rfl)⟩ (Nat.le_of_ble_eq_true rfl) ?_
        refine z_bif_ne (tgt := 50) dX10_rate_45 rfl (by decide) (fun c45 => ?_) (fun c45 => ?_)
        · skip
          first | refine z_aload_n dX10_rate_50 rfl rfl ?_ | refine z_aload_nN dX10_rate_50 rfl rfl ?_
          refine zmg_30 rfl dX10_rate_51 rfl ?_
          refine z_iload_n dX10_rate_54 rfl rfl ?_
          refine zm_iald dX10_rate_55 rfl rfl (in4 c9) ?_
          refine z_istore_n dX10_rate_56 rfl (Nat.le_of_ble_eq_true rfl) ?_
          first | refine z_aload_n dX10_rate_57 rfl rfl ?_ | refine z_aload_nN dX10_rate_57 rfl rfl ?_
          refine zmg_30 rfl dX10_rate_58 rfl ?_
          refine z_iload_n dX10_rate_61 rfl rfl ?_
          refine z_iload_n dX10_rate_62 rfl rfl ?_
          refine zm_iast dX10_rate_63 rfl rfl (in4 c9) ?_
          refine z_iload_n dX10_rate_64 rfl rfl ?_
          exact z_iret dX10_rate_65 rfl rfl (mPost_of (RepM_rate hR (rate_ok hR.2.1.2.2.1 c9 (by grind) (by grind))) (by rw [hR.2.1.2.1 _ (in_lt (in4 c9))]; grind [pRate])) (Nat.le_of_ble_eq_true rfl) (Nat.le_of_ble_eq_true rfl)
        · skip
          refine z_iconst (v := -1) dX10_rate_48 rfl (by decide) ?_
          exact z_iret dX10_rate_49 rfl rfl (mPost_of hR (by grind [pRate])) (Nat.le_of_ble_eq_true rfl) (Nat.le_of_ble_eq_true rfl)
      · skip
        refine zk_X10_209 rfl dX10_rate_33 rfl ?_
        refine z_goto (tgt := 42) dX10_rate_36 rfl (by decide) ?_
        first | refine zcx_X10_72 rfl dX10_rate_42 rfl (r_in32 g _ v 0 9 rfl rfl) rfl rfl ⟨(Nat.le_of_ble_eq_true rfl), (Nat.le_of_ble_eq_true rfl)⟩ ⟨(Nat.le_of_ble_eq_true rfl), (Nat.le_of_ble_eq_true rfl)⟩ (Nat.le_of_ble_eq_true rfl) ?_ | refine zcx_X10_72 rfl dX10_rate_42 rfl (r_in32 g _ v 0 99 rfl rfl) rfl rfl ⟨(Nat.le_of_ble_eq_true rfl), (Nat.le_of_ble_eq_true rfl)⟩ ⟨(Nat.le_of_ble_eq_true rfl), (Nat.le_of_ble_eq_true rfl)⟩ (Nat.le_of_ble_eq_true rfl) ?_ | refine zcx_X10_72 rfl dX10_rate_42 rfl (r_in32 g _ v 1 9 rfl rfl) rfl rfl ⟨(Nat.le_of_ble_eq_true rfl), (Nat.le_of_ble_eq_true rfl)⟩ ⟨(Nat.le_of_ble_eq_true rfl), (Nat.le_of_ble_eq_true rfl)⟩ (Nat.le_of_ble_eq_true rfl) ?_ | refine zcx_X10_72 rfl dX10_rate_42 rfl (r_in32 g _ v 1 99 rfl rfl) rfl rfl ⟨(Nat.le_of_ble_eq_true rfl), (Nat.le_of_ble_eq_true rfl)⟩ ⟨(Nat.le_of_ble_eq_true rfl), (Nat.le_of_ble_eq_true rfl)⟩ (Nat.le_of_ble_eq_true rfl) ?_
        refine z_bif_ne (tgt := 50) dX10_rate_45 rfl (by decide) (fun c45 => ?_) (fun c45 => ?_)
        · skip
          first | refine z_aload_n dX10_rate_50 rfl rfl ?_ | refine z_aload_nN dX10_rate_50 rfl rfl ?_
          refine zmg_30 rfl dX10_rate_51 rfl ?_
          refine z_iload_n dX10_rate_54 rfl rfl ?_
          refine zm_iald dX10_rate_55 rfl rfl (in4 c9) ?_
          refine z_istore_n dX10_rate_56 rfl (Nat.le_of_ble_eq_true rfl) ?_
          first | refine z_aload_n dX10_rate_57 rfl rfl ?_ | refine z_aload_nN dX10_rate_57 rfl rfl ?_
          refine zmg_30 rfl dX10_rate_58 rfl ?_
          refine z_iload_n dX10_rate_61 rfl rfl ?_
          refine z_iload_n dX10_rate_62 rfl rfl ?_
          refine zm_iast dX10_rate_63 rfl rfl (in4 c9) ?_
          refine z_iload_n dX10_rate_64 rfl rfl ?_
          exact z_iret dX10_rate_65 rfl rfl (mPost_of (RepM_rate hR (rate_ok hR.2.1.2.2.1 c9 (by grind) (by grind))) (by rw [hR.2.1.2.1 _ (in_lt (in4 c9))]; grind [pRate])) (Nat.le_of_ble_eq_true rfl) (Nat.le_of_ble_eq_true rfl)
        · skip
          refine z_iconst (v := -1) dX10_rate_48 rfl (by decide) ?_
          exact z_iret dX10_rate_49 rfl rfl (mPost_of hR (by grind [pRate])) (Nat.le_of_ble_eq_true rfl) (Nat.le_of_ble_eq_true rfl)
    · skip
      refine z_iload_n dX10_rate_19 rfl rfl ?_
      refine z_iconst (v := 2) dX10_rate_20 rfl (by decide) ?_
      refine z_icmp_ne (tgt := 28) dX10_rate_21 rfl (by decide) (fun c21 => ?_) (fun c21 => ?_)
      · skip
        refine z_lconst (v := 0) dX10_rate_28 rfl (by decide) ?_
        refine z_iload_n dX10_rate_29 rfl rfl ?_
        refine z_if_ne (tgt := 39) dX10_rate_30 rfl (by decide) (fun c30 => ?_) (fun c30 => ?_)
        · skip
          refine zk_X10_211 rfl dX10_rate_39 rfl ?_
          first | refine zcx_X10_72 rfl dX10_rate_42 rfl (r_in32 g _ v 0 9 rfl rfl) rfl rfl ⟨(Nat.le_of_ble_eq_true rfl), (Nat.le_of_ble_eq_true rfl)⟩ ⟨(Nat.le_of_ble_eq_true rfl), (Nat.le_of_ble_eq_true rfl)⟩ (Nat.le_of_ble_eq_true rfl) ?_ | refine zcx_X10_72 rfl dX10_rate_42 rfl (r_in32 g _ v 0 99 rfl rfl) rfl rfl ⟨(Nat.le_of_ble_eq_true rfl), (Nat.le_of_ble_eq_true rfl)⟩ ⟨(Nat.le_of_ble_eq_true rfl), (Nat.le_of_ble_eq_true rfl)⟩ (Nat.le_of_ble_eq_true rfl) ?_ | refine zcx_X10_72 rfl dX10_rate_42 rfl (r_in32 g _ v 1 9 rfl rfl) rfl rfl ⟨(Nat.le_of_ble_eq_true rfl), (Nat.le_of_ble_eq_true rfl)⟩ ⟨(Nat.le_of_ble_eq_true rfl), (Nat.le_of_ble_eq_true rfl)⟩ (Nat.le_of_ble_eq_true rfl) ?_ | refine zcx_X10_72 rfl dX10_rate_42 rfl (r_in32 g _ v 1 99 rfl rfl) rfl rfl ⟨(Nat.le_of_ble_eq_true rfl), (Nat.le_of_ble_eq_true rfl)⟩ ⟨(Nat.le_of_ble_eq_true rfl), (Nat.le_of_ble_eq_true rfl)⟩ (Nat.le_of_ble_eq_true rfl) ?_
          refine z_bif_ne (tgt := 50) dX10_rate_45 rfl (by decide) (fun c45 => ?_) (fun c45 => ?_)
          · skip
            first | refine z_aload_n dX10_rate_50 rfl rfl ?_ | refine z_aload_nN dX10_rate_50 rfl rfl ?_
            refine zmg_30 rfl dX10_rate_51 rfl ?_
            refine z_iload_n dX10_rate_54 rfl rfl ?_
            refine zm_iald dX10_rate_55 rfl rfl (in4 c9) ?_
            refine z_istore_n dX10_rate_56 rfl (Nat.le_of_ble_eq_true rfl) ?_
            first | refine z_aload_n dX10_rate_57 rfl rfl ?_ | refine z_aload_nN dX10_rate_57 rfl rfl ?_
            refine zmg_30 rfl dX10_rate_58 rfl ?_
            refine z_iload_n dX10_rate_61 rfl rfl ?_
            refine z_iload_n dX10_rate_62 rfl rfl ?_
            refine zm_iast dX10_rate_63 rfl rfl (in4 c9) ?_
            refine z_iload_n dX10_rate_64 rfl rfl ?_
            exact z_iret dX10_rate_65 rfl rfl (mPost_of (RepM_rate hR (rate_ok hR.2.1.2.2.1 c9 (by grind) (by grind))) (by rw [hR.2.1.2.1 _ (in_lt (in4 c9))]; grind [pRate])) (Nat.le_of_ble_eq_true rfl) (Nat.le_of_ble_eq_true rfl)
          · skip
            refine z_iconst (v := -1) dX10_rate_48 rfl (by decide) ?_
            exact z_iret dX10_rate_49 rfl rfl (mPost_of hR (by grind [pRate])) (Nat.le_of_ble_eq_true rfl) (Nat.le_of_ble_eq_true rfl)
        · skip
          refine zk_X10_209 rfl dX10_rate_33 rfl ?_
          refine z_goto (tgt := 42) dX10_rate_36 rfl (by decide) ?_
          first | refine zcx_X10_72 rfl dX10_rate_42 rfl (r_in32 g _ v 0 9 rfl rfl) rfl rfl ⟨(Nat.le_of_ble_eq_true rfl), (Nat.le_of_ble_eq_true rfl)⟩ ⟨(Nat.le_of_ble_eq_true rfl), (Nat.le_of_ble_eq_true rfl)⟩ (Nat.le_of_ble_eq_true rfl) ?_ | refine zcx_X10_72 rfl dX10_rate_42 rfl (r_in32 g _ v 0 99 rfl rfl) rfl rfl ⟨(Nat.le_of_ble_eq_true rfl), (Nat.le_of_ble_eq_true rfl)⟩ ⟨(Nat.le_of_ble_eq_true rfl), (Nat.le_of_ble_eq_true rfl)⟩ (Nat.le_of_ble_eq_true rfl) ?_ | refine zcx_X10_72 rfl dX10_rate_42 rfl (r_in32 g _ v 1 9 rfl rfl) rfl rfl ⟨(Nat.le_of_ble_eq_true rfl), (Nat.le_of_ble_eq_true rfl)⟩ ⟨(Nat.le_of_ble_eq_true rfl), (Nat.le_of_ble_eq_true rfl)⟩ (Nat.le_of_ble_eq_true rfl) ?_ | refine zcx_X10_72 rfl dX10_rate_42 rfl (r_in32 g _ v 1 99 rfl rfl) rfl rfl ⟨(Nat.le_of_ble_eq_true rfl), (Nat.le_of_ble_eq_true rfl)⟩ ⟨(Nat.le_of_ble_eq_true rfl), (Nat.le_of_ble_eq_true rfl)⟩ (Nat.le_of_ble_eq_true rfl) ?_
          refine z_bif_ne (tgt := 50) dX10_rate_45 rfl (by decide) (fun c45 => ?_) (fun c45 => ?_)
          · skip
            first | refine z_aload_n dX10_rate_50 rfl rfl ?_ | refine z_aload_nN dX10_rate_50 rfl rfl ?_
            refine zmg_30 rfl dX10_rate_51 rfl ?_
            refine z_iload_n dX10_rate_54 rfl rfl ?_
            refine zm_iald dX10_rate_55 rfl rfl (in4 c9) ?_
            refine z_istore_n dX10_rate_56 rfl (Nat.le_of_ble_eq_true rfl) ?_
            first | refine z_aload_n dX10_rate_57 rfl rfl ?_ | refine z_aload_nN dX10_rate_57 rfl rfl ?_
            refine zmg_30 rfl dX10_rate_58 rfl ?_
            refine z_iload_n dX10_rate_61 rfl rfl ?_
            refine z_iload_n dX10_rate_62 rfl rfl ?_
            refine zm_iast dX10_rate_63 rfl rfl (in4 c9) ?_
            refine z_iload_n dX10_rate_64 rfl rfl ?_
            exact z_iret dX10_rate_65 rfl rfl (mPost_of (RepM_rate hR (rate_ok hR.2.1.2.2.1 c9 (by grind) (by grind))) (by rw [hR.2.1.2.1 _ (in_lt (in4 c9))]; grind [pRate])) (Nat.le_of_ble_eq_true rfl) (Nat.le_of_ble_eq_true rfl)
          · skip
            refine z_iconst (v := -1) dX10_rate_48 rfl (by decide) ?_
            exact z_iret dX10_rate_49 rfl rfl (mPost_of hR (by grind [pRate])) (Nat.le_of_ble_eq_true rfl) (Nat.le_of_ble_eq_true rfl)
      · skip
        refine z_lconst (v := 1) dX10_rate_24 rfl (by decide) ?_
        refine z_goto (tgt := 29) dX10_rate_25 rfl (by decide) ?_
        refine z_iload_n dX10_rate_29 rfl rfl ?_
        refine z_if_ne (tgt := 39) dX10_rate_30 rfl (by decide) (fun c30 => ?_) (fun c30 => ?_)
        · skip
          refine zk_X10_211 rfl dX10_rate_39 rfl ?_
          first | refine zcx_X10_72 rfl dX10_rate_42 rfl (r_in32 g _ v 0 9 rfl rfl) rfl rfl ⟨(Nat.le_of_ble_eq_true rfl), (Nat.le_of_ble_eq_true rfl)⟩ ⟨(Nat.le_of_ble_eq_true rfl), (Nat.le_of_ble_eq_true rfl)⟩ (Nat.le_of_ble_eq_true rfl) ?_ | refine zcx_X10_72 rfl dX10_rate_42 rfl (r_in32 g _ v 0 99 rfl rfl) rfl rfl ⟨(Nat.le_of_ble_eq_true rfl), (Nat.le_of_ble_eq_true rfl)⟩ ⟨(Nat.le_of_ble_eq_true rfl), (Nat.le_of_ble_eq_true rfl)⟩ (Nat.le_of_ble_eq_true rfl) ?_ | refine zcx_X10_72 rfl dX10_rate_42 rfl (r_in32 g _ v 1 9 rfl rfl) rfl rfl ⟨(Nat.le_of_ble_eq_true rfl), (Nat.le_of_ble_eq_true rfl)⟩ ⟨(Nat.le_of_ble_eq_true rfl), (Nat.le_of_ble_eq_true rfl)⟩ (Nat.le_of_ble_eq_true rfl) ?_ | refine zcx_X10_72 rfl dX10_rate_42 rfl (r_in32 g _ v 1 99 rfl rfl) rfl rfl ⟨(Nat.le_of_ble_eq_true rfl), (Nat.le_of_ble_eq_true rfl)⟩ ⟨(Nat.le_of_ble_eq_true rfl), (Nat.le_of_ble_eq_true rfl)⟩ (Nat.le_of_ble_eq_true rfl) ?_
          refine z_bif_ne (tgt := 50) dX10_rate_45 rfl (by decide) (fun c45 => ?_) (fun c45 => ?_)
          · skip
            first | refine z_aload_n dX10_rate_50 rfl rfl ?_ | refine z_aload_nN dX10_rate_50 rfl rfl ?_
            refine zmg_30 rfl dX10_rate_51 rfl ?_
            refine z_iload_n dX10_rate_54 rfl rfl ?_
            refine zm_iald dX10_rate_55 rfl rfl (in4 c9) ?_
            refine z_istore_n dX10_rate_56 rfl (Nat.le_of_ble_eq_true rfl) ?_
            first | refine z_aload_n dX10_rate_57 rfl rfl ?_ | refine z_aload_nN dX10_rate_57 rfl rfl ?_
            refine zmg_30 rfl dX10_rate_58 rfl ?_
            refine z_iload_n dX10_rate_61 rfl rfl ?_
            refine z_iload_n dX10_rate_62 rfl rfl ?_
            refine zm_iast dX10_rate_63 rfl rfl (in4 c9) ?_
            refine z_iload_n dX10_rate_64 rfl rfl ?_
            exact z_iret dX10_rate_65 rfl rfl (mPost_of (RepM_rate hR (rate_ok hR.2.1.2.2.1 c9 (by grind) (by grind))) (by rw [hR.2.1.2.1 _ (in_lt (in4 c9))]; grind [pRate])) (Nat.le_of_ble_eq_true rfl) (Nat.le_of_ble_eq_true rfl)
          · skip
            refine z_iconst (v := -1) dX10_rate_48 rfl (by decide) ?_
            exact z_iret dX10_rate_49 rfl rfl (mPost_of hR (by grind [pRate])) (Nat.le_of_ble_eq_true rfl) (Nat.le_of_ble_eq_true rfl)
        · skip
          refine zk_X10_209 rfl dX10_rate_33 rfl ?_
          refine z_goto (tgt := 42) dX10_rate_36 rfl (by decide) ?_
          first | refine zcx_X10_72 rfl dX10_rate_42 rfl (r_in32 g _ v 0 9 rfl rfl) rfl rfl ⟨(Nat.le_of_ble_eq_true rfl), (Nat.le_of_ble_eq_true rfl)⟩ ⟨(Nat.le_of_ble_eq_true rfl), (Nat.le_of_ble_eq_true rfl)⟩ (Nat.le_of_ble_eq_true rfl) ?_ | refine zcx_X10_72 rfl dX10_rate_42 rfl (r_in32 g _ v 0 99 rfl rfl) rfl rfl ⟨(Nat.le_of_ble_eq_true rfl), (Nat.le_of_ble_eq_true rfl)⟩ ⟨(Nat.le_of_ble_eq_true rfl), (Nat.le_of_ble_eq_true rfl)⟩ (Nat.le_of_ble_eq_true rfl) ?_ | refine zcx_X10_72 rfl dX10_rate_42 rfl (r_in32 g _ v 1 9 rfl rfl) rfl rfl ⟨(Nat.le_of_ble_eq_true rfl), (Nat.le_of_ble_eq_true rfl)⟩ ⟨(Nat.le_of_ble_eq_true rfl), (Nat.le_of_ble_eq_true rfl)⟩ (Nat.le_of_ble_eq_true rfl) ?_ | refine zcx_X10_72 rfl dX10_rate_42 rfl (r_in32 g _ v 1 99 rfl rfl) rfl rfl ⟨(Nat.le_of_ble_eq_true rfl), (Nat.le_of_ble_eq_true rfl)⟩ ⟨(Nat.le_of_ble_eq_true rfl), (Nat.le_of_ble_eq_true rfl)⟩ (Nat.le_of_ble_eq_true rfl) ?_
          refine z_bif_ne (tgt := 50) dX10_rate_45 rfl (by decide) (fun c45 => ?_) (fun c45 => ?_)
          · skip
            first | refine z_aload_n dX10_rate_50 rfl rfl ?_ | refine z_aload_nN dX10_rate_50 rfl rfl ?_
            refine zmg_30 rfl dX10_rate_51 rfl ?_
            refine z_iload_n dX10_rate_54 rfl rfl ?_
            refine zm_iald dX10_rate_55 rfl rfl (in4 c9) ?_
            refine z_istore_n dX10_rate_56 rfl (Nat.le_of_ble_eq_true rfl) ?_
            first | refine z_aload_n dX10_rate_57 rfl rfl ?_ | refine z_aload_nN dX10_rate_57 rfl rfl ?_
            refine zmg_30 rfl dX10_rate_58 rfl ?_
            refine z_iload_n dX10_rate_61 rfl rfl ?_
            refine z_iload_n dX10_rate_62 rfl rfl ?_
            refine zm_iast dX10_rate_63 rfl rfl (in4 c9) ?_
            refine z_iload_n dX10_rate_64 rfl rfl ?_
            exact z_iret dX10_rate_65 rfl rfl (mPost_of (RepM_rate hR (rate_ok hR.2.1.2.2.1 c9 (by grind) (by grind))) (by rw [hR.2.1.2.1 _ (in_lt (in4 c9))]; grind [pRate])) (Nat.le_of_ble_eq_true rfl) (Nat.le_of_ble_eq_true rfl)
          · skip
            refine z_iconst (v := -1) dX10_rate_48 rfl (by decide) ?_
            exact z_iret dX10_rate_49 rfl rfl (mPost_of hR (by grind [pRate])) (Nat.le_of_ble_eq_true rfl) (Nat.le_of_ble_eq_true rfl)

set_option maxHeartbeats 4000000 in
set_option maxRecDepth 100000 in
theorem R_like (g : zG) (h : zH) (m : Nat) (S : sMS) (w : sW) (hR : RepM S w) (a i b j : Int32) : zM g yX10_like cX10_like 6 (some .int) rmX10_like [.ref m, .int a, .int i, .int b, .int j] (mUp m S h) (mPost m h (pLike w a i b j)) := by
  refine zM_of (by decide) (Nat.le_of_ble_eq_true rfl) ?_
  refine z_iload_n dX10_like_0 rfl rfl ?_
  refine zcx_X10_141 rfl dX10_like_1 rfl (r_isRecord g _ _) rfl rfl ⟨(Nat.le_of_ble_eq_true rfl), (Nat.le_of_ble_eq_true rfl)⟩ ⟨(Nat.le_of_ble_eq_true rfl), (Nat.le_of_ble_eq_true rfl)⟩ (Nat.le_of_ble_eq_true rfl) ?_
  refine z_bif_eq (tgt := 14) dX10_like_4 rfl (by decide) (fun c4 => ?_) (fun c4 => ?_)
  · skip
    refine z_iconst (v := -1) dX10_like_14 rfl (by decide) ?_
    exact z_iret dX10_like_15 rfl rfl (mPost_of hR (by grind [pLike])) (Nat.le_of_ble_eq_true rfl) (Nat.le_of_ble_eq_true rfl)
  · skip
    refine z_iload_n dX10_like_7 rfl rfl ?_
    refine zcx_X10_141 rfl dX10_like_8 rfl (r_isRecord g _ _) rfl rfl ⟨(Nat.le_of_ble_eq_true rfl), (Nat.le_of_ble_eq_true rfl)⟩ ⟨(Nat.le_of_ble_eq_true rfl), (Nat.le_of_ble_eq_true rfl)⟩ (Nat.le_of_ble_eq_true rfl) ?_
    refine z_bif_ne (tgt := 16) dX10_like_11 rfl (by decide) (fun c11 => ?_) (fun c11 => ?_)
    · skip
      first | refine z_aload_n dX10_like_16 rfl rfl ?_ | refine z_aload_nN dX10_like_16 rfl rfl ?_
      refine z_iload_n dX10_like_17 rfl rfl ?_
      refine z_iload_n dX10_like_18 rfl rfl ?_
      refine z_i2l dX10_like_19 rfl ?_
      refine zcx_X10_155 rfl dX10_like_20 rfl mo_recv (q_cellFaultI g h m S w.1 hR.1 _ _ c4) rfl rfl ⟨(Nat.le_of_ble_eq_true rfl), (Nat.le_of_ble_eq_true rfl)⟩ ⟨(Nat.le_of_ble_eq_true rfl), (Nat.le_of_ble_eq_true rfl)⟩ (Nat.le_of_ble_eq_true rfl) ?_
      refine z_istore dX10_like_23 rfl (Nat.le_of_ble_eq_true rfl) ?_
      refine z_iload dX10_like_25 rfl rfl ?_
      refine z_if_le (tgt := 35) dX10_like_27 rfl (by decide) (fun c27 => ?_) (fun c27 => ?_)
      · skip
        first | refine z_aload_n dX10_like_35 rfl rfl ?_ | refine z_aload_nN dX10_like_35 rfl rfl ?_
        refine z_iload_n dX10_like_36 rfl rfl ?_
        refine z_iload dX10_like_37 rfl rfl ?_
        refine z_i2l dX10_like_39 rfl ?_
        refine zcx_X10_155 rfl dX10_like_40 rfl mo_recv (q_cellFaultI g h m S w.1 hR.1 _ _ c11) rfl rfl ⟨(Nat.le_of_ble_eq_true rfl), (Nat.le_of_ble_eq_true rfl)⟩ ⟨(Nat.le_of_ble_eq_true rfl), (Nat.le_of_ble_eq_true rfl)⟩ (Nat.le_of_ble_eq_true rfl) ?_
        refine z_istore dX10_like_43 rfl (Nat.le_of_ble_eq_true rfl) ?_
        refine z_iload dX10_like_45 rfl rfl ?_
        refine z_if_le (tgt := 58) dX10_like_47 rfl (by decide) (fun c47 => ?_) (fun c47 => ?_)
        · skip
          have c27 := le0 c27
          have hcf1 := cf_0 c27
          have h21 := rf_2 (rep_st hR.1 (ix_lt c4)) hcf1.1
          obtain ⟨hin1, hmc1, hok1, hlt1, k1, hk1, hke1, hrow1, hat1⟩ := rep_cell hR.1 (i := i) (ix_lt c4) h21 hcf1.2.1 hcf1.2.2
          have c47 := le0 c47
          have hcf2 := cf_0 c47
          have h22 := rf_2 (rep_st hR.1 (ix_lt c11)) hcf2.1
          obtain ⟨hin2, hmc2, hok2, hlt2, k2, hk2, hke2, hrow2, hat2⟩ := rep_cell hR.1 (i := j) (ix_lt c11) h22 hcf2.2.1 hcf2.2.2
          first | refine z_aload_n dX10_like_58 rfl rfl ?_ | refine z_aload_nN dX10_like_58 rfl rfl ?_
          first | refine z_aload_n dX10_like_59 rfl rfl ?_ | refine z_aload_nN dX10_like_59 rfl rfl ?_
          refine z_iload_n dX10_like_60 rfl rfl ?_
          refine z_iload_n dX10_like_61 rfl rfl ?_
          refine zcx_X10_135 rfl dX10_like_62 rfl mo_recv (r_cellAt g h m S _ _ (rec_in (by assumption))) rfl rfl ⟨(Nat.le_of_ble_eq_true rfl), (Nat.le_of_ble_eq_true rfl)⟩ ⟨(Nat.le_of_ble_eq_true rfl), (Nat.le_of_ble_eq_true rfl)⟩ (Nat.le_of_ble_eq_true rfl) ?_
          first | refine z_aload_n dX10_like_65 rfl rfl ?_ | refine z_aload_nN dX10_like_65 rfl rfl ?_
          refine z_iload_n dX10_like_66 rfl rfl ?_
          refine z_iload dX10_like_67 rfl rfl ?_
          refine zcx_X10_135 rfl dX10_like_69 rfl mo_recv (r_cellAt g h m S _ _ (rec_in (by assumption))) rfl rfl ⟨(Nat.le_of_ble_eq_true rfl), (Nat.le_of_ble_eq_true rfl)⟩ ⟨(Nat.le_of_ble_eq_true rfl), (Nat.le_of_ble_eq_true rfl)⟩ (Nat.le_of_ble_eq_true rfl) ?_
          refine zcx_X10_213 rfl dX10_like_72 rfl mo_recv (r_likeness g h m S _ _ hin1 hin2 (by rw [hmc1]; exact hok1) (by rw [hmc2]; exact hok2)) rfl rfl ⟨(Nat.le_of_ble_eq_true rfl), (Nat.le_of_ble_eq_true rfl)⟩ ⟨(Nat.le_of_ble_eq_true rfl), (Nat.le_of_ble_eq_true rfl)⟩ (Nat.le_of_ble_eq_true rfl) ?_
          try rw [hmc1, hmc2, hR.2.1.2.1 0 (by decide)]
          exact z_iret dX10_like_75 rfl rfl (mPost_of hR (by grind [pLike])) (Nat.le_of_ble_eq_true rfl) (Nat.le_of_ble_eq_true rfl)
        · skip
          refine z_bipush (v := -10) dX10_like_50 rfl (by decide) ?_
          refine z_iload dX10_like_52 rfl rfl ?_
          refine z_isub dX10_like_54 rfl ?_
          refine z_goto (tgt := 75) dX10_like_55 rfl (by decide) ?_
          try rw [hmc1, hmc2, hR.2.1.2.1 0 (by decide)]
          exact z_iret dX10_like_75 rfl rfl (mPost_of hR (by grind [pLike])) (Nat.le_of_ble_eq_true rfl) (Nat.le_of_ble_eq_true rfl)
      · skip
        refine z_iload dX10_like_30 rfl rfl ?_
        refine z_goto (tgt := 43) dX10_like_32 rfl (by decide) ?_
        refine z_istore dX10_like_43 rfl (Nat.le_of_ble_eq_true rfl) ?_
        refine z_iload dX10_like_45 rfl rfl ?_
        refine z_if_le (tgt := 58) dX10_like_47 rfl (by decide) (fun c47 => absurd c47 c27) (fun c47 => ?_)
        refine z_bipush (v := -10) dX10_like_50 rfl (by decide) ?_
        refine z_iload dX10_like_52 rfl rfl ?_
        refine z_isub dX10_like_54 rfl ?_
        refine z_goto (tgt := 75) dX10_like_55 rfl (by decide) ?_
        exact z_iret dX10_like_75 rfl rfl (mPost_of hR (by grind [pLike])) (Nat.le_of_ble_eq_true rfl) (Nat.le_of_ble_eq_true rfl)
    · skip
      refine z_iconst (v := -1) dX10_like_14 rfl (by decide) ?_
      exact z_iret dX10_like_15 rfl rfl (mPost_of hR (by grind [pLike])) (Nat.le_of_ble_eq_true rfl) (Nat.le_of_ble_eq_true rfl)

