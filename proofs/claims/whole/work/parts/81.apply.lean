/-- an application at a: patch, source, cells made (behind it), taken, added, fault -/
def aOb (a pa so n M : Nat) (fl : Int32) : zOb := .inr (1, [.ref pa, .ref so, .ref (a + 1), .int (nI n), .int (nI M), .int fl])
def aUp (a pa so n M : Nat) (fl : Int32) (h : zH) : zH := (h.1, va_up h.2 a (some (aOb a pa so n M fl)))
theorem aUp_o {a pa so n M : Nat} {fl : Int32} {h : zH} : (aUp a pa so n M fl h).2 a = some (aOb a pa so n M fl) := vu_s
theorem aUp_out {a pa so n M : Nat} {fl : Int32} {h : zH} {q : Nat} (hq : q ≠ a) : (aUp a pa so n M fl h).2 q = h.2 q := vu_n hq
theorem aUp_a {a pa so n M n' M' : Nat} {fl fl' : Int32} {h : zH} : ((aUp a pa so n M fl h).1, va_up (aUp a pa so n M fl h).2 a (some (aOb a pa so n' M' fl'))) = aUp a pa so n' M' fl' h := vu_vu _ _ _ _ _
theorem aUp_cU {a pa so n M : Nat} {fl : Int32} {k : Int32} {n1 : Nat} {c c' : Nat → sC} {X : zH} : cUp (a + 1) k n1 c' (aUp a pa so n M fl (cUp (a + 1) k n1 c X)) = aUp a pa so n M fl (cUp (a + 1) k n1 c' X) := by
  refine Prod.ext rfl (funext fun q => ?_)
  simp only [cUp, aUp, va_up]
  by_cases e : a + 1 ≤ q ∧ q < a + 1 + 4
  · rw [if_pos e, if_neg (by omega), if_pos e]
  · simp only [if_neg e]
theorem apC_ok {A : sA} (oA : aOk A) {f : Nat → Int32} {co cn : Nat → sC} {k n : Nat} {t : sAct} (ht : actOk f co cn k t) (h0 : apF A t n = 0) : ∀ c, c ∈ apC A t n → sOk c ∧ sInto c.1 A.1 = true := by
  intro c hc
  have hx := ht.2.1
  have hy := ht.2.2.1
  unfold apC at hc
  unfold apF at h0
  by_cases e2 : t.1 = 2
  · rw [if_pos e2] at hc; cases hc
  rw [if_neg e2] at hc
  by_cases e0 : t.1 = 0
  · rw [if_pos e0] at hc
    obtain rfl := List.mem_singleton.mp hc
    have hn : n < A.2.length := by
      rcases Nat.lt_or_ge n A.2.length with z | z
      · exact z
      · rw [if_pos ⟨by rw [e0]; decide, z⟩] at h0; exact absurd h0 (by decide)
    have := oA.2.2.2 (A.2.getD n z0) (by rw [List.getD_eq_getElem?_getD, List.getElem?_eq_getElem hn]; exact List.getElem_mem hn)
    exact ⟨this.1, into_fit this.2 ⟨oA.1, oA.2.1⟩⟩
  · rw [if_neg e0] at hc
    obtain rfl := List.mem_singleton.mp hc
    have e13 : t.1 = 1 ∨ t.1 = 3 := by grind
    cases q : t.2.2 with
    | none => exact absurd (ht.2.2.2.2.1.mp q) e2
    | some d =>
      have hs : sInto (oC (some d)).1 A.1 = true := by
        rw [q] at h0
        grind
      exact ⟨(ht.2.2.2.2.2.2 d q).2, hs⟩

abbrev YX1_faultOf : zY := (yX1_faultOf.cls, cX1_faultOf, 4, (some .int), rmX1_faultOf, yX1_faultOf.name, fun _ _ => True)
abbrev YX1_perform : zY := (yX1_perform.cls, cX1_perform, 3, none, rmX1_perform, yX1_perform.name, fun _ _ => True)
abbrev YX1_run : zY := (yX1_run.cls, cX1_run, 2, (some .int), rmX1_run, yX1_run.name, fun _ _ => True)
set_option maxHeartbeats 800000 in
set_option maxRecDepth 100000 in
theorem m_faultOf (g : zG) (h : zH) (a pa so o v n M : Nat) (fl : Int32) (hA : h.2 a = some (aOb a pa so n M fl)) (N : Nat) (f : Nat → Int32) (co cn : Nat → sC) (hP : paAt h pa o v N f co cn) (hN : N ≤ 40) (A : sA) (cs : Nat → sC) (oA : aOk A) (hs : cAt h so A.1 A.2.length cs) (hsl : ∀ i, i < A.2.length → cs i = A.2.getD i z0) (i : Nat) (hi : i < N) (t : sAct) (ht : actOk f co cn i t) (hn : n ≤ 40) : zX g yX1_faultOf cX1_faultOf 4 (some .int) rmX1_faultOf [.ref a, .int (nI i)] h (.int (apF A t n)) h := by
  refine zM_of (by decide) (Nat.le_of_ble_eq_true rfl) ?_
  have la : A.2.length ≤ 20 := oA.2.2.1
  have hx4 : t.1 = 0 ∨ t.1 = 1 ∨ t.1 = 2 ∨ t.1 = 3 := by have := ht.2.1; have := ht.2.2.1; grind
  rcases hx4 with e1 | e1 | e1 | e1
  · skip
    first | refine z_aload_n dX1_faultOf_0 rfl rfl ?_ | refine z_aload_nN dX1_faultOf_0 rfl rfl ?_
    refine zg_X1_9 rfl dX1_faultOf_1 rfl hA rfl ?_
    refine zg_X1_54 rfl dX1_faultOf_4 rfl hP.1 rfl ?_
    refine z_iload_n dX1_faultOf_7 rfl rfl ?_
    refine z_iald dX1_faultOf_8 rfl hP.2.1 (vp_in_nI (by omega) (by omega)) ?_
    rw [nI_clamp (show i < 2 ^ 31 by omega), ht.1, e1]
    refine z_istore_n dX1_faultOf_9 rfl (Nat.le_of_ble_eq_true rfl) ?_
    refine z_iload_n dX1_faultOf_10 rfl rfl ?_
    refine z_iconst (v := 3) dX1_faultOf_11 rfl (by decide) ?_
    refine z_icmp_eq (tgt := 31) dX1_faultOf_12 rfl (by decide) (fun c12 => absurd c12 (by decide)) (fun c12 => ?_)
    first | refine z_aload_n dX1_faultOf_15 rfl rfl ?_ | refine z_aload_nN dX1_faultOf_15 rfl rfl ?_
    refine zg_X1_50 rfl dX1_faultOf_16 rfl hA rfl ?_
    first | refine z_aload_n dX1_faultOf_19 rfl rfl ?_ | refine z_aload_nN dX1_faultOf_19 rfl rfl ?_
    refine zg_X1_15 rfl dX1_faultOf_20 rfl hA rfl ?_
    refine zg_X1_53 rfl dX1_faultOf_23 rfl hs.1 rfl ?_
    refine z_icmp_lt (tgt := 31) dX1_faultOf_26 rfl (by decide) (fun c26 => ?_) (fun c26 => ?_)
    · skip
      have hlt : n < A.2.length := Nat.lt_of_not_le (fun z => absurd c26 (nI_nlt z (by omega)))
      refine z_iload_n dX1_faultOf_31 rfl rfl ?_
      refine z_iconst (v := 1) dX1_faultOf_32 rfl (by decide) ?_
      refine z_icmp_eq (tgt := 41) dX1_faultOf_33 rfl (by decide) (fun c33 => absurd c33 (by decide)) (fun c33 => ?_)
      refine z_iload_n dX1_faultOf_36 rfl rfl ?_
      refine z_iconst (v := 2) dX1_faultOf_37 rfl (by decide) ?_
      refine z_icmp_ne (tgt := 66) dX1_faultOf_38 rfl (by decide) (fun c38 => ?_) (fun c38 => absurd c38 (by decide))
      refine z_iload_n dX1_faultOf_66 rfl rfl ?_
      refine z_iconst (v := 1) dX1_faultOf_67 rfl (by decide) ?_
      refine z_icmp_eq (tgt := 76) dX1_faultOf_68 rfl (by decide) (fun c68 => absurd c68 (by decide)) (fun c68 => ?_)
      refine z_iload_n dX1_faultOf_71 rfl rfl ?_
      refine z_iconst (v := 3) dX1_faultOf_72 rfl (by decide) ?_
      refine z_icmp_ne (tgt := 80) dX1_faultOf_73 rfl (by decide) (fun c73 => ?_) (fun c73 => absurd c73 (by decide))
      refine z_iconst (v := 0) dX1_faultOf_80 rfl (by decide) ?_
      refine z_istore_n dX1_faultOf_81 rfl (Nat.le_of_ble_eq_true rfl) ?_
      refine z_iload_n dX1_faultOf_82 rfl rfl ?_
      refine z_if_eq (tgt := 115) dX1_faultOf_83 rfl (by decide) (fun c83 => ?_) (fun c83 => absurd c83 (fun z => z rfl))
      refine z_iconst (v := 0) dX1_faultOf_115 rfl (by decide) ?_
      exact z_iret dX1_faultOf_116 rfl rfl ⟨by first | rw [show apF A t n = 0 from by unfold apF; grind [oC]] | rw [show apF A t n = 5 from by unfold apF; grind [oC]], rfl⟩ (Nat.le_of_ble_eq_true rfl) (Nat.le_of_ble_eq_true rfl)
    · skip
      refine z_iconst (v := 3) dX1_faultOf_29 rfl (by decide) ?_
      exact z_iret dX1_faultOf_30 rfl rfl ⟨by have hle : A.2.length ≤ n := Nat.le_of_not_lt (fun z => c26 (nI_lt z (by omega))); rw [show apF A t n = 3 from by unfold apF; grind], rfl⟩ (Nat.le_of_ble_eq_true rfl) (Nat.le_of_ble_eq_true rfl)
  · skip
    obtain ⟨cO, eO⟩ : ∃ c, t.2.1 = some c := by
      cases q : t.2.1 with
      | none => exact absurd (ht.2.2.2.1.mp q) (by rw [e1]; decide)
      | some c => exact ⟨c, rfl⟩
    have hO := ht.2.2.2.2.2.1 cO eO
    obtain ⟨cN, eN⟩ : ∃ c, t.2.2 = some c := by
      cases q : t.2.2 with
      | none => exact absurd (ht.2.2.2.2.1.mp q) (by rw [e1]; decide)
      | some c => exact ⟨c, rfl⟩
    have hN2 := ht.2.2.2.2.2.2 cN eN
    first | refine z_aload_n dX1_faultOf_0 rfl rfl ?_ | refine z_aload_nN dX1_faultOf_0 rfl rfl ?_
    refine zg_X1_9 rfl dX1_faultOf_1 rfl hA rfl ?_
    refine zg_X1_54 rfl dX1_faultOf_4 rfl hP.1 rfl ?_
    refine z_iload_n dX1_faultOf_7 rfl rfl ?_
    refine z_iald dX1_faultOf_8 rfl hP.2.1 (vp_in_nI (by omega) (by omega)) ?_
    rw [nI_clamp (show i < 2 ^ 31 by omega), ht.1, e1]
    refine z_istore_n dX1_faultOf_9 rfl (Nat.le_of_ble_eq_true rfl) ?_
    refine z_iload_n dX1_faultOf_10 rfl rfl ?_
    refine z_iconst (v := 3) dX1_faultOf_11 rfl (by decide) ?_
    refine z_icmp_eq (tgt := 31) dX1_faultOf_12 rfl (by decide) (fun c12 => absurd c12 (by decide)) (fun c12 => ?_)
    first | refine z_aload_n dX1_faultOf_15 rfl rfl ?_ | refine z_aload_nN dX1_faultOf_15 rfl rfl ?_
    refine zg_X1_50 rfl dX1_faultOf_16 rfl hA rfl ?_
    first | refine z_aload_n dX1_faultOf_19 rfl rfl ?_ | refine z_aload_nN dX1_faultOf_19 rfl rfl ?_
    refine zg_X1_15 rfl dX1_faultOf_20 rfl hA rfl ?_
    refine zg_X1_53 rfl dX1_faultOf_23 rfl hs.1 rfl ?_
    refine z_icmp_lt (tgt := 31) dX1_faultOf_26 rfl (by decide) (fun c26 => ?_) (fun c26 => ?_)
    · skip
      have hlt : n < A.2.length := Nat.lt_of_not_le (fun z => absurd c26 (nI_nlt z (by omega)))
      refine z_iload_n dX1_faultOf_31 rfl rfl ?_
      refine z_iconst (v := 1) dX1_faultOf_32 rfl (by decide) ?_
      refine z_icmp_eq (tgt := 41) dX1_faultOf_33 rfl (by decide) (fun c33 => ?_) (fun c33 => absurd c33 (fun z => z rfl))
      first | refine z_aload_n dX1_faultOf_41 rfl rfl ?_ | refine z_aload_nN dX1_faultOf_41 rfl rfl ?_
      refine zg_X1_15 rfl dX1_faultOf_42 rfl hA rfl ?_
      first | refine z_aload_n dX1_faultOf_45 rfl rfl ?_ | refine z_aload_nN dX1_faultOf_45 rfl rfl ?_
      refine zg_X1_50 rfl dX1_faultOf_46 rfl hA rfl ?_
      first | refine z_aload_n dX1_faultOf_49 rfl rfl ?_ | refine z_aload_nN dX1_faultOf_49 rfl rfl ?_
      refine zg_X1_9 rfl dX1_faultOf_50 rfl hA rfl ?_
      refine zg_X1_58 rfl dX1_faultOf_53 rfl hP.1 rfl ?_
      refine z_iload_n dX1_faultOf_56 rfl rfl ?_
      refine zcx_X1_61 rfl dX1_faultOf_57 rfl (m_isAlike g h so _ _ cs hs (by omega) n hlt o _ _ co hP.2.2.1 (by omega) i hi (cl_ok (h := h) (a := so) oA hsl hlt).1 (by rw [hO.1]; exact hO.2)) rfl rfl ⟨(Nat.le_of_ble_eq_true rfl), (Nat.le_of_ble_eq_true rfl)⟩ ⟨(Nat.le_of_ble_eq_true rfl), (Nat.le_of_ble_eq_true rfl)⟩ (Nat.le_of_ble_eq_true rfl) ?_
      rw [hsl n hlt, hO.1]
      refine z_bif_ne (tgt := 66) dX1_faultOf_60 rfl (by decide) (fun c60 => ?_) (fun c60 => ?_)
      · skip
        refine z_iload_n dX1_faultOf_66 rfl rfl ?_
        refine z_iconst (v := 1) dX1_faultOf_67 rfl (by decide) ?_
        refine z_icmp_eq (tgt := 76) dX1_faultOf_68 rfl (by decide) (fun c68 => ?_) (fun c68 => absurd c68 (fun z => z rfl))
        refine z_iconst (v := 1) dX1_faultOf_76 rfl (by decide) ?_
        refine z_goto (tgt := 81) dX1_faultOf_77 rfl (by decide) ?_
        refine z_istore_n dX1_faultOf_81 rfl (Nat.le_of_ble_eq_true rfl) ?_
        refine z_iload_n dX1_faultOf_82 rfl rfl ?_
        refine z_if_eq (tgt := 115) dX1_faultOf_83 rfl (by decide) (fun c83 => absurd c83 (by decide)) (fun c83 => ?_)
        first | refine z_aload_n dX1_faultOf_86 rfl rfl ?_ | refine z_aload_nN dX1_faultOf_86 rfl rfl ?_
        refine zg_X1_9 rfl dX1_faultOf_87 rfl hA rfl ?_
        refine zg_X1_67 rfl dX1_faultOf_90 rfl hP.1 rfl ?_
        refine zg_X1_70 rfl dX1_faultOf_93 rfl hP.2.2.2.1 rfl ?_
        refine z_iload_n dX1_faultOf_96 rfl rfl ?_
        refine z_iald dX1_faultOf_97 rfl hP.2.2.2.2.1 (vp_in_nI (by omega) (by omega)) ?_
        rw [nI_clamp (show i < 2 ^ 31 by omega), hN2.1]
        first | refine z_aload_n dX1_faultOf_98 rfl rfl ?_ | refine z_aload_nN dX1_faultOf_98 rfl rfl ?_
        refine zg_X1_15 rfl dX1_faultOf_99 rfl hA rfl ?_
        refine zg_X1_21 rfl dX1_faultOf_102 rfl hs.1 rfl ?_
        refine zcx_X1_73 rfl dX1_faultOf_105 rfl (m_fits g h _ _ ⟨hN2.2.1, hN2.2.2.1⟩ ⟨oA.1, oA.2.1⟩) rfl rfl ⟨(Nat.le_of_ble_eq_true rfl), (Nat.le_of_ble_eq_true rfl)⟩ ⟨(Nat.le_of_ble_eq_true rfl), (Nat.le_of_ble_eq_true rfl)⟩ (Nat.le_of_ble_eq_true rfl) ?_
        refine z_bif_ne (tgt := 115) dX1_faultOf_108 rfl (by decide) (fun c108 => ?_) (fun c108 => ?_)
        · skip
          refine z_iconst (v := 0) dX1_faultOf_115 rfl (by decide) ?_
          exact z_iret dX1_faultOf_116 rfl rfl ⟨by first | rw [show apF A t n = 0 from by unfold apF; grind [oC]] | rw [show apF A t n = 5 from by unfold apF; grind [oC]], rfl⟩ (Nat.le_of_ble_eq_true rfl) (Nat.le_of_ble_eq_true rfl)
        · skip
          refine z_iconst (v := 5) dX1_faultOf_111 rfl (by decide) ?_
          refine z_goto (tgt := 116) dX1_faultOf_112 rfl (by decide) ?_
          exact z_iret dX1_faultOf_116 rfl rfl ⟨by first | rw [show apF A t n = 0 from by unfold apF; grind [oC]] | rw [show apF A t n = 5 from by unfold apF; grind [oC]], rfl⟩ (Nat.le_of_ble_eq_true rfl) (Nat.le_of_ble_eq_true rfl)
      · skip
        refine z_bipush (v := 7) dX1_faultOf_63 rfl (by decide) ?_
        exact z_iret dX1_faultOf_65 rfl rfl ⟨by rw [show apF A t n = 7 from by unfold apF; grind [oC]], rfl⟩ (Nat.le_of_ble_eq_true rfl) (Nat.le_of_ble_eq_true rfl)
    · skip
      refine z_iconst (v := 3) dX1_faultOf_29 rfl (by decide) ?_
      exact z_iret dX1_faultOf_30 rfl rfl ⟨by have hle : A.2.length ≤ n := Nat.le_of_not_lt (fun z => c26 (nI_lt z (by omega))); rw [show apF A t n = 3 from by unfold apF; grind], rfl⟩ (Nat.le_of_ble_eq_true rfl) (Nat.le_of_ble_eq_true rfl)
  · skip
    obtain ⟨cO, eO⟩ : ∃ c, t.2.1 = some c := by
      cases q : t.2.1 with
      | none => exact absurd (ht.2.2.2.1.mp q) (by rw [e1]; decide)
      | some c => exact ⟨c, rfl⟩
    have hO := ht.2.2.2.2.2.1 cO eO
    first | refine z_aload_n dX1_faultOf_0 rfl rfl ?_ | refine z_aload_nN dX1_faultOf_0 rfl rfl ?_
    refine zg_X1_9 rfl dX1_faultOf_1 rfl hA rfl ?_
    refine zg_X1_54 rfl dX1_faultOf_4 rfl hP.1 rfl ?_
    refine z_iload_n dX1_faultOf_7 rfl rfl ?_
    refine z_iald dX1_faultOf_8 rfl hP.2.1 (vp_in_nI (by omega) (by omega)) ?_
    rw [nI_clamp (show i < 2 ^ 31 by omega), ht.1, e1]
    refine z_istore_n dX1_faultOf_9 rfl (Nat.le_of_ble_eq_true rfl) ?_
    refine z_iload_n dX1_faultOf_10 rfl rfl ?_
    refine z_iconst (v := 3) dX1_faultOf_11 rfl (by decide) ?_
    refine z_icmp_eq (tgt := 31) dX1_faultOf_12 rfl (by decide) (fun c12 => absurd c12 (by decide)) (fun c12 => ?_)
    first | refine z_aload_n dX1_faultOf_15 rfl rfl ?_ | refine z_aload_nN dX1_faultOf_15 rfl rfl ?_
    refine zg_X1_50 rfl dX1_faultOf_16 rfl hA rfl ?_
    first | refine z_aload_n dX1_faultOf_19 rfl rfl ?_ | refine z_aload_nN dX1_faultOf_19 rfl rfl ?_
    refine zg_X1_15 rfl dX1_faultOf_20 rfl hA rfl ?_
    refine zg_X1_53 rfl dX1_faultOf_23 rfl hs.1 rfl ?_
    refine z_icmp_lt (tgt := 31) dX1_faultOf_26 rfl (by decide) (fun c26 => ?_) (fun c26 => ?_)
    · skip
      have hlt : n < A.2.length := Nat.lt_of_not_le (fun z => absurd c26 (nI_nlt z (by omega)))
      refine z_iload_n dX1_faultOf_31 rfl rfl ?_
      refine z_iconst (v := 1) dX1_faultOf_32 rfl (by decide) ?_
      refine z_icmp_eq (tgt := 41) dX1_faultOf_33 rfl (by decide) (fun c33 => absurd c33 (by decide)) (fun c33 => ?_)
      refine z_iload_n dX1_faultOf_36 rfl rfl ?_
      refine z_iconst (v := 2) dX1_faultOf_37 rfl (by decide) ?_
      refine z_icmp_ne (tgt := 66) dX1_faultOf_38 rfl (by decide) (fun c38 => absurd c38 (fun z => z rfl)) (fun c38 => ?_)
      first | refine z_aload_n dX1_faultOf_41 rfl rfl ?_ | refine z_aload_nN dX1_faultOf_41 rfl rfl ?_
      refine zg_X1_15 rfl dX1_faultOf_42 rfl hA rfl ?_
      first | refine z_aload_n dX1_faultOf_45 rfl rfl ?_ | refine z_aload_nN dX1_faultOf_45 rfl rfl ?_
      refine zg_X1_50 rfl dX1_faultOf_46 rfl hA rfl ?_
      first | refine z_aload_n dX1_faultOf_49 rfl rfl ?_ | refine z_aload_nN dX1_faultOf_49 rfl rfl ?_
      refine zg_X1_9 rfl dX1_faultOf_50 rfl hA rfl ?_
      refine zg_X1_58 rfl dX1_faultOf_53 rfl hP.1 rfl ?_
      refine z_iload_n dX1_faultOf_56 rfl rfl ?_
      refine zcx_X1_61 rfl dX1_faultOf_57 rfl (m_isAlike g h so _ _ cs hs (by omega) n hlt o _ _ co hP.2.2.1 (by omega) i hi (cl_ok (h := h) (a := so) oA hsl hlt).1 (by rw [hO.1]; exact hO.2)) rfl rfl ⟨(Nat.le_of_ble_eq_true rfl), (Nat.le_of_ble_eq_true rfl)⟩ ⟨(Nat.le_of_ble_eq_true rfl), (Nat.le_of_ble_eq_true rfl)⟩ (Nat.le_of_ble_eq_true rfl) ?_
      rw [hsl n hlt, hO.1]
      refine z_bif_ne (tgt := 66) dX1_faultOf_60 rfl (by decide) (fun c60 => ?_) (fun c60 => ?_)
      · skip
        refine z_iload_n dX1_faultOf_66 rfl rfl ?_
        refine z_iconst (v := 1) dX1_faultOf_67 rfl (by decide) ?_
        refine z_icmp_eq (tgt := 76) dX1_faultOf_68 rfl (by decide) (fun c68 => absurd c68 (by decide)) (fun c68 => ?_)
        refine z_iload_n dX1_faultOf_71 rfl rfl ?_
        refine z_iconst (v := 3) dX1_faultOf_72 rfl (by decide) ?_
        refine z_icmp_ne (tgt := 80) dX1_faultOf_73 rfl (by decide) (fun c73 => ?_) (fun c73 => absurd c73 (by decide))
        refine z_iconst (v := 0) dX1_faultOf_80 rfl (by decide) ?_
        refine z_istore_n dX1_faultOf_81 rfl (Nat.le_of_ble_eq_true rfl) ?_
        refine z_iload_n dX1_faultOf_82 rfl rfl ?_
        refine z_if_eq (tgt := 115) dX1_faultOf_83 rfl (by decide) (fun c83 => ?_) (fun c83 => absurd c83 (fun z => z rfl))
        refine z_iconst (v := 0) dX1_faultOf_115 rfl (by decide) ?_
        exact z_iret dX1_faultOf_116 rfl rfl ⟨by first | rw [show apF A t n = 0 from by unfold apF; grind [oC]] | rw [show apF A t n = 5 from by unfold apF; grind [oC]], rfl⟩ (Nat.le_of_ble_eq_true rfl) (Nat.le_of_ble_eq_true rfl)
      · skip
        refine z_bipush (v := 7) dX1_faultOf_63 rfl (by decide) ?_
        exact z_iret dX1_faultOf_65 rfl rfl ⟨by rw [show apF A t n = 7 from by unfold apF; grind [oC]], rfl⟩ (Nat.le_of_ble_eq_true rfl) (Nat.le_of_ble_eq_true rfl)
    · skip
      refine z_iconst (v := 3) dX1_faultOf_29 rfl (by decide) ?_
      exact z_iret dX1_faultOf_30 rfl rfl ⟨by have hle : A.2.length ≤ n := Nat.le_of_not_lt (fun z => c26 (nI_lt z (by omega))); rw [show apF A t n = 3 from by unfold apF; grind], rfl⟩ (Nat.le_of_ble_eq_true rfl) (Nat.le_of_ble_eq_true rfl)
  · skip
    obtain ⟨cN, eN⟩ : ∃ c, t.2.2 = some c := by
      cases q : t.2.2 with
      | none => exact absurd (ht.2.2.2.2.1.mp q) (by rw [e1]; decide)
      | some c => exact ⟨c, rfl⟩
    have hN2 := ht.2.2.2.2.2.2 cN eN
    first | refine z_aload_n dX1_faultOf_0 rfl rfl ?_ | refine z_aload_nN dX1_faultOf_0 rfl rfl ?_
    refine zg_X1_9 rfl dX1_faultOf_1 rfl hA rfl ?_
    refine zg_X1_54 rfl dX1_faultOf_4 rfl hP.1 rfl ?_
    refine z_iload_n dX1_faultOf_7 rfl rfl ?_
    refine z_iald dX1_faultOf_8 rfl hP.2.1 (vp_in_nI (by omega) (by omega)) ?_
    rw [nI_clamp (show i < 2 ^ 31 by omega), ht.1, e1]
    refine z_istore_n dX1_faultOf_9 rfl (Nat.le_of_ble_eq_true rfl) ?_
    refine z_iload_n dX1_faultOf_10 rfl rfl ?_
    refine z_iconst (v := 3) dX1_faultOf_11 rfl (by decide) ?_
    refine z_icmp_eq (tgt := 31) dX1_faultOf_12 rfl (by decide) (fun c12 => ?_) (fun c12 => absurd c12 (fun z => z rfl))
    refine z_iload_n dX1_faultOf_31 rfl rfl ?_
    refine z_iconst (v := 1) dX1_faultOf_32 rfl (by decide) ?_
    refine z_icmp_eq (tgt := 41) dX1_faultOf_33 rfl (by decide) (fun c33 => absurd c33 (by decide)) (fun c33 => ?_)
    refine z_iload_n dX1_faultOf_36 rfl rfl ?_
    refine z_iconst (v := 2) dX1_faultOf_37 rfl (by decide) ?_
    refine z_icmp_ne (tgt := 66) dX1_faultOf_38 rfl (by decide) (fun c38 => ?_) (fun c38 => absurd c38 (by decide))
    refine z_iload_n dX1_faultOf_66 rfl rfl ?_
    refine z_iconst (v := 1) dX1_faultOf_67 rfl (by decide) ?_
    refine z_icmp_eq (tgt := 76) dX1_faultOf_68 rfl (by decide) (fun c68 => absurd c68 (by decide)) (fun c68 => ?_)
    refine z_iload_n dX1_faultOf_71 rfl rfl ?_
    refine z_iconst (v := 3) dX1_faultOf_72 rfl (by decide) ?_
    refine z_icmp_ne (tgt := 80) dX1_faultOf_73 rfl (by decide) (fun c73 => absurd c73 (fun z => z rfl)) (fun c73 => ?_)
    refine z_iconst (v := 1) dX1_faultOf_76 rfl (by decide) ?_
    refine z_goto (tgt := 81) dX1_faultOf_77 rfl (by decide) ?_
    refine z_istore_n dX1_faultOf_81 rfl (Nat.le_of_ble_eq_true rfl) ?_
    refine z_iload_n dX1_faultOf_82 rfl rfl ?_
    refine z_if_eq (tgt := 115) dX1_faultOf_83 rfl (by decide) (fun c83 => absurd c83 (by decide)) (fun c83 => ?_)
    first | refine z_aload_n dX1_faultOf_86 rfl rfl ?_ | refine z_aload_nN dX1_faultOf_86 rfl rfl ?_
    refine zg_X1_9 rfl dX1_faultOf_87 rfl hA rfl ?_
    refine zg_X1_67 rfl dX1_faultOf_90 rfl hP.1 rfl ?_
    refine zg_X1_70 rfl dX1_faultOf_93 rfl hP.2.2.2.1 rfl ?_
    refine z_iload_n dX1_faultOf_96 rfl rfl ?_
    refine z_iald dX1_faultOf_97 rfl hP.2.2.2.2.1 (vp_in_nI (by omega) (by omega)) ?_
    rw [nI_clamp (show i < 2 ^ 31 by omega), hN2.1]
    first | refine z_aload_n dX1_faultOf_98 rfl rfl ?_ | refine z_aload_nN dX1_faultOf_98 rfl rfl ?_
    refine zg_X1_15 rfl dX1_faultOf_99 rfl hA rfl ?_
    refine zg_X1_21 rfl dX1_faultOf_102 rfl hs.1 rfl ?_
    refine zcx_X1_73 rfl dX1_faultOf_105 rfl (m_fits g h _ _ ⟨hN2.2.1, hN2.2.2.1⟩ ⟨oA.1, oA.2.1⟩) rfl rfl ⟨(Nat.le_of_ble_eq_true rfl), (Nat.le_of_ble_eq_true rfl)⟩ ⟨(Nat.le_of_ble_eq_true rfl), (Nat.le_of_ble_eq_true rfl)⟩ (Nat.le_of_ble_eq_true rfl) ?_
    refine z_bif_ne (tgt := 115) dX1_faultOf_108 rfl (by decide) (fun c108 => ?_) (fun c108 => ?_)
    · skip
      refine z_iconst (v := 0) dX1_faultOf_115 rfl (by decide) ?_
      exact z_iret dX1_faultOf_116 rfl rfl ⟨by first | rw [show apF A t n = 0 from by unfold apF; grind [oC]] | rw [show apF A t n = 5 from by unfold apF; grind [oC]], rfl⟩ (Nat.le_of_ble_eq_true rfl) (Nat.le_of_ble_eq_true rfl)
    · skip
      refine z_iconst (v := 5) dX1_faultOf_111 rfl (by decide) ?_
      refine z_goto (tgt := 116) dX1_faultOf_112 rfl (by decide) ?_
      exact z_iret dX1_faultOf_116 rfl rfl ⟨by first | rw [show apF A t n = 0 from by unfold apF; grind [oC]] | rw [show apF A t n = 5 from by unfold apF; grind [oC]], rfl⟩ (Nat.le_of_ble_eq_true rfl) (Nat.le_of_ble_eq_true rfl)

set_option maxHeartbeats 800000 in
set_option maxRecDepth 100000 in
theorem m_perform (g : zG) (h : zH) (pa so o v : Nat) (L : List sAct) (f : Nat → Int32) (co cn : Nat → sC) (hP : paAt h pa o v L.length f co cn) (hL40 : L.length ≤ 40) (hAc : ∀ k a, L[k]? = some a → actOk f co cn k a) (A : sA) (cs : Nat → sC) (oA : aOk A) (hs : cAt h so A.1 A.2.length cs) (hsl : ∀ i, i < A.2.length → cs i = A.2.getD i z0) (hw : wfH h) (N : Nat) (hN : N ≤ 20) (i : Nat) (hi : i < L.length) (t : sAct) (hti : L[i]? = some t) (n : Nat) (M : List sC) (fl : Int32) (hn : n ≤ 40) (h0 : apF A t n = 0) (hM : (M ++ apC A t n).length ≤ N) : zXv g yX1_perform cX1_perform 3 none rmX1_perform [.ref h.1, .int (nI i)] (aUp h.1 pa so n M.length fl (cUp (h.1 + 1) A.1 N (lF (cIn A.1 N) (M.map (fun y => sConv y A.1))) (h.1 + 5, h.2))) (aUp h.1 pa so (apN t n) (M ++ apC A t n).length fl (cUp (h.1 + 1) A.1 N (lF (cIn A.1 N) ((M ++ apC A t n).map (fun y => sConv y A.1))) (h.1 + 5, h.2))) := by
  refine zM_of (by decide) (Nat.le_of_ble_eq_true rfl) ?_
  have k1 : pa + 1 < h.1 := wf_lt hw hP.2.1
  have k2 := cAt_lt hP.2.2.1 hw
  have k3 := cAt_lt hP.2.2.2 hw
  have k4 := cAt_lt hs hw
  have ht := hAc i t hti
  have la : A.2.length ≤ 20 := oA.2.2.1
  have hx4 : t.1 = 0 ∨ t.1 = 1 ∨ t.1 = 2 ∨ t.1 = 3 := by have := ht.2.1; have := ht.2.2.1; grind
  rcases hx4 with e1 | e1 | e1 | e1
  · skip
    have hN2 : apN t n = n + 1 := by unfold apN; rw [e1]; rfl
    have hlt : n < A.2.length := by
      rcases Nat.lt_or_ge n A.2.length with z | z
      · exact z
      · exact absurd h0 (by unfold apF; rw [if_pos ⟨by rw [e1]; decide, z⟩]; decide)
    obtain ⟨c, hcc⟩ : ∃ c, cs n = c := ⟨_, rfl⟩
    have hC2 : apC A t n = [c] := by unfold apC; rw [e1, ← hcc, hsl n hlt]; rfl
    have hci := apC_ok oA ht h0 c (by rw [hC2]; exact List.mem_singleton.mpr rfl)
    have hM2 : M.length < N := by rw [hC2] at hM; rw [List.length_append] at hM; exact hM
    have hnx : uC (lF (cIn A.1 N) (M.map (fun y => sConv y A.1))) M.length (sConv (cs n) A.1) = lF (cIn A.1 N) ((M ++ [c]).map (fun y => sConv y A.1)) := by rw [List.map_append, List.map_singleton, ← lF_s, List.length_map, hcc]
    first | refine z_aload_n dX1_perform_0 rfl rfl ?_ | refine z_aload_nN dX1_perform_0 rfl rfl ?_
    refine zg_X1_9 rfl dX1_perform_1 rfl aUp_o rfl ?_
    refine zg_X1_54 rfl dX1_perform_4 rfl (((aUp_out (by omega)).trans (cUp_out (by omega))).trans hP.1) rfl ?_
    refine z_iload_n dX1_perform_7 rfl rfl ?_
    refine z_iald dX1_perform_8 rfl (((aUp_out (by omega)).trans (cUp_out (by omega))).trans hP.2.1) (vp_in_nI (by omega) (by omega)) ?_
    rw [nI_clamp (show i < 2 ^ 31 by omega), ht.1, e1]
    refine z_istore_n dX1_perform_9 rfl (Nat.le_of_ble_eq_true rfl) ?_
    refine z_iload_n dX1_perform_10 rfl rfl ?_
    refine z_if_ne (tgt := 36) dX1_perform_11 rfl (by decide) (fun c11 => absurd c11 (fun z => z rfl)) (fun c11 => ?_)
    first | refine z_aload_n dX1_perform_14 rfl rfl ?_ | refine z_aload_nN dX1_perform_14 rfl rfl ?_
    refine zg_X1_37 rfl dX1_perform_15 rfl aUp_o rfl ?_
    first | refine z_aload_n dX1_perform_18 rfl rfl ?_ | refine z_aload_nN dX1_perform_18 rfl rfl ?_
    refine zg_X1_79 rfl dX1_perform_19 rfl aUp_o rfl ?_
    first | refine z_aload_n dX1_perform_22 rfl rfl ?_ | refine z_aload_nN dX1_perform_22 rfl rfl ?_
    refine zg_X1_15 rfl dX1_perform_23 rfl aUp_o rfl ?_
    first | refine z_aload_n dX1_perform_26 rfl rfl ?_ | refine z_aload_nN dX1_perform_26 rfl rfl ?_
    refine zg_X1_50 rfl dX1_perform_27 rfl aUp_o rfl ?_
    refine zcv_X1_82 rfl dX1_perform_30 rfl (cAt_fr (cUp_at (h.1 + 1) _ _ _ _) (fun z z1 z2 => aUp_out (by omega))).1 (m_take g (aUp h.1 pa so n M.length fl (cUp (h.1 + 1) A.1 N (lF (cIn A.1 N) (M.map (fun y => sConv y A.1))) (h.1 + 5, h.2))) (h.1 + 1) _ _ _ (cAt_fr (cUp_at (h.1 + 1) _ _ _ _) (fun z z1 z2 => aUp_out (by omega))) (by omega) M.length (by omega) so _ _ cs (cAt_fr hs (fun z z1 z2 => (aUp_out (by omega)).trans (cUp_out (by omega)))) (by omega) n hlt (by rw [hcc]; exact hci.1) ⟨oA.1, oA.2.1⟩ (by rw [hcc]; exact hci.2)) rfl rfl ⟨(Nat.le_of_ble_eq_true rfl), (Nat.le_of_ble_eq_true rfl)⟩ ⟨(Nat.le_of_ble_eq_true rfl), (Nat.le_of_ble_eq_true rfl)⟩ (Nat.le_of_ble_eq_true rfl) ?_
    refine zZ_h (aUp h.1 pa so n M.length fl (cUp (h.1 + 1) A.1 N (lF (cIn A.1 N) ((M ++ [c]).map (fun y => sConv y A.1))) (h.1 + 5, h.2))) ((aUp_cU).trans (by rw [hnx])) ?_
    refine z_goto (tgt := 60) dX1_perform_33 rfl (by decide) ?_
    refine z_iload_n dX1_perform_60 rfl rfl ?_
    refine z_iconst (v := 2) dX1_perform_61 rfl (by decide) ?_
    refine z_icmp_eq (tgt := 75) dX1_perform_62 rfl (by decide) (fun c62 => absurd c62 (by decide)) (fun c62 => ?_)
    first | refine z_aload_n dX1_perform_65 rfl rfl ?_ | refine z_aload_nN dX1_perform_65 rfl rfl ?_
    refine z_dup dX1_perform_66 rfl rfl ?_
    refine zg_X1_79 rfl dX1_perform_67 rfl aUp_o rfl ?_
    refine z_iconst (v := 1) dX1_perform_70 rfl (by decide) ?_
    refine z_iadd dX1_perform_71 rfl ?_
    rw [show nI M.length + (1 : Int32) = nI (M.length + 1) from nI_1 _]
    refine zp_X1_79 rfl dX1_perform_72 rfl aUp_o rfl rfl (Nat.le_of_ble_eq_true rfl) ?_
    refine zZ_h (aUp h.1 pa so n (M.length + 1) fl (cUp (h.1 + 1) A.1 N (lF (cIn A.1 N) ((M ++ [c]).map (fun y => sConv y A.1))) (h.1 + 5, h.2))) aUp_a ?_
    refine z_iload_n dX1_perform_75 rfl rfl ?_
    refine z_iconst (v := 3) dX1_perform_76 rfl (by decide) ?_
    refine z_icmp_eq (tgt := 90) dX1_perform_77 rfl (by decide) (fun c77 => absurd c77 (by decide)) (fun c77 => ?_)
    first | refine z_aload_n dX1_perform_80 rfl rfl ?_ | refine z_aload_nN dX1_perform_80 rfl rfl ?_
    refine z_dup dX1_perform_81 rfl rfl ?_
    refine zg_X1_50 rfl dX1_perform_82 rfl aUp_o rfl ?_
    refine z_iconst (v := 1) dX1_perform_85 rfl (by decide) ?_
    refine z_iadd dX1_perform_86 rfl ?_
    rw [show nI n + (1 : Int32) = nI (n + 1) from nI_1 _]
    refine zp_X1_50 rfl dX1_perform_87 rfl aUp_o rfl rfl (Nat.le_of_ble_eq_true rfl) ?_
    refine zZ_h (aUp h.1 pa so (n + 1) (M.length + 1) fl (cUp (h.1 + 1) A.1 N (lF (cIn A.1 N) ((M ++ [c]).map (fun y => sConv y A.1))) (h.1 + 5, h.2))) aUp_a ?_
    exact z_vret dX1_perform_90 rfl rfl ⟨rfl, by rw [hN2, hC2, List.length_append, List.length_singleton]⟩ (Nat.le_of_ble_eq_true rfl) (Nat.le_of_ble_eq_true rfl)
  · skip
    have hN2 : apN t n = n + 1 := by unfold apN; rw [e1]; rfl
    obtain ⟨cN, eN⟩ : ∃ c, t.2.2 = some c := by
      cases q : t.2.2 with
      | none => exact absurd (ht.2.2.2.2.1.mp q) (by rw [e1]; decide)
      | some c => exact ⟨c, rfl⟩
    have hN3 := ht.2.2.2.2.2.2 cN eN
    obtain ⟨c, hcc⟩ : ∃ c, cn i = c := ⟨_, rfl⟩
    have hC2 : apC A t n = [c] := by unfold apC; rw [e1, ← hcc, hN3.1, eN]; rfl
    have hci := apC_ok oA ht h0 c (by rw [hC2]; exact List.mem_singleton.mpr rfl)
    have hM2 : M.length < N := by rw [hC2] at hM; rw [List.length_append] at hM; exact hM
    have hnx : uC (lF (cIn A.1 N) (M.map (fun y => sConv y A.1))) M.length (sConv (cn i) A.1) = lF (cIn A.1 N) ((M ++ [c]).map (fun y => sConv y A.1)) := by rw [List.map_append, List.map_singleton, ← lF_s, List.length_map, hcc]
    first | refine z_aload_n dX1_perform_0 rfl rfl ?_ | refine z_aload_nN dX1_perform_0 rfl rfl ?_
    refine zg_X1_9 rfl dX1_perform_1 rfl aUp_o rfl ?_
    refine zg_X1_54 rfl dX1_perform_4 rfl (((aUp_out (by omega)).trans (cUp_out (by omega))).trans hP.1) rfl ?_
    refine z_iload_n dX1_perform_7 rfl rfl ?_
    refine z_iald dX1_perform_8 rfl (((aUp_out (by omega)).trans (cUp_out (by omega))).trans hP.2.1) (vp_in_nI (by omega) (by omega)) ?_
    rw [nI_clamp (show i < 2 ^ 31 by omega), ht.1, e1]
    refine z_istore_n dX1_perform_9 rfl (Nat.le_of_ble_eq_true rfl) ?_
    refine z_iload_n dX1_perform_10 rfl rfl ?_
    refine z_if_ne (tgt := 36) dX1_perform_11 rfl (by decide) (fun c11 => ?_) (fun c11 => absurd c11 (by decide))
    refine z_iload_n dX1_perform_36 rfl rfl ?_
    refine z_iconst (v := 2) dX1_perform_37 rfl (by decide) ?_
    refine z_icmp_eq (tgt := 60) dX1_perform_38 rfl (by decide) (fun c38 => absurd c38 (by decide)) (fun c38 => ?_)
    first | refine z_aload_n dX1_perform_41 rfl rfl ?_ | refine z_aload_nN dX1_perform_41 rfl rfl ?_
    refine zg_X1_37 rfl dX1_perform_42 rfl aUp_o rfl ?_
    first | refine z_aload_n dX1_perform_45 rfl rfl ?_ | refine z_aload_nN dX1_perform_45 rfl rfl ?_
    refine zg_X1_79 rfl dX1_perform_46 rfl aUp_o rfl ?_
    first | refine z_aload_n dX1_perform_49 rfl rfl ?_ | refine z_aload_nN dX1_perform_49 rfl rfl ?_
    refine zg_X1_9 rfl dX1_perform_50 rfl aUp_o rfl ?_
    refine zg_X1_67 rfl dX1_perform_53 rfl (((aUp_out (by omega)).trans (cUp_out (by omega))).trans hP.1) rfl ?_
    refine z_iload_n dX1_perform_56 rfl rfl ?_
    refine zcv_X1_82 rfl dX1_perform_57 rfl (cAt_fr (cUp_at (h.1 + 1) _ _ _ _) (fun z z1 z2 => aUp_out (by omega))).1 (m_take g (aUp h.1 pa so n M.length fl (cUp (h.1 + 1) A.1 N (lF (cIn A.1 N) (M.map (fun y => sConv y A.1))) (h.1 + 5, h.2))) (h.1 + 1) _ _ _ (cAt_fr (cUp_at (h.1 + 1) _ _ _ _) (fun z z1 z2 => aUp_out (by omega))) (by omega) M.length (by omega) v _ _ cn (⟨((aUp_out (by omega)).trans (cUp_out (by omega))).trans hP.1, ((aUp_out (by omega)).trans (cUp_out (by omega))).trans hP.2.1, cAt_fr hP.2.2.1 (fun z z1 z2 => (aUp_out (by omega)).trans (cUp_out (by omega))), cAt_fr hP.2.2.2 (fun z z1 z2 => (aUp_out (by omega)).trans (cUp_out (by omega)))⟩ : paAt _ pa o v L.length f co cn).2.2.2 (by omega) i hi (by rw [hcc]; exact hci.1) ⟨oA.1, oA.2.1⟩ (by rw [hcc]; exact hci.2)) rfl rfl ⟨(Nat.le_of_ble_eq_true rfl), (Nat.le_of_ble_eq_true rfl)⟩ ⟨(Nat.le_of_ble_eq_true rfl), (Nat.le_of_ble_eq_true rfl)⟩ (Nat.le_of_ble_eq_true rfl) ?_
    refine zZ_h (aUp h.1 pa so n M.length fl (cUp (h.1 + 1) A.1 N (lF (cIn A.1 N) ((M ++ [c]).map (fun y => sConv y A.1))) (h.1 + 5, h.2))) ((aUp_cU).trans (by rw [hnx])) ?_
    refine z_iload_n dX1_perform_60 rfl rfl ?_
    refine z_iconst (v := 2) dX1_perform_61 rfl (by decide) ?_
    refine z_icmp_eq (tgt := 75) dX1_perform_62 rfl (by decide) (fun c62 => absurd c62 (by decide)) (fun c62 => ?_)
    first | refine z_aload_n dX1_perform_65 rfl rfl ?_ | refine z_aload_nN dX1_perform_65 rfl rfl ?_
    refine z_dup dX1_perform_66 rfl rfl ?_
    refine zg_X1_79 rfl dX1_perform_67 rfl aUp_o rfl ?_
    refine z_iconst (v := 1) dX1_perform_70 rfl (by decide) ?_
    refine z_iadd dX1_perform_71 rfl ?_
    rw [show nI M.length + (1 : Int32) = nI (M.length + 1) from nI_1 _]
    refine zp_X1_79 rfl dX1_perform_72 rfl aUp_o rfl rfl (Nat.le_of_ble_eq_true rfl) ?_
    refine zZ_h (aUp h.1 pa so n (M.length + 1) fl (cUp (h.1 + 1) A.1 N (lF (cIn A.1 N) ((M ++ [c]).map (fun y => sConv y A.1))) (h.1 + 5, h.2))) aUp_a ?_
    refine z_iload_n dX1_perform_75 rfl rfl ?_
    refine z_iconst (v := 3) dX1_perform_76 rfl (by decide) ?_
    refine z_icmp_eq (tgt := 90) dX1_perform_77 rfl (by decide) (fun c77 => absurd c77 (by decide)) (fun c77 => ?_)
    first | refine z_aload_n dX1_perform_80 rfl rfl ?_ | refine z_aload_nN dX1_perform_80 rfl rfl ?_
    refine z_dup dX1_perform_81 rfl rfl ?_
    refine zg_X1_50 rfl dX1_perform_82 rfl aUp_o rfl ?_
    refine z_iconst (v := 1) dX1_perform_85 rfl (by decide) ?_
    refine z_iadd dX1_perform_86 rfl ?_
    rw [show nI n + (1 : Int32) = nI (n + 1) from nI_1 _]
    refine zp_X1_50 rfl dX1_perform_87 rfl aUp_o rfl rfl (Nat.le_of_ble_eq_true rfl) ?_
    refine zZ_h (aUp h.1 pa so (n + 1) (M.length + 1) fl (cUp (h.1 + 1) A.1 N (lF (cIn A.1 N) ((M ++ [c]).map (fun y => sConv y A.1))) (h.1 + 5, h.2))) aUp_a ?_
    exact z_vret dX1_perform_90 rfl rfl ⟨rfl, by rw [hN2, hC2, List.length_append, List.length_singleton]⟩ (Nat.le_of_ble_eq_true rfl) (Nat.le_of_ble_eq_true rfl)
  · skip
    have hN2 : apN t n = n + 1 := by unfold apN; rw [e1]; rfl
    have hC2 : apC A t n = [] := by unfold apC; rw [e1]; rfl
    first | refine z_aload_n dX1_perform_0 rfl rfl ?_ | refine z_aload_nN dX1_perform_0 rfl rfl ?_
    refine zg_X1_9 rfl dX1_perform_1 rfl aUp_o rfl ?_
    refine zg_X1_54 rfl dX1_perform_4 rfl (((aUp_out (by omega)).trans (cUp_out (by omega))).trans hP.1) rfl ?_
    refine z_iload_n dX1_perform_7 rfl rfl ?_
    refine z_iald dX1_perform_8 rfl (((aUp_out (by omega)).trans (cUp_out (by omega))).trans hP.2.1) (vp_in_nI (by omega) (by omega)) ?_
    rw [nI_clamp (show i < 2 ^ 31 by omega), ht.1, e1]
    refine z_istore_n dX1_perform_9 rfl (Nat.le_of_ble_eq_true rfl) ?_
    refine z_iload_n dX1_perform_10 rfl rfl ?_
    refine z_if_ne (tgt := 36) dX1_perform_11 rfl (by decide) (fun c11 => ?_) (fun c11 => absurd c11 (by decide))
    refine z_iload_n dX1_perform_36 rfl rfl ?_
    refine z_iconst (v := 2) dX1_perform_37 rfl (by decide) ?_
    refine z_icmp_eq (tgt := 60) dX1_perform_38 rfl (by decide) (fun c38 => ?_) (fun c38 => absurd c38 (fun z => z rfl))
    refine z_iload_n dX1_perform_60 rfl rfl ?_
    refine z_iconst (v := 2) dX1_perform_61 rfl (by decide) ?_
    refine z_icmp_eq (tgt := 75) dX1_perform_62 rfl (by decide) (fun c62 => ?_) (fun c62 => absurd c62 (fun z => z rfl))
    refine z_iload_n dX1_perform_75 rfl rfl ?_
    refine z_iconst (v := 3) dX1_perform_76 rfl (by decide) ?_
    refine z_icmp_eq (tgt := 90) dX1_perform_77 rfl (by decide) (fun c77 => absurd c77 (by decide)) (fun c77 => ?_)
    first | refine z_aload_n dX1_perform_80 rfl rfl ?_ | refine z_aload_nN dX1_perform_80 rfl rfl ?_
    refine z_dup dX1_perform_81 rfl rfl ?_
    refine zg_X1_50 rfl dX1_perform_82 rfl aUp_o rfl ?_
    refine z_iconst (v := 1) dX1_perform_85 rfl (by decide) ?_
    refine z_iadd dX1_perform_86 rfl ?_
    rw [show nI n + (1 : Int32) = nI (n + 1) from nI_1 _]
    refine zp_X1_50 rfl dX1_perform_87 rfl aUp_o rfl rfl (Nat.le_of_ble_eq_true rfl) ?_
    refine zZ_h (aUp h.1 pa so (n + 1) M.length fl (cUp (h.1 + 1) A.1 N (lF (cIn A.1 N) (M.map (fun y => sConv y A.1))) (h.1 + 5, h.2))) aUp_a ?_
    exact z_vret dX1_perform_90 rfl rfl ⟨rfl, by rw [hN2, hC2, List.append_nil]⟩ (Nat.le_of_ble_eq_true rfl) (Nat.le_of_ble_eq_true rfl)
  · skip
    have hN2 : apN t n = n := by unfold apN; rw [e1]; rfl
    obtain ⟨cN, eN⟩ : ∃ c, t.2.2 = some c := by
      cases q : t.2.2 with
      | none => exact absurd (ht.2.2.2.2.1.mp q) (by rw [e1]; decide)
      | some c => exact ⟨c, rfl⟩
    have hN3 := ht.2.2.2.2.2.2 cN eN
    obtain ⟨c, hcc⟩ : ∃ c, cn i = c := ⟨_, rfl⟩
    have hC2 : apC A t n = [c] := by unfold apC; rw [e1, ← hcc, hN3.1, eN]; rfl
    have hci := apC_ok oA ht h0 c (by rw [hC2]; exact List.mem_singleton.mpr rfl)
    have hM2 : M.length < N := by rw [hC2] at hM; rw [List.length_append] at hM; exact hM
    have hnx : uC (lF (cIn A.1 N) (M.map (fun y => sConv y A.1))) M.length (sConv (cn i) A.1) = lF (cIn A.1 N) ((M ++ [c]).map (fun y => sConv y A.1)) := by rw [List.map_append, List.map_singleton, ← lF_s, List.length_map, hcc]
    first | refine z_aload_n dX1_perform_0 rfl rfl ?_ | refine z_aload_nN dX1_perform_0 rfl rfl ?_
    refine zg_X1_9 rfl dX1_perform_1 rfl aUp_o rfl ?_
    refine zg_X1_54 rfl dX1_perform_4 rfl (((aUp_out (by omega)).trans (cUp_out (by omega))).trans hP.1) rfl ?_
    refine z_iload_n dX1_perform_7 rfl rfl ?_
    refine z_iald dX1_perform_8 rfl (((aUp_out (by omega)).trans (cUp_out (by omega))).trans hP.2.1) (vp_in_nI (by omega) (by omega)) ?_
    rw [nI_clamp (show i < 2 ^ 31 by omega), ht.1, e1]
    refine z_istore_n dX1_perform_9 rfl (Nat.le_of_ble_eq_true rfl) ?_
    refine z_iload_n dX1_perform_10 rfl rfl ?_
    refine z_if_ne (tgt := 36) dX1_perform_11 rfl (by decide) (fun c11 => ?_) (fun c11 => absurd c11 (by decide))
    refine z_iload_n dX1_perform_36 rfl rfl ?_
    refine z_iconst (v := 2) dX1_perform_37 rfl (by decide) ?_
    refine z_icmp_eq (tgt := 60) dX1_perform_38 rfl (by decide) (fun c38 => absurd c38 (by decide)) (fun c38 => ?_)
    first | refine z_aload_n dX1_perform_41 rfl rfl ?_ | refine z_aload_nN dX1_perform_41 rfl rfl ?_
    refine zg_X1_37 rfl dX1_perform_42 rfl aUp_o rfl ?_
    first | refine z_aload_n dX1_perform_45 rfl rfl ?_ | refine z_aload_nN dX1_perform_45 rfl rfl ?_
    refine zg_X1_79 rfl dX1_perform_46 rfl aUp_o rfl ?_
    first | refine z_aload_n dX1_perform_49 rfl rfl ?_ | refine z_aload_nN dX1_perform_49 rfl rfl ?_
    refine zg_X1_9 rfl dX1_perform_50 rfl aUp_o rfl ?_
    refine zg_X1_67 rfl dX1_perform_53 rfl (((aUp_out (by omega)).trans (cUp_out (by omega))).trans hP.1) rfl ?_
    refine z_iload_n dX1_perform_56 rfl rfl ?_
    refine zcv_X1_82 rfl dX1_perform_57 rfl (cAt_fr (cUp_at (h.1 + 1) _ _ _ _) (fun z z1 z2 => aUp_out (by omega))).1 (m_take g (aUp h.1 pa so n M.length fl (cUp (h.1 + 1) A.1 N (lF (cIn A.1 N) (M.map (fun y => sConv y A.1))) (h.1 + 5, h.2))) (h.1 + 1) _ _ _ (cAt_fr (cUp_at (h.1 + 1) _ _ _ _) (fun z z1 z2 => aUp_out (by omega))) (by omega) M.length (by omega) v _ _ cn (⟨((aUp_out (by omega)).trans (cUp_out (by omega))).trans hP.1, ((aUp_out (by omega)).trans (cUp_out (by omega))).trans hP.2.1, cAt_fr hP.2.2.1 (fun z z1 z2 => (aUp_out (by omega)).trans (cUp_out (by omega))), cAt_fr hP.2.2.2 (fun z z1 z2 => (aUp_out (by omega)).trans (cUp_out (by omega)))⟩ : paAt _ pa o v L.length f co cn).2.2.2 (by omega) i hi (by rw [hcc]; exact hci.1) ⟨oA.1, oA.2.1⟩ (by rw [hcc]; exact hci.2)) rfl rfl ⟨(Nat.le_of_ble_eq_true rfl), (Nat.le_of_ble_eq_true rfl)⟩ ⟨(Nat.le_of_ble_eq_true rfl), (Nat.le_of_ble_eq_true rfl)⟩ (Nat.le_of_ble_eq_true rfl) ?_
    refine zZ_h (aUp h.1 pa so n M.length fl (cUp (h.1 + 1) A.1 N (lF (cIn A.1 N) ((M ++ [c]).map (fun y => sConv y A.1))) (h.1 + 5, h.2))) ((aUp_cU).trans (by rw [hnx])) ?_
    refine z_iload_n dX1_perform_60 rfl rfl ?_
    refine z_iconst (v := 2) dX1_perform_61 rfl (by decide) ?_
    refine z_icmp_eq (tgt := 75) dX1_perform_62 rfl (by decide) (fun c62 => absurd c62 (by decide)) (fun c62 => ?_)
    first | refine z_aload_n dX1_perform_65 rfl rfl ?_ | refine z_aload_nN dX1_perform_65 rfl rfl ?_
    refine z_dup dX1_perform_66 rfl rfl ?_
    refine zg_X1_79 rfl dX1_perform_67 rfl aUp_o rfl ?_
    refine z_iconst (v := 1) dX1_perform_70 rfl (by decide) ?_
    refine z_iadd dX1_perform_71 rfl ?_
    rw [show nI M.length + (1 : Int32) = nI (M.length + 1) from nI_1 _]
    refine zp_X1_79 rfl dX1_perform_72 rfl aUp_o rfl rfl (Nat.le_of_ble_eq_true rfl) ?_
    refine zZ_h (aUp h.1 pa so n (M.length + 1) fl (cUp (h.1 + 1) A.1 N (lF (cIn A.1 N) ((M ++ [c]).map (fun y => sConv y A.1))) (h.1 + 5, h.2))) aUp_a ?_
    refine z_iload_n dX1_perform_75 rfl rfl ?_
    refine z_iconst (v := 3) dX1_perform_76 rfl (by decide) ?_
    refine z_icmp_eq (tgt := 90) dX1_perform_77 rfl (by decide) (fun c77 => ?_) (fun c77 => absurd c77 (fun z => z rfl))
    exact z_vret dX1_perform_90 rfl rfl ⟨rfl, by rw [hN2, hC2, List.length_append, List.length_singleton]⟩ (Nat.le_of_ble_eq_true rfl) (Nat.le_of_ble_eq_true rfl)

