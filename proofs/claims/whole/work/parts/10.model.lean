/-- the reference: its int and boolean arrays by number, its numbers, its fractions, its int and boolean fields by number, got -/
abbrev sMS : Type := (Nat → Nat → Int32) × (Nat → Int64) × (Nat → UInt64) × (Nat → Int32) × Int64
/-- of an int or boolean array: its type, its length -/
def mTl : List (Nat × Nat) := [(9, 0), (0, 880), (9, 0), (9, 0), (0, 27), (0, 27), (0, 8), (0, 4), (0, 441), (0, 40), (0, 40), (0, 40), (0, 40), (3, 40), (3, 40), (3, 4), (0, 4), (0, 160), (3, 2), (0, 16)]
def mT (j : Nat) : Nat × Nat := mTl.getD j (9, 0)
def mFs (m : Nat) (S : sMS) : List Value := [.ref (m + 1), .ref (m + 2), .ref (m + 3), .ref (m + 4), .ref (m + 5), .ref (m + 6), .long S.2.2.2.2, .int (S.2.2.2.1 7), .ref (m + 7), .ref (m + 8), .int (S.2.2.2.1 10), .int (S.2.2.2.1 11), .int (S.2.2.2.1 12), .ref (m + 9), .ref (m + 10), .ref (m + 11), .ref (m + 12), .ref (m + 13), .ref (m + 14), .ref (m + 15), .ref (m + 16), .ref (m + 17), .int (S.2.2.2.1 22), .int (S.2.2.2.1 23), .ref (m + 18), .ref (m + 19)]
def mCell (m : Nat) (S : sMS) (j : Nat) : zOb := if j = 0 then .inr (7, mFs m S) else if j = 2 then .inl (1, 880, .inr (.inl S.2.1)) else if j = 3 then .inl (2, 880, .inr (.inr (.inr (.inl S.2.2.1)))) else .inl ((mT j).1, (mT j).2, .inl (S.1 j))
def mUp (m : Nat) (S : sMS) (h : zH) : zH := (h.1, fun a => if m ≤ a ∧ a < m + 20 then some (mCell m S (a - m)) else h.2 a)
theorem mUp_at {m : Nat} {S : sMS} {h : zH} {j : Nat} (hj : j < 20) : (mUp m S h).2 (m + j) = some (mCell m S j) := by
  show (if m ≤ m + j ∧ m + j < m + 20 then some (mCell m S (m + j - m)) else h.2 (m + j)) = _
  rw [if_pos ⟨Nat.le_add_right m j, by omega⟩, Nat.add_sub_cancel_left]
theorem mUp_out {m : Nat} {S : sMS} {h : zH} {a : Nat} (ha : a < m ∨ m + 20 ≤ a) : (mUp m S h).2 a = h.2 a := by
  show (if m ≤ a ∧ a < m + 20 then some (mCell m S (a - m)) else h.2 a) = _
  rw [if_neg (by omega)]
theorem mo_recv {m : Nat} {S : sMS} {h : zH} : (mUp m S h).2 m = some (.inr (7, mFs m S)) := mUp_at (j := 0) (by decide)
theorem mUp_set {m : Nat} {S S' : sMS} {h : zH} {j : Nat} (hj : j < 20) (hc : ∀ i, i ≠ j → mCell m S' i = mCell m S i) : ((mUp m S h).1, va_up (mUp m S h).2 (m + j) (some (mCell m S' j))) = mUp m S' h := by
  refine Prod.ext rfl (funext fun a => ?_)
  show va_up (mUp m S h).2 (m + j) (some (mCell m S' j)) a = (mUp m S' h).2 a
  by_cases e : a = m + j
  · subst e
    rw [mUp_at hj]
    simp [va_up]
  · rw [va_up, if_neg e]
    by_cases q : m ≤ a ∧ a < m + 20
    · obtain ⟨i, rfl⟩ : ∃ i, a = m + i := ⟨a - m, by omega⟩
      rw [mUp_at (by omega), mUp_at (by omega), hc i (by omega)]
    · rw [mUp_out (by omega), mUp_out (by omega)]
theorem mT_lt {j t n : Nat} (h : mT j = (t, n)) (ht : t = 0 ∨ t = 3) : j < 20 ∧ j ≠ 0 ∧ j ≠ 2 ∧ j ≠ 3 := by
  have h1 : (mT j).1 = t := by rw [h]
  by_cases hj : j < 20
  · have key : ∀ i : Fin 20, ((mT i).1 = 0 ∨ (mT i).1 = 3) → i.1 ≠ 0 ∧ i.1 ≠ 2 ∧ i.1 ≠ 3 := by decide
    exact ⟨hj, key ⟨j, hj⟩ (by rw [h1]; exact ht)⟩
  · exfalso
    have : mT j = (9, 0) := by
      unfold mT
      rw [List.getD_eq_getElem?_getD, List.getElem?_eq_none (by show 20 ≤ j; omega)]
      rfl
    rw [this] at h1
    subst h1
    rcases ht with q | q <;> cases q
theorem mCell_i {m : Nat} {S : sMS} {j t n : Nat} (h : mT j = (t, n)) (ht : t = 0 ∨ t = 3) : mCell m S j = .inl (t, n, .inl (S.1 j)) := by
  obtain ⟨h1, h2, h3, h4⟩ := mT_lt h ht
  unfold mCell
  rw [if_neg h2, if_neg h3, if_neg h4, h]
section ZMo
variable {g : zG} {Y : zY} {Q : Array Value → List Frame → State → State → Prop} {pc pc0 : Nat} {lv : List (Nat × Value)} {st : List Value} {h : zH} {ce sl m : Nat} {S : sMS}
theorem zm_iald {j n : Nat} {i : Int32} (hd : decode Y.2.1 pc = .ok (.iaload, 1)) (hp : pc0 = pc) (hj : mT j = (0, n)) (hi : vp_in i n) (k : zZ g Y Q (pc + 1) lv (.int (S.1 j i.toNatClampNeg) :: st) (mUp m S h) ce sl) : zZ g Y Q pc0 lv (.int i :: .ref (m + j) :: st) (mUp m S h) ce sl :=
  z_iald hd hp ((mUp_at (mT_lt hj (by decide)).1).trans (congrArg some (mCell_i hj (by decide)))) hi k
theorem zm_iast {j n : Nat} {i x : Int32} (hd : decode Y.2.1 pc = .ok (.iastore, 1)) (hp : pc0 = pc) (hj : mT j = (0, n)) (hi : vp_in i n) (k : zZ g Y Q (pc + 1) lv st (mUp m (va_up S.1 j (upd (S.1 j) i.toNatClampNeg x), S.2) h) ce sl) : zZ g Y Q pc0 lv (.int x :: .int i :: .ref (m + j) :: st) (mUp m S h) ce sl := by
  obtain ⟨h1, h2, h3, h4⟩ := mT_lt hj (by decide)
  refine z_iast hd hp ((mUp_at h1).trans (congrArg some (mCell_i hj (by decide)))) hi ?_
  have e := mUp_set (m := m) (S := S) (S' := (va_up S.1 j (upd (S.1 j) i.toNatClampNeg x), S.2)) (h := h) (j := j) h1 (fun i' hne => by
    unfold mCell
    simp only [va_up, if_neg hne, mFs])
  rw [mCell_i hj (by decide)] at e
  have e2 : va_up S.1 j (upd (S.1 j) i.toNatClampNeg x) j = upd (S.1 j) i.toNatClampNeg x := by simp [va_up]
  rw [← e] at k
  rw [← e2]
  exact k
theorem zm_zald {j n : Nat} {i : Int32} (hd : decode Y.2.1 pc = .ok (.baload, 1)) (hp : pc0 = pc) (hj : mT j = (3, n)) (hi : vp_in i n) (k : zZ g Y Q (pc + 1) lv (.int (S.1 j i.toNatClampNeg) :: st) (mUp m S h) ce sl) : zZ g Y Q pc0 lv (.int i :: .ref (m + j) :: st) (mUp m S h) ce sl :=
  z_zald hd hp ((mUp_at (mT_lt hj (by decide)).1).trans (congrArg some (mCell_i hj (by decide)))) hi k
theorem zm_zast {j n : Nat} {i x : Int32} (hd : decode Y.2.1 pc = .ok (.bastore, 1)) (hp : pc0 = pc) (hj : mT j = (3, n)) (hi : vp_in i n) (k : zZ g Y Q (pc + 1) lv st (mUp m (va_up S.1 j (upd (S.1 j) i.toNatClampNeg (vp_nar .boolean x)), S.2) h) ce sl) : zZ g Y Q pc0 lv (.int x :: .int i :: .ref (m + j) :: st) (mUp m S h) ce sl := by
  obtain ⟨h1, h2, h3, h4⟩ := mT_lt hj (by decide)
  refine z_zast hd hp ((mUp_at h1).trans (congrArg some (mCell_i hj (by decide)))) hi ?_
  have e := mUp_set (m := m) (S := S) (S' := (va_up S.1 j (upd (S.1 j) i.toNatClampNeg (vp_nar .boolean x)), S.2)) (h := h) (j := j) h1 (fun i' hne => by
    unfold mCell
    simp only [va_up, if_neg hne, mFs])
  rw [mCell_i hj (by decide)] at e
  have e2 : va_up S.1 j (upd (S.1 j) i.toNatClampNeg (vp_nar .boolean x)) j = upd (S.1 j) i.toNatClampNeg (vp_nar .boolean x) := by simp [va_up]
  rw [← e] at k
  rw [← e2]
  exact k
theorem zm_lald {i : Int32} (hd : decode Y.2.1 pc = .ok (.laload, 1)) (hp : pc0 = pc) (_hj : 0 = 0) (hi : vp_in i 880) (k : zZ g Y Q (pc + 1) lv (.long (S.2.1 i.toNatClampNeg) :: st) (mUp m S h) ce sl) : zZ g Y Q pc0 lv (.int i :: .ref (m + 2) :: st) (mUp m S h) ce sl := z_lald hd hp (mUp_at (j := 2) (by decide)) hi k
theorem zm_last {i : Int32} {x : Int64} (hd : decode Y.2.1 pc = .ok (.lastore, 1)) (hp : pc0 = pc) (_hj : 0 = 0) (hi : vp_in i 880) (k : zZ g Y Q (pc + 1) lv st (mUp m (S.1, vp_updL S.2.1 i.toNatClampNeg x, S.2.2) h) ce sl) : zZ g Y Q pc0 lv (.long x :: .int i :: .ref (m + 2) :: st) (mUp m S h) ce sl := by
  refine z_last hd hp (mUp_at (j := 2) (by decide)) hi ?_
  have e := mUp_set (m := m) (S := S) (S' := (S.1, vp_updL S.2.1 i.toNatClampNeg x, S.2.2)) (h := h) (j := 2) (by decide) (fun i' hne => by
    unfold mCell
    simp only [if_neg hne, mFs])
  rw [← e] at k
  exact k
theorem zm_dald {i : Int32} (hd : decode Y.2.1 pc = .ok (.daload, 1)) (hp : pc0 = pc) (_hj : 0 = 0) (hi : vp_in i 880) (k : zZ g Y Q (pc + 1) lv (.double (S.2.2.1 i.toNatClampNeg) :: st) (mUp m S h) ce sl) : zZ g Y Q pc0 lv (.int i :: .ref (m + 3) :: st) (mUp m S h) ce sl := z_dald hd hp (mUp_at (j := 3) (by decide)) hi k
theorem zm_dast {i : Int32} {x : UInt64} (hd : decode Y.2.1 pc = .ok (.dastore, 1)) (hp : pc0 = pc) (_hj : 0 = 0) (hi : vp_in i 880) (k : zZ g Y Q (pc + 1) lv st (mUp m (S.1, S.2.1, vf_upd S.2.2.1 i.toNatClampNeg x, S.2.2.2) h) ce sl) : zZ g Y Q pc0 lv (.double x :: .int i :: .ref (m + 3) :: st) (mUp m S h) ce sl := by
  refine z_dast hd hp (mUp_at (j := 3) (by decide)) hi ?_
  have e := mUp_set (m := m) (S := S) (S' := (S.1, S.2.1, vf_upd S.2.2.1 i.toNatClampNeg x, S.2.2.2)) (h := h) (j := 3) (by decide) (fun i' hne => by
    unfold mCell
    simp only [if_neg hne, mFs])
  rw [← e] at k
  exact k
theorem zmg_7 (hY : Y.1 = RX10) (hd : decode Y.2.1 pc = .ok (.getfield 7, 3)) (hp : pc0 = pc) (k : zZ g Y Q (pc + 3) lv (.ref (m + 1) :: st) (mUp m S h) ce sl) : zZ g Y Q pc0 lv (.ref m :: st) (mUp m S h) ce sl := zg_X10_7 hY hd hp mo_recv rfl k
theorem zmg_13 (hY : Y.1 = RX10) (hd : decode Y.2.1 pc = .ok (.getfield 13, 3)) (hp : pc0 = pc) (k : zZ g Y Q (pc + 3) lv (.ref (m + 2) :: st) (mUp m S h) ce sl) : zZ g Y Q pc0 lv (.ref m :: st) (mUp m S h) ce sl := zg_X10_13 hY hd hp mo_recv rfl k
theorem zmg_17 (hY : Y.1 = RX10) (hd : decode Y.2.1 pc = .ok (.getfield 17, 3)) (hp : pc0 = pc) (k : zZ g Y Q (pc + 3) lv (.ref (m + 3) :: st) (mUp m S h) ce sl) : zZ g Y Q pc0 lv (.ref m :: st) (mUp m S h) ce sl := zg_X10_17 hY hd hp mo_recv rfl k
theorem zmg_21 (hY : Y.1 = RX10) (hd : decode Y.2.1 pc = .ok (.getfield 21, 3)) (hp : pc0 = pc) (k : zZ g Y Q (pc + 3) lv (.ref (m + 4) :: st) (mUp m S h) ce sl) : zZ g Y Q pc0 lv (.ref m :: st) (mUp m S h) ce sl := zg_X10_21 hY hd hp mo_recv rfl k
theorem zmg_24 (hY : Y.1 = RX10) (hd : decode Y.2.1 pc = .ok (.getfield 24, 3)) (hp : pc0 = pc) (k : zZ g Y Q (pc + 3) lv (.ref (m + 5) :: st) (mUp m S h) ce sl) : zZ g Y Q pc0 lv (.ref m :: st) (mUp m S h) ce sl := zg_X10_24 hY hd hp mo_recv rfl k
theorem zmg_27 (hY : Y.1 = RX10) (hd : decode Y.2.1 pc = .ok (.getfield 27, 3)) (hp : pc0 = pc) (k : zZ g Y Q (pc + 3) lv (.ref (m + 6) :: st) (mUp m S h) ce sl) : zZ g Y Q pc0 lv (.ref m :: st) (mUp m S h) ce sl := zg_X10_27 hY hd hp mo_recv rfl k
theorem zmg_30 (hY : Y.1 = RX10) (hd : decode Y.2.1 pc = .ok (.getfield 30, 3)) (hp : pc0 = pc) (k : zZ g Y Q (pc + 3) lv (.ref (m + 7) :: st) (mUp m S h) ce sl) : zZ g Y Q pc0 lv (.ref m :: st) (mUp m S h) ce sl := zg_X10_30 hY hd hp mo_recv rfl k
theorem zmg_33 (hY : Y.1 = RX10) (hd : decode Y.2.1 pc = .ok (.getfield 33, 3)) (hp : pc0 = pc) (k : zZ g Y Q (pc + 3) lv (.ref (m + 8) :: st) (mUp m S h) ce sl) : zZ g Y Q pc0 lv (.ref m :: st) (mUp m S h) ce sl := zg_X10_33 hY hd hp mo_recv rfl k
theorem zmg_36 (hY : Y.1 = RX10) (hd : decode Y.2.1 pc = .ok (.getfield 36, 3)) (hp : pc0 = pc) (k : zZ g Y Q (pc + 3) lv (.ref (m + 9) :: st) (mUp m S h) ce sl) : zZ g Y Q pc0 lv (.ref m :: st) (mUp m S h) ce sl := zg_X10_36 hY hd hp mo_recv rfl k
theorem zmg_39 (hY : Y.1 = RX10) (hd : decode Y.2.1 pc = .ok (.getfield 39, 3)) (hp : pc0 = pc) (k : zZ g Y Q (pc + 3) lv (.ref (m + 10) :: st) (mUp m S h) ce sl) : zZ g Y Q pc0 lv (.ref m :: st) (mUp m S h) ce sl := zg_X10_39 hY hd hp mo_recv rfl k
theorem zmg_42 (hY : Y.1 = RX10) (hd : decode Y.2.1 pc = .ok (.getfield 42, 3)) (hp : pc0 = pc) (k : zZ g Y Q (pc + 3) lv (.ref (m + 11) :: st) (mUp m S h) ce sl) : zZ g Y Q pc0 lv (.ref m :: st) (mUp m S h) ce sl := zg_X10_42 hY hd hp mo_recv rfl k
theorem zmg_45 (hY : Y.1 = RX10) (hd : decode Y.2.1 pc = .ok (.getfield 45, 3)) (hp : pc0 = pc) (k : zZ g Y Q (pc + 3) lv (.ref (m + 12) :: st) (mUp m S h) ce sl) : zZ g Y Q pc0 lv (.ref m :: st) (mUp m S h) ce sl := zg_X10_45 hY hd hp mo_recv rfl k
theorem zmg_48 (hY : Y.1 = RX10) (hd : decode Y.2.1 pc = .ok (.getfield 48, 3)) (hp : pc0 = pc) (k : zZ g Y Q (pc + 3) lv (.ref (m + 13) :: st) (mUp m S h) ce sl) : zZ g Y Q pc0 lv (.ref m :: st) (mUp m S h) ce sl := zg_X10_48 hY hd hp mo_recv rfl k
theorem zmg_52 (hY : Y.1 = RX10) (hd : decode Y.2.1 pc = .ok (.getfield 52, 3)) (hp : pc0 = pc) (k : zZ g Y Q (pc + 3) lv (.ref (m + 14) :: st) (mUp m S h) ce sl) : zZ g Y Q pc0 lv (.ref m :: st) (mUp m S h) ce sl := zg_X10_52 hY hd hp mo_recv rfl k
theorem zmg_55 (hY : Y.1 = RX10) (hd : decode Y.2.1 pc = .ok (.getfield 55, 3)) (hp : pc0 = pc) (k : zZ g Y Q (pc + 3) lv (.ref (m + 15) :: st) (mUp m S h) ce sl) : zZ g Y Q pc0 lv (.ref m :: st) (mUp m S h) ce sl := zg_X10_55 hY hd hp mo_recv rfl k
theorem zmg_58 (hY : Y.1 = RX10) (hd : decode Y.2.1 pc = .ok (.getfield 58, 3)) (hp : pc0 = pc) (k : zZ g Y Q (pc + 3) lv (.ref (m + 16) :: st) (mUp m S h) ce sl) : zZ g Y Q pc0 lv (.ref m :: st) (mUp m S h) ce sl := zg_X10_58 hY hd hp mo_recv rfl k
theorem zmg_61 (hY : Y.1 = RX10) (hd : decode Y.2.1 pc = .ok (.getfield 61, 3)) (hp : pc0 = pc) (k : zZ g Y Q (pc + 3) lv (.ref (m + 17) :: st) (mUp m S h) ce sl) : zZ g Y Q pc0 lv (.ref m :: st) (mUp m S h) ce sl := zg_X10_61 hY hd hp mo_recv rfl k
theorem zmg_64 (hY : Y.1 = RX10) (hd : decode Y.2.1 pc = .ok (.getfield 64, 3)) (hp : pc0 = pc) (k : zZ g Y Q (pc + 3) lv (.ref (m + 18) :: st) (mUp m S h) ce sl) : zZ g Y Q pc0 lv (.ref m :: st) (mUp m S h) ce sl := zg_X10_64 hY hd hp mo_recv rfl k
theorem zmg_67 (hY : Y.1 = RX10) (hd : decode Y.2.1 pc = .ok (.getfield 67, 3)) (hp : pc0 = pc) (k : zZ g Y Q (pc + 3) lv (.ref (m + 19) :: st) (mUp m S h) ce sl) : zZ g Y Q pc0 lv (.ref m :: st) (mUp m S h) ce sl := zg_X10_67 hY hd hp mo_recv rfl k
theorem zmg_170 (hY : Y.1 = RX10) (hd : decode Y.2.1 pc = .ok (.getfield 170, 3)) (hp : pc0 = pc) (k : zZ g Y Q (pc + 3) lv (.long S.2.2.2.2 :: st) (mUp m S h) ce sl) : zZ g Y Q pc0 lv (.ref m :: st) (mUp m S h) ce sl := zg_X10_170 hY hd hp mo_recv rfl k
theorem zmp_170 {x : Int64} (hY : Y.1 = RX10) (hd : decode Y.2.1 pc = .ok (.putfield 170, 3)) (hp : pc0 = pc) (k : zZ g Y Q (pc + 3) lv st (mUp m (S.1, S.2.1, S.2.2.1, S.2.2.2.1, x) h) ce sl) : zZ g Y Q pc0 lv (.long x :: .ref m :: st) (mUp m S h) ce sl := by
  refine zp_X10_170 hY hd hp mo_recv rfl rfl (Nat.le_of_ble_eq_true rfl) ?_
  have e := mUp_set (m := m) (S := S) (S' := (S.1, S.2.1, S.2.2.1, S.2.2.2.1, x)) (h := h) (j := 0) (by decide) (fun i' hne => by
    unfold mCell
    simp only [if_neg hne, mFs])
  rw [← e] at k
  exact k
theorem zmg_192 (hY : Y.1 = RX10) (hd : decode Y.2.1 pc = .ok (.getfield 192, 3)) (hp : pc0 = pc) (k : zZ g Y Q (pc + 3) lv (.int (S.2.2.2.1 7) :: st) (mUp m S h) ce sl) : zZ g Y Q pc0 lv (.ref m :: st) (mUp m S h) ce sl := zg_X10_192 hY hd hp mo_recv rfl k
theorem zmp_192 {x : Int32} (hY : Y.1 = RX10) (hd : decode Y.2.1 pc = .ok (.putfield 192, 3)) (hp : pc0 = pc) (k : zZ g Y Q (pc + 3) lv st (mUp m (S.1, S.2.1, S.2.2.1, va_up S.2.2.2.1 7 x, S.2.2.2.2) h) ce sl) : zZ g Y Q pc0 lv (.int x :: .ref m :: st) (mUp m S h) ce sl := by
  refine zp_X10_192 hY hd hp mo_recv rfl rfl (Nat.le_of_ble_eq_true rfl) ?_
  have e := mUp_set (m := m) (S := S) (S' := (S.1, S.2.1, S.2.2.1, va_up S.2.2.2.1 7 x, S.2.2.2.2)) (h := h) (j := 0) (by decide) (fun i' hne => by
    unfold mCell
    simp only [if_neg hne, mFs])
  rw [← e] at k
  exact k
theorem zmg_233 (hY : Y.1 = RX10) (hd : decode Y.2.1 pc = .ok (.getfield 233, 3)) (hp : pc0 = pc) (k : zZ g Y Q (pc + 3) lv (.int (S.2.2.2.1 12) :: st) (mUp m S h) ce sl) : zZ g Y Q pc0 lv (.ref m :: st) (mUp m S h) ce sl := zg_X10_233 hY hd hp mo_recv rfl k
theorem zmp_233 {x : Int32} (hY : Y.1 = RX10) (hd : decode Y.2.1 pc = .ok (.putfield 233, 3)) (hp : pc0 = pc) (k : zZ g Y Q (pc + 3) lv st (mUp m (S.1, S.2.1, S.2.2.1, va_up S.2.2.2.1 12 x, S.2.2.2.2) h) ce sl) : zZ g Y Q pc0 lv (.int x :: .ref m :: st) (mUp m S h) ce sl := by
  refine zp_X10_233 hY hd hp mo_recv rfl rfl (Nat.le_of_ble_eq_true rfl) ?_
  have e := mUp_set (m := m) (S := S) (S' := (S.1, S.2.1, S.2.2.1, va_up S.2.2.2.1 12 x, S.2.2.2.2)) (h := h) (j := 0) (by decide) (fun i' hne => by
    unfold mCell
    simp only [if_neg hne, mFs])
  rw [← e] at k
  exact k
theorem zmg_249 (hY : Y.1 = RX10) (hd : decode Y.2.1 pc = .ok (.getfield 249, 3)) (hp : pc0 = pc) (k : zZ g Y Q (pc + 3) lv (.int (S.2.2.2.1 11) :: st) (mUp m S h) ce sl) : zZ g Y Q pc0 lv (.ref m :: st) (mUp m S h) ce sl := zg_X10_249 hY hd hp mo_recv rfl k
theorem zmp_249 {x : Int32} (hY : Y.1 = RX10) (hd : decode Y.2.1 pc = .ok (.putfield 249, 3)) (hp : pc0 = pc) (k : zZ g Y Q (pc + 3) lv st (mUp m (S.1, S.2.1, S.2.2.1, va_up S.2.2.2.1 11 x, S.2.2.2.2) h) ce sl) : zZ g Y Q pc0 lv (.int x :: .ref m :: st) (mUp m S h) ce sl := by
  refine zp_X10_249 hY hd hp mo_recv rfl rfl (Nat.le_of_ble_eq_true rfl) ?_
  have e := mUp_set (m := m) (S := S) (S' := (S.1, S.2.1, S.2.2.1, va_up S.2.2.2.1 11 x, S.2.2.2.2)) (h := h) (j := 0) (by decide) (fun i' hne => by
    unfold mCell
    simp only [if_neg hne, mFs])
  rw [← e] at k
  exact k
theorem zmg_258 (hY : Y.1 = RX10) (hd : decode Y.2.1 pc = .ok (.getfield 258, 3)) (hp : pc0 = pc) (k : zZ g Y Q (pc + 3) lv (.int (S.2.2.2.1 10) :: st) (mUp m S h) ce sl) : zZ g Y Q pc0 lv (.ref m :: st) (mUp m S h) ce sl := zg_X10_258 hY hd hp mo_recv rfl k
theorem zmp_258 {x : Int32} (hY : Y.1 = RX10) (hd : decode Y.2.1 pc = .ok (.putfield 258, 3)) (hp : pc0 = pc) (hn : narrow .boolean (.int x) = .int x) (hfit : fits .boolean (.int x) = true) (k : zZ g Y Q (pc + 3) lv st (mUp m (S.1, S.2.1, S.2.2.1, va_up S.2.2.2.1 10 x, S.2.2.2.2) h) ce sl) : zZ g Y Q pc0 lv (.int x :: .ref m :: st) (mUp m S h) ce sl := by
  refine zp_X10_258 hY hd hp mo_recv hn hfit (Nat.le_of_ble_eq_true rfl) ?_
  have e := mUp_set (m := m) (S := S) (S' := (S.1, S.2.1, S.2.2.1, va_up S.2.2.2.1 10 x, S.2.2.2.2)) (h := h) (j := 0) (by decide) (fun i' hne => by
    unfold mCell
    simp only [if_neg hne, mFs])
  rw [← e] at k
  exact k
theorem zmg_303 (hY : Y.1 = RX10) (hd : decode Y.2.1 pc = .ok (.getfield 303, 3)) (hp : pc0 = pc) (k : zZ g Y Q (pc + 3) lv (.int (S.2.2.2.1 22) :: st) (mUp m S h) ce sl) : zZ g Y Q pc0 lv (.ref m :: st) (mUp m S h) ce sl := zg_X10_303 hY hd hp mo_recv rfl k
theorem zmp_303 {x : Int32} (hY : Y.1 = RX10) (hd : decode Y.2.1 pc = .ok (.putfield 303, 3)) (hp : pc0 = pc) (k : zZ g Y Q (pc + 3) lv st (mUp m (S.1, S.2.1, S.2.2.1, va_up S.2.2.2.1 22 x, S.2.2.2.2) h) ce sl) : zZ g Y Q pc0 lv (.int x :: .ref m :: st) (mUp m S h) ce sl := by
  refine zp_X10_303 hY hd hp mo_recv rfl rfl (Nat.le_of_ble_eq_true rfl) ?_
  have e := mUp_set (m := m) (S := S) (S' := (S.1, S.2.1, S.2.2.1, va_up S.2.2.2.1 22 x, S.2.2.2.2)) (h := h) (j := 0) (by decide) (fun i' hne => by
    unfold mCell
    simp only [if_neg hne, mFs])
  rw [← e] at k
  exact k
theorem zmg_306 (hY : Y.1 = RX10) (hd : decode Y.2.1 pc = .ok (.getfield 306, 3)) (hp : pc0 = pc) (k : zZ g Y Q (pc + 3) lv (.int (S.2.2.2.1 23) :: st) (mUp m S h) ce sl) : zZ g Y Q pc0 lv (.ref m :: st) (mUp m S h) ce sl := zg_X10_306 hY hd hp mo_recv rfl k
theorem zmp_306 {x : Int32} (hY : Y.1 = RX10) (hd : decode Y.2.1 pc = .ok (.putfield 306, 3)) (hp : pc0 = pc) (k : zZ g Y Q (pc + 3) lv st (mUp m (S.1, S.2.1, S.2.2.1, va_up S.2.2.2.1 23 x, S.2.2.2.2) h) ce sl) : zZ g Y Q pc0 lv (.int x :: .ref m :: st) (mUp m S h) ce sl := by
  refine zp_X10_306 hY hd hp mo_recv rfl rfl (Nat.le_of_ble_eq_true rfl) ?_
  have e := mUp_set (m := m) (S := S) (S' := (S.1, S.2.1, S.2.2.1, va_up S.2.2.2.1 23 x, S.2.2.2.2)) (h := h) (j := 0) (by decide) (fun i' hne => by
    unfold mCell
    simp only [if_neg hne, mFs])
  rw [← e] at k
  exact k
end ZMo
