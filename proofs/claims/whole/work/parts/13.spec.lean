section ZC
variable {g : zG} {Y : zY} {Q : Array Value → List Frame → State → State → Prop} {pc pc0 : Nat} {lv : List (Nat × Value)} {st : List Value} {h : zH} {ce sl : Nat}
theorem z_lc_eq {x y : Int64} {off : Int} {tgt : Nat} (hd1 : decode Y.2.1 pc = .ok (.lcmp, 1)) (hp : pc0 = pc) (hd2 : decode Y.2.1 (pc + 1) = .ok (.ifCond .eq off, 3)) (ht : ((pc + 1 : Nat) : Int) + off = (tgt : Int)) (kt : x = y → zZ g Y Q tgt lv st h ce sl) (kf : ¬ x = y → zZ g Y Q (pc + 1 + 3) lv st h ce sl) : zZ g Y Q pc0 lv (.long y :: .long x :: st) h ce sl := z_lcmp hd1 hp (z_if_eq hd2 rfl ht (fun q => kt ((lg_cmp_eq x y).mp q)) (fun q => kf (fun z => q ((lg_cmp_eq x y).mpr z))))
theorem z_lc_ne {x y : Int64} {off : Int} {tgt : Nat} (hd1 : decode Y.2.1 pc = .ok (.lcmp, 1)) (hp : pc0 = pc) (hd2 : decode Y.2.1 (pc + 1) = .ok (.ifCond .ne off, 3)) (ht : ((pc + 1 : Nat) : Int) + off = (tgt : Int)) (kt : ¬ x = y → zZ g Y Q tgt lv st h ce sl) (kf : x = y → zZ g Y Q (pc + 1 + 3) lv st h ce sl) : zZ g Y Q pc0 lv (.long y :: .long x :: st) h ce sl := z_lcmp hd1 hp (z_if_ne hd2 rfl ht (fun q => kt (fun z => q ((lg_cmp_eq x y).mpr z))) (fun q => kf ((lg_cmp_eq x y).mp q)))
theorem z_lc_lt {x y : Int64} {off : Int} {tgt : Nat} (hd1 : decode Y.2.1 pc = .ok (.lcmp, 1)) (hp : pc0 = pc) (hd2 : decode Y.2.1 (pc + 1) = .ok (.ifCond .lt off, 3)) (ht : ((pc + 1 : Nat) : Int) + off = (tgt : Int)) (kt : x < y → zZ g Y Q tgt lv st h ce sl) (kf : ¬ x < y → zZ g Y Q (pc + 1 + 3) lv st h ce sl) : zZ g Y Q pc0 lv (.long y :: .long x :: st) h ce sl := z_lcmp hd1 hp (z_if_lt hd2 rfl ht (fun q => kt ((lg_cmp_lt x y).mp q)) (fun q => kf (fun z => q ((lg_cmp_lt x y).mpr z))))
theorem z_lc_ge {x y : Int64} {off : Int} {tgt : Nat} (hd1 : decode Y.2.1 pc = .ok (.lcmp, 1)) (hp : pc0 = pc) (hd2 : decode Y.2.1 (pc + 1) = .ok (.ifCond .ge off, 3)) (ht : ((pc + 1 : Nat) : Int) + off = (tgt : Int)) (kt : y ≤ x → zZ g Y Q tgt lv st h ce sl) (kf : ¬ y ≤ x → zZ g Y Q (pc + 1 + 3) lv st h ce sl) : zZ g Y Q pc0 lv (.long y :: .long x :: st) h ce sl := z_lcmp hd1 hp (z_if_ge hd2 rfl ht (fun q => kt ((lg_cmp_ge x y).mp q)) (fun q => kf (fun z => q ((lg_cmp_ge x y).mpr z))))
theorem z_lc_gt {x y : Int64} {off : Int} {tgt : Nat} (hd1 : decode Y.2.1 pc = .ok (.lcmp, 1)) (hp : pc0 = pc) (hd2 : decode Y.2.1 (pc + 1) = .ok (.ifCond .gt off, 3)) (ht : ((pc + 1 : Nat) : Int) + off = (tgt : Int)) (kt : y < x → zZ g Y Q tgt lv st h ce sl) (kf : ¬ y < x → zZ g Y Q (pc + 1 + 3) lv st h ce sl) : zZ g Y Q pc0 lv (.long y :: .long x :: st) h ce sl := z_lcmp hd1 hp (z_if_gt hd2 rfl ht (fun q => kt ((lg_cmp_gt x y).mp q)) (fun q => kf (fun z => q ((lg_cmp_gt x y).mpr z))))
theorem z_lc_le {x y : Int64} {off : Int} {tgt : Nat} (hd1 : decode Y.2.1 pc = .ok (.lcmp, 1)) (hp : pc0 = pc) (hd2 : decode Y.2.1 (pc + 1) = .ok (.ifCond .le off, 3)) (ht : ((pc + 1 : Nat) : Int) + off = (tgt : Int)) (kt : x ≤ y → zZ g Y Q tgt lv st h ce sl) (kf : ¬ x ≤ y → zZ g Y Q (pc + 1 + 3) lv st h ce sl) : zZ g Y Q pc0 lv (.long y :: .long x :: st) h ce sl := z_lcmp hd1 hp (z_if_le hd2 rfl ht (fun q => kt ((lg_cmp_le x y).mp q)) (fun q => kf (fun z => q ((lg_cmp_le x y).mpr z))))
theorem z_dc_eq {x y : UInt64} {op : CmpOp} {off : Int} {tgt : Nat} (hd1 : decode Y.2.1 pc = .ok (.dcmp op, 1)) (hp : pc0 = pc) (hd2 : decode Y.2.1 (pc + 1) = .ok (.ifCond .eq off, 3)) (ht : ((pc + 1 : Nat) : Int) + off = (tgt : Int)) (hn : FP.dcmp x y ≠ none) (kt : FP.dcmp x y = some .eq → zZ g Y Q tgt lv st h ce sl) (kf : ¬ FP.dcmp x y = some .eq → zZ g Y Q (pc + 1 + 3) lv st h ce sl) : zZ g Y Q pc0 lv (.double y :: .double x :: st) h ce sl := by
  refine z_dcmp hd1 hp ?_
  cases ho : FP.dcmp x y with
  | none => exact absurd ho hn
  | some o =>
    rw [ho] at kt kf
    cases o
    · exact z_if_eq hd2 rfl ht (fun q => by first | exact kt rfl | (exfalso; revert q; cases op <;> decide) | exact kt (fun z => by cases z)) (fun q => by first | exact kf rfl | (exfalso; revert q; cases op <;> decide) | exact kf (fun z => by cases z))
    · exact z_if_eq hd2 rfl ht (fun q => by first | exact kt rfl | (exfalso; revert q; cases op <;> decide) | exact kt (fun z => by cases z)) (fun q => by first | exact kf rfl | (exfalso; revert q; cases op <;> decide) | exact kf (fun z => by cases z))
    · exact z_if_eq hd2 rfl ht (fun q => by first | exact kt rfl | (exfalso; revert q; cases op <;> decide) | exact kt (fun z => by cases z)) (fun q => by first | exact kf rfl | (exfalso; revert q; cases op <;> decide) | exact kf (fun z => by cases z))
theorem z_dc_ne {x y : UInt64} {op : CmpOp} {off : Int} {tgt : Nat} (hd1 : decode Y.2.1 pc = .ok (.dcmp op, 1)) (hp : pc0 = pc) (hd2 : decode Y.2.1 (pc + 1) = .ok (.ifCond .ne off, 3)) (ht : ((pc + 1 : Nat) : Int) + off = (tgt : Int)) (hn : FP.dcmp x y ≠ none) (kt : ¬ FP.dcmp x y = some .eq → zZ g Y Q tgt lv st h ce sl) (kf : FP.dcmp x y = some .eq → zZ g Y Q (pc + 1 + 3) lv st h ce sl) : zZ g Y Q pc0 lv (.double y :: .double x :: st) h ce sl := by
  refine z_dcmp hd1 hp ?_
  cases ho : FP.dcmp x y with
  | none => exact absurd ho hn
  | some o =>
    rw [ho] at kt kf
    cases o
    · exact z_if_ne hd2 rfl ht (fun q => by first | exact kt rfl | (exfalso; revert q; cases op <;> decide) | exact kt (fun z => by cases z)) (fun q => by first | exact kf rfl | (exfalso; revert q; cases op <;> decide) | exact kf (fun z => by cases z))
    · exact z_if_ne hd2 rfl ht (fun q => by first | exact kt rfl | (exfalso; revert q; cases op <;> decide) | exact kt (fun z => by cases z)) (fun q => by first | exact kf rfl | (exfalso; revert q; cases op <;> decide) | exact kf (fun z => by cases z))
    · exact z_if_ne hd2 rfl ht (fun q => by first | exact kt rfl | (exfalso; revert q; cases op <;> decide) | exact kt (fun z => by cases z)) (fun q => by first | exact kf rfl | (exfalso; revert q; cases op <;> decide) | exact kf (fun z => by cases z))
theorem z_dc_lt {x y : UInt64} {op : CmpOp} {off : Int} {tgt : Nat} (hd1 : decode Y.2.1 pc = .ok (.dcmp op, 1)) (hp : pc0 = pc) (hd2 : decode Y.2.1 (pc + 1) = .ok (.ifCond .lt off, 3)) (ht : ((pc + 1 : Nat) : Int) + off = (tgt : Int)) (hn : FP.dcmp x y ≠ none) (kt : FP.dcmp x y = some .lt → zZ g Y Q tgt lv st h ce sl) (kf : ¬ FP.dcmp x y = some .lt → zZ g Y Q (pc + 1 + 3) lv st h ce sl) : zZ g Y Q pc0 lv (.double y :: .double x :: st) h ce sl := by
  refine z_dcmp hd1 hp ?_
  cases ho : FP.dcmp x y with
  | none => exact absurd ho hn
  | some o =>
    rw [ho] at kt kf
    cases o
    · exact z_if_lt hd2 rfl ht (fun q => by first | exact kt rfl | (exfalso; revert q; cases op <;> decide) | exact kt (fun z => by cases z)) (fun q => by first | exact kf rfl | (exfalso; revert q; cases op <;> decide) | exact kf (fun z => by cases z))
    · exact z_if_lt hd2 rfl ht (fun q => by first | exact kt rfl | (exfalso; revert q; cases op <;> decide) | exact kt (fun z => by cases z)) (fun q => by first | exact kf rfl | (exfalso; revert q; cases op <;> decide) | exact kf (fun z => by cases z))
    · exact z_if_lt hd2 rfl ht (fun q => by first | exact kt rfl | (exfalso; revert q; cases op <;> decide) | exact kt (fun z => by cases z)) (fun q => by first | exact kf rfl | (exfalso; revert q; cases op <;> decide) | exact kf (fun z => by cases z))
theorem z_dc_ge {x y : UInt64} {op : CmpOp} {off : Int} {tgt : Nat} (hd1 : decode Y.2.1 pc = .ok (.dcmp op, 1)) (hp : pc0 = pc) (hd2 : decode Y.2.1 (pc + 1) = .ok (.ifCond .ge off, 3)) (ht : ((pc + 1 : Nat) : Int) + off = (tgt : Int)) (hn : FP.dcmp x y ≠ none) (kt : ¬ FP.dcmp x y = some .lt → zZ g Y Q tgt lv st h ce sl) (kf : FP.dcmp x y = some .lt → zZ g Y Q (pc + 1 + 3) lv st h ce sl) : zZ g Y Q pc0 lv (.double y :: .double x :: st) h ce sl := by
  refine z_dcmp hd1 hp ?_
  cases ho : FP.dcmp x y with
  | none => exact absurd ho hn
  | some o =>
    rw [ho] at kt kf
    cases o
    · exact z_if_ge hd2 rfl ht (fun q => by first | exact kt rfl | (exfalso; revert q; cases op <;> decide) | exact kt (fun z => by cases z)) (fun q => by first | exact kf rfl | (exfalso; revert q; cases op <;> decide) | exact kf (fun z => by cases z))
    · exact z_if_ge hd2 rfl ht (fun q => by first | exact kt rfl | (exfalso; revert q; cases op <;> decide) | exact kt (fun z => by cases z)) (fun q => by first | exact kf rfl | (exfalso; revert q; cases op <;> decide) | exact kf (fun z => by cases z))
    · exact z_if_ge hd2 rfl ht (fun q => by first | exact kt rfl | (exfalso; revert q; cases op <;> decide) | exact kt (fun z => by cases z)) (fun q => by first | exact kf rfl | (exfalso; revert q; cases op <;> decide) | exact kf (fun z => by cases z))
theorem z_dc_gt {x y : UInt64} {op : CmpOp} {off : Int} {tgt : Nat} (hd1 : decode Y.2.1 pc = .ok (.dcmp op, 1)) (hp : pc0 = pc) (hd2 : decode Y.2.1 (pc + 1) = .ok (.ifCond .gt off, 3)) (ht : ((pc + 1 : Nat) : Int) + off = (tgt : Int)) (hn : FP.dcmp x y ≠ none) (kt : FP.dcmp x y = some .gt → zZ g Y Q tgt lv st h ce sl) (kf : ¬ FP.dcmp x y = some .gt → zZ g Y Q (pc + 1 + 3) lv st h ce sl) : zZ g Y Q pc0 lv (.double y :: .double x :: st) h ce sl := by
  refine z_dcmp hd1 hp ?_
  cases ho : FP.dcmp x y with
  | none => exact absurd ho hn
  | some o =>
    rw [ho] at kt kf
    cases o
    · exact z_if_gt hd2 rfl ht (fun q => by first | exact kt rfl | (exfalso; revert q; cases op <;> decide) | exact kt (fun z => by cases z)) (fun q => by first | exact kf rfl | (exfalso; revert q; cases op <;> decide) | exact kf (fun z => by cases z))
    · exact z_if_gt hd2 rfl ht (fun q => by first | exact kt rfl | (exfalso; revert q; cases op <;> decide) | exact kt (fun z => by cases z)) (fun q => by first | exact kf rfl | (exfalso; revert q; cases op <;> decide) | exact kf (fun z => by cases z))
    · exact z_if_gt hd2 rfl ht (fun q => by first | exact kt rfl | (exfalso; revert q; cases op <;> decide) | exact kt (fun z => by cases z)) (fun q => by first | exact kf rfl | (exfalso; revert q; cases op <;> decide) | exact kf (fun z => by cases z))
theorem z_dc_le {x y : UInt64} {op : CmpOp} {off : Int} {tgt : Nat} (hd1 : decode Y.2.1 pc = .ok (.dcmp op, 1)) (hp : pc0 = pc) (hd2 : decode Y.2.1 (pc + 1) = .ok (.ifCond .le off, 3)) (ht : ((pc + 1 : Nat) : Int) + off = (tgt : Int)) (hn : FP.dcmp x y ≠ none) (kt : ¬ FP.dcmp x y = some .gt → zZ g Y Q tgt lv st h ce sl) (kf : FP.dcmp x y = some .gt → zZ g Y Q (pc + 1 + 3) lv st h ce sl) : zZ g Y Q pc0 lv (.double y :: .double x :: st) h ce sl := by
  refine z_dcmp hd1 hp ?_
  cases ho : FP.dcmp x y with
  | none => exact absurd ho hn
  | some o =>
    rw [ho] at kt kf
    cases o
    · exact z_if_le hd2 rfl ht (fun q => by first | exact kt rfl | (exfalso; revert q; cases op <;> decide) | exact kt (fun z => by cases z)) (fun q => by first | exact kf rfl | (exfalso; revert q; cases op <;> decide) | exact kf (fun z => by cases z))
    · exact z_if_le hd2 rfl ht (fun q => by first | exact kt rfl | (exfalso; revert q; cases op <;> decide) | exact kt (fun z => by cases z)) (fun q => by first | exact kf rfl | (exfalso; revert q; cases op <;> decide) | exact kf (fun z => by cases z))
    · exact z_if_le hd2 rfl ht (fun q => by first | exact kt rfl | (exfalso; revert q; cases op <;> decide) | exact kt (fun z => by cases z)) (fun q => by first | exact kf rfl | (exfalso; revert q; cases op <;> decide) | exact kf (fun z => by cases z))
theorem z_fc_eq {x y : UInt32} {op : CmpOp} {off : Int} {tgt : Nat} (hd1 : decode Y.2.1 pc = .ok (.fcmp op, 1)) (hp : pc0 = pc) (hd2 : decode Y.2.1 (pc + 1) = .ok (.ifCond .eq off, 3)) (ht : ((pc + 1 : Nat) : Int) + off = (tgt : Int)) (hn : FP.fcmp x y ≠ none) (kt : FP.fcmp x y = some .eq → zZ g Y Q tgt lv st h ce sl) (kf : ¬ FP.fcmp x y = some .eq → zZ g Y Q (pc + 1 + 3) lv st h ce sl) : zZ g Y Q pc0 lv (.float y :: .float x :: st) h ce sl := by
  refine z_fcmp hd1 hp ?_
  cases ho : FP.fcmp x y with
  | none => exact absurd ho hn
  | some o =>
    rw [ho] at kt kf
    cases o
    · exact z_if_eq hd2 rfl ht (fun q => by first | exact kt rfl | (exfalso; revert q; cases op <;> decide) | exact kt (fun z => by cases z)) (fun q => by first | exact kf rfl | (exfalso; revert q; cases op <;> decide) | exact kf (fun z => by cases z))
    · exact z_if_eq hd2 rfl ht (fun q => by first | exact kt rfl | (exfalso; revert q; cases op <;> decide) | exact kt (fun z => by cases z)) (fun q => by first | exact kf rfl | (exfalso; revert q; cases op <;> decide) | exact kf (fun z => by cases z))
    · exact z_if_eq hd2 rfl ht (fun q => by first | exact kt rfl | (exfalso; revert q; cases op <;> decide) | exact kt (fun z => by cases z)) (fun q => by first | exact kf rfl | (exfalso; revert q; cases op <;> decide) | exact kf (fun z => by cases z))
theorem z_fc_ne {x y : UInt32} {op : CmpOp} {off : Int} {tgt : Nat} (hd1 : decode Y.2.1 pc = .ok (.fcmp op, 1)) (hp : pc0 = pc) (hd2 : decode Y.2.1 (pc + 1) = .ok (.ifCond .ne off, 3)) (ht : ((pc + 1 : Nat) : Int) + off = (tgt : Int)) (hn : FP.fcmp x y ≠ none) (kt : ¬ FP.fcmp x y = some .eq → zZ g Y Q tgt lv st h ce sl) (kf : FP.fcmp x y = some .eq → zZ g Y Q (pc + 1 + 3) lv st h ce sl) : zZ g Y Q pc0 lv (.float y :: .float x :: st) h ce sl := by
  refine z_fcmp hd1 hp ?_
  cases ho : FP.fcmp x y with
  | none => exact absurd ho hn
  | some o =>
    rw [ho] at kt kf
    cases o
    · exact z_if_ne hd2 rfl ht (fun q => by first | exact kt rfl | (exfalso; revert q; cases op <;> decide) | exact kt (fun z => by cases z)) (fun q => by first | exact kf rfl | (exfalso; revert q; cases op <;> decide) | exact kf (fun z => by cases z))
    · exact z_if_ne hd2 rfl ht (fun q => by first | exact kt rfl | (exfalso; revert q; cases op <;> decide) | exact kt (fun z => by cases z)) (fun q => by first | exact kf rfl | (exfalso; revert q; cases op <;> decide) | exact kf (fun z => by cases z))
    · exact z_if_ne hd2 rfl ht (fun q => by first | exact kt rfl | (exfalso; revert q; cases op <;> decide) | exact kt (fun z => by cases z)) (fun q => by first | exact kf rfl | (exfalso; revert q; cases op <;> decide) | exact kf (fun z => by cases z))
theorem z_fc_lt {x y : UInt32} {op : CmpOp} {off : Int} {tgt : Nat} (hd1 : decode Y.2.1 pc = .ok (.fcmp op, 1)) (hp : pc0 = pc) (hd2 : decode Y.2.1 (pc + 1) = .ok (.ifCond .lt off, 3)) (ht : ((pc + 1 : Nat) : Int) + off = (tgt : Int)) (hn : FP.fcmp x y ≠ none) (kt : FP.fcmp x y = some .lt → zZ g Y Q tgt lv st h ce sl) (kf : ¬ FP.fcmp x y = some .lt → zZ g Y Q (pc + 1 + 3) lv st h ce sl) : zZ g Y Q pc0 lv (.float y :: .float x :: st) h ce sl := by
  refine z_fcmp hd1 hp ?_
  cases ho : FP.fcmp x y with
  | none => exact absurd ho hn
  | some o =>
    rw [ho] at kt kf
    cases o
    · exact z_if_lt hd2 rfl ht (fun q => by first | exact kt rfl | (exfalso; revert q; cases op <;> decide) | exact kt (fun z => by cases z)) (fun q => by first | exact kf rfl | (exfalso; revert q; cases op <;> decide) | exact kf (fun z => by cases z))
    · exact z_if_lt hd2 rfl ht (fun q => by first | exact kt rfl | (exfalso; revert q; cases op <;> decide) | exact kt (fun z => by cases z)) (fun q => by first | exact kf rfl | (exfalso; revert q; cases op <;> decide) | exact kf (fun z => by cases z))
    · exact z_if_lt hd2 rfl ht (fun q => by first | exact kt rfl | (exfalso; revert q; cases op <;> decide) | exact kt (fun z => by cases z)) (fun q => by first | exact kf rfl | (exfalso; revert q; cases op <;> decide) | exact kf (fun z => by cases z))
theorem z_fc_ge {x y : UInt32} {op : CmpOp} {off : Int} {tgt : Nat} (hd1 : decode Y.2.1 pc = .ok (.fcmp op, 1)) (hp : pc0 = pc) (hd2 : decode Y.2.1 (pc + 1) = .ok (.ifCond .ge off, 3)) (ht : ((pc + 1 : Nat) : Int) + off = (tgt : Int)) (hn : FP.fcmp x y ≠ none) (kt : ¬ FP.fcmp x y = some .lt → zZ g Y Q tgt lv st h ce sl) (kf : FP.fcmp x y = some .lt → zZ g Y Q (pc + 1 + 3) lv st h ce sl) : zZ g Y Q pc0 lv (.float y :: .float x :: st) h ce sl := by
  refine z_fcmp hd1 hp ?_
  cases ho : FP.fcmp x y with
  | none => exact absurd ho hn
  | some o =>
    rw [ho] at kt kf
    cases o
    · exact z_if_ge hd2 rfl ht (fun q => by first | exact kt rfl | (exfalso; revert q; cases op <;> decide) | exact kt (fun z => by cases z)) (fun q => by first | exact kf rfl | (exfalso; revert q; cases op <;> decide) | exact kf (fun z => by cases z))
    · exact z_if_ge hd2 rfl ht (fun q => by first | exact kt rfl | (exfalso; revert q; cases op <;> decide) | exact kt (fun z => by cases z)) (fun q => by first | exact kf rfl | (exfalso; revert q; cases op <;> decide) | exact kf (fun z => by cases z))
    · exact z_if_ge hd2 rfl ht (fun q => by first | exact kt rfl | (exfalso; revert q; cases op <;> decide) | exact kt (fun z => by cases z)) (fun q => by first | exact kf rfl | (exfalso; revert q; cases op <;> decide) | exact kf (fun z => by cases z))
theorem z_fc_gt {x y : UInt32} {op : CmpOp} {off : Int} {tgt : Nat} (hd1 : decode Y.2.1 pc = .ok (.fcmp op, 1)) (hp : pc0 = pc) (hd2 : decode Y.2.1 (pc + 1) = .ok (.ifCond .gt off, 3)) (ht : ((pc + 1 : Nat) : Int) + off = (tgt : Int)) (hn : FP.fcmp x y ≠ none) (kt : FP.fcmp x y = some .gt → zZ g Y Q tgt lv st h ce sl) (kf : ¬ FP.fcmp x y = some .gt → zZ g Y Q (pc + 1 + 3) lv st h ce sl) : zZ g Y Q pc0 lv (.float y :: .float x :: st) h ce sl := by
  refine z_fcmp hd1 hp ?_
  cases ho : FP.fcmp x y with
  | none => exact absurd ho hn
  | some o =>
    rw [ho] at kt kf
    cases o
    · exact z_if_gt hd2 rfl ht (fun q => by first | exact kt rfl | (exfalso; revert q; cases op <;> decide) | exact kt (fun z => by cases z)) (fun q => by first | exact kf rfl | (exfalso; revert q; cases op <;> decide) | exact kf (fun z => by cases z))
    · exact z_if_gt hd2 rfl ht (fun q => by first | exact kt rfl | (exfalso; revert q; cases op <;> decide) | exact kt (fun z => by cases z)) (fun q => by first | exact kf rfl | (exfalso; revert q; cases op <;> decide) | exact kf (fun z => by cases z))
    · exact z_if_gt hd2 rfl ht (fun q => by first | exact kt rfl | (exfalso; revert q; cases op <;> decide) | exact kt (fun z => by cases z)) (fun q => by first | exact kf rfl | (exfalso; revert q; cases op <;> decide) | exact kf (fun z => by cases z))
theorem z_fc_le {x y : UInt32} {op : CmpOp} {off : Int} {tgt : Nat} (hd1 : decode Y.2.1 pc = .ok (.fcmp op, 1)) (hp : pc0 = pc) (hd2 : decode Y.2.1 (pc + 1) = .ok (.ifCond .le off, 3)) (ht : ((pc + 1 : Nat) : Int) + off = (tgt : Int)) (hn : FP.fcmp x y ≠ none) (kt : ¬ FP.fcmp x y = some .gt → zZ g Y Q tgt lv st h ce sl) (kf : FP.fcmp x y = some .gt → zZ g Y Q (pc + 1 + 3) lv st h ce sl) : zZ g Y Q pc0 lv (.float y :: .float x :: st) h ce sl := by
  refine z_fcmp hd1 hp ?_
  cases ho : FP.fcmp x y with
  | none => exact absurd ho hn
  | some o =>
    rw [ho] at kt kf
    cases o
    · exact z_if_le hd2 rfl ht (fun q => by first | exact kt rfl | (exfalso; revert q; cases op <;> decide) | exact kt (fun z => by cases z)) (fun q => by first | exact kf rfl | (exfalso; revert q; cases op <;> decide) | exact kf (fun z => by cases z))
    · exact z_if_le hd2 rfl ht (fun q => by first | exact kt rfl | (exfalso; revert q; cases op <;> decide) | exact kt (fun z => by cases z)) (fun q => by first | exact kf rfl | (exfalso; revert q; cases op <;> decide) | exact kf (fun z => by cases z))
    · exact z_if_le hd2 rfl ht (fun q => by first | exact kt rfl | (exfalso; revert q; cases op <;> decide) | exact kt (fun z => by cases z)) (fun q => by first | exact kf rfl | (exfalso; revert q; cases op <;> decide) | exact kf (fun z => by cases z))
theorem sw_out {x M : Int32} {n : Int} (h : x < 0 ∨ M < x) (hM : M.toInt = n := by decide) : x.toInt < 0 ∨ n < x.toInt := by
  rcases h with h | h
  · exact Or.inl (Int32.lt_iff_toInt_lt.mp h)
  · exact Or.inr (by rw [← hM]; exact Int32.lt_iff_toInt_lt.mp h)
theorem z_sw2 {x : Int32} (kd : x < 0 ∨ 2 < x → zZ g Y Q pc lv (.int x :: st) h ce sl) (k0 : x = 0 → zZ g Y Q pc lv (.int 0 :: st) h ce sl) (k1 : x = 1 → zZ g Y Q pc lv (.int 1 :: st) h ce sl) (k2 : x = 2 → zZ g Y Q pc lv (.int 2 :: st) h ce sl) : zZ g Y Q pc lv (.int x :: st) h ce sl := by
  by_cases hx : x < 0 ∨ 2 < x
  · exact kd hx
  · have h1 : ¬ x.toInt < 0 := fun q => hx (Or.inl (Int32.lt_iff_toInt_lt.mpr q))
    have h2 : ¬ ((2 : Int32).toInt) < x.toInt := fun q => hx (Or.inr (Int32.lt_iff_toInt_lt.mpr q))
    have h3 : ((2 : Int32).toInt) = 2 := by decide
    rw [h3] at h2
    have e : x = Int32.ofInt x.toInt := (Int32.ofInt_toInt x).symm
    have : x.toInt = 0 ∨ x.toInt = 1 ∨ x.toInt = 2 := by omega
    rcases this with q | q | q
    · rw [q] at e; subst e; exact k0 rfl
    · rw [q] at e; subst e; exact k1 rfl
    · rw [q] at e; subst e; exact k2 rfl
theorem z_sw3 {x : Int32} (kd : x < 0 ∨ 3 < x → zZ g Y Q pc lv (.int x :: st) h ce sl) (k0 : x = 0 → zZ g Y Q pc lv (.int 0 :: st) h ce sl) (k1 : x = 1 → zZ g Y Q pc lv (.int 1 :: st) h ce sl) (k2 : x = 2 → zZ g Y Q pc lv (.int 2 :: st) h ce sl) (k3 : x = 3 → zZ g Y Q pc lv (.int 3 :: st) h ce sl) : zZ g Y Q pc lv (.int x :: st) h ce sl := by
  by_cases hx : x < 0 ∨ 3 < x
  · exact kd hx
  · have h1 : ¬ x.toInt < 0 := fun q => hx (Or.inl (Int32.lt_iff_toInt_lt.mpr q))
    have h2 : ¬ ((3 : Int32).toInt) < x.toInt := fun q => hx (Or.inr (Int32.lt_iff_toInt_lt.mpr q))
    have h3 : ((3 : Int32).toInt) = 3 := by decide
    rw [h3] at h2
    have e : x = Int32.ofInt x.toInt := (Int32.ofInt_toInt x).symm
    have : x.toInt = 0 ∨ x.toInt = 1 ∨ x.toInt = 2 ∨ x.toInt = 3 := by omega
    rcases this with q | q | q | q
    · rw [q] at e; subst e; exact k0 rfl
    · rw [q] at e; subst e; exact k1 rfl
    · rw [q] at e; subst e; exact k2 rfl
    · rw [q] at e; subst e; exact k3 rfl
theorem z_sw5 {x : Int32} (kd : x < 0 ∨ 5 < x → zZ g Y Q pc lv (.int x :: st) h ce sl) (k0 : x = 0 → zZ g Y Q pc lv (.int 0 :: st) h ce sl) (k1 : x = 1 → zZ g Y Q pc lv (.int 1 :: st) h ce sl) (k2 : x = 2 → zZ g Y Q pc lv (.int 2 :: st) h ce sl) (k3 : x = 3 → zZ g Y Q pc lv (.int 3 :: st) h ce sl) (k4 : x = 4 → zZ g Y Q pc lv (.int 4 :: st) h ce sl) (k5 : x = 5 → zZ g Y Q pc lv (.int 5 :: st) h ce sl) : zZ g Y Q pc lv (.int x :: st) h ce sl := by
  by_cases hx : x < 0 ∨ 5 < x
  · exact kd hx
  · have h1 : ¬ x.toInt < 0 := fun q => hx (Or.inl (Int32.lt_iff_toInt_lt.mpr q))
    have h2 : ¬ ((5 : Int32).toInt) < x.toInt := fun q => hx (Or.inr (Int32.lt_iff_toInt_lt.mpr q))
    have h3 : ((5 : Int32).toInt) = 5 := by decide
    rw [h3] at h2
    have e : x = Int32.ofInt x.toInt := (Int32.ofInt_toInt x).symm
    have : x.toInt = 0 ∨ x.toInt = 1 ∨ x.toInt = 2 ∨ x.toInt = 3 ∨ x.toInt = 4 ∨ x.toInt = 5 := by omega
    rcases this with q | q | q | q | q | q
    · rw [q] at e; subst e; exact k0 rfl
    · rw [q] at e; subst e; exact k1 rfl
    · rw [q] at e; subst e; exact k2 rfl
    · rw [q] at e; subst e; exact k3 rfl
    · rw [q] at e; subst e; exact k4 rfl
    · rw [q] at e; subst e; exact k5 rfl
theorem z_sw6 {x : Int32} (kd : x < 0 ∨ 6 < x → zZ g Y Q pc lv (.int x :: st) h ce sl) (k0 : x = 0 → zZ g Y Q pc lv (.int 0 :: st) h ce sl) (k1 : x = 1 → zZ g Y Q pc lv (.int 1 :: st) h ce sl) (k2 : x = 2 → zZ g Y Q pc lv (.int 2 :: st) h ce sl) (k3 : x = 3 → zZ g Y Q pc lv (.int 3 :: st) h ce sl) (k4 : x = 4 → zZ g Y Q pc lv (.int 4 :: st) h ce sl) (k5 : x = 5 → zZ g Y Q pc lv (.int 5 :: st) h ce sl) (k6 : x = 6 → zZ g Y Q pc lv (.int 6 :: st) h ce sl) : zZ g Y Q pc lv (.int x :: st) h ce sl := by
  by_cases hx : x < 0 ∨ 6 < x
  · exact kd hx
  · have h1 : ¬ x.toInt < 0 := fun q => hx (Or.inl (Int32.lt_iff_toInt_lt.mpr q))
    have h2 : ¬ ((6 : Int32).toInt) < x.toInt := fun q => hx (Or.inr (Int32.lt_iff_toInt_lt.mpr q))
    have h3 : ((6 : Int32).toInt) = 6 := by decide
    rw [h3] at h2
    have e : x = Int32.ofInt x.toInt := (Int32.ofInt_toInt x).symm
    have : x.toInt = 0 ∨ x.toInt = 1 ∨ x.toInt = 2 ∨ x.toInt = 3 ∨ x.toInt = 4 ∨ x.toInt = 5 ∨ x.toInt = 6 := by omega
    rcases this with q | q | q | q | q | q | q
    · rw [q] at e; subst e; exact k0 rfl
    · rw [q] at e; subst e; exact k1 rfl
    · rw [q] at e; subst e; exact k2 rfl
    · rw [q] at e; subst e; exact k3 rfl
    · rw [q] at e; subst e; exact k4 rfl
    · rw [q] at e; subst e; exact k5 rfl
    · rw [q] at e; subst e; exact k6 rfl
theorem z_sw8 {x : Int32} (kd : x < 0 ∨ 8 < x → zZ g Y Q pc lv (.int x :: st) h ce sl) (k0 : x = 0 → zZ g Y Q pc lv (.int 0 :: st) h ce sl) (k1 : x = 1 → zZ g Y Q pc lv (.int 1 :: st) h ce sl) (k2 : x = 2 → zZ g Y Q pc lv (.int 2 :: st) h ce sl) (k3 : x = 3 → zZ g Y Q pc lv (.int 3 :: st) h ce sl) (k4 : x = 4 → zZ g Y Q pc lv (.int 4 :: st) h ce sl) (k5 : x = 5 → zZ g Y Q pc lv (.int 5 :: st) h ce sl) (k6 : x = 6 → zZ g Y Q pc lv (.int 6 :: st) h ce sl) (k7 : x = 7 → zZ g Y Q pc lv (.int 7 :: st) h ce sl) (k8 : x = 8 → zZ g Y Q pc lv (.int 8 :: st) h ce sl) : zZ g Y Q pc lv (.int x :: st) h ce sl := by
  by_cases hx : x < 0 ∨ 8 < x
  · exact kd hx
  · have h1 : ¬ x.toInt < 0 := fun q => hx (Or.inl (Int32.lt_iff_toInt_lt.mpr q))
    have h2 : ¬ ((8 : Int32).toInt) < x.toInt := fun q => hx (Or.inr (Int32.lt_iff_toInt_lt.mpr q))
    have h3 : ((8 : Int32).toInt) = 8 := by decide
    rw [h3] at h2
    have e : x = Int32.ofInt x.toInt := (Int32.ofInt_toInt x).symm
    have : x.toInt = 0 ∨ x.toInt = 1 ∨ x.toInt = 2 ∨ x.toInt = 3 ∨ x.toInt = 4 ∨ x.toInt = 5 ∨ x.toInt = 6 ∨ x.toInt = 7 ∨ x.toInt = 8 := by omega
    rcases this with q | q | q | q | q | q | q | q | q
    · rw [q] at e; subst e; exact k0 rfl
    · rw [q] at e; subst e; exact k1 rfl
    · rw [q] at e; subst e; exact k2 rfl
    · rw [q] at e; subst e; exact k3 rfl
    · rw [q] at e; subst e; exact k4 rfl
    · rw [q] at e; subst e; exact k5 rfl
    · rw [q] at e; subst e; exact k6 rfl
    · rw [q] at e; subst e; exact k7 rfl
    · rw [q] at e; subst e; exact k8 rfl
theorem z_sw10 {x : Int32} (kd : x < 0 ∨ 10 < x → zZ g Y Q pc lv (.int x :: st) h ce sl) (k0 : x = 0 → zZ g Y Q pc lv (.int 0 :: st) h ce sl) (k1 : x = 1 → zZ g Y Q pc lv (.int 1 :: st) h ce sl) (k2 : x = 2 → zZ g Y Q pc lv (.int 2 :: st) h ce sl) (k3 : x = 3 → zZ g Y Q pc lv (.int 3 :: st) h ce sl) (k4 : x = 4 → zZ g Y Q pc lv (.int 4 :: st) h ce sl) (k5 : x = 5 → zZ g Y Q pc lv (.int 5 :: st) h ce sl) (k6 : x = 6 → zZ g Y Q pc lv (.int 6 :: st) h ce sl) (k7 : x = 7 → zZ g Y Q pc lv (.int 7 :: st) h ce sl) (k8 : x = 8 → zZ g Y Q pc lv (.int 8 :: st) h ce sl) (k9 : x = 9 → zZ g Y Q pc lv (.int 9 :: st) h ce sl) (k10 : x = 10 → zZ g Y Q pc lv (.int 10 :: st) h ce sl) : zZ g Y Q pc lv (.int x :: st) h ce sl := by
  by_cases hx : x < 0 ∨ 10 < x
  · exact kd hx
  · have h1 : ¬ x.toInt < 0 := fun q => hx (Or.inl (Int32.lt_iff_toInt_lt.mpr q))
    have h2 : ¬ ((10 : Int32).toInt) < x.toInt := fun q => hx (Or.inr (Int32.lt_iff_toInt_lt.mpr q))
    have h3 : ((10 : Int32).toInt) = 10 := by decide
    rw [h3] at h2
    have e : x = Int32.ofInt x.toInt := (Int32.ofInt_toInt x).symm
    have : x.toInt = 0 ∨ x.toInt = 1 ∨ x.toInt = 2 ∨ x.toInt = 3 ∨ x.toInt = 4 ∨ x.toInt = 5 ∨ x.toInt = 6 ∨ x.toInt = 7 ∨ x.toInt = 8 ∨ x.toInt = 9 ∨ x.toInt = 10 := by omega
    rcases this with q | q | q | q | q | q | q | q | q | q | q
    · rw [q] at e; subst e; exact k0 rfl
    · rw [q] at e; subst e; exact k1 rfl
    · rw [q] at e; subst e; exact k2 rfl
    · rw [q] at e; subst e; exact k3 rfl
    · rw [q] at e; subst e; exact k4 rfl
    · rw [q] at e; subst e; exact k5 rfl
    · rw [q] at e; subst e; exact k6 rfl
    · rw [q] at e; subst e; exact k7 rfl
    · rw [q] at e; subst e; exact k8 rfl
    · rw [q] at e; subst e; exact k9 rfl
    · rw [q] at e; subst e; exact k10 rfl
theorem z_sw30 {x : Int32} (kd : x < 0 ∨ 30 < x → zZ g Y Q pc lv (.int x :: st) h ce sl) (k0 : x = 0 → zZ g Y Q pc lv (.int 0 :: st) h ce sl) (k1 : x = 1 → zZ g Y Q pc lv (.int 1 :: st) h ce sl) (k2 : x = 2 → zZ g Y Q pc lv (.int 2 :: st) h ce sl) (k3 : x = 3 → zZ g Y Q pc lv (.int 3 :: st) h ce sl) (k4 : x = 4 → zZ g Y Q pc lv (.int 4 :: st) h ce sl) (k5 : x = 5 → zZ g Y Q pc lv (.int 5 :: st) h ce sl) (k6 : x = 6 → zZ g Y Q pc lv (.int 6 :: st) h ce sl) (k7 : x = 7 → zZ g Y Q pc lv (.int 7 :: st) h ce sl) (k8 : x = 8 → zZ g Y Q pc lv (.int 8 :: st) h ce sl) (k9 : x = 9 → zZ g Y Q pc lv (.int 9 :: st) h ce sl) (k10 : x = 10 → zZ g Y Q pc lv (.int 10 :: st) h ce sl) (k11 : x = 11 → zZ g Y Q pc lv (.int 11 :: st) h ce sl) (k12 : x = 12 → zZ g Y Q pc lv (.int 12 :: st) h ce sl) (k13 : x = 13 → zZ g Y Q pc lv (.int 13 :: st) h ce sl) (k14 : x = 14 → zZ g Y Q pc lv (.int 14 :: st) h ce sl) (k15 : x = 15 → zZ g Y Q pc lv (.int 15 :: st) h ce sl) (k16 : x = 16 → zZ g Y Q pc lv (.int 16 :: st) h ce sl) (k17 : x = 17 → zZ g Y Q pc lv (.int 17 :: st) h ce sl) (k18 : x = 18 → zZ g Y Q pc lv (.int 18 :: st) h ce sl) (k19 : x = 19 → zZ g Y Q pc lv (.int 19 :: st) h ce sl) (k20 : x = 20 → zZ g Y Q pc lv (.int 20 :: st) h ce sl) (k21 : x = 21 → zZ g Y Q pc lv (.int 21 :: st) h ce sl) (k22 : x = 22 → zZ g Y Q pc lv (.int 22 :: st) h ce sl) (k23 : x = 23 → zZ g Y Q pc lv (.int 23 :: st) h ce sl) (k24 : x = 24 → zZ g Y Q pc lv (.int 24 :: st) h ce sl) (k25 : x = 25 → zZ g Y Q pc lv (.int 25 :: st) h ce sl) (k26 : x = 26 → zZ g Y Q pc lv (.int 26 :: st) h ce sl) (k27 : x = 27 → zZ g Y Q pc lv (.int 27 :: st) h ce sl) (k28 : x = 28 → zZ g Y Q pc lv (.int 28 :: st) h ce sl) (k29 : x = 29 → zZ g Y Q pc lv (.int 29 :: st) h ce sl) (k30 : x = 30 → zZ g Y Q pc lv (.int 30 :: st) h ce sl) : zZ g Y Q pc lv (.int x :: st) h ce sl := by
  by_cases hx : x < 0 ∨ 30 < x
  · exact kd hx
  · have h1 : ¬ x.toInt < 0 := fun q => hx (Or.inl (Int32.lt_iff_toInt_lt.mpr q))
    have h2 : ¬ ((30 : Int32).toInt) < x.toInt := fun q => hx (Or.inr (Int32.lt_iff_toInt_lt.mpr q))
    have h3 : ((30 : Int32).toInt) = 30 := by decide
    rw [h3] at h2
    have e : x = Int32.ofInt x.toInt := (Int32.ofInt_toInt x).symm
    have : x.toInt = 0 ∨ x.toInt = 1 ∨ x.toInt = 2 ∨ x.toInt = 3 ∨ x.toInt = 4 ∨ x.toInt = 5 ∨ x.toInt = 6 ∨ x.toInt = 7 ∨ x.toInt = 8 ∨ x.toInt = 9 ∨ x.toInt = 10 ∨ x.toInt = 11 ∨ x.toInt = 12 ∨ x.toInt = 13 ∨ x.toInt = 14 ∨ x.toInt = 15 ∨ x.toInt = 16 ∨ x.toInt = 17 ∨ x.toInt = 18 ∨ x.toInt = 19 ∨ x.toInt = 20 ∨ x.toInt = 21 ∨ x.toInt = 22 ∨ x.toInt = 23 ∨ x.toInt = 24 ∨ x.toInt = 25 ∨ x.toInt = 26 ∨ x.toInt = 27 ∨ x.toInt = 28 ∨ x.toInt = 29 ∨ x.toInt = 30 := by omega
    rcases this with q | q | q | q | q | q | q | q | q | q | q | q | q | q | q | q | q | q | q | q | q | q | q | q | q | q | q | q | q | q | q
    · rw [q] at e; subst e; exact k0 rfl
    · rw [q] at e; subst e; exact k1 rfl
    · rw [q] at e; subst e; exact k2 rfl
    · rw [q] at e; subst e; exact k3 rfl
    · rw [q] at e; subst e; exact k4 rfl
    · rw [q] at e; subst e; exact k5 rfl
    · rw [q] at e; subst e; exact k6 rfl
    · rw [q] at e; subst e; exact k7 rfl
    · rw [q] at e; subst e; exact k8 rfl
    · rw [q] at e; subst e; exact k9 rfl
    · rw [q] at e; subst e; exact k10 rfl
    · rw [q] at e; subst e; exact k11 rfl
    · rw [q] at e; subst e; exact k12 rfl
    · rw [q] at e; subst e; exact k13 rfl
    · rw [q] at e; subst e; exact k14 rfl
    · rw [q] at e; subst e; exact k15 rfl
    · rw [q] at e; subst e; exact k16 rfl
    · rw [q] at e; subst e; exact k17 rfl
    · rw [q] at e; subst e; exact k18 rfl
    · rw [q] at e; subst e; exact k19 rfl
    · rw [q] at e; subst e; exact k20 rfl
    · rw [q] at e; subst e; exact k21 rfl
    · rw [q] at e; subst e; exact k22 rfl
    · rw [q] at e; subst e; exact k23 rfl
    · rw [q] at e; subst e; exact k24 rfl
    · rw [q] at e; subst e; exact k25 rfl
    · rw [q] at e; subst e; exact k26 rfl
    · rw [q] at e; subst e; exact k27 rfl
    · rw [q] at e; subst e; exact k28 rfl
    · rw [q] at e; subst e; exact k29 rfl
    · rw [q] at e; subst e; exact k30 rfl
end ZC
/-- a cell: its sort, its number, its fraction -/
abbrev sC : Type := Int32 × Int64 × UInt64
abbrev sNum (s : Int32) : Prop := 0 ≤ s ∧ s ≤ 7
/-- whether a sort goes into a kind -/
def sInto (s k : Int32) : Bool := if k = 9 then true else if 7 < k then decide (s = 9 ∨ s = k) else if ¬ sNum s then false else decide (s = k ∨ (0 < s ∧ s < k ∧ 3 ≤ k ∧ (s ≠ 2 ∨ k ≠ 3)))
/-- the first kind from i on into which both go -/
def sJn (a b : Int32) : Nat → Nat → Int32
  | 0, _ => -4
  | n + 1, i => if sInto a (nI i) = true ∧ sInto b (nI i) = true then nI i else sJn a b n (i + 1)
def sJoin (a b : Int32) : Int32 := if sNum a ∧ sNum b then sJn a b 8 0 else -4
def sReal (c : sC) (k : Int32) : UInt64 := if 6 ≤ c.1 then c.2.2 else if k = 6 then FP.f2d (FP.l2f c.2.1) else FP.l2d c.2.1
def sConv (c : sC) (k : Int32) : sC := if 7 < k then c else if 6 ≤ k then (k, 0, sReal c k) else (k, c.2.1, 0)
def sBits (k : Int32) (x : UInt64) : Int64 := if k = 6 then (FP.d2f x).toInt32.toInt64 else x.toInt64
def sAmt (c : sC) (k : Int32) : Int64 := if c.1 = 9 then 0 else if k = 6 ∨ k = 7 then sBits k (sReal c k) else c.2.1
def sAlike (c d : sC) : Bool := if sJoin c.1 d.1 = -4 then decide (¬ sNum c.1 ∧ c.1 = d.1 ∧ (c.1 = 9 ∨ c.2.1 = d.2.1)) else if 6 ≤ sJoin c.1 d.1 then decide (FP.dcmp (sReal c (sJoin c.1 d.1)) (sReal d (sJoin c.1 d.1)) = some .eq) else decide (c.2.1 = d.2.1)
/-- how far two fractions are -/
def sFar (x y : UInt64) : UInt64 := if FP.dcmp x y = some .gt then FP.dsub x y else FP.dsub y x
def sFarL (x y : Int64) : Int64 := if y < x then x - y else y - x
def sNear (c d : sC) (tol : Int32) : Bool := if sJoin c.1 d.1 < 1 ∨ sAlike c d = true then false else if 6 ≤ sJoin c.1 d.1 then decide (¬ FP.dcmp (sFar (sReal c (sJoin c.1 d.1)) (sReal d (sJoin c.1 d.1))) (FP.i2d tol) = some .gt) else decide (0 ≤ sFarL c.2.1 d.2.1 ∧ sFarL c.2.1 d.2.1 ≤ tol.toInt64)
def sLike (c d : sC) (tol : Int32) : Int32 := if sAlike c d = true then 0 else if sNear c d tol = true then 1 else 2
/-- the value of an int by a sort -/
def sVal (s v : Int32) : sC :=
  if s = 0 then (s, (v &&& 1).toInt64, 0)
  else if s = 1 then (s, v.toInt8.toInt32.toInt64, 0)
  else if s = 2 then (s, (v &&& 65535).toInt64, 0)
  else if s = 3 then (s, v.toInt16.toInt32.toInt64, 0)
  else if s = 6 then (s, 0, FP.f2d (FP.fmul (FP.i2f v) 1040187392))
  else if s = 7 then (s, 0, FP.dmul (FP.i2d v) 4593671619917905920)
  else if s = 9 then (s, 0, 0)
  else if s = 10 then (s, ((v - v / 5 * 5 + 5) - (v - v / 5 * 5 + 5) / 5 * 5).toInt64, 0)
  else (s, v.toInt64, 0)
/-- what a cell may hold -/
def sOk (c : sC) : Prop := 0 ≤ c.1 ∧ c.1 ≤ 10 ∧ (c.1 = 6 → c.2.1 = 0 ∧ okF c.2.2) ∧ (c.1 = 7 → c.2.1 = 0 ∧ okD c.2.2) ∧ (c.1 ≠ 6 → c.1 ≠ 7 → c.2.2 = 0) ∧ (c.1 = 0 → c.2.1 = 0 ∨ c.2.1 = 1) ∧ (c.1 = 9 → c.2.1 = 0)
theorem okD_0 : okD 0 := ⟨⟨false, 0, _, FP.Core.val64_dconst0, vle_0 _ _⟩, by decide⟩
theorem sReal_ok {c : sC} (h : sOk c) (hs : c.1 ≤ 7) (k : Int32) : okD (sReal c k) := by
  obtain ⟨h0, -, h6, h7, -⟩ := h
  unfold sReal
  split
  · have : c.1 = 6 ∨ c.1 = 7 := by grind
    rcases this with q | q
    · exact okF_okD (h6 q).2
    · exact (h7 q).2
  · split
    · exact okS_f2d (okS_l2f _)
    · exact okD_l2d _
theorem dcmp_ok {k : Nat} {x y : UInt64} (hx : fpD k x) (hy : fpD k y) : FP.dcmp x y ≠ none := by
  intro q
  rcases (FP.Core.dcmp_none x y).mp q with z | z
  · exact fpD_nn hx z
  · exact fpD_nn hy z

