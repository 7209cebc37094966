section ZC
variable {g : zG} {Y : zY} {Q : Array Value → List Frame → State → State → Prop} {pc pc0 : Nat} {lv : List (Nat × Value)} {st : List Value} {h : zH} {ce sl : Nat}
theorem z_lc_eq {x y : Int64} {off : Int} {tgt : Nat} (hd1 : decode Y.2.1 pc = .ok (.lcmp, 1)) (hp : pc0 = pc) (hd2 : decode Y.2.1 (pc + 1) = .ok (.ifCond .eq off, 3)) (ht : ((pc + 1 : Nat) : Int) + off = (tgt : Int)) (kt : x = y → zZ g Y Q tgt lv st h ce sl) (kf : ¬ x = y → zZ g Y Q (pc + 1 + 3) lv st h ce sl) : zZ g Y Q pc0 lv (.long y :: .long x :: st) h ce sl := z_lcmp hd1 hp (z_if_eq hd2 rfl ht (fun q => kt ((lg_cmp_eq x y).mp q)) (fun q => kf (fun z => q ((lg_cmp_eq x y).mpr z))))
theorem z_lc_ne {x y : Int64} {off : Int} {tgt : Nat} (hd1 : decode Y.2.1 pc = .ok (.lcmp, 1)) (hp : pc0 = pc) (hd2 : decode Y.2.1 (pc + 1) = .ok (.ifCond .ne off, 3)) (ht : ((pc + 1 : Nat) : Int) + off = (tgt : Int)) (kt : ¬ x = y → zZ g Y Q tgt lv st h ce sl) (kf : x = y → zZ g Y Q (pc + 1 + 3) lv st h ce sl) : zZ g Y Q pc0 lv (.long y :: .long x :: st) h ce sl := z_lcmp hd1 hp (z_if_ne hd2 rfl ht (fun q => kt (fun z => q ((lg_cmp_eq x y).mpr z))) (fun q => kf ((lg_cmp_eq x y).mp q)))
theorem z_lc_lt {x y : Int64} {off : Int} {tgt : Nat} (hd1 : decode Y.2.1 pc = .ok (.lcmp, 1)) (hp : pc0 = pc) (hd2 : decode Y.2.1 (pc + 1) = .ok (.ifCond .lt off, 3)) (ht : ((pc + 1 : Nat) : Int) + off = (tgt : Int)) (kt : x < y → zZ g Y Q tgt lv st h ce sl) (kf : ¬ x < y → zZ g Y Q (pc + 1 + 3) lv st h ce sl) : zZ g Y Q pc0 lv (.long y :: .long x :: st) h ce sl := z_lcmp hd1 hp (z_if_lt hd2 rfl ht (fun q => kt ((lg_cmp_lt x y).mp q)) (fun q => kf (fun z => q ((lg_cmp_lt x y).mpr z))))
theorem z_lc_ge {x y : Int64} {off : Int} {tgt : Nat} (hd1 : decode Y.2.1 pc = .ok (.lcmp, 1)) (hp : pc0 = pc) (hd2 : decode Y.2.1 (pc + 1) = .ok (.ifCond .ge off, 3)) (ht : ((pc + 1 : Nat) : Int) + off = (tgt : Int)) (kt : y ≤ x → zZ g Y Q tgt lv st h ce sl) (kf : ¬ y ≤ x → zZ g Y Q (pc + 1 + 3) lv st h ce sl) : zZ g Y Q pc0 lv (.long y :: .long x :: st) h ce sl := z_lcmp hd1 hp (z_if_ge hd2 rfl ht (fun q => kt ((lg_cmp_ge x y).mp q)) (fun q => kf (fun z => q ((lg_cmp_ge x y).mpr z))))
theorem z_lc_gt {x y : Int64} {off : Int} {tgt : Nat} (hd1 : decode Y.2.1 pc = .ok (.lcmp, 1)) (hp : pc0 = pc) (hd2 : decode Y.2.1 (pc + 1) = .ok (.ifCond .gt off, 3)) (ht : ((pc + 1 : Nat) : Int) + off = (tgt : Int)) (kt : y < x → zZ g Y Q tgt lv st h ce sl) (kf : ¬ y < x → zZ g Y Q (pc + 1 + 3) lv st h ce sl) : zZ g Y Q pc0 lv (.long y :: .long x :: st) h ce sl := z_lcmp hd1 hp (z_if_gt hd2 rfl ht (fun q => kt ((lg_cmp_gt x y).mp q)) (fun q => kf (fun z => q ((lg_cmp_gt x y).mpr z))))
theorem z_lc_le {x y : Int64} {off : Int} {tgt : Nat} (hd1 : decode Y.2.1 pc = .ok (.lcmp, 1)) (hp : pc0 = pc) (hd2 : decode Y.2.1 (pc + 1) = .ok (.ifCond .le off, 3)) (ht : ((pc + 1 : Nat) : Int) + off = (tgt : Int)) (kt : x ≤ y → zZ g Y Q tgt lv st h ce sl) (kf : ¬ x ≤ y → zZ g Y Q (pc + 1 + 3) lv st h ce sl) : zZ g Y Q pc0 lv (.long y :: .long x :: st) h ce sl := z_lcmp hd1 hp (z_if_le hd2 rfl ht (fun q => kt ((lg_cmp_le x y).mp q)) (fun q => kf (fun z => q ((lg_cmp_le x y).mpr z))))
theorem z_dc_eq {x y : UInt64} {op : CmpOp} {off : Int} {tgt : Nat} (hd1 : decode Y.2.1 pc = .ok (.dcmp op, 1)) (hp : pc0 = pc) (hd2 : decode Y.2.1 (pc + 1) = .ok (.ifCond .eq off, 3)) (ht : ((pc + 1 : Nat) : Int) + off = (tgt : Int)) (hn : FP.dcmp x y ≠ none) (kt : FP.dcmp x y = some .eq → zZ g Y Q tgt lv st h ce sl) (kf : ¬ FP.dcmp x y = some .eq → zZ g Y Q (pc + 1 + 3) lv st h ce sl) : zZ g Y Q pc0 lv (.double y :: .double x :: st) h ce sl := by
  refine z_dcmp hd1 hp ?_
  cases ho : FP.dcmp x y with
  | none => exact absurd ho hn
  | some o =>
    rw [ho] at kt kf
    cases o
    · exact z_if_eq hd2 rfl ht (fun q => by first | exact kt rfl | (exfalso; revert q; cases op <;> decide) | exact kt (fun z => by cases z)) (fun q => by first | exact kf rfl | (exfalso; revert q; cases op <;> decide) | exact kf (fun z => by cases z))
    · exact z_if_eq hd2 rfl ht (fun q => by first | exact kt rfl | (exfalso; revert q; cases op <;> decide) | exact kt (fun z => by cases z)) (fun q => by first | exact kf rfl | (exfalso; revert q; cases op <;> decide) | exact kf (fun z => by cases z))
    · exact z_if_eq hd2 rfl ht (fun q => by first | exact kt rfl | (exfalso; revert q; cases op <;> decide) | exact kt (fun z => by cases z)) (fun q => by first | exact kf rfl | (exfalso; revert q; cases op <;> decide) | exact kf (fun z => by cases z))
theorem z_dc_ne {x y : UInt64} {op : CmpOp} {off : Int} {tgt : Nat} (hd1 : decode Y.2.1 pc = .ok (.dcmp op, 1)) (hp : pc0 = pc) (hd2 : decode Y.2.1 (pc + 1) = .ok (.ifCond .ne off, 3)) (ht : ((pc + 1 : Nat) : Int) + off = (tgt : Int)) (hn : FP.dcmp x y ≠ none) (kt : ¬ FP.dcmp x y = some .eq → zZ g Y Q tgt lv st h ce sl) (kf : FP.dcmp x y = some .eq → zZ g Y Q (pc + 1 + 3) lv st h ce sl) : zZ g Y Q pc0 lv (.double y :: .double x :: st) h ce sl := by
  refine z_dcmp hd1 hp ?_
  cases ho : FP.dcmp x y with
  | none => exact absurd ho hn
  | some o =>
    rw [ho] at kt kf
    cases o
    · exact z_if_ne hd2 rfl ht (fun q => by first | exact kt rfl | (exfalso; revert q; cases op <;> decide) | exact kt (fun z => by cases z)) (fun q => by first | exact kf rfl | (exfalso; revert q; cases op <;> decide) | exact kf (fun z => by cases z))
    · exact z_if_ne hd2 rfl ht (fun q => by first | exact kt rfl | (exfalso; revert q; cases op <;> decide) | exact kt (fun z => by cases z)) (fun q => by first | exact kf rfl | (exfalso; revert q; cases op <;> decide) | exact kf (fun z => by cases z))
    · exact z_if_ne hd2 rfl ht (fun q => by first | exact kt rfl | (exfalso; revert q; cases op <;> decide) | exact kt (fun z => by cases z)) (fun q => by first | exact kf rfl | (exfalso; revert q; cases op <;> decide) | exact kf (fun z => by cases z))
theorem z_dc_lt {x y : UInt64} {op : CmpOp} {off : Int} {tgt : Nat} (hd1 : decode Y.2.1 pc = .ok (.dcmp op, 1)) (hp : pc0 = pc) (hd2 : decode Y.2.1 (pc + 1) = .ok (.ifCond .lt off, 3)) (ht : ((pc + 1 : Nat) : Int) + off = (tgt : Int)) (hn : FP.dcmp x y ≠ none) (kt : FP.dcmp x y = some .lt → zZ g Y Q tgt lv st h ce sl) (kf : ¬ FP.dcmp x y = some .lt → zZ g Y Q (pc + 1 + 3) lv st h ce sl) : zZ g Y Q pc0 lv (.double y :: .double x :: st) h ce sl := by
  refine z_dcmp hd1 hp ?_
  cases ho : FP.dcmp x y with
  | none => exact absurd ho hn
  | some o =>
    rw [ho] at kt kf
    cases o
    · exact z_if_lt hd2 rfl ht (fun q => by first | exact kt rfl | (exfalso; revert q; cases op <;> decide) | exact kt (fun z => by cases z)) (fun q => by first | exact kf rfl | (exfalso; revert q; cases op <;> decide) | exact kf (fun z => by cases z))
    · exact z_if_lt hd2 rfl ht (fun q => by first | exact kt rfl | (exfalso; revert q; cases op <;> decide) | exact kt (fun z => by cases z)) (fun q => by first | exact kf rfl | (exfalso; revert q; cases op <;> decide) | exact kf (fun z => by cases z))
    · exact z_if_lt hd2 rfl ht (fun q => by first | exact kt rfl | (exfalso; revert q; cases op <;> decide) | exact kt (fun z => by cases z)) (fun q => by first | exact kf rfl | (exfalso; revert q; cases op <;> decide) | exact kf (fun z => by cases z))
theorem z_dc_ge {x y : UInt64} {op : CmpOp} {off : Int} {tgt : Nat} (hd1 : decode Y.2.1 pc = .ok (.dcmp op, 1)) (hp : pc0 = pc) (hd2 : decode Y.2.1 (pc + 1) = .ok (.ifCond .ge off, 3)) (ht : ((pc + 1 : Nat) : Int) + off = (tgt : Int)) (hn : FP.dcmp x y ≠ none) (kt : ¬ FP.dcmp x y = some .lt → zZ g Y Q tgt lv st h ce sl) (kf : FP.dcmp x y = some .lt → zZ g Y Q (pc + 1 + 3) lv st h ce sl) : zZ g Y Q pc0 lv (.double y :: .double x :: st) h ce sl := by
  refine z_dcmp hd1 hp ?_
  cases ho : FP.dcmp x y with
  | none => exact absurd ho hn
  | some o =>
    rw [ho] at kt kf
    cases o
    · exact z_if_ge hd2 rfl ht (fun q => by first | exact kt rfl | (exfalso; revert q; cases op <;> decide) | exact kt (fun z => by cases z)) (fun q => by first | exact kf rfl | (exfalso; revert q; cases op <;> decide) | exact kf (fun z => by cases z))
    · exact z_if_ge hd2 rfl ht (fun q => by first | exact kt rfl | (exfalso; revert q; cases op <;> decide) | exact kt (fun z => by cases z)) (fun q => by first | exact kf rfl | (exfalso; revert q; cases op <;> decide) | exact kf (fun z => by cases z))
    · exact z_if_ge hd2 rfl ht (fun q => by first | exact kt rfl | (exfalso; revert q; cases op <;> decide) | exact kt (fun z => by cases z)) (fun q => by first | exact kf rfl | (exfalso; revert q; cases op <;> decide) | exact kf (fun z => by cases z))
theorem z_dc_gt {x y : UInt64} {op : CmpOp} {off : Int} {tgt : Nat} (hd1 : decode Y.2.1 pc = .ok (.dcmp op, 1)) (hp : pc0 = pc) (hd2 : decode Y.2.1 (pc + 1) = .ok (.ifCond .gt off, 3)) (ht : ((pc + 1 : Nat) : Int) + off = (tgt : Int)) (hn : FP.dcmp x y ≠ none) (kt : FP.dcmp x y = some .gt → zZ g Y Q tgt lv st h ce sl) (kf : ¬ FP.dcmp x y = some .gt → zZ g Y Q (pc + 1 + 3) lv st h ce sl) : zZ g Y Q pc0 lv (.double y :: .double x :: st) h ce sl := by
  refine z_dcmp hd1 hp ?_
  cases ho : FP.dcmp x y with
  | none => exact absurd ho hn
  | some o =>
    rw [ho] at kt kf
    cases o
    · exact z_if_gt hd2 rfl ht (fun q => by first | exact kt rfl | (exfalso; revert q; cases op <;> decide) | exact kt (fun z => by cases z)) (fun q => by first | exact kf rfl | (exfalso; revert q; cases op <;> decide) | exact kf (fun z => by cases z))
    · exact z_if_gt hd2 rfl ht (fun q => by first | exact kt rfl | (exfalso; revert q; cases op <;> decide) | exact kt (fun z => by cases z)) (fun q => by first | exact kf rfl | (exfalso; revert q; cases op <;> decide) | exact kf (fun z => by cases z))
    · exact z_if_gt hd2 rfl ht (fun q => by first | exact kt rfl | (exfalso; revert q; cases op <;> decide) | exact kt (fun z => by cases z)) (fun q => by first | exact kf rfl | (exfalso; revert q; cases op <;> decide) | exact kf (fun z => by cases z))
theorem z_dc_le {x y : UInt64} {op : CmpOp} {off : Int} {tgt : Nat} (hd1 : decode Y.2.1 pc = .ok (.dcmp op, 1)) (hp : pc0 = pc) (hd2 : decode Y.2.1 (pc + 1) = .ok (.ifCond .le off, 3)) (ht : ((pc + 1 : Nat) : Int) + off = (tgt : Int)) (hn : FP.dcmp x y ≠ none) (kt : ¬ FP.dcmp x y = some .gt → zZ g Y Q tgt lv st h ce sl) (kf : FP.dcmp x y = some .gt → zZ g Y Q (pc + 1 + 3) lv st h ce sl) : zZ g Y Q pc0 lv (.double y :: .double x :: st) h ce sl := by
  refine z_dcmp hd1 hp ?_
  cases ho : FP.dcmp x y with
  | none => exact absurd ho hn
  | some o =>
    rw [ho] at kt kf
    cases o
    · exact z_if_le hd2 rfl ht (fun q => by first | exact kt rfl | (exfalso; revert q; cases op <;> decide) | exact kt (fun z => by cases z)) (fun q => by first | exact kf rfl | (exfalso; revert q; cases op <;> decide) | exact kf (fun z => by cases z))
    · exact z_if_le hd2 rfl ht (fun q => by first | exact kt rfl | (exfalso; revert q; cases op <;> decide) | exact kt (fun z => by cases z)) (fun q => by first | exact kf rfl | (exfalso; revert q; cases op <;> decide) | exact kf (fun z => by cases z))
    · exact z_if_le hd2 rfl ht (fun q => by first | exact kt rfl | (exfalso; revert q; cases op <;> decide) | exact kt (fun z => by cases z)) (fun q => by first | exact kf rfl | (exfalso; revert q; cases op <;> decide) | exact kf (fun z => by cases z))
theorem z_fc_eq {x y : UInt32} {op : CmpOp} {off : Int} {tgt : Nat} (hd1 : decode Y.2.1 pc = .ok (.fcmp op, 1)) (hp : pc0 = pc) (hd2 : decode Y.2.1 (pc + 1) = .ok (.ifCond .eq off, 3)) (ht : ((pc + 1 : Nat) : Int) + off = (tgt : Int)) (hn : FP.fcmp x y ≠ none) (kt : FP.fcmp x y = some .eq → zZ g Y Q tgt lv st h ce sl) (kf : ¬ FP.fcmp x y = some .eq → zZ g Y Q (pc + 1 + 3) lv st h ce sl) : zZ g Y Q pc0 lv (.float y :: .float x :: st) h ce sl := by
  refine z_fcmp hd1 hp ?_
  cases ho : FP.fcmp x y with
  | none => exact absurd ho hn
  | some o =>
    rw [ho] at kt kf
    cases o
    · exact z_if_eq hd2 rfl ht (fun q => by first | exact kt rfl | (exfalso; revert q; cases op <;> decide) | exact kt (fun z => by cases z)) (fun q => by first | exact kf rfl | (exfalso; revert q; cases op <;> decide) | exact kf (fun z => by cases z))
    · exact z_if_eq hd2 rfl ht (fun q => by first | exact kt rfl | (exfalso; revert q; cases op <;> decide) | exact kt (fun z => by cases z)) (fun q => by first | exact kf rfl | (exfalso; revert q; cases op <;> decide) | exact kf (fun z => by cases z))
    · exact z_if_eq hd2 rfl ht (fun q => by first | exact kt rfl | (exfalso; revert q; cases op <;> decide) | exact kt (fun z => by cases z)) (fun q => by first | exact kf rfl | (exfalso; revert q; cases op <;> decide) | exact kf (fun z => by cases z))
theorem z_fc_ne {x y : UInt32} {op : CmpOp} {off : Int} {tgt : Nat} (hd1 : decode Y.2.1 pc = .ok (.fcmp op, 1)) (hp : pc0 = pc) (hd2 : decode Y.2.1 (pc + 1) = .ok (.ifCond .ne off, 3)) (ht : ((pc + 1 : Nat) : Int) + off = (tgt : Int)) (hn : FP.fcmp x y ≠ none) (kt : ¬ FP.fcmp x y = some .eq → zZ g Y Q tgt lv st h ce sl) (kf : FP.fcmp x y = some .eq → zZ g Y Q (pc + 1 + 3) lv st h ce sl) : zZ g Y Q pc0 lv (.float y :: .float x :: st) h ce sl := by
  refine z_fcmp hd1 hp ?_
  cases ho : FP.fcmp x y with
  | none => exact absurd ho hn
  | some o =>
    rw [ho] at kt kf
    cases o
    · exact z_if_ne hd2 rfl ht (fun q => by first | exact kt rfl | (exfalso; revert q; cases op <;> decide) | exact kt (fun z => by cases z)) (fun q => by first | exact kf rfl | (exfalso; revert q; cases op <;> decide) | exact kf (fun z => by cases z))
    · exact z_if_ne hd2 rfl ht (fun q => by first | exact kt rfl | (exfalso; revert q; cases op <;> decide) | exact kt (fun z => by cases z)) (fun q => by first | exact kf rfl | (exfalso; revert q; cases op <;> decide) | exact kf (fun z => by cases z))
    · exact z_if_ne hd2 rfl ht (fun q => by first | exact kt rfl | (exfalso; revert q; cases op <;> decide) | exact kt (fun z => by cases z)) (fun q => by first | exact kf rfl | (exfalso; revert q; cases op <;> decide) | exact kf (fun z => by cases z))
theorem z_fc_lt {x y : UInt32} {op : CmpOp} {off : Int} {tgt : Nat} (hd1 : decode Y.2.1 pc = .ok (.fcmp op, 1)) (hp : pc0 = pc) (hd2 : decode Y.2.1 (pc + 1) = .ok (.ifCond .lt off, 3)) (ht : ((pc + 1 : Nat) : Int) + off = (tgt : Int)) (hn : FP.fcmp x y ≠ none) (kt : FP.fcmp x y = some .lt → zZ g Y Q tgt lv st h ce sl) (kf : ¬ FP.fcmp x y = some .lt → zZ g Y Q (pc + 1 + 3) lv st h ce sl) : zZ g Y Q pc0 lv (.float y :: .float x :: st) h ce sl := by
  refine z_fcmp hd1 hp ?_
  cases ho : FP.fcmp x y with
  | none => exact absurd ho hn
  | some o =>
    rw [ho] at kt kf
    cases o
    · exact z_if_lt hd2 rfl ht (fun q => by first | exact kt rfl | (exfalso; revert q; cases op <;> decide) | exact kt (fun z => by cases z)) (fun q => by first | exact kf rfl | (exfalso; revert q; cases op <;> decide) | exact kf (fun z => by cases z))
    · exact z_if_lt hd2 rfl ht (fun q => by first | exact kt rfl | (exfalso; revert q; cases op <;> decide) | exact kt (fun z => by cases z)) (fun q => by first | exact kf rfl | (exfalso; revert q; cases op <;> decide) | exact kf (fun z => by cases z))
    · exact z_if_lt hd2 rfl ht (fun q => by first | exact kt rfl | (exfalso; revert q; cases op <;> decide) | exact kt (fun z => by cases z)) (fun q => by first | exact kf rfl | (exfalso; revert q; cases op <;> decide) | exact kf (fun z => by cases z))
theorem z_fc_ge {x y : UInt32} {op : CmpOp} {off : Int} {tgt : Nat} (hd1 : decode Y.2.1 pc = .ok (.fcmp op, 1)) (hp : pc0 = pc) (hd2 : decode Y.2.1 (pc + 1) = .ok (.ifCond .ge off, 3)) (ht : ((pc + 1 : Nat) : Int) + off = (tgt : Int)) (hn : FP.fcmp x y ≠ none) (kt : ¬ FP.fcmp x y = some .lt → zZ g Y Q tgt lv st h ce sl) (kf : FP.fcmp x y = some .lt → zZ g Y Q (pc + 1 + 3) lv st h ce sl) : zZ g Y Q pc0 lv (.float y :: .float x :: st) h ce sl := by
  refine z_fcmp hd1 hp ?_
  cases ho : FP.fcmp x y with
  | none => exact absurd ho hn
  | some o =>
    rw [ho] at kt kf
    cases o
    · exact z_if_ge hd2 rfl ht (fun q => by first | exact kt rfl | (exfalso; revert q; cases op <;> decide) | exact kt (fun z => by cases z)) (fun q => by first | exact kf rfl | (exfalso; revert q; cases op <;> decide) | exact kf (fun z => by cases z))
    · exact z_if_ge hd2 rfl ht (fun q => by first | exact kt rfl | (exfalso; revert q; cases op <;> decide) | exact kt (fun z => by cases z)) (fun q => by first | exact kf rfl | (exfalso; revert q; cases op <;> decide) | exact kf (fun z => by cases z))
    · exact z_if_ge hd2 rfl ht (fun q => by first | exact kt rfl | (exfalso; revert q; cases op <;> decide) | exact kt (fun z => by cases z)) (fun q => by first | exact kf rfl | (exfalso; revert q; cases op <;> decide) | exact kf (fun z => by cases z))
theorem z_fc_gt {x y : UInt32} {op : CmpOp} {off : Int} {tgt : Nat} (hd1 : decode Y.2.1 pc = .ok (.fcmp op, 1)) (hp : pc0 = pc) (hd2 : decode Y.2.1 (pc + 1) = .ok (.ifCond .gt off, 3)) (ht : ((pc + 1 : Nat) : Int) + off = (tgt : Int)) (hn : FP.fcmp x y ≠ none) (kt : FP.fcmp x y = some .gt → zZ g Y Q tgt lv st h ce sl) (kf : ¬ FP.fcmp x y = some .gt → zZ g Y Q (pc + 1 + 3) lv st h ce sl) : zZ g Y Q pc0 lv (.float y :: .float x :: st) h ce sl := by
  refine z_fcmp hd1 hp ?_
  cases ho : FP.fcmp x y with
  | none => exact absurd ho hn
  | some o =>
    rw [ho] at kt kf
    cases o
    · exact z_if_gt hd2 rfl ht (fun q => by first | exact kt rfl | (exfalso; revert q; cases op <;> decide) | exact kt (fun z => by cases z)) (fun q => by first | exact kf rfl | (exfalso; revert q; cases op <;> decide) | exact kf (fun z => by cases z))
    · exact z_if_gt hd2 rfl ht (fun q => by first | exact kt rfl | (exfalso; revert q; cases op <;> decide) | exact kt (fun z => by cases z)) (fun q => by first | exact kf rfl | (exfalso; revert q; cases op <;> decide) | exact kf (fun z => by cases z))
    · exact z_if_gt hd2 rfl ht (fun q => by first | exact kt rfl | (exfalso; revert q; cases op <;> decide) | exact kt (fun z => by cases z)) (fun q => by first | exact kf rfl | (exfalso; revert q; cases op <;> decide) | exact kf (fun z => by cases z))
theorem z_fc_le {x y : UInt32} {op : CmpOp} {off : Int} {tgt : Nat} (hd1 : decode Y.2.1 pc = .ok (.fcmp op, 1)) (hp : pc0 = pc) (hd2 : decode Y.2.1 (pc + 1) = .ok (.ifCond .le off, 3)) (ht : ((pc + 1 : Nat) : Int) + off = (tgt : Int)) (hn : FP.fcmp x y ≠ none) (kt : ¬ FP.fcmp x y = some .gt → zZ g Y Q tgt lv st h ce sl) (kf : FP.fcmp x y = some .gt → zZ g Y Q (pc + 1 + 3) lv st h ce sl) : zZ g Y Q pc0 lv (.float y :: .float x :: st) h ce sl := by
  refine z_fcmp hd1 hp ?_
  cases ho : FP.fcmp x y with
  | none => exact absurd ho hn
  | some o =>
    rw [ho] at kt kf
    cases o
    · exact z_if_le hd2 rfl ht (fun q => by first | exact kt rfl | (exfalso; revert q; cases op <;> decide) | exact kt (fun z => by cases z)) (fun q => by first | exact kf rfl | (exfalso; revert q; cases op <;> decide) | exact kf (fun z => by cases z))
    · exact z_if_le hd2 rfl ht (fun q => by first | exact kt rfl | (exfalso; revert q; cases op <;> decide) | exact kt (fun z => by cases z)) (fun q => by first | exact kf rfl | (exfalso; revert q; cases op <;> decide) | exact kf (fun z => by cases z))
    · exact z_if_le hd2 rfl ht (fun q => by first | exact kt rfl | (exfalso; revert q; cases op <;> decide) | exact kt (fun z => by cases z)) (fun q => by first | exact kf rfl | (exfalso; revert q; cases op <;> decide) | exact kf (fun z => by cases z))
end ZC
/-- a cell: its sort, its number, its fraction -/
abbrev sC : Type := Int32 × Int64 × UInt64
abbrev sNum (s : Int32) : Prop := 0 ≤ s ∧ s ≤ 7
/-- whether a sort goes into a kind -/
def sInto (s k : Int32) : Bool := if k = 9 then true else if 7 < k then decide (s = 9 ∨ s = k) else if ¬ sNum s then false else decide (s = k ∨ (0 < s ∧ s < k ∧ 3 ≤ k ∧ (s ≠ 2 ∨ k ≠ 3)))
/-- the first kind from i on into which both go -/
def sJn (a b : Int32) : Nat → Nat → Int32
  | 0, _ => -4
  | n + 1, i => if sInto a (nI i) = true ∧ sInto b (nI i) = true then nI i else sJn a b n (i + 1)
def sJoin (a b : Int32) : Int32 := if sNum a ∧ sNum b then sJn a b 8 0 else -4
def sReal (c : sC) (k : Int32) : UInt64 := if 6 ≤ c.1 then c.2.2 else if k = 6 then FP.f2d (FP.l2f c.2.1) else FP.l2d c.2.1
def sConv (c : sC) (k : Int32) : sC := if 7 < k then c else if 6 ≤ k then (k, 0, sReal c k) else (k, c.2.1, 0)
def sBits (k : Int32) (x : UInt64) : Int64 := if k = 6 then (FP.d2f x).toInt32.toInt64 else x.toInt64
def sAmt (c : sC) (k : Int32) : Int64 := if c.1 = 9 then 0 else if k = 6 ∨ k = 7 then sBits k (sReal c k) else c.2.1
def sAlike (c d : sC) : Bool := if sJoin c.1 d.1 = -4 then decide (¬ sNum c.1 ∧ c.1 = d.1 ∧ (c.1 = 9 ∨ c.2.1 = d.2.1)) else if 6 ≤ sJoin c.1 d.1 then decide (FP.dcmp (sReal c (sJoin c.1 d.1)) (sReal d (sJoin c.1 d.1)) = some .eq) else decide (c.2.1 = d.2.1)
/-- how far two fractions are -/
def sFar (x y : UInt64) : UInt64 := if FP.dcmp x y = some .gt then FP.dsub x y else FP.dsub y x
def sFarL (x y : Int64) : Int64 := if y < x then x - y else y - x
def sNear (c d : sC) (tol : Int32) : Bool := if sJoin c.1 d.1 < 1 ∨ sAlike c d = true then false else if 6 ≤ sJoin c.1 d.1 then decide (¬ FP.dcmp (sFar (sReal c (sJoin c.1 d.1)) (sReal d (sJoin c.1 d.1))) (FP.i2d tol) = some .gt) else decide (0 ≤ sFarL c.2.1 d.2.1 ∧ sFarL c.2.1 d.2.1 ≤ tol.toInt64)
def sLike (c d : sC) (tol : Int32) : Int32 := if sAlike c d = true then 0 else if sNear c d tol = true then 1 else 2
/-- the value of an int by a sort -/
def sVal (s v : Int32) : sC :=
  if s = 0 then (s, (v &&& 1).toInt64, 0)
  else if s = 1 then (s, v.toInt8.toInt32.toInt64, 0)
  else if s = 2 then (s, (v &&& 65535).toInt64, 0)
  else if s = 3 then (s, v.toInt16.toInt32.toInt64, 0)
  else if s = 6 then (s, 0, FP.f2d (FP.fmul (FP.i2f v) 1040187392))
  else if s = 7 then (s, 0, FP.dmul (FP.i2d v) 4593671619917905920)
  else if s = 9 then (s, 0, 0)
  else if s = 10 then (s, ((v - v / 5 * 5 + 5) - (v - v / 5 * 5 + 5) / 5 * 5).toInt64, 0)
  else (s, v.toInt64, 0)
/-- what a cell may hold -/
def sOk (c : sC) : Prop := 0 ≤ c.1 ∧ c.1 ≤ 10 ∧ (c.1 = 6 → c.2.1 = 0 ∧ okF c.2.2) ∧ (c.1 = 7 → c.2.1 = 0 ∧ okD c.2.2) ∧ (c.1 ≠ 6 → c.1 ≠ 7 → c.2.2 = 0) ∧ (c.1 = 0 → c.2.1 = 0 ∨ c.2.1 = 1) ∧ (c.1 = 9 → c.2.1 = 0)
theorem okD_0 : okD 0 := ⟨⟨false, 0, _, FP.Core.val64_dconst0, vle_0 _ _⟩, by decide⟩
theorem sReal_ok {c : sC} (h : sOk c) (hs : c.1 ≤ 7) (k : Int32) : okD (sReal c k) := by
  obtain ⟨h0, -, h6, h7, -⟩ := h
  unfold sReal
  split
  · have : c.1 = 6 ∨ c.1 = 7 := by grind
    rcases this with q | q
    · exact okF_okD (h6 q).2
    · exact (h7 q).2
  · split
    · exact okS_f2d (okS_l2f _)
    · exact okD_l2d _
theorem dcmp_ok {k : Nat} {x y : UInt64} (hx : fpD k x) (hy : fpD k y) : FP.dcmp x y ≠ none := by
  intro q
  rcases (FP.Core.dcmp_none x y).mp q with z | z
  · exact fpD_nn hx z
  · exact fpD_nn hy z

