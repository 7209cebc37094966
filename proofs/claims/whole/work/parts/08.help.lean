theorem wh_950 : Cond.methodLink RJxe99ae 134 ⟨"java/lang/Double", "doubleToRawLongBits", "(D)J"⟩ ∈ lw_tbl := List.mem_of_getElem? (i := 950) (by decide +kernel)
theorem wh_952 : Cond.native ⟨"java/lang/Double", "doubleToRawLongBits", "(D)J"⟩ ∈ lw_tbl := List.mem_of_getElem? (i := 952) (by decide +kernel)
theorem wh_951 : Cond.static ⟨"java/lang/Double", "doubleToRawLongBits", "(D)J"⟩ ∈ lw_tbl := List.mem_of_getElem? (i := 951) (by decide +kernel)
theorem wh_70 : Cond.initialized "java/lang/Double" ∈ lw_tbl := List.mem_of_getElem? (i := 70) (by decide +kernel)
theorem wh_940 : Cond.methodLink RJxf58ca 74 ⟨"java/lang/Float", "floatToRawIntBits", "(F)I"⟩ ∈ lw_tbl := List.mem_of_getElem? (i := 940) (by decide +kernel)
theorem wh_942 : Cond.native ⟨"java/lang/Float", "floatToRawIntBits", "(F)I"⟩ ∈ lw_tbl := List.mem_of_getElem? (i := 942) (by decide +kernel)
theorem wh_941 : Cond.static ⟨"java/lang/Float", "floatToRawIntBits", "(F)I"⟩ ∈ lw_tbl := List.mem_of_getElem? (i := 941) (by decide +kernel)
theorem wh_69 : Cond.initialized "java/lang/Float" ∈ lw_tbl := List.mem_of_getElem? (i := 69) (by decide +kernel)
abbrev rmJ9_floorMod_f86c9 : Room := { frames := 0, cells := 0, slots := 0, locals := 0 }
abbrev rmJ9_max_7cf53 : Room := { frames := 0, cells := 0, slots := 0, locals := 0 }
abbrev rmJ9_min_7cf53 : Room := { frames := 0, cells := 0, slots := 0, locals := 0 }
abbrev rmJxe99ae_doubleToLongBits_ccdee : Room := { frames := 1, cells := 0, slots := 0, locals := 23 }
abbrev rmJxe99ae_isNaN_b9ae7 : Room := { frames := 0, cells := 0, slots := 0, locals := 0 }
abbrev rmJxf58ca_floatToIntBits_5c35a : Room := { frames := 1, cells := 0, slots := 0, locals := 23 }
abbrev rmJxf58ca_isNaN_12338 : Room := { frames := 0, cells := 0, slots := 0, locals := 0 }
abbrev rmX0_costOf : Room := { frames := 0, cells := 0, slots := 0, locals := 0 }
abbrev rmX0_init : Room := { frames := 1, cells := 45, slots := 922, locals := 20 }
abbrev rmX0_judgeAlone : Room := { frames := 4, cells := 0, slots := 0, locals := 91 }
abbrev rmX0_leastCost : Room := { frames := 5, cells := 0, slots := 0, locals := 113 }
abbrev rmX0_leftCost : Room := { frames := 1, cells := 0, slots := 0, locals := 21 }
abbrev rmX0_pairCost : Room := { frames := 1, cells := 0, slots := 0, locals := 21 }
abbrev rmX0_rightCost : Room := { frames := 1, cells := 0, slots := 0, locals := 21 }
abbrev rmX0_traceSteps : Room := { frames := 2, cells := 0, slots := 0, locals := 44 }
abbrev rmX10_act : Room := { frames := 2, cells := 0, slots := 0, locals := 45 }
abbrev rmX10_actFault : Room := { frames := 5, cells := 0, slots := 0, locals := 111 }
abbrev rmX10_alikeBy : Room := { frames := 5, cells := 0, slots := 0, locals := 111 }
abbrev rmX10_aloneCosts : Room := { frames := 6, cells := 0, slots := 0, locals := 133 }
abbrev rmX10_amountOf : Room := { frames := 3, cells := 0, slots := 0, locals := 66 }
abbrev rmX10_apply : Room := { frames := 6, cells := 0, slots := 0, locals := 136 }
abbrev rmX10_areAlike : Room := { frames := 4, cells := 0, slots := 0, locals := 88 }
abbrev rmX10_areNear : Room := { frames := 5, cells := 0, slots := 0, locals := 111 }
abbrev rmX10_ask : Room := { frames := 4, cells := 0, slots := 0, locals := 91 }
abbrev rmX10_askFault : Room := { frames := 3, cells := 0, slots := 0, locals := 66 }
abbrev rmX10_back : Room := { frames := 3, cells := 0, slots := 0, locals := 71 }
abbrev rmX10_besideCosts : Room := { frames := 7, cells := 0, slots := 0, locals := 160 }
abbrev rmX10_besides : Room := { frames := 6, cells := 0, slots := 0, locals := 132 }
abbrev rmX10_bitsOf : Room := { frames := 2, cells := 0, slots := 0, locals := 44 }
abbrev rmX10_box : Room := { frames := 4, cells := 0, slots := 0, locals := 88 }
abbrev rmX10_cellAt : Room := { frames := 0, cells := 0, slots := 0, locals := 0 }
abbrev rmX10_cellFault : Room := { frames := 1, cells := 0, slots := 0, locals := 25 }
abbrev rmX10_compare : Room := { frames := 9, cells := 0, slots := 0, locals := 208 }
abbrev rmX10_copiesCell : Room := { frames := 1, cells := 0, slots := 0, locals := 26 }
abbrev rmX10_copiesRow : Room := { frames := 2, cells := 0, slots := 0, locals := 48 }
abbrev rmX10_count : Room := { frames := 2, cells := 0, slots := 0, locals := 47 }
abbrev rmX10_doubles : Room := { frames := 1, cells := 0, slots := 0, locals := 20 }
abbrev rmX10_draw : Room := { frames := 3, cells := 0, slots := 0, locals := 73 }
abbrev rmX10_fill : Room := { frames := 4, cells := 0, slots := 0, locals := 91 }
abbrev rmX10_findSteps : Room := { frames := 8, cells := 0, slots := 0, locals := 183 }
abbrev rmX10_firstOf : Room := { frames := 0, cells := 0, slots := 0, locals := 0 }
abbrev rmX10_flag : Room := { frames := 0, cells := 0, slots := 0, locals := 0 }
abbrev rmX10_fractionOf : Room := { frames := 0, cells := 0, slots := 0, locals := 0 }
abbrev rmX10_goesInto : Room := { frames := 2, cells := 0, slots := 0, locals := 45 }
abbrev rmX10_goesStep : Room := { frames := 0, cells := 0, slots := 0, locals := 0 }
abbrev rmX10_got : Room := { frames := 0, cells := 0, slots := 0, locals := 0 }
abbrev rmX10_halfOf : Room := { frames := 0, cells := 0, slots := 0, locals := 0 }
abbrev rmX10_in : Room := { frames := 0, cells := 0, slots := 0, locals := 0 }
abbrev rmX10_init : Room := { frames := 1, cells := 19, slots := 3900, locals := 20 }
abbrev rmX10_isHeld : Room := { frames := 0, cells := 0, slots := 0, locals := 0 }
abbrev rmX10_isKind : Room := { frames := 1, cells := 0, slots := 0, locals := 25 }
abbrev rmX10_isNumber : Room := { frames := 1, cells := 0, slots := 0, locals := 25 }
abbrev rmX10_isPatchNumber : Room := { frames := 1, cells := 0, slots := 0, locals := 25 }
abbrev rmX10_isRecord : Room := { frames := 1, cells := 0, slots := 0, locals := 25 }
abbrev rmX10_isSort : Room := { frames := 1, cells := 0, slots := 0, locals := 25 }
abbrev rmX10_isTwice : Room := { frames := 5, cells := 0, slots := 0, locals := 111 }
abbrev rmX10_join : Room := { frames := 6, cells := 0, slots := 0, locals := 136 }
abbrev rmX10_joinOf : Room := { frames := 3, cells := 0, slots := 0, locals := 66 }
abbrev rmX10_joinedKind : Room := { frames := 4, cells := 0, slots := 0, locals := 88 }
abbrev rmX10_keep : Room := { frames := 3, cells := 0, slots := 0, locals := 71 }
abbrev rmX10_kind : Room := { frames := 2, cells := 0, slots := 0, locals := 45 }
abbrev rmX10_kindOf : Room := { frames := 0, cells := 0, slots := 0, locals := 0 }
abbrev rmX10_lag : Room := { frames := 6, cells := 0, slots := 0, locals := 136 }
abbrev rmX10_lay : Room := { frames := 4, cells := 0, slots := 0, locals := 91 }
abbrev rmX10_layFault : Room := { frames := 3, cells := 0, slots := 0, locals := 66 }
abbrev rmX10_lays : Room := { frames := 0, cells := 0, slots := 0, locals := 0 }
abbrev rmX10_laysMean : Room := { frames := 4, cells := 0, slots := 0, locals := 88 }
abbrev rmX10_laysValue : Room := { frames := 2, cells := 0, slots := 0, locals := 49 }
abbrev rmX10_leastOf : Room := { frames := 0, cells := 0, slots := 0, locals := 0 }
abbrev rmX10_like : Room := { frames := 7, cells := 0, slots := 0, locals := 160 }
abbrev rmX10_likeness : Room := { frames := 6, cells := 0, slots := 0, locals := 138 }
abbrev rmX10_log : Room := { frames := 3, cells := 0, slots := 0, locals := 73 }
abbrev rmX10_makesBeside : Room := { frames := 5, cells := 0, slots := 0, locals := 112 }
abbrev rmX10_move : Room := { frames := 5, cells := 0, slots := 0, locals := 119 }
abbrev rmX10_moves : Room := { frames := 4, cells := 0, slots := 0, locals := 91 }
abbrev rmX10_near : Room := { frames := 9, cells := 0, slots := 0, locals := 208 }
abbrev rmX10_ofRows : Room := { frames := 1, cells := 0, slots := 0, locals := 23 }
abbrev rmX10_patch : Room := { frames := 6, cells := 0, slots := 0, locals := 132 }
abbrev rmX10_pathCosts : Room := { frames := 8, cells := 0, slots := 0, locals := 183 }
abbrev rmX10_put : Room := { frames := 4, cells := 0, slots := 0, locals := 91 }
abbrev rmX10_putFault : Room := { frames := 3, cells := 0, slots := 0, locals := 66 }
abbrev rmX10_rate : Room := { frames := 1, cells := 0, slots := 0, locals := 25 }
abbrev rmX10_record : Room := { frames := 2, cells := 0, slots := 0, locals := 47 }
abbrev rmX10_result : Room := { frames := 7, cells := 0, slots := 0, locals := 155 }
abbrev rmX10_rowFault : Room := { frames := 0, cells := 0, slots := 0, locals := 0 }
abbrev rmX10_rowsFault : Room := { frames := 1, cells := 0, slots := 0, locals := 21 }
abbrev rmX10_rowsHeld : Room := { frames := 1, cells := 0, slots := 0, locals := 20 }
abbrev rmX10_seesNear : Room := { frames := 6, cells := 0, slots := 0, locals := 138 }
abbrev rmX10_share : Room := { frames := 2, cells := 0, slots := 0, locals := 45 }
abbrev rmX10_size : Room := { frames := 2, cells := 0, slots := 0, locals := 45 }
abbrev rmX10_sizeOf : Room := { frames := 0, cells := 0, slots := 0, locals := 0 }
abbrev rmX10_step : Room := { frames := 1, cells := 0, slots := 0, locals := 25 }
abbrev rmX10_stepLikeness : Room := { frames := 5, cells := 0, slots := 0, locals := 111 }
abbrev rmX10_strays : Room := { frames := 0, cells := 0, slots := 0, locals := 0 }
abbrev rmX10_sum : Room := { frames := 4, cells := 0, slots := 0, locals := 94 }
abbrev rmX10_summed : Room := { frames := 3, cells := 0, slots := 0, locals := 66 }
abbrev rmX10_takesMade : Room := { frames := 2, cells := 0, slots := 0, locals := 49 }
abbrev rmX10_takesRow : Room := { frames := 1, cells := 0, slots := 0, locals := 23 }
abbrev rmX10_torn : Room := { frames := 0, cells := 0, slots := 0, locals := 0 }
abbrev rmX10_turn : Room := { frames := 2, cells := 0, slots := 0, locals := 48 }
abbrev rmX10_values : Room := { frames := 1, cells := 0, slots := 0, locals := 26 }
abbrev rmX10_vote : Room := { frames := 5, cells := 0, slots := 0, locals := 111 }
abbrev rmX10_widens : Room := { frames := 1, cells := 0, slots := 0, locals := 26 }
abbrev rmX10_withWhich : Room := { frames := 1, cells := 0, slots := 0, locals := 20 }
abbrev rmX1_faultOf : Room := { frames := 4, cells := 0, slots := 0, locals := 93 }
abbrev rmX1_init : Room := { frames := 2, cells := 4, slots := 125, locals := 43 }
abbrev rmX1_perform : Room := { frames := 3, cells := 0, slots := 0, locals := 66 }
abbrev rmX1_run : Room := { frames := 5, cells := 0, slots := 0, locals := 116 }
abbrev rmX2_ofDouble : Room := { frames := 1, cells := 0, slots := 0, locals := 27 }
abbrev rmX2_ofFloat : Room := { frames := 1, cells := 0, slots := 0, locals := 27 }
abbrev rmX2_ofSize : Room := { frames := 0, cells := 0, slots := 0, locals := 0 }
abbrev rmX3_amountAs : Room := { frames := 2, cells := 0, slots := 0, locals := 50 }
abbrev rmX3_copy : Room := { frames := 3, cells := 4, slots := 125, locals := 66 }
abbrev rmX3_doubleTotal : Room := { frames := 2, cells := 0, slots := 0, locals := 42 }
abbrev rmX3_falsify : Room := { frames := 2, cells := 0, slots := 0, locals := 47 }
abbrev rmX3_floatTotal : Room := { frames := 2, cells := 0, slots := 0, locals := 42 }
abbrev rmX3_init : Room := { frames := 1, cells := 3, slots := 120, locals := 20 }
abbrev rmX3_isDuplicate : Room := { frames := 3, cells := 0, slots := 0, locals := 70 }
abbrev rmX3_nulls : Room := { frames := 0, cells := 0, slots := 0, locals := 0 }
abbrev rmX3_realAs : Room := { frames := 1, cells := 0, slots := 0, locals := 20 }
abbrev rmX3_setMean : Room := { frames := 2, cells := 0, slots := 0, locals := 42 }
abbrev rmX3_setReal : Room := { frames := 0, cells := 0, slots := 0, locals := 0 }
abbrev rmX3_setValue : Room := { frames := 2, cells := 0, slots := 0, locals := 47 }
abbrev rmX3_setWhole : Room := { frames := 0, cells := 0, slots := 0, locals := 0 }
abbrev rmX3_take : Room := { frames := 2, cells := 0, slots := 0, locals := 42 }
abbrev rmX3_total : Room := { frames := 3, cells := 0, slots := 0, locals := 65 }
abbrev rmX3_wholeOf : Room := { frames := 1, cells := 0, slots := 0, locals := 25 }
abbrev rmX3_wholeTotal : Room := { frames := 0, cells := 0, slots := 0, locals := 0 }
abbrev rmX4_add : Room := { frames := 0, cells := 0, slots := 0, locals := 0 }
abbrev rmX4_hasLeft : Room := { frames := 0, cells := 0, slots := 0, locals := 0 }
abbrev rmX4_hasRight : Room := { frames := 0, cells := 0, slots := 0, locals := 0 }
abbrev rmX4_init : Room := { frames := 1, cells := 5, slots := 200, locals := 20 }
abbrev rmX4_mergeMean : Room := { frames := 3, cells := 0, slots := 0, locals := 72 }
abbrev rmX4_merged : Room := { frames := 4, cells := 4, slots := 125, locals := 98 }
abbrev rmX4_mergedKind : Room := { frames := 2, cells := 0, slots := 0, locals := 43 }
abbrev rmX4_mergedLength : Room := { frames := 1, cells := 0, slots := 0, locals := 23 }
abbrev rmX4_stepsOf : Room := { frames := 0, cells := 0, slots := 0, locals := 0 }
abbrev rmX4_verdictsOf : Room := { frames := 0, cells := 0, slots := 0, locals := 0 }
abbrev rmX5_fits : Room := { frames := 0, cells := 0, slots := 0, locals := 0 }
abbrev rmX5_isReal : Room := { frames := 0, cells := 0, slots := 0, locals := 0 }
abbrev rmX5_joined : Room := { frames := 1, cells := 0, slots := 0, locals := 21 }
abbrev rmX6_alikeAtShift : Room := { frames := 4, cells := 0, slots := 0, locals := 93 }
abbrev rmX6_isAlike : Room := { frames := 3, cells := 0, slots := 0, locals := 70 }
abbrev rmX6_isClose : Room := { frames := 0, cells := 0, slots := 0, locals := 0 }
abbrev rmX6_ofReals : Room := { frames := 0, cells := 0, slots := 0, locals := 0 }
abbrev rmX6_verdict : Room := { frames := 2, cells := 0, slots := 0, locals := 43 }
abbrev rmX7_actOf : Room := { frames := 0, cells := 0, slots := 0, locals := 0 }
abbrev rmX7_actsOf : Room := { frames := 0, cells := 0, slots := 0, locals := 0 }
abbrev rmX7_hasNew : Room := { frames := 0, cells := 0, slots := 0, locals := 0 }
abbrev rmX7_hasOld : Room := { frames := 0, cells := 0, slots := 0, locals := 0 }
abbrev rmX7_init : Room := { frames := 3, cells := 9, slots := 290, locals := 66 }
abbrev rmX7_reverse : Room := { frames := 0, cells := 0, slots := 0, locals := 0 }
abbrev rmX8_copy : Room := { frames := 4, cells := 35, slots := 1018, locals := 88 }
abbrev rmX8_distinct : Room := { frames := 2, cells := 0, slots := 0, locals := 43 }
abbrev rmX8_distinctCells : Room := { frames := 2, cells := 0, slots := 0, locals := 43 }
abbrev rmX8_distinctNulls : Room := { frames := 2, cells := 0, slots := 0, locals := 43 }
abbrev rmX8_faultWithoutArray : Room := { frames := 0, cells := 0, slots := 0, locals := 0 }
abbrev rmX8_hold : Room := { frames := 0, cells := 0, slots := 0, locals := 0 }
abbrev rmX8_holdSame : Room := { frames := 0, cells := 0, slots := 0, locals := 0 }
abbrev rmX8_holdSingle : Room := { frames := 0, cells := 0, slots := 0, locals := 0 }
abbrev rmX8_holders : Room := { frames := 0, cells := 0, slots := 0, locals := 0 }
abbrev rmX8_init : Room := { frames := 1, cells := 2, slots := 16, locals := 20 }
abbrev rmX8_isFirstHolder : Room := { frames := 1, cells := 0, slots := 0, locals := 22 }
abbrev rmX8_leastHolder : Room := { frames := 0, cells := 0, slots := 0, locals := 0 }
abbrev rmX9_act : Room := { frames := 2, cells := 0, slots := 0, locals := 42 }
abbrev rmX9_answer : Room := { frames := 0, cells := 0, slots := 0, locals := 0 }
abbrev rmX9_apply : Room := { frames := 6, cells := 5, slots := 131, locals := 137 }
abbrev rmX9_ask : Room := { frames := 3, cells := 0, slots := 0, locals := 72 }
abbrev rmX9_back : Room := { frames := 5, cells := 35, slots := 1018, locals := 110 }
abbrev rmX9_box : Room := { frames := 3, cells := 0, slots := 0, locals := 72 }
abbrev rmX9_cellFault : Room := { frames := 1, cells := 0, slots := 0, locals := 22 }
abbrev rmX9_compare : Room := { frames := 6, cells := 14, slots := 459, locals := 141 }
abbrev rmX9_count : Room := { frames := 3, cells := 0, slots := 0, locals := 65 }
abbrev rmX9_draw : Room := { frames := 3, cells := 4, slots := 125, locals := 70 }
abbrev rmX9_drawOf : Room := { frames := 0, cells := 0, slots := 0, locals := 0 }
abbrev rmX9_fill : Room := { frames := 5, cells := 0, slots := 0, locals := 115 }
abbrev rmX9_got : Room := { frames := 0, cells := 0, slots := 0, locals := 0 }
abbrev rmX9_imagesKept : Room := { frames := 0, cells := 0, slots := 0, locals := 0 }
abbrev rmX9_init : Room := { frames := 2, cells := 60, slots := 1200, locals := 43 }
abbrev rmX9_isPatch : Room := { frames := 1, cells := 0, slots := 0, locals := 22 }
abbrev rmX9_isRecord : Room := { frames := 1, cells := 0, slots := 0, locals := 22 }
abbrev rmX9_isWithin : Room := { frames := 0, cells := 0, slots := 0, locals := 0 }
abbrev rmX9_join : Room := { frames := 5, cells := 4, slots := 125, locals := 122 }
abbrev rmX9_keep : Room := { frames := 5, cells := 35, slots := 1018, locals := 110 }
abbrev rmX9_kind : Room := { frames := 2, cells := 0, slots := 0, locals := 42 }
abbrev rmX9_lag : Room := { frames := 5, cells := 0, slots := 0, locals := 118 }
abbrev rmX9_lay : Room := { frames := 4, cells := 0, slots := 0, locals := 92 }
abbrev rmX9_like : Room := { frames := 3, cells := 0, slots := 0, locals := 70 }
abbrev rmX9_log : Room := { frames := 4, cells := 4, slots := 125, locals := 97 }
abbrev rmX9_logged : Room := { frames := 3, cells := 0, slots := 0, locals := 69 }
abbrev rmX9_loggedLength : Room := { frames := 1, cells := 0, slots := 0, locals := 20 }
abbrev rmX9_move : Room := { frames := 4, cells := 0, slots := 0, locals := 92 }
abbrev rmX9_near : Room := { frames := 6, cells := 0, slots := 0, locals := 141 }
abbrev rmX9_nextState : Room := { frames := 0, cells := 0, slots := 0, locals := 0 }
abbrev rmX9_patch : Room := { frames := 4, cells := 10, slots := 294, locals := 88 }
abbrev rmX9_patchesMade : Room := { frames := 0, cells := 0, slots := 0, locals := 0 }
abbrev rmX9_put : Room := { frames := 5, cells := 0, slots := 0, locals := 115 }
abbrev rmX9_rate : Room := { frames := 1, cells := 0, slots := 0, locals := 22 }
abbrev rmX9_readFault : Room := { frames := 1, cells := 0, slots := 0, locals := 21 }
abbrev rmX9_record : Room := { frames := 2, cells := 4, slots := 125, locals := 43 }
abbrev rmX9_result : Room := { frames := 3, cells := 0, slots := 0, locals := 64 }
abbrev rmX9_share : Room := { frames := 2, cells := 0, slots := 0, locals := 42 }
abbrev rmX9_size : Room := { frames := 2, cells := 0, slots := 0, locals := 42 }
abbrev rmX9_step : Room := { frames := 1, cells := 0, slots := 0, locals := 22 }
abbrev rmX9_sum : Room := { frames := 4, cells := 0, slots := 0, locals := 86 }
abbrev rmX9_timesWritten : Room := { frames := 0, cells := 0, slots := 0, locals := 0 }
abbrev rmX9_torn : Room := { frames := 0, cells := 0, slots := 0, locals := 0 }
abbrev rmX9_turn : Room := { frames := 2, cells := 0, slots := 0, locals := 42 }
abbrev rmX9_vote : Room := { frames := 4, cells := 4, slots := 125, locals := 93 }
abbrev rmX9_writeCell : Room := { frames := 3, cells := 0, slots := 0, locals := 66 }
abbrev rmX9_writeNumber : Room := { frames := 4, cells := 0, slots := 0, locals := 92 }
section ZH
variable {g : zG} {Y : zY} {Q : Array Value → List Frame → State → State → Prop} {pc pc0 : Nat} {lv : List (Nat × Value)} {st : List Value} {h : zH} {ce sl : Nat}
theorem z_b0 (P : Prop) [Decidable P] : (if P then (1 : Int32) else 0) = 0 ↔ ¬ P := by by_cases h : P <;> simp [h]
theorem z_b1 (P : Prop) [Decidable P] : ¬ (if P then (1 : Int32) else 0) = 0 ↔ P := by by_cases h : P <;> simp [h]
/-- a boolean keeps its number -/
theorem z_nb (P : Prop) [Decidable P] : narrow .boolean (.int (if P then 1 else 0)) = .int (if P then 1 else 0) := by by_cases h : P <;> simp [h] <;> rfl
theorem z_bif_eq {P : Prop} [Decidable P] {off : Int} {tgt : Nat} (hd : decode Y.2.1 pc = .ok (.ifCond .eq off, 3)) (hp : pc0 = pc) (ht : (pc : Int) + off = (tgt : Int)) (kt : ¬ P → zZ g Y Q tgt lv st h ce sl) (kf : P → zZ g Y Q (pc + 3) lv st h ce sl) : zZ g Y Q pc0 lv (.int (if P then 1 else 0) :: st) h ce sl := z_if_eq hd hp ht (fun c => kt ((z_b0 P).mp c)) (fun c => kf ((z_b1 P).mp c))
theorem z_bif_ne {P : Prop} [Decidable P] {off : Int} {tgt : Nat} (hd : decode Y.2.1 pc = .ok (.ifCond .ne off, 3)) (hp : pc0 = pc) (ht : (pc : Int) + off = (tgt : Int)) (kt : P → zZ g Y Q tgt lv st h ce sl) (kf : ¬ P → zZ g Y Q (pc + 3) lv st h ce sl) : zZ g Y Q pc0 lv (.int (if P then 1 else 0) :: st) h ce sl := z_if_ne hd hp ht (fun c => kt ((z_b1 P).mp c)) (fun c => kf ((z_b0 P).mp c))
/-- the two that are the machine's own -/
theorem zc_nd {b : UInt64} (hY : Y.1 = RJxe99ae) (hd : decode Y.2.1 pc = .ok (.invokestatic 134, 3)) (hp : pc0 = pc) (hf : 1 ≤ Y.2.2.2.2.1.frames) (hlc : (st.map fun v => v.category).sum + 15 ≤ Y.2.2.2.2.1.locals) (k : zZ g Y Q (pc + 3) lv (.long b.toInt64 :: st) h ce sl) : zZ g Y Q pc0 lv (.double b :: st) h ce sl := by
  subst hp
  intro p e s m args below meth c H locs ls C hO hS hl
  exact vn_d2l C.1 C.2.1 (C.2.2.1.trans hl.1.symm) C.own (C.K.word (by rw [hY]; exact wh_950) rfl) (C.K.word wh_952 rfl) (C.K.word wh_951 rfl) (C.K.word wh_70 rfl) hf hlc hd (k p e s m args below meth c H locs ls C hO hS hl)
theorem zc_nf {b : UInt32} (hY : Y.1 = RJxf58ca) (hd : decode Y.2.1 pc = .ok (.invokestatic 74, 3)) (hp : pc0 = pc) (hf : 1 ≤ Y.2.2.2.2.1.frames) (hlc : (st.map fun v => v.category).sum + 15 ≤ Y.2.2.2.2.1.locals) (k : zZ g Y Q (pc + 3) lv (.int b.toInt32 :: st) h ce sl) : zZ g Y Q pc0 lv (.float b :: st) h ce sl := by
  subst hp
  intro p e s m args below meth c H locs ls C hO hS hl
  exact vn_f2i C.1 C.2.1 (C.2.2.1.trans hl.1.symm) C.own (C.K.word (by rw [hY]; exact wh_940) rfl) (C.K.word wh_942 rfl) (C.K.word wh_941 rfl) (C.K.word wh_69 rfl) hf hlc hd (k p e s m args below meth c H locs ls C hO hS hl)
theorem z_callIN {y : MethodName} {cc : ByteArray} {maxL : Nat} {rm : Room} {As rest st0 : List Value} {b : Nat} {post : Option Value → zH → Prop} {index : Nat} {host : String} (w1 : ∀ U, zK g U → va_Nw (.methodLinkNest Y.1 index y host) U) (w2 : Cond.instanceMethod y ∈ lw_tbl) (w3 : Cond.initialized y.cls ∈ lw_tbl) (w4 : Cond.code y cc maxL none ∈ lw_tbl) (n : Nat) (hdn : y.cls ≠ "java/lang/invoke/MethodHandle" ∧ y.cls ≠ "java/lang/invoke/VarHandle" ∧ (parseMethodDescriptor y.desc).map (fun d => d.parameters.length) = some n) (hyn : y.name = "<init>") (hd : decode Y.2.1 pc = .ok (.invokespecial index, 3)) (hp : pc0 = pc) (hM : zM g y cc maxL none rm (.ref b :: As) h post) (hs : st0 = As.reverse ++ .ref b :: rest) (hn : As.length = n) (hR : rm.frames + 1 ≤ Y.2.2.2.2.1.frames ∧ 8 + (maxL + 11) + rm.locals ≤ Y.2.2.2.2.1.locals) (hf : ce + rm.cells ≤ Y.2.2.2.2.1.cells ∧ sl + rm.slots ≤ Y.2.2.2.2.1.slots) (hw : (rest.map fun v => v.category).sum ≤ 8)
    (k : ∀ v h1, post v h1 → zZ g Y Q (pc + 3) lv (v.toList ++ rest) h1 (ce + rm.cells) (sl + rm.slots)) : zZ g Y Q pc0 lv st0 h ce sl := by
  subst hp
  intro p e s m args below meth c H locs ls C hO hS hl
  have hlo : g.2.2.2 ≤ H.size := Nat.le_trans C.lo hS.1
  refine z_run (va_runIN (Ts := [.code y cc maxL none]) (nL := Y.2.2.1) (own := Y.1) ⟨C.1, C.2.1, C.2.2.1, C.own, fun w hw => by cases List.mem_singleton.mp hw; exact C.K.word w4 rfl⟩ hM ⟨va_cnB n (fun w hw => by cases List.mem_singleton.mp hw; exact C.K.word w4 rfl) (fun w hw => ⟨hw, by cases List.mem_singleton.mp hw; exact Or.inl rfl⟩) rfl rfl rfl (w1 s C.K) (C.K.word w3 rfl) hdn hR, hyn, C.K.word w2 rfl⟩ ⟨z_blind, fun U hU hW => ⟨rfl, by rw [hU]; exact hO, zK.warm hW C.K, by rw [hU]; exact hlo⟩⟩ rfl hn hl.1 hs (lv_room hw) hd hf) hS (fun v h1 H1 locs1 hp hO1 hS1 => k v h1 hp p e s m args below meth c H1 locs1 ls C hO1 hS1 hl)
end ZH

