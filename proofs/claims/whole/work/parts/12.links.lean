-- words by their places
theorem inX0a : ∀ w ∈ u_ws RX0 TX0 2, w ∈ lw_tbl := by decide +kernel
theorem inX0 : ∀ w ∈ u_ws RX0 TX0 2, w ∈ gw := fun w hw => List.mem_filter.mpr ⟨inX0a w hw, List.all_eq_true.mp (show (u_ws RX0 TX0 2).all goodWord = true by decide +kernel) w hw⟩
theorem inX1a : ∀ w ∈ u_ws RX1 TX1 7, w ∈ lw_tbl := by decide +kernel
theorem inX1 : ∀ w ∈ u_ws RX1 TX1 7, w ∈ gw := fun w hw => List.mem_filter.mpr ⟨inX1a w hw, List.all_eq_true.mp (show (u_ws RX1 TX1 7).all goodWord = true by decide +kernel) w hw⟩
theorem inX2a : ∀ w ∈ u_ws RX2 TX2 11, w ∈ lw_tbl := by decide +kernel
theorem inX2 : ∀ w ∈ u_ws RX2 TX2 11, w ∈ gw := fun w hw => List.mem_filter.mpr ⟨inX2a w hw, List.all_eq_true.mp (show (u_ws RX2 TX2 11).all goodWord = true by decide +kernel) w hw⟩
theorem inX3a : ∀ w ∈ u_ws RX3 TX3 6, w ∈ lw_tbl := by decide +kernel
theorem inX3 : ∀ w ∈ u_ws RX3 TX3 6, w ∈ gw := fun w hw => List.mem_filter.mpr ⟨inX3a w hw, List.all_eq_true.mp (show (u_ws RX3 TX3 6).all goodWord = true by decide +kernel) w hw⟩
theorem inX4a : ∀ w ∈ u_ws RX4 TX4 3, w ∈ lw_tbl := by decide +kernel
theorem inX4 : ∀ w ∈ u_ws RX4 TX4 3, w ∈ gw := fun w hw => List.mem_filter.mpr ⟨inX4a w hw, List.all_eq_true.mp (show (u_ws RX4 TX4 3).all goodWord = true by decide +kernel) w hw⟩
theorem inX5a : ∀ w ∈ u_ws RX5 TX5 3, w ∈ lw_tbl := by decide +kernel
theorem inX5 : ∀ w ∈ u_ws RX5 TX5 3, w ∈ gw := fun w hw => List.mem_filter.mpr ⟨inX5a w hw, List.all_eq_true.mp (show (u_ws RX5 TX5 3).all goodWord = true by decide +kernel) w hw⟩
theorem inX6a : ∀ w ∈ u_ws RX6 TX6 9, w ∈ lw_tbl := by decide +kernel
theorem inX6 : ∀ w ∈ u_ws RX6 TX6 9, w ∈ gw := fun w hw => List.mem_filter.mpr ⟨inX6a w hw, List.all_eq_true.mp (show (u_ws RX6 TX6 9).all goodWord = true by decide +kernel) w hw⟩
theorem inX7a : ∀ w ∈ u_ws RX7 TX7 5, w ∈ lw_tbl := by decide +kernel
theorem inX7 : ∀ w ∈ u_ws RX7 TX7 5, w ∈ gw := fun w hw => List.mem_filter.mpr ⟨inX7a w hw, List.all_eq_true.mp (show (u_ws RX7 TX7 5).all goodWord = true by decide +kernel) w hw⟩
theorem inX8a : ∀ w ∈ u_ws RX8 TX8 7, w ∈ lw_tbl := by decide +kernel
theorem inX8 : ∀ w ∈ u_ws RX8 TX8 7, w ∈ gw := fun w hw => List.mem_filter.mpr ⟨inX8a w hw, List.all_eq_true.mp (show (u_ws RX8 TX8 7).all goodWord = true by decide +kernel) w hw⟩
theorem inX9a : ∀ w ∈ u_ws RX9 TX9 12, w ∈ lw_tbl := by decide +kernel
theorem inX9 : ∀ w ∈ u_ws RX9 TX9 12, w ∈ gw := fun w hw => List.mem_filter.mpr ⟨inX9a w hw, List.all_eq_true.mp (show (u_ws RX9 TX9 12).all goodWord = true by decide +kernel) w hw⟩
theorem inX10a : ∀ w ∈ u_ws RX10 TX10 49, w ∈ lw_tbl := by decide +kernel
theorem inX10 : ∀ w ∈ u_ws RX10 TX10 49, w ∈ gw := fun w hw => List.mem_filter.mpr ⟨inX10a w hw, List.all_eq_true.mp (show (u_ws RX10 TX10 49).all goodWord = true by decide +kernel) w hw⟩
theorem q_obj : Cond.code objectInit ⟨#[0xb1]⟩ 1 none ∈ gw := gw_at 57 (by decide +kernel) (by decide +kernel)
theorem q_56 : Cond.instanceMethod objectInit ∈ gw := gw_at 56 (by decide +kernel) (by decide +kernel)
theorem q_obi : Cond.instanceMethod objectInit ∈ gw := q_56
theorem q_458 : Cond.native arraycopyName ∈ gw := gw_at 458 (by decide +kernel) (by decide +kernel)
theorem q_acn : Cond.native arraycopyName ∈ gw := q_458
theorem q_457 : Cond.static arraycopyName ∈ gw := gw_at 457 (by decide +kernel) (by decide +kernel)
theorem q_acs : Cond.static arraycopyName ∈ gw := q_457
theorem q_46 : Cond.initialized "java/lang/System" ∈ gw := gw_at 46 (by decide +kernel) (by decide +kernel)
theorem q_aci : Cond.initialized "java/lang/System" ∈ gw := q_46
theorem q_78 : Cond.arrayClass .int ∈ gw := gw_at 78 (by decide +kernel) (by decide +kernel)
theorem q_newi : Cond.arrayClass .int ∈ gw := q_78
theorem q_133 : Cond.arrayClass .boolean ∈ gw := gw_at 133 (by decide +kernel) (by decide +kernel)
theorem q_newb : Cond.arrayClass .boolean ∈ gw := q_133
theorem q_178 : Cond.arrayClass .long ∈ gw := gw_at 178 (by decide +kernel) (by decide +kernel)
theorem q_newl : Cond.arrayClass .long ∈ gw := q_178
-- methods
abbrev mX4_init : MI := (RX4, yX4_init, cX4_init, 1, none, { frames := 1, cells := 1, slots := 8, locals := 20 })
theorem q_258 : Cond.code yX4_init cX4_init 1 none ∈ gw := gw_at 258 (by decide +kernel) (by decide +kernel)
theorem q_42 : Cond.initialized "ColourWorks$Mix" ∈ gw := gw_at 42 (by decide +kernel) (by decide +kernel)
theorem k_X4_init : MF mX4_init := ⟨q_258, q_42, by decide +kernel, by decide +kernel⟩
abbrev mX0_init : MI := (RX0, yX0_init, cX0_init, 1, none, { frames := 2, cells := 2, slots := 11, locals := 40 })
theorem q_252 : Cond.code yX0_init cX0_init 1 none ∈ gw := gw_at 252 (by decide +kernel) (by decide +kernel)
theorem q_41 : Cond.initialized "ColourWorks$Batch" ∈ gw := gw_at 41 (by decide +kernel) (by decide +kernel)
theorem k_X0_init : MF mX0_init := ⟨q_252, q_41, by decide +kernel, by decide +kernel⟩
abbrev mX1_init : MI := (RX1, yX1_init, cX1_init, 1, none, { frames := 1, cells := 6, slots := 420, locals := 20 })
theorem q_108 : Cond.code yX1_init cX1_init 1 none ∈ gw := gw_at 108 (by decide +kernel) (by decide +kernel)
theorem q_37 : Cond.initialized "ColourWorks$Cookbook" ∈ gw := gw_at 37 (by decide +kernel) (by decide +kernel)
theorem k_X1_init : MF mX1_init := ⟨q_108, q_37, by decide +kernel, by decide +kernel⟩
abbrev mX1_has : MI := (RX1, yX1_has, cX1_has, 2, (some .boolean), { frames := 0, cells := 0, slots := 0, locals := 0 })
theorem q_436 : Cond.code yX1_has cX1_has 2 (some .boolean) ∈ gw := gw_at 436 (by decide +kernel) (by decide +kernel)
theorem k_X1_has : MF mX1_has := ⟨q_436, q_37, by decide +kernel, by decide +kernel⟩
abbrev mX1_add : MI := (RX1, yX1_add, cX1_add, 1, (some .int), { frames := 0, cells := 0, slots := 0, locals := 0 })
theorem q_428 : Cond.code yX1_add cX1_add 1 (some .int) ∈ gw := gw_at 428 (by decide +kernel) (by decide +kernel)
theorem k_X1_add : MF mX1_add := ⟨q_428, q_37, by decide +kernel, by decide +kernel⟩
abbrev mX1_need : MI := (RX1, yX1_need, cX1_need, 3, (some .int), { frames := 0, cells := 0, slots := 0, locals := 0 })
theorem q_466 : Cond.code yX1_need cX1_need 3 (some .int) ∈ gw := gw_at 466 (by decide +kernel) (by decide +kernel)
theorem k_X1_need : MF mX1_need := ⟨q_466, q_37, by decide +kernel, by decide +kernel⟩
abbrev mJ7_fill_53178 : MI := (RJ7, yJ7_fill_53178, cJ7_fill_53178, 4, none, { frames := 0, cells := 0, slots := 0, locals := 0 })
theorem q_447 : Cond.code yJ7_fill_53178 cJ7_fill_53178 4 none ∈ gw := gw_at 447 (by decide +kernel) (by decide +kernel)
theorem q_45 : Cond.initialized "java/util/Arrays" ∈ gw := gw_at 45 (by decide +kernel) (by decide +kernel)
theorem k_J7_fill_53178 : MF mJ7_fill_53178 := ⟨q_447, q_45, by decide +kernel, by decide +kernel⟩
abbrev mX1_addPartToTrial : MI := (RX1, yX1_addPartToTrial, cX1_addPartToTrial, 5, none, { frames := 0, cells := 0, slots := 0, locals := 0 })
theorem q_455 : Cond.code yX1_addPartToTrial cX1_addPartToTrial 5 none ∈ gw := gw_at 455 (by decide +kernel) (by decide +kernel)
theorem k_X1_addPartToTrial : MF mX1_addPartToTrial := ⟨q_455, q_37, by decide +kernel, by decide +kernel⟩
abbrev mX1_resolveInTrial : MI := (RX1, yX1_resolveInTrial, cX1_resolveInTrial, 4, (some .int), { frames := 1, cells := 0, slots := 0, locals := 24 })
theorem q_451 : Cond.code yX1_resolveInTrial cX1_resolveInTrial 4 (some .int) ∈ gw := gw_at 451 (by decide +kernel) (by decide +kernel)
theorem k_X1_resolveInTrial : MF mX1_resolveInTrial := ⟨q_451, q_37, by decide +kernel, by decide +kernel⟩
abbrev mX1_resolveAll : MI := (RX1, yX1_resolveAll, cX1_resolveAll, 2, (some .boolean), { frames := 2, cells := 0, slots := 0, locals := 47 })
theorem q_444 : Cond.code yX1_resolveAll cX1_resolveAll 2 (some .boolean) ∈ gw := gw_at 444 (by decide +kernel) (by decide +kernel)
theorem k_X1_resolveAll : MF mX1_resolveAll := ⟨q_444, q_37, by decide +kernel, by decide +kernel⟩
abbrev mX1_addPart : MI := (RX1, yX1_addPart, cX1_addPart, 6, (some .int), { frames := 3, cells := 0, slots := 0, locals := 68 })
theorem q_440 : Cond.code yX1_addPart cX1_addPart 6 (some .int) ∈ gw := gw_at 440 (by decide +kernel) (by decide +kernel)
theorem k_X1_addPart : MF mX1_addPart := ⟨q_440, q_37, by decide +kernel, by decide +kernel⟩
abbrev mX2_init : MI := (RX2, yX2_init, cX2_init, 1, none, { frames := 1, cells := 6, slots := 33, locals := 20 })
theorem q_140 : Cond.code yX2_init cX2_init 1 none ∈ gw := gw_at 140 (by decide +kernel) (by decide +kernel)
theorem q_38 : Cond.initialized "ColourWorks$DropSearch" ∈ gw := gw_at 38 (by decide +kernel) (by decide +kernel)
theorem k_X2_init : MF mX2_init := ⟨q_140, q_38, by decide +kernel, by decide +kernel⟩
abbrev mX2_aimAt : MI := (RX2, yX2_aimAt, cX2_aimAt, 4, none, { frames := 0, cells := 0, slots := 0, locals := 0 })
theorem q_522 : Cond.code yX2_aimAt cX2_aimAt 4 none ∈ gw := gw_at 522 (by decide +kernel) (by decide +kernel)
theorem k_X2_aimAt : MF mX2_aimAt := ⟨q_522, q_38, by decide +kernel, by decide +kernel⟩
abbrev mJ9_min_7cf53 : MI := (RJ9, yJ9_min_7cf53, cJ9_min_7cf53, 2, (some .int), { frames := 0, cells := 0, slots := 0, locals := 0 })
theorem q_502 : Cond.code yJ9_min_7cf53 cJ9_min_7cf53 2 (some .int) ∈ gw := gw_at 502 (by decide +kernel) (by decide +kernel)
theorem q_47 : Cond.initialized "java/lang/Math" ∈ gw := gw_at 47 (by decide +kernel) (by decide +kernel)
theorem k_J9_min_7cf53 : MF mJ9_min_7cf53 := ⟨q_502, q_47, by decide +kernel, by decide +kernel⟩
abbrev mX7_isUsable : MI := (RX7, yX7_isUsable, cX7_isUsable, 3, (some .boolean), { frames := 0, cells := 0, slots := 0, locals := 0 })
theorem q_416 : Cond.code yX7_isUsable cX7_isUsable 3 (some .boolean) ∈ gw := gw_at 416 (by decide +kernel) (by decide +kernel)
theorem q_36 : Cond.initialized "ColourWorks$Store" ∈ gw := gw_at 36 (by decide +kernel) (by decide +kernel)
theorem k_X7_isUsable : MF mX7_isUsable := ⟨q_416, q_36, by decide +kernel, by decide +kernel⟩
abbrev mX7_usableOf : MI := (RX7, yX7_usableOf, cX7_usableOf, 4, (some .int), { frames := 1, cells := 0, slots := 0, locals := 22 })
theorem q_412 : Cond.code yX7_usableOf cX7_usableOf 4 (some .int) ∈ gw := gw_at 412 (by decide +kernel) (by decide +kernel)
theorem k_X7_usableOf : MF mX7_usableOf := ⟨q_412, q_36, by decide +kernel, by decide +kernel⟩
abbrev mX5_weighted : MI := (RX5, yX5_weighted, cX5_weighted, 7, (some .long), { frames := 0, cells := 0, slots := 0, locals := 0 })
theorem q_536 : Cond.code yX5_weighted cX5_weighted 7 (some .long) ∈ gw := gw_at 536 (by decide +kernel) (by decide +kernel)
theorem q_35 : Cond.initialized "ColourWorks$Palette" ∈ gw := gw_at 35 (by decide +kernel) (by decide +kernel)
theorem k_X5_weighted : MF mX5_weighted := ⟨q_536, q_35, by decide +kernel, by decide +kernel⟩
abbrev mX5_absorbed : MI := (RX5, yX5_absorbed, cX5_absorbed, 3, (some .long), { frames := 1, cells := 0, slots := 0, locals := 26 })
theorem q_532 : Cond.code yX5_absorbed cX5_absorbed 3 (some .long) ∈ gw := gw_at 532 (by decide +kernel) (by decide +kernel)
theorem k_X5_absorbed : MF mX5_absorbed := ⟨q_532, q_35, by decide +kernel, by decide +kernel⟩
abbrev mX5_scattered : MI := (RX5, yX5_scattered, cX5_scattered, 3, (some .long), { frames := 1, cells := 0, slots := 0, locals := 26 })
theorem q_540 : Cond.code yX5_scattered cX5_scattered 3 (some .long) ∈ gw := gw_at 540 (by decide +kernel) (by decide +kernel)
theorem k_X5_scattered : MF mX5_scattered := ⟨q_540, q_35, by decide +kernel, by decide +kernel⟩
abbrev mX2_start : MI := (RX2, yX2_start, cX2_start, 6, none, { frames := 2, cells := 0, slots := 0, locals := 48 })
theorem q_526 : Cond.code yX2_start cX2_start 6 none ∈ gw := gw_at 526 (by decide +kernel) (by decide +kernel)
theorem k_X2_start : MF mX2_start := ⟨q_526, q_38, by decide +kernel, by decide +kernel⟩
abbrev mJ9_min_f86c9 : MI := (RJ9, yJ9_min_f86c9, cJ9_min_f86c9, 4, (some .long), { frames := 0, cells := 0, slots := 0, locals := 0 })
theorem q_561 : Cond.code yJ9_min_f86c9 cJ9_min_f86c9 4 (some .long) ∈ gw := gw_at 561 (by decide +kernel) (by decide +kernel)
theorem k_J9_min_f86c9 : MF mJ9_min_f86c9 := ⟨q_561, q_47, by decide +kernel, by decide +kernel⟩
abbrev mX9_shadeOfSums : MI := (RX9, yX9_shadeOfSums, cX9_shadeOfSums, 4, (some .int), { frames := 1, cells := 0, slots := 0, locals := 23 })
theorem q_556 : Cond.code yX9_shadeOfSums cX9_shadeOfSums 4 (some .int) ∈ gw := gw_at 556 (by decide +kernel) (by decide +kernel)
theorem q_34 : Cond.initialized "ColourWorks" ∈ gw := gw_at 34 (by decide +kernel) (by decide +kernel)
theorem k_X9_shadeOfSums : MF mX9_shadeOfSums := ⟨q_556, q_34, by decide +kernel, by decide +kernel⟩
abbrev mJ9_abs_0f7a4 : MI := (RJ9, yJ9_abs_0f7a4, cJ9_abs_0f7a4, 1, (some .int), { frames := 0, cells := 0, slots := 0, locals := 0 })
theorem q_564 : Cond.code yJ9_abs_0f7a4 cJ9_abs_0f7a4 1 (some .int) ∈ gw := gw_at 564 (by decide +kernel) (by decide +kernel)
theorem k_J9_abs_0f7a4 : MF mJ9_abs_0f7a4 := ⟨q_564, q_47, by decide +kernel, by decide +kernel⟩
abbrev mJ9_max_7cf53 : MI := (RJ9, yJ9_max_7cf53, cJ9_max_7cf53, 2, (some .int), { frames := 0, cells := 0, slots := 0, locals := 0 })
theorem q_567 : Cond.code yJ9_max_7cf53 cJ9_max_7cf53 2 (some .int) ∈ gw := gw_at 567 (by decide +kernel) (by decide +kernel)
theorem k_J9_max_7cf53 : MF mJ9_max_7cf53 := ⟨q_567, q_47, by decide +kernel, by decide +kernel⟩
abbrev mX2_missOfTrial : MI := (RX2, yX2_missOfTrial, cX2_missOfTrial, 4, (some .int), { frames := 2, cells := 0, slots := 0, locals := 46 })
theorem q_553 : Cond.code yX2_missOfTrial cX2_missOfTrial 4 (some .int) ∈ gw := gw_at 553 (by decide +kernel) (by decide +kernel)
theorem k_X2_missOfTrial : MF mX2_missOfTrial := ⟨q_553, q_38, by decide +kernel, by decide +kernel⟩
abbrev mX2_judge : MI := (RX2, yX2_judge, cX2_judge, 2, none, { frames := 3, cells := 0, slots := 0, locals := 69 })
theorem q_549 : Cond.code yX2_judge cX2_judge 2 none ∈ gw := gw_at 549 (by decide +kernel) (by decide +kernel)
theorem k_X2_judge : MF mX2_judge := ⟨q_549, q_38, by decide +kernel, by decide +kernel⟩
abbrev mX2_change : MI := (RX2, yX2_change, cX2_change, 5, none, { frames := 0, cells := 0, slots := 0, locals := 0 })
theorem q_576 : Cond.code yX2_change cX2_change 5 none ∈ gw := gw_at 576 (by decide +kernel) (by decide +kernel)
theorem k_X2_change : MF mX2_change := ⟨q_576, q_38, by decide +kernel, by decide +kernel⟩
abbrev mX2_advance : MI := (RX2, yX2_advance, cX2_advance, 3, (some .boolean), { frames := 1, cells := 0, slots := 0, locals := 24 })
theorem q_572 : Cond.code yX2_advance cX2_advance 3 (some .boolean) ∈ gw := gw_at 572 (by decide +kernel) (by decide +kernel)
theorem k_X2_advance : MF mX2_advance := ⟨q_572, q_38, by decide +kernel, by decide +kernel⟩
abbrev mX2_run : MI := (RX2, yX2_run, cX2_run, 3, (some .int), { frames := 4, cells := 0, slots := 0, locals := 90 })
theorem q_544 : Cond.code yX2_run cX2_run 3 (some .int) ∈ gw := gw_at 544 (by decide +kernel) (by decide +kernel)
theorem k_X2_run : MF mX2_run := ⟨q_544, q_38, by decide +kernel, by decide +kernel⟩
abbrev mX3_init : MI := (RX3, yX3_init, cX3_init, 1, none, { frames := 1, cells := 5, slots := 500, locals := 20 })
theorem q_185 : Cond.code yX3_init cX3_init 1 none ∈ gw := gw_at 185 (by decide +kernel) (by decide +kernel)
theorem q_39 : Cond.initialized "ColourWorks$DrumYard" ∈ gw := gw_at 39 (by decide +kernel) (by decide +kernel)
theorem k_X3_init : MF mX3_init := ⟨q_185, q_39, by decide +kernel, by decide +kernel⟩
abbrev mX3_has : MI := (RX3, yX3_has, cX3_has, 2, (some .boolean), { frames := 0, cells := 0, slots := 0, locals := 0 })
theorem q_685 : Cond.code yX3_has cX3_has 2 (some .boolean) ∈ gw := gw_at 685 (by decide +kernel) (by decide +kernel)
theorem k_X3_has : MF mX3_has := ⟨q_685, q_39, by decide +kernel, by decide +kernel⟩
abbrev mX3_add : MI := (RX3, yX3_add, cX3_add, 5, (some .int), { frames := 0, cells := 0, slots := 0, locals := 0 })
theorem q_661 : Cond.code yX3_add cX3_add 5 (some .int) ∈ gw := gw_at 661 (by decide +kernel) (by decide +kernel)
theorem k_X3_add : MF mX3_add := ⟨q_661, q_39, by decide +kernel, by decide +kernel⟩
abbrev mX9_hasBit : MI := (RX9, yX9_hasBit, cX9_hasBit, 3, (some .boolean), { frames := 0, cells := 0, slots := 0, locals := 0 })
theorem q_704 : Cond.code yX9_hasBit cX9_hasBit 3 (some .boolean) ∈ gw := gw_at 704 (by decide +kernel) (by decide +kernel)
theorem k_X9_hasBit : MF mX9_hasBit := ⟨q_704, q_34, by decide +kernel, by decide +kernel⟩
abbrev mX3_countWith : MI := (RX3, yX3_countWith, cX3_countWith, 4, (some .int), { frames := 1, cells := 0, slots := 0, locals := 22 })
theorem q_712 : Cond.code yX3_countWith cX3_countWith 4 (some .int) ∈ gw := gw_at 712 (by decide +kernel) (by decide +kernel)
theorem k_X3_countWith : MF mX3_countWith := ⟨q_712, q_39, by decide +kernel, by decide +kernel⟩
abbrev mX4_add : MI := (RX4, yX4_add, cX4_add, 4, none, { frames := 0, cells := 0, slots := 0, locals := 0 })
theorem q_506 : Cond.code yX4_add cX4_add 4 none ∈ gw := gw_at 506 (by decide +kernel) (by decide +kernel)
theorem k_X4_add : MF mX4_add := ⟨q_506, q_42, by decide +kernel, by decide +kernel⟩
abbrev mX4_addAll : MI := (RX4, yX4_addAll, cX4_addAll, 3, none, { frames := 0, cells := 0, slots := 0, locals := 0 })
theorem q_649 : Cond.code yX4_addAll cX4_addAll 3 none ∈ gw := gw_at 649 (by decide +kernel) (by decide +kernel)
theorem k_X4_addAll : MF mX4_addAll := ⟨q_649, q_42, by decide +kernel, by decide +kernel⟩
abbrev mX4_empty : MI := (RX4, yX4_empty, cX4_empty, 1, none, { frames := 1, cells := 0, slots := 0, locals := 23 })
theorem q_644 : Cond.code yX4_empty cX4_empty 1 none ∈ gw := gw_at 644 (by decide +kernel) (by decide +kernel)
theorem k_X4_empty : MF mX4_empty := ⟨q_644, q_42, by decide +kernel, by decide +kernel⟩
abbrev mX5_init : MI := (RX5, yX5_init, cX5_init, 1, none, { frames := 1, cells := 2, slots := 48, locals := 20 })
theorem q_62 : Cond.code yX5_init cX5_init 1 none ∈ gw := gw_at 62 (by decide +kernel) (by decide +kernel)
theorem k_X5_init : MF mX5_init := ⟨q_62, q_35, by decide +kernel, by decide +kernel⟩
abbrev mX5_has : MI := (RX5, yX5_has, cX5_has, 2, (some .boolean), { frames := 0, cells := 0, slots := 0, locals := 0 })
theorem q_384 : Cond.code yX5_has cX5_has 2 (some .boolean) ∈ gw := gw_at 384 (by decide +kernel) (by decide +kernel)
theorem k_X5_has : MF mX5_has := ⟨q_384, q_35, by decide +kernel, by decide +kernel⟩
abbrev mX5_tell : MI := (RX5, yX5_tell, cX5_tell, 5, none, { frames := 0, cells := 0, slots := 0, locals := 0 })
theorem q_376 : Cond.code yX5_tell cX5_tell 5 none ∈ gw := gw_at 376 (by decide +kernel) (by decide +kernel)
theorem k_X5_tell : MF mX5_tell := ⟨q_376, q_35, by decide +kernel, by decide +kernel⟩
abbrev mX5_add : MI := (RX5, yX5_add, cX5_add, 4, (some .int), { frames := 1, cells := 0, slots := 0, locals := 24 })
theorem q_372 : Cond.code yX5_add cX5_add 4 (some .int) ∈ gw := gw_at 372 (by decide +kernel) (by decide +kernel)
theorem k_X5_add : MF mX5_add := ⟨q_372, q_35, by decide +kernel, by decide +kernel⟩
abbrev mX5_shadeOf : MI := (RX5, yX5_shadeOf, cX5_shadeOf, 3, (some .int), { frames := 2, cells := 0, slots := 0, locals := 48 })
theorem q_597 : Cond.code yX5_shadeOf cX5_shadeOf 3 (some .int) ∈ gw := gw_at 597 (by decide +kernel) (by decide +kernel)
theorem k_X5_shadeOf : MF mX5_shadeOf := ⟨q_597, q_35, by decide +kernel, by decide +kernel⟩
abbrev mX6_init : MI := (RX6, yX6_init, cX6_init, 1, none, { frames := 1, cells := 7, slots := 1612, locals := 20 })
theorem q_216 : Cond.code yX6_init cX6_init 1 none ∈ gw := gw_at 216 (by decide +kernel) (by decide +kernel)
theorem q_40 : Cond.initialized "ColourWorks$Schedule" ∈ gw := gw_at 40 (by decide +kernel) (by decide +kernel)
theorem k_X6_init : MF mX6_init := ⟨q_216, q_40, by decide +kernel, by decide +kernel⟩
abbrev mX6_add : MI := (RX6, yX6_add, cX6_add, 5, (some .int), { frames := 0, cells := 0, slots := 0, locals := 0 })
theorem q_732 : Cond.code yX6_add cX6_add 5 (some .int) ∈ gw := gw_at 732 (by decide +kernel) (by decide +kernel)
theorem k_X6_add : MF mX6_add := ⟨q_732, q_40, by decide +kernel, by decide +kernel⟩
abbrev mX6_tellChange : MI := (RX6, yX6_tellChange, cX6_tellChange, 5, (some .int), { frames := 0, cells := 0, slots := 0, locals := 0 })
theorem q_740 : Cond.code yX6_tellChange cX6_tellChange 5 (some .int) ∈ gw := gw_at 740 (by decide +kernel) (by decide +kernel)
theorem k_X6_tellChange : MF mX6_tellChange := ⟨q_740, q_40, by decide +kernel, by decide +kernel⟩
abbrev mX6_timeOfSet : MI := (RX6, yX6_timeOfSet, cX6_timeOfSet, 4, (some .int), { frames := 1, cells := 0, slots := 0, locals := 22 })
theorem q_752 : Cond.code yX6_timeOfSet cX6_timeOfSet 4 (some .int) ∈ gw := gw_at 752 (by decide +kernel) (by decide +kernel)
theorem k_X6_timeOfSet : MF mX6_timeOfSet := ⟨q_752, q_40, by decide +kernel, by decide +kernel⟩
abbrev mX6_costWith : MI := (RX6, yX6_costWith, cX6_costWith, 7, (some .int), { frames := 1, cells := 0, slots := 0, locals := 21 })
theorem q_761 : Cond.code yX6_costWith cX6_costWith 7 (some .int) ∈ gw := gw_at 761 (by decide +kernel) (by decide +kernel)
theorem k_X6_costWith : MF mX6_costWith := ⟨q_761, q_40, by decide +kernel, by decide +kernel⟩
abbrev mX6_bestNext : MI := (RX6, yX6_bestNext, cX6_bestNext, 8, (some .int), { frames := 2, cells := 0, slots := 0, locals := 47 })
theorem q_757 : Cond.code yX6_bestNext cX6_bestNext 8 (some .int) ∈ gw := gw_at 757 (by decide +kernel) (by decide +kernel)
theorem k_X6_bestNext : MF mX6_bestNext := ⟨q_757, q_40, by decide +kernel, by decide +kernel⟩
abbrev mX6_writeOrder : MI := (RX6, yX6_writeOrder, cX6_writeOrder, 7, none, { frames := 3, cells := 0, slots := 0, locals := 74 })
theorem q_766 : Cond.code yX6_writeOrder cX6_writeOrder 7 none ∈ gw := gw_at 766 (by decide +kernel) (by decide +kernel)
theorem k_X6_writeOrder : MF mX6_writeOrder := ⟨q_766, q_40, by decide +kernel, by decide +kernel⟩
abbrev mX6_arrange : MI := (RX6, yX6_arrange, cX6_arrange, 7, (some .int), { frames := 4, cells := 0, slots := 0, locals := 100 })
theorem q_748 : Cond.code yX6_arrange cX6_arrange 7 (some .int) ∈ gw := gw_at 748 (by decide +kernel) (by decide +kernel)
theorem k_X6_arrange : MF mX6_arrange := ⟨q_748, q_40, by decide +kernel, by decide +kernel⟩
abbrev mX7_init : MI := (RX7, yX7_init, cX7_init, 1, none, { frames := 1, cells := 3, slots := 120, locals := 20 })
theorem q_83 : Cond.code yX7_init cX7_init 1 none ∈ gw := gw_at 83 (by decide +kernel) (by decide +kernel)
theorem k_X7_init : MF mX7_init := ⟨q_83, q_36, by decide +kernel, by decide +kernel⟩
abbrev mX7_has : MI := (RX7, yX7_has, cX7_has, 2, (some .boolean), { frames := 0, cells := 0, slots := 0, locals := 0 })
theorem q_404 : Cond.code yX7_has cX7_has 2 (some .boolean) ∈ gw := gw_at 404 (by decide +kernel) (by decide +kernel)
theorem k_X7_has : MF mX7_has := ⟨q_404, q_36, by decide +kernel, by decide +kernel⟩
abbrev mX7_add : MI := (RX7, yX7_add, cX7_add, 4, (some .int), { frames := 0, cells := 0, slots := 0, locals := 0 })
theorem q_396 : Cond.code yX7_add cX7_add 4 (some .int) ∈ gw := gw_at 396 (by decide +kernel) (by decide +kernel)
theorem k_X7_add : MF mX7_add := ⟨q_396, q_36, by decide +kernel, by decide +kernel⟩
abbrev mX7_lacks : MI := (RX7, yX7_lacks, cX7_lacks, 3, (some .boolean), { frames := 2, cells := 0, slots := 0, locals := 45 })
theorem q_487 : Cond.code yX7_lacks cX7_lacks 3 (some .boolean) ∈ gw := gw_at 487 (by decide +kernel) (by decide +kernel)
theorem k_X7_lacks : MF mX7_lacks := ⟨q_487, q_36, by decide +kernel, by decide +kernel⟩
abbrev mX7_nextToEnd : MI := (RX7, yX7_nextToEnd, cX7_nextToEnd, 4, (some .int), { frames := 1, cells := 0, slots := 0, locals := 22 })
theorem q_499 : Cond.code yX7_nextToEnd cX7_nextToEnd 4 (some .int) ∈ gw := gw_at 499 (by decide +kernel) (by decide +kernel)
theorem k_X7_nextToEnd : MF mX7_nextToEnd := ⟨q_499, q_36, by decide +kernel, by decide +kernel⟩
abbrev mX7_take : MI := (RX7, yX7_take, cX7_take, 8, none, { frames := 2, cells := 0, slots := 0, locals := 45 })
theorem q_495 : Cond.code yX7_take cX7_take 8 none ∈ gw := gw_at 495 (by decide +kernel) (by decide +kernel)
theorem k_X7_take : MF mX7_take := ⟨q_495, q_36, by decide +kernel, by decide +kernel⟩
abbrev mX8_init : MI := (RX8, yX8_init, cX8_init, 1, none, { frames := 2, cells := 3, slots := 14, locals := 40 })
theorem q_289 : Cond.code yX8_init cX8_init 1 none ∈ gw := gw_at 289 (by decide +kernel) (by decide +kernel)
theorem q_43 : Cond.initialized "ColourWorks$Tank" ∈ gw := gw_at 43 (by decide +kernel) (by decide +kernel)
theorem k_X8_init : MF mX8_init := ⟨q_289, q_43, by decide +kernel, by decide +kernel⟩
abbrev mX8_isClean : MI := (RX8, yX8_isClean, cX8_isClean, 1, (some .boolean), { frames := 0, cells := 0, slots := 0, locals := 0 })
theorem q_673 : Cond.code yX8_isClean cX8_isClean 1 (some .boolean) ∈ gw := gw_at 673 (by decide +kernel) (by decide +kernel)
theorem k_X8_isClean : MF mX8_isClean := ⟨q_673, q_43, by decide +kernel, by decide +kernel⟩
abbrev mX8_isAlike : MI := (RX8, yX8_isAlike, cX8_isAlike, 5, (some .boolean), { frames := 3, cells := 0, slots := 0, locals := 70 })
theorem q_630 : Cond.code yX8_isAlike cX8_isAlike 5 (some .boolean) ∈ gw := gw_at 630 (by decide +kernel) (by decide +kernel)
theorem k_X8_isAlike : MF mX8_isAlike := ⟨q_630, q_43, by decide +kernel, by decide +kernel⟩
abbrev mX8_coversStain : MI := (RX8, yX8_coversStain, cX8_coversStain, 4, (some .boolean), { frames := 3, cells := 0, slots := 0, locals := 70 })
theorem q_636 : Cond.code yX8_coversStain cX8_coversStain 4 (some .boolean) ∈ gw := gw_at 636 (by decide +kernel) (by decide +kernel)
theorem k_X8_coversStain : MF mX8_coversStain := ⟨q_636, q_43, by decide +kernel, by decide +kernel⟩
abbrev mX8_admits : MI := (RX8, yX8_admits, cX8_admits, 4, (some .boolean), { frames := 4, cells := 0, slots := 0, locals := 94 })
theorem q_626 : Cond.code yX8_admits cX8_admits 4 (some .boolean) ∈ gw := gw_at 626 (by decide +kernel) (by decide +kernel)
theorem k_X8_admits : MF mX8_admits := ⟨q_626, q_43, by decide +kernel, by decide +kernel⟩
abbrev mX8_receive : MI := (RX8, yX8_receive, cX8_receive, 3, none, { frames := 2, cells := 0, slots := 0, locals := 43 })
theorem q_640 : Cond.code yX8_receive cX8_receive 3 none ∈ gw := gw_at 640 (by decide +kernel) (by decide +kernel)
theorem k_X8_receive : MF mX8_receive := ⟨q_640, q_43, by decide +kernel, by decide +kernel⟩
abbrev mX8_draw : MI := (RX8, yX8_draw, cX8_draw, 4, none, { frames := 3, cells := 0, slots := 0, locals := 70 })
theorem q_665 : Cond.code yX8_draw cX8_draw 4 none ∈ gw := gw_at 665 (by decide +kernel) (by decide +kernel)
theorem k_X8_draw : MF mX8_draw := ⟨q_665, q_43, by decide +kernel, by decide +kernel⟩
abbrev mJ6_bitCount_0f7a4 : MI := (RJ6, yJ6_bitCount_0f7a4, cJ6_bitCount_0f7a4, 1, (some .int), { frames := 0, cells := 0, slots := 0, locals := 0 })
theorem q_688 : Cond.code yJ6_bitCount_0f7a4 cJ6_bitCount_0f7a4 1 (some .int) ∈ gw := gw_at 688 (by decide +kernel) (by decide +kernel)
theorem q_48 : Cond.initialized "java/lang/Integer" ∈ gw := gw_at 48 (by decide +kernel) (by decide +kernel)
theorem k_J6_bitCount_0f7a4 : MF mJ6_bitCount_0f7a4 := ⟨q_688, q_48, by decide +kernel, by decide +kernel⟩
abbrev mJ13_bitCount_95d88 : MI := (RJ13, yJ13_bitCount_95d88, cJ13_bitCount_95d88, 2, (some .int), { frames := 0, cells := 0, slots := 0, locals := 0 })
theorem q_694 : Cond.code yJ13_bitCount_95d88 cJ13_bitCount_95d88 2 (some .int) ∈ gw := gw_at 694 (by decide +kernel) (by decide +kernel)
theorem q_49 : Cond.initialized "java/lang/Long" ∈ gw := gw_at 49 (by decide +kernel) (by decide +kernel)
theorem k_J13_bitCount_95d88 : MF mJ13_bitCount_95d88 := ⟨q_694, q_49, by decide +kernel, by decide +kernel⟩
abbrev mX9_init : MI := (RX9, yX9_init, cX9_init, 2, none, { frames := 3, cells := 130, slots := 3228, locals := 60 })
theorem q_54 : Cond.code yX9_init cX9_init 2 none ∈ gw := gw_at 54 (by decide +kernel) (by decide +kernel)
theorem k_X9_init : MF mX9_init := ⟨q_54, q_34, by decide +kernel, by decide +kernel⟩
abbrev mX9_within : MI := (RX9, yX9_within, cX9_within, 3, (some .boolean), { frames := 0, cells := 0, slots := 0, locals := 0 })
theorem q_368 : Cond.code yX9_within cX9_within 3 (some .boolean) ∈ gw := gw_at 368 (by decide +kernel) (by decide +kernel)
theorem k_X9_within : MF mX9_within := ⟨q_368, q_34, by decide +kernel, by decide +kernel⟩
abbrev mX9_isStrength : MI := (RX9, yX9_isStrength, cX9_isStrength, 1, (some .boolean), { frames := 1, cells := 0, slots := 0, locals := 22 })
theorem q_365 : Cond.code yX9_isStrength cX9_isStrength 1 (some .boolean) ∈ gw := gw_at 365 (by decide +kernel) (by decide +kernel)
theorem k_X9_isStrength : MF mX9_isStrength := ⟨q_365, q_34, by decide +kernel, by decide +kernel⟩
abbrev mX9_base : MI := (RX9, yX9_base, cX9_base, 3, (some .int), { frames := 2, cells := 0, slots := 0, locals := 47 })
theorem q_362 : Cond.code yX9_base cX9_base 3 (some .int) ∈ gw := gw_at 362 (by decide +kernel) (by decide +kernel)
theorem k_X9_base : MF mX9_base := ⟨q_362, q_34, by decide +kernel, by decide +kernel⟩
abbrev mX9_isBand : MI := (RX9, yX9_isBand, cX9_isBand, 1, (some .boolean), { frames := 1, cells := 0, slots := 0, locals := 22 })
theorem q_387 : Cond.code yX9_isBand cX9_isBand 1 (some .boolean) ∈ gw := gw_at 387 (by decide +kernel) (by decide +kernel)
theorem k_X9_isBand : MF mX9_isBand := ⟨q_387, q_34, by decide +kernel, by decide +kernel⟩
abbrev mX9_band : MI := (RX9, yX9_band, cX9_band, 5, (some .int), { frames := 2, cells := 0, slots := 0, locals := 42 })
theorem q_380 : Cond.code yX9_band cX9_band 5 (some .int) ∈ gw := gw_at 380 (by decide +kernel) (by decide +kernel)
theorem k_X9_band : MF mX9_band := ⟨q_380, q_34, by decide +kernel, by decide +kernel⟩
abbrev mX9_lot : MI := (RX9, yX9_lot, cX9_lot, 4, (some .int), { frames := 1, cells := 0, slots := 0, locals := 23 })
theorem q_392 : Cond.code yX9_lot cX9_lot 4 (some .int) ∈ gw := gw_at 392 (by decide +kernel) (by decide +kernel)
theorem k_X9_lot : MF mX9_lot := ⟨q_392, q_34, by decide +kernel, by decide +kernel⟩
abbrev mX9_left : MI := (RX9, yX9_left, cX9_left, 2, (some .int), { frames := 1, cells := 0, slots := 0, locals := 21 })
theorem q_400 : Cond.code yX9_left cX9_left 2 (some .int) ∈ gw := gw_at 400 (by decide +kernel) (by decide +kernel)
theorem k_X9_left : MF mX9_left := ⟨q_400, q_34, by decide +kernel, by decide +kernel⟩
abbrev mX9_may : MI := (RX9, yX9_may, cX9_may, 2, (some .int), { frames := 2, cells := 0, slots := 0, locals := 45 })
theorem q_408 : Cond.code yX9_may cX9_may 2 (some .int) ∈ gw := gw_at 408 (by decide +kernel) (by decide +kernel)
theorem k_X9_may : MF mX9_may := ⟨q_408, q_34, by decide +kernel, by decide +kernel⟩
abbrev mX9_day : MI := (RX9, yX9_day, cX9_day, 2, (some .int), { frames := 1, cells := 0, slots := 0, locals := 22 })
theorem q_420 : Cond.code yX9_day cX9_day 2 (some .int) ∈ gw := gw_at 420 (by decide +kernel) (by decide +kernel)
theorem k_X9_day : MF mX9_day := ⟨q_420, q_34, by decide +kernel, by decide +kernel⟩
abbrev mX9_recipe : MI := (RX9, yX9_recipe, cX9_recipe, 1, (some .int), { frames := 1, cells := 0, slots := 0, locals := 20 })
theorem q_424 : Cond.code yX9_recipe cX9_recipe 1 (some .int) ∈ gw := gw_at 424 (by decide +kernel) (by decide +kernel)
theorem k_X9_recipe : MF mX9_recipe := ⟨q_424, q_34, by decide +kernel, by decide +kernel⟩
abbrev mX9_part : MI := (RX9, yX9_part, cX9_part, 5, (some .int), { frames := 4, cells := 0, slots := 0, locals := 93 })
theorem q_432 : Cond.code yX9_part cX9_part 5 (some .int) ∈ gw := gw_at 432 (by decide +kernel) (by decide +kernel)
theorem k_X9_part : MF mX9_part := ⟨q_432, q_34, by decide +kernel, by decide +kernel⟩
abbrev mX9_resolved : MI := (RX9, yX9_resolved, cX9_resolved, 3, (some .int), { frames := 1, cells := 0, slots := 0, locals := 22 })
theorem q_462 : Cond.code yX9_resolved cX9_resolved 3 (some .int) ∈ gw := gw_at 462 (by decide +kernel) (by decide +kernel)
theorem k_X9_resolved : MF mX9_resolved := ⟨q_462, q_34, by decide +kernel, by decide +kernel⟩
abbrev mX9_batch : MI := (RX9, yX9_batch, cX9_batch, 1, (some .int), { frames := 0, cells := 0, slots := 0, locals := 0 })
theorem q_470 : Cond.code yX9_batch cX9_batch 1 (some .int) ∈ gw := gw_at 470 (by decide +kernel) (by decide +kernel)
theorem k_X9_batch : MF mX9_batch := ⟨q_470, q_34, by decide +kernel, by decide +kernel⟩
abbrev mX9_hasBatch : MI := (RX9, yX9_hasBatch, cX9_hasBatch, 2, (some .boolean), { frames := 0, cells := 0, slots := 0, locals := 0 })
theorem q_478 : Cond.code yX9_hasBatch cX9_hasBatch 2 (some .boolean) ∈ gw := gw_at 478 (by decide +kernel) (by decide +kernel)
theorem k_X9_hasBatch : MF mX9_hasBatch := ⟨q_478, q_34, by decide +kernel, by decide +kernel⟩
abbrev mX9_sum : MI := (RX9, yX9_sum, cX9_sum, 3, (some .int), { frames := 0, cells := 0, slots := 0, locals := 0 })
theorem q_491 : Cond.code yX9_sum cX9_sum 3 (some .int) ∈ gw := gw_at 491 (by decide +kernel) (by decide +kernel)
theorem k_X9_sum : MF mX9_sum := ⟨q_491, q_34, by decide +kernel, by decide +kernel⟩
abbrev mX9_takeWanted : MI := (RX9, yX9_takeWanted, cX9_takeWanted, 3, (some .int), { frames := 3, cells := 0, slots := 0, locals := 72 })
theorem q_483 : Cond.code yX9_takeWanted cX9_takeWanted 3 (some .int) ∈ gw := gw_at 483 (by decide +kernel) (by decide +kernel)
theorem k_X9_takeWanted : MF mX9_takeWanted := ⟨q_483, q_34, by decide +kernel, by decide +kernel⟩
abbrev mX9_weigh : MI := (RX9, yX9_weigh, cX9_weigh, 4, (some .int), { frames := 4, cells := 0, slots := 0, locals := 94 })
theorem q_474 : Cond.code yX9_weigh cX9_weigh 4 (some .int) ∈ gw := gw_at 474 (by decide +kernel) (by decide +kernel)
theorem k_X9_weigh : MF mX9_weigh := ⟨q_474, q_34, by decide +kernel, by decide +kernel⟩
abbrev mX9_brew : MI := (RX9, yX9_brew, cX9_brew, 5, (some .int), { frames := 4, cells := 0, slots := 0, locals := 94 })
theorem q_510 : Cond.code yX9_brew cX9_brew 5 (some .int) ∈ gw := gw_at 510 (by decide +kernel) (by decide +kernel)
theorem k_X9_brew : MF mX9_brew := ⟨q_510, q_34, by decide +kernel, by decide +kernel⟩
abbrev mX9_isAim : MI := (RX9, yX9_isAim, cX9_isAim, 3, (some .boolean), { frames := 1, cells := 0, slots := 0, locals := 22 })
theorem q_517 : Cond.code yX9_isAim cX9_isAim 3 (some .boolean) ∈ gw := gw_at 517 (by decide +kernel) (by decide +kernel)
theorem k_X9_isAim : MF mX9_isAim := ⟨q_517, q_34, by decide +kernel, by decide +kernel⟩
abbrev mX9_drops : MI := (RX9, yX9_drops, cX9_drops, 7, (some .int), { frames := 5, cells := 0, slots := 0, locals := 112 })
theorem q_514 : Cond.code yX9_drops cX9_drops 7 (some .int) ∈ gw := gw_at 514 (by decide +kernel) (by decide +kernel)
theorem k_X9_drops : MF mX9_drops := ⟨q_514, q_34, by decide +kernel, by decide +kernel⟩
abbrev mX9_drop : MI := (RX9, yX9_drop, cX9_drop, 2, (some .int), { frames := 1, cells := 0, slots := 0, locals := 21 })
theorem q_580 : Cond.code yX9_drop cX9_drop 2 (some .int) ∈ gw := gw_at 580 (by decide +kernel) (by decide +kernel)
theorem k_X9_drop : MF mX9_drop := ⟨q_580, q_34, by decide +kernel, by decide +kernel⟩
abbrev mX9_dropIn : MI := (RX9, yX9_dropIn, cX9_dropIn, 2, (some .int), { frames := 4, cells := 0, slots := 0, locals := 94 })
theorem q_584 : Cond.code yX9_dropIn cX9_dropIn 2 (some .int) ∈ gw := gw_at 584 (by decide +kernel) (by decide +kernel)
theorem k_X9_dropIn : MF mX9_dropIn := ⟨q_584, q_34, by decide +kernel, by decide +kernel⟩
abbrev mX9_amount : MI := (RX9, yX9_amount, cX9_amount, 3, (some .int), { frames := 1, cells := 0, slots := 0, locals := 21 })
theorem q_589 : Cond.code yX9_amount cX9_amount 3 (some .int) ∈ gw := gw_at 589 (by decide +kernel) (by decide +kernel)
theorem k_X9_amount : MF mX9_amount := ⟨q_589, q_34, by decide +kernel, by decide +kernel⟩
abbrev mX9_shade : MI := (RX9, yX9_shade, cX9_shade, 4, (some .int), { frames := 3, cells := 0, slots := 0, locals := 70 })
theorem q_593 : Cond.code yX9_shade cX9_shade 4 (some .int) ∈ gw := gw_at 593 (by decide +kernel) (by decide +kernel)
theorem k_X9_shade : MF mX9_shade := ⟨q_593, q_34, by decide +kernel, by decide +kernel⟩
abbrev mX9_miss : MI := (RX9, yX9_miss, cX9_miss, 7, (some .int), { frames := 3, cells := 0, slots := 0, locals := 70 })
theorem q_604 : Cond.code yX9_miss cX9_miss 7 (some .int) ∈ gw := gw_at 604 (by decide +kernel) (by decide +kernel)
theorem k_X9_miss : MF mX9_miss := ⟨q_604, q_34, by decide +kernel, by decide +kernel⟩
abbrev mX9_isTank : MI := (RX9, yX9_isTank, cX9_isTank, 1, (some .boolean), { frames := 1, cells := 0, slots := 0, locals := 22 })
theorem q_613 : Cond.code yX9_isTank cX9_isTank 1 (some .boolean) ∈ gw := gw_at 613 (by decide +kernel) (by decide +kernel)
theorem k_X9_isTank : MF mX9_isTank := ⟨q_613, q_34, by decide +kernel, by decide +kernel⟩
abbrev mX9_holds : MI := (RX9, yX9_holds, cX9_holds, 5, (some .int), { frames := 2, cells := 0, slots := 0, locals := 42 })
theorem q_610 : Cond.code yX9_holds cX9_holds 5 (some .int) ∈ gw := gw_at 610 (by decide +kernel) (by decide +kernel)
theorem k_X9_holds : MF mX9_holds := ⟨q_610, q_34, by decide +kernel, by decide +kernel⟩
abbrev mX9_limit : MI := (RX9, yX9_limit, cX9_limit, 3, (some .int), { frames := 1, cells := 0, slots := 0, locals := 22 })
theorem q_618 : Cond.code yX9_limit cX9_limit 3 (some .int) ∈ gw := gw_at 618 (by decide +kernel) (by decide +kernel)
theorem k_X9_limit : MF mX9_limit := ⟨q_618, q_34, by decide +kernel, by decide +kernel⟩
abbrev mX9_pour : MI := (RX9, yX9_pour, cX9_pour, 5, (some .int), { frames := 5, cells := 0, slots := 0, locals := 117 })
theorem q_622 : Cond.code yX9_pour cX9_pour 5 (some .int) ∈ gw := gw_at 622 (by decide +kernel) (by decide +kernel)
theorem k_X9_pour : MF mX9_pour := ⟨q_622, q_34, by decide +kernel, by decide +kernel⟩
abbrev mX9_clean : MI := (RX9, yX9_clean, cX9_clean, 3, (some .int), { frames := 2, cells := 0, slots := 0, locals := 42 })
theorem q_653 : Cond.code yX9_clean cX9_clean 3 (some .int) ∈ gw := gw_at 653 (by decide +kernel) (by decide +kernel)
theorem k_X9_clean : MF mX9_clean := ⟨q_653, q_34, by decide +kernel, by decide +kernel⟩
abbrev mX9_fill : MI := (RX9, yX9_fill, cX9_fill, 4, (some .int), { frames := 4, cells := 0, slots := 0, locals := 93 })
theorem q_657 : Cond.code yX9_fill cX9_fill 4 (some .int) ∈ gw := gw_at 657 (by decide +kernel) (by decide +kernel)
theorem k_X9_fill : MF mX9_fill := ⟨q_657, q_34, by decide +kernel, by decide +kernel⟩
abbrev mX9_tank : MI := (RX9, yX9_tank, cX9_tank, 4, (some .int), { frames := 2, cells := 0, slots := 0, locals := 42 })
theorem q_669 : Cond.code yX9_tank cX9_tank 4 (some .int) ∈ gw := gw_at 669 (by decide +kernel) (by decide +kernel)
theorem k_X9_tank : MF mX9_tank := ⟨q_669, q_34, by decide +kernel, by decide +kernel⟩
abbrev mX9_tankShade : MI := (RX9, yX9_tankShade, cX9_tankShade, 4, (some .int), { frames := 3, cells := 0, slots := 0, locals := 70 })
theorem q_677 : Cond.code yX9_tankShade cX9_tankShade 4 (some .int) ∈ gw := gw_at 677 (by decide +kernel) (by decide +kernel)
theorem k_X9_tankShade : MF mX9_tankShade := ⟨q_677, q_34, by decide +kernel, by decide +kernel⟩
abbrev mX9_drum : MI := (RX9, yX9_drum, cX9_drum, 3, (some .int), { frames := 1, cells := 0, slots := 0, locals := 21 })
theorem q_681 : Cond.code yX9_drum cX9_drum 3 (some .int) ∈ gw := gw_at 681 (by decide +kernel) (by decide +kernel)
theorem k_X9_drum : MF mX9_drum := ⟨q_681, q_34, by decide +kernel, by decide +kernel⟩
abbrev mX9_inDrum : MI := (RX9, yX9_inDrum, cX9_inDrum, 5, (some .int), { frames := 1, cells := 0, slots := 0, locals := 22 })
theorem q_701 : Cond.code yX9_inDrum cX9_inDrum 5 (some .int) ∈ gw := gw_at 701 (by decide +kernel) (by decide +kernel)
theorem k_X9_inDrum : MF mX9_inDrum := ⟨q_701, q_34, by decide +kernel, by decide +kernel⟩
abbrev mX9_openBatchesWith : MI := (RX9, yX9_openBatchesWith, cX9_openBatchesWith, 4, (some .int), { frames := 1, cells := 0, slots := 0, locals := 22 })
theorem q_717 : Cond.code yX9_openBatchesWith cX9_openBatchesWith 4 (some .int) ∈ gw := gw_at 717 (by decide +kernel) (by decide +kernel)
theorem k_X9_openBatchesWith : MF mX9_openBatchesWith := ⟨q_717, q_34, by decide +kernel, by decide +kernel⟩
abbrev mX9_tanksWith : MI := (RX9, yX9_tanksWith, cX9_tanksWith, 4, (some .int), { frames := 1, cells := 0, slots := 0, locals := 22 })
theorem q_721 : Cond.code yX9_tanksWith cX9_tanksWith 4 (some .int) ∈ gw := gw_at 721 (by decide +kernel) (by decide +kernel)
theorem k_X9_tanksWith : MF mX9_tanksWith := ⟨q_721, q_34, by decide +kernel, by decide +kernel⟩
abbrev mX9_recall : MI := (RX9, yX9_recall, cX9_recall, 3, (some .int), { frames := 2, cells := 0, slots := 0, locals := 45 })
theorem q_708 : Cond.code yX9_recall cX9_recall 3 (some .int) ∈ gw := gw_at 708 (by decide +kernel) (by decide +kernel)
theorem k_X9_recall : MF mX9_recall := ⟨q_708, q_34, by decide +kernel, by decide +kernel⟩
abbrev mX9_isHue : MI := (RX9, yX9_isHue, cX9_isHue, 1, (some .boolean), { frames := 1, cells := 0, slots := 0, locals := 22 })
theorem q_728 : Cond.code yX9_isHue cX9_isHue 1 (some .boolean) ∈ gw := gw_at 728 (by decide +kernel) (by decide +kernel)
theorem k_X9_isHue : MF mX9_isHue := ⟨q_728, q_34, by decide +kernel, by decide +kernel⟩
abbrev mX9_job : MI := (RX9, yX9_job, cX9_job, 5, (some .int), { frames := 2, cells := 0, slots := 0, locals := 42 })
theorem q_725 : Cond.code yX9_job cX9_job 5 (some .int) ∈ gw := gw_at 725 (by decide +kernel) (by decide +kernel)
theorem k_X9_job : MF mX9_job := ⟨q_725, q_34, by decide +kernel, by decide +kernel⟩
abbrev mX9_cleaning : MI := (RX9, yX9_cleaning, cX9_cleaning, 4, (some .int), { frames := 2, cells := 0, slots := 0, locals := 42 })
theorem q_736 : Cond.code yX9_cleaning cX9_cleaning 4 (some .int) ∈ gw := gw_at 736 (by decide +kernel) (by decide +kernel)
theorem k_X9_cleaning : MF mX9_cleaning := ⟨q_736, q_34, by decide +kernel, by decide +kernel⟩
abbrev mX9_plan : MI := (RX9, yX9_plan, cX9_plan, 2, (some .int), { frames := 5, cells := 0, slots := 0, locals := 126 })
theorem q_744 : Cond.code yX9_plan cX9_plan 2 (some .int) ∈ gw := gw_at 744 (by decide +kernel) (by decide +kernel)
theorem k_X9_plan : MF mX9_plan := ⟨q_744, q_34, by decide +kernel, by decide +kernel⟩
abbrev mX9_planned : MI := (RX9, yX9_planned, cX9_planned, 2, (some .int), { frames := 0, cells := 0, slots := 0, locals := 0 })
theorem q_770 : Cond.code yX9_planned cX9_planned 2 (some .int) ∈ gw := gw_at 770 (by decide +kernel) (by decide +kernel)
theorem k_X9_planned : MF mX9_planned := ⟨q_770, q_34, by decide +kernel, by decide +kernel⟩
abbrev mX9_idle : MI := (RX9, yX9_idle, cX9_idle, 2, (some .int), { frames := 0, cells := 0, slots := 0, locals := 0 })
theorem q_774 : Cond.code yX9_idle cX9_idle 2 (some .int) ∈ gw := gw_at 774 (by decide +kernel) (by decide +kernel)
theorem k_X9_idle : MF mX9_idle := ⟨q_774, q_34, by decide +kernel, by decide +kernel⟩
abbrev mX9_count : MI := (RX9, yX9_count, cX9_count, 2, (some .int), { frames := 0, cells := 0, slots := 0, locals := 0 })
theorem q_778 : Cond.code yX9_count cX9_count 2 (some .int) ∈ gw := gw_at 778 (by decide +kernel) (by decide +kernel)
theorem k_X9_count : MF mX9_count := ⟨q_778, q_34, by decide +kernel, by decide +kernel⟩
abbrev mX10_init : MI := (RX10, yX10_init, cX10_init, 2, none, { frames := 1, cells := 38, slots := 3825, locals := 20 })
theorem q_783 : Cond.code yX10_init cX10_init 2 none ∈ gw := gw_at 783 (by decide +kernel) (by decide +kernel)
theorem q_44 : Cond.initialized "ColourWorksModel" ∈ gw := gw_at 44 (by decide +kernel) (by decide +kernel)
theorem k_X10_init : MF mX10_init := ⟨q_783, q_44, by decide +kernel, by decide +kernel⟩
abbrev mX10_in : MI := (RX10, yX10_in, cX10_in, 3, (some .boolean), { frames := 0, cells := 0, slots := 0, locals := 0 })
theorem q_939 : Cond.code yX10_in cX10_in 3 (some .boolean) ∈ gw := gw_at 939 (by decide +kernel) (by decide +kernel)
theorem k_X10_in : MF mX10_in := ⟨q_939, q_44, by decide +kernel, by decide +kernel⟩
abbrev mX10_isBase : MI := (RX10, yX10_isBase, cX10_isBase, 2, (some .boolean), { frames := 1, cells := 0, slots := 0, locals := 22 })
theorem q_947 : Cond.code yX10_isBase cX10_isBase 2 (some .boolean) ∈ gw := gw_at 947 (by decide +kernel) (by decide +kernel)
theorem k_X10_isBase : MF mX10_isBase := ⟨q_947, q_44, by decide +kernel, by decide +kernel⟩
abbrev mX10_isBatch : MI := (RX10, yX10_isBatch, cX10_isBatch, 2, (some .boolean), { frames := 1, cells := 0, slots := 0, locals := 22 })
theorem q_999 : Cond.code yX10_isBatch cX10_isBatch 2 (some .boolean) ∈ gw := gw_at 999 (by decide +kernel) (by decide +kernel)
theorem k_X10_isBatch : MF mX10_isBatch := ⟨q_999, q_44, by decide +kernel, by decide +kernel⟩
abbrev mX10_isTank : MI := (RX10, yX10_isTank, cX10_isTank, 1, (some .boolean), { frames := 1, cells := 0, slots := 0, locals := 22 })
theorem q_1060 : Cond.code yX10_isTank cX10_isTank 1 (some .boolean) ∈ gw := gw_at 1060 (by decide +kernel) (by decide +kernel)
theorem k_X10_isTank : MF mX10_isTank := ⟨q_1060, q_44, by decide +kernel, by decide +kernel⟩
abbrev mX10_base : MI := (RX10, yX10_base, cX10_base, 4, (some .int), { frames := 1, cells := 0, slots := 0, locals := 22 })
theorem q_936 : Cond.code yX10_base cX10_base 4 (some .int) ∈ gw := gw_at 936 (by decide +kernel) (by decide +kernel)
theorem k_X10_base : MF mX10_base := ⟨q_936, q_44, by decide +kernel, by decide +kernel⟩
abbrev mX10_band : MI := (RX10, yX10_band, cX10_band, 5, (some .int), { frames := 2, cells := 0, slots := 0, locals := 43 })
theorem q_943 : Cond.code yX10_band cX10_band 5 (some .int) ∈ gw := gw_at 943 (by decide +kernel) (by decide +kernel)
theorem k_X10_band : MF mX10_band := ⟨q_943, q_44, by decide +kernel, by decide +kernel⟩
abbrev mX10_lot : MI := (RX10, yX10_lot, cX10_lot, 4, (some .int), { frames := 2, cells := 0, slots := 0, locals := 43 })
theorem q_951 : Cond.code yX10_lot cX10_lot 4 (some .int) ∈ gw := gw_at 951 (by decide +kernel) (by decide +kernel)
theorem k_X10_lot : MF mX10_lot := ⟨q_951, q_44, by decide +kernel, by decide +kernel⟩
abbrev mX10_left : MI := (RX10, yX10_left, cX10_left, 2, (some .int), { frames := 1, cells := 0, slots := 0, locals := 22 })
theorem q_955 : Cond.code yX10_left cX10_left 2 (some .int) ∈ gw := gw_at 955 (by decide +kernel) (by decide +kernel)
theorem k_X10_left : MF mX10_left := ⟨q_955, q_44, by decide +kernel, by decide +kernel⟩
abbrev mX10_mayTake : MI := (RX10, yX10_mayTake, cX10_mayTake, 3, (some .boolean), { frames := 0, cells := 0, slots := 0, locals := 0 })
theorem q_967 : Cond.code yX10_mayTake cX10_mayTake 3 (some .boolean) ∈ gw := gw_at 967 (by decide +kernel) (by decide +kernel)
theorem k_X10_mayTake : MF mX10_mayTake := ⟨q_967, q_44, by decide +kernel, by decide +kernel⟩
abbrev mX10_mayOf : MI := (RX10, yX10_mayOf, cX10_mayOf, 4, (some .int), { frames := 1, cells := 0, slots := 0, locals := 22 })
theorem q_963 : Cond.code yX10_mayOf cX10_mayOf 4 (some .int) ∈ gw := gw_at 963 (by decide +kernel) (by decide +kernel)
theorem k_X10_mayOf : MF mX10_mayOf := ⟨q_963, q_44, by decide +kernel, by decide +kernel⟩
abbrev mX10_may : MI := (RX10, yX10_may, cX10_may, 2, (some .int), { frames := 2, cells := 0, slots := 0, locals := 45 })
theorem q_959 : Cond.code yX10_may cX10_may 2 (some .int) ∈ gw := gw_at 959 (by decide +kernel) (by decide +kernel)
theorem k_X10_may : MF mX10_may := ⟨q_959, q_44, by decide +kernel, by decide +kernel⟩
abbrev mX10_day : MI := (RX10, yX10_day, cX10_day, 2, (some .int), { frames := 1, cells := 0, slots := 0, locals := 22 })
theorem q_971 : Cond.code yX10_day cX10_day 2 (some .int) ∈ gw := gw_at 971 (by decide +kernel) (by decide +kernel)
theorem k_X10_day : MF mX10_day := ⟨q_971, q_44, by decide +kernel, by decide +kernel⟩
abbrev mX10_take : MI := (RX10, yX10_take, cX10_take, 7, none, { frames := 1, cells := 0, slots := 0, locals := 22 })
theorem q_1007 : Cond.code yX10_take cX10_take 7 none ∈ gw := gw_at 1007 (by decide +kernel) (by decide +kernel)
theorem k_X10_take : MF mX10_take := ⟨q_1007, q_44, by decide +kernel, by decide +kernel⟩
abbrev mX10_recipe : MI := (RX10, yX10_recipe, cX10_recipe, 1, (some .int), { frames := 0, cells := 0, slots := 0, locals := 0 })
theorem q_975 : Cond.code yX10_recipe cX10_recipe 1 (some .int) ∈ gw := gw_at 975 (by decide +kernel) (by decide +kernel)
theorem k_X10_recipe : MF mX10_recipe := ⟨q_975, q_44, by decide +kernel, by decide +kernel⟩
abbrev mX10_findNeeds : MI := (RX10, yX10_findNeeds, cX10_findNeeds, 7, (some .boolean), { frames := 0, cells := 0, slots := 0, locals := 0 })
theorem q_983 : Cond.code yX10_findNeeds cX10_findNeeds 7 (some .boolean) ∈ gw := gw_at 983 (by decide +kernel) (by decide +kernel)
theorem k_X10_findNeeds : MF mX10_findNeeds := ⟨q_983, q_44, by decide +kernel, by decide +kernel⟩
abbrev mX10_part : MI := (RX10, yX10_part, cX10_part, 7, (some .int), { frames := 2, cells := 0, slots := 0, locals := 43 })
theorem q_979 : Cond.code yX10_part cX10_part 7 (some .int) ∈ gw := gw_at 979 (by decide +kernel) (by decide +kernel)
theorem k_X10_part : MF mX10_part := ⟨q_979, q_44, by decide +kernel, by decide +kernel⟩
abbrev mX10_resolved : MI := (RX10, yX10_resolved, cX10_resolved, 3, (some .int), { frames := 2, cells := 0, slots := 0, locals := 43 })
theorem q_987 : Cond.code yX10_resolved cX10_resolved 3 (some .int) ∈ gw := gw_at 987 (by decide +kernel) (by decide +kernel)
theorem k_X10_resolved : MF mX10_resolved := ⟨q_987, q_44, by decide +kernel, by decide +kernel⟩
abbrev mX10_batch : MI := (RX10, yX10_batch, cX10_batch, 1, (some .int), { frames := 0, cells := 0, slots := 0, locals := 0 })
theorem q_991 : Cond.code yX10_batch cX10_batch 1 (some .int) ∈ gw := gw_at 991 (by decide +kernel) (by decide +kernel)
theorem k_X10_batch : MF mX10_batch := ⟨q_991, q_44, by decide +kernel, by decide +kernel⟩
abbrev mX10_unitsOf : MI := (RX10, yX10_unitsOf, cX10_unitsOf, 4, (some .int), { frames := 0, cells := 0, slots := 0, locals := 0 })
theorem q_1003 : Cond.code yX10_unitsOf cX10_unitsOf 4 (some .int) ∈ gw := gw_at 1003 (by decide +kernel) (by decide +kernel)
theorem k_X10_unitsOf : MF mX10_unitsOf := ⟨q_1003, q_44, by decide +kernel, by decide +kernel⟩
abbrev mX10_weigh : MI := (RX10, yX10_weigh, cX10_weigh, 4, (some .int), { frames := 2, cells := 0, slots := 0, locals := 48 })
theorem q_995 : Cond.code yX10_weigh cX10_weigh 4 (some .int) ∈ gw := gw_at 995 (by decide +kernel) (by decide +kernel)
theorem k_X10_weigh : MF mX10_weigh := ⟨q_995, q_44, by decide +kernel, by decide +kernel⟩
abbrev mX10_brew : MI := (RX10, yX10_brew, cX10_brew, 8, (some .int), { frames := 2, cells := 0, slots := 0, locals := 48 })
theorem q_1011 : Cond.code yX10_brew cX10_brew 8 (some .int) ∈ gw := gw_at 1011 (by decide +kernel) (by decide +kernel)
theorem k_X10_brew : MF mX10_brew := ⟨q_1011, q_44, by decide +kernel, by decide +kernel⟩
abbrev mX10_shadeOf : MI := (RX10, yX10_shadeOf, cX10_shadeOf, 12, (some .int), { frames := 0, cells := 0, slots := 0, locals := 0 })
theorem q_1027 : Cond.code yX10_shadeOf cX10_shadeOf 12 (some .int) ∈ gw := gw_at 1027 (by decide +kernel) (by decide +kernel)
theorem k_X10_shadeOf : MF mX10_shadeOf := ⟨q_1027, q_44, by decide +kernel, by decide +kernel⟩
abbrev mX10_missOf : MI := (RX10, yX10_missOf, cX10_missOf, 9, (some .int), { frames := 1, cells := 0, slots := 0, locals := 31 })
theorem q_1023 : Cond.code yX10_missOf cX10_missOf 9 (some .int) ∈ gw := gw_at 1023 (by decide +kernel) (by decide +kernel)
theorem k_X10_missOf : MF mX10_missOf := ⟨q_1023, q_44, by decide +kernel, by decide +kernel⟩
abbrev mX10_isAim : MI := (RX10, yX10_isAim, cX10_isAim, 3, (some .boolean), { frames := 1, cells := 0, slots := 0, locals := 22 })
theorem q_1018 : Cond.code yX10_isAim cX10_isAim 3 (some .boolean) ∈ gw := gw_at 1018 (by decide +kernel) (by decide +kernel)
theorem k_X10_isAim : MF mX10_isAim := ⟨q_1018, q_44, by decide +kernel, by decide +kernel⟩
abbrev mX10_hasNext : MI := (RX10, yX10_hasNext, cX10_hasNext, 5, (some .boolean), { frames := 0, cells := 0, slots := 0, locals := 0 })
theorem q_1033 : Cond.code yX10_hasNext cX10_hasNext 5 (some .boolean) ∈ gw := gw_at 1033 (by decide +kernel) (by decide +kernel)
theorem k_X10_hasNext : MF mX10_hasNext := ⟨q_1033, q_44, by decide +kernel, by decide +kernel⟩
abbrev mX10_drops : MI := (RX10, yX10_drops, cX10_drops, 14, (some .int), { frames := 2, cells := 0, slots := 0, locals := 59 })
theorem q_1015 : Cond.code yX10_drops cX10_drops 14 (some .int) ∈ gw := gw_at 1015 (by decide +kernel) (by decide +kernel)
theorem k_X10_drops : MF mX10_drops := ⟨q_1015, q_44, by decide +kernel, by decide +kernel⟩
abbrev mX10_drop : MI := (RX10, yX10_drop, cX10_drop, 2, (some .int), { frames := 2, cells := 0, slots := 0, locals := 43 })
theorem q_1037 : Cond.code yX10_drop cX10_drop 2 (some .int) ∈ gw := gw_at 1037 (by decide +kernel) (by decide +kernel)
theorem k_X10_drop : MF mX10_drop := ⟨q_1037, q_44, by decide +kernel, by decide +kernel⟩
abbrev mX10_dropIn : MI := (RX10, yX10_dropIn, cX10_dropIn, 4, (some .int), { frames := 2, cells := 0, slots := 0, locals := 48 })
theorem q_1041 : Cond.code yX10_dropIn cX10_dropIn 4 (some .int) ∈ gw := gw_at 1041 (by decide +kernel) (by decide +kernel)
theorem k_X10_dropIn : MF mX10_dropIn := ⟨q_1041, q_44, by decide +kernel, by decide +kernel⟩
abbrev mX10_amount : MI := (RX10, yX10_amount, cX10_amount, 3, (some .int), { frames := 2, cells := 0, slots := 0, locals := 43 })
theorem q_1045 : Cond.code yX10_amount cX10_amount 3 (some .int) ∈ gw := gw_at 1045 (by decide +kernel) (by decide +kernel)
theorem k_X10_amount : MF mX10_amount := ⟨q_1045, q_44, by decide +kernel, by decide +kernel⟩
abbrev mX10_shade : MI := (RX10, yX10_shade, cX10_shade, 3, (some .int), { frames := 2, cells := 0, slots := 0, locals := 43 })
theorem q_1049 : Cond.code yX10_shade cX10_shade 3 (some .int) ∈ gw := gw_at 1049 (by decide +kernel) (by decide +kernel)
theorem k_X10_shade : MF mX10_shade := ⟨q_1049, q_44, by decide +kernel, by decide +kernel⟩
abbrev mX10_miss : MI := (RX10, yX10_miss, cX10_miss, 5, (some .int), { frames := 2, cells := 0, slots := 0, locals := 59 })
theorem q_1053 : Cond.code yX10_miss cX10_miss 5 (some .int) ∈ gw := gw_at 1053 (by decide +kernel) (by decide +kernel)
theorem k_X10_miss : MF mX10_miss := ⟨q_1053, q_44, by decide +kernel, by decide +kernel⟩
abbrev mX10_holds : MI := (RX10, yX10_holds, cX10_holds, 4, (some .int), { frames := 2, cells := 0, slots := 0, locals := 42 })
theorem q_1057 : Cond.code yX10_holds cX10_holds 4 (some .int) ∈ gw := gw_at 1057 (by decide +kernel) (by decide +kernel)
theorem k_X10_holds : MF mX10_holds := ⟨q_1057, q_44, by decide +kernel, by decide +kernel⟩
abbrev mX10_limit : MI := (RX10, yX10_limit, cX10_limit, 3, (some .int), { frames := 1, cells := 0, slots := 0, locals := 22 })
theorem q_1065 : Cond.code yX10_limit cX10_limit 3 (some .int) ∈ gw := gw_at 1065 (by decide +kernel) (by decide +kernel)
theorem k_X10_limit : MF mX10_limit := ⟨q_1065, q_44, by decide +kernel, by decide +kernel⟩
abbrev mX10_mayPour : MI := (RX10, yX10_mayPour, cX10_mayPour, 7, (some .boolean), { frames := 1, cells := 0, slots := 0, locals := 31 })
theorem q_1073 : Cond.code yX10_mayPour cX10_mayPour 7 (some .boolean) ∈ gw := gw_at 1073 (by decide +kernel) (by decide +kernel)
theorem k_X10_mayPour : MF mX10_mayPour := ⟨q_1073, q_44, by decide +kernel, by decide +kernel⟩
abbrev mX10_pour : MI := (RX10, yX10_pour, cX10_pour, 5, (some .int), { frames := 2, cells := 0, slots := 0, locals := 57 })
theorem q_1069 : Cond.code yX10_pour cX10_pour 5 (some .int) ∈ gw := gw_at 1069 (by decide +kernel) (by decide +kernel)
theorem k_X10_pour : MF mX10_pour := ⟨q_1069, q_44, by decide +kernel, by decide +kernel⟩
abbrev mX10_clean : MI := (RX10, yX10_clean, cX10_clean, 3, (some .int), { frames := 2, cells := 0, slots := 0, locals := 42 })
theorem q_1077 : Cond.code yX10_clean cX10_clean 3 (some .int) ∈ gw := gw_at 1077 (by decide +kernel) (by decide +kernel)
theorem k_X10_clean : MF mX10_clean := ⟨q_1077, q_44, by decide +kernel, by decide +kernel⟩
abbrev mX10_fill : MI := (RX10, yX10_fill, cX10_fill, 4, (some .int), { frames := 2, cells := 0, slots := 0, locals := 42 })
theorem q_1081 : Cond.code yX10_fill cX10_fill 4 (some .int) ∈ gw := gw_at 1081 (by decide +kernel) (by decide +kernel)
theorem k_X10_fill : MF mX10_fill := ⟨q_1081, q_44, by decide +kernel, by decide +kernel⟩
abbrev mX10_tank : MI := (RX10, yX10_tank, cX10_tank, 3, (some .int), { frames := 2, cells := 0, slots := 0, locals := 42 })
theorem q_1085 : Cond.code yX10_tank cX10_tank 3 (some .int) ∈ gw := gw_at 1085 (by decide +kernel) (by decide +kernel)
theorem k_X10_tank : MF mX10_tank := ⟨q_1085, q_44, by decide +kernel, by decide +kernel⟩
abbrev mX10_tankShade : MI := (RX10, yX10_tankShade, cX10_tankShade, 3, (some .int), { frames := 2, cells := 0, slots := 0, locals := 42 })
theorem q_1089 : Cond.code yX10_tankShade cX10_tankShade 3 (some .int) ∈ gw := gw_at 1089 (by decide +kernel) (by decide +kernel)
theorem k_X10_tankShade : MF mX10_tankShade := ⟨q_1089, q_44, by decide +kernel, by decide +kernel⟩
abbrev mX10_many : MI := (RX10, yX10_many, cX10_many, 4, (some .int), { frames := 0, cells := 0, slots := 0, locals := 0 })
theorem q_1096 : Cond.code yX10_many cX10_many 4 (some .int) ∈ gw := gw_at 1096 (by decide +kernel) (by decide +kernel)
theorem k_X10_many : MF mX10_many := ⟨q_1096, q_44, by decide +kernel, by decide +kernel⟩
abbrev mX10_drum : MI := (RX10, yX10_drum, cX10_drum, 3, (some .int), { frames := 1, cells := 0, slots := 0, locals := 23 })
theorem q_1093 : Cond.code yX10_drum cX10_drum 3 (some .int) ∈ gw := gw_at 1093 (by decide +kernel) (by decide +kernel)
theorem k_X10_drum : MF mX10_drum := ⟨q_1093, q_44, by decide +kernel, by decide +kernel⟩
abbrev mX10_inDrum : MI := (RX10, yX10_inDrum, cX10_inDrum, 4, (some .int), { frames := 2, cells := 0, slots := 0, locals := 43 })
theorem q_1100 : Cond.code yX10_inDrum cX10_inDrum 4 (some .int) ∈ gw := gw_at 1100 (by decide +kernel) (by decide +kernel)
theorem k_X10_inDrum : MF mX10_inDrum := ⟨q_1100, q_44, by decide +kernel, by decide +kernel⟩
abbrev mX10_recall : MI := (RX10, yX10_recall, cX10_recall, 5, (some .int), { frames := 1, cells := 0, slots := 0, locals := 22 })
theorem q_1104 : Cond.code yX10_recall cX10_recall 5 (some .int) ∈ gw := gw_at 1104 (by decide +kernel) (by decide +kernel)
theorem k_X10_recall : MF mX10_recall := ⟨q_1104, q_44, by decide +kernel, by decide +kernel⟩
abbrev mX10_isHue : MI := (RX10, yX10_isHue, cX10_isHue, 1, (some .boolean), { frames := 1, cells := 0, slots := 0, locals := 22 })
theorem q_1111 : Cond.code yX10_isHue cX10_isHue 1 (some .boolean) ∈ gw := gw_at 1111 (by decide +kernel) (by decide +kernel)
theorem k_X10_isHue : MF mX10_isHue := ⟨q_1111, q_44, by decide +kernel, by decide +kernel⟩
abbrev mX10_job : MI := (RX10, yX10_job, cX10_job, 5, (some .int), { frames := 2, cells := 0, slots := 0, locals := 42 })
theorem q_1108 : Cond.code yX10_job cX10_job 5 (some .int) ∈ gw := gw_at 1108 (by decide +kernel) (by decide +kernel)
theorem k_X10_job : MF mX10_job := ⟨q_1108, q_44, by decide +kernel, by decide +kernel⟩
abbrev mX10_cleaning : MI := (RX10, yX10_cleaning, cX10_cleaning, 5, (some .int), { frames := 2, cells := 0, slots := 0, locals := 42 })
theorem q_1115 : Cond.code yX10_cleaning cX10_cleaning 5 (some .int) ∈ gw := gw_at 1115 (by decide +kernel) (by decide +kernel)
theorem k_X10_cleaning : MF mX10_cleaning := ⟨q_1115, q_44, by decide +kernel, by decide +kernel⟩
abbrev mX10_through : MI := (RX10, yX10_through, cX10_through, 6, (some .int), { frames := 0, cells := 0, slots := 0, locals := 0 })
theorem q_1127 : Cond.code yX10_through cX10_through 6 (some .int) ∈ gw := gw_at 1127 (by decide +kernel) (by decide +kernel)
theorem k_X10_through : MF mX10_through := ⟨q_1127, q_44, by decide +kernel, by decide +kernel⟩
abbrev mX10_bestNext : MI := (RX10, yX10_bestNext, cX10_bestNext, 5, (some .int), { frames := 1, cells := 0, slots := 0, locals := 25 })
theorem q_1123 : Cond.code yX10_bestNext cX10_bestNext 5 (some .int) ∈ gw := gw_at 1123 (by decide +kernel) (by decide +kernel)
theorem k_X10_bestNext : MF mX10_bestNext := ⟨q_1123, q_44, by decide +kernel, by decide +kernel⟩
abbrev mX10_plan : MI := (RX10, yX10_plan, cX10_plan, 8, (some .int), { frames := 2, cells := 0, slots := 0, locals := 49 })
theorem q_1119 : Cond.code yX10_plan cX10_plan 8 (some .int) ∈ gw := gw_at 1119 (by decide +kernel) (by decide +kernel)
theorem k_X10_plan : MF mX10_plan := ⟨q_1119, q_44, by decide +kernel, by decide +kernel⟩
abbrev mX10_planned : MI := (RX10, yX10_planned, cX10_planned, 2, (some .int), { frames := 1, cells := 0, slots := 0, locals := 22 })
theorem q_1131 : Cond.code yX10_planned cX10_planned 2 (some .int) ∈ gw := gw_at 1131 (by decide +kernel) (by decide +kernel)
theorem k_X10_planned : MF mX10_planned := ⟨q_1131, q_44, by decide +kernel, by decide +kernel⟩
abbrev mX10_idle : MI := (RX10, yX10_idle, cX10_idle, 2, (some .int), { frames := 0, cells := 0, slots := 0, locals := 0 })
theorem q_1135 : Cond.code yX10_idle cX10_idle 2 (some .int) ∈ gw := gw_at 1135 (by decide +kernel) (by decide +kernel)
theorem k_X10_idle : MF mX10_idle := ⟨q_1135, q_44, by decide +kernel, by decide +kernel⟩
abbrev mX10_count : MI := (RX10, yX10_count, cX10_count, 2, (some .int), { frames := 0, cells := 0, slots := 0, locals := 0 })
theorem q_1139 : Cond.code yX10_count cX10_count 2 (some .int) ∈ gw := gw_at 1139 (by decide +kernel) (by decide +kernel)
theorem k_X10_count : MF mX10_count := ⟨q_1139, q_44, by decide +kernel, by decide +kernel⟩
abbrev mL_law : MI := (RL, x, code, 4, some .boolean, room_1)
-- fields, calls, constants by their places in the pools
theorem q_64 : Cond.fieldLink "ColourWorks$Palette" 9 "ColourWorks$Palette" "absorb" "[I" ∈ gw := gw_at 64 (by decide +kernel) (by decide +kernel)
theorem f_X5_9 : FL RX5 9 5 0 (tyX5 0) true := ⟨RX5, TX5, 3, rfl, by decide, inX5, rfl, rfl, tyX5_ok 0 (by decide), ⟨tyX5, tyX5_ok⟩, nmX5, Or.inl q_64⟩
theorem ff_X5_9 : ∀ (T : u_T) (N : Nat), vwCl[5]? = some (RX5, T, N) → Cond.fieldLink RX5 9 RX5 (T 0).2.1 (T 0).2.2.1 ∈ gw := fun T N hc => by cases hc; exact q_64
theorem z_65 : Cond.fieldLinkNest "ColourWorks$DropSearch" 107 "ColourWorks$Palette" "absorb" "[I" "ColourWorks" ∈ nw := nw_at 65 (by decide +kernel) (by decide +kernel)
theorem f_X2_107 : FL RX2 107 5 0 (tyX5 0) true := ⟨RX5, TX5, 3, rfl, by decide, inX5, rfl, rfl, tyX5_ok 0 (by decide), ⟨tyX5, tyX5_ok⟩, nmX5, Or.inr ⟨"ColourWorks", z_65⟩⟩
theorem q_66 : Cond.fieldLink "ColourWorks$Palette" 15 "ColourWorks$Palette" "scatter" "[I" ∈ gw := gw_at 66 (by decide +kernel) (by decide +kernel)
theorem f_X5_15 : FL RX5 15 5 1 (tyX5 1) true := ⟨RX5, TX5, 3, rfl, by decide, inX5, rfl, rfl, tyX5_ok 1 (by decide), ⟨tyX5, tyX5_ok⟩, nmX5, Or.inl q_66⟩
theorem ff_X5_15 : ∀ (T : u_T) (N : Nat), vwCl[5]? = some (RX5, T, N) → Cond.fieldLink RX5 15 RX5 (T 1).2.1 (T 1).2.2.1 ∈ gw := fun T N hc => by cases hc; exact q_66
theorem z_67 : Cond.fieldLinkNest "ColourWorks$DropSearch" 110 "ColourWorks$Palette" "scatter" "[I" "ColourWorks" ∈ nw := nw_at 67 (by decide +kernel) (by decide +kernel)
theorem f_X2_110 : FL RX2 110 5 1 (tyX5 1) true := ⟨RX5, TX5, 3, rfl, by decide, inX5, rfl, rfl, tyX5_ok 1 (by decide), ⟨tyX5, tyX5_ok⟩, nmX5, Or.inr ⟨"ColourWorks", z_67⟩⟩
theorem q_68 : Cond.fieldLink "ColourWorks$Palette" 18 "ColourWorks$Palette" "size" "I" ∈ gw := gw_at 68 (by decide +kernel) (by decide +kernel)
theorem f_X5_18 : FL RX5 18 5 2 (tyX5 2) false := ⟨RX5, TX5, 3, rfl, by decide, inX5, rfl, rfl, tyX5_ok 2 (by decide), ⟨tyX5, tyX5_ok⟩, nmX5, Or.inl q_68⟩
theorem z_69 : Cond.fieldLinkNest "ColourWorks$DropSearch" 100 "ColourWorks$Palette" "size" "I" "ColourWorks" ∈ nw := nw_at 69 (by decide +kernel) (by decide +kernel)
theorem f_X2_100 : FL RX2 100 5 2 (tyX5 2) false := ⟨RX5, TX5, 3, rfl, by decide, inX5, rfl, rfl, tyX5_ok 2 (by decide), ⟨tyX5, tyX5_ok⟩, nmX5, Or.inr ⟨"ColourWorks", z_69⟩⟩
theorem z_70 : Cond.fieldLinkNest "ColourWorks" 292 "ColourWorks$Palette" "size" "I" "ColourWorks" ∈ nw := nw_at 70 (by decide +kernel) (by decide +kernel)
theorem f_X9_292 : FL RX9 292 5 2 (tyX5 2) false := ⟨RX5, TX5, 3, rfl, by decide, inX5, rfl, rfl, tyX5_ok 2 (by decide), ⟨tyX5, tyX5_ok⟩, nmX5, Or.inr ⟨"ColourWorks", z_70⟩⟩
theorem q_85 : Cond.fieldLink "ColourWorks$Store" 9 "ColourWorks$Store" "baseOf" "[I" ∈ gw := gw_at 85 (by decide +kernel) (by decide +kernel)
theorem f_X7_9 : FL RX7 9 7 0 (tyX7 0) true := ⟨RX7, TX7, 5, rfl, by decide, inX7, rfl, rfl, tyX7_ok 0 (by decide), ⟨tyX7, tyX7_ok⟩, nmX7, Or.inl q_85⟩
theorem ff_X7_9 : ∀ (T : u_T) (N : Nat), vwCl[7]? = some (RX7, T, N) → Cond.fieldLink RX7 9 RX7 (T 0).2.1 (T 0).2.2.1 ∈ gw := fun T N hc => by cases hc; exact q_85
theorem q_86 : Cond.fieldLink "ColourWorks$Store" 15 "ColourWorks$Store" "stock" "[I" ∈ gw := gw_at 86 (by decide +kernel) (by decide +kernel)
theorem f_X7_15 : FL RX7 15 7 1 (tyX7 1) true := ⟨RX7, TX7, 5, rfl, by decide, inX7, rfl, rfl, tyX7_ok 1 (by decide), ⟨tyX7, tyX7_ok⟩, nmX7, Or.inl q_86⟩
theorem ff_X7_15 : ∀ (T : u_T) (N : Nat), vwCl[7]? = some (RX7, T, N) → Cond.fieldLink RX7 15 RX7 (T 1).2.1 (T 1).2.2.1 ∈ gw := fun T N hc => by cases hc; exact q_86
theorem z_87 : Cond.fieldLinkNest "ColourWorks" 105 "ColourWorks$Store" "stock" "[I" "ColourWorks" ∈ nw := nw_at 87 (by decide +kernel) (by decide +kernel)
theorem f_X9_105 : FL RX9 105 7 1 (tyX7 1) true := ⟨RX7, TX7, 5, rfl, by decide, inX7, rfl, rfl, tyX7_ok 1 (by decide), ⟨tyX7, tyX7_ok⟩, nmX7, Or.inr ⟨"ColourWorks", z_87⟩⟩
theorem q_88 : Cond.fieldLink "ColourWorks$Store" 18 "ColourWorks$Store" "lastDay" "[I" ∈ gw := gw_at 88 (by decide +kernel) (by decide +kernel)
theorem f_X7_18 : FL RX7 18 7 2 (tyX7 2) true := ⟨RX7, TX7, 5, rfl, by decide, inX7, rfl, rfl, tyX7_ok 2 (by decide), ⟨tyX7, tyX7_ok⟩, nmX7, Or.inl q_88⟩
theorem ff_X7_18 : ∀ (T : u_T) (N : Nat), vwCl[7]? = some (RX7, T, N) → Cond.fieldLink RX7 18 RX7 (T 2).2.1 (T 2).2.2.1 ∈ gw := fun T N hc => by cases hc; exact q_88
theorem q_89 : Cond.fieldLink "ColourWorks$Store" 21 "ColourWorks$Store" "size" "I" ∈ gw := gw_at 89 (by decide +kernel) (by decide +kernel)
theorem f_X7_21 : FL RX7 21 7 3 (tyX7 3) false := ⟨RX7, TX7, 5, rfl, by decide, inX7, rfl, rfl, tyX7_ok 3 (by decide), ⟨tyX7, tyX7_ok⟩, nmX7, Or.inl q_89⟩
theorem z_90 : Cond.fieldLinkNest "ColourWorks" 293 "ColourWorks$Store" "size" "I" "ColourWorks" ∈ nw := nw_at 90 (by decide +kernel) (by decide +kernel)
theorem f_X9_293 : FL RX9 293 7 3 (tyX7 3) false := ⟨RX7, TX7, 5, rfl, by decide, inX7, rfl, rfl, tyX7_ok 3 (by decide), ⟨tyX7, tyX7_ok⟩, nmX7, Or.inr ⟨"ColourWorks", z_90⟩⟩
theorem q_91 : Cond.fieldLink "ColourWorks$Store" 25 "ColourWorks$Store" "today" "I" ∈ gw := gw_at 91 (by decide +kernel) (by decide +kernel)
theorem f_X7_25 : FL RX7 25 7 4 (tyX7 4) false := ⟨RX7, TX7, 5, rfl, by decide, inX7, rfl, rfl, tyX7_ok 4 (by decide), ⟨tyX7, tyX7_ok⟩, nmX7, Or.inl q_91⟩
theorem z_92 : Cond.fieldLinkNest "ColourWorks" 112 "ColourWorks$Store" "today" "I" "ColourWorks" ∈ nw := nw_at 92 (by decide +kernel) (by decide +kernel)
theorem f_X9_112 : FL RX9 112 7 4 (tyX7 4) false := ⟨RX7, TX7, 5, rfl, by decide, inX7, rfl, rfl, tyX7_ok 4 (by decide), ⟨tyX7, tyX7_ok⟩, nmX7, Or.inr ⟨"ColourWorks", z_92⟩⟩
theorem q_110 : Cond.fieldLink "ColourWorks$Cookbook" 9 "ColourWorks$Cookbook" "ofElder" "[Z" ∈ gw := gw_at 110 (by decide +kernel) (by decide +kernel)
theorem f_X1_9 : FL RX1 9 1 0 (tyX1 0) true := ⟨RX1, TX1, 7, rfl, by decide, inX1, rfl, rfl, tyX1_ok 0 (by decide), ⟨tyX1, tyX1_ok⟩, nmX1, Or.inl q_110⟩
theorem ff_X1_9 : ∀ (T : u_T) (N : Nat), vwCl[1]? = some (RX1, T, N) → Cond.fieldLink RX1 9 RX1 (T 0).2.1 (T 0).2.2.1 ∈ gw := fun T N hc => by cases hc; exact q_110
theorem q_111 : Cond.fieldLink "ColourWorks$Cookbook" 15 "ColourWorks$Cookbook" "source" "[I" ∈ gw := gw_at 111 (by decide +kernel) (by decide +kernel)
theorem f_X1_15 : FL RX1 15 1 1 (tyX1 1) true := ⟨RX1, TX1, 7, rfl, by decide, inX1, rfl, rfl, tyX1_ok 1 (by decide), ⟨tyX1, tyX1_ok⟩, nmX1, Or.inl q_111⟩
theorem ff_X1_15 : ∀ (T : u_T) (N : Nat), vwCl[1]? = some (RX1, T, N) → Cond.fieldLink RX1 15 RX1 (T 1).2.1 (T 1).2.2.1 ∈ gw := fun T N hc => by cases hc; exact q_111
theorem q_112 : Cond.fieldLink "ColourWorks$Cookbook" 19 "ColourWorks$Cookbook" "times" "[I" ∈ gw := gw_at 112 (by decide +kernel) (by decide +kernel)
theorem f_X1_19 : FL RX1 19 1 2 (tyX1 2) true := ⟨RX1, TX1, 7, rfl, by decide, inX1, rfl, rfl, tyX1_ok 2 (by decide), ⟨tyX1, tyX1_ok⟩, nmX1, Or.inl q_112⟩
theorem ff_X1_19 : ∀ (T : u_T) (N : Nat), vwCl[1]? = some (RX1, T, N) → Cond.fieldLink RX1 19 RX1 (T 2).2.1 (T 2).2.2.1 ∈ gw := fun T N hc => by cases hc; exact q_112
theorem q_113 : Cond.fieldLink "ColourWorks$Cookbook" 22 "ColourWorks$Cookbook" "partCount" "[I" ∈ gw := gw_at 113 (by decide +kernel) (by decide +kernel)
theorem f_X1_22 : FL RX1 22 1 3 (tyX1 3) true := ⟨RX1, TX1, 7, rfl, by decide, inX1, rfl, rfl, tyX1_ok 3 (by decide), ⟨tyX1, tyX1_ok⟩, nmX1, Or.inl q_113⟩
theorem ff_X1_22 : ∀ (T : u_T) (N : Nat), vwCl[1]? = some (RX1, T, N) → Cond.fieldLink RX1 22 RX1 (T 3).2.1 (T 3).2.2.1 ∈ gw := fun T N hc => by cases hc; exact q_113
theorem q_114 : Cond.fieldLink "ColourWorks$Cookbook" 25 "ColourWorks$Cookbook" "needs" "[I" ∈ gw := gw_at 114 (by decide +kernel) (by decide +kernel)
theorem f_X1_25 : FL RX1 25 1 4 (tyX1 4) true := ⟨RX1, TX1, 7, rfl, by decide, inX1, rfl, rfl, tyX1_ok 4 (by decide), ⟨tyX1, tyX1_ok⟩, nmX1, Or.inl q_114⟩
theorem ff_X1_25 : ∀ (T : u_T) (N : Nat), vwCl[1]? = some (RX1, T, N) → Cond.fieldLink RX1 25 RX1 (T 4).2.1 (T 4).2.2.1 ∈ gw := fun T N hc => by cases hc; exact q_114
theorem q_115 : Cond.fieldLink "ColourWorks$Cookbook" 28 "ColourWorks$Cookbook" "trial" "[I" ∈ gw := gw_at 115 (by decide +kernel) (by decide +kernel)
theorem f_X1_28 : FL RX1 28 1 5 (tyX1 5) true := ⟨RX1, TX1, 7, rfl, by decide, inX1, rfl, rfl, tyX1_ok 5 (by decide), ⟨tyX1, tyX1_ok⟩, nmX1, Or.inl q_115⟩
theorem ff_X1_28 : ∀ (T : u_T) (N : Nat), vwCl[1]? = some (RX1, T, N) → Cond.fieldLink RX1 28 RX1 (T 5).2.1 (T 5).2.2.1 ∈ gw := fun T N hc => by cases hc; exact q_115
theorem q_116 : Cond.fieldLink "ColourWorks$Cookbook" 31 "ColourWorks$Cookbook" "size" "I" ∈ gw := gw_at 116 (by decide +kernel) (by decide +kernel)
theorem f_X1_31 : FL RX1 31 1 6 (tyX1 6) false := ⟨RX1, TX1, 7, rfl, by decide, inX1, rfl, rfl, tyX1_ok 6 (by decide), ⟨tyX1, tyX1_ok⟩, nmX1, Or.inl q_116⟩
theorem z_117 : Cond.fieldLinkNest "ColourWorks" 294 "ColourWorks$Cookbook" "size" "I" "ColourWorks" ∈ nw := nw_at 117 (by decide +kernel) (by decide +kernel)
theorem f_X9_294 : FL RX9 294 1 6 (tyX1 6) false := ⟨RX1, TX1, 7, rfl, by decide, inX1, rfl, rfl, tyX1_ok 6 (by decide), ⟨tyX1, tyX1_ok⟩, nmX1, Or.inr ⟨"ColourWorks", z_117⟩⟩
theorem q_142 : Cond.fieldLink "ColourWorks$DropSearch" 9 "ColourWorks$DropSearch" "best" "[I" ∈ gw := gw_at 142 (by decide +kernel) (by decide +kernel)
theorem f_X2_9 : FL RX2 9 2 0 (tyX2 0) true := ⟨RX2, TX2, 11, rfl, by decide, inX2, rfl, rfl, tyX2_ok 0 (by decide), ⟨tyX2, tyX2_ok⟩, nmX2, Or.inl q_142⟩
theorem ff_X2_9 : ∀ (T : u_T) (N : Nat), vwCl[2]? = some (RX2, T, N) → Cond.fieldLink RX2 9 RX2 (T 0).2.1 (T 0).2.2.1 ∈ gw := fun T N hc => by cases hc; exact q_142
theorem z_143 : Cond.fieldLinkNest "ColourWorks" 171 "ColourWorks$DropSearch" "best" "[I" "ColourWorks" ∈ nw := nw_at 143 (by decide +kernel) (by decide +kernel)
theorem f_X9_171 : FL RX9 171 2 0 (tyX2 0) true := ⟨RX2, TX2, 11, rfl, by decide, inX2, rfl, rfl, tyX2_ok 0 (by decide), ⟨tyX2, tyX2_ok⟩, nmX2, Or.inr ⟨"ColourWorks", z_143⟩⟩
theorem q_144 : Cond.fieldLink "ColourWorks$DropSearch" 15 "ColourWorks$DropSearch" "hasFound" "Z" ∈ gw := gw_at 144 (by decide +kernel) (by decide +kernel)
theorem f_X2_15 : FL RX2 15 2 1 (tyX2 1) false := ⟨RX2, TX2, 11, rfl, by decide, inX2, rfl, rfl, tyX2_ok 1 (by decide), ⟨tyX2, tyX2_ok⟩, nmX2, Or.inl q_144⟩
theorem z_145 : Cond.fieldLinkNest "ColourWorks" 174 "ColourWorks$DropSearch" "hasFound" "Z" "ColourWorks" ∈ nw := nw_at 145 (by decide +kernel) (by decide +kernel)
theorem f_X9_174 : FL RX9 174 2 1 (tyX2 1) false := ⟨RX2, TX2, 11, rfl, by decide, inX2, rfl, rfl, tyX2_ok 1 (by decide), ⟨tyX2, tyX2_ok⟩, nmX2, Or.inr ⟨"ColourWorks", z_145⟩⟩
theorem q_146 : Cond.fieldLink "ColourWorks$DropSearch" 19 "ColourWorks$DropSearch" "bestMiss" "I" ∈ gw := gw_at 146 (by decide +kernel) (by decide +kernel)
theorem f_X2_19 : FL RX2 19 2 2 (tyX2 2) false := ⟨RX2, TX2, 11, rfl, by decide, inX2, rfl, rfl, tyX2_ok 2 (by decide), ⟨tyX2, tyX2_ok⟩, nmX2, Or.inl q_146⟩
theorem q_147 : Cond.fieldLink "ColourWorks$DropSearch" 23 "ColourWorks$DropSearch" "bestUnits" "I" ∈ gw := gw_at 147 (by decide +kernel) (by decide +kernel)
theorem f_X2_23 : FL RX2 23 2 3 (tyX2 3) false := ⟨RX2, TX2, 11, rfl, by decide, inX2, rfl, rfl, tyX2_ok 3 (by decide), ⟨tyX2, tyX2_ok⟩, nmX2, Or.inl q_147⟩
theorem q_148 : Cond.fieldLink "ColourWorks$DropSearch" 26 "ColourWorks$DropSearch" "aim" "[I" ∈ gw := gw_at 148 (by decide +kernel) (by decide +kernel)
theorem f_X2_26 : FL RX2 26 2 4 (tyX2 4) true := ⟨RX2, TX2, 11, rfl, by decide, inX2, rfl, rfl, tyX2_ok 4 (by decide), ⟨tyX2, tyX2_ok⟩, nmX2, Or.inl q_148⟩
theorem ff_X2_26 : ∀ (T : u_T) (N : Nat), vwCl[2]? = some (RX2, T, N) → Cond.fieldLink RX2 26 RX2 (T 4).2.1 (T 4).2.2.1 ∈ gw := fun T N hc => by cases hc; exact q_148
theorem q_149 : Cond.fieldLink "ColourWorks$DropSearch" 29 "ColourWorks$DropSearch" "caps" "[I" ∈ gw := gw_at 149 (by decide +kernel) (by decide +kernel)
theorem f_X2_29 : FL RX2 29 2 5 (tyX2 5) true := ⟨RX2, TX2, 11, rfl, by decide, inX2, rfl, rfl, tyX2_ok 5 (by decide), ⟨tyX2, tyX2_ok⟩, nmX2, Or.inl q_149⟩
theorem ff_X2_29 : ∀ (T : u_T) (N : Nat), vwCl[2]? = some (RX2, T, N) → Cond.fieldLink RX2 29 RX2 (T 5).2.1 (T 5).2.2.1 ∈ gw := fun T N hc => by cases hc; exact q_149
theorem q_150 : Cond.fieldLink "ColourWorks$DropSearch" 32 "ColourWorks$DropSearch" "trial" "[I" ∈ gw := gw_at 150 (by decide +kernel) (by decide +kernel)
theorem f_X2_32 : FL RX2 32 2 6 (tyX2 6) true := ⟨RX2, TX2, 11, rfl, by decide, inX2, rfl, rfl, tyX2_ok 6 (by decide), ⟨tyX2, tyX2_ok⟩, nmX2, Or.inl q_150⟩
theorem ff_X2_32 : ∀ (T : u_T) (N : Nat), vwCl[2]? = some (RX2, T, N) → Cond.fieldLink RX2 32 RX2 (T 6).2.1 (T 6).2.2.1 ∈ gw := fun T N hc => by cases hc; exact q_150
theorem q_151 : Cond.fieldLink "ColourWorks$DropSearch" 35 "ColourWorks$DropSearch" "trialUnits" "I" ∈ gw := gw_at 151 (by decide +kernel) (by decide +kernel)
theorem f_X2_35 : FL RX2 35 2 7 (tyX2 7) false := ⟨RX2, TX2, 11, rfl, by decide, inX2, rfl, rfl, tyX2_ok 7 (by decide), ⟨tyX2, tyX2_ok⟩, nmX2, Or.inl q_151⟩
theorem q_152 : Cond.fieldLink "ColourWorks$DropSearch" 38 "ColourWorks$DropSearch" "room" "I" ∈ gw := gw_at 152 (by decide +kernel) (by decide +kernel)
theorem f_X2_38 : FL RX2 38 2 8 (tyX2 8) false := ⟨RX2, TX2, 11, rfl, by decide, inX2, rfl, rfl, tyX2_ok 8 (by decide), ⟨tyX2, tyX2_ok⟩, nmX2, Or.inl q_152⟩
theorem q_153 : Cond.fieldLink "ColourWorks$DropSearch" 41 "ColourWorks$DropSearch" "absorbed" "[J" ∈ gw := gw_at 153 (by decide +kernel) (by decide +kernel)
theorem f_X2_41 : FL RX2 41 2 9 (tyX2 9) true := ⟨RX2, TX2, 11, rfl, by decide, inX2, rfl, rfl, tyX2_ok 9 (by decide), ⟨tyX2, tyX2_ok⟩, nmX2, Or.inl q_153⟩
theorem ff_X2_41 : ∀ (T : u_T) (N : Nat), vwCl[2]? = some (RX2, T, N) → Cond.fieldLink RX2 41 RX2 (T 9).2.1 (T 9).2.2.1 ∈ gw := fun T N hc => by cases hc; exact q_153
theorem q_154 : Cond.fieldLink "ColourWorks$DropSearch" 45 "ColourWorks$DropSearch" "scattered" "[J" ∈ gw := gw_at 154 (by decide +kernel) (by decide +kernel)
theorem f_X2_45 : FL RX2 45 2 10 (tyX2 10) true := ⟨RX2, TX2, 11, rfl, by decide, inX2, rfl, rfl, tyX2_ok 10 (by decide), ⟨tyX2, tyX2_ok⟩, nmX2, Or.inl q_154⟩
theorem ff_X2_45 : ∀ (T : u_T) (N : Nat), vwCl[2]? = some (RX2, T, N) → Cond.fieldLink RX2 45 RX2 (T 10).2.1 (T 10).2.2.1 ∈ gw := fun T N hc => by cases hc; exact q_154
theorem q_187 : Cond.fieldLink "ColourWorks$DrumYard" 9 "ColourWorks$DrumYard" "units" "[I" ∈ gw := gw_at 187 (by decide +kernel) (by decide +kernel)
theorem f_X3_9 : FL RX3 9 3 0 (tyX3 0) true := ⟨RX3, TX3, 6, rfl, by decide, inX3, rfl, rfl, tyX3_ok 0 (by decide), ⟨tyX3, tyX3_ok⟩, nmX3, Or.inl q_187⟩
theorem ff_X3_9 : ∀ (T : u_T) (N : Nat), vwCl[3]? = some (RX3, T, N) → Cond.fieldLink RX3 9 RX3 (T 0).2.1 (T 0).2.2.1 ∈ gw := fun T N hc => by cases hc; exact q_187
theorem z_188 : Cond.fieldLinkNest "ColourWorks" 236 "ColourWorks$DrumYard" "units" "[I" "ColourWorks" ∈ nw := nw_at 188 (by decide +kernel) (by decide +kernel)
theorem f_X9_236 : FL RX9 236 3 0 (tyX3 0) true := ⟨RX3, TX3, 6, rfl, by decide, inX3, rfl, rfl, tyX3_ok 0 (by decide), ⟨tyX3, tyX3_ok⟩, nmX3, Or.inr ⟨"ColourWorks", z_188⟩⟩
theorem q_189 : Cond.fieldLink "ColourWorks$DrumYard" 15 "ColourWorks$DrumYard" "fromTank" "[I" ∈ gw := gw_at 189 (by decide +kernel) (by decide +kernel)
theorem f_X3_15 : FL RX3 15 3 1 (tyX3 1) true := ⟨RX3, TX3, 6, rfl, by decide, inX3, rfl, rfl, tyX3_ok 1 (by decide), ⟨tyX3, tyX3_ok⟩, nmX3, Or.inl q_189⟩
theorem ff_X3_15 : ∀ (T : u_T) (N : Nat), vwCl[3]? = some (RX3, T, N) → Cond.fieldLink RX3 15 RX3 (T 1).2.1 (T 1).2.2.1 ∈ gw := fun T N hc => by cases hc; exact q_189
theorem z_190 : Cond.fieldLinkNest "ColourWorks" 238 "ColourWorks$DrumYard" "fromTank" "[I" "ColourWorks" ∈ nw := nw_at 190 (by decide +kernel) (by decide +kernel)
theorem f_X9_238 : FL RX9 238 3 1 (tyX3 1) true := ⟨RX3, TX3, 6, rfl, by decide, inX3, rfl, rfl, tyX3_ok 1 (by decide), ⟨tyX3, tyX3_ok⟩, nmX3, Or.inr ⟨"ColourWorks", z_190⟩⟩
theorem q_191 : Cond.fieldLink "ColourWorks$DrumYard" 18 "ColourWorks$DrumYard" "filledOn" "[I" ∈ gw := gw_at 191 (by decide +kernel) (by decide +kernel)
theorem f_X3_18 : FL RX3 18 3 2 (tyX3 2) true := ⟨RX3, TX3, 6, rfl, by decide, inX3, rfl, rfl, tyX3_ok 2 (by decide), ⟨tyX3, tyX3_ok⟩, nmX3, Or.inl q_191⟩
theorem ff_X3_18 : ∀ (T : u_T) (N : Nat), vwCl[3]? = some (RX3, T, N) → Cond.fieldLink RX3 18 RX3 (T 2).2.1 (T 2).2.2.1 ∈ gw := fun T N hc => by cases hc; exact q_191
theorem z_192 : Cond.fieldLinkNest "ColourWorks" 241 "ColourWorks$DrumYard" "filledOn" "[I" "ColourWorks" ∈ nw := nw_at 192 (by decide +kernel) (by decide +kernel)
theorem f_X9_241 : FL RX9 241 3 2 (tyX3 2) true := ⟨RX3, TX3, 6, rfl, by decide, inX3, rfl, rfl, tyX3_ok 2 (by decide), ⟨tyX3, tyX3_ok⟩, nmX3, Or.inr ⟨"ColourWorks", z_192⟩⟩
theorem q_193 : Cond.fieldLink "ColourWorks$DrumYard" 21 "ColourWorks$DrumYard" "batches" "[I" ∈ gw := gw_at 193 (by decide +kernel) (by decide +kernel)
theorem f_X3_21 : FL RX3 21 3 3 (tyX3 3) true := ⟨RX3, TX3, 6, rfl, by decide, inX3, rfl, rfl, tyX3_ok 3 (by decide), ⟨tyX3, tyX3_ok⟩, nmX3, Or.inl q_193⟩
theorem ff_X3_21 : ∀ (T : u_T) (N : Nat), vwCl[3]? = some (RX3, T, N) → Cond.fieldLink RX3 21 RX3 (T 3).2.1 (T 3).2.2.1 ∈ gw := fun T N hc => by cases hc; exact q_193
theorem z_194 : Cond.fieldLinkNest "ColourWorks" 244 "ColourWorks$DrumYard" "batches" "[I" "ColourWorks" ∈ nw := nw_at 194 (by decide +kernel) (by decide +kernel)
theorem f_X9_244 : FL RX9 244 3 3 (tyX3 3) true := ⟨RX3, TX3, 6, rfl, by decide, inX3, rfl, rfl, tyX3_ok 3 (by decide), ⟨tyX3, tyX3_ok⟩, nmX3, Or.inr ⟨"ColourWorks", z_194⟩⟩
theorem q_195 : Cond.fieldLink "ColourWorks$DrumYard" 24 "ColourWorks$DrumYard" "lots" "[J" ∈ gw := gw_at 195 (by decide +kernel) (by decide +kernel)
theorem f_X3_24 : FL RX3 24 3 4 (tyX3 4) true := ⟨RX3, TX3, 6, rfl, by decide, inX3, rfl, rfl, tyX3_ok 4 (by decide), ⟨tyX3, tyX3_ok⟩, nmX3, Or.inl q_195⟩
theorem ff_X3_24 : ∀ (T : u_T) (N : Nat), vwCl[3]? = some (RX3, T, N) → Cond.fieldLink RX3 24 RX3 (T 4).2.1 (T 4).2.2.1 ∈ gw := fun T N hc => by cases hc; exact q_195
theorem z_196 : Cond.fieldLinkNest "ColourWorks" 251 "ColourWorks$DrumYard" "lots" "[J" "ColourWorks" ∈ nw := nw_at 196 (by decide +kernel) (by decide +kernel)
theorem f_X9_251 : FL RX9 251 3 4 (tyX3 4) true := ⟨RX3, TX3, 6, rfl, by decide, inX3, rfl, rfl, tyX3_ok 4 (by decide), ⟨tyX3, tyX3_ok⟩, nmX3, Or.inr ⟨"ColourWorks", z_196⟩⟩
theorem q_197 : Cond.fieldLink "ColourWorks$DrumYard" 28 "ColourWorks$DrumYard" "size" "I" ∈ gw := gw_at 197 (by decide +kernel) (by decide +kernel)
theorem f_X3_28 : FL RX3 28 3 5 (tyX3 5) false := ⟨RX3, TX3, 6, rfl, by decide, inX3, rfl, rfl, tyX3_ok 5 (by decide), ⟨tyX3, tyX3_ok⟩, nmX3, Or.inl q_197⟩
theorem z_198 : Cond.fieldLinkNest "ColourWorks" 295 "ColourWorks$DrumYard" "size" "I" "ColourWorks" ∈ nw := nw_at 198 (by decide +kernel) (by decide +kernel)
theorem f_X9_295 : FL RX9 295 3 5 (tyX3 5) false := ⟨RX3, TX3, 6, rfl, by decide, inX3, rfl, rfl, tyX3_ok 5 (by decide), ⟨tyX3, tyX3_ok⟩, nmX3, Or.inr ⟨"ColourWorks", z_198⟩⟩
theorem q_218 : Cond.fieldLink "ColourWorks$Schedule" 9 "ColourWorks$Schedule" "hueOf" "[I" ∈ gw := gw_at 218 (by decide +kernel) (by decide +kernel)
theorem f_X6_9 : FL RX6 9 6 0 (tyX6 0) true := ⟨RX6, TX6, 9, rfl, by decide, inX6, rfl, rfl, tyX6_ok 0 (by decide), ⟨tyX6, tyX6_ok⟩, nmX6, Or.inl q_218⟩
theorem ff_X6_9 : ∀ (T : u_T) (N : Nat), vwCl[6]? = some (RX6, T, N) → Cond.fieldLink RX6 9 RX6 (T 0).2.1 (T 0).2.2.1 ∈ gw := fun T N hc => by cases hc; exact q_218
theorem q_219 : Cond.fieldLink "ColourWorks$Schedule" 15 "ColourWorks$Schedule" "timeOf" "[I" ∈ gw := gw_at 219 (by decide +kernel) (by decide +kernel)
theorem f_X6_15 : FL RX6 15 6 1 (tyX6 1) true := ⟨RX6, TX6, 9, rfl, by decide, inX6, rfl, rfl, tyX6_ok 1 (by decide), ⟨tyX6, tyX6_ok⟩, nmX6, Or.inl q_219⟩
theorem ff_X6_15 : ∀ (T : u_T) (N : Nat), vwCl[6]? = some (RX6, T, N) → Cond.fieldLink RX6 15 RX6 (T 1).2.1 (T 1).2.2.1 ∈ gw := fun T N hc => by cases hc; exact q_219
theorem q_220 : Cond.fieldLink "ColourWorks$Schedule" 18 "ColourWorks$Schedule" "dueOf" "[I" ∈ gw := gw_at 220 (by decide +kernel) (by decide +kernel)
theorem f_X6_18 : FL RX6 18 6 2 (tyX6 2) true := ⟨RX6, TX6, 9, rfl, by decide, inX6, rfl, rfl, tyX6_ok 2 (by decide), ⟨tyX6, tyX6_ok⟩, nmX6, Or.inl q_220⟩
theorem ff_X6_18 : ∀ (T : u_T) (N : Nat), vwCl[6]? = some (RX6, T, N) → Cond.fieldLink RX6 18 RX6 (T 2).2.1 (T 2).2.2.1 ∈ gw := fun T N hc => by cases hc; exact q_220
theorem q_221 : Cond.fieldLink "ColourWorks$Schedule" 21 "ColourWorks$Schedule" "priceOf" "[I" ∈ gw := gw_at 221 (by decide +kernel) (by decide +kernel)
theorem f_X6_21 : FL RX6 21 6 3 (tyX6 3) true := ⟨RX6, TX6, 9, rfl, by decide, inX6, rfl, rfl, tyX6_ok 3 (by decide), ⟨tyX6, tyX6_ok⟩, nmX6, Or.inl q_221⟩
theorem ff_X6_21 : ∀ (T : u_T) (N : Nat), vwCl[6]? = some (RX6, T, N) → Cond.fieldLink RX6 21 RX6 (T 3).2.1 (T 3).2.2.1 ∈ gw := fun T N hc => by cases hc; exact q_221
theorem q_222 : Cond.fieldLink "ColourWorks$Schedule" 24 "ColourWorks$Schedule" "size" "I" ∈ gw := gw_at 222 (by decide +kernel) (by decide +kernel)
theorem f_X6_24 : FL RX6 24 6 4 (tyX6 4) false := ⟨RX6, TX6, 9, rfl, by decide, inX6, rfl, rfl, tyX6_ok 4 (by decide), ⟨tyX6, tyX6_ok⟩, nmX6, Or.inl q_222⟩
theorem z_223 : Cond.fieldLinkNest "ColourWorks" 291 "ColourWorks$Schedule" "size" "I" "ColourWorks" ∈ nw := nw_at 223 (by decide +kernel) (by decide +kernel)
theorem f_X9_291 : FL RX9 291 6 4 (tyX6 4) false := ⟨RX6, TX6, 9, rfl, by decide, inX6, rfl, rfl, tyX6_ok 4 (by decide), ⟨tyX6, tyX6_ok⟩, nmX6, Or.inr ⟨"ColourWorks", z_223⟩⟩
theorem q_224 : Cond.fieldLink "ColourWorks$Schedule" 28 "ColourWorks$Schedule" "changes" "[I" ∈ gw := gw_at 224 (by decide +kernel) (by decide +kernel)
theorem f_X6_28 : FL RX6 28 6 5 (tyX6 5) true := ⟨RX6, TX6, 9, rfl, by decide, inX6, rfl, rfl, tyX6_ok 5 (by decide), ⟨tyX6, tyX6_ok⟩, nmX6, Or.inl q_224⟩
theorem ff_X6_28 : ∀ (T : u_T) (N : Nat), vwCl[6]? = some (RX6, T, N) → Cond.fieldLink RX6 28 RX6 (T 5).2.1 (T 5).2.2.1 ∈ gw := fun T N hc => by cases hc; exact q_224
theorem q_225 : Cond.fieldLink "ColourWorks$Schedule" 31 "ColourWorks$Schedule" "costAhead" "[I" ∈ gw := gw_at 225 (by decide +kernel) (by decide +kernel)
theorem f_X6_31 : FL RX6 31 6 6 (tyX6 6) true := ⟨RX6, TX6, 9, rfl, by decide, inX6, rfl, rfl, tyX6_ok 6 (by decide), ⟨tyX6, tyX6_ok⟩, nmX6, Or.inl q_225⟩
theorem ff_X6_31 : ∀ (T : u_T) (N : Nat), vwCl[6]? = some (RX6, T, N) → Cond.fieldLink RX6 31 RX6 (T 6).2.1 (T 6).2.2.1 ∈ gw := fun T N hc => by cases hc; exact q_225
theorem q_226 : Cond.fieldLink "ColourWorks$Schedule" 34 "ColourWorks$Schedule" "order" "[I" ∈ gw := gw_at 226 (by decide +kernel) (by decide +kernel)
theorem f_X6_34 : FL RX6 34 6 7 (tyX6 7) true := ⟨RX6, TX6, 9, rfl, by decide, inX6, rfl, rfl, tyX6_ok 7 (by decide), ⟨tyX6, tyX6_ok⟩, nmX6, Or.inl q_226⟩
theorem ff_X6_34 : ∀ (T : u_T) (N : Nat), vwCl[6]? = some (RX6, T, N) → Cond.fieldLink RX6 34 RX6 (T 7).2.1 (T 7).2.2.1 ∈ gw := fun T N hc => by cases hc; exact q_226
theorem z_227 : Cond.fieldLinkNest "ColourWorks" 288 "ColourWorks$Schedule" "order" "[I" "ColourWorks" ∈ nw := nw_at 227 (by decide +kernel) (by decide +kernel)
theorem f_X9_288 : FL RX9 288 6 7 (tyX6 7) true := ⟨RX6, TX6, 9, rfl, by decide, inX6, rfl, rfl, tyX6_ok 7 (by decide), ⟨tyX6, tyX6_ok⟩, nmX6, Or.inr ⟨"ColourWorks", z_227⟩⟩
theorem q_228 : Cond.fieldLink "ColourWorks$Schedule" 37 "ColourWorks$Schedule" "places" "I" ∈ gw := gw_at 228 (by decide +kernel) (by decide +kernel)
theorem f_X6_37 : FL RX6 37 6 8 (tyX6 8) false := ⟨RX6, TX6, 9, rfl, by decide, inX6, rfl, rfl, tyX6_ok 8 (by decide), ⟨tyX6, tyX6_ok⟩, nmX6, Or.inl q_228⟩
theorem z_229 : Cond.fieldLinkNest "ColourWorks" 285 "ColourWorks$Schedule" "places" "I" "ColourWorks" ∈ nw := nw_at 229 (by decide +kernel) (by decide +kernel)
theorem f_X9_285 : FL RX9 285 6 8 (tyX6 8) false := ⟨RX6, TX6, 9, rfl, by decide, inX6, rfl, rfl, tyX6_ok 8 (by decide), ⟨tyX6, tyX6_ok⟩, nmX6, Or.inr ⟨"ColourWorks", z_229⟩⟩
theorem q_260 : Cond.fieldLink "ColourWorks$Mix" 9 "ColourWorks$Mix" "amounts" "[I" ∈ gw := gw_at 260 (by decide +kernel) (by decide +kernel)
theorem f_X4_9 : FL RX4 9 4 0 (tyX4 0) true := ⟨RX4, TX4, 3, rfl, by decide, inX4, rfl, rfl, tyX4_ok 0 (by decide), ⟨tyX4, tyX4_ok⟩, nmX4, Or.inl q_260⟩
theorem ff_X4_9 : ∀ (T : u_T) (N : Nat), vwCl[4]? = some (RX4, T, N) → Cond.fieldLink RX4 9 RX4 (T 0).2.1 (T 0).2.2.1 ∈ gw := fun T N hc => by cases hc; exact q_260
theorem z_261 : Cond.fieldLinkNest "ColourWorks$Palette" 26 "ColourWorks$Mix" "amounts" "[I" "ColourWorks" ∈ nw := nw_at 261 (by decide +kernel) (by decide +kernel)
theorem f_X5_26 : FL RX5 26 4 0 (tyX4 0) true := ⟨RX4, TX4, 3, rfl, by decide, inX4, rfl, rfl, tyX4_ok 0 (by decide), ⟨tyX4, tyX4_ok⟩, nmX4, Or.inr ⟨"ColourWorks", z_261⟩⟩
theorem z_262 : Cond.fieldLinkNest "ColourWorks" 183 "ColourWorks$Mix" "amounts" "[I" "ColourWorks" ∈ nw := nw_at 262 (by decide +kernel) (by decide +kernel)
theorem f_X9_183 : FL RX9 183 4 0 (tyX4 0) true := ⟨RX4, TX4, 3, rfl, by decide, inX4, rfl, rfl, tyX4_ok 0 (by decide), ⟨tyX4, tyX4_ok⟩, nmX4, Or.inr ⟨"ColourWorks", z_262⟩⟩
theorem q_263 : Cond.fieldLink "ColourWorks$Mix" 15 "ColourWorks$Mix" "units" "I" ∈ gw := gw_at 263 (by decide +kernel) (by decide +kernel)
theorem f_X4_15 : FL RX4 15 4 1 (tyX4 1) false := ⟨RX4, TX4, 3, rfl, by decide, inX4, rfl, rfl, tyX4_ok 1 (by decide), ⟨tyX4, tyX4_ok⟩, nmX4, Or.inl q_263⟩
theorem z_264 : Cond.fieldLinkNest "ColourWorks$DropSearch" 48 "ColourWorks$Mix" "units" "I" "ColourWorks" ∈ nw := nw_at 264 (by decide +kernel) (by decide +kernel)
theorem f_X2_48 : FL RX2 48 4 1 (tyX4 1) false := ⟨RX4, TX4, 3, rfl, by decide, inX4, rfl, rfl, tyX4_ok 1 (by decide), ⟨tyX4, tyX4_ok⟩, nmX4, Or.inr ⟨"ColourWorks", z_264⟩⟩
theorem z_265 : Cond.fieldLinkNest "ColourWorks$Tank" 54 "ColourWorks$Mix" "units" "I" "ColourWorks" ∈ nw := nw_at 265 (by decide +kernel) (by decide +kernel)
theorem f_X8_54 : FL RX8 54 4 1 (tyX4 1) false := ⟨RX4, TX4, 3, rfl, by decide, inX4, rfl, rfl, tyX4_ok 1 (by decide), ⟨tyX4, tyX4_ok⟩, nmX4, Or.inr ⟨"ColourWorks", z_265⟩⟩
theorem z_266 : Cond.fieldLinkNest "ColourWorks" 154 "ColourWorks$Mix" "units" "I" "ColourWorks" ∈ nw := nw_at 266 (by decide +kernel) (by decide +kernel)
theorem f_X9_154 : FL RX9 154 4 1 (tyX4 1) false := ⟨RX4, TX4, 3, rfl, by decide, inX4, rfl, rfl, tyX4_ok 1 (by decide), ⟨tyX4, tyX4_ok⟩, nmX4, Or.inr ⟨"ColourWorks", z_266⟩⟩
theorem q_267 : Cond.fieldLink "ColourWorks$Mix" 19 "ColourWorks$Mix" "lots" "J" ∈ gw := gw_at 267 (by decide +kernel) (by decide +kernel)
theorem f_X4_19 : FL RX4 19 4 2 (tyX4 2) false := ⟨RX4, TX4, 3, rfl, by decide, inX4, rfl, rfl, tyX4_ok 2 (by decide), ⟨tyX4, tyX4_ok⟩, nmX4, Or.inl q_267⟩
theorem z_268 : Cond.fieldLinkNest "ColourWorks$DrumYard" 40 "ColourWorks$Mix" "lots" "J" "ColourWorks" ∈ nw := nw_at 268 (by decide +kernel) (by decide +kernel)
theorem f_X3_40 : FL RX3 40 4 2 (tyX4 2) false := ⟨RX4, TX4, 3, rfl, by decide, inX4, rfl, rfl, tyX4_ok 2 (by decide), ⟨tyX4, tyX4_ok⟩, nmX4, Or.inr ⟨"ColourWorks", z_268⟩⟩
theorem z_269 : Cond.fieldLinkNest "ColourWorks" 304 "ColourWorks$Mix" "lots" "J" "ColourWorks" ∈ nw := nw_at 269 (by decide +kernel) (by decide +kernel)
theorem f_X9_304 : FL RX9 304 4 2 (tyX4 2) false := ⟨RX4, TX4, 3, rfl, by decide, inX4, rfl, rfl, tyX4_ok 2 (by decide), ⟨tyX4, tyX4_ok⟩, nmX4, Or.inr ⟨"ColourWorks", z_269⟩⟩
theorem q_277 : Cond.fieldLink "ColourWorks$Batch" 10 "ColourWorks$Batch" "mix" "LColourWorks$Mix;" ∈ gw := gw_at 277 (by decide +kernel) (by decide +kernel)
theorem f_X0_10 : FL RX0 10 0 0 (tyX0 0) true := ⟨RX0, TX0, 2, rfl, by decide, inX0, rfl, rfl, tyX0_ok 0 (by decide), ⟨tyX0, tyX0_ok⟩, nmX0, Or.inl q_277⟩
theorem ff_X0_10 : ∀ (T : u_T) (N : Nat), vwCl[0]? = some (RX0, T, N) → Cond.fieldLink RX0 10 RX0 (T 0).2.1 (T 0).2.2.1 ∈ gw := fun T N hc => by cases hc; exact q_277
theorem z_278 : Cond.fieldLinkNest "ColourWorks" 150 "ColourWorks$Batch" "mix" "LColourWorks$Mix;" "ColourWorks" ∈ nw := nw_at 278 (by decide +kernel) (by decide +kernel)
theorem f_X9_150 : FL RX9 150 0 0 (tyX0 0) true := ⟨RX0, TX0, 2, rfl, by decide, inX0, rfl, rfl, tyX0_ok 0 (by decide), ⟨tyX0, tyX0_ok⟩, nmX0, Or.inr ⟨"ColourWorks", z_278⟩⟩
theorem q_279 : Cond.fieldLink "ColourWorks$Batch" 16 "ColourWorks$Batch" "poured" "Z" ∈ gw := gw_at 279 (by decide +kernel) (by decide +kernel)
theorem f_X0_16 : FL RX0 16 0 1 (tyX0 1) false := ⟨RX0, TX0, 2, rfl, by decide, inX0, rfl, rfl, tyX0_ok 1 (by decide), ⟨tyX0, tyX0_ok⟩, nmX0, Or.inl q_279⟩
theorem z_280 : Cond.fieldLinkNest "ColourWorks" 146 "ColourWorks$Batch" "poured" "Z" "ColourWorks" ∈ nw := nw_at 280 (by decide +kernel) (by decide +kernel)
theorem f_X9_146 : FL RX9 146 0 1 (tyX0 1) false := ⟨RX0, TX0, 2, rfl, by decide, inX0, rfl, rfl, tyX0_ok 1 (by decide), ⟨tyX0, tyX0_ok⟩, nmX0, Or.inr ⟨"ColourWorks", z_280⟩⟩
theorem q_293 : Cond.fieldLink "ColourWorks$Tank" 12 "ColourWorks$Tank" "mix" "LColourWorks$Mix;" ∈ gw := gw_at 293 (by decide +kernel) (by decide +kernel)
theorem f_X8_12 : FL RX8 12 8 0 (tyX8 0) true := ⟨RX8, TX8, 7, rfl, by decide, inX8, rfl, rfl, tyX8_ok 0 (by decide), ⟨tyX8, tyX8_ok⟩, nmX8, Or.inl q_293⟩
theorem ff_X8_12 : ∀ (T : u_T) (N : Nat), vwCl[8]? = some (RX8, T, N) → Cond.fieldLink RX8 12 RX8 (T 0).2.1 (T 0).2.2.1 ∈ gw := fun T N hc => by cases hc; exact q_293
theorem z_294 : Cond.fieldLinkNest "ColourWorks$DrumYard" 36 "ColourWorks$Tank" "mix" "LColourWorks$Mix;" "ColourWorks" ∈ nw := nw_at 294 (by decide +kernel) (by decide +kernel)
theorem f_X3_36 : FL RX3 36 8 0 (tyX8 0) true := ⟨RX8, TX8, 7, rfl, by decide, inX8, rfl, rfl, tyX8_ok 0 (by decide), ⟨tyX8, tyX8_ok⟩, nmX8, Or.inr ⟨"ColourWorks", z_294⟩⟩
theorem z_295 : Cond.fieldLinkNest "ColourWorks" 234 "ColourWorks$Tank" "mix" "LColourWorks$Mix;" "ColourWorks" ∈ nw := nw_at 295 (by decide +kernel) (by decide +kernel)
theorem f_X9_234 : FL RX9 234 8 0 (tyX8 0) true := ⟨RX8, TX8, 7, rfl, by decide, inX8, rfl, rfl, tyX8_ok 0 (by decide), ⟨tyX8, tyX8_ok⟩, nmX8, Or.inr ⟨"ColourWorks", z_295⟩⟩
theorem q_296 : Cond.fieldLink "ColourWorks$Tank" 18 "ColourWorks$Tank" "stain" "[I" ∈ gw := gw_at 296 (by decide +kernel) (by decide +kernel)
theorem f_X8_18 : FL RX8 18 8 1 (tyX8 1) true := ⟨RX8, TX8, 7, rfl, by decide, inX8, rfl, rfl, tyX8_ok 1 (by decide), ⟨tyX8, tyX8_ok⟩, nmX8, Or.inl q_296⟩
theorem ff_X8_18 : ∀ (T : u_T) (N : Nat), vwCl[8]? = some (RX8, T, N) → Cond.fieldLink RX8 18 RX8 (T 1).2.1 (T 1).2.2.1 ∈ gw := fun T N hc => by cases hc; exact q_296
theorem z_297 : Cond.fieldLinkNest "ColourWorks" 231 "ColourWorks$Tank" "stain" "[I" "ColourWorks" ∈ nw := nw_at 297 (by decide +kernel) (by decide +kernel)
theorem f_X9_231 : FL RX9 231 8 1 (tyX8 1) true := ⟨RX8, TX8, 7, rfl, by decide, inX8, rfl, rfl, tyX8_ok 1 (by decide), ⟨tyX8, tyX8_ok⟩, nmX8, Or.inr ⟨"ColourWorks", z_297⟩⟩
theorem q_298 : Cond.fieldLink "ColourWorks$Tank" 22 "ColourWorks$Tank" "inside" "I" ∈ gw := gw_at 298 (by decide +kernel) (by decide +kernel)
theorem f_X8_22 : FL RX8 22 8 2 (tyX8 2) false := ⟨RX8, TX8, 7, rfl, by decide, inX8, rfl, rfl, tyX8_ok 2 (by decide), ⟨tyX8, tyX8_ok⟩, nmX8, Or.inl q_298⟩
theorem z_299 : Cond.fieldLinkNest "ColourWorks" 202 "ColourWorks$Tank" "inside" "I" "ColourWorks" ∈ nw := nw_at 299 (by decide +kernel) (by decide +kernel)
theorem f_X9_202 : FL RX9 202 8 2 (tyX8 2) false := ⟨RX8, TX8, 7, rfl, by decide, inX8, rfl, rfl, tyX8_ok 2 (by decide), ⟨tyX8, tyX8_ok⟩, nmX8, Or.inr ⟨"ColourWorks", z_299⟩⟩
theorem q_300 : Cond.fieldLink "ColourWorks$Tank" 26 "ColourWorks$Tank" "size" "I" ∈ gw := gw_at 300 (by decide +kernel) (by decide +kernel)
theorem f_X8_26 : FL RX8 26 8 3 (tyX8 3) false := ⟨RX8, TX8, 7, rfl, by decide, inX8, rfl, rfl, tyX8_ok 3 (by decide), ⟨tyX8, tyX8_ok⟩, nmX8, Or.inl q_300⟩
theorem z_301 : Cond.fieldLinkNest "ColourWorks" 205 "ColourWorks$Tank" "size" "I" "ColourWorks" ∈ nw := nw_at 301 (by decide +kernel) (by decide +kernel)
theorem f_X9_205 : FL RX9 205 8 3 (tyX8 3) false := ⟨RX8, TX8, 7, rfl, by decide, inX8, rfl, rfl, tyX8_ok 3 (by decide), ⟨tyX8, tyX8_ok⟩, nmX8, Or.inr ⟨"ColourWorks", z_301⟩⟩
theorem q_302 : Cond.fieldLink "ColourWorks$Tank" 29 "ColourWorks$Tank" "batches" "I" ∈ gw := gw_at 302 (by decide +kernel) (by decide +kernel)
theorem f_X8_29 : FL RX8 29 8 4 (tyX8 4) false := ⟨RX8, TX8, 7, rfl, by decide, inX8, rfl, rfl, tyX8_ok 4 (by decide), ⟨tyX8, tyX8_ok⟩, nmX8, Or.inl q_302⟩
theorem z_303 : Cond.fieldLinkNest "ColourWorks$DrumYard" 32 "ColourWorks$Tank" "batches" "I" "ColourWorks" ∈ nw := nw_at 303 (by decide +kernel) (by decide +kernel)
theorem f_X3_32 : FL RX3 32 8 4 (tyX8 4) false := ⟨RX8, TX8, 7, rfl, by decide, inX8, rfl, rfl, tyX8_ok 4 (by decide), ⟨tyX8, tyX8_ok⟩, nmX8, Or.inr ⟨"ColourWorks", z_303⟩⟩
theorem q_304 : Cond.fieldLink "ColourWorks$Tank" 32 "ColourWorks$Tank" "tapped" "Z" ∈ gw := gw_at 304 (by decide +kernel) (by decide +kernel)
theorem f_X8_32 : FL RX8 32 8 5 (tyX8 5) false := ⟨RX8, TX8, 7, rfl, by decide, inX8, rfl, rfl, tyX8_ok 5 (by decide), ⟨tyX8, tyX8_ok⟩, nmX8, Or.inl q_304⟩
theorem q_305 : Cond.fieldLink "ColourWorks$Tank" 36 "ColourWorks$Tank" "stained" "Z" ∈ gw := gw_at 305 (by decide +kernel) (by decide +kernel)
theorem f_X8_36 : FL RX8 36 8 6 (tyX8 6) false := ⟨RX8, TX8, 7, rfl, by decide, inX8, rfl, rfl, tyX8_ok 6 (by decide), ⟨tyX8, tyX8_ok⟩, nmX8, Or.inl q_305⟩
theorem z_306 : Cond.fieldLinkNest "ColourWorks" 217 "ColourWorks$Tank" "stained" "Z" "ColourWorks" ∈ nw := nw_at 306 (by decide +kernel) (by decide +kernel)
theorem f_X9_217 : FL RX9 217 8 6 (tyX8 6) false := ⟨RX8, TX8, 7, rfl, by decide, inX8, rfl, rfl, tyX8_ok 6 (by decide), ⟨tyX8, tyX8_ok⟩, nmX8, Or.inr ⟨"ColourWorks", z_306⟩⟩
theorem q_322 : Cond.fieldLink "ColourWorks" 12 "ColourWorks" "palette" "LColourWorks$Palette;" ∈ gw := gw_at 322 (by decide +kernel) (by decide +kernel)
theorem f_X9_12 : FL RX9 12 9 0 (tyX9 0) true := ⟨RX9, TX9, 12, rfl, by decide, inX9, rfl, rfl, tyX9_ok 0 (by decide), ⟨tyX9, tyX9_ok⟩, nmX9, Or.inl q_322⟩
theorem ff_X9_12 : ∀ (T : u_T) (N : Nat), vwCl[9]? = some (RX9, T, N) → Cond.fieldLink RX9 12 RX9 (T 0).2.1 (T 0).2.2.1 ∈ gw := fun T N hc => by cases hc; exact q_322
theorem q_323 : Cond.fieldLink "ColourWorks" 19 "ColourWorks" "store" "LColourWorks$Store;" ∈ gw := gw_at 323 (by decide +kernel) (by decide +kernel)
theorem f_X9_19 : FL RX9 19 9 1 (tyX9 1) true := ⟨RX9, TX9, 12, rfl, by decide, inX9, rfl, rfl, tyX9_ok 1 (by decide), ⟨tyX9, tyX9_ok⟩, nmX9, Or.inl q_323⟩
theorem ff_X9_19 : ∀ (T : u_T) (N : Nat), vwCl[9]? = some (RX9, T, N) → Cond.fieldLink RX9 19 RX9 (T 1).2.1 (T 1).2.2.1 ∈ gw := fun T N hc => by cases hc; exact q_323
theorem q_324 : Cond.fieldLink "ColourWorks" 26 "ColourWorks" "cookbook" "LColourWorks$Cookbook;" ∈ gw := gw_at 324 (by decide +kernel) (by decide +kernel)
theorem f_X9_26 : FL RX9 26 9 2 (tyX9 2) true := ⟨RX9, TX9, 12, rfl, by decide, inX9, rfl, rfl, tyX9_ok 2 (by decide), ⟨tyX9, tyX9_ok⟩, nmX9, Or.inl q_324⟩
theorem ff_X9_26 : ∀ (T : u_T) (N : Nat), vwCl[9]? = some (RX9, T, N) → Cond.fieldLink RX9 26 RX9 (T 2).2.1 (T 2).2.2.1 ∈ gw := fun T N hc => by cases hc; exact q_324
theorem q_325 : Cond.fieldLink "ColourWorks" 32 "ColourWorks" "batches" "[LColourWorks$Batch;" ∈ gw := gw_at 325 (by decide +kernel) (by decide +kernel)
theorem f_X9_32 : FL RX9 32 9 3 (tyX9 3) true := ⟨RX9, TX9, 12, rfl, by decide, inX9, rfl, rfl, tyX9_ok 3 (by decide), ⟨tyX9, tyX9_ok⟩, nmX9, Or.inl q_325⟩
theorem ff_X9_32 : ∀ (T : u_T) (N : Nat), vwCl[9]? = some (RX9, T, N) → Cond.fieldLink RX9 32 RX9 (T 3).2.1 (T 3).2.2.1 ∈ gw := fun T N hc => by cases hc; exact q_325
theorem q_326 : Cond.fieldLink "ColourWorks" 36 "ColourWorks" "batchCount" "I" ∈ gw := gw_at 326 (by decide +kernel) (by decide +kernel)
theorem f_X9_36 : FL RX9 36 9 4 (tyX9 4) false := ⟨RX9, TX9, 12, rfl, by decide, inX9, rfl, rfl, tyX9_ok 4 (by decide), ⟨tyX9, tyX9_ok⟩, nmX9, Or.inl q_326⟩
theorem q_327 : Cond.fieldLink "ColourWorks" 43 "ColourWorks" "search" "LColourWorks$DropSearch;" ∈ gw := gw_at 327 (by decide +kernel) (by decide +kernel)
theorem f_X9_43 : FL RX9 43 9 5 (tyX9 5) true := ⟨RX9, TX9, 12, rfl, by decide, inX9, rfl, rfl, tyX9_ok 5 (by decide), ⟨tyX9, tyX9_ok⟩, nmX9, Or.inl q_327⟩
theorem ff_X9_43 : ∀ (T : u_T) (N : Nat), vwCl[9]? = some (RX9, T, N) → Cond.fieldLink RX9 43 RX9 (T 5).2.1 (T 5).2.2.1 ∈ gw := fun T N hc => by cases hc; exact q_327
theorem q_328 : Cond.fieldLink "ColourWorks" 49 "ColourWorks" "tanks" "[LColourWorks$Tank;" ∈ gw := gw_at 328 (by decide +kernel) (by decide +kernel)
theorem f_X9_49 : FL RX9 49 9 6 (tyX9 6) true := ⟨RX9, TX9, 12, rfl, by decide, inX9, rfl, rfl, tyX9_ok 6 (by decide), ⟨tyX9, tyX9_ok⟩, nmX9, Or.inl q_328⟩
theorem ff_X9_49 : ∀ (T : u_T) (N : Nat), vwCl[9]? = some (RX9, T, N) → Cond.fieldLink RX9 49 RX9 (T 6).2.1 (T 6).2.2.1 ∈ gw := fun T N hc => by cases hc; exact q_328
theorem q_329 : Cond.fieldLink "ColourWorks" 56 "ColourWorks" "yard" "LColourWorks$DrumYard;" ∈ gw := gw_at 329 (by decide +kernel) (by decide +kernel)
theorem f_X9_56 : FL RX9 56 9 7 (tyX9 7) true := ⟨RX9, TX9, 12, rfl, by decide, inX9, rfl, rfl, tyX9_ok 7 (by decide), ⟨tyX9, tyX9_ok⟩, nmX9, Or.inl q_329⟩
theorem ff_X9_56 : ∀ (T : u_T) (N : Nat), vwCl[9]? = some (RX9, T, N) → Cond.fieldLink RX9 56 RX9 (T 7).2.1 (T 7).2.2.1 ∈ gw := fun T N hc => by cases hc; exact q_329
theorem q_330 : Cond.fieldLink "ColourWorks" 63 "ColourWorks" "schedule" "LColourWorks$Schedule;" ∈ gw := gw_at 330 (by decide +kernel) (by decide +kernel)
theorem f_X9_63 : FL RX9 63 9 8 (tyX9 8) true := ⟨RX9, TX9, 12, rfl, by decide, inX9, rfl, rfl, tyX9_ok 8 (by decide), ⟨tyX9, tyX9_ok⟩, nmX9, Or.inl q_330⟩
theorem ff_X9_63 : ∀ (T : u_T) (N : Nat), vwCl[9]? = some (RX9, T, N) → Cond.fieldLink RX9 63 RX9 (T 8).2.1 (T 8).2.2.1 ∈ gw := fun T N hc => by cases hc; exact q_330
theorem q_331 : Cond.fieldLink "ColourWorks" 67 "ColourWorks" "wanted" "[I" ∈ gw := gw_at 331 (by decide +kernel) (by decide +kernel)
theorem f_X9_67 : FL RX9 67 9 9 (tyX9 9) true := ⟨RX9, TX9, 12, rfl, by decide, inX9, rfl, rfl, tyX9_ok 9 (by decide), ⟨tyX9, tyX9_ok⟩, nmX9, Or.inl q_331⟩
theorem ff_X9_67 : ∀ (T : u_T) (N : Nat), vwCl[9]? = some (RX9, T, N) → Cond.fieldLink RX9 67 RX9 (T 9).2.1 (T 9).2.2.1 ∈ gw := fun T N hc => by cases hc; exact q_331
theorem q_332 : Cond.fieldLink "ColourWorks" 71 "ColourWorks" "greatestGap" "I" ∈ gw := gw_at 332 (by decide +kernel) (by decide +kernel)
theorem f_X9_71 : FL RX9 71 9 10 (tyX9 10) false := ⟨RX9, TX9, 12, rfl, by decide, inX9, rfl, rfl, tyX9_ok 10 (by decide), ⟨tyX9, tyX9_ok⟩, nmX9, Or.inl q_332⟩
theorem q_333 : Cond.fieldLink "ColourWorks" 74 "ColourWorks" "stainsCleaned" "I" ∈ gw := gw_at 333 (by decide +kernel) (by decide +kernel)
theorem f_X9_74 : FL RX9 74 9 11 (tyX9 11) false := ⟨RX9, TX9, 12, rfl, by decide, inX9, rfl, rfl, tyX9_ok 11 (by decide), ⟨tyX9, tyX9_ok⟩, nmX9, Or.inl q_333⟩
theorem q_785 : Cond.fieldLink "ColourWorksModel" 147 "ColourWorksModel" "day" "I" ∈ gw := gw_at 785 (by decide +kernel) (by decide +kernel)
theorem f_X10_147 : FL RX10 147 10 0 (tyX10 0) false := ⟨RX10, TX10, 49, rfl, by decide, inX10, rfl, rfl, tyX10_ok 0 (by decide), ⟨tyX10, tyX10_ok⟩, nmX10, Or.inl q_785⟩
theorem q_786 : Cond.fieldLink "ColourWorksModel" 130 "ColourWorksModel" "bases" "I" ∈ gw := gw_at 786 (by decide +kernel) (by decide +kernel)
theorem f_X10_130 : FL RX10 130 10 1 (tyX10 1) false := ⟨RX10, TX10, 49, rfl, by decide, inX10, rfl, rfl, tyX10_ok 1 (by decide), ⟨tyX10, tyX10_ok⟩, nmX10, Or.inl q_786⟩
theorem q_787 : Cond.fieldLink "ColourWorksModel" 7 "ColourWorksModel" "absorb" "[I" ∈ gw := gw_at 787 (by decide +kernel) (by decide +kernel)
theorem f_X10_7 : FL RX10 7 10 2 (tyX10 2) true := ⟨RX10, TX10, 49, rfl, by decide, inX10, rfl, rfl, tyX10_ok 2 (by decide), ⟨tyX10, tyX10_ok⟩, nmX10, Or.inl q_787⟩
theorem ff_X10_7 : ∀ (T : u_T) (N : Nat), vwCl[10]? = some (RX10, T, N) → Cond.fieldLink RX10 7 RX10 (T 2).2.1 (T 2).2.2.1 ∈ gw := fun T N hc => by cases hc; exact q_787
theorem q_788 : Cond.fieldLink "ColourWorksModel" 13 "ColourWorksModel" "scatter" "[I" ∈ gw := gw_at 788 (by decide +kernel) (by decide +kernel)
theorem f_X10_13 : FL RX10 13 10 3 (tyX10 3) true := ⟨RX10, TX10, 49, rfl, by decide, inX10, rfl, rfl, tyX10_ok 3 (by decide), ⟨tyX10, tyX10_ok⟩, nmX10, Or.inl q_788⟩
theorem ff_X10_13 : ∀ (T : u_T) (N : Nat), vwCl[10]? = some (RX10, T, N) → Cond.fieldLink RX10 13 RX10 (T 3).2.1 (T 3).2.2.1 ∈ gw := fun T N hc => by cases hc; exact q_788
theorem q_789 : Cond.fieldLink "ColourWorksModel" 144 "ColourWorksModel" "lots" "I" ∈ gw := gw_at 789 (by decide +kernel) (by decide +kernel)
theorem f_X10_144 : FL RX10 144 10 4 (tyX10 4) false := ⟨RX10, TX10, 49, rfl, by decide, inX10, rfl, rfl, tyX10_ok 4 (by decide), ⟨tyX10, tyX10_ok⟩, nmX10, Or.inl q_789⟩
theorem q_790 : Cond.fieldLink "ColourWorksModel" 16 "ColourWorksModel" "lotBase" "[I" ∈ gw := gw_at 790 (by decide +kernel) (by decide +kernel)
theorem f_X10_16 : FL RX10 16 10 5 (tyX10 5) true := ⟨RX10, TX10, 49, rfl, by decide, inX10, rfl, rfl, tyX10_ok 5 (by decide), ⟨tyX10, tyX10_ok⟩, nmX10, Or.inl q_790⟩
theorem ff_X10_16 : ∀ (T : u_T) (N : Nat), vwCl[10]? = some (RX10, T, N) → Cond.fieldLink RX10 16 RX10 (T 5).2.1 (T 5).2.2.1 ∈ gw := fun T N hc => by cases hc; exact q_790
theorem q_791 : Cond.fieldLink "ColourWorksModel" 19 "ColourWorksModel" "lotLeft" "[I" ∈ gw := gw_at 791 (by decide +kernel) (by decide +kernel)
theorem f_X10_19 : FL RX10 19 10 6 (tyX10 6) true := ⟨RX10, TX10, 49, rfl, by decide, inX10, rfl, rfl, tyX10_ok 6 (by decide), ⟨tyX10, tyX10_ok⟩, nmX10, Or.inl q_791⟩
theorem ff_X10_19 : ∀ (T : u_T) (N : Nat), vwCl[10]? = some (RX10, T, N) → Cond.fieldLink RX10 19 RX10 (T 6).2.1 (T 6).2.2.1 ∈ gw := fun T N hc => by cases hc; exact q_791
theorem q_792 : Cond.fieldLink "ColourWorksModel" 22 "ColourWorksModel" "lotLast" "[I" ∈ gw := gw_at 792 (by decide +kernel) (by decide +kernel)
theorem f_X10_22 : FL RX10 22 10 7 (tyX10 7) true := ⟨RX10, TX10, 49, rfl, by decide, inX10, rfl, rfl, tyX10_ok 7 (by decide), ⟨tyX10, tyX10_ok⟩, nmX10, Or.inl q_792⟩
theorem ff_X10_22 : ∀ (T : u_T) (N : Nat), vwCl[10]? = some (RX10, T, N) → Cond.fieldLink RX10 22 RX10 (T 7).2.1 (T 7).2.2.1 ∈ gw := fun T N hc => by cases hc; exact q_792
theorem q_793 : Cond.fieldLink "ColourWorksModel" 158 "ColourWorksModel" "recipes" "I" ∈ gw := gw_at 793 (by decide +kernel) (by decide +kernel)
theorem f_X10_158 : FL RX10 158 10 8 (tyX10 8) false := ⟨RX10, TX10, 49, rfl, by decide, inX10, rfl, rfl, tyX10_ok 8 (by decide), ⟨tyX10, tyX10_ok⟩, nmX10, Or.inl q_793⟩
theorem q_794 : Cond.fieldLink "ColourWorksModel" 25 "ColourWorksModel" "parts" "[I" ∈ gw := gw_at 794 (by decide +kernel) (by decide +kernel)
theorem f_X10_25 : FL RX10 25 10 9 (tyX10 9) true := ⟨RX10, TX10, 49, rfl, by decide, inX10, rfl, rfl, tyX10_ok 9 (by decide), ⟨tyX10, tyX10_ok⟩, nmX10, Or.inl q_794⟩
theorem ff_X10_25 : ∀ (T : u_T) (N : Nat), vwCl[10]? = some (RX10, T, N) → Cond.fieldLink RX10 25 RX10 (T 9).2.1 (T 9).2.2.1 ∈ gw := fun T N hc => by cases hc; exact q_794
theorem q_795 : Cond.fieldLink "ColourWorksModel" 28 "ColourWorksModel" "isElder" "[Z" ∈ gw := gw_at 795 (by decide +kernel) (by decide +kernel)
theorem f_X10_28 : FL RX10 28 10 10 (tyX10 10) true := ⟨RX10, TX10, 49, rfl, by decide, inX10, rfl, rfl, tyX10_ok 10 (by decide), ⟨tyX10, tyX10_ok⟩, nmX10, Or.inl q_795⟩
theorem ff_X10_28 : ∀ (T : u_T) (N : Nat), vwCl[10]? = some (RX10, T, N) → Cond.fieldLink RX10 28 RX10 (T 10).2.1 (T 10).2.2.1 ∈ gw := fun T N hc => by cases hc; exact q_795
theorem q_796 : Cond.fieldLink "ColourWorksModel" 32 "ColourWorksModel" "partOf" "[I" ∈ gw := gw_at 796 (by decide +kernel) (by decide +kernel)
theorem f_X10_32 : FL RX10 32 10 11 (tyX10 11) true := ⟨RX10, TX10, 49, rfl, by decide, inX10, rfl, rfl, tyX10_ok 11 (by decide), ⟨tyX10, tyX10_ok⟩, nmX10, Or.inl q_796⟩
theorem ff_X10_32 : ∀ (T : u_T) (N : Nat), vwCl[10]? = some (RX10, T, N) → Cond.fieldLink RX10 32 RX10 (T 11).2.1 (T 11).2.2.1 ∈ gw := fun T N hc => by cases hc; exact q_796
theorem q_797 : Cond.fieldLink "ColourWorksModel" 35 "ColourWorksModel" "partTimes" "[I" ∈ gw := gw_at 797 (by decide +kernel) (by decide +kernel)
theorem f_X10_35 : FL RX10 35 10 12 (tyX10 12) true := ⟨RX10, TX10, 49, rfl, by decide, inX10, rfl, rfl, tyX10_ok 12 (by decide), ⟨tyX10, tyX10_ok⟩, nmX10, Or.inl q_797⟩
theorem ff_X10_35 : ∀ (T : u_T) (N : Nat), vwCl[10]? = some (RX10, T, N) → Cond.fieldLink RX10 35 RX10 (T 12).2.1 (T 12).2.2.1 ∈ gw := fun T N hc => by cases hc; exact q_797
theorem q_798 : Cond.fieldLink "ColourWorksModel" 38 "ColourWorksModel" "needs" "[I" ∈ gw := gw_at 798 (by decide +kernel) (by decide +kernel)
theorem f_X10_38 : FL RX10 38 10 13 (tyX10 13) true := ⟨RX10, TX10, 49, rfl, by decide, inX10, rfl, rfl, tyX10_ok 13 (by decide), ⟨tyX10, tyX10_ok⟩, nmX10, Or.inl q_798⟩
theorem ff_X10_38 : ∀ (T : u_T) (N : Nat), vwCl[10]? = some (RX10, T, N) → Cond.fieldLink RX10 38 RX10 (T 13).2.1 (T 13).2.2.1 ∈ gw := fun T N hc => by cases hc; exact q_798
theorem q_799 : Cond.fieldLink "ColourWorksModel" 41 "ColourWorksModel" "tryNeeds" "[I" ∈ gw := gw_at 799 (by decide +kernel) (by decide +kernel)
theorem f_X10_41 : FL RX10 41 10 14 (tyX10 14) true := ⟨RX10, TX10, 49, rfl, by decide, inX10, rfl, rfl, tyX10_ok 14 (by decide), ⟨tyX10, tyX10_ok⟩, nmX10, Or.inl q_799⟩
theorem ff_X10_41 : ∀ (T : u_T) (N : Nat), vwCl[10]? = some (RX10, T, N) → Cond.fieldLink RX10 41 RX10 (T 14).2.1 (T 14).2.2.1 ∈ gw := fun T N hc => by cases hc; exact q_799
theorem q_800 : Cond.fieldLink "ColourWorksModel" 137 "ColourWorksModel" "batches" "I" ∈ gw := gw_at 800 (by decide +kernel) (by decide +kernel)
theorem f_X10_137 : FL RX10 137 10 15 (tyX10 15) false := ⟨RX10, TX10, 49, rfl, by decide, inX10, rfl, rfl, tyX10_ok 15 (by decide), ⟨tyX10, tyX10_ok⟩, nmX10, Or.inl q_800⟩
theorem q_801 : Cond.fieldLink "ColourWorksModel" 44 "ColourWorksModel" "amounts" "[I" ∈ gw := gw_at 801 (by decide +kernel) (by decide +kernel)
theorem f_X10_44 : FL RX10 44 10 16 (tyX10 16) true := ⟨RX10, TX10, 49, rfl, by decide, inX10, rfl, rfl, tyX10_ok 16 (by decide), ⟨tyX10, tyX10_ok⟩, nmX10, Or.inl q_801⟩
theorem ff_X10_44 : ∀ (T : u_T) (N : Nat), vwCl[10]? = some (RX10, T, N) → Cond.fieldLink RX10 44 RX10 (T 16).2.1 (T 16).2.2.1 ∈ gw := fun T N hc => by cases hc; exact q_801
theorem q_802 : Cond.fieldLink "ColourWorksModel" 47 "ColourWorksModel" "batchLots" "[J" ∈ gw := gw_at 802 (by decide +kernel) (by decide +kernel)
theorem f_X10_47 : FL RX10 47 10 17 (tyX10 17) true := ⟨RX10, TX10, 49, rfl, by decide, inX10, rfl, rfl, tyX10_ok 17 (by decide), ⟨tyX10, tyX10_ok⟩, nmX10, Or.inl q_802⟩
theorem ff_X10_47 : ∀ (T : u_T) (N : Nat), vwCl[10]? = some (RX10, T, N) → Cond.fieldLink RX10 47 RX10 (T 17).2.1 (T 17).2.2.1 ∈ gw := fun T N hc => by cases hc; exact q_802
theorem q_803 : Cond.fieldLink "ColourWorksModel" 51 "ColourWorksModel" "isPoured" "[Z" ∈ gw := gw_at 803 (by decide +kernel) (by decide +kernel)
theorem f_X10_51 : FL RX10 51 10 18 (tyX10 18) true := ⟨RX10, TX10, 49, rfl, by decide, inX10, rfl, rfl, tyX10_ok 18 (by decide), ⟨tyX10, tyX10_ok⟩, nmX10, Or.inl q_803⟩
theorem ff_X10_51 : ∀ (T : u_T) (N : Nat), vwCl[10]? = some (RX10, T, N) → Cond.fieldLink RX10 51 RX10 (T 18).2.1 (T 18).2.2.1 ∈ gw := fun T N hc => by cases hc; exact q_803
theorem q_804 : Cond.fieldLink "ColourWorksModel" 195 "ColourWorksModel" "hasDrops" "Z" ∈ gw := gw_at 804 (by decide +kernel) (by decide +kernel)
theorem f_X10_195 : FL RX10 195 10 19 (tyX10 19) false := ⟨RX10, TX10, 49, rfl, by decide, inX10, rfl, rfl, tyX10_ok 19 (by decide), ⟨tyX10, tyX10_ok⟩, nmX10, Or.inl q_804⟩
theorem q_805 : Cond.fieldLink "ColourWorksModel" 54 "ColourWorksModel" "drops" "[I" ∈ gw := gw_at 805 (by decide +kernel) (by decide +kernel)
theorem f_X10_54 : FL RX10 54 10 20 (tyX10 20) true := ⟨RX10, TX10, 49, rfl, by decide, inX10, rfl, rfl, tyX10_ok 20 (by decide), ⟨tyX10, tyX10_ok⟩, nmX10, Or.inl q_805⟩
theorem ff_X10_54 : ∀ (T : u_T) (N : Nat), vwCl[10]? = some (RX10, T, N) → Cond.fieldLink RX10 54 RX10 (T 20).2.1 (T 20).2.2.1 ∈ gw := fun T N hc => by cases hc; exact q_805
theorem q_806 : Cond.fieldLink "ColourWorksModel" 57 "ColourWorksModel" "tryDrops" "[I" ∈ gw := gw_at 806 (by decide +kernel) (by decide +kernel)
theorem f_X10_57 : FL RX10 57 10 21 (tyX10 21) true := ⟨RX10, TX10, 49, rfl, by decide, inX10, rfl, rfl, tyX10_ok 21 (by decide), ⟨tyX10, tyX10_ok⟩, nmX10, Or.inl q_806⟩
theorem ff_X10_57 : ∀ (T : u_T) (N : Nat), vwCl[10]? = some (RX10, T, N) → Cond.fieldLink RX10 57 RX10 (T 21).2.1 (T 21).2.2.1 ∈ gw := fun T N hc => by cases hc; exact q_806
theorem q_807 : Cond.fieldLink "ColourWorksModel" 60 "ColourWorksModel" "room" "[I" ∈ gw := gw_at 807 (by decide +kernel) (by decide +kernel)
theorem f_X10_60 : FL RX10 60 10 22 (tyX10 22) true := ⟨RX10, TX10, 49, rfl, by decide, inX10, rfl, rfl, tyX10_ok 22 (by decide), ⟨tyX10, tyX10_ok⟩, nmX10, Or.inl q_807⟩
theorem ff_X10_60 : ∀ (T : u_T) (N : Nat), vwCl[10]? = some (RX10, T, N) → Cond.fieldLink RX10 60 RX10 (T 22).2.1 (T 22).2.2.1 ∈ gw := fun T N hc => by cases hc; exact q_807
theorem q_808 : Cond.fieldLink "ColourWorksModel" 63 "ColourWorksModel" "held" "[I" ∈ gw := gw_at 808 (by decide +kernel) (by decide +kernel)
theorem f_X10_63 : FL RX10 63 10 23 (tyX10 23) true := ⟨RX10, TX10, 49, rfl, by decide, inX10, rfl, rfl, tyX10_ok 23 (by decide), ⟨tyX10, tyX10_ok⟩, nmX10, Or.inl q_808⟩
theorem ff_X10_63 : ∀ (T : u_T) (N : Nat), vwCl[10]? = some (RX10, T, N) → Cond.fieldLink RX10 63 RX10 (T 23).2.1 (T 23).2.2.1 ∈ gw := fun T N hc => by cases hc; exact q_808
theorem q_809 : Cond.fieldLink "ColourWorksModel" 66 "ColourWorksModel" "isStained" "[Z" ∈ gw := gw_at 809 (by decide +kernel) (by decide +kernel)
theorem f_X10_66 : FL RX10 66 10 24 (tyX10 24) true := ⟨RX10, TX10, 49, rfl, by decide, inX10, rfl, rfl, tyX10_ok 24 (by decide), ⟨tyX10, tyX10_ok⟩, nmX10, Or.inl q_809⟩
theorem ff_X10_66 : ∀ (T : u_T) (N : Nat), vwCl[10]? = some (RX10, T, N) → Cond.fieldLink RX10 66 RX10 (T 24).2.1 (T 24).2.2.1 ∈ gw := fun T N hc => by cases hc; exact q_809
theorem q_810 : Cond.fieldLink "ColourWorksModel" 69 "ColourWorksModel" "wasDrawn" "[Z" ∈ gw := gw_at 810 (by decide +kernel) (by decide +kernel)
theorem f_X10_69 : FL RX10 69 10 25 (tyX10 25) true := ⟨RX10, TX10, 49, rfl, by decide, inX10, rfl, rfl, tyX10_ok 25 (by decide), ⟨tyX10, tyX10_ok⟩, nmX10, Or.inl q_810⟩
theorem ff_X10_69 : ∀ (T : u_T) (N : Nat), vwCl[10]? = some (RX10, T, N) → Cond.fieldLink RX10 69 RX10 (T 25).2.1 (T 25).2.2.1 ∈ gw := fun T N hc => by cases hc; exact q_810
theorem q_811 : Cond.fieldLink "ColourWorksModel" 72 "ColourWorksModel" "inTank" "[I" ∈ gw := gw_at 811 (by decide +kernel) (by decide +kernel)
theorem f_X10_72 : FL RX10 72 10 26 (tyX10 26) true := ⟨RX10, TX10, 49, rfl, by decide, inX10, rfl, rfl, tyX10_ok 26 (by decide), ⟨tyX10, tyX10_ok⟩, nmX10, Or.inl q_811⟩
theorem ff_X10_72 : ∀ (T : u_T) (N : Nat), vwCl[10]? = some (RX10, T, N) → Cond.fieldLink RX10 72 RX10 (T 26).2.1 (T 26).2.2.1 ∈ gw := fun T N hc => by cases hc; exact q_811
theorem q_812 : Cond.fieldLink "ColourWorksModel" 75 "ColourWorksModel" "tankLots" "[J" ∈ gw := gw_at 812 (by decide +kernel) (by decide +kernel)
theorem f_X10_75 : FL RX10 75 10 27 (tyX10 27) true := ⟨RX10, TX10, 49, rfl, by decide, inX10, rfl, rfl, tyX10_ok 27 (by decide), ⟨tyX10, tyX10_ok⟩, nmX10, Or.inl q_812⟩
theorem ff_X10_75 : ∀ (T : u_T) (N : Nat), vwCl[10]? = some (RX10, T, N) → Cond.fieldLink RX10 75 RX10 (T 27).2.1 (T 27).2.2.1 ∈ gw := fun T N hc => by cases hc; exact q_812
theorem q_813 : Cond.fieldLink "ColourWorksModel" 78 "ColourWorksModel" "tankBatches" "[I" ∈ gw := gw_at 813 (by decide +kernel) (by decide +kernel)
theorem f_X10_78 : FL RX10 78 10 28 (tyX10 28) true := ⟨RX10, TX10, 49, rfl, by decide, inX10, rfl, rfl, tyX10_ok 28 (by decide), ⟨tyX10, tyX10_ok⟩, nmX10, Or.inl q_813⟩
theorem ff_X10_78 : ∀ (T : u_T) (N : Nat), vwCl[10]? = some (RX10, T, N) → Cond.fieldLink RX10 78 RX10 (T 28).2.1 (T 28).2.2.1 ∈ gw := fun T N hc => by cases hc; exact q_813
theorem q_814 : Cond.fieldLink "ColourWorksModel" 81 "ColourWorksModel" "stains" "[I" ∈ gw := gw_at 814 (by decide +kernel) (by decide +kernel)
theorem f_X10_81 : FL RX10 81 10 29 (tyX10 29) true := ⟨RX10, TX10, 49, rfl, by decide, inX10, rfl, rfl, tyX10_ok 29 (by decide), ⟨tyX10, tyX10_ok⟩, nmX10, Or.inl q_814⟩
theorem ff_X10_81 : ∀ (T : u_T) (N : Nat), vwCl[10]? = some (RX10, T, N) → Cond.fieldLink RX10 81 RX10 (T 29).2.1 (T 29).2.2.1 ∈ gw := fun T N hc => by cases hc; exact q_814
theorem q_815 : Cond.fieldLink "ColourWorksModel" 84 "ColourWorksModel" "limit" "I" ∈ gw := gw_at 815 (by decide +kernel) (by decide +kernel)
theorem f_X10_84 : FL RX10 84 10 30 (tyX10 30) false := ⟨RX10, TX10, 49, rfl, by decide, inX10, rfl, rfl, tyX10_ok 30 (by decide), ⟨tyX10, tyX10_ok⟩, nmX10, Or.inl q_815⟩
theorem q_816 : Cond.fieldLink "ColourWorksModel" 209 "ColourWorksModel" "drums" "I" ∈ gw := gw_at 816 (by decide +kernel) (by decide +kernel)
theorem f_X10_209 : FL RX10 209 10 31 (tyX10 31) false := ⟨RX10, TX10, 49, rfl, by decide, inX10, rfl, rfl, tyX10_ok 31 (by decide), ⟨tyX10, tyX10_ok⟩, nmX10, Or.inl q_816⟩
theorem q_817 : Cond.fieldLink "ColourWorksModel" 88 "ColourWorksModel" "drumUnits" "[I" ∈ gw := gw_at 817 (by decide +kernel) (by decide +kernel)
theorem f_X10_88 : FL RX10 88 10 32 (tyX10 32) true := ⟨RX10, TX10, 49, rfl, by decide, inX10, rfl, rfl, tyX10_ok 32 (by decide), ⟨tyX10, tyX10_ok⟩, nmX10, Or.inl q_817⟩
theorem ff_X10_88 : ∀ (T : u_T) (N : Nat), vwCl[10]? = some (RX10, T, N) → Cond.fieldLink RX10 88 RX10 (T 32).2.1 (T 32).2.2.1 ∈ gw := fun T N hc => by cases hc; exact q_817
theorem q_818 : Cond.fieldLink "ColourWorksModel" 91 "ColourWorksModel" "drumTank" "[I" ∈ gw := gw_at 818 (by decide +kernel) (by decide +kernel)
theorem f_X10_91 : FL RX10 91 10 33 (tyX10 33) true := ⟨RX10, TX10, 49, rfl, by decide, inX10, rfl, rfl, tyX10_ok 33 (by decide), ⟨tyX10, tyX10_ok⟩, nmX10, Or.inl q_818⟩
theorem ff_X10_91 : ∀ (T : u_T) (N : Nat), vwCl[10]? = some (RX10, T, N) → Cond.fieldLink RX10 91 RX10 (T 33).2.1 (T 33).2.2.1 ∈ gw := fun T N hc => by cases hc; exact q_818
theorem q_819 : Cond.fieldLink "ColourWorksModel" 94 "ColourWorksModel" "drumDay" "[I" ∈ gw := gw_at 819 (by decide +kernel) (by decide +kernel)
theorem f_X10_94 : FL RX10 94 10 34 (tyX10 34) true := ⟨RX10, TX10, 49, rfl, by decide, inX10, rfl, rfl, tyX10_ok 34 (by decide), ⟨tyX10, tyX10_ok⟩, nmX10, Or.inl q_819⟩
theorem ff_X10_94 : ∀ (T : u_T) (N : Nat), vwCl[10]? = some (RX10, T, N) → Cond.fieldLink RX10 94 RX10 (T 34).2.1 (T 34).2.2.1 ∈ gw := fun T N hc => by cases hc; exact q_819
theorem q_820 : Cond.fieldLink "ColourWorksModel" 97 "ColourWorksModel" "drumLots" "[J" ∈ gw := gw_at 820 (by decide +kernel) (by decide +kernel)
theorem f_X10_97 : FL RX10 97 10 35 (tyX10 35) true := ⟨RX10, TX10, 49, rfl, by decide, inX10, rfl, rfl, tyX10_ok 35 (by decide), ⟨tyX10, tyX10_ok⟩, nmX10, Or.inl q_820⟩
theorem ff_X10_97 : ∀ (T : u_T) (N : Nat), vwCl[10]? = some (RX10, T, N) → Cond.fieldLink RX10 97 RX10 (T 35).2.1 (T 35).2.2.1 ∈ gw := fun T N hc => by cases hc; exact q_820
theorem q_821 : Cond.fieldLink "ColourWorksModel" 100 "ColourWorksModel" "drumBatches" "[I" ∈ gw := gw_at 821 (by decide +kernel) (by decide +kernel)
theorem f_X10_100 : FL RX10 100 10 36 (tyX10 36) true := ⟨RX10, TX10, 49, rfl, by decide, inX10, rfl, rfl, tyX10_ok 36 (by decide), ⟨tyX10, tyX10_ok⟩, nmX10, Or.inl q_821⟩
theorem ff_X10_100 : ∀ (T : u_T) (N : Nat), vwCl[10]? = some (RX10, T, N) → Cond.fieldLink RX10 100 RX10 (T 36).2.1 (T 36).2.2.1 ∈ gw := fun T N hc => by cases hc; exact q_821
theorem q_822 : Cond.fieldLink "ColourWorksModel" 206 "ColourWorksModel" "cleaned" "I" ∈ gw := gw_at 822 (by decide +kernel) (by decide +kernel)
theorem f_X10_206 : FL RX10 206 10 37 (tyX10 37) false := ⟨RX10, TX10, 49, rfl, by decide, inX10, rfl, rfl, tyX10_ok 37 (by decide), ⟨tyX10, tyX10_ok⟩, nmX10, Or.inl q_822⟩
theorem q_823 : Cond.fieldLink "ColourWorksModel" 219 "ColourWorksModel" "jobs" "I" ∈ gw := gw_at 823 (by decide +kernel) (by decide +kernel)
theorem f_X10_219 : FL RX10 219 10 38 (tyX10 38) false := ⟨RX10, TX10, 49, rfl, by decide, inX10, rfl, rfl, tyX10_ok 38 (by decide), ⟨tyX10, tyX10_ok⟩, nmX10, Or.inl q_823⟩
theorem q_824 : Cond.fieldLink "ColourWorksModel" 103 "ColourWorksModel" "jobHue" "[I" ∈ gw := gw_at 824 (by decide +kernel) (by decide +kernel)
theorem f_X10_103 : FL RX10 103 10 39 (tyX10 39) true := ⟨RX10, TX10, 49, rfl, by decide, inX10, rfl, rfl, tyX10_ok 39 (by decide), ⟨tyX10, tyX10_ok⟩, nmX10, Or.inl q_824⟩
theorem ff_X10_103 : ∀ (T : u_T) (N : Nat), vwCl[10]? = some (RX10, T, N) → Cond.fieldLink RX10 103 RX10 (T 39).2.1 (T 39).2.2.1 ∈ gw := fun T N hc => by cases hc; exact q_824
theorem q_825 : Cond.fieldLink "ColourWorksModel" 106 "ColourWorksModel" "jobTime" "[I" ∈ gw := gw_at 825 (by decide +kernel) (by decide +kernel)
theorem f_X10_106 : FL RX10 106 10 40 (tyX10 40) true := ⟨RX10, TX10, 49, rfl, by decide, inX10, rfl, rfl, tyX10_ok 40 (by decide), ⟨tyX10, tyX10_ok⟩, nmX10, Or.inl q_825⟩
theorem ff_X10_106 : ∀ (T : u_T) (N : Nat), vwCl[10]? = some (RX10, T, N) → Cond.fieldLink RX10 106 RX10 (T 40).2.1 (T 40).2.2.1 ∈ gw := fun T N hc => by cases hc; exact q_825
theorem q_826 : Cond.fieldLink "ColourWorksModel" 109 "ColourWorksModel" "jobDue" "[I" ∈ gw := gw_at 826 (by decide +kernel) (by decide +kernel)
theorem f_X10_109 : FL RX10 109 10 41 (tyX10 41) true := ⟨RX10, TX10, 49, rfl, by decide, inX10, rfl, rfl, tyX10_ok 41 (by decide), ⟨tyX10, tyX10_ok⟩, nmX10, Or.inl q_826⟩
theorem ff_X10_109 : ∀ (T : u_T) (N : Nat), vwCl[10]? = some (RX10, T, N) → Cond.fieldLink RX10 109 RX10 (T 41).2.1 (T 41).2.2.1 ∈ gw := fun T N hc => by cases hc; exact q_826
theorem q_827 : Cond.fieldLink "ColourWorksModel" 112 "ColourWorksModel" "jobPrice" "[I" ∈ gw := gw_at 827 (by decide +kernel) (by decide +kernel)
theorem f_X10_112 : FL RX10 112 10 42 (tyX10 42) true := ⟨RX10, TX10, 49, rfl, by decide, inX10, rfl, rfl, tyX10_ok 42 (by decide), ⟨tyX10, tyX10_ok⟩, nmX10, Or.inl q_827⟩
theorem ff_X10_112 : ∀ (T : u_T) (N : Nat), vwCl[10]? = some (RX10, T, N) → Cond.fieldLink RX10 112 RX10 (T 42).2.1 (T 42).2.2.1 ∈ gw := fun T N hc => by cases hc; exact q_827
theorem q_828 : Cond.fieldLink "ColourWorksModel" 115 "ColourWorksModel" "cleaning" "[I" ∈ gw := gw_at 828 (by decide +kernel) (by decide +kernel)
theorem f_X10_115 : FL RX10 115 10 43 (tyX10 43) true := ⟨RX10, TX10, 49, rfl, by decide, inX10, rfl, rfl, tyX10_ok 43 (by decide), ⟨tyX10, tyX10_ok⟩, nmX10, Or.inl q_828⟩
theorem ff_X10_115 : ∀ (T : u_T) (N : Nat), vwCl[10]? = some (RX10, T, N) → Cond.fieldLink RX10 115 RX10 (T 43).2.1 (T 43).2.2.1 ∈ gw := fun T N hc => by cases hc; exact q_828
theorem q_829 : Cond.fieldLink "ColourWorksModel" 230 "ColourWorksModel" "planned" "I" ∈ gw := gw_at 829 (by decide +kernel) (by decide +kernel)
theorem f_X10_230 : FL RX10 230 10 44 (tyX10 44) false := ⟨RX10, TX10, 49, rfl, by decide, inX10, rfl, rfl, tyX10_ok 44 (by decide), ⟨tyX10, tyX10_ok⟩, nmX10, Or.inl q_829⟩
theorem q_830 : Cond.fieldLink "ColourWorksModel" 118 "ColourWorksModel" "plan" "[I" ∈ gw := gw_at 830 (by decide +kernel) (by decide +kernel)
theorem f_X10_118 : FL RX10 118 10 45 (tyX10 45) true := ⟨RX10, TX10, 49, rfl, by decide, inX10, rfl, rfl, tyX10_ok 45 (by decide), ⟨tyX10, tyX10_ok⟩, nmX10, Or.inl q_830⟩
theorem ff_X10_118 : ∀ (T : u_T) (N : Nat), vwCl[10]? = some (RX10, T, N) → Cond.fieldLink RX10 118 RX10 (T 45).2.1 (T 45).2.2.1 ∈ gw := fun T N hc => by cases hc; exact q_830
theorem q_831 : Cond.fieldLink "ColourWorksModel" 121 "ColourWorksModel" "costs" "[I" ∈ gw := gw_at 831 (by decide +kernel) (by decide +kernel)
theorem f_X10_121 : FL RX10 121 10 46 (tyX10 46) true := ⟨RX10, TX10, 49, rfl, by decide, inX10, rfl, rfl, tyX10_ok 46 (by decide), ⟨tyX10, tyX10_ok⟩, nmX10, Or.inl q_831⟩
theorem ff_X10_121 : ∀ (T : u_T) (N : Nat), vwCl[10]? = some (RX10, T, N) → Cond.fieldLink RX10 121 RX10 (T 46).2.1 (T 46).2.2.1 ∈ gw := fun T N hc => by cases hc; exact q_831
theorem q_832 : Cond.fieldLink "ColourWorksModel" 124 "ColourWorksModel" "nothing" "[I" ∈ gw := gw_at 832 (by decide +kernel) (by decide +kernel)
theorem f_X10_124 : FL RX10 124 10 47 (tyX10 47) true := ⟨RX10, TX10, 49, rfl, by decide, inX10, rfl, rfl, tyX10_ok 47 (by decide), ⟨tyX10, tyX10_ok⟩, nmX10, Or.inl q_832⟩
theorem ff_X10_124 : ∀ (T : u_T) (N : Nat), vwCl[10]? = some (RX10, T, N) → Cond.fieldLink RX10 124 RX10 (T 47).2.1 (T 47).2.2.1 ∈ gw := fun T N hc => by cases hc; exact q_832
theorem q_833 : Cond.fieldLink "ColourWorksModel" 127 "ColourWorksModel" "mayDrop" "[I" ∈ gw := gw_at 833 (by decide +kernel) (by decide +kernel)
theorem f_X10_127 : FL RX10 127 10 48 (tyX10 48) true := ⟨RX10, TX10, 49, rfl, by decide, inX10, rfl, rfl, tyX10_ok 48 (by decide), ⟨tyX10, tyX10_ok⟩, nmX10, Or.inl q_833⟩
theorem ff_X10_127 : ∀ (T : u_T) (N : Nat), vwCl[10]? = some (RX10, T, N) → Cond.fieldLink RX10 127 RX10 (T 48).2.1 (T 48).2.2.1 ∈ gw := fun T N hc => by cases hc; exact q_833
theorem q_50 : Cond.classLink "ColourWorksLaw" 7 "ColourWorks" ∈ gw := gw_at 50 (by decide +kernel) (by decide +kernel)
theorem n_L_7c : Cond.classLink RL 7 "ColourWorks" ∈ gw := q_50
theorem q_51 : Cond.instantiable "ColourWorks" 12 ∈ gw := gw_at 51 (by decide +kernel) (by decide +kernel)
theorem n_L_7 : NL RL 7 9 [.null, .null, .null, .null, .int 0, .null, .null, .null, .null, .null, .int 0, .int 0] 12 := ⟨RX9, TX9, tyX9, rfl, inX9, tyX9_ok, q_50, q_51, q_34, by decide +kernel, fun _ _ => rfl⟩
theorem q_52 : Cond.methodLink "ColourWorksLaw" 9 yX9_init ∈ gw := gw_at 52 (by decide +kernel) (by decide +kernel)
theorem q_53 : Cond.instanceMethod yX9_init ∈ gw := gw_at 53 (by decide +kernel) (by decide +kernel)
theorem l_L_9 : KI RL 9 mX9_init 0 := ⟨⟨k_X9_init, Or.inl q_52, by decide +kernel⟩, q_53, rfl, rfl⟩
theorem q_55 : Cond.methodLink "ColourWorks" 3 objectInit ∈ gw := gw_at 55 (by decide +kernel) (by decide +kernel)
theorem o_X9_3 : Cond.methodLink RX9 3 objectInit ∈ gw := q_55
theorem q_58 : Cond.classLink "ColourWorks" 9 "ColourWorks$Palette" ∈ gw := gw_at 58 (by decide +kernel) (by decide +kernel)
theorem n_X9_9c : Cond.classLink RX9 9 "ColourWorks$Palette" ∈ gw := q_58
theorem q_59 : Cond.instantiable "ColourWorks$Palette" 3 ∈ gw := gw_at 59 (by decide +kernel) (by decide +kernel)
theorem n_X9_9 : NL RX9 9 5 [.null, .null, .int 0] 3 := ⟨RX5, TX5, tyX5, rfl, inX5, tyX5_ok, q_58, q_59, q_35, by decide +kernel, fun _ _ => rfl⟩
theorem z_60 : Cond.methodLinkNest "ColourWorks" 11 yX5_init "ColourWorks" ∈ nw := nw_at 60 (by decide +kernel) (by decide +kernel)
theorem q_61 : Cond.instanceMethod yX5_init ∈ gw := gw_at 61 (by decide +kernel) (by decide +kernel)
theorem l_X9_11 : KI RX9 11 mX5_init 0 := ⟨⟨k_X5_init, Or.inr ⟨"ColourWorks", z_60⟩, by decide +kernel⟩, q_61, rfl, rfl⟩
theorem q_63 : Cond.methodLink "ColourWorks$Palette" 3 objectInit ∈ gw := gw_at 63 (by decide +kernel) (by decide +kernel)
theorem o_X5_3 : Cond.methodLink RX5 3 objectInit ∈ gw := q_63
theorem q_79 : Cond.classLink "ColourWorks" 16 "ColourWorks$Store" ∈ gw := gw_at 79 (by decide +kernel) (by decide +kernel)
theorem n_X9_16c : Cond.classLink RX9 16 "ColourWorks$Store" ∈ gw := q_79
theorem q_80 : Cond.instantiable "ColourWorks$Store" 5 ∈ gw := gw_at 80 (by decide +kernel) (by decide +kernel)
theorem n_X9_16 : NL RX9 16 7 [.null, .null, .null, .int 0, .int 0] 5 := ⟨RX7, TX7, tyX7, rfl, inX7, tyX7_ok, q_79, q_80, q_36, by decide +kernel, fun _ _ => rfl⟩
theorem z_81 : Cond.methodLinkNest "ColourWorks" 18 yX7_init "ColourWorks" ∈ nw := nw_at 81 (by decide +kernel) (by decide +kernel)
theorem q_82 : Cond.instanceMethod yX7_init ∈ gw := gw_at 82 (by decide +kernel) (by decide +kernel)
theorem l_X9_18 : KI RX9 18 mX7_init 0 := ⟨⟨k_X7_init, Or.inr ⟨"ColourWorks", z_81⟩, by decide +kernel⟩, q_82, rfl, rfl⟩
theorem q_84 : Cond.methodLink "ColourWorks$Store" 3 objectInit ∈ gw := gw_at 84 (by decide +kernel) (by decide +kernel)
theorem o_X7_3 : Cond.methodLink RX7 3 objectInit ∈ gw := q_84
theorem q_104 : Cond.classLink "ColourWorks" 23 "ColourWorks$Cookbook" ∈ gw := gw_at 104 (by decide +kernel) (by decide +kernel)
theorem n_X9_23c : Cond.classLink RX9 23 "ColourWorks$Cookbook" ∈ gw := q_104
theorem q_105 : Cond.instantiable "ColourWorks$Cookbook" 7 ∈ gw := gw_at 105 (by decide +kernel) (by decide +kernel)
theorem n_X9_23 : NL RX9 23 1 [.null, .null, .null, .null, .null, .null, .int 0] 7 := ⟨RX1, TX1, tyX1, rfl, inX1, tyX1_ok, q_104, q_105, q_37, by decide +kernel, fun _ _ => rfl⟩
theorem z_106 : Cond.methodLinkNest "ColourWorks" 25 yX1_init "ColourWorks" ∈ nw := nw_at 106 (by decide +kernel) (by decide +kernel)
theorem q_107 : Cond.instanceMethod yX1_init ∈ gw := gw_at 107 (by decide +kernel) (by decide +kernel)
theorem l_X9_25 : KI RX9 25 mX1_init 0 := ⟨⟨k_X1_init, Or.inr ⟨"ColourWorks", z_106⟩, by decide +kernel⟩, q_107, rfl, rfl⟩
theorem q_109 : Cond.methodLink "ColourWorks$Cookbook" 3 objectInit ∈ gw := gw_at 109 (by decide +kernel) (by decide +kernel)
theorem o_X1_3 : Cond.methodLink RX1 3 objectInit ∈ gw := q_109
theorem q_134 : Cond.classLink "ColourWorks" 30 "ColourWorks$Batch" ∈ gw := gw_at 134 (by decide +kernel) (by decide +kernel)
theorem n_X9_30c : Cond.classLink RX9 30 "ColourWorks$Batch" ∈ gw := q_134
theorem q_249 : Cond.instantiable "ColourWorks$Batch" 2 ∈ gw := gw_at 249 (by decide +kernel) (by decide +kernel)
theorem n_X9_30 : NL RX9 30 0 [.null, .int 0] 2 := ⟨RX0, TX0, tyX0, rfl, inX0, tyX0_ok, q_134, q_249, q_41, by decide +kernel, fun _ _ => rfl⟩
theorem q_136 : Cond.classLink "ColourWorks" 40 "ColourWorks$DropSearch" ∈ gw := gw_at 136 (by decide +kernel) (by decide +kernel)
theorem n_X9_40c : Cond.classLink RX9 40 "ColourWorks$DropSearch" ∈ gw := q_136
theorem q_137 : Cond.instantiable "ColourWorks$DropSearch" 11 ∈ gw := gw_at 137 (by decide +kernel) (by decide +kernel)
theorem n_X9_40 : NL RX9 40 2 [.null, .int 0, .int 0, .int 0, .null, .null, .null, .int 0, .int 0, .null, .null] 11 := ⟨RX2, TX2, tyX2, rfl, inX2, tyX2_ok, q_136, q_137, q_38, by decide +kernel, fun _ _ => rfl⟩
theorem z_138 : Cond.methodLinkNest "ColourWorks" 42 yX2_init "ColourWorks" ∈ nw := nw_at 138 (by decide +kernel) (by decide +kernel)
theorem q_139 : Cond.instanceMethod yX2_init ∈ gw := gw_at 139 (by decide +kernel) (by decide +kernel)
theorem l_X9_42 : KI RX9 42 mX2_init 0 := ⟨⟨k_X2_init, Or.inr ⟨"ColourWorks", z_138⟩, by decide +kernel⟩, q_139, rfl, rfl⟩
theorem q_141 : Cond.methodLink "ColourWorks$DropSearch" 3 objectInit ∈ gw := gw_at 141 (by decide +kernel) (by decide +kernel)
theorem o_X2_3 : Cond.methodLink RX2 3 objectInit ∈ gw := q_141
theorem q_179 : Cond.classLink "ColourWorks" 47 "ColourWorks$Tank" ∈ gw := gw_at 179 (by decide +kernel) (by decide +kernel)
theorem n_X9_47c : Cond.classLink RX9 47 "ColourWorks$Tank" ∈ gw := q_179
theorem q_286 : Cond.instantiable "ColourWorks$Tank" 7 ∈ gw := gw_at 286 (by decide +kernel) (by decide +kernel)
theorem n_X9_47 : NL RX9 47 8 [.null, .null, .int 0, .int 0, .int 0, .int 0, .int 0] 7 := ⟨RX8, TX8, tyX8, rfl, inX8, tyX8_ok, q_179, q_286, q_43, by decide +kernel, fun _ _ => rfl⟩
theorem q_181 : Cond.classLink "ColourWorks" 53 "ColourWorks$DrumYard" ∈ gw := gw_at 181 (by decide +kernel) (by decide +kernel)
theorem n_X9_53c : Cond.classLink RX9 53 "ColourWorks$DrumYard" ∈ gw := q_181
theorem q_182 : Cond.instantiable "ColourWorks$DrumYard" 6 ∈ gw := gw_at 182 (by decide +kernel) (by decide +kernel)
theorem n_X9_53 : NL RX9 53 3 [.null, .null, .null, .null, .null, .int 0] 6 := ⟨RX3, TX3, tyX3, rfl, inX3, tyX3_ok, q_181, q_182, q_39, by decide +kernel, fun _ _ => rfl⟩
theorem z_183 : Cond.methodLinkNest "ColourWorks" 55 yX3_init "ColourWorks" ∈ nw := nw_at 183 (by decide +kernel) (by decide +kernel)
theorem q_184 : Cond.instanceMethod yX3_init ∈ gw := gw_at 184 (by decide +kernel) (by decide +kernel)
theorem l_X9_55 : KI RX9 55 mX3_init 0 := ⟨⟨k_X3_init, Or.inr ⟨"ColourWorks", z_183⟩, by decide +kernel⟩, q_184, rfl, rfl⟩
theorem q_186 : Cond.methodLink "ColourWorks$DrumYard" 3 objectInit ∈ gw := gw_at 186 (by decide +kernel) (by decide +kernel)
theorem o_X3_3 : Cond.methodLink RX3 3 objectInit ∈ gw := q_186
theorem q_212 : Cond.classLink "ColourWorks" 60 "ColourWorks$Schedule" ∈ gw := gw_at 212 (by decide +kernel) (by decide +kernel)
theorem n_X9_60c : Cond.classLink RX9 60 "ColourWorks$Schedule" ∈ gw := q_212
theorem q_213 : Cond.instantiable "ColourWorks$Schedule" 9 ∈ gw := gw_at 213 (by decide +kernel) (by decide +kernel)
theorem n_X9_60 : NL RX9 60 6 [.null, .null, .null, .null, .int 0, .null, .null, .null, .int 0] 9 := ⟨RX6, TX6, tyX6, rfl, inX6, tyX6_ok, q_212, q_213, q_40, by decide +kernel, fun _ _ => rfl⟩
theorem z_214 : Cond.methodLinkNest "ColourWorks" 62 yX6_init "ColourWorks" ∈ nw := nw_at 214 (by decide +kernel) (by decide +kernel)
theorem q_215 : Cond.instanceMethod yX6_init ∈ gw := gw_at 215 (by decide +kernel) (by decide +kernel)
theorem l_X9_62 : KI RX9 62 mX6_init 0 := ⟨⟨k_X6_init, Or.inr ⟨"ColourWorks", z_214⟩, by decide +kernel⟩, q_215, rfl, rfl⟩
theorem q_217 : Cond.methodLink "ColourWorks$Schedule" 3 objectInit ∈ gw := gw_at 217 (by decide +kernel) (by decide +kernel)
theorem o_X6_3 : Cond.methodLink RX6 3 objectInit ∈ gw := q_217
theorem z_250 : Cond.methodLinkNest "ColourWorks" 77 yX0_init "ColourWorks" ∈ nw := nw_at 250 (by decide +kernel) (by decide +kernel)
theorem q_251 : Cond.instanceMethod yX0_init ∈ gw := gw_at 251 (by decide +kernel) (by decide +kernel)
theorem l_X9_77 : KI RX9 77 mX0_init 0 := ⟨⟨k_X0_init, Or.inr ⟨"ColourWorks", z_250⟩, by decide +kernel⟩, q_251, rfl, rfl⟩
theorem q_253 : Cond.methodLink "ColourWorks$Batch" 1 objectInit ∈ gw := gw_at 253 (by decide +kernel) (by decide +kernel)
theorem o_X0_1 : Cond.methodLink RX0 1 objectInit ∈ gw := q_253
theorem q_254 : Cond.classLink "ColourWorks$Batch" 7 "ColourWorks$Mix" ∈ gw := gw_at 254 (by decide +kernel) (by decide +kernel)
theorem n_X0_7c : Cond.classLink RX0 7 "ColourWorks$Mix" ∈ gw := q_254
theorem q_255 : Cond.instantiable "ColourWorks$Mix" 3 ∈ gw := gw_at 255 (by decide +kernel) (by decide +kernel)
theorem n_X0_7 : NL RX0 7 4 [.null, .int 0, .long 0] 3 := ⟨RX4, TX4, tyX4, rfl, inX4, tyX4_ok, q_254, q_255, q_42, by decide +kernel, fun _ _ => rfl⟩
theorem z_256 : Cond.methodLinkNest "ColourWorks$Batch" 9 yX4_init "ColourWorks" ∈ nw := nw_at 256 (by decide +kernel) (by decide +kernel)
theorem q_257 : Cond.instanceMethod yX4_init ∈ gw := gw_at 257 (by decide +kernel) (by decide +kernel)
theorem l_X0_9 : KI RX0 9 mX4_init 0 := ⟨⟨k_X4_init, Or.inr ⟨"ColourWorks", z_256⟩, by decide +kernel⟩, q_257, rfl, rfl⟩
theorem q_259 : Cond.methodLink "ColourWorks$Mix" 3 objectInit ∈ gw := gw_at 259 (by decide +kernel) (by decide +kernel)
theorem o_X4_3 : Cond.methodLink RX4 3 objectInit ∈ gw := q_259
theorem z_287 : Cond.methodLinkNest "ColourWorks" 78 yX8_init "ColourWorks" ∈ nw := nw_at 287 (by decide +kernel) (by decide +kernel)
theorem q_288 : Cond.instanceMethod yX8_init ∈ gw := gw_at 288 (by decide +kernel) (by decide +kernel)
theorem l_X9_78 : KI RX9 78 mX8_init 0 := ⟨⟨k_X8_init, Or.inr ⟨"ColourWorks", z_287⟩, by decide +kernel⟩, q_288, rfl, rfl⟩
theorem q_290 : Cond.methodLink "ColourWorks$Tank" 3 objectInit ∈ gw := gw_at 290 (by decide +kernel) (by decide +kernel)
theorem o_X8_3 : Cond.methodLink RX8 3 objectInit ∈ gw := q_290
theorem q_291 : Cond.classLink "ColourWorks$Tank" 9 "ColourWorks$Mix" ∈ gw := gw_at 291 (by decide +kernel) (by decide +kernel)
theorem n_X8_9c : Cond.classLink RX8 9 "ColourWorks$Mix" ∈ gw := q_291
theorem n_X8_9 : NL RX8 9 4 [.null, .int 0, .long 0] 3 := ⟨RX4, TX4, tyX4, rfl, inX4, tyX4_ok, q_291, q_255, q_42, by decide +kernel, fun _ _ => rfl⟩
theorem z_292 : Cond.methodLinkNest "ColourWorks$Tank" 11 yX4_init "ColourWorks" ∈ nw := nw_at 292 (by decide +kernel) (by decide +kernel)
theorem l_X8_11 : KI RX8 11 mX4_init 0 := ⟨⟨k_X4_init, Or.inr ⟨"ColourWorks", z_292⟩, by decide +kernel⟩, q_257, rfl, rfl⟩
theorem q_359 : Cond.methodLink "ColourWorksLaw" 13 yX9_base ∈ gw := gw_at 359 (by decide +kernel) (by decide +kernel)
theorem q_360 : Cond.instanceMethod yX9_base ∈ gw := gw_at 360 (by decide +kernel) (by decide +kernel)
theorem q_361 : Cond.selects "ColourWorks" yX9_base yX9_base ∈ gw := gw_at 361 (by decide +kernel) (by decide +kernel)
theorem l_L_13 : KV RL 13 9 mX9_base 2 := ⟨⟨k_X9_base, Or.inl q_359, by decide +kernel⟩, q_360, TX9, 12, rfl, q_361⟩
theorem q_363 : Cond.methodLink "ColourWorks" 79 yX9_isStrength ∈ gw := gw_at 363 (by decide +kernel) (by decide +kernel)
theorem q_364 : Cond.static yX9_isStrength ∈ gw := gw_at 364 (by decide +kernel) (by decide +kernel)
theorem l_X9_79 : KS RX9 79 mX9_isStrength 1 := ⟨⟨k_X9_isStrength, Or.inl q_363, by decide +kernel⟩, q_364⟩
theorem q_366 : Cond.methodLink "ColourWorks" 97 yX9_within ∈ gw := gw_at 366 (by decide +kernel) (by decide +kernel)
theorem q_367 : Cond.static yX9_within ∈ gw := gw_at 367 (by decide +kernel) (by decide +kernel)
theorem l_X9_97 : KS RX9 97 mX9_within 3 := ⟨⟨k_X9_within, Or.inl q_366, by decide +kernel⟩, q_367⟩
theorem q_369 : Cond.methodLink "ColourWorks" 83 yX5_add ∈ gw := gw_at 369 (by decide +kernel) (by decide +kernel)
theorem q_370 : Cond.instanceMethod yX5_add ∈ gw := gw_at 370 (by decide +kernel) (by decide +kernel)
theorem q_371 : Cond.selects "ColourWorks$Palette" yX5_add yX5_add ∈ gw := gw_at 371 (by decide +kernel) (by decide +kernel)
theorem l_X9_83 : KV RX9 83 5 mX5_add 2 := ⟨⟨k_X5_add, Or.inl q_369, by decide +kernel⟩, q_370, TX5, 3, rfl, q_371⟩
theorem q_373 : Cond.methodLink "ColourWorks$Palette" 22 yX5_tell ∈ gw := gw_at 373 (by decide +kernel) (by decide +kernel)
theorem q_374 : Cond.instanceMethod yX5_tell ∈ gw := gw_at 374 (by decide +kernel) (by decide +kernel)
theorem q_375 : Cond.selects "ColourWorks$Palette" yX5_tell yX5_tell ∈ gw := gw_at 375 (by decide +kernel) (by decide +kernel)
theorem l_X5_22 : KV RX5 22 5 mX5_tell 4 := ⟨⟨k_X5_tell, Or.inl q_373, by decide +kernel⟩, q_374, TX5, 3, rfl, q_375⟩
theorem q_377 : Cond.methodLink "ColourWorksLaw" 18 yX9_band ∈ gw := gw_at 377 (by decide +kernel) (by decide +kernel)
theorem q_378 : Cond.instanceMethod yX9_band ∈ gw := gw_at 378 (by decide +kernel) (by decide +kernel)
theorem q_379 : Cond.selects "ColourWorks" yX9_band yX9_band ∈ gw := gw_at 379 (by decide +kernel) (by decide +kernel)
theorem l_L_18 : KV RL 18 9 mX9_band 4 := ⟨⟨k_X9_band, Or.inl q_377, by decide +kernel⟩, q_378, TX9, 12, rfl, q_379⟩
theorem q_381 : Cond.methodLink "ColourWorks" 87 yX5_has ∈ gw := gw_at 381 (by decide +kernel) (by decide +kernel)
theorem q_382 : Cond.instanceMethod yX5_has ∈ gw := gw_at 382 (by decide +kernel) (by decide +kernel)
theorem q_383 : Cond.selects "ColourWorks$Palette" yX5_has yX5_has ∈ gw := gw_at 383 (by decide +kernel) (by decide +kernel)
theorem l_X9_87 : KV RX9 87 5 mX5_has 1 := ⟨⟨k_X5_has, Or.inl q_381, by decide +kernel⟩, q_382, TX5, 3, rfl, q_383⟩
theorem q_385 : Cond.methodLink "ColourWorks" 90 yX9_isBand ∈ gw := gw_at 385 (by decide +kernel) (by decide +kernel)
theorem q_386 : Cond.static yX9_isBand ∈ gw := gw_at 386 (by decide +kernel) (by decide +kernel)
theorem l_X9_90 : KS RX9 90 mX9_isBand 1 := ⟨⟨k_X9_isBand, Or.inl q_385, by decide +kernel⟩, q_386⟩
theorem q_388 : Cond.methodLink "ColourWorks" 93 yX5_tell ∈ gw := gw_at 388 (by decide +kernel) (by decide +kernel)
theorem l_X9_93 : KV RX9 93 5 mX5_tell 4 := ⟨⟨k_X5_tell, Or.inl q_388, by decide +kernel⟩, q_374, TX5, 3, rfl, q_375⟩
theorem q_389 : Cond.methodLink "ColourWorksLaw" 23 yX9_lot ∈ gw := gw_at 389 (by decide +kernel) (by decide +kernel)
theorem q_390 : Cond.instanceMethod yX9_lot ∈ gw := gw_at 390 (by decide +kernel) (by decide +kernel)
theorem q_391 : Cond.selects "ColourWorks" yX9_lot yX9_lot ∈ gw := gw_at 391 (by decide +kernel) (by decide +kernel)
theorem l_L_23 : KV RL 23 9 mX9_lot 3 := ⟨⟨k_X9_lot, Or.inl q_389, by decide +kernel⟩, q_390, TX9, 12, rfl, q_391⟩
theorem q_393 : Cond.methodLink "ColourWorks" 101 yX7_add ∈ gw := gw_at 393 (by decide +kernel) (by decide +kernel)
theorem q_394 : Cond.instanceMethod yX7_add ∈ gw := gw_at 394 (by decide +kernel) (by decide +kernel)
theorem q_395 : Cond.selects "ColourWorks$Store" yX7_add yX7_add ∈ gw := gw_at 395 (by decide +kernel) (by decide +kernel)
theorem l_X9_101 : KV RX9 101 7 mX7_add 3 := ⟨⟨k_X7_add, Or.inl q_393, by decide +kernel⟩, q_394, TX7, 5, rfl, q_395⟩
theorem q_397 : Cond.methodLink "ColourWorksLaw" 28 yX9_left ∈ gw := gw_at 397 (by decide +kernel) (by decide +kernel)
theorem q_398 : Cond.instanceMethod yX9_left ∈ gw := gw_at 398 (by decide +kernel) (by decide +kernel)
theorem q_399 : Cond.selects "ColourWorks" yX9_left yX9_left ∈ gw := gw_at 399 (by decide +kernel) (by decide +kernel)
theorem l_L_28 : KV RL 28 9 mX9_left 1 := ⟨⟨k_X9_left, Or.inl q_397, by decide +kernel⟩, q_398, TX9, 12, rfl, q_399⟩
theorem q_401 : Cond.methodLink "ColourWorks" 104 yX7_has ∈ gw := gw_at 401 (by decide +kernel) (by decide +kernel)
theorem q_402 : Cond.instanceMethod yX7_has ∈ gw := gw_at 402 (by decide +kernel) (by decide +kernel)
theorem q_403 : Cond.selects "ColourWorks$Store" yX7_has yX7_has ∈ gw := gw_at 403 (by decide +kernel) (by decide +kernel)
theorem l_X9_104 : KV RX9 104 7 mX7_has 1 := ⟨⟨k_X7_has, Or.inl q_401, by decide +kernel⟩, q_402, TX7, 5, rfl, q_403⟩
theorem q_405 : Cond.methodLink "ColourWorksLaw" 33 yX9_may ∈ gw := gw_at 405 (by decide +kernel) (by decide +kernel)
theorem q_406 : Cond.instanceMethod yX9_may ∈ gw := gw_at 406 (by decide +kernel) (by decide +kernel)
theorem q_407 : Cond.selects "ColourWorks" yX9_may yX9_may ∈ gw := gw_at 407 (by decide +kernel) (by decide +kernel)
theorem l_L_33 : KV RL 33 9 mX9_may 1 := ⟨⟨k_X9_may, Or.inl q_405, by decide +kernel⟩, q_406, TX9, 12, rfl, q_407⟩
theorem q_409 : Cond.methodLink "ColourWorks" 108 yX7_usableOf ∈ gw := gw_at 409 (by decide +kernel) (by decide +kernel)
theorem q_410 : Cond.instanceMethod yX7_usableOf ∈ gw := gw_at 410 (by decide +kernel) (by decide +kernel)
theorem q_411 : Cond.selects "ColourWorks$Store" yX7_usableOf yX7_usableOf ∈ gw := gw_at 411 (by decide +kernel) (by decide +kernel)
theorem l_X9_108 : KV RX9 108 7 mX7_usableOf 1 := ⟨⟨k_X7_usableOf, Or.inl q_409, by decide +kernel⟩, q_410, TX7, 5, rfl, q_411⟩
theorem q_413 : Cond.methodLink "ColourWorks$Store" 28 yX7_isUsable ∈ gw := gw_at 413 (by decide +kernel) (by decide +kernel)
theorem q_415 : Cond.instanceMethod yX7_isUsable ∈ gw := gw_at 415 (by decide +kernel) (by decide +kernel)
theorem q_0 : Cond.selects "ColourWorks$Store" yX7_isUsable yX7_isUsable ∈ gw := gw_at 0 (by decide +kernel) (by decide +kernel)
theorem l_X7_28 : KV RX7 28 7 mX7_isUsable 2 := ⟨⟨k_X7_isUsable, Or.inl q_413, by decide +kernel⟩, q_415, TX7, 5, rfl, q_0⟩
theorem q_417 : Cond.methodLink "ColourWorksLaw" 37 yX9_day ∈ gw := gw_at 417 (by decide +kernel) (by decide +kernel)
theorem q_418 : Cond.instanceMethod yX9_day ∈ gw := gw_at 418 (by decide +kernel) (by decide +kernel)
theorem q_419 : Cond.selects "ColourWorks" yX9_day yX9_day ∈ gw := gw_at 419 (by decide +kernel) (by decide +kernel)
theorem l_L_37 : KV RL 37 9 mX9_day 1 := ⟨⟨k_X9_day, Or.inl q_417, by decide +kernel⟩, q_418, TX9, 12, rfl, q_419⟩
theorem q_421 : Cond.methodLink "ColourWorksLaw" 41 yX9_recipe ∈ gw := gw_at 421 (by decide +kernel) (by decide +kernel)
theorem q_422 : Cond.instanceMethod yX9_recipe ∈ gw := gw_at 422 (by decide +kernel) (by decide +kernel)
theorem q_423 : Cond.selects "ColourWorks" yX9_recipe yX9_recipe ∈ gw := gw_at 423 (by decide +kernel) (by decide +kernel)
theorem l_L_41 : KV RL 41 9 mX9_recipe 0 := ⟨⟨k_X9_recipe, Or.inl q_421, by decide +kernel⟩, q_422, TX9, 12, rfl, q_423⟩
theorem q_425 : Cond.methodLink "ColourWorks" 115 yX1_add ∈ gw := gw_at 425 (by decide +kernel) (by decide +kernel)
theorem q_426 : Cond.instanceMethod yX1_add ∈ gw := gw_at 426 (by decide +kernel) (by decide +kernel)
theorem q_427 : Cond.selects "ColourWorks$Cookbook" yX1_add yX1_add ∈ gw := gw_at 427 (by decide +kernel) (by decide +kernel)
theorem l_X9_115 : KV RX9 115 1 mX1_add 0 := ⟨⟨k_X1_add, Or.inl q_425, by decide +kernel⟩, q_426, TX1, 7, rfl, q_427⟩
theorem q_429 : Cond.methodLink "ColourWorksLaw" 46 yX9_part ∈ gw := gw_at 429 (by decide +kernel) (by decide +kernel)
theorem q_430 : Cond.instanceMethod yX9_part ∈ gw := gw_at 430 (by decide +kernel) (by decide +kernel)
theorem q_431 : Cond.selects "ColourWorks" yX9_part yX9_part ∈ gw := gw_at 431 (by decide +kernel) (by decide +kernel)
theorem l_L_46 : KV RL 46 9 mX9_part 4 := ⟨⟨k_X9_part, Or.inl q_429, by decide +kernel⟩, q_430, TX9, 12, rfl, q_431⟩
theorem q_433 : Cond.methodLink "ColourWorks" 118 yX1_has ∈ gw := gw_at 433 (by decide +kernel) (by decide +kernel)
theorem q_434 : Cond.instanceMethod yX1_has ∈ gw := gw_at 434 (by decide +kernel) (by decide +kernel)
theorem q_435 : Cond.selects "ColourWorks$Cookbook" yX1_has yX1_has ∈ gw := gw_at 435 (by decide +kernel) (by decide +kernel)
theorem l_X9_118 : KV RX9 118 1 mX1_has 1 := ⟨⟨k_X1_has, Or.inl q_433, by decide +kernel⟩, q_434, TX1, 7, rfl, q_435⟩
theorem q_437 : Cond.methodLink "ColourWorks" 119 yX1_addPart ∈ gw := gw_at 437 (by decide +kernel) (by decide +kernel)
theorem q_438 : Cond.instanceMethod yX1_addPart ∈ gw := gw_at 438 (by decide +kernel) (by decide +kernel)
theorem q_439 : Cond.selects "ColourWorks$Cookbook" yX1_addPart yX1_addPart ∈ gw := gw_at 439 (by decide +kernel) (by decide +kernel)
theorem l_X9_119 : KV RX9 119 1 mX1_addPart 4 := ⟨⟨k_X1_addPart, Or.inl q_437, by decide +kernel⟩, q_438, TX1, 7, rfl, q_439⟩
theorem q_441 : Cond.methodLink "ColourWorks$Cookbook" 35 yX1_resolveAll ∈ gw := gw_at 441 (by decide +kernel) (by decide +kernel)
theorem q_443 : Cond.instanceMethod yX1_resolveAll ∈ gw := gw_at 443 (by decide +kernel) (by decide +kernel)
theorem q_1 : Cond.selects "ColourWorks$Cookbook" yX1_resolveAll yX1_resolveAll ∈ gw := gw_at 1 (by decide +kernel) (by decide +kernel)
theorem l_X1_35 : KV RX1 35 1 mX1_resolveAll 0 := ⟨⟨k_X1_resolveAll, Or.inl q_441, by decide +kernel⟩, q_443, TX1, 7, rfl, q_1⟩
theorem q_445 : Cond.methodLink "ColourWorks$Cookbook" 45 yJ7_fill_53178 ∈ gw := gw_at 445 (by decide +kernel) (by decide +kernel)
theorem q_446 : Cond.static yJ7_fill_53178 ∈ gw := gw_at 446 (by decide +kernel) (by decide +kernel)
theorem l_X1_45 : KS RX1 45 mJ7_fill_53178 2 := ⟨⟨k_J7_fill_53178, Or.inl q_445, by decide +kernel⟩, q_446⟩
theorem q_448 : Cond.methodLink "ColourWorks$Cookbook" 51 yX1_resolveInTrial ∈ gw := gw_at 448 (by decide +kernel) (by decide +kernel)
theorem q_450 : Cond.instanceMethod yX1_resolveInTrial ∈ gw := gw_at 450 (by decide +kernel) (by decide +kernel)
theorem q_2 : Cond.selects "ColourWorks$Cookbook" yX1_resolveInTrial yX1_resolveInTrial ∈ gw := gw_at 2 (by decide +kernel) (by decide +kernel)
theorem l_X1_51 : KV RX1 51 1 mX1_resolveInTrial 1 := ⟨⟨k_X1_resolveInTrial, Or.inl q_448, by decide +kernel⟩, q_450, TX1, 7, rfl, q_2⟩
theorem q_452 : Cond.methodLink "ColourWorks$Cookbook" 55 yX1_addPartToTrial ∈ gw := gw_at 452 (by decide +kernel) (by decide +kernel)
theorem q_454 : Cond.instanceMethod yX1_addPartToTrial ∈ gw := gw_at 454 (by decide +kernel) (by decide +kernel)
theorem q_3 : Cond.selects "ColourWorks$Cookbook" yX1_addPartToTrial yX1_addPartToTrial ∈ gw := gw_at 3 (by decide +kernel) (by decide +kernel)
theorem l_X1_55 : KV RX1 55 1 mX1_addPartToTrial 2 := ⟨⟨k_X1_addPartToTrial, Or.inl q_452, by decide +kernel⟩, q_454, TX1, 7, rfl, q_3⟩
theorem q_456 : Cond.methodLink "ColourWorks$Cookbook" 39 arraycopyName ∈ gw := gw_at 456 (by decide +kernel) (by decide +kernel)
theorem o_X1_39 : Cond.methodLink RX1 39 arraycopyName ∈ gw := q_456
theorem q_459 : Cond.methodLink "ColourWorksLaw" 51 yX9_resolved ∈ gw := gw_at 459 (by decide +kernel) (by decide +kernel)
theorem q_460 : Cond.instanceMethod yX9_resolved ∈ gw := gw_at 460 (by decide +kernel) (by decide +kernel)
theorem q_461 : Cond.selects "ColourWorks" yX9_resolved yX9_resolved ∈ gw := gw_at 461 (by decide +kernel) (by decide +kernel)
theorem l_L_51 : KV RL 51 9 mX9_resolved 2 := ⟨⟨k_X9_resolved, Or.inl q_459, by decide +kernel⟩, q_460, TX9, 12, rfl, q_461⟩
theorem q_463 : Cond.methodLink "ColourWorks" 123 yX1_need ∈ gw := gw_at 463 (by decide +kernel) (by decide +kernel)
theorem q_464 : Cond.instanceMethod yX1_need ∈ gw := gw_at 464 (by decide +kernel) (by decide +kernel)
theorem q_465 : Cond.selects "ColourWorks$Cookbook" yX1_need yX1_need ∈ gw := gw_at 465 (by decide +kernel) (by decide +kernel)
theorem l_X9_123 : KV RX9 123 1 mX1_need 2 := ⟨⟨k_X1_need, Or.inl q_463, by decide +kernel⟩, q_464, TX1, 7, rfl, q_465⟩
theorem q_467 : Cond.methodLink "ColourWorksLaw" 55 yX9_batch ∈ gw := gw_at 467 (by decide +kernel) (by decide +kernel)
theorem q_468 : Cond.instanceMethod yX9_batch ∈ gw := gw_at 468 (by decide +kernel) (by decide +kernel)
theorem q_469 : Cond.selects "ColourWorks" yX9_batch yX9_batch ∈ gw := gw_at 469 (by decide +kernel) (by decide +kernel)
theorem l_L_55 : KV RL 55 9 mX9_batch 0 := ⟨⟨k_X9_batch, Or.inl q_467, by decide +kernel⟩, q_468, TX9, 12, rfl, q_469⟩
theorem q_471 : Cond.methodLink "ColourWorksLaw" 59 yX9_weigh ∈ gw := gw_at 471 (by decide +kernel) (by decide +kernel)
theorem q_472 : Cond.instanceMethod yX9_weigh ∈ gw := gw_at 472 (by decide +kernel) (by decide +kernel)
theorem q_473 : Cond.selects "ColourWorks" yX9_weigh yX9_weigh ∈ gw := gw_at 473 (by decide +kernel) (by decide +kernel)
theorem l_L_59 : KV RL 59 9 mX9_weigh 3 := ⟨⟨k_X9_weigh, Or.inl q_471, by decide +kernel⟩, q_472, TX9, 12, rfl, q_473⟩
theorem q_475 : Cond.methodLink "ColourWorks" 126 yX9_hasBatch ∈ gw := gw_at 475 (by decide +kernel) (by decide +kernel)
theorem q_477 : Cond.instanceMethod yX9_hasBatch ∈ gw := gw_at 477 (by decide +kernel) (by decide +kernel)
theorem q_4 : Cond.selects "ColourWorks" yX9_hasBatch yX9_hasBatch ∈ gw := gw_at 4 (by decide +kernel) (by decide +kernel)
theorem l_X9_126 : KV RX9 126 9 mX9_hasBatch 1 := ⟨⟨k_X9_hasBatch, Or.inl q_475, by decide +kernel⟩, q_477, TX9, 12, rfl, q_4⟩
theorem q_479 : Cond.methodLink "ColourWorks" 129 yJ7_fill_53178 ∈ gw := gw_at 479 (by decide +kernel) (by decide +kernel)
theorem l_X9_129 : KS RX9 129 mJ7_fill_53178 2 := ⟨⟨k_J7_fill_53178, Or.inl q_479, by decide +kernel⟩, q_446⟩
theorem q_480 : Cond.methodLink "ColourWorks" 135 yX9_takeWanted ∈ gw := gw_at 480 (by decide +kernel) (by decide +kernel)
theorem q_482 : Cond.instanceMethod yX9_takeWanted ∈ gw := gw_at 482 (by decide +kernel) (by decide +kernel)
theorem q_5 : Cond.selects "ColourWorks" yX9_takeWanted yX9_takeWanted ∈ gw := gw_at 5 (by decide +kernel) (by decide +kernel)
theorem l_X9_135 : KV RX9 135 9 mX9_takeWanted 1 := ⟨⟨k_X9_takeWanted, Or.inl q_480, by decide +kernel⟩, q_482, TX9, 12, rfl, q_5⟩
theorem q_484 : Cond.methodLink "ColourWorks" 296 yX7_lacks ∈ gw := gw_at 484 (by decide +kernel) (by decide +kernel)
theorem q_485 : Cond.instanceMethod yX7_lacks ∈ gw := gw_at 485 (by decide +kernel) (by decide +kernel)
theorem q_486 : Cond.selects "ColourWorks$Store" yX7_lacks yX7_lacks ∈ gw := gw_at 486 (by decide +kernel) (by decide +kernel)
theorem l_X9_296 : KV RX9 296 7 mX7_lacks 1 := ⟨⟨k_X7_lacks, Or.inl q_484, by decide +kernel⟩, q_485, TX7, 5, rfl, q_486⟩
theorem q_488 : Cond.methodLink "ColourWorks$Store" 32 yX7_usableOf ∈ gw := gw_at 488 (by decide +kernel) (by decide +kernel)
theorem l_X7_32 : KV RX7 32 7 mX7_usableOf 1 := ⟨⟨k_X7_usableOf, Or.inl q_488, by decide +kernel⟩, q_410, TX7, 5, rfl, q_411⟩
theorem q_489 : Cond.methodLink "ColourWorks" 139 yX9_sum ∈ gw := gw_at 489 (by decide +kernel) (by decide +kernel)
theorem q_490 : Cond.static yX9_sum ∈ gw := gw_at 490 (by decide +kernel) (by decide +kernel)
theorem l_X9_139 : KS RX9 139 mX9_sum 1 := ⟨⟨k_X9_sum, Or.inl q_489, by decide +kernel⟩, q_490⟩
theorem q_492 : Cond.methodLink "ColourWorks" 300 yX7_take ∈ gw := gw_at 492 (by decide +kernel) (by decide +kernel)
theorem q_493 : Cond.instanceMethod yX7_take ∈ gw := gw_at 493 (by decide +kernel) (by decide +kernel)
theorem q_494 : Cond.selects "ColourWorks$Store" yX7_take yX7_take ∈ gw := gw_at 494 (by decide +kernel) (by decide +kernel)
theorem l_X9_300 : KV RX9 300 7 mX7_take 3 := ⟨⟨k_X7_take, Or.inl q_492, by decide +kernel⟩, q_493, TX7, 5, rfl, q_494⟩
theorem q_496 : Cond.methodLink "ColourWorks$Store" 36 yX7_nextToEnd ∈ gw := gw_at 496 (by decide +kernel) (by decide +kernel)
theorem q_498 : Cond.instanceMethod yX7_nextToEnd ∈ gw := gw_at 498 (by decide +kernel) (by decide +kernel)
theorem q_6 : Cond.selects "ColourWorks$Store" yX7_nextToEnd yX7_nextToEnd ∈ gw := gw_at 6 (by decide +kernel) (by decide +kernel)
theorem l_X7_36 : KV RX7 36 7 mX7_nextToEnd 1 := ⟨⟨k_X7_nextToEnd, Or.inl q_496, by decide +kernel⟩, q_498, TX7, 5, rfl, q_6⟩
theorem q_500 : Cond.methodLink "ColourWorks$Store" 39 yJ9_min_7cf53 ∈ gw := gw_at 500 (by decide +kernel) (by decide +kernel)
theorem q_501 : Cond.static yJ9_min_7cf53 ∈ gw := gw_at 501 (by decide +kernel) (by decide +kernel)
theorem l_X7_39 : KS RX7 39 mJ9_min_7cf53 2 := ⟨⟨k_J9_min_7cf53, Or.inl q_500, by decide +kernel⟩, q_501⟩
theorem q_503 : Cond.methodLink "ColourWorks$Store" 45 yX4_add ∈ gw := gw_at 503 (by decide +kernel) (by decide +kernel)
theorem q_504 : Cond.instanceMethod yX4_add ∈ gw := gw_at 504 (by decide +kernel) (by decide +kernel)
theorem q_505 : Cond.selects "ColourWorks$Mix" yX4_add yX4_add ∈ gw := gw_at 505 (by decide +kernel) (by decide +kernel)
theorem l_X7_45 : KV RX7 45 4 mX4_add 3 := ⟨⟨k_X4_add, Or.inl q_503, by decide +kernel⟩, q_504, TX4, 3, rfl, q_505⟩
theorem q_507 : Cond.methodLink "ColourWorksLaw" 63 yX9_brew ∈ gw := gw_at 507 (by decide +kernel) (by decide +kernel)
theorem q_508 : Cond.instanceMethod yX9_brew ∈ gw := gw_at 508 (by decide +kernel) (by decide +kernel)
theorem q_509 : Cond.selects "ColourWorks" yX9_brew yX9_brew ∈ gw := gw_at 509 (by decide +kernel) (by decide +kernel)
theorem l_L_63 : KV RL 63 9 mX9_brew 3 := ⟨⟨k_X9_brew, Or.inl q_507, by decide +kernel⟩, q_508, TX9, 12, rfl, q_509⟩
theorem q_511 : Cond.methodLink "ColourWorksLaw" 67 yX9_drops ∈ gw := gw_at 511 (by decide +kernel) (by decide +kernel)
theorem q_512 : Cond.instanceMethod yX9_drops ∈ gw := gw_at 512 (by decide +kernel) (by decide +kernel)
theorem q_513 : Cond.selects "ColourWorks" yX9_drops yX9_drops ∈ gw := gw_at 513 (by decide +kernel) (by decide +kernel)
theorem l_L_67 : KV RL 67 9 mX9_drops 5 := ⟨⟨k_X9_drops, Or.inl q_511, by decide +kernel⟩, q_512, TX9, 12, rfl, q_513⟩
theorem q_515 : Cond.methodLink "ColourWorks" 143 yX9_isAim ∈ gw := gw_at 515 (by decide +kernel) (by decide +kernel)
theorem q_516 : Cond.static yX9_isAim ∈ gw := gw_at 516 (by decide +kernel) (by decide +kernel)
theorem l_X9_143 : KS RX9 143 mX9_isAim 3 := ⟨⟨k_X9_isAim, Or.inl q_515, by decide +kernel⟩, q_516⟩
theorem q_519 : Cond.methodLink "ColourWorks" 159 yX2_aimAt ∈ gw := gw_at 519 (by decide +kernel) (by decide +kernel)
theorem q_520 : Cond.instanceMethod yX2_aimAt ∈ gw := gw_at 520 (by decide +kernel) (by decide +kernel)
theorem q_521 : Cond.selects "ColourWorks$DropSearch" yX2_aimAt yX2_aimAt ∈ gw := gw_at 521 (by decide +kernel) (by decide +kernel)
theorem l_X9_159 : KV RX9 159 2 mX2_aimAt 3 := ⟨⟨k_X2_aimAt, Or.inl q_519, by decide +kernel⟩, q_520, TX2, 11, rfl, q_521⟩
theorem q_523 : Cond.methodLink "ColourWorks" 163 yX2_start ∈ gw := gw_at 523 (by decide +kernel) (by decide +kernel)
theorem q_524 : Cond.instanceMethod yX2_start ∈ gw := gw_at 524 (by decide +kernel) (by decide +kernel)
theorem q_525 : Cond.selects "ColourWorks$DropSearch" yX2_start yX2_start ∈ gw := gw_at 525 (by decide +kernel) (by decide +kernel)
theorem l_X9_163 : KV RX9 163 2 mX2_start 4 := ⟨⟨k_X2_start, Or.inl q_523, by decide +kernel⟩, q_524, TX2, 11, rfl, q_525⟩
theorem q_527 : Cond.methodLink "ColourWorks$DropSearch" 53 yJ9_min_7cf53 ∈ gw := gw_at 527 (by decide +kernel) (by decide +kernel)
theorem l_X2_53 : KS RX2 53 mJ9_min_7cf53 2 := ⟨⟨k_J9_min_7cf53, Or.inl q_527, by decide +kernel⟩, q_501⟩
theorem q_528 : Cond.methodLink "ColourWorks$DropSearch" 59 yX7_usableOf ∈ gw := gw_at 528 (by decide +kernel) (by decide +kernel)
theorem l_X2_59 : KV RX2 59 7 mX7_usableOf 1 := ⟨⟨k_X7_usableOf, Or.inl q_528, by decide +kernel⟩, q_410, TX7, 5, rfl, q_411⟩
theorem q_529 : Cond.methodLink "ColourWorks$DropSearch" 65 yX5_absorbed ∈ gw := gw_at 529 (by decide +kernel) (by decide +kernel)
theorem q_530 : Cond.instanceMethod yX5_absorbed ∈ gw := gw_at 530 (by decide +kernel) (by decide +kernel)
theorem q_531 : Cond.selects "ColourWorks$Palette" yX5_absorbed yX5_absorbed ∈ gw := gw_at 531 (by decide +kernel) (by decide +kernel)
theorem l_X2_65 : KV RX2 65 5 mX5_absorbed 2 := ⟨⟨k_X5_absorbed, Or.inl q_529, by decide +kernel⟩, q_530, TX5, 3, rfl, q_531⟩
theorem q_533 : Cond.methodLink "ColourWorks$Palette" 31 yX5_weighted ∈ gw := gw_at 533 (by decide +kernel) (by decide +kernel)
theorem q_535 : Cond.instanceMethod yX5_weighted ∈ gw := gw_at 535 (by decide +kernel) (by decide +kernel)
theorem q_7 : Cond.selects "ColourWorks$Palette" yX5_weighted yX5_weighted ∈ gw := gw_at 7 (by decide +kernel) (by decide +kernel)
theorem l_X5_31 : KV RX5 31 5 mX5_weighted 3 := ⟨⟨k_X5_weighted, Or.inl q_533, by decide +kernel⟩, q_535, TX5, 3, rfl, q_7⟩
theorem q_537 : Cond.methodLink "ColourWorks$DropSearch" 70 yX5_scattered ∈ gw := gw_at 537 (by decide +kernel) (by decide +kernel)
theorem q_538 : Cond.instanceMethod yX5_scattered ∈ gw := gw_at 538 (by decide +kernel) (by decide +kernel)
theorem q_539 : Cond.selects "ColourWorks$Palette" yX5_scattered yX5_scattered ∈ gw := gw_at 539 (by decide +kernel) (by decide +kernel)
theorem l_X2_70 : KV RX2 70 5 mX5_scattered 2 := ⟨⟨k_X5_scattered, Or.inl q_537, by decide +kernel⟩, q_538, TX5, 3, rfl, q_539⟩
theorem q_541 : Cond.methodLink "ColourWorks" 167 yX2_run ∈ gw := gw_at 541 (by decide +kernel) (by decide +kernel)
theorem q_542 : Cond.instanceMethod yX2_run ∈ gw := gw_at 542 (by decide +kernel) (by decide +kernel)
theorem q_543 : Cond.selects "ColourWorks$DropSearch" yX2_run yX2_run ∈ gw := gw_at 543 (by decide +kernel) (by decide +kernel)
theorem l_X9_167 : KV RX9 167 2 mX2_run 1 := ⟨⟨k_X2_run, Or.inl q_541, by decide +kernel⟩, q_542, TX2, 11, rfl, q_543⟩
theorem q_546 : Cond.methodLink "ColourWorks$DropSearch" 73 yX2_judge ∈ gw := gw_at 546 (by decide +kernel) (by decide +kernel)
theorem q_548 : Cond.instanceMethod yX2_judge ∈ gw := gw_at 548 (by decide +kernel) (by decide +kernel)
theorem q_8 : Cond.selects "ColourWorks$DropSearch" yX2_judge yX2_judge ∈ gw := gw_at 8 (by decide +kernel) (by decide +kernel)
theorem l_X2_73 : KV RX2 73 2 mX2_judge 0 := ⟨⟨k_X2_judge, Or.inl q_546, by decide +kernel⟩, q_548, TX2, 11, rfl, q_8⟩
theorem q_550 : Cond.methodLink "ColourWorks$DropSearch" 80 yX2_missOfTrial ∈ gw := gw_at 550 (by decide +kernel) (by decide +kernel)
theorem q_552 : Cond.instanceMethod yX2_missOfTrial ∈ gw := gw_at 552 (by decide +kernel) (by decide +kernel)
theorem q_9 : Cond.selects "ColourWorks$DropSearch" yX2_missOfTrial yX2_missOfTrial ∈ gw := gw_at 9 (by decide +kernel) (by decide +kernel)
theorem l_X2_80 : KV RX2 80 2 mX2_missOfTrial 0 := ⟨⟨k_X2_missOfTrial, Or.inl q_550, by decide +kernel⟩, q_552, TX2, 11, rfl, q_9⟩
theorem z_554 : Cond.methodLinkNest "ColourWorks$DropSearch" 90 yX9_shadeOfSums "ColourWorks" ∈ nw := nw_at 554 (by decide +kernel) (by decide +kernel)
theorem q_555 : Cond.static yX9_shadeOfSums ∈ gw := gw_at 555 (by decide +kernel) (by decide +kernel)
theorem l_X2_90 : KS RX2 90 mX9_shadeOfSums 2 := ⟨⟨k_X9_shadeOfSums, Or.inr ⟨"ColourWorks", z_554⟩, by decide +kernel⟩, q_555⟩
theorem q_559 : Cond.methodLink "ColourWorks" 311 yJ9_min_f86c9 ∈ gw := gw_at 559 (by decide +kernel) (by decide +kernel)
theorem q_560 : Cond.static yJ9_min_f86c9 ∈ gw := gw_at 560 (by decide +kernel) (by decide +kernel)
theorem l_X9_311 : KS RX9 311 mJ9_min_f86c9 2 := ⟨⟨k_J9_min_f86c9, Or.inl q_559, by decide +kernel⟩, q_560⟩
theorem q_562 : Cond.methodLink "ColourWorks$DropSearch" 94 yJ9_abs_0f7a4 ∈ gw := gw_at 562 (by decide +kernel) (by decide +kernel)
theorem q_563 : Cond.static yJ9_abs_0f7a4 ∈ gw := gw_at 563 (by decide +kernel) (by decide +kernel)
theorem l_X2_94 : KS RX2 94 mJ9_abs_0f7a4 1 := ⟨⟨k_J9_abs_0f7a4, Or.inl q_562, by decide +kernel⟩, q_563⟩
theorem q_565 : Cond.methodLink "ColourWorks$DropSearch" 97 yJ9_max_7cf53 ∈ gw := gw_at 565 (by decide +kernel) (by decide +kernel)
theorem q_566 : Cond.static yJ9_max_7cf53 ∈ gw := gw_at 566 (by decide +kernel) (by decide +kernel)
theorem l_X2_97 : KS RX2 97 mJ9_max_7cf53 2 := ⟨⟨k_J9_max_7cf53, Or.inl q_565, by decide +kernel⟩, q_566⟩
theorem q_568 : Cond.methodLink "ColourWorks$DropSearch" 84 arraycopyName ∈ gw := gw_at 568 (by decide +kernel) (by decide +kernel)
theorem o_X2_84 : Cond.methodLink RX2 84 arraycopyName ∈ gw := q_568
theorem q_569 : Cond.methodLink "ColourWorks$DropSearch" 76 yX2_advance ∈ gw := gw_at 569 (by decide +kernel) (by decide +kernel)
theorem q_571 : Cond.instanceMethod yX2_advance ∈ gw := gw_at 571 (by decide +kernel) (by decide +kernel)
theorem q_10 : Cond.selects "ColourWorks$DropSearch" yX2_advance yX2_advance ∈ gw := gw_at 10 (by decide +kernel) (by decide +kernel)
theorem l_X2_76 : KV RX2 76 2 mX2_advance 1 := ⟨⟨k_X2_advance, Or.inl q_569, by decide +kernel⟩, q_571, TX2, 11, rfl, q_10⟩
theorem q_573 : Cond.methodLink "ColourWorks$DropSearch" 103 yX2_change ∈ gw := gw_at 573 (by decide +kernel) (by decide +kernel)
theorem q_575 : Cond.instanceMethod yX2_change ∈ gw := gw_at 575 (by decide +kernel) (by decide +kernel)
theorem q_11 : Cond.selects "ColourWorks$DropSearch" yX2_change yX2_change ∈ gw := gw_at 11 (by decide +kernel) (by decide +kernel)
theorem l_X2_103 : KV RX2 103 2 mX2_change 3 := ⟨⟨k_X2_change, Or.inl q_573, by decide +kernel⟩, q_575, TX2, 11, rfl, q_11⟩
theorem q_577 : Cond.methodLink "ColourWorksLaw" 72 yX9_drop ∈ gw := gw_at 577 (by decide +kernel) (by decide +kernel)
theorem q_578 : Cond.instanceMethod yX9_drop ∈ gw := gw_at 578 (by decide +kernel) (by decide +kernel)
theorem q_579 : Cond.selects "ColourWorks" yX9_drop yX9_drop ∈ gw := gw_at 579 (by decide +kernel) (by decide +kernel)
theorem l_L_72 : KV RL 72 9 mX9_drop 1 := ⟨⟨k_X9_drop, Or.inl q_577, by decide +kernel⟩, q_578, TX9, 12, rfl, q_579⟩
theorem q_581 : Cond.methodLink "ColourWorksLaw" 76 yX9_dropIn ∈ gw := gw_at 581 (by decide +kernel) (by decide +kernel)
theorem q_582 : Cond.instanceMethod yX9_dropIn ∈ gw := gw_at 582 (by decide +kernel) (by decide +kernel)
theorem q_583 : Cond.selects "ColourWorks" yX9_dropIn yX9_dropIn ∈ gw := gw_at 583 (by decide +kernel) (by decide +kernel)
theorem l_L_76 : KV RL 76 9 mX9_dropIn 1 := ⟨⟨k_X9_dropIn, Or.inl q_581, by decide +kernel⟩, q_582, TX9, 12, rfl, q_583⟩
theorem q_585 : Cond.methodLink "ColourWorks" 177 arraycopyName ∈ gw := gw_at 585 (by decide +kernel) (by decide +kernel)
theorem o_X9_177 : Cond.methodLink RX9 177 arraycopyName ∈ gw := q_585
theorem q_586 : Cond.methodLink "ColourWorksLaw" 80 yX9_amount ∈ gw := gw_at 586 (by decide +kernel) (by decide +kernel)
theorem q_587 : Cond.instanceMethod yX9_amount ∈ gw := gw_at 587 (by decide +kernel) (by decide +kernel)
theorem q_588 : Cond.selects "ColourWorks" yX9_amount yX9_amount ∈ gw := gw_at 588 (by decide +kernel) (by decide +kernel)
theorem l_L_80 : KV RL 80 9 mX9_amount 2 := ⟨⟨k_X9_amount, Or.inl q_586, by decide +kernel⟩, q_587, TX9, 12, rfl, q_588⟩
theorem q_590 : Cond.methodLink "ColourWorksLaw" 84 yX9_shade ∈ gw := gw_at 590 (by decide +kernel) (by decide +kernel)
theorem q_591 : Cond.instanceMethod yX9_shade ∈ gw := gw_at 591 (by decide +kernel) (by decide +kernel)
theorem q_592 : Cond.selects "ColourWorks" yX9_shade yX9_shade ∈ gw := gw_at 592 (by decide +kernel) (by decide +kernel)
theorem l_L_84 : KV RL 84 9 mX9_shade 2 := ⟨⟨k_X9_shade, Or.inl q_590, by decide +kernel⟩, q_591, TX9, 12, rfl, q_592⟩
theorem q_594 : Cond.methodLink "ColourWorks" 186 yX5_shadeOf ∈ gw := gw_at 594 (by decide +kernel) (by decide +kernel)
theorem q_595 : Cond.instanceMethod yX5_shadeOf ∈ gw := gw_at 595 (by decide +kernel) (by decide +kernel)
theorem q_596 : Cond.selects "ColourWorks$Palette" yX5_shadeOf yX5_shadeOf ∈ gw := gw_at 596 (by decide +kernel) (by decide +kernel)
theorem l_X9_186 : KV RX9 186 5 mX5_shadeOf 2 := ⟨⟨k_X5_shadeOf, Or.inl q_594, by decide +kernel⟩, q_595, TX5, 3, rfl, q_596⟩
theorem q_598 : Cond.methodLink "ColourWorks$Palette" 35 yX5_absorbed ∈ gw := gw_at 598 (by decide +kernel) (by decide +kernel)
theorem l_X5_35 : KV RX5 35 5 mX5_absorbed 2 := ⟨⟨k_X5_absorbed, Or.inl q_598, by decide +kernel⟩, q_530, TX5, 3, rfl, q_531⟩
theorem q_599 : Cond.methodLink "ColourWorks$Palette" 39 yX5_scattered ∈ gw := gw_at 599 (by decide +kernel) (by decide +kernel)
theorem l_X5_39 : KV RX5 39 5 mX5_scattered 2 := ⟨⟨k_X5_scattered, Or.inl q_599, by decide +kernel⟩, q_538, TX5, 3, rfl, q_539⟩
theorem z_600 : Cond.methodLinkNest "ColourWorks$Palette" 42 yX9_shadeOfSums "ColourWorks" ∈ nw := nw_at 600 (by decide +kernel) (by decide +kernel)
theorem l_X5_42 : KS RX5 42 mX9_shadeOfSums 2 := ⟨⟨k_X9_shadeOfSums, Or.inr ⟨"ColourWorks", z_600⟩, by decide +kernel⟩, q_555⟩
theorem q_601 : Cond.methodLink "ColourWorksLaw" 88 yX9_miss ∈ gw := gw_at 601 (by decide +kernel) (by decide +kernel)
theorem q_602 : Cond.instanceMethod yX9_miss ∈ gw := gw_at 602 (by decide +kernel) (by decide +kernel)
theorem q_603 : Cond.selects "ColourWorks" yX9_miss yX9_miss ∈ gw := gw_at 603 (by decide +kernel) (by decide +kernel)
theorem l_L_88 : KV RL 88 9 mX9_miss 4 := ⟨⟨k_X9_miss, Or.inl q_601, by decide +kernel⟩, q_602, TX9, 12, rfl, q_603⟩
theorem q_605 : Cond.methodLink "ColourWorks" 190 yJ9_abs_0f7a4 ∈ gw := gw_at 605 (by decide +kernel) (by decide +kernel)
theorem l_X9_190 : KS RX9 190 mJ9_abs_0f7a4 1 := ⟨⟨k_J9_abs_0f7a4, Or.inl q_605, by decide +kernel⟩, q_563⟩
theorem q_606 : Cond.methodLink "ColourWorks" 195 yJ9_max_7cf53 ∈ gw := gw_at 606 (by decide +kernel) (by decide +kernel)
theorem l_X9_195 : KS RX9 195 mJ9_max_7cf53 2 := ⟨⟨k_J9_max_7cf53, Or.inl q_606, by decide +kernel⟩, q_566⟩
theorem q_607 : Cond.methodLink "ColourWorksLaw" 92 yX9_holds ∈ gw := gw_at 607 (by decide +kernel) (by decide +kernel)
theorem q_608 : Cond.instanceMethod yX9_holds ∈ gw := gw_at 608 (by decide +kernel) (by decide +kernel)
theorem q_609 : Cond.selects "ColourWorks" yX9_holds yX9_holds ∈ gw := gw_at 609 (by decide +kernel) (by decide +kernel)
theorem l_L_92 : KV RL 92 9 mX9_holds 2 := ⟨⟨k_X9_holds, Or.inl q_607, by decide +kernel⟩, q_608, TX9, 12, rfl, q_609⟩
theorem q_611 : Cond.methodLink "ColourWorks" 198 yX9_isTank ∈ gw := gw_at 611 (by decide +kernel) (by decide +kernel)
theorem q_612 : Cond.static yX9_isTank ∈ gw := gw_at 612 (by decide +kernel) (by decide +kernel)
theorem l_X9_198 : KS RX9 198 mX9_isTank 1 := ⟨⟨k_X9_isTank, Or.inl q_611, by decide +kernel⟩, q_612⟩
theorem q_615 : Cond.methodLink "ColourWorksLaw" 96 yX9_limit ∈ gw := gw_at 615 (by decide +kernel) (by decide +kernel)
theorem q_616 : Cond.instanceMethod yX9_limit ∈ gw := gw_at 616 (by decide +kernel) (by decide +kernel)
theorem q_617 : Cond.selects "ColourWorks" yX9_limit yX9_limit ∈ gw := gw_at 617 (by decide +kernel) (by decide +kernel)
theorem l_L_96 : KV RL 96 9 mX9_limit 1 := ⟨⟨k_X9_limit, Or.inl q_615, by decide +kernel⟩, q_616, TX9, 12, rfl, q_617⟩
theorem q_619 : Cond.methodLink "ColourWorksLaw" 100 yX9_pour ∈ gw := gw_at 619 (by decide +kernel) (by decide +kernel)
theorem q_620 : Cond.instanceMethod yX9_pour ∈ gw := gw_at 620 (by decide +kernel) (by decide +kernel)
theorem q_621 : Cond.selects "ColourWorks" yX9_pour yX9_pour ∈ gw := gw_at 621 (by decide +kernel) (by decide +kernel)
theorem l_L_100 : KV RL 100 9 mX9_pour 2 := ⟨⟨k_X9_pour, Or.inl q_619, by decide +kernel⟩, q_620, TX9, 12, rfl, q_621⟩
theorem q_623 : Cond.methodLink "ColourWorks" 209 yX8_admits ∈ gw := gw_at 623 (by decide +kernel) (by decide +kernel)
theorem q_624 : Cond.instanceMethod yX8_admits ∈ gw := gw_at 624 (by decide +kernel) (by decide +kernel)
theorem q_625 : Cond.selects "ColourWorks$Tank" yX8_admits yX8_admits ∈ gw := gw_at 625 (by decide +kernel) (by decide +kernel)
theorem l_X9_209 : KV RX9 209 8 mX8_admits 3 := ⟨⟨k_X8_admits, Or.inl q_623, by decide +kernel⟩, q_624, TX8, 7, rfl, q_625⟩
theorem q_627 : Cond.methodLink "ColourWorks$Tank" 39 yX8_isAlike ∈ gw := gw_at 627 (by decide +kernel) (by decide +kernel)
theorem q_629 : Cond.instanceMethod yX8_isAlike ∈ gw := gw_at 629 (by decide +kernel) (by decide +kernel)
theorem q_12 : Cond.selects "ColourWorks$Tank" yX8_isAlike yX8_isAlike ∈ gw := gw_at 12 (by decide +kernel) (by decide +kernel)
theorem l_X8_39 : KV RX8 39 8 mX8_isAlike 3 := ⟨⟨k_X8_isAlike, Or.inl q_627, by decide +kernel⟩, q_629, TX8, 7, rfl, q_12⟩
theorem q_631 : Cond.methodLink "ColourWorks$Tank" 57 yX5_shadeOf ∈ gw := gw_at 631 (by decide +kernel) (by decide +kernel)
theorem l_X8_57 : KV RX8 57 5 mX5_shadeOf 2 := ⟨⟨k_X5_shadeOf, Or.inl q_631, by decide +kernel⟩, q_595, TX5, 3, rfl, q_596⟩
theorem q_632 : Cond.methodLink "ColourWorks$Tank" 63 yJ9_abs_0f7a4 ∈ gw := gw_at 632 (by decide +kernel) (by decide +kernel)
theorem l_X8_63 : KS RX8 63 mJ9_abs_0f7a4 1 := ⟨⟨k_J9_abs_0f7a4, Or.inl q_632, by decide +kernel⟩, q_563⟩
theorem q_633 : Cond.methodLink "ColourWorks$Tank" 43 yX8_coversStain ∈ gw := gw_at 633 (by decide +kernel) (by decide +kernel)
theorem q_635 : Cond.instanceMethod yX8_coversStain ∈ gw := gw_at 635 (by decide +kernel) (by decide +kernel)
theorem q_13 : Cond.selects "ColourWorks$Tank" yX8_coversStain yX8_coversStain ∈ gw := gw_at 13 (by decide +kernel) (by decide +kernel)
theorem l_X8_43 : KV RX8 43 8 mX8_coversStain 2 := ⟨⟨k_X8_coversStain, Or.inl q_633, by decide +kernel⟩, q_635, TX8, 7, rfl, q_13⟩
theorem q_637 : Cond.methodLink "ColourWorks" 213 yX8_receive ∈ gw := gw_at 637 (by decide +kernel) (by decide +kernel)
theorem q_638 : Cond.instanceMethod yX8_receive ∈ gw := gw_at 638 (by decide +kernel) (by decide +kernel)
theorem q_639 : Cond.selects "ColourWorks$Tank" yX8_receive yX8_receive ∈ gw := gw_at 639 (by decide +kernel) (by decide +kernel)
theorem l_X9_213 : KV RX9 213 8 mX8_receive 2 := ⟨⟨k_X8_receive, Or.inl q_637, by decide +kernel⟩, q_638, TX8, 7, rfl, q_639⟩
theorem q_641 : Cond.methodLink "ColourWorks$Tank" 47 yX4_empty ∈ gw := gw_at 641 (by decide +kernel) (by decide +kernel)
theorem q_642 : Cond.instanceMethod yX4_empty ∈ gw := gw_at 642 (by decide +kernel) (by decide +kernel)
theorem q_643 : Cond.selects "ColourWorks$Mix" yX4_empty yX4_empty ∈ gw := gw_at 643 (by decide +kernel) (by decide +kernel)
theorem l_X8_47 : KV RX8 47 4 mX4_empty 0 := ⟨⟨k_X4_empty, Or.inl q_641, by decide +kernel⟩, q_642, TX4, 3, rfl, q_643⟩
theorem q_645 : Cond.methodLink "ColourWorks$Mix" 23 yJ7_fill_53178 ∈ gw := gw_at 645 (by decide +kernel) (by decide +kernel)
theorem l_X4_23 : KS RX4 23 mJ7_fill_53178 2 := ⟨⟨k_J7_fill_53178, Or.inl q_645, by decide +kernel⟩, q_446⟩
theorem q_646 : Cond.methodLink "ColourWorks$Tank" 50 yX4_addAll ∈ gw := gw_at 646 (by decide +kernel) (by decide +kernel)
theorem q_647 : Cond.instanceMethod yX4_addAll ∈ gw := gw_at 647 (by decide +kernel) (by decide +kernel)
theorem q_648 : Cond.selects "ColourWorks$Mix" yX4_addAll yX4_addAll ∈ gw := gw_at 648 (by decide +kernel) (by decide +kernel)
theorem l_X8_50 : KV RX8 50 4 mX4_addAll 1 := ⟨⟨k_X4_addAll, Or.inl q_646, by decide +kernel⟩, q_647, TX4, 3, rfl, q_648⟩
theorem q_650 : Cond.methodLink "ColourWorksLaw" 104 yX9_clean ∈ gw := gw_at 650 (by decide +kernel) (by decide +kernel)
theorem q_651 : Cond.instanceMethod yX9_clean ∈ gw := gw_at 651 (by decide +kernel) (by decide +kernel)
theorem q_652 : Cond.selects "ColourWorks" yX9_clean yX9_clean ∈ gw := gw_at 652 (by decide +kernel) (by decide +kernel)
theorem l_L_104 : KV RL 104 9 mX9_clean 1 := ⟨⟨k_X9_clean, Or.inl q_650, by decide +kernel⟩, q_651, TX9, 12, rfl, q_652⟩
theorem q_654 : Cond.methodLink "ColourWorksLaw" 108 yX9_fill ∈ gw := gw_at 654 (by decide +kernel) (by decide +kernel)
theorem q_655 : Cond.instanceMethod yX9_fill ∈ gw := gw_at 655 (by decide +kernel) (by decide +kernel)
theorem q_656 : Cond.selects "ColourWorks" yX9_fill yX9_fill ∈ gw := gw_at 656 (by decide +kernel) (by decide +kernel)
theorem l_L_108 : KV RL 108 9 mX9_fill 2 := ⟨⟨k_X9_fill, Or.inl q_654, by decide +kernel⟩, q_655, TX9, 12, rfl, q_656⟩
theorem q_658 : Cond.methodLink "ColourWorks" 220 yX3_add ∈ gw := gw_at 658 (by decide +kernel) (by decide +kernel)
theorem q_659 : Cond.instanceMethod yX3_add ∈ gw := gw_at 659 (by decide +kernel) (by decide +kernel)
theorem q_660 : Cond.selects "ColourWorks$DrumYard" yX3_add yX3_add ∈ gw := gw_at 660 (by decide +kernel) (by decide +kernel)
theorem l_X9_220 : KV RX9 220 3 mX3_add 4 := ⟨⟨k_X3_add, Or.inl q_658, by decide +kernel⟩, q_659, TX3, 6, rfl, q_660⟩
theorem q_662 : Cond.methodLink "ColourWorks" 223 yX8_draw ∈ gw := gw_at 662 (by decide +kernel) (by decide +kernel)
theorem q_663 : Cond.instanceMethod yX8_draw ∈ gw := gw_at 663 (by decide +kernel) (by decide +kernel)
theorem q_664 : Cond.selects "ColourWorks$Tank" yX8_draw yX8_draw ∈ gw := gw_at 664 (by decide +kernel) (by decide +kernel)
theorem l_X9_223 : KV RX9 223 8 mX8_draw 2 := ⟨⟨k_X8_draw, Or.inl q_662, by decide +kernel⟩, q_663, TX8, 7, rfl, q_664⟩
theorem q_666 : Cond.methodLink "ColourWorksLaw" 112 yX9_tank ∈ gw := gw_at 666 (by decide +kernel) (by decide +kernel)
theorem q_667 : Cond.instanceMethod yX9_tank ∈ gw := gw_at 667 (by decide +kernel) (by decide +kernel)
theorem q_668 : Cond.selects "ColourWorks" yX9_tank yX9_tank ∈ gw := gw_at 668 (by decide +kernel) (by decide +kernel)
theorem l_L_112 : KV RL 112 9 mX9_tank 2 := ⟨⟨k_X9_tank, Or.inl q_666, by decide +kernel⟩, q_667, TX9, 12, rfl, q_668⟩
theorem q_670 : Cond.methodLink "ColourWorks" 227 yX8_isClean ∈ gw := gw_at 670 (by decide +kernel) (by decide +kernel)
theorem q_671 : Cond.instanceMethod yX8_isClean ∈ gw := gw_at 671 (by decide +kernel) (by decide +kernel)
theorem q_672 : Cond.selects "ColourWorks$Tank" yX8_isClean yX8_isClean ∈ gw := gw_at 672 (by decide +kernel) (by decide +kernel)
theorem l_X9_227 : KV RX9 227 8 mX8_isClean 0 := ⟨⟨k_X8_isClean, Or.inl q_670, by decide +kernel⟩, q_671, TX8, 7, rfl, q_672⟩
theorem q_674 : Cond.methodLink "ColourWorksLaw" 116 yX9_tankShade ∈ gw := gw_at 674 (by decide +kernel) (by decide +kernel)
theorem q_675 : Cond.instanceMethod yX9_tankShade ∈ gw := gw_at 675 (by decide +kernel) (by decide +kernel)
theorem q_676 : Cond.selects "ColourWorks" yX9_tankShade yX9_tankShade ∈ gw := gw_at 676 (by decide +kernel) (by decide +kernel)
theorem l_L_116 : KV RL 116 9 mX9_tankShade 2 := ⟨⟨k_X9_tankShade, Or.inl q_674, by decide +kernel⟩, q_675, TX9, 12, rfl, q_676⟩
theorem q_678 : Cond.methodLink "ColourWorksLaw" 120 yX9_drum ∈ gw := gw_at 678 (by decide +kernel) (by decide +kernel)
theorem q_679 : Cond.instanceMethod yX9_drum ∈ gw := gw_at 679 (by decide +kernel) (by decide +kernel)
theorem q_680 : Cond.selects "ColourWorks" yX9_drum yX9_drum ∈ gw := gw_at 680 (by decide +kernel) (by decide +kernel)
theorem l_L_120 : KV RL 120 9 mX9_drum 2 := ⟨⟨k_X9_drum, Or.inl q_678, by decide +kernel⟩, q_679, TX9, 12, rfl, q_680⟩
theorem q_682 : Cond.methodLink "ColourWorks" 235 yX3_has ∈ gw := gw_at 682 (by decide +kernel) (by decide +kernel)
theorem q_683 : Cond.instanceMethod yX3_has ∈ gw := gw_at 683 (by decide +kernel) (by decide +kernel)
theorem q_684 : Cond.selects "ColourWorks$DrumYard" yX3_has yX3_has ∈ gw := gw_at 684 (by decide +kernel) (by decide +kernel)
theorem l_X9_235 : KV RX9 235 3 mX3_has 1 := ⟨⟨k_X3_has, Or.inl q_682, by decide +kernel⟩, q_683, TX3, 6, rfl, q_684⟩
theorem q_686 : Cond.methodLink "ColourWorks" 246 yJ6_bitCount_0f7a4 ∈ gw := gw_at 686 (by decide +kernel) (by decide +kernel)
theorem q_687 : Cond.static yJ6_bitCount_0f7a4 ∈ gw := gw_at 687 (by decide +kernel) (by decide +kernel)
theorem l_X9_246 : KS RX9 246 mJ6_bitCount_0f7a4 1 := ⟨⟨k_J6_bitCount_0f7a4, Or.inl q_686, by decide +kernel⟩, q_687⟩
theorem q_692 : Cond.methodLink "ColourWorks" 255 yJ13_bitCount_95d88 ∈ gw := gw_at 692 (by decide +kernel) (by decide +kernel)
theorem q_693 : Cond.static yJ13_bitCount_95d88 ∈ gw := gw_at 693 (by decide +kernel) (by decide +kernel)
theorem l_X9_255 : KS RX9 255 mJ13_bitCount_95d88 1 := ⟨⟨k_J13_bitCount_95d88, Or.inl q_692, by decide +kernel⟩, q_693⟩
theorem q_698 : Cond.methodLink "ColourWorksLaw" 124 yX9_inDrum ∈ gw := gw_at 698 (by decide +kernel) (by decide +kernel)
theorem q_699 : Cond.instanceMethod yX9_inDrum ∈ gw := gw_at 699 (by decide +kernel) (by decide +kernel)
theorem q_700 : Cond.selects "ColourWorks" yX9_inDrum yX9_inDrum ∈ gw := gw_at 700 (by decide +kernel) (by decide +kernel)
theorem l_L_124 : KV RL 124 9 mX9_inDrum 3 := ⟨⟨k_X9_inDrum, Or.inl q_698, by decide +kernel⟩, q_699, TX9, 12, rfl, q_700⟩
theorem q_702 : Cond.methodLink "ColourWorks" 260 yX9_hasBit ∈ gw := gw_at 702 (by decide +kernel) (by decide +kernel)
theorem q_703 : Cond.static yX9_hasBit ∈ gw := gw_at 703 (by decide +kernel) (by decide +kernel)
theorem l_X9_260 : KS RX9 260 mX9_hasBit 2 := ⟨⟨k_X9_hasBit, Or.inl q_702, by decide +kernel⟩, q_703⟩
theorem q_705 : Cond.methodLink "ColourWorksLaw" 129 yX9_recall ∈ gw := gw_at 705 (by decide +kernel) (by decide +kernel)
theorem q_706 : Cond.instanceMethod yX9_recall ∈ gw := gw_at 706 (by decide +kernel) (by decide +kernel)
theorem q_707 : Cond.selects "ColourWorks" yX9_recall yX9_recall ∈ gw := gw_at 707 (by decide +kernel) (by decide +kernel)
theorem l_L_129 : KV RL 129 9 mX9_recall 2 := ⟨⟨k_X9_recall, Or.inl q_705, by decide +kernel⟩, q_706, TX9, 12, rfl, q_707⟩
theorem q_709 : Cond.methodLink "ColourWorks" 264 yX3_countWith ∈ gw := gw_at 709 (by decide +kernel) (by decide +kernel)
theorem q_710 : Cond.instanceMethod yX3_countWith ∈ gw := gw_at 710 (by decide +kernel) (by decide +kernel)
theorem q_711 : Cond.selects "ColourWorks$DrumYard" yX3_countWith yX3_countWith ∈ gw := gw_at 711 (by decide +kernel) (by decide +kernel)
theorem l_X9_264 : KV RX9 264 3 mX3_countWith 1 := ⟨⟨k_X3_countWith, Or.inl q_709, by decide +kernel⟩, q_710, TX3, 6, rfl, q_711⟩
theorem z_713 : Cond.methodLinkNest "ColourWorks$DrumYard" 45 yX9_hasBit "ColourWorks" ∈ nw := nw_at 713 (by decide +kernel) (by decide +kernel)
theorem l_X3_45 : KS RX3 45 mX9_hasBit 2 := ⟨⟨k_X9_hasBit, Or.inr ⟨"ColourWorks", z_713⟩, by decide +kernel⟩, q_703⟩
theorem q_714 : Cond.methodLink "ColourWorks" 267 yX9_openBatchesWith ∈ gw := gw_at 714 (by decide +kernel) (by decide +kernel)
theorem q_716 : Cond.instanceMethod yX9_openBatchesWith ∈ gw := gw_at 716 (by decide +kernel) (by decide +kernel)
theorem q_14 : Cond.selects "ColourWorks" yX9_openBatchesWith yX9_openBatchesWith ∈ gw := gw_at 14 (by decide +kernel) (by decide +kernel)
theorem l_X9_267 : KV RX9 267 9 mX9_openBatchesWith 1 := ⟨⟨k_X9_openBatchesWith, Or.inl q_714, by decide +kernel⟩, q_716, TX9, 12, rfl, q_14⟩
theorem q_718 : Cond.methodLink "ColourWorks" 270 yX9_tanksWith ∈ gw := gw_at 718 (by decide +kernel) (by decide +kernel)
theorem q_720 : Cond.instanceMethod yX9_tanksWith ∈ gw := gw_at 720 (by decide +kernel) (by decide +kernel)
theorem q_15 : Cond.selects "ColourWorks" yX9_tanksWith yX9_tanksWith ∈ gw := gw_at 15 (by decide +kernel) (by decide +kernel)
theorem l_X9_270 : KV RX9 270 9 mX9_tanksWith 1 := ⟨⟨k_X9_tanksWith, Or.inl q_718, by decide +kernel⟩, q_720, TX9, 12, rfl, q_15⟩
theorem q_722 : Cond.methodLink "ColourWorksLaw" 133 yX9_job ∈ gw := gw_at 722 (by decide +kernel) (by decide +kernel)
theorem q_723 : Cond.instanceMethod yX9_job ∈ gw := gw_at 723 (by decide +kernel) (by decide +kernel)
theorem q_724 : Cond.selects "ColourWorks" yX9_job yX9_job ∈ gw := gw_at 724 (by decide +kernel) (by decide +kernel)
theorem l_L_133 : KV RL 133 9 mX9_job 4 := ⟨⟨k_X9_job, Or.inl q_722, by decide +kernel⟩, q_723, TX9, 12, rfl, q_724⟩
theorem q_726 : Cond.methodLink "ColourWorks" 273 yX9_isHue ∈ gw := gw_at 726 (by decide +kernel) (by decide +kernel)
theorem q_727 : Cond.static yX9_isHue ∈ gw := gw_at 727 (by decide +kernel) (by decide +kernel)
theorem l_X9_273 : KS RX9 273 mX9_isHue 1 := ⟨⟨k_X9_isHue, Or.inl q_726, by decide +kernel⟩, q_727⟩
theorem q_729 : Cond.methodLink "ColourWorks" 276 yX6_add ∈ gw := gw_at 729 (by decide +kernel) (by decide +kernel)
theorem q_730 : Cond.instanceMethod yX6_add ∈ gw := gw_at 730 (by decide +kernel) (by decide +kernel)
theorem q_731 : Cond.selects "ColourWorks$Schedule" yX6_add yX6_add ∈ gw := gw_at 731 (by decide +kernel) (by decide +kernel)
theorem l_X9_276 : KV RX9 276 6 mX6_add 4 := ⟨⟨k_X6_add, Or.inl q_729, by decide +kernel⟩, q_730, TX6, 9, rfl, q_731⟩
theorem q_733 : Cond.methodLink "ColourWorksLaw" 137 yX9_cleaning ∈ gw := gw_at 733 (by decide +kernel) (by decide +kernel)
theorem q_734 : Cond.instanceMethod yX9_cleaning ∈ gw := gw_at 734 (by decide +kernel) (by decide +kernel)
theorem q_735 : Cond.selects "ColourWorks" yX9_cleaning yX9_cleaning ∈ gw := gw_at 735 (by decide +kernel) (by decide +kernel)
theorem l_L_137 : KV RL 137 9 mX9_cleaning 3 := ⟨⟨k_X9_cleaning, Or.inl q_733, by decide +kernel⟩, q_734, TX9, 12, rfl, q_735⟩
theorem q_737 : Cond.methodLink "ColourWorks" 279 yX6_tellChange ∈ gw := gw_at 737 (by decide +kernel) (by decide +kernel)
theorem q_738 : Cond.instanceMethod yX6_tellChange ∈ gw := gw_at 738 (by decide +kernel) (by decide +kernel)
theorem q_739 : Cond.selects "ColourWorks$Schedule" yX6_tellChange yX6_tellChange ∈ gw := gw_at 739 (by decide +kernel) (by decide +kernel)
theorem l_X9_279 : KV RX9 279 6 mX6_tellChange 3 := ⟨⟨k_X6_tellChange, Or.inl q_737, by decide +kernel⟩, q_738, TX6, 9, rfl, q_739⟩
theorem q_741 : Cond.methodLink "ColourWorksLaw" 141 yX9_plan ∈ gw := gw_at 741 (by decide +kernel) (by decide +kernel)
theorem q_742 : Cond.instanceMethod yX9_plan ∈ gw := gw_at 742 (by decide +kernel) (by decide +kernel)
theorem q_743 : Cond.selects "ColourWorks" yX9_plan yX9_plan ∈ gw := gw_at 743 (by decide +kernel) (by decide +kernel)
theorem l_L_141 : KV RL 141 9 mX9_plan 1 := ⟨⟨k_X9_plan, Or.inl q_741, by decide +kernel⟩, q_742, TX9, 12, rfl, q_743⟩
theorem q_745 : Cond.methodLink "ColourWorks" 282 yX6_arrange ∈ gw := gw_at 745 (by decide +kernel) (by decide +kernel)
theorem q_746 : Cond.instanceMethod yX6_arrange ∈ gw := gw_at 746 (by decide +kernel) (by decide +kernel)
theorem q_747 : Cond.selects "ColourWorks$Schedule" yX6_arrange yX6_arrange ∈ gw := gw_at 747 (by decide +kernel) (by decide +kernel)
theorem l_X9_282 : KV RX9 282 6 mX6_arrange 1 := ⟨⟨k_X6_arrange, Or.inl q_745, by decide +kernel⟩, q_746, TX6, 9, rfl, q_747⟩
theorem q_749 : Cond.methodLink "ColourWorks$Schedule" 40 yX6_timeOfSet ∈ gw := gw_at 749 (by decide +kernel) (by decide +kernel)
theorem q_751 : Cond.instanceMethod yX6_timeOfSet ∈ gw := gw_at 751 (by decide +kernel) (by decide +kernel)
theorem q_16 : Cond.selects "ColourWorks$Schedule" yX6_timeOfSet yX6_timeOfSet ∈ gw := gw_at 16 (by decide +kernel) (by decide +kernel)
theorem l_X6_40 : KV RX6 40 6 mX6_timeOfSet 1 := ⟨⟨k_X6_timeOfSet, Or.inl q_749, by decide +kernel⟩, q_751, TX6, 9, rfl, q_16⟩
theorem z_753 : Cond.methodLinkNest "ColourWorks$Schedule" 56 yX9_hasBit "ColourWorks" ∈ nw := nw_at 753 (by decide +kernel) (by decide +kernel)
theorem l_X6_56 : KS RX6 56 mX9_hasBit 2 := ⟨⟨k_X9_hasBit, Or.inr ⟨"ColourWorks", z_753⟩, by decide +kernel⟩, q_703⟩
theorem q_754 : Cond.methodLink "ColourWorks$Schedule" 44 yX6_bestNext ∈ gw := gw_at 754 (by decide +kernel) (by decide +kernel)
theorem q_756 : Cond.instanceMethod yX6_bestNext ∈ gw := gw_at 756 (by decide +kernel) (by decide +kernel)
theorem q_17 : Cond.selects "ColourWorks$Schedule" yX6_bestNext yX6_bestNext ∈ gw := gw_at 17 (by decide +kernel) (by decide +kernel)
theorem l_X6_44 : KV RX6 44 6 mX6_bestNext 3 := ⟨⟨k_X6_bestNext, Or.inl q_754, by decide +kernel⟩, q_756, TX6, 9, rfl, q_17⟩
theorem q_758 : Cond.methodLink "ColourWorks$Schedule" 48 yX6_costWith ∈ gw := gw_at 758 (by decide +kernel) (by decide +kernel)
theorem q_760 : Cond.instanceMethod yX6_costWith ∈ gw := gw_at 760 (by decide +kernel) (by decide +kernel)
theorem q_18 : Cond.selects "ColourWorks$Schedule" yX6_costWith yX6_costWith ∈ gw := gw_at 18 (by decide +kernel) (by decide +kernel)
theorem l_X6_48 : KV RX6 48 6 mX6_costWith 4 := ⟨⟨k_X6_costWith, Or.inl q_758, by decide +kernel⟩, q_760, TX6, 9, rfl, q_18⟩
theorem q_762 : Cond.methodLink "ColourWorks$Schedule" 60 yJ9_max_7cf53 ∈ gw := gw_at 762 (by decide +kernel) (by decide +kernel)
theorem l_X6_60 : KS RX6 60 mJ9_max_7cf53 2 := ⟨⟨k_J9_max_7cf53, Or.inl q_762, by decide +kernel⟩, q_566⟩
theorem q_763 : Cond.methodLink "ColourWorks$Schedule" 52 yX6_writeOrder ∈ gw := gw_at 763 (by decide +kernel) (by decide +kernel)
theorem q_765 : Cond.instanceMethod yX6_writeOrder ∈ gw := gw_at 765 (by decide +kernel) (by decide +kernel)
theorem q_19 : Cond.selects "ColourWorks$Schedule" yX6_writeOrder yX6_writeOrder ∈ gw := gw_at 19 (by decide +kernel) (by decide +kernel)
theorem l_X6_52 : KV RX6 52 6 mX6_writeOrder 1 := ⟨⟨k_X6_writeOrder, Or.inl q_763, by decide +kernel⟩, q_765, TX6, 9, rfl, q_19⟩
theorem q_767 : Cond.methodLink "ColourWorksLaw" 145 yX9_planned ∈ gw := gw_at 767 (by decide +kernel) (by decide +kernel)
theorem q_768 : Cond.instanceMethod yX9_planned ∈ gw := gw_at 768 (by decide +kernel) (by decide +kernel)
theorem q_769 : Cond.selects "ColourWorks" yX9_planned yX9_planned ∈ gw := gw_at 769 (by decide +kernel) (by decide +kernel)
theorem l_L_145 : KV RL 145 9 mX9_planned 1 := ⟨⟨k_X9_planned, Or.inl q_767, by decide +kernel⟩, q_768, TX9, 12, rfl, q_769⟩
theorem q_771 : Cond.methodLink "ColourWorksLaw" 149 yX9_idle ∈ gw := gw_at 771 (by decide +kernel) (by decide +kernel)
theorem q_772 : Cond.instanceMethod yX9_idle ∈ gw := gw_at 772 (by decide +kernel) (by decide +kernel)
theorem q_773 : Cond.selects "ColourWorks" yX9_idle yX9_idle ∈ gw := gw_at 773 (by decide +kernel) (by decide +kernel)
theorem l_L_149 : KV RL 149 9 mX9_idle 0 := ⟨⟨k_X9_idle, Or.inl q_771, by decide +kernel⟩, q_772, TX9, 12, rfl, q_773⟩
theorem q_775 : Cond.methodLink "ColourWorksLaw" 153 yX9_count ∈ gw := gw_at 775 (by decide +kernel) (by decide +kernel)
theorem q_776 : Cond.instanceMethod yX9_count ∈ gw := gw_at 776 (by decide +kernel) (by decide +kernel)
theorem q_777 : Cond.selects "ColourWorks" yX9_count yX9_count ∈ gw := gw_at 777 (by decide +kernel) (by decide +kernel)
theorem l_L_153 : KV RL 153 9 mX9_count 1 := ⟨⟨k_X9_count, Or.inl q_775, by decide +kernel⟩, q_776, TX9, 12, rfl, q_777⟩
theorem q_779 : Cond.classLink "ColourWorksLaw" 10 "ColourWorksModel" ∈ gw := gw_at 779 (by decide +kernel) (by decide +kernel)
theorem n_L_10c : Cond.classLink RL 10 "ColourWorksModel" ∈ gw := q_779
theorem q_780 : Cond.instantiable "ColourWorksModel" 49 ∈ gw := gw_at 780 (by decide +kernel) (by decide +kernel)
theorem n_L_10 : NL RL 10 10 [.int 0, .int 0, .null, .null, .int 0, .null, .null, .null, .int 0, .null, .null, .null, .null, .null, .null, .int 0, .null, .null, .null, .int 0, .null, .null, .null, .null, .null, .null, .null, .null, .null, .null, .int 0, .int 0, .null, .null, .null, .null, .null, .int 0, .int 0, .null, .null, .null, .null, .null, .int 0, .null, .null, .null, .null] 49 := ⟨RX10, TX10, tyX10, rfl, inX10, tyX10_ok, q_779, q_780, q_44, by decide +kernel, fun _ _ => rfl⟩
theorem q_781 : Cond.methodLink "ColourWorksLaw" 12 yX10_init ∈ gw := gw_at 781 (by decide +kernel) (by decide +kernel)
theorem q_782 : Cond.instanceMethod yX10_init ∈ gw := gw_at 782 (by decide +kernel) (by decide +kernel)
theorem l_L_12 : KI RL 12 mX10_init 0 := ⟨⟨k_X10_init, Or.inl q_781, by decide +kernel⟩, q_782, rfl, rfl⟩
theorem q_784 : Cond.methodLink "ColourWorksModel" 1 objectInit ∈ gw := gw_at 784 (by decide +kernel) (by decide +kernel)
theorem o_X10_1 : Cond.methodLink RX10 1 objectInit ∈ gw := q_784
theorem q_933 : Cond.methodLink "ColourWorksLaw" 17 yX10_base ∈ gw := gw_at 933 (by decide +kernel) (by decide +kernel)
theorem q_934 : Cond.instanceMethod yX10_base ∈ gw := gw_at 934 (by decide +kernel) (by decide +kernel)
theorem q_935 : Cond.selects "ColourWorksModel" yX10_base yX10_base ∈ gw := gw_at 935 (by decide +kernel) (by decide +kernel)
theorem l_L_17 : KV RL 17 10 mX10_base 2 := ⟨⟨k_X10_base, Or.inl q_933, by decide +kernel⟩, q_934, TX10, 49, rfl, q_935⟩
theorem q_937 : Cond.methodLink "ColourWorksModel" 133 yX10_in ∈ gw := gw_at 937 (by decide +kernel) (by decide +kernel)
theorem q_938 : Cond.static yX10_in ∈ gw := gw_at 938 (by decide +kernel) (by decide +kernel)
theorem l_X10_133 : KS RX10 133 mX10_in 3 := ⟨⟨k_X10_in, Or.inl q_937, by decide +kernel⟩, q_938⟩
theorem q_940 : Cond.methodLink "ColourWorksLaw" 22 yX10_band ∈ gw := gw_at 940 (by decide +kernel) (by decide +kernel)
theorem q_941 : Cond.instanceMethod yX10_band ∈ gw := gw_at 941 (by decide +kernel) (by decide +kernel)
theorem q_942 : Cond.selects "ColourWorksModel" yX10_band yX10_band ∈ gw := gw_at 942 (by decide +kernel) (by decide +kernel)
theorem l_L_22 : KV RL 22 10 mX10_band 4 := ⟨⟨k_X10_band, Or.inl q_940, by decide +kernel⟩, q_941, TX10, 49, rfl, q_942⟩
theorem q_944 : Cond.methodLink "ColourWorksModel" 140 yX10_isBase ∈ gw := gw_at 944 (by decide +kernel) (by decide +kernel)
theorem q_946 : Cond.instanceMethod yX10_isBase ∈ gw := gw_at 946 (by decide +kernel) (by decide +kernel)
theorem q_20 : Cond.selects "ColourWorksModel" yX10_isBase yX10_isBase ∈ gw := gw_at 20 (by decide +kernel) (by decide +kernel)
theorem l_X10_140 : KV RX10 140 10 mX10_isBase 1 := ⟨⟨k_X10_isBase, Or.inl q_944, by decide +kernel⟩, q_946, TX10, 49, rfl, q_20⟩
theorem q_948 : Cond.methodLink "ColourWorksLaw" 27 yX10_lot ∈ gw := gw_at 948 (by decide +kernel) (by decide +kernel)
theorem q_949 : Cond.instanceMethod yX10_lot ∈ gw := gw_at 949 (by decide +kernel) (by decide +kernel)
theorem q_950 : Cond.selects "ColourWorksModel" yX10_lot yX10_lot ∈ gw := gw_at 950 (by decide +kernel) (by decide +kernel)
theorem l_L_27 : KV RL 27 10 mX10_lot 3 := ⟨⟨k_X10_lot, Or.inl q_948, by decide +kernel⟩, q_949, TX10, 49, rfl, q_950⟩
theorem q_952 : Cond.methodLink "ColourWorksLaw" 32 yX10_left ∈ gw := gw_at 952 (by decide +kernel) (by decide +kernel)
theorem q_953 : Cond.instanceMethod yX10_left ∈ gw := gw_at 953 (by decide +kernel) (by decide +kernel)
theorem q_954 : Cond.selects "ColourWorksModel" yX10_left yX10_left ∈ gw := gw_at 954 (by decide +kernel) (by decide +kernel)
theorem l_L_32 : KV RL 32 10 mX10_left 1 := ⟨⟨k_X10_left, Or.inl q_952, by decide +kernel⟩, q_953, TX10, 49, rfl, q_954⟩
theorem q_956 : Cond.methodLink "ColourWorksLaw" 36 yX10_may ∈ gw := gw_at 956 (by decide +kernel) (by decide +kernel)
theorem q_957 : Cond.instanceMethod yX10_may ∈ gw := gw_at 957 (by decide +kernel) (by decide +kernel)
theorem q_958 : Cond.selects "ColourWorksModel" yX10_may yX10_may ∈ gw := gw_at 958 (by decide +kernel) (by decide +kernel)
theorem l_L_36 : KV RL 36 10 mX10_may 1 := ⟨⟨k_X10_may, Or.inl q_956, by decide +kernel⟩, q_957, TX10, 49, rfl, q_958⟩
theorem q_960 : Cond.methodLink "ColourWorksModel" 154 yX10_mayOf ∈ gw := gw_at 960 (by decide +kernel) (by decide +kernel)
theorem q_962 : Cond.instanceMethod yX10_mayOf ∈ gw := gw_at 962 (by decide +kernel) (by decide +kernel)
theorem q_21 : Cond.selects "ColourWorksModel" yX10_mayOf yX10_mayOf ∈ gw := gw_at 21 (by decide +kernel) (by decide +kernel)
theorem l_X10_154 : KV RX10 154 10 mX10_mayOf 1 := ⟨⟨k_X10_mayOf, Or.inl q_960, by decide +kernel⟩, q_962, TX10, 49, rfl, q_21⟩
theorem q_964 : Cond.methodLink "ColourWorksModel" 150 yX10_mayTake ∈ gw := gw_at 964 (by decide +kernel) (by decide +kernel)
theorem q_966 : Cond.instanceMethod yX10_mayTake ∈ gw := gw_at 966 (by decide +kernel) (by decide +kernel)
theorem q_22 : Cond.selects "ColourWorksModel" yX10_mayTake yX10_mayTake ∈ gw := gw_at 22 (by decide +kernel) (by decide +kernel)
theorem l_X10_150 : KV RX10 150 10 mX10_mayTake 2 := ⟨⟨k_X10_mayTake, Or.inl q_964, by decide +kernel⟩, q_966, TX10, 49, rfl, q_22⟩
theorem q_968 : Cond.methodLink "ColourWorksLaw" 40 yX10_day ∈ gw := gw_at 968 (by decide +kernel) (by decide +kernel)
theorem q_969 : Cond.instanceMethod yX10_day ∈ gw := gw_at 969 (by decide +kernel) (by decide +kernel)
theorem q_970 : Cond.selects "ColourWorksModel" yX10_day yX10_day ∈ gw := gw_at 970 (by decide +kernel) (by decide +kernel)
theorem l_L_40 : KV RL 40 10 mX10_day 1 := ⟨⟨k_X10_day, Or.inl q_968, by decide +kernel⟩, q_969, TX10, 49, rfl, q_970⟩
theorem q_972 : Cond.methodLink "ColourWorksLaw" 45 yX10_recipe ∈ gw := gw_at 972 (by decide +kernel) (by decide +kernel)
theorem q_973 : Cond.instanceMethod yX10_recipe ∈ gw := gw_at 973 (by decide +kernel) (by decide +kernel)
theorem q_974 : Cond.selects "ColourWorksModel" yX10_recipe yX10_recipe ∈ gw := gw_at 974 (by decide +kernel) (by decide +kernel)
theorem l_L_45 : KV RL 45 10 mX10_recipe 0 := ⟨⟨k_X10_recipe, Or.inl q_972, by decide +kernel⟩, q_973, TX10, 49, rfl, q_974⟩
theorem q_976 : Cond.methodLink "ColourWorksLaw" 50 yX10_part ∈ gw := gw_at 976 (by decide +kernel) (by decide +kernel)
theorem q_977 : Cond.instanceMethod yX10_part ∈ gw := gw_at 977 (by decide +kernel) (by decide +kernel)
theorem q_978 : Cond.selects "ColourWorksModel" yX10_part yX10_part ∈ gw := gw_at 978 (by decide +kernel) (by decide +kernel)
theorem l_L_50 : KV RL 50 10 mX10_part 4 := ⟨⟨k_X10_part, Or.inl q_976, by decide +kernel⟩, q_977, TX10, 49, rfl, q_978⟩
theorem q_980 : Cond.methodLink "ColourWorksModel" 161 yX10_findNeeds ∈ gw := gw_at 980 (by decide +kernel) (by decide +kernel)
theorem q_982 : Cond.instanceMethod yX10_findNeeds ∈ gw := gw_at 982 (by decide +kernel) (by decide +kernel)
theorem q_23 : Cond.selects "ColourWorksModel" yX10_findNeeds yX10_findNeeds ∈ gw := gw_at 23 (by decide +kernel) (by decide +kernel)
theorem l_X10_161 : KV RX10 161 10 mX10_findNeeds 0 := ⟨⟨k_X10_findNeeds, Or.inl q_980, by decide +kernel⟩, q_982, TX10, 49, rfl, q_23⟩
theorem q_984 : Cond.methodLink "ColourWorksLaw" 54 yX10_resolved ∈ gw := gw_at 984 (by decide +kernel) (by decide +kernel)
theorem q_985 : Cond.instanceMethod yX10_resolved ∈ gw := gw_at 985 (by decide +kernel) (by decide +kernel)
theorem q_986 : Cond.selects "ColourWorksModel" yX10_resolved yX10_resolved ∈ gw := gw_at 986 (by decide +kernel) (by decide +kernel)
theorem l_L_54 : KV RL 54 10 mX10_resolved 2 := ⟨⟨k_X10_resolved, Or.inl q_984, by decide +kernel⟩, q_985, TX10, 49, rfl, q_986⟩
theorem q_988 : Cond.methodLink "ColourWorksLaw" 58 yX10_batch ∈ gw := gw_at 988 (by decide +kernel) (by decide +kernel)
theorem q_989 : Cond.instanceMethod yX10_batch ∈ gw := gw_at 989 (by decide +kernel) (by decide +kernel)
theorem q_990 : Cond.selects "ColourWorksModel" yX10_batch yX10_batch ∈ gw := gw_at 990 (by decide +kernel) (by decide +kernel)
theorem l_L_58 : KV RL 58 10 mX10_batch 0 := ⟨⟨k_X10_batch, Or.inl q_988, by decide +kernel⟩, q_989, TX10, 49, rfl, q_990⟩
theorem q_992 : Cond.methodLink "ColourWorksLaw" 62 yX10_weigh ∈ gw := gw_at 992 (by decide +kernel) (by decide +kernel)
theorem q_993 : Cond.instanceMethod yX10_weigh ∈ gw := gw_at 993 (by decide +kernel) (by decide +kernel)
theorem q_994 : Cond.selects "ColourWorksModel" yX10_weigh yX10_weigh ∈ gw := gw_at 994 (by decide +kernel) (by decide +kernel)
theorem l_L_62 : KV RL 62 10 mX10_weigh 3 := ⟨⟨k_X10_weigh, Or.inl q_992, by decide +kernel⟩, q_993, TX10, 49, rfl, q_994⟩
theorem q_996 : Cond.methodLink "ColourWorksModel" 165 yX10_isBatch ∈ gw := gw_at 996 (by decide +kernel) (by decide +kernel)
theorem q_998 : Cond.instanceMethod yX10_isBatch ∈ gw := gw_at 998 (by decide +kernel) (by decide +kernel)
theorem q_24 : Cond.selects "ColourWorksModel" yX10_isBatch yX10_isBatch ∈ gw := gw_at 24 (by decide +kernel) (by decide +kernel)
theorem l_X10_165 : KV RX10 165 10 mX10_isBatch 1 := ⟨⟨k_X10_isBatch, Or.inl q_996, by decide +kernel⟩, q_998, TX10, 49, rfl, q_24⟩
theorem q_1000 : Cond.methodLink "ColourWorksModel" 168 yX10_unitsOf ∈ gw := gw_at 1000 (by decide +kernel) (by decide +kernel)
theorem q_1002 : Cond.instanceMethod yX10_unitsOf ∈ gw := gw_at 1002 (by decide +kernel) (by decide +kernel)
theorem q_25 : Cond.selects "ColourWorksModel" yX10_unitsOf yX10_unitsOf ∈ gw := gw_at 25 (by decide +kernel) (by decide +kernel)
theorem l_X10_168 : KV RX10 168 10 mX10_unitsOf 1 := ⟨⟨k_X10_unitsOf, Or.inl q_1000, by decide +kernel⟩, q_1002, TX10, 49, rfl, q_25⟩
theorem q_1004 : Cond.methodLink "ColourWorksModel" 171 yX10_take ∈ gw := gw_at 1004 (by decide +kernel) (by decide +kernel)
theorem q_1006 : Cond.instanceMethod yX10_take ∈ gw := gw_at 1006 (by decide +kernel) (by decide +kernel)
theorem q_26 : Cond.selects "ColourWorksModel" yX10_take yX10_take ∈ gw := gw_at 26 (by decide +kernel) (by decide +kernel)
theorem l_X10_171 : KV RX10 171 10 mX10_take 3 := ⟨⟨k_X10_take, Or.inl q_1004, by decide +kernel⟩, q_1006, TX10, 49, rfl, q_26⟩
theorem q_1008 : Cond.methodLink "ColourWorksLaw" 66 yX10_brew ∈ gw := gw_at 1008 (by decide +kernel) (by decide +kernel)
theorem q_1009 : Cond.instanceMethod yX10_brew ∈ gw := gw_at 1009 (by decide +kernel) (by decide +kernel)
theorem q_1010 : Cond.selects "ColourWorksModel" yX10_brew yX10_brew ∈ gw := gw_at 1010 (by decide +kernel) (by decide +kernel)
theorem l_L_66 : KV RL 66 10 mX10_brew 3 := ⟨⟨k_X10_brew, Or.inl q_1008, by decide +kernel⟩, q_1009, TX10, 49, rfl, q_1010⟩
theorem q_1012 : Cond.methodLink "ColourWorksLaw" 71 yX10_drops ∈ gw := gw_at 1012 (by decide +kernel) (by decide +kernel)
theorem q_1013 : Cond.instanceMethod yX10_drops ∈ gw := gw_at 1013 (by decide +kernel) (by decide +kernel)
theorem q_1014 : Cond.selects "ColourWorksModel" yX10_drops yX10_drops ∈ gw := gw_at 1014 (by decide +kernel) (by decide +kernel)
theorem l_L_71 : KV RL 71 10 mX10_drops 5 := ⟨⟨k_X10_drops, Or.inl q_1012, by decide +kernel⟩, q_1013, TX10, 49, rfl, q_1014⟩
theorem q_1016 : Cond.methodLink "ColourWorksModel" 184 yX10_isAim ∈ gw := gw_at 1016 (by decide +kernel) (by decide +kernel)
theorem q_1017 : Cond.static yX10_isAim ∈ gw := gw_at 1017 (by decide +kernel) (by decide +kernel)
theorem l_X10_184 : KS RX10 184 mX10_isAim 3 := ⟨⟨k_X10_isAim, Or.inl q_1016, by decide +kernel⟩, q_1017⟩
theorem q_1020 : Cond.methodLink "ColourWorksModel" 187 yX10_missOf ∈ gw := gw_at 1020 (by decide +kernel) (by decide +kernel)
theorem q_1022 : Cond.instanceMethod yX10_missOf ∈ gw := gw_at 1022 (by decide +kernel) (by decide +kernel)
theorem q_27 : Cond.selects "ColourWorksModel" yX10_missOf yX10_missOf ∈ gw := gw_at 27 (by decide +kernel) (by decide +kernel)
theorem l_X10_187 : KV RX10 187 10 mX10_missOf 5 := ⟨⟨k_X10_missOf, Or.inl q_1020, by decide +kernel⟩, q_1022, TX10, 49, rfl, q_27⟩
theorem q_1024 : Cond.methodLink "ColourWorksModel" 180 yX10_shadeOf ∈ gw := gw_at 1024 (by decide +kernel) (by decide +kernel)
theorem q_1026 : Cond.instanceMethod yX10_shadeOf ∈ gw := gw_at 1026 (by decide +kernel) (by decide +kernel)
theorem q_28 : Cond.selects "ColourWorksModel" yX10_shadeOf yX10_shadeOf ∈ gw := gw_at 28 (by decide +kernel) (by decide +kernel)
theorem l_X10_180 : KV RX10 180 10 mX10_shadeOf 4 := ⟨⟨k_X10_shadeOf, Or.inl q_1024, by decide +kernel⟩, q_1026, TX10, 49, rfl, q_28⟩
theorem q_1030 : Cond.methodLink "ColourWorksModel" 191 yX10_hasNext ∈ gw := gw_at 1030 (by decide +kernel) (by decide +kernel)
theorem q_1032 : Cond.instanceMethod yX10_hasNext ∈ gw := gw_at 1032 (by decide +kernel) (by decide +kernel)
theorem q_29 : Cond.selects "ColourWorksModel" yX10_hasNext yX10_hasNext ∈ gw := gw_at 29 (by decide +kernel) (by decide +kernel)
theorem l_X10_191 : KV RX10 191 10 mX10_hasNext 2 := ⟨⟨k_X10_hasNext, Or.inl q_1030, by decide +kernel⟩, q_1032, TX10, 49, rfl, q_29⟩
theorem q_1034 : Cond.methodLink "ColourWorksLaw" 75 yX10_drop ∈ gw := gw_at 1034 (by decide +kernel) (by decide +kernel)
theorem q_1035 : Cond.instanceMethod yX10_drop ∈ gw := gw_at 1035 (by decide +kernel) (by decide +kernel)
theorem q_1036 : Cond.selects "ColourWorksModel" yX10_drop yX10_drop ∈ gw := gw_at 1036 (by decide +kernel) (by decide +kernel)
theorem l_L_75 : KV RL 75 10 mX10_drop 1 := ⟨⟨k_X10_drop, Or.inl q_1034, by decide +kernel⟩, q_1035, TX10, 49, rfl, q_1036⟩
theorem q_1038 : Cond.methodLink "ColourWorksLaw" 79 yX10_dropIn ∈ gw := gw_at 1038 (by decide +kernel) (by decide +kernel)
theorem q_1039 : Cond.instanceMethod yX10_dropIn ∈ gw := gw_at 1039 (by decide +kernel) (by decide +kernel)
theorem q_1040 : Cond.selects "ColourWorksModel" yX10_dropIn yX10_dropIn ∈ gw := gw_at 1040 (by decide +kernel) (by decide +kernel)
theorem l_L_79 : KV RL 79 10 mX10_dropIn 1 := ⟨⟨k_X10_dropIn, Or.inl q_1038, by decide +kernel⟩, q_1039, TX10, 49, rfl, q_1040⟩
theorem q_1042 : Cond.methodLink "ColourWorksLaw" 83 yX10_amount ∈ gw := gw_at 1042 (by decide +kernel) (by decide +kernel)
theorem q_1043 : Cond.instanceMethod yX10_amount ∈ gw := gw_at 1043 (by decide +kernel) (by decide +kernel)
theorem q_1044 : Cond.selects "ColourWorksModel" yX10_amount yX10_amount ∈ gw := gw_at 1044 (by decide +kernel) (by decide +kernel)
theorem l_L_83 : KV RL 83 10 mX10_amount 2 := ⟨⟨k_X10_amount, Or.inl q_1042, by decide +kernel⟩, q_1043, TX10, 49, rfl, q_1044⟩
theorem q_1046 : Cond.methodLink "ColourWorksLaw" 87 yX10_shade ∈ gw := gw_at 1046 (by decide +kernel) (by decide +kernel)
theorem q_1047 : Cond.instanceMethod yX10_shade ∈ gw := gw_at 1047 (by decide +kernel) (by decide +kernel)
theorem q_1048 : Cond.selects "ColourWorksModel" yX10_shade yX10_shade ∈ gw := gw_at 1048 (by decide +kernel) (by decide +kernel)
theorem l_L_87 : KV RL 87 10 mX10_shade 2 := ⟨⟨k_X10_shade, Or.inl q_1046, by decide +kernel⟩, q_1047, TX10, 49, rfl, q_1048⟩
theorem q_1050 : Cond.methodLink "ColourWorksLaw" 91 yX10_miss ∈ gw := gw_at 1050 (by decide +kernel) (by decide +kernel)
theorem q_1051 : Cond.instanceMethod yX10_miss ∈ gw := gw_at 1051 (by decide +kernel) (by decide +kernel)
theorem q_1052 : Cond.selects "ColourWorksModel" yX10_miss yX10_miss ∈ gw := gw_at 1052 (by decide +kernel) (by decide +kernel)
theorem l_L_91 : KV RL 91 10 mX10_miss 4 := ⟨⟨k_X10_miss, Or.inl q_1050, by decide +kernel⟩, q_1051, TX10, 49, rfl, q_1052⟩
theorem q_1054 : Cond.methodLink "ColourWorksLaw" 95 yX10_holds ∈ gw := gw_at 1054 (by decide +kernel) (by decide +kernel)
theorem q_1055 : Cond.instanceMethod yX10_holds ∈ gw := gw_at 1055 (by decide +kernel) (by decide +kernel)
theorem q_1056 : Cond.selects "ColourWorksModel" yX10_holds yX10_holds ∈ gw := gw_at 1056 (by decide +kernel) (by decide +kernel)
theorem l_L_95 : KV RL 95 10 mX10_holds 2 := ⟨⟨k_X10_holds, Or.inl q_1054, by decide +kernel⟩, q_1055, TX10, 49, rfl, q_1056⟩
theorem q_1058 : Cond.methodLink "ColourWorksModel" 199 yX10_isTank ∈ gw := gw_at 1058 (by decide +kernel) (by decide +kernel)
theorem q_1059 : Cond.static yX10_isTank ∈ gw := gw_at 1059 (by decide +kernel) (by decide +kernel)
theorem l_X10_199 : KS RX10 199 mX10_isTank 1 := ⟨⟨k_X10_isTank, Or.inl q_1058, by decide +kernel⟩, q_1059⟩
theorem q_1062 : Cond.methodLink "ColourWorksLaw" 99 yX10_limit ∈ gw := gw_at 1062 (by decide +kernel) (by decide +kernel)
theorem q_1063 : Cond.instanceMethod yX10_limit ∈ gw := gw_at 1063 (by decide +kernel) (by decide +kernel)
theorem q_1064 : Cond.selects "ColourWorksModel" yX10_limit yX10_limit ∈ gw := gw_at 1064 (by decide +kernel) (by decide +kernel)
theorem l_L_99 : KV RL 99 10 mX10_limit 1 := ⟨⟨k_X10_limit, Or.inl q_1062, by decide +kernel⟩, q_1063, TX10, 49, rfl, q_1064⟩
theorem q_1066 : Cond.methodLink "ColourWorksLaw" 103 yX10_pour ∈ gw := gw_at 1066 (by decide +kernel) (by decide +kernel)
theorem q_1067 : Cond.instanceMethod yX10_pour ∈ gw := gw_at 1067 (by decide +kernel) (by decide +kernel)
theorem q_1068 : Cond.selects "ColourWorksModel" yX10_pour yX10_pour ∈ gw := gw_at 1068 (by decide +kernel) (by decide +kernel)
theorem l_L_103 : KV RL 103 10 mX10_pour 2 := ⟨⟨k_X10_pour, Or.inl q_1066, by decide +kernel⟩, q_1067, TX10, 49, rfl, q_1068⟩
theorem q_1070 : Cond.methodLink "ColourWorksModel" 203 yX10_mayPour ∈ gw := gw_at 1070 (by decide +kernel) (by decide +kernel)
theorem q_1072 : Cond.instanceMethod yX10_mayPour ∈ gw := gw_at 1072 (by decide +kernel) (by decide +kernel)
theorem q_30 : Cond.selects "ColourWorksModel" yX10_mayPour yX10_mayPour ∈ gw := gw_at 30 (by decide +kernel) (by decide +kernel)
theorem l_X10_203 : KV RX10 203 10 mX10_mayPour 2 := ⟨⟨k_X10_mayPour, Or.inl q_1070, by decide +kernel⟩, q_1072, TX10, 49, rfl, q_30⟩
theorem q_1074 : Cond.methodLink "ColourWorksLaw" 107 yX10_clean ∈ gw := gw_at 1074 (by decide +kernel) (by decide +kernel)
theorem q_1075 : Cond.instanceMethod yX10_clean ∈ gw := gw_at 1075 (by decide +kernel) (by decide +kernel)
theorem q_1076 : Cond.selects "ColourWorksModel" yX10_clean yX10_clean ∈ gw := gw_at 1076 (by decide +kernel) (by decide +kernel)
theorem l_L_107 : KV RL 107 10 mX10_clean 1 := ⟨⟨k_X10_clean, Or.inl q_1074, by decide +kernel⟩, q_1075, TX10, 49, rfl, q_1076⟩
theorem q_1078 : Cond.methodLink "ColourWorksLaw" 111 yX10_fill ∈ gw := gw_at 1078 (by decide +kernel) (by decide +kernel)
theorem q_1079 : Cond.instanceMethod yX10_fill ∈ gw := gw_at 1079 (by decide +kernel) (by decide +kernel)
theorem q_1080 : Cond.selects "ColourWorksModel" yX10_fill yX10_fill ∈ gw := gw_at 1080 (by decide +kernel) (by decide +kernel)
theorem l_L_111 : KV RL 111 10 mX10_fill 2 := ⟨⟨k_X10_fill, Or.inl q_1078, by decide +kernel⟩, q_1079, TX10, 49, rfl, q_1080⟩
theorem q_1082 : Cond.methodLink "ColourWorksLaw" 115 yX10_tank ∈ gw := gw_at 1082 (by decide +kernel) (by decide +kernel)
theorem q_1083 : Cond.instanceMethod yX10_tank ∈ gw := gw_at 1083 (by decide +kernel) (by decide +kernel)
theorem q_1084 : Cond.selects "ColourWorksModel" yX10_tank yX10_tank ∈ gw := gw_at 1084 (by decide +kernel) (by decide +kernel)
theorem l_L_115 : KV RL 115 10 mX10_tank 2 := ⟨⟨k_X10_tank, Or.inl q_1082, by decide +kernel⟩, q_1083, TX10, 49, rfl, q_1084⟩
theorem q_1086 : Cond.methodLink "ColourWorksLaw" 119 yX10_tankShade ∈ gw := gw_at 1086 (by decide +kernel) (by decide +kernel)
theorem q_1087 : Cond.instanceMethod yX10_tankShade ∈ gw := gw_at 1087 (by decide +kernel) (by decide +kernel)
theorem q_1088 : Cond.selects "ColourWorksModel" yX10_tankShade yX10_tankShade ∈ gw := gw_at 1088 (by decide +kernel) (by decide +kernel)
theorem l_L_119 : KV RL 119 10 mX10_tankShade 2 := ⟨⟨k_X10_tankShade, Or.inl q_1086, by decide +kernel⟩, q_1087, TX10, 49, rfl, q_1088⟩
theorem q_1090 : Cond.methodLink "ColourWorksLaw" 123 yX10_drum ∈ gw := gw_at 1090 (by decide +kernel) (by decide +kernel)
theorem q_1091 : Cond.instanceMethod yX10_drum ∈ gw := gw_at 1091 (by decide +kernel) (by decide +kernel)
theorem q_1092 : Cond.selects "ColourWorksModel" yX10_drum yX10_drum ∈ gw := gw_at 1092 (by decide +kernel) (by decide +kernel)
theorem l_L_123 : KV RL 123 10 mX10_drum 2 := ⟨⟨k_X10_drum, Or.inl q_1090, by decide +kernel⟩, q_1091, TX10, 49, rfl, q_1092⟩
theorem q_1094 : Cond.methodLink "ColourWorksModel" 212 yX10_many ∈ gw := gw_at 1094 (by decide +kernel) (by decide +kernel)
theorem q_1095 : Cond.static yX10_many ∈ gw := gw_at 1095 (by decide +kernel) (by decide +kernel)
theorem l_X10_212 : KS RX10 212 mX10_many 1 := ⟨⟨k_X10_many, Or.inl q_1094, by decide +kernel⟩, q_1095⟩
theorem q_1097 : Cond.methodLink "ColourWorksLaw" 128 yX10_inDrum ∈ gw := gw_at 1097 (by decide +kernel) (by decide +kernel)
theorem q_1098 : Cond.instanceMethod yX10_inDrum ∈ gw := gw_at 1098 (by decide +kernel) (by decide +kernel)
theorem q_1099 : Cond.selects "ColourWorksModel" yX10_inDrum yX10_inDrum ∈ gw := gw_at 1099 (by decide +kernel) (by decide +kernel)
theorem l_L_128 : KV RL 128 10 mX10_inDrum 3 := ⟨⟨k_X10_inDrum, Or.inl q_1097, by decide +kernel⟩, q_1098, TX10, 49, rfl, q_1099⟩
theorem q_1101 : Cond.methodLink "ColourWorksLaw" 132 yX10_recall ∈ gw := gw_at 1101 (by decide +kernel) (by decide +kernel)
theorem q_1102 : Cond.instanceMethod yX10_recall ∈ gw := gw_at 1102 (by decide +kernel) (by decide +kernel)
theorem q_1103 : Cond.selects "ColourWorksModel" yX10_recall yX10_recall ∈ gw := gw_at 1103 (by decide +kernel) (by decide +kernel)
theorem l_L_132 : KV RL 132 10 mX10_recall 2 := ⟨⟨k_X10_recall, Or.inl q_1101, by decide +kernel⟩, q_1102, TX10, 49, rfl, q_1103⟩
theorem q_1105 : Cond.methodLink "ColourWorksLaw" 136 yX10_job ∈ gw := gw_at 1105 (by decide +kernel) (by decide +kernel)
theorem q_1106 : Cond.instanceMethod yX10_job ∈ gw := gw_at 1106 (by decide +kernel) (by decide +kernel)
theorem q_1107 : Cond.selects "ColourWorksModel" yX10_job yX10_job ∈ gw := gw_at 1107 (by decide +kernel) (by decide +kernel)
theorem l_L_136 : KV RL 136 10 mX10_job 4 := ⟨⟨k_X10_job, Or.inl q_1105, by decide +kernel⟩, q_1106, TX10, 49, rfl, q_1107⟩
theorem q_1109 : Cond.methodLink "ColourWorksModel" 216 yX10_isHue ∈ gw := gw_at 1109 (by decide +kernel) (by decide +kernel)
theorem q_1110 : Cond.static yX10_isHue ∈ gw := gw_at 1110 (by decide +kernel) (by decide +kernel)
theorem l_X10_216 : KS RX10 216 mX10_isHue 1 := ⟨⟨k_X10_isHue, Or.inl q_1109, by decide +kernel⟩, q_1110⟩
theorem q_1112 : Cond.methodLink "ColourWorksLaw" 140 yX10_cleaning ∈ gw := gw_at 1112 (by decide +kernel) (by decide +kernel)
theorem q_1113 : Cond.instanceMethod yX10_cleaning ∈ gw := gw_at 1113 (by decide +kernel) (by decide +kernel)
theorem q_1114 : Cond.selects "ColourWorksModel" yX10_cleaning yX10_cleaning ∈ gw := gw_at 1114 (by decide +kernel) (by decide +kernel)
theorem l_L_140 : KV RL 140 10 mX10_cleaning 3 := ⟨⟨k_X10_cleaning, Or.inl q_1112, by decide +kernel⟩, q_1113, TX10, 49, rfl, q_1114⟩
theorem q_1116 : Cond.methodLink "ColourWorksLaw" 144 yX10_plan ∈ gw := gw_at 1116 (by decide +kernel) (by decide +kernel)
theorem q_1117 : Cond.instanceMethod yX10_plan ∈ gw := gw_at 1117 (by decide +kernel) (by decide +kernel)
theorem q_1118 : Cond.selects "ColourWorksModel" yX10_plan yX10_plan ∈ gw := gw_at 1118 (by decide +kernel) (by decide +kernel)
theorem l_L_144 : KV RL 144 10 mX10_plan 1 := ⟨⟨k_X10_plan, Or.inl q_1116, by decide +kernel⟩, q_1117, TX10, 49, rfl, q_1118⟩
theorem q_1120 : Cond.methodLink "ColourWorksModel" 226 yX10_bestNext ∈ gw := gw_at 1120 (by decide +kernel) (by decide +kernel)
theorem q_1122 : Cond.instanceMethod yX10_bestNext ∈ gw := gw_at 1122 (by decide +kernel) (by decide +kernel)
theorem q_31 : Cond.selects "ColourWorksModel" yX10_bestNext yX10_bestNext ∈ gw := gw_at 31 (by decide +kernel) (by decide +kernel)
theorem l_X10_226 : KV RX10 226 10 mX10_bestNext 2 := ⟨⟨k_X10_bestNext, Or.inl q_1120, by decide +kernel⟩, q_1122, TX10, 49, rfl, q_31⟩
theorem q_1124 : Cond.methodLink "ColourWorksModel" 222 yX10_through ∈ gw := gw_at 1124 (by decide +kernel) (by decide +kernel)
theorem q_1126 : Cond.instanceMethod yX10_through ∈ gw := gw_at 1126 (by decide +kernel) (by decide +kernel)
theorem q_32 : Cond.selects "ColourWorksModel" yX10_through yX10_through ∈ gw := gw_at 32 (by decide +kernel) (by decide +kernel)
theorem l_X10_222 : KV RX10 222 10 mX10_through 3 := ⟨⟨k_X10_through, Or.inl q_1124, by decide +kernel⟩, q_1126, TX10, 49, rfl, q_32⟩
theorem q_1128 : Cond.methodLink "ColourWorksLaw" 148 yX10_planned ∈ gw := gw_at 1128 (by decide +kernel) (by decide +kernel)
theorem q_1129 : Cond.instanceMethod yX10_planned ∈ gw := gw_at 1129 (by decide +kernel) (by decide +kernel)
theorem q_1130 : Cond.selects "ColourWorksModel" yX10_planned yX10_planned ∈ gw := gw_at 1130 (by decide +kernel) (by decide +kernel)
theorem l_L_148 : KV RL 148 10 mX10_planned 1 := ⟨⟨k_X10_planned, Or.inl q_1128, by decide +kernel⟩, q_1129, TX10, 49, rfl, q_1130⟩
theorem q_1132 : Cond.methodLink "ColourWorksLaw" 152 yX10_idle ∈ gw := gw_at 1132 (by decide +kernel) (by decide +kernel)
theorem q_1133 : Cond.instanceMethod yX10_idle ∈ gw := gw_at 1133 (by decide +kernel) (by decide +kernel)
theorem q_1134 : Cond.selects "ColourWorksModel" yX10_idle yX10_idle ∈ gw := gw_at 1134 (by decide +kernel) (by decide +kernel)
theorem l_L_152 : KV RL 152 10 mX10_idle 0 := ⟨⟨k_X10_idle, Or.inl q_1132, by decide +kernel⟩, q_1133, TX10, 49, rfl, q_1134⟩
theorem q_1136 : Cond.methodLink "ColourWorksLaw" 156 yX10_count ∈ gw := gw_at 1136 (by decide +kernel) (by decide +kernel)
theorem q_1137 : Cond.instanceMethod yX10_count ∈ gw := gw_at 1137 (by decide +kernel) (by decide +kernel)
theorem q_1138 : Cond.selects "ColourWorksModel" yX10_count yX10_count ∈ gw := gw_at 1138 (by decide +kernel) (by decide +kernel)
theorem l_L_156 : KV RL 156 10 mX10_count 1 := ⟨⟨k_X10_count, Or.inl q_1136, by decide +kernel⟩, q_1137, TX10, 49, rfl, q_1138⟩
theorem q_518 : Cond.constant "ColourWorks" 208 (1000000) ∈ gw := gw_at 518 (by decide +kernel) (by decide +kernel)
theorem v_X9_208 : Cond.constant RX9 208 (1000000) ∈ gw := q_518
theorem q_545 : Cond.constant "ColourWorks$DropSearch" 72 (1000001) ∈ gw := gw_at 545 (by decide +kernel) (by decide +kernel)
theorem v_X2_72 : Cond.constant RX2 72 (1000001) ∈ gw := q_545
theorem q_557 : Cond.constantLong "ColourWorks" 307 (1000000) ∈ gw := gw_at 557 (by decide +kernel) (by decide +kernel)
theorem v_X9_307 : Cond.constantLong RX9 307 (1000000) ∈ gw := q_557
theorem q_558 : Cond.constantLong "ColourWorks" 309 (1000) ∈ gw := gw_at 558 (by decide +kernel) (by decide +kernel)
theorem v_X9_309 : Cond.constantLong RX9 309 (1000) ∈ gw := q_558
theorem q_614 : Cond.constant "ColourWorks" 201 (60000) ∈ gw := gw_at 614 (by decide +kernel) (by decide +kernel)
theorem v_X9_201 : Cond.constant RX9 201 (60000) ∈ gw := q_614
theorem q_689 : Cond.constant "java/lang/Integer" 265 (1431655765) ∈ gw := gw_at 689 (by decide +kernel) (by decide +kernel)
theorem v_J6_265 : Cond.constant RJ6 265 (1431655765) ∈ gw := q_689
theorem q_690 : Cond.constant "java/lang/Integer" 266 (858993459) ∈ gw := gw_at 690 (by decide +kernel) (by decide +kernel)
theorem v_J6_266 : Cond.constant RJ6 266 (858993459) ∈ gw := q_690
theorem q_691 : Cond.constant "java/lang/Integer" 267 (252645135) ∈ gw := gw_at 691 (by decide +kernel) (by decide +kernel)
theorem v_J6_267 : Cond.constant RJ6 267 (252645135) ∈ gw := q_691
theorem q_695 : Cond.constantLong "java/lang/Long" 314 (6148914691236517205) ∈ gw := gw_at 695 (by decide +kernel) (by decide +kernel)
theorem v_J13_314 : Cond.constantLong RJ13 314 (6148914691236517205) ∈ gw := q_695
theorem q_696 : Cond.constantLong "java/lang/Long" 316 (3689348814741910323) ∈ gw := gw_at 696 (by decide +kernel) (by decide +kernel)
theorem v_J13_316 : Cond.constantLong RJ13 316 (3689348814741910323) ∈ gw := q_696
theorem q_697 : Cond.constantLong "java/lang/Long" 318 (1085102592571150095) ∈ gw := gw_at 697 (by decide +kernel) (by decide +kernel)
theorem v_J13_318 : Cond.constantLong RJ13 318 (1085102592571150095) ∈ gw := q_697
theorem q_1019 : Cond.constant "ColourWorksModel" 175 (1000000) ∈ gw := gw_at 1019 (by decide +kernel) (by decide +kernel)
theorem v_X10_175 : Cond.constant RX10 175 (1000000) ∈ gw := q_1019
theorem q_1028 : Cond.constantLong "ColourWorksModel" 176 (1000) ∈ gw := gw_at 1028 (by decide +kernel) (by decide +kernel)
theorem v_X10_176 : Cond.constantLong RX10 176 (1000) ∈ gw := q_1028
theorem q_1029 : Cond.constantLong "ColourWorksModel" 178 (1000000) ∈ gw := gw_at 1029 (by decide +kernel) (by decide +kernel)
theorem v_X10_178 : Cond.constantLong RX10 178 (1000000) ∈ gw := q_1029
theorem q_1061 : Cond.constant "ColourWorksModel" 202 (60000) ∈ gw := gw_at 1061 (by decide +kernel) (by decide +kernel)
theorem v_X10_202 : Cond.constant RX10 202 (60000) ∈ gw := q_1061
