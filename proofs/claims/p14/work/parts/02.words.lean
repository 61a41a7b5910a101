theorem goodIn_of2 {big : List Cond} (ws : List Cond) (ps : List Nat) (hp : ws = ps.filterMap (fun i => big[i]?)) : ∀ w ∈ ws, w ∈ big := sorry
def wsA : List Cond := []
theorem inX0 : ∀ w ∈ wsX00, w ∈ wsA := sorry
theorem tbX0 : ∀ w ∈ wsX00, w ∈ lw_tbl := sorry
theorem wsX00_good : wsX00.all goodWord = true := sorry
theorem inX1 : ∀ w ∈ wsX10, w ∈ wsA := sorry
theorem tbX1 : ∀ w ∈ wsX10, w ∈ lw_tbl := sorry
theorem wsX10_good : wsX10.all goodWord = true := sorry
theorem inX2 : ∀ w ∈ wsX20, w ∈ wsA := sorry
theorem tbX2 : ∀ w ∈ wsX20, w ∈ lw_tbl := sorry
theorem wsX20_good : wsX20.all goodWord = true := sorry
theorem inX3 : ∀ w ∈ wsX30, w ∈ wsA := sorry
theorem tbX3 : ∀ w ∈ wsX30, w ∈ lw_tbl := sorry
theorem wsX30_good : wsX30.all goodWord = true := sorry
theorem inX4 : ∀ w ∈ wsX40, w ∈ wsA := sorry
theorem tbX4 : ∀ w ∈ wsX40, w ∈ lw_tbl := sorry
theorem wsX40_good : wsX40.all goodWord = true := sorry
theorem inX5 : ∀ w ∈ wsX50, w ∈ wsA := sorry
theorem tbX5 : ∀ w ∈ wsX50, w ∈ lw_tbl := sorry
theorem wsX50_good : wsX50.all goodWord = true := sorry
theorem inX6 : ∀ w ∈ wsX60, w ∈ wsA := sorry
theorem tbX6 : ∀ w ∈ wsX60, w ∈ lw_tbl := sorry
theorem wsX60_good : wsX60.all goodWord = true := sorry
theorem inX7 : ∀ w ∈ wsX70, w ∈ wsA := sorry
theorem tbX7 : ∀ w ∈ wsX70, w ∈ lw_tbl := sorry
theorem wsX70_good : wsX70.all goodWord = true := sorry
theorem inX8 : ∀ w ∈ wsX80, w ∈ wsA := sorry
theorem tbX8 : ∀ w ∈ wsX80, w ∈ lw_tbl := sorry
theorem wsX80_good : wsX80.all goodWord = true := sorry
theorem inX9 : ∀ w ∈ wsX90, w ∈ wsA := sorry
theorem tbX9 : ∀ w ∈ wsX90, w ∈ lw_tbl := sorry
theorem wsX90_good : wsX90.all goodWord = true := sorry
theorem inX10 : ∀ w ∈ wsX100, w ∈ wsA := sorry
theorem tbX10 : ∀ w ∈ wsX100, w ∈ lw_tbl := sorry
theorem wsX100_good : wsX100.all goodWord = true := sorry
theorem inX11 : ∀ w ∈ wsX110, w ∈ wsA := sorry
theorem tbX11 : ∀ w ∈ wsX110, w ∈ lw_tbl := sorry
theorem wsX110_good : wsX110.all goodWord = true := sorry
theorem inX12 : ∀ w ∈ wsX120, w ∈ wsA := sorry
theorem tbX12 : ∀ w ∈ wsX120, w ∈ lw_tbl := sorry
theorem wsX120_good : wsX120.all goodWord = true := sorry
theorem inX13 : ∀ w ∈ wsX130, w ∈ wsA := sorry
theorem tbX13 : ∀ w ∈ wsX130, w ∈ lw_tbl := sorry
theorem wsX130_good : wsX130.all goodWord = true := sorry
theorem wl_good0 : ∀ w ∈ wsA, goodWord w = true := sorry
theorem wl_good : wsA.all goodWord = true := sorry
theorem hd_yX9_copyFrom : yX9_copyFrom.cls ≠ "java/lang/invoke/MethodHandle" ∧ yX9_copyFrom.cls ≠ "java/lang/invoke/VarHandle" ∧ (parseMethodDescriptor yX9_copyFrom.desc).map (fun d => d.parameters.length) = some 1 := sorry
theorem hd_yX9_closeDuel : yX9_closeDuel.cls ≠ "java/lang/invoke/MethodHandle" ∧ yX9_closeDuel.cls ≠ "java/lang/invoke/VarHandle" ∧ (parseMethodDescriptor yX9_closeDuel.desc).map (fun d => d.parameters.length) = some 0 := sorry
theorem hd_yJ7_fill_53178 : yJ7_fill_53178.cls ≠ "java/lang/invoke/MethodHandle" ∧ yJ7_fill_53178.cls ≠ "java/lang/invoke/VarHandle" ∧ (parseMethodDescriptor yJ7_fill_53178.desc).map (fun d => d.parameters.length) = some 2 := sorry
theorem hd_yX2_howManyOf : yX2_howManyOf.cls ≠ "java/lang/invoke/MethodHandle" ∧ yX2_howManyOf.cls ≠ "java/lang/invoke/VarHandle" ∧ (parseMethodDescriptor yX2_howManyOf.desc).map (fun d => d.parameters.length) = some 1 := sorry
theorem hd_yX0_draw : yX0_draw.cls ≠ "java/lang/invoke/MethodHandle" ∧ yX0_draw.cls ≠ "java/lang/invoke/VarHandle" ∧ (parseMethodDescriptor yX0_draw.desc).map (fun d => d.parameters.length) = some 1 := sorry
theorem hd_yX0_singerOf : yX0_singerOf.cls ≠ "java/lang/invoke/MethodHandle" ∧ yX0_singerOf.cls ≠ "java/lang/invoke/VarHandle" ∧ (parseMethodDescriptor yX0_singerOf.desc).map (fun d => d.parameters.length) = some 2 := sorry
theorem hd_yX9_openDuel : yX9_openDuel.cls ≠ "java/lang/invoke/MethodHandle" ∧ yX9_openDuel.cls ≠ "java/lang/invoke/VarHandle" ∧ (parseMethodDescriptor yX9_openDuel.desc).map (fun d => d.parameters.length) = some 3 := sorry
theorem hd_yX9_isDuel : yX9_isDuel.cls ≠ "java/lang/invoke/MethodHandle" ∧ yX9_isDuel.cls ≠ "java/lang/invoke/VarHandle" ∧ (parseMethodDescriptor yX9_isDuel.desc).map (fun d => d.parameters.length) = some 0 := sorry
theorem hd_yX9_whoHears : yX9_whoHears.cls ≠ "java/lang/invoke/MethodHandle" ∧ yX9_whoHears.cls ≠ "java/lang/invoke/VarHandle" ∧ (parseMethodDescriptor yX9_whoHears.desc).map (fun d => d.parameters.length) = some 0 := sorry
theorem hd_yX2_lawInForce : yX2_lawInForce.cls ≠ "java/lang/invoke/MethodHandle" ∧ yX2_lawInForce.cls ≠ "java/lang/invoke/VarHandle" ∧ (parseMethodDescriptor yX2_lawInForce.desc).map (fun d => d.parameters.length) = some 0 := sorry
theorem hd_yX7_has : yX7_has.cls ≠ "java/lang/invoke/MethodHandle" ∧ yX7_has.cls ≠ "java/lang/invoke/VarHandle" ∧ (parseMethodDescriptor yX7_has.desc).map (fun d => d.parameters.length) = some 1 := sorry
theorem hd_yX9_whoSings : yX9_whoSings.cls ≠ "java/lang/invoke/MethodHandle" ∧ yX9_whoSings.cls ≠ "java/lang/invoke/VarHandle" ∧ (parseMethodDescriptor yX9_whoSings.desc).map (fun d => d.parameters.length) = some 0 := sorry
theorem hd_yX8_setVerse : yX8_setVerse.cls ≠ "java/lang/invoke/MethodHandle" ∧ yX8_setVerse.cls ≠ "java/lang/invoke/VarHandle" ∧ (parseMethodDescriptor yX8_setVerse.desc).map (fun d => d.parameters.length) = some 4 := sorry
theorem hd_yX8_setWords : yX8_setWords.cls ≠ "java/lang/invoke/MethodHandle" ∧ yX8_setWords.cls ≠ "java/lang/invoke/VarHandle" ∧ (parseMethodDescriptor yX8_setWords.desc).map (fun d => d.parameters.length) = some 2 := sorry
theorem hd_yX7_sumOf : yX7_sumOf.cls ≠ "java/lang/invoke/MethodHandle" ∧ yX7_sumOf.cls ≠ "java/lang/invoke/VarHandle" ∧ (parseMethodDescriptor yX7_sumOf.desc).map (fun d => d.parameters.length) = some 2 := sorry
theorem hd_yX11_workOut : yX11_workOut.cls ≠ "java/lang/invoke/MethodHandle" ∧ yX11_workOut.cls ≠ "java/lang/invoke/VarHandle" ∧ (parseMethodDescriptor yX11_workOut.desc).map (fun d => d.parameters.length) = some 2 := sorry
theorem hd_yX8_isTold : yX8_isTold.cls ≠ "java/lang/invoke/MethodHandle" ∧ yX8_isTold.cls ≠ "java/lang/invoke/VarHandle" ∧ (parseMethodDescriptor yX8_isTold.desc).map (fun d => d.parameters.length) = some 1 := sorry
theorem hd_yX8_isBarred : yX8_isBarred.cls ≠ "java/lang/invoke/MethodHandle" ∧ yX8_isBarred.cls ≠ "java/lang/invoke/VarHandle" ∧ (parseMethodDescriptor yX8_isBarred.desc).map (fun d => d.parameters.length) = some 2 := sorry
theorem hd_yX0_listOpen : yX0_listOpen.cls ≠ "java/lang/invoke/MethodHandle" ∧ yX0_listOpen.cls ≠ "java/lang/invoke/VarHandle" ∧ (parseMethodDescriptor yX0_listOpen.desc).map (fun d => d.parameters.length) = some 0 := sorry
theorem hd_yX8_nearest : yX8_nearest.cls ≠ "java/lang/invoke/MethodHandle" ∧ yX8_nearest.cls ≠ "java/lang/invoke/VarHandle" ∧ (parseMethodDescriptor yX8_nearest.desc).map (fun d => d.parameters.length) = some 2 := sorry
theorem hd_yX8_lullByWords : yX8_lullByWords.cls ≠ "java/lang/invoke/MethodHandle" ∧ yX8_lullByWords.cls ≠ "java/lang/invoke/VarHandle" ∧ (parseMethodDescriptor yX8_lullByWords.desc).map (fun d => d.parameters.length) = some 0 := sorry
theorem hd_yX8_tireByWords : yX8_tireByWords.cls ≠ "java/lang/invoke/MethodHandle" ∧ yX8_tireByWords.cls ≠ "java/lang/invoke/VarHandle" ∧ (parseMethodDescriptor yX8_tireByWords.desc).map (fun d => d.parameters.length) = some 0 := sorry
theorem hd_yX9_passTurn : yX9_passTurn.cls ≠ "java/lang/invoke/MethodHandle" ∧ yX9_passTurn.cls ≠ "java/lang/invoke/VarHandle" ∧ (parseMethodDescriptor yX9_passTurn.desc).map (fun d => d.parameters.length) = some 0 := sorry
theorem hd_yX9_moveCows : yX9_moveCows.cls ≠ "java/lang/invoke/MethodHandle" ∧ yX9_moveCows.cls ≠ "java/lang/invoke/VarHandle" ∧ (parseMethodDescriptor yX9_moveCows.desc).map (fun d => d.parameters.length) = some 2 := sorry
theorem hd_yX8_singOn : yX8_singOn.cls ≠ "java/lang/invoke/MethodHandle" ∧ yX8_singOn.cls ≠ "java/lang/invoke/VarHandle" ∧ (parseMethodDescriptor yX8_singOn.desc).map (fun d => d.parameters.length) = some 2 := sorry
theorem hd_yX0_singDay : yX0_singDay.cls ≠ "java/lang/invoke/MethodHandle" ∧ yX0_singDay.cls ≠ "java/lang/invoke/VarHandle" ∧ (parseMethodDescriptor yX0_singDay.desc).map (fun d => d.parameters.length) = some 0 := sorry
theorem hd_yX8_howWakes : yX8_howWakes.cls ≠ "java/lang/invoke/MethodHandle" ∧ yX8_howWakes.cls ≠ "java/lang/invoke/VarHandle" ∧ (parseMethodDescriptor yX8_howWakes.desc).map (fun d => d.parameters.length) = some 2 := sorry
theorem hd_yX8_dawnOn : yX8_dawnOn.cls ≠ "java/lang/invoke/MethodHandle" ∧ yX8_dawnOn.cls ≠ "java/lang/invoke/VarHandle" ∧ (parseMethodDescriptor yX8_dawnOn.desc).map (fun d => d.parameters.length) = some 1 := sorry
theorem hd_yX12_within : yX12_within.cls ≠ "java/lang/invoke/MethodHandle" ∧ yX12_within.cls ≠ "java/lang/invoke/VarHandle" ∧ (parseMethodDescriptor yX12_within.desc).map (fun d => d.parameters.length) = some 3 := sorry
theorem hd_yX2_isSinger : yX2_isSinger.cls ≠ "java/lang/invoke/MethodHandle" ∧ yX2_isSinger.cls ≠ "java/lang/invoke/VarHandle" ∧ (parseMethodDescriptor yX2_isSinger.desc).map (fun d => d.parameters.length) = some 1 := sorry
theorem hd_yX2_areFoes : yX2_areFoes.cls ≠ "java/lang/invoke/MethodHandle" ∧ yX2_areFoes.cls ≠ "java/lang/invoke/VarHandle" ∧ (parseMethodDescriptor yX2_areFoes.desc).map (fun d => d.parameters.length) = some 2 := sorry
theorem hd_yX9_canBegin : yX9_canBegin.cls ≠ "java/lang/invoke/MethodHandle" ∧ yX9_canBegin.cls ≠ "java/lang/invoke/VarHandle" ∧ (parseMethodDescriptor yX9_canBegin.desc).map (fun d => d.parameters.length) = some 1 := sorry
theorem hd_yX1_remember : yX1_remember.cls ≠ "java/lang/invoke/MethodHandle" ∧ yX1_remember.cls ≠ "java/lang/invoke/VarHandle" ∧ (parseMethodDescriptor yX1_remember.desc).map (fun d => d.parameters.length) = some 1 := sorry
theorem hd_yX2_isVerse : yX2_isVerse.cls ≠ "java/lang/invoke/MethodHandle" ∧ yX2_isVerse.cls ≠ "java/lang/invoke/VarHandle" ∧ (parseMethodDescriptor yX2_isVerse.desc).map (fun d => d.parameters.length) = some 1 := sorry
theorem hd_yX2_asleepWith : yX2_asleepWith.cls ≠ "java/lang/invoke/MethodHandle" ∧ yX2_asleepWith.cls ≠ "java/lang/invoke/VarHandle" ∧ (parseMethodDescriptor yX2_asleepWith.desc).map (fun d => d.parameters.length) = some 1 := sorry
theorem hd_yX2_oneRoundMore : yX2_oneRoundMore.cls ≠ "java/lang/invoke/MethodHandle" ∧ yX2_oneRoundMore.cls ≠ "java/lang/invoke/VarHandle" ∧ (parseMethodDescriptor yX2_oneRoundMore.desc).map (fun d => d.parameters.length) = some 2 := sorry
theorem hd_yJ6_bitCount_0f7a4 : yJ6_bitCount_0f7a4.cls ≠ "java/lang/invoke/MethodHandle" ∧ yJ6_bitCount_0f7a4.cls ≠ "java/lang/invoke/VarHandle" ∧ (parseMethodDescriptor yJ6_bitCount_0f7a4.desc).map (fun d => d.parameters.length) = some 1 := sorry
theorem hd_yX2_asleepBehind : yX2_asleepBehind.cls ≠ "java/lang/invoke/MethodHandle" ∧ yX2_asleepBehind.cls ≠ "java/lang/invoke/VarHandle" ∧ (parseMethodDescriptor yX2_asleepBehind.desc).map (fun d => d.parameters.length) = some 2 := sorry
theorem hd_yX3_joinMore : yX3_joinMore.cls ≠ "java/lang/invoke/MethodHandle" ∧ yX3_joinMore.cls ≠ "java/lang/invoke/VarHandle" ∧ (parseMethodDescriptor yX3_joinMore.desc).map (fun d => d.parameters.length) = some 4 := sorry
theorem hd_yX1_save : yX1_save.cls ≠ "java/lang/invoke/MethodHandle" ∧ yX1_save.cls ≠ "java/lang/invoke/VarHandle" ∧ (parseMethodDescriptor yX1_save.desc).map (fun d => d.parameters.length) = some 0 := sorry
theorem hd_yX4_setWords : yX4_setWords.cls ≠ "java/lang/invoke/MethodHandle" ∧ yX4_setWords.cls ≠ "java/lang/invoke/VarHandle" ∧ (parseMethodDescriptor yX4_setWords.desc).map (fun d => d.parameters.length) = some 0 := sorry
theorem hd_yX1_nextDay : yX1_nextDay.cls ≠ "java/lang/invoke/MethodHandle" ∧ yX1_nextDay.cls ≠ "java/lang/invoke/VarHandle" ∧ (parseMethodDescriptor yX1_nextDay.desc).map (fun d => d.parameters.length) = some 0 := sorry
theorem hd_yX1_leaveDuel : yX1_leaveDuel.cls ≠ "java/lang/invoke/MethodHandle" ∧ yX1_leaveDuel.cls ≠ "java/lang/invoke/VarHandle" ∧ (parseMethodDescriptor yX1_leaveDuel.desc).map (fun d => d.parameters.length) = some 0 := sorry
theorem hd_yX1_singVerse : yX1_singVerse.cls ≠ "java/lang/invoke/MethodHandle" ∧ yX1_singVerse.cls ≠ "java/lang/invoke/VarHandle" ∧ (parseMethodDescriptor yX1_singVerse.desc).map (fun d => d.parameters.length) = some 1 := sorry
theorem hd_yX1_openDuel : yX1_openDuel.cls ≠ "java/lang/invoke/MethodHandle" ∧ yX1_openDuel.cls ≠ "java/lang/invoke/VarHandle" ∧ (parseMethodDescriptor yX1_openDuel.desc).map (fun d => d.parameters.length) = some 3 := sorry
theorem hd_yX4_doBegin : yX4_doBegin.cls ≠ "java/lang/invoke/MethodHandle" ∧ yX4_doBegin.cls ≠ "java/lang/invoke/VarHandle" ∧ (parseMethodDescriptor yX4_doBegin.desc).map (fun d => d.parameters.length) = some 2 := sorry
theorem hd_yX4_doDeed : yX4_doDeed.cls ≠ "java/lang/invoke/MethodHandle" ∧ yX4_doDeed.cls ≠ "java/lang/invoke/VarHandle" ∧ (parseMethodDescriptor yX4_doDeed.desc).map (fun d => d.parameters.length) = some 2 := sorry
theorem hd_yX1_restore : yX1_restore.cls ≠ "java/lang/invoke/MethodHandle" ∧ yX1_restore.cls ≠ "java/lang/invoke/VarHandle" ∧ (parseMethodDescriptor yX1_restore.desc).map (fun d => d.parameters.length) = some 0 := sorry
theorem hd_yX5_worthOf : yX5_worthOf.cls ≠ "java/lang/invoke/MethodHandle" ∧ yX5_worthOf.cls ≠ "java/lang/invoke/VarHandle" ∧ (parseMethodDescriptor yX5_worthOf.desc).map (fun d => d.parameters.length) = some 3 := sorry
theorem hd_yX5_openBout : yX5_openBout.cls ≠ "java/lang/invoke/MethodHandle" ∧ yX5_openBout.cls ≠ "java/lang/invoke/VarHandle" ∧ (parseMethodDescriptor yX5_openBout.desc).map (fun d => d.parameters.length) = some 2 := sorry
theorem hd_yX5_resultAtOnce : yX5_resultAtOnce.cls ≠ "java/lang/invoke/MethodHandle" ∧ yX5_resultAtOnce.cls ≠ "java/lang/invoke/VarHandle" ∧ (parseMethodDescriptor yX5_resultAtOnce.desc).map (fun d => d.parameters.length) = some 2 := sorry
theorem hd_yX5_resultByVerses : yX5_resultByVerses.cls ≠ "java/lang/invoke/MethodHandle" ∧ yX5_resultByVerses.cls ≠ "java/lang/invoke/VarHandle" ∧ (parseMethodDescriptor yX5_resultByVerses.desc).map (fun d => d.parameters.length) = some 4 := sorry
theorem hd_yX8_howLulls : yX8_howLulls.cls ≠ "java/lang/invoke/MethodHandle" ∧ yX8_howLulls.cls ≠ "java/lang/invoke/VarHandle" ∧ (parseMethodDescriptor yX8_howLulls.desc).map (fun d => d.parameters.length) = some 2 := sorry
theorem hd_yX5_strongestLull : yX5_strongestLull.cls ≠ "java/lang/invoke/MethodHandle" ∧ yX5_strongestLull.cls ≠ "java/lang/invoke/VarHandle" ∧ (parseMethodDescriptor yX5_strongestLull.desc).map (fun d => d.parameters.length) = some 0 := sorry
theorem hd_yX5_resultByRule : yX5_resultByRule.cls ≠ "java/lang/invoke/MethodHandle" ∧ yX5_resultByRule.cls ≠ "java/lang/invoke/VarHandle" ∧ (parseMethodDescriptor yX5_resultByRule.desc).map (fun d => d.parameters.length) = some 2 := sorry
theorem hd_yX5_chooseFrom : yX5_chooseFrom.cls ≠ "java/lang/invoke/MethodHandle" ∧ yX5_chooseFrom.cls ≠ "java/lang/invoke/VarHandle" ∧ (parseMethodDescriptor yX5_chooseFrom.desc).map (fun d => d.parameters.length) = some 4 := sorry
theorem hd_yX7_clear : yX7_clear.cls ≠ "java/lang/invoke/MethodHandle" ∧ yX7_clear.cls ≠ "java/lang/invoke/VarHandle" ∧ (parseMethodDescriptor yX7_clear.desc).map (fun d => d.parameters.length) = some 0 := sorry
theorem hd_yX6_kindOf : yX6_kindOf.cls ≠ "java/lang/invoke/MethodHandle" ∧ yX6_kindOf.cls ≠ "java/lang/invoke/VarHandle" ∧ (parseMethodDescriptor yX6_kindOf.desc).map (fun d => d.parameters.length) = some 1 := sorry
theorem hd_yX6_step : yX6_step.cls ≠ "java/lang/invoke/MethodHandle" ∧ yX6_step.cls ≠ "java/lang/invoke/VarHandle" ∧ (parseMethodDescriptor yX6_step.desc).map (fun d => d.parameters.length) = some 0 := sorry
theorem hd_yX6_isGood : yX6_isGood.cls ≠ "java/lang/invoke/MethodHandle" ∧ yX6_isGood.cls ≠ "java/lang/invoke/VarHandle" ∧ (parseMethodDescriptor yX6_isGood.desc).map (fun d => d.parameters.length) = some 0 := sorry
theorem hd_yJ0_coder_7d493 : yJ0_coder_7d493.cls ≠ "java/lang/invoke/MethodHandle" ∧ yJ0_coder_7d493.cls ≠ "java/lang/invoke/VarHandle" ∧ (parseMethodDescriptor yJ0_coder_7d493.desc).map (fun d => d.parameters.length) = some 0 := sorry
theorem hd_yJ0_length_8abf5 : yJ0_length_8abf5.cls ≠ "java/lang/invoke/MethodHandle" ∧ yJ0_length_8abf5.cls ≠ "java/lang/invoke/VarHandle" ∧ (parseMethodDescriptor yJ0_length_8abf5.desc).map (fun d => d.parameters.length) = some 0 := sorry
theorem hd_yJ0_isLatin1_aae02 : yJ0_isLatin1_aae02.cls ≠ "java/lang/invoke/MethodHandle" ∧ yJ0_isLatin1_aae02.cls ≠ "java/lang/invoke/VarHandle" ∧ (parseMethodDescriptor yJ0_isLatin1_aae02.desc).map (fun d => d.parameters.length) = some 0 := sorry
theorem hd_yJ3_checkIndex_8e157 : yJ3_checkIndex_8e157.cls ≠ "java/lang/invoke/MethodHandle" ∧ yJ3_checkIndex_8e157.cls ≠ "java/lang/invoke/VarHandle" ∧ (parseMethodDescriptor yJ3_checkIndex_8e157.desc).map (fun d => d.parameters.length) = some 3 := sorry
theorem hd_yJ0_checkIndex_df160 : yJ0_checkIndex_df160.cls ≠ "java/lang/invoke/MethodHandle" ∧ yJ0_checkIndex_df160.cls ≠ "java/lang/invoke/VarHandle" ∧ (parseMethodDescriptor yJ0_checkIndex_df160.desc).map (fun d => d.parameters.length) = some 2 := sorry
theorem hd_yJ1_charAt_3b067 : yJ1_charAt_3b067.cls ≠ "java/lang/invoke/MethodHandle" ∧ yJ1_charAt_3b067.cls ≠ "java/lang/invoke/VarHandle" ∧ (parseMethodDescriptor yJ1_charAt_3b067.desc).map (fun d => d.parameters.length) = some 2 := sorry
theorem hd_yJ0_charAt_5068e : yJ0_charAt_5068e.cls ≠ "java/lang/invoke/MethodHandle" ∧ yJ0_charAt_5068e.cls ≠ "java/lang/invoke/VarHandle" ∧ (parseMethodDescriptor yJ0_charAt_5068e.desc).map (fun d => d.parameters.length) = some 1 := sorry
theorem hd_yX6_isToken : yX6_isToken.cls ≠ "java/lang/invoke/MethodHandle" ∧ yX6_isToken.cls ≠ "java/lang/invoke/VarHandle" ∧ (parseMethodDescriptor yX6_isToken.desc).map (fun d => d.parameters.length) = some 3 := sorry
theorem hd_yX6_wordAmong : yX6_wordAmong.cls ≠ "java/lang/invoke/MethodHandle" ∧ yX6_wordAmong.cls ≠ "java/lang/invoke/VarHandle" ∧ (parseMethodDescriptor yX6_wordAmong.desc).map (fun d => d.parameters.length) = some 1 := sorry
theorem hd_yX7_openClause : yX7_openClause.cls ≠ "java/lang/invoke/MethodHandle" ∧ yX7_openClause.cls ≠ "java/lang/invoke/VarHandle" ∧ (parseMethodDescriptor yX7_openClause.desc).map (fun d => d.parameters.length) = some 1 := sorry
theorem hd_yX6_isSign : yX6_isSign.cls ≠ "java/lang/invoke/MethodHandle" ∧ yX6_isSign.cls ≠ "java/lang/invoke/VarHandle" ∧ (parseMethodDescriptor yX6_isSign.desc).map (fun d => d.parameters.length) = some 1 := sorry
theorem hd_yX7_put : yX7_put.cls ≠ "java/lang/invoke/MethodHandle" ∧ yX7_put.cls ≠ "java/lang/invoke/VarHandle" ∧ (parseMethodDescriptor yX7_put.desc).map (fun d => d.parameters.length) = some 2 := sorry
theorem hd_yX6_fail : yX6_fail.cls ≠ "java/lang/invoke/MethodHandle" ∧ yX6_fail.cls ≠ "java/lang/invoke/VarHandle" ∧ (parseMethodDescriptor yX6_fail.desc).map (fun d => d.parameters.length) = some 0 := sorry
theorem hd_yX6_readOwner : yX6_readOwner.cls ≠ "java/lang/invoke/MethodHandle" ∧ yX6_readOwner.cls ≠ "java/lang/invoke/VarHandle" ∧ (parseMethodDescriptor yX6_readOwner.desc).map (fun d => d.parameters.length) = some 1 := sorry
theorem hd_yX6_noteLawWord : yX6_noteLawWord.cls ≠ "java/lang/invoke/MethodHandle" ∧ yX6_noteLawWord.cls ≠ "java/lang/invoke/VarHandle" ∧ (parseMethodDescriptor yX6_noteLawWord.desc).map (fun d => d.parameters.length) = some 1 := sorry
theorem hd_yX6_goDeeper : yX6_goDeeper.cls ≠ "java/lang/invoke/MethodHandle" ∧ yX6_goDeeper.cls ≠ "java/lang/invoke/VarHandle" ∧ (parseMethodDescriptor yX6_goDeeper.desc).map (fun d => d.parameters.length) = some 0 := sorry
theorem hd_yX6_readPart : yX6_readPart.cls ≠ "java/lang/invoke/MethodHandle" ∧ yX6_readPart.cls ≠ "java/lang/invoke/VarHandle" ∧ (parseMethodDescriptor yX6_readPart.desc).map (fun d => d.parameters.length) = some 0 := sorry
theorem hd_yX6_readTerm : yX6_readTerm.cls ≠ "java/lang/invoke/MethodHandle" ∧ yX6_readTerm.cls ≠ "java/lang/invoke/VarHandle" ∧ (parseMethodDescriptor yX6_readTerm.desc).map (fun d => d.parameters.length) = some 0 := sorry
theorem hd_yX6_readSum : yX6_readSum.cls ≠ "java/lang/invoke/MethodHandle" ∧ yX6_readSum.cls ≠ "java/lang/invoke/VarHandle" ∧ (parseMethodDescriptor yX6_readSum.desc).map (fun d => d.parameters.length) = some 0 := sorry
theorem hd_yX6_take : yX6_take.cls ≠ "java/lang/invoke/MethodHandle" ∧ yX6_take.cls ≠ "java/lang/invoke/VarHandle" ∧ (parseMethodDescriptor yX6_take.desc).map (fun d => d.parameters.length) = some 1 := sorry
theorem hd_yX6_readWholeSum : yX6_readWholeSum.cls ≠ "java/lang/invoke/MethodHandle" ∧ yX6_readWholeSum.cls ≠ "java/lang/invoke/VarHandle" ∧ (parseMethodDescriptor yX6_readWholeSum.desc).map (fun d => d.parameters.length) = some 2 := sorry
theorem hd_yX6_isWord : yX6_isWord.cls ≠ "java/lang/invoke/MethodHandle" ∧ yX6_isWord.cls ≠ "java/lang/invoke/VarHandle" ∧ (parseMethodDescriptor yX6_isWord.desc).map (fun d => d.parameters.length) = some 1 := sorry
theorem hd_yX6_takeWord : yX6_takeWord.cls ≠ "java/lang/invoke/MethodHandle" ∧ yX6_takeWord.cls ≠ "java/lang/invoke/VarHandle" ∧ (parseMethodDescriptor yX6_takeWord.desc).map (fun d => d.parameters.length) = some 1 := sorry
theorem hd_yX6_readTimes : yX6_readTimes.cls ≠ "java/lang/invoke/MethodHandle" ∧ yX6_readTimes.cls ≠ "java/lang/invoke/VarHandle" ∧ (parseMethodDescriptor yX6_readTimes.desc).map (fun d => d.parameters.length) = some 1 := sorry
theorem hd_yX6_readPlain : yX6_readPlain.cls ≠ "java/lang/invoke/MethodHandle" ∧ yX6_readPlain.cls ≠ "java/lang/invoke/VarHandle" ∧ (parseMethodDescriptor yX6_readPlain.desc).map (fun d => d.parameters.length) = some 0 := sorry
theorem hd_yX6_landHere : yX6_landHere.cls ≠ "java/lang/invoke/MethodHandle" ∧ yX6_landHere.cls ≠ "java/lang/invoke/VarHandle" ∧ (parseMethodDescriptor yX6_landHere.desc).map (fun d => d.parameters.length) = some 1 := sorry
theorem hd_yX6_readBoth : yX6_readBoth.cls ≠ "java/lang/invoke/MethodHandle" ∧ yX6_readBoth.cls ≠ "java/lang/invoke/VarHandle" ∧ (parseMethodDescriptor yX6_readBoth.desc).map (fun d => d.parameters.length) = some 0 := sorry
theorem hd_yX6_readTest : yX6_readTest.cls ≠ "java/lang/invoke/MethodHandle" ∧ yX6_readTest.cls ≠ "java/lang/invoke/VarHandle" ∧ (parseMethodDescriptor yX6_readTest.desc).map (fun d => d.parameters.length) = some 0 := sorry
theorem hd_yX6_readClause : yX6_readClause.cls ≠ "java/lang/invoke/MethodHandle" ∧ yX6_readClause.cls ≠ "java/lang/invoke/VarHandle" ∧ (parseMethodDescriptor yX6_readClause.desc).map (fun d => d.parameters.length) = some 1 := sorry
theorem hd_yX8_setStranger : yX8_setStranger.cls ≠ "java/lang/invoke/MethodHandle" ∧ yX8_setStranger.cls ≠ "java/lang/invoke/VarHandle" ∧ (parseMethodDescriptor yX8_setStranger.desc).map (fun d => d.parameters.length) = some 5 := sorry
theorem hd_yX8_isLullByWake : yX8_isLullByWake.cls ≠ "java/lang/invoke/MethodHandle" ∧ yX8_isLullByWake.cls ≠ "java/lang/invoke/VarHandle" ∧ (parseMethodDescriptor yX8_isLullByWake.desc).map (fun d => d.parameters.length) = some 0 := sorry
theorem hd_yX8_lullsAt : yX8_lullsAt.cls ≠ "java/lang/invoke/MethodHandle" ∧ yX8_lullsAt.cls ≠ "java/lang/invoke/VarHandle" ∧ (parseMethodDescriptor yX8_lullsAt.desc).map (fun d => d.parameters.length) = some 1 := sorry
theorem hd_yX10_hearOne : yX10_hearOne.cls ≠ "java/lang/invoke/MethodHandle" ∧ yX10_hearOne.cls ≠ "java/lang/invoke/VarHandle" ∧ (parseMethodDescriptor yX10_hearOne.desc).map (fun d => d.parameters.length) = some 1 := sorry
theorem hd_yX10_hearAll : yX10_hearAll.cls ≠ "java/lang/invoke/MethodHandle" ∧ yX10_hearAll.cls ≠ "java/lang/invoke/VarHandle" ∧ (parseMethodDescriptor yX10_hearAll.desc).map (fun d => d.parameters.length) = some 1 := sorry
theorem hd_yX10_howManySleep : yX10_howManySleep.cls ≠ "java/lang/invoke/MethodHandle" ∧ yX10_howManySleep.cls ≠ "java/lang/invoke/VarHandle" ∧ (parseMethodDescriptor yX10_howManySleep.desc).map (fun d => d.parameters.length) = some 0 := sorry
theorem hd_yX2_addSinger : yX2_addSinger.cls ≠ "java/lang/invoke/MethodHandle" ∧ yX2_addSinger.cls ≠ "java/lang/invoke/VarHandle" ∧ (parseMethodDescriptor yX2_addSinger.desc).map (fun d => d.parameters.length) = some 3 := sorry
theorem hd_yX1_clearUndone : yX1_clearUndone.cls ≠ "java/lang/invoke/MethodHandle" ∧ yX1_clearUndone.cls ≠ "java/lang/invoke/VarHandle" ∧ (parseMethodDescriptor yX1_clearUndone.desc).map (fun d => d.parameters.length) = some 0 := sorry
theorem hd_yX12_accept : yX12_accept.cls ≠ "java/lang/invoke/MethodHandle" ∧ yX12_accept.cls ≠ "java/lang/invoke/VarHandle" ∧ (parseMethodDescriptor yX12_accept.desc).map (fun d => d.parameters.length) = some 1 := sorry
theorem hd_yX12_refuse : yX12_refuse.cls ≠ "java/lang/invoke/MethodHandle" ∧ yX12_refuse.cls ≠ "java/lang/invoke/VarHandle" ∧ (parseMethodDescriptor yX12_refuse.desc).map (fun d => d.parameters.length) = some 1 := sorry
theorem hd_yX12_tell : yX12_tell.cls ≠ "java/lang/invoke/MethodHandle" ∧ yX12_tell.cls ≠ "java/lang/invoke/VarHandle" ∧ (parseMethodDescriptor yX12_tell.desc).map (fun d => d.parameters.length) = some 1 := sorry
theorem hd_yX2_addVerse : yX2_addVerse.cls ≠ "java/lang/invoke/MethodHandle" ∧ yX2_addVerse.cls ≠ "java/lang/invoke/VarHandle" ∧ (parseMethodDescriptor yX2_addVerse.desc).map (fun d => d.parameters.length) = some 2 := sorry
theorem hd_yX2_addPart : yX2_addPart.cls ≠ "java/lang/invoke/MethodHandle" ∧ yX2_addPart.cls ≠ "java/lang/invoke/VarHandle" ∧ (parseMethodDescriptor yX2_addPart.desc).map (fun d => d.parameters.length) = some 3 := sorry
theorem hd_yX2_setHearing : yX2_setHearing.cls ≠ "java/lang/invoke/MethodHandle" ∧ yX2_setHearing.cls ≠ "java/lang/invoke/VarHandle" ∧ (parseMethodDescriptor yX2_setHearing.desc).map (fun d => d.parameters.length) = some 3 := sorry
theorem hd_yX2_termOf : yX2_termOf.cls ≠ "java/lang/invoke/MethodHandle" ∧ yX2_termOf.cls ≠ "java/lang/invoke/VarHandle" ∧ (parseMethodDescriptor yX2_termOf.desc).map (fun d => d.parameters.length) = some 1 := sorry
theorem hd_yX2_setTerm : yX2_setTerm.cls ≠ "java/lang/invoke/MethodHandle" ∧ yX2_setTerm.cls ≠ "java/lang/invoke/VarHandle" ∧ (parseMethodDescriptor yX2_setTerm.desc).map (fun d => d.parameters.length) = some 2 := sorry
theorem hd_yX12_pour : yX12_pour.cls ≠ "java/lang/invoke/MethodHandle" ∧ yX12_pour.cls ≠ "java/lang/invoke/VarHandle" ∧ (parseMethodDescriptor yX12_pour.desc).map (fun d => d.parameters.length) = some 1 := sorry
theorem hd_yX6_read : yX6_read.cls ≠ "java/lang/invoke/MethodHandle" ∧ yX6_read.cls ≠ "java/lang/invoke/VarHandle" ∧ (parseMethodDescriptor yX6_read.desc).map (fun d => d.parameters.length) = some 2 := sorry
theorem hd_yX4_run : yX4_run.cls ≠ "java/lang/invoke/MethodHandle" ∧ yX4_run.cls ≠ "java/lang/invoke/VarHandle" ∧ (parseMethodDescriptor yX4_run.desc).map (fun d => d.parameters.length) = some 1 := sorry
theorem hd_yX8_howTires : yX8_howTires.cls ≠ "java/lang/invoke/MethodHandle" ∧ yX8_howTires.cls ≠ "java/lang/invoke/VarHandle" ∧ (parseMethodDescriptor yX8_howTires.desc).map (fun d => d.parameters.length) = some 2 := sorry
theorem hd_yX1_takeBack : yX1_takeBack.cls ≠ "java/lang/invoke/MethodHandle" ∧ yX1_takeBack.cls ≠ "java/lang/invoke/VarHandle" ∧ (parseMethodDescriptor yX1_takeBack.desc).map (fun d => d.parameters.length) = some 0 := sorry
theorem hd_yX5_lookAhead : yX5_lookAhead.cls ≠ "java/lang/invoke/MethodHandle" ∧ yX5_lookAhead.cls ≠ "java/lang/invoke/VarHandle" ∧ (parseMethodDescriptor yX5_lookAhead.desc).map (fun d => d.parameters.length) = some 2 := sorry
theorem hd_yX5_bestOfWorst : yX5_bestOfWorst.cls ≠ "java/lang/invoke/MethodHandle" ∧ yX5_bestOfWorst.cls ≠ "java/lang/invoke/VarHandle" ∧ (parseMethodDescriptor yX5_bestOfWorst.desc).map (fun d => d.parameters.length) = some 3 := sorry
theorem hd_yX5_worstOfBest : yX5_worstOfBest.cls ≠ "java/lang/invoke/MethodHandle" ∧ yX5_worstOfBest.cls ≠ "java/lang/invoke/VarHandle" ∧ (parseMethodDescriptor yX5_worstOfBest.desc).map (fun d => d.parameters.length) = some 3 := sorry
theorem hd_yX5_chooseChampions : yX5_chooseChampions.cls ≠ "java/lang/invoke/MethodHandle" ∧ yX5_chooseChampions.cls ≠ "java/lang/invoke/VarHandle" ∧ (parseMethodDescriptor yX5_chooseChampions.desc).map (fun d => d.parameters.length) = some 1 := sorry
theorem hd_yX2_isOfClan : yX2_isOfClan.cls ≠ "java/lang/invoke/MethodHandle" ∧ yX2_isOfClan.cls ≠ "java/lang/invoke/VarHandle" ∧ (parseMethodDescriptor yX2_isOfClan.desc).map (fun d => d.parameters.length) = some 2 := sorry
theorem hd_yX3_strongest : yX3_strongest.cls ≠ "java/lang/invoke/MethodHandle" ∧ yX3_strongest.cls ≠ "java/lang/invoke/VarHandle" ∧ (parseMethodDescriptor yX3_strongest.desc).map (fun d => d.parameters.length) = some 2 := sorry
theorem hd_yX2_addSight : yX2_addSight.cls ≠ "java/lang/invoke/MethodHandle" ∧ yX2_addSight.cls ≠ "java/lang/invoke/VarHandle" ∧ (parseMethodDescriptor yX2_addSight.desc).map (fun d => d.parameters.length) = some 5 := sorry
theorem hd_yX10_leastWake : yX10_leastWake.cls ≠ "java/lang/invoke/MethodHandle" ∧ yX10_leastWake.cls ≠ "java/lang/invoke/VarHandle" ∧ (parseMethodDescriptor yX10_leastWake.desc).map (fun d => d.parameters.length) = some 1 := sorry
theorem hd_yX10_greatestWake : yX10_greatestWake.cls ≠ "java/lang/invoke/MethodHandle" ∧ yX10_greatestWake.cls ≠ "java/lang/invoke/VarHandle" ∧ (parseMethodDescriptor yX10_greatestWake.desc).map (fun d => d.parameters.length) = some 1 := sorry
theorem hd_yX10_howMany : yX10_howMany.cls ≠ "java/lang/invoke/MethodHandle" ∧ yX10_howMany.cls ≠ "java/lang/invoke/VarHandle" ∧ (parseMethodDescriptor yX10_howMany.desc).map (fun d => d.parameters.length) = some 1 := sorry
theorem hd_yX10_nextVerse : yX10_nextVerse.cls ≠ "java/lang/invoke/MethodHandle" ∧ yX10_nextVerse.cls ≠ "java/lang/invoke/VarHandle" ∧ (parseMethodDescriptor yX10_nextVerse.desc).map (fun d => d.parameters.length) = some 2 := sorry
theorem hd_yX2_roundsBehind : yX2_roundsBehind.cls ≠ "java/lang/invoke/MethodHandle" ∧ yX2_roundsBehind.cls ≠ "java/lang/invoke/VarHandle" ∧ (parseMethodDescriptor yX2_roundsBehind.desc).map (fun d => d.parameters.length) = some 1 := sorry
theorem hd_yX2_ledAway : yX2_ledAway.cls ≠ "java/lang/invoke/MethodHandle" ∧ yX2_ledAway.cls ≠ "java/lang/invoke/VarHandle" ∧ (parseMethodDescriptor yX2_ledAway.desc).map (fun d => d.parameters.length) = some 2 := sorry
theorem hd_yX0_run : yX0_run.cls ≠ "java/lang/invoke/MethodHandle" ∧ yX0_run.cls ≠ "java/lang/invoke/VarHandle" ∧ (parseMethodDescriptor yX0_run.desc).map (fun d => d.parameters.length) = some 2 := sorry
theorem hd_yX2_copyFrom : yX2_copyFrom.cls ≠ "java/lang/invoke/MethodHandle" ∧ yX2_copyFrom.cls ≠ "java/lang/invoke/VarHandle" ∧ (parseMethodDescriptor yX2_copyFrom.desc).map (fun d => d.parameters.length) = some 1 := sorry
