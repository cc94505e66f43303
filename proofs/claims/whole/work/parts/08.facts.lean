theorem kfl_X0_add_15 : Cond.fieldLink RX0 15 "VisualSums$Corpus" "sorted" "[D" ∈ wsX0_add := by decide +kernel
theorem kfl_X0_add_18 : Cond.fieldLink RX0 18 "VisualSums$Corpus" "size" "I" ∈ wsX0_add := by decide +kernel
theorem kfl_X0_add_9 : Cond.fieldLink RX0 9 "VisualSums$Corpus" "noted" "[D" ∈ wsX0_add := by decide +kernel
theorem kfl_X0_atRank_15 : Cond.fieldLink RX0 15 "VisualSums$Corpus" "sorted" "[D" ∈ wsX0_atRank := by decide +kernel
theorem kfl_X0_atRank_18 : Cond.fieldLink RX0 18 "VisualSums$Corpus" "size" "I" ∈ wsX0_atRank := by decide +kernel
theorem kfl_X0_average_18 : Cond.fieldLink RX0 18 "VisualSums$Corpus" "size" "I" ∈ wsX0_average := by decide +kernel
theorem kfl_X0_average_9 : Cond.fieldLink RX0 9 "VisualSums$Corpus" "noted" "[D" ∈ wsX0_average := by decide +kernel
theorem kfl_X0_empty_18 : Cond.fieldLink RX0 18 "VisualSums$Corpus" "size" "I" ∈ wsX0_empty := by decide +kernel
theorem kfl_X0_init_15 : Cond.fieldLink RX0 15 "VisualSums$Corpus" "sorted" "[D" ∈ wsX0_init := by decide +kernel
theorem kfl_X0_init_9 : Cond.fieldLink RX0 9 "VisualSums$Corpus" "noted" "[D" ∈ wsX0_init := by decide +kernel
theorem kfl_X0_size_18 : Cond.fieldLink RX0 18 "VisualSums$Corpus" "size" "I" ∈ wsX0_size := by decide +kernel
theorem kfl_X0_winsAgainst_18 : Cond.fieldLink RX0 18 "VisualSums$Corpus" "size" "I" ∈ wsX0_winsAgainst := by decide +kernel
theorem kfl_X0_winsAgainst_9 : Cond.fieldLink RX0 9 "VisualSums$Corpus" "noted" "[D" ∈ wsX0_winsAgainst := by decide +kernel
theorem kfl_X1_count_21 : Cond.fieldLink RX1 21 "VisualSums$Parts" "starts" "[I" ∈ wsX1_count := by decide +kernel
theorem kfl_X1_countAlsoIn_21 : Cond.fieldLink RX1 21 "VisualSums$Parts" "starts" "[I" ∈ wsX1_countAlsoIn := by decide +kernel
theorem kfl_X1_countAlsoIn_28 : Cond.fieldLink RX1 28 "VisualSums$Parts" "torn" "[Z" ∈ wsX1_countAlsoIn := by decide +kernel
theorem kfl_X1_findIn_21 : Cond.fieldLink RX1 21 "VisualSums$Parts" "starts" "[I" ∈ wsX1_findIn := by decide +kernel
theorem kfl_X1_init_15 : Cond.fieldLink RX1 15 "VisualSums$Parts" "height" "I" ∈ wsX1_init := by decide +kernel
theorem kfl_X1_init_18 : Cond.fieldLink RX1 18 "VisualSums$Parts" "line" "I" ∈ wsX1_init := by decide +kernel
theorem kfl_X1_init_21 : Cond.fieldLink RX1 21 "VisualSums$Parts" "starts" "[I" ∈ wsX1_init := by decide +kernel
theorem kfl_X1_init_25 : Cond.fieldLink RX1 25 "VisualSums$Parts" "queue" "[I" ∈ wsX1_init := by decide +kernel
theorem kfl_X1_init_28 : Cond.fieldLink RX1 28 "VisualSums$Parts" "torn" "[Z" ∈ wsX1_init := by decide +kernel
theorem kfl_X1_init_9 : Cond.fieldLink RX1 9 "VisualSums$Parts" "width" "I" ∈ wsX1_init := by decide +kernel
theorem kfl_X1_join_21 : Cond.fieldLink RX1 21 "VisualSums$Parts" "starts" "[I" ∈ wsX1_join := by decide +kernel
theorem kfl_X1_join_25 : Cond.fieldLink RX1 25 "VisualSums$Parts" "queue" "[I" ∈ wsX1_join := by decide +kernel
theorem kfl_X1_join_46 : Cond.fieldLink RX1 46 "VisualSums$Parts" "queued" "I" ∈ wsX1_join := by decide +kernel
theorem kfl_X1_markTorn_21 : Cond.fieldLink RX1 21 "VisualSums$Parts" "starts" "[I" ∈ wsX1_markTorn := by decide +kernel
theorem kfl_X1_markTorn_28 : Cond.fieldLink RX1 28 "VisualSums$Parts" "torn" "[Z" ∈ wsX1_markTorn := by decide +kernel
theorem kfl_X1_openBlackPlaces_15 : Cond.fieldLink RX1 15 "VisualSums$Parts" "height" "I" ∈ wsX1_openBlackPlaces := by decide +kernel
theorem kfl_X1_openBlackPlaces_18 : Cond.fieldLink RX1 18 "VisualSums$Parts" "line" "I" ∈ wsX1_openBlackPlaces := by decide +kernel
theorem kfl_X1_openBlackPlaces_21 : Cond.fieldLink RX1 21 "VisualSums$Parts" "starts" "[I" ∈ wsX1_openBlackPlaces := by decide +kernel
theorem kfl_X1_openBlackPlaces_9 : Cond.fieldLink RX1 9 "VisualSums$Parts" "width" "I" ∈ wsX1_openBlackPlaces := by decide +kernel
theorem kfl_X1_spreadFrom_18 : Cond.fieldLink RX1 18 "VisualSums$Parts" "line" "I" ∈ wsX1_spreadFrom := by decide +kernel
theorem kfl_X1_spreadFrom_25 : Cond.fieldLink RX1 25 "VisualSums$Parts" "queue" "[I" ∈ wsX1_spreadFrom := by decide +kernel
theorem kfl_X1_spreadFrom_46 : Cond.fieldLink RX1 46 "VisualSums$Parts" "queued" "I" ∈ wsX1_spreadFrom := by decide +kernel
theorem kfl_X1_tear_28 : Cond.fieldLink RX1 28 "VisualSums$Parts" "torn" "[Z" ∈ wsX1_tear := by decide +kernel
theorem kfl_X2_become_15 : Cond.fieldLink RX2 15 "VisualSums$Picture" "samples" "[I" ∈ wsX2_become := by decide +kernel
theorem kfl_X2_fill_15 : Cond.fieldLink RX2 15 "VisualSums$Picture" "samples" "[I" ∈ wsX2_fill := by decide +kernel
theorem kfl_X2_greatestAgainst_15 : Cond.fieldLink RX2 15 "VisualSums$Picture" "samples" "[I" ∈ wsX2_greatestAgainst := by decide +kernel
theorem kfl_X2_greyAt_15 : Cond.fieldLink RX2 15 "VisualSums$Picture" "samples" "[I" ∈ wsX2_greyAt := by decide +kernel
theorem kfl_X2_greyAt_9 : Cond.fieldLink RX2 9 "VisualSums$Picture" "channels" "I" ∈ wsX2_greyAt := by decide +kernel
theorem kfl_X2_init_15 : Cond.fieldLink RX2 15 "VisualSums$Picture" "samples" "[I" ∈ wsX2_init := by decide +kernel
theorem kfl_X2_init_9 : Cond.fieldLink RX2 9 "VisualSums$Picture" "channels" "I" ∈ wsX2_init := by decide +kernel
theorem kfl_X2_replace_15 : Cond.fieldLink RX2 15 "VisualSums$Picture" "samples" "[I" ∈ wsX2_replace := by decide +kernel
theorem kfl_X2_replace_9 : Cond.fieldLink RX2 9 "VisualSums$Picture" "channels" "I" ∈ wsX2_replace := by decide +kernel
theorem kfl_X2_squaresAgainst_15 : Cond.fieldLink RX2 15 "VisualSums$Picture" "samples" "[I" ∈ wsX2_squaresAgainst := by decide +kernel
theorem kfl_X2_squaresAgainst_9 : Cond.fieldLink RX2 9 "VisualSums$Picture" "channels" "I" ∈ wsX2_squaresAgainst := by decide +kernel
theorem kfl_X3_averageLikeness_25 : Cond.fieldLink RX3 25 "VisualSums$ScaledGreys" "width" "I" ∈ wsX3_averageLikeness := by decide +kernel
theorem kfl_X3_averageLikeness_28 : Cond.fieldLink RX3 28 "VisualSums$ScaledGreys" "height" "I" ∈ wsX3_averageLikeness := by decide +kernel
theorem kfl_X3_halve_18 : Cond.fieldLink RX3 18 "VisualSums$ScaledGreys" "first" "[I" ∈ wsX3_halve := by decide +kernel
theorem kfl_X3_halve_22 : Cond.fieldLink RX3 22 "VisualSums$ScaledGreys" "second" "[I" ∈ wsX3_halve := by decide +kernel
theorem kfl_X3_halve_25 : Cond.fieldLink RX3 25 "VisualSums$ScaledGreys" "width" "I" ∈ wsX3_halve := by decide +kernel
theorem kfl_X3_halve_28 : Cond.fieldLink RX3 28 "VisualSums$ScaledGreys" "height" "I" ∈ wsX3_halve := by decide +kernel
theorem kfl_X3_init_15 : Cond.fieldLink RX3 15 "VisualSums$ScaledGreys" "fullHeight" "I" ∈ wsX3_init := by decide +kernel
theorem kfl_X3_init_18 : Cond.fieldLink RX3 18 "VisualSums$ScaledGreys" "first" "[I" ∈ wsX3_init := by decide +kernel
theorem kfl_X3_init_22 : Cond.fieldLink RX3 22 "VisualSums$ScaledGreys" "second" "[I" ∈ wsX3_init := by decide +kernel
theorem kfl_X3_init_9 : Cond.fieldLink RX3 9 "VisualSums$ScaledGreys" "fullWidth" "I" ∈ wsX3_init := by decide +kernel
theorem kfl_X3_likenessAt_18 : Cond.fieldLink RX3 18 "VisualSums$ScaledGreys" "first" "[I" ∈ wsX3_likenessAt := by decide +kernel
theorem kfl_X3_likenessAt_22 : Cond.fieldLink RX3 22 "VisualSums$ScaledGreys" "second" "[I" ∈ wsX3_likenessAt := by decide +kernel
theorem kfl_X3_likenessAt_25 : Cond.fieldLink RX3 25 "VisualSums$ScaledGreys" "width" "I" ∈ wsX3_likenessAt := by decide +kernel
theorem kfl_X3_readFrom_15 : Cond.fieldLink RX3 15 "VisualSums$ScaledGreys" "fullHeight" "I" ∈ wsX3_readFrom := by decide +kernel
theorem kfl_X3_readFrom_18 : Cond.fieldLink RX3 18 "VisualSums$ScaledGreys" "first" "[I" ∈ wsX3_readFrom := by decide +kernel
theorem kfl_X3_readFrom_22 : Cond.fieldLink RX3 22 "VisualSums$ScaledGreys" "second" "[I" ∈ wsX3_readFrom := by decide +kernel
theorem kfl_X3_readFrom_25 : Cond.fieldLink RX3 25 "VisualSums$ScaledGreys" "width" "I" ∈ wsX3_readFrom := by decide +kernel
theorem kfl_X3_readFrom_28 : Cond.fieldLink RX3 28 "VisualSums$ScaledGreys" "height" "I" ∈ wsX3_readFrom := by decide +kernel
theorem kfl_X3_readFrom_9 : Cond.fieldLink RX3 9 "VisualSums$ScaledGreys" "fullWidth" "I" ∈ wsX3_readFrom := by decide +kernel
theorem kfl_X3_shrink_25 : Cond.fieldLink RX3 25 "VisualSums$ScaledGreys" "width" "I" ∈ wsX3_shrink := by decide +kernel
theorem kfl_X3_shrink_28 : Cond.fieldLink RX3 28 "VisualSums$ScaledGreys" "height" "I" ∈ wsX3_shrink := by decide +kernel
theorem kfl_X4_bands_13 : Cond.fieldLink RX4 13 "VisualSums" "width" "I" ∈ wsX4_bands := by decide +kernel
theorem kfl_X4_bands_17 : Cond.fieldLink RX4 17 "VisualSums" "height" "I" ∈ wsX4_bands := by decide +kernel
theorem kfl_X4_bands_34 : Cond.fieldLink RX4 34 "VisualSums" "firstPicture" "LVisualSums$Picture;" ∈ wsX4_bands := by decide +kernel
theorem kfl_X4_bands_38 : Cond.fieldLink RX4 38 "VisualSums" "secondPicture" "LVisualSums$Picture;" ∈ wsX4_bands := by decide +kernel
theorem kfl_X4_blocks_13 : Cond.fieldLink RX4 13 "VisualSums" "width" "I" ∈ wsX4_blocks := by decide +kernel
theorem kfl_X4_blocks_17 : Cond.fieldLink RX4 17 "VisualSums" "height" "I" ∈ wsX4_blocks := by decide +kernel
theorem kfl_X4_blocks_38 : Cond.fieldLink RX4 38 "VisualSums" "secondPicture" "LVisualSums$Picture;" ∈ wsX4_blocks := by decide +kernel
theorem kfl_X4_clear_34 : Cond.fieldLink RX4 34 "VisualSums" "firstPicture" "LVisualSums$Picture;" ∈ wsX4_clear := by decide +kernel
theorem kfl_X4_clear_38 : Cond.fieldLink RX4 38 "VisualSums" "secondPicture" "LVisualSums$Picture;" ∈ wsX4_clear := by decide +kernel
theorem kfl_X4_copy_34 : Cond.fieldLink RX4 34 "VisualSums" "firstPicture" "LVisualSums$Picture;" ∈ wsX4_copy := by decide +kernel
theorem kfl_X4_copy_38 : Cond.fieldLink RX4 38 "VisualSums" "secondPicture" "LVisualSums$Picture;" ∈ wsX4_copy := by decide +kernel
theorem kfl_X4_corpusOf_60 : Cond.fieldLink RX4 60 "VisualSums" "corpora" "[LVisualSums$Corpus;" ∈ wsX4_corpusOf := by decide +kernel
theorem kfl_X4_equal_34 : Cond.fieldLink RX4 34 "VisualSums" "firstPicture" "LVisualSums$Picture;" ∈ wsX4_equal := by decide +kernel
theorem kfl_X4_equal_38 : Cond.fieldLink RX4 38 "VisualSums" "secondPicture" "LVisualSums$Picture;" ∈ wsX4_equal := by decide +kernel
theorem kfl_X4_greatest_34 : Cond.fieldLink RX4 34 "VisualSums" "firstPicture" "LVisualSums$Picture;" ∈ wsX4_greatest := by decide +kernel
theorem kfl_X4_greatest_38 : Cond.fieldLink RX4 38 "VisualSums" "secondPicture" "LVisualSums$Picture;" ∈ wsX4_greatest := by decide +kernel
theorem kfl_X4_hasChannel_20 : Cond.fieldLink RX4 20 "VisualSums" "channels" "I" ∈ wsX4_hasChannel := by decide +kernel
theorem kfl_X4_hasPlace_13 : Cond.fieldLink RX4 13 "VisualSums" "width" "I" ∈ wsX4_hasPlace := by decide +kernel
theorem kfl_X4_hasPlace_17 : Cond.fieldLink RX4 17 "VisualSums" "height" "I" ∈ wsX4_hasPlace := by decide +kernel
theorem kfl_X4_map_13 : Cond.fieldLink RX4 13 "VisualSums" "width" "I" ∈ wsX4_map := by decide +kernel
theorem kfl_X4_map_17 : Cond.fieldLink RX4 17 "VisualSums" "height" "I" ∈ wsX4_map := by decide +kernel
theorem kfl_X4_map_34 : Cond.fieldLink RX4 34 "VisualSums" "firstPicture" "LVisualSums$Picture;" ∈ wsX4_map := by decide +kernel
theorem kfl_X4_map_38 : Cond.fieldLink RX4 38 "VisualSums" "secondPicture" "LVisualSums$Picture;" ∈ wsX4_map := by decide +kernel
theorem kfl_X4_map_44 : Cond.fieldLink RX4 44 "VisualSums" "scaledGreys" "LVisualSums$ScaledGreys;" ∈ wsX4_map := by decide +kernel
theorem kfl_X4_pictureOf_34 : Cond.fieldLink RX4 34 "VisualSums" "firstPicture" "LVisualSums$Picture;" ∈ wsX4_pictureOf := by decide +kernel
theorem kfl_X4_pictureOf_38 : Cond.fieldLink RX4 38 "VisualSums" "secondPicture" "LVisualSums$Picture;" ∈ wsX4_pictureOf := by decide +kernel
theorem kfl_X4_placeOf_13 : Cond.fieldLink RX4 13 "VisualSums" "width" "I" ∈ wsX4_placeOf := by decide +kernel
theorem kfl_X4_signs_34 : Cond.fieldLink RX4 34 "VisualSums" "firstPicture" "LVisualSums$Picture;" ∈ wsX4_signs := by decide +kernel
theorem kfl_X4_signs_38 : Cond.fieldLink RX4 38 "VisualSums" "secondPicture" "LVisualSums$Picture;" ∈ wsX4_signs := by decide +kernel
theorem kfl_X4_signs_51 : Cond.fieldLink RX4 51 "VisualSums" "firstParts" "LVisualSums$Parts;" ∈ wsX4_signs := by decide +kernel
theorem kfl_X4_signs_55 : Cond.fieldLink RX4 55 "VisualSums" "secondParts" "LVisualSums$Parts;" ∈ wsX4_signs := by decide +kernel
theorem kfl_X4_squared_13 : Cond.fieldLink RX4 13 "VisualSums" "width" "I" ∈ wsX4_squared := by decide +kernel
theorem kfl_X4_squared_17 : Cond.fieldLink RX4 17 "VisualSums" "height" "I" ∈ wsX4_squared := by decide +kernel
theorem kfl_X4_squared_34 : Cond.fieldLink RX4 34 "VisualSums" "firstPicture" "LVisualSums$Picture;" ∈ wsX4_squared := by decide +kernel
theorem kfl_X4_squared_38 : Cond.fieldLink RX4 38 "VisualSums" "secondPicture" "LVisualSums$Picture;" ∈ wsX4_squared := by decide +kernel
theorem kfl_X4_structure_26 : Cond.fieldLink RX4 26 "VisualSums" "scales" "I" ∈ wsX4_structure := by decide +kernel
theorem kfl_X4_structure_34 : Cond.fieldLink RX4 34 "VisualSums" "firstPicture" "LVisualSums$Picture;" ∈ wsX4_structure := by decide +kernel
theorem kfl_X4_structure_38 : Cond.fieldLink RX4 38 "VisualSums" "secondPicture" "LVisualSums$Picture;" ∈ wsX4_structure := by decide +kernel
theorem kfl_X4_structure_44 : Cond.fieldLink RX4 44 "VisualSums" "scaledGreys" "LVisualSums$ScaledGreys;" ∈ wsX4_structure := by decide +kernel
theorem kfl_X4_told_13 : Cond.fieldLink RX4 13 "VisualSums" "width" "I" ∈ wsX4_told := by decide +kernel
theorem kfl_X4_told_17 : Cond.fieldLink RX4 17 "VisualSums" "height" "I" ∈ wsX4_told := by decide +kernel
theorem kfl_X4_told_20 : Cond.fieldLink RX4 20 "VisualSums" "channels" "I" ∈ wsX4_told := by decide +kernel
theorem kfl_X4_told_26 : Cond.fieldLink RX4 26 "VisualSums" "scales" "I" ∈ wsX4_told := by decide +kernel
theorem kfl_X4_told_38 : Cond.fieldLink RX4 38 "VisualSums" "secondPicture" "LVisualSums$Picture;" ∈ wsX4_told := by decide +kernel
theorem kfl_X4_told_55 : Cond.fieldLink RX4 55 "VisualSums" "secondParts" "LVisualSums$Parts;" ∈ wsX4_told := by decide +kernel
theorem khd_X0_add : yX0_add.cls = RX0 ∧ yX0_add.cls ≠ "java/lang/invoke/MethodHandle" ∧ yX0_add.cls ≠ "java/lang/invoke/VarHandle" ∧ (parseMethodDescriptor yX0_add.desc).map (fun d => d.parameters.length) = some 1 := ⟨rfl, by decide +kernel, by decide +kernel, by decide +kernel⟩
theorem khd_X0_atRank : yX0_atRank.cls = RX0 ∧ yX0_atRank.cls ≠ "java/lang/invoke/MethodHandle" ∧ yX0_atRank.cls ≠ "java/lang/invoke/VarHandle" ∧ (parseMethodDescriptor yX0_atRank.desc).map (fun d => d.parameters.length) = some 1 := ⟨rfl, by decide +kernel, by decide +kernel, by decide +kernel⟩
theorem khd_X0_average : yX0_average.cls = RX0 ∧ yX0_average.cls ≠ "java/lang/invoke/MethodHandle" ∧ yX0_average.cls ≠ "java/lang/invoke/VarHandle" ∧ (parseMethodDescriptor yX0_average.desc).map (fun d => d.parameters.length) = some 0 := ⟨rfl, by decide +kernel, by decide +kernel, by decide +kernel⟩
theorem khd_X0_empty : yX0_empty.cls = RX0 ∧ yX0_empty.cls ≠ "java/lang/invoke/MethodHandle" ∧ yX0_empty.cls ≠ "java/lang/invoke/VarHandle" ∧ (parseMethodDescriptor yX0_empty.desc).map (fun d => d.parameters.length) = some 0 := ⟨rfl, by decide +kernel, by decide +kernel, by decide +kernel⟩
theorem khd_X0_size : yX0_size.cls = RX0 ∧ yX0_size.cls ≠ "java/lang/invoke/MethodHandle" ∧ yX0_size.cls ≠ "java/lang/invoke/VarHandle" ∧ (parseMethodDescriptor yX0_size.desc).map (fun d => d.parameters.length) = some 0 := ⟨rfl, by decide +kernel, by decide +kernel, by decide +kernel⟩
theorem khd_X0_winsAgainst : yX0_winsAgainst.cls = RX0 ∧ yX0_winsAgainst.cls ≠ "java/lang/invoke/MethodHandle" ∧ yX0_winsAgainst.cls ≠ "java/lang/invoke/VarHandle" ∧ (parseMethodDescriptor yX0_winsAgainst.desc).map (fun d => d.parameters.length) = some 1 := ⟨rfl, by decide +kernel, by decide +kernel, by decide +kernel⟩
theorem khd_X1_count : yX1_count.cls = RX1 ∧ yX1_count.cls ≠ "java/lang/invoke/MethodHandle" ∧ yX1_count.cls ≠ "java/lang/invoke/VarHandle" ∧ (parseMethodDescriptor yX1_count.desc).map (fun d => d.parameters.length) = some 0 := ⟨rfl, by decide +kernel, by decide +kernel, by decide +kernel⟩
theorem khd_X1_countAlsoIn : yX1_countAlsoIn.cls = RX1 ∧ yX1_countAlsoIn.cls ≠ "java/lang/invoke/MethodHandle" ∧ yX1_countAlsoIn.cls ≠ "java/lang/invoke/VarHandle" ∧ (parseMethodDescriptor yX1_countAlsoIn.desc).map (fun d => d.parameters.length) = some 1 := ⟨rfl, by decide +kernel, by decide +kernel, by decide +kernel⟩
theorem khd_X1_findIn : yX1_findIn.cls = RX1 ∧ yX1_findIn.cls ≠ "java/lang/invoke/MethodHandle" ∧ yX1_findIn.cls ≠ "java/lang/invoke/VarHandle" ∧ (parseMethodDescriptor yX1_findIn.desc).map (fun d => d.parameters.length) = some 1 := ⟨rfl, by decide +kernel, by decide +kernel, by decide +kernel⟩
theorem khd_X1_join : yX1_join.cls = RX1 ∧ yX1_join.cls ≠ "java/lang/invoke/MethodHandle" ∧ yX1_join.cls ≠ "java/lang/invoke/VarHandle" ∧ (parseMethodDescriptor yX1_join.desc).map (fun d => d.parameters.length) = some 2 := ⟨rfl, by decide +kernel, by decide +kernel, by decide +kernel⟩
theorem khd_X1_markTorn : yX1_markTorn.cls = RX1 ∧ yX1_markTorn.cls ≠ "java/lang/invoke/MethodHandle" ∧ yX1_markTorn.cls ≠ "java/lang/invoke/VarHandle" ∧ (parseMethodDescriptor yX1_markTorn.desc).map (fun d => d.parameters.length) = some 1 := ⟨rfl, by decide +kernel, by decide +kernel, by decide +kernel⟩
theorem khd_X1_openBlackPlaces : yX1_openBlackPlaces.cls = RX1 ∧ yX1_openBlackPlaces.cls ≠ "java/lang/invoke/MethodHandle" ∧ yX1_openBlackPlaces.cls ≠ "java/lang/invoke/VarHandle" ∧ (parseMethodDescriptor yX1_openBlackPlaces.desc).map (fun d => d.parameters.length) = some 1 := ⟨rfl, by decide +kernel, by decide +kernel, by decide +kernel⟩
theorem khd_X1_spreadFrom : yX1_spreadFrom.cls = RX1 ∧ yX1_spreadFrom.cls ≠ "java/lang/invoke/MethodHandle" ∧ yX1_spreadFrom.cls ≠ "java/lang/invoke/VarHandle" ∧ (parseMethodDescriptor yX1_spreadFrom.desc).map (fun d => d.parameters.length) = some 1 := ⟨rfl, by decide +kernel, by decide +kernel, by decide +kernel⟩
theorem khd_X1_tear : yX1_tear.cls = RX1 ∧ yX1_tear.cls ≠ "java/lang/invoke/MethodHandle" ∧ yX1_tear.cls ≠ "java/lang/invoke/VarHandle" ∧ (parseMethodDescriptor yX1_tear.desc).map (fun d => d.parameters.length) = some 1 := ⟨rfl, by decide +kernel, by decide +kernel, by decide +kernel⟩
theorem khd_X2_become : yX2_become.cls = RX2 ∧ yX2_become.cls ≠ "java/lang/invoke/MethodHandle" ∧ yX2_become.cls ≠ "java/lang/invoke/VarHandle" ∧ (parseMethodDescriptor yX2_become.desc).map (fun d => d.parameters.length) = some 1 := ⟨rfl, by decide +kernel, by decide +kernel, by decide +kernel⟩
theorem khd_X2_fill : yX2_fill.cls = RX2 ∧ yX2_fill.cls ≠ "java/lang/invoke/MethodHandle" ∧ yX2_fill.cls ≠ "java/lang/invoke/VarHandle" ∧ (parseMethodDescriptor yX2_fill.desc).map (fun d => d.parameters.length) = some 2 := ⟨rfl, by decide +kernel, by decide +kernel, by decide +kernel⟩
theorem khd_X2_greatestAgainst : yX2_greatestAgainst.cls = RX2 ∧ yX2_greatestAgainst.cls ≠ "java/lang/invoke/MethodHandle" ∧ yX2_greatestAgainst.cls ≠ "java/lang/invoke/VarHandle" ∧ (parseMethodDescriptor yX2_greatestAgainst.desc).map (fun d => d.parameters.length) = some 1 := ⟨rfl, by decide +kernel, by decide +kernel, by decide +kernel⟩
theorem khd_X2_greyAt : yX2_greyAt.cls = RX2 ∧ yX2_greyAt.cls ≠ "java/lang/invoke/MethodHandle" ∧ yX2_greyAt.cls ≠ "java/lang/invoke/VarHandle" ∧ (parseMethodDescriptor yX2_greyAt.desc).map (fun d => d.parameters.length) = some 1 := ⟨rfl, by decide +kernel, by decide +kernel, by decide +kernel⟩
theorem khd_X2_replace : yX2_replace.cls = RX2 ∧ yX2_replace.cls ≠ "java/lang/invoke/MethodHandle" ∧ yX2_replace.cls ≠ "java/lang/invoke/VarHandle" ∧ (parseMethodDescriptor yX2_replace.desc).map (fun d => d.parameters.length) = some 3 := ⟨rfl, by decide +kernel, by decide +kernel, by decide +kernel⟩
theorem khd_X2_sameAs : yX2_sameAs.cls = RX2 ∧ yX2_sameAs.cls ≠ "java/lang/invoke/MethodHandle" ∧ yX2_sameAs.cls ≠ "java/lang/invoke/VarHandle" ∧ (parseMethodDescriptor yX2_sameAs.desc).map (fun d => d.parameters.length) = some 1 := ⟨rfl, by decide +kernel, by decide +kernel, by decide +kernel⟩
theorem khd_X2_squaresAgainst : yX2_squaresAgainst.cls = RX2 ∧ yX2_squaresAgainst.cls ≠ "java/lang/invoke/MethodHandle" ∧ yX2_squaresAgainst.cls ≠ "java/lang/invoke/VarHandle" ∧ (parseMethodDescriptor yX2_squaresAgainst.desc).map (fun d => d.parameters.length) = some 2 := ⟨rfl, by decide +kernel, by decide +kernel, by decide +kernel⟩
theorem khd_X3_averageLikeness : yX3_averageLikeness.cls = RX3 ∧ yX3_averageLikeness.cls ≠ "java/lang/invoke/MethodHandle" ∧ yX3_averageLikeness.cls ≠ "java/lang/invoke/VarHandle" ∧ (parseMethodDescriptor yX3_averageLikeness.desc).map (fun d => d.parameters.length) = some 0 := ⟨rfl, by decide +kernel, by decide +kernel, by decide +kernel⟩
theorem khd_X3_halve : yX3_halve.cls = RX3 ∧ yX3_halve.cls ≠ "java/lang/invoke/MethodHandle" ∧ yX3_halve.cls ≠ "java/lang/invoke/VarHandle" ∧ (parseMethodDescriptor yX3_halve.desc).map (fun d => d.parameters.length) = some 0 := ⟨rfl, by decide +kernel, by decide +kernel, by decide +kernel⟩
theorem khd_X3_likenessAt : yX3_likenessAt.cls = RX3 ∧ yX3_likenessAt.cls ≠ "java/lang/invoke/MethodHandle" ∧ yX3_likenessAt.cls ≠ "java/lang/invoke/VarHandle" ∧ (parseMethodDescriptor yX3_likenessAt.desc).map (fun d => d.parameters.length) = some 2 := ⟨rfl, by decide +kernel, by decide +kernel, by decide +kernel⟩
theorem khd_X3_ratio : yX3_ratio.cls ≠ "java/lang/invoke/MethodHandle" ∧ yX3_ratio.cls ≠ "java/lang/invoke/VarHandle" ∧ (parseMethodDescriptor yX3_ratio.desc).map (fun d => d.parameters.length) = some 4 := ⟨by decide +kernel, by decide +kernel, by decide +kernel⟩
theorem khd_X3_readFrom : yX3_readFrom.cls = RX3 ∧ yX3_readFrom.cls ≠ "java/lang/invoke/MethodHandle" ∧ yX3_readFrom.cls ≠ "java/lang/invoke/VarHandle" ∧ (parseMethodDescriptor yX3_readFrom.desc).map (fun d => d.parameters.length) = some 2 := ⟨rfl, by decide +kernel, by decide +kernel, by decide +kernel⟩
theorem khd_X3_shrink : yX3_shrink.cls = RX3 ∧ yX3_shrink.cls ≠ "java/lang/invoke/MethodHandle" ∧ yX3_shrink.cls ≠ "java/lang/invoke/VarHandle" ∧ (parseMethodDescriptor yX3_shrink.desc).map (fun d => d.parameters.length) = some 1 := ⟨rfl, by decide +kernel, by decide +kernel, by decide +kernel⟩
theorem khd_X4_corpusOf : yX4_corpusOf.cls = RX4 ∧ yX4_corpusOf.cls ≠ "java/lang/invoke/MethodHandle" ∧ yX4_corpusOf.cls ≠ "java/lang/invoke/VarHandle" ∧ (parseMethodDescriptor yX4_corpusOf.desc).map (fun d => d.parameters.length) = some 1 := ⟨rfl, by decide +kernel, by decide +kernel, by decide +kernel⟩
theorem khd_X4_hasChannel : yX4_hasChannel.cls = RX4 ∧ yX4_hasChannel.cls ≠ "java/lang/invoke/MethodHandle" ∧ yX4_hasChannel.cls ≠ "java/lang/invoke/VarHandle" ∧ (parseMethodDescriptor yX4_hasChannel.desc).map (fun d => d.parameters.length) = some 1 := ⟨rfl, by decide +kernel, by decide +kernel, by decide +kernel⟩
theorem khd_X4_hasPlace : yX4_hasPlace.cls = RX4 ∧ yX4_hasPlace.cls ≠ "java/lang/invoke/MethodHandle" ∧ yX4_hasPlace.cls ≠ "java/lang/invoke/VarHandle" ∧ (parseMethodDescriptor yX4_hasPlace.desc).map (fun d => d.parameters.length) = some 2 := ⟨rfl, by decide +kernel, by decide +kernel, by decide +kernel⟩
theorem khd_X4_pictureOf : yX4_pictureOf.cls = RX4 ∧ yX4_pictureOf.cls ≠ "java/lang/invoke/MethodHandle" ∧ yX4_pictureOf.cls ≠ "java/lang/invoke/VarHandle" ∧ (parseMethodDescriptor yX4_pictureOf.desc).map (fun d => d.parameters.length) = some 1 := ⟨rfl, by decide +kernel, by decide +kernel, by decide +kernel⟩
theorem khd_X4_placeOf : yX4_placeOf.cls = RX4 ∧ yX4_placeOf.cls ≠ "java/lang/invoke/MethodHandle" ∧ yX4_placeOf.cls ≠ "java/lang/invoke/VarHandle" ∧ (parseMethodDescriptor yX4_placeOf.desc).map (fun d => d.parameters.length) = some 2 := ⟨rfl, by decide +kernel, by decide +kernel, by decide +kernel⟩
theorem khd_X4_quotient : yX4_quotient.cls ≠ "java/lang/invoke/MethodHandle" ∧ yX4_quotient.cls ≠ "java/lang/invoke/VarHandle" ∧ (parseMethodDescriptor yX4_quotient.desc).map (fun d => d.parameters.length) = some 2 := ⟨by decide +kernel, by decide +kernel, by decide +kernel⟩
theorem khd_X4_stepTo : yX4_stepTo.cls = RX4 ∧ yX4_stepTo.cls ≠ "java/lang/invoke/MethodHandle" ∧ yX4_stepTo.cls ≠ "java/lang/invoke/VarHandle" ∧ (parseMethodDescriptor yX4_stepTo.desc).map (fun d => d.parameters.length) = some 3 := ⟨rfl, by decide +kernel, by decide +kernel, by decide +kernel⟩
theorem kin_X0_add_X0 : ∀ w ∈ u_ws RX0 TX0 3, w ∈ wsX0_add := by decide +kernel
theorem kin_X0_atRank_X0 : ∀ w ∈ u_ws RX0 TX0 3, w ∈ wsX0_atRank := by decide +kernel
theorem kin_X0_average_X0 : ∀ w ∈ u_ws RX0 TX0 3, w ∈ wsX0_average := by decide +kernel
theorem kin_X0_empty_X0 : ∀ w ∈ u_ws RX0 TX0 3, w ∈ wsX0_empty := by decide +kernel
theorem kin_X0_init_X0 : ∀ w ∈ u_ws RX0 TX0 3, w ∈ wsX0_init := by decide +kernel
theorem kin_X0_size_X0 : ∀ w ∈ u_ws RX0 TX0 3, w ∈ wsX0_size := by decide +kernel
theorem kin_X0_winsAgainst_X0 : ∀ w ∈ u_ws RX0 TX0 3, w ∈ wsX0_winsAgainst := by decide +kernel
theorem kin_X1_count_X1 : ∀ w ∈ u_ws RX1 TX1 7, w ∈ wsX1_count := by decide +kernel
theorem kin_X1_countAlsoIn_X1 : ∀ w ∈ u_ws RX1 TX1 7, w ∈ wsX1_countAlsoIn := by decide +kernel
theorem kin_X1_findIn_X1 : ∀ w ∈ u_ws RX1 TX1 7, w ∈ wsX1_findIn := by decide +kernel
theorem kin_X1_init_X1 : ∀ w ∈ u_ws RX1 TX1 7, w ∈ wsX1_init := by decide +kernel
theorem kin_X1_join_X1 : ∀ w ∈ u_ws RX1 TX1 7, w ∈ wsX1_join := by decide +kernel
theorem kin_X1_markTorn_X1 : ∀ w ∈ u_ws RX1 TX1 7, w ∈ wsX1_markTorn := by decide +kernel
theorem kin_X1_openBlackPlaces_X1 : ∀ w ∈ u_ws RX1 TX1 7, w ∈ wsX1_openBlackPlaces := by decide +kernel
theorem kin_X1_spreadFrom_X1 : ∀ w ∈ u_ws RX1 TX1 7, w ∈ wsX1_spreadFrom := by decide +kernel
theorem kin_X1_tear_X1 : ∀ w ∈ u_ws RX1 TX1 7, w ∈ wsX1_tear := by decide +kernel
theorem kin_X2_become_X2 : ∀ w ∈ u_ws RX2 TX2 2, w ∈ wsX2_become := by decide +kernel
theorem kin_X2_fill_X2 : ∀ w ∈ u_ws RX2 TX2 2, w ∈ wsX2_fill := by decide +kernel
theorem kin_X2_greatestAgainst_X2 : ∀ w ∈ u_ws RX2 TX2 2, w ∈ wsX2_greatestAgainst := by decide +kernel
theorem kin_X2_greyAt_X2 : ∀ w ∈ u_ws RX2 TX2 2, w ∈ wsX2_greyAt := by decide +kernel
theorem kin_X2_init_X2 : ∀ w ∈ u_ws RX2 TX2 2, w ∈ wsX2_init := by decide +kernel
theorem kin_X2_replace_X2 : ∀ w ∈ u_ws RX2 TX2 2, w ∈ wsX2_replace := by decide +kernel
theorem kin_X2_squaresAgainst_X2 : ∀ w ∈ u_ws RX2 TX2 2, w ∈ wsX2_squaresAgainst := by decide +kernel
theorem kin_X3_averageLikeness_X3 : ∀ w ∈ u_ws RX3 TX3 6, w ∈ wsX3_averageLikeness := by decide +kernel
theorem kin_X3_halve_X3 : ∀ w ∈ u_ws RX3 TX3 6, w ∈ wsX3_halve := by decide +kernel
theorem kin_X3_init_X3 : ∀ w ∈ u_ws RX3 TX3 6, w ∈ wsX3_init := by decide +kernel
theorem kin_X3_likenessAt_X3 : ∀ w ∈ u_ws RX3 TX3 6, w ∈ wsX3_likenessAt := by decide +kernel
theorem kin_X3_readFrom_X3 : ∀ w ∈ u_ws RX3 TX3 6, w ∈ wsX3_readFrom := by decide +kernel
theorem kin_X3_shrink_X3 : ∀ w ∈ u_ws RX3 TX3 6, w ∈ wsX3_shrink := by decide +kernel
theorem kin_X4_bands_X4 : ∀ w ∈ u_ws RX4 TX4 10, w ∈ wsX4_bands := by decide +kernel
theorem kin_X4_blocks_X4 : ∀ w ∈ u_ws RX4 TX4 10, w ∈ wsX4_blocks := by decide +kernel
theorem kin_X4_clear_X4 : ∀ w ∈ u_ws RX4 TX4 10, w ∈ wsX4_clear := by decide +kernel
theorem kin_X4_copy_X4 : ∀ w ∈ u_ws RX4 TX4 10, w ∈ wsX4_copy := by decide +kernel
theorem kin_X4_corpusOf_X4 : ∀ w ∈ u_ws RX4 TX4 10, w ∈ wsX4_corpusOf := by decide +kernel
theorem kin_X4_equal_X4 : ∀ w ∈ u_ws RX4 TX4 10, w ∈ wsX4_equal := by decide +kernel
theorem kin_X4_greatest_X4 : ∀ w ∈ u_ws RX4 TX4 10, w ∈ wsX4_greatest := by decide +kernel
theorem kin_X4_hasChannel_X4 : ∀ w ∈ u_ws RX4 TX4 10, w ∈ wsX4_hasChannel := by decide +kernel
theorem kin_X4_hasPlace_X4 : ∀ w ∈ u_ws RX4 TX4 10, w ∈ wsX4_hasPlace := by decide +kernel
theorem kin_X4_map_X4 : ∀ w ∈ u_ws RX4 TX4 10, w ∈ wsX4_map := by decide +kernel
theorem kin_X4_pictureOf_X4 : ∀ w ∈ u_ws RX4 TX4 10, w ∈ wsX4_pictureOf := by decide +kernel
theorem kin_X4_placeOf_X4 : ∀ w ∈ u_ws RX4 TX4 10, w ∈ wsX4_placeOf := by decide +kernel
theorem kin_X4_signs_X4 : ∀ w ∈ u_ws RX4 TX4 10, w ∈ wsX4_signs := by decide +kernel
theorem kin_X4_squared_X4 : ∀ w ∈ u_ws RX4 TX4 10, w ∈ wsX4_squared := by decide +kernel
theorem kin_X4_structure_X4 : ∀ w ∈ u_ws RX4 TX4 10, w ∈ wsX4_structure := by decide +kernel
theorem kin_X4_told_X4 : ∀ w ∈ u_ws RX4 TX4 10, w ∈ wsX4_told := by decide +kernel
theorem kmt_X0_winsAgainst_22 : kMth RX0 22 Lib.Math.min.name Lib.Math.min.code 2 wsX0_winsAgainst := ⟨by decide +kernel, by decide +kernel, by decide +kernel, by decide +kernel⟩
theorem kmt_X2_greatestAgainst_19 : kMth RX2 19 Lib.Math.abs.name Lib.Math.abs.code 1 wsX2_greatestAgainst := ⟨by decide +kernel, by decide +kernel, by decide +kernel, by decide +kernel⟩
theorem kmt_X2_greatestAgainst_25 : kMth RX2 25 Lib.Math.max.name Lib.Math.max.code 2 wsX2_greatestAgainst := ⟨by decide +kernel, by decide +kernel, by decide +kernel, by decide +kernel⟩
theorem kmt_X4_nearest_210 : kMth RX4 210 Lib.Math.min.name Lib.Math.min.code 2 wsX4_nearest := ⟨by decide +kernel, by decide +kernel, by decide +kernel, by decide +kernel⟩
theorem kmt_X4_nearest_215 : kMth RX4 215 Lib.Math.max.name Lib.Math.max.code 2 wsX4_nearest := ⟨by decide +kernel, by decide +kernel, by decide +kernel, by decide +kernel⟩
theorem kmt_X4_scalesOf_210 : kMth RX4 210 Lib.Math.min.name Lib.Math.min.code 2 wsX4_scalesOf := ⟨by decide +kernel, by decide +kernel, by decide +kernel, by decide +kernel⟩
theorem kmt_X4_stepTo_218 : kMth RX4 218 Lib.Math.abs.name Lib.Math.abs.code 1 wsX4_stepTo := ⟨by decide +kernel, by decide +kernel, by decide +kernel, by decide +kernel⟩
