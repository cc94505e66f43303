theorem kfl_X4_init_13 : Cond.fieldLink RX4 13 "VisualSums" "width" "I" ∈ wsX4_init := by decide +kernel
theorem kfl_X4_init_17 : Cond.fieldLink RX4 17 "VisualSums" "height" "I" ∈ wsX4_init := by decide +kernel
theorem kfl_X4_init_20 : Cond.fieldLink RX4 20 "VisualSums" "channels" "I" ∈ wsX4_init := by decide +kernel
theorem kfl_X4_init_26 : Cond.fieldLink RX4 26 "VisualSums" "scales" "I" ∈ wsX4_init := by decide +kernel
theorem kfl_X4_init_34 : Cond.fieldLink RX4 34 "VisualSums" "firstPicture" "LVisualSums$Picture;" ∈ wsX4_init := by decide +kernel
theorem kfl_X4_init_38 : Cond.fieldLink RX4 38 "VisualSums" "secondPicture" "LVisualSums$Picture;" ∈ wsX4_init := by decide +kernel
theorem kfl_X4_init_44 : Cond.fieldLink RX4 44 "VisualSums" "scaledGreys" "LVisualSums$ScaledGreys;" ∈ wsX4_init := by decide +kernel
theorem kfl_X4_init_51 : Cond.fieldLink RX4 51 "VisualSums" "firstParts" "LVisualSums$Parts;" ∈ wsX4_init := by decide +kernel
theorem kfl_X4_init_55 : Cond.fieldLink RX4 55 "VisualSums" "secondParts" "LVisualSums$Parts;" ∈ wsX4_init := by decide +kernel
theorem kfl_X4_init_60 : Cond.fieldLink RX4 60 "VisualSums" "corpora" "[LVisualSums$Corpus;" ∈ wsX4_init := by decide +kernel
theorem kfl_X5_init_13 : Cond.fieldLink RX5 13 "VisualSumsModel" "two" "[I" ∈ wsX5_init := by decide +kernel
theorem kfl_X5_init_16 : Cond.fieldLink RX5 16 "VisualSumsModel" "greyOne" "[I" ∈ wsX5_init := by decide +kernel
theorem kfl_X5_init_19 : Cond.fieldLink RX5 19 "VisualSumsModel" "greyTwo" "[I" ∈ wsX5_init := by decide +kernel
theorem kfl_X5_init_22 : Cond.fieldLink RX5 22 "VisualSumsModel" "partsOne" "[I" ∈ wsX5_init := by decide +kernel
theorem kfl_X5_init_25 : Cond.fieldLink RX5 25 "VisualSumsModel" "partsTwo" "[I" ∈ wsX5_init := by decide +kernel
theorem kfl_X5_init_28 : Cond.fieldLink RX5 28 "VisualSumsModel" "many" "[I" ∈ wsX5_init := by decide +kernel
theorem kfl_X5_init_31 : Cond.fieldLink RX5 31 "VisualSumsModel" "notes" "[D" ∈ wsX5_init := by decide +kernel
theorem kfl_X5_init_35 : Cond.fieldLink RX5 35 "VisualSumsModel" "sorted" "[D" ∈ wsX5_init := by decide +kernel
theorem kfl_X5_init_38 : Cond.fieldLink RX5 38 "VisualSumsModel" "wide" "I" ∈ wsX5_init := by decide +kernel
theorem kfl_X5_init_42 : Cond.fieldLink RX5 42 "VisualSumsModel" "high" "I" ∈ wsX5_init := by decide +kernel
theorem kfl_X5_init_45 : Cond.fieldLink RX5 45 "VisualSumsModel" "channels" "I" ∈ wsX5_init := by decide +kernel
theorem kfl_X5_init_7 : Cond.fieldLink RX5 7 "VisualSumsModel" "one" "[I" ∈ wsX5_init := by decide +kernel
theorem khd_X0_init : yX0_init.cls ≠ "java/lang/invoke/MethodHandle" ∧ yX0_init.cls ≠ "java/lang/invoke/VarHandle" ∧ (parseMethodDescriptor yX0_init.desc).map (fun d => d.parameters.length) = some 0 := ⟨by decide +kernel, by decide +kernel, by decide +kernel⟩
theorem khd_X1_init : yX1_init.cls ≠ "java/lang/invoke/MethodHandle" ∧ yX1_init.cls ≠ "java/lang/invoke/VarHandle" ∧ (parseMethodDescriptor yX1_init.desc).map (fun d => d.parameters.length) = some 2 := ⟨by decide +kernel, by decide +kernel, by decide +kernel⟩
theorem khd_X2_init : yX2_init.cls ≠ "java/lang/invoke/MethodHandle" ∧ yX2_init.cls ≠ "java/lang/invoke/VarHandle" ∧ (parseMethodDescriptor yX2_init.desc).map (fun d => d.parameters.length) = some 2 := ⟨by decide +kernel, by decide +kernel, by decide +kernel⟩
theorem khd_X3_init : yX3_init.cls ≠ "java/lang/invoke/MethodHandle" ∧ yX3_init.cls ≠ "java/lang/invoke/VarHandle" ∧ (parseMethodDescriptor yX3_init.desc).map (fun d => d.parameters.length) = some 2 := ⟨by decide +kernel, by decide +kernel, by decide +kernel⟩
theorem khd_X4_nearest : yX4_nearest.cls ≠ "java/lang/invoke/MethodHandle" ∧ yX4_nearest.cls ≠ "java/lang/invoke/VarHandle" ∧ (parseMethodDescriptor yX4_nearest.desc).map (fun d => d.parameters.length) = some 2 := ⟨by decide +kernel, by decide +kernel, by decide +kernel⟩
theorem khd_X4_scalesOf : yX4_scalesOf.cls ≠ "java/lang/invoke/MethodHandle" ∧ yX4_scalesOf.cls ≠ "java/lang/invoke/VarHandle" ∧ (parseMethodDescriptor yX4_scalesOf.desc).map (fun d => d.parameters.length) = some 2 := ⟨by decide +kernel, by decide +kernel, by decide +kernel⟩
theorem kin_X4_init_X0 : ∀ w ∈ u_ws RX0 TX0 3, w ∈ wsX4_init := by decide +kernel
theorem kin_X4_init_X1 : ∀ w ∈ u_ws RX1 TX1 7, w ∈ wsX4_init := by decide +kernel
theorem kin_X4_init_X2 : ∀ w ∈ u_ws RX2 TX2 2, w ∈ wsX4_init := by decide +kernel
theorem kin_X4_init_X3 : ∀ w ∈ u_ws RX3 TX3 6, w ∈ wsX4_init := by decide +kernel
theorem kin_X4_init_X4 : ∀ w ∈ u_ws RX4 TX4 10, w ∈ wsX4_init := by decide +kernel
theorem kin_X5_init_X5 : ∀ w ∈ u_ws RX5 TX5 15, w ∈ wsX5_init := by decide +kernel
