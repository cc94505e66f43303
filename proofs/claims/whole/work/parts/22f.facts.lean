theorem kfl_X5_bands_16 : Cond.fieldLink RX5 16 "VisualSumsModel" "greyOne" "[I" ∈ wsX5_bands := by decide +kernel
theorem kfl_X5_bands_19 : Cond.fieldLink RX5 19 "VisualSumsModel" "greyTwo" "[I" ∈ wsX5_bands := by decide +kernel
theorem kfl_X5_bands_38 : Cond.fieldLink RX5 38 "VisualSumsModel" "wide" "I" ∈ wsX5_bands := by decide +kernel
theorem kfl_X5_bands_42 : Cond.fieldLink RX5 42 "VisualSumsModel" "high" "I" ∈ wsX5_bands := by decide +kernel
theorem kfl_X5_bands_48 : Cond.fieldLink RX5 48 "VisualSumsModel" "fault" "I" ∈ wsX5_bands := by decide +kernel
theorem kfl_X5_blocks_19 : Cond.fieldLink RX5 19 "VisualSumsModel" "greyTwo" "[I" ∈ wsX5_blocks := by decide +kernel
theorem kfl_X5_blocks_38 : Cond.fieldLink RX5 38 "VisualSumsModel" "wide" "I" ∈ wsX5_blocks := by decide +kernel
theorem kfl_X5_blocks_42 : Cond.fieldLink RX5 42 "VisualSumsModel" "high" "I" ∈ wsX5_blocks := by decide +kernel
theorem kfl_X5_blocks_48 : Cond.fieldLink RX5 48 "VisualSumsModel" "fault" "I" ∈ wsX5_blocks := by decide +kernel
theorem kfl_X5_clear_13 : Cond.fieldLink RX5 13 "VisualSumsModel" "two" "[I" ∈ wsX5_clear := by decide +kernel
theorem kfl_X5_clear_28 : Cond.fieldLink RX5 28 "VisualSumsModel" "many" "[I" ∈ wsX5_clear := by decide +kernel
theorem kfl_X5_clear_48 : Cond.fieldLink RX5 48 "VisualSumsModel" "fault" "I" ∈ wsX5_clear := by decide +kernel
theorem kfl_X5_clear_7 : Cond.fieldLink RX5 7 "VisualSumsModel" "one" "[I" ∈ wsX5_clear := by decide +kernel
theorem kfl_X5_map_38 : Cond.fieldLink RX5 38 "VisualSumsModel" "wide" "I" ∈ wsX5_map := by decide +kernel
theorem kfl_X5_map_42 : Cond.fieldLink RX5 42 "VisualSumsModel" "high" "I" ∈ wsX5_map := by decide +kernel
theorem kfl_X5_map_48 : Cond.fieldLink RX5 48 "VisualSumsModel" "fault" "I" ∈ wsX5_map := by decide +kernel
theorem kfl_X5_mean_28 : Cond.fieldLink RX5 28 "VisualSumsModel" "many" "[I" ∈ wsX5_mean := by decide +kernel
theorem kfl_X5_mean_31 : Cond.fieldLink RX5 31 "VisualSumsModel" "notes" "[D" ∈ wsX5_mean := by decide +kernel
theorem kfl_X5_mean_48 : Cond.fieldLink RX5 48 "VisualSumsModel" "fault" "I" ∈ wsX5_mean := by decide +kernel
theorem kfl_X5_note_28 : Cond.fieldLink RX5 28 "VisualSumsModel" "many" "[I" ∈ wsX5_note := by decide +kernel
theorem kfl_X5_note_31 : Cond.fieldLink RX5 31 "VisualSumsModel" "notes" "[D" ∈ wsX5_note := by decide +kernel
theorem kfl_X5_note_48 : Cond.fieldLink RX5 48 "VisualSumsModel" "fault" "I" ∈ wsX5_note := by decide +kernel
theorem kfl_X5_ranked_28 : Cond.fieldLink RX5 28 "VisualSumsModel" "many" "[I" ∈ wsX5_ranked := by decide +kernel
theorem kfl_X5_ranked_31 : Cond.fieldLink RX5 31 "VisualSumsModel" "notes" "[D" ∈ wsX5_ranked := by decide +kernel
theorem kfl_X5_ranked_35 : Cond.fieldLink RX5 35 "VisualSumsModel" "sorted" "[D" ∈ wsX5_ranked := by decide +kernel
theorem kfl_X5_ranked_48 : Cond.fieldLink RX5 48 "VisualSumsModel" "fault" "I" ∈ wsX5_ranked := by decide +kernel
theorem kfl_X5_structure_48 : Cond.fieldLink RX5 48 "VisualSumsModel" "fault" "I" ∈ wsX5_structure := by decide +kernel
theorem kfl_X5_structure_70 : Cond.fieldLink RX5 70 "VisualSumsModel" "nowWide" "I" ∈ wsX5_structure := by decide +kernel
theorem kfl_X5_structure_73 : Cond.fieldLink RX5 73 "VisualSumsModel" "nowHigh" "I" ∈ wsX5_structure := by decide +kernel
theorem kfl_X5_wins_28 : Cond.fieldLink RX5 28 "VisualSumsModel" "many" "[I" ∈ wsX5_wins := by decide +kernel
theorem kfl_X5_wins_31 : Cond.fieldLink RX5 31 "VisualSumsModel" "notes" "[D" ∈ wsX5_wins := by decide +kernel
theorem kfl_X5_wins_48 : Cond.fieldLink RX5 48 "VisualSumsModel" "fault" "I" ∈ wsX5_wins := by decide +kernel
theorem khd_X5_cell : yX5_cell.cls = RX5 ∧ yX5_cell.cls ≠ "java/lang/invoke/MethodHandle" ∧ yX5_cell.cls ≠ "java/lang/invoke/VarHandle" ∧ (parseMethodDescriptor yX5_cell.desc).map (fun d => d.parameters.length) = some 2 := ⟨rfl, by decide +kernel, by decide +kernel, by decide +kernel⟩
theorem khd_X5_halve : yX5_halve.cls = RX5 ∧ yX5_halve.cls ≠ "java/lang/invoke/MethodHandle" ∧ yX5_halve.cls ≠ "java/lang/invoke/VarHandle" ∧ (parseMethodDescriptor yX5_halve.desc).map (fun d => d.parameters.length) = some 0 := ⟨rfl, by decide +kernel, by decide +kernel, by decide +kernel⟩
theorem khd_X5_makeGrey : yX5_makeGrey.cls = RX5 ∧ yX5_makeGrey.cls ≠ "java/lang/invoke/MethodHandle" ∧ yX5_makeGrey.cls ≠ "java/lang/invoke/VarHandle" ∧ (parseMethodDescriptor yX5_makeGrey.desc).map (fun d => d.parameters.length) = some 0 := ⟨rfl, by decide +kernel, by decide +kernel, by decide +kernel⟩
theorem khd_X5_scales : yX5_scales.cls = RX5 ∧ yX5_scales.cls ≠ "java/lang/invoke/MethodHandle" ∧ yX5_scales.cls ≠ "java/lang/invoke/VarHandle" ∧ (parseMethodDescriptor yX5_scales.desc).map (fun d => d.parameters.length) = some 0 := ⟨rfl, by decide +kernel, by decide +kernel, by decide +kernel⟩
theorem kin_X5_bands_X5 : ∀ w ∈ u_ws RX5 TX5 15, w ∈ wsX5_bands := by decide +kernel
theorem kin_X5_blocks_X5 : ∀ w ∈ u_ws RX5 TX5 15, w ∈ wsX5_blocks := by decide +kernel
theorem kin_X5_clear_X5 : ∀ w ∈ u_ws RX5 TX5 15, w ∈ wsX5_clear := by decide +kernel
theorem kin_X5_map_X5 : ∀ w ∈ u_ws RX5 TX5 15, w ∈ wsX5_map := by decide +kernel
theorem kin_X5_mean_X5 : ∀ w ∈ u_ws RX5 TX5 15, w ∈ wsX5_mean := by decide +kernel
theorem kin_X5_note_X5 : ∀ w ∈ u_ws RX5 TX5 15, w ∈ wsX5_note := by decide +kernel
theorem kin_X5_ranked_X5 : ∀ w ∈ u_ws RX5 TX5 15, w ∈ wsX5_ranked := by decide +kernel
theorem kin_X5_structure_X5 : ∀ w ∈ u_ws RX5 TX5 15, w ∈ wsX5_structure := by decide +kernel
theorem kin_X5_wins_X5 : ∀ w ∈ u_ws RX5 TX5 15, w ∈ wsX5_wins := by decide +kernel
