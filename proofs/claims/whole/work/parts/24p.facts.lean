theorem kfl_X5_isKept_22 : Cond.fieldLink RX5 22 "VisualSumsModel" "partsOne" "[I" ∈ wsX5_isKept := by decide +kernel
theorem kfl_X5_isKept_25 : Cond.fieldLink RX5 25 "VisualSumsModel" "partsTwo" "[I" ∈ wsX5_isKept := by decide +kernel
theorem kfl_X5_number_38 : Cond.fieldLink RX5 38 "VisualSumsModel" "wide" "I" ∈ wsX5_number := by decide +kernel
theorem kfl_X5_number_42 : Cond.fieldLink RX5 42 "VisualSumsModel" "high" "I" ∈ wsX5_number := by decide +kernel
theorem kfl_X5_signs_16 : Cond.fieldLink RX5 16 "VisualSumsModel" "greyOne" "[I" ∈ wsX5_signs := by decide +kernel
theorem kfl_X5_signs_19 : Cond.fieldLink RX5 19 "VisualSumsModel" "greyTwo" "[I" ∈ wsX5_signs := by decide +kernel
theorem kfl_X5_signs_22 : Cond.fieldLink RX5 22 "VisualSumsModel" "partsOne" "[I" ∈ wsX5_signs := by decide +kernel
theorem kfl_X5_signs_25 : Cond.fieldLink RX5 25 "VisualSumsModel" "partsTwo" "[I" ∈ wsX5_signs := by decide +kernel
theorem kfl_X5_signs_48 : Cond.fieldLink RX5 48 "VisualSumsModel" "fault" "I" ∈ wsX5_signs := by decide +kernel
theorem kfl_X5_spread_38 : Cond.fieldLink RX5 38 "VisualSumsModel" "wide" "I" ∈ wsX5_spread := by decide +kernel
theorem kfl_X5_told_19 : Cond.fieldLink RX5 19 "VisualSumsModel" "greyTwo" "[I" ∈ wsX5_told := by decide +kernel
theorem kfl_X5_told_25 : Cond.fieldLink RX5 25 "VisualSumsModel" "partsTwo" "[I" ∈ wsX5_told := by decide +kernel
theorem kfl_X5_told_38 : Cond.fieldLink RX5 38 "VisualSumsModel" "wide" "I" ∈ wsX5_told := by decide +kernel
theorem kfl_X5_told_42 : Cond.fieldLink RX5 42 "VisualSumsModel" "high" "I" ∈ wsX5_told := by decide +kernel
theorem kfl_X5_told_45 : Cond.fieldLink RX5 45 "VisualSumsModel" "channels" "I" ∈ wsX5_told := by decide +kernel
theorem kfl_X5_told_48 : Cond.fieldLink RX5 48 "VisualSumsModel" "fault" "I" ∈ wsX5_told := by decide +kernel
theorem khd_X5_count : yX5_count.cls = RX5 ∧ yX5_count.cls ≠ "java/lang/invoke/MethodHandle" ∧ yX5_count.cls ≠ "java/lang/invoke/VarHandle" ∧ (parseMethodDescriptor yX5_count.desc).map (fun d => d.parameters.length) = some 1 := ⟨rfl, by decide +kernel, by decide +kernel, by decide +kernel⟩
theorem khd_X5_isKept : yX5_isKept.cls = RX5 ∧ yX5_isKept.cls ≠ "java/lang/invoke/MethodHandle" ∧ yX5_isKept.cls ≠ "java/lang/invoke/VarHandle" ∧ (parseMethodDescriptor yX5_isKept.desc).map (fun d => d.parameters.length) = some 1 := ⟨rfl, by decide +kernel, by decide +kernel, by decide +kernel⟩
theorem khd_X5_number : yX5_number.cls = RX5 ∧ yX5_number.cls ≠ "java/lang/invoke/MethodHandle" ∧ yX5_number.cls ≠ "java/lang/invoke/VarHandle" ∧ (parseMethodDescriptor yX5_number.desc).map (fun d => d.parameters.length) = some 2 := ⟨rfl, by decide +kernel, by decide +kernel, by decide +kernel⟩
theorem khd_X5_spread : yX5_spread.cls = RX5 ∧ yX5_spread.cls ≠ "java/lang/invoke/MethodHandle" ∧ yX5_spread.cls ≠ "java/lang/invoke/VarHandle" ∧ (parseMethodDescriptor yX5_spread.desc).map (fun d => d.parameters.length) = some 3 := ⟨rfl, by decide +kernel, by decide +kernel, by decide +kernel⟩
theorem kin_X5_isKept_X5 : ∀ w ∈ u_ws RX5 TX5 15, w ∈ wsX5_isKept := by decide +kernel
theorem kin_X5_number_X5 : ∀ w ∈ u_ws RX5 TX5 15, w ∈ wsX5_number := by decide +kernel
theorem kin_X5_signs_X5 : ∀ w ∈ u_ws RX5 TX5 15, w ∈ wsX5_signs := by decide +kernel
theorem kin_X5_spread_X5 : ∀ w ∈ u_ws RX5 TX5 15, w ∈ wsX5_spread := by decide +kernel
theorem kin_X5_told_X5 : ∀ w ∈ u_ws RX5 TX5 15, w ∈ wsX5_told := by decide +kernel
