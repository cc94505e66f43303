theorem kfl_X5_cell_16 : Cond.fieldLink RX5 16 "VisualSumsModel" "greyOne" "[I" ∈ wsX5_cell := by decide +kernel
theorem kfl_X5_cell_19 : Cond.fieldLink RX5 19 "VisualSumsModel" "greyTwo" "[I" ∈ wsX5_cell := by decide +kernel
theorem kfl_X5_cell_70 : Cond.fieldLink RX5 70 "VisualSumsModel" "nowWide" "I" ∈ wsX5_cell := by decide +kernel
theorem kfl_X5_copy_13 : Cond.fieldLink RX5 13 "VisualSumsModel" "two" "[I" ∈ wsX5_copy := by decide +kernel
theorem kfl_X5_copy_48 : Cond.fieldLink RX5 48 "VisualSumsModel" "fault" "I" ∈ wsX5_copy := by decide +kernel
theorem kfl_X5_copy_7 : Cond.fieldLink RX5 7 "VisualSumsModel" "one" "[I" ∈ wsX5_copy := by decide +kernel
theorem kfl_X5_greatest_13 : Cond.fieldLink RX5 13 "VisualSumsModel" "two" "[I" ∈ wsX5_greatest := by decide +kernel
theorem kfl_X5_greatest_48 : Cond.fieldLink RX5 48 "VisualSumsModel" "fault" "I" ∈ wsX5_greatest := by decide +kernel
theorem kfl_X5_greatest_7 : Cond.fieldLink RX5 7 "VisualSumsModel" "one" "[I" ∈ wsX5_greatest := by decide +kernel
theorem kfl_X5_grey_38 : Cond.fieldLink RX5 38 "VisualSumsModel" "wide" "I" ∈ wsX5_grey := by decide +kernel
theorem kfl_X5_grey_48 : Cond.fieldLink RX5 48 "VisualSumsModel" "fault" "I" ∈ wsX5_grey := by decide +kernel
theorem kfl_X5_greyOf_13 : Cond.fieldLink RX5 13 "VisualSumsModel" "two" "[I" ∈ wsX5_greyOf := by decide +kernel
theorem kfl_X5_greyOf_45 : Cond.fieldLink RX5 45 "VisualSumsModel" "channels" "I" ∈ wsX5_greyOf := by decide +kernel
theorem kfl_X5_greyOf_7 : Cond.fieldLink RX5 7 "VisualSumsModel" "one" "[I" ∈ wsX5_greyOf := by decide +kernel
theorem kfl_X5_halve_16 : Cond.fieldLink RX5 16 "VisualSumsModel" "greyOne" "[I" ∈ wsX5_halve := by decide +kernel
theorem kfl_X5_halve_19 : Cond.fieldLink RX5 19 "VisualSumsModel" "greyTwo" "[I" ∈ wsX5_halve := by decide +kernel
theorem kfl_X5_halve_70 : Cond.fieldLink RX5 70 "VisualSumsModel" "nowWide" "I" ∈ wsX5_halve := by decide +kernel
theorem kfl_X5_halve_73 : Cond.fieldLink RX5 73 "VisualSumsModel" "nowHigh" "I" ∈ wsX5_halve := by decide +kernel
theorem kfl_X5_isPlace_38 : Cond.fieldLink RX5 38 "VisualSumsModel" "wide" "I" ∈ wsX5_isPlace := by decide +kernel
theorem kfl_X5_isPlace_42 : Cond.fieldLink RX5 42 "VisualSumsModel" "high" "I" ∈ wsX5_isPlace := by decide +kernel
theorem kfl_X5_makeGrey_16 : Cond.fieldLink RX5 16 "VisualSumsModel" "greyOne" "[I" ∈ wsX5_makeGrey := by decide +kernel
theorem kfl_X5_makeGrey_19 : Cond.fieldLink RX5 19 "VisualSumsModel" "greyTwo" "[I" ∈ wsX5_makeGrey := by decide +kernel
theorem kfl_X5_makeGrey_38 : Cond.fieldLink RX5 38 "VisualSumsModel" "wide" "I" ∈ wsX5_makeGrey := by decide +kernel
theorem kfl_X5_makeGrey_42 : Cond.fieldLink RX5 42 "VisualSumsModel" "high" "I" ∈ wsX5_makeGrey := by decide +kernel
theorem kfl_X5_makeGrey_70 : Cond.fieldLink RX5 70 "VisualSumsModel" "nowWide" "I" ∈ wsX5_makeGrey := by decide +kernel
theorem kfl_X5_makeGrey_73 : Cond.fieldLink RX5 73 "VisualSumsModel" "nowHigh" "I" ∈ wsX5_makeGrey := by decide +kernel
theorem kfl_X5_paint_13 : Cond.fieldLink RX5 13 "VisualSumsModel" "two" "[I" ∈ wsX5_paint := by decide +kernel
theorem kfl_X5_paint_45 : Cond.fieldLink RX5 45 "VisualSumsModel" "channels" "I" ∈ wsX5_paint := by decide +kernel
theorem kfl_X5_paint_48 : Cond.fieldLink RX5 48 "VisualSumsModel" "fault" "I" ∈ wsX5_paint := by decide +kernel
theorem kfl_X5_paint_7 : Cond.fieldLink RX5 7 "VisualSumsModel" "one" "[I" ∈ wsX5_paint := by decide +kernel
theorem kfl_X5_places_38 : Cond.fieldLink RX5 38 "VisualSumsModel" "wide" "I" ∈ wsX5_places := by decide +kernel
theorem kfl_X5_places_42 : Cond.fieldLink RX5 42 "VisualSumsModel" "high" "I" ∈ wsX5_places := by decide +kernel
theorem kfl_X5_put_13 : Cond.fieldLink RX5 13 "VisualSumsModel" "two" "[I" ∈ wsX5_put := by decide +kernel
theorem kfl_X5_put_38 : Cond.fieldLink RX5 38 "VisualSumsModel" "wide" "I" ∈ wsX5_put := by decide +kernel
theorem kfl_X5_put_45 : Cond.fieldLink RX5 45 "VisualSumsModel" "channels" "I" ∈ wsX5_put := by decide +kernel
theorem kfl_X5_put_48 : Cond.fieldLink RX5 48 "VisualSumsModel" "fault" "I" ∈ wsX5_put := by decide +kernel
theorem kfl_X5_put_7 : Cond.fieldLink RX5 7 "VisualSumsModel" "one" "[I" ∈ wsX5_put := by decide +kernel
theorem kfl_X5_scales_38 : Cond.fieldLink RX5 38 "VisualSumsModel" "wide" "I" ∈ wsX5_scales := by decide +kernel
theorem kfl_X5_scales_42 : Cond.fieldLink RX5 42 "VisualSumsModel" "high" "I" ∈ wsX5_scales := by decide +kernel
theorem kfl_X5_squared_13 : Cond.fieldLink RX5 13 "VisualSumsModel" "two" "[I" ∈ wsX5_squared := by decide +kernel
theorem kfl_X5_squared_45 : Cond.fieldLink RX5 45 "VisualSumsModel" "channels" "I" ∈ wsX5_squared := by decide +kernel
theorem kfl_X5_squared_48 : Cond.fieldLink RX5 48 "VisualSumsModel" "fault" "I" ∈ wsX5_squared := by decide +kernel
theorem kfl_X5_squared_7 : Cond.fieldLink RX5 7 "VisualSumsModel" "one" "[I" ∈ wsX5_squared := by decide +kernel
theorem kfl_X5_thrown_48 : Cond.fieldLink RX5 48 "VisualSumsModel" "fault" "I" ∈ wsX5_thrown := by decide +kernel
theorem khd_X5_greatest : yX5_greatest.cls = RX5 ∧ yX5_greatest.cls ≠ "java/lang/invoke/MethodHandle" ∧ yX5_greatest.cls ≠ "java/lang/invoke/VarHandle" ∧ (parseMethodDescriptor yX5_greatest.desc).map (fun d => d.parameters.length) = some 0 := ⟨rfl, by decide +kernel, by decide +kernel, by decide +kernel⟩
theorem khd_X5_greyOf : yX5_greyOf.cls = RX5 ∧ yX5_greyOf.cls ≠ "java/lang/invoke/MethodHandle" ∧ yX5_greyOf.cls ≠ "java/lang/invoke/VarHandle" ∧ (parseMethodDescriptor yX5_greyOf.desc).map (fun d => d.parameters.length) = some 2 := ⟨rfl, by decide +kernel, by decide +kernel, by decide +kernel⟩
theorem khd_X5_in : yX5_in.cls ≠ "java/lang/invoke/MethodHandle" ∧ yX5_in.cls ≠ "java/lang/invoke/VarHandle" ∧ (parseMethodDescriptor yX5_in.desc).map (fun d => d.parameters.length) = some 3 := ⟨by decide +kernel, by decide +kernel, by decide +kernel⟩
theorem khd_X5_isPlace : yX5_isPlace.cls = RX5 ∧ yX5_isPlace.cls ≠ "java/lang/invoke/MethodHandle" ∧ yX5_isPlace.cls ≠ "java/lang/invoke/VarHandle" ∧ (parseMethodDescriptor yX5_isPlace.desc).map (fun d => d.parameters.length) = some 2 := ⟨rfl, by decide +kernel, by decide +kernel, by decide +kernel⟩
theorem khd_X5_places : yX5_places.cls = RX5 ∧ yX5_places.cls ≠ "java/lang/invoke/MethodHandle" ∧ yX5_places.cls ≠ "java/lang/invoke/VarHandle" ∧ (parseMethodDescriptor yX5_places.desc).map (fun d => d.parameters.length) = some 0 := ⟨rfl, by decide +kernel, by decide +kernel, by decide +kernel⟩
theorem khd_X5_weight : yX5_weight.cls ≠ "java/lang/invoke/MethodHandle" ∧ yX5_weight.cls ≠ "java/lang/invoke/VarHandle" ∧ (parseMethodDescriptor yX5_weight.desc).map (fun d => d.parameters.length) = some 1 := ⟨by decide +kernel, by decide +kernel, by decide +kernel⟩
theorem kin_X5_cell_X5 : ∀ w ∈ u_ws RX5 TX5 15, w ∈ wsX5_cell := by decide +kernel
theorem kin_X5_copy_X5 : ∀ w ∈ u_ws RX5 TX5 15, w ∈ wsX5_copy := by decide +kernel
theorem kin_X5_greatest_X5 : ∀ w ∈ u_ws RX5 TX5 15, w ∈ wsX5_greatest := by decide +kernel
theorem kin_X5_grey_X5 : ∀ w ∈ u_ws RX5 TX5 15, w ∈ wsX5_grey := by decide +kernel
theorem kin_X5_greyOf_X5 : ∀ w ∈ u_ws RX5 TX5 15, w ∈ wsX5_greyOf := by decide +kernel
theorem kin_X5_halve_X5 : ∀ w ∈ u_ws RX5 TX5 15, w ∈ wsX5_halve := by decide +kernel
theorem kin_X5_isPlace_X5 : ∀ w ∈ u_ws RX5 TX5 15, w ∈ wsX5_isPlace := by decide +kernel
theorem kin_X5_makeGrey_X5 : ∀ w ∈ u_ws RX5 TX5 15, w ∈ wsX5_makeGrey := by decide +kernel
theorem kin_X5_paint_X5 : ∀ w ∈ u_ws RX5 TX5 15, w ∈ wsX5_paint := by decide +kernel
theorem kin_X5_places_X5 : ∀ w ∈ u_ws RX5 TX5 15, w ∈ wsX5_places := by decide +kernel
theorem kin_X5_put_X5 : ∀ w ∈ u_ws RX5 TX5 15, w ∈ wsX5_put := by decide +kernel
theorem kin_X5_scales_X5 : ∀ w ∈ u_ws RX5 TX5 15, w ∈ wsX5_scales := by decide +kernel
theorem kin_X5_squared_X5 : ∀ w ∈ u_ws RX5 TX5 15, w ∈ wsX5_squared := by decide +kernel
theorem kin_X5_thrown_X5 : ∀ w ∈ u_ws RX5 TX5 15, w ∈ wsX5_thrown := by decide +kernel
