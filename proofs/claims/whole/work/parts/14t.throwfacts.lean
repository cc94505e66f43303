theorem kthr_X4_blocks_80 : kThr wsX4_blocks kIAE 80 84 := ⟨by decide +kernel, by decide +kernel, by decide +kernel, by decide +kernel, by decide +kernel⟩
theorem kthr_X4_grey_73 : kThr wsX4_grey kIOB 73 77 := ⟨by decide +kernel, by decide +kernel, by decide +kernel, by decide +kernel, by decide +kernel⟩
theorem kthr_X4_map_73 : kThr wsX4_map kIOB 73 77 := ⟨by decide +kernel, by decide +kernel, by decide +kernel, by decide +kernel, by decide +kernel⟩
theorem kthr_X4_put_80 : kThr wsX4_put kIAE 80 84 := ⟨by decide +kernel, by decide +kernel, by decide +kernel, by decide +kernel, by decide +kernel⟩
theorem kthr_X4_put_73 : kThr wsX4_put kIOB 73 77 := ⟨by decide +kernel, by decide +kernel, by decide +kernel, by decide +kernel, by decide +kernel⟩
theorem kthr_X4_squared_73 : kThr wsX4_squared kIOB 73 77 := ⟨by decide +kernel, by decide +kernel, by decide +kernel, by decide +kernel, by decide +kernel⟩
theorem kthr_X4_structure_80 : kThr wsX4_structure kIAE 80 84 := ⟨by decide +kernel, by decide +kernel, by decide +kernel, by decide +kernel, by decide +kernel⟩
theorem kthr_X4_structure_124 : kThr wsX4_structure kISE 124 128 := ⟨by decide +kernel, by decide +kernel, by decide +kernel, by decide +kernel, by decide +kernel⟩
