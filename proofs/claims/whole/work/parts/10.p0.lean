set_option maxHeartbeats 4000000 in
set_option maxRecDepth 100000 in
theorem c_X0_size (l : Launch) (D : va_G) (ty : Nat → ClassId) (h na sa m : Nat) (nt so : Nat → UInt64) : KM l yX0_size wsX0_size { frames := 0, cells := 0, slots := 0, locals := 0 } D ty [.ref h] [(h, .inr (0, [.ref na, .ref sa, .int (nI m)])), (na, .inl (ty 1, 200, .inr (.inr (.inr (.inl nt))))), (sa, .inl (ty 1, 200, .inr (.inr (.inr (.inl so)))))] (kI (fun r u => r = nI m ∧ u = [(h, .inr (0, [.ref na, .ref sa, .int (nI m)])), (na, .inl (ty 1, 200, .inr (.inr (.inr (.inl nt))))), (sa, .inl (ty 1, 200, .inr (.inr (.inr (.inl so)))))])) 0 0 := by
  refine KM.of (cc := cX0_size) (maxL := 1) (ret := (some .int)) (lv := [(0, .ref h)]) (by decide +kernel) rfl rfl rfl (fun X C0 R0 => ?_)
  have Cx : kC X cX0_size wsX0_size RX0 { frames := 0, cells := 0, slots := 0, locals := 0 } "size" l D ty 1 := C0
  refine j_aload_n (pc' := 1) Cx dX0_size_0 rfl rfl rfl ?_
  refine j_get (pc' := 4) (N := 3) Cx dX0_size_1 rfl kin_X0_size_X0 kfl_X0_size_18 0 rfl rfl 2 rfl rfl rfl ?_
  exact j_iret Cx dX0_size_4 R0 ⟨Nat.le_of_ble_eq_true rfl, Nat.le_of_ble_eq_true rfl⟩ (⟨_, rfl, rfl, rfl⟩)

set_option maxHeartbeats 4000000 in
set_option maxRecDepth 100000 in
theorem c_X0_empty (l : Launch) (D : va_G) (ty : Nat → ClassId) (h na sa m : Nat) (nt so : Nat → UInt64) : KM l yX0_empty wsX0_empty { frames := 0, cells := 0, slots := 0, locals := 0 } D ty [.ref h] [(h, .inr (0, [.ref na, .ref sa, .int (nI m)])), (na, .inl (ty 1, 200, .inr (.inr (.inr (.inl nt))))), (sa, .inl (ty 1, 200, .inr (.inr (.inr (.inl so)))))] (kV (fun u => u = [(h, .inr (0, [.ref na, .ref sa, .int (nI 0)])), (na, .inl (ty 1, 200, .inr (.inr (.inr (.inl nt))))), (sa, .inl (ty 1, 200, .inr (.inr (.inr (.inl so)))))])) 0 0 := by
  refine KM.of (cc := cX0_empty) (maxL := 1) (ret := none) (lv := [(0, .ref h)]) (by decide +kernel) rfl rfl rfl (fun X C0 R0 => ?_)
  have Cx : kC X cX0_empty wsX0_empty RX0 { frames := 0, cells := 0, slots := 0, locals := 0 } "empty" l D ty 1 := C0
  refine j_aload_n (pc' := 1) Cx dX0_empty_0 rfl rfl rfl ?_
  refine j_iconst (pc' := 2) (v := (nI 0)) Cx dX0_empty_1 rfl (by decide) ?_
  refine j_put (pc' := 5) (N := 3) (t := .int) (ws' := [(h, .inr (0, [.ref na, .ref sa, .int (nI 0)])), (na, .inl (ty 1, 200, .inr (.inr (.inr (.inl nt))))), (sa, .inl (ty 1, 200, .inr (.inr (.inr (.inl so)))))]) Cx dX0_empty_2 rfl kin_X0_empty_X0 kfl_X0_empty_18 tyX0_ok nmX0 0 rfl rfl 2 rfl rfl rfl rfl rfl rfl rfl ?_
  exact j_vret Cx dX0_empty_5 R0 ⟨Nat.le_of_ble_eq_true rfl, Nat.le_of_ble_eq_true rfl⟩ (⟨rfl, rfl⟩)

set_option maxHeartbeats 4000000 in
set_option maxRecDepth 100000 in
/-- Corpus.add, where there is room -/
theorem c_X0_add (l : Launch) (D : va_G) (ty : Nat → ClassId) (h na sa m : Nat) (nt so : Nat → UInt64) (v : UInt64) (hm : m < 200) : KM l yX0_add wsX0_add { frames := 0, cells := 0, slots := 0, locals := 0 } D ty [.ref h, .double (v)] [(h, .inr (0, [.ref na, .ref sa, .int (nI m)])), (na, .inl (ty 1, 200, .inr (.inr (.inr (.inl nt))))), (sa, .inl (ty 1, 200, .inr (.inr (.inr (.inl so)))))] (kI (fun r u => r = nI (m + 1) ∧ u = [(h, .inr (0, [.ref na, .ref sa, .int (nI (m + 1))])), (na, .inl (ty 1, 200, .inr (.inr (.inr (.inl (va_up nt m v)))))), (sa, .inl (ty 1, 200, .inr (.inr (.inr (.inl (kinsd v m so))))))])) 0 0 := by
  refine KM.of (cc := cX0_add) (maxL := 4) (ret := (some .int)) (lv := [(0, .ref h), (1, .double (v))]) (by decide +kernel) rfl rfl rfl (fun X C0 R0 => ?_)
  have Cx : kC X cX0_add wsX0_add RX0 { frames := 0, cells := 0, slots := 0, locals := 0 } "add" l D ty 4 := C0
  refine j_aload_n (pc' := 1) Cx dX0_add_0 rfl rfl rfl ?_
  refine j_get (pc' := 4) (N := 3) Cx dX0_add_1 rfl kin_X0_add_X0 kfl_X0_add_18 0 rfl rfl 2 rfl rfl rfl ?_
  refine j_if_lt_n (tgt := 31) (pc' := 7) Cx dX0_add_4 (by decide) rfl (by omega) ?_
  refine j_aload_n (pc' := 8) Cx dX0_add_7 rfl rfl rfl ?_
  refine j_get (pc' := 11) (N := 3) Cx dX0_add_8 rfl kin_X0_add_X0 kfl_X0_add_18 0 rfl rfl 2 rfl rfl rfl ?_
  refine j_aload_n (pc' := 12) Cx dX0_add_11 rfl rfl rfl ?_
  refine j_get (pc' := 15) (N := 3) Cx dX0_add_12 rfl kin_X0_add_X0 kfl_X0_add_9 0 rfl rfl 0 rfl rfl rfl ?_
  refine j_alen (pc' := 16) (v := nI 200) Cx dX0_add_15 rfl 1 rfl rfl rfl ?_
  refine j_icmp_ge_n (tgt := 31) (pc' := 19) Cx dX0_add_16 (by decide) rfl (by omega) (by omega) (fun hh => absurd hh (by omega)) (fun _ => ?_)
  refine j_aload_n (pc' := 20) Cx dX0_add_19 rfl rfl rfl ?_
  refine j_get (pc' := 23) (N := 3) Cx dX0_add_20 rfl kin_X0_add_X0 kfl_X0_add_18 0 rfl rfl 2 rfl rfl rfl ?_
  refine j_aload_n (pc' := 24) Cx dX0_add_23 rfl rfl rfl ?_
  refine j_get (pc' := 27) (N := 3) Cx dX0_add_24 rfl kin_X0_add_X0 kfl_X0_add_15 0 rfl rfl 1 rfl rfl rfl ?_
  refine j_alen (pc' := 28) (v := nI 200) Cx dX0_add_27 rfl 2 rfl rfl rfl ?_
  refine j_icmp_lt_n (tgt := 33) (pc' := 31) Cx dX0_add_28 (by decide) rfl (by omega) (by omega) (fun _ => ?_) (fun hh => absurd hh (by omega))
  refine j_aload_n (pc' := 34) Cx dX0_add_33 rfl rfl rfl ?_
  refine j_get (pc' := 37) (N := 3) Cx dX0_add_34 rfl kin_X0_add_X0 kfl_X0_add_9 0 rfl rfl 0 rfl rfl rfl ?_
  refine j_aload_n (pc' := 38) Cx dX0_add_37 rfl rfl rfl ?_
  refine j_get (pc' := 41) (N := 3) Cx dX0_add_38 rfl kin_X0_add_X0 kfl_X0_add_18 0 rfl rfl 2 rfl rfl rfl ?_
  refine j_dload_n (pc' := 42) Cx dX0_add_41 rfl rfl rfl ?_
  refine j_dastore_n (pc' := 43) (ws' := [(h, .inr (0, [.ref na, .ref sa, .int (nI m)])), (na, .inl (ty 1, 200, .inr (.inr (.inr (.inl (va_up nt m v)))))), (sa, .inl (ty 1, 200, .inr (.inr (.inr (.inl so)))))]) Cx dX0_add_42 rfl 1 rfl (by omega) (by omega) rfl ?_
  refine j_aload_n (pc' := 44) Cx dX0_add_43 rfl rfl rfl ?_
  refine j_get (pc' := 47) (N := 3) Cx dX0_add_44 rfl kin_X0_add_X0 kfl_X0_add_18 0 rfl rfl 2 rfl rfl rfl ?_
  refine j_istore_n (pc' := 48) (lv' := [(0, .ref h), (1, .double (v)), (3, .int (nI m))]) Cx dX0_add_47 rfl rfl (by decide) rfl ?_
  have LP : ∀ (LP_n : Nat), ∀ (k : Nat) (s : Nat → UInt64), (k < LP_n) → (k ≤ m) → (kinsd v k s = kinsd v m so) → J X [(h, .inr (0, [.ref na, .ref sa, .int (nI m)])), (na, .inl (ty 1, 200, .inr (.inr (.inr (.inl (va_up nt m v)))))), (sa, .inl (ty 1, 200, .inr (.inr (.inr (.inl s)))))] [(0, .ref h), (1, .double (v)), (3, .int (nI k))] 48 [] 0 0 := by
    intro LP_n
    induction LP_n with
    | zero =>
      intro k s hms _ _
      exact absurd hms (Nat.not_lt_zero _)
    | succ LP_n LP_ih =>
      intro k s LP_m hle heq
      refine j_iload_n (pc' := 49) Cx dX0_add_48 rfl rfl rfl ?_
      refine j_if_le_n (tgt := 85) (pc' := 52) Cx dX0_add_49 (by decide) rfl (by omega) (fun h0 => ?_) (fun h0 => ?_)
      · subst h0
        refine j_aload_n (pc' := 86) Cx dX0_add_85 rfl rfl rfl ?_
        refine j_get (pc' := 89) (N := 3) Cx dX0_add_86 rfl kin_X0_add_X0 kfl_X0_add_15 0 rfl rfl 1 rfl rfl rfl ?_
        refine j_iload_n (pc' := 90) Cx dX0_add_89 rfl rfl rfl ?_
        refine j_dload_n (pc' := 91) Cx dX0_add_90 rfl rfl rfl ?_
        refine j_dastore_n (pc' := 92) (ws' := [(h, .inr (0, [.ref na, .ref sa, .int (nI m)])), (na, .inl (ty 1, 200, .inr (.inr (.inr (.inl (va_up nt m v)))))), (sa, .inl (ty 1, 200, .inr (.inr (.inr (.inl (va_up s 0 v))))))]) Cx dX0_add_91 rfl 2 rfl (by omega) (by omega) rfl ?_
        refine j_aload_n (pc' := 93) Cx dX0_add_92 rfl rfl rfl ?_
        refine j_dup (pc' := 94) Cx dX0_add_93 rfl rfl ?_
        refine j_get (pc' := 97) (N := 3) Cx dX0_add_94 rfl kin_X0_add_X0 kfl_X0_add_18 0 rfl rfl 2 rfl rfl rfl ?_
        refine j_iconst (pc' := 98) (v := (nI 1)) Cx dX0_add_97 rfl (by decide) ?_
        refine j_iadd_n (pc' := 99) Cx dX0_add_98 rfl ?_
        refine j_put (pc' := 102) (N := 3) (t := .int) (ws' := [(h, .inr (0, [.ref na, .ref sa, .int (nI (m + 1))])), (na, .inl (ty 1, 200, .inr (.inr (.inr (.inl (va_up nt m v)))))), (sa, .inl (ty 1, 200, .inr (.inr (.inr (.inl (va_up s 0 v))))))]) Cx dX0_add_99 rfl kin_X0_add_X0 kfl_X0_add_18 tyX0_ok nmX0 0 rfl rfl 2 rfl rfl rfl rfl rfl rfl rfl ?_
        refine j_aload_n (pc' := 103) Cx dX0_add_102 rfl rfl rfl ?_
        refine j_get (pc' := 106) (N := 3) Cx dX0_add_103 rfl kin_X0_add_X0 kfl_X0_add_18 0 rfl rfl 2 rfl rfl rfl ?_
        exact j_iret Cx dX0_add_106 R0 ⟨Nat.le_of_ble_eq_true rfl, Nat.le_of_ble_eq_true rfl⟩ (⟨_, rfl, rfl, by first | (rw [← heq]; done) | (rw [← heq]; rfl)⟩)
      · obtain ⟨j, rfl⟩ : ∃ j, k = j + 1 := ⟨k - 1, by omega⟩
        refine j_aload_n (pc' := 53) Cx dX0_add_52 rfl rfl rfl ?_
        refine j_get (pc' := 56) (N := 3) Cx dX0_add_53 rfl kin_X0_add_X0 kfl_X0_add_15 0 rfl rfl 1 rfl rfl rfl ?_
        refine j_iload_n (pc' := 57) Cx dX0_add_56 rfl rfl rfl ?_
        refine j_iconst (pc' := 58) (v := (nI 1)) Cx dX0_add_57 rfl (by decide) ?_
        refine j_isub_n (pc' := 59) Cx dX0_add_58 rfl (Nat.le_add_left 1 j) ?_
        refine j_top (v' := .int (nI j)) (congrArg (fun z : Nat => Value.int (nI z)) (show (j + 1) - 1 = j from by omega)) ?_
        refine j_daload_n (pc' := 60) Cx dX0_add_59 rfl 2 rfl (by omega) (by omega) ?_
        refine j_dload_n (pc' := 61) Cx dX0_add_60 rfl rfl rfl ?_
        refine j_dcmp (pc' := 62) Cx dX0_add_61 rfl ?_
        refine j_if_le (tgt := 85) (pc' := 65) Cx dX0_add_62 (by decide) rfl (fun hc => ?_) (fun hc => ?_)
        · have e : kGt (s j) v = false := decide_eq_false (fun hh => absurd hc (Int32.not_le.mpr hh))
          have heq : va_up s (j + 1) v = kinsd v m so := by rw [← heq]; show _ = (if kGt (s j) v then _ else _); rw [e]; rfl
          refine j_aload_n (pc' := 86) Cx dX0_add_85 rfl rfl rfl ?_
          refine j_get (pc' := 89) (N := 3) Cx dX0_add_86 rfl kin_X0_add_X0 kfl_X0_add_15 0 rfl rfl 1 rfl rfl rfl ?_
          refine j_iload_n (pc' := 90) Cx dX0_add_89 rfl rfl rfl ?_
          refine j_dload_n (pc' := 91) Cx dX0_add_90 rfl rfl rfl ?_
          refine j_dastore_n (pc' := 92) (ws' := [(h, .inr (0, [.ref na, .ref sa, .int (nI m)])), (na, .inl (ty 1, 200, .inr (.inr (.inr (.inl (va_up nt m v)))))), (sa, .inl (ty 1, 200, .inr (.inr (.inr (.inl (va_up s (j + 1) v))))))]) Cx dX0_add_91 rfl 2 rfl (by omega) (by omega) rfl ?_
          refine j_aload_n (pc' := 93) Cx dX0_add_92 rfl rfl rfl ?_
          refine j_dup (pc' := 94) Cx dX0_add_93 rfl rfl ?_
          refine j_get (pc' := 97) (N := 3) Cx dX0_add_94 rfl kin_X0_add_X0 kfl_X0_add_18 0 rfl rfl 2 rfl rfl rfl ?_
          refine j_iconst (pc' := 98) (v := (nI 1)) Cx dX0_add_97 rfl (by decide) ?_
          refine j_iadd_n (pc' := 99) Cx dX0_add_98 rfl ?_
          refine j_put (pc' := 102) (N := 3) (t := .int) (ws' := [(h, .inr (0, [.ref na, .ref sa, .int (nI (m + 1))])), (na, .inl (ty 1, 200, .inr (.inr (.inr (.inl (va_up nt m v)))))), (sa, .inl (ty 1, 200, .inr (.inr (.inr (.inl (va_up s (j + 1) v))))))]) Cx dX0_add_99 rfl kin_X0_add_X0 kfl_X0_add_18 tyX0_ok nmX0 0 rfl rfl 2 rfl rfl rfl rfl rfl rfl rfl ?_
          refine j_aload_n (pc' := 103) Cx dX0_add_102 rfl rfl rfl ?_
          refine j_get (pc' := 106) (N := 3) Cx dX0_add_103 rfl kin_X0_add_X0 kfl_X0_add_18 0 rfl rfl 2 rfl rfl rfl ?_
          exact j_iret Cx dX0_add_106 R0 ⟨Nat.le_of_ble_eq_true rfl, Nat.le_of_ble_eq_true rfl⟩ (⟨_, rfl, rfl, by first | (rw [← heq]; done) | (rw [← heq]; rfl)⟩)
        · have e : kGt (s j) v = true := decide_eq_true (Int32.not_le.mp hc)
          have heq : kinsd v j (va_up s (j + 1) (s j)) = kinsd v m so := by rw [← heq]; show _ = (if kGt (s j) v then _ else _); rw [e]; rfl
          refine j_aload_n (pc' := 66) Cx dX0_add_65 rfl rfl rfl ?_
          refine j_get (pc' := 69) (N := 3) Cx dX0_add_66 rfl kin_X0_add_X0 kfl_X0_add_15 0 rfl rfl 1 rfl rfl rfl ?_
          refine j_iload_n (pc' := 70) Cx dX0_add_69 rfl rfl rfl ?_
          refine j_aload_n (pc' := 71) Cx dX0_add_70 rfl rfl rfl ?_
          refine j_get (pc' := 74) (N := 3) Cx dX0_add_71 rfl kin_X0_add_X0 kfl_X0_add_15 0 rfl rfl 1 rfl rfl rfl ?_
          refine j_iload_n (pc' := 75) Cx dX0_add_74 rfl rfl rfl ?_
          refine j_iconst (pc' := 76) (v := (nI 1)) Cx dX0_add_75 rfl (by decide) ?_
          refine j_isub_n (pc' := 77) Cx dX0_add_76 rfl (Nat.le_add_left 1 j) ?_
          refine j_top (v' := .int (nI j)) (congrArg (fun z : Nat => Value.int (nI z)) (show (j + 1) - 1 = j from by omega)) ?_
          refine j_daload_n (pc' := 78) Cx dX0_add_77 rfl 2 rfl (by omega) (by omega) ?_
          refine j_dastore_n (pc' := 79) (ws' := [(h, .inr (0, [.ref na, .ref sa, .int (nI m)])), (na, .inl (ty 1, 200, .inr (.inr (.inr (.inl (va_up nt m v)))))), (sa, .inl (ty 1, 200, .inr (.inr (.inr (.inl (va_up s (j + 1) (s j)))))))]) Cx dX0_add_78 rfl 2 rfl (by omega) (by omega) rfl ?_
          refine j_iinc (pc' := 82) (lv' := [(0, .ref h), (1, .double (v)), (3, .int (nI j))]) Cx dX0_add_79 rfl rfl (pk_m1 j) (by decide) rfl ?_
          refine j_goto (tgt := 48) Cx dX0_add_82 (by decide) ?_
          exact LP_ih j (va_up s (j + 1) (s j)) (by omega) (by omega) heq
  exact LP (m + 1) m so (by omega) (Nat.le_refl m) rfl

set_option maxHeartbeats 4000000 in
set_option maxRecDepth 100000 in
/-- Corpus.add, where there is none -/
theorem c_X0_add_full (l : Launch) (D : va_G) (ty : Nat → ClassId) (h na sa : Nat) (nt so : Nat → UInt64) (v : UInt64) : KM l yX0_add wsX0_add { frames := 0, cells := 0, slots := 0, locals := 0 } D ty [.ref h, .double (v)] [(h, .inr (0, [.ref na, .ref sa, .int (nI 200)])), (na, .inl (ty 1, 200, .inr (.inr (.inr (.inl nt))))), (sa, .inl (ty 1, 200, .inr (.inr (.inr (.inl so)))))] (kI (fun r u => r = -1 ∧ u = [(h, .inr (0, [.ref na, .ref sa, .int (nI 200)])), (na, .inl (ty 1, 200, .inr (.inr (.inr (.inl nt))))), (sa, .inl (ty 1, 200, .inr (.inr (.inr (.inl so)))))])) 0 0 := by
  refine KM.of (cc := cX0_add) (maxL := 4) (ret := (some .int)) (lv := [(0, .ref h), (1, .double (v))]) (by decide +kernel) rfl rfl rfl (fun X C0 R0 => ?_)
  have Cx : kC X cX0_add wsX0_add RX0 { frames := 0, cells := 0, slots := 0, locals := 0 } "add" l D ty 4 := C0
  refine j_aload_n (pc' := 1) Cx dX0_add_0 rfl rfl rfl ?_
  refine j_get (pc' := 4) (N := 3) Cx dX0_add_1 rfl kin_X0_add_X0 kfl_X0_add_18 0 rfl rfl 2 rfl rfl rfl ?_
  refine j_if_lt_n (tgt := 31) (pc' := 7) Cx dX0_add_4 (by decide) rfl (by omega) ?_
  refine j_aload_n (pc' := 8) Cx dX0_add_7 rfl rfl rfl ?_
  refine j_get (pc' := 11) (N := 3) Cx dX0_add_8 rfl kin_X0_add_X0 kfl_X0_add_18 0 rfl rfl 2 rfl rfl rfl ?_
  refine j_aload_n (pc' := 12) Cx dX0_add_11 rfl rfl rfl ?_
  refine j_get (pc' := 15) (N := 3) Cx dX0_add_12 rfl kin_X0_add_X0 kfl_X0_add_9 0 rfl rfl 0 rfl rfl rfl ?_
  refine j_alen (pc' := 16) (v := nI 200) Cx dX0_add_15 rfl 1 rfl rfl rfl ?_
  refine j_icmp_ge_n (tgt := 31) (pc' := 19) Cx dX0_add_16 (by decide) rfl (by omega) (by omega) (fun _ => ?_) (fun hh => absurd hh (by omega))
  refine j_iconst (pc' := 32) (v := (-1)) Cx dX0_add_31 rfl (by decide) ?_
  exact j_iret Cx dX0_add_32 R0 ⟨Nat.le_of_ble_eq_true rfl, Nat.le_of_ble_eq_true rfl⟩ (⟨_, rfl, rfl, rfl⟩)

set_option maxHeartbeats 4000000 in
set_option maxRecDepth 100000 in
/-- Corpus.average -/
theorem c_X0_average (l : Launch) (D : va_G) (ty : Nat → ClassId) (h na sa m : Nat) (nt so : Nat → UInt64) (h0 : 0 < m) (hm : m ≤ 200) (hf : ∀ k, k < m → FP.Core.DFin (nt k)) : KM l yX0_average wsX0_average { frames := 0, cells := 0, slots := 0, locals := 0 } D ty [.ref h] [(h, .inr (0, [.ref na, .ref sa, .int (nI m)])), (na, .inl (ty 1, 200, .inr (.inr (.inr (.inl nt))))), (sa, .inl (ty 1, 200, .inr (.inr (.inr (.inl so)))))] (kF (fun r u => r = FP.ddiv (kdsum nt m) (FP.i2d (nI m)) ∧ u = [(h, .inr (0, [.ref na, .ref sa, .int (nI m)])), (na, .inl (ty 1, 200, .inr (.inr (.inr (.inl nt))))), (sa, .inl (ty 1, 200, .inr (.inr (.inr (.inl so)))))])) 0 0 := by
  refine KM.of (cc := cX0_average) (maxL := 4) (ret := (some .double)) (lv := [(0, .ref h)]) (by decide +kernel) rfl rfl rfl (fun X C0 R0 => ?_)
  have Cx : kC X cX0_average wsX0_average RX0 { frames := 0, cells := 0, slots := 0, locals := 0 } "average" l D ty 4 := C0
  refine j_dconst0 (pc' := 1) Cx dX0_average_0 rfl ?_
  refine j_dstore_n (pc' := 2) (lv' := [(0, .ref h), (1, .double (0))]) Cx dX0_average_1 rfl rfl (by decide) rfl ?_
  refine j_iconst (pc' := 3) (v := (nI 0)) Cx dX0_average_2 rfl (by decide) ?_
  refine j_istore_n (pc' := 4) (lv' := [(0, .ref h), (1, .double (0)), (3, .int (nI 0))]) Cx dX0_average_3 rfl rfl (by decide) rfl ?_
  have LP : ∀ (LP_n : Nat), ∀ (i : Nat), (m - i < LP_n) → (i ≤ m) → J X [(h, .inr (0, [.ref na, .ref sa, .int (nI m)])), (na, .inl (ty 1, 200, .inr (.inr (.inr (.inl nt))))), (sa, .inl (ty 1, 200, .inr (.inr (.inr (.inl so)))))] [(0, .ref h), (1, .double (kdsum nt i)), (3, .int (nI i))] 4 [] 0 0 := by
    intro LP_n
    induction LP_n with
    | zero =>
      intro i hms _
      exact absurd hms (Nat.not_lt_zero _)
    | succ LP_n LP_ih =>
      intro i LP_m hle
      refine j_iload_n (pc' := 5) Cx dX0_average_4 rfl rfl rfl ?_
      refine j_aload_n (pc' := 6) Cx dX0_average_5 rfl rfl rfl ?_
      refine j_get (pc' := 9) (N := 3) Cx dX0_average_6 rfl kin_X0_average_X0 kfl_X0_average_18 0 rfl rfl 2 rfl rfl rfl ?_
      refine j_icmp_ge_n (tgt := 36) (pc' := 12) Cx dX0_average_9 (by decide) rfl (by omega) (by omega) (fun hi => ?_) (fun hi => ?_)
      · have e : i = m := by omega
        subst e
        refine j_aload_n (pc' := 37) Cx dX0_average_36 rfl rfl rfl ?_
        refine j_get (pc' := 40) (N := 3) Cx dX0_average_37 rfl kin_X0_average_X0 kfl_X0_average_18 0 rfl rfl 2 rfl rfl rfl ?_
        refine j_if_le_n (tgt := 53) (pc' := 43) Cx dX0_average_40 (by decide) rfl (by omega) (fun hh => absurd hh (by omega)) (fun _ => ?_)
        refine j_dload_n (pc' := 44) Cx dX0_average_43 rfl rfl rfl ?_
        refine j_aload_n (pc' := 45) Cx dX0_average_44 rfl rfl rfl ?_
        refine j_get (pc' := 48) (N := 3) Cx dX0_average_45 rfl kin_X0_average_X0 kfl_X0_average_18 0 rfl rfl 2 rfl rfl rfl ?_
        refine j_i2d (pc' := 49) Cx dX0_average_48 rfl ?_
        refine j_ddiv (pc' := 50) Cx dX0_average_49 rfl (k_ddiv_no (kdsum_no hf) h0 (by omega)) ?_
        refine j_goto (tgt := 54) Cx dX0_average_50 (by decide) ?_
        exact j_dret Cx dX0_average_54 R0 ⟨Nat.le_of_ble_eq_true rfl, Nat.le_of_ble_eq_true rfl⟩ (⟨_, rfl, rfl, rfl⟩)
      · refine j_iload_n (pc' := 13) Cx dX0_average_12 rfl rfl rfl ?_
        refine j_aload_n (pc' := 14) Cx dX0_average_13 rfl rfl rfl ?_
        refine j_get (pc' := 17) (N := 3) Cx dX0_average_14 rfl kin_X0_average_X0 kfl_X0_average_9 0 rfl rfl 0 rfl rfl rfl ?_
        refine j_alen (pc' := 18) (v := nI 200) Cx dX0_average_17 rfl 1 rfl rfl rfl ?_
        refine j_icmp_ge_n (tgt := 36) (pc' := 21) Cx dX0_average_18 (by decide) rfl (by omega) (by omega) (fun hh => absurd hh (by omega)) (fun _ => ?_)
        refine j_dload_n (pc' := 22) Cx dX0_average_21 rfl rfl rfl ?_
        refine j_aload_n (pc' := 23) Cx dX0_average_22 rfl rfl rfl ?_
        refine j_get (pc' := 26) (N := 3) Cx dX0_average_23 rfl kin_X0_average_X0 kfl_X0_average_9 0 rfl rfl 0 rfl rfl rfl ?_
        refine j_iload_n (pc' := 27) Cx dX0_average_26 rfl rfl rfl ?_
        refine j_daload_n (pc' := 28) Cx dX0_average_27 rfl 1 rfl (by omega) (by omega) ?_
        refine j_dadd (pc' := 29) Cx dX0_average_28 rfl (kdsum_no (n := i + 1) (fun k hk => hf k (by omega))) ?_
        refine j_dstore_n (pc' := 30) (lv' := [(0, .ref h), (1, .double (FP.dadd (kdsum nt i) (nt i))), (3, .int (nI i))]) Cx dX0_average_29 rfl rfl (by decide) rfl ?_
        refine j_iinc_n (pc' := 33) (z := 1) (a := i) (lv' := [(0, .ref h), (1, .double (FP.dadd (kdsum nt i) (nt i))), (3, .int (nI (i + 1)))]) Cx dX0_average_30 rfl rfl (by decide) rfl ?_
        refine j_goto (tgt := 4) Cx dX0_average_33 (by decide) ?_
        refine J.cast (ws' := [(h, .inr (0, [.ref na, .ref sa, .int (nI m)])), (na, .inl (ty 1, 200, .inr (.inr (.inr (.inl nt))))), (sa, .inl (ty 1, 200, .inr (.inr (.inr (.inl so)))))]) (lv' := [(0, .ref h), (1, .double (kdsum nt (i + 1))), (3, .int (nI (i + 1)))]) (pc' := 4) (st' := []) (rfl) (rfl) rfl (rfl) rfl rfl ?_
        exact LP_ih (i + 1) (by omega) (by omega)
  refine J.cast (ws' := [(h, .inr (0, [.ref na, .ref sa, .int (nI m)])), (na, .inl (ty 1, 200, .inr (.inr (.inr (.inl nt))))), (sa, .inl (ty 1, 200, .inr (.inr (.inr (.inl so)))))]) (lv' := [(0, .ref h), (1, .double (kdsum nt 0)), (3, .int (nI 0))]) (pc' := 4) (st' := []) (rfl) (rfl) rfl (rfl) rfl rfl ?_
  exact LP (m + 1) 0 (by omega) (Nat.zero_le m)

set_option maxHeartbeats 4000000 in
set_option maxRecDepth 100000 in
theorem c_X0_atRank (l : Launch) (D : va_G) (ty : Nat → ClassId) (h na sa m : Nat) (nt so : Nat → UInt64) (i : Nat) (hi : i < m) (hm : m ≤ 200) : KM l yX0_atRank wsX0_atRank { frames := 0, cells := 0, slots := 0, locals := 0 } D ty [.ref h, .int (nI i)] [(h, .inr (0, [.ref na, .ref sa, .int (nI m)])), (na, .inl (ty 1, 200, .inr (.inr (.inr (.inl nt))))), (sa, .inl (ty 1, 200, .inr (.inr (.inr (.inl so)))))] (kF (fun r u => r = so i ∧ u = [(h, .inr (0, [.ref na, .ref sa, .int (nI m)])), (na, .inl (ty 1, 200, .inr (.inr (.inr (.inl nt))))), (sa, .inl (ty 1, 200, .inr (.inr (.inr (.inl so)))))])) 0 0 := by
  refine KM.of (cc := cX0_atRank) (maxL := 2) (ret := (some .double)) (lv := [(0, .ref h), (1, .int (nI i))]) (by decide +kernel) rfl rfl rfl (fun X C0 R0 => ?_)
  have Cx : kC X cX0_atRank wsX0_atRank RX0 { frames := 0, cells := 0, slots := 0, locals := 0 } "atRank" l D ty 2 := C0
  refine j_iload_n (pc' := 1) Cx dX0_atRank_0 rfl rfl rfl ?_
  refine j_if_lt_n (tgt := 30) (pc' := 4) Cx dX0_atRank_1 (by decide) rfl (by omega) ?_
  refine j_iload_n (pc' := 5) Cx dX0_atRank_4 rfl rfl rfl ?_
  refine j_aload_n (pc' := 6) Cx dX0_atRank_5 rfl rfl rfl ?_
  refine j_get (pc' := 9) (N := 3) Cx dX0_atRank_6 rfl kin_X0_atRank_X0 kfl_X0_atRank_18 0 rfl rfl 2 rfl rfl rfl ?_
  refine j_icmp_ge_n (tgt := 30) (pc' := 12) Cx dX0_atRank_9 (by decide) rfl (by omega) (by omega) (fun hh => absurd hh (by omega)) (fun _ => ?_)
  refine j_iload_n (pc' := 13) Cx dX0_atRank_12 rfl rfl rfl ?_
  refine j_aload_n (pc' := 14) Cx dX0_atRank_13 rfl rfl rfl ?_
  refine j_get (pc' := 17) (N := 3) Cx dX0_atRank_14 rfl kin_X0_atRank_X0 kfl_X0_atRank_15 0 rfl rfl 1 rfl rfl rfl ?_
  refine j_alen (pc' := 18) (v := nI 200) Cx dX0_atRank_17 rfl 2 rfl rfl rfl ?_
  refine j_icmp_ge_n (tgt := 30) (pc' := 21) Cx dX0_atRank_18 (by decide) rfl (by omega) (by omega) (fun hh => absurd hh (by omega)) (fun _ => ?_)
  refine j_aload_n (pc' := 22) Cx dX0_atRank_21 rfl rfl rfl ?_
  refine j_get (pc' := 25) (N := 3) Cx dX0_atRank_22 rfl kin_X0_atRank_X0 kfl_X0_atRank_15 0 rfl rfl 1 rfl rfl rfl ?_
  refine j_iload_n (pc' := 26) Cx dX0_atRank_25 rfl rfl rfl ?_
  refine j_daload_n (pc' := 27) Cx dX0_atRank_26 rfl 2 rfl (by omega) (by omega) ?_
  refine j_goto (tgt := 31) Cx dX0_atRank_27 (by decide) ?_
  exact j_dret Cx dX0_atRank_31 R0 ⟨Nat.le_of_ble_eq_true rfl, Nat.le_of_ble_eq_true rfl⟩ (⟨_, rfl, rfl, rfl⟩)

set_option maxHeartbeats 4000000 in
set_option maxRecDepth 100000 in
/-- Corpus.winsAgainst -/
theorem c_X0_winsAgainst (l : Launch) (D : va_G) (ty : Nat → ClassId) (h na sa m : Nat) (nt so : Nat → UInt64) (h2 nb sb m2 : Nat) (nu sp : Nat → UInt64) (hm : m ≤ 200) (hm2 : m2 ≤ 200) : KM l yX0_winsAgainst wsX0_winsAgainst { frames := 1, cells := 0, slots := 0, locals := 21 } D ty [.ref h, .ref h2] [(h, .inr (0, [.ref na, .ref sa, .int (nI m)])), (na, .inl (ty 1, 200, .inr (.inr (.inr (.inl nt))))), (sa, .inl (ty 1, 200, .inr (.inr (.inr (.inl so))))), (h2, .inr (0, [.ref nb, .ref sb, .int (nI m2)])), (nb, .inl (ty 1, 200, .inr (.inr (.inr (.inl nu))))), (sb, .inl (ty 1, 200, .inr (.inr (.inr (.inl sp)))))] (kI (fun r u => r = kwin nt nu (if m2 < m then m2 else m) ∧ u = [(h, .inr (0, [.ref na, .ref sa, .int (nI m)])), (na, .inl (ty 1, 200, .inr (.inr (.inr (.inl nt))))), (sa, .inl (ty 1, 200, .inr (.inr (.inr (.inl so))))), (h2, .inr (0, [.ref nb, .ref sb, .int (nI m2)])), (nb, .inl (ty 1, 200, .inr (.inr (.inr (.inl nu))))), (sb, .inl (ty 1, 200, .inr (.inr (.inr (.inl sp)))))])) 0 0 := by
  refine KM.of (cc := cX0_winsAgainst) (maxL := 5) (ret := (some .int)) (lv := [(0, .ref h), (1, .ref h2)]) (by decide +kernel) rfl rfl rfl (fun X C0 R0 => ?_)
  have Cx : kC X cX0_winsAgainst wsX0_winsAgainst RX0 { frames := 1, cells := 0, slots := 0, locals := 21 } "winsAgainst" l D ty 5 := C0
  have hb1 : (if m2 < m then m2 else m) ≤ m := by split <;> omega
  have hb2 : (if m2 < m then m2 else m) ≤ m2 := by split <;> omega
  refine j_iconst (pc' := 1) (v := (nI 0)) Cx dX0_winsAgainst_0 rfl (by decide) ?_
  refine j_istore_n (pc' := 2) (lv' := [(0, .ref h), (1, .ref h2), (2, .int (nI 0))]) Cx dX0_winsAgainst_1 rfl rfl (by decide) rfl ?_
  refine j_aload_n (pc' := 3) Cx dX0_winsAgainst_2 rfl rfl rfl ?_
  refine j_get (pc' := 6) (N := 3) Cx dX0_winsAgainst_3 rfl kin_X0_winsAgainst_X0 kfl_X0_winsAgainst_18 0 rfl rfl 2 rfl rfl rfl ?_
  refine j_aload_n (pc' := 7) Cx dX0_winsAgainst_6 rfl rfl rfl ?_
  refine j_get (pc' := 10) (N := 3) Cx dX0_winsAgainst_7 rfl kin_X0_winsAgainst_X0 kfl_X0_winsAgainst_18 3 rfl rfl 2 rfl rfl rfl ?_
  refine j_min (pc' := 13) Cx dX0_winsAgainst_10 rfl kmt_X0_winsAgainst_22 ⟨Nat.le_of_ble_eq_true rfl, Nat.le_of_ble_eq_true rfl, Nat.le_of_ble_eq_true rfl, Nat.le_of_ble_eq_true rfl⟩ ?_
  refine j_top (v' := .int (nI (if m2 < m then m2 else m))) (congrArg Value.int (k_min (by omega) (by omega))) ?_
  refine j_istore_n (pc' := 14) (lv' := [(0, .ref h), (1, .ref h2), (2, .int (nI 0)), (3, .int (nI (if m2 < m then m2 else m)))]) Cx dX0_winsAgainst_13 rfl rfl (by decide) rfl ?_
  refine j_iconst (pc' := 15) (v := (nI 0)) Cx dX0_winsAgainst_14 rfl (by decide) ?_
  refine j_istore (pc' := 17) (lv' := [(0, .ref h), (1, .ref h2), (2, .int (nI 0)), (3, .int (nI (if m2 < m then m2 else m))), (4, .int (nI 0))]) Cx dX0_winsAgainst_15 rfl (by decide) rfl ?_
  generalize hM : (if m2 < m then m2 else m) = M at hb1 hb2 R0 ⊢
  have LP : ∀ (LP_n : Nat), ∀ (i : Nat), (M - i < LP_n) → (i ≤ M) → J X [(h, .inr (0, [.ref na, .ref sa, .int (nI m)])), (na, .inl (ty 1, 200, .inr (.inr (.inr (.inl nt))))), (sa, .inl (ty 1, 200, .inr (.inr (.inr (.inl so))))), (h2, .inr (0, [.ref nb, .ref sb, .int (nI m2)])), (nb, .inl (ty 1, 200, .inr (.inr (.inr (.inl nu))))), (sb, .inl (ty 1, 200, .inr (.inr (.inr (.inl sp)))))] [(0, .ref h), (1, .ref h2), (2, .int (kwin nt nu i)), (3, .int (nI M)), (4, .int (nI i))] 17 [] 0 0 := by
    intro LP_n
    induction LP_n with
    | zero =>
      intro i hms _
      exact absurd hms (Nat.not_lt_zero _)
    | succ LP_n LP_ih =>
      intro i LP_m hle
      refine j_iload (pc' := 19) Cx dX0_winsAgainst_17 rfl rfl ?_
      refine j_iload_n (pc' := 20) Cx dX0_winsAgainst_19 rfl rfl rfl ?_
      refine j_icmp_ge_n (tgt := 94) (pc' := 23) Cx dX0_winsAgainst_20 (by decide) rfl (by omega) (by omega) (fun hi => ?_) (fun hi => ?_)
      · have e : i = M := by omega
        subst e
        refine j_iload_n (pc' := 95) Cx dX0_winsAgainst_94 rfl rfl rfl ?_
        exact j_iret Cx dX0_winsAgainst_95 R0 ⟨Nat.le_of_ble_eq_true rfl, Nat.le_of_ble_eq_true rfl⟩ (⟨_, rfl, rfl, rfl⟩)
      · refine j_iload (pc' := 25) Cx dX0_winsAgainst_23 rfl rfl ?_
        refine j_aload_n (pc' := 26) Cx dX0_winsAgainst_25 rfl rfl rfl ?_
        refine j_get (pc' := 29) (N := 3) Cx dX0_winsAgainst_26 rfl kin_X0_winsAgainst_X0 kfl_X0_winsAgainst_9 0 rfl rfl 0 rfl rfl rfl ?_
        refine j_alen (pc' := 30) (v := nI 200) Cx dX0_winsAgainst_29 rfl 1 rfl rfl rfl ?_
        refine j_icmp_ge_n (tgt := 94) (pc' := 33) Cx dX0_winsAgainst_30 (by decide) rfl (by omega) (by omega) (fun hh => absurd hh (by omega)) (fun _ => ?_)
        refine j_iload (pc' := 35) Cx dX0_winsAgainst_33 rfl rfl ?_
        refine j_aload_n (pc' := 36) Cx dX0_winsAgainst_35 rfl rfl rfl ?_
        refine j_get (pc' := 39) (N := 3) Cx dX0_winsAgainst_36 rfl kin_X0_winsAgainst_X0 kfl_X0_winsAgainst_9 3 rfl rfl 0 rfl rfl rfl ?_
        refine j_alen (pc' := 40) (v := nI 200) Cx dX0_winsAgainst_39 rfl 4 rfl rfl rfl ?_
        refine j_icmp_ge_n (tgt := 94) (pc' := 43) Cx dX0_winsAgainst_40 (by decide) rfl (by omega) (by omega) (fun hh => absurd hh (by omega)) (fun _ => ?_)
        refine j_aload_n (pc' := 44) Cx dX0_winsAgainst_43 rfl rfl rfl ?_
        refine j_get (pc' := 47) (N := 3) Cx dX0_winsAgainst_44 rfl kin_X0_winsAgainst_X0 kfl_X0_winsAgainst_9 0 rfl rfl 0 rfl rfl rfl ?_
        refine j_iload (pc' := 49) Cx dX0_winsAgainst_47 rfl rfl ?_
        refine j_daload_n (pc' := 50) Cx dX0_winsAgainst_49 rfl 1 rfl (by omega) (by omega) ?_
        refine j_aload_n (pc' := 51) Cx dX0_winsAgainst_50 rfl rfl rfl ?_
        refine j_get (pc' := 54) (N := 3) Cx dX0_winsAgainst_51 rfl kin_X0_winsAgainst_X0 kfl_X0_winsAgainst_9 3 rfl rfl 0 rfl rfl rfl ?_
        refine j_iload (pc' := 56) Cx dX0_winsAgainst_54 rfl rfl ?_
        refine j_daload_n (pc' := 57) Cx dX0_winsAgainst_56 rfl 4 rfl (by omega) (by omega) ?_
        refine j_dcmp (pc' := 58) Cx dX0_winsAgainst_57 rfl ?_
        refine j_if_le (tgt := 67) (pc' := 61) Cx dX0_winsAgainst_58 (by decide) rfl (fun hc => ?_) (fun hc => ?_)
        · have e1 : kGt (nt i) (nu i) = false := decide_eq_false (fun hh => absurd hc (Int32.not_le.mpr hh))
          refine j_aload_n (pc' := 68) Cx dX0_winsAgainst_67 rfl rfl rfl ?_
          refine j_get (pc' := 71) (N := 3) Cx dX0_winsAgainst_68 rfl kin_X0_winsAgainst_X0 kfl_X0_winsAgainst_9 0 rfl rfl 0 rfl rfl rfl ?_
          refine j_iload (pc' := 73) Cx dX0_winsAgainst_71 rfl rfl ?_
          refine j_daload_n (pc' := 74) Cx dX0_winsAgainst_73 rfl 1 rfl (by omega) (by omega) ?_
          refine j_aload_n (pc' := 75) Cx dX0_winsAgainst_74 rfl rfl rfl ?_
          refine j_get (pc' := 78) (N := 3) Cx dX0_winsAgainst_75 rfl kin_X0_winsAgainst_X0 kfl_X0_winsAgainst_9 3 rfl rfl 0 rfl rfl rfl ?_
          refine j_iload (pc' := 80) Cx dX0_winsAgainst_78 rfl rfl ?_
          refine j_daload_n (pc' := 81) Cx dX0_winsAgainst_80 rfl 4 rfl (by omega) (by omega) ?_
          refine j_dcmp (pc' := 82) Cx dX0_winsAgainst_81 rfl ?_
          refine j_if_ge (tgt := 88) (pc' := 85) Cx dX0_winsAgainst_82 (by decide) rfl (fun hd => ?_) (fun hd => ?_)
          · have e2 : kLt (nt i) (nu i) = false := decide_eq_false (fun hh => absurd hd (Int32.not_le.mpr hh))
            refine j_iinc_n (pc' := 91) (z := 1) (a := i) (lv' := [(0, .ref h), (1, .ref h2), (2, .int (kwin nt nu i)), (3, .int (nI M)), (4, .int (nI (i + 1)))]) Cx dX0_winsAgainst_88 rfl rfl (by decide) rfl ?_
            refine j_goto (tgt := 17) Cx dX0_winsAgainst_91 (by decide) ?_
            refine J.cast (ws' := [(h, .inr (0, [.ref na, .ref sa, .int (nI m)])), (na, .inl (ty 1, 200, .inr (.inr (.inr (.inl nt))))), (sa, .inl (ty 1, 200, .inr (.inr (.inr (.inl so))))), (h2, .inr (0, [.ref nb, .ref sb, .int (nI m2)])), (nb, .inl (ty 1, 200, .inr (.inr (.inr (.inl nu))))), (sb, .inl (ty 1, 200, .inr (.inr (.inr (.inl sp)))))]) (lv' := [(0, .ref h), (1, .ref h2), (2, .int (kwin nt nu (i + 1))), (3, .int (nI M)), (4, .int (nI (i + 1)))]) (pc' := 17) (st' := []) (rfl) (by rw [kwin_no e1 e2]) rfl (rfl) rfl rfl ?_
            exact LP_ih (i + 1) (by omega) (by omega)
          · have e2 : kLt (nt i) (nu i) = true := decide_eq_true (Int32.not_le.mp hd)
            refine j_iinc (pc' := 88) (lv' := [(0, .ref h), (1, .ref h2), (2, .int ((kwin nt nu i) + Int32.ofInt (-1))), (3, .int (nI M)), (4, .int (nI i))]) Cx dX0_winsAgainst_85 rfl rfl rfl (by decide) rfl ?_
            refine j_iinc_n (pc' := 91) (z := 1) (a := i) (lv' := [(0, .ref h), (1, .ref h2), (2, .int ((kwin nt nu i) + Int32.ofInt (-1))), (3, .int (nI M)), (4, .int (nI (i + 1)))]) Cx dX0_winsAgainst_88 rfl rfl (by decide) rfl ?_
            refine j_goto (tgt := 17) Cx dX0_winsAgainst_91 (by decide) ?_
            refine J.cast (ws' := [(h, .inr (0, [.ref na, .ref sa, .int (nI m)])), (na, .inl (ty 1, 200, .inr (.inr (.inr (.inl nt))))), (sa, .inl (ty 1, 200, .inr (.inr (.inr (.inl so))))), (h2, .inr (0, [.ref nb, .ref sb, .int (nI m2)])), (nb, .inl (ty 1, 200, .inr (.inr (.inr (.inl nu))))), (sb, .inl (ty 1, 200, .inr (.inr (.inr (.inl sp)))))]) (lv' := [(0, .ref h), (1, .ref h2), (2, .int (kwin nt nu (i + 1))), (3, .int (nI M)), (4, .int (nI (i + 1)))]) (pc' := 17) (st' := []) (rfl) (by rw [kwin_lt e1 e2]) rfl (rfl) rfl rfl ?_
            exact LP_ih (i + 1) (by omega) (by omega)
        · have e1 : kGt (nt i) (nu i) = true := decide_eq_true (Int32.not_le.mp hc)
          refine j_iinc (pc' := 64) (lv' := [(0, .ref h), (1, .ref h2), (2, .int ((kwin nt nu i) + Int32.ofInt 1)), (3, .int (nI M)), (4, .int (nI i))]) Cx dX0_winsAgainst_61 rfl rfl rfl (by decide) rfl ?_
          refine j_goto (tgt := 88) Cx dX0_winsAgainst_64 (by decide) ?_
          refine j_iinc_n (pc' := 91) (z := 1) (a := i) (lv' := [(0, .ref h), (1, .ref h2), (2, .int ((kwin nt nu i) + Int32.ofInt 1)), (3, .int (nI M)), (4, .int (nI (i + 1)))]) Cx dX0_winsAgainst_88 rfl rfl (by decide) rfl ?_
          refine j_goto (tgt := 17) Cx dX0_winsAgainst_91 (by decide) ?_
          refine J.cast (ws' := [(h, .inr (0, [.ref na, .ref sa, .int (nI m)])), (na, .inl (ty 1, 200, .inr (.inr (.inr (.inl nt))))), (sa, .inl (ty 1, 200, .inr (.inr (.inr (.inl so))))), (h2, .inr (0, [.ref nb, .ref sb, .int (nI m2)])), (nb, .inl (ty 1, 200, .inr (.inr (.inr (.inl nu))))), (sb, .inl (ty 1, 200, .inr (.inr (.inr (.inl sp)))))]) (lv' := [(0, .ref h), (1, .ref h2), (2, .int (kwin nt nu (i + 1))), (3, .int (nI M)), (4, .int (nI (i + 1)))]) (pc' := 17) (st' := []) (rfl) (by rw [kwin_gt e1]; rfl) rfl (rfl) rfl rfl ?_
          exact LP_ih (i + 1) (by omega) (by omega)
  refine J.cast (ws' := [(h, .inr (0, [.ref na, .ref sa, .int (nI m)])), (na, .inl (ty 1, 200, .inr (.inr (.inr (.inl nt))))), (sa, .inl (ty 1, 200, .inr (.inr (.inr (.inl so))))), (h2, .inr (0, [.ref nb, .ref sb, .int (nI m2)])), (nb, .inl (ty 1, 200, .inr (.inr (.inr (.inl nu))))), (sb, .inl (ty 1, 200, .inr (.inr (.inr (.inl sp)))))]) (lv' := [(0, .ref h), (1, .ref h2), (2, .int (kwin nt nu 0)), (3, .int (nI M)), (4, .int (nI 0))]) (pc' := 17) (st' := []) (rfl) (rfl) rfl (rfl) rfl rfl ?_
  exact LP (M + 1) 0 (by omega) (Nat.zero_le M)

set_option maxHeartbeats 4000000 in
set_option maxRecDepth 100000 in
/-- Corpus.winsAgainst -/
theorem c_X0_winsSelf (l : Launch) (D : va_G) (ty : Nat → ClassId) (h na sa m : Nat) (nt so : Nat → UInt64) (hm : m ≤ 200) : KM l yX0_winsAgainst wsX0_winsAgainst { frames := 1, cells := 0, slots := 0, locals := 21 } D ty [.ref h, .ref h] [(h, .inr (0, [.ref na, .ref sa, .int (nI m)])), (na, .inl (ty 1, 200, .inr (.inr (.inr (.inl nt))))), (sa, .inl (ty 1, 200, .inr (.inr (.inr (.inl so)))))] (kI (fun r u => r = kwin nt nt (if m < m then m else m) ∧ u = [(h, .inr (0, [.ref na, .ref sa, .int (nI m)])), (na, .inl (ty 1, 200, .inr (.inr (.inr (.inl nt))))), (sa, .inl (ty 1, 200, .inr (.inr (.inr (.inl so)))))])) 0 0 := by
  refine KM.of (cc := cX0_winsAgainst) (maxL := 5) (ret := (some .int)) (lv := [(0, .ref h), (1, .ref h)]) (by decide +kernel) rfl rfl rfl (fun X C0 R0 => ?_)
  have Cx : kC X cX0_winsAgainst wsX0_winsAgainst RX0 { frames := 1, cells := 0, slots := 0, locals := 21 } "winsAgainst" l D ty 5 := C0
  have hb1 : (if m < m then m else m) ≤ m := by split <;> omega
  have hb2 : (if m < m then m else m) ≤ m := by split <;> omega
  refine j_iconst (pc' := 1) (v := (nI 0)) Cx dX0_winsAgainst_0 rfl (by decide) ?_
  refine j_istore_n (pc' := 2) (lv' := [(0, .ref h), (1, .ref h), (2, .int (nI 0))]) Cx dX0_winsAgainst_1 rfl rfl (by decide) rfl ?_
  refine j_aload_n (pc' := 3) Cx dX0_winsAgainst_2 rfl rfl rfl ?_
  refine j_get (pc' := 6) (N := 3) Cx dX0_winsAgainst_3 rfl kin_X0_winsAgainst_X0 kfl_X0_winsAgainst_18 0 rfl rfl 2 rfl rfl rfl ?_
  refine j_aload_n (pc' := 7) Cx dX0_winsAgainst_6 rfl rfl rfl ?_
  refine j_get (pc' := 10) (N := 3) Cx dX0_winsAgainst_7 rfl kin_X0_winsAgainst_X0 kfl_X0_winsAgainst_18 0 rfl rfl 2 rfl rfl rfl ?_
  refine j_min (pc' := 13) Cx dX0_winsAgainst_10 rfl kmt_X0_winsAgainst_22 ⟨Nat.le_of_ble_eq_true rfl, Nat.le_of_ble_eq_true rfl, Nat.le_of_ble_eq_true rfl, Nat.le_of_ble_eq_true rfl⟩ ?_
  refine j_top (v' := .int (nI (if m < m then m else m))) (congrArg Value.int (k_min (by omega) (by omega))) ?_
  refine j_istore_n (pc' := 14) (lv' := [(0, .ref h), (1, .ref h), (2, .int (nI 0)), (3, .int (nI (if m < m then m else m)))]) Cx dX0_winsAgainst_13 rfl rfl (by decide) rfl ?_
  refine j_iconst (pc' := 15) (v := (nI 0)) Cx dX0_winsAgainst_14 rfl (by decide) ?_
  refine j_istore (pc' := 17) (lv' := [(0, .ref h), (1, .ref h), (2, .int (nI 0)), (3, .int (nI (if m < m then m else m))), (4, .int (nI 0))]) Cx dX0_winsAgainst_15 rfl (by decide) rfl ?_
  generalize hM : (if m < m then m else m) = M at hb1 hb2 R0 ⊢
  have LP : ∀ (LP_n : Nat), ∀ (i : Nat), (M - i < LP_n) → (i ≤ M) → J X [(h, .inr (0, [.ref na, .ref sa, .int (nI m)])), (na, .inl (ty 1, 200, .inr (.inr (.inr (.inl nt))))), (sa, .inl (ty 1, 200, .inr (.inr (.inr (.inl so)))))] [(0, .ref h), (1, .ref h), (2, .int (kwin nt nt i)), (3, .int (nI M)), (4, .int (nI i))] 17 [] 0 0 := by
    intro LP_n
    induction LP_n with
    | zero =>
      intro i hms _
      exact absurd hms (Nat.not_lt_zero _)
    | succ LP_n LP_ih =>
      intro i LP_m hle
      refine j_iload (pc' := 19) Cx dX0_winsAgainst_17 rfl rfl ?_
      refine j_iload_n (pc' := 20) Cx dX0_winsAgainst_19 rfl rfl rfl ?_
      refine j_icmp_ge_n (tgt := 94) (pc' := 23) Cx dX0_winsAgainst_20 (by decide) rfl (by omega) (by omega) (fun hi => ?_) (fun hi => ?_)
      · have e : i = M := by omega
        subst e
        refine j_iload_n (pc' := 95) Cx dX0_winsAgainst_94 rfl rfl rfl ?_
        exact j_iret Cx dX0_winsAgainst_95 R0 ⟨Nat.le_of_ble_eq_true rfl, Nat.le_of_ble_eq_true rfl⟩ (⟨_, rfl, rfl, rfl⟩)
      · refine j_iload (pc' := 25) Cx dX0_winsAgainst_23 rfl rfl ?_
        refine j_aload_n (pc' := 26) Cx dX0_winsAgainst_25 rfl rfl rfl ?_
        refine j_get (pc' := 29) (N := 3) Cx dX0_winsAgainst_26 rfl kin_X0_winsAgainst_X0 kfl_X0_winsAgainst_9 0 rfl rfl 0 rfl rfl rfl ?_
        refine j_alen (pc' := 30) (v := nI 200) Cx dX0_winsAgainst_29 rfl 1 rfl rfl rfl ?_
        refine j_icmp_ge_n (tgt := 94) (pc' := 33) Cx dX0_winsAgainst_30 (by decide) rfl (by omega) (by omega) (fun hh => absurd hh (by omega)) (fun _ => ?_)
        refine j_iload (pc' := 35) Cx dX0_winsAgainst_33 rfl rfl ?_
        refine j_aload_n (pc' := 36) Cx dX0_winsAgainst_35 rfl rfl rfl ?_
        refine j_get (pc' := 39) (N := 3) Cx dX0_winsAgainst_36 rfl kin_X0_winsAgainst_X0 kfl_X0_winsAgainst_9 0 rfl rfl 0 rfl rfl rfl ?_
        refine j_alen (pc' := 40) (v := nI 200) Cx dX0_winsAgainst_39 rfl 1 rfl rfl rfl ?_
        refine j_icmp_ge_n (tgt := 94) (pc' := 43) Cx dX0_winsAgainst_40 (by decide) rfl (by omega) (by omega) (fun hh => absurd hh (by omega)) (fun _ => ?_)
        refine j_aload_n (pc' := 44) Cx dX0_winsAgainst_43 rfl rfl rfl ?_
        refine j_get (pc' := 47) (N := 3) Cx dX0_winsAgainst_44 rfl kin_X0_winsAgainst_X0 kfl_X0_winsAgainst_9 0 rfl rfl 0 rfl rfl rfl ?_
        refine j_iload (pc' := 49) Cx dX0_winsAgainst_47 rfl rfl ?_
        refine j_daload_n (pc' := 50) Cx dX0_winsAgainst_49 rfl 1 rfl (by omega) (by omega) ?_
        refine j_aload_n (pc' := 51) Cx dX0_winsAgainst_50 rfl rfl rfl ?_
        refine j_get (pc' := 54) (N := 3) Cx dX0_winsAgainst_51 rfl kin_X0_winsAgainst_X0 kfl_X0_winsAgainst_9 0 rfl rfl 0 rfl rfl rfl ?_
        refine j_iload (pc' := 56) Cx dX0_winsAgainst_54 rfl rfl ?_
        refine j_daload_n (pc' := 57) Cx dX0_winsAgainst_56 rfl 1 rfl (by omega) (by omega) ?_
        refine j_dcmp (pc' := 58) Cx dX0_winsAgainst_57 rfl ?_
        refine j_if_le (tgt := 67) (pc' := 61) Cx dX0_winsAgainst_58 (by decide) rfl (fun hc => ?_) (fun hc => ?_)
        · have e1 : kGt (nt i) (nt i) = false := decide_eq_false (fun hh => absurd hc (Int32.not_le.mpr hh))
          refine j_aload_n (pc' := 68) Cx dX0_winsAgainst_67 rfl rfl rfl ?_
          refine j_get (pc' := 71) (N := 3) Cx dX0_winsAgainst_68 rfl kin_X0_winsAgainst_X0 kfl_X0_winsAgainst_9 0 rfl rfl 0 rfl rfl rfl ?_
          refine j_iload (pc' := 73) Cx dX0_winsAgainst_71 rfl rfl ?_
          refine j_daload_n (pc' := 74) Cx dX0_winsAgainst_73 rfl 1 rfl (by omega) (by omega) ?_
          refine j_aload_n (pc' := 75) Cx dX0_winsAgainst_74 rfl rfl rfl ?_
          refine j_get (pc' := 78) (N := 3) Cx dX0_winsAgainst_75 rfl kin_X0_winsAgainst_X0 kfl_X0_winsAgainst_9 0 rfl rfl 0 rfl rfl rfl ?_
          refine j_iload (pc' := 80) Cx dX0_winsAgainst_78 rfl rfl ?_
          refine j_daload_n (pc' := 81) Cx dX0_winsAgainst_80 rfl 1 rfl (by omega) (by omega) ?_
          refine j_dcmp (pc' := 82) Cx dX0_winsAgainst_81 rfl ?_
          refine j_if_ge (tgt := 88) (pc' := 85) Cx dX0_winsAgainst_82 (by decide) rfl (fun hd => ?_) (fun hd => ?_)
          · have e2 : kLt (nt i) (nt i) = false := decide_eq_false (fun hh => absurd hd (Int32.not_le.mpr hh))
            refine j_iinc_n (pc' := 91) (z := 1) (a := i) (lv' := [(0, .ref h), (1, .ref h), (2, .int (kwin nt nt i)), (3, .int (nI M)), (4, .int (nI (i + 1)))]) Cx dX0_winsAgainst_88 rfl rfl (by decide) rfl ?_
            refine j_goto (tgt := 17) Cx dX0_winsAgainst_91 (by decide) ?_
            refine J.cast (ws' := [(h, .inr (0, [.ref na, .ref sa, .int (nI m)])), (na, .inl (ty 1, 200, .inr (.inr (.inr (.inl nt))))), (sa, .inl (ty 1, 200, .inr (.inr (.inr (.inl so)))))]) (lv' := [(0, .ref h), (1, .ref h), (2, .int (kwin nt nt (i + 1))), (3, .int (nI M)), (4, .int (nI (i + 1)))]) (pc' := 17) (st' := []) (rfl) (by rw [kwin_no e1 e2]) rfl (rfl) rfl rfl ?_
            exact LP_ih (i + 1) (by omega) (by omega)
          · have e2 : kLt (nt i) (nt i) = true := decide_eq_true (Int32.not_le.mp hd)
            refine j_iinc (pc' := 88) (lv' := [(0, .ref h), (1, .ref h), (2, .int ((kwin nt nt i) + Int32.ofInt (-1))), (3, .int (nI M)), (4, .int (nI i))]) Cx dX0_winsAgainst_85 rfl rfl rfl (by decide) rfl ?_
            refine j_iinc_n (pc' := 91) (z := 1) (a := i) (lv' := [(0, .ref h), (1, .ref h), (2, .int ((kwin nt nt i) + Int32.ofInt (-1))), (3, .int (nI M)), (4, .int (nI (i + 1)))]) Cx dX0_winsAgainst_88 rfl rfl (by decide) rfl ?_
            refine j_goto (tgt := 17) Cx dX0_winsAgainst_91 (by decide) ?_
            refine J.cast (ws' := [(h, .inr (0, [.ref na, .ref sa, .int (nI m)])), (na, .inl (ty 1, 200, .inr (.inr (.inr (.inl nt))))), (sa, .inl (ty 1, 200, .inr (.inr (.inr (.inl so)))))]) (lv' := [(0, .ref h), (1, .ref h), (2, .int (kwin nt nt (i + 1))), (3, .int (nI M)), (4, .int (nI (i + 1)))]) (pc' := 17) (st' := []) (rfl) (by rw [kwin_lt e1 e2]) rfl (rfl) rfl rfl ?_
            exact LP_ih (i + 1) (by omega) (by omega)
        · have e1 : kGt (nt i) (nt i) = true := decide_eq_true (Int32.not_le.mp hc)
          refine j_iinc (pc' := 64) (lv' := [(0, .ref h), (1, .ref h), (2, .int ((kwin nt nt i) + Int32.ofInt 1)), (3, .int (nI M)), (4, .int (nI i))]) Cx dX0_winsAgainst_61 rfl rfl rfl (by decide) rfl ?_
          refine j_goto (tgt := 88) Cx dX0_winsAgainst_64 (by decide) ?_
          refine j_iinc_n (pc' := 91) (z := 1) (a := i) (lv' := [(0, .ref h), (1, .ref h), (2, .int ((kwin nt nt i) + Int32.ofInt 1)), (3, .int (nI M)), (4, .int (nI (i + 1)))]) Cx dX0_winsAgainst_88 rfl rfl (by decide) rfl ?_
          refine j_goto (tgt := 17) Cx dX0_winsAgainst_91 (by decide) ?_
          refine J.cast (ws' := [(h, .inr (0, [.ref na, .ref sa, .int (nI m)])), (na, .inl (ty 1, 200, .inr (.inr (.inr (.inl nt))))), (sa, .inl (ty 1, 200, .inr (.inr (.inr (.inl so)))))]) (lv' := [(0, .ref h), (1, .ref h), (2, .int (kwin nt nt (i + 1))), (3, .int (nI M)), (4, .int (nI (i + 1)))]) (pc' := 17) (st' := []) (rfl) (by rw [kwin_gt e1]; rfl) rfl (rfl) rfl rfl ?_
          exact LP_ih (i + 1) (by omega) (by omega)
  refine J.cast (ws' := [(h, .inr (0, [.ref na, .ref sa, .int (nI m)])), (na, .inl (ty 1, 200, .inr (.inr (.inr (.inl nt))))), (sa, .inl (ty 1, 200, .inr (.inr (.inr (.inl so)))))]) (lv' := [(0, .ref h), (1, .ref h), (2, .int (kwin nt nt 0)), (3, .int (nI M)), (4, .int (nI 0))]) (pc' := 17) (st' := []) (rfl) (rfl) rfl (rfl) rfl rfl ?_
  exact LP (M + 1) 0 (by omega) (Nat.zero_le M)

set_option maxHeartbeats 4000000 in
set_option maxRecDepth 100000 in
/-- Corpus() -/
theorem c_X0_init (l : Launch) (D : va_G) (ty : Nat → ClassId) (h : Nat) : KM l yX0_init wsX0_init { frames := 1, cells := 2, slots := 400, locals := 20 } D ty [.ref h] [(h, .inr (0, [.null, .null, .int (0)]))] (kV (fun u => ∃ na sa : Nat, u = [(h, .inr (0, [.ref na, .ref sa, .int (nI 0)])), (na, .inl (ty 1, 200, .inr (.inr (.inr (.inl (fun _ => 0)))))), (sa, .inl (ty 1, 200, .inr (.inr (.inr (.inl (fun _ => 0))))))])) 2 400 := by
  refine KM.of (cc := cX0_init) (maxL := 1) (ret := none) (lv := [(0, .ref h)]) (by decide +kernel) rfl rfl rfl (fun X C0 R0 => ?_)
  have Cx : kC X cX0_init wsX0_init RX0 { frames := 1, cells := 2, slots := 400, locals := 20 } "<init>" l D ty 1 := C0
  refine j_aload_n (pc' := 1) Cx dX0_init_0 rfl rfl rfl ?_
  refine j_objInit (pc' := 4) Cx dX0_init_1 rfl (by decide +kernel) (by decide +kernel) (by decide +kernel) ⟨Nat.le_of_ble_eq_true rfl, Nat.le_of_ble_eq_true rfl⟩ ?_
  refine j_aload_n (pc' := 5) Cx dX0_init_4 rfl rfl rfl ?_
  refine j_sipush (pc' := 8) (v := (nI 200)) Cx dX0_init_5 rfl (by decide) ?_
  refine j_newarr (pc' := 10) (t0 := 1) (N := 200) (a0 := (200, .inr (.inr (.inr (.inl (fun _ => 0)))))) (ft := .double) Cx dX0_init_8 rfl rfl rfl (fun _ h => by cases h) (by decide +kernel) (fun _ => rfl) rfl (by omega) ⟨Nat.le_of_ble_eq_true rfl, by show 0 + 200 ≤ 400; omega⟩ (fun na => ?_)
  refine J.widen (k' := 1) (n' := 200) (Nat.le_of_ble_eq_true rfl) (by omega) ?_
  show J X [(h, .inr (0, [.null, .null, .int (0)])), (na, .inl (ty 1, 200, .inr (.inr (.inr (.inl (fun _ => 0))))))] [(0, .ref h)] 10 [.ref na, .ref h] 1 200
  refine j_putF (pc' := 13) (N := 3) (t := (.array .double)) (ws' := [(h, .inr (0, [.ref na, .null, .int (0)])), (na, .inl (ty 1, 200, .inr (.inr (.inr (.inl (fun _ => 0))))))]) Cx dX0_init_10 rfl kin_X0_init_X0 kfl_X0_init_9 tyX0_ok nmX0 0 rfl rfl 0 rfl rfl rfl rfl rfl rfl rfl rfl rfl ?_
  refine j_aload_n (pc' := 14) Cx dX0_init_13 rfl rfl rfl ?_
  refine j_sipush (pc' := 17) (v := (nI 200)) Cx dX0_init_14 rfl (by decide) ?_
  refine j_newarr (pc' := 19) (t0 := 1) (N := 200) (a0 := (200, .inr (.inr (.inr (.inl (fun _ => 0)))))) (ft := .double) Cx dX0_init_17 rfl rfl rfl (fun _ h => by cases h) (by decide +kernel) (fun _ => rfl) rfl (by omega) ⟨Nat.le_of_ble_eq_true rfl, by show 200 + 200 ≤ 400; omega⟩ (fun sa => ?_)
  refine J.widen (k' := 2) (n' := 400) (Nat.le_of_ble_eq_true rfl) (by omega) ?_
  show J X [(h, .inr (0, [.ref na, .null, .int (0)])), (na, .inl (ty 1, 200, .inr (.inr (.inr (.inl (fun _ => 0)))))), (sa, .inl (ty 1, 200, .inr (.inr (.inr (.inl (fun _ => 0))))))] [(0, .ref h)] 19 [.ref sa, .ref h] 2 400
  refine j_putF (pc' := 22) (N := 3) (t := (.array .double)) (ws' := [(h, .inr (0, [.ref na, .ref sa, .int (0)])), (na, .inl (ty 1, 200, .inr (.inr (.inr (.inl (fun _ => 0)))))), (sa, .inl (ty 1, 200, .inr (.inr (.inr (.inl (fun _ => 0))))))]) Cx dX0_init_19 rfl kin_X0_init_X0 kfl_X0_init_15 tyX0_ok nmX0 0 rfl rfl 1 rfl rfl rfl rfl rfl rfl rfl rfl rfl ?_
  exact j_vret Cx dX0_init_22 R0 ⟨Nat.le_of_ble_eq_true rfl, Nat.le_of_ble_eq_true rfl⟩ (⟨rfl, na, sa, rfl⟩)
