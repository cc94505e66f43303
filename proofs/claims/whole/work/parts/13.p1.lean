set_option maxHeartbeats 4000000 in
set_option maxRecDepth 100000 in
/-- Parts(width, height) -/
theorem c_X1_init (l : Launch) (D : va_G) (ty : Nat → ClassId) (o w h : Nat) (hw : w ≤ 24) (hh : h ≤ 24) : KM l yX1_init wsX1_init { frames := 1, cells := 3, slots := 1928, locals := 20 } D ty [.ref o, .int (nI w), .int (nI h)] [(o, .inr (1, [.int (0), .int (0), .int (0), .null, .null, .null, .int (0)]))] (kV (fun u => ∃ sa qa ta : Nat, u = [(o, .inr (1, [.int (nI w), .int (nI h), .int (nI (w + 2)), .ref sa, .ref qa, .ref ta, .int (0)])), (sa, .inl (ty 0, ((w + 2) * (h + 2)), .inl (fun _ => 0))), (qa, .inl (ty 0, (w * h), .inl (kN (fun _ => 0)))), (ta, .inl (ty 2, ((w + 2) * (h + 2)), .inl (fun _ => 0)))])) 3 1928 := by
  refine KM.of (cc := cX1_init) (maxL := 3) (ret := none) (lv := [(0, .ref o), (1, .int (nI w)), (2, .int (nI h))]) (by decide +kernel) rfl rfl rfl (fun X C0 R0 => ?_)
  have Cx : kC X cX1_init wsX1_init RX1 { frames := 1, cells := 3, slots := 1928, locals := 20 } "<init>" l D ty 3 := C0
  have g1 := k_wh hw hh
  have g2 : (w + 2) * (h + 2) ≤ 676 := Nat.le_trans (Nat.mul_le_mul (Nat.add_le_add_right hw 2) (Nat.add_le_add_right hh 2)) (by decide)
  refine j_aload_n (pc' := 1) Cx dX1_init_0 rfl rfl rfl ?_
  refine j_objInit (pc' := 4) Cx dX1_init_1 rfl (by decide +kernel) (by decide +kernel) (by decide +kernel) ⟨Nat.le_of_ble_eq_true rfl, Nat.le_of_ble_eq_true rfl⟩ ?_
  refine j_aload_n (pc' := 5) Cx dX1_init_4 rfl rfl rfl ?_
  refine j_iload_n (pc' := 6) Cx dX1_init_5 rfl rfl rfl ?_
  refine j_putF (pc' := 9) (N := 7) (t := .int) (ws' := [(o, .inr (1, [.int (nI w), .int (0), .int (0), .null, .null, .null, .int (0)]))]) Cx dX1_init_6 rfl kin_X1_init_X1 kfl_X1_init_9 tyX1_ok nmX1 0 rfl rfl 0 rfl rfl rfl rfl rfl rfl rfl rfl rfl ?_
  refine j_aload_n (pc' := 10) Cx dX1_init_9 rfl rfl rfl ?_
  refine j_iload_n (pc' := 11) Cx dX1_init_10 rfl rfl rfl ?_
  refine j_putF (pc' := 14) (N := 7) (t := .int) (ws' := [(o, .inr (1, [.int (nI w), .int (nI h), .int (0), .null, .null, .null, .int (0)]))]) Cx dX1_init_11 rfl kin_X1_init_X1 kfl_X1_init_15 tyX1_ok nmX1 0 rfl rfl 1 rfl rfl rfl rfl rfl rfl rfl rfl rfl ?_
  refine j_aload_n (pc' := 15) Cx dX1_init_14 rfl rfl rfl ?_
  refine j_iload_n (pc' := 16) Cx dX1_init_15 rfl rfl rfl ?_
  refine j_iconst (pc' := 17) (v := (nI 2)) Cx dX1_init_16 rfl (by decide) ?_
  refine j_iadd_n (pc' := 18) Cx dX1_init_17 rfl ?_
  refine j_putF (pc' := 21) (N := 7) (t := .int) (ws' := [(o, .inr (1, [.int (nI w), .int (nI h), .int (nI (w + 2)), .null, .null, .null, .int (0)]))]) Cx dX1_init_18 rfl kin_X1_init_X1 kfl_X1_init_18 tyX1_ok nmX1 0 rfl rfl 2 rfl rfl rfl rfl rfl rfl rfl rfl rfl ?_
  refine j_aload_n (pc' := 22) Cx dX1_init_21 rfl rfl rfl ?_
  refine j_aload_n (pc' := 23) Cx dX1_init_22 rfl rfl rfl ?_
  refine j_get (pc' := 26) (N := 7) Cx dX1_init_23 rfl kin_X1_init_X1 kfl_X1_init_18 0 rfl rfl 2 rfl rfl rfl ?_
  refine j_iload_n (pc' := 27) Cx dX1_init_26 rfl rfl rfl ?_
  refine j_iconst (pc' := 28) (v := (nI 2)) Cx dX1_init_27 rfl (by decide) ?_
  refine j_iadd_n (pc' := 29) Cx dX1_init_28 rfl ?_
  refine j_imul_n (pc' := 30) Cx dX1_init_29 rfl ?_
  refine j_newarr (pc' := 32) (t0 := 0) (N := ((w + 2) * (h + 2))) (a0 := (((w + 2) * (h + 2)), .inl (fun _ => 0))) (ft := .int) Cx dX1_init_30 rfl rfl rfl (fun _ h => by cases h) (by decide +kernel) (fun _ => rfl) rfl (by omega) ⟨Nat.le_of_ble_eq_true rfl, by show 0 + ((w + 2) * (h + 2)) ≤ 1928; omega⟩ (fun sa => ?_)
  refine J.widen (k' := 1) (n' := 676) (Nat.le_of_ble_eq_true rfl) (by omega) ?_
  show J X [(o, .inr (1, [.int (nI w), .int (nI h), .int (nI (w + 2)), .null, .null, .null, .int (0)])), (sa, .inl (ty 0, ((w + 2) * (h + 2)), .inl (fun _ => 0)))] [(0, .ref o), (1, .int (nI w)), (2, .int (nI h))] 32 [.ref sa, .ref o] 1 676
  refine j_putF (pc' := 35) (N := 7) (t := (.array .int)) (ws' := [(o, .inr (1, [.int (nI w), .int (nI h), .int (nI (w + 2)), .ref sa, .null, .null, .int (0)])), (sa, .inl (ty 0, ((w + 2) * (h + 2)), .inl (fun _ => 0)))]) Cx dX1_init_32 rfl kin_X1_init_X1 kfl_X1_init_21 tyX1_ok nmX1 0 rfl rfl 3 rfl rfl rfl rfl rfl rfl rfl rfl rfl ?_
  refine j_aload_n (pc' := 36) Cx dX1_init_35 rfl rfl rfl ?_
  refine j_iload_n (pc' := 37) Cx dX1_init_36 rfl rfl rfl ?_
  refine j_iload_n (pc' := 38) Cx dX1_init_37 rfl rfl rfl ?_
  refine j_imul_n (pc' := 39) Cx dX1_init_38 rfl ?_
  refine j_newarr (pc' := 41) (t0 := 0) (N := (w * h)) (a0 := ((w * h), .inl (kN (fun _ => 0)))) (ft := .int) Cx dX1_init_39 rfl rfl rfl (fun _ h => by cases h) (by decide +kernel) (fun _ => rfl) rfl (by omega) ⟨Nat.le_of_ble_eq_true rfl, by show 676 + (w * h) ≤ 1928; omega⟩ (fun qa => ?_)
  refine J.widen (k' := 2) (n' := 1252) (Nat.le_of_ble_eq_true rfl) (by omega) ?_
  show J X [(o, .inr (1, [.int (nI w), .int (nI h), .int (nI (w + 2)), .ref sa, .null, .null, .int (0)])), (sa, .inl (ty 0, ((w + 2) * (h + 2)), .inl (fun _ => 0))), (qa, .inl (ty 0, (w * h), .inl (kN (fun _ => 0))))] [(0, .ref o), (1, .int (nI w)), (2, .int (nI h))] 41 [.ref qa, .ref o] 2 1252
  refine j_putF (pc' := 44) (N := 7) (t := (.array .int)) (ws' := [(o, .inr (1, [.int (nI w), .int (nI h), .int (nI (w + 2)), .ref sa, .ref qa, .null, .int (0)])), (sa, .inl (ty 0, ((w + 2) * (h + 2)), .inl (fun _ => 0))), (qa, .inl (ty 0, (w * h), .inl (kN (fun _ => 0))))]) Cx dX1_init_41 rfl kin_X1_init_X1 kfl_X1_init_25 tyX1_ok nmX1 0 rfl rfl 4 rfl rfl rfl rfl rfl rfl rfl rfl rfl ?_
  refine j_aload_n (pc' := 45) Cx dX1_init_44 rfl rfl rfl ?_
  refine j_aload_n (pc' := 46) Cx dX1_init_45 rfl rfl rfl ?_
  refine j_get (pc' := 49) (N := 7) Cx dX1_init_46 rfl kin_X1_init_X1 kfl_X1_init_18 0 rfl rfl 2 rfl rfl rfl ?_
  refine j_iload_n (pc' := 50) Cx dX1_init_49 rfl rfl rfl ?_
  refine j_iconst (pc' := 51) (v := (nI 2)) Cx dX1_init_50 rfl (by decide) ?_
  refine j_iadd_n (pc' := 52) Cx dX1_init_51 rfl ?_
  refine j_imul_n (pc' := 53) Cx dX1_init_52 rfl ?_
  refine j_newarr (pc' := 55) (t0 := 2) (N := ((w + 2) * (h + 2))) (a0 := (((w + 2) * (h + 2)), .inl (fun _ => 0))) (ft := .boolean) Cx dX1_init_53 rfl rfl rfl (fun _ h => by cases h) (by decide +kernel) (fun _ => rfl) rfl (by omega) ⟨Nat.le_of_ble_eq_true rfl, by show 1252 + ((w + 2) * (h + 2)) ≤ 1928; omega⟩ (fun ta => ?_)
  refine J.widen (k' := 3) (n' := 1928) (Nat.le_of_ble_eq_true rfl) (by omega) ?_
  show J X [(o, .inr (1, [.int (nI w), .int (nI h), .int (nI (w + 2)), .ref sa, .ref qa, .null, .int (0)])), (sa, .inl (ty 0, ((w + 2) * (h + 2)), .inl (fun _ => 0))), (qa, .inl (ty 0, (w * h), .inl (kN (fun _ => 0)))), (ta, .inl (ty 2, ((w + 2) * (h + 2)), .inl (fun _ => 0)))] [(0, .ref o), (1, .int (nI w)), (2, .int (nI h))] 55 [.ref ta, .ref o] 3 1928
  refine j_putF (pc' := 58) (N := 7) (t := (.array .boolean)) (ws' := [(o, .inr (1, [.int (nI w), .int (nI h), .int (nI (w + 2)), .ref sa, .ref qa, .ref ta, .int (0)])), (sa, .inl (ty 0, ((w + 2) * (h + 2)), .inl (fun _ => 0))), (qa, .inl (ty 0, (w * h), .inl (kN (fun _ => 0)))), (ta, .inl (ty 2, ((w + 2) * (h + 2)), .inl (fun _ => 0)))]) Cx dX1_init_55 rfl kin_X1_init_X1 kfl_X1_init_28 tyX1_ok nmX1 0 rfl rfl 5 rfl rfl rfl rfl rfl rfl rfl rfl rfl ?_
  exact j_vret Cx dX1_init_58 R0 ⟨Nat.le_of_ble_eq_true rfl, Nat.le_of_ble_eq_true rfl⟩ (⟨rfl, sa, qa, ta, rfl⟩)

set_option maxHeartbeats 4000000 in
set_option maxRecDepth 100000 in
/-- Parts.join -/
theorem c_X1_join (l : Launch) (D : va_G) (ty : Nat → ClassId) (h sa qa ta W H L M P : Nat) (f : Nat → Int32) (Q : Nat → Nat) (t : Nat → Int32) (qn : Nat) (hM : M ≤ 676) (hP : P ≤ 576) (p s : Nat) (hp : p < 2 ^ 31) (hq : p < M → f p = -2 → qn < P) : KM l yX1_join wsX1_join { frames := 0, cells := 0, slots := 0, locals := 0 } D ty [.ref h, .int (nI p), .int (nI s)] [(h, .inr (1, [.int (nI W), .int (nI H), .int (nI L), .ref sa, .ref qa, .ref ta, .int (nI qn)])), (sa, .inl (ty 0, M, .inl f)), (qa, .inl (ty 0, P, .inl (kN Q))), (ta, .inl (ty 2, M, .inl t))] (kV (fun u => u = [(h, .inr (1, [.int (nI W), .int (nI H), .int (nI L), .ref sa, .ref qa, .ref ta, .int (nI (kjn M p f qn))])), (sa, .inl (ty 0, M, .inl (kjf M p s f))), (qa, .inl (ty 0, P, .inl (kN (kjQ M p f Q qn)))), (ta, .inl (ty 2, M, .inl t))])) 0 0 := by
  refine KM.of (cc := cX1_join) (maxL := 3) (ret := none) (lv := [(0, .ref h), (1, .int (nI p)), (2, .int (nI s))]) (by decide +kernel) rfl rfl rfl (fun X C0 R0 => ?_)
  have Cx : kC X cX1_join wsX1_join RX1 { frames := 0, cells := 0, slots := 0, locals := 0 } "join" l D ty 3 := C0
  by_cases hc : p < M ∧ f p = -2
  · rw [show kjf M p s f = va_up f p (nI s) from if_pos hc, show kjQ M p f Q qn = va_up Q qn p from if_pos hc, show kjn M p f qn = qn + 1 from if_pos hc] at R0
    have hq2 := hq hc.1 hc.2
    obtain ⟨hc1, hc2⟩ := hc
    refine j_iload_n (pc' := 1) Cx dX1_join_0 rfl rfl rfl ?_
    refine j_if_lt_n (tgt := 24) (pc' := 4) Cx dX1_join_1 (by decide) rfl (by omega) ?_
    refine j_iload_n (pc' := 5) Cx dX1_join_4 rfl rfl rfl ?_
    refine j_aload_n (pc' := 6) Cx dX1_join_5 rfl rfl rfl ?_
    refine j_get (pc' := 9) (N := 7) Cx dX1_join_6 rfl kin_X1_join_X1 kfl_X1_join_21 0 rfl rfl 3 rfl rfl rfl ?_
    refine j_alen (pc' := 10) (v := nI M) Cx dX1_join_9 rfl 1 rfl rfl rfl ?_
    refine j_icmp_ge_n (tgt := 24) (pc' := 13) Cx dX1_join_10 (by decide) rfl (by omega) (by omega) (fun hh => absurd hh (by omega)) (fun _ => ?_)
    refine j_aload_n (pc' := 14) Cx dX1_join_13 rfl rfl rfl ?_
    refine j_get (pc' := 17) (N := 7) Cx dX1_join_14 rfl kin_X1_join_X1 kfl_X1_join_21 0 rfl rfl 3 rfl rfl rfl ?_
    refine j_iload_n (pc' := 18) Cx dX1_join_17 rfl rfl rfl ?_
    refine j_iaload_n (pc' := 19) Cx dX1_join_18 rfl 1 rfl (by omega) (by omega) ?_
    refine j_bipush (pc' := 21) (v := (-2)) Cx dX1_join_19 rfl (by decide) ?_
    refine j_icmp_eq (tgt := 25) (pc' := 24) Cx dX1_join_21 (by decide) rfl (fun _ => ?_) (fun hh => absurd hh (not_not_intro hc2))
    refine j_aload_n (pc' := 26) Cx dX1_join_25 rfl rfl rfl ?_
    refine j_get (pc' := 29) (N := 7) Cx dX1_join_26 rfl kin_X1_join_X1 kfl_X1_join_21 0 rfl rfl 3 rfl rfl rfl ?_
    refine j_iload_n (pc' := 30) Cx dX1_join_29 rfl rfl rfl ?_
    refine j_iload_n (pc' := 31) Cx dX1_join_30 rfl rfl rfl ?_
    refine j_iastore_n (pc' := 32) (ws' := [(h, .inr (1, [.int (nI W), .int (nI H), .int (nI L), .ref sa, .ref qa, .ref ta, .int (nI qn)])), (sa, .inl (ty 0, M, .inl (va_up f p (nI s)))), (qa, .inl (ty 0, P, .inl (kN Q))), (ta, .inl (ty 2, M, .inl t))]) Cx dX1_join_31 rfl 1 rfl (by omega) (by omega) rfl ?_
    refine j_aload_n (pc' := 33) Cx dX1_join_32 rfl rfl rfl ?_
    refine j_get (pc' := 36) (N := 7) Cx dX1_join_33 rfl kin_X1_join_X1 kfl_X1_join_46 0 rfl rfl 6 rfl rfl rfl ?_
    refine j_if_lt_n (tgt := 71) (pc' := 39) Cx dX1_join_36 (by decide) rfl (by omega) ?_
    refine j_aload_n (pc' := 40) Cx dX1_join_39 rfl rfl rfl ?_
    refine j_get (pc' := 43) (N := 7) Cx dX1_join_40 rfl kin_X1_join_X1 kfl_X1_join_46 0 rfl rfl 6 rfl rfl rfl ?_
    refine j_aload_n (pc' := 44) Cx dX1_join_43 rfl rfl rfl ?_
    refine j_get (pc' := 47) (N := 7) Cx dX1_join_44 rfl kin_X1_join_X1 kfl_X1_join_25 0 rfl rfl 4 rfl rfl rfl ?_
    refine j_alen (pc' := 48) (v := nI P) Cx dX1_join_47 rfl 2 rfl rfl rfl ?_
    refine j_icmp_ge_n (tgt := 71) (pc' := 51) Cx dX1_join_48 (by decide) rfl (by omega) (by omega) (fun hh => absurd hh (by omega)) (fun _ => ?_)
    refine j_aload_n (pc' := 52) Cx dX1_join_51 rfl rfl rfl ?_
    refine j_get (pc' := 55) (N := 7) Cx dX1_join_52 rfl kin_X1_join_X1 kfl_X1_join_25 0 rfl rfl 4 rfl rfl rfl ?_
    refine j_aload_n (pc' := 56) Cx dX1_join_55 rfl rfl rfl ?_
    refine j_get (pc' := 59) (N := 7) Cx dX1_join_56 rfl kin_X1_join_X1 kfl_X1_join_46 0 rfl rfl 6 rfl rfl rfl ?_
    refine j_iload_n (pc' := 60) Cx dX1_join_59 rfl rfl rfl ?_
    refine j_iastore_nn (pc' := 61) (ws' := [(h, .inr (1, [.int (nI W), .int (nI H), .int (nI L), .ref sa, .ref qa, .ref ta, .int (nI qn)])), (sa, .inl (ty 0, M, .inl (va_up f p (nI s)))), (qa, .inl (ty 0, P, .inl (kN (va_up Q qn p)))), (ta, .inl (ty 2, M, .inl t))]) Cx dX1_join_60 rfl 2 rfl (by omega) (by omega) rfl ?_
    refine j_aload_n (pc' := 62) Cx dX1_join_61 rfl rfl rfl ?_
    refine j_dup (pc' := 63) Cx dX1_join_62 rfl rfl ?_
    refine j_get (pc' := 66) (N := 7) Cx dX1_join_63 rfl kin_X1_join_X1 kfl_X1_join_46 0 rfl rfl 6 rfl rfl rfl ?_
    refine j_iconst (pc' := 67) (v := (nI 1)) Cx dX1_join_66 rfl (by decide) ?_
    refine j_iadd_n (pc' := 68) Cx dX1_join_67 rfl ?_
    refine j_put (pc' := 71) (N := 7) (t := .int) (ws' := [(h, .inr (1, [.int (nI W), .int (nI H), .int (nI L), .ref sa, .ref qa, .ref ta, .int (nI (qn + 1))])), (sa, .inl (ty 0, M, .inl (va_up f p (nI s)))), (qa, .inl (ty 0, P, .inl (kN (va_up Q qn p)))), (ta, .inl (ty 2, M, .inl t))]) Cx dX1_join_68 rfl kin_X1_join_X1 kfl_X1_join_46 tyX1_ok nmX1 0 rfl rfl 6 rfl rfl rfl rfl rfl rfl rfl ?_
    exact j_vret Cx dX1_join_71 R0 ⟨Nat.le_of_ble_eq_true rfl, Nat.le_of_ble_eq_true rfl⟩ (⟨rfl, rfl⟩)
  · rw [show kjf M p s f = f from if_neg hc, show kjQ M p f Q qn = Q from if_neg hc, show kjn M p f qn = qn from if_neg hc] at R0
    refine j_iload_n (pc' := 1) Cx dX1_join_0 rfl rfl rfl ?_
    refine j_if_lt_n (tgt := 24) (pc' := 4) Cx dX1_join_1 (by decide) rfl (by omega) ?_
    refine j_iload_n (pc' := 5) Cx dX1_join_4 rfl rfl rfl ?_
    refine j_aload_n (pc' := 6) Cx dX1_join_5 rfl rfl rfl ?_
    refine j_get (pc' := 9) (N := 7) Cx dX1_join_6 rfl kin_X1_join_X1 kfl_X1_join_21 0 rfl rfl 3 rfl rfl rfl ?_
    refine j_alen (pc' := 10) (v := nI M) Cx dX1_join_9 rfl 1 rfl rfl rfl ?_
    refine j_icmp_ge_n (tgt := 24) (pc' := 13) Cx dX1_join_10 (by decide) rfl (by omega) (by omega) (fun hpM => ?_) (fun hpM => ?_)
    · exact j_vret Cx dX1_join_24 R0 ⟨Nat.le_of_ble_eq_true rfl, Nat.le_of_ble_eq_true rfl⟩ (⟨rfl, rfl⟩)
    · refine j_aload_n (pc' := 14) Cx dX1_join_13 rfl rfl rfl ?_
      refine j_get (pc' := 17) (N := 7) Cx dX1_join_14 rfl kin_X1_join_X1 kfl_X1_join_21 0 rfl rfl 3 rfl rfl rfl ?_
      refine j_iload_n (pc' := 18) Cx dX1_join_17 rfl rfl rfl ?_
      refine j_iaload_n (pc' := 19) Cx dX1_join_18 rfl 1 rfl (by omega) (by omega) ?_
      refine j_bipush (pc' := 21) (v := (-2)) Cx dX1_join_19 rfl (by decide) ?_
      refine j_icmp_eq (tgt := 25) (pc' := 24) Cx dX1_join_21 (by decide) rfl (fun hh => absurd hh (fun e => hc ⟨hpM, e⟩)) (fun _ => ?_)
      exact j_vret Cx dX1_join_24 R0 ⟨Nat.le_of_ble_eq_true rfl, Nat.le_of_ble_eq_true rfl⟩ (⟨rfl, rfl⟩)

set_option maxHeartbeats 4000000 in
set_option maxRecDepth 100000 in
/-- Parts.spreadFrom -/
theorem c_X1_spreadFrom (l : Launch) (D : va_G) (ty : Nat → ClassId) (h sa qa ta W H L M P : Nat) (f : Nat → Int32) (Q : Nat → Nat) (t : Nat → Int32) (qn0 : Int32) (hM : M ≤ 676) (hP : P ≤ 576) (s : Nat) (hs : s < M) (hf : f s = -2) (hin : ∀ p, p < M → f p = -2 → L + 1 ≤ p ∧ p + L + 1 < M) (d : Nat → Nat) (hd : ∀ p, p < M → f p = -2 → d p < P) (hdi : ∀ p q, p < M → q < M → f p = -2 → f q = -2 → d p = d q → p = q) : KM l yX1_spreadFrom wsX1_spreadFrom { frames := 1, cells := 0, slots := 0, locals := 40 } D ty [.ref h, .int (nI s)] [(h, .inr (1, [.int (nI W), .int (nI H), .int (nI L), .ref sa, .ref qa, .ref ta, .int (qn0)])), (sa, .inl (ty 0, M, .inl f)), (qa, .inl (ty 0, P, .inl (kN Q))), (ta, .inl (ty 2, M, .inl t))] (kV (fun u => ∃ (f1 : Nat → Int32) (Q1 : Nat → Nat) (n1 : Nat), u = [(h, .inr (1, [.int (nI W), .int (nI H), .int (nI L), .ref sa, .ref qa, .ref ta, .int (nI n1)])), (sa, .inl (ty 0, M, .inl f1)), (qa, .inl (ty 0, P, .inl (kN Q1))), (ta, .inl (ty 2, M, .inl t))] ∧ kSpread L M s f f1)) 0 0 := by
  refine KM.of (cc := cX1_spreadFrom) (maxL := 5) (ret := none) (lv := [(0, .ref h), (1, .int (nI s))]) (by decide +kernel) rfl rfl rfl (fun X C0 R0 => ?_)
  have Cx : kC X cX1_spreadFrom wsX1_spreadFrom RX1 { frames := 1, cells := 0, slots := 0, locals := 40 } "spreadFrom" l D ty 5 := C0
  have hs31 : s < 2 ^ 31 := by omega
  refine j_aload_n (pc' := 1) Cx dX1_spreadFrom_0 rfl rfl rfl ?_
  refine j_iconst (pc' := 2) (v := (nI 0)) Cx dX1_spreadFrom_1 rfl (by decide) ?_
  refine j_put (pc' := 5) (N := 7) (t := .int) (ws' := [(h, .inr (1, [.int (nI W), .int (nI H), .int (nI L), .ref sa, .ref qa, .ref ta, .int (nI 0)])), (sa, .inl (ty 0, M, .inl f)), (qa, .inl (ty 0, P, .inl (kN Q))), (ta, .inl (ty 2, M, .inl t))]) Cx dX1_spreadFrom_2 rfl kin_X1_spreadFrom_X1 kfl_X1_spreadFrom_46 tyX1_ok nmX1 0 rfl rfl 6 rfl rfl rfl rfl rfl rfl rfl ?_
  refine j_aload_n (pc' := 6) Cx dX1_spreadFrom_5 rfl rfl rfl ?_
  refine j_iload_n (pc' := 7) Cx dX1_spreadFrom_6 rfl rfl rfl ?_
  refine j_iload_n (pc' := 8) Cx dX1_spreadFrom_7 rfl rfl rfl ?_
  have h00 : 0 < P := Nat.lt_of_le_of_lt (Nat.zero_le _) (hd s hs hf)
  refine j_callV (pc' := 11) (wr := []) (st := []) Cx dX1_spreadFrom_8 rfl (c_X1_join l D ty h sa qa ta W H L M P f Q t 0 hM hP s s hs31 (fun _ _ => h00)) gX1_spreadFrom_X1_join rfl khd_X1_join rfl ⟨rfl, rfl, Nat.le_of_ble_eq_true rfl, Nat.le_of_ble_eq_true rfl⟩ [0, 1, 2, 3] [] rfl rfl ⟨rfl, rfl⟩ (by decide) 0 rfl rfl rfl (Nat.le_of_ble_eq_true rfl) ⟨Nat.le_of_ble_eq_true rfl, Nat.le_of_ble_eq_true rfl⟩ (fun v u hpost => ?_)
  obtain ⟨rfl, rfl⟩ := hpost
  show J X [(h, .inr (1, [.int (nI W), .int (nI H), .int (nI L), .ref sa, .ref qa, .ref ta, .int (nI (kjn M s f 0))])), (sa, .inl (ty 0, M, .inl (kjf M s s f))), (qa, .inl (ty 0, P, .inl (kN (kjQ M s f Q 0)))), (ta, .inl (ty 2, M, .inl t))] [(0, .ref h), (1, .int (nI s))] 11 [] 0 0
  have hI := kInv_start (L := L) hs31 hs hf Q
  generalize kjf M s s f = g, kjQ M s f Q 0 = R, kjn M s f 0 = m at hI ⊢
  refine j_iconst (pc' := 12) (v := (nI 0)) Cx dX1_spreadFrom_11 rfl (by decide) ?_
  refine j_istore_n (pc' := 13) (lv' := [(0, .ref h), (1, .int (nI s)), (2, .int (nI 0))]) Cx dX1_spreadFrom_12 rfl rfl (by decide) rfl ?_
  have LP : ∀ (LP_n : Nat), ∀ (i : Nat) (g : Nat → Int32) (R : Nat → Nat) (m : Nat), (P - i < LP_n) → (i ≤ P) → (kInv L M s f g R m i) → J X [(h, .inr (1, [.int (nI W), .int (nI H), .int (nI L), .ref sa, .ref qa, .ref ta, .int (nI m)])), (sa, .inl (ty 0, M, .inl g)), (qa, .inl (ty 0, P, .inl (kN R))), (ta, .inl (ty 2, M, .inl t))] [(0, .ref h), (1, .int (nI s)), (2, .int (nI i))] 13 [] 0 0 := by
    intro LP_n
    induction LP_n with
    | zero =>
      intro i g R m hms _ _
      exact absurd hms (Nat.not_lt_zero _)
    | succ LP_n LP_ih =>
      intro i g R m LP_m hle hI
      have hcap := kInv_cap hs31 d hd hdi hI
      refine j_iload_n (pc' := 14) Cx dX1_spreadFrom_13 rfl rfl rfl ?_
      refine j_aload_n (pc' := 15) Cx dX1_spreadFrom_14 rfl rfl rfl ?_
      refine j_get (pc' := 18) (N := 7) Cx dX1_spreadFrom_15 rfl kin_X1_spreadFrom_X1 kfl_X1_spreadFrom_25 0 rfl rfl 4 rfl rfl rfl ?_
      refine j_alen (pc' := 19) (v := nI P) Cx dX1_spreadFrom_18 rfl 2 rfl rfl rfl ?_
      refine j_icmp_ge_n (tgt := 89) (pc' := 22) Cx dX1_spreadFrom_19 (by decide) rfl (by omega) (by omega) (fun hi => ?_) (fun hi => ?_)
      · exact j_vret Cx dX1_spreadFrom_89 R0 ⟨Nat.le_of_ble_eq_true rfl, Nat.le_of_ble_eq_true rfl⟩ (⟨rfl, g, R, m, rfl, kInv_end hI (by omega)⟩)
      · refine j_iload_n (pc' := 23) Cx dX1_spreadFrom_22 rfl rfl rfl ?_
        refine j_aload_n (pc' := 24) Cx dX1_spreadFrom_23 rfl rfl rfl ?_
        refine j_get (pc' := 27) (N := 7) Cx dX1_spreadFrom_24 rfl kin_X1_spreadFrom_X1 kfl_X1_spreadFrom_46 0 rfl rfl 6 rfl rfl rfl ?_
        refine j_icmp_ge_n (tgt := 89) (pc' := 30) Cx dX1_spreadFrom_27 (by decide) rfl (by omega) (by omega) (fun hi2 => ?_) (fun hi2 => ?_)
        · exact j_vret Cx dX1_spreadFrom_89 R0 ⟨Nat.le_of_ble_eq_true rfl, Nat.le_of_ble_eq_true rfl⟩ (⟨rfl, g, R, m, rfl, kInv_end hI hi2⟩)
        · have hQi := hI.2.1 i hi2
          obtain ⟨hq1, hq2, -⟩ := hQi
          obtain ⟨hn1, hn2⟩ := hin _ hq1 hq2
          obtain ⟨p, hpe⟩ : ∃ p, p = R i := ⟨_, rfl⟩
          rw [← hpe] at hq1 hq2 hn1 hn2
          refine j_iconst (pc' := 31) (v := (-1)) Cx dX1_spreadFrom_30 rfl (by decide) ?_
          refine j_istore_n (pc' := 32) (lv' := [(0, .ref h), (1, .int (nI s)), (2, .int (nI i)), (3, .int (-1))]) Cx dX1_spreadFrom_31 rfl rfl (by decide) rfl ?_
          refine j_iload_n (pc' := 33) Cx dX1_spreadFrom_32 rfl rfl rfl ?_
          refine j_iconst (pc' := 34) (v := (nI 1)) Cx dX1_spreadFrom_33 rfl (by decide) ?_
          refine j_icmp_gt (tgt := 83) (pc' := 37) Cx dX1_spreadFrom_34 (by decide) rfl (fun hh => absurd hh (by decide)) (fun _ => ?_)
          refine j_aload_n (pc' := 38) Cx dX1_spreadFrom_37 rfl rfl rfl ?_
          refine j_get (pc' := 41) (N := 7) Cx dX1_spreadFrom_38 rfl kin_X1_spreadFrom_X1 kfl_X1_spreadFrom_25 0 rfl rfl 4 rfl rfl rfl ?_
          have hx0 : i < P := by omega
          refine j_iload_n (pc' := 42) Cx dX1_spreadFrom_41 rfl rfl rfl ?_
          refine j_iaload_nn (pc' := 43) Cx dX1_spreadFrom_42 rfl 2 rfl (hx0) (by omega) ?_
          rw [show R i = p from hpe.symm]
          refine j_iload_n (pc' := 44) Cx dX1_spreadFrom_43 rfl rfl rfl ?_
          refine j_aload_n (pc' := 45) Cx dX1_spreadFrom_44 rfl rfl rfl ?_
          refine j_get (pc' := 48) (N := 7) Cx dX1_spreadFrom_45 rfl kin_X1_spreadFrom_X1 kfl_X1_spreadFrom_18 0 rfl rfl 2 rfl rfl rfl ?_
          refine j_imul (pc' := 49) Cx dX1_spreadFrom_48 rfl ?_
          refine j_iadd (pc' := 50) Cx dX1_spreadFrom_49 rfl ?_
          refine j_top (v' := .int (nI (p - L))) (congrArg Value.int (k_mid0 (by omega))) ?_
          refine j_istore (pc' := 52) (lv' := [(0, .ref h), (1, .int (nI s)), (2, .int (nI i)), (3, .int (-1)), (4, .int (nI (p - L)))]) Cx dX1_spreadFrom_50 rfl (by decide) rfl ?_
          refine j_aload_n (pc' := 53) Cx dX1_spreadFrom_52 rfl rfl rfl ?_
          refine j_iload (pc' := 55) Cx dX1_spreadFrom_53 rfl rfl ?_
          refine j_iconst (pc' := 56) (v := (nI 1)) Cx dX1_spreadFrom_55 rfl (by decide) ?_
          refine j_isub_n (pc' := 57) Cx dX1_spreadFrom_56 rfl (by omega) ?_
          refine j_iload_n (pc' := 58) Cx dX1_spreadFrom_57 rfl rfl rfl ?_
          have hc1 := kInv_cap hs31 d hd hdi hI
          refine j_callV (pc' := 61) (wr := []) (st := []) Cx dX1_spreadFrom_58 rfl (c_X1_join l D ty h sa qa ta W H L M P g R t m hM hP ((p - L) - 1) s (by omega) (hc1.2 _)) gX1_spreadFrom_X1_join rfl khd_X1_join rfl ⟨rfl, rfl, Nat.le_of_ble_eq_true rfl, Nat.le_of_ble_eq_true rfl⟩ [0, 1, 2, 3] [] rfl rfl ⟨rfl, rfl⟩ (by decide) 0 rfl rfl rfl (Nat.le_of_ble_eq_true rfl) ⟨Nat.le_of_ble_eq_true rfl, Nat.le_of_ble_eq_true rfl⟩ (fun v u hpost => ?_)
          obtain ⟨rfl, rfl⟩ := hpost
          show J X [(h, .inr (1, [.int (nI W), .int (nI H), .int (nI L), .ref sa, .ref qa, .ref ta, .int (nI (kjn M ((p - L) - 1) g m))])), (sa, .inl (ty 0, M, .inl (kjf M ((p - L) - 1) s g))), (qa, .inl (ty 0, P, .inl (kN (kjQ M ((p - L) - 1) g R m)))), (ta, .inl (ty 2, M, .inl t))] [(0, .ref h), (1, .int (nI s)), (2, .int (nI i)), (3, .int (-1)), (4, .int (nI (p - L)))] 61 [] 0 0
          have hj1 := kInv_join (p := (p - L) - 1) hs31 hI hi2 (fun _ => by rw [hpe.symm]; exact ⟨0, 0, by omega, by omega, by omega⟩)
          obtain ⟨hI1, hne1, hst1, hl1, hRR1⟩ := hj1
          have hR1 := hRR1.trans (hpe.symm)
          generalize kjf M ((p - L) - 1) s g = g1, kjQ M ((p - L) - 1) g R m = R1, kjn M ((p - L) - 1) g m = m1 at hI1 hne1 hst1 hl1 hR1 ⊢
          clear hRR1
          refine j_aload_n (pc' := 62) Cx dX1_spreadFrom_61 rfl rfl rfl ?_
          refine j_iload (pc' := 64) Cx dX1_spreadFrom_62 rfl rfl ?_
          refine j_iload_n (pc' := 65) Cx dX1_spreadFrom_64 rfl rfl rfl ?_
          have hc2 := kInv_cap hs31 d hd hdi hI1
          refine j_callV (pc' := 68) (wr := []) (st := []) Cx dX1_spreadFrom_65 rfl (c_X1_join l D ty h sa qa ta W H L M P g1 R1 t m1 hM hP (p - L) s (by omega) (hc2.2 _)) gX1_spreadFrom_X1_join rfl khd_X1_join rfl ⟨rfl, rfl, Nat.le_of_ble_eq_true rfl, Nat.le_of_ble_eq_true rfl⟩ [0, 1, 2, 3] [] rfl rfl ⟨rfl, rfl⟩ (by decide) 0 rfl rfl rfl (Nat.le_of_ble_eq_true rfl) ⟨Nat.le_of_ble_eq_true rfl, Nat.le_of_ble_eq_true rfl⟩ (fun v u hpost => ?_)
          obtain ⟨rfl, rfl⟩ := hpost
          show J X [(h, .inr (1, [.int (nI W), .int (nI H), .int (nI L), .ref sa, .ref qa, .ref ta, .int (nI (kjn M (p - L) g1 m1))])), (sa, .inl (ty 0, M, .inl (kjf M (p - L) s g1))), (qa, .inl (ty 0, P, .inl (kN (kjQ M (p - L) g1 R1 m1)))), (ta, .inl (ty 2, M, .inl t))] [(0, .ref h), (1, .int (nI s)), (2, .int (nI i)), (3, .int (-1)), (4, .int (nI (p - L)))] 68 [] 0 0
          have hj2 := kInv_join (p := p - L) hs31 hI1 hl1 (fun _ => by rw [hR1]; exact ⟨0, 1, by omega, by omega, by omega⟩)
          obtain ⟨hI2, hne2, hst2, hl2, hRR2⟩ := hj2
          have hR2 := hRR2.trans (hR1)
          generalize kjf M (p - L) s g1 = g2, kjQ M (p - L) g1 R1 m1 = R2, kjn M (p - L) g1 m1 = m2 at hI2 hne2 hst2 hl2 hR2 ⊢
          clear hRR2
          refine j_aload_n (pc' := 69) Cx dX1_spreadFrom_68 rfl rfl rfl ?_
          refine j_iload (pc' := 71) Cx dX1_spreadFrom_69 rfl rfl ?_
          refine j_iconst (pc' := 72) (v := (nI 1)) Cx dX1_spreadFrom_71 rfl (by decide) ?_
          refine j_iadd_n (pc' := 73) Cx dX1_spreadFrom_72 rfl ?_
          refine j_iload_n (pc' := 74) Cx dX1_spreadFrom_73 rfl rfl rfl ?_
          have hc3 := kInv_cap hs31 d hd hdi hI2
          refine j_callV (pc' := 77) (wr := []) (st := []) Cx dX1_spreadFrom_74 rfl (c_X1_join l D ty h sa qa ta W H L M P g2 R2 t m2 hM hP ((p - L) + 1) s (by omega) (hc3.2 _)) gX1_spreadFrom_X1_join rfl khd_X1_join rfl ⟨rfl, rfl, Nat.le_of_ble_eq_true rfl, Nat.le_of_ble_eq_true rfl⟩ [0, 1, 2, 3] [] rfl rfl ⟨rfl, rfl⟩ (by decide) 0 rfl rfl rfl (Nat.le_of_ble_eq_true rfl) ⟨Nat.le_of_ble_eq_true rfl, Nat.le_of_ble_eq_true rfl⟩ (fun v u hpost => ?_)
          obtain ⟨rfl, rfl⟩ := hpost
          show J X [(h, .inr (1, [.int (nI W), .int (nI H), .int (nI L), .ref sa, .ref qa, .ref ta, .int (nI (kjn M ((p - L) + 1) g2 m2))])), (sa, .inl (ty 0, M, .inl (kjf M ((p - L) + 1) s g2))), (qa, .inl (ty 0, P, .inl (kN (kjQ M ((p - L) + 1) g2 R2 m2)))), (ta, .inl (ty 2, M, .inl t))] [(0, .ref h), (1, .int (nI s)), (2, .int (nI i)), (3, .int (-1)), (4, .int (nI (p - L)))] 77 [] 0 0
          have hj3 := kInv_join (p := (p - L) + 1) hs31 hI2 hl2 (fun _ => by rw [hR2]; exact ⟨0, 2, by omega, by omega, by omega⟩)
          obtain ⟨hI3, hne3, hst3, hl3, hRR3⟩ := hj3
          have hR3 := hRR3.trans (hR2)
          generalize kjf M ((p - L) + 1) s g2 = g3, kjQ M ((p - L) + 1) g2 R2 m2 = R3, kjn M ((p - L) + 1) g2 m2 = m3 at hI3 hne3 hst3 hl3 hR3 ⊢
          clear hRR3
          refine j_iinc (pc' := 80) (lv' := [(0, .ref h), (1, .int (nI s)), (2, .int (nI i)), (3, .int ((-1) + Int32.ofInt 1)), (4, .int (nI (p - L)))]) Cx dX1_spreadFrom_77 rfl rfl rfl (by decide) rfl ?_
          refine J.cast (ws' := [(h, .inr (1, [.int (nI W), .int (nI H), .int (nI L), .ref sa, .ref qa, .ref ta, .int (nI m3)])), (sa, .inl (ty 0, M, .inl g3)), (qa, .inl (ty 0, P, .inl (kN R3))), (ta, .inl (ty 2, M, .inl t))]) (lv' := [(0, .ref h), (1, .int (nI s)), (2, .int (nI i)), (3, .int (nI 0)), (4, .int (nI (p - L)))]) (pc' := 80) (st' := []) (rfl) (rfl) rfl (rfl) rfl rfl ?_
          refine j_goto (tgt := 32) Cx dX1_spreadFrom_80 (by decide) ?_
          refine j_iload_n (pc' := 33) Cx dX1_spreadFrom_32 rfl rfl rfl ?_
          refine j_iconst (pc' := 34) (v := (nI 1)) Cx dX1_spreadFrom_33 rfl (by decide) ?_
          refine j_icmp_gt_n (tgt := 83) (pc' := 37) Cx dX1_spreadFrom_34 (by decide) rfl (by omega) (by omega) (fun hh => absurd hh (by decide)) (fun _ => ?_)
          refine j_aload_n (pc' := 38) Cx dX1_spreadFrom_37 rfl rfl rfl ?_
          refine j_get (pc' := 41) (N := 7) Cx dX1_spreadFrom_38 rfl kin_X1_spreadFrom_X1 kfl_X1_spreadFrom_25 0 rfl rfl 4 rfl rfl rfl ?_
          have hx1 : i < P := by omega
          refine j_iload_n (pc' := 42) Cx dX1_spreadFrom_41 rfl rfl rfl ?_
          refine j_iaload_nn (pc' := 43) Cx dX1_spreadFrom_42 rfl 2 rfl (hx1) (by omega) ?_
          rw [show R3 i = p from hR3]
          refine j_iload_n (pc' := 44) Cx dX1_spreadFrom_43 rfl rfl rfl ?_
          refine j_aload_n (pc' := 45) Cx dX1_spreadFrom_44 rfl rfl rfl ?_
          refine j_get (pc' := 48) (N := 7) Cx dX1_spreadFrom_45 rfl kin_X1_spreadFrom_X1 kfl_X1_spreadFrom_18 0 rfl rfl 2 rfl rfl rfl ?_
          refine j_imul_n (pc' := 49) Cx dX1_spreadFrom_48 rfl ?_
          refine j_iadd_n (pc' := 50) Cx dX1_spreadFrom_49 rfl ?_
          refine j_top (v' := .int (nI p)) (congrArg Value.int (k_mid1 p L)) ?_
          refine j_istore (pc' := 52) (lv' := [(0, .ref h), (1, .int (nI s)), (2, .int (nI i)), (3, .int (nI 0)), (4, .int (nI p))]) Cx dX1_spreadFrom_50 rfl (by decide) rfl ?_
          refine j_aload_n (pc' := 53) Cx dX1_spreadFrom_52 rfl rfl rfl ?_
          refine j_iload (pc' := 55) Cx dX1_spreadFrom_53 rfl rfl ?_
          refine j_iconst (pc' := 56) (v := (nI 1)) Cx dX1_spreadFrom_55 rfl (by decide) ?_
          refine j_isub_n (pc' := 57) Cx dX1_spreadFrom_56 rfl (by omega) ?_
          refine j_iload_n (pc' := 58) Cx dX1_spreadFrom_57 rfl rfl rfl ?_
          have hc4 := kInv_cap hs31 d hd hdi hI3
          refine j_callV (pc' := 61) (wr := []) (st := []) Cx dX1_spreadFrom_58 rfl (c_X1_join l D ty h sa qa ta W H L M P g3 R3 t m3 hM hP (p - 1) s (by omega) (hc4.2 _)) gX1_spreadFrom_X1_join rfl khd_X1_join rfl ⟨rfl, rfl, Nat.le_of_ble_eq_true rfl, Nat.le_of_ble_eq_true rfl⟩ [0, 1, 2, 3] [] rfl rfl ⟨rfl, rfl⟩ (by decide) 0 rfl rfl rfl (Nat.le_of_ble_eq_true rfl) ⟨Nat.le_of_ble_eq_true rfl, Nat.le_of_ble_eq_true rfl⟩ (fun v u hpost => ?_)
          obtain ⟨rfl, rfl⟩ := hpost
          show J X [(h, .inr (1, [.int (nI W), .int (nI H), .int (nI L), .ref sa, .ref qa, .ref ta, .int (nI (kjn M (p - 1) g3 m3))])), (sa, .inl (ty 0, M, .inl (kjf M (p - 1) s g3))), (qa, .inl (ty 0, P, .inl (kN (kjQ M (p - 1) g3 R3 m3)))), (ta, .inl (ty 2, M, .inl t))] [(0, .ref h), (1, .int (nI s)), (2, .int (nI i)), (3, .int (nI 0)), (4, .int (nI p))] 61 [] 0 0
          have hj4 := kInv_join (p := p - 1) hs31 hI3 hl3 (fun _ => by rw [hR3]; exact ⟨1, 0, by omega, by omega, by omega⟩)
          obtain ⟨hI4, hne4, hst4, hl4, hRR4⟩ := hj4
          have hR4 := hRR4.trans (hR3)
          generalize kjf M (p - 1) s g3 = g4, kjQ M (p - 1) g3 R3 m3 = R4, kjn M (p - 1) g3 m3 = m4 at hI4 hne4 hst4 hl4 hR4 ⊢
          clear hRR4
          refine j_aload_n (pc' := 62) Cx dX1_spreadFrom_61 rfl rfl rfl ?_
          refine j_iload (pc' := 64) Cx dX1_spreadFrom_62 rfl rfl ?_
          refine j_iload_n (pc' := 65) Cx dX1_spreadFrom_64 rfl rfl rfl ?_
          have hc5 := kInv_cap hs31 d hd hdi hI4
          refine j_callV (pc' := 68) (wr := []) (st := []) Cx dX1_spreadFrom_65 rfl (c_X1_join l D ty h sa qa ta W H L M P g4 R4 t m4 hM hP (p) s (by omega) (hc5.2 _)) gX1_spreadFrom_X1_join rfl khd_X1_join rfl ⟨rfl, rfl, Nat.le_of_ble_eq_true rfl, Nat.le_of_ble_eq_true rfl⟩ [0, 1, 2, 3] [] rfl rfl ⟨rfl, rfl⟩ (by decide) 0 rfl rfl rfl (Nat.le_of_ble_eq_true rfl) ⟨Nat.le_of_ble_eq_true rfl, Nat.le_of_ble_eq_true rfl⟩ (fun v u hpost => ?_)
          obtain ⟨rfl, rfl⟩ := hpost
          show J X [(h, .inr (1, [.int (nI W), .int (nI H), .int (nI L), .ref sa, .ref qa, .ref ta, .int (nI (kjn M (p) g4 m4))])), (sa, .inl (ty 0, M, .inl (kjf M (p) s g4))), (qa, .inl (ty 0, P, .inl (kN (kjQ M (p) g4 R4 m4)))), (ta, .inl (ty 2, M, .inl t))] [(0, .ref h), (1, .int (nI s)), (2, .int (nI i)), (3, .int (nI 0)), (4, .int (nI p))] 68 [] 0 0
          have hj5 := kInv_join (p := p) hs31 hI4 hl4 (fun _ => by rw [hR4]; exact ⟨1, 1, by omega, by omega, by omega⟩)
          obtain ⟨hI5, hne5, hst5, hl5, hRR5⟩ := hj5
          have hR5 := hRR5.trans (hR4)
          generalize kjf M (p) s g4 = g5, kjQ M (p) g4 R4 m4 = R5, kjn M (p) g4 m4 = m5 at hI5 hne5 hst5 hl5 hR5 ⊢
          clear hRR5
          refine j_aload_n (pc' := 69) Cx dX1_spreadFrom_68 rfl rfl rfl ?_
          refine j_iload (pc' := 71) Cx dX1_spreadFrom_69 rfl rfl ?_
          refine j_iconst (pc' := 72) (v := (nI 1)) Cx dX1_spreadFrom_71 rfl (by decide) ?_
          refine j_iadd_n (pc' := 73) Cx dX1_spreadFrom_72 rfl ?_
          refine j_iload_n (pc' := 74) Cx dX1_spreadFrom_73 rfl rfl rfl ?_
          have hc6 := kInv_cap hs31 d hd hdi hI5
          refine j_callV (pc' := 77) (wr := []) (st := []) Cx dX1_spreadFrom_74 rfl (c_X1_join l D ty h sa qa ta W H L M P g5 R5 t m5 hM hP (p + 1) s (by omega) (hc6.2 _)) gX1_spreadFrom_X1_join rfl khd_X1_join rfl ⟨rfl, rfl, Nat.le_of_ble_eq_true rfl, Nat.le_of_ble_eq_true rfl⟩ [0, 1, 2, 3] [] rfl rfl ⟨rfl, rfl⟩ (by decide) 0 rfl rfl rfl (Nat.le_of_ble_eq_true rfl) ⟨Nat.le_of_ble_eq_true rfl, Nat.le_of_ble_eq_true rfl⟩ (fun v u hpost => ?_)
          obtain ⟨rfl, rfl⟩ := hpost
          show J X [(h, .inr (1, [.int (nI W), .int (nI H), .int (nI L), .ref sa, .ref qa, .ref ta, .int (nI (kjn M (p + 1) g5 m5))])), (sa, .inl (ty 0, M, .inl (kjf M (p + 1) s g5))), (qa, .inl (ty 0, P, .inl (kN (kjQ M (p + 1) g5 R5 m5)))), (ta, .inl (ty 2, M, .inl t))] [(0, .ref h), (1, .int (nI s)), (2, .int (nI i)), (3, .int (nI 0)), (4, .int (nI p))] 77 [] 0 0
          have hj6 := kInv_join (p := p + 1) hs31 hI5 hl5 (fun _ => by rw [hR5]; exact ⟨1, 2, by omega, by omega, by omega⟩)
          obtain ⟨hI6, hne6, hst6, hl6, hRR6⟩ := hj6
          have hR6 := hRR6.trans (hR5)
          generalize kjf M (p + 1) s g5 = g6, kjQ M (p + 1) g5 R5 m5 = R6, kjn M (p + 1) g5 m5 = m6 at hI6 hne6 hst6 hl6 hR6 ⊢
          clear hRR6
          refine j_iinc_n (pc' := 80) (z := 1) (a := 0) (lv' := [(0, .ref h), (1, .int (nI s)), (2, .int (nI i)), (3, .int (nI (0 + 1))), (4, .int (nI p))]) Cx dX1_spreadFrom_77 rfl rfl (by decide) rfl ?_
          refine J.cast (ws' := [(h, .inr (1, [.int (nI W), .int (nI H), .int (nI L), .ref sa, .ref qa, .ref ta, .int (nI m6)])), (sa, .inl (ty 0, M, .inl g6)), (qa, .inl (ty 0, P, .inl (kN R6))), (ta, .inl (ty 2, M, .inl t))]) (lv' := [(0, .ref h), (1, .int (nI s)), (2, .int (nI i)), (3, .int (nI 1)), (4, .int (nI p))]) (pc' := 80) (st' := []) (rfl) (rfl) rfl (rfl) rfl rfl ?_
          refine j_goto (tgt := 32) Cx dX1_spreadFrom_80 (by decide) ?_
          refine j_iload_n (pc' := 33) Cx dX1_spreadFrom_32 rfl rfl rfl ?_
          refine j_iconst (pc' := 34) (v := (nI 1)) Cx dX1_spreadFrom_33 rfl (by decide) ?_
          refine j_icmp_gt_n (tgt := 83) (pc' := 37) Cx dX1_spreadFrom_34 (by decide) rfl (by omega) (by omega) (fun hh => absurd hh (by decide)) (fun _ => ?_)
          refine j_aload_n (pc' := 38) Cx dX1_spreadFrom_37 rfl rfl rfl ?_
          refine j_get (pc' := 41) (N := 7) Cx dX1_spreadFrom_38 rfl kin_X1_spreadFrom_X1 kfl_X1_spreadFrom_25 0 rfl rfl 4 rfl rfl rfl ?_
          have hx2 : i < P := by omega
          refine j_iload_n (pc' := 42) Cx dX1_spreadFrom_41 rfl rfl rfl ?_
          refine j_iaload_nn (pc' := 43) Cx dX1_spreadFrom_42 rfl 2 rfl (hx2) (by omega) ?_
          rw [show R6 i = p from hR6]
          refine j_iload_n (pc' := 44) Cx dX1_spreadFrom_43 rfl rfl rfl ?_
          refine j_aload_n (pc' := 45) Cx dX1_spreadFrom_44 rfl rfl rfl ?_
          refine j_get (pc' := 48) (N := 7) Cx dX1_spreadFrom_45 rfl kin_X1_spreadFrom_X1 kfl_X1_spreadFrom_18 0 rfl rfl 2 rfl rfl rfl ?_
          refine j_imul_n (pc' := 49) Cx dX1_spreadFrom_48 rfl ?_
          refine j_iadd_n (pc' := 50) Cx dX1_spreadFrom_49 rfl ?_
          refine j_top (v' := .int (nI (p + L))) (congrArg Value.int (k_mid2 p L)) ?_
          refine j_istore (pc' := 52) (lv' := [(0, .ref h), (1, .int (nI s)), (2, .int (nI i)), (3, .int (nI 1)), (4, .int (nI (p + L)))]) Cx dX1_spreadFrom_50 rfl (by decide) rfl ?_
          refine j_aload_n (pc' := 53) Cx dX1_spreadFrom_52 rfl rfl rfl ?_
          refine j_iload (pc' := 55) Cx dX1_spreadFrom_53 rfl rfl ?_
          refine j_iconst (pc' := 56) (v := (nI 1)) Cx dX1_spreadFrom_55 rfl (by decide) ?_
          refine j_isub_n (pc' := 57) Cx dX1_spreadFrom_56 rfl (by omega) ?_
          refine j_iload_n (pc' := 58) Cx dX1_spreadFrom_57 rfl rfl rfl ?_
          have hc7 := kInv_cap hs31 d hd hdi hI6
          refine j_callV (pc' := 61) (wr := []) (st := []) Cx dX1_spreadFrom_58 rfl (c_X1_join l D ty h sa qa ta W H L M P g6 R6 t m6 hM hP ((p + L) - 1) s (by omega) (hc7.2 _)) gX1_spreadFrom_X1_join rfl khd_X1_join rfl ⟨rfl, rfl, Nat.le_of_ble_eq_true rfl, Nat.le_of_ble_eq_true rfl⟩ [0, 1, 2, 3] [] rfl rfl ⟨rfl, rfl⟩ (by decide) 0 rfl rfl rfl (Nat.le_of_ble_eq_true rfl) ⟨Nat.le_of_ble_eq_true rfl, Nat.le_of_ble_eq_true rfl⟩ (fun v u hpost => ?_)
          obtain ⟨rfl, rfl⟩ := hpost
          show J X [(h, .inr (1, [.int (nI W), .int (nI H), .int (nI L), .ref sa, .ref qa, .ref ta, .int (nI (kjn M ((p + L) - 1) g6 m6))])), (sa, .inl (ty 0, M, .inl (kjf M ((p + L) - 1) s g6))), (qa, .inl (ty 0, P, .inl (kN (kjQ M ((p + L) - 1) g6 R6 m6)))), (ta, .inl (ty 2, M, .inl t))] [(0, .ref h), (1, .int (nI s)), (2, .int (nI i)), (3, .int (nI 1)), (4, .int (nI (p + L)))] 61 [] 0 0
          have hj7 := kInv_join (p := (p + L) - 1) hs31 hI6 hl6 (fun _ => by rw [hR6]; exact ⟨2, 0, by omega, by omega, by omega⟩)
          obtain ⟨hI7, hne7, hst7, hl7, hRR7⟩ := hj7
          have hR7 := hRR7.trans (hR6)
          generalize kjf M ((p + L) - 1) s g6 = g7, kjQ M ((p + L) - 1) g6 R6 m6 = R7, kjn M ((p + L) - 1) g6 m6 = m7 at hI7 hne7 hst7 hl7 hR7 ⊢
          clear hRR7
          refine j_aload_n (pc' := 62) Cx dX1_spreadFrom_61 rfl rfl rfl ?_
          refine j_iload (pc' := 64) Cx dX1_spreadFrom_62 rfl rfl ?_
          refine j_iload_n (pc' := 65) Cx dX1_spreadFrom_64 rfl rfl rfl ?_
          have hc8 := kInv_cap hs31 d hd hdi hI7
          refine j_callV (pc' := 68) (wr := []) (st := []) Cx dX1_spreadFrom_65 rfl (c_X1_join l D ty h sa qa ta W H L M P g7 R7 t m7 hM hP (p + L) s (by omega) (hc8.2 _)) gX1_spreadFrom_X1_join rfl khd_X1_join rfl ⟨rfl, rfl, Nat.le_of_ble_eq_true rfl, Nat.le_of_ble_eq_true rfl⟩ [0, 1, 2, 3] [] rfl rfl ⟨rfl, rfl⟩ (by decide) 0 rfl rfl rfl (Nat.le_of_ble_eq_true rfl) ⟨Nat.le_of_ble_eq_true rfl, Nat.le_of_ble_eq_true rfl⟩ (fun v u hpost => ?_)
          obtain ⟨rfl, rfl⟩ := hpost
          show J X [(h, .inr (1, [.int (nI W), .int (nI H), .int (nI L), .ref sa, .ref qa, .ref ta, .int (nI (kjn M (p + L) g7 m7))])), (sa, .inl (ty 0, M, .inl (kjf M (p + L) s g7))), (qa, .inl (ty 0, P, .inl (kN (kjQ M (p + L) g7 R7 m7)))), (ta, .inl (ty 2, M, .inl t))] [(0, .ref h), (1, .int (nI s)), (2, .int (nI i)), (3, .int (nI 1)), (4, .int (nI (p + L)))] 68 [] 0 0
          have hj8 := kInv_join (p := p + L) hs31 hI7 hl7 (fun _ => by rw [hR7]; exact ⟨2, 1, by omega, by omega, by omega⟩)
          obtain ⟨hI8, hne8, hst8, hl8, hRR8⟩ := hj8
          have hR8 := hRR8.trans (hR7)
          generalize kjf M (p + L) s g7 = g8, kjQ M (p + L) g7 R7 m7 = R8, kjn M (p + L) g7 m7 = m8 at hI8 hne8 hst8 hl8 hR8 ⊢
          clear hRR8
          refine j_aload_n (pc' := 69) Cx dX1_spreadFrom_68 rfl rfl rfl ?_
          refine j_iload (pc' := 71) Cx dX1_spreadFrom_69 rfl rfl ?_
          refine j_iconst (pc' := 72) (v := (nI 1)) Cx dX1_spreadFrom_71 rfl (by decide) ?_
          refine j_iadd_n (pc' := 73) Cx dX1_spreadFrom_72 rfl ?_
          refine j_iload_n (pc' := 74) Cx dX1_spreadFrom_73 rfl rfl rfl ?_
          have hc9 := kInv_cap hs31 d hd hdi hI8
          refine j_callV (pc' := 77) (wr := []) (st := []) Cx dX1_spreadFrom_74 rfl (c_X1_join l D ty h sa qa ta W H L M P g8 R8 t m8 hM hP ((p + L) + 1) s (by omega) (hc9.2 _)) gX1_spreadFrom_X1_join rfl khd_X1_join rfl ⟨rfl, rfl, Nat.le_of_ble_eq_true rfl, Nat.le_of_ble_eq_true rfl⟩ [0, 1, 2, 3] [] rfl rfl ⟨rfl, rfl⟩ (by decide) 0 rfl rfl rfl (Nat.le_of_ble_eq_true rfl) ⟨Nat.le_of_ble_eq_true rfl, Nat.le_of_ble_eq_true rfl⟩ (fun v u hpost => ?_)
          obtain ⟨rfl, rfl⟩ := hpost
          show J X [(h, .inr (1, [.int (nI W), .int (nI H), .int (nI L), .ref sa, .ref qa, .ref ta, .int (nI (kjn M ((p + L) + 1) g8 m8))])), (sa, .inl (ty 0, M, .inl (kjf M ((p + L) + 1) s g8))), (qa, .inl (ty 0, P, .inl (kN (kjQ M ((p + L) + 1) g8 R8 m8)))), (ta, .inl (ty 2, M, .inl t))] [(0, .ref h), (1, .int (nI s)), (2, .int (nI i)), (3, .int (nI 1)), (4, .int (nI (p + L)))] 77 [] 0 0
          have hj9 := kInv_join (p := (p + L) + 1) hs31 hI8 hl8 (fun _ => by rw [hR8]; exact ⟨2, 2, by omega, by omega, by omega⟩)
          obtain ⟨hI9, hne9, hst9, hl9, hRR9⟩ := hj9
          have hR9 := hRR9.trans (hR8)
          generalize kjf M ((p + L) + 1) s g8 = g9, kjQ M ((p + L) + 1) g8 R8 m8 = R9, kjn M ((p + L) + 1) g8 m8 = m9 at hI9 hne9 hst9 hl9 hR9 ⊢
          clear hRR9
          refine j_iinc_n (pc' := 80) (z := 1) (a := 1) (lv' := [(0, .ref h), (1, .int (nI s)), (2, .int (nI i)), (3, .int (nI (1 + 1))), (4, .int (nI (p + L)))]) Cx dX1_spreadFrom_77 rfl rfl (by decide) rfl ?_
          refine J.cast (ws' := [(h, .inr (1, [.int (nI W), .int (nI H), .int (nI L), .ref sa, .ref qa, .ref ta, .int (nI m9)])), (sa, .inl (ty 0, M, .inl g9)), (qa, .inl (ty 0, P, .inl (kN R9))), (ta, .inl (ty 2, M, .inl t))]) (lv' := [(0, .ref h), (1, .int (nI s)), (2, .int (nI i)), (3, .int (nI 2)), (4, .int (nI (p + L)))]) (pc' := 80) (st' := []) (rfl) (rfl) rfl (rfl) rfl rfl ?_
          refine j_goto (tgt := 32) Cx dX1_spreadFrom_80 (by decide) ?_
          refine j_iload_n (pc' := 33) Cx dX1_spreadFrom_32 rfl rfl rfl ?_
          refine j_iconst (pc' := 34) (v := (nI 1)) Cx dX1_spreadFrom_33 rfl (by decide) ?_
          refine j_icmp_gt_n (tgt := 83) (pc' := 37) Cx dX1_spreadFrom_34 (by decide) rfl (by omega) (by omega) (fun _ => ?_) (fun hh => absurd hh (by decide))
          refine j_iinc_n (pc' := 86) (z := 1) (a := i) (lv' := [(0, .ref h), (1, .int (nI s)), (2, .int (nI (i + 1))), (3, .int (nI 2)), (4, .int (nI (p + L)))]) Cx dX1_spreadFrom_83 rfl rfl (by decide) rfl ?_
          refine j_goto (tgt := 13) Cx dX1_spreadFrom_86 (by decide) ?_
          refine J.lvs (lv' := [(0, .ref h), (1, .int (nI s)), (2, .int (nI (i + 1)))]) [0, 1, 2] rfl ?_
          have hnb : ∀ q, q < M → kadj L p q → g9 q ≠ -2 := by
            intro q hqM hadj
            obtain ⟨a, b, ha, hb, e⟩ := hadj
            have ha' : a = 0 ∨ a = 1 ∨ a = 2 := by omega
            have hb' : b = 0 ∨ b = 1 ∨ b = 2 := by omega
            rcases ha' with rfl | rfl | rfl <;> rcases hb' with rfl | rfl | rfl
            · have eq : q = (p - L) - 1 := by omega
              subst eq
              exact hst9 _ (hst8 _ (hst7 _ (hst6 _ (hst5 _ (hst4 _ (hst3 _ (hst2 _ (hne1 (by omega)))))))))
            · have eq : q = p - L := by omega
              subst eq
              exact hst9 _ (hst8 _ (hst7 _ (hst6 _ (hst5 _ (hst4 _ (hst3 _ (hne2 (by omega))))))))
            · have eq : q = (p - L) + 1 := by omega
              subst eq
              exact hst9 _ (hst8 _ (hst7 _ (hst6 _ (hst5 _ (hst4 _ (hne3 (by omega)))))))
            · have eq : q = p - 1 := by omega
              subst eq
              exact hst9 _ (hst8 _ (hst7 _ (hst6 _ (hst5 _ (hne4 (by omega))))))
            · have eq : q = p := by omega
              subst eq
              exact hst9 _ (hst8 _ (hst7 _ (hst6 _ (hne5 (by omega)))))
            · have eq : q = p + 1 := by omega
              subst eq
              exact hst9 _ (hst8 _ (hst7 _ (hne6 (by omega))))
            · have eq : q = (p + L) - 1 := by omega
              subst eq
              exact hst9 _ (hst8 _ (hne7 (by omega)))
            · have eq : q = p + L := by omega
              subst eq
              exact hst9 _ (hne8 (by omega))
            · have eq : q = (p + L) + 1 := by omega
              subst eq
              exact hne9 (by omega)
          have hI10 : kInv L M s f g9 R9 m9 (i + 1) := by
            obtain ⟨z1, z2, z3, z4, z5, z6⟩ := hI9
            refine ⟨z1, z2, z3, z4, ?_, z6⟩
            intro k hk hk2 q hq hadj
            by_cases e : k = i
            · subst e; rw [hR9] at hadj; exact hnb q hq hadj
            · exact z5 k (by omega) hk2 q hq hadj
          exact LP_ih (i + 1) g9 R9 m9 (by omega) (by omega) hI10
  exact LP (P + 1) 0 g R m (by omega) (Nat.zero_le P) hI

set_option maxHeartbeats 4000000 in
set_option maxRecDepth 100000 in
/-- Parts.openBlackPlaces -/
theorem c_X1_openBlackPlaces (l : Launch) (D : va_G) (ty : Nat → ClassId) (h sa qa ta W H L M P : Nat) (f : Nat → Int32) (Q : Nat → Nat) (t : Nat → Int32) (qn0 : Int32) (hW : W ≤ 24) (hH : H ≤ 24) (hL : L = W + 2) (hM : M = L * (H + 2)) (p pa C N : Nat) (A : Nat → Nat) (hA : ∀ i, A i < 256) (hN : N ≤ 1728) (hNL : N = (W * H) * C) (h1 : 1 ≤ C) (h3 : C ≤ 3) : KM l yX1_openBlackPlaces wsX1_openBlackPlaces { frames := 1, cells := 0, slots := 0, locals := 40 } D ty [.ref h, .ref p] [(h, .inr (1, [.int (nI W), .int (nI H), .int (nI L), .ref sa, .ref qa, .ref ta, .int (qn0)])), (sa, .inl (ty 0, M, .inl f)), (qa, .inl (ty 0, P, .inl (kN Q))), (ta, .inl (ty 2, M, .inl t)), (p, .inr (2, [.int (nI C), .ref pa])), (pa, .inl (ty 0, N, .inl (kN A)))] (kV (fun u => ∃ f1 : Nat → Int32, u = [(h, .inr (1, [.int (nI W), .int (nI H), .int (nI L), .ref sa, .ref qa, .ref ta, .int (qn0)])), (sa, .inl (ty 0, M, .inl f1)), (qa, .inl (ty 0, P, .inl (kN Q))), (ta, .inl (ty 2, M, .inl t)), (p, .inr (2, [.int (nI C), .ref pa])), (pa, .inl (ty 0, N, .inl (kN A)))] ∧ (∀ q, q < M → ¬ kblk W H L C A q → f1 q = -1) ∧ (∀ q, q < M → kblk W H L C A q → f1 q = -2))) 0 0 := by
  refine KM.of (cc := cX1_openBlackPlaces) (maxL := 6) (ret := none) (lv := [(0, .ref h), (1, .ref p)]) (by decide +kernel) rfl rfl rfl (fun X C0 R0 => ?_)
  have Cx : kC X cX1_openBlackPlaces wsX1_openBlackPlaces RX1 { frames := 1, cells := 0, slots := 0, locals := 40 } "openBlackPlaces" l D ty 6 := C0
  have hM2 : M ≤ 676 := by rw [hM, hL]; exact Nat.le_trans (Nat.mul_le_mul (Nat.add_le_add_right hW 2) (Nat.add_le_add_right hH 2)) (by decide)
  have hwh := k_wh hW hH
  refine j_iconst (pc' := 1) (v := (nI 0)) Cx dX1_openBlackPlaces_0 rfl (by decide) ?_
  refine j_istore_n (pc' := 2) (lv' := [(0, .ref h), (1, .ref p), (2, .int (nI 0))]) Cx dX1_openBlackPlaces_1 rfl rfl (by decide) rfl ?_
  have LP : ∀ (LP_n : Nat), ∀ (y : Nat) (g : Nat → Int32), (H - y < LP_n) → (y ≤ H) → (kOpr W L M C A y g) → J X [(h, .inr (1, [.int (nI W), .int (nI H), .int (nI L), .ref sa, .ref qa, .ref ta, .int (qn0)])), (sa, .inl (ty 0, M, .inl g)), (qa, .inl (ty 0, P, .inl (kN Q))), (ta, .inl (ty 2, M, .inl t)), (p, .inr (2, [.int (nI C), .ref pa])), (pa, .inl (ty 0, N, .inl (kN A)))] [(0, .ref h), (1, .ref p), (2, .int (nI y))] 26 [] 0 0 := by
    intro LP_n
    induction LP_n with
    | zero =>
      intro y g hms _ _
      exact absurd hms (Nat.not_lt_zero _)
    | succ LP_n LP_ih =>
      intro y g LP_m hle hg
      refine j_iload_n (pc' := 27) Cx dX1_openBlackPlaces_26 rfl rfl rfl ?_
      refine j_aload_n (pc' := 28) Cx dX1_openBlackPlaces_27 rfl rfl rfl ?_
      refine j_get (pc' := 31) (N := 7) Cx dX1_openBlackPlaces_28 rfl kin_X1_openBlackPlaces_X1 kfl_X1_openBlackPlaces_15 0 rfl rfl 1 rfl rfl rfl ?_
      refine j_icmp_ge_n (tgt := 124) (pc' := 34) Cx dX1_openBlackPlaces_31 (by decide) rfl (by omega) (by omega) (fun hy => ?_) (fun hy => ?_)
      · have e : y = H := by omega
        subst e
        exact j_vret Cx dX1_openBlackPlaces_124 R0 ⟨Nat.le_of_ble_eq_true rfl, Nat.le_of_ble_eq_true rfl⟩ (⟨rfl, g, rfl, hg.2, hg.1⟩)
      · refine j_iconst (pc' := 35) (v := (nI 0)) Cx dX1_openBlackPlaces_34 rfl (by decide) ?_
        refine j_istore_n (pc' := 36) (lv' := [(0, .ref h), (1, .ref p), (2, .int (nI y)), (3, .int (nI 0))]) Cx dX1_openBlackPlaces_35 rfl rfl (by decide) rfl ?_
        have LQ : ∀ (LQ_n : Nat), ∀ (x : Nat) (g : Nat → Int32), (W - x < LQ_n) → (x ≤ W) → (kOpn W L M C A y x g) → J X [(h, .inr (1, [.int (nI W), .int (nI H), .int (nI L), .ref sa, .ref qa, .ref ta, .int (qn0)])), (sa, .inl (ty 0, M, .inl g)), (qa, .inl (ty 0, P, .inl (kN Q))), (ta, .inl (ty 2, M, .inl t)), (p, .inr (2, [.int (nI C), .ref pa])), (pa, .inl (ty 0, N, .inl (kN A)))] [(0, .ref h), (1, .ref p), (2, .int (nI y)), (3, .int (nI x))] 36 [] 0 0 := by
          intro LQ_n
          induction LQ_n with
          | zero =>
            intro x g hms _ _
            exact absurd hms (Nat.not_lt_zero _)
          | succ LQ_n LQ_ih =>
            intro x g LQ_m hlx hg2
            refine j_iload_n (pc' := 37) Cx dX1_openBlackPlaces_36 rfl rfl rfl ?_
            refine j_aload_n (pc' := 38) Cx dX1_openBlackPlaces_37 rfl rfl rfl ?_
            refine j_get (pc' := 41) (N := 7) Cx dX1_openBlackPlaces_38 rfl kin_X1_openBlackPlaces_X1 kfl_X1_openBlackPlaces_9 0 rfl rfl 0 rfl rfl rfl ?_
            refine j_icmp_ge_n (tgt := 118) (pc' := 44) Cx dX1_openBlackPlaces_41 (by decide) rfl (by omega) (by omega) (fun hx => ?_) (fun hx => ?_)
            · have e : x = W := by omega
              subst e
              refine j_iinc_n (pc' := 121) (z := 1) (a := y) (lv' := [(0, .ref h), (1, .ref p), (2, .int (nI (y + 1))), (3, .int (nI x))]) Cx dX1_openBlackPlaces_118 rfl rfl (by decide) rfl ?_
              refine j_goto (tgt := 26) Cx dX1_openBlackPlaces_121 (by decide) ?_
              refine J.lvs (lv' := [(0, .ref h), (1, .ref p), (2, .int (nI (y + 1)))]) [0, 1, 2] rfl ?_
              exact LP_ih (y + 1) g (by omega) (by omega) (kblk_row hg2)
            · have hb : (y + 1) * L + x + 1 < M := by have g1 : (y + 2) * L ≤ (H + 2) * L := Nat.mul_le_mul_right L (by omega); rw [show (y + 2) * L = (y + 1) * L + L from Nat.succ_mul (y + 1) L] at g1; rw [hM, Nat.mul_comm L]; omega
              have hb1 : y * W + x < W * H := k_idx (by omega) (by omega)
              refine j_iload_n (pc' := 45) Cx dX1_openBlackPlaces_44 rfl rfl rfl ?_
              refine j_iconst (pc' := 46) (v := (nI 1)) Cx dX1_openBlackPlaces_45 rfl (by decide) ?_
              refine j_iadd_n (pc' := 47) Cx dX1_openBlackPlaces_46 rfl ?_
              refine j_aload_n (pc' := 48) Cx dX1_openBlackPlaces_47 rfl rfl rfl ?_
              refine j_get (pc' := 51) (N := 7) Cx dX1_openBlackPlaces_48 rfl kin_X1_openBlackPlaces_X1 kfl_X1_openBlackPlaces_18 0 rfl rfl 2 rfl rfl rfl ?_
              refine j_imul_n (pc' := 52) Cx dX1_openBlackPlaces_51 rfl ?_
              refine j_iload_n (pc' := 53) Cx dX1_openBlackPlaces_52 rfl rfl rfl ?_
              refine j_iadd_n (pc' := 54) Cx dX1_openBlackPlaces_53 rfl ?_
              refine j_iconst (pc' := 55) (v := (nI 1)) Cx dX1_openBlackPlaces_54 rfl (by decide) ?_
              refine j_iadd_n (pc' := 56) Cx dX1_openBlackPlaces_55 rfl ?_
              refine j_istore (pc' := 58) (lv' := [(0, .ref h), (1, .ref p), (2, .int (nI y)), (3, .int (nI x)), (4, .int (nI ((((y + 1) * L) + x) + 1)))]) Cx dX1_openBlackPlaces_56 rfl (by decide) rfl ?_
              refine j_aload_n (pc' := 59) Cx dX1_openBlackPlaces_58 rfl rfl rfl ?_
              refine j_iload_n (pc' := 60) Cx dX1_openBlackPlaces_59 rfl rfl rfl ?_
              refine j_aload_n (pc' := 61) Cx dX1_openBlackPlaces_60 rfl rfl rfl ?_
              refine j_get (pc' := 64) (N := 7) Cx dX1_openBlackPlaces_61 rfl kin_X1_openBlackPlaces_X1 kfl_X1_openBlackPlaces_9 0 rfl rfl 0 rfl rfl rfl ?_
              refine j_imul_n (pc' := 65) Cx dX1_openBlackPlaces_64 rfl ?_
              refine j_iload_n (pc' := 66) Cx dX1_openBlackPlaces_65 rfl rfl rfl ?_
              refine j_iadd_n (pc' := 67) Cx dX1_openBlackPlaces_66 rfl ?_
              refine j_callV (pc' := 70) (wr := [(h, .inr (1, [.int (nI W), .int (nI H), .int (nI L), .ref sa, .ref qa, .ref ta, .int (qn0)])), (sa, .inl (ty 0, M, .inl g)), (qa, .inl (ty 0, P, .inl (kN Q))), (ta, .inl (ty 2, M, .inl t))]) (st := []) Cx dX1_openBlackPlaces_67 rfl (c_X2_greyAt l D ty p pa C N (W * H) (y * W + x) A hA hN hNL hb1 h1 h3) gX1_openBlackPlaces_X2_greyAt rfl khd_X2_greyAt rfl ⟨rfl, rfl, Nat.le_of_ble_eq_true rfl, Nat.le_of_ble_eq_true rfl⟩ [4, 5] [0, 1, 2, 3] rfl rfl ⟨rfl, rfl⟩ (by decide) 4 rfl rfl rfl (Nat.le_of_ble_eq_true rfl) ⟨Nat.le_of_ble_eq_true rfl, Nat.le_of_ble_eq_true rfl⟩ (fun v u hpost => ?_)
              obtain ⟨r, rfl, rfl, rfl⟩ := hpost
              show J X [(h, .inr (1, [.int (nI W), .int (nI H), .int (nI L), .ref sa, .ref qa, .ref ta, .int (qn0)])), (sa, .inl (ty 0, M, .inl g)), (qa, .inl (ty 0, P, .inl (kN Q))), (ta, .inl (ty 2, M, .inl t)), (p, .inr (2, [.int (nI C), .ref pa])), (pa, .inl (ty 0, N, .inl (kN A)))] [(0, .ref h), (1, .ref p), (2, .int (nI y)), (3, .int (nI x)), (4, .int (nI ((((y + 1) * L) + x) + 1)))] 70 [.int (nI (kg C A (y * W + x)))] 0 0
              have hkg := kg_lt (C := C) hA (y * W + x)
              refine j_sipush (pc' := 73) (v := (nI 128)) Cx dX1_openBlackPlaces_70 rfl (by decide) ?_
              refine j_icmp_ge_n (tgt := 80) (pc' := 76) Cx dX1_openBlackPlaces_73 (by decide) rfl (by omega) (by omega) (fun hk => ?_) (fun hk => ?_)
              · refine j_iconst (pc' := 81) (v := (nI 0)) Cx dX1_openBlackPlaces_80 rfl (by decide) ?_
                refine j_istore (pc' := 83) (lv' := [(0, .ref h), (1, .ref p), (2, .int (nI y)), (3, .int (nI x)), (4, .int (nI ((((y + 1) * L) + x) + 1))), (5, .int (nI 0))]) Cx dX1_openBlackPlaces_81 rfl (by decide) rfl ?_
                refine j_iload (pc' := 85) Cx dX1_openBlackPlaces_83 rfl rfl ?_
                refine j_if_eq_n (tgt := 112) (pc' := 88) Cx dX1_openBlackPlaces_85 (by decide) rfl (by omega) (fun _ => ?_) (fun hh => absurd hh (by decide))
                refine j_iinc_n (pc' := 115) (z := 1) (a := x) (lv' := [(0, .ref h), (1, .ref p), (2, .int (nI y)), (3, .int (nI (x + 1))), (4, .int (nI ((((y + 1) * L) + x) + 1))), (5, .int (nI 0))]) Cx dX1_openBlackPlaces_112 rfl rfl (by decide) rfl ?_
                refine j_goto (tgt := 36) Cx dX1_openBlackPlaces_115 (by decide) ?_
                refine J.lvs (lv' := [(0, .ref h), (1, .ref p), (2, .int (nI y)), (3, .int (nI (x + 1)))]) [0, 1, 2, 3] rfl ?_
                exact LQ_ih (x + 1) g (by omega) (by omega) (kblk_white hg2 hk)
              · refine j_iconst (pc' := 77) (v := (nI 1)) Cx dX1_openBlackPlaces_76 rfl (by decide) ?_
                refine j_goto (tgt := 81) Cx dX1_openBlackPlaces_77 (by decide) ?_
                refine j_istore (pc' := 83) (lv' := [(0, .ref h), (1, .ref p), (2, .int (nI y)), (3, .int (nI x)), (4, .int (nI ((((y + 1) * L) + x) + 1))), (5, .int (nI 1))]) Cx dX1_openBlackPlaces_81 rfl (by decide) rfl ?_
                refine j_iload (pc' := 85) Cx dX1_openBlackPlaces_83 rfl rfl ?_
                refine j_if_eq_n (tgt := 112) (pc' := 88) Cx dX1_openBlackPlaces_85 (by decide) rfl (by omega) (fun hh => absurd hh (by decide)) (fun _ => ?_)
                refine j_iload (pc' := 90) Cx dX1_openBlackPlaces_88 rfl rfl ?_
                refine j_if_lt_n (tgt := 112) (pc' := 93) Cx dX1_openBlackPlaces_90 (by decide) rfl (by omega) ?_
                refine j_iload (pc' := 95) Cx dX1_openBlackPlaces_93 rfl rfl ?_
                refine j_aload_n (pc' := 96) Cx dX1_openBlackPlaces_95 rfl rfl rfl ?_
                refine j_get (pc' := 99) (N := 7) Cx dX1_openBlackPlaces_96 rfl kin_X1_openBlackPlaces_X1 kfl_X1_openBlackPlaces_21 0 rfl rfl 3 rfl rfl rfl ?_
                refine j_alen (pc' := 100) (v := nI M) Cx dX1_openBlackPlaces_99 rfl 1 rfl rfl rfl ?_
                refine j_icmp_ge_n (tgt := 112) (pc' := 103) Cx dX1_openBlackPlaces_100 (by decide) rfl (by omega) (by omega) (fun hh => absurd hh (by omega)) (fun _ => ?_)
                refine j_aload_n (pc' := 104) Cx dX1_openBlackPlaces_103 rfl rfl rfl ?_
                refine j_get (pc' := 107) (N := 7) Cx dX1_openBlackPlaces_104 rfl kin_X1_openBlackPlaces_X1 kfl_X1_openBlackPlaces_21 0 rfl rfl 3 rfl rfl rfl ?_
                refine j_iload (pc' := 109) Cx dX1_openBlackPlaces_107 rfl rfl ?_
                refine j_bipush (pc' := 111) (v := (-2)) Cx dX1_openBlackPlaces_109 rfl (by decide) ?_
                refine j_iastore_n (pc' := 112) (ws' := [(h, .inr (1, [.int (nI W), .int (nI H), .int (nI L), .ref sa, .ref qa, .ref ta, .int (qn0)])), (sa, .inl (ty 0, M, .inl (va_up g ((((y + 1) * L) + x) + 1) (-2)))), (qa, .inl (ty 0, P, .inl (kN Q))), (ta, .inl (ty 2, M, .inl t)), (p, .inr (2, [.int (nI C), .ref pa])), (pa, .inl (ty 0, N, .inl (kN A)))]) Cx dX1_openBlackPlaces_111 rfl 1 rfl (by omega) (by omega) rfl ?_
                refine j_iinc_n (pc' := 115) (z := 1) (a := x) (lv' := [(0, .ref h), (1, .ref p), (2, .int (nI y)), (3, .int (nI (x + 1))), (4, .int (nI ((((y + 1) * L) + x) + 1))), (5, .int (nI 1))]) Cx dX1_openBlackPlaces_112 rfl rfl (by decide) rfl ?_
                refine j_goto (tgt := 36) Cx dX1_openBlackPlaces_115 (by decide) ?_
                refine J.lvs (lv' := [(0, .ref h), (1, .ref p), (2, .int (nI y)), (3, .int (nI (x + 1)))]) [0, 1, 2, 3] rfl ?_
                exact LQ_ih (x + 1) (va_up g ((y + 1) * L + x + 1) (-2)) (by omega) (by omega) (kblk_black hg2 hk)
        exact LQ (W + 1) 0 g (by omega) (Nat.zero_le W) (kOpn_start hg)
  have LR : ∀ (LR_n : Nat), ∀ (i : Nat), (M - i < LR_n) → (i ≤ M) → J X [(h, .inr (1, [.int (nI W), .int (nI H), .int (nI L), .ref sa, .ref qa, .ref ta, .int (qn0)])), (sa, .inl (ty 0, M, .inl (kfill (fun _ => -1) f i))), (qa, .inl (ty 0, P, .inl (kN Q))), (ta, .inl (ty 2, M, .inl t)), (p, .inr (2, [.int (nI C), .ref pa])), (pa, .inl (ty 0, N, .inl (kN A)))] [(0, .ref h), (1, .ref p), (2, .int (nI i))] 2 [] 0 0 := by
    intro LR_n
    induction LR_n with
    | zero =>
      intro i hms _
      exact absurd hms (Nat.not_lt_zero _)
    | succ LR_n LR_ih =>
      intro i LR_m hli
      refine j_iload_n (pc' := 3) Cx dX1_openBlackPlaces_2 rfl rfl rfl ?_
      refine j_aload_n (pc' := 4) Cx dX1_openBlackPlaces_3 rfl rfl rfl ?_
      refine j_get (pc' := 7) (N := 7) Cx dX1_openBlackPlaces_4 rfl kin_X1_openBlackPlaces_X1 kfl_X1_openBlackPlaces_21 0 rfl rfl 3 rfl rfl rfl ?_
      refine j_alen (pc' := 8) (v := nI M) Cx dX1_openBlackPlaces_7 rfl 1 rfl rfl rfl ?_
      refine j_icmp_ge_n (tgt := 24) (pc' := 11) Cx dX1_openBlackPlaces_8 (by decide) rfl (by omega) (by omega) (fun hi => ?_) (fun hi => ?_)
      · have e : i = M := by omega
        refine j_iconst (pc' := 25) (v := (nI 0)) Cx dX1_openBlackPlaces_24 rfl (by decide) ?_
        refine j_istore_n (pc' := 26) (lv' := [(0, .ref h), (1, .ref p), (2, .int (nI 0))]) Cx dX1_openBlackPlaces_25 rfl rfl (by decide) rfl ?_
        exact LP (H + 1) 0 _ (by omega) (Nat.zero_le H) (kOpr_0 (fun q hq => kfill_in (by omega)))
      · refine j_aload_n (pc' := 12) Cx dX1_openBlackPlaces_11 rfl rfl rfl ?_
        refine j_get (pc' := 15) (N := 7) Cx dX1_openBlackPlaces_12 rfl kin_X1_openBlackPlaces_X1 kfl_X1_openBlackPlaces_21 0 rfl rfl 3 rfl rfl rfl ?_
        refine j_iload_n (pc' := 16) Cx dX1_openBlackPlaces_15 rfl rfl rfl ?_
        refine j_iconst (pc' := 17) (v := (-1)) Cx dX1_openBlackPlaces_16 rfl (by decide) ?_
        refine j_iastore_n (pc' := 18) (ws' := [(h, .inr (1, [.int (nI W), .int (nI H), .int (nI L), .ref sa, .ref qa, .ref ta, .int (qn0)])), (sa, .inl (ty 0, M, .inl (va_up (kfill (fun _ => -1) f i) i (-1)))), (qa, .inl (ty 0, P, .inl (kN Q))), (ta, .inl (ty 2, M, .inl t)), (p, .inr (2, [.int (nI C), .ref pa])), (pa, .inl (ty 0, N, .inl (kN A)))]) Cx dX1_openBlackPlaces_17 rfl 1 rfl (by omega) (by omega) rfl ?_
        refine j_iinc_n (pc' := 21) (z := 1) (a := i) (lv' := [(0, .ref h), (1, .ref p), (2, .int (nI (i + 1)))]) Cx dX1_openBlackPlaces_18 rfl rfl (by decide) rfl ?_
        refine j_goto (tgt := 2) Cx dX1_openBlackPlaces_21 (by decide) ?_
        refine J.cast (ws' := [(h, .inr (1, [.int (nI W), .int (nI H), .int (nI L), .ref sa, .ref qa, .ref ta, .int (qn0)])), (sa, .inl (ty 0, M, .inl (kfill (fun _ => -1) f (i + 1)))), (qa, .inl (ty 0, P, .inl (kN Q))), (ta, .inl (ty 2, M, .inl t)), (p, .inr (2, [.int (nI C), .ref pa])), (pa, .inl (ty 0, N, .inl (kN A)))]) (lv' := [(0, .ref h), (1, .ref p), (2, .int (nI (i + 1)))]) (pc' := 2) (st' := []) (by rw [← kfill_up (fun _ => (-1 : Int32)) f i]) (rfl) rfl (rfl) rfl rfl ?_
        exact LR_ih (i + 1) (by omega) (by omega)
  refine J.cast (ws' := [(h, .inr (1, [.int (nI W), .int (nI H), .int (nI L), .ref sa, .ref qa, .ref ta, .int (qn0)])), (sa, .inl (ty 0, M, .inl (kfill (fun _ => -1) f 0))), (qa, .inl (ty 0, P, .inl (kN Q))), (ta, .inl (ty 2, M, .inl t)), (p, .inr (2, [.int (nI C), .ref pa])), (pa, .inl (ty 0, N, .inl (kN A)))]) (lv' := [(0, .ref h), (1, .ref p), (2, .int (nI 0))]) (pc' := 2) (st' := []) (by rw [kfill_0]) (rfl) rfl (rfl) rfl rfl ?_
  exact LR (M + 1) 0 (by omega) (Nat.zero_le M)

set_option maxHeartbeats 4000000 in
set_option maxRecDepth 100000 in
/-- Parts.findIn -/
theorem c_X1_findIn (l : Launch) (D : va_G) (ty : Nat → ClassId) (h sa qa ta W H L M P : Nat) (f : Nat → Int32) (Q : Nat → Nat) (t : Nat → Int32) (qn0 : Int32) (hW : W ≤ 24) (hH : H ≤ 24) (hL : L = W + 2) (hM : M = L * (H + 2)) (hP : P = W * H) (p pa C N : Nat) (A : Nat → Nat) (hA : ∀ i, A i < 256) (hN : N ≤ 1728) (hNL : N = (W * H) * C) (h1 : 1 ≤ C) (h3 : C ≤ 3) : KM l yX1_findIn wsX1_findIn { frames := 3, cells := 0, slots := 0, locals := 120 } D ty [.ref h, .ref p] [(h, .inr (1, [.int (nI W), .int (nI H), .int (nI L), .ref sa, .ref qa, .ref ta, .int (qn0)])), (sa, .inl (ty 0, M, .inl f)), (qa, .inl (ty 0, P, .inl (kN Q))), (ta, .inl (ty 2, M, .inl t)), (p, .inr (2, [.int (nI C), .ref pa])), (pa, .inl (ty 0, N, .inl (kN A)))] (kV (fun u => ∃ (f1 : Nat → Int32) (Q1 : Nat → Nat) (n1 : Int32), u = [(h, .inr (1, [.int (nI W), .int (nI H), .int (nI L), .ref sa, .ref qa, .ref ta, .int (n1)])), (sa, .inl (ty 0, M, .inl f1)), (qa, .inl (ty 0, P, .inl (kN Q1))), (ta, .inl (ty 2, M, .inl t)), (p, .inr (2, [.int (nI C), .ref pa])), (pa, .inl (ty 0, N, .inl (kN A)))] ∧ kLab L M (kblk W H L C A) f1)) 0 0 := by
  refine KM.of (cc := cX1_findIn) (maxL := 3) (ret := none) (lv := [(0, .ref h), (1, .ref p)]) (by decide +kernel) rfl rfl rfl (fun X C0 R0 => ?_)
  have Cx : kC X cX1_findIn wsX1_findIn RX1 { frames := 3, cells := 0, slots := 0, locals := 120 } "findIn" l D ty 3 := C0
  have hM2 : M ≤ 676 := by rw [hM, hL]; exact Nat.le_trans (Nat.mul_le_mul (Nat.add_le_add_right hW 2) (Nat.add_le_add_right hH 2)) (by decide)
  have hP2 : P ≤ 576 := by rw [hP]; exact k_wh hW hH
  refine j_aload_n (pc' := 1) Cx dX1_findIn_0 rfl rfl rfl ?_
  refine j_aload_n (pc' := 2) Cx dX1_findIn_1 rfl rfl rfl ?_
  refine j_callV (pc' := 5) (wr := []) (st := []) Cx dX1_findIn_2 rfl (c_X1_openBlackPlaces l D ty h sa qa ta W H L M P f Q t qn0 hW hH hL hM p pa C N A hA hN hNL h1 h3) gX1_findIn_X1_openBlackPlaces rfl khd_X1_openBlackPlaces rfl ⟨rfl, rfl, Nat.le_of_ble_eq_true rfl, Nat.le_of_ble_eq_true rfl⟩ [0, 1, 2, 3, 4, 5] [] rfl rfl ⟨rfl, rfl⟩ (by decide) 0 rfl rfl rfl (Nat.le_of_ble_eq_true rfl) ⟨Nat.le_of_ble_eq_true rfl, Nat.le_of_ble_eq_true rfl⟩ (fun v u hpost => ?_)
  obtain ⟨rfl, g, rfl, hg1, hg2⟩ := hpost
  show J X [(h, .inr (1, [.int (nI W), .int (nI H), .int (nI L), .ref sa, .ref qa, .ref ta, .int (qn0)])), (sa, .inl (ty 0, M, .inl g)), (qa, .inl (ty 0, P, .inl (kN Q))), (ta, .inl (ty 2, M, .inl t)), (p, .inr (2, [.int (nI C), .ref pa])), (pa, .inl (ty 0, N, .inl (kN A)))] [(0, .ref h), (1, .ref p)] 5 [] 0 0
  have hK := kFind_0 (L := L) hg1 hg2
  refine j_iconst (pc' := 6) (v := (nI 0)) Cx dX1_findIn_5 rfl (by decide) ?_
  refine j_istore_n (pc' := 7) (lv' := [(0, .ref h), (1, .ref p), (2, .int (nI 0))]) Cx dX1_findIn_6 rfl rfl (by decide) rfl ?_
  have LP : ∀ (LP_n : Nat), ∀ (i : Nat) (g : Nat → Int32) (R : Nat → Nat) (m : Int32), (M - i < LP_n) → (i ≤ M) → (kFind L M (kblk W H L C A) g i) → J X [(h, .inr (1, [.int (nI W), .int (nI H), .int (nI L), .ref sa, .ref qa, .ref ta, .int (m)])), (sa, .inl (ty 0, M, .inl g)), (qa, .inl (ty 0, P, .inl (kN R))), (ta, .inl (ty 2, M, .inl t)), (p, .inr (2, [.int (nI C), .ref pa])), (pa, .inl (ty 0, N, .inl (kN A)))] [(0, .ref h), (1, .ref p), (2, .int (nI i))] 7 [] 0 0 := by
    intro LP_n
    induction LP_n with
    | zero =>
      intro i g R m hms _ _
      exact absurd hms (Nat.not_lt_zero _)
    | succ LP_n LP_ih =>
      intro i g R m LP_m hle hK
      refine j_iload_n (pc' := 8) Cx dX1_findIn_7 rfl rfl rfl ?_
      refine j_aload_n (pc' := 9) Cx dX1_findIn_8 rfl rfl rfl ?_
      refine j_get (pc' := 12) (N := 7) Cx dX1_findIn_9 rfl kin_X1_findIn_X1 kfl_X1_findIn_21 0 rfl rfl 3 rfl rfl rfl ?_
      refine j_alen (pc' := 13) (v := nI M) Cx dX1_findIn_12 rfl 1 rfl rfl rfl ?_
      refine j_icmp_ge_n (tgt := 38) (pc' := 16) Cx dX1_findIn_13 (by decide) rfl (by omega) (by omega) (fun hi => ?_) (fun hi => ?_)
      · have e : i = M := by omega
        subst e
        exact j_vret Cx dX1_findIn_38 R0 ⟨Nat.le_of_ble_eq_true rfl, Nat.le_of_ble_eq_true rfl⟩ (⟨rfl, g, R, m, rfl, kFind_end hK⟩)
      · refine j_aload_n (pc' := 17) Cx dX1_findIn_16 rfl rfl rfl ?_
        refine j_get (pc' := 20) (N := 7) Cx dX1_findIn_17 rfl kin_X1_findIn_X1 kfl_X1_findIn_21 0 rfl rfl 3 rfl rfl rfl ?_
        refine j_iload_n (pc' := 21) Cx dX1_findIn_20 rfl rfl rfl ?_
        refine j_iaload_n (pc' := 22) Cx dX1_findIn_21 rfl 1 rfl (by omega) (by omega) ?_
        refine j_bipush (pc' := 24) (v := (-2)) Cx dX1_findIn_22 rfl (by decide) ?_
        refine j_icmp_ne (tgt := 32) (pc' := 27) Cx dX1_findIn_24 (by decide) rfl (fun hc => ?_) (fun hc => ?_)
        · refine j_iinc_n (pc' := 35) (z := 1) (a := i) (lv' := [(0, .ref h), (1, .ref p), (2, .int (nI (i + 1)))]) Cx dX1_findIn_32 rfl rfl (by decide) rfl ?_
          refine j_goto (tgt := 7) Cx dX1_findIn_35 (by decide) ?_
          exact LP_ih (i + 1) g R m (by omega) (by omega) (kFind_skip hK hc)
        · refine j_aload_n (pc' := 28) Cx dX1_findIn_27 rfl rfl rfl ?_
          refine j_iload_n (pc' := 29) Cx dX1_findIn_28 rfl rfl rfl ?_
          have hop : ∀ q, q < M → g q = -2 → kblk W H L C A q := fun q hq e => Classical.byContradiction (fun hb => by rw [hK.1 q hq hb] at e; exact absurd e (by decide))
          refine j_callV (pc' := 32) (wr := [(p, .inr (2, [.int (nI C), .ref pa])), (pa, .inl (ty 0, N, .inl (kN A)))]) (st := []) Cx dX1_findIn_29 rfl (c_X1_spreadFrom l D ty h sa qa ta W H L M P g R t m hM2 hP2 i (by omega) hc (fun q hq e => kblk_in hL hM (hop q hq e)) (kdp W L) (fun q hq e => by rw [hP]; exact kdp_lt hL (hop q hq e)) (fun q q2 hq hq2 e e2 => kdp_inj hL (hop q hq e) (hop q2 hq2 e2))) gX1_findIn_X1_spreadFrom rfl khd_X1_spreadFrom rfl ⟨rfl, rfl, Nat.le_of_ble_eq_true rfl, Nat.le_of_ble_eq_true rfl⟩ [0, 1, 2, 3] [4, 5] rfl rfl ⟨rfl, rfl⟩ (by decide) 0 rfl rfl rfl (Nat.le_of_ble_eq_true rfl) ⟨Nat.le_of_ble_eq_true rfl, Nat.le_of_ble_eq_true rfl⟩ (fun v u hpost => ?_)
          obtain ⟨rfl, g1, R1, m1, rfl, hsp⟩ := hpost
          show J X [(p, .inr (2, [.int (nI C), .ref pa])), (pa, .inl (ty 0, N, .inl (kN A))), (h, .inr (1, [.int (nI W), .int (nI H), .int (nI L), .ref sa, .ref qa, .ref ta, .int (nI m1)])), (sa, .inl (ty 0, M, .inl g1)), (qa, .inl (ty 0, P, .inl (kN R1))), (ta, .inl (ty 2, M, .inl t))] [(0, .ref h), (1, .ref p), (2, .int (nI i))] 32 [] 0 0
          refine J.sub (ws' := [(h, .inr (1, [.int (nI W), .int (nI H), .int (nI L), .ref sa, .ref qa, .ref ta, .int (nI m1)])), (sa, .inl (ty 0, M, .inl g1)), (qa, .inl (ty 0, P, .inl (kN R1))), (ta, .inl (ty 2, M, .inl t)), (p, .inr (2, [.int (nI C), .ref pa])), (pa, .inl (ty 0, N, .inl (kN A)))]) [2, 3, 4, 5, 0, 1] rfl rfl ?_
          refine j_iinc_n (pc' := 35) (z := 1) (a := i) (lv' := [(0, .ref h), (1, .ref p), (2, .int (nI (i + 1)))]) Cx dX1_findIn_32 rfl rfl (by decide) rfl ?_
          refine j_goto (tgt := 7) Cx dX1_findIn_35 (by decide) ?_
          exact LP_ih (i + 1) g1 R1 (nI m1) (by omega) (by omega) (kFind_spread (by omega) hK (by omega) hc hsp)
  exact LP (M + 1) 0 g Q qn0 (by omega) (Nat.zero_le M) hK

set_option maxHeartbeats 4000000 in
set_option maxRecDepth 100000 in
/-- Parts.count -/
theorem c_X1_count (l : Launch) (D : va_G) (ty : Nat → ClassId) (h sa qa ta W H L M P : Nat) (f : Nat → Int32) (Q : Nat → Nat) (t : Nat → Int32) (qn0 : Int32) (hM : M ≤ 676) : KM l yX1_count wsX1_count { frames := 0, cells := 0, slots := 0, locals := 0 } D ty [.ref h] [(h, .inr (1, [.int (nI W), .int (nI H), .int (nI L), .ref sa, .ref qa, .ref ta, .int (qn0)])), (sa, .inl (ty 0, M, .inl f)), (qa, .inl (ty 0, P, .inl (kN Q))), (ta, .inl (ty 2, M, .inl t))] (kI (fun r u => r = nI (kct (fun q => decide (f q = nI q)) M) ∧ u = [(h, .inr (1, [.int (nI W), .int (nI H), .int (nI L), .ref sa, .ref qa, .ref ta, .int (qn0)])), (sa, .inl (ty 0, M, .inl f)), (qa, .inl (ty 0, P, .inl (kN Q))), (ta, .inl (ty 2, M, .inl t))])) 0 0 := by
  refine KM.of (cc := cX1_count) (maxL := 3) (ret := (some .int)) (lv := [(0, .ref h)]) (by decide +kernel) rfl rfl rfl (fun X C0 R0 => ?_)
  have Cx : kC X cX1_count wsX1_count RX1 { frames := 0, cells := 0, slots := 0, locals := 0 } "count" l D ty 3 := C0
  refine j_iconst (pc' := 1) (v := (nI 0)) Cx dX1_count_0 rfl (by decide) ?_
  refine j_istore_n (pc' := 2) (lv' := [(0, .ref h), (1, .int (nI 0))]) Cx dX1_count_1 rfl rfl (by decide) rfl ?_
  refine j_iconst (pc' := 3) (v := (nI 0)) Cx dX1_count_2 rfl (by decide) ?_
  refine j_istore_n (pc' := 4) (lv' := [(0, .ref h), (1, .int (nI 0)), (2, .int (nI 0))]) Cx dX1_count_3 rfl rfl (by decide) rfl ?_
  have LP : ∀ (LP_n : Nat), ∀ (i : Nat), (M - i < LP_n) → (i ≤ M) → J X [(h, .inr (1, [.int (nI W), .int (nI H), .int (nI L), .ref sa, .ref qa, .ref ta, .int (qn0)])), (sa, .inl (ty 0, M, .inl f)), (qa, .inl (ty 0, P, .inl (kN Q))), (ta, .inl (ty 2, M, .inl t))] [(0, .ref h), (1, .int (nI (kct (fun q => decide (f q = nI q)) i))), (2, .int (nI i))] 4 [] 0 0 := by
    intro LP_n
    induction LP_n with
    | zero =>
      intro i hms _
      exact absurd hms (Nat.not_lt_zero _)
    | succ LP_n LP_ih =>
      intro i LP_m hle
      have hk := kct_le (fun q => decide (f q = nI q)) i
      refine j_iload_n (pc' := 5) Cx dX1_count_4 rfl rfl rfl ?_
      refine j_aload_n (pc' := 6) Cx dX1_count_5 rfl rfl rfl ?_
      refine j_get (pc' := 9) (N := 7) Cx dX1_count_6 rfl kin_X1_count_X1 kfl_X1_count_21 0 rfl rfl 3 rfl rfl rfl ?_
      refine j_alen (pc' := 10) (v := nI M) Cx dX1_count_9 rfl 1 rfl rfl rfl ?_
      refine j_icmp_ge_n (tgt := 32) (pc' := 13) Cx dX1_count_10 (by decide) rfl (by omega) (by omega) (fun hi => ?_) (fun hi => ?_)
      · have e : i = M := by omega
        subst e
        refine j_iload_n (pc' := 33) Cx dX1_count_32 rfl rfl rfl ?_
        exact j_iret Cx dX1_count_33 R0 ⟨Nat.le_of_ble_eq_true rfl, Nat.le_of_ble_eq_true rfl⟩ (⟨_, rfl, rfl, rfl⟩)
      · refine j_aload_n (pc' := 14) Cx dX1_count_13 rfl rfl rfl ?_
        refine j_get (pc' := 17) (N := 7) Cx dX1_count_14 rfl kin_X1_count_X1 kfl_X1_count_21 0 rfl rfl 3 rfl rfl rfl ?_
        refine j_iload_n (pc' := 18) Cx dX1_count_17 rfl rfl rfl ?_
        refine j_iaload_n (pc' := 19) Cx dX1_count_18 rfl 1 rfl (by omega) (by omega) ?_
        refine j_iload_n (pc' := 20) Cx dX1_count_19 rfl rfl rfl ?_
        refine j_icmp_ne (tgt := 26) (pc' := 23) Cx dX1_count_20 (by decide) rfl (fun hc => ?_) (fun hc => ?_)
        · refine j_iinc_n (pc' := 29) (z := 1) (a := i) (lv' := [(0, .ref h), (1, .int (nI (kct (fun q => decide (f q = nI q)) i))), (2, .int (nI (i + 1)))]) Cx dX1_count_26 rfl rfl (by decide) rfl ?_
          refine j_goto (tgt := 4) Cx dX1_count_29 (by decide) ?_
          refine J.cast (ws' := [(h, .inr (1, [.int (nI W), .int (nI H), .int (nI L), .ref sa, .ref qa, .ref ta, .int (qn0)])), (sa, .inl (ty 0, M, .inl f)), (qa, .inl (ty 0, P, .inl (kN Q))), (ta, .inl (ty 2, M, .inl t))]) (lv' := [(0, .ref h), (1, .int (nI (kct (fun q => decide (f q = nI q)) (i + 1)))), (2, .int (nI (i + 1)))]) (pc' := 4) (st' := []) (rfl) (by rw [kct_no (p := (fun q => decide (f q = nI q))) (decide_eq_false hc)]) rfl (rfl) rfl rfl ?_
          exact LP_ih (i + 1) (by omega) (by omega)
        · refine j_iinc_n (pc' := 26) (z := 1) (a := (kct (fun q => decide (f q = nI q)) i)) (lv' := [(0, .ref h), (1, .int (nI (kct (fun q => decide (f q = nI q)) i + 1))), (2, .int (nI i))]) Cx dX1_count_23 rfl rfl (by decide) rfl ?_
          refine j_iinc_n (pc' := 29) (z := 1) (a := i) (lv' := [(0, .ref h), (1, .int (nI (kct (fun q => decide (f q = nI q)) i + 1))), (2, .int (nI (i + 1)))]) Cx dX1_count_26 rfl rfl (by decide) rfl ?_
          refine j_goto (tgt := 4) Cx dX1_count_29 (by decide) ?_
          refine J.cast (ws' := [(h, .inr (1, [.int (nI W), .int (nI H), .int (nI L), .ref sa, .ref qa, .ref ta, .int (qn0)])), (sa, .inl (ty 0, M, .inl f)), (qa, .inl (ty 0, P, .inl (kN Q))), (ta, .inl (ty 2, M, .inl t))]) (lv' := [(0, .ref h), (1, .int (nI (kct (fun q => decide (f q = nI q)) (i + 1)))), (2, .int (nI (i + 1)))]) (pc' := 4) (st' := []) (rfl) (by rw [← kct_yes (p := (fun q => decide (f q = nI q))) (decide_eq_true hc)]) rfl (rfl) rfl rfl ?_
          exact LP_ih (i + 1) (by omega) (by omega)
  refine J.cast (ws' := [(h, .inr (1, [.int (nI W), .int (nI H), .int (nI L), .ref sa, .ref qa, .ref ta, .int (qn0)])), (sa, .inl (ty 0, M, .inl f)), (qa, .inl (ty 0, P, .inl (kN Q))), (ta, .inl (ty 2, M, .inl t))]) (lv' := [(0, .ref h), (1, .int (nI (kct (fun q => decide (f q = nI q)) 0))), (2, .int (nI 0))]) (pc' := 4) (st' := []) (rfl) (rfl) rfl (rfl) rfl rfl ?_
  exact LP (M + 1) 0 (by omega) (Nat.zero_le M)

set_option maxHeartbeats 4000000 in
set_option maxRecDepth 100000 in
/-- Parts.tear -/
theorem c_X1_tear (l : Launch) (D : va_G) (ty : Nat → ClassId) (h sa qa ta W H L M : Nat) (t : Nat → Int32) (qn0 : Int32) (v : Int32) (hM : M ≤ 676) : KM l yX1_tear wsX1_tear { frames := 0, cells := 0, slots := 0, locals := 0 } D ty [.ref h, .int (v)] [(h, .inr (1, [.int (nI W), .int (nI H), .int (nI L), .ref sa, .ref qa, .ref ta, .int (qn0)])), (ta, .inl (ty 2, M, .inl t))] (kV (fun u => u = [(h, .inr (1, [.int (nI W), .int (nI H), .int (nI L), .ref sa, .ref qa, .ref ta, .int (qn0)])), (ta, .inl (ty 2, M, .inl (ktear M v t)))])) 0 0 := by
  refine KM.of (cc := cX1_tear) (maxL := 2) (ret := none) (lv := [(0, .ref h), (1, .int (v))]) (by decide +kernel) rfl rfl rfl (fun X C0 R0 => ?_)
  have Cx : kC X cX1_tear wsX1_tear RX1 { frames := 0, cells := 0, slots := 0, locals := 0 } "tear" l D ty 2 := C0
  rcases pk_ix v (n := M) (by omega) with hv | hv | ⟨s, hs, rfl⟩
  · rw [← ktear_no (t := t) (by omega) (Or.inl hv)] at R0
    refine j_iload_n (pc' := 1) Cx dX1_tear_0 rfl rfl rfl ?_
    refine j_if_lt (tgt := 20) (pc' := 4) Cx dX1_tear_1 (by decide) rfl (fun _ => ?_) (fun hh => absurd hh (not_not_intro hv))
    exact j_vret Cx dX1_tear_20 R0 ⟨Nat.le_of_ble_eq_true rfl, Nat.le_of_ble_eq_true rfl⟩ (⟨rfl, rfl⟩)
  · rw [← ktear_no (t := t) (by omega) (Or.inr hv)] at R0
    refine j_iload_n (pc' := 1) Cx dX1_tear_0 rfl rfl rfl ?_
    refine j_if_lt (tgt := 20) (pc' := 4) Cx dX1_tear_1 (by decide) rfl (fun hh => absurd hh (fun e => absurd (Int32.lt_of_le_of_lt hv e) (nI_pos (by omega)))) (fun _ => ?_)
    refine j_iload_n (pc' := 5) Cx dX1_tear_4 rfl rfl rfl ?_
    refine j_aload_n (pc' := 6) Cx dX1_tear_5 rfl rfl rfl ?_
    refine j_get (pc' := 9) (N := 7) Cx dX1_tear_6 rfl kin_X1_tear_X1 kfl_X1_tear_28 0 rfl rfl 5 rfl rfl rfl ?_
    refine j_alen (pc' := 10) (v := nI M) Cx dX1_tear_9 rfl 1 rfl rfl rfl ?_
    refine j_icmp_ge (tgt := 20) (pc' := 13) Cx dX1_tear_10 (by decide) rfl (fun _ => ?_) (fun hh => absurd hh (not_not_intro hv))
    exact j_vret Cx dX1_tear_20 R0 ⟨Nat.le_of_ble_eq_true rfl, Nat.le_of_ble_eq_true rfl⟩ (⟨rfl, rfl⟩)
  · rw [← ktear_at hs (by omega)] at R0
    refine j_iload_n (pc' := 1) Cx dX1_tear_0 rfl rfl rfl ?_
    refine j_if_lt_n (tgt := 20) (pc' := 4) Cx dX1_tear_1 (by decide) rfl (by omega) ?_
    refine j_iload_n (pc' := 5) Cx dX1_tear_4 rfl rfl rfl ?_
    refine j_aload_n (pc' := 6) Cx dX1_tear_5 rfl rfl rfl ?_
    refine j_get (pc' := 9) (N := 7) Cx dX1_tear_6 rfl kin_X1_tear_X1 kfl_X1_tear_28 0 rfl rfl 5 rfl rfl rfl ?_
    refine j_alen (pc' := 10) (v := nI M) Cx dX1_tear_9 rfl 1 rfl rfl rfl ?_
    refine j_icmp_ge_n (tgt := 20) (pc' := 13) Cx dX1_tear_10 (by decide) rfl (by omega) (by omega) (fun hh => absurd hh (by omega)) (fun _ => ?_)
    refine j_aload_n (pc' := 14) Cx dX1_tear_13 rfl rfl rfl ?_
    refine j_get (pc' := 17) (N := 7) Cx dX1_tear_14 rfl kin_X1_tear_X1 kfl_X1_tear_28 0 rfl rfl 5 rfl rfl rfl ?_
    refine j_iload_n (pc' := 18) Cx dX1_tear_17 rfl rfl rfl ?_
    refine j_iconst (pc' := 19) (v := (nI 1)) Cx dX1_tear_18 rfl (by decide) ?_
    refine j_zastore_n (pc' := 20) (ws' := [(h, .inr (1, [.int (nI W), .int (nI H), .int (nI L), .ref sa, .ref qa, .ref ta, .int (qn0)])), (ta, .inl (ty 2, M, .inl (va_up t s (nI 1))))]) Cx dX1_tear_19 rfl 1 rfl (rfl) (by omega) (by omega) rfl ?_
    exact j_vret Cx dX1_tear_20 R0 ⟨Nat.le_of_ble_eq_true rfl, Nat.le_of_ble_eq_true rfl⟩ (⟨rfl, rfl⟩)

set_option maxHeartbeats 4000000 in
set_option maxRecDepth 100000 in
/-- Parts.markTorn -/
theorem c_X1_markTorn (l : Launch) (D : va_G) (ty : Nat → ClassId) (h sa qa ta W H L M P : Nat) (f : Nat → Int32) (Q : Nat → Nat) (t : Nat → Int32) (qn0 : Int32) (h2 sb qb tb : Nat) (f2 : Nat → Int32) (qn2 : Int32) (hM : M ≤ 676) : KM l yX1_markTorn wsX1_markTorn { frames := 1, cells := 0, slots := 0, locals := 40 } D ty [.ref h, .ref h2] [(h, .inr (1, [.int (nI W), .int (nI H), .int (nI L), .ref sa, .ref qa, .ref ta, .int (qn0)])), (sa, .inl (ty 0, M, .inl f)), (qa, .inl (ty 0, P, .inl (kN Q))), (ta, .inl (ty 2, M, .inl t)), (h2, .inr (1, [.int (nI W), .int (nI H), .int (nI L), .ref sb, .ref qb, .ref tb, .int (qn2)])), (sb, .inl (ty 0, M, .inl f2))] (kV (fun u => u = [(h, .inr (1, [.int (nI W), .int (nI H), .int (nI L), .ref sa, .ref qa, .ref ta, .int (qn0)])), (sa, .inl (ty 0, M, .inl f)), (qa, .inl (ty 0, P, .inl (kN Q))), (ta, .inl (ty 2, M, .inl (ktorn f f2 M (kfill (fun _ => 0) t M) M))), (h2, .inr (1, [.int (nI W), .int (nI H), .int (nI L), .ref sb, .ref qb, .ref tb, .int (qn2)])), (sb, .inl (ty 0, M, .inl f2))])) 0 0 := by
  refine KM.of (cc := cX1_markTorn) (maxL := 3) (ret := none) (lv := [(0, .ref h), (1, .ref h2)]) (by decide +kernel) rfl rfl rfl (fun X C0 R0 => ?_)
  have Cx : kC X cX1_markTorn wsX1_markTorn RX1 { frames := 1, cells := 0, slots := 0, locals := 40 } "markTorn" l D ty 3 := C0
  refine j_iconst (pc' := 1) (v := (nI 0)) Cx dX1_markTorn_0 rfl (by decide) ?_
  refine j_istore_n (pc' := 2) (lv' := [(0, .ref h), (1, .ref h2), (2, .int (nI 0))]) Cx dX1_markTorn_1 rfl rfl (by decide) rfl ?_
  have LP : ∀ (LP_n : Nat), ∀ (i : Nat), (M - i < LP_n) → (i ≤ M) → J X [(h, .inr (1, [.int (nI W), .int (nI H), .int (nI L), .ref sa, .ref qa, .ref ta, .int (qn0)])), (sa, .inl (ty 0, M, .inl f)), (qa, .inl (ty 0, P, .inl (kN Q))), (ta, .inl (ty 2, M, .inl (ktorn f f2 M (kfill (fun _ => 0) t M) i))), (h2, .inr (1, [.int (nI W), .int (nI H), .int (nI L), .ref sb, .ref qb, .ref tb, .int (qn2)])), (sb, .inl (ty 0, M, .inl f2))] [(0, .ref h), (1, .ref h2), (2, .int (nI i))] 26 [] 0 0 := by
    intro LP_n
    induction LP_n with
    | zero =>
      intro i hms _
      exact absurd hms (Nat.not_lt_zero _)
    | succ LP_n LP_ih =>
      intro i LP_m hle
      refine j_iload_n (pc' := 27) Cx dX1_markTorn_26 rfl rfl rfl ?_
      refine j_aload_n (pc' := 28) Cx dX1_markTorn_27 rfl rfl rfl ?_
      refine j_get (pc' := 31) (N := 7) Cx dX1_markTorn_28 rfl kin_X1_markTorn_X1 kfl_X1_markTorn_21 0 rfl rfl 3 rfl rfl rfl ?_
      refine j_alen (pc' := 32) (v := nI M) Cx dX1_markTorn_31 rfl 1 rfl rfl rfl ?_
      refine j_icmp_ge_n (tgt := 85) (pc' := 35) Cx dX1_markTorn_32 (by decide) rfl (by omega) (by omega) (fun hi => ?_) (fun hi => ?_)
      · have e : i = M := by omega
        exact j_vret Cx dX1_markTorn_85 R0 ⟨Nat.le_of_ble_eq_true rfl, Nat.le_of_ble_eq_true rfl⟩ (⟨rfl, by rw [e]⟩)
      · refine j_iload_n (pc' := 36) Cx dX1_markTorn_35 rfl rfl rfl ?_
        refine j_aload_n (pc' := 37) Cx dX1_markTorn_36 rfl rfl rfl ?_
        refine j_get (pc' := 40) (N := 7) Cx dX1_markTorn_37 rfl kin_X1_markTorn_X1 kfl_X1_markTorn_21 4 rfl rfl 3 rfl rfl rfl ?_
        refine j_alen (pc' := 41) (v := nI M) Cx dX1_markTorn_40 rfl 5 rfl rfl rfl ?_
        refine j_icmp_ge_n (tgt := 85) (pc' := 44) Cx dX1_markTorn_41 (by decide) rfl (by omega) (by omega) (fun hh => absurd hh (by omega)) (fun _ => ?_)
        refine j_aload_n (pc' := 45) Cx dX1_markTorn_44 rfl rfl rfl ?_
        refine j_get (pc' := 48) (N := 7) Cx dX1_markTorn_45 rfl kin_X1_markTorn_X1 kfl_X1_markTorn_21 0 rfl rfl 3 rfl rfl rfl ?_
        refine j_iload_n (pc' := 49) Cx dX1_markTorn_48 rfl rfl rfl ?_
        refine j_iaload_n (pc' := 50) Cx dX1_markTorn_49 rfl 1 rfl (by omega) (by omega) ?_
        refine j_aload_n (pc' := 51) Cx dX1_markTorn_50 rfl rfl rfl ?_
        refine j_get (pc' := 54) (N := 7) Cx dX1_markTorn_51 rfl kin_X1_markTorn_X1 kfl_X1_markTorn_21 4 rfl rfl 3 rfl rfl rfl ?_
        refine j_iload_n (pc' := 55) Cx dX1_markTorn_54 rfl rfl rfl ?_
        refine j_iaload_n (pc' := 56) Cx dX1_markTorn_55 rfl 5 rfl (by omega) (by omega) ?_
        refine j_icmp_eq (tgt := 79) (pc' := 59) Cx dX1_markTorn_56 (by decide) rfl (fun hc => ?_) (fun hc => ?_)
        · refine j_iinc_n (pc' := 82) (z := 1) (a := i) (lv' := [(0, .ref h), (1, .ref h2), (2, .int (nI (i + 1)))]) Cx dX1_markTorn_79 rfl rfl (by decide) rfl ?_
          refine j_goto (tgt := 26) Cx dX1_markTorn_82 (by decide) ?_
          refine J.cast (ws' := [(h, .inr (1, [.int (nI W), .int (nI H), .int (nI L), .ref sa, .ref qa, .ref ta, .int (qn0)])), (sa, .inl (ty 0, M, .inl f)), (qa, .inl (ty 0, P, .inl (kN Q))), (ta, .inl (ty 2, M, .inl (ktorn f f2 M (kfill (fun _ => 0) t M) (i + 1)))), (h2, .inr (1, [.int (nI W), .int (nI H), .int (nI L), .ref sb, .ref qb, .ref tb, .int (qn2)])), (sb, .inl (ty 0, M, .inl f2))]) (lv' := [(0, .ref h), (1, .ref h2), (2, .int (nI (i + 1)))]) (pc' := 26) (st' := []) (by rw [show ktorn f f2 M (kfill (fun _ => 0) t M) (i + 1) = ktorn f f2 M (kfill (fun _ => 0) t M) i from if_pos hc]) (rfl) rfl (rfl) rfl rfl ?_
          exact LP_ih (i + 1) (by omega) (by omega)
        · refine j_aload_n (pc' := 60) Cx dX1_markTorn_59 rfl rfl rfl ?_
          refine j_aload_n (pc' := 61) Cx dX1_markTorn_60 rfl rfl rfl ?_
          refine j_get (pc' := 64) (N := 7) Cx dX1_markTorn_61 rfl kin_X1_markTorn_X1 kfl_X1_markTorn_21 0 rfl rfl 3 rfl rfl rfl ?_
          refine j_iload_n (pc' := 65) Cx dX1_markTorn_64 rfl rfl rfl ?_
          refine j_iaload_n (pc' := 66) Cx dX1_markTorn_65 rfl 1 rfl (by omega) (by omega) ?_
          refine j_callV (pc' := 69) (wr := [(sa, .inl (ty 0, M, .inl f)), (qa, .inl (ty 0, P, .inl (kN Q))), (h2, .inr (1, [.int (nI W), .int (nI H), .int (nI L), .ref sb, .ref qb, .ref tb, .int (qn2)])), (sb, .inl (ty 0, M, .inl f2))]) (st := []) Cx dX1_markTorn_66 rfl (c_X1_tear l D ty h sa qa ta W H L M (ktorn f f2 M (kfill (fun _ => 0) t M) i) qn0 (f i) hM) gX1_markTorn_X1_tear rfl khd_X1_tear rfl ⟨rfl, rfl, Nat.le_of_ble_eq_true rfl, Nat.le_of_ble_eq_true rfl⟩ [0, 3] [1, 2, 4, 5] rfl rfl ⟨rfl, rfl⟩ (by decide) 0 rfl rfl rfl (Nat.le_of_ble_eq_true rfl) ⟨Nat.le_of_ble_eq_true rfl, Nat.le_of_ble_eq_true rfl⟩ (fun v u hpost => ?_)
          obtain ⟨rfl, rfl⟩ := hpost
          show J X [(sa, .inl (ty 0, M, .inl f)), (qa, .inl (ty 0, P, .inl (kN Q))), (h2, .inr (1, [.int (nI W), .int (nI H), .int (nI L), .ref sb, .ref qb, .ref tb, .int (qn2)])), (sb, .inl (ty 0, M, .inl f2)), (h, .inr (1, [.int (nI W), .int (nI H), .int (nI L), .ref sa, .ref qa, .ref ta, .int (qn0)])), (ta, .inl (ty 2, M, .inl (ktear M (f i) (ktorn f f2 M (kfill (fun _ => 0) t M) i))))] [(0, .ref h), (1, .ref h2), (2, .int (nI i))] 69 [] 0 0
          refine J.sub (ws' := [(h, .inr (1, [.int (nI W), .int (nI H), .int (nI L), .ref sa, .ref qa, .ref ta, .int (qn0)])), (sa, .inl (ty 0, M, .inl f)), (qa, .inl (ty 0, P, .inl (kN Q))), (ta, .inl (ty 2, M, .inl (ktear M (f i) (ktorn f f2 M (kfill (fun _ => 0) t M) i)))), (h2, .inr (1, [.int (nI W), .int (nI H), .int (nI L), .ref sb, .ref qb, .ref tb, .int (qn2)])), (sb, .inl (ty 0, M, .inl f2))]) [4, 0, 1, 5, 2, 3] rfl rfl ?_
          refine j_aload_n (pc' := 70) Cx dX1_markTorn_69 rfl rfl rfl ?_
          refine j_aload_n (pc' := 71) Cx dX1_markTorn_70 rfl rfl rfl ?_
          refine j_get (pc' := 74) (N := 7) Cx dX1_markTorn_71 rfl kin_X1_markTorn_X1 kfl_X1_markTorn_21 4 rfl rfl 3 rfl rfl rfl ?_
          refine j_iload_n (pc' := 75) Cx dX1_markTorn_74 rfl rfl rfl ?_
          refine j_iaload_n (pc' := 76) Cx dX1_markTorn_75 rfl 5 rfl (by omega) (by omega) ?_
          refine j_callV (pc' := 79) (wr := [(sa, .inl (ty 0, M, .inl f)), (qa, .inl (ty 0, P, .inl (kN Q))), (h2, .inr (1, [.int (nI W), .int (nI H), .int (nI L), .ref sb, .ref qb, .ref tb, .int (qn2)])), (sb, .inl (ty 0, M, .inl f2))]) (st := []) Cx dX1_markTorn_76 rfl (c_X1_tear l D ty h sa qa ta W H L M (ktear M (f i) (ktorn f f2 M (kfill (fun _ => 0) t M) i)) qn0 (f2 i) hM) gX1_markTorn_X1_tear rfl khd_X1_tear rfl ⟨rfl, rfl, Nat.le_of_ble_eq_true rfl, Nat.le_of_ble_eq_true rfl⟩ [0, 3] [1, 2, 4, 5] rfl rfl ⟨rfl, rfl⟩ (by decide) 0 rfl rfl rfl (Nat.le_of_ble_eq_true rfl) ⟨Nat.le_of_ble_eq_true rfl, Nat.le_of_ble_eq_true rfl⟩ (fun v u hpost => ?_)
          obtain ⟨rfl, rfl⟩ := hpost
          show J X [(sa, .inl (ty 0, M, .inl f)), (qa, .inl (ty 0, P, .inl (kN Q))), (h2, .inr (1, [.int (nI W), .int (nI H), .int (nI L), .ref sb, .ref qb, .ref tb, .int (qn2)])), (sb, .inl (ty 0, M, .inl f2)), (h, .inr (1, [.int (nI W), .int (nI H), .int (nI L), .ref sa, .ref qa, .ref ta, .int (qn0)])), (ta, .inl (ty 2, M, .inl (ktear M (f2 i) (ktear M (f i) (ktorn f f2 M (kfill (fun _ => 0) t M) i)))))] [(0, .ref h), (1, .ref h2), (2, .int (nI i))] 79 [] 0 0
          refine J.sub (ws' := [(h, .inr (1, [.int (nI W), .int (nI H), .int (nI L), .ref sa, .ref qa, .ref ta, .int (qn0)])), (sa, .inl (ty 0, M, .inl f)), (qa, .inl (ty 0, P, .inl (kN Q))), (ta, .inl (ty 2, M, .inl (ktear M (f2 i) (ktear M (f i) (ktorn f f2 M (kfill (fun _ => 0) t M) i))))), (h2, .inr (1, [.int (nI W), .int (nI H), .int (nI L), .ref sb, .ref qb, .ref tb, .int (qn2)])), (sb, .inl (ty 0, M, .inl f2))]) [4, 0, 1, 5, 2, 3] rfl rfl ?_
          refine j_iinc_n (pc' := 82) (z := 1) (a := i) (lv' := [(0, .ref h), (1, .ref h2), (2, .int (nI (i + 1)))]) Cx dX1_markTorn_79 rfl rfl (by decide) rfl ?_
          refine j_goto (tgt := 26) Cx dX1_markTorn_82 (by decide) ?_
          refine J.cast (ws' := [(h, .inr (1, [.int (nI W), .int (nI H), .int (nI L), .ref sa, .ref qa, .ref ta, .int (qn0)])), (sa, .inl (ty 0, M, .inl f)), (qa, .inl (ty 0, P, .inl (kN Q))), (ta, .inl (ty 2, M, .inl (ktorn f f2 M (kfill (fun _ => 0) t M) (i + 1)))), (h2, .inr (1, [.int (nI W), .int (nI H), .int (nI L), .ref sb, .ref qb, .ref tb, .int (qn2)])), (sb, .inl (ty 0, M, .inl f2))]) (lv' := [(0, .ref h), (1, .ref h2), (2, .int (nI (i + 1)))]) (pc' := 26) (st' := []) (by rw [show ktorn f f2 M (kfill (fun _ => 0) t M) (i + 1) = ktear M (f2 i) (ktear M (f i) (ktorn f f2 M (kfill (fun _ => 0) t M) i)) from if_neg hc]) (rfl) rfl (rfl) rfl rfl ?_
          exact LP_ih (i + 1) (by omega) (by omega)
  have LR : ∀ (LR_n : Nat), ∀ (i : Nat), (M - i < LR_n) → (i ≤ M) → J X [(h, .inr (1, [.int (nI W), .int (nI H), .int (nI L), .ref sa, .ref qa, .ref ta, .int (qn0)])), (sa, .inl (ty 0, M, .inl f)), (qa, .inl (ty 0, P, .inl (kN Q))), (ta, .inl (ty 2, M, .inl (kfill (fun _ => 0) t i))), (h2, .inr (1, [.int (nI W), .int (nI H), .int (nI L), .ref sb, .ref qb, .ref tb, .int (qn2)])), (sb, .inl (ty 0, M, .inl f2))] [(0, .ref h), (1, .ref h2), (2, .int (nI i))] 2 [] 0 0 := by
    intro LR_n
    induction LR_n with
    | zero =>
      intro i hms _
      exact absurd hms (Nat.not_lt_zero _)
    | succ LR_n LR_ih =>
      intro i LR_m hli
      refine j_iload_n (pc' := 3) Cx dX1_markTorn_2 rfl rfl rfl ?_
      refine j_aload_n (pc' := 4) Cx dX1_markTorn_3 rfl rfl rfl ?_
      refine j_get (pc' := 7) (N := 7) Cx dX1_markTorn_4 rfl kin_X1_markTorn_X1 kfl_X1_markTorn_28 0 rfl rfl 5 rfl rfl rfl ?_
      refine j_alen (pc' := 8) (v := nI M) Cx dX1_markTorn_7 rfl 3 rfl rfl rfl ?_
      refine j_icmp_ge_n (tgt := 24) (pc' := 11) Cx dX1_markTorn_8 (by decide) rfl (by omega) (by omega) (fun hi => ?_) (fun hi => ?_)
      · have e : i = M := by omega
        subst e
        refine j_iconst (pc' := 25) (v := (nI 0)) Cx dX1_markTorn_24 rfl (by decide) ?_
        refine j_istore_n (pc' := 26) (lv' := [(0, .ref h), (1, .ref h2), (2, .int (nI 0))]) Cx dX1_markTorn_25 rfl rfl (by decide) rfl ?_
        exact LP (i + 1) 0 (by omega) (Nat.zero_le i)
      · refine j_aload_n (pc' := 12) Cx dX1_markTorn_11 rfl rfl rfl ?_
        refine j_get (pc' := 15) (N := 7) Cx dX1_markTorn_12 rfl kin_X1_markTorn_X1 kfl_X1_markTorn_28 0 rfl rfl 5 rfl rfl rfl ?_
        refine j_iload_n (pc' := 16) Cx dX1_markTorn_15 rfl rfl rfl ?_
        refine j_iconst (pc' := 17) (v := (nI 0)) Cx dX1_markTorn_16 rfl (by decide) ?_
        refine j_zastore_n (pc' := 18) (ws' := [(h, .inr (1, [.int (nI W), .int (nI H), .int (nI L), .ref sa, .ref qa, .ref ta, .int (qn0)])), (sa, .inl (ty 0, M, .inl f)), (qa, .inl (ty 0, P, .inl (kN Q))), (ta, .inl (ty 2, M, .inl (va_up (kfill (fun _ => 0) t i) i (nI 0)))), (h2, .inr (1, [.int (nI W), .int (nI H), .int (nI L), .ref sb, .ref qb, .ref tb, .int (qn2)])), (sb, .inl (ty 0, M, .inl f2))]) Cx dX1_markTorn_17 rfl 3 rfl (rfl) (by omega) (by omega) rfl ?_
        refine j_iinc_n (pc' := 21) (z := 1) (a := i) (lv' := [(0, .ref h), (1, .ref h2), (2, .int (nI (i + 1)))]) Cx dX1_markTorn_18 rfl rfl (by decide) rfl ?_
        refine j_goto (tgt := 2) Cx dX1_markTorn_21 (by decide) ?_
        refine J.cast (ws' := [(h, .inr (1, [.int (nI W), .int (nI H), .int (nI L), .ref sa, .ref qa, .ref ta, .int (qn0)])), (sa, .inl (ty 0, M, .inl f)), (qa, .inl (ty 0, P, .inl (kN Q))), (ta, .inl (ty 2, M, .inl (kfill (fun _ => 0) t (i + 1)))), (h2, .inr (1, [.int (nI W), .int (nI H), .int (nI L), .ref sb, .ref qb, .ref tb, .int (qn2)])), (sb, .inl (ty 0, M, .inl f2))]) (lv' := [(0, .ref h), (1, .ref h2), (2, .int (nI (i + 1)))]) (pc' := 2) (st' := []) (by rw [← kfill_up (fun _ => (0 : Int32)) t i]; rfl) (rfl) rfl (rfl) rfl rfl ?_
        exact LR_ih (i + 1) (by omega) (by omega)
  refine J.cast (ws' := [(h, .inr (1, [.int (nI W), .int (nI H), .int (nI L), .ref sa, .ref qa, .ref ta, .int (qn0)])), (sa, .inl (ty 0, M, .inl f)), (qa, .inl (ty 0, P, .inl (kN Q))), (ta, .inl (ty 2, M, .inl (kfill (fun _ => 0) t 0))), (h2, .inr (1, [.int (nI W), .int (nI H), .int (nI L), .ref sb, .ref qb, .ref tb, .int (qn2)])), (sb, .inl (ty 0, M, .inl f2))]) (lv' := [(0, .ref h), (1, .ref h2), (2, .int (nI 0))]) (pc' := 2) (st' := []) (by rw [kfill_0]) (rfl) rfl (rfl) rfl rfl ?_
  exact LR (M + 1) 0 (by omega) (Nat.zero_le M)

set_option maxHeartbeats 4000000 in
set_option maxRecDepth 100000 in
/-- Parts.countAlsoIn -/
theorem c_X1_countAlsoIn (l : Launch) (D : va_G) (ty : Nat → ClassId) (h sa qa ta W H L M P : Nat) (f : Nat → Int32) (Q : Nat → Nat) (t : Nat → Int32) (qn0 : Int32) (h2 sb qb tb : Nat) (f2 : Nat → Int32) (qn2 : Int32) (hM : M ≤ 676) : KM l yX1_countAlsoIn wsX1_countAlsoIn { frames := 2, cells := 0, slots := 0, locals := 80 } D ty [.ref h, .ref h2] [(h, .inr (1, [.int (nI W), .int (nI H), .int (nI L), .ref sa, .ref qa, .ref ta, .int (qn0)])), (sa, .inl (ty 0, M, .inl f)), (qa, .inl (ty 0, P, .inl (kN Q))), (ta, .inl (ty 2, M, .inl t)), (h2, .inr (1, [.int (nI W), .int (nI H), .int (nI L), .ref sb, .ref qb, .ref tb, .int (qn2)])), (sb, .inl (ty 0, M, .inl f2))] (kI (fun r u => r = nI (kct (fun q => decide (f q = nI q) && decide ((ktorn f f2 M (kfill (fun _ => 0) t M) M) q = 0)) M) ∧ u = [(h, .inr (1, [.int (nI W), .int (nI H), .int (nI L), .ref sa, .ref qa, .ref ta, .int (qn0)])), (sa, .inl (ty 0, M, .inl f)), (qa, .inl (ty 0, P, .inl (kN Q))), (ta, .inl (ty 2, M, .inl (ktorn f f2 M (kfill (fun _ => 0) t M) M))), (h2, .inr (1, [.int (nI W), .int (nI H), .int (nI L), .ref sb, .ref qb, .ref tb, .int (qn2)])), (sb, .inl (ty 0, M, .inl f2))])) 0 0 := by
  refine KM.of (cc := cX1_countAlsoIn) (maxL := 4) (ret := (some .int)) (lv := [(0, .ref h), (1, .ref h2)]) (by decide +kernel) rfl rfl rfl (fun X C0 R0 => ?_)
  have Cx : kC X cX1_countAlsoIn wsX1_countAlsoIn RX1 { frames := 2, cells := 0, slots := 0, locals := 80 } "countAlsoIn" l D ty 4 := C0
  refine j_aload_n (pc' := 1) Cx dX1_countAlsoIn_0 rfl rfl rfl ?_
  refine j_aload_n (pc' := 2) Cx dX1_countAlsoIn_1 rfl rfl rfl ?_
  refine j_callV (pc' := 5) (wr := []) (st := []) Cx dX1_countAlsoIn_2 rfl (c_X1_markTorn l D ty h sa qa ta W H L M P f Q t qn0 h2 sb qb tb f2 qn2 hM) gX1_countAlsoIn_X1_markTorn rfl khd_X1_markTorn rfl ⟨rfl, rfl, Nat.le_of_ble_eq_true rfl, Nat.le_of_ble_eq_true rfl⟩ [0, 1, 2, 3, 4, 5] [] rfl rfl ⟨rfl, rfl⟩ (by decide) 0 rfl rfl rfl (Nat.le_of_ble_eq_true rfl) ⟨Nat.le_of_ble_eq_true rfl, Nat.le_of_ble_eq_true rfl⟩ (fun v u hpost => ?_)
  obtain ⟨rfl, rfl⟩ := hpost
  show J X [(h, .inr (1, [.int (nI W), .int (nI H), .int (nI L), .ref sa, .ref qa, .ref ta, .int (qn0)])), (sa, .inl (ty 0, M, .inl f)), (qa, .inl (ty 0, P, .inl (kN Q))), (ta, .inl (ty 2, M, .inl (ktorn f f2 M (kfill (fun _ => 0) t M) M))), (h2, .inr (1, [.int (nI W), .int (nI H), .int (nI L), .ref sb, .ref qb, .ref tb, .int (qn2)])), (sb, .inl (ty 0, M, .inl f2))] [(0, .ref h), (1, .ref h2)] 5 [] 0 0
  generalize (ktorn f f2 M (kfill (fun _ => 0) t M) M) = T at R0 ⊢
  refine j_iconst (pc' := 6) (v := (nI 0)) Cx dX1_countAlsoIn_5 rfl (by decide) ?_
  refine j_istore_n (pc' := 7) (lv' := [(0, .ref h), (1, .ref h2), (2, .int (nI 0))]) Cx dX1_countAlsoIn_6 rfl rfl (by decide) rfl ?_
  refine j_iconst (pc' := 8) (v := (nI 0)) Cx dX1_countAlsoIn_7 rfl (by decide) ?_
  refine j_istore_n (pc' := 9) (lv' := [(0, .ref h), (1, .ref h2), (2, .int (nI 0)), (3, .int (nI 0))]) Cx dX1_countAlsoIn_8 rfl rfl (by decide) rfl ?_
  have LP : ∀ (LP_n : Nat), ∀ (i : Nat), (M - i < LP_n) → (i ≤ M) → J X [(h, .inr (1, [.int (nI W), .int (nI H), .int (nI L), .ref sa, .ref qa, .ref ta, .int (qn0)])), (sa, .inl (ty 0, M, .inl f)), (qa, .inl (ty 0, P, .inl (kN Q))), (ta, .inl (ty 2, M, .inl T)), (h2, .inr (1, [.int (nI W), .int (nI H), .int (nI L), .ref sb, .ref qb, .ref tb, .int (qn2)])), (sb, .inl (ty 0, M, .inl f2))] [(0, .ref h), (1, .ref h2), (2, .int (nI (kct (fun q => decide (f q = nI q) && decide (T q = 0)) i))), (3, .int (nI i))] 9 [] 0 0 := by
    intro LP_n
    induction LP_n with
    | zero =>
      intro i hms _
      exact absurd hms (Nat.not_lt_zero _)
    | succ LP_n LP_ih =>
      intro i LP_m hle
      have hk := kct_le (fun q => decide (f q = nI q) && decide (T q = 0)) i
      refine j_iload_n (pc' := 10) Cx dX1_countAlsoIn_9 rfl rfl rfl ?_
      refine j_aload_n (pc' := 11) Cx dX1_countAlsoIn_10 rfl rfl rfl ?_
      refine j_get (pc' := 14) (N := 7) Cx dX1_countAlsoIn_11 rfl kin_X1_countAlsoIn_X1 kfl_X1_countAlsoIn_21 0 rfl rfl 3 rfl rfl rfl ?_
      refine j_alen (pc' := 15) (v := nI M) Cx dX1_countAlsoIn_14 rfl 1 rfl rfl rfl ?_
      refine j_icmp_ge_n (tgt := 55) (pc' := 18) Cx dX1_countAlsoIn_15 (by decide) rfl (by omega) (by omega) (fun hi => ?_) (fun hi => ?_)
      · have e : i = M := by omega
        subst e
        refine j_iload_n (pc' := 56) Cx dX1_countAlsoIn_55 rfl rfl rfl ?_
        exact j_iret Cx dX1_countAlsoIn_56 R0 ⟨Nat.le_of_ble_eq_true rfl, Nat.le_of_ble_eq_true rfl⟩ (⟨_, rfl, rfl, rfl⟩)
      · refine j_iload_n (pc' := 19) Cx dX1_countAlsoIn_18 rfl rfl rfl ?_
        refine j_aload_n (pc' := 20) Cx dX1_countAlsoIn_19 rfl rfl rfl ?_
        refine j_get (pc' := 23) (N := 7) Cx dX1_countAlsoIn_20 rfl kin_X1_countAlsoIn_X1 kfl_X1_countAlsoIn_28 0 rfl rfl 5 rfl rfl rfl ?_
        refine j_alen (pc' := 24) (v := nI M) Cx dX1_countAlsoIn_23 rfl 3 rfl rfl rfl ?_
        refine j_icmp_ge_n (tgt := 55) (pc' := 27) Cx dX1_countAlsoIn_24 (by decide) rfl (by omega) (by omega) (fun hh => absurd hh (by omega)) (fun _ => ?_)
        refine j_aload_n (pc' := 28) Cx dX1_countAlsoIn_27 rfl rfl rfl ?_
        refine j_get (pc' := 31) (N := 7) Cx dX1_countAlsoIn_28 rfl kin_X1_countAlsoIn_X1 kfl_X1_countAlsoIn_21 0 rfl rfl 3 rfl rfl rfl ?_
        refine j_iload_n (pc' := 32) Cx dX1_countAlsoIn_31 rfl rfl rfl ?_
        refine j_iaload_n (pc' := 33) Cx dX1_countAlsoIn_32 rfl 1 rfl (by omega) (by omega) ?_
        refine j_iload_n (pc' := 34) Cx dX1_countAlsoIn_33 rfl rfl rfl ?_
        refine j_icmp_ne (tgt := 49) (pc' := 37) Cx dX1_countAlsoIn_34 (by decide) rfl (fun hc => ?_) (fun hc => ?_)
        · refine j_iinc_n (pc' := 52) (z := 1) (a := i) (lv' := [(0, .ref h), (1, .ref h2), (2, .int (nI (kct (fun q => decide (f q = nI q) && decide (T q = 0)) i))), (3, .int (nI (i + 1)))]) Cx dX1_countAlsoIn_49 rfl rfl (by decide) rfl ?_
          refine j_goto (tgt := 9) Cx dX1_countAlsoIn_52 (by decide) ?_
          refine J.cast (ws' := [(h, .inr (1, [.int (nI W), .int (nI H), .int (nI L), .ref sa, .ref qa, .ref ta, .int (qn0)])), (sa, .inl (ty 0, M, .inl f)), (qa, .inl (ty 0, P, .inl (kN Q))), (ta, .inl (ty 2, M, .inl T)), (h2, .inr (1, [.int (nI W), .int (nI H), .int (nI L), .ref sb, .ref qb, .ref tb, .int (qn2)])), (sb, .inl (ty 0, M, .inl f2))]) (lv' := [(0, .ref h), (1, .ref h2), (2, .int (nI (kct (fun q => decide (f q = nI q) && decide (T q = 0)) (i + 1)))), (3, .int (nI (i + 1)))]) (pc' := 9) (st' := []) (rfl) (by rw [kct_no (p := (fun q => decide (f q = nI q) && decide (T q = 0))) (by simp only [Bool.and_eq_false_iff]; exact Or.inl (decide_eq_false hc))]) rfl (rfl) rfl rfl ?_
          exact LP_ih (i + 1) (by omega) (by omega)
        · refine j_aload_n (pc' := 38) Cx dX1_countAlsoIn_37 rfl rfl rfl ?_
          refine j_get (pc' := 41) (N := 7) Cx dX1_countAlsoIn_38 rfl kin_X1_countAlsoIn_X1 kfl_X1_countAlsoIn_28 0 rfl rfl 5 rfl rfl rfl ?_
          refine j_iload_n (pc' := 42) Cx dX1_countAlsoIn_41 rfl rfl rfl ?_
          refine j_zaload_n (pc' := 43) Cx dX1_countAlsoIn_42 rfl 3 rfl (by omega) (by omega) ?_
          refine j_if_ne (tgt := 49) (pc' := 46) Cx dX1_countAlsoIn_43 (by decide) rfl (fun hd => ?_) (fun hd => ?_)
          · refine j_iinc_n (pc' := 52) (z := 1) (a := i) (lv' := [(0, .ref h), (1, .ref h2), (2, .int (nI (kct (fun q => decide (f q = nI q) && decide (T q = 0)) i))), (3, .int (nI (i + 1)))]) Cx dX1_countAlsoIn_49 rfl rfl (by decide) rfl ?_
            refine j_goto (tgt := 9) Cx dX1_countAlsoIn_52 (by decide) ?_
            refine J.cast (ws' := [(h, .inr (1, [.int (nI W), .int (nI H), .int (nI L), .ref sa, .ref qa, .ref ta, .int (qn0)])), (sa, .inl (ty 0, M, .inl f)), (qa, .inl (ty 0, P, .inl (kN Q))), (ta, .inl (ty 2, M, .inl T)), (h2, .inr (1, [.int (nI W), .int (nI H), .int (nI L), .ref sb, .ref qb, .ref tb, .int (qn2)])), (sb, .inl (ty 0, M, .inl f2))]) (lv' := [(0, .ref h), (1, .ref h2), (2, .int (nI (kct (fun q => decide (f q = nI q) && decide (T q = 0)) (i + 1)))), (3, .int (nI (i + 1)))]) (pc' := 9) (st' := []) (rfl) (by rw [kct_no (p := (fun q => decide (f q = nI q) && decide (T q = 0))) (by simp only [Bool.and_eq_false_iff]; exact Or.inr (decide_eq_false hd))]) rfl (rfl) rfl rfl ?_
            exact LP_ih (i + 1) (by omega) (by omega)
          · refine j_iinc_n (pc' := 49) (z := 1) (a := (kct (fun q => decide (f q = nI q) && decide (T q = 0)) i)) (lv' := [(0, .ref h), (1, .ref h2), (2, .int (nI (kct (fun q => decide (f q = nI q) && decide (T q = 0)) i + 1))), (3, .int (nI i))]) Cx dX1_countAlsoIn_46 rfl rfl (by decide) rfl ?_
            refine j_iinc_n (pc' := 52) (z := 1) (a := i) (lv' := [(0, .ref h), (1, .ref h2), (2, .int (nI (kct (fun q => decide (f q = nI q) && decide (T q = 0)) i + 1))), (3, .int (nI (i + 1)))]) Cx dX1_countAlsoIn_49 rfl rfl (by decide) rfl ?_
            refine j_goto (tgt := 9) Cx dX1_countAlsoIn_52 (by decide) ?_
            refine J.cast (ws' := [(h, .inr (1, [.int (nI W), .int (nI H), .int (nI L), .ref sa, .ref qa, .ref ta, .int (qn0)])), (sa, .inl (ty 0, M, .inl f)), (qa, .inl (ty 0, P, .inl (kN Q))), (ta, .inl (ty 2, M, .inl T)), (h2, .inr (1, [.int (nI W), .int (nI H), .int (nI L), .ref sb, .ref qb, .ref tb, .int (qn2)])), (sb, .inl (ty 0, M, .inl f2))]) (lv' := [(0, .ref h), (1, .ref h2), (2, .int (nI (kct (fun q => decide (f q = nI q) && decide (T q = 0)) (i + 1)))), (3, .int (nI (i + 1)))]) (pc' := 9) (st' := []) (rfl) (by rw [← kct_yes (p := (fun q => decide (f q = nI q) && decide (T q = 0))) (by simp only [Bool.and_eq_true]; exact ⟨decide_eq_true hc, decide_eq_true hd⟩)]) rfl (rfl) rfl rfl ?_
            exact LP_ih (i + 1) (by omega) (by omega)
  refine J.cast (ws' := [(h, .inr (1, [.int (nI W), .int (nI H), .int (nI L), .ref sa, .ref qa, .ref ta, .int (qn0)])), (sa, .inl (ty 0, M, .inl f)), (qa, .inl (ty 0, P, .inl (kN Q))), (ta, .inl (ty 2, M, .inl T)), (h2, .inr (1, [.int (nI W), .int (nI H), .int (nI L), .ref sb, .ref qb, .ref tb, .int (qn2)])), (sb, .inl (ty 0, M, .inl f2))]) (lv' := [(0, .ref h), (1, .ref h2), (2, .int (nI (kct (fun q => decide (f q = nI q) && decide (T q = 0)) 0))), (3, .int (nI 0))]) (pc' := 9) (st' := []) (rfl) (rfl) rfl (rfl) rfl rfl ?_
  exact LP (M + 1) 0 (by omega) (Nat.zero_le M)
