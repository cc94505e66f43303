set_option maxHeartbeats 4000000 in
set_option maxRecDepth 100000 in
/-- Picture.replace: the sample before; the new one stands -/
theorem c_X2_replace (l : Launch) (D : va_G) (ty : Nat → ClassId) (h a : Nat) (C N p c v : Nat) (F : Nat → Nat) (hN : N ≤ 1728) (hi : p * C + c < N) : KM l yX2_replace wsX2_replace { frames := 0, cells := 0, slots := 0, locals := 0 } D ty [.ref h, .int (nI p), .int (nI c), .int (nI v)] [(h, .inr (2, [.int (nI C), .ref a])), (a, .inl (ty 0, N, .inl (kN F)))] (kI (fun r u => r = nI (F (p * C + c)) ∧ u = [(h, .inr (2, [.int (nI C), .ref a])), (a, .inl (ty 0, N, .inl (kN (va_up F (p * C + c) v))))])) 0 0 := by
  refine KM.of (cc := cX2_replace) (maxL := 6) (ret := (some .int)) (lv := [(0, .ref h), (1, .int (nI p)), (2, .int (nI c)), (3, .int (nI v))]) (by decide +kernel) rfl rfl rfl (fun X C0 R0 => ?_)
  have Cx : kC X cX2_replace wsX2_replace RX2 { frames := 0, cells := 0, slots := 0, locals := 0 } "replace" l D ty 6 := C0
  refine j_iload_n (pc' := 1) Cx dX2_replace_0 rfl rfl rfl ?_
  refine j_aload_n (pc' := 2) Cx dX2_replace_1 rfl rfl rfl ?_
  refine j_get (pc' := 5) (N := 2) Cx dX2_replace_2 rfl kin_X2_replace_X2 kfl_X2_replace_9 0 rfl rfl 0 rfl rfl rfl ?_
  refine j_imul_n (pc' := 6) Cx dX2_replace_5 rfl ?_
  refine j_iload_n (pc' := 7) Cx dX2_replace_6 rfl rfl rfl ?_
  refine j_iadd_n (pc' := 8) Cx dX2_replace_7 rfl ?_
  refine j_istore (pc' := 10) (lv' := [(0, .ref h), (1, .int (nI p)), (2, .int (nI c)), (3, .int (nI v)), (4, .int (nI ((p * C) + c)))]) Cx dX2_replace_8 rfl (by decide) rfl ?_
  refine j_iload (pc' := 12) Cx dX2_replace_10 rfl rfl ?_
  refine j_if_lt_n (tgt := 25) (pc' := 15) Cx dX2_replace_12 (by decide) rfl (by omega) ?_
  refine j_iload (pc' := 17) Cx dX2_replace_15 rfl rfl ?_
  refine j_aload_n (pc' := 18) Cx dX2_replace_17 rfl rfl rfl ?_
  refine j_get (pc' := 21) (N := 2) Cx dX2_replace_18 rfl kin_X2_replace_X2 kfl_X2_replace_15 0 rfl rfl 1 rfl rfl rfl ?_
  refine j_alen (pc' := 22) (v := nI N) Cx dX2_replace_21 rfl 1 rfl rfl rfl ?_
  refine j_icmp_lt_n (tgt := 27) (pc' := 25) Cx dX2_replace_22 (by decide) rfl (by omega) (by omega) (fun _ => ?_) (fun hh => absurd hh (by omega))
  refine j_aload_n (pc' := 28) Cx dX2_replace_27 rfl rfl rfl ?_
  refine j_get (pc' := 31) (N := 2) Cx dX2_replace_28 rfl kin_X2_replace_X2 kfl_X2_replace_15 0 rfl rfl 1 rfl rfl rfl ?_
  refine j_iload (pc' := 33) Cx dX2_replace_31 rfl rfl ?_
  refine j_iaload_nn (pc' := 34) Cx dX2_replace_33 rfl 1 rfl (by omega) (by omega) ?_
  refine j_istore (pc' := 36) (lv' := [(0, .ref h), (1, .int (nI p)), (2, .int (nI c)), (3, .int (nI v)), (4, .int (nI ((p * C) + c))), (5, .int (nI (F ((p * C) + c))))]) Cx dX2_replace_34 rfl (by decide) rfl ?_
  refine j_aload_n (pc' := 37) Cx dX2_replace_36 rfl rfl rfl ?_
  refine j_get (pc' := 40) (N := 2) Cx dX2_replace_37 rfl kin_X2_replace_X2 kfl_X2_replace_15 0 rfl rfl 1 rfl rfl rfl ?_
  refine j_iload (pc' := 42) Cx dX2_replace_40 rfl rfl ?_
  refine j_iload_n (pc' := 43) Cx dX2_replace_42 rfl rfl rfl ?_
  refine j_iastore_nn (pc' := 44) (ws' := [(h, .inr (2, [.int (nI C), .ref a])), (a, .inl (ty 0, N, .inl (kN (va_up F ((p * C) + c) v))))]) Cx dX2_replace_43 rfl 1 rfl (by omega) (by omega) rfl ?_
  refine j_iload (pc' := 46) Cx dX2_replace_44 rfl rfl ?_
  exact j_iret Cx dX2_replace_46 R0 ⟨Nat.le_of_ble_eq_true rfl, Nat.le_of_ble_eq_true rfl⟩ (⟨_, rfl, rfl, rfl⟩)

set_option maxHeartbeats 4000000 in
set_option maxRecDepth 100000 in
/-- Picture.fill -/
theorem c_X2_fill (l : Launch) (D : va_G) (ty : Nat → ClassId) (h a : Nat) (C N : Nat) (F : Nat → Nat) (v step : Int32) (hF : ∀ i, F i < 256) (hN : N ≤ 1728) : KM l yX2_fill wsX2_fill { frames := 0, cells := 0, slots := 0, locals := 0 } D ty [.ref h, .int (v), .int (step)] [(h, .inr (2, [.int (nI C), .ref a])), (a, .inl (ty 0, N, .inl (kN F)))] (kI (fun r u => r = nI (kct (fun j => decide (F j ≠ lo8 (kps v step j))) N) ∧ u = [(h, .inr (2, [.int (nI C), .ref a])), (a, .inl (ty 0, N, .inl (kN (kfill (fun j => lo8 (kps v step j)) F N))))])) 0 0 := by
  refine KM.of (cc := cX2_fill) (maxL := 7) (ret := (some .int)) (lv := [(0, .ref h), (1, .int (v)), (2, .int (step))]) (by decide +kernel) rfl rfl rfl (fun X C0 R0 => ?_)
  have Cx : kC X cX2_fill wsX2_fill RX2 { frames := 0, cells := 0, slots := 0, locals := 0 } "fill" l D ty 7 := C0
  have hG : ∀ j, lo8 (kps v step j) < 256 := fun j => lo8_lt _
  refine j_iconst (pc' := 1) (v := (nI 0)) Cx dX2_fill_0 rfl (by decide) ?_
  refine j_istore_n (pc' := 2) (lv' := [(0, .ref h), (1, .int (v)), (2, .int (step)), (3, .int (nI 0))]) Cx dX2_fill_1 rfl rfl (by decide) rfl ?_
  refine j_iload_n (pc' := 3) Cx dX2_fill_2 rfl rfl rfl ?_
  refine j_istore (pc' := 5) (lv' := [(0, .ref h), (1, .int (v)), (2, .int (step)), (3, .int (nI 0)), (4, .int (v))]) Cx dX2_fill_3 rfl (by decide) rfl ?_
  refine j_iconst (pc' := 6) (v := (nI 0)) Cx dX2_fill_5 rfl (by decide) ?_
  refine j_istore (pc' := 8) (lv' := [(0, .ref h), (1, .int (v)), (2, .int (step)), (3, .int (nI 0)), (4, .int (v)), (5, .int (nI 0))]) Cx dX2_fill_6 rfl (by decide) rfl ?_
  have LP : ∀ (LP_n : Nat), ∀ (i : Nat), (N - i < LP_n) → (i ≤ N) → J X [(h, .inr (2, [.int (nI C), .ref a])), (a, .inl (ty 0, N, .inl (kN (kfill (fun j => lo8 (kps v step j)) F i))))] [(0, .ref h), (1, .int (v)), (2, .int (step)), (3, .int (nI (kct (fun j => decide (F j ≠ lo8 (kps v step j))) i))), (4, .int (kps v step i)), (5, .int (nI i))] 8 [] 0 0 := by
    intro LP_n
    induction LP_n with
    | zero =>
      intro i hms _
      exact absurd hms (Nat.not_lt_zero _)
    | succ LP_n LP_ih =>
      intro i LP_m hle
      have hk := kct_le (fun j => decide (F j ≠ lo8 (kps v step j))) i
      refine j_iload (pc' := 10) Cx dX2_fill_8 rfl rfl ?_
      refine j_aload_n (pc' := 11) Cx dX2_fill_10 rfl rfl rfl ?_
      refine j_get (pc' := 14) (N := 2) Cx dX2_fill_11 rfl kin_X2_fill_X2 kfl_X2_fill_15 0 rfl rfl 1 rfl rfl rfl ?_
      refine j_alen (pc' := 15) (v := nI N) Cx dX2_fill_14 rfl 1 rfl rfl rfl ?_
      refine j_icmp_ge_n (tgt := 62) (pc' := 18) Cx dX2_fill_15 (by decide) rfl (by omega) (by omega) (fun hi => ?_) (fun hi => ?_)
      · have e : i = N := by omega
        subst e
        refine j_iload_n (pc' := 63) Cx dX2_fill_62 rfl rfl rfl ?_
        exact j_iret Cx dX2_fill_63 R0 ⟨Nat.le_of_ble_eq_true rfl, Nat.le_of_ble_eq_true rfl⟩ (⟨_, rfl, rfl, rfl⟩)
      · refine j_iload (pc' := 20) Cx dX2_fill_18 rfl rfl ?_
        refine j_sipush (pc' := 23) (v := (nI 255)) Cx dX2_fill_20 rfl (by decide) ?_
        refine j_iand255 (pc' := 24) Cx dX2_fill_23 rfl ?_
        refine j_istore (pc' := 26) (lv' := [(0, .ref h), (1, .int (v)), (2, .int (step)), (3, .int (nI (kct (fun j => decide (F j ≠ lo8 (kps v step j))) i))), (4, .int (kps v step i)), (5, .int (nI i)), (6, .int (nI (lo8 (kps v step i))))]) Cx dX2_fill_24 rfl (by decide) rfl ?_
        refine j_aload_n (pc' := 27) Cx dX2_fill_26 rfl rfl rfl ?_
        refine j_get (pc' := 30) (N := 2) Cx dX2_fill_27 rfl kin_X2_fill_X2 kfl_X2_fill_15 0 rfl rfl 1 rfl rfl rfl ?_
        refine j_iload (pc' := 32) Cx dX2_fill_30 rfl rfl ?_
        refine j_iaload_nn (pc' := 33) Cx dX2_fill_32 rfl 1 rfl (by omega) (by omega) ?_
        refine j_iload (pc' := 35) Cx dX2_fill_33 rfl rfl ?_
        skip
        refine j_icmp_eq_n (tgt := 50) (pc' := 38) Cx dX2_fill_35 (by decide) rfl (by have := kfill_lt hG hF i i; omega) (by have := hG i; omega) (fun hq => ?_) (fun hq => ?_)
        · refine j_iload (pc' := 52) Cx dX2_fill_50 rfl rfl ?_
          refine j_iload_n (pc' := 53) Cx dX2_fill_52 rfl rfl rfl ?_
          refine j_iadd (pc' := 54) Cx dX2_fill_53 rfl ?_
          refine j_istore (pc' := 56) (lv' := [(0, .ref h), (1, .int (v)), (2, .int (step)), (3, .int (nI (kct (fun j => decide (F j ≠ lo8 (kps v step j))) i))), (4, .int ((kps v step i) + step)), (5, .int (nI i)), (6, .int (nI (lo8 (kps v step i))))]) Cx dX2_fill_54 rfl (by decide) rfl ?_
          refine j_iinc_n (pc' := 59) (z := 1) (a := i) (lv' := [(0, .ref h), (1, .int (v)), (2, .int (step)), (3, .int (nI (kct (fun j => decide (F j ≠ lo8 (kps v step j))) i))), (4, .int ((kps v step i) + step)), (5, .int (nI (i + 1))), (6, .int (nI (lo8 (kps v step i))))]) Cx dX2_fill_56 rfl rfl (by decide) rfl ?_
          refine j_goto (tgt := 8) Cx dX2_fill_59 (by decide) ?_
          have e2 : F i = lo8 (kps v step i) := by rw [kfill_out (Nat.le_refl i)] at hq; exact hq
          refine J.lvs (lv' := [(0, .ref h), (1, .int (v)), (2, .int (step)), (3, .int (nI (kct (fun j => decide (F j ≠ lo8 (kps v step j))) i))), (4, .int ((kps v step i) + step)), (5, .int (nI (i + 1)))]) [0, 1, 2, 3, 4, 5] rfl ?_
          refine J.cast (ws' := [(h, .inr (2, [.int (nI C), .ref a])), (a, .inl (ty 0, N, .inl (kN (kfill (fun j => lo8 (kps v step j)) F (i + 1)))))]) (lv' := [(0, .ref h), (1, .int (v)), (2, .int (step)), (3, .int (nI (kct (fun j => decide (F j ≠ lo8 (kps v step j))) (i + 1)))), (4, .int (kps v step (i + 1))), (5, .int (nI (i + 1)))]) (pc' := 8) (st' := []) (by rw [kfill_same (G := (fun j => lo8 (kps v step j))) e2]) (by rw [kct_no (p := (fun j => decide (F j ≠ lo8 (kps v step j)))) (decide_eq_false (Decidable.not_not.mpr e2))]; rfl) rfl (rfl) rfl rfl ?_
          exact LP_ih (i + 1) (by omega) (by omega)
        · refine j_aload_n (pc' := 39) Cx dX2_fill_38 rfl rfl rfl ?_
          refine j_get (pc' := 42) (N := 2) Cx dX2_fill_39 rfl kin_X2_fill_X2 kfl_X2_fill_15 0 rfl rfl 1 rfl rfl rfl ?_
          refine j_iload (pc' := 44) Cx dX2_fill_42 rfl rfl ?_
          refine j_iload (pc' := 46) Cx dX2_fill_44 rfl rfl ?_
          refine j_iastore_nn (pc' := 47) (ws' := [(h, .inr (2, [.int (nI C), .ref a])), (a, .inl (ty 0, N, .inl (kN (va_up (kfill (fun j => lo8 (kps v step j)) F i) i (lo8 (kps v step i))))))]) Cx dX2_fill_46 rfl 1 rfl (by omega) (by omega) rfl ?_
          refine j_iinc_n (pc' := 50) (z := 1) (a := (kct (fun j => decide (F j ≠ lo8 (kps v step j))) i)) (lv' := [(0, .ref h), (1, .int (v)), (2, .int (step)), (3, .int (nI (kct (fun j => decide (F j ≠ lo8 (kps v step j))) i + 1))), (4, .int (kps v step i)), (5, .int (nI i)), (6, .int (nI (lo8 (kps v step i))))]) Cx dX2_fill_47 rfl rfl (by decide) rfl ?_
          refine j_iload (pc' := 52) Cx dX2_fill_50 rfl rfl ?_
          refine j_iload_n (pc' := 53) Cx dX2_fill_52 rfl rfl rfl ?_
          refine j_iadd (pc' := 54) Cx dX2_fill_53 rfl ?_
          refine j_istore (pc' := 56) (lv' := [(0, .ref h), (1, .int (v)), (2, .int (step)), (3, .int (nI (kct (fun j => decide (F j ≠ lo8 (kps v step j))) i + 1))), (4, .int ((kps v step i) + step)), (5, .int (nI i)), (6, .int (nI (lo8 (kps v step i))))]) Cx dX2_fill_54 rfl (by decide) rfl ?_
          refine j_iinc_n (pc' := 59) (z := 1) (a := i) (lv' := [(0, .ref h), (1, .int (v)), (2, .int (step)), (3, .int (nI (kct (fun j => decide (F j ≠ lo8 (kps v step j))) i + 1))), (4, .int ((kps v step i) + step)), (5, .int (nI (i + 1))), (6, .int (nI (lo8 (kps v step i))))]) Cx dX2_fill_56 rfl rfl (by decide) rfl ?_
          refine j_goto (tgt := 8) Cx dX2_fill_59 (by decide) ?_
          have e2 : F i ≠ lo8 (kps v step i) := by rw [kfill_out (Nat.le_refl i)] at hq; exact hq
          refine J.lvs (lv' := [(0, .ref h), (1, .int (v)), (2, .int (step)), (3, .int (nI (kct (fun j => decide (F j ≠ lo8 (kps v step j))) i + 1))), (4, .int ((kps v step i) + step)), (5, .int (nI (i + 1)))]) [0, 1, 2, 3, 4, 5] rfl ?_
          refine J.cast (ws' := [(h, .inr (2, [.int (nI C), .ref a])), (a, .inl (ty 0, N, .inl (kN (kfill (fun j => lo8 (kps v step j)) F (i + 1)))))]) (lv' := [(0, .ref h), (1, .int (v)), (2, .int (step)), (3, .int (nI (kct (fun j => decide (F j ≠ lo8 (kps v step j))) (i + 1)))), (4, .int (kps v step (i + 1))), (5, .int (nI (i + 1)))]) (pc' := 8) (st' := []) (by rw [← kfill_up]) (by rw [← kct_yes (p := (fun j => decide (F j ≠ lo8 (kps v step j)))) (decide_eq_true e2)]; rfl) rfl (rfl) rfl rfl ?_
          exact LP_ih (i + 1) (by omega) (by omega)
  refine J.cast (ws' := [(h, .inr (2, [.int (nI C), .ref a])), (a, .inl (ty 0, N, .inl (kN (kfill (fun j => lo8 (kps v step j)) F 0))))]) (lv' := [(0, .ref h), (1, .int (v)), (2, .int (step)), (3, .int (nI (kct (fun j => decide (F j ≠ lo8 (kps v step j))) 0))), (4, .int (kps v step 0)), (5, .int (nI 0))]) (pc' := 8) (st' := []) (by rw [kfill_0]) (rfl) rfl (rfl) rfl rfl ?_
  exact LP (N + 1) 0 (by omega) (Nat.zero_le N)

set_option maxHeartbeats 4000000 in
set_option maxRecDepth 100000 in
/-- Picture.become -/
theorem c_X2_become (l : Launch) (D : va_G) (ty : Nat → ClassId) (h a h2 a2 : Nat) (C N : Nat) (F G : Nat → Nat) (hF : ∀ i, F i < 256) (hG : ∀ i, G i < 256) (hN : N ≤ 1728) : KM l yX2_become wsX2_become { frames := 0, cells := 0, slots := 0, locals := 0 } D ty [.ref h, .ref h2] [(h, .inr (2, [.int (nI C), .ref a])), (a, .inl (ty 0, N, .inl (kN F))), (h2, .inr (2, [.int (nI C), .ref a2])), (a2, .inl (ty 0, N, .inl (kN G)))] (kI (fun r u => r = nI (kct (fun j => decide (F j ≠ G j)) N) ∧ u = [(h, .inr (2, [.int (nI C), .ref a])), (a, .inl (ty 0, N, .inl (kN (kfill G F N)))), (h2, .inr (2, [.int (nI C), .ref a2])), (a2, .inl (ty 0, N, .inl (kN G)))])) 0 0 := by
  refine KM.of (cc := cX2_become) (maxL := 4) (ret := (some .int)) (lv := [(0, .ref h), (1, .ref h2)]) (by decide +kernel) rfl rfl rfl (fun X C0 R0 => ?_)
  have Cx : kC X cX2_become wsX2_become RX2 { frames := 0, cells := 0, slots := 0, locals := 0 } "become" l D ty 4 := C0
  refine j_iconst (pc' := 1) (v := (nI 0)) Cx dX2_become_0 rfl (by decide) ?_
  refine j_istore_n (pc' := 2) (lv' := [(0, .ref h), (1, .ref h2), (2, .int (nI 0))]) Cx dX2_become_1 rfl rfl (by decide) rfl ?_
  refine j_iconst (pc' := 3) (v := (nI 0)) Cx dX2_become_2 rfl (by decide) ?_
  refine j_istore_n (pc' := 4) (lv' := [(0, .ref h), (1, .ref h2), (2, .int (nI 0)), (3, .int (nI 0))]) Cx dX2_become_3 rfl rfl (by decide) rfl ?_
  have LP : ∀ (LP_n : Nat), ∀ (i : Nat), (N - i < LP_n) → (i ≤ N) → J X [(h, .inr (2, [.int (nI C), .ref a])), (a, .inl (ty 0, N, .inl (kN (kfill G F i)))), (h2, .inr (2, [.int (nI C), .ref a2])), (a2, .inl (ty 0, N, .inl (kN G)))] [(0, .ref h), (1, .ref h2), (2, .int (nI (kct (fun j => decide (F j ≠ G j)) i))), (3, .int (nI i))] 4 [] 0 0 := by
    intro LP_n
    induction LP_n with
    | zero =>
      intro i hms _
      exact absurd hms (Nat.not_lt_zero _)
    | succ LP_n LP_ih =>
      intro i LP_m hle
      have hk := kct_le (fun j => decide (F j ≠ G j)) i
      refine j_iload_n (pc' := 5) Cx dX2_become_4 rfl rfl rfl ?_
      refine j_aload_n (pc' := 6) Cx dX2_become_5 rfl rfl rfl ?_
      refine j_get (pc' := 9) (N := 2) Cx dX2_become_6 rfl kin_X2_become_X2 kfl_X2_become_15 0 rfl rfl 1 rfl rfl rfl ?_
      refine j_alen (pc' := 10) (v := nI N) Cx dX2_become_9 rfl 1 rfl rfl rfl ?_
      refine j_icmp_ge_n (tgt := 58) (pc' := 13) Cx dX2_become_10 (by decide) rfl (by omega) (by omega) (fun hi => ?_) (fun hi => ?_)
      · have e : i = N := by omega
        subst e
        refine j_iload_n (pc' := 59) Cx dX2_become_58 rfl rfl rfl ?_
        exact j_iret Cx dX2_become_59 R0 ⟨Nat.le_of_ble_eq_true rfl, Nat.le_of_ble_eq_true rfl⟩ (⟨_, rfl, rfl, rfl⟩)
      · refine j_iload_n (pc' := 14) Cx dX2_become_13 rfl rfl rfl ?_
        refine j_aload_n (pc' := 15) Cx dX2_become_14 rfl rfl rfl ?_
        refine j_get (pc' := 18) (N := 2) Cx dX2_become_15 rfl kin_X2_become_X2 kfl_X2_become_15 2 rfl rfl 1 rfl rfl rfl ?_
        refine j_alen (pc' := 19) (v := nI N) Cx dX2_become_18 rfl 3 rfl rfl rfl ?_
        refine j_icmp_ge_n (tgt := 58) (pc' := 22) Cx dX2_become_19 (by decide) rfl (by omega) (by omega) (fun hh => absurd hh (by omega)) (fun _ => ?_)
        refine j_aload_n (pc' := 23) Cx dX2_become_22 rfl rfl rfl ?_
        refine j_get (pc' := 26) (N := 2) Cx dX2_become_23 rfl kin_X2_become_X2 kfl_X2_become_15 0 rfl rfl 1 rfl rfl rfl ?_
        refine j_iload_n (pc' := 27) Cx dX2_become_26 rfl rfl rfl ?_
        refine j_iaload_nn (pc' := 28) Cx dX2_become_27 rfl 1 rfl (by omega) (by omega) ?_
        refine j_aload_n (pc' := 29) Cx dX2_become_28 rfl rfl rfl ?_
        refine j_get (pc' := 32) (N := 2) Cx dX2_become_29 rfl kin_X2_become_X2 kfl_X2_become_15 2 rfl rfl 1 rfl rfl rfl ?_
        refine j_iload_n (pc' := 33) Cx dX2_become_32 rfl rfl rfl ?_
        refine j_iaload_nn (pc' := 34) Cx dX2_become_33 rfl 3 rfl (by omega) (by omega) ?_
        refine j_icmp_eq_n (tgt := 52) (pc' := 37) Cx dX2_become_34 (by decide) rfl (by have := kfill_lt hG hF i i; omega) (by have := hG i; omega) (fun hq => ?_) (fun hq => ?_)
        · have e2 : F i = G i := by rw [kfill_out (Nat.le_refl i)] at hq; exact hq
          refine j_iinc_n (pc' := 55) (z := 1) (a := i) (lv' := [(0, .ref h), (1, .ref h2), (2, .int (nI (kct (fun j => decide (F j ≠ G j)) i))), (3, .int (nI (i + 1)))]) Cx dX2_become_52 rfl rfl (by decide) rfl ?_
          refine j_goto (tgt := 4) Cx dX2_become_55 (by decide) ?_
          refine J.cast (ws' := [(h, .inr (2, [.int (nI C), .ref a])), (a, .inl (ty 0, N, .inl (kN (kfill G F (i + 1))))), (h2, .inr (2, [.int (nI C), .ref a2])), (a2, .inl (ty 0, N, .inl (kN G)))]) (lv' := [(0, .ref h), (1, .ref h2), (2, .int (nI (kct (fun j => decide (F j ≠ G j)) (i + 1)))), (3, .int (nI (i + 1)))]) (pc' := 4) (st' := []) (by rw [kfill_same (G := G) e2]) (by rw [kct_no (p := (fun j => decide (F j ≠ G j))) (decide_eq_false (Decidable.not_not.mpr e2))]) rfl (rfl) rfl rfl ?_
          exact LP_ih (i + 1) (by omega) (by omega)
        · have e2 : F i ≠ G i := by rw [kfill_out (Nat.le_refl i)] at hq; exact hq
          refine j_aload_n (pc' := 38) Cx dX2_become_37 rfl rfl rfl ?_
          refine j_get (pc' := 41) (N := 2) Cx dX2_become_38 rfl kin_X2_become_X2 kfl_X2_become_15 0 rfl rfl 1 rfl rfl rfl ?_
          refine j_iload_n (pc' := 42) Cx dX2_become_41 rfl rfl rfl ?_
          refine j_aload_n (pc' := 43) Cx dX2_become_42 rfl rfl rfl ?_
          refine j_get (pc' := 46) (N := 2) Cx dX2_become_43 rfl kin_X2_become_X2 kfl_X2_become_15 2 rfl rfl 1 rfl rfl rfl ?_
          refine j_iload_n (pc' := 47) Cx dX2_become_46 rfl rfl rfl ?_
          refine j_iaload_nn (pc' := 48) Cx dX2_become_47 rfl 3 rfl (by omega) (by omega) ?_
          refine j_iastore_nn (pc' := 49) (ws' := [(h, .inr (2, [.int (nI C), .ref a])), (a, .inl (ty 0, N, .inl (kN (va_up (kfill G F i) i (G i))))), (h2, .inr (2, [.int (nI C), .ref a2])), (a2, .inl (ty 0, N, .inl (kN G)))]) Cx dX2_become_48 rfl 1 rfl (by omega) (by omega) rfl ?_
          refine j_iinc_n (pc' := 52) (z := 1) (a := (kct (fun j => decide (F j ≠ G j)) i)) (lv' := [(0, .ref h), (1, .ref h2), (2, .int (nI (kct (fun j => decide (F j ≠ G j)) i + 1))), (3, .int (nI i))]) Cx dX2_become_49 rfl rfl (by decide) rfl ?_
          refine j_iinc_n (pc' := 55) (z := 1) (a := i) (lv' := [(0, .ref h), (1, .ref h2), (2, .int (nI (kct (fun j => decide (F j ≠ G j)) i + 1))), (3, .int (nI (i + 1)))]) Cx dX2_become_52 rfl rfl (by decide) rfl ?_
          refine j_goto (tgt := 4) Cx dX2_become_55 (by decide) ?_
          refine J.cast (ws' := [(h, .inr (2, [.int (nI C), .ref a])), (a, .inl (ty 0, N, .inl (kN (kfill G F (i + 1))))), (h2, .inr (2, [.int (nI C), .ref a2])), (a2, .inl (ty 0, N, .inl (kN G)))]) (lv' := [(0, .ref h), (1, .ref h2), (2, .int (nI (kct (fun j => decide (F j ≠ G j)) (i + 1)))), (3, .int (nI (i + 1)))]) (pc' := 4) (st' := []) (by rw [← kfill_up]) (by rw [← kct_yes (p := (fun j => decide (F j ≠ G j))) (decide_eq_true e2)]) rfl (rfl) rfl rfl ?_
          exact LP_ih (i + 1) (by omega) (by omega)
  refine J.cast (ws' := [(h, .inr (2, [.int (nI C), .ref a])), (a, .inl (ty 0, N, .inl (kN (kfill G F 0)))), (h2, .inr (2, [.int (nI C), .ref a2])), (a2, .inl (ty 0, N, .inl (kN G)))]) (lv' := [(0, .ref h), (1, .ref h2), (2, .int (nI (kct (fun j => decide (F j ≠ G j)) 0))), (3, .int (nI 0))]) (pc' := 4) (st' := []) (by rw [kfill_0]) (rfl) rfl (rfl) rfl rfl ?_
  exact LP (N + 1) 0 (by omega) (Nat.zero_le N)

set_option maxHeartbeats 4000000 in
set_option maxRecDepth 100000 in
/-- Picture.squaresAgainst: the sum over the places -/
theorem c_X2_squaresAgainst (l : Launch) (D : va_G) (ty : Nat → ClassId) (h a h2 a2 : Nat) (C N : Nat) (F G : Nat → Nat) (hF : ∀ i, F i < 256) (hG : ∀ i, G i < 256) (hN : N ≤ 1728) (P c : Nat) (hNP : N = P * C) (hc : c < C) (hC : C ≤ 3) : KM l yX2_squaresAgainst wsX2_squaresAgainst { frames := 0, cells := 0, slots := 0, locals := 0 } D ty [.ref h, .ref h2, .int (nI c)] [(h, .inr (2, [.int (nI C), .ref a])), (a, .inl (ty 0, N, .inl (kN F))), (h2, .inr (2, [.int (nI C), .ref a2])), (a2, .inl (ty 0, N, .inl (kN G)))] (kL (fun r u => r = lN (ksum (fun p => kd (F (p * C + c)) (G (p * C + c)) * kd (F (p * C + c)) (G (p * C + c))) P) ∧ u = [(h, .inr (2, [.int (nI C), .ref a])), (a, .inl (ty 0, N, .inl (kN F))), (h2, .inr (2, [.int (nI C), .ref a2])), (a2, .inl (ty 0, N, .inl (kN G)))])) 0 0 := by
  refine KM.of (cc := cX2_squaresAgainst) (maxL := 7) (ret := (some .long)) (lv := [(0, .ref h), (1, .ref h2), (2, .int (nI c))]) (by decide +kernel) rfl rfl rfl (fun X C0 R0 => ?_)
  have Cx : kC X cX2_squaresAgainst wsX2_squaresAgainst RX2 { frames := 0, cells := 0, slots := 0, locals := 0 } "squaresAgainst" l D ty 7 := C0
  refine j_lconst (pc' := 1) (v := (lN 0)) Cx dX2_squaresAgainst_0 rfl rfl ?_
  refine j_lstore_n (pc' := 2) (lv' := [(0, .ref h), (1, .ref h2), (2, .int (nI c)), (3, .long (lN 0))]) Cx dX2_squaresAgainst_1 rfl rfl (by decide) rfl ?_
  refine j_iload_n (pc' := 3) Cx dX2_squaresAgainst_2 rfl rfl rfl ?_
  refine j_if_lt_n (tgt := 14) (pc' := 6) Cx dX2_squaresAgainst_3 (by decide) rfl (by omega) ?_
  refine j_aload_n (pc' := 7) Cx dX2_squaresAgainst_6 rfl rfl rfl ?_
  refine j_get (pc' := 10) (N := 2) Cx dX2_squaresAgainst_7 rfl kin_X2_squaresAgainst_X2 kfl_X2_squaresAgainst_9 0 rfl rfl 0 rfl rfl rfl ?_
  refine j_iconst (pc' := 11) (v := (nI 1)) Cx dX2_squaresAgainst_10 rfl (by decide) ?_
  refine j_icmp_ge_n (tgt := 16) (pc' := 14) Cx dX2_squaresAgainst_11 (by decide) rfl (by omega) (by omega) (fun _ => ?_) (fun hh => absurd hh (by omega))
  refine j_iload_n (pc' := 17) Cx dX2_squaresAgainst_16 rfl rfl rfl ?_
  refine j_istore (pc' := 19) (lv' := [(0, .ref h), (1, .ref h2), (2, .int (nI c)), (3, .long (lN 0)), (5, .int (nI c))]) Cx dX2_squaresAgainst_17 rfl (by decide) rfl ?_
  have LP : ∀ (LP_n : Nat), ∀ (p : Nat), (P - p < LP_n) → (p ≤ P) → J X [(h, .inr (2, [.int (nI C), .ref a])), (a, .inl (ty 0, N, .inl (kN F))), (h2, .inr (2, [.int (nI C), .ref a2])), (a2, .inl (ty 0, N, .inl (kN G)))] [(0, .ref h), (1, .ref h2), (2, .int (nI c)), (3, .long (lN (ksum (fun p => kd (F (p * C + c)) (G (p * C + c)) * kd (F (p * C + c)) (G (p * C + c))) p))), (5, .int (nI (p * C + c)))] 19 [] 0 0 := by
    intro LP_n
    induction LP_n with
    | zero =>
      intro p hms _
      exact absurd hms (Nat.not_lt_zero _)
    | succ LP_n LP_ih =>
      intro p LP_m hle
      have hb : p < P → p * C + c < N := fun h => by have h1 : (p + 1) * C ≤ P * C := Nat.mul_le_mul_right C h; rw [Nat.succ_mul] at h1; omega
      have hb2 : p * C ≤ P * C := Nat.mul_le_mul_right C hle
      refine j_iload (pc' := 21) Cx dX2_squaresAgainst_19 rfl rfl ?_
      refine j_aload_n (pc' := 22) Cx dX2_squaresAgainst_21 rfl rfl rfl ?_
      refine j_get (pc' := 25) (N := 2) Cx dX2_squaresAgainst_22 rfl kin_X2_squaresAgainst_X2 kfl_X2_squaresAgainst_15 0 rfl rfl 1 rfl rfl rfl ?_
      refine j_alen (pc' := 26) (v := nI N) Cx dX2_squaresAgainst_25 rfl 1 rfl rfl rfl ?_
      refine j_icmp_ge_n (tgt := 77) (pc' := 29) Cx dX2_squaresAgainst_26 (by decide) rfl (by omega) (by omega) (fun hi => ?_) (fun hi => ?_)
      · have e : p = P := by by_cases h : p < P; (have := hb h; omega); omega
        subst e
        refine j_lload_n (pc' := 78) Cx dX2_squaresAgainst_77 rfl rfl rfl ?_
        exact j_lret Cx dX2_squaresAgainst_78 R0 ⟨Nat.le_of_ble_eq_true rfl, Nat.le_of_ble_eq_true rfl⟩ (⟨_, rfl, rfl, rfl⟩)
      · have hp : p < P := by apply Nat.lt_of_not_le; intro h; have e : p = P := (by omega); subst e; omega
        have hd := kd_le (c := 255) (by have := hF (p * C + c); omega : F (p * C + c) ≤ 255) (by have := hG (p * C + c); omega : G (p * C + c) ≤ 255)
        have hd2 := Nat.mul_le_mul hd hd
        refine j_iload (pc' := 31) Cx dX2_squaresAgainst_29 rfl rfl ?_
        refine j_aload_n (pc' := 32) Cx dX2_squaresAgainst_31 rfl rfl rfl ?_
        refine j_get (pc' := 35) (N := 2) Cx dX2_squaresAgainst_32 rfl kin_X2_squaresAgainst_X2 kfl_X2_squaresAgainst_15 2 rfl rfl 1 rfl rfl rfl ?_
        refine j_alen (pc' := 36) (v := nI N) Cx dX2_squaresAgainst_35 rfl 3 rfl rfl rfl ?_
        refine j_icmp_ge_n (tgt := 77) (pc' := 39) Cx dX2_squaresAgainst_36 (by decide) rfl (by omega) (by omega) (fun hh => absurd hh (by omega)) (fun _ => ?_)
        refine j_aload_n (pc' := 40) Cx dX2_squaresAgainst_39 rfl rfl rfl ?_
        refine j_get (pc' := 43) (N := 2) Cx dX2_squaresAgainst_40 rfl kin_X2_squaresAgainst_X2 kfl_X2_squaresAgainst_15 0 rfl rfl 1 rfl rfl rfl ?_
        refine j_iload (pc' := 45) Cx dX2_squaresAgainst_43 rfl rfl ?_
        refine j_iaload_nn (pc' := 46) Cx dX2_squaresAgainst_45 rfl 1 rfl (by omega) (by omega) ?_
        refine j_aload_n (pc' := 47) Cx dX2_squaresAgainst_46 rfl rfl rfl ?_
        refine j_get (pc' := 50) (N := 2) Cx dX2_squaresAgainst_47 rfl kin_X2_squaresAgainst_X2 kfl_X2_squaresAgainst_15 2 rfl rfl 1 rfl rfl rfl ?_
        refine j_iload (pc' := 52) Cx dX2_squaresAgainst_50 rfl rfl ?_
        refine j_iaload_nn (pc' := 53) Cx dX2_squaresAgainst_52 rfl 3 rfl (by omega) (by omega) ?_
        refine j_isub (pc' := 54) Cx dX2_squaresAgainst_53 rfl ?_
        refine j_istore (pc' := 56) (lv' := [(0, .ref h), (1, .ref h2), (2, .int (nI c)), (3, .long (lN (ksum (fun p => kd (F (p * C + c)) (G (p * C + c)) * kd (F (p * C + c)) (G (p * C + c))) p))), (5, .int (nI (p * C + c))), (6, .int ((nI (F (p * C + c))) - (nI (G (p * C + c)))))]) Cx dX2_squaresAgainst_54 rfl (by decide) rfl ?_
        refine j_lload_n (pc' := 57) Cx dX2_squaresAgainst_56 rfl rfl rfl ?_
        refine j_iload (pc' := 59) Cx dX2_squaresAgainst_57 rfl rfl ?_
        refine j_iload (pc' := 61) Cx dX2_squaresAgainst_59 rfl rfl ?_
        refine j_imul (pc' := 62) Cx dX2_squaresAgainst_61 rfl ?_
        refine j_top (v' := .int (nI (kd (F (p * C + c)) (G (p * C + c)) * kd (F (p * C + c)) (G (p * C + c))))) (congrArg Value.int (k_sq _ _)) ?_
        refine j_i2l_n (pc' := 63) Cx dX2_squaresAgainst_62 rfl (by omega) ?_
        refine j_ladd_n (pc' := 64) Cx dX2_squaresAgainst_63 rfl ?_
        refine j_lstore_n (pc' := 65) (lv' := [(0, .ref h), (1, .ref h2), (2, .int (nI c)), (3, .long (lN ((ksum (fun p => kd (F (p * C + c)) (G (p * C + c)) * kd (F (p * C + c)) (G (p * C + c))) p) + (kd (F (p * C + c)) (G (p * C + c)) * kd (F (p * C + c)) (G (p * C + c)))))), (5, .int (nI (p * C + c))), (6, .int ((nI (F (p * C + c))) - (nI (G (p * C + c)))))]) Cx dX2_squaresAgainst_64 rfl rfl (by decide) rfl ?_
        refine j_iload (pc' := 67) Cx dX2_squaresAgainst_65 rfl rfl ?_
        refine j_aload_n (pc' := 68) Cx dX2_squaresAgainst_67 rfl rfl rfl ?_
        refine j_get (pc' := 71) (N := 2) Cx dX2_squaresAgainst_68 rfl kin_X2_squaresAgainst_X2 kfl_X2_squaresAgainst_9 0 rfl rfl 0 rfl rfl rfl ?_
        refine j_iadd_n (pc' := 72) Cx dX2_squaresAgainst_71 rfl ?_
        refine j_istore (pc' := 74) (lv' := [(0, .ref h), (1, .ref h2), (2, .int (nI c)), (3, .long (lN ((ksum (fun p => kd (F (p * C + c)) (G (p * C + c)) * kd (F (p * C + c)) (G (p * C + c))) p) + (kd (F (p * C + c)) (G (p * C + c)) * kd (F (p * C + c)) (G (p * C + c)))))), (5, .int (nI ((p * C + c) + C))), (6, .int ((nI (F (p * C + c))) - (nI (G (p * C + c)))))]) Cx dX2_squaresAgainst_72 rfl (by decide) rfl ?_
        refine j_goto (tgt := 19) Cx dX2_squaresAgainst_74 (by decide) ?_
        refine J.lvs (lv' := [(0, .ref h), (1, .ref h2), (2, .int (nI c)), (3, .long (lN ((ksum (fun p => kd (F (p * C + c)) (G (p * C + c)) * kd (F (p * C + c)) (G (p * C + c))) p) + (kd (F (p * C + c)) (G (p * C + c)) * kd (F (p * C + c)) (G (p * C + c)))))), (5, .int (nI ((p * C + c) + C)))]) [0, 1, 2, 3, 5] rfl ?_
        refine J.cast (ws' := [(h, .inr (2, [.int (nI C), .ref a])), (a, .inl (ty 0, N, .inl (kN F))), (h2, .inr (2, [.int (nI C), .ref a2])), (a2, .inl (ty 0, N, .inl (kN G)))]) (lv' := [(0, .ref h), (1, .ref h2), (2, .int (nI c)), (3, .long (lN (ksum (fun p => kd (F (p * C + c)) (G (p * C + c)) * kd (F (p * C + c)) (G (p * C + c))) (p + 1)))), (5, .int (nI ((p + 1) * C + c)))]) (pc' := 19) (st' := []) (rfl) (by rw [show (p + 1) * C + c = p * C + c + C from by rw [Nat.succ_mul]; omega]; rfl) rfl (rfl) rfl rfl ?_
        exact LP_ih (p + 1) (by omega) (by omega)
  refine J.cast (ws' := [(h, .inr (2, [.int (nI C), .ref a])), (a, .inl (ty 0, N, .inl (kN F))), (h2, .inr (2, [.int (nI C), .ref a2])), (a2, .inl (ty 0, N, .inl (kN G)))]) (lv' := [(0, .ref h), (1, .ref h2), (2, .int (nI c)), (3, .long (lN (ksum (fun p => kd (F (p * C + c)) (G (p * C + c)) * kd (F (p * C + c)) (G (p * C + c))) 0))), (5, .int (nI (0 * C + c)))]) (pc' := 19) (st' := []) (rfl) (by rw [Nat.zero_mul, Nat.zero_add]; rfl) rfl (rfl) rfl rfl ?_
  exact LP (P + 1) 0 (by omega) (Nat.zero_le P)

set_option maxHeartbeats 4000000 in
set_option maxRecDepth 100000 in
/-- Picture.greatestAgainst -/
theorem c_X2_greatestAgainst (l : Launch) (D : va_G) (ty : Nat → ClassId) (h a h2 a2 : Nat) (C N : Nat) (F G : Nat → Nat) (hF : ∀ i, F i < 256) (hG : ∀ i, G i < 256) (hN : N ≤ 1728) : KM l yX2_greatestAgainst wsX2_greatestAgainst { frames := 1, cells := 0, slots := 0, locals := 21 } D ty [.ref h, .ref h2] [(h, .inr (2, [.int (nI C), .ref a])), (a, .inl (ty 0, N, .inl (kN F))), (h2, .inr (2, [.int (nI C), .ref a2])), (a2, .inl (ty 0, N, .inl (kN G)))] (kI (fun r u => r = nI (kmx (fun j => kd (F j) (G j)) N) ∧ u = [(h, .inr (2, [.int (nI C), .ref a])), (a, .inl (ty 0, N, .inl (kN F))), (h2, .inr (2, [.int (nI C), .ref a2])), (a2, .inl (ty 0, N, .inl (kN G)))])) 0 0 := by
  refine KM.of (cc := cX2_greatestAgainst) (maxL := 4) (ret := (some .int)) (lv := [(0, .ref h), (1, .ref h2)]) (by decide +kernel) rfl rfl rfl (fun X C0 R0 => ?_)
  have Cx : kC X cX2_greatestAgainst wsX2_greatestAgainst RX2 { frames := 1, cells := 0, slots := 0, locals := 21 } "greatestAgainst" l D ty 4 := C0
  have hS : ∀ k, (fun j => kd (F j) (G j)) k ≤ 255 := fun k => kd_le (by have := hF k; omega) (by have := hG k; omega)
  refine j_iconst (pc' := 1) (v := (nI 0)) Cx dX2_greatestAgainst_0 rfl (by decide) ?_
  refine j_istore_n (pc' := 2) (lv' := [(0, .ref h), (1, .ref h2), (2, .int (nI 0))]) Cx dX2_greatestAgainst_1 rfl rfl (by decide) rfl ?_
  refine j_iconst (pc' := 3) (v := (nI 0)) Cx dX2_greatestAgainst_2 rfl (by decide) ?_
  refine j_istore_n (pc' := 4) (lv' := [(0, .ref h), (1, .ref h2), (2, .int (nI 0)), (3, .int (nI 0))]) Cx dX2_greatestAgainst_3 rfl rfl (by decide) rfl ?_
  have LP : ∀ (LP_n : Nat), ∀ (i : Nat), (N - i < LP_n) → (i ≤ N) → J X [(h, .inr (2, [.int (nI C), .ref a])), (a, .inl (ty 0, N, .inl (kN F))), (h2, .inr (2, [.int (nI C), .ref a2])), (a2, .inl (ty 0, N, .inl (kN G)))] [(0, .ref h), (1, .ref h2), (2, .int (nI (kmx (fun j => kd (F j) (G j)) i))), (3, .int (nI i))] 4 [] 0 0 := by
    intro LP_n
    induction LP_n with
    | zero =>
      intro i hms _
      exact absurd hms (Nat.not_lt_zero _)
    | succ LP_n LP_ih =>
      intro i LP_m hle
      have hk := kmx_le hS i
      have hk2 := hS i
      refine j_iload_n (pc' := 5) Cx dX2_greatestAgainst_4 rfl rfl rfl ?_
      refine j_aload_n (pc' := 6) Cx dX2_greatestAgainst_5 rfl rfl rfl ?_
      refine j_get (pc' := 9) (N := 2) Cx dX2_greatestAgainst_6 rfl kin_X2_greatestAgainst_X2 kfl_X2_greatestAgainst_15 0 rfl rfl 1 rfl rfl rfl ?_
      refine j_alen (pc' := 10) (v := nI N) Cx dX2_greatestAgainst_9 rfl 1 rfl rfl rfl ?_
      refine j_icmp_ge_n (tgt := 49) (pc' := 13) Cx dX2_greatestAgainst_10 (by decide) rfl (by omega) (by omega) (fun hi => ?_) (fun hi => ?_)
      · have e : i = N := by omega
        subst e
        refine j_iload_n (pc' := 50) Cx dX2_greatestAgainst_49 rfl rfl rfl ?_
        exact j_iret Cx dX2_greatestAgainst_50 R0 ⟨Nat.le_of_ble_eq_true rfl, Nat.le_of_ble_eq_true rfl⟩ (⟨_, rfl, rfl, rfl⟩)
      · refine j_iload_n (pc' := 14) Cx dX2_greatestAgainst_13 rfl rfl rfl ?_
        refine j_aload_n (pc' := 15) Cx dX2_greatestAgainst_14 rfl rfl rfl ?_
        refine j_get (pc' := 18) (N := 2) Cx dX2_greatestAgainst_15 rfl kin_X2_greatestAgainst_X2 kfl_X2_greatestAgainst_15 2 rfl rfl 1 rfl rfl rfl ?_
        refine j_alen (pc' := 19) (v := nI N) Cx dX2_greatestAgainst_18 rfl 3 rfl rfl rfl ?_
        refine j_icmp_ge_n (tgt := 49) (pc' := 22) Cx dX2_greatestAgainst_19 (by decide) rfl (by omega) (by omega) (fun hh => absurd hh (by omega)) (fun _ => ?_)
        refine j_iload_n (pc' := 23) Cx dX2_greatestAgainst_22 rfl rfl rfl ?_
        refine j_aload_n (pc' := 24) Cx dX2_greatestAgainst_23 rfl rfl rfl ?_
        refine j_get (pc' := 27) (N := 2) Cx dX2_greatestAgainst_24 rfl kin_X2_greatestAgainst_X2 kfl_X2_greatestAgainst_15 0 rfl rfl 1 rfl rfl rfl ?_
        refine j_iload_n (pc' := 28) Cx dX2_greatestAgainst_27 rfl rfl rfl ?_
        refine j_iaload_nn (pc' := 29) Cx dX2_greatestAgainst_28 rfl 1 rfl (by omega) (by omega) ?_
        refine j_aload_n (pc' := 30) Cx dX2_greatestAgainst_29 rfl rfl rfl ?_
        refine j_get (pc' := 33) (N := 2) Cx dX2_greatestAgainst_30 rfl kin_X2_greatestAgainst_X2 kfl_X2_greatestAgainst_15 2 rfl rfl 1 rfl rfl rfl ?_
        refine j_iload_n (pc' := 34) Cx dX2_greatestAgainst_33 rfl rfl rfl ?_
        refine j_iaload_nn (pc' := 35) Cx dX2_greatestAgainst_34 rfl 3 rfl (by omega) (by omega) ?_
        refine j_isub (pc' := 36) Cx dX2_greatestAgainst_35 rfl ?_
        refine j_abs (pc' := 39) Cx dX2_greatestAgainst_36 rfl kmt_X2_greatestAgainst_19 ⟨Nat.le_of_ble_eq_true rfl, Nat.le_of_ble_eq_true rfl, Nat.le_of_ble_eq_true rfl, Nat.le_of_ble_eq_true rfl⟩ ?_
        refine j_top (v' := .int (nI (kd (F i) (G i)))) (congrArg Value.int (k_abs (by have := hF i; omega) (by have := hG i; omega))) ?_
        refine j_max (pc' := 42) Cx dX2_greatestAgainst_39 rfl kmt_X2_greatestAgainst_25 ⟨Nat.le_of_ble_eq_true rfl, Nat.le_of_ble_eq_true rfl, Nat.le_of_ble_eq_true rfl, Nat.le_of_ble_eq_true rfl⟩ ?_
        refine j_top (v' := .int (nI (if kmx (fun j => kd (F j) (G j)) i < kd (F i) (G i) then kd (F i) (G i) else kmx (fun j => kd (F j) (G j)) i))) (congrArg Value.int (k_max (by omega) (Nat.lt_of_le_of_lt hk2 (by decide)))) ?_
        refine j_istore_n (pc' := 43) (lv' := [(0, .ref h), (1, .ref h2), (2, .int (nI (if kmx (fun j => kd (F j) (G j)) i < kd (F i) (G i) then kd (F i) (G i) else kmx (fun j => kd (F j) (G j)) i))), (3, .int (nI i))]) Cx dX2_greatestAgainst_42 rfl rfl (by decide) rfl ?_
        refine j_iinc_n (pc' := 46) (z := 1) (a := i) (lv' := [(0, .ref h), (1, .ref h2), (2, .int (nI (if kmx (fun j => kd (F j) (G j)) i < kd (F i) (G i) then kd (F i) (G i) else kmx (fun j => kd (F j) (G j)) i))), (3, .int (nI (i + 1)))]) Cx dX2_greatestAgainst_43 rfl rfl (by decide) rfl ?_
        refine j_goto (tgt := 4) Cx dX2_greatestAgainst_46 (by decide) ?_
        refine J.cast (ws' := [(h, .inr (2, [.int (nI C), .ref a])), (a, .inl (ty 0, N, .inl (kN F))), (h2, .inr (2, [.int (nI C), .ref a2])), (a2, .inl (ty 0, N, .inl (kN G)))]) (lv' := [(0, .ref h), (1, .ref h2), (2, .int (nI (kmx (fun j => kd (F j) (G j)) (i + 1)))), (3, .int (nI (i + 1)))]) (pc' := 4) (st' := []) (rfl) (rfl) rfl (rfl) rfl rfl ?_
        exact LP_ih (i + 1) (by omega) (by omega)
  refine J.cast (ws' := [(h, .inr (2, [.int (nI C), .ref a])), (a, .inl (ty 0, N, .inl (kN F))), (h2, .inr (2, [.int (nI C), .ref a2])), (a2, .inl (ty 0, N, .inl (kN G)))]) (lv' := [(0, .ref h), (1, .ref h2), (2, .int (nI (kmx (fun j => kd (F j) (G j)) 0))), (3, .int (nI 0))]) (pc' := 4) (st' := []) (rfl) (rfl) rfl (rfl) rfl rfl ?_
  exact LP (N + 1) 0 (by omega) (Nat.zero_le N)

set_option maxHeartbeats 4000000 in
set_option maxRecDepth 100000 in
/-- Picture.sameAs -/
theorem c_X2_sameAs (l : Launch) (D : va_G) (ty : Nat → ClassId) (h a h2 a2 : Nat) (C N : Nat) (F G : Nat → Nat) (hF : ∀ i, F i < 256) (hG : ∀ i, G i < 256) (hN : N ≤ 1728) : KM l yX2_sameAs wsX2_sameAs { frames := 2, cells := 0, slots := 0, locals := 60 } D ty [.ref h, .ref h2] [(h, .inr (2, [.int (nI C), .ref a])), (a, .inl (ty 0, N, .inl (kN F))), (h2, .inr (2, [.int (nI C), .ref a2])), (a2, .inl (ty 0, N, .inl (kN G)))] (kI (fun r u => r = nI (if kmx (fun j => kd (F j) (G j)) N = 0 then 1 else 0) ∧ u = [(h, .inr (2, [.int (nI C), .ref a])), (a, .inl (ty 0, N, .inl (kN F))), (h2, .inr (2, [.int (nI C), .ref a2])), (a2, .inl (ty 0, N, .inl (kN G)))])) 0 0 := by
  refine KM.of (cc := cX2_sameAs) (maxL := 2) (ret := (some .boolean)) (lv := [(0, .ref h), (1, .ref h2)]) (by decide +kernel) rfl rfl rfl (fun X C0 R0 => ?_)
  have Cx : kC X cX2_sameAs wsX2_sameAs RX2 { frames := 2, cells := 0, slots := 0, locals := 60 } "sameAs" l D ty 2 := C0
  have hk := kmx_le (f := (fun j => kd (F j) (G j))) (c := 255) (fun k => kd_le (by have := hF k; omega) (by have := hG k; omega)) N
  refine j_aload_n (pc' := 1) Cx dX2_sameAs_0 rfl rfl rfl ?_
  refine j_aload_n (pc' := 2) Cx dX2_sameAs_1 rfl rfl rfl ?_
  refine j_callV (pc' := 5) (wr := []) (st := []) Cx dX2_sameAs_2 rfl (c_X2_greatestAgainst l D ty h a h2 a2 C N F G hF hG hN) gX2_sameAs_X2_greatestAgainst rfl khd_X2_greatestAgainst rfl ⟨rfl, rfl, Nat.le_of_ble_eq_true rfl, Nat.le_of_ble_eq_true rfl⟩ [0, 1, 2, 3] [] rfl rfl ⟨rfl, rfl⟩ (by decide) 0 rfl rfl rfl (Nat.le_of_ble_eq_true rfl) ⟨Nat.le_of_ble_eq_true rfl, Nat.le_of_ble_eq_true rfl⟩ (fun v u hpost => ?_)
  obtain ⟨r, rfl, rfl, rfl⟩ := hpost
  show J X [(h, .inr (2, [.int (nI C), .ref a])), (a, .inl (ty 0, N, .inl (kN F))), (h2, .inr (2, [.int (nI C), .ref a2])), (a2, .inl (ty 0, N, .inl (kN G)))] [(0, .ref h), (1, .ref h2)] 5 [.int (nI (kmx (fun j => kd (F j) (G j)) N))] 0 0
  refine j_if_ne_n (tgt := 12) (pc' := 8) Cx dX2_sameAs_5 (by decide) rfl (by omega) (fun h0 => ?_) (fun h0 => ?_)
  · refine j_iconst (pc' := 13) (v := (nI 0)) Cx dX2_sameAs_12 rfl (by decide) ?_
    exact j_zret Cx dX2_sameAs_13 R0 (by decide) ⟨Nat.le_of_ble_eq_true rfl, Nat.le_of_ble_eq_true rfl⟩ (⟨_, rfl, by rw [if_neg h0], rfl⟩)
  · refine j_iconst (pc' := 9) (v := (nI 1)) Cx dX2_sameAs_8 rfl (by decide) ?_
    refine j_goto (tgt := 13) Cx dX2_sameAs_9 (by decide) ?_
    exact j_zret Cx dX2_sameAs_13 R0 (by decide) ⟨Nat.le_of_ble_eq_true rfl, Nat.le_of_ble_eq_true rfl⟩ (⟨_, rfl, by rw [if_pos h0], rfl⟩)

set_option maxHeartbeats 4000000 in
set_option maxRecDepth 100000 in
/-- Picture.greyAt -/
theorem c_X2_greyAt (l : Launch) (D : va_G) (ty : Nat → ClassId) (h a : Nat) (C N P p : Nat) (F : Nat → Nat) (hF : ∀ i, F i < 256) (hN : N ≤ 1728) (hNP : N = P * C) (hp : p < P) (h1 : 1 ≤ C) (h3 : C ≤ 3) : KM l yX2_greyAt wsX2_greyAt { frames := 0, cells := 0, slots := 0, locals := 0 } D ty [.ref h, .int (nI p)] [(h, .inr (2, [.int (nI C), .ref a])), (a, .inl (ty 0, N, .inl (kN F)))] (kI (fun r u => r = nI (kg C F p) ∧ u = [(h, .inr (2, [.int (nI C), .ref a])), (a, .inl (ty 0, N, .inl (kN F)))])) 0 0 := by
  refine KM.of (cc := cX2_greyAt) (maxL := 3) (ret := (some .int)) (lv := [(0, .ref h), (1, .int (nI p))]) (by decide +kernel) rfl rfl rfl (fun X C0 R0 => ?_)
  have Cx : kC X cX2_greyAt wsX2_greyAt RX2 { frames := 0, cells := 0, slots := 0, locals := 0 } "greyAt" l D ty 3 := C0
  have hb : p * C + C ≤ N := by have h : (p + 1) * C ≤ P * C := Nat.mul_le_mul_right C hp; rw [Nat.succ_mul] at h; omega
  refine j_iload_n (pc' := 1) Cx dX2_greyAt_0 rfl rfl rfl ?_
  refine j_aload_n (pc' := 2) Cx dX2_greyAt_1 rfl rfl rfl ?_
  refine j_get (pc' := 5) (N := 2) Cx dX2_greyAt_2 rfl kin_X2_greyAt_X2 kfl_X2_greyAt_9 0 rfl rfl 0 rfl rfl rfl ?_
  refine j_imul_n (pc' := 6) Cx dX2_greyAt_5 rfl ?_
  refine j_istore_n (pc' := 7) (lv' := [(0, .ref h), (1, .int (nI p)), (2, .int (nI (p * C)))]) Cx dX2_greyAt_6 rfl rfl (by decide) rfl ?_
  refine j_iload_n (pc' := 8) Cx dX2_greyAt_7 rfl rfl rfl ?_
  refine j_if_lt_n (tgt := 25) (pc' := 11) Cx dX2_greyAt_8 (by decide) rfl (by omega) ?_
  refine j_iload_n (pc' := 12) Cx dX2_greyAt_11 rfl rfl rfl ?_
  refine j_aload_n (pc' := 13) Cx dX2_greyAt_12 rfl rfl rfl ?_
  refine j_get (pc' := 16) (N := 2) Cx dX2_greyAt_13 rfl kin_X2_greyAt_X2 kfl_X2_greyAt_9 0 rfl rfl 0 rfl rfl rfl ?_
  refine j_iadd_n (pc' := 17) Cx dX2_greyAt_16 rfl ?_
  refine j_aload_n (pc' := 18) Cx dX2_greyAt_17 rfl rfl rfl ?_
  refine j_get (pc' := 21) (N := 2) Cx dX2_greyAt_18 rfl kin_X2_greyAt_X2 kfl_X2_greyAt_15 0 rfl rfl 1 rfl rfl rfl ?_
  refine j_alen (pc' := 22) (v := nI N) Cx dX2_greyAt_21 rfl 1 rfl rfl rfl ?_
  refine j_icmp_le_n (tgt := 27) (pc' := 25) Cx dX2_greyAt_22 (by decide) rfl (by omega) (by omega) (fun _ => ?_) (fun hh => absurd hh (by omega))
  refine j_aload_n (pc' := 28) Cx dX2_greyAt_27 rfl rfl rfl ?_
  refine j_get (pc' := 31) (N := 2) Cx dX2_greyAt_28 rfl kin_X2_greyAt_X2 kfl_X2_greyAt_9 0 rfl rfl 0 rfl rfl rfl ?_
  have hc : C = 1 ∨ C = 2 ∨ C = 3 := by omega
  rcases hc with rfl | rfl | rfl
  · refine j_tableIn (off := 25) (tgt := 56) Cx dX2_greyAt_31 (by decide) (by decide) (by decide) (by decide) ?_
    refine j_aload_n (pc' := 57) Cx dX2_greyAt_56 rfl rfl rfl ?_
    refine j_get (pc' := 60) (N := 2) Cx dX2_greyAt_57 rfl kin_X2_greyAt_X2 kfl_X2_greyAt_15 0 rfl rfl 1 rfl rfl rfl ?_
    refine j_iload_n (pc' := 61) Cx dX2_greyAt_60 rfl rfl rfl ?_
    refine j_iaload_nn (pc' := 62) Cx dX2_greyAt_61 rfl 1 rfl (by omega) (by omega) ?_
    exact j_iret Cx dX2_greyAt_62 R0 ⟨Nat.le_of_ble_eq_true rfl, Nat.le_of_ble_eq_true rfl⟩ (⟨_, rfl, rfl, rfl⟩)
  · refine j_tableIn (off := 32) (tgt := 63) Cx dX2_greyAt_31 (by decide) (by decide) (by decide) (by decide) ?_
    have g0 := hF (p * 2)
    have g1 := hF (p * 2 + 1)
    refine j_aload_n (pc' := 64) Cx dX2_greyAt_63 rfl rfl rfl ?_
    refine j_get (pc' := 67) (N := 2) Cx dX2_greyAt_64 rfl kin_X2_greyAt_X2 kfl_X2_greyAt_15 0 rfl rfl 1 rfl rfl rfl ?_
    refine j_iload_n (pc' := 68) Cx dX2_greyAt_67 rfl rfl rfl ?_
    refine j_iaload_nn (pc' := 69) Cx dX2_greyAt_68 rfl 1 rfl (by omega) (by omega) ?_
    refine j_aload_n (pc' := 70) Cx dX2_greyAt_69 rfl rfl rfl ?_
    refine j_get (pc' := 73) (N := 2) Cx dX2_greyAt_70 rfl kin_X2_greyAt_X2 kfl_X2_greyAt_15 0 rfl rfl 1 rfl rfl rfl ?_
    refine j_iload_n (pc' := 74) Cx dX2_greyAt_73 rfl rfl rfl ?_
    refine j_iconst (pc' := 75) (v := (nI 1)) Cx dX2_greyAt_74 rfl (by decide) ?_
    refine j_iadd_n (pc' := 76) Cx dX2_greyAt_75 rfl ?_
    refine j_iaload_nn (pc' := 77) Cx dX2_greyAt_76 rfl 1 rfl (by omega) (by omega) ?_
    refine j_iadd_n (pc' := 78) Cx dX2_greyAt_77 rfl ?_
    refine j_iconst (pc' := 79) (v := (nI 1)) Cx dX2_greyAt_78 rfl (by decide) ?_
    refine j_iadd_n (pc' := 80) Cx dX2_greyAt_79 rfl ?_
    refine j_iconst (pc' := 81) (v := (nI 2)) Cx dX2_greyAt_80 rfl (by decide) ?_
    refine j_idiv_n (pc' := 82) Cx dX2_greyAt_81 rfl (by omega) (by omega) (by omega) ?_
    exact j_iret Cx dX2_greyAt_82 R0 ⟨Nat.le_of_ble_eq_true rfl, Nat.le_of_ble_eq_true rfl⟩ (⟨_, rfl, rfl, rfl⟩)
  · refine j_tableIn (off := 52) (tgt := 83) Cx dX2_greyAt_31 (by decide) (by decide) (by decide) (by decide) ?_
    have g0 := hF (p * 3)
    have g1 := hF (p * 3 + 1)
    have g2 := hF (p * 3 + 2)
    refine j_aload_n (pc' := 84) Cx dX2_greyAt_83 rfl rfl rfl ?_
    refine j_get (pc' := 87) (N := 2) Cx dX2_greyAt_84 rfl kin_X2_greyAt_X2 kfl_X2_greyAt_15 0 rfl rfl 1 rfl rfl rfl ?_
    refine j_iload_n (pc' := 88) Cx dX2_greyAt_87 rfl rfl rfl ?_
    refine j_iaload_nn (pc' := 89) Cx dX2_greyAt_88 rfl 1 rfl (by omega) (by omega) ?_
    refine j_iconst (pc' := 90) (v := (nI 2)) Cx dX2_greyAt_89 rfl (by decide) ?_
    refine j_aload_n (pc' := 91) Cx dX2_greyAt_90 rfl rfl rfl ?_
    refine j_get (pc' := 94) (N := 2) Cx dX2_greyAt_91 rfl kin_X2_greyAt_X2 kfl_X2_greyAt_15 0 rfl rfl 1 rfl rfl rfl ?_
    refine j_iload_n (pc' := 95) Cx dX2_greyAt_94 rfl rfl rfl ?_
    refine j_iconst (pc' := 96) (v := (nI 1)) Cx dX2_greyAt_95 rfl (by decide) ?_
    refine j_iadd_n (pc' := 97) Cx dX2_greyAt_96 rfl ?_
    refine j_iaload_nn (pc' := 98) Cx dX2_greyAt_97 rfl 1 rfl (by omega) (by omega) ?_
    refine j_imul_n (pc' := 99) Cx dX2_greyAt_98 rfl ?_
    refine j_iadd_n (pc' := 100) Cx dX2_greyAt_99 rfl ?_
    refine j_aload_n (pc' := 101) Cx dX2_greyAt_100 rfl rfl rfl ?_
    refine j_get (pc' := 104) (N := 2) Cx dX2_greyAt_101 rfl kin_X2_greyAt_X2 kfl_X2_greyAt_15 0 rfl rfl 1 rfl rfl rfl ?_
    refine j_iload_n (pc' := 105) Cx dX2_greyAt_104 rfl rfl rfl ?_
    refine j_iconst (pc' := 106) (v := (nI 2)) Cx dX2_greyAt_105 rfl (by decide) ?_
    refine j_iadd_n (pc' := 107) Cx dX2_greyAt_106 rfl ?_
    refine j_iaload_nn (pc' := 108) Cx dX2_greyAt_107 rfl 1 rfl (by omega) (by omega) ?_
    refine j_iadd_n (pc' := 109) Cx dX2_greyAt_108 rfl ?_
    refine j_iconst (pc' := 110) (v := (nI 2)) Cx dX2_greyAt_109 rfl (by decide) ?_
    refine j_iadd_n (pc' := 111) Cx dX2_greyAt_110 rfl ?_
    refine j_iconst (pc' := 112) (v := (nI 4)) Cx dX2_greyAt_111 rfl (by decide) ?_
    refine j_idiv_n (pc' := 113) Cx dX2_greyAt_112 rfl (by omega) (by omega) (by omega) ?_
    exact j_iret Cx dX2_greyAt_113 R0 ⟨Nat.le_of_ble_eq_true rfl, Nat.le_of_ble_eq_true rfl⟩ (⟨_, rfl, rfl, rfl⟩)

set_option maxHeartbeats 4000000 in
set_option maxRecDepth 100000 in
/-- Picture(places, channels) -/
theorem c_X2_init (l : Launch) (D : va_G) (ty : Nat → ClassId) (h : Nat) (P C : Nat) (hN : P * C ≤ 1728) : KM l yX2_init wsX2_init { frames := 1, cells := 1, slots := 1728, locals := 20 } D ty [.ref h, .int (nI P), .int (nI C)] [(h, .inr (2, [.int (0), .null]))] (kV (fun u => ∃ a : Nat, u = [(h, .inr (2, [.int (nI C), .ref a])), (a, .inl (ty 0, P * C, .inl (kN (fun _ => 0))))])) 1 1728 := by
  refine KM.of (cc := cX2_init) (maxL := 3) (ret := none) (lv := [(0, .ref h), (1, .int (nI P)), (2, .int (nI C))]) (by decide +kernel) rfl rfl rfl (fun X C0 R0 => ?_)
  have Cx : kC X cX2_init wsX2_init RX2 { frames := 1, cells := 1, slots := 1728, locals := 20 } "<init>" l D ty 3 := C0
  refine j_aload_n (pc' := 1) Cx dX2_init_0 rfl rfl rfl ?_
  refine j_objInit (pc' := 4) Cx dX2_init_1 rfl (by decide +kernel) (by decide +kernel) (by decide +kernel) ⟨Nat.le_of_ble_eq_true rfl, Nat.le_of_ble_eq_true rfl⟩ ?_
  refine j_aload_n (pc' := 5) Cx dX2_init_4 rfl rfl rfl ?_
  refine j_iload_n (pc' := 6) Cx dX2_init_5 rfl rfl rfl ?_
  refine j_putF (pc' := 9) (N := 2) (t := .int) (ws' := [(h, .inr (2, [.int (nI C), .null]))]) Cx dX2_init_6 rfl kin_X2_init_X2 kfl_X2_init_9 tyX2_ok nmX2 0 rfl rfl 0 rfl rfl rfl rfl rfl rfl rfl rfl rfl ?_
  refine j_aload_n (pc' := 10) Cx dX2_init_9 rfl rfl rfl ?_
  refine j_iload_n (pc' := 11) Cx dX2_init_10 rfl rfl rfl ?_
  refine j_iload_n (pc' := 12) Cx dX2_init_11 rfl rfl rfl ?_
  refine j_imul_n (pc' := 13) Cx dX2_init_12 rfl ?_
  refine j_newarr (pc' := 15) (t0 := 0) (N := (P * C)) (a0 := ((P * C), .inl (kN (fun _ => 0)))) (ft := .int) Cx dX2_init_13 rfl rfl rfl (fun _ h => by cases h) (by decide +kernel) (fun _ => rfl) rfl (by omega) ⟨Nat.le_of_ble_eq_true rfl, by show 0 + (P * C) ≤ 1728; omega⟩ (fun q => ?_)
  refine J.widen (k' := 1) (n' := 1728) (Nat.le_of_ble_eq_true rfl) (by omega) ?_
  show J X [(h, .inr (2, [.int (nI C), .null])), (q, .inl (ty 0, (P * C), .inl (kN (fun _ => 0))))] [(0, .ref h), (1, .int (nI P)), (2, .int (nI C))] 15 [.ref q, .ref h] 1 1728
  refine j_putF (pc' := 18) (N := 2) (t := (.array .int)) (ws' := [(h, .inr (2, [.int (nI C), .ref q])), (q, .inl (ty 0, (P * C), .inl (kN (fun _ => 0))))]) Cx dX2_init_15 rfl kin_X2_init_X2 kfl_X2_init_15 tyX2_ok nmX2 0 rfl rfl 1 rfl rfl rfl rfl rfl rfl rfl rfl rfl ?_
  exact j_vret Cx dX2_init_18 R0 ⟨Nat.le_of_ble_eq_true rfl, Nat.le_of_ble_eq_true rfl⟩ (⟨rfl, q, rfl⟩)
