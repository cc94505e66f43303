set_option maxHeartbeats 4000000 in
set_option maxRecDepth 100000 in
theorem c_X5_thrown (l : Launch) (D : va_G) (ty : Nat → ClassId) (m o1 o2 go gt po pt my no so W H C : Nat) (nw nh : Nat) (fa : Int32) : KM l yX5_thrown wsX5_thrown { frames := 0, cells := 0, slots := 0, locals := 0 } D ty [.ref m] [(m, .inr (5, [.int (nI W), .int (nI H), .int (nI C), .int (fa), .ref o1, .ref o2, .int (nI nw), .int (nI nh), .ref go, .ref gt, .ref po, .ref pt, .ref my, .ref no, .ref so]))] (kI (fun r u => r = fa ∧ u = [(m, .inr (5, [.int (nI W), .int (nI H), .int (nI C), .int (fa), .ref o1, .ref o2, .int (nI nw), .int (nI nh), .ref go, .ref gt, .ref po, .ref pt, .ref my, .ref no, .ref so]))])) 0 0 := by
  refine KM.of (cc := cX5_thrown) (maxL := 1) (ret := (some .int)) (lv := [(0, .ref m)]) (by decide +kernel) rfl rfl rfl (fun X C0 R0 => ?_)
  have Cx : kC X cX5_thrown wsX5_thrown RX5 { frames := 0, cells := 0, slots := 0, locals := 0 } "thrown" l D ty 1 := C0
  refine j_aload_n (pc' := 1) Cx dX5_thrown_0 rfl rfl rfl ?_
  refine j_get (pc' := 4) (N := 15) Cx dX5_thrown_1 rfl kin_X5_thrown_X5 kfl_X5_thrown_48 0 rfl rfl 3 rfl rfl rfl ?_
  exact j_iret Cx dX5_thrown_4 R0 ⟨Nat.le_of_ble_eq_true rfl, Nat.le_of_ble_eq_true rfl⟩ (⟨_, rfl, rfl, rfl⟩)

set_option maxHeartbeats 4000000 in
set_option maxRecDepth 100000 in
theorem c_X5_in (l : Launch) (D : va_G) (ty : Nat → ClassId) (i a b : Nat) (g1 : a ≤ i) (g2 : i ≤ b) (hb : b < 2 ^ 31) : KM l yX5_in wsX5_in { frames := 0, cells := 0, slots := 0, locals := 0 } D ty [.int (nI i), .int (nI a), .int (nI b)] [] (kI (fun r u => r = nI 1 ∧ u = [])) 0 0 := by
  refine KM.of (cc := cX5_in) (maxL := 3) (ret := (some .boolean)) (lv := [(0, .int (nI i)), (1, .int (nI a)), (2, .int (nI b))]) (by decide +kernel) rfl rfl rfl (fun X C0 R0 => ?_)
  have Cx : kC X cX5_in wsX5_in RX5 { frames := 0, cells := 0, slots := 0, locals := 0 } "in" l D ty 3 := C0
  refine j_iload_n (pc' := 1) Cx dX5_in_0 rfl rfl rfl ?_
  refine j_iload_n (pc' := 2) Cx dX5_in_1 rfl rfl rfl ?_
  refine j_icmp_lt_n (tgt := 14) (pc' := 5) Cx dX5_in_2 (by decide) rfl (by omega) (by omega) (fun hh => absurd hh (by omega)) (fun _ => ?_)
  refine j_iload_n (pc' := 6) Cx dX5_in_5 rfl rfl rfl ?_
  refine j_iload_n (pc' := 7) Cx dX5_in_6 rfl rfl rfl ?_
  refine j_icmp_gt_n (tgt := 14) (pc' := 10) Cx dX5_in_7 (by decide) rfl (by omega) (by omega) (fun hh => absurd hh (by omega)) (fun _ => ?_)
  refine j_iconst (pc' := 11) (v := (nI 1)) Cx dX5_in_10 rfl (by decide) ?_
  refine j_goto (tgt := 15) Cx dX5_in_11 (by decide) ?_
  exact j_zret Cx dX5_in_15 R0 (by decide) ⟨Nat.le_of_ble_eq_true rfl, Nat.le_of_ble_eq_true rfl⟩ (⟨_, rfl, rfl, rfl⟩)

set_option maxHeartbeats 4000000 in
set_option maxRecDepth 100000 in
theorem c_X5_in_no (l : Launch) (D : va_G) (ty : Nat → ClassId) (x lo hi : Int32) (h : x < lo ∨ hi < x) : KM l yX5_in wsX5_in { frames := 0, cells := 0, slots := 0, locals := 0 } D ty [.int (x), .int (lo), .int (hi)] [] (kI (fun r u => r = nI 0 ∧ u = [])) 0 0 := by
  refine KM.of (cc := cX5_in) (maxL := 3) (ret := (some .boolean)) (lv := [(0, .int (x)), (1, .int (lo)), (2, .int (hi))]) (by decide +kernel) rfl rfl rfl (fun X C0 R0 => ?_)
  have Cx : kC X cX5_in wsX5_in RX5 { frames := 0, cells := 0, slots := 0, locals := 0 } "in" l D ty 3 := C0
  refine j_iload_n (pc' := 1) Cx dX5_in_0 rfl rfl rfl ?_
  refine j_iload_n (pc' := 2) Cx dX5_in_1 rfl rfl rfl ?_
  refine j_icmp_lt (tgt := 14) (pc' := 5) Cx dX5_in_2 (by decide) rfl (fun g0 => ?_) (fun g0 => ?_)
  · refine j_iconst (pc' := 15) (v := (nI 0)) Cx dX5_in_14 rfl (by decide) ?_
    exact j_zret Cx dX5_in_15 R0 (by decide) ⟨Nat.le_of_ble_eq_true rfl, Nat.le_of_ble_eq_true rfl⟩ (⟨_, rfl, rfl, rfl⟩)
  · refine j_iload_n (pc' := 6) Cx dX5_in_5 rfl rfl rfl ?_
    refine j_iload_n (pc' := 7) Cx dX5_in_6 rfl rfl rfl ?_
    refine j_icmp_gt (tgt := 14) (pc' := 10) Cx dX5_in_7 (by decide) rfl (fun _ => ?_) (fun hh => absurd hh (not_not_intro (h.resolve_left g0)))
    refine j_iconst (pc' := 15) (v := (nI 0)) Cx dX5_in_14 rfl (by decide) ?_
    exact j_zret Cx dX5_in_15 R0 (by decide) ⟨Nat.le_of_ble_eq_true rfl, Nat.le_of_ble_eq_true rfl⟩ (⟨_, rfl, rfl, rfl⟩)

set_option maxHeartbeats 4000000 in
set_option maxRecDepth 100000 in
theorem c_X5_isPlace (l : Launch) (D : va_G) (ty : Nat → ClassId) (m o1 o2 go gt po pt my no so W H C : Nat) (nw nh : Nat) (fa : Int32) (hW : W ≤ 24) (hH : H ≤ 24) (hW1 : 1 ≤ W) (hH1 : 1 ≤ H) (h1 : 1 ≤ C) (h3 : C ≤ 3) (i j : Nat) (hi : i < W) (hj : j < H) : KM l yX5_isPlace wsX5_isPlace { frames := 1, cells := 0, slots := 0, locals := 40 } D ty [.ref m, .int (nI i), .int (nI j)] [(m, .inr (5, [.int (nI W), .int (nI H), .int (nI C), .int (fa), .ref o1, .ref o2, .int (nI nw), .int (nI nh), .ref go, .ref gt, .ref po, .ref pt, .ref my, .ref no, .ref so]))] (kI (fun r u => r = nI 1 ∧ u = [(m, .inr (5, [.int (nI W), .int (nI H), .int (nI C), .int (fa), .ref o1, .ref o2, .int (nI nw), .int (nI nh), .ref go, .ref gt, .ref po, .ref pt, .ref my, .ref no, .ref so]))])) 0 0 := by
  refine KM.of (cc := cX5_isPlace) (maxL := 3) (ret := (some .boolean)) (lv := [(0, .ref m), (1, .int (nI i)), (2, .int (nI j))]) (by decide +kernel) rfl rfl rfl (fun X C0 R0 => ?_)
  have Cx : kC X cX5_isPlace wsX5_isPlace RX5 { frames := 1, cells := 0, slots := 0, locals := 40 } "isPlace" l D ty 3 := C0
  refine j_iload_n (pc' := 1) Cx dX5_isPlace_0 rfl rfl rfl ?_
  refine j_iconst (pc' := 2) (v := (nI 0)) Cx dX5_isPlace_1 rfl (by decide) ?_
  refine j_aload_n (pc' := 3) Cx dX5_isPlace_2 rfl rfl rfl ?_
  refine j_get (pc' := 6) (N := 15) Cx dX5_isPlace_3 rfl kin_X5_isPlace_X5 kfl_X5_isPlace_38 0 rfl rfl 0 rfl rfl rfl ?_
  refine j_iconst (pc' := 7) (v := (nI 1)) Cx dX5_isPlace_6 rfl (by decide) ?_
  refine j_isub_n (pc' := 8) Cx dX5_isPlace_7 rfl (by omega) ?_
  refine j_callS (pc' := 11) (wr := [(m, .inr (5, [.int (nI W), .int (nI H), .int (nI C), .int (fa), .ref o1, .ref o2, .int (nI nw), .int (nI nh), .ref go, .ref gt, .ref po, .ref pt, .ref my, .ref no, .ref so]))]) (st := []) Cx dX5_isPlace_8 rfl (c_X5_in l D ty i 0 (W - 1) (Nat.zero_le _) (by omega) (by omega)) gX5_isPlace_X5_in rfl khd_X5_in rfl ⟨rfl, rfl, Nat.le_of_ble_eq_true rfl, Nat.le_of_ble_eq_true rfl⟩ [] [0] rfl rfl ⟨rfl, rfl⟩ (by decide) rfl (Nat.le_of_ble_eq_true rfl) ⟨Nat.le_of_ble_eq_true rfl, Nat.le_of_ble_eq_true rfl⟩ (fun v u hpost => ?_)
  obtain ⟨r, rfl, rfl, rfl⟩ := hpost
  show J X [(m, .inr (5, [.int (nI W), .int (nI H), .int (nI C), .int (fa), .ref o1, .ref o2, .int (nI nw), .int (nI nh), .ref go, .ref gt, .ref po, .ref pt, .ref my, .ref no, .ref so]))] [(0, .ref m), (1, .int (nI i)), (2, .int (nI j))] 11 [.int (nI 1)] 0 0
  refine j_if_eq_n (tgt := 32) (pc' := 14) Cx dX5_isPlace_11 (by decide) rfl (by omega) (fun hh => absurd hh (by decide)) (fun _ => ?_)
  refine j_iload_n (pc' := 15) Cx dX5_isPlace_14 rfl rfl rfl ?_
  refine j_iconst (pc' := 16) (v := (nI 0)) Cx dX5_isPlace_15 rfl (by decide) ?_
  refine j_aload_n (pc' := 17) Cx dX5_isPlace_16 rfl rfl rfl ?_
  refine j_get (pc' := 20) (N := 15) Cx dX5_isPlace_17 rfl kin_X5_isPlace_X5 kfl_X5_isPlace_42 0 rfl rfl 1 rfl rfl rfl ?_
  refine j_iconst (pc' := 21) (v := (nI 1)) Cx dX5_isPlace_20 rfl (by decide) ?_
  refine j_isub_n (pc' := 22) Cx dX5_isPlace_21 rfl (by omega) ?_
  refine j_callS (pc' := 25) (wr := [(m, .inr (5, [.int (nI W), .int (nI H), .int (nI C), .int (fa), .ref o1, .ref o2, .int (nI nw), .int (nI nh), .ref go, .ref gt, .ref po, .ref pt, .ref my, .ref no, .ref so]))]) (st := []) Cx dX5_isPlace_22 rfl (c_X5_in l D ty j 0 (H - 1) (Nat.zero_le _) (by omega) (by omega)) gX5_isPlace_X5_in rfl khd_X5_in rfl ⟨rfl, rfl, Nat.le_of_ble_eq_true rfl, Nat.le_of_ble_eq_true rfl⟩ [] [0] rfl rfl ⟨rfl, rfl⟩ (by decide) rfl (Nat.le_of_ble_eq_true rfl) ⟨Nat.le_of_ble_eq_true rfl, Nat.le_of_ble_eq_true rfl⟩ (fun v u hpost => ?_)
  obtain ⟨r, rfl, rfl, rfl⟩ := hpost
  show J X [(m, .inr (5, [.int (nI W), .int (nI H), .int (nI C), .int (fa), .ref o1, .ref o2, .int (nI nw), .int (nI nh), .ref go, .ref gt, .ref po, .ref pt, .ref my, .ref no, .ref so]))] [(0, .ref m), (1, .int (nI i)), (2, .int (nI j))] 25 [.int (nI 1)] 0 0
  refine j_if_eq_n (tgt := 32) (pc' := 28) Cx dX5_isPlace_25 (by decide) rfl (by omega) (fun hh => absurd hh (by decide)) (fun _ => ?_)
  refine j_iconst (pc' := 29) (v := (nI 1)) Cx dX5_isPlace_28 rfl (by decide) ?_
  refine j_goto (tgt := 33) Cx dX5_isPlace_29 (by decide) ?_
  exact j_zret Cx dX5_isPlace_33 R0 (by decide) ⟨Nat.le_of_ble_eq_true rfl, Nat.le_of_ble_eq_true rfl⟩ (⟨_, rfl, rfl, rfl⟩)

set_option maxHeartbeats 4000000 in
set_option maxRecDepth 100000 in
theorem c_X5_isPlace_no (l : Launch) (D : va_G) (ty : Nat → ClassId) (m o1 o2 go gt po pt my no so W H C : Nat) (nw nh : Nat) (fa : Int32) (hW : W ≤ 24) (hH : H ≤ 24) (hW1 : 1 ≤ W) (hH1 : 1 ≤ H) (h1 : 1 ≤ C) (h3 : C ≤ 3) (x y : Int32) (hno : ¬ (kok x W ∧ kok y H)) : KM l yX5_isPlace wsX5_isPlace { frames := 1, cells := 0, slots := 0, locals := 40 } D ty [.ref m, .int (x), .int (y)] [(m, .inr (5, [.int (nI W), .int (nI H), .int (nI C), .int (fa), .ref o1, .ref o2, .int (nI nw), .int (nI nh), .ref go, .ref gt, .ref po, .ref pt, .ref my, .ref no, .ref so]))] (kI (fun r u => r = nI 0 ∧ u = [(m, .inr (5, [.int (nI W), .int (nI H), .int (nI C), .int (fa), .ref o1, .ref o2, .int (nI nw), .int (nI nh), .ref go, .ref gt, .ref po, .ref pt, .ref my, .ref no, .ref so]))])) 0 0 := by
  refine KM.of (cc := cX5_isPlace) (maxL := 3) (ret := (some .boolean)) (lv := [(0, .ref m), (1, .int (x)), (2, .int (y))]) (by decide +kernel) rfl rfl rfl (fun X C0 R0 => ?_)
  have Cx : kC X cX5_isPlace wsX5_isPlace RX5 { frames := 1, cells := 0, slots := 0, locals := 40 } "isPlace" l D ty 3 := C0
  rcases pk_ix x (n := W) (by omega) with hx | hx | ⟨i, hi, rfl⟩
  · refine j_iload_n (pc' := 1) Cx dX5_isPlace_0 rfl rfl rfl ?_
    refine j_iconst (pc' := 2) (v := (nI 0)) Cx dX5_isPlace_1 rfl (by decide) ?_
    refine j_aload_n (pc' := 3) Cx dX5_isPlace_2 rfl rfl rfl ?_
    refine j_get (pc' := 6) (N := 15) Cx dX5_isPlace_3 rfl kin_X5_isPlace_X5 kfl_X5_isPlace_38 0 rfl rfl 0 rfl rfl rfl ?_
    refine j_iconst (pc' := 7) (v := (nI 1)) Cx dX5_isPlace_6 rfl (by decide) ?_
    refine j_isub_n (pc' := 8) Cx dX5_isPlace_7 rfl (by omega) ?_
    refine j_callS (pc' := 11) (wr := [(m, .inr (5, [.int (nI W), .int (nI H), .int (nI C), .int (fa), .ref o1, .ref o2, .int (nI nw), .int (nI nh), .ref go, .ref gt, .ref po, .ref pt, .ref my, .ref no, .ref so]))]) (st := []) Cx dX5_isPlace_8 rfl (c_X5_in_no l D ty x (nI 0) (nI (W - 1)) (Or.inl (show x < nI 0 from hx))) gX5_isPlace_X5_in rfl khd_X5_in rfl ⟨rfl, rfl, Nat.le_of_ble_eq_true rfl, Nat.le_of_ble_eq_true rfl⟩ [] [0] rfl rfl ⟨rfl, rfl⟩ (by decide) rfl (Nat.le_of_ble_eq_true rfl) ⟨Nat.le_of_ble_eq_true rfl, Nat.le_of_ble_eq_true rfl⟩ (fun v u hpost => ?_)
    obtain ⟨r, rfl, rfl, rfl⟩ := hpost
    show J X [(m, .inr (5, [.int (nI W), .int (nI H), .int (nI C), .int (fa), .ref o1, .ref o2, .int (nI nw), .int (nI nh), .ref go, .ref gt, .ref po, .ref pt, .ref my, .ref no, .ref so]))] [(0, .ref m), (1, .int (x)), (2, .int (y))] 11 [.int (nI 0)] 0 0
    refine j_if_eq_n (tgt := 32) (pc' := 14) Cx dX5_isPlace_11 (by decide) rfl (by omega) (fun _ => ?_) (fun hh => absurd hh (by decide))
    refine j_iconst (pc' := 33) (v := (nI 0)) Cx dX5_isPlace_32 rfl (by decide) ?_
    exact j_zret Cx dX5_isPlace_33 R0 (by decide) ⟨Nat.le_of_ble_eq_true rfl, Nat.le_of_ble_eq_true rfl⟩ (⟨_, rfl, rfl, rfl⟩)
  · refine j_iload_n (pc' := 1) Cx dX5_isPlace_0 rfl rfl rfl ?_
    refine j_iconst (pc' := 2) (v := (nI 0)) Cx dX5_isPlace_1 rfl (by decide) ?_
    refine j_aload_n (pc' := 3) Cx dX5_isPlace_2 rfl rfl rfl ?_
    refine j_get (pc' := 6) (N := 15) Cx dX5_isPlace_3 rfl kin_X5_isPlace_X5 kfl_X5_isPlace_38 0 rfl rfl 0 rfl rfl rfl ?_
    refine j_iconst (pc' := 7) (v := (nI 1)) Cx dX5_isPlace_6 rfl (by decide) ?_
    refine j_isub_n (pc' := 8) Cx dX5_isPlace_7 rfl (by omega) ?_
    refine j_callS (pc' := 11) (wr := [(m, .inr (5, [.int (nI W), .int (nI H), .int (nI C), .int (fa), .ref o1, .ref o2, .int (nI nw), .int (nI nh), .ref go, .ref gt, .ref po, .ref pt, .ref my, .ref no, .ref so]))]) (st := []) Cx dX5_isPlace_8 rfl (c_X5_in_no l D ty x (nI 0) (nI (W - 1)) (Or.inr (k_pred hW1 (by omega) hx))) gX5_isPlace_X5_in rfl khd_X5_in rfl ⟨rfl, rfl, Nat.le_of_ble_eq_true rfl, Nat.le_of_ble_eq_true rfl⟩ [] [0] rfl rfl ⟨rfl, rfl⟩ (by decide) rfl (Nat.le_of_ble_eq_true rfl) ⟨Nat.le_of_ble_eq_true rfl, Nat.le_of_ble_eq_true rfl⟩ (fun v u hpost => ?_)
    obtain ⟨r, rfl, rfl, rfl⟩ := hpost
    show J X [(m, .inr (5, [.int (nI W), .int (nI H), .int (nI C), .int (fa), .ref o1, .ref o2, .int (nI nw), .int (nI nh), .ref go, .ref gt, .ref po, .ref pt, .ref my, .ref no, .ref so]))] [(0, .ref m), (1, .int (x)), (2, .int (y))] 11 [.int (nI 0)] 0 0
    refine j_if_eq_n (tgt := 32) (pc' := 14) Cx dX5_isPlace_11 (by decide) rfl (by omega) (fun _ => ?_) (fun hh => absurd hh (by decide))
    refine j_iconst (pc' := 33) (v := (nI 0)) Cx dX5_isPlace_32 rfl (by decide) ?_
    exact j_zret Cx dX5_isPlace_33 R0 (by decide) ⟨Nat.le_of_ble_eq_true rfl, Nat.le_of_ble_eq_true rfl⟩ (⟨_, rfl, rfl, rfl⟩)
  · rcases pk_ix y (n := H) (by omega) with hy | hy | ⟨j, hj, rfl⟩
    · refine j_iload_n (pc' := 1) Cx dX5_isPlace_0 rfl rfl rfl ?_
      refine j_iconst (pc' := 2) (v := (nI 0)) Cx dX5_isPlace_1 rfl (by decide) ?_
      refine j_aload_n (pc' := 3) Cx dX5_isPlace_2 rfl rfl rfl ?_
      refine j_get (pc' := 6) (N := 15) Cx dX5_isPlace_3 rfl kin_X5_isPlace_X5 kfl_X5_isPlace_38 0 rfl rfl 0 rfl rfl rfl ?_
      refine j_iconst (pc' := 7) (v := (nI 1)) Cx dX5_isPlace_6 rfl (by decide) ?_
      refine j_isub_n (pc' := 8) Cx dX5_isPlace_7 rfl (by omega) ?_
      refine j_callS (pc' := 11) (wr := [(m, .inr (5, [.int (nI W), .int (nI H), .int (nI C), .int (fa), .ref o1, .ref o2, .int (nI nw), .int (nI nh), .ref go, .ref gt, .ref po, .ref pt, .ref my, .ref no, .ref so]))]) (st := []) Cx dX5_isPlace_8 rfl (c_X5_in l D ty i 0 (W - 1) (Nat.zero_le _) (by omega) (by omega)) gX5_isPlace_X5_in rfl khd_X5_in rfl ⟨rfl, rfl, Nat.le_of_ble_eq_true rfl, Nat.le_of_ble_eq_true rfl⟩ [] [0] rfl rfl ⟨rfl, rfl⟩ (by decide) rfl (Nat.le_of_ble_eq_true rfl) ⟨Nat.le_of_ble_eq_true rfl, Nat.le_of_ble_eq_true rfl⟩ (fun v u hpost => ?_)
      obtain ⟨r, rfl, rfl, rfl⟩ := hpost
      show J X [(m, .inr (5, [.int (nI W), .int (nI H), .int (nI C), .int (fa), .ref o1, .ref o2, .int (nI nw), .int (nI nh), .ref go, .ref gt, .ref po, .ref pt, .ref my, .ref no, .ref so]))] [(0, .ref m), (1, .int (nI i)), (2, .int (y))] 11 [.int (nI 1)] 0 0
      refine j_if_eq_n (tgt := 32) (pc' := 14) Cx dX5_isPlace_11 (by decide) rfl (by omega) (fun hh => absurd hh (by decide)) (fun _ => ?_)
      refine j_iload_n (pc' := 15) Cx dX5_isPlace_14 rfl rfl rfl ?_
      refine j_iconst (pc' := 16) (v := (nI 0)) Cx dX5_isPlace_15 rfl (by decide) ?_
      refine j_aload_n (pc' := 17) Cx dX5_isPlace_16 rfl rfl rfl ?_
      refine j_get (pc' := 20) (N := 15) Cx dX5_isPlace_17 rfl kin_X5_isPlace_X5 kfl_X5_isPlace_42 0 rfl rfl 1 rfl rfl rfl ?_
      refine j_iconst (pc' := 21) (v := (nI 1)) Cx dX5_isPlace_20 rfl (by decide) ?_
      refine j_isub_n (pc' := 22) Cx dX5_isPlace_21 rfl (by omega) ?_
      refine j_callS (pc' := 25) (wr := [(m, .inr (5, [.int (nI W), .int (nI H), .int (nI C), .int (fa), .ref o1, .ref o2, .int (nI nw), .int (nI nh), .ref go, .ref gt, .ref po, .ref pt, .ref my, .ref no, .ref so]))]) (st := []) Cx dX5_isPlace_22 rfl (c_X5_in_no l D ty y (nI 0) (nI (H - 1)) (Or.inl (show y < nI 0 from hy))) gX5_isPlace_X5_in rfl khd_X5_in rfl ⟨rfl, rfl, Nat.le_of_ble_eq_true rfl, Nat.le_of_ble_eq_true rfl⟩ [] [0] rfl rfl ⟨rfl, rfl⟩ (by decide) rfl (Nat.le_of_ble_eq_true rfl) ⟨Nat.le_of_ble_eq_true rfl, Nat.le_of_ble_eq_true rfl⟩ (fun v u hpost => ?_)
      obtain ⟨r, rfl, rfl, rfl⟩ := hpost
      show J X [(m, .inr (5, [.int (nI W), .int (nI H), .int (nI C), .int (fa), .ref o1, .ref o2, .int (nI nw), .int (nI nh), .ref go, .ref gt, .ref po, .ref pt, .ref my, .ref no, .ref so]))] [(0, .ref m), (1, .int (nI i)), (2, .int (y))] 25 [.int (nI 0)] 0 0
      refine j_if_eq_n (tgt := 32) (pc' := 28) Cx dX5_isPlace_25 (by decide) rfl (by omega) (fun _ => ?_) (fun hh => absurd hh (by decide))
      refine j_iconst (pc' := 33) (v := (nI 0)) Cx dX5_isPlace_32 rfl (by decide) ?_
      exact j_zret Cx dX5_isPlace_33 R0 (by decide) ⟨Nat.le_of_ble_eq_true rfl, Nat.le_of_ble_eq_true rfl⟩ (⟨_, rfl, rfl, rfl⟩)
    · refine j_iload_n (pc' := 1) Cx dX5_isPlace_0 rfl rfl rfl ?_
      refine j_iconst (pc' := 2) (v := (nI 0)) Cx dX5_isPlace_1 rfl (by decide) ?_
      refine j_aload_n (pc' := 3) Cx dX5_isPlace_2 rfl rfl rfl ?_
      refine j_get (pc' := 6) (N := 15) Cx dX5_isPlace_3 rfl kin_X5_isPlace_X5 kfl_X5_isPlace_38 0 rfl rfl 0 rfl rfl rfl ?_
      refine j_iconst (pc' := 7) (v := (nI 1)) Cx dX5_isPlace_6 rfl (by decide) ?_
      refine j_isub_n (pc' := 8) Cx dX5_isPlace_7 rfl (by omega) ?_
      refine j_callS (pc' := 11) (wr := [(m, .inr (5, [.int (nI W), .int (nI H), .int (nI C), .int (fa), .ref o1, .ref o2, .int (nI nw), .int (nI nh), .ref go, .ref gt, .ref po, .ref pt, .ref my, .ref no, .ref so]))]) (st := []) Cx dX5_isPlace_8 rfl (c_X5_in l D ty i 0 (W - 1) (Nat.zero_le _) (by omega) (by omega)) gX5_isPlace_X5_in rfl khd_X5_in rfl ⟨rfl, rfl, Nat.le_of_ble_eq_true rfl, Nat.le_of_ble_eq_true rfl⟩ [] [0] rfl rfl ⟨rfl, rfl⟩ (by decide) rfl (Nat.le_of_ble_eq_true rfl) ⟨Nat.le_of_ble_eq_true rfl, Nat.le_of_ble_eq_true rfl⟩ (fun v u hpost => ?_)
      obtain ⟨r, rfl, rfl, rfl⟩ := hpost
      show J X [(m, .inr (5, [.int (nI W), .int (nI H), .int (nI C), .int (fa), .ref o1, .ref o2, .int (nI nw), .int (nI nh), .ref go, .ref gt, .ref po, .ref pt, .ref my, .ref no, .ref so]))] [(0, .ref m), (1, .int (nI i)), (2, .int (y))] 11 [.int (nI 1)] 0 0
      refine j_if_eq_n (tgt := 32) (pc' := 14) Cx dX5_isPlace_11 (by decide) rfl (by omega) (fun hh => absurd hh (by decide)) (fun _ => ?_)
      refine j_iload_n (pc' := 15) Cx dX5_isPlace_14 rfl rfl rfl ?_
      refine j_iconst (pc' := 16) (v := (nI 0)) Cx dX5_isPlace_15 rfl (by decide) ?_
      refine j_aload_n (pc' := 17) Cx dX5_isPlace_16 rfl rfl rfl ?_
      refine j_get (pc' := 20) (N := 15) Cx dX5_isPlace_17 rfl kin_X5_isPlace_X5 kfl_X5_isPlace_42 0 rfl rfl 1 rfl rfl rfl ?_
      refine j_iconst (pc' := 21) (v := (nI 1)) Cx dX5_isPlace_20 rfl (by decide) ?_
      refine j_isub_n (pc' := 22) Cx dX5_isPlace_21 rfl (by omega) ?_
      refine j_callS (pc' := 25) (wr := [(m, .inr (5, [.int (nI W), .int (nI H), .int (nI C), .int (fa), .ref o1, .ref o2, .int (nI nw), .int (nI nh), .ref go, .ref gt, .ref po, .ref pt, .ref my, .ref no, .ref so]))]) (st := []) Cx dX5_isPlace_22 rfl (c_X5_in_no l D ty y (nI 0) (nI (H - 1)) (Or.inr (k_pred hH1 (by omega) hy))) gX5_isPlace_X5_in rfl khd_X5_in rfl ⟨rfl, rfl, Nat.le_of_ble_eq_true rfl, Nat.le_of_ble_eq_true rfl⟩ [] [0] rfl rfl ⟨rfl, rfl⟩ (by decide) rfl (Nat.le_of_ble_eq_true rfl) ⟨Nat.le_of_ble_eq_true rfl, Nat.le_of_ble_eq_true rfl⟩ (fun v u hpost => ?_)
      obtain ⟨r, rfl, rfl, rfl⟩ := hpost
      show J X [(m, .inr (5, [.int (nI W), .int (nI H), .int (nI C), .int (fa), .ref o1, .ref o2, .int (nI nw), .int (nI nh), .ref go, .ref gt, .ref po, .ref pt, .ref my, .ref no, .ref so]))] [(0, .ref m), (1, .int (nI i)), (2, .int (y))] 25 [.int (nI 0)] 0 0
      refine j_if_eq_n (tgt := 32) (pc' := 28) Cx dX5_isPlace_25 (by decide) rfl (by omega) (fun _ => ?_) (fun hh => absurd hh (by decide))
      refine j_iconst (pc' := 33) (v := (nI 0)) Cx dX5_isPlace_32 rfl (by decide) ?_
      exact j_zret Cx dX5_isPlace_33 R0 (by decide) ⟨Nat.le_of_ble_eq_true rfl, Nat.le_of_ble_eq_true rfl⟩ (⟨_, rfl, rfl, rfl⟩)
    · exact absurd ⟨⟨i, hi, rfl⟩, ⟨j, hj, rfl⟩⟩ hno

set_option maxHeartbeats 4000000 in
set_option maxRecDepth 100000 in
theorem c_X5_places (l : Launch) (D : va_G) (ty : Nat → ClassId) (m o1 o2 go gt po pt my no so W H C : Nat) (nw nh : Nat) (fa : Int32) : KM l yX5_places wsX5_places { frames := 0, cells := 0, slots := 0, locals := 0 } D ty [.ref m] [(m, .inr (5, [.int (nI W), .int (nI H), .int (nI C), .int (fa), .ref o1, .ref o2, .int (nI nw), .int (nI nh), .ref go, .ref gt, .ref po, .ref pt, .ref my, .ref no, .ref so]))] (kI (fun r u => r = nI (W * H) ∧ u = [(m, .inr (5, [.int (nI W), .int (nI H), .int (nI C), .int (fa), .ref o1, .ref o2, .int (nI nw), .int (nI nh), .ref go, .ref gt, .ref po, .ref pt, .ref my, .ref no, .ref so]))])) 0 0 := by
  refine KM.of (cc := cX5_places) (maxL := 1) (ret := (some .int)) (lv := [(0, .ref m)]) (by decide +kernel) rfl rfl rfl (fun X C0 R0 => ?_)
  have Cx : kC X cX5_places wsX5_places RX5 { frames := 0, cells := 0, slots := 0, locals := 0 } "places" l D ty 1 := C0
  refine j_aload_n (pc' := 1) Cx dX5_places_0 rfl rfl rfl ?_
  refine j_get (pc' := 4) (N := 15) Cx dX5_places_1 rfl kin_X5_places_X5 kfl_X5_places_38 0 rfl rfl 0 rfl rfl rfl ?_
  refine j_aload_n (pc' := 5) Cx dX5_places_4 rfl rfl rfl ?_
  refine j_get (pc' := 8) (N := 15) Cx dX5_places_5 rfl kin_X5_places_X5 kfl_X5_places_42 0 rfl rfl 1 rfl rfl rfl ?_
  refine j_imul_n (pc' := 9) Cx dX5_places_8 rfl ?_
  exact j_iret Cx dX5_places_9 R0 ⟨Nat.le_of_ble_eq_true rfl, Nat.le_of_ble_eq_true rfl⟩ (⟨_, rfl, rfl, rfl⟩)

set_option maxHeartbeats 4000000 in
set_option maxRecDepth 100000 in
theorem c_X5_put_ok1 (l : Launch) (D : va_G) (ty : Nat → ClassId) (m o1 o2 go gt po pt my no so W H C : Nat) (nw nh : Nat) (fa : Int32) (hW : W ≤ 24) (hH : H ≤ 24) (hW1 : 1 ≤ W) (hH1 : 1 ≤ H) (h1 : 1 ≤ C) (h3 : C ≤ 3) (O T : Nat → Nat) (b : Int32) (hb : ¬ b = 0) (i j c z : Nat) (hi : i < W) (hj : j < H) (hc : c < C) (hz : z < 256) : KM l yX5_put wsX5_put { frames := 2, cells := 0, slots := 0, locals := 80 } D ty [.ref m, .int (b), .int (nI i), .int (nI j), .int (nI c), .int (nI z)] [(m, .inr (5, [.int (nI W), .int (nI H), .int (nI C), .int (fa), .ref o1, .ref o2, .int (nI nw), .int (nI nh), .ref go, .ref gt, .ref po, .ref pt, .ref my, .ref no, .ref so])), (o1, .inl (ty 0, 1728, .inl (kN O))), (o2, .inl (ty 0, 1728, .inl (kN T)))] (kI (fun r u => r = nI (O (3 * (W * j + i) + c)) ∧ u = [(m, .inr (5, [.int (nI W), .int (nI H), .int (nI C), .int (nI 0), .ref o1, .ref o2, .int (nI nw), .int (nI nh), .ref go, .ref gt, .ref po, .ref pt, .ref my, .ref no, .ref so])), (o1, .inl (ty 0, 1728, .inl (kN (va_up O (3 * (W * j + i) + c) z)))), (o2, .inl (ty 0, 1728, .inl (kN T)))])) 0 0 := by
  refine KM.of (cc := cX5_put) (maxL := 8) (ret := (some .int)) (lv := [(0, .ref m), (1, .int (b)), (2, .int (nI i)), (3, .int (nI j)), (4, .int (nI c)), (5, .int (nI z))]) (by decide +kernel) rfl rfl rfl (fun X C0 R0 => ?_)
  have Cx : kC X cX5_put wsX5_put RX5 { frames := 2, cells := 0, slots := 0, locals := 80 } "put" l D ty 8 := C0
  have hwh := k_wh hW hH
  have hp := k_idx' hi hj
  refine j_aload_n (pc' := 1) Cx dX5_put_0 rfl rfl rfl ?_
  refine j_aload_n (pc' := 2) Cx dX5_put_1 rfl rfl rfl ?_
  refine j_iload_n (pc' := 3) Cx dX5_put_2 rfl rfl rfl ?_
  refine j_iload_n (pc' := 4) Cx dX5_put_3 rfl rfl rfl ?_
  refine j_callV (pc' := 7) (wr := [(o1, .inl (ty 0, 1728, .inl (kN O))), (o2, .inl (ty 0, 1728, .inl (kN T)))]) (st := [.ref m]) Cx dX5_put_4 rfl (c_X5_isPlace l D ty m o1 o2 go gt po pt my no so W H C nw nh fa hW hH hW1 hH1 h1 h3 i j hi hj) gX5_put_X5_isPlace rfl khd_X5_isPlace rfl ⟨rfl, rfl, Nat.le_of_ble_eq_true rfl, Nat.le_of_ble_eq_true rfl⟩ [0] [1, 2] rfl rfl ⟨rfl, rfl⟩ (by decide) 0 rfl rfl rfl (Nat.le_of_ble_eq_true rfl) ⟨Nat.le_of_ble_eq_true rfl, Nat.le_of_ble_eq_true rfl⟩ (fun v u hpost => ?_)
  obtain ⟨r, rfl, rfl, rfl⟩ := hpost
  show J X [(o1, .inl (ty 0, 1728, .inl (kN O))), (o2, .inl (ty 0, 1728, .inl (kN T))), (m, .inr (5, [.int (nI W), .int (nI H), .int (nI C), .int (fa), .ref o1, .ref o2, .int (nI nw), .int (nI nh), .ref go, .ref gt, .ref po, .ref pt, .ref my, .ref no, .ref so]))] [(0, .ref m), (1, .int (b)), (2, .int (nI i)), (3, .int (nI j)), (4, .int (nI c)), (5, .int (nI z))] 7 [.int (nI 1), .ref m] 0 0
  refine J.sub (ws' := [(m, .inr (5, [.int (nI W), .int (nI H), .int (nI C), .int (fa), .ref o1, .ref o2, .int (nI nw), .int (nI nh), .ref go, .ref gt, .ref po, .ref pt, .ref my, .ref no, .ref so])), (o1, .inl (ty 0, 1728, .inl (kN O))), (o2, .inl (ty 0, 1728, .inl (kN T)))]) [2, 0, 1] rfl rfl ?_
  refine j_if_eq_n (tgt := 25) (pc' := 10) Cx dX5_put_7 (by decide) rfl (by omega) (fun hh => absurd hh (by decide)) (fun _ => ?_)
  refine j_iload (pc' := 12) Cx dX5_put_10 rfl rfl ?_
  refine j_iconst (pc' := 13) (v := (nI 0)) Cx dX5_put_12 rfl (by decide) ?_
  refine j_aload_n (pc' := 14) Cx dX5_put_13 rfl rfl rfl ?_
  refine j_get (pc' := 17) (N := 15) Cx dX5_put_14 rfl kin_X5_put_X5 kfl_X5_put_45 0 rfl rfl 2 rfl rfl rfl ?_
  refine j_iconst (pc' := 18) (v := (nI 1)) Cx dX5_put_17 rfl (by decide) ?_
  refine j_isub_n (pc' := 19) Cx dX5_put_18 rfl (by omega) ?_
  refine j_callS (pc' := 22) (wr := [(m, .inr (5, [.int (nI W), .int (nI H), .int (nI C), .int (fa), .ref o1, .ref o2, .int (nI nw), .int (nI nh), .ref go, .ref gt, .ref po, .ref pt, .ref my, .ref no, .ref so])), (o1, .inl (ty 0, 1728, .inl (kN O))), (o2, .inl (ty 0, 1728, .inl (kN T)))]) (st := [.ref m]) Cx dX5_put_19 rfl (c_X5_in l D ty c 0 (C - 1) (Nat.zero_le _) (by omega) (by omega)) gX5_put_X5_in rfl khd_X5_in rfl ⟨rfl, rfl, Nat.le_of_ble_eq_true rfl, Nat.le_of_ble_eq_true rfl⟩ [] [0, 1, 2] rfl rfl ⟨rfl, rfl⟩ (by decide) rfl (Nat.le_of_ble_eq_true rfl) ⟨Nat.le_of_ble_eq_true rfl, Nat.le_of_ble_eq_true rfl⟩ (fun v u hpost => ?_)
  obtain ⟨r, rfl, rfl, rfl⟩ := hpost
  show J X [(m, .inr (5, [.int (nI W), .int (nI H), .int (nI C), .int (fa), .ref o1, .ref o2, .int (nI nw), .int (nI nh), .ref go, .ref gt, .ref po, .ref pt, .ref my, .ref no, .ref so])), (o1, .inl (ty 0, 1728, .inl (kN O))), (o2, .inl (ty 0, 1728, .inl (kN T)))] [(0, .ref m), (1, .int (b)), (2, .int (nI i)), (3, .int (nI j)), (4, .int (nI c)), (5, .int (nI z))] 22 [.int (nI 1), .ref m] 0 0
  refine j_if_ne_n (tgt := 29) (pc' := 25) Cx dX5_put_22 (by decide) rfl (by omega) (fun _ => ?_) (fun hh => absurd hh (by decide))
  refine j_iload (pc' := 31) Cx dX5_put_29 rfl rfl ?_
  refine j_iconst (pc' := 32) (v := (nI 0)) Cx dX5_put_31 rfl (by decide) ?_
  refine j_sipush (pc' := 35) (v := (nI 255)) Cx dX5_put_32 rfl (by decide) ?_
  refine j_callS (pc' := 38) (wr := [(m, .inr (5, [.int (nI W), .int (nI H), .int (nI C), .int (fa), .ref o1, .ref o2, .int (nI nw), .int (nI nh), .ref go, .ref gt, .ref po, .ref pt, .ref my, .ref no, .ref so])), (o1, .inl (ty 0, 1728, .inl (kN O))), (o2, .inl (ty 0, 1728, .inl (kN T)))]) (st := [.ref m]) Cx dX5_put_35 rfl (c_X5_in l D ty z 0 255 (Nat.zero_le _) (by omega) (by decide)) gX5_put_X5_in rfl khd_X5_in rfl ⟨rfl, rfl, Nat.le_of_ble_eq_true rfl, Nat.le_of_ble_eq_true rfl⟩ [] [0, 1, 2] rfl rfl ⟨rfl, rfl⟩ (by decide) rfl (Nat.le_of_ble_eq_true rfl) ⟨Nat.le_of_ble_eq_true rfl, Nat.le_of_ble_eq_true rfl⟩ (fun v u hpost => ?_)
  obtain ⟨r, rfl, rfl, rfl⟩ := hpost
  show J X [(m, .inr (5, [.int (nI W), .int (nI H), .int (nI C), .int (fa), .ref o1, .ref o2, .int (nI nw), .int (nI nh), .ref go, .ref gt, .ref po, .ref pt, .ref my, .ref no, .ref so])), (o1, .inl (ty 0, 1728, .inl (kN O))), (o2, .inl (ty 0, 1728, .inl (kN T)))] [(0, .ref m), (1, .int (b)), (2, .int (nI i)), (3, .int (nI j)), (4, .int (nI c)), (5, .int (nI z))] 38 [.int (nI 1), .ref m] 0 0
  refine j_if_ne_n (tgt := 45) (pc' := 41) Cx dX5_put_38 (by decide) rfl (by omega) (fun _ => ?_) (fun hh => absurd hh (by decide))
  refine j_iconst (pc' := 46) (v := (nI 0)) Cx dX5_put_45 rfl (by decide) ?_
  refine j_put (pc' := 49) (N := 15) (t := .int) (ws' := [(m, .inr (5, [.int (nI W), .int (nI H), .int (nI C), .int (nI 0), .ref o1, .ref o2, .int (nI nw), .int (nI nh), .ref go, .ref gt, .ref po, .ref pt, .ref my, .ref no, .ref so])), (o1, .inl (ty 0, 1728, .inl (kN O))), (o2, .inl (ty 0, 1728, .inl (kN T)))]) Cx dX5_put_46 rfl kin_X5_put_X5 kfl_X5_put_48 tyX5_ok nmX5 0 rfl rfl 3 rfl rfl rfl rfl rfl rfl rfl ?_
  refine j_aload_n (pc' := 50) Cx dX5_put_49 rfl rfl rfl ?_
  refine j_get (pc' := 53) (N := 15) Cx dX5_put_50 rfl kin_X5_put_X5 kfl_X5_put_48 0 rfl rfl 3 rfl rfl rfl ?_
  refine j_if_le_n (tgt := 58) (pc' := 56) Cx dX5_put_53 (by decide) rfl (by omega) (fun _ => ?_) (fun hh => absurd hh (by decide))
  refine j_iconst (pc' := 59) (v := (nI 3)) Cx dX5_put_58 rfl (by decide) ?_
  refine j_aload_n (pc' := 60) Cx dX5_put_59 rfl rfl rfl ?_
  refine j_get (pc' := 63) (N := 15) Cx dX5_put_60 rfl kin_X5_put_X5 kfl_X5_put_38 0 rfl rfl 0 rfl rfl rfl ?_
  refine j_iload_n (pc' := 64) Cx dX5_put_63 rfl rfl rfl ?_
  refine j_imul_n (pc' := 65) Cx dX5_put_64 rfl ?_
  refine j_iload_n (pc' := 66) Cx dX5_put_65 rfl rfl rfl ?_
  refine j_iadd_n (pc' := 67) Cx dX5_put_66 rfl ?_
  refine j_imul_n (pc' := 68) Cx dX5_put_67 rfl ?_
  refine j_iload (pc' := 70) Cx dX5_put_68 rfl rfl ?_
  refine j_iadd_n (pc' := 71) Cx dX5_put_70 rfl ?_
  refine j_istore (pc' := 73) (lv' := [(0, .ref m), (1, .int (b)), (2, .int (nI i)), (3, .int (nI j)), (4, .int (nI c)), (5, .int (nI z)), (6, .int (nI ((3 * ((W * j) + i)) + c)))]) Cx dX5_put_71 rfl (by decide) rfl ?_
  refine j_iload_n (pc' := 74) Cx dX5_put_73 rfl rfl rfl ?_
  refine j_if_eq (tgt := 87) (pc' := 77) Cx dX5_put_74 (by decide) rfl (fun hh => absurd hh (hb)) (fun _ => ?_)
  refine j_aload_n (pc' := 78) Cx dX5_put_77 rfl rfl rfl ?_
  refine j_get (pc' := 81) (N := 15) Cx dX5_put_78 rfl kin_X5_put_X5 kfl_X5_put_7 0 rfl rfl 4 rfl rfl rfl ?_
  refine j_iload (pc' := 83) Cx dX5_put_81 rfl rfl ?_
  refine j_iaload_nn (pc' := 84) Cx dX5_put_83 rfl 1 rfl (by omega) (by omega) ?_
  refine j_goto (tgt := 94) Cx dX5_put_84 (by decide) ?_
  refine j_istore (pc' := 96) (lv' := [(0, .ref m), (1, .int (b)), (2, .int (nI i)), (3, .int (nI j)), (4, .int (nI c)), (5, .int (nI z)), (6, .int (nI ((3 * ((W * j) + i)) + c))), (7, .int (nI (O ((3 * ((W * j) + i)) + c))))]) Cx dX5_put_94 rfl (by decide) rfl ?_
  refine j_iload_n (pc' := 97) Cx dX5_put_96 rfl rfl rfl ?_
  refine j_if_eq (tgt := 112) (pc' := 100) Cx dX5_put_97 (by decide) rfl (fun hh => absurd hh (hb)) (fun _ => ?_)
  refine j_aload_n (pc' := 101) Cx dX5_put_100 rfl rfl rfl ?_
  refine j_get (pc' := 104) (N := 15) Cx dX5_put_101 rfl kin_X5_put_X5 kfl_X5_put_7 0 rfl rfl 4 rfl rfl rfl ?_
  refine j_iload (pc' := 106) Cx dX5_put_104 rfl rfl ?_
  refine j_iload (pc' := 108) Cx dX5_put_106 rfl rfl ?_
  refine j_iastore_nn (pc' := 109) (ws' := [(m, .inr (5, [.int (nI W), .int (nI H), .int (nI C), .int (nI 0), .ref o1, .ref o2, .int (nI nw), .int (nI nh), .ref go, .ref gt, .ref po, .ref pt, .ref my, .ref no, .ref so])), (o1, .inl (ty 0, 1728, .inl (kN (va_up O ((3 * ((W * j) + i)) + c) z)))), (o2, .inl (ty 0, 1728, .inl (kN T)))]) Cx dX5_put_108 rfl 1 rfl (by omega) (by omega) rfl ?_
  refine j_goto (tgt := 121) Cx dX5_put_109 (by decide) ?_
  refine j_iload (pc' := 123) Cx dX5_put_121 rfl rfl ?_
  exact j_iret Cx dX5_put_123 R0 ⟨Nat.le_of_ble_eq_true rfl, Nat.le_of_ble_eq_true rfl⟩ (⟨_, rfl, rfl, rfl⟩)

set_option maxHeartbeats 4000000 in
set_option maxRecDepth 100000 in
theorem c_X5_put_ok2 (l : Launch) (D : va_G) (ty : Nat → ClassId) (m o1 o2 go gt po pt my no so W H C : Nat) (nw nh : Nat) (fa : Int32) (hW : W ≤ 24) (hH : H ≤ 24) (hW1 : 1 ≤ W) (hH1 : 1 ≤ H) (h1 : 1 ≤ C) (h3 : C ≤ 3) (O T : Nat → Nat) (b : Int32) (hb : b = 0) (i j c z : Nat) (hi : i < W) (hj : j < H) (hc : c < C) (hz : z < 256) : KM l yX5_put wsX5_put { frames := 2, cells := 0, slots := 0, locals := 80 } D ty [.ref m, .int (b), .int (nI i), .int (nI j), .int (nI c), .int (nI z)] [(m, .inr (5, [.int (nI W), .int (nI H), .int (nI C), .int (fa), .ref o1, .ref o2, .int (nI nw), .int (nI nh), .ref go, .ref gt, .ref po, .ref pt, .ref my, .ref no, .ref so])), (o1, .inl (ty 0, 1728, .inl (kN O))), (o2, .inl (ty 0, 1728, .inl (kN T)))] (kI (fun r u => r = nI (T (3 * (W * j + i) + c)) ∧ u = [(m, .inr (5, [.int (nI W), .int (nI H), .int (nI C), .int (nI 0), .ref o1, .ref o2, .int (nI nw), .int (nI nh), .ref go, .ref gt, .ref po, .ref pt, .ref my, .ref no, .ref so])), (o1, .inl (ty 0, 1728, .inl (kN O))), (o2, .inl (ty 0, 1728, .inl (kN (va_up T (3 * (W * j + i) + c) z))))])) 0 0 := by
  refine KM.of (cc := cX5_put) (maxL := 8) (ret := (some .int)) (lv := [(0, .ref m), (1, .int (b)), (2, .int (nI i)), (3, .int (nI j)), (4, .int (nI c)), (5, .int (nI z))]) (by decide +kernel) rfl rfl rfl (fun X C0 R0 => ?_)
  have Cx : kC X cX5_put wsX5_put RX5 { frames := 2, cells := 0, slots := 0, locals := 80 } "put" l D ty 8 := C0
  have hwh := k_wh hW hH
  have hp := k_idx' hi hj
  refine j_aload_n (pc' := 1) Cx dX5_put_0 rfl rfl rfl ?_
  refine j_aload_n (pc' := 2) Cx dX5_put_1 rfl rfl rfl ?_
  refine j_iload_n (pc' := 3) Cx dX5_put_2 rfl rfl rfl ?_
  refine j_iload_n (pc' := 4) Cx dX5_put_3 rfl rfl rfl ?_
  refine j_callV (pc' := 7) (wr := [(o1, .inl (ty 0, 1728, .inl (kN O))), (o2, .inl (ty 0, 1728, .inl (kN T)))]) (st := [.ref m]) Cx dX5_put_4 rfl (c_X5_isPlace l D ty m o1 o2 go gt po pt my no so W H C nw nh fa hW hH hW1 hH1 h1 h3 i j hi hj) gX5_put_X5_isPlace rfl khd_X5_isPlace rfl ⟨rfl, rfl, Nat.le_of_ble_eq_true rfl, Nat.le_of_ble_eq_true rfl⟩ [0] [1, 2] rfl rfl ⟨rfl, rfl⟩ (by decide) 0 rfl rfl rfl (Nat.le_of_ble_eq_true rfl) ⟨Nat.le_of_ble_eq_true rfl, Nat.le_of_ble_eq_true rfl⟩ (fun v u hpost => ?_)
  obtain ⟨r, rfl, rfl, rfl⟩ := hpost
  show J X [(o1, .inl (ty 0, 1728, .inl (kN O))), (o2, .inl (ty 0, 1728, .inl (kN T))), (m, .inr (5, [.int (nI W), .int (nI H), .int (nI C), .int (fa), .ref o1, .ref o2, .int (nI nw), .int (nI nh), .ref go, .ref gt, .ref po, .ref pt, .ref my, .ref no, .ref so]))] [(0, .ref m), (1, .int (b)), (2, .int (nI i)), (3, .int (nI j)), (4, .int (nI c)), (5, .int (nI z))] 7 [.int (nI 1), .ref m] 0 0
  refine J.sub (ws' := [(m, .inr (5, [.int (nI W), .int (nI H), .int (nI C), .int (fa), .ref o1, .ref o2, .int (nI nw), .int (nI nh), .ref go, .ref gt, .ref po, .ref pt, .ref my, .ref no, .ref so])), (o1, .inl (ty 0, 1728, .inl (kN O))), (o2, .inl (ty 0, 1728, .inl (kN T)))]) [2, 0, 1] rfl rfl ?_
  refine j_if_eq_n (tgt := 25) (pc' := 10) Cx dX5_put_7 (by decide) rfl (by omega) (fun hh => absurd hh (by decide)) (fun _ => ?_)
  refine j_iload (pc' := 12) Cx dX5_put_10 rfl rfl ?_
  refine j_iconst (pc' := 13) (v := (nI 0)) Cx dX5_put_12 rfl (by decide) ?_
  refine j_aload_n (pc' := 14) Cx dX5_put_13 rfl rfl rfl ?_
  refine j_get (pc' := 17) (N := 15) Cx dX5_put_14 rfl kin_X5_put_X5 kfl_X5_put_45 0 rfl rfl 2 rfl rfl rfl ?_
  refine j_iconst (pc' := 18) (v := (nI 1)) Cx dX5_put_17 rfl (by decide) ?_
  refine j_isub_n (pc' := 19) Cx dX5_put_18 rfl (by omega) ?_
  refine j_callS (pc' := 22) (wr := [(m, .inr (5, [.int (nI W), .int (nI H), .int (nI C), .int (fa), .ref o1, .ref o2, .int (nI nw), .int (nI nh), .ref go, .ref gt, .ref po, .ref pt, .ref my, .ref no, .ref so])), (o1, .inl (ty 0, 1728, .inl (kN O))), (o2, .inl (ty 0, 1728, .inl (kN T)))]) (st := [.ref m]) Cx dX5_put_19 rfl (c_X5_in l D ty c 0 (C - 1) (Nat.zero_le _) (by omega) (by omega)) gX5_put_X5_in rfl khd_X5_in rfl ⟨rfl, rfl, Nat.le_of_ble_eq_true rfl, Nat.le_of_ble_eq_true rfl⟩ [] [0, 1, 2] rfl rfl ⟨rfl, rfl⟩ (by decide) rfl (Nat.le_of_ble_eq_true rfl) ⟨Nat.le_of_ble_eq_true rfl, Nat.le_of_ble_eq_true rfl⟩ (fun v u hpost => ?_)
  obtain ⟨r, rfl, rfl, rfl⟩ := hpost
  show J X [(m, .inr (5, [.int (nI W), .int (nI H), .int (nI C), .int (fa), .ref o1, .ref o2, .int (nI nw), .int (nI nh), .ref go, .ref gt, .ref po, .ref pt, .ref my, .ref no, .ref so])), (o1, .inl (ty 0, 1728, .inl (kN O))), (o2, .inl (ty 0, 1728, .inl (kN T)))] [(0, .ref m), (1, .int (b)), (2, .int (nI i)), (3, .int (nI j)), (4, .int (nI c)), (5, .int (nI z))] 22 [.int (nI 1), .ref m] 0 0
  refine j_if_ne_n (tgt := 29) (pc' := 25) Cx dX5_put_22 (by decide) rfl (by omega) (fun _ => ?_) (fun hh => absurd hh (by decide))
  refine j_iload (pc' := 31) Cx dX5_put_29 rfl rfl ?_
  refine j_iconst (pc' := 32) (v := (nI 0)) Cx dX5_put_31 rfl (by decide) ?_
  refine j_sipush (pc' := 35) (v := (nI 255)) Cx dX5_put_32 rfl (by decide) ?_
  refine j_callS (pc' := 38) (wr := [(m, .inr (5, [.int (nI W), .int (nI H), .int (nI C), .int (fa), .ref o1, .ref o2, .int (nI nw), .int (nI nh), .ref go, .ref gt, .ref po, .ref pt, .ref my, .ref no, .ref so])), (o1, .inl (ty 0, 1728, .inl (kN O))), (o2, .inl (ty 0, 1728, .inl (kN T)))]) (st := [.ref m]) Cx dX5_put_35 rfl (c_X5_in l D ty z 0 255 (Nat.zero_le _) (by omega) (by decide)) gX5_put_X5_in rfl khd_X5_in rfl ⟨rfl, rfl, Nat.le_of_ble_eq_true rfl, Nat.le_of_ble_eq_true rfl⟩ [] [0, 1, 2] rfl rfl ⟨rfl, rfl⟩ (by decide) rfl (Nat.le_of_ble_eq_true rfl) ⟨Nat.le_of_ble_eq_true rfl, Nat.le_of_ble_eq_true rfl⟩ (fun v u hpost => ?_)
  obtain ⟨r, rfl, rfl, rfl⟩ := hpost
  show J X [(m, .inr (5, [.int (nI W), .int (nI H), .int (nI C), .int (fa), .ref o1, .ref o2, .int (nI nw), .int (nI nh), .ref go, .ref gt, .ref po, .ref pt, .ref my, .ref no, .ref so])), (o1, .inl (ty 0, 1728, .inl (kN O))), (o2, .inl (ty 0, 1728, .inl (kN T)))] [(0, .ref m), (1, .int (b)), (2, .int (nI i)), (3, .int (nI j)), (4, .int (nI c)), (5, .int (nI z))] 38 [.int (nI 1), .ref m] 0 0
  refine j_if_ne_n (tgt := 45) (pc' := 41) Cx dX5_put_38 (by decide) rfl (by omega) (fun _ => ?_) (fun hh => absurd hh (by decide))
  refine j_iconst (pc' := 46) (v := (nI 0)) Cx dX5_put_45 rfl (by decide) ?_
  refine j_put (pc' := 49) (N := 15) (t := .int) (ws' := [(m, .inr (5, [.int (nI W), .int (nI H), .int (nI C), .int (nI 0), .ref o1, .ref o2, .int (nI nw), .int (nI nh), .ref go, .ref gt, .ref po, .ref pt, .ref my, .ref no, .ref so])), (o1, .inl (ty 0, 1728, .inl (kN O))), (o2, .inl (ty 0, 1728, .inl (kN T)))]) Cx dX5_put_46 rfl kin_X5_put_X5 kfl_X5_put_48 tyX5_ok nmX5 0 rfl rfl 3 rfl rfl rfl rfl rfl rfl rfl ?_
  refine j_aload_n (pc' := 50) Cx dX5_put_49 rfl rfl rfl ?_
  refine j_get (pc' := 53) (N := 15) Cx dX5_put_50 rfl kin_X5_put_X5 kfl_X5_put_48 0 rfl rfl 3 rfl rfl rfl ?_
  refine j_if_le_n (tgt := 58) (pc' := 56) Cx dX5_put_53 (by decide) rfl (by omega) (fun _ => ?_) (fun hh => absurd hh (by decide))
  refine j_iconst (pc' := 59) (v := (nI 3)) Cx dX5_put_58 rfl (by decide) ?_
  refine j_aload_n (pc' := 60) Cx dX5_put_59 rfl rfl rfl ?_
  refine j_get (pc' := 63) (N := 15) Cx dX5_put_60 rfl kin_X5_put_X5 kfl_X5_put_38 0 rfl rfl 0 rfl rfl rfl ?_
  refine j_iload_n (pc' := 64) Cx dX5_put_63 rfl rfl rfl ?_
  refine j_imul_n (pc' := 65) Cx dX5_put_64 rfl ?_
  refine j_iload_n (pc' := 66) Cx dX5_put_65 rfl rfl rfl ?_
  refine j_iadd_n (pc' := 67) Cx dX5_put_66 rfl ?_
  refine j_imul_n (pc' := 68) Cx dX5_put_67 rfl ?_
  refine j_iload (pc' := 70) Cx dX5_put_68 rfl rfl ?_
  refine j_iadd_n (pc' := 71) Cx dX5_put_70 rfl ?_
  refine j_istore (pc' := 73) (lv' := [(0, .ref m), (1, .int (b)), (2, .int (nI i)), (3, .int (nI j)), (4, .int (nI c)), (5, .int (nI z)), (6, .int (nI ((3 * ((W * j) + i)) + c)))]) Cx dX5_put_71 rfl (by decide) rfl ?_
  refine j_iload_n (pc' := 74) Cx dX5_put_73 rfl rfl rfl ?_
  refine j_if_eq (tgt := 87) (pc' := 77) Cx dX5_put_74 (by decide) rfl (fun _ => ?_) (fun hh => absurd hh (not_not_intro hb))
  refine j_aload_n (pc' := 88) Cx dX5_put_87 rfl rfl rfl ?_
  refine j_get (pc' := 91) (N := 15) Cx dX5_put_88 rfl kin_X5_put_X5 kfl_X5_put_13 0 rfl rfl 5 rfl rfl rfl ?_
  refine j_iload (pc' := 93) Cx dX5_put_91 rfl rfl ?_
  refine j_iaload_nn (pc' := 94) Cx dX5_put_93 rfl 2 rfl (by omega) (by omega) ?_
  refine j_istore (pc' := 96) (lv' := [(0, .ref m), (1, .int (b)), (2, .int (nI i)), (3, .int (nI j)), (4, .int (nI c)), (5, .int (nI z)), (6, .int (nI ((3 * ((W * j) + i)) + c))), (7, .int (nI (T ((3 * ((W * j) + i)) + c))))]) Cx dX5_put_94 rfl (by decide) rfl ?_
  refine j_iload_n (pc' := 97) Cx dX5_put_96 rfl rfl rfl ?_
  refine j_if_eq (tgt := 112) (pc' := 100) Cx dX5_put_97 (by decide) rfl (fun _ => ?_) (fun hh => absurd hh (not_not_intro hb))
  refine j_aload_n (pc' := 113) Cx dX5_put_112 rfl rfl rfl ?_
  refine j_get (pc' := 116) (N := 15) Cx dX5_put_113 rfl kin_X5_put_X5 kfl_X5_put_13 0 rfl rfl 5 rfl rfl rfl ?_
  refine j_iload (pc' := 118) Cx dX5_put_116 rfl rfl ?_
  refine j_iload (pc' := 120) Cx dX5_put_118 rfl rfl ?_
  refine j_iastore_nn (pc' := 121) (ws' := [(m, .inr (5, [.int (nI W), .int (nI H), .int (nI C), .int (nI 0), .ref o1, .ref o2, .int (nI nw), .int (nI nh), .ref go, .ref gt, .ref po, .ref pt, .ref my, .ref no, .ref so])), (o1, .inl (ty 0, 1728, .inl (kN O))), (o2, .inl (ty 0, 1728, .inl (kN (va_up T ((3 * ((W * j) + i)) + c) z))))]) Cx dX5_put_120 rfl 2 rfl (by omega) (by omega) rfl ?_
  refine j_iload (pc' := 123) Cx dX5_put_121 rfl rfl ?_
  exact j_iret Cx dX5_put_123 R0 ⟨Nat.le_of_ble_eq_true rfl, Nat.le_of_ble_eq_true rfl⟩ (⟨_, rfl, rfl, rfl⟩)

set_option maxHeartbeats 4000000 in
set_option maxRecDepth 100000 in
theorem c_X5_put_1 (l : Launch) (D : va_G) (ty : Nat → ClassId) (m o1 o2 go gt po pt my no so W H C : Nat) (nw nh : Nat) (fa : Int32) (hW : W ≤ 24) (hH : H ≤ 24) (hW1 : 1 ≤ W) (hH1 : 1 ≤ H) (h1 : 1 ≤ C) (h3 : C ≤ 3) (b x y ch s : Int32) (hno : ¬ (kok x W ∧ kok y H ∧ kok ch C)) : KM l yX5_put wsX5_put { frames := 2, cells := 0, slots := 0, locals := 80 } D ty [.ref m, .int (b), .int (x), .int (y), .int (ch), .int (s)] [(m, .inr (5, [.int (nI W), .int (nI H), .int (nI C), .int (fa), .ref o1, .ref o2, .int (nI nw), .int (nI nh), .ref go, .ref gt, .ref po, .ref pt, .ref my, .ref no, .ref so]))] (kI (fun r u => r = nI 0 ∧ u = [(m, .inr (5, [.int (nI W), .int (nI H), .int (nI C), .int (nI 1), .ref o1, .ref o2, .int (nI nw), .int (nI nh), .ref go, .ref gt, .ref po, .ref pt, .ref my, .ref no, .ref so]))])) 0 0 := by
  refine KM.of (cc := cX5_put) (maxL := 8) (ret := (some .int)) (lv := [(0, .ref m), (1, .int (b)), (2, .int (x)), (3, .int (y)), (4, .int (ch)), (5, .int (s))]) (by decide +kernel) rfl rfl rfl (fun X C0 R0 => ?_)
  have Cx : kC X cX5_put wsX5_put RX5 { frames := 2, cells := 0, slots := 0, locals := 80 } "put" l D ty 8 := C0
  by_cases hp : kok x W ∧ kok y H
  · obtain ⟨⟨i, hi, rfl⟩, ⟨j, hj, rfl⟩⟩ := hp
    refine j_aload_n (pc' := 1) Cx dX5_put_0 rfl rfl rfl ?_
    refine j_aload_n (pc' := 2) Cx dX5_put_1 rfl rfl rfl ?_
    refine j_iload_n (pc' := 3) Cx dX5_put_2 rfl rfl rfl ?_
    refine j_iload_n (pc' := 4) Cx dX5_put_3 rfl rfl rfl ?_
    refine j_callV (pc' := 7) (wr := []) (st := [.ref m]) Cx dX5_put_4 rfl (c_X5_isPlace l D ty m o1 o2 go gt po pt my no so W H C nw nh fa hW hH hW1 hH1 h1 h3 i j hi hj) gX5_put_X5_isPlace rfl khd_X5_isPlace rfl ⟨rfl, rfl, Nat.le_of_ble_eq_true rfl, Nat.le_of_ble_eq_true rfl⟩ [0] [] rfl rfl ⟨rfl, rfl⟩ (by decide) 0 rfl rfl rfl (Nat.le_of_ble_eq_true rfl) ⟨Nat.le_of_ble_eq_true rfl, Nat.le_of_ble_eq_true rfl⟩ (fun v u hpost => ?_)
    obtain ⟨r, rfl, rfl, rfl⟩ := hpost
    show J X [(m, .inr (5, [.int (nI W), .int (nI H), .int (nI C), .int (fa), .ref o1, .ref o2, .int (nI nw), .int (nI nh), .ref go, .ref gt, .ref po, .ref pt, .ref my, .ref no, .ref so]))] [(0, .ref m), (1, .int (b)), (2, .int (nI i)), (3, .int (nI j)), (4, .int (ch)), (5, .int (s))] 7 [.int (nI 1), .ref m] 0 0
    refine j_if_eq_n (tgt := 25) (pc' := 10) Cx dX5_put_7 (by decide) rfl (by omega) (fun hh => absurd hh (by decide)) (fun _ => ?_)
    refine j_iload (pc' := 12) Cx dX5_put_10 rfl rfl ?_
    refine j_iconst (pc' := 13) (v := (nI 0)) Cx dX5_put_12 rfl (by decide) ?_
    refine j_aload_n (pc' := 14) Cx dX5_put_13 rfl rfl rfl ?_
    refine j_get (pc' := 17) (N := 15) Cx dX5_put_14 rfl kin_X5_put_X5 kfl_X5_put_45 0 rfl rfl 2 rfl rfl rfl ?_
    refine j_iconst (pc' := 18) (v := (nI 1)) Cx dX5_put_17 rfl (by decide) ?_
    refine j_isub_n (pc' := 19) Cx dX5_put_18 rfl (by omega) ?_
    rcases pk_ix ch (n := C) (by omega) with hc | hc | ⟨c, hc, rfl⟩
    · refine j_callS (pc' := 22) (wr := [(m, .inr (5, [.int (nI W), .int (nI H), .int (nI C), .int (fa), .ref o1, .ref o2, .int (nI nw), .int (nI nh), .ref go, .ref gt, .ref po, .ref pt, .ref my, .ref no, .ref so]))]) (st := [.ref m]) Cx dX5_put_19 rfl (c_X5_in_no l D ty ch (nI 0) (nI (C - 1)) (Or.inl (show ch < nI 0 from hc))) gX5_put_X5_in rfl khd_X5_in rfl ⟨rfl, rfl, Nat.le_of_ble_eq_true rfl, Nat.le_of_ble_eq_true rfl⟩ [] [0] rfl rfl ⟨rfl, rfl⟩ (by decide) rfl (Nat.le_of_ble_eq_true rfl) ⟨Nat.le_of_ble_eq_true rfl, Nat.le_of_ble_eq_true rfl⟩ (fun v u hpost => ?_)
      obtain ⟨r, rfl, rfl, rfl⟩ := hpost
      show J X [(m, .inr (5, [.int (nI W), .int (nI H), .int (nI C), .int (fa), .ref o1, .ref o2, .int (nI nw), .int (nI nh), .ref go, .ref gt, .ref po, .ref pt, .ref my, .ref no, .ref so]))] [(0, .ref m), (1, .int (b)), (2, .int (nI i)), (3, .int (nI j)), (4, .int (ch)), (5, .int (s))] 22 [.int (nI 0), .ref m] 0 0
      refine j_if_ne_n (tgt := 29) (pc' := 25) Cx dX5_put_22 (by decide) rfl (by omega) (fun hh => absurd hh (not_not_intro rfl)) (fun _ => ?_)
      refine j_iconst (pc' := 26) (v := (nI 1)) Cx dX5_put_25 rfl (by decide) ?_
      refine j_goto (tgt := 46) Cx dX5_put_26 (by decide) ?_
      refine j_put (pc' := 49) (N := 15) (t := .int) (ws' := [(m, .inr (5, [.int (nI W), .int (nI H), .int (nI C), .int (nI 1), .ref o1, .ref o2, .int (nI nw), .int (nI nh), .ref go, .ref gt, .ref po, .ref pt, .ref my, .ref no, .ref so]))]) Cx dX5_put_46 rfl kin_X5_put_X5 kfl_X5_put_48 tyX5_ok nmX5 0 rfl rfl 3 rfl rfl rfl rfl rfl rfl rfl ?_
      refine j_aload_n (pc' := 50) Cx dX5_put_49 rfl rfl rfl ?_
      refine j_get (pc' := 53) (N := 15) Cx dX5_put_50 rfl kin_X5_put_X5 kfl_X5_put_48 0 rfl rfl 3 rfl rfl rfl ?_
      refine j_if_le_n (tgt := 58) (pc' := 56) Cx dX5_put_53 (by decide) rfl (by omega) (fun hh => absurd hh (by decide)) (fun _ => ?_)
      refine j_iconst (pc' := 57) (v := (nI 0)) Cx dX5_put_56 rfl (by decide) ?_
      exact j_iret Cx dX5_put_57 R0 ⟨Nat.le_of_ble_eq_true rfl, Nat.le_of_ble_eq_true rfl⟩ (⟨_, rfl, rfl, rfl⟩)
    · refine j_callS (pc' := 22) (wr := [(m, .inr (5, [.int (nI W), .int (nI H), .int (nI C), .int (fa), .ref o1, .ref o2, .int (nI nw), .int (nI nh), .ref go, .ref gt, .ref po, .ref pt, .ref my, .ref no, .ref so]))]) (st := [.ref m]) Cx dX5_put_19 rfl (c_X5_in_no l D ty ch (nI 0) (nI (C - 1)) (Or.inr (k_pred h1 (by omega) hc))) gX5_put_X5_in rfl khd_X5_in rfl ⟨rfl, rfl, Nat.le_of_ble_eq_true rfl, Nat.le_of_ble_eq_true rfl⟩ [] [0] rfl rfl ⟨rfl, rfl⟩ (by decide) rfl (Nat.le_of_ble_eq_true rfl) ⟨Nat.le_of_ble_eq_true rfl, Nat.le_of_ble_eq_true rfl⟩ (fun v u hpost => ?_)
      obtain ⟨r, rfl, rfl, rfl⟩ := hpost
      show J X [(m, .inr (5, [.int (nI W), .int (nI H), .int (nI C), .int (fa), .ref o1, .ref o2, .int (nI nw), .int (nI nh), .ref go, .ref gt, .ref po, .ref pt, .ref my, .ref no, .ref so]))] [(0, .ref m), (1, .int (b)), (2, .int (nI i)), (3, .int (nI j)), (4, .int (ch)), (5, .int (s))] 22 [.int (nI 0), .ref m] 0 0
      refine j_if_ne_n (tgt := 29) (pc' := 25) Cx dX5_put_22 (by decide) rfl (by omega) (fun hh => absurd hh (not_not_intro rfl)) (fun _ => ?_)
      refine j_iconst (pc' := 26) (v := (nI 1)) Cx dX5_put_25 rfl (by decide) ?_
      refine j_goto (tgt := 46) Cx dX5_put_26 (by decide) ?_
      refine j_put (pc' := 49) (N := 15) (t := .int) (ws' := [(m, .inr (5, [.int (nI W), .int (nI H), .int (nI C), .int (nI 1), .ref o1, .ref o2, .int (nI nw), .int (nI nh), .ref go, .ref gt, .ref po, .ref pt, .ref my, .ref no, .ref so]))]) Cx dX5_put_46 rfl kin_X5_put_X5 kfl_X5_put_48 tyX5_ok nmX5 0 rfl rfl 3 rfl rfl rfl rfl rfl rfl rfl ?_
      refine j_aload_n (pc' := 50) Cx dX5_put_49 rfl rfl rfl ?_
      refine j_get (pc' := 53) (N := 15) Cx dX5_put_50 rfl kin_X5_put_X5 kfl_X5_put_48 0 rfl rfl 3 rfl rfl rfl ?_
      refine j_if_le_n (tgt := 58) (pc' := 56) Cx dX5_put_53 (by decide) rfl (by omega) (fun hh => absurd hh (by decide)) (fun _ => ?_)
      refine j_iconst (pc' := 57) (v := (nI 0)) Cx dX5_put_56 rfl (by decide) ?_
      exact j_iret Cx dX5_put_57 R0 ⟨Nat.le_of_ble_eq_true rfl, Nat.le_of_ble_eq_true rfl⟩ (⟨_, rfl, rfl, rfl⟩)
    · exact absurd ⟨⟨i, hi, rfl⟩, ⟨j, hj, rfl⟩, ⟨c, hc, rfl⟩⟩ hno
  · refine j_aload_n (pc' := 1) Cx dX5_put_0 rfl rfl rfl ?_
    refine j_aload_n (pc' := 2) Cx dX5_put_1 rfl rfl rfl ?_
    refine j_iload_n (pc' := 3) Cx dX5_put_2 rfl rfl rfl ?_
    refine j_iload_n (pc' := 4) Cx dX5_put_3 rfl rfl rfl ?_
    refine j_callV (pc' := 7) (wr := []) (st := [.ref m]) Cx dX5_put_4 rfl (c_X5_isPlace_no l D ty m o1 o2 go gt po pt my no so W H C nw nh fa hW hH hW1 hH1 h1 h3 x y hp) gX5_put_X5_isPlace rfl khd_X5_isPlace rfl ⟨rfl, rfl, Nat.le_of_ble_eq_true rfl, Nat.le_of_ble_eq_true rfl⟩ [0] [] rfl rfl ⟨rfl, rfl⟩ (by decide) 0 rfl rfl rfl (Nat.le_of_ble_eq_true rfl) ⟨Nat.le_of_ble_eq_true rfl, Nat.le_of_ble_eq_true rfl⟩ (fun v u hpost => ?_)
    obtain ⟨r, rfl, rfl, rfl⟩ := hpost
    show J X [(m, .inr (5, [.int (nI W), .int (nI H), .int (nI C), .int (fa), .ref o1, .ref o2, .int (nI nw), .int (nI nh), .ref go, .ref gt, .ref po, .ref pt, .ref my, .ref no, .ref so]))] [(0, .ref m), (1, .int (b)), (2, .int (x)), (3, .int (y)), (4, .int (ch)), (5, .int (s))] 7 [.int (nI 0), .ref m] 0 0
    refine j_if_eq_n (tgt := 25) (pc' := 10) Cx dX5_put_7 (by decide) rfl (by omega) (fun _ => ?_) (fun hh => absurd hh (by decide))
    refine j_iconst (pc' := 26) (v := (nI 1)) Cx dX5_put_25 rfl (by decide) ?_
    refine j_goto (tgt := 46) Cx dX5_put_26 (by decide) ?_
    refine j_put (pc' := 49) (N := 15) (t := .int) (ws' := [(m, .inr (5, [.int (nI W), .int (nI H), .int (nI C), .int (nI 1), .ref o1, .ref o2, .int (nI nw), .int (nI nh), .ref go, .ref gt, .ref po, .ref pt, .ref my, .ref no, .ref so]))]) Cx dX5_put_46 rfl kin_X5_put_X5 kfl_X5_put_48 tyX5_ok nmX5 0 rfl rfl 3 rfl rfl rfl rfl rfl rfl rfl ?_
    refine j_aload_n (pc' := 50) Cx dX5_put_49 rfl rfl rfl ?_
    refine j_get (pc' := 53) (N := 15) Cx dX5_put_50 rfl kin_X5_put_X5 kfl_X5_put_48 0 rfl rfl 3 rfl rfl rfl ?_
    refine j_if_le_n (tgt := 58) (pc' := 56) Cx dX5_put_53 (by decide) rfl (by omega) (fun hh => absurd hh (by decide)) (fun _ => ?_)
    refine j_iconst (pc' := 57) (v := (nI 0)) Cx dX5_put_56 rfl (by decide) ?_
    exact j_iret Cx dX5_put_57 R0 ⟨Nat.le_of_ble_eq_true rfl, Nat.le_of_ble_eq_true rfl⟩ (⟨_, rfl, rfl, rfl⟩)

set_option maxHeartbeats 4000000 in
set_option maxRecDepth 100000 in
theorem c_X5_put_2 (l : Launch) (D : va_G) (ty : Nat → ClassId) (m o1 o2 go gt po pt my no so W H C : Nat) (nw nh : Nat) (fa : Int32) (hW : W ≤ 24) (hH : H ≤ 24) (hW1 : 1 ≤ W) (hH1 : 1 ≤ H) (h1 : 1 ≤ C) (h3 : C ≤ 3) (b s : Int32) (i j c : Nat) (hi : i < W) (hj : j < H) (hc : c < C) (hno : ¬ kok s 256) : KM l yX5_put wsX5_put { frames := 2, cells := 0, slots := 0, locals := 80 } D ty [.ref m, .int (b), .int (nI i), .int (nI j), .int (nI c), .int (s)] [(m, .inr (5, [.int (nI W), .int (nI H), .int (nI C), .int (fa), .ref o1, .ref o2, .int (nI nw), .int (nI nh), .ref go, .ref gt, .ref po, .ref pt, .ref my, .ref no, .ref so]))] (kI (fun r u => r = nI 0 ∧ u = [(m, .inr (5, [.int (nI W), .int (nI H), .int (nI C), .int (nI 2), .ref o1, .ref o2, .int (nI nw), .int (nI nh), .ref go, .ref gt, .ref po, .ref pt, .ref my, .ref no, .ref so]))])) 0 0 := by
  refine KM.of (cc := cX5_put) (maxL := 8) (ret := (some .int)) (lv := [(0, .ref m), (1, .int (b)), (2, .int (nI i)), (3, .int (nI j)), (4, .int (nI c)), (5, .int (s))]) (by decide +kernel) rfl rfl rfl (fun X C0 R0 => ?_)
  have Cx : kC X cX5_put wsX5_put RX5 { frames := 2, cells := 0, slots := 0, locals := 80 } "put" l D ty 8 := C0
  refine j_aload_n (pc' := 1) Cx dX5_put_0 rfl rfl rfl ?_
  refine j_aload_n (pc' := 2) Cx dX5_put_1 rfl rfl rfl ?_
  refine j_iload_n (pc' := 3) Cx dX5_put_2 rfl rfl rfl ?_
  refine j_iload_n (pc' := 4) Cx dX5_put_3 rfl rfl rfl ?_
  refine j_callV (pc' := 7) (wr := []) (st := [.ref m]) Cx dX5_put_4 rfl (c_X5_isPlace l D ty m o1 o2 go gt po pt my no so W H C nw nh fa hW hH hW1 hH1 h1 h3 i j hi hj) gX5_put_X5_isPlace rfl khd_X5_isPlace rfl ⟨rfl, rfl, Nat.le_of_ble_eq_true rfl, Nat.le_of_ble_eq_true rfl⟩ [0] [] rfl rfl ⟨rfl, rfl⟩ (by decide) 0 rfl rfl rfl (Nat.le_of_ble_eq_true rfl) ⟨Nat.le_of_ble_eq_true rfl, Nat.le_of_ble_eq_true rfl⟩ (fun v u hpost => ?_)
  obtain ⟨r, rfl, rfl, rfl⟩ := hpost
  show J X [(m, .inr (5, [.int (nI W), .int (nI H), .int (nI C), .int (fa), .ref o1, .ref o2, .int (nI nw), .int (nI nh), .ref go, .ref gt, .ref po, .ref pt, .ref my, .ref no, .ref so]))] [(0, .ref m), (1, .int (b)), (2, .int (nI i)), (3, .int (nI j)), (4, .int (nI c)), (5, .int (s))] 7 [.int (nI 1), .ref m] 0 0
  refine j_if_eq_n (tgt := 25) (pc' := 10) Cx dX5_put_7 (by decide) rfl (by omega) (fun hh => absurd hh (by decide)) (fun _ => ?_)
  refine j_iload (pc' := 12) Cx dX5_put_10 rfl rfl ?_
  refine j_iconst (pc' := 13) (v := (nI 0)) Cx dX5_put_12 rfl (by decide) ?_
  refine j_aload_n (pc' := 14) Cx dX5_put_13 rfl rfl rfl ?_
  refine j_get (pc' := 17) (N := 15) Cx dX5_put_14 rfl kin_X5_put_X5 kfl_X5_put_45 0 rfl rfl 2 rfl rfl rfl ?_
  refine j_iconst (pc' := 18) (v := (nI 1)) Cx dX5_put_17 rfl (by decide) ?_
  refine j_isub_n (pc' := 19) Cx dX5_put_18 rfl (by omega) ?_
  refine j_callS (pc' := 22) (wr := [(m, .inr (5, [.int (nI W), .int (nI H), .int (nI C), .int (fa), .ref o1, .ref o2, .int (nI nw), .int (nI nh), .ref go, .ref gt, .ref po, .ref pt, .ref my, .ref no, .ref so]))]) (st := [.ref m]) Cx dX5_put_19 rfl (c_X5_in l D ty c 0 (C - 1) (Nat.zero_le _) (by omega) (by omega)) gX5_put_X5_in rfl khd_X5_in rfl ⟨rfl, rfl, Nat.le_of_ble_eq_true rfl, Nat.le_of_ble_eq_true rfl⟩ [] [0] rfl rfl ⟨rfl, rfl⟩ (by decide) rfl (Nat.le_of_ble_eq_true rfl) ⟨Nat.le_of_ble_eq_true rfl, Nat.le_of_ble_eq_true rfl⟩ (fun v u hpost => ?_)
  obtain ⟨r, rfl, rfl, rfl⟩ := hpost
  show J X [(m, .inr (5, [.int (nI W), .int (nI H), .int (nI C), .int (fa), .ref o1, .ref o2, .int (nI nw), .int (nI nh), .ref go, .ref gt, .ref po, .ref pt, .ref my, .ref no, .ref so]))] [(0, .ref m), (1, .int (b)), (2, .int (nI i)), (3, .int (nI j)), (4, .int (nI c)), (5, .int (s))] 22 [.int (nI 1), .ref m] 0 0
  refine j_if_ne_n (tgt := 29) (pc' := 25) Cx dX5_put_22 (by decide) rfl (by omega) (fun _ => ?_) (fun hh => absurd hh (by decide))
  refine j_iload (pc' := 31) Cx dX5_put_29 rfl rfl ?_
  refine j_iconst (pc' := 32) (v := (nI 0)) Cx dX5_put_31 rfl (by decide) ?_
  refine j_sipush (pc' := 35) (v := (nI 255)) Cx dX5_put_32 rfl (by decide) ?_
  rcases pk_ix s (n := 256) (by decide) with hs | hs | hs
  · refine j_callS (pc' := 38) (wr := [(m, .inr (5, [.int (nI W), .int (nI H), .int (nI C), .int (fa), .ref o1, .ref o2, .int (nI nw), .int (nI nh), .ref go, .ref gt, .ref po, .ref pt, .ref my, .ref no, .ref so]))]) (st := [.ref m]) Cx dX5_put_35 rfl (c_X5_in_no l D ty s (nI 0) (nI 255) (Or.inl (show s < nI 0 from hs))) gX5_put_X5_in rfl khd_X5_in rfl ⟨rfl, rfl, Nat.le_of_ble_eq_true rfl, Nat.le_of_ble_eq_true rfl⟩ [] [0] rfl rfl ⟨rfl, rfl⟩ (by decide) rfl (Nat.le_of_ble_eq_true rfl) ⟨Nat.le_of_ble_eq_true rfl, Nat.le_of_ble_eq_true rfl⟩ (fun v u hpost => ?_)
    obtain ⟨r, rfl, rfl, rfl⟩ := hpost
    show J X [(m, .inr (5, [.int (nI W), .int (nI H), .int (nI C), .int (fa), .ref o1, .ref o2, .int (nI nw), .int (nI nh), .ref go, .ref gt, .ref po, .ref pt, .ref my, .ref no, .ref so]))] [(0, .ref m), (1, .int (b)), (2, .int (nI i)), (3, .int (nI j)), (4, .int (nI c)), (5, .int (s))] 38 [.int (nI 0), .ref m] 0 0
    refine j_if_ne_n (tgt := 45) (pc' := 41) Cx dX5_put_38 (by decide) rfl (by omega) (fun hh => absurd hh (not_not_intro rfl)) (fun _ => ?_)
    refine j_iconst (pc' := 42) (v := (nI 2)) Cx dX5_put_41 rfl (by decide) ?_
    refine j_goto (tgt := 46) Cx dX5_put_42 (by decide) ?_
    refine j_put (pc' := 49) (N := 15) (t := .int) (ws' := [(m, .inr (5, [.int (nI W), .int (nI H), .int (nI C), .int (nI 2), .ref o1, .ref o2, .int (nI nw), .int (nI nh), .ref go, .ref gt, .ref po, .ref pt, .ref my, .ref no, .ref so]))]) Cx dX5_put_46 rfl kin_X5_put_X5 kfl_X5_put_48 tyX5_ok nmX5 0 rfl rfl 3 rfl rfl rfl rfl rfl rfl rfl ?_
    refine j_aload_n (pc' := 50) Cx dX5_put_49 rfl rfl rfl ?_
    refine j_get (pc' := 53) (N := 15) Cx dX5_put_50 rfl kin_X5_put_X5 kfl_X5_put_48 0 rfl rfl 3 rfl rfl rfl ?_
    refine j_if_le_n (tgt := 58) (pc' := 56) Cx dX5_put_53 (by decide) rfl (by omega) (fun hh => absurd hh (by decide)) (fun _ => ?_)
    refine j_iconst (pc' := 57) (v := (nI 0)) Cx dX5_put_56 rfl (by decide) ?_
    exact j_iret Cx dX5_put_57 R0 ⟨Nat.le_of_ble_eq_true rfl, Nat.le_of_ble_eq_true rfl⟩ (⟨_, rfl, rfl, rfl⟩)
  · refine j_callS (pc' := 38) (wr := [(m, .inr (5, [.int (nI W), .int (nI H), .int (nI C), .int (fa), .ref o1, .ref o2, .int (nI nw), .int (nI nh), .ref go, .ref gt, .ref po, .ref pt, .ref my, .ref no, .ref so]))]) (st := [.ref m]) Cx dX5_put_35 rfl (c_X5_in_no l D ty s (nI 0) (nI 255) (Or.inr (k_pred (n := 256) (by decide) (by decide) hs))) gX5_put_X5_in rfl khd_X5_in rfl ⟨rfl, rfl, Nat.le_of_ble_eq_true rfl, Nat.le_of_ble_eq_true rfl⟩ [] [0] rfl rfl ⟨rfl, rfl⟩ (by decide) rfl (Nat.le_of_ble_eq_true rfl) ⟨Nat.le_of_ble_eq_true rfl, Nat.le_of_ble_eq_true rfl⟩ (fun v u hpost => ?_)
    obtain ⟨r, rfl, rfl, rfl⟩ := hpost
    show J X [(m, .inr (5, [.int (nI W), .int (nI H), .int (nI C), .int (fa), .ref o1, .ref o2, .int (nI nw), .int (nI nh), .ref go, .ref gt, .ref po, .ref pt, .ref my, .ref no, .ref so]))] [(0, .ref m), (1, .int (b)), (2, .int (nI i)), (3, .int (nI j)), (4, .int (nI c)), (5, .int (s))] 38 [.int (nI 0), .ref m] 0 0
    refine j_if_ne_n (tgt := 45) (pc' := 41) Cx dX5_put_38 (by decide) rfl (by omega) (fun hh => absurd hh (not_not_intro rfl)) (fun _ => ?_)
    refine j_iconst (pc' := 42) (v := (nI 2)) Cx dX5_put_41 rfl (by decide) ?_
    refine j_goto (tgt := 46) Cx dX5_put_42 (by decide) ?_
    refine j_put (pc' := 49) (N := 15) (t := .int) (ws' := [(m, .inr (5, [.int (nI W), .int (nI H), .int (nI C), .int (nI 2), .ref o1, .ref o2, .int (nI nw), .int (nI nh), .ref go, .ref gt, .ref po, .ref pt, .ref my, .ref no, .ref so]))]) Cx dX5_put_46 rfl kin_X5_put_X5 kfl_X5_put_48 tyX5_ok nmX5 0 rfl rfl 3 rfl rfl rfl rfl rfl rfl rfl ?_
    refine j_aload_n (pc' := 50) Cx dX5_put_49 rfl rfl rfl ?_
    refine j_get (pc' := 53) (N := 15) Cx dX5_put_50 rfl kin_X5_put_X5 kfl_X5_put_48 0 rfl rfl 3 rfl rfl rfl ?_
    refine j_if_le_n (tgt := 58) (pc' := 56) Cx dX5_put_53 (by decide) rfl (by omega) (fun hh => absurd hh (by decide)) (fun _ => ?_)
    refine j_iconst (pc' := 57) (v := (nI 0)) Cx dX5_put_56 rfl (by decide) ?_
    exact j_iret Cx dX5_put_57 R0 ⟨Nat.le_of_ble_eq_true rfl, Nat.le_of_ble_eq_true rfl⟩ (⟨_, rfl, rfl, rfl⟩)
  · exact absurd hs hno

set_option maxHeartbeats 4000000 in
set_option maxRecDepth 100000 in
/-- paint, of the other one -/
theorem c_X5_paint1 (l : Launch) (D : va_G) (ty : Nat → ClassId) (m o1 o2 go gt po pt my no so W H C : Nat) (nw nh : Nat) (fa : Int32) (hW : W ≤ 24) (hH : H ≤ 24) (hW1 : 1 ≤ W) (hH1 : 1 ≤ H) (h1 : 1 ≤ C) (h3 : C ≤ 3) (O A : Nat → Nat) (hO : ∀ i, O i < 256) (hrA : krel C (W * H) O A) (b x step : Int32) (hb : ¬ b = 0) : KM l yX5_paint wsX5_paint { frames := 1, cells := 0, slots := 0, locals := 40 } D ty [.ref m, .int (b), .int (x), .int (step)] [(m, .inr (5, [.int (nI W), .int (nI H), .int (nI C), .int (fa), .ref o1, .ref o2, .int (nI nw), .int (nI nh), .ref go, .ref gt, .ref po, .ref pt, .ref my, .ref no, .ref so])), (o1, .inl (ty 0, 1728, .inl (kN O)))] (kI (fun r u => r = nI (kct (fun j => decide (A j ≠ lo8 (kps x step j))) (W * H * C)) ∧ ∃ Q : Nat → Nat, (∀ i, Q i < 256) ∧ krel C (W * H) Q (kfill (fun j => lo8 (kps x step j)) A (W * H * C)) ∧ u = [(m, .inr (5, [.int (nI W), .int (nI H), .int (nI C), .int (nI 0), .ref o1, .ref o2, .int (nI nw), .int (nI nh), .ref go, .ref gt, .ref po, .ref pt, .ref my, .ref no, .ref so])), (o1, .inl (ty 0, 1728, .inl (kN Q)))])) 0 0 := by
  refine KM.of (cc := cX5_paint) (maxL := 10) (ret := (some .int)) (lv := [(0, .ref m), (1, .int (b)), (2, .int (x)), (3, .int (step))]) (by decide +kernel) rfl rfl rfl (fun X C0 R0 => ?_)
  have Cx : kC X cX5_paint wsX5_paint RX5 { frames := 1, cells := 0, slots := 0, locals := 40 } "paint" l D ty 10 := C0
  have hwh := k_wh hW hH
  have hNC : W * H * C ≤ 1728 := Nat.le_trans (Nat.mul_le_mul hwh h3) (by decide)
  refine j_aload_n (pc' := 1) Cx dX5_paint_0 rfl rfl rfl ?_
  refine j_iconst (pc' := 2) (v := (nI 0)) Cx dX5_paint_1 rfl (by decide) ?_
  refine j_put (pc' := 5) (N := 15) (t := .int) (ws' := [(m, .inr (5, [.int (nI W), .int (nI H), .int (nI C), .int (nI 0), .ref o1, .ref o2, .int (nI nw), .int (nI nh), .ref go, .ref gt, .ref po, .ref pt, .ref my, .ref no, .ref so])), (o1, .inl (ty 0, 1728, .inl (kN O)))]) Cx dX5_paint_2 rfl kin_X5_paint_X5 kfl_X5_paint_48 tyX5_ok nmX5 0 rfl rfl 3 rfl rfl rfl rfl rfl rfl rfl ?_
  refine j_iconst (pc' := 6) (v := (nI 0)) Cx dX5_paint_5 rfl (by decide) ?_
  refine j_istore (pc' := 8) (lv' := [(0, .ref m), (1, .int (b)), (2, .int (x)), (3, .int (step)), (4, .int (nI 0))]) Cx dX5_paint_6 rfl (by decide) rfl ?_
  refine j_iload_n (pc' := 9) Cx dX5_paint_8 rfl rfl rfl ?_
  refine j_istore (pc' := 11) (lv' := [(0, .ref m), (1, .int (b)), (2, .int (x)), (3, .int (step)), (4, .int (nI 0)), (5, .int (x))]) Cx dX5_paint_9 rfl (by decide) rfl ?_
  refine j_iconst (pc' := 12) (v := (nI 0)) Cx dX5_paint_11 rfl (by decide) ?_
  refine j_istore (pc' := 14) (lv' := [(0, .ref m), (1, .int (b)), (2, .int (x)), (3, .int (step)), (4, .int (nI 0)), (5, .int (x)), (6, .int (nI 0))]) Cx dX5_paint_12 rfl (by decide) rfl ?_
  have LP : ∀ (LP_n : Nat), ∀ (q : Nat) (Q : Nat → Nat), (W * H - q < LP_n) → (q ≤ W * H) → (∀ i, Q i < 256) → (krel C (W * H) Q (kfill (fun j => lo8 (kps x step j)) A (q * C))) → J X [(m, .inr (5, [.int (nI W), .int (nI H), .int (nI C), .int (nI 0), .ref o1, .ref o2, .int (nI nw), .int (nI nh), .ref go, .ref gt, .ref po, .ref pt, .ref my, .ref no, .ref so])), (o1, .inl (ty 0, 1728, .inl (kN Q)))] [(0, .ref m), (1, .int (b)), (2, .int (x)), (3, .int (step)), (4, .int (nI (kct (fun j => decide (A j ≠ lo8 (kps x step j))) (q * C)))), (5, .int (kps x step (q * C))), (6, .int (nI q))] 14 [] 0 0 := by
    intro LP_n
    induction LP_n with
    | zero =>
      intro q Q hms _ _ _
      exact absurd hms (Nat.not_lt_zero _)
    | succ LP_n LP_ih =>
      intro q Q LP_m hle hQ hR
      have gq : q * C ≤ W * H * C := Nat.mul_le_mul_right C hle
      have hk := kct_le (fun j => decide (A j ≠ lo8 (kps x step j))) (q * C)
      refine j_iload (pc' := 16) Cx dX5_paint_14 rfl rfl ?_
      refine j_aload_n (pc' := 17) Cx dX5_paint_16 rfl rfl rfl ?_
      refine j_callV (pc' := 20) (wr := [(o1, .inl (ty 0, 1728, .inl (kN Q)))]) (st := [.int (nI q)]) Cx dX5_paint_17 rfl (c_X5_places l D ty m o1 o2 go gt po pt my no so W H C nw nh (nI 0)) gX5_paint_X5_places rfl khd_X5_places rfl ⟨rfl, rfl, Nat.le_of_ble_eq_true rfl, Nat.le_of_ble_eq_true rfl⟩ [0] [1] rfl rfl ⟨rfl, rfl⟩ (by decide) 0 rfl rfl rfl (Nat.le_of_ble_eq_true rfl) ⟨Nat.le_of_ble_eq_true rfl, Nat.le_of_ble_eq_true rfl⟩ (fun v u hpost => ?_)
      obtain ⟨r, rfl, rfl, rfl⟩ := hpost
      show J X [(o1, .inl (ty 0, 1728, .inl (kN Q))), (m, .inr (5, [.int (nI W), .int (nI H), .int (nI C), .int (nI 0), .ref o1, .ref o2, .int (nI nw), .int (nI nh), .ref go, .ref gt, .ref po, .ref pt, .ref my, .ref no, .ref so]))] [(0, .ref m), (1, .int (b)), (2, .int (x)), (3, .int (step)), (4, .int (nI (kct (fun j => decide (A j ≠ lo8 (kps x step j))) (q * C)))), (5, .int (kps x step (q * C))), (6, .int (nI q))] 20 [.int (nI (W * H)), .int (nI q)] 0 0
      refine J.sub (ws' := [(m, .inr (5, [.int (nI W), .int (nI H), .int (nI C), .int (nI 0), .ref o1, .ref o2, .int (nI nw), .int (nI nh), .ref go, .ref gt, .ref po, .ref pt, .ref my, .ref no, .ref so])), (o1, .inl (ty 0, 1728, .inl (kN Q)))]) [1, 0] rfl rfl ?_
      refine j_icmp_ge_n (tgt := 140) (pc' := 23) Cx dX5_paint_20 (by decide) rfl (by omega) (by omega) (fun hq => ?_) (fun hq => ?_)
      · have e : q = W * H := by omega
        subst e
        refine j_iload (pc' := 142) Cx dX5_paint_140 rfl rfl ?_
        exact j_iret Cx dX5_paint_142 R0 ⟨Nat.le_of_ble_eq_true rfl, Nat.le_of_ble_eq_true rfl⟩ (⟨_, rfl, rfl, Q, hQ, hR, rfl⟩)
      · have gq2 : (q + 1) * C ≤ W * H * C := Nat.mul_le_mul_right C hq
        rw [Nat.succ_mul] at gq2
        refine j_iconst (pc' := 24) (v := (nI 0)) Cx dX5_paint_23 rfl (by decide) ?_
        refine j_istore (pc' := 26) (lv' := [(0, .ref m), (1, .int (b)), (2, .int (x)), (3, .int (step)), (4, .int (nI (kct (fun j => decide (A j ≠ lo8 (kps x step j))) (q * C)))), (5, .int (kps x step (q * C))), (6, .int (nI q)), (7, .int (nI 0))]) Cx dX5_paint_24 rfl (by decide) rfl ?_
        have LQ : ∀ (LQ_n : Nat), ∀ (c : Nat) (Q : Nat → Nat), (C - c < LQ_n) → (c ≤ C) → (∀ i, Q i < 256) → (krel C (W * H) Q (kfill (fun j => lo8 (kps x step j)) A (q * C + c))) → J X [(m, .inr (5, [.int (nI W), .int (nI H), .int (nI C), .int (nI 0), .ref o1, .ref o2, .int (nI nw), .int (nI nh), .ref go, .ref gt, .ref po, .ref pt, .ref my, .ref no, .ref so])), (o1, .inl (ty 0, 1728, .inl (kN Q)))] [(0, .ref m), (1, .int (b)), (2, .int (x)), (3, .int (step)), (4, .int (nI (kct (fun j => decide (A j ≠ lo8 (kps x step j))) (q * C + c)))), (5, .int (kps x step (q * C + c))), (6, .int (nI q)), (7, .int (nI c))] 26 [] 0 0 := by
          intro LQ_n
          induction LQ_n with
          | zero =>
            intro c Q hms _ _ _
            exact absurd hms (Nat.not_lt_zero _)
          | succ LQ_n LQ_ih =>
            intro c Q LQ_m hlc hQ hR
            have hk2 := kct_le (fun j => decide (A j ≠ lo8 (kps x step j))) (q * C + c)
            refine j_iload (pc' := 28) Cx dX5_paint_26 rfl rfl ?_
            refine j_aload_n (pc' := 29) Cx dX5_paint_28 rfl rfl rfl ?_
            refine j_get (pc' := 32) (N := 15) Cx dX5_paint_29 rfl kin_X5_paint_X5 kfl_X5_paint_45 0 rfl rfl 2 rfl rfl rfl ?_
            refine j_icmp_ge_n (tgt := 134) (pc' := 35) Cx dX5_paint_32 (by decide) rfl (by omega) (by omega) (fun hc => ?_) (fun hc => ?_)
            · have e : c = C := by omega
              subst e
              refine j_iinc_n (pc' := 137) (z := 1) (a := q) (lv' := [(0, .ref m), (1, .int (b)), (2, .int (x)), (3, .int (step)), (4, .int (nI (kct (fun j => decide (A j ≠ lo8 (kps x step j))) (q * c + c)))), (5, .int (kps x step (q * c + c))), (6, .int (nI (q + 1))), (7, .int (nI c))]) Cx dX5_paint_134 rfl rfl (by decide) rfl ?_
              refine j_goto (tgt := 14) Cx dX5_paint_137 (by decide) ?_
              refine J.lvs (lv' := [(0, .ref m), (1, .int (b)), (2, .int (x)), (3, .int (step)), (4, .int (nI (kct (fun j => decide (A j ≠ lo8 (kps x step j))) (q * c + c)))), (5, .int (kps x step (q * c + c))), (6, .int (nI (q + 1)))]) [0, 1, 2, 3, 4, 5, 6] rfl ?_
              refine J.cast (ws' := [(m, .inr (5, [.int (nI W), .int (nI H), .int (nI c), .int (nI 0), .ref o1, .ref o2, .int (nI nw), .int (nI nh), .ref go, .ref gt, .ref po, .ref pt, .ref my, .ref no, .ref so])), (o1, .inl (ty 0, 1728, .inl (kN Q)))]) (lv' := [(0, .ref m), (1, .int (b)), (2, .int (x)), (3, .int (step)), (4, .int (nI (kct (fun j => decide (A j ≠ lo8 (kps x step j))) ((q + 1) * c)))), (5, .int (kps x step ((q + 1) * c))), (6, .int (nI (q + 1)))]) (pc' := 14) (st' := []) (rfl) (by rw [Nat.succ_mul]) rfl (rfl) rfl rfl ?_
              exact LP_ih (q + 1) Q (by omega) (by omega) hQ (by rw [Nat.succ_mul]; exact hR)
            · have hwas : Q (3 * q + c) = A (q * C + c) := by rw [hR.1 q c hq hc, kfill_out (Nat.le_refl _)]
              have hup : krel C (W * H) (va_up Q (3 * q + c) (lo8 (kps x step (q * C + c)))) (kfill (fun j => lo8 (kps x step j)) A (q * C + c + 1)) := by have hu := krel_up (v := lo8 (kps x step (q * C + c))) hR hq hc h3; rw [← kfill_up]; exact hu
              have hl8 := lo8_lt (kps x step (q * C + c))
              have hq0 := hQ (3 * q + c)
              refine j_iconst (pc' := 36) (v := (nI 3)) Cx dX5_paint_35 rfl (by decide) ?_
              refine j_iload (pc' := 38) Cx dX5_paint_36 rfl rfl ?_
              refine j_imul_n (pc' := 39) Cx dX5_paint_38 rfl ?_
              refine j_iload (pc' := 41) Cx dX5_paint_39 rfl rfl ?_
              refine j_iadd_n (pc' := 42) Cx dX5_paint_41 rfl ?_
              refine j_istore (pc' := 44) (lv' := [(0, .ref m), (1, .int (b)), (2, .int (x)), (3, .int (step)), (4, .int (nI (kct (fun j => decide (A j ≠ lo8 (kps x step j))) (q * C + c)))), (5, .int (kps x step (q * C + c))), (6, .int (nI q)), (7, .int (nI c)), (8, .int (nI ((3 * q) + c)))]) Cx dX5_paint_42 rfl (by decide) rfl ?_
              refine j_iload_n (pc' := 45) Cx dX5_paint_44 rfl rfl rfl ?_
              refine j_if_eq (tgt := 58) (pc' := 48) Cx dX5_paint_45 (by decide) rfl (fun hh => absurd hh (hb)) (fun _ => ?_)
              refine j_aload_n (pc' := 49) Cx dX5_paint_48 rfl rfl rfl ?_
              refine j_get (pc' := 52) (N := 15) Cx dX5_paint_49 rfl kin_X5_paint_X5 kfl_X5_paint_7 0 rfl rfl 4 rfl rfl rfl ?_
              refine j_iload (pc' := 54) Cx dX5_paint_52 rfl rfl ?_
              refine j_iaload_nn (pc' := 55) Cx dX5_paint_54 rfl 1 rfl (by omega) (by omega) ?_
              refine j_goto (tgt := 65) Cx dX5_paint_55 (by decide) ?_
              refine j_istore (pc' := 67) (lv' := [(0, .ref m), (1, .int (b)), (2, .int (x)), (3, .int (step)), (4, .int (nI (kct (fun j => decide (A j ≠ lo8 (kps x step j))) (q * C + c)))), (5, .int (kps x step (q * C + c))), (6, .int (nI q)), (7, .int (nI c)), (8, .int (nI ((3 * q) + c))), (9, .int (nI (Q ((3 * q) + c))))]) Cx dX5_paint_65 rfl (by decide) rfl ?_
              refine j_iload (pc' := 69) Cx dX5_paint_67 rfl rfl ?_
              refine j_iload (pc' := 71) Cx dX5_paint_69 rfl rfl ?_
              refine j_sipush (pc' := 74) (v := (nI 255)) Cx dX5_paint_71 rfl (by decide) ?_
              refine j_iand255 (pc' := 75) Cx dX5_paint_74 rfl ?_
              refine j_icmp_eq_n (tgt := 85) (pc' := 78) Cx dX5_paint_75 (by decide) rfl (by omega) (by omega) (fun hs => ?_) (fun hs => ?_)
              · have e2 : A (q * C + c) = lo8 (kps x step (q * C + c)) := hwas.symm.trans hs
                refine j_iload (pc' := 87) Cx dX5_paint_85 rfl rfl ?_
                refine j_istore (pc' := 89) (lv' := [(0, .ref m), (1, .int (b)), (2, .int (x)), (3, .int (step)), (4, .int (nI (kct (fun j => decide (A j ≠ lo8 (kps x step j))) (q * C + c)))), (5, .int (kps x step (q * C + c))), (6, .int (nI q)), (7, .int (nI c)), (8, .int (nI ((3 * q) + c))), (9, .int (nI (Q ((3 * q) + c))))]) Cx dX5_paint_87 rfl (by decide) rfl ?_
                refine j_iload_n (pc' := 90) Cx dX5_paint_89 rfl rfl rfl ?_
                refine j_if_eq (tgt := 109) (pc' := 93) Cx dX5_paint_90 (by decide) rfl (fun hh => absurd hh (hb)) (fun _ => ?_)
                refine j_aload_n (pc' := 94) Cx dX5_paint_93 rfl rfl rfl ?_
                refine j_get (pc' := 97) (N := 15) Cx dX5_paint_94 rfl kin_X5_paint_X5 kfl_X5_paint_7 0 rfl rfl 4 rfl rfl rfl ?_
                refine j_iload (pc' := 99) Cx dX5_paint_97 rfl rfl ?_
                refine j_iload (pc' := 101) Cx dX5_paint_99 rfl rfl ?_
                refine j_sipush (pc' := 104) (v := (nI 255)) Cx dX5_paint_101 rfl (by decide) ?_
                refine j_iand255 (pc' := 105) Cx dX5_paint_104 rfl ?_
                refine j_iastore_nn (pc' := 106) (ws' := [(m, .inr (5, [.int (nI W), .int (nI H), .int (nI C), .int (nI 0), .ref o1, .ref o2, .int (nI nw), .int (nI nh), .ref go, .ref gt, .ref po, .ref pt, .ref my, .ref no, .ref so])), (o1, .inl (ty 0, 1728, .inl (kN (va_up Q ((3 * q) + c) (lo8 (kps x step (q * C + c)))))))]) Cx dX5_paint_105 rfl 1 rfl (by omega) (by omega) rfl ?_
                refine j_goto (tgt := 122) Cx dX5_paint_106 (by decide) ?_
                refine j_iload (pc' := 124) Cx dX5_paint_122 rfl rfl ?_
                refine j_iload_n (pc' := 125) Cx dX5_paint_124 rfl rfl rfl ?_
                refine j_iadd (pc' := 126) Cx dX5_paint_125 rfl ?_
                refine j_istore (pc' := 128) (lv' := [(0, .ref m), (1, .int (b)), (2, .int (x)), (3, .int (step)), (4, .int (nI (kct (fun j => decide (A j ≠ lo8 (kps x step j))) (q * C + c)))), (5, .int ((kps x step (q * C + c)) + step)), (6, .int (nI q)), (7, .int (nI c)), (8, .int (nI ((3 * q) + c))), (9, .int (nI (Q ((3 * q) + c))))]) Cx dX5_paint_126 rfl (by decide) rfl ?_
                refine j_iinc_n (pc' := 131) (z := 1) (a := c) (lv' := [(0, .ref m), (1, .int (b)), (2, .int (x)), (3, .int (step)), (4, .int (nI (kct (fun j => decide (A j ≠ lo8 (kps x step j))) (q * C + c)))), (5, .int ((kps x step (q * C + c)) + step)), (6, .int (nI q)), (7, .int (nI (c + 1))), (8, .int (nI ((3 * q) + c))), (9, .int (nI (Q ((3 * q) + c))))]) Cx dX5_paint_128 rfl rfl (by decide) rfl ?_
                refine j_goto (tgt := 26) Cx dX5_paint_131 (by decide) ?_
                refine J.lvs (lv' := [(0, .ref m), (1, .int (b)), (2, .int (x)), (3, .int (step)), (4, .int (nI (kct (fun j => decide (A j ≠ lo8 (kps x step j))) (q * C + c)))), (5, .int ((kps x step (q * C + c)) + step)), (6, .int (nI q)), (7, .int (nI (c + 1)))]) [0, 1, 2, 3, 4, 5, 6, 7] rfl ?_
                refine J.cast (ws' := [(m, .inr (5, [.int (nI W), .int (nI H), .int (nI C), .int (nI 0), .ref o1, .ref o2, .int (nI nw), .int (nI nh), .ref go, .ref gt, .ref po, .ref pt, .ref my, .ref no, .ref so])), (o1, .inl (ty 0, 1728, .inl (kN (va_up Q (3 * q + c) (lo8 (kps x step (q * C + c)))))))]) (lv' := [(0, .ref m), (1, .int (b)), (2, .int (x)), (3, .int (step)), (4, .int (nI (kct (fun j => decide (A j ≠ lo8 (kps x step j))) (q * C + (c + 1))))), (5, .int (kps x step (q * C + (c + 1)))), (6, .int (nI q)), (7, .int (nI (c + 1)))]) (pc' := 26) (st' := []) (rfl) (by rw [kct_no (p := (fun j => decide (A j ≠ lo8 (kps x step j)))) (decide_eq_false (Decidable.not_not.mpr e2))]; rfl) rfl (rfl) rfl rfl ?_
                exact LQ_ih (c + 1) (va_up Q (3 * q + c) (lo8 (kps x step (q * C + c)))) (by omega) (by omega) (va_up_lt hQ hl8 _) hup
              · have e2 : A (q * C + c) ≠ lo8 (kps x step (q * C + c)) := fun e => hs (hwas.trans e)
                refine j_iload (pc' := 80) Cx dX5_paint_78 rfl rfl ?_
                refine j_iconst (pc' := 81) (v := (nI 1)) Cx dX5_paint_80 rfl (by decide) ?_
                refine j_iadd_n (pc' := 82) Cx dX5_paint_81 rfl ?_
                refine j_goto (tgt := 87) Cx dX5_paint_82 (by decide) ?_
                refine j_istore (pc' := 89) (lv' := [(0, .ref m), (1, .int (b)), (2, .int (x)), (3, .int (step)), (4, .int (nI ((kct (fun j => decide (A j ≠ lo8 (kps x step j))) (q * C + c)) + 1))), (5, .int (kps x step (q * C + c))), (6, .int (nI q)), (7, .int (nI c)), (8, .int (nI ((3 * q) + c))), (9, .int (nI (Q ((3 * q) + c))))]) Cx dX5_paint_87 rfl (by decide) rfl ?_
                refine j_iload_n (pc' := 90) Cx dX5_paint_89 rfl rfl rfl ?_
                refine j_if_eq (tgt := 109) (pc' := 93) Cx dX5_paint_90 (by decide) rfl (fun hh => absurd hh (hb)) (fun _ => ?_)
                refine j_aload_n (pc' := 94) Cx dX5_paint_93 rfl rfl rfl ?_
                refine j_get (pc' := 97) (N := 15) Cx dX5_paint_94 rfl kin_X5_paint_X5 kfl_X5_paint_7 0 rfl rfl 4 rfl rfl rfl ?_
                refine j_iload (pc' := 99) Cx dX5_paint_97 rfl rfl ?_
                refine j_iload (pc' := 101) Cx dX5_paint_99 rfl rfl ?_
                refine j_sipush (pc' := 104) (v := (nI 255)) Cx dX5_paint_101 rfl (by decide) ?_
                refine j_iand255 (pc' := 105) Cx dX5_paint_104 rfl ?_
                refine j_iastore_nn (pc' := 106) (ws' := [(m, .inr (5, [.int (nI W), .int (nI H), .int (nI C), .int (nI 0), .ref o1, .ref o2, .int (nI nw), .int (nI nh), .ref go, .ref gt, .ref po, .ref pt, .ref my, .ref no, .ref so])), (o1, .inl (ty 0, 1728, .inl (kN (va_up Q ((3 * q) + c) (lo8 (kps x step (q * C + c)))))))]) Cx dX5_paint_105 rfl 1 rfl (by omega) (by omega) rfl ?_
                refine j_goto (tgt := 122) Cx dX5_paint_106 (by decide) ?_
                refine j_iload (pc' := 124) Cx dX5_paint_122 rfl rfl ?_
                refine j_iload_n (pc' := 125) Cx dX5_paint_124 rfl rfl rfl ?_
                refine j_iadd (pc' := 126) Cx dX5_paint_125 rfl ?_
                refine j_istore (pc' := 128) (lv' := [(0, .ref m), (1, .int (b)), (2, .int (x)), (3, .int (step)), (4, .int (nI ((kct (fun j => decide (A j ≠ lo8 (kps x step j))) (q * C + c)) + 1))), (5, .int ((kps x step (q * C + c)) + step)), (6, .int (nI q)), (7, .int (nI c)), (8, .int (nI ((3 * q) + c))), (9, .int (nI (Q ((3 * q) + c))))]) Cx dX5_paint_126 rfl (by decide) rfl ?_
                refine j_iinc_n (pc' := 131) (z := 1) (a := c) (lv' := [(0, .ref m), (1, .int (b)), (2, .int (x)), (3, .int (step)), (4, .int (nI ((kct (fun j => decide (A j ≠ lo8 (kps x step j))) (q * C + c)) + 1))), (5, .int ((kps x step (q * C + c)) + step)), (6, .int (nI q)), (7, .int (nI (c + 1))), (8, .int (nI ((3 * q) + c))), (9, .int (nI (Q ((3 * q) + c))))]) Cx dX5_paint_128 rfl rfl (by decide) rfl ?_
                refine j_goto (tgt := 26) Cx dX5_paint_131 (by decide) ?_
                refine J.lvs (lv' := [(0, .ref m), (1, .int (b)), (2, .int (x)), (3, .int (step)), (4, .int (nI ((kct (fun j => decide (A j ≠ lo8 (kps x step j))) (q * C + c)) + 1))), (5, .int ((kps x step (q * C + c)) + step)), (6, .int (nI q)), (7, .int (nI (c + 1)))]) [0, 1, 2, 3, 4, 5, 6, 7] rfl ?_
                refine J.cast (ws' := [(m, .inr (5, [.int (nI W), .int (nI H), .int (nI C), .int (nI 0), .ref o1, .ref o2, .int (nI nw), .int (nI nh), .ref go, .ref gt, .ref po, .ref pt, .ref my, .ref no, .ref so])), (o1, .inl (ty 0, 1728, .inl (kN (va_up Q (3 * q + c) (lo8 (kps x step (q * C + c)))))))]) (lv' := [(0, .ref m), (1, .int (b)), (2, .int (x)), (3, .int (step)), (4, .int (nI (kct (fun j => decide (A j ≠ lo8 (kps x step j))) (q * C + (c + 1))))), (5, .int (kps x step (q * C + (c + 1)))), (6, .int (nI q)), (7, .int (nI (c + 1)))]) (pc' := 26) (st' := []) (rfl) (by rw [kct_yes (p := (fun j => decide (A j ≠ lo8 (kps x step j)))) (decide_eq_true e2)]; rfl) rfl (rfl) rfl rfl ?_
                exact LQ_ih (c + 1) (va_up Q (3 * q + c) (lo8 (kps x step (q * C + c)))) (by omega) (by omega) (va_up_lt hQ hl8 _) hup
        refine J.cast (ws' := [(m, .inr (5, [.int (nI W), .int (nI H), .int (nI C), .int (nI 0), .ref o1, .ref o2, .int (nI nw), .int (nI nh), .ref go, .ref gt, .ref po, .ref pt, .ref my, .ref no, .ref so])), (o1, .inl (ty 0, 1728, .inl (kN Q)))]) (lv' := [(0, .ref m), (1, .int (b)), (2, .int (x)), (3, .int (step)), (4, .int (nI (kct (fun j => decide (A j ≠ lo8 (kps x step j))) (q * C + 0)))), (5, .int (kps x step (q * C + 0))), (6, .int (nI q)), (7, .int (nI 0))]) (pc' := 26) (st' := []) (rfl) (rfl) rfl (rfl) rfl rfl ?_
        exact LQ (C + 1) 0 Q (by omega) (Nat.zero_le _) hQ hR
  have h00 : krel C (W * H) O (kfill (fun j => lo8 (kps x step j)) A (0 * C)) := by rw [Nat.zero_mul, kfill_0]; exact hrA
  refine J.cast (ws' := [(m, .inr (5, [.int (nI W), .int (nI H), .int (nI C), .int (nI 0), .ref o1, .ref o2, .int (nI nw), .int (nI nh), .ref go, .ref gt, .ref po, .ref pt, .ref my, .ref no, .ref so])), (o1, .inl (ty 0, 1728, .inl (kN O)))]) (lv' := [(0, .ref m), (1, .int (b)), (2, .int (x)), (3, .int (step)), (4, .int (nI (kct (fun j => decide (A j ≠ lo8 (kps x step j))) (0 * C)))), (5, .int (kps x step (0 * C))), (6, .int (nI 0))]) (pc' := 14) (st' := []) (rfl) (by rw [Nat.zero_mul]; rfl) rfl (rfl) rfl rfl ?_
  exact LP (W * H + 1) 0 O (by omega) (Nat.zero_le _) hO h00

set_option maxHeartbeats 4000000 in
set_option maxRecDepth 100000 in
/-- paint, of the other one -/
theorem c_X5_paint2 (l : Launch) (D : va_G) (ty : Nat → ClassId) (m o1 o2 go gt po pt my no so W H C : Nat) (nw nh : Nat) (fa : Int32) (hW : W ≤ 24) (hH : H ≤ 24) (hW1 : 1 ≤ W) (hH1 : 1 ≤ H) (h1 : 1 ≤ C) (h3 : C ≤ 3) (O A : Nat → Nat) (hO : ∀ i, O i < 256) (hrA : krel C (W * H) O A) (b x step : Int32) (hb : b = 0) : KM l yX5_paint wsX5_paint { frames := 1, cells := 0, slots := 0, locals := 40 } D ty [.ref m, .int (b), .int (x), .int (step)] [(m, .inr (5, [.int (nI W), .int (nI H), .int (nI C), .int (fa), .ref o1, .ref o2, .int (nI nw), .int (nI nh), .ref go, .ref gt, .ref po, .ref pt, .ref my, .ref no, .ref so])), (o2, .inl (ty 0, 1728, .inl (kN O)))] (kI (fun r u => r = nI (kct (fun j => decide (A j ≠ lo8 (kps x step j))) (W * H * C)) ∧ ∃ Q : Nat → Nat, (∀ i, Q i < 256) ∧ krel C (W * H) Q (kfill (fun j => lo8 (kps x step j)) A (W * H * C)) ∧ u = [(m, .inr (5, [.int (nI W), .int (nI H), .int (nI C), .int (nI 0), .ref o1, .ref o2, .int (nI nw), .int (nI nh), .ref go, .ref gt, .ref po, .ref pt, .ref my, .ref no, .ref so])), (o2, .inl (ty 0, 1728, .inl (kN Q)))])) 0 0 := by
  refine KM.of (cc := cX5_paint) (maxL := 10) (ret := (some .int)) (lv := [(0, .ref m), (1, .int (b)), (2, .int (x)), (3, .int (step))]) (by decide +kernel) rfl rfl rfl (fun X C0 R0 => ?_)
  have Cx : kC X cX5_paint wsX5_paint RX5 { frames := 1, cells := 0, slots := 0, locals := 40 } "paint" l D ty 10 := C0
  have hwh := k_wh hW hH
  have hNC : W * H * C ≤ 1728 := Nat.le_trans (Nat.mul_le_mul hwh h3) (by decide)
  refine j_aload_n (pc' := 1) Cx dX5_paint_0 rfl rfl rfl ?_
  refine j_iconst (pc' := 2) (v := (nI 0)) Cx dX5_paint_1 rfl (by decide) ?_
  refine j_put (pc' := 5) (N := 15) (t := .int) (ws' := [(m, .inr (5, [.int (nI W), .int (nI H), .int (nI C), .int (nI 0), .ref o1, .ref o2, .int (nI nw), .int (nI nh), .ref go, .ref gt, .ref po, .ref pt, .ref my, .ref no, .ref so])), (o2, .inl (ty 0, 1728, .inl (kN O)))]) Cx dX5_paint_2 rfl kin_X5_paint_X5 kfl_X5_paint_48 tyX5_ok nmX5 0 rfl rfl 3 rfl rfl rfl rfl rfl rfl rfl ?_
  refine j_iconst (pc' := 6) (v := (nI 0)) Cx dX5_paint_5 rfl (by decide) ?_
  refine j_istore (pc' := 8) (lv' := [(0, .ref m), (1, .int (b)), (2, .int (x)), (3, .int (step)), (4, .int (nI 0))]) Cx dX5_paint_6 rfl (by decide) rfl ?_
  refine j_iload_n (pc' := 9) Cx dX5_paint_8 rfl rfl rfl ?_
  refine j_istore (pc' := 11) (lv' := [(0, .ref m), (1, .int (b)), (2, .int (x)), (3, .int (step)), (4, .int (nI 0)), (5, .int (x))]) Cx dX5_paint_9 rfl (by decide) rfl ?_
  refine j_iconst (pc' := 12) (v := (nI 0)) Cx dX5_paint_11 rfl (by decide) ?_
  refine j_istore (pc' := 14) (lv' := [(0, .ref m), (1, .int (b)), (2, .int (x)), (3, .int (step)), (4, .int (nI 0)), (5, .int (x)), (6, .int (nI 0))]) Cx dX5_paint_12 rfl (by decide) rfl ?_
  have LP : ∀ (LP_n : Nat), ∀ (q : Nat) (Q : Nat → Nat), (W * H - q < LP_n) → (q ≤ W * H) → (∀ i, Q i < 256) → (krel C (W * H) Q (kfill (fun j => lo8 (kps x step j)) A (q * C))) → J X [(m, .inr (5, [.int (nI W), .int (nI H), .int (nI C), .int (nI 0), .ref o1, .ref o2, .int (nI nw), .int (nI nh), .ref go, .ref gt, .ref po, .ref pt, .ref my, .ref no, .ref so])), (o2, .inl (ty 0, 1728, .inl (kN Q)))] [(0, .ref m), (1, .int (b)), (2, .int (x)), (3, .int (step)), (4, .int (nI (kct (fun j => decide (A j ≠ lo8 (kps x step j))) (q * C)))), (5, .int (kps x step (q * C))), (6, .int (nI q))] 14 [] 0 0 := by
    intro LP_n
    induction LP_n with
    | zero =>
      intro q Q hms _ _ _
      exact absurd hms (Nat.not_lt_zero _)
    | succ LP_n LP_ih =>
      intro q Q LP_m hle hQ hR
      have gq : q * C ≤ W * H * C := Nat.mul_le_mul_right C hle
      have hk := kct_le (fun j => decide (A j ≠ lo8 (kps x step j))) (q * C)
      refine j_iload (pc' := 16) Cx dX5_paint_14 rfl rfl ?_
      refine j_aload_n (pc' := 17) Cx dX5_paint_16 rfl rfl rfl ?_
      refine j_callV (pc' := 20) (wr := [(o2, .inl (ty 0, 1728, .inl (kN Q)))]) (st := [.int (nI q)]) Cx dX5_paint_17 rfl (c_X5_places l D ty m o1 o2 go gt po pt my no so W H C nw nh (nI 0)) gX5_paint_X5_places rfl khd_X5_places rfl ⟨rfl, rfl, Nat.le_of_ble_eq_true rfl, Nat.le_of_ble_eq_true rfl⟩ [0] [1] rfl rfl ⟨rfl, rfl⟩ (by decide) 0 rfl rfl rfl (Nat.le_of_ble_eq_true rfl) ⟨Nat.le_of_ble_eq_true rfl, Nat.le_of_ble_eq_true rfl⟩ (fun v u hpost => ?_)
      obtain ⟨r, rfl, rfl, rfl⟩ := hpost
      show J X [(o2, .inl (ty 0, 1728, .inl (kN Q))), (m, .inr (5, [.int (nI W), .int (nI H), .int (nI C), .int (nI 0), .ref o1, .ref o2, .int (nI nw), .int (nI nh), .ref go, .ref gt, .ref po, .ref pt, .ref my, .ref no, .ref so]))] [(0, .ref m), (1, .int (b)), (2, .int (x)), (3, .int (step)), (4, .int (nI (kct (fun j => decide (A j ≠ lo8 (kps x step j))) (q * C)))), (5, .int (kps x step (q * C))), (6, .int (nI q))] 20 [.int (nI (W * H)), .int (nI q)] 0 0
      refine J.sub (ws' := [(m, .inr (5, [.int (nI W), .int (nI H), .int (nI C), .int (nI 0), .ref o1, .ref o2, .int (nI nw), .int (nI nh), .ref go, .ref gt, .ref po, .ref pt, .ref my, .ref no, .ref so])), (o2, .inl (ty 0, 1728, .inl (kN Q)))]) [1, 0] rfl rfl ?_
      refine j_icmp_ge_n (tgt := 140) (pc' := 23) Cx dX5_paint_20 (by decide) rfl (by omega) (by omega) (fun hq => ?_) (fun hq => ?_)
      · have e : q = W * H := by omega
        subst e
        refine j_iload (pc' := 142) Cx dX5_paint_140 rfl rfl ?_
        exact j_iret Cx dX5_paint_142 R0 ⟨Nat.le_of_ble_eq_true rfl, Nat.le_of_ble_eq_true rfl⟩ (⟨_, rfl, rfl, Q, hQ, hR, rfl⟩)
      · have gq2 : (q + 1) * C ≤ W * H * C := Nat.mul_le_mul_right C hq
        rw [Nat.succ_mul] at gq2
        refine j_iconst (pc' := 24) (v := (nI 0)) Cx dX5_paint_23 rfl (by decide) ?_
        refine j_istore (pc' := 26) (lv' := [(0, .ref m), (1, .int (b)), (2, .int (x)), (3, .int (step)), (4, .int (nI (kct (fun j => decide (A j ≠ lo8 (kps x step j))) (q * C)))), (5, .int (kps x step (q * C))), (6, .int (nI q)), (7, .int (nI 0))]) Cx dX5_paint_24 rfl (by decide) rfl ?_
        have LQ : ∀ (LQ_n : Nat), ∀ (c : Nat) (Q : Nat → Nat), (C - c < LQ_n) → (c ≤ C) → (∀ i, Q i < 256) → (krel C (W * H) Q (kfill (fun j => lo8 (kps x step j)) A (q * C + c))) → J X [(m, .inr (5, [.int (nI W), .int (nI H), .int (nI C), .int (nI 0), .ref o1, .ref o2, .int (nI nw), .int (nI nh), .ref go, .ref gt, .ref po, .ref pt, .ref my, .ref no, .ref so])), (o2, .inl (ty 0, 1728, .inl (kN Q)))] [(0, .ref m), (1, .int (b)), (2, .int (x)), (3, .int (step)), (4, .int (nI (kct (fun j => decide (A j ≠ lo8 (kps x step j))) (q * C + c)))), (5, .int (kps x step (q * C + c))), (6, .int (nI q)), (7, .int (nI c))] 26 [] 0 0 := by
          intro LQ_n
          induction LQ_n with
          | zero =>
            intro c Q hms _ _ _
            exact absurd hms (Nat.not_lt_zero _)
          | succ LQ_n LQ_ih =>
            intro c Q LQ_m hlc hQ hR
            have hk2 := kct_le (fun j => decide (A j ≠ lo8 (kps x step j))) (q * C + c)
            refine j_iload (pc' := 28) Cx dX5_paint_26 rfl rfl ?_
            refine j_aload_n (pc' := 29) Cx dX5_paint_28 rfl rfl rfl ?_
            refine j_get (pc' := 32) (N := 15) Cx dX5_paint_29 rfl kin_X5_paint_X5 kfl_X5_paint_45 0 rfl rfl 2 rfl rfl rfl ?_
            refine j_icmp_ge_n (tgt := 134) (pc' := 35) Cx dX5_paint_32 (by decide) rfl (by omega) (by omega) (fun hc => ?_) (fun hc => ?_)
            · have e : c = C := by omega
              subst e
              refine j_iinc_n (pc' := 137) (z := 1) (a := q) (lv' := [(0, .ref m), (1, .int (b)), (2, .int (x)), (3, .int (step)), (4, .int (nI (kct (fun j => decide (A j ≠ lo8 (kps x step j))) (q * c + c)))), (5, .int (kps x step (q * c + c))), (6, .int (nI (q + 1))), (7, .int (nI c))]) Cx dX5_paint_134 rfl rfl (by decide) rfl ?_
              refine j_goto (tgt := 14) Cx dX5_paint_137 (by decide) ?_
              refine J.lvs (lv' := [(0, .ref m), (1, .int (b)), (2, .int (x)), (3, .int (step)), (4, .int (nI (kct (fun j => decide (A j ≠ lo8 (kps x step j))) (q * c + c)))), (5, .int (kps x step (q * c + c))), (6, .int (nI (q + 1)))]) [0, 1, 2, 3, 4, 5, 6] rfl ?_
              refine J.cast (ws' := [(m, .inr (5, [.int (nI W), .int (nI H), .int (nI c), .int (nI 0), .ref o1, .ref o2, .int (nI nw), .int (nI nh), .ref go, .ref gt, .ref po, .ref pt, .ref my, .ref no, .ref so])), (o2, .inl (ty 0, 1728, .inl (kN Q)))]) (lv' := [(0, .ref m), (1, .int (b)), (2, .int (x)), (3, .int (step)), (4, .int (nI (kct (fun j => decide (A j ≠ lo8 (kps x step j))) ((q + 1) * c)))), (5, .int (kps x step ((q + 1) * c))), (6, .int (nI (q + 1)))]) (pc' := 14) (st' := []) (rfl) (by rw [Nat.succ_mul]) rfl (rfl) rfl rfl ?_
              exact LP_ih (q + 1) Q (by omega) (by omega) hQ (by rw [Nat.succ_mul]; exact hR)
            · have hwas : Q (3 * q + c) = A (q * C + c) := by rw [hR.1 q c hq hc, kfill_out (Nat.le_refl _)]
              have hup : krel C (W * H) (va_up Q (3 * q + c) (lo8 (kps x step (q * C + c)))) (kfill (fun j => lo8 (kps x step j)) A (q * C + c + 1)) := by have hu := krel_up (v := lo8 (kps x step (q * C + c))) hR hq hc h3; rw [← kfill_up]; exact hu
              have hl8 := lo8_lt (kps x step (q * C + c))
              have hq0 := hQ (3 * q + c)
              refine j_iconst (pc' := 36) (v := (nI 3)) Cx dX5_paint_35 rfl (by decide) ?_
              refine j_iload (pc' := 38) Cx dX5_paint_36 rfl rfl ?_
              refine j_imul_n (pc' := 39) Cx dX5_paint_38 rfl ?_
              refine j_iload (pc' := 41) Cx dX5_paint_39 rfl rfl ?_
              refine j_iadd_n (pc' := 42) Cx dX5_paint_41 rfl ?_
              refine j_istore (pc' := 44) (lv' := [(0, .ref m), (1, .int (b)), (2, .int (x)), (3, .int (step)), (4, .int (nI (kct (fun j => decide (A j ≠ lo8 (kps x step j))) (q * C + c)))), (5, .int (kps x step (q * C + c))), (6, .int (nI q)), (7, .int (nI c)), (8, .int (nI ((3 * q) + c)))]) Cx dX5_paint_42 rfl (by decide) rfl ?_
              refine j_iload_n (pc' := 45) Cx dX5_paint_44 rfl rfl rfl ?_
              refine j_if_eq (tgt := 58) (pc' := 48) Cx dX5_paint_45 (by decide) rfl (fun _ => ?_) (fun hh => absurd hh (not_not_intro hb))
              refine j_aload_n (pc' := 59) Cx dX5_paint_58 rfl rfl rfl ?_
              refine j_get (pc' := 62) (N := 15) Cx dX5_paint_59 rfl kin_X5_paint_X5 kfl_X5_paint_13 0 rfl rfl 5 rfl rfl rfl ?_
              refine j_iload (pc' := 64) Cx dX5_paint_62 rfl rfl ?_
              refine j_iaload_nn (pc' := 65) Cx dX5_paint_64 rfl 1 rfl (by omega) (by omega) ?_
              refine j_istore (pc' := 67) (lv' := [(0, .ref m), (1, .int (b)), (2, .int (x)), (3, .int (step)), (4, .int (nI (kct (fun j => decide (A j ≠ lo8 (kps x step j))) (q * C + c)))), (5, .int (kps x step (q * C + c))), (6, .int (nI q)), (7, .int (nI c)), (8, .int (nI ((3 * q) + c))), (9, .int (nI (Q ((3 * q) + c))))]) Cx dX5_paint_65 rfl (by decide) rfl ?_
              refine j_iload (pc' := 69) Cx dX5_paint_67 rfl rfl ?_
              refine j_iload (pc' := 71) Cx dX5_paint_69 rfl rfl ?_
              refine j_sipush (pc' := 74) (v := (nI 255)) Cx dX5_paint_71 rfl (by decide) ?_
              refine j_iand255 (pc' := 75) Cx dX5_paint_74 rfl ?_
              refine j_icmp_eq_n (tgt := 85) (pc' := 78) Cx dX5_paint_75 (by decide) rfl (by omega) (by omega) (fun hs => ?_) (fun hs => ?_)
              · have e2 : A (q * C + c) = lo8 (kps x step (q * C + c)) := hwas.symm.trans hs
                refine j_iload (pc' := 87) Cx dX5_paint_85 rfl rfl ?_
                refine j_istore (pc' := 89) (lv' := [(0, .ref m), (1, .int (b)), (2, .int (x)), (3, .int (step)), (4, .int (nI (kct (fun j => decide (A j ≠ lo8 (kps x step j))) (q * C + c)))), (5, .int (kps x step (q * C + c))), (6, .int (nI q)), (7, .int (nI c)), (8, .int (nI ((3 * q) + c))), (9, .int (nI (Q ((3 * q) + c))))]) Cx dX5_paint_87 rfl (by decide) rfl ?_
                refine j_iload_n (pc' := 90) Cx dX5_paint_89 rfl rfl rfl ?_
                refine j_if_eq (tgt := 109) (pc' := 93) Cx dX5_paint_90 (by decide) rfl (fun _ => ?_) (fun hh => absurd hh (not_not_intro hb))
                refine j_aload_n (pc' := 110) Cx dX5_paint_109 rfl rfl rfl ?_
                refine j_get (pc' := 113) (N := 15) Cx dX5_paint_110 rfl kin_X5_paint_X5 kfl_X5_paint_13 0 rfl rfl 5 rfl rfl rfl ?_
                refine j_iload (pc' := 115) Cx dX5_paint_113 rfl rfl ?_
                refine j_iload (pc' := 117) Cx dX5_paint_115 rfl rfl ?_
                refine j_sipush (pc' := 120) (v := (nI 255)) Cx dX5_paint_117 rfl (by decide) ?_
                refine j_iand255 (pc' := 121) Cx dX5_paint_120 rfl ?_
                refine j_iastore_nn (pc' := 122) (ws' := [(m, .inr (5, [.int (nI W), .int (nI H), .int (nI C), .int (nI 0), .ref o1, .ref o2, .int (nI nw), .int (nI nh), .ref go, .ref gt, .ref po, .ref pt, .ref my, .ref no, .ref so])), (o2, .inl (ty 0, 1728, .inl (kN (va_up Q ((3 * q) + c) (lo8 (kps x step (q * C + c)))))))]) Cx dX5_paint_121 rfl 1 rfl (by omega) (by omega) rfl ?_
                refine j_iload (pc' := 124) Cx dX5_paint_122 rfl rfl ?_
                refine j_iload_n (pc' := 125) Cx dX5_paint_124 rfl rfl rfl ?_
                refine j_iadd (pc' := 126) Cx dX5_paint_125 rfl ?_
                refine j_istore (pc' := 128) (lv' := [(0, .ref m), (1, .int (b)), (2, .int (x)), (3, .int (step)), (4, .int (nI (kct (fun j => decide (A j ≠ lo8 (kps x step j))) (q * C + c)))), (5, .int ((kps x step (q * C + c)) + step)), (6, .int (nI q)), (7, .int (nI c)), (8, .int (nI ((3 * q) + c))), (9, .int (nI (Q ((3 * q) + c))))]) Cx dX5_paint_126 rfl (by decide) rfl ?_
                refine j_iinc_n (pc' := 131) (z := 1) (a := c) (lv' := [(0, .ref m), (1, .int (b)), (2, .int (x)), (3, .int (step)), (4, .int (nI (kct (fun j => decide (A j ≠ lo8 (kps x step j))) (q * C + c)))), (5, .int ((kps x step (q * C + c)) + step)), (6, .int (nI q)), (7, .int (nI (c + 1))), (8, .int (nI ((3 * q) + c))), (9, .int (nI (Q ((3 * q) + c))))]) Cx dX5_paint_128 rfl rfl (by decide) rfl ?_
                refine j_goto (tgt := 26) Cx dX5_paint_131 (by decide) ?_
                refine J.lvs (lv' := [(0, .ref m), (1, .int (b)), (2, .int (x)), (3, .int (step)), (4, .int (nI (kct (fun j => decide (A j ≠ lo8 (kps x step j))) (q * C + c)))), (5, .int ((kps x step (q * C + c)) + step)), (6, .int (nI q)), (7, .int (nI (c + 1)))]) [0, 1, 2, 3, 4, 5, 6, 7] rfl ?_
                refine J.cast (ws' := [(m, .inr (5, [.int (nI W), .int (nI H), .int (nI C), .int (nI 0), .ref o1, .ref o2, .int (nI nw), .int (nI nh), .ref go, .ref gt, .ref po, .ref pt, .ref my, .ref no, .ref so])), (o2, .inl (ty 0, 1728, .inl (kN (va_up Q (3 * q + c) (lo8 (kps x step (q * C + c)))))))]) (lv' := [(0, .ref m), (1, .int (b)), (2, .int (x)), (3, .int (step)), (4, .int (nI (kct (fun j => decide (A j ≠ lo8 (kps x step j))) (q * C + (c + 1))))), (5, .int (kps x step (q * C + (c + 1)))), (6, .int (nI q)), (7, .int (nI (c + 1)))]) (pc' := 26) (st' := []) (rfl) (by rw [kct_no (p := (fun j => decide (A j ≠ lo8 (kps x step j)))) (decide_eq_false (Decidable.not_not.mpr e2))]; rfl) rfl (rfl) rfl rfl ?_
                exact LQ_ih (c + 1) (va_up Q (3 * q + c) (lo8 (kps x step (q * C + c)))) (by omega) (by omega) (va_up_lt hQ hl8 _) hup
              · have e2 : A (q * C + c) ≠ lo8 (kps x step (q * C + c)) := fun e => hs (hwas.trans e)
                refine j_iload (pc' := 80) Cx dX5_paint_78 rfl rfl ?_
                refine j_iconst (pc' := 81) (v := (nI 1)) Cx dX5_paint_80 rfl (by decide) ?_
                refine j_iadd_n (pc' := 82) Cx dX5_paint_81 rfl ?_
                refine j_goto (tgt := 87) Cx dX5_paint_82 (by decide) ?_
                refine j_istore (pc' := 89) (lv' := [(0, .ref m), (1, .int (b)), (2, .int (x)), (3, .int (step)), (4, .int (nI ((kct (fun j => decide (A j ≠ lo8 (kps x step j))) (q * C + c)) + 1))), (5, .int (kps x step (q * C + c))), (6, .int (nI q)), (7, .int (nI c)), (8, .int (nI ((3 * q) + c))), (9, .int (nI (Q ((3 * q) + c))))]) Cx dX5_paint_87 rfl (by decide) rfl ?_
                refine j_iload_n (pc' := 90) Cx dX5_paint_89 rfl rfl rfl ?_
                refine j_if_eq (tgt := 109) (pc' := 93) Cx dX5_paint_90 (by decide) rfl (fun _ => ?_) (fun hh => absurd hh (not_not_intro hb))
                refine j_aload_n (pc' := 110) Cx dX5_paint_109 rfl rfl rfl ?_
                refine j_get (pc' := 113) (N := 15) Cx dX5_paint_110 rfl kin_X5_paint_X5 kfl_X5_paint_13 0 rfl rfl 5 rfl rfl rfl ?_
                refine j_iload (pc' := 115) Cx dX5_paint_113 rfl rfl ?_
                refine j_iload (pc' := 117) Cx dX5_paint_115 rfl rfl ?_
                refine j_sipush (pc' := 120) (v := (nI 255)) Cx dX5_paint_117 rfl (by decide) ?_
                refine j_iand255 (pc' := 121) Cx dX5_paint_120 rfl ?_
                refine j_iastore_nn (pc' := 122) (ws' := [(m, .inr (5, [.int (nI W), .int (nI H), .int (nI C), .int (nI 0), .ref o1, .ref o2, .int (nI nw), .int (nI nh), .ref go, .ref gt, .ref po, .ref pt, .ref my, .ref no, .ref so])), (o2, .inl (ty 0, 1728, .inl (kN (va_up Q ((3 * q) + c) (lo8 (kps x step (q * C + c)))))))]) Cx dX5_paint_121 rfl 1 rfl (by omega) (by omega) rfl ?_
                refine j_iload (pc' := 124) Cx dX5_paint_122 rfl rfl ?_
                refine j_iload_n (pc' := 125) Cx dX5_paint_124 rfl rfl rfl ?_
                refine j_iadd (pc' := 126) Cx dX5_paint_125 rfl ?_
                refine j_istore (pc' := 128) (lv' := [(0, .ref m), (1, .int (b)), (2, .int (x)), (3, .int (step)), (4, .int (nI ((kct (fun j => decide (A j ≠ lo8 (kps x step j))) (q * C + c)) + 1))), (5, .int ((kps x step (q * C + c)) + step)), (6, .int (nI q)), (7, .int (nI c)), (8, .int (nI ((3 * q) + c))), (9, .int (nI (Q ((3 * q) + c))))]) Cx dX5_paint_126 rfl (by decide) rfl ?_
                refine j_iinc_n (pc' := 131) (z := 1) (a := c) (lv' := [(0, .ref m), (1, .int (b)), (2, .int (x)), (3, .int (step)), (4, .int (nI ((kct (fun j => decide (A j ≠ lo8 (kps x step j))) (q * C + c)) + 1))), (5, .int ((kps x step (q * C + c)) + step)), (6, .int (nI q)), (7, .int (nI (c + 1))), (8, .int (nI ((3 * q) + c))), (9, .int (nI (Q ((3 * q) + c))))]) Cx dX5_paint_128 rfl rfl (by decide) rfl ?_
                refine j_goto (tgt := 26) Cx dX5_paint_131 (by decide) ?_
                refine J.lvs (lv' := [(0, .ref m), (1, .int (b)), (2, .int (x)), (3, .int (step)), (4, .int (nI ((kct (fun j => decide (A j ≠ lo8 (kps x step j))) (q * C + c)) + 1))), (5, .int ((kps x step (q * C + c)) + step)), (6, .int (nI q)), (7, .int (nI (c + 1)))]) [0, 1, 2, 3, 4, 5, 6, 7] rfl ?_
                refine J.cast (ws' := [(m, .inr (5, [.int (nI W), .int (nI H), .int (nI C), .int (nI 0), .ref o1, .ref o2, .int (nI nw), .int (nI nh), .ref go, .ref gt, .ref po, .ref pt, .ref my, .ref no, .ref so])), (o2, .inl (ty 0, 1728, .inl (kN (va_up Q (3 * q + c) (lo8 (kps x step (q * C + c)))))))]) (lv' := [(0, .ref m), (1, .int (b)), (2, .int (x)), (3, .int (step)), (4, .int (nI (kct (fun j => decide (A j ≠ lo8 (kps x step j))) (q * C + (c + 1))))), (5, .int (kps x step (q * C + (c + 1)))), (6, .int (nI q)), (7, .int (nI (c + 1)))]) (pc' := 26) (st' := []) (rfl) (by rw [kct_yes (p := (fun j => decide (A j ≠ lo8 (kps x step j)))) (decide_eq_true e2)]; rfl) rfl (rfl) rfl rfl ?_
                exact LQ_ih (c + 1) (va_up Q (3 * q + c) (lo8 (kps x step (q * C + c)))) (by omega) (by omega) (va_up_lt hQ hl8 _) hup
        refine J.cast (ws' := [(m, .inr (5, [.int (nI W), .int (nI H), .int (nI C), .int (nI 0), .ref o1, .ref o2, .int (nI nw), .int (nI nh), .ref go, .ref gt, .ref po, .ref pt, .ref my, .ref no, .ref so])), (o2, .inl (ty 0, 1728, .inl (kN Q)))]) (lv' := [(0, .ref m), (1, .int (b)), (2, .int (x)), (3, .int (step)), (4, .int (nI (kct (fun j => decide (A j ≠ lo8 (kps x step j))) (q * C + 0)))), (5, .int (kps x step (q * C + 0))), (6, .int (nI q)), (7, .int (nI 0))]) (pc' := 26) (st' := []) (rfl) (rfl) rfl (rfl) rfl rfl ?_
        exact LQ (C + 1) 0 Q (by omega) (Nat.zero_le _) hQ hR
  have h00 : krel C (W * H) O (kfill (fun j => lo8 (kps x step j)) A (0 * C)) := by rw [Nat.zero_mul, kfill_0]; exact hrA
  refine J.cast (ws' := [(m, .inr (5, [.int (nI W), .int (nI H), .int (nI C), .int (nI 0), .ref o1, .ref o2, .int (nI nw), .int (nI nh), .ref go, .ref gt, .ref po, .ref pt, .ref my, .ref no, .ref so])), (o2, .inl (ty 0, 1728, .inl (kN O)))]) (lv' := [(0, .ref m), (1, .int (b)), (2, .int (x)), (3, .int (step)), (4, .int (nI (kct (fun j => decide (A j ≠ lo8 (kps x step j))) (0 * C)))), (5, .int (kps x step (0 * C))), (6, .int (nI 0))]) (pc' := 14) (st' := []) (rfl) (by rw [Nat.zero_mul]; rfl) rfl (rfl) rfl rfl ?_
  exact LP (W * H + 1) 0 O (by omega) (Nat.zero_le _) hO h00

set_option maxHeartbeats 4000000 in
set_option maxRecDepth 100000 in
/-- copy, of the other one -/
theorem c_X5_copy (l : Launch) (D : va_G) (ty : Nat → ClassId) (m o1 o2 go gt po pt my no so W H C : Nat) (nw nh : Nat) (fa : Int32) (hW : W ≤ 24) (hH : H ≤ 24) (hW1 : 1 ≤ W) (hH1 : 1 ≤ H) (h1 : 1 ≤ C) (h3 : C ≤ 3) (O T A B : Nat → Nat) (hO : ∀ i, O i < 256) (hT : ∀ i, T i < 256) (hrA : krel C (W * H) O A) (hrB : krel C (W * H) T B) : KM l yX5_copy wsX5_copy { frames := 1, cells := 0, slots := 0, locals := 40 } D ty [.ref m] [(m, .inr (5, [.int (nI W), .int (nI H), .int (nI C), .int (fa), .ref o1, .ref o2, .int (nI nw), .int (nI nh), .ref go, .ref gt, .ref po, .ref pt, .ref my, .ref no, .ref so])), (o1, .inl (ty 0, 1728, .inl (kN O))), (o2, .inl (ty 0, 1728, .inl (kN T)))] (kI (fun r u => r = nI (kct (fun j => decide (B j ≠ A j)) (W * H * C)) ∧ u = [(m, .inr (5, [.int (nI W), .int (nI H), .int (nI C), .int (nI 0), .ref o1, .ref o2, .int (nI nw), .int (nI nh), .ref go, .ref gt, .ref po, .ref pt, .ref my, .ref no, .ref so])), (o1, .inl (ty 0, 1728, .inl (kN O))), (o2, .inl (ty 0, 1728, .inl (kN (kfill O T (3 * (W * H))))))])) 0 0 := by
  refine KM.of (cc := cX5_copy) (maxL := 3) (ret := (some .int)) (lv := [(0, .ref m)]) (by decide +kernel) rfl rfl rfl (fun X C0 R0 => ?_)
  have Cx : kC X cX5_copy wsX5_copy RX5 { frames := 1, cells := 0, slots := 0, locals := 40 } "copy" l D ty 3 := C0
  have hwh := k_wh hW hH
  refine j_aload_n (pc' := 1) Cx dX5_copy_0 rfl rfl rfl ?_
  refine j_iconst (pc' := 2) (v := (nI 0)) Cx dX5_copy_1 rfl (by decide) ?_
  refine j_put (pc' := 5) (N := 15) (t := .int) (ws' := [(m, .inr (5, [.int (nI W), .int (nI H), .int (nI C), .int (nI 0), .ref o1, .ref o2, .int (nI nw), .int (nI nh), .ref go, .ref gt, .ref po, .ref pt, .ref my, .ref no, .ref so])), (o1, .inl (ty 0, 1728, .inl (kN O))), (o2, .inl (ty 0, 1728, .inl (kN T)))]) Cx dX5_copy_2 rfl kin_X5_copy_X5 kfl_X5_copy_48 tyX5_ok nmX5 0 rfl rfl 3 rfl rfl rfl rfl rfl rfl rfl ?_
  refine j_iconst (pc' := 6) (v := (nI 0)) Cx dX5_copy_5 rfl (by decide) ?_
  refine j_istore_n (pc' := 7) (lv' := [(0, .ref m), (1, .int (nI 0))]) Cx dX5_copy_6 rfl rfl (by decide) rfl ?_
  refine j_iconst (pc' := 8) (v := (nI 0)) Cx dX5_copy_7 rfl (by decide) ?_
  refine j_istore_n (pc' := 9) (lv' := [(0, .ref m), (1, .int (nI 0)), (2, .int (nI 0))]) Cx dX5_copy_8 rfl rfl (by decide) rfl ?_
  have LP : ∀ (LP_n : Nat), ∀ (i : Nat), (3 * (W * H) - i < LP_n) → (i ≤ 3 * (W * H)) → J X [(m, .inr (5, [.int (nI W), .int (nI H), .int (nI C), .int (nI 0), .ref o1, .ref o2, .int (nI nw), .int (nI nh), .ref go, .ref gt, .ref po, .ref pt, .ref my, .ref no, .ref so])), (o1, .inl (ty 0, 1728, .inl (kN O))), (o2, .inl (ty 0, 1728, .inl (kN (kfill O T i))))] [(0, .ref m), (1, .int (nI (kct (fun j => decide (T j ≠ O j)) i))), (2, .int (nI i))] 9 [] 0 0 := by
    intro LP_n
    induction LP_n with
    | zero =>
      intro i hms _
      exact absurd hms (Nat.not_lt_zero _)
    | succ LP_n LP_ih =>
      intro i LP_m hle
      have hk := kct_le (fun j => decide (T j ≠ O j)) i
      refine j_iload_n (pc' := 10) Cx dX5_copy_9 rfl rfl rfl ?_
      refine j_iconst (pc' := 11) (v := (nI 3)) Cx dX5_copy_10 rfl (by decide) ?_
      refine j_aload_n (pc' := 12) Cx dX5_copy_11 rfl rfl rfl ?_
      refine j_callV (pc' := 15) (wr := [(o1, .inl (ty 0, 1728, .inl (kN O))), (o2, .inl (ty 0, 1728, .inl (kN (kfill O T i))))]) (st := [.int (nI 3), .int (nI i)]) Cx dX5_copy_12 rfl (c_X5_places l D ty m o1 o2 go gt po pt my no so W H C nw nh (nI 0)) gX5_copy_X5_places rfl khd_X5_places rfl ⟨rfl, rfl, Nat.le_of_ble_eq_true rfl, Nat.le_of_ble_eq_true rfl⟩ [0] [1, 2] rfl rfl ⟨rfl, rfl⟩ (by decide) 0 rfl rfl rfl (Nat.le_of_ble_eq_true rfl) ⟨Nat.le_of_ble_eq_true rfl, Nat.le_of_ble_eq_true rfl⟩ (fun v u hpost => ?_)
      obtain ⟨r, rfl, rfl, rfl⟩ := hpost
      show J X [(o1, .inl (ty 0, 1728, .inl (kN O))), (o2, .inl (ty 0, 1728, .inl (kN (kfill O T i)))), (m, .inr (5, [.int (nI W), .int (nI H), .int (nI C), .int (nI 0), .ref o1, .ref o2, .int (nI nw), .int (nI nh), .ref go, .ref gt, .ref po, .ref pt, .ref my, .ref no, .ref so]))] [(0, .ref m), (1, .int (nI (kct (fun j => decide (T j ≠ O j)) i))), (2, .int (nI i))] 15 [.int (nI (W * H)), .int (nI 3), .int (nI i)] 0 0
      refine J.sub (ws' := [(m, .inr (5, [.int (nI W), .int (nI H), .int (nI C), .int (nI 0), .ref o1, .ref o2, .int (nI nw), .int (nI nh), .ref go, .ref gt, .ref po, .ref pt, .ref my, .ref no, .ref so])), (o1, .inl (ty 0, 1728, .inl (kN O))), (o2, .inl (ty 0, 1728, .inl (kN (kfill O T i))))]) [2, 0, 1] rfl rfl ?_
      refine j_imul_n (pc' := 16) Cx dX5_copy_15 rfl ?_
      refine j_icmp_ge_n (tgt := 60) (pc' := 19) Cx dX5_copy_16 (by decide) rfl (by omega) (by omega) (fun hi => ?_) (fun hi => ?_)
      · have e : i = 3 * (W * H) := by omega
        subst e
        have e3 : kct (fun j => decide (T j ≠ O j)) (3 * (W * H)) = kct (fun j => decide (B j ≠ A j)) (W * H * C) := kct_3 h1 h3 (W * H) (fun x c hx hc => by rw [hrA.1 x c hx hc, hrB.1 x c hx hc]) (fun x c hx hc hc3 => by rw [hrA.2 x c hx hc hc3, hrB.2 x c hx hc hc3]; rfl)
        refine j_iload_n (pc' := 61) Cx dX5_copy_60 rfl rfl rfl ?_
        exact j_iret Cx dX5_copy_61 R0 ⟨Nat.le_of_ble_eq_true rfl, Nat.le_of_ble_eq_true rfl⟩ (⟨_, rfl, congrArg nI e3, rfl⟩)
      · have g1 := hO i
        have g2 : kfill O T i i < 256 := kfill_lt hO hT i i
        refine j_aload_n (pc' := 20) Cx dX5_copy_19 rfl rfl rfl ?_
        refine j_get (pc' := 23) (N := 15) Cx dX5_copy_20 rfl kin_X5_copy_X5 kfl_X5_copy_7 0 rfl rfl 4 rfl rfl rfl ?_
        refine j_iload_n (pc' := 24) Cx dX5_copy_23 rfl rfl rfl ?_
        refine j_iaload_nn (pc' := 25) Cx dX5_copy_24 rfl 1 rfl (by omega) (by omega) ?_
        refine j_aload_n (pc' := 26) Cx dX5_copy_25 rfl rfl rfl ?_
        refine j_get (pc' := 29) (N := 15) Cx dX5_copy_26 rfl kin_X5_copy_X5 kfl_X5_copy_13 0 rfl rfl 5 rfl rfl rfl ?_
        refine j_iload_n (pc' := 30) Cx dX5_copy_29 rfl rfl rfl ?_
        refine j_iaload_nn (pc' := 31) Cx dX5_copy_30 rfl 2 rfl (by omega) (by omega) ?_
        refine j_icmp_eq_n (tgt := 40) (pc' := 34) Cx dX5_copy_31 (by decide) rfl (by omega) (by omega) (fun hs => ?_) (fun hs => ?_)
        · have e2 : T i = O i := by rw [kfill_out (Nat.le_refl i)] at hs; exact hs.symm
          refine j_iload_n (pc' := 41) Cx dX5_copy_40 rfl rfl rfl ?_
          refine j_istore_n (pc' := 42) (lv' := [(0, .ref m), (1, .int (nI (kct (fun j => decide (T j ≠ O j)) i))), (2, .int (nI i))]) Cx dX5_copy_41 rfl rfl (by decide) rfl ?_
          refine j_aload_n (pc' := 43) Cx dX5_copy_42 rfl rfl rfl ?_
          refine j_get (pc' := 46) (N := 15) Cx dX5_copy_43 rfl kin_X5_copy_X5 kfl_X5_copy_13 0 rfl rfl 5 rfl rfl rfl ?_
          refine j_iload_n (pc' := 47) Cx dX5_copy_46 rfl rfl rfl ?_
          refine j_aload_n (pc' := 48) Cx dX5_copy_47 rfl rfl rfl ?_
          refine j_get (pc' := 51) (N := 15) Cx dX5_copy_48 rfl kin_X5_copy_X5 kfl_X5_copy_7 0 rfl rfl 4 rfl rfl rfl ?_
          refine j_iload_n (pc' := 52) Cx dX5_copy_51 rfl rfl rfl ?_
          refine j_iaload_nn (pc' := 53) Cx dX5_copy_52 rfl 1 rfl (by omega) (by omega) ?_
          refine j_iastore_nn (pc' := 54) (ws' := [(m, .inr (5, [.int (nI W), .int (nI H), .int (nI C), .int (nI 0), .ref o1, .ref o2, .int (nI nw), .int (nI nh), .ref go, .ref gt, .ref po, .ref pt, .ref my, .ref no, .ref so])), (o1, .inl (ty 0, 1728, .inl (kN O))), (o2, .inl (ty 0, 1728, .inl (kN (va_up (kfill O T i) i (O i)))))]) Cx dX5_copy_53 rfl 2 rfl (by omega) (by omega) rfl ?_
          refine j_iinc_n (pc' := 57) (z := 1) (a := i) (lv' := [(0, .ref m), (1, .int (nI (kct (fun j => decide (T j ≠ O j)) i))), (2, .int (nI (i + 1)))]) Cx dX5_copy_54 rfl rfl (by decide) rfl ?_
          refine j_goto (tgt := 9) Cx dX5_copy_57 (by decide) ?_
          refine J.lvs (lv' := [(0, .ref m), (1, .int (nI (kct (fun j => decide (T j ≠ O j)) i))), (2, .int (nI (i + 1)))]) [0, 1, 2] rfl ?_
          refine J.cast (ws' := [(m, .inr (5, [.int (nI W), .int (nI H), .int (nI C), .int (nI 0), .ref o1, .ref o2, .int (nI nw), .int (nI nh), .ref go, .ref gt, .ref po, .ref pt, .ref my, .ref no, .ref so])), (o1, .inl (ty 0, 1728, .inl (kN O))), (o2, .inl (ty 0, 1728, .inl (kN (kfill O T (i + 1)))))]) (lv' := [(0, .ref m), (1, .int (nI (kct (fun j => decide (T j ≠ O j)) (i + 1)))), (2, .int (nI (i + 1)))]) (pc' := 9) (st' := []) (by rw [kfill_up]) (by rw [kct_no (p := (fun j => decide (T j ≠ O j))) (decide_eq_false (Decidable.not_not.mpr e2))]) rfl (rfl) rfl rfl ?_
          exact LP_ih (i + 1) (by omega) (by omega)
        · have e2 : T i ≠ O i := by rw [kfill_out (Nat.le_refl i)] at hs; exact fun e => hs e.symm
          refine j_iload_n (pc' := 35) Cx dX5_copy_34 rfl rfl rfl ?_
          refine j_iconst (pc' := 36) (v := (nI 1)) Cx dX5_copy_35 rfl (by decide) ?_
          refine j_iadd_n (pc' := 37) Cx dX5_copy_36 rfl ?_
          refine j_goto (tgt := 41) Cx dX5_copy_37 (by decide) ?_
          refine j_istore_n (pc' := 42) (lv' := [(0, .ref m), (1, .int (nI ((kct (fun j => decide (T j ≠ O j)) i) + 1))), (2, .int (nI i))]) Cx dX5_copy_41 rfl rfl (by decide) rfl ?_
          refine j_aload_n (pc' := 43) Cx dX5_copy_42 rfl rfl rfl ?_
          refine j_get (pc' := 46) (N := 15) Cx dX5_copy_43 rfl kin_X5_copy_X5 kfl_X5_copy_13 0 rfl rfl 5 rfl rfl rfl ?_
          refine j_iload_n (pc' := 47) Cx dX5_copy_46 rfl rfl rfl ?_
          refine j_aload_n (pc' := 48) Cx dX5_copy_47 rfl rfl rfl ?_
          refine j_get (pc' := 51) (N := 15) Cx dX5_copy_48 rfl kin_X5_copy_X5 kfl_X5_copy_7 0 rfl rfl 4 rfl rfl rfl ?_
          refine j_iload_n (pc' := 52) Cx dX5_copy_51 rfl rfl rfl ?_
          refine j_iaload_nn (pc' := 53) Cx dX5_copy_52 rfl 1 rfl (by omega) (by omega) ?_
          refine j_iastore_nn (pc' := 54) (ws' := [(m, .inr (5, [.int (nI W), .int (nI H), .int (nI C), .int (nI 0), .ref o1, .ref o2, .int (nI nw), .int (nI nh), .ref go, .ref gt, .ref po, .ref pt, .ref my, .ref no, .ref so])), (o1, .inl (ty 0, 1728, .inl (kN O))), (o2, .inl (ty 0, 1728, .inl (kN (va_up (kfill O T i) i (O i)))))]) Cx dX5_copy_53 rfl 2 rfl (by omega) (by omega) rfl ?_
          refine j_iinc_n (pc' := 57) (z := 1) (a := i) (lv' := [(0, .ref m), (1, .int (nI ((kct (fun j => decide (T j ≠ O j)) i) + 1))), (2, .int (nI (i + 1)))]) Cx dX5_copy_54 rfl rfl (by decide) rfl ?_
          refine j_goto (tgt := 9) Cx dX5_copy_57 (by decide) ?_
          refine J.lvs (lv' := [(0, .ref m), (1, .int (nI ((kct (fun j => decide (T j ≠ O j)) i) + 1))), (2, .int (nI (i + 1)))]) [0, 1, 2] rfl ?_
          refine J.cast (ws' := [(m, .inr (5, [.int (nI W), .int (nI H), .int (nI C), .int (nI 0), .ref o1, .ref o2, .int (nI nw), .int (nI nh), .ref go, .ref gt, .ref po, .ref pt, .ref my, .ref no, .ref so])), (o1, .inl (ty 0, 1728, .inl (kN O))), (o2, .inl (ty 0, 1728, .inl (kN (kfill O T (i + 1)))))]) (lv' := [(0, .ref m), (1, .int (nI (kct (fun j => decide (T j ≠ O j)) (i + 1)))), (2, .int (nI (i + 1)))]) (pc' := 9) (st' := []) (by rw [kfill_up]) (by rw [kct_yes (p := (fun j => decide (T j ≠ O j))) (decide_eq_true e2)]) rfl (rfl) rfl rfl ?_
          exact LP_ih (i + 1) (by omega) (by omega)
  refine J.cast (ws' := [(m, .inr (5, [.int (nI W), .int (nI H), .int (nI C), .int (nI 0), .ref o1, .ref o2, .int (nI nw), .int (nI nh), .ref go, .ref gt, .ref po, .ref pt, .ref my, .ref no, .ref so])), (o1, .inl (ty 0, 1728, .inl (kN O))), (o2, .inl (ty 0, 1728, .inl (kN (kfill O T 0))))]) (lv' := [(0, .ref m), (1, .int (nI (kct (fun j => decide (T j ≠ O j)) 0))), (2, .int (nI 0))]) (pc' := 9) (st' := []) (by rw [kfill_0]) (rfl) rfl (rfl) rfl rfl ?_
  exact LP (3 * (W * H) + 1) 0 (by omega) (Nat.zero_le _)

set_option maxHeartbeats 4000000 in
set_option maxRecDepth 100000 in
/-- greatest, of the other one -/
theorem c_X5_greatest (l : Launch) (D : va_G) (ty : Nat → ClassId) (m o1 o2 go gt po pt my no so W H C : Nat) (nw nh : Nat) (fa : Int32) (hW : W ≤ 24) (hH : H ≤ 24) (hW1 : 1 ≤ W) (hH1 : 1 ≤ H) (h1 : 1 ≤ C) (h3 : C ≤ 3) (O T A B : Nat → Nat) (hO : ∀ i, O i < 256) (hT : ∀ i, T i < 256) (hrA : krel C (W * H) O A) (hrB : krel C (W * H) T B) : KM l yX5_greatest wsX5_greatest { frames := 1, cells := 0, slots := 0, locals := 40 } D ty [.ref m] [(m, .inr (5, [.int (nI W), .int (nI H), .int (nI C), .int (fa), .ref o1, .ref o2, .int (nI nw), .int (nI nh), .ref go, .ref gt, .ref po, .ref pt, .ref my, .ref no, .ref so])), (o1, .inl (ty 0, 1728, .inl (kN O))), (o2, .inl (ty 0, 1728, .inl (kN T)))] (kI (fun r u => r = nI (kmx (fun j => kd (A j) (B j)) (W * H * C)) ∧ u = [(m, .inr (5, [.int (nI W), .int (nI H), .int (nI C), .int (nI 0), .ref o1, .ref o2, .int (nI nw), .int (nI nh), .ref go, .ref gt, .ref po, .ref pt, .ref my, .ref no, .ref so])), (o1, .inl (ty 0, 1728, .inl (kN O))), (o2, .inl (ty 0, 1728, .inl (kN T)))])) 0 0 := by
  refine KM.of (cc := cX5_greatest) (maxL := 4) (ret := (some .int)) (lv := [(0, .ref m)]) (by decide +kernel) rfl rfl rfl (fun X C0 R0 => ?_)
  have Cx : kC X cX5_greatest wsX5_greatest RX5 { frames := 1, cells := 0, slots := 0, locals := 40 } "greatest" l D ty 4 := C0
  have hwh := k_wh hW hH
  have hd : ∀ j, kd (O j) (T j) ≤ 255 := fun j => kd_le (Nat.le_of_lt_succ (hO j)) (Nat.le_of_lt_succ (hT j))
  refine j_aload_n (pc' := 1) Cx dX5_greatest_0 rfl rfl rfl ?_
  refine j_iconst (pc' := 2) (v := (nI 0)) Cx dX5_greatest_1 rfl (by decide) ?_
  refine j_put (pc' := 5) (N := 15) (t := .int) (ws' := [(m, .inr (5, [.int (nI W), .int (nI H), .int (nI C), .int (nI 0), .ref o1, .ref o2, .int (nI nw), .int (nI nh), .ref go, .ref gt, .ref po, .ref pt, .ref my, .ref no, .ref so])), (o1, .inl (ty 0, 1728, .inl (kN O))), (o2, .inl (ty 0, 1728, .inl (kN T)))]) Cx dX5_greatest_2 rfl kin_X5_greatest_X5 kfl_X5_greatest_48 tyX5_ok nmX5 0 rfl rfl 3 rfl rfl rfl rfl rfl rfl rfl ?_
  refine j_iconst (pc' := 6) (v := (nI 0)) Cx dX5_greatest_5 rfl (by decide) ?_
  refine j_istore_n (pc' := 7) (lv' := [(0, .ref m), (1, .int (nI 0))]) Cx dX5_greatest_6 rfl rfl (by decide) rfl ?_
  refine j_iconst (pc' := 8) (v := (nI 0)) Cx dX5_greatest_7 rfl (by decide) ?_
  refine j_istore_n (pc' := 9) (lv' := [(0, .ref m), (1, .int (nI 0)), (2, .int (nI 0))]) Cx dX5_greatest_8 rfl rfl (by decide) rfl ?_
  have LP : ∀ (LP_n : Nat), ∀ (i : Nat), (3 * (W * H) - i < LP_n) → (i ≤ 3 * (W * H)) → J X [(m, .inr (5, [.int (nI W), .int (nI H), .int (nI C), .int (nI 0), .ref o1, .ref o2, .int (nI nw), .int (nI nh), .ref go, .ref gt, .ref po, .ref pt, .ref my, .ref no, .ref so])), (o1, .inl (ty 0, 1728, .inl (kN O))), (o2, .inl (ty 0, 1728, .inl (kN T)))] [(0, .ref m), (1, .int (nI (kmx (fun j => kd (O j) (T j)) i))), (2, .int (nI i))] 9 [] 0 0 := by
    intro LP_n
    induction LP_n with
    | zero =>
      intro i hms _
      exact absurd hms (Nat.not_lt_zero _)
    | succ LP_n LP_ih =>
      intro i LP_m hle
      have hk := kmx_le hd i
      have hdi := hd i
      have g1 := hO i
      have g2 := hT i
      refine j_iload_n (pc' := 10) Cx dX5_greatest_9 rfl rfl rfl ?_
      refine j_iconst (pc' := 11) (v := (nI 3)) Cx dX5_greatest_10 rfl (by decide) ?_
      refine j_aload_n (pc' := 12) Cx dX5_greatest_11 rfl rfl rfl ?_
      refine j_callV (pc' := 15) (wr := [(o1, .inl (ty 0, 1728, .inl (kN O))), (o2, .inl (ty 0, 1728, .inl (kN T)))]) (st := [.int (nI 3), .int (nI i)]) Cx dX5_greatest_12 rfl (c_X5_places l D ty m o1 o2 go gt po pt my no so W H C nw nh (nI 0)) gX5_greatest_X5_places rfl khd_X5_places rfl ⟨rfl, rfl, Nat.le_of_ble_eq_true rfl, Nat.le_of_ble_eq_true rfl⟩ [0] [1, 2] rfl rfl ⟨rfl, rfl⟩ (by decide) 0 rfl rfl rfl (Nat.le_of_ble_eq_true rfl) ⟨Nat.le_of_ble_eq_true rfl, Nat.le_of_ble_eq_true rfl⟩ (fun v u hpost => ?_)
      obtain ⟨r, rfl, rfl, rfl⟩ := hpost
      show J X [(o1, .inl (ty 0, 1728, .inl (kN O))), (o2, .inl (ty 0, 1728, .inl (kN T))), (m, .inr (5, [.int (nI W), .int (nI H), .int (nI C), .int (nI 0), .ref o1, .ref o2, .int (nI nw), .int (nI nh), .ref go, .ref gt, .ref po, .ref pt, .ref my, .ref no, .ref so]))] [(0, .ref m), (1, .int (nI (kmx (fun j => kd (O j) (T j)) i))), (2, .int (nI i))] 15 [.int (nI (W * H)), .int (nI 3), .int (nI i)] 0 0
      refine J.sub (ws' := [(m, .inr (5, [.int (nI W), .int (nI H), .int (nI C), .int (nI 0), .ref o1, .ref o2, .int (nI nw), .int (nI nh), .ref go, .ref gt, .ref po, .ref pt, .ref my, .ref no, .ref so])), (o1, .inl (ty 0, 1728, .inl (kN O))), (o2, .inl (ty 0, 1728, .inl (kN T)))]) [2, 0, 1] rfl rfl ?_
      refine j_imul_n (pc' := 16) Cx dX5_greatest_15 rfl ?_
      refine j_icmp_ge_n (tgt := 81) (pc' := 19) Cx dX5_greatest_16 (by decide) rfl (by omega) (by omega) (fun hi => ?_) (fun hi => ?_)
      · have e : i = 3 * (W * H) := by omega
        subst e
        have e3 : kmx (fun j => kd (O j) (T j)) (3 * (W * H)) = kmx (fun j => kd (A j) (B j)) (W * H * C) := kmx_3 h1 h3 (W * H) (fun x c hx hc => by rw [hrA.1 x c hx hc, hrB.1 x c hx hc]) (fun x c hx hc hc3 => by rw [hrA.2 x c hx hc hc3, hrB.2 x c hx hc hc3]; rfl)
        refine j_iload_n (pc' := 82) Cx dX5_greatest_81 rfl rfl rfl ?_
        exact j_iret Cx dX5_greatest_82 R0 ⟨Nat.le_of_ble_eq_true rfl, Nat.le_of_ble_eq_true rfl⟩ (⟨_, rfl, congrArg nI e3, rfl⟩)
      · refine j_aload_n (pc' := 20) Cx dX5_greatest_19 rfl rfl rfl ?_
        refine j_get (pc' := 23) (N := 15) Cx dX5_greatest_20 rfl kin_X5_greatest_X5 kfl_X5_greatest_7 0 rfl rfl 4 rfl rfl rfl ?_
        refine j_iload_n (pc' := 24) Cx dX5_greatest_23 rfl rfl rfl ?_
        refine j_iaload_nn (pc' := 25) Cx dX5_greatest_24 rfl 1 rfl (by omega) (by omega) ?_
        refine j_aload_n (pc' := 26) Cx dX5_greatest_25 rfl rfl rfl ?_
        refine j_get (pc' := 29) (N := 15) Cx dX5_greatest_26 rfl kin_X5_greatest_X5 kfl_X5_greatest_13 0 rfl rfl 5 rfl rfl rfl ?_
        refine j_iload_n (pc' := 30) Cx dX5_greatest_29 rfl rfl rfl ?_
        refine j_iaload_nn (pc' := 31) Cx dX5_greatest_30 rfl 2 rfl (by omega) (by omega) ?_
        refine j_icmp_ge_n (tgt := 50) (pc' := 34) Cx dX5_greatest_31 (by decide) rfl (by omega) (by omega) (fun hs => ?_) (fun hs => ?_)
        · refine j_aload_n (pc' := 51) Cx dX5_greatest_50 rfl rfl rfl ?_
          refine j_get (pc' := 54) (N := 15) Cx dX5_greatest_51 rfl kin_X5_greatest_X5 kfl_X5_greatest_7 0 rfl rfl 4 rfl rfl rfl ?_
          refine j_iload_n (pc' := 55) Cx dX5_greatest_54 rfl rfl rfl ?_
          refine j_iaload_nn (pc' := 56) Cx dX5_greatest_55 rfl 1 rfl (by omega) (by omega) ?_
          refine j_aload_n (pc' := 57) Cx dX5_greatest_56 rfl rfl rfl ?_
          refine j_get (pc' := 60) (N := 15) Cx dX5_greatest_57 rfl kin_X5_greatest_X5 kfl_X5_greatest_13 0 rfl rfl 5 rfl rfl rfl ?_
          refine j_iload_n (pc' := 61) Cx dX5_greatest_60 rfl rfl rfl ?_
          refine j_iaload_nn (pc' := 62) Cx dX5_greatest_61 rfl 2 rfl (by omega) (by omega) ?_
          refine j_isub_n (pc' := 63) Cx dX5_greatest_62 rfl (by omega) ?_
          refine j_top (v' := .int (nI (kd (O i) (T i)))) (congrArg (fun z : Nat => Value.int (nI z)) (show (O i) - (T i) = kd (O i) (T i) from by unfold kd; omega)) ?_
          refine j_istore_n (pc' := 64) (lv' := [(0, .ref m), (1, .int (nI (kmx (fun j => kd (O j) (T j)) i))), (2, .int (nI i)), (3, .int (nI (kd (O i) (T i))))]) Cx dX5_greatest_63 rfl rfl (by decide) rfl ?_
          refine j_iload_n (pc' := 65) Cx dX5_greatest_64 rfl rfl rfl ?_
          refine j_iload_n (pc' := 66) Cx dX5_greatest_65 rfl rfl rfl ?_
          refine j_icmp_le_n (tgt := 73) (pc' := 69) Cx dX5_greatest_66 (by decide) rfl (by omega) (by omega) (fun hm => ?_) (fun hm => ?_)
          · refine j_iload_n (pc' := 74) Cx dX5_greatest_73 rfl rfl rfl ?_
            refine j_istore_n (pc' := 75) (lv' := [(0, .ref m), (1, .int (nI (kmx (fun j => kd (O j) (T j)) i))), (2, .int (nI i)), (3, .int (nI (kd (O i) (T i))))]) Cx dX5_greatest_74 rfl rfl (by decide) rfl ?_
            refine j_iinc_n (pc' := 78) (z := 1) (a := i) (lv' := [(0, .ref m), (1, .int (nI (kmx (fun j => kd (O j) (T j)) i))), (2, .int (nI (i + 1))), (3, .int (nI (kd (O i) (T i))))]) Cx dX5_greatest_75 rfl rfl (by decide) rfl ?_
            refine j_goto (tgt := 9) Cx dX5_greatest_78 (by decide) ?_
            refine J.lvs (lv' := [(0, .ref m), (1, .int (nI (kmx (fun j => kd (O j) (T j)) i))), (2, .int (nI (i + 1)))]) [0, 1, 2] rfl ?_
            refine J.cast (ws' := [(m, .inr (5, [.int (nI W), .int (nI H), .int (nI C), .int (nI 0), .ref o1, .ref o2, .int (nI nw), .int (nI nh), .ref go, .ref gt, .ref po, .ref pt, .ref my, .ref no, .ref so])), (o1, .inl (ty 0, 1728, .inl (kN O))), (o2, .inl (ty 0, 1728, .inl (kN T)))]) (lv' := [(0, .ref m), (1, .int (nI (kmx (fun j => kd (O j) (T j)) (i + 1)))), (2, .int (nI (i + 1)))]) (pc' := 9) (st' := []) (rfl) (by rw [show kmx (fun j => kd (O j) (T j)) (i + 1) = kmx (fun j => kd (O j) (T j)) i from if_neg (Nat.not_lt.mpr hm)]) rfl (rfl) rfl rfl ?_
            exact LP_ih (i + 1) (by omega) (by omega)
          · refine j_iload_n (pc' := 70) Cx dX5_greatest_69 rfl rfl rfl ?_
            refine j_goto (tgt := 74) Cx dX5_greatest_70 (by decide) ?_
            refine j_istore_n (pc' := 75) (lv' := [(0, .ref m), (1, .int (nI (kd (O i) (T i)))), (2, .int (nI i)), (3, .int (nI (kd (O i) (T i))))]) Cx dX5_greatest_74 rfl rfl (by decide) rfl ?_
            refine j_iinc_n (pc' := 78) (z := 1) (a := i) (lv' := [(0, .ref m), (1, .int (nI (kd (O i) (T i)))), (2, .int (nI (i + 1))), (3, .int (nI (kd (O i) (T i))))]) Cx dX5_greatest_75 rfl rfl (by decide) rfl ?_
            refine j_goto (tgt := 9) Cx dX5_greatest_78 (by decide) ?_
            refine J.lvs (lv' := [(0, .ref m), (1, .int (nI (kd (O i) (T i)))), (2, .int (nI (i + 1)))]) [0, 1, 2] rfl ?_
            refine J.cast (ws' := [(m, .inr (5, [.int (nI W), .int (nI H), .int (nI C), .int (nI 0), .ref o1, .ref o2, .int (nI nw), .int (nI nh), .ref go, .ref gt, .ref po, .ref pt, .ref my, .ref no, .ref so])), (o1, .inl (ty 0, 1728, .inl (kN O))), (o2, .inl (ty 0, 1728, .inl (kN T)))]) (lv' := [(0, .ref m), (1, .int (nI (kmx (fun j => kd (O j) (T j)) (i + 1)))), (2, .int (nI (i + 1)))]) (pc' := 9) (st' := []) (rfl) (by rw [show kmx (fun j => kd (O j) (T j)) (i + 1) = kd (O i) (T i) from if_pos hm]) rfl (rfl) rfl rfl ?_
            exact LP_ih (i + 1) (by omega) (by omega)
        · refine j_aload_n (pc' := 35) Cx dX5_greatest_34 rfl rfl rfl ?_
          refine j_get (pc' := 38) (N := 15) Cx dX5_greatest_35 rfl kin_X5_greatest_X5 kfl_X5_greatest_13 0 rfl rfl 5 rfl rfl rfl ?_
          refine j_iload_n (pc' := 39) Cx dX5_greatest_38 rfl rfl rfl ?_
          refine j_iaload_nn (pc' := 40) Cx dX5_greatest_39 rfl 2 rfl (by omega) (by omega) ?_
          refine j_aload_n (pc' := 41) Cx dX5_greatest_40 rfl rfl rfl ?_
          refine j_get (pc' := 44) (N := 15) Cx dX5_greatest_41 rfl kin_X5_greatest_X5 kfl_X5_greatest_7 0 rfl rfl 4 rfl rfl rfl ?_
          refine j_iload_n (pc' := 45) Cx dX5_greatest_44 rfl rfl rfl ?_
          refine j_iaload_nn (pc' := 46) Cx dX5_greatest_45 rfl 1 rfl (by omega) (by omega) ?_
          refine j_isub_n (pc' := 47) Cx dX5_greatest_46 rfl (by omega) ?_
          refine j_goto (tgt := 63) Cx dX5_greatest_47 (by decide) ?_
          refine j_top (v' := .int (nI (kd (O i) (T i)))) (congrArg (fun z : Nat => Value.int (nI z)) (show (T i) - (O i) = kd (O i) (T i) from by unfold kd; omega)) ?_
          refine j_istore_n (pc' := 64) (lv' := [(0, .ref m), (1, .int (nI (kmx (fun j => kd (O j) (T j)) i))), (2, .int (nI i)), (3, .int (nI (kd (O i) (T i))))]) Cx dX5_greatest_63 rfl rfl (by decide) rfl ?_
          refine j_iload_n (pc' := 65) Cx dX5_greatest_64 rfl rfl rfl ?_
          refine j_iload_n (pc' := 66) Cx dX5_greatest_65 rfl rfl rfl ?_
          refine j_icmp_le_n (tgt := 73) (pc' := 69) Cx dX5_greatest_66 (by decide) rfl (by omega) (by omega) (fun hm => ?_) (fun hm => ?_)
          · refine j_iload_n (pc' := 74) Cx dX5_greatest_73 rfl rfl rfl ?_
            refine j_istore_n (pc' := 75) (lv' := [(0, .ref m), (1, .int (nI (kmx (fun j => kd (O j) (T j)) i))), (2, .int (nI i)), (3, .int (nI (kd (O i) (T i))))]) Cx dX5_greatest_74 rfl rfl (by decide) rfl ?_
            refine j_iinc_n (pc' := 78) (z := 1) (a := i) (lv' := [(0, .ref m), (1, .int (nI (kmx (fun j => kd (O j) (T j)) i))), (2, .int (nI (i + 1))), (3, .int (nI (kd (O i) (T i))))]) Cx dX5_greatest_75 rfl rfl (by decide) rfl ?_
            refine j_goto (tgt := 9) Cx dX5_greatest_78 (by decide) ?_
            refine J.lvs (lv' := [(0, .ref m), (1, .int (nI (kmx (fun j => kd (O j) (T j)) i))), (2, .int (nI (i + 1)))]) [0, 1, 2] rfl ?_
            refine J.cast (ws' := [(m, .inr (5, [.int (nI W), .int (nI H), .int (nI C), .int (nI 0), .ref o1, .ref o2, .int (nI nw), .int (nI nh), .ref go, .ref gt, .ref po, .ref pt, .ref my, .ref no, .ref so])), (o1, .inl (ty 0, 1728, .inl (kN O))), (o2, .inl (ty 0, 1728, .inl (kN T)))]) (lv' := [(0, .ref m), (1, .int (nI (kmx (fun j => kd (O j) (T j)) (i + 1)))), (2, .int (nI (i + 1)))]) (pc' := 9) (st' := []) (rfl) (by rw [show kmx (fun j => kd (O j) (T j)) (i + 1) = kmx (fun j => kd (O j) (T j)) i from if_neg (Nat.not_lt.mpr hm)]) rfl (rfl) rfl rfl ?_
            exact LP_ih (i + 1) (by omega) (by omega)
          · refine j_iload_n (pc' := 70) Cx dX5_greatest_69 rfl rfl rfl ?_
            refine j_goto (tgt := 74) Cx dX5_greatest_70 (by decide) ?_
            refine j_istore_n (pc' := 75) (lv' := [(0, .ref m), (1, .int (nI (kd (O i) (T i)))), (2, .int (nI i)), (3, .int (nI (kd (O i) (T i))))]) Cx dX5_greatest_74 rfl rfl (by decide) rfl ?_
            refine j_iinc_n (pc' := 78) (z := 1) (a := i) (lv' := [(0, .ref m), (1, .int (nI (kd (O i) (T i)))), (2, .int (nI (i + 1))), (3, .int (nI (kd (O i) (T i))))]) Cx dX5_greatest_75 rfl rfl (by decide) rfl ?_
            refine j_goto (tgt := 9) Cx dX5_greatest_78 (by decide) ?_
            refine J.lvs (lv' := [(0, .ref m), (1, .int (nI (kd (O i) (T i)))), (2, .int (nI (i + 1)))]) [0, 1, 2] rfl ?_
            refine J.cast (ws' := [(m, .inr (5, [.int (nI W), .int (nI H), .int (nI C), .int (nI 0), .ref o1, .ref o2, .int (nI nw), .int (nI nh), .ref go, .ref gt, .ref po, .ref pt, .ref my, .ref no, .ref so])), (o1, .inl (ty 0, 1728, .inl (kN O))), (o2, .inl (ty 0, 1728, .inl (kN T)))]) (lv' := [(0, .ref m), (1, .int (nI (kmx (fun j => kd (O j) (T j)) (i + 1)))), (2, .int (nI (i + 1)))]) (pc' := 9) (st' := []) (rfl) (by rw [show kmx (fun j => kd (O j) (T j)) (i + 1) = kd (O i) (T i) from if_pos hm]) rfl (rfl) rfl rfl ?_
            exact LP_ih (i + 1) (by omega) (by omega)
  exact LP (3 * (W * H) + 1) 0 (by omega) (Nat.zero_le _)

set_option maxHeartbeats 4000000 in
set_option maxRecDepth 100000 in
theorem c_X5_equal (l : Launch) (D : va_G) (ty : Nat → ClassId) (m o1 o2 go gt po pt my no so W H C : Nat) (nw nh : Nat) (fa : Int32) (hW : W ≤ 24) (hH : H ≤ 24) (hW1 : 1 ≤ W) (hH1 : 1 ≤ H) (h1 : 1 ≤ C) (h3 : C ≤ 3) (O T A B : Nat → Nat) (hO : ∀ i, O i < 256) (hT : ∀ i, T i < 256) (hrA : krel C (W * H) O A) (hrB : krel C (W * H) T B) : KM l yX5_equal wsX5_equal { frames := 2, cells := 0, slots := 0, locals := 90 } D ty [.ref m] [(m, .inr (5, [.int (nI W), .int (nI H), .int (nI C), .int (fa), .ref o1, .ref o2, .int (nI nw), .int (nI nh), .ref go, .ref gt, .ref po, .ref pt, .ref my, .ref no, .ref so])), (o1, .inl (ty 0, 1728, .inl (kN O))), (o2, .inl (ty 0, 1728, .inl (kN T)))] (kI (fun r u => r = nI (if kmx (fun j => kd (A j) (B j)) (W * H * C) = 0 then 1 else 0) ∧ u = [(m, .inr (5, [.int (nI W), .int (nI H), .int (nI C), .int (nI 0), .ref o1, .ref o2, .int (nI nw), .int (nI nh), .ref go, .ref gt, .ref po, .ref pt, .ref my, .ref no, .ref so])), (o1, .inl (ty 0, 1728, .inl (kN O))), (o2, .inl (ty 0, 1728, .inl (kN T)))])) 0 0 := by
  refine KM.of (cc := cX5_equal) (maxL := 1) (ret := (some .boolean)) (lv := [(0, .ref m)]) (by decide +kernel) rfl rfl rfl (fun X C0 R0 => ?_)
  have Cx : kC X cX5_equal wsX5_equal RX5 { frames := 2, cells := 0, slots := 0, locals := 90 } "equal" l D ty 1 := C0
  refine j_aload_n (pc' := 1) Cx dX5_equal_0 rfl rfl rfl ?_
  refine j_callV (pc' := 4) (wr := []) (st := []) Cx dX5_equal_1 rfl (c_X5_greatest l D ty m o1 o2 go gt po pt my no so W H C nw nh fa hW hH hW1 hH1 h1 h3 O T A B hO hT hrA hrB) gX5_equal_X5_greatest rfl khd_X5_greatest rfl ⟨rfl, rfl, Nat.le_of_ble_eq_true rfl, Nat.le_of_ble_eq_true rfl⟩ [0, 1, 2] [] rfl rfl ⟨rfl, rfl⟩ (by decide) 0 rfl rfl rfl (Nat.le_of_ble_eq_true rfl) ⟨Nat.le_of_ble_eq_true rfl, Nat.le_of_ble_eq_true rfl⟩ (fun v u hpost => ?_)
  obtain ⟨r, rfl, rfl, rfl⟩ := hpost
  show J X [(m, .inr (5, [.int (nI W), .int (nI H), .int (nI C), .int (nI 0), .ref o1, .ref o2, .int (nI nw), .int (nI nh), .ref go, .ref gt, .ref po, .ref pt, .ref my, .ref no, .ref so])), (o1, .inl (ty 0, 1728, .inl (kN O))), (o2, .inl (ty 0, 1728, .inl (kN T)))] [(0, .ref m)] 4 [.int (nI (kmx (fun j => kd (A j) (B j)) (W * H * C)))] 0 0
  refine j_if_ne_n (tgt := 11) (pc' := 7) Cx dX5_equal_4 (by decide) rfl (Nat.lt_of_le_of_lt (kmx_le_of h1 h3 hO hT hrA hrB) (by decide)) (fun h0 => ?_) (fun h0 => ?_)
  · refine j_iconst (pc' := 12) (v := (nI 0)) Cx dX5_equal_11 rfl (by decide) ?_
    exact j_zret Cx dX5_equal_12 R0 (by decide) ⟨Nat.le_of_ble_eq_true rfl, Nat.le_of_ble_eq_true rfl⟩ (⟨_, rfl, by rw [if_neg h0], rfl⟩)
  · refine j_iconst (pc' := 8) (v := (nI 1)) Cx dX5_equal_7 rfl (by decide) ?_
    refine j_goto (tgt := 12) Cx dX5_equal_8 (by decide) ?_
    exact j_zret Cx dX5_equal_12 R0 (by decide) ⟨Nat.le_of_ble_eq_true rfl, Nat.le_of_ble_eq_true rfl⟩ (⟨_, rfl, by rw [if_pos h0], rfl⟩)

set_option maxHeartbeats 4000000 in
set_option maxRecDepth 100000 in
/-- squared, of the other one -/
theorem c_X5_squared (l : Launch) (D : va_G) (ty : Nat → ClassId) (m o1 o2 go gt po pt my no so W H C : Nat) (nw nh : Nat) (fa : Int32) (hW : W ≤ 24) (hH : H ≤ 24) (hW1 : 1 ≤ W) (hH1 : 1 ≤ H) (h1 : 1 ≤ C) (h3 : C ≤ 3) (O T A B : Nat → Nat) (hO : ∀ i, O i < 256) (hT : ∀ i, T i < 256) (hrA : krel C (W * H) O A) (hrB : krel C (W * H) T B) (i : Nat) (hi : i < C) : KM l yX5_squared wsX5_squared { frames := 1, cells := 0, slots := 0, locals := 40 } D ty [.ref m, .int (nI i)] [(m, .inr (5, [.int (nI W), .int (nI H), .int (nI C), .int (fa), .ref o1, .ref o2, .int (nI nw), .int (nI nh), .ref go, .ref gt, .ref po, .ref pt, .ref my, .ref no, .ref so])), (o1, .inl (ty 0, 1728, .inl (kN O))), (o2, .inl (ty 0, 1728, .inl (kN T)))] (kF (fun r u => r = FP.ddiv (FP.l2d (lN (ksum (fun p => kd (A (p * C + i)) (B (p * C + i)) * kd (A (p * C + i)) (B (p * C + i))) (W * H)))) (FP.i2d (nI (W * H))) ∧ u = [(m, .inr (5, [.int (nI W), .int (nI H), .int (nI C), .int (nI 0), .ref o1, .ref o2, .int (nI nw), .int (nI nh), .ref go, .ref gt, .ref po, .ref pt, .ref my, .ref no, .ref so])), (o1, .inl (ty 0, 1728, .inl (kN O))), (o2, .inl (ty 0, 1728, .inl (kN T)))])) 0 0 := by
  refine KM.of (cc := cX5_squared) (maxL := 7) (ret := (some .double)) (lv := [(0, .ref m), (1, .int (nI i))]) (by decide +kernel) rfl rfl rfl (fun X C0 R0 => ?_)
  have Cx : kC X cX5_squared wsX5_squared RX5 { frames := 1, cells := 0, slots := 0, locals := 40 } "squared" l D ty 7 := C0
  have hwh := k_wh hW hH
  have hp1 : 1 * 1 ≤ W * H := Nat.mul_le_mul hW1 hH1
  refine j_aload_n (pc' := 1) Cx dX5_squared_0 rfl rfl rfl ?_
  refine j_iload_n (pc' := 2) Cx dX5_squared_1 rfl rfl rfl ?_
  refine j_iconst (pc' := 3) (v := (nI 0)) Cx dX5_squared_2 rfl (by decide) ?_
  refine j_aload_n (pc' := 4) Cx dX5_squared_3 rfl rfl rfl ?_
  refine j_get (pc' := 7) (N := 15) Cx dX5_squared_4 rfl kin_X5_squared_X5 kfl_X5_squared_45 0 rfl rfl 2 rfl rfl rfl ?_
  refine j_iconst (pc' := 8) (v := (nI 1)) Cx dX5_squared_7 rfl (by decide) ?_
  refine j_isub_n (pc' := 9) Cx dX5_squared_8 rfl (by omega) ?_
  refine j_callS (pc' := 12) (wr := [(m, .inr (5, [.int (nI W), .int (nI H), .int (nI C), .int (fa), .ref o1, .ref o2, .int (nI nw), .int (nI nh), .ref go, .ref gt, .ref po, .ref pt, .ref my, .ref no, .ref so])), (o1, .inl (ty 0, 1728, .inl (kN O))), (o2, .inl (ty 0, 1728, .inl (kN T)))]) (st := [.ref m]) Cx dX5_squared_9 rfl (c_X5_in l D ty i 0 (C - 1) (Nat.zero_le _) (by omega) (by omega)) gX5_squared_X5_in rfl khd_X5_in rfl ⟨rfl, rfl, Nat.le_of_ble_eq_true rfl, Nat.le_of_ble_eq_true rfl⟩ [] [0, 1, 2] rfl rfl ⟨rfl, rfl⟩ (by decide) rfl (Nat.le_of_ble_eq_true rfl) ⟨Nat.le_of_ble_eq_true rfl, Nat.le_of_ble_eq_true rfl⟩ (fun v u hpost => ?_)
  obtain ⟨r, rfl, rfl, rfl⟩ := hpost
  show J X [(m, .inr (5, [.int (nI W), .int (nI H), .int (nI C), .int (fa), .ref o1, .ref o2, .int (nI nw), .int (nI nh), .ref go, .ref gt, .ref po, .ref pt, .ref my, .ref no, .ref so])), (o1, .inl (ty 0, 1728, .inl (kN O))), (o2, .inl (ty 0, 1728, .inl (kN T)))] [(0, .ref m), (1, .int (nI i))] 12 [.int (nI 1), .ref m] 0 0
  refine j_if_eq_n (tgt := 19) (pc' := 15) Cx dX5_squared_12 (by decide) rfl (by omega) (fun hh => absurd hh (by decide)) (fun _ => ?_)
  refine j_iconst (pc' := 16) (v := (nI 0)) Cx dX5_squared_15 rfl (by decide) ?_
  refine j_goto (tgt := 20) Cx dX5_squared_16 (by decide) ?_
  refine j_put (pc' := 23) (N := 15) (t := .int) (ws' := [(m, .inr (5, [.int (nI W), .int (nI H), .int (nI C), .int (nI 0), .ref o1, .ref o2, .int (nI nw), .int (nI nh), .ref go, .ref gt, .ref po, .ref pt, .ref my, .ref no, .ref so])), (o1, .inl (ty 0, 1728, .inl (kN O))), (o2, .inl (ty 0, 1728, .inl (kN T)))]) Cx dX5_squared_20 rfl kin_X5_squared_X5 kfl_X5_squared_48 tyX5_ok nmX5 0 rfl rfl 3 rfl rfl rfl rfl rfl rfl rfl ?_
  refine j_lconst (pc' := 24) (v := (lN 0)) Cx dX5_squared_23 rfl rfl ?_
  refine j_lstore_n (pc' := 25) (lv' := [(0, .ref m), (1, .int (nI i)), (2, .long (lN 0))]) Cx dX5_squared_24 rfl rfl (by decide) rfl ?_
  refine j_iconst (pc' := 26) (v := (nI 0)) Cx dX5_squared_25 rfl (by decide) ?_
  refine j_istore (pc' := 28) (lv' := [(0, .ref m), (1, .int (nI i)), (2, .long (lN 0)), (4, .int (nI 0))]) Cx dX5_squared_26 rfl (by decide) rfl ?_
  have LP : ∀ (LP_n : Nat), ∀ (q : Nat), (W * H - q < LP_n) → (q ≤ W * H) → J X [(m, .inr (5, [.int (nI W), .int (nI H), .int (nI C), .int (nI 0), .ref o1, .ref o2, .int (nI nw), .int (nI nh), .ref go, .ref gt, .ref po, .ref pt, .ref my, .ref no, .ref so])), (o1, .inl (ty 0, 1728, .inl (kN O))), (o2, .inl (ty 0, 1728, .inl (kN T)))] [(0, .ref m), (1, .int (nI i)), (2, .long (lN (ksum (fun p => kd (A (p * C + i)) (B (p * C + i)) * kd (A (p * C + i)) (B (p * C + i))) q))), (4, .int (nI q))] 28 [] 0 0 := by
    intro LP_n
    induction LP_n with
    | zero =>
      intro q hms _
      exact absurd hms (Nat.not_lt_zero _)
    | succ LP_n LP_ih =>
      intro q LP_m hle
      refine j_iload (pc' := 30) Cx dX5_squared_28 rfl rfl ?_
      refine j_aload_n (pc' := 31) Cx dX5_squared_30 rfl rfl rfl ?_
      refine j_callV (pc' := 34) (wr := [(o1, .inl (ty 0, 1728, .inl (kN O))), (o2, .inl (ty 0, 1728, .inl (kN T)))]) (st := [.int (nI q)]) Cx dX5_squared_31 rfl (c_X5_places l D ty m o1 o2 go gt po pt my no so W H C nw nh (nI 0)) gX5_squared_X5_places rfl khd_X5_places rfl ⟨rfl, rfl, Nat.le_of_ble_eq_true rfl, Nat.le_of_ble_eq_true rfl⟩ [0] [1, 2] rfl rfl ⟨rfl, rfl⟩ (by decide) 0 rfl rfl rfl (Nat.le_of_ble_eq_true rfl) ⟨Nat.le_of_ble_eq_true rfl, Nat.le_of_ble_eq_true rfl⟩ (fun v u hpost => ?_)
      obtain ⟨r, rfl, rfl, rfl⟩ := hpost
      show J X [(o1, .inl (ty 0, 1728, .inl (kN O))), (o2, .inl (ty 0, 1728, .inl (kN T))), (m, .inr (5, [.int (nI W), .int (nI H), .int (nI C), .int (nI 0), .ref o1, .ref o2, .int (nI nw), .int (nI nh), .ref go, .ref gt, .ref po, .ref pt, .ref my, .ref no, .ref so]))] [(0, .ref m), (1, .int (nI i)), (2, .long (lN (ksum (fun p => kd (A (p * C + i)) (B (p * C + i)) * kd (A (p * C + i)) (B (p * C + i))) q))), (4, .int (nI q))] 34 [.int (nI (W * H)), .int (nI q)] 0 0
      refine J.sub (ws' := [(m, .inr (5, [.int (nI W), .int (nI H), .int (nI C), .int (nI 0), .ref o1, .ref o2, .int (nI nw), .int (nI nh), .ref go, .ref gt, .ref po, .ref pt, .ref my, .ref no, .ref so])), (o1, .inl (ty 0, 1728, .inl (kN O))), (o2, .inl (ty 0, 1728, .inl (kN T)))]) [2, 0, 1] rfl rfl ?_
      refine j_icmp_ge_n (tgt := 84) (pc' := 37) Cx dX5_squared_34 (by decide) rfl (by omega) (by omega) (fun hq => ?_) (fun hq => ?_)
      · have e : q = W * H := by omega
        subst e
        refine j_aload_n (pc' := 85) Cx dX5_squared_84 rfl rfl rfl ?_
        refine j_get (pc' := 88) (N := 15) Cx dX5_squared_85 rfl kin_X5_squared_X5 kfl_X5_squared_48 0 rfl rfl 3 rfl rfl rfl ?_
        refine j_if_le_n (tgt := 95) (pc' := 91) Cx dX5_squared_88 (by decide) rfl (by omega) (fun _ => ?_) (fun hh => absurd hh (by decide))
        refine j_lload_n (pc' := 96) Cx dX5_squared_95 rfl rfl rfl ?_
        refine j_l2d (pc' := 97) Cx dX5_squared_96 rfl ?_
        refine j_aload_n (pc' := 98) Cx dX5_squared_97 rfl rfl rfl ?_
        refine j_callV (pc' := 101) (wr := [(o1, .inl (ty 0, 1728, .inl (kN O))), (o2, .inl (ty 0, 1728, .inl (kN T)))]) (st := [.double (FP.l2d (lN (ksum (fun p => kd (A (p * C + i)) (B (p * C + i)) * kd (A (p * C + i)) (B (p * C + i))) (W * H))))]) Cx dX5_squared_98 rfl (c_X5_places l D ty m o1 o2 go gt po pt my no so W H C nw nh (nI 0)) gX5_squared_X5_places rfl khd_X5_places rfl ⟨rfl, rfl, Nat.le_of_ble_eq_true rfl, Nat.le_of_ble_eq_true rfl⟩ [0] [1, 2] rfl rfl ⟨rfl, rfl⟩ (by decide) 0 rfl rfl rfl (Nat.le_of_ble_eq_true rfl) ⟨Nat.le_of_ble_eq_true rfl, Nat.le_of_ble_eq_true rfl⟩ (fun v u hpost => ?_)
        obtain ⟨r, rfl, rfl, rfl⟩ := hpost
        show J X [(o1, .inl (ty 0, 1728, .inl (kN O))), (o2, .inl (ty 0, 1728, .inl (kN T))), (m, .inr (5, [.int (nI W), .int (nI H), .int (nI C), .int (nI 0), .ref o1, .ref o2, .int (nI nw), .int (nI nh), .ref go, .ref gt, .ref po, .ref pt, .ref my, .ref no, .ref so]))] [(0, .ref m), (1, .int (nI i)), (2, .long (lN (ksum (fun p => kd (A (p * C + i)) (B (p * C + i)) * kd (A (p * C + i)) (B (p * C + i))) (W * H)))), (4, .int (nI (W * H)))] 101 [.int (nI (W * H)), .double (FP.l2d (lN (ksum (fun p => kd (A (p * C + i)) (B (p * C + i)) * kd (A (p * C + i)) (B (p * C + i))) (W * H))))] 0 0
        refine J.sub (ws' := [(m, .inr (5, [.int (nI W), .int (nI H), .int (nI C), .int (nI 0), .ref o1, .ref o2, .int (nI nw), .int (nI nh), .ref go, .ref gt, .ref po, .ref pt, .ref my, .ref no, .ref so])), (o1, .inl (ty 0, 1728, .inl (kN O))), (o2, .inl (ty 0, 1728, .inl (kN T)))]) [2, 0, 1] rfl rfl ?_
        refine j_i2d (pc' := 102) Cx dX5_squared_101 rfl ?_
        refine j_ddiv (pc' := 103) Cx dX5_squared_102 rfl (k_ddiv_no (k_noNaN (FP.Core.l2d_fin _).notNaN) (by omega) (by omega)) ?_
        exact j_dret Cx dX5_squared_103 R0 ⟨Nat.le_of_ble_eq_true rfl, Nat.le_of_ble_eq_true rfl⟩ (⟨_, rfl, rfl, rfl⟩)
      · have g1 := hO (3 * q + i)
        have g2 := hT (3 * q + i)
        refine j_aload_n (pc' := 38) Cx dX5_squared_37 rfl rfl rfl ?_
        refine j_get (pc' := 41) (N := 15) Cx dX5_squared_38 rfl kin_X5_squared_X5 kfl_X5_squared_48 0 rfl rfl 3 rfl rfl rfl ?_
        refine j_if_ne_n (tgt := 84) (pc' := 44) Cx dX5_squared_41 (by decide) rfl (by omega) (fun hh => absurd hh (not_not_intro rfl)) (fun _ => ?_)
        refine j_aload_n (pc' := 45) Cx dX5_squared_44 rfl rfl rfl ?_
        refine j_get (pc' := 48) (N := 15) Cx dX5_squared_45 rfl kin_X5_squared_X5 kfl_X5_squared_7 0 rfl rfl 4 rfl rfl rfl ?_
        refine j_iconst (pc' := 49) (v := (nI 3)) Cx dX5_squared_48 rfl (by decide) ?_
        refine j_iload (pc' := 51) Cx dX5_squared_49 rfl rfl ?_
        refine j_imul_n (pc' := 52) Cx dX5_squared_51 rfl ?_
        refine j_iload_n (pc' := 53) Cx dX5_squared_52 rfl rfl rfl ?_
        refine j_iadd_n (pc' := 54) Cx dX5_squared_53 rfl ?_
        refine j_iaload_nn (pc' := 55) Cx dX5_squared_54 rfl 1 rfl (by omega) (by omega) ?_
        refine j_aload_n (pc' := 56) Cx dX5_squared_55 rfl rfl rfl ?_
        refine j_get (pc' := 59) (N := 15) Cx dX5_squared_56 rfl kin_X5_squared_X5 kfl_X5_squared_13 0 rfl rfl 5 rfl rfl rfl ?_
        refine j_iconst (pc' := 60) (v := (nI 3)) Cx dX5_squared_59 rfl (by decide) ?_
        refine j_iload (pc' := 62) Cx dX5_squared_60 rfl rfl ?_
        refine j_imul_n (pc' := 63) Cx dX5_squared_62 rfl ?_
        refine j_iload_n (pc' := 64) Cx dX5_squared_63 rfl rfl rfl ?_
        refine j_iadd_n (pc' := 65) Cx dX5_squared_64 rfl ?_
        refine j_iaload_nn (pc' := 66) Cx dX5_squared_65 rfl 2 rfl (by omega) (by omega) ?_
        refine j_isub (pc' := 67) Cx dX5_squared_66 rfl ?_
        refine j_i2l (pc' := 68) Cx dX5_squared_67 rfl ?_
        refine j_lstore (pc' := 70) (lv' := [(0, .ref m), (1, .int (nI i)), (2, .long (lN (ksum (fun p => kd (A (p * C + i)) (B (p * C + i)) * kd (A (p * C + i)) (B (p * C + i))) q))), (4, .int (nI q)), (5, .long (((nI (O ((3 * q) + i))) - (nI (T ((3 * q) + i)))).toInt64))]) Cx dX5_squared_68 rfl (by decide) rfl ?_
        refine j_lload_n (pc' := 71) Cx dX5_squared_70 rfl rfl rfl ?_
        refine j_lload (pc' := 73) Cx dX5_squared_71 rfl rfl ?_
        refine j_lload (pc' := 75) Cx dX5_squared_73 rfl rfl ?_
        refine j_lmul (pc' := 76) Cx dX5_squared_75 rfl ?_
        refine j_top (v' := .long (lN (kd (O (3 * q + i)) (T (3 * q + i)) * kd (O (3 * q + i)) (T (3 * q + i))))) (congrArg Value.long (k_sqL (by omega) (by omega))) ?_
        refine j_top (v' := .long (lN ((fun p => kd (A (p * C + i)) (B (p * C + i)) * kd (A (p * C + i)) (B (p * C + i))) q))) (by rw [hrA.1 q i hq hi, hrB.1 q i hq hi]) ?_
        refine j_ladd_n (pc' := 77) Cx dX5_squared_76 rfl ?_
        refine j_lstore_n (pc' := 78) (lv' := [(0, .ref m), (1, .int (nI i)), (2, .long (lN ((ksum (fun p => kd (A (p * C + i)) (B (p * C + i)) * kd (A (p * C + i)) (B (p * C + i))) q) + ((fun p => kd (A (p * C + i)) (B (p * C + i)) * kd (A (p * C + i)) (B (p * C + i))) q)))), (4, .int (nI q)), (5, .long (((nI (O ((3 * q) + i))) - (nI (T ((3 * q) + i)))).toInt64))]) Cx dX5_squared_77 rfl rfl (by decide) rfl ?_
        refine j_iinc_n (pc' := 81) (z := 1) (a := q) (lv' := [(0, .ref m), (1, .int (nI i)), (2, .long (lN ((ksum (fun p => kd (A (p * C + i)) (B (p * C + i)) * kd (A (p * C + i)) (B (p * C + i))) q) + ((fun p => kd (A (p * C + i)) (B (p * C + i)) * kd (A (p * C + i)) (B (p * C + i))) q)))), (4, .int (nI (q + 1))), (5, .long (((nI (O ((3 * q) + i))) - (nI (T ((3 * q) + i)))).toInt64))]) Cx dX5_squared_78 rfl rfl (by decide) rfl ?_
        refine j_goto (tgt := 28) Cx dX5_squared_81 (by decide) ?_
        refine J.lvs (lv' := [(0, .ref m), (1, .int (nI i)), (2, .long (lN ((ksum (fun p => kd (A (p * C + i)) (B (p * C + i)) * kd (A (p * C + i)) (B (p * C + i))) q) + ((fun p => kd (A (p * C + i)) (B (p * C + i)) * kd (A (p * C + i)) (B (p * C + i))) q)))), (4, .int (nI (q + 1)))]) [0, 1, 2, 4] rfl ?_
        refine J.cast (ws' := [(m, .inr (5, [.int (nI W), .int (nI H), .int (nI C), .int (nI 0), .ref o1, .ref o2, .int (nI nw), .int (nI nh), .ref go, .ref gt, .ref po, .ref pt, .ref my, .ref no, .ref so])), (o1, .inl (ty 0, 1728, .inl (kN O))), (o2, .inl (ty 0, 1728, .inl (kN T)))]) (lv' := [(0, .ref m), (1, .int (nI i)), (2, .long (lN (ksum (fun p => kd (A (p * C + i)) (B (p * C + i)) * kd (A (p * C + i)) (B (p * C + i))) (q + 1)))), (4, .int (nI (q + 1)))]) (pc' := 28) (st' := []) (rfl) (rfl) rfl (rfl) rfl rfl ?_
        exact LP_ih (q + 1) (by omega) (by omega)
  refine J.cast (ws' := [(m, .inr (5, [.int (nI W), .int (nI H), .int (nI C), .int (nI 0), .ref o1, .ref o2, .int (nI nw), .int (nI nh), .ref go, .ref gt, .ref po, .ref pt, .ref my, .ref no, .ref so])), (o1, .inl (ty 0, 1728, .inl (kN O))), (o2, .inl (ty 0, 1728, .inl (kN T)))]) (lv' := [(0, .ref m), (1, .int (nI i)), (2, .long (lN (ksum (fun p => kd (A (p * C + i)) (B (p * C + i)) * kd (A (p * C + i)) (B (p * C + i))) 0))), (4, .int (nI 0))]) (pc' := 28) (st' := []) (rfl) (rfl) rfl (rfl) rfl rfl ?_
  exact LP (W * H + 1) 0 (by omega) (Nat.zero_le _)

set_option maxHeartbeats 4000000 in
set_option maxRecDepth 100000 in
theorem c_X5_squared_1 (l : Launch) (D : va_G) (ty : Nat → ClassId) (m o1 o2 go gt po pt my no so W H C : Nat) (nw nh : Nat) (fa : Int32) (hW : W ≤ 24) (hH : H ≤ 24) (hW1 : 1 ≤ W) (hH1 : 1 ≤ H) (h1 : 1 ≤ C) (h3 : C ≤ 3) (x : Int32) (hno : ¬ kok x C) : KM l yX5_squared wsX5_squared { frames := 1, cells := 0, slots := 0, locals := 40 } D ty [.ref m, .int (x)] [(m, .inr (5, [.int (nI W), .int (nI H), .int (nI C), .int (fa), .ref o1, .ref o2, .int (nI nw), .int (nI nh), .ref go, .ref gt, .ref po, .ref pt, .ref my, .ref no, .ref so]))] (kF (fun r u => r = 0 ∧ u = [(m, .inr (5, [.int (nI W), .int (nI H), .int (nI C), .int (nI 1), .ref o1, .ref o2, .int (nI nw), .int (nI nh), .ref go, .ref gt, .ref po, .ref pt, .ref my, .ref no, .ref so]))])) 0 0 := by
  refine KM.of (cc := cX5_squared) (maxL := 7) (ret := (some .double)) (lv := [(0, .ref m), (1, .int (x))]) (by decide +kernel) rfl rfl rfl (fun X C0 R0 => ?_)
  have Cx : kC X cX5_squared wsX5_squared RX5 { frames := 1, cells := 0, slots := 0, locals := 40 } "squared" l D ty 7 := C0
  have hwh := k_wh hW hH
  have hp1 : 1 * 1 ≤ W * H := Nat.mul_le_mul hW1 hH1
  rcases pk_ix x (n := C) (by omega) with hc | hc | hc
  · refine j_aload_n (pc' := 1) Cx dX5_squared_0 rfl rfl rfl ?_
    refine j_iload_n (pc' := 2) Cx dX5_squared_1 rfl rfl rfl ?_
    refine j_iconst (pc' := 3) (v := (nI 0)) Cx dX5_squared_2 rfl (by decide) ?_
    refine j_aload_n (pc' := 4) Cx dX5_squared_3 rfl rfl rfl ?_
    refine j_get (pc' := 7) (N := 15) Cx dX5_squared_4 rfl kin_X5_squared_X5 kfl_X5_squared_45 0 rfl rfl 2 rfl rfl rfl ?_
    refine j_iconst (pc' := 8) (v := (nI 1)) Cx dX5_squared_7 rfl (by decide) ?_
    refine j_isub_n (pc' := 9) Cx dX5_squared_8 rfl (by omega) ?_
    refine j_callS (pc' := 12) (wr := [(m, .inr (5, [.int (nI W), .int (nI H), .int (nI C), .int (fa), .ref o1, .ref o2, .int (nI nw), .int (nI nh), .ref go, .ref gt, .ref po, .ref pt, .ref my, .ref no, .ref so]))]) (st := [.ref m]) Cx dX5_squared_9 rfl (c_X5_in_no l D ty x (nI 0) (nI (C - 1)) (Or.inl (show x < nI 0 from hc))) gX5_squared_X5_in rfl khd_X5_in rfl ⟨rfl, rfl, Nat.le_of_ble_eq_true rfl, Nat.le_of_ble_eq_true rfl⟩ [] [0] rfl rfl ⟨rfl, rfl⟩ (by decide) rfl (Nat.le_of_ble_eq_true rfl) ⟨Nat.le_of_ble_eq_true rfl, Nat.le_of_ble_eq_true rfl⟩ (fun v u hpost => ?_)
    obtain ⟨r, rfl, rfl, rfl⟩ := hpost
    show J X [(m, .inr (5, [.int (nI W), .int (nI H), .int (nI C), .int (fa), .ref o1, .ref o2, .int (nI nw), .int (nI nh), .ref go, .ref gt, .ref po, .ref pt, .ref my, .ref no, .ref so]))] [(0, .ref m), (1, .int (x))] 12 [.int (nI 0), .ref m] 0 0
    refine j_if_eq_n (tgt := 19) (pc' := 15) Cx dX5_squared_12 (by decide) rfl (by omega) (fun _ => ?_) (fun hh => absurd hh (by decide))
    refine j_iconst (pc' := 20) (v := (nI 1)) Cx dX5_squared_19 rfl (by decide) ?_
    refine j_put (pc' := 23) (N := 15) (t := .int) (ws' := [(m, .inr (5, [.int (nI W), .int (nI H), .int (nI C), .int (nI 1), .ref o1, .ref o2, .int (nI nw), .int (nI nh), .ref go, .ref gt, .ref po, .ref pt, .ref my, .ref no, .ref so]))]) Cx dX5_squared_20 rfl kin_X5_squared_X5 kfl_X5_squared_48 tyX5_ok nmX5 0 rfl rfl 3 rfl rfl rfl rfl rfl rfl rfl ?_
    refine j_lconst (pc' := 24) (v := (lN 0)) Cx dX5_squared_23 rfl rfl ?_
    refine j_lstore_n (pc' := 25) (lv' := [(0, .ref m), (1, .int (x)), (2, .long (lN 0))]) Cx dX5_squared_24 rfl rfl (by decide) rfl ?_
    refine j_iconst (pc' := 26) (v := (nI 0)) Cx dX5_squared_25 rfl (by decide) ?_
    refine j_istore (pc' := 28) (lv' := [(0, .ref m), (1, .int (x)), (2, .long (lN 0)), (4, .int (nI 0))]) Cx dX5_squared_26 rfl (by decide) rfl ?_
    refine j_iload (pc' := 30) Cx dX5_squared_28 rfl rfl ?_
    refine j_aload_n (pc' := 31) Cx dX5_squared_30 rfl rfl rfl ?_
    refine j_callV (pc' := 34) (wr := []) (st := [.int (nI 0)]) Cx dX5_squared_31 rfl (c_X5_places l D ty m o1 o2 go gt po pt my no so W H C nw nh (nI 1)) gX5_squared_X5_places rfl khd_X5_places rfl ⟨rfl, rfl, Nat.le_of_ble_eq_true rfl, Nat.le_of_ble_eq_true rfl⟩ [0] [] rfl rfl ⟨rfl, rfl⟩ (by decide) 0 rfl rfl rfl (Nat.le_of_ble_eq_true rfl) ⟨Nat.le_of_ble_eq_true rfl, Nat.le_of_ble_eq_true rfl⟩ (fun v u hpost => ?_)
    obtain ⟨r, rfl, rfl, rfl⟩ := hpost
    show J X [(m, .inr (5, [.int (nI W), .int (nI H), .int (nI C), .int (nI 1), .ref o1, .ref o2, .int (nI nw), .int (nI nh), .ref go, .ref gt, .ref po, .ref pt, .ref my, .ref no, .ref so]))] [(0, .ref m), (1, .int (x)), (2, .long (lN 0)), (4, .int (nI 0))] 34 [.int (nI (W * H)), .int (nI 0)] 0 0
    refine j_icmp_ge_n (tgt := 84) (pc' := 37) Cx dX5_squared_34 (by decide) rfl (by omega) (by omega) (fun hh => absurd hh (by omega)) (fun _ => ?_)
    refine j_aload_n (pc' := 38) Cx dX5_squared_37 rfl rfl rfl ?_
    refine j_get (pc' := 41) (N := 15) Cx dX5_squared_38 rfl kin_X5_squared_X5 kfl_X5_squared_48 0 rfl rfl 3 rfl rfl rfl ?_
    refine j_if_ne_n (tgt := 84) (pc' := 44) Cx dX5_squared_41 (by decide) rfl (by omega) (fun _ => ?_) (fun hh => absurd hh (by decide))
    refine j_aload_n (pc' := 85) Cx dX5_squared_84 rfl rfl rfl ?_
    refine j_get (pc' := 88) (N := 15) Cx dX5_squared_85 rfl kin_X5_squared_X5 kfl_X5_squared_48 0 rfl rfl 3 rfl rfl rfl ?_
    refine j_if_le_n (tgt := 95) (pc' := 91) Cx dX5_squared_88 (by decide) rfl (by omega) (fun hh => absurd hh (by decide)) (fun _ => ?_)
    refine j_dconst0 (pc' := 92) Cx dX5_squared_91 rfl ?_
    refine j_goto (tgt := 103) Cx dX5_squared_92 (by decide) ?_
    exact j_dret Cx dX5_squared_103 R0 ⟨Nat.le_of_ble_eq_true rfl, Nat.le_of_ble_eq_true rfl⟩ (⟨_, rfl, rfl, rfl⟩)
  · refine j_aload_n (pc' := 1) Cx dX5_squared_0 rfl rfl rfl ?_
    refine j_iload_n (pc' := 2) Cx dX5_squared_1 rfl rfl rfl ?_
    refine j_iconst (pc' := 3) (v := (nI 0)) Cx dX5_squared_2 rfl (by decide) ?_
    refine j_aload_n (pc' := 4) Cx dX5_squared_3 rfl rfl rfl ?_
    refine j_get (pc' := 7) (N := 15) Cx dX5_squared_4 rfl kin_X5_squared_X5 kfl_X5_squared_45 0 rfl rfl 2 rfl rfl rfl ?_
    refine j_iconst (pc' := 8) (v := (nI 1)) Cx dX5_squared_7 rfl (by decide) ?_
    refine j_isub_n (pc' := 9) Cx dX5_squared_8 rfl (by omega) ?_
    refine j_callS (pc' := 12) (wr := [(m, .inr (5, [.int (nI W), .int (nI H), .int (nI C), .int (fa), .ref o1, .ref o2, .int (nI nw), .int (nI nh), .ref go, .ref gt, .ref po, .ref pt, .ref my, .ref no, .ref so]))]) (st := [.ref m]) Cx dX5_squared_9 rfl (c_X5_in_no l D ty x (nI 0) (nI (C - 1)) (Or.inr (k_pred h1 (by omega) hc))) gX5_squared_X5_in rfl khd_X5_in rfl ⟨rfl, rfl, Nat.le_of_ble_eq_true rfl, Nat.le_of_ble_eq_true rfl⟩ [] [0] rfl rfl ⟨rfl, rfl⟩ (by decide) rfl (Nat.le_of_ble_eq_true rfl) ⟨Nat.le_of_ble_eq_true rfl, Nat.le_of_ble_eq_true rfl⟩ (fun v u hpost => ?_)
    obtain ⟨r, rfl, rfl, rfl⟩ := hpost
    show J X [(m, .inr (5, [.int (nI W), .int (nI H), .int (nI C), .int (fa), .ref o1, .ref o2, .int (nI nw), .int (nI nh), .ref go, .ref gt, .ref po, .ref pt, .ref my, .ref no, .ref so]))] [(0, .ref m), (1, .int (x))] 12 [.int (nI 0), .ref m] 0 0
    refine j_if_eq_n (tgt := 19) (pc' := 15) Cx dX5_squared_12 (by decide) rfl (by omega) (fun _ => ?_) (fun hh => absurd hh (by decide))
    refine j_iconst (pc' := 20) (v := (nI 1)) Cx dX5_squared_19 rfl (by decide) ?_
    refine j_put (pc' := 23) (N := 15) (t := .int) (ws' := [(m, .inr (5, [.int (nI W), .int (nI H), .int (nI C), .int (nI 1), .ref o1, .ref o2, .int (nI nw), .int (nI nh), .ref go, .ref gt, .ref po, .ref pt, .ref my, .ref no, .ref so]))]) Cx dX5_squared_20 rfl kin_X5_squared_X5 kfl_X5_squared_48 tyX5_ok nmX5 0 rfl rfl 3 rfl rfl rfl rfl rfl rfl rfl ?_
    refine j_lconst (pc' := 24) (v := (lN 0)) Cx dX5_squared_23 rfl rfl ?_
    refine j_lstore_n (pc' := 25) (lv' := [(0, .ref m), (1, .int (x)), (2, .long (lN 0))]) Cx dX5_squared_24 rfl rfl (by decide) rfl ?_
    refine j_iconst (pc' := 26) (v := (nI 0)) Cx dX5_squared_25 rfl (by decide) ?_
    refine j_istore (pc' := 28) (lv' := [(0, .ref m), (1, .int (x)), (2, .long (lN 0)), (4, .int (nI 0))]) Cx dX5_squared_26 rfl (by decide) rfl ?_
    refine j_iload (pc' := 30) Cx dX5_squared_28 rfl rfl ?_
    refine j_aload_n (pc' := 31) Cx dX5_squared_30 rfl rfl rfl ?_
    refine j_callV (pc' := 34) (wr := []) (st := [.int (nI 0)]) Cx dX5_squared_31 rfl (c_X5_places l D ty m o1 o2 go gt po pt my no so W H C nw nh (nI 1)) gX5_squared_X5_places rfl khd_X5_places rfl ⟨rfl, rfl, Nat.le_of_ble_eq_true rfl, Nat.le_of_ble_eq_true rfl⟩ [0] [] rfl rfl ⟨rfl, rfl⟩ (by decide) 0 rfl rfl rfl (Nat.le_of_ble_eq_true rfl) ⟨Nat.le_of_ble_eq_true rfl, Nat.le_of_ble_eq_true rfl⟩ (fun v u hpost => ?_)
    obtain ⟨r, rfl, rfl, rfl⟩ := hpost
    show J X [(m, .inr (5, [.int (nI W), .int (nI H), .int (nI C), .int (nI 1), .ref o1, .ref o2, .int (nI nw), .int (nI nh), .ref go, .ref gt, .ref po, .ref pt, .ref my, .ref no, .ref so]))] [(0, .ref m), (1, .int (x)), (2, .long (lN 0)), (4, .int (nI 0))] 34 [.int (nI (W * H)), .int (nI 0)] 0 0
    refine j_icmp_ge_n (tgt := 84) (pc' := 37) Cx dX5_squared_34 (by decide) rfl (by omega) (by omega) (fun hh => absurd hh (by omega)) (fun _ => ?_)
    refine j_aload_n (pc' := 38) Cx dX5_squared_37 rfl rfl rfl ?_
    refine j_get (pc' := 41) (N := 15) Cx dX5_squared_38 rfl kin_X5_squared_X5 kfl_X5_squared_48 0 rfl rfl 3 rfl rfl rfl ?_
    refine j_if_ne_n (tgt := 84) (pc' := 44) Cx dX5_squared_41 (by decide) rfl (by omega) (fun _ => ?_) (fun hh => absurd hh (by decide))
    refine j_aload_n (pc' := 85) Cx dX5_squared_84 rfl rfl rfl ?_
    refine j_get (pc' := 88) (N := 15) Cx dX5_squared_85 rfl kin_X5_squared_X5 kfl_X5_squared_48 0 rfl rfl 3 rfl rfl rfl ?_
    refine j_if_le_n (tgt := 95) (pc' := 91) Cx dX5_squared_88 (by decide) rfl (by omega) (fun hh => absurd hh (by decide)) (fun _ => ?_)
    refine j_dconst0 (pc' := 92) Cx dX5_squared_91 rfl ?_
    refine j_goto (tgt := 103) Cx dX5_squared_92 (by decide) ?_
    exact j_dret Cx dX5_squared_103 R0 ⟨Nat.le_of_ble_eq_true rfl, Nat.le_of_ble_eq_true rfl⟩ (⟨_, rfl, rfl, rfl⟩)
  · exact absurd hc hno

set_option maxHeartbeats 4000000 in
set_option maxRecDepth 100000 in
theorem c_X5_greyOf1 (l : Launch) (D : va_G) (ty : Nat → ClassId) (m o1 o2 go gt po pt my no so W H C : Nat) (nw nh : Nat) (fa : Int32) (hW : W ≤ 24) (hH : H ≤ 24) (hW1 : 1 ≤ W) (hH1 : 1 ≤ H) (h1 : 1 ≤ C) (h3 : C ≤ 3) (O A : Nat → Nat) (hO : ∀ i, O i < 256) (hr : krel C (W * H) O A) (b : Int32) (hb : ¬ b = 0) (p : Nat) (hp : p < W * H) : KM l yX5_greyOf wsX5_greyOf { frames := 0, cells := 0, slots := 0, locals := 0 } D ty [.ref m, .int (b), .int (nI p)] [(m, .inr (5, [.int (nI W), .int (nI H), .int (nI C), .int (fa), .ref o1, .ref o2, .int (nI nw), .int (nI nh), .ref go, .ref gt, .ref po, .ref pt, .ref my, .ref no, .ref so])), (o1, .inl (ty 0, 1728, .inl (kN O)))] (kI (fun r u => r = nI (kg C A p) ∧ u = [(m, .inr (5, [.int (nI W), .int (nI H), .int (nI C), .int (fa), .ref o1, .ref o2, .int (nI nw), .int (nI nh), .ref go, .ref gt, .ref po, .ref pt, .ref my, .ref no, .ref so])), (o1, .inl (ty 0, 1728, .inl (kN O)))])) 0 0 := by
  refine KM.of (cc := cX5_greyOf) (maxL := 6) (ret := (some .int)) (lv := [(0, .ref m), (1, .int (b)), (2, .int (nI p))]) (by decide +kernel) rfl rfl rfl (fun X C0 R0 => ?_)
  have Cx : kC X cX5_greyOf wsX5_greyOf RX5 { frames := 0, cells := 0, slots := 0, locals := 0 } "greyOf" l D ty 6 := C0
  have hwh := k_wh hW hH
  have g0 := hO (3 * p)
  have g1 := hO (3 * p + 1)
  have g2 := hO (3 * p + 2)
  rcases k_C h1 h3 with rfl | rfl | rfl
  · refine j_iload_n (pc' := 1) Cx dX5_greyOf_0 rfl rfl rfl ?_
    refine j_if_eq (tgt := 15) (pc' := 4) Cx dX5_greyOf_1 (by decide) rfl (fun hh => absurd hh (hb)) (fun _ => ?_)
    refine j_aload_n (pc' := 5) Cx dX5_greyOf_4 rfl rfl rfl ?_
    refine j_get (pc' := 8) (N := 15) Cx dX5_greyOf_5 rfl kin_X5_greyOf_X5 kfl_X5_greyOf_7 0 rfl rfl 4 rfl rfl rfl ?_
    refine j_iconst (pc' := 9) (v := (nI 3)) Cx dX5_greyOf_8 rfl (by decide) ?_
    refine j_iload_n (pc' := 10) Cx dX5_greyOf_9 rfl rfl rfl ?_
    refine j_imul_n (pc' := 11) Cx dX5_greyOf_10 rfl ?_
    refine j_iaload_nn (pc' := 12) Cx dX5_greyOf_11 rfl 1 rfl (by omega) (by omega) ?_
    refine j_goto (tgt := 23) Cx dX5_greyOf_12 (by decide) ?_
    refine j_istore_n (pc' := 24) (lv' := [(0, .ref m), (1, .int (b)), (2, .int (nI p)), (3, .int (nI (O (3 * p))))]) Cx dX5_greyOf_23 rfl rfl (by decide) rfl ?_
    refine j_iload_n (pc' := 25) Cx dX5_greyOf_24 rfl rfl rfl ?_
    refine j_if_eq (tgt := 41) (pc' := 28) Cx dX5_greyOf_25 (by decide) rfl (fun hh => absurd hh (hb)) (fun _ => ?_)
    refine j_aload_n (pc' := 29) Cx dX5_greyOf_28 rfl rfl rfl ?_
    refine j_get (pc' := 32) (N := 15) Cx dX5_greyOf_29 rfl kin_X5_greyOf_X5 kfl_X5_greyOf_7 0 rfl rfl 4 rfl rfl rfl ?_
    refine j_iconst (pc' := 33) (v := (nI 3)) Cx dX5_greyOf_32 rfl (by decide) ?_
    refine j_iload_n (pc' := 34) Cx dX5_greyOf_33 rfl rfl rfl ?_
    refine j_imul_n (pc' := 35) Cx dX5_greyOf_34 rfl ?_
    refine j_iconst (pc' := 36) (v := (nI 1)) Cx dX5_greyOf_35 rfl (by decide) ?_
    refine j_iadd_n (pc' := 37) Cx dX5_greyOf_36 rfl ?_
    refine j_iaload_nn (pc' := 38) Cx dX5_greyOf_37 rfl 1 rfl (by omega) (by omega) ?_
    refine j_goto (tgt := 51) Cx dX5_greyOf_38 (by decide) ?_
    refine j_istore (pc' := 53) (lv' := [(0, .ref m), (1, .int (b)), (2, .int (nI p)), (3, .int (nI (O (3 * p)))), (4, .int (nI (O ((3 * p) + 1))))]) Cx dX5_greyOf_51 rfl (by decide) rfl ?_
    refine j_iload_n (pc' := 54) Cx dX5_greyOf_53 rfl rfl rfl ?_
    refine j_if_eq (tgt := 70) (pc' := 57) Cx dX5_greyOf_54 (by decide) rfl (fun hh => absurd hh (hb)) (fun _ => ?_)
    refine j_aload_n (pc' := 58) Cx dX5_greyOf_57 rfl rfl rfl ?_
    refine j_get (pc' := 61) (N := 15) Cx dX5_greyOf_58 rfl kin_X5_greyOf_X5 kfl_X5_greyOf_7 0 rfl rfl 4 rfl rfl rfl ?_
    refine j_iconst (pc' := 62) (v := (nI 3)) Cx dX5_greyOf_61 rfl (by decide) ?_
    refine j_iload_n (pc' := 63) Cx dX5_greyOf_62 rfl rfl rfl ?_
    refine j_imul_n (pc' := 64) Cx dX5_greyOf_63 rfl ?_
    refine j_iconst (pc' := 65) (v := (nI 2)) Cx dX5_greyOf_64 rfl (by decide) ?_
    refine j_iadd_n (pc' := 66) Cx dX5_greyOf_65 rfl ?_
    refine j_iaload_nn (pc' := 67) Cx dX5_greyOf_66 rfl 1 rfl (by omega) (by omega) ?_
    refine j_goto (tgt := 80) Cx dX5_greyOf_67 (by decide) ?_
    refine j_istore (pc' := 82) (lv' := [(0, .ref m), (1, .int (b)), (2, .int (nI p)), (3, .int (nI (O (3 * p)))), (4, .int (nI (O ((3 * p) + 1)))), (5, .int (nI (O ((3 * p) + 2))))]) Cx dX5_greyOf_80 rfl (by decide) rfl ?_
    refine j_aload_n (pc' := 83) Cx dX5_greyOf_82 rfl rfl rfl ?_
    refine j_get (pc' := 86) (N := 15) Cx dX5_greyOf_83 rfl kin_X5_greyOf_X5 kfl_X5_greyOf_45 0 rfl rfl 2 rfl rfl rfl ?_
    refine j_iconst (pc' := 87) (v := (nI 1)) Cx dX5_greyOf_86 rfl (by decide) ?_
    refine j_icmp_ne_n (tgt := 94) (pc' := 90) Cx dX5_greyOf_87 (by decide) rfl (by omega) (by omega) (fun hh => absurd hh (not_not_intro rfl)) (fun _ => ?_)
    refine j_iload_n (pc' := 91) Cx dX5_greyOf_90 rfl rfl rfl ?_
    refine j_goto (tgt := 126) Cx dX5_greyOf_91 (by decide) ?_
    exact j_iret Cx dX5_greyOf_126 R0 ⟨Nat.le_of_ble_eq_true rfl, Nat.le_of_ble_eq_true rfl⟩ (⟨_, rfl, congrArg nI (krel_g1 hr hp), rfl⟩)
  · refine j_iload_n (pc' := 1) Cx dX5_greyOf_0 rfl rfl rfl ?_
    refine j_if_eq (tgt := 15) (pc' := 4) Cx dX5_greyOf_1 (by decide) rfl (fun hh => absurd hh (hb)) (fun _ => ?_)
    refine j_aload_n (pc' := 5) Cx dX5_greyOf_4 rfl rfl rfl ?_
    refine j_get (pc' := 8) (N := 15) Cx dX5_greyOf_5 rfl kin_X5_greyOf_X5 kfl_X5_greyOf_7 0 rfl rfl 4 rfl rfl rfl ?_
    refine j_iconst (pc' := 9) (v := (nI 3)) Cx dX5_greyOf_8 rfl (by decide) ?_
    refine j_iload_n (pc' := 10) Cx dX5_greyOf_9 rfl rfl rfl ?_
    refine j_imul_n (pc' := 11) Cx dX5_greyOf_10 rfl ?_
    refine j_iaload_nn (pc' := 12) Cx dX5_greyOf_11 rfl 1 rfl (by omega) (by omega) ?_
    refine j_goto (tgt := 23) Cx dX5_greyOf_12 (by decide) ?_
    refine j_istore_n (pc' := 24) (lv' := [(0, .ref m), (1, .int (b)), (2, .int (nI p)), (3, .int (nI (O (3 * p))))]) Cx dX5_greyOf_23 rfl rfl (by decide) rfl ?_
    refine j_iload_n (pc' := 25) Cx dX5_greyOf_24 rfl rfl rfl ?_
    refine j_if_eq (tgt := 41) (pc' := 28) Cx dX5_greyOf_25 (by decide) rfl (fun hh => absurd hh (hb)) (fun _ => ?_)
    refine j_aload_n (pc' := 29) Cx dX5_greyOf_28 rfl rfl rfl ?_
    refine j_get (pc' := 32) (N := 15) Cx dX5_greyOf_29 rfl kin_X5_greyOf_X5 kfl_X5_greyOf_7 0 rfl rfl 4 rfl rfl rfl ?_
    refine j_iconst (pc' := 33) (v := (nI 3)) Cx dX5_greyOf_32 rfl (by decide) ?_
    refine j_iload_n (pc' := 34) Cx dX5_greyOf_33 rfl rfl rfl ?_
    refine j_imul_n (pc' := 35) Cx dX5_greyOf_34 rfl ?_
    refine j_iconst (pc' := 36) (v := (nI 1)) Cx dX5_greyOf_35 rfl (by decide) ?_
    refine j_iadd_n (pc' := 37) Cx dX5_greyOf_36 rfl ?_
    refine j_iaload_nn (pc' := 38) Cx dX5_greyOf_37 rfl 1 rfl (by omega) (by omega) ?_
    refine j_goto (tgt := 51) Cx dX5_greyOf_38 (by decide) ?_
    refine j_istore (pc' := 53) (lv' := [(0, .ref m), (1, .int (b)), (2, .int (nI p)), (3, .int (nI (O (3 * p)))), (4, .int (nI (O ((3 * p) + 1))))]) Cx dX5_greyOf_51 rfl (by decide) rfl ?_
    refine j_iload_n (pc' := 54) Cx dX5_greyOf_53 rfl rfl rfl ?_
    refine j_if_eq (tgt := 70) (pc' := 57) Cx dX5_greyOf_54 (by decide) rfl (fun hh => absurd hh (hb)) (fun _ => ?_)
    refine j_aload_n (pc' := 58) Cx dX5_greyOf_57 rfl rfl rfl ?_
    refine j_get (pc' := 61) (N := 15) Cx dX5_greyOf_58 rfl kin_X5_greyOf_X5 kfl_X5_greyOf_7 0 rfl rfl 4 rfl rfl rfl ?_
    refine j_iconst (pc' := 62) (v := (nI 3)) Cx dX5_greyOf_61 rfl (by decide) ?_
    refine j_iload_n (pc' := 63) Cx dX5_greyOf_62 rfl rfl rfl ?_
    refine j_imul_n (pc' := 64) Cx dX5_greyOf_63 rfl ?_
    refine j_iconst (pc' := 65) (v := (nI 2)) Cx dX5_greyOf_64 rfl (by decide) ?_
    refine j_iadd_n (pc' := 66) Cx dX5_greyOf_65 rfl ?_
    refine j_iaload_nn (pc' := 67) Cx dX5_greyOf_66 rfl 1 rfl (by omega) (by omega) ?_
    refine j_goto (tgt := 80) Cx dX5_greyOf_67 (by decide) ?_
    refine j_istore (pc' := 82) (lv' := [(0, .ref m), (1, .int (b)), (2, .int (nI p)), (3, .int (nI (O (3 * p)))), (4, .int (nI (O ((3 * p) + 1)))), (5, .int (nI (O ((3 * p) + 2))))]) Cx dX5_greyOf_80 rfl (by decide) rfl ?_
    refine j_aload_n (pc' := 83) Cx dX5_greyOf_82 rfl rfl rfl ?_
    refine j_get (pc' := 86) (N := 15) Cx dX5_greyOf_83 rfl kin_X5_greyOf_X5 kfl_X5_greyOf_45 0 rfl rfl 2 rfl rfl rfl ?_
    refine j_iconst (pc' := 87) (v := (nI 1)) Cx dX5_greyOf_86 rfl (by decide) ?_
    refine j_icmp_ne_n (tgt := 94) (pc' := 90) Cx dX5_greyOf_87 (by decide) rfl (by omega) (by omega) (fun _ => ?_) (fun hh => absurd hh (by decide))
    refine j_aload_n (pc' := 95) Cx dX5_greyOf_94 rfl rfl rfl ?_
    refine j_get (pc' := 98) (N := 15) Cx dX5_greyOf_95 rfl kin_X5_greyOf_X5 kfl_X5_greyOf_45 0 rfl rfl 2 rfl rfl rfl ?_
    refine j_iconst (pc' := 99) (v := (nI 2)) Cx dX5_greyOf_98 rfl (by decide) ?_
    refine j_icmp_ne_n (tgt := 113) (pc' := 102) Cx dX5_greyOf_99 (by decide) rfl (by omega) (by omega) (fun hh => absurd hh (not_not_intro rfl)) (fun _ => ?_)
    refine j_iload_n (pc' := 103) Cx dX5_greyOf_102 rfl rfl rfl ?_
    refine j_iload (pc' := 105) Cx dX5_greyOf_103 rfl rfl ?_
    refine j_iadd_n (pc' := 106) Cx dX5_greyOf_105 rfl ?_
    refine j_iconst (pc' := 107) (v := (nI 1)) Cx dX5_greyOf_106 rfl (by decide) ?_
    refine j_iadd_n (pc' := 108) Cx dX5_greyOf_107 rfl ?_
    refine j_iconst (pc' := 109) (v := (nI 2)) Cx dX5_greyOf_108 rfl (by decide) ?_
    refine j_idiv_n (pc' := 110) Cx dX5_greyOf_109 rfl (by omega) (by decide) (by decide) ?_
    refine j_goto (tgt := 126) Cx dX5_greyOf_110 (by decide) ?_
    exact j_iret Cx dX5_greyOf_126 R0 ⟨Nat.le_of_ble_eq_true rfl, Nat.le_of_ble_eq_true rfl⟩ (⟨_, rfl, congrArg nI (krel_g2 hr hp), rfl⟩)
  · refine j_iload_n (pc' := 1) Cx dX5_greyOf_0 rfl rfl rfl ?_
    refine j_if_eq (tgt := 15) (pc' := 4) Cx dX5_greyOf_1 (by decide) rfl (fun hh => absurd hh (hb)) (fun _ => ?_)
    refine j_aload_n (pc' := 5) Cx dX5_greyOf_4 rfl rfl rfl ?_
    refine j_get (pc' := 8) (N := 15) Cx dX5_greyOf_5 rfl kin_X5_greyOf_X5 kfl_X5_greyOf_7 0 rfl rfl 4 rfl rfl rfl ?_
    refine j_iconst (pc' := 9) (v := (nI 3)) Cx dX5_greyOf_8 rfl (by decide) ?_
    refine j_iload_n (pc' := 10) Cx dX5_greyOf_9 rfl rfl rfl ?_
    refine j_imul_n (pc' := 11) Cx dX5_greyOf_10 rfl ?_
    refine j_iaload_nn (pc' := 12) Cx dX5_greyOf_11 rfl 1 rfl (by omega) (by omega) ?_
    refine j_goto (tgt := 23) Cx dX5_greyOf_12 (by decide) ?_
    refine j_istore_n (pc' := 24) (lv' := [(0, .ref m), (1, .int (b)), (2, .int (nI p)), (3, .int (nI (O (3 * p))))]) Cx dX5_greyOf_23 rfl rfl (by decide) rfl ?_
    refine j_iload_n (pc' := 25) Cx dX5_greyOf_24 rfl rfl rfl ?_
    refine j_if_eq (tgt := 41) (pc' := 28) Cx dX5_greyOf_25 (by decide) rfl (fun hh => absurd hh (hb)) (fun _ => ?_)
    refine j_aload_n (pc' := 29) Cx dX5_greyOf_28 rfl rfl rfl ?_
    refine j_get (pc' := 32) (N := 15) Cx dX5_greyOf_29 rfl kin_X5_greyOf_X5 kfl_X5_greyOf_7 0 rfl rfl 4 rfl rfl rfl ?_
    refine j_iconst (pc' := 33) (v := (nI 3)) Cx dX5_greyOf_32 rfl (by decide) ?_
    refine j_iload_n (pc' := 34) Cx dX5_greyOf_33 rfl rfl rfl ?_
    refine j_imul_n (pc' := 35) Cx dX5_greyOf_34 rfl ?_
    refine j_iconst (pc' := 36) (v := (nI 1)) Cx dX5_greyOf_35 rfl (by decide) ?_
    refine j_iadd_n (pc' := 37) Cx dX5_greyOf_36 rfl ?_
    refine j_iaload_nn (pc' := 38) Cx dX5_greyOf_37 rfl 1 rfl (by omega) (by omega) ?_
    refine j_goto (tgt := 51) Cx dX5_greyOf_38 (by decide) ?_
    refine j_istore (pc' := 53) (lv' := [(0, .ref m), (1, .int (b)), (2, .int (nI p)), (3, .int (nI (O (3 * p)))), (4, .int (nI (O ((3 * p) + 1))))]) Cx dX5_greyOf_51 rfl (by decide) rfl ?_
    refine j_iload_n (pc' := 54) Cx dX5_greyOf_53 rfl rfl rfl ?_
    refine j_if_eq (tgt := 70) (pc' := 57) Cx dX5_greyOf_54 (by decide) rfl (fun hh => absurd hh (hb)) (fun _ => ?_)
    refine j_aload_n (pc' := 58) Cx dX5_greyOf_57 rfl rfl rfl ?_
    refine j_get (pc' := 61) (N := 15) Cx dX5_greyOf_58 rfl kin_X5_greyOf_X5 kfl_X5_greyOf_7 0 rfl rfl 4 rfl rfl rfl ?_
    refine j_iconst (pc' := 62) (v := (nI 3)) Cx dX5_greyOf_61 rfl (by decide) ?_
    refine j_iload_n (pc' := 63) Cx dX5_greyOf_62 rfl rfl rfl ?_
    refine j_imul_n (pc' := 64) Cx dX5_greyOf_63 rfl ?_
    refine j_iconst (pc' := 65) (v := (nI 2)) Cx dX5_greyOf_64 rfl (by decide) ?_
    refine j_iadd_n (pc' := 66) Cx dX5_greyOf_65 rfl ?_
    refine j_iaload_nn (pc' := 67) Cx dX5_greyOf_66 rfl 1 rfl (by omega) (by omega) ?_
    refine j_goto (tgt := 80) Cx dX5_greyOf_67 (by decide) ?_
    refine j_istore (pc' := 82) (lv' := [(0, .ref m), (1, .int (b)), (2, .int (nI p)), (3, .int (nI (O (3 * p)))), (4, .int (nI (O ((3 * p) + 1)))), (5, .int (nI (O ((3 * p) + 2))))]) Cx dX5_greyOf_80 rfl (by decide) rfl ?_
    refine j_aload_n (pc' := 83) Cx dX5_greyOf_82 rfl rfl rfl ?_
    refine j_get (pc' := 86) (N := 15) Cx dX5_greyOf_83 rfl kin_X5_greyOf_X5 kfl_X5_greyOf_45 0 rfl rfl 2 rfl rfl rfl ?_
    refine j_iconst (pc' := 87) (v := (nI 1)) Cx dX5_greyOf_86 rfl (by decide) ?_
    refine j_icmp_ne_n (tgt := 94) (pc' := 90) Cx dX5_greyOf_87 (by decide) rfl (by omega) (by omega) (fun _ => ?_) (fun hh => absurd hh (by decide))
    refine j_aload_n (pc' := 95) Cx dX5_greyOf_94 rfl rfl rfl ?_
    refine j_get (pc' := 98) (N := 15) Cx dX5_greyOf_95 rfl kin_X5_greyOf_X5 kfl_X5_greyOf_45 0 rfl rfl 2 rfl rfl rfl ?_
    refine j_iconst (pc' := 99) (v := (nI 2)) Cx dX5_greyOf_98 rfl (by decide) ?_
    refine j_icmp_ne_n (tgt := 113) (pc' := 102) Cx dX5_greyOf_99 (by decide) rfl (by omega) (by omega) (fun _ => ?_) (fun hh => absurd hh (by decide))
    refine j_iload_n (pc' := 114) Cx dX5_greyOf_113 rfl rfl rfl ?_
    refine j_iconst (pc' := 115) (v := (nI 2)) Cx dX5_greyOf_114 rfl (by decide) ?_
    refine j_iload (pc' := 117) Cx dX5_greyOf_115 rfl rfl ?_
    refine j_imul_n (pc' := 118) Cx dX5_greyOf_117 rfl ?_
    refine j_iadd_n (pc' := 119) Cx dX5_greyOf_118 rfl ?_
    refine j_iload (pc' := 121) Cx dX5_greyOf_119 rfl rfl ?_
    refine j_iadd_n (pc' := 122) Cx dX5_greyOf_121 rfl ?_
    refine j_iconst (pc' := 123) (v := (nI 2)) Cx dX5_greyOf_122 rfl (by decide) ?_
    refine j_iadd_n (pc' := 124) Cx dX5_greyOf_123 rfl ?_
    refine j_iconst (pc' := 125) (v := (nI 4)) Cx dX5_greyOf_124 rfl (by decide) ?_
    refine j_idiv_n (pc' := 126) Cx dX5_greyOf_125 rfl (by omega) (by decide) (by decide) ?_
    exact j_iret Cx dX5_greyOf_126 R0 ⟨Nat.le_of_ble_eq_true rfl, Nat.le_of_ble_eq_true rfl⟩ (⟨_, rfl, congrArg nI (krel_g3 hr hp), rfl⟩)

set_option maxHeartbeats 4000000 in
set_option maxRecDepth 100000 in
theorem c_X5_greyOf2 (l : Launch) (D : va_G) (ty : Nat → ClassId) (m o1 o2 go gt po pt my no so W H C : Nat) (nw nh : Nat) (fa : Int32) (hW : W ≤ 24) (hH : H ≤ 24) (hW1 : 1 ≤ W) (hH1 : 1 ≤ H) (h1 : 1 ≤ C) (h3 : C ≤ 3) (O A : Nat → Nat) (hO : ∀ i, O i < 256) (hr : krel C (W * H) O A) (b : Int32) (hb : b = 0) (p : Nat) (hp : p < W * H) : KM l yX5_greyOf wsX5_greyOf { frames := 0, cells := 0, slots := 0, locals := 0 } D ty [.ref m, .int (b), .int (nI p)] [(m, .inr (5, [.int (nI W), .int (nI H), .int (nI C), .int (fa), .ref o1, .ref o2, .int (nI nw), .int (nI nh), .ref go, .ref gt, .ref po, .ref pt, .ref my, .ref no, .ref so])), (o2, .inl (ty 0, 1728, .inl (kN O)))] (kI (fun r u => r = nI (kg C A p) ∧ u = [(m, .inr (5, [.int (nI W), .int (nI H), .int (nI C), .int (fa), .ref o1, .ref o2, .int (nI nw), .int (nI nh), .ref go, .ref gt, .ref po, .ref pt, .ref my, .ref no, .ref so])), (o2, .inl (ty 0, 1728, .inl (kN O)))])) 0 0 := by
  refine KM.of (cc := cX5_greyOf) (maxL := 6) (ret := (some .int)) (lv := [(0, .ref m), (1, .int (b)), (2, .int (nI p))]) (by decide +kernel) rfl rfl rfl (fun X C0 R0 => ?_)
  have Cx : kC X cX5_greyOf wsX5_greyOf RX5 { frames := 0, cells := 0, slots := 0, locals := 0 } "greyOf" l D ty 6 := C0
  have hwh := k_wh hW hH
  have g0 := hO (3 * p)
  have g1 := hO (3 * p + 1)
  have g2 := hO (3 * p + 2)
  rcases k_C h1 h3 with rfl | rfl | rfl
  · refine j_iload_n (pc' := 1) Cx dX5_greyOf_0 rfl rfl rfl ?_
    refine j_if_eq (tgt := 15) (pc' := 4) Cx dX5_greyOf_1 (by decide) rfl (fun _ => ?_) (fun hh => absurd hh (not_not_intro hb))
    refine j_aload_n (pc' := 16) Cx dX5_greyOf_15 rfl rfl rfl ?_
    refine j_get (pc' := 19) (N := 15) Cx dX5_greyOf_16 rfl kin_X5_greyOf_X5 kfl_X5_greyOf_13 0 rfl rfl 5 rfl rfl rfl ?_
    refine j_iconst (pc' := 20) (v := (nI 3)) Cx dX5_greyOf_19 rfl (by decide) ?_
    refine j_iload_n (pc' := 21) Cx dX5_greyOf_20 rfl rfl rfl ?_
    refine j_imul_n (pc' := 22) Cx dX5_greyOf_21 rfl ?_
    refine j_iaload_nn (pc' := 23) Cx dX5_greyOf_22 rfl 1 rfl (by omega) (by omega) ?_
    refine j_istore_n (pc' := 24) (lv' := [(0, .ref m), (1, .int (b)), (2, .int (nI p)), (3, .int (nI (O (3 * p))))]) Cx dX5_greyOf_23 rfl rfl (by decide) rfl ?_
    refine j_iload_n (pc' := 25) Cx dX5_greyOf_24 rfl rfl rfl ?_
    refine j_if_eq (tgt := 41) (pc' := 28) Cx dX5_greyOf_25 (by decide) rfl (fun _ => ?_) (fun hh => absurd hh (not_not_intro hb))
    refine j_aload_n (pc' := 42) Cx dX5_greyOf_41 rfl rfl rfl ?_
    refine j_get (pc' := 45) (N := 15) Cx dX5_greyOf_42 rfl kin_X5_greyOf_X5 kfl_X5_greyOf_13 0 rfl rfl 5 rfl rfl rfl ?_
    refine j_iconst (pc' := 46) (v := (nI 3)) Cx dX5_greyOf_45 rfl (by decide) ?_
    refine j_iload_n (pc' := 47) Cx dX5_greyOf_46 rfl rfl rfl ?_
    refine j_imul_n (pc' := 48) Cx dX5_greyOf_47 rfl ?_
    refine j_iconst (pc' := 49) (v := (nI 1)) Cx dX5_greyOf_48 rfl (by decide) ?_
    refine j_iadd_n (pc' := 50) Cx dX5_greyOf_49 rfl ?_
    refine j_iaload_nn (pc' := 51) Cx dX5_greyOf_50 rfl 1 rfl (by omega) (by omega) ?_
    refine j_istore (pc' := 53) (lv' := [(0, .ref m), (1, .int (b)), (2, .int (nI p)), (3, .int (nI (O (3 * p)))), (4, .int (nI (O ((3 * p) + 1))))]) Cx dX5_greyOf_51 rfl (by decide) rfl ?_
    refine j_iload_n (pc' := 54) Cx dX5_greyOf_53 rfl rfl rfl ?_
    refine j_if_eq (tgt := 70) (pc' := 57) Cx dX5_greyOf_54 (by decide) rfl (fun _ => ?_) (fun hh => absurd hh (not_not_intro hb))
    refine j_aload_n (pc' := 71) Cx dX5_greyOf_70 rfl rfl rfl ?_
    refine j_get (pc' := 74) (N := 15) Cx dX5_greyOf_71 rfl kin_X5_greyOf_X5 kfl_X5_greyOf_13 0 rfl rfl 5 rfl rfl rfl ?_
    refine j_iconst (pc' := 75) (v := (nI 3)) Cx dX5_greyOf_74 rfl (by decide) ?_
    refine j_iload_n (pc' := 76) Cx dX5_greyOf_75 rfl rfl rfl ?_
    refine j_imul_n (pc' := 77) Cx dX5_greyOf_76 rfl ?_
    refine j_iconst (pc' := 78) (v := (nI 2)) Cx dX5_greyOf_77 rfl (by decide) ?_
    refine j_iadd_n (pc' := 79) Cx dX5_greyOf_78 rfl ?_
    refine j_iaload_nn (pc' := 80) Cx dX5_greyOf_79 rfl 1 rfl (by omega) (by omega) ?_
    refine j_istore (pc' := 82) (lv' := [(0, .ref m), (1, .int (b)), (2, .int (nI p)), (3, .int (nI (O (3 * p)))), (4, .int (nI (O ((3 * p) + 1)))), (5, .int (nI (O ((3 * p) + 2))))]) Cx dX5_greyOf_80 rfl (by decide) rfl ?_
    refine j_aload_n (pc' := 83) Cx dX5_greyOf_82 rfl rfl rfl ?_
    refine j_get (pc' := 86) (N := 15) Cx dX5_greyOf_83 rfl kin_X5_greyOf_X5 kfl_X5_greyOf_45 0 rfl rfl 2 rfl rfl rfl ?_
    refine j_iconst (pc' := 87) (v := (nI 1)) Cx dX5_greyOf_86 rfl (by decide) ?_
    refine j_icmp_ne_n (tgt := 94) (pc' := 90) Cx dX5_greyOf_87 (by decide) rfl (by omega) (by omega) (fun hh => absurd hh (not_not_intro rfl)) (fun _ => ?_)
    refine j_iload_n (pc' := 91) Cx dX5_greyOf_90 rfl rfl rfl ?_
    refine j_goto (tgt := 126) Cx dX5_greyOf_91 (by decide) ?_
    exact j_iret Cx dX5_greyOf_126 R0 ⟨Nat.le_of_ble_eq_true rfl, Nat.le_of_ble_eq_true rfl⟩ (⟨_, rfl, congrArg nI (krel_g1 hr hp), rfl⟩)
  · refine j_iload_n (pc' := 1) Cx dX5_greyOf_0 rfl rfl rfl ?_
    refine j_if_eq (tgt := 15) (pc' := 4) Cx dX5_greyOf_1 (by decide) rfl (fun _ => ?_) (fun hh => absurd hh (not_not_intro hb))
    refine j_aload_n (pc' := 16) Cx dX5_greyOf_15 rfl rfl rfl ?_
    refine j_get (pc' := 19) (N := 15) Cx dX5_greyOf_16 rfl kin_X5_greyOf_X5 kfl_X5_greyOf_13 0 rfl rfl 5 rfl rfl rfl ?_
    refine j_iconst (pc' := 20) (v := (nI 3)) Cx dX5_greyOf_19 rfl (by decide) ?_
    refine j_iload_n (pc' := 21) Cx dX5_greyOf_20 rfl rfl rfl ?_
    refine j_imul_n (pc' := 22) Cx dX5_greyOf_21 rfl ?_
    refine j_iaload_nn (pc' := 23) Cx dX5_greyOf_22 rfl 1 rfl (by omega) (by omega) ?_
    refine j_istore_n (pc' := 24) (lv' := [(0, .ref m), (1, .int (b)), (2, .int (nI p)), (3, .int (nI (O (3 * p))))]) Cx dX5_greyOf_23 rfl rfl (by decide) rfl ?_
    refine j_iload_n (pc' := 25) Cx dX5_greyOf_24 rfl rfl rfl ?_
    refine j_if_eq (tgt := 41) (pc' := 28) Cx dX5_greyOf_25 (by decide) rfl (fun _ => ?_) (fun hh => absurd hh (not_not_intro hb))
    refine j_aload_n (pc' := 42) Cx dX5_greyOf_41 rfl rfl rfl ?_
    refine j_get (pc' := 45) (N := 15) Cx dX5_greyOf_42 rfl kin_X5_greyOf_X5 kfl_X5_greyOf_13 0 rfl rfl 5 rfl rfl rfl ?_
    refine j_iconst (pc' := 46) (v := (nI 3)) Cx dX5_greyOf_45 rfl (by decide) ?_
    refine j_iload_n (pc' := 47) Cx dX5_greyOf_46 rfl rfl rfl ?_
    refine j_imul_n (pc' := 48) Cx dX5_greyOf_47 rfl ?_
    refine j_iconst (pc' := 49) (v := (nI 1)) Cx dX5_greyOf_48 rfl (by decide) ?_
    refine j_iadd_n (pc' := 50) Cx dX5_greyOf_49 rfl ?_
    refine j_iaload_nn (pc' := 51) Cx dX5_greyOf_50 rfl 1 rfl (by omega) (by omega) ?_
    refine j_istore (pc' := 53) (lv' := [(0, .ref m), (1, .int (b)), (2, .int (nI p)), (3, .int (nI (O (3 * p)))), (4, .int (nI (O ((3 * p) + 1))))]) Cx dX5_greyOf_51 rfl (by decide) rfl ?_
    refine j_iload_n (pc' := 54) Cx dX5_greyOf_53 rfl rfl rfl ?_
    refine j_if_eq (tgt := 70) (pc' := 57) Cx dX5_greyOf_54 (by decide) rfl (fun _ => ?_) (fun hh => absurd hh (not_not_intro hb))
    refine j_aload_n (pc' := 71) Cx dX5_greyOf_70 rfl rfl rfl ?_
    refine j_get (pc' := 74) (N := 15) Cx dX5_greyOf_71 rfl kin_X5_greyOf_X5 kfl_X5_greyOf_13 0 rfl rfl 5 rfl rfl rfl ?_
    refine j_iconst (pc' := 75) (v := (nI 3)) Cx dX5_greyOf_74 rfl (by decide) ?_
    refine j_iload_n (pc' := 76) Cx dX5_greyOf_75 rfl rfl rfl ?_
    refine j_imul_n (pc' := 77) Cx dX5_greyOf_76 rfl ?_
    refine j_iconst (pc' := 78) (v := (nI 2)) Cx dX5_greyOf_77 rfl (by decide) ?_
    refine j_iadd_n (pc' := 79) Cx dX5_greyOf_78 rfl ?_
    refine j_iaload_nn (pc' := 80) Cx dX5_greyOf_79 rfl 1 rfl (by omega) (by omega) ?_
    refine j_istore (pc' := 82) (lv' := [(0, .ref m), (1, .int (b)), (2, .int (nI p)), (3, .int (nI (O (3 * p)))), (4, .int (nI (O ((3 * p) + 1)))), (5, .int (nI (O ((3 * p) + 2))))]) Cx dX5_greyOf_80 rfl (by decide) rfl ?_
    refine j_aload_n (pc' := 83) Cx dX5_greyOf_82 rfl rfl rfl ?_
    refine j_get (pc' := 86) (N := 15) Cx dX5_greyOf_83 rfl kin_X5_greyOf_X5 kfl_X5_greyOf_45 0 rfl rfl 2 rfl rfl rfl ?_
    refine j_iconst (pc' := 87) (v := (nI 1)) Cx dX5_greyOf_86 rfl (by decide) ?_
    refine j_icmp_ne_n (tgt := 94) (pc' := 90) Cx dX5_greyOf_87 (by decide) rfl (by omega) (by omega) (fun _ => ?_) (fun hh => absurd hh (by decide))
    refine j_aload_n (pc' := 95) Cx dX5_greyOf_94 rfl rfl rfl ?_
    refine j_get (pc' := 98) (N := 15) Cx dX5_greyOf_95 rfl kin_X5_greyOf_X5 kfl_X5_greyOf_45 0 rfl rfl 2 rfl rfl rfl ?_
    refine j_iconst (pc' := 99) (v := (nI 2)) Cx dX5_greyOf_98 rfl (by decide) ?_
    refine j_icmp_ne_n (tgt := 113) (pc' := 102) Cx dX5_greyOf_99 (by decide) rfl (by omega) (by omega) (fun hh => absurd hh (not_not_intro rfl)) (fun _ => ?_)
    refine j_iload_n (pc' := 103) Cx dX5_greyOf_102 rfl rfl rfl ?_
    refine j_iload (pc' := 105) Cx dX5_greyOf_103 rfl rfl ?_
    refine j_iadd_n (pc' := 106) Cx dX5_greyOf_105 rfl ?_
    refine j_iconst (pc' := 107) (v := (nI 1)) Cx dX5_greyOf_106 rfl (by decide) ?_
    refine j_iadd_n (pc' := 108) Cx dX5_greyOf_107 rfl ?_
    refine j_iconst (pc' := 109) (v := (nI 2)) Cx dX5_greyOf_108 rfl (by decide) ?_
    refine j_idiv_n (pc' := 110) Cx dX5_greyOf_109 rfl (by omega) (by decide) (by decide) ?_
    refine j_goto (tgt := 126) Cx dX5_greyOf_110 (by decide) ?_
    exact j_iret Cx dX5_greyOf_126 R0 ⟨Nat.le_of_ble_eq_true rfl, Nat.le_of_ble_eq_true rfl⟩ (⟨_, rfl, congrArg nI (krel_g2 hr hp), rfl⟩)
  · refine j_iload_n (pc' := 1) Cx dX5_greyOf_0 rfl rfl rfl ?_
    refine j_if_eq (tgt := 15) (pc' := 4) Cx dX5_greyOf_1 (by decide) rfl (fun _ => ?_) (fun hh => absurd hh (not_not_intro hb))
    refine j_aload_n (pc' := 16) Cx dX5_greyOf_15 rfl rfl rfl ?_
    refine j_get (pc' := 19) (N := 15) Cx dX5_greyOf_16 rfl kin_X5_greyOf_X5 kfl_X5_greyOf_13 0 rfl rfl 5 rfl rfl rfl ?_
    refine j_iconst (pc' := 20) (v := (nI 3)) Cx dX5_greyOf_19 rfl (by decide) ?_
    refine j_iload_n (pc' := 21) Cx dX5_greyOf_20 rfl rfl rfl ?_
    refine j_imul_n (pc' := 22) Cx dX5_greyOf_21 rfl ?_
    refine j_iaload_nn (pc' := 23) Cx dX5_greyOf_22 rfl 1 rfl (by omega) (by omega) ?_
    refine j_istore_n (pc' := 24) (lv' := [(0, .ref m), (1, .int (b)), (2, .int (nI p)), (3, .int (nI (O (3 * p))))]) Cx dX5_greyOf_23 rfl rfl (by decide) rfl ?_
    refine j_iload_n (pc' := 25) Cx dX5_greyOf_24 rfl rfl rfl ?_
    refine j_if_eq (tgt := 41) (pc' := 28) Cx dX5_greyOf_25 (by decide) rfl (fun _ => ?_) (fun hh => absurd hh (not_not_intro hb))
    refine j_aload_n (pc' := 42) Cx dX5_greyOf_41 rfl rfl rfl ?_
    refine j_get (pc' := 45) (N := 15) Cx dX5_greyOf_42 rfl kin_X5_greyOf_X5 kfl_X5_greyOf_13 0 rfl rfl 5 rfl rfl rfl ?_
    refine j_iconst (pc' := 46) (v := (nI 3)) Cx dX5_greyOf_45 rfl (by decide) ?_
    refine j_iload_n (pc' := 47) Cx dX5_greyOf_46 rfl rfl rfl ?_
    refine j_imul_n (pc' := 48) Cx dX5_greyOf_47 rfl ?_
    refine j_iconst (pc' := 49) (v := (nI 1)) Cx dX5_greyOf_48 rfl (by decide) ?_
    refine j_iadd_n (pc' := 50) Cx dX5_greyOf_49 rfl ?_
    refine j_iaload_nn (pc' := 51) Cx dX5_greyOf_50 rfl 1 rfl (by omega) (by omega) ?_
    refine j_istore (pc' := 53) (lv' := [(0, .ref m), (1, .int (b)), (2, .int (nI p)), (3, .int (nI (O (3 * p)))), (4, .int (nI (O ((3 * p) + 1))))]) Cx dX5_greyOf_51 rfl (by decide) rfl ?_
    refine j_iload_n (pc' := 54) Cx dX5_greyOf_53 rfl rfl rfl ?_
    refine j_if_eq (tgt := 70) (pc' := 57) Cx dX5_greyOf_54 (by decide) rfl (fun _ => ?_) (fun hh => absurd hh (not_not_intro hb))
    refine j_aload_n (pc' := 71) Cx dX5_greyOf_70 rfl rfl rfl ?_
    refine j_get (pc' := 74) (N := 15) Cx dX5_greyOf_71 rfl kin_X5_greyOf_X5 kfl_X5_greyOf_13 0 rfl rfl 5 rfl rfl rfl ?_
    refine j_iconst (pc' := 75) (v := (nI 3)) Cx dX5_greyOf_74 rfl (by decide) ?_
    refine j_iload_n (pc' := 76) Cx dX5_greyOf_75 rfl rfl rfl ?_
    refine j_imul_n (pc' := 77) Cx dX5_greyOf_76 rfl ?_
    refine j_iconst (pc' := 78) (v := (nI 2)) Cx dX5_greyOf_77 rfl (by decide) ?_
    refine j_iadd_n (pc' := 79) Cx dX5_greyOf_78 rfl ?_
    refine j_iaload_nn (pc' := 80) Cx dX5_greyOf_79 rfl 1 rfl (by omega) (by omega) ?_
    refine j_istore (pc' := 82) (lv' := [(0, .ref m), (1, .int (b)), (2, .int (nI p)), (3, .int (nI (O (3 * p)))), (4, .int (nI (O ((3 * p) + 1)))), (5, .int (nI (O ((3 * p) + 2))))]) Cx dX5_greyOf_80 rfl (by decide) rfl ?_
    refine j_aload_n (pc' := 83) Cx dX5_greyOf_82 rfl rfl rfl ?_
    refine j_get (pc' := 86) (N := 15) Cx dX5_greyOf_83 rfl kin_X5_greyOf_X5 kfl_X5_greyOf_45 0 rfl rfl 2 rfl rfl rfl ?_
    refine j_iconst (pc' := 87) (v := (nI 1)) Cx dX5_greyOf_86 rfl (by decide) ?_
    refine j_icmp_ne_n (tgt := 94) (pc' := 90) Cx dX5_greyOf_87 (by decide) rfl (by omega) (by omega) (fun _ => ?_) (fun hh => absurd hh (by decide))
    refine j_aload_n (pc' := 95) Cx dX5_greyOf_94 rfl rfl rfl ?_
    refine j_get (pc' := 98) (N := 15) Cx dX5_greyOf_95 rfl kin_X5_greyOf_X5 kfl_X5_greyOf_45 0 rfl rfl 2 rfl rfl rfl ?_
    refine j_iconst (pc' := 99) (v := (nI 2)) Cx dX5_greyOf_98 rfl (by decide) ?_
    refine j_icmp_ne_n (tgt := 113) (pc' := 102) Cx dX5_greyOf_99 (by decide) rfl (by omega) (by omega) (fun _ => ?_) (fun hh => absurd hh (by decide))
    refine j_iload_n (pc' := 114) Cx dX5_greyOf_113 rfl rfl rfl ?_
    refine j_iconst (pc' := 115) (v := (nI 2)) Cx dX5_greyOf_114 rfl (by decide) ?_
    refine j_iload (pc' := 117) Cx dX5_greyOf_115 rfl rfl ?_
    refine j_imul_n (pc' := 118) Cx dX5_greyOf_117 rfl ?_
    refine j_iadd_n (pc' := 119) Cx dX5_greyOf_118 rfl ?_
    refine j_iload (pc' := 121) Cx dX5_greyOf_119 rfl rfl ?_
    refine j_iadd_n (pc' := 122) Cx dX5_greyOf_121 rfl ?_
    refine j_iconst (pc' := 123) (v := (nI 2)) Cx dX5_greyOf_122 rfl (by decide) ?_
    refine j_iadd_n (pc' := 124) Cx dX5_greyOf_123 rfl ?_
    refine j_iconst (pc' := 125) (v := (nI 4)) Cx dX5_greyOf_124 rfl (by decide) ?_
    refine j_idiv_n (pc' := 126) Cx dX5_greyOf_125 rfl (by omega) (by decide) (by decide) ?_
    exact j_iret Cx dX5_greyOf_126 R0 ⟨Nat.le_of_ble_eq_true rfl, Nat.le_of_ble_eq_true rfl⟩ (⟨_, rfl, congrArg nI (krel_g3 hr hp), rfl⟩)

set_option maxHeartbeats 4000000 in
set_option maxRecDepth 100000 in
theorem c_X5_grey_ok1 (l : Launch) (D : va_G) (ty : Nat → ClassId) (m o1 o2 go gt po pt my no so W H C : Nat) (nw nh : Nat) (fa : Int32) (hW : W ≤ 24) (hH : H ≤ 24) (hW1 : 1 ≤ W) (hH1 : 1 ≤ H) (h1 : 1 ≤ C) (h3 : C ≤ 3) (O A : Nat → Nat) (hO : ∀ i, O i < 256) (hr : krel C (W * H) O A) (b : Int32) (hb : ¬ b = 0) (i j : Nat) (hi : i < W) (hj : j < H) : KM l yX5_grey wsX5_grey { frames := 2, cells := 0, slots := 0, locals := 80 } D ty [.ref m, .int (b), .int (nI i), .int (nI j)] [(m, .inr (5, [.int (nI W), .int (nI H), .int (nI C), .int (fa), .ref o1, .ref o2, .int (nI nw), .int (nI nh), .ref go, .ref gt, .ref po, .ref pt, .ref my, .ref no, .ref so])), (o1, .inl (ty 0, 1728, .inl (kN O)))] (kI (fun r u => r = nI (kg C A (j * W + i)) ∧ u = [(m, .inr (5, [.int (nI W), .int (nI H), .int (nI C), .int (nI 0), .ref o1, .ref o2, .int (nI nw), .int (nI nh), .ref go, .ref gt, .ref po, .ref pt, .ref my, .ref no, .ref so])), (o1, .inl (ty 0, 1728, .inl (kN O)))])) 0 0 := by
  refine KM.of (cc := cX5_grey) (maxL := 4) (ret := (some .int)) (lv := [(0, .ref m), (1, .int (b)), (2, .int (nI i)), (3, .int (nI j))]) (by decide +kernel) rfl rfl rfl (fun X C0 R0 => ?_)
  have Cx : kC X cX5_grey wsX5_grey RX5 { frames := 2, cells := 0, slots := 0, locals := 80 } "grey" l D ty 4 := C0
  refine j_aload_n (pc' := 1) Cx dX5_grey_0 rfl rfl rfl ?_
  refine j_aload_n (pc' := 2) Cx dX5_grey_1 rfl rfl rfl ?_
  refine j_iload_n (pc' := 3) Cx dX5_grey_2 rfl rfl rfl ?_
  refine j_iload_n (pc' := 4) Cx dX5_grey_3 rfl rfl rfl ?_
  refine j_callV (pc' := 7) (wr := [(o1, .inl (ty 0, 1728, .inl (kN O)))]) (st := [.ref m]) Cx dX5_grey_4 rfl (c_X5_isPlace l D ty m o1 o2 go gt po pt my no so W H C nw nh fa hW hH hW1 hH1 h1 h3 i j hi hj) gX5_grey_X5_isPlace rfl khd_X5_isPlace rfl ⟨rfl, rfl, Nat.le_of_ble_eq_true rfl, Nat.le_of_ble_eq_true rfl⟩ [0] [1] rfl rfl ⟨rfl, rfl⟩ (by decide) 0 rfl rfl rfl (Nat.le_of_ble_eq_true rfl) ⟨Nat.le_of_ble_eq_true rfl, Nat.le_of_ble_eq_true rfl⟩ (fun v u hpost => ?_)
  obtain ⟨r, rfl, rfl, rfl⟩ := hpost
  show J X [(o1, .inl (ty 0, 1728, .inl (kN O))), (m, .inr (5, [.int (nI W), .int (nI H), .int (nI C), .int (fa), .ref o1, .ref o2, .int (nI nw), .int (nI nh), .ref go, .ref gt, .ref po, .ref pt, .ref my, .ref no, .ref so]))] [(0, .ref m), (1, .int (b)), (2, .int (nI i)), (3, .int (nI j))] 7 [.int (nI 1), .ref m] 0 0
  refine J.sub (ws' := [(m, .inr (5, [.int (nI W), .int (nI H), .int (nI C), .int (fa), .ref o1, .ref o2, .int (nI nw), .int (nI nh), .ref go, .ref gt, .ref po, .ref pt, .ref my, .ref no, .ref so])), (o1, .inl (ty 0, 1728, .inl (kN O)))]) [1, 0] rfl rfl ?_
  refine j_if_eq_n (tgt := 14) (pc' := 10) Cx dX5_grey_7 (by decide) rfl (by omega) (fun hh => absurd hh (by decide)) (fun _ => ?_)
  refine j_iconst (pc' := 11) (v := (nI 0)) Cx dX5_grey_10 rfl (by decide) ?_
  refine j_goto (tgt := 15) Cx dX5_grey_11 (by decide) ?_
  refine j_put (pc' := 18) (N := 15) (t := .int) (ws' := [(m, .inr (5, [.int (nI W), .int (nI H), .int (nI C), .int (nI 0), .ref o1, .ref o2, .int (nI nw), .int (nI nh), .ref go, .ref gt, .ref po, .ref pt, .ref my, .ref no, .ref so])), (o1, .inl (ty 0, 1728, .inl (kN O)))]) Cx dX5_grey_15 rfl kin_X5_grey_X5 kfl_X5_grey_48 tyX5_ok nmX5 0 rfl rfl 3 rfl rfl rfl rfl rfl rfl rfl ?_
  refine j_aload_n (pc' := 19) Cx dX5_grey_18 rfl rfl rfl ?_
  refine j_get (pc' := 22) (N := 15) Cx dX5_grey_19 rfl kin_X5_grey_X5 kfl_X5_grey_48 0 rfl rfl 3 rfl rfl rfl ?_
  refine j_if_le_n (tgt := 29) (pc' := 25) Cx dX5_grey_22 (by decide) rfl (by omega) (fun _ => ?_) (fun hh => absurd hh (by decide))
  refine j_aload_n (pc' := 30) Cx dX5_grey_29 rfl rfl rfl ?_
  refine j_iload_n (pc' := 31) Cx dX5_grey_30 rfl rfl rfl ?_
  refine j_aload_n (pc' := 32) Cx dX5_grey_31 rfl rfl rfl ?_
  refine j_get (pc' := 35) (N := 15) Cx dX5_grey_32 rfl kin_X5_grey_X5 kfl_X5_grey_38 0 rfl rfl 0 rfl rfl rfl ?_
  refine j_iload_n (pc' := 36) Cx dX5_grey_35 rfl rfl rfl ?_
  refine j_imul_n (pc' := 37) Cx dX5_grey_36 rfl ?_
  refine j_iload_n (pc' := 38) Cx dX5_grey_37 rfl rfl rfl ?_
  refine j_iadd_n (pc' := 39) Cx dX5_grey_38 rfl ?_
  refine j_callV (pc' := 42) (wr := []) (st := []) Cx dX5_grey_39 rfl (c_X5_greyOf1 l D ty m o1 o2 go gt po pt my no so W H C nw nh (nI 0) hW hH hW1 hH1 h1 h3 O A hO hr b hb (W * j + i) (k_idx' hi hj)) gX5_grey_X5_greyOf rfl khd_X5_greyOf rfl ⟨rfl, rfl, Nat.le_of_ble_eq_true rfl, Nat.le_of_ble_eq_true rfl⟩ [0, 1] [] rfl rfl ⟨rfl, rfl⟩ (by decide) 0 rfl rfl rfl (Nat.le_of_ble_eq_true rfl) ⟨Nat.le_of_ble_eq_true rfl, Nat.le_of_ble_eq_true rfl⟩ (fun v u hpost => ?_)
  obtain ⟨r, rfl, rfl, rfl⟩ := hpost
  show J X [(m, .inr (5, [.int (nI W), .int (nI H), .int (nI C), .int (nI 0), .ref o1, .ref o2, .int (nI nw), .int (nI nh), .ref go, .ref gt, .ref po, .ref pt, .ref my, .ref no, .ref so])), (o1, .inl (ty 0, 1728, .inl (kN O)))] [(0, .ref m), (1, .int (b)), (2, .int (nI i)), (3, .int (nI j))] 42 [.int (nI (kg C A (W * j + i)))] 0 0
  exact j_iret Cx dX5_grey_42 R0 ⟨Nat.le_of_ble_eq_true rfl, Nat.le_of_ble_eq_true rfl⟩ (⟨_, rfl, by rw [Nat.mul_comm j W], rfl⟩)

set_option maxHeartbeats 4000000 in
set_option maxRecDepth 100000 in
theorem c_X5_grey_ok2 (l : Launch) (D : va_G) (ty : Nat → ClassId) (m o1 o2 go gt po pt my no so W H C : Nat) (nw nh : Nat) (fa : Int32) (hW : W ≤ 24) (hH : H ≤ 24) (hW1 : 1 ≤ W) (hH1 : 1 ≤ H) (h1 : 1 ≤ C) (h3 : C ≤ 3) (O A : Nat → Nat) (hO : ∀ i, O i < 256) (hr : krel C (W * H) O A) (b : Int32) (hb : b = 0) (i j : Nat) (hi : i < W) (hj : j < H) : KM l yX5_grey wsX5_grey { frames := 2, cells := 0, slots := 0, locals := 80 } D ty [.ref m, .int (b), .int (nI i), .int (nI j)] [(m, .inr (5, [.int (nI W), .int (nI H), .int (nI C), .int (fa), .ref o1, .ref o2, .int (nI nw), .int (nI nh), .ref go, .ref gt, .ref po, .ref pt, .ref my, .ref no, .ref so])), (o2, .inl (ty 0, 1728, .inl (kN O)))] (kI (fun r u => r = nI (kg C A (j * W + i)) ∧ u = [(m, .inr (5, [.int (nI W), .int (nI H), .int (nI C), .int (nI 0), .ref o1, .ref o2, .int (nI nw), .int (nI nh), .ref go, .ref gt, .ref po, .ref pt, .ref my, .ref no, .ref so])), (o2, .inl (ty 0, 1728, .inl (kN O)))])) 0 0 := by
  refine KM.of (cc := cX5_grey) (maxL := 4) (ret := (some .int)) (lv := [(0, .ref m), (1, .int (b)), (2, .int (nI i)), (3, .int (nI j))]) (by decide +kernel) rfl rfl rfl (fun X C0 R0 => ?_)
  have Cx : kC X cX5_grey wsX5_grey RX5 { frames := 2, cells := 0, slots := 0, locals := 80 } "grey" l D ty 4 := C0
  refine j_aload_n (pc' := 1) Cx dX5_grey_0 rfl rfl rfl ?_
  refine j_aload_n (pc' := 2) Cx dX5_grey_1 rfl rfl rfl ?_
  refine j_iload_n (pc' := 3) Cx dX5_grey_2 rfl rfl rfl ?_
  refine j_iload_n (pc' := 4) Cx dX5_grey_3 rfl rfl rfl ?_
  refine j_callV (pc' := 7) (wr := [(o2, .inl (ty 0, 1728, .inl (kN O)))]) (st := [.ref m]) Cx dX5_grey_4 rfl (c_X5_isPlace l D ty m o1 o2 go gt po pt my no so W H C nw nh fa hW hH hW1 hH1 h1 h3 i j hi hj) gX5_grey_X5_isPlace rfl khd_X5_isPlace rfl ⟨rfl, rfl, Nat.le_of_ble_eq_true rfl, Nat.le_of_ble_eq_true rfl⟩ [0] [1] rfl rfl ⟨rfl, rfl⟩ (by decide) 0 rfl rfl rfl (Nat.le_of_ble_eq_true rfl) ⟨Nat.le_of_ble_eq_true rfl, Nat.le_of_ble_eq_true rfl⟩ (fun v u hpost => ?_)
  obtain ⟨r, rfl, rfl, rfl⟩ := hpost
  show J X [(o2, .inl (ty 0, 1728, .inl (kN O))), (m, .inr (5, [.int (nI W), .int (nI H), .int (nI C), .int (fa), .ref o1, .ref o2, .int (nI nw), .int (nI nh), .ref go, .ref gt, .ref po, .ref pt, .ref my, .ref no, .ref so]))] [(0, .ref m), (1, .int (b)), (2, .int (nI i)), (3, .int (nI j))] 7 [.int (nI 1), .ref m] 0 0
  refine J.sub (ws' := [(m, .inr (5, [.int (nI W), .int (nI H), .int (nI C), .int (fa), .ref o1, .ref o2, .int (nI nw), .int (nI nh), .ref go, .ref gt, .ref po, .ref pt, .ref my, .ref no, .ref so])), (o2, .inl (ty 0, 1728, .inl (kN O)))]) [1, 0] rfl rfl ?_
  refine j_if_eq_n (tgt := 14) (pc' := 10) Cx dX5_grey_7 (by decide) rfl (by omega) (fun hh => absurd hh (by decide)) (fun _ => ?_)
  refine j_iconst (pc' := 11) (v := (nI 0)) Cx dX5_grey_10 rfl (by decide) ?_
  refine j_goto (tgt := 15) Cx dX5_grey_11 (by decide) ?_
  refine j_put (pc' := 18) (N := 15) (t := .int) (ws' := [(m, .inr (5, [.int (nI W), .int (nI H), .int (nI C), .int (nI 0), .ref o1, .ref o2, .int (nI nw), .int (nI nh), .ref go, .ref gt, .ref po, .ref pt, .ref my, .ref no, .ref so])), (o2, .inl (ty 0, 1728, .inl (kN O)))]) Cx dX5_grey_15 rfl kin_X5_grey_X5 kfl_X5_grey_48 tyX5_ok nmX5 0 rfl rfl 3 rfl rfl rfl rfl rfl rfl rfl ?_
  refine j_aload_n (pc' := 19) Cx dX5_grey_18 rfl rfl rfl ?_
  refine j_get (pc' := 22) (N := 15) Cx dX5_grey_19 rfl kin_X5_grey_X5 kfl_X5_grey_48 0 rfl rfl 3 rfl rfl rfl ?_
  refine j_if_le_n (tgt := 29) (pc' := 25) Cx dX5_grey_22 (by decide) rfl (by omega) (fun _ => ?_) (fun hh => absurd hh (by decide))
  refine j_aload_n (pc' := 30) Cx dX5_grey_29 rfl rfl rfl ?_
  refine j_iload_n (pc' := 31) Cx dX5_grey_30 rfl rfl rfl ?_
  refine j_aload_n (pc' := 32) Cx dX5_grey_31 rfl rfl rfl ?_
  refine j_get (pc' := 35) (N := 15) Cx dX5_grey_32 rfl kin_X5_grey_X5 kfl_X5_grey_38 0 rfl rfl 0 rfl rfl rfl ?_
  refine j_iload_n (pc' := 36) Cx dX5_grey_35 rfl rfl rfl ?_
  refine j_imul_n (pc' := 37) Cx dX5_grey_36 rfl ?_
  refine j_iload_n (pc' := 38) Cx dX5_grey_37 rfl rfl rfl ?_
  refine j_iadd_n (pc' := 39) Cx dX5_grey_38 rfl ?_
  refine j_callV (pc' := 42) (wr := []) (st := []) Cx dX5_grey_39 rfl (c_X5_greyOf2 l D ty m o1 o2 go gt po pt my no so W H C nw nh (nI 0) hW hH hW1 hH1 h1 h3 O A hO hr b hb (W * j + i) (k_idx' hi hj)) gX5_grey_X5_greyOf rfl khd_X5_greyOf rfl ⟨rfl, rfl, Nat.le_of_ble_eq_true rfl, Nat.le_of_ble_eq_true rfl⟩ [0, 1] [] rfl rfl ⟨rfl, rfl⟩ (by decide) 0 rfl rfl rfl (Nat.le_of_ble_eq_true rfl) ⟨Nat.le_of_ble_eq_true rfl, Nat.le_of_ble_eq_true rfl⟩ (fun v u hpost => ?_)
  obtain ⟨r, rfl, rfl, rfl⟩ := hpost
  show J X [(m, .inr (5, [.int (nI W), .int (nI H), .int (nI C), .int (nI 0), .ref o1, .ref o2, .int (nI nw), .int (nI nh), .ref go, .ref gt, .ref po, .ref pt, .ref my, .ref no, .ref so])), (o2, .inl (ty 0, 1728, .inl (kN O)))] [(0, .ref m), (1, .int (b)), (2, .int (nI i)), (3, .int (nI j))] 42 [.int (nI (kg C A (W * j + i)))] 0 0
  exact j_iret Cx dX5_grey_42 R0 ⟨Nat.le_of_ble_eq_true rfl, Nat.le_of_ble_eq_true rfl⟩ (⟨_, rfl, by rw [Nat.mul_comm j W], rfl⟩)

set_option maxHeartbeats 4000000 in
set_option maxRecDepth 100000 in
theorem c_X5_grey_1 (l : Launch) (D : va_G) (ty : Nat → ClassId) (m o1 o2 go gt po pt my no so W H C : Nat) (nw nh : Nat) (fa : Int32) (hW : W ≤ 24) (hH : H ≤ 24) (hW1 : 1 ≤ W) (hH1 : 1 ≤ H) (h1 : 1 ≤ C) (h3 : C ≤ 3) (b x y : Int32) (hno : ¬ (kok x W ∧ kok y H)) : KM l yX5_grey wsX5_grey { frames := 2, cells := 0, slots := 0, locals := 80 } D ty [.ref m, .int (b), .int (x), .int (y)] [(m, .inr (5, [.int (nI W), .int (nI H), .int (nI C), .int (fa), .ref o1, .ref o2, .int (nI nw), .int (nI nh), .ref go, .ref gt, .ref po, .ref pt, .ref my, .ref no, .ref so]))] (kI (fun r u => r = nI 0 ∧ u = [(m, .inr (5, [.int (nI W), .int (nI H), .int (nI C), .int (nI 1), .ref o1, .ref o2, .int (nI nw), .int (nI nh), .ref go, .ref gt, .ref po, .ref pt, .ref my, .ref no, .ref so]))])) 0 0 := by
  refine KM.of (cc := cX5_grey) (maxL := 4) (ret := (some .int)) (lv := [(0, .ref m), (1, .int (b)), (2, .int (x)), (3, .int (y))]) (by decide +kernel) rfl rfl rfl (fun X C0 R0 => ?_)
  have Cx : kC X cX5_grey wsX5_grey RX5 { frames := 2, cells := 0, slots := 0, locals := 80 } "grey" l D ty 4 := C0
  refine j_aload_n (pc' := 1) Cx dX5_grey_0 rfl rfl rfl ?_
  refine j_aload_n (pc' := 2) Cx dX5_grey_1 rfl rfl rfl ?_
  refine j_iload_n (pc' := 3) Cx dX5_grey_2 rfl rfl rfl ?_
  refine j_iload_n (pc' := 4) Cx dX5_grey_3 rfl rfl rfl ?_
  refine j_callV (pc' := 7) (wr := []) (st := [.ref m]) Cx dX5_grey_4 rfl (c_X5_isPlace_no l D ty m o1 o2 go gt po pt my no so W H C nw nh fa hW hH hW1 hH1 h1 h3 x y hno) gX5_grey_X5_isPlace rfl khd_X5_isPlace rfl ⟨rfl, rfl, Nat.le_of_ble_eq_true rfl, Nat.le_of_ble_eq_true rfl⟩ [0] [] rfl rfl ⟨rfl, rfl⟩ (by decide) 0 rfl rfl rfl (Nat.le_of_ble_eq_true rfl) ⟨Nat.le_of_ble_eq_true rfl, Nat.le_of_ble_eq_true rfl⟩ (fun v u hpost => ?_)
  obtain ⟨r, rfl, rfl, rfl⟩ := hpost
  show J X [(m, .inr (5, [.int (nI W), .int (nI H), .int (nI C), .int (fa), .ref o1, .ref o2, .int (nI nw), .int (nI nh), .ref go, .ref gt, .ref po, .ref pt, .ref my, .ref no, .ref so]))] [(0, .ref m), (1, .int (b)), (2, .int (x)), (3, .int (y))] 7 [.int (nI 0), .ref m] 0 0
  refine j_if_eq_n (tgt := 14) (pc' := 10) Cx dX5_grey_7 (by decide) rfl (by omega) (fun _ => ?_) (fun hh => absurd hh (by decide))
  refine j_iconst (pc' := 15) (v := (nI 1)) Cx dX5_grey_14 rfl (by decide) ?_
  refine j_put (pc' := 18) (N := 15) (t := .int) (ws' := [(m, .inr (5, [.int (nI W), .int (nI H), .int (nI C), .int (nI 1), .ref o1, .ref o2, .int (nI nw), .int (nI nh), .ref go, .ref gt, .ref po, .ref pt, .ref my, .ref no, .ref so]))]) Cx dX5_grey_15 rfl kin_X5_grey_X5 kfl_X5_grey_48 tyX5_ok nmX5 0 rfl rfl 3 rfl rfl rfl rfl rfl rfl rfl ?_
  refine j_aload_n (pc' := 19) Cx dX5_grey_18 rfl rfl rfl ?_
  refine j_get (pc' := 22) (N := 15) Cx dX5_grey_19 rfl kin_X5_grey_X5 kfl_X5_grey_48 0 rfl rfl 3 rfl rfl rfl ?_
  refine j_if_le_n (tgt := 29) (pc' := 25) Cx dX5_grey_22 (by decide) rfl (by omega) (fun hh => absurd hh (by decide)) (fun _ => ?_)
  refine j_iconst (pc' := 26) (v := (nI 0)) Cx dX5_grey_25 rfl (by decide) ?_
  refine j_goto (tgt := 42) Cx dX5_grey_26 (by decide) ?_
  exact j_iret Cx dX5_grey_42 R0 ⟨Nat.le_of_ble_eq_true rfl, Nat.le_of_ble_eq_true rfl⟩ (⟨_, rfl, rfl, rfl⟩)

set_option maxHeartbeats 4000000 in
set_option maxRecDepth 100000 in
/-- makeGrey -/
theorem c_X5_makeGrey (l : Launch) (D : va_G) (ty : Nat → ClassId) (m o1 o2 go gt po pt my no so W H C : Nat) (nw nh : Nat) (fa : Int32) (hW : W ≤ 24) (hH : H ≤ 24) (hW1 : 1 ≤ W) (hH1 : 1 ≤ H) (h1 : 1 ≤ C) (h3 : C ≤ 3) (O T A B : Nat → Nat) (hO : ∀ i, O i < 256) (hT : ∀ i, T i < 256) (hrA : krel C (W * H) O A) (hrB : krel C (W * H) T B) (F G : Nat → Nat) : KM l yX5_makeGrey wsX5_makeGrey { frames := 2, cells := 0, slots := 0, locals := 60 } D ty [.ref m] [(m, .inr (5, [.int (nI W), .int (nI H), .int (nI C), .int (fa), .ref o1, .ref o2, .int (nI nw), .int (nI nh), .ref go, .ref gt, .ref po, .ref pt, .ref my, .ref no, .ref so])), (o1, .inl (ty 0, 1728, .inl (kN O))), (o2, .inl (ty 0, 1728, .inl (kN T))), (go, .inl (ty 0, 576, .inl (kN F))), (gt, .inl (ty 0, 576, .inl (kN G)))] (kV (fun u => u = [(m, .inr (5, [.int (nI W), .int (nI H), .int (nI C), .int (fa), .ref o1, .ref o2, .int (nI W), .int (nI H), .ref go, .ref gt, .ref po, .ref pt, .ref my, .ref no, .ref so])), (o1, .inl (ty 0, 1728, .inl (kN O))), (o2, .inl (ty 0, 1728, .inl (kN T))), (go, .inl (ty 0, 576, .inl (kN (kfill (kg C A) F (W * H))))), (gt, .inl (ty 0, 576, .inl (kN (kfill (kg C B) G (W * H)))))])) 0 0 := by
  refine KM.of (cc := cX5_makeGrey) (maxL := 2) (ret := none) (lv := [(0, .ref m)]) (by decide +kernel) rfl rfl rfl (fun X C0 R0 => ?_)
  have Cx : kC X cX5_makeGrey wsX5_makeGrey RX5 { frames := 2, cells := 0, slots := 0, locals := 60 } "makeGrey" l D ty 2 := C0
  have hwh := k_wh hW hH
  refine j_aload_n (pc' := 1) Cx dX5_makeGrey_0 rfl rfl rfl ?_
  refine j_aload_n (pc' := 2) Cx dX5_makeGrey_1 rfl rfl rfl ?_
  refine j_get (pc' := 5) (N := 15) Cx dX5_makeGrey_2 rfl kin_X5_makeGrey_X5 kfl_X5_makeGrey_38 0 rfl rfl 0 rfl rfl rfl ?_
  refine j_put (pc' := 8) (N := 15) (t := .int) (ws' := [(m, .inr (5, [.int (nI W), .int (nI H), .int (nI C), .int (fa), .ref o1, .ref o2, .int (nI W), .int (nI nh), .ref go, .ref gt, .ref po, .ref pt, .ref my, .ref no, .ref so])), (o1, .inl (ty 0, 1728, .inl (kN O))), (o2, .inl (ty 0, 1728, .inl (kN T))), (go, .inl (ty 0, 576, .inl (kN F))), (gt, .inl (ty 0, 576, .inl (kN G)))]) Cx dX5_makeGrey_5 rfl kin_X5_makeGrey_X5 kfl_X5_makeGrey_70 tyX5_ok nmX5 0 rfl rfl 6 rfl rfl rfl rfl rfl rfl rfl ?_
  refine j_aload_n (pc' := 9) Cx dX5_makeGrey_8 rfl rfl rfl ?_
  refine j_aload_n (pc' := 10) Cx dX5_makeGrey_9 rfl rfl rfl ?_
  refine j_get (pc' := 13) (N := 15) Cx dX5_makeGrey_10 rfl kin_X5_makeGrey_X5 kfl_X5_makeGrey_42 0 rfl rfl 1 rfl rfl rfl ?_
  refine j_put (pc' := 16) (N := 15) (t := .int) (ws' := [(m, .inr (5, [.int (nI W), .int (nI H), .int (nI C), .int (fa), .ref o1, .ref o2, .int (nI W), .int (nI H), .ref go, .ref gt, .ref po, .ref pt, .ref my, .ref no, .ref so])), (o1, .inl (ty 0, 1728, .inl (kN O))), (o2, .inl (ty 0, 1728, .inl (kN T))), (go, .inl (ty 0, 576, .inl (kN F))), (gt, .inl (ty 0, 576, .inl (kN G)))]) Cx dX5_makeGrey_13 rfl kin_X5_makeGrey_X5 kfl_X5_makeGrey_73 tyX5_ok nmX5 0 rfl rfl 7 rfl rfl rfl rfl rfl rfl rfl ?_
  refine j_iconst (pc' := 17) (v := (nI 0)) Cx dX5_makeGrey_16 rfl (by decide) ?_
  refine j_istore_n (pc' := 18) (lv' := [(0, .ref m), (1, .int (nI 0))]) Cx dX5_makeGrey_17 rfl rfl (by decide) rfl ?_
  have LP : ∀ (LP_n : Nat), ∀ (i : Nat), (W * H - i < LP_n) → (i ≤ W * H) → J X [(m, .inr (5, [.int (nI W), .int (nI H), .int (nI C), .int (fa), .ref o1, .ref o2, .int (nI W), .int (nI H), .ref go, .ref gt, .ref po, .ref pt, .ref my, .ref no, .ref so])), (o1, .inl (ty 0, 1728, .inl (kN O))), (o2, .inl (ty 0, 1728, .inl (kN T))), (go, .inl (ty 0, 576, .inl (kN (kfill (kg C A) F i)))), (gt, .inl (ty 0, 576, .inl (kN (kfill (kg C B) G i))))] [(0, .ref m), (1, .int (nI i))] 18 [] 0 0 := by
    intro LP_n
    induction LP_n with
    | zero =>
      intro i hms _
      exact absurd hms (Nat.not_lt_zero _)
    | succ LP_n LP_ih =>
      intro i LP_m hle
      refine j_iload_n (pc' := 19) Cx dX5_makeGrey_18 rfl rfl rfl ?_
      refine j_aload_n (pc' := 20) Cx dX5_makeGrey_19 rfl rfl rfl ?_
      refine j_callV (pc' := 23) (wr := [(o1, .inl (ty 0, 1728, .inl (kN O))), (o2, .inl (ty 0, 1728, .inl (kN T))), (go, .inl (ty 0, 576, .inl (kN (kfill (kg C A) F i)))), (gt, .inl (ty 0, 576, .inl (kN (kfill (kg C B) G i))))]) (st := [.int (nI i)]) Cx dX5_makeGrey_20 rfl (c_X5_places l D ty m o1 o2 go gt po pt my no so W H C W H fa) gX5_makeGrey_X5_places rfl khd_X5_places rfl ⟨rfl, rfl, Nat.le_of_ble_eq_true rfl, Nat.le_of_ble_eq_true rfl⟩ [0] [1, 2, 3, 4] rfl rfl ⟨rfl, rfl⟩ (by decide) 0 rfl rfl rfl (Nat.le_of_ble_eq_true rfl) ⟨Nat.le_of_ble_eq_true rfl, Nat.le_of_ble_eq_true rfl⟩ (fun v u hpost => ?_)
      obtain ⟨r, rfl, rfl, rfl⟩ := hpost
      show J X [(o1, .inl (ty 0, 1728, .inl (kN O))), (o2, .inl (ty 0, 1728, .inl (kN T))), (go, .inl (ty 0, 576, .inl (kN (kfill (kg C A) F i)))), (gt, .inl (ty 0, 576, .inl (kN (kfill (kg C B) G i)))), (m, .inr (5, [.int (nI W), .int (nI H), .int (nI C), .int (fa), .ref o1, .ref o2, .int (nI W), .int (nI H), .ref go, .ref gt, .ref po, .ref pt, .ref my, .ref no, .ref so]))] [(0, .ref m), (1, .int (nI i))] 23 [.int (nI (W * H)), .int (nI i)] 0 0
      refine J.sub (ws' := [(m, .inr (5, [.int (nI W), .int (nI H), .int (nI C), .int (fa), .ref o1, .ref o2, .int (nI W), .int (nI H), .ref go, .ref gt, .ref po, .ref pt, .ref my, .ref no, .ref so])), (o1, .inl (ty 0, 1728, .inl (kN O))), (o2, .inl (ty 0, 1728, .inl (kN T))), (go, .inl (ty 0, 576, .inl (kN (kfill (kg C A) F i)))), (gt, .inl (ty 0, 576, .inl (kN (kfill (kg C B) G i))))]) [4, 0, 1, 2, 3] rfl rfl ?_
      refine j_icmp_ge_n (tgt := 56) (pc' := 26) Cx dX5_makeGrey_23 (by decide) rfl (by omega) (by omega) (fun hi => ?_) (fun hi => ?_)
      · have e : i = W * H := by omega
        subst e
        exact j_vret Cx dX5_makeGrey_56 R0 ⟨Nat.le_of_ble_eq_true rfl, Nat.le_of_ble_eq_true rfl⟩ (⟨rfl, rfl⟩)
      · refine j_aload_n (pc' := 27) Cx dX5_makeGrey_26 rfl rfl rfl ?_
        refine j_get (pc' := 30) (N := 15) Cx dX5_makeGrey_27 rfl kin_X5_makeGrey_X5 kfl_X5_makeGrey_16 0 rfl rfl 8 rfl rfl rfl ?_
        refine j_iload_n (pc' := 31) Cx dX5_makeGrey_30 rfl rfl rfl ?_
        refine j_aload_n (pc' := 32) Cx dX5_makeGrey_31 rfl rfl rfl ?_
        refine j_iconst (pc' := 33) (v := (nI 1)) Cx dX5_makeGrey_32 rfl (by decide) ?_
        refine j_iload_n (pc' := 34) Cx dX5_makeGrey_33 rfl rfl rfl ?_
        refine j_callV (pc' := 37) (wr := [(o2, .inl (ty 0, 1728, .inl (kN T))), (go, .inl (ty 0, 576, .inl (kN (kfill (kg C A) F i)))), (gt, .inl (ty 0, 576, .inl (kN (kfill (kg C B) G i))))]) (st := [.int (nI i), .ref go]) Cx dX5_makeGrey_34 rfl (c_X5_greyOf1 l D ty m o1 o2 go gt po pt my no so W H C W H fa hW hH hW1 hH1 h1 h3 O A hO hrA (nI 1) (by decide) i hi) gX5_makeGrey_X5_greyOf rfl khd_X5_greyOf rfl ⟨rfl, rfl, Nat.le_of_ble_eq_true rfl, Nat.le_of_ble_eq_true rfl⟩ [0, 1] [2, 3, 4] rfl rfl ⟨rfl, rfl⟩ (by decide) 0 rfl rfl rfl (Nat.le_of_ble_eq_true rfl) ⟨Nat.le_of_ble_eq_true rfl, Nat.le_of_ble_eq_true rfl⟩ (fun v u hpost => ?_)
        obtain ⟨r, rfl, rfl, rfl⟩ := hpost
        show J X [(o2, .inl (ty 0, 1728, .inl (kN T))), (go, .inl (ty 0, 576, .inl (kN (kfill (kg C A) F i)))), (gt, .inl (ty 0, 576, .inl (kN (kfill (kg C B) G i)))), (m, .inr (5, [.int (nI W), .int (nI H), .int (nI C), .int (fa), .ref o1, .ref o2, .int (nI W), .int (nI H), .ref go, .ref gt, .ref po, .ref pt, .ref my, .ref no, .ref so])), (o1, .inl (ty 0, 1728, .inl (kN O)))] [(0, .ref m), (1, .int (nI i))] 37 [.int (nI (kg C A i)), .int (nI i), .ref go] 0 0
        refine J.sub (ws' := [(m, .inr (5, [.int (nI W), .int (nI H), .int (nI C), .int (fa), .ref o1, .ref o2, .int (nI W), .int (nI H), .ref go, .ref gt, .ref po, .ref pt, .ref my, .ref no, .ref so])), (o1, .inl (ty 0, 1728, .inl (kN O))), (o2, .inl (ty 0, 1728, .inl (kN T))), (go, .inl (ty 0, 576, .inl (kN (kfill (kg C A) F i)))), (gt, .inl (ty 0, 576, .inl (kN (kfill (kg C B) G i))))]) [3, 4, 0, 1, 2] rfl rfl ?_
        refine j_iastore_nn (pc' := 38) (ws' := [(m, .inr (5, [.int (nI W), .int (nI H), .int (nI C), .int (fa), .ref o1, .ref o2, .int (nI W), .int (nI H), .ref go, .ref gt, .ref po, .ref pt, .ref my, .ref no, .ref so])), (o1, .inl (ty 0, 1728, .inl (kN O))), (o2, .inl (ty 0, 1728, .inl (kN T))), (go, .inl (ty 0, 576, .inl (kN (va_up (kfill (kg C A) F i) i (kg C A i))))), (gt, .inl (ty 0, 576, .inl (kN (kfill (kg C B) G i))))]) Cx dX5_makeGrey_37 rfl 3 rfl (by omega) (by omega) rfl ?_
        refine j_aload_n (pc' := 39) Cx dX5_makeGrey_38 rfl rfl rfl ?_
        refine j_get (pc' := 42) (N := 15) Cx dX5_makeGrey_39 rfl kin_X5_makeGrey_X5 kfl_X5_makeGrey_19 0 rfl rfl 9 rfl rfl rfl ?_
        refine j_iload_n (pc' := 43) Cx dX5_makeGrey_42 rfl rfl rfl ?_
        refine j_aload_n (pc' := 44) Cx dX5_makeGrey_43 rfl rfl rfl ?_
        refine j_iconst (pc' := 45) (v := (nI 0)) Cx dX5_makeGrey_44 rfl (by decide) ?_
        refine j_iload_n (pc' := 46) Cx dX5_makeGrey_45 rfl rfl rfl ?_
        refine j_callV (pc' := 49) (wr := [(o1, .inl (ty 0, 1728, .inl (kN O))), (go, .inl (ty 0, 576, .inl (kN (va_up (kfill (kg C A) F i) i (kg C A i))))), (gt, .inl (ty 0, 576, .inl (kN (kfill (kg C B) G i))))]) (st := [.int (nI i), .ref gt]) Cx dX5_makeGrey_46 rfl (c_X5_greyOf2 l D ty m o1 o2 go gt po pt my no so W H C W H fa hW hH hW1 hH1 h1 h3 T B hT hrB (nI 0) rfl i hi) gX5_makeGrey_X5_greyOf rfl khd_X5_greyOf rfl ⟨rfl, rfl, Nat.le_of_ble_eq_true rfl, Nat.le_of_ble_eq_true rfl⟩ [0, 2] [1, 3, 4] rfl rfl ⟨rfl, rfl⟩ (by decide) 0 rfl rfl rfl (Nat.le_of_ble_eq_true rfl) ⟨Nat.le_of_ble_eq_true rfl, Nat.le_of_ble_eq_true rfl⟩ (fun v u hpost => ?_)
        obtain ⟨r, rfl, rfl, rfl⟩ := hpost
        show J X [(o1, .inl (ty 0, 1728, .inl (kN O))), (go, .inl (ty 0, 576, .inl (kN (va_up (kfill (kg C A) F i) i (kg C A i))))), (gt, .inl (ty 0, 576, .inl (kN (kfill (kg C B) G i)))), (m, .inr (5, [.int (nI W), .int (nI H), .int (nI C), .int (fa), .ref o1, .ref o2, .int (nI W), .int (nI H), .ref go, .ref gt, .ref po, .ref pt, .ref my, .ref no, .ref so])), (o2, .inl (ty 0, 1728, .inl (kN T)))] [(0, .ref m), (1, .int (nI i))] 49 [.int (nI (kg C B i)), .int (nI i), .ref gt] 0 0
        refine J.sub (ws' := [(m, .inr (5, [.int (nI W), .int (nI H), .int (nI C), .int (fa), .ref o1, .ref o2, .int (nI W), .int (nI H), .ref go, .ref gt, .ref po, .ref pt, .ref my, .ref no, .ref so])), (o1, .inl (ty 0, 1728, .inl (kN O))), (o2, .inl (ty 0, 1728, .inl (kN T))), (go, .inl (ty 0, 576, .inl (kN (va_up (kfill (kg C A) F i) i (kg C A i))))), (gt, .inl (ty 0, 576, .inl (kN (kfill (kg C B) G i))))]) [3, 0, 4, 1, 2] rfl rfl ?_
        refine j_iastore_nn (pc' := 50) (ws' := [(m, .inr (5, [.int (nI W), .int (nI H), .int (nI C), .int (fa), .ref o1, .ref o2, .int (nI W), .int (nI H), .ref go, .ref gt, .ref po, .ref pt, .ref my, .ref no, .ref so])), (o1, .inl (ty 0, 1728, .inl (kN O))), (o2, .inl (ty 0, 1728, .inl (kN T))), (go, .inl (ty 0, 576, .inl (kN (va_up (kfill (kg C A) F i) i (kg C A i))))), (gt, .inl (ty 0, 576, .inl (kN (va_up (kfill (kg C B) G i) i (kg C B i)))))]) Cx dX5_makeGrey_49 rfl 4 rfl (by omega) (by omega) rfl ?_
        refine j_iinc_n (pc' := 53) (z := 1) (a := i) (lv' := [(0, .ref m), (1, .int (nI (i + 1)))]) Cx dX5_makeGrey_50 rfl rfl (by decide) rfl ?_
        refine j_goto (tgt := 18) Cx dX5_makeGrey_53 (by decide) ?_
        refine J.cast (ws' := [(m, .inr (5, [.int (nI W), .int (nI H), .int (nI C), .int (fa), .ref o1, .ref o2, .int (nI W), .int (nI H), .ref go, .ref gt, .ref po, .ref pt, .ref my, .ref no, .ref so])), (o1, .inl (ty 0, 1728, .inl (kN O))), (o2, .inl (ty 0, 1728, .inl (kN T))), (go, .inl (ty 0, 576, .inl (kN (kfill (kg C A) F (i + 1))))), (gt, .inl (ty 0, 576, .inl (kN (kfill (kg C B) G (i + 1)))))]) (lv' := [(0, .ref m), (1, .int (nI (i + 1)))]) (pc' := 18) (st' := []) (by rw [kfill_up (kg C A), kfill_up (kg C B)]) (rfl) rfl (rfl) rfl rfl ?_
        exact LP_ih (i + 1) (by omega) (by omega)
  refine J.cast (ws' := [(m, .inr (5, [.int (nI W), .int (nI H), .int (nI C), .int (fa), .ref o1, .ref o2, .int (nI W), .int (nI H), .ref go, .ref gt, .ref po, .ref pt, .ref my, .ref no, .ref so])), (o1, .inl (ty 0, 1728, .inl (kN O))), (o2, .inl (ty 0, 1728, .inl (kN T))), (go, .inl (ty 0, 576, .inl (kN (kfill (kg C A) F 0)))), (gt, .inl (ty 0, 576, .inl (kN (kfill (kg C B) G 0))))]) (lv' := [(0, .ref m), (1, .int (nI 0))]) (pc' := 18) (st' := []) (by rw [kfill_0, kfill_0]) (rfl) rfl (rfl) rfl rfl ?_
  exact LP (W * H + 1) 0 (by omega) (Nat.zero_le _)

set_option maxHeartbeats 4000000 in
set_option maxRecDepth 100000 in
/-- halve, of the other one -/
theorem c_X5_halve (l : Launch) (D : va_G) (ty : Nat → ClassId) (m o1 o2 go gt po pt my no so W H C : Nat) (nw nh : Nat) (fa : Int32) (hW : W ≤ 24) (hH : H ≤ 24) (hW1 : 1 ≤ W) (hH1 : 1 ≤ H) (h1 : 1 ≤ C) (h3 : C ≤ 3) (F G : Nat → Nat) (hF : ∀ i, F i < 256) (hG : ∀ i, G i < 256) (hnw : nw ≤ 24) (hnh : nh ≤ 24) : KM l yX5_halve wsX5_halve { frames := 0, cells := 0, slots := 0, locals := 0 } D ty [.ref m] [(m, .inr (5, [.int (nI W), .int (nI H), .int (nI C), .int (fa), .ref o1, .ref o2, .int (nI nw), .int (nI nh), .ref go, .ref gt, .ref po, .ref pt, .ref my, .ref no, .ref so])), (go, .inl (ty 0, 576, .inl (kN F))), (gt, .inl (ty 0, 576, .inl (kN G)))] (kV (fun u => u = [(m, .inr (5, [.int (nI W), .int (nI H), .int (nI C), .int (fa), .ref o1, .ref o2, .int (nI (nw / 2)), .int (nI (nh / 2)), .ref go, .ref gt, .ref po, .ref pt, .ref my, .ref no, .ref so])), (go, .inl (ty 0, 576, .inl (kN (khalf nw nh F)))), (gt, .inl (ty 0, 576, .inl (kN (khalf nw nh G))))])) 0 0 := by
  refine KM.of (cc := cX5_halve) (maxL := 6) (ret := none) (lv := [(0, .ref m)]) (by decide +kernel) rfl rfl rfl (fun X C0 R0 => ?_)
  have Cx : kC X cX5_halve wsX5_halve RX5 { frames := 0, cells := 0, slots := 0, locals := 0 } "halve" l D ty 6 := C0
  have hnn : nw * nh ≤ 576 := k_wh hnw hnh
  refine j_aload_n (pc' := 1) Cx dX5_halve_0 rfl rfl rfl ?_
  refine j_get (pc' := 4) (N := 15) Cx dX5_halve_1 rfl kin_X5_halve_X5 kfl_X5_halve_70 0 rfl rfl 6 rfl rfl rfl ?_
  refine j_iconst (pc' := 5) (v := (nI 2)) Cx dX5_halve_4 rfl (by decide) ?_
  refine j_idiv_n (pc' := 6) Cx dX5_halve_5 rfl (by omega) (by omega) (by omega) ?_
  refine j_istore_n (pc' := 7) (lv' := [(0, .ref m), (1, .int (nI (nw / 2)))]) Cx dX5_halve_6 rfl rfl (by decide) rfl ?_
  refine j_aload_n (pc' := 8) Cx dX5_halve_7 rfl rfl rfl ?_
  refine j_get (pc' := 11) (N := 15) Cx dX5_halve_8 rfl kin_X5_halve_X5 kfl_X5_halve_73 0 rfl rfl 7 rfl rfl rfl ?_
  refine j_iconst (pc' := 12) (v := (nI 2)) Cx dX5_halve_11 rfl (by decide) ?_
  refine j_idiv_n (pc' := 13) Cx dX5_halve_12 rfl (by omega) (by omega) (by omega) ?_
  refine j_istore_n (pc' := 14) (lv' := [(0, .ref m), (1, .int (nI (nw / 2))), (2, .int (nI (nh / 2)))]) Cx dX5_halve_13 rfl rfl (by decide) rfl ?_
  refine j_iconst (pc' := 15) (v := (nI 0)) Cx dX5_halve_14 rfl (by decide) ?_
  refine j_istore_n (pc' := 16) (lv' := [(0, .ref m), (1, .int (nI (nw / 2))), (2, .int (nI (nh / 2))), (3, .int (nI 0))]) Cx dX5_halve_15 rfl rfl (by decide) rfl ?_
  have LP : ∀ (LP_n : Nat), ∀ (y : Nat), (nh / 2 - y < LP_n) → (y ≤ nh / 2) → J X [(m, .inr (5, [.int (nI W), .int (nI H), .int (nI C), .int (fa), .ref o1, .ref o2, .int (nI nw), .int (nI nh), .ref go, .ref gt, .ref po, .ref pt, .ref my, .ref no, .ref so])), (go, .inl (ty 0, 576, .inl (kN (kshy nw (nw / 2) y F)))), (gt, .inl (ty 0, 576, .inl (kN (kshy nw (nw / 2) y G))))] [(0, .ref m), (1, .int (nI (nw / 2))), (2, .int (nI (nh / 2))), (3, .int (nI y))] 16 [] 0 0 := by
    intro LP_n
    induction LP_n with
    | zero =>
      intro y hms _
      exact absurd hms (Nat.not_lt_zero _)
    | succ LP_n LP_ih =>
      intro y LP_m hle
      have hK := kshy_lt (w := nw) (hw := nw / 2) hF y
      have hK2 := kshy_lt (w := nw) (hw := nw / 2) hG y
      refine j_iload_n (pc' := 17) Cx dX5_halve_16 rfl rfl rfl ?_
      refine j_iload_n (pc' := 18) Cx dX5_halve_17 rfl rfl rfl ?_
      refine j_icmp_ge_n (tgt := 177) (pc' := 21) Cx dX5_halve_18 (by decide) rfl (by omega) (by omega) (fun hy => ?_) (fun hy => ?_)
      · have e : y = nh / 2 := by omega
        subst e
        refine j_aload_n (pc' := 178) Cx dX5_halve_177 rfl rfl rfl ?_
        refine j_iload_n (pc' := 179) Cx dX5_halve_178 rfl rfl rfl ?_
        refine j_put (pc' := 182) (N := 15) (t := .int) (ws' := [(m, .inr (5, [.int (nI W), .int (nI H), .int (nI C), .int (fa), .ref o1, .ref o2, .int (nI (nw / 2)), .int (nI nh), .ref go, .ref gt, .ref po, .ref pt, .ref my, .ref no, .ref so])), (go, .inl (ty 0, 576, .inl (kN (kshy nw (nw / 2) (nh / 2) F)))), (gt, .inl (ty 0, 576, .inl (kN (kshy nw (nw / 2) (nh / 2) G))))]) Cx dX5_halve_179 rfl kin_X5_halve_X5 kfl_X5_halve_70 tyX5_ok nmX5 0 rfl rfl 6 rfl rfl rfl rfl rfl rfl rfl ?_
        refine j_aload_n (pc' := 183) Cx dX5_halve_182 rfl rfl rfl ?_
        refine j_iload_n (pc' := 184) Cx dX5_halve_183 rfl rfl rfl ?_
        refine j_put (pc' := 187) (N := 15) (t := .int) (ws' := [(m, .inr (5, [.int (nI W), .int (nI H), .int (nI C), .int (fa), .ref o1, .ref o2, .int (nI (nw / 2)), .int (nI (nh / 2)), .ref go, .ref gt, .ref po, .ref pt, .ref my, .ref no, .ref so])), (go, .inl (ty 0, 576, .inl (kN (kshy nw (nw / 2) (nh / 2) F)))), (gt, .inl (ty 0, 576, .inl (kN (kshy nw (nw / 2) (nh / 2) G))))]) Cx dX5_halve_184 rfl kin_X5_halve_X5 kfl_X5_halve_73 tyX5_ok nmX5 0 rfl rfl 7 rfl rfl rfl rfl rfl rfl rfl ?_
        exact j_vret Cx dX5_halve_187 R0 ⟨Nat.le_of_ble_eq_true rfl, Nat.le_of_ble_eq_true rfl⟩ (⟨rfl, rfl⟩)
      · refine j_iconst (pc' := 22) (v := (nI 0)) Cx dX5_halve_21 rfl (by decide) ?_
        refine j_istore (pc' := 24) (lv' := [(0, .ref m), (1, .int (nI (nw / 2))), (2, .int (nI (nh / 2))), (3, .int (nI y)), (4, .int (nI 0))]) Cx dX5_halve_22 rfl (by decide) rfl ?_
        have g1 : (2 * y + 2) * nw ≤ nh * nw := Nat.mul_le_mul_right nw (by omega)
        rw [Nat.add_mul, Nat.mul_comm nh nw] at g1
        have g2 : y * (nw / 2) ≤ y * nw := Nat.mul_le_mul_left y (Nat.div_le_self _ _)
        have g3 : 2 * y * nw = 2 * (y * nw) := Nat.mul_assoc 2 y nw
        have LQ : ∀ (LQ_n : Nat), ∀ (x : Nat), (nw / 2 - x < LQ_n) → (x ≤ nw / 2) → J X [(m, .inr (5, [.int (nI W), .int (nI H), .int (nI C), .int (fa), .ref o1, .ref o2, .int (nI nw), .int (nI nh), .ref go, .ref gt, .ref po, .ref pt, .ref my, .ref no, .ref so])), (go, .inl (ty 0, 576, .inl (kN (kshx nw (nw / 2) y x (kshy nw (nw / 2) y F))))), (gt, .inl (ty 0, 576, .inl (kN (kshx nw (nw / 2) y x (kshy nw (nw / 2) y G)))))] [(0, .ref m), (1, .int (nI (nw / 2))), (2, .int (nI (nh / 2))), (3, .int (nI y)), (4, .int (nI x))] 24 [] 0 0 := by
          intro LQ_n
          induction LQ_n with
          | zero =>
            intro x hms _
            exact absurd hms (Nat.not_lt_zero _)
          | succ LQ_n LQ_ih =>
            intro x LQ_m hlx
            have hQ := kshx_lt (w := nw) (hw := nw / 2) (y := y) hK x
            have hQ2 := kshx_lt (w := nw) (hw := nw / 2) (y := y) hK2 x
            refine j_iload (pc' := 26) Cx dX5_halve_24 rfl rfl ?_
            refine j_iload_n (pc' := 27) Cx dX5_halve_26 rfl rfl rfl ?_
            refine j_icmp_ge_n (tgt := 171) (pc' := 30) Cx dX5_halve_27 (by decide) rfl (by omega) (by omega) (fun hx => ?_) (fun hx => ?_)
            · have e : x = nw / 2 := by omega
              subst e
              refine j_iinc_n (pc' := 174) (z := 1) (a := y) (lv' := [(0, .ref m), (1, .int (nI (nw / 2))), (2, .int (nI (nh / 2))), (3, .int (nI (y + 1))), (4, .int (nI (nw / 2)))]) Cx dX5_halve_171 rfl rfl (by decide) rfl ?_
              refine j_goto (tgt := 16) Cx dX5_halve_174 (by decide) ?_
              refine J.lvs (lv' := [(0, .ref m), (1, .int (nI (nw / 2))), (2, .int (nI (nh / 2))), (3, .int (nI (y + 1)))]) [0, 1, 2, 3] rfl ?_
              refine J.cast (ws' := [(m, .inr (5, [.int (nI W), .int (nI H), .int (nI C), .int (fa), .ref o1, .ref o2, .int (nI nw), .int (nI nh), .ref go, .ref gt, .ref po, .ref pt, .ref my, .ref no, .ref so])), (go, .inl (ty 0, 576, .inl (kN (kshy nw (nw / 2) (y + 1) F)))), (gt, .inl (ty 0, 576, .inl (kN (kshy nw (nw / 2) (y + 1) G))))]) (lv' := [(0, .ref m), (1, .int (nI (nw / 2))), (2, .int (nI (nh / 2))), (3, .int (nI (y + 1)))]) (pc' := 16) (st' := []) (rfl) (rfl) rfl (rfl) rfl rfl ?_
              exact LP_ih (y + 1) (by omega) (by omega)
            · refine j_iconst (pc' := 31) (v := (nI 2)) Cx dX5_halve_30 rfl (by decide) ?_
              refine j_aload_n (pc' := 32) Cx dX5_halve_31 rfl rfl rfl ?_
              refine j_get (pc' := 35) (N := 15) Cx dX5_halve_32 rfl kin_X5_halve_X5 kfl_X5_halve_70 0 rfl rfl 6 rfl rfl rfl ?_
              refine j_imul_n (pc' := 36) Cx dX5_halve_35 rfl ?_
              refine j_iload_n (pc' := 37) Cx dX5_halve_36 rfl rfl rfl ?_
              refine j_imul_n (pc' := 38) Cx dX5_halve_37 rfl ?_
              refine j_top (v' := .int (nI (2 * y * nw))) (congrArg (fun z : Nat => Value.int (nI z)) (show (2 * nw) * y = 2 * y * nw from by rw [Nat.mul_assoc, Nat.mul_comm nw y, ← Nat.mul_assoc])) ?_
              have q0 := hQ (2 * y * nw + 2 * x )
              have q1 := hQ (2 * y * nw + 2 * x + 1)
              have q2 := hQ (2 * y * nw + 2 * x + nw)
              have q3 := hQ (2 * y * nw + 2 * x + nw + 1)
              have r0 := hQ2 (2 * y * nw + 2 * x )
              have r1 := hQ2 (2 * y * nw + 2 * x + 1)
              have r2 := hQ2 (2 * y * nw + 2 * x + nw)
              have r3 := hQ2 (2 * y * nw + 2 * x + nw + 1)
              refine j_iconst (pc' := 39) (v := (nI 2)) Cx dX5_halve_38 rfl (by decide) ?_
              refine j_iload (pc' := 41) Cx dX5_halve_39 rfl rfl ?_
              refine j_imul_n (pc' := 42) Cx dX5_halve_41 rfl ?_
              refine j_iadd_n (pc' := 43) Cx dX5_halve_42 rfl ?_
              refine j_istore (pc' := 45) (lv' := [(0, .ref m), (1, .int (nI (nw / 2))), (2, .int (nI (nh / 2))), (3, .int (nI y)), (4, .int (nI x)), (5, .int (nI ((2 * y * nw) + (2 * x))))]) Cx dX5_halve_43 rfl (by decide) rfl ?_
              refine j_aload_n (pc' := 46) Cx dX5_halve_45 rfl rfl rfl ?_
              refine j_get (pc' := 49) (N := 15) Cx dX5_halve_46 rfl kin_X5_halve_X5 kfl_X5_halve_16 0 rfl rfl 8 rfl rfl rfl ?_
              refine j_iload_n (pc' := 50) Cx dX5_halve_49 rfl rfl rfl ?_
              refine j_iload_n (pc' := 51) Cx dX5_halve_50 rfl rfl rfl ?_
              refine j_imul_n (pc' := 52) Cx dX5_halve_51 rfl ?_
              refine j_top (v' := .int (nI (y * (nw / 2)))) (congrArg (fun z : Nat => Value.int (nI z)) (show (nw / 2) * y = y * (nw / 2) from Nat.mul_comm _ _)) ?_
              refine j_iload (pc' := 54) Cx dX5_halve_52 rfl rfl ?_
              refine j_iadd_n (pc' := 55) Cx dX5_halve_54 rfl ?_
              refine j_aload_n (pc' := 56) Cx dX5_halve_55 rfl rfl rfl ?_
              refine j_get (pc' := 59) (N := 15) Cx dX5_halve_56 rfl kin_X5_halve_X5 kfl_X5_halve_16 0 rfl rfl 8 rfl rfl rfl ?_
              refine j_iload (pc' := 61) Cx dX5_halve_59 rfl rfl ?_
              refine j_iaload_nn (pc' := 62) Cx dX5_halve_61 rfl 1 rfl (by omega) (by omega) ?_
              refine j_aload_n (pc' := 63) Cx dX5_halve_62 rfl rfl rfl ?_
              refine j_get (pc' := 66) (N := 15) Cx dX5_halve_63 rfl kin_X5_halve_X5 kfl_X5_halve_16 0 rfl rfl 8 rfl rfl rfl ?_
              refine j_iload (pc' := 68) Cx dX5_halve_66 rfl rfl ?_
              refine j_iconst (pc' := 69) (v := (nI 1)) Cx dX5_halve_68 rfl (by decide) ?_
              refine j_iadd_n (pc' := 70) Cx dX5_halve_69 rfl ?_
              refine j_iaload_nn (pc' := 71) Cx dX5_halve_70 rfl 1 rfl (by omega) (by omega) ?_
              refine j_iadd_n (pc' := 72) Cx dX5_halve_71 rfl ?_
              refine j_aload_n (pc' := 73) Cx dX5_halve_72 rfl rfl rfl ?_
              refine j_get (pc' := 76) (N := 15) Cx dX5_halve_73 rfl kin_X5_halve_X5 kfl_X5_halve_16 0 rfl rfl 8 rfl rfl rfl ?_
              refine j_iload (pc' := 78) Cx dX5_halve_76 rfl rfl ?_
              refine j_aload_n (pc' := 79) Cx dX5_halve_78 rfl rfl rfl ?_
              refine j_get (pc' := 82) (N := 15) Cx dX5_halve_79 rfl kin_X5_halve_X5 kfl_X5_halve_70 0 rfl rfl 6 rfl rfl rfl ?_
              refine j_iadd_n (pc' := 83) Cx dX5_halve_82 rfl ?_
              refine j_iaload_nn (pc' := 84) Cx dX5_halve_83 rfl 1 rfl (by omega) (by omega) ?_
              refine j_iadd_n (pc' := 85) Cx dX5_halve_84 rfl ?_
              refine j_aload_n (pc' := 86) Cx dX5_halve_85 rfl rfl rfl ?_
              refine j_get (pc' := 89) (N := 15) Cx dX5_halve_86 rfl kin_X5_halve_X5 kfl_X5_halve_16 0 rfl rfl 8 rfl rfl rfl ?_
              refine j_iload (pc' := 91) Cx dX5_halve_89 rfl rfl ?_
              refine j_aload_n (pc' := 92) Cx dX5_halve_91 rfl rfl rfl ?_
              refine j_get (pc' := 95) (N := 15) Cx dX5_halve_92 rfl kin_X5_halve_X5 kfl_X5_halve_70 0 rfl rfl 6 rfl rfl rfl ?_
              refine j_iadd_n (pc' := 96) Cx dX5_halve_95 rfl ?_
              refine j_iconst (pc' := 97) (v := (nI 1)) Cx dX5_halve_96 rfl (by decide) ?_
              refine j_iadd_n (pc' := 98) Cx dX5_halve_97 rfl ?_
              refine j_iaload_nn (pc' := 99) Cx dX5_halve_98 rfl 1 rfl (by omega) (by omega) ?_
              refine j_iadd_n (pc' := 100) Cx dX5_halve_99 rfl ?_
              refine j_iconst (pc' := 101) (v := (nI 2)) Cx dX5_halve_100 rfl (by decide) ?_
              refine j_iadd_n (pc' := 102) Cx dX5_halve_101 rfl ?_
              refine j_iconst (pc' := 103) (v := (nI 4)) Cx dX5_halve_102 rfl (by decide) ?_
              refine j_idiv_n (pc' := 104) Cx dX5_halve_103 rfl (by omega) (by decide) (by decide) ?_
              refine j_iastore_nn (pc' := 105) (ws' := [(m, .inr (5, [.int (nI W), .int (nI H), .int (nI C), .int (fa), .ref o1, .ref o2, .int (nI nw), .int (nI nh), .ref go, .ref gt, .ref po, .ref pt, .ref my, .ref no, .ref so])), (go, .inl (ty 0, 576, .inl (kN (va_up (kshx nw (nw / 2) y x (kshy nw (nw / 2) y F)) ((y * (nw / 2)) + x) (((((((kshx nw (nw / 2) y x (kshy nw (nw / 2) y F)) ((2 * y * nw) + (2 * x))) + ((kshx nw (nw / 2) y x (kshy nw (nw / 2) y F)) (((2 * y * nw) + (2 * x)) + 1))) + ((kshx nw (nw / 2) y x (kshy nw (nw / 2) y F)) (((2 * y * nw) + (2 * x)) + nw))) + ((kshx nw (nw / 2) y x (kshy nw (nw / 2) y F)) ((((2 * y * nw) + (2 * x)) + nw) + 1))) + 2) / 4))))), (gt, .inl (ty 0, 576, .inl (kN (kshx nw (nw / 2) y x (kshy nw (nw / 2) y G)))))]) Cx dX5_halve_104 rfl 1 rfl (by omega) (by omega) rfl ?_
              refine j_aload_n (pc' := 106) Cx dX5_halve_105 rfl rfl rfl ?_
              refine j_get (pc' := 109) (N := 15) Cx dX5_halve_106 rfl kin_X5_halve_X5 kfl_X5_halve_19 0 rfl rfl 9 rfl rfl rfl ?_
              refine j_iload_n (pc' := 110) Cx dX5_halve_109 rfl rfl rfl ?_
              refine j_iload_n (pc' := 111) Cx dX5_halve_110 rfl rfl rfl ?_
              refine j_imul_n (pc' := 112) Cx dX5_halve_111 rfl ?_
              refine j_top (v' := .int (nI (y * (nw / 2)))) (congrArg (fun z : Nat => Value.int (nI z)) (show (nw / 2) * y = y * (nw / 2) from Nat.mul_comm _ _)) ?_
              refine j_iload (pc' := 114) Cx dX5_halve_112 rfl rfl ?_
              refine j_iadd_n (pc' := 115) Cx dX5_halve_114 rfl ?_
              refine j_aload_n (pc' := 116) Cx dX5_halve_115 rfl rfl rfl ?_
              refine j_get (pc' := 119) (N := 15) Cx dX5_halve_116 rfl kin_X5_halve_X5 kfl_X5_halve_19 0 rfl rfl 9 rfl rfl rfl ?_
              refine j_iload (pc' := 121) Cx dX5_halve_119 rfl rfl ?_
              refine j_iaload_nn (pc' := 122) Cx dX5_halve_121 rfl 2 rfl (by omega) (by omega) ?_
              refine j_aload_n (pc' := 123) Cx dX5_halve_122 rfl rfl rfl ?_
              refine j_get (pc' := 126) (N := 15) Cx dX5_halve_123 rfl kin_X5_halve_X5 kfl_X5_halve_19 0 rfl rfl 9 rfl rfl rfl ?_
              refine j_iload (pc' := 128) Cx dX5_halve_126 rfl rfl ?_
              refine j_iconst (pc' := 129) (v := (nI 1)) Cx dX5_halve_128 rfl (by decide) ?_
              refine j_iadd_n (pc' := 130) Cx dX5_halve_129 rfl ?_
              refine j_iaload_nn (pc' := 131) Cx dX5_halve_130 rfl 2 rfl (by omega) (by omega) ?_
              refine j_iadd_n (pc' := 132) Cx dX5_halve_131 rfl ?_
              refine j_aload_n (pc' := 133) Cx dX5_halve_132 rfl rfl rfl ?_
              refine j_get (pc' := 136) (N := 15) Cx dX5_halve_133 rfl kin_X5_halve_X5 kfl_X5_halve_19 0 rfl rfl 9 rfl rfl rfl ?_
              refine j_iload (pc' := 138) Cx dX5_halve_136 rfl rfl ?_
              refine j_aload_n (pc' := 139) Cx dX5_halve_138 rfl rfl rfl ?_
              refine j_get (pc' := 142) (N := 15) Cx dX5_halve_139 rfl kin_X5_halve_X5 kfl_X5_halve_70 0 rfl rfl 6 rfl rfl rfl ?_
              refine j_iadd_n (pc' := 143) Cx dX5_halve_142 rfl ?_
              refine j_iaload_nn (pc' := 144) Cx dX5_halve_143 rfl 2 rfl (by omega) (by omega) ?_
              refine j_iadd_n (pc' := 145) Cx dX5_halve_144 rfl ?_
              refine j_aload_n (pc' := 146) Cx dX5_halve_145 rfl rfl rfl ?_
              refine j_get (pc' := 149) (N := 15) Cx dX5_halve_146 rfl kin_X5_halve_X5 kfl_X5_halve_19 0 rfl rfl 9 rfl rfl rfl ?_
              refine j_iload (pc' := 151) Cx dX5_halve_149 rfl rfl ?_
              refine j_aload_n (pc' := 152) Cx dX5_halve_151 rfl rfl rfl ?_
              refine j_get (pc' := 155) (N := 15) Cx dX5_halve_152 rfl kin_X5_halve_X5 kfl_X5_halve_70 0 rfl rfl 6 rfl rfl rfl ?_
              refine j_iadd_n (pc' := 156) Cx dX5_halve_155 rfl ?_
              refine j_iconst (pc' := 157) (v := (nI 1)) Cx dX5_halve_156 rfl (by decide) ?_
              refine j_iadd_n (pc' := 158) Cx dX5_halve_157 rfl ?_
              refine j_iaload_nn (pc' := 159) Cx dX5_halve_158 rfl 2 rfl (by omega) (by omega) ?_
              refine j_iadd_n (pc' := 160) Cx dX5_halve_159 rfl ?_
              refine j_iconst (pc' := 161) (v := (nI 2)) Cx dX5_halve_160 rfl (by decide) ?_
              refine j_iadd_n (pc' := 162) Cx dX5_halve_161 rfl ?_
              refine j_iconst (pc' := 163) (v := (nI 4)) Cx dX5_halve_162 rfl (by decide) ?_
              refine j_idiv_n (pc' := 164) Cx dX5_halve_163 rfl (by omega) (by decide) (by decide) ?_
              refine j_iastore_nn (pc' := 165) (ws' := [(m, .inr (5, [.int (nI W), .int (nI H), .int (nI C), .int (fa), .ref o1, .ref o2, .int (nI nw), .int (nI nh), .ref go, .ref gt, .ref po, .ref pt, .ref my, .ref no, .ref so])), (go, .inl (ty 0, 576, .inl (kN (va_up (kshx nw (nw / 2) y x (kshy nw (nw / 2) y F)) ((y * (nw / 2)) + x) (((((((kshx nw (nw / 2) y x (kshy nw (nw / 2) y F)) ((2 * y * nw) + (2 * x))) + ((kshx nw (nw / 2) y x (kshy nw (nw / 2) y F)) (((2 * y * nw) + (2 * x)) + 1))) + ((kshx nw (nw / 2) y x (kshy nw (nw / 2) y F)) (((2 * y * nw) + (2 * x)) + nw))) + ((kshx nw (nw / 2) y x (kshy nw (nw / 2) y F)) ((((2 * y * nw) + (2 * x)) + nw) + 1))) + 2) / 4))))), (gt, .inl (ty 0, 576, .inl (kN (va_up (kshx nw (nw / 2) y x (kshy nw (nw / 2) y G)) ((y * (nw / 2)) + x) (((((((kshx nw (nw / 2) y x (kshy nw (nw / 2) y G)) ((2 * y * nw) + (2 * x))) + ((kshx nw (nw / 2) y x (kshy nw (nw / 2) y G)) (((2 * y * nw) + (2 * x)) + 1))) + ((kshx nw (nw / 2) y x (kshy nw (nw / 2) y G)) (((2 * y * nw) + (2 * x)) + nw))) + ((kshx nw (nw / 2) y x (kshy nw (nw / 2) y G)) ((((2 * y * nw) + (2 * x)) + nw) + 1))) + 2) / 4)))))]) Cx dX5_halve_164 rfl 2 rfl (by omega) (by omega) rfl ?_
              refine j_iinc_n (pc' := 168) (z := 1) (a := x) (lv' := [(0, .ref m), (1, .int (nI (nw / 2))), (2, .int (nI (nh / 2))), (3, .int (nI y)), (4, .int (nI (x + 1))), (5, .int (nI ((2 * y * nw) + (2 * x))))]) Cx dX5_halve_165 rfl rfl (by decide) rfl ?_
              refine j_goto (tgt := 24) Cx dX5_halve_168 (by decide) ?_
              refine J.lvs (lv' := [(0, .ref m), (1, .int (nI (nw / 2))), (2, .int (nI (nh / 2))), (3, .int (nI y)), (4, .int (nI (x + 1)))]) [0, 1, 2, 3, 4] rfl ?_
              refine J.cast (ws' := [(m, .inr (5, [.int (nI W), .int (nI H), .int (nI C), .int (fa), .ref o1, .ref o2, .int (nI nw), .int (nI nh), .ref go, .ref gt, .ref po, .ref pt, .ref my, .ref no, .ref so])), (go, .inl (ty 0, 576, .inl (kN (kshx nw (nw / 2) y (x + 1) (kshy nw (nw / 2) y F))))), (gt, .inl (ty 0, 576, .inl (kN (kshx nw (nw / 2) y (x + 1) (kshy nw (nw / 2) y G)))))]) (lv' := [(0, .ref m), (1, .int (nI (nw / 2))), (2, .int (nI (nh / 2))), (3, .int (nI y)), (4, .int (nI (x + 1)))]) (pc' := 24) (st' := []) (rfl) (rfl) rfl (rfl) rfl rfl ?_
              exact LQ_ih (x + 1) (by omega) (by omega)
        refine J.cast (ws' := [(m, .inr (5, [.int (nI W), .int (nI H), .int (nI C), .int (fa), .ref o1, .ref o2, .int (nI nw), .int (nI nh), .ref go, .ref gt, .ref po, .ref pt, .ref my, .ref no, .ref so])), (go, .inl (ty 0, 576, .inl (kN (kshx nw (nw / 2) y 0 (kshy nw (nw / 2) y F))))), (gt, .inl (ty 0, 576, .inl (kN (kshx nw (nw / 2) y 0 (kshy nw (nw / 2) y G)))))]) (lv' := [(0, .ref m), (1, .int (nI (nw / 2))), (2, .int (nI (nh / 2))), (3, .int (nI y)), (4, .int (nI 0))]) (pc' := 24) (st' := []) (rfl) (rfl) rfl (rfl) rfl rfl ?_
        exact LQ (nw / 2 + 1) 0 (by omega) (Nat.zero_le _)
  refine J.cast (ws' := [(m, .inr (5, [.int (nI W), .int (nI H), .int (nI C), .int (fa), .ref o1, .ref o2, .int (nI nw), .int (nI nh), .ref go, .ref gt, .ref po, .ref pt, .ref my, .ref no, .ref so])), (go, .inl (ty 0, 576, .inl (kN (kshy nw (nw / 2) 0 F)))), (gt, .inl (ty 0, 576, .inl (kN (kshy nw (nw / 2) 0 G))))]) (lv' := [(0, .ref m), (1, .int (nI (nw / 2))), (2, .int (nI (nh / 2))), (3, .int (nI 0))]) (pc' := 16) (st' := []) (rfl) (rfl) rfl (rfl) rfl rfl ?_
  exact LP (nh / 2 + 1) 0 (by omega) (Nat.zero_le _)

set_option maxHeartbeats 4000000 in
set_option maxRecDepth 100000 in
/-- scales, of the other one -/
theorem c_X5_scales (l : Launch) (D : va_G) (ty : Nat → ClassId) (m o1 o2 go gt po pt my no so W H C : Nat) (nw nh : Nat) (fa : Int32) (hW : W ≤ 24) (hH : H ≤ 24) (hW1 : 1 ≤ W) (hH1 : 1 ≤ H) (h1 : 1 ≤ C) (h3 : C ≤ 3) : KM l yX5_scales wsX5_scales { frames := 0, cells := 0, slots := 0, locals := 0 } D ty [.ref m] [(m, .inr (5, [.int (nI W), .int (nI H), .int (nI C), .int (fa), .ref o1, .ref o2, .int (nI nw), .int (nI nh), .ref go, .ref gt, .ref po, .ref pt, .ref my, .ref no, .ref so]))] (kI (fun r u => r = nI (kscale W H) ∧ u = [(m, .inr (5, [.int (nI W), .int (nI H), .int (nI C), .int (fa), .ref o1, .ref o2, .int (nI nw), .int (nI nh), .ref go, .ref gt, .ref po, .ref pt, .ref my, .ref no, .ref so]))])) 0 0 := by
  refine KM.of (cc := cX5_scales) (maxL := 2) (ret := (some .int)) (lv := [(0, .ref m)]) (by decide +kernel) rfl rfl rfl (fun X C0 R0 => ?_)
  have Cx : kC X cX5_scales wsX5_scales RX5 { frames := 0, cells := 0, slots := 0, locals := 0 } "scales" l D ty 2 := C0
  refine j_iconst (pc' := 1) (v := (nI 0)) Cx dX5_scales_0 rfl (by decide) ?_
  refine j_istore_n (pc' := 2) (lv' := [(0, .ref m), (1, .int (nI 0))]) Cx dX5_scales_1 rfl rfl (by decide) rfl ?_
  have LP : ∀ (LP_n : Nat), ∀ (n : Nat), (4 - n < LP_n) → (n ≤ 3) → (∀ i, i < n → 5 ≤ W / 2 ^ i ∧ 5 ≤ H / 2 ^ i) → J X [(m, .inr (5, [.int (nI W), .int (nI H), .int (nI C), .int (fa), .ref o1, .ref o2, .int (nI nw), .int (nI nh), .ref go, .ref gt, .ref po, .ref pt, .ref my, .ref no, .ref so]))] [(0, .ref m), (1, .int (nI n))] 2 [] 0 0 := by
    intro LP_n
    induction LP_n with
    | zero =>
      intro n hms _ _
      exact absurd hms (Nat.not_lt_zero _)
    | succ LP_n LP_ih =>
      intro n LP_m hn hall
      have d1 : W / 2 ^ n ≤ W := Nat.div_le_self _ _
      have d2 : H / 2 ^ n ≤ H := Nat.div_le_self _ _
      refine j_aload_n (pc' := 3) Cx dX5_scales_2 rfl rfl rfl ?_
      refine j_get (pc' := 6) (N := 15) Cx dX5_scales_3 rfl kin_X5_scales_X5 kfl_X5_scales_38 0 rfl rfl 0 rfl rfl rfl ?_
      refine j_iload_n (pc' := 7) Cx dX5_scales_6 rfl rfl rfl ?_
      refine j_ishr (pc' := 8) Cx dX5_scales_7 rfl ?_
      refine j_top (v' := .int (nI (W / 2 ^ n))) (congrArg Value.int (k_shr hW (by omega))) ?_
      refine j_iconst (pc' := 9) (v := (nI 5)) Cx dX5_scales_8 rfl (by decide) ?_
      refine j_icmp_lt_n (tgt := 28) (pc' := 12) Cx dX5_scales_9 (by decide) rfl (by omega) (by omega) (fun ha => ?_) (fun ha => ?_)
      · refine j_iload_n (pc' := 29) Cx dX5_scales_28 rfl rfl rfl ?_
        exact j_iret Cx dX5_scales_29 R0 ⟨Nat.le_of_ble_eq_true rfl, Nat.le_of_ble_eq_true rfl⟩ (⟨_, rfl, congrArg nI (kscale_stop hn hW hH hall (fun e => absurd e.1 (Nat.not_le.mpr ha))).symm, rfl⟩)
      · refine j_aload_n (pc' := 13) Cx dX5_scales_12 rfl rfl rfl ?_
        refine j_get (pc' := 16) (N := 15) Cx dX5_scales_13 rfl kin_X5_scales_X5 kfl_X5_scales_42 0 rfl rfl 1 rfl rfl rfl ?_
        refine j_iload_n (pc' := 17) Cx dX5_scales_16 rfl rfl rfl ?_
        refine j_ishr (pc' := 18) Cx dX5_scales_17 rfl ?_
        refine j_top (v' := .int (nI (H / 2 ^ n))) (congrArg Value.int (k_shr hH (by omega))) ?_
        refine j_iconst (pc' := 19) (v := (nI 5)) Cx dX5_scales_18 rfl (by decide) ?_
        refine j_icmp_lt_n (tgt := 28) (pc' := 22) Cx dX5_scales_19 (by decide) rfl (by omega) (by omega) (fun hb => ?_) (fun hb => ?_)
        · refine j_iload_n (pc' := 29) Cx dX5_scales_28 rfl rfl rfl ?_
          exact j_iret Cx dX5_scales_29 R0 ⟨Nat.le_of_ble_eq_true rfl, Nat.le_of_ble_eq_true rfl⟩ (⟨_, rfl, congrArg nI (kscale_stop hn hW hH hall (fun e => absurd e.2 (Nat.not_le.mpr hb))).symm, rfl⟩)
        · have hn1 := kscale_go hW ha hn
          refine j_iinc_n (pc' := 25) (z := 1) (a := n) (lv' := [(0, .ref m), (1, .int (nI (n + 1)))]) Cx dX5_scales_22 rfl rfl (by decide) rfl ?_
          refine j_goto (tgt := 2) Cx dX5_scales_25 (by decide) ?_
          exact LP_ih (n + 1) (by omega) hn1 (fun i hi => by rcases Nat.lt_succ_iff_lt_or_eq.mp hi with h | h; exact hall i h; rw [h]; exact ⟨ha, hb⟩)
  exact LP 5 0 (by omega) (by omega) (fun i hi => absurd hi (Nat.not_lt_zero i))

set_option maxHeartbeats 4000000 in
set_option maxRecDepth 100000 in
theorem c_X5_weight (l : Launch) (D : va_G) (ty : Nat → ClassId) (j : Nat) (hj : j < 5) : KM l yX5_weight wsX5_weight { frames := 0, cells := 0, slots := 0, locals := 0 } D ty [.int (nI j)] [] (kI (fun r u => r = nI (kwt j) ∧ u = [])) 0 0 := by
  refine KM.of (cc := cX5_weight) (maxL := 1) (ret := (some .int)) (lv := [(0, .int (nI j))]) (by decide +kernel) rfl rfl rfl (fun X C0 R0 => ?_)
  have Cx : kC X cX5_weight wsX5_weight RX5 { frames := 0, cells := 0, slots := 0, locals := 0 } "weight" l D ty 1 := C0
  have h5 : j = 0 ∨ j = 1 ∨ j = 2 ∨ j = 3 ∨ j = 4 := by omega
  rcases h5 with rfl | rfl | rfl | rfl | rfl
  · refine j_iload_n (pc' := 1) Cx dX5_weight_0 rfl rfl rfl ?_
    refine j_if_eq_n (tgt := 9) (pc' := 4) Cx dX5_weight_1 (by decide) rfl (by omega) (fun _ => ?_) (fun hh => absurd hh (by decide))
    refine j_iconst (pc' := 10) (v := (nI 1)) Cx dX5_weight_9 rfl (by decide) ?_
    refine j_goto (tgt := 24) Cx dX5_weight_10 (by decide) ?_
    exact j_iret Cx dX5_weight_24 R0 ⟨Nat.le_of_ble_eq_true rfl, Nat.le_of_ble_eq_true rfl⟩ (⟨_, rfl, rfl, rfl⟩)
  · refine j_iload_n (pc' := 1) Cx dX5_weight_0 rfl rfl rfl ?_
    refine j_if_eq_n (tgt := 9) (pc' := 4) Cx dX5_weight_1 (by decide) rfl (by omega) (fun hh => absurd hh (by decide)) (fun _ => ?_)
    refine j_iload_n (pc' := 5) Cx dX5_weight_4 rfl rfl rfl ?_
    refine j_iconst (pc' := 6) (v := (nI 4)) Cx dX5_weight_5 rfl (by decide) ?_
    refine j_icmp_ne_n (tgt := 13) (pc' := 9) Cx dX5_weight_6 (by decide) rfl (by omega) (by omega) (fun _ => ?_) (fun hh => absurd hh (by decide))
    refine j_iload_n (pc' := 14) Cx dX5_weight_13 rfl rfl rfl ?_
    refine j_iconst (pc' := 15) (v := (nI 2)) Cx dX5_weight_14 rfl (by decide) ?_
    refine j_icmp_ne_n (tgt := 23) (pc' := 18) Cx dX5_weight_15 (by decide) rfl (by omega) (by omega) (fun _ => ?_) (fun hh => absurd hh (by decide))
    refine j_iconst (pc' := 24) (v := (nI 4)) Cx dX5_weight_23 rfl (by decide) ?_
    exact j_iret Cx dX5_weight_24 R0 ⟨Nat.le_of_ble_eq_true rfl, Nat.le_of_ble_eq_true rfl⟩ (⟨_, rfl, rfl, rfl⟩)
  · refine j_iload_n (pc' := 1) Cx dX5_weight_0 rfl rfl rfl ?_
    refine j_if_eq_n (tgt := 9) (pc' := 4) Cx dX5_weight_1 (by decide) rfl (by omega) (fun hh => absurd hh (by decide)) (fun _ => ?_)
    refine j_iload_n (pc' := 5) Cx dX5_weight_4 rfl rfl rfl ?_
    refine j_iconst (pc' := 6) (v := (nI 4)) Cx dX5_weight_5 rfl (by decide) ?_
    refine j_icmp_ne_n (tgt := 13) (pc' := 9) Cx dX5_weight_6 (by decide) rfl (by omega) (by omega) (fun _ => ?_) (fun hh => absurd hh (by decide))
    refine j_iload_n (pc' := 14) Cx dX5_weight_13 rfl rfl rfl ?_
    refine j_iconst (pc' := 15) (v := (nI 2)) Cx dX5_weight_14 rfl (by decide) ?_
    refine j_icmp_ne_n (tgt := 23) (pc' := 18) Cx dX5_weight_15 (by decide) rfl (by omega) (by omega) (fun hh => absurd hh (not_not_intro rfl)) (fun _ => ?_)
    refine j_bipush (pc' := 20) (v := (nI 6)) Cx dX5_weight_18 rfl (by decide) ?_
    refine j_goto (tgt := 24) Cx dX5_weight_20 (by decide) ?_
    exact j_iret Cx dX5_weight_24 R0 ⟨Nat.le_of_ble_eq_true rfl, Nat.le_of_ble_eq_true rfl⟩ (⟨_, rfl, rfl, rfl⟩)
  · refine j_iload_n (pc' := 1) Cx dX5_weight_0 rfl rfl rfl ?_
    refine j_if_eq_n (tgt := 9) (pc' := 4) Cx dX5_weight_1 (by decide) rfl (by omega) (fun hh => absurd hh (by decide)) (fun _ => ?_)
    refine j_iload_n (pc' := 5) Cx dX5_weight_4 rfl rfl rfl ?_
    refine j_iconst (pc' := 6) (v := (nI 4)) Cx dX5_weight_5 rfl (by decide) ?_
    refine j_icmp_ne_n (tgt := 13) (pc' := 9) Cx dX5_weight_6 (by decide) rfl (by omega) (by omega) (fun _ => ?_) (fun hh => absurd hh (by decide))
    refine j_iload_n (pc' := 14) Cx dX5_weight_13 rfl rfl rfl ?_
    refine j_iconst (pc' := 15) (v := (nI 2)) Cx dX5_weight_14 rfl (by decide) ?_
    refine j_icmp_ne_n (tgt := 23) (pc' := 18) Cx dX5_weight_15 (by decide) rfl (by omega) (by omega) (fun _ => ?_) (fun hh => absurd hh (by decide))
    refine j_iconst (pc' := 24) (v := (nI 4)) Cx dX5_weight_23 rfl (by decide) ?_
    exact j_iret Cx dX5_weight_24 R0 ⟨Nat.le_of_ble_eq_true rfl, Nat.le_of_ble_eq_true rfl⟩ (⟨_, rfl, rfl, rfl⟩)
  · refine j_iload_n (pc' := 1) Cx dX5_weight_0 rfl rfl rfl ?_
    refine j_if_eq_n (tgt := 9) (pc' := 4) Cx dX5_weight_1 (by decide) rfl (by omega) (fun hh => absurd hh (by decide)) (fun _ => ?_)
    refine j_iload_n (pc' := 5) Cx dX5_weight_4 rfl rfl rfl ?_
    refine j_iconst (pc' := 6) (v := (nI 4)) Cx dX5_weight_5 rfl (by decide) ?_
    refine j_icmp_ne_n (tgt := 13) (pc' := 9) Cx dX5_weight_6 (by decide) rfl (by omega) (by omega) (fun hh => absurd hh (not_not_intro rfl)) (fun _ => ?_)
    refine j_iconst (pc' := 10) (v := (nI 1)) Cx dX5_weight_9 rfl (by decide) ?_
    refine j_goto (tgt := 24) Cx dX5_weight_10 (by decide) ?_
    exact j_iret Cx dX5_weight_24 R0 ⟨Nat.le_of_ble_eq_true rfl, Nat.le_of_ble_eq_true rfl⟩ (⟨_, rfl, rfl, rfl⟩)

set_option maxHeartbeats 4000000 in
set_option maxRecDepth 100000 in
/-- cell, of the other one -/
theorem c_X5_cell (l : Launch) (D : va_G) (ty : Nat → ClassId) (m o1 o2 go gt po pt my no so W H C : Nat) (nw nh : Nat) (fa : Int32) (hW : W ≤ 24) (hH : H ≤ 24) (hW1 : 1 ≤ W) (hH1 : 1 ≤ H) (h1 : 1 ≤ C) (h3 : C ≤ 3) (F G : Nat → Nat) (hF : ∀ i, F i < 256) (hG : ∀ i, G i < 256) (hnw : nw ≤ 24) (hnh : nh ≤ 24) (x y : Nat) (hx : x + 4 < nw) (hy : y + 4 < nh) : KM l yX5_cell wsX5_cell { frames := 1, cells := 0, slots := 0, locals := 40 } D ty [.ref m, .int (nI x), .int (nI y)] [(m, .inr (5, [.int (nI W), .int (nI H), .int (nI C), .int (fa), .ref o1, .ref o2, .int (nI nw), .int (nI nh), .ref go, .ref gt, .ref po, .ref pt, .ref my, .ref no, .ref so])), (go, .inl (ty 0, 576, .inl (kN F))), (gt, .inl (ty 0, 576, .inl (kN G)))] (kF (fun r u => r = kcell nw x y F G ∧ u = [(m, .inr (5, [.int (nI W), .int (nI H), .int (nI C), .int (fa), .ref o1, .ref o2, .int (nI nw), .int (nI nh), .ref go, .ref gt, .ref po, .ref pt, .ref my, .ref no, .ref so])), (go, .inl (ty 0, 576, .inl (kN F))), (gt, .inl (ty 0, 576, .inl (kN G)))])) 0 0 := by
  refine KM.of (cc := cX5_cell) (maxL := 21) (ret := (some .double)) (lv := [(0, .ref m), (1, .int (nI x)), (2, .int (nI y))]) (by decide +kernel) rfl rfl rfl (fun X C0 R0 => ?_)
  have Cx : kC X cX5_cell wsX5_cell RX5 { frames := 1, cells := 0, slots := 0, locals := 40 } "cell" l D ty 21 := C0
  have hnn : nw * nh ≤ 576 := k_wh hnw hnh
  refine j_lconst (pc' := 1) (v := (lN 0)) Cx dX5_cell_0 rfl rfl ?_
  refine j_lstore_n (pc' := 2) (lv' := [(0, .ref m), (1, .int (nI x)), (2, .int (nI y)), (3, .long (lN 0))]) Cx dX5_cell_1 rfl rfl (by decide) rfl ?_
  refine j_lconst (pc' := 3) (v := (lN 0)) Cx dX5_cell_2 rfl rfl ?_
  refine j_lstore (pc' := 5) (lv' := [(0, .ref m), (1, .int (nI x)), (2, .int (nI y)), (3, .long (lN 0)), (5, .long (lN 0))]) Cx dX5_cell_3 rfl (by decide) rfl ?_
  refine j_lconst (pc' := 6) (v := (lN 0)) Cx dX5_cell_5 rfl rfl ?_
  refine j_lstore (pc' := 8) (lv' := [(0, .ref m), (1, .int (nI x)), (2, .int (nI y)), (3, .long (lN 0)), (5, .long (lN 0)), (7, .long (lN 0))]) Cx dX5_cell_6 rfl (by decide) rfl ?_
  refine j_lconst (pc' := 9) (v := (lN 0)) Cx dX5_cell_8 rfl rfl ?_
  refine j_lstore (pc' := 11) (lv' := [(0, .ref m), (1, .int (nI x)), (2, .int (nI y)), (3, .long (lN 0)), (5, .long (lN 0)), (7, .long (lN 0)), (9, .long (lN 0))]) Cx dX5_cell_9 rfl (by decide) rfl ?_
  refine j_lconst (pc' := 12) (v := (lN 0)) Cx dX5_cell_11 rfl rfl ?_
  refine j_lstore (pc' := 14) (lv' := [(0, .ref m), (1, .int (nI x)), (2, .int (nI y)), (3, .long (lN 0)), (5, .long (lN 0)), (7, .long (lN 0)), (9, .long (lN 0)), (11, .long (lN 0))]) Cx dX5_cell_12 rfl (by decide) rfl ?_
  refine j_iconst (pc' := 15) (v := (nI 0)) Cx dX5_cell_14 rfl (by decide) ?_
  refine j_istore (pc' := 17) (lv' := [(0, .ref m), (1, .int (nI x)), (2, .int (nI y)), (3, .long (lN 0)), (5, .long (lN 0)), (7, .long (lN 0)), (9, .long (lN 0)), (11, .long (lN 0)), (13, .int (nI 0))]) Cx dX5_cell_15 rfl (by decide) rfl ?_
  have LP : ∀ (LP_n : Nat), ∀ (j : Nat), (5 - j < LP_n) → (j ≤ 5) → J X [(m, .inr (5, [.int (nI W), .int (nI H), .int (nI C), .int (fa), .ref o1, .ref o2, .int (nI nw), .int (nI nh), .ref go, .ref gt, .ref po, .ref pt, .ref my, .ref no, .ref so])), (go, .inl (ty 0, 576, .inl (kN F))), (gt, .inl (ty 0, 576, .inl (kN G)))] [(0, .ref m), (1, .int (nI x)), (2, .int (nI y)), (3, .long (lN (ks5 (kca nw x y F) j 0))), (5, .long (lN (ks5 (kca nw x y G) j 0))), (7, .long (lN (ks5 (kcb nw x y F F) j 0))), (9, .long (lN (ks5 (kcb nw x y G G) j 0))), (11, .long (lN (ks5 (kcb nw x y F G) j 0))), (13, .int (nI j))] 17 [] 0 0 := by
    intro LP_n
    induction LP_n with
    | zero =>
      intro j hms _
      exact absurd hms (Nat.not_lt_zero _)
    | succ LP_n LP_ih =>
      intro j LP_m hle
      refine j_iload (pc' := 19) Cx dX5_cell_17 rfl rfl ?_
      refine j_iconst (pc' := 20) (v := (nI 5)) Cx dX5_cell_19 rfl (by decide) ?_
      refine j_icmp_ge_n (tgt := 159) (pc' := 23) Cx dX5_cell_20 (by decide) rfl (by omega) (by omega) (fun hj => ?_) (fun hj => ?_)
      · have e : j = 5 := by omega
        subst e
        have hsm := kcell_sm (w := nw) (left := x) (top := y) hF hG
        refine j_lload_n (pc' := 160) Cx dX5_cell_159 rfl rfl rfl ?_
        refine j_lload (pc' := 162) Cx dX5_cell_160 rfl rfl ?_
        refine j_lmul_n (pc' := 163) Cx dX5_cell_162 rfl ?_
        refine j_l2d (pc' := 164) Cx dX5_cell_163 rfl ?_
        refine j_dstore (pc' := 166) (lv' := [(0, .ref m), (1, .int (nI x)), (2, .int (nI y)), (3, .long (lN (ks5 (kca nw x y F) 5 0))), (5, .long (lN (ks5 (kca nw x y G) 5 0))), (7, .long (lN (ks5 (kcb nw x y F F) 5 0))), (9, .long (lN (ks5 (kcb nw x y G G) 5 0))), (11, .long (lN (ks5 (kcb nw x y F G) 5 0))), (13, .double (FP.l2d (lN ((ks5 (kca nw x y F) 5 0) * (ks5 (kca nw x y G) 5 0)))))]) Cx dX5_cell_164 rfl (by decide) rfl ?_
        refine j_lload_n (pc' := 167) Cx dX5_cell_166 rfl rfl rfl ?_
        refine j_lload_n (pc' := 168) Cx dX5_cell_167 rfl rfl rfl ?_
        refine j_lmul_n (pc' := 169) Cx dX5_cell_168 rfl ?_
        refine j_lload (pc' := 171) Cx dX5_cell_169 rfl rfl ?_
        refine j_lload (pc' := 173) Cx dX5_cell_171 rfl rfl ?_
        refine j_lmul_n (pc' := 174) Cx dX5_cell_173 rfl ?_
        refine j_ladd_n (pc' := 175) Cx dX5_cell_174 rfl ?_
        refine j_l2d (pc' := 176) Cx dX5_cell_175 rfl ?_
        refine j_dstore (pc' := 178) (lv' := [(0, .ref m), (1, .int (nI x)), (2, .int (nI y)), (3, .long (lN (ks5 (kca nw x y F) 5 0))), (5, .long (lN (ks5 (kca nw x y G) 5 0))), (7, .long (lN (ks5 (kcb nw x y F F) 5 0))), (9, .long (lN (ks5 (kcb nw x y G G) 5 0))), (11, .long (lN (ks5 (kcb nw x y F G) 5 0))), (13, .double (FP.l2d (lN ((ks5 (kca nw x y F) 5 0) * (ks5 (kca nw x y G) 5 0))))), (15, .double (FP.l2d (lN (((ks5 (kca nw x y F) 5 0) * (ks5 (kca nw x y F) 5 0)) + ((ks5 (kca nw x y G) 5 0) * (ks5 (kca nw x y G) 5 0))))))]) Cx dX5_cell_176 rfl (by decide) rfl ?_
        refine j_ldc2 (pc' := 181) (v := 256) Cx dX5_cell_178 rfl (by decide +kernel) ?_
        refine j_lload (pc' := 183) Cx dX5_cell_181 rfl rfl ?_
        refine j_lmul (pc' := 184) Cx dX5_cell_183 rfl ?_
        refine j_lload_n (pc' := 185) Cx dX5_cell_184 rfl rfl rfl ?_
        refine j_lload (pc' := 187) Cx dX5_cell_185 rfl rfl ?_
        refine j_lmul_n (pc' := 188) Cx dX5_cell_187 rfl ?_
        refine j_lsub (pc' := 189) Cx dX5_cell_188 rfl ?_
        refine j_l2d (pc' := 190) Cx dX5_cell_189 rfl ?_
        refine j_dstore (pc' := 192) (lv' := [(0, .ref m), (1, .int (nI x)), (2, .int (nI y)), (3, .long (lN (ks5 (kca nw x y F) 5 0))), (5, .long (lN (ks5 (kca nw x y G) 5 0))), (7, .long (lN (ks5 (kcb nw x y F F) 5 0))), (9, .long (lN (ks5 (kcb nw x y G G) 5 0))), (11, .long (lN (ks5 (kcb nw x y F G) 5 0))), (13, .double (FP.l2d (lN ((ks5 (kca nw x y F) 5 0) * (ks5 (kca nw x y G) 5 0))))), (15, .double (FP.l2d (lN (((ks5 (kca nw x y F) 5 0) * (ks5 (kca nw x y F) 5 0)) + ((ks5 (kca nw x y G) 5 0) * (ks5 (kca nw x y G) 5 0)))))), (17, .double (FP.l2d ((256 * (lN (ks5 (kcb nw x y F G) 5 0))) - (lN ((ks5 (kca nw x y F) 5 0) * (ks5 (kca nw x y G) 5 0))))))]) Cx dX5_cell_190 rfl (by decide) rfl ?_
        refine j_ldc2 (pc' := 195) (v := 256) Cx dX5_cell_192 rfl (by decide +kernel) ?_
        refine j_lload (pc' := 197) Cx dX5_cell_195 rfl rfl ?_
        refine j_lmul (pc' := 198) Cx dX5_cell_197 rfl ?_
        refine j_lload_n (pc' := 199) Cx dX5_cell_198 rfl rfl rfl ?_
        refine j_lload_n (pc' := 200) Cx dX5_cell_199 rfl rfl rfl ?_
        refine j_lmul_n (pc' := 201) Cx dX5_cell_200 rfl ?_
        refine j_lsub (pc' := 202) Cx dX5_cell_201 rfl ?_
        refine j_ldc2 (pc' := 205) (v := 256) Cx dX5_cell_202 rfl (by decide +kernel) ?_
        refine j_lload (pc' := 207) Cx dX5_cell_205 rfl rfl ?_
        refine j_lmul (pc' := 208) Cx dX5_cell_207 rfl ?_
        refine j_ladd (pc' := 209) Cx dX5_cell_208 rfl ?_
        refine j_lload (pc' := 211) Cx dX5_cell_209 rfl rfl ?_
        refine j_lload (pc' := 213) Cx dX5_cell_211 rfl rfl ?_
        refine j_lmul_n (pc' := 214) Cx dX5_cell_213 rfl ?_
        refine j_lsub (pc' := 215) Cx dX5_cell_214 rfl ?_
        refine j_l2d (pc' := 216) Cx dX5_cell_215 rfl ?_
        refine j_dstore (pc' := 218) (lv' := [(0, .ref m), (1, .int (nI x)), (2, .int (nI y)), (3, .long (lN (ks5 (kca nw x y F) 5 0))), (5, .long (lN (ks5 (kca nw x y G) 5 0))), (7, .long (lN (ks5 (kcb nw x y F F) 5 0))), (9, .long (lN (ks5 (kcb nw x y G G) 5 0))), (11, .long (lN (ks5 (kcb nw x y F G) 5 0))), (13, .double (FP.l2d (lN ((ks5 (kca nw x y F) 5 0) * (ks5 (kca nw x y G) 5 0))))), (15, .double (FP.l2d (lN (((ks5 (kca nw x y F) 5 0) * (ks5 (kca nw x y F) 5 0)) + ((ks5 (kca nw x y G) 5 0) * (ks5 (kca nw x y G) 5 0)))))), (17, .double (FP.l2d ((256 * (lN (ks5 (kcb nw x y F G) 5 0))) - (lN ((ks5 (kca nw x y F) 5 0) * (ks5 (kca nw x y G) 5 0)))))), (19, .double (FP.l2d ((((256 * (lN (ks5 (kcb nw x y F F) 5 0))) - (lN ((ks5 (kca nw x y F) 5 0) * (ks5 (kca nw x y F) 5 0)))) + (256 * (lN (ks5 (kcb nw x y G G) 5 0)))) - (lN ((ks5 (kca nw x y G) 5 0) * (ks5 (kca nw x y G) 5 0))))))]) Cx dX5_cell_216 rfl (by decide) rfl ?_
        refine J.lvs (lv' := [(0, .ref m), (1, .int (nI x)), (2, .int (nI y)), (13, .double (FP.l2d (lN ((ks5 (kca nw x y F) 5 0) * (ks5 (kca nw x y G) 5 0))))), (15, .double (FP.l2d (lN (((ks5 (kca nw x y F) 5 0) * (ks5 (kca nw x y F) 5 0)) + ((ks5 (kca nw x y G) 5 0) * (ks5 (kca nw x y G) 5 0)))))), (17, .double (FP.l2d ((256 * (lN (ks5 (kcb nw x y F G) 5 0))) - (lN ((ks5 (kca nw x y F) 5 0) * (ks5 (kca nw x y G) 5 0)))))), (19, .double (FP.l2d ((((256 * (lN (ks5 (kcb nw x y F F) 5 0))) - (lN ((ks5 (kca nw x y F) 5 0) * (ks5 (kca nw x y F) 5 0)))) + (256 * (lN (ks5 (kcb nw x y G G) 5 0)))) - (lN ((ks5 (kca nw x y G) 5 0) * (ks5 (kca nw x y G) 5 0))))))]) [0, 1, 2, 13, 15, 17, 19] rfl ?_
        refine J.cast (ws' := [(m, .inr (5, [.int (nI W), .int (nI H), .int (nI C), .int (fa), .ref o1, .ref o2, .int (nI nw), .int (nI nh), .ref go, .ref gt, .ref po, .ref pt, .ref my, .ref no, .ref so])), (go, .inl (ty 0, 576, .inl (kN F))), (gt, .inl (ty 0, 576, .inl (kN G)))]) (lv' := [(0, .ref m), (1, .int (nI x)), (2, .int (nI y)), (13, .double (FP.l2d (lN (ks5 (kca nw x y F) 5 0 * ks5 (kca nw x y G) 5 0)))), (15, .double (FP.l2d (lN (ks5 (kca nw x y F) 5 0 * ks5 (kca nw x y F) 5 0 + ks5 (kca nw x y G) 5 0 * ks5 (kca nw x y G) 5 0)))), (17, .double (FP.l2d (256 * lN (ks5 (kcb nw x y F G) 5 0) - lN (ks5 (kca nw x y F) 5 0 * ks5 (kca nw x y G) 5 0)))), (19, .double (FP.l2d (256 * lN (ks5 (kcb nw x y F F) 5 0) - lN (ks5 (kca nw x y F) 5 0 * ks5 (kca nw x y F) 5 0) + 256 * lN (ks5 (kcb nw x y G G) 5 0) - lN (ks5 (kca nw x y G) 5 0 * ks5 (kca nw x y G) 5 0))))]) (pc' := 218) (st' := []) (rfl) (rfl) rfl (rfl) rfl rfl ?_
        have hd := k_den hsm.1 hsm.2
        refine j_ldc2d (pc' := 221) (v := 4611686018427387904) Cx dX5_cell_218 rfl (by decide +kernel) ?_
        refine j_dload (pc' := 223) Cx dX5_cell_221 rfl rfl ?_
        refine j_dmul (pc' := 224) Cx dX5_cell_223 rfl (k_mul2_no (lN (ks5 (kca nw x y F) 5 0 * ks5 (kca nw x y G) 5 0))) ?_
        refine j_ldc2d (pc' := 227) (v := 4691063147270766592) Cx dX5_cell_224 rfl (by decide +kernel) ?_
        refine j_dadd (pc' := 228) Cx dX5_cell_227 rfl (k_num_no (lN (ks5 (kca nw x y F) 5 0 * ks5 (kca nw x y G) 5 0)) k_c_mag) ?_
        refine j_ldc2d (pc' := 231) (v := 4611686018427387904) Cx dX5_cell_228 rfl (by decide +kernel) ?_
        refine j_dload (pc' := 233) Cx dX5_cell_231 rfl rfl ?_
        refine j_dmul (pc' := 234) Cx dX5_cell_233 rfl (k_mul2_no (256 * lN (ks5 (kcb nw x y F G) 5 0) - lN (ks5 (kca nw x y F) 5 0 * ks5 (kca nw x y G) 5 0))) ?_
        refine j_ldc2d (pc' := 237) (v := 4705488881561108480) Cx dX5_cell_234 rfl (by decide +kernel) ?_
        refine j_dadd (pc' := 238) Cx dX5_cell_237 rfl (k_num_no (256 * lN (ks5 (kcb nw x y F G) 5 0) - lN (ks5 (kca nw x y F) 5 0 * ks5 (kca nw x y G) 5 0)) k_d_mag) ?_
        refine j_dmul (pc' := 239) Cx dX5_cell_238 rfl (k_nn_no (lN (ks5 (kca nw x y F) 5 0 * ks5 (kca nw x y G) 5 0)) (256 * lN (ks5 (kcb nw x y F G) 5 0) - lN (ks5 (kca nw x y F) 5 0 * ks5 (kca nw x y G) 5 0))) ?_
        refine j_dload (pc' := 241) Cx dX5_cell_239 rfl rfl ?_
        refine j_ldc2d (pc' := 244) (v := 4691063147270766592) Cx dX5_cell_241 rfl (by decide +kernel) ?_
        refine j_dadd (pc' := 245) Cx dX5_cell_244 rfl (hd.1) ?_
        refine j_dload (pc' := 247) Cx dX5_cell_245 rfl rfl ?_
        refine j_ldc2d (pc' := 250) (v := 4705488881561108480) Cx dX5_cell_247 rfl (by decide +kernel) ?_
        refine j_dadd (pc' := 251) Cx dX5_cell_250 rfl (hd.2.1) ?_
        refine j_dmul (pc' := 252) Cx dX5_cell_251 rfl (hd.2.2.1) ?_
        refine j_ddiv (pc' := 253) Cx dX5_cell_252 rfl ((k_ratio_no hsm.1 hsm.2).1) ?_
        exact j_dret Cx dX5_cell_253 R0 ⟨Nat.le_of_ble_eq_true rfl, Nat.le_of_ble_eq_true rfl⟩ (⟨_, rfl, rfl, rfl⟩)
      · refine j_iconst (pc' := 24) (v := (nI 0)) Cx dX5_cell_23 rfl (by decide) ?_
        refine j_istore (pc' := 26) (lv' := [(0, .ref m), (1, .int (nI x)), (2, .int (nI y)), (3, .long (lN (ks5 (kca nw x y F) j 0))), (5, .long (lN (ks5 (kca nw x y G) j 0))), (7, .long (lN (ks5 (kcb nw x y F F) j 0))), (9, .long (lN (ks5 (kcb nw x y G G) j 0))), (11, .long (lN (ks5 (kcb nw x y F G) j 0))), (13, .int (nI j)), (14, .int (nI 0))]) Cx dX5_cell_24 rfl (by decide) rfl ?_
        have LQ : ∀ (LQ_n : Nat), ∀ (i : Nat), (5 - i < LQ_n) → (i ≤ 5) → J X [(m, .inr (5, [.int (nI W), .int (nI H), .int (nI C), .int (fa), .ref o1, .ref o2, .int (nI nw), .int (nI nh), .ref go, .ref gt, .ref po, .ref pt, .ref my, .ref no, .ref so])), (go, .inl (ty 0, 576, .inl (kN F))), (gt, .inl (ty 0, 576, .inl (kN G)))] [(0, .ref m), (1, .int (nI x)), (2, .int (nI y)), (3, .long (lN (ks5 (kca nw x y F) j i))), (5, .long (lN (ks5 (kca nw x y G) j i))), (7, .long (lN (ks5 (kcb nw x y F F) j i))), (9, .long (lN (ks5 (kcb nw x y G G) j i))), (11, .long (lN (ks5 (kcb nw x y F G) j i))), (13, .int (nI j)), (14, .int (nI i))] 26 [] 0 0 := by
          intro LQ_n
          induction LQ_n with
          | zero =>
            intro i hms _
            exact absurd hms (Nat.not_lt_zero _)
          | succ LQ_n LQ_ih =>
            intro i LQ_m hli
            refine j_iload (pc' := 28) Cx dX5_cell_26 rfl rfl ?_
            refine j_iconst (pc' := 29) (v := (nI 5)) Cx dX5_cell_28 rfl (by decide) ?_
            refine j_icmp_ge_n (tgt := 153) (pc' := 32) Cx dX5_cell_29 (by decide) rfl (by omega) (by omega) (fun hi => ?_) (fun hi => ?_)
            · have e : i = 5 := by omega
              subst e
              refine j_iinc_n (pc' := 156) (z := 1) (a := j) (lv' := [(0, .ref m), (1, .int (nI x)), (2, .int (nI y)), (3, .long (lN (ks5 (kca nw x y F) j 5))), (5, .long (lN (ks5 (kca nw x y G) j 5))), (7, .long (lN (ks5 (kcb nw x y F F) j 5))), (9, .long (lN (ks5 (kcb nw x y G G) j 5))), (11, .long (lN (ks5 (kcb nw x y F G) j 5))), (13, .int (nI (j + 1))), (14, .int (nI 5))]) Cx dX5_cell_153 rfl rfl (by decide) rfl ?_
              refine j_goto (tgt := 17) Cx dX5_cell_156 (by decide) ?_
              refine J.lvs (lv' := [(0, .ref m), (1, .int (nI x)), (2, .int (nI y)), (3, .long (lN (ks5 (kca nw x y F) j 5))), (5, .long (lN (ks5 (kca nw x y G) j 5))), (7, .long (lN (ks5 (kcb nw x y F F) j 5))), (9, .long (lN (ks5 (kcb nw x y G G) j 5))), (11, .long (lN (ks5 (kcb nw x y F G) j 5))), (13, .int (nI (j + 1)))]) [0, 1, 2, 3, 5, 7, 9, 11, 13] rfl ?_
              refine J.cast (ws' := [(m, .inr (5, [.int (nI W), .int (nI H), .int (nI C), .int (fa), .ref o1, .ref o2, .int (nI nw), .int (nI nh), .ref go, .ref gt, .ref po, .ref pt, .ref my, .ref no, .ref so])), (go, .inl (ty 0, 576, .inl (kN F))), (gt, .inl (ty 0, 576, .inl (kN G)))]) (lv' := [(0, .ref m), (1, .int (nI x)), (2, .int (nI y)), (3, .long (lN (ks5 (kca nw x y F) (j + 1) 0))), (5, .long (lN (ks5 (kca nw x y G) (j + 1) 0))), (7, .long (lN (ks5 (kcb nw x y F F) (j + 1) 0))), (9, .long (lN (ks5 (kcb nw x y G G) (j + 1) 0))), (11, .long (lN (ks5 (kcb nw x y F G) (j + 1) 0))), (13, .int (nI (j + 1)))]) (pc' := 17) (st' := []) (rfl) (rfl) rfl (rfl) rfl rfl ?_
              exact LP_ih (j + 1) (by omega) (by omega)
            · have hb : (y + j) * nw + x + i < nw * nh := by have g1 : (y + j + 1) * nw ≤ nh * nw := Nat.mul_le_mul_right nw (by omega); rw [Nat.succ_mul, Nat.mul_comm nh nw] at g1; omega
              have hw2 := kwt2 j i
              have f0 := hF ((y + j) * nw + x + i)
              have g0 := hG ((y + j) * nw + x + i)
              refine j_iload (pc' := 34) Cx dX5_cell_32 rfl rfl ?_
              refine j_callS (pc' := 37) (wr := [(m, .inr (5, [.int (nI W), .int (nI H), .int (nI C), .int (fa), .ref o1, .ref o2, .int (nI nw), .int (nI nh), .ref go, .ref gt, .ref po, .ref pt, .ref my, .ref no, .ref so])), (go, .inl (ty 0, 576, .inl (kN F))), (gt, .inl (ty 0, 576, .inl (kN G)))]) (st := []) Cx dX5_cell_34 rfl (c_X5_weight l D ty i (by omega)) gX5_cell_X5_weight rfl khd_X5_weight rfl ⟨rfl, rfl, Nat.le_of_ble_eq_true rfl, Nat.le_of_ble_eq_true rfl⟩ [] [0, 1, 2] rfl rfl ⟨rfl, rfl⟩ (by decide) rfl (Nat.le_of_ble_eq_true rfl) ⟨Nat.le_of_ble_eq_true rfl, Nat.le_of_ble_eq_true rfl⟩ (fun v u hpost => ?_)
              obtain ⟨r, rfl, rfl, rfl⟩ := hpost
              show J X [(m, .inr (5, [.int (nI W), .int (nI H), .int (nI C), .int (fa), .ref o1, .ref o2, .int (nI nw), .int (nI nh), .ref go, .ref gt, .ref po, .ref pt, .ref my, .ref no, .ref so])), (go, .inl (ty 0, 576, .inl (kN F))), (gt, .inl (ty 0, 576, .inl (kN G)))] [(0, .ref m), (1, .int (nI x)), (2, .int (nI y)), (3, .long (lN (ks5 (kca nw x y F) j i))), (5, .long (lN (ks5 (kca nw x y G) j i))), (7, .long (lN (ks5 (kcb nw x y F F) j i))), (9, .long (lN (ks5 (kcb nw x y G G) j i))), (11, .long (lN (ks5 (kcb nw x y F G) j i))), (13, .int (nI j)), (14, .int (nI i))] 37 [.int (nI (kwt i))] 0 0
              refine j_iload (pc' := 39) Cx dX5_cell_37 rfl rfl ?_
              refine j_callS (pc' := 42) (wr := [(m, .inr (5, [.int (nI W), .int (nI H), .int (nI C), .int (fa), .ref o1, .ref o2, .int (nI nw), .int (nI nh), .ref go, .ref gt, .ref po, .ref pt, .ref my, .ref no, .ref so])), (go, .inl (ty 0, 576, .inl (kN F))), (gt, .inl (ty 0, 576, .inl (kN G)))]) (st := [.int (nI (kwt i))]) Cx dX5_cell_39 rfl (c_X5_weight l D ty j (by omega)) gX5_cell_X5_weight rfl khd_X5_weight rfl ⟨rfl, rfl, Nat.le_of_ble_eq_true rfl, Nat.le_of_ble_eq_true rfl⟩ [] [0, 1, 2] rfl rfl ⟨rfl, rfl⟩ (by decide) rfl (Nat.le_of_ble_eq_true rfl) ⟨Nat.le_of_ble_eq_true rfl, Nat.le_of_ble_eq_true rfl⟩ (fun v u hpost => ?_)
              obtain ⟨r, rfl, rfl, rfl⟩ := hpost
              show J X [(m, .inr (5, [.int (nI W), .int (nI H), .int (nI C), .int (fa), .ref o1, .ref o2, .int (nI nw), .int (nI nh), .ref go, .ref gt, .ref po, .ref pt, .ref my, .ref no, .ref so])), (go, .inl (ty 0, 576, .inl (kN F))), (gt, .inl (ty 0, 576, .inl (kN G)))] [(0, .ref m), (1, .int (nI x)), (2, .int (nI y)), (3, .long (lN (ks5 (kca nw x y F) j i))), (5, .long (lN (ks5 (kca nw x y G) j i))), (7, .long (lN (ks5 (kcb nw x y F F) j i))), (9, .long (lN (ks5 (kcb nw x y G G) j i))), (11, .long (lN (ks5 (kcb nw x y F G) j i))), (13, .int (nI j)), (14, .int (nI i))] 42 [.int (nI (kwt j)), .int (nI (kwt i))] 0 0
              refine j_imul_n (pc' := 43) Cx dX5_cell_42 rfl ?_
              refine j_top (v' := .int (nI (kwt j * kwt i))) (congrArg (fun z : Nat => Value.int (nI z)) (show (kwt i) * (kwt j) = kwt j * kwt i from Nat.mul_comm _ _)) ?_
              refine j_i2l_n (pc' := 44) Cx dX5_cell_43 rfl (by omega) ?_
              refine j_lstore (pc' := 46) (lv' := [(0, .ref m), (1, .int (nI x)), (2, .int (nI y)), (3, .long (lN (ks5 (kca nw x y F) j i))), (5, .long (lN (ks5 (kca nw x y G) j i))), (7, .long (lN (ks5 (kcb nw x y F F) j i))), (9, .long (lN (ks5 (kcb nw x y G G) j i))), (11, .long (lN (ks5 (kcb nw x y F G) j i))), (13, .int (nI j)), (14, .int (nI i)), (15, .long (lN (kwt j * kwt i)))]) Cx dX5_cell_44 rfl (by decide) rfl ?_
              refine j_aload_n (pc' := 47) Cx dX5_cell_46 rfl rfl rfl ?_
              refine j_get (pc' := 50) (N := 15) Cx dX5_cell_47 rfl kin_X5_cell_X5 kfl_X5_cell_16 0 rfl rfl 8 rfl rfl rfl ?_
              refine j_aload_n (pc' := 51) Cx dX5_cell_50 rfl rfl rfl ?_
              refine j_get (pc' := 54) (N := 15) Cx dX5_cell_51 rfl kin_X5_cell_X5 kfl_X5_cell_70 0 rfl rfl 6 rfl rfl rfl ?_
              refine j_iload_n (pc' := 55) Cx dX5_cell_54 rfl rfl rfl ?_
              refine j_iload (pc' := 57) Cx dX5_cell_55 rfl rfl ?_
              refine j_iadd_n (pc' := 58) Cx dX5_cell_57 rfl ?_
              refine j_imul_n (pc' := 59) Cx dX5_cell_58 rfl ?_
              refine j_top (v' := .int (nI ((y + j) * nw))) (congrArg (fun z : Nat => Value.int (nI z)) (show nw * (y + j) = (y + j) * nw from Nat.mul_comm _ _)) ?_
              refine j_iload_n (pc' := 60) Cx dX5_cell_59 rfl rfl rfl ?_
              refine j_iadd_n (pc' := 61) Cx dX5_cell_60 rfl ?_
              refine j_iload (pc' := 63) Cx dX5_cell_61 rfl rfl ?_
              refine j_iadd_n (pc' := 64) Cx dX5_cell_63 rfl ?_
              refine j_iaload_nn (pc' := 65) Cx dX5_cell_64 rfl 1 rfl (by omega) (by omega) ?_
              refine j_i2l_n (pc' := 66) Cx dX5_cell_65 rfl (by omega) ?_
              refine j_lstore (pc' := 68) (lv' := [(0, .ref m), (1, .int (nI x)), (2, .int (nI y)), (3, .long (lN (ks5 (kca nw x y F) j i))), (5, .long (lN (ks5 (kca nw x y G) j i))), (7, .long (lN (ks5 (kcb nw x y F F) j i))), (9, .long (lN (ks5 (kcb nw x y G G) j i))), (11, .long (lN (ks5 (kcb nw x y F G) j i))), (13, .int (nI j)), (14, .int (nI i)), (15, .long (lN (kwt j * kwt i))), (17, .long (lN (F ((((y + j) * nw) + x) + i))))]) Cx dX5_cell_66 rfl (by decide) rfl ?_
              refine j_aload_n (pc' := 69) Cx dX5_cell_68 rfl rfl rfl ?_
              refine j_get (pc' := 72) (N := 15) Cx dX5_cell_69 rfl kin_X5_cell_X5 kfl_X5_cell_19 0 rfl rfl 9 rfl rfl rfl ?_
              refine j_aload_n (pc' := 73) Cx dX5_cell_72 rfl rfl rfl ?_
              refine j_get (pc' := 76) (N := 15) Cx dX5_cell_73 rfl kin_X5_cell_X5 kfl_X5_cell_70 0 rfl rfl 6 rfl rfl rfl ?_
              refine j_iload_n (pc' := 77) Cx dX5_cell_76 rfl rfl rfl ?_
              refine j_iload (pc' := 79) Cx dX5_cell_77 rfl rfl ?_
              refine j_iadd_n (pc' := 80) Cx dX5_cell_79 rfl ?_
              refine j_imul_n (pc' := 81) Cx dX5_cell_80 rfl ?_
              refine j_top (v' := .int (nI ((y + j) * nw))) (congrArg (fun z : Nat => Value.int (nI z)) (show nw * (y + j) = (y + j) * nw from Nat.mul_comm _ _)) ?_
              refine j_iload_n (pc' := 82) Cx dX5_cell_81 rfl rfl rfl ?_
              refine j_iadd_n (pc' := 83) Cx dX5_cell_82 rfl ?_
              refine j_iload (pc' := 85) Cx dX5_cell_83 rfl rfl ?_
              refine j_iadd_n (pc' := 86) Cx dX5_cell_85 rfl ?_
              refine j_iaload_nn (pc' := 87) Cx dX5_cell_86 rfl 2 rfl (by omega) (by omega) ?_
              refine j_i2l_n (pc' := 88) Cx dX5_cell_87 rfl (by omega) ?_
              refine j_lstore (pc' := 90) (lv' := [(0, .ref m), (1, .int (nI x)), (2, .int (nI y)), (3, .long (lN (ks5 (kca nw x y F) j i))), (5, .long (lN (ks5 (kca nw x y G) j i))), (7, .long (lN (ks5 (kcb nw x y F F) j i))), (9, .long (lN (ks5 (kcb nw x y G G) j i))), (11, .long (lN (ks5 (kcb nw x y F G) j i))), (13, .int (nI j)), (14, .int (nI i)), (15, .long (lN (kwt j * kwt i))), (17, .long (lN (F ((((y + j) * nw) + x) + i)))), (19, .long (lN (G ((((y + j) * nw) + x) + i))))]) Cx dX5_cell_88 rfl (by decide) rfl ?_
              refine j_lload_n (pc' := 91) Cx dX5_cell_90 rfl rfl rfl ?_
              refine j_lload (pc' := 93) Cx dX5_cell_91 rfl rfl ?_
              refine j_lload (pc' := 95) Cx dX5_cell_93 rfl rfl ?_
              refine j_lmul_n (pc' := 96) Cx dX5_cell_95 rfl ?_
              refine j_ladd_n (pc' := 97) Cx dX5_cell_96 rfl ?_
              refine j_lstore_n (pc' := 98) (lv' := [(0, .ref m), (1, .int (nI x)), (2, .int (nI y)), (3, .long (lN ((ks5 (kca nw x y F) j i) + ((kwt j * kwt i) * (F ((((y + j) * nw) + x) + i)))))), (5, .long (lN (ks5 (kca nw x y G) j i))), (7, .long (lN (ks5 (kcb nw x y F F) j i))), (9, .long (lN (ks5 (kcb nw x y G G) j i))), (11, .long (lN (ks5 (kcb nw x y F G) j i))), (13, .int (nI j)), (14, .int (nI i)), (15, .long (lN (kwt j * kwt i))), (17, .long (lN (F ((((y + j) * nw) + x) + i)))), (19, .long (lN (G ((((y + j) * nw) + x) + i))))]) Cx dX5_cell_97 rfl rfl (by decide) rfl ?_
              refine j_lload (pc' := 100) Cx dX5_cell_98 rfl rfl ?_
              refine j_lload (pc' := 102) Cx dX5_cell_100 rfl rfl ?_
              refine j_lload (pc' := 104) Cx dX5_cell_102 rfl rfl ?_
              refine j_lmul_n (pc' := 105) Cx dX5_cell_104 rfl ?_
              refine j_ladd_n (pc' := 106) Cx dX5_cell_105 rfl ?_
              refine j_lstore (pc' := 108) (lv' := [(0, .ref m), (1, .int (nI x)), (2, .int (nI y)), (3, .long (lN ((ks5 (kca nw x y F) j i) + ((kwt j * kwt i) * (F ((((y + j) * nw) + x) + i)))))), (5, .long (lN ((ks5 (kca nw x y G) j i) + ((kwt j * kwt i) * (G ((((y + j) * nw) + x) + i)))))), (7, .long (lN (ks5 (kcb nw x y F F) j i))), (9, .long (lN (ks5 (kcb nw x y G G) j i))), (11, .long (lN (ks5 (kcb nw x y F G) j i))), (13, .int (nI j)), (14, .int (nI i)), (15, .long (lN (kwt j * kwt i))), (17, .long (lN (F ((((y + j) * nw) + x) + i)))), (19, .long (lN (G ((((y + j) * nw) + x) + i))))]) Cx dX5_cell_106 rfl (by decide) rfl ?_
              refine j_lload (pc' := 110) Cx dX5_cell_108 rfl rfl ?_
              refine j_lload (pc' := 112) Cx dX5_cell_110 rfl rfl ?_
              refine j_lload (pc' := 114) Cx dX5_cell_112 rfl rfl ?_
              refine j_lmul_n (pc' := 115) Cx dX5_cell_114 rfl ?_
              refine j_lload (pc' := 117) Cx dX5_cell_115 rfl rfl ?_
              refine j_lmul_n (pc' := 118) Cx dX5_cell_117 rfl ?_
              refine j_ladd_n (pc' := 119) Cx dX5_cell_118 rfl ?_
              refine j_lstore (pc' := 121) (lv' := [(0, .ref m), (1, .int (nI x)), (2, .int (nI y)), (3, .long (lN ((ks5 (kca nw x y F) j i) + ((kwt j * kwt i) * (F ((((y + j) * nw) + x) + i)))))), (5, .long (lN ((ks5 (kca nw x y G) j i) + ((kwt j * kwt i) * (G ((((y + j) * nw) + x) + i)))))), (7, .long (lN ((ks5 (kcb nw x y F F) j i) + (((kwt j * kwt i) * (F ((((y + j) * nw) + x) + i))) * (F ((((y + j) * nw) + x) + i)))))), (9, .long (lN (ks5 (kcb nw x y G G) j i))), (11, .long (lN (ks5 (kcb nw x y F G) j i))), (13, .int (nI j)), (14, .int (nI i)), (15, .long (lN (kwt j * kwt i))), (17, .long (lN (F ((((y + j) * nw) + x) + i)))), (19, .long (lN (G ((((y + j) * nw) + x) + i))))]) Cx dX5_cell_119 rfl (by decide) rfl ?_
              refine j_lload (pc' := 123) Cx dX5_cell_121 rfl rfl ?_
              refine j_lload (pc' := 125) Cx dX5_cell_123 rfl rfl ?_
              refine j_lload (pc' := 127) Cx dX5_cell_125 rfl rfl ?_
              refine j_lmul_n (pc' := 128) Cx dX5_cell_127 rfl ?_
              refine j_lload (pc' := 130) Cx dX5_cell_128 rfl rfl ?_
              refine j_lmul_n (pc' := 131) Cx dX5_cell_130 rfl ?_
              refine j_ladd_n (pc' := 132) Cx dX5_cell_131 rfl ?_
              refine j_lstore (pc' := 134) (lv' := [(0, .ref m), (1, .int (nI x)), (2, .int (nI y)), (3, .long (lN ((ks5 (kca nw x y F) j i) + ((kwt j * kwt i) * (F ((((y + j) * nw) + x) + i)))))), (5, .long (lN ((ks5 (kca nw x y G) j i) + ((kwt j * kwt i) * (G ((((y + j) * nw) + x) + i)))))), (7, .long (lN ((ks5 (kcb nw x y F F) j i) + (((kwt j * kwt i) * (F ((((y + j) * nw) + x) + i))) * (F ((((y + j) * nw) + x) + i)))))), (9, .long (lN ((ks5 (kcb nw x y G G) j i) + (((kwt j * kwt i) * (G ((((y + j) * nw) + x) + i))) * (G ((((y + j) * nw) + x) + i)))))), (11, .long (lN (ks5 (kcb nw x y F G) j i))), (13, .int (nI j)), (14, .int (nI i)), (15, .long (lN (kwt j * kwt i))), (17, .long (lN (F ((((y + j) * nw) + x) + i)))), (19, .long (lN (G ((((y + j) * nw) + x) + i))))]) Cx dX5_cell_132 rfl (by decide) rfl ?_
              refine j_lload (pc' := 136) Cx dX5_cell_134 rfl rfl ?_
              refine j_lload (pc' := 138) Cx dX5_cell_136 rfl rfl ?_
              refine j_lload (pc' := 140) Cx dX5_cell_138 rfl rfl ?_
              refine j_lmul_n (pc' := 141) Cx dX5_cell_140 rfl ?_
              refine j_lload (pc' := 143) Cx dX5_cell_141 rfl rfl ?_
              refine j_lmul_n (pc' := 144) Cx dX5_cell_143 rfl ?_
              refine j_ladd_n (pc' := 145) Cx dX5_cell_144 rfl ?_
              refine j_lstore (pc' := 147) (lv' := [(0, .ref m), (1, .int (nI x)), (2, .int (nI y)), (3, .long (lN ((ks5 (kca nw x y F) j i) + ((kwt j * kwt i) * (F ((((y + j) * nw) + x) + i)))))), (5, .long (lN ((ks5 (kca nw x y G) j i) + ((kwt j * kwt i) * (G ((((y + j) * nw) + x) + i)))))), (7, .long (lN ((ks5 (kcb nw x y F F) j i) + (((kwt j * kwt i) * (F ((((y + j) * nw) + x) + i))) * (F ((((y + j) * nw) + x) + i)))))), (9, .long (lN ((ks5 (kcb nw x y G G) j i) + (((kwt j * kwt i) * (G ((((y + j) * nw) + x) + i))) * (G ((((y + j) * nw) + x) + i)))))), (11, .long (lN ((ks5 (kcb nw x y F G) j i) + (((kwt j * kwt i) * (F ((((y + j) * nw) + x) + i))) * (G ((((y + j) * nw) + x) + i)))))), (13, .int (nI j)), (14, .int (nI i)), (15, .long (lN (kwt j * kwt i))), (17, .long (lN (F ((((y + j) * nw) + x) + i)))), (19, .long (lN (G ((((y + j) * nw) + x) + i))))]) Cx dX5_cell_145 rfl (by decide) rfl ?_
              refine j_iinc_n (pc' := 150) (z := 1) (a := i) (lv' := [(0, .ref m), (1, .int (nI x)), (2, .int (nI y)), (3, .long (lN ((ks5 (kca nw x y F) j i) + ((kwt j * kwt i) * (F ((((y + j) * nw) + x) + i)))))), (5, .long (lN ((ks5 (kca nw x y G) j i) + ((kwt j * kwt i) * (G ((((y + j) * nw) + x) + i)))))), (7, .long (lN ((ks5 (kcb nw x y F F) j i) + (((kwt j * kwt i) * (F ((((y + j) * nw) + x) + i))) * (F ((((y + j) * nw) + x) + i)))))), (9, .long (lN ((ks5 (kcb nw x y G G) j i) + (((kwt j * kwt i) * (G ((((y + j) * nw) + x) + i))) * (G ((((y + j) * nw) + x) + i)))))), (11, .long (lN ((ks5 (kcb nw x y F G) j i) + (((kwt j * kwt i) * (F ((((y + j) * nw) + x) + i))) * (G ((((y + j) * nw) + x) + i)))))), (13, .int (nI j)), (14, .int (nI (i + 1))), (15, .long (lN (kwt j * kwt i))), (17, .long (lN (F ((((y + j) * nw) + x) + i)))), (19, .long (lN (G ((((y + j) * nw) + x) + i))))]) Cx dX5_cell_147 rfl rfl (by decide) rfl ?_
              refine j_goto (tgt := 26) Cx dX5_cell_150 (by decide) ?_
              refine J.lvs (lv' := [(0, .ref m), (1, .int (nI x)), (2, .int (nI y)), (3, .long (lN ((ks5 (kca nw x y F) j i) + ((kwt j * kwt i) * (F ((((y + j) * nw) + x) + i)))))), (5, .long (lN ((ks5 (kca nw x y G) j i) + ((kwt j * kwt i) * (G ((((y + j) * nw) + x) + i)))))), (7, .long (lN ((ks5 (kcb nw x y F F) j i) + (((kwt j * kwt i) * (F ((((y + j) * nw) + x) + i))) * (F ((((y + j) * nw) + x) + i)))))), (9, .long (lN ((ks5 (kcb nw x y G G) j i) + (((kwt j * kwt i) * (G ((((y + j) * nw) + x) + i))) * (G ((((y + j) * nw) + x) + i)))))), (11, .long (lN ((ks5 (kcb nw x y F G) j i) + (((kwt j * kwt i) * (F ((((y + j) * nw) + x) + i))) * (G ((((y + j) * nw) + x) + i)))))), (13, .int (nI j)), (14, .int (nI (i + 1)))]) [0, 1, 2, 3, 5, 7, 9, 11, 13, 14] rfl ?_
              refine J.cast (ws' := [(m, .inr (5, [.int (nI W), .int (nI H), .int (nI C), .int (fa), .ref o1, .ref o2, .int (nI nw), .int (nI nh), .ref go, .ref gt, .ref po, .ref pt, .ref my, .ref no, .ref so])), (go, .inl (ty 0, 576, .inl (kN F))), (gt, .inl (ty 0, 576, .inl (kN G)))]) (lv' := [(0, .ref m), (1, .int (nI x)), (2, .int (nI y)), (3, .long (lN (ks5 (kca nw x y F) j (i + 1)))), (5, .long (lN (ks5 (kca nw x y G) j (i + 1)))), (7, .long (lN (ks5 (kcb nw x y F F) j (i + 1)))), (9, .long (lN (ks5 (kcb nw x y G G) j (i + 1)))), (11, .long (lN (ks5 (kcb nw x y F G) j (i + 1)))), (13, .int (nI j)), (14, .int (nI (i + 1)))]) (pc' := 26) (st' := []) (rfl) (by rw [← ks5_i (kca nw x y F), ← ks5_i (kca nw x y G), ← ks5_i (kcb nw x y F F), ← ks5_i (kcb nw x y G G), ← ks5_i (kcb nw x y F G)]) rfl (rfl) rfl rfl ?_
              exact LQ_ih (i + 1) (by omega) (by omega)
        refine J.cast (ws' := [(m, .inr (5, [.int (nI W), .int (nI H), .int (nI C), .int (fa), .ref o1, .ref o2, .int (nI nw), .int (nI nh), .ref go, .ref gt, .ref po, .ref pt, .ref my, .ref no, .ref so])), (go, .inl (ty 0, 576, .inl (kN F))), (gt, .inl (ty 0, 576, .inl (kN G)))]) (lv' := [(0, .ref m), (1, .int (nI x)), (2, .int (nI y)), (3, .long (lN (ks5 (kca nw x y F) j 0))), (5, .long (lN (ks5 (kca nw x y G) j 0))), (7, .long (lN (ks5 (kcb nw x y F F) j 0))), (9, .long (lN (ks5 (kcb nw x y G G) j 0))), (11, .long (lN (ks5 (kcb nw x y F G) j 0))), (13, .int (nI j)), (14, .int (nI 0))]) (pc' := 26) (st' := []) (rfl) (rfl) rfl (rfl) rfl rfl ?_
        exact LQ 6 0 (by omega) (Nat.zero_le _)
  refine J.cast (ws' := [(m, .inr (5, [.int (nI W), .int (nI H), .int (nI C), .int (fa), .ref o1, .ref o2, .int (nI nw), .int (nI nh), .ref go, .ref gt, .ref po, .ref pt, .ref my, .ref no, .ref so])), (go, .inl (ty 0, 576, .inl (kN F))), (gt, .inl (ty 0, 576, .inl (kN G)))]) (lv' := [(0, .ref m), (1, .int (nI x)), (2, .int (nI y)), (3, .long (lN (ks5 (kca nw x y F) 0 0))), (5, .long (lN (ks5 (kca nw x y G) 0 0))), (7, .long (lN (ks5 (kcb nw x y F F) 0 0))), (9, .long (lN (ks5 (kcb nw x y G G) 0 0))), (11, .long (lN (ks5 (kcb nw x y F G) 0 0))), (13, .int (nI 0))]) (pc' := 17) (st' := []) (rfl) (rfl) rfl (rfl) rfl rfl ?_
  exact LP 6 0 (by omega) (Nat.zero_le _)
