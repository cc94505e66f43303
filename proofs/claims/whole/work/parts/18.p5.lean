set_option maxHeartbeats 4000000 in
set_option maxRecDepth 100000 in
/-- squared -/
theorem c_X4_squared (l : Launch) (hl0 : l.stackTraces = false) (D : va_G) (ty : Nat → ClassId) (v p1 p2 sg q1 q2 cs W H C S : Nat) (a1 a2 N : Nat) (A B : Nat → Nat) (hA : ∀ i, A i < 256) (hB : ∀ i, B i < 256) (hW : W ≤ 24) (hH : H ≤ 24) (hW1 : 1 ≤ W) (hH1 : 1 ≤ H) (h1 : 1 ≤ C) (h3 : C ≤ 3) (hN : N = (W * H) * C) (x : Int32) : KT l yX4_squared wsX4_squared { frames := 6, cells := 1, slots := 6, locals := 84 } D ty [.ref v, .int (x)] [(v, .inr (4, [.int (nI W), .int (nI H), .int (nI C), .int (nI S), .ref p1, .ref p2, .ref sg, .ref q1, .ref q2, .ref cs])), (p1, .inr (2, [.int (nI C), .ref a1])), (a1, .inl (ty 0, N, .inl (kN A))), (p2, .inr (2, [.int (nI C), .ref a2])), (a2, .inl (ty 0, N, .inl (kN B)))] (kF (fun r u => ∃ i, i < C ∧ x = nI i ∧ r = FP.ddiv (FP.l2d (lN (ksum (fun p => kd (A (p * C + i)) (B (p * C + i)) * kd (A (p * C + i)) (B (p * C + i))) (W * H)))) (FP.i2d (nI (W * H))) ∧ u = [(v, .inr (4, [.int (nI W), .int (nI H), .int (nI C), .int (nI S), .ref p1, .ref p2, .ref sg, .ref q1, .ref q2, .ref cs])), (p1, .inr (2, [.int (nI C), .ref a1])), (a1, .inl (ty 0, N, .inl (kN A))), (p2, .inr (2, [.int (nI C), .ref a2])), (a2, .inl (ty 0, N, .inl (kN B)))])) (fun E u => E = kIOB ∧ ¬ kok x C ∧ u = [(v, .inr (4, [.int (nI W), .int (nI H), .int (nI C), .int (nI S), .ref p1, .ref p2, .ref sg, .ref q1, .ref q2, .ref cs])), (p1, .inr (2, [.int (nI C), .ref a1])), (a1, .inl (ty 0, N, .inl (kN A))), (p2, .inr (2, [.int (nI C), .ref a2])), (a2, .inl (ty 0, N, .inl (kN B)))]) 1 6 := by
  refine KT.of (cc := cX4_squared) (maxL := 4) (ret := (some .double)) (lv := [(0, .ref v), (1, .int (x))]) hl0 (by decide +kernel) rfl rfl rfl (fun X C0 R0 => ?_)
  have Cx : kC X cX4_squared wsX4_squared RX4 { frames := 6, cells := 1, slots := 6, locals := 84 } "squared" l D ty 4 := C0
  have hwh := k_wh hW hH
  have hN2 : N ≤ 1728 := by rw [hN]; exact Nat.le_trans (Nat.mul_le_mul hwh h3) (by decide)
  have hp : 1 * 1 ≤ W * H := Nat.mul_le_mul hW1 hH1
  by_cases hx : kok x C
  · obtain ⟨i, hi, rfl⟩ := hx
    refine j_aload_n (pc' := 1) Cx dX4_squared_0 rfl rfl rfl ?_
    refine j_iload_n (pc' := 2) Cx dX4_squared_1 rfl rfl rfl ?_
    refine j_callV (pc' := 5) (wr := [(p1, .inr (2, [.int (nI C), .ref a1])), (a1, .inl (ty 0, N, .inl (kN A))), (p2, .inr (2, [.int (nI C), .ref a2])), (a2, .inl (ty 0, N, .inl (kN B)))]) (st := []) Cx dX4_squared_2 rfl (c_X4_hasChannel l D ty v p1 p2 sg q1 q2 cs W H C S i hi h3) gX4_squared_X4_hasChannel rfl khd_X4_hasChannel rfl ⟨rfl, rfl, Nat.le_of_ble_eq_true rfl, Nat.le_of_ble_eq_true rfl⟩ [0] [1, 2, 3, 4] rfl rfl ⟨rfl, rfl⟩ (by decide) 0 rfl rfl rfl (Nat.le_of_ble_eq_true rfl) ⟨Nat.le_of_ble_eq_true rfl, Nat.le_of_ble_eq_true rfl⟩ (fun v u hpost => ?_)
    obtain ⟨r, rfl, rfl, rfl⟩ := hpost
    show J X [(p1, .inr (2, [.int (nI C), .ref a1])), (a1, .inl (ty 0, N, .inl (kN A))), (p2, .inr (2, [.int (nI C), .ref a2])), (a2, .inl (ty 0, N, .inl (kN B))), (v, .inr (4, [.int (nI W), .int (nI H), .int (nI C), .int (nI S), .ref p1, .ref p2, .ref sg, .ref q1, .ref q2, .ref cs]))] [(0, .ref v), (1, .int (nI i))] 5 [.int (nI 1)] 0 0
    refine J.sub (ws' := [(v, .inr (4, [.int (nI W), .int (nI H), .int (nI C), .int (nI S), .ref p1, .ref p2, .ref sg, .ref q1, .ref q2, .ref cs])), (p1, .inr (2, [.int (nI C), .ref a1])), (a1, .inl (ty 0, N, .inl (kN A))), (p2, .inr (2, [.int (nI C), .ref a2])), (a2, .inl (ty 0, N, .inl (kN B)))]) [4, 0, 1, 2, 3] rfl rfl ?_
    refine j_if_ne_n (tgt := 18) (pc' := 8) Cx dX4_squared_5 (by decide) rfl (by omega) (fun _ => ?_) (fun hh => absurd hh (by decide))
    refine j_aload_n (pc' := 19) Cx dX4_squared_18 rfl rfl rfl ?_
    refine j_get (pc' := 22) (N := 10) Cx dX4_squared_19 rfl kin_X4_squared_X4 kfl_X4_squared_34 0 rfl rfl 4 rfl rfl rfl ?_
    refine j_aload_n (pc' := 23) Cx dX4_squared_22 rfl rfl rfl ?_
    refine j_get (pc' := 26) (N := 10) Cx dX4_squared_23 rfl kin_X4_squared_X4 kfl_X4_squared_38 0 rfl rfl 5 rfl rfl rfl ?_
    refine j_iload_n (pc' := 27) Cx dX4_squared_26 rfl rfl rfl ?_
    refine j_callV (pc' := 30) (wr := [(v, .inr (4, [.int (nI W), .int (nI H), .int (nI C), .int (nI S), .ref p1, .ref p2, .ref sg, .ref q1, .ref q2, .ref cs]))]) (st := []) Cx dX4_squared_27 rfl (c_X2_squaresAgainst l D ty p1 a1 p2 a2 C N A B hA hB hN2 (W * H) i hN hi h3) gX4_squared_X2_squaresAgainst rfl khd_X2_squaresAgainst rfl ⟨rfl, rfl, Nat.le_of_ble_eq_true rfl, Nat.le_of_ble_eq_true rfl⟩ [1, 2, 3, 4] [0] rfl rfl ⟨rfl, rfl⟩ (by decide) 1 rfl rfl rfl (Nat.le_of_ble_eq_true rfl) ⟨Nat.le_of_ble_eq_true rfl, Nat.le_of_ble_eq_true rfl⟩ (fun v u hpost => ?_)
    obtain ⟨r, rfl, rfl, rfl⟩ := hpost
    show J X [(v, .inr (4, [.int (nI W), .int (nI H), .int (nI C), .int (nI S), .ref p1, .ref p2, .ref sg, .ref q1, .ref q2, .ref cs])), (p1, .inr (2, [.int (nI C), .ref a1])), (a1, .inl (ty 0, N, .inl (kN A))), (p2, .inr (2, [.int (nI C), .ref a2])), (a2, .inl (ty 0, N, .inl (kN B)))] [(0, .ref v), (1, .int (nI i))] 30 [.long (lN (ksum (fun p => kd (A (p * C + i)) (B (p * C + i)) * kd (A (p * C + i)) (B (p * C + i))) (W * H)))] 0 0
    refine j_lstore_n (pc' := 31) (lv' := [(0, .ref v), (1, .int (nI i)), (2, .long (lN (ksum (fun p => kd (A (p * C + i)) (B (p * C + i)) * kd (A (p * C + i)) (B (p * C + i))) (W * H))))]) Cx dX4_squared_30 rfl rfl (by decide) rfl ?_
    refine j_lload_n (pc' := 32) Cx dX4_squared_31 rfl rfl rfl ?_
    refine j_aload_n (pc' := 33) Cx dX4_squared_32 rfl rfl rfl ?_
    refine j_get (pc' := 36) (N := 10) Cx dX4_squared_33 rfl kin_X4_squared_X4 kfl_X4_squared_13 0 rfl rfl 0 rfl rfl rfl ?_
    refine j_aload_n (pc' := 37) Cx dX4_squared_36 rfl rfl rfl ?_
    refine j_get (pc' := 40) (N := 10) Cx dX4_squared_37 rfl kin_X4_squared_X4 kfl_X4_squared_17 0 rfl rfl 1 rfl rfl rfl ?_
    refine j_imul_n (pc' := 41) Cx dX4_squared_40 rfl ?_
    refine j_callS (pc' := 44) (wr := [(v, .inr (4, [.int (nI W), .int (nI H), .int (nI C), .int (nI S), .ref p1, .ref p2, .ref sg, .ref q1, .ref q2, .ref cs])), (p1, .inr (2, [.int (nI C), .ref a1])), (a1, .inl (ty 0, N, .inl (kN A))), (p2, .inr (2, [.int (nI C), .ref a2])), (a2, .inl (ty 0, N, .inl (kN B)))]) (st := []) Cx dX4_squared_41 rfl (c_X4_quotient l D ty (lN (ksum (fun p => kd (A (p * C + i)) (B (p * C + i)) * kd (A (p * C + i)) (B (p * C + i))) (W * H))) (W * H) (by omega) (by omega)) gX4_squared_X4_quotient rfl khd_X4_quotient rfl ⟨rfl, rfl, Nat.le_of_ble_eq_true rfl, Nat.le_of_ble_eq_true rfl⟩ [] [0, 1, 2, 3, 4] rfl rfl ⟨rfl, rfl⟩ (by decide) rfl (Nat.le_of_ble_eq_true rfl) ⟨Nat.le_of_ble_eq_true rfl, Nat.le_of_ble_eq_true rfl⟩ (fun v u hpost => ?_)
    obtain ⟨r, rfl, rfl, rfl⟩ := hpost
    show J X [(v, .inr (4, [.int (nI W), .int (nI H), .int (nI C), .int (nI S), .ref p1, .ref p2, .ref sg, .ref q1, .ref q2, .ref cs])), (p1, .inr (2, [.int (nI C), .ref a1])), (a1, .inl (ty 0, N, .inl (kN A))), (p2, .inr (2, [.int (nI C), .ref a2])), (a2, .inl (ty 0, N, .inl (kN B)))] [(0, .ref v), (1, .int (nI i)), (2, .long (lN (ksum (fun p => kd (A (p * C + i)) (B (p * C + i)) * kd (A (p * C + i)) (B (p * C + i))) (W * H))))] 44 [.double (FP.ddiv (FP.l2d (lN (ksum (fun p => kd (A (p * C + i)) (B (p * C + i)) * kd (A (p * C + i)) (B (p * C + i))) (W * H)))) (FP.i2d (nI (W * H))))] 0 0
    exact j_dretT Cx dX4_squared_44 R0 ⟨Nat.le_of_ble_eq_true rfl, Nat.le_of_ble_eq_true rfl⟩ (⟨_, rfl, i, hi, rfl, rfl, rfl⟩)
  · refine j_aload_n (pc' := 1) Cx dX4_squared_0 rfl rfl rfl ?_
    refine j_iload_n (pc' := 2) Cx dX4_squared_1 rfl rfl rfl ?_
    refine j_callV (pc' := 5) (wr := [(p1, .inr (2, [.int (nI C), .ref a1])), (a1, .inl (ty 0, N, .inl (kN A))), (p2, .inr (2, [.int (nI C), .ref a2])), (a2, .inl (ty 0, N, .inl (kN B)))]) (st := []) Cx dX4_squared_2 rfl (c_X4_hasChannel_no l D ty v p1 p2 sg q1 q2 cs W H C S x hx h3) gX4_squared_X4_hasChannel rfl khd_X4_hasChannel rfl ⟨rfl, rfl, Nat.le_of_ble_eq_true rfl, Nat.le_of_ble_eq_true rfl⟩ [0] [1, 2, 3, 4] rfl rfl ⟨rfl, rfl⟩ (by decide) 0 rfl rfl rfl (Nat.le_of_ble_eq_true rfl) ⟨Nat.le_of_ble_eq_true rfl, Nat.le_of_ble_eq_true rfl⟩ (fun v u hpost => ?_)
    obtain ⟨r, rfl, rfl, rfl⟩ := hpost
    show J X [(p1, .inr (2, [.int (nI C), .ref a1])), (a1, .inl (ty 0, N, .inl (kN A))), (p2, .inr (2, [.int (nI C), .ref a2])), (a2, .inl (ty 0, N, .inl (kN B))), (v, .inr (4, [.int (nI W), .int (nI H), .int (nI C), .int (nI S), .ref p1, .ref p2, .ref sg, .ref q1, .ref q2, .ref cs]))] [(0, .ref v), (1, .int (x))] 5 [.int (nI 0)] 0 0
    refine J.sub (ws' := [(v, .inr (4, [.int (nI W), .int (nI H), .int (nI C), .int (nI S), .ref p1, .ref p2, .ref sg, .ref q1, .ref q2, .ref cs])), (p1, .inr (2, [.int (nI C), .ref a1])), (a1, .inl (ty 0, N, .inl (kN A))), (p2, .inr (2, [.int (nI C), .ref a2])), (a2, .inl (ty 0, N, .inl (kN B)))]) [4, 0, 1, 2, 3] rfl rfl ?_
    refine j_if_ne_n (tgt := 18) (pc' := 8) Cx dX4_squared_5 (by decide) rfl (by omega) (fun hh => absurd hh (by decide)) (fun _ => ?_)
    exact j_throw Cx R0 (cls := kIOB) (text := "no such channel") dX4_squared_8 dX4_squared_11 dX4_squared_12 dX4_squared_14 dX4_squared_17 (by decide) (by decide +kernel) kthr_X4_squared_73 ⟨Nat.le_of_ble_eq_true rfl, Nat.le_of_ble_eq_true rfl, Nat.le_of_ble_eq_true rfl, Nat.le_of_ble_eq_true rfl⟩ ⟨Nat.le_of_ble_eq_true rfl, Nat.le_of_ble_eq_true rfl⟩ (⟨rfl, hx, rfl⟩)

set_option maxHeartbeats 4000000 in
set_option maxRecDepth 100000 in
/-- grey -/
theorem c_X4_grey (l : Launch) (hl0 : l.stackTraces = false) (D : va_G) (ty : Nat → ClassId) (v p1 p2 sg q1 q2 cs W H C S : Nat) (a1 a2 N : Nat) (A B : Nat → Nat) (hA : ∀ i, A i < 256) (hB : ∀ i, B i < 256) (hW : W ≤ 24) (hH : H ≤ 24) (hW1 : 1 ≤ W) (hH1 : 1 ≤ H) (h1 : 1 ≤ C) (h3 : C ≤ 3) (hN : N = (W * H) * C) (b x y : Int32) : KT l yX4_grey wsX4_grey { frames := 6, cells := 1, slots := 6, locals := 84 } D ty [.ref v, .int (b), .int (x), .int (y)] [(v, .inr (4, [.int (nI W), .int (nI H), .int (nI C), .int (nI S), .ref p1, .ref p2, .ref sg, .ref q1, .ref q2, .ref cs])), (p1, .inr (2, [.int (nI C), .ref a1])), (a1, .inl (ty 0, N, .inl (kN A))), (p2, .inr (2, [.int (nI C), .ref a2])), (a2, .inl (ty 0, N, .inl (kN B)))] (kI (fun r u => ∃ i j, i < W ∧ j < H ∧ x = nI i ∧ y = nI j ∧ r = nI (kg C (if b = 0 then B else A) (j * W + i)) ∧ u = [(v, .inr (4, [.int (nI W), .int (nI H), .int (nI C), .int (nI S), .ref p1, .ref p2, .ref sg, .ref q1, .ref q2, .ref cs])), (p1, .inr (2, [.int (nI C), .ref a1])), (a1, .inl (ty 0, N, .inl (kN A))), (p2, .inr (2, [.int (nI C), .ref a2])), (a2, .inl (ty 0, N, .inl (kN B)))])) (fun E u => E = kIOB ∧ ¬ (kok x W ∧ kok y H) ∧ u = [(v, .inr (4, [.int (nI W), .int (nI H), .int (nI C), .int (nI S), .ref p1, .ref p2, .ref sg, .ref q1, .ref q2, .ref cs])), (p1, .inr (2, [.int (nI C), .ref a1])), (a1, .inl (ty 0, N, .inl (kN A))), (p2, .inr (2, [.int (nI C), .ref a2])), (a2, .inl (ty 0, N, .inl (kN B)))]) 1 6 := by
  refine KT.of (cc := cX4_grey) (maxL := 4) (ret := (some .int)) (lv := [(0, .ref v), (1, .int (b)), (2, .int (x)), (3, .int (y))]) hl0 (by decide +kernel) rfl rfl rfl (fun X C0 R0 => ?_)
  have Cx : kC X cX4_grey wsX4_grey RX4 { frames := 6, cells := 1, slots := 6, locals := 84 } "grey" l D ty 4 := C0
  have hwh := k_wh hW hH
  have hN2 : N ≤ 1728 := by rw [hN]; exact Nat.le_trans (Nat.mul_le_mul hwh h3) (by decide)
  by_cases hx : kok x W ∧ kok y H
  · obtain ⟨⟨i, hi, rfl⟩, j, hj, rfl⟩ := hx
    have hp := k_idx hi hj
    refine j_aload_n (pc' := 1) Cx dX4_grey_0 rfl rfl rfl ?_
    refine j_iload_n (pc' := 2) Cx dX4_grey_1 rfl rfl rfl ?_
    refine j_iload_n (pc' := 3) Cx dX4_grey_2 rfl rfl rfl ?_
    refine j_callV (pc' := 6) (wr := [(p1, .inr (2, [.int (nI C), .ref a1])), (a1, .inl (ty 0, N, .inl (kN A))), (p2, .inr (2, [.int (nI C), .ref a2])), (a2, .inl (ty 0, N, .inl (kN B)))]) (st := []) Cx dX4_grey_3 rfl (c_X4_hasPlace l D ty v p1 p2 sg q1 q2 cs W H C S i j hi hj hW hH) gX4_grey_X4_hasPlace rfl khd_X4_hasPlace rfl ⟨rfl, rfl, Nat.le_of_ble_eq_true rfl, Nat.le_of_ble_eq_true rfl⟩ [0] [1, 2, 3, 4] rfl rfl ⟨rfl, rfl⟩ (by decide) 0 rfl rfl rfl (Nat.le_of_ble_eq_true rfl) ⟨Nat.le_of_ble_eq_true rfl, Nat.le_of_ble_eq_true rfl⟩ (fun v u hpost => ?_)
    obtain ⟨r, rfl, rfl, rfl⟩ := hpost
    show J X [(p1, .inr (2, [.int (nI C), .ref a1])), (a1, .inl (ty 0, N, .inl (kN A))), (p2, .inr (2, [.int (nI C), .ref a2])), (a2, .inl (ty 0, N, .inl (kN B))), (v, .inr (4, [.int (nI W), .int (nI H), .int (nI C), .int (nI S), .ref p1, .ref p2, .ref sg, .ref q1, .ref q2, .ref cs]))] [(0, .ref v), (1, .int (b)), (2, .int (nI i)), (3, .int (nI j))] 6 [.int (nI 1)] 0 0
    refine J.sub (ws' := [(v, .inr (4, [.int (nI W), .int (nI H), .int (nI C), .int (nI S), .ref p1, .ref p2, .ref sg, .ref q1, .ref q2, .ref cs])), (p1, .inr (2, [.int (nI C), .ref a1])), (a1, .inl (ty 0, N, .inl (kN A))), (p2, .inr (2, [.int (nI C), .ref a2])), (a2, .inl (ty 0, N, .inl (kN B)))]) [4, 0, 1, 2, 3] rfl rfl ?_
    refine j_if_ne_n (tgt := 19) (pc' := 9) Cx dX4_grey_6 (by decide) rfl (by omega) (fun _ => ?_) (fun hh => absurd hh (by decide))
    by_cases hb : b = 0
    · refine j_aload_n (pc' := 20) Cx dX4_grey_19 rfl rfl rfl ?_
      refine j_iload_n (pc' := 21) Cx dX4_grey_20 rfl rfl rfl ?_
      refine j_callV (pc' := 24) (wr := [(p1, .inr (2, [.int (nI C), .ref a1])), (a1, .inl (ty 0, N, .inl (kN A))), (p2, .inr (2, [.int (nI C), .ref a2])), (a2, .inl (ty 0, N, .inl (kN B)))]) (st := []) Cx dX4_grey_21 rfl (c_X4_pictureOf2 l D ty v p1 p2 sg q1 q2 cs W H C S b hb) gX4_grey_X4_pictureOf rfl khd_X4_pictureOf rfl ⟨rfl, rfl, Nat.le_of_ble_eq_true rfl, Nat.le_of_ble_eq_true rfl⟩ [0] [1, 2, 3, 4] rfl rfl ⟨rfl, rfl⟩ (by decide) 0 rfl rfl rfl (Nat.le_of_ble_eq_true rfl) ⟨Nat.le_of_ble_eq_true rfl, Nat.le_of_ble_eq_true rfl⟩ (fun v u hpost => ?_)
      obtain ⟨r, rfl, rfl, rfl⟩ := hpost
      show J X [(p1, .inr (2, [.int (nI C), .ref a1])), (a1, .inl (ty 0, N, .inl (kN A))), (p2, .inr (2, [.int (nI C), .ref a2])), (a2, .inl (ty 0, N, .inl (kN B))), (v, .inr (4, [.int (nI W), .int (nI H), .int (nI C), .int (nI S), .ref p1, .ref p2, .ref sg, .ref q1, .ref q2, .ref cs]))] [(0, .ref v), (1, .int (b)), (2, .int (nI i)), (3, .int (nI j))] 24 [.ref p2] 0 0
      refine J.sub (ws' := [(v, .inr (4, [.int (nI W), .int (nI H), .int (nI C), .int (nI S), .ref p1, .ref p2, .ref sg, .ref q1, .ref q2, .ref cs])), (p1, .inr (2, [.int (nI C), .ref a1])), (a1, .inl (ty 0, N, .inl (kN A))), (p2, .inr (2, [.int (nI C), .ref a2])), (a2, .inl (ty 0, N, .inl (kN B)))]) [4, 0, 1, 2, 3] rfl rfl ?_
      refine j_aload_n (pc' := 25) Cx dX4_grey_24 rfl rfl rfl ?_
      refine j_iload_n (pc' := 26) Cx dX4_grey_25 rfl rfl rfl ?_
      refine j_iload_n (pc' := 27) Cx dX4_grey_26 rfl rfl rfl ?_
      refine j_callV (pc' := 30) (wr := [(p1, .inr (2, [.int (nI C), .ref a1])), (a1, .inl (ty 0, N, .inl (kN A))), (p2, .inr (2, [.int (nI C), .ref a2])), (a2, .inl (ty 0, N, .inl (kN B)))]) (st := [.ref p2]) Cx dX4_grey_27 rfl (c_X4_placeOf l D ty v p1 p2 sg q1 q2 cs W H C S i j) gX4_grey_X4_placeOf rfl khd_X4_placeOf rfl ⟨rfl, rfl, Nat.le_of_ble_eq_true rfl, Nat.le_of_ble_eq_true rfl⟩ [0] [1, 2, 3, 4] rfl rfl ⟨rfl, rfl⟩ (by decide) 0 rfl rfl rfl (Nat.le_of_ble_eq_true rfl) ⟨Nat.le_of_ble_eq_true rfl, Nat.le_of_ble_eq_true rfl⟩ (fun v u hpost => ?_)
      obtain ⟨r, rfl, rfl, rfl⟩ := hpost
      show J X [(p1, .inr (2, [.int (nI C), .ref a1])), (a1, .inl (ty 0, N, .inl (kN A))), (p2, .inr (2, [.int (nI C), .ref a2])), (a2, .inl (ty 0, N, .inl (kN B))), (v, .inr (4, [.int (nI W), .int (nI H), .int (nI C), .int (nI S), .ref p1, .ref p2, .ref sg, .ref q1, .ref q2, .ref cs]))] [(0, .ref v), (1, .int (b)), (2, .int (nI i)), (3, .int (nI j))] 30 [.int (nI (j * W + i)), .ref p2] 0 0
      refine J.sub (ws' := [(v, .inr (4, [.int (nI W), .int (nI H), .int (nI C), .int (nI S), .ref p1, .ref p2, .ref sg, .ref q1, .ref q2, .ref cs])), (p1, .inr (2, [.int (nI C), .ref a1])), (a1, .inl (ty 0, N, .inl (kN A))), (p2, .inr (2, [.int (nI C), .ref a2])), (a2, .inl (ty 0, N, .inl (kN B)))]) [4, 0, 1, 2, 3] rfl rfl ?_
      refine j_callV (pc' := 33) (wr := [(v, .inr (4, [.int (nI W), .int (nI H), .int (nI C), .int (nI S), .ref p1, .ref p2, .ref sg, .ref q1, .ref q2, .ref cs])), (p1, .inr (2, [.int (nI C), .ref a1])), (a1, .inl (ty 0, N, .inl (kN A)))]) (st := []) Cx dX4_grey_30 rfl (c_X2_greyAt l D ty p2 a2 C N (W * H) (j * W + i) B hB hN2 hN hp h1 h3) gX4_grey_X2_greyAt rfl khd_X2_greyAt rfl ⟨rfl, rfl, Nat.le_of_ble_eq_true rfl, Nat.le_of_ble_eq_true rfl⟩ [3, 4] [0, 1, 2] rfl rfl ⟨rfl, rfl⟩ (by decide) 3 rfl rfl rfl (Nat.le_of_ble_eq_true rfl) ⟨Nat.le_of_ble_eq_true rfl, Nat.le_of_ble_eq_true rfl⟩ (fun v u hpost => ?_)
      obtain ⟨r, rfl, rfl, rfl⟩ := hpost
      show J X [(v, .inr (4, [.int (nI W), .int (nI H), .int (nI C), .int (nI S), .ref p1, .ref p2, .ref sg, .ref q1, .ref q2, .ref cs])), (p1, .inr (2, [.int (nI C), .ref a1])), (a1, .inl (ty 0, N, .inl (kN A))), (p2, .inr (2, [.int (nI C), .ref a2])), (a2, .inl (ty 0, N, .inl (kN B)))] [(0, .ref v), (1, .int (b)), (2, .int (nI i)), (3, .int (nI j))] 33 [.int (nI (kg C B (j * W + i)))] 0 0
      exact j_iretT Cx dX4_grey_33 R0 ⟨Nat.le_of_ble_eq_true rfl, Nat.le_of_ble_eq_true rfl⟩ (⟨_, rfl, i, j, hi, hj, rfl, rfl, by rw [if_pos hb], rfl⟩)
    · refine j_aload_n (pc' := 20) Cx dX4_grey_19 rfl rfl rfl ?_
      refine j_iload_n (pc' := 21) Cx dX4_grey_20 rfl rfl rfl ?_
      refine j_callV (pc' := 24) (wr := [(p1, .inr (2, [.int (nI C), .ref a1])), (a1, .inl (ty 0, N, .inl (kN A))), (p2, .inr (2, [.int (nI C), .ref a2])), (a2, .inl (ty 0, N, .inl (kN B)))]) (st := []) Cx dX4_grey_21 rfl (c_X4_pictureOf1 l D ty v p1 p2 sg q1 q2 cs W H C S b hb) gX4_grey_X4_pictureOf rfl khd_X4_pictureOf rfl ⟨rfl, rfl, Nat.le_of_ble_eq_true rfl, Nat.le_of_ble_eq_true rfl⟩ [0] [1, 2, 3, 4] rfl rfl ⟨rfl, rfl⟩ (by decide) 0 rfl rfl rfl (Nat.le_of_ble_eq_true rfl) ⟨Nat.le_of_ble_eq_true rfl, Nat.le_of_ble_eq_true rfl⟩ (fun v u hpost => ?_)
      obtain ⟨r, rfl, rfl, rfl⟩ := hpost
      show J X [(p1, .inr (2, [.int (nI C), .ref a1])), (a1, .inl (ty 0, N, .inl (kN A))), (p2, .inr (2, [.int (nI C), .ref a2])), (a2, .inl (ty 0, N, .inl (kN B))), (v, .inr (4, [.int (nI W), .int (nI H), .int (nI C), .int (nI S), .ref p1, .ref p2, .ref sg, .ref q1, .ref q2, .ref cs]))] [(0, .ref v), (1, .int (b)), (2, .int (nI i)), (3, .int (nI j))] 24 [.ref p1] 0 0
      refine J.sub (ws' := [(v, .inr (4, [.int (nI W), .int (nI H), .int (nI C), .int (nI S), .ref p1, .ref p2, .ref sg, .ref q1, .ref q2, .ref cs])), (p1, .inr (2, [.int (nI C), .ref a1])), (a1, .inl (ty 0, N, .inl (kN A))), (p2, .inr (2, [.int (nI C), .ref a2])), (a2, .inl (ty 0, N, .inl (kN B)))]) [4, 0, 1, 2, 3] rfl rfl ?_
      refine j_aload_n (pc' := 25) Cx dX4_grey_24 rfl rfl rfl ?_
      refine j_iload_n (pc' := 26) Cx dX4_grey_25 rfl rfl rfl ?_
      refine j_iload_n (pc' := 27) Cx dX4_grey_26 rfl rfl rfl ?_
      refine j_callV (pc' := 30) (wr := [(p1, .inr (2, [.int (nI C), .ref a1])), (a1, .inl (ty 0, N, .inl (kN A))), (p2, .inr (2, [.int (nI C), .ref a2])), (a2, .inl (ty 0, N, .inl (kN B)))]) (st := [.ref p1]) Cx dX4_grey_27 rfl (c_X4_placeOf l D ty v p1 p2 sg q1 q2 cs W H C S i j) gX4_grey_X4_placeOf rfl khd_X4_placeOf rfl ⟨rfl, rfl, Nat.le_of_ble_eq_true rfl, Nat.le_of_ble_eq_true rfl⟩ [0] [1, 2, 3, 4] rfl rfl ⟨rfl, rfl⟩ (by decide) 0 rfl rfl rfl (Nat.le_of_ble_eq_true rfl) ⟨Nat.le_of_ble_eq_true rfl, Nat.le_of_ble_eq_true rfl⟩ (fun v u hpost => ?_)
      obtain ⟨r, rfl, rfl, rfl⟩ := hpost
      show J X [(p1, .inr (2, [.int (nI C), .ref a1])), (a1, .inl (ty 0, N, .inl (kN A))), (p2, .inr (2, [.int (nI C), .ref a2])), (a2, .inl (ty 0, N, .inl (kN B))), (v, .inr (4, [.int (nI W), .int (nI H), .int (nI C), .int (nI S), .ref p1, .ref p2, .ref sg, .ref q1, .ref q2, .ref cs]))] [(0, .ref v), (1, .int (b)), (2, .int (nI i)), (3, .int (nI j))] 30 [.int (nI (j * W + i)), .ref p1] 0 0
      refine J.sub (ws' := [(v, .inr (4, [.int (nI W), .int (nI H), .int (nI C), .int (nI S), .ref p1, .ref p2, .ref sg, .ref q1, .ref q2, .ref cs])), (p1, .inr (2, [.int (nI C), .ref a1])), (a1, .inl (ty 0, N, .inl (kN A))), (p2, .inr (2, [.int (nI C), .ref a2])), (a2, .inl (ty 0, N, .inl (kN B)))]) [4, 0, 1, 2, 3] rfl rfl ?_
      refine j_callV (pc' := 33) (wr := [(v, .inr (4, [.int (nI W), .int (nI H), .int (nI C), .int (nI S), .ref p1, .ref p2, .ref sg, .ref q1, .ref q2, .ref cs])), (p2, .inr (2, [.int (nI C), .ref a2])), (a2, .inl (ty 0, N, .inl (kN B)))]) (st := []) Cx dX4_grey_30 rfl (c_X2_greyAt l D ty p1 a1 C N (W * H) (j * W + i) A hA hN2 hN hp h1 h3) gX4_grey_X2_greyAt rfl khd_X2_greyAt rfl ⟨rfl, rfl, Nat.le_of_ble_eq_true rfl, Nat.le_of_ble_eq_true rfl⟩ [1, 2] [0, 3, 4] rfl rfl ⟨rfl, rfl⟩ (by decide) 1 rfl rfl rfl (Nat.le_of_ble_eq_true rfl) ⟨Nat.le_of_ble_eq_true rfl, Nat.le_of_ble_eq_true rfl⟩ (fun v u hpost => ?_)
      obtain ⟨r, rfl, rfl, rfl⟩ := hpost
      show J X [(v, .inr (4, [.int (nI W), .int (nI H), .int (nI C), .int (nI S), .ref p1, .ref p2, .ref sg, .ref q1, .ref q2, .ref cs])), (p2, .inr (2, [.int (nI C), .ref a2])), (a2, .inl (ty 0, N, .inl (kN B))), (p1, .inr (2, [.int (nI C), .ref a1])), (a1, .inl (ty 0, N, .inl (kN A)))] [(0, .ref v), (1, .int (b)), (2, .int (nI i)), (3, .int (nI j))] 33 [.int (nI (kg C A (j * W + i)))] 0 0
      refine J.sub (ws' := [(v, .inr (4, [.int (nI W), .int (nI H), .int (nI C), .int (nI S), .ref p1, .ref p2, .ref sg, .ref q1, .ref q2, .ref cs])), (p1, .inr (2, [.int (nI C), .ref a1])), (a1, .inl (ty 0, N, .inl (kN A))), (p2, .inr (2, [.int (nI C), .ref a2])), (a2, .inl (ty 0, N, .inl (kN B)))]) [0, 3, 4, 1, 2] rfl rfl ?_
      exact j_iretT Cx dX4_grey_33 R0 ⟨Nat.le_of_ble_eq_true rfl, Nat.le_of_ble_eq_true rfl⟩ (⟨_, rfl, i, j, hi, hj, rfl, rfl, by rw [if_neg hb], rfl⟩)
  · refine j_aload_n (pc' := 1) Cx dX4_grey_0 rfl rfl rfl ?_
    refine j_iload_n (pc' := 2) Cx dX4_grey_1 rfl rfl rfl ?_
    refine j_iload_n (pc' := 3) Cx dX4_grey_2 rfl rfl rfl ?_
    refine j_callV (pc' := 6) (wr := [(p1, .inr (2, [.int (nI C), .ref a1])), (a1, .inl (ty 0, N, .inl (kN A))), (p2, .inr (2, [.int (nI C), .ref a2])), (a2, .inl (ty 0, N, .inl (kN B)))]) (st := []) Cx dX4_grey_3 rfl (c_X4_hasPlace_no l D ty v p1 p2 sg q1 q2 cs W H C S x y hx hW hH) gX4_grey_X4_hasPlace rfl khd_X4_hasPlace rfl ⟨rfl, rfl, Nat.le_of_ble_eq_true rfl, Nat.le_of_ble_eq_true rfl⟩ [0] [1, 2, 3, 4] rfl rfl ⟨rfl, rfl⟩ (by decide) 0 rfl rfl rfl (Nat.le_of_ble_eq_true rfl) ⟨Nat.le_of_ble_eq_true rfl, Nat.le_of_ble_eq_true rfl⟩ (fun v u hpost => ?_)
    obtain ⟨r, rfl, rfl, rfl⟩ := hpost
    show J X [(p1, .inr (2, [.int (nI C), .ref a1])), (a1, .inl (ty 0, N, .inl (kN A))), (p2, .inr (2, [.int (nI C), .ref a2])), (a2, .inl (ty 0, N, .inl (kN B))), (v, .inr (4, [.int (nI W), .int (nI H), .int (nI C), .int (nI S), .ref p1, .ref p2, .ref sg, .ref q1, .ref q2, .ref cs]))] [(0, .ref v), (1, .int (b)), (2, .int (x)), (3, .int (y))] 6 [.int (nI 0)] 0 0
    refine J.sub (ws' := [(v, .inr (4, [.int (nI W), .int (nI H), .int (nI C), .int (nI S), .ref p1, .ref p2, .ref sg, .ref q1, .ref q2, .ref cs])), (p1, .inr (2, [.int (nI C), .ref a1])), (a1, .inl (ty 0, N, .inl (kN A))), (p2, .inr (2, [.int (nI C), .ref a2])), (a2, .inl (ty 0, N, .inl (kN B)))]) [4, 0, 1, 2, 3] rfl rfl ?_
    refine j_if_ne_n (tgt := 19) (pc' := 9) Cx dX4_grey_6 (by decide) rfl (by omega) (fun hh => absurd hh (by decide)) (fun _ => ?_)
    exact j_throw Cx R0 (cls := kIOB) (text := "no such place") dX4_grey_9 dX4_grey_12 dX4_grey_13 dX4_grey_15 dX4_grey_18 (by decide) (by decide +kernel) kthr_X4_grey_73 ⟨Nat.le_of_ble_eq_true rfl, Nat.le_of_ble_eq_true rfl, Nat.le_of_ble_eq_true rfl, Nat.le_of_ble_eq_true rfl⟩ ⟨Nat.le_of_ble_eq_true rfl, Nat.le_of_ble_eq_true rfl⟩ (⟨rfl, hx, rfl⟩)

set_option maxHeartbeats 4000000 in
set_option maxRecDepth 100000 in
/-- put -/
theorem c_X4_put (l : Launch) (hl0 : l.stackTraces = false) (D : va_G) (ty : Nat → ClassId) (v p1 p2 sg q1 q2 cs W H C S : Nat) (a1 a2 N : Nat) (A B : Nat → Nat) (hA : ∀ i, A i < 256) (hB : ∀ i, B i < 256) (hW : W ≤ 24) (hH : H ≤ 24) (hW1 : 1 ≤ W) (hH1 : 1 ≤ H) (h1 : 1 ≤ C) (h3 : C ≤ 3) (hN : N = (W * H) * C) (b x y ch s : Int32) : KT l yX4_put wsX4_put { frames := 6, cells := 1, slots := 6, locals := 84 } D ty [.ref v, .int (b), .int (x), .int (y), .int (ch), .int (s)] [(v, .inr (4, [.int (nI W), .int (nI H), .int (nI C), .int (nI S), .ref p1, .ref p2, .ref sg, .ref q1, .ref q2, .ref cs])), (p1, .inr (2, [.int (nI C), .ref a1])), (a1, .inl (ty 0, N, .inl (kN A))), (p2, .inr (2, [.int (nI C), .ref a2])), (a2, .inl (ty 0, N, .inl (kN B)))] (kI (fun r u => ∃ i j c z, i < W ∧ j < H ∧ c < C ∧ z < 256 ∧ x = nI i ∧ y = nI j ∧ ch = nI c ∧ s = nI z ∧ ((¬ b = 0 ∧ r = nI (A ((j * W + i) * C + c)) ∧ u = [(v, .inr (4, [.int (nI W), .int (nI H), .int (nI C), .int (nI S), .ref p1, .ref p2, .ref sg, .ref q1, .ref q2, .ref cs])), (p1, .inr (2, [.int (nI C), .ref a1])), (a1, .inl (ty 0, N, .inl (kN (va_up A ((j * W + i) * C + c) z)))), (p2, .inr (2, [.int (nI C), .ref a2])), (a2, .inl (ty 0, N, .inl (kN B)))]) ∨ (b = 0 ∧ r = nI (B ((j * W + i) * C + c)) ∧ u = [(v, .inr (4, [.int (nI W), .int (nI H), .int (nI C), .int (nI S), .ref p1, .ref p2, .ref sg, .ref q1, .ref q2, .ref cs])), (p1, .inr (2, [.int (nI C), .ref a1])), (a1, .inl (ty 0, N, .inl (kN A))), (p2, .inr (2, [.int (nI C), .ref a2])), (a2, .inl (ty 0, N, .inl (kN (va_up B ((j * W + i) * C + c) z))))])))) (fun E u => u = [(v, .inr (4, [.int (nI W), .int (nI H), .int (nI C), .int (nI S), .ref p1, .ref p2, .ref sg, .ref q1, .ref q2, .ref cs])), (p1, .inr (2, [.int (nI C), .ref a1])), (a1, .inl (ty 0, N, .inl (kN A))), (p2, .inr (2, [.int (nI C), .ref a2])), (a2, .inl (ty 0, N, .inl (kN B)))] ∧ ((E = kIOB ∧ ¬ (kok x W ∧ kok y H ∧ kok ch C)) ∨ (E = kIAE ∧ (kok x W ∧ kok y H ∧ kok ch C) ∧ ¬ kok s 256))) 1 6 := by
  refine KT.of (cc := cX4_put) (maxL := 6) (ret := (some .int)) (lv := [(0, .ref v), (1, .int (b)), (2, .int (x)), (3, .int (y)), (4, .int (ch)), (5, .int (s))]) hl0 (by decide +kernel) rfl rfl rfl (fun X C0 R0 => ?_)
  have Cx : kC X cX4_put wsX4_put RX4 { frames := 6, cells := 1, slots := 6, locals := 84 } "put" l D ty 6 := C0
  have hwh := k_wh hW hH
  have hN2 : N ≤ 1728 := by rw [hN]; exact Nat.le_trans (Nat.mul_le_mul hwh h3) (by decide)
  by_cases hx : kok x W ∧ kok y H
  · obtain ⟨i, hi, rfl⟩ := hx.1
    obtain ⟨j, hj, rfl⟩ := hx.2
    have hp := k_idx hi hj
    refine j_aload_n (pc' := 1) Cx dX4_put_0 rfl rfl rfl ?_
    refine j_iload_n (pc' := 2) Cx dX4_put_1 rfl rfl rfl ?_
    refine j_iload_n (pc' := 3) Cx dX4_put_2 rfl rfl rfl ?_
    refine j_callV (pc' := 6) (wr := [(p1, .inr (2, [.int (nI C), .ref a1])), (a1, .inl (ty 0, N, .inl (kN A))), (p2, .inr (2, [.int (nI C), .ref a2])), (a2, .inl (ty 0, N, .inl (kN B)))]) (st := []) Cx dX4_put_3 rfl (c_X4_hasPlace l D ty v p1 p2 sg q1 q2 cs W H C S i j hi hj hW hH) gX4_put_X4_hasPlace rfl khd_X4_hasPlace rfl ⟨rfl, rfl, Nat.le_of_ble_eq_true rfl, Nat.le_of_ble_eq_true rfl⟩ [0] [1, 2, 3, 4] rfl rfl ⟨rfl, rfl⟩ (by decide) 0 rfl rfl rfl (Nat.le_of_ble_eq_true rfl) ⟨Nat.le_of_ble_eq_true rfl, Nat.le_of_ble_eq_true rfl⟩ (fun v u hpost => ?_)
    obtain ⟨r, rfl, rfl, rfl⟩ := hpost
    show J X [(p1, .inr (2, [.int (nI C), .ref a1])), (a1, .inl (ty 0, N, .inl (kN A))), (p2, .inr (2, [.int (nI C), .ref a2])), (a2, .inl (ty 0, N, .inl (kN B))), (v, .inr (4, [.int (nI W), .int (nI H), .int (nI C), .int (nI S), .ref p1, .ref p2, .ref sg, .ref q1, .ref q2, .ref cs]))] [(0, .ref v), (1, .int (b)), (2, .int (nI i)), (3, .int (nI j)), (4, .int (ch)), (5, .int (s))] 6 [.int (nI 1)] 0 0
    refine J.sub (ws' := [(v, .inr (4, [.int (nI W), .int (nI H), .int (nI C), .int (nI S), .ref p1, .ref p2, .ref sg, .ref q1, .ref q2, .ref cs])), (p1, .inr (2, [.int (nI C), .ref a1])), (a1, .inl (ty 0, N, .inl (kN A))), (p2, .inr (2, [.int (nI C), .ref a2])), (a2, .inl (ty 0, N, .inl (kN B)))]) [4, 0, 1, 2, 3] rfl rfl ?_
    refine j_if_eq_n (tgt := 18) (pc' := 9) Cx dX4_put_6 (by decide) rfl (by omega) (fun hh => absurd hh (by decide)) (fun _ => ?_)
    refine j_aload_n (pc' := 10) Cx dX4_put_9 rfl rfl rfl ?_
    refine j_iload (pc' := 12) Cx dX4_put_10 rfl rfl ?_
    by_cases hc : kok ch C
    · have hc0 := hc
      obtain ⟨c, hc, rfl⟩ := hc
      refine j_callV (pc' := 15) (wr := [(p1, .inr (2, [.int (nI C), .ref a1])), (a1, .inl (ty 0, N, .inl (kN A))), (p2, .inr (2, [.int (nI C), .ref a2])), (a2, .inl (ty 0, N, .inl (kN B)))]) (st := []) Cx dX4_put_12 rfl (c_X4_hasChannel l D ty v p1 p2 sg q1 q2 cs W H C S c hc h3) gX4_put_X4_hasChannel rfl khd_X4_hasChannel rfl ⟨rfl, rfl, Nat.le_of_ble_eq_true rfl, Nat.le_of_ble_eq_true rfl⟩ [0] [1, 2, 3, 4] rfl rfl ⟨rfl, rfl⟩ (by decide) 0 rfl rfl rfl (Nat.le_of_ble_eq_true rfl) ⟨Nat.le_of_ble_eq_true rfl, Nat.le_of_ble_eq_true rfl⟩ (fun v u hpost => ?_)
      obtain ⟨r, rfl, rfl, rfl⟩ := hpost
      show J X [(p1, .inr (2, [.int (nI C), .ref a1])), (a1, .inl (ty 0, N, .inl (kN A))), (p2, .inr (2, [.int (nI C), .ref a2])), (a2, .inl (ty 0, N, .inl (kN B))), (v, .inr (4, [.int (nI W), .int (nI H), .int (nI C), .int (nI S), .ref p1, .ref p2, .ref sg, .ref q1, .ref q2, .ref cs]))] [(0, .ref v), (1, .int (b)), (2, .int (nI i)), (3, .int (nI j)), (4, .int (nI c)), (5, .int (s))] 15 [.int (nI 1)] 0 0
      refine J.sub (ws' := [(v, .inr (4, [.int (nI W), .int (nI H), .int (nI C), .int (nI S), .ref p1, .ref p2, .ref sg, .ref q1, .ref q2, .ref cs])), (p1, .inr (2, [.int (nI C), .ref a1])), (a1, .inl (ty 0, N, .inl (kN A))), (p2, .inr (2, [.int (nI C), .ref a2])), (a2, .inl (ty 0, N, .inl (kN B)))]) [4, 0, 1, 2, 3] rfl rfl ?_
      refine j_if_ne_n (tgt := 28) (pc' := 18) Cx dX4_put_15 (by decide) rfl (by omega) (fun _ => ?_) (fun hh => absurd hh (by decide))
      rcases pk_ix s (n := 256) (by decide) with hs | hs | ⟨z, hz, rfl⟩
      · refine j_iload (pc' := 30) Cx dX4_put_28 rfl rfl ?_
        refine j_if_lt (tgt := 41) (pc' := 33) Cx dX4_put_30 (by decide) rfl (fun _ => ?_) (fun hh => absurd hh (not_not_intro hs))
        exact j_throw Cx R0 (cls := kIAE) (text := "no such sample") dX4_put_41 dX4_put_44 dX4_put_45 dX4_put_47 dX4_put_50 (by decide) (by decide +kernel) kthr_X4_put_80 ⟨Nat.le_of_ble_eq_true rfl, Nat.le_of_ble_eq_true rfl, Nat.le_of_ble_eq_true rfl, Nat.le_of_ble_eq_true rfl⟩ ⟨Nat.le_of_ble_eq_true rfl, Nat.le_of_ble_eq_true rfl⟩ (⟨rfl, Or.inr ⟨rfl, ⟨hx.1, hx.2, hc0⟩, fun ⟨z, hz, e⟩ => by rw [e] at hs; exact nI_pos (by omega) hs⟩⟩)
      · refine j_iload (pc' := 30) Cx dX4_put_28 rfl rfl ?_
        refine j_if_lt (tgt := 41) (pc' := 33) Cx dX4_put_30 (by decide) rfl (fun hh => absurd hh (fun e => absurd (Int32.lt_of_le_of_lt hs e) (by decide))) (fun _ => ?_)
        refine j_iload (pc' := 35) Cx dX4_put_33 rfl rfl ?_
        refine j_sipush (pc' := 38) (v := (nI 255)) Cx dX4_put_35 rfl (by decide) ?_
        refine j_icmp_le (tgt := 51) (pc' := 41) Cx dX4_put_38 (by decide) rfl (fun hh => absurd hh (fun e => absurd (Int32.le_trans hs e) (by decide))) (fun _ => ?_)
        exact j_throw Cx R0 (cls := kIAE) (text := "no such sample") dX4_put_41 dX4_put_44 dX4_put_45 dX4_put_47 dX4_put_50 (by decide) (by decide +kernel) kthr_X4_put_80 ⟨Nat.le_of_ble_eq_true rfl, Nat.le_of_ble_eq_true rfl, Nat.le_of_ble_eq_true rfl, Nat.le_of_ble_eq_true rfl⟩ ⟨Nat.le_of_ble_eq_true rfl, Nat.le_of_ble_eq_true rfl⟩ (⟨rfl, Or.inr ⟨rfl, ⟨hx.1, hx.2, hc0⟩, fun ⟨z, hz, e⟩ => by rw [e] at hs; exact absurd ((nI_leI (by decide) (by omega)).mp hs) (by omega)⟩⟩)
      · refine j_iload (pc' := 30) Cx dX4_put_28 rfl rfl ?_
        refine j_if_lt_n (tgt := 41) (pc' := 33) Cx dX4_put_30 (by decide) rfl (by omega) ?_
        refine j_iload (pc' := 35) Cx dX4_put_33 rfl rfl ?_
        refine j_sipush (pc' := 38) (v := (nI 255)) Cx dX4_put_35 rfl (by decide) ?_
        refine j_icmp_le_n (tgt := 51) (pc' := 41) Cx dX4_put_38 (by decide) rfl (by omega) (by omega) (fun _ => ?_) (fun hh => absurd hh (by omega))
        have hi2 : (j * W + i) * C + c < N := by have g1 : (j * W + i + 1) * C ≤ (W * H) * C := Nat.mul_le_mul_right C hp; rw [Nat.succ_mul, ← hN] at g1; omega
        by_cases hb : b = 0
        · refine j_aload_n (pc' := 52) Cx dX4_put_51 rfl rfl rfl ?_
          refine j_iload_n (pc' := 53) Cx dX4_put_52 rfl rfl rfl ?_
          refine j_callV (pc' := 56) (wr := [(p1, .inr (2, [.int (nI C), .ref a1])), (a1, .inl (ty 0, N, .inl (kN A))), (p2, .inr (2, [.int (nI C), .ref a2])), (a2, .inl (ty 0, N, .inl (kN B)))]) (st := []) Cx dX4_put_53 rfl (c_X4_pictureOf2 l D ty v p1 p2 sg q1 q2 cs W H C S b hb) gX4_put_X4_pictureOf rfl khd_X4_pictureOf rfl ⟨rfl, rfl, Nat.le_of_ble_eq_true rfl, Nat.le_of_ble_eq_true rfl⟩ [0] [1, 2, 3, 4] rfl rfl ⟨rfl, rfl⟩ (by decide) 0 rfl rfl rfl (Nat.le_of_ble_eq_true rfl) ⟨Nat.le_of_ble_eq_true rfl, Nat.le_of_ble_eq_true rfl⟩ (fun v u hpost => ?_)
          obtain ⟨r, rfl, rfl, rfl⟩ := hpost
          show J X [(p1, .inr (2, [.int (nI C), .ref a1])), (a1, .inl (ty 0, N, .inl (kN A))), (p2, .inr (2, [.int (nI C), .ref a2])), (a2, .inl (ty 0, N, .inl (kN B))), (v, .inr (4, [.int (nI W), .int (nI H), .int (nI C), .int (nI S), .ref p1, .ref p2, .ref sg, .ref q1, .ref q2, .ref cs]))] [(0, .ref v), (1, .int (b)), (2, .int (nI i)), (3, .int (nI j)), (4, .int (nI c)), (5, .int (nI z))] 56 [.ref p2] 0 0
          refine J.sub (ws' := [(v, .inr (4, [.int (nI W), .int (nI H), .int (nI C), .int (nI S), .ref p1, .ref p2, .ref sg, .ref q1, .ref q2, .ref cs])), (p1, .inr (2, [.int (nI C), .ref a1])), (a1, .inl (ty 0, N, .inl (kN A))), (p2, .inr (2, [.int (nI C), .ref a2])), (a2, .inl (ty 0, N, .inl (kN B)))]) [4, 0, 1, 2, 3] rfl rfl ?_
          refine j_aload_n (pc' := 57) Cx dX4_put_56 rfl rfl rfl ?_
          refine j_iload_n (pc' := 58) Cx dX4_put_57 rfl rfl rfl ?_
          refine j_iload_n (pc' := 59) Cx dX4_put_58 rfl rfl rfl ?_
          refine j_callV (pc' := 62) (wr := [(p1, .inr (2, [.int (nI C), .ref a1])), (a1, .inl (ty 0, N, .inl (kN A))), (p2, .inr (2, [.int (nI C), .ref a2])), (a2, .inl (ty 0, N, .inl (kN B)))]) (st := [.ref p2]) Cx dX4_put_59 rfl (c_X4_placeOf l D ty v p1 p2 sg q1 q2 cs W H C S i j) gX4_put_X4_placeOf rfl khd_X4_placeOf rfl ⟨rfl, rfl, Nat.le_of_ble_eq_true rfl, Nat.le_of_ble_eq_true rfl⟩ [0] [1, 2, 3, 4] rfl rfl ⟨rfl, rfl⟩ (by decide) 0 rfl rfl rfl (Nat.le_of_ble_eq_true rfl) ⟨Nat.le_of_ble_eq_true rfl, Nat.le_of_ble_eq_true rfl⟩ (fun v u hpost => ?_)
          obtain ⟨r, rfl, rfl, rfl⟩ := hpost
          show J X [(p1, .inr (2, [.int (nI C), .ref a1])), (a1, .inl (ty 0, N, .inl (kN A))), (p2, .inr (2, [.int (nI C), .ref a2])), (a2, .inl (ty 0, N, .inl (kN B))), (v, .inr (4, [.int (nI W), .int (nI H), .int (nI C), .int (nI S), .ref p1, .ref p2, .ref sg, .ref q1, .ref q2, .ref cs]))] [(0, .ref v), (1, .int (b)), (2, .int (nI i)), (3, .int (nI j)), (4, .int (nI c)), (5, .int (nI z))] 62 [.int (nI (j * W + i)), .ref p2] 0 0
          refine J.sub (ws' := [(v, .inr (4, [.int (nI W), .int (nI H), .int (nI C), .int (nI S), .ref p1, .ref p2, .ref sg, .ref q1, .ref q2, .ref cs])), (p1, .inr (2, [.int (nI C), .ref a1])), (a1, .inl (ty 0, N, .inl (kN A))), (p2, .inr (2, [.int (nI C), .ref a2])), (a2, .inl (ty 0, N, .inl (kN B)))]) [4, 0, 1, 2, 3] rfl rfl ?_
          refine j_iload (pc' := 64) Cx dX4_put_62 rfl rfl ?_
          refine j_iload (pc' := 66) Cx dX4_put_64 rfl rfl ?_
          refine j_callV (pc' := 69) (wr := [(v, .inr (4, [.int (nI W), .int (nI H), .int (nI C), .int (nI S), .ref p1, .ref p2, .ref sg, .ref q1, .ref q2, .ref cs])), (p1, .inr (2, [.int (nI C), .ref a1])), (a1, .inl (ty 0, N, .inl (kN A)))]) (st := []) Cx dX4_put_66 rfl (c_X2_replace l D ty p2 a2 C N (j * W + i) c z B hN2 hi2) gX4_put_X2_replace rfl khd_X2_replace rfl ⟨rfl, rfl, Nat.le_of_ble_eq_true rfl, Nat.le_of_ble_eq_true rfl⟩ [3, 4] [0, 1, 2] rfl rfl ⟨rfl, rfl⟩ (by decide) 3 rfl rfl rfl (Nat.le_of_ble_eq_true rfl) ⟨Nat.le_of_ble_eq_true rfl, Nat.le_of_ble_eq_true rfl⟩ (fun v u hpost => ?_)
          obtain ⟨r, rfl, rfl, rfl⟩ := hpost
          show J X [(v, .inr (4, [.int (nI W), .int (nI H), .int (nI C), .int (nI S), .ref p1, .ref p2, .ref sg, .ref q1, .ref q2, .ref cs])), (p1, .inr (2, [.int (nI C), .ref a1])), (a1, .inl (ty 0, N, .inl (kN A))), (p2, .inr (2, [.int (nI C), .ref a2])), (a2, .inl (ty 0, N, .inl (kN (va_up B ((j * W + i) * C + c) z))))] [(0, .ref v), (1, .int (b)), (2, .int (nI i)), (3, .int (nI j)), (4, .int (nI c)), (5, .int (nI z))] 69 [.int (nI (B ((j * W + i) * C + c)))] 0 0
          exact j_iretT Cx dX4_put_69 R0 ⟨Nat.le_of_ble_eq_true rfl, Nat.le_of_ble_eq_true rfl⟩ (⟨_, rfl, i, j, c, z, hi, hj, hc, hz, rfl, rfl, rfl, rfl, Or.inr ⟨hb, rfl, rfl⟩⟩)
        · refine j_aload_n (pc' := 52) Cx dX4_put_51 rfl rfl rfl ?_
          refine j_iload_n (pc' := 53) Cx dX4_put_52 rfl rfl rfl ?_
          refine j_callV (pc' := 56) (wr := [(p1, .inr (2, [.int (nI C), .ref a1])), (a1, .inl (ty 0, N, .inl (kN A))), (p2, .inr (2, [.int (nI C), .ref a2])), (a2, .inl (ty 0, N, .inl (kN B)))]) (st := []) Cx dX4_put_53 rfl (c_X4_pictureOf1 l D ty v p1 p2 sg q1 q2 cs W H C S b hb) gX4_put_X4_pictureOf rfl khd_X4_pictureOf rfl ⟨rfl, rfl, Nat.le_of_ble_eq_true rfl, Nat.le_of_ble_eq_true rfl⟩ [0] [1, 2, 3, 4] rfl rfl ⟨rfl, rfl⟩ (by decide) 0 rfl rfl rfl (Nat.le_of_ble_eq_true rfl) ⟨Nat.le_of_ble_eq_true rfl, Nat.le_of_ble_eq_true rfl⟩ (fun v u hpost => ?_)
          obtain ⟨r, rfl, rfl, rfl⟩ := hpost
          show J X [(p1, .inr (2, [.int (nI C), .ref a1])), (a1, .inl (ty 0, N, .inl (kN A))), (p2, .inr (2, [.int (nI C), .ref a2])), (a2, .inl (ty 0, N, .inl (kN B))), (v, .inr (4, [.int (nI W), .int (nI H), .int (nI C), .int (nI S), .ref p1, .ref p2, .ref sg, .ref q1, .ref q2, .ref cs]))] [(0, .ref v), (1, .int (b)), (2, .int (nI i)), (3, .int (nI j)), (4, .int (nI c)), (5, .int (nI z))] 56 [.ref p1] 0 0
          refine J.sub (ws' := [(v, .inr (4, [.int (nI W), .int (nI H), .int (nI C), .int (nI S), .ref p1, .ref p2, .ref sg, .ref q1, .ref q2, .ref cs])), (p1, .inr (2, [.int (nI C), .ref a1])), (a1, .inl (ty 0, N, .inl (kN A))), (p2, .inr (2, [.int (nI C), .ref a2])), (a2, .inl (ty 0, N, .inl (kN B)))]) [4, 0, 1, 2, 3] rfl rfl ?_
          refine j_aload_n (pc' := 57) Cx dX4_put_56 rfl rfl rfl ?_
          refine j_iload_n (pc' := 58) Cx dX4_put_57 rfl rfl rfl ?_
          refine j_iload_n (pc' := 59) Cx dX4_put_58 rfl rfl rfl ?_
          refine j_callV (pc' := 62) (wr := [(p1, .inr (2, [.int (nI C), .ref a1])), (a1, .inl (ty 0, N, .inl (kN A))), (p2, .inr (2, [.int (nI C), .ref a2])), (a2, .inl (ty 0, N, .inl (kN B)))]) (st := [.ref p1]) Cx dX4_put_59 rfl (c_X4_placeOf l D ty v p1 p2 sg q1 q2 cs W H C S i j) gX4_put_X4_placeOf rfl khd_X4_placeOf rfl ⟨rfl, rfl, Nat.le_of_ble_eq_true rfl, Nat.le_of_ble_eq_true rfl⟩ [0] [1, 2, 3, 4] rfl rfl ⟨rfl, rfl⟩ (by decide) 0 rfl rfl rfl (Nat.le_of_ble_eq_true rfl) ⟨Nat.le_of_ble_eq_true rfl, Nat.le_of_ble_eq_true rfl⟩ (fun v u hpost => ?_)
          obtain ⟨r, rfl, rfl, rfl⟩ := hpost
          show J X [(p1, .inr (2, [.int (nI C), .ref a1])), (a1, .inl (ty 0, N, .inl (kN A))), (p2, .inr (2, [.int (nI C), .ref a2])), (a2, .inl (ty 0, N, .inl (kN B))), (v, .inr (4, [.int (nI W), .int (nI H), .int (nI C), .int (nI S), .ref p1, .ref p2, .ref sg, .ref q1, .ref q2, .ref cs]))] [(0, .ref v), (1, .int (b)), (2, .int (nI i)), (3, .int (nI j)), (4, .int (nI c)), (5, .int (nI z))] 62 [.int (nI (j * W + i)), .ref p1] 0 0
          refine J.sub (ws' := [(v, .inr (4, [.int (nI W), .int (nI H), .int (nI C), .int (nI S), .ref p1, .ref p2, .ref sg, .ref q1, .ref q2, .ref cs])), (p1, .inr (2, [.int (nI C), .ref a1])), (a1, .inl (ty 0, N, .inl (kN A))), (p2, .inr (2, [.int (nI C), .ref a2])), (a2, .inl (ty 0, N, .inl (kN B)))]) [4, 0, 1, 2, 3] rfl rfl ?_
          refine j_iload (pc' := 64) Cx dX4_put_62 rfl rfl ?_
          refine j_iload (pc' := 66) Cx dX4_put_64 rfl rfl ?_
          refine j_callV (pc' := 69) (wr := [(v, .inr (4, [.int (nI W), .int (nI H), .int (nI C), .int (nI S), .ref p1, .ref p2, .ref sg, .ref q1, .ref q2, .ref cs])), (p2, .inr (2, [.int (nI C), .ref a2])), (a2, .inl (ty 0, N, .inl (kN B)))]) (st := []) Cx dX4_put_66 rfl (c_X2_replace l D ty p1 a1 C N (j * W + i) c z A hN2 hi2) gX4_put_X2_replace rfl khd_X2_replace rfl ⟨rfl, rfl, Nat.le_of_ble_eq_true rfl, Nat.le_of_ble_eq_true rfl⟩ [1, 2] [0, 3, 4] rfl rfl ⟨rfl, rfl⟩ (by decide) 1 rfl rfl rfl (Nat.le_of_ble_eq_true rfl) ⟨Nat.le_of_ble_eq_true rfl, Nat.le_of_ble_eq_true rfl⟩ (fun v u hpost => ?_)
          obtain ⟨r, rfl, rfl, rfl⟩ := hpost
          show J X [(v, .inr (4, [.int (nI W), .int (nI H), .int (nI C), .int (nI S), .ref p1, .ref p2, .ref sg, .ref q1, .ref q2, .ref cs])), (p2, .inr (2, [.int (nI C), .ref a2])), (a2, .inl (ty 0, N, .inl (kN B))), (p1, .inr (2, [.int (nI C), .ref a1])), (a1, .inl (ty 0, N, .inl (kN (va_up A ((j * W + i) * C + c) z))))] [(0, .ref v), (1, .int (b)), (2, .int (nI i)), (3, .int (nI j)), (4, .int (nI c)), (5, .int (nI z))] 69 [.int (nI (A ((j * W + i) * C + c)))] 0 0
          refine J.sub (ws' := [(v, .inr (4, [.int (nI W), .int (nI H), .int (nI C), .int (nI S), .ref p1, .ref p2, .ref sg, .ref q1, .ref q2, .ref cs])), (p1, .inr (2, [.int (nI C), .ref a1])), (a1, .inl (ty 0, N, .inl (kN (va_up A ((j * W + i) * C + c) z)))), (p2, .inr (2, [.int (nI C), .ref a2])), (a2, .inl (ty 0, N, .inl (kN B)))]) [0, 3, 4, 1, 2] rfl rfl ?_
          exact j_iretT Cx dX4_put_69 R0 ⟨Nat.le_of_ble_eq_true rfl, Nat.le_of_ble_eq_true rfl⟩ (⟨_, rfl, i, j, c, z, hi, hj, hc, hz, rfl, rfl, rfl, rfl, Or.inl ⟨hb, rfl, rfl⟩⟩)
    · refine j_callV (pc' := 15) (wr := [(p1, .inr (2, [.int (nI C), .ref a1])), (a1, .inl (ty 0, N, .inl (kN A))), (p2, .inr (2, [.int (nI C), .ref a2])), (a2, .inl (ty 0, N, .inl (kN B)))]) (st := []) Cx dX4_put_12 rfl (c_X4_hasChannel_no l D ty v p1 p2 sg q1 q2 cs W H C S ch hc h3) gX4_put_X4_hasChannel rfl khd_X4_hasChannel rfl ⟨rfl, rfl, Nat.le_of_ble_eq_true rfl, Nat.le_of_ble_eq_true rfl⟩ [0] [1, 2, 3, 4] rfl rfl ⟨rfl, rfl⟩ (by decide) 0 rfl rfl rfl (Nat.le_of_ble_eq_true rfl) ⟨Nat.le_of_ble_eq_true rfl, Nat.le_of_ble_eq_true rfl⟩ (fun v u hpost => ?_)
      obtain ⟨r, rfl, rfl, rfl⟩ := hpost
      show J X [(p1, .inr (2, [.int (nI C), .ref a1])), (a1, .inl (ty 0, N, .inl (kN A))), (p2, .inr (2, [.int (nI C), .ref a2])), (a2, .inl (ty 0, N, .inl (kN B))), (v, .inr (4, [.int (nI W), .int (nI H), .int (nI C), .int (nI S), .ref p1, .ref p2, .ref sg, .ref q1, .ref q2, .ref cs]))] [(0, .ref v), (1, .int (b)), (2, .int (nI i)), (3, .int (nI j)), (4, .int (ch)), (5, .int (s))] 15 [.int (nI 0)] 0 0
      refine J.sub (ws' := [(v, .inr (4, [.int (nI W), .int (nI H), .int (nI C), .int (nI S), .ref p1, .ref p2, .ref sg, .ref q1, .ref q2, .ref cs])), (p1, .inr (2, [.int (nI C), .ref a1])), (a1, .inl (ty 0, N, .inl (kN A))), (p2, .inr (2, [.int (nI C), .ref a2])), (a2, .inl (ty 0, N, .inl (kN B)))]) [4, 0, 1, 2, 3] rfl rfl ?_
      refine j_if_ne_n (tgt := 28) (pc' := 18) Cx dX4_put_15 (by decide) rfl (by omega) (fun hh => absurd hh (by decide)) (fun _ => ?_)
      exact j_throw Cx R0 (cls := kIOB) (text := "no such place or channel") dX4_put_18 dX4_put_21 dX4_put_22 dX4_put_24 dX4_put_27 (by decide) (by decide +kernel) kthr_X4_put_73 ⟨Nat.le_of_ble_eq_true rfl, Nat.le_of_ble_eq_true rfl, Nat.le_of_ble_eq_true rfl, Nat.le_of_ble_eq_true rfl⟩ ⟨Nat.le_of_ble_eq_true rfl, Nat.le_of_ble_eq_true rfl⟩ (⟨rfl, Or.inl ⟨rfl, fun e => hc e.2.2⟩⟩)
  · refine j_aload_n (pc' := 1) Cx dX4_put_0 rfl rfl rfl ?_
    refine j_iload_n (pc' := 2) Cx dX4_put_1 rfl rfl rfl ?_
    refine j_iload_n (pc' := 3) Cx dX4_put_2 rfl rfl rfl ?_
    refine j_callV (pc' := 6) (wr := [(p1, .inr (2, [.int (nI C), .ref a1])), (a1, .inl (ty 0, N, .inl (kN A))), (p2, .inr (2, [.int (nI C), .ref a2])), (a2, .inl (ty 0, N, .inl (kN B)))]) (st := []) Cx dX4_put_3 rfl (c_X4_hasPlace_no l D ty v p1 p2 sg q1 q2 cs W H C S x y hx hW hH) gX4_put_X4_hasPlace rfl khd_X4_hasPlace rfl ⟨rfl, rfl, Nat.le_of_ble_eq_true rfl, Nat.le_of_ble_eq_true rfl⟩ [0] [1, 2, 3, 4] rfl rfl ⟨rfl, rfl⟩ (by decide) 0 rfl rfl rfl (Nat.le_of_ble_eq_true rfl) ⟨Nat.le_of_ble_eq_true rfl, Nat.le_of_ble_eq_true rfl⟩ (fun v u hpost => ?_)
    obtain ⟨r, rfl, rfl, rfl⟩ := hpost
    show J X [(p1, .inr (2, [.int (nI C), .ref a1])), (a1, .inl (ty 0, N, .inl (kN A))), (p2, .inr (2, [.int (nI C), .ref a2])), (a2, .inl (ty 0, N, .inl (kN B))), (v, .inr (4, [.int (nI W), .int (nI H), .int (nI C), .int (nI S), .ref p1, .ref p2, .ref sg, .ref q1, .ref q2, .ref cs]))] [(0, .ref v), (1, .int (b)), (2, .int (x)), (3, .int (y)), (4, .int (ch)), (5, .int (s))] 6 [.int (nI 0)] 0 0
    refine J.sub (ws' := [(v, .inr (4, [.int (nI W), .int (nI H), .int (nI C), .int (nI S), .ref p1, .ref p2, .ref sg, .ref q1, .ref q2, .ref cs])), (p1, .inr (2, [.int (nI C), .ref a1])), (a1, .inl (ty 0, N, .inl (kN A))), (p2, .inr (2, [.int (nI C), .ref a2])), (a2, .inl (ty 0, N, .inl (kN B)))]) [4, 0, 1, 2, 3] rfl rfl ?_
    refine j_if_eq_n (tgt := 18) (pc' := 9) Cx dX4_put_6 (by decide) rfl (by omega) (fun _ => ?_) (fun hh => absurd hh (by decide))
    exact j_throw Cx R0 (cls := kIOB) (text := "no such place or channel") dX4_put_18 dX4_put_21 dX4_put_22 dX4_put_24 dX4_put_27 (by decide) (by decide +kernel) kthr_X4_put_73 ⟨Nat.le_of_ble_eq_true rfl, Nat.le_of_ble_eq_true rfl, Nat.le_of_ble_eq_true rfl, Nat.le_of_ble_eq_true rfl⟩ ⟨Nat.le_of_ble_eq_true rfl, Nat.le_of_ble_eq_true rfl⟩ (⟨rfl, Or.inl ⟨rfl, fun e => hx ⟨e.1, e.2.1⟩⟩⟩)

set_option maxHeartbeats 4000000 in
set_option maxRecDepth 100000 in
/-- the mean of a scale -/
theorem c_X4_structure (l : Launch) (hl0 : l.stackTraces = false) (D : va_G) (ty : Nat → ClassId) (v p1 p2 sg q1 q2 cs W H C S : Nat) (a1 a2 N : Nat) (A B : Nat → Nat) (hA : ∀ i, A i < 256) (hB : ∀ i, B i < 256) (hW : W ≤ 24) (hH : H ≤ 24) (hW1 : 1 ≤ W) (hH1 : 1 ≤ H) (h1 : 1 ≤ C) (h3 : C ≤ 3) (hN : N = (W * H) * C) (fa sa L : Nat) (F G : Nat → Nat) (wn hn : Int32) (hL : L = W * H) (hF : ∀ i, F i < 256) (hG : ∀ i, G i < 256) (x : Int32) (hS : S = kscale W H) : KT l yX4_structure wsX4_structure { frames := 6, cells := 1, slots := 6, locals := 115 } D ty [.ref v, .int (x)] [(v, .inr (4, [.int (nI W), .int (nI H), .int (nI C), .int (nI S), .ref p1, .ref p2, .ref sg, .ref q1, .ref q2, .ref cs])), (p1, .inr (2, [.int (nI C), .ref a1])), (a1, .inl (ty 0, N, .inl (kN A))), (p2, .inr (2, [.int (nI C), .ref a2])), (a2, .inl (ty 0, N, .inl (kN B))), (sg, .inr (3, [.int (nI W), .int (nI H), .ref fa, .ref sa, .int (wn), .int (hn)])), (fa, .inl (ty 0, L, .inl (kN F))), (sa, .inl (ty 0, L, .inl (kN G)))] (kF (fun r u => ∃ k, k < S ∧ x = nI k ∧ r = kstr W H (kfill (kg C A) F L) (kfill (kg C B) G L) k ∧ u = [(v, .inr (4, [.int (nI W), .int (nI H), .int (nI C), .int (nI S), .ref p1, .ref p2, .ref sg, .ref q1, .ref q2, .ref cs])), (p1, .inr (2, [.int (nI C), .ref a1])), (a1, .inl (ty 0, N, .inl (kN A))), (p2, .inr (2, [.int (nI C), .ref a2])), (a2, .inl (ty 0, N, .inl (kN B))), (sg, .inr (3, [.int (nI W), .int (nI H), .ref fa, .ref sa, .int (nI (W / 2 ^ k)), .int (nI (H / 2 ^ k))])), (fa, .inl (ty 0, L, .inl (kN (khk W H (kfill (kg C A) F L) k)))), (sa, .inl (ty 0, L, .inl (kN (khk W H (kfill (kg C B) G L) k))))])) (fun E u => u = [(v, .inr (4, [.int (nI W), .int (nI H), .int (nI C), .int (nI S), .ref p1, .ref p2, .ref sg, .ref q1, .ref q2, .ref cs])), (p1, .inr (2, [.int (nI C), .ref a1])), (a1, .inl (ty 0, N, .inl (kN A))), (p2, .inr (2, [.int (nI C), .ref a2])), (a2, .inl (ty 0, N, .inl (kN B))), (sg, .inr (3, [.int (nI W), .int (nI H), .ref fa, .ref sa, .int (wn), .int (hn)])), (fa, .inl (ty 0, L, .inl (kN F))), (sa, .inl (ty 0, L, .inl (kN G)))] ∧ ((E = kIAE ∧ ¬ kok x 5) ∨ (E = kISE ∧ kok x 5 ∧ ¬ kok x S))) 1 6 := by
  refine KT.of (cc := cX4_structure) (maxL := 3) (ret := (some .double)) (lv := [(0, .ref v), (1, .int (x))]) hl0 (by decide +kernel) rfl rfl rfl (fun X C0 R0 => ?_)
  have Cx : kC X cX4_structure wsX4_structure RX4 { frames := 6, cells := 1, slots := 6, locals := 115 } "structure" l D ty 3 := C0
  have hwh := k_wh hW hH
  have hN2 : N ≤ 1728 := by rw [hN]; exact Nat.le_trans (Nat.mul_le_mul hwh h3) (by decide)
  have hL5 : L ≤ 576 := by omega
  have hNL : N = L * C := by rw [hL]; exact hN
  have hF0 : ∀ i, kfill (kg C A) F L i < 256 := kfill_lt (kg_lt hA) hF L
  have hG0 : ∀ i, kfill (kg C B) G L i < 256 := kfill_lt (kg_lt hB) hG L
  have hS3 : S ≤ 3 := by rw [hS]; exact kscale_le W H
  rcases pk_ix x (n := 5) (by decide) with hs | hs | ⟨k, hk, rfl⟩
  · refine j_iload_n (pc' := 1) Cx dX4_structure_0 rfl rfl rfl ?_
    refine j_if_lt (tgt := 9) (pc' := 4) Cx dX4_structure_1 (by decide) rfl (fun _ => ?_) (fun hh => absurd hh (not_not_intro hs))
    exact j_throw Cx R0 (cls := kIAE) (text := "the scale is not 0 .. 4") dX4_structure_9 dX4_structure_12 dX4_structure_13 dX4_structure_15 dX4_structure_18 (by decide) (by decide +kernel) kthr_X4_structure_80 ⟨Nat.le_of_ble_eq_true rfl, Nat.le_of_ble_eq_true rfl, Nat.le_of_ble_eq_true rfl, Nat.le_of_ble_eq_true rfl⟩ ⟨Nat.le_of_ble_eq_true rfl, Nat.le_of_ble_eq_true rfl⟩ (⟨rfl, Or.inl ⟨rfl, fun ⟨z, hz, e⟩ => by rw [e] at hs; exact nI_pos (by omega) hs⟩⟩)
  · refine j_iload_n (pc' := 1) Cx dX4_structure_0 rfl rfl rfl ?_
    refine j_if_lt (tgt := 9) (pc' := 4) Cx dX4_structure_1 (by decide) rfl (fun hh => absurd hh (fun e => absurd (Int32.lt_of_le_of_lt hs e) (by decide))) (fun _ => ?_)
    refine j_iload_n (pc' := 5) Cx dX4_structure_4 rfl rfl rfl ?_
    refine j_iconst (pc' := 6) (v := (nI 4)) Cx dX4_structure_5 rfl (by decide) ?_
    refine j_icmp_le (tgt := 19) (pc' := 9) Cx dX4_structure_6 (by decide) rfl (fun hh => absurd hh (fun e => absurd (Int32.le_trans hs e) (by decide))) (fun _ => ?_)
    exact j_throw Cx R0 (cls := kIAE) (text := "the scale is not 0 .. 4") dX4_structure_9 dX4_structure_12 dX4_structure_13 dX4_structure_15 dX4_structure_18 (by decide) (by decide +kernel) kthr_X4_structure_80 ⟨Nat.le_of_ble_eq_true rfl, Nat.le_of_ble_eq_true rfl, Nat.le_of_ble_eq_true rfl, Nat.le_of_ble_eq_true rfl⟩ ⟨Nat.le_of_ble_eq_true rfl, Nat.le_of_ble_eq_true rfl⟩ (⟨rfl, Or.inl ⟨rfl, fun ⟨z, hz, e⟩ => by rw [e] at hs; exact absurd ((nI_leI (by decide) (by omega)).mp hs) (by omega)⟩⟩)
  · refine j_iload_n (pc' := 1) Cx dX4_structure_0 rfl rfl rfl ?_
    refine j_if_lt_n (tgt := 9) (pc' := 4) Cx dX4_structure_1 (by decide) rfl (by omega) ?_
    refine j_iload_n (pc' := 5) Cx dX4_structure_4 rfl rfl rfl ?_
    refine j_iconst (pc' := 6) (v := (nI 4)) Cx dX4_structure_5 rfl (by decide) ?_
    refine j_icmp_le_n (tgt := 19) (pc' := 9) Cx dX4_structure_6 (by decide) rfl (by omega) (by omega) (fun _ => ?_) (fun hh => absurd hh (by omega))
    refine j_iload_n (pc' := 20) Cx dX4_structure_19 rfl rfl rfl ?_
    refine j_aload_n (pc' := 21) Cx dX4_structure_20 rfl rfl rfl ?_
    refine j_get (pc' := 24) (N := 10) Cx dX4_structure_21 rfl kin_X4_structure_X4 kfl_X4_structure_26 0 rfl rfl 3 rfl rfl rfl ?_
    refine j_icmp_lt_n (tgt := 37) (pc' := 27) Cx dX4_structure_24 (by decide) rfl (by omega) (by omega) (fun hc => ?_) (fun hc => ?_)
    · have hge : ∀ i, i ≤ k → 5 ≤ W / 2 ^ i ∧ 5 ≤ H / 2 ^ i := fun i hi => kscale_ge (by omega)
      refine j_aload_n (pc' := 38) Cx dX4_structure_37 rfl rfl rfl ?_
      refine j_get (pc' := 41) (N := 10) Cx dX4_structure_38 rfl kin_X4_structure_X4 kfl_X4_structure_44 0 rfl rfl 6 rfl rfl rfl ?_
      refine j_aload_n (pc' := 42) Cx dX4_structure_41 rfl rfl rfl ?_
      refine j_get (pc' := 45) (N := 10) Cx dX4_structure_42 rfl kin_X4_structure_X4 kfl_X4_structure_34 0 rfl rfl 4 rfl rfl rfl ?_
      refine j_aload_n (pc' := 46) Cx dX4_structure_45 rfl rfl rfl ?_
      refine j_get (pc' := 49) (N := 10) Cx dX4_structure_46 rfl kin_X4_structure_X4 kfl_X4_structure_38 0 rfl rfl 5 rfl rfl rfl ?_
      refine j_callV (pc' := 52) (wr := [(v, .inr (4, [.int (nI W), .int (nI H), .int (nI C), .int (nI S), .ref p1, .ref p2, .ref sg, .ref q1, .ref q2, .ref cs]))]) (st := []) Cx dX4_structure_49 rfl (c_X3_readFrom l D ty sg fa sa W H L wn hn F G hL5 p1 a1 p2 a2 C N A B hA hB hN2 hNL h1 h3) gX4_structure_X3_readFrom rfl khd_X3_readFrom rfl ⟨rfl, rfl, Nat.le_of_ble_eq_true rfl, Nat.le_of_ble_eq_true rfl⟩ [5, 6, 7, 1, 2, 3, 4] [0] rfl rfl ⟨rfl, rfl⟩ (by decide) 5 rfl rfl rfl (Nat.le_of_ble_eq_true rfl) ⟨Nat.le_of_ble_eq_true rfl, Nat.le_of_ble_eq_true rfl⟩ (fun v u hpost => ?_)
      obtain ⟨rfl, rfl⟩ := hpost
      show J X [(v, .inr (4, [.int (nI W), .int (nI H), .int (nI C), .int (nI S), .ref p1, .ref p2, .ref sg, .ref q1, .ref q2, .ref cs])), (sg, .inr (3, [.int (nI W), .int (nI H), .ref fa, .ref sa, .int (nI W), .int (nI H)])), (fa, .inl (ty 0, L, .inl (kN (kfill (kg C A) F L)))), (sa, .inl (ty 0, L, .inl (kN (kfill (kg C B) G L)))), (p1, .inr (2, [.int (nI C), .ref a1])), (a1, .inl (ty 0, N, .inl (kN A))), (p2, .inr (2, [.int (nI C), .ref a2])), (a2, .inl (ty 0, N, .inl (kN B)))] [(0, .ref v), (1, .int (nI k))] 52 [] 0 0
      refine J.sub (ws' := [(v, .inr (4, [.int (nI W), .int (nI H), .int (nI C), .int (nI S), .ref p1, .ref p2, .ref sg, .ref q1, .ref q2, .ref cs])), (p1, .inr (2, [.int (nI C), .ref a1])), (a1, .inl (ty 0, N, .inl (kN A))), (p2, .inr (2, [.int (nI C), .ref a2])), (a2, .inl (ty 0, N, .inl (kN B))), (sg, .inr (3, [.int (nI W), .int (nI H), .ref fa, .ref sa, .int (nI W), .int (nI H)])), (fa, .inl (ty 0, L, .inl (kN (kfill (kg C A) F L)))), (sa, .inl (ty 0, L, .inl (kN (kfill (kg C B) G L))))]) [0, 4, 5, 6, 7, 1, 2, 3] rfl rfl ?_
      refine j_iconst (pc' := 53) (v := (nI 0)) Cx dX4_structure_52 rfl (by decide) ?_
      refine j_istore_n (pc' := 54) (lv' := [(0, .ref v), (1, .int (nI k)), (2, .int (nI 0))]) Cx dX4_structure_53 rfl rfl (by decide) rfl ?_
      have LP : ∀ (LP_n : Nat), ∀ (i : Nat), (k - i < LP_n) → (i ≤ k) → J X [(v, .inr (4, [.int (nI W), .int (nI H), .int (nI C), .int (nI S), .ref p1, .ref p2, .ref sg, .ref q1, .ref q2, .ref cs])), (p1, .inr (2, [.int (nI C), .ref a1])), (a1, .inl (ty 0, N, .inl (kN A))), (p2, .inr (2, [.int (nI C), .ref a2])), (a2, .inl (ty 0, N, .inl (kN B))), (sg, .inr (3, [.int (nI W), .int (nI H), .ref fa, .ref sa, .int (nI (W / 2 ^ i)), .int (nI (H / 2 ^ i))])), (fa, .inl (ty 0, L, .inl (kN (khk W H (kfill (kg C A) F L) i)))), (sa, .inl (ty 0, L, .inl (kN (khk W H (kfill (kg C B) G L) i))))] [(0, .ref v), (1, .int (nI k)), (2, .int (nI i))] 54 [] 0 0 := by
        intro LP_n
        induction LP_n with
        | zero =>
          intro i hms _
          exact absurd hms (Nat.not_lt_zero _)
        | succ LP_n LP_ih =>
          intro i LP_m hle
          refine j_iload_n (pc' := 55) Cx dX4_structure_54 rfl rfl rfl ?_
          refine j_iload_n (pc' := 56) Cx dX4_structure_55 rfl rfl rfl ?_
          refine j_icmp_ge_n (tgt := 72) (pc' := 59) Cx dX4_structure_56 (by decide) rfl (by omega) (by omega) (fun hi => ?_) (fun hi => ?_)
          · have e : i = k := by omega
            subst e
            refine j_aload_n (pc' := 73) Cx dX4_structure_72 rfl rfl rfl ?_
            refine j_get (pc' := 76) (N := 10) Cx dX4_structure_73 rfl kin_X4_structure_X4 kfl_X4_structure_44 0 rfl rfl 6 rfl rfl rfl ?_
            refine j_callV (pc' := 79) (wr := [(v, .inr (4, [.int (nI W), .int (nI H), .int (nI C), .int (nI S), .ref p1, .ref p2, .ref sg, .ref q1, .ref q2, .ref cs])), (p1, .inr (2, [.int (nI C), .ref a1])), (a1, .inl (ty 0, N, .inl (kN A))), (p2, .inr (2, [.int (nI C), .ref a2])), (a2, .inl (ty 0, N, .inl (kN B)))]) (st := []) Cx dX4_structure_76 rfl (c_X3_averageLikeness l D ty sg fa sa W H L (W / 2 ^ i) (H / 2 ^ i) (khk W H (kfill (kg C A) F L) i) (khk W H (kfill (kg C B) G L) i) (khk_lt hF0 i) (khk_lt hG0 i) hL5 (hge i (Nat.le_refl i)).1 (hge i (Nat.le_refl i)).2 (by rw [hL]; exact k_halfs_le) (Nat.le_trans (Nat.div_le_self _ _) hW) (Nat.le_trans (Nat.div_le_self _ _) hH)) gX4_structure_X3_averageLikeness rfl khd_X3_averageLikeness rfl ⟨rfl, rfl, Nat.le_of_ble_eq_true rfl, Nat.le_of_ble_eq_true rfl⟩ [5, 6, 7] [0, 1, 2, 3, 4] rfl rfl ⟨rfl, rfl⟩ (by decide) 5 rfl rfl rfl (Nat.le_of_ble_eq_true rfl) ⟨Nat.le_of_ble_eq_true rfl, Nat.le_of_ble_eq_true rfl⟩ (fun v u hpost => ?_)
            obtain ⟨r, rfl, rfl, rfl⟩ := hpost
            show J X [(v, .inr (4, [.int (nI W), .int (nI H), .int (nI C), .int (nI S), .ref p1, .ref p2, .ref sg, .ref q1, .ref q2, .ref cs])), (p1, .inr (2, [.int (nI C), .ref a1])), (a1, .inl (ty 0, N, .inl (kN A))), (p2, .inr (2, [.int (nI C), .ref a2])), (a2, .inl (ty 0, N, .inl (kN B))), (sg, .inr (3, [.int (nI W), .int (nI H), .ref fa, .ref sa, .int (nI (W / 2 ^ i)), .int (nI (H / 2 ^ i))])), (fa, .inl (ty 0, L, .inl (kN (khk W H (kfill (kg C A) F L) i)))), (sa, .inl (ty 0, L, .inl (kN (khk W H (kfill (kg C B) G L) i))))] [(0, .ref v), (1, .int (nI i)), (2, .int (nI i))] 79 [.double (kstr W H (kfill (kg C A) F L) (kfill (kg C B) G L) i)] 0 0
            exact j_dretT Cx dX4_structure_79 R0 ⟨Nat.le_of_ble_eq_true rfl, Nat.le_of_ble_eq_true rfl⟩ (⟨_, rfl, i, hc, rfl, rfl, rfl⟩)
          · refine j_aload_n (pc' := 60) Cx dX4_structure_59 rfl rfl rfl ?_
            refine j_get (pc' := 63) (N := 10) Cx dX4_structure_60 rfl kin_X4_structure_X4 kfl_X4_structure_44 0 rfl rfl 6 rfl rfl rfl ?_
            refine j_callV (pc' := 66) (wr := [(v, .inr (4, [.int (nI W), .int (nI H), .int (nI C), .int (nI S), .ref p1, .ref p2, .ref sg, .ref q1, .ref q2, .ref cs])), (p1, .inr (2, [.int (nI C), .ref a1])), (a1, .inl (ty 0, N, .inl (kN A))), (p2, .inr (2, [.int (nI C), .ref a2])), (a2, .inl (ty 0, N, .inl (kN B)))]) (st := []) Cx dX4_structure_63 rfl (c_X3_halve l D ty sg fa sa W H L (W / 2 ^ i) (H / 2 ^ i) (khk W H (kfill (kg C A) F L) i) (khk W H (kfill (kg C B) G L) i) (khk_lt hF0 i) (khk_lt hG0 i) hL5 (by rw [hL]; exact k_halfs_le) (Nat.le_trans (Nat.div_le_self _ _) hW) (Nat.le_trans (Nat.div_le_self _ _) hH)) gX4_structure_X3_halve rfl khd_X3_halve rfl ⟨rfl, rfl, Nat.le_of_ble_eq_true rfl, Nat.le_of_ble_eq_true rfl⟩ [5, 6, 7] [0, 1, 2, 3, 4] rfl rfl ⟨rfl, rfl⟩ (by decide) 5 rfl rfl rfl (Nat.le_of_ble_eq_true rfl) ⟨Nat.le_of_ble_eq_true rfl, Nat.le_of_ble_eq_true rfl⟩ (fun v u hpost => ?_)
            obtain ⟨rfl, rfl⟩ := hpost
            show J X [(v, .inr (4, [.int (nI W), .int (nI H), .int (nI C), .int (nI S), .ref p1, .ref p2, .ref sg, .ref q1, .ref q2, .ref cs])), (p1, .inr (2, [.int (nI C), .ref a1])), (a1, .inl (ty 0, N, .inl (kN A))), (p2, .inr (2, [.int (nI C), .ref a2])), (a2, .inl (ty 0, N, .inl (kN B))), (sg, .inr (3, [.int (nI W), .int (nI H), .ref fa, .ref sa, .int (nI (W / 2 ^ i / 2)), .int (nI (H / 2 ^ i / 2))])), (fa, .inl (ty 0, L, .inl (kN (khalf (W / 2 ^ i) (H / 2 ^ i) (khk W H (kfill (kg C A) F L) i))))), (sa, .inl (ty 0, L, .inl (kN (khalf (W / 2 ^ i) (H / 2 ^ i) (khk W H (kfill (kg C B) G L) i)))))] [(0, .ref v), (1, .int (nI k)), (2, .int (nI i))] 66 [] 0 0
            refine j_iinc_n (pc' := 69) (z := 1) (a := i) (lv' := [(0, .ref v), (1, .int (nI k)), (2, .int (nI (i + 1)))]) Cx dX4_structure_66 rfl rfl (by decide) rfl ?_
            refine j_goto (tgt := 54) Cx dX4_structure_69 (by decide) ?_
            refine J.cast (ws' := [(v, .inr (4, [.int (nI W), .int (nI H), .int (nI C), .int (nI S), .ref p1, .ref p2, .ref sg, .ref q1, .ref q2, .ref cs])), (p1, .inr (2, [.int (nI C), .ref a1])), (a1, .inl (ty 0, N, .inl (kN A))), (p2, .inr (2, [.int (nI C), .ref a2])), (a2, .inl (ty 0, N, .inl (kN B))), (sg, .inr (3, [.int (nI W), .int (nI H), .ref fa, .ref sa, .int (nI (W / 2 ^ (i + 1))), .int (nI (H / 2 ^ (i + 1)))])), (fa, .inl (ty 0, L, .inl (kN (khk W H (kfill (kg C A) F L) (i + 1))))), (sa, .inl (ty 0, L, .inl (kN (khk W H (kfill (kg C B) G L) (i + 1)))))]) (lv' := [(0, .ref v), (1, .int (nI k)), (2, .int (nI (i + 1)))]) (pc' := 54) (st' := []) (by rw [k_half2, k_half2]; rfl) (rfl) rfl (rfl) rfl rfl ?_
            exact LP_ih (i + 1) (by omega) (by omega)
      refine J.cast (ws' := [(v, .inr (4, [.int (nI W), .int (nI H), .int (nI C), .int (nI S), .ref p1, .ref p2, .ref sg, .ref q1, .ref q2, .ref cs])), (p1, .inr (2, [.int (nI C), .ref a1])), (a1, .inl (ty 0, N, .inl (kN A))), (p2, .inr (2, [.int (nI C), .ref a2])), (a2, .inl (ty 0, N, .inl (kN B))), (sg, .inr (3, [.int (nI W), .int (nI H), .ref fa, .ref sa, .int (nI (W / 2 ^ 0)), .int (nI (H / 2 ^ 0))])), (fa, .inl (ty 0, L, .inl (kN (khk W H (kfill (kg C A) F L) 0)))), (sa, .inl (ty 0, L, .inl (kN (khk W H (kfill (kg C B) G L) 0))))]) (lv' := [(0, .ref v), (1, .int (nI k)), (2, .int (nI 0))]) (pc' := 54) (st' := []) (by rw [show W / 2 ^ 0 = W from Nat.div_one W, show H / 2 ^ 0 = H from Nat.div_one H]; rfl) (rfl) rfl (rfl) rfl rfl ?_
      exact LP (k + 1) 0 (by omega) (Nat.zero_le k)
    · exact j_throw Cx R0 (cls := kISE) (text := "no such scale") dX4_structure_27 dX4_structure_30 dX4_structure_31 dX4_structure_33 dX4_structure_36 (by decide) (by decide +kernel) kthr_X4_structure_124 ⟨Nat.le_of_ble_eq_true rfl, Nat.le_of_ble_eq_true rfl, Nat.le_of_ble_eq_true rfl, Nat.le_of_ble_eq_true rfl⟩ ⟨Nat.le_of_ble_eq_true rfl, Nat.le_of_ble_eq_true rfl⟩ (⟨rfl, Or.inr ⟨rfl, ⟨k, hk, rfl⟩, fun ⟨z, hz, e⟩ => by have := (nI_eq (by omega) (by omega)).mp e; omega⟩⟩)

set_option maxHeartbeats 4000000 in
set_option maxRecDepth 100000 in
/-- map -/
theorem c_X4_map (l : Launch) (hl0 : l.stackTraces = false) (D : va_G) (ty : Nat → ClassId) (v p1 p2 sg q1 q2 cs W H C S : Nat) (a1 a2 N : Nat) (A B : Nat → Nat) (hA : ∀ i, A i < 256) (hB : ∀ i, B i < 256) (hW : W ≤ 24) (hH : H ≤ 24) (hW1 : 1 ≤ W) (hH1 : 1 ≤ H) (h1 : 1 ≤ C) (h3 : C ≤ 3) (hN : N = (W * H) * C) (fa sa L : Nat) (F G : Nat → Nat) (wn hn : Int32) (hL : L = W * H) (hF : ∀ i, F i < 256) (hG : ∀ i, G i < 256) (x y : Int32) : KT l yX4_map wsX4_map { frames := 6, cells := 1, slots := 6, locals := 84 } D ty [.ref v, .int (x), .int (y)] [(v, .inr (4, [.int (nI W), .int (nI H), .int (nI C), .int (nI S), .ref p1, .ref p2, .ref sg, .ref q1, .ref q2, .ref cs])), (p1, .inr (2, [.int (nI C), .ref a1])), (a1, .inl (ty 0, N, .inl (kN A))), (p2, .inr (2, [.int (nI C), .ref a2])), (a2, .inl (ty 0, N, .inl (kN B))), (sg, .inr (3, [.int (nI W), .int (nI H), .ref fa, .ref sa, .int (wn), .int (hn)])), (fa, .inl (ty 0, L, .inl (kN F))), (sa, .inl (ty 0, L, .inl (kN G)))] (kF (fun r u => ∃ i j, 2 ≤ i ∧ i + 2 < W ∧ 2 ≤ j ∧ j + 2 < H ∧ x = nI i ∧ y = nI j ∧ r = kcell W (i - 2) (j - 2) (kfill (kg C A) F L) (kfill (kg C B) G L) ∧ u = [(v, .inr (4, [.int (nI W), .int (nI H), .int (nI C), .int (nI S), .ref p1, .ref p2, .ref sg, .ref q1, .ref q2, .ref cs])), (p1, .inr (2, [.int (nI C), .ref a1])), (a1, .inl (ty 0, N, .inl (kN A))), (p2, .inr (2, [.int (nI C), .ref a2])), (a2, .inl (ty 0, N, .inl (kN B))), (sg, .inr (3, [.int (nI W), .int (nI H), .ref fa, .ref sa, .int (nI W), .int (nI H)])), (fa, .inl (ty 0, L, .inl (kN (kfill (kg C A) F L)))), (sa, .inl (ty 0, L, .inl (kN (kfill (kg C B) G L))))])) (fun E u => E = kIOB ∧ (¬ ∃ i j : Nat, 2 ≤ i ∧ i + 2 < W ∧ 2 ≤ j ∧ j + 2 < H ∧ x = nI i ∧ y = nI j) ∧ u = [(v, .inr (4, [.int (nI W), .int (nI H), .int (nI C), .int (nI S), .ref p1, .ref p2, .ref sg, .ref q1, .ref q2, .ref cs])), (p1, .inr (2, [.int (nI C), .ref a1])), (a1, .inl (ty 0, N, .inl (kN A))), (p2, .inr (2, [.int (nI C), .ref a2])), (a2, .inl (ty 0, N, .inl (kN B))), (sg, .inr (3, [.int (nI W), .int (nI H), .ref fa, .ref sa, .int (wn), .int (hn)])), (fa, .inl (ty 0, L, .inl (kN F))), (sa, .inl (ty 0, L, .inl (kN G)))]) 1 6 := by
  refine KT.of (cc := cX4_map) (maxL := 3) (ret := (some .double)) (lv := [(0, .ref v), (1, .int (x)), (2, .int (y))]) hl0 (by decide +kernel) rfl rfl rfl (fun X C0 R0 => ?_)
  have Cx : kC X cX4_map wsX4_map RX4 { frames := 6, cells := 1, slots := 6, locals := 84 } "map" l D ty 3 := C0
  have hwh := k_wh hW hH
  have hN2 : N ≤ 1728 := by rw [hN]; exact Nat.le_trans (Nat.mul_le_mul hwh h3) (by decide)
  have hL5 : L ≤ 576 := by omega
  have hNL : N = L * C := by rw [hL]; exact hN
  have hF0 : ∀ i, kfill (kg C A) F L i < 256 := kfill_lt (kg_lt hA) hF L
  have hG0 : ∀ i, kfill (kg C B) G L i < 256 := kfill_lt (kg_lt hB) hG L
  by_cases hx : ∃ i j : Nat, 2 ≤ i ∧ i + 2 < W ∧ 2 ≤ j ∧ j + 2 < H ∧ x = nI i ∧ y = nI j
  · obtain ⟨i, j, hi1, hi2, hj1, hj2, rfl, rfl⟩ := hx
    refine j_iload_n (pc' := 1) Cx dX4_map_0 rfl rfl rfl ?_
    refine j_iconst (pc' := 2) (v := (nI 2)) Cx dX4_map_1 rfl (by decide) ?_
    refine j_icmp_lt_n (tgt := 30) (pc' := 5) Cx dX4_map_2 (by decide) rfl (by omega) (by omega) (fun hh => absurd hh (by omega)) (fun _ => ?_)
    refine j_iload_n (pc' := 6) Cx dX4_map_5 rfl rfl rfl ?_
    refine j_aload_n (pc' := 7) Cx dX4_map_6 rfl rfl rfl ?_
    refine j_get (pc' := 10) (N := 10) Cx dX4_map_7 rfl kin_X4_map_X4 kfl_X4_map_13 0 rfl rfl 0 rfl rfl rfl ?_
    refine j_iconst (pc' := 11) (v := (nI 2)) Cx dX4_map_10 rfl (by decide) ?_
    refine j_isub_n (pc' := 12) Cx dX4_map_11 rfl (by omega) ?_
    refine j_icmp_ge_n (tgt := 30) (pc' := 15) Cx dX4_map_12 (by decide) rfl (by omega) (by omega) (fun hh => absurd hh (by omega)) (fun _ => ?_)
    refine j_iload_n (pc' := 16) Cx dX4_map_15 rfl rfl rfl ?_
    refine j_iconst (pc' := 17) (v := (nI 2)) Cx dX4_map_16 rfl (by decide) ?_
    refine j_icmp_lt_n (tgt := 30) (pc' := 20) Cx dX4_map_17 (by decide) rfl (by omega) (by omega) (fun hh => absurd hh (by omega)) (fun _ => ?_)
    refine j_iload_n (pc' := 21) Cx dX4_map_20 rfl rfl rfl ?_
    refine j_aload_n (pc' := 22) Cx dX4_map_21 rfl rfl rfl ?_
    refine j_get (pc' := 25) (N := 10) Cx dX4_map_22 rfl kin_X4_map_X4 kfl_X4_map_17 0 rfl rfl 1 rfl rfl rfl ?_
    refine j_iconst (pc' := 26) (v := (nI 2)) Cx dX4_map_25 rfl (by decide) ?_
    refine j_isub_n (pc' := 27) Cx dX4_map_26 rfl (by omega) ?_
    refine j_icmp_lt_n (tgt := 40) (pc' := 30) Cx dX4_map_27 (by decide) rfl (by omega) (by omega) (fun _ => ?_) (fun hh => absurd hh (by omega))
    refine j_aload_n (pc' := 41) Cx dX4_map_40 rfl rfl rfl ?_
    refine j_get (pc' := 44) (N := 10) Cx dX4_map_41 rfl kin_X4_map_X4 kfl_X4_map_44 0 rfl rfl 6 rfl rfl rfl ?_
    refine j_aload_n (pc' := 45) Cx dX4_map_44 rfl rfl rfl ?_
    refine j_get (pc' := 48) (N := 10) Cx dX4_map_45 rfl kin_X4_map_X4 kfl_X4_map_34 0 rfl rfl 4 rfl rfl rfl ?_
    refine j_aload_n (pc' := 49) Cx dX4_map_48 rfl rfl rfl ?_
    refine j_get (pc' := 52) (N := 10) Cx dX4_map_49 rfl kin_X4_map_X4 kfl_X4_map_38 0 rfl rfl 5 rfl rfl rfl ?_
    refine j_callV (pc' := 55) (wr := [(v, .inr (4, [.int (nI W), .int (nI H), .int (nI C), .int (nI S), .ref p1, .ref p2, .ref sg, .ref q1, .ref q2, .ref cs]))]) (st := []) Cx dX4_map_52 rfl (c_X3_readFrom l D ty sg fa sa W H L wn hn F G hL5 p1 a1 p2 a2 C N A B hA hB hN2 hNL h1 h3) gX4_map_X3_readFrom rfl khd_X3_readFrom rfl ⟨rfl, rfl, Nat.le_of_ble_eq_true rfl, Nat.le_of_ble_eq_true rfl⟩ [5, 6, 7, 1, 2, 3, 4] [0] rfl rfl ⟨rfl, rfl⟩ (by decide) 5 rfl rfl rfl (Nat.le_of_ble_eq_true rfl) ⟨Nat.le_of_ble_eq_true rfl, Nat.le_of_ble_eq_true rfl⟩ (fun v u hpost => ?_)
    obtain ⟨rfl, rfl⟩ := hpost
    show J X [(v, .inr (4, [.int (nI W), .int (nI H), .int (nI C), .int (nI S), .ref p1, .ref p2, .ref sg, .ref q1, .ref q2, .ref cs])), (sg, .inr (3, [.int (nI W), .int (nI H), .ref fa, .ref sa, .int (nI W), .int (nI H)])), (fa, .inl (ty 0, L, .inl (kN (kfill (kg C A) F L)))), (sa, .inl (ty 0, L, .inl (kN (kfill (kg C B) G L)))), (p1, .inr (2, [.int (nI C), .ref a1])), (a1, .inl (ty 0, N, .inl (kN A))), (p2, .inr (2, [.int (nI C), .ref a2])), (a2, .inl (ty 0, N, .inl (kN B)))] [(0, .ref v), (1, .int (nI i)), (2, .int (nI j))] 55 [] 0 0
    refine J.sub (ws' := [(v, .inr (4, [.int (nI W), .int (nI H), .int (nI C), .int (nI S), .ref p1, .ref p2, .ref sg, .ref q1, .ref q2, .ref cs])), (p1, .inr (2, [.int (nI C), .ref a1])), (a1, .inl (ty 0, N, .inl (kN A))), (p2, .inr (2, [.int (nI C), .ref a2])), (a2, .inl (ty 0, N, .inl (kN B))), (sg, .inr (3, [.int (nI W), .int (nI H), .ref fa, .ref sa, .int (nI W), .int (nI H)])), (fa, .inl (ty 0, L, .inl (kN (kfill (kg C A) F L)))), (sa, .inl (ty 0, L, .inl (kN (kfill (kg C B) G L))))]) [0, 4, 5, 6, 7, 1, 2, 3] rfl rfl ?_
    refine j_aload_n (pc' := 56) Cx dX4_map_55 rfl rfl rfl ?_
    refine j_get (pc' := 59) (N := 10) Cx dX4_map_56 rfl kin_X4_map_X4 kfl_X4_map_44 0 rfl rfl 6 rfl rfl rfl ?_
    refine j_iload_n (pc' := 60) Cx dX4_map_59 rfl rfl rfl ?_
    refine j_iconst (pc' := 61) (v := (nI 2)) Cx dX4_map_60 rfl (by decide) ?_
    refine j_isub_n (pc' := 62) Cx dX4_map_61 rfl (by omega) ?_
    refine j_iload_n (pc' := 63) Cx dX4_map_62 rfl rfl rfl ?_
    refine j_iconst (pc' := 64) (v := (nI 2)) Cx dX4_map_63 rfl (by decide) ?_
    refine j_isub_n (pc' := 65) Cx dX4_map_64 rfl (by omega) ?_
    refine j_callV (pc' := 68) (wr := [(v, .inr (4, [.int (nI W), .int (nI H), .int (nI C), .int (nI S), .ref p1, .ref p2, .ref sg, .ref q1, .ref q2, .ref cs])), (p1, .inr (2, [.int (nI C), .ref a1])), (a1, .inl (ty 0, N, .inl (kN A))), (p2, .inr (2, [.int (nI C), .ref a2])), (a2, .inl (ty 0, N, .inl (kN B)))]) (st := []) Cx dX4_map_65 rfl (c_X3_likenessAt l D ty sg fa sa W H L W H (kfill (kg C A) F L) (kfill (kg C B) G L) hF0 hG0 hL5 (i - 2) (j - 2) (by omega) (by omega) (by omega) hW hH) gX4_map_X3_likenessAt rfl khd_X3_likenessAt rfl ⟨rfl, rfl, Nat.le_of_ble_eq_true rfl, Nat.le_of_ble_eq_true rfl⟩ [5, 6, 7] [0, 1, 2, 3, 4] rfl rfl ⟨rfl, rfl⟩ (by decide) 5 rfl rfl rfl (Nat.le_of_ble_eq_true rfl) ⟨Nat.le_of_ble_eq_true rfl, Nat.le_of_ble_eq_true rfl⟩ (fun v u hpost => ?_)
    obtain ⟨r, rfl, rfl, rfl⟩ := hpost
    show J X [(v, .inr (4, [.int (nI W), .int (nI H), .int (nI C), .int (nI S), .ref p1, .ref p2, .ref sg, .ref q1, .ref q2, .ref cs])), (p1, .inr (2, [.int (nI C), .ref a1])), (a1, .inl (ty 0, N, .inl (kN A))), (p2, .inr (2, [.int (nI C), .ref a2])), (a2, .inl (ty 0, N, .inl (kN B))), (sg, .inr (3, [.int (nI W), .int (nI H), .ref fa, .ref sa, .int (nI W), .int (nI H)])), (fa, .inl (ty 0, L, .inl (kN (kfill (kg C A) F L)))), (sa, .inl (ty 0, L, .inl (kN (kfill (kg C B) G L))))] [(0, .ref v), (1, .int (nI i)), (2, .int (nI j))] 68 [.double (kcell W (i - 2) (j - 2) (kfill (kg C A) F L) (kfill (kg C B) G L))] 0 0
    exact j_dretT Cx dX4_map_68 R0 ⟨Nat.le_of_ble_eq_true rfl, Nat.le_of_ble_eq_true rfl⟩ (⟨_, rfl, i, j, hi1, hi2, hj1, hj2, rfl, rfl, rfl, rfl⟩)
  · refine j_iload_n (pc' := 1) Cx dX4_map_0 rfl rfl rfl ?_
    refine j_iconst (pc' := 2) (v := (nI 2)) Cx dX4_map_1 rfl (by decide) ?_
    refine j_icmp_lt (tgt := 30) (pc' := 5) Cx dX4_map_2 (by decide) rfl (fun h1x => ?_) (fun h1x => ?_)
    · exact j_throw Cx R0 (cls := kIOB) (text := "no cell has its middle there") dX4_map_30 dX4_map_33 dX4_map_34 dX4_map_36 dX4_map_39 (by decide) (by decide +kernel) kthr_X4_map_73 ⟨Nat.le_of_ble_eq_true rfl, Nat.le_of_ble_eq_true rfl, Nat.le_of_ble_eq_true rfl, Nat.le_of_ble_eq_true rfl⟩ ⟨Nat.le_of_ble_eq_true rfl, Nat.le_of_ble_eq_true rfl⟩ (⟨rfl, hx, rfl⟩)
    · refine j_iload_n (pc' := 6) Cx dX4_map_5 rfl rfl rfl ?_
      refine j_aload_n (pc' := 7) Cx dX4_map_6 rfl rfl rfl ?_
      refine j_get (pc' := 10) (N := 10) Cx dX4_map_7 rfl kin_X4_map_X4 kfl_X4_map_13 0 rfl rfl 0 rfl rfl rfl ?_
      refine j_iconst (pc' := 11) (v := (nI 2)) Cx dX4_map_10 rfl (by decide) ?_
      refine j_isub (pc' := 12) Cx dX4_map_11 rfl ?_
      refine j_icmp_ge (tgt := 30) (pc' := 15) Cx dX4_map_12 (by decide) rfl (fun h2x => ?_) (fun h2x => ?_)
      · exact j_throw Cx R0 (cls := kIOB) (text := "no cell has its middle there") dX4_map_30 dX4_map_33 dX4_map_34 dX4_map_36 dX4_map_39 (by decide) (by decide +kernel) kthr_X4_map_73 ⟨Nat.le_of_ble_eq_true rfl, Nat.le_of_ble_eq_true rfl, Nat.le_of_ble_eq_true rfl, Nat.le_of_ble_eq_true rfl⟩ ⟨Nat.le_of_ble_eq_true rfl, Nat.le_of_ble_eq_true rfl⟩ (⟨rfl, hx, rfl⟩)
      · refine j_iload_n (pc' := 16) Cx dX4_map_15 rfl rfl rfl ?_
        refine j_iconst (pc' := 17) (v := (nI 2)) Cx dX4_map_16 rfl (by decide) ?_
        refine j_icmp_lt (tgt := 30) (pc' := 20) Cx dX4_map_17 (by decide) rfl (fun h3x => ?_) (fun h3x => ?_)
        · exact j_throw Cx R0 (cls := kIOB) (text := "no cell has its middle there") dX4_map_30 dX4_map_33 dX4_map_34 dX4_map_36 dX4_map_39 (by decide) (by decide +kernel) kthr_X4_map_73 ⟨Nat.le_of_ble_eq_true rfl, Nat.le_of_ble_eq_true rfl, Nat.le_of_ble_eq_true rfl, Nat.le_of_ble_eq_true rfl⟩ ⟨Nat.le_of_ble_eq_true rfl, Nat.le_of_ble_eq_true rfl⟩ (⟨rfl, hx, rfl⟩)
        · refine j_iload_n (pc' := 21) Cx dX4_map_20 rfl rfl rfl ?_
          refine j_aload_n (pc' := 22) Cx dX4_map_21 rfl rfl rfl ?_
          refine j_get (pc' := 25) (N := 10) Cx dX4_map_22 rfl kin_X4_map_X4 kfl_X4_map_17 0 rfl rfl 1 rfl rfl rfl ?_
          refine j_iconst (pc' := 26) (v := (nI 2)) Cx dX4_map_25 rfl (by decide) ?_
          refine j_isub (pc' := 27) Cx dX4_map_26 rfl ?_
          refine j_icmp_lt (tgt := 40) (pc' := 30) Cx dX4_map_27 (by decide) rfl (fun h4x => ?_) (fun h4x => ?_)
          · obtain ⟨i, e1, hi1, hi2⟩ := k_mapin hW h1x h2x
            obtain ⟨j, e2, hj1, hj2⟩ := k_mapin hH h3x (Int32.not_le.mpr h4x)
            exact absurd ⟨i, j, hi1, hi2, hj1, hj2, e1, e2⟩ hx
          · exact j_throw Cx R0 (cls := kIOB) (text := "no cell has its middle there") dX4_map_30 dX4_map_33 dX4_map_34 dX4_map_36 dX4_map_39 (by decide) (by decide +kernel) kthr_X4_map_73 ⟨Nat.le_of_ble_eq_true rfl, Nat.le_of_ble_eq_true rfl, Nat.le_of_ble_eq_true rfl, Nat.le_of_ble_eq_true rfl⟩ ⟨Nat.le_of_ble_eq_true rfl, Nat.le_of_ble_eq_true rfl⟩ (⟨rfl, hx, rfl⟩)

set_option maxHeartbeats 4000000 in
set_option maxRecDepth 100000 in
/-- blocks -/
theorem c_X4_blocks (l : Launch) (hl0 : l.stackTraces = false) (D : va_G) (ty : Nat → ClassId) (v p1 p2 sg q1 q2 cs W H C S : Nat) (a1 a2 N : Nat) (A B : Nat → Nat) (hA : ∀ i, A i < 256) (hB : ∀ i, B i < 256) (hW : W ≤ 24) (hH : H ≤ 24) (hW1 : 1 ≤ W) (hH1 : 1 ≤ H) (h1 : 1 ≤ C) (h3 : C ≤ 3) (hN : N = (W * H) * C) (x : Int32) : KT l yX4_blocks wsX4_blocks { frames := 6, cells := 1, slots := 6, locals := 84 } D ty [.ref v, .int (x)] [(v, .inr (4, [.int (nI W), .int (nI H), .int (nI C), .int (nI S), .ref p1, .ref p2, .ref sg, .ref q1, .ref q2, .ref cs])), (p1, .inr (2, [.int (nI C), .ref a1])), (a1, .inl (ty 0, N, .inl (kN A))), (p2, .inr (2, [.int (nI C), .ref a2])), (a2, .inl (ty 0, N, .inl (kN B)))] (kF (fun r u => ∃ n, 2 ≤ n ∧ n ≤ 24 ∧ x = nI n ∧ r = kblockv (k2s (kbe n) (W - 1) H 0) (k2s (kbo n) (W - 1) H 0) (k2s (kbes n C W B) (W - 1) H 0) (k2s (kbos n C W B) (W - 1) H 0) ∧ u = [(v, .inr (4, [.int (nI W), .int (nI H), .int (nI C), .int (nI S), .ref p1, .ref p2, .ref sg, .ref q1, .ref q2, .ref cs])), (p1, .inr (2, [.int (nI C), .ref a1])), (a1, .inl (ty 0, N, .inl (kN A))), (p2, .inr (2, [.int (nI C), .ref a2])), (a2, .inl (ty 0, N, .inl (kN B)))])) (fun E u => E = kIAE ∧ (¬ ∃ n : Nat, 2 ≤ n ∧ n ≤ 24 ∧ x = nI n) ∧ u = [(v, .inr (4, [.int (nI W), .int (nI H), .int (nI C), .int (nI S), .ref p1, .ref p2, .ref sg, .ref q1, .ref q2, .ref cs])), (p1, .inr (2, [.int (nI C), .ref a1])), (a1, .inl (ty 0, N, .inl (kN A))), (p2, .inr (2, [.int (nI C), .ref a2])), (a2, .inl (ty 0, N, .inl (kN B)))]) 1 6 := by
  refine KT.of (cc := cX4_blocks) (maxL := 11) (ret := (some .double)) (lv := [(0, .ref v), (1, .int (x))]) hl0 (by decide +kernel) rfl rfl rfl (fun X C0 R0 => ?_)
  have Cx : kC X cX4_blocks wsX4_blocks RX4 { frames := 6, cells := 1, slots := 6, locals := 84 } "blocks" l D ty 11 := C0
  have hwh := k_wh hW hH
  have hN2 : N ≤ 1728 := by rw [hN]; exact Nat.le_trans (Nat.mul_le_mul hwh h3) (by decide)
  by_cases hx : ∃ n : Nat, 2 ≤ n ∧ n ≤ 24 ∧ x = nI n
  · obtain ⟨n, hn1, hn2, rfl⟩ := hx
    refine j_iload_n (pc' := 1) Cx dX4_blocks_0 rfl rfl rfl ?_
    refine j_iconst (pc' := 2) (v := (nI 2)) Cx dX4_blocks_1 rfl (by decide) ?_
    refine j_icmp_lt_n (tgt := 11) (pc' := 5) Cx dX4_blocks_2 (by decide) rfl (by omega) (by omega) (fun hh => absurd hh (by omega)) (fun _ => ?_)
    refine j_iload_n (pc' := 6) Cx dX4_blocks_5 rfl rfl rfl ?_
    refine j_bipush (pc' := 8) (v := (nI 24)) Cx dX4_blocks_6 rfl (by decide) ?_
    refine j_icmp_le_n (tgt := 21) (pc' := 11) Cx dX4_blocks_8 (by decide) rfl (by omega) (by omega) (fun _ => ?_) (fun hh => absurd hh (by omega))
    refine j_iconst (pc' := 22) (v := (nI 0)) Cx dX4_blocks_21 rfl (by decide) ?_
    refine j_istore_n (pc' := 23) (lv' := [(0, .ref v), (1, .int (nI n)), (2, .int (nI 0))]) Cx dX4_blocks_22 rfl rfl (by decide) rfl ?_
    refine j_iconst (pc' := 24) (v := (nI 0)) Cx dX4_blocks_23 rfl (by decide) ?_
    refine j_istore_n (pc' := 25) (lv' := [(0, .ref v), (1, .int (nI n)), (2, .int (nI 0)), (3, .int (nI 0))]) Cx dX4_blocks_24 rfl rfl (by decide) rfl ?_
    refine j_lconst (pc' := 26) (v := (lN 0)) Cx dX4_blocks_25 rfl rfl ?_
    refine j_lstore (pc' := 28) (lv' := [(0, .ref v), (1, .int (nI n)), (2, .int (nI 0)), (3, .int (nI 0)), (4, .long (lN 0))]) Cx dX4_blocks_26 rfl (by decide) rfl ?_
    refine j_lconst (pc' := 29) (v := (lN 0)) Cx dX4_blocks_28 rfl rfl ?_
    refine j_lstore (pc' := 31) (lv' := [(0, .ref v), (1, .int (nI n)), (2, .int (nI 0)), (3, .int (nI 0)), (4, .long (lN 0)), (6, .long (lN 0))]) Cx dX4_blocks_29 rfl (by decide) rfl ?_
    refine j_iconst (pc' := 32) (v := (nI 0)) Cx dX4_blocks_31 rfl (by decide) ?_
    refine j_istore (pc' := 34) (lv' := [(0, .ref v), (1, .int (nI n)), (2, .int (nI 0)), (3, .int (nI 0)), (4, .long (lN 0)), (6, .long (lN 0)), (8, .int (nI 0))]) Cx dX4_blocks_32 rfl (by decide) rfl ?_
    have LP : ∀ (LP_n : Nat), ∀ (y : Nat), (H - y < LP_n) → (y ≤ H) → J X [(v, .inr (4, [.int (nI W), .int (nI H), .int (nI C), .int (nI S), .ref p1, .ref p2, .ref sg, .ref q1, .ref q2, .ref cs])), (p1, .inr (2, [.int (nI C), .ref a1])), (a1, .inl (ty 0, N, .inl (kN A))), (p2, .inr (2, [.int (nI C), .ref a2])), (a2, .inl (ty 0, N, .inl (kN B)))] [(0, .ref v), (1, .int (nI n)), (2, .int (nI (k2s (kbe n) (W - 1) y 0))), (3, .int (nI (k2s (kbo n) (W - 1) y 0))), (4, .long (lN (k2s (kbes n C W B) (W - 1) y 0))), (6, .long (lN (k2s (kbos n C W B) (W - 1) y 0))), (8, .int (nI y))] 34 [] 0 0 := by
      intro LP_n
      induction LP_n with
      | zero =>
        intro y hms _
        exact absurd hms (Nat.not_lt_zero _)
      | succ LP_n LP_ih =>
        intro y LP_m hle
        have b1 := k2s_le (w := W - 1) (y := y) (a := 0) (h := 24) (kbe_le n) (by omega) (Nat.zero_le _)
        have b2 := k2s_le (w := W - 1) (y := y) (a := 0) (h := 24) (kbo_le n) (by omega) (Nat.zero_le _)
        have b3 : (24 + 1) * ((W - 1) * 1) ≤ 25 * 24 := by omega
        refine j_iload (pc' := 36) Cx dX4_blocks_34 rfl rfl ?_
        refine j_aload_n (pc' := 37) Cx dX4_blocks_36 rfl rfl rfl ?_
        refine j_get (pc' := 40) (N := 10) Cx dX4_blocks_37 rfl kin_X4_blocks_X4 kfl_X4_blocks_17 0 rfl rfl 1 rfl rfl rfl ?_
        refine j_icmp_ge_n (tgt := 113) (pc' := 43) Cx dX4_blocks_40 (by decide) rfl (by omega) (by omega) (fun hy => ?_) (fun hy => ?_)
        · have e : y = H := by omega
          subst e
          refine j_iload_n (pc' := 114) Cx dX4_blocks_113 rfl rfl rfl ?_
          refine j_if_eq_n (tgt := 121) (pc' := 117) Cx dX4_blocks_114 (by decide) rfl (by omega) (fun he => ?_) (fun he => ?_)
          · refine j_dconst0 (pc' := 122) Cx dX4_blocks_121 rfl ?_
            exact j_dretT Cx dX4_blocks_122 R0 ⟨Nat.le_of_ble_eq_true rfl, Nat.le_of_ble_eq_true rfl⟩ (⟨_, rfl, n, hn1, hn2, rfl, (if_pos (Or.inl he)).symm, rfl⟩)
          · refine j_iload_n (pc' := 118) Cx dX4_blocks_117 rfl rfl rfl ?_
            refine j_if_ne_n (tgt := 123) (pc' := 121) Cx dX4_blocks_118 (by decide) rfl (by omega) (fun ho => ?_) (fun ho => ?_)
            · refine j_lload (pc' := 125) Cx dX4_blocks_123 rfl rfl ?_
              refine j_iload_n (pc' := 126) Cx dX4_blocks_125 rfl rfl rfl ?_
              refine j_callS (pc' := 129) (wr := [(v, .inr (4, [.int (nI W), .int (nI y), .int (nI C), .int (nI S), .ref p1, .ref p2, .ref sg, .ref q1, .ref q2, .ref cs])), (p1, .inr (2, [.int (nI C), .ref a1])), (a1, .inl (ty 0, N, .inl (kN A))), (p2, .inr (2, [.int (nI C), .ref a2])), (a2, .inl (ty 0, N, .inl (kN B)))]) (st := []) Cx dX4_blocks_126 rfl (c_X4_quotient l D ty (lN (k2s (kbes n C W B) (W - 1) y 0)) (k2s (kbe n) (W - 1) y 0) (Nat.pos_of_ne_zero he) (by omega)) gX4_blocks_X4_quotient rfl khd_X4_quotient rfl ⟨rfl, rfl, Nat.le_of_ble_eq_true rfl, Nat.le_of_ble_eq_true rfl⟩ [] [0, 1, 2, 3, 4] rfl rfl ⟨rfl, rfl⟩ (by decide) rfl (Nat.le_of_ble_eq_true rfl) ⟨Nat.le_of_ble_eq_true rfl, Nat.le_of_ble_eq_true rfl⟩ (fun v u hpost => ?_)
              obtain ⟨r, rfl, rfl, rfl⟩ := hpost
              show J X [(v, .inr (4, [.int (nI W), .int (nI y), .int (nI C), .int (nI S), .ref p1, .ref p2, .ref sg, .ref q1, .ref q2, .ref cs])), (p1, .inr (2, [.int (nI C), .ref a1])), (a1, .inl (ty 0, N, .inl (kN A))), (p2, .inr (2, [.int (nI C), .ref a2])), (a2, .inl (ty 0, N, .inl (kN B)))] [(0, .ref v), (1, .int (nI n)), (2, .int (nI (k2s (kbe n) (W - 1) y 0))), (3, .int (nI (k2s (kbo n) (W - 1) y 0))), (4, .long (lN (k2s (kbes n C W B) (W - 1) y 0))), (6, .long (lN (k2s (kbos n C W B) (W - 1) y 0))), (8, .int (nI y))] 129 [.double (FP.ddiv (FP.l2d (lN (k2s (kbes n C W B) (W - 1) y 0))) (FP.i2d (nI (k2s (kbe n) (W - 1) y 0))))] 0 0
              refine j_lload (pc' := 131) Cx dX4_blocks_129 rfl rfl ?_
              refine j_iload_n (pc' := 132) Cx dX4_blocks_131 rfl rfl rfl ?_
              refine j_callS (pc' := 135) (wr := [(v, .inr (4, [.int (nI W), .int (nI y), .int (nI C), .int (nI S), .ref p1, .ref p2, .ref sg, .ref q1, .ref q2, .ref cs])), (p1, .inr (2, [.int (nI C), .ref a1])), (a1, .inl (ty 0, N, .inl (kN A))), (p2, .inr (2, [.int (nI C), .ref a2])), (a2, .inl (ty 0, N, .inl (kN B)))]) (st := [.double (FP.ddiv (FP.l2d (lN (k2s (kbes n C W B) (W - 1) y 0))) (FP.i2d (nI (k2s (kbe n) (W - 1) y 0))))]) Cx dX4_blocks_132 rfl (c_X4_quotient l D ty (lN (k2s (kbos n C W B) (W - 1) y 0)) (k2s (kbo n) (W - 1) y 0) (Nat.pos_of_ne_zero ho) (by omega)) gX4_blocks_X4_quotient rfl khd_X4_quotient rfl ⟨rfl, rfl, Nat.le_of_ble_eq_true rfl, Nat.le_of_ble_eq_true rfl⟩ [] [0, 1, 2, 3, 4] rfl rfl ⟨rfl, rfl⟩ (by decide) rfl (Nat.le_of_ble_eq_true rfl) ⟨Nat.le_of_ble_eq_true rfl, Nat.le_of_ble_eq_true rfl⟩ (fun v u hpost => ?_)
              obtain ⟨r, rfl, rfl, rfl⟩ := hpost
              show J X [(v, .inr (4, [.int (nI W), .int (nI y), .int (nI C), .int (nI S), .ref p1, .ref p2, .ref sg, .ref q1, .ref q2, .ref cs])), (p1, .inr (2, [.int (nI C), .ref a1])), (a1, .inl (ty 0, N, .inl (kN A))), (p2, .inr (2, [.int (nI C), .ref a2])), (a2, .inl (ty 0, N, .inl (kN B)))] [(0, .ref v), (1, .int (nI n)), (2, .int (nI (k2s (kbe n) (W - 1) y 0))), (3, .int (nI (k2s (kbo n) (W - 1) y 0))), (4, .long (lN (k2s (kbes n C W B) (W - 1) y 0))), (6, .long (lN (k2s (kbos n C W B) (W - 1) y 0))), (8, .int (nI y))] 135 [.double (FP.ddiv (FP.l2d (lN (k2s (kbos n C W B) (W - 1) y 0))) (FP.i2d (nI (k2s (kbo n) (W - 1) y 0)))), .double (FP.ddiv (FP.l2d (lN (k2s (kbes n C W B) (W - 1) y 0))) (FP.i2d (nI (k2s (kbe n) (W - 1) y 0))))] 0 0
              refine j_dsub (pc' := 136) Cx dX4_blocks_135 rfl (k_noNaN (FP.Core.dsub_out (k_q_fin (Nat.pos_of_ne_zero he) (by omega)).notNaN (k_q_fin (Nat.pos_of_ne_zero ho) (by omega)))) ?_
              exact j_dretT Cx dX4_blocks_136 R0 ⟨Nat.le_of_ble_eq_true rfl, Nat.le_of_ble_eq_true rfl⟩ (⟨_, rfl, n, hn1, hn2, rfl, (if_neg (fun e => e.elim he ho)).symm, rfl⟩)
            · refine j_dconst0 (pc' := 122) Cx dX4_blocks_121 rfl ?_
              exact j_dretT Cx dX4_blocks_122 R0 ⟨Nat.le_of_ble_eq_true rfl, Nat.le_of_ble_eq_true rfl⟩ (⟨_, rfl, n, hn1, hn2, rfl, (if_pos (Or.inr ho)).symm, rfl⟩)
        · refine j_iconst (pc' := 44) (v := (nI 1)) Cx dX4_blocks_43 rfl (by decide) ?_
          refine j_istore (pc' := 46) (lv' := [(0, .ref v), (1, .int (nI n)), (2, .int (nI (k2s (kbe n) (W - 1) y 0))), (3, .int (nI (k2s (kbo n) (W - 1) y 0))), (4, .long (lN (k2s (kbes n C W B) (W - 1) y 0))), (6, .long (lN (k2s (kbos n C W B) (W - 1) y 0))), (8, .int (nI y)), (9, .int (nI 1))]) Cx dX4_blocks_44 rfl (by decide) rfl ?_
          have LQ : ∀ (LQ_n : Nat), ∀ (a : Nat), (W - 1 - a < LQ_n) → (a ≤ W - 1) → J X [(v, .inr (4, [.int (nI W), .int (nI H), .int (nI C), .int (nI S), .ref p1, .ref p2, .ref sg, .ref q1, .ref q2, .ref cs])), (p1, .inr (2, [.int (nI C), .ref a1])), (a1, .inl (ty 0, N, .inl (kN A))), (p2, .inr (2, [.int (nI C), .ref a2])), (a2, .inl (ty 0, N, .inl (kN B)))] [(0, .ref v), (1, .int (nI n)), (2, .int (nI (k2s (kbe n) (W - 1) y a))), (3, .int (nI (k2s (kbo n) (W - 1) y a))), (4, .long (lN (k2s (kbes n C W B) (W - 1) y a))), (6, .long (lN (k2s (kbos n C W B) (W - 1) y a))), (8, .int (nI y)), (9, .int (nI (a + 1)))] 46 [] 0 0 := by
            intro LQ_n
            induction LQ_n with
            | zero =>
              intro a hms _
              exact absurd hms (Nat.not_lt_zero _)
            | succ LQ_n LQ_ih =>
              intro a LQ_m hla
              have c1 := k2s_le (w := W - 1) (y := y) (a := a) (h := 24) (kbe_le n) (by omega) hla
              have c2 := k2s_le (w := W - 1) (y := y) (a := a) (h := 24) (kbo_le n) (by omega) hla
              refine j_iload (pc' := 48) Cx dX4_blocks_46 rfl rfl ?_
              refine j_aload_n (pc' := 49) Cx dX4_blocks_48 rfl rfl rfl ?_
              refine j_get (pc' := 52) (N := 10) Cx dX4_blocks_49 rfl kin_X4_blocks_X4 kfl_X4_blocks_13 0 rfl rfl 0 rfl rfl rfl ?_
              refine j_icmp_ge_n (tgt := 107) (pc' := 55) Cx dX4_blocks_52 (by decide) rfl (by omega) (by omega) (fun hx => ?_) (fun hx => ?_)
              · have e : a = W - 1 := by omega
                subst e
                refine j_iinc_n (pc' := 110) (z := 1) (a := y) (lv' := [(0, .ref v), (1, .int (nI n)), (2, .int (nI (k2s (kbe n) (W - 1) y (W - 1)))), (3, .int (nI (k2s (kbo n) (W - 1) y (W - 1)))), (4, .long (lN (k2s (kbes n C W B) (W - 1) y (W - 1)))), (6, .long (lN (k2s (kbos n C W B) (W - 1) y (W - 1)))), (8, .int (nI (y + 1))), (9, .int (nI ((W - 1) + 1)))]) Cx dX4_blocks_107 rfl rfl (by decide) rfl ?_
                refine j_goto (tgt := 34) Cx dX4_blocks_110 (by decide) ?_
                refine J.lvs (lv' := [(0, .ref v), (1, .int (nI n)), (2, .int (nI (k2s (kbe n) (W - 1) y (W - 1)))), (3, .int (nI (k2s (kbo n) (W - 1) y (W - 1)))), (4, .long (lN (k2s (kbes n C W B) (W - 1) y (W - 1)))), (6, .long (lN (k2s (kbos n C W B) (W - 1) y (W - 1)))), (8, .int (nI (y + 1)))]) [0, 1, 2, 3, 4, 6, 8] rfl ?_
                refine J.cast (ws' := [(v, .inr (4, [.int (nI W), .int (nI H), .int (nI C), .int (nI S), .ref p1, .ref p2, .ref sg, .ref q1, .ref q2, .ref cs])), (p1, .inr (2, [.int (nI C), .ref a1])), (a1, .inl (ty 0, N, .inl (kN A))), (p2, .inr (2, [.int (nI C), .ref a2])), (a2, .inl (ty 0, N, .inl (kN B)))]) (lv' := [(0, .ref v), (1, .int (nI n)), (2, .int (nI (k2s (kbe n) (W - 1) (y + 1) 0))), (3, .int (nI (k2s (kbo n) (W - 1) (y + 1) 0))), (4, .long (lN (k2s (kbes n C W B) (W - 1) (y + 1) 0))), (6, .long (lN (k2s (kbos n C W B) (W - 1) (y + 1) 0))), (8, .int (nI (y + 1)))]) (pc' := 34) (st' := []) (rfl) (rfl) rfl (rfl) rfl rfl ?_
                exact LP_ih (y + 1) (by omega) (by omega)
              · have hst := kbd_le (C := C) (W := W) hB y a
                refine j_aload_n (pc' := 56) Cx dX4_blocks_55 rfl rfl rfl ?_
                refine j_aload_n (pc' := 57) Cx dX4_blocks_56 rfl rfl rfl ?_
                refine j_get (pc' := 60) (N := 10) Cx dX4_blocks_57 rfl kin_X4_blocks_X4 kfl_X4_blocks_38 0 rfl rfl 5 rfl rfl rfl ?_
                refine j_iload (pc' := 62) Cx dX4_blocks_60 rfl rfl ?_
                refine j_iload (pc' := 64) Cx dX4_blocks_62 rfl rfl ?_
                refine j_callV (pc' := 67) (wr := [(p1, .inr (2, [.int (nI C), .ref a1])), (a1, .inl (ty 0, N, .inl (kN A)))]) (st := []) Cx dX4_blocks_64 rfl (c_X4_stepTo l D ty v p1 p2 sg q1 q2 cs W H C S p2 a2 N B hB hW hH h1 h3 hN (a + 1) y (by omega) (by omega) (by omega)) gX4_blocks_X4_stepTo rfl khd_X4_stepTo rfl ⟨rfl, rfl, Nat.le_of_ble_eq_true rfl, Nat.le_of_ble_eq_true rfl⟩ [0, 3, 4] [1, 2] rfl rfl ⟨rfl, rfl⟩ (by decide) 0 rfl rfl rfl (Nat.le_of_ble_eq_true rfl) ⟨Nat.le_of_ble_eq_true rfl, Nat.le_of_ble_eq_true rfl⟩ (fun v u hpost => ?_)
                obtain ⟨r, rfl, rfl, rfl⟩ := hpost
                show J X [(p1, .inr (2, [.int (nI C), .ref a1])), (a1, .inl (ty 0, N, .inl (kN A))), (v, .inr (4, [.int (nI W), .int (nI H), .int (nI C), .int (nI S), .ref p1, .ref p2, .ref sg, .ref q1, .ref q2, .ref cs])), (p2, .inr (2, [.int (nI C), .ref a2])), (a2, .inl (ty 0, N, .inl (kN B)))] [(0, .ref v), (1, .int (nI n)), (2, .int (nI (k2s (kbe n) (W - 1) y a))), (3, .int (nI (k2s (kbo n) (W - 1) y a))), (4, .long (lN (k2s (kbes n C W B) (W - 1) y a))), (6, .long (lN (k2s (kbos n C W B) (W - 1) y a))), (8, .int (nI y)), (9, .int (nI (a + 1)))] 67 [.int (nI (kbd C W B y a))] 0 0
                refine J.sub (ws' := [(v, .inr (4, [.int (nI W), .int (nI H), .int (nI C), .int (nI S), .ref p1, .ref p2, .ref sg, .ref q1, .ref q2, .ref cs])), (p1, .inr (2, [.int (nI C), .ref a1])), (a1, .inl (ty 0, N, .inl (kN A))), (p2, .inr (2, [.int (nI C), .ref a2])), (a2, .inl (ty 0, N, .inl (kN B)))]) [2, 0, 1, 3, 4] rfl rfl ?_
                refine j_istore (pc' := 69) (lv' := [(0, .ref v), (1, .int (nI n)), (2, .int (nI (k2s (kbe n) (W - 1) y a))), (3, .int (nI (k2s (kbo n) (W - 1) y a))), (4, .long (lN (k2s (kbes n C W B) (W - 1) y a))), (6, .long (lN (k2s (kbos n C W B) (W - 1) y a))), (8, .int (nI y)), (9, .int (nI (a + 1))), (10, .int (nI (kbd C W B y a)))]) Cx dX4_blocks_67 rfl (by decide) rfl ?_
                refine j_iload (pc' := 71) Cx dX4_blocks_69 rfl rfl ?_
                refine j_iload_n (pc' := 72) Cx dX4_blocks_71 rfl rfl rfl ?_
                refine j_irem_n (pc' := 73) Cx dX4_blocks_72 rfl (by omega) (by omega) (by omega) ?_
                refine j_if_ne_n (tgt := 90) (pc' := 76) Cx dX4_blocks_73 (by decide) rfl (Nat.lt_of_lt_of_le (Nat.mod_lt _ (by omega)) (by omega)) (fun hm => ?_) (fun hm => ?_)
                · refine j_iinc_n (pc' := 93) (z := 1) (a := (k2s (kbo n) (W - 1) y a)) (lv' := [(0, .ref v), (1, .int (nI n)), (2, .int (nI (k2s (kbe n) (W - 1) y a))), (3, .int (nI (k2s (kbo n) (W - 1) y a + 1))), (4, .long (lN (k2s (kbes n C W B) (W - 1) y a))), (6, .long (lN (k2s (kbos n C W B) (W - 1) y a))), (8, .int (nI y)), (9, .int (nI (a + 1))), (10, .int (nI (kbd C W B y a)))]) Cx dX4_blocks_90 rfl rfl (by decide) rfl ?_
                  refine j_lload (pc' := 95) Cx dX4_blocks_93 rfl rfl ?_
                  refine j_iload (pc' := 97) Cx dX4_blocks_95 rfl rfl ?_
                  refine j_i2l_n (pc' := 98) Cx dX4_blocks_97 rfl (Nat.lt_of_le_of_lt hst (by decide)) ?_
                  refine j_ladd_n (pc' := 99) Cx dX4_blocks_98 rfl ?_
                  refine j_lstore (pc' := 101) (lv' := [(0, .ref v), (1, .int (nI n)), (2, .int (nI (k2s (kbe n) (W - 1) y a))), (3, .int (nI (k2s (kbo n) (W - 1) y a + 1))), (4, .long (lN (k2s (kbes n C W B) (W - 1) y a))), (6, .long (lN ((k2s (kbos n C W B) (W - 1) y a) + (kbd C W B y a)))), (8, .int (nI y)), (9, .int (nI (a + 1))), (10, .int (nI (kbd C W B y a)))]) Cx dX4_blocks_99 rfl (by decide) rfl ?_
                  refine j_iinc_n (pc' := 104) (z := 1) (a := (a + 1)) (lv' := [(0, .ref v), (1, .int (nI n)), (2, .int (nI (k2s (kbe n) (W - 1) y a))), (3, .int (nI (k2s (kbo n) (W - 1) y a + 1))), (4, .long (lN (k2s (kbes n C W B) (W - 1) y a))), (6, .long (lN ((k2s (kbos n C W B) (W - 1) y a) + (kbd C W B y a)))), (8, .int (nI y)), (9, .int (nI (a + 1 + 1))), (10, .int (nI (kbd C W B y a)))]) Cx dX4_blocks_101 rfl rfl (by decide) rfl ?_
                  refine j_goto (tgt := 46) Cx dX4_blocks_104 (by decide) ?_
                  refine J.lvs (lv' := [(0, .ref v), (1, .int (nI n)), (2, .int (nI (k2s (kbe n) (W - 1) y a))), (3, .int (nI (k2s (kbo n) (W - 1) y a + 1))), (4, .long (lN (k2s (kbes n C W B) (W - 1) y a))), (6, .long (lN ((k2s (kbos n C W B) (W - 1) y a) + (kbd C W B y a)))), (8, .int (nI y)), (9, .int (nI (a + 1 + 1)))]) [0, 1, 2, 3, 4, 6, 8, 9] rfl ?_
                  refine J.cast (ws' := [(v, .inr (4, [.int (nI W), .int (nI H), .int (nI C), .int (nI S), .ref p1, .ref p2, .ref sg, .ref q1, .ref q2, .ref cs])), (p1, .inr (2, [.int (nI C), .ref a1])), (a1, .inl (ty 0, N, .inl (kN A))), (p2, .inr (2, [.int (nI C), .ref a2])), (a2, .inl (ty 0, N, .inl (kN B)))]) (lv' := [(0, .ref v), (1, .int (nI n)), (2, .int (nI (k2s (kbe n) (W - 1) y (a + 1)))), (3, .int (nI (k2s (kbo n) (W - 1) y (a + 1)))), (4, .long (lN (k2s (kbes n C W B) (W - 1) y (a + 1)))), (6, .long (lN (k2s (kbos n C W B) (W - 1) y (a + 1)))), (8, .int (nI y)), (9, .int (nI ((a + 1) + 1)))]) (pc' := 46) (st' := []) (rfl) (by rw [show k2s (kbe n) (W - 1) y (a + 1) = k2s (kbe n) (W - 1) y a from by rw [← k2s_a]; show _ + (if (a + 1) % n = 0 then _ else _) = _; rw [if_neg hm]; rfl, show k2s (kbo n) (W - 1) y (a + 1) = k2s (kbo n) (W - 1) y a + 1 from by rw [← k2s_a]; show _ + (if (a + 1) % n = 0 then _ else _) = _; rw [if_neg hm], show k2s (kbes n C W B) (W - 1) y (a + 1) = k2s (kbes n C W B) (W - 1) y a from by rw [← k2s_a]; show _ + (if (a + 1) % n = 0 then _ else _) = _; rw [if_neg hm]; rfl, show k2s (kbos n C W B) (W - 1) y (a + 1) = k2s (kbos n C W B) (W - 1) y a + kbd C W B y a from by rw [← k2s_a]; show _ + (if (a + 1) % n = 0 then _ else _) = _; rw [if_neg hm]]) rfl (rfl) rfl rfl ?_
                  exact LQ_ih (a + 1) (by omega) (by omega)
                · refine j_iinc_n (pc' := 79) (z := 1) (a := (k2s (kbe n) (W - 1) y a)) (lv' := [(0, .ref v), (1, .int (nI n)), (2, .int (nI (k2s (kbe n) (W - 1) y a + 1))), (3, .int (nI (k2s (kbo n) (W - 1) y a))), (4, .long (lN (k2s (kbes n C W B) (W - 1) y a))), (6, .long (lN (k2s (kbos n C W B) (W - 1) y a))), (8, .int (nI y)), (9, .int (nI (a + 1))), (10, .int (nI (kbd C W B y a)))]) Cx dX4_blocks_76 rfl rfl (by decide) rfl ?_
                  refine j_lload (pc' := 81) Cx dX4_blocks_79 rfl rfl ?_
                  refine j_iload (pc' := 83) Cx dX4_blocks_81 rfl rfl ?_
                  refine j_i2l_n (pc' := 84) Cx dX4_blocks_83 rfl (Nat.lt_of_le_of_lt hst (by decide)) ?_
                  refine j_ladd_n (pc' := 85) Cx dX4_blocks_84 rfl ?_
                  refine j_lstore (pc' := 87) (lv' := [(0, .ref v), (1, .int (nI n)), (2, .int (nI (k2s (kbe n) (W - 1) y a + 1))), (3, .int (nI (k2s (kbo n) (W - 1) y a))), (4, .long (lN ((k2s (kbes n C W B) (W - 1) y a) + (kbd C W B y a)))), (6, .long (lN (k2s (kbos n C W B) (W - 1) y a))), (8, .int (nI y)), (9, .int (nI (a + 1))), (10, .int (nI (kbd C W B y a)))]) Cx dX4_blocks_85 rfl (by decide) rfl ?_
                  refine j_goto (tgt := 101) Cx dX4_blocks_87 (by decide) ?_
                  refine j_iinc_n (pc' := 104) (z := 1) (a := (a + 1)) (lv' := [(0, .ref v), (1, .int (nI n)), (2, .int (nI (k2s (kbe n) (W - 1) y a + 1))), (3, .int (nI (k2s (kbo n) (W - 1) y a))), (4, .long (lN ((k2s (kbes n C W B) (W - 1) y a) + (kbd C W B y a)))), (6, .long (lN (k2s (kbos n C W B) (W - 1) y a))), (8, .int (nI y)), (9, .int (nI (a + 1 + 1))), (10, .int (nI (kbd C W B y a)))]) Cx dX4_blocks_101 rfl rfl (by decide) rfl ?_
                  refine j_goto (tgt := 46) Cx dX4_blocks_104 (by decide) ?_
                  refine J.lvs (lv' := [(0, .ref v), (1, .int (nI n)), (2, .int (nI (k2s (kbe n) (W - 1) y a + 1))), (3, .int (nI (k2s (kbo n) (W - 1) y a))), (4, .long (lN ((k2s (kbes n C W B) (W - 1) y a) + (kbd C W B y a)))), (6, .long (lN (k2s (kbos n C W B) (W - 1) y a))), (8, .int (nI y)), (9, .int (nI (a + 1 + 1)))]) [0, 1, 2, 3, 4, 6, 8, 9] rfl ?_
                  refine J.cast (ws' := [(v, .inr (4, [.int (nI W), .int (nI H), .int (nI C), .int (nI S), .ref p1, .ref p2, .ref sg, .ref q1, .ref q2, .ref cs])), (p1, .inr (2, [.int (nI C), .ref a1])), (a1, .inl (ty 0, N, .inl (kN A))), (p2, .inr (2, [.int (nI C), .ref a2])), (a2, .inl (ty 0, N, .inl (kN B)))]) (lv' := [(0, .ref v), (1, .int (nI n)), (2, .int (nI (k2s (kbe n) (W - 1) y (a + 1)))), (3, .int (nI (k2s (kbo n) (W - 1) y (a + 1)))), (4, .long (lN (k2s (kbes n C W B) (W - 1) y (a + 1)))), (6, .long (lN (k2s (kbos n C W B) (W - 1) y (a + 1)))), (8, .int (nI y)), (9, .int (nI ((a + 1) + 1)))]) (pc' := 46) (st' := []) (rfl) (by rw [show k2s (kbe n) (W - 1) y (a + 1) = k2s (kbe n) (W - 1) y a + 1 from by rw [← k2s_a]; show _ + (if (a + 1) % n = 0 then _ else _) = _; rw [if_pos hm], show k2s (kbo n) (W - 1) y (a + 1) = k2s (kbo n) (W - 1) y a from by rw [← k2s_a]; show _ + (if (a + 1) % n = 0 then _ else _) = _; rw [if_pos hm]; rfl, show k2s (kbes n C W B) (W - 1) y (a + 1) = k2s (kbes n C W B) (W - 1) y a + kbd C W B y a from by rw [← k2s_a]; show _ + (if (a + 1) % n = 0 then _ else _) = _; rw [if_pos hm], show k2s (kbos n C W B) (W - 1) y (a + 1) = k2s (kbos n C W B) (W - 1) y a from by rw [← k2s_a]; show _ + (if (a + 1) % n = 0 then _ else _) = _; rw [if_pos hm]; rfl]) rfl (rfl) rfl rfl ?_
                  exact LQ_ih (a + 1) (by omega) (by omega)
          refine J.cast (ws' := [(v, .inr (4, [.int (nI W), .int (nI H), .int (nI C), .int (nI S), .ref p1, .ref p2, .ref sg, .ref q1, .ref q2, .ref cs])), (p1, .inr (2, [.int (nI C), .ref a1])), (a1, .inl (ty 0, N, .inl (kN A))), (p2, .inr (2, [.int (nI C), .ref a2])), (a2, .inl (ty 0, N, .inl (kN B)))]) (lv' := [(0, .ref v), (1, .int (nI n)), (2, .int (nI (k2s (kbe n) (W - 1) y 0))), (3, .int (nI (k2s (kbo n) (W - 1) y 0))), (4, .long (lN (k2s (kbes n C W B) (W - 1) y 0))), (6, .long (lN (k2s (kbos n C W B) (W - 1) y 0))), (8, .int (nI y)), (9, .int (nI (0 + 1)))]) (pc' := 46) (st' := []) (rfl) (rfl) rfl (rfl) rfl rfl ?_
          exact LQ (W - 1 + 1) 0 (by omega) (Nat.zero_le _)
    refine J.cast (ws' := [(v, .inr (4, [.int (nI W), .int (nI H), .int (nI C), .int (nI S), .ref p1, .ref p2, .ref sg, .ref q1, .ref q2, .ref cs])), (p1, .inr (2, [.int (nI C), .ref a1])), (a1, .inl (ty 0, N, .inl (kN A))), (p2, .inr (2, [.int (nI C), .ref a2])), (a2, .inl (ty 0, N, .inl (kN B)))]) (lv' := [(0, .ref v), (1, .int (nI n)), (2, .int (nI (k2s (kbe n) (W - 1) 0 0))), (3, .int (nI (k2s (kbo n) (W - 1) 0 0))), (4, .long (lN (k2s (kbes n C W B) (W - 1) 0 0))), (6, .long (lN (k2s (kbos n C W B) (W - 1) 0 0))), (8, .int (nI 0))]) (pc' := 34) (st' := []) (rfl) (rfl) rfl (rfl) rfl rfl ?_
    exact LP (H + 1) 0 (by omega) (Nat.zero_le _)
  · refine j_iload_n (pc' := 1) Cx dX4_blocks_0 rfl rfl rfl ?_
    refine j_iconst (pc' := 2) (v := (nI 2)) Cx dX4_blocks_1 rfl (by decide) ?_
    refine j_icmp_lt (tgt := 11) (pc' := 5) Cx dX4_blocks_2 (by decide) rfl (fun h1x => ?_) (fun h1x => ?_)
    · exact j_throw Cx R0 (cls := kIAE) (text := "the size is not 2 .. 24") dX4_blocks_11 dX4_blocks_14 dX4_blocks_15 dX4_blocks_17 dX4_blocks_20 (by decide) (by decide +kernel) kthr_X4_blocks_80 ⟨Nat.le_of_ble_eq_true rfl, Nat.le_of_ble_eq_true rfl, Nat.le_of_ble_eq_true rfl, Nat.le_of_ble_eq_true rfl⟩ ⟨Nat.le_of_ble_eq_true rfl, Nat.le_of_ble_eq_true rfl⟩ (⟨rfl, hx, rfl⟩)
    · refine j_iload_n (pc' := 6) Cx dX4_blocks_5 rfl rfl rfl ?_
      refine j_bipush (pc' := 8) (v := (nI 24)) Cx dX4_blocks_6 rfl (by decide) ?_
      refine j_icmp_le (tgt := 21) (pc' := 11) Cx dX4_blocks_8 (by decide) rfl (fun h2x => ?_) (fun h2x => ?_)
      · have h3x : ¬ x < 0 := fun h => h1x (Int32.lt_trans h (by decide))
        obtain ⟨n, hn, rfl⟩ := nI_of h3x
        exact absurd ⟨n, Nat.le_of_not_lt (fun h => h1x (nI_lt h (by decide))), (nI_leI hn (by decide)).mp h2x, rfl⟩ hx
      · exact j_throw Cx R0 (cls := kIAE) (text := "the size is not 2 .. 24") dX4_blocks_11 dX4_blocks_14 dX4_blocks_15 dX4_blocks_17 dX4_blocks_20 (by decide) (by decide +kernel) kthr_X4_blocks_80 ⟨Nat.le_of_ble_eq_true rfl, Nat.le_of_ble_eq_true rfl, Nat.le_of_ble_eq_true rfl, Nat.le_of_ble_eq_true rfl⟩ ⟨Nat.le_of_ble_eq_true rfl, Nat.le_of_ble_eq_true rfl⟩ (⟨rfl, hx, rfl⟩)

set_option maxHeartbeats 4000000 in
set_option maxRecDepth 100000 in
/-- bands -/
theorem c_X4_bands (l : Launch) (D : va_G) (ty : Nat → ClassId) (v p1 p2 sg q1 q2 cs W H C S : Nat) (a1 a2 N : Nat) (A B : Nat → Nat) (hA : ∀ i, A i < 256) (hB : ∀ i, B i < 256) (hW : W ≤ 24) (hH : H ≤ 24) (hW1 : 1 ≤ W) (hH1 : 1 ≤ H) (h1 : 1 ≤ C) (h3 : C ≤ 3) (hN : N = (W * H) * C) : KM l yX4_bands wsX4_bands { frames := 3, cells := 0, slots := 0, locals := 100 } D ty [.ref v] [(v, .inr (4, [.int (nI W), .int (nI H), .int (nI C), .int (nI S), .ref p1, .ref p2, .ref sg, .ref q1, .ref q2, .ref cs])), (p1, .inr (2, [.int (nI C), .ref a1])), (a1, .inl (ty 0, N, .inl (kN A))), (p2, .inr (2, [.int (nI C), .ref a2])), (a2, .inl (ty 0, N, .inl (kN B)))] (kF (fun r u => r = kbandv (H * (W - 1)) (k2L (kbc C W A B) (W - 1) H 0) ∧ u = [(v, .inr (4, [.int (nI W), .int (nI H), .int (nI C), .int (nI S), .ref p1, .ref p2, .ref sg, .ref q1, .ref q2, .ref cs])), (p1, .inr (2, [.int (nI C), .ref a1])), (a1, .inl (ty 0, N, .inl (kN A))), (p2, .inr (2, [.int (nI C), .ref a2])), (a2, .inl (ty 0, N, .inl (kN B)))])) 0 0 := by
  refine KM.of (cc := cX4_bands) (maxL := 8) (ret := (some .double)) (lv := [(0, .ref v)]) (by decide +kernel) rfl rfl rfl (fun X C0 R0 => ?_)
  have Cx : kC X cX4_bands wsX4_bands RX4 { frames := 3, cells := 0, slots := 0, locals := 100 } "bands" l D ty 8 := C0
  have hwh := k_wh hW hH
  have hN2 : N ≤ 1728 := by rw [hN]; exact Nat.le_trans (Nat.mul_le_mul hwh h3) (by decide)
  have hHW : H * (W - 1) ≤ 24 * 24 := Nat.mul_le_mul hH (by omega)
  refine j_iconst (pc' := 1) (v := (nI 0)) Cx dX4_bands_0 rfl (by decide) ?_
  refine j_istore_n (pc' := 2) (lv' := [(0, .ref v), (1, .int (nI 0))]) Cx dX4_bands_1 rfl rfl (by decide) rfl ?_
  refine j_lconst (pc' := 3) (v := (lN 0)) Cx dX4_bands_2 rfl rfl ?_
  refine j_lstore_n (pc' := 4) (lv' := [(0, .ref v), (1, .int (nI 0)), (2, .long (lN 0))]) Cx dX4_bands_3 rfl rfl (by decide) rfl ?_
  refine j_iconst (pc' := 5) (v := (nI 0)) Cx dX4_bands_4 rfl (by decide) ?_
  refine j_istore (pc' := 7) (lv' := [(0, .ref v), (1, .int (nI 0)), (2, .long (lN 0)), (4, .int (nI 0))]) Cx dX4_bands_5 rfl (by decide) rfl ?_
  have LP : ∀ (LP_n : Nat), ∀ (y : Nat), (H - y < LP_n) → (y ≤ H) → J X [(v, .inr (4, [.int (nI W), .int (nI H), .int (nI C), .int (nI S), .ref p1, .ref p2, .ref sg, .ref q1, .ref q2, .ref cs])), (p1, .inr (2, [.int (nI C), .ref a1])), (a1, .inl (ty 0, N, .inl (kN A))), (p2, .inr (2, [.int (nI C), .ref a2])), (a2, .inl (ty 0, N, .inl (kN B)))] [(0, .ref v), (1, .int (nI (y * (W - 1)))), (2, .long (k2L (kbc C W A B) (W - 1) y 0)), (4, .int (nI y))] 7 [] 0 0 := by
    intro LP_n
    induction LP_n with
    | zero =>
      intro y hms _
      exact absurd hms (Nat.not_lt_zero _)
    | succ LP_n LP_ih =>
      intro y LP_m hle
      have b1 : y * (W - 1) ≤ H * (W - 1) := Nat.mul_le_mul_right _ hle
      refine j_iload (pc' := 9) Cx dX4_bands_7 rfl rfl ?_
      refine j_aload_n (pc' := 10) Cx dX4_bands_9 rfl rfl rfl ?_
      refine j_get (pc' := 13) (N := 10) Cx dX4_bands_10 rfl kin_X4_bands_X4 kfl_X4_bands_17 0 rfl rfl 1 rfl rfl rfl ?_
      refine j_icmp_ge_n (tgt := 104) (pc' := 16) Cx dX4_bands_13 (by decide) rfl (by omega) (by omega) (fun hy => ?_) (fun hy => ?_)
      · have e : y = H := by omega
        subst e
        refine j_lload_n (pc' := 105) Cx dX4_bands_104 rfl rfl rfl ?_
        refine j_iload_n (pc' := 106) Cx dX4_bands_105 rfl rfl rfl ?_
        by_cases h0 : y * (W - 1) = 0
        · rw [h0] at R0 ⊢
          refine j_callS (pc' := 109) (wr := [(v, .inr (4, [.int (nI W), .int (nI y), .int (nI C), .int (nI S), .ref p1, .ref p2, .ref sg, .ref q1, .ref q2, .ref cs])), (p1, .inr (2, [.int (nI C), .ref a1])), (a1, .inl (ty 0, N, .inl (kN A))), (p2, .inr (2, [.int (nI C), .ref a2])), (a2, .inl (ty 0, N, .inl (kN B)))]) (st := []) Cx dX4_bands_106 rfl (c_X4_quotient0 l D ty (k2L (kbc C W A B) (W - 1) y 0)) gX4_bands_X4_quotient rfl khd_X4_quotient rfl ⟨rfl, rfl, Nat.le_of_ble_eq_true rfl, Nat.le_of_ble_eq_true rfl⟩ [] [0, 1, 2, 3, 4] rfl rfl ⟨rfl, rfl⟩ (by decide) rfl (Nat.le_of_ble_eq_true rfl) ⟨Nat.le_of_ble_eq_true rfl, Nat.le_of_ble_eq_true rfl⟩ (fun v u hpost => ?_)
          obtain ⟨r, rfl, rfl, rfl⟩ := hpost
          show J X [(v, .inr (4, [.int (nI W), .int (nI y), .int (nI C), .int (nI S), .ref p1, .ref p2, .ref sg, .ref q1, .ref q2, .ref cs])), (p1, .inr (2, [.int (nI C), .ref a1])), (a1, .inl (ty 0, N, .inl (kN A))), (p2, .inr (2, [.int (nI C), .ref a2])), (a2, .inl (ty 0, N, .inl (kN B)))] [(0, .ref v), (1, .int (nI 0)), (2, .long (k2L (kbc C W A B) (W - 1) y 0)), (4, .int (nI y))] 109 [.double (0)] 0 0
          exact j_dret Cx dX4_bands_109 R0 ⟨Nat.le_of_ble_eq_true rfl, Nat.le_of_ble_eq_true rfl⟩ (⟨_, rfl, rfl, rfl⟩)
        · refine j_callS (pc' := 109) (wr := [(v, .inr (4, [.int (nI W), .int (nI y), .int (nI C), .int (nI S), .ref p1, .ref p2, .ref sg, .ref q1, .ref q2, .ref cs])), (p1, .inr (2, [.int (nI C), .ref a1])), (a1, .inl (ty 0, N, .inl (kN A))), (p2, .inr (2, [.int (nI C), .ref a2])), (a2, .inl (ty 0, N, .inl (kN B)))]) (st := []) Cx dX4_bands_106 rfl (c_X4_quotient l D ty (k2L (kbc C W A B) (W - 1) y 0) (y * (W - 1)) (Nat.pos_of_ne_zero h0) (by omega)) gX4_bands_X4_quotient rfl khd_X4_quotient rfl ⟨rfl, rfl, Nat.le_of_ble_eq_true rfl, Nat.le_of_ble_eq_true rfl⟩ [] [0, 1, 2, 3, 4] rfl rfl ⟨rfl, rfl⟩ (by decide) rfl (Nat.le_of_ble_eq_true rfl) ⟨Nat.le_of_ble_eq_true rfl, Nat.le_of_ble_eq_true rfl⟩ (fun v u hpost => ?_)
          obtain ⟨r, rfl, rfl, rfl⟩ := hpost
          show J X [(v, .inr (4, [.int (nI W), .int (nI y), .int (nI C), .int (nI S), .ref p1, .ref p2, .ref sg, .ref q1, .ref q2, .ref cs])), (p1, .inr (2, [.int (nI C), .ref a1])), (a1, .inl (ty 0, N, .inl (kN A))), (p2, .inr (2, [.int (nI C), .ref a2])), (a2, .inl (ty 0, N, .inl (kN B)))] [(0, .ref v), (1, .int (nI (y * (W - 1)))), (2, .long (k2L (kbc C W A B) (W - 1) y 0)), (4, .int (nI y))] 109 [.double (FP.ddiv (FP.l2d (k2L (kbc C W A B) (W - 1) y 0)) (FP.i2d (nI (y * (W - 1)))))] 0 0
          exact j_dret Cx dX4_bands_109 R0 ⟨Nat.le_of_ble_eq_true rfl, Nat.le_of_ble_eq_true rfl⟩ (⟨_, rfl, (if_neg h0).symm, rfl⟩)
      · refine j_iconst (pc' := 17) (v := (nI 1)) Cx dX4_bands_16 rfl (by decide) ?_
        refine j_istore (pc' := 19) (lv' := [(0, .ref v), (1, .int (nI (y * (W - 1)))), (2, .long (k2L (kbc C W A B) (W - 1) y 0)), (4, .int (nI y)), (5, .int (nI 1))]) Cx dX4_bands_17 rfl (by decide) rfl ?_
        have LQ : ∀ (LQ_n : Nat), ∀ (a : Nat), (W - 1 - a < LQ_n) → (a ≤ W - 1) → J X [(v, .inr (4, [.int (nI W), .int (nI H), .int (nI C), .int (nI S), .ref p1, .ref p2, .ref sg, .ref q1, .ref q2, .ref cs])), (p1, .inr (2, [.int (nI C), .ref a1])), (a1, .inl (ty 0, N, .inl (kN A))), (p2, .inr (2, [.int (nI C), .ref a2])), (a2, .inl (ty 0, N, .inl (kN B)))] [(0, .ref v), (1, .int (nI (y * (W - 1) + a))), (2, .long (k2L (kbc C W A B) (W - 1) y a)), (4, .int (nI y)), (5, .int (nI (a + 1)))] 19 [] 0 0 := by
          intro LQ_n
          induction LQ_n with
          | zero =>
            intro a hms _
            exact absurd hms (Nat.not_lt_zero _)
          | succ LQ_n LQ_ih =>
            intro a LQ_m hla
            refine j_iload (pc' := 21) Cx dX4_bands_19 rfl rfl ?_
            refine j_aload_n (pc' := 22) Cx dX4_bands_21 rfl rfl rfl ?_
            refine j_get (pc' := 25) (N := 10) Cx dX4_bands_22 rfl kin_X4_bands_X4 kfl_X4_bands_13 0 rfl rfl 0 rfl rfl rfl ?_
            refine j_icmp_ge_n (tgt := 98) (pc' := 28) Cx dX4_bands_25 (by decide) rfl (by omega) (by omega) (fun hx => ?_) (fun hx => ?_)
            · have e : a = W - 1 := by omega
              subst e
              refine j_iinc_n (pc' := 101) (z := 1) (a := y) (lv' := [(0, .ref v), (1, .int (nI (y * (W - 1) + (W - 1)))), (2, .long (k2L (kbc C W A B) (W - 1) y (W - 1))), (4, .int (nI (y + 1))), (5, .int (nI ((W - 1) + 1)))]) Cx dX4_bands_98 rfl rfl (by decide) rfl ?_
              refine j_goto (tgt := 7) Cx dX4_bands_101 (by decide) ?_
              refine J.lvs (lv' := [(0, .ref v), (1, .int (nI (y * (W - 1) + (W - 1)))), (2, .long (k2L (kbc C W A B) (W - 1) y (W - 1))), (4, .int (nI (y + 1)))]) [0, 1, 2, 4] rfl ?_
              refine J.cast (ws' := [(v, .inr (4, [.int (nI W), .int (nI H), .int (nI C), .int (nI S), .ref p1, .ref p2, .ref sg, .ref q1, .ref q2, .ref cs])), (p1, .inr (2, [.int (nI C), .ref a1])), (a1, .inl (ty 0, N, .inl (kN A))), (p2, .inr (2, [.int (nI C), .ref a2])), (a2, .inl (ty 0, N, .inl (kN B)))]) (lv' := [(0, .ref v), (1, .int (nI ((y + 1) * (W - 1)))), (2, .long (k2L (kbc C W A B) (W - 1) (y + 1) 0)), (4, .int (nI (y + 1)))]) (pc' := 7) (st' := []) (rfl) (by rw [Nat.succ_mul, k2L_row]) rfl (rfl) rfl rfl ?_
              exact LP_ih (y + 1) (by omega) (by omega)
            · have hs1 := kbd_le (C := C) (W := W) hA y a
              have hs2 := kbd_le (C := C) (W := W) hB y a
              refine j_aload_n (pc' := 29) Cx dX4_bands_28 rfl rfl rfl ?_
              refine j_aload_n (pc' := 30) Cx dX4_bands_29 rfl rfl rfl ?_
              refine j_get (pc' := 33) (N := 10) Cx dX4_bands_30 rfl kin_X4_bands_X4 kfl_X4_bands_34 0 rfl rfl 4 rfl rfl rfl ?_
              refine j_iload (pc' := 35) Cx dX4_bands_33 rfl rfl ?_
              refine j_iload (pc' := 37) Cx dX4_bands_35 rfl rfl ?_
              refine j_callV (pc' := 40) (wr := [(p2, .inr (2, [.int (nI C), .ref a2])), (a2, .inl (ty 0, N, .inl (kN B)))]) (st := []) Cx dX4_bands_37 rfl (c_X4_stepTo l D ty v p1 p2 sg q1 q2 cs W H C S p1 a1 N A hA hW hH h1 h3 hN (a + 1) y (by omega) (by omega) (by omega)) gX4_bands_X4_stepTo rfl khd_X4_stepTo rfl ⟨rfl, rfl, Nat.le_of_ble_eq_true rfl, Nat.le_of_ble_eq_true rfl⟩ [0, 1, 2] [3, 4] rfl rfl ⟨rfl, rfl⟩ (by decide) 0 rfl rfl rfl (Nat.le_of_ble_eq_true rfl) ⟨Nat.le_of_ble_eq_true rfl, Nat.le_of_ble_eq_true rfl⟩ (fun v u hpost => ?_)
              obtain ⟨r, rfl, rfl, rfl⟩ := hpost
              show J X [(p2, .inr (2, [.int (nI C), .ref a2])), (a2, .inl (ty 0, N, .inl (kN B))), (v, .inr (4, [.int (nI W), .int (nI H), .int (nI C), .int (nI S), .ref p1, .ref p2, .ref sg, .ref q1, .ref q2, .ref cs])), (p1, .inr (2, [.int (nI C), .ref a1])), (a1, .inl (ty 0, N, .inl (kN A)))] [(0, .ref v), (1, .int (nI (y * (W - 1) + a))), (2, .long (k2L (kbc C W A B) (W - 1) y a)), (4, .int (nI y)), (5, .int (nI (a + 1)))] 40 [.int (nI (kbd C W A y a))] 0 0
              refine J.sub (ws' := [(v, .inr (4, [.int (nI W), .int (nI H), .int (nI C), .int (nI S), .ref p1, .ref p2, .ref sg, .ref q1, .ref q2, .ref cs])), (p1, .inr (2, [.int (nI C), .ref a1])), (a1, .inl (ty 0, N, .inl (kN A))), (p2, .inr (2, [.int (nI C), .ref a2])), (a2, .inl (ty 0, N, .inl (kN B)))]) [2, 3, 4, 0, 1] rfl rfl ?_
              refine j_istore (pc' := 42) (lv' := [(0, .ref v), (1, .int (nI (y * (W - 1) + a))), (2, .long (k2L (kbc C W A B) (W - 1) y a)), (4, .int (nI y)), (5, .int (nI (a + 1))), (6, .int (nI (kbd C W A y a)))]) Cx dX4_bands_40 rfl (by decide) rfl ?_
              refine j_aload_n (pc' := 43) Cx dX4_bands_42 rfl rfl rfl ?_
              refine j_aload_n (pc' := 44) Cx dX4_bands_43 rfl rfl rfl ?_
              refine j_get (pc' := 47) (N := 10) Cx dX4_bands_44 rfl kin_X4_bands_X4 kfl_X4_bands_38 0 rfl rfl 5 rfl rfl rfl ?_
              refine j_iload (pc' := 49) Cx dX4_bands_47 rfl rfl ?_
              refine j_iload (pc' := 51) Cx dX4_bands_49 rfl rfl ?_
              refine j_callV (pc' := 54) (wr := [(p1, .inr (2, [.int (nI C), .ref a1])), (a1, .inl (ty 0, N, .inl (kN A)))]) (st := []) Cx dX4_bands_51 rfl (c_X4_stepTo l D ty v p1 p2 sg q1 q2 cs W H C S p2 a2 N B hB hW hH h1 h3 hN (a + 1) y (by omega) (by omega) (by omega)) gX4_bands_X4_stepTo rfl khd_X4_stepTo rfl ⟨rfl, rfl, Nat.le_of_ble_eq_true rfl, Nat.le_of_ble_eq_true rfl⟩ [0, 3, 4] [1, 2] rfl rfl ⟨rfl, rfl⟩ (by decide) 0 rfl rfl rfl (Nat.le_of_ble_eq_true rfl) ⟨Nat.le_of_ble_eq_true rfl, Nat.le_of_ble_eq_true rfl⟩ (fun v u hpost => ?_)
              obtain ⟨r, rfl, rfl, rfl⟩ := hpost
              show J X [(p1, .inr (2, [.int (nI C), .ref a1])), (a1, .inl (ty 0, N, .inl (kN A))), (v, .inr (4, [.int (nI W), .int (nI H), .int (nI C), .int (nI S), .ref p1, .ref p2, .ref sg, .ref q1, .ref q2, .ref cs])), (p2, .inr (2, [.int (nI C), .ref a2])), (a2, .inl (ty 0, N, .inl (kN B)))] [(0, .ref v), (1, .int (nI (y * (W - 1) + a))), (2, .long (k2L (kbc C W A B) (W - 1) y a)), (4, .int (nI y)), (5, .int (nI (a + 1))), (6, .int (nI (kbd C W A y a)))] 54 [.int (nI (kbd C W B y a))] 0 0
              refine J.sub (ws' := [(v, .inr (4, [.int (nI W), .int (nI H), .int (nI C), .int (nI S), .ref p1, .ref p2, .ref sg, .ref q1, .ref q2, .ref cs])), (p1, .inr (2, [.int (nI C), .ref a1])), (a1, .inl (ty 0, N, .inl (kN A))), (p2, .inr (2, [.int (nI C), .ref a2])), (a2, .inl (ty 0, N, .inl (kN B)))]) [2, 0, 1, 3, 4] rfl rfl ?_
              refine j_istore (pc' := 56) (lv' := [(0, .ref v), (1, .int (nI (y * (W - 1) + a))), (2, .long (k2L (kbc C W A B) (W - 1) y a)), (4, .int (nI y)), (5, .int (nI (a + 1))), (6, .int (nI (kbd C W A y a))), (7, .int (nI (kbd C W B y a)))]) Cx dX4_bands_54 rfl (by decide) rfl ?_
              refine j_iinc_n (pc' := 59) (z := 1) (a := (y * (W - 1) + a)) (lv' := [(0, .ref v), (1, .int (nI (y * (W - 1) + a + 1))), (2, .long (k2L (kbc C W A B) (W - 1) y a)), (4, .int (nI y)), (5, .int (nI (a + 1))), (6, .int (nI (kbd C W A y a))), (7, .int (nI (kbd C W B y a)))]) Cx dX4_bands_56 rfl rfl (by decide) rfl ?_
              refine j_iload (pc' := 61) Cx dX4_bands_59 rfl rfl ?_
              refine j_iconst (pc' := 62) (v := (nI 1)) Cx dX4_bands_61 rfl (by decide) ?_
              refine j_icmp_ne_n (tgt := 77) (pc' := 65) Cx dX4_bands_62 (by decide) rfl (Nat.lt_of_le_of_lt hs1 (by decide)) (by decide) (fun h1e => ?_) (fun h1e => ?_)
              · refine j_iload (pc' := 79) Cx dX4_bands_77 rfl rfl ?_
                refine j_if_ne_n (tgt := 92) (pc' := 82) Cx dX4_bands_79 (by decide) rfl (Nat.lt_of_le_of_lt hs1 (by decide)) (fun h3e => ?_) (fun h3e => ?_)
                · refine j_iinc_n (pc' := 95) (z := 1) (a := (a + 1)) (lv' := [(0, .ref v), (1, .int (nI (y * (W - 1) + a + 1))), (2, .long (k2L (kbc C W A B) (W - 1) y a)), (4, .int (nI y)), (5, .int (nI (a + 1 + 1))), (6, .int (nI (kbd C W A y a))), (7, .int (nI (kbd C W B y a)))]) Cx dX4_bands_92 rfl rfl (by decide) rfl ?_
                  refine j_goto (tgt := 19) Cx dX4_bands_95 (by decide) ?_
                  refine J.lvs (lv' := [(0, .ref v), (1, .int (nI (y * (W - 1) + a + 1))), (2, .long (k2L (kbc C W A B) (W - 1) y a)), (4, .int (nI y)), (5, .int (nI (a + 1 + 1)))]) [0, 1, 2, 4, 5] rfl ?_
                  refine J.cast (ws' := [(v, .inr (4, [.int (nI W), .int (nI H), .int (nI C), .int (nI S), .ref p1, .ref p2, .ref sg, .ref q1, .ref q2, .ref cs])), (p1, .inr (2, [.int (nI C), .ref a1])), (a1, .inl (ty 0, N, .inl (kN A))), (p2, .inr (2, [.int (nI C), .ref a2])), (a2, .inl (ty 0, N, .inl (kN B)))]) (lv' := [(0, .ref v), (1, .int (nI (y * (W - 1) + (a + 1)))), (2, .long (k2L (kbc C W A B) (W - 1) y (a + 1))), (4, .int (nI y)), (5, .int (nI ((a + 1) + 1)))]) (pc' := 19) (st' := []) (rfl) (by rw [← k2L_a, show kbc C W A B y a = 0 from by show kbn _ _ = _; unfold kbn; rw [if_neg (fun e => h1e e.1), if_neg (fun e => h3e e.1)], Int64.add_zero]; rfl) rfl (rfl) rfl rfl ?_
                  exact LQ_ih (a + 1) (by omega) (by omega)
                · refine j_iload (pc' := 84) Cx dX4_bands_82 rfl rfl ?_
                  refine j_iconst (pc' := 85) (v := (nI 1)) Cx dX4_bands_84 rfl (by decide) ?_
                  refine j_icmp_ne_n (tgt := 92) (pc' := 88) Cx dX4_bands_85 (by decide) rfl (Nat.lt_of_le_of_lt hs2 (by decide)) (by decide) (fun h4e => ?_) (fun h4e => ?_)
                  · refine j_iinc_n (pc' := 95) (z := 1) (a := (a + 1)) (lv' := [(0, .ref v), (1, .int (nI (y * (W - 1) + a + 1))), (2, .long (k2L (kbc C W A B) (W - 1) y a)), (4, .int (nI y)), (5, .int (nI (a + 1 + 1))), (6, .int (nI (kbd C W A y a))), (7, .int (nI (kbd C W B y a)))]) Cx dX4_bands_92 rfl rfl (by decide) rfl ?_
                    refine j_goto (tgt := 19) Cx dX4_bands_95 (by decide) ?_
                    refine J.lvs (lv' := [(0, .ref v), (1, .int (nI (y * (W - 1) + a + 1))), (2, .long (k2L (kbc C W A B) (W - 1) y a)), (4, .int (nI y)), (5, .int (nI (a + 1 + 1)))]) [0, 1, 2, 4, 5] rfl ?_
                    refine J.cast (ws' := [(v, .inr (4, [.int (nI W), .int (nI H), .int (nI C), .int (nI S), .ref p1, .ref p2, .ref sg, .ref q1, .ref q2, .ref cs])), (p1, .inr (2, [.int (nI C), .ref a1])), (a1, .inl (ty 0, N, .inl (kN A))), (p2, .inr (2, [.int (nI C), .ref a2])), (a2, .inl (ty 0, N, .inl (kN B)))]) (lv' := [(0, .ref v), (1, .int (nI (y * (W - 1) + (a + 1)))), (2, .long (k2L (kbc C W A B) (W - 1) y (a + 1))), (4, .int (nI y)), (5, .int (nI ((a + 1) + 1)))]) (pc' := 19) (st' := []) (rfl) (by rw [← k2L_a, show kbc C W A B y a = 0 from by show kbn _ _ = _; unfold kbn; rw [if_neg (fun e => h1e e.1), if_neg (fun e => h4e e.2)], Int64.add_zero]; rfl) rfl (rfl) rfl rfl ?_
                    exact LQ_ih (a + 1) (by omega) (by omega)
                  · refine j_lload_n (pc' := 89) Cx dX4_bands_88 rfl rfl rfl ?_
                    refine j_lconst (pc' := 90) (v := (lN 1)) Cx dX4_bands_89 rfl rfl ?_
                    refine j_lsub (pc' := 91) Cx dX4_bands_90 rfl ?_
                    refine j_lstore_n (pc' := 92) (lv' := [(0, .ref v), (1, .int (nI (y * (W - 1) + a + 1))), (2, .long ((k2L (kbc C W A B) (W - 1) y a) - (lN 1))), (4, .int (nI y)), (5, .int (nI (a + 1))), (6, .int (nI (kbd C W A y a))), (7, .int (nI (kbd C W B y a)))]) Cx dX4_bands_91 rfl rfl (by decide) rfl ?_
                    refine j_iinc_n (pc' := 95) (z := 1) (a := (a + 1)) (lv' := [(0, .ref v), (1, .int (nI (y * (W - 1) + a + 1))), (2, .long ((k2L (kbc C W A B) (W - 1) y a) - (lN 1))), (4, .int (nI y)), (5, .int (nI (a + 1 + 1))), (6, .int (nI (kbd C W A y a))), (7, .int (nI (kbd C W B y a)))]) Cx dX4_bands_92 rfl rfl (by decide) rfl ?_
                    refine j_goto (tgt := 19) Cx dX4_bands_95 (by decide) ?_
                    refine J.lvs (lv' := [(0, .ref v), (1, .int (nI (y * (W - 1) + a + 1))), (2, .long ((k2L (kbc C W A B) (W - 1) y a) - (lN 1))), (4, .int (nI y)), (5, .int (nI (a + 1 + 1)))]) [0, 1, 2, 4, 5] rfl ?_
                    refine J.cast (ws' := [(v, .inr (4, [.int (nI W), .int (nI H), .int (nI C), .int (nI S), .ref p1, .ref p2, .ref sg, .ref q1, .ref q2, .ref cs])), (p1, .inr (2, [.int (nI C), .ref a1])), (a1, .inl (ty 0, N, .inl (kN A))), (p2, .inr (2, [.int (nI C), .ref a2])), (a2, .inl (ty 0, N, .inl (kN B)))]) (lv' := [(0, .ref v), (1, .int (nI (y * (W - 1) + (a + 1)))), (2, .long (k2L (kbc C W A B) (W - 1) y (a + 1))), (4, .int (nI y)), (5, .int (nI ((a + 1) + 1)))]) (pc' := 19) (st' := []) (rfl) (by rw [← k2L_a, show kbc C W A B y a = -1 from by show kbn _ _ = _; unfold kbn; rw [if_neg (fun e => h1e e.1), if_pos ⟨h3e, h4e⟩], ← Int64.sub_eq_add_neg]; rfl) rfl (rfl) rfl rfl ?_
                    exact LQ_ih (a + 1) (by omega) (by omega)
              · refine j_iload (pc' := 67) Cx dX4_bands_65 rfl rfl ?_
                refine j_if_ne_n (tgt := 77) (pc' := 70) Cx dX4_bands_67 (by decide) rfl (Nat.lt_of_le_of_lt hs2 (by decide)) (fun h2e => ?_) (fun h2e => ?_)
                · refine j_iload (pc' := 79) Cx dX4_bands_77 rfl rfl ?_
                  refine j_if_ne_n (tgt := 92) (pc' := 82) Cx dX4_bands_79 (by decide) rfl (Nat.lt_of_le_of_lt hs1 (by decide)) (fun h3e => ?_) (fun h3e => ?_)
                  · refine j_iinc_n (pc' := 95) (z := 1) (a := (a + 1)) (lv' := [(0, .ref v), (1, .int (nI (y * (W - 1) + a + 1))), (2, .long (k2L (kbc C W A B) (W - 1) y a)), (4, .int (nI y)), (5, .int (nI (a + 1 + 1))), (6, .int (nI (kbd C W A y a))), (7, .int (nI (kbd C W B y a)))]) Cx dX4_bands_92 rfl rfl (by decide) rfl ?_
                    refine j_goto (tgt := 19) Cx dX4_bands_95 (by decide) ?_
                    refine J.lvs (lv' := [(0, .ref v), (1, .int (nI (y * (W - 1) + a + 1))), (2, .long (k2L (kbc C W A B) (W - 1) y a)), (4, .int (nI y)), (5, .int (nI (a + 1 + 1)))]) [0, 1, 2, 4, 5] rfl ?_
                    refine J.cast (ws' := [(v, .inr (4, [.int (nI W), .int (nI H), .int (nI C), .int (nI S), .ref p1, .ref p2, .ref sg, .ref q1, .ref q2, .ref cs])), (p1, .inr (2, [.int (nI C), .ref a1])), (a1, .inl (ty 0, N, .inl (kN A))), (p2, .inr (2, [.int (nI C), .ref a2])), (a2, .inl (ty 0, N, .inl (kN B)))]) (lv' := [(0, .ref v), (1, .int (nI (y * (W - 1) + (a + 1)))), (2, .long (k2L (kbc C W A B) (W - 1) y (a + 1))), (4, .int (nI y)), (5, .int (nI ((a + 1) + 1)))]) (pc' := 19) (st' := []) (rfl) (by rw [← k2L_a, show kbc C W A B y a = 0 from by show kbn _ _ = _; unfold kbn; rw [if_neg (fun e => h2e e.2), if_neg (fun e => h3e e.1)], Int64.add_zero]; rfl) rfl (rfl) rfl rfl ?_
                    exact LQ_ih (a + 1) (by omega) (by omega)
                  · refine j_iload (pc' := 84) Cx dX4_bands_82 rfl rfl ?_
                    refine j_iconst (pc' := 85) (v := (nI 1)) Cx dX4_bands_84 rfl (by decide) ?_
                    refine j_icmp_ne_n (tgt := 92) (pc' := 88) Cx dX4_bands_85 (by decide) rfl (Nat.lt_of_le_of_lt hs2 (by decide)) (by decide) (fun h4e => ?_) (fun h4e => ?_)
                    · refine j_iinc_n (pc' := 95) (z := 1) (a := (a + 1)) (lv' := [(0, .ref v), (1, .int (nI (y * (W - 1) + a + 1))), (2, .long (k2L (kbc C W A B) (W - 1) y a)), (4, .int (nI y)), (5, .int (nI (a + 1 + 1))), (6, .int (nI (kbd C W A y a))), (7, .int (nI (kbd C W B y a)))]) Cx dX4_bands_92 rfl rfl (by decide) rfl ?_
                      refine j_goto (tgt := 19) Cx dX4_bands_95 (by decide) ?_
                      refine J.lvs (lv' := [(0, .ref v), (1, .int (nI (y * (W - 1) + a + 1))), (2, .long (k2L (kbc C W A B) (W - 1) y a)), (4, .int (nI y)), (5, .int (nI (a + 1 + 1)))]) [0, 1, 2, 4, 5] rfl ?_
                      refine J.cast (ws' := [(v, .inr (4, [.int (nI W), .int (nI H), .int (nI C), .int (nI S), .ref p1, .ref p2, .ref sg, .ref q1, .ref q2, .ref cs])), (p1, .inr (2, [.int (nI C), .ref a1])), (a1, .inl (ty 0, N, .inl (kN A))), (p2, .inr (2, [.int (nI C), .ref a2])), (a2, .inl (ty 0, N, .inl (kN B)))]) (lv' := [(0, .ref v), (1, .int (nI (y * (W - 1) + (a + 1)))), (2, .long (k2L (kbc C W A B) (W - 1) y (a + 1))), (4, .int (nI y)), (5, .int (nI ((a + 1) + 1)))]) (pc' := 19) (st' := []) (rfl) (by rw [← k2L_a, show kbc C W A B y a = 0 from by show kbn _ _ = _; unfold kbn; rw [if_neg (fun e => h2e e.2), if_neg (fun e => h4e e.2)], Int64.add_zero]; rfl) rfl (rfl) rfl rfl ?_
                      exact LQ_ih (a + 1) (by omega) (by omega)
                    · refine j_lload_n (pc' := 89) Cx dX4_bands_88 rfl rfl rfl ?_
                      refine j_lconst (pc' := 90) (v := (lN 1)) Cx dX4_bands_89 rfl rfl ?_
                      refine j_lsub (pc' := 91) Cx dX4_bands_90 rfl ?_
                      refine j_lstore_n (pc' := 92) (lv' := [(0, .ref v), (1, .int (nI (y * (W - 1) + a + 1))), (2, .long ((k2L (kbc C W A B) (W - 1) y a) - (lN 1))), (4, .int (nI y)), (5, .int (nI (a + 1))), (6, .int (nI (kbd C W A y a))), (7, .int (nI (kbd C W B y a)))]) Cx dX4_bands_91 rfl rfl (by decide) rfl ?_
                      refine j_iinc_n (pc' := 95) (z := 1) (a := (a + 1)) (lv' := [(0, .ref v), (1, .int (nI (y * (W - 1) + a + 1))), (2, .long ((k2L (kbc C W A B) (W - 1) y a) - (lN 1))), (4, .int (nI y)), (5, .int (nI (a + 1 + 1))), (6, .int (nI (kbd C W A y a))), (7, .int (nI (kbd C W B y a)))]) Cx dX4_bands_92 rfl rfl (by decide) rfl ?_
                      refine j_goto (tgt := 19) Cx dX4_bands_95 (by decide) ?_
                      refine J.lvs (lv' := [(0, .ref v), (1, .int (nI (y * (W - 1) + a + 1))), (2, .long ((k2L (kbc C W A B) (W - 1) y a) - (lN 1))), (4, .int (nI y)), (5, .int (nI (a + 1 + 1)))]) [0, 1, 2, 4, 5] rfl ?_
                      refine J.cast (ws' := [(v, .inr (4, [.int (nI W), .int (nI H), .int (nI C), .int (nI S), .ref p1, .ref p2, .ref sg, .ref q1, .ref q2, .ref cs])), (p1, .inr (2, [.int (nI C), .ref a1])), (a1, .inl (ty 0, N, .inl (kN A))), (p2, .inr (2, [.int (nI C), .ref a2])), (a2, .inl (ty 0, N, .inl (kN B)))]) (lv' := [(0, .ref v), (1, .int (nI (y * (W - 1) + (a + 1)))), (2, .long (k2L (kbc C W A B) (W - 1) y (a + 1))), (4, .int (nI y)), (5, .int (nI ((a + 1) + 1)))]) (pc' := 19) (st' := []) (rfl) (by rw [← k2L_a, show kbc C W A B y a = -1 from by show kbn _ _ = _; unfold kbn; rw [if_neg (fun e => h2e e.2), if_pos ⟨h3e, h4e⟩], ← Int64.sub_eq_add_neg]; rfl) rfl (rfl) rfl rfl ?_
                      exact LQ_ih (a + 1) (by omega) (by omega)
                · refine j_lload_n (pc' := 71) Cx dX4_bands_70 rfl rfl rfl ?_
                  refine j_lconst (pc' := 72) (v := (lN 1)) Cx dX4_bands_71 rfl rfl ?_
                  refine j_ladd (pc' := 73) Cx dX4_bands_72 rfl ?_
                  refine j_lstore_n (pc' := 74) (lv' := [(0, .ref v), (1, .int (nI (y * (W - 1) + a + 1))), (2, .long ((k2L (kbc C W A B) (W - 1) y a) + (lN 1))), (4, .int (nI y)), (5, .int (nI (a + 1))), (6, .int (nI (kbd C W A y a))), (7, .int (nI (kbd C W B y a)))]) Cx dX4_bands_73 rfl rfl (by decide) rfl ?_
                  refine j_goto (tgt := 92) Cx dX4_bands_74 (by decide) ?_
                  refine j_iinc_n (pc' := 95) (z := 1) (a := (a + 1)) (lv' := [(0, .ref v), (1, .int (nI (y * (W - 1) + a + 1))), (2, .long ((k2L (kbc C W A B) (W - 1) y a) + (lN 1))), (4, .int (nI y)), (5, .int (nI (a + 1 + 1))), (6, .int (nI (kbd C W A y a))), (7, .int (nI (kbd C W B y a)))]) Cx dX4_bands_92 rfl rfl (by decide) rfl ?_
                  refine j_goto (tgt := 19) Cx dX4_bands_95 (by decide) ?_
                  refine J.lvs (lv' := [(0, .ref v), (1, .int (nI (y * (W - 1) + a + 1))), (2, .long ((k2L (kbc C W A B) (W - 1) y a) + (lN 1))), (4, .int (nI y)), (5, .int (nI (a + 1 + 1)))]) [0, 1, 2, 4, 5] rfl ?_
                  refine J.cast (ws' := [(v, .inr (4, [.int (nI W), .int (nI H), .int (nI C), .int (nI S), .ref p1, .ref p2, .ref sg, .ref q1, .ref q2, .ref cs])), (p1, .inr (2, [.int (nI C), .ref a1])), (a1, .inl (ty 0, N, .inl (kN A))), (p2, .inr (2, [.int (nI C), .ref a2])), (a2, .inl (ty 0, N, .inl (kN B)))]) (lv' := [(0, .ref v), (1, .int (nI (y * (W - 1) + (a + 1)))), (2, .long (k2L (kbc C W A B) (W - 1) y (a + 1))), (4, .int (nI y)), (5, .int (nI ((a + 1) + 1)))]) (pc' := 19) (st' := []) (rfl) (by rw [← k2L_a, show kbc C W A B y a = 1 from by show kbn _ _ = _; unfold kbn; rw [if_pos ⟨h1e, h2e⟩]]; rfl) rfl (rfl) rfl rfl ?_
                  exact LQ_ih (a + 1) (by omega) (by omega)
        refine J.cast (ws' := [(v, .inr (4, [.int (nI W), .int (nI H), .int (nI C), .int (nI S), .ref p1, .ref p2, .ref sg, .ref q1, .ref q2, .ref cs])), (p1, .inr (2, [.int (nI C), .ref a1])), (a1, .inl (ty 0, N, .inl (kN A))), (p2, .inr (2, [.int (nI C), .ref a2])), (a2, .inl (ty 0, N, .inl (kN B)))]) (lv' := [(0, .ref v), (1, .int (nI (y * (W - 1) + 0))), (2, .long (k2L (kbc C W A B) (W - 1) y 0)), (4, .int (nI y)), (5, .int (nI (0 + 1)))]) (pc' := 19) (st' := []) (rfl) (rfl) rfl (rfl) rfl rfl ?_
        exact LQ (W - 1 + 1) 0 (by omega) (Nat.zero_le _)
  refine J.cast (ws' := [(v, .inr (4, [.int (nI W), .int (nI H), .int (nI C), .int (nI S), .ref p1, .ref p2, .ref sg, .ref q1, .ref q2, .ref cs])), (p1, .inr (2, [.int (nI C), .ref a1])), (a1, .inl (ty 0, N, .inl (kN A))), (p2, .inr (2, [.int (nI C), .ref a2])), (a2, .inl (ty 0, N, .inl (kN B)))]) (lv' := [(0, .ref v), (1, .int (nI (0 * (W - 1)))), (2, .long (k2L (kbc C W A B) (W - 1) 0 0)), (4, .int (nI 0))]) (pc' := 7) (st' := []) (rfl) (by rw [Nat.zero_mul]; rfl) rfl (rfl) rfl rfl ?_
  exact LP (H + 1) 0 (by omega) (Nat.zero_le _)
