set_option maxHeartbeats 4000000 in
set_option maxRecDepth 100000 in
/-- spread, of the other one -/
theorem c_X5_spread (l : Launch) (D : va_G) (ty : Nat → ClassId) (m o1 o2 go gt po pt my no so W H C : Nat) (nw nh : Nat) (fa : Int32) (hW : W ≤ 24) (hH : H ≤ 24) (hW1 : 1 ≤ W) (hH1 : 1 ≤ H) (h1 : 1 ≤ C) (h3 : C ≤ 3) (L M : Nat) (hL : L = W + 2) (hML : M = L * (H + 2)) (qa : Nat) (A Q : Nat → Nat) (hQ : kRf W H L M (kblk W H L C A) Q) (x y : Nat) (hx : x < W) (hy : y < H) : KM l yX5_spread wsX5_spread { frames := 2, cells := 0, slots := 0, locals := 80 } D ty [.ref m, .ref qa, .int (nI x), .int (nI y)] [(m, .inr (5, [.int (nI W), .int (nI H), .int (nI C), .int (fa), .ref o1, .ref o2, .int (nI nw), .int (nI nh), .ref go, .ref gt, .ref po, .ref pt, .ref my, .ref no, .ref so])), (qa, .inl (ty 0, 576, .inl (kN Q)))] (kI (fun r u => ∃ Q2 : Nat → Nat, kRf W H L M (kblk W H L C A) Q2 ∧ ((r = nI 0 ∧ Q2 = Q ∧ ((kblk W H L C A) (kat L x y) → kMx W H Q x y 3 0 (Q (y * W + x)))) ∨ (r = nI 1 ∧ ksum Q (W * H) < ksum Q2 (W * H))) ∧ u = [(m, .inr (5, [.int (nI W), .int (nI H), .int (nI C), .int (fa), .ref o1, .ref o2, .int (nI nw), .int (nI nh), .ref go, .ref gt, .ref po, .ref pt, .ref my, .ref no, .ref so])), (qa, .inl (ty 0, 576, .inl (kN Q2)))])) 0 0 := by
  refine KM.of (cc := cX5_spread) (maxL := 8) (ret := (some .boolean)) (lv := [(0, .ref m), (1, .ref qa), (2, .int (nI x)), (3, .int (nI y))]) (by decide +kernel) rfl rfl rfl (fun X C0 R0 => ?_)
  have Cx : kC X cX5_spread wsX5_spread RX5 { frames := 2, cells := 0, slots := 0, locals := 80 } "spread" l D ty 8 := C0
  have hwh := k_wh hW hH
  have hp := k_idx hx hy
  have hle0 := kRf_le hQ hp
  have hlt : ∀ q, (kblk W H L C A) q → q < M := fun q h => by have := kblk_in hL hML h; omega
  refine j_aload_n (pc' := 1) Cx dX5_spread_0 rfl rfl rfl ?_
  refine j_aload_n (pc' := 2) Cx dX5_spread_1 rfl rfl rfl ?_
  refine j_get (pc' := 5) (N := 15) Cx dX5_spread_2 rfl kin_X5_spread_X5 kfl_X5_spread_38 0 rfl rfl 0 rfl rfl rfl ?_
  refine j_iload_n (pc' := 6) Cx dX5_spread_5 rfl rfl rfl ?_
  refine j_imul_n (pc' := 7) Cx dX5_spread_6 rfl ?_
  refine j_iload_n (pc' := 8) Cx dX5_spread_7 rfl rfl rfl ?_
  refine j_iadd_n (pc' := 9) Cx dX5_spread_8 rfl ?_
  refine j_top (v' := .int (nI (y * W + x))) (congrArg (fun z : Nat => Value.int (nI z)) (show (W * y) + x = y * W + x from by rw [Nat.mul_comm])) ?_
  refine j_iaload_nn (pc' := 10) Cx dX5_spread_9 rfl 1 rfl (by omega) (by omega) ?_
  refine j_istore (pc' := 12) (lv' := [(0, .ref m), (1, .ref qa), (2, .int (nI x)), (3, .int (nI y)), (4, .int (nI (Q (y * W + x))))]) Cx dX5_spread_10 rfl (by decide) rfl ?_
  refine j_iload (pc' := 14) Cx dX5_spread_12 rfl rfl ?_
  refine j_if_ne_n (tgt := 19) (pc' := 17) Cx dX5_spread_14 (by decide) rfl (by omega) (fun h0 => ?_) (fun h0 => ?_)
  · have hb : (kblk W H L C A) (kat L x y) := Classical.byContradiction fun hn => h0 (hQ.1 x y hx hy hn)
    have hT0 : kTp W H L M (kblk W H L C A) Q x y (Q (y * W + x)) := ⟨Nat.le_refl _, (hQ.2 x y hx hy hb).2⟩
    refine j_iload (pc' := 21) Cx dX5_spread_19 rfl rfl ?_
    refine j_istore (pc' := 23) (lv' := [(0, .ref m), (1, .ref qa), (2, .int (nI x)), (3, .int (nI y)), (4, .int (nI (Q (y * W + x)))), (5, .int (nI (Q (y * W + x))))]) Cx dX5_spread_21 rfl (by decide) rfl ?_
    refine j_iload_n (pc' := 24) Cx dX5_spread_23 rfl rfl rfl ?_
    refine j_iconst (pc' := 25) (v := (nI 1)) Cx dX5_spread_24 rfl (by decide) ?_
    refine j_isub (pc' := 26) Cx dX5_spread_25 rfl ?_
    refine j_istore (pc' := 28) (lv' := [(0, .ref m), (1, .ref qa), (2, .int (nI x)), (3, .int (nI y)), (4, .int (nI (Q (y * W + x)))), (5, .int (nI (Q (y * W + x)))), (6, .int ((nI y) - (nI 1)))]) Cx dX5_spread_26 rfl (by decide) rfl ?_
    have LJ : ∀ (LJ_n : Nat), ∀ (a : Nat) (t : Nat), (3 - a < LJ_n) → (a ≤ 3) → (kTp W H L M (kblk W H L C A) Q x y t) → (kMx W H Q x y a 0 t) → J X [(m, .inr (5, [.int (nI W), .int (nI H), .int (nI C), .int (fa), .ref o1, .ref o2, .int (nI nw), .int (nI nh), .ref go, .ref gt, .ref po, .ref pt, .ref my, .ref no, .ref so])), (qa, .inl (ty 0, 576, .inl (kN Q)))] [(0, .ref m), (1, .ref qa), (2, .int (nI x)), (3, .int (nI y)), (4, .int (nI (Q (y * W + x)))), (5, .int (nI t)), (6, .int (nI (y + a) - nI 1))] 28 [] 0 0 := by
      intro LJ_n
      induction LJ_n with
      | zero =>
        intro a t hms _ _ _
        exact absurd hms (Nat.not_lt_zero _)
      | succ LJ_n LJ_ih =>
        intro a t LJ_m ha3 hT hm
        have htle : t ≤ W * H := by obtain ⟨-, x1, y1, g1, g2, g3, -⟩ := hT; have := k_idx g1 g2; omega
        refine j_iload (pc' := 30) Cx dX5_spread_28 rfl rfl ?_
        refine j_iload_n (pc' := 31) Cx dX5_spread_30 rfl rfl rfl ?_
        refine j_iconst (pc' := 32) (v := (nI 1)) Cx dX5_spread_31 rfl (by decide) ?_
        refine j_iadd_n (pc' := 33) Cx dX5_spread_32 rfl ?_
        refine j_icmp_gt (tgt := 103) (pc' := 36) Cx dX5_spread_33 (by decide) rfl (fun hj => ?_) (fun hj => ?_)
        · have ha : 2 < a := (k_jgt (by omega) (by omega)).mp hj
          have e3 : a = 3 := by omega
          subst e3
          refine j_aload_n (pc' := 104) Cx dX5_spread_103 rfl rfl rfl ?_
          refine j_aload_n (pc' := 105) Cx dX5_spread_104 rfl rfl rfl ?_
          refine j_get (pc' := 108) (N := 15) Cx dX5_spread_105 rfl kin_X5_spread_X5 kfl_X5_spread_38 0 rfl rfl 0 rfl rfl rfl ?_
          refine j_iload_n (pc' := 109) Cx dX5_spread_108 rfl rfl rfl ?_
          refine j_imul_n (pc' := 110) Cx dX5_spread_109 rfl ?_
          refine j_iload_n (pc' := 111) Cx dX5_spread_110 rfl rfl rfl ?_
          refine j_iadd_n (pc' := 112) Cx dX5_spread_111 rfl ?_
          refine j_top (v' := .int (nI (y * W + x))) (congrArg (fun z : Nat => Value.int (nI z)) (show (W * y) + x = y * W + x from by rw [Nat.mul_comm])) ?_
          refine j_iload (pc' := 114) Cx dX5_spread_112 rfl rfl ?_
          refine j_iastore_nn (pc' := 115) (ws' := [(m, .inr (5, [.int (nI W), .int (nI H), .int (nI C), .int (fa), .ref o1, .ref o2, .int (nI nw), .int (nI nh), .ref go, .ref gt, .ref po, .ref pt, .ref my, .ref no, .ref so])), (qa, .inl (ty 0, 576, .inl (kN (va_up Q (y * W + x) t))))]) Cx dX5_spread_114 rfl 1 rfl (by omega) (by omega) rfl ?_
          refine j_iload (pc' := 117) Cx dX5_spread_115 rfl rfl ?_
          refine j_iload (pc' := 119) Cx dX5_spread_117 rfl rfl ?_
          refine j_icmp_le_n (tgt := 126) (pc' := 122) Cx dX5_spread_119 (by decide) rfl (by omega) (by omega) (fun hc => ?_) (fun hc => ?_)
          · have et : Q (y * W + x) = t := Nat.le_antisymm hT.1 hc
            refine j_iconst (pc' := 127) (v := (nI 0)) Cx dX5_spread_126 rfl (by decide) ?_
            exact j_zret Cx dX5_spread_127 R0 (by decide) ⟨Nat.le_of_ble_eq_true rfl, Nat.le_of_ble_eq_true rfl⟩ (⟨_, rfl, va_up Q (y * W + x) t, by rw [k_up_same et]; exact hQ, Or.inl ⟨rfl, k_up_same et, fun _ => by rw [et]; exact hm⟩, rfl⟩)
          · refine j_iconst (pc' := 123) (v := (nI 1)) Cx dX5_spread_122 rfl (by decide) ?_
            refine j_goto (tgt := 127) Cx dX5_spread_123 (by decide) ?_
            exact j_zret Cx dX5_spread_127 R0 (by decide) ⟨Nat.le_of_ble_eq_true rfl, Nat.le_of_ble_eq_true rfl⟩ (⟨_, rfl, va_up Q (y * W + x) t, kRf_up hQ hx hy hb hT, Or.inr ⟨rfl, ksum_up (by omega) _ hp⟩, rfl⟩)
        · have ha2 : a ≤ 2 := Nat.le_of_not_lt (fun h => hj ((k_jgt (by omega) (by omega)).mpr h))
          refine j_iload_n (pc' := 37) Cx dX5_spread_36 rfl rfl rfl ?_
          refine j_iconst (pc' := 38) (v := (nI 1)) Cx dX5_spread_37 rfl (by decide) ?_
          refine j_isub (pc' := 39) Cx dX5_spread_38 rfl ?_
          refine j_istore (pc' := 41) (lv' := [(0, .ref m), (1, .ref qa), (2, .int (nI x)), (3, .int (nI y)), (4, .int (nI (Q (y * W + x)))), (5, .int (nI t)), (6, .int (nI (y + a) - nI 1)), (7, .int ((nI x) - (nI 1)))]) Cx dX5_spread_39 rfl (by decide) rfl ?_
          have LI : ∀ (LI_n : Nat), ∀ (b : Nat) (t : Nat), (3 - b < LI_n) → (b ≤ 3) → (kTp W H L M (kblk W H L C A) Q x y t) → (kMx W H Q x y a b t) → J X [(m, .inr (5, [.int (nI W), .int (nI H), .int (nI C), .int (fa), .ref o1, .ref o2, .int (nI nw), .int (nI nh), .ref go, .ref gt, .ref po, .ref pt, .ref my, .ref no, .ref so])), (qa, .inl (ty 0, 576, .inl (kN Q)))] [(0, .ref m), (1, .ref qa), (2, .int (nI x)), (3, .int (nI y)), (4, .int (nI (Q (y * W + x)))), (5, .int (nI t)), (6, .int (nI (y + a) - nI 1)), (7, .int (nI (x + b) - nI 1))] 41 [] 0 0 := by
            intro LI_n
            induction LI_n with
            | zero =>
              intro b t hms _ _ _
              exact absurd hms (Nat.not_lt_zero _)
            | succ LI_n LI_ih =>
              intro b t LI_m hb3 hT2 hm2
              have htle2 : t ≤ W * H := by obtain ⟨-, x1, y1, g1, g2, g3, -⟩ := hT2; have := k_idx g1 g2; omega
              refine j_iload (pc' := 43) Cx dX5_spread_41 rfl rfl ?_
              refine j_iload_n (pc' := 44) Cx dX5_spread_43 rfl rfl rfl ?_
              refine j_iconst (pc' := 45) (v := (nI 1)) Cx dX5_spread_44 rfl (by decide) ?_
              refine j_iadd_n (pc' := 46) Cx dX5_spread_45 rfl ?_
              refine j_icmp_gt (tgt := 97) (pc' := 49) Cx dX5_spread_46 (by decide) rfl (fun hi => ?_) (fun hi => ?_)
              · have hb3 : 2 < b := (k_jgt (by omega) (by omega)).mp hi
                have e3 : b = 3 := by omega
                subst e3
                refine j_iinc (pc' := 100) (lv' := [(0, .ref m), (1, .ref qa), (2, .int (nI x)), (3, .int (nI y)), (4, .int (nI (Q (y * W + x)))), (5, .int (nI t)), (6, .int ((nI (y + a) - nI 1) + Int32.ofInt 1)), (7, .int (nI (x + 3) - nI 1))]) Cx dX5_spread_97 rfl rfl rfl (by decide) rfl ?_
                refine j_goto (tgt := 28) Cx dX5_spread_100 (by decide) ?_
                refine J.lvs (lv' := [(0, .ref m), (1, .ref qa), (2, .int (nI x)), (3, .int (nI y)), (4, .int (nI (Q (y * W + x)))), (5, .int (nI t)), (6, .int ((nI (y + a) - nI 1) + Int32.ofInt 1))]) [0, 1, 2, 3, 4, 5, 6] rfl ?_
                refine J.cast (ws' := [(m, .inr (5, [.int (nI W), .int (nI H), .int (nI C), .int (fa), .ref o1, .ref o2, .int (nI nw), .int (nI nh), .ref go, .ref gt, .ref po, .ref pt, .ref my, .ref no, .ref so])), (qa, .inl (ty 0, 576, .inl (kN Q)))]) (lv' := [(0, .ref m), (1, .ref qa), (2, .int (nI x)), (3, .int (nI y)), (4, .int (nI (Q (y * W + x)))), (5, .int (nI t)), (6, .int (nI (y + (a + 1)) - nI 1))]) (pc' := 28) (st' := []) (rfl) (by rw [k_jinc]; rfl) rfl (rfl) rfl rfl ?_
                exact LJ_ih (a + 1) t (by omega) (by omega) hT2 (kMx_row hm2)
              · have hb2 : b ≤ 2 := Nat.le_of_not_lt (fun h => hi ((k_jgt (by omega) (by omega)).mpr h))
                by_cases hin : 1 ≤ x + b ∧ x + b ≤ W ∧ 1 ≤ y + a ∧ y + a ≤ H
                · have hpn : (y + a - 1) * W + (x + b - 1) < W * H := k_idx (by omega) (by omega)
                  have hqn := kRf_le hQ hpn
                  refine J.cast (ws' := [(m, .inr (5, [.int (nI W), .int (nI H), .int (nI C), .int (fa), .ref o1, .ref o2, .int (nI nw), .int (nI nh), .ref go, .ref gt, .ref po, .ref pt, .ref my, .ref no, .ref so])), (qa, .inl (ty 0, 576, .inl (kN Q)))]) (lv' := [(0, .ref m), (1, .ref qa), (2, .int (nI x)), (3, .int (nI y)), (4, .int (nI (Q (y * W + x)))), (5, .int (nI t)), (6, .int (nI (y + a - 1))), (7, .int (nI (x + b - 1)))]) (pc' := 49) (st' := []) (rfl) (by rw [pk_sub hin.1, pk_sub hin.2.2.1]) rfl (rfl) rfl rfl ?_
                  refine j_aload_n (pc' := 50) Cx dX5_spread_49 rfl rfl rfl ?_
                  refine j_iload (pc' := 52) Cx dX5_spread_50 rfl rfl ?_
                  refine j_iload (pc' := 54) Cx dX5_spread_52 rfl rfl ?_
                  refine j_callV (pc' := 57) (wr := [(qa, .inl (ty 0, 576, .inl (kN Q)))]) (st := []) Cx dX5_spread_54 rfl (c_X5_isPlace l D ty m o1 o2 go gt po pt my no so W H C nw nh fa hW hH hW1 hH1 h1 h3 (x + b - 1) (y + a - 1) (by omega) (by omega)) gX5_spread_X5_isPlace rfl khd_X5_isPlace rfl ⟨rfl, rfl, Nat.le_of_ble_eq_true rfl, Nat.le_of_ble_eq_true rfl⟩ [0] [1] rfl rfl ⟨rfl, rfl⟩ (by decide) 0 rfl rfl rfl (Nat.le_of_ble_eq_true rfl) ⟨Nat.le_of_ble_eq_true rfl, Nat.le_of_ble_eq_true rfl⟩ (fun v u hpost => ?_)
                  obtain ⟨r, rfl, rfl, rfl⟩ := hpost
                  show J X [(qa, .inl (ty 0, 576, .inl (kN Q))), (m, .inr (5, [.int (nI W), .int (nI H), .int (nI C), .int (fa), .ref o1, .ref o2, .int (nI nw), .int (nI nh), .ref go, .ref gt, .ref po, .ref pt, .ref my, .ref no, .ref so]))] [(0, .ref m), (1, .ref qa), (2, .int (nI x)), (3, .int (nI y)), (4, .int (nI (Q (y * W + x)))), (5, .int (nI t)), (6, .int (nI (y + a - 1))), (7, .int (nI (x + b - 1)))] 57 [.int (nI 1)] 0 0
                  refine J.sub (ws' := [(m, .inr (5, [.int (nI W), .int (nI H), .int (nI C), .int (fa), .ref o1, .ref o2, .int (nI nw), .int (nI nh), .ref go, .ref gt, .ref po, .ref pt, .ref my, .ref no, .ref so])), (qa, .inl (ty 0, 576, .inl (kN Q)))]) [1, 0] rfl rfl ?_
                  refine j_if_eq_n (tgt := 91) (pc' := 60) Cx dX5_spread_57 (by decide) rfl (by omega) (fun hh => absurd hh (by decide)) (fun _ => ?_)
                  refine j_aload_n (pc' := 61) Cx dX5_spread_60 rfl rfl rfl ?_
                  refine j_aload_n (pc' := 62) Cx dX5_spread_61 rfl rfl rfl ?_
                  refine j_get (pc' := 65) (N := 15) Cx dX5_spread_62 rfl kin_X5_spread_X5 kfl_X5_spread_38 0 rfl rfl 0 rfl rfl rfl ?_
                  refine j_iload (pc' := 67) Cx dX5_spread_65 rfl rfl ?_
                  refine j_imul_n (pc' := 68) Cx dX5_spread_67 rfl ?_
                  refine j_iload (pc' := 70) Cx dX5_spread_68 rfl rfl ?_
                  refine j_iadd_n (pc' := 71) Cx dX5_spread_70 rfl ?_
                  refine j_top (v' := .int (nI ((y + a - 1) * W + (x + b - 1)))) (congrArg (fun z : Nat => Value.int (nI z)) (show (W * (y + a - 1)) + (x + b - 1) = (y + a - 1) * W + (x + b - 1) from by rw [Nat.mul_comm])) ?_
                  refine j_iaload_nn (pc' := 72) Cx dX5_spread_71 rfl 1 rfl (by omega) (by omega) ?_
                  refine j_iload (pc' := 74) Cx dX5_spread_72 rfl rfl ?_
                  refine j_icmp_le_n (tgt := 91) (pc' := 77) Cx dX5_spread_74 (by decide) rfl (by omega) (by omega) (fun hc => ?_) (fun hc => ?_)
                  · refine j_iinc_n (pc' := 94) (z := 1) (a := (x + b - 1)) (lv' := [(0, .ref m), (1, .ref qa), (2, .int (nI x)), (3, .int (nI y)), (4, .int (nI (Q (y * W + x)))), (5, .int (nI t)), (6, .int (nI (y + a - 1))), (7, .int (nI (x + b - 1 + 1)))]) Cx dX5_spread_91 rfl rfl (by decide) rfl ?_
                    refine j_goto (tgt := 41) Cx dX5_spread_94 (by decide) ?_
                    refine J.cast (ws' := [(m, .inr (5, [.int (nI W), .int (nI H), .int (nI C), .int (fa), .ref o1, .ref o2, .int (nI nw), .int (nI nh), .ref go, .ref gt, .ref po, .ref pt, .ref my, .ref no, .ref so])), (qa, .inl (ty 0, 576, .inl (kN Q)))]) (lv' := [(0, .ref m), (1, .ref qa), (2, .int (nI x)), (3, .int (nI y)), (4, .int (nI (Q (y * W + x)))), (5, .int (nI t)), (6, .int (nI (y + a) - nI 1)), (7, .int (nI (x + (b + 1)) - nI 1))]) (pc' := 41) (st' := []) (rfl) (by rw [k_jback hin.1, ← pk_sub hin.2.2.1]; rfl) rfl (rfl) rfl rfl ?_
                    exact LI_ih (b + 1) (t) (by omega) (by omega) hT2 (kMx_in hm2 (Nat.le_refl _) hc)
                  · refine j_aload_n (pc' := 78) Cx dX5_spread_77 rfl rfl rfl ?_
                    refine j_aload_n (pc' := 79) Cx dX5_spread_78 rfl rfl rfl ?_
                    refine j_get (pc' := 82) (N := 15) Cx dX5_spread_79 rfl kin_X5_spread_X5 kfl_X5_spread_38 0 rfl rfl 0 rfl rfl rfl ?_
                    refine j_iload (pc' := 84) Cx dX5_spread_82 rfl rfl ?_
                    refine j_imul_n (pc' := 85) Cx dX5_spread_84 rfl ?_
                    refine j_iload (pc' := 87) Cx dX5_spread_85 rfl rfl ?_
                    refine j_iadd_n (pc' := 88) Cx dX5_spread_87 rfl ?_
                    refine j_top (v' := .int (nI ((y + a - 1) * W + (x + b - 1)))) (congrArg (fun z : Nat => Value.int (nI z)) (show (W * (y + a - 1)) + (x + b - 1) = (y + a - 1) * W + (x + b - 1) from by rw [Nat.mul_comm])) ?_
                    refine j_iaload_nn (pc' := 89) Cx dX5_spread_88 rfl 1 rfl (by omega) (by omega) ?_
                    refine j_istore (pc' := 91) (lv' := [(0, .ref m), (1, .ref qa), (2, .int (nI x)), (3, .int (nI y)), (4, .int (nI (Q (y * W + x)))), (5, .int (nI (Q ((y + a - 1) * W + (x + b - 1))))), (6, .int (nI (y + a - 1))), (7, .int (nI (x + b - 1)))]) Cx dX5_spread_89 rfl (by decide) rfl ?_
                    refine j_iinc_n (pc' := 94) (z := 1) (a := (x + b - 1)) (lv' := [(0, .ref m), (1, .ref qa), (2, .int (nI x)), (3, .int (nI y)), (4, .int (nI (Q (y * W + x)))), (5, .int (nI (Q ((y + a - 1) * W + (x + b - 1))))), (6, .int (nI (y + a - 1))), (7, .int (nI (x + b - 1 + 1)))]) Cx dX5_spread_91 rfl rfl (by decide) rfl ?_
                    refine j_goto (tgt := 41) Cx dX5_spread_94 (by decide) ?_
                    refine J.cast (ws' := [(m, .inr (5, [.int (nI W), .int (nI H), .int (nI C), .int (fa), .ref o1, .ref o2, .int (nI nw), .int (nI nh), .ref go, .ref gt, .ref po, .ref pt, .ref my, .ref no, .ref so])), (qa, .inl (ty 0, 576, .inl (kN Q)))]) (lv' := [(0, .ref m), (1, .ref qa), (2, .int (nI x)), (3, .int (nI y)), (4, .int (nI (Q (y * W + x)))), (5, .int (nI (Q ((y + a - 1) * W + (x + b - 1))))), (6, .int (nI (y + a) - nI 1)), (7, .int (nI (x + (b + 1)) - nI 1))]) (pc' := 41) (st' := []) (rfl) (by rw [k_jback hin.1, ← pk_sub hin.2.2.1]; rfl) rfl (rfl) rfl rfl ?_
                    exact LI_ih (b + 1) (Q ((y + a - 1) * W + (x + b - 1))) (by omega) (by omega) (kTp_new hQ hx hy hlt hb hT2 ha2 hb2 hin (by omega)) (kMx_in hm2 (by omega) (Nat.le_refl _))
                · refine j_aload_n (pc' := 50) Cx dX5_spread_49 rfl rfl rfl ?_
                  refine j_iload (pc' := 52) Cx dX5_spread_50 rfl rfl ?_
                  refine j_iload (pc' := 54) Cx dX5_spread_52 rfl rfl ?_
                  refine j_callV (pc' := 57) (wr := [(qa, .inl (ty 0, 576, .inl (kN Q)))]) (st := []) Cx dX5_spread_54 rfl (c_X5_isPlace_no l D ty m o1 o2 go gt po pt my no so W H C nw nh fa hW hH hW1 hH1 h1 h3 (nI (x + b) - nI 1) (nI (y + a) - nI 1) (fun e => hin ⟨(k_kok (by omega) hW e.1).1, (k_kok (by omega) hW e.1).2, (k_kok (by omega) hH e.2).1, (k_kok (by omega) hH e.2).2⟩)) gX5_spread_X5_isPlace rfl khd_X5_isPlace rfl ⟨rfl, rfl, Nat.le_of_ble_eq_true rfl, Nat.le_of_ble_eq_true rfl⟩ [0] [1] rfl rfl ⟨rfl, rfl⟩ (by decide) 0 rfl rfl rfl (Nat.le_of_ble_eq_true rfl) ⟨Nat.le_of_ble_eq_true rfl, Nat.le_of_ble_eq_true rfl⟩ (fun v u hpost => ?_)
                  obtain ⟨r, rfl, rfl, rfl⟩ := hpost
                  show J X [(qa, .inl (ty 0, 576, .inl (kN Q))), (m, .inr (5, [.int (nI W), .int (nI H), .int (nI C), .int (fa), .ref o1, .ref o2, .int (nI nw), .int (nI nh), .ref go, .ref gt, .ref po, .ref pt, .ref my, .ref no, .ref so]))] [(0, .ref m), (1, .ref qa), (2, .int (nI x)), (3, .int (nI y)), (4, .int (nI (Q (y * W + x)))), (5, .int (nI t)), (6, .int (nI (y + a) - nI 1)), (7, .int (nI (x + b) - nI 1))] 57 [.int (nI 0)] 0 0
                  refine J.sub (ws' := [(m, .inr (5, [.int (nI W), .int (nI H), .int (nI C), .int (fa), .ref o1, .ref o2, .int (nI nw), .int (nI nh), .ref go, .ref gt, .ref po, .ref pt, .ref my, .ref no, .ref so])), (qa, .inl (ty 0, 576, .inl (kN Q)))]) [1, 0] rfl rfl ?_
                  refine j_if_eq_n (tgt := 91) (pc' := 60) Cx dX5_spread_57 (by decide) rfl (by omega) (fun _ => ?_) (fun hh => absurd hh (by decide))
                  refine j_iinc (pc' := 94) (lv' := [(0, .ref m), (1, .ref qa), (2, .int (nI x)), (3, .int (nI y)), (4, .int (nI (Q (y * W + x)))), (5, .int (nI t)), (6, .int (nI (y + a) - nI 1)), (7, .int ((nI (x + b) - nI 1) + Int32.ofInt 1))]) Cx dX5_spread_91 rfl rfl rfl (by decide) rfl ?_
                  refine j_goto (tgt := 41) Cx dX5_spread_94 (by decide) ?_
                  refine J.cast (ws' := [(m, .inr (5, [.int (nI W), .int (nI H), .int (nI C), .int (fa), .ref o1, .ref o2, .int (nI nw), .int (nI nh), .ref go, .ref gt, .ref po, .ref pt, .ref my, .ref no, .ref so])), (qa, .inl (ty 0, 576, .inl (kN Q)))]) (lv' := [(0, .ref m), (1, .ref qa), (2, .int (nI x)), (3, .int (nI y)), (4, .int (nI (Q (y * W + x)))), (5, .int (nI t)), (6, .int (nI (y + a) - nI 1)), (7, .int (nI (x + (b + 1)) - nI 1))]) (pc' := 41) (st' := []) (rfl) (by rw [k_jinc]; rfl) rfl (rfl) rfl rfl ?_
                  exact LI_ih (b + 1) t (by omega) (by omega) hT2 (kMx_out hm2 hin)
          exact LI 4 0 t (by omega) (by omega) hT hm
    exact LJ 4 0 (Q (y * W + x)) (by omega) (by omega) hT0 kMx_0
  · refine j_iconst (pc' := 18) (v := (nI 0)) Cx dX5_spread_17 rfl (by decide) ?_
    exact j_zret Cx dX5_spread_18 R0 (by decide) ⟨Nat.le_of_ble_eq_true rfl, Nat.le_of_ble_eq_true rfl⟩ (⟨_, rfl, Q, hQ, Or.inl ⟨rfl, rfl, fun hb => absurd (hQ.2 x y hx hy hb).1 (by omega)⟩, rfl⟩)

set_option maxHeartbeats 4000000 in
set_option maxRecDepth 100000 in
/-- number, of the other one -/
theorem c_X5_number (l : Launch) (D : va_G) (ty : Nat → ClassId) (m o1 o2 go gt po pt my no so W H C : Nat) (nw nh : Nat) (fa : Int32) (hW : W ≤ 24) (hH : H ≤ 24) (hW1 : 1 ≤ W) (hH1 : 1 ≤ H) (h1 : 1 ≤ C) (h3 : C ≤ 3) (L M : Nat) (hL : L = W + 2) (hML : M = L * (H + 2)) (ga qa : Nat) (A G Q0 : Nat → Nat) (hG : ∀ i, G i < 256) (hGA : ∀ p, p < W * H → G p = kg C A p) : KM l yX5_number wsX5_number { frames := 3, cells := 0, slots := 0, locals := 120 } D ty [.ref m, .ref ga, .ref qa] [(m, .inr (5, [.int (nI W), .int (nI H), .int (nI C), .int (fa), .ref o1, .ref o2, .int (nI nw), .int (nI nh), .ref go, .ref gt, .ref po, .ref pt, .ref my, .ref no, .ref so])), (ga, .inl (ty 0, 576, .inl (kN G))), (qa, .inl (ty 0, 576, .inl (kN Q0)))] (kV (fun u => ∃ Q2 : Nat → Nat, kRf W H L M (kblk W H L C A) Q2 ∧ kRx W H L (kblk W H L C A) Q2 ∧ u = [(m, .inr (5, [.int (nI W), .int (nI H), .int (nI C), .int (fa), .ref o1, .ref o2, .int (nI nw), .int (nI nh), .ref go, .ref gt, .ref po, .ref pt, .ref my, .ref no, .ref so])), (ga, .inl (ty 0, 576, .inl (kN G))), (qa, .inl (ty 0, 576, .inl (kN Q2)))])) 0 0 := by
  refine KM.of (cc := cX5_number) (maxL := 6) (ret := none) (lv := [(0, .ref m), (1, .ref ga), (2, .ref qa)]) (by decide +kernel) rfl rfl rfl (fun X C0 R0 => ?_)
  have Cx : kC X cX5_number wsX5_number RX5 { frames := 3, cells := 0, slots := 0, locals := 120 } "number" l D ty 6 := C0
  have hwh := k_wh hW hH
  refine j_iconst (pc' := 1) (v := (nI 0)) Cx dX5_number_0 rfl (by decide) ?_
  refine j_istore_n (pc' := 2) (lv' := [(0, .ref m), (1, .ref ga), (2, .ref qa), (3, .int (nI 0))]) Cx dX5_number_1 rfl rfl (by decide) rfl ?_
  have LP : ∀ (LP_n : Nat), ∀ (i : Nat), (W * H - i < LP_n) → (i ≤ W * H) → J X [(m, .inr (5, [.int (nI W), .int (nI H), .int (nI C), .int (fa), .ref o1, .ref o2, .int (nI nw), .int (nI nh), .ref go, .ref gt, .ref po, .ref pt, .ref my, .ref no, .ref so])), (ga, .inl (ty 0, 576, .inl (kN G))), (qa, .inl (ty 0, 576, .inl (kN (kfill (fun p => if G p < 128 then p + 1 else 0) Q0 i))))] [(0, .ref m), (1, .ref ga), (2, .ref qa), (3, .int (nI i))] 2 [] 0 0 := by
    intro LP_n
    induction LP_n with
    | zero =>
      intro i hms _
      exact absurd hms (Nat.not_lt_zero _)
    | succ LP_n LP_ih =>
      intro i LP_m hle
      refine j_iload_n (pc' := 3) Cx dX5_number_2 rfl rfl rfl ?_
      refine j_aload_n (pc' := 4) Cx dX5_number_3 rfl rfl rfl ?_
      refine j_callV (pc' := 7) (wr := [(ga, .inl (ty 0, 576, .inl (kN G))), (qa, .inl (ty 0, 576, .inl (kN (kfill (fun p => if G p < 128 then p + 1 else 0) Q0 i))))]) (st := [.int (nI i)]) Cx dX5_number_4 rfl (c_X5_places l D ty m o1 o2 go gt po pt my no so W H C nw nh fa) gX5_number_X5_places rfl khd_X5_places rfl ⟨rfl, rfl, Nat.le_of_ble_eq_true rfl, Nat.le_of_ble_eq_true rfl⟩ [0] [1, 2] rfl rfl ⟨rfl, rfl⟩ (by decide) 0 rfl rfl rfl (Nat.le_of_ble_eq_true rfl) ⟨Nat.le_of_ble_eq_true rfl, Nat.le_of_ble_eq_true rfl⟩ (fun v u hpost => ?_)
      obtain ⟨r, rfl, rfl, rfl⟩ := hpost
      show J X [(ga, .inl (ty 0, 576, .inl (kN G))), (qa, .inl (ty 0, 576, .inl (kN (kfill (fun p => if G p < 128 then p + 1 else 0) Q0 i)))), (m, .inr (5, [.int (nI W), .int (nI H), .int (nI C), .int (fa), .ref o1, .ref o2, .int (nI nw), .int (nI nh), .ref go, .ref gt, .ref po, .ref pt, .ref my, .ref no, .ref so]))] [(0, .ref m), (1, .ref ga), (2, .ref qa), (3, .int (nI i))] 7 [.int (nI (W * H)), .int (nI i)] 0 0
      refine J.sub (ws' := [(m, .inr (5, [.int (nI W), .int (nI H), .int (nI C), .int (fa), .ref o1, .ref o2, .int (nI nw), .int (nI nh), .ref go, .ref gt, .ref po, .ref pt, .ref my, .ref no, .ref so])), (ga, .inl (ty 0, 576, .inl (kN G))), (qa, .inl (ty 0, 576, .inl (kN (kfill (fun p => if G p < 128 then p + 1 else 0) Q0 i))))]) [2, 0, 1] rfl rfl ?_
      refine j_icmp_ge_n (tgt := 35) (pc' := 10) Cx dX5_number_7 (by decide) rfl (by omega) (by omega) (fun hi => ?_) (fun hi => ?_)
      · have e : i = W * H := by omega
        subst e
        have hQ0 : kRf W H L M (kblk W H L C A) (kfill (fun p => if G p < 128 then p + 1 else 0) Q0 (W * H)) := kRf_0 hL hGA
        refine j_iconst (pc' := 36) (v := (nI 1)) Cx dX5_number_35 rfl (by decide) ?_
        refine j_istore_n (pc' := 37) (lv' := [(0, .ref m), (1, .ref ga), (2, .ref qa), (3, .int (nI 1))]) Cx dX5_number_36 rfl rfl (by decide) rfl ?_
        have LW : ∀ (LW_n : Nat), ∀ (Q : Nat → Nat) (g : Nat), (2 * (W * H * (W * H) - ksum Q (W * H)) + g < LW_n) → (kRf W H L M (kblk W H L C A) Q) → ((g = 0 ∧ kRx W H L (kblk W H L C A) Q) ∨ g = 1) → J X [(m, .inr (5, [.int (nI W), .int (nI H), .int (nI C), .int (fa), .ref o1, .ref o2, .int (nI nw), .int (nI nh), .ref go, .ref gt, .ref po, .ref pt, .ref my, .ref no, .ref so])), (ga, .inl (ty 0, 576, .inl (kN G))), (qa, .inl (ty 0, 576, .inl (kN Q)))] [(0, .ref m), (1, .ref ga), (2, .ref qa), (3, .int (nI g))] 37 [] 0 0 := by
          intro LW_n
          induction LW_n with
          | zero =>
            intro Q g hms _ _
            exact absurd hms (Nat.not_lt_zero _)
          | succ LW_n LW_ih =>
            intro Q g LW_m hQ hg
            have hsum := kR_sum hQ
            refine j_iload_n (pc' := 38) Cx dX5_number_37 rfl rfl rfl ?_
            refine j_if_eq_n (tgt := 104) (pc' := 41) Cx dX5_number_38 (by decide) rfl (by rcases hg with h | h <;> omega) (fun h0 => ?_) (fun h0 => ?_)
            · exact j_vret Cx dX5_number_104 R0 ⟨Nat.le_of_ble_eq_true rfl, Nat.le_of_ble_eq_true rfl⟩ (⟨rfl, Q, hQ, (hg.resolve_right (by omega)).2, rfl⟩)
            · have hg1 : g = 1 := hg.resolve_left (fun h => h0 h.1)
              refine j_iconst (pc' := 42) (v := (nI 0)) Cx dX5_number_41 rfl (by decide) ?_
              refine j_istore_n (pc' := 43) (lv' := [(0, .ref m), (1, .ref ga), (2, .ref qa), (3, .int (nI 0))]) Cx dX5_number_42 rfl rfl (by decide) rfl ?_
              refine j_iconst (pc' := 44) (v := (nI 0)) Cx dX5_number_43 rfl (by decide) ?_
              refine j_istore (pc' := 46) (lv' := [(0, .ref m), (1, .ref ga), (2, .ref qa), (3, .int (nI 0)), (4, .int (nI 0))]) Cx dX5_number_44 rfl (by decide) rfl ?_
              have LY : ∀ (LY_n : Nat), ∀ (y : Nat) (Q1 : Nat → Nat) (g1 : Nat), (H - y < LY_n) → (y ≤ H) → (kRf W H L M (kblk W H L C A) Q1) → (kPs W H L (kblk W H L C A) Q Q1 g1 y 0) → J X [(m, .inr (5, [.int (nI W), .int (nI H), .int (nI C), .int (fa), .ref o1, .ref o2, .int (nI nw), .int (nI nh), .ref go, .ref gt, .ref po, .ref pt, .ref my, .ref no, .ref so])), (ga, .inl (ty 0, 576, .inl (kN G))), (qa, .inl (ty 0, 576, .inl (kN Q1)))] [(0, .ref m), (1, .ref ga), (2, .ref qa), (3, .int (nI g1)), (4, .int (nI y))] 46 [] 0 0 := by
                intro LY_n
                induction LY_n with
                | zero =>
                  intro y Q1 g1 hms _ _ _
                  exact absurd hms (Nat.not_lt_zero _)
                | succ LY_n LY_ih =>
                  intro y Q1 g1 LY_m hly hQ1 hs1
                  refine j_iload (pc' := 48) Cx dX5_number_46 rfl rfl ?_
                  refine j_aload_n (pc' := 49) Cx dX5_number_48 rfl rfl rfl ?_
                  refine j_get (pc' := 52) (N := 15) Cx dX5_number_49 rfl kin_X5_number_X5 kfl_X5_number_42 0 rfl rfl 1 rfl rfl rfl ?_
                  refine j_icmp_ge_n (tgt := 101) (pc' := 55) Cx dX5_number_52 (by decide) rfl (by omega) (by omega) (fun hy => ?_) (fun hy => ?_)
                  · have e : y = H := by omega
                    subst e
                    refine j_goto (tgt := 37) Cx dX5_number_101 (by decide) ?_
                    refine J.lvs (lv' := [(0, .ref m), (1, .ref ga), (2, .ref qa), (3, .int (nI g1))]) [0, 1, 2, 3] rfl ?_
                    have hsum1 := kR_sum hQ1
                    exact LW_ih Q1 g1 (by rcases hs1 with ⟨h, h2, -⟩ | ⟨h, h2⟩; rw [h, h2]; omega; rw [h]; omega) hQ1 (by rcases hs1 with ⟨h, h2, h3⟩ | ⟨h, -⟩; rw [h2]; exact Or.inl ⟨h, kFx_end hL h3⟩; exact Or.inr h)
                  · refine j_iconst (pc' := 56) (v := (nI 0)) Cx dX5_number_55 rfl (by decide) ?_
                    refine j_istore (pc' := 58) (lv' := [(0, .ref m), (1, .ref ga), (2, .ref qa), (3, .int (nI g1)), (4, .int (nI y)), (5, .int (nI 0))]) Cx dX5_number_56 rfl (by decide) rfl ?_
                    have LX : ∀ (LX_n : Nat), ∀ (x : Nat) (Q2 : Nat → Nat) (g2 : Nat), (W - x < LX_n) → (x ≤ W) → (kRf W H L M (kblk W H L C A) Q2) → (kPs W H L (kblk W H L C A) Q Q2 g2 y x) → J X [(m, .inr (5, [.int (nI W), .int (nI H), .int (nI C), .int (fa), .ref o1, .ref o2, .int (nI nw), .int (nI nh), .ref go, .ref gt, .ref po, .ref pt, .ref my, .ref no, .ref so])), (ga, .inl (ty 0, 576, .inl (kN G))), (qa, .inl (ty 0, 576, .inl (kN Q2)))] [(0, .ref m), (1, .ref ga), (2, .ref qa), (3, .int (nI g2)), (4, .int (nI y)), (5, .int (nI x))] 58 [] 0 0 := by
                      intro LX_n
                      induction LX_n with
                      | zero =>
                        intro x Q2 g2 hms _ _ _
                        exact absurd hms (Nat.not_lt_zero _)
                      | succ LX_n LX_ih =>
                        intro x Q2 g2 LX_m hlx hQ2 hs2
                        refine j_iload (pc' := 60) Cx dX5_number_58 rfl rfl ?_
                        refine j_aload_n (pc' := 61) Cx dX5_number_60 rfl rfl rfl ?_
                        refine j_get (pc' := 64) (N := 15) Cx dX5_number_61 rfl kin_X5_number_X5 kfl_X5_number_38 0 rfl rfl 0 rfl rfl rfl ?_
                        refine j_icmp_ge_n (tgt := 95) (pc' := 67) Cx dX5_number_64 (by decide) rfl (by omega) (by omega) (fun hx => ?_) (fun hx => ?_)
                        · have e : x = W := by omega
                          subst e
                          refine j_iinc_n (pc' := 98) (z := 1) (a := y) (lv' := [(0, .ref m), (1, .ref ga), (2, .ref qa), (3, .int (nI g2)), (4, .int (nI (y + 1))), (5, .int (nI x))]) Cx dX5_number_95 rfl rfl (by decide) rfl ?_
                          refine j_goto (tgt := 46) Cx dX5_number_98 (by decide) ?_
                          refine J.lvs (lv' := [(0, .ref m), (1, .ref ga), (2, .ref qa), (3, .int (nI g2)), (4, .int (nI (y + 1)))]) [0, 1, 2, 3, 4] rfl ?_
                          exact LY_ih (y + 1) Q2 g2 (by omega) (by omega) hQ2 (by rcases hs2 with ⟨h, h2, h3⟩ | h; exact Or.inl ⟨h, h2, kFx_row h3⟩; exact Or.inr h)
                        · refine j_aload_n (pc' := 68) Cx dX5_number_67 rfl rfl rfl ?_
                          refine j_aload_n (pc' := 69) Cx dX5_number_68 rfl rfl rfl ?_
                          refine j_iload (pc' := 71) Cx dX5_number_69 rfl rfl ?_
                          refine j_iload (pc' := 73) Cx dX5_number_71 rfl rfl ?_
                          refine j_callV (pc' := 76) (wr := [(ga, .inl (ty 0, 576, .inl (kN G)))]) (st := []) Cx dX5_number_73 rfl (c_X5_spread l D ty m o1 o2 go gt po pt my no so W H C nw nh fa hW hH hW1 hH1 h1 h3 L M hL hML qa A Q2 hQ2 x y hx hy) gX5_number_X5_spread rfl khd_X5_spread rfl ⟨rfl, rfl, Nat.le_of_ble_eq_true rfl, Nat.le_of_ble_eq_true rfl⟩ [0, 2] [1] rfl rfl ⟨rfl, rfl⟩ (by decide) 0 rfl rfl rfl (Nat.le_of_ble_eq_true rfl) ⟨Nat.le_of_ble_eq_true rfl, Nat.le_of_ble_eq_true rfl⟩ (fun v u hpost => ?_)
                          obtain ⟨r, rfl, Q3, hQ3, hh, rfl⟩ := hpost
                          show J X [(ga, .inl (ty 0, 576, .inl (kN G))), (m, .inr (5, [.int (nI W), .int (nI H), .int (nI C), .int (fa), .ref o1, .ref o2, .int (nI nw), .int (nI nh), .ref go, .ref gt, .ref po, .ref pt, .ref my, .ref no, .ref so])), (qa, .inl (ty 0, 576, .inl (kN Q3)))] [(0, .ref m), (1, .ref ga), (2, .ref qa), (3, .int (nI g2)), (4, .int (nI y)), (5, .int (nI x))] 76 [.int (r)] 0 0
                          refine J.sub (ws' := [(m, .inr (5, [.int (nI W), .int (nI H), .int (nI C), .int (fa), .ref o1, .ref o2, .int (nI nw), .int (nI nh), .ref go, .ref gt, .ref po, .ref pt, .ref my, .ref no, .ref so])), (ga, .inl (ty 0, 576, .inl (kN G))), (qa, .inl (ty 0, 576, .inl (kN Q3)))]) [1, 0, 2] rfl rfl ?_
                          rcases hh with ⟨hr, eQ, hfx⟩ | ⟨hr, hks⟩
                          · subst hr
                            refine j_if_ne_n (tgt := 83) (pc' := 79) Cx dX5_number_76 (by decide) rfl (by omega) (fun hh => absurd hh (not_not_intro rfl)) (fun _ => ?_)
                            refine j_iload_n (pc' := 80) Cx dX5_number_79 rfl rfl rfl ?_
                            refine j_if_eq_n (tgt := 87) (pc' := 83) Cx dX5_number_80 (by decide) rfl (by rcases hs2 with h | h <;> omega) (fun hz => ?_) (fun hz => ?_)
                            · refine j_iconst (pc' := 88) (v := (nI 0)) Cx dX5_number_87 rfl (by decide) ?_
                              refine j_istore_n (pc' := 89) (lv' := [(0, .ref m), (1, .ref ga), (2, .ref qa), (3, .int (nI 0)), (4, .int (nI y)), (5, .int (nI x))]) Cx dX5_number_88 rfl rfl (by decide) rfl ?_
                              refine j_iinc_n (pc' := 92) (z := 1) (a := x) (lv' := [(0, .ref m), (1, .ref ga), (2, .ref qa), (3, .int (nI 0)), (4, .int (nI y)), (5, .int (nI (x + 1)))]) Cx dX5_number_89 rfl rfl (by decide) rfl ?_
                              refine j_goto (tgt := 58) Cx dX5_number_92 (by decide) ?_
                              refine J.cast (ws' := [(m, .inr (5, [.int (nI W), .int (nI H), .int (nI C), .int (fa), .ref o1, .ref o2, .int (nI nw), .int (nI nh), .ref go, .ref gt, .ref po, .ref pt, .ref my, .ref no, .ref so])), (ga, .inl (ty 0, 576, .inl (kN G))), (qa, .inl (ty 0, 576, .inl (kN Q2)))]) (lv' := [(0, .ref m), (1, .ref ga), (2, .ref qa), (3, .int (nI 0)), (4, .int (nI y)), (5, .int (nI (x + 1)))]) (pc' := 58) (st' := []) (by rw [eQ]) (rfl) rfl (rfl) rfl rfl ?_
                              exact LX_ih (x + 1) Q2 0 (by omega) (by omega) hQ2 (by rcases hs2 with ⟨h, h2, h3⟩ | ⟨h, h2⟩; exact Or.inl ⟨rfl, h2, kFx_step h3 (by rw [← h2]; exact hfx)⟩; omega)
                            · refine j_iconst (pc' := 84) (v := (nI 1)) Cx dX5_number_83 rfl (by decide) ?_
                              refine j_goto (tgt := 88) Cx dX5_number_84 (by decide) ?_
                              refine j_istore_n (pc' := 89) (lv' := [(0, .ref m), (1, .ref ga), (2, .ref qa), (3, .int (nI 1)), (4, .int (nI y)), (5, .int (nI x))]) Cx dX5_number_88 rfl rfl (by decide) rfl ?_
                              refine j_iinc_n (pc' := 92) (z := 1) (a := x) (lv' := [(0, .ref m), (1, .ref ga), (2, .ref qa), (3, .int (nI 1)), (4, .int (nI y)), (5, .int (nI (x + 1)))]) Cx dX5_number_89 rfl rfl (by decide) rfl ?_
                              refine j_goto (tgt := 58) Cx dX5_number_92 (by decide) ?_
                              refine J.cast (ws' := [(m, .inr (5, [.int (nI W), .int (nI H), .int (nI C), .int (fa), .ref o1, .ref o2, .int (nI nw), .int (nI nh), .ref go, .ref gt, .ref po, .ref pt, .ref my, .ref no, .ref so])), (ga, .inl (ty 0, 576, .inl (kN G))), (qa, .inl (ty 0, 576, .inl (kN Q2)))]) (lv' := [(0, .ref m), (1, .ref ga), (2, .ref qa), (3, .int (nI 1)), (4, .int (nI y)), (5, .int (nI (x + 1)))]) (pc' := 58) (st' := []) (by rw [eQ]) (rfl) rfl (rfl) rfl rfl ?_
                              exact LX_ih (x + 1) Q2 1 (by omega) (by omega) hQ2 (by rcases hs2 with ⟨h, h2, h3⟩ | ⟨h, h2⟩; omega; exact Or.inr ⟨rfl, h2⟩)
                          · subst hr
                            refine j_if_ne_n (tgt := 83) (pc' := 79) Cx dX5_number_76 (by decide) rfl (by omega) (fun _ => ?_) (fun hh => absurd hh (by decide))
                            refine j_iconst (pc' := 84) (v := (nI 1)) Cx dX5_number_83 rfl (by decide) ?_
                            refine j_goto (tgt := 88) Cx dX5_number_84 (by decide) ?_
                            refine j_istore_n (pc' := 89) (lv' := [(0, .ref m), (1, .ref ga), (2, .ref qa), (3, .int (nI 1)), (4, .int (nI y)), (5, .int (nI x))]) Cx dX5_number_88 rfl rfl (by decide) rfl ?_
                            refine j_iinc_n (pc' := 92) (z := 1) (a := x) (lv' := [(0, .ref m), (1, .ref ga), (2, .ref qa), (3, .int (nI 1)), (4, .int (nI y)), (5, .int (nI (x + 1)))]) Cx dX5_number_89 rfl rfl (by decide) rfl ?_
                            refine j_goto (tgt := 58) Cx dX5_number_92 (by decide) ?_
                            exact LX_ih (x + 1) Q3 1 (by omega) (by omega) hQ3 (by rcases hs2 with ⟨h, h2, h3⟩ | ⟨h, h2⟩; rw [h2] at hks; exact Or.inr ⟨rfl, hks⟩; exact Or.inr ⟨rfl, Nat.lt_trans h2 hks⟩)
                    exact LX (W + 1) 0 Q1 g1 (by omega) (Nat.zero_le _) hQ1 hs1
              exact LY (H + 1) 0 Q 0 (by omega) (Nat.zero_le _) hQ (Or.inl ⟨rfl, rfl, kFx_0⟩)
        exact LW _ _ 1 (Nat.lt_succ_self _) hQ0 (Or.inr rfl)
      · have hgi := hG i
        refine j_aload_n (pc' := 11) Cx dX5_number_10 rfl rfl rfl ?_
        refine j_iload_n (pc' := 12) Cx dX5_number_11 rfl rfl rfl ?_
        refine j_aload_n (pc' := 13) Cx dX5_number_12 rfl rfl rfl ?_
        refine j_iload_n (pc' := 14) Cx dX5_number_13 rfl rfl rfl ?_
        refine j_iaload_nn (pc' := 15) Cx dX5_number_14 rfl 1 rfl (by omega) (by omega) ?_
        refine j_sipush (pc' := 18) (v := (nI 128)) Cx dX5_number_15 rfl (by decide) ?_
        refine j_icmp_ge_n (tgt := 27) (pc' := 21) Cx dX5_number_18 (by decide) rfl (by omega) (by decide) (fun hk => ?_) (fun hk => ?_)
        · refine j_iconst (pc' := 28) (v := (nI 0)) Cx dX5_number_27 rfl (by decide) ?_
          refine j_iastore_nn (pc' := 29) (ws' := [(m, .inr (5, [.int (nI W), .int (nI H), .int (nI C), .int (fa), .ref o1, .ref o2, .int (nI nw), .int (nI nh), .ref go, .ref gt, .ref po, .ref pt, .ref my, .ref no, .ref so])), (ga, .inl (ty 0, 576, .inl (kN G))), (qa, .inl (ty 0, 576, .inl (kN (va_up (kfill (fun p => if G p < 128 then p + 1 else 0) Q0 i) i 0))))]) Cx dX5_number_28 rfl 2 rfl (by omega) (by omega) rfl ?_
          refine j_iinc_n (pc' := 32) (z := 1) (a := i) (lv' := [(0, .ref m), (1, .ref ga), (2, .ref qa), (3, .int (nI (i + 1)))]) Cx dX5_number_29 rfl rfl (by decide) rfl ?_
          refine j_goto (tgt := 2) Cx dX5_number_32 (by decide) ?_
          refine J.cast (ws' := [(m, .inr (5, [.int (nI W), .int (nI H), .int (nI C), .int (fa), .ref o1, .ref o2, .int (nI nw), .int (nI nh), .ref go, .ref gt, .ref po, .ref pt, .ref my, .ref no, .ref so])), (ga, .inl (ty 0, 576, .inl (kN G))), (qa, .inl (ty 0, 576, .inl (kN (kfill (fun p => if G p < 128 then p + 1 else 0) Q0 (i + 1)))))]) (lv' := [(0, .ref m), (1, .ref ga), (2, .ref qa), (3, .int (nI (i + 1)))]) (pc' := 2) (st' := []) (by rw [show va_up (kfill (fun p => if G p < 128 then p + 1 else 0) Q0 i) i (0) = kfill (fun p => if G p < 128 then p + 1 else 0) Q0 (i + 1) from (congrArg (va_up (kfill (fun p => if G p < 128 then p + 1 else 0) Q0 i) i) (show (0) = (fun p => if G p < 128 then p + 1 else 0) i from (if_neg (Nat.not_lt.mpr hk)).symm)).trans (kfill_up (fun p => if G p < 128 then p + 1 else 0) Q0 i)]) (rfl) rfl (rfl) rfl rfl ?_
          exact LP_ih (i + 1) (by omega) (by omega)
        · refine j_iload_n (pc' := 22) Cx dX5_number_21 rfl rfl rfl ?_
          refine j_iconst (pc' := 23) (v := (nI 1)) Cx dX5_number_22 rfl (by decide) ?_
          refine j_iadd_n (pc' := 24) Cx dX5_number_23 rfl ?_
          refine j_goto (tgt := 28) Cx dX5_number_24 (by decide) ?_
          refine j_iastore_nn (pc' := 29) (ws' := [(m, .inr (5, [.int (nI W), .int (nI H), .int (nI C), .int (fa), .ref o1, .ref o2, .int (nI nw), .int (nI nh), .ref go, .ref gt, .ref po, .ref pt, .ref my, .ref no, .ref so])), (ga, .inl (ty 0, 576, .inl (kN G))), (qa, .inl (ty 0, 576, .inl (kN (va_up (kfill (fun p => if G p < 128 then p + 1 else 0) Q0 i) i (i + 1)))))]) Cx dX5_number_28 rfl 2 rfl (by omega) (by omega) rfl ?_
          refine j_iinc_n (pc' := 32) (z := 1) (a := i) (lv' := [(0, .ref m), (1, .ref ga), (2, .ref qa), (3, .int (nI (i + 1)))]) Cx dX5_number_29 rfl rfl (by decide) rfl ?_
          refine j_goto (tgt := 2) Cx dX5_number_32 (by decide) ?_
          refine J.cast (ws' := [(m, .inr (5, [.int (nI W), .int (nI H), .int (nI C), .int (fa), .ref o1, .ref o2, .int (nI nw), .int (nI nh), .ref go, .ref gt, .ref po, .ref pt, .ref my, .ref no, .ref so])), (ga, .inl (ty 0, 576, .inl (kN G))), (qa, .inl (ty 0, 576, .inl (kN (kfill (fun p => if G p < 128 then p + 1 else 0) Q0 (i + 1)))))]) (lv' := [(0, .ref m), (1, .ref ga), (2, .ref qa), (3, .int (nI (i + 1)))]) (pc' := 2) (st' := []) (by rw [show va_up (kfill (fun p => if G p < 128 then p + 1 else 0) Q0 i) i (i + 1) = kfill (fun p => if G p < 128 then p + 1 else 0) Q0 (i + 1) from (congrArg (va_up (kfill (fun p => if G p < 128 then p + 1 else 0) Q0 i) i) (show (i + 1) = (fun p => if G p < 128 then p + 1 else 0) i from (if_pos hk).symm)).trans (kfill_up (fun p => if G p < 128 then p + 1 else 0) Q0 i)]) (rfl) rfl (rfl) rfl rfl ?_
          exact LP_ih (i + 1) (by omega) (by omega)
  refine J.cast (ws' := [(m, .inr (5, [.int (nI W), .int (nI H), .int (nI C), .int (fa), .ref o1, .ref o2, .int (nI nw), .int (nI nh), .ref go, .ref gt, .ref po, .ref pt, .ref my, .ref no, .ref so])), (ga, .inl (ty 0, 576, .inl (kN G))), (qa, .inl (ty 0, 576, .inl (kN (kfill (fun p => if G p < 128 then p + 1 else 0) Q0 0))))]) (lv' := [(0, .ref m), (1, .ref ga), (2, .ref qa), (3, .int (nI 0))]) (pc' := 2) (st' := []) (by rw [kfill_0]) (rfl) rfl (rfl) rfl rfl ?_
  exact LP (W * H + 1) 0 (by omega) (Nat.zero_le _)

set_option maxHeartbeats 4000000 in
set_option maxRecDepth 100000 in
theorem c_X5_count (l : Launch) (D : va_G) (ty : Nat → ClassId) (m o1 o2 go gt po pt my no so W H C : Nat) (nw nh : Nat) (fa : Int32) (hW : W ≤ 24) (hH : H ≤ 24) (hW1 : 1 ≤ W) (hH1 : 1 ≤ H) (h1 : 1 ≤ C) (h3 : C ≤ 3) (qa : Nat) (Q : Nat → Nat) (hQ : ∀ p, p < W * H → Q p ≤ W * H) : KM l yX5_count wsX5_count { frames := 1, cells := 0, slots := 0, locals := 40 } D ty [.ref m, .ref qa] [(m, .inr (5, [.int (nI W), .int (nI H), .int (nI C), .int (fa), .ref o1, .ref o2, .int (nI nw), .int (nI nh), .ref go, .ref gt, .ref po, .ref pt, .ref my, .ref no, .ref so])), (qa, .inl (ty 0, 576, .inl (kN Q)))] (kI (fun r u => r = nI (kct (fun q => decide (Q q = q + 1)) (W * H)) ∧ u = [(m, .inr (5, [.int (nI W), .int (nI H), .int (nI C), .int (fa), .ref o1, .ref o2, .int (nI nw), .int (nI nh), .ref go, .ref gt, .ref po, .ref pt, .ref my, .ref no, .ref so])), (qa, .inl (ty 0, 576, .inl (kN Q)))])) 0 0 := by
  refine KM.of (cc := cX5_count) (maxL := 4) (ret := (some .int)) (lv := [(0, .ref m), (1, .ref qa)]) (by decide +kernel) rfl rfl rfl (fun X C0 R0 => ?_)
  have Cx : kC X cX5_count wsX5_count RX5 { frames := 1, cells := 0, slots := 0, locals := 40 } "count" l D ty 4 := C0
  have hwh := k_wh hW hH
  refine j_iconst (pc' := 1) (v := (nI 0)) Cx dX5_count_0 rfl (by decide) ?_
  refine j_istore_n (pc' := 2) (lv' := [(0, .ref m), (1, .ref qa), (2, .int (nI 0))]) Cx dX5_count_1 rfl rfl (by decide) rfl ?_
  refine j_iconst (pc' := 3) (v := (nI 0)) Cx dX5_count_2 rfl (by decide) ?_
  refine j_istore_n (pc' := 4) (lv' := [(0, .ref m), (1, .ref qa), (2, .int (nI 0)), (3, .int (nI 0))]) Cx dX5_count_3 rfl rfl (by decide) rfl ?_
  have LP : ∀ (LP_n : Nat), ∀ (i : Nat), (W * H - i < LP_n) → (i ≤ W * H) → J X [(m, .inr (5, [.int (nI W), .int (nI H), .int (nI C), .int (fa), .ref o1, .ref o2, .int (nI nw), .int (nI nh), .ref go, .ref gt, .ref po, .ref pt, .ref my, .ref no, .ref so])), (qa, .inl (ty 0, 576, .inl (kN Q)))] [(0, .ref m), (1, .ref qa), (2, .int (nI (kct (fun q => decide (Q q = q + 1)) i))), (3, .int (nI i))] 4 [] 0 0 := by
    intro LP_n
    induction LP_n with
    | zero =>
      intro i hms _
      exact absurd hms (Nat.not_lt_zero _)
    | succ LP_n LP_ih =>
      intro i LP_m hle
      have hk0 := kct_le (fun q => decide (Q q = q + 1)) i
      refine j_iload_n (pc' := 5) Cx dX5_count_4 rfl rfl rfl ?_
      refine j_aload_n (pc' := 6) Cx dX5_count_5 rfl rfl rfl ?_
      refine j_callV (pc' := 9) (wr := [(qa, .inl (ty 0, 576, .inl (kN Q)))]) (st := [.int (nI i)]) Cx dX5_count_6 rfl (c_X5_places l D ty m o1 o2 go gt po pt my no so W H C nw nh fa) gX5_count_X5_places rfl khd_X5_places rfl ⟨rfl, rfl, Nat.le_of_ble_eq_true rfl, Nat.le_of_ble_eq_true rfl⟩ [0] [1] rfl rfl ⟨rfl, rfl⟩ (by decide) 0 rfl rfl rfl (Nat.le_of_ble_eq_true rfl) ⟨Nat.le_of_ble_eq_true rfl, Nat.le_of_ble_eq_true rfl⟩ (fun v u hpost => ?_)
      obtain ⟨r, rfl, rfl, rfl⟩ := hpost
      show J X [(qa, .inl (ty 0, 576, .inl (kN Q))), (m, .inr (5, [.int (nI W), .int (nI H), .int (nI C), .int (fa), .ref o1, .ref o2, .int (nI nw), .int (nI nh), .ref go, .ref gt, .ref po, .ref pt, .ref my, .ref no, .ref so]))] [(0, .ref m), (1, .ref qa), (2, .int (nI (kct (fun q => decide (Q q = q + 1)) i))), (3, .int (nI i))] 9 [.int (nI (W * H)), .int (nI i)] 0 0
      refine J.sub (ws' := [(m, .inr (5, [.int (nI W), .int (nI H), .int (nI C), .int (fa), .ref o1, .ref o2, .int (nI nw), .int (nI nh), .ref go, .ref gt, .ref po, .ref pt, .ref my, .ref no, .ref so])), (qa, .inl (ty 0, 576, .inl (kN Q)))]) [1, 0] rfl rfl ?_
      refine j_icmp_ge_n (tgt := 35) (pc' := 12) Cx dX5_count_9 (by decide) rfl (by omega) (by omega) (fun hi => ?_) (fun hi => ?_)
      · have e : i = W * H := by omega
        subst e
        refine j_iload_n (pc' := 36) Cx dX5_count_35 rfl rfl rfl ?_
        exact j_iret Cx dX5_count_36 R0 ⟨Nat.le_of_ble_eq_true rfl, Nat.le_of_ble_eq_true rfl⟩ (⟨_, rfl, rfl, rfl⟩)
      · have hqi := hQ i hi
        refine j_aload_n (pc' := 13) Cx dX5_count_12 rfl rfl rfl ?_
        refine j_iload_n (pc' := 14) Cx dX5_count_13 rfl rfl rfl ?_
        refine j_iaload_nn (pc' := 15) Cx dX5_count_14 rfl 1 rfl (by omega) (by omega) ?_
        refine j_iload_n (pc' := 16) Cx dX5_count_15 rfl rfl rfl ?_
        refine j_iconst (pc' := 17) (v := (nI 1)) Cx dX5_count_16 rfl (by decide) ?_
        refine j_iadd_n (pc' := 18) Cx dX5_count_17 rfl ?_
        refine j_icmp_ne_n (tgt := 27) (pc' := 21) Cx dX5_count_18 (by decide) rfl (by omega) (by omega) (fun hk => ?_) (fun hk => ?_)
        · refine j_iload_n (pc' := 28) Cx dX5_count_27 rfl rfl rfl ?_
          refine j_istore_n (pc' := 29) (lv' := [(0, .ref m), (1, .ref qa), (2, .int (nI (kct (fun q => decide (Q q = q + 1)) i))), (3, .int (nI i))]) Cx dX5_count_28 rfl rfl (by decide) rfl ?_
          refine j_iinc_n (pc' := 32) (z := 1) (a := i) (lv' := [(0, .ref m), (1, .ref qa), (2, .int (nI (kct (fun q => decide (Q q = q + 1)) i))), (3, .int (nI (i + 1)))]) Cx dX5_count_29 rfl rfl (by decide) rfl ?_
          refine j_goto (tgt := 4) Cx dX5_count_32 (by decide) ?_
          refine J.cast (ws' := [(m, .inr (5, [.int (nI W), .int (nI H), .int (nI C), .int (fa), .ref o1, .ref o2, .int (nI nw), .int (nI nh), .ref go, .ref gt, .ref po, .ref pt, .ref my, .ref no, .ref so])), (qa, .inl (ty 0, 576, .inl (kN Q)))]) (lv' := [(0, .ref m), (1, .ref qa), (2, .int (nI (kct (fun q => decide (Q q = q + 1)) (i + 1)))), (3, .int (nI (i + 1)))]) (pc' := 4) (st' := []) (rfl) (by rw [kct_no (p := (fun q => decide (Q q = q + 1))) (decide_eq_false hk)]) rfl (rfl) rfl rfl ?_
          exact LP_ih (i + 1) (by omega) (by omega)
        · refine j_iload_n (pc' := 22) Cx dX5_count_21 rfl rfl rfl ?_
          refine j_iconst (pc' := 23) (v := (nI 1)) Cx dX5_count_22 rfl (by decide) ?_
          refine j_iadd_n (pc' := 24) Cx dX5_count_23 rfl ?_
          refine j_goto (tgt := 28) Cx dX5_count_24 (by decide) ?_
          refine j_istore_n (pc' := 29) (lv' := [(0, .ref m), (1, .ref qa), (2, .int (nI ((kct (fun q => decide (Q q = q + 1)) i) + 1))), (3, .int (nI i))]) Cx dX5_count_28 rfl rfl (by decide) rfl ?_
          refine j_iinc_n (pc' := 32) (z := 1) (a := i) (lv' := [(0, .ref m), (1, .ref qa), (2, .int (nI ((kct (fun q => decide (Q q = q + 1)) i) + 1))), (3, .int (nI (i + 1)))]) Cx dX5_count_29 rfl rfl (by decide) rfl ?_
          refine j_goto (tgt := 4) Cx dX5_count_32 (by decide) ?_
          refine J.cast (ws' := [(m, .inr (5, [.int (nI W), .int (nI H), .int (nI C), .int (fa), .ref o1, .ref o2, .int (nI nw), .int (nI nh), .ref go, .ref gt, .ref po, .ref pt, .ref my, .ref no, .ref so])), (qa, .inl (ty 0, 576, .inl (kN Q)))]) (lv' := [(0, .ref m), (1, .ref qa), (2, .int (nI (kct (fun q => decide (Q q = q + 1)) (i + 1)))), (3, .int (nI (i + 1)))]) (pc' := 4) (st' := []) (rfl) (by rw [kct_yes (p := (fun q => decide (Q q = q + 1))) (decide_eq_true hk)]) rfl (rfl) rfl rfl ?_
          exact LP_ih (i + 1) (by omega) (by omega)
  exact LP (W * H + 1) 0 (by omega) (Nat.zero_le _)

set_option maxHeartbeats 4000000 in
set_option maxRecDepth 100000 in
theorem c_X5_isKept (l : Launch) (D : va_G) (ty : Nat → ClassId) (m o1 o2 go gt po pt my no so W H C : Nat) (nw nh : Nat) (fa : Int32) (hW : W ≤ 24) (hH : H ≤ 24) (hW1 : 1 ≤ W) (hH1 : 1 ≤ H) (h1 : 1 ≤ C) (h3 : C ≤ 3) (Q T2 : Nat → Nat) (hQ : ∀ p, p < W * H → Q p ≤ W * H) (hT2 : ∀ p, p < W * H → T2 p ≤ W * H) (n : Nat) (hn : n ≤ 1000) : KM l yX5_isKept wsX5_isKept { frames := 1, cells := 0, slots := 0, locals := 40 } D ty [.ref m, .int (nI n)] [(m, .inr (5, [.int (nI W), .int (nI H), .int (nI C), .int (fa), .ref o1, .ref o2, .int (nI nw), .int (nI nh), .ref go, .ref gt, .ref po, .ref pt, .ref my, .ref no, .ref so])), (po, .inl (ty 0, 576, .inl (kN Q))), (pt, .inl (ty 0, 576, .inl (kN T2)))] (kI (fun r u => r = nI (kall (fun q => decide (Q q = n ↔ T2 q = n)) (W * H)) ∧ u = [(m, .inr (5, [.int (nI W), .int (nI H), .int (nI C), .int (fa), .ref o1, .ref o2, .int (nI nw), .int (nI nh), .ref go, .ref gt, .ref po, .ref pt, .ref my, .ref no, .ref so])), (po, .inl (ty 0, 576, .inl (kN Q))), (pt, .inl (ty 0, 576, .inl (kN T2)))])) 0 0 := by
  refine KM.of (cc := cX5_isKept) (maxL := 4) (ret := (some .boolean)) (lv := [(0, .ref m), (1, .int (nI n))]) (by decide +kernel) rfl rfl rfl (fun X C0 R0 => ?_)
  have Cx : kC X cX5_isKept wsX5_isKept RX5 { frames := 1, cells := 0, slots := 0, locals := 40 } "isKept" l D ty 4 := C0
  have hwh := k_wh hW hH
  refine j_iconst (pc' := 1) (v := (nI 1)) Cx dX5_isKept_0 rfl (by decide) ?_
  refine j_istore_n (pc' := 2) (lv' := [(0, .ref m), (1, .int (nI n)), (2, .int (nI 1))]) Cx dX5_isKept_1 rfl rfl (by decide) rfl ?_
  refine j_iconst (pc' := 3) (v := (nI 0)) Cx dX5_isKept_2 rfl (by decide) ?_
  refine j_istore_n (pc' := 4) (lv' := [(0, .ref m), (1, .int (nI n)), (2, .int (nI 1)), (3, .int (nI 0))]) Cx dX5_isKept_3 rfl rfl (by decide) rfl ?_
  have LP : ∀ (LP_n : Nat), ∀ (i : Nat), (W * H - i < LP_n) → (i ≤ W * H) → J X [(m, .inr (5, [.int (nI W), .int (nI H), .int (nI C), .int (fa), .ref o1, .ref o2, .int (nI nw), .int (nI nh), .ref go, .ref gt, .ref po, .ref pt, .ref my, .ref no, .ref so])), (po, .inl (ty 0, 576, .inl (kN Q))), (pt, .inl (ty 0, 576, .inl (kN T2)))] [(0, .ref m), (1, .int (nI n)), (2, .int (nI (kall (fun q => decide (Q q = n ↔ T2 q = n)) i))), (3, .int (nI i))] 4 [] 0 0 := by
    intro LP_n
    induction LP_n with
    | zero =>
      intro i hms _
      exact absurd hms (Nat.not_lt_zero _)
    | succ LP_n LP_ih =>
      intro i LP_m hle
      have h01 := kall_01 (fun q => decide (Q q = n ↔ T2 q = n)) i
      refine j_iload_n (pc' := 5) Cx dX5_isKept_4 rfl rfl rfl ?_
      refine j_aload_n (pc' := 6) Cx dX5_isKept_5 rfl rfl rfl ?_
      refine j_callV (pc' := 9) (wr := [(po, .inl (ty 0, 576, .inl (kN Q))), (pt, .inl (ty 0, 576, .inl (kN T2)))]) (st := [.int (nI i)]) Cx dX5_isKept_6 rfl (c_X5_places l D ty m o1 o2 go gt po pt my no so W H C nw nh fa) gX5_isKept_X5_places rfl khd_X5_places rfl ⟨rfl, rfl, Nat.le_of_ble_eq_true rfl, Nat.le_of_ble_eq_true rfl⟩ [0] [1, 2] rfl rfl ⟨rfl, rfl⟩ (by decide) 0 rfl rfl rfl (Nat.le_of_ble_eq_true rfl) ⟨Nat.le_of_ble_eq_true rfl, Nat.le_of_ble_eq_true rfl⟩ (fun v u hpost => ?_)
      obtain ⟨r, rfl, rfl, rfl⟩ := hpost
      show J X [(po, .inl (ty 0, 576, .inl (kN Q))), (pt, .inl (ty 0, 576, .inl (kN T2))), (m, .inr (5, [.int (nI W), .int (nI H), .int (nI C), .int (fa), .ref o1, .ref o2, .int (nI nw), .int (nI nh), .ref go, .ref gt, .ref po, .ref pt, .ref my, .ref no, .ref so]))] [(0, .ref m), (1, .int (nI n)), (2, .int (nI (kall (fun q => decide (Q q = n ↔ T2 q = n)) i))), (3, .int (nI i))] 9 [.int (nI (W * H)), .int (nI i)] 0 0
      refine J.sub (ws' := [(m, .inr (5, [.int (nI W), .int (nI H), .int (nI C), .int (fa), .ref o1, .ref o2, .int (nI nw), .int (nI nh), .ref go, .ref gt, .ref po, .ref pt, .ref my, .ref no, .ref so])), (po, .inl (ty 0, 576, .inl (kN Q))), (pt, .inl (ty 0, 576, .inl (kN T2)))]) [2, 0, 1] rfl rfl ?_
      refine j_icmp_ge_n (tgt := 61) (pc' := 12) Cx dX5_isKept_9 (by decide) rfl (by omega) (by omega) (fun hi => ?_) (fun hi => ?_)
      · have e : i = W * H := by omega
        subst e
        refine j_iload_n (pc' := 62) Cx dX5_isKept_61 rfl rfl rfl ?_
        exact j_zret Cx dX5_isKept_62 R0 (by rcases h01 with h | h <;> rw [h] <;> decide) ⟨Nat.le_of_ble_eq_true rfl, Nat.le_of_ble_eq_true rfl⟩ (⟨_, rfl, rfl, rfl⟩)
      · have hqi := hQ i hi
        have hti := hT2 i hi
        refine j_iload_n (pc' := 13) Cx dX5_isKept_12 rfl rfl rfl ?_
        refine j_if_eq_n (tgt := 53) (pc' := 16) Cx dX5_isKept_13 (by decide) rfl (by omega) (fun h0 => ?_) (fun h0 => ?_)
        · refine j_iconst (pc' := 54) (v := (nI 0)) Cx dX5_isKept_53 rfl (by decide) ?_
          refine j_istore_n (pc' := 55) (lv' := [(0, .ref m), (1, .int (nI n)), (2, .int (nI 0)), (3, .int (nI i))]) Cx dX5_isKept_54 rfl rfl (by decide) rfl ?_
          refine j_iinc_n (pc' := 58) (z := 1) (a := i) (lv' := [(0, .ref m), (1, .int (nI n)), (2, .int (nI 0)), (3, .int (nI (i + 1)))]) Cx dX5_isKept_55 rfl rfl (by decide) rfl ?_
          refine j_goto (tgt := 4) Cx dX5_isKept_58 (by decide) ?_
          refine J.cast (ws' := [(m, .inr (5, [.int (nI W), .int (nI H), .int (nI C), .int (fa), .ref o1, .ref o2, .int (nI nw), .int (nI nh), .ref go, .ref gt, .ref po, .ref pt, .ref my, .ref no, .ref so])), (po, .inl (ty 0, 576, .inl (kN Q))), (pt, .inl (ty 0, 576, .inl (kN T2)))]) (lv' := [(0, .ref m), (1, .int (nI n)), (2, .int (nI (kall (fun q => decide (Q q = n ↔ T2 q = n)) (i + 1)))), (3, .int (nI (i + 1)))]) (pc' := 4) (st' := []) (rfl) (by rw [show kall (fun q => decide (Q q = n ↔ T2 q = n)) (i + 1) = 0 from if_neg (fun e => absurd (e.1.symm.trans h0) (by decide))]) rfl (rfl) rfl rfl ?_
          exact LP_ih (i + 1) (by omega) (by omega)
        · have h1e : kall (fun q => decide (Q q = n ↔ T2 q = n)) i = 1 := h01.resolve_left h0
          refine j_aload_n (pc' := 17) Cx dX5_isKept_16 rfl rfl rfl ?_
          refine j_get (pc' := 20) (N := 15) Cx dX5_isKept_17 rfl kin_X5_isKept_X5 kfl_X5_isKept_22 0 rfl rfl 10 rfl rfl rfl ?_
          refine j_iload_n (pc' := 21) Cx dX5_isKept_20 rfl rfl rfl ?_
          refine j_iaload_nn (pc' := 22) Cx dX5_isKept_21 rfl 1 rfl (by omega) (by omega) ?_
          refine j_iload_n (pc' := 23) Cx dX5_isKept_22 rfl rfl rfl ?_
          refine j_icmp_ne_n (tgt := 30) (pc' := 26) Cx dX5_isKept_23 (by decide) rfl (by omega) (by omega) (fun hq1 => ?_) (fun hq1 => ?_)
          · refine j_iconst (pc' := 31) (v := (nI 0)) Cx dX5_isKept_30 rfl (by decide) ?_
            refine j_aload_n (pc' := 32) Cx dX5_isKept_31 rfl rfl rfl ?_
            refine j_get (pc' := 35) (N := 15) Cx dX5_isKept_32 rfl kin_X5_isKept_X5 kfl_X5_isKept_25 0 rfl rfl 11 rfl rfl rfl ?_
            refine j_iload_n (pc' := 36) Cx dX5_isKept_35 rfl rfl rfl ?_
            refine j_iaload_nn (pc' := 37) Cx dX5_isKept_36 rfl 2 rfl (by omega) (by omega) ?_
            refine j_iload_n (pc' := 38) Cx dX5_isKept_37 rfl rfl rfl ?_
            refine j_icmp_ne_n (tgt := 45) (pc' := 41) Cx dX5_isKept_38 (by decide) rfl (by omega) (by omega) (fun hq2 => ?_) (fun hq2 => ?_)
            · refine j_iconst (pc' := 46) (v := (nI 0)) Cx dX5_isKept_45 rfl (by decide) ?_
              refine j_icmp_ne_n (tgt := 53) (pc' := 49) Cx dX5_isKept_46 (by decide) rfl (by omega) (by omega) (fun hh => absurd hh (not_not_intro rfl)) (fun _ => ?_)
              refine j_iconst (pc' := 50) (v := (nI 1)) Cx dX5_isKept_49 rfl (by decide) ?_
              refine j_goto (tgt := 54) Cx dX5_isKept_50 (by decide) ?_
              refine j_istore_n (pc' := 55) (lv' := [(0, .ref m), (1, .int (nI n)), (2, .int (nI 1)), (3, .int (nI i))]) Cx dX5_isKept_54 rfl rfl (by decide) rfl ?_
              refine j_iinc_n (pc' := 58) (z := 1) (a := i) (lv' := [(0, .ref m), (1, .int (nI n)), (2, .int (nI 1)), (3, .int (nI (i + 1)))]) Cx dX5_isKept_55 rfl rfl (by decide) rfl ?_
              refine j_goto (tgt := 4) Cx dX5_isKept_58 (by decide) ?_
              refine J.cast (ws' := [(m, .inr (5, [.int (nI W), .int (nI H), .int (nI C), .int (fa), .ref o1, .ref o2, .int (nI nw), .int (nI nh), .ref go, .ref gt, .ref po, .ref pt, .ref my, .ref no, .ref so])), (po, .inl (ty 0, 576, .inl (kN Q))), (pt, .inl (ty 0, 576, .inl (kN T2)))]) (lv' := [(0, .ref m), (1, .int (nI n)), (2, .int (nI (kall (fun q => decide (Q q = n ↔ T2 q = n)) (i + 1)))), (3, .int (nI (i + 1)))]) (pc' := 4) (st' := []) (rfl) (by rw [show kall (fun q => decide (Q q = n ↔ T2 q = n)) (i + 1) = 1 from if_pos ⟨h1e, decide_eq_true ⟨fun e => absurd e hq1, fun e => absurd e hq2⟩⟩]) rfl (rfl) rfl rfl ?_
              exact LP_ih (i + 1) (by omega) (by omega)
            · refine j_iconst (pc' := 42) (v := (nI 1)) Cx dX5_isKept_41 rfl (by decide) ?_
              refine j_goto (tgt := 46) Cx dX5_isKept_42 (by decide) ?_
              refine j_icmp_ne_n (tgt := 53) (pc' := 49) Cx dX5_isKept_46 (by decide) rfl (by omega) (by omega) (fun _ => ?_) (fun hh => absurd hh (by decide))
              refine j_iconst (pc' := 54) (v := (nI 0)) Cx dX5_isKept_53 rfl (by decide) ?_
              refine j_istore_n (pc' := 55) (lv' := [(0, .ref m), (1, .int (nI n)), (2, .int (nI 0)), (3, .int (nI i))]) Cx dX5_isKept_54 rfl rfl (by decide) rfl ?_
              refine j_iinc_n (pc' := 58) (z := 1) (a := i) (lv' := [(0, .ref m), (1, .int (nI n)), (2, .int (nI 0)), (3, .int (nI (i + 1)))]) Cx dX5_isKept_55 rfl rfl (by decide) rfl ?_
              refine j_goto (tgt := 4) Cx dX5_isKept_58 (by decide) ?_
              refine J.cast (ws' := [(m, .inr (5, [.int (nI W), .int (nI H), .int (nI C), .int (fa), .ref o1, .ref o2, .int (nI nw), .int (nI nh), .ref go, .ref gt, .ref po, .ref pt, .ref my, .ref no, .ref so])), (po, .inl (ty 0, 576, .inl (kN Q))), (pt, .inl (ty 0, 576, .inl (kN T2)))]) (lv' := [(0, .ref m), (1, .int (nI n)), (2, .int (nI (kall (fun q => decide (Q q = n ↔ T2 q = n)) (i + 1)))), (3, .int (nI (i + 1)))]) (pc' := 4) (st' := []) (rfl) (by rw [show kall (fun q => decide (Q q = n ↔ T2 q = n)) (i + 1) = 0 from if_neg (fun e => absurd (of_decide_eq_true e.2) (fun e2 => hq1 (e2.mpr hq2)))]) rfl (rfl) rfl rfl ?_
              exact LP_ih (i + 1) (by omega) (by omega)
          · refine j_iconst (pc' := 27) (v := (nI 1)) Cx dX5_isKept_26 rfl (by decide) ?_
            refine j_goto (tgt := 31) Cx dX5_isKept_27 (by decide) ?_
            refine j_aload_n (pc' := 32) Cx dX5_isKept_31 rfl rfl rfl ?_
            refine j_get (pc' := 35) (N := 15) Cx dX5_isKept_32 rfl kin_X5_isKept_X5 kfl_X5_isKept_25 0 rfl rfl 11 rfl rfl rfl ?_
            refine j_iload_n (pc' := 36) Cx dX5_isKept_35 rfl rfl rfl ?_
            refine j_iaload_nn (pc' := 37) Cx dX5_isKept_36 rfl 2 rfl (by omega) (by omega) ?_
            refine j_iload_n (pc' := 38) Cx dX5_isKept_37 rfl rfl rfl ?_
            refine j_icmp_ne_n (tgt := 45) (pc' := 41) Cx dX5_isKept_38 (by decide) rfl (by omega) (by omega) (fun hq2 => ?_) (fun hq2 => ?_)
            · refine j_iconst (pc' := 46) (v := (nI 0)) Cx dX5_isKept_45 rfl (by decide) ?_
              refine j_icmp_ne_n (tgt := 53) (pc' := 49) Cx dX5_isKept_46 (by decide) rfl (by omega) (by omega) (fun _ => ?_) (fun hh => absurd hh (by decide))
              refine j_iconst (pc' := 54) (v := (nI 0)) Cx dX5_isKept_53 rfl (by decide) ?_
              refine j_istore_n (pc' := 55) (lv' := [(0, .ref m), (1, .int (nI n)), (2, .int (nI 0)), (3, .int (nI i))]) Cx dX5_isKept_54 rfl rfl (by decide) rfl ?_
              refine j_iinc_n (pc' := 58) (z := 1) (a := i) (lv' := [(0, .ref m), (1, .int (nI n)), (2, .int (nI 0)), (3, .int (nI (i + 1)))]) Cx dX5_isKept_55 rfl rfl (by decide) rfl ?_
              refine j_goto (tgt := 4) Cx dX5_isKept_58 (by decide) ?_
              refine J.cast (ws' := [(m, .inr (5, [.int (nI W), .int (nI H), .int (nI C), .int (fa), .ref o1, .ref o2, .int (nI nw), .int (nI nh), .ref go, .ref gt, .ref po, .ref pt, .ref my, .ref no, .ref so])), (po, .inl (ty 0, 576, .inl (kN Q))), (pt, .inl (ty 0, 576, .inl (kN T2)))]) (lv' := [(0, .ref m), (1, .int (nI n)), (2, .int (nI (kall (fun q => decide (Q q = n ↔ T2 q = n)) (i + 1)))), (3, .int (nI (i + 1)))]) (pc' := 4) (st' := []) (rfl) (by rw [show kall (fun q => decide (Q q = n ↔ T2 q = n)) (i + 1) = 0 from if_neg (fun e => absurd (of_decide_eq_true e.2) (fun e2 => hq2 (e2.mp hq1)))]) rfl (rfl) rfl rfl ?_
              exact LP_ih (i + 1) (by omega) (by omega)
            · refine j_iconst (pc' := 42) (v := (nI 1)) Cx dX5_isKept_41 rfl (by decide) ?_
              refine j_goto (tgt := 46) Cx dX5_isKept_42 (by decide) ?_
              refine j_icmp_ne_n (tgt := 53) (pc' := 49) Cx dX5_isKept_46 (by decide) rfl (by omega) (by omega) (fun hh => absurd hh (not_not_intro rfl)) (fun _ => ?_)
              refine j_iconst (pc' := 50) (v := (nI 1)) Cx dX5_isKept_49 rfl (by decide) ?_
              refine j_goto (tgt := 54) Cx dX5_isKept_50 (by decide) ?_
              refine j_istore_n (pc' := 55) (lv' := [(0, .ref m), (1, .int (nI n)), (2, .int (nI 1)), (3, .int (nI i))]) Cx dX5_isKept_54 rfl rfl (by decide) rfl ?_
              refine j_iinc_n (pc' := 58) (z := 1) (a := i) (lv' := [(0, .ref m), (1, .int (nI n)), (2, .int (nI 1)), (3, .int (nI (i + 1)))]) Cx dX5_isKept_55 rfl rfl (by decide) rfl ?_
              refine j_goto (tgt := 4) Cx dX5_isKept_58 (by decide) ?_
              refine J.cast (ws' := [(m, .inr (5, [.int (nI W), .int (nI H), .int (nI C), .int (fa), .ref o1, .ref o2, .int (nI nw), .int (nI nh), .ref go, .ref gt, .ref po, .ref pt, .ref my, .ref no, .ref so])), (po, .inl (ty 0, 576, .inl (kN Q))), (pt, .inl (ty 0, 576, .inl (kN T2)))]) (lv' := [(0, .ref m), (1, .int (nI n)), (2, .int (nI (kall (fun q => decide (Q q = n ↔ T2 q = n)) (i + 1)))), (3, .int (nI (i + 1)))]) (pc' := 4) (st' := []) (rfl) (by rw [show kall (fun q => decide (Q q = n ↔ T2 q = n)) (i + 1) = 1 from if_pos ⟨h1e, decide_eq_true ⟨fun _ => hq2, fun _ => hq1⟩⟩]) rfl (rfl) rfl rfl ?_
              exact LP_ih (i + 1) (by omega) (by omega)
  exact LP (W * H + 1) 0 (by omega) (Nat.zero_le _)

set_option maxHeartbeats 4000000 in
set_option maxRecDepth 100000 in
/-- signs, of the other one -/
theorem c_X5_signs_all (l : Launch) (D : va_G) (ty : Nat → ClassId) (m o1 o2 go gt po pt my no so W H C : Nat) (nw nh : Nat) (fa : Int32) (hW : W ≤ 24) (hH : H ≤ 24) (hW1 : 1 ≤ W) (hH1 : 1 ≤ H) (h1 : 1 ≤ C) (h3 : C ≤ 3) (L M : Nat) (hL : L = W + 2) (hML : M = L * (H + 2)) (O T A B : Nat → Nat) (hO : ∀ i, O i < 256) (hT : ∀ i, T i < 256) (hrA : krel C (W * H) O A) (hrB : krel C (W * H) T B) (F G : Nat → Nat) (hF : ∀ i, F i < 256) (hG : ∀ i, G i < 256) (hA : ∀ i, A i < 256) (hB : ∀ i, B i < 256) (P0 : Nat → Nat) (b : Int32) (hb : ¬ b = 0) : KM l yX5_signs wsX5_signs { frames := 4, cells := 0, slots := 0, locals := 160 } D ty [.ref m, .int (b)] [(m, .inr (5, [.int (nI W), .int (nI H), .int (nI C), .int (fa), .ref o1, .ref o2, .int (nI nw), .int (nI nh), .ref go, .ref gt, .ref po, .ref pt, .ref my, .ref no, .ref so])), (o1, .inl (ty 0, 1728, .inl (kN O))), (o2, .inl (ty 0, 1728, .inl (kN T))), (go, .inl (ty 0, 576, .inl (kN F))), (gt, .inl (ty 0, 576, .inl (kN G))), (po, .inl (ty 0, 576, .inl (kN P0)))] (kI (fun r u => ∃ Q1 : Nat → Nat, kRf W H L M (kblk W H L C A) Q1 ∧ kRx W H L (kblk W H L C A) Q1 ∧ r = nI (kct (fun q => decide (Q1 q = q + 1)) (W * H)) ∧ ∃ (F2 G2 : Nat → Nat) (nw2 nh2 : Nat), (∀ i, F2 i < 256) ∧ (∀ i, G2 i < 256) ∧ u = [(m, .inr (5, [.int (nI W), .int (nI H), .int (nI C), .int (nI 0), .ref o1, .ref o2, .int (nI nw2), .int (nI nh2), .ref go, .ref gt, .ref po, .ref pt, .ref my, .ref no, .ref so])), (o1, .inl (ty 0, 1728, .inl (kN O))), (o2, .inl (ty 0, 1728, .inl (kN T))), (go, .inl (ty 0, 576, .inl (kN F2))), (gt, .inl (ty 0, 576, .inl (kN G2))), (po, .inl (ty 0, 576, .inl (kN Q1)))])) 0 0 := by
  refine KM.of (cc := cX5_signs) (maxL := 4) (ret := (some .int)) (lv := [(0, .ref m), (1, .int (b))]) (by decide +kernel) rfl rfl rfl (fun X C0 R0 => ?_)
  have Cx : kC X cX5_signs wsX5_signs RX5 { frames := 4, cells := 0, slots := 0, locals := 160 } "signs" l D ty 4 := C0
  have hwh := k_wh hW hH
  have hgA := fun p => kg_lt (C := C) hA p
  have hgB := fun p => kg_lt (C := C) hB p
  have hF0 : ∀ i, (kfill (kg C A) F (W * H)) i < 256 := kfill_lt hgA hF (W * H)
  have hG0 : ∀ i, (kfill (kg C B) G (W * H)) i < 256 := kfill_lt hgB hG (W * H)
  have hFa : ∀ i, i < W * H → (kfill (kg C A) F (W * H)) i = kg C A i := fun i hi => kfill_in hi
  have hGa : ∀ i, i < W * H → (kfill (kg C B) G (W * H)) i = kg C B i := fun i hi => kfill_in hi
  refine j_aload_n (pc' := 1) Cx dX5_signs_0 rfl rfl rfl ?_
  refine j_iconst (pc' := 2) (v := (nI 0)) Cx dX5_signs_1 rfl (by decide) ?_
  refine j_put (pc' := 5) (N := 15) (t := .int) (ws' := [(m, .inr (5, [.int (nI W), .int (nI H), .int (nI C), .int (nI 0), .ref o1, .ref o2, .int (nI nw), .int (nI nh), .ref go, .ref gt, .ref po, .ref pt, .ref my, .ref no, .ref so])), (o1, .inl (ty 0, 1728, .inl (kN O))), (o2, .inl (ty 0, 1728, .inl (kN T))), (go, .inl (ty 0, 576, .inl (kN F))), (gt, .inl (ty 0, 576, .inl (kN G))), (po, .inl (ty 0, 576, .inl (kN P0)))]) Cx dX5_signs_2 rfl kin_X5_signs_X5 kfl_X5_signs_48 tyX5_ok nmX5 0 rfl rfl 3 rfl rfl rfl rfl rfl rfl rfl ?_
  refine j_aload_n (pc' := 6) Cx dX5_signs_5 rfl rfl rfl ?_
  refine j_callV (pc' := 9) (wr := [(po, .inl (ty 0, 576, .inl (kN P0)))]) (st := []) Cx dX5_signs_6 rfl (c_X5_makeGrey l D ty m o1 o2 go gt po pt my no so W H C nw nh (nI 0) hW hH hW1 hH1 h1 h3 O T A B hO hT hrA hrB F G) gX5_signs_X5_makeGrey rfl khd_X5_makeGrey rfl ⟨rfl, rfl, Nat.le_of_ble_eq_true rfl, Nat.le_of_ble_eq_true rfl⟩ [0, 1, 2, 3, 4] [5] rfl rfl ⟨rfl, rfl⟩ (by decide) 0 rfl rfl rfl (Nat.le_of_ble_eq_true rfl) ⟨Nat.le_of_ble_eq_true rfl, Nat.le_of_ble_eq_true rfl⟩ (fun v u hpost => ?_)
  obtain ⟨rfl, rfl⟩ := hpost
  show J X [(po, .inl (ty 0, 576, .inl (kN P0))), (m, .inr (5, [.int (nI W), .int (nI H), .int (nI C), .int (nI 0), .ref o1, .ref o2, .int (nI W), .int (nI H), .ref go, .ref gt, .ref po, .ref pt, .ref my, .ref no, .ref so])), (o1, .inl (ty 0, 1728, .inl (kN O))), (o2, .inl (ty 0, 1728, .inl (kN T))), (go, .inl (ty 0, 576, .inl (kN (kfill (kg C A) F (W * H))))), (gt, .inl (ty 0, 576, .inl (kN (kfill (kg C B) G (W * H)))))] [(0, .ref m), (1, .int (b))] 9 [] 0 0
  refine J.sub (ws' := [(m, .inr (5, [.int (nI W), .int (nI H), .int (nI C), .int (nI 0), .ref o1, .ref o2, .int (nI W), .int (nI H), .ref go, .ref gt, .ref po, .ref pt, .ref my, .ref no, .ref so])), (o1, .inl (ty 0, 1728, .inl (kN O))), (o2, .inl (ty 0, 1728, .inl (kN T))), (go, .inl (ty 0, 576, .inl (kN (kfill (kg C A) F (W * H))))), (gt, .inl (ty 0, 576, .inl (kN (kfill (kg C B) G (W * H))))), (po, .inl (ty 0, 576, .inl (kN P0)))]) [1, 2, 3, 4, 5, 0] rfl rfl ?_
  refine j_aload_n (pc' := 10) Cx dX5_signs_9 rfl rfl rfl ?_
  refine j_aload_n (pc' := 11) Cx dX5_signs_10 rfl rfl rfl ?_
  refine j_get (pc' := 14) (N := 15) Cx dX5_signs_11 rfl kin_X5_signs_X5 kfl_X5_signs_16 0 rfl rfl 8 rfl rfl rfl ?_
  refine j_aload_n (pc' := 15) Cx dX5_signs_14 rfl rfl rfl ?_
  refine j_get (pc' := 18) (N := 15) Cx dX5_signs_15 rfl kin_X5_signs_X5 kfl_X5_signs_22 0 rfl rfl 10 rfl rfl rfl ?_
  refine j_callV (pc' := 21) (wr := [(o1, .inl (ty 0, 1728, .inl (kN O))), (o2, .inl (ty 0, 1728, .inl (kN T))), (gt, .inl (ty 0, 576, .inl (kN (kfill (kg C B) G (W * H)))))]) (st := []) Cx dX5_signs_18 rfl (c_X5_number l D ty m o1 o2 go gt po pt my no so W H C W H (nI 0) hW hH hW1 hH1 h1 h3 L M hL hML go po A (kfill (kg C A) F (W * H)) P0 hF0 hFa) gX5_signs_X5_number rfl khd_X5_number rfl ⟨rfl, rfl, Nat.le_of_ble_eq_true rfl, Nat.le_of_ble_eq_true rfl⟩ [0, 3, 5] [1, 2, 4] rfl rfl ⟨rfl, rfl⟩ (by decide) 0 rfl rfl rfl (Nat.le_of_ble_eq_true rfl) ⟨Nat.le_of_ble_eq_true rfl, Nat.le_of_ble_eq_true rfl⟩ (fun v u hpost => ?_)
  obtain ⟨rfl, Q1, hQ1f, hQ1x, rfl⟩ := hpost
  show J X [(o1, .inl (ty 0, 1728, .inl (kN O))), (o2, .inl (ty 0, 1728, .inl (kN T))), (gt, .inl (ty 0, 576, .inl (kN (kfill (kg C B) G (W * H))))), (m, .inr (5, [.int (nI W), .int (nI H), .int (nI C), .int (nI 0), .ref o1, .ref o2, .int (nI W), .int (nI H), .ref go, .ref gt, .ref po, .ref pt, .ref my, .ref no, .ref so])), (go, .inl (ty 0, 576, .inl (kN (kfill (kg C A) F (W * H))))), (po, .inl (ty 0, 576, .inl (kN Q1)))] [(0, .ref m), (1, .int (b))] 21 [] 0 0
  refine J.sub (ws' := [(m, .inr (5, [.int (nI W), .int (nI H), .int (nI C), .int (nI 0), .ref o1, .ref o2, .int (nI W), .int (nI H), .ref go, .ref gt, .ref po, .ref pt, .ref my, .ref no, .ref so])), (o1, .inl (ty 0, 1728, .inl (kN O))), (o2, .inl (ty 0, 1728, .inl (kN T))), (go, .inl (ty 0, 576, .inl (kN (kfill (kg C A) F (W * H))))), (gt, .inl (ty 0, 576, .inl (kN (kfill (kg C B) G (W * H))))), (po, .inl (ty 0, 576, .inl (kN Q1)))]) [3, 0, 1, 4, 2, 5] rfl rfl ?_
  refine j_iload_n (pc' := 22) Cx dX5_signs_21 rfl rfl rfl ?_
  refine j_if_eq (tgt := 34) (pc' := 25) Cx dX5_signs_22 (by decide) rfl (fun hh => absurd hh (hb)) (fun _ => ?_)
  refine j_aload_n (pc' := 26) Cx dX5_signs_25 rfl rfl rfl ?_
  refine j_aload_n (pc' := 27) Cx dX5_signs_26 rfl rfl rfl ?_
  refine j_get (pc' := 30) (N := 15) Cx dX5_signs_27 rfl kin_X5_signs_X5 kfl_X5_signs_22 0 rfl rfl 10 rfl rfl rfl ?_
  refine j_callV (pc' := 33) (wr := [(o1, .inl (ty 0, 1728, .inl (kN O))), (o2, .inl (ty 0, 1728, .inl (kN T))), (go, .inl (ty 0, 576, .inl (kN (kfill (kg C A) F (W * H))))), (gt, .inl (ty 0, 576, .inl (kN (kfill (kg C B) G (W * H)))))]) (st := []) Cx dX5_signs_30 rfl (c_X5_count l D ty m o1 o2 go gt po pt my no so W H C W H (nI 0) hW hH hW1 hH1 h1 h3 po Q1 (fun p hp => kRf_le hQ1f hp)) gX5_signs_X5_count rfl khd_X5_count rfl ⟨rfl, rfl, Nat.le_of_ble_eq_true rfl, Nat.le_of_ble_eq_true rfl⟩ [0, 5] [1, 2, 3, 4] rfl rfl ⟨rfl, rfl⟩ (by decide) 0 rfl rfl rfl (Nat.le_of_ble_eq_true rfl) ⟨Nat.le_of_ble_eq_true rfl, Nat.le_of_ble_eq_true rfl⟩ (fun v u hpost => ?_)
  obtain ⟨r, rfl, rfl, rfl⟩ := hpost
  show J X [(o1, .inl (ty 0, 1728, .inl (kN O))), (o2, .inl (ty 0, 1728, .inl (kN T))), (go, .inl (ty 0, 576, .inl (kN (kfill (kg C A) F (W * H))))), (gt, .inl (ty 0, 576, .inl (kN (kfill (kg C B) G (W * H))))), (m, .inr (5, [.int (nI W), .int (nI H), .int (nI C), .int (nI 0), .ref o1, .ref o2, .int (nI W), .int (nI H), .ref go, .ref gt, .ref po, .ref pt, .ref my, .ref no, .ref so])), (po, .inl (ty 0, 576, .inl (kN Q1)))] [(0, .ref m), (1, .int (b))] 33 [.int (nI (kct (fun q => decide (Q1 q = q + 1)) (W * H)))] 0 0
  refine J.sub (ws' := [(m, .inr (5, [.int (nI W), .int (nI H), .int (nI C), .int (nI 0), .ref o1, .ref o2, .int (nI W), .int (nI H), .ref go, .ref gt, .ref po, .ref pt, .ref my, .ref no, .ref so])), (o1, .inl (ty 0, 1728, .inl (kN O))), (o2, .inl (ty 0, 1728, .inl (kN T))), (go, .inl (ty 0, 576, .inl (kN (kfill (kg C A) F (W * H))))), (gt, .inl (ty 0, 576, .inl (kN (kfill (kg C B) G (W * H))))), (po, .inl (ty 0, 576, .inl (kN Q1)))]) [4, 0, 1, 2, 3, 5] rfl rfl ?_
  exact j_iret Cx dX5_signs_33 R0 ⟨Nat.le_of_ble_eq_true rfl, Nat.le_of_ble_eq_true rfl⟩ (⟨_, rfl, Q1, hQ1f, hQ1x, rfl, kfill (kg C A) F (W * H), kfill (kg C B) G (W * H), W, H, hF0, hG0, rfl⟩)

set_option maxHeartbeats 4000000 in
set_option maxRecDepth 100000 in
/-- told 4, of the other one -/
theorem c_X5_told_4 (l : Launch) (D : va_G) (ty : Nat → ClassId) (m o1 o2 go gt po pt my no so W H C : Nat) (nw nh : Nat) (fa : Int32) (hW : W ≤ 24) (hH : H ≤ 24) (hW1 : 1 ≤ W) (hH1 : 1 ≤ H) (h1 : 1 ≤ C) (h3 : C ≤ 3) (L M : Nat) (hL : L = W + 2) (hML : M = L * (H + 2)) (O T A B : Nat → Nat) (hO : ∀ i, O i < 256) (hT : ∀ i, T i < 256) (hrA : krel C (W * H) O A) (hrB : krel C (W * H) T B) (F G : Nat → Nat) (hF : ∀ i, F i < 256) (hG : ∀ i, G i < 256) (hA : ∀ i, A i < 256) (hB : ∀ i, B i < 256) (P0 : Nat → Nat) : KM l yX5_told wsX5_told { frames := 4, cells := 0, slots := 0, locals := 160 } D ty [.ref m, .int (nI 4)] [(m, .inr (5, [.int (nI W), .int (nI H), .int (nI C), .int (fa), .ref o1, .ref o2, .int (nI nw), .int (nI nh), .ref go, .ref gt, .ref po, .ref pt, .ref my, .ref no, .ref so])), (o1, .inl (ty 0, 1728, .inl (kN O))), (o2, .inl (ty 0, 1728, .inl (kN T))), (go, .inl (ty 0, 576, .inl (kN F))), (gt, .inl (ty 0, 576, .inl (kN G))), (pt, .inl (ty 0, 576, .inl (kN P0)))] (kI (fun r u => ∃ Q1 : Nat → Nat, kRf W H L M (kblk W H L C B) Q1 ∧ kRx W H L (kblk W H L C B) Q1 ∧ r = nI (kct (fun q => decide (Q1 q = q + 1)) (W * H)) ∧ ∃ (F2 G2 : Nat → Nat) (nw2 nh2 : Nat), (∀ i, F2 i < 256) ∧ (∀ i, G2 i < 256) ∧ u = [(m, .inr (5, [.int (nI W), .int (nI H), .int (nI C), .int (nI 0), .ref o1, .ref o2, .int (nI nw2), .int (nI nh2), .ref go, .ref gt, .ref po, .ref pt, .ref my, .ref no, .ref so])), (o1, .inl (ty 0, 1728, .inl (kN O))), (o2, .inl (ty 0, 1728, .inl (kN T))), (go, .inl (ty 0, 576, .inl (kN F2))), (gt, .inl (ty 0, 576, .inl (kN G2))), (pt, .inl (ty 0, 576, .inl (kN Q1)))])) 0 0 := by
  refine KM.of (cc := cX5_told) (maxL := 2) (ret := (some .int)) (lv := [(0, .ref m), (1, .int (nI 4))]) (by decide +kernel) rfl rfl rfl (fun X C0 R0 => ?_)
  have Cx : kC X cX5_told wsX5_told RX5 { frames := 4, cells := 0, slots := 0, locals := 160 } "told" l D ty 2 := C0
  have hwh := k_wh hW hH
  have hgA := fun p => kg_lt (C := C) hA p
  have hgB := fun p => kg_lt (C := C) hB p
  have hF0 : ∀ i, (kfill (kg C A) F (W * H)) i < 256 := kfill_lt hgA hF (W * H)
  have hG0 : ∀ i, (kfill (kg C B) G (W * H)) i < 256 := kfill_lt hgB hG (W * H)
  have hFa : ∀ i, i < W * H → (kfill (kg C A) F (W * H)) i = kg C A i := fun i hi => kfill_in hi
  have hGa : ∀ i, i < W * H → (kfill (kg C B) G (W * H)) i = kg C B i := fun i hi => kfill_in hi
  refine j_aload_n (pc' := 1) Cx dX5_told_0 rfl rfl rfl ?_
  refine j_iconst (pc' := 2) (v := (nI 0)) Cx dX5_told_1 rfl (by decide) ?_
  refine j_put (pc' := 5) (N := 15) (t := .int) (ws' := [(m, .inr (5, [.int (nI W), .int (nI H), .int (nI C), .int (nI 0), .ref o1, .ref o2, .int (nI nw), .int (nI nh), .ref go, .ref gt, .ref po, .ref pt, .ref my, .ref no, .ref so])), (o1, .inl (ty 0, 1728, .inl (kN O))), (o2, .inl (ty 0, 1728, .inl (kN T))), (go, .inl (ty 0, 576, .inl (kN F))), (gt, .inl (ty 0, 576, .inl (kN G))), (pt, .inl (ty 0, 576, .inl (kN P0)))]) Cx dX5_told_2 rfl kin_X5_told_X5 kfl_X5_told_48 tyX5_ok nmX5 0 rfl rfl 3 rfl rfl rfl rfl rfl rfl rfl ?_
  refine j_iload_n (pc' := 6) Cx dX5_told_5 rfl rfl rfl ?_
  refine j_iconst (pc' := 7) (v := (nI 4)) Cx dX5_told_6 rfl (by decide) ?_
  refine j_icmp_ne_n (tgt := 35) (pc' := 10) Cx dX5_told_7 (by decide) rfl (by omega) (by omega) (fun hh => absurd hh (not_not_intro rfl)) (fun _ => ?_)
  refine j_aload_n (pc' := 11) Cx dX5_told_10 rfl rfl rfl ?_
  refine j_callV (pc' := 14) (wr := [(pt, .inl (ty 0, 576, .inl (kN P0)))]) (st := []) Cx dX5_told_11 rfl (c_X5_makeGrey l D ty m o1 o2 go gt po pt my no so W H C nw nh (nI 0) hW hH hW1 hH1 h1 h3 O T A B hO hT hrA hrB F G) gX5_told_X5_makeGrey rfl khd_X5_makeGrey rfl ⟨rfl, rfl, Nat.le_of_ble_eq_true rfl, Nat.le_of_ble_eq_true rfl⟩ [0, 1, 2, 3, 4] [5] rfl rfl ⟨rfl, rfl⟩ (by decide) 0 rfl rfl rfl (Nat.le_of_ble_eq_true rfl) ⟨Nat.le_of_ble_eq_true rfl, Nat.le_of_ble_eq_true rfl⟩ (fun v u hpost => ?_)
  obtain ⟨rfl, rfl⟩ := hpost
  show J X [(pt, .inl (ty 0, 576, .inl (kN P0))), (m, .inr (5, [.int (nI W), .int (nI H), .int (nI C), .int (nI 0), .ref o1, .ref o2, .int (nI W), .int (nI H), .ref go, .ref gt, .ref po, .ref pt, .ref my, .ref no, .ref so])), (o1, .inl (ty 0, 1728, .inl (kN O))), (o2, .inl (ty 0, 1728, .inl (kN T))), (go, .inl (ty 0, 576, .inl (kN (kfill (kg C A) F (W * H))))), (gt, .inl (ty 0, 576, .inl (kN (kfill (kg C B) G (W * H)))))] [(0, .ref m), (1, .int (nI 4))] 14 [] 0 0
  refine J.sub (ws' := [(m, .inr (5, [.int (nI W), .int (nI H), .int (nI C), .int (nI 0), .ref o1, .ref o2, .int (nI W), .int (nI H), .ref go, .ref gt, .ref po, .ref pt, .ref my, .ref no, .ref so])), (o1, .inl (ty 0, 1728, .inl (kN O))), (o2, .inl (ty 0, 1728, .inl (kN T))), (go, .inl (ty 0, 576, .inl (kN (kfill (kg C A) F (W * H))))), (gt, .inl (ty 0, 576, .inl (kN (kfill (kg C B) G (W * H))))), (pt, .inl (ty 0, 576, .inl (kN P0)))]) [1, 2, 3, 4, 5, 0] rfl rfl ?_
  refine j_aload_n (pc' := 15) Cx dX5_told_14 rfl rfl rfl ?_
  refine j_aload_n (pc' := 16) Cx dX5_told_15 rfl rfl rfl ?_
  refine j_get (pc' := 19) (N := 15) Cx dX5_told_16 rfl kin_X5_told_X5 kfl_X5_told_19 0 rfl rfl 9 rfl rfl rfl ?_
  refine j_aload_n (pc' := 20) Cx dX5_told_19 rfl rfl rfl ?_
  refine j_get (pc' := 23) (N := 15) Cx dX5_told_20 rfl kin_X5_told_X5 kfl_X5_told_25 0 rfl rfl 11 rfl rfl rfl ?_
  refine j_callV (pc' := 26) (wr := [(o1, .inl (ty 0, 1728, .inl (kN O))), (o2, .inl (ty 0, 1728, .inl (kN T))), (go, .inl (ty 0, 576, .inl (kN (kfill (kg C A) F (W * H)))))]) (st := []) Cx dX5_told_23 rfl (c_X5_number l D ty m o1 o2 go gt po pt my no so W H C W H (nI 0) hW hH hW1 hH1 h1 h3 L M hL hML gt pt B (kfill (kg C B) G (W * H)) P0 hG0 hGa) gX5_told_X5_number rfl khd_X5_number rfl ⟨rfl, rfl, Nat.le_of_ble_eq_true rfl, Nat.le_of_ble_eq_true rfl⟩ [0, 4, 5] [1, 2, 3] rfl rfl ⟨rfl, rfl⟩ (by decide) 0 rfl rfl rfl (Nat.le_of_ble_eq_true rfl) ⟨Nat.le_of_ble_eq_true rfl, Nat.le_of_ble_eq_true rfl⟩ (fun v u hpost => ?_)
  obtain ⟨rfl, Q1, hQ1f, hQ1x, rfl⟩ := hpost
  show J X [(o1, .inl (ty 0, 1728, .inl (kN O))), (o2, .inl (ty 0, 1728, .inl (kN T))), (go, .inl (ty 0, 576, .inl (kN (kfill (kg C A) F (W * H))))), (m, .inr (5, [.int (nI W), .int (nI H), .int (nI C), .int (nI 0), .ref o1, .ref o2, .int (nI W), .int (nI H), .ref go, .ref gt, .ref po, .ref pt, .ref my, .ref no, .ref so])), (gt, .inl (ty 0, 576, .inl (kN (kfill (kg C B) G (W * H))))), (pt, .inl (ty 0, 576, .inl (kN Q1)))] [(0, .ref m), (1, .int (nI 4))] 26 [] 0 0
  refine J.sub (ws' := [(m, .inr (5, [.int (nI W), .int (nI H), .int (nI C), .int (nI 0), .ref o1, .ref o2, .int (nI W), .int (nI H), .ref go, .ref gt, .ref po, .ref pt, .ref my, .ref no, .ref so])), (o1, .inl (ty 0, 1728, .inl (kN O))), (o2, .inl (ty 0, 1728, .inl (kN T))), (go, .inl (ty 0, 576, .inl (kN (kfill (kg C A) F (W * H))))), (gt, .inl (ty 0, 576, .inl (kN (kfill (kg C B) G (W * H))))), (pt, .inl (ty 0, 576, .inl (kN Q1)))]) [3, 0, 1, 2, 4, 5] rfl rfl ?_
  refine j_aload_n (pc' := 27) Cx dX5_told_26 rfl rfl rfl ?_
  refine j_aload_n (pc' := 28) Cx dX5_told_27 rfl rfl rfl ?_
  refine j_get (pc' := 31) (N := 15) Cx dX5_told_28 rfl kin_X5_told_X5 kfl_X5_told_25 0 rfl rfl 11 rfl rfl rfl ?_
  refine j_callV (pc' := 34) (wr := [(o1, .inl (ty 0, 1728, .inl (kN O))), (o2, .inl (ty 0, 1728, .inl (kN T))), (go, .inl (ty 0, 576, .inl (kN (kfill (kg C A) F (W * H))))), (gt, .inl (ty 0, 576, .inl (kN (kfill (kg C B) G (W * H)))))]) (st := []) Cx dX5_told_31 rfl (c_X5_count l D ty m o1 o2 go gt po pt my no so W H C W H (nI 0) hW hH hW1 hH1 h1 h3 pt Q1 (fun p hp => kRf_le hQ1f hp)) gX5_told_X5_count rfl khd_X5_count rfl ⟨rfl, rfl, Nat.le_of_ble_eq_true rfl, Nat.le_of_ble_eq_true rfl⟩ [0, 5] [1, 2, 3, 4] rfl rfl ⟨rfl, rfl⟩ (by decide) 0 rfl rfl rfl (Nat.le_of_ble_eq_true rfl) ⟨Nat.le_of_ble_eq_true rfl, Nat.le_of_ble_eq_true rfl⟩ (fun v u hpost => ?_)
  obtain ⟨r, rfl, rfl, rfl⟩ := hpost
  show J X [(o1, .inl (ty 0, 1728, .inl (kN O))), (o2, .inl (ty 0, 1728, .inl (kN T))), (go, .inl (ty 0, 576, .inl (kN (kfill (kg C A) F (W * H))))), (gt, .inl (ty 0, 576, .inl (kN (kfill (kg C B) G (W * H))))), (m, .inr (5, [.int (nI W), .int (nI H), .int (nI C), .int (nI 0), .ref o1, .ref o2, .int (nI W), .int (nI H), .ref go, .ref gt, .ref po, .ref pt, .ref my, .ref no, .ref so])), (pt, .inl (ty 0, 576, .inl (kN Q1)))] [(0, .ref m), (1, .int (nI 4))] 34 [.int (nI (kct (fun q => decide (Q1 q = q + 1)) (W * H)))] 0 0
  refine J.sub (ws' := [(m, .inr (5, [.int (nI W), .int (nI H), .int (nI C), .int (nI 0), .ref o1, .ref o2, .int (nI W), .int (nI H), .ref go, .ref gt, .ref po, .ref pt, .ref my, .ref no, .ref so])), (o1, .inl (ty 0, 1728, .inl (kN O))), (o2, .inl (ty 0, 1728, .inl (kN T))), (go, .inl (ty 0, 576, .inl (kN (kfill (kg C A) F (W * H))))), (gt, .inl (ty 0, 576, .inl (kN (kfill (kg C B) G (W * H))))), (pt, .inl (ty 0, 576, .inl (kN Q1)))]) [4, 0, 1, 2, 3, 5] rfl rfl ?_
  exact j_iret Cx dX5_told_34 R0 ⟨Nat.le_of_ble_eq_true rfl, Nat.le_of_ble_eq_true rfl⟩ (⟨_, rfl, Q1, hQ1f, hQ1x, rfl, kfill (kg C A) F (W * H), kfill (kg C B) G (W * H), W, H, hF0, hG0, rfl⟩)

set_option maxHeartbeats 4000000 in
set_option maxRecDepth 100000 in
/-- signs kept, of the other one -/
theorem c_X5_signs_kept (l : Launch) (D : va_G) (ty : Nat → ClassId) (m o1 o2 go gt po pt my no so W H C : Nat) (nw nh : Nat) (fa : Int32) (hW : W ≤ 24) (hH : H ≤ 24) (hW1 : 1 ≤ W) (hH1 : 1 ≤ H) (h1 : 1 ≤ C) (h3 : C ≤ 3) (L M : Nat) (hL : L = W + 2) (hML : M = L * (H + 2)) (O T A B : Nat → Nat) (hO : ∀ i, O i < 256) (hT : ∀ i, T i < 256) (hrA : krel C (W * H) O A) (hrB : krel C (W * H) T B) (F G : Nat → Nat) (hF : ∀ i, F i < 256) (hG : ∀ i, G i < 256) (hA : ∀ i, A i < 256) (hB : ∀ i, B i < 256) (P0 P1 : Nat → Nat) (b : Int32) (hb : b = 0) : KM l yX5_signs wsX5_signs { frames := 4, cells := 0, slots := 0, locals := 160 } D ty [.ref m, .int (b)] [(m, .inr (5, [.int (nI W), .int (nI H), .int (nI C), .int (fa), .ref o1, .ref o2, .int (nI nw), .int (nI nh), .ref go, .ref gt, .ref po, .ref pt, .ref my, .ref no, .ref so])), (o1, .inl (ty 0, 1728, .inl (kN O))), (o2, .inl (ty 0, 1728, .inl (kN T))), (go, .inl (ty 0, 576, .inl (kN F))), (gt, .inl (ty 0, 576, .inl (kN G))), (po, .inl (ty 0, 576, .inl (kN P0))), (pt, .inl (ty 0, 576, .inl (kN P1)))] (kI (fun r u => ∃ Q1 Q2 : Nat → Nat, kRf W H L M (kblk W H L C A) Q1 ∧ kRx W H L (kblk W H L C A) Q1 ∧ kRf W H L M (kblk W H L C B) Q2 ∧ kRx W H L (kblk W H L C B) Q2 ∧ r = nI (kct (fun p => decide (Q1 p = p + 1) && decide (kall (fun q => decide (Q1 q = p + 1 ↔ Q2 q = p + 1)) (W * H) = 1)) (W * H)) ∧ ∃ (F2 G2 : Nat → Nat) (nw2 nh2 : Nat), (∀ i, F2 i < 256) ∧ (∀ i, G2 i < 256) ∧ u = [(m, .inr (5, [.int (nI W), .int (nI H), .int (nI C), .int (nI 0), .ref o1, .ref o2, .int (nI nw2), .int (nI nh2), .ref go, .ref gt, .ref po, .ref pt, .ref my, .ref no, .ref so])), (o1, .inl (ty 0, 1728, .inl (kN O))), (o2, .inl (ty 0, 1728, .inl (kN T))), (go, .inl (ty 0, 576, .inl (kN F2))), (gt, .inl (ty 0, 576, .inl (kN G2))), (po, .inl (ty 0, 576, .inl (kN Q1))), (pt, .inl (ty 0, 576, .inl (kN Q2)))])) 0 0 := by
  refine KM.of (cc := cX5_signs) (maxL := 4) (ret := (some .int)) (lv := [(0, .ref m), (1, .int (b))]) (by decide +kernel) rfl rfl rfl (fun X C0 R0 => ?_)
  have Cx : kC X cX5_signs wsX5_signs RX5 { frames := 4, cells := 0, slots := 0, locals := 160 } "signs" l D ty 4 := C0
  have hwh := k_wh hW hH
  have hgA := fun p => kg_lt (C := C) hA p
  have hgB := fun p => kg_lt (C := C) hB p
  have hF0 : ∀ i, (kfill (kg C A) F (W * H)) i < 256 := kfill_lt hgA hF (W * H)
  have hG0 : ∀ i, (kfill (kg C B) G (W * H)) i < 256 := kfill_lt hgB hG (W * H)
  have hFa : ∀ i, i < W * H → (kfill (kg C A) F (W * H)) i = kg C A i := fun i hi => kfill_in hi
  have hGa : ∀ i, i < W * H → (kfill (kg C B) G (W * H)) i = kg C B i := fun i hi => kfill_in hi
  refine j_aload_n (pc' := 1) Cx dX5_signs_0 rfl rfl rfl ?_
  refine j_iconst (pc' := 2) (v := (nI 0)) Cx dX5_signs_1 rfl (by decide) ?_
  refine j_put (pc' := 5) (N := 15) (t := .int) (ws' := [(m, .inr (5, [.int (nI W), .int (nI H), .int (nI C), .int (nI 0), .ref o1, .ref o2, .int (nI nw), .int (nI nh), .ref go, .ref gt, .ref po, .ref pt, .ref my, .ref no, .ref so])), (o1, .inl (ty 0, 1728, .inl (kN O))), (o2, .inl (ty 0, 1728, .inl (kN T))), (go, .inl (ty 0, 576, .inl (kN F))), (gt, .inl (ty 0, 576, .inl (kN G))), (po, .inl (ty 0, 576, .inl (kN P0))), (pt, .inl (ty 0, 576, .inl (kN P1)))]) Cx dX5_signs_2 rfl kin_X5_signs_X5 kfl_X5_signs_48 tyX5_ok nmX5 0 rfl rfl 3 rfl rfl rfl rfl rfl rfl rfl ?_
  refine j_aload_n (pc' := 6) Cx dX5_signs_5 rfl rfl rfl ?_
  refine j_callV (pc' := 9) (wr := [(po, .inl (ty 0, 576, .inl (kN P0))), (pt, .inl (ty 0, 576, .inl (kN P1)))]) (st := []) Cx dX5_signs_6 rfl (c_X5_makeGrey l D ty m o1 o2 go gt po pt my no so W H C nw nh (nI 0) hW hH hW1 hH1 h1 h3 O T A B hO hT hrA hrB F G) gX5_signs_X5_makeGrey rfl khd_X5_makeGrey rfl ⟨rfl, rfl, Nat.le_of_ble_eq_true rfl, Nat.le_of_ble_eq_true rfl⟩ [0, 1, 2, 3, 4] [5, 6] rfl rfl ⟨rfl, rfl⟩ (by decide) 0 rfl rfl rfl (Nat.le_of_ble_eq_true rfl) ⟨Nat.le_of_ble_eq_true rfl, Nat.le_of_ble_eq_true rfl⟩ (fun v u hpost => ?_)
  obtain ⟨rfl, rfl⟩ := hpost
  show J X [(po, .inl (ty 0, 576, .inl (kN P0))), (pt, .inl (ty 0, 576, .inl (kN P1))), (m, .inr (5, [.int (nI W), .int (nI H), .int (nI C), .int (nI 0), .ref o1, .ref o2, .int (nI W), .int (nI H), .ref go, .ref gt, .ref po, .ref pt, .ref my, .ref no, .ref so])), (o1, .inl (ty 0, 1728, .inl (kN O))), (o2, .inl (ty 0, 1728, .inl (kN T))), (go, .inl (ty 0, 576, .inl (kN (kfill (kg C A) F (W * H))))), (gt, .inl (ty 0, 576, .inl (kN (kfill (kg C B) G (W * H)))))] [(0, .ref m), (1, .int (b))] 9 [] 0 0
  refine J.sub (ws' := [(m, .inr (5, [.int (nI W), .int (nI H), .int (nI C), .int (nI 0), .ref o1, .ref o2, .int (nI W), .int (nI H), .ref go, .ref gt, .ref po, .ref pt, .ref my, .ref no, .ref so])), (o1, .inl (ty 0, 1728, .inl (kN O))), (o2, .inl (ty 0, 1728, .inl (kN T))), (go, .inl (ty 0, 576, .inl (kN (kfill (kg C A) F (W * H))))), (gt, .inl (ty 0, 576, .inl (kN (kfill (kg C B) G (W * H))))), (po, .inl (ty 0, 576, .inl (kN P0))), (pt, .inl (ty 0, 576, .inl (kN P1)))]) [2, 3, 4, 5, 6, 0, 1] rfl rfl ?_
  refine j_aload_n (pc' := 10) Cx dX5_signs_9 rfl rfl rfl ?_
  refine j_aload_n (pc' := 11) Cx dX5_signs_10 rfl rfl rfl ?_
  refine j_get (pc' := 14) (N := 15) Cx dX5_signs_11 rfl kin_X5_signs_X5 kfl_X5_signs_16 0 rfl rfl 8 rfl rfl rfl ?_
  refine j_aload_n (pc' := 15) Cx dX5_signs_14 rfl rfl rfl ?_
  refine j_get (pc' := 18) (N := 15) Cx dX5_signs_15 rfl kin_X5_signs_X5 kfl_X5_signs_22 0 rfl rfl 10 rfl rfl rfl ?_
  refine j_callV (pc' := 21) (wr := [(o1, .inl (ty 0, 1728, .inl (kN O))), (o2, .inl (ty 0, 1728, .inl (kN T))), (gt, .inl (ty 0, 576, .inl (kN (kfill (kg C B) G (W * H))))), (pt, .inl (ty 0, 576, .inl (kN P1)))]) (st := []) Cx dX5_signs_18 rfl (c_X5_number l D ty m o1 o2 go gt po pt my no so W H C W H (nI 0) hW hH hW1 hH1 h1 h3 L M hL hML go po A (kfill (kg C A) F (W * H)) P0 hF0 hFa) gX5_signs_X5_number rfl khd_X5_number rfl ⟨rfl, rfl, Nat.le_of_ble_eq_true rfl, Nat.le_of_ble_eq_true rfl⟩ [0, 3, 5] [1, 2, 4, 6] rfl rfl ⟨rfl, rfl⟩ (by decide) 0 rfl rfl rfl (Nat.le_of_ble_eq_true rfl) ⟨Nat.le_of_ble_eq_true rfl, Nat.le_of_ble_eq_true rfl⟩ (fun v u hpost => ?_)
  obtain ⟨rfl, Q1, hQ1f, hQ1x, rfl⟩ := hpost
  show J X [(o1, .inl (ty 0, 1728, .inl (kN O))), (o2, .inl (ty 0, 1728, .inl (kN T))), (gt, .inl (ty 0, 576, .inl (kN (kfill (kg C B) G (W * H))))), (pt, .inl (ty 0, 576, .inl (kN P1))), (m, .inr (5, [.int (nI W), .int (nI H), .int (nI C), .int (nI 0), .ref o1, .ref o2, .int (nI W), .int (nI H), .ref go, .ref gt, .ref po, .ref pt, .ref my, .ref no, .ref so])), (go, .inl (ty 0, 576, .inl (kN (kfill (kg C A) F (W * H))))), (po, .inl (ty 0, 576, .inl (kN Q1)))] [(0, .ref m), (1, .int (b))] 21 [] 0 0
  refine J.sub (ws' := [(m, .inr (5, [.int (nI W), .int (nI H), .int (nI C), .int (nI 0), .ref o1, .ref o2, .int (nI W), .int (nI H), .ref go, .ref gt, .ref po, .ref pt, .ref my, .ref no, .ref so])), (o1, .inl (ty 0, 1728, .inl (kN O))), (o2, .inl (ty 0, 1728, .inl (kN T))), (go, .inl (ty 0, 576, .inl (kN (kfill (kg C A) F (W * H))))), (gt, .inl (ty 0, 576, .inl (kN (kfill (kg C B) G (W * H))))), (po, .inl (ty 0, 576, .inl (kN Q1))), (pt, .inl (ty 0, 576, .inl (kN P1)))]) [4, 0, 1, 5, 2, 6, 3] rfl rfl ?_
  refine j_iload_n (pc' := 22) Cx dX5_signs_21 rfl rfl rfl ?_
  refine j_if_eq (tgt := 34) (pc' := 25) Cx dX5_signs_22 (by decide) rfl (fun _ => ?_) (fun hh => absurd hh (not_not_intro hb))
  refine j_aload_n (pc' := 35) Cx dX5_signs_34 rfl rfl rfl ?_
  refine j_aload_n (pc' := 36) Cx dX5_signs_35 rfl rfl rfl ?_
  refine j_get (pc' := 39) (N := 15) Cx dX5_signs_36 rfl kin_X5_signs_X5 kfl_X5_signs_19 0 rfl rfl 9 rfl rfl rfl ?_
  refine j_aload_n (pc' := 40) Cx dX5_signs_39 rfl rfl rfl ?_
  refine j_get (pc' := 43) (N := 15) Cx dX5_signs_40 rfl kin_X5_signs_X5 kfl_X5_signs_25 0 rfl rfl 11 rfl rfl rfl ?_
  refine j_callV (pc' := 46) (wr := [(o1, .inl (ty 0, 1728, .inl (kN O))), (o2, .inl (ty 0, 1728, .inl (kN T))), (go, .inl (ty 0, 576, .inl (kN (kfill (kg C A) F (W * H))))), (po, .inl (ty 0, 576, .inl (kN Q1)))]) (st := []) Cx dX5_signs_43 rfl (c_X5_number l D ty m o1 o2 go gt po pt my no so W H C W H (nI 0) hW hH hW1 hH1 h1 h3 L M hL hML gt pt B (kfill (kg C B) G (W * H)) P1 hG0 hGa) gX5_signs_X5_number rfl khd_X5_number rfl ⟨rfl, rfl, Nat.le_of_ble_eq_true rfl, Nat.le_of_ble_eq_true rfl⟩ [0, 4, 6] [1, 2, 3, 5] rfl rfl ⟨rfl, rfl⟩ (by decide) 0 rfl rfl rfl (Nat.le_of_ble_eq_true rfl) ⟨Nat.le_of_ble_eq_true rfl, Nat.le_of_ble_eq_true rfl⟩ (fun v u hpost => ?_)
  obtain ⟨rfl, Q2, hQ2f, hQ2x, rfl⟩ := hpost
  show J X [(o1, .inl (ty 0, 1728, .inl (kN O))), (o2, .inl (ty 0, 1728, .inl (kN T))), (go, .inl (ty 0, 576, .inl (kN (kfill (kg C A) F (W * H))))), (po, .inl (ty 0, 576, .inl (kN Q1))), (m, .inr (5, [.int (nI W), .int (nI H), .int (nI C), .int (nI 0), .ref o1, .ref o2, .int (nI W), .int (nI H), .ref go, .ref gt, .ref po, .ref pt, .ref my, .ref no, .ref so])), (gt, .inl (ty 0, 576, .inl (kN (kfill (kg C B) G (W * H))))), (pt, .inl (ty 0, 576, .inl (kN Q2)))] [(0, .ref m), (1, .int (b))] 46 [] 0 0
  refine J.sub (ws' := [(m, .inr (5, [.int (nI W), .int (nI H), .int (nI C), .int (nI 0), .ref o1, .ref o2, .int (nI W), .int (nI H), .ref go, .ref gt, .ref po, .ref pt, .ref my, .ref no, .ref so])), (o1, .inl (ty 0, 1728, .inl (kN O))), (o2, .inl (ty 0, 1728, .inl (kN T))), (go, .inl (ty 0, 576, .inl (kN (kfill (kg C A) F (W * H))))), (gt, .inl (ty 0, 576, .inl (kN (kfill (kg C B) G (W * H))))), (po, .inl (ty 0, 576, .inl (kN Q1))), (pt, .inl (ty 0, 576, .inl (kN Q2)))]) [4, 0, 1, 2, 5, 3, 6] rfl rfl ?_
  refine j_iconst (pc' := 47) (v := (nI 0)) Cx dX5_signs_46 rfl (by decide) ?_
  refine j_istore_n (pc' := 48) (lv' := [(0, .ref m), (1, .int (b)), (2, .int (nI 0))]) Cx dX5_signs_47 rfl rfl (by decide) rfl ?_
  refine j_iconst (pc' := 49) (v := (nI 0)) Cx dX5_signs_48 rfl (by decide) ?_
  refine j_istore_n (pc' := 50) (lv' := [(0, .ref m), (1, .int (b)), (2, .int (nI 0)), (3, .int (nI 0))]) Cx dX5_signs_49 rfl rfl (by decide) rfl ?_
  have LP : ∀ (LP_n : Nat), ∀ (i : Nat), (W * H - i < LP_n) → (i ≤ W * H) → J X [(m, .inr (5, [.int (nI W), .int (nI H), .int (nI C), .int (nI 0), .ref o1, .ref o2, .int (nI W), .int (nI H), .ref go, .ref gt, .ref po, .ref pt, .ref my, .ref no, .ref so])), (o1, .inl (ty 0, 1728, .inl (kN O))), (o2, .inl (ty 0, 1728, .inl (kN T))), (go, .inl (ty 0, 576, .inl (kN (kfill (kg C A) F (W * H))))), (gt, .inl (ty 0, 576, .inl (kN (kfill (kg C B) G (W * H))))), (po, .inl (ty 0, 576, .inl (kN Q1))), (pt, .inl (ty 0, 576, .inl (kN Q2)))] [(0, .ref m), (1, .int (b)), (2, .int (nI (kct (fun p => decide (Q1 p = p + 1) && decide (kall (fun q => decide (Q1 q = p + 1 ↔ Q2 q = p + 1)) (W * H) = 1)) i))), (3, .int (nI i))] 50 [] 0 0 := by
    intro LP_n
    induction LP_n with
    | zero =>
      intro i hms _
      exact absurd hms (Nat.not_lt_zero _)
    | succ LP_n LP_ih =>
      intro i LP_m hle
      have hk0 := kct_le (fun p => decide (Q1 p = p + 1) && decide (kall (fun q => decide (Q1 q = p + 1 ↔ Q2 q = p + 1)) (W * H) = 1)) i
      refine j_iload_n (pc' := 51) Cx dX5_signs_50 rfl rfl rfl ?_
      refine j_aload_n (pc' := 52) Cx dX5_signs_51 rfl rfl rfl ?_
      refine j_callV (pc' := 55) (wr := [(o1, .inl (ty 0, 1728, .inl (kN O))), (o2, .inl (ty 0, 1728, .inl (kN T))), (go, .inl (ty 0, 576, .inl (kN (kfill (kg C A) F (W * H))))), (gt, .inl (ty 0, 576, .inl (kN (kfill (kg C B) G (W * H))))), (po, .inl (ty 0, 576, .inl (kN Q1))), (pt, .inl (ty 0, 576, .inl (kN Q2)))]) (st := [.int (nI i)]) Cx dX5_signs_52 rfl (c_X5_places l D ty m o1 o2 go gt po pt my no so W H C W H (nI 0)) gX5_signs_X5_places rfl khd_X5_places rfl ⟨rfl, rfl, Nat.le_of_ble_eq_true rfl, Nat.le_of_ble_eq_true rfl⟩ [0] [1, 2, 3, 4, 5, 6] rfl rfl ⟨rfl, rfl⟩ (by decide) 0 rfl rfl rfl (Nat.le_of_ble_eq_true rfl) ⟨Nat.le_of_ble_eq_true rfl, Nat.le_of_ble_eq_true rfl⟩ (fun v u hpost => ?_)
      obtain ⟨r, rfl, rfl, rfl⟩ := hpost
      show J X [(o1, .inl (ty 0, 1728, .inl (kN O))), (o2, .inl (ty 0, 1728, .inl (kN T))), (go, .inl (ty 0, 576, .inl (kN (kfill (kg C A) F (W * H))))), (gt, .inl (ty 0, 576, .inl (kN (kfill (kg C B) G (W * H))))), (po, .inl (ty 0, 576, .inl (kN Q1))), (pt, .inl (ty 0, 576, .inl (kN Q2))), (m, .inr (5, [.int (nI W), .int (nI H), .int (nI C), .int (nI 0), .ref o1, .ref o2, .int (nI W), .int (nI H), .ref go, .ref gt, .ref po, .ref pt, .ref my, .ref no, .ref so]))] [(0, .ref m), (1, .int (b)), (2, .int (nI (kct (fun p => decide (Q1 p = p + 1) && decide (kall (fun q => decide (Q1 q = p + 1 ↔ Q2 q = p + 1)) (W * H) = 1)) i))), (3, .int (nI i))] 55 [.int (nI (W * H)), .int (nI i)] 0 0
      refine J.sub (ws' := [(m, .inr (5, [.int (nI W), .int (nI H), .int (nI C), .int (nI 0), .ref o1, .ref o2, .int (nI W), .int (nI H), .ref go, .ref gt, .ref po, .ref pt, .ref my, .ref no, .ref so])), (o1, .inl (ty 0, 1728, .inl (kN O))), (o2, .inl (ty 0, 1728, .inl (kN T))), (go, .inl (ty 0, 576, .inl (kN (kfill (kg C A) F (W * H))))), (gt, .inl (ty 0, 576, .inl (kN (kfill (kg C B) G (W * H))))), (po, .inl (ty 0, 576, .inl (kN Q1))), (pt, .inl (ty 0, 576, .inl (kN Q2)))]) [6, 0, 1, 2, 3, 4, 5] rfl rfl ?_
      refine j_icmp_ge_n (tgt := 94) (pc' := 58) Cx dX5_signs_55 (by decide) rfl (by omega) (by omega) (fun hi => ?_) (fun hi => ?_)
      · have e : i = W * H := by omega
        subst e
        refine j_iload_n (pc' := 95) Cx dX5_signs_94 rfl rfl rfl ?_
        exact j_iret Cx dX5_signs_95 R0 ⟨Nat.le_of_ble_eq_true rfl, Nat.le_of_ble_eq_true rfl⟩ (⟨_, rfl, Q1, Q2, hQ1f, hQ1x, hQ2f, hQ2x, rfl, kfill (kg C A) F (W * H), kfill (kg C B) G (W * H), W, H, hF0, hG0, rfl⟩)
      · have hqi := kRf_le hQ1f hi
        refine j_aload_n (pc' := 59) Cx dX5_signs_58 rfl rfl rfl ?_
        refine j_get (pc' := 62) (N := 15) Cx dX5_signs_59 rfl kin_X5_signs_X5 kfl_X5_signs_22 0 rfl rfl 10 rfl rfl rfl ?_
        refine j_iload_n (pc' := 63) Cx dX5_signs_62 rfl rfl rfl ?_
        refine j_iaload_nn (pc' := 64) Cx dX5_signs_63 rfl 5 rfl (by omega) (by omega) ?_
        refine j_iload_n (pc' := 65) Cx dX5_signs_64 rfl rfl rfl ?_
        refine j_iconst (pc' := 66) (v := (nI 1)) Cx dX5_signs_65 rfl (by decide) ?_
        refine j_iadd_n (pc' := 67) Cx dX5_signs_66 rfl ?_
        refine j_icmp_ne_n (tgt := 86) (pc' := 70) Cx dX5_signs_67 (by decide) rfl (by omega) (by omega) (fun hk => ?_) (fun hk => ?_)
        · refine j_iload_n (pc' := 87) Cx dX5_signs_86 rfl rfl rfl ?_
          refine j_istore_n (pc' := 88) (lv' := [(0, .ref m), (1, .int (b)), (2, .int (nI (kct (fun p => decide (Q1 p = p + 1) && decide (kall (fun q => decide (Q1 q = p + 1 ↔ Q2 q = p + 1)) (W * H) = 1)) i))), (3, .int (nI i))]) Cx dX5_signs_87 rfl rfl (by decide) rfl ?_
          refine j_iinc_n (pc' := 91) (z := 1) (a := i) (lv' := [(0, .ref m), (1, .int (b)), (2, .int (nI (kct (fun p => decide (Q1 p = p + 1) && decide (kall (fun q => decide (Q1 q = p + 1 ↔ Q2 q = p + 1)) (W * H) = 1)) i))), (3, .int (nI (i + 1)))]) Cx dX5_signs_88 rfl rfl (by decide) rfl ?_
          refine j_goto (tgt := 50) Cx dX5_signs_91 (by decide) ?_
          refine J.cast (ws' := [(m, .inr (5, [.int (nI W), .int (nI H), .int (nI C), .int (nI 0), .ref o1, .ref o2, .int (nI W), .int (nI H), .ref go, .ref gt, .ref po, .ref pt, .ref my, .ref no, .ref so])), (o1, .inl (ty 0, 1728, .inl (kN O))), (o2, .inl (ty 0, 1728, .inl (kN T))), (go, .inl (ty 0, 576, .inl (kN (kfill (kg C A) F (W * H))))), (gt, .inl (ty 0, 576, .inl (kN (kfill (kg C B) G (W * H))))), (po, .inl (ty 0, 576, .inl (kN Q1))), (pt, .inl (ty 0, 576, .inl (kN Q2)))]) (lv' := [(0, .ref m), (1, .int (b)), (2, .int (nI (kct (fun p => decide (Q1 p = p + 1) && decide (kall (fun q => decide (Q1 q = p + 1 ↔ Q2 q = p + 1)) (W * H) = 1)) (i + 1)))), (3, .int (nI (i + 1)))]) (pc' := 50) (st' := []) (rfl) (by rw [kct_no (p := (fun p => decide (Q1 p = p + 1) && decide (kall (fun q => decide (Q1 q = p + 1 ↔ Q2 q = p + 1)) (W * H) = 1))) (show (decide (Q1 i = i + 1) && _) = false by rw [decide_eq_false hk]; rfl)]) rfl (rfl) rfl rfl ?_
          exact LP_ih (i + 1) (by omega) (by omega)
        · refine j_aload_n (pc' := 71) Cx dX5_signs_70 rfl rfl rfl ?_
          refine j_iload_n (pc' := 72) Cx dX5_signs_71 rfl rfl rfl ?_
          refine j_iconst (pc' := 73) (v := (nI 1)) Cx dX5_signs_72 rfl (by decide) ?_
          refine j_iadd_n (pc' := 74) Cx dX5_signs_73 rfl ?_
          refine j_callV (pc' := 77) (wr := [(o1, .inl (ty 0, 1728, .inl (kN O))), (o2, .inl (ty 0, 1728, .inl (kN T))), (go, .inl (ty 0, 576, .inl (kN (kfill (kg C A) F (W * H))))), (gt, .inl (ty 0, 576, .inl (kN (kfill (kg C B) G (W * H)))))]) (st := []) Cx dX5_signs_74 rfl (c_X5_isKept l D ty m o1 o2 go gt po pt my no so W H C W H (nI 0) hW hH hW1 hH1 h1 h3 Q1 Q2 (fun p hp => kRf_le hQ1f hp) (fun p hp => kRf_le hQ2f hp) (i + 1) (by omega)) gX5_signs_X5_isKept rfl khd_X5_isKept rfl ⟨rfl, rfl, Nat.le_of_ble_eq_true rfl, Nat.le_of_ble_eq_true rfl⟩ [0, 5, 6] [1, 2, 3, 4] rfl rfl ⟨rfl, rfl⟩ (by decide) 0 rfl rfl rfl (Nat.le_of_ble_eq_true rfl) ⟨Nat.le_of_ble_eq_true rfl, Nat.le_of_ble_eq_true rfl⟩ (fun v u hpost => ?_)
          obtain ⟨r, rfl, rfl, rfl⟩ := hpost
          show J X [(o1, .inl (ty 0, 1728, .inl (kN O))), (o2, .inl (ty 0, 1728, .inl (kN T))), (go, .inl (ty 0, 576, .inl (kN (kfill (kg C A) F (W * H))))), (gt, .inl (ty 0, 576, .inl (kN (kfill (kg C B) G (W * H))))), (m, .inr (5, [.int (nI W), .int (nI H), .int (nI C), .int (nI 0), .ref o1, .ref o2, .int (nI W), .int (nI H), .ref go, .ref gt, .ref po, .ref pt, .ref my, .ref no, .ref so])), (po, .inl (ty 0, 576, .inl (kN Q1))), (pt, .inl (ty 0, 576, .inl (kN Q2)))] [(0, .ref m), (1, .int (b)), (2, .int (nI (kct (fun p => decide (Q1 p = p + 1) && decide (kall (fun q => decide (Q1 q = p + 1 ↔ Q2 q = p + 1)) (W * H) = 1)) i))), (3, .int (nI i))] 77 [.int (nI (kall (fun q => decide (Q1 q = i + 1 ↔ Q2 q = i + 1)) (W * H)))] 0 0
          refine J.sub (ws' := [(m, .inr (5, [.int (nI W), .int (nI H), .int (nI C), .int (nI 0), .ref o1, .ref o2, .int (nI W), .int (nI H), .ref go, .ref gt, .ref po, .ref pt, .ref my, .ref no, .ref so])), (o1, .inl (ty 0, 1728, .inl (kN O))), (o2, .inl (ty 0, 1728, .inl (kN T))), (go, .inl (ty 0, 576, .inl (kN (kfill (kg C A) F (W * H))))), (gt, .inl (ty 0, 576, .inl (kN (kfill (kg C B) G (W * H))))), (po, .inl (ty 0, 576, .inl (kN Q1))), (pt, .inl (ty 0, 576, .inl (kN Q2)))]) [4, 0, 1, 2, 3, 5, 6] rfl rfl ?_
          have h01 := kall_01 (fun q => decide (Q1 q = i + 1 ↔ Q2 q = i + 1)) (W * H)
          refine j_if_eq_n (tgt := 86) (pc' := 80) Cx dX5_signs_77 (by decide) rfl (by omega) (fun hz => ?_) (fun hz => ?_)
          · refine j_iload_n (pc' := 87) Cx dX5_signs_86 rfl rfl rfl ?_
            refine j_istore_n (pc' := 88) (lv' := [(0, .ref m), (1, .int (b)), (2, .int (nI (kct (fun p => decide (Q1 p = p + 1) && decide (kall (fun q => decide (Q1 q = p + 1 ↔ Q2 q = p + 1)) (W * H) = 1)) i))), (3, .int (nI i))]) Cx dX5_signs_87 rfl rfl (by decide) rfl ?_
            refine j_iinc_n (pc' := 91) (z := 1) (a := i) (lv' := [(0, .ref m), (1, .int (b)), (2, .int (nI (kct (fun p => decide (Q1 p = p + 1) && decide (kall (fun q => decide (Q1 q = p + 1 ↔ Q2 q = p + 1)) (W * H) = 1)) i))), (3, .int (nI (i + 1)))]) Cx dX5_signs_88 rfl rfl (by decide) rfl ?_
            refine j_goto (tgt := 50) Cx dX5_signs_91 (by decide) ?_
            refine J.cast (ws' := [(m, .inr (5, [.int (nI W), .int (nI H), .int (nI C), .int (nI 0), .ref o1, .ref o2, .int (nI W), .int (nI H), .ref go, .ref gt, .ref po, .ref pt, .ref my, .ref no, .ref so])), (o1, .inl (ty 0, 1728, .inl (kN O))), (o2, .inl (ty 0, 1728, .inl (kN T))), (go, .inl (ty 0, 576, .inl (kN (kfill (kg C A) F (W * H))))), (gt, .inl (ty 0, 576, .inl (kN (kfill (kg C B) G (W * H))))), (po, .inl (ty 0, 576, .inl (kN Q1))), (pt, .inl (ty 0, 576, .inl (kN Q2)))]) (lv' := [(0, .ref m), (1, .int (b)), (2, .int (nI (kct (fun p => decide (Q1 p = p + 1) && decide (kall (fun q => decide (Q1 q = p + 1 ↔ Q2 q = p + 1)) (W * H) = 1)) (i + 1)))), (3, .int (nI (i + 1)))]) (pc' := 50) (st' := []) (rfl) (by rw [kct_no (p := (fun p => decide (Q1 p = p + 1) && decide (kall (fun q => decide (Q1 q = p + 1 ↔ Q2 q = p + 1)) (W * H) = 1))) (show (decide (Q1 i = i + 1) && decide (kall (fun q => decide (Q1 q = i + 1 ↔ Q2 q = i + 1)) (W * H) = 1)) = false by rw [hz]; exact Bool.and_false _)]) rfl (rfl) rfl rfl ?_
            exact LP_ih (i + 1) (by omega) (by omega)
          · refine j_iload_n (pc' := 81) Cx dX5_signs_80 rfl rfl rfl ?_
            refine j_iconst (pc' := 82) (v := (nI 1)) Cx dX5_signs_81 rfl (by decide) ?_
            refine j_iadd_n (pc' := 83) Cx dX5_signs_82 rfl ?_
            refine j_goto (tgt := 87) Cx dX5_signs_83 (by decide) ?_
            refine j_istore_n (pc' := 88) (lv' := [(0, .ref m), (1, .int (b)), (2, .int (nI ((kct (fun p => decide (Q1 p = p + 1) && decide (kall (fun q => decide (Q1 q = p + 1 ↔ Q2 q = p + 1)) (W * H) = 1)) i) + 1))), (3, .int (nI i))]) Cx dX5_signs_87 rfl rfl (by decide) rfl ?_
            refine j_iinc_n (pc' := 91) (z := 1) (a := i) (lv' := [(0, .ref m), (1, .int (b)), (2, .int (nI ((kct (fun p => decide (Q1 p = p + 1) && decide (kall (fun q => decide (Q1 q = p + 1 ↔ Q2 q = p + 1)) (W * H) = 1)) i) + 1))), (3, .int (nI (i + 1)))]) Cx dX5_signs_88 rfl rfl (by decide) rfl ?_
            refine j_goto (tgt := 50) Cx dX5_signs_91 (by decide) ?_
            refine J.cast (ws' := [(m, .inr (5, [.int (nI W), .int (nI H), .int (nI C), .int (nI 0), .ref o1, .ref o2, .int (nI W), .int (nI H), .ref go, .ref gt, .ref po, .ref pt, .ref my, .ref no, .ref so])), (o1, .inl (ty 0, 1728, .inl (kN O))), (o2, .inl (ty 0, 1728, .inl (kN T))), (go, .inl (ty 0, 576, .inl (kN (kfill (kg C A) F (W * H))))), (gt, .inl (ty 0, 576, .inl (kN (kfill (kg C B) G (W * H))))), (po, .inl (ty 0, 576, .inl (kN Q1))), (pt, .inl (ty 0, 576, .inl (kN Q2)))]) (lv' := [(0, .ref m), (1, .int (b)), (2, .int (nI (kct (fun p => decide (Q1 p = p + 1) && decide (kall (fun q => decide (Q1 q = p + 1 ↔ Q2 q = p + 1)) (W * H) = 1)) (i + 1)))), (3, .int (nI (i + 1)))]) (pc' := 50) (st' := []) (rfl) (by rw [kct_yes (p := (fun p => decide (Q1 p = p + 1) && decide (kall (fun q => decide (Q1 q = p + 1 ↔ Q2 q = p + 1)) (W * H) = 1))) (show (decide (Q1 i = i + 1) && decide (kall (fun q => decide (Q1 q = i + 1 ↔ Q2 q = i + 1)) (W * H) = 1)) = true by rw [decide_eq_true hk, decide_eq_true (h01.resolve_left hz)]; rfl)]) rfl (rfl) rfl rfl ?_
            exact LP_ih (i + 1) (by omega) (by omega)
  exact LP (W * H + 1) 0 (by omega) (Nat.zero_le _)

set_option maxHeartbeats 4000000 in
set_option maxRecDepth 100000 in
theorem c_X5_told (l : Launch) (D : va_G) (ty : Nat → ClassId) (m o1 o2 go gt po pt my no so W H C : Nat) (nw nh : Nat) (fa : Int32) (hW : W ≤ 24) (hH : H ≤ 24) (hW1 : 1 ≤ W) (hH1 : 1 ≤ H) (h1 : 1 ≤ C) (h3 : C ≤ 3) (x : Int32) (h4 : ¬ x = nI 4) : KM l yX5_told wsX5_told { frames := 4, cells := 0, slots := 0, locals := 160 } D ty [.ref m, .int (x)] [(m, .inr (5, [.int (nI W), .int (nI H), .int (nI C), .int (fa), .ref o1, .ref o2, .int (nI nw), .int (nI nh), .ref go, .ref gt, .ref po, .ref pt, .ref my, .ref no, .ref so]))] (kI (fun r u => r = (if x = nI 0 then nI W else if x = nI 1 then nI H else if x = nI 2 then nI C else if x = nI 3 then nI (kscale W H) else -1) ∧ u = [(m, .inr (5, [.int (nI W), .int (nI H), .int (nI C), .int (nI 0), .ref o1, .ref o2, .int (nI nw), .int (nI nh), .ref go, .ref gt, .ref po, .ref pt, .ref my, .ref no, .ref so]))])) 0 0 := by
  refine KM.of (cc := cX5_told) (maxL := 2) (ret := (some .int)) (lv := [(0, .ref m), (1, .int (x))]) (by decide +kernel) rfl rfl rfl (fun X C0 R0 => ?_)
  have Cx : kC X cX5_told wsX5_told RX5 { frames := 4, cells := 0, slots := 0, locals := 160 } "told" l D ty 2 := C0
  refine j_aload_n (pc' := 1) Cx dX5_told_0 rfl rfl rfl ?_
  refine j_iconst (pc' := 2) (v := (nI 0)) Cx dX5_told_1 rfl (by decide) ?_
  refine j_put (pc' := 5) (N := 15) (t := .int) (ws' := [(m, .inr (5, [.int (nI W), .int (nI H), .int (nI C), .int (nI 0), .ref o1, .ref o2, .int (nI nw), .int (nI nh), .ref go, .ref gt, .ref po, .ref pt, .ref my, .ref no, .ref so]))]) Cx dX5_told_2 rfl kin_X5_told_X5 kfl_X5_told_48 tyX5_ok nmX5 0 rfl rfl 3 rfl rfl rfl rfl rfl rfl rfl ?_
  refine j_iload_n (pc' := 6) Cx dX5_told_5 rfl rfl rfl ?_
  refine j_iconst (pc' := 7) (v := (nI 4)) Cx dX5_told_6 rfl (by decide) ?_
  refine j_icmp_ne (tgt := 35) (pc' := 10) Cx dX5_told_7 (by decide) rfl (fun _ => ?_) (fun hh => absurd hh (h4))
  refine j_iload_n (pc' := 36) Cx dX5_told_35 rfl rfl rfl ?_
  refine j_if_ne (tgt := 46) (pc' := 39) Cx dX5_told_36 (by decide) rfl (fun e0 => ?_) (fun e0 => ?_)
  · refine j_iload_n (pc' := 47) Cx dX5_told_46 rfl rfl rfl ?_
    refine j_iconst (pc' := 48) (v := (nI 1)) Cx dX5_told_47 rfl (by decide) ?_
    refine j_icmp_ne (tgt := 58) (pc' := 51) Cx dX5_told_48 (by decide) rfl (fun e1 => ?_) (fun e1 => ?_)
    · refine j_iload_n (pc' := 59) Cx dX5_told_58 rfl rfl rfl ?_
      refine j_iconst (pc' := 60) (v := (nI 2)) Cx dX5_told_59 rfl (by decide) ?_
      refine j_icmp_ne (tgt := 70) (pc' := 63) Cx dX5_told_60 (by decide) rfl (fun e2 => ?_) (fun e2 => ?_)
      · refine j_iload_n (pc' := 71) Cx dX5_told_70 rfl rfl rfl ?_
        refine j_iconst (pc' := 72) (v := (nI 3)) Cx dX5_told_71 rfl (by decide) ?_
        refine j_icmp_ne (tgt := 82) (pc' := 75) Cx dX5_told_72 (by decide) rfl (fun e3 => ?_) (fun e3 => ?_)
        · refine j_iconst (pc' := 83) (v := (-1)) Cx dX5_told_82 rfl (by decide) ?_
          exact j_iret Cx dX5_told_83 R0 ⟨Nat.le_of_ble_eq_true rfl, Nat.le_of_ble_eq_true rfl⟩ (⟨_, rfl, by rw [if_neg (show ¬ x = nI 0 from e0), if_neg (show ¬ x = nI 1 from e1), if_neg (show ¬ x = nI 2 from e2), if_neg (show ¬ x = nI 3 from e3)], rfl⟩)
        · refine j_aload_n (pc' := 76) Cx dX5_told_75 rfl rfl rfl ?_
          refine j_callV (pc' := 79) (wr := []) (st := []) Cx dX5_told_76 rfl (c_X5_scales l D ty m o1 o2 go gt po pt my no so W H C nw nh (nI 0) hW hH hW1 hH1 h1 h3) gX5_told_X5_scales rfl khd_X5_scales rfl ⟨rfl, rfl, Nat.le_of_ble_eq_true rfl, Nat.le_of_ble_eq_true rfl⟩ [0] [] rfl rfl ⟨rfl, rfl⟩ (by decide) 0 rfl rfl rfl (Nat.le_of_ble_eq_true rfl) ⟨Nat.le_of_ble_eq_true rfl, Nat.le_of_ble_eq_true rfl⟩ (fun v u hpost => ?_)
          obtain ⟨r, rfl, rfl, rfl⟩ := hpost
          show J X [(m, .inr (5, [.int (nI W), .int (nI H), .int (nI C), .int (nI 0), .ref o1, .ref o2, .int (nI nw), .int (nI nh), .ref go, .ref gt, .ref po, .ref pt, .ref my, .ref no, .ref so]))] [(0, .ref m), (1, .int (x))] 79 [.int (nI (kscale W H))] 0 0
          refine j_goto (tgt := 83) Cx dX5_told_79 (by decide) ?_
          exact j_iret Cx dX5_told_83 R0 ⟨Nat.le_of_ble_eq_true rfl, Nat.le_of_ble_eq_true rfl⟩ (⟨_, rfl, by rw [if_neg (show ¬ x = nI 0 from e0), if_neg (show ¬ x = nI 1 from e1), if_neg (show ¬ x = nI 2 from e2), if_pos (show x = nI 3 from e3)], rfl⟩)
      · refine j_aload_n (pc' := 64) Cx dX5_told_63 rfl rfl rfl ?_
        refine j_get (pc' := 67) (N := 15) Cx dX5_told_64 rfl kin_X5_told_X5 kfl_X5_told_45 0 rfl rfl 2 rfl rfl rfl ?_
        refine j_goto (tgt := 83) Cx dX5_told_67 (by decide) ?_
        exact j_iret Cx dX5_told_83 R0 ⟨Nat.le_of_ble_eq_true rfl, Nat.le_of_ble_eq_true rfl⟩ (⟨_, rfl, by rw [if_neg (show ¬ x = nI 0 from e0), if_neg (show ¬ x = nI 1 from e1), if_pos (show x = nI 2 from e2)], rfl⟩)
    · refine j_aload_n (pc' := 52) Cx dX5_told_51 rfl rfl rfl ?_
      refine j_get (pc' := 55) (N := 15) Cx dX5_told_52 rfl kin_X5_told_X5 kfl_X5_told_42 0 rfl rfl 1 rfl rfl rfl ?_
      refine j_goto (tgt := 83) Cx dX5_told_55 (by decide) ?_
      exact j_iret Cx dX5_told_83 R0 ⟨Nat.le_of_ble_eq_true rfl, Nat.le_of_ble_eq_true rfl⟩ (⟨_, rfl, by rw [if_neg (show ¬ x = nI 0 from e0), if_pos (show x = nI 1 from e1)], rfl⟩)
  · refine j_aload_n (pc' := 40) Cx dX5_told_39 rfl rfl rfl ?_
    refine j_get (pc' := 43) (N := 15) Cx dX5_told_40 rfl kin_X5_told_X5 kfl_X5_told_38 0 rfl rfl 0 rfl rfl rfl ?_
    refine j_goto (tgt := 83) Cx dX5_told_43 (by decide) ?_
    exact j_iret Cx dX5_told_83 R0 ⟨Nat.le_of_ble_eq_true rfl, Nat.le_of_ble_eq_true rfl⟩ (⟨_, rfl, by rw [if_pos (show x = nI 0 from e0)], rfl⟩)
