set_option maxHeartbeats 4000000 in
set_option maxRecDepth 100000 in
/-- the mean of a scale, of the other one -/
theorem c_X5_structure_ok (l : Launch) (D : va_G) (ty : Nat → ClassId) (m o1 o2 go gt po pt my no so W H C : Nat) (nw nh : Nat) (fa : Int32) (hW : W ≤ 24) (hH : H ≤ 24) (hW1 : 1 ≤ W) (hH1 : 1 ≤ H) (h1 : 1 ≤ C) (h3 : C ≤ 3) (O T A B : Nat → Nat) (hO : ∀ i, O i < 256) (hT : ∀ i, T i < 256) (hrA : krel C (W * H) O A) (hrB : krel C (W * H) T B) (F G : Nat → Nat) (hF : ∀ i, F i < 256) (hG : ∀ i, G i < 256) (hA : ∀ i, A i < 256) (hB : ∀ i, B i < 256) (k : Nat) (hk : k < kscale W H) : KM l yX5_structure wsX5_structure { frames := 3, cells := 0, slots := 0, locals := 120 } D ty [.ref m, .int (nI k)] [(m, .inr (5, [.int (nI W), .int (nI H), .int (nI C), .int (fa), .ref o1, .ref o2, .int (nI nw), .int (nI nh), .ref go, .ref gt, .ref po, .ref pt, .ref my, .ref no, .ref so])), (o1, .inl (ty 0, 1728, .inl (kN O))), (o2, .inl (ty 0, 1728, .inl (kN T))), (go, .inl (ty 0, 576, .inl (kN F))), (gt, .inl (ty 0, 576, .inl (kN G)))] (kF (fun r u => r = kstr W H (kg C A) (kg C B) k ∧ ∃ (F2 G2 : Nat → Nat) (nw2 nh2 : Nat), (∀ i, F2 i < 256) ∧ (∀ i, G2 i < 256) ∧ u = [(m, .inr (5, [.int (nI W), .int (nI H), .int (nI C), .int (nI 0), .ref o1, .ref o2, .int (nI nw2), .int (nI nh2), .ref go, .ref gt, .ref po, .ref pt, .ref my, .ref no, .ref so])), (o1, .inl (ty 0, 1728, .inl (kN O))), (o2, .inl (ty 0, 1728, .inl (kN T))), (go, .inl (ty 0, 576, .inl (kN F2))), (gt, .inl (ty 0, 576, .inl (kN G2)))])) 0 0 := by
  refine KM.of (cc := cX5_structure) (maxL := 7) (ret := (some .double)) (lv := [(0, .ref m), (1, .int (nI k))]) (by decide +kernel) rfl rfl rfl (fun X C0 R0 => ?_)
  have Cx : kC X cX5_structure wsX5_structure RX5 { frames := 3, cells := 0, slots := 0, locals := 120 } "structure" l D ty 7 := C0
  have hwh := k_wh hW hH
  have hgA := fun p => kg_lt (C := C) hA p
  have hgB := fun p => kg_lt (C := C) hB p
  have hF0 : ∀ i, (kfill (kg C A) F (W * H)) i < 256 := kfill_lt hgA hF (W * H)
  have hG0 : ∀ i, (kfill (kg C B) G (W * H)) i < 256 := kfill_lt hgB hG (W * H)
  have hFa : ∀ i, i < W * H → (kfill (kg C A) F (W * H)) i = kg C A i := fun i hi => kfill_in hi
  have hGa : ∀ i, i < W * H → (kfill (kg C B) G (W * H)) i = kg C B i := fun i hi => kfill_in hi
  have hS3 := kscale_le W H
  have hge : ∀ i, i ≤ k → 5 ≤ W / 2 ^ i ∧ 5 ≤ H / 2 ^ i := fun i hi => kscale_ge (by omega)
  refine j_aload_n (pc' := 1) Cx dX5_structure_0 rfl rfl rfl ?_
  refine j_iload_n (pc' := 2) Cx dX5_structure_1 rfl rfl rfl ?_
  refine j_iconst (pc' := 3) (v := (nI 0)) Cx dX5_structure_2 rfl (by decide) ?_
  refine j_iconst (pc' := 4) (v := (nI 4)) Cx dX5_structure_3 rfl (by decide) ?_
  refine j_callS (pc' := 7) (wr := [(m, .inr (5, [.int (nI W), .int (nI H), .int (nI C), .int (fa), .ref o1, .ref o2, .int (nI nw), .int (nI nh), .ref go, .ref gt, .ref po, .ref pt, .ref my, .ref no, .ref so])), (o1, .inl (ty 0, 1728, .inl (kN O))), (o2, .inl (ty 0, 1728, .inl (kN T))), (go, .inl (ty 0, 576, .inl (kN F))), (gt, .inl (ty 0, 576, .inl (kN G)))]) (st := [.ref m]) Cx dX5_structure_4 rfl (c_X5_in l D ty k 0 4 (Nat.zero_le _) (by omega) (by decide)) gX5_structure_X5_in rfl khd_X5_in rfl ⟨rfl, rfl, Nat.le_of_ble_eq_true rfl, Nat.le_of_ble_eq_true rfl⟩ [] [0, 1, 2, 3, 4] rfl rfl ⟨rfl, rfl⟩ (by decide) rfl (Nat.le_of_ble_eq_true rfl) ⟨Nat.le_of_ble_eq_true rfl, Nat.le_of_ble_eq_true rfl⟩ (fun v u hpost => ?_)
  obtain ⟨r, rfl, rfl, rfl⟩ := hpost
  show J X [(m, .inr (5, [.int (nI W), .int (nI H), .int (nI C), .int (fa), .ref o1, .ref o2, .int (nI nw), .int (nI nh), .ref go, .ref gt, .ref po, .ref pt, .ref my, .ref no, .ref so])), (o1, .inl (ty 0, 1728, .inl (kN O))), (o2, .inl (ty 0, 1728, .inl (kN T))), (go, .inl (ty 0, 576, .inl (kN F))), (gt, .inl (ty 0, 576, .inl (kN G)))] [(0, .ref m), (1, .int (nI k))] 7 [.int (nI 1), .ref m] 0 0
  refine j_if_ne_n (tgt := 14) (pc' := 10) Cx dX5_structure_7 (by decide) rfl (by omega) (fun _ => ?_) (fun hh => absurd hh (by decide))
  refine j_iload_n (pc' := 15) Cx dX5_structure_14 rfl rfl rfl ?_
  refine j_aload_n (pc' := 16) Cx dX5_structure_15 rfl rfl rfl ?_
  refine j_callV (pc' := 19) (wr := [(o1, .inl (ty 0, 1728, .inl (kN O))), (o2, .inl (ty 0, 1728, .inl (kN T))), (go, .inl (ty 0, 576, .inl (kN F))), (gt, .inl (ty 0, 576, .inl (kN G)))]) (st := [.int (nI k), .ref m]) Cx dX5_structure_16 rfl (c_X5_scales l D ty m o1 o2 go gt po pt my no so W H C nw nh fa hW hH hW1 hH1 h1 h3) gX5_structure_X5_scales rfl khd_X5_scales rfl ⟨rfl, rfl, Nat.le_of_ble_eq_true rfl, Nat.le_of_ble_eq_true rfl⟩ [0] [1, 2, 3, 4] rfl rfl ⟨rfl, rfl⟩ (by decide) 0 rfl rfl rfl (Nat.le_of_ble_eq_true rfl) ⟨Nat.le_of_ble_eq_true rfl, Nat.le_of_ble_eq_true rfl⟩ (fun v u hpost => ?_)
  obtain ⟨r, rfl, rfl, rfl⟩ := hpost
  show J X [(o1, .inl (ty 0, 1728, .inl (kN O))), (o2, .inl (ty 0, 1728, .inl (kN T))), (go, .inl (ty 0, 576, .inl (kN F))), (gt, .inl (ty 0, 576, .inl (kN G))), (m, .inr (5, [.int (nI W), .int (nI H), .int (nI C), .int (fa), .ref o1, .ref o2, .int (nI nw), .int (nI nh), .ref go, .ref gt, .ref po, .ref pt, .ref my, .ref no, .ref so]))] [(0, .ref m), (1, .int (nI k))] 19 [.int (nI (kscale W H)), .int (nI k), .ref m] 0 0
  refine J.sub (ws' := [(m, .inr (5, [.int (nI W), .int (nI H), .int (nI C), .int (fa), .ref o1, .ref o2, .int (nI nw), .int (nI nh), .ref go, .ref gt, .ref po, .ref pt, .ref my, .ref no, .ref so])), (o1, .inl (ty 0, 1728, .inl (kN O))), (o2, .inl (ty 0, 1728, .inl (kN T))), (go, .inl (ty 0, 576, .inl (kN F))), (gt, .inl (ty 0, 576, .inl (kN G)))]) [4, 0, 1, 2, 3] rfl rfl ?_
  refine j_icmp_lt_n (tgt := 26) (pc' := 22) Cx dX5_structure_19 (by decide) rfl (by omega) (by omega) (fun _ => ?_) (fun hh => absurd hh (by omega))
  refine j_iconst (pc' := 27) (v := (nI 0)) Cx dX5_structure_26 rfl (by decide) ?_
  refine j_put (pc' := 30) (N := 15) (t := .int) (ws' := [(m, .inr (5, [.int (nI W), .int (nI H), .int (nI C), .int (nI 0), .ref o1, .ref o2, .int (nI nw), .int (nI nh), .ref go, .ref gt, .ref po, .ref pt, .ref my, .ref no, .ref so])), (o1, .inl (ty 0, 1728, .inl (kN O))), (o2, .inl (ty 0, 1728, .inl (kN T))), (go, .inl (ty 0, 576, .inl (kN F))), (gt, .inl (ty 0, 576, .inl (kN G)))]) Cx dX5_structure_27 rfl kin_X5_structure_X5 kfl_X5_structure_48 tyX5_ok nmX5 0 rfl rfl 3 rfl rfl rfl rfl rfl rfl rfl ?_
  refine j_aload_n (pc' := 31) Cx dX5_structure_30 rfl rfl rfl ?_
  refine j_get (pc' := 34) (N := 15) Cx dX5_structure_31 rfl kin_X5_structure_X5 kfl_X5_structure_48 0 rfl rfl 3 rfl rfl rfl ?_
  refine j_if_le_n (tgt := 39) (pc' := 37) Cx dX5_structure_34 (by decide) rfl (by omega) (fun _ => ?_) (fun hh => absurd hh (by decide))
  refine j_aload_n (pc' := 40) Cx dX5_structure_39 rfl rfl rfl ?_
  refine j_callV (pc' := 43) (wr := []) (st := []) Cx dX5_structure_40 rfl (c_X5_makeGrey l D ty m o1 o2 go gt po pt my no so W H C nw nh (nI 0) hW hH hW1 hH1 h1 h3 O T A B hO hT hrA hrB F G) gX5_structure_X5_makeGrey rfl khd_X5_makeGrey rfl ⟨rfl, rfl, Nat.le_of_ble_eq_true rfl, Nat.le_of_ble_eq_true rfl⟩ [0, 1, 2, 3, 4] [] rfl rfl ⟨rfl, rfl⟩ (by decide) 0 rfl rfl rfl (Nat.le_of_ble_eq_true rfl) ⟨Nat.le_of_ble_eq_true rfl, Nat.le_of_ble_eq_true rfl⟩ (fun v u hpost => ?_)
  obtain ⟨rfl, rfl⟩ := hpost
  show J X [(m, .inr (5, [.int (nI W), .int (nI H), .int (nI C), .int (nI 0), .ref o1, .ref o2, .int (nI W), .int (nI H), .ref go, .ref gt, .ref po, .ref pt, .ref my, .ref no, .ref so])), (o1, .inl (ty 0, 1728, .inl (kN O))), (o2, .inl (ty 0, 1728, .inl (kN T))), (go, .inl (ty 0, 576, .inl (kN (kfill (kg C A) F (W * H))))), (gt, .inl (ty 0, 576, .inl (kN (kfill (kg C B) G (W * H)))))] [(0, .ref m), (1, .int (nI k))] 43 [] 0 0
  refine j_iconst (pc' := 44) (v := (nI 0)) Cx dX5_structure_43 rfl (by decide) ?_
  refine j_istore_n (pc' := 45) (lv' := [(0, .ref m), (1, .int (nI k)), (2, .int (nI 0))]) Cx dX5_structure_44 rfl rfl (by decide) rfl ?_
  have LP : ∀ (LP_n : Nat), ∀ (i : Nat), (k - i < LP_n) → (i ≤ k) → J X [(m, .inr (5, [.int (nI W), .int (nI H), .int (nI C), .int (nI 0), .ref o1, .ref o2, .int (nI (W / 2 ^ i)), .int (nI (H / 2 ^ i)), .ref go, .ref gt, .ref po, .ref pt, .ref my, .ref no, .ref so])), (o1, .inl (ty 0, 1728, .inl (kN O))), (o2, .inl (ty 0, 1728, .inl (kN T))), (go, .inl (ty 0, 576, .inl (kN (khk W H (kfill (kg C A) F (W * H)) i)))), (gt, .inl (ty 0, 576, .inl (kN (khk W H (kfill (kg C B) G (W * H)) i))))] [(0, .ref m), (1, .int (nI k)), (2, .int (nI i))] 45 [] 0 0 := by
    intro LP_n
    induction LP_n with
    | zero =>
      intro i hms _
      exact absurd hms (Nat.not_lt_zero _)
    | succ LP_n LP_ih =>
      intro i LP_m hle
      refine j_iload_n (pc' := 46) Cx dX5_structure_45 rfl rfl rfl ?_
      refine j_iload_n (pc' := 47) Cx dX5_structure_46 rfl rfl rfl ?_
      refine j_icmp_ge_n (tgt := 60) (pc' := 50) Cx dX5_structure_47 (by decide) rfl (by omega) (by omega) (fun hi => ?_) (fun hi => ?_)
      · have e : i = k := by omega
        subst e
        have hg5 := hge i (Nat.le_refl i)
        have hw24 : W / 2 ^ i ≤ 24 := Nat.le_trans (Nat.div_le_self _ _) hW
        have hh24 : H / 2 ^ i ≤ 24 := Nat.le_trans (Nat.div_le_self _ _) hH
        have hFk : ∀ j, khk W H (kfill (kg C A) F (W * H)) i j < 256 := khk_lt hF0 i
        have hGk : ∀ j, khk W H (kfill (kg C B) G (W * H)) i j < 256 := khk_lt hG0 i
        have hfin : ∀ a b, FP.Core.DFin ((fun a b => kcell (W / 2 ^ i) a b (khk W H (kfill (kg C A) F (W * H)) i) (khk W H (kfill (kg C B) G (W * H)) i)) a b) := fun a b => kcell_fin hFk hGk
        have hc1 : (H / 2 ^ i - 4) * (W / 2 ^ i - 4) ≤ 20 * 20 := Nat.mul_le_mul (by omega) (by omega)
        have hc0 : 1 * 1 ≤ (H / 2 ^ i - 4) * (W / 2 ^ i - 4) := Nat.mul_le_mul (by omega) (by omega)
        refine j_dconst0 (pc' := 61) Cx dX5_structure_60 rfl ?_
        refine j_dstore_n (pc' := 62) (lv' := [(0, .ref m), (1, .int (nI i)), (2, .double (0))]) Cx dX5_structure_61 rfl rfl (by decide) rfl ?_
        refine j_iconst (pc' := 63) (v := (nI 0)) Cx dX5_structure_62 rfl (by decide) ?_
        refine j_istore (pc' := 65) (lv' := [(0, .ref m), (1, .int (nI i)), (2, .double (0)), (4, .int (nI 0))]) Cx dX5_structure_63 rfl (by decide) rfl ?_
        refine j_iconst (pc' := 66) (v := (nI 0)) Cx dX5_structure_65 rfl (by decide) ?_
        refine j_istore (pc' := 68) (lv' := [(0, .ref m), (1, .int (nI i)), (2, .double (0)), (4, .int (nI 0)), (5, .int (nI 0))]) Cx dX5_structure_66 rfl (by decide) rfl ?_
        have LR : ∀ (LR_n : Nat), ∀ (y : Nat), ((H / 2 ^ i - 4) - y < LR_n) → (y ≤ (H / 2 ^ i - 4)) → J X [(m, .inr (5, [.int (nI W), .int (nI H), .int (nI C), .int (nI 0), .ref o1, .ref o2, .int (nI (W / 2 ^ i)), .int (nI (H / 2 ^ i)), .ref go, .ref gt, .ref po, .ref pt, .ref my, .ref no, .ref so])), (o1, .inl (ty 0, 1728, .inl (kN O))), (o2, .inl (ty 0, 1728, .inl (kN T))), (go, .inl (ty 0, 576, .inl (kN (khk W H (kfill (kg C A) F (W * H)) i)))), (gt, .inl (ty 0, 576, .inl (kN (khk W H (kfill (kg C B) G (W * H)) i))))] [(0, .ref m), (1, .int (nI i)), (2, .double (kavy (fun a b => kcell (W / 2 ^ i) a b (khk W H (kfill (kg C A) F (W * H)) i) (khk W H (kfill (kg C B) G (W * H)) i)) (W / 2 ^ i - 4) y)), (4, .int (nI (y * (W / 2 ^ i - 4)))), (5, .int (nI y))] 68 [] 0 0 := by
          intro LR_n
          induction LR_n with
          | zero =>
            intro y hms _
            exact absurd hms (Nat.not_lt_zero _)
          | succ LR_n LR_ih =>
            intro y LR_m hley
            have hb : y * (W / 2 ^ i - 4) ≤ (H / 2 ^ i - 4) * (W / 2 ^ i - 4) := Nat.mul_le_mul_right _ hley
            refine j_iload (pc' := 70) Cx dX5_structure_68 rfl rfl ?_
            refine j_iconst (pc' := 71) (v := (nI 5)) Cx dX5_structure_70 rfl (by decide) ?_
            refine j_iadd_n (pc' := 72) Cx dX5_structure_71 rfl ?_
            refine j_aload_n (pc' := 73) Cx dX5_structure_72 rfl rfl rfl ?_
            refine j_get (pc' := 76) (N := 15) Cx dX5_structure_73 rfl kin_X5_structure_X5 kfl_X5_structure_73 0 rfl rfl 7 rfl rfl rfl ?_
            refine j_icmp_gt_n (tgt := 119) (pc' := 79) Cx dX5_structure_76 (by decide) rfl (by omega) (by omega) (fun hy => ?_) (fun hy => ?_)
            · have e : y = (H / 2 ^ i - 4) := by omega
              subst e
              refine j_dload_n (pc' := 120) Cx dX5_structure_119 rfl rfl rfl ?_
              refine j_iload (pc' := 122) Cx dX5_structure_120 rfl rfl ?_
              refine j_i2d (pc' := 123) Cx dX5_structure_122 rfl ?_
              refine j_ddiv (pc' := 124) Cx dX5_structure_123 rfl (k_ddiv_no (kavy_no hfin _ _) (by omega) (by omega)) ?_
              exact j_dret Cx dX5_structure_124 R0 ⟨Nat.le_of_ble_eq_true rfl, Nat.le_of_ble_eq_true rfl⟩ (⟨_, rfl, k_str_cong hFa hGa i, khk W H (kfill (kg C A) F (W * H)) i, khk W H (kfill (kg C B) G (W * H)) i, W / 2 ^ i, H / 2 ^ i, hFk, hGk, rfl⟩)
            · refine j_iconst (pc' := 80) (v := (nI 0)) Cx dX5_structure_79 rfl (by decide) ?_
              refine j_istore (pc' := 82) (lv' := [(0, .ref m), (1, .int (nI i)), (2, .double (kavy (fun a b => kcell (W / 2 ^ i) a b (khk W H (kfill (kg C A) F (W * H)) i) (khk W H (kfill (kg C B) G (W * H)) i)) (W / 2 ^ i - 4) y)), (4, .int (nI (y * (W / 2 ^ i - 4)))), (5, .int (nI y)), (6, .int (nI 0))]) Cx dX5_structure_80 rfl (by decide) rfl ?_
              have hb3 : (y + 1) * (W / 2 ^ i - 4) ≤ (H / 2 ^ i - 4) * (W / 2 ^ i - 4) := Nat.mul_le_mul_right _ (by omega)
              rw [Nat.succ_mul y] at hb3
              have LS : ∀ (LS_n : Nat), ∀ (x : Nat), ((W / 2 ^ i - 4) - x < LS_n) → (x ≤ (W / 2 ^ i - 4)) → J X [(m, .inr (5, [.int (nI W), .int (nI H), .int (nI C), .int (nI 0), .ref o1, .ref o2, .int (nI (W / 2 ^ i)), .int (nI (H / 2 ^ i)), .ref go, .ref gt, .ref po, .ref pt, .ref my, .ref no, .ref so])), (o1, .inl (ty 0, 1728, .inl (kN O))), (o2, .inl (ty 0, 1728, .inl (kN T))), (go, .inl (ty 0, 576, .inl (kN (khk W H (kfill (kg C A) F (W * H)) i)))), (gt, .inl (ty 0, 576, .inl (kN (khk W H (kfill (kg C B) G (W * H)) i))))] [(0, .ref m), (1, .int (nI i)), (2, .double (kavx (fun a => (fun a b => kcell (W / 2 ^ i) a b (khk W H (kfill (kg C A) F (W * H)) i) (khk W H (kfill (kg C B) G (W * H)) i)) a y) x (kavy (fun a b => kcell (W / 2 ^ i) a b (khk W H (kfill (kg C A) F (W * H)) i) (khk W H (kfill (kg C B) G (W * H)) i)) (W / 2 ^ i - 4) y))), (4, .int (nI (y * (W / 2 ^ i - 4) + x))), (5, .int (nI y)), (6, .int (nI x))] 82 [] 0 0 := by
                intro LS_n
                induction LS_n with
                | zero =>
                  intro x hms _
                  exact absurd hms (Nat.not_lt_zero _)
                | succ LS_n LS_ih =>
                  intro x LS_m hlx
                  refine j_iload (pc' := 84) Cx dX5_structure_82 rfl rfl ?_
                  refine j_iconst (pc' := 85) (v := (nI 5)) Cx dX5_structure_84 rfl (by decide) ?_
                  refine j_iadd_n (pc' := 86) Cx dX5_structure_85 rfl ?_
                  refine j_aload_n (pc' := 87) Cx dX5_structure_86 rfl rfl rfl ?_
                  refine j_get (pc' := 90) (N := 15) Cx dX5_structure_87 rfl kin_X5_structure_X5 kfl_X5_structure_70 0 rfl rfl 6 rfl rfl rfl ?_
                  refine j_icmp_gt_n (tgt := 113) (pc' := 93) Cx dX5_structure_90 (by decide) rfl (by omega) (by omega) (fun hx => ?_) (fun hx => ?_)
                  · have e : x = (W / 2 ^ i - 4) := by omega
                    subst e
                    refine j_iinc_n (pc' := 116) (z := 1) (a := y) (lv' := [(0, .ref m), (1, .int (nI i)), (2, .double (kavx (fun a => (fun a b => kcell (W / 2 ^ i) a b (khk W H (kfill (kg C A) F (W * H)) i) (khk W H (kfill (kg C B) G (W * H)) i)) a y) (W / 2 ^ i - 4) (kavy (fun a b => kcell (W / 2 ^ i) a b (khk W H (kfill (kg C A) F (W * H)) i) (khk W H (kfill (kg C B) G (W * H)) i)) (W / 2 ^ i - 4) y))), (4, .int (nI (y * (W / 2 ^ i - 4) + (W / 2 ^ i - 4)))), (5, .int (nI (y + 1))), (6, .int (nI (W / 2 ^ i - 4)))]) Cx dX5_structure_113 rfl rfl (by decide) rfl ?_
                    refine j_goto (tgt := 68) Cx dX5_structure_116 (by decide) ?_
                    refine J.lvs (lv' := [(0, .ref m), (1, .int (nI i)), (2, .double (kavx (fun a => (fun a b => kcell (W / 2 ^ i) a b (khk W H (kfill (kg C A) F (W * H)) i) (khk W H (kfill (kg C B) G (W * H)) i)) a y) (W / 2 ^ i - 4) (kavy (fun a b => kcell (W / 2 ^ i) a b (khk W H (kfill (kg C A) F (W * H)) i) (khk W H (kfill (kg C B) G (W * H)) i)) (W / 2 ^ i - 4) y))), (4, .int (nI (y * (W / 2 ^ i - 4) + (W / 2 ^ i - 4)))), (5, .int (nI (y + 1)))]) [0, 1, 2, 4, 5] rfl ?_
                    refine J.cast (ws' := [(m, .inr (5, [.int (nI W), .int (nI H), .int (nI C), .int (nI 0), .ref o1, .ref o2, .int (nI (W / 2 ^ i)), .int (nI (H / 2 ^ i)), .ref go, .ref gt, .ref po, .ref pt, .ref my, .ref no, .ref so])), (o1, .inl (ty 0, 1728, .inl (kN O))), (o2, .inl (ty 0, 1728, .inl (kN T))), (go, .inl (ty 0, 576, .inl (kN (khk W H (kfill (kg C A) F (W * H)) i)))), (gt, .inl (ty 0, 576, .inl (kN (khk W H (kfill (kg C B) G (W * H)) i))))]) (lv' := [(0, .ref m), (1, .int (nI i)), (2, .double (kavy (fun a b => kcell (W / 2 ^ i) a b (khk W H (kfill (kg C A) F (W * H)) i) (khk W H (kfill (kg C B) G (W * H)) i)) (W / 2 ^ i - 4) (y + 1))), (4, .int (nI ((y + 1) * (W / 2 ^ i - 4)))), (5, .int (nI (y + 1)))]) (pc' := 68) (st' := []) (rfl) (by rw [Nat.succ_mul]; rfl) rfl (rfl) rfl rfl ?_
                    exact LR_ih (y + 1) (by omega) (by omega)
                  · refine j_dload_n (pc' := 94) Cx dX5_structure_93 rfl rfl rfl ?_
                    refine j_aload_n (pc' := 95) Cx dX5_structure_94 rfl rfl rfl ?_
                    refine j_iload (pc' := 97) Cx dX5_structure_95 rfl rfl ?_
                    refine j_iload (pc' := 99) Cx dX5_structure_97 rfl rfl ?_
                    refine j_callV (pc' := 102) (wr := [(o1, .inl (ty 0, 1728, .inl (kN O))), (o2, .inl (ty 0, 1728, .inl (kN T)))]) (st := [.double (kavx (fun a => (fun a b => kcell (W / 2 ^ i) a b (khk W H (kfill (kg C A) F (W * H)) i) (khk W H (kfill (kg C B) G (W * H)) i)) a y) x (kavy (fun a b => kcell (W / 2 ^ i) a b (khk W H (kfill (kg C A) F (W * H)) i) (khk W H (kfill (kg C B) G (W * H)) i)) (W / 2 ^ i - 4) y))]) Cx dX5_structure_99 rfl (c_X5_cell l D ty m o1 o2 go gt po pt my no so W H C (W / 2 ^ i) (H / 2 ^ i) (nI 0) hW hH hW1 hH1 h1 h3 (khk W H (kfill (kg C A) F (W * H)) i) (khk W H (kfill (kg C B) G (W * H)) i) hFk hGk hw24 hh24 x y (by omega) (by omega)) gX5_structure_X5_cell rfl khd_X5_cell rfl ⟨rfl, rfl, Nat.le_of_ble_eq_true rfl, Nat.le_of_ble_eq_true rfl⟩ [0, 3, 4] [1, 2] rfl rfl ⟨rfl, rfl⟩ (by decide) 0 rfl rfl rfl (Nat.le_of_ble_eq_true rfl) ⟨Nat.le_of_ble_eq_true rfl, Nat.le_of_ble_eq_true rfl⟩ (fun v u hpost => ?_)
                    obtain ⟨r, rfl, rfl, rfl⟩ := hpost
                    show J X [(o1, .inl (ty 0, 1728, .inl (kN O))), (o2, .inl (ty 0, 1728, .inl (kN T))), (m, .inr (5, [.int (nI W), .int (nI H), .int (nI C), .int (nI 0), .ref o1, .ref o2, .int (nI (W / 2 ^ i)), .int (nI (H / 2 ^ i)), .ref go, .ref gt, .ref po, .ref pt, .ref my, .ref no, .ref so])), (go, .inl (ty 0, 576, .inl (kN (khk W H (kfill (kg C A) F (W * H)) i)))), (gt, .inl (ty 0, 576, .inl (kN (khk W H (kfill (kg C B) G (W * H)) i))))] [(0, .ref m), (1, .int (nI i)), (2, .double (kavx (fun a => (fun a b => kcell (W / 2 ^ i) a b (khk W H (kfill (kg C A) F (W * H)) i) (khk W H (kfill (kg C B) G (W * H)) i)) a y) x (kavy (fun a b => kcell (W / 2 ^ i) a b (khk W H (kfill (kg C A) F (W * H)) i) (khk W H (kfill (kg C B) G (W * H)) i)) (W / 2 ^ i - 4) y))), (4, .int (nI (y * (W / 2 ^ i - 4) + x))), (5, .int (nI y)), (6, .int (nI x))] 102 [.double ((fun a b => kcell (W / 2 ^ i) a b (khk W H (kfill (kg C A) F (W * H)) i) (khk W H (kfill (kg C B) G (W * H)) i)) x y), .double (kavx (fun a => (fun a b => kcell (W / 2 ^ i) a b (khk W H (kfill (kg C A) F (W * H)) i) (khk W H (kfill (kg C B) G (W * H)) i)) a y) x (kavy (fun a b => kcell (W / 2 ^ i) a b (khk W H (kfill (kg C A) F (W * H)) i) (khk W H (kfill (kg C B) G (W * H)) i)) (W / 2 ^ i - 4) y))] 0 0
                    refine J.sub (ws' := [(m, .inr (5, [.int (nI W), .int (nI H), .int (nI C), .int (nI 0), .ref o1, .ref o2, .int (nI (W / 2 ^ i)), .int (nI (H / 2 ^ i)), .ref go, .ref gt, .ref po, .ref pt, .ref my, .ref no, .ref so])), (o1, .inl (ty 0, 1728, .inl (kN O))), (o2, .inl (ty 0, 1728, .inl (kN T))), (go, .inl (ty 0, 576, .inl (kN (khk W H (kfill (kg C A) F (W * H)) i)))), (gt, .inl (ty 0, 576, .inl (kN (khk W H (kfill (kg C B) G (W * H)) i))))]) [2, 0, 1, 3, 4] rfl rfl ?_
                    refine j_dadd (pc' := 103) Cx dX5_structure_102 rfl (kavx_no (fun x => hfin x y) (kavy_no hfin _ _) (x + 1)) ?_
                    refine j_dstore_n (pc' := 104) (lv' := [(0, .ref m), (1, .int (nI i)), (2, .double (FP.dadd (kavx (fun a => (fun a b => kcell (W / 2 ^ i) a b (khk W H (kfill (kg C A) F (W * H)) i) (khk W H (kfill (kg C B) G (W * H)) i)) a y) x (kavy (fun a b => kcell (W / 2 ^ i) a b (khk W H (kfill (kg C A) F (W * H)) i) (khk W H (kfill (kg C B) G (W * H)) i)) (W / 2 ^ i - 4) y)) ((fun a b => kcell (W / 2 ^ i) a b (khk W H (kfill (kg C A) F (W * H)) i) (khk W H (kfill (kg C B) G (W * H)) i)) x y))), (4, .int (nI (y * (W / 2 ^ i - 4) + x))), (5, .int (nI y)), (6, .int (nI x))]) Cx dX5_structure_103 rfl rfl (by decide) rfl ?_
                    refine j_iinc_n (pc' := 107) (z := 1) (a := (y * (W / 2 ^ i - 4) + x)) (lv' := [(0, .ref m), (1, .int (nI i)), (2, .double (FP.dadd (kavx (fun a => (fun a b => kcell (W / 2 ^ i) a b (khk W H (kfill (kg C A) F (W * H)) i) (khk W H (kfill (kg C B) G (W * H)) i)) a y) x (kavy (fun a b => kcell (W / 2 ^ i) a b (khk W H (kfill (kg C A) F (W * H)) i) (khk W H (kfill (kg C B) G (W * H)) i)) (W / 2 ^ i - 4) y)) ((fun a b => kcell (W / 2 ^ i) a b (khk W H (kfill (kg C A) F (W * H)) i) (khk W H (kfill (kg C B) G (W * H)) i)) x y))), (4, .int (nI (y * (W / 2 ^ i - 4) + x + 1))), (5, .int (nI y)), (6, .int (nI x))]) Cx dX5_structure_104 rfl rfl (by decide) rfl ?_
                    refine j_iinc_n (pc' := 110) (z := 1) (a := x) (lv' := [(0, .ref m), (1, .int (nI i)), (2, .double (FP.dadd (kavx (fun a => (fun a b => kcell (W / 2 ^ i) a b (khk W H (kfill (kg C A) F (W * H)) i) (khk W H (kfill (kg C B) G (W * H)) i)) a y) x (kavy (fun a b => kcell (W / 2 ^ i) a b (khk W H (kfill (kg C A) F (W * H)) i) (khk W H (kfill (kg C B) G (W * H)) i)) (W / 2 ^ i - 4) y)) ((fun a b => kcell (W / 2 ^ i) a b (khk W H (kfill (kg C A) F (W * H)) i) (khk W H (kfill (kg C B) G (W * H)) i)) x y))), (4, .int (nI (y * (W / 2 ^ i - 4) + x + 1))), (5, .int (nI y)), (6, .int (nI (x + 1)))]) Cx dX5_structure_107 rfl rfl (by decide) rfl ?_
                    refine j_goto (tgt := 82) Cx dX5_structure_110 (by decide) ?_
                    refine J.lvs (lv' := [(0, .ref m), (1, .int (nI i)), (2, .double (FP.dadd (kavx (fun a => (fun a b => kcell (W / 2 ^ i) a b (khk W H (kfill (kg C A) F (W * H)) i) (khk W H (kfill (kg C B) G (W * H)) i)) a y) x (kavy (fun a b => kcell (W / 2 ^ i) a b (khk W H (kfill (kg C A) F (W * H)) i) (khk W H (kfill (kg C B) G (W * H)) i)) (W / 2 ^ i - 4) y)) ((fun a b => kcell (W / 2 ^ i) a b (khk W H (kfill (kg C A) F (W * H)) i) (khk W H (kfill (kg C B) G (W * H)) i)) x y))), (4, .int (nI (y * (W / 2 ^ i - 4) + x + 1))), (5, .int (nI y)), (6, .int (nI (x + 1)))]) [0, 1, 2, 4, 5, 6] rfl ?_
                    refine J.cast (ws' := [(m, .inr (5, [.int (nI W), .int (nI H), .int (nI C), .int (nI 0), .ref o1, .ref o2, .int (nI (W / 2 ^ i)), .int (nI (H / 2 ^ i)), .ref go, .ref gt, .ref po, .ref pt, .ref my, .ref no, .ref so])), (o1, .inl (ty 0, 1728, .inl (kN O))), (o2, .inl (ty 0, 1728, .inl (kN T))), (go, .inl (ty 0, 576, .inl (kN (khk W H (kfill (kg C A) F (W * H)) i)))), (gt, .inl (ty 0, 576, .inl (kN (khk W H (kfill (kg C B) G (W * H)) i))))]) (lv' := [(0, .ref m), (1, .int (nI i)), (2, .double (kavx (fun a => (fun a b => kcell (W / 2 ^ i) a b (khk W H (kfill (kg C A) F (W * H)) i) (khk W H (kfill (kg C B) G (W * H)) i)) a y) (x + 1) (kavy (fun a b => kcell (W / 2 ^ i) a b (khk W H (kfill (kg C A) F (W * H)) i) (khk W H (kfill (kg C B) G (W * H)) i)) (W / 2 ^ i - 4) y))), (4, .int (nI (y * (W / 2 ^ i - 4) + (x + 1)))), (5, .int (nI y)), (6, .int (nI (x + 1)))]) (pc' := 82) (st' := []) (rfl) (rfl) rfl (rfl) rfl rfl ?_
                    exact LS_ih (x + 1) (by omega) (by omega)
              refine J.cast (ws' := [(m, .inr (5, [.int (nI W), .int (nI H), .int (nI C), .int (nI 0), .ref o1, .ref o2, .int (nI (W / 2 ^ i)), .int (nI (H / 2 ^ i)), .ref go, .ref gt, .ref po, .ref pt, .ref my, .ref no, .ref so])), (o1, .inl (ty 0, 1728, .inl (kN O))), (o2, .inl (ty 0, 1728, .inl (kN T))), (go, .inl (ty 0, 576, .inl (kN (khk W H (kfill (kg C A) F (W * H)) i)))), (gt, .inl (ty 0, 576, .inl (kN (khk W H (kfill (kg C B) G (W * H)) i))))]) (lv' := [(0, .ref m), (1, .int (nI i)), (2, .double (kavx (fun a => (fun a b => kcell (W / 2 ^ i) a b (khk W H (kfill (kg C A) F (W * H)) i) (khk W H (kfill (kg C B) G (W * H)) i)) a y) 0 (kavy (fun a b => kcell (W / 2 ^ i) a b (khk W H (kfill (kg C A) F (W * H)) i) (khk W H (kfill (kg C B) G (W * H)) i)) (W / 2 ^ i - 4) y))), (4, .int (nI (y * (W / 2 ^ i - 4) + 0))), (5, .int (nI y)), (6, .int (nI 0))]) (pc' := 82) (st' := []) (rfl) (rfl) rfl (rfl) rfl rfl ?_
              exact LS ((W / 2 ^ i - 4) + 1) 0 (by omega) (Nat.zero_le _)
        refine J.lvs (lv' := [(0, .ref m), (1, .int (nI i)), (2, .double (0)), (4, .int (nI 0)), (5, .int (nI 0))]) [0, 1, 2, 4, 5] rfl ?_
        refine J.cast (ws' := [(m, .inr (5, [.int (nI W), .int (nI H), .int (nI C), .int (nI 0), .ref o1, .ref o2, .int (nI (W / 2 ^ i)), .int (nI (H / 2 ^ i)), .ref go, .ref gt, .ref po, .ref pt, .ref my, .ref no, .ref so])), (o1, .inl (ty 0, 1728, .inl (kN O))), (o2, .inl (ty 0, 1728, .inl (kN T))), (go, .inl (ty 0, 576, .inl (kN (khk W H (kfill (kg C A) F (W * H)) i)))), (gt, .inl (ty 0, 576, .inl (kN (khk W H (kfill (kg C B) G (W * H)) i))))]) (lv' := [(0, .ref m), (1, .int (nI i)), (2, .double (kavy (fun a b => kcell (W / 2 ^ i) a b (khk W H (kfill (kg C A) F (W * H)) i) (khk W H (kfill (kg C B) G (W * H)) i)) (W / 2 ^ i - 4) 0)), (4, .int (nI (0 * (W / 2 ^ i - 4)))), (5, .int (nI 0))]) (pc' := 68) (st' := []) (rfl) (by rw [Nat.zero_mul]; rfl) rfl (rfl) rfl rfl ?_
        exact LR ((H / 2 ^ i - 4) + 1) 0 (by omega) (Nat.zero_le _)
      · refine j_aload_n (pc' := 51) Cx dX5_structure_50 rfl rfl rfl ?_
        refine j_callV (pc' := 54) (wr := [(o1, .inl (ty 0, 1728, .inl (kN O))), (o2, .inl (ty 0, 1728, .inl (kN T)))]) (st := []) Cx dX5_structure_51 rfl (c_X5_halve l D ty m o1 o2 go gt po pt my no so W H C (W / 2 ^ i) (H / 2 ^ i) (nI 0) hW hH hW1 hH1 h1 h3 (khk W H (kfill (kg C A) F (W * H)) i) (khk W H (kfill (kg C B) G (W * H)) i) (khk_lt hF0 i) (khk_lt hG0 i) (Nat.le_trans (Nat.div_le_self _ _) hW) (Nat.le_trans (Nat.div_le_self _ _) hH)) gX5_structure_X5_halve rfl khd_X5_halve rfl ⟨rfl, rfl, Nat.le_of_ble_eq_true rfl, Nat.le_of_ble_eq_true rfl⟩ [0, 3, 4] [1, 2] rfl rfl ⟨rfl, rfl⟩ (by decide) 0 rfl rfl rfl (Nat.le_of_ble_eq_true rfl) ⟨Nat.le_of_ble_eq_true rfl, Nat.le_of_ble_eq_true rfl⟩ (fun v u hpost => ?_)
        obtain ⟨rfl, rfl⟩ := hpost
        show J X [(o1, .inl (ty 0, 1728, .inl (kN O))), (o2, .inl (ty 0, 1728, .inl (kN T))), (m, .inr (5, [.int (nI W), .int (nI H), .int (nI C), .int (nI 0), .ref o1, .ref o2, .int (nI (W / 2 ^ i / 2)), .int (nI (H / 2 ^ i / 2)), .ref go, .ref gt, .ref po, .ref pt, .ref my, .ref no, .ref so])), (go, .inl (ty 0, 576, .inl (kN (khalf (W / 2 ^ i) (H / 2 ^ i) (khk W H (kfill (kg C A) F (W * H)) i))))), (gt, .inl (ty 0, 576, .inl (kN (khalf (W / 2 ^ i) (H / 2 ^ i) (khk W H (kfill (kg C B) G (W * H)) i)))))] [(0, .ref m), (1, .int (nI k)), (2, .int (nI i))] 54 [] 0 0
        refine J.sub (ws' := [(m, .inr (5, [.int (nI W), .int (nI H), .int (nI C), .int (nI 0), .ref o1, .ref o2, .int (nI (W / 2 ^ i / 2)), .int (nI (H / 2 ^ i / 2)), .ref go, .ref gt, .ref po, .ref pt, .ref my, .ref no, .ref so])), (o1, .inl (ty 0, 1728, .inl (kN O))), (o2, .inl (ty 0, 1728, .inl (kN T))), (go, .inl (ty 0, 576, .inl (kN (khalf (W / 2 ^ i) (H / 2 ^ i) (khk W H (kfill (kg C A) F (W * H)) i))))), (gt, .inl (ty 0, 576, .inl (kN (khalf (W / 2 ^ i) (H / 2 ^ i) (khk W H (kfill (kg C B) G (W * H)) i)))))]) [2, 0, 1, 3, 4] rfl rfl ?_
        refine j_iinc_n (pc' := 57) (z := 1) (a := i) (lv' := [(0, .ref m), (1, .int (nI k)), (2, .int (nI (i + 1)))]) Cx dX5_structure_54 rfl rfl (by decide) rfl ?_
        refine j_goto (tgt := 45) Cx dX5_structure_57 (by decide) ?_
        refine J.cast (ws' := [(m, .inr (5, [.int (nI W), .int (nI H), .int (nI C), .int (nI 0), .ref o1, .ref o2, .int (nI (W / 2 ^ (i + 1))), .int (nI (H / 2 ^ (i + 1))), .ref go, .ref gt, .ref po, .ref pt, .ref my, .ref no, .ref so])), (o1, .inl (ty 0, 1728, .inl (kN O))), (o2, .inl (ty 0, 1728, .inl (kN T))), (go, .inl (ty 0, 576, .inl (kN (khk W H (kfill (kg C A) F (W * H)) (i + 1))))), (gt, .inl (ty 0, 576, .inl (kN (khk W H (kfill (kg C B) G (W * H)) (i + 1)))))]) (lv' := [(0, .ref m), (1, .int (nI k)), (2, .int (nI (i + 1)))]) (pc' := 45) (st' := []) (by rw [k_half2, k_half2]; rfl) (rfl) rfl (rfl) rfl rfl ?_
        exact LP_ih (i + 1) (by omega) (by omega)
  refine J.cast (ws' := [(m, .inr (5, [.int (nI W), .int (nI H), .int (nI C), .int (nI 0), .ref o1, .ref o2, .int (nI (W / 2 ^ 0)), .int (nI (H / 2 ^ 0)), .ref go, .ref gt, .ref po, .ref pt, .ref my, .ref no, .ref so])), (o1, .inl (ty 0, 1728, .inl (kN O))), (o2, .inl (ty 0, 1728, .inl (kN T))), (go, .inl (ty 0, 576, .inl (kN (khk W H (kfill (kg C A) F (W * H)) 0)))), (gt, .inl (ty 0, 576, .inl (kN (khk W H (kfill (kg C B) G (W * H)) 0))))]) (lv' := [(0, .ref m), (1, .int (nI k)), (2, .int (nI 0))]) (pc' := 45) (st' := []) (by rw [show W / 2 ^ 0 = W from Nat.div_one W, show H / 2 ^ 0 = H from Nat.div_one H]; rfl) (rfl) rfl (rfl) rfl rfl ?_
  exact LP (k + 1) 0 (by omega) (Nat.zero_le k)

set_option maxHeartbeats 4000000 in
set_option maxRecDepth 100000 in
theorem c_X5_structure_1 (l : Launch) (D : va_G) (ty : Nat → ClassId) (m o1 o2 go gt po pt my no so W H C : Nat) (nw nh : Nat) (fa : Int32) (hW : W ≤ 24) (hH : H ≤ 24) (hW1 : 1 ≤ W) (hH1 : 1 ≤ H) (h1 : 1 ≤ C) (h3 : C ≤ 3) (x : Int32) (hno : ¬ kok x 5) : KM l yX5_structure wsX5_structure { frames := 3, cells := 0, slots := 0, locals := 120 } D ty [.ref m, .int (x)] [(m, .inr (5, [.int (nI W), .int (nI H), .int (nI C), .int (fa), .ref o1, .ref o2, .int (nI nw), .int (nI nh), .ref go, .ref gt, .ref po, .ref pt, .ref my, .ref no, .ref so]))] (kF (fun r u => r = 0 ∧ u = [(m, .inr (5, [.int (nI W), .int (nI H), .int (nI C), .int (nI 1), .ref o1, .ref o2, .int (nI nw), .int (nI nh), .ref go, .ref gt, .ref po, .ref pt, .ref my, .ref no, .ref so]))])) 0 0 := by
  refine KM.of (cc := cX5_structure) (maxL := 7) (ret := (some .double)) (lv := [(0, .ref m), (1, .int (x))]) (by decide +kernel) rfl rfl rfl (fun X C0 R0 => ?_)
  have Cx : kC X cX5_structure wsX5_structure RX5 { frames := 3, cells := 0, slots := 0, locals := 120 } "structure" l D ty 7 := C0
  rcases pk_ix x (n := 5) (by decide) with hs | hs | hs
  · refine j_aload_n (pc' := 1) Cx dX5_structure_0 rfl rfl rfl ?_
    refine j_iload_n (pc' := 2) Cx dX5_structure_1 rfl rfl rfl ?_
    refine j_iconst (pc' := 3) (v := (nI 0)) Cx dX5_structure_2 rfl (by decide) ?_
    refine j_iconst (pc' := 4) (v := (nI 4)) Cx dX5_structure_3 rfl (by decide) ?_
    refine j_callS (pc' := 7) (wr := [(m, .inr (5, [.int (nI W), .int (nI H), .int (nI C), .int (fa), .ref o1, .ref o2, .int (nI nw), .int (nI nh), .ref go, .ref gt, .ref po, .ref pt, .ref my, .ref no, .ref so]))]) (st := [.ref m]) Cx dX5_structure_4 rfl (c_X5_in_no l D ty x (nI 0) (nI 4) (Or.inl (show x < nI 0 from hs))) gX5_structure_X5_in rfl khd_X5_in rfl ⟨rfl, rfl, Nat.le_of_ble_eq_true rfl, Nat.le_of_ble_eq_true rfl⟩ [] [0] rfl rfl ⟨rfl, rfl⟩ (by decide) rfl (Nat.le_of_ble_eq_true rfl) ⟨Nat.le_of_ble_eq_true rfl, Nat.le_of_ble_eq_true rfl⟩ (fun v u hpost => ?_)
    obtain ⟨r, rfl, rfl, rfl⟩ := hpost
    show J X [(m, .inr (5, [.int (nI W), .int (nI H), .int (nI C), .int (fa), .ref o1, .ref o2, .int (nI nw), .int (nI nh), .ref go, .ref gt, .ref po, .ref pt, .ref my, .ref no, .ref so]))] [(0, .ref m), (1, .int (x))] 7 [.int (nI 0), .ref m] 0 0
    refine j_if_ne_n (tgt := 14) (pc' := 10) Cx dX5_structure_7 (by decide) rfl (by omega) (fun hh => absurd hh (not_not_intro rfl)) (fun _ => ?_)
    refine j_iconst (pc' := 11) (v := (nI 1)) Cx dX5_structure_10 rfl (by decide) ?_
    refine j_goto (tgt := 27) Cx dX5_structure_11 (by decide) ?_
    refine j_put (pc' := 30) (N := 15) (t := .int) (ws' := [(m, .inr (5, [.int (nI W), .int (nI H), .int (nI C), .int (nI 1), .ref o1, .ref o2, .int (nI nw), .int (nI nh), .ref go, .ref gt, .ref po, .ref pt, .ref my, .ref no, .ref so]))]) Cx dX5_structure_27 rfl kin_X5_structure_X5 kfl_X5_structure_48 tyX5_ok nmX5 0 rfl rfl 3 rfl rfl rfl rfl rfl rfl rfl ?_
    refine j_aload_n (pc' := 31) Cx dX5_structure_30 rfl rfl rfl ?_
    refine j_get (pc' := 34) (N := 15) Cx dX5_structure_31 rfl kin_X5_structure_X5 kfl_X5_structure_48 0 rfl rfl 3 rfl rfl rfl ?_
    refine j_if_le_n (tgt := 39) (pc' := 37) Cx dX5_structure_34 (by decide) rfl (by omega) (fun hh => absurd hh (by decide)) (fun _ => ?_)
    refine j_dconst0 (pc' := 38) Cx dX5_structure_37 rfl ?_
    exact j_dret Cx dX5_structure_38 R0 ⟨Nat.le_of_ble_eq_true rfl, Nat.le_of_ble_eq_true rfl⟩ (⟨_, rfl, rfl, rfl⟩)
  · refine j_aload_n (pc' := 1) Cx dX5_structure_0 rfl rfl rfl ?_
    refine j_iload_n (pc' := 2) Cx dX5_structure_1 rfl rfl rfl ?_
    refine j_iconst (pc' := 3) (v := (nI 0)) Cx dX5_structure_2 rfl (by decide) ?_
    refine j_iconst (pc' := 4) (v := (nI 4)) Cx dX5_structure_3 rfl (by decide) ?_
    refine j_callS (pc' := 7) (wr := [(m, .inr (5, [.int (nI W), .int (nI H), .int (nI C), .int (fa), .ref o1, .ref o2, .int (nI nw), .int (nI nh), .ref go, .ref gt, .ref po, .ref pt, .ref my, .ref no, .ref so]))]) (st := [.ref m]) Cx dX5_structure_4 rfl (c_X5_in_no l D ty x (nI 0) (nI 4) (Or.inr (k_pred (n := 5) (by decide) (by decide) hs))) gX5_structure_X5_in rfl khd_X5_in rfl ⟨rfl, rfl, Nat.le_of_ble_eq_true rfl, Nat.le_of_ble_eq_true rfl⟩ [] [0] rfl rfl ⟨rfl, rfl⟩ (by decide) rfl (Nat.le_of_ble_eq_true rfl) ⟨Nat.le_of_ble_eq_true rfl, Nat.le_of_ble_eq_true rfl⟩ (fun v u hpost => ?_)
    obtain ⟨r, rfl, rfl, rfl⟩ := hpost
    show J X [(m, .inr (5, [.int (nI W), .int (nI H), .int (nI C), .int (fa), .ref o1, .ref o2, .int (nI nw), .int (nI nh), .ref go, .ref gt, .ref po, .ref pt, .ref my, .ref no, .ref so]))] [(0, .ref m), (1, .int (x))] 7 [.int (nI 0), .ref m] 0 0
    refine j_if_ne_n (tgt := 14) (pc' := 10) Cx dX5_structure_7 (by decide) rfl (by omega) (fun hh => absurd hh (not_not_intro rfl)) (fun _ => ?_)
    refine j_iconst (pc' := 11) (v := (nI 1)) Cx dX5_structure_10 rfl (by decide) ?_
    refine j_goto (tgt := 27) Cx dX5_structure_11 (by decide) ?_
    refine j_put (pc' := 30) (N := 15) (t := .int) (ws' := [(m, .inr (5, [.int (nI W), .int (nI H), .int (nI C), .int (nI 1), .ref o1, .ref o2, .int (nI nw), .int (nI nh), .ref go, .ref gt, .ref po, .ref pt, .ref my, .ref no, .ref so]))]) Cx dX5_structure_27 rfl kin_X5_structure_X5 kfl_X5_structure_48 tyX5_ok nmX5 0 rfl rfl 3 rfl rfl rfl rfl rfl rfl rfl ?_
    refine j_aload_n (pc' := 31) Cx dX5_structure_30 rfl rfl rfl ?_
    refine j_get (pc' := 34) (N := 15) Cx dX5_structure_31 rfl kin_X5_structure_X5 kfl_X5_structure_48 0 rfl rfl 3 rfl rfl rfl ?_
    refine j_if_le_n (tgt := 39) (pc' := 37) Cx dX5_structure_34 (by decide) rfl (by omega) (fun hh => absurd hh (by decide)) (fun _ => ?_)
    refine j_dconst0 (pc' := 38) Cx dX5_structure_37 rfl ?_
    exact j_dret Cx dX5_structure_38 R0 ⟨Nat.le_of_ble_eq_true rfl, Nat.le_of_ble_eq_true rfl⟩ (⟨_, rfl, rfl, rfl⟩)
  · exact absurd hs hno

set_option maxHeartbeats 4000000 in
set_option maxRecDepth 100000 in
theorem c_X5_structure_2 (l : Launch) (D : va_G) (ty : Nat → ClassId) (m o1 o2 go gt po pt my no so W H C : Nat) (nw nh : Nat) (fa : Int32) (hW : W ≤ 24) (hH : H ≤ 24) (hW1 : 1 ≤ W) (hH1 : 1 ≤ H) (h1 : 1 ≤ C) (h3 : C ≤ 3) (k : Nat) (hk : k < 5) (hno : kscale W H ≤ k) : KM l yX5_structure wsX5_structure { frames := 3, cells := 0, slots := 0, locals := 120 } D ty [.ref m, .int (nI k)] [(m, .inr (5, [.int (nI W), .int (nI H), .int (nI C), .int (fa), .ref o1, .ref o2, .int (nI nw), .int (nI nh), .ref go, .ref gt, .ref po, .ref pt, .ref my, .ref no, .ref so]))] (kF (fun r u => r = 0 ∧ u = [(m, .inr (5, [.int (nI W), .int (nI H), .int (nI C), .int (nI 2), .ref o1, .ref o2, .int (nI nw), .int (nI nh), .ref go, .ref gt, .ref po, .ref pt, .ref my, .ref no, .ref so]))])) 0 0 := by
  refine KM.of (cc := cX5_structure) (maxL := 7) (ret := (some .double)) (lv := [(0, .ref m), (1, .int (nI k))]) (by decide +kernel) rfl rfl rfl (fun X C0 R0 => ?_)
  have Cx : kC X cX5_structure wsX5_structure RX5 { frames := 3, cells := 0, slots := 0, locals := 120 } "structure" l D ty 7 := C0
  have hS3 := kscale_le W H
  refine j_aload_n (pc' := 1) Cx dX5_structure_0 rfl rfl rfl ?_
  refine j_iload_n (pc' := 2) Cx dX5_structure_1 rfl rfl rfl ?_
  refine j_iconst (pc' := 3) (v := (nI 0)) Cx dX5_structure_2 rfl (by decide) ?_
  refine j_iconst (pc' := 4) (v := (nI 4)) Cx dX5_structure_3 rfl (by decide) ?_
  refine j_callS (pc' := 7) (wr := [(m, .inr (5, [.int (nI W), .int (nI H), .int (nI C), .int (fa), .ref o1, .ref o2, .int (nI nw), .int (nI nh), .ref go, .ref gt, .ref po, .ref pt, .ref my, .ref no, .ref so]))]) (st := [.ref m]) Cx dX5_structure_4 rfl (c_X5_in l D ty k 0 4 (Nat.zero_le _) (by omega) (by decide)) gX5_structure_X5_in rfl khd_X5_in rfl ⟨rfl, rfl, Nat.le_of_ble_eq_true rfl, Nat.le_of_ble_eq_true rfl⟩ [] [0] rfl rfl ⟨rfl, rfl⟩ (by decide) rfl (Nat.le_of_ble_eq_true rfl) ⟨Nat.le_of_ble_eq_true rfl, Nat.le_of_ble_eq_true rfl⟩ (fun v u hpost => ?_)
  obtain ⟨r, rfl, rfl, rfl⟩ := hpost
  show J X [(m, .inr (5, [.int (nI W), .int (nI H), .int (nI C), .int (fa), .ref o1, .ref o2, .int (nI nw), .int (nI nh), .ref go, .ref gt, .ref po, .ref pt, .ref my, .ref no, .ref so]))] [(0, .ref m), (1, .int (nI k))] 7 [.int (nI 1), .ref m] 0 0
  refine j_if_ne_n (tgt := 14) (pc' := 10) Cx dX5_structure_7 (by decide) rfl (by omega) (fun _ => ?_) (fun hh => absurd hh (by decide))
  refine j_iload_n (pc' := 15) Cx dX5_structure_14 rfl rfl rfl ?_
  refine j_aload_n (pc' := 16) Cx dX5_structure_15 rfl rfl rfl ?_
  refine j_callV (pc' := 19) (wr := []) (st := [.int (nI k), .ref m]) Cx dX5_structure_16 rfl (c_X5_scales l D ty m o1 o2 go gt po pt my no so W H C nw nh fa hW hH hW1 hH1 h1 h3) gX5_structure_X5_scales rfl khd_X5_scales rfl ⟨rfl, rfl, Nat.le_of_ble_eq_true rfl, Nat.le_of_ble_eq_true rfl⟩ [0] [] rfl rfl ⟨rfl, rfl⟩ (by decide) 0 rfl rfl rfl (Nat.le_of_ble_eq_true rfl) ⟨Nat.le_of_ble_eq_true rfl, Nat.le_of_ble_eq_true rfl⟩ (fun v u hpost => ?_)
  obtain ⟨r, rfl, rfl, rfl⟩ := hpost
  show J X [(m, .inr (5, [.int (nI W), .int (nI H), .int (nI C), .int (fa), .ref o1, .ref o2, .int (nI nw), .int (nI nh), .ref go, .ref gt, .ref po, .ref pt, .ref my, .ref no, .ref so]))] [(0, .ref m), (1, .int (nI k))] 19 [.int (nI (kscale W H)), .int (nI k), .ref m] 0 0
  refine j_icmp_lt_n (tgt := 26) (pc' := 22) Cx dX5_structure_19 (by decide) rfl (by omega) (by omega) (fun hh => absurd hh (by omega)) (fun _ => ?_)
  refine j_iconst (pc' := 23) (v := (nI 2)) Cx dX5_structure_22 rfl (by decide) ?_
  refine j_goto (tgt := 27) Cx dX5_structure_23 (by decide) ?_
  refine j_put (pc' := 30) (N := 15) (t := .int) (ws' := [(m, .inr (5, [.int (nI W), .int (nI H), .int (nI C), .int (nI 2), .ref o1, .ref o2, .int (nI nw), .int (nI nh), .ref go, .ref gt, .ref po, .ref pt, .ref my, .ref no, .ref so]))]) Cx dX5_structure_27 rfl kin_X5_structure_X5 kfl_X5_structure_48 tyX5_ok nmX5 0 rfl rfl 3 rfl rfl rfl rfl rfl rfl rfl ?_
  refine j_aload_n (pc' := 31) Cx dX5_structure_30 rfl rfl rfl ?_
  refine j_get (pc' := 34) (N := 15) Cx dX5_structure_31 rfl kin_X5_structure_X5 kfl_X5_structure_48 0 rfl rfl 3 rfl rfl rfl ?_
  refine j_if_le_n (tgt := 39) (pc' := 37) Cx dX5_structure_34 (by decide) rfl (by omega) (fun hh => absurd hh (by decide)) (fun _ => ?_)
  refine j_dconst0 (pc' := 38) Cx dX5_structure_37 rfl ?_
  exact j_dret Cx dX5_structure_38 R0 ⟨Nat.le_of_ble_eq_true rfl, Nat.le_of_ble_eq_true rfl⟩ (⟨_, rfl, rfl, rfl⟩)

set_option maxHeartbeats 4000000 in
set_option maxRecDepth 100000 in
theorem c_X5_map_ok (l : Launch) (D : va_G) (ty : Nat → ClassId) (m o1 o2 go gt po pt my no so W H C : Nat) (nw nh : Nat) (fa : Int32) (hW : W ≤ 24) (hH : H ≤ 24) (hW1 : 1 ≤ W) (hH1 : 1 ≤ H) (h1 : 1 ≤ C) (h3 : C ≤ 3) (O T A B : Nat → Nat) (hO : ∀ i, O i < 256) (hT : ∀ i, T i < 256) (hrA : krel C (W * H) O A) (hrB : krel C (W * H) T B) (F G : Nat → Nat) (hF : ∀ i, F i < 256) (hG : ∀ i, G i < 256) (hA : ∀ i, A i < 256) (hB : ∀ i, B i < 256) (i j : Nat) (hi1 : 2 ≤ i) (hi2 : i + 2 < W) (hj1 : 2 ≤ j) (hj2 : j + 2 < H) : KM l yX5_map wsX5_map { frames := 3, cells := 0, slots := 0, locals := 120 } D ty [.ref m, .int (nI i), .int (nI j)] [(m, .inr (5, [.int (nI W), .int (nI H), .int (nI C), .int (fa), .ref o1, .ref o2, .int (nI nw), .int (nI nh), .ref go, .ref gt, .ref po, .ref pt, .ref my, .ref no, .ref so])), (o1, .inl (ty 0, 1728, .inl (kN O))), (o2, .inl (ty 0, 1728, .inl (kN T))), (go, .inl (ty 0, 576, .inl (kN F))), (gt, .inl (ty 0, 576, .inl (kN G)))] (kF (fun r u => r = kcell W (i - 2) (j - 2) (kg C A) (kg C B) ∧ ∃ (F2 G2 : Nat → Nat) (nw2 nh2 : Nat), (∀ i, F2 i < 256) ∧ (∀ i, G2 i < 256) ∧ u = [(m, .inr (5, [.int (nI W), .int (nI H), .int (nI C), .int (nI 0), .ref o1, .ref o2, .int (nI nw2), .int (nI nh2), .ref go, .ref gt, .ref po, .ref pt, .ref my, .ref no, .ref so])), (o1, .inl (ty 0, 1728, .inl (kN O))), (o2, .inl (ty 0, 1728, .inl (kN T))), (go, .inl (ty 0, 576, .inl (kN F2))), (gt, .inl (ty 0, 576, .inl (kN G2)))])) 0 0 := by
  refine KM.of (cc := cX5_map) (maxL := 3) (ret := (some .double)) (lv := [(0, .ref m), (1, .int (nI i)), (2, .int (nI j))]) (by decide +kernel) rfl rfl rfl (fun X C0 R0 => ?_)
  have Cx : kC X cX5_map wsX5_map RX5 { frames := 3, cells := 0, slots := 0, locals := 120 } "map" l D ty 3 := C0
  have hwh := k_wh hW hH
  have hgA := fun p => kg_lt (C := C) hA p
  have hgB := fun p => kg_lt (C := C) hB p
  have hF0 : ∀ i, (kfill (kg C A) F (W * H)) i < 256 := kfill_lt hgA hF (W * H)
  have hG0 : ∀ i, (kfill (kg C B) G (W * H)) i < 256 := kfill_lt hgB hG (W * H)
  have hFa : ∀ i, i < W * H → (kfill (kg C A) F (W * H)) i = kg C A i := fun i hi => kfill_in hi
  have hGa : ∀ i, i < W * H → (kfill (kg C B) G (W * H)) i = kg C B i := fun i hi => kfill_in hi
  refine j_aload_n (pc' := 1) Cx dX5_map_0 rfl rfl rfl ?_
  refine j_iload_n (pc' := 2) Cx dX5_map_1 rfl rfl rfl ?_
  refine j_iconst (pc' := 3) (v := (nI 2)) Cx dX5_map_2 rfl (by decide) ?_
  refine j_aload_n (pc' := 4) Cx dX5_map_3 rfl rfl rfl ?_
  refine j_get (pc' := 7) (N := 15) Cx dX5_map_4 rfl kin_X5_map_X5 kfl_X5_map_38 0 rfl rfl 0 rfl rfl rfl ?_
  refine j_iconst (pc' := 8) (v := (nI 3)) Cx dX5_map_7 rfl (by decide) ?_
  refine j_isub_n (pc' := 9) Cx dX5_map_8 rfl (by omega) ?_
  refine j_callS (pc' := 12) (wr := [(m, .inr (5, [.int (nI W), .int (nI H), .int (nI C), .int (fa), .ref o1, .ref o2, .int (nI nw), .int (nI nh), .ref go, .ref gt, .ref po, .ref pt, .ref my, .ref no, .ref so])), (o1, .inl (ty 0, 1728, .inl (kN O))), (o2, .inl (ty 0, 1728, .inl (kN T))), (go, .inl (ty 0, 576, .inl (kN F))), (gt, .inl (ty 0, 576, .inl (kN G)))]) (st := [.ref m]) Cx dX5_map_9 rfl (c_X5_in l D ty i 2 (W - 3) (by omega) (by omega) (by omega)) gX5_map_X5_in rfl khd_X5_in rfl ⟨rfl, rfl, Nat.le_of_ble_eq_true rfl, Nat.le_of_ble_eq_true rfl⟩ [] [0, 1, 2, 3, 4] rfl rfl ⟨rfl, rfl⟩ (by decide) rfl (Nat.le_of_ble_eq_true rfl) ⟨Nat.le_of_ble_eq_true rfl, Nat.le_of_ble_eq_true rfl⟩ (fun v u hpost => ?_)
  obtain ⟨r, rfl, rfl, rfl⟩ := hpost
  show J X [(m, .inr (5, [.int (nI W), .int (nI H), .int (nI C), .int (fa), .ref o1, .ref o2, .int (nI nw), .int (nI nh), .ref go, .ref gt, .ref po, .ref pt, .ref my, .ref no, .ref so])), (o1, .inl (ty 0, 1728, .inl (kN O))), (o2, .inl (ty 0, 1728, .inl (kN T))), (go, .inl (ty 0, 576, .inl (kN F))), (gt, .inl (ty 0, 576, .inl (kN G)))] [(0, .ref m), (1, .int (nI i)), (2, .int (nI j))] 12 [.int (nI 1), .ref m] 0 0
  refine j_if_eq_n (tgt := 33) (pc' := 15) Cx dX5_map_12 (by decide) rfl (by omega) (fun hh => absurd hh (by decide)) (fun _ => ?_)
  refine j_iload_n (pc' := 16) Cx dX5_map_15 rfl rfl rfl ?_
  refine j_iconst (pc' := 17) (v := (nI 2)) Cx dX5_map_16 rfl (by decide) ?_
  refine j_aload_n (pc' := 18) Cx dX5_map_17 rfl rfl rfl ?_
  refine j_get (pc' := 21) (N := 15) Cx dX5_map_18 rfl kin_X5_map_X5 kfl_X5_map_42 0 rfl rfl 1 rfl rfl rfl ?_
  refine j_iconst (pc' := 22) (v := (nI 3)) Cx dX5_map_21 rfl (by decide) ?_
  refine j_isub_n (pc' := 23) Cx dX5_map_22 rfl (by omega) ?_
  refine j_callS (pc' := 26) (wr := [(m, .inr (5, [.int (nI W), .int (nI H), .int (nI C), .int (fa), .ref o1, .ref o2, .int (nI nw), .int (nI nh), .ref go, .ref gt, .ref po, .ref pt, .ref my, .ref no, .ref so])), (o1, .inl (ty 0, 1728, .inl (kN O))), (o2, .inl (ty 0, 1728, .inl (kN T))), (go, .inl (ty 0, 576, .inl (kN F))), (gt, .inl (ty 0, 576, .inl (kN G)))]) (st := [.ref m]) Cx dX5_map_23 rfl (c_X5_in l D ty j 2 (H - 3) (by omega) (by omega) (by omega)) gX5_map_X5_in rfl khd_X5_in rfl ⟨rfl, rfl, Nat.le_of_ble_eq_true rfl, Nat.le_of_ble_eq_true rfl⟩ [] [0, 1, 2, 3, 4] rfl rfl ⟨rfl, rfl⟩ (by decide) rfl (Nat.le_of_ble_eq_true rfl) ⟨Nat.le_of_ble_eq_true rfl, Nat.le_of_ble_eq_true rfl⟩ (fun v u hpost => ?_)
  obtain ⟨r, rfl, rfl, rfl⟩ := hpost
  show J X [(m, .inr (5, [.int (nI W), .int (nI H), .int (nI C), .int (fa), .ref o1, .ref o2, .int (nI nw), .int (nI nh), .ref go, .ref gt, .ref po, .ref pt, .ref my, .ref no, .ref so])), (o1, .inl (ty 0, 1728, .inl (kN O))), (o2, .inl (ty 0, 1728, .inl (kN T))), (go, .inl (ty 0, 576, .inl (kN F))), (gt, .inl (ty 0, 576, .inl (kN G)))] [(0, .ref m), (1, .int (nI i)), (2, .int (nI j))] 26 [.int (nI 1), .ref m] 0 0
  refine j_if_eq_n (tgt := 33) (pc' := 29) Cx dX5_map_26 (by decide) rfl (by omega) (fun hh => absurd hh (by decide)) (fun _ => ?_)
  refine j_iconst (pc' := 30) (v := (nI 0)) Cx dX5_map_29 rfl (by decide) ?_
  refine j_goto (tgt := 34) Cx dX5_map_30 (by decide) ?_
  refine j_put (pc' := 37) (N := 15) (t := .int) (ws' := [(m, .inr (5, [.int (nI W), .int (nI H), .int (nI C), .int (nI 0), .ref o1, .ref o2, .int (nI nw), .int (nI nh), .ref go, .ref gt, .ref po, .ref pt, .ref my, .ref no, .ref so])), (o1, .inl (ty 0, 1728, .inl (kN O))), (o2, .inl (ty 0, 1728, .inl (kN T))), (go, .inl (ty 0, 576, .inl (kN F))), (gt, .inl (ty 0, 576, .inl (kN G)))]) Cx dX5_map_34 rfl kin_X5_map_X5 kfl_X5_map_48 tyX5_ok nmX5 0 rfl rfl 3 rfl rfl rfl rfl rfl rfl rfl ?_
  refine j_aload_n (pc' := 38) Cx dX5_map_37 rfl rfl rfl ?_
  refine j_get (pc' := 41) (N := 15) Cx dX5_map_38 rfl kin_X5_map_X5 kfl_X5_map_48 0 rfl rfl 3 rfl rfl rfl ?_
  refine j_if_le_n (tgt := 46) (pc' := 44) Cx dX5_map_41 (by decide) rfl (by omega) (fun _ => ?_) (fun hh => absurd hh (by decide))
  refine j_aload_n (pc' := 47) Cx dX5_map_46 rfl rfl rfl ?_
  refine j_callV (pc' := 50) (wr := []) (st := []) Cx dX5_map_47 rfl (c_X5_makeGrey l D ty m o1 o2 go gt po pt my no so W H C nw nh (nI 0) hW hH hW1 hH1 h1 h3 O T A B hO hT hrA hrB F G) gX5_map_X5_makeGrey rfl khd_X5_makeGrey rfl ⟨rfl, rfl, Nat.le_of_ble_eq_true rfl, Nat.le_of_ble_eq_true rfl⟩ [0, 1, 2, 3, 4] [] rfl rfl ⟨rfl, rfl⟩ (by decide) 0 rfl rfl rfl (Nat.le_of_ble_eq_true rfl) ⟨Nat.le_of_ble_eq_true rfl, Nat.le_of_ble_eq_true rfl⟩ (fun v u hpost => ?_)
  obtain ⟨rfl, rfl⟩ := hpost
  show J X [(m, .inr (5, [.int (nI W), .int (nI H), .int (nI C), .int (nI 0), .ref o1, .ref o2, .int (nI W), .int (nI H), .ref go, .ref gt, .ref po, .ref pt, .ref my, .ref no, .ref so])), (o1, .inl (ty 0, 1728, .inl (kN O))), (o2, .inl (ty 0, 1728, .inl (kN T))), (go, .inl (ty 0, 576, .inl (kN (kfill (kg C A) F (W * H))))), (gt, .inl (ty 0, 576, .inl (kN (kfill (kg C B) G (W * H)))))] [(0, .ref m), (1, .int (nI i)), (2, .int (nI j))] 50 [] 0 0
  refine j_aload_n (pc' := 51) Cx dX5_map_50 rfl rfl rfl ?_
  refine j_iload_n (pc' := 52) Cx dX5_map_51 rfl rfl rfl ?_
  refine j_iconst (pc' := 53) (v := (nI 2)) Cx dX5_map_52 rfl (by decide) ?_
  refine j_isub_n (pc' := 54) Cx dX5_map_53 rfl (by omega) ?_
  refine j_iload_n (pc' := 55) Cx dX5_map_54 rfl rfl rfl ?_
  refine j_iconst (pc' := 56) (v := (nI 2)) Cx dX5_map_55 rfl (by decide) ?_
  refine j_isub_n (pc' := 57) Cx dX5_map_56 rfl (by omega) ?_
  refine j_callV (pc' := 60) (wr := [(o1, .inl (ty 0, 1728, .inl (kN O))), (o2, .inl (ty 0, 1728, .inl (kN T)))]) (st := []) Cx dX5_map_57 rfl (c_X5_cell l D ty m o1 o2 go gt po pt my no so W H C W H (nI 0) hW hH hW1 hH1 h1 h3 (kfill (kg C A) F (W * H)) (kfill (kg C B) G (W * H)) hF0 hG0 hW hH (i - 2) (j - 2) (by omega) (by omega)) gX5_map_X5_cell rfl khd_X5_cell rfl ⟨rfl, rfl, Nat.le_of_ble_eq_true rfl, Nat.le_of_ble_eq_true rfl⟩ [0, 3, 4] [1, 2] rfl rfl ⟨rfl, rfl⟩ (by decide) 0 rfl rfl rfl (Nat.le_of_ble_eq_true rfl) ⟨Nat.le_of_ble_eq_true rfl, Nat.le_of_ble_eq_true rfl⟩ (fun v u hpost => ?_)
  obtain ⟨r, rfl, rfl, rfl⟩ := hpost
  show J X [(o1, .inl (ty 0, 1728, .inl (kN O))), (o2, .inl (ty 0, 1728, .inl (kN T))), (m, .inr (5, [.int (nI W), .int (nI H), .int (nI C), .int (nI 0), .ref o1, .ref o2, .int (nI W), .int (nI H), .ref go, .ref gt, .ref po, .ref pt, .ref my, .ref no, .ref so])), (go, .inl (ty 0, 576, .inl (kN (kfill (kg C A) F (W * H))))), (gt, .inl (ty 0, 576, .inl (kN (kfill (kg C B) G (W * H)))))] [(0, .ref m), (1, .int (nI i)), (2, .int (nI j))] 60 [.double (kcell W (i - 2) (j - 2) (kfill (kg C A) F (W * H)) (kfill (kg C B) G (W * H)))] 0 0
  refine J.sub (ws' := [(m, .inr (5, [.int (nI W), .int (nI H), .int (nI C), .int (nI 0), .ref o1, .ref o2, .int (nI W), .int (nI H), .ref go, .ref gt, .ref po, .ref pt, .ref my, .ref no, .ref so])), (o1, .inl (ty 0, 1728, .inl (kN O))), (o2, .inl (ty 0, 1728, .inl (kN T))), (go, .inl (ty 0, 576, .inl (kN (kfill (kg C A) F (W * H))))), (gt, .inl (ty 0, 576, .inl (kN (kfill (kg C B) G (W * H)))))]) [2, 0, 1, 3, 4] rfl rfl ?_
  exact j_dret Cx dX5_map_60 R0 ⟨Nat.le_of_ble_eq_true rfl, Nat.le_of_ble_eq_true rfl⟩ (⟨_, rfl, k_cell_cong hFa hGa (by omega) (by omega), kfill (kg C A) F (W * H), kfill (kg C B) G (W * H), W, H, hF0, hG0, rfl⟩)

set_option maxHeartbeats 4000000 in
set_option maxRecDepth 100000 in
theorem c_X5_map_1 (l : Launch) (D : va_G) (ty : Nat → ClassId) (m o1 o2 go gt po pt my no so W H C : Nat) (nw nh : Nat) (fa : Int32) (hW : W ≤ 24) (hH : H ≤ 24) (hW1 : 1 ≤ W) (hH1 : 1 ≤ H) (h1 : 1 ≤ C) (h3 : C ≤ 3) (x y : Int32) (hno : ¬ ∃ i j : Nat, 2 ≤ i ∧ i + 2 < W ∧ 2 ≤ j ∧ j + 2 < H ∧ x = nI i ∧ y = nI j) : KM l yX5_map wsX5_map { frames := 3, cells := 0, slots := 0, locals := 120 } D ty [.ref m, .int (x), .int (y)] [(m, .inr (5, [.int (nI W), .int (nI H), .int (nI C), .int (fa), .ref o1, .ref o2, .int (nI nw), .int (nI nh), .ref go, .ref gt, .ref po, .ref pt, .ref my, .ref no, .ref so]))] (kF (fun r u => r = 0 ∧ u = [(m, .inr (5, [.int (nI W), .int (nI H), .int (nI C), .int (nI 1), .ref o1, .ref o2, .int (nI nw), .int (nI nh), .ref go, .ref gt, .ref po, .ref pt, .ref my, .ref no, .ref so]))])) 0 0 := by
  refine KM.of (cc := cX5_map) (maxL := 3) (ret := (some .double)) (lv := [(0, .ref m), (1, .int (x)), (2, .int (y))]) (by decide +kernel) rfl rfl rfl (fun X C0 R0 => ?_)
  have Cx : kC X cX5_map wsX5_map RX5 { frames := 3, cells := 0, slots := 0, locals := 120 } "map" l D ty 3 := C0
  by_cases hx : ∃ i : Nat, x = nI i ∧ 2 ≤ i ∧ i + 2 < W
  · obtain ⟨i, rfl, hi1, hi2⟩ := hx
    have hy : ¬ ∃ j : Nat, y = nI j ∧ 2 ≤ j ∧ j + 2 < H := fun ⟨j, e, a, b⟩ => hno ⟨i, j, hi1, hi2, a, b, rfl, e⟩
    refine j_aload_n (pc' := 1) Cx dX5_map_0 rfl rfl rfl ?_
    refine j_iload_n (pc' := 2) Cx dX5_map_1 rfl rfl rfl ?_
    refine j_iconst (pc' := 3) (v := (nI 2)) Cx dX5_map_2 rfl (by decide) ?_
    refine j_aload_n (pc' := 4) Cx dX5_map_3 rfl rfl rfl ?_
    refine j_get (pc' := 7) (N := 15) Cx dX5_map_4 rfl kin_X5_map_X5 kfl_X5_map_38 0 rfl rfl 0 rfl rfl rfl ?_
    refine j_iconst (pc' := 8) (v := (nI 3)) Cx dX5_map_7 rfl (by decide) ?_
    refine j_isub_n (pc' := 9) Cx dX5_map_8 rfl (by omega) ?_
    refine j_callS (pc' := 12) (wr := [(m, .inr (5, [.int (nI W), .int (nI H), .int (nI C), .int (fa), .ref o1, .ref o2, .int (nI nw), .int (nI nh), .ref go, .ref gt, .ref po, .ref pt, .ref my, .ref no, .ref so]))]) (st := [.ref m]) Cx dX5_map_9 rfl (c_X5_in l D ty i 2 (W - 3) (by omega) (by omega) (by omega)) gX5_map_X5_in rfl khd_X5_in rfl ⟨rfl, rfl, Nat.le_of_ble_eq_true rfl, Nat.le_of_ble_eq_true rfl⟩ [] [0] rfl rfl ⟨rfl, rfl⟩ (by decide) rfl (Nat.le_of_ble_eq_true rfl) ⟨Nat.le_of_ble_eq_true rfl, Nat.le_of_ble_eq_true rfl⟩ (fun v u hpost => ?_)
    obtain ⟨r, rfl, rfl, rfl⟩ := hpost
    show J X [(m, .inr (5, [.int (nI W), .int (nI H), .int (nI C), .int (fa), .ref o1, .ref o2, .int (nI nw), .int (nI nh), .ref go, .ref gt, .ref po, .ref pt, .ref my, .ref no, .ref so]))] [(0, .ref m), (1, .int (nI i)), (2, .int (y))] 12 [.int (nI 1), .ref m] 0 0
    refine j_if_eq_n (tgt := 33) (pc' := 15) Cx dX5_map_12 (by decide) rfl (by omega) (fun hh => absurd hh (by decide)) (fun _ => ?_)
    refine j_iload_n (pc' := 16) Cx dX5_map_15 rfl rfl rfl ?_
    refine j_iconst (pc' := 17) (v := (nI 2)) Cx dX5_map_16 rfl (by decide) ?_
    refine j_aload_n (pc' := 18) Cx dX5_map_17 rfl rfl rfl ?_
    refine j_get (pc' := 21) (N := 15) Cx dX5_map_18 rfl kin_X5_map_X5 kfl_X5_map_42 0 rfl rfl 1 rfl rfl rfl ?_
    refine j_iconst (pc' := 22) (v := (nI 3)) Cx dX5_map_21 rfl (by decide) ?_
    refine j_isub (pc' := 23) Cx dX5_map_22 rfl ?_
    refine j_callS (pc' := 26) (wr := [(m, .inr (5, [.int (nI W), .int (nI H), .int (nI C), .int (fa), .ref o1, .ref o2, .int (nI nw), .int (nI nh), .ref go, .ref gt, .ref po, .ref pt, .ref my, .ref no, .ref so]))]) (st := [.ref m]) Cx dX5_map_23 rfl (c_X5_in_no l D ty y (nI 2) (nI H - nI 3) (k_mapout hH hy)) gX5_map_X5_in rfl khd_X5_in rfl ⟨rfl, rfl, Nat.le_of_ble_eq_true rfl, Nat.le_of_ble_eq_true rfl⟩ [] [0] rfl rfl ⟨rfl, rfl⟩ (by decide) rfl (Nat.le_of_ble_eq_true rfl) ⟨Nat.le_of_ble_eq_true rfl, Nat.le_of_ble_eq_true rfl⟩ (fun v u hpost => ?_)
    obtain ⟨r, rfl, rfl, rfl⟩ := hpost
    show J X [(m, .inr (5, [.int (nI W), .int (nI H), .int (nI C), .int (fa), .ref o1, .ref o2, .int (nI nw), .int (nI nh), .ref go, .ref gt, .ref po, .ref pt, .ref my, .ref no, .ref so]))] [(0, .ref m), (1, .int (nI i)), (2, .int (y))] 26 [.int (nI 0), .ref m] 0 0
    refine j_if_eq_n (tgt := 33) (pc' := 29) Cx dX5_map_26 (by decide) rfl (by omega) (fun _ => ?_) (fun hh => absurd hh (by decide))
    refine j_iconst (pc' := 34) (v := (nI 1)) Cx dX5_map_33 rfl (by decide) ?_
    refine j_put (pc' := 37) (N := 15) (t := .int) (ws' := [(m, .inr (5, [.int (nI W), .int (nI H), .int (nI C), .int (nI 1), .ref o1, .ref o2, .int (nI nw), .int (nI nh), .ref go, .ref gt, .ref po, .ref pt, .ref my, .ref no, .ref so]))]) Cx dX5_map_34 rfl kin_X5_map_X5 kfl_X5_map_48 tyX5_ok nmX5 0 rfl rfl 3 rfl rfl rfl rfl rfl rfl rfl ?_
    refine j_aload_n (pc' := 38) Cx dX5_map_37 rfl rfl rfl ?_
    refine j_get (pc' := 41) (N := 15) Cx dX5_map_38 rfl kin_X5_map_X5 kfl_X5_map_48 0 rfl rfl 3 rfl rfl rfl ?_
    refine j_if_le_n (tgt := 46) (pc' := 44) Cx dX5_map_41 (by decide) rfl (by omega) (fun hh => absurd hh (by decide)) (fun _ => ?_)
    refine j_dconst0 (pc' := 45) Cx dX5_map_44 rfl ?_
    exact j_dret Cx dX5_map_45 R0 ⟨Nat.le_of_ble_eq_true rfl, Nat.le_of_ble_eq_true rfl⟩ (⟨_, rfl, rfl, rfl⟩)
  · refine j_aload_n (pc' := 1) Cx dX5_map_0 rfl rfl rfl ?_
    refine j_iload_n (pc' := 2) Cx dX5_map_1 rfl rfl rfl ?_
    refine j_iconst (pc' := 3) (v := (nI 2)) Cx dX5_map_2 rfl (by decide) ?_
    refine j_aload_n (pc' := 4) Cx dX5_map_3 rfl rfl rfl ?_
    refine j_get (pc' := 7) (N := 15) Cx dX5_map_4 rfl kin_X5_map_X5 kfl_X5_map_38 0 rfl rfl 0 rfl rfl rfl ?_
    refine j_iconst (pc' := 8) (v := (nI 3)) Cx dX5_map_7 rfl (by decide) ?_
    refine j_isub (pc' := 9) Cx dX5_map_8 rfl ?_
    refine j_callS (pc' := 12) (wr := [(m, .inr (5, [.int (nI W), .int (nI H), .int (nI C), .int (fa), .ref o1, .ref o2, .int (nI nw), .int (nI nh), .ref go, .ref gt, .ref po, .ref pt, .ref my, .ref no, .ref so]))]) (st := [.ref m]) Cx dX5_map_9 rfl (c_X5_in_no l D ty x (nI 2) (nI W - nI 3) (k_mapout hW hx)) gX5_map_X5_in rfl khd_X5_in rfl ⟨rfl, rfl, Nat.le_of_ble_eq_true rfl, Nat.le_of_ble_eq_true rfl⟩ [] [0] rfl rfl ⟨rfl, rfl⟩ (by decide) rfl (Nat.le_of_ble_eq_true rfl) ⟨Nat.le_of_ble_eq_true rfl, Nat.le_of_ble_eq_true rfl⟩ (fun v u hpost => ?_)
    obtain ⟨r, rfl, rfl, rfl⟩ := hpost
    show J X [(m, .inr (5, [.int (nI W), .int (nI H), .int (nI C), .int (fa), .ref o1, .ref o2, .int (nI nw), .int (nI nh), .ref go, .ref gt, .ref po, .ref pt, .ref my, .ref no, .ref so]))] [(0, .ref m), (1, .int (x)), (2, .int (y))] 12 [.int (nI 0), .ref m] 0 0
    refine j_if_eq_n (tgt := 33) (pc' := 15) Cx dX5_map_12 (by decide) rfl (by omega) (fun _ => ?_) (fun hh => absurd hh (by decide))
    refine j_iconst (pc' := 34) (v := (nI 1)) Cx dX5_map_33 rfl (by decide) ?_
    refine j_put (pc' := 37) (N := 15) (t := .int) (ws' := [(m, .inr (5, [.int (nI W), .int (nI H), .int (nI C), .int (nI 1), .ref o1, .ref o2, .int (nI nw), .int (nI nh), .ref go, .ref gt, .ref po, .ref pt, .ref my, .ref no, .ref so]))]) Cx dX5_map_34 rfl kin_X5_map_X5 kfl_X5_map_48 tyX5_ok nmX5 0 rfl rfl 3 rfl rfl rfl rfl rfl rfl rfl ?_
    refine j_aload_n (pc' := 38) Cx dX5_map_37 rfl rfl rfl ?_
    refine j_get (pc' := 41) (N := 15) Cx dX5_map_38 rfl kin_X5_map_X5 kfl_X5_map_48 0 rfl rfl 3 rfl rfl rfl ?_
    refine j_if_le_n (tgt := 46) (pc' := 44) Cx dX5_map_41 (by decide) rfl (by omega) (fun hh => absurd hh (by decide)) (fun _ => ?_)
    refine j_dconst0 (pc' := 45) Cx dX5_map_44 rfl ?_
    exact j_dret Cx dX5_map_45 R0 ⟨Nat.le_of_ble_eq_true rfl, Nat.le_of_ble_eq_true rfl⟩ (⟨_, rfl, rfl, rfl⟩)

set_option maxHeartbeats 4000000 in
set_option maxRecDepth 100000 in
/-- blocks, of the other one -/
theorem c_X5_blocks_ok (l : Launch) (D : va_G) (ty : Nat → ClassId) (m o1 o2 go gt po pt my no so W H C : Nat) (nw nh : Nat) (fa : Int32) (hW : W ≤ 24) (hH : H ≤ 24) (hW1 : 1 ≤ W) (hH1 : 1 ≤ H) (h1 : 1 ≤ C) (h3 : C ≤ 3) (O T A B : Nat → Nat) (hO : ∀ i, O i < 256) (hT : ∀ i, T i < 256) (hrA : krel C (W * H) O A) (hrB : krel C (W * H) T B) (F G : Nat → Nat) (hF : ∀ i, F i < 256) (hG : ∀ i, G i < 256) (hA : ∀ i, A i < 256) (hB : ∀ i, B i < 256) (n : Nat) (hn1 : 2 ≤ n) (hn2 : n ≤ 24) : KM l yX5_blocks wsX5_blocks { frames := 3, cells := 0, slots := 0, locals := 120 } D ty [.ref m, .int (nI n)] [(m, .inr (5, [.int (nI W), .int (nI H), .int (nI C), .int (fa), .ref o1, .ref o2, .int (nI nw), .int (nI nh), .ref go, .ref gt, .ref po, .ref pt, .ref my, .ref no, .ref so])), (o1, .inl (ty 0, 1728, .inl (kN O))), (o2, .inl (ty 0, 1728, .inl (kN T))), (go, .inl (ty 0, 576, .inl (kN F))), (gt, .inl (ty 0, 576, .inl (kN G)))] (kF (fun r u => r = kblockv (k2s (kbe n) (W - 1) H 0) (k2s (kbo n) (W - 1) H 0) (k2s (kbes n C W B) (W - 1) H 0) (k2s (kbos n C W B) (W - 1) H 0) ∧ ∃ (F2 G2 : Nat → Nat) (nw2 nh2 : Nat), (∀ i, F2 i < 256) ∧ (∀ i, G2 i < 256) ∧ u = [(m, .inr (5, [.int (nI W), .int (nI H), .int (nI C), .int (nI 0), .ref o1, .ref o2, .int (nI nw2), .int (nI nh2), .ref go, .ref gt, .ref po, .ref pt, .ref my, .ref no, .ref so])), (o1, .inl (ty 0, 1728, .inl (kN O))), (o2, .inl (ty 0, 1728, .inl (kN T))), (go, .inl (ty 0, 576, .inl (kN F2))), (gt, .inl (ty 0, 576, .inl (kN G2)))])) 0 0 := by
  refine KM.of (cc := cX5_blocks) (maxL := 12) (ret := (some .double)) (lv := [(0, .ref m), (1, .int (nI n))]) (by decide +kernel) rfl rfl rfl (fun X C0 R0 => ?_)
  have Cx : kC X cX5_blocks wsX5_blocks RX5 { frames := 3, cells := 0, slots := 0, locals := 120 } "blocks" l D ty 12 := C0
  have hwh := k_wh hW hH
  have hgA := fun p => kg_lt (C := C) hA p
  have hgB := fun p => kg_lt (C := C) hB p
  have hF0 : ∀ i, (kfill (kg C A) F (W * H)) i < 256 := kfill_lt hgA hF (W * H)
  have hG0 : ∀ i, (kfill (kg C B) G (W * H)) i < 256 := kfill_lt hgB hG (W * H)
  have hFa : ∀ i, i < W * H → (kfill (kg C A) F (W * H)) i = kg C A i := fun i hi => kfill_in hi
  have hGa : ∀ i, i < W * H → (kfill (kg C B) G (W * H)) i = kg C B i := fun i hi => kfill_in hi
  refine j_aload_n (pc' := 1) Cx dX5_blocks_0 rfl rfl rfl ?_
  refine j_iload_n (pc' := 2) Cx dX5_blocks_1 rfl rfl rfl ?_
  refine j_iconst (pc' := 3) (v := (nI 2)) Cx dX5_blocks_2 rfl (by decide) ?_
  refine j_bipush (pc' := 5) (v := (nI 24)) Cx dX5_blocks_3 rfl (by decide) ?_
  refine j_callS (pc' := 8) (wr := [(m, .inr (5, [.int (nI W), .int (nI H), .int (nI C), .int (fa), .ref o1, .ref o2, .int (nI nw), .int (nI nh), .ref go, .ref gt, .ref po, .ref pt, .ref my, .ref no, .ref so])), (o1, .inl (ty 0, 1728, .inl (kN O))), (o2, .inl (ty 0, 1728, .inl (kN T))), (go, .inl (ty 0, 576, .inl (kN F))), (gt, .inl (ty 0, 576, .inl (kN G)))]) (st := [.ref m]) Cx dX5_blocks_5 rfl (c_X5_in l D ty n 2 24 hn1 hn2 (by decide)) gX5_blocks_X5_in rfl khd_X5_in rfl ⟨rfl, rfl, Nat.le_of_ble_eq_true rfl, Nat.le_of_ble_eq_true rfl⟩ [] [0, 1, 2, 3, 4] rfl rfl ⟨rfl, rfl⟩ (by decide) rfl (Nat.le_of_ble_eq_true rfl) ⟨Nat.le_of_ble_eq_true rfl, Nat.le_of_ble_eq_true rfl⟩ (fun v u hpost => ?_)
  obtain ⟨r, rfl, rfl, rfl⟩ := hpost
  show J X [(m, .inr (5, [.int (nI W), .int (nI H), .int (nI C), .int (fa), .ref o1, .ref o2, .int (nI nw), .int (nI nh), .ref go, .ref gt, .ref po, .ref pt, .ref my, .ref no, .ref so])), (o1, .inl (ty 0, 1728, .inl (kN O))), (o2, .inl (ty 0, 1728, .inl (kN T))), (go, .inl (ty 0, 576, .inl (kN F))), (gt, .inl (ty 0, 576, .inl (kN G)))] [(0, .ref m), (1, .int (nI n))] 8 [.int (nI 1), .ref m] 0 0
  refine j_if_eq_n (tgt := 15) (pc' := 11) Cx dX5_blocks_8 (by decide) rfl (by omega) (fun hh => absurd hh (by decide)) (fun _ => ?_)
  refine j_iconst (pc' := 12) (v := (nI 0)) Cx dX5_blocks_11 rfl (by decide) ?_
  refine j_goto (tgt := 16) Cx dX5_blocks_12 (by decide) ?_
  refine j_put (pc' := 19) (N := 15) (t := .int) (ws' := [(m, .inr (5, [.int (nI W), .int (nI H), .int (nI C), .int (nI 0), .ref o1, .ref o2, .int (nI nw), .int (nI nh), .ref go, .ref gt, .ref po, .ref pt, .ref my, .ref no, .ref so])), (o1, .inl (ty 0, 1728, .inl (kN O))), (o2, .inl (ty 0, 1728, .inl (kN T))), (go, .inl (ty 0, 576, .inl (kN F))), (gt, .inl (ty 0, 576, .inl (kN G)))]) Cx dX5_blocks_16 rfl kin_X5_blocks_X5 kfl_X5_blocks_48 tyX5_ok nmX5 0 rfl rfl 3 rfl rfl rfl rfl rfl rfl rfl ?_
  refine j_aload_n (pc' := 20) Cx dX5_blocks_19 rfl rfl rfl ?_
  refine j_get (pc' := 23) (N := 15) Cx dX5_blocks_20 rfl kin_X5_blocks_X5 kfl_X5_blocks_48 0 rfl rfl 3 rfl rfl rfl ?_
  refine j_if_le_n (tgt := 28) (pc' := 26) Cx dX5_blocks_23 (by decide) rfl (by omega) (fun _ => ?_) (fun hh => absurd hh (by decide))
  refine j_aload_n (pc' := 29) Cx dX5_blocks_28 rfl rfl rfl ?_
  refine j_callV (pc' := 32) (wr := []) (st := []) Cx dX5_blocks_29 rfl (c_X5_makeGrey l D ty m o1 o2 go gt po pt my no so W H C nw nh (nI 0) hW hH hW1 hH1 h1 h3 O T A B hO hT hrA hrB F G) gX5_blocks_X5_makeGrey rfl khd_X5_makeGrey rfl ⟨rfl, rfl, Nat.le_of_ble_eq_true rfl, Nat.le_of_ble_eq_true rfl⟩ [0, 1, 2, 3, 4] [] rfl rfl ⟨rfl, rfl⟩ (by decide) 0 rfl rfl rfl (Nat.le_of_ble_eq_true rfl) ⟨Nat.le_of_ble_eq_true rfl, Nat.le_of_ble_eq_true rfl⟩ (fun v u hpost => ?_)
  obtain ⟨rfl, rfl⟩ := hpost
  show J X [(m, .inr (5, [.int (nI W), .int (nI H), .int (nI C), .int (nI 0), .ref o1, .ref o2, .int (nI W), .int (nI H), .ref go, .ref gt, .ref po, .ref pt, .ref my, .ref no, .ref so])), (o1, .inl (ty 0, 1728, .inl (kN O))), (o2, .inl (ty 0, 1728, .inl (kN T))), (go, .inl (ty 0, 576, .inl (kN (kfill (kg C A) F (W * H))))), (gt, .inl (ty 0, 576, .inl (kN (kfill (kg C B) G (W * H)))))] [(0, .ref m), (1, .int (nI n))] 32 [] 0 0
  refine j_lconst (pc' := 33) (v := (lN 0)) Cx dX5_blocks_32 rfl rfl ?_
  refine j_lstore_n (pc' := 34) (lv' := [(0, .ref m), (1, .int (nI n)), (2, .long (lN 0))]) Cx dX5_blocks_33 rfl rfl (by decide) rfl ?_
  refine j_lconst (pc' := 35) (v := (lN 0)) Cx dX5_blocks_34 rfl rfl ?_
  refine j_lstore (pc' := 37) (lv' := [(0, .ref m), (1, .int (nI n)), (2, .long (lN 0)), (4, .long (lN 0))]) Cx dX5_blocks_35 rfl (by decide) rfl ?_
  refine j_iconst (pc' := 38) (v := (nI 0)) Cx dX5_blocks_37 rfl (by decide) ?_
  refine j_istore (pc' := 40) (lv' := [(0, .ref m), (1, .int (nI n)), (2, .long (lN 0)), (4, .long (lN 0)), (6, .int (nI 0))]) Cx dX5_blocks_38 rfl (by decide) rfl ?_
  refine j_iconst (pc' := 41) (v := (nI 0)) Cx dX5_blocks_40 rfl (by decide) ?_
  refine j_istore (pc' := 43) (lv' := [(0, .ref m), (1, .int (nI n)), (2, .long (lN 0)), (4, .long (lN 0)), (6, .int (nI 0)), (7, .int (nI 0))]) Cx dX5_blocks_41 rfl (by decide) rfl ?_
  refine j_iconst (pc' := 44) (v := (nI 0)) Cx dX5_blocks_43 rfl (by decide) ?_
  refine j_istore (pc' := 46) (lv' := [(0, .ref m), (1, .int (nI n)), (2, .long (lN 0)), (4, .long (lN 0)), (6, .int (nI 0)), (7, .int (nI 0)), (8, .int (nI 0))]) Cx dX5_blocks_44 rfl (by decide) rfl ?_
  have LP : ∀ (LP_n : Nat), ∀ (y : Nat), (H - y < LP_n) → (y ≤ H) → J X [(m, .inr (5, [.int (nI W), .int (nI H), .int (nI C), .int (nI 0), .ref o1, .ref o2, .int (nI W), .int (nI H), .ref go, .ref gt, .ref po, .ref pt, .ref my, .ref no, .ref so])), (o1, .inl (ty 0, 1728, .inl (kN O))), (o2, .inl (ty 0, 1728, .inl (kN T))), (go, .inl (ty 0, 576, .inl (kN (kfill (kg C A) F (W * H))))), (gt, .inl (ty 0, 576, .inl (kN (kfill (kg C B) G (W * H)))))] [(0, .ref m), (1, .int (nI n)), (2, .long (lN (k2s (kbes n C W B) (W - 1) y 0))), (4, .long (lN (k2s (kbos n C W B) (W - 1) y 0))), (6, .int (nI (k2s (kbe n) (W - 1) y 0))), (7, .int (nI (k2s (kbo n) (W - 1) y 0))), (8, .int (nI y))] 46 [] 0 0 := by
    intro LP_n
    induction LP_n with
    | zero =>
      intro y hms _
      exact absurd hms (Nat.not_lt_zero _)
    | succ LP_n LP_ih =>
      intro y LP_m hle
      have b1 := k2s_le (w := W - 1) (y := y) (a := 0) (h := 24) (kbe_le n) (by omega) (Nat.zero_le _)
      have b2 := k2s_le (w := W - 1) (y := y) (a := 0) (h := 24) (kbo_le n) (by omega) (Nat.zero_le _)
      have b3 : (24 + 1) * ((W - 1) * 1) ≤ 25 * 24 := by omega
      refine j_iload (pc' := 48) Cx dX5_blocks_46 rfl rfl ?_
      refine j_aload_n (pc' := 49) Cx dX5_blocks_48 rfl rfl rfl ?_
      refine j_get (pc' := 52) (N := 15) Cx dX5_blocks_49 rfl kin_X5_blocks_X5 kfl_X5_blocks_42 0 rfl rfl 1 rfl rfl rfl ?_
      refine j_icmp_ge_n (tgt := 205) (pc' := 55) Cx dX5_blocks_52 (by decide) rfl (by omega) (by omega) (fun hy => ?_) (fun hy => ?_)
      · have e : y = H := by omega
        subst e
        refine j_iload (pc' := 207) Cx dX5_blocks_205 rfl rfl ?_
        refine j_if_eq_n (tgt := 215) (pc' := 210) Cx dX5_blocks_207 (by decide) rfl (by omega) (fun he => ?_) (fun he => ?_)
        · refine j_dconst0 (pc' := 216) Cx dX5_blocks_215 rfl ?_
          refine j_goto (tgt := 233) Cx dX5_blocks_216 (by decide) ?_
          exact j_dret Cx dX5_blocks_233 R0 ⟨Nat.le_of_ble_eq_true rfl, Nat.le_of_ble_eq_true rfl⟩ (⟨_, rfl, (if_pos (Or.inl he)).symm, kfill (kg C A) F (W * y), kfill (kg C B) G (W * y), W, y, hF0, hG0, rfl⟩)
        · refine j_iload (pc' := 212) Cx dX5_blocks_210 rfl rfl ?_
          refine j_if_ne_n (tgt := 219) (pc' := 215) Cx dX5_blocks_212 (by decide) rfl (by omega) (fun ho => ?_) (fun ho => ?_)
          · refine j_lload_n (pc' := 220) Cx dX5_blocks_219 rfl rfl rfl ?_
            refine j_l2d (pc' := 221) Cx dX5_blocks_220 rfl ?_
            refine j_iload (pc' := 223) Cx dX5_blocks_221 rfl rfl ?_
            refine j_i2d (pc' := 224) Cx dX5_blocks_223 rfl ?_
            refine j_ddiv (pc' := 225) Cx dX5_blocks_224 rfl (k_ddiv_no (k_noNaN (FP.Core.l2d_fin _).notNaN) (Nat.pos_of_ne_zero he) (by omega)) ?_
            refine j_lload (pc' := 227) Cx dX5_blocks_225 rfl rfl ?_
            refine j_l2d (pc' := 228) Cx dX5_blocks_227 rfl ?_
            refine j_iload (pc' := 230) Cx dX5_blocks_228 rfl rfl ?_
            refine j_i2d (pc' := 231) Cx dX5_blocks_230 rfl ?_
            refine j_ddiv (pc' := 232) Cx dX5_blocks_231 rfl (k_ddiv_no (k_noNaN (FP.Core.l2d_fin _).notNaN) (Nat.pos_of_ne_zero ho) (by omega)) ?_
            refine j_dsub (pc' := 233) Cx dX5_blocks_232 rfl (k_noNaN (FP.Core.dsub_out (k_q_fin (Nat.pos_of_ne_zero he) (by omega)).notNaN (k_q_fin (Nat.pos_of_ne_zero ho) (by omega)))) ?_
            exact j_dret Cx dX5_blocks_233 R0 ⟨Nat.le_of_ble_eq_true rfl, Nat.le_of_ble_eq_true rfl⟩ (⟨_, rfl, (if_neg (fun e => e.elim he ho)).symm, kfill (kg C A) F (W * y), kfill (kg C B) G (W * y), W, y, hF0, hG0, rfl⟩)
          · refine j_dconst0 (pc' := 216) Cx dX5_blocks_215 rfl ?_
            refine j_goto (tgt := 233) Cx dX5_blocks_216 (by decide) ?_
            exact j_dret Cx dX5_blocks_233 R0 ⟨Nat.le_of_ble_eq_true rfl, Nat.le_of_ble_eq_true rfl⟩ (⟨_, rfl, (if_pos (Or.inr ho)).symm, kfill (kg C A) F (W * y), kfill (kg C B) G (W * y), W, y, hF0, hG0, rfl⟩)
      · refine j_iconst (pc' := 56) (v := (nI 1)) Cx dX5_blocks_55 rfl (by decide) ?_
        refine j_istore (pc' := 58) (lv' := [(0, .ref m), (1, .int (nI n)), (2, .long (lN (k2s (kbes n C W B) (W - 1) y 0))), (4, .long (lN (k2s (kbos n C W B) (W - 1) y 0))), (6, .int (nI (k2s (kbe n) (W - 1) y 0))), (7, .int (nI (k2s (kbo n) (W - 1) y 0))), (8, .int (nI y)), (9, .int (nI 1))]) Cx dX5_blocks_56 rfl (by decide) rfl ?_
        have LQ : ∀ (LQ_n : Nat), ∀ (a : Nat), (W - 1 - a < LQ_n) → (a ≤ W - 1) → J X [(m, .inr (5, [.int (nI W), .int (nI H), .int (nI C), .int (nI 0), .ref o1, .ref o2, .int (nI W), .int (nI H), .ref go, .ref gt, .ref po, .ref pt, .ref my, .ref no, .ref so])), (o1, .inl (ty 0, 1728, .inl (kN O))), (o2, .inl (ty 0, 1728, .inl (kN T))), (go, .inl (ty 0, 576, .inl (kN (kfill (kg C A) F (W * H))))), (gt, .inl (ty 0, 576, .inl (kN (kfill (kg C B) G (W * H)))))] [(0, .ref m), (1, .int (nI n)), (2, .long (lN (k2s (kbes n C W B) (W - 1) y a))), (4, .long (lN (k2s (kbos n C W B) (W - 1) y a))), (6, .int (nI (k2s (kbe n) (W - 1) y a))), (7, .int (nI (k2s (kbo n) (W - 1) y a))), (8, .int (nI y)), (9, .int (nI (a + 1)))] 58 [] 0 0 := by
          intro LQ_n
          induction LQ_n with
          | zero =>
            intro a hms _
            exact absurd hms (Nat.not_lt_zero _)
          | succ LQ_n LQ_ih =>
            intro a LQ_m hla
            have c1 := k2s_le (w := W - 1) (y := y) (a := a) (h := 24) (kbe_le n) (by omega) hla
            have c2 := k2s_le (w := W - 1) (y := y) (a := a) (h := 24) (kbo_le n) (by omega) hla
            refine j_iload (pc' := 60) Cx dX5_blocks_58 rfl rfl ?_
            refine j_aload_n (pc' := 61) Cx dX5_blocks_60 rfl rfl rfl ?_
            refine j_get (pc' := 64) (N := 15) Cx dX5_blocks_61 rfl kin_X5_blocks_X5 kfl_X5_blocks_38 0 rfl rfl 0 rfl rfl rfl ?_
            refine j_icmp_ge_n (tgt := 199) (pc' := 67) Cx dX5_blocks_64 (by decide) rfl (by omega) (by omega) (fun hx => ?_) (fun hx => ?_)
            · have e : a = W - 1 := by omega
              subst e
              refine j_iinc_n (pc' := 202) (z := 1) (a := y) (lv' := [(0, .ref m), (1, .int (nI n)), (2, .long (lN (k2s (kbes n C W B) (W - 1) y (W - 1)))), (4, .long (lN (k2s (kbos n C W B) (W - 1) y (W - 1)))), (6, .int (nI (k2s (kbe n) (W - 1) y (W - 1)))), (7, .int (nI (k2s (kbo n) (W - 1) y (W - 1)))), (8, .int (nI (y + 1))), (9, .int (nI ((W - 1) + 1)))]) Cx dX5_blocks_199 rfl rfl (by decide) rfl ?_
              refine j_goto (tgt := 46) Cx dX5_blocks_202 (by decide) ?_
              refine J.lvs (lv' := [(0, .ref m), (1, .int (nI n)), (2, .long (lN (k2s (kbes n C W B) (W - 1) y (W - 1)))), (4, .long (lN (k2s (kbos n C W B) (W - 1) y (W - 1)))), (6, .int (nI (k2s (kbe n) (W - 1) y (W - 1)))), (7, .int (nI (k2s (kbo n) (W - 1) y (W - 1)))), (8, .int (nI (y + 1)))]) [0, 1, 2, 4, 6, 7, 8] rfl ?_
              refine J.cast (ws' := [(m, .inr (5, [.int (nI W), .int (nI H), .int (nI C), .int (nI 0), .ref o1, .ref o2, .int (nI W), .int (nI H), .ref go, .ref gt, .ref po, .ref pt, .ref my, .ref no, .ref so])), (o1, .inl (ty 0, 1728, .inl (kN O))), (o2, .inl (ty 0, 1728, .inl (kN T))), (go, .inl (ty 0, 576, .inl (kN (kfill (kg C A) F (W * H))))), (gt, .inl (ty 0, 576, .inl (kN (kfill (kg C B) G (W * H)))))]) (lv' := [(0, .ref m), (1, .int (nI n)), (2, .long (lN (k2s (kbes n C W B) (W - 1) (y + 1) 0))), (4, .long (lN (k2s (kbos n C W B) (W - 1) (y + 1) 0))), (6, .int (nI (k2s (kbe n) (W - 1) (y + 1) 0))), (7, .int (nI (k2s (kbo n) (W - 1) (y + 1) 0))), (8, .int (nI (y + 1)))]) (pc' := 46) (st' := []) (rfl) (rfl) rfl (rfl) rfl rfl ?_
              exact LP_ih (y + 1) (by omega) (by omega)
            · have hst := kbd_le (C := C) (W := W) hB y a
              have hp0 := k_idx' (w := W) (h := H) (x := a + 1) (y := y) (by omega) (by omega)
              refine j_aload_n (pc' := 68) Cx dX5_blocks_67 rfl rfl rfl ?_
              refine j_get (pc' := 71) (N := 15) Cx dX5_blocks_68 rfl kin_X5_blocks_X5 kfl_X5_blocks_19 0 rfl rfl 9 rfl rfl rfl ?_
              refine j_aload_n (pc' := 72) Cx dX5_blocks_71 rfl rfl rfl ?_
              refine j_get (pc' := 75) (N := 15) Cx dX5_blocks_72 rfl kin_X5_blocks_X5 kfl_X5_blocks_38 0 rfl rfl 0 rfl rfl rfl ?_
              refine j_iload (pc' := 77) Cx dX5_blocks_75 rfl rfl ?_
              refine j_imul_n (pc' := 78) Cx dX5_blocks_77 rfl ?_
              refine j_iload (pc' := 80) Cx dX5_blocks_78 rfl rfl ?_
              refine j_iadd_n (pc' := 81) Cx dX5_blocks_80 rfl ?_
              refine j_iaload_nn (pc' := 82) Cx dX5_blocks_81 rfl 4 rfl (by omega) (by omega) ?_
              refine j_top (v' := .int (nI (kg C B (y * W + (a + 1))))) (congrArg (fun z : Nat => Value.int (nI z)) (show (kfill (kg C B) G (W * H)) ((W * y) + (a + 1)) = kg C B (y * W + (a + 1)) from (hGa _ hp0).trans (by rw [Nat.mul_comm]))) ?_
              refine j_aload_n (pc' := 83) Cx dX5_blocks_82 rfl rfl rfl ?_
              refine j_get (pc' := 86) (N := 15) Cx dX5_blocks_83 rfl kin_X5_blocks_X5 kfl_X5_blocks_19 0 rfl rfl 9 rfl rfl rfl ?_
              refine j_aload_n (pc' := 87) Cx dX5_blocks_86 rfl rfl rfl ?_
              refine j_get (pc' := 90) (N := 15) Cx dX5_blocks_87 rfl kin_X5_blocks_X5 kfl_X5_blocks_38 0 rfl rfl 0 rfl rfl rfl ?_
              refine j_iload (pc' := 92) Cx dX5_blocks_90 rfl rfl ?_
              refine j_imul_n (pc' := 93) Cx dX5_blocks_92 rfl ?_
              refine j_iload (pc' := 95) Cx dX5_blocks_93 rfl rfl ?_
              refine j_iadd_n (pc' := 96) Cx dX5_blocks_95 rfl ?_
              refine j_iconst (pc' := 97) (v := (nI 1)) Cx dX5_blocks_96 rfl (by decide) ?_
              refine j_isub_n (pc' := 98) Cx dX5_blocks_97 rfl (by omega) ?_
              refine j_iaload_nn (pc' := 99) Cx dX5_blocks_98 rfl 4 rfl (by omega) (by omega) ?_
              refine j_top (v' := .int (nI (kg C B (y * W + (a + 1) - 1)))) (congrArg (fun z : Nat => Value.int (nI z)) (show (kfill (kg C B) G (W * H)) (((W * y) + (a + 1)) - 1) = kg C B (y * W + (a + 1) - 1) from (hGa _ (by omega)).trans (by rw [Nat.mul_comm]))) ?_
              have q1 := hgB (y * W + (a + 1))
              have q2 := hgB (y * W + (a + 1) - 1)
              refine j_isub (pc' := 100) Cx dX5_blocks_99 rfl ?_
              refine j_istore (pc' := 102) (lv' := [(0, .ref m), (1, .int (nI n)), (2, .long (lN (k2s (kbes n C W B) (W - 1) y a))), (4, .long (lN (k2s (kbos n C W B) (W - 1) y a))), (6, .int (nI (k2s (kbe n) (W - 1) y a))), (7, .int (nI (k2s (kbo n) (W - 1) y a))), (8, .int (nI y)), (9, .int (nI (a + 1))), (10, .int ((nI (kg C B (y * W + (a + 1)))) - (nI (kg C B (y * W + (a + 1) - 1)))))]) Cx dX5_blocks_100 rfl (by decide) rfl ?_
              refine j_iload (pc' := 104) Cx dX5_blocks_102 rfl rfl ?_
              refine j_if_ge (tgt := 113) (pc' := 107) Cx dX5_blocks_104 (by decide) rfl (fun ha => ?_) (fun ha => ?_)
              · refine j_iload (pc' := 115) Cx dX5_blocks_113 rfl rfl ?_
                refine j_top (v' := .int (nI (kbd C W B y a))) (congrArg Value.int (k_absA (by omega) (by omega) ha)) ?_
                refine j_istore (pc' := 117) (lv' := [(0, .ref m), (1, .int (nI n)), (2, .long (lN (k2s (kbes n C W B) (W - 1) y a))), (4, .long (lN (k2s (kbos n C W B) (W - 1) y a))), (6, .int (nI (k2s (kbe n) (W - 1) y a))), (7, .int (nI (k2s (kbo n) (W - 1) y a))), (8, .int (nI y)), (9, .int (nI (a + 1))), (10, .int (nI (kbd C W B y a)))]) Cx dX5_blocks_115 rfl (by decide) rfl ?_
                refine j_iload (pc' := 119) Cx dX5_blocks_117 rfl rfl ?_
                refine j_iload_n (pc' := 120) Cx dX5_blocks_119 rfl rfl rfl ?_
                refine j_irem_n (pc' := 121) Cx dX5_blocks_120 rfl (by omega) (by omega) (by omega) ?_
                refine j_if_ne_n (tgt := 128) (pc' := 124) Cx dX5_blocks_121 (by decide) rfl (Nat.lt_of_lt_of_le (Nat.mod_lt _ (by omega)) (by omega)) (fun hm => ?_) (fun hm => ?_)
                · refine j_iconst (pc' := 129) (v := (nI 0)) Cx dX5_blocks_128 rfl (by decide) ?_
                  refine j_istore (pc' := 131) (lv' := [(0, .ref m), (1, .int (nI n)), (2, .long (lN (k2s (kbes n C W B) (W - 1) y a))), (4, .long (lN (k2s (kbos n C W B) (W - 1) y a))), (6, .int (nI (k2s (kbe n) (W - 1) y a))), (7, .int (nI (k2s (kbo n) (W - 1) y a))), (8, .int (nI y)), (9, .int (nI (a + 1))), (10, .int (nI (kbd C W B y a))), (11, .int (nI 0))]) Cx dX5_blocks_129 rfl (by decide) rfl ?_
                  refine j_lload_n (pc' := 132) Cx dX5_blocks_131 rfl rfl rfl ?_
                  refine j_iload (pc' := 134) Cx dX5_blocks_132 rfl rfl ?_
                  refine j_if_eq_n (tgt := 143) (pc' := 137) Cx dX5_blocks_134 (by decide) rfl (by omega) (fun _ => ?_) (fun hh => absurd hh (by decide))
                  refine j_lconst (pc' := 144) (v := (lN 0)) Cx dX5_blocks_143 rfl rfl ?_
                  refine j_ladd_n (pc' := 145) Cx dX5_blocks_144 rfl ?_
                  refine j_lstore_n (pc' := 146) (lv' := [(0, .ref m), (1, .int (nI n)), (2, .long (lN ((k2s (kbes n C W B) (W - 1) y a) + 0))), (4, .long (lN (k2s (kbos n C W B) (W - 1) y a))), (6, .int (nI (k2s (kbe n) (W - 1) y a))), (7, .int (nI (k2s (kbo n) (W - 1) y a))), (8, .int (nI y)), (9, .int (nI (a + 1))), (10, .int (nI (kbd C W B y a))), (11, .int (nI 0))]) Cx dX5_blocks_145 rfl rfl (by decide) rfl ?_
                  refine j_lload (pc' := 148) Cx dX5_blocks_146 rfl rfl ?_
                  refine j_iload (pc' := 150) Cx dX5_blocks_148 rfl rfl ?_
                  refine j_if_eq_n (tgt := 157) (pc' := 153) Cx dX5_blocks_150 (by decide) rfl (by omega) (fun _ => ?_) (fun hh => absurd hh (by decide))
                  refine j_iload (pc' := 159) Cx dX5_blocks_157 rfl rfl ?_
                  refine j_i2l_n (pc' := 160) Cx dX5_blocks_159 rfl (Nat.lt_of_le_of_lt hst (by decide)) ?_
                  refine j_ladd_n (pc' := 161) Cx dX5_blocks_160 rfl ?_
                  refine j_lstore (pc' := 163) (lv' := [(0, .ref m), (1, .int (nI n)), (2, .long (lN ((k2s (kbes n C W B) (W - 1) y a) + 0))), (4, .long (lN ((k2s (kbos n C W B) (W - 1) y a) + (kbd C W B y a)))), (6, .int (nI (k2s (kbe n) (W - 1) y a))), (7, .int (nI (k2s (kbo n) (W - 1) y a))), (8, .int (nI y)), (9, .int (nI (a + 1))), (10, .int (nI (kbd C W B y a))), (11, .int (nI 0))]) Cx dX5_blocks_161 rfl (by decide) rfl ?_
                  refine j_iload (pc' := 165) Cx dX5_blocks_163 rfl rfl ?_
                  refine j_iload (pc' := 167) Cx dX5_blocks_165 rfl rfl ?_
                  refine j_if_eq_n (tgt := 174) (pc' := 170) Cx dX5_blocks_167 (by decide) rfl (by omega) (fun _ => ?_) (fun hh => absurd hh (by decide))
                  refine j_iconst (pc' := 175) (v := (nI 0)) Cx dX5_blocks_174 rfl (by decide) ?_
                  refine j_iadd_n (pc' := 176) Cx dX5_blocks_175 rfl ?_
                  refine j_istore (pc' := 178) (lv' := [(0, .ref m), (1, .int (nI n)), (2, .long (lN ((k2s (kbes n C W B) (W - 1) y a) + 0))), (4, .long (lN ((k2s (kbos n C W B) (W - 1) y a) + (kbd C W B y a)))), (6, .int (nI ((k2s (kbe n) (W - 1) y a) + 0))), (7, .int (nI (k2s (kbo n) (W - 1) y a))), (8, .int (nI y)), (9, .int (nI (a + 1))), (10, .int (nI (kbd C W B y a))), (11, .int (nI 0))]) Cx dX5_blocks_176 rfl (by decide) rfl ?_
                  refine j_iload (pc' := 180) Cx dX5_blocks_178 rfl rfl ?_
                  refine j_iload (pc' := 182) Cx dX5_blocks_180 rfl rfl ?_
                  refine j_if_eq_n (tgt := 189) (pc' := 185) Cx dX5_blocks_182 (by decide) rfl (by omega) (fun _ => ?_) (fun hh => absurd hh (by decide))
                  refine j_iconst (pc' := 190) (v := (nI 1)) Cx dX5_blocks_189 rfl (by decide) ?_
                  refine j_iadd_n (pc' := 191) Cx dX5_blocks_190 rfl ?_
                  refine j_istore (pc' := 193) (lv' := [(0, .ref m), (1, .int (nI n)), (2, .long (lN ((k2s (kbes n C W B) (W - 1) y a) + 0))), (4, .long (lN ((k2s (kbos n C W B) (W - 1) y a) + (kbd C W B y a)))), (6, .int (nI ((k2s (kbe n) (W - 1) y a) + 0))), (7, .int (nI ((k2s (kbo n) (W - 1) y a) + 1))), (8, .int (nI y)), (9, .int (nI (a + 1))), (10, .int (nI (kbd C W B y a))), (11, .int (nI 0))]) Cx dX5_blocks_191 rfl (by decide) rfl ?_
                  refine j_iinc_n (pc' := 196) (z := 1) (a := (a + 1)) (lv' := [(0, .ref m), (1, .int (nI n)), (2, .long (lN ((k2s (kbes n C W B) (W - 1) y a) + 0))), (4, .long (lN ((k2s (kbos n C W B) (W - 1) y a) + (kbd C W B y a)))), (6, .int (nI ((k2s (kbe n) (W - 1) y a) + 0))), (7, .int (nI ((k2s (kbo n) (W - 1) y a) + 1))), (8, .int (nI y)), (9, .int (nI (a + 1 + 1))), (10, .int (nI (kbd C W B y a))), (11, .int (nI 0))]) Cx dX5_blocks_193 rfl rfl (by decide) rfl ?_
                  refine j_goto (tgt := 58) Cx dX5_blocks_196 (by decide) ?_
                  refine J.lvs (lv' := [(0, .ref m), (1, .int (nI n)), (2, .long (lN ((k2s (kbes n C W B) (W - 1) y a) + 0))), (4, .long (lN ((k2s (kbos n C W B) (W - 1) y a) + (kbd C W B y a)))), (6, .int (nI ((k2s (kbe n) (W - 1) y a) + 0))), (7, .int (nI ((k2s (kbo n) (W - 1) y a) + 1))), (8, .int (nI y)), (9, .int (nI (a + 1 + 1)))]) [0, 1, 2, 4, 6, 7, 8, 9] rfl ?_
                  refine J.cast (ws' := [(m, .inr (5, [.int (nI W), .int (nI H), .int (nI C), .int (nI 0), .ref o1, .ref o2, .int (nI W), .int (nI H), .ref go, .ref gt, .ref po, .ref pt, .ref my, .ref no, .ref so])), (o1, .inl (ty 0, 1728, .inl (kN O))), (o2, .inl (ty 0, 1728, .inl (kN T))), (go, .inl (ty 0, 576, .inl (kN (kfill (kg C A) F (W * H))))), (gt, .inl (ty 0, 576, .inl (kN (kfill (kg C B) G (W * H)))))]) (lv' := [(0, .ref m), (1, .int (nI n)), (2, .long (lN (k2s (kbes n C W B) (W - 1) y (a + 1)))), (4, .long (lN (k2s (kbos n C W B) (W - 1) y (a + 1)))), (6, .int (nI (k2s (kbe n) (W - 1) y (a + 1)))), (7, .int (nI (k2s (kbo n) (W - 1) y (a + 1)))), (8, .int (nI y)), (9, .int (nI ((a + 1) + 1)))]) (pc' := 58) (st' := []) (rfl) (by rw [show k2s (kbe n) (W - 1) y (a + 1) = k2s (kbe n) (W - 1) y a + 0 from by rw [← k2s_a]; show _ + (if (a + 1) % n = 0 then _ else _) = _; rw [if_neg hm], show k2s (kbo n) (W - 1) y (a + 1) = k2s (kbo n) (W - 1) y a + 1 from by rw [← k2s_a]; show _ + (if (a + 1) % n = 0 then _ else _) = _; rw [if_neg hm], show k2s (kbes n C W B) (W - 1) y (a + 1) = k2s (kbes n C W B) (W - 1) y a + 0 from by rw [← k2s_a]; show _ + (if (a + 1) % n = 0 then _ else _) = _; rw [if_neg hm], show k2s (kbos n C W B) (W - 1) y (a + 1) = k2s (kbos n C W B) (W - 1) y a + kbd C W B y a from by rw [← k2s_a]; show _ + (if (a + 1) % n = 0 then _ else _) = _; rw [if_neg hm]]) rfl (rfl) rfl rfl ?_
                  exact LQ_ih (a + 1) (by omega) (by omega)
                · refine j_iconst (pc' := 125) (v := (nI 1)) Cx dX5_blocks_124 rfl (by decide) ?_
                  refine j_goto (tgt := 129) Cx dX5_blocks_125 (by decide) ?_
                  refine j_istore (pc' := 131) (lv' := [(0, .ref m), (1, .int (nI n)), (2, .long (lN (k2s (kbes n C W B) (W - 1) y a))), (4, .long (lN (k2s (kbos n C W B) (W - 1) y a))), (6, .int (nI (k2s (kbe n) (W - 1) y a))), (7, .int (nI (k2s (kbo n) (W - 1) y a))), (8, .int (nI y)), (9, .int (nI (a + 1))), (10, .int (nI (kbd C W B y a))), (11, .int (nI 1))]) Cx dX5_blocks_129 rfl (by decide) rfl ?_
                  refine j_lload_n (pc' := 132) Cx dX5_blocks_131 rfl rfl rfl ?_
                  refine j_iload (pc' := 134) Cx dX5_blocks_132 rfl rfl ?_
                  refine j_if_eq_n (tgt := 143) (pc' := 137) Cx dX5_blocks_134 (by decide) rfl (by omega) (fun hh => absurd hh (by decide)) (fun _ => ?_)
                  refine j_iload (pc' := 139) Cx dX5_blocks_137 rfl rfl ?_
                  refine j_i2l_n (pc' := 140) Cx dX5_blocks_139 rfl (Nat.lt_of_le_of_lt hst (by decide)) ?_
                  refine j_goto (tgt := 144) Cx dX5_blocks_140 (by decide) ?_
                  refine j_ladd_n (pc' := 145) Cx dX5_blocks_144 rfl ?_
                  refine j_lstore_n (pc' := 146) (lv' := [(0, .ref m), (1, .int (nI n)), (2, .long (lN ((k2s (kbes n C W B) (W - 1) y a) + (kbd C W B y a)))), (4, .long (lN (k2s (kbos n C W B) (W - 1) y a))), (6, .int (nI (k2s (kbe n) (W - 1) y a))), (7, .int (nI (k2s (kbo n) (W - 1) y a))), (8, .int (nI y)), (9, .int (nI (a + 1))), (10, .int (nI (kbd C W B y a))), (11, .int (nI 1))]) Cx dX5_blocks_145 rfl rfl (by decide) rfl ?_
                  refine j_lload (pc' := 148) Cx dX5_blocks_146 rfl rfl ?_
                  refine j_iload (pc' := 150) Cx dX5_blocks_148 rfl rfl ?_
                  refine j_if_eq_n (tgt := 157) (pc' := 153) Cx dX5_blocks_150 (by decide) rfl (by omega) (fun hh => absurd hh (by decide)) (fun _ => ?_)
                  refine j_lconst (pc' := 154) (v := (lN 0)) Cx dX5_blocks_153 rfl rfl ?_
                  refine j_goto (tgt := 160) Cx dX5_blocks_154 (by decide) ?_
                  refine j_ladd_n (pc' := 161) Cx dX5_blocks_160 rfl ?_
                  refine j_lstore (pc' := 163) (lv' := [(0, .ref m), (1, .int (nI n)), (2, .long (lN ((k2s (kbes n C W B) (W - 1) y a) + (kbd C W B y a)))), (4, .long (lN ((k2s (kbos n C W B) (W - 1) y a) + 0))), (6, .int (nI (k2s (kbe n) (W - 1) y a))), (7, .int (nI (k2s (kbo n) (W - 1) y a))), (8, .int (nI y)), (9, .int (nI (a + 1))), (10, .int (nI (kbd C W B y a))), (11, .int (nI 1))]) Cx dX5_blocks_161 rfl (by decide) rfl ?_
                  refine j_iload (pc' := 165) Cx dX5_blocks_163 rfl rfl ?_
                  refine j_iload (pc' := 167) Cx dX5_blocks_165 rfl rfl ?_
                  refine j_if_eq_n (tgt := 174) (pc' := 170) Cx dX5_blocks_167 (by decide) rfl (by omega) (fun hh => absurd hh (by decide)) (fun _ => ?_)
                  refine j_iconst (pc' := 171) (v := (nI 1)) Cx dX5_blocks_170 rfl (by decide) ?_
                  refine j_goto (tgt := 175) Cx dX5_blocks_171 (by decide) ?_
                  refine j_iadd_n (pc' := 176) Cx dX5_blocks_175 rfl ?_
                  refine j_istore (pc' := 178) (lv' := [(0, .ref m), (1, .int (nI n)), (2, .long (lN ((k2s (kbes n C W B) (W - 1) y a) + (kbd C W B y a)))), (4, .long (lN ((k2s (kbos n C W B) (W - 1) y a) + 0))), (6, .int (nI ((k2s (kbe n) (W - 1) y a) + 1))), (7, .int (nI (k2s (kbo n) (W - 1) y a))), (8, .int (nI y)), (9, .int (nI (a + 1))), (10, .int (nI (kbd C W B y a))), (11, .int (nI 1))]) Cx dX5_blocks_176 rfl (by decide) rfl ?_
                  refine j_iload (pc' := 180) Cx dX5_blocks_178 rfl rfl ?_
                  refine j_iload (pc' := 182) Cx dX5_blocks_180 rfl rfl ?_
                  refine j_if_eq_n (tgt := 189) (pc' := 185) Cx dX5_blocks_182 (by decide) rfl (by omega) (fun hh => absurd hh (by decide)) (fun _ => ?_)
                  refine j_iconst (pc' := 186) (v := (nI 0)) Cx dX5_blocks_185 rfl (by decide) ?_
                  refine j_goto (tgt := 190) Cx dX5_blocks_186 (by decide) ?_
                  refine j_iadd_n (pc' := 191) Cx dX5_blocks_190 rfl ?_
                  refine j_istore (pc' := 193) (lv' := [(0, .ref m), (1, .int (nI n)), (2, .long (lN ((k2s (kbes n C W B) (W - 1) y a) + (kbd C W B y a)))), (4, .long (lN ((k2s (kbos n C W B) (W - 1) y a) + 0))), (6, .int (nI ((k2s (kbe n) (W - 1) y a) + 1))), (7, .int (nI ((k2s (kbo n) (W - 1) y a) + 0))), (8, .int (nI y)), (9, .int (nI (a + 1))), (10, .int (nI (kbd C W B y a))), (11, .int (nI 1))]) Cx dX5_blocks_191 rfl (by decide) rfl ?_
                  refine j_iinc_n (pc' := 196) (z := 1) (a := (a + 1)) (lv' := [(0, .ref m), (1, .int (nI n)), (2, .long (lN ((k2s (kbes n C W B) (W - 1) y a) + (kbd C W B y a)))), (4, .long (lN ((k2s (kbos n C W B) (W - 1) y a) + 0))), (6, .int (nI ((k2s (kbe n) (W - 1) y a) + 1))), (7, .int (nI ((k2s (kbo n) (W - 1) y a) + 0))), (8, .int (nI y)), (9, .int (nI (a + 1 + 1))), (10, .int (nI (kbd C W B y a))), (11, .int (nI 1))]) Cx dX5_blocks_193 rfl rfl (by decide) rfl ?_
                  refine j_goto (tgt := 58) Cx dX5_blocks_196 (by decide) ?_
                  refine J.lvs (lv' := [(0, .ref m), (1, .int (nI n)), (2, .long (lN ((k2s (kbes n C W B) (W - 1) y a) + (kbd C W B y a)))), (4, .long (lN ((k2s (kbos n C W B) (W - 1) y a) + 0))), (6, .int (nI ((k2s (kbe n) (W - 1) y a) + 1))), (7, .int (nI ((k2s (kbo n) (W - 1) y a) + 0))), (8, .int (nI y)), (9, .int (nI (a + 1 + 1)))]) [0, 1, 2, 4, 6, 7, 8, 9] rfl ?_
                  refine J.cast (ws' := [(m, .inr (5, [.int (nI W), .int (nI H), .int (nI C), .int (nI 0), .ref o1, .ref o2, .int (nI W), .int (nI H), .ref go, .ref gt, .ref po, .ref pt, .ref my, .ref no, .ref so])), (o1, .inl (ty 0, 1728, .inl (kN O))), (o2, .inl (ty 0, 1728, .inl (kN T))), (go, .inl (ty 0, 576, .inl (kN (kfill (kg C A) F (W * H))))), (gt, .inl (ty 0, 576, .inl (kN (kfill (kg C B) G (W * H)))))]) (lv' := [(0, .ref m), (1, .int (nI n)), (2, .long (lN (k2s (kbes n C W B) (W - 1) y (a + 1)))), (4, .long (lN (k2s (kbos n C W B) (W - 1) y (a + 1)))), (6, .int (nI (k2s (kbe n) (W - 1) y (a + 1)))), (7, .int (nI (k2s (kbo n) (W - 1) y (a + 1)))), (8, .int (nI y)), (9, .int (nI ((a + 1) + 1)))]) (pc' := 58) (st' := []) (rfl) (by rw [show k2s (kbe n) (W - 1) y (a + 1) = k2s (kbe n) (W - 1) y a + 1 from by rw [← k2s_a]; show _ + (if (a + 1) % n = 0 then _ else _) = _; rw [if_pos hm], show k2s (kbo n) (W - 1) y (a + 1) = k2s (kbo n) (W - 1) y a + 0 from by rw [← k2s_a]; show _ + (if (a + 1) % n = 0 then _ else _) = _; rw [if_pos hm], show k2s (kbes n C W B) (W - 1) y (a + 1) = k2s (kbes n C W B) (W - 1) y a + kbd C W B y a from by rw [← k2s_a]; show _ + (if (a + 1) % n = 0 then _ else _) = _; rw [if_pos hm], show k2s (kbos n C W B) (W - 1) y (a + 1) = k2s (kbos n C W B) (W - 1) y a + 0 from by rw [← k2s_a]; show _ + (if (a + 1) % n = 0 then _ else _) = _; rw [if_pos hm]]) rfl (rfl) rfl rfl ?_
                  exact LQ_ih (a + 1) (by omega) (by omega)
              · refine j_iload (pc' := 109) Cx dX5_blocks_107 rfl rfl ?_
                refine j_ineg (pc' := 110) Cx dX5_blocks_109 rfl ?_
                refine j_goto (tgt := 115) Cx dX5_blocks_110 (by decide) ?_
                refine j_top (v' := .int (nI (kbd C W B y a))) (congrArg Value.int (k_absB (by omega) (by omega) ha)) ?_
                refine j_istore (pc' := 117) (lv' := [(0, .ref m), (1, .int (nI n)), (2, .long (lN (k2s (kbes n C W B) (W - 1) y a))), (4, .long (lN (k2s (kbos n C W B) (W - 1) y a))), (6, .int (nI (k2s (kbe n) (W - 1) y a))), (7, .int (nI (k2s (kbo n) (W - 1) y a))), (8, .int (nI y)), (9, .int (nI (a + 1))), (10, .int (nI (kbd C W B y a)))]) Cx dX5_blocks_115 rfl (by decide) rfl ?_
                refine j_iload (pc' := 119) Cx dX5_blocks_117 rfl rfl ?_
                refine j_iload_n (pc' := 120) Cx dX5_blocks_119 rfl rfl rfl ?_
                refine j_irem_n (pc' := 121) Cx dX5_blocks_120 rfl (by omega) (by omega) (by omega) ?_
                refine j_if_ne_n (tgt := 128) (pc' := 124) Cx dX5_blocks_121 (by decide) rfl (Nat.lt_of_lt_of_le (Nat.mod_lt _ (by omega)) (by omega)) (fun hm => ?_) (fun hm => ?_)
                · refine j_iconst (pc' := 129) (v := (nI 0)) Cx dX5_blocks_128 rfl (by decide) ?_
                  refine j_istore (pc' := 131) (lv' := [(0, .ref m), (1, .int (nI n)), (2, .long (lN (k2s (kbes n C W B) (W - 1) y a))), (4, .long (lN (k2s (kbos n C W B) (W - 1) y a))), (6, .int (nI (k2s (kbe n) (W - 1) y a))), (7, .int (nI (k2s (kbo n) (W - 1) y a))), (8, .int (nI y)), (9, .int (nI (a + 1))), (10, .int (nI (kbd C W B y a))), (11, .int (nI 0))]) Cx dX5_blocks_129 rfl (by decide) rfl ?_
                  refine j_lload_n (pc' := 132) Cx dX5_blocks_131 rfl rfl rfl ?_
                  refine j_iload (pc' := 134) Cx dX5_blocks_132 rfl rfl ?_
                  refine j_if_eq_n (tgt := 143) (pc' := 137) Cx dX5_blocks_134 (by decide) rfl (by omega) (fun _ => ?_) (fun hh => absurd hh (by decide))
                  refine j_lconst (pc' := 144) (v := (lN 0)) Cx dX5_blocks_143 rfl rfl ?_
                  refine j_ladd_n (pc' := 145) Cx dX5_blocks_144 rfl ?_
                  refine j_lstore_n (pc' := 146) (lv' := [(0, .ref m), (1, .int (nI n)), (2, .long (lN ((k2s (kbes n C W B) (W - 1) y a) + 0))), (4, .long (lN (k2s (kbos n C W B) (W - 1) y a))), (6, .int (nI (k2s (kbe n) (W - 1) y a))), (7, .int (nI (k2s (kbo n) (W - 1) y a))), (8, .int (nI y)), (9, .int (nI (a + 1))), (10, .int (nI (kbd C W B y a))), (11, .int (nI 0))]) Cx dX5_blocks_145 rfl rfl (by decide) rfl ?_
                  refine j_lload (pc' := 148) Cx dX5_blocks_146 rfl rfl ?_
                  refine j_iload (pc' := 150) Cx dX5_blocks_148 rfl rfl ?_
                  refine j_if_eq_n (tgt := 157) (pc' := 153) Cx dX5_blocks_150 (by decide) rfl (by omega) (fun _ => ?_) (fun hh => absurd hh (by decide))
                  refine j_iload (pc' := 159) Cx dX5_blocks_157 rfl rfl ?_
                  refine j_i2l_n (pc' := 160) Cx dX5_blocks_159 rfl (Nat.lt_of_le_of_lt hst (by decide)) ?_
                  refine j_ladd_n (pc' := 161) Cx dX5_blocks_160 rfl ?_
                  refine j_lstore (pc' := 163) (lv' := [(0, .ref m), (1, .int (nI n)), (2, .long (lN ((k2s (kbes n C W B) (W - 1) y a) + 0))), (4, .long (lN ((k2s (kbos n C W B) (W - 1) y a) + (kbd C W B y a)))), (6, .int (nI (k2s (kbe n) (W - 1) y a))), (7, .int (nI (k2s (kbo n) (W - 1) y a))), (8, .int (nI y)), (9, .int (nI (a + 1))), (10, .int (nI (kbd C W B y a))), (11, .int (nI 0))]) Cx dX5_blocks_161 rfl (by decide) rfl ?_
                  refine j_iload (pc' := 165) Cx dX5_blocks_163 rfl rfl ?_
                  refine j_iload (pc' := 167) Cx dX5_blocks_165 rfl rfl ?_
                  refine j_if_eq_n (tgt := 174) (pc' := 170) Cx dX5_blocks_167 (by decide) rfl (by omega) (fun _ => ?_) (fun hh => absurd hh (by decide))
                  refine j_iconst (pc' := 175) (v := (nI 0)) Cx dX5_blocks_174 rfl (by decide) ?_
                  refine j_iadd_n (pc' := 176) Cx dX5_blocks_175 rfl ?_
                  refine j_istore (pc' := 178) (lv' := [(0, .ref m), (1, .int (nI n)), (2, .long (lN ((k2s (kbes n C W B) (W - 1) y a) + 0))), (4, .long (lN ((k2s (kbos n C W B) (W - 1) y a) + (kbd C W B y a)))), (6, .int (nI ((k2s (kbe n) (W - 1) y a) + 0))), (7, .int (nI (k2s (kbo n) (W - 1) y a))), (8, .int (nI y)), (9, .int (nI (a + 1))), (10, .int (nI (kbd C W B y a))), (11, .int (nI 0))]) Cx dX5_blocks_176 rfl (by decide) rfl ?_
                  refine j_iload (pc' := 180) Cx dX5_blocks_178 rfl rfl ?_
                  refine j_iload (pc' := 182) Cx dX5_blocks_180 rfl rfl ?_
                  refine j_if_eq_n (tgt := 189) (pc' := 185) Cx dX5_blocks_182 (by decide) rfl (by omega) (fun _ => ?_) (fun hh => absurd hh (by decide))
                  refine j_iconst (pc' := 190) (v := (nI 1)) Cx dX5_blocks_189 rfl (by decide) ?_
                  refine j_iadd_n (pc' := 191) Cx dX5_blocks_190 rfl ?_
                  refine j_istore (pc' := 193) (lv' := [(0, .ref m), (1, .int (nI n)), (2, .long (lN ((k2s (kbes n C W B) (W - 1) y a) + 0))), (4, .long (lN ((k2s (kbos n C W B) (W - 1) y a) + (kbd C W B y a)))), (6, .int (nI ((k2s (kbe n) (W - 1) y a) + 0))), (7, .int (nI ((k2s (kbo n) (W - 1) y a) + 1))), (8, .int (nI y)), (9, .int (nI (a + 1))), (10, .int (nI (kbd C W B y a))), (11, .int (nI 0))]) Cx dX5_blocks_191 rfl (by decide) rfl ?_
                  refine j_iinc_n (pc' := 196) (z := 1) (a := (a + 1)) (lv' := [(0, .ref m), (1, .int (nI n)), (2, .long (lN ((k2s (kbes n C W B) (W - 1) y a) + 0))), (4, .long (lN ((k2s (kbos n C W B) (W - 1) y a) + (kbd C W B y a)))), (6, .int (nI ((k2s (kbe n) (W - 1) y a) + 0))), (7, .int (nI ((k2s (kbo n) (W - 1) y a) + 1))), (8, .int (nI y)), (9, .int (nI (a + 1 + 1))), (10, .int (nI (kbd C W B y a))), (11, .int (nI 0))]) Cx dX5_blocks_193 rfl rfl (by decide) rfl ?_
                  refine j_goto (tgt := 58) Cx dX5_blocks_196 (by decide) ?_
                  refine J.lvs (lv' := [(0, .ref m), (1, .int (nI n)), (2, .long (lN ((k2s (kbes n C W B) (W - 1) y a) + 0))), (4, .long (lN ((k2s (kbos n C W B) (W - 1) y a) + (kbd C W B y a)))), (6, .int (nI ((k2s (kbe n) (W - 1) y a) + 0))), (7, .int (nI ((k2s (kbo n) (W - 1) y a) + 1))), (8, .int (nI y)), (9, .int (nI (a + 1 + 1)))]) [0, 1, 2, 4, 6, 7, 8, 9] rfl ?_
                  refine J.cast (ws' := [(m, .inr (5, [.int (nI W), .int (nI H), .int (nI C), .int (nI 0), .ref o1, .ref o2, .int (nI W), .int (nI H), .ref go, .ref gt, .ref po, .ref pt, .ref my, .ref no, .ref so])), (o1, .inl (ty 0, 1728, .inl (kN O))), (o2, .inl (ty 0, 1728, .inl (kN T))), (go, .inl (ty 0, 576, .inl (kN (kfill (kg C A) F (W * H))))), (gt, .inl (ty 0, 576, .inl (kN (kfill (kg C B) G (W * H)))))]) (lv' := [(0, .ref m), (1, .int (nI n)), (2, .long (lN (k2s (kbes n C W B) (W - 1) y (a + 1)))), (4, .long (lN (k2s (kbos n C W B) (W - 1) y (a + 1)))), (6, .int (nI (k2s (kbe n) (W - 1) y (a + 1)))), (7, .int (nI (k2s (kbo n) (W - 1) y (a + 1)))), (8, .int (nI y)), (9, .int (nI ((a + 1) + 1)))]) (pc' := 58) (st' := []) (rfl) (by rw [show k2s (kbe n) (W - 1) y (a + 1) = k2s (kbe n) (W - 1) y a + 0 from by rw [← k2s_a]; show _ + (if (a + 1) % n = 0 then _ else _) = _; rw [if_neg hm], show k2s (kbo n) (W - 1) y (a + 1) = k2s (kbo n) (W - 1) y a + 1 from by rw [← k2s_a]; show _ + (if (a + 1) % n = 0 then _ else _) = _; rw [if_neg hm], show k2s (kbes n C W B) (W - 1) y (a + 1) = k2s (kbes n C W B) (W - 1) y a + 0 from by rw [← k2s_a]; show _ + (if (a + 1) % n = 0 then _ else _) = _; rw [if_neg hm], show k2s (kbos n C W B) (W - 1) y (a + 1) = k2s (kbos n C W B) (W - 1) y a + kbd C W B y a from by rw [← k2s_a]; show _ + (if (a + 1) % n = 0 then _ else _) = _; rw [if_neg hm]]) rfl (rfl) rfl rfl ?_
                  exact LQ_ih (a + 1) (by omega) (by omega)
                · refine j_iconst (pc' := 125) (v := (nI 1)) Cx dX5_blocks_124 rfl (by decide) ?_
                  refine j_goto (tgt := 129) Cx dX5_blocks_125 (by decide) ?_
                  refine j_istore (pc' := 131) (lv' := [(0, .ref m), (1, .int (nI n)), (2, .long (lN (k2s (kbes n C W B) (W - 1) y a))), (4, .long (lN (k2s (kbos n C W B) (W - 1) y a))), (6, .int (nI (k2s (kbe n) (W - 1) y a))), (7, .int (nI (k2s (kbo n) (W - 1) y a))), (8, .int (nI y)), (9, .int (nI (a + 1))), (10, .int (nI (kbd C W B y a))), (11, .int (nI 1))]) Cx dX5_blocks_129 rfl (by decide) rfl ?_
                  refine j_lload_n (pc' := 132) Cx dX5_blocks_131 rfl rfl rfl ?_
                  refine j_iload (pc' := 134) Cx dX5_blocks_132 rfl rfl ?_
                  refine j_if_eq_n (tgt := 143) (pc' := 137) Cx dX5_blocks_134 (by decide) rfl (by omega) (fun hh => absurd hh (by decide)) (fun _ => ?_)
                  refine j_iload (pc' := 139) Cx dX5_blocks_137 rfl rfl ?_
                  refine j_i2l_n (pc' := 140) Cx dX5_blocks_139 rfl (Nat.lt_of_le_of_lt hst (by decide)) ?_
                  refine j_goto (tgt := 144) Cx dX5_blocks_140 (by decide) ?_
                  refine j_ladd_n (pc' := 145) Cx dX5_blocks_144 rfl ?_
                  refine j_lstore_n (pc' := 146) (lv' := [(0, .ref m), (1, .int (nI n)), (2, .long (lN ((k2s (kbes n C W B) (W - 1) y a) + (kbd C W B y a)))), (4, .long (lN (k2s (kbos n C W B) (W - 1) y a))), (6, .int (nI (k2s (kbe n) (W - 1) y a))), (7, .int (nI (k2s (kbo n) (W - 1) y a))), (8, .int (nI y)), (9, .int (nI (a + 1))), (10, .int (nI (kbd C W B y a))), (11, .int (nI 1))]) Cx dX5_blocks_145 rfl rfl (by decide) rfl ?_
                  refine j_lload (pc' := 148) Cx dX5_blocks_146 rfl rfl ?_
                  refine j_iload (pc' := 150) Cx dX5_blocks_148 rfl rfl ?_
                  refine j_if_eq_n (tgt := 157) (pc' := 153) Cx dX5_blocks_150 (by decide) rfl (by omega) (fun hh => absurd hh (by decide)) (fun _ => ?_)
                  refine j_lconst (pc' := 154) (v := (lN 0)) Cx dX5_blocks_153 rfl rfl ?_
                  refine j_goto (tgt := 160) Cx dX5_blocks_154 (by decide) ?_
                  refine j_ladd_n (pc' := 161) Cx dX5_blocks_160 rfl ?_
                  refine j_lstore (pc' := 163) (lv' := [(0, .ref m), (1, .int (nI n)), (2, .long (lN ((k2s (kbes n C W B) (W - 1) y a) + (kbd C W B y a)))), (4, .long (lN ((k2s (kbos n C W B) (W - 1) y a) + 0))), (6, .int (nI (k2s (kbe n) (W - 1) y a))), (7, .int (nI (k2s (kbo n) (W - 1) y a))), (8, .int (nI y)), (9, .int (nI (a + 1))), (10, .int (nI (kbd C W B y a))), (11, .int (nI 1))]) Cx dX5_blocks_161 rfl (by decide) rfl ?_
                  refine j_iload (pc' := 165) Cx dX5_blocks_163 rfl rfl ?_
                  refine j_iload (pc' := 167) Cx dX5_blocks_165 rfl rfl ?_
                  refine j_if_eq_n (tgt := 174) (pc' := 170) Cx dX5_blocks_167 (by decide) rfl (by omega) (fun hh => absurd hh (by decide)) (fun _ => ?_)
                  refine j_iconst (pc' := 171) (v := (nI 1)) Cx dX5_blocks_170 rfl (by decide) ?_
                  refine j_goto (tgt := 175) Cx dX5_blocks_171 (by decide) ?_
                  refine j_iadd_n (pc' := 176) Cx dX5_blocks_175 rfl ?_
                  refine j_istore (pc' := 178) (lv' := [(0, .ref m), (1, .int (nI n)), (2, .long (lN ((k2s (kbes n C W B) (W - 1) y a) + (kbd C W B y a)))), (4, .long (lN ((k2s (kbos n C W B) (W - 1) y a) + 0))), (6, .int (nI ((k2s (kbe n) (W - 1) y a) + 1))), (7, .int (nI (k2s (kbo n) (W - 1) y a))), (8, .int (nI y)), (9, .int (nI (a + 1))), (10, .int (nI (kbd C W B y a))), (11, .int (nI 1))]) Cx dX5_blocks_176 rfl (by decide) rfl ?_
                  refine j_iload (pc' := 180) Cx dX5_blocks_178 rfl rfl ?_
                  refine j_iload (pc' := 182) Cx dX5_blocks_180 rfl rfl ?_
                  refine j_if_eq_n (tgt := 189) (pc' := 185) Cx dX5_blocks_182 (by decide) rfl (by omega) (fun hh => absurd hh (by decide)) (fun _ => ?_)
                  refine j_iconst (pc' := 186) (v := (nI 0)) Cx dX5_blocks_185 rfl (by decide) ?_
                  refine j_goto (tgt := 190) Cx dX5_blocks_186 (by decide) ?_
                  refine j_iadd_n (pc' := 191) Cx dX5_blocks_190 rfl ?_
                  refine j_istore (pc' := 193) (lv' := [(0, .ref m), (1, .int (nI n)), (2, .long (lN ((k2s (kbes n C W B) (W - 1) y a) + (kbd C W B y a)))), (4, .long (lN ((k2s (kbos n C W B) (W - 1) y a) + 0))), (6, .int (nI ((k2s (kbe n) (W - 1) y a) + 1))), (7, .int (nI ((k2s (kbo n) (W - 1) y a) + 0))), (8, .int (nI y)), (9, .int (nI (a + 1))), (10, .int (nI (kbd C W B y a))), (11, .int (nI 1))]) Cx dX5_blocks_191 rfl (by decide) rfl ?_
                  refine j_iinc_n (pc' := 196) (z := 1) (a := (a + 1)) (lv' := [(0, .ref m), (1, .int (nI n)), (2, .long (lN ((k2s (kbes n C W B) (W - 1) y a) + (kbd C W B y a)))), (4, .long (lN ((k2s (kbos n C W B) (W - 1) y a) + 0))), (6, .int (nI ((k2s (kbe n) (W - 1) y a) + 1))), (7, .int (nI ((k2s (kbo n) (W - 1) y a) + 0))), (8, .int (nI y)), (9, .int (nI (a + 1 + 1))), (10, .int (nI (kbd C W B y a))), (11, .int (nI 1))]) Cx dX5_blocks_193 rfl rfl (by decide) rfl ?_
                  refine j_goto (tgt := 58) Cx dX5_blocks_196 (by decide) ?_
                  refine J.lvs (lv' := [(0, .ref m), (1, .int (nI n)), (2, .long (lN ((k2s (kbes n C W B) (W - 1) y a) + (kbd C W B y a)))), (4, .long (lN ((k2s (kbos n C W B) (W - 1) y a) + 0))), (6, .int (nI ((k2s (kbe n) (W - 1) y a) + 1))), (7, .int (nI ((k2s (kbo n) (W - 1) y a) + 0))), (8, .int (nI y)), (9, .int (nI (a + 1 + 1)))]) [0, 1, 2, 4, 6, 7, 8, 9] rfl ?_
                  refine J.cast (ws' := [(m, .inr (5, [.int (nI W), .int (nI H), .int (nI C), .int (nI 0), .ref o1, .ref o2, .int (nI W), .int (nI H), .ref go, .ref gt, .ref po, .ref pt, .ref my, .ref no, .ref so])), (o1, .inl (ty 0, 1728, .inl (kN O))), (o2, .inl (ty 0, 1728, .inl (kN T))), (go, .inl (ty 0, 576, .inl (kN (kfill (kg C A) F (W * H))))), (gt, .inl (ty 0, 576, .inl (kN (kfill (kg C B) G (W * H)))))]) (lv' := [(0, .ref m), (1, .int (nI n)), (2, .long (lN (k2s (kbes n C W B) (W - 1) y (a + 1)))), (4, .long (lN (k2s (kbos n C W B) (W - 1) y (a + 1)))), (6, .int (nI (k2s (kbe n) (W - 1) y (a + 1)))), (7, .int (nI (k2s (kbo n) (W - 1) y (a + 1)))), (8, .int (nI y)), (9, .int (nI ((a + 1) + 1)))]) (pc' := 58) (st' := []) (rfl) (by rw [show k2s (kbe n) (W - 1) y (a + 1) = k2s (kbe n) (W - 1) y a + 1 from by rw [← k2s_a]; show _ + (if (a + 1) % n = 0 then _ else _) = _; rw [if_pos hm], show k2s (kbo n) (W - 1) y (a + 1) = k2s (kbo n) (W - 1) y a + 0 from by rw [← k2s_a]; show _ + (if (a + 1) % n = 0 then _ else _) = _; rw [if_pos hm], show k2s (kbes n C W B) (W - 1) y (a + 1) = k2s (kbes n C W B) (W - 1) y a + kbd C W B y a from by rw [← k2s_a]; show _ + (if (a + 1) % n = 0 then _ else _) = _; rw [if_pos hm], show k2s (kbos n C W B) (W - 1) y (a + 1) = k2s (kbos n C W B) (W - 1) y a + 0 from by rw [← k2s_a]; show _ + (if (a + 1) % n = 0 then _ else _) = _; rw [if_pos hm]]) rfl (rfl) rfl rfl ?_
                  exact LQ_ih (a + 1) (by omega) (by omega)
        refine J.cast (ws' := [(m, .inr (5, [.int (nI W), .int (nI H), .int (nI C), .int (nI 0), .ref o1, .ref o2, .int (nI W), .int (nI H), .ref go, .ref gt, .ref po, .ref pt, .ref my, .ref no, .ref so])), (o1, .inl (ty 0, 1728, .inl (kN O))), (o2, .inl (ty 0, 1728, .inl (kN T))), (go, .inl (ty 0, 576, .inl (kN (kfill (kg C A) F (W * H))))), (gt, .inl (ty 0, 576, .inl (kN (kfill (kg C B) G (W * H)))))]) (lv' := [(0, .ref m), (1, .int (nI n)), (2, .long (lN (k2s (kbes n C W B) (W - 1) y 0))), (4, .long (lN (k2s (kbos n C W B) (W - 1) y 0))), (6, .int (nI (k2s (kbe n) (W - 1) y 0))), (7, .int (nI (k2s (kbo n) (W - 1) y 0))), (8, .int (nI y)), (9, .int (nI (0 + 1)))]) (pc' := 58) (st' := []) (rfl) (rfl) rfl (rfl) rfl rfl ?_
        exact LQ (W - 1 + 1) 0 (by omega) (Nat.zero_le _)
  refine J.cast (ws' := [(m, .inr (5, [.int (nI W), .int (nI H), .int (nI C), .int (nI 0), .ref o1, .ref o2, .int (nI W), .int (nI H), .ref go, .ref gt, .ref po, .ref pt, .ref my, .ref no, .ref so])), (o1, .inl (ty 0, 1728, .inl (kN O))), (o2, .inl (ty 0, 1728, .inl (kN T))), (go, .inl (ty 0, 576, .inl (kN (kfill (kg C A) F (W * H))))), (gt, .inl (ty 0, 576, .inl (kN (kfill (kg C B) G (W * H)))))]) (lv' := [(0, .ref m), (1, .int (nI n)), (2, .long (lN (k2s (kbes n C W B) (W - 1) 0 0))), (4, .long (lN (k2s (kbos n C W B) (W - 1) 0 0))), (6, .int (nI (k2s (kbe n) (W - 1) 0 0))), (7, .int (nI (k2s (kbo n) (W - 1) 0 0))), (8, .int (nI 0))]) (pc' := 46) (st' := []) (rfl) (rfl) rfl (rfl) rfl rfl ?_
  exact LP (H + 1) 0 (by omega) (Nat.zero_le _)

set_option maxHeartbeats 4000000 in
set_option maxRecDepth 100000 in
theorem c_X5_blocks_1 (l : Launch) (D : va_G) (ty : Nat → ClassId) (m o1 o2 go gt po pt my no so W H C : Nat) (nw nh : Nat) (fa : Int32) (hW : W ≤ 24) (hH : H ≤ 24) (hW1 : 1 ≤ W) (hH1 : 1 ≤ H) (h1 : 1 ≤ C) (h3 : C ≤ 3) (x : Int32) (hno : ¬ ∃ n : Nat, 2 ≤ n ∧ n ≤ 24 ∧ x = nI n) : KM l yX5_blocks wsX5_blocks { frames := 3, cells := 0, slots := 0, locals := 120 } D ty [.ref m, .int (x)] [(m, .inr (5, [.int (nI W), .int (nI H), .int (nI C), .int (fa), .ref o1, .ref o2, .int (nI nw), .int (nI nh), .ref go, .ref gt, .ref po, .ref pt, .ref my, .ref no, .ref so]))] (kF (fun r u => r = 0 ∧ u = [(m, .inr (5, [.int (nI W), .int (nI H), .int (nI C), .int (nI 1), .ref o1, .ref o2, .int (nI nw), .int (nI nh), .ref go, .ref gt, .ref po, .ref pt, .ref my, .ref no, .ref so]))])) 0 0 := by
  refine KM.of (cc := cX5_blocks) (maxL := 12) (ret := (some .double)) (lv := [(0, .ref m), (1, .int (x))]) (by decide +kernel) rfl rfl rfl (fun X C0 R0 => ?_)
  have Cx : kC X cX5_blocks wsX5_blocks RX5 { frames := 3, cells := 0, slots := 0, locals := 120 } "blocks" l D ty 12 := C0
  refine j_aload_n (pc' := 1) Cx dX5_blocks_0 rfl rfl rfl ?_
  refine j_iload_n (pc' := 2) Cx dX5_blocks_1 rfl rfl rfl ?_
  refine j_iconst (pc' := 3) (v := (nI 2)) Cx dX5_blocks_2 rfl (by decide) ?_
  refine j_bipush (pc' := 5) (v := (nI 24)) Cx dX5_blocks_3 rfl (by decide) ?_
  refine j_callS (pc' := 8) (wr := [(m, .inr (5, [.int (nI W), .int (nI H), .int (nI C), .int (fa), .ref o1, .ref o2, .int (nI nw), .int (nI nh), .ref go, .ref gt, .ref po, .ref pt, .ref my, .ref no, .ref so]))]) (st := [.ref m]) Cx dX5_blocks_5 rfl (c_X5_in_no l D ty x (nI 2) (nI 24) (k_blkout hno)) gX5_blocks_X5_in rfl khd_X5_in rfl ⟨rfl, rfl, Nat.le_of_ble_eq_true rfl, Nat.le_of_ble_eq_true rfl⟩ [] [0] rfl rfl ⟨rfl, rfl⟩ (by decide) rfl (Nat.le_of_ble_eq_true rfl) ⟨Nat.le_of_ble_eq_true rfl, Nat.le_of_ble_eq_true rfl⟩ (fun v u hpost => ?_)
  obtain ⟨r, rfl, rfl, rfl⟩ := hpost
  show J X [(m, .inr (5, [.int (nI W), .int (nI H), .int (nI C), .int (fa), .ref o1, .ref o2, .int (nI nw), .int (nI nh), .ref go, .ref gt, .ref po, .ref pt, .ref my, .ref no, .ref so]))] [(0, .ref m), (1, .int (x))] 8 [.int (nI 0), .ref m] 0 0
  refine j_if_eq_n (tgt := 15) (pc' := 11) Cx dX5_blocks_8 (by decide) rfl (by omega) (fun _ => ?_) (fun hh => absurd hh (by decide))
  refine j_iconst (pc' := 16) (v := (nI 1)) Cx dX5_blocks_15 rfl (by decide) ?_
  refine j_put (pc' := 19) (N := 15) (t := .int) (ws' := [(m, .inr (5, [.int (nI W), .int (nI H), .int (nI C), .int (nI 1), .ref o1, .ref o2, .int (nI nw), .int (nI nh), .ref go, .ref gt, .ref po, .ref pt, .ref my, .ref no, .ref so]))]) Cx dX5_blocks_16 rfl kin_X5_blocks_X5 kfl_X5_blocks_48 tyX5_ok nmX5 0 rfl rfl 3 rfl rfl rfl rfl rfl rfl rfl ?_
  refine j_aload_n (pc' := 20) Cx dX5_blocks_19 rfl rfl rfl ?_
  refine j_get (pc' := 23) (N := 15) Cx dX5_blocks_20 rfl kin_X5_blocks_X5 kfl_X5_blocks_48 0 rfl rfl 3 rfl rfl rfl ?_
  refine j_if_le_n (tgt := 28) (pc' := 26) Cx dX5_blocks_23 (by decide) rfl (by omega) (fun hh => absurd hh (by decide)) (fun _ => ?_)
  refine j_dconst0 (pc' := 27) Cx dX5_blocks_26 rfl ?_
  exact j_dret Cx dX5_blocks_27 R0 ⟨Nat.le_of_ble_eq_true rfl, Nat.le_of_ble_eq_true rfl⟩ (⟨_, rfl, rfl, rfl⟩)

set_option maxHeartbeats 4000000 in
set_option maxRecDepth 100000 in
/-- bands, of the other one -/
theorem c_X5_bands (l : Launch) (D : va_G) (ty : Nat → ClassId) (m o1 o2 go gt po pt my no so W H C : Nat) (nw nh : Nat) (fa : Int32) (hW : W ≤ 24) (hH : H ≤ 24) (hW1 : 1 ≤ W) (hH1 : 1 ≤ H) (h1 : 1 ≤ C) (h3 : C ≤ 3) (O T A B : Nat → Nat) (hO : ∀ i, O i < 256) (hT : ∀ i, T i < 256) (hrA : krel C (W * H) O A) (hrB : krel C (W * H) T B) (F G : Nat → Nat) (hF : ∀ i, F i < 256) (hG : ∀ i, G i < 256) (hA : ∀ i, A i < 256) (hB : ∀ i, B i < 256) : KM l yX5_bands wsX5_bands { frames := 3, cells := 0, slots := 0, locals := 120 } D ty [.ref m] [(m, .inr (5, [.int (nI W), .int (nI H), .int (nI C), .int (fa), .ref o1, .ref o2, .int (nI nw), .int (nI nh), .ref go, .ref gt, .ref po, .ref pt, .ref my, .ref no, .ref so])), (o1, .inl (ty 0, 1728, .inl (kN O))), (o2, .inl (ty 0, 1728, .inl (kN T))), (go, .inl (ty 0, 576, .inl (kN F))), (gt, .inl (ty 0, 576, .inl (kN G)))] (kF (fun r u => r = kbandv (H * (W - 1)) (k2L (kbc C W A B) (W - 1) H 0) ∧ ∃ (F2 G2 : Nat → Nat) (nw2 nh2 : Nat), (∀ i, F2 i < 256) ∧ (∀ i, G2 i < 256) ∧ u = [(m, .inr (5, [.int (nI W), .int (nI H), .int (nI C), .int (nI 0), .ref o1, .ref o2, .int (nI nw2), .int (nI nh2), .ref go, .ref gt, .ref po, .ref pt, .ref my, .ref no, .ref so])), (o1, .inl (ty 0, 1728, .inl (kN O))), (o2, .inl (ty 0, 1728, .inl (kN T))), (go, .inl (ty 0, 576, .inl (kN F2))), (gt, .inl (ty 0, 576, .inl (kN G2)))])) 0 0 := by
  refine KM.of (cc := cX5_bands) (maxL := 7) (ret := (some .double)) (lv := [(0, .ref m)]) (by decide +kernel) rfl rfl rfl (fun X C0 R0 => ?_)
  have Cx : kC X cX5_bands wsX5_bands RX5 { frames := 3, cells := 0, slots := 0, locals := 120 } "bands" l D ty 7 := C0
  have hwh := k_wh hW hH
  have hgA := fun p => kg_lt (C := C) hA p
  have hgB := fun p => kg_lt (C := C) hB p
  have hF0 : ∀ i, (kfill (kg C A) F (W * H)) i < 256 := kfill_lt hgA hF (W * H)
  have hG0 : ∀ i, (kfill (kg C B) G (W * H)) i < 256 := kfill_lt hgB hG (W * H)
  have hFa : ∀ i, i < W * H → (kfill (kg C A) F (W * H)) i = kg C A i := fun i hi => kfill_in hi
  have hGa : ∀ i, i < W * H → (kfill (kg C B) G (W * H)) i = kg C B i := fun i hi => kfill_in hi
  have hHW : H * (W - 1) ≤ 24 * 24 := Nat.mul_le_mul hH (by omega)
  refine j_aload_n (pc' := 1) Cx dX5_bands_0 rfl rfl rfl ?_
  refine j_iconst (pc' := 2) (v := (nI 0)) Cx dX5_bands_1 rfl (by decide) ?_
  refine j_put (pc' := 5) (N := 15) (t := .int) (ws' := [(m, .inr (5, [.int (nI W), .int (nI H), .int (nI C), .int (nI 0), .ref o1, .ref o2, .int (nI nw), .int (nI nh), .ref go, .ref gt, .ref po, .ref pt, .ref my, .ref no, .ref so])), (o1, .inl (ty 0, 1728, .inl (kN O))), (o2, .inl (ty 0, 1728, .inl (kN T))), (go, .inl (ty 0, 576, .inl (kN F))), (gt, .inl (ty 0, 576, .inl (kN G)))]) Cx dX5_bands_2 rfl kin_X5_bands_X5 kfl_X5_bands_48 tyX5_ok nmX5 0 rfl rfl 3 rfl rfl rfl rfl rfl rfl rfl ?_
  refine j_aload_n (pc' := 6) Cx dX5_bands_5 rfl rfl rfl ?_
  refine j_callV (pc' := 9) (wr := []) (st := []) Cx dX5_bands_6 rfl (c_X5_makeGrey l D ty m o1 o2 go gt po pt my no so W H C nw nh (nI 0) hW hH hW1 hH1 h1 h3 O T A B hO hT hrA hrB F G) gX5_bands_X5_makeGrey rfl khd_X5_makeGrey rfl ⟨rfl, rfl, Nat.le_of_ble_eq_true rfl, Nat.le_of_ble_eq_true rfl⟩ [0, 1, 2, 3, 4] [] rfl rfl ⟨rfl, rfl⟩ (by decide) 0 rfl rfl rfl (Nat.le_of_ble_eq_true rfl) ⟨Nat.le_of_ble_eq_true rfl, Nat.le_of_ble_eq_true rfl⟩ (fun v u hpost => ?_)
  obtain ⟨rfl, rfl⟩ := hpost
  show J X [(m, .inr (5, [.int (nI W), .int (nI H), .int (nI C), .int (nI 0), .ref o1, .ref o2, .int (nI W), .int (nI H), .ref go, .ref gt, .ref po, .ref pt, .ref my, .ref no, .ref so])), (o1, .inl (ty 0, 1728, .inl (kN O))), (o2, .inl (ty 0, 1728, .inl (kN T))), (go, .inl (ty 0, 576, .inl (kN (kfill (kg C A) F (W * H))))), (gt, .inl (ty 0, 576, .inl (kN (kfill (kg C B) G (W * H)))))] [(0, .ref m)] 9 [] 0 0
  refine j_iconst (pc' := 10) (v := (nI 0)) Cx dX5_bands_9 rfl (by decide) ?_
  refine j_istore_n (pc' := 11) (lv' := [(0, .ref m), (1, .int (nI 0))]) Cx dX5_bands_10 rfl rfl (by decide) rfl ?_
  refine j_iconst (pc' := 12) (v := (nI 0)) Cx dX5_bands_11 rfl (by decide) ?_
  refine j_istore_n (pc' := 13) (lv' := [(0, .ref m), (1, .int (nI 0)), (2, .int (nI 0))]) Cx dX5_bands_12 rfl rfl (by decide) rfl ?_
  refine j_iconst (pc' := 14) (v := (nI 0)) Cx dX5_bands_13 rfl (by decide) ?_
  refine j_istore_n (pc' := 15) (lv' := [(0, .ref m), (1, .int (nI 0)), (2, .int (nI 0)), (3, .int (nI 0))]) Cx dX5_bands_14 rfl rfl (by decide) rfl ?_
  have LP : ∀ (LP_n : Nat), ∀ (y : Nat), (H - y < LP_n) → (y ≤ H) → J X [(m, .inr (5, [.int (nI W), .int (nI H), .int (nI C), .int (nI 0), .ref o1, .ref o2, .int (nI W), .int (nI H), .ref go, .ref gt, .ref po, .ref pt, .ref my, .ref no, .ref so])), (o1, .inl (ty 0, 1728, .inl (kN O))), (o2, .inl (ty 0, 1728, .inl (kN T))), (go, .inl (ty 0, 576, .inl (kN (kfill (kg C A) F (W * H))))), (gt, .inl (ty 0, 576, .inl (kN (kfill (kg C B) G (W * H)))))] [(0, .ref m), (1, .int ((k2L (kbc C W A B) (W - 1) y 0).toInt32)), (2, .int (nI (y * (W - 1)))), (3, .int (nI y))] 15 [] 0 0 := by
    intro LP_n
    induction LP_n with
    | zero =>
      intro y hms _
      exact absurd hms (Nat.not_lt_zero _)
    | succ LP_n LP_ih =>
      intro y LP_m hle
      have b1 : y * (W - 1) ≤ H * (W - 1) := Nat.mul_le_mul_right _ hle
      refine j_iload_n (pc' := 16) Cx dX5_bands_15 rfl rfl rfl ?_
      refine j_aload_n (pc' := 17) Cx dX5_bands_16 rfl rfl rfl ?_
      refine j_get (pc' := 20) (N := 15) Cx dX5_bands_17 rfl kin_X5_bands_X5 kfl_X5_bands_42 0 rfl rfl 1 rfl rfl rfl ?_
      refine j_icmp_ge_n (tgt := 156) (pc' := 23) Cx dX5_bands_20 (by decide) rfl (by omega) (by omega) (fun hy => ?_) (fun hy => ?_)
      · have e : y = H := by omega
        subst e
        refine j_iload_n (pc' := 157) Cx dX5_bands_156 rfl rfl rfl ?_
        refine j_if_ne_n (tgt := 164) (pc' := 160) Cx dX5_bands_157 (by decide) rfl (by omega) (fun h0 => ?_) (fun h0 => ?_)
        · refine j_iload_n (pc' := 165) Cx dX5_bands_164 rfl rfl rfl ?_
          refine j_i2d (pc' := 166) Cx dX5_bands_165 rfl ?_
          refine j_top (v' := .double (FP.l2d (k2L (kbc C W A B) (W - 1) y 0))) (congrArg Value.double (k2L_band hW hH)) ?_
          refine j_iload_n (pc' := 167) Cx dX5_bands_166 rfl rfl rfl ?_
          refine j_i2d (pc' := 168) Cx dX5_bands_167 rfl ?_
          refine j_ddiv (pc' := 169) Cx dX5_bands_168 rfl (k_ddiv_no (k_noNaN (FP.Core.l2d_fin _).notNaN) (Nat.pos_of_ne_zero h0) (by omega)) ?_
          exact j_dret Cx dX5_bands_169 R0 ⟨Nat.le_of_ble_eq_true rfl, Nat.le_of_ble_eq_true rfl⟩ (⟨_, rfl, (if_neg h0).symm, kfill (kg C A) F (W * y), kfill (kg C B) G (W * y), W, y, hF0, hG0, rfl⟩)
        · refine j_dconst0 (pc' := 161) Cx dX5_bands_160 rfl ?_
          refine j_goto (tgt := 169) Cx dX5_bands_161 (by decide) ?_
          exact j_dret Cx dX5_bands_169 R0 ⟨Nat.le_of_ble_eq_true rfl, Nat.le_of_ble_eq_true rfl⟩ (⟨_, rfl, (if_pos h0).symm, kfill (kg C A) F (W * y), kfill (kg C B) G (W * y), W, y, hF0, hG0, rfl⟩)
      · refine j_iconst (pc' := 24) (v := (nI 1)) Cx dX5_bands_23 rfl (by decide) ?_
        refine j_istore (pc' := 26) (lv' := [(0, .ref m), (1, .int ((k2L (kbc C W A B) (W - 1) y 0).toInt32)), (2, .int (nI (y * (W - 1)))), (3, .int (nI y)), (4, .int (nI 1))]) Cx dX5_bands_24 rfl (by decide) rfl ?_
        have LQ : ∀ (LQ_n : Nat), ∀ (a : Nat), (W - 1 - a < LQ_n) → (a ≤ W - 1) → J X [(m, .inr (5, [.int (nI W), .int (nI H), .int (nI C), .int (nI 0), .ref o1, .ref o2, .int (nI W), .int (nI H), .ref go, .ref gt, .ref po, .ref pt, .ref my, .ref no, .ref so])), (o1, .inl (ty 0, 1728, .inl (kN O))), (o2, .inl (ty 0, 1728, .inl (kN T))), (go, .inl (ty 0, 576, .inl (kN (kfill (kg C A) F (W * H))))), (gt, .inl (ty 0, 576, .inl (kN (kfill (kg C B) G (W * H)))))] [(0, .ref m), (1, .int ((k2L (kbc C W A B) (W - 1) y a).toInt32)), (2, .int (nI (y * (W - 1) + a))), (3, .int (nI y)), (4, .int (nI (a + 1)))] 26 [] 0 0 := by
          intro LQ_n
          induction LQ_n with
          | zero =>
            intro a hms _
            exact absurd hms (Nat.not_lt_zero _)
          | succ LQ_n LQ_ih =>
            intro a LQ_m hla
            refine j_iload (pc' := 28) Cx dX5_bands_26 rfl rfl ?_
            refine j_aload_n (pc' := 29) Cx dX5_bands_28 rfl rfl rfl ?_
            refine j_get (pc' := 32) (N := 15) Cx dX5_bands_29 rfl kin_X5_bands_X5 kfl_X5_bands_38 0 rfl rfl 0 rfl rfl rfl ?_
            refine j_icmp_ge_n (tgt := 150) (pc' := 35) Cx dX5_bands_32 (by decide) rfl (by omega) (by omega) (fun hx => ?_) (fun hx => ?_)
            · have e : a = W - 1 := by omega
              subst e
              refine j_iinc_n (pc' := 153) (z := 1) (a := y) (lv' := [(0, .ref m), (1, .int ((k2L (kbc C W A B) (W - 1) y (W - 1)).toInt32)), (2, .int (nI (y * (W - 1) + (W - 1)))), (3, .int (nI (y + 1))), (4, .int (nI ((W - 1) + 1)))]) Cx dX5_bands_150 rfl rfl (by decide) rfl ?_
              refine j_goto (tgt := 15) Cx dX5_bands_153 (by decide) ?_
              refine J.lvs (lv' := [(0, .ref m), (1, .int ((k2L (kbc C W A B) (W - 1) y (W - 1)).toInt32)), (2, .int (nI (y * (W - 1) + (W - 1)))), (3, .int (nI (y + 1)))]) [0, 1, 2, 3] rfl ?_
              refine J.cast (ws' := [(m, .inr (5, [.int (nI W), .int (nI H), .int (nI C), .int (nI 0), .ref o1, .ref o2, .int (nI W), .int (nI H), .ref go, .ref gt, .ref po, .ref pt, .ref my, .ref no, .ref so])), (o1, .inl (ty 0, 1728, .inl (kN O))), (o2, .inl (ty 0, 1728, .inl (kN T))), (go, .inl (ty 0, 576, .inl (kN (kfill (kg C A) F (W * H))))), (gt, .inl (ty 0, 576, .inl (kN (kfill (kg C B) G (W * H)))))]) (lv' := [(0, .ref m), (1, .int ((k2L (kbc C W A B) (W - 1) (y + 1) 0).toInt32)), (2, .int (nI ((y + 1) * (W - 1)))), (3, .int (nI (y + 1)))]) (pc' := 15) (st' := []) (rfl) (by rw [Nat.succ_mul, k2L_row]) rfl (rfl) rfl rfl ?_
              exact LP_ih (y + 1) (by omega) (by omega)
            · have hp0 := k_idx' (w := W) (h := H) (x := a + 1) (y := y) (by omega) (by omega)
              have qA1 := hgA (y * W + (a + 1))
              have qA2 := hgA (y * W + (a + 1) - 1)
              have hsA := kbd_le (C := C) (W := W) hA y a
              have qB1 := hgB (y * W + (a + 1))
              have qB2 := hgB (y * W + (a + 1) - 1)
              have hsB := kbd_le (C := C) (W := W) hB y a
              refine j_aload_n (pc' := 36) Cx dX5_bands_35 rfl rfl rfl ?_
              refine j_get (pc' := 39) (N := 15) Cx dX5_bands_36 rfl kin_X5_bands_X5 kfl_X5_bands_16 0 rfl rfl 8 rfl rfl rfl ?_
              refine j_aload_n (pc' := 40) Cx dX5_bands_39 rfl rfl rfl ?_
              refine j_get (pc' := 43) (N := 15) Cx dX5_bands_40 rfl kin_X5_bands_X5 kfl_X5_bands_38 0 rfl rfl 0 rfl rfl rfl ?_
              refine j_iload_n (pc' := 44) Cx dX5_bands_43 rfl rfl rfl ?_
              refine j_imul_n (pc' := 45) Cx dX5_bands_44 rfl ?_
              refine j_iload (pc' := 47) Cx dX5_bands_45 rfl rfl ?_
              refine j_iadd_n (pc' := 48) Cx dX5_bands_47 rfl ?_
              refine j_iaload_nn (pc' := 49) Cx dX5_bands_48 rfl 3 rfl (by omega) (by omega) ?_
              refine j_top (v' := .int (nI (kg C A (y * W + (a + 1))))) (congrArg (fun z : Nat => Value.int (nI z)) (show (kfill (kg C A) F (W * H)) ((W * y) + (a + 1)) = kg C A (y * W + (a + 1)) from (hFa _ hp0).trans (by rw [Nat.mul_comm]))) ?_
              refine j_aload_n (pc' := 50) Cx dX5_bands_49 rfl rfl rfl ?_
              refine j_get (pc' := 53) (N := 15) Cx dX5_bands_50 rfl kin_X5_bands_X5 kfl_X5_bands_16 0 rfl rfl 8 rfl rfl rfl ?_
              refine j_aload_n (pc' := 54) Cx dX5_bands_53 rfl rfl rfl ?_
              refine j_get (pc' := 57) (N := 15) Cx dX5_bands_54 rfl kin_X5_bands_X5 kfl_X5_bands_38 0 rfl rfl 0 rfl rfl rfl ?_
              refine j_iload_n (pc' := 58) Cx dX5_bands_57 rfl rfl rfl ?_
              refine j_imul_n (pc' := 59) Cx dX5_bands_58 rfl ?_
              refine j_iload (pc' := 61) Cx dX5_bands_59 rfl rfl ?_
              refine j_iadd_n (pc' := 62) Cx dX5_bands_61 rfl ?_
              refine j_iconst (pc' := 63) (v := (nI 1)) Cx dX5_bands_62 rfl (by decide) ?_
              refine j_isub_n (pc' := 64) Cx dX5_bands_63 rfl (by omega) ?_
              refine j_iaload_nn (pc' := 65) Cx dX5_bands_64 rfl 3 rfl (by omega) (by omega) ?_
              refine j_top (v' := .int (nI (kg C A (y * W + (a + 1) - 1)))) (congrArg (fun z : Nat => Value.int (nI z)) (show (kfill (kg C A) F (W * H)) (((W * y) + (a + 1)) - 1) = kg C A (y * W + (a + 1) - 1) from (hFa _ (by omega)).trans (by rw [Nat.mul_comm]))) ?_
              refine j_isub (pc' := 66) Cx dX5_bands_65 rfl ?_
              refine j_istore (pc' := 68) (lv' := [(0, .ref m), (1, .int ((k2L (kbc C W A B) (W - 1) y a).toInt32)), (2, .int (nI (y * (W - 1) + a))), (3, .int (nI y)), (4, .int (nI (a + 1))), (5, .int ((nI (kg C A (y * W + (a + 1)))) - (nI (kg C A (y * W + (a + 1) - 1)))))]) Cx dX5_bands_66 rfl (by decide) rfl ?_
              refine j_aload_n (pc' := 69) Cx dX5_bands_68 rfl rfl rfl ?_
              refine j_get (pc' := 72) (N := 15) Cx dX5_bands_69 rfl kin_X5_bands_X5 kfl_X5_bands_19 0 rfl rfl 9 rfl rfl rfl ?_
              refine j_aload_n (pc' := 73) Cx dX5_bands_72 rfl rfl rfl ?_
              refine j_get (pc' := 76) (N := 15) Cx dX5_bands_73 rfl kin_X5_bands_X5 kfl_X5_bands_38 0 rfl rfl 0 rfl rfl rfl ?_
              refine j_iload_n (pc' := 77) Cx dX5_bands_76 rfl rfl rfl ?_
              refine j_imul_n (pc' := 78) Cx dX5_bands_77 rfl ?_
              refine j_iload (pc' := 80) Cx dX5_bands_78 rfl rfl ?_
              refine j_iadd_n (pc' := 81) Cx dX5_bands_80 rfl ?_
              refine j_iaload_nn (pc' := 82) Cx dX5_bands_81 rfl 4 rfl (by omega) (by omega) ?_
              refine j_top (v' := .int (nI (kg C B (y * W + (a + 1))))) (congrArg (fun z : Nat => Value.int (nI z)) (show (kfill (kg C B) G (W * H)) ((W * y) + (a + 1)) = kg C B (y * W + (a + 1)) from (hGa _ hp0).trans (by rw [Nat.mul_comm]))) ?_
              refine j_aload_n (pc' := 83) Cx dX5_bands_82 rfl rfl rfl ?_
              refine j_get (pc' := 86) (N := 15) Cx dX5_bands_83 rfl kin_X5_bands_X5 kfl_X5_bands_19 0 rfl rfl 9 rfl rfl rfl ?_
              refine j_aload_n (pc' := 87) Cx dX5_bands_86 rfl rfl rfl ?_
              refine j_get (pc' := 90) (N := 15) Cx dX5_bands_87 rfl kin_X5_bands_X5 kfl_X5_bands_38 0 rfl rfl 0 rfl rfl rfl ?_
              refine j_iload_n (pc' := 91) Cx dX5_bands_90 rfl rfl rfl ?_
              refine j_imul_n (pc' := 92) Cx dX5_bands_91 rfl ?_
              refine j_iload (pc' := 94) Cx dX5_bands_92 rfl rfl ?_
              refine j_iadd_n (pc' := 95) Cx dX5_bands_94 rfl ?_
              refine j_iconst (pc' := 96) (v := (nI 1)) Cx dX5_bands_95 rfl (by decide) ?_
              refine j_isub_n (pc' := 97) Cx dX5_bands_96 rfl (by omega) ?_
              refine j_iaload_nn (pc' := 98) Cx dX5_bands_97 rfl 4 rfl (by omega) (by omega) ?_
              refine j_top (v' := .int (nI (kg C B (y * W + (a + 1) - 1)))) (congrArg (fun z : Nat => Value.int (nI z)) (show (kfill (kg C B) G (W * H)) (((W * y) + (a + 1)) - 1) = kg C B (y * W + (a + 1) - 1) from (hGa _ (by omega)).trans (by rw [Nat.mul_comm]))) ?_
              have sA : kbd C W A y a * kbd C W A y a ≤ 255 * 255 := Nat.mul_le_mul hsA hsA
              have sB : kbd C W B y a * kbd C W B y a ≤ 255 * 255 := Nat.mul_le_mul hsB hsB
              have zA : (nI (kg C A (y * W + (a + 1))) - nI (kg C A (y * W + (a + 1) - 1)) = 0) ↔ kbd C W A y a = 0 := k_sub0 qA1 qA2
              have zB : (nI (kg C B (y * W + (a + 1))) - nI (kg C B (y * W + (a + 1) - 1)) = 0) ↔ kbd C W B y a = 0 := k_sub0 qB1 qB2
              refine j_isub (pc' := 99) Cx dX5_bands_98 rfl ?_
              refine j_istore (pc' := 101) (lv' := [(0, .ref m), (1, .int ((k2L (kbc C W A B) (W - 1) y a).toInt32)), (2, .int (nI (y * (W - 1) + a))), (3, .int (nI y)), (4, .int (nI (a + 1))), (5, .int ((nI (kg C A (y * W + (a + 1)))) - (nI (kg C A (y * W + (a + 1) - 1))))), (6, .int ((nI (kg C B (y * W + (a + 1)))) - (nI (kg C B (y * W + (a + 1) - 1)))))]) Cx dX5_bands_99 rfl (by decide) rfl ?_
              refine j_iload_n (pc' := 102) Cx dX5_bands_101 rfl rfl rfl ?_
              refine j_iload (pc' := 104) Cx dX5_bands_102 rfl rfl ?_
              refine j_iload (pc' := 106) Cx dX5_bands_104 rfl rfl ?_
              refine j_imul (pc' := 107) Cx dX5_bands_106 rfl ?_
              refine j_top (v' := .int (nI (kbd C W A y a * kbd C W A y a))) (congrArg Value.int (k_sq _ _)) ?_
              refine j_iconst (pc' := 108) (v := (nI 1)) Cx dX5_bands_107 rfl (by decide) ?_
              refine j_icmp_ne_n (tgt := 120) (pc' := 111) Cx dX5_bands_108 (by decide) rfl (by omega) (by decide) (fun h1e => ?_) (fun h1e => ?_)
              · refine j_iload (pc' := 122) Cx dX5_bands_120 rfl rfl ?_
                refine j_if_ne (tgt := 138) (pc' := 125) Cx dX5_bands_122 (by decide) rfl (fun h3e => ?_) (fun h3e => ?_)
                · refine j_iconst (pc' := 139) (v := (nI 0)) Cx dX5_bands_138 rfl (by decide) ?_
                  refine j_iadd (pc' := 140) Cx dX5_bands_139 rfl ?_
                  refine j_istore_n (pc' := 141) (lv' := [(0, .ref m), (1, .int (((k2L (kbc C W A B) (W - 1) y a).toInt32) + (nI 0))), (2, .int (nI (y * (W - 1) + a))), (3, .int (nI y)), (4, .int (nI (a + 1))), (5, .int ((nI (kg C A (y * W + (a + 1)))) - (nI (kg C A (y * W + (a + 1) - 1))))), (6, .int ((nI (kg C B (y * W + (a + 1)))) - (nI (kg C B (y * W + (a + 1) - 1)))))]) Cx dX5_bands_140 rfl rfl (by decide) rfl ?_
                  refine j_iinc_n (pc' := 144) (z := 1) (a := (y * (W - 1) + a)) (lv' := [(0, .ref m), (1, .int (((k2L (kbc C W A B) (W - 1) y a).toInt32) + (nI 0))), (2, .int (nI (y * (W - 1) + a + 1))), (3, .int (nI y)), (4, .int (nI (a + 1))), (5, .int ((nI (kg C A (y * W + (a + 1)))) - (nI (kg C A (y * W + (a + 1) - 1))))), (6, .int ((nI (kg C B (y * W + (a + 1)))) - (nI (kg C B (y * W + (a + 1) - 1)))))]) Cx dX5_bands_141 rfl rfl (by decide) rfl ?_
                  refine j_iinc_n (pc' := 147) (z := 1) (a := (a + 1)) (lv' := [(0, .ref m), (1, .int (((k2L (kbc C W A B) (W - 1) y a).toInt32) + (nI 0))), (2, .int (nI (y * (W - 1) + a + 1))), (3, .int (nI y)), (4, .int (nI (a + 1 + 1))), (5, .int ((nI (kg C A (y * W + (a + 1)))) - (nI (kg C A (y * W + (a + 1) - 1))))), (6, .int ((nI (kg C B (y * W + (a + 1)))) - (nI (kg C B (y * W + (a + 1) - 1)))))]) Cx dX5_bands_144 rfl rfl (by decide) rfl ?_
                  refine j_goto (tgt := 26) Cx dX5_bands_147 (by decide) ?_
                  refine J.lvs (lv' := [(0, .ref m), (1, .int (((k2L (kbc C W A B) (W - 1) y a).toInt32) + (nI 0))), (2, .int (nI (y * (W - 1) + a + 1))), (3, .int (nI y)), (4, .int (nI (a + 1 + 1)))]) [0, 1, 2, 3, 4] rfl ?_
                  refine J.cast (ws' := [(m, .inr (5, [.int (nI W), .int (nI H), .int (nI C), .int (nI 0), .ref o1, .ref o2, .int (nI W), .int (nI H), .ref go, .ref gt, .ref po, .ref pt, .ref my, .ref no, .ref so])), (o1, .inl (ty 0, 1728, .inl (kN O))), (o2, .inl (ty 0, 1728, .inl (kN T))), (go, .inl (ty 0, 576, .inl (kN (kfill (kg C A) F (W * H))))), (gt, .inl (ty 0, 576, .inl (kN (kfill (kg C B) G (W * H)))))]) (lv' := [(0, .ref m), (1, .int ((k2L (kbc C W A B) (W - 1) y (a + 1)).toInt32)), (2, .int (nI (y * (W - 1) + (a + 1)))), (3, .int (nI y)), (4, .int (nI ((a + 1) + 1)))]) (pc' := 26) (st' := []) (rfl) (by rw [← k2L_a, show kbc C W A B y a = 0 from by show kbn _ _ = _; unfold kbn; rw [if_neg (fun e => h1e (k_sq1.mpr e.1)), if_neg (fun e => h3e (zA.mpr e.1))], Int64.toInt32_add]; rfl) rfl (rfl) rfl rfl ?_
                  exact LQ_ih (a + 1) (by omega) (by omega)
                · refine j_iload (pc' := 127) Cx dX5_bands_125 rfl rfl ?_
                  refine j_iload (pc' := 129) Cx dX5_bands_127 rfl rfl ?_
                  refine j_imul (pc' := 130) Cx dX5_bands_129 rfl ?_
                  refine j_top (v' := .int (nI (kbd C W B y a * kbd C W B y a))) (congrArg Value.int (k_sq _ _)) ?_
                  refine j_iconst (pc' := 131) (v := (nI 1)) Cx dX5_bands_130 rfl (by decide) ?_
                  refine j_icmp_ne_n (tgt := 138) (pc' := 134) Cx dX5_bands_131 (by decide) rfl (by omega) (by decide) (fun h4e => ?_) (fun h4e => ?_)
                  · refine j_iconst (pc' := 139) (v := (nI 0)) Cx dX5_bands_138 rfl (by decide) ?_
                    refine j_iadd (pc' := 140) Cx dX5_bands_139 rfl ?_
                    refine j_istore_n (pc' := 141) (lv' := [(0, .ref m), (1, .int (((k2L (kbc C W A B) (W - 1) y a).toInt32) + (nI 0))), (2, .int (nI (y * (W - 1) + a))), (3, .int (nI y)), (4, .int (nI (a + 1))), (5, .int ((nI (kg C A (y * W + (a + 1)))) - (nI (kg C A (y * W + (a + 1) - 1))))), (6, .int ((nI (kg C B (y * W + (a + 1)))) - (nI (kg C B (y * W + (a + 1) - 1)))))]) Cx dX5_bands_140 rfl rfl (by decide) rfl ?_
                    refine j_iinc_n (pc' := 144) (z := 1) (a := (y * (W - 1) + a)) (lv' := [(0, .ref m), (1, .int (((k2L (kbc C W A B) (W - 1) y a).toInt32) + (nI 0))), (2, .int (nI (y * (W - 1) + a + 1))), (3, .int (nI y)), (4, .int (nI (a + 1))), (5, .int ((nI (kg C A (y * W + (a + 1)))) - (nI (kg C A (y * W + (a + 1) - 1))))), (6, .int ((nI (kg C B (y * W + (a + 1)))) - (nI (kg C B (y * W + (a + 1) - 1)))))]) Cx dX5_bands_141 rfl rfl (by decide) rfl ?_
                    refine j_iinc_n (pc' := 147) (z := 1) (a := (a + 1)) (lv' := [(0, .ref m), (1, .int (((k2L (kbc C W A B) (W - 1) y a).toInt32) + (nI 0))), (2, .int (nI (y * (W - 1) + a + 1))), (3, .int (nI y)), (4, .int (nI (a + 1 + 1))), (5, .int ((nI (kg C A (y * W + (a + 1)))) - (nI (kg C A (y * W + (a + 1) - 1))))), (6, .int ((nI (kg C B (y * W + (a + 1)))) - (nI (kg C B (y * W + (a + 1) - 1)))))]) Cx dX5_bands_144 rfl rfl (by decide) rfl ?_
                    refine j_goto (tgt := 26) Cx dX5_bands_147 (by decide) ?_
                    refine J.lvs (lv' := [(0, .ref m), (1, .int (((k2L (kbc C W A B) (W - 1) y a).toInt32) + (nI 0))), (2, .int (nI (y * (W - 1) + a + 1))), (3, .int (nI y)), (4, .int (nI (a + 1 + 1)))]) [0, 1, 2, 3, 4] rfl ?_
                    refine J.cast (ws' := [(m, .inr (5, [.int (nI W), .int (nI H), .int (nI C), .int (nI 0), .ref o1, .ref o2, .int (nI W), .int (nI H), .ref go, .ref gt, .ref po, .ref pt, .ref my, .ref no, .ref so])), (o1, .inl (ty 0, 1728, .inl (kN O))), (o2, .inl (ty 0, 1728, .inl (kN T))), (go, .inl (ty 0, 576, .inl (kN (kfill (kg C A) F (W * H))))), (gt, .inl (ty 0, 576, .inl (kN (kfill (kg C B) G (W * H)))))]) (lv' := [(0, .ref m), (1, .int ((k2L (kbc C W A B) (W - 1) y (a + 1)).toInt32)), (2, .int (nI (y * (W - 1) + (a + 1)))), (3, .int (nI y)), (4, .int (nI ((a + 1) + 1)))]) (pc' := 26) (st' := []) (rfl) (by rw [← k2L_a, show kbc C W A B y a = 0 from by show kbn _ _ = _; unfold kbn; rw [if_neg (fun e => h1e (k_sq1.mpr e.1)), if_neg (fun e => h4e (k_sq1.mpr e.2))], Int64.toInt32_add]; rfl) rfl (rfl) rfl rfl ?_
                    exact LQ_ih (a + 1) (by omega) (by omega)
                  · refine j_iconst (pc' := 135) (v := (-1)) Cx dX5_bands_134 rfl (by decide) ?_
                    refine j_goto (tgt := 139) Cx dX5_bands_135 (by decide) ?_
                    refine j_iadd (pc' := 140) Cx dX5_bands_139 rfl ?_
                    refine j_istore_n (pc' := 141) (lv' := [(0, .ref m), (1, .int (((k2L (kbc C W A B) (W - 1) y a).toInt32) + (-1))), (2, .int (nI (y * (W - 1) + a))), (3, .int (nI y)), (4, .int (nI (a + 1))), (5, .int ((nI (kg C A (y * W + (a + 1)))) - (nI (kg C A (y * W + (a + 1) - 1))))), (6, .int ((nI (kg C B (y * W + (a + 1)))) - (nI (kg C B (y * W + (a + 1) - 1)))))]) Cx dX5_bands_140 rfl rfl (by decide) rfl ?_
                    refine j_iinc_n (pc' := 144) (z := 1) (a := (y * (W - 1) + a)) (lv' := [(0, .ref m), (1, .int (((k2L (kbc C W A B) (W - 1) y a).toInt32) + (-1))), (2, .int (nI (y * (W - 1) + a + 1))), (3, .int (nI y)), (4, .int (nI (a + 1))), (5, .int ((nI (kg C A (y * W + (a + 1)))) - (nI (kg C A (y * W + (a + 1) - 1))))), (6, .int ((nI (kg C B (y * W + (a + 1)))) - (nI (kg C B (y * W + (a + 1) - 1)))))]) Cx dX5_bands_141 rfl rfl (by decide) rfl ?_
                    refine j_iinc_n (pc' := 147) (z := 1) (a := (a + 1)) (lv' := [(0, .ref m), (1, .int (((k2L (kbc C W A B) (W - 1) y a).toInt32) + (-1))), (2, .int (nI (y * (W - 1) + a + 1))), (3, .int (nI y)), (4, .int (nI (a + 1 + 1))), (5, .int ((nI (kg C A (y * W + (a + 1)))) - (nI (kg C A (y * W + (a + 1) - 1))))), (6, .int ((nI (kg C B (y * W + (a + 1)))) - (nI (kg C B (y * W + (a + 1) - 1)))))]) Cx dX5_bands_144 rfl rfl (by decide) rfl ?_
                    refine j_goto (tgt := 26) Cx dX5_bands_147 (by decide) ?_
                    refine J.lvs (lv' := [(0, .ref m), (1, .int (((k2L (kbc C W A B) (W - 1) y a).toInt32) + (-1))), (2, .int (nI (y * (W - 1) + a + 1))), (3, .int (nI y)), (4, .int (nI (a + 1 + 1)))]) [0, 1, 2, 3, 4] rfl ?_
                    refine J.cast (ws' := [(m, .inr (5, [.int (nI W), .int (nI H), .int (nI C), .int (nI 0), .ref o1, .ref o2, .int (nI W), .int (nI H), .ref go, .ref gt, .ref po, .ref pt, .ref my, .ref no, .ref so])), (o1, .inl (ty 0, 1728, .inl (kN O))), (o2, .inl (ty 0, 1728, .inl (kN T))), (go, .inl (ty 0, 576, .inl (kN (kfill (kg C A) F (W * H))))), (gt, .inl (ty 0, 576, .inl (kN (kfill (kg C B) G (W * H)))))]) (lv' := [(0, .ref m), (1, .int ((k2L (kbc C W A B) (W - 1) y (a + 1)).toInt32)), (2, .int (nI (y * (W - 1) + (a + 1)))), (3, .int (nI y)), (4, .int (nI ((a + 1) + 1)))]) (pc' := 26) (st' := []) (rfl) (by rw [← k2L_a, show kbc C W A B y a = -1 from by show kbn _ _ = _; unfold kbn; rw [if_neg (fun e => h1e (k_sq1.mpr e.1)), if_pos ⟨zA.mp h3e, k_sq1.mp h4e⟩], Int64.toInt32_add]; rfl) rfl (rfl) rfl rfl ?_
                    exact LQ_ih (a + 1) (by omega) (by omega)
              · refine j_iload (pc' := 113) Cx dX5_bands_111 rfl rfl ?_
                refine j_if_ne (tgt := 120) (pc' := 116) Cx dX5_bands_113 (by decide) rfl (fun h2e => ?_) (fun h2e => ?_)
                · refine j_iload (pc' := 122) Cx dX5_bands_120 rfl rfl ?_
                  refine j_if_ne (tgt := 138) (pc' := 125) Cx dX5_bands_122 (by decide) rfl (fun h3e => ?_) (fun h3e => ?_)
                  · refine j_iconst (pc' := 139) (v := (nI 0)) Cx dX5_bands_138 rfl (by decide) ?_
                    refine j_iadd (pc' := 140) Cx dX5_bands_139 rfl ?_
                    refine j_istore_n (pc' := 141) (lv' := [(0, .ref m), (1, .int (((k2L (kbc C W A B) (W - 1) y a).toInt32) + (nI 0))), (2, .int (nI (y * (W - 1) + a))), (3, .int (nI y)), (4, .int (nI (a + 1))), (5, .int ((nI (kg C A (y * W + (a + 1)))) - (nI (kg C A (y * W + (a + 1) - 1))))), (6, .int ((nI (kg C B (y * W + (a + 1)))) - (nI (kg C B (y * W + (a + 1) - 1)))))]) Cx dX5_bands_140 rfl rfl (by decide) rfl ?_
                    refine j_iinc_n (pc' := 144) (z := 1) (a := (y * (W - 1) + a)) (lv' := [(0, .ref m), (1, .int (((k2L (kbc C W A B) (W - 1) y a).toInt32) + (nI 0))), (2, .int (nI (y * (W - 1) + a + 1))), (3, .int (nI y)), (4, .int (nI (a + 1))), (5, .int ((nI (kg C A (y * W + (a + 1)))) - (nI (kg C A (y * W + (a + 1) - 1))))), (6, .int ((nI (kg C B (y * W + (a + 1)))) - (nI (kg C B (y * W + (a + 1) - 1)))))]) Cx dX5_bands_141 rfl rfl (by decide) rfl ?_
                    refine j_iinc_n (pc' := 147) (z := 1) (a := (a + 1)) (lv' := [(0, .ref m), (1, .int (((k2L (kbc C W A B) (W - 1) y a).toInt32) + (nI 0))), (2, .int (nI (y * (W - 1) + a + 1))), (3, .int (nI y)), (4, .int (nI (a + 1 + 1))), (5, .int ((nI (kg C A (y * W + (a + 1)))) - (nI (kg C A (y * W + (a + 1) - 1))))), (6, .int ((nI (kg C B (y * W + (a + 1)))) - (nI (kg C B (y * W + (a + 1) - 1)))))]) Cx dX5_bands_144 rfl rfl (by decide) rfl ?_
                    refine j_goto (tgt := 26) Cx dX5_bands_147 (by decide) ?_
                    refine J.lvs (lv' := [(0, .ref m), (1, .int (((k2L (kbc C W A B) (W - 1) y a).toInt32) + (nI 0))), (2, .int (nI (y * (W - 1) + a + 1))), (3, .int (nI y)), (4, .int (nI (a + 1 + 1)))]) [0, 1, 2, 3, 4] rfl ?_
                    refine J.cast (ws' := [(m, .inr (5, [.int (nI W), .int (nI H), .int (nI C), .int (nI 0), .ref o1, .ref o2, .int (nI W), .int (nI H), .ref go, .ref gt, .ref po, .ref pt, .ref my, .ref no, .ref so])), (o1, .inl (ty 0, 1728, .inl (kN O))), (o2, .inl (ty 0, 1728, .inl (kN T))), (go, .inl (ty 0, 576, .inl (kN (kfill (kg C A) F (W * H))))), (gt, .inl (ty 0, 576, .inl (kN (kfill (kg C B) G (W * H)))))]) (lv' := [(0, .ref m), (1, .int ((k2L (kbc C W A B) (W - 1) y (a + 1)).toInt32)), (2, .int (nI (y * (W - 1) + (a + 1)))), (3, .int (nI y)), (4, .int (nI ((a + 1) + 1)))]) (pc' := 26) (st' := []) (rfl) (by rw [← k2L_a, show kbc C W A B y a = 0 from by show kbn _ _ = _; unfold kbn; rw [if_neg (fun e => h2e (zB.mpr e.2)), if_neg (fun e => h3e (zA.mpr e.1))], Int64.toInt32_add]; rfl) rfl (rfl) rfl rfl ?_
                    exact LQ_ih (a + 1) (by omega) (by omega)
                  · refine j_iload (pc' := 127) Cx dX5_bands_125 rfl rfl ?_
                    refine j_iload (pc' := 129) Cx dX5_bands_127 rfl rfl ?_
                    refine j_imul (pc' := 130) Cx dX5_bands_129 rfl ?_
                    refine j_top (v' := .int (nI (kbd C W B y a * kbd C W B y a))) (congrArg Value.int (k_sq _ _)) ?_
                    refine j_iconst (pc' := 131) (v := (nI 1)) Cx dX5_bands_130 rfl (by decide) ?_
                    refine j_icmp_ne_n (tgt := 138) (pc' := 134) Cx dX5_bands_131 (by decide) rfl (by omega) (by decide) (fun h4e => ?_) (fun h4e => ?_)
                    · refine j_iconst (pc' := 139) (v := (nI 0)) Cx dX5_bands_138 rfl (by decide) ?_
                      refine j_iadd (pc' := 140) Cx dX5_bands_139 rfl ?_
                      refine j_istore_n (pc' := 141) (lv' := [(0, .ref m), (1, .int (((k2L (kbc C W A B) (W - 1) y a).toInt32) + (nI 0))), (2, .int (nI (y * (W - 1) + a))), (3, .int (nI y)), (4, .int (nI (a + 1))), (5, .int ((nI (kg C A (y * W + (a + 1)))) - (nI (kg C A (y * W + (a + 1) - 1))))), (6, .int ((nI (kg C B (y * W + (a + 1)))) - (nI (kg C B (y * W + (a + 1) - 1)))))]) Cx dX5_bands_140 rfl rfl (by decide) rfl ?_
                      refine j_iinc_n (pc' := 144) (z := 1) (a := (y * (W - 1) + a)) (lv' := [(0, .ref m), (1, .int (((k2L (kbc C W A B) (W - 1) y a).toInt32) + (nI 0))), (2, .int (nI (y * (W - 1) + a + 1))), (3, .int (nI y)), (4, .int (nI (a + 1))), (5, .int ((nI (kg C A (y * W + (a + 1)))) - (nI (kg C A (y * W + (a + 1) - 1))))), (6, .int ((nI (kg C B (y * W + (a + 1)))) - (nI (kg C B (y * W + (a + 1) - 1)))))]) Cx dX5_bands_141 rfl rfl (by decide) rfl ?_
                      refine j_iinc_n (pc' := 147) (z := 1) (a := (a + 1)) (lv' := [(0, .ref m), (1, .int (((k2L (kbc C W A B) (W - 1) y a).toInt32) + (nI 0))), (2, .int (nI (y * (W - 1) + a + 1))), (3, .int (nI y)), (4, .int (nI (a + 1 + 1))), (5, .int ((nI (kg C A (y * W + (a + 1)))) - (nI (kg C A (y * W + (a + 1) - 1))))), (6, .int ((nI (kg C B (y * W + (a + 1)))) - (nI (kg C B (y * W + (a + 1) - 1)))))]) Cx dX5_bands_144 rfl rfl (by decide) rfl ?_
                      refine j_goto (tgt := 26) Cx dX5_bands_147 (by decide) ?_
                      refine J.lvs (lv' := [(0, .ref m), (1, .int (((k2L (kbc C W A B) (W - 1) y a).toInt32) + (nI 0))), (2, .int (nI (y * (W - 1) + a + 1))), (3, .int (nI y)), (4, .int (nI (a + 1 + 1)))]) [0, 1, 2, 3, 4] rfl ?_
                      refine J.cast (ws' := [(m, .inr (5, [.int (nI W), .int (nI H), .int (nI C), .int (nI 0), .ref o1, .ref o2, .int (nI W), .int (nI H), .ref go, .ref gt, .ref po, .ref pt, .ref my, .ref no, .ref so])), (o1, .inl (ty 0, 1728, .inl (kN O))), (o2, .inl (ty 0, 1728, .inl (kN T))), (go, .inl (ty 0, 576, .inl (kN (kfill (kg C A) F (W * H))))), (gt, .inl (ty 0, 576, .inl (kN (kfill (kg C B) G (W * H)))))]) (lv' := [(0, .ref m), (1, .int ((k2L (kbc C W A B) (W - 1) y (a + 1)).toInt32)), (2, .int (nI (y * (W - 1) + (a + 1)))), (3, .int (nI y)), (4, .int (nI ((a + 1) + 1)))]) (pc' := 26) (st' := []) (rfl) (by rw [← k2L_a, show kbc C W A B y a = 0 from by show kbn _ _ = _; unfold kbn; rw [if_neg (fun e => h2e (zB.mpr e.2)), if_neg (fun e => h4e (k_sq1.mpr e.2))], Int64.toInt32_add]; rfl) rfl (rfl) rfl rfl ?_
                      exact LQ_ih (a + 1) (by omega) (by omega)
                    · refine j_iconst (pc' := 135) (v := (-1)) Cx dX5_bands_134 rfl (by decide) ?_
                      refine j_goto (tgt := 139) Cx dX5_bands_135 (by decide) ?_
                      refine j_iadd (pc' := 140) Cx dX5_bands_139 rfl ?_
                      refine j_istore_n (pc' := 141) (lv' := [(0, .ref m), (1, .int (((k2L (kbc C W A B) (W - 1) y a).toInt32) + (-1))), (2, .int (nI (y * (W - 1) + a))), (3, .int (nI y)), (4, .int (nI (a + 1))), (5, .int ((nI (kg C A (y * W + (a + 1)))) - (nI (kg C A (y * W + (a + 1) - 1))))), (6, .int ((nI (kg C B (y * W + (a + 1)))) - (nI (kg C B (y * W + (a + 1) - 1)))))]) Cx dX5_bands_140 rfl rfl (by decide) rfl ?_
                      refine j_iinc_n (pc' := 144) (z := 1) (a := (y * (W - 1) + a)) (lv' := [(0, .ref m), (1, .int (((k2L (kbc C W A B) (W - 1) y a).toInt32) + (-1))), (2, .int (nI (y * (W - 1) + a + 1))), (3, .int (nI y)), (4, .int (nI (a + 1))), (5, .int ((nI (kg C A (y * W + (a + 1)))) - (nI (kg C A (y * W + (a + 1) - 1))))), (6, .int ((nI (kg C B (y * W + (a + 1)))) - (nI (kg C B (y * W + (a + 1) - 1)))))]) Cx dX5_bands_141 rfl rfl (by decide) rfl ?_
                      refine j_iinc_n (pc' := 147) (z := 1) (a := (a + 1)) (lv' := [(0, .ref m), (1, .int (((k2L (kbc C W A B) (W - 1) y a).toInt32) + (-1))), (2, .int (nI (y * (W - 1) + a + 1))), (3, .int (nI y)), (4, .int (nI (a + 1 + 1))), (5, .int ((nI (kg C A (y * W + (a + 1)))) - (nI (kg C A (y * W + (a + 1) - 1))))), (6, .int ((nI (kg C B (y * W + (a + 1)))) - (nI (kg C B (y * W + (a + 1) - 1)))))]) Cx dX5_bands_144 rfl rfl (by decide) rfl ?_
                      refine j_goto (tgt := 26) Cx dX5_bands_147 (by decide) ?_
                      refine J.lvs (lv' := [(0, .ref m), (1, .int (((k2L (kbc C W A B) (W - 1) y a).toInt32) + (-1))), (2, .int (nI (y * (W - 1) + a + 1))), (3, .int (nI y)), (4, .int (nI (a + 1 + 1)))]) [0, 1, 2, 3, 4] rfl ?_
                      refine J.cast (ws' := [(m, .inr (5, [.int (nI W), .int (nI H), .int (nI C), .int (nI 0), .ref o1, .ref o2, .int (nI W), .int (nI H), .ref go, .ref gt, .ref po, .ref pt, .ref my, .ref no, .ref so])), (o1, .inl (ty 0, 1728, .inl (kN O))), (o2, .inl (ty 0, 1728, .inl (kN T))), (go, .inl (ty 0, 576, .inl (kN (kfill (kg C A) F (W * H))))), (gt, .inl (ty 0, 576, .inl (kN (kfill (kg C B) G (W * H)))))]) (lv' := [(0, .ref m), (1, .int ((k2L (kbc C W A B) (W - 1) y (a + 1)).toInt32)), (2, .int (nI (y * (W - 1) + (a + 1)))), (3, .int (nI y)), (4, .int (nI ((a + 1) + 1)))]) (pc' := 26) (st' := []) (rfl) (by rw [← k2L_a, show kbc C W A B y a = -1 from by show kbn _ _ = _; unfold kbn; rw [if_neg (fun e => h2e (zB.mpr e.2)), if_pos ⟨zA.mp h3e, k_sq1.mp h4e⟩], Int64.toInt32_add]; rfl) rfl (rfl) rfl rfl ?_
                      exact LQ_ih (a + 1) (by omega) (by omega)
                · refine j_iconst (pc' := 117) (v := (nI 1)) Cx dX5_bands_116 rfl (by decide) ?_
                  refine j_goto (tgt := 139) Cx dX5_bands_117 (by decide) ?_
                  refine j_iadd (pc' := 140) Cx dX5_bands_139 rfl ?_
                  refine j_istore_n (pc' := 141) (lv' := [(0, .ref m), (1, .int (((k2L (kbc C W A B) (W - 1) y a).toInt32) + (nI 1))), (2, .int (nI (y * (W - 1) + a))), (3, .int (nI y)), (4, .int (nI (a + 1))), (5, .int ((nI (kg C A (y * W + (a + 1)))) - (nI (kg C A (y * W + (a + 1) - 1))))), (6, .int ((nI (kg C B (y * W + (a + 1)))) - (nI (kg C B (y * W + (a + 1) - 1)))))]) Cx dX5_bands_140 rfl rfl (by decide) rfl ?_
                  refine j_iinc_n (pc' := 144) (z := 1) (a := (y * (W - 1) + a)) (lv' := [(0, .ref m), (1, .int (((k2L (kbc C W A B) (W - 1) y a).toInt32) + (nI 1))), (2, .int (nI (y * (W - 1) + a + 1))), (3, .int (nI y)), (4, .int (nI (a + 1))), (5, .int ((nI (kg C A (y * W + (a + 1)))) - (nI (kg C A (y * W + (a + 1) - 1))))), (6, .int ((nI (kg C B (y * W + (a + 1)))) - (nI (kg C B (y * W + (a + 1) - 1)))))]) Cx dX5_bands_141 rfl rfl (by decide) rfl ?_
                  refine j_iinc_n (pc' := 147) (z := 1) (a := (a + 1)) (lv' := [(0, .ref m), (1, .int (((k2L (kbc C W A B) (W - 1) y a).toInt32) + (nI 1))), (2, .int (nI (y * (W - 1) + a + 1))), (3, .int (nI y)), (4, .int (nI (a + 1 + 1))), (5, .int ((nI (kg C A (y * W + (a + 1)))) - (nI (kg C A (y * W + (a + 1) - 1))))), (6, .int ((nI (kg C B (y * W + (a + 1)))) - (nI (kg C B (y * W + (a + 1) - 1)))))]) Cx dX5_bands_144 rfl rfl (by decide) rfl ?_
                  refine j_goto (tgt := 26) Cx dX5_bands_147 (by decide) ?_
                  refine J.lvs (lv' := [(0, .ref m), (1, .int (((k2L (kbc C W A B) (W - 1) y a).toInt32) + (nI 1))), (2, .int (nI (y * (W - 1) + a + 1))), (3, .int (nI y)), (4, .int (nI (a + 1 + 1)))]) [0, 1, 2, 3, 4] rfl ?_
                  refine J.cast (ws' := [(m, .inr (5, [.int (nI W), .int (nI H), .int (nI C), .int (nI 0), .ref o1, .ref o2, .int (nI W), .int (nI H), .ref go, .ref gt, .ref po, .ref pt, .ref my, .ref no, .ref so])), (o1, .inl (ty 0, 1728, .inl (kN O))), (o2, .inl (ty 0, 1728, .inl (kN T))), (go, .inl (ty 0, 576, .inl (kN (kfill (kg C A) F (W * H))))), (gt, .inl (ty 0, 576, .inl (kN (kfill (kg C B) G (W * H)))))]) (lv' := [(0, .ref m), (1, .int ((k2L (kbc C W A B) (W - 1) y (a + 1)).toInt32)), (2, .int (nI (y * (W - 1) + (a + 1)))), (3, .int (nI y)), (4, .int (nI ((a + 1) + 1)))]) (pc' := 26) (st' := []) (rfl) (by rw [← k2L_a, show kbc C W A B y a = 1 from by show kbn _ _ = _; unfold kbn; rw [if_pos ⟨k_sq1.mp h1e, zB.mp h2e⟩], Int64.toInt32_add]; rfl) rfl (rfl) rfl rfl ?_
                  exact LQ_ih (a + 1) (by omega) (by omega)
        refine J.cast (ws' := [(m, .inr (5, [.int (nI W), .int (nI H), .int (nI C), .int (nI 0), .ref o1, .ref o2, .int (nI W), .int (nI H), .ref go, .ref gt, .ref po, .ref pt, .ref my, .ref no, .ref so])), (o1, .inl (ty 0, 1728, .inl (kN O))), (o2, .inl (ty 0, 1728, .inl (kN T))), (go, .inl (ty 0, 576, .inl (kN (kfill (kg C A) F (W * H))))), (gt, .inl (ty 0, 576, .inl (kN (kfill (kg C B) G (W * H)))))]) (lv' := [(0, .ref m), (1, .int ((k2L (kbc C W A B) (W - 1) y 0).toInt32)), (2, .int (nI (y * (W - 1) + 0))), (3, .int (nI y)), (4, .int (nI (0 + 1)))]) (pc' := 26) (st' := []) (rfl) (rfl) rfl (rfl) rfl rfl ?_
        exact LQ (W - 1 + 1) 0 (by omega) (Nat.zero_le _)
  refine J.cast (ws' := [(m, .inr (5, [.int (nI W), .int (nI H), .int (nI C), .int (nI 0), .ref o1, .ref o2, .int (nI W), .int (nI H), .ref go, .ref gt, .ref po, .ref pt, .ref my, .ref no, .ref so])), (o1, .inl (ty 0, 1728, .inl (kN O))), (o2, .inl (ty 0, 1728, .inl (kN T))), (go, .inl (ty 0, 576, .inl (kN (kfill (kg C A) F (W * H))))), (gt, .inl (ty 0, 576, .inl (kN (kfill (kg C B) G (W * H)))))]) (lv' := [(0, .ref m), (1, .int ((k2L (kbc C W A B) (W - 1) 0 0).toInt32)), (2, .int (nI (0 * (W - 1)))), (3, .int (nI 0))]) (pc' := 15) (st' := []) (rfl) (by rw [Nat.zero_mul]; rfl) rfl (rfl) rfl rfl ?_
  exact LP (H + 1) 0 (by omega) (Nat.zero_le _)

set_option maxHeartbeats 4000000 in
set_option maxRecDepth 100000 in
/-- note, of the other one -/
theorem c_X5_note_ok (l : Launch) (D : va_G) (ty : Nat → ClassId) (m o1 o2 go gt po pt my no so W H C : Nat) (nw nh : Nat) (fa : Int32) (cn : Nat → Nat) (ne : Nat → UInt64) (hcn : ∀ i, cn i ≤ 200) (i : Nat) (d : UInt64) (hi : i < 8) (hr : kRng d) (hm : cn i < 200) : KM l yX5_note wsX5_note { frames := 1, cells := 0, slots := 0, locals := 40 } D ty [.ref m, .int (nI i), .double (d)] [(m, .inr (5, [.int (nI W), .int (nI H), .int (nI C), .int (fa), .ref o1, .ref o2, .int (nI nw), .int (nI nh), .ref go, .ref gt, .ref po, .ref pt, .ref my, .ref no, .ref so])), (my, .inl (ty 0, 8, .inl (kN cn))), (no, .inl (ty 1, 1600, .inr (.inr (.inr (.inl ne)))))] (kI (fun r u => r = nI (cn i + 1) ∧ u = [(m, .inr (5, [.int (nI W), .int (nI H), .int (nI C), .int (nI 0), .ref o1, .ref o2, .int (nI nw), .int (nI nh), .ref go, .ref gt, .ref po, .ref pt, .ref my, .ref no, .ref so])), (my, .inl (ty 0, 8, .inl (kN (va_up cn i (cn i + 1))))), (no, .inl (ty 1, 1600, .inr (.inr (.inr (.inl (va_up ne (200 * i + cn i) (knz d)))))))])) 0 0 := by
  refine KM.of (cc := cX5_note) (maxL := 4) (ret := (some .int)) (lv := [(0, .ref m), (1, .int (nI i)), (2, .double (d))]) (by decide +kernel) rfl rfl rfl (fun X C0 R0 => ?_)
  have Cx : kC X cX5_note wsX5_note RX5 { frames := 1, cells := 0, slots := 0, locals := 40 } "note" l D ty 4 := C0
  by_cases hz : Op.cmpValue (FP.dcmp d 0) CmpOp.l = 0
  · have ez : knz d = 0 := if_pos hz
    rw [ez] at R0
    refine j_aload_n (pc' := 1) Cx dX5_note_0 rfl rfl rfl ?_
    refine j_iload_n (pc' := 2) Cx dX5_note_1 rfl rfl rfl ?_
    refine j_iconst (pc' := 3) (v := (nI 0)) Cx dX5_note_2 rfl (by decide) ?_
    refine j_bipush (pc' := 5) (v := (nI 7)) Cx dX5_note_3 rfl (by decide) ?_
    refine j_callS (pc' := 8) (wr := [(m, .inr (5, [.int (nI W), .int (nI H), .int (nI C), .int (fa), .ref o1, .ref o2, .int (nI nw), .int (nI nh), .ref go, .ref gt, .ref po, .ref pt, .ref my, .ref no, .ref so])), (my, .inl (ty 0, 8, .inl (kN cn))), (no, .inl (ty 1, 1600, .inr (.inr (.inr (.inl ne)))))]) (st := [.ref m]) Cx dX5_note_5 rfl (c_X5_in l D ty i 0 7 (Nat.zero_le _) (by omega) (by decide)) gX5_note_X5_in rfl khd_X5_in rfl ⟨rfl, rfl, Nat.le_of_ble_eq_true rfl, Nat.le_of_ble_eq_true rfl⟩ [] [0, 1, 2] rfl rfl ⟨rfl, rfl⟩ (by decide) rfl (Nat.le_of_ble_eq_true rfl) ⟨Nat.le_of_ble_eq_true rfl, Nat.le_of_ble_eq_true rfl⟩ (fun v u hpost => ?_)
    obtain ⟨r, rfl, rfl, rfl⟩ := hpost
    show J X [(m, .inr (5, [.int (nI W), .int (nI H), .int (nI C), .int (fa), .ref o1, .ref o2, .int (nI nw), .int (nI nh), .ref go, .ref gt, .ref po, .ref pt, .ref my, .ref no, .ref so])), (my, .inl (ty 0, 8, .inl (kN cn))), (no, .inl (ty 1, 1600, .inr (.inr (.inr (.inl ne)))))] [(0, .ref m), (1, .int (nI i)), (2, .double (d))] 8 [.int (nI 1), .ref m] 0 0
    refine j_if_ne_n (tgt := 15) (pc' := 11) Cx dX5_note_8 (by decide) rfl (by omega) (fun _ => ?_) (fun hh => absurd hh (by decide))
    refine j_dload_n (pc' := 16) Cx dX5_note_15 rfl rfl rfl ?_
    refine j_ldc2d (pc' := 19) (v := 13920209183539462144) Cx dX5_note_16 rfl (by decide +kernel) ?_
    refine j_dcmp (pc' := 20) Cx dX5_note_19 rfl ?_
    refine j_if_lt (tgt := 31) (pc' := 23) Cx dX5_note_20 (by decide) rfl (fun hh => absurd hh (hr.1)) (fun _ => ?_)
    refine j_dload_n (pc' := 24) Cx dX5_note_23 rfl rfl rfl ?_
    refine j_ldc2d (pc' := 27) (v := 4696837146684686336) Cx dX5_note_24 rfl (by decide +kernel) ?_
    refine j_dcmp (pc' := 28) Cx dX5_note_27 rfl ?_
    refine j_if_le (tgt := 35) (pc' := 31) Cx dX5_note_28 (by decide) rfl (fun _ => ?_) (fun hh => absurd hh (not_not_intro (Int32.not_lt.mp hr.2)))
    refine j_aload_n (pc' := 36) Cx dX5_note_35 rfl rfl rfl ?_
    refine j_get (pc' := 39) (N := 15) Cx dX5_note_36 rfl kin_X5_note_X5 kfl_X5_note_28 0 rfl rfl 12 rfl rfl rfl ?_
    refine j_iload_n (pc' := 40) Cx dX5_note_39 rfl rfl rfl ?_
    refine j_iaload_nn (pc' := 41) Cx dX5_note_40 rfl 1 rfl (by omega) (by omega) ?_
    refine j_sipush (pc' := 44) (v := (nI 200)) Cx dX5_note_41 rfl (by decide) ?_
    refine j_icmp_ne_n (tgt := 51) (pc' := 47) Cx dX5_note_44 (by decide) rfl (by omega) (by omega) (fun _ => ?_) (fun hh => absurd hh (by omega))
    refine j_iconst (pc' := 52) (v := (nI 0)) Cx dX5_note_51 rfl (by decide) ?_
    refine j_put (pc' := 55) (N := 15) (t := .int) (ws' := [(m, .inr (5, [.int (nI W), .int (nI H), .int (nI C), .int (nI 0), .ref o1, .ref o2, .int (nI nw), .int (nI nh), .ref go, .ref gt, .ref po, .ref pt, .ref my, .ref no, .ref so])), (my, .inl (ty 0, 8, .inl (kN cn))), (no, .inl (ty 1, 1600, .inr (.inr (.inr (.inl ne)))))]) Cx dX5_note_52 rfl kin_X5_note_X5 kfl_X5_note_48 tyX5_ok nmX5 0 rfl rfl 3 rfl rfl rfl rfl rfl rfl rfl ?_
    refine j_aload_n (pc' := 56) Cx dX5_note_55 rfl rfl rfl ?_
    refine j_get (pc' := 59) (N := 15) Cx dX5_note_56 rfl kin_X5_note_X5 kfl_X5_note_48 0 rfl rfl 3 rfl rfl rfl ?_
    refine j_if_le_n (tgt := 64) (pc' := 62) Cx dX5_note_59 (by decide) rfl (by omega) (fun _ => ?_) (fun hh => absurd hh (by decide))
    refine j_aload_n (pc' := 65) Cx dX5_note_64 rfl rfl rfl ?_
    refine j_get (pc' := 68) (N := 15) Cx dX5_note_65 rfl kin_X5_note_X5 kfl_X5_note_31 0 rfl rfl 13 rfl rfl rfl ?_
    refine j_sipush (pc' := 71) (v := (nI 200)) Cx dX5_note_68 rfl (by decide) ?_
    refine j_iload_n (pc' := 72) Cx dX5_note_71 rfl rfl rfl ?_
    refine j_imul_n (pc' := 73) Cx dX5_note_72 rfl ?_
    refine j_aload_n (pc' := 74) Cx dX5_note_73 rfl rfl rfl ?_
    refine j_get (pc' := 77) (N := 15) Cx dX5_note_74 rfl kin_X5_note_X5 kfl_X5_note_28 0 rfl rfl 12 rfl rfl rfl ?_
    refine j_iload_n (pc' := 78) Cx dX5_note_77 rfl rfl rfl ?_
    refine j_iaload_nn (pc' := 79) Cx dX5_note_78 rfl 1 rfl (by omega) (by omega) ?_
    refine j_iadd_n (pc' := 80) Cx dX5_note_79 rfl ?_
    refine j_dload_n (pc' := 81) Cx dX5_note_80 rfl rfl rfl ?_
    refine j_dconst0 (pc' := 82) Cx dX5_note_81 rfl ?_
    refine j_dcmp (pc' := 83) Cx dX5_note_82 rfl ?_
    refine j_if_ne (tgt := 90) (pc' := 86) Cx dX5_note_83 (by decide) rfl (fun hh => absurd hh (not_not_intro hz)) (fun _ => ?_)
    refine j_dconst0 (pc' := 87) Cx dX5_note_86 rfl ?_
    refine j_goto (tgt := 91) Cx dX5_note_87 (by decide) ?_
    refine j_dastore_n (pc' := 92) (ws' := [(m, .inr (5, [.int (nI W), .int (nI H), .int (nI C), .int (nI 0), .ref o1, .ref o2, .int (nI nw), .int (nI nh), .ref go, .ref gt, .ref po, .ref pt, .ref my, .ref no, .ref so])), (my, .inl (ty 0, 8, .inl (kN cn))), (no, .inl (ty 1, 1600, .inr (.inr (.inr (.inl (va_up ne ((200 * i) + (cn i)) 0))))))]) Cx dX5_note_91 rfl 2 rfl (by omega) (by omega) rfl ?_
    refine j_aload_n (pc' := 93) Cx dX5_note_92 rfl rfl rfl ?_
    refine j_get (pc' := 96) (N := 15) Cx dX5_note_93 rfl kin_X5_note_X5 kfl_X5_note_28 0 rfl rfl 12 rfl rfl rfl ?_
    refine j_iload_n (pc' := 97) Cx dX5_note_96 rfl rfl rfl ?_
    refine j_dup2 (pc' := 98) Cx dX5_note_97 rfl rfl rfl ?_
    refine j_iaload_nn (pc' := 99) Cx dX5_note_98 rfl 1 rfl (by omega) (by omega) ?_
    refine j_iconst (pc' := 100) (v := (nI 1)) Cx dX5_note_99 rfl (by decide) ?_
    refine j_iadd_n (pc' := 101) Cx dX5_note_100 rfl ?_
    refine j_iastore_nn (pc' := 102) (ws' := [(m, .inr (5, [.int (nI W), .int (nI H), .int (nI C), .int (nI 0), .ref o1, .ref o2, .int (nI nw), .int (nI nh), .ref go, .ref gt, .ref po, .ref pt, .ref my, .ref no, .ref so])), (my, .inl (ty 0, 8, .inl (kN (va_up cn i ((cn i) + 1))))), (no, .inl (ty 1, 1600, .inr (.inr (.inr (.inl (va_up ne ((200 * i) + (cn i)) 0))))))]) Cx dX5_note_101 rfl 1 rfl (by omega) (by omega) rfl ?_
    refine j_aload_n (pc' := 103) Cx dX5_note_102 rfl rfl rfl ?_
    refine j_get (pc' := 106) (N := 15) Cx dX5_note_103 rfl kin_X5_note_X5 kfl_X5_note_28 0 rfl rfl 12 rfl rfl rfl ?_
    refine j_iload_n (pc' := 107) Cx dX5_note_106 rfl rfl rfl ?_
    refine j_iaload_nn (pc' := 108) Cx dX5_note_107 rfl 1 rfl (by omega) (by omega) ?_
    refine j_top (v' := .int (nI (cn i + 1))) (congrArg (fun z : Nat => Value.int (nI z)) (show (va_up cn i ((cn i) + 1)) i = cn i + 1 from va_up_eq _ _ _)) ?_
    exact j_iret Cx dX5_note_108 R0 ⟨Nat.le_of_ble_eq_true rfl, Nat.le_of_ble_eq_true rfl⟩ (⟨_, rfl, rfl, rfl⟩)
  · have ez : knz d = d := if_neg hz
    rw [ez] at R0
    refine j_aload_n (pc' := 1) Cx dX5_note_0 rfl rfl rfl ?_
    refine j_iload_n (pc' := 2) Cx dX5_note_1 rfl rfl rfl ?_
    refine j_iconst (pc' := 3) (v := (nI 0)) Cx dX5_note_2 rfl (by decide) ?_
    refine j_bipush (pc' := 5) (v := (nI 7)) Cx dX5_note_3 rfl (by decide) ?_
    refine j_callS (pc' := 8) (wr := [(m, .inr (5, [.int (nI W), .int (nI H), .int (nI C), .int (fa), .ref o1, .ref o2, .int (nI nw), .int (nI nh), .ref go, .ref gt, .ref po, .ref pt, .ref my, .ref no, .ref so])), (my, .inl (ty 0, 8, .inl (kN cn))), (no, .inl (ty 1, 1600, .inr (.inr (.inr (.inl ne)))))]) (st := [.ref m]) Cx dX5_note_5 rfl (c_X5_in l D ty i 0 7 (Nat.zero_le _) (by omega) (by decide)) gX5_note_X5_in rfl khd_X5_in rfl ⟨rfl, rfl, Nat.le_of_ble_eq_true rfl, Nat.le_of_ble_eq_true rfl⟩ [] [0, 1, 2] rfl rfl ⟨rfl, rfl⟩ (by decide) rfl (Nat.le_of_ble_eq_true rfl) ⟨Nat.le_of_ble_eq_true rfl, Nat.le_of_ble_eq_true rfl⟩ (fun v u hpost => ?_)
    obtain ⟨r, rfl, rfl, rfl⟩ := hpost
    show J X [(m, .inr (5, [.int (nI W), .int (nI H), .int (nI C), .int (fa), .ref o1, .ref o2, .int (nI nw), .int (nI nh), .ref go, .ref gt, .ref po, .ref pt, .ref my, .ref no, .ref so])), (my, .inl (ty 0, 8, .inl (kN cn))), (no, .inl (ty 1, 1600, .inr (.inr (.inr (.inl ne)))))] [(0, .ref m), (1, .int (nI i)), (2, .double (d))] 8 [.int (nI 1), .ref m] 0 0
    refine j_if_ne_n (tgt := 15) (pc' := 11) Cx dX5_note_8 (by decide) rfl (by omega) (fun _ => ?_) (fun hh => absurd hh (by decide))
    refine j_dload_n (pc' := 16) Cx dX5_note_15 rfl rfl rfl ?_
    refine j_ldc2d (pc' := 19) (v := 13920209183539462144) Cx dX5_note_16 rfl (by decide +kernel) ?_
    refine j_dcmp (pc' := 20) Cx dX5_note_19 rfl ?_
    refine j_if_lt (tgt := 31) (pc' := 23) Cx dX5_note_20 (by decide) rfl (fun hh => absurd hh (hr.1)) (fun _ => ?_)
    refine j_dload_n (pc' := 24) Cx dX5_note_23 rfl rfl rfl ?_
    refine j_ldc2d (pc' := 27) (v := 4696837146684686336) Cx dX5_note_24 rfl (by decide +kernel) ?_
    refine j_dcmp (pc' := 28) Cx dX5_note_27 rfl ?_
    refine j_if_le (tgt := 35) (pc' := 31) Cx dX5_note_28 (by decide) rfl (fun _ => ?_) (fun hh => absurd hh (not_not_intro (Int32.not_lt.mp hr.2)))
    refine j_aload_n (pc' := 36) Cx dX5_note_35 rfl rfl rfl ?_
    refine j_get (pc' := 39) (N := 15) Cx dX5_note_36 rfl kin_X5_note_X5 kfl_X5_note_28 0 rfl rfl 12 rfl rfl rfl ?_
    refine j_iload_n (pc' := 40) Cx dX5_note_39 rfl rfl rfl ?_
    refine j_iaload_nn (pc' := 41) Cx dX5_note_40 rfl 1 rfl (by omega) (by omega) ?_
    refine j_sipush (pc' := 44) (v := (nI 200)) Cx dX5_note_41 rfl (by decide) ?_
    refine j_icmp_ne_n (tgt := 51) (pc' := 47) Cx dX5_note_44 (by decide) rfl (by omega) (by omega) (fun _ => ?_) (fun hh => absurd hh (by omega))
    refine j_iconst (pc' := 52) (v := (nI 0)) Cx dX5_note_51 rfl (by decide) ?_
    refine j_put (pc' := 55) (N := 15) (t := .int) (ws' := [(m, .inr (5, [.int (nI W), .int (nI H), .int (nI C), .int (nI 0), .ref o1, .ref o2, .int (nI nw), .int (nI nh), .ref go, .ref gt, .ref po, .ref pt, .ref my, .ref no, .ref so])), (my, .inl (ty 0, 8, .inl (kN cn))), (no, .inl (ty 1, 1600, .inr (.inr (.inr (.inl ne)))))]) Cx dX5_note_52 rfl kin_X5_note_X5 kfl_X5_note_48 tyX5_ok nmX5 0 rfl rfl 3 rfl rfl rfl rfl rfl rfl rfl ?_
    refine j_aload_n (pc' := 56) Cx dX5_note_55 rfl rfl rfl ?_
    refine j_get (pc' := 59) (N := 15) Cx dX5_note_56 rfl kin_X5_note_X5 kfl_X5_note_48 0 rfl rfl 3 rfl rfl rfl ?_
    refine j_if_le_n (tgt := 64) (pc' := 62) Cx dX5_note_59 (by decide) rfl (by omega) (fun _ => ?_) (fun hh => absurd hh (by decide))
    refine j_aload_n (pc' := 65) Cx dX5_note_64 rfl rfl rfl ?_
    refine j_get (pc' := 68) (N := 15) Cx dX5_note_65 rfl kin_X5_note_X5 kfl_X5_note_31 0 rfl rfl 13 rfl rfl rfl ?_
    refine j_sipush (pc' := 71) (v := (nI 200)) Cx dX5_note_68 rfl (by decide) ?_
    refine j_iload_n (pc' := 72) Cx dX5_note_71 rfl rfl rfl ?_
    refine j_imul_n (pc' := 73) Cx dX5_note_72 rfl ?_
    refine j_aload_n (pc' := 74) Cx dX5_note_73 rfl rfl rfl ?_
    refine j_get (pc' := 77) (N := 15) Cx dX5_note_74 rfl kin_X5_note_X5 kfl_X5_note_28 0 rfl rfl 12 rfl rfl rfl ?_
    refine j_iload_n (pc' := 78) Cx dX5_note_77 rfl rfl rfl ?_
    refine j_iaload_nn (pc' := 79) Cx dX5_note_78 rfl 1 rfl (by omega) (by omega) ?_
    refine j_iadd_n (pc' := 80) Cx dX5_note_79 rfl ?_
    refine j_dload_n (pc' := 81) Cx dX5_note_80 rfl rfl rfl ?_
    refine j_dconst0 (pc' := 82) Cx dX5_note_81 rfl ?_
    refine j_dcmp (pc' := 83) Cx dX5_note_82 rfl ?_
    refine j_if_ne (tgt := 90) (pc' := 86) Cx dX5_note_83 (by decide) rfl (fun _ => ?_) (fun hh => absurd hh (hz))
    refine j_dload_n (pc' := 91) Cx dX5_note_90 rfl rfl rfl ?_
    refine j_dastore_n (pc' := 92) (ws' := [(m, .inr (5, [.int (nI W), .int (nI H), .int (nI C), .int (nI 0), .ref o1, .ref o2, .int (nI nw), .int (nI nh), .ref go, .ref gt, .ref po, .ref pt, .ref my, .ref no, .ref so])), (my, .inl (ty 0, 8, .inl (kN cn))), (no, .inl (ty 1, 1600, .inr (.inr (.inr (.inl (va_up ne ((200 * i) + (cn i)) d))))))]) Cx dX5_note_91 rfl 2 rfl (by omega) (by omega) rfl ?_
    refine j_aload_n (pc' := 93) Cx dX5_note_92 rfl rfl rfl ?_
    refine j_get (pc' := 96) (N := 15) Cx dX5_note_93 rfl kin_X5_note_X5 kfl_X5_note_28 0 rfl rfl 12 rfl rfl rfl ?_
    refine j_iload_n (pc' := 97) Cx dX5_note_96 rfl rfl rfl ?_
    refine j_dup2 (pc' := 98) Cx dX5_note_97 rfl rfl rfl ?_
    refine j_iaload_nn (pc' := 99) Cx dX5_note_98 rfl 1 rfl (by omega) (by omega) ?_
    refine j_iconst (pc' := 100) (v := (nI 1)) Cx dX5_note_99 rfl (by decide) ?_
    refine j_iadd_n (pc' := 101) Cx dX5_note_100 rfl ?_
    refine j_iastore_nn (pc' := 102) (ws' := [(m, .inr (5, [.int (nI W), .int (nI H), .int (nI C), .int (nI 0), .ref o1, .ref o2, .int (nI nw), .int (nI nh), .ref go, .ref gt, .ref po, .ref pt, .ref my, .ref no, .ref so])), (my, .inl (ty 0, 8, .inl (kN (va_up cn i ((cn i) + 1))))), (no, .inl (ty 1, 1600, .inr (.inr (.inr (.inl (va_up ne ((200 * i) + (cn i)) d))))))]) Cx dX5_note_101 rfl 1 rfl (by omega) (by omega) rfl ?_
    refine j_aload_n (pc' := 103) Cx dX5_note_102 rfl rfl rfl ?_
    refine j_get (pc' := 106) (N := 15) Cx dX5_note_103 rfl kin_X5_note_X5 kfl_X5_note_28 0 rfl rfl 12 rfl rfl rfl ?_
    refine j_iload_n (pc' := 107) Cx dX5_note_106 rfl rfl rfl ?_
    refine j_iaload_nn (pc' := 108) Cx dX5_note_107 rfl 1 rfl (by omega) (by omega) ?_
    refine j_top (v' := .int (nI (cn i + 1))) (congrArg (fun z : Nat => Value.int (nI z)) (show (va_up cn i ((cn i) + 1)) i = cn i + 1 from va_up_eq _ _ _)) ?_
    exact j_iret Cx dX5_note_108 R0 ⟨Nat.le_of_ble_eq_true rfl, Nat.le_of_ble_eq_true rfl⟩ (⟨_, rfl, rfl, rfl⟩)

set_option maxHeartbeats 4000000 in
set_option maxRecDepth 100000 in
theorem c_X5_note_1 (l : Launch) (D : va_G) (ty : Nat → ClassId) (m o1 o2 go gt po pt my no so W H C : Nat) (nw nh : Nat) (fa : Int32) (x : Int32) (d : UInt64) (hno : ¬ kok x 8) : KM l yX5_note wsX5_note { frames := 1, cells := 0, slots := 0, locals := 40 } D ty [.ref m, .int (x), .double (d)] [(m, .inr (5, [.int (nI W), .int (nI H), .int (nI C), .int (fa), .ref o1, .ref o2, .int (nI nw), .int (nI nh), .ref go, .ref gt, .ref po, .ref pt, .ref my, .ref no, .ref so]))] (kI (fun r u => r = nI 0 ∧ u = [(m, .inr (5, [.int (nI W), .int (nI H), .int (nI C), .int (nI 1), .ref o1, .ref o2, .int (nI nw), .int (nI nh), .ref go, .ref gt, .ref po, .ref pt, .ref my, .ref no, .ref so]))])) 0 0 := by
  refine KM.of (cc := cX5_note) (maxL := 4) (ret := (some .int)) (lv := [(0, .ref m), (1, .int (x)), (2, .double (d))]) (by decide +kernel) rfl rfl rfl (fun X C0 R0 => ?_)
  have Cx : kC X cX5_note wsX5_note RX5 { frames := 1, cells := 0, slots := 0, locals := 40 } "note" l D ty 4 := C0
  rcases pk_ix x (n := 8) (by decide) with hs | hs | hs
  · refine j_aload_n (pc' := 1) Cx dX5_note_0 rfl rfl rfl ?_
    refine j_iload_n (pc' := 2) Cx dX5_note_1 rfl rfl rfl ?_
    refine j_iconst (pc' := 3) (v := (nI 0)) Cx dX5_note_2 rfl (by decide) ?_
    refine j_bipush (pc' := 5) (v := (nI 7)) Cx dX5_note_3 rfl (by decide) ?_
    refine j_callS (pc' := 8) (wr := [(m, .inr (5, [.int (nI W), .int (nI H), .int (nI C), .int (fa), .ref o1, .ref o2, .int (nI nw), .int (nI nh), .ref go, .ref gt, .ref po, .ref pt, .ref my, .ref no, .ref so]))]) (st := [.ref m]) Cx dX5_note_5 rfl (c_X5_in_no l D ty x (nI 0) (nI 7) (Or.inl (show x < nI 0 from hs))) gX5_note_X5_in rfl khd_X5_in rfl ⟨rfl, rfl, Nat.le_of_ble_eq_true rfl, Nat.le_of_ble_eq_true rfl⟩ [] [0] rfl rfl ⟨rfl, rfl⟩ (by decide) rfl (Nat.le_of_ble_eq_true rfl) ⟨Nat.le_of_ble_eq_true rfl, Nat.le_of_ble_eq_true rfl⟩ (fun v u hpost => ?_)
    obtain ⟨r, rfl, rfl, rfl⟩ := hpost
    show J X [(m, .inr (5, [.int (nI W), .int (nI H), .int (nI C), .int (fa), .ref o1, .ref o2, .int (nI nw), .int (nI nh), .ref go, .ref gt, .ref po, .ref pt, .ref my, .ref no, .ref so]))] [(0, .ref m), (1, .int (x)), (2, .double (d))] 8 [.int (nI 0), .ref m] 0 0
    refine j_if_ne_n (tgt := 15) (pc' := 11) Cx dX5_note_8 (by decide) rfl (by omega) (fun hh => absurd hh (not_not_intro rfl)) (fun _ => ?_)
    refine j_iconst (pc' := 12) (v := (nI 1)) Cx dX5_note_11 rfl (by decide) ?_
    refine j_goto (tgt := 52) Cx dX5_note_12 (by decide) ?_
    refine j_put (pc' := 55) (N := 15) (t := .int) (ws' := [(m, .inr (5, [.int (nI W), .int (nI H), .int (nI C), .int (nI 1), .ref o1, .ref o2, .int (nI nw), .int (nI nh), .ref go, .ref gt, .ref po, .ref pt, .ref my, .ref no, .ref so]))]) Cx dX5_note_52 rfl kin_X5_note_X5 kfl_X5_note_48 tyX5_ok nmX5 0 rfl rfl 3 rfl rfl rfl rfl rfl rfl rfl ?_
    refine j_aload_n (pc' := 56) Cx dX5_note_55 rfl rfl rfl ?_
    refine j_get (pc' := 59) (N := 15) Cx dX5_note_56 rfl kin_X5_note_X5 kfl_X5_note_48 0 rfl rfl 3 rfl rfl rfl ?_
    refine j_if_le_n (tgt := 64) (pc' := 62) Cx dX5_note_59 (by decide) rfl (by omega) (fun hh => absurd hh (by decide)) (fun _ => ?_)
    refine j_iconst (pc' := 63) (v := (nI 0)) Cx dX5_note_62 rfl (by decide) ?_
    exact j_iret Cx dX5_note_63 R0 ⟨Nat.le_of_ble_eq_true rfl, Nat.le_of_ble_eq_true rfl⟩ (⟨_, rfl, rfl, rfl⟩)
  · refine j_aload_n (pc' := 1) Cx dX5_note_0 rfl rfl rfl ?_
    refine j_iload_n (pc' := 2) Cx dX5_note_1 rfl rfl rfl ?_
    refine j_iconst (pc' := 3) (v := (nI 0)) Cx dX5_note_2 rfl (by decide) ?_
    refine j_bipush (pc' := 5) (v := (nI 7)) Cx dX5_note_3 rfl (by decide) ?_
    refine j_callS (pc' := 8) (wr := [(m, .inr (5, [.int (nI W), .int (nI H), .int (nI C), .int (fa), .ref o1, .ref o2, .int (nI nw), .int (nI nh), .ref go, .ref gt, .ref po, .ref pt, .ref my, .ref no, .ref so]))]) (st := [.ref m]) Cx dX5_note_5 rfl (c_X5_in_no l D ty x (nI 0) (nI 7) (Or.inr (k_pred (n := 8) (by decide) (by decide) hs))) gX5_note_X5_in rfl khd_X5_in rfl ⟨rfl, rfl, Nat.le_of_ble_eq_true rfl, Nat.le_of_ble_eq_true rfl⟩ [] [0] rfl rfl ⟨rfl, rfl⟩ (by decide) rfl (Nat.le_of_ble_eq_true rfl) ⟨Nat.le_of_ble_eq_true rfl, Nat.le_of_ble_eq_true rfl⟩ (fun v u hpost => ?_)
    obtain ⟨r, rfl, rfl, rfl⟩ := hpost
    show J X [(m, .inr (5, [.int (nI W), .int (nI H), .int (nI C), .int (fa), .ref o1, .ref o2, .int (nI nw), .int (nI nh), .ref go, .ref gt, .ref po, .ref pt, .ref my, .ref no, .ref so]))] [(0, .ref m), (1, .int (x)), (2, .double (d))] 8 [.int (nI 0), .ref m] 0 0
    refine j_if_ne_n (tgt := 15) (pc' := 11) Cx dX5_note_8 (by decide) rfl (by omega) (fun hh => absurd hh (not_not_intro rfl)) (fun _ => ?_)
    refine j_iconst (pc' := 12) (v := (nI 1)) Cx dX5_note_11 rfl (by decide) ?_
    refine j_goto (tgt := 52) Cx dX5_note_12 (by decide) ?_
    refine j_put (pc' := 55) (N := 15) (t := .int) (ws' := [(m, .inr (5, [.int (nI W), .int (nI H), .int (nI C), .int (nI 1), .ref o1, .ref o2, .int (nI nw), .int (nI nh), .ref go, .ref gt, .ref po, .ref pt, .ref my, .ref no, .ref so]))]) Cx dX5_note_52 rfl kin_X5_note_X5 kfl_X5_note_48 tyX5_ok nmX5 0 rfl rfl 3 rfl rfl rfl rfl rfl rfl rfl ?_
    refine j_aload_n (pc' := 56) Cx dX5_note_55 rfl rfl rfl ?_
    refine j_get (pc' := 59) (N := 15) Cx dX5_note_56 rfl kin_X5_note_X5 kfl_X5_note_48 0 rfl rfl 3 rfl rfl rfl ?_
    refine j_if_le_n (tgt := 64) (pc' := 62) Cx dX5_note_59 (by decide) rfl (by omega) (fun hh => absurd hh (by decide)) (fun _ => ?_)
    refine j_iconst (pc' := 63) (v := (nI 0)) Cx dX5_note_62 rfl (by decide) ?_
    exact j_iret Cx dX5_note_63 R0 ⟨Nat.le_of_ble_eq_true rfl, Nat.le_of_ble_eq_true rfl⟩ (⟨_, rfl, rfl, rfl⟩)
  · exact absurd hs hno

set_option maxHeartbeats 4000000 in
set_option maxRecDepth 100000 in
theorem c_X5_note_2 (l : Launch) (D : va_G) (ty : Nat → ClassId) (m o1 o2 go gt po pt my no so W H C : Nat) (nw nh : Nat) (fa : Int32) (i : Nat) (d : UInt64) (hi : i < 8) (hr : ¬ kRng d) : KM l yX5_note wsX5_note { frames := 1, cells := 0, slots := 0, locals := 40 } D ty [.ref m, .int (nI i), .double (d)] [(m, .inr (5, [.int (nI W), .int (nI H), .int (nI C), .int (fa), .ref o1, .ref o2, .int (nI nw), .int (nI nh), .ref go, .ref gt, .ref po, .ref pt, .ref my, .ref no, .ref so]))] (kI (fun r u => r = nI 0 ∧ u = [(m, .inr (5, [.int (nI W), .int (nI H), .int (nI C), .int (nI 2), .ref o1, .ref o2, .int (nI nw), .int (nI nh), .ref go, .ref gt, .ref po, .ref pt, .ref my, .ref no, .ref so]))])) 0 0 := by
  refine KM.of (cc := cX5_note) (maxL := 4) (ret := (some .int)) (lv := [(0, .ref m), (1, .int (nI i)), (2, .double (d))]) (by decide +kernel) rfl rfl rfl (fun X C0 R0 => ?_)
  have Cx : kC X cX5_note wsX5_note RX5 { frames := 1, cells := 0, slots := 0, locals := 40 } "note" l D ty 4 := C0
  refine j_aload_n (pc' := 1) Cx dX5_note_0 rfl rfl rfl ?_
  refine j_iload_n (pc' := 2) Cx dX5_note_1 rfl rfl rfl ?_
  refine j_iconst (pc' := 3) (v := (nI 0)) Cx dX5_note_2 rfl (by decide) ?_
  refine j_bipush (pc' := 5) (v := (nI 7)) Cx dX5_note_3 rfl (by decide) ?_
  refine j_callS (pc' := 8) (wr := [(m, .inr (5, [.int (nI W), .int (nI H), .int (nI C), .int (fa), .ref o1, .ref o2, .int (nI nw), .int (nI nh), .ref go, .ref gt, .ref po, .ref pt, .ref my, .ref no, .ref so]))]) (st := [.ref m]) Cx dX5_note_5 rfl (c_X5_in l D ty i 0 7 (Nat.zero_le _) (by omega) (by decide)) gX5_note_X5_in rfl khd_X5_in rfl ⟨rfl, rfl, Nat.le_of_ble_eq_true rfl, Nat.le_of_ble_eq_true rfl⟩ [] [0] rfl rfl ⟨rfl, rfl⟩ (by decide) rfl (Nat.le_of_ble_eq_true rfl) ⟨Nat.le_of_ble_eq_true rfl, Nat.le_of_ble_eq_true rfl⟩ (fun v u hpost => ?_)
  obtain ⟨r, rfl, rfl, rfl⟩ := hpost
  show J X [(m, .inr (5, [.int (nI W), .int (nI H), .int (nI C), .int (fa), .ref o1, .ref o2, .int (nI nw), .int (nI nh), .ref go, .ref gt, .ref po, .ref pt, .ref my, .ref no, .ref so]))] [(0, .ref m), (1, .int (nI i)), (2, .double (d))] 8 [.int (nI 1), .ref m] 0 0
  refine j_if_ne_n (tgt := 15) (pc' := 11) Cx dX5_note_8 (by decide) rfl (by omega) (fun _ => ?_) (fun hh => absurd hh (by decide))
  refine j_dload_n (pc' := 16) Cx dX5_note_15 rfl rfl rfl ?_
  refine j_ldc2d (pc' := 19) (v := 13920209183539462144) Cx dX5_note_16 rfl (by decide +kernel) ?_
  refine j_dcmp (pc' := 20) Cx dX5_note_19 rfl ?_
  refine j_if_lt (tgt := 31) (pc' := 23) Cx dX5_note_20 (by decide) rfl (fun hd1 => ?_) (fun hd1 => ?_)
  · refine j_iconst (pc' := 32) (v := (nI 2)) Cx dX5_note_31 rfl (by decide) ?_
    refine j_goto (tgt := 52) Cx dX5_note_32 (by decide) ?_
    refine j_put (pc' := 55) (N := 15) (t := .int) (ws' := [(m, .inr (5, [.int (nI W), .int (nI H), .int (nI C), .int (nI 2), .ref o1, .ref o2, .int (nI nw), .int (nI nh), .ref go, .ref gt, .ref po, .ref pt, .ref my, .ref no, .ref so]))]) Cx dX5_note_52 rfl kin_X5_note_X5 kfl_X5_note_48 tyX5_ok nmX5 0 rfl rfl 3 rfl rfl rfl rfl rfl rfl rfl ?_
    refine j_aload_n (pc' := 56) Cx dX5_note_55 rfl rfl rfl ?_
    refine j_get (pc' := 59) (N := 15) Cx dX5_note_56 rfl kin_X5_note_X5 kfl_X5_note_48 0 rfl rfl 3 rfl rfl rfl ?_
    refine j_if_le_n (tgt := 64) (pc' := 62) Cx dX5_note_59 (by decide) rfl (by omega) (fun hh => absurd hh (by decide)) (fun _ => ?_)
    refine j_iconst (pc' := 63) (v := (nI 0)) Cx dX5_note_62 rfl (by decide) ?_
    exact j_iret Cx dX5_note_63 R0 ⟨Nat.le_of_ble_eq_true rfl, Nat.le_of_ble_eq_true rfl⟩ (⟨_, rfl, rfl, rfl⟩)
  · refine j_dload_n (pc' := 24) Cx dX5_note_23 rfl rfl rfl ?_
    refine j_ldc2d (pc' := 27) (v := 4696837146684686336) Cx dX5_note_24 rfl (by decide +kernel) ?_
    refine j_dcmp (pc' := 28) Cx dX5_note_27 rfl ?_
    refine j_if_le (tgt := 35) (pc' := 31) Cx dX5_note_28 (by decide) rfl (fun hd2 => ?_) (fun hd2 => ?_)
    · exact absurd ⟨hd1, Int32.not_lt.mpr hd2⟩ hr
    · refine j_iconst (pc' := 32) (v := (nI 2)) Cx dX5_note_31 rfl (by decide) ?_
      refine j_goto (tgt := 52) Cx dX5_note_32 (by decide) ?_
      refine j_put (pc' := 55) (N := 15) (t := .int) (ws' := [(m, .inr (5, [.int (nI W), .int (nI H), .int (nI C), .int (nI 2), .ref o1, .ref o2, .int (nI nw), .int (nI nh), .ref go, .ref gt, .ref po, .ref pt, .ref my, .ref no, .ref so]))]) Cx dX5_note_52 rfl kin_X5_note_X5 kfl_X5_note_48 tyX5_ok nmX5 0 rfl rfl 3 rfl rfl rfl rfl rfl rfl rfl ?_
      refine j_aload_n (pc' := 56) Cx dX5_note_55 rfl rfl rfl ?_
      refine j_get (pc' := 59) (N := 15) Cx dX5_note_56 rfl kin_X5_note_X5 kfl_X5_note_48 0 rfl rfl 3 rfl rfl rfl ?_
      refine j_if_le_n (tgt := 64) (pc' := 62) Cx dX5_note_59 (by decide) rfl (by omega) (fun hh => absurd hh (by decide)) (fun _ => ?_)
      refine j_iconst (pc' := 63) (v := (nI 0)) Cx dX5_note_62 rfl (by decide) ?_
      exact j_iret Cx dX5_note_63 R0 ⟨Nat.le_of_ble_eq_true rfl, Nat.le_of_ble_eq_true rfl⟩ (⟨_, rfl, rfl, rfl⟩)

set_option maxHeartbeats 4000000 in
set_option maxRecDepth 100000 in
theorem c_X5_note_3 (l : Launch) (D : va_G) (ty : Nat → ClassId) (m o1 o2 go gt po pt my no so W H C : Nat) (nw nh : Nat) (fa : Int32) (cn : Nat → Nat) (ne : Nat → UInt64) (hcn : ∀ i, cn i ≤ 200) (i : Nat) (d : UInt64) (hi : i < 8) (hr : kRng d) (hm : cn i = 200) : KM l yX5_note wsX5_note { frames := 1, cells := 0, slots := 0, locals := 40 } D ty [.ref m, .int (nI i), .double (d)] [(m, .inr (5, [.int (nI W), .int (nI H), .int (nI C), .int (fa), .ref o1, .ref o2, .int (nI nw), .int (nI nh), .ref go, .ref gt, .ref po, .ref pt, .ref my, .ref no, .ref so])), (my, .inl (ty 0, 8, .inl (kN cn)))] (kI (fun r u => r = nI 0 ∧ u = [(m, .inr (5, [.int (nI W), .int (nI H), .int (nI C), .int (nI 3), .ref o1, .ref o2, .int (nI nw), .int (nI nh), .ref go, .ref gt, .ref po, .ref pt, .ref my, .ref no, .ref so])), (my, .inl (ty 0, 8, .inl (kN cn)))])) 0 0 := by
  refine KM.of (cc := cX5_note) (maxL := 4) (ret := (some .int)) (lv := [(0, .ref m), (1, .int (nI i)), (2, .double (d))]) (by decide +kernel) rfl rfl rfl (fun X C0 R0 => ?_)
  have Cx : kC X cX5_note wsX5_note RX5 { frames := 1, cells := 0, slots := 0, locals := 40 } "note" l D ty 4 := C0
  refine j_aload_n (pc' := 1) Cx dX5_note_0 rfl rfl rfl ?_
  refine j_iload_n (pc' := 2) Cx dX5_note_1 rfl rfl rfl ?_
  refine j_iconst (pc' := 3) (v := (nI 0)) Cx dX5_note_2 rfl (by decide) ?_
  refine j_bipush (pc' := 5) (v := (nI 7)) Cx dX5_note_3 rfl (by decide) ?_
  refine j_callS (pc' := 8) (wr := [(m, .inr (5, [.int (nI W), .int (nI H), .int (nI C), .int (fa), .ref o1, .ref o2, .int (nI nw), .int (nI nh), .ref go, .ref gt, .ref po, .ref pt, .ref my, .ref no, .ref so])), (my, .inl (ty 0, 8, .inl (kN cn)))]) (st := [.ref m]) Cx dX5_note_5 rfl (c_X5_in l D ty i 0 7 (Nat.zero_le _) (by omega) (by decide)) gX5_note_X5_in rfl khd_X5_in rfl ⟨rfl, rfl, Nat.le_of_ble_eq_true rfl, Nat.le_of_ble_eq_true rfl⟩ [] [0, 1] rfl rfl ⟨rfl, rfl⟩ (by decide) rfl (Nat.le_of_ble_eq_true rfl) ⟨Nat.le_of_ble_eq_true rfl, Nat.le_of_ble_eq_true rfl⟩ (fun v u hpost => ?_)
  obtain ⟨r, rfl, rfl, rfl⟩ := hpost
  show J X [(m, .inr (5, [.int (nI W), .int (nI H), .int (nI C), .int (fa), .ref o1, .ref o2, .int (nI nw), .int (nI nh), .ref go, .ref gt, .ref po, .ref pt, .ref my, .ref no, .ref so])), (my, .inl (ty 0, 8, .inl (kN cn)))] [(0, .ref m), (1, .int (nI i)), (2, .double (d))] 8 [.int (nI 1), .ref m] 0 0
  refine j_if_ne_n (tgt := 15) (pc' := 11) Cx dX5_note_8 (by decide) rfl (by omega) (fun _ => ?_) (fun hh => absurd hh (by decide))
  refine j_dload_n (pc' := 16) Cx dX5_note_15 rfl rfl rfl ?_
  refine j_ldc2d (pc' := 19) (v := 13920209183539462144) Cx dX5_note_16 rfl (by decide +kernel) ?_
  refine j_dcmp (pc' := 20) Cx dX5_note_19 rfl ?_
  refine j_if_lt (tgt := 31) (pc' := 23) Cx dX5_note_20 (by decide) rfl (fun hh => absurd hh (hr.1)) (fun _ => ?_)
  refine j_dload_n (pc' := 24) Cx dX5_note_23 rfl rfl rfl ?_
  refine j_ldc2d (pc' := 27) (v := 4696837146684686336) Cx dX5_note_24 rfl (by decide +kernel) ?_
  refine j_dcmp (pc' := 28) Cx dX5_note_27 rfl ?_
  refine j_if_le (tgt := 35) (pc' := 31) Cx dX5_note_28 (by decide) rfl (fun _ => ?_) (fun hh => absurd hh (not_not_intro (Int32.not_lt.mp hr.2)))
  refine j_aload_n (pc' := 36) Cx dX5_note_35 rfl rfl rfl ?_
  refine j_get (pc' := 39) (N := 15) Cx dX5_note_36 rfl kin_X5_note_X5 kfl_X5_note_28 0 rfl rfl 12 rfl rfl rfl ?_
  refine j_iload_n (pc' := 40) Cx dX5_note_39 rfl rfl rfl ?_
  refine j_iaload_nn (pc' := 41) Cx dX5_note_40 rfl 1 rfl (by omega) (by omega) ?_
  refine j_sipush (pc' := 44) (v := (nI 200)) Cx dX5_note_41 rfl (by decide) ?_
  refine j_icmp_ne_n (tgt := 51) (pc' := 47) Cx dX5_note_44 (by decide) rfl (by omega) (by omega) (fun hh => absurd hh (not_not_intro hm)) (fun _ => ?_)
  refine j_iconst (pc' := 48) (v := (nI 3)) Cx dX5_note_47 rfl (by decide) ?_
  refine j_goto (tgt := 52) Cx dX5_note_48 (by decide) ?_
  refine j_put (pc' := 55) (N := 15) (t := .int) (ws' := [(m, .inr (5, [.int (nI W), .int (nI H), .int (nI C), .int (nI 3), .ref o1, .ref o2, .int (nI nw), .int (nI nh), .ref go, .ref gt, .ref po, .ref pt, .ref my, .ref no, .ref so])), (my, .inl (ty 0, 8, .inl (kN cn)))]) Cx dX5_note_52 rfl kin_X5_note_X5 kfl_X5_note_48 tyX5_ok nmX5 0 rfl rfl 3 rfl rfl rfl rfl rfl rfl rfl ?_
  refine j_aload_n (pc' := 56) Cx dX5_note_55 rfl rfl rfl ?_
  refine j_get (pc' := 59) (N := 15) Cx dX5_note_56 rfl kin_X5_note_X5 kfl_X5_note_48 0 rfl rfl 3 rfl rfl rfl ?_
  refine j_if_le_n (tgt := 64) (pc' := 62) Cx dX5_note_59 (by decide) rfl (by omega) (fun hh => absurd hh (by decide)) (fun _ => ?_)
  refine j_iconst (pc' := 63) (v := (nI 0)) Cx dX5_note_62 rfl (by decide) ?_
  exact j_iret Cx dX5_note_63 R0 ⟨Nat.le_of_ble_eq_true rfl, Nat.le_of_ble_eq_true rfl⟩ (⟨_, rfl, rfl, rfl⟩)

set_option maxHeartbeats 4000000 in
set_option maxRecDepth 100000 in
/-- mean, of the other one -/
theorem c_X5_mean_ok (l : Launch) (D : va_G) (ty : Nat → ClassId) (m o1 o2 go gt po pt my no so W H C : Nat) (nw nh : Nat) (fa : Int32) (cn : Nat → Nat) (ne : Nat → UInt64) (hcn : ∀ i, cn i ≤ 200) (i : Nat) (hi : i < 8) (hm : 0 < cn i) (hf : ∀ k, k < cn i → FP.Core.DFin ((fun k => ne (200 * i + k)) k)) : KM l yX5_mean wsX5_mean { frames := 1, cells := 0, slots := 0, locals := 40 } D ty [.ref m, .int (nI i)] [(m, .inr (5, [.int (nI W), .int (nI H), .int (nI C), .int (fa), .ref o1, .ref o2, .int (nI nw), .int (nI nh), .ref go, .ref gt, .ref po, .ref pt, .ref my, .ref no, .ref so])), (my, .inl (ty 0, 8, .inl (kN cn))), (no, .inl (ty 1, 1600, .inr (.inr (.inr (.inl ne)))))] (kF (fun r u => r = FP.ddiv (kdsum (fun k => ne (200 * i + k)) (cn i)) (FP.i2d (nI (cn i))) ∧ u = [(m, .inr (5, [.int (nI W), .int (nI H), .int (nI C), .int (nI 0), .ref o1, .ref o2, .int (nI nw), .int (nI nh), .ref go, .ref gt, .ref po, .ref pt, .ref my, .ref no, .ref so])), (my, .inl (ty 0, 8, .inl (kN cn))), (no, .inl (ty 1, 1600, .inr (.inr (.inr (.inl ne)))))])) 0 0 := by
  refine KM.of (cc := cX5_mean) (maxL := 5) (ret := (some .double)) (lv := [(0, .ref m), (1, .int (nI i))]) (by decide +kernel) rfl rfl rfl (fun X C0 R0 => ?_)
  have Cx : kC X cX5_mean wsX5_mean RX5 { frames := 1, cells := 0, slots := 0, locals := 40 } "mean" l D ty 5 := C0
  have h200 := hcn i
  refine j_aload_n (pc' := 1) Cx dX5_mean_0 rfl rfl rfl ?_
  refine j_iload_n (pc' := 2) Cx dX5_mean_1 rfl rfl rfl ?_
  refine j_iconst (pc' := 3) (v := (nI 0)) Cx dX5_mean_2 rfl (by decide) ?_
  refine j_bipush (pc' := 5) (v := (nI 7)) Cx dX5_mean_3 rfl (by decide) ?_
  refine j_callS (pc' := 8) (wr := [(m, .inr (5, [.int (nI W), .int (nI H), .int (nI C), .int (fa), .ref o1, .ref o2, .int (nI nw), .int (nI nh), .ref go, .ref gt, .ref po, .ref pt, .ref my, .ref no, .ref so])), (my, .inl (ty 0, 8, .inl (kN cn))), (no, .inl (ty 1, 1600, .inr (.inr (.inr (.inl ne)))))]) (st := [.ref m]) Cx dX5_mean_5 rfl (c_X5_in l D ty i 0 7 (Nat.zero_le _) (by omega) (by decide)) gX5_mean_X5_in rfl khd_X5_in rfl ⟨rfl, rfl, Nat.le_of_ble_eq_true rfl, Nat.le_of_ble_eq_true rfl⟩ [] [0, 1, 2] rfl rfl ⟨rfl, rfl⟩ (by decide) rfl (Nat.le_of_ble_eq_true rfl) ⟨Nat.le_of_ble_eq_true rfl, Nat.le_of_ble_eq_true rfl⟩ (fun v u hpost => ?_)
  obtain ⟨r, rfl, rfl, rfl⟩ := hpost
  show J X [(m, .inr (5, [.int (nI W), .int (nI H), .int (nI C), .int (fa), .ref o1, .ref o2, .int (nI nw), .int (nI nh), .ref go, .ref gt, .ref po, .ref pt, .ref my, .ref no, .ref so])), (my, .inl (ty 0, 8, .inl (kN cn))), (no, .inl (ty 1, 1600, .inr (.inr (.inr (.inl ne)))))] [(0, .ref m), (1, .int (nI i))] 8 [.int (nI 1), .ref m] 0 0
  refine j_if_ne_n (tgt := 15) (pc' := 11) Cx dX5_mean_8 (by decide) rfl (by omega) (fun _ => ?_) (fun hh => absurd hh (by decide))
  refine j_aload_n (pc' := 16) Cx dX5_mean_15 rfl rfl rfl ?_
  refine j_get (pc' := 19) (N := 15) Cx dX5_mean_16 rfl kin_X5_mean_X5 kfl_X5_mean_28 0 rfl rfl 12 rfl rfl rfl ?_
  refine j_iload_n (pc' := 20) Cx dX5_mean_19 rfl rfl rfl ?_
  refine j_iaload_nn (pc' := 21) Cx dX5_mean_20 rfl 1 rfl (by omega) (by omega) ?_
  refine j_if_ne_n (tgt := 28) (pc' := 24) Cx dX5_mean_21 (by decide) rfl (by omega) (fun _ => ?_) (fun hh => absurd hh (by omega))
  refine j_iconst (pc' := 29) (v := (nI 0)) Cx dX5_mean_28 rfl (by decide) ?_
  refine j_put (pc' := 32) (N := 15) (t := .int) (ws' := [(m, .inr (5, [.int (nI W), .int (nI H), .int (nI C), .int (nI 0), .ref o1, .ref o2, .int (nI nw), .int (nI nh), .ref go, .ref gt, .ref po, .ref pt, .ref my, .ref no, .ref so])), (my, .inl (ty 0, 8, .inl (kN cn))), (no, .inl (ty 1, 1600, .inr (.inr (.inr (.inl ne)))))]) Cx dX5_mean_29 rfl kin_X5_mean_X5 kfl_X5_mean_48 tyX5_ok nmX5 0 rfl rfl 3 rfl rfl rfl rfl rfl rfl rfl ?_
  refine j_aload_n (pc' := 33) Cx dX5_mean_32 rfl rfl rfl ?_
  refine j_get (pc' := 36) (N := 15) Cx dX5_mean_33 rfl kin_X5_mean_X5 kfl_X5_mean_48 0 rfl rfl 3 rfl rfl rfl ?_
  refine j_if_le_n (tgt := 41) (pc' := 39) Cx dX5_mean_36 (by decide) rfl (by omega) (fun _ => ?_) (fun hh => absurd hh (by decide))
  refine j_dconst0 (pc' := 42) Cx dX5_mean_41 rfl ?_
  refine j_dstore_n (pc' := 43) (lv' := [(0, .ref m), (1, .int (nI i)), (2, .double (0))]) Cx dX5_mean_42 rfl rfl (by decide) rfl ?_
  refine j_iconst (pc' := 44) (v := (nI 0)) Cx dX5_mean_43 rfl (by decide) ?_
  refine j_istore (pc' := 46) (lv' := [(0, .ref m), (1, .int (nI i)), (2, .double (0)), (4, .int (nI 0))]) Cx dX5_mean_44 rfl (by decide) rfl ?_
  have LP : ∀ (LP_n : Nat), ∀ (k : Nat), (cn i - k < LP_n) → (k ≤ cn i) → J X [(m, .inr (5, [.int (nI W), .int (nI H), .int (nI C), .int (nI 0), .ref o1, .ref o2, .int (nI nw), .int (nI nh), .ref go, .ref gt, .ref po, .ref pt, .ref my, .ref no, .ref so])), (my, .inl (ty 0, 8, .inl (kN cn))), (no, .inl (ty 1, 1600, .inr (.inr (.inr (.inl ne)))))] [(0, .ref m), (1, .int (nI i)), (2, .double (kdsum (fun k => ne (200 * i + k)) k)), (4, .int (nI k))] 46 [] 0 0 := by
    intro LP_n
    induction LP_n with
    | zero =>
      intro k hms _
      exact absurd hms (Nat.not_lt_zero _)
    | succ LP_n LP_ih =>
      intro k LP_m hle
      refine j_iload (pc' := 48) Cx dX5_mean_46 rfl rfl ?_
      refine j_aload_n (pc' := 49) Cx dX5_mean_48 rfl rfl rfl ?_
      refine j_get (pc' := 52) (N := 15) Cx dX5_mean_49 rfl kin_X5_mean_X5 kfl_X5_mean_28 0 rfl rfl 12 rfl rfl rfl ?_
      refine j_iload_n (pc' := 53) Cx dX5_mean_52 rfl rfl rfl ?_
      refine j_iaload_nn (pc' := 54) Cx dX5_mean_53 rfl 1 rfl (by omega) (by omega) ?_
      refine j_icmp_ge_n (tgt := 79) (pc' := 57) Cx dX5_mean_54 (by decide) rfl (by omega) (by omega) (fun hk => ?_) (fun hk => ?_)
      · have e : k = cn i := by omega
        subst e
        refine j_dload_n (pc' := 80) Cx dX5_mean_79 rfl rfl rfl ?_
        refine j_aload_n (pc' := 81) Cx dX5_mean_80 rfl rfl rfl ?_
        refine j_get (pc' := 84) (N := 15) Cx dX5_mean_81 rfl kin_X5_mean_X5 kfl_X5_mean_28 0 rfl rfl 12 rfl rfl rfl ?_
        refine j_iload_n (pc' := 85) Cx dX5_mean_84 rfl rfl rfl ?_
        refine j_iaload_nn (pc' := 86) Cx dX5_mean_85 rfl 1 rfl (by omega) (by omega) ?_
        refine j_i2d (pc' := 87) Cx dX5_mean_86 rfl ?_
        refine j_ddiv (pc' := 88) Cx dX5_mean_87 rfl (k_ddiv_no (kdsum_no hf) hm (by omega)) ?_
        exact j_dret Cx dX5_mean_88 R0 ⟨Nat.le_of_ble_eq_true rfl, Nat.le_of_ble_eq_true rfl⟩ (⟨_, rfl, rfl, rfl⟩)
      · refine j_dload_n (pc' := 58) Cx dX5_mean_57 rfl rfl rfl ?_
        refine j_aload_n (pc' := 59) Cx dX5_mean_58 rfl rfl rfl ?_
        refine j_get (pc' := 62) (N := 15) Cx dX5_mean_59 rfl kin_X5_mean_X5 kfl_X5_mean_31 0 rfl rfl 13 rfl rfl rfl ?_
        refine j_sipush (pc' := 65) (v := (nI 200)) Cx dX5_mean_62 rfl (by decide) ?_
        refine j_iload_n (pc' := 66) Cx dX5_mean_65 rfl rfl rfl ?_
        refine j_imul_n (pc' := 67) Cx dX5_mean_66 rfl ?_
        refine j_iload (pc' := 69) Cx dX5_mean_67 rfl rfl ?_
        refine j_iadd_n (pc' := 70) Cx dX5_mean_69 rfl ?_
        refine j_daload_n (pc' := 71) Cx dX5_mean_70 rfl 2 rfl (by omega) (by omega) ?_
        refine j_dadd (pc' := 72) Cx dX5_mean_71 rfl (kdsum_no (n := k + 1) (fun j hj => hf j (by omega))) ?_
        refine j_dstore_n (pc' := 73) (lv' := [(0, .ref m), (1, .int (nI i)), (2, .double (FP.dadd (kdsum (fun k => ne (200 * i + k)) k) (ne ((200 * i) + k)))), (4, .int (nI k))]) Cx dX5_mean_72 rfl rfl (by decide) rfl ?_
        refine j_iinc_n (pc' := 76) (z := 1) (a := k) (lv' := [(0, .ref m), (1, .int (nI i)), (2, .double (FP.dadd (kdsum (fun k => ne (200 * i + k)) k) (ne ((200 * i) + k)))), (4, .int (nI (k + 1)))]) Cx dX5_mean_73 rfl rfl (by decide) rfl ?_
        refine j_goto (tgt := 46) Cx dX5_mean_76 (by decide) ?_
        refine J.cast (ws' := [(m, .inr (5, [.int (nI W), .int (nI H), .int (nI C), .int (nI 0), .ref o1, .ref o2, .int (nI nw), .int (nI nh), .ref go, .ref gt, .ref po, .ref pt, .ref my, .ref no, .ref so])), (my, .inl (ty 0, 8, .inl (kN cn))), (no, .inl (ty 1, 1600, .inr (.inr (.inr (.inl ne)))))]) (lv' := [(0, .ref m), (1, .int (nI i)), (2, .double (kdsum (fun k => ne (200 * i + k)) (k + 1))), (4, .int (nI (k + 1)))]) (pc' := 46) (st' := []) (rfl) (rfl) rfl (rfl) rfl rfl ?_
        exact LP_ih (k + 1) (by omega) (by omega)
  refine J.cast (ws' := [(m, .inr (5, [.int (nI W), .int (nI H), .int (nI C), .int (nI 0), .ref o1, .ref o2, .int (nI nw), .int (nI nh), .ref go, .ref gt, .ref po, .ref pt, .ref my, .ref no, .ref so])), (my, .inl (ty 0, 8, .inl (kN cn))), (no, .inl (ty 1, 1600, .inr (.inr (.inr (.inl ne)))))]) (lv' := [(0, .ref m), (1, .int (nI i)), (2, .double (kdsum (fun k => ne (200 * i + k)) 0)), (4, .int (nI 0))]) (pc' := 46) (st' := []) (rfl) (rfl) rfl (rfl) rfl rfl ?_
  exact LP (cn i + 1) 0 (by omega) (Nat.zero_le _)

set_option maxHeartbeats 4000000 in
set_option maxRecDepth 100000 in
theorem c_X5_mean_1 (l : Launch) (D : va_G) (ty : Nat → ClassId) (m o1 o2 go gt po pt my no so W H C : Nat) (nw nh : Nat) (fa : Int32) (x : Int32) (hno : ¬ kok x 8) : KM l yX5_mean wsX5_mean { frames := 1, cells := 0, slots := 0, locals := 40 } D ty [.ref m, .int (x)] [(m, .inr (5, [.int (nI W), .int (nI H), .int (nI C), .int (fa), .ref o1, .ref o2, .int (nI nw), .int (nI nh), .ref go, .ref gt, .ref po, .ref pt, .ref my, .ref no, .ref so]))] (kF (fun r u => r = 0 ∧ u = [(m, .inr (5, [.int (nI W), .int (nI H), .int (nI C), .int (nI 1), .ref o1, .ref o2, .int (nI nw), .int (nI nh), .ref go, .ref gt, .ref po, .ref pt, .ref my, .ref no, .ref so]))])) 0 0 := by
  refine KM.of (cc := cX5_mean) (maxL := 5) (ret := (some .double)) (lv := [(0, .ref m), (1, .int (x))]) (by decide +kernel) rfl rfl rfl (fun X C0 R0 => ?_)
  have Cx : kC X cX5_mean wsX5_mean RX5 { frames := 1, cells := 0, slots := 0, locals := 40 } "mean" l D ty 5 := C0
  rcases pk_ix x (n := 8) (by decide) with hs | hs | hs
  · refine j_aload_n (pc' := 1) Cx dX5_mean_0 rfl rfl rfl ?_
    refine j_iload_n (pc' := 2) Cx dX5_mean_1 rfl rfl rfl ?_
    refine j_iconst (pc' := 3) (v := (nI 0)) Cx dX5_mean_2 rfl (by decide) ?_
    refine j_bipush (pc' := 5) (v := (nI 7)) Cx dX5_mean_3 rfl (by decide) ?_
    refine j_callS (pc' := 8) (wr := [(m, .inr (5, [.int (nI W), .int (nI H), .int (nI C), .int (fa), .ref o1, .ref o2, .int (nI nw), .int (nI nh), .ref go, .ref gt, .ref po, .ref pt, .ref my, .ref no, .ref so]))]) (st := [.ref m]) Cx dX5_mean_5 rfl (c_X5_in_no l D ty x (nI 0) (nI 7) (Or.inl (show x < nI 0 from hs))) gX5_mean_X5_in rfl khd_X5_in rfl ⟨rfl, rfl, Nat.le_of_ble_eq_true rfl, Nat.le_of_ble_eq_true rfl⟩ [] [0] rfl rfl ⟨rfl, rfl⟩ (by decide) rfl (Nat.le_of_ble_eq_true rfl) ⟨Nat.le_of_ble_eq_true rfl, Nat.le_of_ble_eq_true rfl⟩ (fun v u hpost => ?_)
    obtain ⟨r, rfl, rfl, rfl⟩ := hpost
    show J X [(m, .inr (5, [.int (nI W), .int (nI H), .int (nI C), .int (fa), .ref o1, .ref o2, .int (nI nw), .int (nI nh), .ref go, .ref gt, .ref po, .ref pt, .ref my, .ref no, .ref so]))] [(0, .ref m), (1, .int (x))] 8 [.int (nI 0), .ref m] 0 0
    refine j_if_ne_n (tgt := 15) (pc' := 11) Cx dX5_mean_8 (by decide) rfl (by omega) (fun hh => absurd hh (not_not_intro rfl)) (fun _ => ?_)
    refine j_iconst (pc' := 12) (v := (nI 1)) Cx dX5_mean_11 rfl (by decide) ?_
    refine j_goto (tgt := 29) Cx dX5_mean_12 (by decide) ?_
    refine j_put (pc' := 32) (N := 15) (t := .int) (ws' := [(m, .inr (5, [.int (nI W), .int (nI H), .int (nI C), .int (nI 1), .ref o1, .ref o2, .int (nI nw), .int (nI nh), .ref go, .ref gt, .ref po, .ref pt, .ref my, .ref no, .ref so]))]) Cx dX5_mean_29 rfl kin_X5_mean_X5 kfl_X5_mean_48 tyX5_ok nmX5 0 rfl rfl 3 rfl rfl rfl rfl rfl rfl rfl ?_
    refine j_aload_n (pc' := 33) Cx dX5_mean_32 rfl rfl rfl ?_
    refine j_get (pc' := 36) (N := 15) Cx dX5_mean_33 rfl kin_X5_mean_X5 kfl_X5_mean_48 0 rfl rfl 3 rfl rfl rfl ?_
    refine j_if_le_n (tgt := 41) (pc' := 39) Cx dX5_mean_36 (by decide) rfl (by omega) (fun hh => absurd hh (by decide)) (fun _ => ?_)
    refine j_dconst0 (pc' := 40) Cx dX5_mean_39 rfl ?_
    exact j_dret Cx dX5_mean_40 R0 ⟨Nat.le_of_ble_eq_true rfl, Nat.le_of_ble_eq_true rfl⟩ (⟨_, rfl, rfl, rfl⟩)
  · refine j_aload_n (pc' := 1) Cx dX5_mean_0 rfl rfl rfl ?_
    refine j_iload_n (pc' := 2) Cx dX5_mean_1 rfl rfl rfl ?_
    refine j_iconst (pc' := 3) (v := (nI 0)) Cx dX5_mean_2 rfl (by decide) ?_
    refine j_bipush (pc' := 5) (v := (nI 7)) Cx dX5_mean_3 rfl (by decide) ?_
    refine j_callS (pc' := 8) (wr := [(m, .inr (5, [.int (nI W), .int (nI H), .int (nI C), .int (fa), .ref o1, .ref o2, .int (nI nw), .int (nI nh), .ref go, .ref gt, .ref po, .ref pt, .ref my, .ref no, .ref so]))]) (st := [.ref m]) Cx dX5_mean_5 rfl (c_X5_in_no l D ty x (nI 0) (nI 7) (Or.inr (k_pred (n := 8) (by decide) (by decide) hs))) gX5_mean_X5_in rfl khd_X5_in rfl ⟨rfl, rfl, Nat.le_of_ble_eq_true rfl, Nat.le_of_ble_eq_true rfl⟩ [] [0] rfl rfl ⟨rfl, rfl⟩ (by decide) rfl (Nat.le_of_ble_eq_true rfl) ⟨Nat.le_of_ble_eq_true rfl, Nat.le_of_ble_eq_true rfl⟩ (fun v u hpost => ?_)
    obtain ⟨r, rfl, rfl, rfl⟩ := hpost
    show J X [(m, .inr (5, [.int (nI W), .int (nI H), .int (nI C), .int (fa), .ref o1, .ref o2, .int (nI nw), .int (nI nh), .ref go, .ref gt, .ref po, .ref pt, .ref my, .ref no, .ref so]))] [(0, .ref m), (1, .int (x))] 8 [.int (nI 0), .ref m] 0 0
    refine j_if_ne_n (tgt := 15) (pc' := 11) Cx dX5_mean_8 (by decide) rfl (by omega) (fun hh => absurd hh (not_not_intro rfl)) (fun _ => ?_)
    refine j_iconst (pc' := 12) (v := (nI 1)) Cx dX5_mean_11 rfl (by decide) ?_
    refine j_goto (tgt := 29) Cx dX5_mean_12 (by decide) ?_
    refine j_put (pc' := 32) (N := 15) (t := .int) (ws' := [(m, .inr (5, [.int (nI W), .int (nI H), .int (nI C), .int (nI 1), .ref o1, .ref o2, .int (nI nw), .int (nI nh), .ref go, .ref gt, .ref po, .ref pt, .ref my, .ref no, .ref so]))]) Cx dX5_mean_29 rfl kin_X5_mean_X5 kfl_X5_mean_48 tyX5_ok nmX5 0 rfl rfl 3 rfl rfl rfl rfl rfl rfl rfl ?_
    refine j_aload_n (pc' := 33) Cx dX5_mean_32 rfl rfl rfl ?_
    refine j_get (pc' := 36) (N := 15) Cx dX5_mean_33 rfl kin_X5_mean_X5 kfl_X5_mean_48 0 rfl rfl 3 rfl rfl rfl ?_
    refine j_if_le_n (tgt := 41) (pc' := 39) Cx dX5_mean_36 (by decide) rfl (by omega) (fun hh => absurd hh (by decide)) (fun _ => ?_)
    refine j_dconst0 (pc' := 40) Cx dX5_mean_39 rfl ?_
    exact j_dret Cx dX5_mean_40 R0 ⟨Nat.le_of_ble_eq_true rfl, Nat.le_of_ble_eq_true rfl⟩ (⟨_, rfl, rfl, rfl⟩)
  · exact absurd hs hno

set_option maxHeartbeats 4000000 in
set_option maxRecDepth 100000 in
theorem c_X5_mean_2 (l : Launch) (D : va_G) (ty : Nat → ClassId) (m o1 o2 go gt po pt my no so W H C : Nat) (nw nh : Nat) (fa : Int32) (cn : Nat → Nat) (ne : Nat → UInt64) (hcn : ∀ i, cn i ≤ 200) (i : Nat) (hi : i < 8) (hm : cn i = 0) : KM l yX5_mean wsX5_mean { frames := 1, cells := 0, slots := 0, locals := 40 } D ty [.ref m, .int (nI i)] [(m, .inr (5, [.int (nI W), .int (nI H), .int (nI C), .int (fa), .ref o1, .ref o2, .int (nI nw), .int (nI nh), .ref go, .ref gt, .ref po, .ref pt, .ref my, .ref no, .ref so])), (my, .inl (ty 0, 8, .inl (kN cn)))] (kF (fun r u => r = 0 ∧ u = [(m, .inr (5, [.int (nI W), .int (nI H), .int (nI C), .int (nI 2), .ref o1, .ref o2, .int (nI nw), .int (nI nh), .ref go, .ref gt, .ref po, .ref pt, .ref my, .ref no, .ref so])), (my, .inl (ty 0, 8, .inl (kN cn)))])) 0 0 := by
  refine KM.of (cc := cX5_mean) (maxL := 5) (ret := (some .double)) (lv := [(0, .ref m), (1, .int (nI i))]) (by decide +kernel) rfl rfl rfl (fun X C0 R0 => ?_)
  have Cx : kC X cX5_mean wsX5_mean RX5 { frames := 1, cells := 0, slots := 0, locals := 40 } "mean" l D ty 5 := C0
  refine j_aload_n (pc' := 1) Cx dX5_mean_0 rfl rfl rfl ?_
  refine j_iload_n (pc' := 2) Cx dX5_mean_1 rfl rfl rfl ?_
  refine j_iconst (pc' := 3) (v := (nI 0)) Cx dX5_mean_2 rfl (by decide) ?_
  refine j_bipush (pc' := 5) (v := (nI 7)) Cx dX5_mean_3 rfl (by decide) ?_
  refine j_callS (pc' := 8) (wr := [(m, .inr (5, [.int (nI W), .int (nI H), .int (nI C), .int (fa), .ref o1, .ref o2, .int (nI nw), .int (nI nh), .ref go, .ref gt, .ref po, .ref pt, .ref my, .ref no, .ref so])), (my, .inl (ty 0, 8, .inl (kN cn)))]) (st := [.ref m]) Cx dX5_mean_5 rfl (c_X5_in l D ty i 0 7 (Nat.zero_le _) (by omega) (by decide)) gX5_mean_X5_in rfl khd_X5_in rfl ⟨rfl, rfl, Nat.le_of_ble_eq_true rfl, Nat.le_of_ble_eq_true rfl⟩ [] [0, 1] rfl rfl ⟨rfl, rfl⟩ (by decide) rfl (Nat.le_of_ble_eq_true rfl) ⟨Nat.le_of_ble_eq_true rfl, Nat.le_of_ble_eq_true rfl⟩ (fun v u hpost => ?_)
  obtain ⟨r, rfl, rfl, rfl⟩ := hpost
  show J X [(m, .inr (5, [.int (nI W), .int (nI H), .int (nI C), .int (fa), .ref o1, .ref o2, .int (nI nw), .int (nI nh), .ref go, .ref gt, .ref po, .ref pt, .ref my, .ref no, .ref so])), (my, .inl (ty 0, 8, .inl (kN cn)))] [(0, .ref m), (1, .int (nI i))] 8 [.int (nI 1), .ref m] 0 0
  refine j_if_ne_n (tgt := 15) (pc' := 11) Cx dX5_mean_8 (by decide) rfl (by omega) (fun _ => ?_) (fun hh => absurd hh (by decide))
  refine j_aload_n (pc' := 16) Cx dX5_mean_15 rfl rfl rfl ?_
  refine j_get (pc' := 19) (N := 15) Cx dX5_mean_16 rfl kin_X5_mean_X5 kfl_X5_mean_28 0 rfl rfl 12 rfl rfl rfl ?_
  refine j_iload_n (pc' := 20) Cx dX5_mean_19 rfl rfl rfl ?_
  refine j_iaload_nn (pc' := 21) Cx dX5_mean_20 rfl 1 rfl (by omega) (by omega) ?_
  refine j_if_ne_n (tgt := 28) (pc' := 24) Cx dX5_mean_21 (by decide) rfl (by omega) (fun hh => absurd hh (not_not_intro hm)) (fun _ => ?_)
  refine j_iconst (pc' := 25) (v := (nI 2)) Cx dX5_mean_24 rfl (by decide) ?_
  refine j_goto (tgt := 29) Cx dX5_mean_25 (by decide) ?_
  refine j_put (pc' := 32) (N := 15) (t := .int) (ws' := [(m, .inr (5, [.int (nI W), .int (nI H), .int (nI C), .int (nI 2), .ref o1, .ref o2, .int (nI nw), .int (nI nh), .ref go, .ref gt, .ref po, .ref pt, .ref my, .ref no, .ref so])), (my, .inl (ty 0, 8, .inl (kN cn)))]) Cx dX5_mean_29 rfl kin_X5_mean_X5 kfl_X5_mean_48 tyX5_ok nmX5 0 rfl rfl 3 rfl rfl rfl rfl rfl rfl rfl ?_
  refine j_aload_n (pc' := 33) Cx dX5_mean_32 rfl rfl rfl ?_
  refine j_get (pc' := 36) (N := 15) Cx dX5_mean_33 rfl kin_X5_mean_X5 kfl_X5_mean_48 0 rfl rfl 3 rfl rfl rfl ?_
  refine j_if_le_n (tgt := 41) (pc' := 39) Cx dX5_mean_36 (by decide) rfl (by omega) (fun hh => absurd hh (by decide)) (fun _ => ?_)
  refine j_dconst0 (pc' := 40) Cx dX5_mean_39 rfl ?_
  exact j_dret Cx dX5_mean_40 R0 ⟨Nat.le_of_ble_eq_true rfl, Nat.le_of_ble_eq_true rfl⟩ (⟨_, rfl, rfl, rfl⟩)

set_option maxHeartbeats 4000000 in
set_option maxRecDepth 100000 in
/-- ranked, of the other one -/
theorem c_X5_ranked_ok (l : Launch) (D : va_G) (ty : Nat → ClassId) (m o1 o2 go gt po pt my no so W H C : Nat) (nw nh : Nat) (fa : Int32) (cn : Nat → Nat) (ne : Nat → UInt64) (hcn : ∀ i, cn i ≤ 200) (se : Nat → UInt64) (i j : Nat) (hi : i < 8) (hj : j < cn i) : KM l yX5_ranked wsX5_ranked { frames := 1, cells := 0, slots := 0, locals := 40 } D ty [.ref m, .int (nI i), .int (nI j)] [(m, .inr (5, [.int (nI W), .int (nI H), .int (nI C), .int (fa), .ref o1, .ref o2, .int (nI nw), .int (nI nh), .ref go, .ref gt, .ref po, .ref pt, .ref my, .ref no, .ref so])), (my, .inl (ty 0, 8, .inl (kN cn))), (no, .inl (ty 1, 1600, .inr (.inr (.inr (.inl ne))))), (so, .inl (ty 1, 200, .inr (.inr (.inr (.inl se)))))] (kF (fun r u => r = ksort (fun k => ne (200 * i + k)) (cn i) j ∧ ∃ s2 : Nat → UInt64, u = [(m, .inr (5, [.int (nI W), .int (nI H), .int (nI C), .int (nI 0), .ref o1, .ref o2, .int (nI nw), .int (nI nh), .ref go, .ref gt, .ref po, .ref pt, .ref my, .ref no, .ref so])), (my, .inl (ty 0, 8, .inl (kN cn))), (no, .inl (ty 1, 1600, .inr (.inr (.inr (.inl ne))))), (so, .inl (ty 1, 200, .inr (.inr (.inr (.inl s2)))))])) 0 0 := by
  refine KM.of (cc := cX5_ranked) (maxL := 7) (ret := (some .double)) (lv := [(0, .ref m), (1, .int (nI i)), (2, .int (nI j))]) (by decide +kernel) rfl rfl rfl (fun X C0 R0 => ?_)
  have Cx : kC X cX5_ranked wsX5_ranked RX5 { frames := 1, cells := 0, slots := 0, locals := 40 } "ranked" l D ty 7 := C0
  have h200 := hcn i
  refine j_aload_n (pc' := 1) Cx dX5_ranked_0 rfl rfl rfl ?_
  refine j_iload_n (pc' := 2) Cx dX5_ranked_1 rfl rfl rfl ?_
  refine j_iconst (pc' := 3) (v := (nI 0)) Cx dX5_ranked_2 rfl (by decide) ?_
  refine j_bipush (pc' := 5) (v := (nI 7)) Cx dX5_ranked_3 rfl (by decide) ?_
  refine j_callS (pc' := 8) (wr := [(m, .inr (5, [.int (nI W), .int (nI H), .int (nI C), .int (fa), .ref o1, .ref o2, .int (nI nw), .int (nI nh), .ref go, .ref gt, .ref po, .ref pt, .ref my, .ref no, .ref so])), (my, .inl (ty 0, 8, .inl (kN cn))), (no, .inl (ty 1, 1600, .inr (.inr (.inr (.inl ne))))), (so, .inl (ty 1, 200, .inr (.inr (.inr (.inl se)))))]) (st := [.ref m]) Cx dX5_ranked_5 rfl (c_X5_in l D ty i 0 7 (Nat.zero_le _) (by omega) (by decide)) gX5_ranked_X5_in rfl khd_X5_in rfl ⟨rfl, rfl, Nat.le_of_ble_eq_true rfl, Nat.le_of_ble_eq_true rfl⟩ [] [0, 1, 2, 3] rfl rfl ⟨rfl, rfl⟩ (by decide) rfl (Nat.le_of_ble_eq_true rfl) ⟨Nat.le_of_ble_eq_true rfl, Nat.le_of_ble_eq_true rfl⟩ (fun v u hpost => ?_)
  obtain ⟨r, rfl, rfl, rfl⟩ := hpost
  show J X [(m, .inr (5, [.int (nI W), .int (nI H), .int (nI C), .int (fa), .ref o1, .ref o2, .int (nI nw), .int (nI nh), .ref go, .ref gt, .ref po, .ref pt, .ref my, .ref no, .ref so])), (my, .inl (ty 0, 8, .inl (kN cn))), (no, .inl (ty 1, 1600, .inr (.inr (.inr (.inl ne))))), (so, .inl (ty 1, 200, .inr (.inr (.inr (.inl se)))))] [(0, .ref m), (1, .int (nI i)), (2, .int (nI j))] 8 [.int (nI 1), .ref m] 0 0
  refine j_if_eq_n (tgt := 15) (pc' := 11) Cx dX5_ranked_8 (by decide) rfl (by omega) (fun hh => absurd hh (by decide)) (fun _ => ?_)
  refine j_iconst (pc' := 12) (v := (nI 0)) Cx dX5_ranked_11 rfl (by decide) ?_
  refine j_goto (tgt := 16) Cx dX5_ranked_12 (by decide) ?_
  refine j_put (pc' := 19) (N := 15) (t := .int) (ws' := [(m, .inr (5, [.int (nI W), .int (nI H), .int (nI C), .int (nI 0), .ref o1, .ref o2, .int (nI nw), .int (nI nh), .ref go, .ref gt, .ref po, .ref pt, .ref my, .ref no, .ref so])), (my, .inl (ty 0, 8, .inl (kN cn))), (no, .inl (ty 1, 1600, .inr (.inr (.inr (.inl ne))))), (so, .inl (ty 1, 200, .inr (.inr (.inr (.inl se)))))]) Cx dX5_ranked_16 rfl kin_X5_ranked_X5 kfl_X5_ranked_48 tyX5_ok nmX5 0 rfl rfl 3 rfl rfl rfl rfl rfl rfl rfl ?_
  refine j_aload_n (pc' := 20) Cx dX5_ranked_19 rfl rfl rfl ?_
  refine j_get (pc' := 23) (N := 15) Cx dX5_ranked_20 rfl kin_X5_ranked_X5 kfl_X5_ranked_48 0 rfl rfl 3 rfl rfl rfl ?_
  refine j_if_ne_n (tgt := 51) (pc' := 26) Cx dX5_ranked_23 (by decide) rfl (by omega) (fun hh => absurd hh (not_not_intro rfl)) (fun _ => ?_)
  refine j_aload_n (pc' := 27) Cx dX5_ranked_26 rfl rfl rfl ?_
  refine j_iload_n (pc' := 28) Cx dX5_ranked_27 rfl rfl rfl ?_
  refine j_iconst (pc' := 29) (v := (nI 0)) Cx dX5_ranked_28 rfl (by decide) ?_
  refine j_aload_n (pc' := 30) Cx dX5_ranked_29 rfl rfl rfl ?_
  refine j_get (pc' := 33) (N := 15) Cx dX5_ranked_30 rfl kin_X5_ranked_X5 kfl_X5_ranked_28 0 rfl rfl 12 rfl rfl rfl ?_
  refine j_iload_n (pc' := 34) Cx dX5_ranked_33 rfl rfl rfl ?_
  refine j_iaload_nn (pc' := 35) Cx dX5_ranked_34 rfl 1 rfl (by omega) (by omega) ?_
  refine j_iconst (pc' := 36) (v := (nI 1)) Cx dX5_ranked_35 rfl (by decide) ?_
  refine j_isub_n (pc' := 37) Cx dX5_ranked_36 rfl (by omega) ?_
  refine j_callS (pc' := 40) (wr := [(m, .inr (5, [.int (nI W), .int (nI H), .int (nI C), .int (nI 0), .ref o1, .ref o2, .int (nI nw), .int (nI nh), .ref go, .ref gt, .ref po, .ref pt, .ref my, .ref no, .ref so])), (my, .inl (ty 0, 8, .inl (kN cn))), (no, .inl (ty 1, 1600, .inr (.inr (.inr (.inl ne))))), (so, .inl (ty 1, 200, .inr (.inr (.inr (.inl se)))))]) (st := [.ref m]) Cx dX5_ranked_37 rfl (c_X5_in l D ty j 0 (cn i - 1) (Nat.zero_le _) (by omega) (by omega)) gX5_ranked_X5_in rfl khd_X5_in rfl ⟨rfl, rfl, Nat.le_of_ble_eq_true rfl, Nat.le_of_ble_eq_true rfl⟩ [] [0, 1, 2, 3] rfl rfl ⟨rfl, rfl⟩ (by decide) rfl (Nat.le_of_ble_eq_true rfl) ⟨Nat.le_of_ble_eq_true rfl, Nat.le_of_ble_eq_true rfl⟩ (fun v u hpost => ?_)
  obtain ⟨r, rfl, rfl, rfl⟩ := hpost
  show J X [(m, .inr (5, [.int (nI W), .int (nI H), .int (nI C), .int (nI 0), .ref o1, .ref o2, .int (nI nw), .int (nI nh), .ref go, .ref gt, .ref po, .ref pt, .ref my, .ref no, .ref so])), (my, .inl (ty 0, 8, .inl (kN cn))), (no, .inl (ty 1, 1600, .inr (.inr (.inr (.inl ne))))), (so, .inl (ty 1, 200, .inr (.inr (.inr (.inl se)))))] [(0, .ref m), (1, .int (nI i)), (2, .int (nI j))] 40 [.int (nI 1), .ref m] 0 0
  refine j_if_eq_n (tgt := 47) (pc' := 43) Cx dX5_ranked_40 (by decide) rfl (by omega) (fun hh => absurd hh (by decide)) (fun _ => ?_)
  refine j_iconst (pc' := 44) (v := (nI 0)) Cx dX5_ranked_43 rfl (by decide) ?_
  refine j_goto (tgt := 48) Cx dX5_ranked_44 (by decide) ?_
  refine j_put (pc' := 51) (N := 15) (t := .int) (ws' := [(m, .inr (5, [.int (nI W), .int (nI H), .int (nI C), .int (nI 0), .ref o1, .ref o2, .int (nI nw), .int (nI nh), .ref go, .ref gt, .ref po, .ref pt, .ref my, .ref no, .ref so])), (my, .inl (ty 0, 8, .inl (kN cn))), (no, .inl (ty 1, 1600, .inr (.inr (.inr (.inl ne))))), (so, .inl (ty 1, 200, .inr (.inr (.inr (.inl se)))))]) Cx dX5_ranked_48 rfl kin_X5_ranked_X5 kfl_X5_ranked_48 tyX5_ok nmX5 0 rfl rfl 3 rfl rfl rfl rfl rfl rfl rfl ?_
  refine j_aload_n (pc' := 52) Cx dX5_ranked_51 rfl rfl rfl ?_
  refine j_get (pc' := 55) (N := 15) Cx dX5_ranked_52 rfl kin_X5_ranked_X5 kfl_X5_ranked_48 0 rfl rfl 3 rfl rfl rfl ?_
  refine j_if_le_n (tgt := 60) (pc' := 58) Cx dX5_ranked_55 (by decide) rfl (by omega) (fun _ => ?_) (fun hh => absurd hh (by decide))
  refine j_iconst (pc' := 61) (v := (nI 0)) Cx dX5_ranked_60 rfl (by decide) ?_
  refine j_istore_n (pc' := 62) (lv' := [(0, .ref m), (1, .int (nI i)), (2, .int (nI j)), (3, .int (nI 0))]) Cx dX5_ranked_61 rfl rfl (by decide) rfl ?_
  have LP : ∀ (LP_n : Nat), ∀ (k : Nat) (s : Nat → UInt64), (cn i - k < LP_n) → (k ≤ cn i) → (∀ x, x < k → s x = ksort (fun k => ne (200 * i + k)) k x) → J X [(m, .inr (5, [.int (nI W), .int (nI H), .int (nI C), .int (nI 0), .ref o1, .ref o2, .int (nI nw), .int (nI nh), .ref go, .ref gt, .ref po, .ref pt, .ref my, .ref no, .ref so])), (my, .inl (ty 0, 8, .inl (kN cn))), (no, .inl (ty 1, 1600, .inr (.inr (.inr (.inl ne))))), (so, .inl (ty 1, 200, .inr (.inr (.inr (.inl s)))))] [(0, .ref m), (1, .int (nI i)), (2, .int (nI j)), (3, .int (nI k))] 62 [] 0 0 := by
    intro LP_n
    induction LP_n with
    | zero =>
      intro k s hms _ _
      exact absurd hms (Nat.not_lt_zero _)
    | succ LP_n LP_ih =>
      intro k s LP_m hle hs
      refine j_iload_n (pc' := 63) Cx dX5_ranked_62 rfl rfl rfl ?_
      refine j_aload_n (pc' := 64) Cx dX5_ranked_63 rfl rfl rfl ?_
      refine j_get (pc' := 67) (N := 15) Cx dX5_ranked_64 rfl kin_X5_ranked_X5 kfl_X5_ranked_28 0 rfl rfl 12 rfl rfl rfl ?_
      refine j_iload_n (pc' := 68) Cx dX5_ranked_67 rfl rfl rfl ?_
      refine j_iaload_nn (pc' := 69) Cx dX5_ranked_68 rfl 1 rfl (by omega) (by omega) ?_
      refine j_icmp_ge_n (tgt := 146) (pc' := 72) Cx dX5_ranked_69 (by decide) rfl (by omega) (by omega) (fun hk => ?_) (fun hk => ?_)
      · have e : k = cn i := by omega
        subst e
        refine j_aload_n (pc' := 147) Cx dX5_ranked_146 rfl rfl rfl ?_
        refine j_get (pc' := 150) (N := 15) Cx dX5_ranked_147 rfl kin_X5_ranked_X5 kfl_X5_ranked_35 0 rfl rfl 14 rfl rfl rfl ?_
        refine j_iload_n (pc' := 151) Cx dX5_ranked_150 rfl rfl rfl ?_
        refine j_daload_n (pc' := 152) Cx dX5_ranked_151 rfl 3 rfl (by omega) (by omega) ?_
        exact j_dret Cx dX5_ranked_152 R0 ⟨Nat.le_of_ble_eq_true rfl, Nat.le_of_ble_eq_true rfl⟩ (⟨_, rfl, hs j hj, s, rfl⟩)
      · refine j_aload_n (pc' := 73) Cx dX5_ranked_72 rfl rfl rfl ?_
        refine j_get (pc' := 76) (N := 15) Cx dX5_ranked_73 rfl kin_X5_ranked_X5 kfl_X5_ranked_31 0 rfl rfl 13 rfl rfl rfl ?_
        refine j_sipush (pc' := 79) (v := (nI 200)) Cx dX5_ranked_76 rfl (by decide) ?_
        refine j_iload_n (pc' := 80) Cx dX5_ranked_79 rfl rfl rfl ?_
        refine j_imul_n (pc' := 81) Cx dX5_ranked_80 rfl ?_
        refine j_iload_n (pc' := 82) Cx dX5_ranked_81 rfl rfl rfl ?_
        refine j_iadd_n (pc' := 83) Cx dX5_ranked_82 rfl ?_
        refine j_daload_n (pc' := 84) Cx dX5_ranked_83 rfl 2 rfl (by omega) (by omega) ?_
        refine j_dstore (pc' := 86) (lv' := [(0, .ref m), (1, .int (nI i)), (2, .int (nI j)), (3, .int (nI k)), (4, .double (ne ((200 * i) + k)))]) Cx dX5_ranked_84 rfl (by decide) rfl ?_
        refine j_iload_n (pc' := 87) Cx dX5_ranked_86 rfl rfl rfl ?_
        refine j_istore (pc' := 89) (lv' := [(0, .ref m), (1, .int (nI i)), (2, .int (nI j)), (3, .int (nI k)), (4, .double (ne ((200 * i) + k))), (6, .int (nI k))]) Cx dX5_ranked_87 rfl (by decide) rfl ?_
        have LQ : ∀ (LQ_n : Nat), ∀ (a : Nat) (s3 : Nat → UInt64), (a < LQ_n) → (a ≤ k) → (kinsd (ne (200 * i + k)) a s3 = kinsd (ne (200 * i + k)) k s) → J X [(m, .inr (5, [.int (nI W), .int (nI H), .int (nI C), .int (nI 0), .ref o1, .ref o2, .int (nI nw), .int (nI nh), .ref go, .ref gt, .ref po, .ref pt, .ref my, .ref no, .ref so])), (my, .inl (ty 0, 8, .inl (kN cn))), (no, .inl (ty 1, 1600, .inr (.inr (.inr (.inl ne))))), (so, .inl (ty 1, 200, .inr (.inr (.inr (.inl s3)))))] [(0, .ref m), (1, .int (nI i)), (2, .int (nI j)), (3, .int (nI k)), (4, .double ((fun k => ne (200 * i + k)) k)), (6, .int (nI a))] 89 [] 0 0 := by
          intro LQ_n
          induction LQ_n with
          | zero =>
            intro a s3 hms _ _
            exact absurd hms (Nat.not_lt_zero _)
          | succ LQ_n LQ_ih =>
            intro a s3 LQ_m hla heq
            refine j_iload (pc' := 91) Cx dX5_ranked_89 rfl rfl ?_
            refine j_if_le_n (tgt := 131) (pc' := 94) Cx dX5_ranked_91 (by decide) rfl (by omega) (fun h0 => ?_) (fun h0 => ?_)
            · subst h0
              have heq2 : va_up s3 0 (ne (200 * i + k)) = kinsd (ne (200 * i + k)) k s := heq
              refine j_aload_n (pc' := 132) Cx dX5_ranked_131 rfl rfl rfl ?_
              refine j_get (pc' := 135) (N := 15) Cx dX5_ranked_132 rfl kin_X5_ranked_X5 kfl_X5_ranked_35 0 rfl rfl 14 rfl rfl rfl ?_
              refine j_iload (pc' := 137) Cx dX5_ranked_135 rfl rfl ?_
              refine j_dload (pc' := 139) Cx dX5_ranked_137 rfl rfl ?_
              refine j_dastore_n (pc' := 140) (ws' := [(m, .inr (5, [.int (nI W), .int (nI H), .int (nI C), .int (nI 0), .ref o1, .ref o2, .int (nI nw), .int (nI nh), .ref go, .ref gt, .ref po, .ref pt, .ref my, .ref no, .ref so])), (my, .inl (ty 0, 8, .inl (kN cn))), (no, .inl (ty 1, 1600, .inr (.inr (.inr (.inl ne))))), (so, .inl (ty 1, 200, .inr (.inr (.inr (.inl (va_up s3 0 ((fun k => ne (200 * i + k)) k)))))))]) Cx dX5_ranked_139 rfl 3 rfl (by omega) (by omega) rfl ?_
              refine j_iinc_n (pc' := 143) (z := 1) (a := k) (lv' := [(0, .ref m), (1, .int (nI i)), (2, .int (nI j)), (3, .int (nI (k + 1))), (4, .double ((fun k => ne (200 * i + k)) k)), (6, .int (nI 0))]) Cx dX5_ranked_140 rfl rfl (by decide) rfl ?_
              refine j_goto (tgt := 62) Cx dX5_ranked_143 (by decide) ?_
              refine J.lvs (lv' := [(0, .ref m), (1, .int (nI i)), (2, .int (nI j)), (3, .int (nI (k + 1)))]) [0, 1, 2, 3] rfl ?_
              exact LP_ih (k + 1) _ (by omega) (by omega) (fun x hx => by rw [heq2]; exact kinsd_cong hs x hx)
            · obtain ⟨q, rfl⟩ : ∃ q, a = q + 1 := ⟨a - 1, by omega⟩
              refine j_aload_n (pc' := 95) Cx dX5_ranked_94 rfl rfl rfl ?_
              refine j_get (pc' := 98) (N := 15) Cx dX5_ranked_95 rfl kin_X5_ranked_X5 kfl_X5_ranked_35 0 rfl rfl 14 rfl rfl rfl ?_
              refine j_iload (pc' := 100) Cx dX5_ranked_98 rfl rfl ?_
              refine j_iconst (pc' := 101) (v := (nI 1)) Cx dX5_ranked_100 rfl (by decide) ?_
              refine j_isub_n (pc' := 102) Cx dX5_ranked_101 rfl (Nat.le_add_left 1 q) ?_
              refine j_top (v' := .int (nI q)) (congrArg (fun z : Nat => Value.int (nI z)) (show (q + 1) - 1 = q from by omega)) ?_
              refine j_daload_n (pc' := 103) Cx dX5_ranked_102 rfl 3 rfl (by omega) (by omega) ?_
              refine j_dload (pc' := 105) Cx dX5_ranked_103 rfl rfl ?_
              refine j_dcmp (pc' := 106) Cx dX5_ranked_105 rfl ?_
              refine j_if_le (tgt := 131) (pc' := 109) Cx dX5_ranked_106 (by decide) rfl (fun hc => ?_) (fun hc => ?_)
              · have e : kGt (s3 q) (ne (200 * i + k)) = false := decide_eq_false (fun hh => absurd hc (Int32.not_le.mpr hh))
                have heq2 : va_up s3 (q + 1) (ne (200 * i + k)) = kinsd (ne (200 * i + k)) k s := by rw [← heq]; show _ = (if kGt (s3 q) (ne (200 * i + k)) then _ else _); rw [e]; rfl
                refine j_aload_n (pc' := 132) Cx dX5_ranked_131 rfl rfl rfl ?_
                refine j_get (pc' := 135) (N := 15) Cx dX5_ranked_132 rfl kin_X5_ranked_X5 kfl_X5_ranked_35 0 rfl rfl 14 rfl rfl rfl ?_
                refine j_iload (pc' := 137) Cx dX5_ranked_135 rfl rfl ?_
                refine j_dload (pc' := 139) Cx dX5_ranked_137 rfl rfl ?_
                refine j_dastore_n (pc' := 140) (ws' := [(m, .inr (5, [.int (nI W), .int (nI H), .int (nI C), .int (nI 0), .ref o1, .ref o2, .int (nI nw), .int (nI nh), .ref go, .ref gt, .ref po, .ref pt, .ref my, .ref no, .ref so])), (my, .inl (ty 0, 8, .inl (kN cn))), (no, .inl (ty 1, 1600, .inr (.inr (.inr (.inl ne))))), (so, .inl (ty 1, 200, .inr (.inr (.inr (.inl (va_up s3 (q + 1) ((fun k => ne (200 * i + k)) k)))))))]) Cx dX5_ranked_139 rfl 3 rfl (by omega) (by omega) rfl ?_
                refine j_iinc_n (pc' := 143) (z := 1) (a := k) (lv' := [(0, .ref m), (1, .int (nI i)), (2, .int (nI j)), (3, .int (nI (k + 1))), (4, .double ((fun k => ne (200 * i + k)) k)), (6, .int (nI (q + 1)))]) Cx dX5_ranked_140 rfl rfl (by decide) rfl ?_
                refine j_goto (tgt := 62) Cx dX5_ranked_143 (by decide) ?_
                refine J.lvs (lv' := [(0, .ref m), (1, .int (nI i)), (2, .int (nI j)), (3, .int (nI (k + 1)))]) [0, 1, 2, 3] rfl ?_
                exact LP_ih (k + 1) _ (by omega) (by omega) (fun x hx => by rw [heq2]; exact kinsd_cong hs x hx)
              · have e : kGt (s3 q) (ne (200 * i + k)) = true := decide_eq_true (Int32.not_le.mp hc)
                have heq2 : kinsd (ne (200 * i + k)) q (va_up s3 (q + 1) (s3 q)) = kinsd (ne (200 * i + k)) k s := by rw [← heq]; show _ = (if kGt (s3 q) (ne (200 * i + k)) then _ else _); rw [e]; rfl
                refine j_aload_n (pc' := 110) Cx dX5_ranked_109 rfl rfl rfl ?_
                refine j_get (pc' := 113) (N := 15) Cx dX5_ranked_110 rfl kin_X5_ranked_X5 kfl_X5_ranked_35 0 rfl rfl 14 rfl rfl rfl ?_
                refine j_iload (pc' := 115) Cx dX5_ranked_113 rfl rfl ?_
                refine j_aload_n (pc' := 116) Cx dX5_ranked_115 rfl rfl rfl ?_
                refine j_get (pc' := 119) (N := 15) Cx dX5_ranked_116 rfl kin_X5_ranked_X5 kfl_X5_ranked_35 0 rfl rfl 14 rfl rfl rfl ?_
                refine j_iload (pc' := 121) Cx dX5_ranked_119 rfl rfl ?_
                refine j_iconst (pc' := 122) (v := (nI 1)) Cx dX5_ranked_121 rfl (by decide) ?_
                refine j_isub_n (pc' := 123) Cx dX5_ranked_122 rfl (Nat.le_add_left 1 q) ?_
                refine j_top (v' := .int (nI q)) (congrArg (fun z : Nat => Value.int (nI z)) (show (q + 1) - 1 = q from by omega)) ?_
                refine j_daload_n (pc' := 124) Cx dX5_ranked_123 rfl 3 rfl (by omega) (by omega) ?_
                refine j_dastore_n (pc' := 125) (ws' := [(m, .inr (5, [.int (nI W), .int (nI H), .int (nI C), .int (nI 0), .ref o1, .ref o2, .int (nI nw), .int (nI nh), .ref go, .ref gt, .ref po, .ref pt, .ref my, .ref no, .ref so])), (my, .inl (ty 0, 8, .inl (kN cn))), (no, .inl (ty 1, 1600, .inr (.inr (.inr (.inl ne))))), (so, .inl (ty 1, 200, .inr (.inr (.inr (.inl (va_up s3 (q + 1) (s3 q)))))))]) Cx dX5_ranked_124 rfl 3 rfl (by omega) (by omega) rfl ?_
                refine j_iinc (pc' := 128) (lv' := [(0, .ref m), (1, .int (nI i)), (2, .int (nI j)), (3, .int (nI k)), (4, .double ((fun k => ne (200 * i + k)) k)), (6, .int (nI q))]) Cx dX5_ranked_125 rfl rfl (pk_m1 q) (by decide) rfl ?_
                refine j_goto (tgt := 89) Cx dX5_ranked_128 (by decide) ?_
                exact LQ_ih q (va_up s3 (q + 1) (s3 q)) (by omega) (by omega) heq2
        exact LQ (k + 1) k s (by omega) (Nat.le_refl k) rfl
  exact LP (cn i + 1) 0 se (by omega) (Nat.zero_le _) (fun x hx => absurd hx (Nat.not_lt_zero x))

set_option maxHeartbeats 4000000 in
set_option maxRecDepth 100000 in
theorem c_X5_ranked_1 (l : Launch) (D : va_G) (ty : Nat → ClassId) (m o1 o2 go gt po pt my no so W H C : Nat) (nw nh : Nat) (fa : Int32) (cn : Nat → Nat) (ne : Nat → UInt64) (hcn : ∀ i, cn i ≤ 200) (x y : Int32) (hno : ¬ ∃ i j : Nat, i < 8 ∧ x = nI i ∧ j < cn i ∧ y = nI j) : KM l yX5_ranked wsX5_ranked { frames := 1, cells := 0, slots := 0, locals := 40 } D ty [.ref m, .int (x), .int (y)] [(m, .inr (5, [.int (nI W), .int (nI H), .int (nI C), .int (fa), .ref o1, .ref o2, .int (nI nw), .int (nI nh), .ref go, .ref gt, .ref po, .ref pt, .ref my, .ref no, .ref so])), (my, .inl (ty 0, 8, .inl (kN cn)))] (kF (fun r u => r = 0 ∧ u = [(m, .inr (5, [.int (nI W), .int (nI H), .int (nI C), .int (nI 1), .ref o1, .ref o2, .int (nI nw), .int (nI nh), .ref go, .ref gt, .ref po, .ref pt, .ref my, .ref no, .ref so])), (my, .inl (ty 0, 8, .inl (kN cn)))])) 0 0 := by
  refine KM.of (cc := cX5_ranked) (maxL := 7) (ret := (some .double)) (lv := [(0, .ref m), (1, .int (x)), (2, .int (y))]) (by decide +kernel) rfl rfl rfl (fun X C0 R0 => ?_)
  have Cx : kC X cX5_ranked wsX5_ranked RX5 { frames := 1, cells := 0, slots := 0, locals := 40 } "ranked" l D ty 7 := C0
  by_cases hx : kok x 8
  · obtain ⟨i, hi, rfl⟩ := hx
    have h200 := hcn i
    refine j_aload_n (pc' := 1) Cx dX5_ranked_0 rfl rfl rfl ?_
    refine j_iload_n (pc' := 2) Cx dX5_ranked_1 rfl rfl rfl ?_
    refine j_iconst (pc' := 3) (v := (nI 0)) Cx dX5_ranked_2 rfl (by decide) ?_
    refine j_bipush (pc' := 5) (v := (nI 7)) Cx dX5_ranked_3 rfl (by decide) ?_
    refine j_callS (pc' := 8) (wr := [(m, .inr (5, [.int (nI W), .int (nI H), .int (nI C), .int (fa), .ref o1, .ref o2, .int (nI nw), .int (nI nh), .ref go, .ref gt, .ref po, .ref pt, .ref my, .ref no, .ref so])), (my, .inl (ty 0, 8, .inl (kN cn)))]) (st := [.ref m]) Cx dX5_ranked_5 rfl (c_X5_in l D ty i 0 7 (Nat.zero_le _) (by omega) (by decide)) gX5_ranked_X5_in rfl khd_X5_in rfl ⟨rfl, rfl, Nat.le_of_ble_eq_true rfl, Nat.le_of_ble_eq_true rfl⟩ [] [0, 1] rfl rfl ⟨rfl, rfl⟩ (by decide) rfl (Nat.le_of_ble_eq_true rfl) ⟨Nat.le_of_ble_eq_true rfl, Nat.le_of_ble_eq_true rfl⟩ (fun v u hpost => ?_)
    obtain ⟨r, rfl, rfl, rfl⟩ := hpost
    show J X [(m, .inr (5, [.int (nI W), .int (nI H), .int (nI C), .int (fa), .ref o1, .ref o2, .int (nI nw), .int (nI nh), .ref go, .ref gt, .ref po, .ref pt, .ref my, .ref no, .ref so])), (my, .inl (ty 0, 8, .inl (kN cn)))] [(0, .ref m), (1, .int (nI i)), (2, .int (y))] 8 [.int (nI 1), .ref m] 0 0
    refine j_if_eq_n (tgt := 15) (pc' := 11) Cx dX5_ranked_8 (by decide) rfl (by omega) (fun hh => absurd hh (by decide)) (fun _ => ?_)
    refine j_iconst (pc' := 12) (v := (nI 0)) Cx dX5_ranked_11 rfl (by decide) ?_
    refine j_goto (tgt := 16) Cx dX5_ranked_12 (by decide) ?_
    refine j_put (pc' := 19) (N := 15) (t := .int) (ws' := [(m, .inr (5, [.int (nI W), .int (nI H), .int (nI C), .int (nI 0), .ref o1, .ref o2, .int (nI nw), .int (nI nh), .ref go, .ref gt, .ref po, .ref pt, .ref my, .ref no, .ref so])), (my, .inl (ty 0, 8, .inl (kN cn)))]) Cx dX5_ranked_16 rfl kin_X5_ranked_X5 kfl_X5_ranked_48 tyX5_ok nmX5 0 rfl rfl 3 rfl rfl rfl rfl rfl rfl rfl ?_
    refine j_aload_n (pc' := 20) Cx dX5_ranked_19 rfl rfl rfl ?_
    refine j_get (pc' := 23) (N := 15) Cx dX5_ranked_20 rfl kin_X5_ranked_X5 kfl_X5_ranked_48 0 rfl rfl 3 rfl rfl rfl ?_
    refine j_if_ne_n (tgt := 51) (pc' := 26) Cx dX5_ranked_23 (by decide) rfl (by omega) (fun hh => absurd hh (not_not_intro rfl)) (fun _ => ?_)
    refine j_aload_n (pc' := 27) Cx dX5_ranked_26 rfl rfl rfl ?_
    refine j_iload_n (pc' := 28) Cx dX5_ranked_27 rfl rfl rfl ?_
    refine j_iconst (pc' := 29) (v := (nI 0)) Cx dX5_ranked_28 rfl (by decide) ?_
    refine j_aload_n (pc' := 30) Cx dX5_ranked_29 rfl rfl rfl ?_
    refine j_get (pc' := 33) (N := 15) Cx dX5_ranked_30 rfl kin_X5_ranked_X5 kfl_X5_ranked_28 0 rfl rfl 12 rfl rfl rfl ?_
    refine j_iload_n (pc' := 34) Cx dX5_ranked_33 rfl rfl rfl ?_
    refine j_iaload_nn (pc' := 35) Cx dX5_ranked_34 rfl 1 rfl (by omega) (by omega) ?_
    refine j_iconst (pc' := 36) (v := (nI 1)) Cx dX5_ranked_35 rfl (by decide) ?_
    refine j_isub (pc' := 37) Cx dX5_ranked_36 rfl ?_
    have hin : y < nI 0 ∨ nI (cn i) - nI 1 < y := k_rank_out h200 (fun ⟨j, hj, e⟩ => hno ⟨i, j, hi, rfl, hj, e⟩)
    refine j_callS (pc' := 40) (wr := [(m, .inr (5, [.int (nI W), .int (nI H), .int (nI C), .int (nI 0), .ref o1, .ref o2, .int (nI nw), .int (nI nh), .ref go, .ref gt, .ref po, .ref pt, .ref my, .ref no, .ref so])), (my, .inl (ty 0, 8, .inl (kN cn)))]) (st := [.ref m]) Cx dX5_ranked_37 rfl (c_X5_in_no l D ty y (nI 0) (nI (cn i) - nI 1) hin) gX5_ranked_X5_in rfl khd_X5_in rfl ⟨rfl, rfl, Nat.le_of_ble_eq_true rfl, Nat.le_of_ble_eq_true rfl⟩ [] [0, 1] rfl rfl ⟨rfl, rfl⟩ (by decide) rfl (Nat.le_of_ble_eq_true rfl) ⟨Nat.le_of_ble_eq_true rfl, Nat.le_of_ble_eq_true rfl⟩ (fun v u hpost => ?_)
    obtain ⟨r, rfl, rfl, rfl⟩ := hpost
    show J X [(m, .inr (5, [.int (nI W), .int (nI H), .int (nI C), .int (nI 0), .ref o1, .ref o2, .int (nI nw), .int (nI nh), .ref go, .ref gt, .ref po, .ref pt, .ref my, .ref no, .ref so])), (my, .inl (ty 0, 8, .inl (kN cn)))] [(0, .ref m), (1, .int (nI i)), (2, .int (y))] 40 [.int (nI 0), .ref m] 0 0
    refine j_if_eq_n (tgt := 47) (pc' := 43) Cx dX5_ranked_40 (by decide) rfl (by omega) (fun _ => ?_) (fun hh => absurd hh (by decide))
    refine j_iconst (pc' := 48) (v := (nI 1)) Cx dX5_ranked_47 rfl (by decide) ?_
    refine j_put (pc' := 51) (N := 15) (t := .int) (ws' := [(m, .inr (5, [.int (nI W), .int (nI H), .int (nI C), .int (nI 1), .ref o1, .ref o2, .int (nI nw), .int (nI nh), .ref go, .ref gt, .ref po, .ref pt, .ref my, .ref no, .ref so])), (my, .inl (ty 0, 8, .inl (kN cn)))]) Cx dX5_ranked_48 rfl kin_X5_ranked_X5 kfl_X5_ranked_48 tyX5_ok nmX5 0 rfl rfl 3 rfl rfl rfl rfl rfl rfl rfl ?_
    refine j_aload_n (pc' := 52) Cx dX5_ranked_51 rfl rfl rfl ?_
    refine j_get (pc' := 55) (N := 15) Cx dX5_ranked_52 rfl kin_X5_ranked_X5 kfl_X5_ranked_48 0 rfl rfl 3 rfl rfl rfl ?_
    refine j_if_le_n (tgt := 60) (pc' := 58) Cx dX5_ranked_55 (by decide) rfl (by omega) (fun hh => absurd hh (by decide)) (fun _ => ?_)
    refine j_dconst0 (pc' := 59) Cx dX5_ranked_58 rfl ?_
    exact j_dret Cx dX5_ranked_59 R0 ⟨Nat.le_of_ble_eq_true rfl, Nat.le_of_ble_eq_true rfl⟩ (⟨_, rfl, rfl, rfl⟩)
  · rcases pk_ix x (n := 8) (by decide) with hs | hs | hs
    · refine j_aload_n (pc' := 1) Cx dX5_ranked_0 rfl rfl rfl ?_
      refine j_iload_n (pc' := 2) Cx dX5_ranked_1 rfl rfl rfl ?_
      refine j_iconst (pc' := 3) (v := (nI 0)) Cx dX5_ranked_2 rfl (by decide) ?_
      refine j_bipush (pc' := 5) (v := (nI 7)) Cx dX5_ranked_3 rfl (by decide) ?_
      refine j_callS (pc' := 8) (wr := [(m, .inr (5, [.int (nI W), .int (nI H), .int (nI C), .int (fa), .ref o1, .ref o2, .int (nI nw), .int (nI nh), .ref go, .ref gt, .ref po, .ref pt, .ref my, .ref no, .ref so])), (my, .inl (ty 0, 8, .inl (kN cn)))]) (st := [.ref m]) Cx dX5_ranked_5 rfl (c_X5_in_no l D ty x (nI 0) (nI 7) (Or.inl (show x < nI 0 from hs))) gX5_ranked_X5_in rfl khd_X5_in rfl ⟨rfl, rfl, Nat.le_of_ble_eq_true rfl, Nat.le_of_ble_eq_true rfl⟩ [] [0, 1] rfl rfl ⟨rfl, rfl⟩ (by decide) rfl (Nat.le_of_ble_eq_true rfl) ⟨Nat.le_of_ble_eq_true rfl, Nat.le_of_ble_eq_true rfl⟩ (fun v u hpost => ?_)
      obtain ⟨r, rfl, rfl, rfl⟩ := hpost
      show J X [(m, .inr (5, [.int (nI W), .int (nI H), .int (nI C), .int (fa), .ref o1, .ref o2, .int (nI nw), .int (nI nh), .ref go, .ref gt, .ref po, .ref pt, .ref my, .ref no, .ref so])), (my, .inl (ty 0, 8, .inl (kN cn)))] [(0, .ref m), (1, .int (x)), (2, .int (y))] 8 [.int (nI 0), .ref m] 0 0
      refine j_if_eq_n (tgt := 15) (pc' := 11) Cx dX5_ranked_8 (by decide) rfl (by omega) (fun _ => ?_) (fun hh => absurd hh (by decide))
      refine j_iconst (pc' := 16) (v := (nI 1)) Cx dX5_ranked_15 rfl (by decide) ?_
      refine j_put (pc' := 19) (N := 15) (t := .int) (ws' := [(m, .inr (5, [.int (nI W), .int (nI H), .int (nI C), .int (nI 1), .ref o1, .ref o2, .int (nI nw), .int (nI nh), .ref go, .ref gt, .ref po, .ref pt, .ref my, .ref no, .ref so])), (my, .inl (ty 0, 8, .inl (kN cn)))]) Cx dX5_ranked_16 rfl kin_X5_ranked_X5 kfl_X5_ranked_48 tyX5_ok nmX5 0 rfl rfl 3 rfl rfl rfl rfl rfl rfl rfl ?_
      refine j_aload_n (pc' := 20) Cx dX5_ranked_19 rfl rfl rfl ?_
      refine j_get (pc' := 23) (N := 15) Cx dX5_ranked_20 rfl kin_X5_ranked_X5 kfl_X5_ranked_48 0 rfl rfl 3 rfl rfl rfl ?_
      refine j_if_ne_n (tgt := 51) (pc' := 26) Cx dX5_ranked_23 (by decide) rfl (by omega) (fun _ => ?_) (fun hh => absurd hh (by decide))
      refine j_aload_n (pc' := 52) Cx dX5_ranked_51 rfl rfl rfl ?_
      refine j_get (pc' := 55) (N := 15) Cx dX5_ranked_52 rfl kin_X5_ranked_X5 kfl_X5_ranked_48 0 rfl rfl 3 rfl rfl rfl ?_
      refine j_if_le_n (tgt := 60) (pc' := 58) Cx dX5_ranked_55 (by decide) rfl (by omega) (fun hh => absurd hh (by decide)) (fun _ => ?_)
      refine j_dconst0 (pc' := 59) Cx dX5_ranked_58 rfl ?_
      exact j_dret Cx dX5_ranked_59 R0 ⟨Nat.le_of_ble_eq_true rfl, Nat.le_of_ble_eq_true rfl⟩ (⟨_, rfl, rfl, rfl⟩)
    · refine j_aload_n (pc' := 1) Cx dX5_ranked_0 rfl rfl rfl ?_
      refine j_iload_n (pc' := 2) Cx dX5_ranked_1 rfl rfl rfl ?_
      refine j_iconst (pc' := 3) (v := (nI 0)) Cx dX5_ranked_2 rfl (by decide) ?_
      refine j_bipush (pc' := 5) (v := (nI 7)) Cx dX5_ranked_3 rfl (by decide) ?_
      refine j_callS (pc' := 8) (wr := [(m, .inr (5, [.int (nI W), .int (nI H), .int (nI C), .int (fa), .ref o1, .ref o2, .int (nI nw), .int (nI nh), .ref go, .ref gt, .ref po, .ref pt, .ref my, .ref no, .ref so])), (my, .inl (ty 0, 8, .inl (kN cn)))]) (st := [.ref m]) Cx dX5_ranked_5 rfl (c_X5_in_no l D ty x (nI 0) (nI 7) (Or.inr (k_pred (n := 8) (by decide) (by decide) hs))) gX5_ranked_X5_in rfl khd_X5_in rfl ⟨rfl, rfl, Nat.le_of_ble_eq_true rfl, Nat.le_of_ble_eq_true rfl⟩ [] [0, 1] rfl rfl ⟨rfl, rfl⟩ (by decide) rfl (Nat.le_of_ble_eq_true rfl) ⟨Nat.le_of_ble_eq_true rfl, Nat.le_of_ble_eq_true rfl⟩ (fun v u hpost => ?_)
      obtain ⟨r, rfl, rfl, rfl⟩ := hpost
      show J X [(m, .inr (5, [.int (nI W), .int (nI H), .int (nI C), .int (fa), .ref o1, .ref o2, .int (nI nw), .int (nI nh), .ref go, .ref gt, .ref po, .ref pt, .ref my, .ref no, .ref so])), (my, .inl (ty 0, 8, .inl (kN cn)))] [(0, .ref m), (1, .int (x)), (2, .int (y))] 8 [.int (nI 0), .ref m] 0 0
      refine j_if_eq_n (tgt := 15) (pc' := 11) Cx dX5_ranked_8 (by decide) rfl (by omega) (fun _ => ?_) (fun hh => absurd hh (by decide))
      refine j_iconst (pc' := 16) (v := (nI 1)) Cx dX5_ranked_15 rfl (by decide) ?_
      refine j_put (pc' := 19) (N := 15) (t := .int) (ws' := [(m, .inr (5, [.int (nI W), .int (nI H), .int (nI C), .int (nI 1), .ref o1, .ref o2, .int (nI nw), .int (nI nh), .ref go, .ref gt, .ref po, .ref pt, .ref my, .ref no, .ref so])), (my, .inl (ty 0, 8, .inl (kN cn)))]) Cx dX5_ranked_16 rfl kin_X5_ranked_X5 kfl_X5_ranked_48 tyX5_ok nmX5 0 rfl rfl 3 rfl rfl rfl rfl rfl rfl rfl ?_
      refine j_aload_n (pc' := 20) Cx dX5_ranked_19 rfl rfl rfl ?_
      refine j_get (pc' := 23) (N := 15) Cx dX5_ranked_20 rfl kin_X5_ranked_X5 kfl_X5_ranked_48 0 rfl rfl 3 rfl rfl rfl ?_
      refine j_if_ne_n (tgt := 51) (pc' := 26) Cx dX5_ranked_23 (by decide) rfl (by omega) (fun _ => ?_) (fun hh => absurd hh (by decide))
      refine j_aload_n (pc' := 52) Cx dX5_ranked_51 rfl rfl rfl ?_
      refine j_get (pc' := 55) (N := 15) Cx dX5_ranked_52 rfl kin_X5_ranked_X5 kfl_X5_ranked_48 0 rfl rfl 3 rfl rfl rfl ?_
      refine j_if_le_n (tgt := 60) (pc' := 58) Cx dX5_ranked_55 (by decide) rfl (by omega) (fun hh => absurd hh (by decide)) (fun _ => ?_)
      refine j_dconst0 (pc' := 59) Cx dX5_ranked_58 rfl ?_
      exact j_dret Cx dX5_ranked_59 R0 ⟨Nat.le_of_ble_eq_true rfl, Nat.le_of_ble_eq_true rfl⟩ (⟨_, rfl, rfl, rfl⟩)
    · exact absurd hs hx

set_option maxHeartbeats 4000000 in
set_option maxRecDepth 100000 in
/-- wins, of the other one -/
theorem c_X5_wins_ok (l : Launch) (D : va_G) (ty : Nat → ClassId) (m o1 o2 go gt po pt my no so W H C : Nat) (nw nh : Nat) (fa : Int32) (cn : Nat → Nat) (ne : Nat → UInt64) (hcn : ∀ i, cn i ≤ 200) (i j : Nat) (hi : i < 8) (hj : j < 8) : KM l yX5_wins wsX5_wins { frames := 1, cells := 0, slots := 0, locals := 40 } D ty [.ref m, .int (nI i), .int (nI j)] [(m, .inr (5, [.int (nI W), .int (nI H), .int (nI C), .int (fa), .ref o1, .ref o2, .int (nI nw), .int (nI nh), .ref go, .ref gt, .ref po, .ref pt, .ref my, .ref no, .ref so])), (my, .inl (ty 0, 8, .inl (kN cn))), (no, .inl (ty 1, 1600, .inr (.inr (.inr (.inl ne)))))] (kI (fun r u => r = kwin (fun k => ne (200 * i + k)) (fun k => ne (200 * j + k)) (if cn j < cn i then cn j else cn i) ∧ u = [(m, .inr (5, [.int (nI W), .int (nI H), .int (nI C), .int (nI 0), .ref o1, .ref o2, .int (nI nw), .int (nI nh), .ref go, .ref gt, .ref po, .ref pt, .ref my, .ref no, .ref so])), (my, .inl (ty 0, 8, .inl (kN cn))), (no, .inl (ty 1, 1600, .inr (.inr (.inr (.inl ne)))))])) 0 0 := by
  refine KM.of (cc := cX5_wins) (maxL := 9) (ret := (some .int)) (lv := [(0, .ref m), (1, .int (nI i)), (2, .int (nI j))]) (by decide +kernel) rfl rfl rfl (fun X C0 R0 => ?_)
  have Cx : kC X cX5_wins wsX5_wins RX5 { frames := 1, cells := 0, slots := 0, locals := 40 } "wins" l D ty 9 := C0
  have h2i := hcn i
  have h2j := hcn j
  have hb1 : (if cn j < cn i then cn j else cn i) ≤ cn i := by split <;> omega
  have hb2 : (if cn j < cn i then cn j else cn i) ≤ cn j := by split <;> omega
  refine j_aload_n (pc' := 1) Cx dX5_wins_0 rfl rfl rfl ?_
  refine j_iload_n (pc' := 2) Cx dX5_wins_1 rfl rfl rfl ?_
  refine j_iconst (pc' := 3) (v := (nI 0)) Cx dX5_wins_2 rfl (by decide) ?_
  refine j_bipush (pc' := 5) (v := (nI 7)) Cx dX5_wins_3 rfl (by decide) ?_
  refine j_callS (pc' := 8) (wr := [(m, .inr (5, [.int (nI W), .int (nI H), .int (nI C), .int (fa), .ref o1, .ref o2, .int (nI nw), .int (nI nh), .ref go, .ref gt, .ref po, .ref pt, .ref my, .ref no, .ref so])), (my, .inl (ty 0, 8, .inl (kN cn))), (no, .inl (ty 1, 1600, .inr (.inr (.inr (.inl ne)))))]) (st := [.ref m]) Cx dX5_wins_5 rfl (c_X5_in l D ty i 0 7 (Nat.zero_le _) (by omega) (by decide)) gX5_wins_X5_in rfl khd_X5_in rfl ⟨rfl, rfl, Nat.le_of_ble_eq_true rfl, Nat.le_of_ble_eq_true rfl⟩ [] [0, 1, 2] rfl rfl ⟨rfl, rfl⟩ (by decide) rfl (Nat.le_of_ble_eq_true rfl) ⟨Nat.le_of_ble_eq_true rfl, Nat.le_of_ble_eq_true rfl⟩ (fun v u hpost => ?_)
  obtain ⟨r, rfl, rfl, rfl⟩ := hpost
  show J X [(m, .inr (5, [.int (nI W), .int (nI H), .int (nI C), .int (fa), .ref o1, .ref o2, .int (nI nw), .int (nI nh), .ref go, .ref gt, .ref po, .ref pt, .ref my, .ref no, .ref so])), (my, .inl (ty 0, 8, .inl (kN cn))), (no, .inl (ty 1, 1600, .inr (.inr (.inr (.inl ne)))))] [(0, .ref m), (1, .int (nI i)), (2, .int (nI j))] 8 [.int (nI 1), .ref m] 0 0
  refine j_if_eq_n (tgt := 25) (pc' := 11) Cx dX5_wins_8 (by decide) rfl (by omega) (fun hh => absurd hh (by decide)) (fun _ => ?_)
  refine j_iload_n (pc' := 12) Cx dX5_wins_11 rfl rfl rfl ?_
  refine j_iconst (pc' := 13) (v := (nI 0)) Cx dX5_wins_12 rfl (by decide) ?_
  refine j_bipush (pc' := 15) (v := (nI 7)) Cx dX5_wins_13 rfl (by decide) ?_
  refine j_callS (pc' := 18) (wr := [(m, .inr (5, [.int (nI W), .int (nI H), .int (nI C), .int (fa), .ref o1, .ref o2, .int (nI nw), .int (nI nh), .ref go, .ref gt, .ref po, .ref pt, .ref my, .ref no, .ref so])), (my, .inl (ty 0, 8, .inl (kN cn))), (no, .inl (ty 1, 1600, .inr (.inr (.inr (.inl ne)))))]) (st := [.ref m]) Cx dX5_wins_15 rfl (c_X5_in l D ty j 0 7 (Nat.zero_le _) (by omega) (by decide)) gX5_wins_X5_in rfl khd_X5_in rfl ⟨rfl, rfl, Nat.le_of_ble_eq_true rfl, Nat.le_of_ble_eq_true rfl⟩ [] [0, 1, 2] rfl rfl ⟨rfl, rfl⟩ (by decide) rfl (Nat.le_of_ble_eq_true rfl) ⟨Nat.le_of_ble_eq_true rfl, Nat.le_of_ble_eq_true rfl⟩ (fun v u hpost => ?_)
  obtain ⟨r, rfl, rfl, rfl⟩ := hpost
  show J X [(m, .inr (5, [.int (nI W), .int (nI H), .int (nI C), .int (fa), .ref o1, .ref o2, .int (nI nw), .int (nI nh), .ref go, .ref gt, .ref po, .ref pt, .ref my, .ref no, .ref so])), (my, .inl (ty 0, 8, .inl (kN cn))), (no, .inl (ty 1, 1600, .inr (.inr (.inr (.inl ne)))))] [(0, .ref m), (1, .int (nI i)), (2, .int (nI j))] 18 [.int (nI 1), .ref m] 0 0
  refine j_if_eq_n (tgt := 25) (pc' := 21) Cx dX5_wins_18 (by decide) rfl (by omega) (fun hh => absurd hh (by decide)) (fun _ => ?_)
  refine j_iconst (pc' := 22) (v := (nI 0)) Cx dX5_wins_21 rfl (by decide) ?_
  refine j_goto (tgt := 26) Cx dX5_wins_22 (by decide) ?_
  refine j_put (pc' := 29) (N := 15) (t := .int) (ws' := [(m, .inr (5, [.int (nI W), .int (nI H), .int (nI C), .int (nI 0), .ref o1, .ref o2, .int (nI nw), .int (nI nh), .ref go, .ref gt, .ref po, .ref pt, .ref my, .ref no, .ref so])), (my, .inl (ty 0, 8, .inl (kN cn))), (no, .inl (ty 1, 1600, .inr (.inr (.inr (.inl ne)))))]) Cx dX5_wins_26 rfl kin_X5_wins_X5 kfl_X5_wins_48 tyX5_ok nmX5 0 rfl rfl 3 rfl rfl rfl rfl rfl rfl rfl ?_
  refine j_iconst (pc' := 30) (v := (nI 0)) Cx dX5_wins_29 rfl (by decide) ?_
  refine j_istore_n (pc' := 31) (lv' := [(0, .ref m), (1, .int (nI i)), (2, .int (nI j)), (3, .int (nI 0))]) Cx dX5_wins_30 rfl rfl (by decide) rfl ?_
  refine j_iconst (pc' := 32) (v := (nI 0)) Cx dX5_wins_31 rfl (by decide) ?_
  refine j_istore (pc' := 34) (lv' := [(0, .ref m), (1, .int (nI i)), (2, .int (nI j)), (3, .int (nI 0)), (4, .int (nI 0))]) Cx dX5_wins_32 rfl (by decide) rfl ?_
  have LP : ∀ (LP_n : Nat), ∀ (k : Nat), (200 - k < LP_n) → (k ≤ (if cn j < cn i then cn j else cn i)) → J X [(m, .inr (5, [.int (nI W), .int (nI H), .int (nI C), .int (nI 0), .ref o1, .ref o2, .int (nI nw), .int (nI nh), .ref go, .ref gt, .ref po, .ref pt, .ref my, .ref no, .ref so])), (my, .inl (ty 0, 8, .inl (kN cn))), (no, .inl (ty 1, 1600, .inr (.inr (.inr (.inl ne)))))] [(0, .ref m), (1, .int (nI i)), (2, .int (nI j)), (3, .int (kwin (fun k => ne (200 * i + k)) (fun k => ne (200 * j + k)) k)), (4, .int (nI k))] 34 [] 0 0 := by
    intro LP_n
    induction LP_n with
    | zero =>
      intro k hms _
      exact absurd hms (Nat.not_lt_zero _)
    | succ LP_n LP_ih =>
      intro k LP_m hle
      refine j_aload_n (pc' := 35) Cx dX5_wins_34 rfl rfl rfl ?_
      refine j_get (pc' := 38) (N := 15) Cx dX5_wins_35 rfl kin_X5_wins_X5 kfl_X5_wins_48 0 rfl rfl 3 rfl rfl rfl ?_
      refine j_if_ne_n (tgt := 127) (pc' := 41) Cx dX5_wins_38 (by decide) rfl (by omega) (fun hh => absurd hh (not_not_intro rfl)) (fun _ => ?_)
      refine j_iload (pc' := 43) Cx dX5_wins_41 rfl rfl ?_
      refine j_aload_n (pc' := 44) Cx dX5_wins_43 rfl rfl rfl ?_
      refine j_get (pc' := 47) (N := 15) Cx dX5_wins_44 rfl kin_X5_wins_X5 kfl_X5_wins_28 0 rfl rfl 12 rfl rfl rfl ?_
      refine j_iload_n (pc' := 48) Cx dX5_wins_47 rfl rfl rfl ?_
      refine j_iaload_nn (pc' := 49) Cx dX5_wins_48 rfl 1 rfl (by omega) (by omega) ?_
      refine j_icmp_ge_n (tgt := 127) (pc' := 52) Cx dX5_wins_49 (by decide) rfl (by omega) (by omega) (fun hk => ?_) (fun hk => ?_)
      · have e : k = (if cn j < cn i then cn j else cn i) := by split <;> omega
        rw [← e] at R0
        refine j_iload_n (pc' := 128) Cx dX5_wins_127 rfl rfl rfl ?_
        exact j_iret Cx dX5_wins_128 R0 ⟨Nat.le_of_ble_eq_true rfl, Nat.le_of_ble_eq_true rfl⟩ (⟨_, rfl, rfl, rfl⟩)
      · refine j_iload (pc' := 54) Cx dX5_wins_52 rfl rfl ?_
        refine j_aload_n (pc' := 55) Cx dX5_wins_54 rfl rfl rfl ?_
        refine j_get (pc' := 58) (N := 15) Cx dX5_wins_55 rfl kin_X5_wins_X5 kfl_X5_wins_28 0 rfl rfl 12 rfl rfl rfl ?_
        refine j_iload_n (pc' := 59) Cx dX5_wins_58 rfl rfl rfl ?_
        refine j_iaload_nn (pc' := 60) Cx dX5_wins_59 rfl 1 rfl (by omega) (by omega) ?_
        refine j_icmp_ge_n (tgt := 127) (pc' := 63) Cx dX5_wins_60 (by decide) rfl (by omega) (by omega) (fun hk2 => ?_) (fun hk2 => ?_)
        · have e : k = (if cn j < cn i then cn j else cn i) := by split <;> omega
          rw [← e] at R0
          refine j_iload_n (pc' := 128) Cx dX5_wins_127 rfl rfl rfl ?_
          exact j_iret Cx dX5_wins_128 R0 ⟨Nat.le_of_ble_eq_true rfl, Nat.le_of_ble_eq_true rfl⟩ (⟨_, rfl, rfl, rfl⟩)
        · refine j_aload_n (pc' := 64) Cx dX5_wins_63 rfl rfl rfl ?_
          refine j_get (pc' := 67) (N := 15) Cx dX5_wins_64 rfl kin_X5_wins_X5 kfl_X5_wins_31 0 rfl rfl 13 rfl rfl rfl ?_
          refine j_sipush (pc' := 70) (v := (nI 200)) Cx dX5_wins_67 rfl (by decide) ?_
          refine j_iload_n (pc' := 71) Cx dX5_wins_70 rfl rfl rfl ?_
          refine j_imul_n (pc' := 72) Cx dX5_wins_71 rfl ?_
          refine j_iload (pc' := 74) Cx dX5_wins_72 rfl rfl ?_
          refine j_iadd_n (pc' := 75) Cx dX5_wins_74 rfl ?_
          refine j_daload_n (pc' := 76) Cx dX5_wins_75 rfl 2 rfl (by omega) (by omega) ?_
          refine j_dstore (pc' := 78) (lv' := [(0, .ref m), (1, .int (nI i)), (2, .int (nI j)), (3, .int (kwin (fun k => ne (200 * i + k)) (fun k => ne (200 * j + k)) k)), (4, .int (nI k)), (5, .double (ne ((200 * i) + k)))]) Cx dX5_wins_76 rfl (by decide) rfl ?_
          refine j_aload_n (pc' := 79) Cx dX5_wins_78 rfl rfl rfl ?_
          refine j_get (pc' := 82) (N := 15) Cx dX5_wins_79 rfl kin_X5_wins_X5 kfl_X5_wins_31 0 rfl rfl 13 rfl rfl rfl ?_
          refine j_sipush (pc' := 85) (v := (nI 200)) Cx dX5_wins_82 rfl (by decide) ?_
          refine j_iload_n (pc' := 86) Cx dX5_wins_85 rfl rfl rfl ?_
          refine j_imul_n (pc' := 87) Cx dX5_wins_86 rfl ?_
          refine j_iload (pc' := 89) Cx dX5_wins_87 rfl rfl ?_
          refine j_iadd_n (pc' := 90) Cx dX5_wins_89 rfl ?_
          refine j_daload_n (pc' := 91) Cx dX5_wins_90 rfl 2 rfl (by omega) (by omega) ?_
          refine j_dstore (pc' := 93) (lv' := [(0, .ref m), (1, .int (nI i)), (2, .int (nI j)), (3, .int (kwin (fun k => ne (200 * i + k)) (fun k => ne (200 * j + k)) k)), (4, .int (nI k)), (5, .double (ne ((200 * i) + k))), (7, .double (ne ((200 * j) + k)))]) Cx dX5_wins_91 rfl (by decide) rfl ?_
          refine j_iload_n (pc' := 94) Cx dX5_wins_93 rfl rfl rfl ?_
          refine j_dload (pc' := 96) Cx dX5_wins_94 rfl rfl ?_
          refine j_dload (pc' := 98) Cx dX5_wins_96 rfl rfl ?_
          refine j_dcmp (pc' := 99) Cx dX5_wins_98 rfl ?_
          refine j_if_le (tgt := 106) (pc' := 102) Cx dX5_wins_99 (by decide) rfl (fun hc => ?_) (fun hc => ?_)
          · have e1 : kGt ((fun k => ne (200 * i + k)) k) ((fun k => ne (200 * j + k)) k) = false := decide_eq_false (fun hh => absurd hc (Int32.not_le.mpr hh))
            refine j_dload (pc' := 108) Cx dX5_wins_106 rfl rfl ?_
            refine j_dload (pc' := 110) Cx dX5_wins_108 rfl rfl ?_
            refine j_dcmp (pc' := 111) Cx dX5_wins_110 rfl ?_
            refine j_if_ge (tgt := 118) (pc' := 114) Cx dX5_wins_111 (by decide) rfl (fun hd => ?_) (fun hd => ?_)
            · have e2 : kLt ((fun k => ne (200 * i + k)) k) ((fun k => ne (200 * j + k)) k) = false := decide_eq_false (fun hh => absurd hd (Int32.not_le.mpr hh))
              refine j_iconst (pc' := 119) (v := (nI 0)) Cx dX5_wins_118 rfl (by decide) ?_
              refine j_iadd (pc' := 120) Cx dX5_wins_119 rfl ?_
              refine j_istore_n (pc' := 121) (lv' := [(0, .ref m), (1, .int (nI i)), (2, .int (nI j)), (3, .int ((kwin (fun k => ne (200 * i + k)) (fun k => ne (200 * j + k)) k) + (nI 0))), (4, .int (nI k)), (5, .double (ne ((200 * i) + k))), (7, .double (ne ((200 * j) + k)))]) Cx dX5_wins_120 rfl rfl (by decide) rfl ?_
              refine j_iinc_n (pc' := 124) (z := 1) (a := k) (lv' := [(0, .ref m), (1, .int (nI i)), (2, .int (nI j)), (3, .int ((kwin (fun k => ne (200 * i + k)) (fun k => ne (200 * j + k)) k) + (nI 0))), (4, .int (nI (k + 1))), (5, .double (ne ((200 * i) + k))), (7, .double (ne ((200 * j) + k)))]) Cx dX5_wins_121 rfl rfl (by decide) rfl ?_
              refine j_goto (tgt := 34) Cx dX5_wins_124 (by decide) ?_
              refine J.lvs (lv' := [(0, .ref m), (1, .int (nI i)), (2, .int (nI j)), (3, .int ((kwin (fun k => ne (200 * i + k)) (fun k => ne (200 * j + k)) k) + (nI 0))), (4, .int (nI (k + 1)))]) [0, 1, 2, 3, 4] rfl ?_
              refine J.cast (ws' := [(m, .inr (5, [.int (nI W), .int (nI H), .int (nI C), .int (nI 0), .ref o1, .ref o2, .int (nI nw), .int (nI nh), .ref go, .ref gt, .ref po, .ref pt, .ref my, .ref no, .ref so])), (my, .inl (ty 0, 8, .inl (kN cn))), (no, .inl (ty 1, 1600, .inr (.inr (.inr (.inl ne)))))]) (lv' := [(0, .ref m), (1, .int (nI i)), (2, .int (nI j)), (3, .int (kwin (fun k => ne (200 * i + k)) (fun k => ne (200 * j + k)) (k + 1))), (4, .int (nI (k + 1)))]) (pc' := 34) (st' := []) (rfl) (by rw [kwin_no (f := (fun k => ne (200 * i + k))) (g := (fun k => ne (200 * j + k))) (n := k) e1 e2, show nI 0 = (0 : Int32) from rfl, Int32.add_zero]) rfl (rfl) rfl rfl ?_
              exact LP_ih (k + 1) (by omega) (by split <;> omega)
            · have e2 : kLt ((fun k => ne (200 * i + k)) k) ((fun k => ne (200 * j + k)) k) = true := decide_eq_true (Int32.not_le.mp hd)
              refine j_iconst (pc' := 115) (v := (-1)) Cx dX5_wins_114 rfl (by decide) ?_
              refine j_goto (tgt := 119) Cx dX5_wins_115 (by decide) ?_
              refine j_iadd (pc' := 120) Cx dX5_wins_119 rfl ?_
              refine j_istore_n (pc' := 121) (lv' := [(0, .ref m), (1, .int (nI i)), (2, .int (nI j)), (3, .int ((kwin (fun k => ne (200 * i + k)) (fun k => ne (200 * j + k)) k) + (-1))), (4, .int (nI k)), (5, .double (ne ((200 * i) + k))), (7, .double (ne ((200 * j) + k)))]) Cx dX5_wins_120 rfl rfl (by decide) rfl ?_
              refine j_iinc_n (pc' := 124) (z := 1) (a := k) (lv' := [(0, .ref m), (1, .int (nI i)), (2, .int (nI j)), (3, .int ((kwin (fun k => ne (200 * i + k)) (fun k => ne (200 * j + k)) k) + (-1))), (4, .int (nI (k + 1))), (5, .double (ne ((200 * i) + k))), (7, .double (ne ((200 * j) + k)))]) Cx dX5_wins_121 rfl rfl (by decide) rfl ?_
              refine j_goto (tgt := 34) Cx dX5_wins_124 (by decide) ?_
              refine J.lvs (lv' := [(0, .ref m), (1, .int (nI i)), (2, .int (nI j)), (3, .int ((kwin (fun k => ne (200 * i + k)) (fun k => ne (200 * j + k)) k) + (-1))), (4, .int (nI (k + 1)))]) [0, 1, 2, 3, 4] rfl ?_
              refine J.cast (ws' := [(m, .inr (5, [.int (nI W), .int (nI H), .int (nI C), .int (nI 0), .ref o1, .ref o2, .int (nI nw), .int (nI nh), .ref go, .ref gt, .ref po, .ref pt, .ref my, .ref no, .ref so])), (my, .inl (ty 0, 8, .inl (kN cn))), (no, .inl (ty 1, 1600, .inr (.inr (.inr (.inl ne)))))]) (lv' := [(0, .ref m), (1, .int (nI i)), (2, .int (nI j)), (3, .int (kwin (fun k => ne (200 * i + k)) (fun k => ne (200 * j + k)) (k + 1))), (4, .int (nI (k + 1)))]) (pc' := 34) (st' := []) (rfl) (by rw [kwin_lt (f := (fun k => ne (200 * i + k))) (g := (fun k => ne (200 * j + k))) (n := k) e1 e2, show Int32.ofInt (-1) = (-1 : Int32) from by decide]) rfl (rfl) rfl rfl ?_
              exact LP_ih (k + 1) (by omega) (by split <;> omega)
          · have e1 : kGt ((fun k => ne (200 * i + k)) k) ((fun k => ne (200 * j + k)) k) = true := decide_eq_true (Int32.not_le.mp hc)
            refine j_iconst (pc' := 103) (v := (nI 1)) Cx dX5_wins_102 rfl (by decide) ?_
            refine j_goto (tgt := 119) Cx dX5_wins_103 (by decide) ?_
            refine j_iadd (pc' := 120) Cx dX5_wins_119 rfl ?_
            refine j_istore_n (pc' := 121) (lv' := [(0, .ref m), (1, .int (nI i)), (2, .int (nI j)), (3, .int ((kwin (fun k => ne (200 * i + k)) (fun k => ne (200 * j + k)) k) + (nI 1))), (4, .int (nI k)), (5, .double (ne ((200 * i) + k))), (7, .double (ne ((200 * j) + k)))]) Cx dX5_wins_120 rfl rfl (by decide) rfl ?_
            refine j_iinc_n (pc' := 124) (z := 1) (a := k) (lv' := [(0, .ref m), (1, .int (nI i)), (2, .int (nI j)), (3, .int ((kwin (fun k => ne (200 * i + k)) (fun k => ne (200 * j + k)) k) + (nI 1))), (4, .int (nI (k + 1))), (5, .double (ne ((200 * i) + k))), (7, .double (ne ((200 * j) + k)))]) Cx dX5_wins_121 rfl rfl (by decide) rfl ?_
            refine j_goto (tgt := 34) Cx dX5_wins_124 (by decide) ?_
            refine J.lvs (lv' := [(0, .ref m), (1, .int (nI i)), (2, .int (nI j)), (3, .int ((kwin (fun k => ne (200 * i + k)) (fun k => ne (200 * j + k)) k) + (nI 1))), (4, .int (nI (k + 1)))]) [0, 1, 2, 3, 4] rfl ?_
            refine J.cast (ws' := [(m, .inr (5, [.int (nI W), .int (nI H), .int (nI C), .int (nI 0), .ref o1, .ref o2, .int (nI nw), .int (nI nh), .ref go, .ref gt, .ref po, .ref pt, .ref my, .ref no, .ref so])), (my, .inl (ty 0, 8, .inl (kN cn))), (no, .inl (ty 1, 1600, .inr (.inr (.inr (.inl ne)))))]) (lv' := [(0, .ref m), (1, .int (nI i)), (2, .int (nI j)), (3, .int (kwin (fun k => ne (200 * i + k)) (fun k => ne (200 * j + k)) (k + 1))), (4, .int (nI (k + 1)))]) (pc' := 34) (st' := []) (rfl) (by rw [kwin_gt (f := (fun k => ne (200 * i + k))) (g := (fun k => ne (200 * j + k))) (n := k) e1]; rfl) rfl (rfl) rfl rfl ?_
            exact LP_ih (k + 1) (by omega) (by split <;> omega)
  exact LP 201 0 (by omega) (Nat.zero_le _)

set_option maxHeartbeats 4000000 in
set_option maxRecDepth 100000 in
theorem c_X5_wins_1 (l : Launch) (D : va_G) (ty : Nat → ClassId) (m o1 o2 go gt po pt my no so W H C : Nat) (nw nh : Nat) (fa : Int32) (x y : Int32) (hno : ¬ (kok x 8 ∧ kok y 8)) : KM l yX5_wins wsX5_wins { frames := 1, cells := 0, slots := 0, locals := 40 } D ty [.ref m, .int (x), .int (y)] [(m, .inr (5, [.int (nI W), .int (nI H), .int (nI C), .int (fa), .ref o1, .ref o2, .int (nI nw), .int (nI nh), .ref go, .ref gt, .ref po, .ref pt, .ref my, .ref no, .ref so]))] (kI (fun r u => r = 0 ∧ u = [(m, .inr (5, [.int (nI W), .int (nI H), .int (nI C), .int (nI 1), .ref o1, .ref o2, .int (nI nw), .int (nI nh), .ref go, .ref gt, .ref po, .ref pt, .ref my, .ref no, .ref so]))])) 0 0 := by
  refine KM.of (cc := cX5_wins) (maxL := 9) (ret := (some .int)) (lv := [(0, .ref m), (1, .int (x)), (2, .int (y))]) (by decide +kernel) rfl rfl rfl (fun X C0 R0 => ?_)
  have Cx : kC X cX5_wins wsX5_wins RX5 { frames := 1, cells := 0, slots := 0, locals := 40 } "wins" l D ty 9 := C0
  by_cases hx : kok x 8
  · have hy : ¬ kok y 8 := fun h => hno ⟨hx, h⟩
    obtain ⟨i, hi, rfl⟩ := hx
    refine j_aload_n (pc' := 1) Cx dX5_wins_0 rfl rfl rfl ?_
    refine j_iload_n (pc' := 2) Cx dX5_wins_1 rfl rfl rfl ?_
    refine j_iconst (pc' := 3) (v := (nI 0)) Cx dX5_wins_2 rfl (by decide) ?_
    refine j_bipush (pc' := 5) (v := (nI 7)) Cx dX5_wins_3 rfl (by decide) ?_
    refine j_callS (pc' := 8) (wr := [(m, .inr (5, [.int (nI W), .int (nI H), .int (nI C), .int (fa), .ref o1, .ref o2, .int (nI nw), .int (nI nh), .ref go, .ref gt, .ref po, .ref pt, .ref my, .ref no, .ref so]))]) (st := [.ref m]) Cx dX5_wins_5 rfl (c_X5_in l D ty i 0 7 (Nat.zero_le _) (by omega) (by decide)) gX5_wins_X5_in rfl khd_X5_in rfl ⟨rfl, rfl, Nat.le_of_ble_eq_true rfl, Nat.le_of_ble_eq_true rfl⟩ [] [0] rfl rfl ⟨rfl, rfl⟩ (by decide) rfl (Nat.le_of_ble_eq_true rfl) ⟨Nat.le_of_ble_eq_true rfl, Nat.le_of_ble_eq_true rfl⟩ (fun v u hpost => ?_)
    obtain ⟨r, rfl, rfl, rfl⟩ := hpost
    show J X [(m, .inr (5, [.int (nI W), .int (nI H), .int (nI C), .int (fa), .ref o1, .ref o2, .int (nI nw), .int (nI nh), .ref go, .ref gt, .ref po, .ref pt, .ref my, .ref no, .ref so]))] [(0, .ref m), (1, .int (nI i)), (2, .int (y))] 8 [.int (nI 1), .ref m] 0 0
    refine j_if_eq_n (tgt := 25) (pc' := 11) Cx dX5_wins_8 (by decide) rfl (by omega) (fun hh => absurd hh (by decide)) (fun _ => ?_)
    rcases pk_ix y (n := 8) (by decide) with hs | hs | hs
    · refine j_iload_n (pc' := 12) Cx dX5_wins_11 rfl rfl rfl ?_
      refine j_iconst (pc' := 13) (v := (nI 0)) Cx dX5_wins_12 rfl (by decide) ?_
      refine j_bipush (pc' := 15) (v := (nI 7)) Cx dX5_wins_13 rfl (by decide) ?_
      refine j_callS (pc' := 18) (wr := [(m, .inr (5, [.int (nI W), .int (nI H), .int (nI C), .int (fa), .ref o1, .ref o2, .int (nI nw), .int (nI nh), .ref go, .ref gt, .ref po, .ref pt, .ref my, .ref no, .ref so]))]) (st := [.ref m]) Cx dX5_wins_15 rfl (c_X5_in_no l D ty y (nI 0) (nI 7) (Or.inl (show y < nI 0 from hs))) gX5_wins_X5_in rfl khd_X5_in rfl ⟨rfl, rfl, Nat.le_of_ble_eq_true rfl, Nat.le_of_ble_eq_true rfl⟩ [] [0] rfl rfl ⟨rfl, rfl⟩ (by decide) rfl (Nat.le_of_ble_eq_true rfl) ⟨Nat.le_of_ble_eq_true rfl, Nat.le_of_ble_eq_true rfl⟩ (fun v u hpost => ?_)
      obtain ⟨r, rfl, rfl, rfl⟩ := hpost
      show J X [(m, .inr (5, [.int (nI W), .int (nI H), .int (nI C), .int (fa), .ref o1, .ref o2, .int (nI nw), .int (nI nh), .ref go, .ref gt, .ref po, .ref pt, .ref my, .ref no, .ref so]))] [(0, .ref m), (1, .int (nI i)), (2, .int (y))] 18 [.int (nI 0), .ref m] 0 0
      refine j_if_eq_n (tgt := 25) (pc' := 21) Cx dX5_wins_18 (by decide) rfl (by omega) (fun _ => ?_) (fun hh => absurd hh (by decide))
      refine j_iconst (pc' := 26) (v := (nI 1)) Cx dX5_wins_25 rfl (by decide) ?_
      refine j_put (pc' := 29) (N := 15) (t := .int) (ws' := [(m, .inr (5, [.int (nI W), .int (nI H), .int (nI C), .int (nI 1), .ref o1, .ref o2, .int (nI nw), .int (nI nh), .ref go, .ref gt, .ref po, .ref pt, .ref my, .ref no, .ref so]))]) Cx dX5_wins_26 rfl kin_X5_wins_X5 kfl_X5_wins_48 tyX5_ok nmX5 0 rfl rfl 3 rfl rfl rfl rfl rfl rfl rfl ?_
      refine j_iconst (pc' := 30) (v := (nI 0)) Cx dX5_wins_29 rfl (by decide) ?_
      refine j_istore_n (pc' := 31) (lv' := [(0, .ref m), (1, .int (nI i)), (2, .int (y)), (3, .int (nI 0))]) Cx dX5_wins_30 rfl rfl (by decide) rfl ?_
      refine j_iconst (pc' := 32) (v := (nI 0)) Cx dX5_wins_31 rfl (by decide) ?_
      refine j_istore (pc' := 34) (lv' := [(0, .ref m), (1, .int (nI i)), (2, .int (y)), (3, .int (nI 0)), (4, .int (nI 0))]) Cx dX5_wins_32 rfl (by decide) rfl ?_
      refine j_aload_n (pc' := 35) Cx dX5_wins_34 rfl rfl rfl ?_
      refine j_get (pc' := 38) (N := 15) Cx dX5_wins_35 rfl kin_X5_wins_X5 kfl_X5_wins_48 0 rfl rfl 3 rfl rfl rfl ?_
      refine j_if_ne_n (tgt := 127) (pc' := 41) Cx dX5_wins_38 (by decide) rfl (by omega) (fun _ => ?_) (fun hh => absurd hh (by decide))
      refine j_iload_n (pc' := 128) Cx dX5_wins_127 rfl rfl rfl ?_
      exact j_iret Cx dX5_wins_128 R0 ⟨Nat.le_of_ble_eq_true rfl, Nat.le_of_ble_eq_true rfl⟩ (⟨_, rfl, rfl, rfl⟩)
    · refine j_iload_n (pc' := 12) Cx dX5_wins_11 rfl rfl rfl ?_
      refine j_iconst (pc' := 13) (v := (nI 0)) Cx dX5_wins_12 rfl (by decide) ?_
      refine j_bipush (pc' := 15) (v := (nI 7)) Cx dX5_wins_13 rfl (by decide) ?_
      refine j_callS (pc' := 18) (wr := [(m, .inr (5, [.int (nI W), .int (nI H), .int (nI C), .int (fa), .ref o1, .ref o2, .int (nI nw), .int (nI nh), .ref go, .ref gt, .ref po, .ref pt, .ref my, .ref no, .ref so]))]) (st := [.ref m]) Cx dX5_wins_15 rfl (c_X5_in_no l D ty y (nI 0) (nI 7) (Or.inr (k_pred (n := 8) (by decide) (by decide) hs))) gX5_wins_X5_in rfl khd_X5_in rfl ⟨rfl, rfl, Nat.le_of_ble_eq_true rfl, Nat.le_of_ble_eq_true rfl⟩ [] [0] rfl rfl ⟨rfl, rfl⟩ (by decide) rfl (Nat.le_of_ble_eq_true rfl) ⟨Nat.le_of_ble_eq_true rfl, Nat.le_of_ble_eq_true rfl⟩ (fun v u hpost => ?_)
      obtain ⟨r, rfl, rfl, rfl⟩ := hpost
      show J X [(m, .inr (5, [.int (nI W), .int (nI H), .int (nI C), .int (fa), .ref o1, .ref o2, .int (nI nw), .int (nI nh), .ref go, .ref gt, .ref po, .ref pt, .ref my, .ref no, .ref so]))] [(0, .ref m), (1, .int (nI i)), (2, .int (y))] 18 [.int (nI 0), .ref m] 0 0
      refine j_if_eq_n (tgt := 25) (pc' := 21) Cx dX5_wins_18 (by decide) rfl (by omega) (fun _ => ?_) (fun hh => absurd hh (by decide))
      refine j_iconst (pc' := 26) (v := (nI 1)) Cx dX5_wins_25 rfl (by decide) ?_
      refine j_put (pc' := 29) (N := 15) (t := .int) (ws' := [(m, .inr (5, [.int (nI W), .int (nI H), .int (nI C), .int (nI 1), .ref o1, .ref o2, .int (nI nw), .int (nI nh), .ref go, .ref gt, .ref po, .ref pt, .ref my, .ref no, .ref so]))]) Cx dX5_wins_26 rfl kin_X5_wins_X5 kfl_X5_wins_48 tyX5_ok nmX5 0 rfl rfl 3 rfl rfl rfl rfl rfl rfl rfl ?_
      refine j_iconst (pc' := 30) (v := (nI 0)) Cx dX5_wins_29 rfl (by decide) ?_
      refine j_istore_n (pc' := 31) (lv' := [(0, .ref m), (1, .int (nI i)), (2, .int (y)), (3, .int (nI 0))]) Cx dX5_wins_30 rfl rfl (by decide) rfl ?_
      refine j_iconst (pc' := 32) (v := (nI 0)) Cx dX5_wins_31 rfl (by decide) ?_
      refine j_istore (pc' := 34) (lv' := [(0, .ref m), (1, .int (nI i)), (2, .int (y)), (3, .int (nI 0)), (4, .int (nI 0))]) Cx dX5_wins_32 rfl (by decide) rfl ?_
      refine j_aload_n (pc' := 35) Cx dX5_wins_34 rfl rfl rfl ?_
      refine j_get (pc' := 38) (N := 15) Cx dX5_wins_35 rfl kin_X5_wins_X5 kfl_X5_wins_48 0 rfl rfl 3 rfl rfl rfl ?_
      refine j_if_ne_n (tgt := 127) (pc' := 41) Cx dX5_wins_38 (by decide) rfl (by omega) (fun _ => ?_) (fun hh => absurd hh (by decide))
      refine j_iload_n (pc' := 128) Cx dX5_wins_127 rfl rfl rfl ?_
      exact j_iret Cx dX5_wins_128 R0 ⟨Nat.le_of_ble_eq_true rfl, Nat.le_of_ble_eq_true rfl⟩ (⟨_, rfl, rfl, rfl⟩)
    · exact absurd hs hy
  · rcases pk_ix x (n := 8) (by decide) with hs | hs | hs
    · refine j_aload_n (pc' := 1) Cx dX5_wins_0 rfl rfl rfl ?_
      refine j_iload_n (pc' := 2) Cx dX5_wins_1 rfl rfl rfl ?_
      refine j_iconst (pc' := 3) (v := (nI 0)) Cx dX5_wins_2 rfl (by decide) ?_
      refine j_bipush (pc' := 5) (v := (nI 7)) Cx dX5_wins_3 rfl (by decide) ?_
      refine j_callS (pc' := 8) (wr := [(m, .inr (5, [.int (nI W), .int (nI H), .int (nI C), .int (fa), .ref o1, .ref o2, .int (nI nw), .int (nI nh), .ref go, .ref gt, .ref po, .ref pt, .ref my, .ref no, .ref so]))]) (st := [.ref m]) Cx dX5_wins_5 rfl (c_X5_in_no l D ty x (nI 0) (nI 7) (Or.inl (show x < nI 0 from hs))) gX5_wins_X5_in rfl khd_X5_in rfl ⟨rfl, rfl, Nat.le_of_ble_eq_true rfl, Nat.le_of_ble_eq_true rfl⟩ [] [0] rfl rfl ⟨rfl, rfl⟩ (by decide) rfl (Nat.le_of_ble_eq_true rfl) ⟨Nat.le_of_ble_eq_true rfl, Nat.le_of_ble_eq_true rfl⟩ (fun v u hpost => ?_)
      obtain ⟨r, rfl, rfl, rfl⟩ := hpost
      show J X [(m, .inr (5, [.int (nI W), .int (nI H), .int (nI C), .int (fa), .ref o1, .ref o2, .int (nI nw), .int (nI nh), .ref go, .ref gt, .ref po, .ref pt, .ref my, .ref no, .ref so]))] [(0, .ref m), (1, .int (x)), (2, .int (y))] 8 [.int (nI 0), .ref m] 0 0
      refine j_if_eq_n (tgt := 25) (pc' := 11) Cx dX5_wins_8 (by decide) rfl (by omega) (fun _ => ?_) (fun hh => absurd hh (by decide))
      refine j_iconst (pc' := 26) (v := (nI 1)) Cx dX5_wins_25 rfl (by decide) ?_
      refine j_put (pc' := 29) (N := 15) (t := .int) (ws' := [(m, .inr (5, [.int (nI W), .int (nI H), .int (nI C), .int (nI 1), .ref o1, .ref o2, .int (nI nw), .int (nI nh), .ref go, .ref gt, .ref po, .ref pt, .ref my, .ref no, .ref so]))]) Cx dX5_wins_26 rfl kin_X5_wins_X5 kfl_X5_wins_48 tyX5_ok nmX5 0 rfl rfl 3 rfl rfl rfl rfl rfl rfl rfl ?_
      refine j_iconst (pc' := 30) (v := (nI 0)) Cx dX5_wins_29 rfl (by decide) ?_
      refine j_istore_n (pc' := 31) (lv' := [(0, .ref m), (1, .int (x)), (2, .int (y)), (3, .int (nI 0))]) Cx dX5_wins_30 rfl rfl (by decide) rfl ?_
      refine j_iconst (pc' := 32) (v := (nI 0)) Cx dX5_wins_31 rfl (by decide) ?_
      refine j_istore (pc' := 34) (lv' := [(0, .ref m), (1, .int (x)), (2, .int (y)), (3, .int (nI 0)), (4, .int (nI 0))]) Cx dX5_wins_32 rfl (by decide) rfl ?_
      refine j_aload_n (pc' := 35) Cx dX5_wins_34 rfl rfl rfl ?_
      refine j_get (pc' := 38) (N := 15) Cx dX5_wins_35 rfl kin_X5_wins_X5 kfl_X5_wins_48 0 rfl rfl 3 rfl rfl rfl ?_
      refine j_if_ne_n (tgt := 127) (pc' := 41) Cx dX5_wins_38 (by decide) rfl (by omega) (fun _ => ?_) (fun hh => absurd hh (by decide))
      refine j_iload_n (pc' := 128) Cx dX5_wins_127 rfl rfl rfl ?_
      exact j_iret Cx dX5_wins_128 R0 ⟨Nat.le_of_ble_eq_true rfl, Nat.le_of_ble_eq_true rfl⟩ (⟨_, rfl, rfl, rfl⟩)
    · refine j_aload_n (pc' := 1) Cx dX5_wins_0 rfl rfl rfl ?_
      refine j_iload_n (pc' := 2) Cx dX5_wins_1 rfl rfl rfl ?_
      refine j_iconst (pc' := 3) (v := (nI 0)) Cx dX5_wins_2 rfl (by decide) ?_
      refine j_bipush (pc' := 5) (v := (nI 7)) Cx dX5_wins_3 rfl (by decide) ?_
      refine j_callS (pc' := 8) (wr := [(m, .inr (5, [.int (nI W), .int (nI H), .int (nI C), .int (fa), .ref o1, .ref o2, .int (nI nw), .int (nI nh), .ref go, .ref gt, .ref po, .ref pt, .ref my, .ref no, .ref so]))]) (st := [.ref m]) Cx dX5_wins_5 rfl (c_X5_in_no l D ty x (nI 0) (nI 7) (Or.inr (k_pred (n := 8) (by decide) (by decide) hs))) gX5_wins_X5_in rfl khd_X5_in rfl ⟨rfl, rfl, Nat.le_of_ble_eq_true rfl, Nat.le_of_ble_eq_true rfl⟩ [] [0] rfl rfl ⟨rfl, rfl⟩ (by decide) rfl (Nat.le_of_ble_eq_true rfl) ⟨Nat.le_of_ble_eq_true rfl, Nat.le_of_ble_eq_true rfl⟩ (fun v u hpost => ?_)
      obtain ⟨r, rfl, rfl, rfl⟩ := hpost
      show J X [(m, .inr (5, [.int (nI W), .int (nI H), .int (nI C), .int (fa), .ref o1, .ref o2, .int (nI nw), .int (nI nh), .ref go, .ref gt, .ref po, .ref pt, .ref my, .ref no, .ref so]))] [(0, .ref m), (1, .int (x)), (2, .int (y))] 8 [.int (nI 0), .ref m] 0 0
      refine j_if_eq_n (tgt := 25) (pc' := 11) Cx dX5_wins_8 (by decide) rfl (by omega) (fun _ => ?_) (fun hh => absurd hh (by decide))
      refine j_iconst (pc' := 26) (v := (nI 1)) Cx dX5_wins_25 rfl (by decide) ?_
      refine j_put (pc' := 29) (N := 15) (t := .int) (ws' := [(m, .inr (5, [.int (nI W), .int (nI H), .int (nI C), .int (nI 1), .ref o1, .ref o2, .int (nI nw), .int (nI nh), .ref go, .ref gt, .ref po, .ref pt, .ref my, .ref no, .ref so]))]) Cx dX5_wins_26 rfl kin_X5_wins_X5 kfl_X5_wins_48 tyX5_ok nmX5 0 rfl rfl 3 rfl rfl rfl rfl rfl rfl rfl ?_
      refine j_iconst (pc' := 30) (v := (nI 0)) Cx dX5_wins_29 rfl (by decide) ?_
      refine j_istore_n (pc' := 31) (lv' := [(0, .ref m), (1, .int (x)), (2, .int (y)), (3, .int (nI 0))]) Cx dX5_wins_30 rfl rfl (by decide) rfl ?_
      refine j_iconst (pc' := 32) (v := (nI 0)) Cx dX5_wins_31 rfl (by decide) ?_
      refine j_istore (pc' := 34) (lv' := [(0, .ref m), (1, .int (x)), (2, .int (y)), (3, .int (nI 0)), (4, .int (nI 0))]) Cx dX5_wins_32 rfl (by decide) rfl ?_
      refine j_aload_n (pc' := 35) Cx dX5_wins_34 rfl rfl rfl ?_
      refine j_get (pc' := 38) (N := 15) Cx dX5_wins_35 rfl kin_X5_wins_X5 kfl_X5_wins_48 0 rfl rfl 3 rfl rfl rfl ?_
      refine j_if_ne_n (tgt := 127) (pc' := 41) Cx dX5_wins_38 (by decide) rfl (by omega) (fun _ => ?_) (fun hh => absurd hh (by decide))
      refine j_iload_n (pc' := 128) Cx dX5_wins_127 rfl rfl rfl ?_
      exact j_iret Cx dX5_wins_128 R0 ⟨Nat.le_of_ble_eq_true rfl, Nat.le_of_ble_eq_true rfl⟩ (⟨_, rfl, rfl, rfl⟩)
    · exact absurd hs hx

set_option maxHeartbeats 4000000 in
set_option maxRecDepth 100000 in
/-- clear, of the other one -/
theorem c_X5_clear (l : Launch) (D : va_G) (ty : Nat → ClassId) (m o1 o2 go gt po pt my no so W H C : Nat) (nw nh : Nat) (fa : Int32) (O T cn : Nat → Nat) : KM l yX5_clear wsX5_clear { frames := 0, cells := 0, slots := 0, locals := 0 } D ty [.ref m] [(m, .inr (5, [.int (nI W), .int (nI H), .int (nI C), .int (fa), .ref o1, .ref o2, .int (nI nw), .int (nI nh), .ref go, .ref gt, .ref po, .ref pt, .ref my, .ref no, .ref so])), (o1, .inl (ty 0, 1728, .inl (kN O))), (o2, .inl (ty 0, 1728, .inl (kN T))), (my, .inl (ty 0, 8, .inl (kN cn)))] (kV (fun u => u = [(m, .inr (5, [.int (nI W), .int (nI H), .int (nI C), .int (nI 0), .ref o1, .ref o2, .int (nI nw), .int (nI nh), .ref go, .ref gt, .ref po, .ref pt, .ref my, .ref no, .ref so])), (o1, .inl (ty 0, 1728, .inl (kN (kfill (fun _ => 0) O 1728)))), (o2, .inl (ty 0, 1728, .inl (kN (kfill (fun _ => 0) T 1728)))), (my, .inl (ty 0, 8, .inl (kN (kfill (fun _ => 0) cn 8))))])) 0 0 := by
  refine KM.of (cc := cX5_clear) (maxL := 2) (ret := none) (lv := [(0, .ref m)]) (by decide +kernel) rfl rfl rfl (fun X C0 R0 => ?_)
  have Cx : kC X cX5_clear wsX5_clear RX5 { frames := 0, cells := 0, slots := 0, locals := 0 } "clear" l D ty 2 := C0
  refine j_aload_n (pc' := 1) Cx dX5_clear_0 rfl rfl rfl ?_
  refine j_iconst (pc' := 2) (v := (nI 0)) Cx dX5_clear_1 rfl (by decide) ?_
  refine j_put (pc' := 5) (N := 15) (t := .int) (ws' := [(m, .inr (5, [.int (nI W), .int (nI H), .int (nI C), .int (nI 0), .ref o1, .ref o2, .int (nI nw), .int (nI nh), .ref go, .ref gt, .ref po, .ref pt, .ref my, .ref no, .ref so])), (o1, .inl (ty 0, 1728, .inl (kN O))), (o2, .inl (ty 0, 1728, .inl (kN T))), (my, .inl (ty 0, 8, .inl (kN cn)))]) Cx dX5_clear_2 rfl kin_X5_clear_X5 kfl_X5_clear_48 tyX5_ok nmX5 0 rfl rfl 3 rfl rfl rfl rfl rfl rfl rfl ?_
  refine j_iconst (pc' := 6) (v := (nI 0)) Cx dX5_clear_5 rfl (by decide) ?_
  refine j_istore_n (pc' := 7) (lv' := [(0, .ref m), (1, .int (nI 0))]) Cx dX5_clear_6 rfl rfl (by decide) rfl ?_
  have LP : ∀ (LP_n : Nat), ∀ (k : Nat), (1728 - k < LP_n) → (k ≤ 1728) → J X [(m, .inr (5, [.int (nI W), .int (nI H), .int (nI C), .int (nI 0), .ref o1, .ref o2, .int (nI nw), .int (nI nh), .ref go, .ref gt, .ref po, .ref pt, .ref my, .ref no, .ref so])), (o1, .inl (ty 0, 1728, .inl (kN (kfill (fun _ => 0) O k)))), (o2, .inl (ty 0, 1728, .inl (kN (kfill (fun _ => 0) T k)))), (my, .inl (ty 0, 8, .inl (kN cn)))] [(0, .ref m), (1, .int (nI k))] 7 [] 0 0 := by
    intro LP_n
    induction LP_n with
    | zero =>
      intro k hms _
      exact absurd hms (Nat.not_lt_zero _)
    | succ LP_n LP_ih =>
      intro k LP_m hle
      refine j_iload_n (pc' := 8) Cx dX5_clear_7 rfl rfl rfl ?_
      refine j_sipush (pc' := 11) (v := (nI 1728)) Cx dX5_clear_8 rfl (by decide) ?_
      refine j_icmp_ge_n (tgt := 34) (pc' := 14) Cx dX5_clear_11 (by decide) rfl (by omega) (by omega) (fun hk => ?_) (fun hk => ?_)
      · have e : k = 1728 := by omega
        subst e
        refine j_iconst (pc' := 35) (v := (nI 0)) Cx dX5_clear_34 rfl (by decide) ?_
        refine j_istore_n (pc' := 36) (lv' := [(0, .ref m), (1, .int (nI 0))]) Cx dX5_clear_35 rfl rfl (by decide) rfl ?_
        have LQ : ∀ (LQ_n : Nat), ∀ (q : Nat), (8 - q < LQ_n) → (q ≤ 8) → J X [(m, .inr (5, [.int (nI W), .int (nI H), .int (nI C), .int (nI 0), .ref o1, .ref o2, .int (nI nw), .int (nI nh), .ref go, .ref gt, .ref po, .ref pt, .ref my, .ref no, .ref so])), (o1, .inl (ty 0, 1728, .inl (kN (kfill (fun _ => 0) O 1728)))), (o2, .inl (ty 0, 1728, .inl (kN (kfill (fun _ => 0) T 1728)))), (my, .inl (ty 0, 8, .inl (kN (kfill (fun _ => 0) cn q))))] [(0, .ref m), (1, .int (nI q))] 36 [] 0 0 := by
          intro LQ_n
          induction LQ_n with
          | zero =>
            intro q hms _
            exact absurd hms (Nat.not_lt_zero _)
          | succ LQ_n LQ_ih =>
            intro q LQ_m hlq
            refine j_iload_n (pc' := 37) Cx dX5_clear_36 rfl rfl rfl ?_
            refine j_bipush (pc' := 39) (v := (nI 8)) Cx dX5_clear_37 rfl (by decide) ?_
            refine j_icmp_ge_n (tgt := 55) (pc' := 42) Cx dX5_clear_39 (by decide) rfl (by omega) (by omega) (fun hq => ?_) (fun hq => ?_)
            · have e : q = 8 := by omega
              subst e
              exact j_vret Cx dX5_clear_55 R0 ⟨Nat.le_of_ble_eq_true rfl, Nat.le_of_ble_eq_true rfl⟩ (⟨rfl, rfl⟩)
            · refine j_aload_n (pc' := 43) Cx dX5_clear_42 rfl rfl rfl ?_
              refine j_get (pc' := 46) (N := 15) Cx dX5_clear_43 rfl kin_X5_clear_X5 kfl_X5_clear_28 0 rfl rfl 12 rfl rfl rfl ?_
              refine j_iload_n (pc' := 47) Cx dX5_clear_46 rfl rfl rfl ?_
              refine j_iconst (pc' := 48) (v := (nI 0)) Cx dX5_clear_47 rfl (by decide) ?_
              refine j_iastore_nn (pc' := 49) (ws' := [(m, .inr (5, [.int (nI W), .int (nI H), .int (nI C), .int (nI 0), .ref o1, .ref o2, .int (nI nw), .int (nI nh), .ref go, .ref gt, .ref po, .ref pt, .ref my, .ref no, .ref so])), (o1, .inl (ty 0, 1728, .inl (kN (kfill (fun _ => 0) O 1728)))), (o2, .inl (ty 0, 1728, .inl (kN (kfill (fun _ => 0) T 1728)))), (my, .inl (ty 0, 8, .inl (kN (va_up (kfill (fun _ => 0) cn q) q 0))))]) Cx dX5_clear_48 rfl 3 rfl (by omega) (by omega) rfl ?_
              refine j_iinc_n (pc' := 52) (z := 1) (a := q) (lv' := [(0, .ref m), (1, .int (nI (q + 1)))]) Cx dX5_clear_49 rfl rfl (by decide) rfl ?_
              refine j_goto (tgt := 36) Cx dX5_clear_52 (by decide) ?_
              refine J.cast (ws' := [(m, .inr (5, [.int (nI W), .int (nI H), .int (nI C), .int (nI 0), .ref o1, .ref o2, .int (nI nw), .int (nI nh), .ref go, .ref gt, .ref po, .ref pt, .ref my, .ref no, .ref so])), (o1, .inl (ty 0, 1728, .inl (kN (kfill (fun _ => 0) O 1728)))), (o2, .inl (ty 0, 1728, .inl (kN (kfill (fun _ => 0) T 1728)))), (my, .inl (ty 0, 8, .inl (kN (kfill (fun _ => 0) cn (q + 1)))))]) (lv' := [(0, .ref m), (1, .int (nI (q + 1)))]) (pc' := 36) (st' := []) (by rw [show va_up (kfill (fun _ => 0) cn q) q 0 = kfill (fun _ => 0) cn (q + 1) from kfill_up (fun _ => 0) cn q]) (rfl) rfl (rfl) rfl rfl ?_
              exact LQ_ih (q + 1) (by omega) (by omega)
        refine J.cast (ws' := [(m, .inr (5, [.int (nI W), .int (nI H), .int (nI C), .int (nI 0), .ref o1, .ref o2, .int (nI nw), .int (nI nh), .ref go, .ref gt, .ref po, .ref pt, .ref my, .ref no, .ref so])), (o1, .inl (ty 0, 1728, .inl (kN (kfill (fun _ => 0) O 1728)))), (o2, .inl (ty 0, 1728, .inl (kN (kfill (fun _ => 0) T 1728)))), (my, .inl (ty 0, 8, .inl (kN (kfill (fun _ => 0) cn 0))))]) (lv' := [(0, .ref m), (1, .int (nI 0))]) (pc' := 36) (st' := []) (by rw [kfill_0 _ cn]) (rfl) rfl (rfl) rfl rfl ?_
        exact LQ 9 0 (by omega) (Nat.zero_le _)
      · refine j_aload_n (pc' := 15) Cx dX5_clear_14 rfl rfl rfl ?_
        refine j_get (pc' := 18) (N := 15) Cx dX5_clear_15 rfl kin_X5_clear_X5 kfl_X5_clear_7 0 rfl rfl 4 rfl rfl rfl ?_
        refine j_iload_n (pc' := 19) Cx dX5_clear_18 rfl rfl rfl ?_
        refine j_iconst (pc' := 20) (v := (nI 0)) Cx dX5_clear_19 rfl (by decide) ?_
        refine j_iastore_nn (pc' := 21) (ws' := [(m, .inr (5, [.int (nI W), .int (nI H), .int (nI C), .int (nI 0), .ref o1, .ref o2, .int (nI nw), .int (nI nh), .ref go, .ref gt, .ref po, .ref pt, .ref my, .ref no, .ref so])), (o1, .inl (ty 0, 1728, .inl (kN (va_up (kfill (fun _ => 0) O k) k 0)))), (o2, .inl (ty 0, 1728, .inl (kN (kfill (fun _ => 0) T k)))), (my, .inl (ty 0, 8, .inl (kN cn)))]) Cx dX5_clear_20 rfl 1 rfl (by omega) (by omega) rfl ?_
        refine j_aload_n (pc' := 22) Cx dX5_clear_21 rfl rfl rfl ?_
        refine j_get (pc' := 25) (N := 15) Cx dX5_clear_22 rfl kin_X5_clear_X5 kfl_X5_clear_13 0 rfl rfl 5 rfl rfl rfl ?_
        refine j_iload_n (pc' := 26) Cx dX5_clear_25 rfl rfl rfl ?_
        refine j_iconst (pc' := 27) (v := (nI 0)) Cx dX5_clear_26 rfl (by decide) ?_
        refine j_iastore_nn (pc' := 28) (ws' := [(m, .inr (5, [.int (nI W), .int (nI H), .int (nI C), .int (nI 0), .ref o1, .ref o2, .int (nI nw), .int (nI nh), .ref go, .ref gt, .ref po, .ref pt, .ref my, .ref no, .ref so])), (o1, .inl (ty 0, 1728, .inl (kN (va_up (kfill (fun _ => 0) O k) k 0)))), (o2, .inl (ty 0, 1728, .inl (kN (va_up (kfill (fun _ => 0) T k) k 0)))), (my, .inl (ty 0, 8, .inl (kN cn)))]) Cx dX5_clear_27 rfl 2 rfl (by omega) (by omega) rfl ?_
        refine j_iinc_n (pc' := 31) (z := 1) (a := k) (lv' := [(0, .ref m), (1, .int (nI (k + 1)))]) Cx dX5_clear_28 rfl rfl (by decide) rfl ?_
        refine j_goto (tgt := 7) Cx dX5_clear_31 (by decide) ?_
        refine J.cast (ws' := [(m, .inr (5, [.int (nI W), .int (nI H), .int (nI C), .int (nI 0), .ref o1, .ref o2, .int (nI nw), .int (nI nh), .ref go, .ref gt, .ref po, .ref pt, .ref my, .ref no, .ref so])), (o1, .inl (ty 0, 1728, .inl (kN (kfill (fun _ => 0) O (k + 1))))), (o2, .inl (ty 0, 1728, .inl (kN (kfill (fun _ => 0) T (k + 1))))), (my, .inl (ty 0, 8, .inl (kN cn)))]) (lv' := [(0, .ref m), (1, .int (nI (k + 1)))]) (pc' := 7) (st' := []) (by rw [show va_up (kfill (fun _ => 0) O k) k 0 = kfill (fun _ => 0) O (k + 1) from kfill_up (fun _ => 0) O k, show va_up (kfill (fun _ => 0) T k) k 0 = kfill (fun _ => 0) T (k + 1) from kfill_up (fun _ => 0) T k]) (rfl) rfl (rfl) rfl rfl ?_
        exact LP_ih (k + 1) (by omega) (by omega)
  refine J.cast (ws' := [(m, .inr (5, [.int (nI W), .int (nI H), .int (nI C), .int (nI 0), .ref o1, .ref o2, .int (nI nw), .int (nI nh), .ref go, .ref gt, .ref po, .ref pt, .ref my, .ref no, .ref so])), (o1, .inl (ty 0, 1728, .inl (kN (kfill (fun _ => 0) O 0)))), (o2, .inl (ty 0, 1728, .inl (kN (kfill (fun _ => 0) T 0)))), (my, .inl (ty 0, 8, .inl (kN cn)))]) (lv' := [(0, .ref m), (1, .int (nI 0))]) (pc' := 7) (st' := []) (by rw [kfill_0 _ O, kfill_0 _ T]) (rfl) rfl (rfl) rfl rfl ?_
  exact LP 1729 0 (by omega) (Nat.zero_le _)
