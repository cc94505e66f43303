set_option maxHeartbeats 4000000 in
set_option maxRecDepth 100000 in
/-- ScaledGreys(width, height) -/
theorem c_X3_init (l : Launch) (D : va_G) (ty : Nat → ClassId) (s w h : Nat) (hL : w * h ≤ 576) : KM l yX3_init wsX3_init { frames := 1, cells := 2, slots := 1152, locals := 20 } D ty [.ref s, .int (nI w), .int (nI h)] [(s, .inr (3, [.int (0), .int (0), .null, .null, .int (0), .int (0)]))] (kV (fun u => ∃ fa sa : Nat, u = [(s, .inr (3, [.int (nI w), .int (nI h), .ref fa, .ref sa, .int (nI 0), .int (nI 0)])), (fa, .inl (ty 0, (w * h), .inl (kN (fun _ => 0)))), (sa, .inl (ty 0, (w * h), .inl (kN (fun _ => 0))))])) 2 1152 := by
  refine KM.of (cc := cX3_init) (maxL := 3) (ret := none) (lv := [(0, .ref s), (1, .int (nI w)), (2, .int (nI h))]) (by decide +kernel) rfl rfl rfl (fun X C0 R0 => ?_)
  have Cx : kC X cX3_init wsX3_init RX3 { frames := 1, cells := 2, slots := 1152, locals := 20 } "<init>" l D ty 3 := C0
  refine j_aload_n (pc' := 1) Cx dX3_init_0 rfl rfl rfl ?_
  refine j_objInit (pc' := 4) Cx dX3_init_1 rfl (by decide +kernel) (by decide +kernel) (by decide +kernel) ⟨Nat.le_of_ble_eq_true rfl, Nat.le_of_ble_eq_true rfl⟩ ?_
  refine j_aload_n (pc' := 5) Cx dX3_init_4 rfl rfl rfl ?_
  refine j_iload_n (pc' := 6) Cx dX3_init_5 rfl rfl rfl ?_
  refine j_putF (pc' := 9) (N := 6) (t := .int) (ws' := [(s, .inr (3, [.int (nI w), .int (0), .null, .null, .int (0), .int (0)]))]) Cx dX3_init_6 rfl kin_X3_init_X3 kfl_X3_init_9 tyX3_ok nmX3 0 rfl rfl 0 rfl rfl rfl rfl rfl rfl rfl rfl rfl ?_
  refine j_aload_n (pc' := 10) Cx dX3_init_9 rfl rfl rfl ?_
  refine j_iload_n (pc' := 11) Cx dX3_init_10 rfl rfl rfl ?_
  refine j_putF (pc' := 14) (N := 6) (t := .int) (ws' := [(s, .inr (3, [.int (nI w), .int (nI h), .null, .null, .int (0), .int (0)]))]) Cx dX3_init_11 rfl kin_X3_init_X3 kfl_X3_init_15 tyX3_ok nmX3 0 rfl rfl 1 rfl rfl rfl rfl rfl rfl rfl rfl rfl ?_
  refine j_aload_n (pc' := 15) Cx dX3_init_14 rfl rfl rfl ?_
  refine j_iload_n (pc' := 16) Cx dX3_init_15 rfl rfl rfl ?_
  refine j_iload_n (pc' := 17) Cx dX3_init_16 rfl rfl rfl ?_
  refine j_imul_n (pc' := 18) Cx dX3_init_17 rfl ?_
  refine j_newarr (pc' := 20) (t0 := 0) (N := (w * h)) (a0 := ((w * h), .inl (kN (fun _ => 0)))) (ft := .int) Cx dX3_init_18 rfl rfl rfl (fun _ h => by cases h) (by decide +kernel) (fun _ => rfl) rfl (by omega) ⟨Nat.le_of_ble_eq_true rfl, by show 0 + (w * h) ≤ 1152; omega⟩ (fun fa => ?_)
  refine J.widen (k' := 1) (n' := 576) (Nat.le_of_ble_eq_true rfl) (by omega) ?_
  show J X [(s, .inr (3, [.int (nI w), .int (nI h), .null, .null, .int (0), .int (0)])), (fa, .inl (ty 0, (w * h), .inl (kN (fun _ => 0))))] [(0, .ref s), (1, .int (nI w)), (2, .int (nI h))] 20 [.ref fa, .ref s] 1 576
  refine j_putF (pc' := 23) (N := 6) (t := (.array .int)) (ws' := [(s, .inr (3, [.int (nI w), .int (nI h), .ref fa, .null, .int (0), .int (0)])), (fa, .inl (ty 0, (w * h), .inl (kN (fun _ => 0))))]) Cx dX3_init_20 rfl kin_X3_init_X3 kfl_X3_init_18 tyX3_ok nmX3 0 rfl rfl 2 rfl rfl rfl rfl rfl rfl rfl rfl rfl ?_
  refine j_aload_n (pc' := 24) Cx dX3_init_23 rfl rfl rfl ?_
  refine j_iload_n (pc' := 25) Cx dX3_init_24 rfl rfl rfl ?_
  refine j_iload_n (pc' := 26) Cx dX3_init_25 rfl rfl rfl ?_
  refine j_imul_n (pc' := 27) Cx dX3_init_26 rfl ?_
  refine j_newarr (pc' := 29) (t0 := 0) (N := (w * h)) (a0 := ((w * h), .inl (kN (fun _ => 0)))) (ft := .int) Cx dX3_init_27 rfl rfl rfl (fun _ h => by cases h) (by decide +kernel) (fun _ => rfl) rfl (by omega) ⟨Nat.le_of_ble_eq_true rfl, by show 576 + (w * h) ≤ 1152; omega⟩ (fun sa => ?_)
  refine J.widen (k' := 2) (n' := 1152) (Nat.le_of_ble_eq_true rfl) (by omega) ?_
  show J X [(s, .inr (3, [.int (nI w), .int (nI h), .ref fa, .null, .int (0), .int (0)])), (fa, .inl (ty 0, (w * h), .inl (kN (fun _ => 0)))), (sa, .inl (ty 0, (w * h), .inl (kN (fun _ => 0))))] [(0, .ref s), (1, .int (nI w)), (2, .int (nI h))] 29 [.ref sa, .ref s] 2 1152
  refine j_putF (pc' := 32) (N := 6) (t := (.array .int)) (ws' := [(s, .inr (3, [.int (nI w), .int (nI h), .ref fa, .ref sa, .int (0), .int (0)])), (fa, .inl (ty 0, (w * h), .inl (kN (fun _ => 0)))), (sa, .inl (ty 0, (w * h), .inl (kN (fun _ => 0))))]) Cx dX3_init_29 rfl kin_X3_init_X3 kfl_X3_init_22 tyX3_ok nmX3 0 rfl rfl 3 rfl rfl rfl rfl rfl rfl rfl rfl rfl ?_
  exact j_vret Cx dX3_init_32 R0 ⟨Nat.le_of_ble_eq_true rfl, Nat.le_of_ble_eq_true rfl⟩ (⟨rfl, fa, sa, rfl⟩)

set_option maxHeartbeats 4000000 in
set_option maxRecDepth 100000 in
/-- ScaledGreys.readFrom -/
theorem c_X3_readFrom (l : Launch) (D : va_G) (ty : Nat → ClassId) (s fa sa fw fh L : Nat) (w0 h0 : Int32) (F G : Nat → Nat) (hL : L ≤ 576) (p pa q qa C N : Nat) (A B : Nat → Nat) (hA : ∀ i, A i < 256) (hB : ∀ i, B i < 256) (hN : N ≤ 1728) (hNL : N = L * C) (h1 : 1 ≤ C) (h3 : C ≤ 3) : KM l yX3_readFrom wsX3_readFrom { frames := 1, cells := 0, slots := 0, locals := 40 } D ty [.ref s, .ref p, .ref q] [(s, .inr (3, [.int (nI fw), .int (nI fh), .ref fa, .ref sa, .int (w0), .int (h0)])), (fa, .inl (ty 0, L, .inl (kN F))), (sa, .inl (ty 0, L, .inl (kN G))), (p, .inr (2, [.int (nI C), .ref pa])), (pa, .inl (ty 0, N, .inl (kN A))), (q, .inr (2, [.int (nI C), .ref qa])), (qa, .inl (ty 0, N, .inl (kN B)))] (kV (fun u => u = [(s, .inr (3, [.int (nI fw), .int (nI fh), .ref fa, .ref sa, .int (nI fw), .int (nI fh)])), (fa, .inl (ty 0, L, .inl (kN (kfill (kg C A) F L)))), (sa, .inl (ty 0, L, .inl (kN (kfill (kg C B) G L)))), (p, .inr (2, [.int (nI C), .ref pa])), (pa, .inl (ty 0, N, .inl (kN A))), (q, .inr (2, [.int (nI C), .ref qa])), (qa, .inl (ty 0, N, .inl (kN B)))])) 0 0 := by
  refine KM.of (cc := cX3_readFrom) (maxL := 4) (ret := none) (lv := [(0, .ref s), (1, .ref p), (2, .ref q)]) (by decide +kernel) rfl rfl rfl (fun X C0 R0 => ?_)
  have Cx : kC X cX3_readFrom wsX3_readFrom RX3 { frames := 1, cells := 0, slots := 0, locals := 40 } "readFrom" l D ty 4 := C0
  refine j_aload_n (pc' := 1) Cx dX3_readFrom_0 rfl rfl rfl ?_
  refine j_aload_n (pc' := 2) Cx dX3_readFrom_1 rfl rfl rfl ?_
  refine j_get (pc' := 5) (N := 6) Cx dX3_readFrom_2 rfl kin_X3_readFrom_X3 kfl_X3_readFrom_9 0 rfl rfl 0 rfl rfl rfl ?_
  refine j_put (pc' := 8) (N := 6) (t := .int) (ws' := [(s, .inr (3, [.int (nI fw), .int (nI fh), .ref fa, .ref sa, .int (nI fw), .int (h0)])), (fa, .inl (ty 0, L, .inl (kN F))), (sa, .inl (ty 0, L, .inl (kN G))), (p, .inr (2, [.int (nI C), .ref pa])), (pa, .inl (ty 0, N, .inl (kN A))), (q, .inr (2, [.int (nI C), .ref qa])), (qa, .inl (ty 0, N, .inl (kN B)))]) Cx dX3_readFrom_5 rfl kin_X3_readFrom_X3 kfl_X3_readFrom_25 tyX3_ok nmX3 0 rfl rfl 4 rfl rfl rfl rfl rfl rfl rfl ?_
  refine j_aload_n (pc' := 9) Cx dX3_readFrom_8 rfl rfl rfl ?_
  refine j_aload_n (pc' := 10) Cx dX3_readFrom_9 rfl rfl rfl ?_
  refine j_get (pc' := 13) (N := 6) Cx dX3_readFrom_10 rfl kin_X3_readFrom_X3 kfl_X3_readFrom_15 0 rfl rfl 1 rfl rfl rfl ?_
  refine j_put (pc' := 16) (N := 6) (t := .int) (ws' := [(s, .inr (3, [.int (nI fw), .int (nI fh), .ref fa, .ref sa, .int (nI fw), .int (nI fh)])), (fa, .inl (ty 0, L, .inl (kN F))), (sa, .inl (ty 0, L, .inl (kN G))), (p, .inr (2, [.int (nI C), .ref pa])), (pa, .inl (ty 0, N, .inl (kN A))), (q, .inr (2, [.int (nI C), .ref qa])), (qa, .inl (ty 0, N, .inl (kN B)))]) Cx dX3_readFrom_13 rfl kin_X3_readFrom_X3 kfl_X3_readFrom_28 tyX3_ok nmX3 0 rfl rfl 5 rfl rfl rfl rfl rfl rfl rfl ?_
  refine j_iconst (pc' := 17) (v := (nI 0)) Cx dX3_readFrom_16 rfl (by decide) ?_
  refine j_istore_n (pc' := 18) (lv' := [(0, .ref s), (1, .ref p), (2, .ref q), (3, .int (nI 0))]) Cx dX3_readFrom_17 rfl rfl (by decide) rfl ?_
  have LP : ∀ (LP_n : Nat), ∀ (i : Nat), (L - i < LP_n) → (i ≤ L) → J X [(s, .inr (3, [.int (nI fw), .int (nI fh), .ref fa, .ref sa, .int (nI fw), .int (nI fh)])), (fa, .inl (ty 0, L, .inl (kN (kfill (kg C A) F i)))), (sa, .inl (ty 0, L, .inl (kN (kfill (kg C B) G i)))), (p, .inr (2, [.int (nI C), .ref pa])), (pa, .inl (ty 0, N, .inl (kN A))), (q, .inr (2, [.int (nI C), .ref qa])), (qa, .inl (ty 0, N, .inl (kN B)))] [(0, .ref s), (1, .ref p), (2, .ref q), (3, .int (nI i))] 18 [] 0 0 := by
    intro LP_n
    induction LP_n with
    | zero =>
      intro i hms _
      exact absurd hms (Nat.not_lt_zero _)
    | succ LP_n LP_ih =>
      intro i LP_m hle
      refine j_iload_n (pc' := 19) Cx dX3_readFrom_18 rfl rfl rfl ?_
      refine j_aload_n (pc' := 20) Cx dX3_readFrom_19 rfl rfl rfl ?_
      refine j_get (pc' := 23) (N := 6) Cx dX3_readFrom_20 rfl kin_X3_readFrom_X3 kfl_X3_readFrom_18 0 rfl rfl 2 rfl rfl rfl ?_
      refine j_alen (pc' := 24) (v := nI L) Cx dX3_readFrom_23 rfl 1 rfl rfl rfl ?_
      refine j_icmp_ge_n (tgt := 64) (pc' := 27) Cx dX3_readFrom_24 (by decide) rfl (by omega) (by omega) (fun hi => ?_) (fun hi => ?_)
      · have e : i = L := by omega
        subst e
        exact j_vret Cx dX3_readFrom_64 R0 ⟨Nat.le_of_ble_eq_true rfl, Nat.le_of_ble_eq_true rfl⟩ (⟨rfl, rfl⟩)
      · refine j_iload_n (pc' := 28) Cx dX3_readFrom_27 rfl rfl rfl ?_
        refine j_aload_n (pc' := 29) Cx dX3_readFrom_28 rfl rfl rfl ?_
        refine j_get (pc' := 32) (N := 6) Cx dX3_readFrom_29 rfl kin_X3_readFrom_X3 kfl_X3_readFrom_22 0 rfl rfl 3 rfl rfl rfl ?_
        refine j_alen (pc' := 33) (v := nI L) Cx dX3_readFrom_32 rfl 2 rfl rfl rfl ?_
        refine j_icmp_ge_n (tgt := 64) (pc' := 36) Cx dX3_readFrom_33 (by decide) rfl (by omega) (by omega) (fun hh => absurd hh (by omega)) (fun _ => ?_)
        refine j_aload_n (pc' := 37) Cx dX3_readFrom_36 rfl rfl rfl ?_
        refine j_get (pc' := 40) (N := 6) Cx dX3_readFrom_37 rfl kin_X3_readFrom_X3 kfl_X3_readFrom_18 0 rfl rfl 2 rfl rfl rfl ?_
        refine j_iload_n (pc' := 41) Cx dX3_readFrom_40 rfl rfl rfl ?_
        refine j_aload_n (pc' := 42) Cx dX3_readFrom_41 rfl rfl rfl ?_
        refine j_iload_n (pc' := 43) Cx dX3_readFrom_42 rfl rfl rfl ?_
        refine j_callV (pc' := 46) (wr := [(s, .inr (3, [.int (nI fw), .int (nI fh), .ref fa, .ref sa, .int (nI fw), .int (nI fh)])), (fa, .inl (ty 0, L, .inl (kN (kfill (kg C A) F i)))), (sa, .inl (ty 0, L, .inl (kN (kfill (kg C B) G i)))), (q, .inr (2, [.int (nI C), .ref qa])), (qa, .inl (ty 0, N, .inl (kN B)))]) (st := [.int (nI i), .ref fa]) Cx dX3_readFrom_43 rfl (c_X2_greyAt l D ty p pa C N L i A hA hN hNL hi h1 h3) gX3_readFrom_X2_greyAt rfl khd_X2_greyAt rfl ⟨rfl, rfl, Nat.le_of_ble_eq_true rfl, Nat.le_of_ble_eq_true rfl⟩ [3, 4] [0, 1, 2, 5, 6] rfl rfl ⟨rfl, rfl⟩ (by decide) 3 rfl rfl rfl (Nat.le_of_ble_eq_true rfl) ⟨Nat.le_of_ble_eq_true rfl, Nat.le_of_ble_eq_true rfl⟩ (fun v u hpost => ?_)
        obtain ⟨r, rfl, rfl, rfl⟩ := hpost
        show J X [(s, .inr (3, [.int (nI fw), .int (nI fh), .ref fa, .ref sa, .int (nI fw), .int (nI fh)])), (fa, .inl (ty 0, L, .inl (kN (kfill (kg C A) F i)))), (sa, .inl (ty 0, L, .inl (kN (kfill (kg C B) G i)))), (q, .inr (2, [.int (nI C), .ref qa])), (qa, .inl (ty 0, N, .inl (kN B))), (p, .inr (2, [.int (nI C), .ref pa])), (pa, .inl (ty 0, N, .inl (kN A)))] [(0, .ref s), (1, .ref p), (2, .ref q), (3, .int (nI i))] 46 [.int (nI (kg C A i)), .int (nI i), .ref fa] 0 0
        refine J.sub (ws' := [(s, .inr (3, [.int (nI fw), .int (nI fh), .ref fa, .ref sa, .int (nI fw), .int (nI fh)])), (fa, .inl (ty 0, L, .inl (kN (kfill (kg C A) F i)))), (sa, .inl (ty 0, L, .inl (kN (kfill (kg C B) G i)))), (p, .inr (2, [.int (nI C), .ref pa])), (pa, .inl (ty 0, N, .inl (kN A))), (q, .inr (2, [.int (nI C), .ref qa])), (qa, .inl (ty 0, N, .inl (kN B)))]) [0, 1, 2, 5, 6, 3, 4] rfl rfl ?_
        refine j_iastore_nn (pc' := 47) (ws' := [(s, .inr (3, [.int (nI fw), .int (nI fh), .ref fa, .ref sa, .int (nI fw), .int (nI fh)])), (fa, .inl (ty 0, L, .inl (kN (va_up (kfill (kg C A) F i) i (kg C A i))))), (sa, .inl (ty 0, L, .inl (kN (kfill (kg C B) G i)))), (p, .inr (2, [.int (nI C), .ref pa])), (pa, .inl (ty 0, N, .inl (kN A))), (q, .inr (2, [.int (nI C), .ref qa])), (qa, .inl (ty 0, N, .inl (kN B)))]) Cx dX3_readFrom_46 rfl 1 rfl (by omega) (by omega) rfl ?_
        refine j_aload_n (pc' := 48) Cx dX3_readFrom_47 rfl rfl rfl ?_
        refine j_get (pc' := 51) (N := 6) Cx dX3_readFrom_48 rfl kin_X3_readFrom_X3 kfl_X3_readFrom_22 0 rfl rfl 3 rfl rfl rfl ?_
        refine j_iload_n (pc' := 52) Cx dX3_readFrom_51 rfl rfl rfl ?_
        refine j_aload_n (pc' := 53) Cx dX3_readFrom_52 rfl rfl rfl ?_
        refine j_iload_n (pc' := 54) Cx dX3_readFrom_53 rfl rfl rfl ?_
        refine j_callV (pc' := 57) (wr := [(s, .inr (3, [.int (nI fw), .int (nI fh), .ref fa, .ref sa, .int (nI fw), .int (nI fh)])), (fa, .inl (ty 0, L, .inl (kN (va_up (kfill (kg C A) F i) i (kg C A i))))), (sa, .inl (ty 0, L, .inl (kN (kfill (kg C B) G i)))), (p, .inr (2, [.int (nI C), .ref pa])), (pa, .inl (ty 0, N, .inl (kN A)))]) (st := [.int (nI i), .ref sa]) Cx dX3_readFrom_54 rfl (c_X2_greyAt l D ty q qa C N L i B hB hN hNL hi h1 h3) gX3_readFrom_X2_greyAt rfl khd_X2_greyAt rfl ⟨rfl, rfl, Nat.le_of_ble_eq_true rfl, Nat.le_of_ble_eq_true rfl⟩ [5, 6] [0, 1, 2, 3, 4] rfl rfl ⟨rfl, rfl⟩ (by decide) 5 rfl rfl rfl (Nat.le_of_ble_eq_true rfl) ⟨Nat.le_of_ble_eq_true rfl, Nat.le_of_ble_eq_true rfl⟩ (fun v u hpost => ?_)
        obtain ⟨r, rfl, rfl, rfl⟩ := hpost
        show J X [(s, .inr (3, [.int (nI fw), .int (nI fh), .ref fa, .ref sa, .int (nI fw), .int (nI fh)])), (fa, .inl (ty 0, L, .inl (kN (va_up (kfill (kg C A) F i) i (kg C A i))))), (sa, .inl (ty 0, L, .inl (kN (kfill (kg C B) G i)))), (p, .inr (2, [.int (nI C), .ref pa])), (pa, .inl (ty 0, N, .inl (kN A))), (q, .inr (2, [.int (nI C), .ref qa])), (qa, .inl (ty 0, N, .inl (kN B)))] [(0, .ref s), (1, .ref p), (2, .ref q), (3, .int (nI i))] 57 [.int (nI (kg C B i)), .int (nI i), .ref sa] 0 0
        refine j_iastore_nn (pc' := 58) (ws' := [(s, .inr (3, [.int (nI fw), .int (nI fh), .ref fa, .ref sa, .int (nI fw), .int (nI fh)])), (fa, .inl (ty 0, L, .inl (kN (va_up (kfill (kg C A) F i) i (kg C A i))))), (sa, .inl (ty 0, L, .inl (kN (va_up (kfill (kg C B) G i) i (kg C B i))))), (p, .inr (2, [.int (nI C), .ref pa])), (pa, .inl (ty 0, N, .inl (kN A))), (q, .inr (2, [.int (nI C), .ref qa])), (qa, .inl (ty 0, N, .inl (kN B)))]) Cx dX3_readFrom_57 rfl 2 rfl (by omega) (by omega) rfl ?_
        refine j_iinc_n (pc' := 61) (z := 1) (a := i) (lv' := [(0, .ref s), (1, .ref p), (2, .ref q), (3, .int (nI (i + 1)))]) Cx dX3_readFrom_58 rfl rfl (by decide) rfl ?_
        refine j_goto (tgt := 18) Cx dX3_readFrom_61 (by decide) ?_
        refine J.cast (ws' := [(s, .inr (3, [.int (nI fw), .int (nI fh), .ref fa, .ref sa, .int (nI fw), .int (nI fh)])), (fa, .inl (ty 0, L, .inl (kN (kfill (kg C A) F (i + 1))))), (sa, .inl (ty 0, L, .inl (kN (kfill (kg C B) G (i + 1))))), (p, .inr (2, [.int (nI C), .ref pa])), (pa, .inl (ty 0, N, .inl (kN A))), (q, .inr (2, [.int (nI C), .ref qa])), (qa, .inl (ty 0, N, .inl (kN B)))]) (lv' := [(0, .ref s), (1, .ref p), (2, .ref q), (3, .int (nI (i + 1)))]) (pc' := 18) (st' := []) (by rw [← kfill_up (kg C A), ← kfill_up (kg C B)]) (rfl) rfl (rfl) rfl rfl ?_
        exact LP_ih (i + 1) (by omega) (by omega)
  refine J.cast (ws' := [(s, .inr (3, [.int (nI fw), .int (nI fh), .ref fa, .ref sa, .int (nI fw), .int (nI fh)])), (fa, .inl (ty 0, L, .inl (kN (kfill (kg C A) F 0)))), (sa, .inl (ty 0, L, .inl (kN (kfill (kg C B) G 0)))), (p, .inr (2, [.int (nI C), .ref pa])), (pa, .inl (ty 0, N, .inl (kN A))), (q, .inr (2, [.int (nI C), .ref qa])), (qa, .inl (ty 0, N, .inl (kN B)))]) (lv' := [(0, .ref s), (1, .ref p), (2, .ref q), (3, .int (nI 0))]) (pc' := 18) (st' := []) (by rw [kfill_0, kfill_0]) (rfl) rfl (rfl) rfl rfl ?_
  exact LP (L + 1) 0 (by omega) (Nat.zero_le L)

set_option maxHeartbeats 4000000 in
set_option maxRecDepth 100000 in
/-- ScaledGreys.shrink -/
theorem c_X3_shrink (l : Launch) (D : va_G) (ty : Nat → ClassId) (s fa sa a fw fh L w h : Nat) (F : Nat → Nat) (hF : ∀ i, F i < 256) (hL : L ≤ 576) (hwh : w * h ≤ L) (hw : w ≤ 24) (hh : h ≤ 24) : KM l yX3_shrink wsX3_shrink { frames := 0, cells := 0, slots := 0, locals := 0 } D ty [.ref s, .ref a] [(s, .inr (3, [.int (nI fw), .int (nI fh), .ref fa, .ref sa, .int (nI w), .int (nI h)])), (a, .inl (ty 0, L, .inl (kN F)))] (kV (fun u => u = [(s, .inr (3, [.int (nI fw), .int (nI fh), .ref fa, .ref sa, .int (nI w), .int (nI h)])), (a, .inl (ty 0, L, .inl (kN (khalf w h F))))])) 0 0 := by
  refine KM.of (cc := cX3_shrink) (maxL := 9) (ret := none) (lv := [(0, .ref s), (1, .ref a)]) (by decide +kernel) rfl rfl rfl (fun X C0 R0 => ?_)
  have Cx : kC X cX3_shrink wsX3_shrink RX3 { frames := 0, cells := 0, slots := 0, locals := 0 } "shrink" l D ty 9 := C0
  refine j_aload_n (pc' := 1) Cx dX3_shrink_0 rfl rfl rfl ?_
  refine j_get (pc' := 4) (N := 6) Cx dX3_shrink_1 rfl kin_X3_shrink_X3 kfl_X3_shrink_25 0 rfl rfl 4 rfl rfl rfl ?_
  refine j_iconst (pc' := 5) (v := (nI 2)) Cx dX3_shrink_4 rfl (by decide) ?_
  refine j_idiv_n (pc' := 6) Cx dX3_shrink_5 rfl (by omega) (by omega) (by omega) ?_
  refine j_istore_n (pc' := 7) (lv' := [(0, .ref s), (1, .ref a), (2, .int (nI (w / 2)))]) Cx dX3_shrink_6 rfl rfl (by decide) rfl ?_
  refine j_aload_n (pc' := 8) Cx dX3_shrink_7 rfl rfl rfl ?_
  refine j_get (pc' := 11) (N := 6) Cx dX3_shrink_8 rfl kin_X3_shrink_X3 kfl_X3_shrink_28 0 rfl rfl 5 rfl rfl rfl ?_
  refine j_iconst (pc' := 12) (v := (nI 2)) Cx dX3_shrink_11 rfl (by decide) ?_
  refine j_idiv_n (pc' := 13) Cx dX3_shrink_12 rfl (by omega) (by omega) (by omega) ?_
  refine j_istore_n (pc' := 14) (lv' := [(0, .ref s), (1, .ref a), (2, .int (nI (w / 2))), (3, .int (nI (h / 2)))]) Cx dX3_shrink_13 rfl rfl (by decide) rfl ?_
  refine j_iconst (pc' := 15) (v := (nI 0)) Cx dX3_shrink_14 rfl (by decide) ?_
  refine j_istore (pc' := 17) (lv' := [(0, .ref s), (1, .ref a), (2, .int (nI (w / 2))), (3, .int (nI (h / 2))), (4, .int (nI 0))]) Cx dX3_shrink_15 rfl (by decide) rfl ?_
  have LP : ∀ (LP_n : Nat), ∀ (y : Nat), (h / 2 - y < LP_n) → (y ≤ h / 2) → J X [(s, .inr (3, [.int (nI fw), .int (nI fh), .ref fa, .ref sa, .int (nI w), .int (nI h)])), (a, .inl (ty 0, L, .inl (kN (kshy w (w / 2) y F))))] [(0, .ref s), (1, .ref a), (2, .int (nI (w / 2))), (3, .int (nI (h / 2))), (4, .int (nI y))] 17 [] 0 0 := by
    intro LP_n
    induction LP_n with
    | zero =>
      intro y hms _
      exact absurd hms (Nat.not_lt_zero _)
    | succ LP_n LP_ih =>
      intro y LP_m hle
      refine j_iload (pc' := 19) Cx dX3_shrink_17 rfl rfl ?_
      refine j_iload_n (pc' := 20) Cx dX3_shrink_19 rfl rfl rfl ?_
      refine j_icmp_ge_n (tgt := 140) (pc' := 23) Cx dX3_shrink_20 (by decide) rfl (by omega) (by omega) (fun hy => ?_) (fun hy => ?_)
      · have e : y = h / 2 := by omega
        subst e
        exact j_vret Cx dX3_shrink_140 R0 ⟨Nat.le_of_ble_eq_true rfl, Nat.le_of_ble_eq_true rfl⟩ (⟨rfl, rfl⟩)
      · have hK := kshy_lt (w := w) (hw := w / 2) hF y
        refine j_iconst (pc' := 24) (v := (nI 0)) Cx dX3_shrink_23 rfl (by decide) ?_
        refine j_istore (pc' := 26) (lv' := [(0, .ref s), (1, .ref a), (2, .int (nI (w / 2))), (3, .int (nI (h / 2))), (4, .int (nI y)), (5, .int (nI 0))]) Cx dX3_shrink_24 rfl (by decide) rfl ?_
        have LQ : ∀ (LQ_n : Nat), ∀ (x : Nat), (w / 2 - x < LQ_n) → (x ≤ w / 2) → J X [(s, .inr (3, [.int (nI fw), .int (nI fh), .ref fa, .ref sa, .int (nI w), .int (nI h)])), (a, .inl (ty 0, L, .inl (kN (kshx w (w / 2) y x (kshy w (w / 2) y F)))))] [(0, .ref s), (1, .ref a), (2, .int (nI (w / 2))), (3, .int (nI (h / 2))), (4, .int (nI y)), (5, .int (nI x))] 26 [] 0 0 := by
          intro LQ_n
          induction LQ_n with
          | zero =>
            intro x hms _
            exact absurd hms (Nat.not_lt_zero _)
          | succ LQ_n LQ_ih =>
            intro x LQ_m hlx
            refine j_iload (pc' := 28) Cx dX3_shrink_26 rfl rfl ?_
            refine j_iload_n (pc' := 29) Cx dX3_shrink_28 rfl rfl rfl ?_
            refine j_icmp_ge_n (tgt := 134) (pc' := 32) Cx dX3_shrink_29 (by decide) rfl (by omega) (by omega) (fun hx => ?_) (fun hx => ?_)
            · have e : x = w / 2 := by omega
              subst e
              refine j_iinc_n (pc' := 137) (z := 1) (a := y) (lv' := [(0, .ref s), (1, .ref a), (2, .int (nI (w / 2))), (3, .int (nI (h / 2))), (4, .int (nI (y + 1))), (5, .int (nI (w / 2)))]) Cx dX3_shrink_134 rfl rfl (by decide) rfl ?_
              refine j_goto (tgt := 17) Cx dX3_shrink_137 (by decide) ?_
              refine J.lvs (lv' := [(0, .ref s), (1, .ref a), (2, .int (nI (w / 2))), (3, .int (nI (h / 2))), (4, .int (nI (y + 1)))]) [0, 1, 2, 3, 4] rfl ?_
              refine J.cast (ws' := [(s, .inr (3, [.int (nI fw), .int (nI fh), .ref fa, .ref sa, .int (nI w), .int (nI h)])), (a, .inl (ty 0, L, .inl (kN (kshy w (w / 2) (y + 1) F))))]) (lv' := [(0, .ref s), (1, .ref a), (2, .int (nI (w / 2))), (3, .int (nI (h / 2))), (4, .int (nI (y + 1)))]) (pc' := 17) (st' := []) (rfl) (rfl) rfl (rfl) rfl rfl ?_
              exact LP_ih (y + 1) (by omega) (by omega)
            · have hb : 2 * y * w + 2 * x + w + 1 < L := by have g1 : (2 * y + 2) * w ≤ h * w := Nat.mul_le_mul_right w (by omega); rw [Nat.add_mul, Nat.mul_comm h w] at g1; omega
              have hb2 : y * (w / 2) ≤ 2 * y * w := Nat.mul_le_mul (by omega) (Nat.div_le_self w 2)
              have hQ := kshx_lt (w := w) (hw := w / 2) (y := y) hK x
              refine j_iconst (pc' := 33) (v := (nI 2)) Cx dX3_shrink_32 rfl (by decide) ?_
              refine j_iload (pc' := 35) Cx dX3_shrink_33 rfl rfl ?_
              refine j_imul_n (pc' := 36) Cx dX3_shrink_35 rfl ?_
              refine j_aload_n (pc' := 37) Cx dX3_shrink_36 rfl rfl rfl ?_
              refine j_get (pc' := 40) (N := 6) Cx dX3_shrink_37 rfl kin_X3_shrink_X3 kfl_X3_shrink_25 0 rfl rfl 4 rfl rfl rfl ?_
              refine j_imul_n (pc' := 41) Cx dX3_shrink_40 rfl ?_
              refine j_iconst (pc' := 42) (v := (nI 2)) Cx dX3_shrink_41 rfl (by decide) ?_
              refine j_iload (pc' := 44) Cx dX3_shrink_42 rfl rfl ?_
              refine j_imul_n (pc' := 45) Cx dX3_shrink_44 rfl ?_
              refine j_iadd_n (pc' := 46) Cx dX3_shrink_45 rfl ?_
              refine j_istore (pc' := 48) (lv' := [(0, .ref s), (1, .ref a), (2, .int (nI (w / 2))), (3, .int (nI (h / 2))), (4, .int (nI y)), (5, .int (nI x)), (6, .int (nI (((2 * y) * w) + (2 * x))))]) Cx dX3_shrink_46 rfl (by decide) rfl ?_
              refine j_iload (pc' := 50) Cx dX3_shrink_48 rfl rfl ?_
              refine j_iload_n (pc' := 51) Cx dX3_shrink_50 rfl rfl rfl ?_
              refine j_imul_n (pc' := 52) Cx dX3_shrink_51 rfl ?_
              refine j_iload (pc' := 54) Cx dX3_shrink_52 rfl rfl ?_
              refine j_iadd_n (pc' := 55) Cx dX3_shrink_54 rfl ?_
              refine j_istore (pc' := 57) (lv' := [(0, .ref s), (1, .ref a), (2, .int (nI (w / 2))), (3, .int (nI (h / 2))), (4, .int (nI y)), (5, .int (nI x)), (6, .int (nI (((2 * y) * w) + (2 * x)))), (7, .int (nI ((y * (w / 2)) + x)))]) Cx dX3_shrink_55 rfl (by decide) rfl ?_
              refine j_iload (pc' := 59) Cx dX3_shrink_57 rfl rfl ?_
              refine j_if_lt_n (tgt := 128) (pc' := 62) Cx dX3_shrink_59 (by decide) rfl (by omega) ?_
              refine j_iload (pc' := 64) Cx dX3_shrink_62 rfl rfl ?_
              refine j_iload (pc' := 66) Cx dX3_shrink_64 rfl rfl ?_
              refine j_icmp_gt_n (tgt := 128) (pc' := 69) Cx dX3_shrink_66 (by decide) rfl (by omega) (by omega) (fun hh => absurd hh (by omega)) (fun _ => ?_)
              refine j_iload (pc' := 71) Cx dX3_shrink_69 rfl rfl ?_
              refine j_aload_n (pc' := 72) Cx dX3_shrink_71 rfl rfl rfl ?_
              refine j_get (pc' := 75) (N := 6) Cx dX3_shrink_72 rfl kin_X3_shrink_X3 kfl_X3_shrink_25 0 rfl rfl 4 rfl rfl rfl ?_
              refine j_iadd_n (pc' := 76) Cx dX3_shrink_75 rfl ?_
              refine j_iconst (pc' := 77) (v := (nI 1)) Cx dX3_shrink_76 rfl (by decide) ?_
              refine j_iadd_n (pc' := 78) Cx dX3_shrink_77 rfl ?_
              refine j_aload_n (pc' := 79) Cx dX3_shrink_78 rfl rfl rfl ?_
              refine j_alen (pc' := 80) (v := nI L) Cx dX3_shrink_79 rfl 1 rfl rfl rfl ?_
              refine j_icmp_ge_n (tgt := 128) (pc' := 83) Cx dX3_shrink_80 (by decide) rfl (by omega) (by omega) (fun hh => absurd hh (by omega)) (fun _ => ?_)
              have q0 := hQ (2 * y * w + 2 * x)
              have q1 := hQ (2 * y * w + 2 * x + 1)
              have q2 := hQ (2 * y * w + 2 * x + w)
              have q3 := hQ (2 * y * w + 2 * x + w + 1)
              refine j_aload_n (pc' := 84) Cx dX3_shrink_83 rfl rfl rfl ?_
              refine j_iload (pc' := 86) Cx dX3_shrink_84 rfl rfl ?_
              refine j_iaload_nn (pc' := 87) Cx dX3_shrink_86 rfl 1 rfl (by omega) (by omega) ?_
              refine j_aload_n (pc' := 88) Cx dX3_shrink_87 rfl rfl rfl ?_
              refine j_iload (pc' := 90) Cx dX3_shrink_88 rfl rfl ?_
              refine j_iconst (pc' := 91) (v := (nI 1)) Cx dX3_shrink_90 rfl (by decide) ?_
              refine j_iadd_n (pc' := 92) Cx dX3_shrink_91 rfl ?_
              refine j_iaload_nn (pc' := 93) Cx dX3_shrink_92 rfl 1 rfl (by omega) (by omega) ?_
              refine j_iadd_n (pc' := 94) Cx dX3_shrink_93 rfl ?_
              refine j_aload_n (pc' := 95) Cx dX3_shrink_94 rfl rfl rfl ?_
              refine j_iload (pc' := 97) Cx dX3_shrink_95 rfl rfl ?_
              refine j_aload_n (pc' := 98) Cx dX3_shrink_97 rfl rfl rfl ?_
              refine j_get (pc' := 101) (N := 6) Cx dX3_shrink_98 rfl kin_X3_shrink_X3 kfl_X3_shrink_25 0 rfl rfl 4 rfl rfl rfl ?_
              refine j_iadd_n (pc' := 102) Cx dX3_shrink_101 rfl ?_
              refine j_iaload_nn (pc' := 103) Cx dX3_shrink_102 rfl 1 rfl (by omega) (by omega) ?_
              refine j_iadd_n (pc' := 104) Cx dX3_shrink_103 rfl ?_
              refine j_aload_n (pc' := 105) Cx dX3_shrink_104 rfl rfl rfl ?_
              refine j_iload (pc' := 107) Cx dX3_shrink_105 rfl rfl ?_
              refine j_aload_n (pc' := 108) Cx dX3_shrink_107 rfl rfl rfl ?_
              refine j_get (pc' := 111) (N := 6) Cx dX3_shrink_108 rfl kin_X3_shrink_X3 kfl_X3_shrink_25 0 rfl rfl 4 rfl rfl rfl ?_
              refine j_iadd_n (pc' := 112) Cx dX3_shrink_111 rfl ?_
              refine j_iconst (pc' := 113) (v := (nI 1)) Cx dX3_shrink_112 rfl (by decide) ?_
              refine j_iadd_n (pc' := 114) Cx dX3_shrink_113 rfl ?_
              refine j_iaload_nn (pc' := 115) Cx dX3_shrink_114 rfl 1 rfl (by omega) (by omega) ?_
              refine j_iadd_n (pc' := 116) Cx dX3_shrink_115 rfl ?_
              refine j_istore (pc' := 118) (lv' := [(0, .ref s), (1, .ref a), (2, .int (nI (w / 2))), (3, .int (nI (h / 2))), (4, .int (nI y)), (5, .int (nI x)), (6, .int (nI (((2 * y) * w) + (2 * x)))), (7, .int (nI ((y * (w / 2)) + x))), (8, .int (nI (((((kshx w (w / 2) y x (kshy w (w / 2) y F)) (((2 * y) * w) + (2 * x))) + ((kshx w (w / 2) y x (kshy w (w / 2) y F)) ((((2 * y) * w) + (2 * x)) + 1))) + ((kshx w (w / 2) y x (kshy w (w / 2) y F)) ((((2 * y) * w) + (2 * x)) + w))) + ((kshx w (w / 2) y x (kshy w (w / 2) y F)) (((((2 * y) * w) + (2 * x)) + w) + 1)))))]) Cx dX3_shrink_116 rfl (by decide) rfl ?_
              refine j_aload_n (pc' := 119) Cx dX3_shrink_118 rfl rfl rfl ?_
              refine j_iload (pc' := 121) Cx dX3_shrink_119 rfl rfl ?_
              refine j_iload (pc' := 123) Cx dX3_shrink_121 rfl rfl ?_
              refine j_iconst (pc' := 124) (v := (nI 2)) Cx dX3_shrink_123 rfl (by decide) ?_
              refine j_iadd_n (pc' := 125) Cx dX3_shrink_124 rfl ?_
              refine j_iconst (pc' := 126) (v := (nI 4)) Cx dX3_shrink_125 rfl (by decide) ?_
              refine j_idiv_n (pc' := 127) Cx dX3_shrink_126 rfl (by omega) (by omega) (by omega) ?_
              refine j_iastore_nn (pc' := 128) (ws' := [(s, .inr (3, [.int (nI fw), .int (nI fh), .ref fa, .ref sa, .int (nI w), .int (nI h)])), (a, .inl (ty 0, L, .inl (kN (va_up (kshx w (w / 2) y x (kshy w (w / 2) y F)) ((y * (w / 2)) + x) (((((((kshx w (w / 2) y x (kshy w (w / 2) y F)) (((2 * y) * w) + (2 * x))) + ((kshx w (w / 2) y x (kshy w (w / 2) y F)) ((((2 * y) * w) + (2 * x)) + 1))) + ((kshx w (w / 2) y x (kshy w (w / 2) y F)) ((((2 * y) * w) + (2 * x)) + w))) + ((kshx w (w / 2) y x (kshy w (w / 2) y F)) (((((2 * y) * w) + (2 * x)) + w) + 1))) + 2) / 4)))))]) Cx dX3_shrink_127 rfl 1 rfl (by omega) (by omega) rfl ?_
              refine j_iinc_n (pc' := 131) (z := 1) (a := x) (lv' := [(0, .ref s), (1, .ref a), (2, .int (nI (w / 2))), (3, .int (nI (h / 2))), (4, .int (nI y)), (5, .int (nI (x + 1))), (6, .int (nI (((2 * y) * w) + (2 * x)))), (7, .int (nI ((y * (w / 2)) + x))), (8, .int (nI (((((kshx w (w / 2) y x (kshy w (w / 2) y F)) (((2 * y) * w) + (2 * x))) + ((kshx w (w / 2) y x (kshy w (w / 2) y F)) ((((2 * y) * w) + (2 * x)) + 1))) + ((kshx w (w / 2) y x (kshy w (w / 2) y F)) ((((2 * y) * w) + (2 * x)) + w))) + ((kshx w (w / 2) y x (kshy w (w / 2) y F)) (((((2 * y) * w) + (2 * x)) + w) + 1)))))]) Cx dX3_shrink_128 rfl rfl (by decide) rfl ?_
              refine j_goto (tgt := 26) Cx dX3_shrink_131 (by decide) ?_
              refine J.lvs (lv' := [(0, .ref s), (1, .ref a), (2, .int (nI (w / 2))), (3, .int (nI (h / 2))), (4, .int (nI y)), (5, .int (nI (x + 1)))]) [0, 1, 2, 3, 4, 5] rfl ?_
              refine J.cast (ws' := [(s, .inr (3, [.int (nI fw), .int (nI fh), .ref fa, .ref sa, .int (nI w), .int (nI h)])), (a, .inl (ty 0, L, .inl (kN (kshx w (w / 2) y (x + 1) (kshy w (w / 2) y F)))))]) (lv' := [(0, .ref s), (1, .ref a), (2, .int (nI (w / 2))), (3, .int (nI (h / 2))), (4, .int (nI y)), (5, .int (nI (x + 1)))]) (pc' := 26) (st' := []) (rfl) (rfl) rfl (rfl) rfl rfl ?_
              exact LQ_ih (x + 1) (by omega) (by omega)
        exact LQ (w / 2 + 1) 0 (by omega) (Nat.zero_le _)
  exact LP (h / 2 + 1) 0 (by omega) (Nat.zero_le _)

set_option maxHeartbeats 4000000 in
set_option maxRecDepth 100000 in
/-- ScaledGreys.halve -/
theorem c_X3_halve (l : Launch) (D : va_G) (ty : Nat → ClassId) (s fa sa fw fh L w h : Nat) (F G : Nat → Nat) (hF : ∀ i, F i < 256) (hG : ∀ i, G i < 256) (hL : L ≤ 576) (hwh : w * h ≤ L) (hw : w ≤ 24) (hh : h ≤ 24) : KM l yX3_halve wsX3_halve { frames := 1, cells := 0, slots := 0, locals := 40 } D ty [.ref s] [(s, .inr (3, [.int (nI fw), .int (nI fh), .ref fa, .ref sa, .int (nI w), .int (nI h)])), (fa, .inl (ty 0, L, .inl (kN F))), (sa, .inl (ty 0, L, .inl (kN G)))] (kV (fun u => u = [(s, .inr (3, [.int (nI fw), .int (nI fh), .ref fa, .ref sa, .int (nI (w / 2)), .int (nI (h / 2))])), (fa, .inl (ty 0, L, .inl (kN (khalf w h F)))), (sa, .inl (ty 0, L, .inl (kN (khalf w h G))))])) 0 0 := by
  refine KM.of (cc := cX3_halve) (maxL := 1) (ret := none) (lv := [(0, .ref s)]) (by decide +kernel) rfl rfl rfl (fun X C0 R0 => ?_)
  have Cx : kC X cX3_halve wsX3_halve RX3 { frames := 1, cells := 0, slots := 0, locals := 40 } "halve" l D ty 1 := C0
  refine j_aload_n (pc' := 1) Cx dX3_halve_0 rfl rfl rfl ?_
  refine j_aload_n (pc' := 2) Cx dX3_halve_1 rfl rfl rfl ?_
  refine j_get (pc' := 5) (N := 6) Cx dX3_halve_2 rfl kin_X3_halve_X3 kfl_X3_halve_18 0 rfl rfl 2 rfl rfl rfl ?_
  refine j_callV (pc' := 8) (wr := [(sa, .inl (ty 0, L, .inl (kN G)))]) (st := []) Cx dX3_halve_5 rfl (c_X3_shrink l D ty s fa sa fa fw fh L w h F hF hL hwh hw hh) gX3_halve_X3_shrink rfl khd_X3_shrink rfl ⟨rfl, rfl, Nat.le_of_ble_eq_true rfl, Nat.le_of_ble_eq_true rfl⟩ [0, 1] [2] rfl rfl ⟨rfl, rfl⟩ (by decide) 0 rfl rfl rfl (Nat.le_of_ble_eq_true rfl) ⟨Nat.le_of_ble_eq_true rfl, Nat.le_of_ble_eq_true rfl⟩ (fun v u hpost => ?_)
  obtain ⟨rfl, rfl⟩ := hpost
  show J X [(sa, .inl (ty 0, L, .inl (kN G))), (s, .inr (3, [.int (nI fw), .int (nI fh), .ref fa, .ref sa, .int (nI w), .int (nI h)])), (fa, .inl (ty 0, L, .inl (kN (khalf w h F))))] [(0, .ref s)] 8 [] 0 0
  refine J.sub (ws' := [(s, .inr (3, [.int (nI fw), .int (nI fh), .ref fa, .ref sa, .int (nI w), .int (nI h)])), (fa, .inl (ty 0, L, .inl (kN (khalf w h F)))), (sa, .inl (ty 0, L, .inl (kN G)))]) [1, 2, 0] rfl rfl ?_
  refine j_aload_n (pc' := 9) Cx dX3_halve_8 rfl rfl rfl ?_
  refine j_aload_n (pc' := 10) Cx dX3_halve_9 rfl rfl rfl ?_
  refine j_get (pc' := 13) (N := 6) Cx dX3_halve_10 rfl kin_X3_halve_X3 kfl_X3_halve_22 0 rfl rfl 3 rfl rfl rfl ?_
  refine j_callV (pc' := 16) (wr := [(fa, .inl (ty 0, L, .inl (kN (khalf w h F))))]) (st := []) Cx dX3_halve_13 rfl (c_X3_shrink l D ty s fa sa sa fw fh L w h G hG hL hwh hw hh) gX3_halve_X3_shrink rfl khd_X3_shrink rfl ⟨rfl, rfl, Nat.le_of_ble_eq_true rfl, Nat.le_of_ble_eq_true rfl⟩ [0, 2] [1] rfl rfl ⟨rfl, rfl⟩ (by decide) 0 rfl rfl rfl (Nat.le_of_ble_eq_true rfl) ⟨Nat.le_of_ble_eq_true rfl, Nat.le_of_ble_eq_true rfl⟩ (fun v u hpost => ?_)
  obtain ⟨rfl, rfl⟩ := hpost
  show J X [(fa, .inl (ty 0, L, .inl (kN (khalf w h F)))), (s, .inr (3, [.int (nI fw), .int (nI fh), .ref fa, .ref sa, .int (nI w), .int (nI h)])), (sa, .inl (ty 0, L, .inl (kN (khalf w h G))))] [(0, .ref s)] 16 [] 0 0
  refine J.sub (ws' := [(s, .inr (3, [.int (nI fw), .int (nI fh), .ref fa, .ref sa, .int (nI w), .int (nI h)])), (fa, .inl (ty 0, L, .inl (kN (khalf w h F)))), (sa, .inl (ty 0, L, .inl (kN (khalf w h G))))]) [1, 0, 2] rfl rfl ?_
  refine j_aload_n (pc' := 17) Cx dX3_halve_16 rfl rfl rfl ?_
  refine j_dup (pc' := 18) Cx dX3_halve_17 rfl rfl ?_
  refine j_get (pc' := 21) (N := 6) Cx dX3_halve_18 rfl kin_X3_halve_X3 kfl_X3_halve_25 0 rfl rfl 4 rfl rfl rfl ?_
  refine j_iconst (pc' := 22) (v := (nI 2)) Cx dX3_halve_21 rfl (by decide) ?_
  refine j_idiv_n (pc' := 23) Cx dX3_halve_22 rfl (by omega) (by omega) (by omega) ?_
  refine j_put (pc' := 26) (N := 6) (t := .int) (ws' := [(s, .inr (3, [.int (nI fw), .int (nI fh), .ref fa, .ref sa, .int (nI (w / 2)), .int (nI h)])), (fa, .inl (ty 0, L, .inl (kN (khalf w h F)))), (sa, .inl (ty 0, L, .inl (kN (khalf w h G))))]) Cx dX3_halve_23 rfl kin_X3_halve_X3 kfl_X3_halve_25 tyX3_ok nmX3 0 rfl rfl 4 rfl rfl rfl rfl rfl rfl rfl ?_
  refine j_aload_n (pc' := 27) Cx dX3_halve_26 rfl rfl rfl ?_
  refine j_dup (pc' := 28) Cx dX3_halve_27 rfl rfl ?_
  refine j_get (pc' := 31) (N := 6) Cx dX3_halve_28 rfl kin_X3_halve_X3 kfl_X3_halve_28 0 rfl rfl 5 rfl rfl rfl ?_
  refine j_iconst (pc' := 32) (v := (nI 2)) Cx dX3_halve_31 rfl (by decide) ?_
  refine j_idiv_n (pc' := 33) Cx dX3_halve_32 rfl (by omega) (by omega) (by omega) ?_
  refine j_put (pc' := 36) (N := 6) (t := .int) (ws' := [(s, .inr (3, [.int (nI fw), .int (nI fh), .ref fa, .ref sa, .int (nI (w / 2)), .int (nI (h / 2))])), (fa, .inl (ty 0, L, .inl (kN (khalf w h F)))), (sa, .inl (ty 0, L, .inl (kN (khalf w h G))))]) Cx dX3_halve_33 rfl kin_X3_halve_X3 kfl_X3_halve_28 tyX3_ok nmX3 0 rfl rfl 5 rfl rfl rfl rfl rfl rfl rfl ?_
  exact j_vret Cx dX3_halve_36 R0 ⟨Nat.le_of_ble_eq_true rfl, Nat.le_of_ble_eq_true rfl⟩ (⟨rfl, rfl⟩)

set_option maxHeartbeats 4000000 in
set_option maxRecDepth 100000 in
/-- ScaledGreys.ratio -/
theorem c_X3_ratio (l : Launch) (D : va_G) (ty : Nat → ClassId) (m p v q : Int64) (hp : kSm p) (hq : kSm q) : KM l yX3_ratio wsX3_ratio { frames := 0, cells := 0, slots := 0, locals := 0 } D ty [.double (FP.l2d m), .double (FP.l2d p), .double (FP.l2d v), .double (FP.l2d q)] [] (kF (fun r u => r = kratio (FP.l2d m) (FP.l2d p) (FP.l2d v) (FP.l2d q) ∧ u = [])) 0 0 := by
  refine KM.of (cc := cX3_ratio) (maxL := 12) (ret := (some .double)) (lv := [(0, .double (FP.l2d m)), (2, .double (FP.l2d p)), (4, .double (FP.l2d v)), (6, .double (FP.l2d q))]) (by decide +kernel) rfl rfl rfl (fun X C0 R0 => ?_)
  have Cx : kC X cX3_ratio wsX3_ratio RX3 { frames := 0, cells := 0, slots := 0, locals := 0 } "ratio" l D ty 12 := C0
  have hd := k_den hp hq
  refine j_ldc2d (pc' := 3) (v := 4691063147270766592) Cx dX3_ratio_0 rfl (by decide +kernel) ?_
  refine j_dstore (pc' := 5) (lv' := [(0, .double (FP.l2d m)), (2, .double (FP.l2d p)), (4, .double (FP.l2d v)), (6, .double (FP.l2d q)), (8, .double (4691063147270766592))]) Cx dX3_ratio_3 rfl (by decide) rfl ?_
  refine j_ldc2d (pc' := 8) (v := 4705488881561108480) Cx dX3_ratio_5 rfl (by decide +kernel) ?_
  refine j_dstore (pc' := 10) (lv' := [(0, .double (FP.l2d m)), (2, .double (FP.l2d p)), (4, .double (FP.l2d v)), (6, .double (FP.l2d q)), (8, .double (4691063147270766592)), (10, .double (4705488881561108480))]) Cx dX3_ratio_8 rfl (by decide) rfl ?_
  refine j_ldc2d (pc' := 13) (v := 4611686018427387904) Cx dX3_ratio_10 rfl (by decide +kernel) ?_
  refine j_dload_n (pc' := 14) Cx dX3_ratio_13 rfl rfl rfl ?_
  refine j_dmul (pc' := 15) Cx dX3_ratio_14 rfl (k_mul2_no m) ?_
  refine j_dload (pc' := 17) Cx dX3_ratio_15 rfl rfl ?_
  refine j_dadd (pc' := 18) Cx dX3_ratio_17 rfl (k_num_no m k_c_mag) ?_
  refine j_ldc2d (pc' := 21) (v := 4611686018427387904) Cx dX3_ratio_18 rfl (by decide +kernel) ?_
  refine j_dload (pc' := 23) Cx dX3_ratio_21 rfl rfl ?_
  refine j_dmul (pc' := 24) Cx dX3_ratio_23 rfl (k_mul2_no v) ?_
  refine j_dload (pc' := 26) Cx dX3_ratio_24 rfl rfl ?_
  refine j_dadd (pc' := 27) Cx dX3_ratio_26 rfl (k_num_no v k_d_mag) ?_
  refine j_dmul (pc' := 28) Cx dX3_ratio_27 rfl (k_nn_no m v) ?_
  refine j_dload_n (pc' := 29) Cx dX3_ratio_28 rfl rfl rfl ?_
  refine j_dload (pc' := 31) Cx dX3_ratio_29 rfl rfl ?_
  refine j_dadd (pc' := 32) Cx dX3_ratio_31 rfl (hd.1) ?_
  refine j_dload (pc' := 34) Cx dX3_ratio_32 rfl rfl ?_
  refine j_dload (pc' := 36) Cx dX3_ratio_34 rfl rfl ?_
  refine j_dadd (pc' := 37) Cx dX3_ratio_36 rfl (hd.2.1) ?_
  refine j_dmul (pc' := 38) Cx dX3_ratio_37 rfl (hd.2.2.1) ?_
  refine j_ddiv (pc' := 39) Cx dX3_ratio_38 rfl ((k_ratio_no hp hq).1) ?_
  exact j_dret Cx dX3_ratio_39 R0 ⟨Nat.le_of_ble_eq_true rfl, Nat.le_of_ble_eq_true rfl⟩ (⟨_, rfl, rfl, rfl⟩)

set_option maxHeartbeats 4000000 in
set_option maxRecDepth 100000 in
/-- ScaledGreys.likenessAt -/
theorem c_X3_likenessAt (l : Launch) (D : va_G) (ty : Nat → ClassId) (s fa sa fw fh L w h : Nat) (F G : Nat → Nat) (hF : ∀ i, F i < 256) (hG : ∀ i, G i < 256) (hL : L ≤ 576) (x y : Nat) (hx : x + 4 < w) (hy : y + 4 < h) (hwh : w * h ≤ L) (hw : w ≤ 24) (hh : h ≤ 24) : KM l yX3_likenessAt wsX3_likenessAt { frames := 1, cells := 0, slots := 0, locals := 40 } D ty [.ref s, .int (nI x), .int (nI y)] [(s, .inr (3, [.int (nI fw), .int (nI fh), .ref fa, .ref sa, .int (nI w), .int (nI h)])), (fa, .inl (ty 0, L, .inl (kN F))), (sa, .inl (ty 0, L, .inl (kN G)))] (kF (fun r u => r = kcell w x y F G ∧ u = [(s, .inr (3, [.int (nI fw), .int (nI fh), .ref fa, .ref sa, .int (nI w), .int (nI h)])), (fa, .inl (ty 0, L, .inl (kN F))), (sa, .inl (ty 0, L, .inl (kN G)))])) 0 0 := by
  refine KM.of (cc := cX3_likenessAt) (maxL := 22) (ret := (some .double)) (lv := [(0, .ref s), (1, .int (nI x)), (2, .int (nI y))]) (by decide +kernel) rfl rfl rfl (fun X C0 R0 => ?_)
  have Cx : kC X cX3_likenessAt wsX3_likenessAt RX3 { frames := 1, cells := 0, slots := 0, locals := 40 } "likenessAt" l D ty 22 := C0
  refine j_lconst (pc' := 1) (v := (lN 0)) Cx dX3_likenessAt_0 rfl rfl ?_
  refine j_lstore_n (pc' := 2) (lv' := [(0, .ref s), (1, .int (nI x)), (2, .int (nI y)), (3, .long (lN 0))]) Cx dX3_likenessAt_1 rfl rfl (by decide) rfl ?_
  refine j_lconst (pc' := 3) (v := (lN 0)) Cx dX3_likenessAt_2 rfl rfl ?_
  refine j_lstore (pc' := 5) (lv' := [(0, .ref s), (1, .int (nI x)), (2, .int (nI y)), (3, .long (lN 0)), (5, .long (lN 0))]) Cx dX3_likenessAt_3 rfl (by decide) rfl ?_
  refine j_lconst (pc' := 6) (v := (lN 0)) Cx dX3_likenessAt_5 rfl rfl ?_
  refine j_lstore (pc' := 8) (lv' := [(0, .ref s), (1, .int (nI x)), (2, .int (nI y)), (3, .long (lN 0)), (5, .long (lN 0)), (7, .long (lN 0))]) Cx dX3_likenessAt_6 rfl (by decide) rfl ?_
  refine j_lconst (pc' := 9) (v := (lN 0)) Cx dX3_likenessAt_8 rfl rfl ?_
  refine j_lstore (pc' := 11) (lv' := [(0, .ref s), (1, .int (nI x)), (2, .int (nI y)), (3, .long (lN 0)), (5, .long (lN 0)), (7, .long (lN 0)), (9, .long (lN 0))]) Cx dX3_likenessAt_9 rfl (by decide) rfl ?_
  refine j_lconst (pc' := 12) (v := (lN 0)) Cx dX3_likenessAt_11 rfl rfl ?_
  refine j_lstore (pc' := 14) (lv' := [(0, .ref s), (1, .int (nI x)), (2, .int (nI y)), (3, .long (lN 0)), (5, .long (lN 0)), (7, .long (lN 0)), (9, .long (lN 0)), (11, .long (lN 0))]) Cx dX3_likenessAt_12 rfl (by decide) rfl ?_
  refine j_iconst (pc' := 15) (v := (nI 0)) Cx dX3_likenessAt_14 rfl (by decide) ?_
  refine j_istore (pc' := 17) (lv' := [(0, .ref s), (1, .int (nI x)), (2, .int (nI y)), (3, .long (lN 0)), (5, .long (lN 0)), (7, .long (lN 0)), (9, .long (lN 0)), (11, .long (lN 0)), (13, .int (nI 0))]) Cx dX3_likenessAt_15 rfl (by decide) rfl ?_
  have LP : ∀ (LP_n : Nat), ∀ (j : Nat), (5 - j < LP_n) → (j ≤ 5) → J X [(s, .inr (3, [.int (nI fw), .int (nI fh), .ref fa, .ref sa, .int (nI w), .int (nI h)])), (fa, .inl (ty 0, L, .inl (kN F))), (sa, .inl (ty 0, L, .inl (kN G)))] [(0, .ref s), (1, .int (nI x)), (2, .int (nI y)), (3, .long (lN (ks5 (kca w x y F) j 0))), (5, .long (lN (ks5 (kca w x y G) j 0))), (7, .long (lN (ks5 (kcb w x y F F) j 0))), (9, .long (lN (ks5 (kcb w x y G G) j 0))), (11, .long (lN (ks5 (kcb w x y F G) j 0))), (13, .int (nI j))] 17 [] 0 0 := by
    intro LP_n
    induction LP_n with
    | zero =>
      intro j hms _
      exact absurd hms (Nat.not_lt_zero _)
    | succ LP_n LP_ih =>
      intro j LP_m hle
      refine j_iload (pc' := 19) Cx dX3_likenessAt_17 rfl rfl ?_
      refine j_weights (pc' := 22) Cx dX3_likenessAt_19 rfl rfl (fun t1 t1l t1d => ?_)
      refine t1l _ _ _ _ _ _ dX3_likenessAt_22 ?_
      show J X [(s, .inr (3, [.int (nI fw), .int (nI fh), .ref fa, .ref sa, .int (nI w), .int (nI h)])), (fa, .inl (ty 0, L, .inl (kN F))), (sa, .inl (ty 0, L, .inl (kN G)))] [(0, .ref s), (1, .int (nI x)), (2, .int (nI y)), (3, .long (lN (ks5 (kca w x y F) j 0))), (5, .long (lN (ks5 (kca w x y G) j 0))), (7, .long (lN (ks5 (kcb w x y F F) j 0))), (9, .long (lN (ks5 (kcb w x y G G) j 0))), (11, .long (lN (ks5 (kcb w x y F G) j 0))), (13, .int (nI j))] 23 [.int (nI 5), .int (nI j)] 0 0
      refine j_icmp_ge_n (tgt := 189) (pc' := 26) Cx dX3_likenessAt_23 (by decide) rfl (by omega) (by omega) (fun hj => ?_) (fun hj => ?_)
      · have e : j = 5 := by omega
        subst e
        have hsm := kcell_sm (w := w) (left := x) (top := y) hF hG
        refine j_lload_n (pc' := 190) Cx dX3_likenessAt_189 rfl rfl rfl ?_
        refine j_lload (pc' := 192) Cx dX3_likenessAt_190 rfl rfl ?_
        refine j_lmul_n (pc' := 193) Cx dX3_likenessAt_192 rfl ?_
        refine j_l2d (pc' := 194) Cx dX3_likenessAt_193 rfl ?_
        refine j_dstore (pc' := 196) (lv' := [(0, .ref s), (1, .int (nI x)), (2, .int (nI y)), (3, .long (lN (ks5 (kca w x y F) 5 0))), (5, .long (lN (ks5 (kca w x y G) 5 0))), (7, .long (lN (ks5 (kcb w x y F F) 5 0))), (9, .long (lN (ks5 (kcb w x y G G) 5 0))), (11, .long (lN (ks5 (kcb w x y F G) 5 0))), (13, .double (FP.l2d (lN ((ks5 (kca w x y F) 5 0) * (ks5 (kca w x y G) 5 0)))))]) Cx dX3_likenessAt_194 rfl (by decide) rfl ?_
        refine j_lload_n (pc' := 197) Cx dX3_likenessAt_196 rfl rfl rfl ?_
        refine j_lload_n (pc' := 198) Cx dX3_likenessAt_197 rfl rfl rfl ?_
        refine j_lmul_n (pc' := 199) Cx dX3_likenessAt_198 rfl ?_
        refine j_lload (pc' := 201) Cx dX3_likenessAt_199 rfl rfl ?_
        refine j_lload (pc' := 203) Cx dX3_likenessAt_201 rfl rfl ?_
        refine j_lmul_n (pc' := 204) Cx dX3_likenessAt_203 rfl ?_
        refine j_ladd_n (pc' := 205) Cx dX3_likenessAt_204 rfl ?_
        refine j_l2d (pc' := 206) Cx dX3_likenessAt_205 rfl ?_
        refine j_dstore (pc' := 208) (lv' := [(0, .ref s), (1, .int (nI x)), (2, .int (nI y)), (3, .long (lN (ks5 (kca w x y F) 5 0))), (5, .long (lN (ks5 (kca w x y G) 5 0))), (7, .long (lN (ks5 (kcb w x y F F) 5 0))), (9, .long (lN (ks5 (kcb w x y G G) 5 0))), (11, .long (lN (ks5 (kcb w x y F G) 5 0))), (13, .double (FP.l2d (lN ((ks5 (kca w x y F) 5 0) * (ks5 (kca w x y G) 5 0))))), (15, .double (FP.l2d (lN (((ks5 (kca w x y F) 5 0) * (ks5 (kca w x y F) 5 0)) + ((ks5 (kca w x y G) 5 0) * (ks5 (kca w x y G) 5 0))))))]) Cx dX3_likenessAt_206 rfl (by decide) rfl ?_
        refine j_ldc2 (pc' := 211) (v := 256) Cx dX3_likenessAt_208 rfl (by decide +kernel) ?_
        refine j_lload (pc' := 213) Cx dX3_likenessAt_211 rfl rfl ?_
        refine j_lmul (pc' := 214) Cx dX3_likenessAt_213 rfl ?_
        refine j_lload_n (pc' := 215) Cx dX3_likenessAt_214 rfl rfl rfl ?_
        refine j_lload (pc' := 217) Cx dX3_likenessAt_215 rfl rfl ?_
        refine j_lmul_n (pc' := 218) Cx dX3_likenessAt_217 rfl ?_
        refine j_lsub (pc' := 219) Cx dX3_likenessAt_218 rfl ?_
        refine j_l2d (pc' := 220) Cx dX3_likenessAt_219 rfl ?_
        refine j_dstore (pc' := 222) (lv' := [(0, .ref s), (1, .int (nI x)), (2, .int (nI y)), (3, .long (lN (ks5 (kca w x y F) 5 0))), (5, .long (lN (ks5 (kca w x y G) 5 0))), (7, .long (lN (ks5 (kcb w x y F F) 5 0))), (9, .long (lN (ks5 (kcb w x y G G) 5 0))), (11, .long (lN (ks5 (kcb w x y F G) 5 0))), (13, .double (FP.l2d (lN ((ks5 (kca w x y F) 5 0) * (ks5 (kca w x y G) 5 0))))), (15, .double (FP.l2d (lN (((ks5 (kca w x y F) 5 0) * (ks5 (kca w x y F) 5 0)) + ((ks5 (kca w x y G) 5 0) * (ks5 (kca w x y G) 5 0)))))), (17, .double (FP.l2d ((256 * (lN (ks5 (kcb w x y F G) 5 0))) - (lN ((ks5 (kca w x y F) 5 0) * (ks5 (kca w x y G) 5 0))))))]) Cx dX3_likenessAt_220 rfl (by decide) rfl ?_
        refine j_ldc2 (pc' := 225) (v := 256) Cx dX3_likenessAt_222 rfl (by decide +kernel) ?_
        refine j_lload (pc' := 227) Cx dX3_likenessAt_225 rfl rfl ?_
        refine j_lmul (pc' := 228) Cx dX3_likenessAt_227 rfl ?_
        refine j_lload_n (pc' := 229) Cx dX3_likenessAt_228 rfl rfl rfl ?_
        refine j_lload_n (pc' := 230) Cx dX3_likenessAt_229 rfl rfl rfl ?_
        refine j_lmul_n (pc' := 231) Cx dX3_likenessAt_230 rfl ?_
        refine j_lsub (pc' := 232) Cx dX3_likenessAt_231 rfl ?_
        refine j_ldc2 (pc' := 235) (v := 256) Cx dX3_likenessAt_232 rfl (by decide +kernel) ?_
        refine j_lload (pc' := 237) Cx dX3_likenessAt_235 rfl rfl ?_
        refine j_lmul (pc' := 238) Cx dX3_likenessAt_237 rfl ?_
        refine j_ladd (pc' := 239) Cx dX3_likenessAt_238 rfl ?_
        refine j_lload (pc' := 241) Cx dX3_likenessAt_239 rfl rfl ?_
        refine j_lload (pc' := 243) Cx dX3_likenessAt_241 rfl rfl ?_
        refine j_lmul_n (pc' := 244) Cx dX3_likenessAt_243 rfl ?_
        refine j_lsub (pc' := 245) Cx dX3_likenessAt_244 rfl ?_
        refine j_l2d (pc' := 246) Cx dX3_likenessAt_245 rfl ?_
        refine j_dstore (pc' := 248) (lv' := [(0, .ref s), (1, .int (nI x)), (2, .int (nI y)), (3, .long (lN (ks5 (kca w x y F) 5 0))), (5, .long (lN (ks5 (kca w x y G) 5 0))), (7, .long (lN (ks5 (kcb w x y F F) 5 0))), (9, .long (lN (ks5 (kcb w x y G G) 5 0))), (11, .long (lN (ks5 (kcb w x y F G) 5 0))), (13, .double (FP.l2d (lN ((ks5 (kca w x y F) 5 0) * (ks5 (kca w x y G) 5 0))))), (15, .double (FP.l2d (lN (((ks5 (kca w x y F) 5 0) * (ks5 (kca w x y F) 5 0)) + ((ks5 (kca w x y G) 5 0) * (ks5 (kca w x y G) 5 0)))))), (17, .double (FP.l2d ((256 * (lN (ks5 (kcb w x y F G) 5 0))) - (lN ((ks5 (kca w x y F) 5 0) * (ks5 (kca w x y G) 5 0)))))), (19, .double (FP.l2d ((((256 * (lN (ks5 (kcb w x y F F) 5 0))) - (lN ((ks5 (kca w x y F) 5 0) * (ks5 (kca w x y F) 5 0)))) + (256 * (lN (ks5 (kcb w x y G G) 5 0)))) - (lN ((ks5 (kca w x y G) 5 0) * (ks5 (kca w x y G) 5 0))))))]) Cx dX3_likenessAt_246 rfl (by decide) rfl ?_
        refine j_dload (pc' := 250) Cx dX3_likenessAt_248 rfl rfl ?_
        refine j_dload (pc' := 252) Cx dX3_likenessAt_250 rfl rfl ?_
        refine j_dload (pc' := 254) Cx dX3_likenessAt_252 rfl rfl ?_
        refine j_dload (pc' := 256) Cx dX3_likenessAt_254 rfl rfl ?_
        refine J.cast (ws' := [(s, .inr (3, [.int (nI fw), .int (nI fh), .ref fa, .ref sa, .int (nI w), .int (nI h)])), (fa, .inl (ty 0, L, .inl (kN F))), (sa, .inl (ty 0, L, .inl (kN G)))]) (lv' := [(0, .ref s), (1, .int (nI x)), (2, .int (nI y)), (3, .long (lN (ks5 (kca w x y F) 5 0))), (5, .long (lN (ks5 (kca w x y G) 5 0))), (7, .long (lN (ks5 (kcb w x y F F) 5 0))), (9, .long (lN (ks5 (kcb w x y G G) 5 0))), (11, .long (lN (ks5 (kcb w x y F G) 5 0))), (13, .double (FP.l2d (lN ((ks5 (kca w x y F) 5 0) * (ks5 (kca w x y G) 5 0))))), (15, .double (FP.l2d (lN (((ks5 (kca w x y F) 5 0) * (ks5 (kca w x y F) 5 0)) + ((ks5 (kca w x y G) 5 0) * (ks5 (kca w x y G) 5 0)))))), (17, .double (FP.l2d ((256 * (lN (ks5 (kcb w x y F G) 5 0))) - (lN ((ks5 (kca w x y F) 5 0) * (ks5 (kca w x y G) 5 0)))))), (19, .double (FP.l2d ((((256 * (lN (ks5 (kcb w x y F F) 5 0))) - (lN ((ks5 (kca w x y F) 5 0) * (ks5 (kca w x y F) 5 0)))) + (256 * (lN (ks5 (kcb w x y G G) 5 0)))) - (lN ((ks5 (kca w x y G) 5 0) * (ks5 (kca w x y G) 5 0))))))]) (pc' := 256) (st' := [.double (FP.l2d (256 * lN (ks5 (kcb w x y F F) 5 0) - lN (ks5 (kca w x y F) 5 0 * ks5 (kca w x y F) 5 0) + 256 * lN (ks5 (kcb w x y G G) 5 0) - lN (ks5 (kca w x y G) 5 0 * ks5 (kca w x y G) 5 0))), .double (FP.l2d (256 * lN (ks5 (kcb w x y F G) 5 0) - lN (ks5 (kca w x y F) 5 0 * ks5 (kca w x y G) 5 0))), .double (FP.l2d (lN (ks5 (kca w x y F) 5 0 * ks5 (kca w x y F) 5 0 + ks5 (kca w x y G) 5 0 * ks5 (kca w x y G) 5 0))), .double (FP.l2d (lN (ks5 (kca w x y F) 5 0 * ks5 (kca w x y G) 5 0)))]) (rfl) (rfl) rfl (rfl) rfl rfl ?_
        refine j_callS (pc' := 259) (wr := [(s, .inr (3, [.int (nI fw), .int (nI fh), .ref fa, .ref sa, .int (nI w), .int (nI h)])), (fa, .inl (ty 0, L, .inl (kN F))), (sa, .inl (ty 0, L, .inl (kN G)))]) (st := []) Cx dX3_likenessAt_256 rfl (c_X3_ratio l D ty _ _ _ _ hsm.1 hsm.2) gX3_likenessAt_X3_ratio rfl khd_X3_ratio rfl ⟨rfl, rfl, Nat.le_of_ble_eq_true rfl, Nat.le_of_ble_eq_true rfl⟩ [] [0, 1, 2] rfl rfl ⟨rfl, rfl⟩ (by decide) rfl (Nat.le_of_ble_eq_true rfl) ⟨Nat.le_of_ble_eq_true rfl, Nat.le_of_ble_eq_true rfl⟩ (fun v u hpost => ?_)
        obtain ⟨r, rfl, rfl, rfl⟩ := hpost
        show J X [(s, .inr (3, [.int (nI fw), .int (nI fh), .ref fa, .ref sa, .int (nI w), .int (nI h)])), (fa, .inl (ty 0, L, .inl (kN F))), (sa, .inl (ty 0, L, .inl (kN G)))] [(0, .ref s), (1, .int (nI x)), (2, .int (nI y)), (3, .long (lN (ks5 (kca w x y F) 5 0))), (5, .long (lN (ks5 (kca w x y G) 5 0))), (7, .long (lN (ks5 (kcb w x y F F) 5 0))), (9, .long (lN (ks5 (kcb w x y G G) 5 0))), (11, .long (lN (ks5 (kcb w x y F G) 5 0))), (13, .double (FP.l2d (lN ((ks5 (kca w x y F) 5 0) * (ks5 (kca w x y G) 5 0))))), (15, .double (FP.l2d (lN (((ks5 (kca w x y F) 5 0) * (ks5 (kca w x y F) 5 0)) + ((ks5 (kca w x y G) 5 0) * (ks5 (kca w x y G) 5 0)))))), (17, .double (FP.l2d ((256 * (lN (ks5 (kcb w x y F G) 5 0))) - (lN ((ks5 (kca w x y F) 5 0) * (ks5 (kca w x y G) 5 0)))))), (19, .double (FP.l2d ((((256 * (lN (ks5 (kcb w x y F F) 5 0))) - (lN ((ks5 (kca w x y F) 5 0) * (ks5 (kca w x y F) 5 0)))) + (256 * (lN (ks5 (kcb w x y G G) 5 0)))) - (lN ((ks5 (kca w x y G) 5 0) * (ks5 (kca w x y G) 5 0))))))] 259 [.double (kcell w x y F G)] 0 0
        exact j_dret Cx dX3_likenessAt_259 R0 ⟨Nat.le_of_ble_eq_true rfl, Nat.le_of_ble_eq_true rfl⟩ (⟨_, rfl, rfl, rfl⟩)
      · refine j_iload_n (pc' := 27) Cx dX3_likenessAt_26 rfl rfl rfl ?_
        refine j_iload (pc' := 29) Cx dX3_likenessAt_27 rfl rfl ?_
        refine j_iadd_n (pc' := 30) Cx dX3_likenessAt_29 rfl ?_
        refine j_aload_n (pc' := 31) Cx dX3_likenessAt_30 rfl rfl rfl ?_
        refine j_get (pc' := 34) (N := 6) Cx dX3_likenessAt_31 rfl kin_X3_likenessAt_X3 kfl_X3_likenessAt_25 0 rfl rfl 4 rfl rfl rfl ?_
        refine j_imul_n (pc' := 35) Cx dX3_likenessAt_34 rfl ?_
        refine j_iload_n (pc' := 36) Cx dX3_likenessAt_35 rfl rfl rfl ?_
        refine j_iadd_n (pc' := 37) Cx dX3_likenessAt_36 rfl ?_
        refine j_istore (pc' := 39) (lv' := [(0, .ref s), (1, .int (nI x)), (2, .int (nI y)), (3, .long (lN (ks5 (kca w x y F) j 0))), (5, .long (lN (ks5 (kca w x y G) j 0))), (7, .long (lN (ks5 (kcb w x y F F) j 0))), (9, .long (lN (ks5 (kcb w x y G G) j 0))), (11, .long (lN (ks5 (kcb w x y F G) j 0))), (13, .int (nI j)), (14, .int (nI (((y + j) * w) + x)))]) Cx dX3_likenessAt_37 rfl (by decide) rfl ?_
        refine j_iconst (pc' := 40) (v := (nI 0)) Cx dX3_likenessAt_39 rfl (by decide) ?_
        refine j_istore (pc' := 42) (lv' := [(0, .ref s), (1, .int (nI x)), (2, .int (nI y)), (3, .long (lN (ks5 (kca w x y F) j 0))), (5, .long (lN (ks5 (kca w x y G) j 0))), (7, .long (lN (ks5 (kcb w x y F F) j 0))), (9, .long (lN (ks5 (kcb w x y G G) j 0))), (11, .long (lN (ks5 (kcb w x y F G) j 0))), (13, .int (nI j)), (14, .int (nI (((y + j) * w) + x))), (15, .int (nI 0))]) Cx dX3_likenessAt_40 rfl (by decide) rfl ?_
        have LQ : ∀ (LQ_n : Nat), ∀ (i : Nat), (5 - i < LQ_n) → (i ≤ 5) → J X [(s, .inr (3, [.int (nI fw), .int (nI fh), .ref fa, .ref sa, .int (nI w), .int (nI h)])), (fa, .inl (ty 0, L, .inl (kN F))), (sa, .inl (ty 0, L, .inl (kN G)))] [(0, .ref s), (1, .int (nI x)), (2, .int (nI y)), (3, .long (lN (ks5 (kca w x y F) j i))), (5, .long (lN (ks5 (kca w x y G) j i))), (7, .long (lN (ks5 (kcb w x y F F) j i))), (9, .long (lN (ks5 (kcb w x y G G) j i))), (11, .long (lN (ks5 (kcb w x y F G) j i))), (13, .int (nI j)), (14, .int (nI ((y + j) * w + x))), (15, .int (nI i))] 42 [] 0 0 := by
          intro LQ_n
          induction LQ_n with
          | zero =>
            intro i hms _
            exact absurd hms (Nat.not_lt_zero _)
          | succ LQ_n LQ_ih =>
            intro i LQ_m hli
            refine j_iload (pc' := 44) Cx dX3_likenessAt_42 rfl rfl ?_
            refine j_weights (pc' := 47) Cx dX3_likenessAt_44 rfl rfl (fun t2 t2l t2d => ?_)
            refine t2l _ _ _ _ _ _ dX3_likenessAt_47 ?_
            show J X [(s, .inr (3, [.int (nI fw), .int (nI fh), .ref fa, .ref sa, .int (nI w), .int (nI h)])), (fa, .inl (ty 0, L, .inl (kN F))), (sa, .inl (ty 0, L, .inl (kN G)))] [(0, .ref s), (1, .int (nI x)), (2, .int (nI y)), (3, .long (lN (ks5 (kca w x y F) j i))), (5, .long (lN (ks5 (kca w x y G) j i))), (7, .long (lN (ks5 (kcb w x y F F) j i))), (9, .long (lN (ks5 (kcb w x y G G) j i))), (11, .long (lN (ks5 (kcb w x y F G) j i))), (13, .int (nI j)), (14, .int (nI ((y + j) * w + x))), (15, .int (nI i))] 48 [.int (nI 5), .int (nI i)] 0 0
            refine j_icmp_ge_n (tgt := 183) (pc' := 51) Cx dX3_likenessAt_48 (by decide) rfl (by omega) (by omega) (fun hi => ?_) (fun hi => ?_)
            · have e : i = 5 := by omega
              subst e
              refine j_iinc_n (pc' := 186) (z := 1) (a := j) (lv' := [(0, .ref s), (1, .int (nI x)), (2, .int (nI y)), (3, .long (lN (ks5 (kca w x y F) j 5))), (5, .long (lN (ks5 (kca w x y G) j 5))), (7, .long (lN (ks5 (kcb w x y F F) j 5))), (9, .long (lN (ks5 (kcb w x y G G) j 5))), (11, .long (lN (ks5 (kcb w x y F G) j 5))), (13, .int (nI (j + 1))), (14, .int (nI ((y + j) * w + x))), (15, .int (nI 5))]) Cx dX3_likenessAt_183 rfl rfl (by decide) rfl ?_
              refine j_goto (tgt := 17) Cx dX3_likenessAt_186 (by decide) ?_
              refine J.lvs (lv' := [(0, .ref s), (1, .int (nI x)), (2, .int (nI y)), (3, .long (lN (ks5 (kca w x y F) j 5))), (5, .long (lN (ks5 (kca w x y G) j 5))), (7, .long (lN (ks5 (kcb w x y F F) j 5))), (9, .long (lN (ks5 (kcb w x y G G) j 5))), (11, .long (lN (ks5 (kcb w x y F G) j 5))), (13, .int (nI (j + 1)))]) [0, 1, 2, 3, 5, 7, 9, 11, 13] rfl ?_
              refine J.cast (ws' := [(s, .inr (3, [.int (nI fw), .int (nI fh), .ref fa, .ref sa, .int (nI w), .int (nI h)])), (fa, .inl (ty 0, L, .inl (kN F))), (sa, .inl (ty 0, L, .inl (kN G)))]) (lv' := [(0, .ref s), (1, .int (nI x)), (2, .int (nI y)), (3, .long (lN (ks5 (kca w x y F) (j + 1) 0))), (5, .long (lN (ks5 (kca w x y G) (j + 1) 0))), (7, .long (lN (ks5 (kcb w x y F F) (j + 1) 0))), (9, .long (lN (ks5 (kcb w x y G G) (j + 1) 0))), (11, .long (lN (ks5 (kcb w x y F G) (j + 1) 0))), (13, .int (nI (j + 1)))]) (pc' := 17) (st' := []) (rfl) (rfl) rfl (rfl) rfl rfl ?_
              exact LP_ih (j + 1) (by omega) (by omega)
            · have hb : (y + j) * w + x + i < L := by have g1 : (y + j + 1) * w ≤ h * w := Nat.mul_le_mul_right w (by omega); rw [Nat.succ_mul, Nat.mul_comm h w] at g1; omega
              refine j_iload (pc' := 53) Cx dX3_likenessAt_51 rfl rfl ?_
              refine j_iload (pc' := 55) Cx dX3_likenessAt_53 rfl rfl ?_
              refine j_iadd_n (pc' := 56) Cx dX3_likenessAt_55 rfl ?_
              refine j_istore (pc' := 58) (lv' := [(0, .ref s), (1, .int (nI x)), (2, .int (nI y)), (3, .long (lN (ks5 (kca w x y F) j i))), (5, .long (lN (ks5 (kca w x y G) j i))), (7, .long (lN (ks5 (kcb w x y F F) j i))), (9, .long (lN (ks5 (kcb w x y G G) j i))), (11, .long (lN (ks5 (kcb w x y F G) j i))), (13, .int (nI j)), (14, .int (nI ((y + j) * w + x))), (15, .int (nI i)), (16, .int (nI (((y + j) * w + x) + i)))]) Cx dX3_likenessAt_56 rfl (by decide) rfl ?_
              refine j_iload (pc' := 60) Cx dX3_likenessAt_58 rfl rfl ?_
              refine j_if_lt_n (tgt := 177) (pc' := 63) Cx dX3_likenessAt_60 (by decide) rfl (by omega) ?_
              refine j_iload (pc' := 65) Cx dX3_likenessAt_63 rfl rfl ?_
              refine j_aload_n (pc' := 66) Cx dX3_likenessAt_65 rfl rfl rfl ?_
              refine j_get (pc' := 69) (N := 6) Cx dX3_likenessAt_66 rfl kin_X3_likenessAt_X3 kfl_X3_likenessAt_18 0 rfl rfl 2 rfl rfl rfl ?_
              refine j_alen (pc' := 70) (v := nI L) Cx dX3_likenessAt_69 rfl 1 rfl rfl rfl ?_
              refine j_icmp_ge_n (tgt := 177) (pc' := 73) Cx dX3_likenessAt_70 (by decide) rfl (by omega) (by omega) (fun hh => absurd hh (by omega)) (fun _ => ?_)
              refine j_iload (pc' := 75) Cx dX3_likenessAt_73 rfl rfl ?_
              refine j_aload_n (pc' := 76) Cx dX3_likenessAt_75 rfl rfl rfl ?_
              refine j_get (pc' := 79) (N := 6) Cx dX3_likenessAt_76 rfl kin_X3_likenessAt_X3 kfl_X3_likenessAt_22 0 rfl rfl 3 rfl rfl rfl ?_
              refine j_alen (pc' := 80) (v := nI L) Cx dX3_likenessAt_79 rfl 2 rfl rfl rfl ?_
              refine j_icmp_ge_n (tgt := 177) (pc' := 83) Cx dX3_likenessAt_80 (by decide) rfl (by omega) (by omega) (fun hh => absurd hh (by omega)) (fun _ => ?_)
              refine j_weights (pc' := 86) Cx dX3_likenessAt_83 rfl rfl (fun t3 t3l t3d => ?_)
              refine j_iload (pc' := 88) Cx dX3_likenessAt_86 rfl rfl ?_
              refine t3d _ _ _ _ _ _ _ dX3_likenessAt_88 (vp_in_nI (by omega) (by decide)) ?_
              rw [kwt_tab (by omega)]
              show J X [(s, .inr (3, [.int (nI fw), .int (nI fh), .ref fa, .ref sa, .int (nI w), .int (nI h)])), (fa, .inl (ty 0, L, .inl (kN F))), (sa, .inl (ty 0, L, .inl (kN G)))] [(0, .ref s), (1, .int (nI x)), (2, .int (nI y)), (3, .long (lN (ks5 (kca w x y F) j i))), (5, .long (lN (ks5 (kca w x y G) j i))), (7, .long (lN (ks5 (kcb w x y F F) j i))), (9, .long (lN (ks5 (kcb w x y G G) j i))), (11, .long (lN (ks5 (kcb w x y F G) j i))), (13, .int (nI j)), (14, .int (nI ((y + j) * w + x))), (15, .int (nI i)), (16, .int (nI (((y + j) * w + x) + i)))] 89 [.int (nI (kwt j))] 0 0
              refine j_weights (pc' := 92) Cx dX3_likenessAt_89 rfl rfl (fun t4 t4l t4d => ?_)
              refine j_iload (pc' := 94) Cx dX3_likenessAt_92 rfl rfl ?_
              refine t4d _ _ _ _ _ _ _ dX3_likenessAt_94 (vp_in_nI (by omega) (by decide)) ?_
              rw [kwt_tab (by omega)]
              show J X [(s, .inr (3, [.int (nI fw), .int (nI fh), .ref fa, .ref sa, .int (nI w), .int (nI h)])), (fa, .inl (ty 0, L, .inl (kN F))), (sa, .inl (ty 0, L, .inl (kN G)))] [(0, .ref s), (1, .int (nI x)), (2, .int (nI y)), (3, .long (lN (ks5 (kca w x y F) j i))), (5, .long (lN (ks5 (kca w x y G) j i))), (7, .long (lN (ks5 (kcb w x y F F) j i))), (9, .long (lN (ks5 (kcb w x y G G) j i))), (11, .long (lN (ks5 (kcb w x y F G) j i))), (13, .int (nI j)), (14, .int (nI ((y + j) * w + x))), (15, .int (nI i)), (16, .int (nI (((y + j) * w + x) + i)))] 95 [.int (nI (kwt i)), .int (nI (kwt j))] 0 0
              have f0 := hF ((y + j) * w + x + i)
              have g0 := hG ((y + j) * w + x + i)
              have ha := kca_le (w := w) (left := x) (top := y) hF j i
              have hb0 := kca_le (w := w) (left := x) (top := y) hG j i
              have he := kcb_le (w := w) (left := x) (top := y) hF hF j i
              have hf := kcb_le (w := w) (left := x) (top := y) hG hG j i
              have hg := kcb_le (w := w) (left := x) (top := y) hF hG j i
              refine j_imul_n (pc' := 96) Cx dX3_likenessAt_95 rfl ?_
              refine j_istore (pc' := 98) (lv' := [(0, .ref s), (1, .int (nI x)), (2, .int (nI y)), (3, .long (lN (ks5 (kca w x y F) j i))), (5, .long (lN (ks5 (kca w x y G) j i))), (7, .long (lN (ks5 (kcb w x y F F) j i))), (9, .long (lN (ks5 (kcb w x y G G) j i))), (11, .long (lN (ks5 (kcb w x y F G) j i))), (13, .int (nI j)), (14, .int (nI ((y + j) * w + x))), (15, .int (nI i)), (16, .int (nI (((y + j) * w + x) + i))), (17, .int (nI ((kwt j) * (kwt i))))]) Cx dX3_likenessAt_96 rfl (by decide) rfl ?_
              refine j_aload_n (pc' := 99) Cx dX3_likenessAt_98 rfl rfl rfl ?_
              refine j_get (pc' := 102) (N := 6) Cx dX3_likenessAt_99 rfl kin_X3_likenessAt_X3 kfl_X3_likenessAt_18 0 rfl rfl 2 rfl rfl rfl ?_
              refine j_iload (pc' := 104) Cx dX3_likenessAt_102 rfl rfl ?_
              refine j_iaload_nn (pc' := 105) Cx dX3_likenessAt_104 rfl 1 rfl (by omega) (by omega) ?_
              refine j_istore (pc' := 107) (lv' := [(0, .ref s), (1, .int (nI x)), (2, .int (nI y)), (3, .long (lN (ks5 (kca w x y F) j i))), (5, .long (lN (ks5 (kca w x y G) j i))), (7, .long (lN (ks5 (kcb w x y F F) j i))), (9, .long (lN (ks5 (kcb w x y G G) j i))), (11, .long (lN (ks5 (kcb w x y F G) j i))), (13, .int (nI j)), (14, .int (nI ((y + j) * w + x))), (15, .int (nI i)), (16, .int (nI (((y + j) * w + x) + i))), (17, .int (nI ((kwt j) * (kwt i)))), (18, .int (nI (F (((y + j) * w + x) + i))))]) Cx dX3_likenessAt_105 rfl (by decide) rfl ?_
              refine j_aload_n (pc' := 108) Cx dX3_likenessAt_107 rfl rfl rfl ?_
              refine j_get (pc' := 111) (N := 6) Cx dX3_likenessAt_108 rfl kin_X3_likenessAt_X3 kfl_X3_likenessAt_22 0 rfl rfl 3 rfl rfl rfl ?_
              refine j_iload (pc' := 113) Cx dX3_likenessAt_111 rfl rfl ?_
              refine j_iaload_nn (pc' := 114) Cx dX3_likenessAt_113 rfl 2 rfl (by omega) (by omega) ?_
              refine j_istore (pc' := 116) (lv' := [(0, .ref s), (1, .int (nI x)), (2, .int (nI y)), (3, .long (lN (ks5 (kca w x y F) j i))), (5, .long (lN (ks5 (kca w x y G) j i))), (7, .long (lN (ks5 (kcb w x y F F) j i))), (9, .long (lN (ks5 (kcb w x y G G) j i))), (11, .long (lN (ks5 (kcb w x y F G) j i))), (13, .int (nI j)), (14, .int (nI ((y + j) * w + x))), (15, .int (nI i)), (16, .int (nI (((y + j) * w + x) + i))), (17, .int (nI ((kwt j) * (kwt i)))), (18, .int (nI (F (((y + j) * w + x) + i)))), (19, .int (nI (G (((y + j) * w + x) + i))))]) Cx dX3_likenessAt_114 rfl (by decide) rfl ?_
              refine j_iload (pc' := 118) Cx dX3_likenessAt_116 rfl rfl ?_
              refine j_iload (pc' := 120) Cx dX3_likenessAt_118 rfl rfl ?_
              refine j_imul_n (pc' := 121) Cx dX3_likenessAt_120 rfl ?_
              refine j_istore (pc' := 123) (lv' := [(0, .ref s), (1, .int (nI x)), (2, .int (nI y)), (3, .long (lN (ks5 (kca w x y F) j i))), (5, .long (lN (ks5 (kca w x y G) j i))), (7, .long (lN (ks5 (kcb w x y F F) j i))), (9, .long (lN (ks5 (kcb w x y G G) j i))), (11, .long (lN (ks5 (kcb w x y F G) j i))), (13, .int (nI j)), (14, .int (nI ((y + j) * w + x))), (15, .int (nI i)), (16, .int (nI (((y + j) * w + x) + i))), (17, .int (nI ((kwt j) * (kwt i)))), (18, .int (nI (F (((y + j) * w + x) + i)))), (19, .int (nI (G (((y + j) * w + x) + i)))), (20, .int (nI (((kwt j) * (kwt i)) * (F (((y + j) * w + x) + i)))))]) Cx dX3_likenessAt_121 rfl (by decide) rfl ?_
              refine j_iload (pc' := 125) Cx dX3_likenessAt_123 rfl rfl ?_
              refine j_iload (pc' := 127) Cx dX3_likenessAt_125 rfl rfl ?_
              refine j_imul_n (pc' := 128) Cx dX3_likenessAt_127 rfl ?_
              refine j_istore (pc' := 130) (lv' := [(0, .ref s), (1, .int (nI x)), (2, .int (nI y)), (3, .long (lN (ks5 (kca w x y F) j i))), (5, .long (lN (ks5 (kca w x y G) j i))), (7, .long (lN (ks5 (kcb w x y F F) j i))), (9, .long (lN (ks5 (kcb w x y G G) j i))), (11, .long (lN (ks5 (kcb w x y F G) j i))), (13, .int (nI j)), (14, .int (nI ((y + j) * w + x))), (15, .int (nI i)), (16, .int (nI (((y + j) * w + x) + i))), (17, .int (nI ((kwt j) * (kwt i)))), (18, .int (nI (F (((y + j) * w + x) + i)))), (19, .int (nI (G (((y + j) * w + x) + i)))), (20, .int (nI (((kwt j) * (kwt i)) * (F (((y + j) * w + x) + i))))), (21, .int (nI (((kwt j) * (kwt i)) * (G (((y + j) * w + x) + i)))))]) Cx dX3_likenessAt_128 rfl (by decide) rfl ?_
              refine j_lload_n (pc' := 131) Cx dX3_likenessAt_130 rfl rfl rfl ?_
              refine j_iload (pc' := 133) Cx dX3_likenessAt_131 rfl rfl ?_
              refine j_i2l_n (pc' := 134) Cx dX3_likenessAt_133 rfl (Nat.lt_of_le_of_lt ha (by decide)) ?_
              refine j_ladd_n (pc' := 135) Cx dX3_likenessAt_134 rfl ?_
              refine j_lstore_n (pc' := 136) (lv' := [(0, .ref s), (1, .int (nI x)), (2, .int (nI y)), (3, .long (lN ((ks5 (kca w x y F) j i) + (((kwt j) * (kwt i)) * (F (((y + j) * w + x) + i)))))), (5, .long (lN (ks5 (kca w x y G) j i))), (7, .long (lN (ks5 (kcb w x y F F) j i))), (9, .long (lN (ks5 (kcb w x y G G) j i))), (11, .long (lN (ks5 (kcb w x y F G) j i))), (13, .int (nI j)), (14, .int (nI ((y + j) * w + x))), (15, .int (nI i)), (16, .int (nI (((y + j) * w + x) + i))), (17, .int (nI ((kwt j) * (kwt i)))), (18, .int (nI (F (((y + j) * w + x) + i)))), (19, .int (nI (G (((y + j) * w + x) + i)))), (20, .int (nI (((kwt j) * (kwt i)) * (F (((y + j) * w + x) + i))))), (21, .int (nI (((kwt j) * (kwt i)) * (G (((y + j) * w + x) + i)))))]) Cx dX3_likenessAt_135 rfl rfl (by decide) rfl ?_
              refine j_lload (pc' := 138) Cx dX3_likenessAt_136 rfl rfl ?_
              refine j_iload (pc' := 140) Cx dX3_likenessAt_138 rfl rfl ?_
              refine j_i2l_n (pc' := 141) Cx dX3_likenessAt_140 rfl (Nat.lt_of_le_of_lt hb0 (by decide)) ?_
              refine j_ladd_n (pc' := 142) Cx dX3_likenessAt_141 rfl ?_
              refine j_lstore (pc' := 144) (lv' := [(0, .ref s), (1, .int (nI x)), (2, .int (nI y)), (3, .long (lN ((ks5 (kca w x y F) j i) + (((kwt j) * (kwt i)) * (F (((y + j) * w + x) + i)))))), (5, .long (lN ((ks5 (kca w x y G) j i) + (((kwt j) * (kwt i)) * (G (((y + j) * w + x) + i)))))), (7, .long (lN (ks5 (kcb w x y F F) j i))), (9, .long (lN (ks5 (kcb w x y G G) j i))), (11, .long (lN (ks5 (kcb w x y F G) j i))), (13, .int (nI j)), (14, .int (nI ((y + j) * w + x))), (15, .int (nI i)), (16, .int (nI (((y + j) * w + x) + i))), (17, .int (nI ((kwt j) * (kwt i)))), (18, .int (nI (F (((y + j) * w + x) + i)))), (19, .int (nI (G (((y + j) * w + x) + i)))), (20, .int (nI (((kwt j) * (kwt i)) * (F (((y + j) * w + x) + i))))), (21, .int (nI (((kwt j) * (kwt i)) * (G (((y + j) * w + x) + i)))))]) Cx dX3_likenessAt_142 rfl (by decide) rfl ?_
              refine j_lload (pc' := 146) Cx dX3_likenessAt_144 rfl rfl ?_
              refine j_iload (pc' := 148) Cx dX3_likenessAt_146 rfl rfl ?_
              refine j_iload (pc' := 150) Cx dX3_likenessAt_148 rfl rfl ?_
              refine j_imul_n (pc' := 151) Cx dX3_likenessAt_150 rfl ?_
              refine j_i2l_n (pc' := 152) Cx dX3_likenessAt_151 rfl (Nat.lt_of_le_of_lt he (by decide)) ?_
              refine j_ladd_n (pc' := 153) Cx dX3_likenessAt_152 rfl ?_
              refine j_lstore (pc' := 155) (lv' := [(0, .ref s), (1, .int (nI x)), (2, .int (nI y)), (3, .long (lN ((ks5 (kca w x y F) j i) + (((kwt j) * (kwt i)) * (F (((y + j) * w + x) + i)))))), (5, .long (lN ((ks5 (kca w x y G) j i) + (((kwt j) * (kwt i)) * (G (((y + j) * w + x) + i)))))), (7, .long (lN ((ks5 (kcb w x y F F) j i) + ((((kwt j) * (kwt i)) * (F (((y + j) * w + x) + i))) * (F (((y + j) * w + x) + i)))))), (9, .long (lN (ks5 (kcb w x y G G) j i))), (11, .long (lN (ks5 (kcb w x y F G) j i))), (13, .int (nI j)), (14, .int (nI ((y + j) * w + x))), (15, .int (nI i)), (16, .int (nI (((y + j) * w + x) + i))), (17, .int (nI ((kwt j) * (kwt i)))), (18, .int (nI (F (((y + j) * w + x) + i)))), (19, .int (nI (G (((y + j) * w + x) + i)))), (20, .int (nI (((kwt j) * (kwt i)) * (F (((y + j) * w + x) + i))))), (21, .int (nI (((kwt j) * (kwt i)) * (G (((y + j) * w + x) + i)))))]) Cx dX3_likenessAt_153 rfl (by decide) rfl ?_
              refine j_lload (pc' := 157) Cx dX3_likenessAt_155 rfl rfl ?_
              refine j_iload (pc' := 159) Cx dX3_likenessAt_157 rfl rfl ?_
              refine j_iload (pc' := 161) Cx dX3_likenessAt_159 rfl rfl ?_
              refine j_imul_n (pc' := 162) Cx dX3_likenessAt_161 rfl ?_
              refine j_i2l_n (pc' := 163) Cx dX3_likenessAt_162 rfl (Nat.lt_of_le_of_lt hf (by decide)) ?_
              refine j_ladd_n (pc' := 164) Cx dX3_likenessAt_163 rfl ?_
              refine j_lstore (pc' := 166) (lv' := [(0, .ref s), (1, .int (nI x)), (2, .int (nI y)), (3, .long (lN ((ks5 (kca w x y F) j i) + (((kwt j) * (kwt i)) * (F (((y + j) * w + x) + i)))))), (5, .long (lN ((ks5 (kca w x y G) j i) + (((kwt j) * (kwt i)) * (G (((y + j) * w + x) + i)))))), (7, .long (lN ((ks5 (kcb w x y F F) j i) + ((((kwt j) * (kwt i)) * (F (((y + j) * w + x) + i))) * (F (((y + j) * w + x) + i)))))), (9, .long (lN ((ks5 (kcb w x y G G) j i) + ((((kwt j) * (kwt i)) * (G (((y + j) * w + x) + i))) * (G (((y + j) * w + x) + i)))))), (11, .long (lN (ks5 (kcb w x y F G) j i))), (13, .int (nI j)), (14, .int (nI ((y + j) * w + x))), (15, .int (nI i)), (16, .int (nI (((y + j) * w + x) + i))), (17, .int (nI ((kwt j) * (kwt i)))), (18, .int (nI (F (((y + j) * w + x) + i)))), (19, .int (nI (G (((y + j) * w + x) + i)))), (20, .int (nI (((kwt j) * (kwt i)) * (F (((y + j) * w + x) + i))))), (21, .int (nI (((kwt j) * (kwt i)) * (G (((y + j) * w + x) + i)))))]) Cx dX3_likenessAt_164 rfl (by decide) rfl ?_
              refine j_lload (pc' := 168) Cx dX3_likenessAt_166 rfl rfl ?_
              refine j_iload (pc' := 170) Cx dX3_likenessAt_168 rfl rfl ?_
              refine j_iload (pc' := 172) Cx dX3_likenessAt_170 rfl rfl ?_
              refine j_imul_n (pc' := 173) Cx dX3_likenessAt_172 rfl ?_
              refine j_i2l_n (pc' := 174) Cx dX3_likenessAt_173 rfl (Nat.lt_of_le_of_lt hg (by decide)) ?_
              refine j_ladd_n (pc' := 175) Cx dX3_likenessAt_174 rfl ?_
              refine j_lstore (pc' := 177) (lv' := [(0, .ref s), (1, .int (nI x)), (2, .int (nI y)), (3, .long (lN ((ks5 (kca w x y F) j i) + (((kwt j) * (kwt i)) * (F (((y + j) * w + x) + i)))))), (5, .long (lN ((ks5 (kca w x y G) j i) + (((kwt j) * (kwt i)) * (G (((y + j) * w + x) + i)))))), (7, .long (lN ((ks5 (kcb w x y F F) j i) + ((((kwt j) * (kwt i)) * (F (((y + j) * w + x) + i))) * (F (((y + j) * w + x) + i)))))), (9, .long (lN ((ks5 (kcb w x y G G) j i) + ((((kwt j) * (kwt i)) * (G (((y + j) * w + x) + i))) * (G (((y + j) * w + x) + i)))))), (11, .long (lN ((ks5 (kcb w x y F G) j i) + ((((kwt j) * (kwt i)) * (F (((y + j) * w + x) + i))) * (G (((y + j) * w + x) + i)))))), (13, .int (nI j)), (14, .int (nI ((y + j) * w + x))), (15, .int (nI i)), (16, .int (nI (((y + j) * w + x) + i))), (17, .int (nI ((kwt j) * (kwt i)))), (18, .int (nI (F (((y + j) * w + x) + i)))), (19, .int (nI (G (((y + j) * w + x) + i)))), (20, .int (nI (((kwt j) * (kwt i)) * (F (((y + j) * w + x) + i))))), (21, .int (nI (((kwt j) * (kwt i)) * (G (((y + j) * w + x) + i)))))]) Cx dX3_likenessAt_175 rfl (by decide) rfl ?_
              refine j_iinc_n (pc' := 180) (z := 1) (a := i) (lv' := [(0, .ref s), (1, .int (nI x)), (2, .int (nI y)), (3, .long (lN ((ks5 (kca w x y F) j i) + (((kwt j) * (kwt i)) * (F (((y + j) * w + x) + i)))))), (5, .long (lN ((ks5 (kca w x y G) j i) + (((kwt j) * (kwt i)) * (G (((y + j) * w + x) + i)))))), (7, .long (lN ((ks5 (kcb w x y F F) j i) + ((((kwt j) * (kwt i)) * (F (((y + j) * w + x) + i))) * (F (((y + j) * w + x) + i)))))), (9, .long (lN ((ks5 (kcb w x y G G) j i) + ((((kwt j) * (kwt i)) * (G (((y + j) * w + x) + i))) * (G (((y + j) * w + x) + i)))))), (11, .long (lN ((ks5 (kcb w x y F G) j i) + ((((kwt j) * (kwt i)) * (F (((y + j) * w + x) + i))) * (G (((y + j) * w + x) + i)))))), (13, .int (nI j)), (14, .int (nI ((y + j) * w + x))), (15, .int (nI (i + 1))), (16, .int (nI (((y + j) * w + x) + i))), (17, .int (nI ((kwt j) * (kwt i)))), (18, .int (nI (F (((y + j) * w + x) + i)))), (19, .int (nI (G (((y + j) * w + x) + i)))), (20, .int (nI (((kwt j) * (kwt i)) * (F (((y + j) * w + x) + i))))), (21, .int (nI (((kwt j) * (kwt i)) * (G (((y + j) * w + x) + i)))))]) Cx dX3_likenessAt_177 rfl rfl (by decide) rfl ?_
              refine j_goto (tgt := 42) Cx dX3_likenessAt_180 (by decide) ?_
              refine J.lvs (lv' := [(0, .ref s), (1, .int (nI x)), (2, .int (nI y)), (3, .long (lN ((ks5 (kca w x y F) j i) + (((kwt j) * (kwt i)) * (F (((y + j) * w + x) + i)))))), (5, .long (lN ((ks5 (kca w x y G) j i) + (((kwt j) * (kwt i)) * (G (((y + j) * w + x) + i)))))), (7, .long (lN ((ks5 (kcb w x y F F) j i) + ((((kwt j) * (kwt i)) * (F (((y + j) * w + x) + i))) * (F (((y + j) * w + x) + i)))))), (9, .long (lN ((ks5 (kcb w x y G G) j i) + ((((kwt j) * (kwt i)) * (G (((y + j) * w + x) + i))) * (G (((y + j) * w + x) + i)))))), (11, .long (lN ((ks5 (kcb w x y F G) j i) + ((((kwt j) * (kwt i)) * (F (((y + j) * w + x) + i))) * (G (((y + j) * w + x) + i)))))), (13, .int (nI j)), (14, .int (nI ((y + j) * w + x))), (15, .int (nI (i + 1)))]) [0, 1, 2, 3, 5, 7, 9, 11, 13, 14, 15] rfl ?_
              refine J.cast (ws' := [(s, .inr (3, [.int (nI fw), .int (nI fh), .ref fa, .ref sa, .int (nI w), .int (nI h)])), (fa, .inl (ty 0, L, .inl (kN F))), (sa, .inl (ty 0, L, .inl (kN G)))]) (lv' := [(0, .ref s), (1, .int (nI x)), (2, .int (nI y)), (3, .long (lN (ks5 (kca w x y F) j (i + 1)))), (5, .long (lN (ks5 (kca w x y G) j (i + 1)))), (7, .long (lN (ks5 (kcb w x y F F) j (i + 1)))), (9, .long (lN (ks5 (kcb w x y G G) j (i + 1)))), (11, .long (lN (ks5 (kcb w x y F G) j (i + 1)))), (13, .int (nI j)), (14, .int (nI ((y + j) * w + x))), (15, .int (nI (i + 1)))]) (pc' := 42) (st' := []) (rfl) (by rw [← ks5_i (kca w x y F), ← ks5_i (kca w x y G), ← ks5_i (kcb w x y F F), ← ks5_i (kcb w x y G G), ← ks5_i (kcb w x y F G)]) rfl (rfl) rfl rfl ?_
              exact LQ_ih (i + 1) (by omega) (by omega)
        refine J.cast (ws' := [(s, .inr (3, [.int (nI fw), .int (nI fh), .ref fa, .ref sa, .int (nI w), .int (nI h)])), (fa, .inl (ty 0, L, .inl (kN F))), (sa, .inl (ty 0, L, .inl (kN G)))]) (lv' := [(0, .ref s), (1, .int (nI x)), (2, .int (nI y)), (3, .long (lN (ks5 (kca w x y F) j 0))), (5, .long (lN (ks5 (kca w x y G) j 0))), (7, .long (lN (ks5 (kcb w x y F F) j 0))), (9, .long (lN (ks5 (kcb w x y G G) j 0))), (11, .long (lN (ks5 (kcb w x y F G) j 0))), (13, .int (nI j)), (14, .int (nI ((y + j) * w + x))), (15, .int (nI 0))]) (pc' := 42) (st' := []) (rfl) (rfl) rfl (rfl) rfl rfl ?_
        exact LQ 6 0 (by omega) (Nat.zero_le _)
  refine J.cast (ws' := [(s, .inr (3, [.int (nI fw), .int (nI fh), .ref fa, .ref sa, .int (nI w), .int (nI h)])), (fa, .inl (ty 0, L, .inl (kN F))), (sa, .inl (ty 0, L, .inl (kN G)))]) (lv' := [(0, .ref s), (1, .int (nI x)), (2, .int (nI y)), (3, .long (lN (ks5 (kca w x y F) 0 0))), (5, .long (lN (ks5 (kca w x y G) 0 0))), (7, .long (lN (ks5 (kcb w x y F F) 0 0))), (9, .long (lN (ks5 (kcb w x y G G) 0 0))), (11, .long (lN (ks5 (kcb w x y F G) 0 0))), (13, .int (nI 0))]) (pc' := 17) (st' := []) (rfl) (rfl) rfl (rfl) rfl rfl ?_
  exact LP 6 0 (by omega) (Nat.zero_le _)

set_option maxHeartbeats 4000000 in
set_option maxRecDepth 100000 in
/-- ScaledGreys.averageLikeness -/
theorem c_X3_averageLikeness (l : Launch) (D : va_G) (ty : Nat → ClassId) (s fa sa fw fh L w h : Nat) (F G : Nat → Nat) (hF : ∀ i, F i < 256) (hG : ∀ i, G i < 256) (hL : L ≤ 576) (hw5 : 5 ≤ w) (hh5 : 5 ≤ h) (hwh : w * h ≤ L) (hw : w ≤ 24) (hh : h ≤ 24) : KM l yX3_averageLikeness wsX3_averageLikeness { frames := 2, cells := 0, slots := 0, locals := 90 } D ty [.ref s] [(s, .inr (3, [.int (nI fw), .int (nI fh), .ref fa, .ref sa, .int (nI w), .int (nI h)])), (fa, .inl (ty 0, L, .inl (kN F))), (sa, .inl (ty 0, L, .inl (kN G)))] (kF (fun r u => r = FP.ddiv (kavy (fun a b => kcell w a b F G) (w - 4) (h - 4)) (FP.i2d (nI ((h - 4) * (w - 4)))) ∧ u = [(s, .inr (3, [.int (nI fw), .int (nI fh), .ref fa, .ref sa, .int (nI w), .int (nI h)])), (fa, .inl (ty 0, L, .inl (kN F))), (sa, .inl (ty 0, L, .inl (kN G)))])) 0 0 := by
  refine KM.of (cc := cX3_averageLikeness) (maxL := 6) (ret := (some .double)) (lv := [(0, .ref s)]) (by decide +kernel) rfl rfl rfl (fun X C0 R0 => ?_)
  have Cx : kC X cX3_averageLikeness wsX3_averageLikeness RX3 { frames := 2, cells := 0, slots := 0, locals := 90 } "averageLikeness" l D ty 6 := C0
  have hfin : ∀ x y, FP.Core.DFin (kcell w x y F G) := fun x y => kcell_fin hF hG
  have hc1 : (h - 4) * (w - 4) ≤ 20 * 20 := Nat.mul_le_mul (by omega) (by omega)
  have hc0 : 1 * 1 ≤ (h - 4) * (w - 4) := Nat.mul_le_mul (by omega) (by omega)
  refine j_dconst0 (pc' := 1) Cx dX3_averageLikeness_0 rfl ?_
  refine j_dstore_n (pc' := 2) (lv' := [(0, .ref s), (1, .double (0))]) Cx dX3_averageLikeness_1 rfl rfl (by decide) rfl ?_
  refine j_iconst (pc' := 3) (v := (nI 0)) Cx dX3_averageLikeness_2 rfl (by decide) ?_
  refine j_istore_n (pc' := 4) (lv' := [(0, .ref s), (1, .double (0)), (3, .int (nI 0))]) Cx dX3_averageLikeness_3 rfl rfl (by decide) rfl ?_
  refine j_iconst (pc' := 5) (v := (nI 0)) Cx dX3_averageLikeness_4 rfl (by decide) ?_
  refine j_istore (pc' := 7) (lv' := [(0, .ref s), (1, .double (0)), (3, .int (nI 0)), (4, .int (nI 0))]) Cx dX3_averageLikeness_5 rfl (by decide) rfl ?_
  have LP : ∀ (LP_n : Nat), ∀ (y : Nat), (h - 4 - y < LP_n) → (y ≤ h - 4) → J X [(s, .inr (3, [.int (nI fw), .int (nI fh), .ref fa, .ref sa, .int (nI w), .int (nI h)])), (fa, .inl (ty 0, L, .inl (kN F))), (sa, .inl (ty 0, L, .inl (kN G)))] [(0, .ref s), (1, .double (kavy (fun a b => kcell w a b F G) (w - 4) y)), (3, .int (nI (y * (w - 4)))), (4, .int (nI y))] 7 [] 0 0 := by
    intro LP_n
    induction LP_n with
    | zero =>
      intro y hms _
      exact absurd hms (Nat.not_lt_zero _)
    | succ LP_n LP_ih =>
      intro y LP_m hle
      have hb : y * (w - 4) ≤ (h - 4) * (w - 4) := Nat.mul_le_mul_right _ hle
      refine j_iload (pc' := 9) Cx dX3_averageLikeness_7 rfl rfl ?_
      refine j_aload_n (pc' := 10) Cx dX3_averageLikeness_9 rfl rfl rfl ?_
      refine j_get (pc' := 13) (N := 6) Cx dX3_averageLikeness_10 rfl kin_X3_averageLikeness_X3 kfl_X3_averageLikeness_28 0 rfl rfl 5 rfl rfl rfl ?_
      refine j_iconst (pc' := 14) (v := (nI 5)) Cx dX3_averageLikeness_13 rfl (by decide) ?_
      refine j_isub_n (pc' := 15) Cx dX3_averageLikeness_14 rfl (hh5) ?_
      refine j_icmp_gt_n (tgt := 58) (pc' := 18) Cx dX3_averageLikeness_15 (by decide) rfl (by omega) (by omega) (fun hy => ?_) (fun hy => ?_)
      · have e : y = h - 4 := by omega
        subst e
        refine j_iload_n (pc' := 59) Cx dX3_averageLikeness_58 rfl rfl rfl ?_
        refine j_if_le_n (tgt := 69) (pc' := 62) Cx dX3_averageLikeness_59 (by decide) rfl (by omega) (fun hh => absurd hh (by omega)) (fun _ => ?_)
        refine j_dload_n (pc' := 63) Cx dX3_averageLikeness_62 rfl rfl rfl ?_
        refine j_iload_n (pc' := 64) Cx dX3_averageLikeness_63 rfl rfl rfl ?_
        refine j_i2d (pc' := 65) Cx dX3_averageLikeness_64 rfl ?_
        refine j_ddiv (pc' := 66) Cx dX3_averageLikeness_65 rfl (k_ddiv_no (kavy_no hfin _ _) (by omega) (by omega)) ?_
        refine j_goto (tgt := 70) Cx dX3_averageLikeness_66 (by decide) ?_
        exact j_dret Cx dX3_averageLikeness_70 R0 ⟨Nat.le_of_ble_eq_true rfl, Nat.le_of_ble_eq_true rfl⟩ (⟨_, rfl, rfl, rfl⟩)
      · refine j_iconst (pc' := 19) (v := (nI 0)) Cx dX3_averageLikeness_18 rfl (by decide) ?_
        refine j_istore (pc' := 21) (lv' := [(0, .ref s), (1, .double (kavy (fun a b => kcell w a b F G) (w - 4) y)), (3, .int (nI (y * (w - 4)))), (4, .int (nI y)), (5, .int (nI 0))]) Cx dX3_averageLikeness_19 rfl (by decide) rfl ?_
        have hb3 : (y + 1) * (w - 4) ≤ (h - 4) * (w - 4) := Nat.mul_le_mul_right _ (by omega)
        rw [Nat.succ_mul] at hb3
        have LQ : ∀ (LQ_n : Nat), ∀ (x : Nat), (w - 4 - x < LQ_n) → (x ≤ w - 4) → J X [(s, .inr (3, [.int (nI fw), .int (nI fh), .ref fa, .ref sa, .int (nI w), .int (nI h)])), (fa, .inl (ty 0, L, .inl (kN F))), (sa, .inl (ty 0, L, .inl (kN G)))] [(0, .ref s), (1, .double (kavx (fun a => kcell w a y F G) x (kavy (fun a b => kcell w a b F G) (w - 4) y))), (3, .int (nI (y * (w - 4) + x))), (4, .int (nI y)), (5, .int (nI x))] 21 [] 0 0 := by
          intro LQ_n
          induction LQ_n with
          | zero =>
            intro x hms _
            exact absurd hms (Nat.not_lt_zero _)
          | succ LQ_n LQ_ih =>
            intro x LQ_m hlx
            refine j_iload (pc' := 23) Cx dX3_averageLikeness_21 rfl rfl ?_
            refine j_aload_n (pc' := 24) Cx dX3_averageLikeness_23 rfl rfl rfl ?_
            refine j_get (pc' := 27) (N := 6) Cx dX3_averageLikeness_24 rfl kin_X3_averageLikeness_X3 kfl_X3_averageLikeness_25 0 rfl rfl 4 rfl rfl rfl ?_
            refine j_iconst (pc' := 28) (v := (nI 5)) Cx dX3_averageLikeness_27 rfl (by decide) ?_
            refine j_isub_n (pc' := 29) Cx dX3_averageLikeness_28 rfl (hw5) ?_
            refine j_icmp_gt_n (tgt := 52) (pc' := 32) Cx dX3_averageLikeness_29 (by decide) rfl (by omega) (by omega) (fun hx => ?_) (fun hx => ?_)
            · have e : x = w - 4 := by omega
              subst e
              refine j_iinc_n (pc' := 55) (z := 1) (a := y) (lv' := [(0, .ref s), (1, .double (kavx (fun a => kcell w a y F G) (w - 4) (kavy (fun a b => kcell w a b F G) (w - 4) y))), (3, .int (nI (y * (w - 4) + (w - 4)))), (4, .int (nI (y + 1))), (5, .int (nI (w - 4)))]) Cx dX3_averageLikeness_52 rfl rfl (by decide) rfl ?_
              refine j_goto (tgt := 7) Cx dX3_averageLikeness_55 (by decide) ?_
              refine J.lvs (lv' := [(0, .ref s), (1, .double (kavx (fun a => kcell w a y F G) (w - 4) (kavy (fun a b => kcell w a b F G) (w - 4) y))), (3, .int (nI (y * (w - 4) + (w - 4)))), (4, .int (nI (y + 1)))]) [0, 1, 3, 4] rfl ?_
              refine J.cast (ws' := [(s, .inr (3, [.int (nI fw), .int (nI fh), .ref fa, .ref sa, .int (nI w), .int (nI h)])), (fa, .inl (ty 0, L, .inl (kN F))), (sa, .inl (ty 0, L, .inl (kN G)))]) (lv' := [(0, .ref s), (1, .double (kavy (fun a b => kcell w a b F G) (w - 4) (y + 1))), (3, .int (nI ((y + 1) * (w - 4)))), (4, .int (nI (y + 1)))]) (pc' := 7) (st' := []) (rfl) (by rw [Nat.succ_mul]; rfl) rfl (rfl) rfl rfl ?_
              exact LP_ih (y + 1) (by omega) (by omega)
            · refine j_dload_n (pc' := 33) Cx dX3_averageLikeness_32 rfl rfl rfl ?_
              refine j_aload_n (pc' := 34) Cx dX3_averageLikeness_33 rfl rfl rfl ?_
              refine j_iload (pc' := 36) Cx dX3_averageLikeness_34 rfl rfl ?_
              refine j_iload (pc' := 38) Cx dX3_averageLikeness_36 rfl rfl ?_
              refine j_callV (pc' := 41) (wr := []) (st := [.double (kavx (fun a => kcell w a y F G) x (kavy (fun a b => kcell w a b F G) (w - 4) y))]) Cx dX3_averageLikeness_38 rfl (c_X3_likenessAt l D ty s fa sa fw fh L w h F G hF hG hL x y (by omega) (by omega) hwh hw hh) gX3_averageLikeness_X3_likenessAt rfl khd_X3_likenessAt rfl ⟨rfl, rfl, Nat.le_of_ble_eq_true rfl, Nat.le_of_ble_eq_true rfl⟩ [0, 1, 2] [] rfl rfl ⟨rfl, rfl⟩ (by decide) 0 rfl rfl rfl (Nat.le_of_ble_eq_true rfl) ⟨Nat.le_of_ble_eq_true rfl, Nat.le_of_ble_eq_true rfl⟩ (fun v u hpost => ?_)
              obtain ⟨r, rfl, rfl, rfl⟩ := hpost
              show J X [(s, .inr (3, [.int (nI fw), .int (nI fh), .ref fa, .ref sa, .int (nI w), .int (nI h)])), (fa, .inl (ty 0, L, .inl (kN F))), (sa, .inl (ty 0, L, .inl (kN G)))] [(0, .ref s), (1, .double (kavx (fun a => kcell w a y F G) x (kavy (fun a b => kcell w a b F G) (w - 4) y))), (3, .int (nI (y * (w - 4) + x))), (4, .int (nI y)), (5, .int (nI x))] 41 [.double (kcell w x y F G), .double (kavx (fun a => kcell w a y F G) x (kavy (fun a b => kcell w a b F G) (w - 4) y))] 0 0
              refine j_dadd (pc' := 42) Cx dX3_averageLikeness_41 rfl (kavx_no (fun x => hfin x y) (kavy_no hfin _ _) (x + 1)) ?_
              refine j_dstore_n (pc' := 43) (lv' := [(0, .ref s), (1, .double (FP.dadd (kavx (fun a => kcell w a y F G) x (kavy (fun a b => kcell w a b F G) (w - 4) y)) (kcell w x y F G))), (3, .int (nI (y * (w - 4) + x))), (4, .int (nI y)), (5, .int (nI x))]) Cx dX3_averageLikeness_42 rfl rfl (by decide) rfl ?_
              refine j_iinc_n (pc' := 46) (z := 1) (a := (y * (w - 4) + x)) (lv' := [(0, .ref s), (1, .double (FP.dadd (kavx (fun a => kcell w a y F G) x (kavy (fun a b => kcell w a b F G) (w - 4) y)) (kcell w x y F G))), (3, .int (nI (y * (w - 4) + x + 1))), (4, .int (nI y)), (5, .int (nI x))]) Cx dX3_averageLikeness_43 rfl rfl (by decide) rfl ?_
              refine j_iinc_n (pc' := 49) (z := 1) (a := x) (lv' := [(0, .ref s), (1, .double (FP.dadd (kavx (fun a => kcell w a y F G) x (kavy (fun a b => kcell w a b F G) (w - 4) y)) (kcell w x y F G))), (3, .int (nI (y * (w - 4) + x + 1))), (4, .int (nI y)), (5, .int (nI (x + 1)))]) Cx dX3_averageLikeness_46 rfl rfl (by decide) rfl ?_
              refine j_goto (tgt := 21) Cx dX3_averageLikeness_49 (by decide) ?_
              refine J.lvs (lv' := [(0, .ref s), (1, .double (FP.dadd (kavx (fun a => kcell w a y F G) x (kavy (fun a b => kcell w a b F G) (w - 4) y)) (kcell w x y F G))), (3, .int (nI (y * (w - 4) + x + 1))), (4, .int (nI y)), (5, .int (nI (x + 1)))]) [0, 1, 3, 4, 5] rfl ?_
              refine J.cast (ws' := [(s, .inr (3, [.int (nI fw), .int (nI fh), .ref fa, .ref sa, .int (nI w), .int (nI h)])), (fa, .inl (ty 0, L, .inl (kN F))), (sa, .inl (ty 0, L, .inl (kN G)))]) (lv' := [(0, .ref s), (1, .double (kavx (fun a => kcell w a y F G) (x + 1) (kavy (fun a b => kcell w a b F G) (w - 4) y))), (3, .int (nI (y * (w - 4) + (x + 1)))), (4, .int (nI y)), (5, .int (nI (x + 1)))]) (pc' := 21) (st' := []) (rfl) (rfl) rfl (rfl) rfl rfl ?_
              exact LQ_ih (x + 1) (by omega) (by omega)
        refine J.cast (ws' := [(s, .inr (3, [.int (nI fw), .int (nI fh), .ref fa, .ref sa, .int (nI w), .int (nI h)])), (fa, .inl (ty 0, L, .inl (kN F))), (sa, .inl (ty 0, L, .inl (kN G)))]) (lv' := [(0, .ref s), (1, .double (kavx (fun a => kcell w a y F G) 0 (kavy (fun a b => kcell w a b F G) (w - 4) y))), (3, .int (nI (y * (w - 4) + 0))), (4, .int (nI y)), (5, .int (nI 0))]) (pc' := 21) (st' := []) (rfl) (rfl) rfl (rfl) rfl rfl ?_
        exact LQ (w - 4 + 1) 0 (by omega) (Nat.zero_le _)
  refine J.cast (ws' := [(s, .inr (3, [.int (nI fw), .int (nI fh), .ref fa, .ref sa, .int (nI w), .int (nI h)])), (fa, .inl (ty 0, L, .inl (kN F))), (sa, .inl (ty 0, L, .inl (kN G)))]) (lv' := [(0, .ref s), (1, .double (kavy (fun a b => kcell w a b F G) (w - 4) 0)), (3, .int (nI (0 * (w - 4)))), (4, .int (nI 0))]) (pc' := 7) (st' := []) (rfl) (by rw [Nat.zero_mul]; rfl) rfl (rfl) rfl rfl ?_
  exact LP (h - 4 + 1) 0 (by omega) (Nat.zero_le _)
