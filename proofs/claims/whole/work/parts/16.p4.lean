set_option maxHeartbeats 4000000 in
set_option maxRecDepth 100000 in
theorem c_X4_nearest (l : Launch) (D : va_G) (ty : Nat → ClassId) (x : Int32) (m : Nat) (hm : 1 ≤ m) (hm2 : m < 2 ^ 31) : KM l yX4_nearest wsX4_nearest { frames := 1, cells := 0, slots := 0, locals := 21 } D ty [.int (x), .int (nI m)] [] (kI (fun r u => r = nI (knear x m) ∧ u = [])) 0 0 := by
  refine KM.of (cc := cX4_nearest) (maxL := 2) (ret := (some .int)) (lv := [(0, .int (x)), (1, .int (nI m))]) (by decide +kernel) rfl rfl rfl (fun X C0 R0 => ?_)
  have Cx : kC X cX4_nearest wsX4_nearest RX4 { frames := 1, cells := 0, slots := 0, locals := 21 } "nearest" l D ty 2 := C0
  refine j_iconst (pc' := 1) (v := (nI 1)) Cx dX4_nearest_0 rfl (by decide) ?_
  refine j_iload_n (pc' := 2) Cx dX4_nearest_1 rfl rfl rfl ?_
  refine j_iload_n (pc' := 3) Cx dX4_nearest_2 rfl rfl rfl ?_
  refine j_min (pc' := 6) Cx dX4_nearest_3 rfl kmt_X4_nearest_210 ⟨Nat.le_of_ble_eq_true rfl, Nat.le_of_ble_eq_true rfl, Nat.le_of_ble_eq_true rfl, Nat.le_of_ble_eq_true rfl⟩ ?_
  refine j_max (pc' := 9) Cx dX4_nearest_6 rfl kmt_X4_nearest_215 ⟨Nat.le_of_ble_eq_true rfl, Nat.le_of_ble_eq_true rfl, Nat.le_of_ble_eq_true rfl, Nat.le_of_ble_eq_true rfl⟩ ?_
  exact j_iret Cx dX4_nearest_9 R0 ⟨Nat.le_of_ble_eq_true rfl, Nat.le_of_ble_eq_true rfl⟩ (⟨_, rfl, knear_eq x hm hm2, rfl⟩)

set_option maxHeartbeats 4000000 in
set_option maxRecDepth 100000 in
theorem c_X4_scalesOf (l : Launch) (D : va_G) (ty : Nat → ClassId) (w h : Nat) (hw : w ≤ 24) (hh : h ≤ 24) : KM l yX4_scalesOf wsX4_scalesOf { frames := 1, cells := 0, slots := 0, locals := 21 } D ty [.int (nI w), .int (nI h)] [] (kI (fun r u => r = nI (kscale w h) ∧ u = [])) 0 0 := by
  refine KM.of (cc := cX4_scalesOf) (maxL := 5) (ret := (some .int)) (lv := [(0, .int (nI w)), (1, .int (nI h))]) (by decide +kernel) rfl rfl rfl (fun X C0 R0 => ?_)
  have Cx : kC X cX4_scalesOf wsX4_scalesOf RX4 { frames := 1, cells := 0, slots := 0, locals := 21 } "scalesOf" l D ty 5 := C0
  refine j_iconst (pc' := 1) (v := (nI 0)) Cx dX4_scalesOf_0 rfl (by decide) ?_
  refine j_istore_n (pc' := 2) (lv' := [(0, .int (nI w)), (1, .int (nI h)), (2, .int (nI 0))]) Cx dX4_scalesOf_1 rfl rfl (by decide) rfl ?_
  refine j_iload_n (pc' := 3) Cx dX4_scalesOf_2 rfl rfl rfl ?_
  refine j_iload_n (pc' := 4) Cx dX4_scalesOf_3 rfl rfl rfl ?_
  refine j_min (pc' := 7) Cx dX4_scalesOf_4 rfl kmt_X4_scalesOf_210 ⟨Nat.le_of_ble_eq_true rfl, Nat.le_of_ble_eq_true rfl, Nat.le_of_ble_eq_true rfl, Nat.le_of_ble_eq_true rfl⟩ ?_
  refine j_top (v' := .int (nI (if h < w then h else w))) (congrArg Value.int (k_min (by omega) (by omega))) ?_
  refine j_istore_n (pc' := 8) (lv' := [(0, .int (nI w)), (1, .int (nI h)), (2, .int (nI 0)), (3, .int (nI (if h < w then h else w)))]) Cx dX4_scalesOf_7 rfl rfl (by decide) rfl ?_
  refine j_iconst (pc' := 9) (v := (nI 0)) Cx dX4_scalesOf_8 rfl (by decide) ?_
  refine j_istore (pc' := 11) (lv' := [(0, .int (nI w)), (1, .int (nI h)), (2, .int (nI 0)), (3, .int (nI (if h < w then h else w))), (4, .int (nI 0))]) Cx dX4_scalesOf_9 rfl (by decide) rfl ?_
  have LP : ∀ (LP_n : Nat), ∀ (i : Nat) (s : Nat), (4 - i < LP_n) → (s = (if h < w then h else w) / 2 ^ i ∧ ∀ j, j < i → 5 ≤ (if h < w then h else w) / 2 ^ j) → (i ≤ 3) → J X [] [(0, .int (nI w)), (1, .int (nI h)), (2, .int (nI i)), (3, .int (nI s)), (4, .int (nI i))] 11 [] 0 0 := by
    intro LP_n
    induction LP_n with
    | zero =>
      intro i s hms _ _
      exact absurd hms (Nat.not_lt_zero _)
    | succ LP_n LP_ih =>
      intro i s LP_m hs hlim
      have hs24 : s ≤ 24 := by rw [hs.1]; exact Nat.le_trans (Nat.div_le_self _ _) (by split <;> omega)
      refine j_iload (pc' := 13) Cx dX4_scalesOf_11 rfl rfl ?_
      refine j_iconst (pc' := 14) (v := (nI 4)) Cx dX4_scalesOf_13 rfl (by decide) ?_
      refine j_icmp_gt_n (tgt := 35) (pc' := 17) Cx dX4_scalesOf_14 (by decide) rfl (by omega) (by omega) (fun hi => ?_) (fun hi => ?_)
      · exfalso
        omega
      · refine j_iload_n (pc' := 18) Cx dX4_scalesOf_17 rfl rfl rfl ?_
        refine j_iconst (pc' := 19) (v := (nI 5)) Cx dX4_scalesOf_18 rfl (by decide) ?_
        refine j_icmp_lt_n (tgt := 35) (pc' := 22) Cx dX4_scalesOf_19 (by decide) rfl (by omega) (by omega) (fun hc => ?_) (fun hc => ?_)
        · refine j_iload_n (pc' := 36) Cx dX4_scalesOf_35 rfl rfl rfl ?_
          exact j_iret Cx dX4_scalesOf_36 R0 ⟨Nat.le_of_ble_eq_true rfl, Nat.le_of_ble_eq_true rfl⟩ (⟨_, rfl, congrArg nI (kscale_end hs hc hlim).symm, rfl⟩)
        · refine j_iinc_n (pc' := 25) (z := 1) (a := i) (lv' := [(0, .int (nI w)), (1, .int (nI h)), (2, .int (nI (i + 1))), (3, .int (nI s)), (4, .int (nI i))]) Cx dX4_scalesOf_22 rfl rfl (by decide) rfl ?_
          refine j_iload_n (pc' := 26) Cx dX4_scalesOf_25 rfl rfl rfl ?_
          refine j_iconst (pc' := 27) (v := (nI 2)) Cx dX4_scalesOf_26 rfl (by decide) ?_
          refine j_idiv_n (pc' := 28) Cx dX4_scalesOf_27 rfl (by omega) (by omega) (by omega) ?_
          refine j_istore_n (pc' := 29) (lv' := [(0, .int (nI w)), (1, .int (nI h)), (2, .int (nI (i + 1))), (3, .int (nI (s / 2))), (4, .int (nI i))]) Cx dX4_scalesOf_28 rfl rfl (by decide) rfl ?_
          refine j_iinc_n (pc' := 32) (z := 1) (a := i) (lv' := [(0, .int (nI w)), (1, .int (nI h)), (2, .int (nI (i + 1))), (3, .int (nI (s / 2))), (4, .int (nI (i + 1)))]) Cx dX4_scalesOf_29 rfl rfl (by decide) rfl ?_
          refine j_goto (tgt := 11) Cx dX4_scalesOf_32 (by decide) ?_
          exact LP_ih (i + 1) (s / 2) (by omega) (kscale_div hs hc) (kscale_lim hs hc hw hlim)
  exact LP 5 0 _ (by omega) ⟨(Nat.div_one _).symm, fun j hj => absurd hj (Nat.not_lt_zero j)⟩ (by omega)

set_option maxHeartbeats 4000000 in
set_option maxRecDepth 100000 in
theorem c_X4_quotient (l : Launch) (D : va_G) (ty : Nat → ClassId) (s : Int64) (c : Nat) (h0 : 0 < c) (hc : c < 2 ^ 31) : KM l yX4_quotient wsX4_quotient { frames := 0, cells := 0, slots := 0, locals := 0 } D ty [.long (s), .int (nI c)] [] (kF (fun r u => r = FP.ddiv (FP.l2d s) (FP.i2d (nI c)) ∧ u = [])) 0 0 := by
  refine KM.of (cc := cX4_quotient) (maxL := 3) (ret := (some .double)) (lv := [(0, .long (s)), (2, .int (nI c))]) (by decide +kernel) rfl rfl rfl (fun X C0 R0 => ?_)
  have Cx : kC X cX4_quotient wsX4_quotient RX4 { frames := 0, cells := 0, slots := 0, locals := 0 } "quotient" l D ty 3 := C0
  refine j_iload_n (pc' := 1) Cx dX4_quotient_0 rfl rfl rfl ?_
  refine j_if_le_n (tgt := 12) (pc' := 4) Cx dX4_quotient_1 (by decide) rfl (by omega) (fun hh => absurd hh (by omega)) (fun _ => ?_)
  refine j_lload_n (pc' := 5) Cx dX4_quotient_4 rfl rfl rfl ?_
  refine j_l2d (pc' := 6) Cx dX4_quotient_5 rfl ?_
  refine j_iload_n (pc' := 7) Cx dX4_quotient_6 rfl rfl rfl ?_
  refine j_i2d (pc' := 8) Cx dX4_quotient_7 rfl ?_
  refine j_ddiv (pc' := 9) Cx dX4_quotient_8 rfl (k_ddiv_no (k_noNaN (FP.Core.l2d_fin s).notNaN) h0 hc) ?_
  refine j_goto (tgt := 13) Cx dX4_quotient_9 (by decide) ?_
  exact j_dret Cx dX4_quotient_13 R0 ⟨Nat.le_of_ble_eq_true rfl, Nat.le_of_ble_eq_true rfl⟩ (⟨_, rfl, rfl, rfl⟩)

set_option maxHeartbeats 4000000 in
set_option maxRecDepth 100000 in
theorem c_X4_quotient0 (l : Launch) (D : va_G) (ty : Nat → ClassId) (s : Int64) : KM l yX4_quotient wsX4_quotient { frames := 0, cells := 0, slots := 0, locals := 0 } D ty [.long (s), .int (nI 0)] [] (kF (fun r u => r = 0 ∧ u = [])) 0 0 := by
  refine KM.of (cc := cX4_quotient) (maxL := 3) (ret := (some .double)) (lv := [(0, .long (s)), (2, .int (nI 0))]) (by decide +kernel) rfl rfl rfl (fun X C0 R0 => ?_)
  have Cx : kC X cX4_quotient wsX4_quotient RX4 { frames := 0, cells := 0, slots := 0, locals := 0 } "quotient" l D ty 3 := C0
  refine j_iload_n (pc' := 1) Cx dX4_quotient_0 rfl rfl rfl ?_
  refine j_if_le_n (tgt := 12) (pc' := 4) Cx dX4_quotient_1 (by decide) rfl (by omega) (fun _ => ?_) (fun hh => absurd hh (by decide))
  refine j_dconst0 (pc' := 13) Cx dX4_quotient_12 rfl ?_
  exact j_dret Cx dX4_quotient_13 R0 ⟨Nat.le_of_ble_eq_true rfl, Nat.le_of_ble_eq_true rfl⟩ (⟨_, rfl, rfl, rfl⟩)

set_option maxHeartbeats 4000000 in
set_option maxRecDepth 100000 in
theorem c_X4_pictureOf1 (l : Launch) (D : va_G) (ty : Nat → ClassId) (v p1 p2 sg q1 q2 cs W H C S : Nat) (b : Int32) (hb : ¬ b = 0) : KM l yX4_pictureOf wsX4_pictureOf { frames := 0, cells := 0, slots := 0, locals := 0 } D ty [.ref v, .int (b)] [(v, .inr (4, [.int (nI W), .int (nI H), .int (nI C), .int (nI S), .ref p1, .ref p2, .ref sg, .ref q1, .ref q2, .ref cs]))] (kA (fun r u => r = .ref p1 ∧ u = [(v, .inr (4, [.int (nI W), .int (nI H), .int (nI C), .int (nI S), .ref p1, .ref p2, .ref sg, .ref q1, .ref q2, .ref cs]))])) 0 0 := by
  refine KM.of (cc := cX4_pictureOf) (maxL := 2) (ret := (some (.object "VisualSums$Picture"))) (lv := [(0, .ref v), (1, .int (b))]) (by decide +kernel) rfl rfl rfl (fun X C0 R0 => ?_)
  have Cx : kC X cX4_pictureOf wsX4_pictureOf RX4 { frames := 0, cells := 0, slots := 0, locals := 0 } "pictureOf" l D ty 2 := C0
  refine j_iload_n (pc' := 1) Cx dX4_pictureOf_0 rfl rfl rfl ?_
  refine j_if_eq (tgt := 11) (pc' := 4) Cx dX4_pictureOf_1 (by decide) rfl (fun hh => absurd hh (hb)) (fun _ => ?_)
  refine j_aload_n (pc' := 5) Cx dX4_pictureOf_4 rfl rfl rfl ?_
  refine j_get (pc' := 8) (N := 10) Cx dX4_pictureOf_5 rfl kin_X4_pictureOf_X4 kfl_X4_pictureOf_34 0 rfl rfl 4 rfl rfl rfl ?_
  refine j_goto (tgt := 15) Cx dX4_pictureOf_8 (by decide) ?_
  exact j_aret Cx dX4_pictureOf_15 R0 (Or.inr ⟨_, rfl⟩) ⟨Nat.le_of_ble_eq_true rfl, Nat.le_of_ble_eq_true rfl⟩ (⟨_, rfl, rfl, rfl⟩)

set_option maxHeartbeats 4000000 in
set_option maxRecDepth 100000 in
theorem c_X4_pictureOf2 (l : Launch) (D : va_G) (ty : Nat → ClassId) (v p1 p2 sg q1 q2 cs W H C S : Nat) (b : Int32) (hb : b = 0) : KM l yX4_pictureOf wsX4_pictureOf { frames := 0, cells := 0, slots := 0, locals := 0 } D ty [.ref v, .int (b)] [(v, .inr (4, [.int (nI W), .int (nI H), .int (nI C), .int (nI S), .ref p1, .ref p2, .ref sg, .ref q1, .ref q2, .ref cs]))] (kA (fun r u => r = .ref p2 ∧ u = [(v, .inr (4, [.int (nI W), .int (nI H), .int (nI C), .int (nI S), .ref p1, .ref p2, .ref sg, .ref q1, .ref q2, .ref cs]))])) 0 0 := by
  refine KM.of (cc := cX4_pictureOf) (maxL := 2) (ret := (some (.object "VisualSums$Picture"))) (lv := [(0, .ref v), (1, .int (b))]) (by decide +kernel) rfl rfl rfl (fun X C0 R0 => ?_)
  have Cx : kC X cX4_pictureOf wsX4_pictureOf RX4 { frames := 0, cells := 0, slots := 0, locals := 0 } "pictureOf" l D ty 2 := C0
  refine j_iload_n (pc' := 1) Cx dX4_pictureOf_0 rfl rfl rfl ?_
  refine j_if_eq (tgt := 11) (pc' := 4) Cx dX4_pictureOf_1 (by decide) rfl (fun _ => ?_) (fun hh => absurd hh (not_not_intro hb))
  refine j_aload_n (pc' := 12) Cx dX4_pictureOf_11 rfl rfl rfl ?_
  refine j_get (pc' := 15) (N := 10) Cx dX4_pictureOf_12 rfl kin_X4_pictureOf_X4 kfl_X4_pictureOf_38 0 rfl rfl 5 rfl rfl rfl ?_
  exact j_aret Cx dX4_pictureOf_15 R0 (Or.inr ⟨_, rfl⟩) ⟨Nat.le_of_ble_eq_true rfl, Nat.le_of_ble_eq_true rfl⟩ (⟨_, rfl, rfl, rfl⟩)

set_option maxHeartbeats 4000000 in
set_option maxRecDepth 100000 in
theorem c_X4_corpusOf (l : Launch) (D : va_G) (ty : Nat → ClassId) (v p1 p2 sg q1 q2 cs W H C S : Nat) (ka : Nat → Nat) (i : Nat) (hi : i < 8) : KM l yX4_corpusOf wsX4_corpusOf { frames := 0, cells := 0, slots := 0, locals := 0 } D ty [.ref v, .int (nI i)] [(v, .inr (4, [.int (nI W), .int (nI H), .int (nI C), .int (nI S), .ref p1, .ref p2, .ref sg, .ref q1, .ref q2, .ref cs])), (cs, .inl (ty 4, 8, .inr (.inr (.inr (.inr (fun j => some (ka j)))))))] (kA (fun r u => r = .ref (ka i) ∧ u = [(v, .inr (4, [.int (nI W), .int (nI H), .int (nI C), .int (nI S), .ref p1, .ref p2, .ref sg, .ref q1, .ref q2, .ref cs])), (cs, .inl (ty 4, 8, .inr (.inr (.inr (.inr (fun j => some (ka j)))))))])) 0 0 := by
  refine KM.of (cc := cX4_corpusOf) (maxL := 2) (ret := (some (.object "VisualSums$Corpus"))) (lv := [(0, .ref v), (1, .int (nI i))]) (by decide +kernel) rfl rfl rfl (fun X C0 R0 => ?_)
  have Cx : kC X cX4_corpusOf wsX4_corpusOf RX4 { frames := 0, cells := 0, slots := 0, locals := 0 } "corpusOf" l D ty 2 := C0
  refine j_iload_n (pc' := 1) Cx dX4_corpusOf_0 rfl rfl rfl ?_
  refine j_if_lt_n (tgt := 22) (pc' := 4) Cx dX4_corpusOf_1 (by decide) rfl (by omega) ?_
  refine j_iload_n (pc' := 5) Cx dX4_corpusOf_4 rfl rfl rfl ?_
  refine j_aload_n (pc' := 6) Cx dX4_corpusOf_5 rfl rfl rfl ?_
  refine j_get (pc' := 9) (N := 10) Cx dX4_corpusOf_6 rfl kin_X4_corpusOf_X4 kfl_X4_corpusOf_60 0 rfl rfl 9 rfl rfl rfl ?_
  refine j_alen (pc' := 10) (v := nI 8) Cx dX4_corpusOf_9 rfl 1 rfl rfl rfl ?_
  refine j_icmp_ge_n (tgt := 22) (pc' := 13) Cx dX4_corpusOf_10 (by decide) rfl (by omega) (by omega) (fun hh => absurd hh (by omega)) (fun _ => ?_)
  refine j_aload_n (pc' := 14) Cx dX4_corpusOf_13 rfl rfl rfl ?_
  refine j_get (pc' := 17) (N := 10) Cx dX4_corpusOf_14 rfl kin_X4_corpusOf_X4 kfl_X4_corpusOf_60 0 rfl rfl 9 rfl rfl rfl ?_
  refine j_iload_n (pc' := 18) Cx dX4_corpusOf_17 rfl rfl rfl ?_
  refine j_aaload_n (pc' := 19) Cx dX4_corpusOf_18 rfl 1 rfl (by omega) (by omega) ?_
  show J X [(v, .inr (4, [.int (nI W), .int (nI H), .int (nI C), .int (nI S), .ref p1, .ref p2, .ref sg, .ref q1, .ref q2, .ref cs])), (cs, .inl (ty 4, 8, .inr (.inr (.inr (.inr (fun j => some (ka j)))))))] [(0, .ref v), (1, .int (nI i))] 19 [.ref (ka i)] 0 0
  refine j_goto (tgt := 23) Cx dX4_corpusOf_19 (by decide) ?_
  exact j_aret Cx dX4_corpusOf_23 R0 (Or.inr ⟨_, rfl⟩) ⟨Nat.le_of_ble_eq_true rfl, Nat.le_of_ble_eq_true rfl⟩ (⟨_, rfl, rfl, rfl⟩)

set_option maxHeartbeats 4000000 in
set_option maxRecDepth 100000 in
theorem c_X4_corpusOf_no (l : Launch) (D : va_G) (ty : Nat → ClassId) (v p1 p2 sg q1 q2 cs W H C S : Nat) (ka : Nat → Nat) (x : Int32) (hx : x < 0 ∨ nI 8 ≤ x) : KM l yX4_corpusOf wsX4_corpusOf { frames := 0, cells := 0, slots := 0, locals := 0 } D ty [.ref v, .int (x)] [(v, .inr (4, [.int (nI W), .int (nI H), .int (nI C), .int (nI S), .ref p1, .ref p2, .ref sg, .ref q1, .ref q2, .ref cs])), (cs, .inl (ty 4, 8, .inr (.inr (.inr (.inr (fun j => some (ka j)))))))] (kA (fun r u => r = .null ∧ u = [(v, .inr (4, [.int (nI W), .int (nI H), .int (nI C), .int (nI S), .ref p1, .ref p2, .ref sg, .ref q1, .ref q2, .ref cs])), (cs, .inl (ty 4, 8, .inr (.inr (.inr (.inr (fun j => some (ka j)))))))])) 0 0 := by
  refine KM.of (cc := cX4_corpusOf) (maxL := 2) (ret := (some (.object "VisualSums$Corpus"))) (lv := [(0, .ref v), (1, .int (x))]) (by decide +kernel) rfl rfl rfl (fun X C0 R0 => ?_)
  have Cx : kC X cX4_corpusOf wsX4_corpusOf RX4 { frames := 0, cells := 0, slots := 0, locals := 0 } "corpusOf" l D ty 2 := C0
  rcases hx with hx | hx
  · refine j_iload_n (pc' := 1) Cx dX4_corpusOf_0 rfl rfl rfl ?_
    refine j_if_lt (tgt := 22) (pc' := 4) Cx dX4_corpusOf_1 (by decide) rfl (fun _ => ?_) (fun hh => absurd hh (not_not_intro hx))
    refine j_null (pc' := 23) Cx dX4_corpusOf_22 rfl ?_
    exact j_aret Cx dX4_corpusOf_23 R0 (Or.inl rfl) ⟨Nat.le_of_ble_eq_true rfl, Nat.le_of_ble_eq_true rfl⟩ (⟨_, rfl, rfl, rfl⟩)
  · refine j_iload_n (pc' := 1) Cx dX4_corpusOf_0 rfl rfl rfl ?_
    refine j_if_lt (tgt := 22) (pc' := 4) Cx dX4_corpusOf_1 (by decide) rfl (fun hh => absurd hh (fun e => absurd (Int32.lt_of_le_of_lt hx e) (nI_pos (by decide)))) (fun _ => ?_)
    refine j_iload_n (pc' := 5) Cx dX4_corpusOf_4 rfl rfl rfl ?_
    refine j_aload_n (pc' := 6) Cx dX4_corpusOf_5 rfl rfl rfl ?_
    refine j_get (pc' := 9) (N := 10) Cx dX4_corpusOf_6 rfl kin_X4_corpusOf_X4 kfl_X4_corpusOf_60 0 rfl rfl 9 rfl rfl rfl ?_
    refine j_alen (pc' := 10) (v := nI 8) Cx dX4_corpusOf_9 rfl 1 rfl rfl rfl ?_
    refine j_icmp_ge (tgt := 22) (pc' := 13) Cx dX4_corpusOf_10 (by decide) rfl (fun _ => ?_) (fun hh => absurd hh (not_not_intro hx))
    refine j_null (pc' := 23) Cx dX4_corpusOf_22 rfl ?_
    exact j_aret Cx dX4_corpusOf_23 R0 (Or.inl rfl) ⟨Nat.le_of_ble_eq_true rfl, Nat.le_of_ble_eq_true rfl⟩ (⟨_, rfl, rfl, rfl⟩)

set_option maxHeartbeats 4000000 in
set_option maxRecDepth 100000 in
theorem c_X4_hasPlace (l : Launch) (D : va_G) (ty : Nat → ClassId) (v p1 p2 sg q1 q2 cs W H C S : Nat) (i j : Nat) (hi : i < W) (hj : j < H) (hW : W ≤ 24) (hH : H ≤ 24) : KM l yX4_hasPlace wsX4_hasPlace { frames := 0, cells := 0, slots := 0, locals := 0 } D ty [.ref v, .int (nI i), .int (nI j)] [(v, .inr (4, [.int (nI W), .int (nI H), .int (nI C), .int (nI S), .ref p1, .ref p2, .ref sg, .ref q1, .ref q2, .ref cs]))] (kI (fun r u => r = nI 1 ∧ u = [(v, .inr (4, [.int (nI W), .int (nI H), .int (nI C), .int (nI S), .ref p1, .ref p2, .ref sg, .ref q1, .ref q2, .ref cs]))])) 0 0 := by
  refine KM.of (cc := cX4_hasPlace) (maxL := 3) (ret := (some .boolean)) (lv := [(0, .ref v), (1, .int (nI i)), (2, .int (nI j))]) (by decide +kernel) rfl rfl rfl (fun X C0 R0 => ?_)
  have Cx : kC X cX4_hasPlace wsX4_hasPlace RX4 { frames := 0, cells := 0, slots := 0, locals := 0 } "hasPlace" l D ty 3 := C0
  refine j_iload_n (pc' := 1) Cx dX4_hasPlace_0 rfl rfl rfl ?_
  refine j_if_lt_n (tgt := 28) (pc' := 4) Cx dX4_hasPlace_1 (by decide) rfl (by omega) ?_
  refine j_iload_n (pc' := 5) Cx dX4_hasPlace_4 rfl rfl rfl ?_
  refine j_aload_n (pc' := 6) Cx dX4_hasPlace_5 rfl rfl rfl ?_
  refine j_get (pc' := 9) (N := 10) Cx dX4_hasPlace_6 rfl kin_X4_hasPlace_X4 kfl_X4_hasPlace_13 0 rfl rfl 0 rfl rfl rfl ?_
  refine j_icmp_ge_n (tgt := 28) (pc' := 12) Cx dX4_hasPlace_9 (by decide) rfl (by omega) (by omega) (fun hh => absurd hh (by omega)) (fun _ => ?_)
  refine j_iload_n (pc' := 13) Cx dX4_hasPlace_12 rfl rfl rfl ?_
  refine j_if_lt_n (tgt := 28) (pc' := 16) Cx dX4_hasPlace_13 (by decide) rfl (by omega) ?_
  refine j_iload_n (pc' := 17) Cx dX4_hasPlace_16 rfl rfl rfl ?_
  refine j_aload_n (pc' := 18) Cx dX4_hasPlace_17 rfl rfl rfl ?_
  refine j_get (pc' := 21) (N := 10) Cx dX4_hasPlace_18 rfl kin_X4_hasPlace_X4 kfl_X4_hasPlace_17 0 rfl rfl 1 rfl rfl rfl ?_
  refine j_icmp_ge_n (tgt := 28) (pc' := 24) Cx dX4_hasPlace_21 (by decide) rfl (by omega) (by omega) (fun hh => absurd hh (by omega)) (fun _ => ?_)
  refine j_iconst (pc' := 25) (v := (nI 1)) Cx dX4_hasPlace_24 rfl (by decide) ?_
  refine j_goto (tgt := 29) Cx dX4_hasPlace_25 (by decide) ?_
  exact j_zret Cx dX4_hasPlace_29 R0 (by decide) ⟨Nat.le_of_ble_eq_true rfl, Nat.le_of_ble_eq_true rfl⟩ (⟨_, rfl, rfl, rfl⟩)

set_option maxHeartbeats 4000000 in
set_option maxRecDepth 100000 in
theorem c_X4_hasPlace_no (l : Launch) (D : va_G) (ty : Nat → ClassId) (v p1 p2 sg q1 q2 cs W H C S : Nat) (x y : Int32) (hno : ¬ (kok x W ∧ kok y H)) (hW : W ≤ 24) (hH : H ≤ 24) : KM l yX4_hasPlace wsX4_hasPlace { frames := 0, cells := 0, slots := 0, locals := 0 } D ty [.ref v, .int (x), .int (y)] [(v, .inr (4, [.int (nI W), .int (nI H), .int (nI C), .int (nI S), .ref p1, .ref p2, .ref sg, .ref q1, .ref q2, .ref cs]))] (kI (fun r u => r = nI 0 ∧ u = [(v, .inr (4, [.int (nI W), .int (nI H), .int (nI C), .int (nI S), .ref p1, .ref p2, .ref sg, .ref q1, .ref q2, .ref cs]))])) 0 0 := by
  refine KM.of (cc := cX4_hasPlace) (maxL := 3) (ret := (some .boolean)) (lv := [(0, .ref v), (1, .int (x)), (2, .int (y))]) (by decide +kernel) rfl rfl rfl (fun X C0 R0 => ?_)
  have Cx : kC X cX4_hasPlace wsX4_hasPlace RX4 { frames := 0, cells := 0, slots := 0, locals := 0 } "hasPlace" l D ty 3 := C0
  rcases pk_ix x (n := W) (by omega) with hx | hx | ⟨i, hi, rfl⟩
  · refine j_iload_n (pc' := 1) Cx dX4_hasPlace_0 rfl rfl rfl ?_
    refine j_if_lt (tgt := 28) (pc' := 4) Cx dX4_hasPlace_1 (by decide) rfl (fun _ => ?_) (fun hh => absurd hh (not_not_intro hx))
    refine j_iconst (pc' := 29) (v := (nI 0)) Cx dX4_hasPlace_28 rfl (by decide) ?_
    exact j_zret Cx dX4_hasPlace_29 R0 (by decide) ⟨Nat.le_of_ble_eq_true rfl, Nat.le_of_ble_eq_true rfl⟩ (⟨_, rfl, rfl, rfl⟩)
  · refine j_iload_n (pc' := 1) Cx dX4_hasPlace_0 rfl rfl rfl ?_
    refine j_if_lt (tgt := 28) (pc' := 4) Cx dX4_hasPlace_1 (by decide) rfl (fun hh => absurd hh (fun e => absurd (Int32.lt_of_le_of_lt hx e) (nI_pos (by omega)))) (fun _ => ?_)
    refine j_iload_n (pc' := 5) Cx dX4_hasPlace_4 rfl rfl rfl ?_
    refine j_aload_n (pc' := 6) Cx dX4_hasPlace_5 rfl rfl rfl ?_
    refine j_get (pc' := 9) (N := 10) Cx dX4_hasPlace_6 rfl kin_X4_hasPlace_X4 kfl_X4_hasPlace_13 0 rfl rfl 0 rfl rfl rfl ?_
    refine j_icmp_ge (tgt := 28) (pc' := 12) Cx dX4_hasPlace_9 (by decide) rfl (fun _ => ?_) (fun hh => absurd hh (not_not_intro hx))
    refine j_iconst (pc' := 29) (v := (nI 0)) Cx dX4_hasPlace_28 rfl (by decide) ?_
    exact j_zret Cx dX4_hasPlace_29 R0 (by decide) ⟨Nat.le_of_ble_eq_true rfl, Nat.le_of_ble_eq_true rfl⟩ (⟨_, rfl, rfl, rfl⟩)
  · rcases pk_ix y (n := H) (by omega) with hy | hy | ⟨j, hj, rfl⟩
    · refine j_iload_n (pc' := 1) Cx dX4_hasPlace_0 rfl rfl rfl ?_
      refine j_if_lt_n (tgt := 28) (pc' := 4) Cx dX4_hasPlace_1 (by decide) rfl (by omega) ?_
      refine j_iload_n (pc' := 5) Cx dX4_hasPlace_4 rfl rfl rfl ?_
      refine j_aload_n (pc' := 6) Cx dX4_hasPlace_5 rfl rfl rfl ?_
      refine j_get (pc' := 9) (N := 10) Cx dX4_hasPlace_6 rfl kin_X4_hasPlace_X4 kfl_X4_hasPlace_13 0 rfl rfl 0 rfl rfl rfl ?_
      refine j_icmp_ge_n (tgt := 28) (pc' := 12) Cx dX4_hasPlace_9 (by decide) rfl (by omega) (by omega) (fun hh => absurd hh (by omega)) (fun _ => ?_)
      refine j_iload_n (pc' := 13) Cx dX4_hasPlace_12 rfl rfl rfl ?_
      refine j_if_lt (tgt := 28) (pc' := 16) Cx dX4_hasPlace_13 (by decide) rfl (fun _ => ?_) (fun hh => absurd hh (not_not_intro hy))
      refine j_iconst (pc' := 29) (v := (nI 0)) Cx dX4_hasPlace_28 rfl (by decide) ?_
      exact j_zret Cx dX4_hasPlace_29 R0 (by decide) ⟨Nat.le_of_ble_eq_true rfl, Nat.le_of_ble_eq_true rfl⟩ (⟨_, rfl, rfl, rfl⟩)
    · refine j_iload_n (pc' := 1) Cx dX4_hasPlace_0 rfl rfl rfl ?_
      refine j_if_lt_n (tgt := 28) (pc' := 4) Cx dX4_hasPlace_1 (by decide) rfl (by omega) ?_
      refine j_iload_n (pc' := 5) Cx dX4_hasPlace_4 rfl rfl rfl ?_
      refine j_aload_n (pc' := 6) Cx dX4_hasPlace_5 rfl rfl rfl ?_
      refine j_get (pc' := 9) (N := 10) Cx dX4_hasPlace_6 rfl kin_X4_hasPlace_X4 kfl_X4_hasPlace_13 0 rfl rfl 0 rfl rfl rfl ?_
      refine j_icmp_ge_n (tgt := 28) (pc' := 12) Cx dX4_hasPlace_9 (by decide) rfl (by omega) (by omega) (fun hh => absurd hh (by omega)) (fun _ => ?_)
      refine j_iload_n (pc' := 13) Cx dX4_hasPlace_12 rfl rfl rfl ?_
      refine j_if_lt (tgt := 28) (pc' := 16) Cx dX4_hasPlace_13 (by decide) rfl (fun hh => absurd hh (fun e => absurd (Int32.lt_of_le_of_lt hy e) (nI_pos (by omega)))) (fun _ => ?_)
      refine j_iload_n (pc' := 17) Cx dX4_hasPlace_16 rfl rfl rfl ?_
      refine j_aload_n (pc' := 18) Cx dX4_hasPlace_17 rfl rfl rfl ?_
      refine j_get (pc' := 21) (N := 10) Cx dX4_hasPlace_18 rfl kin_X4_hasPlace_X4 kfl_X4_hasPlace_17 0 rfl rfl 1 rfl rfl rfl ?_
      refine j_icmp_ge (tgt := 28) (pc' := 24) Cx dX4_hasPlace_21 (by decide) rfl (fun _ => ?_) (fun hh => absurd hh (not_not_intro hy))
      refine j_iconst (pc' := 29) (v := (nI 0)) Cx dX4_hasPlace_28 rfl (by decide) ?_
      exact j_zret Cx dX4_hasPlace_29 R0 (by decide) ⟨Nat.le_of_ble_eq_true rfl, Nat.le_of_ble_eq_true rfl⟩ (⟨_, rfl, rfl, rfl⟩)
    · exact absurd ⟨⟨i, hi, rfl⟩, ⟨j, hj, rfl⟩⟩ hno

set_option maxHeartbeats 4000000 in
set_option maxRecDepth 100000 in
theorem c_X4_hasChannel (l : Launch) (D : va_G) (ty : Nat → ClassId) (v p1 p2 sg q1 q2 cs W H C S : Nat) (i : Nat) (hi : i < C) (h3 : C ≤ 3) : KM l yX4_hasChannel wsX4_hasChannel { frames := 0, cells := 0, slots := 0, locals := 0 } D ty [.ref v, .int (nI i)] [(v, .inr (4, [.int (nI W), .int (nI H), .int (nI C), .int (nI S), .ref p1, .ref p2, .ref sg, .ref q1, .ref q2, .ref cs]))] (kI (fun r u => r = nI 1 ∧ u = [(v, .inr (4, [.int (nI W), .int (nI H), .int (nI C), .int (nI S), .ref p1, .ref p2, .ref sg, .ref q1, .ref q2, .ref cs]))])) 0 0 := by
  refine KM.of (cc := cX4_hasChannel) (maxL := 2) (ret := (some .boolean)) (lv := [(0, .ref v), (1, .int (nI i))]) (by decide +kernel) rfl rfl rfl (fun X C0 R0 => ?_)
  have Cx : kC X cX4_hasChannel wsX4_hasChannel RX4 { frames := 0, cells := 0, slots := 0, locals := 0 } "hasChannel" l D ty 2 := C0
  refine j_iload_n (pc' := 1) Cx dX4_hasChannel_0 rfl rfl rfl ?_
  refine j_if_lt_n (tgt := 16) (pc' := 4) Cx dX4_hasChannel_1 (by decide) rfl (by omega) ?_
  refine j_iload_n (pc' := 5) Cx dX4_hasChannel_4 rfl rfl rfl ?_
  refine j_aload_n (pc' := 6) Cx dX4_hasChannel_5 rfl rfl rfl ?_
  refine j_get (pc' := 9) (N := 10) Cx dX4_hasChannel_6 rfl kin_X4_hasChannel_X4 kfl_X4_hasChannel_20 0 rfl rfl 2 rfl rfl rfl ?_
  refine j_icmp_ge_n (tgt := 16) (pc' := 12) Cx dX4_hasChannel_9 (by decide) rfl (by omega) (by omega) (fun hh => absurd hh (by omega)) (fun _ => ?_)
  refine j_iconst (pc' := 13) (v := (nI 1)) Cx dX4_hasChannel_12 rfl (by decide) ?_
  refine j_goto (tgt := 17) Cx dX4_hasChannel_13 (by decide) ?_
  exact j_zret Cx dX4_hasChannel_17 R0 (by decide) ⟨Nat.le_of_ble_eq_true rfl, Nat.le_of_ble_eq_true rfl⟩ (⟨_, rfl, rfl, rfl⟩)

set_option maxHeartbeats 4000000 in
set_option maxRecDepth 100000 in
theorem c_X4_hasChannel_no (l : Launch) (D : va_G) (ty : Nat → ClassId) (v p1 p2 sg q1 q2 cs W H C S : Nat) (x : Int32) (hno : ¬ kok x C) (h3 : C ≤ 3) : KM l yX4_hasChannel wsX4_hasChannel { frames := 0, cells := 0, slots := 0, locals := 0 } D ty [.ref v, .int (x)] [(v, .inr (4, [.int (nI W), .int (nI H), .int (nI C), .int (nI S), .ref p1, .ref p2, .ref sg, .ref q1, .ref q2, .ref cs]))] (kI (fun r u => r = nI 0 ∧ u = [(v, .inr (4, [.int (nI W), .int (nI H), .int (nI C), .int (nI S), .ref p1, .ref p2, .ref sg, .ref q1, .ref q2, .ref cs]))])) 0 0 := by
  refine KM.of (cc := cX4_hasChannel) (maxL := 2) (ret := (some .boolean)) (lv := [(0, .ref v), (1, .int (x))]) (by decide +kernel) rfl rfl rfl (fun X C0 R0 => ?_)
  have Cx : kC X cX4_hasChannel wsX4_hasChannel RX4 { frames := 0, cells := 0, slots := 0, locals := 0 } "hasChannel" l D ty 2 := C0
  rcases pk_ix x (n := C) (by omega) with hx | hx | ⟨i, hi, rfl⟩
  · refine j_iload_n (pc' := 1) Cx dX4_hasChannel_0 rfl rfl rfl ?_
    refine j_if_lt (tgt := 16) (pc' := 4) Cx dX4_hasChannel_1 (by decide) rfl (fun _ => ?_) (fun hh => absurd hh (not_not_intro hx))
    refine j_iconst (pc' := 17) (v := (nI 0)) Cx dX4_hasChannel_16 rfl (by decide) ?_
    exact j_zret Cx dX4_hasChannel_17 R0 (by decide) ⟨Nat.le_of_ble_eq_true rfl, Nat.le_of_ble_eq_true rfl⟩ (⟨_, rfl, rfl, rfl⟩)
  · refine j_iload_n (pc' := 1) Cx dX4_hasChannel_0 rfl rfl rfl ?_
    refine j_if_lt (tgt := 16) (pc' := 4) Cx dX4_hasChannel_1 (by decide) rfl (fun hh => absurd hh (fun e => absurd (Int32.lt_of_le_of_lt hx e) (nI_pos (by omega)))) (fun _ => ?_)
    refine j_iload_n (pc' := 5) Cx dX4_hasChannel_4 rfl rfl rfl ?_
    refine j_aload_n (pc' := 6) Cx dX4_hasChannel_5 rfl rfl rfl ?_
    refine j_get (pc' := 9) (N := 10) Cx dX4_hasChannel_6 rfl kin_X4_hasChannel_X4 kfl_X4_hasChannel_20 0 rfl rfl 2 rfl rfl rfl ?_
    refine j_icmp_ge (tgt := 16) (pc' := 12) Cx dX4_hasChannel_9 (by decide) rfl (fun _ => ?_) (fun hh => absurd hh (not_not_intro hx))
    refine j_iconst (pc' := 17) (v := (nI 0)) Cx dX4_hasChannel_16 rfl (by decide) ?_
    exact j_zret Cx dX4_hasChannel_17 R0 (by decide) ⟨Nat.le_of_ble_eq_true rfl, Nat.le_of_ble_eq_true rfl⟩ (⟨_, rfl, rfl, rfl⟩)
  · exact absurd ⟨i, hi, rfl⟩ hno

set_option maxHeartbeats 4000000 in
set_option maxRecDepth 100000 in
theorem c_X4_placeOf (l : Launch) (D : va_G) (ty : Nat → ClassId) (v p1 p2 sg q1 q2 cs W H C S : Nat) (i j : Nat) : KM l yX4_placeOf wsX4_placeOf { frames := 0, cells := 0, slots := 0, locals := 0 } D ty [.ref v, .int (nI i), .int (nI j)] [(v, .inr (4, [.int (nI W), .int (nI H), .int (nI C), .int (nI S), .ref p1, .ref p2, .ref sg, .ref q1, .ref q2, .ref cs]))] (kI (fun r u => r = nI (j * W + i) ∧ u = [(v, .inr (4, [.int (nI W), .int (nI H), .int (nI C), .int (nI S), .ref p1, .ref p2, .ref sg, .ref q1, .ref q2, .ref cs]))])) 0 0 := by
  refine KM.of (cc := cX4_placeOf) (maxL := 3) (ret := (some .int)) (lv := [(0, .ref v), (1, .int (nI i)), (2, .int (nI j))]) (by decide +kernel) rfl rfl rfl (fun X C0 R0 => ?_)
  have Cx : kC X cX4_placeOf wsX4_placeOf RX4 { frames := 0, cells := 0, slots := 0, locals := 0 } "placeOf" l D ty 3 := C0
  refine j_iload_n (pc' := 1) Cx dX4_placeOf_0 rfl rfl rfl ?_
  refine j_aload_n (pc' := 2) Cx dX4_placeOf_1 rfl rfl rfl ?_
  refine j_get (pc' := 5) (N := 10) Cx dX4_placeOf_2 rfl kin_X4_placeOf_X4 kfl_X4_placeOf_13 0 rfl rfl 0 rfl rfl rfl ?_
  refine j_imul_n (pc' := 6) Cx dX4_placeOf_5 rfl ?_
  refine j_iload_n (pc' := 7) Cx dX4_placeOf_6 rfl rfl rfl ?_
  refine j_iadd_n (pc' := 8) Cx dX4_placeOf_7 rfl ?_
  exact j_iret Cx dX4_placeOf_8 R0 ⟨Nat.le_of_ble_eq_true rfl, Nat.le_of_ble_eq_true rfl⟩ (⟨_, rfl, rfl, rfl⟩)

set_option maxHeartbeats 4000000 in
set_option maxRecDepth 100000 in
/-- stepTo -/
theorem c_X4_stepTo (l : Launch) (D : va_G) (ty : Nat → ClassId) (v p1 p2 sg q1 q2 cs W H C S : Nat) (p a N : Nat) (A : Nat → Nat) (hA : ∀ i, A i < 256) (hW : W ≤ 24) (hH : H ≤ 24) (h1 : 1 ≤ C) (h3 : C ≤ 3) (hN : N = (W * H) * C) (x y : Nat) (hx1 : 1 ≤ x) (hx : x < W) (hy : y < H) : KM l yX4_stepTo wsX4_stepTo { frames := 1, cells := 0, slots := 0, locals := 40 } D ty [.ref v, .ref p, .int (nI x), .int (nI y)] [(v, .inr (4, [.int (nI W), .int (nI H), .int (nI C), .int (nI S), .ref p1, .ref p2, .ref sg, .ref q1, .ref q2, .ref cs])), (p, .inr (2, [.int (nI C), .ref a])), (a, .inl (ty 0, N, .inl (kN A)))] (kI (fun r u => r = nI (kd (kg C A (y * W + x)) (kg C A (y * W + x - 1))) ∧ u = [(v, .inr (4, [.int (nI W), .int (nI H), .int (nI C), .int (nI S), .ref p1, .ref p2, .ref sg, .ref q1, .ref q2, .ref cs])), (p, .inr (2, [.int (nI C), .ref a])), (a, .inl (ty 0, N, .inl (kN A)))])) 0 0 := by
  refine KM.of (cc := cX4_stepTo) (maxL := 5) (ret := (some .int)) (lv := [(0, .ref v), (1, .ref p), (2, .int (nI x)), (3, .int (nI y))]) (by decide +kernel) rfl rfl rfl (fun X C0 R0 => ?_)
  have Cx : kC X cX4_stepTo wsX4_stepTo RX4 { frames := 1, cells := 0, slots := 0, locals := 40 } "stepTo" l D ty 5 := C0
  have hwh := k_wh hW hH
  have hN2 : N ≤ 1728 := by rw [hN]; exact Nat.le_trans (Nat.mul_le_mul hwh h3) (by decide)
  have hp := k_idx hx hy
  refine j_aload_n (pc' := 1) Cx dX4_stepTo_0 rfl rfl rfl ?_
  refine j_iload_n (pc' := 2) Cx dX4_stepTo_1 rfl rfl rfl ?_
  refine j_iload_n (pc' := 3) Cx dX4_stepTo_2 rfl rfl rfl ?_
  refine j_callV (pc' := 6) (wr := [(p, .inr (2, [.int (nI C), .ref a])), (a, .inl (ty 0, N, .inl (kN A)))]) (st := []) Cx dX4_stepTo_3 rfl (c_X4_placeOf l D ty v p1 p2 sg q1 q2 cs W H C S x y) gX4_stepTo_X4_placeOf rfl khd_X4_placeOf rfl ⟨rfl, rfl, Nat.le_of_ble_eq_true rfl, Nat.le_of_ble_eq_true rfl⟩ [0] [1, 2] rfl rfl ⟨rfl, rfl⟩ (by decide) 0 rfl rfl rfl (Nat.le_of_ble_eq_true rfl) ⟨Nat.le_of_ble_eq_true rfl, Nat.le_of_ble_eq_true rfl⟩ (fun v u hpost => ?_)
  obtain ⟨r, rfl, rfl, rfl⟩ := hpost
  show J X [(p, .inr (2, [.int (nI C), .ref a])), (a, .inl (ty 0, N, .inl (kN A))), (v, .inr (4, [.int (nI W), .int (nI H), .int (nI C), .int (nI S), .ref p1, .ref p2, .ref sg, .ref q1, .ref q2, .ref cs]))] [(0, .ref v), (1, .ref p), (2, .int (nI x)), (3, .int (nI y))] 6 [.int (nI (y * W + x))] 0 0
  refine J.sub (ws' := [(v, .inr (4, [.int (nI W), .int (nI H), .int (nI C), .int (nI S), .ref p1, .ref p2, .ref sg, .ref q1, .ref q2, .ref cs])), (p, .inr (2, [.int (nI C), .ref a])), (a, .inl (ty 0, N, .inl (kN A)))]) [2, 0, 1] rfl rfl ?_
  refine j_istore (pc' := 8) (lv' := [(0, .ref v), (1, .ref p), (2, .int (nI x)), (3, .int (nI y)), (4, .int (nI (y * W + x)))]) Cx dX4_stepTo_6 rfl (by decide) rfl ?_
  refine j_aload_n (pc' := 9) Cx dX4_stepTo_8 rfl rfl rfl ?_
  refine j_iload (pc' := 11) Cx dX4_stepTo_9 rfl rfl ?_
  refine j_callV (pc' := 14) (wr := [(v, .inr (4, [.int (nI W), .int (nI H), .int (nI C), .int (nI S), .ref p1, .ref p2, .ref sg, .ref q1, .ref q2, .ref cs]))]) (st := []) Cx dX4_stepTo_11 rfl (c_X2_greyAt l D ty p a C N (W * H) (y * W + x) A hA hN2 hN hp h1 h3) gX4_stepTo_X2_greyAt rfl khd_X2_greyAt rfl ⟨rfl, rfl, Nat.le_of_ble_eq_true rfl, Nat.le_of_ble_eq_true rfl⟩ [1, 2] [0] rfl rfl ⟨rfl, rfl⟩ (by decide) 1 rfl rfl rfl (Nat.le_of_ble_eq_true rfl) ⟨Nat.le_of_ble_eq_true rfl, Nat.le_of_ble_eq_true rfl⟩ (fun v u hpost => ?_)
  obtain ⟨r, rfl, rfl, rfl⟩ := hpost
  show J X [(v, .inr (4, [.int (nI W), .int (nI H), .int (nI C), .int (nI S), .ref p1, .ref p2, .ref sg, .ref q1, .ref q2, .ref cs])), (p, .inr (2, [.int (nI C), .ref a])), (a, .inl (ty 0, N, .inl (kN A)))] [(0, .ref v), (1, .ref p), (2, .int (nI x)), (3, .int (nI y)), (4, .int (nI (y * W + x)))] 14 [.int (nI (kg C A (y * W + x)))] 0 0
  refine j_aload_n (pc' := 15) Cx dX4_stepTo_14 rfl rfl rfl ?_
  refine j_iload (pc' := 17) Cx dX4_stepTo_15 rfl rfl ?_
  refine j_iconst (pc' := 18) (v := (nI 1)) Cx dX4_stepTo_17 rfl (by decide) ?_
  refine j_isub_n (pc' := 19) Cx dX4_stepTo_18 rfl (by omega) ?_
  refine j_callV (pc' := 22) (wr := [(v, .inr (4, [.int (nI W), .int (nI H), .int (nI C), .int (nI S), .ref p1, .ref p2, .ref sg, .ref q1, .ref q2, .ref cs]))]) (st := [.int (nI (kg C A (y * W + x)))]) Cx dX4_stepTo_19 rfl (c_X2_greyAt l D ty p a C N (W * H) (y * W + x - 1) A hA hN2 hN (by omega) h1 h3) gX4_stepTo_X2_greyAt rfl khd_X2_greyAt rfl ⟨rfl, rfl, Nat.le_of_ble_eq_true rfl, Nat.le_of_ble_eq_true rfl⟩ [1, 2] [0] rfl rfl ⟨rfl, rfl⟩ (by decide) 1 rfl rfl rfl (Nat.le_of_ble_eq_true rfl) ⟨Nat.le_of_ble_eq_true rfl, Nat.le_of_ble_eq_true rfl⟩ (fun v u hpost => ?_)
  obtain ⟨r, rfl, rfl, rfl⟩ := hpost
  show J X [(v, .inr (4, [.int (nI W), .int (nI H), .int (nI C), .int (nI S), .ref p1, .ref p2, .ref sg, .ref q1, .ref q2, .ref cs])), (p, .inr (2, [.int (nI C), .ref a])), (a, .inl (ty 0, N, .inl (kN A)))] [(0, .ref v), (1, .ref p), (2, .int (nI x)), (3, .int (nI y)), (4, .int (nI (y * W + x)))] 22 [.int (nI (kg C A (y * W + x - 1))), .int (nI (kg C A (y * W + x)))] 0 0
  refine j_isub (pc' := 23) Cx dX4_stepTo_22 rfl ?_
  refine j_abs (pc' := 26) Cx dX4_stepTo_23 rfl kmt_X4_stepTo_218 ⟨Nat.le_of_ble_eq_true rfl, Nat.le_of_ble_eq_true rfl, Nat.le_of_ble_eq_true rfl, Nat.le_of_ble_eq_true rfl⟩ ?_
  refine j_top (v' := .int (nI (kd (kg C A (y * W + x)) (kg C A (y * W + x - 1))))) (congrArg Value.int (k_abs (by have := kg_lt (C := C) hA (y * W + x); omega) (by have := kg_lt (C := C) hA (y * W + x - 1); omega))) ?_
  exact j_iret Cx dX4_stepTo_26 R0 ⟨Nat.le_of_ble_eq_true rfl, Nat.le_of_ble_eq_true rfl⟩ (⟨_, rfl, rfl, rfl⟩)

set_option maxHeartbeats 4000000 in
set_option maxRecDepth 100000 in
theorem c_X4_paint1 (l : Launch) (D : va_G) (ty : Nat → ClassId) (v p1 p2 sg q1 q2 cs W H C S : Nat) (a1 a2 N : Nat) (A B : Nat → Nat) (hA : ∀ i, A i < 256) (hB : ∀ i, B i < 256) (hW : W ≤ 24) (hH : H ≤ 24) (hW1 : 1 ≤ W) (hH1 : 1 ≤ H) (h1 : 1 ≤ C) (h3 : C ≤ 3) (hN : N = (W * H) * C) (b x step : Int32) (hb : ¬ b = 0) : KM l yX4_paint wsX4_paint { frames := 1, cells := 0, slots := 0, locals := 40 } D ty [.ref v, .int (b), .int (x), .int (step)] [(v, .inr (4, [.int (nI W), .int (nI H), .int (nI C), .int (nI S), .ref p1, .ref p2, .ref sg, .ref q1, .ref q2, .ref cs])), (p1, .inr (2, [.int (nI C), .ref a1])), (a1, .inl (ty 0, N, .inl (kN A))), (p2, .inr (2, [.int (nI C), .ref a2])), (a2, .inl (ty 0, N, .inl (kN B)))] (kI (fun r u => r = nI (kct (fun j => decide (A j ≠ lo8 (kps x step j))) N) ∧ u = [(v, .inr (4, [.int (nI W), .int (nI H), .int (nI C), .int (nI S), .ref p1, .ref p2, .ref sg, .ref q1, .ref q2, .ref cs])), (p1, .inr (2, [.int (nI C), .ref a1])), (a1, .inl (ty 0, N, .inl (kN (kfill (fun j => lo8 (kps x step j)) A N)))), (p2, .inr (2, [.int (nI C), .ref a2])), (a2, .inl (ty 0, N, .inl (kN B)))])) 0 0 := by
  refine KM.of (cc := cX4_paint) (maxL := 4) (ret := (some .int)) (lv := [(0, .ref v), (1, .int (b)), (2, .int (x)), (3, .int (step))]) (by decide +kernel) rfl rfl rfl (fun X C0 R0 => ?_)
  have Cx : kC X cX4_paint wsX4_paint RX4 { frames := 1, cells := 0, slots := 0, locals := 40 } "paint" l D ty 4 := C0
  have hwh := k_wh hW hH
  have hN2 : N ≤ 1728 := by rw [hN]; exact Nat.le_trans (Nat.mul_le_mul hwh h3) (by decide)
  refine j_aload_n (pc' := 1) Cx dX4_paint_0 rfl rfl rfl ?_
  refine j_iload_n (pc' := 2) Cx dX4_paint_1 rfl rfl rfl ?_
  refine j_callV (pc' := 5) (wr := [(p1, .inr (2, [.int (nI C), .ref a1])), (a1, .inl (ty 0, N, .inl (kN A))), (p2, .inr (2, [.int (nI C), .ref a2])), (a2, .inl (ty 0, N, .inl (kN B)))]) (st := []) Cx dX4_paint_2 rfl (c_X4_pictureOf1 l D ty v p1 p2 sg q1 q2 cs W H C S b hb) gX4_paint_X4_pictureOf rfl khd_X4_pictureOf rfl ⟨rfl, rfl, Nat.le_of_ble_eq_true rfl, Nat.le_of_ble_eq_true rfl⟩ [0] [1, 2, 3, 4] rfl rfl ⟨rfl, rfl⟩ (by decide) 0 rfl rfl rfl (Nat.le_of_ble_eq_true rfl) ⟨Nat.le_of_ble_eq_true rfl, Nat.le_of_ble_eq_true rfl⟩ (fun v u hpost => ?_)
  obtain ⟨r, rfl, rfl, rfl⟩ := hpost
  show J X [(p1, .inr (2, [.int (nI C), .ref a1])), (a1, .inl (ty 0, N, .inl (kN A))), (p2, .inr (2, [.int (nI C), .ref a2])), (a2, .inl (ty 0, N, .inl (kN B))), (v, .inr (4, [.int (nI W), .int (nI H), .int (nI C), .int (nI S), .ref p1, .ref p2, .ref sg, .ref q1, .ref q2, .ref cs]))] [(0, .ref v), (1, .int (b)), (2, .int (x)), (3, .int (step))] 5 [.ref p1] 0 0
  refine J.sub (ws' := [(v, .inr (4, [.int (nI W), .int (nI H), .int (nI C), .int (nI S), .ref p1, .ref p2, .ref sg, .ref q1, .ref q2, .ref cs])), (p1, .inr (2, [.int (nI C), .ref a1])), (a1, .inl (ty 0, N, .inl (kN A))), (p2, .inr (2, [.int (nI C), .ref a2])), (a2, .inl (ty 0, N, .inl (kN B)))]) [4, 0, 1, 2, 3] rfl rfl ?_
  refine j_iload_n (pc' := 6) Cx dX4_paint_5 rfl rfl rfl ?_
  refine j_iload_n (pc' := 7) Cx dX4_paint_6 rfl rfl rfl ?_
  refine j_callV (pc' := 10) (wr := [(v, .inr (4, [.int (nI W), .int (nI H), .int (nI C), .int (nI S), .ref p1, .ref p2, .ref sg, .ref q1, .ref q2, .ref cs])), (p2, .inr (2, [.int (nI C), .ref a2])), (a2, .inl (ty 0, N, .inl (kN B)))]) (st := []) Cx dX4_paint_7 rfl (c_X2_fill l D ty p1 a1 C N A x step hA hN2) gX4_paint_X2_fill rfl khd_X2_fill rfl ⟨rfl, rfl, Nat.le_of_ble_eq_true rfl, Nat.le_of_ble_eq_true rfl⟩ [1, 2] [0, 3, 4] rfl rfl ⟨rfl, rfl⟩ (by decide) 1 rfl rfl rfl (Nat.le_of_ble_eq_true rfl) ⟨Nat.le_of_ble_eq_true rfl, Nat.le_of_ble_eq_true rfl⟩ (fun v u hpost => ?_)
  obtain ⟨r, rfl, rfl, rfl⟩ := hpost
  show J X [(v, .inr (4, [.int (nI W), .int (nI H), .int (nI C), .int (nI S), .ref p1, .ref p2, .ref sg, .ref q1, .ref q2, .ref cs])), (p2, .inr (2, [.int (nI C), .ref a2])), (a2, .inl (ty 0, N, .inl (kN B))), (p1, .inr (2, [.int (nI C), .ref a1])), (a1, .inl (ty 0, N, .inl (kN (kfill (fun j => lo8 (kps x step j)) A N))))] [(0, .ref v), (1, .int (b)), (2, .int (x)), (3, .int (step))] 10 [.int (nI (kct (fun j => decide (A j ≠ lo8 (kps x step j))) N))] 0 0
  refine J.sub (ws' := [(v, .inr (4, [.int (nI W), .int (nI H), .int (nI C), .int (nI S), .ref p1, .ref p2, .ref sg, .ref q1, .ref q2, .ref cs])), (p1, .inr (2, [.int (nI C), .ref a1])), (a1, .inl (ty 0, N, .inl (kN (kfill (fun j => lo8 (kps x step j)) A N)))), (p2, .inr (2, [.int (nI C), .ref a2])), (a2, .inl (ty 0, N, .inl (kN B)))]) [0, 3, 4, 1, 2] rfl rfl ?_
  exact j_iret Cx dX4_paint_10 R0 ⟨Nat.le_of_ble_eq_true rfl, Nat.le_of_ble_eq_true rfl⟩ (⟨_, rfl, rfl, rfl⟩)

set_option maxHeartbeats 4000000 in
set_option maxRecDepth 100000 in
theorem c_X4_paint2 (l : Launch) (D : va_G) (ty : Nat → ClassId) (v p1 p2 sg q1 q2 cs W H C S : Nat) (a1 a2 N : Nat) (A B : Nat → Nat) (hA : ∀ i, A i < 256) (hB : ∀ i, B i < 256) (hW : W ≤ 24) (hH : H ≤ 24) (hW1 : 1 ≤ W) (hH1 : 1 ≤ H) (h1 : 1 ≤ C) (h3 : C ≤ 3) (hN : N = (W * H) * C) (b x step : Int32) (hb : b = 0) : KM l yX4_paint wsX4_paint { frames := 1, cells := 0, slots := 0, locals := 40 } D ty [.ref v, .int (b), .int (x), .int (step)] [(v, .inr (4, [.int (nI W), .int (nI H), .int (nI C), .int (nI S), .ref p1, .ref p2, .ref sg, .ref q1, .ref q2, .ref cs])), (p1, .inr (2, [.int (nI C), .ref a1])), (a1, .inl (ty 0, N, .inl (kN A))), (p2, .inr (2, [.int (nI C), .ref a2])), (a2, .inl (ty 0, N, .inl (kN B)))] (kI (fun r u => r = nI (kct (fun j => decide (B j ≠ lo8 (kps x step j))) N) ∧ u = [(v, .inr (4, [.int (nI W), .int (nI H), .int (nI C), .int (nI S), .ref p1, .ref p2, .ref sg, .ref q1, .ref q2, .ref cs])), (p1, .inr (2, [.int (nI C), .ref a1])), (a1, .inl (ty 0, N, .inl (kN A))), (p2, .inr (2, [.int (nI C), .ref a2])), (a2, .inl (ty 0, N, .inl (kN (kfill (fun j => lo8 (kps x step j)) B N))))])) 0 0 := by
  refine KM.of (cc := cX4_paint) (maxL := 4) (ret := (some .int)) (lv := [(0, .ref v), (1, .int (b)), (2, .int (x)), (3, .int (step))]) (by decide +kernel) rfl rfl rfl (fun X C0 R0 => ?_)
  have Cx : kC X cX4_paint wsX4_paint RX4 { frames := 1, cells := 0, slots := 0, locals := 40 } "paint" l D ty 4 := C0
  have hwh := k_wh hW hH
  have hN2 : N ≤ 1728 := by rw [hN]; exact Nat.le_trans (Nat.mul_le_mul hwh h3) (by decide)
  refine j_aload_n (pc' := 1) Cx dX4_paint_0 rfl rfl rfl ?_
  refine j_iload_n (pc' := 2) Cx dX4_paint_1 rfl rfl rfl ?_
  refine j_callV (pc' := 5) (wr := [(p1, .inr (2, [.int (nI C), .ref a1])), (a1, .inl (ty 0, N, .inl (kN A))), (p2, .inr (2, [.int (nI C), .ref a2])), (a2, .inl (ty 0, N, .inl (kN B)))]) (st := []) Cx dX4_paint_2 rfl (c_X4_pictureOf2 l D ty v p1 p2 sg q1 q2 cs W H C S b hb) gX4_paint_X4_pictureOf rfl khd_X4_pictureOf rfl ⟨rfl, rfl, Nat.le_of_ble_eq_true rfl, Nat.le_of_ble_eq_true rfl⟩ [0] [1, 2, 3, 4] rfl rfl ⟨rfl, rfl⟩ (by decide) 0 rfl rfl rfl (Nat.le_of_ble_eq_true rfl) ⟨Nat.le_of_ble_eq_true rfl, Nat.le_of_ble_eq_true rfl⟩ (fun v u hpost => ?_)
  obtain ⟨r, rfl, rfl, rfl⟩ := hpost
  show J X [(p1, .inr (2, [.int (nI C), .ref a1])), (a1, .inl (ty 0, N, .inl (kN A))), (p2, .inr (2, [.int (nI C), .ref a2])), (a2, .inl (ty 0, N, .inl (kN B))), (v, .inr (4, [.int (nI W), .int (nI H), .int (nI C), .int (nI S), .ref p1, .ref p2, .ref sg, .ref q1, .ref q2, .ref cs]))] [(0, .ref v), (1, .int (b)), (2, .int (x)), (3, .int (step))] 5 [.ref p2] 0 0
  refine J.sub (ws' := [(v, .inr (4, [.int (nI W), .int (nI H), .int (nI C), .int (nI S), .ref p1, .ref p2, .ref sg, .ref q1, .ref q2, .ref cs])), (p1, .inr (2, [.int (nI C), .ref a1])), (a1, .inl (ty 0, N, .inl (kN A))), (p2, .inr (2, [.int (nI C), .ref a2])), (a2, .inl (ty 0, N, .inl (kN B)))]) [4, 0, 1, 2, 3] rfl rfl ?_
  refine j_iload_n (pc' := 6) Cx dX4_paint_5 rfl rfl rfl ?_
  refine j_iload_n (pc' := 7) Cx dX4_paint_6 rfl rfl rfl ?_
  refine j_callV (pc' := 10) (wr := [(v, .inr (4, [.int (nI W), .int (nI H), .int (nI C), .int (nI S), .ref p1, .ref p2, .ref sg, .ref q1, .ref q2, .ref cs])), (p1, .inr (2, [.int (nI C), .ref a1])), (a1, .inl (ty 0, N, .inl (kN A)))]) (st := []) Cx dX4_paint_7 rfl (c_X2_fill l D ty p2 a2 C N B x step hB hN2) gX4_paint_X2_fill rfl khd_X2_fill rfl ⟨rfl, rfl, Nat.le_of_ble_eq_true rfl, Nat.le_of_ble_eq_true rfl⟩ [3, 4] [0, 1, 2] rfl rfl ⟨rfl, rfl⟩ (by decide) 3 rfl rfl rfl (Nat.le_of_ble_eq_true rfl) ⟨Nat.le_of_ble_eq_true rfl, Nat.le_of_ble_eq_true rfl⟩ (fun v u hpost => ?_)
  obtain ⟨r, rfl, rfl, rfl⟩ := hpost
  show J X [(v, .inr (4, [.int (nI W), .int (nI H), .int (nI C), .int (nI S), .ref p1, .ref p2, .ref sg, .ref q1, .ref q2, .ref cs])), (p1, .inr (2, [.int (nI C), .ref a1])), (a1, .inl (ty 0, N, .inl (kN A))), (p2, .inr (2, [.int (nI C), .ref a2])), (a2, .inl (ty 0, N, .inl (kN (kfill (fun j => lo8 (kps x step j)) B N))))] [(0, .ref v), (1, .int (b)), (2, .int (x)), (3, .int (step))] 10 [.int (nI (kct (fun j => decide (B j ≠ lo8 (kps x step j))) N))] 0 0
  exact j_iret Cx dX4_paint_10 R0 ⟨Nat.le_of_ble_eq_true rfl, Nat.le_of_ble_eq_true rfl⟩ (⟨_, rfl, rfl, rfl⟩)

set_option maxHeartbeats 4000000 in
set_option maxRecDepth 100000 in
theorem c_X4_copy (l : Launch) (D : va_G) (ty : Nat → ClassId) (v p1 p2 sg q1 q2 cs W H C S : Nat) (a1 a2 N : Nat) (A B : Nat → Nat) (hA : ∀ i, A i < 256) (hB : ∀ i, B i < 256) (hW : W ≤ 24) (hH : H ≤ 24) (hW1 : 1 ≤ W) (hH1 : 1 ≤ H) (h1 : 1 ≤ C) (h3 : C ≤ 3) (hN : N = (W * H) * C) : KM l yX4_copy wsX4_copy { frames := 1, cells := 0, slots := 0, locals := 40 } D ty [.ref v] [(v, .inr (4, [.int (nI W), .int (nI H), .int (nI C), .int (nI S), .ref p1, .ref p2, .ref sg, .ref q1, .ref q2, .ref cs])), (p1, .inr (2, [.int (nI C), .ref a1])), (a1, .inl (ty 0, N, .inl (kN A))), (p2, .inr (2, [.int (nI C), .ref a2])), (a2, .inl (ty 0, N, .inl (kN B)))] (kI (fun r u => r = nI (kct (fun j => decide (B j ≠ A j)) N) ∧ u = [(v, .inr (4, [.int (nI W), .int (nI H), .int (nI C), .int (nI S), .ref p1, .ref p2, .ref sg, .ref q1, .ref q2, .ref cs])), (p1, .inr (2, [.int (nI C), .ref a1])), (a1, .inl (ty 0, N, .inl (kN A))), (p2, .inr (2, [.int (nI C), .ref a2])), (a2, .inl (ty 0, N, .inl (kN (kfill A B N))))])) 0 0 := by
  refine KM.of (cc := cX4_copy) (maxL := 1) (ret := (some .int)) (lv := [(0, .ref v)]) (by decide +kernel) rfl rfl rfl (fun X C0 R0 => ?_)
  have Cx : kC X cX4_copy wsX4_copy RX4 { frames := 1, cells := 0, slots := 0, locals := 40 } "copy" l D ty 1 := C0
  have hwh := k_wh hW hH
  have hN2 : N ≤ 1728 := by rw [hN]; exact Nat.le_trans (Nat.mul_le_mul hwh h3) (by decide)
  refine j_aload_n (pc' := 1) Cx dX4_copy_0 rfl rfl rfl ?_
  refine j_get (pc' := 4) (N := 10) Cx dX4_copy_1 rfl kin_X4_copy_X4 kfl_X4_copy_38 0 rfl rfl 5 rfl rfl rfl ?_
  refine j_aload_n (pc' := 5) Cx dX4_copy_4 rfl rfl rfl ?_
  refine j_get (pc' := 8) (N := 10) Cx dX4_copy_5 rfl kin_X4_copy_X4 kfl_X4_copy_34 0 rfl rfl 4 rfl rfl rfl ?_
  refine j_callV (pc' := 11) (wr := [(v, .inr (4, [.int (nI W), .int (nI H), .int (nI C), .int (nI S), .ref p1, .ref p2, .ref sg, .ref q1, .ref q2, .ref cs]))]) (st := []) Cx dX4_copy_8 rfl (c_X2_become l D ty p2 a2 p1 a1 C N B A hB hA hN2) gX4_copy_X2_become rfl khd_X2_become rfl ⟨rfl, rfl, Nat.le_of_ble_eq_true rfl, Nat.le_of_ble_eq_true rfl⟩ [3, 4, 1, 2] [0] rfl rfl ⟨rfl, rfl⟩ (by decide) 3 rfl rfl rfl (Nat.le_of_ble_eq_true rfl) ⟨Nat.le_of_ble_eq_true rfl, Nat.le_of_ble_eq_true rfl⟩ (fun v u hpost => ?_)
  obtain ⟨r, rfl, rfl, rfl⟩ := hpost
  show J X [(v, .inr (4, [.int (nI W), .int (nI H), .int (nI C), .int (nI S), .ref p1, .ref p2, .ref sg, .ref q1, .ref q2, .ref cs])), (p2, .inr (2, [.int (nI C), .ref a2])), (a2, .inl (ty 0, N, .inl (kN (kfill A B N)))), (p1, .inr (2, [.int (nI C), .ref a1])), (a1, .inl (ty 0, N, .inl (kN A)))] [(0, .ref v)] 11 [.int (nI (kct (fun j => decide (B j ≠ A j)) N))] 0 0
  refine J.sub (ws' := [(v, .inr (4, [.int (nI W), .int (nI H), .int (nI C), .int (nI S), .ref p1, .ref p2, .ref sg, .ref q1, .ref q2, .ref cs])), (p1, .inr (2, [.int (nI C), .ref a1])), (a1, .inl (ty 0, N, .inl (kN A))), (p2, .inr (2, [.int (nI C), .ref a2])), (a2, .inl (ty 0, N, .inl (kN (kfill A B N))))]) [0, 3, 4, 1, 2] rfl rfl ?_
  exact j_iret Cx dX4_copy_11 R0 ⟨Nat.le_of_ble_eq_true rfl, Nat.le_of_ble_eq_true rfl⟩ (⟨_, rfl, rfl, rfl⟩)

set_option maxHeartbeats 4000000 in
set_option maxRecDepth 100000 in
theorem c_X4_greatest (l : Launch) (D : va_G) (ty : Nat → ClassId) (v p1 p2 sg q1 q2 cs W H C S : Nat) (a1 a2 N : Nat) (A B : Nat → Nat) (hA : ∀ i, A i < 256) (hB : ∀ i, B i < 256) (hW : W ≤ 24) (hH : H ≤ 24) (hW1 : 1 ≤ W) (hH1 : 1 ≤ H) (h1 : 1 ≤ C) (h3 : C ≤ 3) (hN : N = (W * H) * C) : KM l yX4_greatest wsX4_greatest { frames := 2, cells := 0, slots := 0, locals := 60 } D ty [.ref v] [(v, .inr (4, [.int (nI W), .int (nI H), .int (nI C), .int (nI S), .ref p1, .ref p2, .ref sg, .ref q1, .ref q2, .ref cs])), (p1, .inr (2, [.int (nI C), .ref a1])), (a1, .inl (ty 0, N, .inl (kN A))), (p2, .inr (2, [.int (nI C), .ref a2])), (a2, .inl (ty 0, N, .inl (kN B)))] (kI (fun r u => r = nI (kmx (fun j => kd (A j) (B j)) N) ∧ u = [(v, .inr (4, [.int (nI W), .int (nI H), .int (nI C), .int (nI S), .ref p1, .ref p2, .ref sg, .ref q1, .ref q2, .ref cs])), (p1, .inr (2, [.int (nI C), .ref a1])), (a1, .inl (ty 0, N, .inl (kN A))), (p2, .inr (2, [.int (nI C), .ref a2])), (a2, .inl (ty 0, N, .inl (kN B)))])) 0 0 := by
  refine KM.of (cc := cX4_greatest) (maxL := 1) (ret := (some .int)) (lv := [(0, .ref v)]) (by decide +kernel) rfl rfl rfl (fun X C0 R0 => ?_)
  have Cx : kC X cX4_greatest wsX4_greatest RX4 { frames := 2, cells := 0, slots := 0, locals := 60 } "greatest" l D ty 1 := C0
  have hwh := k_wh hW hH
  have hN2 : N ≤ 1728 := by rw [hN]; exact Nat.le_trans (Nat.mul_le_mul hwh h3) (by decide)
  refine j_aload_n (pc' := 1) Cx dX4_greatest_0 rfl rfl rfl ?_
  refine j_get (pc' := 4) (N := 10) Cx dX4_greatest_1 rfl kin_X4_greatest_X4 kfl_X4_greatest_34 0 rfl rfl 4 rfl rfl rfl ?_
  refine j_aload_n (pc' := 5) Cx dX4_greatest_4 rfl rfl rfl ?_
  refine j_get (pc' := 8) (N := 10) Cx dX4_greatest_5 rfl kin_X4_greatest_X4 kfl_X4_greatest_38 0 rfl rfl 5 rfl rfl rfl ?_
  refine j_callV (pc' := 11) (wr := [(v, .inr (4, [.int (nI W), .int (nI H), .int (nI C), .int (nI S), .ref p1, .ref p2, .ref sg, .ref q1, .ref q2, .ref cs]))]) (st := []) Cx dX4_greatest_8 rfl (c_X2_greatestAgainst l D ty p1 a1 p2 a2 C N A B hA hB hN2) gX4_greatest_X2_greatestAgainst rfl khd_X2_greatestAgainst rfl ⟨rfl, rfl, Nat.le_of_ble_eq_true rfl, Nat.le_of_ble_eq_true rfl⟩ [1, 2, 3, 4] [0] rfl rfl ⟨rfl, rfl⟩ (by decide) 1 rfl rfl rfl (Nat.le_of_ble_eq_true rfl) ⟨Nat.le_of_ble_eq_true rfl, Nat.le_of_ble_eq_true rfl⟩ (fun v u hpost => ?_)
  obtain ⟨r, rfl, rfl, rfl⟩ := hpost
  show J X [(v, .inr (4, [.int (nI W), .int (nI H), .int (nI C), .int (nI S), .ref p1, .ref p2, .ref sg, .ref q1, .ref q2, .ref cs])), (p1, .inr (2, [.int (nI C), .ref a1])), (a1, .inl (ty 0, N, .inl (kN A))), (p2, .inr (2, [.int (nI C), .ref a2])), (a2, .inl (ty 0, N, .inl (kN B)))] [(0, .ref v)] 11 [.int (nI (kmx (fun j => kd (A j) (B j)) N))] 0 0
  exact j_iret Cx dX4_greatest_11 R0 ⟨Nat.le_of_ble_eq_true rfl, Nat.le_of_ble_eq_true rfl⟩ (⟨_, rfl, rfl, rfl⟩)

set_option maxHeartbeats 4000000 in
set_option maxRecDepth 100000 in
theorem c_X4_equal (l : Launch) (D : va_G) (ty : Nat → ClassId) (v p1 p2 sg q1 q2 cs W H C S : Nat) (a1 a2 N : Nat) (A B : Nat → Nat) (hA : ∀ i, A i < 256) (hB : ∀ i, B i < 256) (hW : W ≤ 24) (hH : H ≤ 24) (hW1 : 1 ≤ W) (hH1 : 1 ≤ H) (h1 : 1 ≤ C) (h3 : C ≤ 3) (hN : N = (W * H) * C) : KM l yX4_equal wsX4_equal { frames := 3, cells := 0, slots := 0, locals := 90 } D ty [.ref v] [(v, .inr (4, [.int (nI W), .int (nI H), .int (nI C), .int (nI S), .ref p1, .ref p2, .ref sg, .ref q1, .ref q2, .ref cs])), (p1, .inr (2, [.int (nI C), .ref a1])), (a1, .inl (ty 0, N, .inl (kN A))), (p2, .inr (2, [.int (nI C), .ref a2])), (a2, .inl (ty 0, N, .inl (kN B)))] (kI (fun r u => r = nI (if kmx (fun j => kd (A j) (B j)) N = 0 then 1 else 0) ∧ u = [(v, .inr (4, [.int (nI W), .int (nI H), .int (nI C), .int (nI S), .ref p1, .ref p2, .ref sg, .ref q1, .ref q2, .ref cs])), (p1, .inr (2, [.int (nI C), .ref a1])), (a1, .inl (ty 0, N, .inl (kN A))), (p2, .inr (2, [.int (nI C), .ref a2])), (a2, .inl (ty 0, N, .inl (kN B)))])) 0 0 := by
  refine KM.of (cc := cX4_equal) (maxL := 1) (ret := (some .boolean)) (lv := [(0, .ref v)]) (by decide +kernel) rfl rfl rfl (fun X C0 R0 => ?_)
  have Cx : kC X cX4_equal wsX4_equal RX4 { frames := 3, cells := 0, slots := 0, locals := 90 } "equal" l D ty 1 := C0
  have hwh := k_wh hW hH
  have hN2 : N ≤ 1728 := by rw [hN]; exact Nat.le_trans (Nat.mul_le_mul hwh h3) (by decide)
  refine j_aload_n (pc' := 1) Cx dX4_equal_0 rfl rfl rfl ?_
  refine j_get (pc' := 4) (N := 10) Cx dX4_equal_1 rfl kin_X4_equal_X4 kfl_X4_equal_34 0 rfl rfl 4 rfl rfl rfl ?_
  refine j_aload_n (pc' := 5) Cx dX4_equal_4 rfl rfl rfl ?_
  refine j_get (pc' := 8) (N := 10) Cx dX4_equal_5 rfl kin_X4_equal_X4 kfl_X4_equal_38 0 rfl rfl 5 rfl rfl rfl ?_
  refine j_callV (pc' := 11) (wr := [(v, .inr (4, [.int (nI W), .int (nI H), .int (nI C), .int (nI S), .ref p1, .ref p2, .ref sg, .ref q1, .ref q2, .ref cs]))]) (st := []) Cx dX4_equal_8 rfl (c_X2_sameAs l D ty p1 a1 p2 a2 C N A B hA hB hN2) gX4_equal_X2_sameAs rfl khd_X2_sameAs rfl ⟨rfl, rfl, Nat.le_of_ble_eq_true rfl, Nat.le_of_ble_eq_true rfl⟩ [1, 2, 3, 4] [0] rfl rfl ⟨rfl, rfl⟩ (by decide) 1 rfl rfl rfl (Nat.le_of_ble_eq_true rfl) ⟨Nat.le_of_ble_eq_true rfl, Nat.le_of_ble_eq_true rfl⟩ (fun v u hpost => ?_)
  obtain ⟨r, rfl, rfl, rfl⟩ := hpost
  show J X [(v, .inr (4, [.int (nI W), .int (nI H), .int (nI C), .int (nI S), .ref p1, .ref p2, .ref sg, .ref q1, .ref q2, .ref cs])), (p1, .inr (2, [.int (nI C), .ref a1])), (a1, .inl (ty 0, N, .inl (kN A))), (p2, .inr (2, [.int (nI C), .ref a2])), (a2, .inl (ty 0, N, .inl (kN B)))] [(0, .ref v)] 11 [.int (nI (if kmx (fun j => kd (A j) (B j)) N = 0 then 1 else 0))] 0 0
  exact j_zret Cx dX4_equal_11 R0 (by split <;> decide) ⟨Nat.le_of_ble_eq_true rfl, Nat.le_of_ble_eq_true rfl⟩ (⟨_, rfl, rfl, rfl⟩)
