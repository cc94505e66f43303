/-! cells and their structure: whole sums, then doubles; nothing is ever no number -/
abbrev kTwo : UInt64 := 4611686018427387904
abbrev kC1 : UInt64 := 4691063147270766592
abbrev kD1 : UInt64 := 4705488881561108480
def kratio (m p v q : UInt64) : UInt64 := FP.ddiv (FP.dmul (FP.dadd (FP.dmul kTwo m) kC1) (FP.dadd (FP.dmul kTwo v) kD1)) (FP.dmul (FP.dadd p kC1) (FP.dadd q kD1))
def klike (A B E F G : Nat) : UInt64 :=
  kratio (FP.l2d (lN (A * B))) (FP.l2d (lN (A * A + B * B))) (FP.l2d (256 * lN G - lN (A * B))) (FP.l2d (256 * lN E - lN (A * A) + 256 * lN F - lN (B * B)))
theorem k_fin_mag {x : UInt64} {K : Nat} (h : x.toNat % 2 ^ 63 < K * 2 ^ 52) (hK : K ≤ 2047) : FP.Core.DFin x := FP.Core.fin_of_lt h hK
theorem k_two_mag : kTwo.toNat % 2 ^ 63 < 1025 * 2 ^ 52 := by decide
theorem k_c_mag : kC1.toNat % 2 ^ 63 < 1091 * 2 ^ 52 := by decide
theorem k_d_mag : kD1.toNat % 2 ^ 63 < 1091 * 2 ^ 52 := by decide
theorem k_mul2_no (a : Int64) : vf_n64 (FP.dmul kTwo (FP.l2d a)) := k_noNaN (FP.Core.dmul_out (k_fin_mag k_two_mag (by decide)) (FP.Core.l2d_fin a))
theorem k_mul2_mag (a : Int64) : (FP.dmul kTwo (FP.l2d a)).toNat % 2 ^ 63 < 1091 * 2 ^ 52 := Nat.lt_of_lt_of_le (FP.Core.dmul_mag (Ka := 1025) (Kb := 1088) k_two_mag (FP.Core.l2d_mag a) (by decide) (by decide)) (Nat.le_of_ble_eq_true rfl)
theorem k_num_no (a : Int64) {c : UInt64} (hc : c.toNat % 2 ^ 63 < 1091 * 2 ^ 52) : vf_n64 (FP.dadd (FP.dmul kTwo (FP.l2d a)) c) := k_noNaN (FP.Core.dadd_out (k_isNo (k_mul2_no a)) (k_fin_mag hc (by decide)))
theorem k_num_mag (a : Int64) {c : UInt64} (hc : c.toNat % 2 ^ 63 < 1091 * 2 ^ 52) : (FP.dadd (FP.dmul kTwo (FP.l2d a)) c).toNat % 2 ^ 63 < 1093 * 2 ^ 52 := Nat.lt_of_lt_of_le (FP.Core.dadd_mag (K := 1091) (k_mul2_mag a) hc (by decide)) (Nat.le_of_ble_eq_true rfl)
theorem k_nn_no (a b : Int64) : vf_n64 (FP.dmul (FP.dadd (FP.dmul kTwo (FP.l2d a)) kC1) (FP.dadd (FP.dmul kTwo (FP.l2d b)) kD1)) :=
  k_noNaN (FP.Core.dmul_out (k_fin_mag (k_num_mag a k_c_mag) (by decide)) (k_fin_mag (k_num_mag b k_d_mag) (by decide)))
theorem k_nn_mag (a b : Int64) : (FP.dmul (FP.dadd (FP.dmul kTwo (FP.l2d a)) kC1) (FP.dadd (FP.dmul kTwo (FP.l2d b)) kD1)).toNat % 2 ^ 63 < 1164 * 2 ^ 52 :=
  Nat.lt_of_lt_of_le (FP.Core.dmul_mag (Ka := 1093) (Kb := 1093) (k_num_mag a k_c_mag) (k_num_mag b k_d_mag) (by decide) (by decide)) (Nat.le_of_ble_eq_true rfl)
theorem k_c_l2d : kC1 = FP.Core.l2d 426053 := by decide +kernel
theorem k_d_l2d : kD1 = FP.Core.l2d 3834474 := by decide +kernel
/-- a whole number from 0 on, and small: what it is with a positive one -/
def kSm (a : Int64) : Prop := 0 ≤ a.toInt ∧ a.toInt < 4503599627370496
theorem k_add_l2d {a b : Int64} (ha : kSm a) (hb : kSm b) : FP.Core.dadd (FP.Core.l2d a) (FP.Core.l2d b) = FP.Core.l2d (a + b) ∧ (a + b).toInt = a.toInt + b.toInt := by
  unfold kSm at ha hb
  refine ⟨FP.Core.dadd_l2d ⟨by omega, by omega⟩ ⟨by omega, by omega⟩, ?_⟩
  exact FP.Core.int64_add (by omega) (by omega)
theorem k_mul_ge {a b : Int64} (ha : FP.Core.Small53 a) (hb : FP.Core.Small53 b) (za : a ≠ 0) (zb : b ≠ 0) : 1023 * 2 ^ 52 ≤ (FP.Core.dmul (FP.Core.l2d a) (FP.Core.l2d b)).toNat % 2 ^ 63 := by
  have wa := FP.Core.l2d_whole ha
  have wb := FP.Core.l2d_whole hb
  obtain ⟨c, q, ea⟩ := FP.Core.l2d_shape a
  obtain ⟨d, r, eb⟩ := FP.Core.l2d_shape b
  have hz := Int.mul_ne_zero (FP.Core.int64_ne za) (FP.Core.int64_ne zb)
  have e : (FP.Core.dmul (FP.Core.l2d a) (FP.Core.l2d b)).toNat = FP.Core.fromInt FP.Core.b64 (a.toInt * b.toInt) := by
    show (FP.Core.of64 (FP.Core.round FP.Core.b64 (FP.Core.exactProduct (FP.Core.val64 (FP.Core.l2d a)) (FP.Core.val64 (FP.Core.l2d b))))).toNat = FP.Core.encode FP.Core.b64 (FP.Core.round FP.Core.b64 (FP.Core.ofInt (a.toInt * b.toInt)))
    rw [ea] at wa
    rw [eb] at wb
    rw [ea, eb, FP.Core.round_product_whole wa wb hz]
    exact FP.Core.toNat_of64 (FP.Core.round_fits FP.Core.good_b64 _)
  exact FP.Core.fromInt_ge e hz
/-- a denominator: two sums that are positive -/
theorem k_den {a b : Int64} (ha : kSm a) (hb : kSm b) : vf_n64 (FP.dadd (FP.l2d a) kC1) ∧ vf_n64 (FP.dadd (FP.l2d b) kD1) ∧ vf_n64 (FP.dmul (FP.dadd (FP.l2d a) kC1) (FP.dadd (FP.l2d b) kD1)) ∧ 1023 * 2 ^ 52 ≤ (FP.dmul (FP.dadd (FP.l2d a) kC1) (FP.dadd (FP.l2d b) kD1)).toNat % 2 ^ 63 ∧ (FP.dmul (FP.dadd (FP.l2d a) kC1) (FP.dadd (FP.l2d b) kD1)).toNat % 2 ^ 63 < 1154 * 2 ^ 52 := by
  have h1 := k_add_l2d ha (b := 426053) ⟨by decide, by decide⟩
  have h2 := k_add_l2d hb (b := 3834474) ⟨by decide, by decide⟩
  have t1 : (426053 : Int64).toInt = 426053 := by decide
  have t2 : (3834474 : Int64).toInt = 3834474 := by decide
  rw [← k_c_l2d] at h1
  rw [← k_d_l2d] at h2
  unfold kSm at ha hb
  have e1 : FP.dadd (FP.l2d a) kC1 = FP.Core.l2d (a + 426053) := h1.1
  have e2 : FP.dadd (FP.l2d b) kD1 = FP.Core.l2d (b + 3834474) := h2.1
  rw [e1, e2]
  have z1 : a + 426053 ≠ 0 := fun e => by
    have := congrArg Int64.toInt e
    rw [h1.2, t1, show (0 : Int64).toInt = 0 from by decide] at this
    omega
  have z2 : b + 3834474 ≠ 0 := fun e => by
    have := congrArg Int64.toInt e
    rw [h2.2, t2, show (0 : Int64).toInt = 0 from by decide] at this
    omega
  refine ⟨k_noNaN (FP.Core.l2d_fin _).notNaN, k_noNaN (FP.Core.l2d_fin _).notNaN, k_noNaN (FP.Core.dmul_out (FP.Core.l2d_fin _) (FP.Core.l2d_fin _)), ?_, ?_⟩
  · exact k_mul_ge ⟨by omega, by omega⟩ ⟨by omega, by omega⟩ z1 z2
  · exact Nat.lt_of_lt_of_le (FP.Core.dmul_mag (Ka := 1088) (Kb := 1088) (FP.Core.l2d_mag _) (FP.Core.l2d_mag _) (by decide) (by decide)) (Nat.le_of_ble_eq_true rfl)
theorem k_ratio_no {m p v q : Int64} (hp : kSm p) (hq : kSm q) : vf_n64 (kratio (FP.l2d m) (FP.l2d p) (FP.l2d v) (FP.l2d q)) ∧ FP.Core.DFin (kratio (FP.l2d m) (FP.l2d p) (FP.l2d v) (FP.l2d q)) := by
  obtain ⟨-, -, -, h4, h5⟩ := k_den hp hq
  have hm := FP.Core.ddiv_mag (K := 1164) (L := 1023) (k_nn_mag m v) h4 (Nat.lt_of_lt_of_le h5 (Nat.le_of_ble_eq_true rfl)) (by decide) (by decide)
  have hf : FP.Core.DFin (kratio (FP.l2d m) (FP.l2d p) (FP.l2d v) (FP.l2d q)) := k_fin_mag (K := 1165) (Nat.lt_of_lt_of_le hm (Nat.le_of_ble_eq_true rfl)) (by decide)
  exact ⟨k_noNaN hf.notNaN, hf⟩
/-! the sums of a cell -/
def kwt (j : Nat) : Nat := if j = 0 ∨ j = 4 then 1 else if j = 2 then 6 else 4
theorem kwt_le (j : Nat) : kwt j ≤ 6 := by unfold kwt; split; omega; split <;> omega
def ks5 (f : Nat → Nat → Nat) (j i : Nat) : Nat := ksum (fun a => ksum (f a) 5) j + ksum (f j) i
theorem ks5_0 (f : Nat → Nat → Nat) : ks5 f 0 0 = 0 := rfl
theorem ks5_i (f : Nat → Nat → Nat) (j i : Nat) : ks5 f j i + f j i = ks5 f j (i + 1) := Nat.add_assoc _ _ _
theorem ks5_j (f : Nat → Nat → Nat) (j : Nat) : ks5 f j 5 = ks5 f (j + 1) 0 := rfl
theorem ks5_le {f : Nat → Nat → Nat} {c j i : Nat} (h : ∀ a b, f a b ≤ c) (hj : j ≤ 5) (hi : i ≤ 5) : ks5 f j i ≤ 30 * c := by
  have h1 : ksum (fun a => ksum (f a) 5) j ≤ j * (5 * c) := ksum_le (fun a _ => ksum_le (fun b _ => h a b))
  have h2 : ksum (f j) i ≤ i * c := ksum_le (fun b _ => h j b)
  have h3 : j * (5 * c) ≤ 5 * (5 * c) := Nat.mul_le_mul_right _ hj
  have h4 : i * c ≤ 5 * c := Nat.mul_le_mul_right _ hi
  unfold ks5
  omega
abbrev kca (w left top : Nat) (F : Nat → Nat) (j i : Nat) : Nat := kwt j * kwt i * F ((top + j) * w + left + i)
abbrev kcb (w left top : Nat) (F G : Nat → Nat) (j i : Nat) : Nat := kwt j * kwt i * F ((top + j) * w + left + i) * G ((top + j) * w + left + i)
def kcell (w left top : Nat) (F G : Nat → Nat) : UInt64 := klike (ks5 (kca w left top F) 5 0) (ks5 (kca w left top G) 5 0) (ks5 (kcb w left top F F) 5 0) (ks5 (kcb w left top G G) 5 0) (ks5 (kcb w left top F G) 5 0)
theorem kwt2 (j i : Nat) : kwt j * kwt i ≤ 36 := Nat.mul_le_mul (kwt_le j) (kwt_le i)
theorem kca_le {w left top : Nat} {F : Nat → Nat} (hF : ∀ i, F i < 256) (j i : Nat) : kca w left top F j i ≤ 9180 := by
  have h := Nat.mul_le_mul (kwt2 j i) (Nat.le_of_lt_succ (hF ((top + j) * w + left + i)))
  exact h
theorem kcb_le {w left top : Nat} {F G : Nat → Nat} (hF : ∀ i, F i < 256) (hG : ∀ i, G i < 256) (j i : Nat) : kcb w left top F G j i ≤ 2340900 := by
  have h := Nat.mul_le_mul (kca_le (w := w) (left := left) (top := top) hF j i) (Nat.le_of_lt_succ (hG ((top + j) * w + left + i)))
  exact h
/-! the mean of squares is no less than the square of the mean -/
theorem k_amgm {t x y : Nat} (h : t * t ≤ x * y) : 2 * t ≤ x + y := by
  apply Nat.le_of_not_lt
  intro hlt
  have h1 : (x + y + 1) * (x + y + 1) ≤ (2 * t) * (2 * t) := Nat.mul_le_mul hlt hlt
  have h2 : (2 * t) * (2 * t) = 4 * (t * t) := by grind
  have h3 : (x + y + 1) * (x + y + 1) = (x + y) * (x + y) + 2 * (x + y) + 1 := by grind
  have h4 : 4 * (x * y) ≤ (x + y) * (x + y) := by
    rcases Nat.le_total x y with q | q
    · obtain ⟨c, rfl⟩ := Nat.exists_eq_add_of_le q
      have : (x + (x + c)) * (x + (x + c)) = 4 * (x * (x + c)) + c * c := by grind
      omega
    · obtain ⟨c, rfl⟩ := Nat.exists_eq_add_of_le q
      have : (y + c + y) * (y + c + y) = 4 * ((y + c) * y) + c * c := by grind
      omega
  omega
def kPr (S A E : Nat) : Prop := A * A ≤ S * E
theorem kPr_add {S1 A1 E1 S2 A2 E2 : Nat} (h1 : kPr S1 A1 E1) (h2 : kPr S2 A2 E2) : kPr (S1 + S2) (A1 + A2) (E1 + E2) := by
  unfold kPr at *
  have h3 : (A1 * A2) * (A1 * A2) ≤ (S1 * E2) * (S2 * E1) := by
    have h := Nat.mul_le_mul h1 h2
    have e1 : (A1 * A2) * (A1 * A2) = A1 * A1 * (A2 * A2) := by grind
    have e2 : (S1 * E2) * (S2 * E1) = S1 * E1 * (S2 * E2) := by grind
    rw [e1, e2]
    exact h
  have h4 := k_amgm h3
  have e3 : (A1 + A2) * (A1 + A2) = A1 * A1 + 2 * (A1 * A2) + A2 * A2 := by grind
  have e4 : (S1 + S2) * (E1 + E2) = S1 * E1 + (S1 * E2 + S2 * E1) + S2 * E2 := by grind
  rw [e3, e4]
  omega
theorem kPr_sum {s a e : Nat → Nat} (h : ∀ i, kPr (s i) (a i) (e i)) : ∀ n, kPr (ksum s n) (ksum a n) (ksum e n)
  | 0 => by unfold kPr ksum; decide
  | n + 1 => kPr_add (kPr_sum h n) (h n)
theorem kPr_one (w a : Nat) : kPr w (w * a) (w * a * a) := by
  unfold kPr
  have : w * a * (w * a) = w * (w * a * a) := by grind
  omega
theorem kPr_cell (w left top : Nat) (F : Nat → Nat) : ks5 (kca w left top F) 5 0 * ks5 (kca w left top F) 5 0 ≤ 256 * ks5 (kcb w left top F F) 5 0 := by
  have h := kPr_sum (s := fun j => ksum (fun i => kwt j * kwt i) 5) (a := fun j => ksum (kca w left top F j) 5) (e := fun j => ksum (kcb w left top F F j) 5) (fun j => kPr_sum (fun i => kPr_one (kwt j * kwt i) (F ((top + j) * w + left + i))) 5) 5
  unfold kPr at h
  rw [show ksum (fun j => ksum (fun i => kwt j * kwt i) 5) 5 = 256 from by decide] at h
  exact h
theorem k_lN_toInt {n : Nat} (h : n < 2 ^ 63) : (lN n).toInt = (n : Int) := pk_lT h
theorem k_int64_mul256 {n : Nat} (h : n < 2 ^ 50) : (256 * lN n : Int64) = lN (256 * n) := by
  rw [show (256 : Int64) = lN 256 from rfl, lN_mul]
theorem k_q_sm {A B E F : Nat} (hA : A * A ≤ 256 * E) (hB : B * B ≤ 256 * F) (hE : E < 2 ^ 40) (hF : F < 2 ^ 40) : kSm (256 * lN E - lN (A * A) + 256 * lN F - lN (B * B)) := by
  rw [k_int64_mul256 (by omega), k_int64_mul256 (by omega), lN_sub hA, lN_add, lN_sub (by omega)]
  unfold kSm
  rw [k_lN_toInt (by omega)]
  omega
theorem k_p_sm {A B : Nat} (hA : A < 2 ^ 20) (hB : B < 2 ^ 20) : kSm (lN (A * A + B * B)) := by
  have h1 : A * A ≤ 2 ^ 20 * 2 ^ 20 := Nat.mul_le_mul (by omega) (by omega)
  have h2 : B * B ≤ 2 ^ 20 * 2 ^ 20 := Nat.mul_le_mul (by omega) (by omega)
  unfold kSm
  rw [k_lN_toInt (by omega)]
  omega
theorem kcell_sm {w left top : Nat} {F G : Nat → Nat} (hF : ∀ i, F i < 256) (hG : ∀ i, G i < 256) :
    kSm (lN (ks5 (kca w left top F) 5 0 * ks5 (kca w left top F) 5 0 + ks5 (kca w left top G) 5 0 * ks5 (kca w left top G) 5 0)) ∧
    kSm (256 * lN (ks5 (kcb w left top F F) 5 0) - lN (ks5 (kca w left top F) 5 0 * ks5 (kca w left top F) 5 0) + 256 * lN (ks5 (kcb w left top G G) 5 0) - lN (ks5 (kca w left top G) 5 0 * ks5 (kca w left top G) 5 0)) := by
  have a1 := ks5_le (j := 5) (i := 0) (kca_le (w := w) (left := left) (top := top) hF) (by omega) (by omega)
  have a2 := ks5_le (j := 5) (i := 0) (kca_le (w := w) (left := left) (top := top) hG) (by omega) (by omega)
  have b1 := ks5_le (j := 5) (i := 0) (kcb_le (w := w) (left := left) (top := top) hF hF) (by omega) (by omega)
  have b2 := ks5_le (j := 5) (i := 0) (kcb_le (w := w) (left := left) (top := top) hG hG) (by omega) (by omega)
  exact ⟨k_p_sm (by omega) (by omega), k_q_sm (kPr_cell w left top F) (kPr_cell w left top G) (by omega) (by omega)⟩
theorem kcell_fin {w left top : Nat} {F G : Nat → Nat} (hF : ∀ i, F i < 256) (hG : ∀ i, G i < 256) : FP.Core.DFin (kcell w left top F G) :=
  (k_ratio_no (kcell_sm hF hG).1 (kcell_sm hF hG).2).2
/-! a mean of cells -/
def kavx (f : Nat → UInt64) : Nat → UInt64 → UInt64
  | 0, s => s
  | x + 1, s => FP.dadd (kavx f x s) (f x)
def kavy (lk : Nat → Nat → UInt64) (nx : Nat) : Nat → UInt64
  | 0 => 0
  | y + 1 => kavx (fun x => lk x y) nx (kavy lk nx y)
theorem kavx_no {f : Nat → UInt64} (h : ∀ x, FP.Core.DFin (f x)) {s : UInt64} (hs : vf_n64 s) : ∀ n, vf_n64 (kavx f n s)
  | 0 => hs
  | n + 1 => k_noNaN (FP.Core.dadd_out (k_isNo (kavx_no h hs n)) (h n))
theorem kavy_no {lk : Nat → Nat → UInt64} (h : ∀ x y, FP.Core.DFin (lk x y)) (nx : Nat) : ∀ n, vf_n64 (kavy lk nx n)
  | 0 => by show vf_n64 0; unfold vf_n64; decide
  | n + 1 => kavx_no (fun x => h x n) (kavy_no h nx n) nx
/-! pictures of half the size -/
def kq4 (g : Nat → Nat) (i w : Nat) : Nat := (g i + g (i + 1) + g (i + w) + g (i + w + 1) + 2) / 4
def kshx (w hw y : Nat) : Nat → (Nat → Nat) → Nat → Nat
  | 0, g => g
  | x + 1, g => va_up (kshx w hw y x g) (y * hw + x) (kq4 (kshx w hw y x g) (2 * y * w + 2 * x) w)
def kshy (w hw : Nat) : Nat → (Nat → Nat) → Nat → Nat
  | 0, g => g
  | y + 1, g => kshx w hw y hw (kshy w hw y g)
theorem kq4_lt {g : Nat → Nat} (hg : ∀ i, g i < 256) (i w : Nat) : kq4 g i w < 256 := by
  have h0 := hg i
  have h1 := hg (i + 1)
  have h2 := hg (i + w)
  have h3 := hg (i + w + 1)
  unfold kq4
  omega
theorem kshx_lt {w hw y : Nat} {g : Nat → Nat} (hg : ∀ i, g i < 256) : ∀ x i, kshx w hw y x g i < 256
  | 0, i => hg i
  | x + 1, i => va_up_lt (kshx_lt hg x) (kq4_lt (kshx_lt hg x) _ _) _ i
theorem kshy_lt {w hw : Nat} {g : Nat → Nat} (hg : ∀ i, g i < 256) : ∀ y i, kshy w hw y g i < 256
  | 0, i => hg i
  | y + 1, i => kshx_lt (kshy_lt hg y) hw i
def khalf (w h : Nat) (g : Nat → Nat) : Nat → Nat := kshy w (w / 2) (h / 2) g
theorem khalf_lt {w h : Nat} {g : Nat → Nat} (hg : ∀ i, g i < 256) (i : Nat) : khalf w h g i < 256 := kshy_lt hg _ i
theorem kwt_tab {j : Nat} (h : j < 5) : kWT (nI j).toNatClampNeg = .int (nI (kwt j)) := by
  rw [nI_clamp (by omega)]
  match j, h with
  | 0, _ => rfl
  | 1, _ => rfl
  | 2, _ => rfl
  | 3, _ => rfl
  | 4, _ => rfl
  | j + 5, h => omega
