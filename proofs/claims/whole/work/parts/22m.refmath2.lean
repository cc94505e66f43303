/-! the other one: ranges, steps, orders -/
theorem k_mapout {x : Int32} {W : Nat} (hW : W ≤ 24) (h : ¬ ∃ i : Nat, x = nI i ∧ 2 ≤ i ∧ i + 2 < W) : x < nI 2 ∨ nI W - nI 3 < x := by
  by_cases h1 : x < nI 2
  · exact Or.inl h1
  · refine Or.inr (Decidable.byContradiction fun h2 => ?_)
    have h3 : ¬ x < 0 := fun h => h1 (Int32.lt_trans h (by decide))
    obtain ⟨j, hj, rfl⟩ := nI_of h3
    rw [Int32.lt_iff_toInt_lt, pk_sub_toInt (by omega) (by decide), nI_toInt hj] at h2
    have h4 : 2 ≤ j := Nat.le_of_not_lt (fun h => h1 (nI_lt h (by decide)))
    exact h ⟨j, rfl, h4, by omega⟩
theorem k_blkout {x : Int32} (h : ¬ ∃ n : Nat, 2 ≤ n ∧ n ≤ 24 ∧ x = nI n) : x < nI 2 ∨ nI 24 < x := by
  by_cases h1 : x < nI 2
  · exact Or.inl h1
  · refine Or.inr (Decidable.byContradiction fun h2 => ?_)
    have h3 : ¬ x < 0 := fun h => h1 (Int32.lt_trans h (by decide))
    obtain ⟨n, hn, rfl⟩ := nI_of h3
    exact h ⟨n, Nat.le_of_not_lt (fun h => h1 (nI_lt h (by decide))), (nI_leI hn (by decide)).mp (Int32.not_lt.mp h2), rfl⟩
theorem k_absA {a b : Nat} (ha : a < 2 ^ 30) (hb : b < 2 ^ 30) (h : 0 ≤ nI a - nI b) : nI a - nI b = nI (kd a b) := by
  have h2 := k_abs ha hb
  rw [if_pos h] at h2
  exact h2
theorem k_absB {a b : Nat} (ha : a < 2 ^ 30) (hb : b < 2 ^ 30) (h : ¬ 0 ≤ nI a - nI b) : -(nI a - nI b) = nI (kd a b) := by
  have h2 := k_abs ha hb
  rw [if_neg h, Int32.zero_sub] at h2
  exact h2
theorem k_sub0 {a b : Nat} (ha : a < 256) (hb : b < 256) : nI a - nI b = 0 ↔ kd a b = 0 := by
  rw [kd_0]
  constructor
  · intro h
    have h2 := congrArg Int32.toInt h
    rw [pk_sub_toInt (by omega) (by omega)] at h2
    have h3 : (0 : Int32).toInt = 0 := by decide
    omega
  · intro h
    rw [h, Int32.sub_self]
theorem k_sq1 {d : Nat} : d * d = 1 ↔ d = 1 := by
  constructor
  · intro h
    rcases d with _ | _ | d
    · cases h
    · rfl
    · have h1 := Nat.mul_le_mul (Nat.le_add_left 2 d) (Nat.le_add_left 2 d)
      have h2 : (d + 2) * (d + 2) = 1 := h
      rw [h2] at h1
      exact absurd h1 (by decide)
  · intro h
    rw [h]
theorem kbn_b (d e : Nat) : -((1 : Nat) : Int) ≤ (kbn d e).toInt ∧ (kbn d e).toInt ≤ ((1 : Nat) : Int) := by
  unfold kbn
  split
  · decide
  · split <;> decide
theorem ksL_b {f : Nat → Int64} {c : Nat} (hf : ∀ k, -(c : Int) ≤ (f k).toInt ∧ (f k).toInt ≤ (c : Int)) (hc : c ≤ 1000) : ∀ n, n ≤ 1000 → -((n * c : Nat) : Int) ≤ (ksL f n).toInt ∧ (ksL f n).toInt ≤ ((n * c : Nat) : Int)
  | 0, _ => by
    rw [Nat.zero_mul]
    show -((0 : Nat) : Int) ≤ (0 : Int64).toInt ∧ (0 : Int64).toInt ≤ ((0 : Nat) : Int)
    decide
  | n + 1, hn => by
    have ih := ksL_b hf hc n (by omega)
    have h1 := hf n
    have hb : n * c ≤ 1000 * 1000 := Nat.mul_le_mul (by omega) hc
    have e : (ksL f (n + 1)).toInt = (ksL f n).toInt + (f n).toInt := by
      show (ksL f n + f n).toInt = _
      rw [Int64.toInt_add]
      exact Int.bmod_eq_of_le (by omega) (by omega)
    rw [e, Nat.succ_mul]
    omega
theorem k2L_band {C W H : Nat} {A B : Nat → Nat} (hW : W ≤ 24) (hH : H ≤ 24) : FP.i2d (k2L (kbc C W A B) (W - 1) H 0).toInt32 = FP.l2d (k2L (kbc C W A B) (W - 1) H 0) := by
  have h1 : ∀ y, -((W : Nat) : Int) ≤ (ksL (kbc C W A B y) (W - 1)).toInt ∧ (ksL (kbc C W A B y) (W - 1)).toInt ≤ ((W : Nat) : Int) := fun y => by
    have := ksL_b (f := kbc C W A B y) (c := 1) (fun k => kbn_b _ _) (by decide) (W - 1) (by omega)
    omega
  have h2 := ksL_b h1 (by omega) H (by omega)
  have h3 : H * W ≤ 24 * 24 := Nat.mul_le_mul hH hW
  have e0 : k2L (kbc C W A B) (W - 1) H 0 = ksL (fun b => ksL (kbc C W A B b) (W - 1)) H := Int64.add_zero _
  rw [e0]
  have e1 : (ksL (fun b => ksL (kbc C W A B b) (W - 1)) H).toInt32.toInt64 = ksL (fun b => ksL (kbc C W A B b) (W - 1)) H := by
    apply Int64.toInt_inj.mp
    rw [Int32.toInt_toInt64, Int64.toInt_toInt32]
    exact Int.bmod_eq_of_le (by omega) (by omega)
  exact (FP.Core.i2d_l2d _).trans (congrArg FP.l2d e1)
theorem kinsd_out {v : UInt64} : ∀ {n : Nat} {g : Nat → UInt64} {j : Nat}, n < j → kinsd v n g j = g j
  | 0, g, j, hj => va_up_ne' _ _ (by omega)
  | n + 1, g, j, hj => by
    show (if kGt (g n) v then kinsd v n (va_up g (n + 1) (g n)) else va_up g (n + 1) v) j = g j
    split
    · rw [kinsd_out (n := n) (by omega), va_up_ne' _ _ (by omega)]
    · exact va_up_ne' _ _ (by omega)
theorem kinsd_cong {v : UInt64} : ∀ {n : Nat} {g g' : Nat → UInt64}, (∀ j, j < n → g j = g' j) → ∀ j, j < n + 1 → kinsd v n g j = kinsd v n g' j
  | 0, g, g', _, j, hj => by
    have e : j = 0 := by omega
    subst e
    show va_up g 0 v 0 = va_up g' 0 v 0
    rw [va_up_eq, va_up_eq]
  | n + 1, g, g', h, j, hj => by
    have hn := h n (Nat.lt_succ_self n)
    show (if kGt (g n) v then kinsd v n (va_up g (n + 1) (g n)) else va_up g (n + 1) v) j = (if kGt (g' n) v then kinsd v n (va_up g' (n + 1) (g' n)) else va_up g' (n + 1) v) j
    rw [hn]
    split
    · by_cases e : j = n + 1
      · rw [kinsd_out (by omega), kinsd_out (by omega), e, va_up_eq, va_up_eq]
      · exact kinsd_cong (fun i hi => by rw [va_up_ne' _ _ (by omega), va_up_ne' _ _ (by omega), h i (by omega)]) j (by omega)
    · by_cases e : j = n + 1
      · rw [e, va_up_eq, va_up_eq]
      · rw [va_up_ne' _ _ e, va_up_ne' _ _ e, h j (by omega)]
/-- put in order one by one -/
def ksort (f : Nat → UInt64) : Nat → Nat → UInt64
  | 0 => fun _ => 0
  | n + 1 => kinsd (f n) n (ksort f n)
theorem ksort_cong {f g : Nat → UInt64} : ∀ {n : Nat}, (∀ k, k < n → f k = g k) → ksort f n = ksort g n
  | 0, _ => rfl
  | n + 1, h => by
    show kinsd (f n) n (ksort f n) = kinsd (g n) n (ksort g n)
    rw [ksort_cong (fun k hk => h k (Nat.lt_succ_of_lt hk)), h n (Nat.lt_succ_self n)]
theorem kdsum_cong {f g : Nat → UInt64} : ∀ {n : Nat}, (∀ k, k < n → f k = g k) → kdsum f n = kdsum g n
  | 0, _ => rfl
  | n + 1, h => by
    show FP.dadd (kdsum f n) (f n) = FP.dadd (kdsum g n) (g n)
    rw [kdsum_cong (fun k hk => h k (Nat.lt_succ_of_lt hk)), h n (Nat.lt_succ_self n)]
theorem kwin_cong {f g f' g' : Nat → UInt64} : ∀ {n : Nat}, (∀ k, k < n → f k = f' k) → (∀ k, k < n → g k = g' k) → kwin f g n = kwin f' g' n
  | 0, _, _ => rfl
  | n + 1, h, h' => by
    have ih := kwin_cong (fun k hk => h k (Nat.lt_succ_of_lt hk)) (fun k hk => h' k (Nat.lt_succ_of_lt hk))
    show (if kGt (f n) (g n) then kwin f g n + 1 else if kLt (f n) (g n) then kwin f g n + Int32.ofInt (-1) else kwin f g n) = (if kGt (f' n) (g' n) then kwin f' g' n + 1 else if kLt (f' n) (g' n) then kwin f' g' n + Int32.ofInt (-1) else kwin f' g' n)
    rw [ih, h n (Nat.lt_succ_self n), h' n (Nat.lt_succ_self n)]
theorem k_rank_out {y : Int32} {n : Nat} (hn : n ≤ 200) (h : ¬ ∃ j : Nat, j < n ∧ y = nI j) : y < nI 0 ∨ nI n - nI 1 < y := by
  by_cases h1 : y < nI 0
  · exact Or.inl h1
  · refine Or.inr (Decidable.byContradiction fun h2 => ?_)
    obtain ⟨j, hj, rfl⟩ := nI_of (show ¬ y < 0 from h1)
    rw [Int32.lt_iff_toInt_lt, pk_sub_toInt (by omega) (by decide), nI_toInt hj] at h2
    exact h ⟨j, by omega, rfl⟩
