/-! what the methods work out, as plain functions of naturals -/
def kct (p : Nat → Bool) : Nat → Nat
  | 0 => 0
  | n + 1 => kct p n + (if p n then 1 else 0)
theorem kct_yes {p : Nat → Bool} {n : Nat} (h : p n = true) : kct p n + 1 = kct p (n + 1) := by rw [kct, h]; rfl
theorem kct_no {p : Nat → Bool} {n : Nat} (h : p n = false) : kct p n = kct p (n + 1) := by rw [kct, h]; rfl
theorem kct_le (p : Nat → Bool) : ∀ n, kct p n ≤ n
  | 0 => Nat.le_refl 0
  | n + 1 => by
    have ih := kct_le p n
    rw [kct]
    split <;> omega
theorem kct_cong {p q : Nat → Bool} : ∀ {n : Nat}, (∀ k, k < n → p k = q k) → kct p n = kct q n
  | 0, _ => rfl
  | n + 1, h => by rw [kct, kct, kct_cong (fun k hk => h k (Nat.lt_succ_of_lt hk)), h n (Nat.lt_succ_self n)]
def ksum (f : Nat → Nat) : Nat → Nat
  | 0 => 0
  | n + 1 => ksum f n + f n
theorem ksum_le {f : Nat → Nat} {c : Nat} : ∀ {n : Nat}, (∀ k, k < n → f k ≤ c) → ksum f n ≤ n * c
  | 0, _ => by simp [ksum]
  | n + 1, h => by
    have ih := ksum_le (n := n) (fun k hk => h k (Nat.lt_succ_of_lt hk))
    have h1 := h n (Nat.lt_succ_self n)
    rw [ksum, Nat.succ_mul]
    omega
theorem ksum_cong {f g : Nat → Nat} : ∀ {n : Nat}, (∀ k, k < n → f k = g k) → ksum f n = ksum g n
  | 0, _ => rfl
  | n + 1, h => by rw [ksum, ksum, ksum_cong (fun k hk => h k (Nat.lt_succ_of_lt hk)), h n (Nat.lt_succ_self n)]
/-- the greatest of the first n -/
def kmx (f : Nat → Nat) : Nat → Nat
  | 0 => 0
  | n + 1 => if kmx f n < f n then f n else kmx f n
theorem kmx_le {f : Nat → Nat} {c : Nat} (h : ∀ k, f k ≤ c) : ∀ n, kmx f n ≤ c
  | 0 => Nat.zero_le c
  | n + 1 => by
    rw [kmx]
    split
    · exact h n
    · exact kmx_le h n
/-- how far two naturals are from each other -/
def kd (a b : Nat) : Nat := (a - b) + (b - a)
theorem kd_le {a b c : Nat} (ha : a ≤ c) (hb : b ≤ c) : kd a b ≤ c := by unfold kd; omega
theorem kd_0 {a b : Nat} : kd a b = 0 ↔ a = b := by unfold kd; omega
/-- the first i places are G's, the others F's -/
def kfill {α : Type} (G F : Nat → α) (i : Nat) : Nat → α := fun j => if j < i then G j else F j
theorem kfill_0 {α : Type} (G F : Nat → α) : kfill G F 0 = F := by funext j; exact if_neg (Nat.not_lt_zero j)
theorem kfill_in {α : Type} {G F : Nat → α} {i j : Nat} (h : j < i) : kfill G F i j = G j := if_pos h
theorem kfill_out {α : Type} {G F : Nat → α} {i j : Nat} (h : i ≤ j) : kfill G F i j = F j := if_neg (Nat.not_lt.mpr h)
theorem kfill_up {α : Type} (G F : Nat → α) (i : Nat) : va_up (kfill G F i) i (G i) = kfill G F (i + 1) := by
  funext j
  unfold va_up kfill
  by_cases h : j = i
  · subst h
    rw [if_pos rfl, if_pos (Nat.lt_succ_self j)]
  · rw [if_neg h]
    by_cases h2 : j < i
    · rw [if_pos h2, if_pos (Nat.lt_succ_of_lt h2)]
    · rw [if_neg h2, if_neg (by omega)]
theorem kfill_same {α : Type} {G F : Nat → α} {i : Nat} (h : F i = G i) : kfill G F i = kfill G F (i + 1) := by
  rw [← kfill_up]
  funext j
  unfold va_up
  by_cases e : j = i
  · subst e
    rw [if_pos rfl, kfill_out (Nat.le_refl j), h]
  · rw [if_neg e]
theorem kfill_lt {G F : Nat → Nat} {c : Nat} (hG : ∀ i, G i < c) (hF : ∀ i, F i < c) (n i : Nat) : kfill G F n i < c := by
  unfold kfill
  split
  · exact hG i
  · exact hF i
theorem va_up_lt {F : Nat → Nat} {c v : Nat} (hF : ∀ i, F i < c) (hv : v < c) (k i : Nat) : va_up F k v i < c := by
  unfold va_up
  split
  · exact hv
  · exact hF i
/-- v, then each the step more -/
def kps (v step : Int32) : Nat → Int32
  | 0 => v
  | n + 1 => kps v step n + step
/-- a grey one out of the samples of a place -/
def kg (C : Nat) (F : Nat → Nat) (p : Nat) : Nat := if C = 1 then F (p * C) else if C = 2 then (F (p * C) + F (p * C + 1) + 1) / 2 else (F (p * C) + 2 * F (p * C + 1) + F (p * C + 2) + 2) / 4
theorem kg_lt {C : Nat} {F : Nat → Nat} (hF : ∀ i, F i < 256) (p : Nat) : kg C F p < 256 := by
  have h0 := hF (p * C)
  have h1 := hF (p * C + 1)
  have h2 := hF (p * C + 2)
  unfold kg
  split
  · exact h0
  · split <;> omega
/-! ints -/
theorem k_nlt {a : Nat} : ¬ a < 0 := Nat.not_lt_zero a
theorem k_sub_neg {a b : Nat} (h : a ≤ b) : nI a - nI b = -nI (b - a) := by
  obtain ⟨c, rfl⟩ : ∃ c, b = c + a := ⟨b - a, by omega⟩
  rw [← nI_add, Nat.add_sub_cancel, Int32.add_comm, Int32.sub_eq_add_neg, Int32.neg_add, Int32.sub_eq_add_neg, ← Int32.add_assoc, Int32.add_right_neg, Int32.zero_add]
theorem k_abs {a b : Nat} (ha : a < 2 ^ 30) (hb : b < 2 ^ 30) : (if 0 ≤ nI a - nI b then nI a - nI b else 0 - (nI a - nI b)) = nI (kd a b) := by
  unfold kd
  by_cases h : b ≤ a
  · rw [pk_sub h, if_pos (nI_pos' (by omega))]
    exact congrArg nI (by omega)
  · have h2 : a ≤ b := by omega
    have hn : nI a - nI b < 0 := pk_sneg hb (by omega)
    rw [if_neg (fun e => absurd hn (Int32.not_lt.mpr e)), k_sub_neg h2, Int32.zero_sub, Int32.neg_neg]
    exact congrArg nI (by omega)
theorem k_sq (a b : Nat) : (nI a - nI b) * (nI a - nI b) = nI (kd a b * kd a b) := by
  unfold kd
  by_cases h : b ≤ a
  · rw [pk_sub h, pk_mul]
    exact congrArg nI (by rw [show b - a = 0 from by omega, Nat.add_zero])
  · have h2 : a ≤ b := by omega
    rw [k_sub_neg h2, Int32.neg_mul_neg, pk_mul]
    exact congrArg nI (by rw [show a - b = 0 from by omega, Nat.zero_add])
theorem k_max {a b : Nat} (ha : a < 2 ^ 31) (hb : b < 2 ^ 31) : (if nI a < nI b then nI b else nI a) = nI (if a < b then b else a) := by
  by_cases h : a < b
  · rw [if_pos (nI_lt h hb), if_pos h]
  · rw [if_neg (nI_nlt (by omega) ha), if_neg h]
theorem k_min {a b : Nat} (ha : a < 2 ^ 31) (hb : b < 2 ^ 31) : (if nI b < nI a then nI b else nI a) = nI (if b < a then b else a) := by
  by_cases h : b < a
  · rw [if_pos (nI_lt h ha), if_pos h]
  · rw [if_neg (nI_nlt (by omega) hb), if_neg h]
theorem k_idx {x y w h : Nat} (hx : x < w) (hy : y < h) : y * w + x < w * h := by
  have h1 : (y + 1) * w ≤ h * w := Nat.mul_le_mul_right w hy
  rw [Nat.succ_mul] at h1
  rw [Nat.mul_comm w h]
  omega
theorem k_idx' {x y w h : Nat} (hx : x < w) (hy : y < h) : w * y + x < w * h := by
  rw [Nat.mul_comm w y]
  exact k_idx hx hy
theorem k_wh {w h : Nat} (hw : w ≤ 24) (hh : h ≤ 24) : w * h ≤ 576 := Nat.le_trans (Nat.mul_le_mul hw hh) (Nat.le_of_ble_eq_true rfl)
/-! doubles: no NaN is ever made -/
def kGt (x y : UInt64) : Bool := decide (0 < Op.cmpValue (FP.dcmp x y) CmpOp.l)
def kLt (x y : UInt64) : Bool := decide (Op.cmpValue (FP.dcmp x y) CmpOp.g < 0)
theorem k_bits63 (r : UInt64) : r &&& 0x7fffffffffffffff ≤ 0x7ff0000000000000 ↔ r.toNat % 2 ^ 63 ≤ 9218868437227405312 := by
  rw [UInt64.le_iff_toNat_le, UInt64.toNat_and]
  rw [show (0x7fffffffffffffff : UInt64).toNat = 2 ^ 63 - 1 from rfl, Nat.and_two_pow_sub_one_eq_mod]
  exact Iff.rfl
theorem k_noNaN {r : UInt64} (h : FP.Core.dIsNaN r = false) : vf_n64 r := (k_bits63 r).mpr ((FP.Core.ne_nan r).mp ((FP.Core.notNaN_iff r).mp h))
theorem k_isNo {r : UInt64} (h : vf_n64 r) : FP.Core.dIsNaN r = false := (FP.Core.notNaN_iff r).mpr ((FP.Core.ne_nan r).mpr ((k_bits63 r).mp h))
/-- the sum of the first numbers, one after the other -/
def kdsum (f : Nat → UInt64) : Nat → UInt64
  | 0 => 0
  | n + 1 => FP.dadd (kdsum f n) (f n)
theorem kdsum_no {f : Nat → UInt64} : ∀ {n : Nat}, (∀ k, k < n → FP.Core.DFin (f k)) → vf_n64 (kdsum f n)
  | 0, _ => by show vf_n64 0; unfold vf_n64; decide
  | n + 1, h => k_noNaN (FP.Core.dadd_out (k_isNo (kdsum_no (n := n) (fun k hk => h k (Nat.lt_succ_of_lt hk)))) (h n (Nat.lt_succ_self n)))
theorem k_i2d_nz {c : Nat} (h0 : 0 < c) (hc : c < 2 ^ 31) : ¬ FP.Core.DZero (FP.i2d (nI c)) := by
  intro hz
  have h1 := FP.Core.i2d_big (v := nI c) (by rw [nI_toInt hc]; omega)
  have h2 := (FP.Core.zero_bits2 _).mp hz
  have h3 : (FP.i2d (nI c)).toNat = (FP.Core.i2d (nI c)).toNat := rfl
  omega
theorem k_ddiv_no {x : UInt64} {c : Nat} (hx : vf_n64 x) (h0 : 0 < c) (hc : c < 2 ^ 31) : vf_n64 (FP.ddiv x (FP.i2d (nI c))) :=
  k_noNaN (FP.Core.ddiv_out (k_isNo hx) (FP.Core.i2d_fin _) (k_i2d_nz h0 hc))
/-- a number's place among sorted ones: the greater ones move up -/
def kinsd (v : UInt64) : Nat → (Nat → UInt64) → Nat → UInt64
  | 0, s => va_up s 0 v
  | k + 1, s => if kGt (s k) v then kinsd v k (va_up s (k + 1) (s k)) else va_up s (k + 1) v
/-- how often the first's number is greater, less how often the second's is -/
def kwin (f g : Nat → UInt64) : Nat → Int32
  | 0 => 0
  | n + 1 => if kGt (f n) (g n) then kwin f g n + 1 else if kLt (f n) (g n) then kwin f g n + Int32.ofInt (-1) else kwin f g n
theorem kwin_gt {f g : Nat → UInt64} {n : Nat} (h : kGt (f n) (g n) = true) : kwin f g (n + 1) = kwin f g n + 1 := by rw [kwin, if_pos h]
theorem kwin_lt {f g : Nat → UInt64} {n : Nat} (h1 : kGt (f n) (g n) = false) (h2 : kLt (f n) (g n) = true) : kwin f g (n + 1) = kwin f g n + Int32.ofInt (-1) := by rw [kwin, if_neg (by rw [h1]; decide), if_pos h2]
theorem kwin_no {f g : Nat → UInt64} {n : Nat} (h1 : kGt (f n) (g n) = false) (h2 : kLt (f n) (g n) = false) : kwin f g (n + 1) = kwin f g n := by rw [kwin, if_neg (by rw [h1]; decide), if_neg (by rw [h2]; decide)]
