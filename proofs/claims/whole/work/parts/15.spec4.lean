/-! what the methods of VisualSums itself work out -/
def kok (x : Int32) (n : Nat) : Prop := ∃ j : Nat, j < n ∧ x = nI j
/-- the nearest of 1 .. m -/
def knear (x : Int32) (m : Nat) : Nat := if x ≤ 1 then 1 else if nI m ≤ x then m else x.toNatClampNeg
theorem knear_le {x : Int32} {m : Nat} (hm : 1 ≤ m) (hm2 : m < 2 ^ 31) : 1 ≤ knear x m ∧ knear x m ≤ m := by
  unfold knear
  split
  · omega
  · rename_i h1
    split
    · omega
    · rename_i h2
      have h3 : ¬ x < 0 := fun h => h1 (Int32.le_of_lt (Int32.lt_trans h (by decide)))
      obtain ⟨j, hj, rfl⟩ := nI_of h3
      rw [nI_clamp hj]
      have h4 : ¬ nI j ≤ nI 1 := h1
      rw [nI_leI hj (by omega)] at h4
      rw [nI_leI hm2 hj] at h2
      omega
theorem knear_eq (x : Int32) {m : Nat} (hm : 1 ≤ m) (hm2 : m < 2 ^ 31) : (if nI 1 < (if x < nI m then x else nI m) then (if x < nI m then x else nI m) else nI 1) = nI (knear x m) := by
  unfold knear
  by_cases h1 : x ≤ 1
  · rw [if_pos h1]
    have h1' : x ≤ nI 1 := h1
    by_cases h2 : x < nI m
    · rw [if_pos h2, if_neg (Int32.not_lt.mpr h1')]
    · have h3 : m ≤ 1 := (nI_leI hm2 (by omega)).mp (Int32.le_trans (Int32.not_lt.mp h2) h1')
      have h4 : m = 1 := by omega
      subst h4
      rw [if_neg h2, if_neg (by decide)]
  · rw [if_neg h1]
    have h1' : nI 1 < x := Int32.not_le.mp h1
    by_cases h2 : nI m ≤ x
    · rw [if_pos h2, if_neg (Int32.not_lt.mpr h2)]
      by_cases h5 : 1 < m
      · rw [if_pos (nI_lt h5 hm2)]
      · have h4 : m = 1 := by omega
        subst h4
        rw [if_neg (by decide)]
    · rw [if_neg h2, if_pos (Int32.not_le.mp h2), if_pos h1']
      have h3 : ¬ x < 0 := fun h => h1 (Int32.le_of_lt (Int32.lt_trans h (by decide)))
      obtain ⟨j, hj, rfl⟩ := nI_of h3
      rw [nI_clamp hj]
/-- how many scales there are -/
def kscale (w h : Nat) : Nat := if (if h < w then h else w) < 5 then 0 else if (if h < w then h else w) < 10 then 1 else if (if h < w then h else w) < 20 then 2 else 3
theorem kscale_div {s m i : Nat} (hs : s = m / 2 ^ i ∧ ∀ j, j < i → 5 ≤ m / 2 ^ j) (h5 : 5 ≤ s) : s / 2 = m / 2 ^ (i + 1) ∧ ∀ j, j < i + 1 → 5 ≤ m / 2 ^ j := by
  obtain ⟨h1, h2⟩ := hs
  refine ⟨by rw [h1, Nat.div_div_eq_div_mul, Nat.pow_succ], fun j hj => ?_⟩
  by_cases e : j = i
  · subst e; rw [← h1]; exact h5
  · exact h2 j (by omega)
theorem kscale_lim {w h s i : Nat} (hs : s = (if h < w then h else w) / 2 ^ i ∧ ∀ j, j < i → 5 ≤ (if h < w then h else w) / 2 ^ j) (h5 : 5 ≤ s) (hw : w ≤ 24) (hl : i ≤ 3) : i + 1 ≤ 3 := by
  have hm : (if h < w then h else w) ≤ 24 := by split <;> omega
  generalize (if h < w then h else w) = m at hs hm
  obtain ⟨h1, h2⟩ := hs
  apply Nat.le_of_not_lt
  intro h3
  have e : i = 3 := by omega
  subst e
  rw [show (2 : Nat) ^ 3 = 8 from rfl] at h1
  omega
theorem kscale_end {w h s i : Nat} (hs : s = (if h < w then h else w) / 2 ^ i ∧ ∀ j, j < i → 5 ≤ (if h < w then h else w) / 2 ^ j) (h5 : s < 5) (hl : i ≤ 3) : kscale w h = i := by
  unfold kscale
  generalize (if h < w then h else w) = m at hs ⊢
  obtain ⟨h1, h2⟩ := hs
  have hi : i = 0 ∨ i = 1 ∨ i = 2 ∨ i = 3 := by omega
  rcases hi with rfl | rfl | rfl | rfl
  · rw [show (2 : Nat) ^ 0 = 1 from rfl] at h1
    rw [if_pos (by omega)]
  · have a := h2 0 (by omega)
    rw [show (2 : Nat) ^ 0 = 1 from rfl] at a
    rw [show (2 : Nat) ^ 1 = 2 from rfl] at h1
    rw [if_neg (by omega), if_pos (by omega)]
  · have a := h2 1 (by omega)
    rw [show (2 : Nat) ^ 1 = 2 from rfl] at a
    rw [show (2 : Nat) ^ 2 = 4 from rfl] at h1
    rw [if_neg (by omega), if_neg (by omega), if_pos (by omega)]
  · have a := h2 2 (by omega)
    rw [show (2 : Nat) ^ 2 = 4 from rfl] at a
    rw [if_neg (by omega), if_neg (by omega), if_neg (by omega)]
