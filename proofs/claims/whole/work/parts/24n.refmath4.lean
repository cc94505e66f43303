/-! a pass over the places -/
theorem k_split {W H p : Nat} (hp : p < W * H) : ∃ x y, x < W ∧ y < H ∧ p = y * W + x := by
  have hW : 0 < W := Nat.pos_of_ne_zero (fun e => by rw [e, Nat.zero_mul] at hp; exact absurd hp (Nat.not_lt_zero _))
  exact ⟨p % W, p / W, Nat.mod_lt _ hW, Nat.div_lt_of_lt_mul hp, by rw [Nat.mul_comm]; exact (Nat.div_add_mod p W).symm⟩
theorem kRf_le {W H L M : Nat} {B : Nat → Prop} {Q : Nat → Nat} (h : kRf W H L M B Q) {p : Nat} (hp : p < W * H) : Q p ≤ W * H := by
  obtain ⟨x, y, hx, hy, rfl⟩ := k_split hp
  by_cases hb : B (kat L x y)
  · obtain ⟨-, x', y', h1, h2, h3, -⟩ := h.2 x y hx hy hb
    have := k_idx h1 h2
    omega
  · rw [h.1 x y hx hy hb]
    exact Nat.zero_le _
theorem kRf_0 {W H L M C : Nat} {A G Q : Nat → Nat} (hL : L = W + 2) (hG : ∀ p, p < W * H → G p = kg C A p) : kRf W H L M (kblk W H L C A) (kfill (fun p => if G p < 128 then p + 1 else 0) Q (W * H)) := by
  refine ⟨fun x y hx hy hb => ?_, fun x y hx hy hb => ?_⟩
  · rw [kfill_in (k_idx hx hy), hG _ (k_idx hx hy)]
    exact if_neg (fun h => hb ((kat_blk hL hx hy).mpr h))
  · have e : kfill (fun p => if G p < 128 then p + 1 else 0) Q (W * H) (y * W + x) = y * W + x + 1 := by
      rw [kfill_in (k_idx hx hy), hG _ (k_idx hx hy)]
      exact if_pos ((kat_blk hL hx hy).mp hb)
    exact ⟨Nat.le_of_eq e.symm, x, y, hx, hy, e, hb, kcon_refl _⟩
/-- what the greatest of the near labels is -/
def kTp (W H L M : Nat) (B : Nat → Prop) (Q : Nat → Nat) (x y t : Nat) : Prop := Q (y * W + x) ≤ t ∧ ∃ x' y', x' < W ∧ y' < H ∧ t = y' * W + x' + 1 ∧ B (kat L x' y') ∧ kcon L M B (kat L x y) (kat L x' y')
def kMx (W H : Nat) (Q : Nat → Nat) (x y a b t : Nat) : Prop := ∀ a' b' x' y', (a' < a ∨ a' = a ∧ b' < b) → a' ≤ 2 → b' ≤ 2 → x' < W → y' < H → x' + 1 = x + b' → y' + 1 = y + a' → Q (y' * W + x') ≤ t
theorem kMx_0 {W H x y t : Nat} {Q : Nat → Nat} : kMx W H Q x y 0 0 t := fun a' b' x' y' h => by omega
theorem kMx_row {W H x y t a : Nat} {Q : Nat → Nat} (h : kMx W H Q x y a 3 t) : kMx W H Q x y (a + 1) 0 t := fun a' b' x' y' h1 h2 h3 => h a' b' x' y' (by omega) h2 h3
theorem kMx_out {W H x y t a b : Nat} {Q : Nat → Nat} (h : kMx W H Q x y a b t) (ho : ¬ (1 ≤ x + b ∧ x + b ≤ W ∧ 1 ≤ y + a ∧ y + a ≤ H)) : kMx W H Q x y a (b + 1) t := fun a' b' x' y' h1 h2 h3 h4 h5 h6 h7 => by
  by_cases e : a' = a ∧ b' = b
  · obtain ⟨rfl, rfl⟩ := e
    exact absurd ⟨by omega, by omega, by omega, by omega⟩ ho
  · exact h a' b' x' y' (by omega) h2 h3 h4 h5 h6 h7
theorem kMx_in {W H x y t t' a b : Nat} {Q : Nat → Nat} (h : kMx W H Q x y a b t) (ht : t ≤ t') (hq : Q ((y + a - 1) * W + (x + b - 1)) ≤ t') : kMx W H Q x y a (b + 1) t' := fun a' b' x' y' h1 h2 h3 h4 h5 h6 h7 => by
  by_cases e : a' = a ∧ b' = b
  · obtain ⟨rfl, rfl⟩ := e
    rw [show x' = x + b' - 1 by omega, show y' = y + a' - 1 by omega]
    exact hq
  · exact Nat.le_trans (h a' b' x' y' (by omega) h2 h3 h4 h5 h6 h7) ht
theorem kTp_new {W H L M x y t a b : Nat} {B : Nat → Prop} {Q : Nat → Nat} (hR : kRf W H L M B Q) (hx : x < W) (hy : y < H) (hlt : ∀ q, B q → q < M) (hb : B (kat L x y)) (h : kTp W H L M B Q x y t) (ha : a ≤ 2) (hb2 : b ≤ 2) (h1 : 1 ≤ x + b ∧ x + b ≤ W ∧ 1 ≤ y + a ∧ y + a ≤ H) (hq : t < Q ((y + a - 1) * W + (x + b - 1))) : kTp W H L M B Q x y (Q ((y + a - 1) * W + (x + b - 1))) := by
  have hbn : B (kat L (x + b - 1) (y + a - 1)) := Classical.byContradiction fun hn => by
    rw [hR.1 _ _ (by omega) (by omega) hn] at hq
    omega
  obtain ⟨-, x', y', g1, g2, g3, g4, g5⟩ := hR.2 (x + b - 1) (y + a - 1) (by omega) (by omega) hbn
  refine ⟨Nat.le_trans h.1 (Nat.le_of_lt hq), x', y', g1, g2, g3, g4, kcon_trans (kcon_step (kcon_refl _) (hlt _ hb) (hlt _ hbn) hb hbn (kadj_at ha hb2 (by omega) (by omega))) g5⟩
theorem kRf_up {W H L M x y t : Nat} {B : Nat → Prop} {Q : Nat → Nat} (hR : kRf W H L M B Q) (hx : x < W) (hy : y < H) (hb : B (kat L x y)) (h : kTp W H L M B Q x y t) : kRf W H L M B (va_up Q (y * W + x) t) := by
  have hne : ∀ x' y', x' < W → ¬ (x' = x ∧ y' = y) → y' * W + x' ≠ y * W + x := fun x' y' hx' hn e => hn (k_xy hx' hx e)
  refine ⟨fun x' y' hx' hy' hb' => ?_, fun x' y' hx' hy' hb' => ?_⟩
  · rw [va_up_ne' _ _ (hne x' y' hx' (fun e => by rw [e.1, e.2] at hb'; exact hb' hb))]
    exact hR.1 x' y' hx' hy' hb'
  · by_cases e : x' = x ∧ y' = y
    · obtain ⟨rfl, rfl⟩ := e
      rw [va_up_eq]
      exact ⟨Nat.le_trans (hR.2 x' y' hx' hy' hb).1 h.1, h.2⟩
    · rw [va_up_ne' _ _ (hne x' y' hx' e)]
      exact hR.2 x' y' hx' hy' hb'
/-- no near label is greater, up to the place -/
def kFx (W H L : Nat) (B : Nat → Prop) (Q : Nat → Nat) (y x : Nat) : Prop := ∀ x0 y0, x0 < W → y0 < H → (y0 < y ∨ y0 = y ∧ x0 < x) → B (kat L x0 y0) → ∀ a b x' y', a ≤ 2 → b ≤ 2 → x' < W → y' < H → x' + 1 = x0 + b → y' + 1 = y0 + a → Q (y' * W + x') ≤ Q (y0 * W + x0)
theorem kFx_0 {W H L : Nat} {B : Nat → Prop} {Q : Nat → Nat} : kFx W H L B Q 0 0 := fun x0 y0 _ _ h => by omega
theorem kFx_row {W H L y : Nat} {B : Nat → Prop} {Q : Nat → Nat} (h : kFx W H L B Q y W) : kFx W H L B Q (y + 1) 0 := fun x0 y0 h1 h2 h3 => h x0 y0 h1 h2 (by omega)
theorem kFx_step {W H L y x : Nat} {B : Nat → Prop} {Q : Nat → Nat} (h : kFx W H L B Q y x) (hn : B (kat L x y) → kMx W H Q x y 3 0 (Q (y * W + x))) : kFx W H L B Q y (x + 1) := fun x0 y0 h1 h2 h3 hb a b x' y' ha hb2 hx' hy' ex ey => by
  by_cases e : x0 = x ∧ y0 = y
  · obtain ⟨rfl, rfl⟩ := e
    exact hn hb a b x' y' (by omega) ha hb2 hx' hy' ex ey
  · exact h x0 y0 h1 h2 (by omega) hb a b x' y' ha hb2 hx' hy' ex ey
theorem kFx_end {W H L : Nat} {B : Nat → Prop} {Q : Nat → Nat} (hL : L = W + 2) (h : kFx W H L B Q H 0) : kRx W H L B Q := fun x y x' y' hx hy hx' hy' hb _ ⟨a, b, ha, hb2, e⟩ => by
  have e2 : (y' + 2) * L + (x' + 1) = (y + 1 + a) * L + (x + b) := by
    have e3 : (y' + 1) * L + x' + 1 + (L + 1) = (y + 1) * L + x + 1 + a * L + b := e
    have e4 : (y' + 2) * L = (y' + 1) * L + L := Nat.succ_mul _ _
    have e5 : (y + 1 + a) * L = (y + 1) * L + a * L := Nat.add_mul _ _ _
    omega
  obtain ⟨g1, g2⟩ := k_xy (W := L) (by omega) (by omega) e2
  exact h x y hx hy (by omega) hb a b x' y' ha hb2 hx' hy' (by omega) (by omega)
def kPs (W H L : Nat) (B : Nat → Prop) (Q Q1 : Nat → Nat) (g y x : Nat) : Prop := (g = 0 ∧ Q1 = Q ∧ kFx W H L B Q y x) ∨ (g = 1 ∧ ksum Q (W * H) < ksum Q1 (W * H))
theorem k_jback {n : Nat} (h : 1 ≤ n) : nI (n - 1 + 1) = nI (n + 1) - nI 1 := by
  rw [pk_sub (by omega : 1 ≤ n + 1)]
  congr 1
  omega
theorem kR_sum {W H L M : Nat} {B : Nat → Prop} {Q : Nat → Nat} (h : kRf W H L M B Q) : ksum Q (W * H) ≤ W * H * (W * H) := ksum_le (fun _ hk => kRf_le h hk)
