/-! parts by the greatest place, against parts by the first -/
abbrev kat (L x y : Nat) : Nat := (y + 1) * L + x + 1
theorem kat_eq {W L x y x' y' : Nat} (hL : L = W + 2) (hx : x < W) (hx' : x' < W) (e : kat L x y = kat L x' y') : x = x' ∧ y = y' := by
  have e2 : (y + 1) * L + x = (y' + 1) * L + x' := Nat.succ.inj e
  obtain ⟨h1, h2⟩ := k_xy (W := L) (by omega) (by omega) e2
  exact ⟨h1, Nat.succ.inj h2⟩
theorem kat_blk {W H L C x y : Nat} {A : Nat → Nat} (hL : L = W + 2) (hx : x < W) (hy : y < H) : kblk W H L C A (kat L x y) ↔ kg C A (y * W + x) < 128 := by
  constructor
  · rintro ⟨x', y', hx', hy', e, h⟩
    obtain ⟨rfl, rfl⟩ := kat_eq hL hx hx' e
    exact h
  · intro h
    exact ⟨x, y, hx, hy, rfl, h⟩
/-- labels by places, 0 where it is not black -/
def kRf (W H L M : Nat) (B : Nat → Prop) (R : Nat → Nat) : Prop :=
  (∀ x y, x < W → y < H → ¬ B (kat L x y) → R (y * W + x) = 0) ∧
  (∀ x y, x < W → y < H → B (kat L x y) → y * W + x + 1 ≤ R (y * W + x) ∧ ∃ x' y', x' < W ∧ y' < H ∧ R (y * W + x) = y' * W + x' + 1 ∧ B (kat L x' y') ∧ kcon L M B (kat L x y) (kat L x' y'))
def kRx (W H L : Nat) (B : Nat → Prop) (R : Nat → Nat) : Prop :=
  ∀ x y x' y', x < W → y < H → x' < W → y' < H → B (kat L x y) → B (kat L x' y') → kadj L (kat L x y) (kat L x' y') → R (y' * W + x') ≤ R (y * W + x)
section KPARTS
variable {W H L M C : Nat} {A : Nat → Nat} {f : Nat → Int32} {R : Nat → Nat}
theorem kR_conn (hL : L = W + 2) (hx : kRx W H L (kblk W H L C A) R) {q q' : Nat} (hc : kcon L M (kblk W H L C A) q q') : R (kdp W L q) = R (kdp W L q') := by
  refine kcon_inv (f := fun q => R (kdp W L q)) ?_ hc
  rintro _ _ - - ⟨x, y, h1, h2, rfl, h3⟩ ⟨x', y', h1', h2', rfl, h3'⟩ ha
  show R (kdp W L ((y + 1) * L + x + 1)) = R (kdp W L ((y' + 1) * L + x' + 1))
  rw [kdp_at hL h1, kdp_at hL h1']
  exact Nat.le_antisymm (hx x' y' x y h1' h2' h1 h2 ⟨x', y', h1', h2', rfl, h3'⟩ ⟨x, y, h1, h2, rfl, h3⟩ (kadj_symm ha)) (hx x y x' y' h1 h2 h1' h2' ⟨x, y, h1, h2, rfl, h3⟩ ⟨x', y', h1', h2', rfl, h3'⟩ ha)
theorem kR_at (hL : L = W + 2) (hx : kRx W H L (kblk W H L C A) R) {x y x' y' : Nat} (h1 : x < W) (h1' : x' < W) (hc : kcon L M (kblk W H L C A) (kat L x y) (kat L x' y')) : R (y * W + x) = R (y' * W + x') := by
  have h := kR_conn hL hx hc
  rw [kdp_at hL h1, kdp_at hL h1'] at h
  exact h
theorem kL_conn (hf : kLab L M (kblk W H L C A) f) {q q' : Nat} (hc : kcon L M (kblk W H L C A) q q') : f q = f q' :=
  kcon_inv (f := f) (fun x y hx hy bx by_ ha => (hf.2.2 x y hx hy bx by_ ha).symm) hc
theorem kL_black (hf : kLab L M (kblk W H L C A) f) {q s : Nat} (hq : q < M) (hs : s < 2 ^ 31) (e : f q = nI s) : kblk W H L C A q :=
  Classical.byContradiction fun h => k_nI_ne_m1 hs (e.symm.trans (hf.1 q hq h))
theorem kL_root (hM : M < 2 ^ 31) (hf : kLab L M (kblk W H L C A) f) {q s : Nat} (hq : q < M) (hs : s < 2 ^ 31) (e : f q = nI s) : s ≤ q ∧ kblk W H L C A s ∧ f s = nI s ∧ kcon L M (kblk W H L C A) s q := by
  obtain ⟨s', h1, h2, h3, h4, h5⟩ := hf.2.1 q hq (kL_black hf hq hs e)
  have e2 : s' = s := (nI_eq (by omega) hs).mp (h3.symm.trans e)
  subst e2
  exact ⟨h1, h2, h4, h5⟩
theorem kR_black (hR : kRf W H L M (kblk W H L C A) R) {x y n : Nat} (hx : x < W) (hy : y < H) (e : R (y * W + x) = n + 1) : kblk W H L C A (kat L x y) :=
  Classical.byContradiction fun h => absurd ((hR.1 x y hx hy h).symm.trans e) (by omega)
/-- two places have one label by the first place just where they have one by the greatest -/
theorem kLR (hM : M < 2 ^ 31) (hL : L = W + 2) (hML : M = L * (H + 2)) (hf : kLab L M (kblk W H L C A) f) (hR : kRf W H L M (kblk W H L C A) R) (hX : kRx W H L (kblk W H L C A) R) {x y s : Nat} (hx : x < W) (hy : y < H) (hs : s < 2 ^ 31) (e : f (kat L x y) = nI s) (eR : R (y * W + x) = y * W + x + 1) {x' y' : Nat} (hx' : x' < W) (hy' : y' < H) :
    f (kat L x' y') = nI s ↔ R (y' * W + x') = y * W + x + 1 := by
  have hlt : ∀ {q : Nat}, kblk W H L C A q → q < M := fun h => by have := kblk_in hL hML h; omega
  have hb := kR_black hR hx hy eR
  have h0 := kL_root hM hf (hlt hb) hs e
  constructor
  · intro e'
    have hb' : kblk W H L C A (kat L x' y') := by
      apply Classical.byContradiction
      intro h
      by_cases hq : kat L x' y' < M
      · exact k_nI_ne_m1 hs (e'.symm.trans (hf.1 _ hq h))
      · have g1 : (y' + 2) * L ≤ (H + 2) * L := Nat.mul_le_mul_right L (by omega)
        rw [Nat.mul_comm (H + 2) L, ← hML, show (y' + 2) * L = (y' + 1) * L + L from Nat.succ_mul _ _] at g1
        have : kat L x' y' = (y' + 1) * L + x' + 1 := rfl
        omega
    have h1 := kL_root hM hf (hlt hb') hs e'
    rw [← eR]
    exact kR_at hL hX hx' hx (kcon_trans (kcon_symm h1.2.2.2) h0.2.2.2)
  · intro e'
    have hb' := kR_black hR hx' hy' e'
    obtain ⟨-, x2, y2, hx2, hy2, e2, -, hc⟩ := hR.2 x' y' hx' hy' hb'
    have e3 : y2 * W + x2 = y * W + x := Nat.succ.inj (e2.symm.trans e')
    obtain ⟨rfl, rfl⟩ := k_xy hx2 hx e3
    rw [kL_conn hf hc]
    exact e
theorem kat_lt (hL : L = W + 2) (hML : M = L * (H + 2)) {x y : Nat} (hx : x < W) (hy : y < H) : kat L x y < M := by
  have g1 : (y + 2) * L ≤ (H + 2) * L := Nat.mul_le_mul_right L (by omega)
  rw [Nat.mul_comm (H + 2) L, ← hML, show (y + 2) * L = (y + 1) * L + L from Nat.succ_mul _ _] at g1
  have : kat L x y = (y + 1) * L + x + 1 := rfl
  omega
theorem k_root_of (hL : L = W + 2) (hX : kRx W H L (kblk W H L C A) R) (hR : kRf W H L M (kblk W H L C A) R) {x y : Nat} (hx : x < W) (hy : y < H) (hb : kblk W H L C A (kat L x y)) :
    ∃ x' y', x' < W ∧ y' < H ∧ R (y * W + x) = y' * W + x' + 1 ∧ R (y' * W + x') = y' * W + x' + 1 ∧ kblk W H L C A (kat L x' y') ∧ kcon L M (kblk W H L C A) (kat L x y) (kat L x' y') := by
  obtain ⟨-, x', y', h1, h2, h3, h4, h5⟩ := hR.2 x y hx hy hb
  exact ⟨x', y', h1, h2, h3, (kR_at hL hX hx h1 h5).symm.trans h3, h4, h5⟩
/-- as many parts by the first place as by the greatest -/
theorem kR_count (hM : M < 2 ^ 31) (hL : L = W + 2) (hML : M = L * (H + 2)) (hf : kLab L M (kblk W H L C A) f) (hR : kRf W H L M (kblk W H L C A) R) (hX : kRx W H L (kblk W H L C A) R) (u v : Nat → Bool)
    (hm : ∀ s x y, s < M → x < W → y < H → f s = nI s → f (kat L x y) = nI s → R (y * W + x) = y * W + x + 1 → u s = v (y * W + x)) :
    kct (fun q => decide (f q = nI q) && u q) M = kct (fun p => decide (R p = p + 1) && v p) (W * H) := by
  have hlt : ∀ {q : Nat}, kblk W H L C A q → q < M := fun h => by have := kblk_in hL hML h; omega
  have hspl : ∀ {p : Nat}, p < W * H → ∃ x y, x < W ∧ y < H ∧ p = y * W + x := fun {p} hp => by
    have hW : 0 < W := Nat.pos_of_ne_zero (fun e => by rw [e, Nat.zero_mul] at hp; exact absurd hp (Nat.not_lt_zero _))
    exact ⟨p % W, p / W, Nat.mod_lt _ hW, Nat.div_lt_of_lt_mul hp, by rw [Nat.mul_comm]; exact (Nat.div_add_mod p W).symm⟩
  apply Nat.le_antisymm
  · have key : ∀ q, q < M → (decide (f q = nI q) && u q) = true → ∃ x y x' y', x < W ∧ y < H ∧ q = kat L x y ∧ x' < W ∧ y' < H ∧ R (kdp W L q) = y' * W + x' + 1 ∧ R (y' * W + x') = y' * W + x' + 1 ∧ kcon L M (kblk W H L C A) q (kat L x' y') ∧ v (y' * W + x') = true := fun q hq h => by
      obtain ⟨h1, h2⟩ := Bool.and_eq_true_iff.mp h
      have h1 := of_decide_eq_true h1
      obtain ⟨x, y, hx, hy, rfl, hk⟩ := kL_black hf hq (by omega) h1
      have hb : kblk W H L C A (kat L x y) := ⟨x, y, hx, hy, rfl, hk⟩
      obtain ⟨x', y', g1, g2, g3, g4, g5, g6⟩ := k_root_of hL hX hR hx hy hb
      refine ⟨x, y, x', y', hx, hy, rfl, g1, g2, ?_, g4, g6, ?_⟩
      · rw [kdp_at hL hx]
        exact g3
      · rw [← hm _ x' y' hq g1 g2 h1 ((kL_conn hf g6).symm.trans h1) g4]
        exact h2
    refine kct_inj M _ _ (W * H) (fun q => R (kdp W L q) - 1) (fun q hq h => ?_) (fun q q2 hq hq2 h h2 e => ?_)
    · obtain ⟨x, y, x', y', hx, hy, -, g1, g2, g3, g4, g5, g6⟩ := key q hq h
      have e1 : R (kdp W L q) - 1 = y' * W + x' := by rw [g3]; rfl
      show R (kdp W L q) - 1 < W * H ∧ (decide (R (R (kdp W L q) - 1) = R (kdp W L q) - 1 + 1) && v (R (kdp W L q) - 1)) = true
      rw [e1]
      exact ⟨k_idx g1 g2, Bool.and_eq_true_iff.mpr ⟨decide_eq_true g4, g6⟩⟩
    · obtain ⟨x, y, x', y', hx, hy, -, g1, g2, g3, g4, g5, g6⟩ := key q hq h
      obtain ⟨a, b, a', b', ha, hb, -, i1, i2, i3, i4, i5, i6⟩ := key q2 hq2 h2
      have e : R (kdp W L q) - 1 = R (kdp W L q2) - 1 := e
      rw [g3, i3] at e
      obtain ⟨rfl, rfl⟩ := k_xy g1 i1 e
      have e2 := (kL_conn hf g5).trans (kL_conn hf i5).symm
      have r1 := of_decide_eq_true (Bool.and_eq_true_iff.mp h).1
      have r2 := of_decide_eq_true (Bool.and_eq_true_iff.mp h2).1
      exact (nI_eq (by omega) (by omega)).mp (r1.symm.trans (e2.trans r2))
  · have key : ∀ p, p < W * H → (decide (R p = p + 1) && v p) = true → ∃ x y s, x < W ∧ y < H ∧ p = y * W + x ∧ s < M ∧ f (kat L x y) = nI s ∧ f s = nI s ∧ u s = true ∧ kcon L M (kblk W H L C A) s (kat L x y) ∧ (f (kat L (p % W) (p / W))).toNatClampNeg = s := fun p hp h => by
      obtain ⟨x, y, hx, hy, rfl⟩ := hspl hp
      obtain ⟨h1, h2⟩ := Bool.and_eq_true_iff.mp h
      have h1 := of_decide_eq_true h1
      have hb := kR_black hR hx hy h1
      obtain ⟨s, s1, s2, s3, s4, s5⟩ := hf.2.1 _ (hlt hb) hb
      have hW : 0 < W := Nat.lt_of_le_of_lt (Nat.zero_le _) hx
      have m1 : (y * W + x) % W = x := by rw [Nat.mul_comm, Nat.mul_add_mod]; exact Nat.mod_eq_of_lt hx
      have m2 : (y * W + x) / W = y := by rw [Nat.mul_comm, Nat.mul_add_div hW, Nat.div_eq_of_lt hx]; rfl
      refine ⟨x, y, s, hx, hy, rfl, hlt s2, s3, s4, ?_, s5, ?_⟩
      · rw [hm s x y (hlt s2) hx hy s4 s3 h1]
        exact h2
      · rw [m1, m2, s3]
        exact nI_clamp (by have := hlt s2; omega)
    refine kct_inj (W * H) _ _ M (fun p => (f (kat L (p % W) (p / W))).toNatClampNeg) (fun p hp h => ?_) (fun p p2 hp hp2 h h2 e => ?_)
    · obtain ⟨x, y, s, hx, hy, -, g1, g2, g3, g4, g5, g6⟩ := key p hp h
      show (f (kat L (p % W) (p / W))).toNatClampNeg < M ∧ (decide (f (f (kat L (p % W) (p / W))).toNatClampNeg = nI (f (kat L (p % W) (p / W))).toNatClampNeg) && u (f (kat L (p % W) (p / W))).toNatClampNeg) = true
      rw [g6]
      exact ⟨g1, Bool.and_eq_true_iff.mpr ⟨decide_eq_true g3, g4⟩⟩
    · obtain ⟨x, y, s, hx, hy, e1, g1, g2, g3, g4, g5, g6⟩ := key p hp h
      obtain ⟨x', y', s', hx', hy', e2, i1, i2, i3, i4, i5, i6⟩ := key p2 hp2 h2
      have e : (f (kat L (p % W) (p / W))).toNatClampNeg = (f (kat L (p2 % W) (p2 / W))).toNatClampNeg := e
      rw [g6, i6] at e
      subst e
      have e3 : R (y * W + x) = R (y' * W + x') := kR_at hL hX hx hx' (kcon_trans (kcon_symm g5) i5)
      have r1 := of_decide_eq_true (Bool.and_eq_true_iff.mp h).1
      have r2 := of_decide_eq_true (Bool.and_eq_true_iff.mp h2).1
      rw [← e1, ← e2, r1, r2] at e3
      exact Nat.succ.inj e3
end KPARTS
/-- all of them hold: 1, else 0 -/
def kall (p : Nat → Bool) : Nat → Nat
  | 0 => 1
  | n + 1 => if kall p n = 1 ∧ p n = true then 1 else 0
theorem kall_01 (p : Nat → Bool) : ∀ n, kall p n = 0 ∨ kall p n = 1
  | 0 => Or.inr rfl
  | n + 1 => by
    show (if kall p n = 1 ∧ p n = true then 1 else 0) = 0 ∨ (if kall p n = 1 ∧ p n = true then 1 else 0) = 1
    split
    · exact Or.inr rfl
    · exact Or.inl rfl
theorem kall_iff (p : Nat → Bool) : ∀ n, kall p n = 1 ↔ ∀ k, k < n → p k = true
  | 0 => ⟨fun _ k hk => absurd hk (Nat.not_lt_zero k), fun _ => rfl⟩
  | n + 1 => by
    have ih := kall_iff p n
    show (if kall p n = 1 ∧ p n = true then 1 else 0) = 1 ↔ _
    constructor
    · intro h k hk
      by_cases hc : kall p n = 1 ∧ p n = true
      · rcases Nat.lt_succ_iff_lt_or_eq.mp hk with h1 | h1
        · exact ih.mp hc.1 k h1
        · rw [h1]
          exact hc.2
      · rw [if_neg hc] at h
        exact absurd h (by decide)
    · intro h
      exact if_pos ⟨ih.mpr (fun k hk => h k (Nat.lt_succ_of_lt hk)), h n (Nat.lt_succ_self n)⟩
/-- the part is one of just the same places in both -/
theorem kR_kept {W H L M C : Nat} {A A2 : Nat → Nat} {f f2 : Nat → Int32} {R R2 : Nat → Nat} (hM : M < 2 ^ 31) (hL : L = W + 2) (hML : M = L * (H + 2)) (hf : kLab L M (kblk W H L C A) f) (hR : kRf W H L M (kblk W H L C A) R) (hX : kRx W H L (kblk W H L C A) R)
    (hf2 : kLab L M (kblk W H L C A2) f2) (hR2 : kRf W H L M (kblk W H L C A2) R2) (hX2 : kRx W H L (kblk W H L C A2) R2) {t : Nat → Int32} (ht : ∀ j, j < M → t j = 0)
    (s x y : Nat) (hs : s < M) (hx : x < W) (hy : y < H) (es : f s = nI s) (e : f (kat L x y) = nI s) (eR : R (y * W + x) = y * W + x + 1) :
    decide (ktorn f f2 M t M s = 0) = decide (kall (fun q => decide (R q = y * W + x + 1 ↔ R2 q = y * W + x + 1)) (W * H) = 1) := by
  have hs31 : s < 2 ^ 31 := by omega
  have hlt : ∀ {D : Nat → Nat} {q : Nat}, kblk W H L C D q → q < M := fun h => by have := kblk_in hL hML h; omega
  have hspl : ∀ {p : Nat}, p < W * H → ∃ x y, x < W ∧ y < H ∧ p = y * W + x := fun {p} hp => by
    have hW : 0 < W := Nat.pos_of_ne_zero (fun e => by rw [e, Nat.zero_mul] at hp; exact absurd hp (Nat.not_lt_zero _))
    exact ⟨p % W, p / W, Nat.mod_lt _ hW, Nat.div_lt_of_lt_mul hp, by rw [Nat.mul_comm]; exact (Nat.div_add_mod p W).symm⟩
  have hT : ktorn f f2 M t M s = 0 ↔ ∀ q, q < M → (f q = nI s ↔ f2 q = nI s) := by
    have h := ktorn_spec (f := f) (f2 := f2) (M := M) ht M s hs
    constructor
    · intro h0 q hq
      have hn : ¬ ∃ q, q < M ∧ f q ≠ f2 q ∧ (f q = nI s ∨ f2 q = nI s) := fun hh => absurd h0 (h.mpr hh)
      by_cases he : f q = f2 q
      · rw [he]
      · exact ⟨fun h1 => absurd ⟨q, hq, he, Or.inl h1⟩ hn, fun h1 => absurd ⟨q, hq, he, Or.inr h1⟩ hn⟩
    · intro hq
      apply Decidable.byContradiction
      intro h0
      obtain ⟨q, h1, h2, h3⟩ := h.mp h0
      rcases h3 with h3 | h3
      · exact h2 (h3.trans ((hq q h1).mp h3).symm)
      · exact h2 (((hq q h1).mpr h3).trans h3.symm)
  have k1 := fun {x' y' : Nat} (hx' : x' < W) (hy' : y' < H) => kLR hM hL hML hf hR hX hx hy hs31 e eR hx' hy'
  apply decide_eq_decide.mpr
  rw [hT, kall_iff]
  constructor
  · intro hT p hp
    have e2 : f2 (kat L x y) = nI s := (hT _ (kat_lt hL hML hx hy)).mp e
    have hb2 := kL_black hf2 (kat_lt hL hML hx hy) hs31 e2
    obtain ⟨x2, y2, g1, g2, g3, g4, g5, g6⟩ := k_root_of hL hX2 hR2 hx hy hb2
    have e3 : f2 (kat L x2 y2) = nI s := (kL_conn hf2 g6).symm.trans e2
    have e4 := (k1 g1 g2).mp ((hT _ (kat_lt hL hML g1 g2)).mpr e3)
    have l1 := (hR.2 x2 y2 g1 g2 (kR_black hR g1 g2 e4)).1
    have l2 := (hR2.2 x y hx hy hb2).1
    have eR2 : R2 (y * W + x) = y * W + x + 1 := by omega
    obtain ⟨x', y', hx', hy', rfl⟩ := hspl hp
    have k2 := kLR hM hL hML hf2 hR2 hX2 hx hy hs31 e2 eR2 hx' hy'
    exact decide_eq_true (((k1 hx' hy').symm.trans (hT _ (kat_lt hL hML hx' hy'))).trans k2)
  · intro hV q hq
    have hV : ∀ p, p < W * H → (R p = y * W + x + 1 ↔ R2 p = y * W + x + 1) := fun p hp => of_decide_eq_true (hV p hp)
    have eR2 := (hV _ (k_idx hx hy)).mp eR
    have hb2 := kR_black hR2 hx hy eR2
    obtain ⟨s2, a1, a2, a3, a4, a5⟩ := hf2.2.1 _ (hlt hb2) hb2
    have hs2 : s2 < 2 ^ 31 := by have := hlt a2; omega
    have k2 := fun {x' y' : Nat} (hx' : x' < W) (hy' : y' < H) => kLR hM hL hML hf2 hR2 hX2 hx hy hs2 a3 eR2 hx' hy'
    have k12 : ∀ {x' y' : Nat}, x' < W → y' < H → (f (kat L x' y') = nI s ↔ f2 (kat L x' y') = nI s2) := fun hx' hy' => ((k1 hx' hy').trans (hV _ (k_idx hx' hy'))).trans (k2 hx' hy').symm
    have hss : s = s2 := by
      obtain ⟨xs, ys, b1, b2, b3, -⟩ := kL_black hf hs hs31 es
      obtain ⟨xt, yt, c1, c2, c3, -⟩ := a2
      have d1 : f2 s = nI s2 := by rw [b3] at es ⊢; rw [← b3] at es ⊢; have := (k12 b1 b2).mp (by show f ((ys + 1) * L + xs + 1) = nI s; rw [← b3]; exact es); rw [b3]; exact this
      have d2 : f s2 = nI s := by have := (k12 c1 c2).mpr (by show f2 ((yt + 1) * L + xt + 1) = nI s2; rw [← c3]; exact a4); rw [c3]; exact this
      have l1 := (kL_root hM hf2 hs hs2 d1).1
      have l2 := (kL_root hM hf (by have := kat_lt (x := xt) (y := yt) hL hML c1 c2; rw [c3]; exact this) hs31 d2).1
      omega
    subst hss
    constructor
    · intro h
      obtain ⟨xs, ys, b1, b2, rfl, -⟩ := kL_black hf hq hs31 h
      exact (k12 b1 b2).mp h
    · intro h
      obtain ⟨xs, ys, b1, b2, rfl, -⟩ := kL_black hf2 hq hs31 h
      exact (k12 b1 b2).mpr h
/-! a pass -/
theorem ksum_up {F : Nat → Nat} {p v : Nat} (hv : F p < v) : ∀ n, p < n → ksum F n < ksum (va_up F p v) n
  | 0, h => absurd h (Nat.not_lt_zero p)
  | n + 1, h => by
    show ksum F n + F n < ksum (va_up F p v) n + va_up F p v n
    by_cases e : p = n
    · subst e
      rw [va_up_eq, ksum_cong (f := va_up F p v) (g := F) (fun k hk => va_up_ne' _ _ (by omega))]
      omega
    · rw [va_up_ne' _ _ (by omega : n ≠ p)]
      have := ksum_up hv n (by omega)
      omega
theorem k_up_same {F : Nat → Nat} {p v : Nat} (h : F p = v) : va_up F p v = F := by
  funext j
  by_cases e : j = p
  · rw [e, va_up_eq, h]
  · exact va_up_ne' _ _ e
theorem k_jinc (n : Nat) : nI n - nI 1 + Int32.ofInt 1 = nI (n + 1) - nI 1 := by
  rw [← nI_add]
  show nI n - nI 1 + nI 1 = nI n + nI 1 - nI 1
  rw [Int32.sub_add_cancel, Int32.add_sub_cancel]
theorem k_jgt {y a : Nat} (hy : y < 1000) (ha : a < 1000) : nI (y + 1) < nI (y + a) - nI 1 ↔ 2 < a := by
  rw [Int32.lt_iff_toInt_lt, pk_sub_toInt (by omega) (by decide), nI_toInt (by omega)]
  omega
theorem k_kok {n W : Nat} (hn : n < 1000) (hW : W ≤ 24) (h : kok (nI n - nI 1) W) : 1 ≤ n ∧ n ≤ W := by
  obtain ⟨j, hj, e⟩ := h
  have e2 := congrArg Int32.toInt e
  rw [pk_sub_toInt (by omega) (by decide), nI_toInt (by omega)] at e2
  omega
theorem kadj_at {L x y x' y' a b : Nat} (ha : a ≤ 2) (hb : b ≤ 2) (ex : x' + 1 = x + b) (ey : y' + 1 = y + a) : kadj L (kat L x y) (kat L x' y') := by
  refine ⟨a, b, ha, hb, ?_⟩
  show (y' + 1) * L + x' + 1 + (L + 1) = (y + 1) * L + x + 1 + a * L + b
  have e1 : (y' + 1) * L + L = (y + 1) * L + a * L := by rw [← Nat.succ_mul, ← Nat.add_mul]; congr 1; omega
  omega
