/-! parts of black places: neighbours, what hangs together, labels -/
def kadj (L p q : Nat) : Prop := ∃ a b : Nat, a ≤ 2 ∧ b ≤ 2 ∧ q + (L + 1) = p + a * L + b
theorem kadj_symm {L p q : Nat} (h : kadj L p q) : kadj L q p := by
  obtain ⟨a, b, ha, hb, e⟩ := h
  refine ⟨2 - a, 2 - b, by omega, by omega, ?_⟩
  have ha' : a = 0 ∨ a = 1 ∨ a = 2 := by omega
  rcases ha' with rfl | rfl | rfl
  · rw [show (2 - 0) * L = 2 * L from rfl]
    omega
  · rw [show (2 - 1) * L = 1 * L from rfl]
    omega
  · rw [show (2 - 2) * L = 0 * L from rfl]
    omega
def kcon (L M : Nat) (B : Nat → Prop) (p q : Nat) : Prop := ∀ S : Nat → Prop, S p → (∀ x y, x < M → y < M → S x → B x → B y → kadj L x y → S y) → S q
theorem kcon_refl {L M : Nat} {B : Nat → Prop} (p : Nat) : kcon L M B p p := fun _ h _ => h
theorem kcon_trans {L M : Nat} {B : Nat → Prop} {p q r : Nat} (h1 : kcon L M B p q) (h2 : kcon L M B q r) : kcon L M B p r := fun S hp hs => h2 S (h1 S hp hs) hs
theorem kcon_step {L M : Nat} {B : Nat → Prop} {p x y : Nat} (h : kcon L M B p x) (hx : x < M) (hy : y < M) (bx : B x) (by_ : B y) (a : kadj L x y) : kcon L M B p y := fun S hp hs => hs x y hx hy (h S hp hs) bx by_ a
theorem kcon_symm {L M : Nat} {B : Nat → Prop} {p q : Nat} (h : kcon L M B p q) : kcon L M B q p := by
  refine h (fun x => kcon L M B x p) (kcon_refl p) ?_
  intro x y hx hy hs bx by_ a
  exact kcon_trans (kcon_step (kcon_refl y) hy hx by_ bx (kadj_symm a)) hs
theorem kcon_mono {L M : Nat} {B B' : Nat → Prop} (hB : ∀ x, x < M → B x → B' x) {p q : Nat} (h : kcon L M B p q) : kcon L M B' p q := by
  intro S hp hs
  exact h S hp (fun x y hx hy sx bx by_ a => hs x y hx hy sx (hB x hx bx) (hB y hy by_) a)
/-- what an invariant along neighbours says of all that hangs together -/
theorem kcon_inv {L M : Nat} {B : Nat → Prop} {α : Type} {f : Nat → α} (h : ∀ x y, x < M → y < M → B x → B y → kadj L x y → f x = f y) {p q : Nat} (hc : kcon L M B p q) : f p = f q := by
  refine hc (fun x => f p = f x) rfl ?_
  intro x y hx hy sx bx by_ a
  exact sx.trans (h x y hx hy bx by_ a)
/-! one place is joined -/
def kjf (M p s : Nat) (f : Nat → Int32) : Nat → Int32 := if p < M ∧ f p = -2 then va_up f p (nI s) else f
def kjQ (M p : Nat) (f : Nat → Int32) (Q : Nat → Nat) (qn : Nat) : Nat → Nat := if p < M ∧ f p = -2 then va_up Q qn p else Q
def kjn (M p : Nat) (f : Nat → Int32) (qn : Nat) : Nat := if p < M ∧ f p = -2 then qn + 1 else qn
theorem k_nI_ne_m2 {s : Nat} (hs : s < 2 ^ 31) : nI s ≠ -2 := by
  intro h
  have h1 := nI_toInt hs
  rw [h, show (-2 : Int32).toInt = -2 from by decide] at h1
  omega
theorem k_nI_ne_m1 {s : Nat} (hs : s < 2 ^ 31) : nI s ≠ -1 := by
  intro h
  have h1 := nI_toInt hs
  rw [h, show (-1 : Int32).toInt = -1 from by decide] at h1
  omega
theorem kct_up {p : Nat → Bool} {m : Nat} (h : p m = true) : ∀ n, m < n → kct (fun k => if k = m then false else p k) n + 1 = kct p n
  | 0, hn => absurd hn (Nat.not_lt_zero m)
  | n + 1, hn => by
    rw [kct, kct]
    by_cases e : m = n
    · subst e
      rw [if_pos rfl, h]
      rw [kct_cong (p := fun k => if k = m then false else p k) (q := p) (fun k hk => if_neg (by omega))]
      rfl
    · have ih := kct_up h n (by omega)
      rw [show (if n = m then false else p n) = p n from if_neg (fun e2 => e e2.symm)]
      omega
/-- as many as go one to one into others -/
theorem kct_inj : ∀ (n : Nat) (p q : Nat → Bool) (m : Nat) (g : Nat → Nat), (∀ i, i < n → p i = true → g i < m ∧ q (g i) = true) → (∀ i j, i < n → j < n → p i = true → p j = true → g i = g j → i = j) → kct p n ≤ kct q m
  | 0, _, _, _, _, _, _ => Nat.zero_le _
  | n + 1, p, q, m, g, h1, h2 => by
    rw [kct]
    cases hp : p n with
    | false =>
      have := kct_inj n p q m g (fun i hi => h1 i (by omega)) (fun i j hi hj => h2 i j (by omega) (by omega))
      simpa using this
    | true =>
      obtain ⟨a, b⟩ := h1 n (by omega) hp
      have ih := kct_inj n p (fun k => if k = g n then false else q k) m g
        (fun i hi hpi => ⟨(h1 i (by omega) hpi).1, by
          show (if g i = g n then false else q (g i)) = true
          rw [if_neg (fun e => absurd (h2 i n (by omega) (by omega) hpi hp e) (by omega))]
          exact (h1 i (by omega) hpi).2⟩)
        (fun i j hi hj => h2 i j (by omega) (by omega))
      have e := kct_up b m a
      simp only [if_true]
      omega
theorem kct_true (n : Nat) : kct (fun _ => true) n = n := by
  induction n with
  | zero => rfl
  | succ n ih => rw [kct, ih]; rfl
/-- n different naturals below m: n is m at most -/
theorem k_holes {n m : Nat} {g : Nat → Nat} (h : ∀ i, i < n → g i < m) (h2 : ∀ i j, i < n → j < n → g i = g j → i = j) : n ≤ m := by
  have := kct_inj n (fun _ => true) (fun _ => true) m g (fun i hi _ => ⟨h i hi, rfl⟩) (fun i j hi hj _ _ => h2 i j hi hj)
  rwa [kct_true, kct_true] at this
/-- the spreading from s, with i places looked round -/
def kInv (L M s : Nat) (f0 f : Nat → Int32) (Q : Nat → Nat) (qn i : Nat) : Prop :=
  (∀ p, p < M → f p = f0 p ∨ (f0 p = -2 ∧ f p = nI s ∧ kcon L M (fun x => f0 x = -2) s p)) ∧
  (∀ k, k < qn → Q k < M ∧ f0 (Q k) = -2 ∧ f (Q k) = nI s) ∧
  (∀ k k', k < qn → k' < qn → Q k = Q k' → k = k') ∧
  (∀ p, p < M → f0 p = -2 → f p ≠ -2 → ∃ k, k < qn ∧ Q k = p) ∧
  (∀ k, k < i → k < qn → ∀ q, q < M → kadj L (Q k) q → f q ≠ -2) ∧ f s = nI s
theorem kInv_cap {L M s P : Nat} {f0 f : Nat → Int32} {Q : Nat → Nat} {qn i : Nat} (hs : s < 2 ^ 31) (d : Nat → Nat) (hd : ∀ p, p < M → f0 p = -2 → d p < P) (hdi : ∀ p q, p < M → q < M → f0 p = -2 → f0 q = -2 → d p = d q → p = q) (h : kInv L M s f0 f Q qn i) : qn ≤ P ∧ ∀ p, p < M → f p = -2 → qn < P := by
  obtain ⟨h1, h2, h3, h4, h5, h6⟩ := h
  refine ⟨k_holes (g := fun k => d (Q k)) (fun k hk => hd _ (h2 k hk).1 (h2 k hk).2.1) (fun k k' hk hk' e => h3 k k' hk hk' (hdi _ _ (h2 k hk).1 (h2 k' hk').1 (h2 k hk).2.1 (h2 k' hk').2.1 e)), ?_⟩
  intro p hp hf
  have hf0 : f0 p = -2 := by
    rcases h1 p hp with e | e
    · rw [← e]; exact hf
    · exact e.1
  have hne : ∀ k, k < qn → Q k ≠ p := fun k hk e => by
    have := (h2 k hk).2.2
    rw [e, hf] at this
    exact k_nI_ne_m2 hs this.symm
  have := k_holes (n := qn + 1) (m := P) (g := fun k => if k = qn then d p else d (Q k))
    (fun k hk => by
      show (if k = qn then d p else d (Q k)) < P
      by_cases e : k = qn
      · rw [if_pos e]; exact hd p hp hf0
      · rw [if_neg e]; exact hd _ (h2 k (by omega)).1 (h2 k (by omega)).2.1)
    (fun k k' hk hk' e => by
      replace e : (if k = qn then d p else d (Q k)) = (if k' = qn then d p else d (Q k')) := e
      by_cases e1 : k = qn <;> by_cases e2 : k' = qn
      · omega
      · rw [if_pos e1, if_neg e2] at e
        exact absurd (hdi _ _ hp (h2 k' (by omega)).1 hf0 (h2 k' (by omega)).2.1 e).symm (hne k' (by omega))
      · rw [if_neg e1, if_pos e2] at e
        exact absurd (hdi _ _ (h2 k (by omega)).1 hp (h2 k (by omega)).2.1 hf0 e) (hne k (by omega))
      · rw [if_neg e1, if_neg e2] at e
        exact h3 k k' (by omega) (by omega) (hdi _ _ (h2 k (by omega)).1 (h2 k' (by omega)).1 (h2 k (by omega)).2.1 (h2 k' (by omega)).2.1 e))
  omega
theorem kInv_join {L M s p : Nat} {f0 f : Nat → Int32} {Q : Nat → Nat} {qn i : Nat} (hs : s < 2 ^ 31) (h : kInv L M s f0 f Q qn i) (hi : i < qn) (ha : p < M → kadj L (Q i) p) :
    kInv L M s f0 (kjf M p s f) (kjQ M p f Q qn) (kjn M p f qn) i ∧ (p < M → kjf M p s f p ≠ -2) ∧ (∀ x, f x ≠ -2 → kjf M p s f x ≠ -2) ∧ i < kjn M p f qn ∧ kjQ M p f Q qn i = Q i := by
  unfold kjf kjQ kjn
  by_cases c : p < M ∧ f p = -2
  · rw [if_pos c, if_pos c, if_pos c]
    obtain ⟨hp, hf⟩ := c
    obtain ⟨h1, h2, h3, h4, h5, h6⟩ := h
    have hf0 : f0 p = -2 := by
      rcases h1 p hp with e | e
      · rw [← e]; exact hf
      · exact e.1
    have hne : ∀ k, k < qn → Q k ≠ p := fun k hk e => by
      have := (h2 k hk).2.2
      rw [e, hf] at this
      exact k_nI_ne_m2 hs this.symm
    have hQ : ∀ k, k < qn → va_up Q qn p k = Q k := fun k hk => va_up_ne' Q p (by omega)
    have hc : kcon L M (fun x => f0 x = -2) s p := by
      have hQi := h2 i hi
      rcases h1 (Q i) hQi.1 with e | e
      · rw [hQi.2.1, hQi.2.2] at e
        exact absurd e (k_nI_ne_m2 hs)
      · exact kcon_step e.2.2 hQi.1 hp hQi.2.1 hf0 (ha hp)
    have keep : ∀ x, f x ≠ -2 → va_up f p (nI s) x ≠ -2 := fun x hx => by
      by_cases e : x = p
      · subst e; exact absurd hf hx
      · rw [va_up_ne' f _ e]; exact hx
    refine ⟨⟨?_, ?_, ?_, ?_, ?_, ?_⟩, ?_, keep, by omega, hQ i hi⟩
    · intro x hx
      by_cases e : x = p
      · subst e
        exact Or.inr ⟨hf0, va_up_eq f x _, hc⟩
      · rw [va_up_ne' f _ e]
        exact h1 x hx
    · intro k hk
      by_cases e : k = qn
      · subst e
        rw [va_up_eq]
        exact ⟨hp, hf0, va_up_eq f p _⟩
      · rw [hQ k (by omega), va_up_ne' f _ (hne k (by omega))]
        exact h2 k (by omega)
    · intro k k' hk hk' e
      by_cases e1 : k = qn <;> by_cases e2 : k' = qn
      · omega
      · subst e1
        rw [va_up_eq, hQ k' (by omega)] at e
        exact absurd e.symm (hne k' (by omega))
      · subst e2
        rw [va_up_eq, hQ k (by omega)] at e
        exact absurd e (hne k (by omega))
      · rw [hQ k (by omega), hQ k' (by omega)] at e
        exact h3 k k' (by omega) (by omega) e
    · intro x hx hx0 hxf
      by_cases e : x = p
      · subst e
        exact ⟨qn, by omega, va_up_eq Q qn x⟩
      · rw [va_up_ne' f _ e] at hxf
        obtain ⟨k, hk, e2⟩ := h4 x hx hx0 hxf
        exact ⟨k, by omega, by rw [hQ k hk]; exact e2⟩
    · intro k hk hk2 q hq hadj
      rw [hQ k (by omega)] at hadj
      exact keep q (h5 k hk (by omega) q hq hadj)
    · by_cases e : s = p
      · subst e; exact va_up_eq f s _
      · rw [va_up_ne' f _ e]; exact h6
    · intro _
      rw [va_up_eq]
      exact k_nI_ne_m2 hs
  · rw [if_neg c, if_neg c, if_neg c]
    exact ⟨h, fun hp hf => c ⟨hp, hf⟩, fun x hx => hx, hi, rfl⟩
theorem kInv_start {L M s : Nat} {f0 : Nat → Int32} (hs : s < 2 ^ 31) (hsM : s < M) (hf : f0 s = -2) (Q : Nat → Nat) : kInv L M s f0 (kjf M s s f0) (kjQ M s f0 Q 0) (kjn M s f0 0) 0 := by
  unfold kjf kjQ kjn
  rw [if_pos ⟨hsM, hf⟩, if_pos ⟨hsM, hf⟩, if_pos ⟨hsM, hf⟩]
  refine ⟨?_, ?_, ?_, ?_, ?_, va_up_eq f0 s _⟩
  · intro p hp
    by_cases e : p = s
    · subst e; exact Or.inr ⟨hf, va_up_eq f0 p _, kcon_refl p⟩
    · rw [va_up_ne' f0 _ e]; exact Or.inl rfl
  · intro k hk
    have e : k = 0 := by omega
    subst e
    rw [va_up_eq]
    exact ⟨hsM, hf, va_up_eq f0 s _⟩
  · intro k k' hk hk' _
    omega
  · intro p hp hp0 hpf
    by_cases e : p = s
    · subst e; exact ⟨0, by omega, va_up_eq Q 0 p⟩
    · rw [va_up_ne' f0 _ e] at hpf
      exact absurd hp0 hpf
  · intro k hk
    omega
/-- what a spreading leaves -/
def kSpread (L M s : Nat) (f0 f : Nat → Int32) : Prop :=
  (∀ p, p < M → f p = f0 p ∨ (f0 p = -2 ∧ f p = nI s ∧ kcon L M (fun x => f0 x = -2) s p)) ∧ f s = nI s ∧
  (∀ p q, p < M → q < M → f0 p = -2 → f p ≠ -2 → kadj L p q → f q ≠ -2)
theorem kInv_end {L M s : Nat} {f0 f : Nat → Int32} {Q : Nat → Nat} {qn i : Nat} (h : kInv L M s f0 f Q qn i) (hi : qn ≤ i) : kSpread L M s f0 f := by
  obtain ⟨h1, h2, h3, h4, h5, h6⟩ := h
  refine ⟨h1, h6, ?_⟩
  intro p q hp hq hp0 hpf ha
  obtain ⟨k, hk, e⟩ := h4 p hp hp0 hpf
  subst e
  exact h5 k (by omega) hk q hq ha
/-- the labels, with all places below k labelled -/
def kFind (L M : Nat) (B : Nat → Prop) (f : Nat → Int32) (k : Nat) : Prop :=
  (∀ p, p < M → ¬ B p → f p = -1) ∧
  (∀ p, p < M → B p → f p = -2 ∨ ∃ s, s ≤ p ∧ B s ∧ f p = nI s ∧ f s = nI s ∧ kcon L M B s p) ∧
  (∀ p q, p < M → q < M → B p → B q → kadj L p q → f p ≠ -2 → f q = f p) ∧
  (∀ p, p < k → p < M → B p → f p ≠ -2)
theorem kFind_spread {L M k : Nat} {B : Nat → Prop} {f f' : Nat → Int32} (hM : M < 2 ^ 31) (h : kFind L M B f k) (hk : k < M) (hf : f k = -2) (hs : kSpread L M k f f') : kFind L M B f' (k + 1) := by
  obtain ⟨h1, h2, h3, h4⟩ := h
  obtain ⟨s1, s2, s3⟩ := hs
  have hopen : ∀ x, x < M → f x = -2 → B x := by
    intro x hx e
    apply Classical.byContradiction
    intro hb
    rw [h1 x hx hb] at e
    exact absurd e (by decide)
  have hBk := hopen k hk hf
  have hne : nI k ≠ (-2 : Int32) := k_nI_ne_m2 (by omega)
  have old : ∀ x, x < M → f x ≠ -2 → f' x = f x := by
    intro x hx hx2
    rcases s1 x hx with e | e
    · exact e
    · exact absurd e.1 hx2
  refine ⟨?_, ?_, ?_, ?_⟩
  · intro p hp hb
    rw [old p hp (by rw [h1 p hp hb]; decide)]
    exact h1 p hp hb
  · intro p hp hb
    rcases s1 p hp with e | ⟨e0, e1, e2⟩
    · rcases h2 p hp hb with g | ⟨s, g1, g2, g3, g4, g5⟩
      · exact Or.inl (by rw [e]; exact g)
      · refine Or.inr ⟨s, g1, g2, by rw [e]; exact g3, ?_, g5⟩
        rw [old s (by omega) (by rw [g4]; exact k_nI_ne_m2 (by omega))]
        exact g4
    · refine Or.inr ⟨k, ?_, hBk, e1, s2, kcon_mono (fun x hx e => hopen x hx e) e2⟩
      apply Nat.le_of_not_lt
      intro hlt
      exact h4 p hlt hp hb e0
  · intro p q hp hq bp bq ha hpf
    rcases s1 p hp with e | ⟨e0, e1, e2⟩
    · have hp2 : f p ≠ -2 := by rw [← e]; exact hpf
      have g := h3 p q hp hq bp bq ha hp2
      rw [e, old q hq (by rw [g]; exact hp2)]
      exact g
    · have hq2 := s3 p q hp hq e0 hpf ha
      rcases s1 q hq with e3 | ⟨e3, e4, -⟩
      · have hq3 : f q ≠ -2 := by rw [← e3]; exact hq2
        have g := h3 q p hq hp bq bp (kadj_symm ha) hq3
        rw [e0] at g
        exact absurd g.symm hq3
      · rw [e4, e1]
  · intro p hp hpM hb
    by_cases e : p = k
    · subst e
      rw [s2]
      exact hne
    · have g := h4 p (by omega) hpM hb
      rw [old p hpM g]
      exact g
theorem kFind_skip {L M k : Nat} {B : Nat → Prop} {f : Nat → Int32} (h : kFind L M B f k) (hf : f k ≠ -2) : kFind L M B f (k + 1) := by
  obtain ⟨h1, h2, h3, h4⟩ := h
  refine ⟨h1, h2, h3, ?_⟩
  intro p hp hpM hb
  by_cases e : p = k
  · subst e; exact hf
  · exact h4 p (by omega) hpM hb
/-- all labelled: each black place by the first place of its part -/
def kLab (L M : Nat) (B : Nat → Prop) (f : Nat → Int32) : Prop :=
  (∀ p, p < M → ¬ B p → f p = -1) ∧
  (∀ p, p < M → B p → ∃ s, s ≤ p ∧ B s ∧ f p = nI s ∧ f s = nI s ∧ kcon L M B s p) ∧
  (∀ p q, p < M → q < M → B p → B q → kadj L p q → f q = f p)
theorem kFind_end {L M : Nat} {B : Nat → Prop} {f : Nat → Int32} (h : kFind L M B f M) : kLab L M B f := by
  obtain ⟨h1, h2, h3, h4⟩ := h
  refine ⟨h1, ?_, ?_⟩
  · intro p hp hb
    rcases h2 p hp hb with e | e
    · exact absurd e (h4 p hp hp hb)
    · exact e
  · intro p q hp hq bp bq ha
    exact h3 p q hp hq bp bq ha (h4 p hp hp bp)
/-- black places open, all others none: the start -/
theorem kFind_0 {L M : Nat} {B : Nat → Prop} {f : Nat → Int32} (h1 : ∀ p, p < M → ¬ B p → f p = -1) (h2 : ∀ p, p < M → B p → f p = -2) : kFind L M B f 0 :=
  ⟨h1, fun p hp hb => Or.inl (h2 p hp hb), fun p q hp hq bp _ _ hf => absurd (h2 p hp bp) hf, fun p hp => absurd hp (Nat.not_lt_zero p)⟩
theorem k_mid0 {p L : Nat} (h : L ≤ p) : nI p + -1 * nI L = nI (p - L) := by
  rw [Int32.neg_mul, Int32.one_mul, ← Int32.sub_eq_add_neg, pk_sub h]
theorem k_mid1 (p L : Nat) : nI (p + 0 * L) = nI p := by rw [Nat.zero_mul, Nat.add_zero]
theorem k_mid2 (p L : Nat) : nI (p + 1 * L) = nI (p + L) := by rw [Nat.one_mul]
/-- a black place, numbered with the margin -/
def kblk (W H L C : Nat) (A : Nat → Nat) (q : Nat) : Prop := ∃ x y : Nat, x < W ∧ y < H ∧ q = (y + 1) * L + x + 1 ∧ kg C A (y * W + x) < 128
def kOpr (W L M C : Nat) (A : Nat → Nat) (y : Nat) (g : Nat → Int32) : Prop := (∀ q, q < M → kblk W y L C A q → g q = -2) ∧ (∀ q, q < M → ¬ kblk W y L C A q → g q = -1)
def kblx (W L C : Nat) (A : Nat → Nat) (y x : Nat) (q : Nat) : Prop := kblk W y L C A q ∨ ∃ z : Nat, z < x ∧ q = (y + 1) * L + z + 1 ∧ kg C A (y * W + z) < 128
def kOpn (W L M C : Nat) (A : Nat → Nat) (y x : Nat) (g : Nat → Int32) : Prop := (∀ q, q < M → kblx W L C A y x q → g q = -2) ∧ (∀ q, q < M → ¬ kblx W L C A y x q → g q = -1)
theorem kOpr_0 {W L M C : Nat} {A : Nat → Nat} {g : Nat → Int32} (h : ∀ q, q < M → g q = -1) : kOpr W L M C A 0 g :=
  ⟨fun q _ hb => (by obtain ⟨x, y, -, hy, -⟩ := hb; exact absurd hy (Nat.not_lt_zero y)), fun q hq _ => h q hq⟩
theorem kblx_0 {W L C : Nat} {A : Nat → Nat} {y q : Nat} : kblx W L C A y 0 q ↔ kblk W y L C A q :=
  ⟨fun h => h.elim id (fun ⟨z, hz, _⟩ => absurd hz (Nat.not_lt_zero z)), Or.inl⟩
theorem kOpn_start {W L M C : Nat} {A : Nat → Nat} {y : Nat} {g : Nat → Int32} (h : kOpr W L M C A y g) : kOpn W L M C A y 0 g :=
  ⟨fun q hq hb => h.1 q hq (kblx_0.mp hb), fun q hq hb => h.2 q hq (fun e => hb (kblx_0.mpr e))⟩
theorem kblx_W {W L C : Nat} {A : Nat → Nat} {y q : Nat} : kblx W L C A y W q ↔ kblk W (y + 1) L C A q := by
  constructor
  · rintro (⟨x, y', h1, h2, h3, h4⟩ | ⟨z, h1, h2, h3⟩)
    · exact ⟨x, y', h1, by omega, h3, h4⟩
    · exact ⟨z, y, h1, by omega, h2, h3⟩
  · rintro ⟨x, y', h1, h2, h3, h4⟩
    by_cases e : y' = y
    · subst e
      exact Or.inr ⟨x, h1, h3, h4⟩
    · exact Or.inl ⟨x, y', h1, by omega, h3, h4⟩
theorem kblk_row {W L M C : Nat} {A : Nat → Nat} {y : Nat} {g : Nat → Int32} (h : kOpn W L M C A y W g) : kOpr W L M C A (y + 1) g :=
  ⟨fun q hq hb => h.1 q hq (kblx_W.mpr hb), fun q hq hb => h.2 q hq (fun e => hb (kblx_W.mp e))⟩
theorem kblk_white {W L M C : Nat} {A : Nat → Nat} {y x : Nat} {g : Nat → Int32} (h : kOpn W L M C A y x g) (hk : 128 ≤ kg C A (y * W + x)) : kOpn W L M C A y (x + 1) g := by
  have e : ∀ q, kblx W L C A y (x + 1) q ↔ kblx W L C A y x q := by
    intro q
    constructor
    · rintro (h | ⟨z, h1, h2, h3⟩)
      · exact Or.inl h
      · by_cases e : z = x
        · subst e; omega
        · exact Or.inr ⟨z, by omega, h2, h3⟩
    · rintro (h | ⟨z, h1, h2, h3⟩)
      · exact Or.inl h
      · exact Or.inr ⟨z, by omega, h2, h3⟩
  exact ⟨fun q hq hb => h.1 q hq ((e q).mp hb), fun q hq hb => h.2 q hq (fun z => hb ((e q).mpr z))⟩
theorem kblk_black {W L M C : Nat} {A : Nat → Nat} {y x : Nat} {g : Nat → Int32} (h : kOpn W L M C A y x g) (hk : kg C A (y * W + x) < 128) : kOpn W L M C A y (x + 1) (va_up g ((y + 1) * L + x + 1) (-2)) := by
  refine ⟨fun q hq hb => ?_, fun q hq hb => ?_⟩
  · by_cases e : q = (y + 1) * L + x + 1
    · rw [e, va_up_eq]
    · rw [va_up_ne' g _ e]
      refine h.1 q hq ?_
      rcases hb with h1 | ⟨z, h1, h2, h3⟩
      · exact Or.inl h1
      · by_cases e2 : z = x
        · subst e2; exact absurd h2 e
        · exact Or.inr ⟨z, by omega, h2, h3⟩
  · by_cases e : q = (y + 1) * L + x + 1
    · exact absurd (Or.inr ⟨x, by omega, e, hk⟩) hb
    · rw [va_up_ne' g _ e]
      refine h.2 q hq (fun hb2 => hb ?_)
      rcases hb2 with h1 | ⟨z, h1, h2, h3⟩
      · exact Or.inl h1
      · exact Or.inr ⟨z, by omega, h2, h3⟩
theorem kblk_in {W H L M C : Nat} {A : Nat → Nat} {q : Nat} (hL : L = W + 2) (hM : M = L * (H + 2)) (h : kblk W H L C A q) : L + 1 ≤ q ∧ q + L + 1 < M := by
  obtain ⟨x, y, hx, hy, e, -⟩ := h
  have h1 : 1 * L ≤ (y + 1) * L := Nat.mul_le_mul_right L (by omega)
  have h2 : (y + 3) * L ≤ (H + 2) * L := Nat.mul_le_mul_right L (by omega)
  rw [Nat.one_mul] at h1
  rw [show (y + 3) * L = (y + 1) * L + 2 * L from by rw [← Nat.add_mul], Nat.mul_comm (H + 2) L, ← hM] at h2
  omega
/-- the plain number of a place that is numbered with the margin -/
def kdp (W L q : Nat) : Nat := (q / L - 1) * W + (q % L - 1)
theorem kdp_at {W L x y : Nat} (hL : L = W + 2) (hx : x < W) : kdp W L ((y + 1) * L + x + 1) = y * W + x := by
  unfold kdp
  have h0 : 0 < L := by omega
  have e1 : ((y + 1) * L + x + 1) / L = y + 1 := by
    rw [Nat.add_assoc, Nat.mul_comm, Nat.mul_add_div h0, Nat.div_eq_of_lt (by omega), Nat.add_zero]
  have e2 : ((y + 1) * L + x + 1) % L = x + 1 := by
    rw [Nat.add_assoc, Nat.mul_comm, Nat.mul_add_mod, Nat.mod_eq_of_lt (by omega)]
  rw [e1, e2, Nat.add_sub_cancel, Nat.add_sub_cancel]
theorem kdp_lt {W H L C : Nat} {A : Nat → Nat} {q : Nat} (hL : L = W + 2) (h : kblk W H L C A q) : kdp W L q < W * H := by
  obtain ⟨x, y, hx, hy, e, -⟩ := h
  rw [e, kdp_at hL hx]
  exact k_idx hx hy
theorem k_xy {W x y x' y' : Nat} (hx : x < W) (hx' : x' < W) (e : y * W + x = y' * W + x') : x = x' ∧ y = y' := by
  have h0 : 0 < W := by omega
  have a : (y * W + x) / W = y := by rw [Nat.mul_comm, Nat.mul_add_div h0, Nat.div_eq_of_lt hx, Nat.add_zero]
  have b : (y' * W + x') / W = y' := by rw [Nat.mul_comm, Nat.mul_add_div h0, Nat.div_eq_of_lt hx', Nat.add_zero]
  have c : y = y' := by rw [← a, ← b, e]
  subst c
  exact ⟨by omega, rfl⟩
theorem kdp_inj {W H L C : Nat} {A : Nat → Nat} {q q' : Nat} (hL : L = W + 2) (h : kblk W H L C A q) (h' : kblk W H L C A q') (e : kdp W L q = kdp W L q') : q = q' := by
  obtain ⟨x, y, hx, hy, e1, -⟩ := h
  obtain ⟨x', y', hx', hy', e2, -⟩ := h'
  rw [e1, e2, kdp_at hL hx, kdp_at hL hx'] at e
  obtain ⟨a, b⟩ := k_xy hx hx' e
  rw [e1, e2, a, b]
/-! torn parts -/
def ktear (M : Nat) (v : Int32) (t : Nat → Int32) : Nat → Int32 := fun j => if j < M ∧ v = nI j then 1 else t j
theorem ktear_at {M s : Nat} (hs : s < M) (hM : M < 2 ^ 31) (t : Nat → Int32) : va_up t s 1 = ktear M (nI s) t := by
  funext j
  unfold va_up ktear
  by_cases e : j = s
  · subst e
    rw [if_pos rfl, if_pos ⟨hs, rfl⟩]
  · rw [if_neg e, if_neg (fun h => e ((nI_eq (by omega) (by omega)).mp h.2).symm)]
theorem ktear_no {M : Nat} {v : Int32} (hM : M < 2 ^ 31) (h : v < 0 ∨ nI M ≤ v) (t : Nat → Int32) : t = ktear M v t := by
  funext j
  unfold ktear
  rw [if_neg]
  rintro ⟨h1, rfl⟩
  rcases h with h | h
  · exact nI_pos (by omega) h
  · exact absurd ((nI_leI hM (by omega)).mp h) (by omega)
def ktorn (f f2 : Nat → Int32) (M : Nat) (t : Nat → Int32) : Nat → Nat → Int32
  | 0 => t
  | i + 1 => if f i = f2 i then ktorn f f2 M t i else ktear M (f2 i) (ktear M (f i) (ktorn f f2 M t i))
theorem ktorn_spec {f f2 : Nat → Int32} {M : Nat} {t : Nat → Int32} (h0 : ∀ j, j < M → t j = 0) : ∀ i j, j < M → (ktorn f f2 M t i j ≠ 0 ↔ ∃ q, q < i ∧ f q ≠ f2 q ∧ (f q = nI j ∨ f2 q = nI j))
  | 0, j, hj => ⟨fun h => absurd (h0 j hj) h, fun ⟨q, hq, _⟩ => absurd hq (Nat.not_lt_zero q)⟩
  | i + 1, j, hj => by
    have ih := ktorn_spec (f := f) (f2 := f2) h0 i j hj
    rw [ktorn]
    by_cases e : f i = f2 i
    · rw [if_pos e, ih]
      constructor
      · rintro ⟨q, h1, h2, h3⟩
        exact ⟨q, by omega, h2, h3⟩
      · rintro ⟨q, h1, h2, h3⟩
        by_cases e2 : q = i
        · subst e2; exact absurd e h2
        · exact ⟨q, by omega, h2, h3⟩
    · rw [if_neg e]
      unfold ktear
      by_cases c2 : f2 i = nI j
      · rw [if_pos ⟨hj, c2⟩]
        exact ⟨fun _ => ⟨i, by omega, e, Or.inr c2⟩, fun _ => by decide⟩
      · rw [if_neg (fun h => c2 h.2)]
        by_cases c1 : f i = nI j
        · rw [if_pos ⟨hj, c1⟩]
          exact ⟨fun _ => ⟨i, by omega, e, Or.inl c1⟩, fun _ => by decide⟩
        · rw [if_neg (fun h => c1 h.2), ih]
          constructor
          · rintro ⟨q, h1, h2, h3⟩
            exact ⟨q, by omega, h2, h3⟩
          · rintro ⟨q, h1, h2, h3⟩
            by_cases e2 : q = i
            · subst e2
              rcases h3 with h3 | h3
              · exact absurd h3 c1
              · exact absurd h3 c2
            · exact ⟨q, by omega, h2, h3⟩
