/-! the other one: samples by place and three channels, against samples one behind the other -/
def krel (C P : Nat) (O A : Nat → Nat) : Prop := (∀ p c, p < P → c < C → O (3 * p + c) = A (p * C + c)) ∧ (∀ p c, p < P → C ≤ c → c < 3 → O (3 * p + c) = 0)
theorem krel_up {C P p c v : Nat} {O A : Nat → Nat} (h : krel C P O A) (hp : p < P) (hc : c < C) (h3 : C ≤ 3) : krel C P (va_up O (3 * p + c) v) (va_up A (p * C + c) v) := by
  refine ⟨fun p' c' hp' hc' => ?_, fun p' c' hp' hc' hc3 => ?_⟩
  · by_cases e : 3 * p' + c' = 3 * p + c
    · have e1 : p' = p := by omega
      have e2 : c' = c := by omega
      rw [e1, e2, va_up_eq, va_up_eq]
    · rw [va_up_ne' _ _ e, va_up_ne' _ _ (fun z => e (by obtain ⟨z1, z2⟩ := k_xy hc' hc z; rw [z1, z2])), h.1 p' c' hp' hc']
  · rw [va_up_ne' _ _ (by omega), h.2 p' c' hp' hc' hc3]
theorem krel_g1 {P p : Nat} {O A : Nat → Nat} (h : krel 1 P O A) (hp : p < P) : O (3 * p) = kg 1 A p := by
  show _ = if 1 = 1 then A (p * 1) else _
  rw [if_pos rfl]
  exact h.1 p 0 hp (by decide)
theorem krel_g2 {P p : Nat} {O A : Nat → Nat} (h : krel 2 P O A) (hp : p < P) : (O (3 * p) + O (3 * p + 1) + 1) / 2 = kg 2 A p := by
  show _ = if 2 = 1 then _ else if 2 = 2 then (A (p * 2) + A (p * 2 + 1) + 1) / 2 else _
  rw [if_neg (by decide), if_pos rfl, ← h.1 p 1 hp (by decide)]
  exact congrArg (fun z => (z + O (3 * p + 1) + 1) / 2) (h.1 p 0 hp (by decide))
theorem krel_g3 {P p : Nat} {O A : Nat → Nat} (h : krel 3 P O A) (hp : p < P) : (O (3 * p) + 2 * O (3 * p + 1) + O (3 * p + 2) + 2) / 4 = kg 3 A p := by
  show _ = if 3 = 1 then _ else if 3 = 2 then _ else (A (p * 3) + 2 * A (p * 3 + 1) + A (p * 3 + 2) + 2) / 4
  rw [if_neg (by decide), if_neg (by decide), ← h.1 p 1 hp (by decide), ← h.1 p 2 hp (by decide)]
  exact congrArg (fun z => (z + 2 * O (3 * p + 1) + O (3 * p + 2) + 2) / 4) (h.1 p 0 hp (by decide))
theorem k_C {C : Nat} (h1 : 1 ≤ C) (h3 : C ≤ 3) : C = 1 ∨ C = 2 ∨ C = 3 := by omega
theorem kct_3 {C : Nat} (h1 : 1 ≤ C) (h3 : C ≤ 3) {p q : Nat → Bool} : ∀ P : Nat, (∀ x c, x < P → c < C → p (3 * x + c) = q (x * C + c)) → (∀ x c, x < P → C ≤ c → c < 3 → p (3 * x + c) = false) → kct p (3 * P) = kct q (P * C)
  | 0, _, _ => by rw [Nat.zero_mul]; rfl
  | P + 1, ha, hb => by
    have ih := kct_3 h1 h3 P (fun x c hx => ha x c (Nat.lt_succ_of_lt hx)) (fun x c hx => hb x c (Nat.lt_succ_of_lt hx))
    have el : kct p (3 * (P + 1)) = kct p (3 * P) + (if p (3 * P) then 1 else 0) + (if p (3 * P + 1) then 1 else 0) + (if p (3 * P + 2) then 1 else 0) := rfl
    rw [el, ih, Nat.succ_mul P C]
    rcases k_C h1 h3 with rfl | rfl | rfl
    · have e0 : p (3 * P) = q (P * 1) := ha P 0 (Nat.lt_succ_self P) (by decide)
      rw [e0, hb P 1 (Nat.lt_succ_self P) (by decide) (by decide), hb P 2 (Nat.lt_succ_self P) (by decide) (by decide)]
      rfl
    · have e0 : p (3 * P) = q (P * 2) := ha P 0 (Nat.lt_succ_self P) (by decide)
      rw [e0, ha P 1 (Nat.lt_succ_self P) (by decide), hb P 2 (Nat.lt_succ_self P) (by decide) (by decide)]
      rfl
    · have e0 : p (3 * P) = q (P * 3) := ha P 0 (Nat.lt_succ_self P) (by decide)
      rw [e0, ha P 1 (Nat.lt_succ_self P) (by decide), ha P 2 (Nat.lt_succ_self P) (by decide)]
      rfl
theorem kmx_3 {C : Nat} (h1 : 1 ≤ C) (h3 : C ≤ 3) {p q : Nat → Nat} : ∀ P : Nat, (∀ x c, x < P → c < C → p (3 * x + c) = q (x * C + c)) → (∀ x c, x < P → C ≤ c → c < 3 → p (3 * x + c) = 0) → kmx p (3 * P) = kmx q (P * C)
  | 0, _, _ => by rw [Nat.zero_mul]; rfl
  | P + 1, ha, hb => by
    have ih := kmx_3 h1 h3 P (fun x c hx => ha x c (Nat.lt_succ_of_lt hx)) (fun x c hx => hb x c (Nat.lt_succ_of_lt hx))
    have hs : ∀ (f : Nat → Nat) n, kmx f (n + 1) = if kmx f n < f n then f n else kmx f n := fun f n => rfl
    show kmx p (3 * P + 1 + 1 + 1) = _
    rw [hs, hs, hs, ih, Nat.succ_mul P C]
    rcases k_C h1 h3 with rfl | rfl | rfl
    · have e0 : p (3 * P) = q (P * 1) := ha P 0 (Nat.lt_succ_self P) (by decide)
      rw [e0, hb P 1 (Nat.lt_succ_self P) (by decide) (by decide), hb P 2 (Nat.lt_succ_self P) (by decide) (by decide)]
      rw [if_neg (Nat.not_lt_zero _), if_neg (Nat.not_lt_zero _), hs]
    · have e0 : p (3 * P) = q (P * 2) := ha P 0 (Nat.lt_succ_self P) (by decide)
      rw [e0, ha P 1 (Nat.lt_succ_self P) (by decide), hb P 2 (Nat.lt_succ_self P) (by decide) (by decide)]
      rw [if_neg (Nat.not_lt_zero _)]
      show _ = kmx q (P * 2 + 1 + 1)
      rw [hs, hs]
    · have e0 : p (3 * P) = q (P * 3) := ha P 0 (Nat.lt_succ_self P) (by decide)
      rw [e0, ha P 1 (Nat.lt_succ_self P) (by decide), ha P 2 (Nat.lt_succ_self P) (by decide)]
      show _ = kmx q (P * 3 + 1 + 1 + 1)
      rw [hs, hs, hs]
theorem krel_copy {C P : Nat} {O T A B : Nat → Nat} (h : krel C P O A) (hC : C ≤ 3) : krel C P (kfill O T (3 * P)) (kfill A B (P * C)) := by
  have hlt : ∀ p c, p < P → c < C → p * C + c < P * C := fun p c hp hc => by
    have g : (p + 1) * C ≤ P * C := Nat.mul_le_mul_right _ hp
    rw [Nat.succ_mul p C] at g
    omega
  refine ⟨fun p c hp hc => ?_, fun p c hp h1 h2 => ?_⟩
  · rw [kfill_in (by omega), kfill_in (hlt p c hp hc), h.1 p c hp hc]
  · rw [kfill_in (by omega), h.2 p c hp h1 h2]
theorem kmx_le_n {f : Nat → Nat} {c : Nat} : ∀ n, (∀ k, k < n → f k ≤ c) → kmx f n ≤ c
  | 0, _ => Nat.zero_le c
  | n + 1, h => by
    have ih := kmx_le_n n (fun k hk => h k (Nat.lt_succ_of_lt hk))
    have := h n (Nat.lt_succ_self n)
    show (if kmx f n < f n then f n else kmx f n) ≤ c
    split <;> omega
theorem kmx_le_of {C P : Nat} {O T A B : Nat → Nat} (h1 : 1 ≤ C) (h3 : C ≤ 3) (hO : ∀ i, O i < 256) (hT : ∀ i, T i < 256) (hA : krel C P O A) (hB : krel C P T B) : kmx (fun j => kd (A j) (B j)) (P * C) ≤ 255 := by
  rw [← kmx_3 (p := fun j => kd (O j) (T j)) h1 h3 P (fun x c hx hc => by rw [hA.1 x c hx hc, hB.1 x c hx hc]) (fun x c hx hc hc3 => by rw [hA.2 x c hx hc hc3, hB.2 x c hx hc hc3]; rfl)]
  exact kmx_le_n _ (fun k _ => kd_le (Nat.le_of_lt_succ (hO k)) (Nat.le_of_lt_succ (hT k)))
theorem k_kd_comm (a b : Nat) : kd a b = kd b a := by unfold kd; omega
theorem k_sqL {a b : Nat} (ha : a < 2 ^ 15) (hb : b < 2 ^ 15) : (nI a - nI b).toInt64 * (nI a - nI b).toInt64 = lN (kd a b * kd a b) := by
  have key : ∀ d : Nat, d < 2 ^ 31 → (nI d).toInt64 = lN d := fun d hd => nI_l hd
  by_cases h : b ≤ a
  · have e : nI a - nI b = nI (a - b) := pk_sub h
    rw [e, key _ (by omega), lN_mul]
    congr 2 <;> (unfold kd; omega)
  · have e : nI a - nI b = -nI (b - a) := k_sub_neg (by omega)
    have e2 : (-nI (b - a)).toInt64 = -(lN (b - a)) := by
      apply Int64.toInt_inj.mp
      rw [Int32.toInt_toInt64, Int32.toInt_neg, Int64.toInt_neg, nI_toInt (by omega), k_lN_toInt (by omega)]
      rw [Int.bmod_eq_of_le (by omega) (by omega), Int.bmod_eq_of_le (by omega) (by omega)]
    rw [e, e2, Int64.neg_mul, Int64.mul_neg, Int64.neg_neg, lN_mul]
    congr 2 <;> (unfold kd; omega)
/-! the scales' greys agree where they lie -/
theorem k_cell_cong {w h x y : Nat} {F F' G G' : Nat → Nat} (hF : ∀ i, i < w * h → F i = F' i) (hG : ∀ i, i < w * h → G i = G' i) (hx : x + 4 < w) (hy : y + 4 < h) : kcell w x y F G = kcell w x y F' G' := by
  have hlt : ∀ j i, j < 5 → i < 5 → (y + j) * w + x + i < w * h := fun j i hj hi => by
    have g1 : (y + j + 1) * w ≤ h * w := Nat.mul_le_mul_right w (by omega)
    rw [Nat.succ_mul, Nat.mul_comm h w] at g1
    omega
  have hs : ∀ f f' : Nat → Nat → Nat, (∀ j i, j < 5 → i < 5 → f j i = f' j i) → ks5 f 5 0 = ks5 f' 5 0 := fun f f' hf => by
    show ksum (fun a => ksum (f a) 5) 5 + 0 = ksum (fun a => ksum (f' a) 5) 5 + 0
    rw [ksum_cong (fun j hj => ksum_cong (fun i hi => hf j i hj hi))]
  unfold kcell
  rw [hs (kca w x y F) (kca w x y F') (fun j i hj hi => by show _ * F _ = _ * F' _; rw [hF _ (hlt j i hj hi)]),
    hs (kca w x y G) (kca w x y G') (fun j i hj hi => by show _ * G _ = _ * G' _; rw [hG _ (hlt j i hj hi)]),
    hs (kcb w x y F F) (kcb w x y F' F') (fun j i hj hi => by show _ * F _ * F _ = _ * F' _ * F' _; rw [hF _ (hlt j i hj hi)]),
    hs (kcb w x y G G) (kcb w x y G' G') (fun j i hj hi => by show _ * G _ * G _ = _ * G' _ * G' _; rw [hG _ (hlt j i hj hi)]),
    hs (kcb w x y F G) (kcb w x y F' G') (fun j i hj hi => by show _ * F _ * G _ = _ * F' _ * G' _; rw [hF _ (hlt j i hj hi), hG _ (hlt j i hj hi)])]
theorem k_shx_cong {w h y : Nat} {g g' : Nat → Nat} (hy : y < h / 2) (hg : ∀ i, i < w * h → g i = g' i) : ∀ x, x ≤ w / 2 → ∀ i, i < w * h → kshx w (w / 2) y x g i = kshx w (w / 2) y x g' i
  | 0, _ => hg
  | x + 1, hx => fun i hi => by
    have ih := k_shx_cong hy hg x (by omega)
    have g1 : (2 * y + 2) * w ≤ h * w := Nat.mul_le_mul_right w (by omega)
    rw [Nat.add_mul, Nat.mul_comm h w] at g1
    show va_up (kshx w (w / 2) y x g) (y * (w / 2) + x) (kq4 (kshx w (w / 2) y x g) (2 * y * w + 2 * x) w) i = va_up (kshx w (w / 2) y x g') (y * (w / 2) + x) (kq4 (kshx w (w / 2) y x g') (2 * y * w + 2 * x) w) i
    have e : kq4 (kshx w (w / 2) y x g) (2 * y * w + 2 * x) w = kq4 (kshx w (w / 2) y x g') (2 * y * w + 2 * x) w := by
      unfold kq4
      rw [ih _ (by omega), ih _ (by omega), ih _ (by omega), ih _ (by omega)]
    rw [e]
    by_cases h0 : i = y * (w / 2) + x
    · rw [h0, va_up_eq, va_up_eq]
    · rw [va_up_ne' _ _ h0, va_up_ne' _ _ h0, ih i hi]
theorem k_shy_cong {w h : Nat} {g g' : Nat → Nat} (hg : ∀ i, i < w * h → g i = g' i) : ∀ y, y ≤ h / 2 → ∀ i, i < w * h → kshy w (w / 2) y g i = kshy w (w / 2) y g' i
  | 0, _ => hg
  | y + 1, hy => k_shx_cong (by omega) (k_shy_cong hg y (by omega)) (w / 2) (Nat.le_refl _)
theorem k_half_cong {w h : Nat} {g g' : Nat → Nat} (hg : ∀ i, i < w * h → g i = g' i) : ∀ i, i < w / 2 * (h / 2) → khalf w h g i = khalf w h g' i :=
  fun i hi => k_shy_cong hg (h / 2) (Nat.le_refl _) i (Nat.lt_of_lt_of_le hi (Nat.mul_le_mul (Nat.div_le_self _ _) (Nat.div_le_self _ _)))
theorem k_hk_cong {w h : Nat} {g g' : Nat → Nat} (hg : ∀ i, i < w * h → g i = g' i) : ∀ k i, i < w / 2 ^ k * (h / 2 ^ k) → khk w h g k i = khk w h g' k i
  | 0, i, hi => hg i (by rw [show w / 2 ^ 0 = w from Nat.div_one w, show h / 2 ^ 0 = h from Nat.div_one h] at hi; exact hi)
  | k + 1, i, hi => k_half_cong (k_hk_cong hg k) i (by rw [k_half2, k_half2]; exact hi)
theorem k_avx_cong {f f' : Nat → UInt64} : ∀ {n : Nat} (s : UInt64), (∀ x, x < n → f x = f' x) → kavx f n s = kavx f' n s
  | 0, _, _ => rfl
  | n + 1, s, h => by show FP.dadd (kavx f n s) (f n) = FP.dadd (kavx f' n s) (f' n); rw [k_avx_cong s (fun x hx => h x (Nat.lt_succ_of_lt hx)), h n (Nat.lt_succ_self n)]
theorem k_avy_cong {f f' : Nat → Nat → UInt64} {nx : Nat} : ∀ {n : Nat}, (∀ x y, x < nx → y < n → f x y = f' x y) → kavy f nx n = kavy f' nx n
  | 0, _ => rfl
  | n + 1, h => by
    show kavx (fun x => f x n) nx (kavy f nx n) = kavx (fun x => f' x n) nx (kavy f' nx n)
    rw [k_avy_cong (fun x y hx hy => h x y hx (Nat.lt_succ_of_lt hy)), k_avx_cong _ (fun x hx => h x n hx (Nat.lt_succ_self n))]
theorem k_str_cong {w h : Nat} {F F' G G' : Nat → Nat} (hF : ∀ i, i < w * h → F i = F' i) (hG : ∀ i, i < w * h → G i = G' i) (k : Nat) : kstr w h F G k = kstr w h F' G' k := by
  unfold kstr
  congr 1
  exact k_avy_cong (fun x y hx hy => k_cell_cong (h := h / 2 ^ k) (k_hk_cong hF k) (k_hk_cong hG k) (by omega) (by omega))
theorem k_shr {w n : Nat} (hw : w ≤ 24) (hn : n ≤ 4) : nI w >>> (nI n &&& 31) = nI (w / 2 ^ n) := by
  have h : ∀ a : Fin 25, ∀ b : Fin 5, nI a.val >>> (nI b.val &&& 31) = nI (a.val / 2 ^ b.val) := by decide +kernel
  exact h ⟨w, by omega⟩ ⟨n, by omega⟩
theorem kscale_stop {w h n : Nat} (hn : n ≤ 3) (hw : w ≤ 24) (hh : h ≤ 24) (h1 : ∀ i, i < n → 5 ≤ w / 2 ^ i ∧ 5 ≤ h / 2 ^ i) (h2 : ¬ (5 ≤ w / 2 ^ n ∧ 5 ≤ h / 2 ^ n)) : kscale w h = n := by
  have hm : ∀ i, (if h < w then h else w) / 2 ^ i = if h / 2 ^ i < w / 2 ^ i then h / 2 ^ i else w / 2 ^ i := fun i => by
    have hp : 0 < 2 ^ i := Nat.pow_pos (by decide)
    split
    · rename_i hlt
      have := Nat.div_le_div_right (c := 2 ^ i) (Nat.le_of_lt hlt)
      split <;> omega
    · rename_i hge
      have := Nat.div_le_div_right (c := 2 ^ i) (Nat.le_of_not_lt hge)
      split <;> omega
  refine kscale_end (s := (if h < w then h else w) / 2 ^ n) ⟨rfl, fun j hj => ?_⟩ ?_ hn
  · have := h1 j hj
    rw [hm]
    split <;> omega
  · rw [hm]
    split <;> omega
theorem kscale_go {w n : Nat} (hw : w ≤ 24) (h : 5 ≤ w / 2 ^ n) (hn : n ≤ 3) : n + 1 ≤ 3 := by
  have h0 : ∀ a : Fin 25, ∀ b : Fin 4, 5 ≤ a.val / 2 ^ b.val → b.val + 1 ≤ 3 := by decide +kernel
  exact h0 ⟨w, by omega⟩ ⟨n, by omega⟩ h
theorem k_pred {x : Int32} {n : Nat} (h1 : 1 ≤ n) (hn : n < 2 ^ 31) (h : nI n ≤ x) : nI (n - 1) < x := Int32.lt_of_lt_of_le (nI_lt (by omega) hn) h
