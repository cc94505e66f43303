/-! sums over neighbours in rows; pictures halved some times; ranges -/
def k2s (f : Nat → Nat → Nat) (w y a : Nat) : Nat := ksum (fun b => ksum (f b) w) y + ksum (f y) a
theorem k2s_0 (f : Nat → Nat → Nat) (w : Nat) : k2s f w 0 0 = 0 := rfl
theorem k2s_a (f : Nat → Nat → Nat) (w y a : Nat) : k2s f w y a + f y a = k2s f w y (a + 1) := Nat.add_assoc _ _ _
theorem k2s_row (f : Nat → Nat → Nat) (w y : Nat) : k2s f w y w = k2s f w (y + 1) 0 := rfl
theorem k2s_le {f : Nat → Nat → Nat} {c w y a h : Nat} (hf : ∀ b a, f b a ≤ c) (hy : y ≤ h) (ha : a ≤ w) : k2s f w y a ≤ (h + 1) * (w * c) := by
  have h1 : ksum (fun b => ksum (f b) w) y ≤ y * (w * c) := ksum_le (fun b _ => ksum_le (fun a _ => hf b a))
  have h2 : ksum (f y) a ≤ a * c := ksum_le (fun b _ => hf y b)
  have h3 : y * (w * c) ≤ h * (w * c) := Nat.mul_le_mul_right _ hy
  have h4 : a * c ≤ w * c := Nat.mul_le_mul_right _ ha
  unfold k2s
  rw [Nat.succ_mul]
  omega
/-- what a neighbour at the column a + 1 adds: how many edges, others, and their steps -/
abbrev kbd (C W : Nat) (B : Nat → Nat) (y a : Nat) : Nat := kd (kg C B (y * W + (a + 1))) (kg C B (y * W + (a + 1) - 1))
def kbe (n : Nat) (_ a : Nat) : Nat := if (a + 1) % n = 0 then 1 else 0
def kbo (n : Nat) (_ a : Nat) : Nat := if (a + 1) % n = 0 then 0 else 1
def kbes (n C W : Nat) (B : Nat → Nat) (y a : Nat) : Nat := if (a + 1) % n = 0 then kbd C W B y a else 0
def kbos (n C W : Nat) (B : Nat → Nat) (y a : Nat) : Nat := if (a + 1) % n = 0 then 0 else kbd C W B y a
theorem kbd_le {C W : Nat} {B : Nat → Nat} (hB : ∀ i, B i < 256) (y a : Nat) : kbd C W B y a ≤ 255 := kd_le (Nat.le_of_lt_succ (kg_lt hB _)) (Nat.le_of_lt_succ (kg_lt hB _))
theorem kbe_le (n b a : Nat) : kbe n b a ≤ 1 := by unfold kbe; split <;> omega
theorem kbo_le (n b a : Nat) : kbo n b a ≤ 1 := by unfold kbo; split <;> omega
def kblockv (E O ES OS : Nat) : UInt64 := if E = 0 ∨ O = 0 then 0 else FP.dsub (FP.ddiv (FP.l2d (lN ES)) (FP.i2d (nI E))) (FP.ddiv (FP.l2d (lN OS)) (FP.i2d (nI O)))
theorem k_q_fin {s : Int64} {c : Nat} (h0 : 0 < c) (hc : c < 2 ^ 31) : FP.Core.DFin (FP.ddiv (FP.l2d s) (FP.i2d (nI c))) := by
  have h1 := FP.Core.i2d_big (v := nI c) (by rw [nI_toInt hc]; omega)
  have hm := FP.Core.ddiv_mag (K := 1088) (L := 1023) (FP.Core.l2d_mag s) h1.1 (Nat.lt_of_lt_of_le h1.2 (Nat.le_refl _)) (by decide) (by decide)
  exact k_fin_mag (K := 1089) (Nat.lt_of_lt_of_le hm (Nat.le_of_ble_eq_true rfl)) (by decide)
/-- a step of bands: one, or one less, or none -/
def kbn (d e : Nat) : Int64 := if d = 1 ∧ e = 0 then 1 else if d = 0 ∧ e = 1 then -1 else 0
def ksL (f : Nat → Int64) : Nat → Int64
  | 0 => 0
  | n + 1 => ksL f n + f n
def k2L (f : Nat → Nat → Int64) (w y a : Nat) : Int64 := ksL (fun b => ksL (f b) w) y + ksL (f y) a
theorem k2L_0 (f : Nat → Nat → Int64) (w : Nat) : k2L f w 0 0 = 0 := rfl
theorem k2L_a (f : Nat → Nat → Int64) (w y a : Nat) : k2L f w y a + f y a = k2L f w y (a + 1) := Int64.add_assoc _ _ _
theorem k2L_row (f : Nat → Nat → Int64) (w y : Nat) : k2L f w y w = k2L f w (y + 1) 0 := by
  show _ = ksL (fun b => ksL (f b) w) (y + 1) + 0
  rw [Int64.add_zero]
  rfl
abbrev kbc (C W : Nat) (A B : Nat → Nat) (y a : Nat) : Int64 := kbn (kbd C W A y a) (kbd C W B y a)
def kbandv (all : Nat) (s : Int64) : UInt64 := if all = 0 then 0 else FP.ddiv (FP.l2d s) (FP.i2d (nI all))
/-- halved some times -/
def khk (w h : Nat) (g : Nat → Nat) : Nat → Nat → Nat
  | 0 => g
  | i + 1 => khalf (w / 2 ^ i) (h / 2 ^ i) (khk w h g i)
theorem khk_lt {w h : Nat} {g : Nat → Nat} (hg : ∀ i, g i < 256) : ∀ k i, khk w h g k i < 256
  | 0, i => hg i
  | k + 1, i => khalf_lt (khk_lt hg k) i
def kstr (w h : Nat) (F G : Nat → Nat) (k : Nat) : UInt64 := FP.ddiv (kavy (fun a b => kcell (w / 2 ^ k) a b (khk w h F k) (khk w h G k)) (w / 2 ^ k - 4) (h / 2 ^ k - 4)) (FP.i2d (nI ((h / 2 ^ k - 4) * (w / 2 ^ k - 4))))
theorem kscale_ge {w h k : Nat} (hk : k < kscale w h) : 5 ≤ w / 2 ^ k ∧ 5 ≤ h / 2 ^ k := by
  have hm1 : (if h < w then h else w) ≤ w := by split <;> omega
  have hm2 : (if h < w then h else w) ≤ h := by split <;> omega
  unfold kscale at hk
  generalize (if h < w then h else w) = m at hk hm1 hm2
  have key : 5 ≤ m / 2 ^ k := by
    split at hk
    · omega
    · split at hk
      · have e : k = 0 := by omega
        subst e
        rw [show (2 : Nat) ^ 0 = 1 from rfl]
        omega
      · split at hk
        · have e : k = 0 ∨ k = 1 := by omega
          rcases e with rfl | rfl
          · rw [show (2 : Nat) ^ 0 = 1 from rfl]
            omega
          · rw [show (2 : Nat) ^ 1 = 2 from rfl]
            omega
        · have e : k = 0 ∨ k = 1 ∨ k = 2 := by omega
          rcases e with rfl | rfl | rfl
          · rw [show (2 : Nat) ^ 0 = 1 from rfl]
            omega
          · rw [show (2 : Nat) ^ 1 = 2 from rfl]
            omega
          · rw [show (2 : Nat) ^ 2 = 4 from rfl]
            omega
  exact ⟨Nat.le_trans key (Nat.div_le_div_right hm1), Nat.le_trans key (Nat.div_le_div_right hm2)⟩
theorem kscale_le (w h : Nat) : kscale w h ≤ 3 := by
  unfold kscale
  generalize (if h < w then h else w) = m
  split
  · omega
  · split
    · omega
    · split <;> omega
theorem k_half2 (w i : Nat) : w / 2 ^ i / 2 = w / 2 ^ (i + 1) := by rw [Nat.div_div_eq_div_mul, Nat.pow_succ]
theorem k_halfs_le {w h i : Nat} : w / 2 ^ i * (h / 2 ^ i) ≤ w * h := Nat.mul_le_mul (Nat.div_le_self _ _) (Nat.div_le_self _ _)
theorem k_mapin {x : Int32} {W : Nat} (hW : W ≤ 24) (h1 : ¬ x < nI 2) (h2 : ¬ nI W - nI 2 ≤ x) : ∃ i : Nat, x = nI i ∧ 2 ≤ i ∧ i + 2 < W := by
  have h3 : ¬ x < 0 := fun h => h1 (Int32.lt_trans h (by decide))
  obtain ⟨j, hj, rfl⟩ := nI_of h3
  have h4 : 2 ≤ j := by
    apply Nat.le_of_not_lt
    intro h
    exact h1 (nI_lt h (by decide))
  refine ⟨j, rfl, h4, ?_⟩
  rw [Int32.le_iff_toInt_le, pk_sub_toInt (by omega) (by decide), nI_toInt hj] at h2
  omega
def kRng (v : UInt64) : Prop := ¬ (Op.cmpValue (FP.dcmp v 13920209183539462144) CmpOp.l < 0) ∧ ¬ (0 < Op.cmpValue (FP.dcmp v 4696837146684686336) CmpOp.g)
def knz (v : UInt64) : UInt64 := if Op.cmpValue (FP.dcmp v 0) CmpOp.l = 0 then 0 else v
theorem knz_fin {v : UInt64} (h : FP.Core.DFin v) : FP.Core.DFin (knz v) := by
  unfold knz
  split
  · exact k_fin_mag (K := 1) (by decide) (by decide)
  · exact h
