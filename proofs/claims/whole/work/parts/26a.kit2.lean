section KQ
variable {X : kX} {cc : ByteArray} {Ts : List Cond} {own nm : String} {rm : Room} {l0 : Launch} {D : va_G} {ty : Nat → ClassId} {nL : Nat}
variable {ws : va_W} {lv : List (Nat × Value)} {pc pc' : Nat} {st : List Value} {k n : Nat}
/-- an array of the one sort of objects -/
theorem j_anewarr (C : kC X cc Ts own rm nm l0 D ty nL) {ix N : Nat} {i : Int32} (d : decode cc pc = .ok (.anewarray ix, 3)) (hp : pc + 3 = pc') (hcl : Cond.classLink own ix RX0 ∈ Ts) (hi : i = nI N) (hN : N ≤ 65536) (hr : k + 1 ≤ rm.cells ∧ n + N ≤ rm.slots)
    (K : ∀ q : Nat, J X (ws ++ [(q, .inl (ty 4, N, .inr (.inr (.inr (.inr (fun _ => none))))))]) lv pc' (.ref q :: st) (k + 1) (n + N)) : J X ws lv pc (.int i :: st) k n := by
  subst hp
  obtain ⟨p, l, e, R, s, m, args, below, meth, c, nL, D, ty, A, Q⟩ := X
  obtain ⟨hx, hb, hml, hown, hts, hA, hK, hE, hlk, rfl, rfl, rfl, rfl, rfl, rfl⟩ := C
  intro H locs ls hP hD hS hl
  have h31 : N < 2 ^ 31 := Nat.lt_of_le_of_lt hN (Nat.le_of_ble_eq_true rfl)
  obtain ⟨-, -, -, -, -, -, -, -, hAO, -⟩ := id hE
  refine va_newq hx hb hown (hts _ hcl) hAO hK hP hD hS hA (by rw [hi]; exact nI_pos h31) (by rw [hi]; exact nI_clamp h31) (by omega) hr.1 hr.2 d (fun q cA H1 hK1 hP1 hD1 hS1 => ?_)
  have e : cA = ty 4 := by
    have h1 := (hK1.2 (kTY ty).length (cA, .object RX0) (by rw [List.getElem?_append_right (Nat.le_refl _), Nat.sub_self]; rfl)).2
    have h2 := (hK.2 4 _ rfl).2
    obtain ⟨_, _, -, -, -, f1⟩ := h1
    obtain ⟨_, _, -, -, -, f2⟩ := h2
    exact Option.some.inj (f1.symm.trans f2)
  subst e
  exact K q H1 locs ls hP1 hD1 hS1 hl
theorem j_aastore (C : kC X cc Ts own rm nm l0 D ty nL) {a v i N : Nat} {f : Nat → Option Nat} {vs : List Value} {ws' : va_W} (d : decode cc pc = .ok (.aastore, 1)) (hp : pc + 1 = pc') (q0 qk : Nat) (he : ws[q0]? = some (a, .inl (ty 4, N, .inr (.inr (.inr (.inr f)))))) (hv : ws[qk]? = some (v, .inr (0, vs))) (hi : i < N) (hN : N < 2 ^ 31)
    (hws : ws.set q0 (a, .inl (ty 4, N, .inr (.inr (.inr (.inr (va_up f i (some v))))))) = ws') (K : J X ws' lv pc' st k n) : J X ws lv pc (.ref v :: .int (nI i) :: .ref a :: st) k n := by
  subst hp
  obtain ⟨p, l, e, R, s, m, args, below, meth, c, nL, D, ty, A, Q⟩ := X
  obtain ⟨hx, hb, hml, hown, hts, hA, hK, hE, hlk, rfl, rfl, rfl, rfl, rfl, rfl⟩ := C
  intro H locs ls hP hD hS hl
  refine va_astq hx hb hK hP hD hS q0 4 qk 0 he rfl hv rfl (vp_in_nI hi hN) d (fun H1 locs1 hP1 hD1 hS1 => ?_)
  rw [nI_clamp (Nat.lt_trans hi hN)] at hP1 hD1
  exact K H1 locs1 ls (hws ▸ hP1) (hws ▸ hD1) hS1 hl
/-- an array's places by another writing -/
theorem j_rearr {a N : Nat} {f g : Nat → Option Nat} {cA : ClassId} {ws' : va_W} (q0 : Nat) (he : ws[q0]? = some (a, .inl (cA, N, .inr (.inr (.inr (.inr f)))))) (h : ∀ j, j < N → f j = g j) (hws : ws.set q0 (a, .inl (cA, N, .inr (.inr (.inr (.inr g))))) = ws') (K : J X ws' lv pc st k n) : J X ws lv pc st k n := by
  obtain ⟨p, l, e, R, s, m, args, below, meth, c, nL, D, ty, A, Q⟩ := X
  intro H locs ls hP hD hS hl
  subst hws
  have hlt : q0 < ws.length := (List.getElem?_eq_some_iff.mp he).1
  refine K H locs ls (fun j q hq => ?_) (hD.set he) hS hl
  rw [List.getElem?_set] at hq
  by_cases e : q0 = j
  · subst e
    rw [if_pos rfl, if_pos hlt] at hq
    cases hq
    have h1 : H[a]? = some (vp_cell cA (N, .inr (.inr (.inr (.inr f))))) := hP q0 _ he
    show H[a]? = some (vp_cell cA (N, .inr (.inr (.inr (.inr g)))))
    rw [h1, vp_cell_q, vp_cell_q]
    unfold arrV
    congr 2
    congr 1
    funext j
    exact congrArg va_rf (h j.val j.isLt)
  · rw [if_neg e] at hq
    exact hP j q hq
end KQ
theorem k_near3 (x : Int32) {m : Nat} (hm : 1 ≤ m) (hm2 : m < 2 ^ 31) : (x < nI 1 ∧ knear x m = 1) ∨ (¬ x < nI 1 ∧ nI m < x ∧ knear x m = m) ∨ ∃ j : Nat, x = nI j ∧ 1 ≤ j ∧ j ≤ m ∧ knear x m = j := by
  by_cases h1 : x < nI 1
  · exact Or.inl ⟨h1, if_pos (Int32.le_of_lt (show x < 1 from h1))⟩
  · refine Or.inr ?_
    have h0 : ¬ x < 0 := fun h => h1 (Int32.lt_trans h (by decide))
    obtain ⟨j, hj, rfl⟩ := nI_of h0
    have hj1 : 1 ≤ j := Nat.le_of_not_lt (fun h => h1 (nI_lt h (by decide)))
    by_cases h2 : nI m < nI j
    · refine Or.inl ⟨h1, h2, ?_⟩
      have h3 : m < j := (nI_ltI hm2 hj).mp h2
      unfold knear
      rw [if_neg (show ¬ nI j ≤ 1 from fun h => absurd ((nI_leI hj (by decide)).mp (show nI j ≤ nI 1 from h)) (by omega)), if_pos (Int32.le_of_lt h2)]
    · have h3 : j ≤ m := Nat.le_of_not_lt (fun h => h2 (nI_lt h hj))
      refine Or.inr ⟨j, rfl, hj1, h3, ?_⟩
      unfold knear
      by_cases e1 : nI j ≤ 1
      · rw [if_pos e1]
        have := (nI_leI hj (by decide)).mp (show nI j ≤ nI 1 from e1)
        omega
      · rw [if_neg e1]
        by_cases e2 : nI m ≤ nI j
        · rw [if_pos e2]
          have := (nI_leI hm2 hj).mp e2
          omega
        · rw [if_neg e2]
          exact nI_clamp hj
