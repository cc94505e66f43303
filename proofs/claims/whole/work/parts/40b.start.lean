set_option maxHeartbeats 4000000 in
set_option maxRecDepth 100000 in
theorem whole_start {p : Program} {e : Env} {s : State} {m : MethodId} {below : List Frame} {meth : Method} {c : Code} (l : Launch) (hflags : l.flags = flags0) {b L : Nat} {xs : Nat → Int32} (hL : L ≤ 3075) (C0 : lw_At p s m meth c b L xs) : W p l e room_1 s m #[Value.ref b] below meth c s.heap [] 0 0 (lw_Z below #[Value.ref b] s) (entryFrame m ([Value.ref b] : List Value).toArray 10) := by
  have hE := k_env C0
  obtain ⟨hx, hb, hr, hml, hown, hts, hX, hbl, hlocks, hgv⟩ := id C0
  have hl0 : l.stackTraces = false := by
    unfold Launch.stackTraces
    rw [hflags]
    decide
  have htw : ∀ w ∈ wsL_law, w.before #[Value.ref b] s = true := fun w hw => hts w (wsL_law_in w hw)
  obtain ⟨c0, i0, K0⟩ := u_known (n := 3) htw inlX0 (hts (.instantiable RX0 3) (by decide +kernel))
  obtain ⟨c1, i1, K1⟩ := u_known (n := 7) htw inlX1 (hts (.instantiable RX1 7) (by decide +kernel))
  obtain ⟨c2, i2, K2⟩ := u_known (n := 2) htw inlX2 (hts (.instantiable RX2 2) (by decide +kernel))
  obtain ⟨c3, i3, K3⟩ := u_known (n := 6) htw inlX3 (hts (.instantiable RX3 6) (by decide +kernel))
  obtain ⟨c4, i4, K4⟩ := u_known (n := 10) htw inlX4 (hts (.instantiable RX4 10) (by decide +kernel))
  obtain ⟨c5, i5, K5⟩ := u_known (n := 15) htw inlX5 (hts (.instantiable RX5 15) (by decide +kernel))
  obtain ⟨D, hKc⟩ : ∃ D : va_G, ∀ (k : Nat) (q : vw_C), vwCl[k]? = some q → u_Kn s q.1 q.2.1 q.2.2 (D.1 k) (D.2 k) := by
    refine ⟨(fun k => match k with | 0 => c0 | 1 => c1 | 2 => c2 | 3 => c3 | 4 => c4 | _ => c5, fun k => match k with | 0 => i0 | 1 => i1 | 2 => i2 | 3 => i3 | 4 => i4 | _ => i5), ?_⟩
    intro k q hq
    match k, hq with
    | 0, hq => cases hq; exact K0
    | 1, hq => cases hq; exact K1
    | 2, hq => cases hq; exact K2
    | 3, hq => cases hq; exact K3
    | 4, hq => cases hq; exact K4
    | 5, hq => cases hq; exact K5
    | k + 6, hq => simp [vwCl] at hq
  obtain ⟨y0, a0, f0⟩ := k_arr (fun z h => by cases h) (hts (.arrayClass .int) (by decide +kernel))
  obtain ⟨y1, a1, f1⟩ := k_arr (fun z h => by cases h) (hts (.arrayClass .double) (by decide +kernel))
  obtain ⟨y2, a2, f2⟩ := k_arr (fun z h => by cases h) (hts (.arrayClass .boolean) (by decide +kernel))
  obtain ⟨y3, a3, f3⟩ := k_arr (fun z h => by cases h) (hts (.arrayClass .long) (by decide +kernel))
  obtain ⟨comp, y4, k4, g1, g2, g3, g4, g5⟩ := Cond.arrayOver_spec (hts (.arrayOver (.object RX0)) (by decide +kernel))
  have hK : va_K D vwCl (kTY (fun k => match k with | 0 => y0 | 1 => y1 | 2 => y2 | 3 => y3 | _ => y4)) s := by
    refine ⟨hKc, fun k q hq => ?_⟩
    match k, hq with
    | 0, hq => cases hq; exact ⟨a0, f0⟩
    | 1, hq => cases hq; exact ⟨a1, f1⟩
    | 2, hq => cases hq; exact ⟨a2, f2⟩
    | 3, hq => cases hq; exact ⟨a3, f3⟩
    | 4, hq => cases hq; exact ⟨fun N z => ⟨fun k h => (by cases h), k4, g3, comp, g4⟩, k4, comp, g3, g4, g1, g5⟩
    | k + 5, hq => simp [kTY] at hq
  have hbA : ¬ (fun q : Nat => s.heap.size ≤ q) b := Nat.not_le.mpr hbl
  have hl := lv_entry ([.ref b]) (n := 10) (Nat.le_of_ble_eq_true rfl)
  rw [lg_entry_eq]
  generalize (lg_sl ([.ref b]) ++ List.replicate (10 - (lg_sl ([.ref b])).length) Slot.unset).toArray = ls at hl ⊢
  have hl : lv_has ls 10 [(0, .ref b)] := hl
  have hJ := law_entry (X := (p, l, e, room_1, s, m, #[Value.ref b], below, meth, c, 10, D, _, fun q : Nat => s.heap.size ≤ q, lw_Z below #[Value.ref b] s)) (nm := meth.name) l hl0 D _ b L xs hL
    ⟨hx, hb, hml, hown, htw, fun q h => h, hK, hE, hlocks, rfl, rfl, rfl, rfl, rfl, rfl⟩ ⟨hX, hbl, hbA⟩ ⟨fun q h => h, rfl, hr, hb, rfl, rfl⟩
  exact hJ s.heap [] ls (fun j q hq => by simp at hq) ⟨fun i j p q h => by simp at h, fun k q h => by simp at h⟩ va_S.rf hl
