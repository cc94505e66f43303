theorem k_str {own tx : String} {k : Nat} {A : Array Value} {U : State} (h : (Cond.stringRef own k tx).before A U = true) : ∃ a : Nat, (Term.string own k).eval A U none [] U = some (.ref a) := by
  simp only [Cond.before, Cond.holds, Cond.value] at h
  cases hr : U.resolvedAt? own k with
  | none => cases hc : U.vm.findClass own <;> simp [hr, hc] at h
  | some r =>
    cases r with
    | string a =>
      refine ⟨a, ?_⟩
      unfold State.resolvedAt? at hr
      cases hc : U.vm.findClass own with
      | none => simp [hc] at hr
      | some c =>
        cases hk : U.vm.classes[c]? with
        | none => simp [hc, hk] at hr
        | some kk =>
          simp [hc, hk] at hr
          simp [Term.eval, hc, hk, hr]
    | _ => cases hc : U.vm.findClass own <;> simp [hr, hc] at h
theorem k_arr {s : State} {args : Array Value} {ft : FieldType} (hno : ∀ z, ft ≠ .object z) (h : (Cond.arrayClass ft).before args s = true) : ∃ c : ClassId, ArrOfT s c ft ∧ s.vm.findClass ("[" ++ ft.toString) = some c := by
  obtain ⟨c, k, comp, h1, h2, h3⟩ := Cond.arrayClass_spec h
  exact ⟨c, fun n z => ⟨fun z9 h9 => (by cases h9), k, h2, comp, h3⟩, h1⟩
set_option maxHeartbeats 4000000 in
set_option maxRecDepth 100000 in
theorem k_env {p : Program} {s : State} {m : MethodId} {meth : Method} {c : Code} {b L : Nat} {xs : Nat → Int32} (C0 : lw_At p s m meth c b L xs) : kE (fun q : Nat => s.heap.size ≤ q) s s.heap := by
  obtain ⟨hx, hb, hr, hml, hown, hts, hX, hbl, hlocks, hgv⟩ := C0
  have hA : ∀ a : Nat, a < s.heap.size → ¬ (fun q : Nat => s.heap.size ≤ q) a := fun a h => Nat.not_le.mpr h
  have hs := flat_of_before _ hgv
  refine ⟨?_, ?_, ?_, ?_, ?_, ?_, ?_, ?_, ?_, ?_⟩
  · obtain ⟨t, ht, hT⟩ := va_Tof (args := #[Value.ref b]) (s := s) (tm := .static "VisualSums" "WEIGHTS" "[I") (ty := .int) (N := 5) (f := kWT) (A := fun q : Nat => s.heap.size ≤ q) (by decide) (hs _ (by decide +kernel)) (va_eqt (z := 5) (hs _ (by decide +kernel))) (fun j hj => match j, hj with
      | 0, _ => va_eqt (t := .elem (.static "VisualSums" "WEIGHTS" "[I") (.int 0)) (z := 1) (hs _ (by decide +kernel))
      | 1, _ => va_eqt (t := .elem (.static "VisualSums" "WEIGHTS" "[I") (.int 1)) (z := 4) (hs _ (by decide +kernel))
      | 2, _ => va_eqt (t := .elem (.static "VisualSums" "WEIGHTS" "[I") (.int 2)) (z := 6) (hs _ (by decide +kernel))
      | 3, _ => va_eqt (t := .elem (.static "VisualSums" "WEIGHTS" "[I") (.int 3)) (z := 4) (hs _ (by decide +kernel))
      | 4, _ => va_eqt (t := .elem (.static "VisualSums" "WEIGHTS" "[I") (.int 4)) (z := 1) (hs _ (by decide +kernel))
      | j + 5, h => absurd h (by omega)) hA
    exact ⟨t, va_Zref (hts _ (by decide +kernel)) (hts _ (by decide +kernel)) ht hA, hT⟩
  · exact vx_Zqof (hts _ (by decide +kernel)) (hts _ (by decide +kernel)) (hs _ (by decide +kernel)) hA
  · exact vx_Zqof (hts _ (by decide +kernel)) (hts _ (by decide +kernel)) (hs _ (by decide +kernel)) hA
  · exact va_Nw.of rfl (hts _ (by decide +kernel))
  · exact va_Nw.of rfl (hts _ (by decide +kernel))
  · have h : ∀ E ∈ kXs, Cond.castable E E ∈ lw_tbl := by decide +kernel
    exact fun E hE => va_Nw.of rfl (hts _ (h E hE))
  · have h : ∀ E ∈ kXs, ∀ F ∈ kXs, E ≠ F → Cond.not (.castable E F) ∈ flatC (Jvm.Cond.and given_1 narrow_1) := by decide +kernel
    exact fun E hE F hF hn => va_Nc.of (hs _ (h E hE F hF hn))
  · have h : ∀ q ∈ kStrs, Cond.stringRef RX4 q.1 q.2 ∈ lw_tbl := by decide +kernel
    intro q hq
    obtain ⟨a, ha⟩ := k_str (hts _ (h q hq))
    exact ⟨a, vk_R.of (hts _ (h q hq)) ha⟩
  · exact va_AO.of (hts _ (by decide +kernel))
  · have h : ∀ Y ∈ kYs, Cond.declares (Bundle.initS Y) ∈ lw_tbl := by decide +kernel
    exact fun Y hY => va_Nw.of rfl (hts _ (h Y hY))
