/-! a method of VisualSums makes an exception with a text and throws it -/
abbrev kUp : List String := ["java/lang/RuntimeException", "java/lang/Exception"]
def kThr (Ts : List Cond) (cls : String) (ik ic : Nat) : Prop :=
  Cond.classLink RX4 ik cls ∈ Ts ∧ Cond.initialized cls ∈ Ts ∧ (∀ w ∈ (vx_atS RX4 ic cls kUp).filter goodWord, w ∈ Ts) ∧ (∀ w ∈ (vx_atS RX4 ic cls kUp).filter (fun w => !goodWord w), w ∈ Cond.castable cls cls :: kYs.map (fun Y => Cond.declares (Bundle.initS Y))) ∧ (∀ w ∈ Cond.classLink RX4 ik cls :: Cond.initialized cls :: vx_atS RX4 ic cls kUp, vx_ot w = true)
theorem j_throw {X : kX} {cc : ByteArray} {Ts : List Cond} {nm : String} {rm : Room} {l0 : Launch} {D : va_G} {ty : Nat → ClassId} {nL : Nat} {ws : va_W} {lv : List (Nat × Value)} {pc : Nat} {st : List Value} {k n : Nat} (C : kC X cc Ts RX4 rm nm l0 D ty nL) {ret : Option FieldType} {post : Option Value → va_W → Prop} {px : String → va_W → Prop} {mc ms : Nat} (R0 : kRT X ret post px mc ms) {cls text : String} {ik is ic : Nat}
    (d0 : decode cc pc = .ok (.new ik, 3)) (d3 : decode cc (pc + 3) = .ok (.dup, 1)) (d4 : decode cc (pc + 4) = .ok (.ldc is, 2)) (d6 : decode cc (pc + 6) = .ok (.invokespecial ic, 3)) (d9 : decode cc (pc + 9) = .ok (.athrow, 1))
    (hcls : cls ∈ kXs) (hstr : (is, text) ∈ kStrs) (hT : kThr Ts cls ik ic) (hr : 5 < rm.frames ∧ (st.map fun v => v.category).sum + 82 ≤ rm.locals ∧ k + 1 ≤ rm.cells ∧ n + 6 ≤ rm.slots) (hm : k + 1 ≤ mc ∧ n + 6 ≤ ms) (hpx : px cls ws) : J X ws lv pc st k n := by
  obtain ⟨p, l, e, R, s, m, args, below, meth, c, nL, D, ty, A, Q⟩ := X
  obtain ⟨hx, hb, hml, hown, hts, hA, hK, hE, hlk, rfl, rfl, rfl, rfl, rfl, rfl⟩ := C
  obtain ⟨hr0, rfl, htab, hl⟩ := R0
  intro H locs ls hP hD hS hl2
  obtain ⟨-, hU, hN, -, -, hcast, -, hstrs, -, hdecl⟩ := id hE
  obtain ⟨sa, hsa⟩ := hstrs (is, text) hstr
  obtain ⟨hk1, hk2, hk3, hk4, hk5⟩ := hT
  have hat : ∀ w ∈ vx_atS RX4 ic cls kUp, w.before args s = true := vx_hat (fun w hw => hts w (hk3 w hw)) hk4 (fun w hw => by
    rcases List.mem_cons.mp hw with e | e
    · rw [e]; exact va_Nw.use rfl (hcast cls hcls)
    · obtain ⟨Y, hY, e2⟩ := List.mem_map.mp e
      rw [← e2]
      exact va_Nw.use rfl (hdecl Y hY))
  refine vx_throwS (names := kUp) (sa := sa) (cls := cls) (text := text) hx hb hl hown ?_ (by decide +kernel) (hts _ hk1) (hts _ hk2) hsa hat hk5 hU hN hS (by rw [hl2.1, hml]) d0 d3 d4 d6 d9 (fun x hx => (htab x hx).elim) hr.1 hr.2.1 hr.2.2.1 hr.2.2.2 hlk ?_ hS.2.2 hm.1 hm.2
  · have hall : ∀ E ∈ kXs, Bundle.fit E = true := by decide +kernel
    exact hall cls hcls
  · intro t ht hsz hkp
    refine ⟨ws, hpx, ?_, hD, ?_⟩
    · exact hP.kept (fun j q hq => hkp q.1 (hP j q hq).lt)
    · refine ⟨Nat.le_trans hS.1 hsz, fun q h1 h2 => ?_⟩
      rw [hkp q (Nat.lt_of_lt_of_le h1 hS.1)]
      exact hS.2.1 q h1 h2
