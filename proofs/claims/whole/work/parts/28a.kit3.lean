/-! methods with handlers: their start, a call that may be caught, a call of one of them -/
def kTab (X : kX) (hh : List (Nat × Nat × Nat × Nat)) : Prop :=
  match X with
  | (_, _, _, _, _, _, _, _, _, c, _, _, _, _, _) => c.exceptionTable.toList = tableOf hh
/-- at pc the handler at hp takes what is of the class E -/
def kHit (Ts : List Cond) (own : String) (hh : List (Nat × Nat × Nat × Nat)) (pc : Nat) (E : String) (hp : Nat) : Prop :=
  E ∈ kXs ∧ ∃ (pre : List ExceptionTableEntry) (x : ExceptionTableEntry) (suf : List ExceptionTableEntry), tableOf hh = pre ++ x :: suf ∧
    (∀ z ∈ pre, z.catchType ≠ 0 ∧ ∃ nm : String, nm ∈ kXs ∧ E ≠ nm ∧ Cond.classLink own z.catchType nm ∈ Ts) ∧ covers x pc = true ∧ x.catchType ≠ 0 ∧ Cond.classLink own x.catchType E ∈ Ts ∧ x.handlerPc = hp
theorem KM.ofH {l : Launch} {y : MethodName} {wl wl' : List Cond} {rm : Room} {D : va_G} {ty : Nat → ClassId} {av : List Value} {ws : va_W} {post : Option Value → va_W → Prop} {mc ms maxL : Nat} {cc : ByteArray} {ret : Option FieldType} {lv : List (Nat × Value)} {hh : List (Nat × Nat × Nat × Nat)}
    (hy : plainName y.cls = true) (hw : wl = Cond.codeWith y cc maxL ret hh :: wl') (hlen : Nat.ble (lg_sl av).length maxL = true) (hlv : lv_args 0 av = lv)
    (body : ∀ X : kX, kC X cc wl y.cls rm y.name l D ty maxL → kTab X hh → kR X ret post mc ms → J X ws lv 0 [] 0 0) : KM l y wl rm D ty av ws post mc ms := by
  intro sz
  refine va_MetW (cc := cc) (maxL := maxL) (ret := ret) (hh := hh) hy hw ?_
  intro p e s m args below meth c s₁ B hml hv
  obtain ⟨rfl, hsz, hP, hK, hD0, hE⟩ := hv
  have hts := atoms_spec (ws := wl) B.pre
  have htab := vx_table (x := y) B (hts _ (by rw [hw]; exact List.mem_cons_self))
  have hown : s.vm.findClass y.cls = some m.cls := findClass_of_methodNamed B.named
  subst hsz
  have hD := hD0.self (sz := s.heap.size)
  have hl := lv_entry av (n := maxL) (Nat.le_of_ble_eq_true hlen)
  rw [lg_entry_eq]
  rw [hlv] at hl
  exact body (p, l, e, _, s, m, av.toArray, below, meth, c, maxL, D, ty, va_A ws s.heap.size, _)
    ⟨B.exec, B.bytes, hml, hown, hts, fun q h => Or.inr h, hK, hE, B.notSynchronized, rfl, (name_of_methodNamed B.named B.method).1, rfl, rfl, rfl, rfl⟩
    htab ⟨B.returns, rfl⟩ s.heap [] _ hP hD va_S.rf hl
section KCALLT
variable {X : kX} {cc : ByteArray} {Ts : List Cond} {own nm : String} {rm : Room} {l0 : Launch} {D : va_G} {ty : Nat → ClassId} {nL : Nat}
variable {ws : va_W} {lv : List (Nat × Value)} {pc pc' : Nat} {st : List Value} {k n : Nat}
theorem k_backX {p : Program} {l : Launch} {e : Env} {R : Room} {s : State} {m : MethodId} {args : Array Value} {below : List Frame} {meth : Method} {c : Code} {A : Nat → Prop} {Q : State → Prop} {H : Heap} {locs : List Loc} {ls : Array Slot} {wc wr : va_W} {post : Option Value → va_W → Prop} {px : String → va_W → Prop} {mc ms : Nat} {st0 : List Value} {a : Array Value}
    (hA : ∀ q, s.heap.size ≤ q → A q) (hP : va_P D vwCl ws H) (hD : va_D A ws) (hS : va_S A s.heap H locs) (isC isR : List Nat) (hC : isC.map (fun i => ws[i]?) = wc.map some) (hR : isR.map (fun i => ws[i]?) = wr.map some) (hnR : va_nd isR = true) (hdis : ∀ i ∈ isR, i ∉ isC)
    (hr : vx_Run p l e R s m args below meth c H locs k n mc ms (F0 m pc ls st0) st (kQ D post (va_A wc H.size) a) (kXC D px (va_A wc H.size)) (va_A wc H.size))
    (K : ∀ (v : Option Value) (u : va_W) (H1 : Heap) (locs1 : List Loc), post v u → va_P D vwCl (wr ++ u) H1 → va_D A (wr ++ u) → va_S A s.heap H1 locs1 → W p l e R s m args below meth c H1 locs1 (k + mc) (n + ms) Q (F0 m (pc + 3) ls (v.toList ++ st)))
    (KX : ∀ (E : String) (u : va_W) (H1 : Heap) (locs1 : List Loc) (q : Nat) (ce : Cell), px E u → va_P D vwCl (wr ++ u) H1 → va_D A (wr ++ u) → va_S A s.heap H1 locs1 → H1[q]? = some ce → ce.vm = .none → s.vm.findClass E = some ce.cls → vx_W p l e R s m args below meth c H1 locs1 (k + mc) (n + ms) Q (F0 m pc ls st) q) :
    W p l e R s m args below meth c H locs k n Q (F0 m pc ls st0) := by
  intro T hT X
  have hF := va_free hD hS hA isC hC
  rcases hr T hT X with ⟨v, st₀, t, T', L, h0, X', hL, e1, e2, ⟨⟨v2, u, hv, hp, hP1, hD1⟩, hz, hk⟩, stp⟩ | ⟨q, st₀, t, T', L, E, ce, h0, X', hL, e1, e2, ⟨u, hpx, hP1, hD1, hz, hk⟩, hce, hcv, hcl, stp⟩
  · cases hv
    rw [h0] at hz hk
    have hk2 : ∀ q : Nat, q < H.size → ¬ va_A wc H.size q → T'.heap[q]? = H[q]? := fun q h1 h2 => by rw [e1]; exact hk q h1 h2
    obtain ⟨g1, g2⟩ := va_join (wr := wr) (w1 := u) (H1 := T'.heap) hP hD isC isR hC hR hnR hdis hk2 hF (by rw [e1]; exact hP1) hD1
    obtain ⟨t2, a1, b1⟩ := K v u T'.heap (locs ++ L) hp g1 g2
      ⟨Nat.le_trans hS.1 (by rw [e1]; exact hz), fun q h1 h2 => by rw [e1, hk q (Nat.lt_of_lt_of_le h1 hS.1) (fun z => h2 (hF q z))]; exact hS.2.1 q h1 h2, fun q hq => by
        rcases List.mem_append.mp hq with h | h
        · exact hS.2.2 q h
        · exact hF _ (hL q h)⟩ T' rfl X'
    exact ⟨t2, stp t2 a1, b1⟩
  · rw [h0] at hz hk
    have hk2 : ∀ q : Nat, q < H.size → ¬ va_A wc H.size q → T'.heap[q]? = H[q]? := fun q h1 h2 => by rw [e1]; exact hk q h1 h2
    obtain ⟨g1, g2⟩ := va_join (wr := wr) (w1 := u) (H1 := T'.heap) hP hD isC isR hC hR hnR hdis hk2 hF (by rw [e1]; exact hP1) hD1
    obtain ⟨t2, a1, b1⟩ := KX E u T'.heap (locs ++ L) q ce hpx g1 g2
      ⟨Nat.le_trans hS.1 (by rw [e1]; exact hz), fun q h1 h2 => by rw [e1, hk q (Nat.lt_of_lt_of_le h1 hS.1) (fun z => h2 (hF q z))]; exact hS.2.1 q h1 h2, fun q hq => by
        rcases List.mem_append.mp hq with h | h
        · exact hS.2.2 q h
        · exact hF _ (hL q h)⟩ (by rw [e1]; exact hce) hcv hcl T' rfl X'
    exact ⟨t2, stp.trans a1, b1⟩
theorem j_callVT (C : kC X cc Ts own rm nm l0 D ty nL) {hh : List (Nat × Nat × Nat × Nat)} (hTab : kTab X hh) {y : MethodName} {wl wl' : List Cond} {rm2 : Room} {b : Nat} {As st0 : List Value} {wc wr : va_W} {post : Option Value → va_W → Prop} {px : String → va_W → Prop} {mc ms ix maxL nA ci N : Nat} {bytes : ByteArray} {ret : Option FieldType} {Cn : String} {T : u_T} {fs : List Value}
    (d : decode cc pc = .ok (.invokevirtual ix, 3)) (hp : pc + 3 = pc') (hM : KT l0 y wl rm2 D ty (.ref b :: As) wc post px mc ms) (hG : GoodIn Ts (wsV own ix Cn y wl)) (hw : wl = Cond.code y bytes maxL ret :: wl')
    (hd : y.cls = Cn ∧ y.cls ≠ "java/lang/invoke/MethodHandle" ∧ y.cls ≠ "java/lang/invoke/VarHandle" ∧ (parseMethodDescriptor y.desc).map (fun d => d.parameters.length) = some nA) (hlen : As.length = nA)
    (hR : rm2.cells = mc ∧ rm2.slots = ms ∧ rm2.frames + 1 ≤ rm.frames ∧ 8 + (maxL + 11) + rm2.locals ≤ rm.locals)
    (isC isR : List Nat) (hC : isC.map (fun i => ws[i]?) = wc.map some) (hRr : isR.map (fun i => ws[i]?) = wr.map some) (hn : va_nd isC = true ∧ va_nd isR = true) (hdis : ∀ i ∈ isR, i ∉ isC)
    (q0 : Nat) (hq0 : ws[q0]? = some (b, .inr (ci, fs))) (hci : vwCl[ci]? = some (Cn, T, N)) (hst : st0 = As.reverse ++ .ref b :: st) (hcat : (st.map fun v => v.category).sum ≤ 8) (hf : k + mc ≤ rm.cells ∧ n + ms ≤ rm.slots)
    (K : ∀ (v : Option Value) (u : va_W), post v u → J X (wr ++ u) lv pc' (v.toList ++ st) (k + mc) (n + ms))
    (KX : ∀ (E : String) (u : va_W) (q : Nat), px E u → ∃ h : Nat, kHit Ts own hh pc E h ∧ J X (wr ++ u) lv h [.ref q] (k + mc) (n + ms)) : J X ws lv pc st0 k n := by
  subst hp
  obtain ⟨p, l, e, R, s, m, args, below, meth, c, nL, D, ty, A, Q⟩ := X
  obtain ⟨hx, hb, hml, hown, hts, hA, hK, hE, hlk, rfl, rfl, rfl, rfl, rfl, rfl⟩ := C
  intro H locs ls hP hD hS hl
  obtain ⟨hrc, hrs, hRf⟩ := hR
  refine k_backX (e := e) hA hP hD hS isC isR hC hRr hn.2 hdis (vx_runV (As := As) (rest := st) ⟨hx, hb, hml, hown, hts⟩ (hM H.size) (cwV nA hts hG hw hrc hrs hd hRf) ⟨kPre_blind _ _ _ _ _, va_recv hK hP hci hq0, k_start (p := p) (l := l) (e := e) hA hK hE hP hD hS isC hn.1 hC⟩ rfl hlen hl.1 hst (lv_room hcat) d hf) (fun v u H1 locs1 hpost h1 h2 h3 => ?_) (fun E u H1 locs1 q ce hpx h1 h2 h3 hce hcv hcl => ?_)
  · exact K v u hpost H1 locs1 ls h1 h2 h3 hl
  · obtain ⟨h, ⟨hE1, pre, x, suf, hsp, hpre, hcov, hct, hlink, rfl⟩, hJ⟩ := KX E u q hpx
    obtain ⟨-, -, -, -, -, hcast, hnc, -, -, -⟩ := id hE
    refine vx_catch hown pre x suf (by rw [← hsp]; exact hTab) (fun z hz => Or.inr ?_) hcov hct (hts _ hlink) (va_Nw.use rfl (hcast E hE1)) hce hcv hcl (hJ H1 locs1 ls h1 h2 h3 hl)
    obtain ⟨z0, nm, hnm, hne, hzl⟩ := hpre z hz
    exact ⟨z0, nm, hts _ hzl, hnc E hE1 nm hnm hne⟩
theorem j_callSH (C : kC X cc Ts own rm nm l0 D ty nL) {y : MethodName} {wl wl' : List Cond} {rm2 : Room} {As st0 : List Value} {wc wr : va_W} {post : Option Value → va_W → Prop} {mc ms ix maxL nA : Nat} {bytes : ByteArray} {ret : Option FieldType} {hh : List (Nat × Nat × Nat × Nat)}
    (d : decode cc pc = .ok (.invokestatic ix, 3)) (hp : pc + 3 = pc') (hM : KM l0 y wl rm2 D ty As wc post mc ms) (hG : GoodIn Ts (va_wsS own ix y wl)) (hw : wl = Cond.codeWith y bytes maxL ret hh :: wl')
    (hd : y.cls ≠ "java/lang/invoke/MethodHandle" ∧ y.cls ≠ "java/lang/invoke/VarHandle" ∧ (parseMethodDescriptor y.desc).map (fun d => d.parameters.length) = some nA) (hlen : As.length = nA)
    (hR : rm2.cells = mc ∧ rm2.slots = ms ∧ rm2.frames + 1 ≤ rm.frames ∧ 8 + (maxL + 11) + rm2.locals ≤ rm.locals)
    (isC isR : List Nat) (hC : isC.map (fun i => ws[i]?) = wc.map some) (hRr : isR.map (fun i => ws[i]?) = wr.map some) (hn : va_nd isC = true ∧ va_nd isR = true) (hdis : ∀ i ∈ isR, i ∉ isC)
    (hst : st0 = As.reverse ++ st) (hcat : (st.map fun v => v.category).sum ≤ 8) (hf : k + mc ≤ rm.cells ∧ n + ms ≤ rm.slots)
    (K : ∀ (v : Option Value) (u : va_W), post v u → J X (wr ++ u) lv pc' (v.toList ++ st) (k + mc) (n + ms)) : J X ws lv pc st0 k n := by
  subst hp
  obtain ⟨p, l, e, R, s, m, args, below, meth, c, nL, D, ty, A, Q⟩ := X
  obtain ⟨hx, hb, hml, hown, hts, hA, hK, hE, hlk, rfl, rfl, rfl, rfl, rfl, rfl⟩ := C
  intro H locs ls hP hD hS hl
  obtain ⟨hrc, hrs, hRf⟩ := hR
  refine k_back (e := e) hA hP hD hS isC isR hC hRr hn.2 hdis (vx_runSW (As := As) (rest := st) ⟨hx, hb, hml, hown, hts⟩ (hM H.size) (vx_cwSW nA hts hG hw hrc hrs hd hRf) ⟨kPre_blind _ _ _ _ _, k_start (p := p) (l := l) (e := e) hA hK hE hP hD hS isC hn.1 hC⟩ rfl hlen hl.1 hst (lv_room hcat) d hf) (fun v u H1 locs1 hpost h1 h2 h3 => ?_)
  exact K v u hpost H1 locs1 ls h1 h2 h3 hl
end KCALLT
