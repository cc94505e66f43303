/-! calls and whole bodies over J -/
theorem kPre_blind (D : va_G) (ty : Nat → ClassId) (av : List Value) (sz : Nat) (ws : va_W) : FrameBlind (kPre D ty av sz ws) := by
  intro a U g mk h
  obtain ⟨h1, h2, h3, h4, h5, h6⟩ := h
  exact ⟨h1, h2, h3, va_K.moved (u := U) (U := U.calling g mk a) (Vm.Alike.refl U.vm) h4, h5, kE.same (u := U) (U := U.calling g mk a) rfl h6⟩
section KCALL
variable {X : kX} {cc : ByteArray} {Ts : List Cond} {own nm : String} {rm : Room} {l0 : Launch} {D : va_G} {ty : Nat → ClassId} {nL : Nat}
variable {ws : va_W} {lv : List (Nat × Value)} {pc pc' : Nat} {st : List Value} {k n : Nat}
/-- a part of the world, as the callee's start has it -/
theorem k_start {p : Program} {l : Launch} {e : Env} {s : State} {A : Nat → Prop} {H : Heap} {locs : List Loc} {wc : va_W} {As : List Value} (hA : ∀ q, s.heap.size ≤ q → A q) (hK : va_K D vwCl (kTY ty) s) (hE : kE A s s.heap) (hP : va_P D vwCl ws H) (hD : va_D A ws) (hS : va_S A s.heap H locs) (isC : List Nat) (hnC : va_nd isC = true) (hC : isC.map (fun i => ws[i]?) = wc.map some) :
    ∀ U : State, U.heap = H → s.WarmedH U.vm → kPre D ty As H.size wc As.toArray U := by
  intro U hU hW
  refine ⟨rfl, by rw [hU], ?_, va_K.moved hW.alike hK, (hD.sub isC hnC hC).weaken (fun _ _ _ _ => trivial), ?_⟩
  · rw [hU]
    intro j q hq
    have h1 : (isC.map (fun i => ws[i]?))[j]? = some (some q) := by rw [hC, List.getElem?_map, hq]; rfl
    rw [List.getElem?_map] at h1
    cases hi : isC[j]? with
    | none => rw [hi] at h1; cases h1
    | some i => rw [hi] at h1; exact hP i q (Option.some.inj h1)
  · rw [hU]
    exact ((hE.kept (H1 := H) (fun a h1 h2 => hS.2.1 a h1 h2)).moved hW).narrow (va_free hD hS hA isC hC)
/-- behind a run of a callee -/
theorem k_back {p : Program} {l : Launch} {e : Env} {R : Room} {s : State} {m : MethodId} {args : Array Value} {below : List Frame} {meth : Method} {c : Code} {A : Nat → Prop} {Q : State → Prop} {H : Heap} {locs : List Loc} {ls : Array Slot} {wc wr : va_W} {post : Option Value → va_W → Prop} {mc ms : Nat} {st0 : List Value} {a : Array Value}
    (hA : ∀ q, s.heap.size ≤ q → A q) (hP : va_P D vwCl ws H) (hD : va_D A ws) (hS : va_S A s.heap H locs) (isC isR : List Nat) (hC : isC.map (fun i => ws[i]?) = wc.map some) (hR : isR.map (fun i => ws[i]?) = wr.map some) (hnR : va_nd isR = true) (hdis : ∀ i ∈ isR, i ∉ isC)
    (hr : va_Run p l e R s m args below meth c H locs k n mc ms (F0 m pc ls st0) st (kQ D post (va_A wc H.size) a) (va_A wc H.size))
    (K : ∀ (v : Option Value) (u : va_W) (H1 : Heap) (locs1 : List Loc), post v u → va_P D vwCl (wr ++ u) H1 → va_D A (wr ++ u) → va_S A s.heap H1 locs1 → W p l e R s m args below meth c H1 locs1 (k + mc) (n + ms) Q (F0 m (pc + 3) ls (v.toList ++ st))) :
    W p l e R s m args below meth c H locs k n Q (F0 m pc ls st0) := by
  intro T hT X
  obtain ⟨v, st₀, t, T', L, h0, X', hL, e1, e2, ⟨⟨v2, u, hv, hp, hP1, hD1⟩, hz, hk⟩, stp⟩ := hr T hT X
  cases hv
  rw [h0] at hz hk
  have hF := va_free hD hS hA isC hC
  have hk2 : ∀ q : Nat, q < H.size → ¬ va_A wc H.size q → T'.heap[q]? = H[q]? := fun q h1 h2 => by rw [e1]; exact hk q h1 h2
  obtain ⟨g1, g2⟩ := va_join (wr := wr) (w1 := u) (H1 := T'.heap) hP hD isC isR hC hR hnR hdis hk2 hF (by rw [e1]; exact hP1) hD1
  obtain ⟨t2, a1, b1⟩ := K v u T'.heap (locs ++ L) hp g1 g2
    ⟨Nat.le_trans hS.1 (by rw [e1]; exact hz), fun q h1 h2 => by rw [e1, hk q (Nat.lt_of_lt_of_le h1 hS.1) (fun z => h2 (hF q z))]; exact hS.2.1 q h1 h2, fun q hq => by
      rcases List.mem_append.mp hq with h | h
      · exact hS.2.2 q h
      · exact hF _ (hL q h)⟩ T' rfl X'
  exact ⟨t2, stp t2 a1, b1⟩
theorem j_callV (C : kC X cc Ts own rm nm l0 D ty nL) {y : MethodName} {wl wl' : List Cond} {rm2 : Room} {b : Nat} {As st0 : List Value} {wc wr : va_W} {post : Option Value → va_W → Prop} {mc ms ix maxL nA ci N : Nat} {bytes : ByteArray} {ret : Option FieldType} {Cn : String} {T : u_T} {fs : List Value}
    (d : decode cc pc = .ok (.invokevirtual ix, 3)) (hp : pc + 3 = pc') (hM : KM l0 y wl rm2 D ty (.ref b :: As) wc post mc ms) (hG : GoodIn Ts (wsV own ix Cn y wl)) (hw : wl = Cond.code y bytes maxL ret :: wl')
    (hd : y.cls = Cn ∧ y.cls ≠ "java/lang/invoke/MethodHandle" ∧ y.cls ≠ "java/lang/invoke/VarHandle" ∧ (parseMethodDescriptor y.desc).map (fun d => d.parameters.length) = some nA) (hlen : As.length = nA)
    (hR : rm2.cells = mc ∧ rm2.slots = ms ∧ rm2.frames + 1 ≤ rm.frames ∧ 8 + (maxL + 11) + rm2.locals ≤ rm.locals)
    (isC isR : List Nat) (hC : isC.map (fun i => ws[i]?) = wc.map some) (hRr : isR.map (fun i => ws[i]?) = wr.map some) (hn : va_nd isC = true ∧ va_nd isR = true) (hdis : ∀ i ∈ isR, i ∉ isC)
    (q0 : Nat) (hq0 : ws[q0]? = some (b, .inr (ci, fs))) (hci : vwCl[ci]? = some (Cn, T, N)) (hst : st0 = As.reverse ++ .ref b :: st) (hcat : (st.map fun v => v.category).sum ≤ 8) (hf : k + mc ≤ rm.cells ∧ n + ms ≤ rm.slots)
    (K : ∀ (v : Option Value) (u : va_W), post v u → J X (wr ++ u) lv pc' (v.toList ++ st) (k + mc) (n + ms)) : J X ws lv pc st0 k n := by
  subst hp
  obtain ⟨p, l, e, R, s, m, args, below, meth, c, nL, D, ty, A, Q⟩ := X
  obtain ⟨hx, hb, hml, hown, hts, hA, hK, hE, hlk, rfl, rfl, rfl, rfl, rfl, rfl⟩ := C
  intro H locs ls hP hD hS hl
  obtain ⟨hrc, hrs, hRf⟩ := hR
  refine k_back (e := e) hA hP hD hS isC isR hC hRr hn.2 hdis (va_runV (As := As) (rest := st) ⟨hx, hb, hml, hown, hts⟩ (hM H.size) (cwV nA hts hG hw hrc hrs hd hRf) ⟨kPre_blind _ _ _ _ _, va_recv hK hP hci hq0, k_start (p := p) (l := l) (e := e) hA hK hE hP hD hS isC hn.1 hC⟩ rfl hlen hl.1 hst (lv_room hcat) d hf) (fun v u H1 locs1 hpost h1 h2 h3 => ?_)
  exact K v u hpost H1 locs1 ls h1 h2 h3 hl
theorem j_callS (C : kC X cc Ts own rm nm l0 D ty nL) {y : MethodName} {wl wl' : List Cond} {rm2 : Room} {As st0 : List Value} {wc wr : va_W} {post : Option Value → va_W → Prop} {mc ms ix maxL nA : Nat} {bytes : ByteArray} {ret : Option FieldType}
    (d : decode cc pc = .ok (.invokestatic ix, 3)) (hp : pc + 3 = pc') (hM : KM l0 y wl rm2 D ty As wc post mc ms) (hG : GoodIn Ts (va_wsS own ix y wl)) (hw : wl = Cond.code y bytes maxL ret :: wl')
    (hd : y.cls ≠ "java/lang/invoke/MethodHandle" ∧ y.cls ≠ "java/lang/invoke/VarHandle" ∧ (parseMethodDescriptor y.desc).map (fun d => d.parameters.length) = some nA) (hlen : As.length = nA)
    (hR : rm2.cells = mc ∧ rm2.slots = ms ∧ rm2.frames + 1 ≤ rm.frames ∧ 8 + (maxL + 11) + rm2.locals ≤ rm.locals)
    (isC isR : List Nat) (hC : isC.map (fun i => ws[i]?) = wc.map some) (hRr : isR.map (fun i => ws[i]?) = wr.map some) (hn : va_nd isC = true ∧ va_nd isR = true) (hdis : ∀ i ∈ isR, i ∉ isC)
    (hst : st0 = As.reverse ++ st) (hcat : (st.map fun v => v.category).sum ≤ 8) (hf : k + mc ≤ rm.cells ∧ n + ms ≤ rm.slots)
    (K : ∀ (v : Option Value) (u : va_W), post v u → J X (wr ++ u) lv pc' (v.toList ++ st) (k + mc) (n + ms)) : J X ws lv pc st0 k n := by
  subst hp
  obtain ⟨p, l, e, R, s, m, args, below, meth, c, nL, D, ty, A, Q⟩ := X
  obtain ⟨hx, hb, hml, hown, hts, hA, hK, hE, hlk, rfl, rfl, rfl, rfl, rfl, rfl⟩ := C
  intro H locs ls hP hD hS hl
  obtain ⟨hrc, hrs, hRf⟩ := hR
  refine k_back (e := e) hA hP hD hS isC isR hC hRr hn.2 hdis (va_runS (As := As) (rest := st) ⟨hx, hb, hml, hown, hts⟩ (hM H.size) (va_cwS nA hts hG hw hrc hrs hd hRf) ⟨kPre_blind _ _ _ _ _, k_start (p := p) (l := l) (e := e) hA hK hE hP hD hS isC hn.1 hC⟩ rfl hlen hl.1 hst (lv_room hcat) d hf) (fun v u H1 locs1 hpost h1 h2 h3 => ?_)
  exact K v u hpost H1 locs1 ls h1 h2 h3 hl
theorem j_callI (C : kC X cc Ts own rm nm l0 D ty nL) {y : MethodName} {wl wl' : List Cond} {rm2 : Room} {b : Nat} {As st0 : List Value} {wc wr : va_W} {post : Option Value → va_W → Prop} {mc ms ix maxL nA : Nat} {bytes : ByteArray}
    (d : decode cc pc = .ok (.invokespecial ix, 3)) (hp : pc + 3 = pc') (hM : KM l0 y wl rm2 D ty (.ref b :: As) wc post mc ms) (hG : GoodIn Ts wl) (hw : wl = Cond.code y bytes maxL none :: wl') (hnm : y.name = "<init>")
    (hini : Cond.initialized y.cls ∈ Ts) (hlk0 : Cond.methodLink own ix y ∈ Ts) (hinst : Cond.instanceMethod y ∈ Ts)
    (hd : y.cls ≠ "java/lang/invoke/MethodHandle" ∧ y.cls ≠ "java/lang/invoke/VarHandle" ∧ (parseMethodDescriptor y.desc).map (fun d => d.parameters.length) = some nA) (hlen : As.length = nA)
    (hR : rm2.cells = mc ∧ rm2.slots = ms ∧ rm2.frames + 1 ≤ rm.frames ∧ 8 + (maxL + 11) + rm2.locals ≤ rm.locals)
    (isC isR : List Nat) (hC : isC.map (fun i => ws[i]?) = wc.map some) (hRr : isR.map (fun i => ws[i]?) = wr.map some) (hn : va_nd isC = true ∧ va_nd isR = true) (hdis : ∀ i ∈ isR, i ∉ isC)
    (hst : st0 = As.reverse ++ .ref b :: st) (hcat : (st.map fun v => v.category).sum ≤ 8) (hf : k + mc ≤ rm.cells ∧ n + ms ≤ rm.slots)
    (K : ∀ (v : Option Value) (u : va_W), post v u → J X (wr ++ u) lv pc' (v.toList ++ st) (k + mc) (n + ms)) : J X ws lv pc st0 k n := by
  subst hp
  obtain ⟨p, l, e, R, s, m, args, below, meth, c, nL, D, ty, A, Q⟩ := X
  obtain ⟨hx, hb, hml, hown, hts, hA, hK, hE, hlk, rfl, rfl, rfl, rfl, rfl, rfl⟩ := C
  intro H locs ls hP hD hS hl
  obtain ⟨hrc, hrs, hRf⟩ := hR
  refine k_back (e := e) hA hP hD hS isC isR hC hRr hn.2 hdis (va_runI (As := As) (rest := st) ⟨hx, hb, hml, hown, hts⟩ (hM H.size) (cwI nA hts hG hw hrc hrs (hts _ hini) (hts _ hlk0) (hts _ hinst) hnm hd hRf) ⟨kPre_blind _ _ _ _ _, k_start (p := p) (l := l) (e := e) hA hK hE hP hD hS isC hn.1 hC⟩ rfl hlen hl.1 hst (lv_room hcat) d hf) (fun v u H1 locs1 hpost h1 h2 h3 => ?_)
  exact K v u hpost H1 locs1 ls h1 h2 h3 hl
/-- the constructor of a nest mate, by its link of the nest -/
theorem j_callIN (C : kC X cc Ts own rm nm l0 D ty nL) {wl wl' : List Cond} {rm2 : Room} {b : Nat} {As st0 : List Value} {wc wr : va_W} {post : Option Value → va_W → Prop} {mc ms maxL nA : Nat} {bytes : ByteArray}
    (d : decode cc pc = .ok (.invokespecial kNix, 3)) (hp : pc + 3 = pc') (ho : own = RX4) (hM : KM l0 yX0_init wl rm2 D ty (.ref b :: As) wc post mc ms) (hG : GoodIn Ts wl) (hw : wl = Cond.code yX0_init bytes maxL none :: wl')
    (hini : Cond.initialized yX0_init.cls ∈ Ts) (hinst : Cond.instanceMethod yX0_init ∈ Ts)
    (hd : yX0_init.cls ≠ "java/lang/invoke/MethodHandle" ∧ yX0_init.cls ≠ "java/lang/invoke/VarHandle" ∧ (parseMethodDescriptor yX0_init.desc).map (fun d => d.parameters.length) = some nA) (hlen : As.length = nA)
    (hR : rm2.cells = mc ∧ rm2.slots = ms ∧ rm2.frames + 1 ≤ rm.frames ∧ 8 + (maxL + 11) + rm2.locals ≤ rm.locals)
    (isC isR : List Nat) (hC : isC.map (fun i => ws[i]?) = wc.map some) (hRr : isR.map (fun i => ws[i]?) = wr.map some) (hn : va_nd isC = true ∧ va_nd isR = true) (hdis : ∀ i ∈ isR, i ∉ isC)
    (hst : st0 = As.reverse ++ .ref b :: st) (hcat : (st.map fun v => v.category).sum ≤ 8) (hf : k + mc ≤ rm.cells ∧ n + ms ≤ rm.slots)
    (K : ∀ (v : Option Value) (u : va_W), post v u → J X (wr ++ u) lv pc' (v.toList ++ st) (k + mc) (n + ms)) : J X ws lv pc st0 k n := by
  subst hp
  subst ho
  obtain ⟨p, l, e, R, s, m, args, below, meth, c, nL, D, ty, A, Q⟩ := X
  obtain ⟨hx, hb, hml, hown, hts, hA, hK, hE, hlk, rfl, rfl, rfl, rfl, rfl, rfl⟩ := C
  intro H locs ls hP hD hS hl
  obtain ⟨hrc, hrs, hRf⟩ := hR
  obtain ⟨-, -, -, -, hN, -⟩ := id hE
  refine k_back (e := e) hA hP hD hS isC isR hC hRr hn.2 hdis (va_runIN (As := As) (rest := st) ⟨hx, hb, hml, hown, hts⟩ (hM H.size) ⟨va_cnB nA hts hG hw hrc hrs hN (hts _ hini) hd hRf, rfl, hts _ hinst⟩ ⟨kPre_blind _ _ _ _ _, k_start (p := p) (l := l) (e := e) hA hK hE hP hD hS isC hn.1 hC⟩ rfl hlen hl.1 hst (lv_room hcat) d hf) (fun v u H1 locs1 hpost h1 h2 h3 => ?_)
  exact K v u hpost H1 locs1 ls h1 h2 h3 hl
/-- Object's constructor -/
theorem j_objInit (C : kC X cc Ts own rm nm l0 D ty nL) {a ix : Nat} (d : decode cc pc = .ok (.invokespecial ix, 3)) (hp : pc + 3 = pc') (h1 : Cond.methodLink own ix objectInit ∈ Ts) (h2 : Cond.instanceMethod objectInit ∈ Ts) (h3 : Cond.code objectInit ⟨#[0xb1]⟩ 1 none ∈ Ts) (hr : 1 ≤ rm.frames ∧ (st.map fun v => v.category).sum + 12 ≤ rm.locals) (K : J X ws lv pc' st k n) : J X ws lv pc (.ref a :: st) k n := by
  subst hp
  obtain ⟨p, l, e, R, s, m, args, below, meth, c, nL, D, ty, A, Q⟩ := X
  obtain ⟨hx, hb, hml, hown, hts, hA, hK, hE, hlk, rfl, rfl, rfl, rfl, rfl, rfl⟩ := C
  intro H locs ls hP hD hS hl
  refine W.objInit hx hb hown (hts _ h1) (hts _ h2) (hts _ h3) rfl (by rw [hml]; exact hl.1) rfl d hr.1 ?_ ?_
  · show 2 * 0 + _ + 12 ≤ _
    omega
  · exact W.eq (g2 := F0 m (pc + 3) ls st) rfl (K H locs ls hP hD hS hl)
end KCALL
/-- a contract out of a walk from its entry -/
theorem KM.of {l : Launch} {y : MethodName} {wl wl' : List Cond} {rm : Room} {D : va_G} {ty : Nat → ClassId} {av : List Value} {ws : va_W} {post : Option Value → va_W → Prop} {mc ms maxL : Nat} {cc : ByteArray} {ret : Option FieldType} {lv : List (Nat × Value)}
    (hy : plainName y.cls = true) (hw : wl = Cond.code y cc maxL ret :: wl') (hlen : Nat.ble (lg_sl av).length maxL = true) (hlv : lv_args 0 av = lv)
    (body : ∀ X : kX, kC X cc wl y.cls rm y.name l D ty maxL → kR X ret post mc ms → J X ws lv 0 [] 0 0) : KM l y wl rm D ty av ws post mc ms := by
  intro sz
  refine Met.ofW (cc := cc) (maxL := maxL) (ret := ret) hy hw ?_
  intro p e s m args below meth c s₁ B hml hv
  obtain ⟨rfl, hsz, hP, hK, hD0, hE⟩ := hv
  have hts := atoms_spec (ws := wl) B.pre
  have hown : s.vm.findClass y.cls = some m.cls := findClass_of_methodNamed B.named
  subst hsz
  have hD := hD0.self (sz := s.heap.size)
  have hl := lv_entry av (n := maxL) (Nat.le_of_ble_eq_true hlen)
  rw [lg_entry_eq]
  rw [hlv] at hl
  exact body (p, l, e, _, s, m, av.toArray, below, meth, c, maxL, D, ty, va_A ws s.heap.size, _)
    ⟨B.exec, B.bytes, hml, hown, hts, fun q h => Or.inr h, hK, hE, B.notSynchronized, rfl, (name_of_methodNamed B.named B.method).1, rfl, rfl, rfl, rfl⟩
    ⟨B.returns, rfl⟩ s.heap [] _ hP hD va_S.rf hl
/-- the same of a method that may throw -/
theorem KT.of {l : Launch} {y : MethodName} {wl wl' : List Cond} {rm : Room} {D : va_G} {ty : Nat → ClassId} {av : List Value} {ws : va_W} {post : Option Value → va_W → Prop} {px : String → va_W → Prop} {mc ms maxL : Nat} {cc : ByteArray} {ret : Option FieldType} {lv : List (Nat × Value)}
    (hl0 : l.stackTraces = false) (hy : plainName y.cls = true) (hw : wl = Cond.code y cc maxL ret :: wl') (hlen : Nat.ble (lg_sl av).length maxL = true) (hlv : lv_args 0 av = lv)
    (body : ∀ X : kX, kC X cc wl y.cls rm y.name l D ty maxL → kRT X ret post px mc ms → J X ws lv 0 [] 0 0) : KT l y wl rm D ty av ws post px mc ms := by
  intro sz
  refine vx_ofW (cc := cc) (maxL := maxL) (ret := ret) hy hw ?_
  intro p e s m args below meth c s₁ B hml htab hv
  obtain ⟨rfl, hsz, hP, hK, hD0, hE⟩ := hv
  have hts := atoms_spec (ws := wl) B.pre
  have hown : s.vm.findClass y.cls = some m.cls := findClass_of_methodNamed B.named
  subst hsz
  have hD := hD0.self (sz := s.heap.size)
  have hl := lv_entry av (n := maxL) (Nat.le_of_ble_eq_true hlen)
  rw [lg_entry_eq]
  rw [hlv] at hl
  exact body (p, l, e, _, s, m, av.toArray, below, meth, c, maxL, D, ty, va_A ws s.heap.size, _)
    ⟨B.exec, B.bytes, hml, hown, hts, fun q h => Or.inr h, hK, hE, B.notSynchronized, rfl, (name_of_methodNamed B.named B.method).1, rfl, rfl, rfl, rfl⟩
    ⟨B.returns, rfl, htab, hl0⟩ s.heap [] _ hP hD va_S.rf hl
