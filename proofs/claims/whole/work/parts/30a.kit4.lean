/-! the script: an array that nobody writes -/
def kSc (X : kX) (a N : Nat) (f : Nat → Int32) : Prop :=
  match X with
  | (_, _, _, _, s, _, _, _, _, _, _, _, _, A, _) => va_X a N f s s.heap ∧ a < s.heap.size ∧ ¬ A a
def kPreS (D : va_G) (ty : Nat → ClassId) (av : List Value) (sz : Nat) (ws : va_W) (a N : Nat) (f : Nat → Int32) : Array Value → State → Prop := fun v U => kPre D ty av sz ws v U ∧ va_X a N f U U.heap ∧ a < sz ∧ ¬ va_A ws sz a
theorem kPreS_blind (D : va_G) (ty : Nat → ClassId) (av : List Value) (sz : Nat) (ws : va_W) (a N : Nat) (f : Nat → Int32) : FrameBlind (kPreS D ty av sz ws a N f) := by
  intro v U g mk h
  exact ⟨kPre_blind D ty av sz ws v U g mk h.1, va_X.moved (u := U) (U := U.calling g mk v) (Vm.Alike.refl U.vm) h.2.1, h.2.2⟩
def KMs (l : Launch) (y : MethodName) (wl : List Cond) (rm : Room) (D : va_G) (ty : Nat → ClassId) (av : List Value) (ws : va_W) (a N : Nat) (f : Nat → Int32) (post : Option Value → va_W → Prop) (mc ms : Nat) : Prop :=
  ∀ sz : Nat, Met l y wl rm (kPreS D ty av sz ws a N f) (kQ D post (va_A ws sz)) mc ms (va_A ws sz)
theorem KMs.of {l : Launch} {y : MethodName} {wl wl' : List Cond} {rm : Room} {D : va_G} {ty : Nat → ClassId} {av : List Value} {ws : va_W} {a N : Nat} {f : Nat → Int32} {post : Option Value → va_W → Prop} {mc ms maxL : Nat} {cc : ByteArray} {ret : Option FieldType} {lv : List (Nat × Value)}
    (hy : plainName y.cls = true) (hw : wl = Cond.code y cc maxL ret :: wl') (hlen : Nat.ble (lg_sl av).length maxL = true) (hlv : lv_args 0 av = lv)
    (body : ∀ X : kX, kC X cc wl y.cls rm y.name l D ty maxL → kSc X a N f → kR X ret post mc ms → J X ws lv 0 [] 0 0) : KMs l y wl rm D ty av ws a N f post mc ms := by
  intro sz
  refine Met.ofW (cc := cc) (maxL := maxL) (ret := ret) hy hw ?_
  intro p e s m args below meth c s₁ B hml hv
  obtain ⟨⟨rfl, hsz, hP, hK, hD0, hE⟩, hX1, hX2, hX3⟩ := hv
  have hts := atoms_spec (ws := wl) B.pre
  have hown : s.vm.findClass y.cls = some m.cls := findClass_of_methodNamed B.named
  subst hsz
  have hD := hD0.self (sz := s.heap.size)
  have hl := lv_entry av (n := maxL) (Nat.le_of_ble_eq_true hlen)
  rw [lg_entry_eq]
  rw [hlv] at hl
  exact body (p, l, e, _, s, m, av.toArray, below, meth, c, maxL, D, ty, va_A ws s.heap.size, _)
    ⟨B.exec, B.bytes, hml, hown, hts, fun q h => Or.inr h, hK, hE, B.notSynchronized, rfl, (name_of_methodNamed B.named B.method).1, rfl, rfl, rfl, rfl⟩
    ⟨hX1, hX2, hX3⟩ ⟨B.returns, rfl⟩ s.heap [] _ hP hD va_S.rf hl
section KSCR
variable {X : kX} {cc : ByteArray} {Ts : List Cond} {own nm : String} {rm : Room} {l0 : Launch} {D : va_G} {ty : Nat → ClassId} {nL : Nat}
variable {ws : va_W} {lv : List (Nat × Value)} {pc pc' : Nat} {st : List Value} {k n : Nat}
theorem j_sld (C : kC X cc Ts own rm nm l0 D ty nL) {a N i : Nat} {f : Nat → Int32} (hX : kSc X a N f) (d : decode cc pc = .ok (.iaload, 1)) (hp : pc + 1 = pc') (hi : i < N) (hN : N < 2 ^ 31) (K : J X ws lv pc' (.int (f i) :: st) k n) : J X ws lv pc (.int (nI i) :: .ref a :: st) k n := by
  subst hp
  obtain ⟨p, l, e, R, s, m, args, below, meth, c, nL, D, ty, A, Q⟩ := X
  obtain ⟨hx, hb, hml, hown, hts, hA, hK, hE, hlk, rfl, rfl, rfl, rfl, rfl, rfl⟩ := C
  intro H locs ls hP hD hS hl
  refine va_sld hx hb hX.1 hX.2.1 hX.2.2 hS (vp_in_nI hi hN) d ?_
  rw [nI_clamp (Nat.lt_trans hi hN)]
  exact K H locs ls hP hD hS hl
theorem j_slen (C : kC X cc Ts own rm nm l0 D ty nL) {a N : Nat} {f : Nat → Int32} (hX : kSc X a N f) (d : decode cc pc = .ok (.arraylength, 1)) (hp : pc + 1 = pc') (K : J X ws lv pc' (.int (nI N) :: st) k n) : J X ws lv pc (.ref a :: st) k n := by
  subst hp
  obtain ⟨p, l, e, R, s, m, args, below, meth, c, nL, D, ty, A, Q⟩ := X
  obtain ⟨hx, hb, hml, hown, hts, hA, hK, hE, hlk, rfl, rfl, rfl, rfl, rfl, rfl⟩ := C
  intro H locs ls hP hD hS hl
  exact va_slen hx hb hX.1 hX.2.1 hX.2.2 hS d (K H locs ls hP hD hS hl)
theorem j_callSS (C : kC X cc Ts own rm nm l0 D ty nL) {a N : Nat} {f : Nat → Int32} (hX : kSc X a N f) {y : MethodName} {wl wl' : List Cond} {rm2 : Room} {As st0 : List Value} {post : Option Value → va_W → Prop} {mc ms ix maxL nA : Nat} {bytes : ByteArray} {ret : Option FieldType}
    (d : decode cc pc = .ok (.invokestatic ix, 3)) (hp : pc + 3 = pc') (hM : KMs l0 y wl rm2 D ty As [] a N f post mc ms) (hG : GoodIn Ts (va_wsS own ix y wl)) (hw : wl = Cond.code y bytes maxL ret :: wl')
    (hd : y.cls ≠ "java/lang/invoke/MethodHandle" ∧ y.cls ≠ "java/lang/invoke/VarHandle" ∧ (parseMethodDescriptor y.desc).map (fun d => d.parameters.length) = some nA) (hlen : As.length = nA)
    (hR : rm2.cells = mc ∧ rm2.slots = ms ∧ rm2.frames + 1 ≤ rm.frames ∧ 8 + (maxL + 11) + rm2.locals ≤ rm.locals)
    (isR : List Nat) (hRr : isR.map (fun i => ws[i]?) = ws.map some) (hn : va_nd isR = true)
    (hst : st0 = As.reverse ++ st) (hcat : (st.map fun v => v.category).sum ≤ 8) (hf : k + mc ≤ rm.cells ∧ n + ms ≤ rm.slots)
    (K : ∀ (v : Option Value) (u : va_W), post v u → J X (ws ++ u) lv pc' (v.toList ++ st) (k + mc) (n + ms)) : J X ws lv pc st0 k n := by
  subst hp
  obtain ⟨p, l, e, R, s, m, args, below, meth, c, nL, D, ty, A, Q⟩ := X
  obtain ⟨hx, hb, hml, hown, hts, hA, hK, hE, hlk, rfl, rfl, rfl, rfl, rfl, rfl⟩ := C
  intro H locs ls hP hD hS hl
  obtain ⟨hrc, hrs, hRf⟩ := hR
  have hC0 : ([] : List Nat).map (fun i => ws[i]?) = ([] : va_W).map some := rfl
  obtain ⟨hX1, hX2, hX3⟩ := hX
  refine k_back (e := e) hA hP hD hS [] isR hC0 hRr hn (fun i _ h => by cases h) (va_runS (As := As) (rest := st) ⟨hx, hb, hml, hown, hts⟩ (hM H.size) (va_cwS nA hts hG hw hrc hrs hd hRf) ⟨kPreS_blind _ _ _ _ _ _ _ _, fun U hU hW => ⟨k_start (p := p) (l := l) (e := e) hA hK hE hP hD hS [] rfl hC0 U hU hW, ?_, Nat.lt_of_lt_of_le hX2 hS.1, ?_⟩⟩ rfl hlen hl.1 hst (lv_room hcat) d hf) (fun v u H1 locs1 hpost h1 h2 h3 => ?_)
  · rw [hU]
    exact va_X.moved hW.alike (hX1.kept (hS.2.1 a hX2 hX3))
  · rintro (⟨k', e', h⟩ | h)
    · cases h
    · have := Nat.lt_of_lt_of_le hX2 hS.1
      omega
  · exact K v u hpost H1 locs1 ls h1 h2 h3 hl
/-- the law's surroundings: it gives back true -/
def kLw (X : kX) (b : Nat) : Prop :=
  match X with
  | (_, _, _, R, s, _, args, below, meth, c, _, _, _, A, Q) => (∀ q, A q → s.heap.size ≤ q) ∧ args = #[Value.ref b] ∧ meth.sig.returnType = ret ∧ c.code = code ∧ R = room_1 ∧ Q = lw_Z below #[Value.ref b] s
theorem j_end (C : kC X cc Ts own rm nm l0 D ty nL) {b : Nat} (hw : kLw X b) (d : decode code pc = .ok (.ireturn, 1)) (hk : k ≤ 601024 ∧ n ≤ 7293000) : J X ws lv pc [.int 1] k n := by
  obtain ⟨p, l, e, R, s, m, args, below, meth, c, nL, D, ty, A, Q⟩ := X
  obtain ⟨hx, hb, hml, hown, hts, hA, hK, hE, hlk, -⟩ := C
  obtain ⟨hA2, rfl, hr, hcode, rfl, rfl⟩ := hw
  intro H locs ls hP hD hS hl
  refine va_forget (fun q hq => hA2 _ (hS.2.2 q hq)) ?_
  refine W.widen hk.1 hk.2 ?_
  refine W.base ?_
  exact lw_ret (Drawn.sameBut.refl s.drawn lw_cs) hx hcode hr hlk d
end KSCR
