/-! numbers of the constant pools that the printed names leave out (by program) -/
abbrev kStrs : List (Nat × String) := [(75, "no such place or channel"), (82, "no such sample"), (103, "no such channel"), (116, "no such place"), (122, "the scale is not 0 .. 4"), (126, "no such scale"), (140, "no cell has its middle there"), (146, "the size is not 2 .. 24"), (172, "no such corpus"), (178, "the number is not -1000000 .. 1000000"), (186, "the corpus has 200 numbers"), (192, "nothing was noted"), (197, "no such corpus or note")]
abbrev kWix : Nat := 45
abbrev kWlink : Cond := .fieldLinkNest RX3 45 "VisualSums" "WEIGHTS" "[I" "VisualSums"
abbrev kNix : Nat := 64
abbrev kNlink : Cond := .methodLinkNest RX4 64 yX0_init "VisualSums"
/-! J: the kit's judgement with the heap, the written places and the locals' array hidden; worlds, locals, stack stand as lists. -/
/-- what a body stands in: program, launch, env, room, start, method, args, frames below, its method, its code, its number of locals, the tables' numbers, the classes of arrays, what it may write, where it goes -/
abbrev kX : Type := Program × Launch × Env × Room × State × MethodId × Array Value × List Frame × Method × Code × Nat × va_G × (Nat → ClassId) × (Nat → Prop) × (State → Prop)
abbrev kTY (ty : Nat → ClassId) : List (ClassId × FieldType) := [(ty 0, .int), (ty 1, .double), (ty 2, .boolean), (ty 3, .long), (ty 4, .object RX0)]
def kWT : Nat → Value := fun j => .int (([1, 4, 6, 4, 1] : List Int32).getD j 0)
abbrev kIOB : String := "java/lang/IndexOutOfBoundsException"
abbrev kIAE : String := "java/lang/IllegalArgumentException"
abbrev kISE : String := "java/lang/IllegalStateException"
abbrev kUOE : String := "java/lang/UnsupportedOperationException"
abbrev kXs : List String := [kIOB, kIAE, kISE, kUOE]
abbrev kYs : List String := ["java/lang/RuntimeException", "java/lang/Exception", Bundle.tN]
/-- the surroundings that nobody writes: the table of weights, what the making of an exception reads, texts, rows of the tables that move by a law of their own -/
def kE (A : Nat → Prop) (U : State) (H : Heap) : Prop :=
  (∃ t : Nat, va_Z "VisualSums" "WEIGHTS" "[I" (.ref t) A U H ∧ va_T .int t 5 kWT A U H) ∧
  vx_Zq Bundle.tN "UNASSIGNED_STACK" Bundle.steD A U H ∧ vx_Zq Bundle.tN "SUPPRESSED_SENTINEL" Bundle.listD A U H ∧
  va_Nw kWlink U ∧ va_Nw kNlink U ∧
  (∀ E ∈ kXs, va_Nw (.castable E E) U) ∧ (∀ E ∈ kXs, ∀ F ∈ kXs, E ≠ F → va_Nc E F U) ∧
  (∀ q ∈ kStrs, ∃ sa : Nat, vk_R RX4 q.1 q.2 sa U) ∧ va_AO RX0 U ∧ (∀ Y ∈ kYs, va_Nw (.declares (Bundle.initS Y)) U)
theorem kE.narrow {A B : Nat → Prop} {U : State} {H : Heap} (h : kE A U H) (hAB : ∀ q, B q → A q) : kE B U H := by
  obtain ⟨⟨t, h1, h2⟩, h3, h4, h5⟩ := h
  exact ⟨⟨t, h1.narrow hAB, h2.narrow hAB⟩, h3.narrow hAB, h4.narrow hAB, h5⟩
theorem kE.kept {A : Nat → Prop} {U : State} {H H1 : Heap} (h : kE A U H) (hq : ∀ a : Nat, a < H.size → ¬ A a → H1[a]? = H[a]?) : kE A U H1 := by
  obtain ⟨⟨t, h1, h2⟩, h3, h4, h5⟩ := h
  exact ⟨⟨t, h1.kept hq, h2.kept hq⟩, h3.kept hq, h4.kept hq, h5⟩
theorem kE.moved {A : Nat → Prop} {s U : State} {H : Heap} (hW : s.WarmedH U.vm) (h : kE A s H) : kE A U H := by
  obtain ⟨⟨t, h1, h2⟩, h3, h4, h5, h6, h7, h8, h9, h10, h11⟩ := h
  have hv := hW.alike
  exact ⟨⟨t, h1.moved hv, h2.moved hv⟩, h3.moved hv, h4.moved hv, va_Nw.warmF hW h5, va_Nw.warmM hW h6, fun E hE => va_Nw.warmC hW (h7 E hE), fun E hE F hF hn => (h8 E hE F hF hn).moved hv, fun q hq => (by obtain ⟨sa, hs⟩ := h9 q hq; exact ⟨sa, hs.warm hW⟩), h10.moved hv, fun Y hY => va_Nw.warmD hW (h11 Y hY)⟩
theorem kE.same {A : Nat → Prop} {u U : State} {H : Heap} (hv : U.vm = u.vm) (h : kE A u H) : kE A U H := by
  obtain ⟨⟨t, h1, h2⟩, h3, h4, h5, h6, h7, h8, h9, h10, h11⟩ := h
  have ha : u.vm.Alike U.vm := by rw [hv]; exact Vm.Alike.refl u.vm
  exact ⟨⟨t, h1.moved ha, h2.moved ha⟩, h3.moved ha, h4.moved ha, va_Nw.same rfl hv.symm h5, va_Nw.same rfl hv.symm h6, fun E hE => va_Nw.same rfl hv.symm (h7 E hE), fun E hE F hF hn => (h8 E hE F hF hn).moved ha, fun q hq => (by obtain ⟨sa, hs⟩ := h9 q hq; exact ⟨sa, hs.same hv⟩), h10.moved ha, fun Y hY => va_Nw.same rfl hv.symm (h11 Y hY)⟩
/-- a method's start: its world, at a heap of sz cells -/
def kPre (D : va_G) (ty : Nat → ClassId) (av : List Value) (sz : Nat) (ws : va_W) : Array Value → State → Prop := va_Pc av (fun U => U.heap.size = sz ∧ va_P D vwCl ws U.heap ∧ va_K D vwCl (kTY ty) U ∧ va_D (fun _ => True) ws ∧ kE (va_A ws sz) U U.heap)
/-- its end: an answer and a world, of which post holds -/
def kQ (D : va_G) (post : Option Value → va_W → Prop) (A : Nat → Prop) : Array Value → State → Outcome → State → Prop := fun _ st oc t => (∃ (v : Option Value) (u : va_W), oc = .returned v ∧ post v u ∧ va_P D vwCl u t.heap ∧ va_D A u) ∧ va_F A st t
def KM (l : Launch) (y : MethodName) (wl : List Cond) (rm : Room) (D : va_G) (ty : Nat → ClassId) (av : List Value) (ws : va_W) (post : Option Value → va_W → Prop) (mc ms : Nat) : Prop :=
  ∀ sz : Nat, Met l y wl rm (kPre D ty av sz ws) (kQ D post (va_A ws sz)) mc ms (va_A ws sz)
/-- where it throws: of the class E, in a world of which px holds -/
def kXC (D : va_G) (px : String → va_W → Prop) (A : Nat → Prop) : String → State → State → Prop := fun E st t => ∃ u : va_W, px E u ∧ va_P D vwCl u t.heap ∧ va_D A u ∧ va_F A st t
def KT (l : Launch) (y : MethodName) (wl : List Cond) (rm : Room) (D : va_G) (ty : Nat → ClassId) (av : List Value) (ws : va_W) (post : Option Value → va_W → Prop) (px : String → va_W → Prop) (mc ms : Nat) : Prop :=
  ∀ sz : Nat, vx_Met l y wl rm (kPre D ty av sz ws) (kQ D post (va_A ws sz)) (kXC D px (va_A ws sz)) mc ms (va_A ws sz)
abbrev kI (post : Int32 → va_W → Prop) : Option Value → va_W → Prop := fun v u => ∃ r : Int32, v = some (.int r) ∧ post r u
abbrev kL (post : Int64 → va_W → Prop) : Option Value → va_W → Prop := fun v u => ∃ r : Int64, v = some (.long r) ∧ post r u
abbrev kF (post : UInt64 → va_W → Prop) : Option Value → va_W → Prop := fun v u => ∃ r : UInt64, v = some (.double r) ∧ post r u
abbrev kV (post : va_W → Prop) : Option Value → va_W → Prop := fun v u => v = none ∧ post u
abbrev kA (post : Value → va_W → Prop) : Option Value → va_W → Prop := fun v u => ∃ r : Value, v = some r ∧ post r u
def J (X : kX) (ws : va_W) (lv : List (Nat × Value)) (pc : Nat) (st : List Value) (k n : Nat) : Prop :=
  match X with
  | (p, l, e, R, s, m, args, below, meth, c, nL, D, _, A, Q) => ∀ (H : Heap) (locs : List Loc) (ls : Array Slot), va_P D vwCl ws H → va_D A ws → va_S A s.heap H locs → lv_has ls nL lv → W p l e R s m args below meth c H locs k n Q (F0 m pc ls st)
/-- what is known of the surroundings: the code's bytes, the words, the class, the room, the name, the launch, the tables -/
def kC (X : kX) (cc : ByteArray) (Ts : List Cond) (own : String) (rm : Room) (nm : String) (l0 : Launch) (D0 : va_G) (ty0 : Nat → ClassId) (nL0 : Nat) : Prop :=
  match X with
  | (p, l, _, R, s, m, args, _, meth, c, nL, D, ty, A, _) => p.tables.exec = Jvm.exec ∧ c.code = cc ∧ c.maxLocals = nL ∧ s.vm.findClass own = some m.cls ∧ (∀ w ∈ Ts, w.before args s = true) ∧ (∀ q, s.heap.size ≤ q → A q) ∧ va_K D vwCl (kTY ty) s ∧ kE A s s.heap ∧ meth.locks = false ∧ R = rm ∧ meth.name = nm ∧ l = l0 ∧ D = D0 ∧ ty = ty0 ∧ nL = nL0
/-- where a body goes: to its end, with post -/
def kR (X : kX) (ret : Option FieldType) (post : Option Value → va_W → Prop) (mc ms : Nat) : Prop :=
  match X with
  | (_, _, _, _, s, _, args, below, meth, _, _, D, _, A, Q) => meth.sig.returnType = ret ∧ Q = MQ below (kQ D post A) args s mc ms A
/-- to its end with post, or out with px -/
def kRT (X : kX) (ret : Option FieldType) (post : Option Value → va_W → Prop) (px : String → va_W → Prop) (mc ms : Nat) : Prop :=
  match X with
  | (_, l, _, _, s, _, args, below, meth, c, _, D, _, A, Q) => meth.sig.returnType = ret ∧ Q = vx_MQ below (kQ D post A) (kXC D px A) args s mc ms A ∧ (∀ x ∈ c.exceptionTable.toList, False) ∧ l.stackTraces = false
section KJ
variable {X : kX} {cc : ByteArray} {Ts : List Cond} {own nm : String} {rm : Room} {l0 : Launch} {D : va_G} {ty : Nat → ClassId} {nL : Nat}
variable {ws : va_W} {lv : List (Nat × Value)} {pc pc' : Nat} {st : List Value} {k n : Nat}
/-! locals by their number; a store keeps them in order -/
def kget : List (Nat × Value) → Nat → Option Value
  | [], _ => none
  | (j, v) :: l, i => bif Nat.beq j i then some v else kget l i
def kins : List (Nat × Value) → Nat → Value → List (Nat × Value)
  | [], i, v => [(i, v)]
  | (j, w) :: l, i, v => bif Nat.blt i j then (i, v) :: (j, w) :: l else (j, w) :: kins l i v
abbrev kput1 (lv : List (Nat × Value)) (i : Nat) (v : Value) : List (Nat × Value) := kins (lv.filter (fun q => !(q.1 == i) && !(q.1 + 1 == i && q.2.category == 2))) i v
abbrev kput2 (lv : List (Nat × Value)) (i : Nat) (v : Value) : List (Nat × Value) := kins (lv.filter (fun q => !(q.1 == i) && (!(q.1 == i + 1) && !(q.1 + 1 == i && q.2.category == 2)))) i v
theorem kget_mem : ∀ {l : List (Nat × Value)} {i : Nat} {v : Value}, kget l i = some v → (i, v) ∈ l
  | [], _, _, h => by cases h
  | (j, w) :: l, i, v, h => by
    unfold kget at h
    cases hb : Nat.beq j i with
    | true =>
      rw [hb] at h
      have e := Nat.eq_of_beq_eq_true hb
      subst e
      cases h
      exact List.mem_cons_self
    | false =>
      rw [hb] at h
      exact List.mem_cons_of_mem _ (kget_mem h)
theorem kins_mem : ∀ {l : List (Nat × Value)} {i : Nat} {v : Value} {q : Nat × Value}, q ∈ kins l i v → q ∈ (i, v) :: l
  | [], i, v, q, h => h
  | (j, w) :: l, i, v, q, h => by
    unfold kins at h
    cases hb : Nat.blt i j with
    | true => rw [hb] at h; exact h
    | false =>
      rw [hb] at h
      rcases List.mem_cons.mp h with h | h
      · exact List.mem_cons_of_mem _ (by rw [h]; exact List.mem_cons_self)
      · rcases List.mem_cons.mp (kins_mem h) with h | h
        · rw [h]; exact List.mem_cons_self
        · exact List.mem_cons_of_mem _ (List.mem_cons_of_mem _ h)
theorem kget_at {ls : Array Slot} {nL : Nat} {l : List (Nat × Value)} {i : Nat} {v : Value} (h : lv_has ls nL l) (hk : kget l i = some v) : ls[i]? = some (.val v) := h.2.2 (i, v) (kget_mem hk)
theorem kins_has {ls : Array Slot} {nL : Nat} {l : List (Nat × Value)} {i : Nat} {v : Value} (h : lv_has ls nL ((i, v) :: l)) : lv_has ls nL (kins l i v) := ⟨h.1, h.2.1, fun q hq => h.2.2 q (kins_mem hq)⟩
theorem klv_sub {ls : Array Slot} {nL : Nat} {l l' : List (Nat × Value)} (h : lv_has ls nL l) (hs : ∀ q ∈ l', q ∈ l) : lv_has ls nL l' := ⟨h.1, h.2.1, fun q hq => h.2.2 q (hs q hq)⟩
def kpick (l : List (Nat × Value)) (is : List Nat) : List (Option (Nat × Value)) := is.map (fun i => (kget l i).map (fun v => (i, v)))
theorem kpick_mem {l l' : List (Nat × Value)} {is : List Nat} (h : kpick l is = l'.map some) : ∀ q ∈ l', q ∈ l := by
  intro q hq
  have h1 : some q ∈ kpick l is := by rw [h]; exact List.mem_map.mpr ⟨q, hq, rfl⟩
  obtain ⟨i, -, hi⟩ := List.mem_map.mp h1
  cases hg : kget l i with
  | none => rw [hg] at hi; cases hi
  | some v =>
    rw [hg] at hi
    cases hi
    exact kget_mem hg
/-! fewer locals, another order of the world, another writing of the same -/
theorem J.lvs {lv' : List (Nat × Value)} (is : List Nat) (h : kpick lv is = lv'.map some) (K : J X ws lv' pc st k n) : J X ws lv pc st k n := by
  obtain ⟨p, l, e, R, s, m, args, below, meth, c, nL, D, ty, A, Q⟩ := X
  intro H locs ls hP hD hS hl
  exact K H locs ls hP hD hS (klv_sub hl (kpick_mem h))
theorem J.sub {ws' : va_W} (is : List Nat) (hn : va_nd is = true) (hs : is.map (fun i => ws[i]?) = ws'.map some) (K : J X ws' lv pc st k n) : J X ws lv pc st k n := by
  obtain ⟨p, l, e, R, s, m, args, below, meth, c, nL, D, ty, A, Q⟩ := X
  intro H locs ls hP hD hS hl
  refine K H locs ls (fun j q hq => ?_) (hD.sub is hn hs) hS hl
  have h1 : (is.map (fun i => ws[i]?))[j]? = some (some q) := by rw [hs, List.getElem?_map, hq]; rfl
  rw [List.getElem?_map] at h1
  cases hi : is[j]? with
  | none => rw [hi] at h1; cases h1
  | some i => rw [hi] at h1; exact hP i q (Option.some.inj h1)
theorem J.widen {k' n' : Nat} (h1 : k ≤ k') (h2 : n ≤ n') (K : J X ws lv pc st k' n') : J X ws lv pc st k n := by
  obtain ⟨p, l, e, R, s, m, args, below, meth, c, nL, D, ty, A, Q⟩ := X
  intro H locs ls hP hD hS hl
  exact W.widen h1 h2 (K H locs ls hP hD hS hl)
/-- the cells of the world lie apart -/
theorem J.apart (K : va_D (fun _ => True) ws → J X ws lv pc st k n) : J X ws lv pc st k n := by
  obtain ⟨p, l, e, R, s, m, args, below, meth, c, nL, D, ty, A, Q⟩ := X
  intro H locs ls hP hD hS hl
  exact K (hD.weaken (fun _ _ _ _ => trivial)) H locs ls hP hD hS hl
theorem J.cast {ws' : va_W} {lv' : List (Nat × Value)} {st' : List Value} {k' n' : Nat} (h1 : ws = ws') (h2 : lv = lv') (h3 : pc = pc') (h4 : st = st') (h5 : k = k') (h6 : n = n') (K : J X ws' lv' pc' st' k' n') : J X ws lv pc st k n := by
  subst h1 h2 h3 h4 h5 h6
  exact K

theorem j_iconst (C : kC X cc Ts own rm nm l0 D ty nL) {i : Int} {v : Int32} (d : decode cc pc = .ok (.iconst i, 1)) (hp : pc + 1 = pc') (hv : Int32.ofInt i = v) (K : J X ws lv pc' (.int v :: st) k n) : J X ws lv pc (st) k n := by
  subst hp
  obtain ⟨p, l, e, R, s, m, args, below, meth, c, nL, D, ty, A, Q⟩ := X
  obtain ⟨hx, hb, hml, hown, hts, hA, hK, hE, hlk, rfl, rfl, rfl, rfl, rfl, rfl⟩ := C
  intro H locs ls hP hD hS hl
  exact lv_iconst hx hb d hv (K H locs ls hP hD hS hl)
theorem j_bipush (C : kC X cc Ts own rm nm l0 D ty nL) {i : Int} {v : Int32} (d : decode cc pc = .ok (.bipush i, 2)) (hp : pc + 2 = pc') (hv : (Int8.ofInt i).toInt32 = v) (K : J X ws lv pc' (.int v :: st) k n) : J X ws lv pc (st) k n := by
  subst hp
  obtain ⟨p, l, e, R, s, m, args, below, meth, c, nL, D, ty, A, Q⟩ := X
  obtain ⟨hx, hb, hml, hown, hts, hA, hK, hE, hlk, rfl, rfl, rfl, rfl, rfl, rfl⟩ := C
  intro H locs ls hP hD hS hl
  exact lv_bipush hx hb d hv (K H locs ls hP hD hS hl)
theorem j_sipush (C : kC X cc Ts own rm nm l0 D ty nL) {i : Int} {v : Int32} (d : decode cc pc = .ok (.sipush i, 3)) (hp : pc + 3 = pc') (hv : (Int16.ofInt i).toInt32 = v) (K : J X ws lv pc' (.int v :: st) k n) : J X ws lv pc (st) k n := by
  subst hp
  obtain ⟨p, l, e, R, s, m, args, below, meth, c, nL, D, ty, A, Q⟩ := X
  obtain ⟨hx, hb, hml, hown, hts, hA, hK, hE, hlk, rfl, rfl, rfl, rfl, rfl, rfl⟩ := C
  intro H locs ls hP hD hS hl
  exact lv_sipush hx hb d hv (K H locs ls hP hD hS hl)
theorem j_lconst (C : kC X cc Ts own rm nm l0 D ty nL) {i : Fin 2} {v : Int64} (d : decode cc pc = .ok (.lconst i, 1)) (hp : pc + 1 = pc') (hv : Int64.ofNat (i : Nat) = v) (K : J X ws lv pc' (.long v :: st) k n) : J X ws lv pc (st) k n := by
  subst hp
  obtain ⟨p, l, e, R, s, m, args, below, meth, c, nL, D, ty, A, Q⟩ := X
  obtain ⟨hx, hb, hml, hown, hts, hA, hK, hE, hlk, rfl, rfl, rfl, rfl, rfl, rfl⟩ := C
  intro H locs ls hP hD hS hl
  exact lv_lconst hx hb d hv (K H locs ls hP hD hS hl)
theorem j_dconst0 (C : kC X cc Ts own rm nm l0 D ty nL) (d : decode cc pc = .ok (.dconst 0, 1)) (hp : pc + 1 = pc') (K : J X ws lv pc' (.double 0 :: st) k n) : J X ws lv pc (st) k n := by
  subst hp
  obtain ⟨p, l, e, R, s, m, args, below, meth, c, nL, D, ty, A, Q⟩ := X
  obtain ⟨hx, hb, hml, hown, hts, hA, hK, hE, hlk, rfl, rfl, rfl, rfl, rfl, rfl⟩ := C
  intro H locs ls hP hD hS hl
  exact lv_dconst0 hx hb d (K H locs ls hP hD hS hl)
theorem j_null (C : kC X cc Ts own rm nm l0 D ty nL) (d : decode cc pc = .ok (.aconst_null, 1)) (hp : pc + 1 = pc') (K : J X ws lv pc' (.null :: st) k n) : J X ws lv pc (st) k n := by
  subst hp
  obtain ⟨p, l, e, R, s, m, args, below, meth, c, nL, D, ty, A, Q⟩ := X
  obtain ⟨hx, hb, hml, hown, hts, hA, hK, hE, hlk, rfl, rfl, rfl, rfl, rfl, rfl⟩ := C
  intro H locs ls hP hD hS hl
  exact lv_null hx hb d (K H locs ls hP hD hS hl)
theorem j_iload_n (C : kC X cc Ts own rm nm l0 D ty nL) {f : Fin 4} {i : Nat} {x : Int32} (d : decode cc pc = .ok (.iload_n f, 1)) (hp : pc + 1 = pc') (hi : (f : Nat) = i) (hg : kget lv i = some (.int x)) (K : J X ws lv pc' (.int x :: st) k n) : J X ws lv pc (st) k n := by
  subst hp
  obtain ⟨p, l, e, R, s, m, args, below, meth, c, nL, D, ty, A, Q⟩ := X
  obtain ⟨hx, hb, hml, hown, hts, hA, hK, hE, hlk, rfl, rfl, rfl, rfl, rfl, rfl⟩ := C
  intro H locs ls hP hD hS hl
  exact lv_iload_n hx hb d hi (kget_at hl hg) (K H locs ls hP hD hS hl)
theorem j_iload (C : kC X cc Ts own rm nm l0 D ty nL) {i : Nat} {x : Int32} (d : decode cc pc = .ok (.iload i, 2)) (hp : pc + 2 = pc') (hg : kget lv i = some (.int x)) (K : J X ws lv pc' (.int x :: st) k n) : J X ws lv pc (st) k n := by
  subst hp
  obtain ⟨p, l, e, R, s, m, args, below, meth, c, nL, D, ty, A, Q⟩ := X
  obtain ⟨hx, hb, hml, hown, hts, hA, hK, hE, hlk, rfl, rfl, rfl, rfl, rfl, rfl⟩ := C
  intro H locs ls hP hD hS hl
  exact lv_iload hx hb d (kget_at hl hg) (K H locs ls hP hD hS hl)
theorem j_istore_n (C : kC X cc Ts own rm nm l0 D ty nL) {f : Fin 4} {i : Nat} {x : Int32} {lv' : List (Nat × Value)} (d : decode cc pc = .ok (.istore_n f, 1)) (hp : pc + 1 = pc') (hi : (f : Nat) = i) (hn : i < nL) (hl' : kput1 lv i (.int x) = lv') (K : J X ws lv' pc' st k n) : J X ws lv pc (.int x :: st) k n := by
  subst hp
  obtain ⟨p, l, e, R, s, m, args, below, meth, c, nL, D, ty, A, Q⟩ := X
  obtain ⟨hx, hb, hml, hown, hts, hA, hK, hE, hlk, rfl, rfl, rfl, rfl, rfl, rfl⟩ := C
  intro H locs ls hP hD hS hl
  refine lv_istore_n hx hb d hi hl hn rfl (fun ls2 hl2 => ?_)
  exact K H locs ls2 hP hD hS (hl' ▸ kins_has hl2)
theorem j_istore (C : kC X cc Ts own rm nm l0 D ty nL) {i : Nat} {x : Int32} {lv' : List (Nat × Value)} (d : decode cc pc = .ok (.istore i, 2)) (hp : pc + 2 = pc') (hn : i < nL) (hl' : kput1 lv i (.int x) = lv') (K : J X ws lv' pc' st k n) : J X ws lv pc (.int x :: st) k n := by
  subst hp
  obtain ⟨p, l, e, R, s, m, args, below, meth, c, nL, D, ty, A, Q⟩ := X
  obtain ⟨hx, hb, hml, hown, hts, hA, hK, hE, hlk, rfl, rfl, rfl, rfl, rfl, rfl⟩ := C
  intro H locs ls hP hD hS hl
  refine lv_istore hx hb d hl hn rfl (fun ls2 hl2 => ?_)
  exact K H locs ls2 hP hD hS (hl' ▸ kins_has hl2)
theorem j_lload_n (C : kC X cc Ts own rm nm l0 D ty nL) {f : Fin 4} {i : Nat} {x : Int64} (d : decode cc pc = .ok (.lload_n f, 1)) (hp : pc + 1 = pc') (hi : (f : Nat) = i) (hg : kget lv i = some (.long x)) (K : J X ws lv pc' (.long x :: st) k n) : J X ws lv pc (st) k n := by
  subst hp
  obtain ⟨p, l, e, R, s, m, args, below, meth, c, nL, D, ty, A, Q⟩ := X
  obtain ⟨hx, hb, hml, hown, hts, hA, hK, hE, hlk, rfl, rfl, rfl, rfl, rfl, rfl⟩ := C
  intro H locs ls hP hD hS hl
  exact lv_lload_n hx hb d hi (kget_at hl hg) (K H locs ls hP hD hS hl)
theorem j_lload (C : kC X cc Ts own rm nm l0 D ty nL) {i : Nat} {x : Int64} (d : decode cc pc = .ok (.lload i, 2)) (hp : pc + 2 = pc') (hg : kget lv i = some (.long x)) (K : J X ws lv pc' (.long x :: st) k n) : J X ws lv pc (st) k n := by
  subst hp
  obtain ⟨p, l, e, R, s, m, args, below, meth, c, nL, D, ty, A, Q⟩ := X
  obtain ⟨hx, hb, hml, hown, hts, hA, hK, hE, hlk, rfl, rfl, rfl, rfl, rfl, rfl⟩ := C
  intro H locs ls hP hD hS hl
  exact lv_lload hx hb d (kget_at hl hg) (K H locs ls hP hD hS hl)
theorem j_lstore_n (C : kC X cc Ts own rm nm l0 D ty nL) {f : Fin 4} {i : Nat} {x : Int64} {lv' : List (Nat × Value)} (d : decode cc pc = .ok (.lstore_n f, 1)) (hp : pc + 1 = pc') (hi : (f : Nat) = i) (hn : i + 1 < nL) (hl' : kput2 lv i (.long x) = lv') (K : J X ws lv' pc' st k n) : J X ws lv pc (.long x :: st) k n := by
  subst hp
  obtain ⟨p, l, e, R, s, m, args, below, meth, c, nL, D, ty, A, Q⟩ := X
  obtain ⟨hx, hb, hml, hown, hts, hA, hK, hE, hlk, rfl, rfl, rfl, rfl, rfl, rfl⟩ := C
  intro H locs ls hP hD hS hl
  refine lv_lstore_n hx hb d hi hl hn rfl (fun ls2 hl2 => ?_)
  exact K H locs ls2 hP hD hS (hl' ▸ kins_has hl2)
theorem j_lstore (C : kC X cc Ts own rm nm l0 D ty nL) {i : Nat} {x : Int64} {lv' : List (Nat × Value)} (d : decode cc pc = .ok (.lstore i, 2)) (hp : pc + 2 = pc') (hn : i + 1 < nL) (hl' : kput2 lv i (.long x) = lv') (K : J X ws lv' pc' st k n) : J X ws lv pc (.long x :: st) k n := by
  subst hp
  obtain ⟨p, l, e, R, s, m, args, below, meth, c, nL, D, ty, A, Q⟩ := X
  obtain ⟨hx, hb, hml, hown, hts, hA, hK, hE, hlk, rfl, rfl, rfl, rfl, rfl, rfl⟩ := C
  intro H locs ls hP hD hS hl
  refine lv_lstore hx hb d hl hn rfl (fun ls2 hl2 => ?_)
  exact K H locs ls2 hP hD hS (hl' ▸ kins_has hl2)
theorem j_aload_n (C : kC X cc Ts own rm nm l0 D ty nL) {f : Fin 4} {i : Nat} {x : Nat} (d : decode cc pc = .ok (.aload_n f, 1)) (hp : pc + 1 = pc') (hi : (f : Nat) = i) (hg : kget lv i = some (.ref x)) (K : J X ws lv pc' (.ref x :: st) k n) : J X ws lv pc (st) k n := by
  subst hp
  obtain ⟨p, l, e, R, s, m, args, below, meth, c, nL, D, ty, A, Q⟩ := X
  obtain ⟨hx, hb, hml, hown, hts, hA, hK, hE, hlk, rfl, rfl, rfl, rfl, rfl, rfl⟩ := C
  intro H locs ls hP hD hS hl
  exact lv_aload_n hx hb d hi (kget_at hl hg) (K H locs ls hP hD hS hl)
theorem j_aload (C : kC X cc Ts own rm nm l0 D ty nL) {i : Nat} {x : Nat} (d : decode cc pc = .ok (.aload i, 2)) (hp : pc + 2 = pc') (hg : kget lv i = some (.ref x)) (K : J X ws lv pc' (.ref x :: st) k n) : J X ws lv pc (st) k n := by
  subst hp
  obtain ⟨p, l, e, R, s, m, args, below, meth, c, nL, D, ty, A, Q⟩ := X
  obtain ⟨hx, hb, hml, hown, hts, hA, hK, hE, hlk, rfl, rfl, rfl, rfl, rfl, rfl⟩ := C
  intro H locs ls hP hD hS hl
  exact lv_aload hx hb d (kget_at hl hg) (K H locs ls hP hD hS hl)
theorem j_astore_n (C : kC X cc Ts own rm nm l0 D ty nL) {f : Fin 4} {i : Nat} {x : Nat} {lv' : List (Nat × Value)} (d : decode cc pc = .ok (.astore_n f, 1)) (hp : pc + 1 = pc') (hi : (f : Nat) = i) (hn : i < nL) (hl' : kput1 lv i (.ref x) = lv') (K : J X ws lv' pc' st k n) : J X ws lv pc (.ref x :: st) k n := by
  subst hp
  obtain ⟨p, l, e, R, s, m, args, below, meth, c, nL, D, ty, A, Q⟩ := X
  obtain ⟨hx, hb, hml, hown, hts, hA, hK, hE, hlk, rfl, rfl, rfl, rfl, rfl, rfl⟩ := C
  intro H locs ls hP hD hS hl
  refine lv_astore_n hx hb d hi hl hn rfl (fun ls2 hl2 => ?_)
  exact K H locs ls2 hP hD hS (hl' ▸ kins_has hl2)
theorem j_astore (C : kC X cc Ts own rm nm l0 D ty nL) {i : Nat} {x : Nat} {lv' : List (Nat × Value)} (d : decode cc pc = .ok (.astore i, 2)) (hp : pc + 2 = pc') (hn : i < nL) (hl' : kput1 lv i (.ref x) = lv') (K : J X ws lv' pc' st k n) : J X ws lv pc (.ref x :: st) k n := by
  subst hp
  obtain ⟨p, l, e, R, s, m, args, below, meth, c, nL, D, ty, A, Q⟩ := X
  obtain ⟨hx, hb, hml, hown, hts, hA, hK, hE, hlk, rfl, rfl, rfl, rfl, rfl, rfl⟩ := C
  intro H locs ls hP hD hS hl
  refine lv_astore hx hb d hl hn rfl (fun ls2 hl2 => ?_)
  exact K H locs ls2 hP hD hS (hl' ▸ kins_has hl2)
theorem j_dload_n (C : kC X cc Ts own rm nm l0 D ty nL) {f : Fin 4} {i : Nat} {x : UInt64} (d : decode cc pc = .ok (.dload_n f, 1)) (hp : pc + 1 = pc') (hi : (f : Nat) = i) (hg : kget lv i = some (.double x)) (K : J X ws lv pc' (.double x :: st) k n) : J X ws lv pc (st) k n := by
  subst hp
  obtain ⟨p, l, e, R, s, m, args, below, meth, c, nL, D, ty, A, Q⟩ := X
  obtain ⟨hx, hb, hml, hown, hts, hA, hK, hE, hlk, rfl, rfl, rfl, rfl, rfl, rfl⟩ := C
  intro H locs ls hP hD hS hl
  exact lv_dload_n hx hb d hi (kget_at hl hg) (K H locs ls hP hD hS hl)
theorem j_dload (C : kC X cc Ts own rm nm l0 D ty nL) {i : Nat} {x : UInt64} (d : decode cc pc = .ok (.dload i, 2)) (hp : pc + 2 = pc') (hg : kget lv i = some (.double x)) (K : J X ws lv pc' (.double x :: st) k n) : J X ws lv pc (st) k n := by
  subst hp
  obtain ⟨p, l, e, R, s, m, args, below, meth, c, nL, D, ty, A, Q⟩ := X
  obtain ⟨hx, hb, hml, hown, hts, hA, hK, hE, hlk, rfl, rfl, rfl, rfl, rfl, rfl⟩ := C
  intro H locs ls hP hD hS hl
  exact lv_dload hx hb d (kget_at hl hg) (K H locs ls hP hD hS hl)
theorem j_dstore_n (C : kC X cc Ts own rm nm l0 D ty nL) {f : Fin 4} {i : Nat} {x : UInt64} {lv' : List (Nat × Value)} (d : decode cc pc = .ok (.dstore_n f, 1)) (hp : pc + 1 = pc') (hi : (f : Nat) = i) (hn : i + 1 < nL) (hl' : kput2 lv i (.double x) = lv') (K : J X ws lv' pc' st k n) : J X ws lv pc (.double x :: st) k n := by
  subst hp
  obtain ⟨p, l, e, R, s, m, args, below, meth, c, nL, D, ty, A, Q⟩ := X
  obtain ⟨hx, hb, hml, hown, hts, hA, hK, hE, hlk, rfl, rfl, rfl, rfl, rfl, rfl⟩ := C
  intro H locs ls hP hD hS hl
  refine lv_dstore_n hx hb d hi hl hn rfl (fun ls2 hl2 => ?_)
  exact K H locs ls2 hP hD hS (hl' ▸ kins_has hl2)
theorem j_dstore (C : kC X cc Ts own rm nm l0 D ty nL) {i : Nat} {x : UInt64} {lv' : List (Nat × Value)} (d : decode cc pc = .ok (.dstore i, 2)) (hp : pc + 2 = pc') (hn : i + 1 < nL) (hl' : kput2 lv i (.double x) = lv') (K : J X ws lv' pc' st k n) : J X ws lv pc (.double x :: st) k n := by
  subst hp
  obtain ⟨p, l, e, R, s, m, args, below, meth, c, nL, D, ty, A, Q⟩ := X
  obtain ⟨hx, hb, hml, hown, hts, hA, hK, hE, hlk, rfl, rfl, rfl, rfl, rfl, rfl⟩ := C
  intro H locs ls hP hD hS hl
  refine lv_dstore hx hb d hl hn rfl (fun ls2 hl2 => ?_)
  exact K H locs ls2 hP hD hS (hl' ▸ kins_has hl2)
theorem j_aload_nN (C : kC X cc Ts own rm nm l0 D ty nL) {f : Fin 4} {i : Nat} (d : decode cc pc = .ok (.aload_n f, 1)) (hp : pc + 1 = pc') (hi : (f : Nat) = i) (hg : kget lv i = some .null) (K : J X ws lv pc' (.null :: st) k n) : J X ws lv pc (st) k n := by
  subst hp
  obtain ⟨p, l, e, R, s, m, args, below, meth, c, nL, D, ty, A, Q⟩ := X
  obtain ⟨hx, hb, hml, hown, hts, hA, hK, hE, hlk, rfl, rfl, rfl, rfl, rfl, rfl⟩ := C
  intro H locs ls hP hD hS hl
  exact lv_aload_nN hx hb d hi (kget_at hl hg) (K H locs ls hP hD hS hl)
theorem j_astore_nN (C : kC X cc Ts own rm nm l0 D ty nL) {f : Fin 4} {i : Nat} {lv' : List (Nat × Value)} (d : decode cc pc = .ok (.astore_n f, 1)) (hp : pc + 1 = pc') (hi : (f : Nat) = i) (hn : i < nL) (hl' : kput1 lv i .null = lv') (K : J X ws lv' pc' st k n) : J X ws lv pc (.null :: st) k n := by
  subst hp
  obtain ⟨p, l, e, R, s, m, args, below, meth, c, nL, D, ty, A, Q⟩ := X
  obtain ⟨hx, hb, hml, hown, hts, hA, hK, hE, hlk, rfl, rfl, rfl, rfl, rfl, rfl⟩ := C
  intro H locs ls hP hD hS hl
  refine lv_astore_nN hx hb d hi hl hn rfl (fun ls2 hl2 => ?_)
  exact K H locs ls2 hP hD hS (hl' ▸ kins_has hl2)
theorem j_aloadN (C : kC X cc Ts own rm nm l0 D ty nL) {i : Nat} (d : decode cc pc = .ok (.aload i, 2)) (hp : pc + 2 = pc') (hg : kget lv i = some .null) (K : J X ws lv pc' (.null :: st) k n) : J X ws lv pc (st) k n := by
  subst hp
  obtain ⟨p, l, e, R, s, m, args, below, meth, c, nL, D, ty, A, Q⟩ := X
  obtain ⟨hx, hb, hml, hown, hts, hA, hK, hE, hlk, rfl, rfl, rfl, rfl, rfl, rfl⟩ := C
  intro H locs ls hP hD hS hl
  exact lv_aloadN hx hb d (kget_at hl hg) (K H locs ls hP hD hS hl)
theorem j_astoreN (C : kC X cc Ts own rm nm l0 D ty nL) {i : Nat} {lv' : List (Nat × Value)} (d : decode cc pc = .ok (.astore i, 2)) (hp : pc + 2 = pc') (hn : i < nL) (hl' : kput1 lv i .null = lv') (K : J X ws lv' pc' st k n) : J X ws lv pc (.null :: st) k n := by
  subst hp
  obtain ⟨p, l, e, R, s, m, args, below, meth, c, nL, D, ty, A, Q⟩ := X
  obtain ⟨hx, hb, hml, hown, hts, hA, hK, hE, hlk, rfl, rfl, rfl, rfl, rfl, rfl⟩ := C
  intro H locs ls hP hD hS hl
  refine lv_astoreN hx hb d hl hn rfl (fun ls2 hl2 => ?_)
  exact K H locs ls2 hP hD hS (hl' ▸ kins_has hl2)
theorem j_iinc (C : kC X cc Ts own rm nm l0 D ty nL) {i : Nat} {z : Int} {x v : Int32} {lv' : List (Nat × Value)} (d : decode cc pc = .ok (.iinc i z, 3)) (hp : pc + 3 = pc') (hg : kget lv i = some (.int x)) (hv : x + Int32.ofInt z = v) (hn : i < nL) (hl' : kput1 lv i (.int v) = lv') (K : J X ws lv' pc' st k n) : J X ws lv pc st k n := by
  subst hp
  obtain ⟨p, l, e, R, s, m, args, below, meth, c, nL, D, ty, A, Q⟩ := X
  obtain ⟨hx, hb, hml, hown, hts, hA, hK, hE, hlk, rfl, rfl, rfl, rfl, rfl, rfl⟩ := C
  intro H locs ls hP hD hS hl
  obtain ⟨j, hj⟩ := List.getElem?_of_mem (kget_mem hg)
  refine lv_iinc hx hb d hl hj hv hn rfl (fun ls2 hl2 => ?_)
  exact K H locs ls2 hP hD hS (hl' ▸ kins_has hl2)
theorem j_iadd (C : kC X cc Ts own rm nm l0 D ty nL) {x y : Int32} (d : decode cc pc = .ok (.iadd, 1)) (hp : pc + 1 = pc') (K : J X ws lv pc' (.int (x + y) :: st) k n) : J X ws lv pc (.int y :: .int x :: st) k n := by
  subst hp
  obtain ⟨p, l, e, R, s, m, args, below, meth, c, nL, D, ty, A, Q⟩ := X
  obtain ⟨hx, hb, hml, hown, hts, hA, hK, hE, hlk, rfl, rfl, rfl, rfl, rfl, rfl⟩ := C
  intro H locs ls hP hD hS hl
  exact lv_iadd hx hb d (K H locs ls hP hD hS hl)
theorem j_isub (C : kC X cc Ts own rm nm l0 D ty nL) {x y : Int32} (d : decode cc pc = .ok (.isub, 1)) (hp : pc + 1 = pc') (K : J X ws lv pc' (.int (x - y) :: st) k n) : J X ws lv pc (.int y :: .int x :: st) k n := by
  subst hp
  obtain ⟨p, l, e, R, s, m, args, below, meth, c, nL, D, ty, A, Q⟩ := X
  obtain ⟨hx, hb, hml, hown, hts, hA, hK, hE, hlk, rfl, rfl, rfl, rfl, rfl, rfl⟩ := C
  intro H locs ls hP hD hS hl
  exact lv_isub hx hb d (K H locs ls hP hD hS hl)
theorem j_imul (C : kC X cc Ts own rm nm l0 D ty nL) {x y : Int32} (d : decode cc pc = .ok (.imul, 1)) (hp : pc + 1 = pc') (K : J X ws lv pc' (.int (x * y) :: st) k n) : J X ws lv pc (.int y :: .int x :: st) k n := by
  subst hp
  obtain ⟨p, l, e, R, s, m, args, below, meth, c, nL, D, ty, A, Q⟩ := X
  obtain ⟨hx, hb, hml, hown, hts, hA, hK, hE, hlk, rfl, rfl, rfl, rfl, rfl, rfl⟩ := C
  intro H locs ls hP hD hS hl
  exact lv_imul hx hb d (K H locs ls hP hD hS hl)
theorem j_iand (C : kC X cc Ts own rm nm l0 D ty nL) {x y : Int32} (d : decode cc pc = .ok (.iand, 1)) (hp : pc + 1 = pc') (K : J X ws lv pc' (.int (x &&& y) :: st) k n) : J X ws lv pc (.int y :: .int x :: st) k n := by
  subst hp
  obtain ⟨p, l, e, R, s, m, args, below, meth, c, nL, D, ty, A, Q⟩ := X
  obtain ⟨hx, hb, hml, hown, hts, hA, hK, hE, hlk, rfl, rfl, rfl, rfl, rfl, rfl⟩ := C
  intro H locs ls hP hD hS hl
  exact lv_iand hx hb d (K H locs ls hP hD hS hl)
theorem j_idiv (C : kC X cc Ts own rm nm l0 D ty nL) {x y : Int32} (d : decode cc pc = .ok (.idiv, 1)) (hp : pc + 1 = pc') (h0 : ¬ y = 0) (K : J X ws lv pc' (.int (x / y) :: st) k n) : J X ws lv pc (.int y :: .int x :: st) k n := by
  subst hp
  obtain ⟨p, l, e, R, s, m, args, below, meth, c, nL, D, ty, A, Q⟩ := X
  obtain ⟨hx, hb, hml, hown, hts, hA, hK, hE, hlk, rfl, rfl, rfl, rfl, rfl, rfl⟩ := C
  intro H locs ls hP hD hS hl
  exact lv_idiv hx hb d h0 (K H locs ls hP hD hS hl)
theorem j_irem (C : kC X cc Ts own rm nm l0 D ty nL) {x y : Int32} (d : decode cc pc = .ok (.irem, 1)) (hp : pc + 1 = pc') (h0 : ¬ y = 0) (K : J X ws lv pc' (.int (x - x / y * y) :: st) k n) : J X ws lv pc (.int y :: .int x :: st) k n := by
  subst hp
  obtain ⟨p, l, e, R, s, m, args, below, meth, c, nL, D, ty, A, Q⟩ := X
  obtain ⟨hx, hb, hml, hown, hts, hA, hK, hE, hlk, rfl, rfl, rfl, rfl, rfl, rfl⟩ := C
  intro H locs ls hP hD hS hl
  exact lv_irem hx hb d h0 (K H locs ls hP hD hS hl)
theorem j_ladd (C : kC X cc Ts own rm nm l0 D ty nL) {x y : Int64} (d : decode cc pc = .ok (.ladd, 1)) (hp : pc + 1 = pc') (K : J X ws lv pc' (.long (x + y) :: st) k n) : J X ws lv pc (.long y :: .long x :: st) k n := by
  subst hp
  obtain ⟨p, l, e, R, s, m, args, below, meth, c, nL, D, ty, A, Q⟩ := X
  obtain ⟨hx, hb, hml, hown, hts, hA, hK, hE, hlk, rfl, rfl, rfl, rfl, rfl, rfl⟩ := C
  intro H locs ls hP hD hS hl
  exact lv_ladd hx hb d (K H locs ls hP hD hS hl)
theorem j_lsub (C : kC X cc Ts own rm nm l0 D ty nL) {x y : Int64} (d : decode cc pc = .ok (.lsub, 1)) (hp : pc + 1 = pc') (K : J X ws lv pc' (.long (x - y) :: st) k n) : J X ws lv pc (.long y :: .long x :: st) k n := by
  subst hp
  obtain ⟨p, l, e, R, s, m, args, below, meth, c, nL, D, ty, A, Q⟩ := X
  obtain ⟨hx, hb, hml, hown, hts, hA, hK, hE, hlk, rfl, rfl, rfl, rfl, rfl, rfl⟩ := C
  intro H locs ls hP hD hS hl
  exact lv_lsub hx hb d (K H locs ls hP hD hS hl)
theorem j_lmul (C : kC X cc Ts own rm nm l0 D ty nL) {x y : Int64} (d : decode cc pc = .ok (.lmul, 1)) (hp : pc + 1 = pc') (K : J X ws lv pc' (.long (x * y) :: st) k n) : J X ws lv pc (.long y :: .long x :: st) k n := by
  subst hp
  obtain ⟨p, l, e, R, s, m, args, below, meth, c, nL, D, ty, A, Q⟩ := X
  obtain ⟨hx, hb, hml, hown, hts, hA, hK, hE, hlk, rfl, rfl, rfl, rfl, rfl, rfl⟩ := C
  intro H locs ls hP hD hS hl
  exact lv_lmul hx hb d (K H locs ls hP hD hS hl)
theorem j_dadd (C : kC X cc Ts own rm nm l0 D ty nL) {x y : UInt64} (d : decode cc pc = .ok (.dadd, 1)) (hp : pc + 1 = pc') (h0 : vf_n64 (FP.dadd x y)) (K : J X ws lv pc' (.double (FP.dadd x y) :: st) k n) : J X ws lv pc (.double y :: .double x :: st) k n := by
  subst hp
  obtain ⟨p, l, e, R, s, m, args, below, meth, c, nL, D, ty, A, Q⟩ := X
  obtain ⟨hx, hb, hml, hown, hts, hA, hK, hE, hlk, rfl, rfl, rfl, rfl, rfl, rfl⟩ := C
  intro H locs ls hP hD hS hl
  exact lv_dadd hx hb d h0 (K H locs ls hP hD hS hl)
theorem j_dsub (C : kC X cc Ts own rm nm l0 D ty nL) {x y : UInt64} (d : decode cc pc = .ok (.dsub, 1)) (hp : pc + 1 = pc') (h0 : vf_n64 (FP.dsub x y)) (K : J X ws lv pc' (.double (FP.dsub x y) :: st) k n) : J X ws lv pc (.double y :: .double x :: st) k n := by
  subst hp
  obtain ⟨p, l, e, R, s, m, args, below, meth, c, nL, D, ty, A, Q⟩ := X
  obtain ⟨hx, hb, hml, hown, hts, hA, hK, hE, hlk, rfl, rfl, rfl, rfl, rfl, rfl⟩ := C
  intro H locs ls hP hD hS hl
  exact lv_dsub hx hb d h0 (K H locs ls hP hD hS hl)
theorem j_dmul (C : kC X cc Ts own rm nm l0 D ty nL) {x y : UInt64} (d : decode cc pc = .ok (.dmul, 1)) (hp : pc + 1 = pc') (h0 : vf_n64 (FP.dmul x y)) (K : J X ws lv pc' (.double (FP.dmul x y) :: st) k n) : J X ws lv pc (.double y :: .double x :: st) k n := by
  subst hp
  obtain ⟨p, l, e, R, s, m, args, below, meth, c, nL, D, ty, A, Q⟩ := X
  obtain ⟨hx, hb, hml, hown, hts, hA, hK, hE, hlk, rfl, rfl, rfl, rfl, rfl, rfl⟩ := C
  intro H locs ls hP hD hS hl
  exact lv_dmul hx hb d h0 (K H locs ls hP hD hS hl)
theorem j_ddiv (C : kC X cc Ts own rm nm l0 D ty nL) {x y : UInt64} (d : decode cc pc = .ok (.ddiv, 1)) (hp : pc + 1 = pc') (h0 : vf_n64 (FP.ddiv x y)) (K : J X ws lv pc' (.double (FP.ddiv x y) :: st) k n) : J X ws lv pc (.double y :: .double x :: st) k n := by
  subst hp
  obtain ⟨p, l, e, R, s, m, args, below, meth, c, nL, D, ty, A, Q⟩ := X
  obtain ⟨hx, hb, hml, hown, hts, hA, hK, hE, hlk, rfl, rfl, rfl, rfl, rfl, rfl⟩ := C
  intro H locs ls hP hD hS hl
  exact lv_ddiv hx hb d h0 (K H locs ls hP hD hS hl)
theorem j_ishr (C : kC X cc Ts own rm nm l0 D ty nL) {x y : Int32} (d : decode cc pc = .ok (.ishr, 1)) (hp : pc + 1 = pc') (K : J X ws lv pc' (.int (x >>> (y &&& 31)) :: st) k n) : J X ws lv pc (.int y :: .int x :: st) k n := by
  subst hp
  obtain ⟨p, l, e, R, s, m, args, below, meth, c, nL, D, ty, A, Q⟩ := X
  obtain ⟨hx, hb, hml, hown, hts, hA, hK, hE, hlk, rfl, rfl, rfl, rfl, rfl, rfl⟩ := C
  intro H locs ls hP hD hS hl
  exact lv_ishr hx hb d (K H locs ls hP hD hS hl)
theorem j_ineg (C : kC X cc Ts own rm nm l0 D ty nL) {x : Int32} (d : decode cc pc = .ok (.ineg, 1)) (hp : pc + 1 = pc') (K : J X ws lv pc' (.int (-x) :: st) k n) : J X ws lv pc (.int x :: st) k n := by
  subst hp
  obtain ⟨p, l, e, R, s, m, args, below, meth, c, nL, D, ty, A, Q⟩ := X
  obtain ⟨hx, hb, hml, hown, hts, hA, hK, hE, hlk, rfl, rfl, rfl, rfl, rfl, rfl⟩ := C
  intro H locs ls hP hD hS hl
  exact lv_ineg hx hb d (K H locs ls hP hD hS hl)
theorem j_i2l (C : kC X cc Ts own rm nm l0 D ty nL) {x : Int32} (d : decode cc pc = .ok (.i2l, 1)) (hp : pc + 1 = pc') (K : J X ws lv pc' (.long x.toInt64 :: st) k n) : J X ws lv pc (.int x :: st) k n := by
  subst hp
  obtain ⟨p, l, e, R, s, m, args, below, meth, c, nL, D, ty, A, Q⟩ := X
  obtain ⟨hx, hb, hml, hown, hts, hA, hK, hE, hlk, rfl, rfl, rfl, rfl, rfl, rfl⟩ := C
  intro H locs ls hP hD hS hl
  exact lv_i2l hx hb d rfl (K H locs ls hP hD hS hl)
theorem j_l2d (C : kC X cc Ts own rm nm l0 D ty nL) {x : Int64} (d : decode cc pc = .ok (.l2d, 1)) (hp : pc + 1 = pc') (K : J X ws lv pc' (.double (FP.l2d x) :: st) k n) : J X ws lv pc (.long x :: st) k n := by
  subst hp
  obtain ⟨p, l, e, R, s, m, args, below, meth, c, nL, D, ty, A, Q⟩ := X
  obtain ⟨hx, hb, hml, hown, hts, hA, hK, hE, hlk, rfl, rfl, rfl, rfl, rfl, rfl⟩ := C
  intro H locs ls hP hD hS hl
  exact lv_l2d hx hb d (K H locs ls hP hD hS hl)
theorem j_i2d (C : kC X cc Ts own rm nm l0 D ty nL) {x : Int32} (d : decode cc pc = .ok (.i2d, 1)) (hp : pc + 1 = pc') (K : J X ws lv pc' (.double (FP.i2d x) :: st) k n) : J X ws lv pc (.int x :: st) k n := by
  subst hp
  obtain ⟨p, l, e, R, s, m, args, below, meth, c, nL, D, ty, A, Q⟩ := X
  obtain ⟨hx, hb, hml, hown, hts, hA, hK, hE, hlk, rfl, rfl, rfl, rfl, rfl, rfl⟩ := C
  intro H locs ls hP hD hS hl
  exact lv_i2d hx hb d (K H locs ls hP hD hS hl)
theorem j_dcmp (C : kC X cc Ts own rm nm l0 D ty nL) {x y : UInt64} {op : CmpOp} (d : decode cc pc = .ok (.dcmp op, 1)) (hp : pc + 1 = pc') (K : J X ws lv pc' (.int (Op.cmpValue (FP.dcmp x y) op) :: st) k n) : J X ws lv pc (.double y :: .double x :: st) k n := by
  subst hp
  obtain ⟨p, l, e, R, s, m, args, below, meth, c, nL, D, ty, A, Q⟩ := X
  obtain ⟨hx, hb, hml, hown, hts, hA, hK, hE, hlk, rfl, rfl, rfl, rfl, rfl, rfl⟩ := C
  intro H locs ls hP hD hS hl
  exact lv_dcmp hx hb d (K H locs ls hP hD hS hl)
theorem j_lcmp (C : kC X cc Ts own rm nm l0 D ty nL) {x y : Int64} (d : decode cc pc = .ok (.lcmp, 1)) (hp : pc + 1 = pc') (K : J X ws lv pc' (.int (lg_cmp x y) :: st) k n) : J X ws lv pc (.long y :: .long x :: st) k n := by
  subst hp
  obtain ⟨p, l, e, R, s, m, args, below, meth, c, nL, D, ty, A, Q⟩ := X
  obtain ⟨hx, hb, hml, hown, hts, hA, hK, hE, hlk, rfl, rfl, rfl, rfl, rfl, rfl⟩ := C
  intro H locs ls hP hD hS hl
  exact W.lcmp hx hb d (K H locs ls hP hD hS hl)
theorem j_dup (C : kC X cc Ts own rm nm l0 D ty nL) {v : Value} (d : decode cc pc = .ok (.dup, 1)) (hp : pc + 1 = pc') (hv : v.category = 1) (K : J X ws lv pc' (v :: v :: st) k n) : J X ws lv pc (v :: st) k n := by
  subst hp
  obtain ⟨p, l, e, R, s, m, args, below, meth, c, nL, D, ty, A, Q⟩ := X
  obtain ⟨hx, hb, hml, hown, hts, hA, hK, hE, hlk, rfl, rfl, rfl, rfl, rfl, rfl⟩ := C
  intro H locs ls hP hD hS hl
  exact lv_dup hx hb d hv (K H locs ls hP hD hS hl)
theorem j_pop (C : kC X cc Ts own rm nm l0 D ty nL) {v : Value} (d : decode cc pc = .ok (.pop, 1)) (hp : pc + 1 = pc') (hv : v.category = 1) (K : J X ws lv pc' (st) k n) : J X ws lv pc (v :: st) k n := by
  subst hp
  obtain ⟨p, l, e, R, s, m, args, below, meth, c, nL, D, ty, A, Q⟩ := X
  obtain ⟨hx, hb, hml, hown, hts, hA, hK, hE, hlk, rfl, rfl, rfl, rfl, rfl, rfl⟩ := C
  intro H locs ls hP hD hS hl
  exact lv_pop hx hb d hv (K H locs ls hP hD hS hl)
theorem j_dup2 (C : kC X cc Ts own rm nm l0 D ty nL) {v v2 : Value} (d : decode cc pc = .ok (.dup2, 1)) (hp : pc + 1 = pc') (hv : v.category = 1) (hv2 : v2.category = 1) (K : J X ws lv pc' (v :: v2 :: v :: v2 :: st) k n) : J X ws lv pc (v :: v2 :: st) k n := by
  subst hp
  obtain ⟨p, l, e, R, s, m, args, below, meth, c, nL, D, ty, A, Q⟩ := X
  obtain ⟨hx, hb, hml, hown, hts, hA, hK, hE, hlk, rfl, rfl, rfl, rfl, rfl, rfl⟩ := C
  intro H locs ls hP hD hS hl
  exact lv_dup2_11 hx hb d hv hv2 (K H locs ls hP hD hS hl)
theorem j_ldc2d (C : kC X cc Ts own rm nm l0 D ty nL) {ix : Nat} {v : UInt64} (d : decode cc pc = .ok (.ldc2_w ix, 3)) (hp : pc + 3 = pc') (hw : Cond.constantDouble own ix v ∈ Ts) (K : J X ws lv pc' (.double v :: st) k n) : J X ws lv pc (st) k n := by
  subst hp
  obtain ⟨p, l, e, R, s, m, args, below, meth, c, nL, D, ty, A, Q⟩ := X
  obtain ⟨hx, hb, hml, hown, hts, hA, hK, hE, hlk, rfl, rfl, rfl, rfl, rfl, rfl⟩ := C
  intro H locs ls hP hD hS hl
  exact lv_ldc2d hx hb hown (hts _ hw) d (K H locs ls hP hD hS hl)
theorem j_ldc2 (C : kC X cc Ts own rm nm l0 D ty nL) {ix : Nat} {v : Int64} (d : decode cc pc = .ok (.ldc2_w ix, 3)) (hp : pc + 3 = pc') (hw : Cond.constantLong own ix v ∈ Ts) (K : J X ws lv pc' (.long v :: st) k n) : J X ws lv pc (st) k n := by
  subst hp
  obtain ⟨p, l, e, R, s, m, args, below, meth, c, nL, D, ty, A, Q⟩ := X
  obtain ⟨hx, hb, hml, hown, hts, hA, hK, hE, hlk, rfl, rfl, rfl, rfl, rfl, rfl⟩ := C
  intro H locs ls hP hD hS hl
  exact lv_ldc2 hx hb hown (hts _ hw) d (K H locs ls hP hD hS hl)
theorem j_ldc (C : kC X cc Ts own rm nm l0 D ty nL) {ix : Nat} {v : Int32} (d : decode cc pc = .ok (.ldc ix, 2)) (hp : pc + 2 = pc') (hw : Cond.constant own ix v ∈ Ts) (K : J X ws lv pc' (.int v :: st) k n) : J X ws lv pc (st) k n := by
  subst hp
  obtain ⟨p, l, e, R, s, m, args, below, meth, c, nL, D, ty, A, Q⟩ := X
  obtain ⟨hx, hb, hml, hown, hts, hA, hK, hE, hlk, rfl, rfl, rfl, rfl, rfl, rfl⟩ := C
  intro H locs ls hP hD hS hl
  exact lv_ldc hx hb hown (hts _ hw) d (K H locs ls hP hD hS hl)
theorem j_ldcw (C : kC X cc Ts own rm nm l0 D ty nL) {ix : Nat} {v : Int32} (d : decode cc pc = .ok (.ldc_w ix, 3)) (hp : pc + 3 = pc') (hw : Cond.constant own ix v ∈ Ts) (K : J X ws lv pc' (.int v :: st) k n) : J X ws lv pc (st) k n := by
  subst hp
  obtain ⟨p, l, e, R, s, m, args, below, meth, c, nL, D, ty, A, Q⟩ := X
  obtain ⟨hx, hb, hml, hown, hts, hA, hK, hE, hlk, rfl, rfl, rfl, rfl, rfl, rfl⟩ := C
  intro H locs ls hP hD hS hl
  exact lv_ldcw hx hb hown (hts _ hw) d (K H locs ls hP hD hS hl)
theorem j_goto (C : kC X cc Ts own rm nm l0 D ty nL) {off : Int} {tgt : Nat} (d : decode cc pc = .ok (.goto off, 3)) (ht : (pc : Int) + off = (tgt : Int)) (K : J X ws lv tgt st k n) : J X ws lv pc st k n := by
  obtain ⟨p, l, e, R, s, m, args, below, meth, c, nL, D, ty, A, Q⟩ := X
  obtain ⟨hx, hb, hml, hown, hts, hA, hK, hE, hlk, rfl, rfl, rfl, rfl, rfl, rfl⟩ := C
  intro H locs ls hP hD hS hl
  exact lv_goto hx hb d ht (K H locs ls hP hD hS hl)
theorem j_if_eq (C : kC X cc Ts own rm nm l0 D ty nL) {x : Int32} {off : Int} {tgt : Nat} (d : decode cc pc = .ok (.ifCond .eq off, 3)) (ht : (pc : Int) + off = (tgt : Int)) (hp : pc + 3 = pc') (kt : x = 0 → J X ws lv tgt st k n) (kf : ¬ x = 0 → J X ws lv pc' st k n) : J X ws lv pc (.int x :: st) k n := by
  subst hp
  obtain ⟨p, l, e, R, s, m, args, below, meth, c, nL, D, ty, A, Q⟩ := X
  obtain ⟨hx, hb, hml, hown, hts, hA, hK, hE, hlk, rfl, rfl, rfl, rfl, rfl, rfl⟩ := C
  intro H locs ls hP hD hS hl
  exact lv_if_eq hx hb d ht (fun h => kt h H locs ls hP hD hS hl) (fun h => kf h H locs ls hP hD hS hl)
theorem j_icmp_eq (C : kC X cc Ts own rm nm l0 D ty nL) {x y : Int32} {off : Int} {tgt : Nat} (d : decode cc pc = .ok (.if_icmp .eq off, 3)) (ht : (pc : Int) + off = (tgt : Int)) (hp : pc + 3 = pc') (kt : x = y → J X ws lv tgt st k n) (kf : ¬ x = y → J X ws lv pc' st k n) : J X ws lv pc (.int y :: .int x :: st) k n := by
  subst hp
  obtain ⟨p, l, e, R, s, m, args, below, meth, c, nL, D, ty, A, Q⟩ := X
  obtain ⟨hx, hb, hml, hown, hts, hA, hK, hE, hlk, rfl, rfl, rfl, rfl, rfl, rfl⟩ := C
  intro H locs ls hP hD hS hl
  exact lv_icmp_eq hx hb d ht (fun h => kt h H locs ls hP hD hS hl) (fun h => kf h H locs ls hP hD hS hl)
theorem j_if_ne (C : kC X cc Ts own rm nm l0 D ty nL) {x : Int32} {off : Int} {tgt : Nat} (d : decode cc pc = .ok (.ifCond .ne off, 3)) (ht : (pc : Int) + off = (tgt : Int)) (hp : pc + 3 = pc') (kt : ¬ x = 0 → J X ws lv tgt st k n) (kf : x = 0 → J X ws lv pc' st k n) : J X ws lv pc (.int x :: st) k n := by
  subst hp
  obtain ⟨p, l, e, R, s, m, args, below, meth, c, nL, D, ty, A, Q⟩ := X
  obtain ⟨hx, hb, hml, hown, hts, hA, hK, hE, hlk, rfl, rfl, rfl, rfl, rfl, rfl⟩ := C
  intro H locs ls hP hD hS hl
  exact lv_if_ne hx hb d ht (fun h => kt h H locs ls hP hD hS hl) (fun h => kf h H locs ls hP hD hS hl)
theorem j_icmp_ne (C : kC X cc Ts own rm nm l0 D ty nL) {x y : Int32} {off : Int} {tgt : Nat} (d : decode cc pc = .ok (.if_icmp .ne off, 3)) (ht : (pc : Int) + off = (tgt : Int)) (hp : pc + 3 = pc') (kt : ¬ x = y → J X ws lv tgt st k n) (kf : x = y → J X ws lv pc' st k n) : J X ws lv pc (.int y :: .int x :: st) k n := by
  subst hp
  obtain ⟨p, l, e, R, s, m, args, below, meth, c, nL, D, ty, A, Q⟩ := X
  obtain ⟨hx, hb, hml, hown, hts, hA, hK, hE, hlk, rfl, rfl, rfl, rfl, rfl, rfl⟩ := C
  intro H locs ls hP hD hS hl
  exact lv_icmp_ne hx hb d ht (fun h => kt h H locs ls hP hD hS hl) (fun h => kf h H locs ls hP hD hS hl)
theorem j_if_lt (C : kC X cc Ts own rm nm l0 D ty nL) {x : Int32} {off : Int} {tgt : Nat} (d : decode cc pc = .ok (.ifCond .lt off, 3)) (ht : (pc : Int) + off = (tgt : Int)) (hp : pc + 3 = pc') (kt : x < 0 → J X ws lv tgt st k n) (kf : ¬ x < 0 → J X ws lv pc' st k n) : J X ws lv pc (.int x :: st) k n := by
  subst hp
  obtain ⟨p, l, e, R, s, m, args, below, meth, c, nL, D, ty, A, Q⟩ := X
  obtain ⟨hx, hb, hml, hown, hts, hA, hK, hE, hlk, rfl, rfl, rfl, rfl, rfl, rfl⟩ := C
  intro H locs ls hP hD hS hl
  exact lv_if_lt hx hb d ht (fun h => kt h H locs ls hP hD hS hl) (fun h => kf h H locs ls hP hD hS hl)
theorem j_icmp_lt (C : kC X cc Ts own rm nm l0 D ty nL) {x y : Int32} {off : Int} {tgt : Nat} (d : decode cc pc = .ok (.if_icmp .lt off, 3)) (ht : (pc : Int) + off = (tgt : Int)) (hp : pc + 3 = pc') (kt : x < y → J X ws lv tgt st k n) (kf : ¬ x < y → J X ws lv pc' st k n) : J X ws lv pc (.int y :: .int x :: st) k n := by
  subst hp
  obtain ⟨p, l, e, R, s, m, args, below, meth, c, nL, D, ty, A, Q⟩ := X
  obtain ⟨hx, hb, hml, hown, hts, hA, hK, hE, hlk, rfl, rfl, rfl, rfl, rfl, rfl⟩ := C
  intro H locs ls hP hD hS hl
  exact lv_icmp_lt hx hb d ht (fun h => kt h H locs ls hP hD hS hl) (fun h => kf h H locs ls hP hD hS hl)
theorem j_if_ge (C : kC X cc Ts own rm nm l0 D ty nL) {x : Int32} {off : Int} {tgt : Nat} (d : decode cc pc = .ok (.ifCond .ge off, 3)) (ht : (pc : Int) + off = (tgt : Int)) (hp : pc + 3 = pc') (kt : 0 ≤ x → J X ws lv tgt st k n) (kf : ¬ 0 ≤ x → J X ws lv pc' st k n) : J X ws lv pc (.int x :: st) k n := by
  subst hp
  obtain ⟨p, l, e, R, s, m, args, below, meth, c, nL, D, ty, A, Q⟩ := X
  obtain ⟨hx, hb, hml, hown, hts, hA, hK, hE, hlk, rfl, rfl, rfl, rfl, rfl, rfl⟩ := C
  intro H locs ls hP hD hS hl
  exact lv_if_ge hx hb d ht (fun h => kt h H locs ls hP hD hS hl) (fun h => kf h H locs ls hP hD hS hl)
theorem j_icmp_ge (C : kC X cc Ts own rm nm l0 D ty nL) {x y : Int32} {off : Int} {tgt : Nat} (d : decode cc pc = .ok (.if_icmp .ge off, 3)) (ht : (pc : Int) + off = (tgt : Int)) (hp : pc + 3 = pc') (kt : y ≤ x → J X ws lv tgt st k n) (kf : ¬ y ≤ x → J X ws lv pc' st k n) : J X ws lv pc (.int y :: .int x :: st) k n := by
  subst hp
  obtain ⟨p, l, e, R, s, m, args, below, meth, c, nL, D, ty, A, Q⟩ := X
  obtain ⟨hx, hb, hml, hown, hts, hA, hK, hE, hlk, rfl, rfl, rfl, rfl, rfl, rfl⟩ := C
  intro H locs ls hP hD hS hl
  exact lv_icmp_ge hx hb d ht (fun h => kt h H locs ls hP hD hS hl) (fun h => kf h H locs ls hP hD hS hl)
theorem j_if_gt (C : kC X cc Ts own rm nm l0 D ty nL) {x : Int32} {off : Int} {tgt : Nat} (d : decode cc pc = .ok (.ifCond .gt off, 3)) (ht : (pc : Int) + off = (tgt : Int)) (hp : pc + 3 = pc') (kt : 0 < x → J X ws lv tgt st k n) (kf : ¬ 0 < x → J X ws lv pc' st k n) : J X ws lv pc (.int x :: st) k n := by
  subst hp
  obtain ⟨p, l, e, R, s, m, args, below, meth, c, nL, D, ty, A, Q⟩ := X
  obtain ⟨hx, hb, hml, hown, hts, hA, hK, hE, hlk, rfl, rfl, rfl, rfl, rfl, rfl⟩ := C
  intro H locs ls hP hD hS hl
  exact lv_if_gt hx hb d ht (fun h => kt h H locs ls hP hD hS hl) (fun h => kf h H locs ls hP hD hS hl)
theorem j_icmp_gt (C : kC X cc Ts own rm nm l0 D ty nL) {x y : Int32} {off : Int} {tgt : Nat} (d : decode cc pc = .ok (.if_icmp .gt off, 3)) (ht : (pc : Int) + off = (tgt : Int)) (hp : pc + 3 = pc') (kt : y < x → J X ws lv tgt st k n) (kf : ¬ y < x → J X ws lv pc' st k n) : J X ws lv pc (.int y :: .int x :: st) k n := by
  subst hp
  obtain ⟨p, l, e, R, s, m, args, below, meth, c, nL, D, ty, A, Q⟩ := X
  obtain ⟨hx, hb, hml, hown, hts, hA, hK, hE, hlk, rfl, rfl, rfl, rfl, rfl, rfl⟩ := C
  intro H locs ls hP hD hS hl
  exact lv_icmp_gt hx hb d ht (fun h => kt h H locs ls hP hD hS hl) (fun h => kf h H locs ls hP hD hS hl)
theorem j_if_le (C : kC X cc Ts own rm nm l0 D ty nL) {x : Int32} {off : Int} {tgt : Nat} (d : decode cc pc = .ok (.ifCond .le off, 3)) (ht : (pc : Int) + off = (tgt : Int)) (hp : pc + 3 = pc') (kt : x ≤ 0 → J X ws lv tgt st k n) (kf : ¬ x ≤ 0 → J X ws lv pc' st k n) : J X ws lv pc (.int x :: st) k n := by
  subst hp
  obtain ⟨p, l, e, R, s, m, args, below, meth, c, nL, D, ty, A, Q⟩ := X
  obtain ⟨hx, hb, hml, hown, hts, hA, hK, hE, hlk, rfl, rfl, rfl, rfl, rfl, rfl⟩ := C
  intro H locs ls hP hD hS hl
  exact lv_if_le hx hb d ht (fun h => kt h H locs ls hP hD hS hl) (fun h => kf h H locs ls hP hD hS hl)
theorem j_icmp_le (C : kC X cc Ts own rm nm l0 D ty nL) {x y : Int32} {off : Int} {tgt : Nat} (d : decode cc pc = .ok (.if_icmp .le off, 3)) (ht : (pc : Int) + off = (tgt : Int)) (hp : pc + 3 = pc') (kt : x ≤ y → J X ws lv tgt st k n) (kf : ¬ x ≤ y → J X ws lv pc' st k n) : J X ws lv pc (.int y :: .int x :: st) k n := by
  subst hp
  obtain ⟨p, l, e, R, s, m, args, below, meth, c, nL, D, ty, A, Q⟩ := X
  obtain ⟨hx, hb, hml, hown, hts, hA, hK, hE, hlk, rfl, rfl, rfl, rfl, rfl, rfl⟩ := C
  intro H locs ls hP hD hS hl
  exact lv_icmp_le hx hb d ht (fun h => kt h H locs ls hP hD hS hl) (fun h => kf h H locs ls hP hD hS hl)
theorem j_ifnonnull (C : kC X cc Ts own rm nm l0 D ty nL) {x : Nat} {off : Int} {tgt : Nat} (d : decode cc pc = .ok (.ifnonnull off, 3)) (ht : (pc : Int) + off = (tgt : Int)) (K : J X ws lv tgt st k n) : J X ws lv pc (.ref x :: st) k n := by
  obtain ⟨p, l, e, R, s, m, args, below, meth, c, nL, D, ty, A, Q⟩ := X
  obtain ⟨hx, hb, hml, hown, hts, hA, hK, hE, hlk, rfl, rfl, rfl, rfl, rfl, rfl⟩ := C
  intro H locs ls hP hD hS hl
  exact lv_ifnonnull hx hb d ht (K H locs ls hP hD hS hl)
theorem j_ifnull (C : kC X cc Ts own rm nm l0 D ty nL) {x : Nat} {off : Int} (d : decode cc pc = .ok (.ifnull off, 3)) (hp : pc + 3 = pc') (K : J X ws lv pc' (st) k n) : J X ws lv pc (.ref x :: st) k n := by
  subst hp
  obtain ⟨p, l, e, R, s, m, args, below, meth, c, nL, D, ty, A, Q⟩ := X
  obtain ⟨hx, hb, hml, hown, hts, hA, hK, hE, hlk, rfl, rfl, rfl, rfl, rfl, rfl⟩ := C
  intro H locs ls hP hD hS hl
  exact lv_ifnull hx hb d (K H locs ls hP hD hS hl)
theorem j_ifnullN (C : kC X cc Ts own rm nm l0 D ty nL) {off : Int} {tgt : Nat} (d : decode cc pc = .ok (.ifnull off, 3)) (ht : (pc : Int) + off = (tgt : Int)) (K : J X ws lv tgt st k n) : J X ws lv pc (.null :: st) k n := by
  obtain ⟨p, l, e, R, s, m, args, below, meth, c, nL, D, ty, A, Q⟩ := X
  obtain ⟨hx, hb, hml, hown, hts, hA, hK, hE, hlk, rfl, rfl, rfl, rfl, rfl, rfl⟩ := C
  intro H locs ls hP hD hS hl
  exact lv_ifnullN hx hb d ht (K H locs ls hP hD hS hl)
theorem j_ifnonnullN (C : kC X cc Ts own rm nm l0 D ty nL) {off : Int} (d : decode cc pc = .ok (.ifnonnull off, 3)) (hp : pc + 3 = pc') (K : J X ws lv pc' (st) k n) : J X ws lv pc (.null :: st) k n := by
  subst hp
  obtain ⟨p, l, e, R, s, m, args, below, meth, c, nL, D, ty, A, Q⟩ := X
  obtain ⟨hx, hb, hml, hown, hts, hA, hK, hE, hlk, rfl, rfl, rfl, rfl, rfl, rfl⟩ := C
  intro H locs ls hP hD hS hl
  exact lv_ifnonnullN hx hb d (K H locs ls hP hD hS hl)
theorem j_tableOut (C : kC X cc Ts own rm nm l0 D ty nL) {dflt lo hi : Int} {offs : Array Int} {len : Nat} {x : Int32} {tgt : Nat} (d : decode cc pc = .ok (.tableswitch dflt lo hi offs, len)) (h : x.toInt < lo ∨ hi < x.toInt) (ht : (pc : Int) + dflt = (tgt : Int)) (K : J X ws lv tgt st k n) : J X ws lv pc (.int x :: st) k n := by
  obtain ⟨p, l, e, R, s, m, args, below, meth, c, nL, D, ty, A, Q⟩ := X
  obtain ⟨hx, hb, hml, hown, hts, hA, hK, hE, hlk, rfl, rfl, rfl, rfl, rfl, rfl⟩ := C
  intro H locs ls hP hD hS hl
  exact lv_tableOut hx hb d h ht (K H locs ls hP hD hS hl)
theorem j_tableIn (C : kC X cc Ts own rm nm l0 D ty nL) {dflt lo hi : Int} {offs : Array Int} {len : Nat} {x : Int32} {off : Int} {tgt : Nat} (d : decode cc pc = .ok (.tableswitch dflt lo hi offs, len)) (h1 : ¬ x.toInt < lo) (h2 : ¬ hi < x.toInt) (ho : offs[(x.toInt - lo).toNat]? = some off) (ht : (pc : Int) + off = (tgt : Int)) (K : J X ws lv tgt st k n) : J X ws lv pc (.int x :: st) k n := by
  obtain ⟨p, l, e, R, s, m, args, below, meth, c, nL, D, ty, A, Q⟩ := X
  obtain ⟨hx, hb, hml, hown, hts, hA, hK, hE, hlk, rfl, rfl, rfl, rfl, rfl, rfl⟩ := C
  intro H locs ls hP hD hS hl
  exact lv_tableIn hx hb d h1 h2 ho ht (K H locs ls hP hD hS hl)
theorem j_get (C : kC X cc Ts own rm nm l0 D ty nL) {ref Cn f ds : String} {fin : Bool} {T : u_T} {N ci ix a : Nat} {fs : List Value} {v : Value} (d : decode cc pc = .ok (.getfield ix, 3)) (hp : pc + 3 = pc') (hin : ∀ w ∈ u_ws Cn T N, w ∈ Ts) (hw : Cond.fieldLink own ix ref f ds ∈ Ts) (q0 : Nat) (he : ws[q0]? = some (a, .inr (ci, fs))) (hc : vwCl[ci]? = some (Cn, T, N)) (j : Nat) (hj : Nat.ble (j + 1) N = true) (hT : T j = (ref, f, ds, fin)) (hv : fs[j]? = some v) (K : J X ws lv pc' (v :: st) k n) : J X ws lv pc (.ref a :: st) k n := by
  subst hp
  obtain ⟨p, l, e, R, s, m, args, below, meth, c, nL, D, ty, A, Q⟩ := X
  obtain ⟨hx, hb, hml, hown, hts, hA, hK, hE, hlk, rfl, rfl, rfl, rfl, rfl, rfl⟩ := C
  intro H locs ls hP hD hS hl
  have hw1 := hts _ hw
  refine va_get (ref := ref) hx hb hts hin hown hK hP q0 he hc j (Nat.le_of_ble_eq_true hj) ?_ ?_ hv d (K H locs ls hP hD hS hl)
  · rw [hT]; exact hw1
  · rw [hT]; exact fun _ h => h
theorem j_put (C : kC X cc Ts own rm nm l0 D ty nL) {ref Cn f ds : String} {T : u_T} {tyf : Nat → FieldType} {N ci ix a : Nat} {fs : List Value} {v : Value} {t : FieldType} {ws' : va_W} (d : decode cc pc = .ok (.putfield ix, 3)) (hp : pc + 3 = pc') (hin : ∀ w ∈ u_ws Cn T N, w ∈ Ts) (hw : Cond.fieldLink own ix ref f ds ∈ Ts) (hty : ∀ k, k < N → parseFieldDescriptor (T k).2.2.1 = some (tyf k)) (hnm : ∀ a, a < N → ∀ b, b < N → a ≠ b → (T a).2.1 ≠ (T b).2.1) (q0 : Nat) (he : ws[q0]? = some (a, .inr (ci, fs))) (hc : vwCl[ci]? = some (Cn, T, N)) (j : Nat) (hj : Nat.ble (j + 1) N = true) (hT : T j = (ref, f, ds, false)) (ht : tyf j = t) (hn : narrow t v = v) (hf : fits t v = true) (hlen : Nat.ble (j + 1) fs.length = true) (hws : ws.set q0 (a, .inr (ci, fs.set j v)) = ws') (K : J X ws' lv pc' st k n) : J X ws lv pc (v :: .ref a :: st) k n := by
  subst hp
  obtain ⟨p, l, e, R, s, m, args, below, meth, c, nL, D, ty, A, Q⟩ := X
  obtain ⟨hx, hb, hml, hown, hts, hA, hK, hE, hlk, rfl, rfl, rfl, rfl, rfl, rfl⟩ := C
  intro H locs ls hP hD hS hl
  have hw1 := hts _ hw
  refine va_put (ref := ref) hx hb hts hin tyf hty hnm hown hK hP hD hS q0 he hc j (Nat.le_of_ble_eq_true hj) ?_ ?_ (by rw [hT]) (ty := t) (by rw [hty j (Nat.le_of_ble_eq_true hj), ht]) hn hf (Nat.le_of_ble_eq_true hlen) d (fun H1 locs1 hP1 hD1 hS1 => ?_)
  · rw [hT]; exact hw1
  · rw [hT]; exact fun _ h => h
  · exact K H1 locs1 ls (hws ▸ hP1) (hws ▸ hD1) hS1 hl
theorem j_putF (C : kC X cc Ts own rm nm l0 D ty nL) {ref Cn f ds : String} {T : u_T} {tyf : Nat → FieldType} {N ci ix a : Nat} {fs : List Value} {v : Value} {t : FieldType} {ws' : va_W} (d : decode cc pc = .ok (.putfield ix, 3)) (hp : pc + 3 = pc') (hin : ∀ w ∈ u_ws Cn T N, w ∈ Ts) (hw : Cond.fieldLink own ix ref f ds ∈ Ts) (hty : ∀ k, k < N → parseFieldDescriptor (T k).2.2.1 = some (tyf k)) (hnm : ∀ a, a < N → ∀ b, b < N → a ≠ b → (T a).2.1 ≠ (T b).2.1) (q0 : Nat) (he : ws[q0]? = some (a, .inr (ci, fs))) (hc : vwCl[ci]? = some (Cn, T, N)) (j : Nat) (hj : Nat.ble (j + 1) N = true) (hT : T j = (ref, f, ds, true)) (hin2 : nm = "<init>") (hdecl : ref = own) (ht : tyf j = t) (hn : narrow t v = v) (hf : fits t v = true) (hlen : Nat.ble (j + 1) fs.length = true) (hws : ws.set q0 (a, .inr (ci, fs.set j v)) = ws') (K : J X ws' lv pc' st k n) : J X ws lv pc (v :: .ref a :: st) k n := by
  subst hp
  obtain ⟨p, l, e, R, s, m, args, below, meth, c, nL, D, ty, A, Q⟩ := X
  obtain ⟨hx, hb, hml, hown, hts, hA, hK, hE, hlk, rfl, rfl, rfl, rfl, rfl, rfl⟩ := C
  intro H locs ls hP hD hS hl
  have hw1 := hts _ hw
  refine va_putF (ref := ref) hx hb hts hin tyf hty hnm hown hK hP hD hS q0 he hc j (Nat.le_of_ble_eq_true hj) ?_ ?_ (by rw [hT]) hin2 (by rw [hT]; exact hdecl) (ty := t) (by rw [hty j (Nat.le_of_ble_eq_true hj), ht]) hn hf (Nat.le_of_ble_eq_true hlen) d (fun H1 locs1 hP1 hD1 hS1 => ?_)
  · rw [hT]; exact hw1
  · rw [hT]; exact fun _ h => h
  · exact K H1 locs1 ls (hws ▸ hP1) (hws ▸ hD1) hS1 hl
theorem j_iaload (C : kC X cc Ts own rm nm l0 D ty nL) {a N : Nat} {f : Nat → Int32} {i : Int32} (d : decode cc pc = .ok (.iaload, 1)) (hp : pc + 1 = pc') (q0 : Nat) (he : ws[q0]? = some (a, .inl (ty 0, N, .inl f))) (hin : vp_in i N) (K : J X ws lv pc' (.int (f i.toNatClampNeg) :: st) k n) : J X ws lv pc (.int i :: .ref a :: st) k n := by
  subst hp
  obtain ⟨p, l, e, R, s, m, args, below, meth, c, nL, D, ty, A, Q⟩ := X
  obtain ⟨hx, hb, hml, hown, hts, hA, hK, hE, hlk, rfl, rfl, rfl, rfl, rfl, rfl⟩ := C
  intro H locs ls hP hD hS hl
  exact va_iald hx hb hK hP q0 0 he rfl hin d (K H locs ls hP hD hS hl)
theorem j_daload (C : kC X cc Ts own rm nm l0 D ty nL) {a N : Nat} {f : Nat → UInt64} {i : Int32} (d : decode cc pc = .ok (.daload, 1)) (hp : pc + 1 = pc') (q0 : Nat) (he : ws[q0]? = some (a, .inl (ty 1, N, .inr (.inr (.inr (.inl f)))))) (hin : vp_in i N) (K : J X ws lv pc' (.double (f i.toNatClampNeg) :: st) k n) : J X ws lv pc (.int i :: .ref a :: st) k n := by
  subst hp
  obtain ⟨p, l, e, R, s, m, args, below, meth, c, nL, D, ty, A, Q⟩ := X
  obtain ⟨hx, hb, hml, hown, hts, hA, hK, hE, hlk, rfl, rfl, rfl, rfl, rfl, rfl⟩ := C
  intro H locs ls hP hD hS hl
  exact va_dald hx hb hK hP q0 1 he rfl hin d (K H locs ls hP hD hS hl)
theorem j_zaload (C : kC X cc Ts own rm nm l0 D ty nL) {a N : Nat} {f : Nat → Int32} {i : Int32} (d : decode cc pc = .ok (.baload, 1)) (hp : pc + 1 = pc') (q0 : Nat) (he : ws[q0]? = some (a, .inl (ty 2, N, .inl f))) (hin : vp_in i N) (K : J X ws lv pc' (.int (f i.toNatClampNeg) :: st) k n) : J X ws lv pc (.int i :: .ref a :: st) k n := by
  subst hp
  obtain ⟨p, l, e, R, s, m, args, below, meth, c, nL, D, ty, A, Q⟩ := X
  obtain ⟨hx, hb, hml, hown, hts, hA, hK, hE, hlk, rfl, rfl, rfl, rfl, rfl, rfl⟩ := C
  intro H locs ls hP hD hS hl
  exact va_zald hx hb hK hP q0 2 he rfl hin d (K H locs ls hP hD hS hl)
theorem j_laload (C : kC X cc Ts own rm nm l0 D ty nL) {a N : Nat} {f : Nat → Int64} {i : Int32} (d : decode cc pc = .ok (.laload, 1)) (hp : pc + 1 = pc') (q0 : Nat) (he : ws[q0]? = some (a, .inl (ty 3, N, .inr (.inl f)))) (hin : vp_in i N) (K : J X ws lv pc' (.long (f i.toNatClampNeg) :: st) k n) : J X ws lv pc (.int i :: .ref a :: st) k n := by
  subst hp
  obtain ⟨p, l, e, R, s, m, args, below, meth, c, nL, D, ty, A, Q⟩ := X
  obtain ⟨hx, hb, hml, hown, hts, hA, hK, hE, hlk, rfl, rfl, rfl, rfl, rfl, rfl⟩ := C
  intro H locs ls hP hD hS hl
  exact va_lald hx hb hK hP q0 3 he rfl hin d (K H locs ls hP hD hS hl)
theorem j_aaload (C : kC X cc Ts own rm nm l0 D ty nL) {a N : Nat} {f : Nat → Option Nat} {i : Int32} (d : decode cc pc = .ok (.aaload, 1)) (hp : pc + 1 = pc') (q0 : Nat) (he : ws[q0]? = some (a, .inl (ty 4, N, .inr (.inr (.inr (.inr f)))))) (hin : vp_in i N) (K : J X ws lv pc' (va_rf (f i.toNatClampNeg) :: st) k n) : J X ws lv pc (.int i :: .ref a :: st) k n := by
  subst hp
  obtain ⟨p, l, e, R, s, m, args, below, meth, c, nL, D, ty, A, Q⟩ := X
  obtain ⟨hx, hb, hml, hown, hts, hA, hK, hE, hlk, rfl, rfl, rfl, rfl, rfl, rfl⟩ := C
  intro H locs ls hP hD hS hl
  exact va_aldq hx hb hK hP q0 4 he rfl hin d (K H locs ls hP hD hS hl)
theorem j_iastore (C : kC X cc Ts own rm nm l0 D ty nL) {a N : Nat} {f : Nat → Int32} {i : Int32} {x : Int32} {ws' : va_W} (d : decode cc pc = .ok (.iastore, 1)) (hp : pc + 1 = pc') (q0 : Nat) (he : ws[q0]? = some (a, .inl (ty 0, N, .inl (f)))) (hin : vp_in i N) (hws : ws.set q0 (a, .inl (ty 0, N, .inl (upd f i.toNatClampNeg x))) = ws') (K : J X ws' lv pc' st k n) : J X ws lv pc (.int x :: .int i :: .ref a :: st) k n := by
  subst hp
  obtain ⟨p, l, e, R, s, m, args, below, meth, c, nL, D, ty, A, Q⟩ := X
  obtain ⟨hx, hb, hml, hown, hts, hA, hK, hE, hlk, rfl, rfl, rfl, rfl, rfl, rfl⟩ := C
  intro H locs ls hP hD hS hl
  refine va_iast hx hb hK hP hD hS q0 0 he rfl hin d (fun H1 locs1 hP1 hD1 hS1 => ?_)
  exact K H1 locs1 ls (hws ▸ hP1) (hws ▸ hD1) hS1 hl
theorem j_dastore (C : kC X cc Ts own rm nm l0 D ty nL) {a N : Nat} {f : Nat → UInt64} {i : Int32} {x : UInt64} {ws' : va_W} (d : decode cc pc = .ok (.dastore, 1)) (hp : pc + 1 = pc') (q0 : Nat) (he : ws[q0]? = some (a, .inl (ty 1, N, .inr (.inr (.inr (.inl (f))))))) (hin : vp_in i N) (hws : ws.set q0 (a, .inl (ty 1, N, .inr (.inr (.inr (.inl (vf_upd f i.toNatClampNeg x)))))) = ws') (K : J X ws' lv pc' st k n) : J X ws lv pc (.double x :: .int i :: .ref a :: st) k n := by
  subst hp
  obtain ⟨p, l, e, R, s, m, args, below, meth, c, nL, D, ty, A, Q⟩ := X
  obtain ⟨hx, hb, hml, hown, hts, hA, hK, hE, hlk, rfl, rfl, rfl, rfl, rfl, rfl⟩ := C
  intro H locs ls hP hD hS hl
  refine va_dast hx hb hK hP hD hS q0 1 he rfl hin d (fun H1 locs1 hP1 hD1 hS1 => ?_)
  exact K H1 locs1 ls (hws ▸ hP1) (hws ▸ hD1) hS1 hl
theorem j_zastore (C : kC X cc Ts own rm nm l0 D ty nL) {a N : Nat} {f : Nat → Int32} {i : Int32} {x : Int32} {ws' : va_W} (d : decode cc pc = .ok (.bastore, 1)) (hp : pc + 1 = pc') (q0 : Nat) (he : ws[q0]? = some (a, .inl (ty 2, N, .inl (f)))) (hin : vp_in i N) (hws : ws.set q0 (a, .inl (ty 2, N, .inl (upd f i.toNatClampNeg (vp_nar .boolean x)))) = ws') (K : J X ws' lv pc' st k n) : J X ws lv pc (.int x :: .int i :: .ref a :: st) k n := by
  subst hp
  obtain ⟨p, l, e, R, s, m, args, below, meth, c, nL, D, ty, A, Q⟩ := X
  obtain ⟨hx, hb, hml, hown, hts, hA, hK, hE, hlk, rfl, rfl, rfl, rfl, rfl, rfl⟩ := C
  intro H locs ls hP hD hS hl
  refine va_zast hx hb hK hP hD hS q0 2 he rfl hin d (fun H1 locs1 hP1 hD1 hS1 => ?_)
  exact K H1 locs1 ls (hws ▸ hP1) (hws ▸ hD1) hS1 hl
theorem j_lastore (C : kC X cc Ts own rm nm l0 D ty nL) {a N : Nat} {f : Nat → Int64} {i : Int32} {x : Int64} {ws' : va_W} (d : decode cc pc = .ok (.lastore, 1)) (hp : pc + 1 = pc') (q0 : Nat) (he : ws[q0]? = some (a, .inl (ty 3, N, .inr (.inl (f))))) (hin : vp_in i N) (hws : ws.set q0 (a, .inl (ty 3, N, .inr (.inl (vp_updL f i.toNatClampNeg x)))) = ws') (K : J X ws' lv pc' st k n) : J X ws lv pc (.long x :: .int i :: .ref a :: st) k n := by
  subst hp
  obtain ⟨p, l, e, R, s, m, args, below, meth, c, nL, D, ty, A, Q⟩ := X
  obtain ⟨hx, hb, hml, hown, hts, hA, hK, hE, hlk, rfl, rfl, rfl, rfl, rfl, rfl⟩ := C
  intro H locs ls hP hD hS hl
  refine va_last hx hb hK hP hD hS q0 3 he rfl hin d (fun H1 locs1 hP1 hD1 hS1 => ?_)
  exact K H1 locs1 ls (hws ▸ hP1) (hws ▸ hD1) hS1 hl
theorem j_alen (C : kC X cc Ts own rm nm l0 D ty nL) {a : Nat} {t0 : Nat} {ft : FieldType} {x : vp_A} {v : Int32} (d : decode cc pc = .ok (.arraylength, 1)) (hp : pc + 1 = pc') (q0 : Nat) (he : ws[q0]? = some (a, .inl (ty t0, x))) (ht : (kTY ty)[t0]? = some (ty t0, ft)) (hv : Int32.ofNat x.1 = v) (K : J X ws lv pc' (.int v :: st) k n) : J X ws lv pc (.ref a :: st) k n := by
  subst hp
  obtain ⟨p, l, e, R, s, m, args, below, meth, c, nL, D, ty, A, Q⟩ := X
  obtain ⟨hx, hb, hml, hown, hts, hA, hK, hE, hlk, rfl, rfl, rfl, rfl, rfl, rfl⟩ := C
  intro H locs ls hP hD hS hl
  exact va_alen hx hb hK hP q0 t0 he ht hv d (K H locs ls hP hD hS hl)
abbrev kMth (own : String) (ix : Nat) (nm : MethodName) (code : ByteArray) (nl : Nat) (Ts : List Cond) : Prop := Cond.methodLink own ix nm ∈ Ts ∧ Cond.static nm ∈ Ts ∧ Cond.initialized "java/lang/Math" ∈ Ts ∧ Cond.code nm code nl (some .int) ∈ Ts
theorem j_max (C : kC X cc Ts own rm nm l0 D ty nL) {x y : Int32} {ix : Nat} (d : decode cc pc = .ok (.invokestatic ix, 3)) (hp : pc + 3 = pc') (hw : kMth own ix Lib.Math.max.name Lib.Math.max.code 2 Ts) (hr : 1 ≤ rm.frames ∧ (st.map fun v => v.category).sum + 13 ≤ rm.locals ∧ k ≤ rm.cells ∧ n ≤ rm.slots) (K : J X ws lv pc' (.int (if x < y then y else x) :: st) k n) : J X ws lv pc (.int y :: .int x :: st) k n := by
  subst hp
  obtain ⟨p, l, e, R, s, m, args, below, meth, c, nL, D, ty, A, Q⟩ := X
  obtain ⟨hx, hb, hml, hown, hts, hA, hK, hE, hlk, rfl, rfl, rfl, rfl, rfl, rfl⟩ := C
  intro H locs ls hP hD hS hl
  exact va_mmax hx hb (hml.trans hl.1.symm) hown (hts _ hw.1) (hts _ hw.2.1) (hts _ hw.2.2.1) (hts _ hw.2.2.2) hr.1 hr.2.1 hr.2.2.1 hr.2.2.2 d (K H locs ls hP hD hS hl)
theorem j_min (C : kC X cc Ts own rm nm l0 D ty nL) {x y : Int32} {ix : Nat} (d : decode cc pc = .ok (.invokestatic ix, 3)) (hp : pc + 3 = pc') (hw : kMth own ix Lib.Math.min.name Lib.Math.min.code 2 Ts) (hr : 1 ≤ rm.frames ∧ (st.map fun v => v.category).sum + 13 ≤ rm.locals ∧ k ≤ rm.cells ∧ n ≤ rm.slots) (K : J X ws lv pc' (.int (if y < x then y else x) :: st) k n) : J X ws lv pc (.int y :: .int x :: st) k n := by
  subst hp
  obtain ⟨p, l, e, R, s, m, args, below, meth, c, nL, D, ty, A, Q⟩ := X
  obtain ⟨hx, hb, hml, hown, hts, hA, hK, hE, hlk, rfl, rfl, rfl, rfl, rfl, rfl⟩ := C
  intro H locs ls hP hD hS hl
  exact va_mmin hx hb (hml.trans hl.1.symm) hown (hts _ hw.1) (hts _ hw.2.1) (hts _ hw.2.2.1) (hts _ hw.2.2.2) hr.1 hr.2.1 hr.2.2.1 hr.2.2.2 d (K H locs ls hP hD hS hl)
theorem j_abs (C : kC X cc Ts own rm nm l0 D ty nL) {x : Int32} {ix : Nat} (d : decode cc pc = .ok (.invokestatic ix, 3)) (hp : pc + 3 = pc') (hw : kMth own ix Lib.Math.abs.name Lib.Math.abs.code 1 Ts) (hr : 1 ≤ rm.frames ∧ (st.map fun v => v.category).sum + 13 ≤ rm.locals ∧ k ≤ rm.cells ∧ n ≤ rm.slots) (K : J X ws lv pc' (.int (if 0 ≤ x then x else 0 - x) :: st) k n) : J X ws lv pc (.int x :: st) k n := by
  subst hp
  obtain ⟨p, l, e, R, s, m, args, below, meth, c, nL, D, ty, A, Q⟩ := X
  obtain ⟨hx, hb, hml, hown, hts, hA, hK, hE, hlk, rfl, rfl, rfl, rfl, rfl, rfl⟩ := C
  intro H locs ls hP hD hS hl
  exact va_mabs hx hb (hml.trans hl.1.symm) hown (hts _ hw.1) (hts _ hw.2.1) (hts _ hw.2.2.1) (hts _ hw.2.2.2) hr.1 hr.2.1 hr.2.2.1 hr.2.2.2 d (K H locs ls hP hD hS hl)
theorem j_top {v v' : Value} (h : v = v') (K : J X ws lv pc (v' :: st) k n) : J X ws lv pc (v :: st) k n := by
  subst h
  exact K
theorem j_top2 {v v2 v2' : Value} (h : v2 = v2') (K : J X ws lv pc (v :: v2' :: st) k n) : J X ws lv pc (v :: v2 :: st) k n := by
  subst h
  exact K
theorem j_gen {x : Int32} (K : ∀ y : Int32, y = x → J X ws lv pc (.int y :: st) k n) : J X ws lv pc (.int x :: st) k n := K x rfl
theorem j_genl {x : Int64} (K : ∀ y : Int64, y = x → J X ws lv pc (.long y :: st) k n) : J X ws lv pc (.long x :: st) k n := K x rfl
theorem j_gend {x : UInt64} (K : ∀ y : UInt64, y = x → J X ws lv pc (.double y :: st) k n) : J X ws lv pc (.double x :: st) k n := K x rfl
theorem j_weights (C : kC X cc Ts own rm nm l0 D ty nL) (d : decode cc pc = .ok (.getstatic kWix, 3)) (hp : pc + 3 = pc') (ho : own = RX3) (K : ∀ t : Nat, (∀ (pc : Nat) (st : List Value) (lv : List (Nat × Value)) (ws : va_W) (k n : Nat), decode cc pc = .ok (.arraylength, 1) → J X ws lv (pc + 1) (.int 5 :: st) k n → J X ws lv pc (.ref t :: st) k n) → (∀ (pc : Nat) (st : List Value) (lv : List (Nat × Value)) (ws : va_W) (k n : Nat) (i : Int32), decode cc pc = .ok (.iaload, 1) → vp_in i 5 → J X ws lv (pc + 1) (kWT i.toNatClampNeg :: st) k n → J X ws lv pc (.int i :: .ref t :: st) k n) → J X ws lv pc' (.ref t :: st) k n) : J X ws lv pc st k n := by
  subst hp
  subst ho
  obtain ⟨p, l, e, R, s, m, args, below, meth, c, nL, D, ty, A, Q⟩ := X
  obtain ⟨hx, hb, hml, hown, hts, hA, hK, hE, hlk, rfl, rfl, rfl, rfl, rfl, rfl⟩ := C
  obtain ⟨⟨t, hZ, hT⟩, -, -, hN, -⟩ := id hE
  intro H locs ls hP hD hS hl
  refine va_getsN hx hb hZ hS hown (va_Nw.use rfl hN) (fun _ h => h) d ?_
  refine K t ?_ ?_ H locs ls hP hD hS hl
  · intro pc st lv ws k n d2 K2 H locs ls hP hD hS hl
    exact va_tlen hx hb hT hS rfl d2 (K2 H locs ls hP hD hS hl)
  · intro pc st lv ws k n i d2 hi K2 H locs ls hP hD hS hl
    exact va_ti hx hb hT hS hi rfl d2 (K2 H locs ls hP hD hS hl)
theorem j_new (C : kC X cc Ts own rm nm l0 D ty nL) {Cn : String} {T : u_T} {N ci ix : Nat} {tyf : Nat → FieldType} {fs : List Value} (d : decode cc pc = .ok (.new ix, 3)) (hp : pc + 3 = pc') (hin : ∀ w ∈ u_ws Cn T N, w ∈ Ts) (hty : ∀ k, k < N → parseFieldDescriptor (T k).2.2.1 = some (tyf k)) (hcl : Cond.classLink own ix Cn ∈ Ts) (hinst : Cond.instantiable Cn N ∈ Ts) (hini : Cond.initialized Cn ∈ Ts) (hc : vwCl[ci]? = some (Cn, T, N)) (hfs : ∀ j, j < N → defaultValue (tyf j) = vp_V fs j) (hr : k + 1 ≤ rm.cells ∧ n + N ≤ rm.slots) (K : ∀ q : Nat, J X (ws ++ [(q, .inr (ci, fs))]) lv pc' (.ref q :: st) (k + 1) (n + N)) : J X ws lv pc st k n := by
  subst hp
  obtain ⟨p, l, e, R, s, m, args, below, meth, c, nL, D, ty, A, Q⟩ := X
  obtain ⟨hx, hb, hml, hown, hts, hA, hK, hE, hlk, rfl, rfl, rfl, rfl, rfl, rfl⟩ := C
  intro H locs ls hP hD hS hl
  exact va_new hx hb hts hin tyf hty hown (hts _ hcl) (hts _ hinst) (hts _ hini) hK hP hD hS hA hc hfs hr.1 hr.2 d (fun q H1 hP1 hD1 hS1 => K q H1 locs ls hP1 hD1 hS1 hl)
theorem j_newarr (C : kC X cc Ts own rm nm l0 D ty nL) {atype : ArrayType} {t0 N : Nat} {i : Int32} {a0 : vp_A} {ft : FieldType} (d : decode cc pc = .ok (.newarray atype, 2)) (hp : pc + 2 = pc') (hty : newarray.typeOf atype = ft) (ht : (kTY ty)[t0]? = some (ty t0, ft)) (hno : ∀ c, ft ≠ .object c) (hw : Cond.arrayClass ft ∈ Ts) (ha : ∀ cA : ClassId, vp_cell cA a0 = arrV cA N (fun _ => defaultValue ft)) (hi : i = nI N) (hN : N ≤ 65536) (hr : k + 1 ≤ rm.cells ∧ n + N ≤ rm.slots) (K : ∀ q : Nat, J X (ws ++ [(q, .inl (ty t0, a0))]) lv pc' (.ref q :: st) (k + 1) (n + N)) : J X ws lv pc (.int i :: st) k n := by
  subst hp
  obtain ⟨p, l, e, R, s, m, args, below, meth, c, nL, D, ty, A, Q⟩ := X
  obtain ⟨hx, hb, hml, hown, hts, hA, hK, hE, hlk, rfl, rfl, rfl, rfl, rfl, rfl⟩ := C
  intro H locs ls hP hD hS hl
  have h31 : N < 2 ^ 31 := Nat.lt_of_le_of_lt hN (Nat.le_of_ble_eq_true rfl)
  subst hty
  have hcb : componentBytes (newarray.typeOf atype) ≤ 8 := by cases atype <;> decide
  refine va_newa hx hb (hts _ hw) rfl hK hP hD hS hA ha (by rw [hi]; exact nI_pos h31) (by rw [hi]; exact nI_clamp h31) (Nat.le_trans (Nat.mul_le_mul hN hcb) (Nat.le_of_ble_eq_true rfl)) hr.1 hr.2 d (fun q cA H1 hK1 hP1 hD1 hS1 => ?_)
  have e : cA = ty t0 := by
    have h1 := (hK1.2 (kTY ty).length (cA, newarray.typeOf atype) (by rw [List.getElem?_append_right (Nat.le_refl _), Nat.sub_self]; rfl)).2
    have h2 := (hK.2 t0 _ ht).2
    have key : ∀ z : ClassId, va_RA s z (newarray.typeOf atype) → s.vm.findClass ("[" ++ (newarray.typeOf atype).toString) = some z := by
      intro z hz
      cases atype <;> exact hz
    exact Option.some.inj ((key _ h1).symm.trans (key _ h2))
  subst e
  exact K q H1 locs ls hP1 hD1 hS1 hl
theorem j_iret (C : kC X cc Ts own rm nm l0 D ty nL) {post : Option Value → va_W → Prop} {mc ms : Nat} {v : Int32} (d : decode cc pc = .ok (.ireturn, 1)) (hr : kR X (some .int) post mc ms) (hk : k ≤ mc ∧ n ≤ ms) (hpost : post (some (.int v)) ws) : J X ws lv pc [.int v] k n := by
  obtain ⟨p, l, e, R, s, m, args, below, meth, c, nL, D, ty, A, Q⟩ := X
  obtain ⟨hx, hb, hml, hown, hts, hA, hK, hE, hlk, rfl, rfl, rfl, rfl, rfl, rfl⟩ := C
  intro H locs ls hP hD hS hl
  refine W.widen hk.1 hk.2 ?_
  obtain ⟨hr0, rfl⟩ := id hr
  refine W.iret hx hb hr.1 ?_ ?_ d hlk
  · intro t ht hW
    exact ⟨⟨_, ws, rfl, hpost, by rw [ht]; exact hP, hD⟩, hS.F ht⟩
  · exact hS.2.2
theorem j_iretT (C : kC X cc Ts own rm nm l0 D ty nL) {post : Option Value → va_W → Prop} {px : String → va_W → Prop} {mc ms : Nat} {v : Int32} (d : decode cc pc = .ok (.ireturn, 1)) (hr : kRT X (some .int) post px mc ms) (hk : k ≤ mc ∧ n ≤ ms) (hpost : post (some (.int v)) ws) : J X ws lv pc [.int v] k n := by
  obtain ⟨p, l, e, R, s, m, args, below, meth, c, nL, D, ty, A, Q⟩ := X
  obtain ⟨hx, hb, hml, hown, hts, hA, hK, hE, hlk, rfl, rfl, rfl, rfl, rfl, rfl⟩ := C
  intro H locs ls hP hD hS hl
  refine W.widen hk.1 hk.2 ?_
  obtain ⟨hr0, rfl, -⟩ := id hr
  refine vx_ret ?_
  refine W.iret hx hb hr.1 ?_ ?_ d hlk
  · intro t ht hW
    exact ⟨⟨_, ws, rfl, hpost, by rw [ht]; exact hP, hD⟩, hS.F ht⟩
  · exact hS.2.2
theorem j_lret (C : kC X cc Ts own rm nm l0 D ty nL) {post : Option Value → va_W → Prop} {mc ms : Nat} {v : Int64} (d : decode cc pc = .ok (.lreturn, 1)) (hr : kR X (some .long) post mc ms) (hk : k ≤ mc ∧ n ≤ ms) (hpost : post (some (.long v)) ws) : J X ws lv pc [.long v] k n := by
  obtain ⟨p, l, e, R, s, m, args, below, meth, c, nL, D, ty, A, Q⟩ := X
  obtain ⟨hx, hb, hml, hown, hts, hA, hK, hE, hlk, rfl, rfl, rfl, rfl, rfl, rfl⟩ := C
  intro H locs ls hP hD hS hl
  refine W.widen hk.1 hk.2 ?_
  obtain ⟨hr0, rfl⟩ := id hr
  refine W.lret hx hb hr.1 ?_ ?_ d hlk
  · intro t ht hW
    exact ⟨⟨_, ws, rfl, hpost, by rw [ht]; exact hP, hD⟩, hS.F ht⟩
  · exact hS.2.2
theorem j_lretT (C : kC X cc Ts own rm nm l0 D ty nL) {post : Option Value → va_W → Prop} {px : String → va_W → Prop} {mc ms : Nat} {v : Int64} (d : decode cc pc = .ok (.lreturn, 1)) (hr : kRT X (some .long) post px mc ms) (hk : k ≤ mc ∧ n ≤ ms) (hpost : post (some (.long v)) ws) : J X ws lv pc [.long v] k n := by
  obtain ⟨p, l, e, R, s, m, args, below, meth, c, nL, D, ty, A, Q⟩ := X
  obtain ⟨hx, hb, hml, hown, hts, hA, hK, hE, hlk, rfl, rfl, rfl, rfl, rfl, rfl⟩ := C
  intro H locs ls hP hD hS hl
  refine W.widen hk.1 hk.2 ?_
  obtain ⟨hr0, rfl, -⟩ := id hr
  refine vx_ret ?_
  refine W.lret hx hb hr.1 ?_ ?_ d hlk
  · intro t ht hW
    exact ⟨⟨_, ws, rfl, hpost, by rw [ht]; exact hP, hD⟩, hS.F ht⟩
  · exact hS.2.2
theorem j_dret (C : kC X cc Ts own rm nm l0 D ty nL) {post : Option Value → va_W → Prop} {mc ms : Nat} {v : UInt64} (d : decode cc pc = .ok (.dreturn, 1)) (hr : kR X (some .double) post mc ms) (hk : k ≤ mc ∧ n ≤ ms) (hpost : post (some (.double v)) ws) : J X ws lv pc [.double v] k n := by
  obtain ⟨p, l, e, R, s, m, args, below, meth, c, nL, D, ty, A, Q⟩ := X
  obtain ⟨hx, hb, hml, hown, hts, hA, hK, hE, hlk, rfl, rfl, rfl, rfl, rfl, rfl⟩ := C
  intro H locs ls hP hD hS hl
  refine W.widen hk.1 hk.2 ?_
  obtain ⟨hr0, rfl⟩ := id hr
  refine W.dret hx hb hr.1 ?_ ?_ d hlk
  · intro t ht hW
    exact ⟨⟨_, ws, rfl, hpost, by rw [ht]; exact hP, hD⟩, hS.F ht⟩
  · exact hS.2.2
theorem j_dretT (C : kC X cc Ts own rm nm l0 D ty nL) {post : Option Value → va_W → Prop} {px : String → va_W → Prop} {mc ms : Nat} {v : UInt64} (d : decode cc pc = .ok (.dreturn, 1)) (hr : kRT X (some .double) post px mc ms) (hk : k ≤ mc ∧ n ≤ ms) (hpost : post (some (.double v)) ws) : J X ws lv pc [.double v] k n := by
  obtain ⟨p, l, e, R, s, m, args, below, meth, c, nL, D, ty, A, Q⟩ := X
  obtain ⟨hx, hb, hml, hown, hts, hA, hK, hE, hlk, rfl, rfl, rfl, rfl, rfl, rfl⟩ := C
  intro H locs ls hP hD hS hl
  refine W.widen hk.1 hk.2 ?_
  obtain ⟨hr0, rfl, -⟩ := id hr
  refine vx_ret ?_
  refine W.dret hx hb hr.1 ?_ ?_ d hlk
  · intro t ht hW
    exact ⟨⟨_, ws, rfl, hpost, by rw [ht]; exact hP, hD⟩, hS.F ht⟩
  · exact hS.2.2
theorem j_vret (C : kC X cc Ts own rm nm l0 D ty nL) {post : Option Value → va_W → Prop} {mc ms : Nat}  (d : decode cc pc = .ok (.return_, 1)) (hr : kR X none post mc ms) (hk : k ≤ mc ∧ n ≤ ms) (hpost : post (none) ws) : J X ws lv pc [] k n := by
  obtain ⟨p, l, e, R, s, m, args, below, meth, c, nL, D, ty, A, Q⟩ := X
  obtain ⟨hx, hb, hml, hown, hts, hA, hK, hE, hlk, rfl, rfl, rfl, rfl, rfl, rfl⟩ := C
  intro H locs ls hP hD hS hl
  refine W.widen hk.1 hk.2 ?_
  obtain ⟨hr0, rfl⟩ := id hr
  refine W.vret hx hb hr.1 ?_ ?_ d hlk
  · intro t ht hW
    exact ⟨⟨_, ws, rfl, hpost, by rw [ht]; exact hP, hD⟩, hS.F ht⟩
  · exact hS.2.2
theorem j_vretT (C : kC X cc Ts own rm nm l0 D ty nL) {post : Option Value → va_W → Prop} {px : String → va_W → Prop} {mc ms : Nat}  (d : decode cc pc = .ok (.return_, 1)) (hr : kRT X none post px mc ms) (hk : k ≤ mc ∧ n ≤ ms) (hpost : post (none) ws) : J X ws lv pc [] k n := by
  obtain ⟨p, l, e, R, s, m, args, below, meth, c, nL, D, ty, A, Q⟩ := X
  obtain ⟨hx, hb, hml, hown, hts, hA, hK, hE, hlk, rfl, rfl, rfl, rfl, rfl, rfl⟩ := C
  intro H locs ls hP hD hS hl
  refine W.widen hk.1 hk.2 ?_
  obtain ⟨hr0, rfl, -⟩ := id hr
  refine vx_ret ?_
  refine W.vret hx hb hr.1 ?_ ?_ d hlk
  · intro t ht hW
    exact ⟨⟨_, ws, rfl, hpost, by rw [ht]; exact hP, hD⟩, hS.F ht⟩
  · exact hS.2.2
theorem j_zret (C : kC X cc Ts own rm nm l0 D ty nL) {post : Option Value → va_W → Prop} {mc ms : Nat} {v : Int32} (d : decode cc pc = .ok (.ireturn, 1)) (hr : kR X (some .boolean) post mc ms) (hz : narrow .boolean (.int v) = .int v) (hk : k ≤ mc ∧ n ≤ ms) (hpost : post (some (.int v)) ws) : J X ws lv pc [.int v] k n := by
  obtain ⟨p, l, e, R, s, m, args, below, meth, c, nL, D, ty, A, Q⟩ := X
  obtain ⟨hx, hb, hml, hown, hts, hA, hK, hE, hlk, rfl, rfl, rfl, rfl, rfl, rfl⟩ := C
  intro H locs ls hP hD hS hl
  refine W.widen hk.1 hk.2 ?_
  obtain ⟨hr0, rfl⟩ := id hr
  refine W.zret hx hb hr.1 hz ?_ ?_ d hlk
  · intro t ht hW
    exact ⟨⟨_, ws, rfl, hpost, by rw [ht]; exact hP, hD⟩, hS.F ht⟩
  · exact hS.2.2
theorem j_zretT (C : kC X cc Ts own rm nm l0 D ty nL) {post : Option Value → va_W → Prop} {px : String → va_W → Prop} {mc ms : Nat} {v : Int32} (d : decode cc pc = .ok (.ireturn, 1)) (hr : kRT X (some .boolean) post px mc ms) (hz : narrow .boolean (.int v) = .int v) (hk : k ≤ mc ∧ n ≤ ms) (hpost : post (some (.int v)) ws) : J X ws lv pc [.int v] k n := by
  obtain ⟨p, l, e, R, s, m, args, below, meth, c, nL, D, ty, A, Q⟩ := X
  obtain ⟨hx, hb, hml, hown, hts, hA, hK, hE, hlk, rfl, rfl, rfl, rfl, rfl, rfl⟩ := C
  intro H locs ls hP hD hS hl
  refine W.widen hk.1 hk.2 ?_
  obtain ⟨hr0, rfl, -⟩ := id hr
  refine vx_ret ?_
  refine W.zret hx hb hr.1 hz ?_ ?_ d hlk
  · intro t ht hW
    exact ⟨⟨_, ws, rfl, hpost, by rw [ht]; exact hP, hD⟩, hS.F ht⟩
  · exact hS.2.2
theorem j_aret (C : kC X cc Ts own rm nm l0 D ty nL) {post : Option Value → va_W → Prop} {mc ms : Nat} {v : Value} {cn : String} (d : decode cc pc = .ok (.areturn, 1)) (hr : kR X (some (.object cn)) post mc ms) (hz : v = .null ∨ ∃ a, v = .ref a) (hk : k ≤ mc ∧ n ≤ ms) (hpost : post (some v) ws) : J X ws lv pc [v] k n := by
  obtain ⟨p, l, e, R, s, m, args, below, meth, c, nL, D, ty, A, Q⟩ := X
  obtain ⟨hx, hb, hml, hown, hts, hA, hK, hE, hlk, rfl, rfl, rfl, rfl, rfl, rfl⟩ := C
  intro H locs ls hP hD hS hl
  refine W.widen hk.1 hk.2 ?_
  obtain ⟨hr0, rfl⟩ := id hr
  refine W.aret hx hb hr.1 (Or.inl ⟨_, rfl⟩) hz ?_ ?_ d hlk
  · intro t ht hW
    exact ⟨⟨_, ws, rfl, hpost, by rw [ht]; exact hP, hD⟩, hS.F ht⟩
  · exact hS.2.2
theorem j_aretT (C : kC X cc Ts own rm nm l0 D ty nL) {post : Option Value → va_W → Prop} {px : String → va_W → Prop} {mc ms : Nat} {v : Value} {cn : String} (d : decode cc pc = .ok (.areturn, 1)) (hr : kRT X (some (.object cn)) post px mc ms) (hz : v = .null ∨ ∃ a, v = .ref a) (hk : k ≤ mc ∧ n ≤ ms) (hpost : post (some v) ws) : J X ws lv pc [v] k n := by
  obtain ⟨p, l, e, R, s, m, args, below, meth, c, nL, D, ty, A, Q⟩ := X
  obtain ⟨hx, hb, hml, hown, hts, hA, hK, hE, hlk, rfl, rfl, rfl, rfl, rfl, rfl⟩ := C
  intro H locs ls hP hD hS hl
  refine W.widen hk.1 hk.2 ?_
  obtain ⟨hr0, rfl, -⟩ := id hr
  refine vx_ret ?_
  refine W.aret hx hb hr.1 (Or.inl ⟨_, rfl⟩) hz ?_ ?_ d hlk
  · intro t ht hW
    exact ⟨⟨_, ws, rfl, hpost, by rw [ht]; exact hP, hD⟩, hS.F ht⟩
  · exact hS.2.2
end KJ
