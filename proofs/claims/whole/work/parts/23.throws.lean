/-! an exception that leaves a method, and its catching by the caller: rows over the library's own laws (ThrowLaws, StandThrows, BundleOwnThrow, Cold), for launches without stack traces -/
/-- nothing that was there has changed -/
theorem zt_same {s U : State} {k n : Nat} (h : s.sameButNew ({ U with vm := s.vm } : State) [] k n) : s.heap.size ≤ U.heap.size ∧ ∀ q : Nat, q < s.heap.size → U.heap[q]? = s.heap[q]? := by
  obtain ⟨-, h2, -, -, -, h6⟩ := h
  refine ⟨h2, fun q hq => ?_⟩
  obtain ⟨c9, e1, e2, -, e4⟩ := h6 q _ (Array.getElem?_eq_getElem hq)
  have hs : c9.slots = (s.heap[q]).slots := Array.ext_getElem? fun i => e4 i (fun z => nomatch z)
  have h9 : c9 = s.heap[q] := by rw [hs] at e2; exact e2
  have e5 : U.heap[q]? = some c9 := e1
  rw [e5, h9, Array.getElem?_eq_getElem hq]
/-- words that hold at U and at every later state in which nothing outside A has changed -/
def zt_OK (A : Nat → Prop) (ws : List Cond) (U : State) : Prop := ∀ (U' : State) (a : Array Value), U.WarmedH U'.vm → U.heap.size ≤ U'.heap.size → (∀ q : Nat, q < U.heap.size → ¬ A q → U'.heap[q]? = U.heap[q]?) → ∀ w ∈ ws, w.before a U' = true
theorem zt_OK.down {A0 A1 : Nat → Prop} {ws : List Cond} {s0 U1 : State} (h : zt_OK A0 ws s0) (hW : s0.WarmedH U1.vm) (hsz : s0.heap.size ≤ U1.heap.size) (heq : ∀ q : Nat, q < s0.heap.size → ¬ A0 q → U1.heap[q]? = s0.heap[q]?) (hA : ∀ q, A1 q → A0 q) : zt_OK A1 ws U1 := by
  intro U' a hW' hsz' heq' w hw
  exact h U' a (State.WarmedH.trans hW hW') (Nat.le_trans hsz hsz') (fun q hq hn => (heq' q (Nat.lt_of_lt_of_le hq hsz) (fun z => hn (hA q z))).trans (heq q hq hn)) w hw
theorem zt_OK.tail {A : Nat → Prop} {w : Cond} {ws : List Cond} {U : State} (h : zt_OK A (w :: ws) U) : zt_OK A ws U := fun U' a h1 h2 h3 w' hw => h U' a h1 h2 h3 w' (List.mem_cons_of_mem _ hw)
theorem zt_OK.now {A : Nat → Prop} {ws : List Cond} {U : State} (h : zt_OK A ws U) (a : Array Value) : ∀ w ∈ ws, w.before a U = true := h U a (State.WarmedH.refl U) (Nat.le_refl _) (fun _ _ _ => rfl)
section ZT
variable {p : Program} {l : Launch} {e : Env} {R : Room} {s : State} {m : MethodId} {args : Array Value} {below : List Frame} {meth : Method} {c : Code} {H : Heap} {locs : List Loc} {cells slots : Nat} {Q : State → Prop}
/-- how a method that throws an E ends: the world B, nothing changed outside A -/
def zt_Q (E : String) (B : State → Prop) (A : Nat → Prop) (mc ms : Nat) : Array Value → State → Outcome → State → Prop := fun _ st o t =>
  ∃ (q : Addr) (ce : Cell) (L : List Loc), o = .threw q ∧ B t ∧ va_F A st t ∧ t.heap[q]? = some ce ∧ ce.vm = .none ∧ st.vm.findClass E = some ce.cls ∧ st.WarmedH t.vm ∧ st.sameButNew ({ t with vm := st.vm } : State) L mc ms ∧ ∀ z ∈ L, A z.base
def zt_M (below : List Frame) (QQ : Array Value → State → Outcome → State → Prop) (a : Array Value) (s : State) : State → Prop := fun t => ∃ o, t.status = .running ∧ Ended t below o ∧ QQ a s o t
/-- throw new E("text"), where nothing that was there at the method's entry has been written -/
theorem zt_throw {cc : ByteArray} {pc : Nat} {ls : Array Slot} (hexec : p.tables.exec = Jvm.exec) (hb : c.code = cc) (hl : l.stackTraces = false) {own cls text : String} {names : List String} {ik is ic mc ms sa : Nat} {A : Nat → Prop} {B : State → Prop}
    (hown : s.vm.findClass own = some m.cls) (hcls : Bundle.fit cls = true) (hnames : ∀ n ∈ names, Bundle.fit n = true)
    (hstr : vk_R own is text sa s) (hok : zt_OK A (Cond.classLink own ik cls :: Cond.initialized cls :: Bundle.ownAtoms own ic cls names) s) (hsz : s.heap.size ≤ H.size) (hsize : ls.size = c.maxLocals)
    (d0 : decode cc pc = .ok (.new ik, 3)) (d3 : decode cc (pc + 3) = .ok (.dup, 1)) (d4 : decode cc (pc + 4) = .ok (.ldc is, 2)) (d6 : decode cc (pc + 6) = .ok (.invokespecial ic, 3)) (d9 : decode cc (pc + 9) = .ok (.athrow, 1))
    (htab : ∀ x ∈ c.exceptionTable.toList, False)
    (hRframes : names.length + 3 < R.frames) (hRlocals : 13 * (names.length + 1) + 44 ≤ R.locals) (hRcells : cells + 1 ≤ R.cells) (hRslots : slots + 6 ≤ R.slots) (hlocks : meth.locks = false)
    (hB : ∀ t : State, s.vm.Alike t.vm → s.heap.size ≤ t.heap.size → (∀ q : Nat, q < s.heap.size → t.heap[q]? = s.heap[q]?) → B t) (hc : cells + 1 ≤ mc) (hs : slots + 6 ≤ ms) :
    W p l e R s m args below meth c H [] cells slots (zt_M below (zt_Q cls B A mc ms) args s) (F0 m pc ls []) := by
  intro T hT X
  have hno : e.platform.stackTraces = false := (show e.platform.stackTraces = l.stackTraces by rw [X.admits.platform]).trans hl
  have hw := hok.now args
  have hat : ∀ w ∈ Bundle.ownAtoms own ic cls names, w.before args s = true := fun w h => hw w (List.mem_cons_of_mem _ (List.mem_cons_of_mem _ h))
  have e3 : decode c.code (pc + 3) = .ok (.dup, 1) := by rw [hb]; exact d3
  have e4 : decode c.code (pc + 4) = .ok (.ldc is, 2) := by rw [hb]; exact d4
  obtain ⟨vm₁, cX, kX, hfX, hkX, -, -, X₁, st₁⟩ := X.newCold hexec (own := own) (C := cls) (index := ik) (n := 6) hown (hw _ List.mem_cons_self) (hat _ (by simp [Bundle.ownAtoms])) (hw _ (List.mem_cons_of_mem _ List.mem_cons_self))
    (g := F0 m pc ls []) rfl (by rw [hb]; exact d0) hRcells hRslots
  obtain ⟨V, hV⟩ : ∃ V, V = (T.setVm vm₁).pushCell { cls := cX, slots := kX.instanceTypes.map defaultValue, vm := .none } := ⟨_, rfl⟩
  rw [← hV] at X₁ st₁
  have hfresh : V.heap[T.heap.size]? = some (freshCell cX kX) := by rw [hV]; exact State.heap_pushCell_size _ _
  have hcat : (Value.ref T.heap.size).category = 1 := rfl
  obtain ⟨U, hsteps, hrun, hend, hW, hsame, ce, hce, hO⟩ := X₁.ctorThrowS hexec hno (own := own) (cls := cls) (names := names) (ic := ic) hown hcls hnames hat (fun x hx => nomatch hx) hfX hkX hfresh (by rw [hT]; exact hsz) (msg := .ref sa) rfl
    (g := { method := m, pc := pc + 6, locals := ls, stack := [.ref sa, .ref T.heap.size, .ref T.heap.size], locked := none }) rfl hsize rfl rfl (rest := []) rfl
    (by rw [hb]; exact d6) (by rw [hb]; exact d9) (fun x hx => absurd (htab x hx) id) hRframes (by simp only [List.map_cons, List.map_nil, List.sum_cons, List.sum_nil, hcat]; exact Nat.le_trans (by show 2 * 0 + _ + _ ≤ 13 * (names.length + 1) + 44; omega) hRlocals) hlocks
  obtain ⟨f1, f2⟩ := zt_same hsame
  refine ⟨U, st₁ _ ?_, .threw T.heap.size, hrun, hend, T.heap.size, ce, [], rfl, hB U hW.alike f1 f2, ⟨f1, fun q h1 _ => f2 q h1⟩, hce, hO.vm, hO.cls, hW, hsame.mono hc hs, fun z hz => nomatch hz⟩
  show Steps p.tables e below (V.setTop { method := m, pc := pc + 3, locals := ls, stack := [.ref T.heap.size], locked := none }) _
  jvm_step X₁.here [X₁.here.top, hexec, e3, Value.category]
  exact X₁.ldcString hexec (own := own) (text := text) (index := is) (a := sa) hown hstr.1 hstr.2
    (g := { method := m, pc := pc + 4, locals := ls, stack := [.ref T.heap.size, .ref T.heap.size], locked := none }) rfl e4 _ hsteps
end ZT
/-- a body without a table of handlers, ending as QQ says -/
theorem zt_ofW {l : Launch} {y : MethodName} {ws ws' : List Cond} {rm : Room} {Pc : Array Value → State → Prop} {QQ : Array Value → State → Outcome → State → Prop} {cc : ByteArray} {maxL : Nat} {ret : Option FieldType}
    (hy : plainName y.cls = true) (hw : ws = Cond.code y cc maxL ret :: ws')
    (body : ∀ p e s m args below meth c s₁, BodyLoose p l y (headSpec ws rm) cc maxL ret e s m args below meth c s₁ → c.maxLocals = maxL → (∀ x ∈ c.exceptionTable.toList, False) → Pc args s →
      W p l e (headSpec ws rm).room s m args below meth c s.heap [] 0 0 (zt_M below QQ args s) (entryFrame m args maxL)) : MetFree l y (headSpec ws rm) Pc (fun _ _ _ _ _ => True) QQ := by
  refine MetFree.of_bodyS (code := cc) (maxLocals := maxL) (ret := ret) hy ?_ ?_
  · intro args s m h hn
    obtain ⟨meth, c, h1, h2, h3, h4, h5, h6, -, -⟩ := Cond.code_spec hn (atoms_spec (ws := ws) h _ (by rw [hw]; exact List.mem_cons_self))
    exact ⟨meth, c, h1, h2, h3, h4, h5, h6⟩
  · intro p e s m args below meth c s₁ B hml hP _
    have hh0 : s₁.heap = s.heap := by rw [B.state]; rfl
    have ht : ∀ x ∈ c.exceptionTable.toList, False := by
      obtain ⟨meth9, c9, h1, h2, -, -, -, -, h7, -⟩ := Cond.code_spec B.named (atoms_spec (ws := ws) B.pre _ (by rw [hw]; exact List.mem_cons_self))
      cases Option.some.inj (h1.symm.trans B.method)
      cases Option.some.inj (h2.symm.trans (Stand.of_body B).code)
      intro x hx
      rw [Array.isEmpty_iff.mp h7] at hx
      cases hx
    obtain ⟨t, a1, o, b1, b2, b3⟩ := body p e s m args below meth c s₁ B hml ht hP s₁ hh0 (Stand.of_body B)
    exact ⟨t, o, a1, b1, b2, b3⟩
