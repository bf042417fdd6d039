/-! a static call of a method with a table of handlers; the words of the throw, at the law's start and later -/
theorem zt_runS {p : Program} {l : Launch} {e : Env} {R : Room} {s : State} {m : MethodId} {args : Array Value} {below : List Frame} {meth : Method} {c : Code} {H : Heap} {locs : List Loc} {cells slots : Nat} {y : MethodName} {bytes cc : ByteArray} {maxL nL mc ms n index : Nat} {ret : Option FieldType} {hh : List (Nat × Nat × Nat × Nat)} {ws ws' : List Cond} {rm : Room} {Pc : Array Value → State → Prop} {Qc : Array Value → State → Outcome → State → Prop} {free : Addr → Prop} {Ts : List Cond} {own : String} {As rest : List Value} {g : JFrame}
    (S : CallFix p m c cc nL s args Ts own) (hM : Met l y ws rm Pc Qc mc ms free) (hT : GoodIn Ts (va_wsS own index y ws)) (hw : ws = Cond.codeWith y bytes maxL ret hh :: ws') (hrc : rm.cells = mc) (hrs : rm.slots = ms) (hR : rm.frames + 1 ≤ R.frames ∧ 8 + (maxL + 11) + rm.locals ≤ R.locals)
    (hd : y.cls ≠ "java/lang/invoke/MethodHandle" ∧ y.cls ≠ "java/lang/invoke/VarHandle" ∧ (parseMethodDescriptor y.desc).map (fun d => d.parameters.length) = some n) (hp : PreS s H Pc As)
    (hg : g.method = m) (hn : As.length = n) (hsize : g.locals.size = nL) (hstack : g.stack = As.reverse ++ rest) (hW : 2 * g.monitorRoom + (rest.map fun v => v.category).sum ≤ 8) (hdg : decode cc g.pc = .ok (.invokestatic index, 3)) (hf : cells + mc ≤ R.cells ∧ slots + ms ≤ R.slots) :
    va_Run p l e R s m args below meth c H locs cells slots mc ms g rest (Qc As.toArray) (free) := by
  obtain ⟨hx, hb, hml, ho, ht⟩ := S
  have ok : ∀ w ∈ va_wsS own index y ws, w.before args s = true := fun w h => ht w (hT w h).1
  have hG : GoodIn Ts ws := fun w h => hT w (by unfold va_wsS; exact List.mem_append_right _ h)
  have hcw : Cond.codeWith y bytes maxL ret hh ∈ ws := by rw [hw]; exact List.mem_cons_self
  have hcode : (Cond.codeWith y bytes maxL ret hh).before args s = true := ht _ (hG _ hcw).1
  have hini : (Cond.initialized y.cls).before args s = true := ok _ (by simp [va_wsS])
  have hl : (Cond.methodLink own index y).before args s = true := ok _ (by simp [va_wsS])
  have hstt : (Cond.static y).before args s = true := ok _ (by simp [va_wsS])
  have hlen : ∀ sig, parseMethodDescriptor y.desc = some sig → As.length = sig.parameters.length := fun sig h => by
    have h2 := hd.2.2
    rw [h] at h2
    exact hn.trans (Option.some.inj h2).symm
  have hK : Back l R p e below s args y 3 8 (PreOf R mc ms Pc) (PostOf Qc mc ms free) := va_backW (hh := hh) (bytes := bytes) (maxL := maxL) (ret := ret) hM hp.1 hrc hrs hR.1 hR.2 (pay_in ht hG) hcw (fun a' U hW => word_at hW (Or.inl (by first | rfl | simp [Cond.onTables, Cond.keeps, Cond.steady])) hini)
  intro T hT X
  obtain ⟨mk, methM, cM, hnamed, hmethM, -, -, -, -, -, -, hsigM⟩ := Cond.codeWith_spec hcode
  have hstatic : methM.isStatic = true := Cond.static_spec hnamed hmethM hstt
  obtain ⟨kP, hkP, -⟩ := className_of_methodNamed hnamed
  have hinitP : kP.init = .initialized := Cond.initialized_spec (findClass_of_methodNamed hnamed) hkP hini
  obtain ⟨vm₁, X₁, hstep₁⟩ := X.invokestatic hx ho hl hnamed hmethM hstatic hkP hinitP ⟨hd.1, hd.2.1⟩ (g := g) hg (argsL := As) (rest := rest) (hlen _ hsigM) hstack (by rw [hb]; exact hdg)
  obtain ⟨v, ⟨U', l2, c2, s2⟩, X', hpost, hsteps⟩ := hK m meth c ⟨T.setVm vm₁, locs, cells, slots⟩ { g with stack := rest } (.invokestatic index) mk As.toArray X₁ hg (hsize.trans hml.symm) (by rw [hb]; exact hdg) hW (X₁.named hnamed) ⟨hf.1, hf.2, hp.2 (T.setVm vm₁) hT X₁.warmed⟩
  obtain ⟨g', mk', t, L, e1, e2, hq, h1, hL, h2, h3⟩ := hpost
  dsimp only [Pt.U, Pt.locs, Pt.cells, Pt.slots] at X' e1 e2 h1 h2 h3 hsteps
  subst h1; subst h2; subst h3
  exact ⟨v, (T.setVm vm₁).calling g' mk' As.toArray, t, U', L, hT, X', hL, e1, e2, hq, fun target h => hstep₁ _ fun acts => by rw [doInvoke_state]; exact hsteps.trans h⟩
/-- the table of a body with handlers -/
theorem zt_table {l : Launch} {p : Program} {y : MethodName} {S : Spec} {cc bytes : ByteArray} {maxL maxL' : Nat} {ret ret' : Option FieldType} {e : Env} {s s₁ : State} {m : MethodId} {args : Array Value} {below : List Frame} {meth : Method} {c : Code} {hh : List (Nat × Nat × Nat × Nat)}
    (B : BodyLoose p l y S cc maxL ret e s m args below meth c s₁) (h : (Cond.codeWith y bytes maxL' ret' hh).before args s = true) : c.exceptionTable.toList = tableOf hh := by
  obtain ⟨m9, meth9, c9, hn9, h1, h2, -, -, h6, -⟩ := Cond.codeWith_spec h
  cases Option.some.inj (hn9.symm.trans B.named)
  cases Option.some.inj (h1.symm.trans B.method)
  cases Option.some.inj (h2.symm.trans (Stand.of_body B).code)
  rw [← h6, table_eq]
def zN : List String := ["java/lang/IndexOutOfBoundsException", "java/lang/RuntimeException", "java/lang/Exception"]
def zW : List Cond := Cond.classLink RX1 113 RJx00060 :: Cond.initialized RJx00060 :: Bundle.ownAtoms RX1 117 RJx00060 zN
def zW2 : List Cond := Cond.classLink RL 13 RJx00060 :: zW
def zB (w : Cond) : Bool := decide (w = .isRef (.static Bundle.tN "UNASSIGNED_STACK" Bundle.steD)) || decide (w = .isRef (.static Bundle.tN "SUPPRESSED_SENTINEL" Bundle.listD)) || decide (w = .laysStatic Bundle.tN "UNASSIGNED_STACK" Bundle.steD) || decide (w = .laysStatic Bundle.tN "SUPPRESSED_SENTINEL" Bundle.listD)
theorem zW_all : zW2.all (fun w => w.tabsOnly || zB w) = true := by decide +kernel
theorem zW_tbl : zW2.all (fun w => zB w || decide (w ∈ lw_tbl)) = true := by decide +kernel
theorem zt_lays {C n d : String} {s U : State} {args a' : Array Value} (hvm : s.vm.Alike U.vm) (heq : ∀ q : Nat, q < s.heap.size → U.heap[q]? = s.heap[q]?) (h : (Cond.laysStatic C n d).before args s = true) : (Cond.laysStatic C n d).before a' U = true := by
  obtain ⟨c, k, i, f, a, cell, h1, h2, h3, h4, h5, h6, h7, h8, h9⟩ := Cond.laysStatic_spec h
  obtain ⟨k', hi', he⟩ := State.fieldFound?_setVm hvm h2
  show (Cond.laysStatic C n d).holds a' U none U [] = true
  exact Cond.laysStatic_of (by rw [hvm.findClass]; exact h1) hi' h3 (by rw [he]; exact h4) (by rw [heq a (Array.getElem?_eq_some_iff.mp h5).1]; exact h5) h6 h7 h8 (by rw [he]; exact h9)
theorem zt_isRef {C n d : String} {s U : State} {args a' : Array Value} (hvm : s.vm.Alike U.vm) (heq : ∀ q : Nat, q < s.heap.size → U.heap[q]? = s.heap[q]?) (hl : (Cond.laysStatic C n d).before args s = true) (hini : (Cond.initialized C).before args s = true) (h : (Cond.isRef (.static C n d)).before args s = true) : (Cond.isRef (.static C n d)).before a' U = true := by
  have hz := va_Zqof (A := fun q => s.heap.size ≤ q) hl hini h (fun a ha => Nat.not_le.mpr ha)
  have hz2 := va_Zq.moved hvm (va_Zq.kept (H1 := U.heap) hz (fun a ha _ => heq a ha))
  have key : ∀ v : Value, v.isRef = true → va_Z C n d v (fun q => s.heap.size ≤ q) U U.heap → (Cond.isRef (.static C n d)).before a' U = true := by
    intro v hv hz
    obtain ⟨cf, kf, fi, f, a, cell, h1, h2, h3, h4, h5, h6, h7, -⟩ := hz
    have he : (Term.static C n d).eval a' U none [] U = some v := by
      simp [Term.eval, State.fieldNamed?, h1, h2, h4, h5, h6, h7]
    simp only [Cond.before, Cond.holds, Cond.value, he]
    cases v <;> simp_all [Value.isRef]
  rcases hz2 with hz | ⟨t, hz⟩
  · exact key _ rfl hz
  · exact key _ rfl hz
theorem zt_ok0 {s : State} {args : Array Value} (hts : ∀ w ∈ lw_tbl, w.before args s = true) (hU : (Cond.isRef (.static Bundle.tN "UNASSIGNED_STACK" Bundle.steD)).before args s = true) (hN : (Cond.isRef (.static Bundle.tN "SUPPRESSED_SENTINEL" Bundle.listD)).before args s = true) : zt_OK (fun q => s.heap.size ≤ q) zW2 s := by
  intro U a hW hsz heq w hw
  have heq' : ∀ q : Nat, q < s.heap.size → U.heap[q]? = s.heap[q]? := fun q hq => heq q hq (Nat.not_le.mpr hq)
  have hi : (Cond.initialized Bundle.tN).before args s = true := hts _ (by decide +kernel)
  have l1 : (Cond.laysStatic Bundle.tN "UNASSIGNED_STACK" Bundle.steD).before args s = true := hts _ (by decide +kernel)
  have l2 : (Cond.laysStatic Bundle.tN "SUPPRESSED_SENTINEL" Bundle.listD).before args s = true := hts _ (by decide +kernel)
  have h1 := List.all_eq_true.mp zW_all w hw
  have h2 := List.all_eq_true.mp zW_tbl w hw
  by_cases b : zB w = true
  · simp only [zB, Bool.or_eq_true, decide_eq_true_eq] at b
    rcases b with ((b | b) | b) | b
    · rw [b]; exact zt_isRef hW.alike heq' l1 hi hU
    · rw [b]; exact zt_isRef hW.alike heq' l2 hi hN
    · rw [b]; exact zt_lays hW.alike heq' l1
    · rw [b]; exact zt_lays hW.alike heq' l2
  · have b' : zB w = false := by cases h : zB w; rfl; exact absurd h b
    rw [b', Bool.or_false] at h1
    rw [b', Bool.false_or, decide_eq_true_eq] at h2
    have h3 := Cond.tabsOnly_warm (args' := a) (T := U) hW w h1 (hts w h2)
    rwa [State.setVm_self] at h3
theorem zt_str {s : State} {args : Array Value} (h1 : (Cond.stringRef RX1 115 "no such place").before args s = true) (h2 : (Cond.exactly (.string RX1 115) "java/lang/String").before args s = true) : ∃ sa, vk_R RX1 115 "no such place" sa s := by
  obtain ⟨a, c, cA, kA, q1, -⟩ := Cond.exactly_spec (args := args) (first := s) (o := none) (s := s) (idx := []) (t := .string RX1 115) (cls := "java/lang/String") h2
  exact ⟨a, vk_R.of h1 q1⟩
