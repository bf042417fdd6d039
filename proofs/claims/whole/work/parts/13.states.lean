/-! the two states, and what each method of the class makes of its own -/
theorem W_topi {p : Program} {l : Launch} {e : Env} {R : Room} {s : State} {m : MethodId} {args : Array Value} {below : List Frame} {meth : Method} {c : Code} {H : Heap} {locs : List Loc} {cells slots : Nat} {Q : State → Prop} {pc : Nat} {ls : Array Slot} {rest : List Value} {x : Int32} (y : Int32) (h : x = y) (k : W p l e R s m args below meth c H locs cells slots Q (F0 m pc ls (.int y :: rest))) : W p l e R s m args below meth c H locs cells slots Q (F0 m pc ls (.int x :: rest)) := h ▸ k
theorem W_topl {p : Program} {l : Launch} {e : Env} {R : Room} {s : State} {m : MethodId} {args : Array Value} {below : List Frame} {meth : Method} {c : Code} {H : Heap} {locs : List Loc} {cells slots : Nat} {Q : State → Prop} {pc : Nat} {ls : Array Slot} {rest : List Value} {x : Int64} (y : Int64) (h : x = y) (k : W p l e R s m args below meth c H locs cells slots Q (F0 m pc ls (.long y :: rest))) : W p l e R s m args below meth c H locs cells slots Q (F0 m pc ls (.long x :: rest)) := h ▸ k
/-- the class: there, openMode, standing, position, lastRead, lastValue, keyDigits; the shelf's places, values, held -/
abbrev CSt : Type := Int32 × Int32 × Int32 × Int32 × Int32 × Int64 × Nat × (Nat → Int32) × (Nat → Int64) × Nat
abbrev wF (oF oS oA oB : Nat) (cA cB : ClassId) (n : Nat) (mo : Int32) (u : CSt) : va_W := match u with
  | (th, om, sd, po, lr, lv, d, P, V, h) => [(oF, .inr (2, [.int mo, .ref oS, .int th, .int om, .int sd, .int po, .int lr, .long lv, .int (nI d)])), (oS, .inr (1, [.ref oA, .ref oB, .int (nI h)])), (oA, .inl (cA, n, .inl P)), (oB, .inl (cB, n, .inr (.inl V)))]
abbrev isPl (mo x : Int32) : Prop := ¬ x < 1 ∧ ¬ mo < x
abbrev tooL (x : Int32) (d : Nat) : Prop := ¬ cDiv x d ≤ 0
def fRef (om : Int32) : Int32 := if om = -1 then 42 else if om = 0 then 0 else if om = 2 then 0 else 47
def fPC (lr x : Int32) : Int32 := if x = -1 then lr else x
def fPO (om : Int32) (P : Nat → Int32) (h : Nat) : Int32 := if om = 2 then 0 else fGr P h + 1
def fPS (P : Nat → Int32) (h : Nat) (op x : Int32) : Int32 := if op = 0 then (if hasS P h x then x else 0) else if op = 1 then fFA P h x else if op = 2 then (if hasS P h x then x else fFA P h x) else if op = 3 then fLB P h x else if op = 4 then (if hasS P h x then x else fLB P h x) else 0
def fPF (sd po : Int32) (P : Nat → Int32) (h : Nat) (b : Int32) : Int32 := if sd = 1 then (if hasS P h po then po else if b = 0 then fFA P h po else fLB P h po) else if b = 0 then fFA P h po else fLB P h po
def fSC (om : Int32) (P : Nat → Int32) (h : Nat) (x pl : Int32) : Int32 := if om = -1 then 42 else if om = 2 then (if hasS P h pl then 0 else if x = -1 then 43 else 23) else 49
def fSL (om lr : Int32) : Int32 := if om = -1 then lr else if om = 2 then 0 else lr
theorem fSC_has {om : Int32} {P : Nat → Int32} {h : Nat} {x pl : Int32} (e : fSC om P h x pl = 0) : hasS P h pl := by
  unfold fSC at e
  split at e
  · exact absurd e (by decide)
  · split at e
    · split at e
      · assumption
      · split at e <;> exact absurd e (by decide)
    · exact absurd e (by decide)
def fClose (u : CSt) : Int32 × CSt := match u with
  | (th, om, sd, po, lr, lv, d, P, V, h) => if om = -1 then (42, (th, om, sd, po, lr, lv, d, P, V, h)) else (0, (th, -1, 0, 0, 0, lv, d, P, V, h))
def fOpF2 (m : Int32) (u : CSt) : Int32 × CSt := match u with
  | (th, _, _, _, _, lv, d, P, V, h) => (if m = 3 then (if th = 0 then 5 else 0) else 0, (1, m, 0, 0, 0, lv, d, P, V, if m = 1 then 0 else h))
def fOpF (m : Int32) (u : CSt) : Int32 × CSt := match u with
  | (th, om, sd, po, lr, lv, d, P, V, h) => if om = -1 then (if th = 0 then (if m = 0 then (35, (th, om, 0, 0, 0, lv, d, P, V, h)) else if m = 2 then (35, (th, om, 0, 0, 0, lv, d, P, V, h)) else fOpF2 m (th, om, sd, po, lr, lv, d, P, V, h)) else fOpF2 m (th, om, sd, po, lr, lv, d, P, V, h)) else (41, (th, om, sd, po, lr, lv, d, P, V, h))
def fOpen (m : Int32) (u : CSt) : Int32 × CSt := if m < 0 then (-1, u) else if m ≤ 4 then (if m = 4 then fClose u else fOpF m u) else (-1, u)
def fWr2 (mo pl : Int32) (v : Int64) (u : CSt) : Int32 × CSt := match u with
  | (th, om, sd, po, _, lv, d, P, V, h) => if isPl mo pl then (if tooL pl d then (24, (th, om, sd, po, 0, lv, d, P, V, h)) else if hasS P h pl then (22, (th, om, sd, po, 0, lv, d, P, V, h)) else (0, (th, om, sd, po, 0, v, d, insA P (rk P pl h) pl h, insA V (rk P pl h) v h, h + 1))) else (24, (th, om, sd, po, 0, lv, d, P, V, h))
def fWrite (mo x : Int32) (v : Int64) (u : CSt) : Int32 × CSt := match u with
  | (th, om, sd, po, lr, lv, d, P, V, h) => if om = -1 then (42, (th, om, sd, po, lr, lv, d, P, V, h)) else if om = 0 then (48, (th, om, sd, po, lr, lv, d, P, V, h)) else if x = -1 then fWr2 mo (fPO om P h) v (th, om, sd, po, lr, lv, d, P, V, h) else fWr2 mo x v (th, om, sd, po, lr, lv, d, P, V, h)
def fRead (x : Int32) (u : CSt) : Int32 × CSt := match u with
  | (th, om, sd, po, lr, lv, d, P, V, h) => if fRef om = 0 then (if hasS P h x then (0, (th, om, 0, x, x, fRec P V h x, d, P, V, h)) else (23, (th, om, 2, 0, 0, lv, d, P, V, h))) else (fRef om, (th, om, sd, po, lr, lv, d, P, V, h))
def fStart (op x : Int32) (u : CSt) : Int32 × CSt := match u with
  | (th, om, sd, po, lr, lv, d, P, V, h) => if op < 0 then (-1, (th, om, sd, po, lr, lv, d, P, V, h)) else if op ≤ 4 then (if fRef om = 0 then (if fPS P h op x = 0 then (23, (th, om, 2, 0, 0, lv, d, P, V, h)) else (0, (th, om, 1, fPS P h op x, 0, lv, d, P, V, h))) else (fRef om, (th, om, sd, po, lr, lv, d, P, V, h))) else (-1, (th, om, sd, po, lr, lv, d, P, V, h))
def fNx2 (pl : Int32) (u : CSt) : Int32 × CSt := match u with
  | (th, om, _, _, _, lv, d, P, V, h) => if pl = 0 then (10, (th, om, 2, 0, 0, lv, d, P, V, h)) else if tooL pl d then (14, (th, om, 2, 0, 0, lv, d, P, V, h)) else (0, (th, om, 0, pl, pl, fRec P V h pl, d, P, V, h))
def fNext (b : Int32) (u : CSt) : Int32 × CSt := match u with
  | (th, om, sd, po, lr, lv, d, P, V, h) => if fRef om = 0 then (if sd = 2 then (46, (th, om, sd, po, 0, lv, d, P, V, h)) else fNx2 (fPF sd po P h b) (th, om, sd, po, lr, lv, d, P, V, h)) else (fRef om, (th, om, sd, po, lr, lv, d, P, V, h))
def fRewr (x : Int32) (v : Int64) (u : CSt) : Int32 × CSt := match u with
  | (th, om, sd, po, lr, lv, d, P, V, h) => if fSC om P h x (fPC lr x) = 0 then (fSC om P h x (fPC lr x), (th, om, sd, po, fSL om lr, v, d, P, vp_updL V (rk P (fPC lr x) h) v, h)) else (fSC om P h x (fPC lr x), (th, om, sd, po, fSL om lr, lv, d, P, V, h))
def fRem (x : Int32) (u : CSt) : Int32 × CSt := match u with
  | (th, om, sd, po, lr, lv, d, P, V, h) => if fSC om P h x (fPC lr x) = 0 then (fSC om P h x (fPC lr x), (th, om, sd, po, fSL om lr, lv, d, delA P (rk P (fPC lr x) h) (h - 1), delA V (rk P (fPC lr x) h) (h - 1), h - 1)) else (fSC om P h x (fPC lr x), (th, om, sd, po, fSL om lr, lv, d, P, V, h))
def fDig (x : Int32) (u : CSt) : Int32 × CSt := match u with
  | (th, om, sd, po, lr, lv, d, P, V, h) => if x < 1 then (-1, (th, om, sd, po, lr, lv, d, P, V, h)) else if x ≤ 9 then (nI d, (th, om, sd, po, lr, lv, x.toNatClampNeg, P, V, h)) else (-1, (th, om, sd, po, lr, lv, d, P, V, h))
def fCount (mo w : Int32) (u : CSt) : Int32 := match u with
  | (th, om, _, _, _, _, _, P, _, h) => if w = 0 then mo else if w = 1 then (if th = 0 then 0 else 1) else if w = 2 then om else if w = 3 then fGr P h else if w = 4 then fLe P h else -1
/-- most, held to 0 .. 65536 -/
def cM (x : Int32) : Nat := if x < 0 then 0 else if 65536 < x then 65536 else x.toNatClampNeg
theorem nI_back {x : Int32} (h : ¬ x < 0) : nI x.toNatClampNeg = x := by
  obtain ⟨j, hj, rfl⟩ := nI_of h
  rw [nI_clamp hj]
theorem cM_le (x : Int32) : cM x ≤ 65536 := by
  unfold cM
  split
  · omega
  · split
    · omega
    · rename_i h1 h2
      obtain ⟨j, hj, rfl⟩ := nI_of h1
      rw [nI_clamp hj]
      have h2 : ¬ nI 65536 < nI j := h2
      rw [nI_ltI (by omega) hj] at h2
      omega
theorem cM_cls (x : Int32) : (if 0 < (if 65536 < x then 65536 else x) then (if 65536 < x then 65536 else x) else 0 : Int32) = nI (cM x) := by
  unfold cM
  by_cases h1 : x < 0
  · rw [if_pos h1]
    have h2 : ¬ (65536 : Int32) < x := by
      rw [Int32.lt_iff_toInt_lt] at h1 ⊢
      have e1 : (0 : Int32).toInt = 0 := rfl
      have e2 : (65536 : Int32).toInt = 65536 := rfl
      omega
    have h3 : ¬ (0 : Int32) < x := by
      rw [Int32.lt_iff_toInt_lt] at h1 ⊢
      omega
    rw [if_neg h2, if_neg h3]; rfl
  · rw [if_neg h1]
    by_cases h2 : (65536 : Int32) < x
    · rw [if_pos h2, if_pos h2, if_pos (by decide)]; rfl
    · rw [if_neg h2, if_neg h2, nI_back h1]
      by_cases h3 : (0 : Int32) < x
      · rw [if_pos h3]
      · rw [if_neg h3]
        apply Int32.toInt_inj.mp
        rw [Int32.lt_iff_toInt_lt] at h1 h3
        have e1 : (0 : Int32).toInt = 0 := rfl
        omega
theorem nI_min (a b : Nat) (ha : a < 2 ^ 31) (hb : b < 2 ^ 31) : (if nI b < nI a then nI b else nI a) = nI (min a b) := by
  by_cases h : b < a
  · rw [if_pos (nI_lt h ha), Nat.min_eq_right (by omega)]
  · rw [if_neg (nI_nlt (by omega) hb), Nat.min_eq_left (by omega)]
/-- a switch over 0 .. 4, or 0 .. 3: none of them -/
theorem sw_ne {x : Int32} {k : Nat} (hk : k < 2 ^ 31) (h : ¬ x = nI k) : ¬ x.toInt = (k : Int) := fun q => h (Int32.toInt_inj.mp (by rw [q, nI_toInt hk]))
theorem sw_out4 {x : Int32} (h0 : ¬ x = 0) (h1 : ¬ x = 1) (h2 : ¬ x = 2) (h3 : ¬ x = 3) (h4 : ¬ x = 4) : x.toInt < 0 ∨ 4 < x.toInt := by
  have a0 := sw_ne (k := 0) (by decide) h0
  have a1 := sw_ne (k := 1) (by decide) h1
  have a2 := sw_ne (k := 2) (by decide) h2
  have a3 := sw_ne (k := 3) (by decide) h3
  have a4 := sw_ne (k := 4) (by decide) h4
  omega
theorem sw_out3 {x : Int32} (h0 : ¬ x = 0) (h1 : ¬ x = 1) (h2 : ¬ x = 2) (h3 : ¬ x = 3) : x.toInt < 0 ∨ 3 < x.toInt := by
  have a0 := sw_ne (k := 0) (by decide) h0
  have a1 := sw_ne (k := 1) (by decide) h1
  have a2 := sw_ne (k := 2) (by decide) h2
  have a3 := sw_ne (k := 3) (by decide) h3
  omega
