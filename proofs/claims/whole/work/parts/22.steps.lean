/-! one call on both sides: the same answer, and the states agree again -/
theorem isPl_iff {M : Nat} (hM : M < 2 ^ 31) (x : Int32) : isPl (nI M) x ↔ 1 ≤ x.toInt ∧ x.toInt ≤ M := by
  unfold isPl
  rw [lt_toInt, lt_toInt, nI_toInt hM, show (1 : Int32).toInt = 1 from rfl]
  omega
theorem gPl_iff {M : Nat} (hM : M < 2 ^ 31) (x : Int32) : gPl (nI M) x ↔ 1 ≤ x.toInt ∧ x.toInt ≤ M := by
  unfold gPl
  rw [Int32.le_iff_toInt_le, lt_toInt, nI_toInt hM, show (0 : Int32).toInt = 0 from rfl]
  omega
theorem cDiv_nI {n : Nat} (hn : n < 2 ^ 31) : ∀ k, cDiv (nI n) k = nI (n / 10 ^ k)
  | 0 => by simp [cDiv]
  | k + 1 => by
    have h1 : n / 10 ^ k ≤ n := Nat.div_le_self _ _
    have e := pk_div (a := n / 10 ^ k) (d := 10) (by omega) (by decide) (by decide)
    have e2 : (10 : Int32) = nI 10 := rfl
    unfold cDiv
    rw [cDiv_nI hn k, e2, e, Nat.div_div_eq_div_mul, Nat.pow_succ]
theorem rBound_lN : ∀ k, rBound k = lN (10 ^ k)
  | 0 => rfl
  | k + 1 => by
    have e2 : (10 : Int64) = lN 10 := rfl
    unfold rBound
    rw [rBound_lN k, e2, lN_mul, Nat.pow_succ]
theorem pow_le9 {d : Nat} (h : d ≤ 9) : 10 ^ d < 2 ^ 31 := by
  have : 10 ^ d ≤ 10 ^ 9 := Nat.pow_le_pow_right (by decide) h
  omega
theorem long_iff {x : Int32} {d : Nat} (hx : 1 ≤ x.toInt) (hd : d ≤ 9) : tooL x d ↔ gLong x d := by
  obtain ⟨n, hn, rfl⟩ := nI_of (x := x) (by rw [lt_toInt, show (0 : Int32).toInt = 0 from rfl]; omega)
  have hp : 0 < 10 ^ d := Nat.pow_pos (by decide)
  have hb := pow_le9 hd
  have hq : n / 10 ^ d ≤ n := Nat.div_le_self _ _
  have e : n / 10 ^ d = 0 ↔ n < 10 ^ d := Nat.div_eq_zero_iff.trans ⟨fun h => by omega, fun h => Or.inr h⟩
  unfold tooL gLong
  rw [cDiv_nI hn, cmp_lt, rBound_lN, lN_toInt hb, nI_toInt hn, Int32.le_iff_toInt_le, nI_toInt (by omega), show (0 : Int32).toInt = 0 from rfl]
  generalize n / 10 ^ d = q at e hq ⊢
  generalize 10 ^ d = w at e hp hb ⊢
  omega
abbrev Pos (om sd po po' pl en : Int32) : Prop := om = -1 ∨ (sd = 2 ∧ (po' = 3 ∨ ¬ en = 0)) ∨ (sd = 0 ∧ en = 0 ∧ ((po' = 0 ∧ po = 0) ∨ (po' = 1 ∧ pl = po))) ∨ (sd = 1 ∧ en = 0 ∧ po' = 2 ∧ pl = po)
def Rel (M : Nat) (u : CSt) (w : MSt) : Prop := match u, w with
  | (th, om, sd, po, lr, lv, d, P, V, h), (_, z, th', en, md, po', pl, la, d', va, N, U) => z = h ∧ th' = th ∧ md = om ∧ la = lr ∧ d' = d ∧ va = lv ∧ d ≤ 9 ∧ (om = -1 → lr = 0) ∧ Rows M P V h N U ∧ Pos om sd po po' pl en
def hOf (u : CSt) : Nat := match u with
  | (_, _, _, _, _, _, _, _, _, h) => h
section ST
variable {M : Nat} {th om sd po lr : Int32} {lv : Int64} {d : Nat} {P : Nat → Int32} {V : Nat → Int64} {h : Nat} {co th' en md po' pl la : Int32} {z d' : Nat} {va : Int64} {N : Nat → Int32} {U : Nat → Int64}
theorem Rel.code {co2 : Int32} (R : Rel M (th, om, sd, po, lr, lv, d, P, V, h) (co, z, th', en, md, po', pl, la, d', va, N, U)) : Rel M (th, om, sd, po, lr, lv, d, P, V, h) (co2, z, th', en, md, po', pl, la, d', va, N, U) := R
theorem s_open (R : Rel M (th, om, sd, po, lr, lv, d, P, V, h) (co, z, th', en, md, po', pl, la, d', va, N, U)) (m : Int32) :
    (fOpen m (th, om, sd, po, lr, lv, d, P, V, h)).1 = (gOpen m (co, z, th', en, md, po', pl, la, d', va, N, U)).1 ∧ Rel M (fOpen m (th, om, sd, po, lr, lv, d, P, V, h)).2 (gOpen m (co, z, th', en, md, po', pl, la, d', va, N, U)).2 ∧ hOf (fOpen m (th, om, sd, po, lr, lv, d, P, V, h)).2 ≤ h + 1 := by
  have R0 := R
  obtain ⟨rfl, rfl, rfl, rfl, rfl, rfl, hd, hl, hR, hp⟩ := R
  have hle : z ≤ z + 1 := Nat.le_succ z
  have o2 : (fOpF2 m (th', md, sd, po, la, va, d', P, V, z)).1 = (gO2 m (co, z, th', en, md, po', pl, la, d', va, N, U)).1 ∧ Rel M (fOpF2 m (th', md, sd, po, la, va, d', P, V, z)).2 (gO2 m (co, z, th', en, md, po', pl, la, d', va, N, U)).2 ∧ hOf (fOpF2 m (th', md, sd, po, la, va, d', P, V, z)).2 ≤ z + 1 := by
    by_cases c : m = 1
    · simp only [fOpF2, gO2, if_pos c]
      exact ⟨by trivial, ⟨rfl, rfl, rfl, rfl, rfl, rfl, hd, fun _ => rfl, ⟨fun i j _ hj => absurd hj (by omega), fun i hi => absurd hi (by omega), fun i j hi => absurd hi (by omega), fun i hi => absurd hi (by omega), fun i hi => absurd hi (by omega)⟩, Or.inr (Or.inr (Or.inl ⟨rfl, rfl, Or.inl ⟨rfl, rfl⟩⟩))⟩, Nat.zero_le _⟩
    · simp only [fOpF2, gO2, if_neg c]
      exact ⟨by trivial, ⟨rfl, rfl, rfl, rfl, rfl, rfl, hd, fun _ => rfl, hR, Or.inr (Or.inr (Or.inl ⟨rfl, rfl, Or.inl ⟨rfl, rfl⟩⟩))⟩, hle⟩
  by_cases c1 : m < 0
  · simp only [fOpen, gOpen, if_pos c1]; exact ⟨by trivial, R0, hle⟩
  by_cases c2 : m ≤ 4
  · by_cases c3 : m = 4
    · by_cases c4 : md = -1
      · simp only [fOpen, gOpen, fClose, if_neg c1, if_pos c2, if_pos c3, if_pos c4]; exact ⟨by trivial, R0, hle⟩
      · simp only [fOpen, gOpen, fClose, if_neg c1, if_pos c2, if_pos c3, if_neg c4]
        exact ⟨by trivial, ⟨rfl, rfl, rfl, rfl, rfl, rfl, hd, fun _ => rfl, hR, Or.inl rfl⟩, hle⟩
    · by_cases c5 : md = -1
      · have low : Rel M (th', md, 0, 0, 0, va, d', P, V, z) (0, z, th', en, md, po', pl, la, d', va, N, U) := ⟨rfl, rfl, rfl, hl c5, rfl, rfl, hd, fun _ => rfl, hR, Or.inl c5⟩
        by_cases c6 : th' = 0
        · by_cases c7 : m = 0
          · simp only [fOpen, gOpen, fOpF, if_neg c1, if_pos c2, if_neg c3, if_pos c5, if_pos c6, if_pos c7]; exact ⟨by trivial, low, hle⟩
          · by_cases c8 : m = 2
            · simp only [fOpen, gOpen, fOpF, if_neg c1, if_pos c2, if_neg c3, if_pos c5, if_pos c6, if_neg c7, if_pos c8]; exact ⟨by trivial, low, hle⟩
            · simp only [fOpen, gOpen, fOpF, if_neg c1, if_pos c2, if_neg c3, if_pos c5, if_pos c6, if_neg c7, if_neg c8]; exact o2
        · simp only [fOpen, gOpen, fOpF, if_neg c1, if_pos c2, if_neg c3, if_pos c5, if_neg c6]; exact o2
      · simp only [fOpen, gOpen, fOpF, if_neg c1, if_pos c2, if_neg c3, if_neg c5]; exact ⟨by trivial, R0, hle⟩
  · simp only [fOpen, gOpen, if_neg c1, if_neg c2]; exact ⟨by trivial, R0, hle⟩
theorem s_wr2 (hM : M < 2 ^ 31) (hh : h ≤ 1100) (R : Rel M (th, om, sd, po, lr, lv, d, P, V, h) (co, z, th', en, md, po', pl, la, d', va, N, U)) (x : Int32) (v : Int64) :
    (fWr2 (nI M) x v (th, om, sd, po, lr, lv, d, P, V, h)).1 = (gW2 (nI M) x v (co, z, th', en, md, po', pl, la, d', va, N, U)).1 ∧ Rel M (fWr2 (nI M) x v (th, om, sd, po, lr, lv, d, P, V, h)).2 (gW2 (nI M) x v (co, z, th', en, md, po', pl, la, d', va, N, U)).2 ∧ hOf (fWr2 (nI M) x v (th, om, sd, po, lr, lv, d, P, V, h)).2 ≤ h + 1 := by
  obtain ⟨rfl, rfl, rfl, rfl, rfl, rfl, hd, hl, hR, hp⟩ := R
  have hle : z ≤ z + 1 := Nat.le_succ z
  have R0 : Rel M (th', md, sd, po, 0, va, d', P, V, z) (0, z, th', en, md, po', pl, 0, d', va, N, U) := ⟨rfl, rfl, rfl, rfl, rfl, rfl, hd, fun _ => rfl, hR, hp⟩
  by_cases c1 : isPl (nI M) x
  · obtain ⟨b1, b2⟩ := (isPl_iff hM x).mp c1
    have c1' := (gPl_iff hM x).mpr ⟨b1, b2⟩
    by_cases c2 : tooL x d'
    · have c2' := (long_iff b1 hd).mp c2
      simp only [fWr2, gW2, if_pos c1, if_pos c1', if_pos c2, if_pos c2']; exact ⟨by trivial, R0, hle⟩
    · have c2' : ¬ gLong x d' := fun q => c2 ((long_iff b1 hd).mpr q)
      by_cases c3 : hasS P z x
      · have c3' : ¬ rFind N x z = -1 := fun q => (hR.find hh x).mp q c3
        simp only [fWr2, gW2, if_pos c1, if_pos c1', if_neg c2, if_neg c2', if_pos c3, if_neg c3']; exact ⟨by trivial, R0, hle⟩
      · have c3' := (hR.find hh x).mpr c3
        simp only [fWr2, gW2, if_pos c1, if_pos c1', if_neg c2, if_neg c2', if_neg c3, if_pos c3']
        exact ⟨by trivial, ⟨rfl, rfl, rfl, rfl, rfl, rfl, hd, fun _ => rfl, hR.ins b1 b2 c3, hp⟩, Nat.le_refl _⟩
  · have c1' : ¬ gPl (nI M) x := fun q => c1 ((isPl_iff hM x).mpr ((gPl_iff hM x).mp q))
    simp only [fWr2, gW2, if_neg c1, if_neg c1']; exact ⟨by trivial, R0, hle⟩
theorem s_write (hM : M < 2 ^ 31) (hh : h ≤ 1100) (R : Rel M (th, om, sd, po, lr, lv, d, P, V, h) (co, z, th', en, md, po', pl, la, d', va, N, U)) (x : Int32) (v : Int64) :
    (fWrite (nI M) x v (th, om, sd, po, lr, lv, d, P, V, h)).1 = (gWrite (nI M) x v (co, z, th', en, md, po', pl, la, d', va, N, U)).1 ∧ Rel M (fWrite (nI M) x v (th, om, sd, po, lr, lv, d, P, V, h)).2 (gWrite (nI M) x v (co, z, th', en, md, po', pl, la, d', va, N, U)).2 ∧ hOf (fWrite (nI M) x v (th, om, sd, po, lr, lv, d, P, V, h)).2 ≤ h + 1 := by
  have W2 := fun x => s_wr2 hM hh R x v
  have R0 := R
  obtain ⟨rfl, rfl, rfl, rfl, rfl, rfl, hd, hl, hR, hp⟩ := R
  have hle : z ≤ z + 1 := Nat.le_succ z
  by_cases c1 : md = -1
  · simp only [fWrite, gWrite, if_pos c1]; exact ⟨by trivial, R0, hle⟩
  by_cases c2 : md = 0
  · simp only [fWrite, gWrite, if_neg c1, if_pos c2]; exact ⟨by trivial, R0, hle⟩
  by_cases c3 : x = -1
  · by_cases c4 : md = 2
    · have c5 : ¬ isPl (nI M) 0 := fun q => q.1 (by decide)
      simp only [fWrite, gWrite, fPO, fWr2, if_neg c1, if_neg c2, if_pos c3, if_pos c4, if_neg c5]
      exact ⟨by trivial, ⟨rfl, rfl, rfl, rfl, rfl, rfl, hd, fun _ => rfl, hR, hp⟩, hle⟩
    · simp only [fWrite, gWrite, fPO, if_neg c1, if_neg c2, if_pos c3, if_neg c4, hR.gr hM]; exact W2 _
  · simp only [fWrite, gWrite, if_neg c1, if_neg c2, if_neg c3]; exact W2 _
theorem fRef_no {om : Int32} (c1 : om = -1) : fRef om = 42 := by unfold fRef; rw [if_pos c1]
theorem fRef_yes {om : Int32} (c1 : ¬ om = -1) (c : gRd om) : fRef om = 0 := by
  unfold fRef
  rw [if_neg c1]
  by_cases c2 : om = 0
  · rw [if_pos c2]
  · rw [if_neg c2, if_pos (c.resolve_left c2)]
theorem fRef_47 {om : Int32} (c1 : ¬ om = -1) (c : ¬ gRd om) : fRef om = 47 := by
  unfold fRef
  rw [if_neg c1, if_neg (fun q => c (Or.inl q)), if_neg (fun q => c (Or.inr q))]
theorem n42 : ¬ (42 : Int32) = 0 := by decide
theorem n47 : ¬ (47 : Int32) = 0 := by decide
theorem s_read (hh : h ≤ 1100) (R : Rel M (th, om, sd, po, lr, lv, d, P, V, h) (co, z, th', en, md, po', pl, la, d', va, N, U)) (x : Int32) :
    (fRead x (th, om, sd, po, lr, lv, d, P, V, h)).1 = (gRead x (co, z, th', en, md, po', pl, la, d', va, N, U)).1 ∧ Rel M (fRead x (th, om, sd, po, lr, lv, d, P, V, h)).2 (gRead x (co, z, th', en, md, po', pl, la, d', va, N, U)).2 ∧ hOf (fRead x (th, om, sd, po, lr, lv, d, P, V, h)).2 ≤ h + 1 := by
  have R0 := R
  obtain ⟨rfl, rfl, rfl, rfl, rfl, rfl, hd, hl, hR, hp⟩ := R
  have hle : z ≤ z + 1 := Nat.le_succ z
  by_cases c1 : md = -1
  · simp only [fRead, gRead, fRef_no c1, if_neg n42, if_pos c1]; exact ⟨by trivial, R0, hle⟩
  by_cases c2 : gRd md
  · by_cases c3 : hasS P z x
    · have c3' : ¬ rFind N x z = -1 := fun q => (hR.find hh x).mp q c3
      simp only [fRead, gRead, fRef_yes c1 c2, if_true, if_neg c1, if_pos c2, if_pos c3, if_neg c3', hR.rec hh c3]
      exact ⟨by trivial, ⟨rfl, rfl, rfl, rfl, rfl, rfl, hd, fun q => absurd q c1, hR, Or.inr (Or.inr (Or.inl ⟨rfl, rfl, Or.inr ⟨rfl, rfl⟩⟩))⟩, hle⟩
    · have c3' := (hR.find hh x).mpr c3
      simp only [fRead, gRead, fRef_yes c1 c2, if_true, if_neg c1, if_pos c2, if_neg c3, if_pos c3']
      exact ⟨by trivial, ⟨rfl, rfl, rfl, rfl, rfl, rfl, hd, fun _ => rfl, hR, Or.inr (Or.inl ⟨rfl, Or.inl rfl⟩)⟩, hle⟩
  · simp only [fRead, gRead, fRef_47 c1 c2, if_neg n47, if_neg c1, if_neg c2]; exact ⟨by trivial, R0, hle⟩
theorem s_ps (hh : h ≤ 1100) (hR : Rows M P V h N U) {op x : Int32} (h0 : ¬ op < 0) (h4 : op ≤ 4) : fPS P h op x = gSt N h op x := by
  unfold fPS gSt
  by_cases c0 : op = 0
  · rw [if_pos c0, if_pos c0]
    by_cases c : hasS P h x
    · rw [if_pos c, if_neg (fun q => (hR.find hh x).mp q c)]
    · rw [if_neg c, if_pos ((hR.find hh x).mpr c)]
  rw [if_neg c0, if_neg c0]
  by_cases c1 : op = 1
  · rw [if_pos c1, if_pos c1]; exact hR.fa x
  rw [if_neg c1, if_neg c1]
  by_cases c2 : op = 2
  · rw [if_pos c2, if_pos c2]; exact hR.fe x
  rw [if_neg c2, if_neg c2]
  by_cases c3 : op = 3
  · rw [if_pos c3, if_pos c3]; exact hR.lb x
  rw [if_neg c3, if_neg c3]
  by_cases c4 : op = 4
  · rw [if_pos c4]; exact hR.le x
  · exfalso
    rcases sw_out4 c0 c1 c2 c3 c4 with q | q
    · exact h0 (by rw [lt_toInt]; exact q)
    · rw [Int32.le_iff_toInt_le] at h4
      have : (4 : Int32).toInt = 4 := rfl
      omega
theorem s_start (hh : h ≤ 1100) (R : Rel M (th, om, sd, po, lr, lv, d, P, V, h) (co, z, th', en, md, po', pl, la, d', va, N, U)) (op x : Int32) :
    (fStart op x (th, om, sd, po, lr, lv, d, P, V, h)).1 = (gStart op x (co, z, th', en, md, po', pl, la, d', va, N, U)).1 ∧ Rel M (fStart op x (th, om, sd, po, lr, lv, d, P, V, h)).2 (gStart op x (co, z, th', en, md, po', pl, la, d', va, N, U)).2 ∧ hOf (fStart op x (th, om, sd, po, lr, lv, d, P, V, h)).2 ≤ h + 1 := by
  have R0 := R
  obtain ⟨rfl, rfl, rfl, rfl, rfl, rfl, hd, hl, hR, hp⟩ := R
  have hle : z ≤ z + 1 := Nat.le_succ z
  by_cases a1 : op < 0
  · simp only [fStart, gStart, if_pos a1]; exact ⟨by trivial, R0, hle⟩
  by_cases a2 : op ≤ 4
  · by_cases c1 : md = -1
    · simp only [fStart, gStart, if_neg a1, if_pos a2, fRef_no c1, if_neg n42, if_pos c1]; exact ⟨by trivial, R0, hle⟩
    by_cases c2 : gRd md
    · have e := s_ps hh hR (op := op) (x := x) a1 a2
      by_cases c3 : gSt N z op x = 0
      · simp only [fStart, gStart, if_neg a1, if_pos a2, fRef_yes c1 c2, if_true, if_neg c1, if_pos c2, e, if_pos c3]
        exact ⟨by trivial, ⟨rfl, rfl, rfl, rfl, rfl, rfl, hd, fun _ => rfl, hR, Or.inr (Or.inl ⟨rfl, Or.inl rfl⟩)⟩, hle⟩
      · simp only [fStart, gStart, if_neg a1, if_pos a2, fRef_yes c1 c2, if_true, if_neg c1, if_pos c2, e, if_neg c3]
        exact ⟨by trivial, ⟨rfl, rfl, rfl, rfl, rfl, rfl, hd, fun _ => rfl, hR, Or.inr (Or.inr (Or.inr ⟨rfl, rfl, rfl, rfl⟩))⟩, hle⟩
    · simp only [fStart, gStart, if_neg a1, if_pos a2, fRef_47 c1 c2, if_neg n47, if_neg c1, if_neg c2]; exact ⟨by trivial, R0, hle⟩
  · simp only [fStart, gStart, if_neg a1, if_neg a2]; exact ⟨by trivial, R0, hle⟩
theorem gNx_in (hh : h ≤ 1100) (hR : Rows M P V h N U) {po' pl b : Int32} (q : ¬ gNx po' pl b N h = 0) : hasS P h (gNx po' pl b N h) := by
  rw [hasS_iff hR.1]
  unfold gNx at q ⊢
  by_cases c : b = 0
  · rw [if_pos c] at q ⊢
    rcases hR.from (gBd po' pl b) with ⟨e, -⟩ | ⟨e, -⟩
    · exact absurd e q
    · exact e
  · rw [if_neg c] at q ⊢
    rcases hR.upTo (gBd po' pl b) with ⟨e, -⟩ | ⟨e, -⟩
    · exact absurd e q
    · exact e
theorem s_pf (hR : Rows M P V h N U) {po' pl b : Int32} (hs : (sd = 0 ∧ ((po' = 0 ∧ po = 0) ∨ (po' = 1 ∧ pl = po))) ∨ (sd = 1 ∧ po' = 2 ∧ pl = po)) : fPF sd po P h b = gNx po' pl b N h := by
  unfold fPF gNx gBd
  have z01 : ¬ (0 : Int32) = 1 := by decide
  have z10 : ¬ (1 : Int32) = 0 := by decide
  have z12 : ¬ (1 : Int32) = 2 := by decide
  have z20 : ¬ (2 : Int32) = 0 := by decide
  rcases hs with ⟨rfl, ⟨rfl, rfl⟩ | ⟨rfl, rfl⟩⟩ | ⟨rfl, rfl, rfl⟩
  · by_cases c : b = 0
    · simp only [if_neg z01, if_pos c, if_true]; exact hR.f0
    · simp only [if_neg z01, if_neg c, if_true]; exact hR.l0
  · by_cases c : b = 0
    · simp only [if_neg z01, if_neg z10, if_neg z12, if_pos c]; exact hR.fa _
    · simp only [if_neg z01, if_neg z10, if_neg z12, if_neg c]; exact hR.lb _
  · by_cases c : b = 0
    · simp only [if_neg z20, if_pos c, if_true]; exact hR.fe _
    · simp only [if_neg z20, if_neg c, if_true]; exact hR.le _
theorem s_next (hh : h ≤ 1100) (R : Rel M (th, om, sd, po, lr, lv, d, P, V, h) (co, z, th', en, md, po', pl, la, d', va, N, U)) (b : Int32) :
    (fNext b (th, om, sd, po, lr, lv, d, P, V, h)).1 = (gNext b (co, z, th', en, md, po', pl, la, d', va, N, U)).1 ∧ Rel M (fNext b (th, om, sd, po, lr, lv, d, P, V, h)).2 (gNext b (co, z, th', en, md, po', pl, la, d', va, N, U)).2 ∧ hOf (fNext b (th, om, sd, po, lr, lv, d, P, V, h)).2 ≤ h + 1 := by
  have R0 := R
  obtain ⟨rfl, rfl, rfl, rfl, rfl, rfl, hd, hl, hR, hp⟩ := R
  have hle : z ≤ z + 1 := Nat.le_succ z
  by_cases c1 : md = -1
  · simp only [fNext, gNext, fRef_no c1, if_neg n42, if_pos c1]; exact ⟨by trivial, R0, hle⟩
  by_cases c2 : gRd md
  · have low : Rel M (th', md, sd, po, 0, va, d', P, V, z) (0, z, th', en, md, po', pl, 0, d', va, N, U) := ⟨rfl, rfl, rfl, rfl, rfl, rfl, hd, fun _ => rfl, hR, hp⟩
    have n2 : ∀ n : Int32, (¬ n = 0 → hasS P z n) → (fNx2 n (th', md, sd, po, la, va, d', P, V, z)).1 = (gN2 n (co, z, th', en, md, po', pl, la, d', va, N, U)).1 ∧ Rel M (fNx2 n (th', md, sd, po, la, va, d', P, V, z)).2 (gN2 n (co, z, th', en, md, po', pl, la, d', va, N, U)).2 ∧ hOf (fNx2 n (th', md, sd, po, la, va, d', P, V, z)).2 ≤ z + 1 := by
      intro n hn
      by_cases e1 : n = 0
      · simp only [fNx2, gN2, if_pos e1]
        exact ⟨by trivial, ⟨rfl, rfl, rfl, rfl, rfl, rfl, hd, fun _ => rfl, hR, Or.inr (Or.inl ⟨rfl, Or.inr (by decide)⟩)⟩, hle⟩
      · have hS := hn e1
        have b1 : 1 ≤ n.toInt := by
          obtain ⟨i, hi, e⟩ := (hasS_iff hR.1).mp hS
          rw [← e]; exact (hR.2.1 i hi).1
        by_cases e2 : tooL n d'
        · have e2' := (long_iff b1 hd).mp e2
          simp only [fNx2, gN2, if_neg e1, if_pos e2, if_pos e2']
          exact ⟨by trivial, ⟨rfl, rfl, rfl, rfl, rfl, rfl, hd, fun _ => rfl, hR, Or.inr (Or.inl ⟨rfl, Or.inl rfl⟩)⟩, hle⟩
        · have e2' : ¬ gLong n d' := fun q => e2 ((long_iff b1 hd).mpr q)
          simp only [fNx2, gN2, if_neg e1, if_neg e2, if_neg e2', hR.rec hh hS]
          exact ⟨by trivial, ⟨rfl, rfl, rfl, rfl, rfl, rfl, hd, fun q => absurd q c1, hR, Or.inr (Or.inr (Or.inl ⟨rfl, rfl, Or.inr ⟨rfl, rfl⟩⟩))⟩, hle⟩
    rcases hp with hp | ⟨hp1, hp2⟩ | ⟨hp1, hp2, hp3⟩ | ⟨hp1, hp2, hp3, hp4⟩
    · exact absurd hp c1
    · by_cases e1 : po' = 3
      · simp only [fNext, gNext, fRef_yes c1 c2, if_true, if_neg c1, if_pos c2, if_pos hp1, if_pos e1]; exact ⟨by trivial, low, hle⟩
      · have e2 := hp2.resolve_left e1
        simp only [fNext, gNext, fRef_yes c1 c2, if_true, if_neg c1, if_pos c2, if_pos hp1, if_neg e1, if_neg e2]; exact ⟨by trivial, low, hle⟩
    · have e0 : ¬ sd = 2 := by rw [hp1]; decide
      have e1 : ¬ po' = 3 := by rcases hp3 with ⟨e, -⟩ | ⟨e, -⟩ <;> rw [e] <;> decide
      have e := s_pf (b := b) hR (Or.inl ⟨hp1, hp3⟩)
      simp only [fNext, gNext, fRef_yes c1 c2, if_true, if_neg c1, if_pos c2, if_neg e0, if_neg e1, if_pos hp2, e]
      exact n2 _ (gNx_in hh hR)
    · have e0 : ¬ sd = 2 := by rw [hp1]; decide
      have e1 : ¬ po' = 3 := by rw [hp3]; decide
      have e := s_pf (b := b) hR (Or.inr ⟨hp1, hp3, hp4⟩)
      simp only [fNext, gNext, fRef_yes c1 c2, if_true, if_neg c1, if_pos c2, if_neg e0, if_neg e1, if_pos hp2, e]
      exact n2 _ (gNx_in hh hR)
  · simp only [fNext, gNext, fRef_47 c1 c2, if_neg n47, if_neg c1, if_neg c2]; exact ⟨by trivial, R0, hle⟩
theorem not_has0 (hR : Rows M P V h N U) : ¬ hasS P h 0 := fun q => by
  obtain ⟨i, hi, e⟩ := (hasS_iff hR.1).mp q
  have := (hR.2.1 i hi).1
  rw [e] at this
  exact absurd this (by decide)
theorem s_me (hh : h ≤ 1100) (hR : Rows M P V h N U) (x : Int32) : gMe lr x N h = -1 ↔ ¬ hasS P h (fPC lr x) := by
  unfold gMe fPC
  by_cases c : x = -1
  · rw [if_pos c, if_pos c]
    by_cases c2 : lr = 0
    · rw [if_pos c2, c2]
      exact ⟨fun _ => not_has0 hR, fun _ => rfl⟩
    · rw [if_neg c2]; exact hR.find hh lr
  · rw [if_neg c, if_neg c]; exact hR.find hh x
theorem s_me2 (hh : h ≤ 1100) (hR : Rows M P V h N U) {x : Int32} (q : hasS P h (fPC lr x)) : ∃ k, k < h ∧ gMe lr x N h = nI k ∧ N k = fPC lr x := by
  obtain ⟨k, h1, h2, h3, -⟩ := hR.idx hh q
  refine ⟨k, h1, ?_, h3⟩
  unfold fPC at h2 q
  unfold gMe
  by_cases c : x = -1
  · rw [if_pos c] at h2 q ⊢
    rw [if_neg (fun e => by rw [e] at q; exact not_has0 hR q)]
    exact h2
  · rw [if_neg c] at h2 ⊢
    exact h2
theorem n49 : ¬ (49 : Int32) = 0 := by decide
theorem s_rewr (hh : h ≤ 1100) (R : Rel M (th, om, sd, po, lr, lv, d, P, V, h) (co, z, th', en, md, po', pl, la, d', va, N, U)) (x : Int32) (v : Int64) :
    (fRewr x v (th, om, sd, po, lr, lv, d, P, V, h)).1 = (gRewr x v (co, z, th', en, md, po', pl, la, d', va, N, U)).1 ∧ Rel M (fRewr x v (th, om, sd, po, lr, lv, d, P, V, h)).2 (gRewr x v (co, z, th', en, md, po', pl, la, d', va, N, U)).2 ∧ hOf (fRewr x v (th, om, sd, po, lr, lv, d, P, V, h)).2 ≤ h + 1 := by
  have R0 := R
  obtain ⟨rfl, rfl, rfl, rfl, rfl, rfl, hd, hl, hR, hp⟩ := R
  have hle : z ≤ z + 1 := Nat.le_succ z
  by_cases c1 : md = -1
  · simp only [fRewr, gRewr, fSC, fSL, if_pos c1, if_neg n42]; exact ⟨by trivial, R0, hle⟩
  by_cases c2 : md = 2
  · by_cases c3 : hasS P z (fPC la x)
    · have c3' : ¬ gMe la x N z = -1 := fun q => (s_me hh hR x).mp q c3
      obtain ⟨k, k1, k2, k3⟩ := s_me2 hh hR c3
      rw [k2] at c3'
      simp only [fRewr, gRewr, fSC, fSL, if_neg c1, if_pos c2, if_pos c3, if_neg c3', if_true, k2, nI_clamp (show k < 2 ^ 31 by omega)]
      exact ⟨by trivial, ⟨rfl, rfl, rfl, rfl, rfl, rfl, hd, fun _ => rfl, hR.put c3 k1 k3, hp⟩, hle⟩
    · have c3' := (s_me hh hR x).mpr c3
      by_cases c4 : x = -1
      · simp only [fRewr, gRewr, fSC, fSL, if_neg c1, if_pos c2, if_neg c3, if_pos c3', if_pos c4, if_neg (show ¬ (43 : Int32) = 0 by decide)]
        exact ⟨by trivial, ⟨rfl, rfl, rfl, rfl, rfl, rfl, hd, fun _ => rfl, hR, hp⟩, hle⟩
      · simp only [fRewr, gRewr, fSC, fSL, if_neg c1, if_pos c2, if_neg c3, if_pos c3', if_neg c4, if_neg (show ¬ (23 : Int32) = 0 by decide)]
        exact ⟨by trivial, ⟨rfl, rfl, rfl, rfl, rfl, rfl, hd, fun _ => rfl, hR, hp⟩, hle⟩
  · simp only [fRewr, gRewr, fSC, fSL, if_neg c1, if_neg c2, if_neg n49]; exact ⟨by trivial, R0, hle⟩
theorem s_rem (hh : h ≤ 1100) (R : Rel M (th, om, sd, po, lr, lv, d, P, V, h) (co, z, th', en, md, po', pl, la, d', va, N, U)) (x : Int32) :
    (fRem x (th, om, sd, po, lr, lv, d, P, V, h)).1 = (gRem x (co, z, th', en, md, po', pl, la, d', va, N, U)).1 ∧ Rel M (fRem x (th, om, sd, po, lr, lv, d, P, V, h)).2 (gRem x (co, z, th', en, md, po', pl, la, d', va, N, U)).2 ∧ hOf (fRem x (th, om, sd, po, lr, lv, d, P, V, h)).2 ≤ h + 1 := by
  have R0 := R
  obtain ⟨rfl, rfl, rfl, rfl, rfl, rfl, hd, hl, hR, hp⟩ := R
  have hle : z ≤ z + 1 := Nat.le_succ z
  by_cases c1 : md = -1
  · simp only [fRem, gRem, fSC, fSL, if_pos c1, if_neg n42]; exact ⟨by trivial, R0, hle⟩
  by_cases c2 : md = 2
  · by_cases c3 : hasS P z (fPC la x)
    · have c3' : ¬ gMe la x N z = -1 := fun q => (s_me hh hR x).mp q c3
      obtain ⟨k, k1, k2, k3⟩ := s_me2 hh hR c3
      rw [k2] at c3'
      simp only [fRem, gRem, fSC, fSL, if_neg c1, if_pos c2, if_pos c3, if_neg c3', if_true, k2, nI_clamp (show k < 2 ^ 31 by omega)]
      exact ⟨by trivial, ⟨rfl, rfl, rfl, rfl, rfl, rfl, hd, fun _ => rfl, hR.del c3 k1 k3, hp⟩, Nat.le_trans (Nat.sub_le _ _) hle⟩
    · have c3' := (s_me hh hR x).mpr c3
      by_cases c4 : x = -1
      · simp only [fRem, gRem, fSC, fSL, if_neg c1, if_pos c2, if_neg c3, if_pos c3', if_pos c4, if_neg (show ¬ (43 : Int32) = 0 by decide)]
        exact ⟨by trivial, ⟨rfl, rfl, rfl, rfl, rfl, rfl, hd, fun _ => rfl, hR, hp⟩, hle⟩
      · simp only [fRem, gRem, fSC, fSL, if_neg c1, if_pos c2, if_neg c3, if_pos c3', if_neg c4, if_neg (show ¬ (23 : Int32) = 0 by decide)]
        exact ⟨by trivial, ⟨rfl, rfl, rfl, rfl, rfl, rfl, hd, fun _ => rfl, hR, hp⟩, hle⟩
  · simp only [fRem, gRem, fSC, fSL, if_neg c1, if_neg c2, if_neg n49]; exact ⟨by trivial, R0, hle⟩
theorem s_dig (R : Rel M (th, om, sd, po, lr, lv, d, P, V, h) (co, z, th', en, md, po', pl, la, d', va, N, U)) (x : Int32) :
    (fDig x (th, om, sd, po, lr, lv, d, P, V, h)).1 = (gDig x (co, z, th', en, md, po', pl, la, d', va, N, U)).1 ∧ Rel M (fDig x (th, om, sd, po, lr, lv, d, P, V, h)).2 (gDig x (co, z, th', en, md, po', pl, la, d', va, N, U)).2 ∧ hOf (fDig x (th, om, sd, po, lr, lv, d, P, V, h)).2 ≤ h + 1 := by
  have R0 := R
  obtain ⟨rfl, rfl, rfl, rfl, rfl, rfl, hd, hl, hR, hp⟩ := R
  have hle : z ≤ z + 1 := Nat.le_succ z
  by_cases c1 : x < 1
  · simp only [fDig, gDig, if_pos c1]; exact ⟨by trivial, R0, hle⟩
  by_cases c2 : x ≤ 9
  · have hx : x.toNatClampNeg ≤ 9 := by
      obtain ⟨n, hn, rfl⟩ := nI_of (x := x) (fun q => c1 (by rw [lt_toInt] at q ⊢; rw [show (0 : Int32).toInt = 0 from rfl] at q; rw [show (1 : Int32).toInt = 1 from rfl]; omega))
      rw [nI_clamp hn]
      rw [Int32.le_iff_toInt_le, nI_toInt hn, show (9 : Int32).toInt = 9 from rfl] at c2
      omega
    simp only [fDig, gDig, if_neg c1, if_pos c2]
    exact ⟨by trivial, ⟨rfl, rfl, rfl, rfl, rfl, rfl, hx, hl, hR, hp⟩, hle⟩
  · simp only [fDig, gDig, if_neg c1, if_neg c2]; exact ⟨by trivial, R0, hle⟩
theorem s_count (hM : M < 2 ^ 31) (R : Rel M (th, om, sd, po, lr, lv, d, P, V, h) (co, z, th', en, md, po', pl, la, d', va, N, U)) (x : Int32) :
    fCount (nI M) x (th, om, sd, po, lr, lv, d, P, V, h) = gCount (nI M) x (co, z, th', en, md, po', pl, la, d', va, N, U) := by
  obtain ⟨rfl, rfl, rfl, rfl, rfl, rfl, hd, hl, hR, hp⟩ := R
  simp only [fCount, gCount, hR.gr hM, hR.ls]
theorem s_cell (hM : M < 2 ^ 31) (hh : h ≤ 1100) (R : Rel M (th, om, sd, po, lr, lv, d, P, V, h) (co, z, th', en, md, po', pl, la, d', va, N, U)) {x : Int32} (q : isPl (nI M) x) :
    fRec P V h x = (gCell (nI M) x (co, z, th', en, md, po', pl, la, d', va, N, U)).1 ∧ (gCell (nI M) x (co, z, th', en, md, po', pl, la, d', va, N, U)).2 = (0, z, th', en, md, po', pl, la, d', va, N, U) := by
  obtain ⟨rfl, rfl, rfl, rfl, rfl, rfl, hd, hl, hR, hp⟩ := R
  have q' := (gPl_iff hM x).mpr ((isPl_iff hM x).mp q)
  by_cases c : hasS P z x
  · have c' : ¬ rFind N x z = -1 := fun e => (hR.find hh x).mp e c
    simp only [gCell, if_pos q', if_neg c', hR.rec hh c]; exact ⟨trivial, trivial⟩
  · have c' := (hR.find hh x).mpr c
    simp only [gCell, if_pos q', if_pos c', fRec, if_neg c]; exact ⟨trivial, trivial⟩
theorem s_cell2 (hM : M < 2 ^ 31) {x : Int32} (q : ¬ isPl (nI M) x) : (gCell (nI M) x (co, z, th', en, md, po', pl, la, d', va, N, U)).2 = (1, z, th', en, md, po', pl, la, d', va, N, U) := by
  have q' : ¬ gPl (nI M) x := fun e => q ((isPl_iff hM x).mpr ((gPl_iff hM x).mp e))
  simp only [gCell, if_neg q']
end ST
