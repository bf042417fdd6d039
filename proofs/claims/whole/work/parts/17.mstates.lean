/-! the reference: code, size, there, ended, mode, position, place, last, digits, value; numbers, values -/
abbrev MSt : Type := Int32 × Nat × Int32 × Int32 × Int32 × Int32 × Int32 × Int32 × Nat × Int64 × (Nat → Int32) × (Nat → Int64)
abbrev wM (oM oN oU : Nat) (cN cU : ClassId) (mo : Int32) (u : MSt) : va_W := match u with
  | (co, z, th, en, md, po, pl, la, d, va, N, U) => [(oM, .inr (3, [.int co, .int mo, .ref oN, .ref oU, .int (nI z), .int th, .int en, .int md, .int po, .int pl, .int la, .int (nI d), .long va])), (oN, .inl (cN, 1100, .inl N)), (oU, .inl (cU, 1100, .inr (.inl U)))]
def gFrom (N : Nat → Int32) (b : Int64) : Nat → Int32
  | 0 => 0
  | k + 1 => if lg_cmp (N k).toInt64 b < 0 then gFrom N b k else if gFrom N b k = 0 then N k else if gFrom N b k ≤ N k then gFrom N b k else N k
def gUpTo (N : Nat → Int32) (b : Int64) : Nat → Int32
  | 0 => 0
  | k + 1 => if 0 < lg_cmp (N k).toInt64 b then gUpTo N b k else if N k ≤ gUpTo N b k then gUpTo N b k else N k
abbrev gLong (x : Int32) (d : Nat) : Prop := ¬ lg_cmp x.toInt64 (rBound d) < 0
abbrev gPl (mo x : Int32) : Prop := ¬ x ≤ 0 ∧ ¬ mo < x
abbrev gRd (md : Int32) : Prop := md = 0 ∨ md = 2
theorem rFind_or (N : Nat → Int32) (x : Int32) : ∀ z, rFind N x z = -1 ∨ ∃ j, j < z ∧ rFind N x z = nI j ∧ N j = x
  | 0 => Or.inl rfl
  | z + 1 => by
    unfold rFind
    split
    · rename_i h
      exact Or.inr ⟨z, by omega, rfl, h⟩
    · rcases rFind_or N x z with h | ⟨j, h1, h2, h3⟩
      · exact Or.inl h
      · exact Or.inr ⟨j, by omega, h2, h3⟩
theorem rFind_in {N : Nat → Int32} {x : Int32} {z : Nat} (h : ¬ rFind N x z = -1) (hz : z ≤ 1100) : vp_in (rFind N x z) 1100 := by
  rcases rFind_or N x z with q | ⟨j, h1, h2, -⟩
  · exact absurd q h
  · rw [h2]; exact vp_in_nI (by omega) (by omega)
def gMe (la x : Int32) (N : Nat → Int32) (z : Nat) : Int32 := if x = -1 then (if la = 0 then -1 else rFind N la z) else rFind N x z
theorem gMe_in {la x : Int32} {N : Nat → Int32} {z : Nat} (h : ¬ gMe la x N z = -1) (hz : z ≤ 1100) : vp_in (gMe la x N z) 1100 ∧ 0 < z := by
  have key : ∀ y, ¬ rFind N y z = -1 → vp_in (rFind N y z) 1100 ∧ 0 < z := fun y hy => by
    refine ⟨rFind_in hy hz, ?_⟩
    rcases rFind_or N y z with q | ⟨j, h1, -⟩
    · exact absurd q hy
    · omega
  unfold gMe at h ⊢
  split
  · rename_i q
    rw [if_pos q] at h
    split
    · rename_i q2
      rw [if_pos q2] at h
      exact absurd rfl h
    · rename_i q2
      rw [if_neg q2] at h
      exact key _ h
  · rename_i q
    rw [if_neg q] at h
    exact key _ h
def gO2 (m : Int32) (u : MSt) : Int32 × MSt := match u with
  | (_, z, th, _, _, _, pl, _, d, va, N, U) => (if m = 3 then (if th = 0 then 5 else 0) else 0, (0, (if m = 1 then 0 else z), 1, 0, m, 0, pl, 0, d, va, N, U))
def gOpen (m : Int32) (u : MSt) : Int32 × MSt := match u with
  | (co, z, th, en, md, po, pl, la, d, va, N, U) => if m < 0 then (-1, (0, z, th, en, md, po, pl, la, d, va, N, U)) else if m ≤ 4 then (if m = 4 then (if md = -1 then (42, (0, z, th, en, md, po, pl, la, d, va, N, U)) else (0, (0, z, th, en, -1, po, pl, 0, d, va, N, U))) else if md = -1 then (if th = 0 then (if m = 0 then (35, (0, z, th, en, md, po, pl, la, d, va, N, U)) else if m = 2 then (35, (0, z, th, en, md, po, pl, la, d, va, N, U)) else gO2 m (co, z, th, en, md, po, pl, la, d, va, N, U)) else gO2 m (co, z, th, en, md, po, pl, la, d, va, N, U)) else (41, (0, z, th, en, md, po, pl, la, d, va, N, U))) else (-1, (0, z, th, en, md, po, pl, la, d, va, N, U))
def gW2 (mo x : Int32) (v : Int64) (u : MSt) : Int32 × MSt := match u with
  | (_, z, th, en, md, po, pl, _, d, va, N, U) => if gPl mo x then (if gLong x d then (24, (0, z, th, en, md, po, pl, 0, d, va, N, U)) else if rFind N x z = -1 then (0, (0, z + 1, th, en, md, po, pl, 0, d, v, upd N z x, vp_updL U z v)) else (22, (0, z, th, en, md, po, pl, 0, d, va, N, U))) else (24, (0, z, th, en, md, po, pl, 0, d, va, N, U))
def gWrite (mo x : Int32) (v : Int64) (u : MSt) : Int32 × MSt := match u with
  | (co, z, th, en, md, po, pl, la, d, va, N, U) => if md = -1 then (42, (0, z, th, en, md, po, pl, la, d, va, N, U)) else if md = 0 then (48, (0, z, th, en, md, po, pl, la, d, va, N, U)) else if x = -1 then (if md = 2 then (24, (0, z, th, en, md, po, pl, 0, d, va, N, U)) else gW2 mo (gUpTo N mo.toInt64 z + 1) v (co, z, th, en, md, po, pl, la, d, va, N, U)) else gW2 mo x v (co, z, th, en, md, po, pl, la, d, va, N, U)
def gRead (x : Int32) (u : MSt) : Int32 × MSt := match u with
  | (_, z, th, en, md, po, pl, la, d, va, N, U) => if md = -1 then (42, (0, z, th, en, md, po, pl, la, d, va, N, U)) else if gRd md then (if rFind N x z = -1 then (23, (0, z, th, 0, md, 3, pl, 0, d, va, N, U)) else (0, (0, z, th, 0, md, 1, x, x, d, U (rFind N x z).toNatClampNeg, N, U))) else (47, (0, z, th, en, md, po, pl, la, d, va, N, U))
def gSt (N : Nat → Int32) (z : Nat) (op x : Int32) : Int32 := if op = 0 then (if rFind N x z = -1 then 0 else x) else if op = 1 then gFrom N (x.toInt64 + 1) z else if op = 2 then gFrom N x.toInt64 z else if op = 3 then gUpTo N (x.toInt64 - 1) z else gUpTo N x.toInt64 z
def gStart (op x : Int32) (u : MSt) : Int32 × MSt := match u with
  | (_, z, th, en, md, po, pl, la, d, va, N, U) => if op < 0 then (-1, (0, z, th, en, md, po, pl, la, d, va, N, U)) else if op ≤ 4 then (if md = -1 then (42, (0, z, th, en, md, po, pl, la, d, va, N, U)) else if gRd md then (if gSt N z op x = 0 then (23, (0, z, th, 0, md, 3, gSt N z op x, 0, d, va, N, U)) else (0, (0, z, th, 0, md, 2, gSt N z op x, 0, d, va, N, U))) else (47, (0, z, th, en, md, po, pl, la, d, va, N, U))) else (-1, (0, z, th, en, md, po, pl, la, d, va, N, U))
def gBd (po pl b : Int32) : Int64 := if po = 0 then 0 else if po = 2 then pl.toInt64 else if b = 0 then pl.toInt64 + 1 else pl.toInt64 - 1
def gNx (po pl b : Int32) (N : Nat → Int32) (z : Nat) : Int32 := if b = 0 then gFrom N (gBd po pl b) z else gUpTo N (gBd po pl b) z
def gN2 (n : Int32) (u : MSt) : Int32 × MSt := match u with
  | (_, z, th, _, md, po, pl, _, d, va, N, U) => if n = 0 then (10, (0, z, th, 1, md, po, pl, 0, d, va, N, U)) else if gLong n d then (14, (0, z, th, 0, md, 3, pl, 0, d, va, N, U)) else (0, (0, z, th, 0, md, 1, n, n, d, U (rFind N n z).toNatClampNeg, N, U))
def gNext (b : Int32) (u : MSt) : Int32 × MSt := match u with
  | (co, z, th, en, md, po, pl, la, d, va, N, U) => if md = -1 then (42, (0, z, th, en, md, po, pl, la, d, va, N, U)) else if gRd md then (if po = 3 then (46, (0, z, th, en, md, po, pl, 0, d, va, N, U)) else if en = 0 then gN2 (gNx po pl b N z) (co, z, th, en, md, po, pl, la, d, va, N, U) else (46, (0, z, th, en, md, po, pl, 0, d, va, N, U))) else (47, (0, z, th, en, md, po, pl, la, d, va, N, U))
def gRewr (x : Int32) (v : Int64) (u : MSt) : Int32 × MSt := match u with
  | (_, z, th, en, md, po, pl, la, d, va, N, U) => if md = -1 then (42, (0, z, th, en, md, po, pl, la, d, va, N, U)) else if md = 2 then (if gMe la x N z = -1 then ((if x = -1 then 43 else 23), (0, z, th, en, md, po, pl, 0, d, va, N, U)) else (0, (0, z, th, en, md, po, pl, 0, d, v, N, vp_updL U (gMe la x N z).toNatClampNeg v))) else (49, (0, z, th, en, md, po, pl, la, d, va, N, U))
def gRem (x : Int32) (u : MSt) : Int32 × MSt := match u with
  | (_, z, th, en, md, po, pl, la, d, va, N, U) => if md = -1 then (42, (0, z, th, en, md, po, pl, la, d, va, N, U)) else if md = 2 then (if gMe la x N z = -1 then ((if x = -1 then 43 else 23), (0, z, th, en, md, po, pl, 0, d, va, N, U)) else (0, (0, z - 1, th, en, md, po, pl, 0, d, va, upd N (gMe la x N z).toNatClampNeg (N (z - 1)), vp_updL U (gMe la x N z).toNatClampNeg (U (z - 1))))) else (49, (0, z, th, en, md, po, pl, la, d, va, N, U))
def gCell (mo x : Int32) (u : MSt) : Int64 × MSt := match u with
  | (_, z, th, en, md, po, pl, la, d, va, N, U) => if gPl mo x then (if rFind N x z = -1 then (0, (0, z, th, en, md, po, pl, la, d, va, N, U)) else (U (rFind N x z).toNatClampNeg, (0, z, th, en, md, po, pl, la, d, va, N, U))) else (0, (1, z, th, en, md, po, pl, la, d, va, N, U))
def gDig (x : Int32) (u : MSt) : Int32 × MSt := match u with
  | (_, z, th, en, md, po, pl, la, d, va, N, U) => if x < 1 then (-1, (0, z, th, en, md, po, pl, la, d, va, N, U)) else if x ≤ 9 then (nI d, (0, z, th, en, md, po, pl, la, x.toNatClampNeg, va, N, U)) else (-1, (0, z, th, en, md, po, pl, la, d, va, N, U))
def gCount (mo w : Int32) (u : MSt) : Int32 := match u with
  | (_, z, th, _, md, _, _, _, _, _, N, _) => if w = 0 then mo else if w = 1 then (if th = 0 then 0 else 1) else if w = 2 then md else if w = 3 then gUpTo N mo.toInt64 z else if w = 4 then gFrom N 1 z else -1
theorem cM_ref1 {x : Int32} (h : ¬ 0 ≤ x) : (0 : Int32) = nI (cM x) := by
  unfold cM
  rw [if_pos (by rw [Int32.lt_iff_toInt_lt]; rw [Int32.le_iff_toInt_le] at h; omega)]; rfl
theorem cM_ref2 {x : Int32} (h : 0 ≤ x) (h2 : ¬ x ≤ 65536) : (65536 : Int32) = nI (cM x) := by
  unfold cM
  rw [if_neg (by rw [Int32.lt_iff_toInt_lt]; rw [Int32.le_iff_toInt_le] at h; omega), if_pos (by rw [Int32.lt_iff_toInt_lt]; rw [Int32.le_iff_toInt_le] at h2; omega)]; rfl
theorem cM_ref3 {x : Int32} (h : 0 ≤ x) (h2 : x ≤ 65536) : x = nI (cM x) := by
  unfold cM
  have h3 : ¬ x < 0 := by rw [Int32.lt_iff_toInt_lt]; rw [Int32.le_iff_toInt_le] at h; omega
  rw [if_neg h3, if_neg (by rw [Int32.lt_iff_toInt_lt]; rw [Int32.le_iff_toInt_le] at h2; omega), nI_back h3]
