/-! words of mine for what the methods answer and write: the shelf's rows (P places, V values, h of them), the reference's rows (N numbers, U values, z of them) -/
/-- how many of the first h places are less than x, up to the first that isn't -/
def rk (P : Nat → Int32) (x : Int32) : Nat → Nat
  | 0 => 0
  | h + 1 => if rk P x h = h ∧ P h < x then h + 1 else rk P x h
theorem rk_le (P : Nat → Int32) (x : Int32) : ∀ h, rk P x h ≤ h
  | 0 => Nat.le_refl 0
  | h + 1 => by
    have := rk_le P x h
    unfold rk
    split <;> omega
theorem rk_lt (P : Nat → Int32) (x : Int32) : ∀ h j, j < rk P x h → P j < x
  | 0, j, hj => by simp [rk] at hj
  | h + 1, j, hj => by
    unfold rk at hj
    split at hj
    · rename_i hc
      rcases Nat.lt_or_ge j h with q | q
      · exact rk_lt P x h j (by omega)
      · have : j = h := by omega
        rw [this]; exact hc.2
    · exact rk_lt P x h j hj
theorem rk_end (P : Nat → Int32) (x : Int32) : ∀ h, rk P x h = h ∨ ¬ P (rk P x h) < x
  | 0 => Or.inl rfl
  | h + 1 => by
    unfold rk
    split
    · exact Or.inl rfl
    · rename_i hc
      rcases rk_end P x h with q | q
      · rw [q]; exact Or.inr (fun z => hc ⟨q, z⟩)
      · exact Or.inr q
theorem rk_eq {P : Nat → Int32} {x : Int32} {h i : Nat} (h1 : i ≤ h) (h2 : ∀ j, j < i → P j < x) (h3 : i = h ∨ ¬ P i < x) : rk P x h = i := by
  have a := rk_le P x h
  have b := rk_lt P x h
  have c := rk_end P x h
  rcases Nat.lt_trichotomy (rk P x h) i with q | q | q
  · rcases c with c | c
    · omega
    · exact absurd (h2 _ q) c
  · exact q
  · rcases h3 with c | c
    · omega
    · exact absurd (b _ q) c
abbrev hasS (P : Nat → Int32) (h : Nat) (x : Int32) : Prop := rk P x h < h ∧ P (rk P x h) = x
def gAt (P : Nat → Int32) (h i : Nat) : Int32 := if i < h then P i else 0
def pAt (P : Nat → Int32) (h : Nat) (x : Int32) : Int32 := if x < 0 then 0 else if nI h ≤ x then 0 else P x.toNatClampNeg
def fFA (P : Nat → Int32) (h : Nat) (x : Int32) : Int32 := if hasS P h x then gAt P h (rk P x h + 1) else gAt P h (rk P x h)
def fLB (P : Nat → Int32) (h : Nat) (x : Int32) : Int32 := if 0 < rk P x h then P (rk P x h - 1) else 0
def fGr (P : Nat → Int32) (h : Nat) : Int32 := if 0 < h then P (h - 1) else 0
def fLe (P : Nat → Int32) (h : Nat) : Int32 := if 0 < h then P 0 else 0
def fRec (P : Nat → Int32) (V : Nat → Int64) (h : Nat) (x : Int32) : Int64 := if hasS P h x then V (rk P x h) else 0
/-- x put in at i, what stood from i to h - 1 moved one up -/
def insA {α : Type} (P : Nat → α) (i : Nat) (x : α) (h : Nat) : Nat → α := fun j => if j = i then x else if i < j ∧ j ≤ h then P (j - 1) else P j
/-- on the way there: what stood from i to h - 1 moved one up -/
def shU {α : Type} (P : Nat → α) (i h : Nat) : Nat → α := fun j => if i < j ∧ j ≤ h then P (j - 1) else P j
/-- what stood behind i moved one down, up to k -/
def delA {α : Type} (P : Nat → α) (i k : Nat) : Nat → α := fun j => if i ≤ j ∧ j < k then P (j + 1) else P j
def cDiv (x : Int32) : Nat → Int32
  | 0 => x
  | k + 1 => cDiv x k / 10
/-- the reference's: the last place k < n with N k = x, -1 for none -/
def rFind (N : Nat → Int32) (x : Int32) : Nat → Int32
  | 0 => -1
  | k + 1 => if N k = x then nI k else rFind N x k
def rFrom (N : Nat → Int32) (b : Int64) : Nat → Int32
  | 0 => 0
  | k + 1 => if b ≤ (N k).toInt64 then (if rFrom N b k = 0 then N k else if N k < rFrom N b k then N k else rFrom N b k) else rFrom N b k
def rUpTo (N : Nat → Int32) (b : Int64) : Nat → Int32
  | 0 => 0
  | k + 1 => if (N k).toInt64 ≤ b then (if rUpTo N b k < N k then N k else rUpTo N b k) else rUpTo N b k
def rBound : Nat → Int64
  | 0 => 1
  | k + 1 => rBound k * 10
theorem upd_at {f : Nat → Int32} {k : Nat} {x : Int32} (j : Nat) : upd f k x j = if j = k then x else f j := by
  by_cases h : j = k
  · rw [if_pos h, h]; exact pk_us
  · rw [if_neg h]; exact pk_un h
theorem updL_at {f : Nat → Int64} {k : Nat} {x : Int64} (j : Nat) : vp_updL f k x j = if j = k then x else f j := rfl
theorem shU_top {α : Type} (P : Nat → α) (h : Nat) : shU P h h = P := by
  funext j; unfold shU; rw [if_neg (by omega)]
theorem shU_step (P : Nat → Int32) {i h : Nat} (hi : i + 1 ≤ h) : upd (shU P (i + 1) h) (i + 1) (shU P (i + 1) h i) = shU P i h := by
  funext j
  rw [upd_at]
  unfold shU
  by_cases q : j = i + 1
  · subst q
    rw [if_pos rfl, if_neg (by omega), if_pos ⟨by omega, by omega⟩]; rfl
  · rw [if_neg q]
    by_cases q2 : i + 1 < j ∧ j ≤ h
    · rw [if_pos q2, if_pos ⟨by omega, q2.2⟩]
    · rw [if_neg q2, if_neg (by omega)]
theorem shU_stepL (P : Nat → Int64) {i h : Nat} (hi : i + 1 ≤ h) : vp_updL (shU P (i + 1) h) (i + 1) (shU P (i + 1) h i) = shU P i h := by
  funext j
  rw [updL_at]
  unfold shU
  by_cases q : j = i + 1
  · subst q
    rw [if_pos rfl, if_neg (by omega), if_pos ⟨by omega, by omega⟩]; rfl
  · rw [if_neg q]
    by_cases q2 : i + 1 < j ∧ j ≤ h
    · rw [if_pos q2, if_pos ⟨by omega, q2.2⟩]
    · rw [if_neg q2, if_neg (by omega)]
theorem shU_ins (P : Nat → Int32) {i h : Nat} (x : Int32) : upd (shU P i h) i x = insA P i x h := by
  funext j
  rw [upd_at]
  unfold shU insA
  rfl
theorem shU_insL (P : Nat → Int64) {i h : Nat} (x : Int64) : vp_updL (shU P i h) i x = insA P i x h := by
  funext j
  rw [updL_at]
  unfold shU insA
  rfl
theorem delA_0 {α : Type} (P : Nat → α) (i : Nat) : delA P i i = P := by
  funext j; unfold delA; rw [if_neg (by omega)]
theorem delA_step (P : Nat → Int32) {i k : Nat} (hi : i ≤ k) : upd (delA P i k) k (delA P i k (k + 1)) = delA P i (k + 1) := by
  funext j
  rw [upd_at]
  unfold delA
  by_cases q : j = k
  · subst q
    rw [if_pos rfl, if_neg (by omega), if_pos ⟨hi, by omega⟩]
  · rw [if_neg q]
    by_cases q2 : i ≤ j ∧ j < k
    · rw [if_pos q2, if_pos ⟨q2.1, by omega⟩]
    · rw [if_neg q2, if_neg (by omega)]
theorem delA_stepL (P : Nat → Int64) {i k : Nat} (hi : i ≤ k) : vp_updL (delA P i k) k (delA P i k (k + 1)) = delA P i (k + 1) := by
  funext j
  rw [updL_at]
  unfold delA
  by_cases q : j = k
  · subst q
    rw [if_pos rfl, if_neg (by omega), if_pos ⟨hi, by omega⟩]
  · rw [if_neg q]
    by_cases q2 : i ≤ j ∧ j < k
    · rw [if_pos q2, if_pos ⟨q2.1, by omega⟩]
    · rw [if_neg q2, if_neg (by omega)]
theorem vp_in_cl {x : Int32} {n h : Nat} (h0 : ¬ x < 0) (h1 : ¬ nI h ≤ x) (hh : h ≤ n) (hn : n ≤ 2000) : vp_in x n := by
  rw [vp_in_iff]
  rw [Int32.lt_iff_toInt_lt] at h0
  rw [Int32.le_iff_toInt_le, nI_toInt (by omega)] at h1
  have e0 : (0 : Int32).toInt = 0 := rfl
  omega
theorem pAt_nI (P : Nat → Int32) {h i : Nat} (hh : h ≤ 2000) (hi : i ≤ 2000) : pAt P h (nI i) = gAt P h i := by
  unfold pAt gAt
  rw [if_neg (nI_pos (by omega)), nI_clamp (by omega)]
  by_cases q : i < h
  · rw [if_pos q, if_neg (nI_ge q (by omega))]
  · rw [if_neg q, if_pos (nI_le (by omega) (by omega))]
theorem pAt_pred (P : Nat → Int32) {h i : Nat} (hh : h ≤ 2000) (hi : i ≤ h) : pAt P h (nI i - 1) = if 0 < i then P (i - 1) else 0 := by
  cases i with
  | zero =>
    rw [if_neg (by omega)]
    unfold pAt
    rw [if_pos (by decide)]
  | succ i =>
    rw [if_pos (by omega), nI_pred, pAt_nI P hh (by omega)]
    unfold gAt
    rw [if_pos (by omega)]; rfl
/-- the end that a walk owes gets a name -/
theorem W_name {p : Program} {l : Launch} {e : Env} {R : Room} {s : State} {m : MethodId} {args : Array Value} {below : List Frame} {meth : Method} {c : Code} {H : Heap} {locs : List Loc} {cells slots : Nat} {Q : State → Prop} {g : JFrame} (k : ∀ Q', Q' = Q → W p l e R s m args below meth c H locs cells slots Q' g) : W p l e R s m args below meth c H locs cells slots Q g := k Q rfl
