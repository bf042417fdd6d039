/-! the two rows of records hold the same: the class's sorted, the reference's in any order -/
theorem i32_lo (x : Int32) : -2147483648 ≤ x.toInt := by have := x.le_toInt; omega
theorem i32_hi (x : Int32) : x.toInt < 2147483648 := x.toInt_lt
theorem i64_of (x : Int32) : x.toInt64.toInt = x.toInt := Int32.toInt_toInt64 x
theorem bm_id {a : Int} (h1 : -9223372036854775808 ≤ a) (h2 : a < 9223372036854775808) : a.bmod (2 ^ 64) = a := by
  rw [Int.bmod_def]; split <;> omega
theorem i64_inc (x : Int32) : (x.toInt64 + 1).toInt = x.toInt + 1 := by
  have a := i32_lo x
  have b := i32_hi x
  rw [Int64.toInt_add, i64_of, show (1 : Int64).toInt = 1 from rfl, bm_id (by omega) (by omega)]
theorem i64_dec (x : Int32) : (x.toInt64 - 1).toInt = x.toInt - 1 := by
  have a := i32_lo x
  have b := i32_hi x
  rw [Int64.toInt_sub, i64_of, show (1 : Int64).toInt = 1 from rfl, bm_id (by omega) (by omega)]
theorem cmp_lt (x : Int32) (b : Int64) : lg_cmp x.toInt64 b < 0 ↔ x.toInt < b.toInt := by
  rw [lg_cmp_lt, Int64.lt_iff_toInt_lt, i64_of]
theorem cmp_gt (x : Int32) (b : Int64) : 0 < lg_cmp x.toInt64 b ↔ b.toInt < x.toInt := by
  rw [lg_cmp_gt, Int64.lt_iff_toInt_lt, i64_of]
/-- the first of S from b on, 0 for none; the last one up to b -/
def FFs (S : Int32 → Prop) (b : Int) (r : Int32) : Prop := (r = 0 ∧ ∀ x, S x → x.toInt < b) ∨ (S r ∧ b ≤ r.toInt ∧ ∀ x, S x → b ≤ x.toInt → r.toInt ≤ x.toInt)
def LUs (S : Int32 → Prop) (b : Int) (r : Int32) : Prop := (r = 0 ∧ ∀ x, S x → b < x.toInt) ∨ (S r ∧ r.toInt ≤ b ∧ ∀ x, S x → x.toInt ≤ b → x.toInt ≤ r.toInt)
theorem FFs.uniq {S : Int32 → Prop} {b : Int} {r r' : Int32} (h : FFs S b r) (h' : FFs S b r') : r = r' := by
  rcases h with ⟨e, h⟩ | ⟨h1, h2, h3⟩
  · rcases h' with ⟨e', -⟩ | ⟨g1, g2, -⟩
    · rw [e, e']
    · have := h _ g1; omega
  · rcases h' with ⟨e', h'⟩ | ⟨g1, g2, g3⟩
    · have := h' _ h1; omega
    · have a := h3 _ g1 g2
      have b := g3 _ h1 h2
      exact Int32.toInt_inj.mp (by omega)
theorem LUs.uniq {S : Int32 → Prop} {b : Int} {r r' : Int32} (h : LUs S b r) (h' : LUs S b r') : r = r' := by
  rcases h with ⟨e, h⟩ | ⟨h1, h2, h3⟩
  · rcases h' with ⟨e', -⟩ | ⟨g1, g2, -⟩
    · rw [e, e']
    · have := h _ g1; omega
  · rcases h' with ⟨e', h'⟩ | ⟨g1, g2, g3⟩
    · have := h' _ h1; omega
    · have a := h3 _ g1 g2
      have b := g3 _ h1 h2
      exact Int32.toInt_inj.mp (by omega)
abbrev inR (N : Nat → Int32) (z : Nat) : Int32 → Prop := fun x => ∃ j, j < z ∧ N j = x
theorem gFrom_ok (N : Nat → Int32) (b : Int64) : ∀ z, (∀ j, j < z → 0 < (N j).toInt) → FFs (inR N z) b.toInt (gFrom N b z)
  | 0, _ => Or.inl ⟨rfl, fun x ⟨j, hj, _⟩ => absurd hj (by omega)⟩
  | z + 1, hp => by
    have ih := gFrom_ok N b z (fun j hj => hp j (by omega))
    have hz := hp z (by omega)
    unfold gFrom
    by_cases c1 : lg_cmp (N z).toInt64 b < 0
    · rw [if_pos c1]
      rw [cmp_lt] at c1
      rcases ih with ⟨e, h⟩ | ⟨⟨j, hj, ej⟩, h2, h3⟩
      · refine Or.inl ⟨e, fun x ⟨j, hj, ej⟩ => ?_⟩
        rcases Nat.lt_or_ge j z with q | q
        · exact h x ⟨j, q, ej⟩
        · have : j = z := by omega
          subst this; rw [← ej]; exact c1
      · refine Or.inr ⟨⟨j, by omega, ej⟩, h2, fun x ⟨i, hi, ei⟩ hx => ?_⟩
        rcases Nat.lt_or_ge i z with q | q
        · exact h3 x ⟨i, q, ei⟩ hx
        · have : i = z := by omega
          subst this; rw [← ei] at hx; omega
    · rw [if_neg c1]
      rw [cmp_lt] at c1
      rcases ih with ⟨e, h⟩ | ⟨⟨j, hj, ej⟩, h2, h3⟩
      · rw [if_pos e]
        refine Or.inr ⟨⟨z, by omega, rfl⟩, by omega, fun x ⟨i, hi, ei⟩ hx => ?_⟩
        rcases Nat.lt_or_ge i z with q | q
        · have := h x ⟨i, q, ei⟩; omega
        · have : i = z := by omega
          subst this; rw [ei]; exact Int.le_refl _
      · have hr : ¬ gFrom N b z = 0 := fun q => by
          have := hp j (by omega)
          rw [ej, q] at this
          exact absurd this (by decide)
        rw [if_neg hr]
        by_cases c2 : gFrom N b z ≤ N z
        · rw [if_pos c2]
          rw [Int32.le_iff_toInt_le] at c2
          refine Or.inr ⟨⟨j, by omega, ej⟩, h2, fun x ⟨i, hi, ei⟩ hx => ?_⟩
          rcases Nat.lt_or_ge i z with q | q
          · exact h3 x ⟨i, q, ei⟩ hx
          · have : i = z := by omega
            subst this; rw [← ei]; exact c2
        · rw [if_neg c2]
          rw [Int32.le_iff_toInt_le] at c2
          refine Or.inr ⟨⟨z, by omega, rfl⟩, by omega, fun x ⟨i, hi, ei⟩ hx => ?_⟩
          rcases Nat.lt_or_ge i z with q | q
          · have := h3 x ⟨i, q, ei⟩ hx; omega
          · have : i = z := by omega
            subst this; rw [ei]; exact Int.le_refl _
theorem gUpTo_ok (N : Nat → Int32) (b : Int64) : ∀ z, (∀ j, j < z → 0 < (N j).toInt) → LUs (inR N z) b.toInt (gUpTo N b z)
  | 0, _ => Or.inl ⟨rfl, fun x ⟨j, hj, _⟩ => absurd hj (by omega)⟩
  | z + 1, hp => by
    have ih := gUpTo_ok N b z (fun j hj => hp j (by omega))
    have hz := hp z (by omega)
    unfold gUpTo
    by_cases c1 : 0 < lg_cmp (N z).toInt64 b
    · rw [if_pos c1]
      rw [cmp_gt] at c1
      rcases ih with ⟨e, h⟩ | ⟨⟨j, hj, ej⟩, h2, h3⟩
      · refine Or.inl ⟨e, fun x ⟨j, hj, ej⟩ => ?_⟩
        rcases Nat.lt_or_ge j z with q | q
        · exact h x ⟨j, q, ej⟩
        · have : j = z := by omega
          subst this; rw [← ej]; exact c1
      · refine Or.inr ⟨⟨j, by omega, ej⟩, h2, fun x ⟨i, hi, ei⟩ hx => ?_⟩
        rcases Nat.lt_or_ge i z with q | q
        · exact h3 x ⟨i, q, ei⟩ hx
        · have : i = z := by omega
          subst this; rw [← ei] at hx; omega
    · rw [if_neg c1]
      rw [cmp_gt] at c1
      rcases ih with ⟨e, h⟩ | ⟨⟨j, hj, ej⟩, h2, h3⟩
      · rw [if_neg (by rw [e, Int32.le_iff_toInt_le, show (0 : Int32).toInt = 0 from rfl]; omega)]
        refine Or.inr ⟨⟨z, by omega, rfl⟩, by omega, fun x ⟨i, hi, ei⟩ hx => ?_⟩
        rcases Nat.lt_or_ge i z with q | q
        · have := h x ⟨i, q, ei⟩; omega
        · have : i = z := by omega
          subst this; rw [ei]; exact Int.le_refl _
      · by_cases c2 : N z ≤ gUpTo N b z
        · rw [if_pos c2]
          rw [Int32.le_iff_toInt_le] at c2
          refine Or.inr ⟨⟨j, by omega, ej⟩, h2, fun x ⟨i, hi, ei⟩ hx => ?_⟩
          rcases Nat.lt_or_ge i z with q | q
          · exact h3 x ⟨i, q, ei⟩ hx
          · have : i = z := by omega
            subst this; rw [← ei]; exact c2
        · rw [if_neg c2]
          rw [Int32.le_iff_toInt_le] at c2
          refine Or.inr ⟨⟨z, by omega, rfl⟩, by omega, fun x ⟨i, hi, ei⟩ hx => ?_⟩
          rcases Nat.lt_or_ge i z with q | q
          · have := h3 x ⟨i, q, ei⟩ hx; omega
          · have : i = z := by omega
            subst this; rw [ei]; exact Int.le_refl _
abbrev Srt (P : Nat → Int32) (h : Nat) : Prop := ∀ i j, i < j → j < h → (P i).toInt < (P j).toInt
theorem lt_toInt {x y : Int32} : x < y ↔ x.toInt < y.toInt := Int32.lt_iff_toInt_lt
theorem rk_at {P : Nat → Int32} {h i : Nat} (hs : Srt P h) (hi : i < h) : rk P (P i) h = i :=
  rk_eq (by omega) (fun j hj => lt_toInt.mpr (hs j i hj hi)) (Or.inr (fun q => by rw [lt_toInt] at q; omega))
theorem hasS_iff {P : Nat → Int32} {h : Nat} {x : Int32} (hs : Srt P h) : hasS P h x ↔ inR P h x :=
  ⟨fun q => ⟨_, q.1, q.2⟩, fun ⟨i, hi, e⟩ => by subst e; unfold hasS; rw [rk_at hs hi]; exact ⟨hi, rfl⟩⟩
theorem rk_above {P : Nat → Int32} {h i : Nat} {x : Int32} (hs : Srt P h) (hi : rk P x h ≤ i) (hh : i < h) : x.toInt ≤ (P i).toInt := by
  rcases rk_end P x h with q | q
  · omega
  · rw [lt_toInt] at q
    rcases Nat.lt_or_ge (rk P x h) i with z | z
    · have := hs _ i z hh; omega
    · have : rk P x h = i := by omega
      rw [this] at q; omega
theorem fFA_ok {P : Nat → Int32} {h : Nat} (x : Int32) (hs : Srt P h) : FFs (inR P h) (x.toInt + 1) (fFA P h x) := by
  have ha := rk_le P x h
  unfold fFA
  by_cases q : hasS P h x
  · rw [if_pos q]
    obtain ⟨q1, q2⟩ := q
    unfold gAt
    by_cases z : rk P x h + 1 < h
    · rw [if_pos z]
      have h1 := hs (rk P x h) (rk P x h + 1) (by omega) z
      rw [q2] at h1
      refine Or.inr ⟨⟨_, z, rfl⟩, by omega, fun y ⟨i, hi, e⟩ hy => ?_⟩
      subst e
      rcases Nat.lt_or_ge i (rk P x h + 1) with w | w
      · rcases Nat.lt_or_ge i (rk P x h) with w2 | w2
        · have := rk_lt P x h i w2; rw [lt_toInt] at this; omega
        · have : i = rk P x h := by omega
          rw [this, q2] at hy; omega
      · rcases Nat.lt_or_ge (rk P x h + 1) i with w2 | w2
        · have := hs _ i w2 hi; omega
        · have : i = rk P x h + 1 := by omega
          rw [this]; exact Int.le_refl _
    · rw [if_neg z]
      refine Or.inl ⟨rfl, fun y ⟨i, hi, e⟩ => ?_⟩
      subst e
      rcases Nat.lt_or_ge i (rk P x h) with w2 | w2
      · have := rk_lt P x h i w2; rw [lt_toInt] at this; omega
      · have : i = rk P x h := by omega
        rw [this, q2]; omega
  · rw [if_neg q]
    unfold gAt
    by_cases z : rk P x h < h
    · rw [if_pos z]
      have h1 := rk_above hs (Nat.le_refl (rk P x h)) z
      have h2 : ¬ (P (rk P x h)).toInt = x.toInt := fun e => q ⟨z, Int32.toInt_inj.mp e⟩
      refine Or.inr ⟨⟨_, z, rfl⟩, by omega, fun y ⟨i, hi, e⟩ hy => ?_⟩
      subst e
      rcases Nat.lt_or_ge i (rk P x h) with w | w
      · have := rk_lt P x h i w; rw [lt_toInt] at this; omega
      · rcases Nat.lt_or_ge (rk P x h) i with w2 | w2
        · have := hs _ i w2 hi; omega
        · have : i = rk P x h := by omega
          rw [this]; exact Int.le_refl _
    · rw [if_neg z]
      refine Or.inl ⟨rfl, fun y ⟨i, hi, e⟩ => ?_⟩
      subst e
      have := rk_lt P x h i (by omega); rw [lt_toInt] at this; omega
theorem fLB_ok {P : Nat → Int32} {h : Nat} (x : Int32) (hs : Srt P h) : LUs (inR P h) (x.toInt - 1) (fLB P h x) := by
  have ha := rk_le P x h
  unfold fLB
  by_cases q : 0 < rk P x h
  · rw [if_pos q]
    have h1 := rk_lt P x h (rk P x h - 1) (by omega)
    rw [lt_toInt] at h1
    refine Or.inr ⟨⟨_, by omega, rfl⟩, by omega, fun y ⟨i, hi, e⟩ hy => ?_⟩
    subst e
    rcases Nat.lt_or_ge i (rk P x h) with w | w
    · rcases Nat.lt_or_ge i (rk P x h - 1) with w2 | w2
      · have := hs i _ w2 (by omega); omega
      · have : i = rk P x h - 1 := by omega
        rw [this]; exact Int.le_refl _
    · have := rk_above hs w hi; omega
  · rw [if_neg q]
    refine Or.inl ⟨rfl, fun y ⟨i, hi, e⟩ => ?_⟩
    subst e
    have := rk_above hs (i := i) (x := x) (by omega) hi; omega
theorem fGr_ok {P : Nat → Int32} {h : Nat} {b : Int} (hs : Srt P h) (hb : ∀ i, i < h → (P i).toInt ≤ b) : LUs (inR P h) b (fGr P h) := by
  unfold fGr
  by_cases q : 0 < h
  · rw [if_pos q]
    refine Or.inr ⟨⟨_, by omega, rfl⟩, hb _ (by omega), fun y ⟨i, hi, e⟩ hy => ?_⟩
    subst e
    rcases Nat.lt_or_ge i (h - 1) with w | w
    · have := hs i _ w (by omega); omega
    · have : i = h - 1 := by omega
      rw [this]; exact Int.le_refl _
  · rw [if_neg q]
    exact Or.inl ⟨rfl, fun y ⟨i, hi, e⟩ => absurd hi (by omega)⟩
theorem fLe_ok {P : Nat → Int32} {h : Nat} {b : Int} (hs : Srt P h) (hb : ∀ i, i < h → b ≤ (P i).toInt) : FFs (inR P h) b (fLe P h) := by
  unfold fLe
  by_cases q : 0 < h
  · rw [if_pos q]
    refine Or.inr ⟨⟨_, q, rfl⟩, hb _ q, fun y ⟨i, hi, e⟩ hy => ?_⟩
    subst e
    rcases Nat.lt_or_ge 0 i with w | w
    · have := hs 0 i w hi; omega
    · have : i = 0 := by omega
      rw [this]; exact Int.le_refl _
  · rw [if_neg q]
    exact Or.inl ⟨rfl, fun y ⟨i, hi, e⟩ => absurd hi (by omega)⟩
/-- the rows of both sides: sorted, places alone, without repetition, the same records -/
def Rows (M : Nat) (P : Nat → Int32) (V : Nat → Int64) (h : Nat) (N : Nat → Int32) (U : Nat → Int64) : Prop :=
  Srt P h ∧ (∀ i, i < h → 1 ≤ (P i).toInt ∧ (P i).toInt ≤ M) ∧ (∀ i j, i < h → j < h → N i = N j → i = j) ∧ (∀ i, i < h → ∃ j, j < h ∧ N j = P i ∧ U j = V i) ∧ (∀ j, j < h → ∃ i, i < h ∧ P i = N j ∧ V i = U j)
section RW
variable {M : Nat} {P : Nat → Int32} {V : Nat → Int64} {h : Nat} {N : Nat → Int32} {U : Nat → Int64}
theorem Rows.set (R : Rows M P V h N U) : inR N h = inR P h := by
  obtain ⟨-, -, -, r4, r5⟩ := R
  funext x
  refine propext ⟨fun ⟨j, hj, e⟩ => ?_, fun ⟨i, hi, e⟩ => ?_⟩
  · obtain ⟨i, hi, e1, -⟩ := r5 j hj
    exact ⟨i, hi, by rw [e1, e]⟩
  · obtain ⟨j, hj, e1, -⟩ := r4 i hi
    exact ⟨j, hj, by rw [e1, e]⟩
theorem Rows.pos (R : Rows M P V h N U) : ∀ j, j < h → 0 < (N j).toInt := fun j hj => by
  obtain ⟨-, r2, -, -, r5⟩ := R
  obtain ⟨i, hi, e1, -⟩ := r5 j hj
  rw [← e1]
  have := (r2 i hi).1; omega
theorem Rows.from (R : Rows M P V h N U) (b : Int64) : FFs (inR P h) b.toInt (gFrom N b h) := by
  have := gFrom_ok N b h R.pos
  rw [R.set] at this; exact this
theorem Rows.upTo (R : Rows M P V h N U) (b : Int64) : LUs (inR P h) b.toInt (gUpTo N b h) := by
  have := gUpTo_ok N b h R.pos
  rw [R.set] at this; exact this
theorem Rows.fa (R : Rows M P V h N U) (x : Int32) : fFA P h x = gFrom N (x.toInt64 + 1) h := by
  have a := R.from (x.toInt64 + 1)
  rw [i64_inc] at a
  exact (fFA_ok x R.1).uniq a
theorem Rows.lb (R : Rows M P V h N U) (x : Int32) : fLB P h x = gUpTo N (x.toInt64 - 1) h := by
  have a := R.upTo (x.toInt64 - 1)
  rw [i64_dec] at a
  exact (fLB_ok x R.1).uniq a
theorem Rows.fe (R : Rows M P V h N U) (x : Int32) : (if hasS P h x then x else fFA P h x) = gFrom N x.toInt64 h := by
  have a := R.from x.toInt64
  rw [i64_of] at a
  refine FFs.uniq ?_ a
  by_cases q : hasS P h x
  · rw [if_pos q]
    exact Or.inr ⟨(hasS_iff R.1).mp q, Int.le_refl _, fun y _ hy => hy⟩
  · rw [if_neg q]
    have q' : ∀ y, inR P h y → ¬ y.toInt = x.toInt := fun y hy e => q ((hasS_iff R.1).mpr (by rw [← Int32.toInt_inj.mp e]; exact hy))
    rcases fFA_ok x R.1 with ⟨e, g⟩ | ⟨g1, g2, g3⟩
    · exact Or.inl ⟨e, fun y hy => by have := g y hy; have := q' y hy; omega⟩
    · exact Or.inr ⟨g1, by omega, fun y hy hx => g3 y hy (by have := q' y hy; omega)⟩
theorem Rows.le (R : Rows M P V h N U) (x : Int32) : (if hasS P h x then x else fLB P h x) = gUpTo N x.toInt64 h := by
  have a := R.upTo x.toInt64
  rw [i64_of] at a
  refine LUs.uniq ?_ a
  by_cases q : hasS P h x
  · rw [if_pos q]
    exact Or.inr ⟨(hasS_iff R.1).mp q, Int.le_refl _, fun y _ hy => hy⟩
  · rw [if_neg q]
    have q' : ∀ y, inR P h y → ¬ y.toInt = x.toInt := fun y hy e => q ((hasS_iff R.1).mpr (by rw [← Int32.toInt_inj.mp e]; exact hy))
    rcases fLB_ok x R.1 with ⟨e, g⟩ | ⟨g1, g2, g3⟩
    · exact Or.inl ⟨e, fun y hy => by have := g y hy; have := q' y hy; omega⟩
    · exact Or.inr ⟨g1, by omega, fun y hy hx => g3 y hy (by have := q' y hy; omega)⟩
theorem Rows.gr (R : Rows M P V h N U) (hM : M < 2 ^ 31) : fGr P h = gUpTo N (nI M).toInt64 h := by
  have a := R.upTo (nI M).toInt64
  rw [i64_of, nI_toInt hM] at a
  exact (fGr_ok R.1 (fun i hi => (R.2.1 i hi).2)).uniq a
theorem Rows.ls (R : Rows M P V h N U) : fLe P h = gFrom N 1 h := (fLe_ok R.1 (fun i hi => (R.2.1 i hi).1)).uniq (R.from 1)
theorem Rows.f0 (R : Rows M P V h N U) : fFA P h 0 = gFrom N 0 h := by
  refine FFs.uniq ?_ (R.from 0)
  rcases fFA_ok (h := h) 0 R.1 with ⟨e, g⟩ | ⟨g1, g2, g3⟩
  · exact Or.inl ⟨e, fun y hy => by
      have a := g y hy
      obtain ⟨i, hi, e⟩ := hy
      have b := (R.2.1 i hi).1
      rw [e] at b
      rw [show (0 : Int32).toInt = 0 from rfl] at a
      omega⟩
  · rw [show (0 : Int32).toInt = 0 from rfl] at g2 g3
    exact Or.inr ⟨g1, by rw [show (0 : Int64).toInt = 0 from rfl]; omega, fun y hy _ => g3 y hy (by
      obtain ⟨i, hi, e⟩ := hy
      have b := (R.2.1 i hi).1
      rw [e] at b
      omega)⟩
theorem Rows.l0 (R : Rows M P V h N U) : fLB P h 0 = gUpTo N 0 h := by
  have key : ∀ y, inR P h y → 1 ≤ y.toInt := fun y ⟨i, hi, e⟩ => e ▸ (R.2.1 i hi).1
  refine LUs.uniq (S := inR P h) (b := 0) ?_ (R.upTo 0)
  rcases fLB_ok (h := h) 0 R.1 with ⟨e, g⟩ | ⟨g1, g2, g3⟩
  · exact Or.inl ⟨e, fun y hy => by have := key y hy; omega⟩
  · rw [show (0 : Int32).toInt = 0 from rfl] at g2
    have := key _ g1; omega
theorem rFind_ne {N : Nat → Int32} {j : Nat} : ∀ z, j < z → z ≤ 1100 → ¬ rFind N (N j) z = -1
  | 0, h1, _ => absurd h1 (by omega)
  | z + 1, h1, h2 => by
    unfold rFind
    split
    · intro e
      have := nI_pos' (n := z) (by omega)
      rw [e] at this
      exact absurd this (by decide)
    · rename_i ne
      rcases Nat.lt_or_ge j z with v | v
      · exact rFind_ne z v (by omega)
      · have : j = z := by omega
        subst this; exact absurd rfl ne
theorem rFind_at (hN : ∀ i j, i < h → j < h → N i = N j → i = j) (hh : h ≤ 1100) {j : Nat} (hj : j < h) : rFind N (N j) h = nI j := by
  rcases rFind_or N (N j) h with q | ⟨k, h1, h2, h3⟩
  · exact absurd q (rFind_ne h hj hh)
  · rw [h2]
    exact congrArg nI (hN k j h1 hj h3)
theorem Rows.inj (R : Rows M P V h N U) {i j : Nat} (hi : i < h) (hj : j < h) (e : P i = P j) : i = j := by
  rcases Nat.lt_trichotomy i j with q | q | q
  · have := R.1 i j q hj; rw [e] at this; omega
  · exact q
  · have := R.1 j i q hi; rw [e] at this; omega
theorem Rows.idx (R : Rows M P V h N U) (hh : h ≤ 1100) {x : Int32} (q : hasS P h x) : ∃ j, j < h ∧ rFind N x h = nI j ∧ N j = x ∧ U j = V (rk P x h) := by
  obtain ⟨j, hj, e1, e2⟩ := R.2.2.2.1 (rk P x h) q.1
  refine ⟨j, hj, ?_, by rw [e1, q.2], e2⟩
  rw [← rFind_at R.2.2.1 hh hj, e1, q.2]
theorem Rows.find (R : Rows M P V h N U) (hh : h ≤ 1100) (x : Int32) : rFind N x h = -1 ↔ ¬ hasS P h x := by
  refine ⟨fun e q => ?_, fun q => ?_⟩
  · obtain ⟨j, hj, e1, -⟩ := R.idx hh q
    rw [e1] at e
    have := nI_pos' (n := j) (by omega)
    rw [e] at this
    exact absurd this (by decide)
  · rcases rFind_or N x h with e | ⟨j, h1, h2, h3⟩
    · exact e
    · obtain ⟨i, hi, e1, -⟩ := R.2.2.2.2 j h1
      exact absurd ((hasS_iff R.1).mpr ⟨i, hi, by rw [e1, h3]⟩) q
theorem Rows.rec (R : Rows M P V h N U) (hh : h ≤ 1100) {x : Int32} (q : hasS P h x) : U (rFind N x h).toNatClampNeg = fRec P V h x := by
  obtain ⟨j, hj, e1, -, e2⟩ := R.idx hh q
  unfold fRec
  rw [if_pos q, e1, nI_clamp (by omega), e2]
theorem insA_lt {α : Type} {Q : Nat → α} {r k j : Nat} {x : α} (hj : j < r) : insA Q r x k j = Q j := by
  unfold insA; rw [if_neg (by omega), if_neg (by omega)]
theorem insA_at {α : Type} {Q : Nat → α} {r k : Nat} {x : α} : insA Q r x k r = x := by
  unfold insA; rw [if_pos rfl]
theorem insA_gt {α : Type} {Q : Nat → α} {r k j : Nat} {x : α} (hj : r ≤ j) (hk : j < k) : insA Q r x k (j + 1) = Q j := by
  unfold insA; rw [if_neg (by omega), if_pos ⟨by omega, by omega⟩]; rfl
theorem delA_lt {α : Type} {Q : Nat → α} {r k j : Nat} (hj : j < r) : delA Q r k j = Q j := by
  unfold delA; rw [if_neg (by omega)]
theorem delA_ge {α : Type} {Q : Nat → α} {r k j : Nat} (hj : r ≤ j) (hk : j < k) : delA Q r k j = Q (j + 1) := by
  unfold delA; rw [if_pos ⟨hj, hk⟩]
theorem Rows.ins (R : Rows M P V h N U) {x : Int32} {v : Int64} (hx1 : 1 ≤ x.toInt) (hx2 : x.toInt ≤ M) (q : ¬ hasS P h x) : Rows M (insA P (rk P x h) x h) (insA V (rk P x h) v h) (h + 1) (upd N h x) (vp_updL U h v) := by
  have hrs := rk_le P x h
  have hlo := rk_lt P x h
  have hnot : ∀ i, i < h → ¬ P i = x := fun i hi e => q ((hasS_iff R.1).mpr ⟨i, hi, e⟩)
  have hhi : ∀ i, rk P x h ≤ i → i < h → x.toInt < (P i).toInt := fun i h1 h2 => by
    have a := rk_above R.1 h1 h2
    have b : ¬ (P i).toInt = x.toInt := fun e => hnot i h2 (Int32.toInt_inj.mp e)
    omega
  obtain ⟨r1, r2, r3, r4, r5⟩ := id R
  have hNx : ∀ j, j < h → ¬ N j = x := fun j hj e => by
    obtain ⟨i, hi, e1, -⟩ := r5 j hj
    exact hnot i hi (by rw [e1, e])
  generalize rk P x h = r at hrs hlo hhi ⊢
  have cs : ∀ i, i < h + 1 → (i < r ∧ insA P r x h i = P i ∧ insA V r v h i = V i) ∨ (i = r ∧ insA P r x h i = x ∧ insA V r v h i = v) ∨ (r < i ∧ insA P r x h i = P (i - 1) ∧ insA V r v h i = V (i - 1)) := by
    intro i hi
    rcases Nat.lt_trichotomy i r with w | w | w
    · exact Or.inl ⟨w, insA_lt w, insA_lt w⟩
    · subst w; exact Or.inr (Or.inl ⟨rfl, insA_at, insA_at⟩)
    · obtain ⟨k, rfl⟩ : ∃ k, i = k + 1 := ⟨i - 1, by omega⟩
      exact Or.inr (Or.inr ⟨w, insA_gt (by omega) (by omega), insA_gt (by omega) (by omega)⟩)
  refine ⟨?_, ?_, ?_, ?_, ?_⟩
  · intro i j hij hj
    rcases cs i (by omega) with ⟨w, e, -⟩ | ⟨w, e, -⟩ | ⟨w, e, -⟩ <;> rcases cs j hj with ⟨w2, e2, -⟩ | ⟨w2, e2, -⟩ | ⟨w2, e2, -⟩ <;> rw [e, e2]
    · exact r1 i j hij (by omega)
    · have := hlo i w; rw [lt_toInt] at this; exact this
    · rcases Nat.lt_or_ge i (j - 1) with z | z
      · exact r1 i (j - 1) z (by omega)
      · omega
    · omega
    · omega
    · exact hhi (j - 1) (by omega) (by omega)
    · omega
    · omega
    · exact r1 (i - 1) (j - 1) (by omega) (by omega)
  · intro i hi
    rcases cs i hi with ⟨w, e, -⟩ | ⟨w, e, -⟩ | ⟨w, e, -⟩ <;> rw [e]
    · exact r2 i (by omega)
    · exact ⟨hx1, hx2⟩
    · exact r2 (i - 1) (by omega)
  · intro i j hi hj e
    rw [upd_at, upd_at] at e
    by_cases a : i = h <;> by_cases b : j = h
    · omega
    · rw [if_pos a, if_neg b] at e; exact absurd e.symm (hNx j (by omega))
    · rw [if_neg a, if_pos b] at e; exact absurd e (hNx i (by omega))
    · rw [if_neg a, if_neg b] at e; exact r3 i j (by omega) (by omega) e
  · intro i hi
    have mv : ∀ k, k < h → ∃ j, j < h + 1 ∧ upd N h x j = P k ∧ vp_updL U h v j = V k := fun k hk => by
      obtain ⟨j, hj, e1, e2⟩ := r4 k hk
      exact ⟨j, by omega, by rw [upd_at, if_neg (by omega)]; exact e1, by rw [updL_at, if_neg (by omega)]; exact e2⟩
    rcases cs i hi with ⟨w, e, e'⟩ | ⟨w, e, e'⟩ | ⟨w, e, e'⟩ <;> rw [e, e']
    · exact mv i (by omega)
    · exact ⟨h, by omega, by rw [upd_at, if_pos rfl], by rw [updL_at, if_pos rfl]⟩
    · exact mv (i - 1) (by omega)
  · intro j hj
    rw [upd_at, updL_at]
    by_cases a : j = h
    · rw [if_pos a, if_pos a]
      exact ⟨r, by omega, insA_at, insA_at⟩
    · rw [if_neg a, if_neg a]
      obtain ⟨i, hi, e1, e2⟩ := r5 j (by omega)
      rcases Nat.lt_or_ge i r with w | w
      · exact ⟨i, by omega, by rw [insA_lt w]; exact e1, by rw [insA_lt w]; exact e2⟩
      · exact ⟨i + 1, by omega, by rw [insA_gt w hi]; exact e1, by rw [insA_gt w hi]; exact e2⟩
theorem Rows.put (R : Rows M P V h N U) {x : Int32} {v : Int64} (q : hasS P h x) {k : Nat} (hk : k < h) (hkx : N k = x) : Rows M P (vp_updL V (rk P x h) v) h N (vp_updL U k v) := by
  obtain ⟨r1, r2, r3, r4, r5⟩ := id R
  obtain ⟨q1, q2⟩ := q
  refine ⟨r1, r2, r3, ?_, ?_⟩
  · intro i hi
    by_cases a : i = rk P x h
    · subst a
      exact ⟨k, hk, by rw [hkx, q2], by rw [updL_at, updL_at, if_pos rfl, if_pos rfl]⟩
    · obtain ⟨j, hj, e1, e2⟩ := r4 i hi
      refine ⟨j, hj, e1, ?_⟩
      rw [updL_at, updL_at, if_neg a, if_neg (fun e => a (R.inj hi q1 (by rw [← e1, e, hkx, q2])))]
      exact e2
  · intro j hj
    by_cases a : j = k
    · subst a
      exact ⟨rk P x h, q1, by rw [hkx, q2], by rw [updL_at, updL_at, if_pos rfl, if_pos rfl]⟩
    · obtain ⟨i, hi, e1, e2⟩ := r5 j hj
      refine ⟨i, hi, e1, ?_⟩
      rw [updL_at, updL_at, if_neg a, if_neg (fun e => a (r3 j k hj hk (by rw [← e1, e, hkx, q2])))]
      exact e2
theorem Rows.del (R : Rows M P V h N U) {x : Int32} (q : hasS P h x) {k : Nat} (hk : k < h) (hkx : N k = x) : Rows M (delA P (rk P x h) (h - 1)) (delA V (rk P x h) (h - 1)) (h - 1) (upd N k (N (h - 1))) (vp_updL U k (U (h - 1))) := by
  obtain ⟨r1, r2, r3, r4, r5⟩ := id R
  obtain ⟨q1, q2⟩ := q
  have inj := fun {i j : Nat} => @Rows.inj M P V h N U R i j
  generalize rk P x h = r at q1 q2 ⊢
  have cs : ∀ i, i < h - 1 → (i < r ∧ delA P r (h - 1) i = P i ∧ delA V r (h - 1) i = V i) ∨ (r ≤ i ∧ delA P r (h - 1) i = P (i + 1) ∧ delA V r (h - 1) i = V (i + 1)) := by
    intro i hi
    rcases Nat.lt_or_ge i r with w | w
    · exact Or.inl ⟨w, delA_lt w, delA_lt w⟩
    · exact Or.inr ⟨w, delA_ge w hi, delA_ge w hi⟩
  have cN : ∀ j, j < h - 1 → ∃ j', j' < h ∧ ¬ j' = k ∧ (j = k ∧ j' = h - 1 ∨ ¬ j = k ∧ j' = j) ∧ upd N k (N (h - 1)) j = N j' ∧ vp_updL U k (U (h - 1)) j = U j' := by
    intro j hj
    rw [upd_at, updL_at]
    by_cases a : j = k
    · rw [if_pos a, if_pos a]
      exact ⟨h - 1, by omega, by omega, Or.inl ⟨a, rfl⟩, rfl, rfl⟩
    · rw [if_neg a, if_neg a]
      exact ⟨j, by omega, a, Or.inr ⟨a, rfl⟩, rfl, rfl⟩
  refine ⟨?_, ?_, ?_, ?_, ?_⟩
  · intro i j hij hj
    rcases cs i (by omega) with ⟨w, e, -⟩ | ⟨w, e, -⟩ <;> rcases cs j hj with ⟨w2, e2, -⟩ | ⟨w2, e2, -⟩ <;> rw [e, e2]
    · exact r1 i j hij (by omega)
    · exact r1 i (j + 1) (by omega) (by omega)
    · omega
    · exact r1 (i + 1) (j + 1) (by omega) (by omega)
  · intro i hi
    rcases cs i hi with ⟨w, e, -⟩ | ⟨w, e, -⟩ <;> rw [e]
    · exact r2 i (by omega)
    · exact r2 (i + 1) (by omega)
  · intro i j hi hj e
    obtain ⟨i', a1, a2, a3, a4, -⟩ := cN i hi
    obtain ⟨j', b1, b2, b3, b4, -⟩ := cN j hj
    rw [a4, b4] at e
    have := r3 i' j' a1 b1 e
    rcases a3 with ⟨a3, a5⟩ | ⟨a3, a5⟩ <;> rcases b3 with ⟨b3, b5⟩ | ⟨b3, b5⟩ <;> omega
  · intro i hi
    have mv : ∀ m, m < h → ¬ m = r → ∃ j, j < h - 1 ∧ upd N k (N (h - 1)) j = P m ∧ vp_updL U k (U (h - 1)) j = V m := fun m hm hmr => by
      obtain ⟨j0, hj, e1, e2⟩ := r4 m hm
      have ne : ¬ j0 = k := fun e => hmr (inj hm q1 (by rw [← e1, e, hkx, q2]))
      rcases Nat.lt_or_ge j0 (h - 1) with w | w
      · exact ⟨j0, w, by rw [upd_at, if_neg ne]; exact e1, by rw [updL_at, if_neg ne]; exact e2⟩
      · have : j0 = h - 1 := by omega
        subst this
        exact ⟨k, by omega, by rw [upd_at, if_pos rfl]; exact e1, by rw [updL_at, if_pos rfl]; exact e2⟩
    rcases cs i hi with ⟨w, e, e'⟩ | ⟨w, e, e'⟩ <;> rw [e, e']
    · exact mv i (by omega) (by omega)
    · exact mv (i + 1) (by omega) (by omega)
  · intro j hj
    obtain ⟨j', a1, a2, -, a4, a5⟩ := cN j hj
    rw [a4, a5]
    obtain ⟨i, hi, e1, e2⟩ := r5 j' a1
    have ne : ¬ i = r := fun e => a2 (r3 j' k a1 hk (by rw [← e1, e, hkx, q2]))
    rcases Nat.lt_or_ge i r with w | w
    · exact ⟨i, by omega, by rw [delA_lt w]; exact e1, by rw [delA_lt w]; exact e2⟩
    · exact ⟨i - 1, by omega, by rw [delA_ge (by omega) (by omega), Nat.sub_add_cancel (by omega)]; exact e1, by rw [delA_ge (by omega) (by omega), Nat.sub_add_cancel (by omega)]; exact e2⟩
/-- a place without a record: there are fewer records than places -/
theorem Rows.room (R : Rows M P V h N U) {x : Int32} (hx1 : 1 ≤ x.toInt) (hx2 : x.toInt ≤ M) (q : ¬ hasS P h x) : h < M := by
  have R2 := R.ins (v := 0) hx1 hx2 q
  obtain ⟨s1, s2, -⟩ := R2
  generalize insA P (rk P x h) x h = Q at s1 s2
  have key : ∀ i, i < h + 1 → (i : Int) + 1 ≤ (Q i).toInt := by
    intro i
    induction i with
    | zero => intro hi; have := (s2 0 hi).1; omega
    | succ i ih =>
      intro hi
      have a := ih (by omega)
      have b := s1 i (i + 1) (by omega) hi
      omega
  have a := key h (by omega)
  have b := (s2 h (by omega)).2
  omega
end RW
