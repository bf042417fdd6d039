set_option maxHeartbeats 1000000 in
set_option maxRecDepth 100000 in
/-- rank: how many places are less -/
theorem kX0_rank (l : Launch) (dC : Nat → ClassId) (dI : Nat → Nat → Nat) (oS oA oB : Nat) (cA cB : ClassId) (n h : Nat) (P : Nat → Int32) (V : Nat → Int64) (p0 : Int32) (sz : Nat) (hh : h ≤ n) (hn : n ≤ 512) : Met l yX0_rank wsX0_rank ({ frames := 0, cells := 0, slots := 0, locals := 0 }) (va_Pc [.ref oS, .int p0] (fun U => U.heap.size = sz ∧ va_P (dC, dI) vwCl [(oS, .inr (1, [.ref oA, .ref oB, .int (nI h)])), (oA, .inl (cA, n, .inl P)), (oB, .inl (cB, n, .inr (.inl V)))] U.heap ∧ va_K (dC, dI) vwCl [(cA, .int), (cB, .long)] U ∧ va_D (fun _ => True) [(oS, .inr (1, [.ref oA, .ref oB, .int (nI h)])), (oA, .inl (cA, n, .inl P)), (oB, .inl (cB, n, .inr (.inl V)))])) (va_Qi (fun (r : Int32) (_ : Unit) => r = nI (rk P p0 h)) (fun (_ : Unit) (t : State) => va_P (dC, dI) vwCl [(oS, .inr (1, [.ref oA, .ref oB, .int (nI h)])), (oA, .inl (cA, n, .inl P)), (oB, .inl (cB, n, .inr (.inl V)))] t.heap ∧ va_K (dC, dI) vwCl [(cA, .int), (cB, .long)] t ∧ va_D (va_A [(oS, .inr (1, [.ref oA, .ref oB, .int (nI h)])), (oA, .inl (cA, n, .inl P)), (oB, .inl (cB, n, .inr (.inl V)))] sz) [(oS, .inr (1, [.ref oA, .ref oB, .int (nI h)])), (oA, .inl (cA, n, .inl P)), (oB, .inl (cB, n, .inr (.inl V)))]) (va_A [(oS, .inr (1, [.ref oA, .ref oB, .int (nI h)])), (oA, .inl (cA, n, .inl P)), (oB, .inl (cB, n, .inr (.inl V)))] sz)) 0 0 (va_A [(oS, .inr (1, [.ref oA, .ref oB, .int (nI h)])), (oA, .inl (cA, n, .inl P)), (oB, .inl (cB, n, .inr (.inl V)))] sz) := by
  refine Met.ofW (cc := cX0_rank) (maxL := 3) (ret := (some .int)) (by decide) rfl ?_
  intro p e s m args below meth c s₁ B hml hv
  obtain ⟨rfl, hsz, hP, hK, hD0⟩ := hv
  have hx := B.exec
  have hb := B.bytes
  have hr := B.returns
  have hts := atoms_spec (ws := wsX0_rank) B.pre
  have hown : s.vm.findClass RX0 = some m.cls := findClass_of_methodNamed B.named
  have hlocks := B.notSynchronized
  subst hsz
  have hD := hD0.self (sz := s.heap.size)
  generalize hAe : va_A [(oS, .inr (1, [.ref oA, .ref oB, .int (nI h)])), (oA, .inl (cA, n, .inl P)), (oB, .inl (cB, n, .inr (.inl V)))] s.heap.size = A at hD ⊢
  have hA : ∀ q : Nat, s.heap.size ≤ q → A q := fun q h => by rw [← hAe]; exact Or.inr h
  have hS : va_S A s.heap s.heap [] := va_S.rf
  have hP : va_P (dC, dI) vwCl [(oS, .inr (1, [.ref oA, .ref oB, .int (nI h)])), (oA, .inl (cA, n, .inl P)), (oB, .inl (cB, n, .inr (.inl V)))] s.heap := hP
  have hl := lv_entry ([.ref oS, .int p0]) (n := 3) (Nat.le_of_ble_eq_true rfl)
  rw [lg_entry_eq]
  generalize (lg_sl ([.ref oS, .int p0]) ++ List.replicate (3 - (lg_sl ([.ref oS, .int p0])).length) Slot.unset).toArray = ls at hl ⊢
  have hl : lv_has ls 3 [(0, .ref oS), (1, .int p0)] := hl
  refine W_name (fun Q hQ9 => ?_)
  refine lv_iconst (v := 0) hx hb dX0_rank_0 (by decide) ?_
  refine lv_istore_n (lv' := [(2, .int 0), (0, .ref oS), (1, .int p0)]) hx hb dX0_rank_1 rfl hl (by decide) rfl (fun ls hl => ?_)
  have loop : ∀ (k i : Nat) (ls : Array Slot) (H : Heap) (locs : List Loc), (i ≤ h) → (h + 1 ≤ i + k) → (∀ j, j < i → P j < p0) → lv_has ls 3 [(2, .int (nI i)), (0, .ref oS), (1, .int p0)] → va_P (dC, dI) vwCl [(oS, .inr (1, [.ref oA, .ref oB, .int (nI h)])), (oA, .inl (cA, n, .inl P)), (oB, .inl (cB, n, .inr (.inl V)))] H → va_D A [(oS, .inr (1, [.ref oA, .ref oB, .int (nI h)])), (oA, .inl (cA, n, .inl P)), (oB, .inl (cB, n, .inr (.inl V)))] → va_S A s.heap H locs → W p l e (headSpec wsX0_rank ({ frames := 0, cells := 0, slots := 0, locals := 0 })).room s m #[(Value.ref oS), (Value.int p0)] below meth c H locs 0 0 Q (F0 m 2 ls []) := by
    intro k
    induction k with
    | zero => intro i ls H locs h1 h2 h3; exact absurd h2 (by omega)
    | succ k ih =>
      intro i ls H locs h1 h2 h3 hl hP hD hS
      refine lv_iload_n hx hb dX0_rank_2 rfl (lv_at hl 0 rfl) ?_
      refine lv_aload_n hx hb dX0_rank_3 rfl (lv_at hl 1 rfl) ?_
      refine va_get (D := (dC, dI)) (ci := 1) (v := .int (nI h)) (C := RX0) (T := TX0) (N := 3) hx hb hts (by decide +kernel) hown hK hP 0 rfl rfl 2 (by decide) (hts (.fieldLink RX0 25 "RelativeFiles$Shelf" "held" "I") (by decide +kernel)) (fun _ h9 => h9) rfl dX0_rank_4 ?_
      refine lv_icmp_ge (tgt := 26) hx hb dX0_rank_7 (by decide) (fun c_1 => ?_) (fun c_1 => ?_)
      · -- taken at 7: (nI h) ≤ (nI i)
        have hi2 : i = h := by have := (nI_leI (a := h) (b := i) (by omega) (by omega)).mp c_1; omega
        refine lv_iload_n hx hb dX0_rank_26 rfl (lv_at hl 0 rfl) ?_
        subst hQ9
        have e9 : rk P p0 h = i := rk_eq h1 h3 (Or.inl hi2)
        rw [e9]
        exact W.iret (v := nI i) hx hb hr (fun t ht hW => ⟨⟨nI i, (), rfl, rfl, by rw [ht]; exact hP, va_K.moved hW.alike hK, hD⟩, hS.F ht⟩) hS.2.2 dX0_rank_27
      · -- not taken at 7: ¬ (nI h) ≤ (nI i)
        have hi2 : i < h := by rcases Nat.lt_or_ge i h with q | q; exact q; exact absurd (nI_le q (by omega)) c_1
        refine lv_aload_n hx hb dX0_rank_10 rfl (lv_at hl 1 rfl) ?_
        refine va_get (D := (dC, dI)) (ci := 1) (v := .ref oA) (C := RX0) (T := TX0) (N := 3) hx hb hts (by decide +kernel) hown hK hP 0 rfl rfl 0 (by decide) (hts (.fieldLink RX0 15 "RelativeFiles$Shelf" "places" "[I") (by decide +kernel)) (fun _ h9 => h9) rfl dX0_rank_11 ?_
        refine lv_iload_n hx hb dX0_rank_14 rfl (lv_at hl 0 rfl) ?_
        refine va_iald hx hb hK hP 1 0 rfl rfl (vp_in_nI (by omega) (by omega)) dX0_rank_15 ?_
        rw [show P ((nI i).toNatClampNeg) = P i from by rw [nI_clamp (by omega)]]
        refine lv_iload_n hx hb dX0_rank_16 rfl (lv_at hl 2 rfl) ?_
        refine lv_icmp_ge (tgt := 26) hx hb dX0_rank_17 (by decide) (fun c_2 => ?_) (fun c_2 => ?_)
        · -- taken at 17: p0 ≤ (P i)
          refine lv_iload_n hx hb dX0_rank_26 rfl (lv_at hl 0 rfl) ?_
          subst hQ9
          have e9 : rk P p0 h = i := rk_eq h1 h3 (Or.inr (fun z => by rw [Int32.lt_iff_toInt_lt] at z; rw [Int32.le_iff_toInt_le] at c_2; omega))
          rw [e9]
          exact W.iret (v := nI i) hx hb hr (fun t ht hW => ⟨⟨nI i, (), rfl, rfl, by rw [ht]; exact hP, va_K.moved hW.alike hK, hD⟩, hS.F ht⟩) hS.2.2 dX0_rank_27
        · -- not taken at 17: ¬ p0 ≤ (P i)
          have hP_lt : P i < p0 := by rw [Int32.lt_iff_toInt_lt]; rw [Int32.le_iff_toInt_le] at c_2; omega
          refine lv_iinc (v := (nI (i + 1))) (lv' := [(2, .int (nI (i + 1))), (0, .ref oS), (1, .int p0)]) hx hb dX0_rank_20 hl (k := 0) rfl ((nI_succ i).symm) (by decide) rfl (fun ls hl => ?_)
          refine lv_goto (tgt := 2) hx hb dX0_rank_23 (by decide) ?_
          exact ih (i + 1) ls _ _ (by omega) (by omega) (fun j hj => (Nat.lt_or_ge j i).elim (fun q => h3 j q) (fun q => (show j = i by omega) ▸ hP_lt)) (lv_sub hl [0, 1, 2] rfl) hP hD hS
  exact loop (h + 1) 0  ls _ _ (Nat.zero_le h) (by omega) (fun j hj => by omega) (by rw [nI_0]; exact hl) hP hD hS

set_option maxHeartbeats 1000000 in
set_option maxRecDepth 100000 in
theorem kX0_isAt (l : Launch) (dC : Nat → ClassId) (dI : Nat → Nat → Nat) (oS oA oB : Nat) (cA cB : ClassId) (n h : Nat) (P : Nat → Int32) (V : Nat → Int64) (i : Nat) (p1 : Int32) (sz : Nat) (hh : h ≤ n) (hn : n ≤ 512) (hi : i ≤ h) : Met l yX0_isAt wsX0_isAt ({ frames := 0, cells := 0, slots := 0, locals := 0 }) (va_Pc [.ref oS, .int (nI i), .int p1] (fun U => U.heap.size = sz ∧ va_P (dC, dI) vwCl [(oS, .inr (1, [.ref oA, .ref oB, .int (nI h)])), (oA, .inl (cA, n, .inl P)), (oB, .inl (cB, n, .inr (.inl V)))] U.heap ∧ va_K (dC, dI) vwCl [(cA, .int), (cB, .long)] U ∧ va_D (fun _ => True) [(oS, .inr (1, [.ref oA, .ref oB, .int (nI h)])), (oA, .inl (cA, n, .inl P)), (oB, .inl (cB, n, .inr (.inl V)))])) (va_Qi (fun (r : Int32) (_ : Unit) => ((i < h ∧ P i = p1) ∧ r = 1) ∨ (¬ (i < h ∧ P i = p1) ∧ r = 0)) (fun (_ : Unit) (t : State) => va_P (dC, dI) vwCl [(oS, .inr (1, [.ref oA, .ref oB, .int (nI h)])), (oA, .inl (cA, n, .inl P)), (oB, .inl (cB, n, .inr (.inl V)))] t.heap ∧ va_K (dC, dI) vwCl [(cA, .int), (cB, .long)] t ∧ va_D (va_A [(oS, .inr (1, [.ref oA, .ref oB, .int (nI h)])), (oA, .inl (cA, n, .inl P)), (oB, .inl (cB, n, .inr (.inl V)))] sz) [(oS, .inr (1, [.ref oA, .ref oB, .int (nI h)])), (oA, .inl (cA, n, .inl P)), (oB, .inl (cB, n, .inr (.inl V)))]) (va_A [(oS, .inr (1, [.ref oA, .ref oB, .int (nI h)])), (oA, .inl (cA, n, .inl P)), (oB, .inl (cB, n, .inr (.inl V)))] sz)) 0 0 (va_A [(oS, .inr (1, [.ref oA, .ref oB, .int (nI h)])), (oA, .inl (cA, n, .inl P)), (oB, .inl (cB, n, .inr (.inl V)))] sz) := by
  refine Met.ofW (cc := cX0_isAt) (maxL := 3) (ret := (some .boolean)) (by decide) rfl ?_
  intro p e s m args below meth c s₁ B hml hv
  obtain ⟨rfl, hsz, hP, hK, hD0⟩ := hv
  have hx := B.exec
  have hb := B.bytes
  have hr := B.returns
  have hts := atoms_spec (ws := wsX0_isAt) B.pre
  have hown : s.vm.findClass RX0 = some m.cls := findClass_of_methodNamed B.named
  have hlocks := B.notSynchronized
  subst hsz
  have hD := hD0.self (sz := s.heap.size)
  generalize hAe : va_A [(oS, .inr (1, [.ref oA, .ref oB, .int (nI h)])), (oA, .inl (cA, n, .inl P)), (oB, .inl (cB, n, .inr (.inl V)))] s.heap.size = A at hD ⊢
  have hA : ∀ q : Nat, s.heap.size ≤ q → A q := fun q h => by rw [← hAe]; exact Or.inr h
  have hS : va_S A s.heap s.heap [] := va_S.rf
  have hP : va_P (dC, dI) vwCl [(oS, .inr (1, [.ref oA, .ref oB, .int (nI h)])), (oA, .inl (cA, n, .inl P)), (oB, .inl (cB, n, .inr (.inl V)))] s.heap := hP
  have hl := lv_entry ([.ref oS, .int (nI i), .int p1]) (n := 3) (Nat.le_of_ble_eq_true rfl)
  rw [lg_entry_eq]
  generalize (lg_sl ([.ref oS, .int (nI i), .int p1]) ++ List.replicate (3 - (lg_sl ([.ref oS, .int (nI i), .int p1])).length) Slot.unset).toArray = ls at hl ⊢
  have hl : lv_has ls 3 [(0, .ref oS), (1, .int (nI i)), (2, .int p1)] := hl
  refine W_name (fun Q hQ9 => ?_)
  refine lv_iload_n hx hb dX0_isAt_0 rfl (lv_at hl 1 rfl) ?_
  refine lv_aload_n hx hb dX0_isAt_1 rfl (lv_at hl 0 rfl) ?_
  refine va_get (D := (dC, dI)) (ci := 1) (v := .int (nI h)) (C := RX0) (T := TX0) (N := 3) hx hb hts (by decide +kernel) hown hK hP 0 rfl rfl 2 (by decide) (hts (.fieldLink RX0 25 "RelativeFiles$Shelf" "held" "I") (by decide +kernel)) (fun _ h9 => h9) rfl dX0_isAt_2 ?_
  refine lv_icmp_ge (tgt := 22) hx hb dX0_isAt_5 (by decide) (fun c_1 => ?_) (fun c_1 => ?_)
  · -- taken at 5: (nI h) ≤ (nI i)
    have hi2 : ¬ i < h := by have := (nI_leI (a := h) (b := i) (by omega) (by omega)).mp c_1; omega
    refine lv_iconst (v := 0) hx hb dX0_isAt_22 (by decide) ?_
    subst hQ9
    exact W.zret (ty := .boolean) (v := 0) hx hb hr (by decide) (fun t ht hW => ⟨⟨0, (), rfl, Or.inr ⟨fun q => by omega, rfl⟩, by rw [ht]; exact hP, va_K.moved hW.alike hK, hD⟩, hS.F ht⟩) hS.2.2 dX0_isAt_23
  · -- not taken at 5: ¬ (nI h) ≤ (nI i)
    have hi2 : i < h := by rcases Nat.lt_or_ge i h with q | q; exact q; exact absurd (nI_le q (by omega)) c_1
    refine lv_aload_n hx hb dX0_isAt_8 rfl (lv_at hl 0 rfl) ?_
    refine va_get (D := (dC, dI)) (ci := 1) (v := .ref oA) (C := RX0) (T := TX0) (N := 3) hx hb hts (by decide +kernel) hown hK hP 0 rfl rfl 0 (by decide) (hts (.fieldLink RX0 15 "RelativeFiles$Shelf" "places" "[I") (by decide +kernel)) (fun _ h9 => h9) rfl dX0_isAt_9 ?_
    refine lv_iload_n hx hb dX0_isAt_12 rfl (lv_at hl 1 rfl) ?_
    refine va_iald hx hb hK hP 1 0 rfl rfl (vp_in_nI (by omega) (by omega)) dX0_isAt_13 ?_
    rw [show P ((nI i).toNatClampNeg) = P i from by rw [nI_clamp (by omega)]]
    refine lv_iload_n hx hb dX0_isAt_14 rfl (lv_at hl 2 rfl) ?_
    refine lv_icmp_ne (tgt := 22) hx hb dX0_isAt_15 (by decide) (fun c_2 => ?_) (fun c_2 => ?_)
    · -- taken at 15: ¬ (P i) = p1
      refine lv_iconst (v := 0) hx hb dX0_isAt_22 (by decide) ?_
      subst hQ9
      exact W.zret (ty := .boolean) (v := 0) hx hb hr (by decide) (fun t ht hW => ⟨⟨0, (), rfl, Or.inr ⟨fun q => c_2 q.2, rfl⟩, by rw [ht]; exact hP, va_K.moved hW.alike hK, hD⟩, hS.F ht⟩) hS.2.2 dX0_isAt_23
    · -- not taken at 15: (P i) = p1
      refine lv_iconst (v := 1) hx hb dX0_isAt_18 (by decide) ?_
      refine lv_goto (tgt := 23) hx hb dX0_isAt_19 (by decide) ?_
      subst hQ9
      exact W.zret (ty := .boolean) (v := 1) hx hb hr (by decide) (fun t ht hW => ⟨⟨1, (), rfl, Or.inl ⟨⟨hi2, c_2⟩, rfl⟩, by rw [ht]; exact hP, va_K.moved hW.alike hK, hD⟩, hS.F ht⟩) hS.2.2 dX0_isAt_23

set_option maxHeartbeats 1000000 in
set_option maxRecDepth 100000 in
theorem kX0_placeAt (l : Launch) (dC : Nat → ClassId) (dI : Nat → Nat → Nat) (oS oA oB : Nat) (cA cB : ClassId) (n h : Nat) (P : Nat → Int32) (V : Nat → Int64) (p0 : Int32) (sz : Nat) (hh : h ≤ n) (hn : n ≤ 512) : Met l yX0_placeAt wsX0_placeAt ({ frames := 0, cells := 0, slots := 0, locals := 0 }) (va_Pc [.ref oS, .int p0] (fun U => U.heap.size = sz ∧ va_P (dC, dI) vwCl [(oS, .inr (1, [.ref oA, .ref oB, .int (nI h)])), (oA, .inl (cA, n, .inl P)), (oB, .inl (cB, n, .inr (.inl V)))] U.heap ∧ va_K (dC, dI) vwCl [(cA, .int), (cB, .long)] U ∧ va_D (fun _ => True) [(oS, .inr (1, [.ref oA, .ref oB, .int (nI h)])), (oA, .inl (cA, n, .inl P)), (oB, .inl (cB, n, .inr (.inl V)))])) (va_Qi (fun (r : Int32) (_ : Unit) => r = pAt P h p0) (fun (_ : Unit) (t : State) => va_P (dC, dI) vwCl [(oS, .inr (1, [.ref oA, .ref oB, .int (nI h)])), (oA, .inl (cA, n, .inl P)), (oB, .inl (cB, n, .inr (.inl V)))] t.heap ∧ va_K (dC, dI) vwCl [(cA, .int), (cB, .long)] t ∧ va_D (va_A [(oS, .inr (1, [.ref oA, .ref oB, .int (nI h)])), (oA, .inl (cA, n, .inl P)), (oB, .inl (cB, n, .inr (.inl V)))] sz) [(oS, .inr (1, [.ref oA, .ref oB, .int (nI h)])), (oA, .inl (cA, n, .inl P)), (oB, .inl (cB, n, .inr (.inl V)))]) (va_A [(oS, .inr (1, [.ref oA, .ref oB, .int (nI h)])), (oA, .inl (cA, n, .inl P)), (oB, .inl (cB, n, .inr (.inl V)))] sz)) 0 0 (va_A [(oS, .inr (1, [.ref oA, .ref oB, .int (nI h)])), (oA, .inl (cA, n, .inl P)), (oB, .inl (cB, n, .inr (.inl V)))] sz) := by
  refine Met.ofW (cc := cX0_placeAt) (maxL := 2) (ret := (some .int)) (by decide) rfl ?_
  intro p e s m args below meth c s₁ B hml hv
  obtain ⟨rfl, hsz, hP, hK, hD0⟩ := hv
  have hx := B.exec
  have hb := B.bytes
  have hr := B.returns
  have hts := atoms_spec (ws := wsX0_placeAt) B.pre
  have hown : s.vm.findClass RX0 = some m.cls := findClass_of_methodNamed B.named
  have hlocks := B.notSynchronized
  subst hsz
  have hD := hD0.self (sz := s.heap.size)
  generalize hAe : va_A [(oS, .inr (1, [.ref oA, .ref oB, .int (nI h)])), (oA, .inl (cA, n, .inl P)), (oB, .inl (cB, n, .inr (.inl V)))] s.heap.size = A at hD ⊢
  have hA : ∀ q : Nat, s.heap.size ≤ q → A q := fun q h => by rw [← hAe]; exact Or.inr h
  have hS : va_S A s.heap s.heap [] := va_S.rf
  have hP : va_P (dC, dI) vwCl [(oS, .inr (1, [.ref oA, .ref oB, .int (nI h)])), (oA, .inl (cA, n, .inl P)), (oB, .inl (cB, n, .inr (.inl V)))] s.heap := hP
  have hl := lv_entry ([.ref oS, .int p0]) (n := 2) (Nat.le_of_ble_eq_true rfl)
  rw [lg_entry_eq]
  generalize (lg_sl ([.ref oS, .int p0]) ++ List.replicate (2 - (lg_sl ([.ref oS, .int p0])).length) Slot.unset).toArray = ls at hl ⊢
  have hl : lv_has ls 2 [(0, .ref oS), (1, .int p0)] := hl
  refine W_name (fun Q hQ9 => ?_)
  refine lv_iload_n hx hb dX0_placeAt_0 rfl (lv_at hl 1 rfl) ?_
  refine lv_if_lt (tgt := 21) hx hb dX0_placeAt_1 (by decide) (fun c_1 => ?_) (fun c_1 => ?_)
  · -- taken at 1: p0 < 0
    refine lv_iconst (v := 0) hx hb dX0_placeAt_21 (by decide) ?_
    subst hQ9
    have e9 : pAt P h p0 = 0 := by simp only [pAt, if_pos c_1]
    rw [e9]
    exact W.iret (v := 0) hx hb hr (fun t ht hW => ⟨⟨0, (), rfl, rfl, by rw [ht]; exact hP, va_K.moved hW.alike hK, hD⟩, hS.F ht⟩) hS.2.2 dX0_placeAt_22
  · -- not taken at 1: ¬ p0 < 0
    refine lv_iload_n hx hb dX0_placeAt_4 rfl (lv_at hl 1 rfl) ?_
    refine lv_aload_n hx hb dX0_placeAt_5 rfl (lv_at hl 0 rfl) ?_
    refine va_get (D := (dC, dI)) (ci := 1) (v := .int (nI h)) (C := RX0) (T := TX0) (N := 3) hx hb hts (by decide +kernel) hown hK hP 0 rfl rfl 2 (by decide) (hts (.fieldLink RX0 25 "RelativeFiles$Shelf" "held" "I") (by decide +kernel)) (fun _ h9 => h9) rfl dX0_placeAt_6 ?_
    refine lv_icmp_ge (tgt := 21) hx hb dX0_placeAt_9 (by decide) (fun c_2 => ?_) (fun c_2 => ?_)
    · -- taken at 9: (nI h) ≤ p0
      refine lv_iconst (v := 0) hx hb dX0_placeAt_21 (by decide) ?_
      subst hQ9
      have e9 : pAt P h p0 = 0 := by simp only [pAt, if_neg c_1, if_pos c_2]
      rw [e9]
      exact W.iret (v := 0) hx hb hr (fun t ht hW => ⟨⟨0, (), rfl, rfl, by rw [ht]; exact hP, va_K.moved hW.alike hK, hD⟩, hS.F ht⟩) hS.2.2 dX0_placeAt_22
    · -- not taken at 9: ¬ (nI h) ≤ p0
      refine lv_aload_n hx hb dX0_placeAt_12 rfl (lv_at hl 0 rfl) ?_
      refine va_get (D := (dC, dI)) (ci := 1) (v := .ref oA) (C := RX0) (T := TX0) (N := 3) hx hb hts (by decide +kernel) hown hK hP 0 rfl rfl 0 (by decide) (hts (.fieldLink RX0 15 "RelativeFiles$Shelf" "places" "[I") (by decide +kernel)) (fun _ h9 => h9) rfl dX0_placeAt_13 ?_
      refine lv_iload_n hx hb dX0_placeAt_16 rfl (lv_at hl 1 rfl) ?_
      refine va_iald hx hb hK hP 1 0 rfl rfl (vp_in_cl c_1 c_2 hh (by omega)) dX0_placeAt_17 ?_
      refine lv_goto (tgt := 22) hx hb dX0_placeAt_18 (by decide) ?_
      subst hQ9
      have e9 : pAt P h p0 = P (p0.toNatClampNeg) := by simp only [pAt, if_neg c_1, if_neg c_2]
      rw [e9]
      exact W.iret (v := P (p0.toNatClampNeg)) hx hb hr (fun t ht hW => ⟨⟨P (p0.toNatClampNeg), (), rfl, rfl, by rw [ht]; exact hP, va_K.moved hW.alike hK, hD⟩, hS.F ht⟩) hS.2.2 dX0_placeAt_22

set_option maxHeartbeats 1000000 in
set_option maxRecDepth 100000 in
theorem kX0_size (l : Launch) (dC : Nat → ClassId) (dI : Nat → Nat → Nat) (oS oA oB : Nat) (cA cB : ClassId) (n h : Nat) (P : Nat → Int32) (V : Nat → Int64) (sz : Nat) (hh : h ≤ n) (hn : n ≤ 512) : Met l yX0_size wsX0_size ({ frames := 0, cells := 0, slots := 0, locals := 0 }) (va_Pc [.ref oS] (fun U => U.heap.size = sz ∧ va_P (dC, dI) vwCl [(oS, .inr (1, [.ref oA, .ref oB, .int (nI h)])), (oA, .inl (cA, n, .inl P)), (oB, .inl (cB, n, .inr (.inl V)))] U.heap ∧ va_K (dC, dI) vwCl [(cA, .int), (cB, .long)] U ∧ va_D (fun _ => True) [(oS, .inr (1, [.ref oA, .ref oB, .int (nI h)])), (oA, .inl (cA, n, .inl P)), (oB, .inl (cB, n, .inr (.inl V)))])) (va_Qi (fun (r : Int32) (_ : Unit) => r = nI h) (fun (_ : Unit) (t : State) => va_P (dC, dI) vwCl [(oS, .inr (1, [.ref oA, .ref oB, .int (nI h)])), (oA, .inl (cA, n, .inl P)), (oB, .inl (cB, n, .inr (.inl V)))] t.heap ∧ va_K (dC, dI) vwCl [(cA, .int), (cB, .long)] t ∧ va_D (va_A [(oS, .inr (1, [.ref oA, .ref oB, .int (nI h)])), (oA, .inl (cA, n, .inl P)), (oB, .inl (cB, n, .inr (.inl V)))] sz) [(oS, .inr (1, [.ref oA, .ref oB, .int (nI h)])), (oA, .inl (cA, n, .inl P)), (oB, .inl (cB, n, .inr (.inl V)))]) (va_A [(oS, .inr (1, [.ref oA, .ref oB, .int (nI h)])), (oA, .inl (cA, n, .inl P)), (oB, .inl (cB, n, .inr (.inl V)))] sz)) 0 0 (va_A [(oS, .inr (1, [.ref oA, .ref oB, .int (nI h)])), (oA, .inl (cA, n, .inl P)), (oB, .inl (cB, n, .inr (.inl V)))] sz) := by
  refine Met.ofW (cc := cX0_size) (maxL := 1) (ret := (some .int)) (by decide) rfl ?_
  intro p e s m args below meth c s₁ B hml hv
  obtain ⟨rfl, hsz, hP, hK, hD0⟩ := hv
  have hx := B.exec
  have hb := B.bytes
  have hr := B.returns
  have hts := atoms_spec (ws := wsX0_size) B.pre
  have hown : s.vm.findClass RX0 = some m.cls := findClass_of_methodNamed B.named
  have hlocks := B.notSynchronized
  subst hsz
  have hD := hD0.self (sz := s.heap.size)
  generalize hAe : va_A [(oS, .inr (1, [.ref oA, .ref oB, .int (nI h)])), (oA, .inl (cA, n, .inl P)), (oB, .inl (cB, n, .inr (.inl V)))] s.heap.size = A at hD ⊢
  have hA : ∀ q : Nat, s.heap.size ≤ q → A q := fun q h => by rw [← hAe]; exact Or.inr h
  have hS : va_S A s.heap s.heap [] := va_S.rf
  have hP : va_P (dC, dI) vwCl [(oS, .inr (1, [.ref oA, .ref oB, .int (nI h)])), (oA, .inl (cA, n, .inl P)), (oB, .inl (cB, n, .inr (.inl V)))] s.heap := hP
  have hl := lv_entry ([.ref oS]) (n := 1) (Nat.le_of_ble_eq_true rfl)
  rw [lg_entry_eq]
  generalize (lg_sl ([.ref oS]) ++ List.replicate (1 - (lg_sl ([.ref oS])).length) Slot.unset).toArray = ls at hl ⊢
  have hl : lv_has ls 1 [(0, .ref oS)] := hl
  refine W_name (fun Q hQ9 => ?_)
  refine lv_aload_n hx hb dX0_size_0 rfl (lv_at hl 0 rfl) ?_
  refine va_get (D := (dC, dI)) (ci := 1) (v := .int (nI h)) (C := RX0) (T := TX0) (N := 3) hx hb hts (by decide +kernel) hown hK hP 0 rfl rfl 2 (by decide) (hts (.fieldLink RX0 25 "RelativeFiles$Shelf" "held" "I") (by decide +kernel)) (fun _ h9 => h9) rfl dX0_size_1 ?_
  subst hQ9
  exact W.iret (v := nI h) hx hb hr (fun t ht hW => ⟨⟨nI h, (), rfl, rfl, by rw [ht]; exact hP, va_K.moved hW.alike hK, hD⟩, hS.F ht⟩) hS.2.2 dX0_size_4

set_option maxHeartbeats 1000000 in
set_option maxRecDepth 100000 in
theorem kX0_clear (l : Launch) (dC : Nat → ClassId) (dI : Nat → Nat → Nat) (oS oA oB : Nat) (cA cB : ClassId) (n h : Nat) (P : Nat → Int32) (V : Nat → Int64) (sz : Nat) (hh : h ≤ n) (hn : n ≤ 512) : Met l yX0_clear wsX0_clear ({ frames := 0, cells := 0, slots := 0, locals := 0 }) (va_Pc [.ref oS] (fun U => U.heap.size = sz ∧ va_P (dC, dI) vwCl [(oS, .inr (1, [.ref oA, .ref oB, .int (nI h)])), (oA, .inl (cA, n, .inl P)), (oB, .inl (cB, n, .inr (.inl V)))] U.heap ∧ va_K (dC, dI) vwCl [(cA, .int), (cB, .long)] U ∧ va_D (fun _ => True) [(oS, .inr (1, [.ref oA, .ref oB, .int (nI h)])), (oA, .inl (cA, n, .inl P)), (oB, .inl (cB, n, .inr (.inl V)))])) (va_Qv (fun (_ : Unit) => True) (fun (_ : Unit) (t : State) => va_P (dC, dI) vwCl [(oS, .inr (1, [.ref oA, .ref oB, .int (nI 0)])), (oA, .inl (cA, n, .inl P)), (oB, .inl (cB, n, .inr (.inl V)))] t.heap ∧ va_K (dC, dI) vwCl [(cA, .int), (cB, .long)] t ∧ va_D (va_A [(oS, .inr (1, [.ref oA, .ref oB, .int (nI h)])), (oA, .inl (cA, n, .inl P)), (oB, .inl (cB, n, .inr (.inl V)))] sz) [(oS, .inr (1, [.ref oA, .ref oB, .int (nI 0)])), (oA, .inl (cA, n, .inl P)), (oB, .inl (cB, n, .inr (.inl V)))]) (va_A [(oS, .inr (1, [.ref oA, .ref oB, .int (nI h)])), (oA, .inl (cA, n, .inl P)), (oB, .inl (cB, n, .inr (.inl V)))] sz)) 0 0 (va_A [(oS, .inr (1, [.ref oA, .ref oB, .int (nI h)])), (oA, .inl (cA, n, .inl P)), (oB, .inl (cB, n, .inr (.inl V)))] sz) := by
  refine Met.ofW (cc := cX0_clear) (maxL := 1) (ret := none) (by decide) rfl ?_
  intro p e s m args below meth c s₁ B hml hv
  obtain ⟨rfl, hsz, hP, hK, hD0⟩ := hv
  have hx := B.exec
  have hb := B.bytes
  have hr := B.returns
  have hts := atoms_spec (ws := wsX0_clear) B.pre
  have hown : s.vm.findClass RX0 = some m.cls := findClass_of_methodNamed B.named
  have hlocks := B.notSynchronized
  subst hsz
  have hD := hD0.self (sz := s.heap.size)
  generalize hAe : va_A [(oS, .inr (1, [.ref oA, .ref oB, .int (nI h)])), (oA, .inl (cA, n, .inl P)), (oB, .inl (cB, n, .inr (.inl V)))] s.heap.size = A at hD ⊢
  have hA : ∀ q : Nat, s.heap.size ≤ q → A q := fun q h => by rw [← hAe]; exact Or.inr h
  have hS : va_S A s.heap s.heap [] := va_S.rf
  have hP : va_P (dC, dI) vwCl [(oS, .inr (1, [.ref oA, .ref oB, .int (nI h)])), (oA, .inl (cA, n, .inl P)), (oB, .inl (cB, n, .inr (.inl V)))] s.heap := hP
  have hl := lv_entry ([.ref oS]) (n := 1) (Nat.le_of_ble_eq_true rfl)
  rw [lg_entry_eq]
  generalize (lg_sl ([.ref oS]) ++ List.replicate (1 - (lg_sl ([.ref oS])).length) Slot.unset).toArray = ls at hl ⊢
  have hl : lv_has ls 1 [(0, .ref oS)] := hl
  refine W_name (fun Q hQ9 => ?_)
  refine lv_aload_n hx hb dX0_clear_0 rfl (lv_at hl 0 rfl) ?_
  refine lv_iconst (v := 0) hx hb dX0_clear_1 (by decide) ?_
  refine va_put (D := (dC, dI)) (ci := 1) (v := .int 0) (ty := .int) (C := RX0) (T := TX0) (N := 3) hx hb hts (by decide +kernel) tyX0 tyX0_ok nmX0 hown hK hP hD hS 0 rfl rfl 2 (by decide) (hts (.fieldLink RX0 25 "RelativeFiles$Shelf" "held" "I") (by decide +kernel)) (fun _ h9 => h9) rfl (by decide +kernel) rfl rfl (Nat.le_of_ble_eq_true rfl) dX0_clear_2 (fun H locs hP hD hS => ?_)
  have hP : va_P (dC, dI) vwCl [(oS, .inr (1, [.ref oA, .ref oB, .int 0])), (oA, .inl (cA, n, .inl P)), (oB, .inl (cB, n, .inr (.inl V)))] H := hP
  have hD : va_D A [(oS, .inr (1, [.ref oA, .ref oB, .int 0])), (oA, .inl (cA, n, .inl P)), (oB, .inl (cB, n, .inr (.inl V)))] := hD
  subst hQ9
  exact W.vret hx hb hr (fun t ht hW => ⟨⟨(), rfl, trivial, by rw [ht]; exact hP, va_K.moved hW.alike hK, hD⟩, hS.F ht⟩) hS.2.2 dX0_clear_5

set_option maxHeartbeats 1000000 in
set_option maxRecDepth 100000 in
theorem kX0_has (l : Launch) (dC : Nat → ClassId) (dI : Nat → Nat → Nat) (oS oA oB : Nat) (cA cB : ClassId) (n h : Nat) (P : Nat → Int32) (V : Nat → Int64) (p0 : Int32) (sz : Nat) (hh : h ≤ n) (hn : n ≤ 512) : Met l yX0_has wsX0_has ({ frames := 1, cells := 0, slots := 0, locals := 22 }) (va_Pc [.ref oS, .int p0] (fun U => U.heap.size = sz ∧ va_P (dC, dI) vwCl [(oS, .inr (1, [.ref oA, .ref oB, .int (nI h)])), (oA, .inl (cA, n, .inl P)), (oB, .inl (cB, n, .inr (.inl V)))] U.heap ∧ va_K (dC, dI) vwCl [(cA, .int), (cB, .long)] U ∧ va_D (fun _ => True) [(oS, .inr (1, [.ref oA, .ref oB, .int (nI h)])), (oA, .inl (cA, n, .inl P)), (oB, .inl (cB, n, .inr (.inl V)))])) (va_Qi (fun (r : Int32) (_ : Unit) => (hasS P h p0 ∧ r = 1) ∨ (¬ (hasS P h p0) ∧ r = 0)) (fun (_ : Unit) (t : State) => va_P (dC, dI) vwCl [(oS, .inr (1, [.ref oA, .ref oB, .int (nI h)])), (oA, .inl (cA, n, .inl P)), (oB, .inl (cB, n, .inr (.inl V)))] t.heap ∧ va_K (dC, dI) vwCl [(cA, .int), (cB, .long)] t ∧ va_D (va_A [(oS, .inr (1, [.ref oA, .ref oB, .int (nI h)])), (oA, .inl (cA, n, .inl P)), (oB, .inl (cB, n, .inr (.inl V)))] sz) [(oS, .inr (1, [.ref oA, .ref oB, .int (nI h)])), (oA, .inl (cA, n, .inl P)), (oB, .inl (cB, n, .inr (.inl V)))]) (va_A [(oS, .inr (1, [.ref oA, .ref oB, .int (nI h)])), (oA, .inl (cA, n, .inl P)), (oB, .inl (cB, n, .inr (.inl V)))] sz)) 0 0 (va_A [(oS, .inr (1, [.ref oA, .ref oB, .int (nI h)])), (oA, .inl (cA, n, .inl P)), (oB, .inl (cB, n, .inr (.inl V)))] sz) := by
  refine Met.ofW (cc := cX0_has) (maxL := 2) (ret := (some .boolean)) (by decide) rfl ?_
  intro p e s m args below meth c s₁ B hml hv
  obtain ⟨rfl, hsz, hP, hK, hD0⟩ := hv
  have hx := B.exec
  have hb := B.bytes
  have hr := B.returns
  have hts := atoms_spec (ws := wsX0_has) B.pre
  have hown : s.vm.findClass RX0 = some m.cls := findClass_of_methodNamed B.named
  have hlocks := B.notSynchronized
  subst hsz
  have hD := hD0.self (sz := s.heap.size)
  generalize hAe : va_A [(oS, .inr (1, [.ref oA, .ref oB, .int (nI h)])), (oA, .inl (cA, n, .inl P)), (oB, .inl (cB, n, .inr (.inl V)))] s.heap.size = A at hD ⊢
  have hA : ∀ q : Nat, s.heap.size ≤ q → A q := fun q h => by rw [← hAe]; exact Or.inr h
  have hS : va_S A s.heap s.heap [] := va_S.rf
  have hP : va_P (dC, dI) vwCl [(oS, .inr (1, [.ref oA, .ref oB, .int (nI h)])), (oA, .inl (cA, n, .inl P)), (oB, .inl (cB, n, .inr (.inl V)))] s.heap := hP
  have hl := lv_entry ([.ref oS, .int p0]) (n := 2) (Nat.le_of_ble_eq_true rfl)
  rw [lg_entry_eq]
  generalize (lg_sl ([.ref oS, .int p0]) ++ List.replicate (2 - (lg_sl ([.ref oS, .int p0])).length) Slot.unset).toArray = ls at hl ⊢
  have hl : lv_has ls 2 [(0, .ref oS), (1, .int p0)] := hl
  refine W_name (fun Q hQ9 => ?_)
  refine lv_aload_n hx hb dX0_has_0 rfl (lv_at hl 0 rfl) ?_
  refine lv_aload_n hx hb dX0_has_1 rfl (lv_at hl 0 rfl) ?_
  refine lv_iload_n hx hb dX0_has_2 rfl (lv_at hl 1 rfl) ?_
  have hPc := hP.sub (ws' := [(oS, .inr (1, [.ref oA, .ref oB, .int (nI h)])), (oA, .inl (cA, n, .inl P)), (oB, .inl (cB, n, .inr (.inl V)))]) [0, 1, 2] rfl
  have hDc := hD.sub (ws' := [(oS, .inr (1, [.ref oA, .ref oB, .int (nI h)])), (oA, .inl (cA, n, .inl P)), (oB, .inl (cB, n, .inr (.inl V)))]) [0, 1, 2] (by decide) rfl
  have hKc := hK.sub (tys' := [(cA, .int), (cB, .long)]) [0, 1] rfl
  have hFc := va_free (wc := [(oS, .inr (1, [.ref oA, .ref oB, .int (nI h)])), (oA, .inl (cA, n, .inl P)), (oB, .inl (cB, n, .inr (.inl V)))]) hD hS hA [0, 1, 2] rfl
  refine va_calli (va_runV (As := [.int p0]) (rest := [.ref oS]) ⟨hx, hb, hml, hown, hts⟩ (kX0_rank l dC dI oS oA oB cA cB n h P V p0 s.heap.size hh hn) (cwV 1 hts gX0_has_X0_rank rfl rfl rfl (by decide +kernel) ⟨Nat.le_of_ble_eq_true rfl, Nat.le_of_ble_eq_true rfl⟩) ⟨fun a U g mk q => by obtain ⟨q0, q1, qP, qK, qD⟩ := q; exact ⟨q0, q1, qP, va_K.moved (u := U) (U := U.calling g mk a) (Vm.Alike.refl U.vm) qK, qD⟩, va_recv hKc hPc (ci := 1) (q0 := 0) rfl rfl, fun U hU hW => ⟨rfl, by rw [hU], by rw [hU]; exact hPc, va_K.moved hW.alike hKc, hDc.weaken (fun _ _ _ _ => trivial)⟩⟩ rfl rfl hl.1 rfl (lv_room (Nat.le_of_ble_eq_true rfl)) dX0_has_3 ⟨Nat.le_of_ble_eq_true rfl, Nat.le_of_ble_eq_true rfl⟩) hS (fun q _ h => hFc q h) hFc (fun r_1 u t H1 locs ht hvm hw hB hz1 hk1 hS => ?_)
  obtain ⟨hP1, hK1, hD1⟩ := hB
  rw [ht] at hP1
  have hK1 := va_K.moved hvm.symm hK1
  try dsimp only at hw
  obtain ⟨hP, hD⟩ := va_join (wr := []) (w1 := [(oS, .inr (1, [.ref oA, .ref oB, .int (nI h)])), (oA, .inl (cA, n, .inl P)), (oB, .inl (cB, n, .inr (.inl V)))]) hP hD [0, 1, 2] [] rfl rfl (by decide) (by decide) hk1 hFc hP1 hD1
  generalize H1 = H at hP hS ⊢
  have hP : va_P (dC, dI) vwCl [(oS, .inr (1, [.ref oA, .ref oB, .int (nI h)])), (oA, .inl (cA, n, .inl P)), (oB, .inl (cB, n, .inr (.inl V)))] H := hP.sub [0, 1, 2] rfl
  have hD : va_D A [(oS, .inr (1, [.ref oA, .ref oB, .int (nI h)])), (oA, .inl (cA, n, .inl P)), (oB, .inl (cB, n, .inr (.inl V)))] := hD.sub [0, 1, 2] (by decide) rfl
  have hK : va_K (dC, dI) vwCl [(cA, .int), (cB, .long)] s := hK
  subst hw
  refine lv_iload_n hx hb dX0_has_6 rfl (lv_at hl 1 rfl) ?_
  have hPc := hP.sub (ws' := [(oS, .inr (1, [.ref oA, .ref oB, .int (nI h)])), (oA, .inl (cA, n, .inl P)), (oB, .inl (cB, n, .inr (.inl V)))]) [0, 1, 2] rfl
  have hDc := hD.sub (ws' := [(oS, .inr (1, [.ref oA, .ref oB, .int (nI h)])), (oA, .inl (cA, n, .inl P)), (oB, .inl (cB, n, .inr (.inl V)))]) [0, 1, 2] (by decide) rfl
  have hKc := hK.sub (tys' := [(cA, .int), (cB, .long)]) [0, 1] rfl
  have hFc := va_free (wc := [(oS, .inr (1, [.ref oA, .ref oB, .int (nI h)])), (oA, .inl (cA, n, .inl P)), (oB, .inl (cB, n, .inr (.inl V)))]) hD hS hA [0, 1, 2] rfl
  refine va_calli (va_runV (As := [.int (nI (rk P p0 h)), .int p0]) (rest := []) ⟨hx, hb, hml, hown, hts⟩ (kX0_isAt l dC dI oS oA oB cA cB n h P V (rk P p0 h) p0 H.size hh hn (by first | omega | exact rk_le _ _ _)) (cwV 2 hts gX0_has_X0_isAt rfl rfl rfl (by decide +kernel) ⟨Nat.le_of_ble_eq_true rfl, Nat.le_of_ble_eq_true rfl⟩) ⟨fun a U g mk q => by obtain ⟨q0, q1, qP, qK, qD⟩ := q; exact ⟨q0, q1, qP, va_K.moved (u := U) (U := U.calling g mk a) (Vm.Alike.refl U.vm) qK, qD⟩, va_recv hKc hPc (ci := 1) (q0 := 0) rfl rfl, fun U hU hW => ⟨rfl, by rw [hU], by rw [hU]; exact hPc, va_K.moved hW.alike hKc, hDc.weaken (fun _ _ _ _ => trivial)⟩⟩ rfl rfl hl.1 rfl (lv_room (Nat.le_of_ble_eq_true rfl)) dX0_has_7 ⟨Nat.le_of_ble_eq_true rfl, Nat.le_of_ble_eq_true rfl⟩) hS (fun q _ h => hFc q h) hFc (fun r_2 u t H1 locs ht hvm hw hB hz1 hk1 hS => ?_)
  obtain ⟨hP1, hK1, hD1⟩ := hB
  rw [ht] at hP1
  have hK1 := va_K.moved hvm.symm hK1
  try dsimp only at hw
  obtain ⟨hP, hD⟩ := va_join (wr := []) (w1 := [(oS, .inr (1, [.ref oA, .ref oB, .int (nI h)])), (oA, .inl (cA, n, .inl P)), (oB, .inl (cB, n, .inr (.inl V)))]) hP hD [0, 1, 2] [] rfl rfl (by decide) (by decide) hk1 hFc hP1 hD1
  generalize H1 = H at hP hS ⊢
  have hP : va_P (dC, dI) vwCl [(oS, .inr (1, [.ref oA, .ref oB, .int (nI h)])), (oA, .inl (cA, n, .inl P)), (oB, .inl (cB, n, .inr (.inl V)))] H := hP.sub [0, 1, 2] rfl
  have hD : va_D A [(oS, .inr (1, [.ref oA, .ref oB, .int (nI h)])), (oA, .inl (cA, n, .inl P)), (oB, .inl (cB, n, .inr (.inl V)))] := hD.sub [0, 1, 2] (by decide) rfl
  have hK : va_K (dC, dI) vwCl [(cA, .int), (cB, .long)] s := hK
  rcases hw with ⟨b_3, hw⟩ | ⟨b_3, hw⟩
  · -- (rk P p0 h) < h ∧ P (rk P p0 h) = p0
    subst hw
    subst hQ9
    exact W.zret (ty := .boolean) (v := 1) hx hb hr (by decide) (fun t ht hW => ⟨⟨1, (), rfl, Or.inl ⟨b_3, rfl⟩, by rw [ht]; exact hP, va_K.moved hW.alike hK, hD⟩, hS.F ht⟩) hS.2.2 dX0_has_10
  · -- ¬ ((rk P p0 h) < h ∧ P (rk P p0 h) = p0)
    subst hw
    subst hQ9
    exact W.zret (ty := .boolean) (v := 0) hx hb hr (by decide) (fun t ht hW => ⟨⟨0, (), rfl, Or.inr ⟨b_3, rfl⟩, by rw [ht]; exact hP, va_K.moved hW.alike hK, hD⟩, hS.F ht⟩) hS.2.2 dX0_has_10

set_option maxHeartbeats 1000000 in
set_option maxRecDepth 100000 in
theorem kX0_recordOf (l : Launch) (dC : Nat → ClassId) (dI : Nat → Nat → Nat) (oS oA oB : Nat) (cA cB : ClassId) (n h : Nat) (P : Nat → Int32) (V : Nat → Int64) (p0 : Int32) (sz : Nat) (hh : h ≤ n) (hn : n ≤ 512) : Met l yX0_recordOf wsX0_recordOf ({ frames := 1, cells := 0, slots := 0, locals := 22 }) (va_Pc [.ref oS, .int p0] (fun U => U.heap.size = sz ∧ va_P (dC, dI) vwCl [(oS, .inr (1, [.ref oA, .ref oB, .int (nI h)])), (oA, .inl (cA, n, .inl P)), (oB, .inl (cB, n, .inr (.inl V)))] U.heap ∧ va_K (dC, dI) vwCl [(cA, .int), (cB, .long)] U ∧ va_D (fun _ => True) [(oS, .inr (1, [.ref oA, .ref oB, .int (nI h)])), (oA, .inl (cA, n, .inl P)), (oB, .inl (cB, n, .inr (.inl V)))])) (va_Ql (fun (r : Int64) (_ : Unit) => r = fRec P V h p0) (fun (_ : Unit) (t : State) => va_P (dC, dI) vwCl [(oS, .inr (1, [.ref oA, .ref oB, .int (nI h)])), (oA, .inl (cA, n, .inl P)), (oB, .inl (cB, n, .inr (.inl V)))] t.heap ∧ va_K (dC, dI) vwCl [(cA, .int), (cB, .long)] t ∧ va_D (va_A [(oS, .inr (1, [.ref oA, .ref oB, .int (nI h)])), (oA, .inl (cA, n, .inl P)), (oB, .inl (cB, n, .inr (.inl V)))] sz) [(oS, .inr (1, [.ref oA, .ref oB, .int (nI h)])), (oA, .inl (cA, n, .inl P)), (oB, .inl (cB, n, .inr (.inl V)))]) (va_A [(oS, .inr (1, [.ref oA, .ref oB, .int (nI h)])), (oA, .inl (cA, n, .inl P)), (oB, .inl (cB, n, .inr (.inl V)))] sz)) 0 0 (va_A [(oS, .inr (1, [.ref oA, .ref oB, .int (nI h)])), (oA, .inl (cA, n, .inl P)), (oB, .inl (cB, n, .inr (.inl V)))] sz) := by
  refine Met.ofW (cc := cX0_recordOf) (maxL := 3) (ret := (some .long)) (by decide) rfl ?_
  intro p e s m args below meth c s₁ B hml hv
  obtain ⟨rfl, hsz, hP, hK, hD0⟩ := hv
  have hx := B.exec
  have hb := B.bytes
  have hr := B.returns
  have hts := atoms_spec (ws := wsX0_recordOf) B.pre
  have hown : s.vm.findClass RX0 = some m.cls := findClass_of_methodNamed B.named
  have hlocks := B.notSynchronized
  subst hsz
  have hD := hD0.self (sz := s.heap.size)
  generalize hAe : va_A [(oS, .inr (1, [.ref oA, .ref oB, .int (nI h)])), (oA, .inl (cA, n, .inl P)), (oB, .inl (cB, n, .inr (.inl V)))] s.heap.size = A at hD ⊢
  have hA : ∀ q : Nat, s.heap.size ≤ q → A q := fun q h => by rw [← hAe]; exact Or.inr h
  have hS : va_S A s.heap s.heap [] := va_S.rf
  have hP : va_P (dC, dI) vwCl [(oS, .inr (1, [.ref oA, .ref oB, .int (nI h)])), (oA, .inl (cA, n, .inl P)), (oB, .inl (cB, n, .inr (.inl V)))] s.heap := hP
  have hl := lv_entry ([.ref oS, .int p0]) (n := 3) (Nat.le_of_ble_eq_true rfl)
  rw [lg_entry_eq]
  generalize (lg_sl ([.ref oS, .int p0]) ++ List.replicate (3 - (lg_sl ([.ref oS, .int p0])).length) Slot.unset).toArray = ls at hl ⊢
  have hl : lv_has ls 3 [(0, .ref oS), (1, .int p0)] := hl
  refine W_name (fun Q hQ9 => ?_)
  refine lv_aload_n hx hb dX0_recordOf_0 rfl (lv_at hl 0 rfl) ?_
  refine lv_iload_n hx hb dX0_recordOf_1 rfl (lv_at hl 1 rfl) ?_
  have hPc := hP.sub (ws' := [(oS, .inr (1, [.ref oA, .ref oB, .int (nI h)])), (oA, .inl (cA, n, .inl P)), (oB, .inl (cB, n, .inr (.inl V)))]) [0, 1, 2] rfl
  have hDc := hD.sub (ws' := [(oS, .inr (1, [.ref oA, .ref oB, .int (nI h)])), (oA, .inl (cA, n, .inl P)), (oB, .inl (cB, n, .inr (.inl V)))]) [0, 1, 2] (by decide) rfl
  have hKc := hK.sub (tys' := [(cA, .int), (cB, .long)]) [0, 1] rfl
  have hFc := va_free (wc := [(oS, .inr (1, [.ref oA, .ref oB, .int (nI h)])), (oA, .inl (cA, n, .inl P)), (oB, .inl (cB, n, .inr (.inl V)))]) hD hS hA [0, 1, 2] rfl
  refine va_calli (va_runV (As := [.int p0]) (rest := []) ⟨hx, hb, hml, hown, hts⟩ (kX0_rank l dC dI oS oA oB cA cB n h P V p0 s.heap.size hh hn) (cwV 1 hts gX0_recordOf_X0_rank rfl rfl rfl (by decide +kernel) ⟨Nat.le_of_ble_eq_true rfl, Nat.le_of_ble_eq_true rfl⟩) ⟨fun a U g mk q => by obtain ⟨q0, q1, qP, qK, qD⟩ := q; exact ⟨q0, q1, qP, va_K.moved (u := U) (U := U.calling g mk a) (Vm.Alike.refl U.vm) qK, qD⟩, va_recv hKc hPc (ci := 1) (q0 := 0) rfl rfl, fun U hU hW => ⟨rfl, by rw [hU], by rw [hU]; exact hPc, va_K.moved hW.alike hKc, hDc.weaken (fun _ _ _ _ => trivial)⟩⟩ rfl rfl hl.1 rfl (lv_room (Nat.le_of_ble_eq_true rfl)) dX0_recordOf_2 ⟨Nat.le_of_ble_eq_true rfl, Nat.le_of_ble_eq_true rfl⟩) hS (fun q _ h => hFc q h) hFc (fun r_1 u t H1 locs ht hvm hw hB hz1 hk1 hS => ?_)
  obtain ⟨hP1, hK1, hD1⟩ := hB
  rw [ht] at hP1
  have hK1 := va_K.moved hvm.symm hK1
  try dsimp only at hw
  obtain ⟨hP, hD⟩ := va_join (wr := []) (w1 := [(oS, .inr (1, [.ref oA, .ref oB, .int (nI h)])), (oA, .inl (cA, n, .inl P)), (oB, .inl (cB, n, .inr (.inl V)))]) hP hD [0, 1, 2] [] rfl rfl (by decide) (by decide) hk1 hFc hP1 hD1
  generalize H1 = H at hP hS ⊢
  have hP : va_P (dC, dI) vwCl [(oS, .inr (1, [.ref oA, .ref oB, .int (nI h)])), (oA, .inl (cA, n, .inl P)), (oB, .inl (cB, n, .inr (.inl V)))] H := hP.sub [0, 1, 2] rfl
  have hD : va_D A [(oS, .inr (1, [.ref oA, .ref oB, .int (nI h)])), (oA, .inl (cA, n, .inl P)), (oB, .inl (cB, n, .inr (.inl V)))] := hD.sub [0, 1, 2] (by decide) rfl
  have hK : va_K (dC, dI) vwCl [(cA, .int), (cB, .long)] s := hK
  subst hw
  refine lv_istore_n (lv' := [(2, .int (nI (rk P p0 h))), (0, .ref oS), (1, .int p0)]) hx hb dX0_recordOf_5 rfl hl (by decide) rfl (fun ls hl => ?_)
  refine lv_aload_n hx hb dX0_recordOf_6 rfl (lv_at hl 1 rfl) ?_
  refine lv_iload_n hx hb dX0_recordOf_7 rfl (lv_at hl 0 rfl) ?_
  refine lv_iload_n hx hb dX0_recordOf_8 rfl (lv_at hl 2 rfl) ?_
  have hPc := hP.sub (ws' := [(oS, .inr (1, [.ref oA, .ref oB, .int (nI h)])), (oA, .inl (cA, n, .inl P)), (oB, .inl (cB, n, .inr (.inl V)))]) [0, 1, 2] rfl
  have hDc := hD.sub (ws' := [(oS, .inr (1, [.ref oA, .ref oB, .int (nI h)])), (oA, .inl (cA, n, .inl P)), (oB, .inl (cB, n, .inr (.inl V)))]) [0, 1, 2] (by decide) rfl
  have hKc := hK.sub (tys' := [(cA, .int), (cB, .long)]) [0, 1] rfl
  have hFc := va_free (wc := [(oS, .inr (1, [.ref oA, .ref oB, .int (nI h)])), (oA, .inl (cA, n, .inl P)), (oB, .inl (cB, n, .inr (.inl V)))]) hD hS hA [0, 1, 2] rfl
  refine va_calli (va_runV (As := [.int (nI (rk P p0 h)), .int p0]) (rest := []) ⟨hx, hb, hml, hown, hts⟩ (kX0_isAt l dC dI oS oA oB cA cB n h P V (rk P p0 h) p0 H.size hh hn (by first | omega | exact rk_le _ _ _)) (cwV 2 hts gX0_recordOf_X0_isAt rfl rfl rfl (by decide +kernel) ⟨Nat.le_of_ble_eq_true rfl, Nat.le_of_ble_eq_true rfl⟩) ⟨fun a U g mk q => by obtain ⟨q0, q1, qP, qK, qD⟩ := q; exact ⟨q0, q1, qP, va_K.moved (u := U) (U := U.calling g mk a) (Vm.Alike.refl U.vm) qK, qD⟩, va_recv hKc hPc (ci := 1) (q0 := 0) rfl rfl, fun U hU hW => ⟨rfl, by rw [hU], by rw [hU]; exact hPc, va_K.moved hW.alike hKc, hDc.weaken (fun _ _ _ _ => trivial)⟩⟩ rfl rfl hl.1 rfl (lv_room (Nat.le_of_ble_eq_true rfl)) dX0_recordOf_9 ⟨Nat.le_of_ble_eq_true rfl, Nat.le_of_ble_eq_true rfl⟩) hS (fun q _ h => hFc q h) hFc (fun r_2 u t H1 locs ht hvm hw hB hz1 hk1 hS => ?_)
  obtain ⟨hP1, hK1, hD1⟩ := hB
  rw [ht] at hP1
  have hK1 := va_K.moved hvm.symm hK1
  try dsimp only at hw
  obtain ⟨hP, hD⟩ := va_join (wr := []) (w1 := [(oS, .inr (1, [.ref oA, .ref oB, .int (nI h)])), (oA, .inl (cA, n, .inl P)), (oB, .inl (cB, n, .inr (.inl V)))]) hP hD [0, 1, 2] [] rfl rfl (by decide) (by decide) hk1 hFc hP1 hD1
  generalize H1 = H at hP hS ⊢
  have hP : va_P (dC, dI) vwCl [(oS, .inr (1, [.ref oA, .ref oB, .int (nI h)])), (oA, .inl (cA, n, .inl P)), (oB, .inl (cB, n, .inr (.inl V)))] H := hP.sub [0, 1, 2] rfl
  have hD : va_D A [(oS, .inr (1, [.ref oA, .ref oB, .int (nI h)])), (oA, .inl (cA, n, .inl P)), (oB, .inl (cB, n, .inr (.inl V)))] := hD.sub [0, 1, 2] (by decide) rfl
  have hK : va_K (dC, dI) vwCl [(cA, .int), (cB, .long)] s := hK
  rcases hw with ⟨b_3, hw⟩ | ⟨b_3, hw⟩
  · -- (rk P p0 h) < h ∧ P (rk P p0 h) = p0
    subst hw
    refine lv_if_eq (tgt := 24) hx hb dX0_recordOf_12 (by decide) (fun c_4 => ?_) (fun c_4 => ?_)
    · -- taken at 12: 1 = 0
      exact absurd c_4 (by decide)
    · -- not taken at 12: ¬ 1 = 0
      refine lv_aload_n hx hb dX0_recordOf_15 rfl (lv_at hl 1 rfl) ?_
      refine va_get (D := (dC, dI)) (ci := 1) (v := .ref oB) (C := RX0) (T := TX0) (N := 3) hx hb hts (by decide +kernel) hown hK hP 0 rfl rfl 1 (by decide) (hts (.fieldLink RX0 21 "RelativeFiles$Shelf" "values" "[J") (by decide +kernel)) (fun _ h9 => h9) rfl dX0_recordOf_16 ?_
      refine lv_iload_n hx hb dX0_recordOf_19 rfl (lv_at hl 0 rfl) ?_
      refine va_lald hx hb hK hP 2 1 rfl rfl (vp_in_nI (by have := b_3.1; omega) (by omega)) dX0_recordOf_20 ?_
      rw [show V ((nI (rk P p0 h)).toNatClampNeg) = V (rk P p0 h) from by rw [nI_clamp (by have := rk_le P p0 h; omega)]]
      refine lv_goto (tgt := 25) hx hb dX0_recordOf_21 (by decide) ?_
      subst hQ9
      have e9 : fRec P V h p0 = V (rk P p0 h) := by simp only [fRec, if_pos b_3]
      rw [e9]
      exact W.lret (v := V (rk P p0 h)) hx hb hr (fun t ht hW => ⟨⟨V (rk P p0 h), (), rfl, rfl, by rw [ht]; exact hP, va_K.moved hW.alike hK, hD⟩, hS.F ht⟩) hS.2.2 dX0_recordOf_25
  · -- ¬ ((rk P p0 h) < h ∧ P (rk P p0 h) = p0)
    subst hw
    refine lv_if_eq (tgt := 24) hx hb dX0_recordOf_12 (by decide) (fun c_5 => ?_) (fun c_5 => ?_)
    · -- taken at 12: 0 = 0
      refine lv_lconst (v := 0) hx hb dX0_recordOf_24 (by decide) ?_
      subst hQ9
      have e9 : fRec P V h p0 = 0 := by simp only [fRec, if_neg b_3]
      rw [e9]
      exact W.lret (v := 0) hx hb hr (fun t ht hW => ⟨⟨0, (), rfl, rfl, by rw [ht]; exact hP, va_K.moved hW.alike hK, hD⟩, hS.F ht⟩) hS.2.2 dX0_recordOf_25
    · -- not taken at 12: ¬ 0 = 0
      exact absurd c_5 (by decide)

set_option maxHeartbeats 1000000 in
set_option maxRecDepth 100000 in
theorem kX0_least (l : Launch) (dC : Nat → ClassId) (dI : Nat → Nat → Nat) (oS oA oB : Nat) (cA cB : ClassId) (n h : Nat) (P : Nat → Int32) (V : Nat → Int64) (sz : Nat) (hh : h ≤ n) (hn : n ≤ 512) : Met l yX0_least wsX0_least ({ frames := 1, cells := 0, slots := 0, locals := 21 }) (va_Pc [.ref oS] (fun U => U.heap.size = sz ∧ va_P (dC, dI) vwCl [(oS, .inr (1, [.ref oA, .ref oB, .int (nI h)])), (oA, .inl (cA, n, .inl P)), (oB, .inl (cB, n, .inr (.inl V)))] U.heap ∧ va_K (dC, dI) vwCl [(cA, .int), (cB, .long)] U ∧ va_D (fun _ => True) [(oS, .inr (1, [.ref oA, .ref oB, .int (nI h)])), (oA, .inl (cA, n, .inl P)), (oB, .inl (cB, n, .inr (.inl V)))])) (va_Qi (fun (r : Int32) (_ : Unit) => r = fLe P h) (fun (_ : Unit) (t : State) => va_P (dC, dI) vwCl [(oS, .inr (1, [.ref oA, .ref oB, .int (nI h)])), (oA, .inl (cA, n, .inl P)), (oB, .inl (cB, n, .inr (.inl V)))] t.heap ∧ va_K (dC, dI) vwCl [(cA, .int), (cB, .long)] t ∧ va_D (va_A [(oS, .inr (1, [.ref oA, .ref oB, .int (nI h)])), (oA, .inl (cA, n, .inl P)), (oB, .inl (cB, n, .inr (.inl V)))] sz) [(oS, .inr (1, [.ref oA, .ref oB, .int (nI h)])), (oA, .inl (cA, n, .inl P)), (oB, .inl (cB, n, .inr (.inl V)))]) (va_A [(oS, .inr (1, [.ref oA, .ref oB, .int (nI h)])), (oA, .inl (cA, n, .inl P)), (oB, .inl (cB, n, .inr (.inl V)))] sz)) 0 0 (va_A [(oS, .inr (1, [.ref oA, .ref oB, .int (nI h)])), (oA, .inl (cA, n, .inl P)), (oB, .inl (cB, n, .inr (.inl V)))] sz) := by
  refine Met.ofW (cc := cX0_least) (maxL := 1) (ret := (some .int)) (by decide) rfl ?_
  intro p e s m args below meth c s₁ B hml hv
  obtain ⟨rfl, hsz, hP, hK, hD0⟩ := hv
  have hx := B.exec
  have hb := B.bytes
  have hr := B.returns
  have hts := atoms_spec (ws := wsX0_least) B.pre
  have hown : s.vm.findClass RX0 = some m.cls := findClass_of_methodNamed B.named
  have hlocks := B.notSynchronized
  subst hsz
  have hD := hD0.self (sz := s.heap.size)
  generalize hAe : va_A [(oS, .inr (1, [.ref oA, .ref oB, .int (nI h)])), (oA, .inl (cA, n, .inl P)), (oB, .inl (cB, n, .inr (.inl V)))] s.heap.size = A at hD ⊢
  have hA : ∀ q : Nat, s.heap.size ≤ q → A q := fun q h => by rw [← hAe]; exact Or.inr h
  have hS : va_S A s.heap s.heap [] := va_S.rf
  have hP : va_P (dC, dI) vwCl [(oS, .inr (1, [.ref oA, .ref oB, .int (nI h)])), (oA, .inl (cA, n, .inl P)), (oB, .inl (cB, n, .inr (.inl V)))] s.heap := hP
  have hl := lv_entry ([.ref oS]) (n := 1) (Nat.le_of_ble_eq_true rfl)
  rw [lg_entry_eq]
  generalize (lg_sl ([.ref oS]) ++ List.replicate (1 - (lg_sl ([.ref oS])).length) Slot.unset).toArray = ls at hl ⊢
  have hl : lv_has ls 1 [(0, .ref oS)] := hl
  refine W_name (fun Q hQ9 => ?_)
  refine lv_aload_n hx hb dX0_least_0 rfl (lv_at hl 0 rfl) ?_
  refine lv_iconst (v := 0) hx hb dX0_least_1 (by decide) ?_
  have hPc := hP.sub (ws' := [(oS, .inr (1, [.ref oA, .ref oB, .int (nI h)])), (oA, .inl (cA, n, .inl P)), (oB, .inl (cB, n, .inr (.inl V)))]) [0, 1, 2] rfl
  have hDc := hD.sub (ws' := [(oS, .inr (1, [.ref oA, .ref oB, .int (nI h)])), (oA, .inl (cA, n, .inl P)), (oB, .inl (cB, n, .inr (.inl V)))]) [0, 1, 2] (by decide) rfl
  have hKc := hK.sub (tys' := [(cA, .int), (cB, .long)]) [0, 1] rfl
  have hFc := va_free (wc := [(oS, .inr (1, [.ref oA, .ref oB, .int (nI h)])), (oA, .inl (cA, n, .inl P)), (oB, .inl (cB, n, .inr (.inl V)))]) hD hS hA [0, 1, 2] rfl
  refine va_calli (va_runV (As := [.int 0]) (rest := []) ⟨hx, hb, hml, hown, hts⟩ (kX0_placeAt l dC dI oS oA oB cA cB n h P V 0 s.heap.size hh hn) (cwV 1 hts gX0_least_X0_placeAt rfl rfl rfl (by decide +kernel) ⟨Nat.le_of_ble_eq_true rfl, Nat.le_of_ble_eq_true rfl⟩) ⟨fun a U g mk q => by obtain ⟨q0, q1, qP, qK, qD⟩ := q; exact ⟨q0, q1, qP, va_K.moved (u := U) (U := U.calling g mk a) (Vm.Alike.refl U.vm) qK, qD⟩, va_recv hKc hPc (ci := 1) (q0 := 0) rfl rfl, fun U hU hW => ⟨rfl, by rw [hU], by rw [hU]; exact hPc, va_K.moved hW.alike hKc, hDc.weaken (fun _ _ _ _ => trivial)⟩⟩ rfl rfl hl.1 rfl (lv_room (Nat.le_of_ble_eq_true rfl)) dX0_least_2 ⟨Nat.le_of_ble_eq_true rfl, Nat.le_of_ble_eq_true rfl⟩) hS (fun q _ h => hFc q h) hFc (fun r_1 u t H1 locs ht hvm hw hB hz1 hk1 hS => ?_)
  obtain ⟨hP1, hK1, hD1⟩ := hB
  rw [ht] at hP1
  have hK1 := va_K.moved hvm.symm hK1
  try dsimp only at hw
  obtain ⟨hP, hD⟩ := va_join (wr := []) (w1 := [(oS, .inr (1, [.ref oA, .ref oB, .int (nI h)])), (oA, .inl (cA, n, .inl P)), (oB, .inl (cB, n, .inr (.inl V)))]) hP hD [0, 1, 2] [] rfl rfl (by decide) (by decide) hk1 hFc hP1 hD1
  generalize H1 = H at hP hS ⊢
  have hP : va_P (dC, dI) vwCl [(oS, .inr (1, [.ref oA, .ref oB, .int (nI h)])), (oA, .inl (cA, n, .inl P)), (oB, .inl (cB, n, .inr (.inl V)))] H := hP.sub [0, 1, 2] rfl
  have hD : va_D A [(oS, .inr (1, [.ref oA, .ref oB, .int (nI h)])), (oA, .inl (cA, n, .inl P)), (oB, .inl (cB, n, .inr (.inl V)))] := hD.sub [0, 1, 2] (by decide) rfl
  have hK : va_K (dC, dI) vwCl [(cA, .int), (cB, .long)] s := hK
  subst hw
  subst hQ9
  have e9 : pAt P h 0 = fLe P h := pAt_nI P (i := 0) (by omega) (by omega)
  exact W.iret (v := pAt P h 0) hx hb hr (fun t ht hW => ⟨⟨pAt P h 0, (), rfl, e9, by rw [ht]; exact hP, va_K.moved hW.alike hK, hD⟩, hS.F ht⟩) hS.2.2 dX0_least_5

set_option maxHeartbeats 1000000 in
set_option maxRecDepth 100000 in
theorem kX0_greatest (l : Launch) (dC : Nat → ClassId) (dI : Nat → Nat → Nat) (oS oA oB : Nat) (cA cB : ClassId) (n h : Nat) (P : Nat → Int32) (V : Nat → Int64) (sz : Nat) (hh : h ≤ n) (hn : n ≤ 512) : Met l yX0_greatest wsX0_greatest ({ frames := 1, cells := 0, slots := 0, locals := 21 }) (va_Pc [.ref oS] (fun U => U.heap.size = sz ∧ va_P (dC, dI) vwCl [(oS, .inr (1, [.ref oA, .ref oB, .int (nI h)])), (oA, .inl (cA, n, .inl P)), (oB, .inl (cB, n, .inr (.inl V)))] U.heap ∧ va_K (dC, dI) vwCl [(cA, .int), (cB, .long)] U ∧ va_D (fun _ => True) [(oS, .inr (1, [.ref oA, .ref oB, .int (nI h)])), (oA, .inl (cA, n, .inl P)), (oB, .inl (cB, n, .inr (.inl V)))])) (va_Qi (fun (r : Int32) (_ : Unit) => r = fGr P h) (fun (_ : Unit) (t : State) => va_P (dC, dI) vwCl [(oS, .inr (1, [.ref oA, .ref oB, .int (nI h)])), (oA, .inl (cA, n, .inl P)), (oB, .inl (cB, n, .inr (.inl V)))] t.heap ∧ va_K (dC, dI) vwCl [(cA, .int), (cB, .long)] t ∧ va_D (va_A [(oS, .inr (1, [.ref oA, .ref oB, .int (nI h)])), (oA, .inl (cA, n, .inl P)), (oB, .inl (cB, n, .inr (.inl V)))] sz) [(oS, .inr (1, [.ref oA, .ref oB, .int (nI h)])), (oA, .inl (cA, n, .inl P)), (oB, .inl (cB, n, .inr (.inl V)))]) (va_A [(oS, .inr (1, [.ref oA, .ref oB, .int (nI h)])), (oA, .inl (cA, n, .inl P)), (oB, .inl (cB, n, .inr (.inl V)))] sz)) 0 0 (va_A [(oS, .inr (1, [.ref oA, .ref oB, .int (nI h)])), (oA, .inl (cA, n, .inl P)), (oB, .inl (cB, n, .inr (.inl V)))] sz) := by
  refine Met.ofW (cc := cX0_greatest) (maxL := 1) (ret := (some .int)) (by decide) rfl ?_
  intro p e s m args below meth c s₁ B hml hv
  obtain ⟨rfl, hsz, hP, hK, hD0⟩ := hv
  have hx := B.exec
  have hb := B.bytes
  have hr := B.returns
  have hts := atoms_spec (ws := wsX0_greatest) B.pre
  have hown : s.vm.findClass RX0 = some m.cls := findClass_of_methodNamed B.named
  have hlocks := B.notSynchronized
  subst hsz
  have hD := hD0.self (sz := s.heap.size)
  generalize hAe : va_A [(oS, .inr (1, [.ref oA, .ref oB, .int (nI h)])), (oA, .inl (cA, n, .inl P)), (oB, .inl (cB, n, .inr (.inl V)))] s.heap.size = A at hD ⊢
  have hA : ∀ q : Nat, s.heap.size ≤ q → A q := fun q h => by rw [← hAe]; exact Or.inr h
  have hS : va_S A s.heap s.heap [] := va_S.rf
  have hP : va_P (dC, dI) vwCl [(oS, .inr (1, [.ref oA, .ref oB, .int (nI h)])), (oA, .inl (cA, n, .inl P)), (oB, .inl (cB, n, .inr (.inl V)))] s.heap := hP
  have hl := lv_entry ([.ref oS]) (n := 1) (Nat.le_of_ble_eq_true rfl)
  rw [lg_entry_eq]
  generalize (lg_sl ([.ref oS]) ++ List.replicate (1 - (lg_sl ([.ref oS])).length) Slot.unset).toArray = ls at hl ⊢
  have hl : lv_has ls 1 [(0, .ref oS)] := hl
  refine W_name (fun Q hQ9 => ?_)
  refine lv_aload_n hx hb dX0_greatest_0 rfl (lv_at hl 0 rfl) ?_
  refine lv_aload_n hx hb dX0_greatest_1 rfl (lv_at hl 0 rfl) ?_
  refine va_get (D := (dC, dI)) (ci := 1) (v := .int (nI h)) (C := RX0) (T := TX0) (N := 3) hx hb hts (by decide +kernel) hown hK hP 0 rfl rfl 2 (by decide) (hts (.fieldLink RX0 25 "RelativeFiles$Shelf" "held" "I") (by decide +kernel)) (fun _ h9 => h9) rfl dX0_greatest_2 ?_
  refine lv_iconst (v := 1) hx hb dX0_greatest_5 (by decide) ?_
  refine lv_isub hx hb dX0_greatest_6 ?_
  have hPc := hP.sub (ws' := [(oS, .inr (1, [.ref oA, .ref oB, .int (nI h)])), (oA, .inl (cA, n, .inl P)), (oB, .inl (cB, n, .inr (.inl V)))]) [0, 1, 2] rfl
  have hDc := hD.sub (ws' := [(oS, .inr (1, [.ref oA, .ref oB, .int (nI h)])), (oA, .inl (cA, n, .inl P)), (oB, .inl (cB, n, .inr (.inl V)))]) [0, 1, 2] (by decide) rfl
  have hKc := hK.sub (tys' := [(cA, .int), (cB, .long)]) [0, 1] rfl
  have hFc := va_free (wc := [(oS, .inr (1, [.ref oA, .ref oB, .int (nI h)])), (oA, .inl (cA, n, .inl P)), (oB, .inl (cB, n, .inr (.inl V)))]) hD hS hA [0, 1, 2] rfl
  refine va_calli (va_runV (As := [.int ((nI h) - 1)]) (rest := []) ⟨hx, hb, hml, hown, hts⟩ (kX0_placeAt l dC dI oS oA oB cA cB n h P V ((nI h) - 1) s.heap.size hh hn) (cwV 1 hts gX0_greatest_X0_placeAt rfl rfl rfl (by decide +kernel) ⟨Nat.le_of_ble_eq_true rfl, Nat.le_of_ble_eq_true rfl⟩) ⟨fun a U g mk q => by obtain ⟨q0, q1, qP, qK, qD⟩ := q; exact ⟨q0, q1, qP, va_K.moved (u := U) (U := U.calling g mk a) (Vm.Alike.refl U.vm) qK, qD⟩, va_recv hKc hPc (ci := 1) (q0 := 0) rfl rfl, fun U hU hW => ⟨rfl, by rw [hU], by rw [hU]; exact hPc, va_K.moved hW.alike hKc, hDc.weaken (fun _ _ _ _ => trivial)⟩⟩ rfl rfl hl.1 rfl (lv_room (Nat.le_of_ble_eq_true rfl)) dX0_greatest_7 ⟨Nat.le_of_ble_eq_true rfl, Nat.le_of_ble_eq_true rfl⟩) hS (fun q _ h => hFc q h) hFc (fun r_1 u t H1 locs ht hvm hw hB hz1 hk1 hS => ?_)
  obtain ⟨hP1, hK1, hD1⟩ := hB
  rw [ht] at hP1
  have hK1 := va_K.moved hvm.symm hK1
  try dsimp only at hw
  obtain ⟨hP, hD⟩ := va_join (wr := []) (w1 := [(oS, .inr (1, [.ref oA, .ref oB, .int (nI h)])), (oA, .inl (cA, n, .inl P)), (oB, .inl (cB, n, .inr (.inl V)))]) hP hD [0, 1, 2] [] rfl rfl (by decide) (by decide) hk1 hFc hP1 hD1
  generalize H1 = H at hP hS ⊢
  have hP : va_P (dC, dI) vwCl [(oS, .inr (1, [.ref oA, .ref oB, .int (nI h)])), (oA, .inl (cA, n, .inl P)), (oB, .inl (cB, n, .inr (.inl V)))] H := hP.sub [0, 1, 2] rfl
  have hD : va_D A [(oS, .inr (1, [.ref oA, .ref oB, .int (nI h)])), (oA, .inl (cA, n, .inl P)), (oB, .inl (cB, n, .inr (.inl V)))] := hD.sub [0, 1, 2] (by decide) rfl
  have hK : va_K (dC, dI) vwCl [(cA, .int), (cB, .long)] s := hK
  subst hw
  subst hQ9
  have e9 : pAt P h (nI h - 1) = fGr P h := pAt_pred P (by omega) (Nat.le_refl h)
  exact W.iret (v := pAt P h ((nI h) - 1)) hx hb hr (fun t ht hW => ⟨⟨pAt P h ((nI h) - 1), (), rfl, e9, by rw [ht]; exact hP, va_K.moved hW.alike hK, hD⟩, hS.F ht⟩) hS.2.2 dX0_greatest_10

set_option maxHeartbeats 1000000 in
set_option maxRecDepth 100000 in
theorem kX0_firstAbove (l : Launch) (dC : Nat → ClassId) (dI : Nat → Nat → Nat) (oS oA oB : Nat) (cA cB : ClassId) (n h : Nat) (P : Nat → Int32) (V : Nat → Int64) (p0 : Int32) (sz : Nat) (hh : h ≤ n) (hn : n ≤ 512) : Met l yX0_firstAbove wsX0_firstAbove ({ frames := 1, cells := 0, slots := 0, locals := 22 }) (va_Pc [.ref oS, .int p0] (fun U => U.heap.size = sz ∧ va_P (dC, dI) vwCl [(oS, .inr (1, [.ref oA, .ref oB, .int (nI h)])), (oA, .inl (cA, n, .inl P)), (oB, .inl (cB, n, .inr (.inl V)))] U.heap ∧ va_K (dC, dI) vwCl [(cA, .int), (cB, .long)] U ∧ va_D (fun _ => True) [(oS, .inr (1, [.ref oA, .ref oB, .int (nI h)])), (oA, .inl (cA, n, .inl P)), (oB, .inl (cB, n, .inr (.inl V)))])) (va_Qi (fun (r : Int32) (_ : Unit) => r = fFA P h p0) (fun (_ : Unit) (t : State) => va_P (dC, dI) vwCl [(oS, .inr (1, [.ref oA, .ref oB, .int (nI h)])), (oA, .inl (cA, n, .inl P)), (oB, .inl (cB, n, .inr (.inl V)))] t.heap ∧ va_K (dC, dI) vwCl [(cA, .int), (cB, .long)] t ∧ va_D (va_A [(oS, .inr (1, [.ref oA, .ref oB, .int (nI h)])), (oA, .inl (cA, n, .inl P)), (oB, .inl (cB, n, .inr (.inl V)))] sz) [(oS, .inr (1, [.ref oA, .ref oB, .int (nI h)])), (oA, .inl (cA, n, .inl P)), (oB, .inl (cB, n, .inr (.inl V)))]) (va_A [(oS, .inr (1, [.ref oA, .ref oB, .int (nI h)])), (oA, .inl (cA, n, .inl P)), (oB, .inl (cB, n, .inr (.inl V)))] sz)) 0 0 (va_A [(oS, .inr (1, [.ref oA, .ref oB, .int (nI h)])), (oA, .inl (cA, n, .inl P)), (oB, .inl (cB, n, .inr (.inl V)))] sz) := by
  refine Met.ofW (cc := cX0_firstAbove) (maxL := 3) (ret := (some .int)) (by decide) rfl ?_
  intro p e s m args below meth c s₁ B hml hv
  obtain ⟨rfl, hsz, hP, hK, hD0⟩ := hv
  have hx := B.exec
  have hb := B.bytes
  have hr := B.returns
  have hts := atoms_spec (ws := wsX0_firstAbove) B.pre
  have hown : s.vm.findClass RX0 = some m.cls := findClass_of_methodNamed B.named
  have hlocks := B.notSynchronized
  subst hsz
  have hD := hD0.self (sz := s.heap.size)
  generalize hAe : va_A [(oS, .inr (1, [.ref oA, .ref oB, .int (nI h)])), (oA, .inl (cA, n, .inl P)), (oB, .inl (cB, n, .inr (.inl V)))] s.heap.size = A at hD ⊢
  have hA : ∀ q : Nat, s.heap.size ≤ q → A q := fun q h => by rw [← hAe]; exact Or.inr h
  have hS : va_S A s.heap s.heap [] := va_S.rf
  have hP : va_P (dC, dI) vwCl [(oS, .inr (1, [.ref oA, .ref oB, .int (nI h)])), (oA, .inl (cA, n, .inl P)), (oB, .inl (cB, n, .inr (.inl V)))] s.heap := hP
  have hl := lv_entry ([.ref oS, .int p0]) (n := 3) (Nat.le_of_ble_eq_true rfl)
  rw [lg_entry_eq]
  generalize (lg_sl ([.ref oS, .int p0]) ++ List.replicate (3 - (lg_sl ([.ref oS, .int p0])).length) Slot.unset).toArray = ls at hl ⊢
  have hl : lv_has ls 3 [(0, .ref oS), (1, .int p0)] := hl
  refine W_name (fun Q hQ9 => ?_)
  refine lv_aload_n hx hb dX0_firstAbove_0 rfl (lv_at hl 0 rfl) ?_
  refine lv_iload_n hx hb dX0_firstAbove_1 rfl (lv_at hl 1 rfl) ?_
  have hPc := hP.sub (ws' := [(oS, .inr (1, [.ref oA, .ref oB, .int (nI h)])), (oA, .inl (cA, n, .inl P)), (oB, .inl (cB, n, .inr (.inl V)))]) [0, 1, 2] rfl
  have hDc := hD.sub (ws' := [(oS, .inr (1, [.ref oA, .ref oB, .int (nI h)])), (oA, .inl (cA, n, .inl P)), (oB, .inl (cB, n, .inr (.inl V)))]) [0, 1, 2] (by decide) rfl
  have hKc := hK.sub (tys' := [(cA, .int), (cB, .long)]) [0, 1] rfl
  have hFc := va_free (wc := [(oS, .inr (1, [.ref oA, .ref oB, .int (nI h)])), (oA, .inl (cA, n, .inl P)), (oB, .inl (cB, n, .inr (.inl V)))]) hD hS hA [0, 1, 2] rfl
  refine va_calli (va_runV (As := [.int p0]) (rest := []) ⟨hx, hb, hml, hown, hts⟩ (kX0_rank l dC dI oS oA oB cA cB n h P V p0 s.heap.size hh hn) (cwV 1 hts gX0_firstAbove_X0_rank rfl rfl rfl (by decide +kernel) ⟨Nat.le_of_ble_eq_true rfl, Nat.le_of_ble_eq_true rfl⟩) ⟨fun a U g mk q => by obtain ⟨q0, q1, qP, qK, qD⟩ := q; exact ⟨q0, q1, qP, va_K.moved (u := U) (U := U.calling g mk a) (Vm.Alike.refl U.vm) qK, qD⟩, va_recv hKc hPc (ci := 1) (q0 := 0) rfl rfl, fun U hU hW => ⟨rfl, by rw [hU], by rw [hU]; exact hPc, va_K.moved hW.alike hKc, hDc.weaken (fun _ _ _ _ => trivial)⟩⟩ rfl rfl hl.1 rfl (lv_room (Nat.le_of_ble_eq_true rfl)) dX0_firstAbove_2 ⟨Nat.le_of_ble_eq_true rfl, Nat.le_of_ble_eq_true rfl⟩) hS (fun q _ h => hFc q h) hFc (fun r_1 u t H1 locs ht hvm hw hB hz1 hk1 hS => ?_)
  obtain ⟨hP1, hK1, hD1⟩ := hB
  rw [ht] at hP1
  have hK1 := va_K.moved hvm.symm hK1
  try dsimp only at hw
  obtain ⟨hP, hD⟩ := va_join (wr := []) (w1 := [(oS, .inr (1, [.ref oA, .ref oB, .int (nI h)])), (oA, .inl (cA, n, .inl P)), (oB, .inl (cB, n, .inr (.inl V)))]) hP hD [0, 1, 2] [] rfl rfl (by decide) (by decide) hk1 hFc hP1 hD1
  generalize H1 = H at hP hS ⊢
  have hP : va_P (dC, dI) vwCl [(oS, .inr (1, [.ref oA, .ref oB, .int (nI h)])), (oA, .inl (cA, n, .inl P)), (oB, .inl (cB, n, .inr (.inl V)))] H := hP.sub [0, 1, 2] rfl
  have hD : va_D A [(oS, .inr (1, [.ref oA, .ref oB, .int (nI h)])), (oA, .inl (cA, n, .inl P)), (oB, .inl (cB, n, .inr (.inl V)))] := hD.sub [0, 1, 2] (by decide) rfl
  have hK : va_K (dC, dI) vwCl [(cA, .int), (cB, .long)] s := hK
  subst hw
  refine lv_istore_n (lv' := [(2, .int (nI (rk P p0 h))), (0, .ref oS), (1, .int p0)]) hx hb dX0_firstAbove_5 rfl hl (by decide) rfl (fun ls hl => ?_)
  refine lv_aload_n hx hb dX0_firstAbove_6 rfl (lv_at hl 1 rfl) ?_
  refine lv_aload_n hx hb dX0_firstAbove_7 rfl (lv_at hl 1 rfl) ?_
  refine lv_iload_n hx hb dX0_firstAbove_8 rfl (lv_at hl 0 rfl) ?_
  refine lv_iload_n hx hb dX0_firstAbove_9 rfl (lv_at hl 2 rfl) ?_
  have hPc := hP.sub (ws' := [(oS, .inr (1, [.ref oA, .ref oB, .int (nI h)])), (oA, .inl (cA, n, .inl P)), (oB, .inl (cB, n, .inr (.inl V)))]) [0, 1, 2] rfl
  have hDc := hD.sub (ws' := [(oS, .inr (1, [.ref oA, .ref oB, .int (nI h)])), (oA, .inl (cA, n, .inl P)), (oB, .inl (cB, n, .inr (.inl V)))]) [0, 1, 2] (by decide) rfl
  have hKc := hK.sub (tys' := [(cA, .int), (cB, .long)]) [0, 1] rfl
  have hFc := va_free (wc := [(oS, .inr (1, [.ref oA, .ref oB, .int (nI h)])), (oA, .inl (cA, n, .inl P)), (oB, .inl (cB, n, .inr (.inl V)))]) hD hS hA [0, 1, 2] rfl
  refine va_calli (va_runV (As := [.int (nI (rk P p0 h)), .int p0]) (rest := [.ref oS]) ⟨hx, hb, hml, hown, hts⟩ (kX0_isAt l dC dI oS oA oB cA cB n h P V (rk P p0 h) p0 H.size hh hn (by first | omega | exact rk_le _ _ _)) (cwV 2 hts gX0_firstAbove_X0_isAt rfl rfl rfl (by decide +kernel) ⟨Nat.le_of_ble_eq_true rfl, Nat.le_of_ble_eq_true rfl⟩) ⟨fun a U g mk q => by obtain ⟨q0, q1, qP, qK, qD⟩ := q; exact ⟨q0, q1, qP, va_K.moved (u := U) (U := U.calling g mk a) (Vm.Alike.refl U.vm) qK, qD⟩, va_recv hKc hPc (ci := 1) (q0 := 0) rfl rfl, fun U hU hW => ⟨rfl, by rw [hU], by rw [hU]; exact hPc, va_K.moved hW.alike hKc, hDc.weaken (fun _ _ _ _ => trivial)⟩⟩ rfl rfl hl.1 rfl (lv_room (Nat.le_of_ble_eq_true rfl)) dX0_firstAbove_10 ⟨Nat.le_of_ble_eq_true rfl, Nat.le_of_ble_eq_true rfl⟩) hS (fun q _ h => hFc q h) hFc (fun r_2 u t H1 locs ht hvm hw hB hz1 hk1 hS => ?_)
  obtain ⟨hP1, hK1, hD1⟩ := hB
  rw [ht] at hP1
  have hK1 := va_K.moved hvm.symm hK1
  try dsimp only at hw
  obtain ⟨hP, hD⟩ := va_join (wr := []) (w1 := [(oS, .inr (1, [.ref oA, .ref oB, .int (nI h)])), (oA, .inl (cA, n, .inl P)), (oB, .inl (cB, n, .inr (.inl V)))]) hP hD [0, 1, 2] [] rfl rfl (by decide) (by decide) hk1 hFc hP1 hD1
  generalize H1 = H at hP hS ⊢
  have hP : va_P (dC, dI) vwCl [(oS, .inr (1, [.ref oA, .ref oB, .int (nI h)])), (oA, .inl (cA, n, .inl P)), (oB, .inl (cB, n, .inr (.inl V)))] H := hP.sub [0, 1, 2] rfl
  have hD : va_D A [(oS, .inr (1, [.ref oA, .ref oB, .int (nI h)])), (oA, .inl (cA, n, .inl P)), (oB, .inl (cB, n, .inr (.inl V)))] := hD.sub [0, 1, 2] (by decide) rfl
  have hK : va_K (dC, dI) vwCl [(cA, .int), (cB, .long)] s := hK
  rcases hw with ⟨b_3, hw⟩ | ⟨b_3, hw⟩
  · -- (rk P p0 h) < h ∧ P (rk P p0 h) = p0
    subst hw
    refine lv_if_eq (tgt := 22) hx hb dX0_firstAbove_13 (by decide) (fun c_4 => ?_) (fun c_4 => ?_)
    · -- taken at 13: 1 = 0
      exact absurd c_4 (by decide)
    · -- not taken at 13: ¬ 1 = 0
      refine lv_iload_n hx hb dX0_firstAbove_16 rfl (lv_at hl 0 rfl) ?_
      refine lv_iconst (v := 1) hx hb dX0_firstAbove_17 (by decide) ?_
      refine lv_iadd hx hb dX0_firstAbove_18 ?_
      rw [show (nI (rk P p0 h)) + 1 = nI (rk P p0 h + 1) from (nI_succ _).symm]
      refine lv_goto (tgt := 23) hx hb dX0_firstAbove_19 (by decide) ?_
      have hPc := hP.sub (ws' := [(oS, .inr (1, [.ref oA, .ref oB, .int (nI h)])), (oA, .inl (cA, n, .inl P)), (oB, .inl (cB, n, .inr (.inl V)))]) [0, 1, 2] rfl
      have hDc := hD.sub (ws' := [(oS, .inr (1, [.ref oA, .ref oB, .int (nI h)])), (oA, .inl (cA, n, .inl P)), (oB, .inl (cB, n, .inr (.inl V)))]) [0, 1, 2] (by decide) rfl
      have hKc := hK.sub (tys' := [(cA, .int), (cB, .long)]) [0, 1] rfl
      have hFc := va_free (wc := [(oS, .inr (1, [.ref oA, .ref oB, .int (nI h)])), (oA, .inl (cA, n, .inl P)), (oB, .inl (cB, n, .inr (.inl V)))]) hD hS hA [0, 1, 2] rfl
      refine va_calli (va_runV (As := [.int (nI (rk P p0 h + 1))]) (rest := []) ⟨hx, hb, hml, hown, hts⟩ (kX0_placeAt l dC dI oS oA oB cA cB n h P V (nI (rk P p0 h + 1)) H.size hh hn) (cwV 1 hts gX0_firstAbove_X0_placeAt rfl rfl rfl (by decide +kernel) ⟨Nat.le_of_ble_eq_true rfl, Nat.le_of_ble_eq_true rfl⟩) ⟨fun a U g mk q => by obtain ⟨q0, q1, qP, qK, qD⟩ := q; exact ⟨q0, q1, qP, va_K.moved (u := U) (U := U.calling g mk a) (Vm.Alike.refl U.vm) qK, qD⟩, va_recv hKc hPc (ci := 1) (q0 := 0) rfl rfl, fun U hU hW => ⟨rfl, by rw [hU], by rw [hU]; exact hPc, va_K.moved hW.alike hKc, hDc.weaken (fun _ _ _ _ => trivial)⟩⟩ rfl rfl hl.1 rfl (lv_room (Nat.le_of_ble_eq_true rfl)) dX0_firstAbove_23 ⟨Nat.le_of_ble_eq_true rfl, Nat.le_of_ble_eq_true rfl⟩) hS (fun q _ h => hFc q h) hFc (fun r_5 u t H1 locs ht hvm hw hB hz1 hk1 hS => ?_)
      obtain ⟨hP1, hK1, hD1⟩ := hB
      rw [ht] at hP1
      have hK1 := va_K.moved hvm.symm hK1
      try dsimp only at hw
      obtain ⟨hP, hD⟩ := va_join (wr := []) (w1 := [(oS, .inr (1, [.ref oA, .ref oB, .int (nI h)])), (oA, .inl (cA, n, .inl P)), (oB, .inl (cB, n, .inr (.inl V)))]) hP hD [0, 1, 2] [] rfl rfl (by decide) (by decide) hk1 hFc hP1 hD1
      generalize H1 = H at hP hS ⊢
      have hP : va_P (dC, dI) vwCl [(oS, .inr (1, [.ref oA, .ref oB, .int (nI h)])), (oA, .inl (cA, n, .inl P)), (oB, .inl (cB, n, .inr (.inl V)))] H := hP.sub [0, 1, 2] rfl
      have hD : va_D A [(oS, .inr (1, [.ref oA, .ref oB, .int (nI h)])), (oA, .inl (cA, n, .inl P)), (oB, .inl (cB, n, .inr (.inl V)))] := hD.sub [0, 1, 2] (by decide) rfl
      have hK : va_K (dC, dI) vwCl [(cA, .int), (cB, .long)] s := hK
      subst hw
      subst hQ9
      have hk := rk_le P p0 h
      have e9 : fFA P h p0 = pAt P h (nI (rk P p0 h + 1)) := by simp only [fFA, if_pos b_3]; exact (pAt_nI P (by omega) (by omega)).symm
      rw [e9]
      exact W.iret (v := pAt P h (nI (rk P p0 h + 1))) hx hb hr (fun t ht hW => ⟨⟨pAt P h (nI (rk P p0 h + 1)), (), rfl, rfl, by rw [ht]; exact hP, va_K.moved hW.alike hK, hD⟩, hS.F ht⟩) hS.2.2 dX0_firstAbove_26
  · -- ¬ ((rk P p0 h) < h ∧ P (rk P p0 h) = p0)
    subst hw
    refine lv_if_eq (tgt := 22) hx hb dX0_firstAbove_13 (by decide) (fun c_6 => ?_) (fun c_6 => ?_)
    · -- taken at 13: 0 = 0
      refine lv_iload_n hx hb dX0_firstAbove_22 rfl (lv_at hl 0 rfl) ?_
      have hPc := hP.sub (ws' := [(oS, .inr (1, [.ref oA, .ref oB, .int (nI h)])), (oA, .inl (cA, n, .inl P)), (oB, .inl (cB, n, .inr (.inl V)))]) [0, 1, 2] rfl
      have hDc := hD.sub (ws' := [(oS, .inr (1, [.ref oA, .ref oB, .int (nI h)])), (oA, .inl (cA, n, .inl P)), (oB, .inl (cB, n, .inr (.inl V)))]) [0, 1, 2] (by decide) rfl
      have hKc := hK.sub (tys' := [(cA, .int), (cB, .long)]) [0, 1] rfl
      have hFc := va_free (wc := [(oS, .inr (1, [.ref oA, .ref oB, .int (nI h)])), (oA, .inl (cA, n, .inl P)), (oB, .inl (cB, n, .inr (.inl V)))]) hD hS hA [0, 1, 2] rfl
      refine va_calli (va_runV (As := [.int (nI (rk P p0 h))]) (rest := []) ⟨hx, hb, hml, hown, hts⟩ (kX0_placeAt l dC dI oS oA oB cA cB n h P V (nI (rk P p0 h)) H.size hh hn) (cwV 1 hts gX0_firstAbove_X0_placeAt rfl rfl rfl (by decide +kernel) ⟨Nat.le_of_ble_eq_true rfl, Nat.le_of_ble_eq_true rfl⟩) ⟨fun a U g mk q => by obtain ⟨q0, q1, qP, qK, qD⟩ := q; exact ⟨q0, q1, qP, va_K.moved (u := U) (U := U.calling g mk a) (Vm.Alike.refl U.vm) qK, qD⟩, va_recv hKc hPc (ci := 1) (q0 := 0) rfl rfl, fun U hU hW => ⟨rfl, by rw [hU], by rw [hU]; exact hPc, va_K.moved hW.alike hKc, hDc.weaken (fun _ _ _ _ => trivial)⟩⟩ rfl rfl hl.1 rfl (lv_room (Nat.le_of_ble_eq_true rfl)) dX0_firstAbove_23 ⟨Nat.le_of_ble_eq_true rfl, Nat.le_of_ble_eq_true rfl⟩) hS (fun q _ h => hFc q h) hFc (fun r_7 u t H1 locs ht hvm hw hB hz1 hk1 hS => ?_)
      obtain ⟨hP1, hK1, hD1⟩ := hB
      rw [ht] at hP1
      have hK1 := va_K.moved hvm.symm hK1
      try dsimp only at hw
      obtain ⟨hP, hD⟩ := va_join (wr := []) (w1 := [(oS, .inr (1, [.ref oA, .ref oB, .int (nI h)])), (oA, .inl (cA, n, .inl P)), (oB, .inl (cB, n, .inr (.inl V)))]) hP hD [0, 1, 2] [] rfl rfl (by decide) (by decide) hk1 hFc hP1 hD1
      generalize H1 = H at hP hS ⊢
      have hP : va_P (dC, dI) vwCl [(oS, .inr (1, [.ref oA, .ref oB, .int (nI h)])), (oA, .inl (cA, n, .inl P)), (oB, .inl (cB, n, .inr (.inl V)))] H := hP.sub [0, 1, 2] rfl
      have hD : va_D A [(oS, .inr (1, [.ref oA, .ref oB, .int (nI h)])), (oA, .inl (cA, n, .inl P)), (oB, .inl (cB, n, .inr (.inl V)))] := hD.sub [0, 1, 2] (by decide) rfl
      have hK : va_K (dC, dI) vwCl [(cA, .int), (cB, .long)] s := hK
      subst hw
      subst hQ9
      have hk := rk_le P p0 h
      have e9 : fFA P h p0 = pAt P h (nI (rk P p0 h)) := by simp only [fFA, if_neg b_3]; exact (pAt_nI P (by omega) (by omega)).symm
      rw [e9]
      exact W.iret (v := pAt P h (nI (rk P p0 h))) hx hb hr (fun t ht hW => ⟨⟨pAt P h (nI (rk P p0 h)), (), rfl, rfl, by rw [ht]; exact hP, va_K.moved hW.alike hK, hD⟩, hS.F ht⟩) hS.2.2 dX0_firstAbove_26
    · -- not taken at 13: ¬ 0 = 0
      exact absurd c_6 (by decide)

set_option maxHeartbeats 1000000 in
set_option maxRecDepth 100000 in
theorem kX0_lastBelow (l : Launch) (dC : Nat → ClassId) (dI : Nat → Nat → Nat) (oS oA oB : Nat) (cA cB : ClassId) (n h : Nat) (P : Nat → Int32) (V : Nat → Int64) (p0 : Int32) (sz : Nat) (hh : h ≤ n) (hn : n ≤ 512) : Met l yX0_lastBelow wsX0_lastBelow ({ frames := 1, cells := 0, slots := 0, locals := 22 }) (va_Pc [.ref oS, .int p0] (fun U => U.heap.size = sz ∧ va_P (dC, dI) vwCl [(oS, .inr (1, [.ref oA, .ref oB, .int (nI h)])), (oA, .inl (cA, n, .inl P)), (oB, .inl (cB, n, .inr (.inl V)))] U.heap ∧ va_K (dC, dI) vwCl [(cA, .int), (cB, .long)] U ∧ va_D (fun _ => True) [(oS, .inr (1, [.ref oA, .ref oB, .int (nI h)])), (oA, .inl (cA, n, .inl P)), (oB, .inl (cB, n, .inr (.inl V)))])) (va_Qi (fun (r : Int32) (_ : Unit) => r = fLB P h p0) (fun (_ : Unit) (t : State) => va_P (dC, dI) vwCl [(oS, .inr (1, [.ref oA, .ref oB, .int (nI h)])), (oA, .inl (cA, n, .inl P)), (oB, .inl (cB, n, .inr (.inl V)))] t.heap ∧ va_K (dC, dI) vwCl [(cA, .int), (cB, .long)] t ∧ va_D (va_A [(oS, .inr (1, [.ref oA, .ref oB, .int (nI h)])), (oA, .inl (cA, n, .inl P)), (oB, .inl (cB, n, .inr (.inl V)))] sz) [(oS, .inr (1, [.ref oA, .ref oB, .int (nI h)])), (oA, .inl (cA, n, .inl P)), (oB, .inl (cB, n, .inr (.inl V)))]) (va_A [(oS, .inr (1, [.ref oA, .ref oB, .int (nI h)])), (oA, .inl (cA, n, .inl P)), (oB, .inl (cB, n, .inr (.inl V)))] sz)) 0 0 (va_A [(oS, .inr (1, [.ref oA, .ref oB, .int (nI h)])), (oA, .inl (cA, n, .inl P)), (oB, .inl (cB, n, .inr (.inl V)))] sz) := by
  refine Met.ofW (cc := cX0_lastBelow) (maxL := 2) (ret := (some .int)) (by decide) rfl ?_
  intro p e s m args below meth c s₁ B hml hv
  obtain ⟨rfl, hsz, hP, hK, hD0⟩ := hv
  have hx := B.exec
  have hb := B.bytes
  have hr := B.returns
  have hts := atoms_spec (ws := wsX0_lastBelow) B.pre
  have hown : s.vm.findClass RX0 = some m.cls := findClass_of_methodNamed B.named
  have hlocks := B.notSynchronized
  subst hsz
  have hD := hD0.self (sz := s.heap.size)
  generalize hAe : va_A [(oS, .inr (1, [.ref oA, .ref oB, .int (nI h)])), (oA, .inl (cA, n, .inl P)), (oB, .inl (cB, n, .inr (.inl V)))] s.heap.size = A at hD ⊢
  have hA : ∀ q : Nat, s.heap.size ≤ q → A q := fun q h => by rw [← hAe]; exact Or.inr h
  have hS : va_S A s.heap s.heap [] := va_S.rf
  have hP : va_P (dC, dI) vwCl [(oS, .inr (1, [.ref oA, .ref oB, .int (nI h)])), (oA, .inl (cA, n, .inl P)), (oB, .inl (cB, n, .inr (.inl V)))] s.heap := hP
  have hl := lv_entry ([.ref oS, .int p0]) (n := 2) (Nat.le_of_ble_eq_true rfl)
  rw [lg_entry_eq]
  generalize (lg_sl ([.ref oS, .int p0]) ++ List.replicate (2 - (lg_sl ([.ref oS, .int p0])).length) Slot.unset).toArray = ls at hl ⊢
  have hl : lv_has ls 2 [(0, .ref oS), (1, .int p0)] := hl
  refine W_name (fun Q hQ9 => ?_)
  refine lv_aload_n hx hb dX0_lastBelow_0 rfl (lv_at hl 0 rfl) ?_
  refine lv_aload_n hx hb dX0_lastBelow_1 rfl (lv_at hl 0 rfl) ?_
  refine lv_iload_n hx hb dX0_lastBelow_2 rfl (lv_at hl 1 rfl) ?_
  have hPc := hP.sub (ws' := [(oS, .inr (1, [.ref oA, .ref oB, .int (nI h)])), (oA, .inl (cA, n, .inl P)), (oB, .inl (cB, n, .inr (.inl V)))]) [0, 1, 2] rfl
  have hDc := hD.sub (ws' := [(oS, .inr (1, [.ref oA, .ref oB, .int (nI h)])), (oA, .inl (cA, n, .inl P)), (oB, .inl (cB, n, .inr (.inl V)))]) [0, 1, 2] (by decide) rfl
  have hKc := hK.sub (tys' := [(cA, .int), (cB, .long)]) [0, 1] rfl
  have hFc := va_free (wc := [(oS, .inr (1, [.ref oA, .ref oB, .int (nI h)])), (oA, .inl (cA, n, .inl P)), (oB, .inl (cB, n, .inr (.inl V)))]) hD hS hA [0, 1, 2] rfl
  refine va_calli (va_runV (As := [.int p0]) (rest := [.ref oS]) ⟨hx, hb, hml, hown, hts⟩ (kX0_rank l dC dI oS oA oB cA cB n h P V p0 s.heap.size hh hn) (cwV 1 hts gX0_lastBelow_X0_rank rfl rfl rfl (by decide +kernel) ⟨Nat.le_of_ble_eq_true rfl, Nat.le_of_ble_eq_true rfl⟩) ⟨fun a U g mk q => by obtain ⟨q0, q1, qP, qK, qD⟩ := q; exact ⟨q0, q1, qP, va_K.moved (u := U) (U := U.calling g mk a) (Vm.Alike.refl U.vm) qK, qD⟩, va_recv hKc hPc (ci := 1) (q0 := 0) rfl rfl, fun U hU hW => ⟨rfl, by rw [hU], by rw [hU]; exact hPc, va_K.moved hW.alike hKc, hDc.weaken (fun _ _ _ _ => trivial)⟩⟩ rfl rfl hl.1 rfl (lv_room (Nat.le_of_ble_eq_true rfl)) dX0_lastBelow_3 ⟨Nat.le_of_ble_eq_true rfl, Nat.le_of_ble_eq_true rfl⟩) hS (fun q _ h => hFc q h) hFc (fun r_1 u t H1 locs ht hvm hw hB hz1 hk1 hS => ?_)
  obtain ⟨hP1, hK1, hD1⟩ := hB
  rw [ht] at hP1
  have hK1 := va_K.moved hvm.symm hK1
  try dsimp only at hw
  obtain ⟨hP, hD⟩ := va_join (wr := []) (w1 := [(oS, .inr (1, [.ref oA, .ref oB, .int (nI h)])), (oA, .inl (cA, n, .inl P)), (oB, .inl (cB, n, .inr (.inl V)))]) hP hD [0, 1, 2] [] rfl rfl (by decide) (by decide) hk1 hFc hP1 hD1
  generalize H1 = H at hP hS ⊢
  have hP : va_P (dC, dI) vwCl [(oS, .inr (1, [.ref oA, .ref oB, .int (nI h)])), (oA, .inl (cA, n, .inl P)), (oB, .inl (cB, n, .inr (.inl V)))] H := hP.sub [0, 1, 2] rfl
  have hD : va_D A [(oS, .inr (1, [.ref oA, .ref oB, .int (nI h)])), (oA, .inl (cA, n, .inl P)), (oB, .inl (cB, n, .inr (.inl V)))] := hD.sub [0, 1, 2] (by decide) rfl
  have hK : va_K (dC, dI) vwCl [(cA, .int), (cB, .long)] s := hK
  subst hw
  refine lv_iconst (v := 1) hx hb dX0_lastBelow_6 (by decide) ?_
  refine lv_isub hx hb dX0_lastBelow_7 ?_
  have hPc := hP.sub (ws' := [(oS, .inr (1, [.ref oA, .ref oB, .int (nI h)])), (oA, .inl (cA, n, .inl P)), (oB, .inl (cB, n, .inr (.inl V)))]) [0, 1, 2] rfl
  have hDc := hD.sub (ws' := [(oS, .inr (1, [.ref oA, .ref oB, .int (nI h)])), (oA, .inl (cA, n, .inl P)), (oB, .inl (cB, n, .inr (.inl V)))]) [0, 1, 2] (by decide) rfl
  have hKc := hK.sub (tys' := [(cA, .int), (cB, .long)]) [0, 1] rfl
  have hFc := va_free (wc := [(oS, .inr (1, [.ref oA, .ref oB, .int (nI h)])), (oA, .inl (cA, n, .inl P)), (oB, .inl (cB, n, .inr (.inl V)))]) hD hS hA [0, 1, 2] rfl
  refine va_calli (va_runV (As := [.int ((nI (rk P p0 h)) - 1)]) (rest := []) ⟨hx, hb, hml, hown, hts⟩ (kX0_placeAt l dC dI oS oA oB cA cB n h P V ((nI (rk P p0 h)) - 1) H.size hh hn) (cwV 1 hts gX0_lastBelow_X0_placeAt rfl rfl rfl (by decide +kernel) ⟨Nat.le_of_ble_eq_true rfl, Nat.le_of_ble_eq_true rfl⟩) ⟨fun a U g mk q => by obtain ⟨q0, q1, qP, qK, qD⟩ := q; exact ⟨q0, q1, qP, va_K.moved (u := U) (U := U.calling g mk a) (Vm.Alike.refl U.vm) qK, qD⟩, va_recv hKc hPc (ci := 1) (q0 := 0) rfl rfl, fun U hU hW => ⟨rfl, by rw [hU], by rw [hU]; exact hPc, va_K.moved hW.alike hKc, hDc.weaken (fun _ _ _ _ => trivial)⟩⟩ rfl rfl hl.1 rfl (lv_room (Nat.le_of_ble_eq_true rfl)) dX0_lastBelow_8 ⟨Nat.le_of_ble_eq_true rfl, Nat.le_of_ble_eq_true rfl⟩) hS (fun q _ h => hFc q h) hFc (fun r_2 u t H1 locs ht hvm hw hB hz1 hk1 hS => ?_)
  obtain ⟨hP1, hK1, hD1⟩ := hB
  rw [ht] at hP1
  have hK1 := va_K.moved hvm.symm hK1
  try dsimp only at hw
  obtain ⟨hP, hD⟩ := va_join (wr := []) (w1 := [(oS, .inr (1, [.ref oA, .ref oB, .int (nI h)])), (oA, .inl (cA, n, .inl P)), (oB, .inl (cB, n, .inr (.inl V)))]) hP hD [0, 1, 2] [] rfl rfl (by decide) (by decide) hk1 hFc hP1 hD1
  generalize H1 = H at hP hS ⊢
  have hP : va_P (dC, dI) vwCl [(oS, .inr (1, [.ref oA, .ref oB, .int (nI h)])), (oA, .inl (cA, n, .inl P)), (oB, .inl (cB, n, .inr (.inl V)))] H := hP.sub [0, 1, 2] rfl
  have hD : va_D A [(oS, .inr (1, [.ref oA, .ref oB, .int (nI h)])), (oA, .inl (cA, n, .inl P)), (oB, .inl (cB, n, .inr (.inl V)))] := hD.sub [0, 1, 2] (by decide) rfl
  have hK : va_K (dC, dI) vwCl [(cA, .int), (cB, .long)] s := hK
  subst hw
  subst hQ9
  have hk := rk_le P p0 h
  have e9 : pAt P h ((nI (rk P p0 h)) - 1) = fLB P h p0 := pAt_pred P (by omega) hk
  exact W.iret (v := pAt P h ((nI (rk P p0 h)) - 1)) hx hb hr (fun t ht hW => ⟨⟨pAt P h ((nI (rk P p0 h)) - 1), (), rfl, e9, by rw [ht]; exact hP, va_K.moved hW.alike hK, hD⟩, hS.F ht⟩) hS.2.2 dX0_lastBelow_11

set_option maxHeartbeats 1000000 in
set_option maxRecDepth 100000 in
theorem kX0_add (l : Launch) (dC : Nat → ClassId) (dI : Nat → Nat → Nat) (oS oA oB : Nat) (cA cB : ClassId) (n h : Nat) (P : Nat → Int32) (V : Nat → Int64) (p0 : Int32) (p1 : Int64) (sz : Nat) (hh : h ≤ n) (hn : n ≤ 512) (hlt : h < n) : Met l yX0_add wsX0_add ({ frames := 1, cells := 0, slots := 0, locals := 22 }) (va_Pc [.ref oS, .int p0, .long p1] (fun U => U.heap.size = sz ∧ va_P (dC, dI) vwCl [(oS, .inr (1, [.ref oA, .ref oB, .int (nI h)])), (oA, .inl (cA, n, .inl P)), (oB, .inl (cB, n, .inr (.inl V)))] U.heap ∧ va_K (dC, dI) vwCl [(cA, .int), (cB, .long)] U ∧ va_D (fun _ => True) [(oS, .inr (1, [.ref oA, .ref oB, .int (nI h)])), (oA, .inl (cA, n, .inl P)), (oB, .inl (cB, n, .inr (.inl V)))])) (va_Qi (fun (r : Int32) (_ : Unit) => r = 1) (fun (_ : Unit) (t : State) => va_P (dC, dI) vwCl [(oS, .inr (1, [.ref oA, .ref oB, .int (nI (h + 1))])), (oA, .inl (cA, n, .inl (insA P (rk P p0 h) p0 h))), (oB, .inl (cB, n, .inr (.inl (insA V (rk P p0 h) p1 h))))] t.heap ∧ va_K (dC, dI) vwCl [(cA, .int), (cB, .long)] t ∧ va_D (va_A [(oS, .inr (1, [.ref oA, .ref oB, .int (nI h)])), (oA, .inl (cA, n, .inl P)), (oB, .inl (cB, n, .inr (.inl V)))] sz) [(oS, .inr (1, [.ref oA, .ref oB, .int (nI (h + 1))])), (oA, .inl (cA, n, .inl (insA P (rk P p0 h) p0 h))), (oB, .inl (cB, n, .inr (.inl (insA V (rk P p0 h) p1 h))))]) (va_A [(oS, .inr (1, [.ref oA, .ref oB, .int (nI h)])), (oA, .inl (cA, n, .inl P)), (oB, .inl (cB, n, .inr (.inl V)))] sz)) 0 0 (va_A [(oS, .inr (1, [.ref oA, .ref oB, .int (nI h)])), (oA, .inl (cA, n, .inl P)), (oB, .inl (cB, n, .inr (.inl V)))] sz) := by
  refine Met.ofW (cc := cX0_add) (maxL := 6) (ret := (some .boolean)) (by decide) rfl ?_
  intro p e s m args below meth c s₁ B hml hv
  obtain ⟨rfl, hsz, hP, hK, hD0⟩ := hv
  have hx := B.exec
  have hb := B.bytes
  have hr := B.returns
  have hts := atoms_spec (ws := wsX0_add) B.pre
  have hown : s.vm.findClass RX0 = some m.cls := findClass_of_methodNamed B.named
  have hlocks := B.notSynchronized
  subst hsz
  have hD := hD0.self (sz := s.heap.size)
  generalize hAe : va_A [(oS, .inr (1, [.ref oA, .ref oB, .int (nI h)])), (oA, .inl (cA, n, .inl P)), (oB, .inl (cB, n, .inr (.inl V)))] s.heap.size = A at hD ⊢
  have hA : ∀ q : Nat, s.heap.size ≤ q → A q := fun q h => by rw [← hAe]; exact Or.inr h
  have hS : va_S A s.heap s.heap [] := va_S.rf
  have hP : va_P (dC, dI) vwCl [(oS, .inr (1, [.ref oA, .ref oB, .int (nI h)])), (oA, .inl (cA, n, .inl P)), (oB, .inl (cB, n, .inr (.inl V)))] s.heap := hP
  have hl := lv_entry ([.ref oS, .int p0, .long p1]) (n := 6) (Nat.le_of_ble_eq_true rfl)
  rw [lg_entry_eq]
  generalize (lg_sl ([.ref oS, .int p0, .long p1]) ++ List.replicate (6 - (lg_sl ([.ref oS, .int p0, .long p1])).length) Slot.unset).toArray = ls at hl ⊢
  have hl : lv_has ls 6 [(0, .ref oS), (1, .int p0), (2, .long p1)] := hl
  refine W_name (fun Q hQ9 => ?_)
  refine lv_aload_n hx hb dX0_add_0 rfl (lv_at hl 0 rfl) ?_
  refine va_get (D := (dC, dI)) (ci := 1) (v := .int (nI h)) (C := RX0) (T := TX0) (N := 3) hx hb hts (by decide +kernel) hown hK hP 0 rfl rfl 2 (by decide) (hts (.fieldLink RX0 25 "RelativeFiles$Shelf" "held" "I") (by decide +kernel)) (fun _ h9 => h9) rfl dX0_add_1 ?_
  refine lv_aload_n hx hb dX0_add_4 rfl (lv_at hl 0 rfl) ?_
  refine va_get (D := (dC, dI)) (ci := 1) (v := .ref oA) (C := RX0) (T := TX0) (N := 3) hx hb hts (by decide +kernel) hown hK hP 0 rfl rfl 0 (by decide) (hts (.fieldLink RX0 15 "RelativeFiles$Shelf" "places" "[I") (by decide +kernel)) (fun _ h9 => h9) rfl dX0_add_5 ?_
  refine va_alen (v := nI n) hx hb hK hP 1 0 rfl rfl rfl dX0_add_8 ?_
  refine lv_icmp_lt (tgt := 14) hx hb dX0_add_9 (by decide) (fun c_1 => ?_) (fun c_1 => ?_)
  · -- taken at 9: (nI h) < (nI n)
    refine lv_aload_n hx hb dX0_add_14 rfl (lv_at hl 0 rfl) ?_
    refine lv_iload_n hx hb dX0_add_15 rfl (lv_at hl 1 rfl) ?_
    have hPc := hP.sub (ws' := [(oS, .inr (1, [.ref oA, .ref oB, .int (nI h)])), (oA, .inl (cA, n, .inl P)), (oB, .inl (cB, n, .inr (.inl V)))]) [0, 1, 2] rfl
    have hDc := hD.sub (ws' := [(oS, .inr (1, [.ref oA, .ref oB, .int (nI h)])), (oA, .inl (cA, n, .inl P)), (oB, .inl (cB, n, .inr (.inl V)))]) [0, 1, 2] (by decide) rfl
    have hKc := hK.sub (tys' := [(cA, .int), (cB, .long)]) [0, 1] rfl
    have hFc := va_free (wc := [(oS, .inr (1, [.ref oA, .ref oB, .int (nI h)])), (oA, .inl (cA, n, .inl P)), (oB, .inl (cB, n, .inr (.inl V)))]) hD hS hA [0, 1, 2] rfl
    refine va_calli (va_runV (As := [.int p0]) (rest := []) ⟨hx, hb, hml, hown, hts⟩ (kX0_rank l dC dI oS oA oB cA cB n h P V p0 s.heap.size hh hn) (cwV 1 hts gX0_add_X0_rank rfl rfl rfl (by decide +kernel) ⟨Nat.le_of_ble_eq_true rfl, Nat.le_of_ble_eq_true rfl⟩) ⟨fun a U g mk q => by obtain ⟨q0, q1, qP, qK, qD⟩ := q; exact ⟨q0, q1, qP, va_K.moved (u := U) (U := U.calling g mk a) (Vm.Alike.refl U.vm) qK, qD⟩, va_recv hKc hPc (ci := 1) (q0 := 0) rfl rfl, fun U hU hW => ⟨rfl, by rw [hU], by rw [hU]; exact hPc, va_K.moved hW.alike hKc, hDc.weaken (fun _ _ _ _ => trivial)⟩⟩ rfl rfl hl.1 rfl (lv_room (Nat.le_of_ble_eq_true rfl)) dX0_add_16 ⟨Nat.le_of_ble_eq_true rfl, Nat.le_of_ble_eq_true rfl⟩) hS (fun q _ h => hFc q h) hFc (fun r_2 u t H1 locs ht hvm hw hB hz1 hk1 hS => ?_)
    obtain ⟨hP1, hK1, hD1⟩ := hB
    rw [ht] at hP1
    have hK1 := va_K.moved hvm.symm hK1
    try dsimp only at hw
    obtain ⟨hP, hD⟩ := va_join (wr := []) (w1 := [(oS, .inr (1, [.ref oA, .ref oB, .int (nI h)])), (oA, .inl (cA, n, .inl P)), (oB, .inl (cB, n, .inr (.inl V)))]) hP hD [0, 1, 2] [] rfl rfl (by decide) (by decide) hk1 hFc hP1 hD1
    generalize H1 = H at hP hS ⊢
    have hP : va_P (dC, dI) vwCl [(oS, .inr (1, [.ref oA, .ref oB, .int (nI h)])), (oA, .inl (cA, n, .inl P)), (oB, .inl (cB, n, .inr (.inl V)))] H := hP.sub [0, 1, 2] rfl
    have hD : va_D A [(oS, .inr (1, [.ref oA, .ref oB, .int (nI h)])), (oA, .inl (cA, n, .inl P)), (oB, .inl (cB, n, .inr (.inl V)))] := hD.sub [0, 1, 2] (by decide) rfl
    have hK : va_K (dC, dI) vwCl [(cA, .int), (cB, .long)] s := hK
    subst hw
    refine lv_istore (lv' := [(4, .int (nI (rk P p0 h))), (0, .ref oS), (1, .int p0), (2, .long p1)]) hx hb dX0_add_19 hl (by decide) rfl (fun ls hl => ?_)
    refine lv_aload_n hx hb dX0_add_21 rfl (lv_at hl 1 rfl) ?_
    refine va_get (D := (dC, dI)) (ci := 1) (v := .int (nI h)) (C := RX0) (T := TX0) (N := 3) hx hb hts (by decide +kernel) hown hK hP 0 rfl rfl 2 (by decide) (hts (.fieldLink RX0 25 "RelativeFiles$Shelf" "held" "I") (by decide +kernel)) (fun _ h9 => h9) rfl dX0_add_22 ?_
    refine lv_istore (lv' := [(5, .int (nI h)), (4, .int (nI (rk P p0 h))), (0, .ref oS), (1, .int p0), (2, .long p1)]) hx hb dX0_add_25 hl (by decide) rfl (fun ls hl => ?_)
    have hk9 := rk_le P p0 h
    have loop : ∀ (k i : Nat) (ls : Array Slot) (H : Heap) (locs : List Loc), (rk P p0 h ≤ i) → (i + 1 ≤ k) → (i ≤ h) → lv_has ls 6 [(5, .int (nI i)), (4, .int (nI (rk P p0 h))), (0, .ref oS), (1, .int p0), (2, .long p1)] → va_P (dC, dI) vwCl [(oS, .inr (1, [.ref oA, .ref oB, .int (nI h)])), (oA, .inl (cA, n, .inl (shU P i h))), (oB, .inl (cB, n, .inr (.inl (shU V i h))))] H → va_D A [(oS, .inr (1, [.ref oA, .ref oB, .int (nI h)])), (oA, .inl (cA, n, .inl (shU P i h))), (oB, .inl (cB, n, .inr (.inl (shU V i h))))] → va_S A s.heap H locs → W p l e (headSpec wsX0_add ({ frames := 1, cells := 0, slots := 0, locals := 22 })).room s m #[(Value.ref oS), (Value.int p0), (Value.long p1)] below meth c H locs 0 0 Q (F0 m 27 ls []) := by
      intro k
      induction k with
      | zero => intro i ls H locs h1 h2 h3; exact absurd h2 (by omega)
      | succ k ih =>
        intro i ls H locs h1 h2 h3 hl hP hD hS
        refine lv_iload hx hb dX0_add_27 (lv_at hl 0 rfl) ?_
        refine lv_iload hx hb dX0_add_29 (lv_at hl 1 rfl) ?_
        refine lv_icmp_le (tgt := 72) hx hb dX0_add_31 (by decide) (fun c_3 => ?_) (fun c_3 => ?_)
        · -- taken at 31: (nI i) ≤ (nI (rk P p0 h))
          have e8 : rk P p0 h = i := by have := (nI_leI (by omega) (by omega)).mp c_3; omega
          refine lv_aload_n hx hb dX0_add_72 rfl (lv_at hl 2 rfl) ?_
          refine va_get (D := (dC, dI)) (ci := 1) (v := .ref oA) (C := RX0) (T := TX0) (N := 3) hx hb hts (by decide +kernel) hown hK hP 0 rfl rfl 0 (by decide) (hts (.fieldLink RX0 15 "RelativeFiles$Shelf" "places" "[I") (by decide +kernel)) (fun _ h9 => h9) rfl dX0_add_73 ?_
          refine lv_iload hx hb dX0_add_76 (lv_at hl 1 rfl) ?_
          refine lv_iload_n hx hb dX0_add_78 rfl (lv_at hl 3 rfl) ?_
          refine va_iast hx hb hK hP hD hS 1 0 rfl rfl (vp_in_nI (by omega) (by omega)) dX0_add_79 (fun H locs hP hD hS => ?_)
          have hP : va_P (dC, dI) vwCl [(oS, .inr (1, [.ref oA, .ref oB, .int (nI h)])), (oA, .inl (cA, n, .inl (upd (shU P i h) (nI (rk P p0 h)).toNatClampNeg p0))), (oB, .inl (cB, n, .inr (.inl (shU V i h))))] H := hP
          have hD : va_D A [(oS, .inr (1, [.ref oA, .ref oB, .int (nI h)])), (oA, .inl (cA, n, .inl (upd (shU P i h) (nI (rk P p0 h)).toNatClampNeg p0))), (oB, .inl (cB, n, .inr (.inl (shU V i h))))] := hD
          rw [show upd (shU P i h) (nI (rk P p0 h)).toNatClampNeg p0 = insA P (rk P p0 h) p0 h from by rw [nI_clamp (by omega)]; have e := shU_ins P (i := rk P p0 h) (h := h) p0; rw [e8] at e ⊢; exact e] at hP hD
          refine lv_aload_n hx hb dX0_add_80 rfl (lv_at hl 2 rfl) ?_
          refine va_get (D := (dC, dI)) (ci := 1) (v := .ref oB) (C := RX0) (T := TX0) (N := 3) hx hb hts (by decide +kernel) hown hK hP 0 rfl rfl 1 (by decide) (hts (.fieldLink RX0 21 "RelativeFiles$Shelf" "values" "[J") (by decide +kernel)) (fun _ h9 => h9) rfl dX0_add_81 ?_
          refine lv_iload hx hb dX0_add_84 (lv_at hl 1 rfl) ?_
          refine lv_lload_n hx hb dX0_add_86 rfl (lv_at hl 4 rfl) ?_
          refine va_last hx hb hK hP hD hS 2 1 rfl rfl (vp_in_nI (by omega) (by omega)) dX0_add_87 (fun H locs hP hD hS => ?_)
          have hP : va_P (dC, dI) vwCl [(oS, .inr (1, [.ref oA, .ref oB, .int (nI h)])), (oA, .inl (cA, n, .inl (insA P (rk P p0 h) p0 h))), (oB, .inl (cB, n, .inr (.inl (vp_updL (shU V i h) (nI (rk P p0 h)).toNatClampNeg p1))))] H := hP
          have hD : va_D A [(oS, .inr (1, [.ref oA, .ref oB, .int (nI h)])), (oA, .inl (cA, n, .inl (insA P (rk P p0 h) p0 h))), (oB, .inl (cB, n, .inr (.inl (vp_updL (shU V i h) (nI (rk P p0 h)).toNatClampNeg p1))))] := hD
          rw [show vp_updL (shU V i h) (nI (rk P p0 h)).toNatClampNeg p1 = insA V (rk P p0 h) p1 h from by rw [nI_clamp (by omega)]; have e := shU_insL V (i := rk P p0 h) (h := h) p1; rw [e8] at e ⊢; exact e] at hP hD
          refine lv_aload_n hx hb dX0_add_88 rfl (lv_at hl 2 rfl) ?_
          refine lv_dup hx hb dX0_add_89 rfl ?_
          refine va_get (D := (dC, dI)) (ci := 1) (v := .int (nI h)) (C := RX0) (T := TX0) (N := 3) hx hb hts (by decide +kernel) hown hK hP 0 rfl rfl 2 (by decide) (hts (.fieldLink RX0 25 "RelativeFiles$Shelf" "held" "I") (by decide +kernel)) (fun _ h9 => h9) rfl dX0_add_90 ?_
          refine lv_iconst (v := 1) hx hb dX0_add_93 (by decide) ?_
          refine lv_iadd hx hb dX0_add_94 ?_
          rw [show (nI h) + 1 = nI (h + 1) from (nI_succ h).symm]
          refine va_put (D := (dC, dI)) (ci := 1) (v := .int (nI (h + 1))) (ty := .int) (C := RX0) (T := TX0) (N := 3) hx hb hts (by decide +kernel) tyX0 tyX0_ok nmX0 hown hK hP hD hS 0 rfl rfl 2 (by decide) (hts (.fieldLink RX0 25 "RelativeFiles$Shelf" "held" "I") (by decide +kernel)) (fun _ h9 => h9) rfl (by decide +kernel) rfl rfl (Nat.le_of_ble_eq_true rfl) dX0_add_95 (fun H locs hP hD hS => ?_)
          have hP : va_P (dC, dI) vwCl [(oS, .inr (1, [.ref oA, .ref oB, .int (nI (h + 1))])), (oA, .inl (cA, n, .inl (insA P (rk P p0 h) p0 h))), (oB, .inl (cB, n, .inr (.inl (insA V (rk P p0 h) p1 h))))] H := hP
          have hD : va_D A [(oS, .inr (1, [.ref oA, .ref oB, .int (nI (h + 1))])), (oA, .inl (cA, n, .inl (insA P (rk P p0 h) p0 h))), (oB, .inl (cB, n, .inr (.inl (insA V (rk P p0 h) p1 h))))] := hD
          refine lv_iconst (v := 1) hx hb dX0_add_98 (by decide) ?_
          subst hQ9
          exact W.zret (ty := .boolean) (v := 1) hx hb hr (by decide) (fun t ht hW => ⟨⟨1, (), rfl, rfl, by rw [ht]; exact hP, va_K.moved hW.alike hK, hD⟩, hS.F ht⟩) hS.2.2 dX0_add_99
        · -- not taken at 31: ¬ (nI i) ≤ (nI (rk P p0 h))
          obtain ⟨i, rfl⟩ : ∃ i9, i = i9 + 1 := by rcases i with _ | i9; exact absurd (nI_le (Nat.zero_le _) (by omega)) c_3; exact ⟨i9, rfl⟩
          have e7 : rk P p0 h ≤ i := by rcases Nat.lt_or_ge i (rk P p0 h) with q | q; exact absurd (nI_le q (by omega)) c_3; exact q
          refine lv_aload_n hx hb dX0_add_34 rfl (lv_at hl 2 rfl) ?_
          refine va_get (D := (dC, dI)) (ci := 1) (v := .ref oA) (C := RX0) (T := TX0) (N := 3) hx hb hts (by decide +kernel) hown hK hP 0 rfl rfl 0 (by decide) (hts (.fieldLink RX0 15 "RelativeFiles$Shelf" "places" "[I") (by decide +kernel)) (fun _ h9 => h9) rfl dX0_add_35 ?_
          refine lv_iload hx hb dX0_add_38 (lv_at hl 0 rfl) ?_
          refine lv_aload_n hx hb dX0_add_40 rfl (lv_at hl 2 rfl) ?_
          refine va_get (D := (dC, dI)) (ci := 1) (v := .ref oA) (C := RX0) (T := TX0) (N := 3) hx hb hts (by decide +kernel) hown hK hP 0 rfl rfl 0 (by decide) (hts (.fieldLink RX0 15 "RelativeFiles$Shelf" "places" "[I") (by decide +kernel)) (fun _ h9 => h9) rfl dX0_add_41 ?_
          refine lv_iload hx hb dX0_add_44 (lv_at hl 0 rfl) ?_
          refine lv_iconst (v := 1) hx hb dX0_add_46 (by decide) ?_
          refine lv_isub hx hb dX0_add_47 ?_
          rw [show (nI (i + 1)) - 1 = nI i from nI_pred i]
          refine va_iald hx hb hK hP 1 0 rfl rfl (vp_in_nI (by omega) (by omega)) dX0_add_48 ?_
          rw [show (shU P (i + 1) h) ((nI i).toNatClampNeg) = shU P (i + 1) h i from by rw [nI_clamp (by omega)]]
          refine va_iast hx hb hK hP hD hS 1 0 rfl rfl (vp_in_nI (by omega) (by omega)) dX0_add_49 (fun H locs hP hD hS => ?_)
          have hP : va_P (dC, dI) vwCl [(oS, .inr (1, [.ref oA, .ref oB, .int (nI h)])), (oA, .inl (cA, n, .inl (upd (shU P (i + 1) h) (nI (i + 1)).toNatClampNeg (shU P (i + 1) h i)))), (oB, .inl (cB, n, .inr (.inl (shU V (i + 1) h))))] H := hP
          have hD : va_D A [(oS, .inr (1, [.ref oA, .ref oB, .int (nI h)])), (oA, .inl (cA, n, .inl (upd (shU P (i + 1) h) (nI (i + 1)).toNatClampNeg (shU P (i + 1) h i)))), (oB, .inl (cB, n, .inr (.inl (shU V (i + 1) h))))] := hD
          rw [show upd (shU P (i + 1) h) (nI (i + 1)).toNatClampNeg (shU P (i + 1) h i) = shU P i h from by rw [nI_clamp (by omega)]; exact shU_step P (by omega)] at hP hD
          refine lv_aload_n hx hb dX0_add_50 rfl (lv_at hl 2 rfl) ?_
          refine va_get (D := (dC, dI)) (ci := 1) (v := .ref oB) (C := RX0) (T := TX0) (N := 3) hx hb hts (by decide +kernel) hown hK hP 0 rfl rfl 1 (by decide) (hts (.fieldLink RX0 21 "RelativeFiles$Shelf" "values" "[J") (by decide +kernel)) (fun _ h9 => h9) rfl dX0_add_51 ?_
          refine lv_iload hx hb dX0_add_54 (lv_at hl 0 rfl) ?_
          refine lv_aload_n hx hb dX0_add_56 rfl (lv_at hl 2 rfl) ?_
          refine va_get (D := (dC, dI)) (ci := 1) (v := .ref oB) (C := RX0) (T := TX0) (N := 3) hx hb hts (by decide +kernel) hown hK hP 0 rfl rfl 1 (by decide) (hts (.fieldLink RX0 21 "RelativeFiles$Shelf" "values" "[J") (by decide +kernel)) (fun _ h9 => h9) rfl dX0_add_57 ?_
          refine lv_iload hx hb dX0_add_60 (lv_at hl 0 rfl) ?_
          refine lv_iconst (v := 1) hx hb dX0_add_62 (by decide) ?_
          refine lv_isub hx hb dX0_add_63 ?_
          rw [show (nI (i + 1)) - 1 = nI i from nI_pred i]
          refine va_lald hx hb hK hP 2 1 rfl rfl (vp_in_nI (by omega) (by omega)) dX0_add_64 ?_
          rw [show (shU V (i + 1) h) ((nI i).toNatClampNeg) = shU V (i + 1) h i from by rw [nI_clamp (by omega)]]
          refine va_last hx hb hK hP hD hS 2 1 rfl rfl (vp_in_nI (by omega) (by omega)) dX0_add_65 (fun H locs hP hD hS => ?_)
          have hP : va_P (dC, dI) vwCl [(oS, .inr (1, [.ref oA, .ref oB, .int (nI h)])), (oA, .inl (cA, n, .inl (shU P i h))), (oB, .inl (cB, n, .inr (.inl (vp_updL (shU V (i + 1) h) (nI (i + 1)).toNatClampNeg (shU V (i + 1) h i)))))] H := hP
          have hD : va_D A [(oS, .inr (1, [.ref oA, .ref oB, .int (nI h)])), (oA, .inl (cA, n, .inl (shU P i h))), (oB, .inl (cB, n, .inr (.inl (vp_updL (shU V (i + 1) h) (nI (i + 1)).toNatClampNeg (shU V (i + 1) h i)))))] := hD
          rw [show vp_updL (shU V (i + 1) h) (nI (i + 1)).toNatClampNeg (shU V (i + 1) h i) = shU V i h from by rw [nI_clamp (by omega)]; exact shU_stepL V (by omega)] at hP hD
          refine lv_iinc (v := (nI i)) (lv' := [(5, .int (nI i)), (4, .int (nI (rk P p0 h))), (0, .ref oS), (1, .int p0), (2, .long p1)]) hx hb dX0_add_66 hl (k := 0) rfl (by rw [show Int32.ofInt (-1) = -1 from by decide]; exact pk_m1 i) (by decide) rfl (fun ls hl => ?_)
          refine lv_goto (tgt := 27) hx hb dX0_add_69 (by decide) ?_
          exact ih i ls _ _ (by omega) (by omega) (by omega) (lv_sub hl [0, 1, 2, 3, 4] rfl) hP hD hS
    exact loop (h + 1) h  ls _ _ (by omega) (Nat.le_refl _) (Nat.le_refl h) hl (by rw [shU_top, shU_top]; exact hP) (by rw [shU_top, shU_top]; exact hD) hS
  · -- not taken at 9: ¬ (nI h) < (nI n)
    exact absurd (nI_lt hlt (by omega)) c_1

set_option maxHeartbeats 1000000 in
set_option maxRecDepth 100000 in
theorem kX0_replace (l : Launch) (dC : Nat → ClassId) (dI : Nat → Nat → Nat) (oS oA oB : Nat) (cA cB : ClassId) (n h : Nat) (P : Nat → Int32) (V : Nat → Int64) (p0 : Int32) (p1 : Int64) (sz : Nat) (hh : h ≤ n) (hn : n ≤ 512) (hq : hasS P h p0) : Met l yX0_replace wsX0_replace ({ frames := 1, cells := 0, slots := 0, locals := 22 }) (va_Pc [.ref oS, .int p0, .long p1] (fun U => U.heap.size = sz ∧ va_P (dC, dI) vwCl [(oS, .inr (1, [.ref oA, .ref oB, .int (nI h)])), (oA, .inl (cA, n, .inl P)), (oB, .inl (cB, n, .inr (.inl V)))] U.heap ∧ va_K (dC, dI) vwCl [(cA, .int), (cB, .long)] U ∧ va_D (fun _ => True) [(oS, .inr (1, [.ref oA, .ref oB, .int (nI h)])), (oA, .inl (cA, n, .inl P)), (oB, .inl (cB, n, .inr (.inl V)))])) (va_Qv (fun (_ : Unit) => True) (fun (_ : Unit) (t : State) => va_P (dC, dI) vwCl [(oS, .inr (1, [.ref oA, .ref oB, .int (nI h)])), (oA, .inl (cA, n, .inl P)), (oB, .inl (cB, n, .inr (.inl (vp_updL V (rk P p0 h) p1))))] t.heap ∧ va_K (dC, dI) vwCl [(cA, .int), (cB, .long)] t ∧ va_D (va_A [(oS, .inr (1, [.ref oA, .ref oB, .int (nI h)])), (oA, .inl (cA, n, .inl P)), (oB, .inl (cB, n, .inr (.inl V)))] sz) [(oS, .inr (1, [.ref oA, .ref oB, .int (nI h)])), (oA, .inl (cA, n, .inl P)), (oB, .inl (cB, n, .inr (.inl (vp_updL V (rk P p0 h) p1))))]) (va_A [(oS, .inr (1, [.ref oA, .ref oB, .int (nI h)])), (oA, .inl (cA, n, .inl P)), (oB, .inl (cB, n, .inr (.inl V)))] sz)) 0 0 (va_A [(oS, .inr (1, [.ref oA, .ref oB, .int (nI h)])), (oA, .inl (cA, n, .inl P)), (oB, .inl (cB, n, .inr (.inl V)))] sz) := by
  refine Met.ofW (cc := cX0_replace) (maxL := 5) (ret := none) (by decide) rfl ?_
  intro p e s m args below meth c s₁ B hml hv
  obtain ⟨rfl, hsz, hP, hK, hD0⟩ := hv
  have hx := B.exec
  have hb := B.bytes
  have hr := B.returns
  have hts := atoms_spec (ws := wsX0_replace) B.pre
  have hown : s.vm.findClass RX0 = some m.cls := findClass_of_methodNamed B.named
  have hlocks := B.notSynchronized
  subst hsz
  have hD := hD0.self (sz := s.heap.size)
  generalize hAe : va_A [(oS, .inr (1, [.ref oA, .ref oB, .int (nI h)])), (oA, .inl (cA, n, .inl P)), (oB, .inl (cB, n, .inr (.inl V)))] s.heap.size = A at hD ⊢
  have hA : ∀ q : Nat, s.heap.size ≤ q → A q := fun q h => by rw [← hAe]; exact Or.inr h
  have hS : va_S A s.heap s.heap [] := va_S.rf
  have hP : va_P (dC, dI) vwCl [(oS, .inr (1, [.ref oA, .ref oB, .int (nI h)])), (oA, .inl (cA, n, .inl P)), (oB, .inl (cB, n, .inr (.inl V)))] s.heap := hP
  have hl := lv_entry ([.ref oS, .int p0, .long p1]) (n := 5) (Nat.le_of_ble_eq_true rfl)
  rw [lg_entry_eq]
  generalize (lg_sl ([.ref oS, .int p0, .long p1]) ++ List.replicate (5 - (lg_sl ([.ref oS, .int p0, .long p1])).length) Slot.unset).toArray = ls at hl ⊢
  have hl : lv_has ls 5 [(0, .ref oS), (1, .int p0), (2, .long p1)] := hl
  refine W_name (fun Q hQ9 => ?_)
  refine lv_aload_n hx hb dX0_replace_0 rfl (lv_at hl 0 rfl) ?_
  refine lv_iload_n hx hb dX0_replace_1 rfl (lv_at hl 1 rfl) ?_
  have hPc := hP.sub (ws' := [(oS, .inr (1, [.ref oA, .ref oB, .int (nI h)])), (oA, .inl (cA, n, .inl P)), (oB, .inl (cB, n, .inr (.inl V)))]) [0, 1, 2] rfl
  have hDc := hD.sub (ws' := [(oS, .inr (1, [.ref oA, .ref oB, .int (nI h)])), (oA, .inl (cA, n, .inl P)), (oB, .inl (cB, n, .inr (.inl V)))]) [0, 1, 2] (by decide) rfl
  have hKc := hK.sub (tys' := [(cA, .int), (cB, .long)]) [0, 1] rfl
  have hFc := va_free (wc := [(oS, .inr (1, [.ref oA, .ref oB, .int (nI h)])), (oA, .inl (cA, n, .inl P)), (oB, .inl (cB, n, .inr (.inl V)))]) hD hS hA [0, 1, 2] rfl
  refine va_calli (va_runV (As := [.int p0]) (rest := []) ⟨hx, hb, hml, hown, hts⟩ (kX0_rank l dC dI oS oA oB cA cB n h P V p0 s.heap.size hh hn) (cwV 1 hts gX0_replace_X0_rank rfl rfl rfl (by decide +kernel) ⟨Nat.le_of_ble_eq_true rfl, Nat.le_of_ble_eq_true rfl⟩) ⟨fun a U g mk q => by obtain ⟨q0, q1, qP, qK, qD⟩ := q; exact ⟨q0, q1, qP, va_K.moved (u := U) (U := U.calling g mk a) (Vm.Alike.refl U.vm) qK, qD⟩, va_recv hKc hPc (ci := 1) (q0 := 0) rfl rfl, fun U hU hW => ⟨rfl, by rw [hU], by rw [hU]; exact hPc, va_K.moved hW.alike hKc, hDc.weaken (fun _ _ _ _ => trivial)⟩⟩ rfl rfl hl.1 rfl (lv_room (Nat.le_of_ble_eq_true rfl)) dX0_replace_2 ⟨Nat.le_of_ble_eq_true rfl, Nat.le_of_ble_eq_true rfl⟩) hS (fun q _ h => hFc q h) hFc (fun r_1 u t H1 locs ht hvm hw hB hz1 hk1 hS => ?_)
  obtain ⟨hP1, hK1, hD1⟩ := hB
  rw [ht] at hP1
  have hK1 := va_K.moved hvm.symm hK1
  try dsimp only at hw
  obtain ⟨hP, hD⟩ := va_join (wr := []) (w1 := [(oS, .inr (1, [.ref oA, .ref oB, .int (nI h)])), (oA, .inl (cA, n, .inl P)), (oB, .inl (cB, n, .inr (.inl V)))]) hP hD [0, 1, 2] [] rfl rfl (by decide) (by decide) hk1 hFc hP1 hD1
  generalize H1 = H at hP hS ⊢
  have hP : va_P (dC, dI) vwCl [(oS, .inr (1, [.ref oA, .ref oB, .int (nI h)])), (oA, .inl (cA, n, .inl P)), (oB, .inl (cB, n, .inr (.inl V)))] H := hP.sub [0, 1, 2] rfl
  have hD : va_D A [(oS, .inr (1, [.ref oA, .ref oB, .int (nI h)])), (oA, .inl (cA, n, .inl P)), (oB, .inl (cB, n, .inr (.inl V)))] := hD.sub [0, 1, 2] (by decide) rfl
  have hK : va_K (dC, dI) vwCl [(cA, .int), (cB, .long)] s := hK
  subst hw
  refine lv_istore (lv' := [(4, .int (nI (rk P p0 h))), (0, .ref oS), (1, .int p0), (2, .long p1)]) hx hb dX0_replace_5 hl (by decide) rfl (fun ls hl => ?_)
  refine lv_aload_n hx hb dX0_replace_7 rfl (lv_at hl 1 rfl) ?_
  refine lv_iload hx hb dX0_replace_8 (lv_at hl 0 rfl) ?_
  refine lv_iload_n hx hb dX0_replace_10 rfl (lv_at hl 2 rfl) ?_
  have hPc := hP.sub (ws' := [(oS, .inr (1, [.ref oA, .ref oB, .int (nI h)])), (oA, .inl (cA, n, .inl P)), (oB, .inl (cB, n, .inr (.inl V)))]) [0, 1, 2] rfl
  have hDc := hD.sub (ws' := [(oS, .inr (1, [.ref oA, .ref oB, .int (nI h)])), (oA, .inl (cA, n, .inl P)), (oB, .inl (cB, n, .inr (.inl V)))]) [0, 1, 2] (by decide) rfl
  have hKc := hK.sub (tys' := [(cA, .int), (cB, .long)]) [0, 1] rfl
  have hFc := va_free (wc := [(oS, .inr (1, [.ref oA, .ref oB, .int (nI h)])), (oA, .inl (cA, n, .inl P)), (oB, .inl (cB, n, .inr (.inl V)))]) hD hS hA [0, 1, 2] rfl
  refine va_calli (va_runV (As := [.int (nI (rk P p0 h)), .int p0]) (rest := []) ⟨hx, hb, hml, hown, hts⟩ (kX0_isAt l dC dI oS oA oB cA cB n h P V (rk P p0 h) p0 H.size hh hn (by first | omega | exact rk_le _ _ _)) (cwV 2 hts gX0_replace_X0_isAt rfl rfl rfl (by decide +kernel) ⟨Nat.le_of_ble_eq_true rfl, Nat.le_of_ble_eq_true rfl⟩) ⟨fun a U g mk q => by obtain ⟨q0, q1, qP, qK, qD⟩ := q; exact ⟨q0, q1, qP, va_K.moved (u := U) (U := U.calling g mk a) (Vm.Alike.refl U.vm) qK, qD⟩, va_recv hKc hPc (ci := 1) (q0 := 0) rfl rfl, fun U hU hW => ⟨rfl, by rw [hU], by rw [hU]; exact hPc, va_K.moved hW.alike hKc, hDc.weaken (fun _ _ _ _ => trivial)⟩⟩ rfl rfl hl.1 rfl (lv_room (Nat.le_of_ble_eq_true rfl)) dX0_replace_11 ⟨Nat.le_of_ble_eq_true rfl, Nat.le_of_ble_eq_true rfl⟩) hS (fun q _ h => hFc q h) hFc (fun r_2 u t H1 locs ht hvm hw hB hz1 hk1 hS => ?_)
  obtain ⟨hP1, hK1, hD1⟩ := hB
  rw [ht] at hP1
  have hK1 := va_K.moved hvm.symm hK1
  try dsimp only at hw
  obtain ⟨hP, hD⟩ := va_join (wr := []) (w1 := [(oS, .inr (1, [.ref oA, .ref oB, .int (nI h)])), (oA, .inl (cA, n, .inl P)), (oB, .inl (cB, n, .inr (.inl V)))]) hP hD [0, 1, 2] [] rfl rfl (by decide) (by decide) hk1 hFc hP1 hD1
  generalize H1 = H at hP hS ⊢
  have hP : va_P (dC, dI) vwCl [(oS, .inr (1, [.ref oA, .ref oB, .int (nI h)])), (oA, .inl (cA, n, .inl P)), (oB, .inl (cB, n, .inr (.inl V)))] H := hP.sub [0, 1, 2] rfl
  have hD : va_D A [(oS, .inr (1, [.ref oA, .ref oB, .int (nI h)])), (oA, .inl (cA, n, .inl P)), (oB, .inl (cB, n, .inr (.inl V)))] := hD.sub [0, 1, 2] (by decide) rfl
  have hK : va_K (dC, dI) vwCl [(cA, .int), (cB, .long)] s := hK
  rcases hw with ⟨b_3, hw⟩ | ⟨b_3, hw⟩
  · -- (rk P p0 h) < h ∧ P (rk P p0 h) = p0
    subst hw
    refine lv_if_eq (tgt := 25) hx hb dX0_replace_14 (by decide) (fun c_4 => ?_) (fun c_4 => ?_)
    · -- taken at 14: 1 = 0
      exact absurd c_4 (by decide)
    · -- not taken at 14: ¬ 1 = 0
      refine lv_aload_n hx hb dX0_replace_17 rfl (lv_at hl 1 rfl) ?_
      refine va_get (D := (dC, dI)) (ci := 1) (v := .ref oB) (C := RX0) (T := TX0) (N := 3) hx hb hts (by decide +kernel) hown hK hP 0 rfl rfl 1 (by decide) (hts (.fieldLink RX0 21 "RelativeFiles$Shelf" "values" "[J") (by decide +kernel)) (fun _ h9 => h9) rfl dX0_replace_18 ?_
      refine lv_iload hx hb dX0_replace_21 (lv_at hl 0 rfl) ?_
      refine lv_lload_n hx hb dX0_replace_23 rfl (lv_at hl 3 rfl) ?_
      refine va_last hx hb hK hP hD hS 2 1 rfl rfl (vp_in_nI (by have := hq.1; omega) (by omega)) dX0_replace_24 (fun H locs hP hD hS => ?_)
      have hP : va_P (dC, dI) vwCl [(oS, .inr (1, [.ref oA, .ref oB, .int (nI h)])), (oA, .inl (cA, n, .inl P)), (oB, .inl (cB, n, .inr (.inl (vp_updL V (nI (rk P p0 h)).toNatClampNeg p1))))] H := hP
      have hD : va_D A [(oS, .inr (1, [.ref oA, .ref oB, .int (nI h)])), (oA, .inl (cA, n, .inl P)), (oB, .inl (cB, n, .inr (.inl (vp_updL V (nI (rk P p0 h)).toNatClampNeg p1))))] := hD
      rw [show vp_updL V (nI (rk P p0 h)).toNatClampNeg p1 = vp_updL V (rk P p0 h) p1 from by rw [nI_clamp (by have := rk_le P p0 h; omega)]] at hP hD
      subst hQ9
      exact W.vret hx hb hr (fun t ht hW => ⟨⟨(), rfl, trivial, by rw [ht]; exact hP, va_K.moved hW.alike hK, hD⟩, hS.F ht⟩) hS.2.2 dX0_replace_25
  · -- ¬ ((rk P p0 h) < h ∧ P (rk P p0 h) = p0)
    subst hw
    exact absurd hq b_3

set_option maxHeartbeats 1000000 in
set_option maxRecDepth 100000 in
theorem kX0_drop (l : Launch) (dC : Nat → ClassId) (dI : Nat → Nat → Nat) (oS oA oB : Nat) (cA cB : ClassId) (n h : Nat) (P : Nat → Int32) (V : Nat → Int64) (p0 : Int32) (sz : Nat) (hh : h ≤ n) (hn : n ≤ 512) (hq : hasS P h p0) : Met l yX0_drop wsX0_drop ({ frames := 1, cells := 0, slots := 0, locals := 22 }) (va_Pc [.ref oS, .int p0] (fun U => U.heap.size = sz ∧ va_P (dC, dI) vwCl [(oS, .inr (1, [.ref oA, .ref oB, .int (nI h)])), (oA, .inl (cA, n, .inl P)), (oB, .inl (cB, n, .inr (.inl V)))] U.heap ∧ va_K (dC, dI) vwCl [(cA, .int), (cB, .long)] U ∧ va_D (fun _ => True) [(oS, .inr (1, [.ref oA, .ref oB, .int (nI h)])), (oA, .inl (cA, n, .inl P)), (oB, .inl (cB, n, .inr (.inl V)))])) (va_Qv (fun (_ : Unit) => True) (fun (_ : Unit) (t : State) => va_P (dC, dI) vwCl [(oS, .inr (1, [.ref oA, .ref oB, .int (nI (h - 1))])), (oA, .inl (cA, n, .inl (delA P (rk P p0 h) (h - 1)))), (oB, .inl (cB, n, .inr (.inl (delA V (rk P p0 h) (h - 1)))))] t.heap ∧ va_K (dC, dI) vwCl [(cA, .int), (cB, .long)] t ∧ va_D (va_A [(oS, .inr (1, [.ref oA, .ref oB, .int (nI h)])), (oA, .inl (cA, n, .inl P)), (oB, .inl (cB, n, .inr (.inl V)))] sz) [(oS, .inr (1, [.ref oA, .ref oB, .int (nI (h - 1))])), (oA, .inl (cA, n, .inl (delA P (rk P p0 h) (h - 1)))), (oB, .inl (cB, n, .inr (.inl (delA V (rk P p0 h) (h - 1)))))]) (va_A [(oS, .inr (1, [.ref oA, .ref oB, .int (nI h)])), (oA, .inl (cA, n, .inl P)), (oB, .inl (cB, n, .inr (.inl V)))] sz)) 0 0 (va_A [(oS, .inr (1, [.ref oA, .ref oB, .int (nI h)])), (oA, .inl (cA, n, .inl P)), (oB, .inl (cB, n, .inr (.inl V)))] sz) := by
  refine Met.ofW (cc := cX0_drop) (maxL := 4) (ret := none) (by decide) rfl ?_
  intro p e s m args below meth c s₁ B hml hv
  obtain ⟨rfl, hsz, hP, hK, hD0⟩ := hv
  have hx := B.exec
  have hb := B.bytes
  have hr := B.returns
  have hts := atoms_spec (ws := wsX0_drop) B.pre
  have hown : s.vm.findClass RX0 = some m.cls := findClass_of_methodNamed B.named
  have hlocks := B.notSynchronized
  subst hsz
  have hD := hD0.self (sz := s.heap.size)
  generalize hAe : va_A [(oS, .inr (1, [.ref oA, .ref oB, .int (nI h)])), (oA, .inl (cA, n, .inl P)), (oB, .inl (cB, n, .inr (.inl V)))] s.heap.size = A at hD ⊢
  have hA : ∀ q : Nat, s.heap.size ≤ q → A q := fun q h => by rw [← hAe]; exact Or.inr h
  have hS : va_S A s.heap s.heap [] := va_S.rf
  have hP : va_P (dC, dI) vwCl [(oS, .inr (1, [.ref oA, .ref oB, .int (nI h)])), (oA, .inl (cA, n, .inl P)), (oB, .inl (cB, n, .inr (.inl V)))] s.heap := hP
  have hl := lv_entry ([.ref oS, .int p0]) (n := 4) (Nat.le_of_ble_eq_true rfl)
  rw [lg_entry_eq]
  generalize (lg_sl ([.ref oS, .int p0]) ++ List.replicate (4 - (lg_sl ([.ref oS, .int p0])).length) Slot.unset).toArray = ls at hl ⊢
  have hl : lv_has ls 4 [(0, .ref oS), (1, .int p0)] := hl
  refine W_name (fun Q hQ9 => ?_)
  refine lv_aload_n hx hb dX0_drop_0 rfl (lv_at hl 0 rfl) ?_
  refine lv_iload_n hx hb dX0_drop_1 rfl (lv_at hl 1 rfl) ?_
  have hPc := hP.sub (ws' := [(oS, .inr (1, [.ref oA, .ref oB, .int (nI h)])), (oA, .inl (cA, n, .inl P)), (oB, .inl (cB, n, .inr (.inl V)))]) [0, 1, 2] rfl
  have hDc := hD.sub (ws' := [(oS, .inr (1, [.ref oA, .ref oB, .int (nI h)])), (oA, .inl (cA, n, .inl P)), (oB, .inl (cB, n, .inr (.inl V)))]) [0, 1, 2] (by decide) rfl
  have hKc := hK.sub (tys' := [(cA, .int), (cB, .long)]) [0, 1] rfl
  have hFc := va_free (wc := [(oS, .inr (1, [.ref oA, .ref oB, .int (nI h)])), (oA, .inl (cA, n, .inl P)), (oB, .inl (cB, n, .inr (.inl V)))]) hD hS hA [0, 1, 2] rfl
  refine va_calli (va_runV (As := [.int p0]) (rest := []) ⟨hx, hb, hml, hown, hts⟩ (kX0_rank l dC dI oS oA oB cA cB n h P V p0 s.heap.size hh hn) (cwV 1 hts gX0_drop_X0_rank rfl rfl rfl (by decide +kernel) ⟨Nat.le_of_ble_eq_true rfl, Nat.le_of_ble_eq_true rfl⟩) ⟨fun a U g mk q => by obtain ⟨q0, q1, qP, qK, qD⟩ := q; exact ⟨q0, q1, qP, va_K.moved (u := U) (U := U.calling g mk a) (Vm.Alike.refl U.vm) qK, qD⟩, va_recv hKc hPc (ci := 1) (q0 := 0) rfl rfl, fun U hU hW => ⟨rfl, by rw [hU], by rw [hU]; exact hPc, va_K.moved hW.alike hKc, hDc.weaken (fun _ _ _ _ => trivial)⟩⟩ rfl rfl hl.1 rfl (lv_room (Nat.le_of_ble_eq_true rfl)) dX0_drop_2 ⟨Nat.le_of_ble_eq_true rfl, Nat.le_of_ble_eq_true rfl⟩) hS (fun q _ h => hFc q h) hFc (fun r_1 u t H1 locs ht hvm hw hB hz1 hk1 hS => ?_)
  obtain ⟨hP1, hK1, hD1⟩ := hB
  rw [ht] at hP1
  have hK1 := va_K.moved hvm.symm hK1
  try dsimp only at hw
  obtain ⟨hP, hD⟩ := va_join (wr := []) (w1 := [(oS, .inr (1, [.ref oA, .ref oB, .int (nI h)])), (oA, .inl (cA, n, .inl P)), (oB, .inl (cB, n, .inr (.inl V)))]) hP hD [0, 1, 2] [] rfl rfl (by decide) (by decide) hk1 hFc hP1 hD1
  generalize H1 = H at hP hS ⊢
  have hP : va_P (dC, dI) vwCl [(oS, .inr (1, [.ref oA, .ref oB, .int (nI h)])), (oA, .inl (cA, n, .inl P)), (oB, .inl (cB, n, .inr (.inl V)))] H := hP.sub [0, 1, 2] rfl
  have hD : va_D A [(oS, .inr (1, [.ref oA, .ref oB, .int (nI h)])), (oA, .inl (cA, n, .inl P)), (oB, .inl (cB, n, .inr (.inl V)))] := hD.sub [0, 1, 2] (by decide) rfl
  have hK : va_K (dC, dI) vwCl [(cA, .int), (cB, .long)] s := hK
  subst hw
  refine lv_istore_n (lv' := [(2, .int (nI (rk P p0 h))), (0, .ref oS), (1, .int p0)]) hx hb dX0_drop_5 rfl hl (by decide) rfl (fun ls hl => ?_)
  refine lv_aload_n hx hb dX0_drop_6 rfl (lv_at hl 1 rfl) ?_
  refine lv_iload_n hx hb dX0_drop_7 rfl (lv_at hl 0 rfl) ?_
  refine lv_iload_n hx hb dX0_drop_8 rfl (lv_at hl 2 rfl) ?_
  have hPc := hP.sub (ws' := [(oS, .inr (1, [.ref oA, .ref oB, .int (nI h)])), (oA, .inl (cA, n, .inl P)), (oB, .inl (cB, n, .inr (.inl V)))]) [0, 1, 2] rfl
  have hDc := hD.sub (ws' := [(oS, .inr (1, [.ref oA, .ref oB, .int (nI h)])), (oA, .inl (cA, n, .inl P)), (oB, .inl (cB, n, .inr (.inl V)))]) [0, 1, 2] (by decide) rfl
  have hKc := hK.sub (tys' := [(cA, .int), (cB, .long)]) [0, 1] rfl
  have hFc := va_free (wc := [(oS, .inr (1, [.ref oA, .ref oB, .int (nI h)])), (oA, .inl (cA, n, .inl P)), (oB, .inl (cB, n, .inr (.inl V)))]) hD hS hA [0, 1, 2] rfl
  refine va_calli (va_runV (As := [.int (nI (rk P p0 h)), .int p0]) (rest := []) ⟨hx, hb, hml, hown, hts⟩ (kX0_isAt l dC dI oS oA oB cA cB n h P V (rk P p0 h) p0 H.size hh hn (by first | omega | exact rk_le _ _ _)) (cwV 2 hts gX0_drop_X0_isAt rfl rfl rfl (by decide +kernel) ⟨Nat.le_of_ble_eq_true rfl, Nat.le_of_ble_eq_true rfl⟩) ⟨fun a U g mk q => by obtain ⟨q0, q1, qP, qK, qD⟩ := q; exact ⟨q0, q1, qP, va_K.moved (u := U) (U := U.calling g mk a) (Vm.Alike.refl U.vm) qK, qD⟩, va_recv hKc hPc (ci := 1) (q0 := 0) rfl rfl, fun U hU hW => ⟨rfl, by rw [hU], by rw [hU]; exact hPc, va_K.moved hW.alike hKc, hDc.weaken (fun _ _ _ _ => trivial)⟩⟩ rfl rfl hl.1 rfl (lv_room (Nat.le_of_ble_eq_true rfl)) dX0_drop_9 ⟨Nat.le_of_ble_eq_true rfl, Nat.le_of_ble_eq_true rfl⟩) hS (fun q _ h => hFc q h) hFc (fun r_2 u t H1 locs ht hvm hw hB hz1 hk1 hS => ?_)
  obtain ⟨hP1, hK1, hD1⟩ := hB
  rw [ht] at hP1
  have hK1 := va_K.moved hvm.symm hK1
  try dsimp only at hw
  obtain ⟨hP, hD⟩ := va_join (wr := []) (w1 := [(oS, .inr (1, [.ref oA, .ref oB, .int (nI h)])), (oA, .inl (cA, n, .inl P)), (oB, .inl (cB, n, .inr (.inl V)))]) hP hD [0, 1, 2] [] rfl rfl (by decide) (by decide) hk1 hFc hP1 hD1
  generalize H1 = H at hP hS ⊢
  have hP : va_P (dC, dI) vwCl [(oS, .inr (1, [.ref oA, .ref oB, .int (nI h)])), (oA, .inl (cA, n, .inl P)), (oB, .inl (cB, n, .inr (.inl V)))] H := hP.sub [0, 1, 2] rfl
  have hD : va_D A [(oS, .inr (1, [.ref oA, .ref oB, .int (nI h)])), (oA, .inl (cA, n, .inl P)), (oB, .inl (cB, n, .inr (.inl V)))] := hD.sub [0, 1, 2] (by decide) rfl
  have hK : va_K (dC, dI) vwCl [(cA, .int), (cB, .long)] s := hK
  rcases hw with ⟨b_3, hw⟩ | ⟨b_3, hw⟩
  · -- (rk P p0 h) < h ∧ P (rk P p0 h) = p0
    subst hw
    refine lv_if_ne (tgt := 16) hx hb dX0_drop_12 (by decide) (fun c_4 => ?_) (fun c_4 => ?_)
    · -- taken at 12: ¬ 1 = 0
      refine lv_aload_n hx hb dX0_drop_16 rfl (lv_at hl 1 rfl) ?_
      refine lv_dup hx hb dX0_drop_17 rfl ?_
      refine va_get (D := (dC, dI)) (ci := 1) (v := .int (nI h)) (C := RX0) (T := TX0) (N := 3) hx hb hts (by decide +kernel) hown hK hP 0 rfl rfl 2 (by decide) (hts (.fieldLink RX0 25 "RelativeFiles$Shelf" "held" "I") (by decide +kernel)) (fun _ h9 => h9) rfl dX0_drop_18 ?_
      refine lv_iconst (v := 1) hx hb dX0_drop_21 (by decide) ?_
      refine lv_isub hx hb dX0_drop_22 ?_
      rw [show (nI h) - 1 = nI (h - 1) from by have := hq.1; rw [← nI_pred (h - 1), Nat.sub_add_cancel (by omega)]]
      refine va_put (D := (dC, dI)) (ci := 1) (v := .int (nI (h - 1))) (ty := .int) (C := RX0) (T := TX0) (N := 3) hx hb hts (by decide +kernel) tyX0 tyX0_ok nmX0 hown hK hP hD hS 0 rfl rfl 2 (by decide) (hts (.fieldLink RX0 25 "RelativeFiles$Shelf" "held" "I") (by decide +kernel)) (fun _ h9 => h9) rfl (by decide +kernel) rfl rfl (Nat.le_of_ble_eq_true rfl) dX0_drop_23 (fun H locs hP hD hS => ?_)
      have hP : va_P (dC, dI) vwCl [(oS, .inr (1, [.ref oA, .ref oB, .int (nI (h - 1))])), (oA, .inl (cA, n, .inl P)), (oB, .inl (cB, n, .inr (.inl V)))] H := hP
      have hD : va_D A [(oS, .inr (1, [.ref oA, .ref oB, .int (nI (h - 1))])), (oA, .inl (cA, n, .inl P)), (oB, .inl (cB, n, .inr (.inl V)))] := hD
      refine lv_iload_n hx hb dX0_drop_26 rfl (lv_at hl 0 rfl) ?_
      refine lv_istore_n (lv' := [(3, .int (nI (rk P p0 h))), (2, .int (nI (rk P p0 h))), (0, .ref oS), (1, .int p0)]) hx hb dX0_drop_27 rfl hl (by decide) rfl (fun ls hl => ?_)
      have hq1 := hq.1
      have loop : ∀ (k i : Nat) (ls : Array Slot) (H : Heap) (locs : List Loc), (rk P p0 h ≤ i) → (h ≤ i + k) → (i ≤ h - 1) → lv_has ls 4 [(3, .int (nI i)), (2, .int (nI (rk P p0 h))), (0, .ref oS), (1, .int p0)] → va_P (dC, dI) vwCl [(oS, .inr (1, [.ref oA, .ref oB, .int (nI (h - 1))])), (oA, .inl (cA, n, .inl (delA P (rk P p0 h) i))), (oB, .inl (cB, n, .inr (.inl (delA V (rk P p0 h) i))))] H → va_D A [(oS, .inr (1, [.ref oA, .ref oB, .int (nI (h - 1))])), (oA, .inl (cA, n, .inl (delA P (rk P p0 h) i))), (oB, .inl (cB, n, .inr (.inl (delA V (rk P p0 h) i))))] → va_S A s.heap H locs → W p l e (headSpec wsX0_drop ({ frames := 1, cells := 0, slots := 0, locals := 22 })).room s m #[(Value.ref oS), (Value.int p0)] below meth c H locs 0 0 Q (F0 m 28 ls []) := by
        intro k
        induction k with
        | zero => intro i ls H locs h1 h2 h3; exact absurd h2 (by omega)
        | succ k ih =>
          intro i ls H locs h1 h2 h3 hl hP hD hS
          refine lv_iload_n hx hb dX0_drop_28 rfl (lv_at hl 0 rfl) ?_
          refine lv_aload_n hx hb dX0_drop_29 rfl (lv_at hl 2 rfl) ?_
          refine va_get (D := (dC, dI)) (ci := 1) (v := .int (nI (h - 1))) (C := RX0) (T := TX0) (N := 3) hx hb hts (by decide +kernel) hown hK hP 0 rfl rfl 2 (by decide) (hts (.fieldLink RX0 25 "RelativeFiles$Shelf" "held" "I") (by decide +kernel)) (fun _ h9 => h9) rfl dX0_drop_30 ?_
          refine lv_icmp_ge (tgt := 70) hx hb dX0_drop_33 (by decide) (fun c_5 => ?_) (fun c_5 => ?_)
          · -- taken at 33: (nI (h - 1)) ≤ (nI i)
            have hi2 : i = h - 1 := by have := (nI_leI (by omega) (by omega)).mp c_5; omega
            subst hQ9
            subst hi2
            exact W.vret hx hb hr (fun t ht hW => ⟨⟨(), rfl, trivial, by rw [ht]; exact hP, va_K.moved hW.alike hK, hD⟩, hS.F ht⟩) hS.2.2 dX0_drop_70
          · -- not taken at 33: ¬ (nI (h - 1)) ≤ (nI i)
            have hi2 : i < h - 1 := by rcases Nat.lt_or_ge i (h - 1) with q | q; exact q; exact absurd (nI_le q (by omega)) c_5
            refine lv_aload_n hx hb dX0_drop_36 rfl (lv_at hl 2 rfl) ?_
            refine va_get (D := (dC, dI)) (ci := 1) (v := .ref oA) (C := RX0) (T := TX0) (N := 3) hx hb hts (by decide +kernel) hown hK hP 0 rfl rfl 0 (by decide) (hts (.fieldLink RX0 15 "RelativeFiles$Shelf" "places" "[I") (by decide +kernel)) (fun _ h9 => h9) rfl dX0_drop_37 ?_
            refine lv_iload_n hx hb dX0_drop_40 rfl (lv_at hl 0 rfl) ?_
            refine lv_aload_n hx hb dX0_drop_41 rfl (lv_at hl 2 rfl) ?_
            refine va_get (D := (dC, dI)) (ci := 1) (v := .ref oA) (C := RX0) (T := TX0) (N := 3) hx hb hts (by decide +kernel) hown hK hP 0 rfl rfl 0 (by decide) (hts (.fieldLink RX0 15 "RelativeFiles$Shelf" "places" "[I") (by decide +kernel)) (fun _ h9 => h9) rfl dX0_drop_42 ?_
            refine lv_iload_n hx hb dX0_drop_45 rfl (lv_at hl 0 rfl) ?_
            refine lv_iconst (v := 1) hx hb dX0_drop_46 (by decide) ?_
            refine lv_iadd hx hb dX0_drop_47 ?_
            rw [show (nI i) + 1 = nI (i + 1) from (nI_succ i).symm]
            refine va_iald hx hb hK hP 1 0 rfl rfl (vp_in_nI (by omega) (by omega)) dX0_drop_48 ?_
            rw [show (delA P (rk P p0 h) i) ((nI (i + 1)).toNatClampNeg) = delA P (rk P p0 h) i (i + 1) from by rw [nI_clamp (by omega)]]
            refine va_iast hx hb hK hP hD hS 1 0 rfl rfl (vp_in_nI (by omega) (by omega)) dX0_drop_49 (fun H locs hP hD hS => ?_)
            have hP : va_P (dC, dI) vwCl [(oS, .inr (1, [.ref oA, .ref oB, .int (nI (h - 1))])), (oA, .inl (cA, n, .inl (upd (delA P (rk P p0 h) i) (nI i).toNatClampNeg (delA P (rk P p0 h) i (i + 1))))), (oB, .inl (cB, n, .inr (.inl (delA V (rk P p0 h) i))))] H := hP
            have hD : va_D A [(oS, .inr (1, [.ref oA, .ref oB, .int (nI (h - 1))])), (oA, .inl (cA, n, .inl (upd (delA P (rk P p0 h) i) (nI i).toNatClampNeg (delA P (rk P p0 h) i (i + 1))))), (oB, .inl (cB, n, .inr (.inl (delA V (rk P p0 h) i))))] := hD
            rw [show upd (delA P (rk P p0 h) i) (nI i).toNatClampNeg (delA P (rk P p0 h) i (i + 1)) = delA P (rk P p0 h) (i + 1) from by rw [nI_clamp (by omega)]; exact delA_step P (by omega)] at hP hD
            refine lv_aload_n hx hb dX0_drop_50 rfl (lv_at hl 2 rfl) ?_
            refine va_get (D := (dC, dI)) (ci := 1) (v := .ref oB) (C := RX0) (T := TX0) (N := 3) hx hb hts (by decide +kernel) hown hK hP 0 rfl rfl 1 (by decide) (hts (.fieldLink RX0 21 "RelativeFiles$Shelf" "values" "[J") (by decide +kernel)) (fun _ h9 => h9) rfl dX0_drop_51 ?_
            refine lv_iload_n hx hb dX0_drop_54 rfl (lv_at hl 0 rfl) ?_
            refine lv_aload_n hx hb dX0_drop_55 rfl (lv_at hl 2 rfl) ?_
            refine va_get (D := (dC, dI)) (ci := 1) (v := .ref oB) (C := RX0) (T := TX0) (N := 3) hx hb hts (by decide +kernel) hown hK hP 0 rfl rfl 1 (by decide) (hts (.fieldLink RX0 21 "RelativeFiles$Shelf" "values" "[J") (by decide +kernel)) (fun _ h9 => h9) rfl dX0_drop_56 ?_
            refine lv_iload_n hx hb dX0_drop_59 rfl (lv_at hl 0 rfl) ?_
            refine lv_iconst (v := 1) hx hb dX0_drop_60 (by decide) ?_
            refine lv_iadd hx hb dX0_drop_61 ?_
            rw [show (nI i) + 1 = nI (i + 1) from (nI_succ i).symm]
            refine va_lald hx hb hK hP 2 1 rfl rfl (vp_in_nI (by omega) (by omega)) dX0_drop_62 ?_
            rw [show (delA V (rk P p0 h) i) ((nI (i + 1)).toNatClampNeg) = delA V (rk P p0 h) i (i + 1) from by rw [nI_clamp (by omega)]]
            refine va_last hx hb hK hP hD hS 2 1 rfl rfl (vp_in_nI (by omega) (by omega)) dX0_drop_63 (fun H locs hP hD hS => ?_)
            have hP : va_P (dC, dI) vwCl [(oS, .inr (1, [.ref oA, .ref oB, .int (nI (h - 1))])), (oA, .inl (cA, n, .inl (delA P (rk P p0 h) (i + 1)))), (oB, .inl (cB, n, .inr (.inl (vp_updL (delA V (rk P p0 h) i) (nI i).toNatClampNeg (delA V (rk P p0 h) i (i + 1))))))] H := hP
            have hD : va_D A [(oS, .inr (1, [.ref oA, .ref oB, .int (nI (h - 1))])), (oA, .inl (cA, n, .inl (delA P (rk P p0 h) (i + 1)))), (oB, .inl (cB, n, .inr (.inl (vp_updL (delA V (rk P p0 h) i) (nI i).toNatClampNeg (delA V (rk P p0 h) i (i + 1))))))] := hD
            rw [show vp_updL (delA V (rk P p0 h) i) (nI i).toNatClampNeg (delA V (rk P p0 h) i (i + 1)) = delA V (rk P p0 h) (i + 1) from by rw [nI_clamp (by omega)]; exact delA_stepL V (by omega)] at hP hD
            refine lv_iinc (v := (nI (i + 1))) (lv' := [(3, .int (nI (i + 1))), (2, .int (nI (rk P p0 h))), (0, .ref oS), (1, .int p0)]) hx hb dX0_drop_64 hl (k := 0) rfl ((nI_succ i).symm) (by decide) rfl (fun ls hl => ?_)
            refine lv_goto (tgt := 28) hx hb dX0_drop_67 (by decide) ?_
            exact ih (i + 1) ls _ _ (by omega) (by omega) (by omega) (lv_sub hl [0, 1, 2, 3] rfl) hP hD hS
      exact loop h (rk P p0 h)  ls _ _ (Nat.le_refl _) (by omega) (by omega) hl (by rw [delA_0, delA_0]; exact hP) (by rw [delA_0, delA_0]; exact hD) hS
    · -- not taken at 12: 1 = 0
      exact absurd c_4 (by decide)
  · -- ¬ ((rk P p0 h) < h ∧ P (rk P p0 h) = p0)
    subst hw
    exact absurd hq b_3
