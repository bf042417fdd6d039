set_option maxHeartbeats 1000000 in
set_option maxRecDepth 100000 in
theorem kX2_find (l : Launch) (dC : Nat → ClassId) (dI : Nat → Nat → Nat) (oM oN oU : Nat) (cN cU : ClassId) (z d : Nat) (co mo th en md po pl la : Int32) (va : Int64) (N : Nat → Int32) (U : Nat → Int64) (p0 : Int32) (sz : Nat) (hz : z ≤ 1100) : Met l yX2_find wsX2_find ({ frames := 0, cells := 0, slots := 0, locals := 0 }) (va_Pc [.ref oM, .int p0] (fun U9 => U9.heap.size = sz ∧ va_P (dC, dI) vwCl [(oM, .inr (3, [.int co, .int mo, .ref oN, .ref oU, .int (nI z), .int th, .int en, .int md, .int po, .int pl, .int la, .int (nI d), .long va])), (oN, .inl (cN, 1100, .inl N)), (oU, .inl (cU, 1100, .inr (.inl U)))] U9.heap ∧ va_K (dC, dI) vwCl [(cN, .int), (cU, .long)] U9 ∧ va_D (fun _ => True) [(oM, .inr (3, [.int co, .int mo, .ref oN, .ref oU, .int (nI z), .int th, .int en, .int md, .int po, .int pl, .int la, .int (nI d), .long va])), (oN, .inl (cN, 1100, .inl N)), (oU, .inl (cU, 1100, .inr (.inl U)))])) (va_Qi (fun (r : Int32) (_ : Unit) => r = rFind N p0 z) (fun (_ : Unit) (t : State) => va_P (dC, dI) vwCl [(oM, .inr (3, [.int co, .int mo, .ref oN, .ref oU, .int (nI z), .int th, .int en, .int md, .int po, .int pl, .int la, .int (nI d), .long va])), (oN, .inl (cN, 1100, .inl N)), (oU, .inl (cU, 1100, .inr (.inl U)))] t.heap ∧ va_K (dC, dI) vwCl [(cN, .int), (cU, .long)] t ∧ va_D (va_A [(oM, .inr (3, [.int co, .int mo, .ref oN, .ref oU, .int (nI z), .int th, .int en, .int md, .int po, .int pl, .int la, .int (nI d), .long va])), (oN, .inl (cN, 1100, .inl N)), (oU, .inl (cU, 1100, .inr (.inl U)))] sz) [(oM, .inr (3, [.int co, .int mo, .ref oN, .ref oU, .int (nI z), .int th, .int en, .int md, .int po, .int pl, .int la, .int (nI d), .long va])), (oN, .inl (cN, 1100, .inl N)), (oU, .inl (cU, 1100, .inr (.inl U)))]) (va_A [(oM, .inr (3, [.int co, .int mo, .ref oN, .ref oU, .int (nI z), .int th, .int en, .int md, .int po, .int pl, .int la, .int (nI d), .long va])), (oN, .inl (cN, 1100, .inl N)), (oU, .inl (cU, 1100, .inr (.inl U)))] sz)) 0 0 (va_A [(oM, .inr (3, [.int co, .int mo, .ref oN, .ref oU, .int (nI z), .int th, .int en, .int md, .int po, .int pl, .int la, .int (nI d), .long va])), (oN, .inl (cN, 1100, .inl N)), (oU, .inl (cU, 1100, .inr (.inl U)))] sz) := by
  refine Met.ofW (cc := cX2_find) (maxL := 4) (ret := (some .int)) (by decide) rfl ?_
  intro p e s m args below meth c s₁ B hml hv
  obtain ⟨rfl, hsz, hP, hK, hD0⟩ := hv
  have hx := B.exec
  have hb := B.bytes
  have hr := B.returns
  have hts := atoms_spec (ws := wsX2_find) B.pre
  have hown : s.vm.findClass RX2 = some m.cls := findClass_of_methodNamed B.named
  have hlocks := B.notSynchronized
  subst hsz
  have hD := hD0.self (sz := s.heap.size)
  generalize hAe : va_A [(oM, .inr (3, [.int co, .int mo, .ref oN, .ref oU, .int (nI z), .int th, .int en, .int md, .int po, .int pl, .int la, .int (nI d), .long va])), (oN, .inl (cN, 1100, .inl N)), (oU, .inl (cU, 1100, .inr (.inl U)))] s.heap.size = A at hD ⊢
  have hA : ∀ q : Nat, s.heap.size ≤ q → A q := fun q h => by rw [← hAe]; exact Or.inr h
  have hS : va_S A s.heap s.heap [] := va_S.rf
  have hP : va_P (dC, dI) vwCl [(oM, .inr (3, [.int co, .int mo, .ref oN, .ref oU, .int (nI z), .int th, .int en, .int md, .int po, .int pl, .int la, .int (nI d), .long va])), (oN, .inl (cN, 1100, .inl N)), (oU, .inl (cU, 1100, .inr (.inl U)))] s.heap := hP
  have hl := lv_entry ([.ref oM, .int p0]) (n := 4) (Nat.le_of_ble_eq_true rfl)
  rw [lg_entry_eq]
  generalize (lg_sl ([.ref oM, .int p0]) ++ List.replicate (4 - (lg_sl ([.ref oM, .int p0])).length) Slot.unset).toArray = ls at hl ⊢
  have hl : lv_has ls 4 [(0, .ref oM), (1, .int p0)] := hl
  refine W_name (fun Q hQ9 => ?_)
  refine lv_iconst (v := (-1)) hx hb dX2_find_0 (by decide) ?_
  refine lv_istore_n (lv' := [(2, .int (-1)), (0, .ref oM), (1, .int p0)]) hx hb dX2_find_1 rfl hl (by decide) rfl (fun ls hl => ?_)
  refine lv_iconst (v := 0) hx hb dX2_find_2 (by decide) ?_
  refine lv_istore_n (lv' := [(3, .int 0), (2, .int (-1)), (0, .ref oM), (1, .int p0)]) hx hb dX2_find_3 rfl hl (by decide) rfl (fun ls hl => ?_)
  have loop : ∀ (k i : Nat) (ls : Array Slot) (H : Heap) (locs : List Loc), (i ≤ z) → (z + 1 ≤ i + k) → lv_has ls 4 [(3, .int (nI i)), (2, .int (rFind N p0 i)), (0, .ref oM), (1, .int p0)] → va_P (dC, dI) vwCl [(oM, .inr (3, [.int co, .int mo, .ref oN, .ref oU, .int (nI z), .int th, .int en, .int md, .int po, .int pl, .int la, .int (nI d), .long va])), (oN, .inl (cN, 1100, .inl N)), (oU, .inl (cU, 1100, .inr (.inl U)))] H → va_D A [(oM, .inr (3, [.int co, .int mo, .ref oN, .ref oU, .int (nI z), .int th, .int en, .int md, .int po, .int pl, .int la, .int (nI d), .long va])), (oN, .inl (cN, 1100, .inl N)), (oU, .inl (cU, 1100, .inr (.inl U)))] → va_S A s.heap H locs → W p l e (headSpec wsX2_find ({ frames := 0, cells := 0, slots := 0, locals := 0 })).room s m #[(Value.ref oM), (Value.int p0)] below meth c H locs 0 0 Q (F0 m 4 ls []) := by
    intro k
    induction k with
    | zero => intro i ls H locs h1 h2; exact absurd h2 (by omega)
    | succ k ih =>
      intro i ls H locs h1 h2 hl hP hD hS
      refine lv_iload_n hx hb dX2_find_4 rfl (lv_at hl 0 rfl) ?_
      refine lv_aload_n hx hb dX2_find_5 rfl (lv_at hl 2 rfl) ?_
      refine va_get (D := (dC, dI)) (ci := 3) (v := .int (nI z)) (C := RX2) (T := TX2) (N := 13) hx hb hts (by decide +kernel) hown hK hP 0 rfl rfl 4 (by decide) (hts (.fieldLink RX2 31 "RelativeFilesModel" "size" "I") (by decide +kernel)) (fun _ h9 => h9) rfl dX2_find_6 ?_
      refine lv_icmp_ge (tgt := 34) hx hb dX2_find_9 (by decide) (fun c_1 => ?_) (fun c_1 => ?_)
      · -- taken at 9: (nI z) ≤ (nI i)
        have e8 : i = z := by have := (nI_leI (by omega) (by omega)).mp c_1; omega
        subst e8
        refine lv_iload_n hx hb dX2_find_34 rfl (lv_at hl 1 rfl) ?_
        subst hQ9
        exact W.iret (v := rFind N p0 i) hx hb hr (fun t ht hW => ⟨⟨rFind N p0 i, (), rfl, rfl, by rw [ht]; exact hP, va_K.moved hW.alike hK, hD⟩, hS.F ht⟩) hS.2.2 dX2_find_35
      · -- not taken at 9: ¬ (nI z) ≤ (nI i)
        have hi2 : i < z := by rcases Nat.lt_or_ge i z with q | q; exact q; exact absurd (nI_le q (by omega)) c_1
        refine lv_aload_n hx hb dX2_find_12 rfl (lv_at hl 2 rfl) ?_
        refine va_get (D := (dC, dI)) (ci := 3) (v := .ref oN) (C := RX2) (T := TX2) (N := 13) hx hb hts (by decide +kernel) hown hK hP 0 rfl rfl 2 (by decide) (hts (.fieldLink RX2 7 "RelativeFilesModel" "numbers" "[I") (by decide +kernel)) (fun _ h9 => h9) rfl dX2_find_13 ?_
        refine lv_iload_n hx hb dX2_find_16 rfl (lv_at hl 0 rfl) ?_
        refine va_iald hx hb hK hP 1 0 rfl rfl (vp_in_nI (by omega) (by omega)) dX2_find_17 ?_
        rw [show N ((nI i).toNatClampNeg) = N i from by rw [nI_clamp (by omega)]]
        refine lv_iload_n hx hb dX2_find_18 rfl (lv_at hl 3 rfl) ?_
        refine lv_icmp_ne (tgt := 26) hx hb dX2_find_19 (by decide) (fun c_2 => ?_) (fun c_2 => ?_)
        · -- taken at 19: ¬ (N i) = p0
          refine lv_iload_n hx hb dX2_find_26 rfl (lv_at hl 1 rfl) ?_
          refine W_topi (rFind N p0 (i + 1)) (by simp only [rFind, if_neg c_1, if_neg c_2]) ?_
          refine lv_istore_n (lv' := [(2, .int (rFind N p0 (i + 1))), (3, .int (nI i)), (0, .ref oM), (1, .int p0)]) hx hb dX2_find_27 rfl hl (by decide) rfl (fun ls hl => ?_)
          refine lv_iinc (v := (nI (i + 1))) (lv' := [(3, .int (nI (i + 1))), (2, .int (rFind N p0 (i + 1))), (0, .ref oM), (1, .int p0)]) hx hb dX2_find_28 hl (k := 1) rfl ((nI_succ i).symm) (by decide) rfl (fun ls hl => ?_)
          refine lv_goto (tgt := 4) hx hb dX2_find_31 (by decide) ?_
          exact ih (i + 1) ls _ _ (by omega) (by omega) (lv_sub hl [0, 1, 2, 3] rfl) hP hD hS
        · -- not taken at 19: (N i) = p0
          refine lv_iload_n hx hb dX2_find_22 rfl (lv_at hl 0 rfl) ?_
          refine lv_goto (tgt := 27) hx hb dX2_find_23 (by decide) ?_
          refine W_topi (rFind N p0 (i + 1)) (by simp only [rFind, if_neg c_1, if_pos c_2]) ?_
          refine lv_istore_n (lv' := [(2, .int (rFind N p0 (i + 1))), (3, .int (nI i)), (0, .ref oM), (1, .int p0)]) hx hb dX2_find_27 rfl hl (by decide) rfl (fun ls hl => ?_)
          refine lv_iinc (v := (nI (i + 1))) (lv' := [(3, .int (nI (i + 1))), (2, .int (rFind N p0 (i + 1))), (0, .ref oM), (1, .int p0)]) hx hb dX2_find_28 hl (k := 1) rfl ((nI_succ i).symm) (by decide) rfl (fun ls hl => ?_)
          refine lv_goto (tgt := 4) hx hb dX2_find_31 (by decide) ?_
          exact ih (i + 1) ls _ _ (by omega) (by omega) (lv_sub hl [0, 1, 2, 3] rfl) hP hD hS
  exact loop (z + 1) 0  ls _ _ (Nat.zero_le z) (by omega) (by rw [nI_0]; exact hl) hP hD hS

set_option maxHeartbeats 1000000 in
set_option maxRecDepth 100000 in
theorem kX2_from (l : Launch) (dC : Nat → ClassId) (dI : Nat → Nat → Nat) (oM oN oU : Nat) (cN cU : ClassId) (z d : Nat) (co mo th en md po pl la : Int32) (va : Int64) (N : Nat → Int32) (U : Nat → Int64) (p0 : Int64) (sz : Nat) (hz : z ≤ 1100) : Met l yX2_from wsX2_from ({ frames := 0, cells := 0, slots := 0, locals := 0 }) (va_Pc [.ref oM, .long p0] (fun U9 => U9.heap.size = sz ∧ va_P (dC, dI) vwCl [(oM, .inr (3, [.int co, .int mo, .ref oN, .ref oU, .int (nI z), .int th, .int en, .int md, .int po, .int pl, .int la, .int (nI d), .long va])), (oN, .inl (cN, 1100, .inl N)), (oU, .inl (cU, 1100, .inr (.inl U)))] U9.heap ∧ va_K (dC, dI) vwCl [(cN, .int), (cU, .long)] U9 ∧ va_D (fun _ => True) [(oM, .inr (3, [.int co, .int mo, .ref oN, .ref oU, .int (nI z), .int th, .int en, .int md, .int po, .int pl, .int la, .int (nI d), .long va])), (oN, .inl (cN, 1100, .inl N)), (oU, .inl (cU, 1100, .inr (.inl U)))])) (va_Qi (fun (r : Int32) (_ : Unit) => r = gFrom N p0 z) (fun (_ : Unit) (t : State) => va_P (dC, dI) vwCl [(oM, .inr (3, [.int co, .int mo, .ref oN, .ref oU, .int (nI z), .int th, .int en, .int md, .int po, .int pl, .int la, .int (nI d), .long va])), (oN, .inl (cN, 1100, .inl N)), (oU, .inl (cU, 1100, .inr (.inl U)))] t.heap ∧ va_K (dC, dI) vwCl [(cN, .int), (cU, .long)] t ∧ va_D (va_A [(oM, .inr (3, [.int co, .int mo, .ref oN, .ref oU, .int (nI z), .int th, .int en, .int md, .int po, .int pl, .int la, .int (nI d), .long va])), (oN, .inl (cN, 1100, .inl N)), (oU, .inl (cU, 1100, .inr (.inl U)))] sz) [(oM, .inr (3, [.int co, .int mo, .ref oN, .ref oU, .int (nI z), .int th, .int en, .int md, .int po, .int pl, .int la, .int (nI d), .long va])), (oN, .inl (cN, 1100, .inl N)), (oU, .inl (cU, 1100, .inr (.inl U)))]) (va_A [(oM, .inr (3, [.int co, .int mo, .ref oN, .ref oU, .int (nI z), .int th, .int en, .int md, .int po, .int pl, .int la, .int (nI d), .long va])), (oN, .inl (cN, 1100, .inl N)), (oU, .inl (cU, 1100, .inr (.inl U)))] sz)) 0 0 (va_A [(oM, .inr (3, [.int co, .int mo, .ref oN, .ref oU, .int (nI z), .int th, .int en, .int md, .int po, .int pl, .int la, .int (nI d), .long va])), (oN, .inl (cN, 1100, .inl N)), (oU, .inl (cU, 1100, .inr (.inl U)))] sz) := by
  refine Met.ofW (cc := cX2_from) (maxL := 5) (ret := (some .int)) (by decide) rfl ?_
  intro p e s m args below meth c s₁ B hml hv
  obtain ⟨rfl, hsz, hP, hK, hD0⟩ := hv
  have hx := B.exec
  have hb := B.bytes
  have hr := B.returns
  have hts := atoms_spec (ws := wsX2_from) B.pre
  have hown : s.vm.findClass RX2 = some m.cls := findClass_of_methodNamed B.named
  have hlocks := B.notSynchronized
  subst hsz
  have hD := hD0.self (sz := s.heap.size)
  generalize hAe : va_A [(oM, .inr (3, [.int co, .int mo, .ref oN, .ref oU, .int (nI z), .int th, .int en, .int md, .int po, .int pl, .int la, .int (nI d), .long va])), (oN, .inl (cN, 1100, .inl N)), (oU, .inl (cU, 1100, .inr (.inl U)))] s.heap.size = A at hD ⊢
  have hA : ∀ q : Nat, s.heap.size ≤ q → A q := fun q h => by rw [← hAe]; exact Or.inr h
  have hS : va_S A s.heap s.heap [] := va_S.rf
  have hP : va_P (dC, dI) vwCl [(oM, .inr (3, [.int co, .int mo, .ref oN, .ref oU, .int (nI z), .int th, .int en, .int md, .int po, .int pl, .int la, .int (nI d), .long va])), (oN, .inl (cN, 1100, .inl N)), (oU, .inl (cU, 1100, .inr (.inl U)))] s.heap := hP
  have hl := lv_entry ([.ref oM, .long p0]) (n := 5) (Nat.le_of_ble_eq_true rfl)
  rw [lg_entry_eq]
  generalize (lg_sl ([.ref oM, .long p0]) ++ List.replicate (5 - (lg_sl ([.ref oM, .long p0])).length) Slot.unset).toArray = ls at hl ⊢
  have hl : lv_has ls 5 [(0, .ref oM), (1, .long p0)] := hl
  refine W_name (fun Q hQ9 => ?_)
  refine lv_iconst (v := 0) hx hb dX2_from_0 (by decide) ?_
  refine lv_istore_n (lv' := [(3, .int 0), (0, .ref oM), (1, .long p0)]) hx hb dX2_from_1 rfl hl (by decide) rfl (fun ls hl => ?_)
  refine lv_iconst (v := 0) hx hb dX2_from_2 (by decide) ?_
  refine lv_istore (lv' := [(4, .int 0), (3, .int 0), (0, .ref oM), (1, .long p0)]) hx hb dX2_from_3 hl (by decide) rfl (fun ls hl => ?_)
  have loop : ∀ (k i : Nat) (ls : Array Slot) (H : Heap) (locs : List Loc), (i ≤ z) → (z + 1 ≤ i + k) → lv_has ls 5 [(4, .int (nI i)), (3, .int (gFrom N p0 i)), (0, .ref oM), (1, .long p0)] → va_P (dC, dI) vwCl [(oM, .inr (3, [.int co, .int mo, .ref oN, .ref oU, .int (nI z), .int th, .int en, .int md, .int po, .int pl, .int la, .int (nI d), .long va])), (oN, .inl (cN, 1100, .inl N)), (oU, .inl (cU, 1100, .inr (.inl U)))] H → va_D A [(oM, .inr (3, [.int co, .int mo, .ref oN, .ref oU, .int (nI z), .int th, .int en, .int md, .int po, .int pl, .int la, .int (nI d), .long va])), (oN, .inl (cN, 1100, .inl N)), (oU, .inl (cU, 1100, .inr (.inl U)))] → va_S A s.heap H locs → W p l e (headSpec wsX2_from ({ frames := 0, cells := 0, slots := 0, locals := 0 })).room s m #[(Value.ref oM), (Value.long p0)] below meth c H locs 0 0 Q (F0 m 5 ls []) := by
    intro k
    induction k with
    | zero => intro i ls H locs h1 h2; exact absurd h2 (by omega)
    | succ k ih =>
      intro i ls H locs h1 h2 hl hP hD hS
      refine lv_iload hx hb dX2_from_5 (lv_at hl 0 rfl) ?_
      refine lv_aload_n hx hb dX2_from_7 rfl (lv_at hl 2 rfl) ?_
      refine va_get (D := (dC, dI)) (ci := 3) (v := .int (nI z)) (C := RX2) (T := TX2) (N := 13) hx hb hts (by decide +kernel) hown hK hP 0 rfl rfl 4 (by decide) (hts (.fieldLink RX2 31 "RelativeFilesModel" "size" "I") (by decide +kernel)) (fun _ h9 => h9) rfl dX2_from_8 ?_
      refine lv_icmp_ge (tgt := 60) hx hb dX2_from_11 (by decide) (fun c_1 => ?_) (fun c_1 => ?_)
      · -- taken at 11: (nI z) ≤ (nI i)
        have e8 : i = z := by have := (nI_leI (by omega) (by omega)).mp c_1; omega
        subst e8
        refine lv_iload_n hx hb dX2_from_60 rfl (lv_at hl 1 rfl) ?_
        subst hQ9
        exact W.iret (v := gFrom N p0 i) hx hb hr (fun t ht hW => ⟨⟨gFrom N p0 i, (), rfl, rfl, by rw [ht]; exact hP, va_K.moved hW.alike hK, hD⟩, hS.F ht⟩) hS.2.2 dX2_from_61
      · -- not taken at 11: ¬ (nI z) ≤ (nI i)
        have hi2 : i < z := by rcases Nat.lt_or_ge i z with q | q; exact q; exact absurd (nI_le q (by omega)) c_1
        refine lv_aload_n hx hb dX2_from_14 rfl (lv_at hl 2 rfl) ?_
        refine va_get (D := (dC, dI)) (ci := 3) (v := .ref oN) (C := RX2) (T := TX2) (N := 13) hx hb hts (by decide +kernel) hown hK hP 0 rfl rfl 2 (by decide) (hts (.fieldLink RX2 7 "RelativeFilesModel" "numbers" "[I") (by decide +kernel)) (fun _ h9 => h9) rfl dX2_from_15 ?_
        refine lv_iload hx hb dX2_from_18 (lv_at hl 0 rfl) ?_
        refine va_iald hx hb hK hP 1 0 rfl rfl (vp_in_nI (by omega) (by omega)) dX2_from_20 ?_
        rw [show N ((nI i).toNatClampNeg) = N i from by rw [nI_clamp (by omega)]]
        refine lv_i2l (v := (N i).toInt64) hx hb dX2_from_21 rfl ?_
        refine lv_lload_n hx hb dX2_from_22 rfl (lv_at hl 3 rfl) ?_
        refine W.lcmp hx hb dX2_from_23 ?_
        refine lv_if_lt (tgt := 52) hx hb dX2_from_24 (by decide) (fun c_2 => ?_) (fun c_2 => ?_)
        · -- taken at 24: (lg_cmp ((N i).toInt64) p0) < 0
          refine lv_iload_n hx hb dX2_from_52 rfl (lv_at hl 1 rfl) ?_
          refine W_topi (gFrom N p0 (i + 1)) (by simp only [gFrom, if_neg c_1, if_pos c_2]) ?_
          refine lv_istore_n (lv' := [(3, .int (gFrom N p0 (i + 1))), (4, .int (nI i)), (0, .ref oM), (1, .long p0)]) hx hb dX2_from_53 rfl hl (by decide) rfl (fun ls hl => ?_)
          refine lv_iinc (v := (nI (i + 1))) (lv' := [(4, .int (nI (i + 1))), (3, .int (gFrom N p0 (i + 1))), (0, .ref oM), (1, .long p0)]) hx hb dX2_from_54 hl (k := 1) rfl ((nI_succ i).symm) (by decide) rfl (fun ls hl => ?_)
          refine lv_goto (tgt := 5) hx hb dX2_from_57 (by decide) ?_
          exact ih (i + 1) ls _ _ (by omega) (by omega) (lv_sub hl [0, 1, 2, 3] rfl) hP hD hS
        · -- not taken at 24: ¬ (lg_cmp ((N i).toInt64) p0) < 0
          refine lv_iload_n hx hb dX2_from_27 rfl (lv_at hl 1 rfl) ?_
          refine lv_if_eq (tgt := 42) hx hb dX2_from_28 (by decide) (fun c_3 => ?_) (fun c_3 => ?_)
          · -- taken at 28: (gFrom N p0 i) = 0
            refine lv_aload_n hx hb dX2_from_42 rfl (lv_at hl 2 rfl) ?_
            refine va_get (D := (dC, dI)) (ci := 3) (v := .ref oN) (C := RX2) (T := TX2) (N := 13) hx hb hts (by decide +kernel) hown hK hP 0 rfl rfl 2 (by decide) (hts (.fieldLink RX2 7 "RelativeFilesModel" "numbers" "[I") (by decide +kernel)) (fun _ h9 => h9) rfl dX2_from_43 ?_
            refine lv_iload hx hb dX2_from_46 (lv_at hl 0 rfl) ?_
            refine va_iald hx hb hK hP 1 0 rfl rfl (vp_in_nI (by omega) (by omega)) dX2_from_48 ?_
            rw [show N ((nI i).toNatClampNeg) = N i from by rw [nI_clamp (by omega)]]
            refine lv_goto (tgt := 53) hx hb dX2_from_49 (by decide) ?_
            refine W_topi (gFrom N p0 (i + 1)) (by simp only [gFrom, if_neg c_1, if_neg c_2, if_pos c_3]) ?_
            refine lv_istore_n (lv' := [(3, .int (gFrom N p0 (i + 1))), (4, .int (nI i)), (0, .ref oM), (1, .long p0)]) hx hb dX2_from_53 rfl hl (by decide) rfl (fun ls hl => ?_)
            refine lv_iinc (v := (nI (i + 1))) (lv' := [(4, .int (nI (i + 1))), (3, .int (gFrom N p0 (i + 1))), (0, .ref oM), (1, .long p0)]) hx hb dX2_from_54 hl (k := 1) rfl ((nI_succ i).symm) (by decide) rfl (fun ls hl => ?_)
            refine lv_goto (tgt := 5) hx hb dX2_from_57 (by decide) ?_
            exact ih (i + 1) ls _ _ (by omega) (by omega) (lv_sub hl [0, 1, 2, 3] rfl) hP hD hS
          · -- not taken at 28: ¬ (gFrom N p0 i) = 0
            refine lv_aload_n hx hb dX2_from_31 rfl (lv_at hl 2 rfl) ?_
            refine va_get (D := (dC, dI)) (ci := 3) (v := .ref oN) (C := RX2) (T := TX2) (N := 13) hx hb hts (by decide +kernel) hown hK hP 0 rfl rfl 2 (by decide) (hts (.fieldLink RX2 7 "RelativeFilesModel" "numbers" "[I") (by decide +kernel)) (fun _ h9 => h9) rfl dX2_from_32 ?_
            refine lv_iload hx hb dX2_from_35 (lv_at hl 0 rfl) ?_
            refine va_iald hx hb hK hP 1 0 rfl rfl (vp_in_nI (by omega) (by omega)) dX2_from_37 ?_
            rw [show N ((nI i).toNatClampNeg) = N i from by rw [nI_clamp (by omega)]]
            refine lv_iload_n hx hb dX2_from_38 rfl (lv_at hl 1 rfl) ?_
            refine lv_icmp_ge (tgt := 52) hx hb dX2_from_39 (by decide) (fun c_4 => ?_) (fun c_4 => ?_)
            · -- taken at 39: (gFrom N p0 i) ≤ (N i)
              refine lv_iload_n hx hb dX2_from_52 rfl (lv_at hl 1 rfl) ?_
              refine W_topi (gFrom N p0 (i + 1)) (by simp only [gFrom, if_neg c_1, if_neg c_2, if_neg c_3, if_pos c_4]) ?_
              refine lv_istore_n (lv' := [(3, .int (gFrom N p0 (i + 1))), (4, .int (nI i)), (0, .ref oM), (1, .long p0)]) hx hb dX2_from_53 rfl hl (by decide) rfl (fun ls hl => ?_)
              refine lv_iinc (v := (nI (i + 1))) (lv' := [(4, .int (nI (i + 1))), (3, .int (gFrom N p0 (i + 1))), (0, .ref oM), (1, .long p0)]) hx hb dX2_from_54 hl (k := 1) rfl ((nI_succ i).symm) (by decide) rfl (fun ls hl => ?_)
              refine lv_goto (tgt := 5) hx hb dX2_from_57 (by decide) ?_
              exact ih (i + 1) ls _ _ (by omega) (by omega) (lv_sub hl [0, 1, 2, 3] rfl) hP hD hS
            · -- not taken at 39: ¬ (gFrom N p0 i) ≤ (N i)
              refine lv_aload_n hx hb dX2_from_42 rfl (lv_at hl 2 rfl) ?_
              refine va_get (D := (dC, dI)) (ci := 3) (v := .ref oN) (C := RX2) (T := TX2) (N := 13) hx hb hts (by decide +kernel) hown hK hP 0 rfl rfl 2 (by decide) (hts (.fieldLink RX2 7 "RelativeFilesModel" "numbers" "[I") (by decide +kernel)) (fun _ h9 => h9) rfl dX2_from_43 ?_
              refine lv_iload hx hb dX2_from_46 (lv_at hl 0 rfl) ?_
              refine va_iald hx hb hK hP 1 0 rfl rfl (vp_in_nI (by omega) (by omega)) dX2_from_48 ?_
              rw [show N ((nI i).toNatClampNeg) = N i from by rw [nI_clamp (by omega)]]
              refine lv_goto (tgt := 53) hx hb dX2_from_49 (by decide) ?_
              refine W_topi (gFrom N p0 (i + 1)) (by simp only [gFrom, if_neg c_1, if_neg c_2, if_neg c_3, if_neg c_4]) ?_
              refine lv_istore_n (lv' := [(3, .int (gFrom N p0 (i + 1))), (4, .int (nI i)), (0, .ref oM), (1, .long p0)]) hx hb dX2_from_53 rfl hl (by decide) rfl (fun ls hl => ?_)
              refine lv_iinc (v := (nI (i + 1))) (lv' := [(4, .int (nI (i + 1))), (3, .int (gFrom N p0 (i + 1))), (0, .ref oM), (1, .long p0)]) hx hb dX2_from_54 hl (k := 1) rfl ((nI_succ i).symm) (by decide) rfl (fun ls hl => ?_)
              refine lv_goto (tgt := 5) hx hb dX2_from_57 (by decide) ?_
              exact ih (i + 1) ls _ _ (by omega) (by omega) (lv_sub hl [0, 1, 2, 3] rfl) hP hD hS
  exact loop (z + 1) 0  ls _ _ (Nat.zero_le z) (by omega) (by rw [nI_0]; exact hl) hP hD hS

set_option maxHeartbeats 1000000 in
set_option maxRecDepth 100000 in
theorem kX2_upTo (l : Launch) (dC : Nat → ClassId) (dI : Nat → Nat → Nat) (oM oN oU : Nat) (cN cU : ClassId) (z d : Nat) (co mo th en md po pl la : Int32) (va : Int64) (N : Nat → Int32) (U : Nat → Int64) (p0 : Int64) (sz : Nat) (hz : z ≤ 1100) : Met l yX2_upTo wsX2_upTo ({ frames := 0, cells := 0, slots := 0, locals := 0 }) (va_Pc [.ref oM, .long p0] (fun U9 => U9.heap.size = sz ∧ va_P (dC, dI) vwCl [(oM, .inr (3, [.int co, .int mo, .ref oN, .ref oU, .int (nI z), .int th, .int en, .int md, .int po, .int pl, .int la, .int (nI d), .long va])), (oN, .inl (cN, 1100, .inl N)), (oU, .inl (cU, 1100, .inr (.inl U)))] U9.heap ∧ va_K (dC, dI) vwCl [(cN, .int), (cU, .long)] U9 ∧ va_D (fun _ => True) [(oM, .inr (3, [.int co, .int mo, .ref oN, .ref oU, .int (nI z), .int th, .int en, .int md, .int po, .int pl, .int la, .int (nI d), .long va])), (oN, .inl (cN, 1100, .inl N)), (oU, .inl (cU, 1100, .inr (.inl U)))])) (va_Qi (fun (r : Int32) (_ : Unit) => r = gUpTo N p0 z) (fun (_ : Unit) (t : State) => va_P (dC, dI) vwCl [(oM, .inr (3, [.int co, .int mo, .ref oN, .ref oU, .int (nI z), .int th, .int en, .int md, .int po, .int pl, .int la, .int (nI d), .long va])), (oN, .inl (cN, 1100, .inl N)), (oU, .inl (cU, 1100, .inr (.inl U)))] t.heap ∧ va_K (dC, dI) vwCl [(cN, .int), (cU, .long)] t ∧ va_D (va_A [(oM, .inr (3, [.int co, .int mo, .ref oN, .ref oU, .int (nI z), .int th, .int en, .int md, .int po, .int pl, .int la, .int (nI d), .long va])), (oN, .inl (cN, 1100, .inl N)), (oU, .inl (cU, 1100, .inr (.inl U)))] sz) [(oM, .inr (3, [.int co, .int mo, .ref oN, .ref oU, .int (nI z), .int th, .int en, .int md, .int po, .int pl, .int la, .int (nI d), .long va])), (oN, .inl (cN, 1100, .inl N)), (oU, .inl (cU, 1100, .inr (.inl U)))]) (va_A [(oM, .inr (3, [.int co, .int mo, .ref oN, .ref oU, .int (nI z), .int th, .int en, .int md, .int po, .int pl, .int la, .int (nI d), .long va])), (oN, .inl (cN, 1100, .inl N)), (oU, .inl (cU, 1100, .inr (.inl U)))] sz)) 0 0 (va_A [(oM, .inr (3, [.int co, .int mo, .ref oN, .ref oU, .int (nI z), .int th, .int en, .int md, .int po, .int pl, .int la, .int (nI d), .long va])), (oN, .inl (cN, 1100, .inl N)), (oU, .inl (cU, 1100, .inr (.inl U)))] sz) := by
  refine Met.ofW (cc := cX2_upTo) (maxL := 5) (ret := (some .int)) (by decide) rfl ?_
  intro p e s m args below meth c s₁ B hml hv
  obtain ⟨rfl, hsz, hP, hK, hD0⟩ := hv
  have hx := B.exec
  have hb := B.bytes
  have hr := B.returns
  have hts := atoms_spec (ws := wsX2_upTo) B.pre
  have hown : s.vm.findClass RX2 = some m.cls := findClass_of_methodNamed B.named
  have hlocks := B.notSynchronized
  subst hsz
  have hD := hD0.self (sz := s.heap.size)
  generalize hAe : va_A [(oM, .inr (3, [.int co, .int mo, .ref oN, .ref oU, .int (nI z), .int th, .int en, .int md, .int po, .int pl, .int la, .int (nI d), .long va])), (oN, .inl (cN, 1100, .inl N)), (oU, .inl (cU, 1100, .inr (.inl U)))] s.heap.size = A at hD ⊢
  have hA : ∀ q : Nat, s.heap.size ≤ q → A q := fun q h => by rw [← hAe]; exact Or.inr h
  have hS : va_S A s.heap s.heap [] := va_S.rf
  have hP : va_P (dC, dI) vwCl [(oM, .inr (3, [.int co, .int mo, .ref oN, .ref oU, .int (nI z), .int th, .int en, .int md, .int po, .int pl, .int la, .int (nI d), .long va])), (oN, .inl (cN, 1100, .inl N)), (oU, .inl (cU, 1100, .inr (.inl U)))] s.heap := hP
  have hl := lv_entry ([.ref oM, .long p0]) (n := 5) (Nat.le_of_ble_eq_true rfl)
  rw [lg_entry_eq]
  generalize (lg_sl ([.ref oM, .long p0]) ++ List.replicate (5 - (lg_sl ([.ref oM, .long p0])).length) Slot.unset).toArray = ls at hl ⊢
  have hl : lv_has ls 5 [(0, .ref oM), (1, .long p0)] := hl
  refine W_name (fun Q hQ9 => ?_)
  refine lv_iconst (v := 0) hx hb dX2_upTo_0 (by decide) ?_
  refine lv_istore_n (lv' := [(3, .int 0), (0, .ref oM), (1, .long p0)]) hx hb dX2_upTo_1 rfl hl (by decide) rfl (fun ls hl => ?_)
  refine lv_iconst (v := 0) hx hb dX2_upTo_2 (by decide) ?_
  refine lv_istore (lv' := [(4, .int 0), (3, .int 0), (0, .ref oM), (1, .long p0)]) hx hb dX2_upTo_3 hl (by decide) rfl (fun ls hl => ?_)
  have loop : ∀ (k i : Nat) (ls : Array Slot) (H : Heap) (locs : List Loc), (i ≤ z) → (z + 1 ≤ i + k) → lv_has ls 5 [(4, .int (nI i)), (3, .int (gUpTo N p0 i)), (0, .ref oM), (1, .long p0)] → va_P (dC, dI) vwCl [(oM, .inr (3, [.int co, .int mo, .ref oN, .ref oU, .int (nI z), .int th, .int en, .int md, .int po, .int pl, .int la, .int (nI d), .long va])), (oN, .inl (cN, 1100, .inl N)), (oU, .inl (cU, 1100, .inr (.inl U)))] H → va_D A [(oM, .inr (3, [.int co, .int mo, .ref oN, .ref oU, .int (nI z), .int th, .int en, .int md, .int po, .int pl, .int la, .int (nI d), .long va])), (oN, .inl (cN, 1100, .inl N)), (oU, .inl (cU, 1100, .inr (.inl U)))] → va_S A s.heap H locs → W p l e (headSpec wsX2_upTo ({ frames := 0, cells := 0, slots := 0, locals := 0 })).room s m #[(Value.ref oM), (Value.long p0)] below meth c H locs 0 0 Q (F0 m 5 ls []) := by
    intro k
    induction k with
    | zero => intro i ls H locs h1 h2; exact absurd h2 (by omega)
    | succ k ih =>
      intro i ls H locs h1 h2 hl hP hD hS
      refine lv_iload hx hb dX2_upTo_5 (lv_at hl 0 rfl) ?_
      refine lv_aload_n hx hb dX2_upTo_7 rfl (lv_at hl 2 rfl) ?_
      refine va_get (D := (dC, dI)) (ci := 3) (v := .int (nI z)) (C := RX2) (T := TX2) (N := 13) hx hb hts (by decide +kernel) hown hK hP 0 rfl rfl 4 (by decide) (hts (.fieldLink RX2 31 "RelativeFilesModel" "size" "I") (by decide +kernel)) (fun _ h9 => h9) rfl dX2_upTo_8 ?_
      refine lv_icmp_ge (tgt := 56) hx hb dX2_upTo_11 (by decide) (fun c_1 => ?_) (fun c_1 => ?_)
      · -- taken at 11: (nI z) ≤ (nI i)
        have e8 : i = z := by have := (nI_leI (by omega) (by omega)).mp c_1; omega
        subst e8
        refine lv_iload_n hx hb dX2_upTo_56 rfl (lv_at hl 1 rfl) ?_
        subst hQ9
        exact W.iret (v := gUpTo N p0 i) hx hb hr (fun t ht hW => ⟨⟨gUpTo N p0 i, (), rfl, rfl, by rw [ht]; exact hP, va_K.moved hW.alike hK, hD⟩, hS.F ht⟩) hS.2.2 dX2_upTo_57
      · -- not taken at 11: ¬ (nI z) ≤ (nI i)
        have hi2 : i < z := by rcases Nat.lt_or_ge i z with q | q; exact q; exact absurd (nI_le q (by omega)) c_1
        refine lv_aload_n hx hb dX2_upTo_14 rfl (lv_at hl 2 rfl) ?_
        refine va_get (D := (dC, dI)) (ci := 3) (v := .ref oN) (C := RX2) (T := TX2) (N := 13) hx hb hts (by decide +kernel) hown hK hP 0 rfl rfl 2 (by decide) (hts (.fieldLink RX2 7 "RelativeFilesModel" "numbers" "[I") (by decide +kernel)) (fun _ h9 => h9) rfl dX2_upTo_15 ?_
        refine lv_iload hx hb dX2_upTo_18 (lv_at hl 0 rfl) ?_
        refine va_iald hx hb hK hP 1 0 rfl rfl (vp_in_nI (by omega) (by omega)) dX2_upTo_20 ?_
        rw [show N ((nI i).toNatClampNeg) = N i from by rw [nI_clamp (by omega)]]
        refine lv_i2l (v := (N i).toInt64) hx hb dX2_upTo_21 rfl ?_
        refine lv_lload_n hx hb dX2_upTo_22 rfl (lv_at hl 3 rfl) ?_
        refine W.lcmp hx hb dX2_upTo_23 ?_
        refine lv_if_gt (tgt := 48) hx hb dX2_upTo_24 (by decide) (fun c_2 => ?_) (fun c_2 => ?_)
        · -- taken at 24: 0 < (lg_cmp ((N i).toInt64) p0)
          refine lv_iload_n hx hb dX2_upTo_48 rfl (lv_at hl 1 rfl) ?_
          refine W_topi (gUpTo N p0 (i + 1)) (by simp only [gUpTo, if_neg c_1, if_pos c_2]) ?_
          refine lv_istore_n (lv' := [(3, .int (gUpTo N p0 (i + 1))), (4, .int (nI i)), (0, .ref oM), (1, .long p0)]) hx hb dX2_upTo_49 rfl hl (by decide) rfl (fun ls hl => ?_)
          refine lv_iinc (v := (nI (i + 1))) (lv' := [(4, .int (nI (i + 1))), (3, .int (gUpTo N p0 (i + 1))), (0, .ref oM), (1, .long p0)]) hx hb dX2_upTo_50 hl (k := 1) rfl ((nI_succ i).symm) (by decide) rfl (fun ls hl => ?_)
          refine lv_goto (tgt := 5) hx hb dX2_upTo_53 (by decide) ?_
          exact ih (i + 1) ls _ _ (by omega) (by omega) (lv_sub hl [0, 1, 2, 3] rfl) hP hD hS
        · -- not taken at 24: ¬ 0 < (lg_cmp ((N i).toInt64) p0)
          refine lv_aload_n hx hb dX2_upTo_27 rfl (lv_at hl 2 rfl) ?_
          refine va_get (D := (dC, dI)) (ci := 3) (v := .ref oN) (C := RX2) (T := TX2) (N := 13) hx hb hts (by decide +kernel) hown hK hP 0 rfl rfl 2 (by decide) (hts (.fieldLink RX2 7 "RelativeFilesModel" "numbers" "[I") (by decide +kernel)) (fun _ h9 => h9) rfl dX2_upTo_28 ?_
          refine lv_iload hx hb dX2_upTo_31 (lv_at hl 0 rfl) ?_
          refine va_iald hx hb hK hP 1 0 rfl rfl (vp_in_nI (by omega) (by omega)) dX2_upTo_33 ?_
          rw [show N ((nI i).toNatClampNeg) = N i from by rw [nI_clamp (by omega)]]
          refine lv_iload_n hx hb dX2_upTo_34 rfl (lv_at hl 1 rfl) ?_
          refine lv_icmp_le (tgt := 48) hx hb dX2_upTo_35 (by decide) (fun c_3 => ?_) (fun c_3 => ?_)
          · -- taken at 35: (N i) ≤ (gUpTo N p0 i)
            refine lv_iload_n hx hb dX2_upTo_48 rfl (lv_at hl 1 rfl) ?_
            refine W_topi (gUpTo N p0 (i + 1)) (by simp only [gUpTo, if_neg c_1, if_neg c_2, if_pos c_3]) ?_
            refine lv_istore_n (lv' := [(3, .int (gUpTo N p0 (i + 1))), (4, .int (nI i)), (0, .ref oM), (1, .long p0)]) hx hb dX2_upTo_49 rfl hl (by decide) rfl (fun ls hl => ?_)
            refine lv_iinc (v := (nI (i + 1))) (lv' := [(4, .int (nI (i + 1))), (3, .int (gUpTo N p0 (i + 1))), (0, .ref oM), (1, .long p0)]) hx hb dX2_upTo_50 hl (k := 1) rfl ((nI_succ i).symm) (by decide) rfl (fun ls hl => ?_)
            refine lv_goto (tgt := 5) hx hb dX2_upTo_53 (by decide) ?_
            exact ih (i + 1) ls _ _ (by omega) (by omega) (lv_sub hl [0, 1, 2, 3] rfl) hP hD hS
          · -- not taken at 35: ¬ (N i) ≤ (gUpTo N p0 i)
            refine lv_aload_n hx hb dX2_upTo_38 rfl (lv_at hl 2 rfl) ?_
            refine va_get (D := (dC, dI)) (ci := 3) (v := .ref oN) (C := RX2) (T := TX2) (N := 13) hx hb hts (by decide +kernel) hown hK hP 0 rfl rfl 2 (by decide) (hts (.fieldLink RX2 7 "RelativeFilesModel" "numbers" "[I") (by decide +kernel)) (fun _ h9 => h9) rfl dX2_upTo_39 ?_
            refine lv_iload hx hb dX2_upTo_42 (lv_at hl 0 rfl) ?_
            refine va_iald hx hb hK hP 1 0 rfl rfl (vp_in_nI (by omega) (by omega)) dX2_upTo_44 ?_
            rw [show N ((nI i).toNatClampNeg) = N i from by rw [nI_clamp (by omega)]]
            refine lv_goto (tgt := 49) hx hb dX2_upTo_45 (by decide) ?_
            refine W_topi (gUpTo N p0 (i + 1)) (by simp only [gUpTo, if_neg c_1, if_neg c_2, if_neg c_3]) ?_
            refine lv_istore_n (lv' := [(3, .int (gUpTo N p0 (i + 1))), (4, .int (nI i)), (0, .ref oM), (1, .long p0)]) hx hb dX2_upTo_49 rfl hl (by decide) rfl (fun ls hl => ?_)
            refine lv_iinc (v := (nI (i + 1))) (lv' := [(4, .int (nI (i + 1))), (3, .int (gUpTo N p0 (i + 1))), (0, .ref oM), (1, .long p0)]) hx hb dX2_upTo_50 hl (k := 1) rfl ((nI_succ i).symm) (by decide) rfl (fun ls hl => ?_)
            refine lv_goto (tgt := 5) hx hb dX2_upTo_53 (by decide) ?_
            exact ih (i + 1) ls _ _ (by omega) (by omega) (lv_sub hl [0, 1, 2, 3] rfl) hP hD hS
  exact loop (z + 1) 0  ls _ _ (Nat.zero_le z) (by omega) (by rw [nI_0]; exact hl) hP hD hS

set_option maxHeartbeats 1000000 in
set_option maxRecDepth 100000 in
theorem kX2_isLong (l : Launch) (dC : Nat → ClassId) (dI : Nat → Nat → Nat) (oM oN oU : Nat) (cN cU : ClassId) (z d : Nat) (co mo th en md po pl la : Int32) (va : Int64) (N : Nat → Int32) (U : Nat → Int64) (p0 : Int32) (sz : Nat) (hz : z ≤ 1100) (hd : d ≤ 9) : Met l yX2_isLong wsX2_isLong ({ frames := 0, cells := 0, slots := 0, locals := 0 }) (va_Pc [.ref oM, .int p0] (fun U9 => U9.heap.size = sz ∧ va_P (dC, dI) vwCl [(oM, .inr (3, [.int co, .int mo, .ref oN, .ref oU, .int (nI z), .int th, .int en, .int md, .int po, .int pl, .int la, .int (nI d), .long va])), (oN, .inl (cN, 1100, .inl N)), (oU, .inl (cU, 1100, .inr (.inl U)))] U9.heap ∧ va_K (dC, dI) vwCl [(cN, .int), (cU, .long)] U9 ∧ va_D (fun _ => True) [(oM, .inr (3, [.int co, .int mo, .ref oN, .ref oU, .int (nI z), .int th, .int en, .int md, .int po, .int pl, .int la, .int (nI d), .long va])), (oN, .inl (cN, 1100, .inl N)), (oU, .inl (cU, 1100, .inr (.inl U)))])) (va_Qi (fun (r : Int32) (_ : Unit) => (gLong p0 d ∧ r = 1) ∨ (¬ (gLong p0 d) ∧ r = 0)) (fun (_ : Unit) (t : State) => va_P (dC, dI) vwCl [(oM, .inr (3, [.int co, .int mo, .ref oN, .ref oU, .int (nI z), .int th, .int en, .int md, .int po, .int pl, .int la, .int (nI d), .long va])), (oN, .inl (cN, 1100, .inl N)), (oU, .inl (cU, 1100, .inr (.inl U)))] t.heap ∧ va_K (dC, dI) vwCl [(cN, .int), (cU, .long)] t ∧ va_D (va_A [(oM, .inr (3, [.int co, .int mo, .ref oN, .ref oU, .int (nI z), .int th, .int en, .int md, .int po, .int pl, .int la, .int (nI d), .long va])), (oN, .inl (cN, 1100, .inl N)), (oU, .inl (cU, 1100, .inr (.inl U)))] sz) [(oM, .inr (3, [.int co, .int mo, .ref oN, .ref oU, .int (nI z), .int th, .int en, .int md, .int po, .int pl, .int la, .int (nI d), .long va])), (oN, .inl (cN, 1100, .inl N)), (oU, .inl (cU, 1100, .inr (.inl U)))]) (va_A [(oM, .inr (3, [.int co, .int mo, .ref oN, .ref oU, .int (nI z), .int th, .int en, .int md, .int po, .int pl, .int la, .int (nI d), .long va])), (oN, .inl (cN, 1100, .inl N)), (oU, .inl (cU, 1100, .inr (.inl U)))] sz)) 0 0 (va_A [(oM, .inr (3, [.int co, .int mo, .ref oN, .ref oU, .int (nI z), .int th, .int en, .int md, .int po, .int pl, .int la, .int (nI d), .long va])), (oN, .inl (cN, 1100, .inl N)), (oU, .inl (cU, 1100, .inr (.inl U)))] sz) := by
  refine Met.ofW (cc := cX2_isLong) (maxL := 5) (ret := (some .boolean)) (by decide) rfl ?_
  intro p e s m args below meth c s₁ B hml hv
  obtain ⟨rfl, hsz, hP, hK, hD0⟩ := hv
  have hx := B.exec
  have hb := B.bytes
  have hr := B.returns
  have hts := atoms_spec (ws := wsX2_isLong) B.pre
  have hown : s.vm.findClass RX2 = some m.cls := findClass_of_methodNamed B.named
  have hlocks := B.notSynchronized
  subst hsz
  have hD := hD0.self (sz := s.heap.size)
  generalize hAe : va_A [(oM, .inr (3, [.int co, .int mo, .ref oN, .ref oU, .int (nI z), .int th, .int en, .int md, .int po, .int pl, .int la, .int (nI d), .long va])), (oN, .inl (cN, 1100, .inl N)), (oU, .inl (cU, 1100, .inr (.inl U)))] s.heap.size = A at hD ⊢
  have hA : ∀ q : Nat, s.heap.size ≤ q → A q := fun q h => by rw [← hAe]; exact Or.inr h
  have hS : va_S A s.heap s.heap [] := va_S.rf
  have hP : va_P (dC, dI) vwCl [(oM, .inr (3, [.int co, .int mo, .ref oN, .ref oU, .int (nI z), .int th, .int en, .int md, .int po, .int pl, .int la, .int (nI d), .long va])), (oN, .inl (cN, 1100, .inl N)), (oU, .inl (cU, 1100, .inr (.inl U)))] s.heap := hP
  have hl := lv_entry ([.ref oM, .int p0]) (n := 5) (Nat.le_of_ble_eq_true rfl)
  rw [lg_entry_eq]
  generalize (lg_sl ([.ref oM, .int p0]) ++ List.replicate (5 - (lg_sl ([.ref oM, .int p0])).length) Slot.unset).toArray = ls at hl ⊢
  have hl : lv_has ls 5 [(0, .ref oM), (1, .int p0)] := hl
  refine W_name (fun Q hQ9 => ?_)
  refine lv_lconst (v := 1) hx hb dX2_isLong_0 (by decide) ?_
  refine lv_lstore_n (lv' := [(2, .long 1), (0, .ref oM), (1, .int p0)]) hx hb dX2_isLong_1 rfl hl (by decide) rfl (fun ls hl => ?_)
  refine lv_iconst (v := 0) hx hb dX2_isLong_2 (by decide) ?_
  refine lv_istore (lv' := [(4, .int 0), (2, .long 1), (0, .ref oM), (1, .int p0)]) hx hb dX2_isLong_3 hl (by decide) rfl (fun ls hl => ?_)
  have loop : ∀ (k i : Nat) (ls : Array Slot) (H : Heap) (locs : List Loc), (i ≤ d) → (d + 1 ≤ i + k) → lv_has ls 5 [(4, .int (nI i)), (2, .long (rBound i)), (0, .ref oM), (1, .int p0)] → va_P (dC, dI) vwCl [(oM, .inr (3, [.int co, .int mo, .ref oN, .ref oU, .int (nI z), .int th, .int en, .int md, .int po, .int pl, .int la, .int (nI d), .long va])), (oN, .inl (cN, 1100, .inl N)), (oU, .inl (cU, 1100, .inr (.inl U)))] H → va_D A [(oM, .inr (3, [.int co, .int mo, .ref oN, .ref oU, .int (nI z), .int th, .int en, .int md, .int po, .int pl, .int la, .int (nI d), .long va])), (oN, .inl (cN, 1100, .inl N)), (oU, .inl (cU, 1100, .inr (.inl U)))] → va_S A s.heap H locs → W p l e (headSpec wsX2_isLong ({ frames := 0, cells := 0, slots := 0, locals := 0 })).room s m #[(Value.ref oM), (Value.int p0)] below meth c H locs 0 0 Q (F0 m 5 ls []) := by
    intro k
    induction k with
    | zero => intro i ls H locs h1 h2; exact absurd h2 (by omega)
    | succ k ih =>
      intro i ls H locs h1 h2 hl hP hD hS
      refine lv_iload hx hb dX2_isLong_5 (lv_at hl 0 rfl) ?_
      refine lv_aload_n hx hb dX2_isLong_7 rfl (lv_at hl 2 rfl) ?_
      refine va_get (D := (dC, dI)) (ci := 3) (v := .int (nI d)) (C := RX2) (T := TX2) (N := 13) hx hb hts (by decide +kernel) hown hK hP 0 rfl rfl 11 (by decide) (hts (.fieldLink RX2 21 "RelativeFilesModel" "digits" "I") (by decide +kernel)) (fun _ h9 => h9) rfl dX2_isLong_8 ?_
      refine lv_icmp_ge (tgt := 26) hx hb dX2_isLong_11 (by decide) (fun c_1 => ?_) (fun c_1 => ?_)
      · -- taken at 11: (nI d) ≤ (nI i)
        have e8 : i = d := by have := (nI_leI (by omega) (by omega)).mp c_1; omega
        subst e8
        refine lv_iload_n hx hb dX2_isLong_26 rfl (lv_at hl 3 rfl) ?_
        refine lv_i2l (v := p0.toInt64) hx hb dX2_isLong_27 rfl ?_
        refine lv_lload_n hx hb dX2_isLong_28 rfl (lv_at hl 1 rfl) ?_
        refine W.lcmp hx hb dX2_isLong_29 ?_
        refine lv_if_lt (tgt := 37) hx hb dX2_isLong_30 (by decide) (fun c_2 => ?_) (fun c_2 => ?_)
        · -- taken at 30: (lg_cmp p0.toInt64 (rBound i)) < 0
          refine lv_iconst (v := 0) hx hb dX2_isLong_37 (by decide) ?_
          subst hQ9
          exact W.zret (ty := .boolean) (v := 0) hx hb hr (by decide) (fun t ht hW => ⟨⟨0, (), rfl, Or.inr ⟨fun q => q c_2, rfl⟩, by rw [ht]; exact hP, va_K.moved hW.alike hK, hD⟩, hS.F ht⟩) hS.2.2 dX2_isLong_38
        · -- not taken at 30: ¬ (lg_cmp p0.toInt64 (rBound i)) < 0
          refine lv_iconst (v := 1) hx hb dX2_isLong_33 (by decide) ?_
          refine lv_goto (tgt := 38) hx hb dX2_isLong_34 (by decide) ?_
          subst hQ9
          exact W.zret (ty := .boolean) (v := 1) hx hb hr (by decide) (fun t ht hW => ⟨⟨1, (), rfl, Or.inl ⟨c_2, rfl⟩, by rw [ht]; exact hP, va_K.moved hW.alike hK, hD⟩, hS.F ht⟩) hS.2.2 dX2_isLong_38
      · -- not taken at 11: ¬ (nI d) ≤ (nI i)
        have hi2 : i < d := by rcases Nat.lt_or_ge i d with q | q; exact q; exact absurd (nI_le q (by omega)) c_1
        refine lv_lload_n hx hb dX2_isLong_14 rfl (lv_at hl 1 rfl) ?_
        refine lv_ldc2 (v := 10) hx hb hown (hts (.constantLong RX2 34 10) (by decide +kernel)) dX2_isLong_15 ?_
        refine lv_lmul hx hb dX2_isLong_18 ?_
        refine W_topl (rBound (i + 1)) rfl ?_
        refine lv_lstore_n (lv' := [(2, .long (rBound (i + 1))), (4, .int (nI i)), (0, .ref oM), (1, .int p0)]) hx hb dX2_isLong_19 rfl hl (by decide) rfl (fun ls hl => ?_)
        refine lv_iinc (v := (nI (i + 1))) (lv' := [(4, .int (nI (i + 1))), (2, .long (rBound (i + 1))), (0, .ref oM), (1, .int p0)]) hx hb dX2_isLong_20 hl (k := 1) rfl ((nI_succ i).symm) (by decide) rfl (fun ls hl => ?_)
        refine lv_goto (tgt := 5) hx hb dX2_isLong_23 (by decide) ?_
        exact ih (i + 1) ls _ _ (by omega) (by omega) (lv_sub hl [0, 1, 2, 3] rfl) hP hD hS
  exact loop (d + 1) 0  ls _ _ (Nat.zero_le d) (by omega) (by rw [nI_0]; exact hl) hP hD hS

set_option maxHeartbeats 1000000 in
set_option maxRecDepth 100000 in
theorem kX2_isPlace (l : Launch) (dC : Nat → ClassId) (dI : Nat → Nat → Nat) (oM oN oU : Nat) (cN cU : ClassId) (z d : Nat) (co mo th en md po pl la : Int32) (va : Int64) (N : Nat → Int32) (U : Nat → Int64) (p0 : Int32) (sz : Nat) (hz : z ≤ 1100) : Met l yX2_isPlace wsX2_isPlace ({ frames := 0, cells := 0, slots := 0, locals := 0 }) (va_Pc [.ref oM, .int p0] (fun U9 => U9.heap.size = sz ∧ va_P (dC, dI) vwCl [(oM, .inr (3, [.int co, .int mo, .ref oN, .ref oU, .int (nI z), .int th, .int en, .int md, .int po, .int pl, .int la, .int (nI d), .long va])), (oN, .inl (cN, 1100, .inl N)), (oU, .inl (cU, 1100, .inr (.inl U)))] U9.heap ∧ va_K (dC, dI) vwCl [(cN, .int), (cU, .long)] U9 ∧ va_D (fun _ => True) [(oM, .inr (3, [.int co, .int mo, .ref oN, .ref oU, .int (nI z), .int th, .int en, .int md, .int po, .int pl, .int la, .int (nI d), .long va])), (oN, .inl (cN, 1100, .inl N)), (oU, .inl (cU, 1100, .inr (.inl U)))])) (va_Qi (fun (r : Int32) (_ : Unit) => (gPl mo p0 ∧ r = 1) ∨ (¬ (gPl mo p0) ∧ r = 0)) (fun (_ : Unit) (t : State) => va_P (dC, dI) vwCl [(oM, .inr (3, [.int co, .int mo, .ref oN, .ref oU, .int (nI z), .int th, .int en, .int md, .int po, .int pl, .int la, .int (nI d), .long va])), (oN, .inl (cN, 1100, .inl N)), (oU, .inl (cU, 1100, .inr (.inl U)))] t.heap ∧ va_K (dC, dI) vwCl [(cN, .int), (cU, .long)] t ∧ va_D (va_A [(oM, .inr (3, [.int co, .int mo, .ref oN, .ref oU, .int (nI z), .int th, .int en, .int md, .int po, .int pl, .int la, .int (nI d), .long va])), (oN, .inl (cN, 1100, .inl N)), (oU, .inl (cU, 1100, .inr (.inl U)))] sz) [(oM, .inr (3, [.int co, .int mo, .ref oN, .ref oU, .int (nI z), .int th, .int en, .int md, .int po, .int pl, .int la, .int (nI d), .long va])), (oN, .inl (cN, 1100, .inl N)), (oU, .inl (cU, 1100, .inr (.inl U)))]) (va_A [(oM, .inr (3, [.int co, .int mo, .ref oN, .ref oU, .int (nI z), .int th, .int en, .int md, .int po, .int pl, .int la, .int (nI d), .long va])), (oN, .inl (cN, 1100, .inl N)), (oU, .inl (cU, 1100, .inr (.inl U)))] sz)) 0 0 (va_A [(oM, .inr (3, [.int co, .int mo, .ref oN, .ref oU, .int (nI z), .int th, .int en, .int md, .int po, .int pl, .int la, .int (nI d), .long va])), (oN, .inl (cN, 1100, .inl N)), (oU, .inl (cU, 1100, .inr (.inl U)))] sz) := by
  refine Met.ofW (cc := cX2_isPlace) (maxL := 2) (ret := (some .boolean)) (by decide) rfl ?_
  intro p e s m args below meth c s₁ B hml hv
  obtain ⟨rfl, hsz, hP, hK, hD0⟩ := hv
  have hx := B.exec
  have hb := B.bytes
  have hr := B.returns
  have hts := atoms_spec (ws := wsX2_isPlace) B.pre
  have hown : s.vm.findClass RX2 = some m.cls := findClass_of_methodNamed B.named
  have hlocks := B.notSynchronized
  subst hsz
  have hD := hD0.self (sz := s.heap.size)
  generalize hAe : va_A [(oM, .inr (3, [.int co, .int mo, .ref oN, .ref oU, .int (nI z), .int th, .int en, .int md, .int po, .int pl, .int la, .int (nI d), .long va])), (oN, .inl (cN, 1100, .inl N)), (oU, .inl (cU, 1100, .inr (.inl U)))] s.heap.size = A at hD ⊢
  have hA : ∀ q : Nat, s.heap.size ≤ q → A q := fun q h => by rw [← hAe]; exact Or.inr h
  have hS : va_S A s.heap s.heap [] := va_S.rf
  have hP : va_P (dC, dI) vwCl [(oM, .inr (3, [.int co, .int mo, .ref oN, .ref oU, .int (nI z), .int th, .int en, .int md, .int po, .int pl, .int la, .int (nI d), .long va])), (oN, .inl (cN, 1100, .inl N)), (oU, .inl (cU, 1100, .inr (.inl U)))] s.heap := hP
  have hl := lv_entry ([.ref oM, .int p0]) (n := 2) (Nat.le_of_ble_eq_true rfl)
  rw [lg_entry_eq]
  generalize (lg_sl ([.ref oM, .int p0]) ++ List.replicate (2 - (lg_sl ([.ref oM, .int p0])).length) Slot.unset).toArray = ls at hl ⊢
  have hl : lv_has ls 2 [(0, .ref oM), (1, .int p0)] := hl
  refine W_name (fun Q hQ9 => ?_)
  refine lv_iload_n hx hb dX2_isPlace_0 rfl (lv_at hl 1 rfl) ?_
  refine lv_if_le (tgt := 16) hx hb dX2_isPlace_1 (by decide) (fun c_1 => ?_) (fun c_1 => ?_)
  · -- taken at 1: p0 ≤ 0
    refine lv_iconst (v := 0) hx hb dX2_isPlace_16 (by decide) ?_
    subst hQ9
    exact W.zret (ty := .boolean) (v := 0) hx hb hr (by decide) (fun t ht hW => ⟨⟨0, (), rfl, Or.inr ⟨fun q => q.1 c_1, rfl⟩, by rw [ht]; exact hP, va_K.moved hW.alike hK, hD⟩, hS.F ht⟩) hS.2.2 dX2_isPlace_17
  · -- not taken at 1: ¬ p0 ≤ 0
    refine lv_iload_n hx hb dX2_isPlace_4 rfl (lv_at hl 1 rfl) ?_
    refine lv_aload_n hx hb dX2_isPlace_5 rfl (lv_at hl 0 rfl) ?_
    refine va_get (D := (dC, dI)) (ci := 3) (v := .int mo) (C := RX2) (T := TX2) (N := 13) hx hb hts (by decide +kernel) hown hK hP 0 rfl rfl 1 (by decide) (hts (.fieldLink RX2 25 "RelativeFilesModel" "most" "I") (by decide +kernel)) (fun _ h9 => h9) rfl dX2_isPlace_6 ?_
    refine lv_icmp_gt (tgt := 16) hx hb dX2_isPlace_9 (by decide) (fun c_2 => ?_) (fun c_2 => ?_)
    · -- taken at 9: mo < p0
      refine lv_iconst (v := 0) hx hb dX2_isPlace_16 (by decide) ?_
      subst hQ9
      exact W.zret (ty := .boolean) (v := 0) hx hb hr (by decide) (fun t ht hW => ⟨⟨0, (), rfl, Or.inr ⟨fun q => q.2 c_2, rfl⟩, by rw [ht]; exact hP, va_K.moved hW.alike hK, hD⟩, hS.F ht⟩) hS.2.2 dX2_isPlace_17
    · -- not taken at 9: ¬ mo < p0
      refine lv_iconst (v := 1) hx hb dX2_isPlace_12 (by decide) ?_
      refine lv_goto (tgt := 17) hx hb dX2_isPlace_13 (by decide) ?_
      subst hQ9
      exact W.zret (ty := .boolean) (v := 1) hx hb hr (by decide) (fun t ht hW => ⟨⟨1, (), rfl, Or.inl ⟨⟨c_1, c_2⟩, rfl⟩, by rw [ht]; exact hP, va_K.moved hW.alike hK, hD⟩, hS.F ht⟩) hS.2.2 dX2_isPlace_17

set_option maxHeartbeats 1000000 in
set_option maxRecDepth 100000 in
theorem kX2_reads (l : Launch) (dC : Nat → ClassId) (dI : Nat → Nat → Nat) (oM oN oU : Nat) (cN cU : ClassId) (z d : Nat) (co mo th en md po pl la : Int32) (va : Int64) (N : Nat → Int32) (U : Nat → Int64) (sz : Nat) (hz : z ≤ 1100) : Met l yX2_reads wsX2_reads ({ frames := 0, cells := 0, slots := 0, locals := 0 }) (va_Pc [.ref oM] (fun U9 => U9.heap.size = sz ∧ va_P (dC, dI) vwCl [(oM, .inr (3, [.int co, .int mo, .ref oN, .ref oU, .int (nI z), .int th, .int en, .int md, .int po, .int pl, .int la, .int (nI d), .long va])), (oN, .inl (cN, 1100, .inl N)), (oU, .inl (cU, 1100, .inr (.inl U)))] U9.heap ∧ va_K (dC, dI) vwCl [(cN, .int), (cU, .long)] U9 ∧ va_D (fun _ => True) [(oM, .inr (3, [.int co, .int mo, .ref oN, .ref oU, .int (nI z), .int th, .int en, .int md, .int po, .int pl, .int la, .int (nI d), .long va])), (oN, .inl (cN, 1100, .inl N)), (oU, .inl (cU, 1100, .inr (.inl U)))])) (va_Qi (fun (r : Int32) (_ : Unit) => (gRd md ∧ r = 1) ∨ (¬ (gRd md) ∧ r = 0)) (fun (_ : Unit) (t : State) => va_P (dC, dI) vwCl [(oM, .inr (3, [.int co, .int mo, .ref oN, .ref oU, .int (nI z), .int th, .int en, .int md, .int po, .int pl, .int la, .int (nI d), .long va])), (oN, .inl (cN, 1100, .inl N)), (oU, .inl (cU, 1100, .inr (.inl U)))] t.heap ∧ va_K (dC, dI) vwCl [(cN, .int), (cU, .long)] t ∧ va_D (va_A [(oM, .inr (3, [.int co, .int mo, .ref oN, .ref oU, .int (nI z), .int th, .int en, .int md, .int po, .int pl, .int la, .int (nI d), .long va])), (oN, .inl (cN, 1100, .inl N)), (oU, .inl (cU, 1100, .inr (.inl U)))] sz) [(oM, .inr (3, [.int co, .int mo, .ref oN, .ref oU, .int (nI z), .int th, .int en, .int md, .int po, .int pl, .int la, .int (nI d), .long va])), (oN, .inl (cN, 1100, .inl N)), (oU, .inl (cU, 1100, .inr (.inl U)))]) (va_A [(oM, .inr (3, [.int co, .int mo, .ref oN, .ref oU, .int (nI z), .int th, .int en, .int md, .int po, .int pl, .int la, .int (nI d), .long va])), (oN, .inl (cN, 1100, .inl N)), (oU, .inl (cU, 1100, .inr (.inl U)))] sz)) 0 0 (va_A [(oM, .inr (3, [.int co, .int mo, .ref oN, .ref oU, .int (nI z), .int th, .int en, .int md, .int po, .int pl, .int la, .int (nI d), .long va])), (oN, .inl (cN, 1100, .inl N)), (oU, .inl (cU, 1100, .inr (.inl U)))] sz) := by
  refine Met.ofW (cc := cX2_reads) (maxL := 1) (ret := (some .boolean)) (by decide) rfl ?_
  intro p e s m args below meth c s₁ B hml hv
  obtain ⟨rfl, hsz, hP, hK, hD0⟩ := hv
  have hx := B.exec
  have hb := B.bytes
  have hr := B.returns
  have hts := atoms_spec (ws := wsX2_reads) B.pre
  have hown : s.vm.findClass RX2 = some m.cls := findClass_of_methodNamed B.named
  have hlocks := B.notSynchronized
  subst hsz
  have hD := hD0.self (sz := s.heap.size)
  generalize hAe : va_A [(oM, .inr (3, [.int co, .int mo, .ref oN, .ref oU, .int (nI z), .int th, .int en, .int md, .int po, .int pl, .int la, .int (nI d), .long va])), (oN, .inl (cN, 1100, .inl N)), (oU, .inl (cU, 1100, .inr (.inl U)))] s.heap.size = A at hD ⊢
  have hA : ∀ q : Nat, s.heap.size ≤ q → A q := fun q h => by rw [← hAe]; exact Or.inr h
  have hS : va_S A s.heap s.heap [] := va_S.rf
  have hP : va_P (dC, dI) vwCl [(oM, .inr (3, [.int co, .int mo, .ref oN, .ref oU, .int (nI z), .int th, .int en, .int md, .int po, .int pl, .int la, .int (nI d), .long va])), (oN, .inl (cN, 1100, .inl N)), (oU, .inl (cU, 1100, .inr (.inl U)))] s.heap := hP
  have hl := lv_entry ([.ref oM]) (n := 1) (Nat.le_of_ble_eq_true rfl)
  rw [lg_entry_eq]
  generalize (lg_sl ([.ref oM]) ++ List.replicate (1 - (lg_sl ([.ref oM])).length) Slot.unset).toArray = ls at hl ⊢
  have hl : lv_has ls 1 [(0, .ref oM)] := hl
  refine W_name (fun Q hQ9 => ?_)
  refine lv_aload_n hx hb dX2_reads_0 rfl (lv_at hl 0 rfl) ?_
  refine va_get (D := (dC, dI)) (ci := 3) (v := .int md) (C := RX2) (T := TX2) (N := 13) hx hb hts (by decide +kernel) hown hK hP 0 rfl rfl 7 (by decide) (hts (.fieldLink RX2 17 "RelativeFilesModel" "mode" "I") (by decide +kernel)) (fun _ h9 => h9) rfl dX2_reads_1 ?_
  refine lv_if_eq (tgt := 15) hx hb dX2_reads_4 (by decide) (fun c_1 => ?_) (fun c_1 => ?_)
  · -- taken at 4: md = 0
    refine lv_iconst (v := 1) hx hb dX2_reads_15 (by decide) ?_
    refine lv_goto (tgt := 20) hx hb dX2_reads_16 (by decide) ?_
    subst hQ9
    exact W.zret (ty := .boolean) (v := 1) hx hb hr (by decide) (fun t ht hW => ⟨⟨1, (), rfl, Or.inl ⟨Or.inl c_1, rfl⟩, by rw [ht]; exact hP, va_K.moved hW.alike hK, hD⟩, hS.F ht⟩) hS.2.2 dX2_reads_20
  · -- not taken at 4: ¬ md = 0
    refine lv_aload_n hx hb dX2_reads_7 rfl (lv_at hl 0 rfl) ?_
    refine va_get (D := (dC, dI)) (ci := 3) (v := .int md) (C := RX2) (T := TX2) (N := 13) hx hb hts (by decide +kernel) hown hK hP 0 rfl rfl 7 (by decide) (hts (.fieldLink RX2 17 "RelativeFilesModel" "mode" "I") (by decide +kernel)) (fun _ h9 => h9) rfl dX2_reads_8 ?_
    refine lv_iconst (v := 2) hx hb dX2_reads_11 (by decide) ?_
    refine lv_icmp_ne (tgt := 19) hx hb dX2_reads_12 (by decide) (fun c_2 => ?_) (fun c_2 => ?_)
    · -- taken at 12: ¬ md = 2
      refine lv_iconst (v := 0) hx hb dX2_reads_19 (by decide) ?_
      subst hQ9
      exact W.zret (ty := .boolean) (v := 0) hx hb hr (by decide) (fun t ht hW => ⟨⟨0, (), rfl, Or.inr ⟨fun q => q.elim c_1 c_2, rfl⟩, by rw [ht]; exact hP, va_K.moved hW.alike hK, hD⟩, hS.F ht⟩) hS.2.2 dX2_reads_20
    · -- not taken at 12: md = 2
      refine lv_iconst (v := 1) hx hb dX2_reads_15 (by decide) ?_
      refine lv_goto (tgt := 20) hx hb dX2_reads_16 (by decide) ?_
      subst hQ9
      exact W.zret (ty := .boolean) (v := 1) hx hb hr (by decide) (fun t ht hW => ⟨⟨1, (), rfl, Or.inl ⟨Or.inr c_2, rfl⟩, by rw [ht]; exact hP, va_K.moved hW.alike hK, hD⟩, hS.F ht⟩) hS.2.2 dX2_reads_20

set_option maxHeartbeats 1000000 in
set_option maxRecDepth 100000 in
theorem kX2_meant (l : Launch) (dC : Nat → ClassId) (dI : Nat → Nat → Nat) (oM oN oU : Nat) (cN cU : ClassId) (z d : Nat) (co mo th en md po pl la : Int32) (va : Int64) (N : Nat → Int32) (U : Nat → Int64) (p0 : Int32) (sz : Nat) (hz : z ≤ 1100) : Met l yX2_meant wsX2_meant ({ frames := 1, cells := 0, slots := 0, locals := 23 }) (va_Pc [.ref oM, .int p0] (fun U9 => U9.heap.size = sz ∧ va_P (dC, dI) vwCl [(oM, .inr (3, [.int co, .int mo, .ref oN, .ref oU, .int (nI z), .int th, .int en, .int md, .int po, .int pl, .int la, .int (nI d), .long va])), (oN, .inl (cN, 1100, .inl N)), (oU, .inl (cU, 1100, .inr (.inl U)))] U9.heap ∧ va_K (dC, dI) vwCl [(cN, .int), (cU, .long)] U9 ∧ va_D (fun _ => True) [(oM, .inr (3, [.int co, .int mo, .ref oN, .ref oU, .int (nI z), .int th, .int en, .int md, .int po, .int pl, .int la, .int (nI d), .long va])), (oN, .inl (cN, 1100, .inl N)), (oU, .inl (cU, 1100, .inr (.inl U)))])) (va_Qi (fun (r : Int32) (_ : Unit) => r = gMe la p0 N z) (fun (_ : Unit) (t : State) => va_P (dC, dI) vwCl [(oM, .inr (3, [.int co, .int mo, .ref oN, .ref oU, .int (nI z), .int th, .int en, .int md, .int po, .int pl, .int la, .int (nI d), .long va])), (oN, .inl (cN, 1100, .inl N)), (oU, .inl (cU, 1100, .inr (.inl U)))] t.heap ∧ va_K (dC, dI) vwCl [(cN, .int), (cU, .long)] t ∧ va_D (va_A [(oM, .inr (3, [.int co, .int mo, .ref oN, .ref oU, .int (nI z), .int th, .int en, .int md, .int po, .int pl, .int la, .int (nI d), .long va])), (oN, .inl (cN, 1100, .inl N)), (oU, .inl (cU, 1100, .inr (.inl U)))] sz) [(oM, .inr (3, [.int co, .int mo, .ref oN, .ref oU, .int (nI z), .int th, .int en, .int md, .int po, .int pl, .int la, .int (nI d), .long va])), (oN, .inl (cN, 1100, .inl N)), (oU, .inl (cU, 1100, .inr (.inl U)))]) (va_A [(oM, .inr (3, [.int co, .int mo, .ref oN, .ref oU, .int (nI z), .int th, .int en, .int md, .int po, .int pl, .int la, .int (nI d), .long va])), (oN, .inl (cN, 1100, .inl N)), (oU, .inl (cU, 1100, .inr (.inl U)))] sz)) 0 0 (va_A [(oM, .inr (3, [.int co, .int mo, .ref oN, .ref oU, .int (nI z), .int th, .int en, .int md, .int po, .int pl, .int la, .int (nI d), .long va])), (oN, .inl (cN, 1100, .inl N)), (oU, .inl (cU, 1100, .inr (.inl U)))] sz) := by
  refine Met.ofW (cc := cX2_meant) (maxL := 2) (ret := (some .int)) (by decide) rfl ?_
  intro p e s m args below meth c s₁ B hml hv
  obtain ⟨rfl, hsz, hP, hK, hD0⟩ := hv
  have hx := B.exec
  have hb := B.bytes
  have hr := B.returns
  have hts := atoms_spec (ws := wsX2_meant) B.pre
  have hown : s.vm.findClass RX2 = some m.cls := findClass_of_methodNamed B.named
  have hlocks := B.notSynchronized
  subst hsz
  have hD := hD0.self (sz := s.heap.size)
  generalize hAe : va_A [(oM, .inr (3, [.int co, .int mo, .ref oN, .ref oU, .int (nI z), .int th, .int en, .int md, .int po, .int pl, .int la, .int (nI d), .long va])), (oN, .inl (cN, 1100, .inl N)), (oU, .inl (cU, 1100, .inr (.inl U)))] s.heap.size = A at hD ⊢
  have hA : ∀ q : Nat, s.heap.size ≤ q → A q := fun q h => by rw [← hAe]; exact Or.inr h
  have hS : va_S A s.heap s.heap [] := va_S.rf
  have hP : va_P (dC, dI) vwCl [(oM, .inr (3, [.int co, .int mo, .ref oN, .ref oU, .int (nI z), .int th, .int en, .int md, .int po, .int pl, .int la, .int (nI d), .long va])), (oN, .inl (cN, 1100, .inl N)), (oU, .inl (cU, 1100, .inr (.inl U)))] s.heap := hP
  have hl := lv_entry ([.ref oM, .int p0]) (n := 2) (Nat.le_of_ble_eq_true rfl)
  rw [lg_entry_eq]
  generalize (lg_sl ([.ref oM, .int p0]) ++ List.replicate (2 - (lg_sl ([.ref oM, .int p0])).length) Slot.unset).toArray = ls at hl ⊢
  have hl : lv_has ls 2 [(0, .ref oM), (1, .int p0)] := hl
  refine W_name (fun Q hQ9 => ?_)
  refine lv_iload_n hx hb dX2_meant_0 rfl (lv_at hl 1 rfl) ?_
  refine lv_iconst (v := (-1)) hx hb dX2_meant_1 (by decide) ?_
  refine lv_icmp_ne (tgt := 27) hx hb dX2_meant_2 (by decide) (fun c_1 => ?_) (fun c_1 => ?_)
  · -- taken at 2: ¬ p0 = (-1)
    refine lv_aload_n hx hb dX2_meant_27 rfl (lv_at hl 0 rfl) ?_
    refine lv_iload_n hx hb dX2_meant_28 rfl (lv_at hl 1 rfl) ?_
    have hPc := hP.sub (ws' := [(oM, .inr (3, [.int co, .int mo, .ref oN, .ref oU, .int (nI z), .int th, .int en, .int md, .int po, .int pl, .int la, .int (nI d), .long va])), (oN, .inl (cN, 1100, .inl N)), (oU, .inl (cU, 1100, .inr (.inl U)))]) [0, 1, 2] rfl
    have hDc := hD.sub (ws' := [(oM, .inr (3, [.int co, .int mo, .ref oN, .ref oU, .int (nI z), .int th, .int en, .int md, .int po, .int pl, .int la, .int (nI d), .long va])), (oN, .inl (cN, 1100, .inl N)), (oU, .inl (cU, 1100, .inr (.inl U)))]) [0, 1, 2] (by decide) rfl
    have hKc := hK.sub (tys' := [(cN, .int), (cU, .long)]) [0, 1] rfl
    have hFc := va_free (wc := [(oM, .inr (3, [.int co, .int mo, .ref oN, .ref oU, .int (nI z), .int th, .int en, .int md, .int po, .int pl, .int la, .int (nI d), .long va])), (oN, .inl (cN, 1100, .inl N)), (oU, .inl (cU, 1100, .inr (.inl U)))]) hD hS hA [0, 1, 2] rfl
    refine va_calli (va_runV (As := [.int p0]) (rest := []) ⟨hx, hb, hml, hown, hts⟩ (kX2_find l dC dI oM oN oU cN cU z d co mo th en md po pl la va N U p0 s.heap.size hz) (cwV 1 hts gX2_meant_X2_find rfl rfl rfl (by decide +kernel) ⟨Nat.le_of_ble_eq_true rfl, Nat.le_of_ble_eq_true rfl⟩) ⟨fun a U g mk q => by obtain ⟨q0, q1, qP, qK, qD⟩ := q; exact ⟨q0, q1, qP, va_K.moved (u := U) (U := U.calling g mk a) (Vm.Alike.refl U.vm) qK, qD⟩, va_recv hKc hPc (ci := 3) (q0 := 0) rfl rfl, fun U hU hW => ⟨rfl, by rw [hU], by rw [hU]; exact hPc, va_K.moved hW.alike hKc, hDc.weaken (fun _ _ _ _ => trivial)⟩⟩ rfl rfl hl.1 rfl (lv_room (Nat.le_of_ble_eq_true rfl)) dX2_meant_29 ⟨Nat.le_of_ble_eq_true rfl, Nat.le_of_ble_eq_true rfl⟩) hS (fun q _ h => hFc q h) hFc (fun r_2 u t H1 locs ht hvm hw hB hz1 hk1 hS => ?_)
    obtain ⟨hP1, hK1, hD1⟩ := hB
    rw [ht] at hP1
    have hK1 := va_K.moved hvm.symm hK1
    try dsimp only at hw
    obtain ⟨hP, hD⟩ := va_join (wr := []) (w1 := [(oM, .inr (3, [.int co, .int mo, .ref oN, .ref oU, .int (nI z), .int th, .int en, .int md, .int po, .int pl, .int la, .int (nI d), .long va])), (oN, .inl (cN, 1100, .inl N)), (oU, .inl (cU, 1100, .inr (.inl U)))]) hP hD [0, 1, 2] [] rfl rfl (by decide) (by decide) hk1 hFc hP1 hD1
    generalize H1 = H at hP hS ⊢
    have hP : va_P (dC, dI) vwCl [(oM, .inr (3, [.int co, .int mo, .ref oN, .ref oU, .int (nI z), .int th, .int en, .int md, .int po, .int pl, .int la, .int (nI d), .long va])), (oN, .inl (cN, 1100, .inl N)), (oU, .inl (cU, 1100, .inr (.inl U)))] H := hP.sub [0, 1, 2] rfl
    have hD : va_D A [(oM, .inr (3, [.int co, .int mo, .ref oN, .ref oU, .int (nI z), .int th, .int en, .int md, .int po, .int pl, .int la, .int (nI d), .long va])), (oN, .inl (cN, 1100, .inl N)), (oU, .inl (cU, 1100, .inr (.inl U)))] := hD.sub [0, 1, 2] (by decide) rfl
    have hK : va_K (dC, dI) vwCl [(cN, .int), (cU, .long)] s := hK
    subst hw
    subst hQ9
    have e9 : gMe la p0 N z = rFind N p0 z := by simp only [gMe, if_neg c_1]
    rw [e9]
    exact W.iret (v := rFind N p0 z) hx hb hr (fun t ht hW => ⟨⟨rFind N p0 z, (), rfl, rfl, by rw [ht]; exact hP, va_K.moved hW.alike hK, hD⟩, hS.F ht⟩) hS.2.2 dX2_meant_32
  · -- not taken at 2: p0 = (-1)
    refine lv_aload_n hx hb dX2_meant_5 rfl (lv_at hl 0 rfl) ?_
    refine va_get (D := (dC, dI)) (ci := 3) (v := .int la) (C := RX2) (T := TX2) (N := 13) hx hb hts (by decide +kernel) hown hK hP 0 rfl rfl 10 (by decide) (hts (.fieldLink RX2 36 "RelativeFilesModel" "last" "I") (by decide +kernel)) (fun _ h9 => h9) rfl dX2_meant_6 ?_
    refine lv_if_ne (tgt := 16) hx hb dX2_meant_9 (by decide) (fun c_3 => ?_) (fun c_3 => ?_)
    · -- taken at 9: ¬ la = 0
      refine lv_aload_n hx hb dX2_meant_16 rfl (lv_at hl 0 rfl) ?_
      refine lv_aload_n hx hb dX2_meant_17 rfl (lv_at hl 0 rfl) ?_
      refine va_get (D := (dC, dI)) (ci := 3) (v := .int la) (C := RX2) (T := TX2) (N := 13) hx hb hts (by decide +kernel) hown hK hP 0 rfl rfl 10 (by decide) (hts (.fieldLink RX2 36 "RelativeFilesModel" "last" "I") (by decide +kernel)) (fun _ h9 => h9) rfl dX2_meant_18 ?_
      have hPc := hP.sub (ws' := [(oM, .inr (3, [.int co, .int mo, .ref oN, .ref oU, .int (nI z), .int th, .int en, .int md, .int po, .int pl, .int la, .int (nI d), .long va])), (oN, .inl (cN, 1100, .inl N)), (oU, .inl (cU, 1100, .inr (.inl U)))]) [0, 1, 2] rfl
      have hDc := hD.sub (ws' := [(oM, .inr (3, [.int co, .int mo, .ref oN, .ref oU, .int (nI z), .int th, .int en, .int md, .int po, .int pl, .int la, .int (nI d), .long va])), (oN, .inl (cN, 1100, .inl N)), (oU, .inl (cU, 1100, .inr (.inl U)))]) [0, 1, 2] (by decide) rfl
      have hKc := hK.sub (tys' := [(cN, .int), (cU, .long)]) [0, 1] rfl
      have hFc := va_free (wc := [(oM, .inr (3, [.int co, .int mo, .ref oN, .ref oU, .int (nI z), .int th, .int en, .int md, .int po, .int pl, .int la, .int (nI d), .long va])), (oN, .inl (cN, 1100, .inl N)), (oU, .inl (cU, 1100, .inr (.inl U)))]) hD hS hA [0, 1, 2] rfl
      refine va_calli (va_runV (As := [.int la]) (rest := []) ⟨hx, hb, hml, hown, hts⟩ (kX2_find l dC dI oM oN oU cN cU z d co mo th en md po pl la va N U la s.heap.size hz) (cwV 1 hts gX2_meant_X2_find rfl rfl rfl (by decide +kernel) ⟨Nat.le_of_ble_eq_true rfl, Nat.le_of_ble_eq_true rfl⟩) ⟨fun a U g mk q => by obtain ⟨q0, q1, qP, qK, qD⟩ := q; exact ⟨q0, q1, qP, va_K.moved (u := U) (U := U.calling g mk a) (Vm.Alike.refl U.vm) qK, qD⟩, va_recv hKc hPc (ci := 3) (q0 := 0) rfl rfl, fun U hU hW => ⟨rfl, by rw [hU], by rw [hU]; exact hPc, va_K.moved hW.alike hKc, hDc.weaken (fun _ _ _ _ => trivial)⟩⟩ rfl rfl hl.1 rfl (lv_room (Nat.le_of_ble_eq_true rfl)) dX2_meant_21 ⟨Nat.le_of_ble_eq_true rfl, Nat.le_of_ble_eq_true rfl⟩) hS (fun q _ h => hFc q h) hFc (fun r_4 u t H1 locs ht hvm hw hB hz1 hk1 hS => ?_)
      obtain ⟨hP1, hK1, hD1⟩ := hB
      rw [ht] at hP1
      have hK1 := va_K.moved hvm.symm hK1
      try dsimp only at hw
      obtain ⟨hP, hD⟩ := va_join (wr := []) (w1 := [(oM, .inr (3, [.int co, .int mo, .ref oN, .ref oU, .int (nI z), .int th, .int en, .int md, .int po, .int pl, .int la, .int (nI d), .long va])), (oN, .inl (cN, 1100, .inl N)), (oU, .inl (cU, 1100, .inr (.inl U)))]) hP hD [0, 1, 2] [] rfl rfl (by decide) (by decide) hk1 hFc hP1 hD1
      generalize H1 = H at hP hS ⊢
      have hP : va_P (dC, dI) vwCl [(oM, .inr (3, [.int co, .int mo, .ref oN, .ref oU, .int (nI z), .int th, .int en, .int md, .int po, .int pl, .int la, .int (nI d), .long va])), (oN, .inl (cN, 1100, .inl N)), (oU, .inl (cU, 1100, .inr (.inl U)))] H := hP.sub [0, 1, 2] rfl
      have hD : va_D A [(oM, .inr (3, [.int co, .int mo, .ref oN, .ref oU, .int (nI z), .int th, .int en, .int md, .int po, .int pl, .int la, .int (nI d), .long va])), (oN, .inl (cN, 1100, .inl N)), (oU, .inl (cU, 1100, .inr (.inl U)))] := hD.sub [0, 1, 2] (by decide) rfl
      have hK : va_K (dC, dI) vwCl [(cN, .int), (cU, .long)] s := hK
      subst hw
      refine lv_goto (tgt := 32) hx hb dX2_meant_24 (by decide) ?_
      subst hQ9
      have e9 : gMe la p0 N z = rFind N la z := by simp only [gMe, if_pos c_1, if_neg c_3]
      rw [e9]
      exact W.iret (v := rFind N la z) hx hb hr (fun t ht hW => ⟨⟨rFind N la z, (), rfl, rfl, by rw [ht]; exact hP, va_K.moved hW.alike hK, hD⟩, hS.F ht⟩) hS.2.2 dX2_meant_32
    · -- not taken at 9: la = 0
      refine lv_iconst (v := (-1)) hx hb dX2_meant_12 (by decide) ?_
      refine lv_goto (tgt := 32) hx hb dX2_meant_13 (by decide) ?_
      subst hQ9
      have e9 : gMe la p0 N z = (-1) := by simp only [gMe, if_pos c_1, if_pos c_3]
      rw [e9]
      exact W.iret (v := (-1)) hx hb hr (fun t ht hW => ⟨⟨(-1), (), rfl, rfl, by rw [ht]; exact hP, va_K.moved hW.alike hK, hD⟩, hS.F ht⟩) hS.2.2 dX2_meant_32

set_option maxHeartbeats 1000000 in
set_option maxRecDepth 100000 in
theorem kX2_add (l : Launch) (dC : Nat → ClassId) (dI : Nat → Nat → Nat) (oM oN oU : Nat) (cN cU : ClassId) (z d : Nat) (co mo th en md po pl la : Int32) (va : Int64) (N : Nat → Int32) (U : Nat → Int64) (p0 : Int32) (p1 : Int64) (sz : Nat) (hz : z ≤ 1100) (hz2 : z < 1100) : Met l yX2_add wsX2_add ({ frames := 0, cells := 0, slots := 0, locals := 0 }) (va_Pc [.ref oM, .int p0, .long p1] (fun U9 => U9.heap.size = sz ∧ va_P (dC, dI) vwCl [(oM, .inr (3, [.int co, .int mo, .ref oN, .ref oU, .int (nI z), .int th, .int en, .int md, .int po, .int pl, .int la, .int (nI d), .long va])), (oN, .inl (cN, 1100, .inl N)), (oU, .inl (cU, 1100, .inr (.inl U)))] U9.heap ∧ va_K (dC, dI) vwCl [(cN, .int), (cU, .long)] U9 ∧ va_D (fun _ => True) [(oM, .inr (3, [.int co, .int mo, .ref oN, .ref oU, .int (nI z), .int th, .int en, .int md, .int po, .int pl, .int la, .int (nI d), .long va])), (oN, .inl (cN, 1100, .inl N)), (oU, .inl (cU, 1100, .inr (.inl U)))])) (va_Qv (fun (_ : Unit) => True) (fun (_ : Unit) (t : State) => va_P (dC, dI) vwCl [(oM, .inr (3, [.int co, .int mo, .ref oN, .ref oU, .int (nI (z + 1)), .int th, .int en, .int md, .int po, .int pl, .int la, .int (nI d), .long p1])), (oN, .inl (cN, 1100, .inl (upd N z p0))), (oU, .inl (cU, 1100, .inr (.inl (vp_updL U z p1))))] t.heap ∧ va_K (dC, dI) vwCl [(cN, .int), (cU, .long)] t ∧ va_D (va_A [(oM, .inr (3, [.int co, .int mo, .ref oN, .ref oU, .int (nI z), .int th, .int en, .int md, .int po, .int pl, .int la, .int (nI d), .long va])), (oN, .inl (cN, 1100, .inl N)), (oU, .inl (cU, 1100, .inr (.inl U)))] sz) [(oM, .inr (3, [.int co, .int mo, .ref oN, .ref oU, .int (nI (z + 1)), .int th, .int en, .int md, .int po, .int pl, .int la, .int (nI d), .long p1])), (oN, .inl (cN, 1100, .inl (upd N z p0))), (oU, .inl (cU, 1100, .inr (.inl (vp_updL U z p1))))]) (va_A [(oM, .inr (3, [.int co, .int mo, .ref oN, .ref oU, .int (nI z), .int th, .int en, .int md, .int po, .int pl, .int la, .int (nI d), .long va])), (oN, .inl (cN, 1100, .inl N)), (oU, .inl (cU, 1100, .inr (.inl U)))] sz)) 0 0 (va_A [(oM, .inr (3, [.int co, .int mo, .ref oN, .ref oU, .int (nI z), .int th, .int en, .int md, .int po, .int pl, .int la, .int (nI d), .long va])), (oN, .inl (cN, 1100, .inl N)), (oU, .inl (cU, 1100, .inr (.inl U)))] sz) := by
  refine Met.ofW (cc := cX2_add) (maxL := 4) (ret := none) (by decide) rfl ?_
  intro p e s m args below meth c s₁ B hml hv
  obtain ⟨rfl, hsz, hP, hK, hD0⟩ := hv
  have hx := B.exec
  have hb := B.bytes
  have hr := B.returns
  have hts := atoms_spec (ws := wsX2_add) B.pre
  have hown : s.vm.findClass RX2 = some m.cls := findClass_of_methodNamed B.named
  have hlocks := B.notSynchronized
  subst hsz
  have hD := hD0.self (sz := s.heap.size)
  generalize hAe : va_A [(oM, .inr (3, [.int co, .int mo, .ref oN, .ref oU, .int (nI z), .int th, .int en, .int md, .int po, .int pl, .int la, .int (nI d), .long va])), (oN, .inl (cN, 1100, .inl N)), (oU, .inl (cU, 1100, .inr (.inl U)))] s.heap.size = A at hD ⊢
  have hA : ∀ q : Nat, s.heap.size ≤ q → A q := fun q h => by rw [← hAe]; exact Or.inr h
  have hS : va_S A s.heap s.heap [] := va_S.rf
  have hP : va_P (dC, dI) vwCl [(oM, .inr (3, [.int co, .int mo, .ref oN, .ref oU, .int (nI z), .int th, .int en, .int md, .int po, .int pl, .int la, .int (nI d), .long va])), (oN, .inl (cN, 1100, .inl N)), (oU, .inl (cU, 1100, .inr (.inl U)))] s.heap := hP
  have hl := lv_entry ([.ref oM, .int p0, .long p1]) (n := 4) (Nat.le_of_ble_eq_true rfl)
  rw [lg_entry_eq]
  generalize (lg_sl ([.ref oM, .int p0, .long p1]) ++ List.replicate (4 - (lg_sl ([.ref oM, .int p0, .long p1])).length) Slot.unset).toArray = ls at hl ⊢
  have hl : lv_has ls 4 [(0, .ref oM), (1, .int p0), (2, .long p1)] := hl
  refine W_name (fun Q hQ9 => ?_)
  refine lv_aload_n hx hb dX2_add_0 rfl (lv_at hl 0 rfl) ?_
  refine va_get (D := (dC, dI)) (ci := 3) (v := .ref oN) (C := RX2) (T := TX2) (N := 13) hx hb hts (by decide +kernel) hown hK hP 0 rfl rfl 2 (by decide) (hts (.fieldLink RX2 7 "RelativeFilesModel" "numbers" "[I") (by decide +kernel)) (fun _ h9 => h9) rfl dX2_add_1 ?_
  refine lv_aload_n hx hb dX2_add_4 rfl (lv_at hl 0 rfl) ?_
  refine va_get (D := (dC, dI)) (ci := 3) (v := .int (nI z)) (C := RX2) (T := TX2) (N := 13) hx hb hts (by decide +kernel) hown hK hP 0 rfl rfl 4 (by decide) (hts (.fieldLink RX2 31 "RelativeFilesModel" "size" "I") (by decide +kernel)) (fun _ h9 => h9) rfl dX2_add_5 ?_
  refine lv_iload_n hx hb dX2_add_8 rfl (lv_at hl 1 rfl) ?_
  refine va_iast hx hb hK hP hD hS 1 0 rfl rfl (vp_in_nI (by omega) (by omega)) dX2_add_9 (fun H locs hP hD hS => ?_)
  have hP : va_P (dC, dI) vwCl [(oM, .inr (3, [.int co, .int mo, .ref oN, .ref oU, .int (nI z), .int th, .int en, .int md, .int po, .int pl, .int la, .int (nI d), .long va])), (oN, .inl (cN, 1100, .inl (upd N (nI z).toNatClampNeg p0))), (oU, .inl (cU, 1100, .inr (.inl U)))] H := hP
  have hD : va_D A [(oM, .inr (3, [.int co, .int mo, .ref oN, .ref oU, .int (nI z), .int th, .int en, .int md, .int po, .int pl, .int la, .int (nI d), .long va])), (oN, .inl (cN, 1100, .inl (upd N (nI z).toNatClampNeg p0))), (oU, .inl (cU, 1100, .inr (.inl U)))] := hD
  rw [show upd N (nI z).toNatClampNeg p0 = upd N z p0 from by rw [nI_clamp (by omega)]] at hP hD
  refine lv_aload_n hx hb dX2_add_10 rfl (lv_at hl 0 rfl) ?_
  refine va_get (D := (dC, dI)) (ci := 3) (v := .ref oU) (C := RX2) (T := TX2) (N := 13) hx hb hts (by decide +kernel) hown hK hP 0 rfl rfl 3 (by decide) (hts (.fieldLink RX2 13 "RelativeFilesModel" "values" "[J") (by decide +kernel)) (fun _ h9 => h9) rfl dX2_add_11 ?_
  refine lv_aload_n hx hb dX2_add_14 rfl (lv_at hl 0 rfl) ?_
  refine va_get (D := (dC, dI)) (ci := 3) (v := .int (nI z)) (C := RX2) (T := TX2) (N := 13) hx hb hts (by decide +kernel) hown hK hP 0 rfl rfl 4 (by decide) (hts (.fieldLink RX2 31 "RelativeFilesModel" "size" "I") (by decide +kernel)) (fun _ h9 => h9) rfl dX2_add_15 ?_
  refine lv_lload_n hx hb dX2_add_18 rfl (lv_at hl 2 rfl) ?_
  refine va_last hx hb hK hP hD hS 2 1 rfl rfl (vp_in_nI (by omega) (by omega)) dX2_add_19 (fun H locs hP hD hS => ?_)
  have hP : va_P (dC, dI) vwCl [(oM, .inr (3, [.int co, .int mo, .ref oN, .ref oU, .int (nI z), .int th, .int en, .int md, .int po, .int pl, .int la, .int (nI d), .long va])), (oN, .inl (cN, 1100, .inl (upd N z p0))), (oU, .inl (cU, 1100, .inr (.inl (vp_updL U (nI z).toNatClampNeg p1))))] H := hP
  have hD : va_D A [(oM, .inr (3, [.int co, .int mo, .ref oN, .ref oU, .int (nI z), .int th, .int en, .int md, .int po, .int pl, .int la, .int (nI d), .long va])), (oN, .inl (cN, 1100, .inl (upd N z p0))), (oU, .inl (cU, 1100, .inr (.inl (vp_updL U (nI z).toNatClampNeg p1))))] := hD
  rw [show vp_updL U (nI z).toNatClampNeg p1 = vp_updL U z p1 from by rw [nI_clamp (by omega)]] at hP hD
  refine lv_aload_n hx hb dX2_add_20 rfl (lv_at hl 0 rfl) ?_
  refine lv_dup hx hb dX2_add_21 rfl ?_
  refine va_get (D := (dC, dI)) (ci := 3) (v := .int (nI z)) (C := RX2) (T := TX2) (N := 13) hx hb hts (by decide +kernel) hown hK hP 0 rfl rfl 4 (by decide) (hts (.fieldLink RX2 31 "RelativeFilesModel" "size" "I") (by decide +kernel)) (fun _ h9 => h9) rfl dX2_add_22 ?_
  refine lv_iconst (v := 1) hx hb dX2_add_25 (by decide) ?_
  refine lv_iadd hx hb dX2_add_26 ?_
  rw [show (nI z) + 1 = nI (z + 1) from (nI_succ z).symm]
  refine va_put (D := (dC, dI)) (ci := 3) (v := .int (nI (z + 1))) (ty := .int) (C := RX2) (T := TX2) (N := 13) hx hb hts (by decide +kernel) tyX2 tyX2_ok nmX2 hown hK hP hD hS 0 rfl rfl 4 (by decide) (hts (.fieldLink RX2 31 "RelativeFilesModel" "size" "I") (by decide +kernel)) (fun _ h9 => h9) rfl (by decide +kernel) rfl rfl (Nat.le_of_ble_eq_true rfl) dX2_add_27 (fun H locs hP hD hS => ?_)
  have hP : va_P (dC, dI) vwCl [(oM, .inr (3, [.int co, .int mo, .ref oN, .ref oU, .int (nI (z + 1)), .int th, .int en, .int md, .int po, .int pl, .int la, .int (nI d), .long va])), (oN, .inl (cN, 1100, .inl (upd N z p0))), (oU, .inl (cU, 1100, .inr (.inl (vp_updL U z p1))))] H := hP
  have hD : va_D A [(oM, .inr (3, [.int co, .int mo, .ref oN, .ref oU, .int (nI (z + 1)), .int th, .int en, .int md, .int po, .int pl, .int la, .int (nI d), .long va])), (oN, .inl (cN, 1100, .inl (upd N z p0))), (oU, .inl (cU, 1100, .inr (.inl (vp_updL U z p1))))] := hD
  refine lv_aload_n hx hb dX2_add_30 rfl (lv_at hl 0 rfl) ?_
  refine lv_lload_n hx hb dX2_add_31 rfl (lv_at hl 2 rfl) ?_
  refine va_put (D := (dC, dI)) (ci := 3) (v := .long p1) (ty := .long) (C := RX2) (T := TX2) (N := 13) hx hb hts (by decide +kernel) tyX2 tyX2_ok nmX2 hown hK hP hD hS 0 rfl rfl 12 (by decide) (hts (.fieldLink RX2 49 "RelativeFilesModel" "value" "J") (by decide +kernel)) (fun _ h9 => h9) rfl (by decide +kernel) rfl rfl (Nat.le_of_ble_eq_true rfl) dX2_add_32 (fun H locs hP hD hS => ?_)
  have hP : va_P (dC, dI) vwCl [(oM, .inr (3, [.int co, .int mo, .ref oN, .ref oU, .int (nI (z + 1)), .int th, .int en, .int md, .int po, .int pl, .int la, .int (nI d), .long p1])), (oN, .inl (cN, 1100, .inl (upd N z p0))), (oU, .inl (cU, 1100, .inr (.inl (vp_updL U z p1))))] H := hP
  have hD : va_D A [(oM, .inr (3, [.int co, .int mo, .ref oN, .ref oU, .int (nI (z + 1)), .int th, .int en, .int md, .int po, .int pl, .int la, .int (nI d), .long p1])), (oN, .inl (cN, 1100, .inl (upd N z p0))), (oU, .inl (cU, 1100, .inr (.inl (vp_updL U z p1))))] := hD
  subst hQ9
  exact W.vret hx hb hr (fun t ht hW => ⟨⟨(), rfl, trivial, by rw [ht]; exact hP, va_K.moved hW.alike hK, hD⟩, hS.F ht⟩) hS.2.2 dX2_add_35

set_option maxHeartbeats 1000000 in
set_option maxRecDepth 100000 in
theorem kX2_take (l : Launch) (dC : Nat → ClassId) (dI : Nat → Nat → Nat) (oM oN oU : Nat) (cN cU : ClassId) (z d : Nat) (co mo th en md po pl la : Int32) (va : Int64) (N : Nat → Int32) (U : Nat → Int64) (p0 : Int32) (sz : Nat) (hz : z ≤ 1100) (hq : ¬ rFind N p0 z = -1) : Met l yX2_take wsX2_take ({ frames := 1, cells := 0, slots := 0, locals := 23 }) (va_Pc [.ref oM, .int p0] (fun U9 => U9.heap.size = sz ∧ va_P (dC, dI) vwCl [(oM, .inr (3, [.int co, .int mo, .ref oN, .ref oU, .int (nI z), .int th, .int en, .int md, .int po, .int pl, .int la, .int (nI d), .long va])), (oN, .inl (cN, 1100, .inl N)), (oU, .inl (cU, 1100, .inr (.inl U)))] U9.heap ∧ va_K (dC, dI) vwCl [(cN, .int), (cU, .long)] U9 ∧ va_D (fun _ => True) [(oM, .inr (3, [.int co, .int mo, .ref oN, .ref oU, .int (nI z), .int th, .int en, .int md, .int po, .int pl, .int la, .int (nI d), .long va])), (oN, .inl (cN, 1100, .inl N)), (oU, .inl (cU, 1100, .inr (.inl U)))])) (va_Qv (fun (_ : Unit) => True) (fun (_ : Unit) (t : State) => va_P (dC, dI) vwCl [(oM, .inr (3, [.int co, .int mo, .ref oN, .ref oU, .int (nI z), .int th, .int en, .int md, .int 1, .int p0, .int p0, .int (nI d), .long (U (rFind N p0 z).toNatClampNeg)])), (oN, .inl (cN, 1100, .inl N)), (oU, .inl (cU, 1100, .inr (.inl U)))] t.heap ∧ va_K (dC, dI) vwCl [(cN, .int), (cU, .long)] t ∧ va_D (va_A [(oM, .inr (3, [.int co, .int mo, .ref oN, .ref oU, .int (nI z), .int th, .int en, .int md, .int po, .int pl, .int la, .int (nI d), .long va])), (oN, .inl (cN, 1100, .inl N)), (oU, .inl (cU, 1100, .inr (.inl U)))] sz) [(oM, .inr (3, [.int co, .int mo, .ref oN, .ref oU, .int (nI z), .int th, .int en, .int md, .int 1, .int p0, .int p0, .int (nI d), .long (U (rFind N p0 z).toNatClampNeg)])), (oN, .inl (cN, 1100, .inl N)), (oU, .inl (cU, 1100, .inr (.inl U)))]) (va_A [(oM, .inr (3, [.int co, .int mo, .ref oN, .ref oU, .int (nI z), .int th, .int en, .int md, .int po, .int pl, .int la, .int (nI d), .long va])), (oN, .inl (cN, 1100, .inl N)), (oU, .inl (cU, 1100, .inr (.inl U)))] sz)) 0 0 (va_A [(oM, .inr (3, [.int co, .int mo, .ref oN, .ref oU, .int (nI z), .int th, .int en, .int md, .int po, .int pl, .int la, .int (nI d), .long va])), (oN, .inl (cN, 1100, .inl N)), (oU, .inl (cU, 1100, .inr (.inl U)))] sz) := by
  refine Met.ofW (cc := cX2_take) (maxL := 2) (ret := none) (by decide) rfl ?_
  intro p e s m args below meth c s₁ B hml hv
  obtain ⟨rfl, hsz, hP, hK, hD0⟩ := hv
  have hx := B.exec
  have hb := B.bytes
  have hr := B.returns
  have hts := atoms_spec (ws := wsX2_take) B.pre
  have hown : s.vm.findClass RX2 = some m.cls := findClass_of_methodNamed B.named
  have hlocks := B.notSynchronized
  subst hsz
  have hD := hD0.self (sz := s.heap.size)
  generalize hAe : va_A [(oM, .inr (3, [.int co, .int mo, .ref oN, .ref oU, .int (nI z), .int th, .int en, .int md, .int po, .int pl, .int la, .int (nI d), .long va])), (oN, .inl (cN, 1100, .inl N)), (oU, .inl (cU, 1100, .inr (.inl U)))] s.heap.size = A at hD ⊢
  have hA : ∀ q : Nat, s.heap.size ≤ q → A q := fun q h => by rw [← hAe]; exact Or.inr h
  have hS : va_S A s.heap s.heap [] := va_S.rf
  have hP : va_P (dC, dI) vwCl [(oM, .inr (3, [.int co, .int mo, .ref oN, .ref oU, .int (nI z), .int th, .int en, .int md, .int po, .int pl, .int la, .int (nI d), .long va])), (oN, .inl (cN, 1100, .inl N)), (oU, .inl (cU, 1100, .inr (.inl U)))] s.heap := hP
  have hl := lv_entry ([.ref oM, .int p0]) (n := 2) (Nat.le_of_ble_eq_true rfl)
  rw [lg_entry_eq]
  generalize (lg_sl ([.ref oM, .int p0]) ++ List.replicate (2 - (lg_sl ([.ref oM, .int p0])).length) Slot.unset).toArray = ls at hl ⊢
  have hl : lv_has ls 2 [(0, .ref oM), (1, .int p0)] := hl
  refine W_name (fun Q hQ9 => ?_)
  refine lv_aload_n hx hb dX2_take_0 rfl (lv_at hl 0 rfl) ?_
  refine lv_iconst (v := 1) hx hb dX2_take_1 (by decide) ?_
  refine va_put (D := (dC, dI)) (ci := 3) (v := .int 1) (ty := .int) (C := RX2) (T := TX2) (N := 13) hx hb hts (by decide +kernel) tyX2 tyX2_ok nmX2 hown hK hP hD hS 0 rfl rfl 8 (by decide) (hts (.fieldLink RX2 43 "RelativeFilesModel" "position" "I") (by decide +kernel)) (fun _ h9 => h9) rfl (by decide +kernel) rfl rfl (Nat.le_of_ble_eq_true rfl) dX2_take_2 (fun H locs hP hD hS => ?_)
  have hP : va_P (dC, dI) vwCl [(oM, .inr (3, [.int co, .int mo, .ref oN, .ref oU, .int (nI z), .int th, .int en, .int md, .int 1, .int pl, .int la, .int (nI d), .long va])), (oN, .inl (cN, 1100, .inl N)), (oU, .inl (cU, 1100, .inr (.inl U)))] H := hP
  have hD : va_D A [(oM, .inr (3, [.int co, .int mo, .ref oN, .ref oU, .int (nI z), .int th, .int en, .int md, .int 1, .int pl, .int la, .int (nI d), .long va])), (oN, .inl (cN, 1100, .inl N)), (oU, .inl (cU, 1100, .inr (.inl U)))] := hD
  refine lv_aload_n hx hb dX2_take_5 rfl (lv_at hl 0 rfl) ?_
  refine lv_iload_n hx hb dX2_take_6 rfl (lv_at hl 1 rfl) ?_
  refine va_put (D := (dC, dI)) (ci := 3) (v := .int p0) (ty := .int) (C := RX2) (T := TX2) (N := 13) hx hb hts (by decide +kernel) tyX2 tyX2_ok nmX2 hown hK hP hD hS 0 rfl rfl 9 (by decide) (hts (.fieldLink RX2 72 "RelativeFilesModel" "place" "I") (by decide +kernel)) (fun _ h9 => h9) rfl (by decide +kernel) rfl rfl (Nat.le_of_ble_eq_true rfl) dX2_take_7 (fun H locs hP hD hS => ?_)
  have hP : va_P (dC, dI) vwCl [(oM, .inr (3, [.int co, .int mo, .ref oN, .ref oU, .int (nI z), .int th, .int en, .int md, .int 1, .int p0, .int la, .int (nI d), .long va])), (oN, .inl (cN, 1100, .inl N)), (oU, .inl (cU, 1100, .inr (.inl U)))] H := hP
  have hD : va_D A [(oM, .inr (3, [.int co, .int mo, .ref oN, .ref oU, .int (nI z), .int th, .int en, .int md, .int 1, .int p0, .int la, .int (nI d), .long va])), (oN, .inl (cN, 1100, .inl N)), (oU, .inl (cU, 1100, .inr (.inl U)))] := hD
  refine lv_aload_n hx hb dX2_take_10 rfl (lv_at hl 0 rfl) ?_
  refine lv_iload_n hx hb dX2_take_11 rfl (lv_at hl 1 rfl) ?_
  refine va_put (D := (dC, dI)) (ci := 3) (v := .int p0) (ty := .int) (C := RX2) (T := TX2) (N := 13) hx hb hts (by decide +kernel) tyX2 tyX2_ok nmX2 hown hK hP hD hS 0 rfl rfl 10 (by decide) (hts (.fieldLink RX2 36 "RelativeFilesModel" "last" "I") (by decide +kernel)) (fun _ h9 => h9) rfl (by decide +kernel) rfl rfl (Nat.le_of_ble_eq_true rfl) dX2_take_12 (fun H locs hP hD hS => ?_)
  have hP : va_P (dC, dI) vwCl [(oM, .inr (3, [.int co, .int mo, .ref oN, .ref oU, .int (nI z), .int th, .int en, .int md, .int 1, .int p0, .int p0, .int (nI d), .long va])), (oN, .inl (cN, 1100, .inl N)), (oU, .inl (cU, 1100, .inr (.inl U)))] H := hP
  have hD : va_D A [(oM, .inr (3, [.int co, .int mo, .ref oN, .ref oU, .int (nI z), .int th, .int en, .int md, .int 1, .int p0, .int p0, .int (nI d), .long va])), (oN, .inl (cN, 1100, .inl N)), (oU, .inl (cU, 1100, .inr (.inl U)))] := hD
  refine lv_aload_n hx hb dX2_take_15 rfl (lv_at hl 0 rfl) ?_
  refine lv_aload_n hx hb dX2_take_16 rfl (lv_at hl 0 rfl) ?_
  refine va_get (D := (dC, dI)) (ci := 3) (v := .ref oU) (C := RX2) (T := TX2) (N := 13) hx hb hts (by decide +kernel) hown hK hP 0 rfl rfl 3 (by decide) (hts (.fieldLink RX2 13 "RelativeFilesModel" "values" "[J") (by decide +kernel)) (fun _ h9 => h9) rfl dX2_take_17 ?_
  refine lv_aload_n hx hb dX2_take_20 rfl (lv_at hl 0 rfl) ?_
  refine lv_iload_n hx hb dX2_take_21 rfl (lv_at hl 1 rfl) ?_
  have hPc := hP.sub (ws' := [(oM, .inr (3, [.int co, .int mo, .ref oN, .ref oU, .int (nI z), .int th, .int en, .int md, .int 1, .int p0, .int p0, .int (nI d), .long va])), (oN, .inl (cN, 1100, .inl N)), (oU, .inl (cU, 1100, .inr (.inl U)))]) [0, 1, 2] rfl
  have hDc := hD.sub (ws' := [(oM, .inr (3, [.int co, .int mo, .ref oN, .ref oU, .int (nI z), .int th, .int en, .int md, .int 1, .int p0, .int p0, .int (nI d), .long va])), (oN, .inl (cN, 1100, .inl N)), (oU, .inl (cU, 1100, .inr (.inl U)))]) [0, 1, 2] (by decide) rfl
  have hKc := hK.sub (tys' := [(cN, .int), (cU, .long)]) [0, 1] rfl
  have hFc := va_free (wc := [(oM, .inr (3, [.int co, .int mo, .ref oN, .ref oU, .int (nI z), .int th, .int en, .int md, .int 1, .int p0, .int p0, .int (nI d), .long va])), (oN, .inl (cN, 1100, .inl N)), (oU, .inl (cU, 1100, .inr (.inl U)))]) hD hS hA [0, 1, 2] rfl
  refine va_calli (va_runV (As := [.int p0]) (rest := [.ref oU, .ref oM]) ⟨hx, hb, hml, hown, hts⟩ (kX2_find l dC dI oM oN oU cN cU z d co mo th en md 1 p0 p0 va N U p0 H.size hz) (cwV 1 hts gX2_take_X2_find rfl rfl rfl (by decide +kernel) ⟨Nat.le_of_ble_eq_true rfl, Nat.le_of_ble_eq_true rfl⟩) ⟨fun a U g mk q => by obtain ⟨q0, q1, qP, qK, qD⟩ := q; exact ⟨q0, q1, qP, va_K.moved (u := U) (U := U.calling g mk a) (Vm.Alike.refl U.vm) qK, qD⟩, va_recv hKc hPc (ci := 3) (q0 := 0) rfl rfl, fun U hU hW => ⟨rfl, by rw [hU], by rw [hU]; exact hPc, va_K.moved hW.alike hKc, hDc.weaken (fun _ _ _ _ => trivial)⟩⟩ rfl rfl hl.1 rfl (lv_room (Nat.le_of_ble_eq_true rfl)) dX2_take_22 ⟨Nat.le_of_ble_eq_true rfl, Nat.le_of_ble_eq_true rfl⟩) hS (fun q _ h => hFc q h) hFc (fun r_1 u t H1 locs ht hvm hw hB hz1 hk1 hS => ?_)
  obtain ⟨hP1, hK1, hD1⟩ := hB
  rw [ht] at hP1
  have hK1 := va_K.moved hvm.symm hK1
  try dsimp only at hw
  obtain ⟨hP, hD⟩ := va_join (wr := []) (w1 := [(oM, .inr (3, [.int co, .int mo, .ref oN, .ref oU, .int (nI z), .int th, .int en, .int md, .int 1, .int p0, .int p0, .int (nI d), .long va])), (oN, .inl (cN, 1100, .inl N)), (oU, .inl (cU, 1100, .inr (.inl U)))]) hP hD [0, 1, 2] [] rfl rfl (by decide) (by decide) hk1 hFc hP1 hD1
  generalize H1 = H at hP hS ⊢
  have hP : va_P (dC, dI) vwCl [(oM, .inr (3, [.int co, .int mo, .ref oN, .ref oU, .int (nI z), .int th, .int en, .int md, .int 1, .int p0, .int p0, .int (nI d), .long va])), (oN, .inl (cN, 1100, .inl N)), (oU, .inl (cU, 1100, .inr (.inl U)))] H := hP.sub [0, 1, 2] rfl
  have hD : va_D A [(oM, .inr (3, [.int co, .int mo, .ref oN, .ref oU, .int (nI z), .int th, .int en, .int md, .int 1, .int p0, .int p0, .int (nI d), .long va])), (oN, .inl (cN, 1100, .inl N)), (oU, .inl (cU, 1100, .inr (.inl U)))] := hD.sub [0, 1, 2] (by decide) rfl
  have hK : va_K (dC, dI) vwCl [(cN, .int), (cU, .long)] s := hK
  subst hw
  refine va_lald hx hb hK hP 2 1 rfl rfl (rFind_in hq hz) dX2_take_25 ?_
  refine va_put (D := (dC, dI)) (ci := 3) (v := .long (U ((rFind N p0 z).toNatClampNeg))) (ty := .long) (C := RX2) (T := TX2) (N := 13) hx hb hts (by decide +kernel) tyX2 tyX2_ok nmX2 hown hK hP hD hS 0 rfl rfl 12 (by decide) (hts (.fieldLink RX2 49 "RelativeFilesModel" "value" "J") (by decide +kernel)) (fun _ h9 => h9) rfl (by decide +kernel) rfl rfl (Nat.le_of_ble_eq_true rfl) dX2_take_26 (fun H locs hP hD hS => ?_)
  have hP : va_P (dC, dI) vwCl [(oM, .inr (3, [.int co, .int mo, .ref oN, .ref oU, .int (nI z), .int th, .int en, .int md, .int 1, .int p0, .int p0, .int (nI d), .long (U ((rFind N p0 z).toNatClampNeg))])), (oN, .inl (cN, 1100, .inl N)), (oU, .inl (cU, 1100, .inr (.inl U)))] H := hP
  have hD : va_D A [(oM, .inr (3, [.int co, .int mo, .ref oN, .ref oU, .int (nI z), .int th, .int en, .int md, .int 1, .int p0, .int p0, .int (nI d), .long (U ((rFind N p0 z).toNatClampNeg))])), (oN, .inl (cN, 1100, .inl N)), (oU, .inl (cU, 1100, .inr (.inl U)))] := hD
  subst hQ9
  exact W.vret hx hb hr (fun t ht hW => ⟨⟨(), rfl, trivial, by rw [ht]; exact hP, va_K.moved hW.alike hK, hD⟩, hS.F ht⟩) hS.2.2 dX2_take_29
