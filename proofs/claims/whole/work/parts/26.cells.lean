set_option maxHeartbeats 1000000 in
set_option maxRecDepth 100000 in
/-- isPlace writes nothing -/
theorem kX1_isPlace0 (l : Launch) (dC : Nat → ClassId) (dI : Nat → Nat → Nat) (oF oS oA oB : Nat) (cA cB : ClassId) (n h d : Nat) (mo th om sd po lr : Int32) (lv : Int64) (P : Nat → Int32) (V : Nat → Int64) (p0 : Int32) (sz : Nat) : Met l yX1_isPlace wsX1_isPlace ({ frames := 0, cells := 0, slots := 0, locals := 0 }) (va_Pc [.ref oF, .int p0] (fun U => U.heap.size = sz ∧ va_P (dC, dI) vwCl [(oF, .inr (2, [.int mo, .ref oS, .int th, .int om, .int sd, .int po, .int lr, .long lv, .int (nI d)])), (oS, .inr (1, [.ref oA, .ref oB, .int (nI h)])), (oA, .inl (cA, n, .inl P)), (oB, .inl (cB, n, .inr (.inl V)))] U.heap ∧ va_K (dC, dI) vwCl [(cA, .int), (cB, .long)] U ∧ va_D (fun _ => True) [(oF, .inr (2, [.int mo, .ref oS, .int th, .int om, .int sd, .int po, .int lr, .long lv, .int (nI d)])), (oS, .inr (1, [.ref oA, .ref oB, .int (nI h)])), (oA, .inl (cA, n, .inl P)), (oB, .inl (cB, n, .inr (.inl V)))])) (va_Qi (fun (r : Int32) (_ : Unit) => (isPl mo p0 ∧ r = 1) ∨ (¬ (isPl mo p0) ∧ r = 0)) (fun _ _ => True) (va_A [] sz)) 0 0 (va_A [] sz) := by
  refine Met.ofW (cc := cX1_isPlace) (maxL := 2) (ret := (some .boolean)) (by decide) rfl ?_
  intro p e s m args below meth c s₁ B hml hv
  obtain ⟨rfl, hsz, hP, hK, hD0⟩ := hv
  have hx := B.exec
  have hb := B.bytes
  have hr := B.returns
  have hts := atoms_spec (ws := wsX1_isPlace) B.pre
  have hown : s.vm.findClass RX1 = some m.cls := findClass_of_methodNamed B.named
  have hlocks := B.notSynchronized
  subst hsz
  have hS : va_S (va_A [] s.heap.size) s.heap s.heap [] := va_S.rf
  have hl := lv_entry ([.ref oF, .int p0]) (n := 2) (Nat.le_of_ble_eq_true rfl)
  rw [lg_entry_eq]
  generalize (lg_sl ([.ref oF, .int p0]) ++ List.replicate (2 - (lg_sl ([.ref oF, .int p0])).length) Slot.unset).toArray = ls at hl ⊢
  have hl : lv_has ls 2 [(0, .ref oF), (1, .int p0)] := hl
  refine lv_iload_n hx hb dX1_isPlace_0 rfl (lv_at hl 1 rfl) ?_
  refine lv_iconst (v := 1) hx hb dX1_isPlace_1 (by decide) ?_
  refine lv_icmp_lt (tgt := 17) hx hb dX1_isPlace_2 (by decide) (fun c_1 => ?_) (fun c_1 => ?_)
  · -- taken at 2: p0 < 1
    refine lv_iconst (v := 0) hx hb dX1_isPlace_17 (by decide) ?_
    exact W.zret (ty := .boolean) (v := 0) hx hb hr (by decide) (fun t ht hW => ⟨⟨0, (), rfl, Or.inr ⟨fun q => q.1 c_1, rfl⟩, trivial⟩, hS.F ht⟩) hS.2.2 dX1_isPlace_18
  · -- not taken at 2: ¬ p0 < 1
    refine lv_iload_n hx hb dX1_isPlace_5 rfl (lv_at hl 1 rfl) ?_
    refine lv_aload_n hx hb dX1_isPlace_6 rfl (lv_at hl 0 rfl) ?_
    refine va_get (D := (dC, dI)) (ci := 2) (v := .int mo) (C := RX1) (T := TX1) (N := 9) hx hb hts (by decide +kernel) hown hK hP 0 rfl rfl 0 (by decide) (hts (.fieldLink RX1 19 "RelativeFiles" "most" "I") (by decide +kernel)) (fun _ h9 => h9) rfl dX1_isPlace_7 ?_
    refine lv_icmp_gt (tgt := 17) hx hb dX1_isPlace_10 (by decide) (fun c_2 => ?_) (fun c_2 => ?_)
    · -- taken at 10: mo < p0
      refine lv_iconst (v := 0) hx hb dX1_isPlace_17 (by decide) ?_
      exact W.zret (ty := .boolean) (v := 0) hx hb hr (by decide) (fun t ht hW => ⟨⟨0, (), rfl, Or.inr ⟨fun q => q.2 c_2, rfl⟩, trivial⟩, hS.F ht⟩) hS.2.2 dX1_isPlace_18
    · -- not taken at 10: ¬ mo < p0
      refine lv_iconst (v := 1) hx hb dX1_isPlace_13 (by decide) ?_
      refine lv_goto (tgt := 18) hx hb dX1_isPlace_14 (by decide) ?_
      exact W.zret (ty := .boolean) (v := 1) hx hb hr (by decide) (fun t ht hW => ⟨⟨1, (), rfl, Or.inl ⟨⟨c_1, c_2⟩, rfl⟩, trivial⟩, hS.F ht⟩) hS.2.2 dX1_isPlace_18
set_option maxHeartbeats 1000000 in
set_option maxRecDepth 100000 in
/-- RelativeFiles.cell where there is no such place: it throws -/
theorem kX1_cellT (l : Launch) (hl9 : l.stackTraces = false) (dC : Nat → ClassId) (dI : Nat → Nat → Nat) (oF oS oA oB : Nat) (cA cB : ClassId) (n h d : Nat) (mo th om sd po lr : Int32) (lv : Int64) (P : Nat → Int32) (V : Nat → Int64) (p0 : Int32) (sa sz : Nat) (hh : h ≤ n) (hn : n ≤ 512) (hpl : ¬ isPl mo p0) : MetFree l yX1_cell (headSpec wsX1_cell ({ frames := 7, cells := 1, slots := 6, locals := 110 })) (va_Pc [.ref oF, .int p0] (fun U => U.heap.size = sz ∧ va_P (dC, dI) vwCl [(oF, .inr (2, [.int mo, .ref oS, .int th, .int om, .int sd, .int po, .int lr, .long lv, .int (nI d)])), (oS, .inr (1, [.ref oA, .ref oB, .int (nI h)])), (oA, .inl (cA, n, .inl P)), (oB, .inl (cB, n, .inr (.inl V)))] U.heap ∧ va_K (dC, dI) vwCl [(cA, .int), (cB, .long)] U ∧ va_D (fun _ => True) [(oF, .inr (2, [.int mo, .ref oS, .int th, .int om, .int sd, .int po, .int lr, .long lv, .int (nI d)])), (oS, .inr (1, [.ref oA, .ref oB, .int (nI h)])), (oA, .inl (cA, n, .inl P)), (oB, .inl (cB, n, .inr (.inl V)))] ∧ zt_OK (va_A [(oF, .inr (2, [.int mo, .ref oS, .int th, .int om, .int sd, .int po, .int lr, .long lv, .int (nI d)])), (oS, .inr (1, [.ref oA, .ref oB, .int (nI h)])), (oA, .inl (cA, n, .inl P)), (oB, .inl (cB, n, .inr (.inl V)))] sz) zW U ∧ vk_R RX1 115 "no such place" sa U)) (fun _ _ _ _ _ => True) (zt_Q RJx00060 (fun t => va_P (dC, dI) vwCl [(oF, .inr (2, [.int mo, .ref oS, .int th, .int om, .int sd, .int po, .int lr, .long lv, .int (nI d)])), (oS, .inr (1, [.ref oA, .ref oB, .int (nI h)])), (oA, .inl (cA, n, .inl P)), (oB, .inl (cB, n, .inr (.inl V)))] t.heap ∧ va_K (dC, dI) vwCl [(cA, .int), (cB, .long)] t ∧ va_D (va_A [(oF, .inr (2, [.int mo, .ref oS, .int th, .int om, .int sd, .int po, .int lr, .long lv, .int (nI d)])), (oS, .inr (1, [.ref oA, .ref oB, .int (nI h)])), (oA, .inl (cA, n, .inl P)), (oB, .inl (cB, n, .inr (.inl V)))] sz) [(oF, .inr (2, [.int mo, .ref oS, .int th, .int om, .int sd, .int po, .int lr, .long lv, .int (nI d)])), (oS, .inr (1, [.ref oA, .ref oB, .int (nI h)])), (oA, .inl (cA, n, .inl P)), (oB, .inl (cB, n, .inr (.inl V)))]) (va_A [(oF, .inr (2, [.int mo, .ref oS, .int th, .int om, .int sd, .int po, .int lr, .long lv, .int (nI d)])), (oS, .inr (1, [.ref oA, .ref oB, .int (nI h)])), (oA, .inl (cA, n, .inl P)), (oB, .inl (cB, n, .inr (.inl V)))] sz) 1 6) := by
  refine zt_ofW (cc := cX1_cell) (maxL := 2) (ret := (some .long)) (by decide) rfl ?_
  intro p e s m args below meth c s₁ B hml htab hv
  obtain ⟨rfl, hsz, hP, hK, hD0, hok, hstr⟩ := hv
  have hx := B.exec
  have hb := B.bytes
  have hts := atoms_spec (ws := wsX1_cell) B.pre
  have hown : s.vm.findClass RX1 = some m.cls := findClass_of_methodNamed B.named
  have hlocks := B.notSynchronized
  subst hsz
  have hS : va_S (va_A [] s.heap.size) s.heap s.heap [] := va_S.rf
  have hD := hD0.self (sz := s.heap.size)
  have hl := lv_entry ([.ref oF, .int p0]) (n := 2) (Nat.le_of_ble_eq_true rfl)
  rw [lg_entry_eq]
  generalize (lg_sl ([.ref oF, .int p0]) ++ List.replicate (2 - (lg_sl ([.ref oF, .int p0])).length) Slot.unset).toArray = ls at hl ⊢
  have hl : lv_has ls 2 [(0, .ref oF), (1, .int p0)] := hl
  refine lv_aload_n hx hb dX1_cell_0 rfl (lv_at hl 0 rfl) ?_
  refine lv_iload_n hx hb dX1_cell_1 rfl (lv_at hl 1 rfl) ?_
  refine va_calli (va_runV (As := [.int p0]) (rest := []) ⟨hx, hb, hml, hown, hts⟩ (kX1_isPlace0 l dC dI oF oS oA oB cA cB n h d mo th om sd po lr lv P V p0 s.heap.size) (cwV 1 hts gX1_cell_X1_isPlace rfl rfl rfl (by decide +kernel) ⟨Nat.le_of_ble_eq_true rfl, Nat.le_of_ble_eq_true rfl⟩) ⟨fun a U g mk q => by obtain ⟨q0, q1, qP, qK, qD⟩ := q; exact ⟨q0, q1, qP, va_K.moved (u := U) (U := U.calling g mk a) (Vm.Alike.refl U.vm) qK, qD⟩, va_recv hK hP (ci := 2) (q0 := 0) rfl rfl, fun U hU hW => ⟨rfl, by rw [hU], by rw [hU]; exact hP, va_K.moved hW.alike hK, hD0⟩⟩ rfl rfl hl.1 rfl (lv_room (Nat.le_of_ble_eq_true rfl)) dX1_cell_2 ⟨Nat.le_of_ble_eq_true rfl, Nat.le_of_ble_eq_true rfl⟩) hS (fun q _ h => h) (fun q h => h) (fun r u t H locs ht hvm hw hB hz1 hk1 hS => ?_)
  refine va_forget (fun q hq => (hS.2.2 q hq).elim (fun ⟨k, e, h⟩ => absurd h (by simp)) id) ?_
  rcases hw with ⟨b1, hw⟩ | ⟨b1, hw⟩
  · exact absurd b1 hpl
  · subst hw
    refine lv_if_ne (tgt := 18) hx hb dX1_cell_5 (by decide) (fun c_1 => absurd rfl c_1) (fun _ => ?_)
    exact zt_throw (own := RX1) (cls := RJx00060) (text := "no such place") (names := zN) (ik := 113) (is := 115) (ic := 117) (mc := 1) (ms := 6) hx hb hl9 hown (by decide +kernel) (by decide +kernel) hstr hok hz1 (hl.1.trans hml.symm) dX1_cell_8 dX1_cell_11 dX1_cell_12 dX1_cell_14 dX1_cell_17 htab (Nat.le_of_ble_eq_true rfl) (Nat.le_of_ble_eq_true rfl) (Nat.le_of_ble_eq_true rfl) (Nat.le_of_ble_eq_true rfl) hlocks (fun t ha hz hq => ⟨hP.kept (fun k q hk => hq q.1 ((hP k q hk).lt)), va_K.moved ha hK, hD⟩) (Nat.le_of_ble_eq_true rfl) (Nat.le_of_ble_eq_true rfl)
set_option maxHeartbeats 1000000 in
set_option maxRecDepth 100000 in
/-- the law reads its first int, 0 for none -/
theorem kL_cell (l : Launch) (b L : Nat) (xs : Nat → Int32) (sz : Nat) (hL : L ≤ 2049) : Met l yL_cell wsL_cell ({ frames := 0, cells := 0, slots := 0, locals := 0 }) (va_Pc [.ref b, .int 0] (fun U => U.heap.size = sz ∧ va_X b L xs U U.heap ∧ b < sz)) (va_Qi (fun (r : Int32) (_ : Unit) => r = if 0 < L then xs 0 else 0) (fun _ _ => True) (va_A [] sz)) 0 0 (va_A [] sz) := by
  refine Met.ofW (cc := cL_cell) (maxL := 2) (ret := (some .int)) (by decide) rfl ?_
  intro p e s m args below meth c s₁ B hml hv
  obtain ⟨rfl, hsz, hX, hbl⟩ := hv
  have hx := B.exec
  have hb := B.bytes
  have hr := B.returns
  have hlocks := B.notSynchronized
  subst hsz
  generalize hAe : va_A [] s.heap.size = A
  have hbA : ¬ A b := by rw [← hAe]; rintro (⟨k, e, h⟩ | h); exact absurd h (by simp); exact absurd h (Nat.not_le.mpr hbl)
  have hS : va_S A s.heap s.heap [] := va_S.rf
  have hl := lv_entry ([.ref b, .int 0]) (n := 2) (Nat.le_of_ble_eq_true rfl)
  rw [lg_entry_eq]
  generalize (lg_sl ([.ref b, .int 0]) ++ List.replicate (2 - (lg_sl ([.ref b, .int 0])).length) Slot.unset).toArray = ls at hl ⊢
  have hl : lv_has ls 2 [(0, .ref b), (1, .int 0)] := hl
  refine lv_iload_n hx hb dL_cell_0 rfl (lv_at hl 1 rfl) ?_
  refine lv_aload_n hx hb dL_cell_1 rfl (lv_at hl 0 rfl) ?_
  refine va_slen hx hb hX hbl hbA hS dL_cell_2 ?_
  refine lv_icmp_ge (tgt := 12) hx hb dL_cell_3 (by decide) (fun c_1 => ?_) (fun c_1 => ?_)
  · have h0 : ¬ 0 < L := fun q => nI_nle q (by omega) c_1
    refine lv_iconst (v := 0) hx hb dL_cell_12 (by decide) ?_
    rw [if_neg h0]
    exact W.iret (v := 0) hx hb hr (fun t ht hW => ⟨⟨0, (), rfl, rfl, trivial⟩, hS.F ht⟩) hS.2.2 dL_cell_13
  · have h0 : 0 < L := by rcases Nat.eq_zero_or_pos L with q | q; exact absurd (by rw [q]; decide) c_1; exact q
    refine lv_aload_n hx hb dL_cell_6 rfl (lv_at hl 0 rfl) ?_
    refine lv_iload_n hx hb dL_cell_7 rfl (lv_at hl 1 rfl) ?_
    refine va_sld hx hb hX hbl hbA hS (show vp_in 0 L from vp_in_nI (n := 0) h0 (by omega)) dL_cell_8 ?_
    refine lv_goto (tgt := 13) hx hb dL_cell_9 (by decide) ?_
    rw [if_pos h0]
    exact W.iret (v := xs 0) hx hb hr (fun t ht hW => ⟨⟨xs 0, (), rfl, rfl, trivial⟩, hS.F ht⟩) hS.2.2 dL_cell_13
set_option maxHeartbeats 1000000 in
set_option maxRecDepth 100000 in
theorem kL_cellR (l : Launch) (dC : Nat → ClassId) (dI : Nat → Nat → Nat) (oF oS oA oB : Nat) (cA cB : ClassId) (n h d : Nat) (mo th om sd po lr : Int32) (lv : Int64) (P : Nat → Int32) (V : Nat → Int64) (oO : Nat) (cO : ClassId) (g : Nat → Int64) (p0 : Int32) (sz : Nat) (hh : h ≤ n) (hn : n ≤ 512) (hpl : isPl mo p0) : Met l yL_cell_ wsL_cell_ ({ frames := 3, cells := 1, slots := 6, locals := 65 }) (va_Pc [.ref oF, .int p0, .ref oO] (fun U => U.heap.size = sz ∧ va_P (dC, dI) vwCl [(oF, .inr (2, [.int mo, .ref oS, .int th, .int om, .int sd, .int po, .int lr, .long lv, .int (nI d)])), (oS, .inr (1, [.ref oA, .ref oB, .int (nI h)])), (oA, .inl (cA, n, .inl P)), (oB, .inl (cB, n, .inr (.inl V))), (oO, .inl (cO, 1, .inr (.inl g)))] U.heap ∧ va_K (dC, dI) vwCl [(cA, .int), (cB, .long), (cO, .long)] U ∧ va_D (fun _ => True) [(oF, .inr (2, [.int mo, .ref oS, .int th, .int om, .int sd, .int po, .int lr, .long lv, .int (nI d)])), (oS, .inr (1, [.ref oA, .ref oB, .int (nI h)])), (oA, .inl (cA, n, .inl P)), (oB, .inl (cB, n, .inr (.inl V))), (oO, .inl (cO, 1, .inr (.inl g)))])) (va_Qi (fun (r : Int32) (_ : Unit) => r = 0) (fun (_ : Unit) (t : State) => va_P (dC, dI) vwCl [(oF, .inr (2, [.int mo, .ref oS, .int th, .int om, .int sd, .int po, .int lr, .long lv, .int (nI d)])), (oS, .inr (1, [.ref oA, .ref oB, .int (nI h)])), (oA, .inl (cA, n, .inl P)), (oB, .inl (cB, n, .inr (.inl V))), (oO, .inl (cO, 1, .inr (.inl (vp_updL g 0 (fRec P V h p0)))))] t.heap ∧ va_K (dC, dI) vwCl [(cA, .int), (cB, .long), (cO, .long)] t ∧ va_D (va_A [(oF, .inr (2, [.int mo, .ref oS, .int th, .int om, .int sd, .int po, .int lr, .long lv, .int (nI d)])), (oS, .inr (1, [.ref oA, .ref oB, .int (nI h)])), (oA, .inl (cA, n, .inl P)), (oB, .inl (cB, n, .inr (.inl V))), (oO, .inl (cO, 1, .inr (.inl g)))] sz) [(oF, .inr (2, [.int mo, .ref oS, .int th, .int om, .int sd, .int po, .int lr, .long lv, .int (nI d)])), (oS, .inr (1, [.ref oA, .ref oB, .int (nI h)])), (oA, .inl (cA, n, .inl P)), (oB, .inl (cB, n, .inr (.inl V))), (oO, .inl (cO, 1, .inr (.inl (vp_updL g 0 (fRec P V h p0)))))]) (va_A [(oF, .inr (2, [.int mo, .ref oS, .int th, .int om, .int sd, .int po, .int lr, .long lv, .int (nI d)])), (oS, .inr (1, [.ref oA, .ref oB, .int (nI h)])), (oA, .inl (cA, n, .inl P)), (oB, .inl (cB, n, .inr (.inl V))), (oO, .inl (cO, 1, .inr (.inl g)))] sz)) 1 6 (va_A [(oF, .inr (2, [.int mo, .ref oS, .int th, .int om, .int sd, .int po, .int lr, .long lv, .int (nI d)])), (oS, .inr (1, [.ref oA, .ref oB, .int (nI h)])), (oA, .inl (cA, n, .inl P)), (oB, .inl (cB, n, .inr (.inl V))), (oO, .inl (cO, 1, .inr (.inl g)))] sz) := by
  refine va_MetW (hh := [(0, 8, 11, 13)]) (cc := cL_cell_) (maxL := 4) (ret := (some .int)) (by decide) rfl ?_
  intro p e s m args below meth c s₁ B hml hv
  obtain ⟨rfl, hsz, hP, hK, hD0⟩ := hv
  have hx := B.exec
  have hb := B.bytes
  have hr := B.returns
  have hts := atoms_spec (ws := wsL_cell_) B.pre
  have hown : s.vm.findClass RL = some m.cls := findClass_of_methodNamed B.named
  have hlocks := B.notSynchronized
  subst hsz
  have hD := hD0.self (sz := s.heap.size)
  generalize hAe : va_A [(oF, .inr (2, [.int mo, .ref oS, .int th, .int om, .int sd, .int po, .int lr, .long lv, .int (nI d)])), (oS, .inr (1, [.ref oA, .ref oB, .int (nI h)])), (oA, .inl (cA, n, .inl P)), (oB, .inl (cB, n, .inr (.inl V))), (oO, .inl (cO, 1, .inr (.inl g)))] s.heap.size = A at hD ⊢
  have hA : ∀ q : Nat, s.heap.size ≤ q → A q := fun q h => by rw [← hAe]; exact Or.inr h
  have hS : va_S A s.heap s.heap [] := va_S.rf
  have hP : va_P (dC, dI) vwCl [(oF, .inr (2, [.int mo, .ref oS, .int th, .int om, .int sd, .int po, .int lr, .long lv, .int (nI d)])), (oS, .inr (1, [.ref oA, .ref oB, .int (nI h)])), (oA, .inl (cA, n, .inl P)), (oB, .inl (cB, n, .inr (.inl V))), (oO, .inl (cO, 1, .inr (.inl g)))] s.heap := hP
  have hl := lv_entry ([.ref oF, .int p0, .ref oO]) (n := 4) (Nat.le_of_ble_eq_true rfl)
  rw [lg_entry_eq]
  generalize (lg_sl ([.ref oF, .int p0, .ref oO]) ++ List.replicate (4 - (lg_sl ([.ref oF, .int p0, .ref oO])).length) Slot.unset).toArray = ls at hl ⊢
  have hl : lv_has ls 4 [(0, .ref oF), (1, .int p0), (2, .ref oO)] := hl
  refine W_name (fun Q hQ9 => ?_)
  refine lv_aload_n hx hb dL_cell__0 rfl (lv_at hl 2 rfl) ?_
  refine lv_iconst (v := 0) hx hb dL_cell__1 (by decide) ?_
  refine lv_aload_n hx hb dL_cell__2 rfl (lv_at hl 0 rfl) ?_
  refine lv_iload_n hx hb dL_cell__3 rfl (lv_at hl 1 rfl) ?_
  have hPc := hP.sub (ws' := [(oF, .inr (2, [.int mo, .ref oS, .int th, .int om, .int sd, .int po, .int lr, .long lv, .int (nI d)])), (oS, .inr (1, [.ref oA, .ref oB, .int (nI h)])), (oA, .inl (cA, n, .inl P)), (oB, .inl (cB, n, .inr (.inl V)))]) [0, 1, 2, 3] rfl
  have hDc := hD.sub (ws' := [(oF, .inr (2, [.int mo, .ref oS, .int th, .int om, .int sd, .int po, .int lr, .long lv, .int (nI d)])), (oS, .inr (1, [.ref oA, .ref oB, .int (nI h)])), (oA, .inl (cA, n, .inl P)), (oB, .inl (cB, n, .inr (.inl V)))]) [0, 1, 2, 3] (by decide) rfl
  have hKc := hK.sub (tys' := [(cA, .int), (cB, .long)]) [0, 1] rfl
  have hFc := va_free (wc := [(oF, .inr (2, [.int mo, .ref oS, .int th, .int om, .int sd, .int po, .int lr, .long lv, .int (nI d)])), (oS, .inr (1, [.ref oA, .ref oB, .int (nI h)])), (oA, .inl (cA, n, .inl P)), (oB, .inl (cB, n, .inr (.inl V)))]) hD hS hA [0, 1, 2, 3] rfl
  refine va_calll (va_runV (As := [.int p0]) (rest := [.int 0, .ref oO]) ⟨hx, hb, hml, hown, hts⟩ (kX1_cell l dC dI oF oS oA oB cA cB n h d mo th om sd po lr lv P V p0 s.heap.size hh hn hpl) (cwV 1 hts gL_cell__X1_cell rfl rfl rfl (by decide +kernel) ⟨Nat.le_of_ble_eq_true rfl, Nat.le_of_ble_eq_true rfl⟩) ⟨fun a U g mk q => by obtain ⟨q0, q1, qP, qK, qD⟩ := q; exact ⟨q0, q1, qP, va_K.moved (u := U) (U := U.calling g mk a) (Vm.Alike.refl U.vm) qK, qD⟩, va_recv hKc hPc (ci := 2) (q0 := 0) rfl rfl, fun U hU hW => ⟨rfl, by rw [hU], by rw [hU]; exact hPc, va_K.moved hW.alike hKc, hDc.weaken (fun _ _ _ _ => trivial)⟩⟩ rfl rfl hl.1 rfl (lv_room (Nat.le_of_ble_eq_true rfl)) dL_cell__4 ⟨Nat.le_of_ble_eq_true rfl, Nat.le_of_ble_eq_true rfl⟩) hS (fun q _ h => hFc q h) hFc (fun r_1 u t H1 locs ht hvm hw hB hz1 hk1 hS => ?_)
  obtain ⟨hP1, hK1, hD1⟩ := hB
  rw [ht] at hP1
  have hK1 := va_K.moved hvm.symm hK1
  try dsimp only at hw
  obtain ⟨hP, hD⟩ := va_join (wr := [(oO, .inl (cO, 1, .inr (.inl g)))]) (w1 := [(oF, .inr (2, [.int mo, .ref oS, .int th, .int om, .int sd, .int po, .int lr, .long lv, .int (nI d)])), (oS, .inr (1, [.ref oA, .ref oB, .int (nI h)])), (oA, .inl (cA, n, .inl P)), (oB, .inl (cB, n, .inr (.inl V)))]) hP hD [0, 1, 2, 3] [4] rfl rfl (by decide) (by decide) hk1 hFc hP1 hD1
  generalize H1 = H at hP hS ⊢
  have hP : va_P (dC, dI) vwCl [(oF, .inr (2, [.int mo, .ref oS, .int th, .int om, .int sd, .int po, .int lr, .long lv, .int (nI d)])), (oS, .inr (1, [.ref oA, .ref oB, .int (nI h)])), (oA, .inl (cA, n, .inl P)), (oB, .inl (cB, n, .inr (.inl V))), (oO, .inl (cO, 1, .inr (.inl g)))] H := hP.sub [1, 2, 3, 4, 0] rfl
  have hD : va_D A [(oF, .inr (2, [.int mo, .ref oS, .int th, .int om, .int sd, .int po, .int lr, .long lv, .int (nI d)])), (oS, .inr (1, [.ref oA, .ref oB, .int (nI h)])), (oA, .inl (cA, n, .inl P)), (oB, .inl (cB, n, .inr (.inl V))), (oO, .inl (cO, 1, .inr (.inl g)))] := hD.sub [1, 2, 3, 4, 0] (by decide) rfl
  have hK : va_K (dC, dI) vwCl [(cA, .int), (cB, .long), (cO, .long)] s := hK
  subst hw
  refine va_last hx hb hK hP hD hS 4 2 rfl rfl (vp_in_nI (n := 0) (N := 1) (by decide) (by decide)) dL_cell__7 (fun H locs hP hD hS => ?_)
  have hP : va_P (dC, dI) vwCl [(oF, .inr (2, [.int mo, .ref oS, .int th, .int om, .int sd, .int po, .int lr, .long lv, .int (nI d)])), (oS, .inr (1, [.ref oA, .ref oB, .int (nI h)])), (oA, .inl (cA, n, .inl P)), (oB, .inl (cB, n, .inr (.inl V))), (oO, .inl (cO, 1, .inr (.inl (vp_updL g (0 : Int32).toNatClampNeg (fRec P V h p0)))))] H := hP
  have hD : va_D A [(oF, .inr (2, [.int mo, .ref oS, .int th, .int om, .int sd, .int po, .int lr, .long lv, .int (nI d)])), (oS, .inr (1, [.ref oA, .ref oB, .int (nI h)])), (oA, .inl (cA, n, .inl P)), (oB, .inl (cB, n, .inr (.inl V))), (oO, .inl (cO, 1, .inr (.inl (vp_updL g (0 : Int32).toNatClampNeg (fRec P V h p0)))))] := hD
  rw [show vp_updL g (0 : Int32).toNatClampNeg (fRec P V h p0) = vp_updL g 0 (fRec P V h p0) from rfl] at hP hD
  refine lv_goto (tgt := 14) hx hb dL_cell__8 (by decide) ?_
  refine lv_iconst (v := 0) hx hb dL_cell__14 (by decide) ?_
  subst hQ9
  refine W.widen (k := 1) (n := 6) (by omega) (by omega) ?_
  exact W.iret (v := 0) hx hb hr (fun t ht hW => ⟨⟨0, (), rfl, rfl, by rw [ht]; exact hP, va_K.moved hW.alike hK, hD⟩, hS.F ht⟩) hS.2.2 dL_cell__15
set_option maxHeartbeats 1000000 in
set_option maxRecDepth 100000 in
theorem kL_cellT (l : Launch) (hl9 : l.stackTraces = false) (dC : Nat → ClassId) (dI : Nat → Nat → Nat) (oF oS oA oB : Nat) (cA cB : ClassId) (n h d : Nat) (mo th om sd po lr : Int32) (lv : Int64) (P : Nat → Int32) (V : Nat → Int64) (oO : Nat) (cO : ClassId) (g : Nat → Int64) (p0 : Int32) (sa : Nat) (sz : Nat) (hh : h ≤ n) (hn : n ≤ 512) (hpl : ¬ isPl mo p0) : Met l yL_cell_ wsL_cell_ ({ frames := 8, cells := 1, slots := 6, locals := 140 }) (va_Pc [.ref oF, .int p0, .ref oO] (fun U => U.heap.size = sz ∧ va_P (dC, dI) vwCl [(oF, .inr (2, [.int mo, .ref oS, .int th, .int om, .int sd, .int po, .int lr, .long lv, .int (nI d)])), (oS, .inr (1, [.ref oA, .ref oB, .int (nI h)])), (oA, .inl (cA, n, .inl P)), (oB, .inl (cB, n, .inr (.inl V))), (oO, .inl (cO, 1, .inr (.inl g)))] U.heap ∧ va_K (dC, dI) vwCl [(cA, .int), (cB, .long), (cO, .long)] U ∧ va_D (fun _ => True) [(oF, .inr (2, [.int mo, .ref oS, .int th, .int om, .int sd, .int po, .int lr, .long lv, .int (nI d)])), (oS, .inr (1, [.ref oA, .ref oB, .int (nI h)])), (oA, .inl (cA, n, .inl P)), (oB, .inl (cB, n, .inr (.inl V))), (oO, .inl (cO, 1, .inr (.inl g)))] ∧ zt_OK (va_A [(oF, .inr (2, [.int mo, .ref oS, .int th, .int om, .int sd, .int po, .int lr, .long lv, .int (nI d)])), (oS, .inr (1, [.ref oA, .ref oB, .int (nI h)])), (oA, .inl (cA, n, .inl P)), (oB, .inl (cB, n, .inr (.inl V))), (oO, .inl (cO, 1, .inr (.inl g)))] sz) zW2 U ∧ vk_R RX1 115 "no such place" sa U)) (va_Qi (fun (r : Int32) (_ : Unit) => r = 1) (fun (_ : Unit) (t : State) => va_P (dC, dI) vwCl [(oF, .inr (2, [.int mo, .ref oS, .int th, .int om, .int sd, .int po, .int lr, .long lv, .int (nI d)])), (oS, .inr (1, [.ref oA, .ref oB, .int (nI h)])), (oA, .inl (cA, n, .inl P)), (oB, .inl (cB, n, .inr (.inl V))), (oO, .inl (cO, 1, .inr (.inl g)))] t.heap ∧ va_K (dC, dI) vwCl [(cA, .int), (cB, .long), (cO, .long)] t ∧ va_D (va_A [(oF, .inr (2, [.int mo, .ref oS, .int th, .int om, .int sd, .int po, .int lr, .long lv, .int (nI d)])), (oS, .inr (1, [.ref oA, .ref oB, .int (nI h)])), (oA, .inl (cA, n, .inl P)), (oB, .inl (cB, n, .inr (.inl V))), (oO, .inl (cO, 1, .inr (.inl g)))] sz) [(oF, .inr (2, [.int mo, .ref oS, .int th, .int om, .int sd, .int po, .int lr, .long lv, .int (nI d)])), (oS, .inr (1, [.ref oA, .ref oB, .int (nI h)])), (oA, .inl (cA, n, .inl P)), (oB, .inl (cB, n, .inr (.inl V))), (oO, .inl (cO, 1, .inr (.inl g)))]) (va_A [(oF, .inr (2, [.int mo, .ref oS, .int th, .int om, .int sd, .int po, .int lr, .long lv, .int (nI d)])), (oS, .inr (1, [.ref oA, .ref oB, .int (nI h)])), (oA, .inl (cA, n, .inl P)), (oB, .inl (cB, n, .inr (.inl V))), (oO, .inl (cO, 1, .inr (.inl g)))] sz)) 1 6 (va_A [(oF, .inr (2, [.int mo, .ref oS, .int th, .int om, .int sd, .int po, .int lr, .long lv, .int (nI d)])), (oS, .inr (1, [.ref oA, .ref oB, .int (nI h)])), (oA, .inl (cA, n, .inl P)), (oB, .inl (cB, n, .inr (.inl V))), (oO, .inl (cO, 1, .inr (.inl g)))] sz) := by
  refine va_MetW (hh := [(0, 8, 11, 13)]) (cc := cL_cell_) (maxL := 4) (ret := (some .int)) (by decide) rfl ?_
  intro p e s m args below meth c s₁ B hml hv
  obtain ⟨rfl, hsz, hP, hK, hD0, hok, hstr⟩ := hv
  have hx := B.exec
  have hb := B.bytes
  have hr := B.returns
  have hts := atoms_spec (ws := wsL_cell_) B.pre
  have hown : s.vm.findClass RL = some m.cls := findClass_of_methodNamed B.named
  have hlocks := B.notSynchronized
  subst hsz
  have hD := hD0.self (sz := s.heap.size)
  generalize hAe : va_A [(oF, .inr (2, [.int mo, .ref oS, .int th, .int om, .int sd, .int po, .int lr, .long lv, .int (nI d)])), (oS, .inr (1, [.ref oA, .ref oB, .int (nI h)])), (oA, .inl (cA, n, .inl P)), (oB, .inl (cB, n, .inr (.inl V))), (oO, .inl (cO, 1, .inr (.inl g)))] s.heap.size = A at hD hok ⊢
  have hA : ∀ q : Nat, s.heap.size ≤ q → A q := fun q h => by rw [← hAe]; exact Or.inr h
  have hS : va_S A s.heap s.heap [] := va_S.rf
  have hP : va_P (dC, dI) vwCl [(oF, .inr (2, [.int mo, .ref oS, .int th, .int om, .int sd, .int po, .int lr, .long lv, .int (nI d)])), (oS, .inr (1, [.ref oA, .ref oB, .int (nI h)])), (oA, .inl (cA, n, .inl P)), (oB, .inl (cB, n, .inr (.inl V))), (oO, .inl (cO, 1, .inr (.inl g)))] s.heap := hP
  have hl := lv_entry ([.ref oF, .int p0, .ref oO]) (n := 4) (Nat.le_of_ble_eq_true rfl)
  rw [lg_entry_eq]
  generalize (lg_sl ([.ref oF, .int p0, .ref oO]) ++ List.replicate (4 - (lg_sl ([.ref oF, .int p0, .ref oO])).length) Slot.unset).toArray = ls at hl ⊢
  have htab : c.exceptionTable.toList = [⟨0, 8, 11, 13⟩] := zt_table (hh := [(0, 8, 11, 13)]) B (hts (.codeWith yL_cell_ cL_cell_ 4 (some .int) [(0, 8, 11, 13)]) (by decide +kernel))
  have hl : lv_has ls 4 [(0, .ref oF), (1, .int p0), (2, .ref oO)] := hl
  refine W_name (fun Q hQ9 => ?_)
  refine lv_aload_n hx hb dL_cell__0 rfl (lv_at hl 2 rfl) ?_
  refine lv_iconst (v := 0) hx hb dL_cell__1 (by decide) ?_
  refine lv_aload_n hx hb dL_cell__2 rfl (lv_at hl 0 rfl) ?_
  refine lv_iload_n hx hb dL_cell__3 rfl (lv_at hl 1 rfl) ?_
  have hlk := hok.now #[Value.ref oF, Value.int p0, Value.ref oO] _ List.mem_cons_self
  have hcast : (Cond.castable RJx00060 RJx00060).before #[Value.ref oF, Value.int p0, Value.ref oO] s = true := hok.now _ _ (by decide +kernel)
  have hok : zt_OK A zW s := hok.tail
  have hPc := hP.sub (ws' := [(oF, .inr (2, [.int mo, .ref oS, .int th, .int om, .int sd, .int po, .int lr, .long lv, .int (nI d)])), (oS, .inr (1, [.ref oA, .ref oB, .int (nI h)])), (oA, .inl (cA, n, .inl P)), (oB, .inl (cB, n, .inr (.inl V)))]) [0, 1, 2, 3] rfl
  have hDc := hD.sub (ws' := [(oF, .inr (2, [.int mo, .ref oS, .int th, .int om, .int sd, .int po, .int lr, .long lv, .int (nI d)])), (oS, .inr (1, [.ref oA, .ref oB, .int (nI h)])), (oA, .inl (cA, n, .inl P)), (oB, .inl (cB, n, .inr (.inl V)))]) [0, 1, 2, 3] (by decide) rfl
  have hKc := hK.sub (tys' := [(cA, .int), (cB, .long)]) [0, 1] rfl
  have hFc := va_free (wc := [(oF, .inr (2, [.int mo, .ref oS, .int th, .int om, .int sd, .int po, .int lr, .long lv, .int (nI d)])), (oS, .inr (1, [.ref oA, .ref oB, .int (nI h)])), (oA, .inl (cA, n, .inl P)), (oB, .inl (cB, n, .inr (.inl V)))]) hD hS hA [0, 1, 2, 3] rfl
  refine zt_call (E := RJx00060) (As := [.int p0]) (rest := [.int 0, .ref oO]) ⟨hx, hb, hml, hown, hts⟩ (kX1_cellT l hl9 dC dI oF oS oA oB cA cB n h d mo th om sd po lr lv P V p0 sa s.heap.size hh hn hpl) (cwV 1 hts gL_cell__X1_cell rfl rfl rfl (by decide +kernel) ⟨Nat.le_of_ble_eq_true rfl, Nat.le_of_ble_eq_true rfl⟩) ⟨fun a U g mk q => by obtain ⟨q0, q1, qP, qK, qD, qO, qR⟩ := q; exact ⟨q0, q1, qP, va_K.moved (u := U) (U := U.calling g mk a) (Vm.Alike.refl U.vm) qK, qD, qO, vk_R.same (u := U) rfl qR⟩, va_recv hKc hPc (ci := 2) (q0 := 0) rfl rfl, fun U hU hW => ⟨rfl, by rw [hU], by rw [hU]; exact hPc, va_K.moved hW.alike hKc, hDc.weaken (fun _ _ _ _ => trivial), zt_OK.down hok hW (by rw [hU]; exact Nat.le_refl _) (fun q _ _ => by rw [hU]) hFc, vk_R.warm hW hstr⟩⟩ rfl hl.1 rfl (lv_room (Nat.le_of_ble_eq_true rfl)) dL_cell__4 ⟨Nat.le_of_ble_eq_true rfl, Nat.le_of_ble_eq_true rfl⟩ ⟨0, 8, 11, 13⟩ htab (by decide) (by decide) hlk hcast hS hFc (fun q9 t H1 locs ht hvm hB hk1 hS => ?_)
  obtain ⟨hP1, hK1, hD1⟩ := hB
  rw [ht] at hP1
  obtain ⟨hP, hD⟩ := va_join (wr := [(oO, .inl (cO, 1, .inr (.inl g)))]) (w1 := [(oF, .inr (2, [.int mo, .ref oS, .int th, .int om, .int sd, .int po, .int lr, .long lv, .int (nI d)])), (oS, .inr (1, [.ref oA, .ref oB, .int (nI h)])), (oA, .inl (cA, n, .inl P)), (oB, .inl (cB, n, .inr (.inl V)))]) hP hD [0, 1, 2, 3] [4] rfl rfl (by decide) (by decide) hk1 hFc hP1 hD1
  generalize H1 = H at hP hS ⊢
  have hP : va_P (dC, dI) vwCl [(oF, .inr (2, [.int mo, .ref oS, .int th, .int om, .int sd, .int po, .int lr, .long lv, .int (nI d)])), (oS, .inr (1, [.ref oA, .ref oB, .int (nI h)])), (oA, .inl (cA, n, .inl P)), (oB, .inl (cB, n, .inr (.inl V))), (oO, .inl (cO, 1, .inr (.inl g)))] H := hP.sub [1, 2, 3, 4, 0] rfl
  have hD : va_D A [(oF, .inr (2, [.int mo, .ref oS, .int th, .int om, .int sd, .int po, .int lr, .long lv, .int (nI d)])), (oS, .inr (1, [.ref oA, .ref oB, .int (nI h)])), (oA, .inl (cA, n, .inl P)), (oB, .inl (cB, n, .inr (.inl V))), (oO, .inl (cO, 1, .inr (.inl g)))] := hD.sub [1, 2, 3, 4, 0] (by decide) rfl
  refine lv_astore_n (lv' := [(3, .ref q9), (0, .ref oF), (1, .int p0), (2, .ref oO)]) hx hb dL_cell__11 rfl hl (by decide) rfl (fun ls hl => ?_)
  refine lv_iconst (v := 1) hx hb dL_cell__12 (by decide) ?_
  subst hQ9
  refine W.widen (k := 1) (n := 6) (by omega) (by omega) ?_
  exact W.iret (v := 1) hx hb hr (fun t ht hW => ⟨⟨1, (), rfl, rfl, by rw [ht]; exact hP, va_K.moved hW.alike hK, hD⟩, hS.F ht⟩) hS.2.2 dL_cell__13
