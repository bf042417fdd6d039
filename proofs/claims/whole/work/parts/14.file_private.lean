set_option maxHeartbeats 1000000 in
set_option maxRecDepth 100000 in
theorem kX1_stand (l : Launch) (dC : Nat → ClassId) (dI : Nat → Nat → Nat) (oF oS oA oB : Nat) (cA cB : ClassId) (n h d : Nat) (mo th om sd po lr : Int32) (lv : Int64) (P : Nat → Int32) (V : Nat → Int64) (p0 p1 : Int32) (sz : Nat) (hh : h ≤ n) (hn : n ≤ 512) : Met l yX1_stand wsX1_stand ({ frames := 0, cells := 0, slots := 0, locals := 0 }) (va_Pc [.ref oF, .int p0, .int p1] (fun U => U.heap.size = sz ∧ va_P (dC, dI) vwCl [(oF, .inr (2, [.int mo, .ref oS, .int th, .int om, .int sd, .int po, .int lr, .long lv, .int (nI d)])), (oS, .inr (1, [.ref oA, .ref oB, .int (nI h)])), (oA, .inl (cA, n, .inl P)), (oB, .inl (cB, n, .inr (.inl V)))] U.heap ∧ va_K (dC, dI) vwCl [(cA, .int), (cB, .long)] U ∧ va_D (fun _ => True) [(oF, .inr (2, [.int mo, .ref oS, .int th, .int om, .int sd, .int po, .int lr, .long lv, .int (nI d)])), (oS, .inr (1, [.ref oA, .ref oB, .int (nI h)])), (oA, .inl (cA, n, .inl P)), (oB, .inl (cB, n, .inr (.inl V)))])) (va_Qv (fun (_ : Unit) => True) (fun (_ : Unit) (t : State) => va_P (dC, dI) vwCl [(oF, .inr (2, [.int mo, .ref oS, .int th, .int om, .int p0, .int p1, .int 0, .long lv, .int (nI d)])), (oS, .inr (1, [.ref oA, .ref oB, .int (nI h)])), (oA, .inl (cA, n, .inl P)), (oB, .inl (cB, n, .inr (.inl V)))] t.heap ∧ va_K (dC, dI) vwCl [(cA, .int), (cB, .long)] t ∧ va_D (va_A [(oF, .inr (2, [.int mo, .ref oS, .int th, .int om, .int sd, .int po, .int lr, .long lv, .int (nI d)])), (oS, .inr (1, [.ref oA, .ref oB, .int (nI h)])), (oA, .inl (cA, n, .inl P)), (oB, .inl (cB, n, .inr (.inl V)))] sz) [(oF, .inr (2, [.int mo, .ref oS, .int th, .int om, .int p0, .int p1, .int 0, .long lv, .int (nI d)])), (oS, .inr (1, [.ref oA, .ref oB, .int (nI h)])), (oA, .inl (cA, n, .inl P)), (oB, .inl (cB, n, .inr (.inl V)))]) (va_A [(oF, .inr (2, [.int mo, .ref oS, .int th, .int om, .int sd, .int po, .int lr, .long lv, .int (nI d)])), (oS, .inr (1, [.ref oA, .ref oB, .int (nI h)])), (oA, .inl (cA, n, .inl P)), (oB, .inl (cB, n, .inr (.inl V)))] sz)) 0 0 (va_A [(oF, .inr (2, [.int mo, .ref oS, .int th, .int om, .int sd, .int po, .int lr, .long lv, .int (nI d)])), (oS, .inr (1, [.ref oA, .ref oB, .int (nI h)])), (oA, .inl (cA, n, .inl P)), (oB, .inl (cB, n, .inr (.inl V)))] sz) := by
  refine Met.ofW (cc := cX1_stand) (maxL := 3) (ret := none) (by decide) rfl ?_
  intro p e s m args below meth c s₁ B hml hv
  obtain ⟨rfl, hsz, hP, hK, hD0⟩ := hv
  have hx := B.exec
  have hb := B.bytes
  have hr := B.returns
  have hts := atoms_spec (ws := wsX1_stand) B.pre
  have hown : s.vm.findClass RX1 = some m.cls := findClass_of_methodNamed B.named
  have hlocks := B.notSynchronized
  subst hsz
  have hD := hD0.self (sz := s.heap.size)
  generalize hAe : va_A [(oF, .inr (2, [.int mo, .ref oS, .int th, .int om, .int sd, .int po, .int lr, .long lv, .int (nI d)])), (oS, .inr (1, [.ref oA, .ref oB, .int (nI h)])), (oA, .inl (cA, n, .inl P)), (oB, .inl (cB, n, .inr (.inl V)))] s.heap.size = A at hD ⊢
  have hA : ∀ q : Nat, s.heap.size ≤ q → A q := fun q h => by rw [← hAe]; exact Or.inr h
  have hS : va_S A s.heap s.heap [] := va_S.rf
  have hP : va_P (dC, dI) vwCl [(oF, .inr (2, [.int mo, .ref oS, .int th, .int om, .int sd, .int po, .int lr, .long lv, .int (nI d)])), (oS, .inr (1, [.ref oA, .ref oB, .int (nI h)])), (oA, .inl (cA, n, .inl P)), (oB, .inl (cB, n, .inr (.inl V)))] s.heap := hP
  have hl := lv_entry ([.ref oF, .int p0, .int p1]) (n := 3) (Nat.le_of_ble_eq_true rfl)
  rw [lg_entry_eq]
  generalize (lg_sl ([.ref oF, .int p0, .int p1]) ++ List.replicate (3 - (lg_sl ([.ref oF, .int p0, .int p1])).length) Slot.unset).toArray = ls at hl ⊢
  have hl : lv_has ls 3 [(0, .ref oF), (1, .int p0), (2, .int p1)] := hl
  refine W_name (fun Q hQ9 => ?_)
  refine lv_aload_n hx hb dX1_stand_0 rfl (lv_at hl 0 rfl) ?_
  refine lv_iload_n hx hb dX1_stand_1 rfl (lv_at hl 1 rfl) ?_
  refine va_put (D := (dC, dI)) (ci := 2) (v := .int p0) (ty := .int) (C := RX1) (T := TX1) (N := 9) hx hb hts (by decide +kernel) tyX1 tyX1_ok nmX1 hown hK hP hD hS 0 rfl rfl 4 (by decide) (hts (.fieldLink RX1 39 "RelativeFiles" "standing" "I") (by decide +kernel)) (fun _ h9 => h9) rfl (by decide +kernel) rfl rfl (Nat.le_of_ble_eq_true rfl) dX1_stand_2 (fun H locs hP hD hS => ?_)
  have hP : va_P (dC, dI) vwCl [(oF, .inr (2, [.int mo, .ref oS, .int th, .int om, .int p0, .int po, .int lr, .long lv, .int (nI d)])), (oS, .inr (1, [.ref oA, .ref oB, .int (nI h)])), (oA, .inl (cA, n, .inl P)), (oB, .inl (cB, n, .inr (.inl V)))] H := hP
  have hD : va_D A [(oF, .inr (2, [.int mo, .ref oS, .int th, .int om, .int p0, .int po, .int lr, .long lv, .int (nI d)])), (oS, .inr (1, [.ref oA, .ref oB, .int (nI h)])), (oA, .inl (cA, n, .inl P)), (oB, .inl (cB, n, .inr (.inl V)))] := hD
  refine lv_aload_n hx hb dX1_stand_5 rfl (lv_at hl 0 rfl) ?_
  refine lv_iload_n hx hb dX1_stand_6 rfl (lv_at hl 2 rfl) ?_
  refine va_put (D := (dC, dI)) (ci := 2) (v := .int p1) (ty := .int) (C := RX1) (T := TX1) (N := 9) hx hb hts (by decide +kernel) tyX1 tyX1_ok nmX1 hown hK hP hD hS 0 rfl rfl 5 (by decide) (hts (.fieldLink RX1 42 "RelativeFiles" "position" "I") (by decide +kernel)) (fun _ h9 => h9) rfl (by decide +kernel) rfl rfl (Nat.le_of_ble_eq_true rfl) dX1_stand_7 (fun H locs hP hD hS => ?_)
  have hP : va_P (dC, dI) vwCl [(oF, .inr (2, [.int mo, .ref oS, .int th, .int om, .int p0, .int p1, .int lr, .long lv, .int (nI d)])), (oS, .inr (1, [.ref oA, .ref oB, .int (nI h)])), (oA, .inl (cA, n, .inl P)), (oB, .inl (cB, n, .inr (.inl V)))] H := hP
  have hD : va_D A [(oF, .inr (2, [.int mo, .ref oS, .int th, .int om, .int p0, .int p1, .int lr, .long lv, .int (nI d)])), (oS, .inr (1, [.ref oA, .ref oB, .int (nI h)])), (oA, .inl (cA, n, .inl P)), (oB, .inl (cB, n, .inr (.inl V)))] := hD
  refine lv_aload_n hx hb dX1_stand_10 rfl (lv_at hl 0 rfl) ?_
  refine lv_iconst (v := 0) hx hb dX1_stand_11 (by decide) ?_
  refine va_put (D := (dC, dI)) (ci := 2) (v := .int 0) (ty := .int) (C := RX1) (T := TX1) (N := 9) hx hb hts (by decide +kernel) tyX1 tyX1_ok nmX1 hown hK hP hD hS 0 rfl rfl 6 (by decide) (hts (.fieldLink RX1 45 "RelativeFiles" "lastRead" "I") (by decide +kernel)) (fun _ h9 => h9) rfl (by decide +kernel) rfl rfl (Nat.le_of_ble_eq_true rfl) dX1_stand_12 (fun H locs hP hD hS => ?_)
  have hP : va_P (dC, dI) vwCl [(oF, .inr (2, [.int mo, .ref oS, .int th, .int om, .int p0, .int p1, .int 0, .long lv, .int (nI d)])), (oS, .inr (1, [.ref oA, .ref oB, .int (nI h)])), (oA, .inl (cA, n, .inl P)), (oB, .inl (cB, n, .inr (.inl V)))] H := hP
  have hD : va_D A [(oF, .inr (2, [.int mo, .ref oS, .int th, .int om, .int p0, .int p1, .int 0, .long lv, .int (nI d)])), (oS, .inr (1, [.ref oA, .ref oB, .int (nI h)])), (oA, .inl (cA, n, .inl P)), (oB, .inl (cB, n, .inr (.inl V)))] := hD
  subst hQ9
  exact W.vret hx hb hr (fun t ht hW => ⟨⟨(), rfl, trivial, by rw [ht]; exact hP, va_K.moved hW.alike hK, hD⟩, hS.F ht⟩) hS.2.2 dX1_stand_15

set_option maxHeartbeats 1000000 in
set_option maxRecDepth 100000 in
theorem kX1_losePosition (l : Launch) (dC : Nat → ClassId) (dI : Nat → Nat → Nat) (oF oS oA oB : Nat) (cA cB : ClassId) (n h d : Nat) (mo th om sd po lr : Int32) (lv : Int64) (P : Nat → Int32) (V : Nat → Int64) (sz : Nat) (hh : h ≤ n) (hn : n ≤ 512) : Met l yX1_losePosition wsX1_losePosition ({ frames := 1, cells := 0, slots := 0, locals := 22 }) (va_Pc [.ref oF] (fun U => U.heap.size = sz ∧ va_P (dC, dI) vwCl [(oF, .inr (2, [.int mo, .ref oS, .int th, .int om, .int sd, .int po, .int lr, .long lv, .int (nI d)])), (oS, .inr (1, [.ref oA, .ref oB, .int (nI h)])), (oA, .inl (cA, n, .inl P)), (oB, .inl (cB, n, .inr (.inl V)))] U.heap ∧ va_K (dC, dI) vwCl [(cA, .int), (cB, .long)] U ∧ va_D (fun _ => True) [(oF, .inr (2, [.int mo, .ref oS, .int th, .int om, .int sd, .int po, .int lr, .long lv, .int (nI d)])), (oS, .inr (1, [.ref oA, .ref oB, .int (nI h)])), (oA, .inl (cA, n, .inl P)), (oB, .inl (cB, n, .inr (.inl V)))])) (va_Qv (fun (_ : Unit) => True) (fun (_ : Unit) (t : State) => va_P (dC, dI) vwCl [(oF, .inr (2, [.int mo, .ref oS, .int th, .int om, .int 2, .int 0, .int 0, .long lv, .int (nI d)])), (oS, .inr (1, [.ref oA, .ref oB, .int (nI h)])), (oA, .inl (cA, n, .inl P)), (oB, .inl (cB, n, .inr (.inl V)))] t.heap ∧ va_K (dC, dI) vwCl [(cA, .int), (cB, .long)] t ∧ va_D (va_A [(oF, .inr (2, [.int mo, .ref oS, .int th, .int om, .int sd, .int po, .int lr, .long lv, .int (nI d)])), (oS, .inr (1, [.ref oA, .ref oB, .int (nI h)])), (oA, .inl (cA, n, .inl P)), (oB, .inl (cB, n, .inr (.inl V)))] sz) [(oF, .inr (2, [.int mo, .ref oS, .int th, .int om, .int 2, .int 0, .int 0, .long lv, .int (nI d)])), (oS, .inr (1, [.ref oA, .ref oB, .int (nI h)])), (oA, .inl (cA, n, .inl P)), (oB, .inl (cB, n, .inr (.inl V)))]) (va_A [(oF, .inr (2, [.int mo, .ref oS, .int th, .int om, .int sd, .int po, .int lr, .long lv, .int (nI d)])), (oS, .inr (1, [.ref oA, .ref oB, .int (nI h)])), (oA, .inl (cA, n, .inl P)), (oB, .inl (cB, n, .inr (.inl V)))] sz)) 0 0 (va_A [(oF, .inr (2, [.int mo, .ref oS, .int th, .int om, .int sd, .int po, .int lr, .long lv, .int (nI d)])), (oS, .inr (1, [.ref oA, .ref oB, .int (nI h)])), (oA, .inl (cA, n, .inl P)), (oB, .inl (cB, n, .inr (.inl V)))] sz) := by
  refine Met.ofW (cc := cX1_losePosition) (maxL := 1) (ret := none) (by decide) rfl ?_
  intro p e s m args below meth c s₁ B hml hv
  obtain ⟨rfl, hsz, hP, hK, hD0⟩ := hv
  have hx := B.exec
  have hb := B.bytes
  have hr := B.returns
  have hts := atoms_spec (ws := wsX1_losePosition) B.pre
  have hown : s.vm.findClass RX1 = some m.cls := findClass_of_methodNamed B.named
  have hlocks := B.notSynchronized
  subst hsz
  have hD := hD0.self (sz := s.heap.size)
  generalize hAe : va_A [(oF, .inr (2, [.int mo, .ref oS, .int th, .int om, .int sd, .int po, .int lr, .long lv, .int (nI d)])), (oS, .inr (1, [.ref oA, .ref oB, .int (nI h)])), (oA, .inl (cA, n, .inl P)), (oB, .inl (cB, n, .inr (.inl V)))] s.heap.size = A at hD ⊢
  have hA : ∀ q : Nat, s.heap.size ≤ q → A q := fun q h => by rw [← hAe]; exact Or.inr h
  have hS : va_S A s.heap s.heap [] := va_S.rf
  have hP : va_P (dC, dI) vwCl [(oF, .inr (2, [.int mo, .ref oS, .int th, .int om, .int sd, .int po, .int lr, .long lv, .int (nI d)])), (oS, .inr (1, [.ref oA, .ref oB, .int (nI h)])), (oA, .inl (cA, n, .inl P)), (oB, .inl (cB, n, .inr (.inl V)))] s.heap := hP
  have hl := lv_entry ([.ref oF]) (n := 1) (Nat.le_of_ble_eq_true rfl)
  rw [lg_entry_eq]
  generalize (lg_sl ([.ref oF]) ++ List.replicate (1 - (lg_sl ([.ref oF])).length) Slot.unset).toArray = ls at hl ⊢
  have hl : lv_has ls 1 [(0, .ref oF)] := hl
  refine W_name (fun Q hQ9 => ?_)
  refine lv_aload_n hx hb dX1_losePosition_0 rfl (lv_at hl 0 rfl) ?_
  refine lv_iconst (v := 2) hx hb dX1_losePosition_1 (by decide) ?_
  refine lv_iconst (v := 0) hx hb dX1_losePosition_2 (by decide) ?_
  have hPc := hP.sub (ws' := [(oF, .inr (2, [.int mo, .ref oS, .int th, .int om, .int sd, .int po, .int lr, .long lv, .int (nI d)])), (oS, .inr (1, [.ref oA, .ref oB, .int (nI h)])), (oA, .inl (cA, n, .inl P)), (oB, .inl (cB, n, .inr (.inl V)))]) [0, 1, 2, 3] rfl
  have hDc := hD.sub (ws' := [(oF, .inr (2, [.int mo, .ref oS, .int th, .int om, .int sd, .int po, .int lr, .long lv, .int (nI d)])), (oS, .inr (1, [.ref oA, .ref oB, .int (nI h)])), (oA, .inl (cA, n, .inl P)), (oB, .inl (cB, n, .inr (.inl V)))]) [0, 1, 2, 3] (by decide) rfl
  have hKc := hK.sub (tys' := [(cA, .int), (cB, .long)]) [0, 1] rfl
  have hFc := va_free (wc := [(oF, .inr (2, [.int mo, .ref oS, .int th, .int om, .int sd, .int po, .int lr, .long lv, .int (nI d)])), (oS, .inr (1, [.ref oA, .ref oB, .int (nI h)])), (oA, .inl (cA, n, .inl P)), (oB, .inl (cB, n, .inr (.inl V)))]) hD hS hA [0, 1, 2, 3] rfl
  refine va_callv (va_runV (As := [.int 2, .int 0]) (rest := []) ⟨hx, hb, hml, hown, hts⟩ (kX1_stand l dC dI oF oS oA oB cA cB n h d mo th om sd po lr lv P V 2 0 s.heap.size hh hn) (cwV 2 hts gX1_losePosition_X1_stand rfl rfl rfl (by decide +kernel) ⟨Nat.le_of_ble_eq_true rfl, Nat.le_of_ble_eq_true rfl⟩) ⟨fun a U g mk q => by obtain ⟨q0, q1, qP, qK, qD⟩ := q; exact ⟨q0, q1, qP, va_K.moved (u := U) (U := U.calling g mk a) (Vm.Alike.refl U.vm) qK, qD⟩, va_recv hKc hPc (ci := 2) (q0 := 0) rfl rfl, fun U hU hW => ⟨rfl, by rw [hU], by rw [hU]; exact hPc, va_K.moved hW.alike hKc, hDc.weaken (fun _ _ _ _ => trivial)⟩⟩ rfl rfl hl.1 rfl (lv_room (Nat.le_of_ble_eq_true rfl)) dX1_losePosition_3 ⟨Nat.le_of_ble_eq_true rfl, Nat.le_of_ble_eq_true rfl⟩) hS (fun q _ h => hFc q h) hFc (fun u t H1 locs ht hvm hw hB hz1 hk1 hS => ?_)
  obtain ⟨hP1, hK1, hD1⟩ := hB
  rw [ht] at hP1
  have hK1 := va_K.moved hvm.symm hK1
  try dsimp only at hw
  obtain ⟨hP, hD⟩ := va_join (wr := []) (w1 := [(oF, .inr (2, [.int mo, .ref oS, .int th, .int om, .int 2, .int 0, .int 0, .long lv, .int (nI d)])), (oS, .inr (1, [.ref oA, .ref oB, .int (nI h)])), (oA, .inl (cA, n, .inl P)), (oB, .inl (cB, n, .inr (.inl V)))]) hP hD [0, 1, 2, 3] [] rfl rfl (by decide) (by decide) hk1 hFc hP1 hD1
  generalize H1 = H at hP hS ⊢
  have hP : va_P (dC, dI) vwCl [(oF, .inr (2, [.int mo, .ref oS, .int th, .int om, .int 2, .int 0, .int 0, .long lv, .int (nI d)])), (oS, .inr (1, [.ref oA, .ref oB, .int (nI h)])), (oA, .inl (cA, n, .inl P)), (oB, .inl (cB, n, .inr (.inl V)))] H := hP.sub [0, 1, 2, 3] rfl
  have hD : va_D A [(oF, .inr (2, [.int mo, .ref oS, .int th, .int om, .int 2, .int 0, .int 0, .long lv, .int (nI d)])), (oS, .inr (1, [.ref oA, .ref oB, .int (nI h)])), (oA, .inl (cA, n, .inl P)), (oB, .inl (cB, n, .inr (.inl V)))] := hD.sub [0, 1, 2, 3] (by decide) rfl
  have hK : va_K (dC, dI) vwCl [(cA, .int), (cB, .long)] s := hK
  subst hQ9
  exact W.vret hx hb hr (fun t ht hW => ⟨⟨(), rfl, trivial, by rw [ht]; exact hP, va_K.moved hW.alike hK, hD⟩, hS.F ht⟩) hS.2.2 dX1_losePosition_6

set_option maxHeartbeats 1000000 in
set_option maxRecDepth 100000 in
theorem kX1_take (l : Launch) (dC : Nat → ClassId) (dI : Nat → Nat → Nat) (oF oS oA oB : Nat) (cA cB : ClassId) (n h d : Nat) (mo th om sd po lr : Int32) (lv : Int64) (P : Nat → Int32) (V : Nat → Int64) (p0 : Int32) (sz : Nat) (hh : h ≤ n) (hn : n ≤ 512) : Met l yX1_take wsX1_take ({ frames := 2, cells := 0, slots := 0, locals := 44 }) (va_Pc [.ref oF, .int p0] (fun U => U.heap.size = sz ∧ va_P (dC, dI) vwCl [(oF, .inr (2, [.int mo, .ref oS, .int th, .int om, .int sd, .int po, .int lr, .long lv, .int (nI d)])), (oS, .inr (1, [.ref oA, .ref oB, .int (nI h)])), (oA, .inl (cA, n, .inl P)), (oB, .inl (cB, n, .inr (.inl V)))] U.heap ∧ va_K (dC, dI) vwCl [(cA, .int), (cB, .long)] U ∧ va_D (fun _ => True) [(oF, .inr (2, [.int mo, .ref oS, .int th, .int om, .int sd, .int po, .int lr, .long lv, .int (nI d)])), (oS, .inr (1, [.ref oA, .ref oB, .int (nI h)])), (oA, .inl (cA, n, .inl P)), (oB, .inl (cB, n, .inr (.inl V)))])) (va_Qv (fun (_ : Unit) => True) (fun (_ : Unit) (t : State) => va_P (dC, dI) vwCl [(oF, .inr (2, [.int mo, .ref oS, .int th, .int om, .int 0, .int p0, .int p0, .long (fRec P V h p0), .int (nI d)])), (oS, .inr (1, [.ref oA, .ref oB, .int (nI h)])), (oA, .inl (cA, n, .inl P)), (oB, .inl (cB, n, .inr (.inl V)))] t.heap ∧ va_K (dC, dI) vwCl [(cA, .int), (cB, .long)] t ∧ va_D (va_A [(oF, .inr (2, [.int mo, .ref oS, .int th, .int om, .int sd, .int po, .int lr, .long lv, .int (nI d)])), (oS, .inr (1, [.ref oA, .ref oB, .int (nI h)])), (oA, .inl (cA, n, .inl P)), (oB, .inl (cB, n, .inr (.inl V)))] sz) [(oF, .inr (2, [.int mo, .ref oS, .int th, .int om, .int 0, .int p0, .int p0, .long (fRec P V h p0), .int (nI d)])), (oS, .inr (1, [.ref oA, .ref oB, .int (nI h)])), (oA, .inl (cA, n, .inl P)), (oB, .inl (cB, n, .inr (.inl V)))]) (va_A [(oF, .inr (2, [.int mo, .ref oS, .int th, .int om, .int sd, .int po, .int lr, .long lv, .int (nI d)])), (oS, .inr (1, [.ref oA, .ref oB, .int (nI h)])), (oA, .inl (cA, n, .inl P)), (oB, .inl (cB, n, .inr (.inl V)))] sz)) 0 0 (va_A [(oF, .inr (2, [.int mo, .ref oS, .int th, .int om, .int sd, .int po, .int lr, .long lv, .int (nI d)])), (oS, .inr (1, [.ref oA, .ref oB, .int (nI h)])), (oA, .inl (cA, n, .inl P)), (oB, .inl (cB, n, .inr (.inl V)))] sz) := by
  refine Met.ofW (cc := cX1_take) (maxL := 2) (ret := none) (by decide) rfl ?_
  intro p e s m args below meth c s₁ B hml hv
  obtain ⟨rfl, hsz, hP, hK, hD0⟩ := hv
  have hx := B.exec
  have hb := B.bytes
  have hr := B.returns
  have hts := atoms_spec (ws := wsX1_take) B.pre
  have hown : s.vm.findClass RX1 = some m.cls := findClass_of_methodNamed B.named
  have hlocks := B.notSynchronized
  subst hsz
  have hD := hD0.self (sz := s.heap.size)
  generalize hAe : va_A [(oF, .inr (2, [.int mo, .ref oS, .int th, .int om, .int sd, .int po, .int lr, .long lv, .int (nI d)])), (oS, .inr (1, [.ref oA, .ref oB, .int (nI h)])), (oA, .inl (cA, n, .inl P)), (oB, .inl (cB, n, .inr (.inl V)))] s.heap.size = A at hD ⊢
  have hA : ∀ q : Nat, s.heap.size ≤ q → A q := fun q h => by rw [← hAe]; exact Or.inr h
  have hS : va_S A s.heap s.heap [] := va_S.rf
  have hP : va_P (dC, dI) vwCl [(oF, .inr (2, [.int mo, .ref oS, .int th, .int om, .int sd, .int po, .int lr, .long lv, .int (nI d)])), (oS, .inr (1, [.ref oA, .ref oB, .int (nI h)])), (oA, .inl (cA, n, .inl P)), (oB, .inl (cB, n, .inr (.inl V)))] s.heap := hP
  have hl := lv_entry ([.ref oF, .int p0]) (n := 2) (Nat.le_of_ble_eq_true rfl)
  rw [lg_entry_eq]
  generalize (lg_sl ([.ref oF, .int p0]) ++ List.replicate (2 - (lg_sl ([.ref oF, .int p0])).length) Slot.unset).toArray = ls at hl ⊢
  have hl : lv_has ls 2 [(0, .ref oF), (1, .int p0)] := hl
  refine W_name (fun Q hQ9 => ?_)
  refine lv_aload_n hx hb dX1_take_0 rfl (lv_at hl 0 rfl) ?_
  refine lv_iconst (v := 0) hx hb dX1_take_1 (by decide) ?_
  refine lv_iload_n hx hb dX1_take_2 rfl (lv_at hl 1 rfl) ?_
  have hPc := hP.sub (ws' := [(oF, .inr (2, [.int mo, .ref oS, .int th, .int om, .int sd, .int po, .int lr, .long lv, .int (nI d)])), (oS, .inr (1, [.ref oA, .ref oB, .int (nI h)])), (oA, .inl (cA, n, .inl P)), (oB, .inl (cB, n, .inr (.inl V)))]) [0, 1, 2, 3] rfl
  have hDc := hD.sub (ws' := [(oF, .inr (2, [.int mo, .ref oS, .int th, .int om, .int sd, .int po, .int lr, .long lv, .int (nI d)])), (oS, .inr (1, [.ref oA, .ref oB, .int (nI h)])), (oA, .inl (cA, n, .inl P)), (oB, .inl (cB, n, .inr (.inl V)))]) [0, 1, 2, 3] (by decide) rfl
  have hKc := hK.sub (tys' := [(cA, .int), (cB, .long)]) [0, 1] rfl
  have hFc := va_free (wc := [(oF, .inr (2, [.int mo, .ref oS, .int th, .int om, .int sd, .int po, .int lr, .long lv, .int (nI d)])), (oS, .inr (1, [.ref oA, .ref oB, .int (nI h)])), (oA, .inl (cA, n, .inl P)), (oB, .inl (cB, n, .inr (.inl V)))]) hD hS hA [0, 1, 2, 3] rfl
  refine va_callv (va_runV (As := [.int 0, .int p0]) (rest := []) ⟨hx, hb, hml, hown, hts⟩ (kX1_stand l dC dI oF oS oA oB cA cB n h d mo th om sd po lr lv P V 0 p0 s.heap.size hh hn) (cwV 2 hts gX1_take_X1_stand rfl rfl rfl (by decide +kernel) ⟨Nat.le_of_ble_eq_true rfl, Nat.le_of_ble_eq_true rfl⟩) ⟨fun a U g mk q => by obtain ⟨q0, q1, qP, qK, qD⟩ := q; exact ⟨q0, q1, qP, va_K.moved (u := U) (U := U.calling g mk a) (Vm.Alike.refl U.vm) qK, qD⟩, va_recv hKc hPc (ci := 2) (q0 := 0) rfl rfl, fun U hU hW => ⟨rfl, by rw [hU], by rw [hU]; exact hPc, va_K.moved hW.alike hKc, hDc.weaken (fun _ _ _ _ => trivial)⟩⟩ rfl rfl hl.1 rfl (lv_room (Nat.le_of_ble_eq_true rfl)) dX1_take_3 ⟨Nat.le_of_ble_eq_true rfl, Nat.le_of_ble_eq_true rfl⟩) hS (fun q _ h => hFc q h) hFc (fun u t H1 locs ht hvm hw hB hz1 hk1 hS => ?_)
  obtain ⟨hP1, hK1, hD1⟩ := hB
  rw [ht] at hP1
  have hK1 := va_K.moved hvm.symm hK1
  try dsimp only at hw
  obtain ⟨hP, hD⟩ := va_join (wr := []) (w1 := [(oF, .inr (2, [.int mo, .ref oS, .int th, .int om, .int 0, .int p0, .int 0, .long lv, .int (nI d)])), (oS, .inr (1, [.ref oA, .ref oB, .int (nI h)])), (oA, .inl (cA, n, .inl P)), (oB, .inl (cB, n, .inr (.inl V)))]) hP hD [0, 1, 2, 3] [] rfl rfl (by decide) (by decide) hk1 hFc hP1 hD1
  generalize H1 = H at hP hS ⊢
  have hP : va_P (dC, dI) vwCl [(oF, .inr (2, [.int mo, .ref oS, .int th, .int om, .int 0, .int p0, .int 0, .long lv, .int (nI d)])), (oS, .inr (1, [.ref oA, .ref oB, .int (nI h)])), (oA, .inl (cA, n, .inl P)), (oB, .inl (cB, n, .inr (.inl V)))] H := hP.sub [0, 1, 2, 3] rfl
  have hD : va_D A [(oF, .inr (2, [.int mo, .ref oS, .int th, .int om, .int 0, .int p0, .int 0, .long lv, .int (nI d)])), (oS, .inr (1, [.ref oA, .ref oB, .int (nI h)])), (oA, .inl (cA, n, .inl P)), (oB, .inl (cB, n, .inr (.inl V)))] := hD.sub [0, 1, 2, 3] (by decide) rfl
  have hK : va_K (dC, dI) vwCl [(cA, .int), (cB, .long)] s := hK
  refine lv_aload_n hx hb dX1_take_6 rfl (lv_at hl 0 rfl) ?_
  refine lv_iload_n hx hb dX1_take_7 rfl (lv_at hl 1 rfl) ?_
  refine va_put (D := (dC, dI)) (ci := 2) (v := .int p0) (ty := .int) (C := RX1) (T := TX1) (N := 9) hx hb hts (by decide +kernel) tyX1 tyX1_ok nmX1 hown hK hP hD hS 0 rfl rfl 6 (by decide) (hts (.fieldLink RX1 45 "RelativeFiles" "lastRead" "I") (by decide +kernel)) (fun _ h9 => h9) rfl (by decide +kernel) rfl rfl (Nat.le_of_ble_eq_true rfl) dX1_take_8 (fun H locs hP hD hS => ?_)
  have hP : va_P (dC, dI) vwCl [(oF, .inr (2, [.int mo, .ref oS, .int th, .int om, .int 0, .int p0, .int p0, .long lv, .int (nI d)])), (oS, .inr (1, [.ref oA, .ref oB, .int (nI h)])), (oA, .inl (cA, n, .inl P)), (oB, .inl (cB, n, .inr (.inl V)))] H := hP
  have hD : va_D A [(oF, .inr (2, [.int mo, .ref oS, .int th, .int om, .int 0, .int p0, .int p0, .long lv, .int (nI d)])), (oS, .inr (1, [.ref oA, .ref oB, .int (nI h)])), (oA, .inl (cA, n, .inl P)), (oB, .inl (cB, n, .inr (.inl V)))] := hD
  refine lv_aload_n hx hb dX1_take_11 rfl (lv_at hl 0 rfl) ?_
  refine lv_aload_n hx hb dX1_take_12 rfl (lv_at hl 0 rfl) ?_
  refine va_get (D := (dC, dI)) (ci := 2) (v := .ref oS) (C := RX1) (T := TX1) (N := 9) hx hb hts (by decide +kernel) hown hK hP 0 rfl rfl 1 (by decide) (hts (.fieldLink RX1 28 "RelativeFiles" "shelf" "LRelativeFiles$Shelf;") (by decide +kernel)) (fun _ h9 => h9) rfl dX1_take_13 ?_
  refine lv_iload_n hx hb dX1_take_16 rfl (lv_at hl 1 rfl) ?_
  have hPc := hP.sub (ws' := [(oS, .inr (1, [.ref oA, .ref oB, .int (nI h)])), (oA, .inl (cA, n, .inl P)), (oB, .inl (cB, n, .inr (.inl V)))]) [1, 2, 3] rfl
  have hDc := hD.sub (ws' := [(oS, .inr (1, [.ref oA, .ref oB, .int (nI h)])), (oA, .inl (cA, n, .inl P)), (oB, .inl (cB, n, .inr (.inl V)))]) [1, 2, 3] (by decide) rfl
  have hKc := hK.sub (tys' := [(cA, .int), (cB, .long)]) [0, 1] rfl
  have hFc := va_free (wc := [(oS, .inr (1, [.ref oA, .ref oB, .int (nI h)])), (oA, .inl (cA, n, .inl P)), (oB, .inl (cB, n, .inr (.inl V)))]) hD hS hA [1, 2, 3] rfl
  refine va_calll (va_runV (As := [.int p0]) (rest := [.ref oF]) ⟨hx, hb, hml, hown, hts⟩ (kX0_recordOf l dC dI oS oA oB cA cB n h P V p0 H.size hh hn) (cwV 1 hts gX1_take_X0_recordOf rfl rfl rfl (by decide +kernel) ⟨Nat.le_of_ble_eq_true rfl, Nat.le_of_ble_eq_true rfl⟩) ⟨fun a U g mk q => by obtain ⟨q0, q1, qP, qK, qD⟩ := q; exact ⟨q0, q1, qP, va_K.moved (u := U) (U := U.calling g mk a) (Vm.Alike.refl U.vm) qK, qD⟩, va_recv hKc hPc (ci := 1) (q0 := 0) rfl rfl, fun U hU hW => ⟨rfl, by rw [hU], by rw [hU]; exact hPc, va_K.moved hW.alike hKc, hDc.weaken (fun _ _ _ _ => trivial)⟩⟩ rfl rfl hl.1 rfl (lv_room (Nat.le_of_ble_eq_true rfl)) dX1_take_17 ⟨Nat.le_of_ble_eq_true rfl, Nat.le_of_ble_eq_true rfl⟩) hS (fun q _ h => hFc q h) hFc (fun r_2 u t H1 locs ht hvm hw hB hz1 hk1 hS => ?_)
  obtain ⟨hP1, hK1, hD1⟩ := hB
  rw [ht] at hP1
  have hK1 := va_K.moved hvm.symm hK1
  try dsimp only at hw
  obtain ⟨hP, hD⟩ := va_join (wr := [(oF, .inr (2, [.int mo, .ref oS, .int th, .int om, .int 0, .int p0, .int p0, .long lv, .int (nI d)]))]) (w1 := [(oS, .inr (1, [.ref oA, .ref oB, .int (nI h)])), (oA, .inl (cA, n, .inl P)), (oB, .inl (cB, n, .inr (.inl V)))]) hP hD [1, 2, 3] [0] rfl rfl (by decide) (by decide) hk1 hFc hP1 hD1
  generalize H1 = H at hP hS ⊢
  have hP : va_P (dC, dI) vwCl [(oF, .inr (2, [.int mo, .ref oS, .int th, .int om, .int 0, .int p0, .int p0, .long lv, .int (nI d)])), (oS, .inr (1, [.ref oA, .ref oB, .int (nI h)])), (oA, .inl (cA, n, .inl P)), (oB, .inl (cB, n, .inr (.inl V)))] H := hP.sub [0, 1, 2, 3] rfl
  have hD : va_D A [(oF, .inr (2, [.int mo, .ref oS, .int th, .int om, .int 0, .int p0, .int p0, .long lv, .int (nI d)])), (oS, .inr (1, [.ref oA, .ref oB, .int (nI h)])), (oA, .inl (cA, n, .inl P)), (oB, .inl (cB, n, .inr (.inl V)))] := hD.sub [0, 1, 2, 3] (by decide) rfl
  have hK : va_K (dC, dI) vwCl [(cA, .int), (cB, .long)] s := hK
  subst hw
  refine va_put (D := (dC, dI)) (ci := 2) (v := .long (fRec P V h p0)) (ty := .long) (C := RX1) (T := TX1) (N := 9) hx hb hts (by decide +kernel) tyX1 tyX1_ok nmX1 hown hK hP hD hS 0 rfl rfl 7 (by decide) (hts (.fieldLink RX1 48 "RelativeFiles" "lastValue" "J") (by decide +kernel)) (fun _ h9 => h9) rfl (by decide +kernel) rfl rfl (Nat.le_of_ble_eq_true rfl) dX1_take_20 (fun H locs hP hD hS => ?_)
  have hP : va_P (dC, dI) vwCl [(oF, .inr (2, [.int mo, .ref oS, .int th, .int om, .int 0, .int p0, .int p0, .long (fRec P V h p0), .int (nI d)])), (oS, .inr (1, [.ref oA, .ref oB, .int (nI h)])), (oA, .inl (cA, n, .inl P)), (oB, .inl (cB, n, .inr (.inl V)))] H := hP
  have hD : va_D A [(oF, .inr (2, [.int mo, .ref oS, .int th, .int om, .int 0, .int p0, .int p0, .long (fRec P V h p0), .int (nI d)])), (oS, .inr (1, [.ref oA, .ref oB, .int (nI h)])), (oA, .inl (cA, n, .inl P)), (oB, .inl (cB, n, .inr (.inl V)))] := hD
  subst hQ9
  exact W.vret hx hb hr (fun t ht hW => ⟨⟨(), rfl, trivial, by rw [ht]; exact hP, va_K.moved hW.alike hK, hD⟩, hS.F ht⟩) hS.2.2 dX1_take_23

set_option maxHeartbeats 1000000 in
set_option maxRecDepth 100000 in
theorem kX1_isPlace (l : Launch) (dC : Nat → ClassId) (dI : Nat → Nat → Nat) (oF oS oA oB : Nat) (cA cB : ClassId) (n h d : Nat) (mo th om sd po lr : Int32) (lv : Int64) (P : Nat → Int32) (V : Nat → Int64) (p0 : Int32) (sz : Nat) (hh : h ≤ n) (hn : n ≤ 512) : Met l yX1_isPlace wsX1_isPlace ({ frames := 0, cells := 0, slots := 0, locals := 0 }) (va_Pc [.ref oF, .int p0] (fun U => U.heap.size = sz ∧ va_P (dC, dI) vwCl [(oF, .inr (2, [.int mo, .ref oS, .int th, .int om, .int sd, .int po, .int lr, .long lv, .int (nI d)])), (oS, .inr (1, [.ref oA, .ref oB, .int (nI h)])), (oA, .inl (cA, n, .inl P)), (oB, .inl (cB, n, .inr (.inl V)))] U.heap ∧ va_K (dC, dI) vwCl [(cA, .int), (cB, .long)] U ∧ va_D (fun _ => True) [(oF, .inr (2, [.int mo, .ref oS, .int th, .int om, .int sd, .int po, .int lr, .long lv, .int (nI d)])), (oS, .inr (1, [.ref oA, .ref oB, .int (nI h)])), (oA, .inl (cA, n, .inl P)), (oB, .inl (cB, n, .inr (.inl V)))])) (va_Qi (fun (r : Int32) (_ : Unit) => (isPl mo p0 ∧ r = 1) ∨ (¬ (isPl mo p0) ∧ r = 0)) (fun (_ : Unit) (t : State) => va_P (dC, dI) vwCl [(oF, .inr (2, [.int mo, .ref oS, .int th, .int om, .int sd, .int po, .int lr, .long lv, .int (nI d)])), (oS, .inr (1, [.ref oA, .ref oB, .int (nI h)])), (oA, .inl (cA, n, .inl P)), (oB, .inl (cB, n, .inr (.inl V)))] t.heap ∧ va_K (dC, dI) vwCl [(cA, .int), (cB, .long)] t ∧ va_D (va_A [(oF, .inr (2, [.int mo, .ref oS, .int th, .int om, .int sd, .int po, .int lr, .long lv, .int (nI d)])), (oS, .inr (1, [.ref oA, .ref oB, .int (nI h)])), (oA, .inl (cA, n, .inl P)), (oB, .inl (cB, n, .inr (.inl V)))] sz) [(oF, .inr (2, [.int mo, .ref oS, .int th, .int om, .int sd, .int po, .int lr, .long lv, .int (nI d)])), (oS, .inr (1, [.ref oA, .ref oB, .int (nI h)])), (oA, .inl (cA, n, .inl P)), (oB, .inl (cB, n, .inr (.inl V)))]) (va_A [(oF, .inr (2, [.int mo, .ref oS, .int th, .int om, .int sd, .int po, .int lr, .long lv, .int (nI d)])), (oS, .inr (1, [.ref oA, .ref oB, .int (nI h)])), (oA, .inl (cA, n, .inl P)), (oB, .inl (cB, n, .inr (.inl V)))] sz)) 0 0 (va_A [(oF, .inr (2, [.int mo, .ref oS, .int th, .int om, .int sd, .int po, .int lr, .long lv, .int (nI d)])), (oS, .inr (1, [.ref oA, .ref oB, .int (nI h)])), (oA, .inl (cA, n, .inl P)), (oB, .inl (cB, n, .inr (.inl V)))] sz) := by
  refine Met.ofW (cc := cX1_isPlace) (maxL := 2) (ret := (some .boolean)) (by decide) rfl ?_
  intro p e s m args below meth c s₁ B hml hv
  obtain ⟨rfl, hsz, hP, hK, hD0⟩ := hv
  have hx := B.exec
  have hb := B.bytes
  have hr := B.returns
  have hts := atoms_spec (ws := wsX1_isPlace) B.pre
  have hown : s.vm.findClass RX1 = some m.cls := findClass_of_methodNamed B.named
  have hlocks := B.notSynchronized
  subst hsz
  have hD := hD0.self (sz := s.heap.size)
  generalize hAe : va_A [(oF, .inr (2, [.int mo, .ref oS, .int th, .int om, .int sd, .int po, .int lr, .long lv, .int (nI d)])), (oS, .inr (1, [.ref oA, .ref oB, .int (nI h)])), (oA, .inl (cA, n, .inl P)), (oB, .inl (cB, n, .inr (.inl V)))] s.heap.size = A at hD ⊢
  have hA : ∀ q : Nat, s.heap.size ≤ q → A q := fun q h => by rw [← hAe]; exact Or.inr h
  have hS : va_S A s.heap s.heap [] := va_S.rf
  have hP : va_P (dC, dI) vwCl [(oF, .inr (2, [.int mo, .ref oS, .int th, .int om, .int sd, .int po, .int lr, .long lv, .int (nI d)])), (oS, .inr (1, [.ref oA, .ref oB, .int (nI h)])), (oA, .inl (cA, n, .inl P)), (oB, .inl (cB, n, .inr (.inl V)))] s.heap := hP
  have hl := lv_entry ([.ref oF, .int p0]) (n := 2) (Nat.le_of_ble_eq_true rfl)
  rw [lg_entry_eq]
  generalize (lg_sl ([.ref oF, .int p0]) ++ List.replicate (2 - (lg_sl ([.ref oF, .int p0])).length) Slot.unset).toArray = ls at hl ⊢
  have hl : lv_has ls 2 [(0, .ref oF), (1, .int p0)] := hl
  refine W_name (fun Q hQ9 => ?_)
  refine lv_iload_n hx hb dX1_isPlace_0 rfl (lv_at hl 1 rfl) ?_
  refine lv_iconst (v := 1) hx hb dX1_isPlace_1 (by decide) ?_
  refine lv_icmp_lt (tgt := 17) hx hb dX1_isPlace_2 (by decide) (fun c_1 => ?_) (fun c_1 => ?_)
  · -- taken at 2: p0 < 1
    refine lv_iconst (v := 0) hx hb dX1_isPlace_17 (by decide) ?_
    subst hQ9
    exact W.zret (ty := .boolean) (v := 0) hx hb hr (by decide) (fun t ht hW => ⟨⟨0, (), rfl, Or.inr ⟨fun q => q.1 c_1, rfl⟩, by rw [ht]; exact hP, va_K.moved hW.alike hK, hD⟩, hS.F ht⟩) hS.2.2 dX1_isPlace_18
  · -- not taken at 2: ¬ p0 < 1
    refine lv_iload_n hx hb dX1_isPlace_5 rfl (lv_at hl 1 rfl) ?_
    refine lv_aload_n hx hb dX1_isPlace_6 rfl (lv_at hl 0 rfl) ?_
    refine va_get (D := (dC, dI)) (ci := 2) (v := .int mo) (C := RX1) (T := TX1) (N := 9) hx hb hts (by decide +kernel) hown hK hP 0 rfl rfl 0 (by decide) (hts (.fieldLink RX1 19 "RelativeFiles" "most" "I") (by decide +kernel)) (fun _ h9 => h9) rfl dX1_isPlace_7 ?_
    refine lv_icmp_gt (tgt := 17) hx hb dX1_isPlace_10 (by decide) (fun c_2 => ?_) (fun c_2 => ?_)
    · -- taken at 10: mo < p0
      refine lv_iconst (v := 0) hx hb dX1_isPlace_17 (by decide) ?_
      subst hQ9
      exact W.zret (ty := .boolean) (v := 0) hx hb hr (by decide) (fun t ht hW => ⟨⟨0, (), rfl, Or.inr ⟨fun q => q.2 c_2, rfl⟩, by rw [ht]; exact hP, va_K.moved hW.alike hK, hD⟩, hS.F ht⟩) hS.2.2 dX1_isPlace_18
    · -- not taken at 10: ¬ mo < p0
      refine lv_iconst (v := 1) hx hb dX1_isPlace_13 (by decide) ?_
      refine lv_goto (tgt := 18) hx hb dX1_isPlace_14 (by decide) ?_
      subst hQ9
      exact W.zret (ty := .boolean) (v := 1) hx hb hr (by decide) (fun t ht hW => ⟨⟨1, (), rfl, Or.inl ⟨⟨c_1, c_2⟩, rfl⟩, by rw [ht]; exact hP, va_K.moved hW.alike hK, hD⟩, hS.F ht⟩) hS.2.2 dX1_isPlace_18

set_option maxHeartbeats 1000000 in
set_option maxRecDepth 100000 in
theorem kX1_isTooLong (l : Launch) (dC : Nat → ClassId) (dI : Nat → Nat → Nat) (oF oS oA oB : Nat) (cA cB : ClassId) (n h d : Nat) (mo th om sd po lr : Int32) (lv : Int64) (P : Nat → Int32) (V : Nat → Int64) (p0 : Int32) (sz : Nat) (hh : h ≤ n) (hn : n ≤ 512) (hd : d ≤ 9) : Met l yX1_isTooLong wsX1_isTooLong ({ frames := 0, cells := 0, slots := 0, locals := 0 }) (va_Pc [.ref oF, .int p0] (fun U => U.heap.size = sz ∧ va_P (dC, dI) vwCl [(oF, .inr (2, [.int mo, .ref oS, .int th, .int om, .int sd, .int po, .int lr, .long lv, .int (nI d)])), (oS, .inr (1, [.ref oA, .ref oB, .int (nI h)])), (oA, .inl (cA, n, .inl P)), (oB, .inl (cB, n, .inr (.inl V)))] U.heap ∧ va_K (dC, dI) vwCl [(cA, .int), (cB, .long)] U ∧ va_D (fun _ => True) [(oF, .inr (2, [.int mo, .ref oS, .int th, .int om, .int sd, .int po, .int lr, .long lv, .int (nI d)])), (oS, .inr (1, [.ref oA, .ref oB, .int (nI h)])), (oA, .inl (cA, n, .inl P)), (oB, .inl (cB, n, .inr (.inl V)))])) (va_Qi (fun (r : Int32) (_ : Unit) => (tooL p0 d ∧ r = 1) ∨ (¬ (tooL p0 d) ∧ r = 0)) (fun (_ : Unit) (t : State) => va_P (dC, dI) vwCl [(oF, .inr (2, [.int mo, .ref oS, .int th, .int om, .int sd, .int po, .int lr, .long lv, .int (nI d)])), (oS, .inr (1, [.ref oA, .ref oB, .int (nI h)])), (oA, .inl (cA, n, .inl P)), (oB, .inl (cB, n, .inr (.inl V)))] t.heap ∧ va_K (dC, dI) vwCl [(cA, .int), (cB, .long)] t ∧ va_D (va_A [(oF, .inr (2, [.int mo, .ref oS, .int th, .int om, .int sd, .int po, .int lr, .long lv, .int (nI d)])), (oS, .inr (1, [.ref oA, .ref oB, .int (nI h)])), (oA, .inl (cA, n, .inl P)), (oB, .inl (cB, n, .inr (.inl V)))] sz) [(oF, .inr (2, [.int mo, .ref oS, .int th, .int om, .int sd, .int po, .int lr, .long lv, .int (nI d)])), (oS, .inr (1, [.ref oA, .ref oB, .int (nI h)])), (oA, .inl (cA, n, .inl P)), (oB, .inl (cB, n, .inr (.inl V)))]) (va_A [(oF, .inr (2, [.int mo, .ref oS, .int th, .int om, .int sd, .int po, .int lr, .long lv, .int (nI d)])), (oS, .inr (1, [.ref oA, .ref oB, .int (nI h)])), (oA, .inl (cA, n, .inl P)), (oB, .inl (cB, n, .inr (.inl V)))] sz)) 0 0 (va_A [(oF, .inr (2, [.int mo, .ref oS, .int th, .int om, .int sd, .int po, .int lr, .long lv, .int (nI d)])), (oS, .inr (1, [.ref oA, .ref oB, .int (nI h)])), (oA, .inl (cA, n, .inl P)), (oB, .inl (cB, n, .inr (.inl V)))] sz) := by
  refine Met.ofW (cc := cX1_isTooLong) (maxL := 4) (ret := (some .boolean)) (by decide) rfl ?_
  intro p e s m args below meth c s₁ B hml hv
  obtain ⟨rfl, hsz, hP, hK, hD0⟩ := hv
  have hx := B.exec
  have hb := B.bytes
  have hr := B.returns
  have hts := atoms_spec (ws := wsX1_isTooLong) B.pre
  have hown : s.vm.findClass RX1 = some m.cls := findClass_of_methodNamed B.named
  have hlocks := B.notSynchronized
  subst hsz
  have hD := hD0.self (sz := s.heap.size)
  generalize hAe : va_A [(oF, .inr (2, [.int mo, .ref oS, .int th, .int om, .int sd, .int po, .int lr, .long lv, .int (nI d)])), (oS, .inr (1, [.ref oA, .ref oB, .int (nI h)])), (oA, .inl (cA, n, .inl P)), (oB, .inl (cB, n, .inr (.inl V)))] s.heap.size = A at hD ⊢
  have hA : ∀ q : Nat, s.heap.size ≤ q → A q := fun q h => by rw [← hAe]; exact Or.inr h
  have hS : va_S A s.heap s.heap [] := va_S.rf
  have hP : va_P (dC, dI) vwCl [(oF, .inr (2, [.int mo, .ref oS, .int th, .int om, .int sd, .int po, .int lr, .long lv, .int (nI d)])), (oS, .inr (1, [.ref oA, .ref oB, .int (nI h)])), (oA, .inl (cA, n, .inl P)), (oB, .inl (cB, n, .inr (.inl V)))] s.heap := hP
  have hl := lv_entry ([.ref oF, .int p0]) (n := 4) (Nat.le_of_ble_eq_true rfl)
  rw [lg_entry_eq]
  generalize (lg_sl ([.ref oF, .int p0]) ++ List.replicate (4 - (lg_sl ([.ref oF, .int p0])).length) Slot.unset).toArray = ls at hl ⊢
  have hl : lv_has ls 4 [(0, .ref oF), (1, .int p0)] := hl
  refine W_name (fun Q hQ9 => ?_)
  refine lv_iload_n hx hb dX1_isTooLong_0 rfl (lv_at hl 1 rfl) ?_
  refine lv_istore_n (lv' := [(2, .int p0), (0, .ref oF), (1, .int p0)]) hx hb dX1_isTooLong_1 rfl hl (by decide) rfl (fun ls hl => ?_)
  refine lv_iconst (v := 0) hx hb dX1_isTooLong_2 (by decide) ?_
  refine lv_istore_n (lv' := [(3, .int 0), (2, .int p0), (0, .ref oF), (1, .int p0)]) hx hb dX1_isTooLong_3 rfl hl (by decide) rfl (fun ls hl => ?_)
  have loop : ∀ (k i : Nat) (ls : Array Slot) (H : Heap) (locs : List Loc), (i ≤ d) → (d + 1 ≤ i + k) → lv_has ls 4 [(3, .int (nI i)), (2, .int (cDiv p0 i)), (0, .ref oF), (1, .int p0)] → va_P (dC, dI) vwCl [(oF, .inr (2, [.int mo, .ref oS, .int th, .int om, .int sd, .int po, .int lr, .long lv, .int (nI d)])), (oS, .inr (1, [.ref oA, .ref oB, .int (nI h)])), (oA, .inl (cA, n, .inl P)), (oB, .inl (cB, n, .inr (.inl V)))] H → va_D A [(oF, .inr (2, [.int mo, .ref oS, .int th, .int om, .int sd, .int po, .int lr, .long lv, .int (nI d)])), (oS, .inr (1, [.ref oA, .ref oB, .int (nI h)])), (oA, .inl (cA, n, .inl P)), (oB, .inl (cB, n, .inr (.inl V)))] → va_S A s.heap H locs → W p l e (headSpec wsX1_isTooLong ({ frames := 0, cells := 0, slots := 0, locals := 0 })).room s m #[(Value.ref oF), (Value.int p0)] below meth c H locs 0 0 Q (F0 m 4 ls []) := by
    intro k
    induction k with
    | zero => intro i ls H locs h1 h2; exact absurd h2 (by omega)
    | succ k ih =>
      intro i ls H locs h1 h2 hl hP hD hS
      refine lv_iload_n hx hb dX1_isTooLong_4 rfl (lv_at hl 0 rfl) ?_
      refine lv_aload_n hx hb dX1_isTooLong_5 rfl (lv_at hl 2 rfl) ?_
      refine va_get (D := (dC, dI)) (ci := 2) (v := .int (nI d)) (C := RX1) (T := TX1) (N := 9) hx hb hts (by decide +kernel) hown hK hP 0 rfl rfl 8 (by decide) (hts (.fieldLink RX1 52 "RelativeFiles" "keyDigits" "I") (by decide +kernel)) (fun _ h9 => h9) rfl dX1_isTooLong_6 ?_
      refine lv_icmp_ge (tgt := 23) hx hb dX1_isTooLong_9 (by decide) (fun c_1 => ?_) (fun c_1 => ?_)
      · -- taken at 9: (nI d) ≤ (nI i)
        have e8 : i = d := by have := (nI_leI (by omega) (by omega)).mp c_1; omega
        subst e8
        refine lv_iload_n hx hb dX1_isTooLong_23 rfl (lv_at hl 1 rfl) ?_
        refine lv_if_le (tgt := 31) hx hb dX1_isTooLong_24 (by decide) (fun c_2 => ?_) (fun c_2 => ?_)
        · -- taken at 24: (cDiv p0 i) ≤ 0
          refine lv_iconst (v := 0) hx hb dX1_isTooLong_31 (by decide) ?_
          subst hQ9
          exact W.zret (ty := .boolean) (v := 0) hx hb hr (by decide) (fun t ht hW => ⟨⟨0, (), rfl, Or.inr ⟨fun q => q c_2, rfl⟩, by rw [ht]; exact hP, va_K.moved hW.alike hK, hD⟩, hS.F ht⟩) hS.2.2 dX1_isTooLong_32
        · -- not taken at 24: ¬ (cDiv p0 i) ≤ 0
          refine lv_iconst (v := 1) hx hb dX1_isTooLong_27 (by decide) ?_
          refine lv_goto (tgt := 32) hx hb dX1_isTooLong_28 (by decide) ?_
          subst hQ9
          exact W.zret (ty := .boolean) (v := 1) hx hb hr (by decide) (fun t ht hW => ⟨⟨1, (), rfl, Or.inl ⟨c_2, rfl⟩, by rw [ht]; exact hP, va_K.moved hW.alike hK, hD⟩, hS.F ht⟩) hS.2.2 dX1_isTooLong_32
      · -- not taken at 9: ¬ (nI d) ≤ (nI i)
        have hi2 : i < d := by rcases Nat.lt_or_ge i d with q | q; exact q; exact absurd (nI_le q (by omega)) c_1
        refine lv_iload_n hx hb dX1_isTooLong_12 rfl (lv_at hl 1 rfl) ?_
        refine lv_bipush (v := 10) hx hb dX1_isTooLong_13 (by decide) ?_
        refine lv_idiv hx hb dX1_isTooLong_15 (by decide) ?_
        refine W_topi (cDiv p0 (i + 1)) rfl ?_
        refine lv_istore_n (lv' := [(2, .int (cDiv p0 (i + 1))), (3, .int (nI i)), (0, .ref oF), (1, .int p0)]) hx hb dX1_isTooLong_16 rfl hl (by decide) rfl (fun ls hl => ?_)
        refine lv_iinc (v := (nI (i + 1))) (lv' := [(3, .int (nI (i + 1))), (2, .int (cDiv p0 (i + 1))), (0, .ref oF), (1, .int p0)]) hx hb dX1_isTooLong_17 hl (k := 1) rfl ((nI_succ i).symm) (by decide) rfl (fun ls hl => ?_)
        refine lv_goto (tgt := 4) hx hb dX1_isTooLong_20 (by decide) ?_
        exact ih (i + 1) ls _ _ (by omega) (by omega) (lv_sub hl [0, 1, 2, 3] rfl) hP hD hS
  exact loop (d + 1) 0  ls _ _ (Nat.zero_le d) (by omega) (by rw [nI_0]; exact hl) hP hD hS

set_option maxHeartbeats 1000000 in
set_option maxRecDepth 100000 in
theorem kX1_refusalToRead (l : Launch) (dC : Nat → ClassId) (dI : Nat → Nat → Nat) (oF oS oA oB : Nat) (cA cB : ClassId) (n h d : Nat) (mo th om sd po lr : Int32) (lv : Int64) (P : Nat → Int32) (V : Nat → Int64) (sz : Nat) (hh : h ≤ n) (hn : n ≤ 512) : Met l yX1_refusalToRead wsX1_refusalToRead ({ frames := 0, cells := 0, slots := 0, locals := 0 }) (va_Pc [.ref oF] (fun U => U.heap.size = sz ∧ va_P (dC, dI) vwCl [(oF, .inr (2, [.int mo, .ref oS, .int th, .int om, .int sd, .int po, .int lr, .long lv, .int (nI d)])), (oS, .inr (1, [.ref oA, .ref oB, .int (nI h)])), (oA, .inl (cA, n, .inl P)), (oB, .inl (cB, n, .inr (.inl V)))] U.heap ∧ va_K (dC, dI) vwCl [(cA, .int), (cB, .long)] U ∧ va_D (fun _ => True) [(oF, .inr (2, [.int mo, .ref oS, .int th, .int om, .int sd, .int po, .int lr, .long lv, .int (nI d)])), (oS, .inr (1, [.ref oA, .ref oB, .int (nI h)])), (oA, .inl (cA, n, .inl P)), (oB, .inl (cB, n, .inr (.inl V)))])) (va_Qi (fun (r : Int32) (_ : Unit) => r = fRef om) (fun (_ : Unit) (t : State) => va_P (dC, dI) vwCl [(oF, .inr (2, [.int mo, .ref oS, .int th, .int om, .int sd, .int po, .int lr, .long lv, .int (nI d)])), (oS, .inr (1, [.ref oA, .ref oB, .int (nI h)])), (oA, .inl (cA, n, .inl P)), (oB, .inl (cB, n, .inr (.inl V)))] t.heap ∧ va_K (dC, dI) vwCl [(cA, .int), (cB, .long)] t ∧ va_D (va_A [(oF, .inr (2, [.int mo, .ref oS, .int th, .int om, .int sd, .int po, .int lr, .long lv, .int (nI d)])), (oS, .inr (1, [.ref oA, .ref oB, .int (nI h)])), (oA, .inl (cA, n, .inl P)), (oB, .inl (cB, n, .inr (.inl V)))] sz) [(oF, .inr (2, [.int mo, .ref oS, .int th, .int om, .int sd, .int po, .int lr, .long lv, .int (nI d)])), (oS, .inr (1, [.ref oA, .ref oB, .int (nI h)])), (oA, .inl (cA, n, .inl P)), (oB, .inl (cB, n, .inr (.inl V)))]) (va_A [(oF, .inr (2, [.int mo, .ref oS, .int th, .int om, .int sd, .int po, .int lr, .long lv, .int (nI d)])), (oS, .inr (1, [.ref oA, .ref oB, .int (nI h)])), (oA, .inl (cA, n, .inl P)), (oB, .inl (cB, n, .inr (.inl V)))] sz)) 0 0 (va_A [(oF, .inr (2, [.int mo, .ref oS, .int th, .int om, .int sd, .int po, .int lr, .long lv, .int (nI d)])), (oS, .inr (1, [.ref oA, .ref oB, .int (nI h)])), (oA, .inl (cA, n, .inl P)), (oB, .inl (cB, n, .inr (.inl V)))] sz) := by
  refine Met.ofW (cc := cX1_refusalToRead) (maxL := 1) (ret := (some .int)) (by decide) rfl ?_
  intro p e s m args below meth c s₁ B hml hv
  obtain ⟨rfl, hsz, hP, hK, hD0⟩ := hv
  have hx := B.exec
  have hb := B.bytes
  have hr := B.returns
  have hts := atoms_spec (ws := wsX1_refusalToRead) B.pre
  have hown : s.vm.findClass RX1 = some m.cls := findClass_of_methodNamed B.named
  have hlocks := B.notSynchronized
  subst hsz
  have hD := hD0.self (sz := s.heap.size)
  generalize hAe : va_A [(oF, .inr (2, [.int mo, .ref oS, .int th, .int om, .int sd, .int po, .int lr, .long lv, .int (nI d)])), (oS, .inr (1, [.ref oA, .ref oB, .int (nI h)])), (oA, .inl (cA, n, .inl P)), (oB, .inl (cB, n, .inr (.inl V)))] s.heap.size = A at hD ⊢
  have hA : ∀ q : Nat, s.heap.size ≤ q → A q := fun q h => by rw [← hAe]; exact Or.inr h
  have hS : va_S A s.heap s.heap [] := va_S.rf
  have hP : va_P (dC, dI) vwCl [(oF, .inr (2, [.int mo, .ref oS, .int th, .int om, .int sd, .int po, .int lr, .long lv, .int (nI d)])), (oS, .inr (1, [.ref oA, .ref oB, .int (nI h)])), (oA, .inl (cA, n, .inl P)), (oB, .inl (cB, n, .inr (.inl V)))] s.heap := hP
  have hl := lv_entry ([.ref oF]) (n := 1) (Nat.le_of_ble_eq_true rfl)
  rw [lg_entry_eq]
  generalize (lg_sl ([.ref oF]) ++ List.replicate (1 - (lg_sl ([.ref oF])).length) Slot.unset).toArray = ls at hl ⊢
  have hl : lv_has ls 1 [(0, .ref oF)] := hl
  refine W_name (fun Q hQ9 => ?_)
  refine lv_aload_n hx hb dX1_refusalToRead_0 rfl (lv_at hl 0 rfl) ?_
  refine va_get (D := (dC, dI)) (ci := 2) (v := .int om) (C := RX1) (T := TX1) (N := 9) hx hb hts (by decide +kernel) hown hK hP 0 rfl rfl 3 (by decide) (hts (.fieldLink RX1 36 "RelativeFiles" "openMode" "I") (by decide +kernel)) (fun _ h9 => h9) rfl dX1_refusalToRead_1 ?_
  refine lv_iconst (v := (-1)) hx hb dX1_refusalToRead_4 (by decide) ?_
  refine lv_icmp_ne (tgt := 11) hx hb dX1_refusalToRead_5 (by decide) (fun c_1 => ?_) (fun c_1 => ?_)
  · -- taken at 5: ¬ om = (-1)
    refine lv_aload_n hx hb dX1_refusalToRead_11 rfl (lv_at hl 0 rfl) ?_
    refine va_get (D := (dC, dI)) (ci := 2) (v := .int om) (C := RX1) (T := TX1) (N := 9) hx hb hts (by decide +kernel) hown hK hP 0 rfl rfl 3 (by decide) (hts (.fieldLink RX1 36 "RelativeFiles" "openMode" "I") (by decide +kernel)) (fun _ h9 => h9) rfl dX1_refusalToRead_12 ?_
    refine lv_if_eq (tgt := 26) hx hb dX1_refusalToRead_15 (by decide) (fun c_2 => ?_) (fun c_2 => ?_)
    · -- taken at 15: om = 0
      refine lv_iconst (v := 0) hx hb dX1_refusalToRead_26 (by decide) ?_
      refine lv_goto (tgt := 32) hx hb dX1_refusalToRead_27 (by decide) ?_
      subst hQ9
      have e9 : fRef om = 0 := by simp only [fRef, if_neg c_1, if_pos c_2]
      rw [e9]
      exact W.iret (v := 0) hx hb hr (fun t ht hW => ⟨⟨0, (), rfl, rfl, by rw [ht]; exact hP, va_K.moved hW.alike hK, hD⟩, hS.F ht⟩) hS.2.2 dX1_refusalToRead_32
    · -- not taken at 15: ¬ om = 0
      refine lv_aload_n hx hb dX1_refusalToRead_18 rfl (lv_at hl 0 rfl) ?_
      refine va_get (D := (dC, dI)) (ci := 2) (v := .int om) (C := RX1) (T := TX1) (N := 9) hx hb hts (by decide +kernel) hown hK hP 0 rfl rfl 3 (by decide) (hts (.fieldLink RX1 36 "RelativeFiles" "openMode" "I") (by decide +kernel)) (fun _ h9 => h9) rfl dX1_refusalToRead_19 ?_
      refine lv_iconst (v := 2) hx hb dX1_refusalToRead_22 (by decide) ?_
      refine lv_icmp_ne (tgt := 30) hx hb dX1_refusalToRead_23 (by decide) (fun c_3 => ?_) (fun c_3 => ?_)
      · -- taken at 23: ¬ om = 2
        refine lv_bipush (v := 47) hx hb dX1_refusalToRead_30 (by decide) ?_
        subst hQ9
        have e9 : fRef om = 47 := by simp only [fRef, if_neg c_1, if_neg c_2, if_neg c_3]
        rw [e9]
        exact W.iret (v := 47) hx hb hr (fun t ht hW => ⟨⟨47, (), rfl, rfl, by rw [ht]; exact hP, va_K.moved hW.alike hK, hD⟩, hS.F ht⟩) hS.2.2 dX1_refusalToRead_32
      · -- not taken at 23: om = 2
        refine lv_iconst (v := 0) hx hb dX1_refusalToRead_26 (by decide) ?_
        refine lv_goto (tgt := 32) hx hb dX1_refusalToRead_27 (by decide) ?_
        subst hQ9
        have e9 : fRef om = 0 := by simp only [fRef, if_neg c_1, if_neg c_2, if_pos c_3]
        rw [e9]
        exact W.iret (v := 0) hx hb hr (fun t ht hW => ⟨⟨0, (), rfl, rfl, by rw [ht]; exact hP, va_K.moved hW.alike hK, hD⟩, hS.F ht⟩) hS.2.2 dX1_refusalToRead_32
  · -- not taken at 5: om = (-1)
    refine lv_bipush (v := 42) hx hb dX1_refusalToRead_8 (by decide) ?_
    subst hQ9
    have e9 : fRef om = 42 := by simp only [fRef, if_pos c_1]
    rw [e9]
    exact W.iret (v := 42) hx hb hr (fun t ht hW => ⟨⟨42, (), rfl, rfl, by rw [ht]; exact hP, va_K.moved hW.alike hK, hD⟩, hS.F ht⟩) hS.2.2 dX1_refusalToRead_10

set_option maxHeartbeats 1000000 in
set_option maxRecDepth 100000 in
theorem kX1_placeToChange (l : Launch) (dC : Nat → ClassId) (dI : Nat → Nat → Nat) (oF oS oA oB : Nat) (cA cB : ClassId) (n h d : Nat) (mo th om sd po lr : Int32) (lv : Int64) (P : Nat → Int32) (V : Nat → Int64) (p0 : Int32) (sz : Nat) (hh : h ≤ n) (hn : n ≤ 512) : Met l yX1_placeToChange wsX1_placeToChange ({ frames := 0, cells := 0, slots := 0, locals := 0 }) (va_Pc [.ref oF, .int p0] (fun U => U.heap.size = sz ∧ va_P (dC, dI) vwCl [(oF, .inr (2, [.int mo, .ref oS, .int th, .int om, .int sd, .int po, .int lr, .long lv, .int (nI d)])), (oS, .inr (1, [.ref oA, .ref oB, .int (nI h)])), (oA, .inl (cA, n, .inl P)), (oB, .inl (cB, n, .inr (.inl V)))] U.heap ∧ va_K (dC, dI) vwCl [(cA, .int), (cB, .long)] U ∧ va_D (fun _ => True) [(oF, .inr (2, [.int mo, .ref oS, .int th, .int om, .int sd, .int po, .int lr, .long lv, .int (nI d)])), (oS, .inr (1, [.ref oA, .ref oB, .int (nI h)])), (oA, .inl (cA, n, .inl P)), (oB, .inl (cB, n, .inr (.inl V)))])) (va_Qi (fun (r : Int32) (_ : Unit) => r = fPC lr p0) (fun (_ : Unit) (t : State) => va_P (dC, dI) vwCl [(oF, .inr (2, [.int mo, .ref oS, .int th, .int om, .int sd, .int po, .int lr, .long lv, .int (nI d)])), (oS, .inr (1, [.ref oA, .ref oB, .int (nI h)])), (oA, .inl (cA, n, .inl P)), (oB, .inl (cB, n, .inr (.inl V)))] t.heap ∧ va_K (dC, dI) vwCl [(cA, .int), (cB, .long)] t ∧ va_D (va_A [(oF, .inr (2, [.int mo, .ref oS, .int th, .int om, .int sd, .int po, .int lr, .long lv, .int (nI d)])), (oS, .inr (1, [.ref oA, .ref oB, .int (nI h)])), (oA, .inl (cA, n, .inl P)), (oB, .inl (cB, n, .inr (.inl V)))] sz) [(oF, .inr (2, [.int mo, .ref oS, .int th, .int om, .int sd, .int po, .int lr, .long lv, .int (nI d)])), (oS, .inr (1, [.ref oA, .ref oB, .int (nI h)])), (oA, .inl (cA, n, .inl P)), (oB, .inl (cB, n, .inr (.inl V)))]) (va_A [(oF, .inr (2, [.int mo, .ref oS, .int th, .int om, .int sd, .int po, .int lr, .long lv, .int (nI d)])), (oS, .inr (1, [.ref oA, .ref oB, .int (nI h)])), (oA, .inl (cA, n, .inl P)), (oB, .inl (cB, n, .inr (.inl V)))] sz)) 0 0 (va_A [(oF, .inr (2, [.int mo, .ref oS, .int th, .int om, .int sd, .int po, .int lr, .long lv, .int (nI d)])), (oS, .inr (1, [.ref oA, .ref oB, .int (nI h)])), (oA, .inl (cA, n, .inl P)), (oB, .inl (cB, n, .inr (.inl V)))] sz) := by
  refine Met.ofW (cc := cX1_placeToChange) (maxL := 2) (ret := (some .int)) (by decide) rfl ?_
  intro p e s m args below meth c s₁ B hml hv
  obtain ⟨rfl, hsz, hP, hK, hD0⟩ := hv
  have hx := B.exec
  have hb := B.bytes
  have hr := B.returns
  have hts := atoms_spec (ws := wsX1_placeToChange) B.pre
  have hown : s.vm.findClass RX1 = some m.cls := findClass_of_methodNamed B.named
  have hlocks := B.notSynchronized
  subst hsz
  have hD := hD0.self (sz := s.heap.size)
  generalize hAe : va_A [(oF, .inr (2, [.int mo, .ref oS, .int th, .int om, .int sd, .int po, .int lr, .long lv, .int (nI d)])), (oS, .inr (1, [.ref oA, .ref oB, .int (nI h)])), (oA, .inl (cA, n, .inl P)), (oB, .inl (cB, n, .inr (.inl V)))] s.heap.size = A at hD ⊢
  have hA : ∀ q : Nat, s.heap.size ≤ q → A q := fun q h => by rw [← hAe]; exact Or.inr h
  have hS : va_S A s.heap s.heap [] := va_S.rf
  have hP : va_P (dC, dI) vwCl [(oF, .inr (2, [.int mo, .ref oS, .int th, .int om, .int sd, .int po, .int lr, .long lv, .int (nI d)])), (oS, .inr (1, [.ref oA, .ref oB, .int (nI h)])), (oA, .inl (cA, n, .inl P)), (oB, .inl (cB, n, .inr (.inl V)))] s.heap := hP
  have hl := lv_entry ([.ref oF, .int p0]) (n := 2) (Nat.le_of_ble_eq_true rfl)
  rw [lg_entry_eq]
  generalize (lg_sl ([.ref oF, .int p0]) ++ List.replicate (2 - (lg_sl ([.ref oF, .int p0])).length) Slot.unset).toArray = ls at hl ⊢
  have hl : lv_has ls 2 [(0, .ref oF), (1, .int p0)] := hl
  refine W_name (fun Q hQ9 => ?_)
  refine lv_iload_n hx hb dX1_placeToChange_0 rfl (lv_at hl 1 rfl) ?_
  refine lv_iconst (v := (-1)) hx hb dX1_placeToChange_1 (by decide) ?_
  refine lv_icmp_ne (tgt := 12) hx hb dX1_placeToChange_2 (by decide) (fun c_1 => ?_) (fun c_1 => ?_)
  · -- taken at 2: ¬ p0 = (-1)
    refine lv_iload_n hx hb dX1_placeToChange_12 rfl (lv_at hl 1 rfl) ?_
    subst hQ9
    have e9 : fPC lr p0 = p0 := by simp only [fPC, if_neg c_1]
    rw [e9]
    exact W.iret (v := p0) hx hb hr (fun t ht hW => ⟨⟨p0, (), rfl, rfl, by rw [ht]; exact hP, va_K.moved hW.alike hK, hD⟩, hS.F ht⟩) hS.2.2 dX1_placeToChange_13
  · -- not taken at 2: p0 = (-1)
    refine lv_aload_n hx hb dX1_placeToChange_5 rfl (lv_at hl 0 rfl) ?_
    refine va_get (D := (dC, dI)) (ci := 2) (v := .int lr) (C := RX1) (T := TX1) (N := 9) hx hb hts (by decide +kernel) hown hK hP 0 rfl rfl 6 (by decide) (hts (.fieldLink RX1 45 "RelativeFiles" "lastRead" "I") (by decide +kernel)) (fun _ h9 => h9) rfl dX1_placeToChange_6 ?_
    refine lv_goto (tgt := 13) hx hb dX1_placeToChange_9 (by decide) ?_
    subst hQ9
    have e9 : fPC lr p0 = lr := by simp only [fPC, if_pos c_1]
    rw [e9]
    exact W.iret (v := lr) hx hb hr (fun t ht hW => ⟨⟨lr, (), rfl, rfl, by rw [ht]; exact hP, va_K.moved hW.alike hK, hD⟩, hS.F ht⟩) hS.2.2 dX1_placeToChange_13

set_option maxHeartbeats 1000000 in
set_option maxRecDepth 100000 in
theorem kX1_placeInOrder (l : Launch) (dC : Nat → ClassId) (dI : Nat → Nat → Nat) (oF oS oA oB : Nat) (cA cB : ClassId) (n h d : Nat) (mo th om sd po lr : Int32) (lv : Int64) (P : Nat → Int32) (V : Nat → Int64) (sz : Nat) (hh : h ≤ n) (hn : n ≤ 512) : Met l yX1_placeInOrder wsX1_placeInOrder ({ frames := 2, cells := 0, slots := 0, locals := 41 }) (va_Pc [.ref oF] (fun U => U.heap.size = sz ∧ va_P (dC, dI) vwCl [(oF, .inr (2, [.int mo, .ref oS, .int th, .int om, .int sd, .int po, .int lr, .long lv, .int (nI d)])), (oS, .inr (1, [.ref oA, .ref oB, .int (nI h)])), (oA, .inl (cA, n, .inl P)), (oB, .inl (cB, n, .inr (.inl V)))] U.heap ∧ va_K (dC, dI) vwCl [(cA, .int), (cB, .long)] U ∧ va_D (fun _ => True) [(oF, .inr (2, [.int mo, .ref oS, .int th, .int om, .int sd, .int po, .int lr, .long lv, .int (nI d)])), (oS, .inr (1, [.ref oA, .ref oB, .int (nI h)])), (oA, .inl (cA, n, .inl P)), (oB, .inl (cB, n, .inr (.inl V)))])) (va_Qi (fun (r : Int32) (_ : Unit) => r = fPO om P h) (fun (_ : Unit) (t : State) => va_P (dC, dI) vwCl [(oF, .inr (2, [.int mo, .ref oS, .int th, .int om, .int sd, .int po, .int lr, .long lv, .int (nI d)])), (oS, .inr (1, [.ref oA, .ref oB, .int (nI h)])), (oA, .inl (cA, n, .inl P)), (oB, .inl (cB, n, .inr (.inl V)))] t.heap ∧ va_K (dC, dI) vwCl [(cA, .int), (cB, .long)] t ∧ va_D (va_A [(oF, .inr (2, [.int mo, .ref oS, .int th, .int om, .int sd, .int po, .int lr, .long lv, .int (nI d)])), (oS, .inr (1, [.ref oA, .ref oB, .int (nI h)])), (oA, .inl (cA, n, .inl P)), (oB, .inl (cB, n, .inr (.inl V)))] sz) [(oF, .inr (2, [.int mo, .ref oS, .int th, .int om, .int sd, .int po, .int lr, .long lv, .int (nI d)])), (oS, .inr (1, [.ref oA, .ref oB, .int (nI h)])), (oA, .inl (cA, n, .inl P)), (oB, .inl (cB, n, .inr (.inl V)))]) (va_A [(oF, .inr (2, [.int mo, .ref oS, .int th, .int om, .int sd, .int po, .int lr, .long lv, .int (nI d)])), (oS, .inr (1, [.ref oA, .ref oB, .int (nI h)])), (oA, .inl (cA, n, .inl P)), (oB, .inl (cB, n, .inr (.inl V)))] sz)) 0 0 (va_A [(oF, .inr (2, [.int mo, .ref oS, .int th, .int om, .int sd, .int po, .int lr, .long lv, .int (nI d)])), (oS, .inr (1, [.ref oA, .ref oB, .int (nI h)])), (oA, .inl (cA, n, .inl P)), (oB, .inl (cB, n, .inr (.inl V)))] sz) := by
  refine Met.ofW (cc := cX1_placeInOrder) (maxL := 1) (ret := (some .int)) (by decide) rfl ?_
  intro p e s m args below meth c s₁ B hml hv
  obtain ⟨rfl, hsz, hP, hK, hD0⟩ := hv
  have hx := B.exec
  have hb := B.bytes
  have hr := B.returns
  have hts := atoms_spec (ws := wsX1_placeInOrder) B.pre
  have hown : s.vm.findClass RX1 = some m.cls := findClass_of_methodNamed B.named
  have hlocks := B.notSynchronized
  subst hsz
  have hD := hD0.self (sz := s.heap.size)
  generalize hAe : va_A [(oF, .inr (2, [.int mo, .ref oS, .int th, .int om, .int sd, .int po, .int lr, .long lv, .int (nI d)])), (oS, .inr (1, [.ref oA, .ref oB, .int (nI h)])), (oA, .inl (cA, n, .inl P)), (oB, .inl (cB, n, .inr (.inl V)))] s.heap.size = A at hD ⊢
  have hA : ∀ q : Nat, s.heap.size ≤ q → A q := fun q h => by rw [← hAe]; exact Or.inr h
  have hS : va_S A s.heap s.heap [] := va_S.rf
  have hP : va_P (dC, dI) vwCl [(oF, .inr (2, [.int mo, .ref oS, .int th, .int om, .int sd, .int po, .int lr, .long lv, .int (nI d)])), (oS, .inr (1, [.ref oA, .ref oB, .int (nI h)])), (oA, .inl (cA, n, .inl P)), (oB, .inl (cB, n, .inr (.inl V)))] s.heap := hP
  have hl := lv_entry ([.ref oF]) (n := 1) (Nat.le_of_ble_eq_true rfl)
  rw [lg_entry_eq]
  generalize (lg_sl ([.ref oF]) ++ List.replicate (1 - (lg_sl ([.ref oF])).length) Slot.unset).toArray = ls at hl ⊢
  have hl : lv_has ls 1 [(0, .ref oF)] := hl
  refine W_name (fun Q hQ9 => ?_)
  refine lv_aload_n hx hb dX1_placeInOrder_0 rfl (lv_at hl 0 rfl) ?_
  refine va_get (D := (dC, dI)) (ci := 2) (v := .int om) (C := RX1) (T := TX1) (N := 9) hx hb hts (by decide +kernel) hown hK hP 0 rfl rfl 3 (by decide) (hts (.fieldLink RX1 36 "RelativeFiles" "openMode" "I") (by decide +kernel)) (fun _ h9 => h9) rfl dX1_placeInOrder_1 ?_
  refine lv_iconst (v := 2) hx hb dX1_placeInOrder_4 (by decide) ?_
  refine lv_icmp_ne (tgt := 12) hx hb dX1_placeInOrder_5 (by decide) (fun c_1 => ?_) (fun c_1 => ?_)
  · -- taken at 5: ¬ om = 2
    refine lv_aload_n hx hb dX1_placeInOrder_12 rfl (lv_at hl 0 rfl) ?_
    refine va_get (D := (dC, dI)) (ci := 2) (v := .ref oS) (C := RX1) (T := TX1) (N := 9) hx hb hts (by decide +kernel) hown hK hP 0 rfl rfl 1 (by decide) (hts (.fieldLink RX1 28 "RelativeFiles" "shelf" "LRelativeFiles$Shelf;") (by decide +kernel)) (fun _ h9 => h9) rfl dX1_placeInOrder_13 ?_
    have hPc := hP.sub (ws' := [(oS, .inr (1, [.ref oA, .ref oB, .int (nI h)])), (oA, .inl (cA, n, .inl P)), (oB, .inl (cB, n, .inr (.inl V)))]) [1, 2, 3] rfl
    have hDc := hD.sub (ws' := [(oS, .inr (1, [.ref oA, .ref oB, .int (nI h)])), (oA, .inl (cA, n, .inl P)), (oB, .inl (cB, n, .inr (.inl V)))]) [1, 2, 3] (by decide) rfl
    have hKc := hK.sub (tys' := [(cA, .int), (cB, .long)]) [0, 1] rfl
    have hFc := va_free (wc := [(oS, .inr (1, [.ref oA, .ref oB, .int (nI h)])), (oA, .inl (cA, n, .inl P)), (oB, .inl (cB, n, .inr (.inl V)))]) hD hS hA [1, 2, 3] rfl
    refine va_calli (va_runV (As := []) (rest := []) ⟨hx, hb, hml, hown, hts⟩ (kX0_greatest l dC dI oS oA oB cA cB n h P V  s.heap.size hh hn) (cwV 0 hts gX1_placeInOrder_X0_greatest rfl rfl rfl (by decide +kernel) ⟨Nat.le_of_ble_eq_true rfl, Nat.le_of_ble_eq_true rfl⟩) ⟨fun a U g mk q => by obtain ⟨q0, q1, qP, qK, qD⟩ := q; exact ⟨q0, q1, qP, va_K.moved (u := U) (U := U.calling g mk a) (Vm.Alike.refl U.vm) qK, qD⟩, va_recv hKc hPc (ci := 1) (q0 := 0) rfl rfl, fun U hU hW => ⟨rfl, by rw [hU], by rw [hU]; exact hPc, va_K.moved hW.alike hKc, hDc.weaken (fun _ _ _ _ => trivial)⟩⟩ rfl rfl hl.1 rfl (lv_room (Nat.le_of_ble_eq_true rfl)) dX1_placeInOrder_16 ⟨Nat.le_of_ble_eq_true rfl, Nat.le_of_ble_eq_true rfl⟩) hS (fun q _ h => hFc q h) hFc (fun r_2 u t H1 locs ht hvm hw hB hz1 hk1 hS => ?_)
    obtain ⟨hP1, hK1, hD1⟩ := hB
    rw [ht] at hP1
    have hK1 := va_K.moved hvm.symm hK1
    try dsimp only at hw
    obtain ⟨hP, hD⟩ := va_join (wr := [(oF, .inr (2, [.int mo, .ref oS, .int th, .int om, .int sd, .int po, .int lr, .long lv, .int (nI d)]))]) (w1 := [(oS, .inr (1, [.ref oA, .ref oB, .int (nI h)])), (oA, .inl (cA, n, .inl P)), (oB, .inl (cB, n, .inr (.inl V)))]) hP hD [1, 2, 3] [0] rfl rfl (by decide) (by decide) hk1 hFc hP1 hD1
    generalize H1 = H at hP hS ⊢
    have hP : va_P (dC, dI) vwCl [(oF, .inr (2, [.int mo, .ref oS, .int th, .int om, .int sd, .int po, .int lr, .long lv, .int (nI d)])), (oS, .inr (1, [.ref oA, .ref oB, .int (nI h)])), (oA, .inl (cA, n, .inl P)), (oB, .inl (cB, n, .inr (.inl V)))] H := hP.sub [0, 1, 2, 3] rfl
    have hD : va_D A [(oF, .inr (2, [.int mo, .ref oS, .int th, .int om, .int sd, .int po, .int lr, .long lv, .int (nI d)])), (oS, .inr (1, [.ref oA, .ref oB, .int (nI h)])), (oA, .inl (cA, n, .inl P)), (oB, .inl (cB, n, .inr (.inl V)))] := hD.sub [0, 1, 2, 3] (by decide) rfl
    have hK : va_K (dC, dI) vwCl [(cA, .int), (cB, .long)] s := hK
    subst hw
    refine lv_iconst (v := 1) hx hb dX1_placeInOrder_19 (by decide) ?_
    refine lv_iadd hx hb dX1_placeInOrder_20 ?_
    subst hQ9
    have e9 : fPO om P h = (fGr P h) + 1 := by simp only [fPO, if_neg c_1]
    rw [e9]
    exact W.iret (v := (fGr P h) + 1) hx hb hr (fun t ht hW => ⟨⟨(fGr P h) + 1, (), rfl, rfl, by rw [ht]; exact hP, va_K.moved hW.alike hK, hD⟩, hS.F ht⟩) hS.2.2 dX1_placeInOrder_21
  · -- not taken at 5: om = 2
    refine lv_iconst (v := 0) hx hb dX1_placeInOrder_8 (by decide) ?_
    refine lv_goto (tgt := 21) hx hb dX1_placeInOrder_9 (by decide) ?_
    subst hQ9
    have e9 : fPO om P h = 0 := by simp only [fPO, if_pos c_1]
    rw [e9]
    exact W.iret (v := 0) hx hb hr (fun t ht hW => ⟨⟨0, (), rfl, rfl, by rw [ht]; exact hP, va_K.moved hW.alike hK, hD⟩, hS.F ht⟩) hS.2.2 dX1_placeInOrder_21

set_option maxHeartbeats 1000000 in
set_option maxRecDepth 100000 in
theorem kX1_statusOfChange (l : Launch) (dC : Nat → ClassId) (dI : Nat → Nat → Nat) (oF oS oA oB : Nat) (cA cB : ClassId) (n h d : Nat) (mo th om sd po lr : Int32) (lv : Int64) (P : Nat → Int32) (V : Nat → Int64) (p0 p1 : Int32) (sz : Nat) (hh : h ≤ n) (hn : n ≤ 512) : Met l yX1_statusOfChange wsX1_statusOfChange ({ frames := 2, cells := 0, slots := 0, locals := 43 }) (va_Pc [.ref oF, .int p0, .int p1] (fun U => U.heap.size = sz ∧ va_P (dC, dI) vwCl [(oF, .inr (2, [.int mo, .ref oS, .int th, .int om, .int sd, .int po, .int lr, .long lv, .int (nI d)])), (oS, .inr (1, [.ref oA, .ref oB, .int (nI h)])), (oA, .inl (cA, n, .inl P)), (oB, .inl (cB, n, .inr (.inl V)))] U.heap ∧ va_K (dC, dI) vwCl [(cA, .int), (cB, .long)] U ∧ va_D (fun _ => True) [(oF, .inr (2, [.int mo, .ref oS, .int th, .int om, .int sd, .int po, .int lr, .long lv, .int (nI d)])), (oS, .inr (1, [.ref oA, .ref oB, .int (nI h)])), (oA, .inl (cA, n, .inl P)), (oB, .inl (cB, n, .inr (.inl V)))])) (va_Qi (fun (r : Int32) (_ : Unit) => r = fSC om P h p0 p1) (fun (_ : Unit) (t : State) => va_P (dC, dI) vwCl [(oF, .inr (2, [.int mo, .ref oS, .int th, .int om, .int sd, .int po, .int (fSL om lr), .long lv, .int (nI d)])), (oS, .inr (1, [.ref oA, .ref oB, .int (nI h)])), (oA, .inl (cA, n, .inl P)), (oB, .inl (cB, n, .inr (.inl V)))] t.heap ∧ va_K (dC, dI) vwCl [(cA, .int), (cB, .long)] t ∧ va_D (va_A [(oF, .inr (2, [.int mo, .ref oS, .int th, .int om, .int sd, .int po, .int lr, .long lv, .int (nI d)])), (oS, .inr (1, [.ref oA, .ref oB, .int (nI h)])), (oA, .inl (cA, n, .inl P)), (oB, .inl (cB, n, .inr (.inl V)))] sz) [(oF, .inr (2, [.int mo, .ref oS, .int th, .int om, .int sd, .int po, .int (fSL om lr), .long lv, .int (nI d)])), (oS, .inr (1, [.ref oA, .ref oB, .int (nI h)])), (oA, .inl (cA, n, .inl P)), (oB, .inl (cB, n, .inr (.inl V)))]) (va_A [(oF, .inr (2, [.int mo, .ref oS, .int th, .int om, .int sd, .int po, .int lr, .long lv, .int (nI d)])), (oS, .inr (1, [.ref oA, .ref oB, .int (nI h)])), (oA, .inl (cA, n, .inl P)), (oB, .inl (cB, n, .inr (.inl V)))] sz)) 0 0 (va_A [(oF, .inr (2, [.int mo, .ref oS, .int th, .int om, .int sd, .int po, .int lr, .long lv, .int (nI d)])), (oS, .inr (1, [.ref oA, .ref oB, .int (nI h)])), (oA, .inl (cA, n, .inl P)), (oB, .inl (cB, n, .inr (.inl V)))] sz) := by
  refine Met.ofW (cc := cX1_statusOfChange) (maxL := 3) (ret := (some .int)) (by decide) rfl ?_
  intro p e s m args below meth c s₁ B hml hv
  obtain ⟨rfl, hsz, hP, hK, hD0⟩ := hv
  have hx := B.exec
  have hb := B.bytes
  have hr := B.returns
  have hts := atoms_spec (ws := wsX1_statusOfChange) B.pre
  have hown : s.vm.findClass RX1 = some m.cls := findClass_of_methodNamed B.named
  have hlocks := B.notSynchronized
  subst hsz
  have hD := hD0.self (sz := s.heap.size)
  generalize hAe : va_A [(oF, .inr (2, [.int mo, .ref oS, .int th, .int om, .int sd, .int po, .int lr, .long lv, .int (nI d)])), (oS, .inr (1, [.ref oA, .ref oB, .int (nI h)])), (oA, .inl (cA, n, .inl P)), (oB, .inl (cB, n, .inr (.inl V)))] s.heap.size = A at hD ⊢
  have hA : ∀ q : Nat, s.heap.size ≤ q → A q := fun q h => by rw [← hAe]; exact Or.inr h
  have hS : va_S A s.heap s.heap [] := va_S.rf
  have hP : va_P (dC, dI) vwCl [(oF, .inr (2, [.int mo, .ref oS, .int th, .int om, .int sd, .int po, .int lr, .long lv, .int (nI d)])), (oS, .inr (1, [.ref oA, .ref oB, .int (nI h)])), (oA, .inl (cA, n, .inl P)), (oB, .inl (cB, n, .inr (.inl V)))] s.heap := hP
  have hl := lv_entry ([.ref oF, .int p0, .int p1]) (n := 3) (Nat.le_of_ble_eq_true rfl)
  rw [lg_entry_eq]
  generalize (lg_sl ([.ref oF, .int p0, .int p1]) ++ List.replicate (3 - (lg_sl ([.ref oF, .int p0, .int p1])).length) Slot.unset).toArray = ls at hl ⊢
  have hl : lv_has ls 3 [(0, .ref oF), (1, .int p0), (2, .int p1)] := hl
  refine W_name (fun Q hQ9 => ?_)
  refine lv_aload_n hx hb dX1_statusOfChange_0 rfl (lv_at hl 0 rfl) ?_
  refine va_get (D := (dC, dI)) (ci := 2) (v := .int om) (C := RX1) (T := TX1) (N := 9) hx hb hts (by decide +kernel) hown hK hP 0 rfl rfl 3 (by decide) (hts (.fieldLink RX1 36 "RelativeFiles" "openMode" "I") (by decide +kernel)) (fun _ h9 => h9) rfl dX1_statusOfChange_1 ?_
  refine lv_iconst (v := (-1)) hx hb dX1_statusOfChange_4 (by decide) ?_
  refine lv_icmp_ne (tgt := 11) hx hb dX1_statusOfChange_5 (by decide) (fun c_1 => ?_) (fun c_1 => ?_)
  · -- taken at 5: ¬ om = (-1)
    refine lv_aload_n hx hb dX1_statusOfChange_11 rfl (lv_at hl 0 rfl) ?_
    refine va_get (D := (dC, dI)) (ci := 2) (v := .int om) (C := RX1) (T := TX1) (N := 9) hx hb hts (by decide +kernel) hown hK hP 0 rfl rfl 3 (by decide) (hts (.fieldLink RX1 36 "RelativeFiles" "openMode" "I") (by decide +kernel)) (fun _ h9 => h9) rfl dX1_statusOfChange_12 ?_
    refine lv_iconst (v := 2) hx hb dX1_statusOfChange_15 (by decide) ?_
    refine lv_icmp_eq (tgt := 22) hx hb dX1_statusOfChange_16 (by decide) (fun c_2 => ?_) (fun c_2 => ?_)
    · -- taken at 16: om = 2
      refine lv_aload_n hx hb dX1_statusOfChange_22 rfl (lv_at hl 0 rfl) ?_
      refine lv_iconst (v := 0) hx hb dX1_statusOfChange_23 (by decide) ?_
      refine va_put (D := (dC, dI)) (ci := 2) (v := .int 0) (ty := .int) (C := RX1) (T := TX1) (N := 9) hx hb hts (by decide +kernel) tyX1 tyX1_ok nmX1 hown hK hP hD hS 0 rfl rfl 6 (by decide) (hts (.fieldLink RX1 45 "RelativeFiles" "lastRead" "I") (by decide +kernel)) (fun _ h9 => h9) rfl (by decide +kernel) rfl rfl (Nat.le_of_ble_eq_true rfl) dX1_statusOfChange_24 (fun H locs hP hD hS => ?_)
      have hP : va_P (dC, dI) vwCl [(oF, .inr (2, [.int mo, .ref oS, .int th, .int om, .int sd, .int po, .int 0, .long lv, .int (nI d)])), (oS, .inr (1, [.ref oA, .ref oB, .int (nI h)])), (oA, .inl (cA, n, .inl P)), (oB, .inl (cB, n, .inr (.inl V)))] H := hP
      have hD : va_D A [(oF, .inr (2, [.int mo, .ref oS, .int th, .int om, .int sd, .int po, .int 0, .long lv, .int (nI d)])), (oS, .inr (1, [.ref oA, .ref oB, .int (nI h)])), (oA, .inl (cA, n, .inl P)), (oB, .inl (cB, n, .inr (.inl V)))] := hD
      refine lv_aload_n hx hb dX1_statusOfChange_27 rfl (lv_at hl 0 rfl) ?_
      refine va_get (D := (dC, dI)) (ci := 2) (v := .ref oS) (C := RX1) (T := TX1) (N := 9) hx hb hts (by decide +kernel) hown hK hP 0 rfl rfl 1 (by decide) (hts (.fieldLink RX1 28 "RelativeFiles" "shelf" "LRelativeFiles$Shelf;") (by decide +kernel)) (fun _ h9 => h9) rfl dX1_statusOfChange_28 ?_
      refine lv_iload_n hx hb dX1_statusOfChange_31 rfl (lv_at hl 2 rfl) ?_
      have hPc := hP.sub (ws' := [(oS, .inr (1, [.ref oA, .ref oB, .int (nI h)])), (oA, .inl (cA, n, .inl P)), (oB, .inl (cB, n, .inr (.inl V)))]) [1, 2, 3] rfl
      have hDc := hD.sub (ws' := [(oS, .inr (1, [.ref oA, .ref oB, .int (nI h)])), (oA, .inl (cA, n, .inl P)), (oB, .inl (cB, n, .inr (.inl V)))]) [1, 2, 3] (by decide) rfl
      have hKc := hK.sub (tys' := [(cA, .int), (cB, .long)]) [0, 1] rfl
      have hFc := va_free (wc := [(oS, .inr (1, [.ref oA, .ref oB, .int (nI h)])), (oA, .inl (cA, n, .inl P)), (oB, .inl (cB, n, .inr (.inl V)))]) hD hS hA [1, 2, 3] rfl
      refine va_calli (va_runV (As := [.int p1]) (rest := []) ⟨hx, hb, hml, hown, hts⟩ (kX0_has l dC dI oS oA oB cA cB n h P V p1 H.size hh hn) (cwV 1 hts gX1_statusOfChange_X0_has rfl rfl rfl (by decide +kernel) ⟨Nat.le_of_ble_eq_true rfl, Nat.le_of_ble_eq_true rfl⟩) ⟨fun a U g mk q => by obtain ⟨q0, q1, qP, qK, qD⟩ := q; exact ⟨q0, q1, qP, va_K.moved (u := U) (U := U.calling g mk a) (Vm.Alike.refl U.vm) qK, qD⟩, va_recv hKc hPc (ci := 1) (q0 := 0) rfl rfl, fun U hU hW => ⟨rfl, by rw [hU], by rw [hU]; exact hPc, va_K.moved hW.alike hKc, hDc.weaken (fun _ _ _ _ => trivial)⟩⟩ rfl rfl hl.1 rfl (lv_room (Nat.le_of_ble_eq_true rfl)) dX1_statusOfChange_32 ⟨Nat.le_of_ble_eq_true rfl, Nat.le_of_ble_eq_true rfl⟩) hS (fun q _ h => hFc q h) hFc (fun r_3 u t H1 locs ht hvm hw hB hz1 hk1 hS => ?_)
      obtain ⟨hP1, hK1, hD1⟩ := hB
      rw [ht] at hP1
      have hK1 := va_K.moved hvm.symm hK1
      try dsimp only at hw
      obtain ⟨hP, hD⟩ := va_join (wr := [(oF, .inr (2, [.int mo, .ref oS, .int th, .int om, .int sd, .int po, .int 0, .long lv, .int (nI d)]))]) (w1 := [(oS, .inr (1, [.ref oA, .ref oB, .int (nI h)])), (oA, .inl (cA, n, .inl P)), (oB, .inl (cB, n, .inr (.inl V)))]) hP hD [1, 2, 3] [0] rfl rfl (by decide) (by decide) hk1 hFc hP1 hD1
      generalize H1 = H at hP hS ⊢
      have hP : va_P (dC, dI) vwCl [(oF, .inr (2, [.int mo, .ref oS, .int th, .int om, .int sd, .int po, .int 0, .long lv, .int (nI d)])), (oS, .inr (1, [.ref oA, .ref oB, .int (nI h)])), (oA, .inl (cA, n, .inl P)), (oB, .inl (cB, n, .inr (.inl V)))] H := hP.sub [0, 1, 2, 3] rfl
      have hD : va_D A [(oF, .inr (2, [.int mo, .ref oS, .int th, .int om, .int sd, .int po, .int 0, .long lv, .int (nI d)])), (oS, .inr (1, [.ref oA, .ref oB, .int (nI h)])), (oA, .inl (cA, n, .inl P)), (oB, .inl (cB, n, .inr (.inl V)))] := hD.sub [0, 1, 2, 3] (by decide) rfl
      have hK : va_K (dC, dI) vwCl [(cA, .int), (cB, .long)] s := hK
      rcases hw with ⟨b_4, hw⟩ | ⟨b_4, hw⟩
      · -- hasS P h p1
        subst hw
        refine lv_if_eq (tgt := 40) hx hb dX1_statusOfChange_35 (by decide) (fun c_5 => ?_) (fun c_5 => ?_)
        · -- taken at 35: 1 = 0
          exact absurd c_5 (by decide)
        · -- not taken at 35: ¬ 1 = 0
          refine lv_iconst (v := 0) hx hb dX1_statusOfChange_38 (by decide) ?_
          subst hQ9
          have e9 : fSC om P h p0 p1 = 0 := by simp only [fSC, if_neg c_1, if_pos c_2, if_pos b_4]
          have e8 : fSL om lr = 0 := by simp only [fSL, if_neg c_1, if_pos c_2, if_pos b_4]
          rw [e9, e8]
          exact W.iret (v := 0) hx hb hr (fun t ht hW => ⟨⟨0, (), rfl, rfl, by rw [ht]; exact hP, va_K.moved hW.alike hK, hD⟩, hS.F ht⟩) hS.2.2 dX1_statusOfChange_39
      · -- ¬ (hasS P h p1)
        subst hw
        refine lv_if_eq (tgt := 40) hx hb dX1_statusOfChange_35 (by decide) (fun c_6 => ?_) (fun c_6 => ?_)
        · -- taken at 35: 0 = 0
          refine lv_iload_n hx hb dX1_statusOfChange_40 rfl (lv_at hl 1 rfl) ?_
          refine lv_iconst (v := (-1)) hx hb dX1_statusOfChange_41 (by decide) ?_
          refine lv_icmp_ne (tgt := 50) hx hb dX1_statusOfChange_42 (by decide) (fun c_7 => ?_) (fun c_7 => ?_)
          · -- taken at 42: ¬ p0 = (-1)
            refine lv_bipush (v := 23) hx hb dX1_statusOfChange_50 (by decide) ?_
            subst hQ9
            have e9 : fSC om P h p0 p1 = 23 := by simp only [fSC, if_neg c_1, if_pos c_2, if_neg b_4, if_neg c_7]
            have e8 : fSL om lr = 0 := by simp only [fSL, if_neg c_1, if_pos c_2, if_neg b_4, if_neg c_7]
            rw [e9, e8]
            exact W.iret (v := 23) hx hb hr (fun t ht hW => ⟨⟨23, (), rfl, rfl, by rw [ht]; exact hP, va_K.moved hW.alike hK, hD⟩, hS.F ht⟩) hS.2.2 dX1_statusOfChange_52
          · -- not taken at 42: p0 = (-1)
            refine lv_bipush (v := 43) hx hb dX1_statusOfChange_45 (by decide) ?_
            refine lv_goto (tgt := 52) hx hb dX1_statusOfChange_47 (by decide) ?_
            subst hQ9
            have e9 : fSC om P h p0 p1 = 43 := by simp only [fSC, if_neg c_1, if_pos c_2, if_neg b_4, if_pos c_7]
            have e8 : fSL om lr = 0 := by simp only [fSL, if_neg c_1, if_pos c_2, if_neg b_4, if_pos c_7]
            rw [e9, e8]
            exact W.iret (v := 43) hx hb hr (fun t ht hW => ⟨⟨43, (), rfl, rfl, by rw [ht]; exact hP, va_K.moved hW.alike hK, hD⟩, hS.F ht⟩) hS.2.2 dX1_statusOfChange_52
        · -- not taken at 35: ¬ 0 = 0
          exact absurd c_6 (by decide)
    · -- not taken at 16: ¬ om = 2
      refine lv_bipush (v := 49) hx hb dX1_statusOfChange_19 (by decide) ?_
      subst hQ9
      have e9 : fSC om P h p0 p1 = 49 := by simp only [fSC, if_neg c_1, if_neg c_2]
      have e8 : fSL om lr = lr := by simp only [fSL, if_neg c_1, if_neg c_2]
      rw [e9, e8]
      exact W.iret (v := 49) hx hb hr (fun t ht hW => ⟨⟨49, (), rfl, rfl, by rw [ht]; exact hP, va_K.moved hW.alike hK, hD⟩, hS.F ht⟩) hS.2.2 dX1_statusOfChange_21
  · -- not taken at 5: om = (-1)
    refine lv_bipush (v := 42) hx hb dX1_statusOfChange_8 (by decide) ?_
    subst hQ9
    have e9 : fSC om P h p0 p1 = 42 := by simp only [fSC, if_pos c_1]
    have e8 : fSL om lr = lr := by simp only [fSL, if_pos c_1]
    rw [e9, e8]
    exact W.iret (v := 42) hx hb hr (fun t ht hW => ⟨⟨42, (), rfl, rfl, by rw [ht]; exact hP, va_K.moved hW.alike hK, hD⟩, hS.F ht⟩) hS.2.2 dX1_statusOfChange_10

set_option maxHeartbeats 1000000 in
set_option maxRecDepth 100000 in
theorem kX1_placeToStart (l : Launch) (dC : Nat → ClassId) (dI : Nat → Nat → Nat) (oF oS oA oB : Nat) (cA cB : ClassId) (n h d : Nat) (mo th om sd po lr : Int32) (lv : Int64) (P : Nat → Int32) (V : Nat → Int64) (p0 p1 : Int32) (sz : Nat) (hh : h ≤ n) (hn : n ≤ 512) : Met l yX1_placeToStart wsX1_placeToStart ({ frames := 2, cells := 0, slots := 0, locals := 44 }) (va_Pc [.ref oF, .int p0, .int p1] (fun U => U.heap.size = sz ∧ va_P (dC, dI) vwCl [(oF, .inr (2, [.int mo, .ref oS, .int th, .int om, .int sd, .int po, .int lr, .long lv, .int (nI d)])), (oS, .inr (1, [.ref oA, .ref oB, .int (nI h)])), (oA, .inl (cA, n, .inl P)), (oB, .inl (cB, n, .inr (.inl V)))] U.heap ∧ va_K (dC, dI) vwCl [(cA, .int), (cB, .long)] U ∧ va_D (fun _ => True) [(oF, .inr (2, [.int mo, .ref oS, .int th, .int om, .int sd, .int po, .int lr, .long lv, .int (nI d)])), (oS, .inr (1, [.ref oA, .ref oB, .int (nI h)])), (oA, .inl (cA, n, .inl P)), (oB, .inl (cB, n, .inr (.inl V)))])) (va_Qi (fun (r : Int32) (_ : Unit) => r = fPS P h p0 p1) (fun (_ : Unit) (t : State) => va_P (dC, dI) vwCl [(oF, .inr (2, [.int mo, .ref oS, .int th, .int om, .int sd, .int po, .int lr, .long lv, .int (nI d)])), (oS, .inr (1, [.ref oA, .ref oB, .int (nI h)])), (oA, .inl (cA, n, .inl P)), (oB, .inl (cB, n, .inr (.inl V)))] t.heap ∧ va_K (dC, dI) vwCl [(cA, .int), (cB, .long)] t ∧ va_D (va_A [(oF, .inr (2, [.int mo, .ref oS, .int th, .int om, .int sd, .int po, .int lr, .long lv, .int (nI d)])), (oS, .inr (1, [.ref oA, .ref oB, .int (nI h)])), (oA, .inl (cA, n, .inl P)), (oB, .inl (cB, n, .inr (.inl V)))] sz) [(oF, .inr (2, [.int mo, .ref oS, .int th, .int om, .int sd, .int po, .int lr, .long lv, .int (nI d)])), (oS, .inr (1, [.ref oA, .ref oB, .int (nI h)])), (oA, .inl (cA, n, .inl P)), (oB, .inl (cB, n, .inr (.inl V)))]) (va_A [(oF, .inr (2, [.int mo, .ref oS, .int th, .int om, .int sd, .int po, .int lr, .long lv, .int (nI d)])), (oS, .inr (1, [.ref oA, .ref oB, .int (nI h)])), (oA, .inl (cA, n, .inl P)), (oB, .inl (cB, n, .inr (.inl V)))] sz)) 0 0 (va_A [(oF, .inr (2, [.int mo, .ref oS, .int th, .int om, .int sd, .int po, .int lr, .long lv, .int (nI d)])), (oS, .inr (1, [.ref oA, .ref oB, .int (nI h)])), (oA, .inl (cA, n, .inl P)), (oB, .inl (cB, n, .inr (.inl V)))] sz) := by
  refine Met.ofW (cc := cX1_placeToStart) (maxL := 3) (ret := (some .int)) (by decide) rfl ?_
  intro p e s m args below meth c s₁ B hml hv
  obtain ⟨rfl, hsz, hP, hK, hD0⟩ := hv
  have hx := B.exec
  have hb := B.bytes
  have hr := B.returns
  have hts := atoms_spec (ws := wsX1_placeToStart) B.pre
  have hown : s.vm.findClass RX1 = some m.cls := findClass_of_methodNamed B.named
  have hlocks := B.notSynchronized
  subst hsz
  have hD := hD0.self (sz := s.heap.size)
  generalize hAe : va_A [(oF, .inr (2, [.int mo, .ref oS, .int th, .int om, .int sd, .int po, .int lr, .long lv, .int (nI d)])), (oS, .inr (1, [.ref oA, .ref oB, .int (nI h)])), (oA, .inl (cA, n, .inl P)), (oB, .inl (cB, n, .inr (.inl V)))] s.heap.size = A at hD ⊢
  have hA : ∀ q : Nat, s.heap.size ≤ q → A q := fun q h => by rw [← hAe]; exact Or.inr h
  have hS : va_S A s.heap s.heap [] := va_S.rf
  have hP : va_P (dC, dI) vwCl [(oF, .inr (2, [.int mo, .ref oS, .int th, .int om, .int sd, .int po, .int lr, .long lv, .int (nI d)])), (oS, .inr (1, [.ref oA, .ref oB, .int (nI h)])), (oA, .inl (cA, n, .inl P)), (oB, .inl (cB, n, .inr (.inl V)))] s.heap := hP
  have hl := lv_entry ([.ref oF, .int p0, .int p1]) (n := 3) (Nat.le_of_ble_eq_true rfl)
  rw [lg_entry_eq]
  generalize (lg_sl ([.ref oF, .int p0, .int p1]) ++ List.replicate (3 - (lg_sl ([.ref oF, .int p0, .int p1])).length) Slot.unset).toArray = ls at hl ⊢
  have hl : lv_has ls 3 [(0, .ref oF), (1, .int p0), (2, .int p1)] := hl
  refine W_name (fun Q hQ9 => ?_)
  refine lv_iload_n hx hb dX1_placeToStart_0 rfl (lv_at hl 1 rfl) ?_
  by_cases s_1 : p0 = 0
  · -- case 0
    refine lv_tableIn (tgt := 36) hx hb dX1_placeToStart_1 (by rw [s_1]; decide) (by rw [s_1]; decide) (by rw [s_1]; rfl) (by decide) ?_
    refine lv_aload_n hx hb dX1_placeToStart_36 rfl (lv_at hl 0 rfl) ?_
    refine va_get (D := (dC, dI)) (ci := 2) (v := .ref oS) (C := RX1) (T := TX1) (N := 9) hx hb hts (by decide +kernel) hown hK hP 0 rfl rfl 1 (by decide) (hts (.fieldLink RX1 28 "RelativeFiles" "shelf" "LRelativeFiles$Shelf;") (by decide +kernel)) (fun _ h9 => h9) rfl dX1_placeToStart_37 ?_
    refine lv_iload_n hx hb dX1_placeToStart_40 rfl (lv_at hl 2 rfl) ?_
    have hPc := hP.sub (ws' := [(oS, .inr (1, [.ref oA, .ref oB, .int (nI h)])), (oA, .inl (cA, n, .inl P)), (oB, .inl (cB, n, .inr (.inl V)))]) [1, 2, 3] rfl
    have hDc := hD.sub (ws' := [(oS, .inr (1, [.ref oA, .ref oB, .int (nI h)])), (oA, .inl (cA, n, .inl P)), (oB, .inl (cB, n, .inr (.inl V)))]) [1, 2, 3] (by decide) rfl
    have hKc := hK.sub (tys' := [(cA, .int), (cB, .long)]) [0, 1] rfl
    have hFc := va_free (wc := [(oS, .inr (1, [.ref oA, .ref oB, .int (nI h)])), (oA, .inl (cA, n, .inl P)), (oB, .inl (cB, n, .inr (.inl V)))]) hD hS hA [1, 2, 3] rfl
    refine va_calli (va_runV (As := [.int p1]) (rest := []) ⟨hx, hb, hml, hown, hts⟩ (kX0_has l dC dI oS oA oB cA cB n h P V p1 s.heap.size hh hn) (cwV 1 hts gX1_placeToStart_X0_has rfl rfl rfl (by decide +kernel) ⟨Nat.le_of_ble_eq_true rfl, Nat.le_of_ble_eq_true rfl⟩) ⟨fun a U g mk q => by obtain ⟨q0, q1, qP, qK, qD⟩ := q; exact ⟨q0, q1, qP, va_K.moved (u := U) (U := U.calling g mk a) (Vm.Alike.refl U.vm) qK, qD⟩, va_recv hKc hPc (ci := 1) (q0 := 0) rfl rfl, fun U hU hW => ⟨rfl, by rw [hU], by rw [hU]; exact hPc, va_K.moved hW.alike hKc, hDc.weaken (fun _ _ _ _ => trivial)⟩⟩ rfl rfl hl.1 rfl (lv_room (Nat.le_of_ble_eq_true rfl)) dX1_placeToStart_41 ⟨Nat.le_of_ble_eq_true rfl, Nat.le_of_ble_eq_true rfl⟩) hS (fun q _ h => hFc q h) hFc (fun r_2 u t H1 locs ht hvm hw hB hz1 hk1 hS => ?_)
    obtain ⟨hP1, hK1, hD1⟩ := hB
    rw [ht] at hP1
    have hK1 := va_K.moved hvm.symm hK1
    try dsimp only at hw
    obtain ⟨hP, hD⟩ := va_join (wr := [(oF, .inr (2, [.int mo, .ref oS, .int th, .int om, .int sd, .int po, .int lr, .long lv, .int (nI d)]))]) (w1 := [(oS, .inr (1, [.ref oA, .ref oB, .int (nI h)])), (oA, .inl (cA, n, .inl P)), (oB, .inl (cB, n, .inr (.inl V)))]) hP hD [1, 2, 3] [0] rfl rfl (by decide) (by decide) hk1 hFc hP1 hD1
    generalize H1 = H at hP hS ⊢
    have hP : va_P (dC, dI) vwCl [(oF, .inr (2, [.int mo, .ref oS, .int th, .int om, .int sd, .int po, .int lr, .long lv, .int (nI d)])), (oS, .inr (1, [.ref oA, .ref oB, .int (nI h)])), (oA, .inl (cA, n, .inl P)), (oB, .inl (cB, n, .inr (.inl V)))] H := hP.sub [0, 1, 2, 3] rfl
    have hD : va_D A [(oF, .inr (2, [.int mo, .ref oS, .int th, .int om, .int sd, .int po, .int lr, .long lv, .int (nI d)])), (oS, .inr (1, [.ref oA, .ref oB, .int (nI h)])), (oA, .inl (cA, n, .inl P)), (oB, .inl (cB, n, .inr (.inl V)))] := hD.sub [0, 1, 2, 3] (by decide) rfl
    have hK : va_K (dC, dI) vwCl [(cA, .int), (cB, .long)] s := hK
    rcases hw with ⟨b_3, hw⟩ | ⟨b_3, hw⟩
    · -- hasS P h p1
      subst hw
      refine lv_if_eq (tgt := 51) hx hb dX1_placeToStart_44 (by decide) (fun c_4 => ?_) (fun c_4 => ?_)
      · -- taken at 44: 1 = 0
        exact absurd c_4 (by decide)
      · -- not taken at 44: ¬ 1 = 0
        refine lv_iload_n hx hb dX1_placeToStart_47 rfl (lv_at hl 2 rfl) ?_
        refine lv_goto (tgt := 52) hx hb dX1_placeToStart_48 (by decide) ?_
        subst hQ9
        have e9 : fPS P h p0 p1 = p1 := by simp only [fPS, if_pos s_1, if_pos b_3]
        rw [e9]
        exact W.iret (v := p1) hx hb hr (fun t ht hW => ⟨⟨p1, (), rfl, rfl, by rw [ht]; exact hP, va_K.moved hW.alike hK, hD⟩, hS.F ht⟩) hS.2.2 dX1_placeToStart_52
    · -- ¬ (hasS P h p1)
      subst hw
      refine lv_if_eq (tgt := 51) hx hb dX1_placeToStart_44 (by decide) (fun c_5 => ?_) (fun c_5 => ?_)
      · -- taken at 44: 0 = 0
        refine lv_iconst (v := 0) hx hb dX1_placeToStart_51 (by decide) ?_
        subst hQ9
        have e9 : fPS P h p0 p1 = 0 := by simp only [fPS, if_pos s_1, if_neg b_3]
        rw [e9]
        exact W.iret (v := 0) hx hb hr (fun t ht hW => ⟨⟨0, (), rfl, rfl, by rw [ht]; exact hP, va_K.moved hW.alike hK, hD⟩, hS.F ht⟩) hS.2.2 dX1_placeToStart_52
      · -- not taken at 44: ¬ 0 = 0
        exact absurd c_5 (by decide)
  by_cases s_6 : p0 = 1
  · -- case 1
    refine lv_tableIn (tgt := 53) hx hb dX1_placeToStart_1 (by rw [s_6]; decide) (by rw [s_6]; decide) (by rw [s_6]; rfl) (by decide) ?_
    refine lv_aload_n hx hb dX1_placeToStart_53 rfl (lv_at hl 0 rfl) ?_
    refine va_get (D := (dC, dI)) (ci := 2) (v := .ref oS) (C := RX1) (T := TX1) (N := 9) hx hb hts (by decide +kernel) hown hK hP 0 rfl rfl 1 (by decide) (hts (.fieldLink RX1 28 "RelativeFiles" "shelf" "LRelativeFiles$Shelf;") (by decide +kernel)) (fun _ h9 => h9) rfl dX1_placeToStart_54 ?_
    refine lv_iload_n hx hb dX1_placeToStart_57 rfl (lv_at hl 2 rfl) ?_
    have hPc := hP.sub (ws' := [(oS, .inr (1, [.ref oA, .ref oB, .int (nI h)])), (oA, .inl (cA, n, .inl P)), (oB, .inl (cB, n, .inr (.inl V)))]) [1, 2, 3] rfl
    have hDc := hD.sub (ws' := [(oS, .inr (1, [.ref oA, .ref oB, .int (nI h)])), (oA, .inl (cA, n, .inl P)), (oB, .inl (cB, n, .inr (.inl V)))]) [1, 2, 3] (by decide) rfl
    have hKc := hK.sub (tys' := [(cA, .int), (cB, .long)]) [0, 1] rfl
    have hFc := va_free (wc := [(oS, .inr (1, [.ref oA, .ref oB, .int (nI h)])), (oA, .inl (cA, n, .inl P)), (oB, .inl (cB, n, .inr (.inl V)))]) hD hS hA [1, 2, 3] rfl
    refine va_calli (va_runV (As := [.int p1]) (rest := []) ⟨hx, hb, hml, hown, hts⟩ (kX0_firstAbove l dC dI oS oA oB cA cB n h P V p1 s.heap.size hh hn) (cwV 1 hts gX1_placeToStart_X0_firstAbove rfl rfl rfl (by decide +kernel) ⟨Nat.le_of_ble_eq_true rfl, Nat.le_of_ble_eq_true rfl⟩) ⟨fun a U g mk q => by obtain ⟨q0, q1, qP, qK, qD⟩ := q; exact ⟨q0, q1, qP, va_K.moved (u := U) (U := U.calling g mk a) (Vm.Alike.refl U.vm) qK, qD⟩, va_recv hKc hPc (ci := 1) (q0 := 0) rfl rfl, fun U hU hW => ⟨rfl, by rw [hU], by rw [hU]; exact hPc, va_K.moved hW.alike hKc, hDc.weaken (fun _ _ _ _ => trivial)⟩⟩ rfl rfl hl.1 rfl (lv_room (Nat.le_of_ble_eq_true rfl)) dX1_placeToStart_58 ⟨Nat.le_of_ble_eq_true rfl, Nat.le_of_ble_eq_true rfl⟩) hS (fun q _ h => hFc q h) hFc (fun r_7 u t H1 locs ht hvm hw hB hz1 hk1 hS => ?_)
    obtain ⟨hP1, hK1, hD1⟩ := hB
    rw [ht] at hP1
    have hK1 := va_K.moved hvm.symm hK1
    try dsimp only at hw
    obtain ⟨hP, hD⟩ := va_join (wr := [(oF, .inr (2, [.int mo, .ref oS, .int th, .int om, .int sd, .int po, .int lr, .long lv, .int (nI d)]))]) (w1 := [(oS, .inr (1, [.ref oA, .ref oB, .int (nI h)])), (oA, .inl (cA, n, .inl P)), (oB, .inl (cB, n, .inr (.inl V)))]) hP hD [1, 2, 3] [0] rfl rfl (by decide) (by decide) hk1 hFc hP1 hD1
    generalize H1 = H at hP hS ⊢
    have hP : va_P (dC, dI) vwCl [(oF, .inr (2, [.int mo, .ref oS, .int th, .int om, .int sd, .int po, .int lr, .long lv, .int (nI d)])), (oS, .inr (1, [.ref oA, .ref oB, .int (nI h)])), (oA, .inl (cA, n, .inl P)), (oB, .inl (cB, n, .inr (.inl V)))] H := hP.sub [0, 1, 2, 3] rfl
    have hD : va_D A [(oF, .inr (2, [.int mo, .ref oS, .int th, .int om, .int sd, .int po, .int lr, .long lv, .int (nI d)])), (oS, .inr (1, [.ref oA, .ref oB, .int (nI h)])), (oA, .inl (cA, n, .inl P)), (oB, .inl (cB, n, .inr (.inl V)))] := hD.sub [0, 1, 2, 3] (by decide) rfl
    have hK : va_K (dC, dI) vwCl [(cA, .int), (cB, .long)] s := hK
    subst hw
    subst hQ9
    have e9 : fPS P h p0 p1 = fFA P h p1 := by simp only [fPS, if_neg s_1, if_pos s_6]
    rw [e9]
    exact W.iret (v := fFA P h p1) hx hb hr (fun t ht hW => ⟨⟨fFA P h p1, (), rfl, rfl, by rw [ht]; exact hP, va_K.moved hW.alike hK, hD⟩, hS.F ht⟩) hS.2.2 dX1_placeToStart_61
  by_cases s_8 : p0 = 2
  · -- case 2
    refine lv_tableIn (tgt := 62) hx hb dX1_placeToStart_1 (by rw [s_8]; decide) (by rw [s_8]; decide) (by rw [s_8]; rfl) (by decide) ?_
    refine lv_aload_n hx hb dX1_placeToStart_62 rfl (lv_at hl 0 rfl) ?_
    refine va_get (D := (dC, dI)) (ci := 2) (v := .ref oS) (C := RX1) (T := TX1) (N := 9) hx hb hts (by decide +kernel) hown hK hP 0 rfl rfl 1 (by decide) (hts (.fieldLink RX1 28 "RelativeFiles" "shelf" "LRelativeFiles$Shelf;") (by decide +kernel)) (fun _ h9 => h9) rfl dX1_placeToStart_63 ?_
    refine lv_iload_n hx hb dX1_placeToStart_66 rfl (lv_at hl 2 rfl) ?_
    have hPc := hP.sub (ws' := [(oS, .inr (1, [.ref oA, .ref oB, .int (nI h)])), (oA, .inl (cA, n, .inl P)), (oB, .inl (cB, n, .inr (.inl V)))]) [1, 2, 3] rfl
    have hDc := hD.sub (ws' := [(oS, .inr (1, [.ref oA, .ref oB, .int (nI h)])), (oA, .inl (cA, n, .inl P)), (oB, .inl (cB, n, .inr (.inl V)))]) [1, 2, 3] (by decide) rfl
    have hKc := hK.sub (tys' := [(cA, .int), (cB, .long)]) [0, 1] rfl
    have hFc := va_free (wc := [(oS, .inr (1, [.ref oA, .ref oB, .int (nI h)])), (oA, .inl (cA, n, .inl P)), (oB, .inl (cB, n, .inr (.inl V)))]) hD hS hA [1, 2, 3] rfl
    refine va_calli (va_runV (As := [.int p1]) (rest := []) ⟨hx, hb, hml, hown, hts⟩ (kX0_has l dC dI oS oA oB cA cB n h P V p1 s.heap.size hh hn) (cwV 1 hts gX1_placeToStart_X0_has rfl rfl rfl (by decide +kernel) ⟨Nat.le_of_ble_eq_true rfl, Nat.le_of_ble_eq_true rfl⟩) ⟨fun a U g mk q => by obtain ⟨q0, q1, qP, qK, qD⟩ := q; exact ⟨q0, q1, qP, va_K.moved (u := U) (U := U.calling g mk a) (Vm.Alike.refl U.vm) qK, qD⟩, va_recv hKc hPc (ci := 1) (q0 := 0) rfl rfl, fun U hU hW => ⟨rfl, by rw [hU], by rw [hU]; exact hPc, va_K.moved hW.alike hKc, hDc.weaken (fun _ _ _ _ => trivial)⟩⟩ rfl rfl hl.1 rfl (lv_room (Nat.le_of_ble_eq_true rfl)) dX1_placeToStart_67 ⟨Nat.le_of_ble_eq_true rfl, Nat.le_of_ble_eq_true rfl⟩) hS (fun q _ h => hFc q h) hFc (fun r_9 u t H1 locs ht hvm hw hB hz1 hk1 hS => ?_)
    obtain ⟨hP1, hK1, hD1⟩ := hB
    rw [ht] at hP1
    have hK1 := va_K.moved hvm.symm hK1
    try dsimp only at hw
    obtain ⟨hP, hD⟩ := va_join (wr := [(oF, .inr (2, [.int mo, .ref oS, .int th, .int om, .int sd, .int po, .int lr, .long lv, .int (nI d)]))]) (w1 := [(oS, .inr (1, [.ref oA, .ref oB, .int (nI h)])), (oA, .inl (cA, n, .inl P)), (oB, .inl (cB, n, .inr (.inl V)))]) hP hD [1, 2, 3] [0] rfl rfl (by decide) (by decide) hk1 hFc hP1 hD1
    generalize H1 = H at hP hS ⊢
    have hP : va_P (dC, dI) vwCl [(oF, .inr (2, [.int mo, .ref oS, .int th, .int om, .int sd, .int po, .int lr, .long lv, .int (nI d)])), (oS, .inr (1, [.ref oA, .ref oB, .int (nI h)])), (oA, .inl (cA, n, .inl P)), (oB, .inl (cB, n, .inr (.inl V)))] H := hP.sub [0, 1, 2, 3] rfl
    have hD : va_D A [(oF, .inr (2, [.int mo, .ref oS, .int th, .int om, .int sd, .int po, .int lr, .long lv, .int (nI d)])), (oS, .inr (1, [.ref oA, .ref oB, .int (nI h)])), (oA, .inl (cA, n, .inl P)), (oB, .inl (cB, n, .inr (.inl V)))] := hD.sub [0, 1, 2, 3] (by decide) rfl
    have hK : va_K (dC, dI) vwCl [(cA, .int), (cB, .long)] s := hK
    rcases hw with ⟨b_10, hw⟩ | ⟨b_10, hw⟩
    · -- hasS P h p1
      subst hw
      refine lv_if_eq (tgt := 77) hx hb dX1_placeToStart_70 (by decide) (fun c_11 => ?_) (fun c_11 => ?_)
      · -- taken at 70: 1 = 0
        exact absurd c_11 (by decide)
      · -- not taken at 70: ¬ 1 = 0
        refine lv_iload_n hx hb dX1_placeToStart_73 rfl (lv_at hl 2 rfl) ?_
        refine lv_goto (tgt := 85) hx hb dX1_placeToStart_74 (by decide) ?_
        subst hQ9
        have e9 : fPS P h p0 p1 = p1 := by simp only [fPS, if_neg s_1, if_neg s_6, if_pos s_8, if_pos b_10]
        rw [e9]
        exact W.iret (v := p1) hx hb hr (fun t ht hW => ⟨⟨p1, (), rfl, rfl, by rw [ht]; exact hP, va_K.moved hW.alike hK, hD⟩, hS.F ht⟩) hS.2.2 dX1_placeToStart_85
    · -- ¬ (hasS P h p1)
      subst hw
      refine lv_if_eq (tgt := 77) hx hb dX1_placeToStart_70 (by decide) (fun c_12 => ?_) (fun c_12 => ?_)
      · -- taken at 70: 0 = 0
        refine lv_aload_n hx hb dX1_placeToStart_77 rfl (lv_at hl 0 rfl) ?_
        refine va_get (D := (dC, dI)) (ci := 2) (v := .ref oS) (C := RX1) (T := TX1) (N := 9) hx hb hts (by decide +kernel) hown hK hP 0 rfl rfl 1 (by decide) (hts (.fieldLink RX1 28 "RelativeFiles" "shelf" "LRelativeFiles$Shelf;") (by decide +kernel)) (fun _ h9 => h9) rfl dX1_placeToStart_78 ?_
        refine lv_iload_n hx hb dX1_placeToStart_81 rfl (lv_at hl 2 rfl) ?_
        have hPc := hP.sub (ws' := [(oS, .inr (1, [.ref oA, .ref oB, .int (nI h)])), (oA, .inl (cA, n, .inl P)), (oB, .inl (cB, n, .inr (.inl V)))]) [1, 2, 3] rfl
        have hDc := hD.sub (ws' := [(oS, .inr (1, [.ref oA, .ref oB, .int (nI h)])), (oA, .inl (cA, n, .inl P)), (oB, .inl (cB, n, .inr (.inl V)))]) [1, 2, 3] (by decide) rfl
        have hKc := hK.sub (tys' := [(cA, .int), (cB, .long)]) [0, 1] rfl
        have hFc := va_free (wc := [(oS, .inr (1, [.ref oA, .ref oB, .int (nI h)])), (oA, .inl (cA, n, .inl P)), (oB, .inl (cB, n, .inr (.inl V)))]) hD hS hA [1, 2, 3] rfl
        refine va_calli (va_runV (As := [.int p1]) (rest := []) ⟨hx, hb, hml, hown, hts⟩ (kX0_firstAbove l dC dI oS oA oB cA cB n h P V p1 H.size hh hn) (cwV 1 hts gX1_placeToStart_X0_firstAbove rfl rfl rfl (by decide +kernel) ⟨Nat.le_of_ble_eq_true rfl, Nat.le_of_ble_eq_true rfl⟩) ⟨fun a U g mk q => by obtain ⟨q0, q1, qP, qK, qD⟩ := q; exact ⟨q0, q1, qP, va_K.moved (u := U) (U := U.calling g mk a) (Vm.Alike.refl U.vm) qK, qD⟩, va_recv hKc hPc (ci := 1) (q0 := 0) rfl rfl, fun U hU hW => ⟨rfl, by rw [hU], by rw [hU]; exact hPc, va_K.moved hW.alike hKc, hDc.weaken (fun _ _ _ _ => trivial)⟩⟩ rfl rfl hl.1 rfl (lv_room (Nat.le_of_ble_eq_true rfl)) dX1_placeToStart_82 ⟨Nat.le_of_ble_eq_true rfl, Nat.le_of_ble_eq_true rfl⟩) hS (fun q _ h => hFc q h) hFc (fun r_13 u t H1 locs ht hvm hw hB hz1 hk1 hS => ?_)
        obtain ⟨hP1, hK1, hD1⟩ := hB
        rw [ht] at hP1
        have hK1 := va_K.moved hvm.symm hK1
        try dsimp only at hw
        obtain ⟨hP, hD⟩ := va_join (wr := [(oF, .inr (2, [.int mo, .ref oS, .int th, .int om, .int sd, .int po, .int lr, .long lv, .int (nI d)]))]) (w1 := [(oS, .inr (1, [.ref oA, .ref oB, .int (nI h)])), (oA, .inl (cA, n, .inl P)), (oB, .inl (cB, n, .inr (.inl V)))]) hP hD [1, 2, 3] [0] rfl rfl (by decide) (by decide) hk1 hFc hP1 hD1
        generalize H1 = H at hP hS ⊢
        have hP : va_P (dC, dI) vwCl [(oF, .inr (2, [.int mo, .ref oS, .int th, .int om, .int sd, .int po, .int lr, .long lv, .int (nI d)])), (oS, .inr (1, [.ref oA, .ref oB, .int (nI h)])), (oA, .inl (cA, n, .inl P)), (oB, .inl (cB, n, .inr (.inl V)))] H := hP.sub [0, 1, 2, 3] rfl
        have hD : va_D A [(oF, .inr (2, [.int mo, .ref oS, .int th, .int om, .int sd, .int po, .int lr, .long lv, .int (nI d)])), (oS, .inr (1, [.ref oA, .ref oB, .int (nI h)])), (oA, .inl (cA, n, .inl P)), (oB, .inl (cB, n, .inr (.inl V)))] := hD.sub [0, 1, 2, 3] (by decide) rfl
        have hK : va_K (dC, dI) vwCl [(cA, .int), (cB, .long)] s := hK
        subst hw
        subst hQ9
        have e9 : fPS P h p0 p1 = fFA P h p1 := by simp only [fPS, if_neg s_1, if_neg s_6, if_pos s_8, if_neg b_10]
        rw [e9]
        exact W.iret (v := fFA P h p1) hx hb hr (fun t ht hW => ⟨⟨fFA P h p1, (), rfl, rfl, by rw [ht]; exact hP, va_K.moved hW.alike hK, hD⟩, hS.F ht⟩) hS.2.2 dX1_placeToStart_85
      · -- not taken at 70: ¬ 0 = 0
        exact absurd c_12 (by decide)
  by_cases s_14 : p0 = 3
  · -- case 3
    refine lv_tableIn (tgt := 86) hx hb dX1_placeToStart_1 (by rw [s_14]; decide) (by rw [s_14]; decide) (by rw [s_14]; rfl) (by decide) ?_
    refine lv_aload_n hx hb dX1_placeToStart_86 rfl (lv_at hl 0 rfl) ?_
    refine va_get (D := (dC, dI)) (ci := 2) (v := .ref oS) (C := RX1) (T := TX1) (N := 9) hx hb hts (by decide +kernel) hown hK hP 0 rfl rfl 1 (by decide) (hts (.fieldLink RX1 28 "RelativeFiles" "shelf" "LRelativeFiles$Shelf;") (by decide +kernel)) (fun _ h9 => h9) rfl dX1_placeToStart_87 ?_
    refine lv_iload_n hx hb dX1_placeToStart_90 rfl (lv_at hl 2 rfl) ?_
    have hPc := hP.sub (ws' := [(oS, .inr (1, [.ref oA, .ref oB, .int (nI h)])), (oA, .inl (cA, n, .inl P)), (oB, .inl (cB, n, .inr (.inl V)))]) [1, 2, 3] rfl
    have hDc := hD.sub (ws' := [(oS, .inr (1, [.ref oA, .ref oB, .int (nI h)])), (oA, .inl (cA, n, .inl P)), (oB, .inl (cB, n, .inr (.inl V)))]) [1, 2, 3] (by decide) rfl
    have hKc := hK.sub (tys' := [(cA, .int), (cB, .long)]) [0, 1] rfl
    have hFc := va_free (wc := [(oS, .inr (1, [.ref oA, .ref oB, .int (nI h)])), (oA, .inl (cA, n, .inl P)), (oB, .inl (cB, n, .inr (.inl V)))]) hD hS hA [1, 2, 3] rfl
    refine va_calli (va_runV (As := [.int p1]) (rest := []) ⟨hx, hb, hml, hown, hts⟩ (kX0_lastBelow l dC dI oS oA oB cA cB n h P V p1 s.heap.size hh hn) (cwV 1 hts gX1_placeToStart_X0_lastBelow rfl rfl rfl (by decide +kernel) ⟨Nat.le_of_ble_eq_true rfl, Nat.le_of_ble_eq_true rfl⟩) ⟨fun a U g mk q => by obtain ⟨q0, q1, qP, qK, qD⟩ := q; exact ⟨q0, q1, qP, va_K.moved (u := U) (U := U.calling g mk a) (Vm.Alike.refl U.vm) qK, qD⟩, va_recv hKc hPc (ci := 1) (q0 := 0) rfl rfl, fun U hU hW => ⟨rfl, by rw [hU], by rw [hU]; exact hPc, va_K.moved hW.alike hKc, hDc.weaken (fun _ _ _ _ => trivial)⟩⟩ rfl rfl hl.1 rfl (lv_room (Nat.le_of_ble_eq_true rfl)) dX1_placeToStart_91 ⟨Nat.le_of_ble_eq_true rfl, Nat.le_of_ble_eq_true rfl⟩) hS (fun q _ h => hFc q h) hFc (fun r_15 u t H1 locs ht hvm hw hB hz1 hk1 hS => ?_)
    obtain ⟨hP1, hK1, hD1⟩ := hB
    rw [ht] at hP1
    have hK1 := va_K.moved hvm.symm hK1
    try dsimp only at hw
    obtain ⟨hP, hD⟩ := va_join (wr := [(oF, .inr (2, [.int mo, .ref oS, .int th, .int om, .int sd, .int po, .int lr, .long lv, .int (nI d)]))]) (w1 := [(oS, .inr (1, [.ref oA, .ref oB, .int (nI h)])), (oA, .inl (cA, n, .inl P)), (oB, .inl (cB, n, .inr (.inl V)))]) hP hD [1, 2, 3] [0] rfl rfl (by decide) (by decide) hk1 hFc hP1 hD1
    generalize H1 = H at hP hS ⊢
    have hP : va_P (dC, dI) vwCl [(oF, .inr (2, [.int mo, .ref oS, .int th, .int om, .int sd, .int po, .int lr, .long lv, .int (nI d)])), (oS, .inr (1, [.ref oA, .ref oB, .int (nI h)])), (oA, .inl (cA, n, .inl P)), (oB, .inl (cB, n, .inr (.inl V)))] H := hP.sub [0, 1, 2, 3] rfl
    have hD : va_D A [(oF, .inr (2, [.int mo, .ref oS, .int th, .int om, .int sd, .int po, .int lr, .long lv, .int (nI d)])), (oS, .inr (1, [.ref oA, .ref oB, .int (nI h)])), (oA, .inl (cA, n, .inl P)), (oB, .inl (cB, n, .inr (.inl V)))] := hD.sub [0, 1, 2, 3] (by decide) rfl
    have hK : va_K (dC, dI) vwCl [(cA, .int), (cB, .long)] s := hK
    subst hw
    subst hQ9
    have e9 : fPS P h p0 p1 = fLB P h p1 := by simp only [fPS, if_neg s_1, if_neg s_6, if_neg s_8, if_pos s_14]
    rw [e9]
    exact W.iret (v := fLB P h p1) hx hb hr (fun t ht hW => ⟨⟨fLB P h p1, (), rfl, rfl, by rw [ht]; exact hP, va_K.moved hW.alike hK, hD⟩, hS.F ht⟩) hS.2.2 dX1_placeToStart_94
  by_cases s_16 : p0 = 4
  · -- case 4
    refine lv_tableIn (tgt := 95) hx hb dX1_placeToStart_1 (by rw [s_16]; decide) (by rw [s_16]; decide) (by rw [s_16]; rfl) (by decide) ?_
    refine lv_aload_n hx hb dX1_placeToStart_95 rfl (lv_at hl 0 rfl) ?_
    refine va_get (D := (dC, dI)) (ci := 2) (v := .ref oS) (C := RX1) (T := TX1) (N := 9) hx hb hts (by decide +kernel) hown hK hP 0 rfl rfl 1 (by decide) (hts (.fieldLink RX1 28 "RelativeFiles" "shelf" "LRelativeFiles$Shelf;") (by decide +kernel)) (fun _ h9 => h9) rfl dX1_placeToStart_96 ?_
    refine lv_iload_n hx hb dX1_placeToStart_99 rfl (lv_at hl 2 rfl) ?_
    have hPc := hP.sub (ws' := [(oS, .inr (1, [.ref oA, .ref oB, .int (nI h)])), (oA, .inl (cA, n, .inl P)), (oB, .inl (cB, n, .inr (.inl V)))]) [1, 2, 3] rfl
    have hDc := hD.sub (ws' := [(oS, .inr (1, [.ref oA, .ref oB, .int (nI h)])), (oA, .inl (cA, n, .inl P)), (oB, .inl (cB, n, .inr (.inl V)))]) [1, 2, 3] (by decide) rfl
    have hKc := hK.sub (tys' := [(cA, .int), (cB, .long)]) [0, 1] rfl
    have hFc := va_free (wc := [(oS, .inr (1, [.ref oA, .ref oB, .int (nI h)])), (oA, .inl (cA, n, .inl P)), (oB, .inl (cB, n, .inr (.inl V)))]) hD hS hA [1, 2, 3] rfl
    refine va_calli (va_runV (As := [.int p1]) (rest := []) ⟨hx, hb, hml, hown, hts⟩ (kX0_has l dC dI oS oA oB cA cB n h P V p1 s.heap.size hh hn) (cwV 1 hts gX1_placeToStart_X0_has rfl rfl rfl (by decide +kernel) ⟨Nat.le_of_ble_eq_true rfl, Nat.le_of_ble_eq_true rfl⟩) ⟨fun a U g mk q => by obtain ⟨q0, q1, qP, qK, qD⟩ := q; exact ⟨q0, q1, qP, va_K.moved (u := U) (U := U.calling g mk a) (Vm.Alike.refl U.vm) qK, qD⟩, va_recv hKc hPc (ci := 1) (q0 := 0) rfl rfl, fun U hU hW => ⟨rfl, by rw [hU], by rw [hU]; exact hPc, va_K.moved hW.alike hKc, hDc.weaken (fun _ _ _ _ => trivial)⟩⟩ rfl rfl hl.1 rfl (lv_room (Nat.le_of_ble_eq_true rfl)) dX1_placeToStart_100 ⟨Nat.le_of_ble_eq_true rfl, Nat.le_of_ble_eq_true rfl⟩) hS (fun q _ h => hFc q h) hFc (fun r_17 u t H1 locs ht hvm hw hB hz1 hk1 hS => ?_)
    obtain ⟨hP1, hK1, hD1⟩ := hB
    rw [ht] at hP1
    have hK1 := va_K.moved hvm.symm hK1
    try dsimp only at hw
    obtain ⟨hP, hD⟩ := va_join (wr := [(oF, .inr (2, [.int mo, .ref oS, .int th, .int om, .int sd, .int po, .int lr, .long lv, .int (nI d)]))]) (w1 := [(oS, .inr (1, [.ref oA, .ref oB, .int (nI h)])), (oA, .inl (cA, n, .inl P)), (oB, .inl (cB, n, .inr (.inl V)))]) hP hD [1, 2, 3] [0] rfl rfl (by decide) (by decide) hk1 hFc hP1 hD1
    generalize H1 = H at hP hS ⊢
    have hP : va_P (dC, dI) vwCl [(oF, .inr (2, [.int mo, .ref oS, .int th, .int om, .int sd, .int po, .int lr, .long lv, .int (nI d)])), (oS, .inr (1, [.ref oA, .ref oB, .int (nI h)])), (oA, .inl (cA, n, .inl P)), (oB, .inl (cB, n, .inr (.inl V)))] H := hP.sub [0, 1, 2, 3] rfl
    have hD : va_D A [(oF, .inr (2, [.int mo, .ref oS, .int th, .int om, .int sd, .int po, .int lr, .long lv, .int (nI d)])), (oS, .inr (1, [.ref oA, .ref oB, .int (nI h)])), (oA, .inl (cA, n, .inl P)), (oB, .inl (cB, n, .inr (.inl V)))] := hD.sub [0, 1, 2, 3] (by decide) rfl
    have hK : va_K (dC, dI) vwCl [(cA, .int), (cB, .long)] s := hK
    rcases hw with ⟨b_18, hw⟩ | ⟨b_18, hw⟩
    · -- hasS P h p1
      subst hw
      refine lv_if_eq (tgt := 110) hx hb dX1_placeToStart_103 (by decide) (fun c_19 => ?_) (fun c_19 => ?_)
      · -- taken at 103: 1 = 0
        exact absurd c_19 (by decide)
      · -- not taken at 103: ¬ 1 = 0
        refine lv_iload_n hx hb dX1_placeToStart_106 rfl (lv_at hl 2 rfl) ?_
        refine lv_goto (tgt := 118) hx hb dX1_placeToStart_107 (by decide) ?_
        subst hQ9
        have e9 : fPS P h p0 p1 = p1 := by simp only [fPS, if_neg s_1, if_neg s_6, if_neg s_8, if_neg s_14, if_pos s_16, if_pos b_18]
        rw [e9]
        exact W.iret (v := p1) hx hb hr (fun t ht hW => ⟨⟨p1, (), rfl, rfl, by rw [ht]; exact hP, va_K.moved hW.alike hK, hD⟩, hS.F ht⟩) hS.2.2 dX1_placeToStart_118
    · -- ¬ (hasS P h p1)
      subst hw
      refine lv_if_eq (tgt := 110) hx hb dX1_placeToStart_103 (by decide) (fun c_20 => ?_) (fun c_20 => ?_)
      · -- taken at 103: 0 = 0
        refine lv_aload_n hx hb dX1_placeToStart_110 rfl (lv_at hl 0 rfl) ?_
        refine va_get (D := (dC, dI)) (ci := 2) (v := .ref oS) (C := RX1) (T := TX1) (N := 9) hx hb hts (by decide +kernel) hown hK hP 0 rfl rfl 1 (by decide) (hts (.fieldLink RX1 28 "RelativeFiles" "shelf" "LRelativeFiles$Shelf;") (by decide +kernel)) (fun _ h9 => h9) rfl dX1_placeToStart_111 ?_
        refine lv_iload_n hx hb dX1_placeToStart_114 rfl (lv_at hl 2 rfl) ?_
        have hPc := hP.sub (ws' := [(oS, .inr (1, [.ref oA, .ref oB, .int (nI h)])), (oA, .inl (cA, n, .inl P)), (oB, .inl (cB, n, .inr (.inl V)))]) [1, 2, 3] rfl
        have hDc := hD.sub (ws' := [(oS, .inr (1, [.ref oA, .ref oB, .int (nI h)])), (oA, .inl (cA, n, .inl P)), (oB, .inl (cB, n, .inr (.inl V)))]) [1, 2, 3] (by decide) rfl
        have hKc := hK.sub (tys' := [(cA, .int), (cB, .long)]) [0, 1] rfl
        have hFc := va_free (wc := [(oS, .inr (1, [.ref oA, .ref oB, .int (nI h)])), (oA, .inl (cA, n, .inl P)), (oB, .inl (cB, n, .inr (.inl V)))]) hD hS hA [1, 2, 3] rfl
        refine va_calli (va_runV (As := [.int p1]) (rest := []) ⟨hx, hb, hml, hown, hts⟩ (kX0_lastBelow l dC dI oS oA oB cA cB n h P V p1 H.size hh hn) (cwV 1 hts gX1_placeToStart_X0_lastBelow rfl rfl rfl (by decide +kernel) ⟨Nat.le_of_ble_eq_true rfl, Nat.le_of_ble_eq_true rfl⟩) ⟨fun a U g mk q => by obtain ⟨q0, q1, qP, qK, qD⟩ := q; exact ⟨q0, q1, qP, va_K.moved (u := U) (U := U.calling g mk a) (Vm.Alike.refl U.vm) qK, qD⟩, va_recv hKc hPc (ci := 1) (q0 := 0) rfl rfl, fun U hU hW => ⟨rfl, by rw [hU], by rw [hU]; exact hPc, va_K.moved hW.alike hKc, hDc.weaken (fun _ _ _ _ => trivial)⟩⟩ rfl rfl hl.1 rfl (lv_room (Nat.le_of_ble_eq_true rfl)) dX1_placeToStart_115 ⟨Nat.le_of_ble_eq_true rfl, Nat.le_of_ble_eq_true rfl⟩) hS (fun q _ h => hFc q h) hFc (fun r_21 u t H1 locs ht hvm hw hB hz1 hk1 hS => ?_)
        obtain ⟨hP1, hK1, hD1⟩ := hB
        rw [ht] at hP1
        have hK1 := va_K.moved hvm.symm hK1
        try dsimp only at hw
        obtain ⟨hP, hD⟩ := va_join (wr := [(oF, .inr (2, [.int mo, .ref oS, .int th, .int om, .int sd, .int po, .int lr, .long lv, .int (nI d)]))]) (w1 := [(oS, .inr (1, [.ref oA, .ref oB, .int (nI h)])), (oA, .inl (cA, n, .inl P)), (oB, .inl (cB, n, .inr (.inl V)))]) hP hD [1, 2, 3] [0] rfl rfl (by decide) (by decide) hk1 hFc hP1 hD1
        generalize H1 = H at hP hS ⊢
        have hP : va_P (dC, dI) vwCl [(oF, .inr (2, [.int mo, .ref oS, .int th, .int om, .int sd, .int po, .int lr, .long lv, .int (nI d)])), (oS, .inr (1, [.ref oA, .ref oB, .int (nI h)])), (oA, .inl (cA, n, .inl P)), (oB, .inl (cB, n, .inr (.inl V)))] H := hP.sub [0, 1, 2, 3] rfl
        have hD : va_D A [(oF, .inr (2, [.int mo, .ref oS, .int th, .int om, .int sd, .int po, .int lr, .long lv, .int (nI d)])), (oS, .inr (1, [.ref oA, .ref oB, .int (nI h)])), (oA, .inl (cA, n, .inl P)), (oB, .inl (cB, n, .inr (.inl V)))] := hD.sub [0, 1, 2, 3] (by decide) rfl
        have hK : va_K (dC, dI) vwCl [(cA, .int), (cB, .long)] s := hK
        subst hw
        subst hQ9
        have e9 : fPS P h p0 p1 = fLB P h p1 := by simp only [fPS, if_neg s_1, if_neg s_6, if_neg s_8, if_neg s_14, if_pos s_16, if_neg b_18]
        rw [e9]
        exact W.iret (v := fLB P h p1) hx hb hr (fun t ht hW => ⟨⟨fLB P h p1, (), rfl, rfl, by rw [ht]; exact hP, va_K.moved hW.alike hK, hD⟩, hS.F ht⟩) hS.2.2 dX1_placeToStart_118
      · -- not taken at 103: ¬ 0 = 0
        exact absurd c_20 (by decide)
  refine lv_tableOut (tgt := 119) hx hb dX1_placeToStart_1 (sw_out4 s_1 s_6 s_8 s_14 s_16) (by decide) ?_
  refine lv_iconst (v := 0) hx hb dX1_placeToStart_119 (by decide) ?_
  subst hQ9
  have e9 : fPS P h p0 p1 = 0 := by simp only [fPS, if_neg s_1, if_neg s_6, if_neg s_8, if_neg s_14, if_neg s_16]
  rw [e9]
  exact W.iret (v := 0) hx hb hr (fun t ht hW => ⟨⟨0, (), rfl, rfl, by rw [ht]; exact hP, va_K.moved hW.alike hK, hD⟩, hS.F ht⟩) hS.2.2 dX1_placeToStart_120

set_option maxHeartbeats 1000000 in
set_option maxRecDepth 100000 in
theorem kX1_placeFromPosition (l : Launch) (dC : Nat → ClassId) (dI : Nat → Nat → Nat) (oF oS oA oB : Nat) (cA cB : ClassId) (n h d : Nat) (mo th om sd po lr : Int32) (lv : Int64) (P : Nat → Int32) (V : Nat → Int64) (p0 : Int32) (sz : Nat) (hh : h ≤ n) (hn : n ≤ 512) : Met l yX1_placeFromPosition wsX1_placeFromPosition ({ frames := 2, cells := 0, slots := 0, locals := 44 }) (va_Pc [.ref oF, .int p0] (fun U => U.heap.size = sz ∧ va_P (dC, dI) vwCl [(oF, .inr (2, [.int mo, .ref oS, .int th, .int om, .int sd, .int po, .int lr, .long lv, .int (nI d)])), (oS, .inr (1, [.ref oA, .ref oB, .int (nI h)])), (oA, .inl (cA, n, .inl P)), (oB, .inl (cB, n, .inr (.inl V)))] U.heap ∧ va_K (dC, dI) vwCl [(cA, .int), (cB, .long)] U ∧ va_D (fun _ => True) [(oF, .inr (2, [.int mo, .ref oS, .int th, .int om, .int sd, .int po, .int lr, .long lv, .int (nI d)])), (oS, .inr (1, [.ref oA, .ref oB, .int (nI h)])), (oA, .inl (cA, n, .inl P)), (oB, .inl (cB, n, .inr (.inl V)))])) (va_Qi (fun (r : Int32) (_ : Unit) => r = fPF sd po P h p0) (fun (_ : Unit) (t : State) => va_P (dC, dI) vwCl [(oF, .inr (2, [.int mo, .ref oS, .int th, .int om, .int sd, .int po, .int lr, .long lv, .int (nI d)])), (oS, .inr (1, [.ref oA, .ref oB, .int (nI h)])), (oA, .inl (cA, n, .inl P)), (oB, .inl (cB, n, .inr (.inl V)))] t.heap ∧ va_K (dC, dI) vwCl [(cA, .int), (cB, .long)] t ∧ va_D (va_A [(oF, .inr (2, [.int mo, .ref oS, .int th, .int om, .int sd, .int po, .int lr, .long lv, .int (nI d)])), (oS, .inr (1, [.ref oA, .ref oB, .int (nI h)])), (oA, .inl (cA, n, .inl P)), (oB, .inl (cB, n, .inr (.inl V)))] sz) [(oF, .inr (2, [.int mo, .ref oS, .int th, .int om, .int sd, .int po, .int lr, .long lv, .int (nI d)])), (oS, .inr (1, [.ref oA, .ref oB, .int (nI h)])), (oA, .inl (cA, n, .inl P)), (oB, .inl (cB, n, .inr (.inl V)))]) (va_A [(oF, .inr (2, [.int mo, .ref oS, .int th, .int om, .int sd, .int po, .int lr, .long lv, .int (nI d)])), (oS, .inr (1, [.ref oA, .ref oB, .int (nI h)])), (oA, .inl (cA, n, .inl P)), (oB, .inl (cB, n, .inr (.inl V)))] sz)) 0 0 (va_A [(oF, .inr (2, [.int mo, .ref oS, .int th, .int om, .int sd, .int po, .int lr, .long lv, .int (nI d)])), (oS, .inr (1, [.ref oA, .ref oB, .int (nI h)])), (oA, .inl (cA, n, .inl P)), (oB, .inl (cB, n, .inr (.inl V)))] sz) := by
  refine Met.ofW (cc := cX1_placeFromPosition) (maxL := 2) (ret := (some .int)) (by decide) rfl ?_
  intro p e s m args below meth c s₁ B hml hv
  obtain ⟨rfl, hsz, hP, hK, hD0⟩ := hv
  have hx := B.exec
  have hb := B.bytes
  have hr := B.returns
  have hts := atoms_spec (ws := wsX1_placeFromPosition) B.pre
  have hown : s.vm.findClass RX1 = some m.cls := findClass_of_methodNamed B.named
  have hlocks := B.notSynchronized
  subst hsz
  have hD := hD0.self (sz := s.heap.size)
  generalize hAe : va_A [(oF, .inr (2, [.int mo, .ref oS, .int th, .int om, .int sd, .int po, .int lr, .long lv, .int (nI d)])), (oS, .inr (1, [.ref oA, .ref oB, .int (nI h)])), (oA, .inl (cA, n, .inl P)), (oB, .inl (cB, n, .inr (.inl V)))] s.heap.size = A at hD ⊢
  have hA : ∀ q : Nat, s.heap.size ≤ q → A q := fun q h => by rw [← hAe]; exact Or.inr h
  have hS : va_S A s.heap s.heap [] := va_S.rf
  have hP : va_P (dC, dI) vwCl [(oF, .inr (2, [.int mo, .ref oS, .int th, .int om, .int sd, .int po, .int lr, .long lv, .int (nI d)])), (oS, .inr (1, [.ref oA, .ref oB, .int (nI h)])), (oA, .inl (cA, n, .inl P)), (oB, .inl (cB, n, .inr (.inl V)))] s.heap := hP
  have hl := lv_entry ([.ref oF, .int p0]) (n := 2) (Nat.le_of_ble_eq_true rfl)
  rw [lg_entry_eq]
  generalize (lg_sl ([.ref oF, .int p0]) ++ List.replicate (2 - (lg_sl ([.ref oF, .int p0])).length) Slot.unset).toArray = ls at hl ⊢
  have hl : lv_has ls 2 [(0, .ref oF), (1, .int p0)] := hl
  refine W_name (fun Q hQ9 => ?_)
  refine lv_aload_n hx hb dX1_placeFromPosition_0 rfl (lv_at hl 0 rfl) ?_
  refine va_get (D := (dC, dI)) (ci := 2) (v := .int sd) (C := RX1) (T := TX1) (N := 9) hx hb hts (by decide +kernel) hown hK hP 0 rfl rfl 4 (by decide) (hts (.fieldLink RX1 39 "RelativeFiles" "standing" "I") (by decide +kernel)) (fun _ h9 => h9) rfl dX1_placeFromPosition_1 ?_
  refine lv_iconst (v := 1) hx hb dX1_placeFromPosition_4 (by decide) ?_
  refine lv_icmp_ne (tgt := 27) hx hb dX1_placeFromPosition_5 (by decide) (fun c_1 => ?_) (fun c_1 => ?_)
  · -- taken at 5: ¬ sd = 1
    refine lv_iload_n hx hb dX1_placeFromPosition_27 rfl (lv_at hl 1 rfl) ?_
    refine lv_if_eq (tgt := 45) hx hb dX1_placeFromPosition_28 (by decide) (fun c_2 => ?_) (fun c_2 => ?_)
    · -- taken at 28: p0 = 0
      refine lv_aload_n hx hb dX1_placeFromPosition_45 rfl (lv_at hl 0 rfl) ?_
      refine va_get (D := (dC, dI)) (ci := 2) (v := .ref oS) (C := RX1) (T := TX1) (N := 9) hx hb hts (by decide +kernel) hown hK hP 0 rfl rfl 1 (by decide) (hts (.fieldLink RX1 28 "RelativeFiles" "shelf" "LRelativeFiles$Shelf;") (by decide +kernel)) (fun _ h9 => h9) rfl dX1_placeFromPosition_46 ?_
      refine lv_aload_n hx hb dX1_placeFromPosition_49 rfl (lv_at hl 0 rfl) ?_
      refine va_get (D := (dC, dI)) (ci := 2) (v := .int po) (C := RX1) (T := TX1) (N := 9) hx hb hts (by decide +kernel) hown hK hP 0 rfl rfl 5 (by decide) (hts (.fieldLink RX1 42 "RelativeFiles" "position" "I") (by decide +kernel)) (fun _ h9 => h9) rfl dX1_placeFromPosition_50 ?_
      have hPc := hP.sub (ws' := [(oS, .inr (1, [.ref oA, .ref oB, .int (nI h)])), (oA, .inl (cA, n, .inl P)), (oB, .inl (cB, n, .inr (.inl V)))]) [1, 2, 3] rfl
      have hDc := hD.sub (ws' := [(oS, .inr (1, [.ref oA, .ref oB, .int (nI h)])), (oA, .inl (cA, n, .inl P)), (oB, .inl (cB, n, .inr (.inl V)))]) [1, 2, 3] (by decide) rfl
      have hKc := hK.sub (tys' := [(cA, .int), (cB, .long)]) [0, 1] rfl
      have hFc := va_free (wc := [(oS, .inr (1, [.ref oA, .ref oB, .int (nI h)])), (oA, .inl (cA, n, .inl P)), (oB, .inl (cB, n, .inr (.inl V)))]) hD hS hA [1, 2, 3] rfl
      refine va_calli (va_runV (As := [.int po]) (rest := []) ⟨hx, hb, hml, hown, hts⟩ (kX0_firstAbove l dC dI oS oA oB cA cB n h P V po s.heap.size hh hn) (cwV 1 hts gX1_placeFromPosition_X0_firstAbove rfl rfl rfl (by decide +kernel) ⟨Nat.le_of_ble_eq_true rfl, Nat.le_of_ble_eq_true rfl⟩) ⟨fun a U g mk q => by obtain ⟨q0, q1, qP, qK, qD⟩ := q; exact ⟨q0, q1, qP, va_K.moved (u := U) (U := U.calling g mk a) (Vm.Alike.refl U.vm) qK, qD⟩, va_recv hKc hPc (ci := 1) (q0 := 0) rfl rfl, fun U hU hW => ⟨rfl, by rw [hU], by rw [hU]; exact hPc, va_K.moved hW.alike hKc, hDc.weaken (fun _ _ _ _ => trivial)⟩⟩ rfl rfl hl.1 rfl (lv_room (Nat.le_of_ble_eq_true rfl)) dX1_placeFromPosition_53 ⟨Nat.le_of_ble_eq_true rfl, Nat.le_of_ble_eq_true rfl⟩) hS (fun q _ h => hFc q h) hFc (fun r_3 u t H1 locs ht hvm hw hB hz1 hk1 hS => ?_)
      obtain ⟨hP1, hK1, hD1⟩ := hB
      rw [ht] at hP1
      have hK1 := va_K.moved hvm.symm hK1
      try dsimp only at hw
      obtain ⟨hP, hD⟩ := va_join (wr := [(oF, .inr (2, [.int mo, .ref oS, .int th, .int om, .int sd, .int po, .int lr, .long lv, .int (nI d)]))]) (w1 := [(oS, .inr (1, [.ref oA, .ref oB, .int (nI h)])), (oA, .inl (cA, n, .inl P)), (oB, .inl (cB, n, .inr (.inl V)))]) hP hD [1, 2, 3] [0] rfl rfl (by decide) (by decide) hk1 hFc hP1 hD1
      generalize H1 = H at hP hS ⊢
      have hP : va_P (dC, dI) vwCl [(oF, .inr (2, [.int mo, .ref oS, .int th, .int om, .int sd, .int po, .int lr, .long lv, .int (nI d)])), (oS, .inr (1, [.ref oA, .ref oB, .int (nI h)])), (oA, .inl (cA, n, .inl P)), (oB, .inl (cB, n, .inr (.inl V)))] H := hP.sub [0, 1, 2, 3] rfl
      have hD : va_D A [(oF, .inr (2, [.int mo, .ref oS, .int th, .int om, .int sd, .int po, .int lr, .long lv, .int (nI d)])), (oS, .inr (1, [.ref oA, .ref oB, .int (nI h)])), (oA, .inl (cA, n, .inl P)), (oB, .inl (cB, n, .inr (.inl V)))] := hD.sub [0, 1, 2, 3] (by decide) rfl
      have hK : va_K (dC, dI) vwCl [(cA, .int), (cB, .long)] s := hK
      subst hw
      subst hQ9
      have e9 : fPF sd po P h p0 = fFA P h po := by simp only [fPF, if_neg c_1, if_pos c_2]
      rw [e9]
      exact W.iret (v := fFA P h po) hx hb hr (fun t ht hW => ⟨⟨fFA P h po, (), rfl, rfl, by rw [ht]; exact hP, va_K.moved hW.alike hK, hD⟩, hS.F ht⟩) hS.2.2 dX1_placeFromPosition_56
    · -- not taken at 28: ¬ p0 = 0
      refine lv_aload_n hx hb dX1_placeFromPosition_31 rfl (lv_at hl 0 rfl) ?_
      refine va_get (D := (dC, dI)) (ci := 2) (v := .ref oS) (C := RX1) (T := TX1) (N := 9) hx hb hts (by decide +kernel) hown hK hP 0 rfl rfl 1 (by decide) (hts (.fieldLink RX1 28 "RelativeFiles" "shelf" "LRelativeFiles$Shelf;") (by decide +kernel)) (fun _ h9 => h9) rfl dX1_placeFromPosition_32 ?_
      refine lv_aload_n hx hb dX1_placeFromPosition_35 rfl (lv_at hl 0 rfl) ?_
      refine va_get (D := (dC, dI)) (ci := 2) (v := .int po) (C := RX1) (T := TX1) (N := 9) hx hb hts (by decide +kernel) hown hK hP 0 rfl rfl 5 (by decide) (hts (.fieldLink RX1 42 "RelativeFiles" "position" "I") (by decide +kernel)) (fun _ h9 => h9) rfl dX1_placeFromPosition_36 ?_
      have hPc := hP.sub (ws' := [(oS, .inr (1, [.ref oA, .ref oB, .int (nI h)])), (oA, .inl (cA, n, .inl P)), (oB, .inl (cB, n, .inr (.inl V)))]) [1, 2, 3] rfl
      have hDc := hD.sub (ws' := [(oS, .inr (1, [.ref oA, .ref oB, .int (nI h)])), (oA, .inl (cA, n, .inl P)), (oB, .inl (cB, n, .inr (.inl V)))]) [1, 2, 3] (by decide) rfl
      have hKc := hK.sub (tys' := [(cA, .int), (cB, .long)]) [0, 1] rfl
      have hFc := va_free (wc := [(oS, .inr (1, [.ref oA, .ref oB, .int (nI h)])), (oA, .inl (cA, n, .inl P)), (oB, .inl (cB, n, .inr (.inl V)))]) hD hS hA [1, 2, 3] rfl
      refine va_calli (va_runV (As := [.int po]) (rest := []) ⟨hx, hb, hml, hown, hts⟩ (kX0_lastBelow l dC dI oS oA oB cA cB n h P V po s.heap.size hh hn) (cwV 1 hts gX1_placeFromPosition_X0_lastBelow rfl rfl rfl (by decide +kernel) ⟨Nat.le_of_ble_eq_true rfl, Nat.le_of_ble_eq_true rfl⟩) ⟨fun a U g mk q => by obtain ⟨q0, q1, qP, qK, qD⟩ := q; exact ⟨q0, q1, qP, va_K.moved (u := U) (U := U.calling g mk a) (Vm.Alike.refl U.vm) qK, qD⟩, va_recv hKc hPc (ci := 1) (q0 := 0) rfl rfl, fun U hU hW => ⟨rfl, by rw [hU], by rw [hU]; exact hPc, va_K.moved hW.alike hKc, hDc.weaken (fun _ _ _ _ => trivial)⟩⟩ rfl rfl hl.1 rfl (lv_room (Nat.le_of_ble_eq_true rfl)) dX1_placeFromPosition_39 ⟨Nat.le_of_ble_eq_true rfl, Nat.le_of_ble_eq_true rfl⟩) hS (fun q _ h => hFc q h) hFc (fun r_4 u t H1 locs ht hvm hw hB hz1 hk1 hS => ?_)
      obtain ⟨hP1, hK1, hD1⟩ := hB
      rw [ht] at hP1
      have hK1 := va_K.moved hvm.symm hK1
      try dsimp only at hw
      obtain ⟨hP, hD⟩ := va_join (wr := [(oF, .inr (2, [.int mo, .ref oS, .int th, .int om, .int sd, .int po, .int lr, .long lv, .int (nI d)]))]) (w1 := [(oS, .inr (1, [.ref oA, .ref oB, .int (nI h)])), (oA, .inl (cA, n, .inl P)), (oB, .inl (cB, n, .inr (.inl V)))]) hP hD [1, 2, 3] [0] rfl rfl (by decide) (by decide) hk1 hFc hP1 hD1
      generalize H1 = H at hP hS ⊢
      have hP : va_P (dC, dI) vwCl [(oF, .inr (2, [.int mo, .ref oS, .int th, .int om, .int sd, .int po, .int lr, .long lv, .int (nI d)])), (oS, .inr (1, [.ref oA, .ref oB, .int (nI h)])), (oA, .inl (cA, n, .inl P)), (oB, .inl (cB, n, .inr (.inl V)))] H := hP.sub [0, 1, 2, 3] rfl
      have hD : va_D A [(oF, .inr (2, [.int mo, .ref oS, .int th, .int om, .int sd, .int po, .int lr, .long lv, .int (nI d)])), (oS, .inr (1, [.ref oA, .ref oB, .int (nI h)])), (oA, .inl (cA, n, .inl P)), (oB, .inl (cB, n, .inr (.inl V)))] := hD.sub [0, 1, 2, 3] (by decide) rfl
      have hK : va_K (dC, dI) vwCl [(cA, .int), (cB, .long)] s := hK
      subst hw
      refine lv_goto (tgt := 56) hx hb dX1_placeFromPosition_42 (by decide) ?_
      subst hQ9
      have e9 : fPF sd po P h p0 = fLB P h po := by simp only [fPF, if_neg c_1, if_neg c_2]
      rw [e9]
      exact W.iret (v := fLB P h po) hx hb hr (fun t ht hW => ⟨⟨fLB P h po, (), rfl, rfl, by rw [ht]; exact hP, va_K.moved hW.alike hK, hD⟩, hS.F ht⟩) hS.2.2 dX1_placeFromPosition_56
  · -- not taken at 5: sd = 1
    refine lv_aload_n hx hb dX1_placeFromPosition_8 rfl (lv_at hl 0 rfl) ?_
    refine va_get (D := (dC, dI)) (ci := 2) (v := .ref oS) (C := RX1) (T := TX1) (N := 9) hx hb hts (by decide +kernel) hown hK hP 0 rfl rfl 1 (by decide) (hts (.fieldLink RX1 28 "RelativeFiles" "shelf" "LRelativeFiles$Shelf;") (by decide +kernel)) (fun _ h9 => h9) rfl dX1_placeFromPosition_9 ?_
    refine lv_aload_n hx hb dX1_placeFromPosition_12 rfl (lv_at hl 0 rfl) ?_
    refine va_get (D := (dC, dI)) (ci := 2) (v := .int po) (C := RX1) (T := TX1) (N := 9) hx hb hts (by decide +kernel) hown hK hP 0 rfl rfl 5 (by decide) (hts (.fieldLink RX1 42 "RelativeFiles" "position" "I") (by decide +kernel)) (fun _ h9 => h9) rfl dX1_placeFromPosition_13 ?_
    have hPc := hP.sub (ws' := [(oS, .inr (1, [.ref oA, .ref oB, .int (nI h)])), (oA, .inl (cA, n, .inl P)), (oB, .inl (cB, n, .inr (.inl V)))]) [1, 2, 3] rfl
    have hDc := hD.sub (ws' := [(oS, .inr (1, [.ref oA, .ref oB, .int (nI h)])), (oA, .inl (cA, n, .inl P)), (oB, .inl (cB, n, .inr (.inl V)))]) [1, 2, 3] (by decide) rfl
    have hKc := hK.sub (tys' := [(cA, .int), (cB, .long)]) [0, 1] rfl
    have hFc := va_free (wc := [(oS, .inr (1, [.ref oA, .ref oB, .int (nI h)])), (oA, .inl (cA, n, .inl P)), (oB, .inl (cB, n, .inr (.inl V)))]) hD hS hA [1, 2, 3] rfl
    refine va_calli (va_runV (As := [.int po]) (rest := []) ⟨hx, hb, hml, hown, hts⟩ (kX0_has l dC dI oS oA oB cA cB n h P V po s.heap.size hh hn) (cwV 1 hts gX1_placeFromPosition_X0_has rfl rfl rfl (by decide +kernel) ⟨Nat.le_of_ble_eq_true rfl, Nat.le_of_ble_eq_true rfl⟩) ⟨fun a U g mk q => by obtain ⟨q0, q1, qP, qK, qD⟩ := q; exact ⟨q0, q1, qP, va_K.moved (u := U) (U := U.calling g mk a) (Vm.Alike.refl U.vm) qK, qD⟩, va_recv hKc hPc (ci := 1) (q0 := 0) rfl rfl, fun U hU hW => ⟨rfl, by rw [hU], by rw [hU]; exact hPc, va_K.moved hW.alike hKc, hDc.weaken (fun _ _ _ _ => trivial)⟩⟩ rfl rfl hl.1 rfl (lv_room (Nat.le_of_ble_eq_true rfl)) dX1_placeFromPosition_16 ⟨Nat.le_of_ble_eq_true rfl, Nat.le_of_ble_eq_true rfl⟩) hS (fun q _ h => hFc q h) hFc (fun r_5 u t H1 locs ht hvm hw hB hz1 hk1 hS => ?_)
    obtain ⟨hP1, hK1, hD1⟩ := hB
    rw [ht] at hP1
    have hK1 := va_K.moved hvm.symm hK1
    try dsimp only at hw
    obtain ⟨hP, hD⟩ := va_join (wr := [(oF, .inr (2, [.int mo, .ref oS, .int th, .int om, .int sd, .int po, .int lr, .long lv, .int (nI d)]))]) (w1 := [(oS, .inr (1, [.ref oA, .ref oB, .int (nI h)])), (oA, .inl (cA, n, .inl P)), (oB, .inl (cB, n, .inr (.inl V)))]) hP hD [1, 2, 3] [0] rfl rfl (by decide) (by decide) hk1 hFc hP1 hD1
    generalize H1 = H at hP hS ⊢
    have hP : va_P (dC, dI) vwCl [(oF, .inr (2, [.int mo, .ref oS, .int th, .int om, .int sd, .int po, .int lr, .long lv, .int (nI d)])), (oS, .inr (1, [.ref oA, .ref oB, .int (nI h)])), (oA, .inl (cA, n, .inl P)), (oB, .inl (cB, n, .inr (.inl V)))] H := hP.sub [0, 1, 2, 3] rfl
    have hD : va_D A [(oF, .inr (2, [.int mo, .ref oS, .int th, .int om, .int sd, .int po, .int lr, .long lv, .int (nI d)])), (oS, .inr (1, [.ref oA, .ref oB, .int (nI h)])), (oA, .inl (cA, n, .inl P)), (oB, .inl (cB, n, .inr (.inl V)))] := hD.sub [0, 1, 2, 3] (by decide) rfl
    have hK : va_K (dC, dI) vwCl [(cA, .int), (cB, .long)] s := hK
    rcases hw with ⟨b_6, hw⟩ | ⟨b_6, hw⟩
    · -- hasS P h po
      subst hw
      refine lv_if_eq (tgt := 27) hx hb dX1_placeFromPosition_19 (by decide) (fun c_7 => ?_) (fun c_7 => ?_)
      · -- taken at 19: 1 = 0
        exact absurd c_7 (by decide)
      · -- not taken at 19: ¬ 1 = 0
        refine lv_aload_n hx hb dX1_placeFromPosition_22 rfl (lv_at hl 0 rfl) ?_
        refine va_get (D := (dC, dI)) (ci := 2) (v := .int po) (C := RX1) (T := TX1) (N := 9) hx hb hts (by decide +kernel) hown hK hP 0 rfl rfl 5 (by decide) (hts (.fieldLink RX1 42 "RelativeFiles" "position" "I") (by decide +kernel)) (fun _ h9 => h9) rfl dX1_placeFromPosition_23 ?_
        subst hQ9
        have e9 : fPF sd po P h p0 = po := by simp only [fPF, if_pos c_1, if_pos b_6]
        rw [e9]
        exact W.iret (v := po) hx hb hr (fun t ht hW => ⟨⟨po, (), rfl, rfl, by rw [ht]; exact hP, va_K.moved hW.alike hK, hD⟩, hS.F ht⟩) hS.2.2 dX1_placeFromPosition_26
    · -- ¬ (hasS P h po)
      subst hw
      refine lv_if_eq (tgt := 27) hx hb dX1_placeFromPosition_19 (by decide) (fun c_8 => ?_) (fun c_8 => ?_)
      · -- taken at 19: 0 = 0
        refine lv_iload_n hx hb dX1_placeFromPosition_27 rfl (lv_at hl 1 rfl) ?_
        refine lv_if_eq (tgt := 45) hx hb dX1_placeFromPosition_28 (by decide) (fun c_9 => ?_) (fun c_9 => ?_)
        · -- taken at 28: p0 = 0
          refine lv_aload_n hx hb dX1_placeFromPosition_45 rfl (lv_at hl 0 rfl) ?_
          refine va_get (D := (dC, dI)) (ci := 2) (v := .ref oS) (C := RX1) (T := TX1) (N := 9) hx hb hts (by decide +kernel) hown hK hP 0 rfl rfl 1 (by decide) (hts (.fieldLink RX1 28 "RelativeFiles" "shelf" "LRelativeFiles$Shelf;") (by decide +kernel)) (fun _ h9 => h9) rfl dX1_placeFromPosition_46 ?_
          refine lv_aload_n hx hb dX1_placeFromPosition_49 rfl (lv_at hl 0 rfl) ?_
          refine va_get (D := (dC, dI)) (ci := 2) (v := .int po) (C := RX1) (T := TX1) (N := 9) hx hb hts (by decide +kernel) hown hK hP 0 rfl rfl 5 (by decide) (hts (.fieldLink RX1 42 "RelativeFiles" "position" "I") (by decide +kernel)) (fun _ h9 => h9) rfl dX1_placeFromPosition_50 ?_
          have hPc := hP.sub (ws' := [(oS, .inr (1, [.ref oA, .ref oB, .int (nI h)])), (oA, .inl (cA, n, .inl P)), (oB, .inl (cB, n, .inr (.inl V)))]) [1, 2, 3] rfl
          have hDc := hD.sub (ws' := [(oS, .inr (1, [.ref oA, .ref oB, .int (nI h)])), (oA, .inl (cA, n, .inl P)), (oB, .inl (cB, n, .inr (.inl V)))]) [1, 2, 3] (by decide) rfl
          have hKc := hK.sub (tys' := [(cA, .int), (cB, .long)]) [0, 1] rfl
          have hFc := va_free (wc := [(oS, .inr (1, [.ref oA, .ref oB, .int (nI h)])), (oA, .inl (cA, n, .inl P)), (oB, .inl (cB, n, .inr (.inl V)))]) hD hS hA [1, 2, 3] rfl
          refine va_calli (va_runV (As := [.int po]) (rest := []) ⟨hx, hb, hml, hown, hts⟩ (kX0_firstAbove l dC dI oS oA oB cA cB n h P V po H.size hh hn) (cwV 1 hts gX1_placeFromPosition_X0_firstAbove rfl rfl rfl (by decide +kernel) ⟨Nat.le_of_ble_eq_true rfl, Nat.le_of_ble_eq_true rfl⟩) ⟨fun a U g mk q => by obtain ⟨q0, q1, qP, qK, qD⟩ := q; exact ⟨q0, q1, qP, va_K.moved (u := U) (U := U.calling g mk a) (Vm.Alike.refl U.vm) qK, qD⟩, va_recv hKc hPc (ci := 1) (q0 := 0) rfl rfl, fun U hU hW => ⟨rfl, by rw [hU], by rw [hU]; exact hPc, va_K.moved hW.alike hKc, hDc.weaken (fun _ _ _ _ => trivial)⟩⟩ rfl rfl hl.1 rfl (lv_room (Nat.le_of_ble_eq_true rfl)) dX1_placeFromPosition_53 ⟨Nat.le_of_ble_eq_true rfl, Nat.le_of_ble_eq_true rfl⟩) hS (fun q _ h => hFc q h) hFc (fun r_10 u t H1 locs ht hvm hw hB hz1 hk1 hS => ?_)
          obtain ⟨hP1, hK1, hD1⟩ := hB
          rw [ht] at hP1
          have hK1 := va_K.moved hvm.symm hK1
          try dsimp only at hw
          obtain ⟨hP, hD⟩ := va_join (wr := [(oF, .inr (2, [.int mo, .ref oS, .int th, .int om, .int sd, .int po, .int lr, .long lv, .int (nI d)]))]) (w1 := [(oS, .inr (1, [.ref oA, .ref oB, .int (nI h)])), (oA, .inl (cA, n, .inl P)), (oB, .inl (cB, n, .inr (.inl V)))]) hP hD [1, 2, 3] [0] rfl rfl (by decide) (by decide) hk1 hFc hP1 hD1
          generalize H1 = H at hP hS ⊢
          have hP : va_P (dC, dI) vwCl [(oF, .inr (2, [.int mo, .ref oS, .int th, .int om, .int sd, .int po, .int lr, .long lv, .int (nI d)])), (oS, .inr (1, [.ref oA, .ref oB, .int (nI h)])), (oA, .inl (cA, n, .inl P)), (oB, .inl (cB, n, .inr (.inl V)))] H := hP.sub [0, 1, 2, 3] rfl
          have hD : va_D A [(oF, .inr (2, [.int mo, .ref oS, .int th, .int om, .int sd, .int po, .int lr, .long lv, .int (nI d)])), (oS, .inr (1, [.ref oA, .ref oB, .int (nI h)])), (oA, .inl (cA, n, .inl P)), (oB, .inl (cB, n, .inr (.inl V)))] := hD.sub [0, 1, 2, 3] (by decide) rfl
          have hK : va_K (dC, dI) vwCl [(cA, .int), (cB, .long)] s := hK
          subst hw
          subst hQ9
          have e9 : fPF sd po P h p0 = fFA P h po := by simp only [fPF, if_pos c_1, if_neg b_6, if_pos c_9]
          rw [e9]
          exact W.iret (v := fFA P h po) hx hb hr (fun t ht hW => ⟨⟨fFA P h po, (), rfl, rfl, by rw [ht]; exact hP, va_K.moved hW.alike hK, hD⟩, hS.F ht⟩) hS.2.2 dX1_placeFromPosition_56
        · -- not taken at 28: ¬ p0 = 0
          refine lv_aload_n hx hb dX1_placeFromPosition_31 rfl (lv_at hl 0 rfl) ?_
          refine va_get (D := (dC, dI)) (ci := 2) (v := .ref oS) (C := RX1) (T := TX1) (N := 9) hx hb hts (by decide +kernel) hown hK hP 0 rfl rfl 1 (by decide) (hts (.fieldLink RX1 28 "RelativeFiles" "shelf" "LRelativeFiles$Shelf;") (by decide +kernel)) (fun _ h9 => h9) rfl dX1_placeFromPosition_32 ?_
          refine lv_aload_n hx hb dX1_placeFromPosition_35 rfl (lv_at hl 0 rfl) ?_
          refine va_get (D := (dC, dI)) (ci := 2) (v := .int po) (C := RX1) (T := TX1) (N := 9) hx hb hts (by decide +kernel) hown hK hP 0 rfl rfl 5 (by decide) (hts (.fieldLink RX1 42 "RelativeFiles" "position" "I") (by decide +kernel)) (fun _ h9 => h9) rfl dX1_placeFromPosition_36 ?_
          have hPc := hP.sub (ws' := [(oS, .inr (1, [.ref oA, .ref oB, .int (nI h)])), (oA, .inl (cA, n, .inl P)), (oB, .inl (cB, n, .inr (.inl V)))]) [1, 2, 3] rfl
          have hDc := hD.sub (ws' := [(oS, .inr (1, [.ref oA, .ref oB, .int (nI h)])), (oA, .inl (cA, n, .inl P)), (oB, .inl (cB, n, .inr (.inl V)))]) [1, 2, 3] (by decide) rfl
          have hKc := hK.sub (tys' := [(cA, .int), (cB, .long)]) [0, 1] rfl
          have hFc := va_free (wc := [(oS, .inr (1, [.ref oA, .ref oB, .int (nI h)])), (oA, .inl (cA, n, .inl P)), (oB, .inl (cB, n, .inr (.inl V)))]) hD hS hA [1, 2, 3] rfl
          refine va_calli (va_runV (As := [.int po]) (rest := []) ⟨hx, hb, hml, hown, hts⟩ (kX0_lastBelow l dC dI oS oA oB cA cB n h P V po H.size hh hn) (cwV 1 hts gX1_placeFromPosition_X0_lastBelow rfl rfl rfl (by decide +kernel) ⟨Nat.le_of_ble_eq_true rfl, Nat.le_of_ble_eq_true rfl⟩) ⟨fun a U g mk q => by obtain ⟨q0, q1, qP, qK, qD⟩ := q; exact ⟨q0, q1, qP, va_K.moved (u := U) (U := U.calling g mk a) (Vm.Alike.refl U.vm) qK, qD⟩, va_recv hKc hPc (ci := 1) (q0 := 0) rfl rfl, fun U hU hW => ⟨rfl, by rw [hU], by rw [hU]; exact hPc, va_K.moved hW.alike hKc, hDc.weaken (fun _ _ _ _ => trivial)⟩⟩ rfl rfl hl.1 rfl (lv_room (Nat.le_of_ble_eq_true rfl)) dX1_placeFromPosition_39 ⟨Nat.le_of_ble_eq_true rfl, Nat.le_of_ble_eq_true rfl⟩) hS (fun q _ h => hFc q h) hFc (fun r_11 u t H1 locs ht hvm hw hB hz1 hk1 hS => ?_)
          obtain ⟨hP1, hK1, hD1⟩ := hB
          rw [ht] at hP1
          have hK1 := va_K.moved hvm.symm hK1
          try dsimp only at hw
          obtain ⟨hP, hD⟩ := va_join (wr := [(oF, .inr (2, [.int mo, .ref oS, .int th, .int om, .int sd, .int po, .int lr, .long lv, .int (nI d)]))]) (w1 := [(oS, .inr (1, [.ref oA, .ref oB, .int (nI h)])), (oA, .inl (cA, n, .inl P)), (oB, .inl (cB, n, .inr (.inl V)))]) hP hD [1, 2, 3] [0] rfl rfl (by decide) (by decide) hk1 hFc hP1 hD1
          generalize H1 = H at hP hS ⊢
          have hP : va_P (dC, dI) vwCl [(oF, .inr (2, [.int mo, .ref oS, .int th, .int om, .int sd, .int po, .int lr, .long lv, .int (nI d)])), (oS, .inr (1, [.ref oA, .ref oB, .int (nI h)])), (oA, .inl (cA, n, .inl P)), (oB, .inl (cB, n, .inr (.inl V)))] H := hP.sub [0, 1, 2, 3] rfl
          have hD : va_D A [(oF, .inr (2, [.int mo, .ref oS, .int th, .int om, .int sd, .int po, .int lr, .long lv, .int (nI d)])), (oS, .inr (1, [.ref oA, .ref oB, .int (nI h)])), (oA, .inl (cA, n, .inl P)), (oB, .inl (cB, n, .inr (.inl V)))] := hD.sub [0, 1, 2, 3] (by decide) rfl
          have hK : va_K (dC, dI) vwCl [(cA, .int), (cB, .long)] s := hK
          subst hw
          refine lv_goto (tgt := 56) hx hb dX1_placeFromPosition_42 (by decide) ?_
          subst hQ9
          have e9 : fPF sd po P h p0 = fLB P h po := by simp only [fPF, if_pos c_1, if_neg b_6, if_neg c_9]
          rw [e9]
          exact W.iret (v := fLB P h po) hx hb hr (fun t ht hW => ⟨⟨fLB P h po, (), rfl, rfl, by rw [ht]; exact hP, va_K.moved hW.alike hK, hD⟩, hS.F ht⟩) hS.2.2 dX1_placeFromPosition_56
      · -- not taken at 19: ¬ 0 = 0
        exact absurd c_8 (by decide)

set_option maxHeartbeats 1000000 in
set_option maxRecDepth 100000 in
theorem kX1_closeFile (l : Launch) (dC : Nat → ClassId) (dI : Nat → Nat → Nat) (oF oS oA oB : Nat) (cA cB : ClassId) (n h d : Nat) (mo th om sd po lr : Int32) (lv : Int64) (P : Nat → Int32) (V : Nat → Int64) (sz : Nat) (hh : h ≤ n) (hn : n ≤ 512) : Met l yX1_closeFile wsX1_closeFile ({ frames := 1, cells := 0, slots := 0, locals := 22 }) (va_Pc [.ref oF] (fun U => U.heap.size = sz ∧ va_P (dC, dI) vwCl [(oF, .inr (2, [.int mo, .ref oS, .int th, .int om, .int sd, .int po, .int lr, .long lv, .int (nI d)])), (oS, .inr (1, [.ref oA, .ref oB, .int (nI h)])), (oA, .inl (cA, n, .inl P)), (oB, .inl (cB, n, .inr (.inl V)))] U.heap ∧ va_K (dC, dI) vwCl [(cA, .int), (cB, .long)] U ∧ va_D (fun _ => True) [(oF, .inr (2, [.int mo, .ref oS, .int th, .int om, .int sd, .int po, .int lr, .long lv, .int (nI d)])), (oS, .inr (1, [.ref oA, .ref oB, .int (nI h)])), (oA, .inl (cA, n, .inl P)), (oB, .inl (cB, n, .inr (.inl V)))])) (va_Qi (fun (r : Int32) (_ : Unit) => r = (fClose (th, om, sd, po, lr, lv, d, P, V, h)).1) (fun (_ : Unit) (t : State) => va_P (dC, dI) vwCl (wF oF oS oA oB cA cB n mo (fClose  (th, om, sd, po, lr, lv, d, P, V, h)).2) t.heap ∧ va_K (dC, dI) vwCl [(cA, .int), (cB, .long)] t ∧ va_D (va_A [(oF, .inr (2, [.int mo, .ref oS, .int th, .int om, .int sd, .int po, .int lr, .long lv, .int (nI d)])), (oS, .inr (1, [.ref oA, .ref oB, .int (nI h)])), (oA, .inl (cA, n, .inl P)), (oB, .inl (cB, n, .inr (.inl V)))] sz) (wF oF oS oA oB cA cB n mo (fClose  (th, om, sd, po, lr, lv, d, P, V, h)).2)) (va_A [(oF, .inr (2, [.int mo, .ref oS, .int th, .int om, .int sd, .int po, .int lr, .long lv, .int (nI d)])), (oS, .inr (1, [.ref oA, .ref oB, .int (nI h)])), (oA, .inl (cA, n, .inl P)), (oB, .inl (cB, n, .inr (.inl V)))] sz)) 0 0 (va_A [(oF, .inr (2, [.int mo, .ref oS, .int th, .int om, .int sd, .int po, .int lr, .long lv, .int (nI d)])), (oS, .inr (1, [.ref oA, .ref oB, .int (nI h)])), (oA, .inl (cA, n, .inl P)), (oB, .inl (cB, n, .inr (.inl V)))] sz) := by
  refine Met.ofW (cc := cX1_closeFile) (maxL := 1) (ret := (some .int)) (by decide) rfl ?_
  intro p e s m args below meth c s₁ B hml hv
  obtain ⟨rfl, hsz, hP, hK, hD0⟩ := hv
  have hx := B.exec
  have hb := B.bytes
  have hr := B.returns
  have hts := atoms_spec (ws := wsX1_closeFile) B.pre
  have hown : s.vm.findClass RX1 = some m.cls := findClass_of_methodNamed B.named
  have hlocks := B.notSynchronized
  subst hsz
  have hD := hD0.self (sz := s.heap.size)
  generalize hAe : va_A [(oF, .inr (2, [.int mo, .ref oS, .int th, .int om, .int sd, .int po, .int lr, .long lv, .int (nI d)])), (oS, .inr (1, [.ref oA, .ref oB, .int (nI h)])), (oA, .inl (cA, n, .inl P)), (oB, .inl (cB, n, .inr (.inl V)))] s.heap.size = A at hD ⊢
  have hA : ∀ q : Nat, s.heap.size ≤ q → A q := fun q h => by rw [← hAe]; exact Or.inr h
  have hS : va_S A s.heap s.heap [] := va_S.rf
  have hP : va_P (dC, dI) vwCl [(oF, .inr (2, [.int mo, .ref oS, .int th, .int om, .int sd, .int po, .int lr, .long lv, .int (nI d)])), (oS, .inr (1, [.ref oA, .ref oB, .int (nI h)])), (oA, .inl (cA, n, .inl P)), (oB, .inl (cB, n, .inr (.inl V)))] s.heap := hP
  have hl := lv_entry ([.ref oF]) (n := 1) (Nat.le_of_ble_eq_true rfl)
  rw [lg_entry_eq]
  generalize (lg_sl ([.ref oF]) ++ List.replicate (1 - (lg_sl ([.ref oF])).length) Slot.unset).toArray = ls at hl ⊢
  have hl : lv_has ls 1 [(0, .ref oF)] := hl
  refine W_name (fun Q hQ9 => ?_)
  refine lv_aload_n hx hb dX1_closeFile_0 rfl (lv_at hl 0 rfl) ?_
  refine va_get (D := (dC, dI)) (ci := 2) (v := .int om) (C := RX1) (T := TX1) (N := 9) hx hb hts (by decide +kernel) hown hK hP 0 rfl rfl 3 (by decide) (hts (.fieldLink RX1 36 "RelativeFiles" "openMode" "I") (by decide +kernel)) (fun _ h9 => h9) rfl dX1_closeFile_1 ?_
  refine lv_iconst (v := (-1)) hx hb dX1_closeFile_4 (by decide) ?_
  refine lv_icmp_ne (tgt := 11) hx hb dX1_closeFile_5 (by decide) (fun c_1 => ?_) (fun c_1 => ?_)
  · -- taken at 5: ¬ om = (-1)
    refine lv_aload_n hx hb dX1_closeFile_11 rfl (lv_at hl 0 rfl) ?_
    refine lv_iconst (v := 0) hx hb dX1_closeFile_12 (by decide) ?_
    refine lv_iconst (v := 0) hx hb dX1_closeFile_13 (by decide) ?_
    have hPc := hP.sub (ws' := [(oF, .inr (2, [.int mo, .ref oS, .int th, .int om, .int sd, .int po, .int lr, .long lv, .int (nI d)])), (oS, .inr (1, [.ref oA, .ref oB, .int (nI h)])), (oA, .inl (cA, n, .inl P)), (oB, .inl (cB, n, .inr (.inl V)))]) [0, 1, 2, 3] rfl
    have hDc := hD.sub (ws' := [(oF, .inr (2, [.int mo, .ref oS, .int th, .int om, .int sd, .int po, .int lr, .long lv, .int (nI d)])), (oS, .inr (1, [.ref oA, .ref oB, .int (nI h)])), (oA, .inl (cA, n, .inl P)), (oB, .inl (cB, n, .inr (.inl V)))]) [0, 1, 2, 3] (by decide) rfl
    have hKc := hK.sub (tys' := [(cA, .int), (cB, .long)]) [0, 1] rfl
    have hFc := va_free (wc := [(oF, .inr (2, [.int mo, .ref oS, .int th, .int om, .int sd, .int po, .int lr, .long lv, .int (nI d)])), (oS, .inr (1, [.ref oA, .ref oB, .int (nI h)])), (oA, .inl (cA, n, .inl P)), (oB, .inl (cB, n, .inr (.inl V)))]) hD hS hA [0, 1, 2, 3] rfl
    refine va_callv (va_runV (As := [.int 0, .int 0]) (rest := []) ⟨hx, hb, hml, hown, hts⟩ (kX1_stand l dC dI oF oS oA oB cA cB n h d mo th om sd po lr lv P V 0 0 s.heap.size hh hn) (cwV 2 hts gX1_closeFile_X1_stand rfl rfl rfl (by decide +kernel) ⟨Nat.le_of_ble_eq_true rfl, Nat.le_of_ble_eq_true rfl⟩) ⟨fun a U g mk q => by obtain ⟨q0, q1, qP, qK, qD⟩ := q; exact ⟨q0, q1, qP, va_K.moved (u := U) (U := U.calling g mk a) (Vm.Alike.refl U.vm) qK, qD⟩, va_recv hKc hPc (ci := 2) (q0 := 0) rfl rfl, fun U hU hW => ⟨rfl, by rw [hU], by rw [hU]; exact hPc, va_K.moved hW.alike hKc, hDc.weaken (fun _ _ _ _ => trivial)⟩⟩ rfl rfl hl.1 rfl (lv_room (Nat.le_of_ble_eq_true rfl)) dX1_closeFile_14 ⟨Nat.le_of_ble_eq_true rfl, Nat.le_of_ble_eq_true rfl⟩) hS (fun q _ h => hFc q h) hFc (fun u t H1 locs ht hvm hw hB hz1 hk1 hS => ?_)
    obtain ⟨hP1, hK1, hD1⟩ := hB
    rw [ht] at hP1
    have hK1 := va_K.moved hvm.symm hK1
    try dsimp only at hw
    obtain ⟨hP, hD⟩ := va_join (wr := []) (w1 := [(oF, .inr (2, [.int mo, .ref oS, .int th, .int om, .int 0, .int 0, .int 0, .long lv, .int (nI d)])), (oS, .inr (1, [.ref oA, .ref oB, .int (nI h)])), (oA, .inl (cA, n, .inl P)), (oB, .inl (cB, n, .inr (.inl V)))]) hP hD [0, 1, 2, 3] [] rfl rfl (by decide) (by decide) hk1 hFc hP1 hD1
    generalize H1 = H at hP hS ⊢
    have hP : va_P (dC, dI) vwCl [(oF, .inr (2, [.int mo, .ref oS, .int th, .int om, .int 0, .int 0, .int 0, .long lv, .int (nI d)])), (oS, .inr (1, [.ref oA, .ref oB, .int (nI h)])), (oA, .inl (cA, n, .inl P)), (oB, .inl (cB, n, .inr (.inl V)))] H := hP.sub [0, 1, 2, 3] rfl
    have hD : va_D A [(oF, .inr (2, [.int mo, .ref oS, .int th, .int om, .int 0, .int 0, .int 0, .long lv, .int (nI d)])), (oS, .inr (1, [.ref oA, .ref oB, .int (nI h)])), (oA, .inl (cA, n, .inl P)), (oB, .inl (cB, n, .inr (.inl V)))] := hD.sub [0, 1, 2, 3] (by decide) rfl
    have hK : va_K (dC, dI) vwCl [(cA, .int), (cB, .long)] s := hK
    refine lv_aload_n hx hb dX1_closeFile_17 rfl (lv_at hl 0 rfl) ?_
    refine lv_iconst (v := (-1)) hx hb dX1_closeFile_18 (by decide) ?_
    refine va_put (D := (dC, dI)) (ci := 2) (v := .int (-1)) (ty := .int) (C := RX1) (T := TX1) (N := 9) hx hb hts (by decide +kernel) tyX1 tyX1_ok nmX1 hown hK hP hD hS 0 rfl rfl 3 (by decide) (hts (.fieldLink RX1 36 "RelativeFiles" "openMode" "I") (by decide +kernel)) (fun _ h9 => h9) rfl (by decide +kernel) rfl rfl (Nat.le_of_ble_eq_true rfl) dX1_closeFile_19 (fun H locs hP hD hS => ?_)
    have hP : va_P (dC, dI) vwCl [(oF, .inr (2, [.int mo, .ref oS, .int th, .int (-1), .int 0, .int 0, .int 0, .long lv, .int (nI d)])), (oS, .inr (1, [.ref oA, .ref oB, .int (nI h)])), (oA, .inl (cA, n, .inl P)), (oB, .inl (cB, n, .inr (.inl V)))] H := hP
    have hD : va_D A [(oF, .inr (2, [.int mo, .ref oS, .int th, .int (-1), .int 0, .int 0, .int 0, .long lv, .int (nI d)])), (oS, .inr (1, [.ref oA, .ref oB, .int (nI h)])), (oA, .inl (cA, n, .inl P)), (oB, .inl (cB, n, .inr (.inl V)))] := hD
    refine lv_iconst (v := 0) hx hb dX1_closeFile_22 (by decide) ?_
    subst hQ9
    have e9 : fClose (th, om, sd, po, lr, lv, d, P, V, h) = (0, (th, (-1), 0, 0, 0, lv, d, P, V, h)) := by simp only [fClose, if_neg c_1]
    rw [e9]
    exact W.iret (v := 0) hx hb hr (fun t ht hW => ⟨⟨0, (), rfl, rfl, by rw [ht]; exact hP, va_K.moved hW.alike hK, hD⟩, hS.F ht⟩) hS.2.2 dX1_closeFile_23
  · -- not taken at 5: om = (-1)
    refine lv_bipush (v := 42) hx hb dX1_closeFile_8 (by decide) ?_
    subst hQ9
    have e9 : fClose (th, om, sd, po, lr, lv, d, P, V, h) = (42, (th, om, sd, po, lr, lv, d, P, V, h)) := by simp only [fClose, if_pos c_1]
    rw [e9]
    exact W.iret (v := 42) hx hb hr (fun t ht hW => ⟨⟨42, (), rfl, rfl, by rw [ht]; exact hP, va_K.moved hW.alike hK, hD⟩, hS.F ht⟩) hS.2.2 dX1_closeFile_10

set_option maxHeartbeats 1000000 in
set_option maxRecDepth 100000 in
theorem kX1_openFile (l : Launch) (dC : Nat → ClassId) (dI : Nat → Nat → Nat) (oF oS oA oB : Nat) (cA cB : ClassId) (n h d : Nat) (mo th om sd po lr : Int32) (lv : Int64) (P : Nat → Int32) (V : Nat → Int64) (p0 : Int32) (sz : Nat) (hh : h ≤ n) (hn : n ≤ 512) : Met l yX1_openFile wsX1_openFile ({ frames := 1, cells := 0, slots := 0, locals := 22 }) (va_Pc [.ref oF, .int p0] (fun U => U.heap.size = sz ∧ va_P (dC, dI) vwCl [(oF, .inr (2, [.int mo, .ref oS, .int th, .int om, .int sd, .int po, .int lr, .long lv, .int (nI d)])), (oS, .inr (1, [.ref oA, .ref oB, .int (nI h)])), (oA, .inl (cA, n, .inl P)), (oB, .inl (cB, n, .inr (.inl V)))] U.heap ∧ va_K (dC, dI) vwCl [(cA, .int), (cB, .long)] U ∧ va_D (fun _ => True) [(oF, .inr (2, [.int mo, .ref oS, .int th, .int om, .int sd, .int po, .int lr, .long lv, .int (nI d)])), (oS, .inr (1, [.ref oA, .ref oB, .int (nI h)])), (oA, .inl (cA, n, .inl P)), (oB, .inl (cB, n, .inr (.inl V)))])) (va_Qi (fun (r : Int32) (_ : Unit) => r = (fOpF p0 (th, om, sd, po, lr, lv, d, P, V, h)).1) (fun (_ : Unit) (t : State) => va_P (dC, dI) vwCl (wF oF oS oA oB cA cB n mo (fOpF p0 (th, om, sd, po, lr, lv, d, P, V, h)).2) t.heap ∧ va_K (dC, dI) vwCl [(cA, .int), (cB, .long)] t ∧ va_D (va_A [(oF, .inr (2, [.int mo, .ref oS, .int th, .int om, .int sd, .int po, .int lr, .long lv, .int (nI d)])), (oS, .inr (1, [.ref oA, .ref oB, .int (nI h)])), (oA, .inl (cA, n, .inl P)), (oB, .inl (cB, n, .inr (.inl V)))] sz) (wF oF oS oA oB cA cB n mo (fOpF p0 (th, om, sd, po, lr, lv, d, P, V, h)).2)) (va_A [(oF, .inr (2, [.int mo, .ref oS, .int th, .int om, .int sd, .int po, .int lr, .long lv, .int (nI d)])), (oS, .inr (1, [.ref oA, .ref oB, .int (nI h)])), (oA, .inl (cA, n, .inl P)), (oB, .inl (cB, n, .inr (.inl V)))] sz)) 0 0 (va_A [(oF, .inr (2, [.int mo, .ref oS, .int th, .int om, .int sd, .int po, .int lr, .long lv, .int (nI d)])), (oS, .inr (1, [.ref oA, .ref oB, .int (nI h)])), (oA, .inl (cA, n, .inl P)), (oB, .inl (cB, n, .inr (.inl V)))] sz) := by
  refine Met.ofW (cc := cX1_openFile) (maxL := 3) (ret := (some .int)) (by decide) rfl ?_
  intro p e s m args below meth c s₁ B hml hv
  obtain ⟨rfl, hsz, hP, hK, hD0⟩ := hv
  have hx := B.exec
  have hb := B.bytes
  have hr := B.returns
  have hts := atoms_spec (ws := wsX1_openFile) B.pre
  have hown : s.vm.findClass RX1 = some m.cls := findClass_of_methodNamed B.named
  have hlocks := B.notSynchronized
  subst hsz
  have hD := hD0.self (sz := s.heap.size)
  generalize hAe : va_A [(oF, .inr (2, [.int mo, .ref oS, .int th, .int om, .int sd, .int po, .int lr, .long lv, .int (nI d)])), (oS, .inr (1, [.ref oA, .ref oB, .int (nI h)])), (oA, .inl (cA, n, .inl P)), (oB, .inl (cB, n, .inr (.inl V)))] s.heap.size = A at hD ⊢
  have hA : ∀ q : Nat, s.heap.size ≤ q → A q := fun q h => by rw [← hAe]; exact Or.inr h
  have hS : va_S A s.heap s.heap [] := va_S.rf
  have hP : va_P (dC, dI) vwCl [(oF, .inr (2, [.int mo, .ref oS, .int th, .int om, .int sd, .int po, .int lr, .long lv, .int (nI d)])), (oS, .inr (1, [.ref oA, .ref oB, .int (nI h)])), (oA, .inl (cA, n, .inl P)), (oB, .inl (cB, n, .inr (.inl V)))] s.heap := hP
  have hl := lv_entry ([.ref oF, .int p0]) (n := 3) (Nat.le_of_ble_eq_true rfl)
  rw [lg_entry_eq]
  generalize (lg_sl ([.ref oF, .int p0]) ++ List.replicate (3 - (lg_sl ([.ref oF, .int p0])).length) Slot.unset).toArray = ls at hl ⊢
  have hl : lv_has ls 3 [(0, .ref oF), (1, .int p0)] := hl
  refine W_name (fun Q hQ9 => ?_)
  refine lv_aload_n hx hb dX1_openFile_0 rfl (lv_at hl 0 rfl) ?_
  refine va_get (D := (dC, dI)) (ci := 2) (v := .int om) (C := RX1) (T := TX1) (N := 9) hx hb hts (by decide +kernel) hown hK hP 0 rfl rfl 3 (by decide) (hts (.fieldLink RX1 36 "RelativeFiles" "openMode" "I") (by decide +kernel)) (fun _ h9 => h9) rfl dX1_openFile_1 ?_
  refine lv_iconst (v := (-1)) hx hb dX1_openFile_4 (by decide) ?_
  refine lv_icmp_eq (tgt := 11) hx hb dX1_openFile_5 (by decide) (fun c_1 => ?_) (fun c_1 => ?_)
  · -- taken at 5: om = (-1)
    refine lv_aload_n hx hb dX1_openFile_11 rfl (lv_at hl 0 rfl) ?_
    refine lv_iconst (v := 0) hx hb dX1_openFile_12 (by decide) ?_
    refine lv_iconst (v := 0) hx hb dX1_openFile_13 (by decide) ?_
    have hPc := hP.sub (ws' := [(oF, .inr (2, [.int mo, .ref oS, .int th, .int om, .int sd, .int po, .int lr, .long lv, .int (nI d)])), (oS, .inr (1, [.ref oA, .ref oB, .int (nI h)])), (oA, .inl (cA, n, .inl P)), (oB, .inl (cB, n, .inr (.inl V)))]) [0, 1, 2, 3] rfl
    have hDc := hD.sub (ws' := [(oF, .inr (2, [.int mo, .ref oS, .int th, .int om, .int sd, .int po, .int lr, .long lv, .int (nI d)])), (oS, .inr (1, [.ref oA, .ref oB, .int (nI h)])), (oA, .inl (cA, n, .inl P)), (oB, .inl (cB, n, .inr (.inl V)))]) [0, 1, 2, 3] (by decide) rfl
    have hKc := hK.sub (tys' := [(cA, .int), (cB, .long)]) [0, 1] rfl
    have hFc := va_free (wc := [(oF, .inr (2, [.int mo, .ref oS, .int th, .int om, .int sd, .int po, .int lr, .long lv, .int (nI d)])), (oS, .inr (1, [.ref oA, .ref oB, .int (nI h)])), (oA, .inl (cA, n, .inl P)), (oB, .inl (cB, n, .inr (.inl V)))]) hD hS hA [0, 1, 2, 3] rfl
    refine va_callv (va_runV (As := [.int 0, .int 0]) (rest := []) ⟨hx, hb, hml, hown, hts⟩ (kX1_stand l dC dI oF oS oA oB cA cB n h d mo th om sd po lr lv P V 0 0 s.heap.size hh hn) (cwV 2 hts gX1_openFile_X1_stand rfl rfl rfl (by decide +kernel) ⟨Nat.le_of_ble_eq_true rfl, Nat.le_of_ble_eq_true rfl⟩) ⟨fun a U g mk q => by obtain ⟨q0, q1, qP, qK, qD⟩ := q; exact ⟨q0, q1, qP, va_K.moved (u := U) (U := U.calling g mk a) (Vm.Alike.refl U.vm) qK, qD⟩, va_recv hKc hPc (ci := 2) (q0 := 0) rfl rfl, fun U hU hW => ⟨rfl, by rw [hU], by rw [hU]; exact hPc, va_K.moved hW.alike hKc, hDc.weaken (fun _ _ _ _ => trivial)⟩⟩ rfl rfl hl.1 rfl (lv_room (Nat.le_of_ble_eq_true rfl)) dX1_openFile_14 ⟨Nat.le_of_ble_eq_true rfl, Nat.le_of_ble_eq_true rfl⟩) hS (fun q _ h => hFc q h) hFc (fun u t H1 locs ht hvm hw hB hz1 hk1 hS => ?_)
    obtain ⟨hP1, hK1, hD1⟩ := hB
    rw [ht] at hP1
    have hK1 := va_K.moved hvm.symm hK1
    try dsimp only at hw
    obtain ⟨hP, hD⟩ := va_join (wr := []) (w1 := [(oF, .inr (2, [.int mo, .ref oS, .int th, .int om, .int 0, .int 0, .int 0, .long lv, .int (nI d)])), (oS, .inr (1, [.ref oA, .ref oB, .int (nI h)])), (oA, .inl (cA, n, .inl P)), (oB, .inl (cB, n, .inr (.inl V)))]) hP hD [0, 1, 2, 3] [] rfl rfl (by decide) (by decide) hk1 hFc hP1 hD1
    generalize H1 = H at hP hS ⊢
    have hP : va_P (dC, dI) vwCl [(oF, .inr (2, [.int mo, .ref oS, .int th, .int om, .int 0, .int 0, .int 0, .long lv, .int (nI d)])), (oS, .inr (1, [.ref oA, .ref oB, .int (nI h)])), (oA, .inl (cA, n, .inl P)), (oB, .inl (cB, n, .inr (.inl V)))] H := hP.sub [0, 1, 2, 3] rfl
    have hD : va_D A [(oF, .inr (2, [.int mo, .ref oS, .int th, .int om, .int 0, .int 0, .int 0, .long lv, .int (nI d)])), (oS, .inr (1, [.ref oA, .ref oB, .int (nI h)])), (oA, .inl (cA, n, .inl P)), (oB, .inl (cB, n, .inr (.inl V)))] := hD.sub [0, 1, 2, 3] (by decide) rfl
    have hK : va_K (dC, dI) vwCl [(cA, .int), (cB, .long)] s := hK
    refine lv_aload_n hx hb dX1_openFile_17 rfl (lv_at hl 0 rfl) ?_
    refine va_get (D := (dC, dI)) (ci := 2) (v := .int th) (C := RX1) (T := TX1) (N := 9) hx hb hts (by decide +kernel) hown hK hP 0 rfl rfl 2 (by decide) (hts (.fieldLink RX1 32 "RelativeFiles" "there" "Z") (by decide +kernel)) (fun _ h9 => h9) rfl dX1_openFile_18 ?_
    refine lv_istore_n (lv' := [(2, .int th), (0, .ref oF), (1, .int p0)]) hx hb dX1_openFile_21 rfl hl (by decide) rfl (fun ls hl => ?_)
    refine lv_iload_n hx hb dX1_openFile_22 rfl (lv_at hl 0 rfl) ?_
    refine lv_if_ne (tgt := 38) hx hb dX1_openFile_23 (by decide) (fun c_3 => ?_) (fun c_3 => ?_)
    · -- taken at 23: ¬ th = 0
      refine lv_iload_n hx hb dX1_openFile_38 rfl (lv_at hl 2 rfl) ?_
      refine lv_iconst (v := 1) hx hb dX1_openFile_39 (by decide) ?_
      refine lv_icmp_ne (tgt := 50) hx hb dX1_openFile_40 (by decide) (fun c_4 => ?_) (fun c_4 => ?_)
      · -- taken at 40: ¬ p0 = 1
        refine lv_aload_n hx hb dX1_openFile_50 rfl (lv_at hl 1 rfl) ?_
        refine lv_iconst (v := 1) hx hb dX1_openFile_51 (by decide) ?_
        refine va_put (D := (dC, dI)) (ci := 2) (v := .int 1) (ty := .boolean) (C := RX1) (T := TX1) (N := 9) hx hb hts (by decide +kernel) tyX1 tyX1_ok nmX1 hown hK hP hD hS 0 rfl rfl 2 (by decide) (hts (.fieldLink RX1 32 "RelativeFiles" "there" "Z") (by decide +kernel)) (fun _ h9 => h9) rfl (by decide +kernel) (by decide) (by decide) (Nat.le_of_ble_eq_true rfl) dX1_openFile_52 (fun H locs hP hD hS => ?_)
        have hP : va_P (dC, dI) vwCl [(oF, .inr (2, [.int mo, .ref oS, .int 1, .int om, .int 0, .int 0, .int 0, .long lv, .int (nI d)])), (oS, .inr (1, [.ref oA, .ref oB, .int (nI h)])), (oA, .inl (cA, n, .inl P)), (oB, .inl (cB, n, .inr (.inl V)))] H := hP
        have hD : va_D A [(oF, .inr (2, [.int mo, .ref oS, .int 1, .int om, .int 0, .int 0, .int 0, .long lv, .int (nI d)])), (oS, .inr (1, [.ref oA, .ref oB, .int (nI h)])), (oA, .inl (cA, n, .inl P)), (oB, .inl (cB, n, .inr (.inl V)))] := hD
        refine lv_aload_n hx hb dX1_openFile_55 rfl (lv_at hl 1 rfl) ?_
        refine lv_iload_n hx hb dX1_openFile_56 rfl (lv_at hl 2 rfl) ?_
        refine va_put (D := (dC, dI)) (ci := 2) (v := .int p0) (ty := .int) (C := RX1) (T := TX1) (N := 9) hx hb hts (by decide +kernel) tyX1 tyX1_ok nmX1 hown hK hP hD hS 0 rfl rfl 3 (by decide) (hts (.fieldLink RX1 36 "RelativeFiles" "openMode" "I") (by decide +kernel)) (fun _ h9 => h9) rfl (by decide +kernel) rfl rfl (Nat.le_of_ble_eq_true rfl) dX1_openFile_57 (fun H locs hP hD hS => ?_)
        have hP : va_P (dC, dI) vwCl [(oF, .inr (2, [.int mo, .ref oS, .int 1, .int p0, .int 0, .int 0, .int 0, .long lv, .int (nI d)])), (oS, .inr (1, [.ref oA, .ref oB, .int (nI h)])), (oA, .inl (cA, n, .inl P)), (oB, .inl (cB, n, .inr (.inl V)))] H := hP
        have hD : va_D A [(oF, .inr (2, [.int mo, .ref oS, .int 1, .int p0, .int 0, .int 0, .int 0, .long lv, .int (nI d)])), (oS, .inr (1, [.ref oA, .ref oB, .int (nI h)])), (oA, .inl (cA, n, .inl P)), (oB, .inl (cB, n, .inr (.inl V)))] := hD
        refine lv_iload_n hx hb dX1_openFile_60 rfl (lv_at hl 2 rfl) ?_
        refine lv_iconst (v := 3) hx hb dX1_openFile_61 (by decide) ?_
        refine lv_icmp_ne (tgt := 73) hx hb dX1_openFile_62 (by decide) (fun c_5 => ?_) (fun c_5 => ?_)
        · -- taken at 62: ¬ p0 = 3
          refine lv_iconst (v := 0) hx hb dX1_openFile_73 (by decide) ?_
          subst hQ9
          have e9 : fOpF p0 (th, om, sd, po, lr, lv, d, P, V, h) = (0, (1, p0, 0, 0, 0, lv, d, P, V, h)) := by simp only [fOpF, fOpF2, if_pos c_1, if_neg c_3, if_neg c_4, if_neg c_5]
          rw [e9]
          exact W.iret (v := 0) hx hb hr (fun t ht hW => ⟨⟨0, (), rfl, rfl, by rw [ht]; exact hP, va_K.moved hW.alike hK, hD⟩, hS.F ht⟩) hS.2.2 dX1_openFile_74
        · -- not taken at 62: p0 = 3
          refine lv_iload_n hx hb dX1_openFile_65 rfl (lv_at hl 0 rfl) ?_
          refine lv_if_ne (tgt := 73) hx hb dX1_openFile_66 (by decide) (fun c_6 => ?_) (fun c_6 => ?_)
          · -- taken at 66: ¬ th = 0
            refine lv_iconst (v := 0) hx hb dX1_openFile_73 (by decide) ?_
            subst hQ9
            have e9 : fOpF p0 (th, om, sd, po, lr, lv, d, P, V, h) = (0, (1, p0, 0, 0, 0, lv, d, P, V, h)) := by simp only [fOpF, fOpF2, if_pos c_1, if_neg c_3, if_neg c_4, if_pos c_5]
            rw [e9]
            exact W.iret (v := 0) hx hb hr (fun t ht hW => ⟨⟨0, (), rfl, rfl, by rw [ht]; exact hP, va_K.moved hW.alike hK, hD⟩, hS.F ht⟩) hS.2.2 dX1_openFile_74
          · -- not taken at 66: th = 0
            exact absurd c_6 c_3
      · -- not taken at 40: p0 = 1
        refine lv_aload_n hx hb dX1_openFile_43 rfl (lv_at hl 1 rfl) ?_
        refine va_get (D := (dC, dI)) (ci := 2) (v := .ref oS) (C := RX1) (T := TX1) (N := 9) hx hb hts (by decide +kernel) hown hK hP 0 rfl rfl 1 (by decide) (hts (.fieldLink RX1 28 "RelativeFiles" "shelf" "LRelativeFiles$Shelf;") (by decide +kernel)) (fun _ h9 => h9) rfl dX1_openFile_44 ?_
        have hPc := hP.sub (ws' := [(oS, .inr (1, [.ref oA, .ref oB, .int (nI h)])), (oA, .inl (cA, n, .inl P)), (oB, .inl (cB, n, .inr (.inl V)))]) [1, 2, 3] rfl
        have hDc := hD.sub (ws' := [(oS, .inr (1, [.ref oA, .ref oB, .int (nI h)])), (oA, .inl (cA, n, .inl P)), (oB, .inl (cB, n, .inr (.inl V)))]) [1, 2, 3] (by decide) rfl
        have hKc := hK.sub (tys' := [(cA, .int), (cB, .long)]) [0, 1] rfl
        have hFc := va_free (wc := [(oS, .inr (1, [.ref oA, .ref oB, .int (nI h)])), (oA, .inl (cA, n, .inl P)), (oB, .inl (cB, n, .inr (.inl V)))]) hD hS hA [1, 2, 3] rfl
        refine va_callv (va_runV (As := []) (rest := []) ⟨hx, hb, hml, hown, hts⟩ (kX0_clear l dC dI oS oA oB cA cB n h P V  H.size hh hn) (cwV 0 hts gX1_openFile_X0_clear rfl rfl rfl (by decide +kernel) ⟨Nat.le_of_ble_eq_true rfl, Nat.le_of_ble_eq_true rfl⟩) ⟨fun a U g mk q => by obtain ⟨q0, q1, qP, qK, qD⟩ := q; exact ⟨q0, q1, qP, va_K.moved (u := U) (U := U.calling g mk a) (Vm.Alike.refl U.vm) qK, qD⟩, va_recv hKc hPc (ci := 1) (q0 := 0) rfl rfl, fun U hU hW => ⟨rfl, by rw [hU], by rw [hU]; exact hPc, va_K.moved hW.alike hKc, hDc.weaken (fun _ _ _ _ => trivial)⟩⟩ rfl rfl hl.1 rfl (lv_room (Nat.le_of_ble_eq_true rfl)) dX1_openFile_47 ⟨Nat.le_of_ble_eq_true rfl, Nat.le_of_ble_eq_true rfl⟩) hS (fun q _ h => hFc q h) hFc (fun u t H1 locs ht hvm hw hB hz1 hk1 hS => ?_)
        obtain ⟨hP1, hK1, hD1⟩ := hB
        rw [ht] at hP1
        have hK1 := va_K.moved hvm.symm hK1
        try dsimp only at hw
        obtain ⟨hP, hD⟩ := va_join (wr := [(oF, .inr (2, [.int mo, .ref oS, .int th, .int om, .int 0, .int 0, .int 0, .long lv, .int (nI d)]))]) (w1 := [(oS, .inr (1, [.ref oA, .ref oB, .int (nI 0)])), (oA, .inl (cA, n, .inl P)), (oB, .inl (cB, n, .inr (.inl V)))]) hP hD [1, 2, 3] [0] rfl rfl (by decide) (by decide) hk1 hFc hP1 hD1
        generalize H1 = H at hP hS ⊢
        have hP : va_P (dC, dI) vwCl [(oF, .inr (2, [.int mo, .ref oS, .int th, .int om, .int 0, .int 0, .int 0, .long lv, .int (nI d)])), (oS, .inr (1, [.ref oA, .ref oB, .int (nI 0)])), (oA, .inl (cA, n, .inl P)), (oB, .inl (cB, n, .inr (.inl V)))] H := hP.sub [0, 1, 2, 3] rfl
        have hD : va_D A [(oF, .inr (2, [.int mo, .ref oS, .int th, .int om, .int 0, .int 0, .int 0, .long lv, .int (nI d)])), (oS, .inr (1, [.ref oA, .ref oB, .int (nI 0)])), (oA, .inl (cA, n, .inl P)), (oB, .inl (cB, n, .inr (.inl V)))] := hD.sub [0, 1, 2, 3] (by decide) rfl
        have hK : va_K (dC, dI) vwCl [(cA, .int), (cB, .long)] s := hK
        refine lv_aload_n hx hb dX1_openFile_50 rfl (lv_at hl 1 rfl) ?_
        refine lv_iconst (v := 1) hx hb dX1_openFile_51 (by decide) ?_
        refine va_put (D := (dC, dI)) (ci := 2) (v := .int 1) (ty := .boolean) (C := RX1) (T := TX1) (N := 9) hx hb hts (by decide +kernel) tyX1 tyX1_ok nmX1 hown hK hP hD hS 0 rfl rfl 2 (by decide) (hts (.fieldLink RX1 32 "RelativeFiles" "there" "Z") (by decide +kernel)) (fun _ h9 => h9) rfl (by decide +kernel) (by decide) (by decide) (Nat.le_of_ble_eq_true rfl) dX1_openFile_52 (fun H locs hP hD hS => ?_)
        have hP : va_P (dC, dI) vwCl [(oF, .inr (2, [.int mo, .ref oS, .int 1, .int om, .int 0, .int 0, .int 0, .long lv, .int (nI d)])), (oS, .inr (1, [.ref oA, .ref oB, .int (nI 0)])), (oA, .inl (cA, n, .inl P)), (oB, .inl (cB, n, .inr (.inl V)))] H := hP
        have hD : va_D A [(oF, .inr (2, [.int mo, .ref oS, .int 1, .int om, .int 0, .int 0, .int 0, .long lv, .int (nI d)])), (oS, .inr (1, [.ref oA, .ref oB, .int (nI 0)])), (oA, .inl (cA, n, .inl P)), (oB, .inl (cB, n, .inr (.inl V)))] := hD
        refine lv_aload_n hx hb dX1_openFile_55 rfl (lv_at hl 1 rfl) ?_
        refine lv_iload_n hx hb dX1_openFile_56 rfl (lv_at hl 2 rfl) ?_
        refine va_put (D := (dC, dI)) (ci := 2) (v := .int p0) (ty := .int) (C := RX1) (T := TX1) (N := 9) hx hb hts (by decide +kernel) tyX1 tyX1_ok nmX1 hown hK hP hD hS 0 rfl rfl 3 (by decide) (hts (.fieldLink RX1 36 "RelativeFiles" "openMode" "I") (by decide +kernel)) (fun _ h9 => h9) rfl (by decide +kernel) rfl rfl (Nat.le_of_ble_eq_true rfl) dX1_openFile_57 (fun H locs hP hD hS => ?_)
        have hP : va_P (dC, dI) vwCl [(oF, .inr (2, [.int mo, .ref oS, .int 1, .int p0, .int 0, .int 0, .int 0, .long lv, .int (nI d)])), (oS, .inr (1, [.ref oA, .ref oB, .int (nI 0)])), (oA, .inl (cA, n, .inl P)), (oB, .inl (cB, n, .inr (.inl V)))] H := hP
        have hD : va_D A [(oF, .inr (2, [.int mo, .ref oS, .int 1, .int p0, .int 0, .int 0, .int 0, .long lv, .int (nI d)])), (oS, .inr (1, [.ref oA, .ref oB, .int (nI 0)])), (oA, .inl (cA, n, .inl P)), (oB, .inl (cB, n, .inr (.inl V)))] := hD
        refine lv_iload_n hx hb dX1_openFile_60 rfl (lv_at hl 2 rfl) ?_
        refine lv_iconst (v := 3) hx hb dX1_openFile_61 (by decide) ?_
        refine lv_icmp_ne (tgt := 73) hx hb dX1_openFile_62 (by decide) (fun c_8 => ?_) (fun c_8 => ?_)
        · -- taken at 62: ¬ p0 = 3
          refine lv_iconst (v := 0) hx hb dX1_openFile_73 (by decide) ?_
          subst hQ9
          have e9 : fOpF p0 (th, om, sd, po, lr, lv, d, P, V, h) = (0, (1, p0, 0, 0, 0, lv, d, P, V, 0)) := by simp only [fOpF, fOpF2, if_pos c_1, if_neg c_3, if_pos c_4, if_neg c_8]
          rw [e9]
          exact W.iret (v := 0) hx hb hr (fun t ht hW => ⟨⟨0, (), rfl, rfl, by rw [ht]; exact hP, va_K.moved hW.alike hK, hD⟩, hS.F ht⟩) hS.2.2 dX1_openFile_74
        · -- not taken at 62: p0 = 3
          refine lv_iload_n hx hb dX1_openFile_65 rfl (lv_at hl 0 rfl) ?_
          refine lv_if_ne (tgt := 73) hx hb dX1_openFile_66 (by decide) (fun c_9 => ?_) (fun c_9 => ?_)
          · -- taken at 66: ¬ th = 0
            refine lv_iconst (v := 0) hx hb dX1_openFile_73 (by decide) ?_
            subst hQ9
            have e9 : fOpF p0 (th, om, sd, po, lr, lv, d, P, V, h) = (0, (1, p0, 0, 0, 0, lv, d, P, V, 0)) := by simp only [fOpF, fOpF2, if_pos c_1, if_neg c_3, if_pos c_4, if_pos c_8]
            rw [e9]
            exact W.iret (v := 0) hx hb hr (fun t ht hW => ⟨⟨0, (), rfl, rfl, by rw [ht]; exact hP, va_K.moved hW.alike hK, hD⟩, hS.F ht⟩) hS.2.2 dX1_openFile_74
          · -- not taken at 66: th = 0
            exact absurd c_9 c_3
    · -- not taken at 23: th = 0
      refine lv_iload_n hx hb dX1_openFile_26 rfl (lv_at hl 2 rfl) ?_
      refine lv_if_eq (tgt := 35) hx hb dX1_openFile_27 (by decide) (fun c_10 => ?_) (fun c_10 => ?_)
      · -- taken at 27: p0 = 0
        refine lv_bipush (v := 35) hx hb dX1_openFile_35 (by decide) ?_
        subst hQ9
        have e9 : fOpF p0 (th, om, sd, po, lr, lv, d, P, V, h) = (35, (th, om, 0, 0, 0, lv, d, P, V, h)) := by simp only [fOpF, fOpF2, if_pos c_1, if_pos c_3, if_pos c_10]
        rw [e9]
        exact W.iret (v := 35) hx hb hr (fun t ht hW => ⟨⟨35, (), rfl, rfl, by rw [ht]; exact hP, va_K.moved hW.alike hK, hD⟩, hS.F ht⟩) hS.2.2 dX1_openFile_37
      · -- not taken at 27: ¬ p0 = 0
        refine lv_iload_n hx hb dX1_openFile_30 rfl (lv_at hl 2 rfl) ?_
        refine lv_iconst (v := 2) hx hb dX1_openFile_31 (by decide) ?_
        refine lv_icmp_ne (tgt := 38) hx hb dX1_openFile_32 (by decide) (fun c_11 => ?_) (fun c_11 => ?_)
        · -- taken at 32: ¬ p0 = 2
          refine lv_iload_n hx hb dX1_openFile_38 rfl (lv_at hl 2 rfl) ?_
          refine lv_iconst (v := 1) hx hb dX1_openFile_39 (by decide) ?_
          refine lv_icmp_ne (tgt := 50) hx hb dX1_openFile_40 (by decide) (fun c_12 => ?_) (fun c_12 => ?_)
          · -- taken at 40: ¬ p0 = 1
            refine lv_aload_n hx hb dX1_openFile_50 rfl (lv_at hl 1 rfl) ?_
            refine lv_iconst (v := 1) hx hb dX1_openFile_51 (by decide) ?_
            refine va_put (D := (dC, dI)) (ci := 2) (v := .int 1) (ty := .boolean) (C := RX1) (T := TX1) (N := 9) hx hb hts (by decide +kernel) tyX1 tyX1_ok nmX1 hown hK hP hD hS 0 rfl rfl 2 (by decide) (hts (.fieldLink RX1 32 "RelativeFiles" "there" "Z") (by decide +kernel)) (fun _ h9 => h9) rfl (by decide +kernel) (by decide) (by decide) (Nat.le_of_ble_eq_true rfl) dX1_openFile_52 (fun H locs hP hD hS => ?_)
            have hP : va_P (dC, dI) vwCl [(oF, .inr (2, [.int mo, .ref oS, .int 1, .int om, .int 0, .int 0, .int 0, .long lv, .int (nI d)])), (oS, .inr (1, [.ref oA, .ref oB, .int (nI h)])), (oA, .inl (cA, n, .inl P)), (oB, .inl (cB, n, .inr (.inl V)))] H := hP
            have hD : va_D A [(oF, .inr (2, [.int mo, .ref oS, .int 1, .int om, .int 0, .int 0, .int 0, .long lv, .int (nI d)])), (oS, .inr (1, [.ref oA, .ref oB, .int (nI h)])), (oA, .inl (cA, n, .inl P)), (oB, .inl (cB, n, .inr (.inl V)))] := hD
            refine lv_aload_n hx hb dX1_openFile_55 rfl (lv_at hl 1 rfl) ?_
            refine lv_iload_n hx hb dX1_openFile_56 rfl (lv_at hl 2 rfl) ?_
            refine va_put (D := (dC, dI)) (ci := 2) (v := .int p0) (ty := .int) (C := RX1) (T := TX1) (N := 9) hx hb hts (by decide +kernel) tyX1 tyX1_ok nmX1 hown hK hP hD hS 0 rfl rfl 3 (by decide) (hts (.fieldLink RX1 36 "RelativeFiles" "openMode" "I") (by decide +kernel)) (fun _ h9 => h9) rfl (by decide +kernel) rfl rfl (Nat.le_of_ble_eq_true rfl) dX1_openFile_57 (fun H locs hP hD hS => ?_)
            have hP : va_P (dC, dI) vwCl [(oF, .inr (2, [.int mo, .ref oS, .int 1, .int p0, .int 0, .int 0, .int 0, .long lv, .int (nI d)])), (oS, .inr (1, [.ref oA, .ref oB, .int (nI h)])), (oA, .inl (cA, n, .inl P)), (oB, .inl (cB, n, .inr (.inl V)))] H := hP
            have hD : va_D A [(oF, .inr (2, [.int mo, .ref oS, .int 1, .int p0, .int 0, .int 0, .int 0, .long lv, .int (nI d)])), (oS, .inr (1, [.ref oA, .ref oB, .int (nI h)])), (oA, .inl (cA, n, .inl P)), (oB, .inl (cB, n, .inr (.inl V)))] := hD
            refine lv_iload_n hx hb dX1_openFile_60 rfl (lv_at hl 2 rfl) ?_
            refine lv_iconst (v := 3) hx hb dX1_openFile_61 (by decide) ?_
            refine lv_icmp_ne (tgt := 73) hx hb dX1_openFile_62 (by decide) (fun c_13 => ?_) (fun c_13 => ?_)
            · -- taken at 62: ¬ p0 = 3
              refine lv_iconst (v := 0) hx hb dX1_openFile_73 (by decide) ?_
              subst hQ9
              have e9 : fOpF p0 (th, om, sd, po, lr, lv, d, P, V, h) = (0, (1, p0, 0, 0, 0, lv, d, P, V, h)) := by simp only [fOpF, fOpF2, if_pos c_1, if_pos c_3, if_neg c_10, if_neg c_11, if_neg c_12, if_neg c_13]
              rw [e9]
              exact W.iret (v := 0) hx hb hr (fun t ht hW => ⟨⟨0, (), rfl, rfl, by rw [ht]; exact hP, va_K.moved hW.alike hK, hD⟩, hS.F ht⟩) hS.2.2 dX1_openFile_74
            · -- not taken at 62: p0 = 3
              refine lv_iload_n hx hb dX1_openFile_65 rfl (lv_at hl 0 rfl) ?_
              refine lv_if_ne (tgt := 73) hx hb dX1_openFile_66 (by decide) (fun c_14 => ?_) (fun c_14 => ?_)
              · -- taken at 66: ¬ th = 0
                exact absurd c_3 c_14
              · -- not taken at 66: th = 0
                refine lv_iconst (v := 5) hx hb dX1_openFile_69 (by decide) ?_
                refine lv_goto (tgt := 74) hx hb dX1_openFile_70 (by decide) ?_
                subst hQ9
                have e9 : fOpF p0 (th, om, sd, po, lr, lv, d, P, V, h) = (5, (1, p0, 0, 0, 0, lv, d, P, V, h)) := by simp only [fOpF, fOpF2, if_pos c_1, if_pos c_3, if_neg c_10, if_neg c_11, if_neg c_12, if_pos c_13]
                rw [e9]
                exact W.iret (v := 5) hx hb hr (fun t ht hW => ⟨⟨5, (), rfl, rfl, by rw [ht]; exact hP, va_K.moved hW.alike hK, hD⟩, hS.F ht⟩) hS.2.2 dX1_openFile_74
          · -- not taken at 40: p0 = 1
            refine lv_aload_n hx hb dX1_openFile_43 rfl (lv_at hl 1 rfl) ?_
            refine va_get (D := (dC, dI)) (ci := 2) (v := .ref oS) (C := RX1) (T := TX1) (N := 9) hx hb hts (by decide +kernel) hown hK hP 0 rfl rfl 1 (by decide) (hts (.fieldLink RX1 28 "RelativeFiles" "shelf" "LRelativeFiles$Shelf;") (by decide +kernel)) (fun _ h9 => h9) rfl dX1_openFile_44 ?_
            have hPc := hP.sub (ws' := [(oS, .inr (1, [.ref oA, .ref oB, .int (nI h)])), (oA, .inl (cA, n, .inl P)), (oB, .inl (cB, n, .inr (.inl V)))]) [1, 2, 3] rfl
            have hDc := hD.sub (ws' := [(oS, .inr (1, [.ref oA, .ref oB, .int (nI h)])), (oA, .inl (cA, n, .inl P)), (oB, .inl (cB, n, .inr (.inl V)))]) [1, 2, 3] (by decide) rfl
            have hKc := hK.sub (tys' := [(cA, .int), (cB, .long)]) [0, 1] rfl
            have hFc := va_free (wc := [(oS, .inr (1, [.ref oA, .ref oB, .int (nI h)])), (oA, .inl (cA, n, .inl P)), (oB, .inl (cB, n, .inr (.inl V)))]) hD hS hA [1, 2, 3] rfl
            refine va_callv (va_runV (As := []) (rest := []) ⟨hx, hb, hml, hown, hts⟩ (kX0_clear l dC dI oS oA oB cA cB n h P V  H.size hh hn) (cwV 0 hts gX1_openFile_X0_clear rfl rfl rfl (by decide +kernel) ⟨Nat.le_of_ble_eq_true rfl, Nat.le_of_ble_eq_true rfl⟩) ⟨fun a U g mk q => by obtain ⟨q0, q1, qP, qK, qD⟩ := q; exact ⟨q0, q1, qP, va_K.moved (u := U) (U := U.calling g mk a) (Vm.Alike.refl U.vm) qK, qD⟩, va_recv hKc hPc (ci := 1) (q0 := 0) rfl rfl, fun U hU hW => ⟨rfl, by rw [hU], by rw [hU]; exact hPc, va_K.moved hW.alike hKc, hDc.weaken (fun _ _ _ _ => trivial)⟩⟩ rfl rfl hl.1 rfl (lv_room (Nat.le_of_ble_eq_true rfl)) dX1_openFile_47 ⟨Nat.le_of_ble_eq_true rfl, Nat.le_of_ble_eq_true rfl⟩) hS (fun q _ h => hFc q h) hFc (fun u t H1 locs ht hvm hw hB hz1 hk1 hS => ?_)
            obtain ⟨hP1, hK1, hD1⟩ := hB
            rw [ht] at hP1
            have hK1 := va_K.moved hvm.symm hK1
            try dsimp only at hw
            obtain ⟨hP, hD⟩ := va_join (wr := [(oF, .inr (2, [.int mo, .ref oS, .int th, .int om, .int 0, .int 0, .int 0, .long lv, .int (nI d)]))]) (w1 := [(oS, .inr (1, [.ref oA, .ref oB, .int (nI 0)])), (oA, .inl (cA, n, .inl P)), (oB, .inl (cB, n, .inr (.inl V)))]) hP hD [1, 2, 3] [0] rfl rfl (by decide) (by decide) hk1 hFc hP1 hD1
            generalize H1 = H at hP hS ⊢
            have hP : va_P (dC, dI) vwCl [(oF, .inr (2, [.int mo, .ref oS, .int th, .int om, .int 0, .int 0, .int 0, .long lv, .int (nI d)])), (oS, .inr (1, [.ref oA, .ref oB, .int (nI 0)])), (oA, .inl (cA, n, .inl P)), (oB, .inl (cB, n, .inr (.inl V)))] H := hP.sub [0, 1, 2, 3] rfl
            have hD : va_D A [(oF, .inr (2, [.int mo, .ref oS, .int th, .int om, .int 0, .int 0, .int 0, .long lv, .int (nI d)])), (oS, .inr (1, [.ref oA, .ref oB, .int (nI 0)])), (oA, .inl (cA, n, .inl P)), (oB, .inl (cB, n, .inr (.inl V)))] := hD.sub [0, 1, 2, 3] (by decide) rfl
            have hK : va_K (dC, dI) vwCl [(cA, .int), (cB, .long)] s := hK
            refine lv_aload_n hx hb dX1_openFile_50 rfl (lv_at hl 1 rfl) ?_
            refine lv_iconst (v := 1) hx hb dX1_openFile_51 (by decide) ?_
            refine va_put (D := (dC, dI)) (ci := 2) (v := .int 1) (ty := .boolean) (C := RX1) (T := TX1) (N := 9) hx hb hts (by decide +kernel) tyX1 tyX1_ok nmX1 hown hK hP hD hS 0 rfl rfl 2 (by decide) (hts (.fieldLink RX1 32 "RelativeFiles" "there" "Z") (by decide +kernel)) (fun _ h9 => h9) rfl (by decide +kernel) (by decide) (by decide) (Nat.le_of_ble_eq_true rfl) dX1_openFile_52 (fun H locs hP hD hS => ?_)
            have hP : va_P (dC, dI) vwCl [(oF, .inr (2, [.int mo, .ref oS, .int 1, .int om, .int 0, .int 0, .int 0, .long lv, .int (nI d)])), (oS, .inr (1, [.ref oA, .ref oB, .int (nI 0)])), (oA, .inl (cA, n, .inl P)), (oB, .inl (cB, n, .inr (.inl V)))] H := hP
            have hD : va_D A [(oF, .inr (2, [.int mo, .ref oS, .int 1, .int om, .int 0, .int 0, .int 0, .long lv, .int (nI d)])), (oS, .inr (1, [.ref oA, .ref oB, .int (nI 0)])), (oA, .inl (cA, n, .inl P)), (oB, .inl (cB, n, .inr (.inl V)))] := hD
            refine lv_aload_n hx hb dX1_openFile_55 rfl (lv_at hl 1 rfl) ?_
            refine lv_iload_n hx hb dX1_openFile_56 rfl (lv_at hl 2 rfl) ?_
            refine va_put (D := (dC, dI)) (ci := 2) (v := .int p0) (ty := .int) (C := RX1) (T := TX1) (N := 9) hx hb hts (by decide +kernel) tyX1 tyX1_ok nmX1 hown hK hP hD hS 0 rfl rfl 3 (by decide) (hts (.fieldLink RX1 36 "RelativeFiles" "openMode" "I") (by decide +kernel)) (fun _ h9 => h9) rfl (by decide +kernel) rfl rfl (Nat.le_of_ble_eq_true rfl) dX1_openFile_57 (fun H locs hP hD hS => ?_)
            have hP : va_P (dC, dI) vwCl [(oF, .inr (2, [.int mo, .ref oS, .int 1, .int p0, .int 0, .int 0, .int 0, .long lv, .int (nI d)])), (oS, .inr (1, [.ref oA, .ref oB, .int (nI 0)])), (oA, .inl (cA, n, .inl P)), (oB, .inl (cB, n, .inr (.inl V)))] H := hP
            have hD : va_D A [(oF, .inr (2, [.int mo, .ref oS, .int 1, .int p0, .int 0, .int 0, .int 0, .long lv, .int (nI d)])), (oS, .inr (1, [.ref oA, .ref oB, .int (nI 0)])), (oA, .inl (cA, n, .inl P)), (oB, .inl (cB, n, .inr (.inl V)))] := hD
            refine lv_iload_n hx hb dX1_openFile_60 rfl (lv_at hl 2 rfl) ?_
            refine lv_iconst (v := 3) hx hb dX1_openFile_61 (by decide) ?_
            refine lv_icmp_ne (tgt := 73) hx hb dX1_openFile_62 (by decide) (fun c_16 => ?_) (fun c_16 => ?_)
            · -- taken at 62: ¬ p0 = 3
              refine lv_iconst (v := 0) hx hb dX1_openFile_73 (by decide) ?_
              subst hQ9
              have e9 : fOpF p0 (th, om, sd, po, lr, lv, d, P, V, h) = (0, (1, p0, 0, 0, 0, lv, d, P, V, 0)) := by simp only [fOpF, fOpF2, if_pos c_1, if_pos c_3, if_neg c_10, if_neg c_11, if_pos c_12, if_neg c_16]
              rw [e9]
              exact W.iret (v := 0) hx hb hr (fun t ht hW => ⟨⟨0, (), rfl, rfl, by rw [ht]; exact hP, va_K.moved hW.alike hK, hD⟩, hS.F ht⟩) hS.2.2 dX1_openFile_74
            · -- not taken at 62: p0 = 3
              refine lv_iload_n hx hb dX1_openFile_65 rfl (lv_at hl 0 rfl) ?_
              refine lv_if_ne (tgt := 73) hx hb dX1_openFile_66 (by decide) (fun c_17 => ?_) (fun c_17 => ?_)
              · -- taken at 66: ¬ th = 0
                exact absurd c_3 c_17
              · -- not taken at 66: th = 0
                refine lv_iconst (v := 5) hx hb dX1_openFile_69 (by decide) ?_
                refine lv_goto (tgt := 74) hx hb dX1_openFile_70 (by decide) ?_
                subst hQ9
                have e9 : fOpF p0 (th, om, sd, po, lr, lv, d, P, V, h) = (5, (1, p0, 0, 0, 0, lv, d, P, V, 0)) := by simp only [fOpF, fOpF2, if_pos c_1, if_pos c_3, if_neg c_10, if_neg c_11, if_pos c_12, if_pos c_16]
                rw [e9]
                exact W.iret (v := 5) hx hb hr (fun t ht hW => ⟨⟨5, (), rfl, rfl, by rw [ht]; exact hP, va_K.moved hW.alike hK, hD⟩, hS.F ht⟩) hS.2.2 dX1_openFile_74
        · -- not taken at 32: p0 = 2
          refine lv_bipush (v := 35) hx hb dX1_openFile_35 (by decide) ?_
          subst hQ9
          have e9 : fOpF p0 (th, om, sd, po, lr, lv, d, P, V, h) = (35, (th, om, 0, 0, 0, lv, d, P, V, h)) := by simp only [fOpF, fOpF2, if_pos c_1, if_pos c_3, if_neg c_10, if_pos c_11]
          rw [e9]
          exact W.iret (v := 35) hx hb hr (fun t ht hW => ⟨⟨35, (), rfl, rfl, by rw [ht]; exact hP, va_K.moved hW.alike hK, hD⟩, hS.F ht⟩) hS.2.2 dX1_openFile_37
  · -- not taken at 5: ¬ om = (-1)
    refine lv_bipush (v := 41) hx hb dX1_openFile_8 (by decide) ?_
    subst hQ9
    have e9 : fOpF p0 (th, om, sd, po, lr, lv, d, P, V, h) = (41, (th, om, sd, po, lr, lv, d, P, V, h)) := by simp only [fOpF, fOpF2, if_neg c_1]
    rw [e9]
    exact W.iret (v := 41) hx hb hr (fun t ht hW => ⟨⟨41, (), rfl, rfl, by rw [ht]; exact hP, va_K.moved hW.alike hK, hD⟩, hS.F ht⟩) hS.2.2 dX1_openFile_10
