set_option maxHeartbeats 1000000 in
set_option maxRecDepth 100000 in
theorem kX1_open (l : Launch) (dC : Nat → ClassId) (dI : Nat → Nat → Nat) (oF oS oA oB : Nat) (cA cB : ClassId) (n h d : Nat) (mo th om sd po lr : Int32) (lv : Int64) (P : Nat → Int32) (V : Nat → Int64) (p0 : Int32) (sz : Nat) (hh : h ≤ n) (hn : n ≤ 512) : Met l yX1_open wsX1_open ({ frames := 2, cells := 0, slots := 0, locals := 44 }) (va_Pc [.ref oF, .int p0] (fun U => U.heap.size = sz ∧ va_P (dC, dI) vwCl [(oF, .inr (2, [.int mo, .ref oS, .int th, .int om, .int sd, .int po, .int lr, .long lv, .int (nI d)])), (oS, .inr (1, [.ref oA, .ref oB, .int (nI h)])), (oA, .inl (cA, n, .inl P)), (oB, .inl (cB, n, .inr (.inl V)))] U.heap ∧ va_K (dC, dI) vwCl [(cA, .int), (cB, .long)] U ∧ va_D (fun _ => True) [(oF, .inr (2, [.int mo, .ref oS, .int th, .int om, .int sd, .int po, .int lr, .long lv, .int (nI d)])), (oS, .inr (1, [.ref oA, .ref oB, .int (nI h)])), (oA, .inl (cA, n, .inl P)), (oB, .inl (cB, n, .inr (.inl V)))])) (va_Qi (fun (r : Int32) (_ : Unit) => r = (fOpen p0 (th, om, sd, po, lr, lv, d, P, V, h)).1) (fun (_ : Unit) (t : State) => va_P (dC, dI) vwCl (wF oF oS oA oB cA cB n mo (fOpen p0 (th, om, sd, po, lr, lv, d, P, V, h)).2) t.heap ∧ va_K (dC, dI) vwCl [(cA, .int), (cB, .long)] t ∧ va_D (va_A [(oF, .inr (2, [.int mo, .ref oS, .int th, .int om, .int sd, .int po, .int lr, .long lv, .int (nI d)])), (oS, .inr (1, [.ref oA, .ref oB, .int (nI h)])), (oA, .inl (cA, n, .inl P)), (oB, .inl (cB, n, .inr (.inl V)))] sz) (wF oF oS oA oB cA cB n mo (fOpen p0 (th, om, sd, po, lr, lv, d, P, V, h)).2)) (va_A [(oF, .inr (2, [.int mo, .ref oS, .int th, .int om, .int sd, .int po, .int lr, .long lv, .int (nI d)])), (oS, .inr (1, [.ref oA, .ref oB, .int (nI h)])), (oA, .inl (cA, n, .inl P)), (oB, .inl (cB, n, .inr (.inl V)))] sz)) 0 0 (va_A [(oF, .inr (2, [.int mo, .ref oS, .int th, .int om, .int sd, .int po, .int lr, .long lv, .int (nI d)])), (oS, .inr (1, [.ref oA, .ref oB, .int (nI h)])), (oA, .inl (cA, n, .inl P)), (oB, .inl (cB, n, .inr (.inl V)))] sz) := by
  refine Met.ofW (cc := cX1_open) (maxL := 2) (ret := (some .int)) (by decide) rfl ?_
  intro p e s m args below meth c s₁ B hml hv
  obtain ⟨rfl, hsz, hP, hK, hD0⟩ := hv
  have hx := B.exec
  have hb := B.bytes
  have hr := B.returns
  have hts := atoms_spec (ws := wsX1_open) B.pre
  have hown : s.vm.findClass RX1 = some m.cls := findClass_of_methodNamed B.named
  have hlocks := B.notSynchronized
  subst hsz
  have hD := hD0.self (sz := s.heap.size)
  generalize hAe : va_A [(oF, .inr (2, [.int mo, .ref oS, .int th, .int om, .int sd, .int po, .int lr, .long lv, .int (nI d)])), (oS, .inr (1, [.ref oA, .ref oB, .int (nI h)])), (oA, .inl (cA, n, .inl P)), (oB, .inl (cB, n, .inr (.inl V)))] s.heap.size = A at hD ⊢
  have hA : ∀ q : Nat, s.heap.size ≤ q → A q := fun q h => by rw [← hAe]; exact Or.inr h
  have hS : va_S A s.heap s.heap [] := va_S.rf
  have hP : va_P (dC, dI) vwCl [(oF, .inr (2, [.int mo, .ref oS, .int th, .int om, .int sd, .int po, .int lr, .long lv, .int (nI d)])), (oS, .inr (1, [.ref oA, .ref oB, .int (nI h)])), (oA, .inl (cA, n, .inl P)), (oB, .inl (cB, n, .inr (.inl V)))] s.heap := hP
  have hl := lv_entry ([.ref oF, .int p0]) (n := 2) (Nat.le_of_ble_eq_true rfl)
  rw [lg_entry_eq]
  generalize (lg_sl ([.ref oF, .int p0]) ++ List.replicate (2 - (lg_sl ([.ref oF, .int p0])).length) Slot.unset).toArray = ls at hl ⊢
  have hl : lv_has ls 2 [(0, .ref oF), (1, .int p0)] := hl
  refine W_name (fun Q hQ9 => ?_)
  refine lv_iload_n hx hb dX1_open_0 rfl (lv_at hl 1 rfl) ?_
  refine lv_if_lt (tgt := 9) hx hb dX1_open_1 (by decide) (fun c_1 => ?_) (fun c_1 => ?_)
  · -- taken at 1: p0 < 0
    refine lv_iconst (v := (-1)) hx hb dX1_open_9 (by decide) ?_
    subst hQ9
    have e9 : fOpen p0 (th, om, sd, po, lr, lv, d, P, V, h) = ((-1), (th, om, sd, po, lr, lv, d, P, V, h)) := by simp only [fOpen, if_pos c_1]
    rw [e9]
    exact W.iret (v := (-1)) hx hb hr (fun t ht hW => ⟨⟨(-1), (), rfl, rfl, by rw [ht]; exact hP, va_K.moved hW.alike hK, hD⟩, hS.F ht⟩) hS.2.2 dX1_open_10
  · -- not taken at 1: ¬ p0 < 0
    refine lv_iload_n hx hb dX1_open_4 rfl (lv_at hl 1 rfl) ?_
    refine lv_iconst (v := 4) hx hb dX1_open_5 (by decide) ?_
    refine lv_icmp_le (tgt := 11) hx hb dX1_open_6 (by decide) (fun c_2 => ?_) (fun c_2 => ?_)
    · -- taken at 6: p0 ≤ 4
      refine lv_iload_n hx hb dX1_open_11 rfl (lv_at hl 1 rfl) ?_
      refine lv_iconst (v := 4) hx hb dX1_open_12 (by decide) ?_
      refine lv_icmp_ne (tgt := 23) hx hb dX1_open_13 (by decide) (fun c_3 => ?_) (fun c_3 => ?_)
      · -- taken at 13: ¬ p0 = 4
        refine lv_aload_n hx hb dX1_open_23 rfl (lv_at hl 0 rfl) ?_
        refine lv_iload_n hx hb dX1_open_24 rfl (lv_at hl 1 rfl) ?_
        have hPc := hP.sub (ws' := [(oF, .inr (2, [.int mo, .ref oS, .int th, .int om, .int sd, .int po, .int lr, .long lv, .int (nI d)])), (oS, .inr (1, [.ref oA, .ref oB, .int (nI h)])), (oA, .inl (cA, n, .inl P)), (oB, .inl (cB, n, .inr (.inl V)))]) [0, 1, 2, 3] rfl
        have hDc := hD.sub (ws' := [(oF, .inr (2, [.int mo, .ref oS, .int th, .int om, .int sd, .int po, .int lr, .long lv, .int (nI d)])), (oS, .inr (1, [.ref oA, .ref oB, .int (nI h)])), (oA, .inl (cA, n, .inl P)), (oB, .inl (cB, n, .inr (.inl V)))]) [0, 1, 2, 3] (by decide) rfl
        have hKc := hK.sub (tys' := [(cA, .int), (cB, .long)]) [0, 1] rfl
        have hFc := va_free (wc := [(oF, .inr (2, [.int mo, .ref oS, .int th, .int om, .int sd, .int po, .int lr, .long lv, .int (nI d)])), (oS, .inr (1, [.ref oA, .ref oB, .int (nI h)])), (oA, .inl (cA, n, .inl P)), (oB, .inl (cB, n, .inr (.inl V)))]) hD hS hA [0, 1, 2, 3] rfl
        refine va_calli (va_runV (As := [.int p0]) (rest := []) ⟨hx, hb, hml, hown, hts⟩ (kX1_openFile l dC dI oF oS oA oB cA cB n h d mo th om sd po lr lv P V p0 s.heap.size hh hn) (cwV 1 hts gX1_open_X1_openFile rfl rfl rfl (by decide +kernel) ⟨Nat.le_of_ble_eq_true rfl, Nat.le_of_ble_eq_true rfl⟩) ⟨fun a U g mk q => by obtain ⟨q0, q1, qP, qK, qD⟩ := q; exact ⟨q0, q1, qP, va_K.moved (u := U) (U := U.calling g mk a) (Vm.Alike.refl U.vm) qK, qD⟩, va_recv hKc hPc (ci := 2) (q0 := 0) rfl rfl, fun U hU hW => ⟨rfl, by rw [hU], by rw [hU]; exact hPc, va_K.moved hW.alike hKc, hDc.weaken (fun _ _ _ _ => trivial)⟩⟩ rfl rfl hl.1 rfl (lv_room (Nat.le_of_ble_eq_true rfl)) dX1_open_25 ⟨Nat.le_of_ble_eq_true rfl, Nat.le_of_ble_eq_true rfl⟩) hS (fun q _ h => hFc q h) hFc (fun r_4 u t H1 locs ht hvm hw hB hz1 hk1 hS => ?_)
        obtain ⟨hP1, hK1, hD1⟩ := hB
        rw [ht] at hP1
        have hK1 := va_K.moved hvm.symm hK1
        try dsimp only at hw
        obtain ⟨hP, hD⟩ := va_join (wr := []) (w1 := (wF oF oS oA oB cA cB n mo (fOpF p0 (th, om, sd, po, lr, lv, d, P, V, h)).2)) hP hD [0, 1, 2, 3] [] rfl rfl (by decide) (by decide) hk1 hFc hP1 hD1
        generalize H1 = H at hP hS ⊢
        have hP : va_P (dC, dI) vwCl (wF oF oS oA oB cA cB n mo (fOpF p0 (th, om, sd, po, lr, lv, d, P, V, h)).2) H := hP
        have hD : va_D A (wF oF oS oA oB cA cB n mo (fOpF p0 (th, om, sd, po, lr, lv, d, P, V, h)).2) := hD
        subst hw
        subst hQ9
        have e9 : fOpen p0 (th, om, sd, po, lr, lv, d, P, V, h) = fOpF p0 (th, om, sd, po, lr, lv, d, P, V, h) := by simp only [fOpen, if_neg c_1, if_pos c_2, if_neg c_3]
        rw [e9]
        exact W.iret (v := (fOpF p0 (th, om, sd, po, lr, lv, d, P, V, h)).1) hx hb hr (fun t ht hW => ⟨⟨(fOpF p0 (th, om, sd, po, lr, lv, d, P, V, h)).1, (), rfl, rfl, by rw [ht]; exact hP, va_K.moved hW.alike hK, hD⟩, hS.F ht⟩) hS.2.2 dX1_open_28
      · -- not taken at 13: p0 = 4
        refine lv_aload_n hx hb dX1_open_16 rfl (lv_at hl 0 rfl) ?_
        have hPc := hP.sub (ws' := [(oF, .inr (2, [.int mo, .ref oS, .int th, .int om, .int sd, .int po, .int lr, .long lv, .int (nI d)])), (oS, .inr (1, [.ref oA, .ref oB, .int (nI h)])), (oA, .inl (cA, n, .inl P)), (oB, .inl (cB, n, .inr (.inl V)))]) [0, 1, 2, 3] rfl
        have hDc := hD.sub (ws' := [(oF, .inr (2, [.int mo, .ref oS, .int th, .int om, .int sd, .int po, .int lr, .long lv, .int (nI d)])), (oS, .inr (1, [.ref oA, .ref oB, .int (nI h)])), (oA, .inl (cA, n, .inl P)), (oB, .inl (cB, n, .inr (.inl V)))]) [0, 1, 2, 3] (by decide) rfl
        have hKc := hK.sub (tys' := [(cA, .int), (cB, .long)]) [0, 1] rfl
        have hFc := va_free (wc := [(oF, .inr (2, [.int mo, .ref oS, .int th, .int om, .int sd, .int po, .int lr, .long lv, .int (nI d)])), (oS, .inr (1, [.ref oA, .ref oB, .int (nI h)])), (oA, .inl (cA, n, .inl P)), (oB, .inl (cB, n, .inr (.inl V)))]) hD hS hA [0, 1, 2, 3] rfl
        refine va_calli (va_runV (As := []) (rest := []) ⟨hx, hb, hml, hown, hts⟩ (kX1_closeFile l dC dI oF oS oA oB cA cB n h d mo th om sd po lr lv P V  s.heap.size hh hn) (cwV 0 hts gX1_open_X1_closeFile rfl rfl rfl (by decide +kernel) ⟨Nat.le_of_ble_eq_true rfl, Nat.le_of_ble_eq_true rfl⟩) ⟨fun a U g mk q => by obtain ⟨q0, q1, qP, qK, qD⟩ := q; exact ⟨q0, q1, qP, va_K.moved (u := U) (U := U.calling g mk a) (Vm.Alike.refl U.vm) qK, qD⟩, va_recv hKc hPc (ci := 2) (q0 := 0) rfl rfl, fun U hU hW => ⟨rfl, by rw [hU], by rw [hU]; exact hPc, va_K.moved hW.alike hKc, hDc.weaken (fun _ _ _ _ => trivial)⟩⟩ rfl rfl hl.1 rfl (lv_room (Nat.le_of_ble_eq_true rfl)) dX1_open_17 ⟨Nat.le_of_ble_eq_true rfl, Nat.le_of_ble_eq_true rfl⟩) hS (fun q _ h => hFc q h) hFc (fun r_5 u t H1 locs ht hvm hw hB hz1 hk1 hS => ?_)
        obtain ⟨hP1, hK1, hD1⟩ := hB
        rw [ht] at hP1
        have hK1 := va_K.moved hvm.symm hK1
        try dsimp only at hw
        obtain ⟨hP, hD⟩ := va_join (wr := []) (w1 := (wF oF oS oA oB cA cB n mo (fClose (th, om, sd, po, lr, lv, d, P, V, h)).2)) hP hD [0, 1, 2, 3] [] rfl rfl (by decide) (by decide) hk1 hFc hP1 hD1
        generalize H1 = H at hP hS ⊢
        have hP : va_P (dC, dI) vwCl (wF oF oS oA oB cA cB n mo (fClose (th, om, sd, po, lr, lv, d, P, V, h)).2) H := hP
        have hD : va_D A (wF oF oS oA oB cA cB n mo (fClose (th, om, sd, po, lr, lv, d, P, V, h)).2) := hD
        subst hw
        refine lv_goto (tgt := 28) hx hb dX1_open_20 (by decide) ?_
        subst hQ9
        have e9 : fOpen p0 (th, om, sd, po, lr, lv, d, P, V, h) = fClose (th, om, sd, po, lr, lv, d, P, V, h) := by simp only [fOpen, if_neg c_1, if_pos c_2, if_pos c_3]
        rw [e9]
        exact W.iret (v := (fClose (th, om, sd, po, lr, lv, d, P, V, h)).1) hx hb hr (fun t ht hW => ⟨⟨(fClose (th, om, sd, po, lr, lv, d, P, V, h)).1, (), rfl, rfl, by rw [ht]; exact hP, va_K.moved hW.alike hK, hD⟩, hS.F ht⟩) hS.2.2 dX1_open_28
    · -- not taken at 6: ¬ p0 ≤ 4
      refine lv_iconst (v := (-1)) hx hb dX1_open_9 (by decide) ?_
      subst hQ9
      have e9 : fOpen p0 (th, om, sd, po, lr, lv, d, P, V, h) = ((-1), (th, om, sd, po, lr, lv, d, P, V, h)) := by simp only [fOpen, if_neg c_1, if_neg c_2]
      rw [e9]
      exact W.iret (v := (-1)) hx hb hr (fun t ht hW => ⟨⟨(-1), (), rfl, rfl, by rw [ht]; exact hP, va_K.moved hW.alike hK, hD⟩, hS.F ht⟩) hS.2.2 dX1_open_10

set_option maxHeartbeats 1000000 in
set_option maxRecDepth 100000 in
theorem kX1_write (l : Launch) (dC : Nat → ClassId) (dI : Nat → Nat → Nat) (oF oS oA oB : Nat) (cA cB : ClassId) (n h d : Nat) (mo th om sd po lr : Int32) (lv : Int64) (P : Nat → Int32) (V : Nat → Int64) (p0 : Int32) (p1 : Int64) (sz : Nat) (hh : h ≤ n) (hn : n ≤ 512) (hd : d ≤ 9) (hfree : ∀ x : Int32, isPl mo x → ¬ hasS P h x → h < n) : Met l yX1_write wsX1_write ({ frames := 3, cells := 0, slots := 0, locals := 61 }) (va_Pc [.ref oF, .int p0, .long p1] (fun U => U.heap.size = sz ∧ va_P (dC, dI) vwCl [(oF, .inr (2, [.int mo, .ref oS, .int th, .int om, .int sd, .int po, .int lr, .long lv, .int (nI d)])), (oS, .inr (1, [.ref oA, .ref oB, .int (nI h)])), (oA, .inl (cA, n, .inl P)), (oB, .inl (cB, n, .inr (.inl V)))] U.heap ∧ va_K (dC, dI) vwCl [(cA, .int), (cB, .long)] U ∧ va_D (fun _ => True) [(oF, .inr (2, [.int mo, .ref oS, .int th, .int om, .int sd, .int po, .int lr, .long lv, .int (nI d)])), (oS, .inr (1, [.ref oA, .ref oB, .int (nI h)])), (oA, .inl (cA, n, .inl P)), (oB, .inl (cB, n, .inr (.inl V)))])) (va_Qi (fun (r : Int32) (_ : Unit) => r = (fWrite mo p0 p1 (th, om, sd, po, lr, lv, d, P, V, h)).1) (fun (_ : Unit) (t : State) => va_P (dC, dI) vwCl (wF oF oS oA oB cA cB n mo (fWrite mo p0 p1 (th, om, sd, po, lr, lv, d, P, V, h)).2) t.heap ∧ va_K (dC, dI) vwCl [(cA, .int), (cB, .long)] t ∧ va_D (va_A [(oF, .inr (2, [.int mo, .ref oS, .int th, .int om, .int sd, .int po, .int lr, .long lv, .int (nI d)])), (oS, .inr (1, [.ref oA, .ref oB, .int (nI h)])), (oA, .inl (cA, n, .inl P)), (oB, .inl (cB, n, .inr (.inl V)))] sz) (wF oF oS oA oB cA cB n mo (fWrite mo p0 p1 (th, om, sd, po, lr, lv, d, P, V, h)).2)) (va_A [(oF, .inr (2, [.int mo, .ref oS, .int th, .int om, .int sd, .int po, .int lr, .long lv, .int (nI d)])), (oS, .inr (1, [.ref oA, .ref oB, .int (nI h)])), (oA, .inl (cA, n, .inl P)), (oB, .inl (cB, n, .inr (.inl V)))] sz)) 0 0 (va_A [(oF, .inr (2, [.int mo, .ref oS, .int th, .int om, .int sd, .int po, .int lr, .long lv, .int (nI d)])), (oS, .inr (1, [.ref oA, .ref oB, .int (nI h)])), (oA, .inl (cA, n, .inl P)), (oB, .inl (cB, n, .inr (.inl V)))] sz) := by
  refine Met.ofW (cc := cX1_write) (maxL := 5) (ret := (some .int)) (by decide) rfl ?_
  intro p e s m args below meth c s₁ B hml hv
  obtain ⟨rfl, hsz, hP, hK, hD0⟩ := hv
  have hx := B.exec
  have hb := B.bytes
  have hr := B.returns
  have hts := atoms_spec (ws := wsX1_write) B.pre
  have hown : s.vm.findClass RX1 = some m.cls := findClass_of_methodNamed B.named
  have hlocks := B.notSynchronized
  subst hsz
  have hD := hD0.self (sz := s.heap.size)
  generalize hAe : va_A [(oF, .inr (2, [.int mo, .ref oS, .int th, .int om, .int sd, .int po, .int lr, .long lv, .int (nI d)])), (oS, .inr (1, [.ref oA, .ref oB, .int (nI h)])), (oA, .inl (cA, n, .inl P)), (oB, .inl (cB, n, .inr (.inl V)))] s.heap.size = A at hD ⊢
  have hA : ∀ q : Nat, s.heap.size ≤ q → A q := fun q h => by rw [← hAe]; exact Or.inr h
  have hS : va_S A s.heap s.heap [] := va_S.rf
  have hP : va_P (dC, dI) vwCl [(oF, .inr (2, [.int mo, .ref oS, .int th, .int om, .int sd, .int po, .int lr, .long lv, .int (nI d)])), (oS, .inr (1, [.ref oA, .ref oB, .int (nI h)])), (oA, .inl (cA, n, .inl P)), (oB, .inl (cB, n, .inr (.inl V)))] s.heap := hP
  have hl := lv_entry ([.ref oF, .int p0, .long p1]) (n := 5) (Nat.le_of_ble_eq_true rfl)
  rw [lg_entry_eq]
  generalize (lg_sl ([.ref oF, .int p0, .long p1]) ++ List.replicate (5 - (lg_sl ([.ref oF, .int p0, .long p1])).length) Slot.unset).toArray = ls at hl ⊢
  have hl : lv_has ls 5 [(0, .ref oF), (1, .int p0), (2, .long p1)] := hl
  refine W_name (fun Q hQ9 => ?_)
  refine lv_aload_n hx hb dX1_write_0 rfl (lv_at hl 0 rfl) ?_
  refine va_get (D := (dC, dI)) (ci := 2) (v := .int om) (C := RX1) (T := TX1) (N := 9) hx hb hts (by decide +kernel) hown hK hP 0 rfl rfl 3 (by decide) (hts (.fieldLink RX1 36 "RelativeFiles" "openMode" "I") (by decide +kernel)) (fun _ h9 => h9) rfl dX1_write_1 ?_
  refine lv_iconst (v := (-1)) hx hb dX1_write_4 (by decide) ?_
  refine lv_icmp_ne (tgt := 11) hx hb dX1_write_5 (by decide) (fun c_1 => ?_) (fun c_1 => ?_)
  · -- taken at 5: ¬ om = (-1)
    refine lv_aload_n hx hb dX1_write_11 rfl (lv_at hl 0 rfl) ?_
    refine va_get (D := (dC, dI)) (ci := 2) (v := .int om) (C := RX1) (T := TX1) (N := 9) hx hb hts (by decide +kernel) hown hK hP 0 rfl rfl 3 (by decide) (hts (.fieldLink RX1 36 "RelativeFiles" "openMode" "I") (by decide +kernel)) (fun _ h9 => h9) rfl dX1_write_12 ?_
    refine lv_if_ne (tgt := 21) hx hb dX1_write_15 (by decide) (fun c_2 => ?_) (fun c_2 => ?_)
    · -- taken at 15: ¬ om = 0
      refine lv_aload_n hx hb dX1_write_21 rfl (lv_at hl 0 rfl) ?_
      refine lv_iconst (v := 0) hx hb dX1_write_22 (by decide) ?_
      refine va_put (D := (dC, dI)) (ci := 2) (v := .int 0) (ty := .int) (C := RX1) (T := TX1) (N := 9) hx hb hts (by decide +kernel) tyX1 tyX1_ok nmX1 hown hK hP hD hS 0 rfl rfl 6 (by decide) (hts (.fieldLink RX1 45 "RelativeFiles" "lastRead" "I") (by decide +kernel)) (fun _ h9 => h9) rfl (by decide +kernel) rfl rfl (Nat.le_of_ble_eq_true rfl) dX1_write_23 (fun H locs hP hD hS => ?_)
      have hP : va_P (dC, dI) vwCl [(oF, .inr (2, [.int mo, .ref oS, .int th, .int om, .int sd, .int po, .int 0, .long lv, .int (nI d)])), (oS, .inr (1, [.ref oA, .ref oB, .int (nI h)])), (oA, .inl (cA, n, .inl P)), (oB, .inl (cB, n, .inr (.inl V)))] H := hP
      have hD : va_D A [(oF, .inr (2, [.int mo, .ref oS, .int th, .int om, .int sd, .int po, .int 0, .long lv, .int (nI d)])), (oS, .inr (1, [.ref oA, .ref oB, .int (nI h)])), (oA, .inl (cA, n, .inl P)), (oB, .inl (cB, n, .inr (.inl V)))] := hD
      refine lv_iload_n hx hb dX1_write_26 rfl (lv_at hl 1 rfl) ?_
      refine lv_iconst (v := (-1)) hx hb dX1_write_27 (by decide) ?_
      refine lv_icmp_ne (tgt := 38) hx hb dX1_write_28 (by decide) (fun c_3 => ?_) (fun c_3 => ?_)
      · -- taken at 28: ¬ p0 = (-1)
        refine lv_iload_n hx hb dX1_write_38 rfl (lv_at hl 1 rfl) ?_
        refine lv_istore (lv' := [(4, .int p0), (0, .ref oF), (1, .int p0), (2, .long p1)]) hx hb dX1_write_39 hl (by decide) rfl (fun ls hl => ?_)
        refine lv_aload_n hx hb dX1_write_41 rfl (lv_at hl 1 rfl) ?_
        refine lv_iload hx hb dX1_write_42 (lv_at hl 0 rfl) ?_
        have hPc := hP.sub (ws' := [(oF, .inr (2, [.int mo, .ref oS, .int th, .int om, .int sd, .int po, .int 0, .long lv, .int (nI d)])), (oS, .inr (1, [.ref oA, .ref oB, .int (nI h)])), (oA, .inl (cA, n, .inl P)), (oB, .inl (cB, n, .inr (.inl V)))]) [0, 1, 2, 3] rfl
        have hDc := hD.sub (ws' := [(oF, .inr (2, [.int mo, .ref oS, .int th, .int om, .int sd, .int po, .int 0, .long lv, .int (nI d)])), (oS, .inr (1, [.ref oA, .ref oB, .int (nI h)])), (oA, .inl (cA, n, .inl P)), (oB, .inl (cB, n, .inr (.inl V)))]) [0, 1, 2, 3] (by decide) rfl
        have hKc := hK.sub (tys' := [(cA, .int), (cB, .long)]) [0, 1] rfl
        have hFc := va_free (wc := [(oF, .inr (2, [.int mo, .ref oS, .int th, .int om, .int sd, .int po, .int 0, .long lv, .int (nI d)])), (oS, .inr (1, [.ref oA, .ref oB, .int (nI h)])), (oA, .inl (cA, n, .inl P)), (oB, .inl (cB, n, .inr (.inl V)))]) hD hS hA [0, 1, 2, 3] rfl
        refine va_calli (va_runV (As := [.int p0]) (rest := []) ⟨hx, hb, hml, hown, hts⟩ (kX1_isPlace l dC dI oF oS oA oB cA cB n h d mo th om sd po 0 lv P V p0 H.size hh hn) (cwV 1 hts gX1_write_X1_isPlace rfl rfl rfl (by decide +kernel) ⟨Nat.le_of_ble_eq_true rfl, Nat.le_of_ble_eq_true rfl⟩) ⟨fun a U g mk q => by obtain ⟨q0, q1, qP, qK, qD⟩ := q; exact ⟨q0, q1, qP, va_K.moved (u := U) (U := U.calling g mk a) (Vm.Alike.refl U.vm) qK, qD⟩, va_recv hKc hPc (ci := 2) (q0 := 0) rfl rfl, fun U hU hW => ⟨rfl, by rw [hU], by rw [hU]; exact hPc, va_K.moved hW.alike hKc, hDc.weaken (fun _ _ _ _ => trivial)⟩⟩ rfl rfl hl.1 rfl (lv_room (Nat.le_of_ble_eq_true rfl)) dX1_write_44 ⟨Nat.le_of_ble_eq_true rfl, Nat.le_of_ble_eq_true rfl⟩) hS (fun q _ h => hFc q h) hFc (fun r_4 u t H1 locs ht hvm hw hB hz1 hk1 hS => ?_)
        obtain ⟨hP1, hK1, hD1⟩ := hB
        rw [ht] at hP1
        have hK1 := va_K.moved hvm.symm hK1
        try dsimp only at hw
        obtain ⟨hP, hD⟩ := va_join (wr := []) (w1 := [(oF, .inr (2, [.int mo, .ref oS, .int th, .int om, .int sd, .int po, .int 0, .long lv, .int (nI d)])), (oS, .inr (1, [.ref oA, .ref oB, .int (nI h)])), (oA, .inl (cA, n, .inl P)), (oB, .inl (cB, n, .inr (.inl V)))]) hP hD [0, 1, 2, 3] [] rfl rfl (by decide) (by decide) hk1 hFc hP1 hD1
        generalize H1 = H at hP hS ⊢
        have hP : va_P (dC, dI) vwCl [(oF, .inr (2, [.int mo, .ref oS, .int th, .int om, .int sd, .int po, .int 0, .long lv, .int (nI d)])), (oS, .inr (1, [.ref oA, .ref oB, .int (nI h)])), (oA, .inl (cA, n, .inl P)), (oB, .inl (cB, n, .inr (.inl V)))] H := hP.sub [0, 1, 2, 3] rfl
        have hD : va_D A [(oF, .inr (2, [.int mo, .ref oS, .int th, .int om, .int sd, .int po, .int 0, .long lv, .int (nI d)])), (oS, .inr (1, [.ref oA, .ref oB, .int (nI h)])), (oA, .inl (cA, n, .inl P)), (oB, .inl (cB, n, .inr (.inl V)))] := hD.sub [0, 1, 2, 3] (by decide) rfl
        have hK : va_K (dC, dI) vwCl [(cA, .int), (cB, .long)] s := hK
        rcases hw with ⟨b_5, hw⟩ | ⟨b_5, hw⟩
        · -- isPl mo p0
          subst hw
          refine lv_if_eq (tgt := 59) hx hb dX1_write_47 (by decide) (fun c_6 => ?_) (fun c_6 => ?_)
          · -- taken at 47: 1 = 0
            exact absurd c_6 (by decide)
          · -- not taken at 47: ¬ 1 = 0
            refine lv_aload_n hx hb dX1_write_50 rfl (lv_at hl 1 rfl) ?_
            refine lv_iload hx hb dX1_write_51 (lv_at hl 0 rfl) ?_
            have hPc := hP.sub (ws' := [(oF, .inr (2, [.int mo, .ref oS, .int th, .int om, .int sd, .int po, .int 0, .long lv, .int (nI d)])), (oS, .inr (1, [.ref oA, .ref oB, .int (nI h)])), (oA, .inl (cA, n, .inl P)), (oB, .inl (cB, n, .inr (.inl V)))]) [0, 1, 2, 3] rfl
            have hDc := hD.sub (ws' := [(oF, .inr (2, [.int mo, .ref oS, .int th, .int om, .int sd, .int po, .int 0, .long lv, .int (nI d)])), (oS, .inr (1, [.ref oA, .ref oB, .int (nI h)])), (oA, .inl (cA, n, .inl P)), (oB, .inl (cB, n, .inr (.inl V)))]) [0, 1, 2, 3] (by decide) rfl
            have hKc := hK.sub (tys' := [(cA, .int), (cB, .long)]) [0, 1] rfl
            have hFc := va_free (wc := [(oF, .inr (2, [.int mo, .ref oS, .int th, .int om, .int sd, .int po, .int 0, .long lv, .int (nI d)])), (oS, .inr (1, [.ref oA, .ref oB, .int (nI h)])), (oA, .inl (cA, n, .inl P)), (oB, .inl (cB, n, .inr (.inl V)))]) hD hS hA [0, 1, 2, 3] rfl
            refine va_calli (va_runV (As := [.int p0]) (rest := []) ⟨hx, hb, hml, hown, hts⟩ (kX1_isTooLong l dC dI oF oS oA oB cA cB n h d mo th om sd po 0 lv P V p0 H.size hh hn hd) (cwV 1 hts gX1_write_X1_isTooLong rfl rfl rfl (by decide +kernel) ⟨Nat.le_of_ble_eq_true rfl, Nat.le_of_ble_eq_true rfl⟩) ⟨fun a U g mk q => by obtain ⟨q0, q1, qP, qK, qD⟩ := q; exact ⟨q0, q1, qP, va_K.moved (u := U) (U := U.calling g mk a) (Vm.Alike.refl U.vm) qK, qD⟩, va_recv hKc hPc (ci := 2) (q0 := 0) rfl rfl, fun U hU hW => ⟨rfl, by rw [hU], by rw [hU]; exact hPc, va_K.moved hW.alike hKc, hDc.weaken (fun _ _ _ _ => trivial)⟩⟩ rfl rfl hl.1 rfl (lv_room (Nat.le_of_ble_eq_true rfl)) dX1_write_53 ⟨Nat.le_of_ble_eq_true rfl, Nat.le_of_ble_eq_true rfl⟩) hS (fun q _ h => hFc q h) hFc (fun r_7 u t H1 locs ht hvm hw hB hz1 hk1 hS => ?_)
            obtain ⟨hP1, hK1, hD1⟩ := hB
            rw [ht] at hP1
            have hK1 := va_K.moved hvm.symm hK1
            try dsimp only at hw
            obtain ⟨hP, hD⟩ := va_join (wr := []) (w1 := [(oF, .inr (2, [.int mo, .ref oS, .int th, .int om, .int sd, .int po, .int 0, .long lv, .int (nI d)])), (oS, .inr (1, [.ref oA, .ref oB, .int (nI h)])), (oA, .inl (cA, n, .inl P)), (oB, .inl (cB, n, .inr (.inl V)))]) hP hD [0, 1, 2, 3] [] rfl rfl (by decide) (by decide) hk1 hFc hP1 hD1
            generalize H1 = H at hP hS ⊢
            have hP : va_P (dC, dI) vwCl [(oF, .inr (2, [.int mo, .ref oS, .int th, .int om, .int sd, .int po, .int 0, .long lv, .int (nI d)])), (oS, .inr (1, [.ref oA, .ref oB, .int (nI h)])), (oA, .inl (cA, n, .inl P)), (oB, .inl (cB, n, .inr (.inl V)))] H := hP.sub [0, 1, 2, 3] rfl
            have hD : va_D A [(oF, .inr (2, [.int mo, .ref oS, .int th, .int om, .int sd, .int po, .int 0, .long lv, .int (nI d)])), (oS, .inr (1, [.ref oA, .ref oB, .int (nI h)])), (oA, .inl (cA, n, .inl P)), (oB, .inl (cB, n, .inr (.inl V)))] := hD.sub [0, 1, 2, 3] (by decide) rfl
            have hK : va_K (dC, dI) vwCl [(cA, .int), (cB, .long)] s := hK
            rcases hw with ⟨b_8, hw⟩ | ⟨b_8, hw⟩
            · -- tooL p0 d
              subst hw
              refine lv_if_eq (tgt := 62) hx hb dX1_write_56 (by decide) (fun c_9 => ?_) (fun c_9 => ?_)
              · -- taken at 56: 1 = 0
                exact absurd c_9 (by decide)
              · -- not taken at 56: ¬ 1 = 0
                refine lv_bipush (v := 24) hx hb dX1_write_59 (by decide) ?_
                subst hQ9
                have e9 : fWrite mo p0 p1 (th, om, sd, po, lr, lv, d, P, V, h) = (24, (th, om, sd, po, 0, lv, d, P, V, h)) := by simp only [fWrite, fWr2, if_neg c_1, if_neg c_2, if_neg c_3, if_pos b_5, if_pos b_8]
                rw [e9]
                exact W.iret (v := 24) hx hb hr (fun t ht hW => ⟨⟨24, (), rfl, rfl, by rw [ht]; exact hP, va_K.moved hW.alike hK, hD⟩, hS.F ht⟩) hS.2.2 dX1_write_61
            · -- ¬ (tooL p0 d)
              subst hw
              refine lv_if_eq (tgt := 62) hx hb dX1_write_56 (by decide) (fun c_10 => ?_) (fun c_10 => ?_)
              · -- taken at 56: 0 = 0
                refine lv_aload_n hx hb dX1_write_62 rfl (lv_at hl 1 rfl) ?_
                refine va_get (D := (dC, dI)) (ci := 2) (v := .ref oS) (C := RX1) (T := TX1) (N := 9) hx hb hts (by decide +kernel) hown hK hP 0 rfl rfl 1 (by decide) (hts (.fieldLink RX1 28 "RelativeFiles" "shelf" "LRelativeFiles$Shelf;") (by decide +kernel)) (fun _ h9 => h9) rfl dX1_write_63 ?_
                refine lv_iload hx hb dX1_write_66 (lv_at hl 0 rfl) ?_
                have hPc := hP.sub (ws' := [(oS, .inr (1, [.ref oA, .ref oB, .int (nI h)])), (oA, .inl (cA, n, .inl P)), (oB, .inl (cB, n, .inr (.inl V)))]) [1, 2, 3] rfl
                have hDc := hD.sub (ws' := [(oS, .inr (1, [.ref oA, .ref oB, .int (nI h)])), (oA, .inl (cA, n, .inl P)), (oB, .inl (cB, n, .inr (.inl V)))]) [1, 2, 3] (by decide) rfl
                have hKc := hK.sub (tys' := [(cA, .int), (cB, .long)]) [0, 1] rfl
                have hFc := va_free (wc := [(oS, .inr (1, [.ref oA, .ref oB, .int (nI h)])), (oA, .inl (cA, n, .inl P)), (oB, .inl (cB, n, .inr (.inl V)))]) hD hS hA [1, 2, 3] rfl
                refine va_calli (va_runV (As := [.int p0]) (rest := []) ⟨hx, hb, hml, hown, hts⟩ (kX0_has l dC dI oS oA oB cA cB n h P V p0 H.size hh hn) (cwV 1 hts gX1_write_X0_has rfl rfl rfl (by decide +kernel) ⟨Nat.le_of_ble_eq_true rfl, Nat.le_of_ble_eq_true rfl⟩) ⟨fun a U g mk q => by obtain ⟨q0, q1, qP, qK, qD⟩ := q; exact ⟨q0, q1, qP, va_K.moved (u := U) (U := U.calling g mk a) (Vm.Alike.refl U.vm) qK, qD⟩, va_recv hKc hPc (ci := 1) (q0 := 0) rfl rfl, fun U hU hW => ⟨rfl, by rw [hU], by rw [hU]; exact hPc, va_K.moved hW.alike hKc, hDc.weaken (fun _ _ _ _ => trivial)⟩⟩ rfl rfl hl.1 rfl (lv_room (Nat.le_of_ble_eq_true rfl)) dX1_write_68 ⟨Nat.le_of_ble_eq_true rfl, Nat.le_of_ble_eq_true rfl⟩) hS (fun q _ h => hFc q h) hFc (fun r_11 u t H1 locs ht hvm hw hB hz1 hk1 hS => ?_)
                obtain ⟨hP1, hK1, hD1⟩ := hB
                rw [ht] at hP1
                have hK1 := va_K.moved hvm.symm hK1
                try dsimp only at hw
                obtain ⟨hP, hD⟩ := va_join (wr := [(oF, .inr (2, [.int mo, .ref oS, .int th, .int om, .int sd, .int po, .int 0, .long lv, .int (nI d)]))]) (w1 := [(oS, .inr (1, [.ref oA, .ref oB, .int (nI h)])), (oA, .inl (cA, n, .inl P)), (oB, .inl (cB, n, .inr (.inl V)))]) hP hD [1, 2, 3] [0] rfl rfl (by decide) (by decide) hk1 hFc hP1 hD1
                generalize H1 = H at hP hS ⊢
                have hP : va_P (dC, dI) vwCl [(oF, .inr (2, [.int mo, .ref oS, .int th, .int om, .int sd, .int po, .int 0, .long lv, .int (nI d)])), (oS, .inr (1, [.ref oA, .ref oB, .int (nI h)])), (oA, .inl (cA, n, .inl P)), (oB, .inl (cB, n, .inr (.inl V)))] H := hP.sub [0, 1, 2, 3] rfl
                have hD : va_D A [(oF, .inr (2, [.int mo, .ref oS, .int th, .int om, .int sd, .int po, .int 0, .long lv, .int (nI d)])), (oS, .inr (1, [.ref oA, .ref oB, .int (nI h)])), (oA, .inl (cA, n, .inl P)), (oB, .inl (cB, n, .inr (.inl V)))] := hD.sub [0, 1, 2, 3] (by decide) rfl
                have hK : va_K (dC, dI) vwCl [(cA, .int), (cB, .long)] s := hK
                rcases hw with ⟨b_12, hw⟩ | ⟨b_12, hw⟩
                · -- hasS P h p0
                  subst hw
                  refine lv_if_eq (tgt := 77) hx hb dX1_write_71 (by decide) (fun c_13 => ?_) (fun c_13 => ?_)
                  · -- taken at 71: 1 = 0
                    exact absurd c_13 (by decide)
                  · -- not taken at 71: ¬ 1 = 0
                    refine lv_bipush (v := 22) hx hb dX1_write_74 (by decide) ?_
                    subst hQ9
                    have e9 : fWrite mo p0 p1 (th, om, sd, po, lr, lv, d, P, V, h) = (22, (th, om, sd, po, 0, lv, d, P, V, h)) := by simp only [fWrite, fWr2, if_neg c_1, if_neg c_2, if_neg c_3, if_pos b_5, if_neg b_8, if_pos b_12]
                    rw [e9]
                    exact W.iret (v := 22) hx hb hr (fun t ht hW => ⟨⟨22, (), rfl, rfl, by rw [ht]; exact hP, va_K.moved hW.alike hK, hD⟩, hS.F ht⟩) hS.2.2 dX1_write_76
                · -- ¬ (hasS P h p0)
                  subst hw
                  refine lv_if_eq (tgt := 77) hx hb dX1_write_71 (by decide) (fun c_14 => ?_) (fun c_14 => ?_)
                  · -- taken at 71: 0 = 0
                    refine lv_aload_n hx hb dX1_write_77 rfl (lv_at hl 1 rfl) ?_
                    refine va_get (D := (dC, dI)) (ci := 2) (v := .ref oS) (C := RX1) (T := TX1) (N := 9) hx hb hts (by decide +kernel) hown hK hP 0 rfl rfl 1 (by decide) (hts (.fieldLink RX1 28 "RelativeFiles" "shelf" "LRelativeFiles$Shelf;") (by decide +kernel)) (fun _ h9 => h9) rfl dX1_write_78 ?_
                    refine lv_iload hx hb dX1_write_81 (lv_at hl 0 rfl) ?_
                    refine lv_lload_n hx hb dX1_write_83 rfl (lv_at hl 3 rfl) ?_
                    have hlt : h < n := hfree _ b_5 b_12
                    have hPc := hP.sub (ws' := [(oS, .inr (1, [.ref oA, .ref oB, .int (nI h)])), (oA, .inl (cA, n, .inl P)), (oB, .inl (cB, n, .inr (.inl V)))]) [1, 2, 3] rfl
                    have hDc := hD.sub (ws' := [(oS, .inr (1, [.ref oA, .ref oB, .int (nI h)])), (oA, .inl (cA, n, .inl P)), (oB, .inl (cB, n, .inr (.inl V)))]) [1, 2, 3] (by decide) rfl
                    have hKc := hK.sub (tys' := [(cA, .int), (cB, .long)]) [0, 1] rfl
                    have hFc := va_free (wc := [(oS, .inr (1, [.ref oA, .ref oB, .int (nI h)])), (oA, .inl (cA, n, .inl P)), (oB, .inl (cB, n, .inr (.inl V)))]) hD hS hA [1, 2, 3] rfl
                    refine va_calli (va_runV (As := [.int p0, .long p1]) (rest := []) ⟨hx, hb, hml, hown, hts⟩ (kX0_add l dC dI oS oA oB cA cB n h P V p0 p1 H.size hh hn hlt) (cwV 2 hts gX1_write_X0_add rfl rfl rfl (by decide +kernel) ⟨Nat.le_of_ble_eq_true rfl, Nat.le_of_ble_eq_true rfl⟩) ⟨fun a U g mk q => by obtain ⟨q0, q1, qP, qK, qD⟩ := q; exact ⟨q0, q1, qP, va_K.moved (u := U) (U := U.calling g mk a) (Vm.Alike.refl U.vm) qK, qD⟩, va_recv hKc hPc (ci := 1) (q0 := 0) rfl rfl, fun U hU hW => ⟨rfl, by rw [hU], by rw [hU]; exact hPc, va_K.moved hW.alike hKc, hDc.weaken (fun _ _ _ _ => trivial)⟩⟩ rfl rfl hl.1 rfl (lv_room (Nat.le_of_ble_eq_true rfl)) dX1_write_84 ⟨Nat.le_of_ble_eq_true rfl, Nat.le_of_ble_eq_true rfl⟩) hS (fun q _ h => hFc q h) hFc (fun r_15 u t H1 locs ht hvm hw hB hz1 hk1 hS => ?_)
                    obtain ⟨hP1, hK1, hD1⟩ := hB
                    rw [ht] at hP1
                    have hK1 := va_K.moved hvm.symm hK1
                    try dsimp only at hw
                    obtain ⟨hP, hD⟩ := va_join (wr := [(oF, .inr (2, [.int mo, .ref oS, .int th, .int om, .int sd, .int po, .int 0, .long lv, .int (nI d)]))]) (w1 := [(oS, .inr (1, [.ref oA, .ref oB, .int (nI (h + 1))])), (oA, .inl (cA, n, .inl (insA P (rk P p0 h) p0 h))), (oB, .inl (cB, n, .inr (.inl (insA V (rk P p0 h) p1 h))))]) hP hD [1, 2, 3] [0] rfl rfl (by decide) (by decide) hk1 hFc hP1 hD1
                    generalize H1 = H at hP hS ⊢
                    have hP : va_P (dC, dI) vwCl [(oF, .inr (2, [.int mo, .ref oS, .int th, .int om, .int sd, .int po, .int 0, .long lv, .int (nI d)])), (oS, .inr (1, [.ref oA, .ref oB, .int (nI (h + 1))])), (oA, .inl (cA, n, .inl (insA P (rk P p0 h) p0 h))), (oB, .inl (cB, n, .inr (.inl (insA V (rk P p0 h) p1 h))))] H := hP.sub [0, 1, 2, 3] rfl
                    have hD : va_D A [(oF, .inr (2, [.int mo, .ref oS, .int th, .int om, .int sd, .int po, .int 0, .long lv, .int (nI d)])), (oS, .inr (1, [.ref oA, .ref oB, .int (nI (h + 1))])), (oA, .inl (cA, n, .inl (insA P (rk P p0 h) p0 h))), (oB, .inl (cB, n, .inr (.inl (insA V (rk P p0 h) p1 h))))] := hD.sub [0, 1, 2, 3] (by decide) rfl
                    have hK : va_K (dC, dI) vwCl [(cA, .int), (cB, .long)] s := hK
                    subst hw
                    refine lv_if_ne (tgt := 93) hx hb dX1_write_87 (by decide) (fun c_16 => ?_) (fun c_16 => ?_)
                    · -- taken at 87: ¬ 1 = 0
                      refine lv_aload_n hx hb dX1_write_93 rfl (lv_at hl 1 rfl) ?_
                      refine lv_lload_n hx hb dX1_write_94 rfl (lv_at hl 3 rfl) ?_
                      refine va_put (D := (dC, dI)) (ci := 2) (v := .long p1) (ty := .long) (C := RX1) (T := TX1) (N := 9) hx hb hts (by decide +kernel) tyX1 tyX1_ok nmX1 hown hK hP hD hS 0 rfl rfl 7 (by decide) (hts (.fieldLink RX1 48 "RelativeFiles" "lastValue" "J") (by decide +kernel)) (fun _ h9 => h9) rfl (by decide +kernel) rfl rfl (Nat.le_of_ble_eq_true rfl) dX1_write_95 (fun H locs hP hD hS => ?_)
                      have hP : va_P (dC, dI) vwCl [(oF, .inr (2, [.int mo, .ref oS, .int th, .int om, .int sd, .int po, .int 0, .long p1, .int (nI d)])), (oS, .inr (1, [.ref oA, .ref oB, .int (nI (h + 1))])), (oA, .inl (cA, n, .inl (insA P (rk P p0 h) p0 h))), (oB, .inl (cB, n, .inr (.inl (insA V (rk P p0 h) p1 h))))] H := hP
                      have hD : va_D A [(oF, .inr (2, [.int mo, .ref oS, .int th, .int om, .int sd, .int po, .int 0, .long p1, .int (nI d)])), (oS, .inr (1, [.ref oA, .ref oB, .int (nI (h + 1))])), (oA, .inl (cA, n, .inl (insA P (rk P p0 h) p0 h))), (oB, .inl (cB, n, .inr (.inl (insA V (rk P p0 h) p1 h))))] := hD
                      refine lv_iconst (v := 0) hx hb dX1_write_98 (by decide) ?_
                      subst hQ9
                      have e9 : fWrite mo p0 p1 (th, om, sd, po, lr, lv, d, P, V, h) = (0, (th, om, sd, po, 0, p1, d, insA P (rk P p0 h) p0 h, insA V (rk P p0 h) p1 h, (h + 1))) := by simp only [fWrite, fWr2, if_neg c_1, if_neg c_2, if_neg c_3, if_pos b_5, if_neg b_8, if_neg b_12]
                      rw [e9]
                      exact W.iret (v := 0) hx hb hr (fun t ht hW => ⟨⟨0, (), rfl, rfl, by rw [ht]; exact hP, va_K.moved hW.alike hK, hD⟩, hS.F ht⟩) hS.2.2 dX1_write_99
                    · -- not taken at 87: 1 = 0
                      exact absurd c_16 (by decide)
                  · -- not taken at 71: ¬ 0 = 0
                    exact absurd c_14 (by decide)
              · -- not taken at 56: ¬ 0 = 0
                exact absurd c_10 (by decide)
        · -- ¬ (isPl mo p0)
          subst hw
          refine lv_if_eq (tgt := 59) hx hb dX1_write_47 (by decide) (fun c_17 => ?_) (fun c_17 => ?_)
          · -- taken at 47: 0 = 0
            refine lv_bipush (v := 24) hx hb dX1_write_59 (by decide) ?_
            subst hQ9
            have e9 : fWrite mo p0 p1 (th, om, sd, po, lr, lv, d, P, V, h) = (24, (th, om, sd, po, 0, lv, d, P, V, h)) := by simp only [fWrite, fWr2, if_neg c_1, if_neg c_2, if_neg c_3, if_neg b_5]
            rw [e9]
            exact W.iret (v := 24) hx hb hr (fun t ht hW => ⟨⟨24, (), rfl, rfl, by rw [ht]; exact hP, va_K.moved hW.alike hK, hD⟩, hS.F ht⟩) hS.2.2 dX1_write_61
          · -- not taken at 47: ¬ 0 = 0
            exact absurd c_17 (by decide)
      · -- not taken at 28: p0 = (-1)
        refine lv_aload_n hx hb dX1_write_31 rfl (lv_at hl 0 rfl) ?_
        have hPc := hP.sub (ws' := [(oF, .inr (2, [.int mo, .ref oS, .int th, .int om, .int sd, .int po, .int 0, .long lv, .int (nI d)])), (oS, .inr (1, [.ref oA, .ref oB, .int (nI h)])), (oA, .inl (cA, n, .inl P)), (oB, .inl (cB, n, .inr (.inl V)))]) [0, 1, 2, 3] rfl
        have hDc := hD.sub (ws' := [(oF, .inr (2, [.int mo, .ref oS, .int th, .int om, .int sd, .int po, .int 0, .long lv, .int (nI d)])), (oS, .inr (1, [.ref oA, .ref oB, .int (nI h)])), (oA, .inl (cA, n, .inl P)), (oB, .inl (cB, n, .inr (.inl V)))]) [0, 1, 2, 3] (by decide) rfl
        have hKc := hK.sub (tys' := [(cA, .int), (cB, .long)]) [0, 1] rfl
        have hFc := va_free (wc := [(oF, .inr (2, [.int mo, .ref oS, .int th, .int om, .int sd, .int po, .int 0, .long lv, .int (nI d)])), (oS, .inr (1, [.ref oA, .ref oB, .int (nI h)])), (oA, .inl (cA, n, .inl P)), (oB, .inl (cB, n, .inr (.inl V)))]) hD hS hA [0, 1, 2, 3] rfl
        refine va_calli (va_runV (As := []) (rest := []) ⟨hx, hb, hml, hown, hts⟩ (kX1_placeInOrder l dC dI oF oS oA oB cA cB n h d mo th om sd po 0 lv P V  H.size hh hn) (cwV 0 hts gX1_write_X1_placeInOrder rfl rfl rfl (by decide +kernel) ⟨Nat.le_of_ble_eq_true rfl, Nat.le_of_ble_eq_true rfl⟩) ⟨fun a U g mk q => by obtain ⟨q0, q1, qP, qK, qD⟩ := q; exact ⟨q0, q1, qP, va_K.moved (u := U) (U := U.calling g mk a) (Vm.Alike.refl U.vm) qK, qD⟩, va_recv hKc hPc (ci := 2) (q0 := 0) rfl rfl, fun U hU hW => ⟨rfl, by rw [hU], by rw [hU]; exact hPc, va_K.moved hW.alike hKc, hDc.weaken (fun _ _ _ _ => trivial)⟩⟩ rfl rfl hl.1 rfl (lv_room (Nat.le_of_ble_eq_true rfl)) dX1_write_32 ⟨Nat.le_of_ble_eq_true rfl, Nat.le_of_ble_eq_true rfl⟩) hS (fun q _ h => hFc q h) hFc (fun r_18 u t H1 locs ht hvm hw hB hz1 hk1 hS => ?_)
        obtain ⟨hP1, hK1, hD1⟩ := hB
        rw [ht] at hP1
        have hK1 := va_K.moved hvm.symm hK1
        try dsimp only at hw
        obtain ⟨hP, hD⟩ := va_join (wr := []) (w1 := [(oF, .inr (2, [.int mo, .ref oS, .int th, .int om, .int sd, .int po, .int 0, .long lv, .int (nI d)])), (oS, .inr (1, [.ref oA, .ref oB, .int (nI h)])), (oA, .inl (cA, n, .inl P)), (oB, .inl (cB, n, .inr (.inl V)))]) hP hD [0, 1, 2, 3] [] rfl rfl (by decide) (by decide) hk1 hFc hP1 hD1
        generalize H1 = H at hP hS ⊢
        have hP : va_P (dC, dI) vwCl [(oF, .inr (2, [.int mo, .ref oS, .int th, .int om, .int sd, .int po, .int 0, .long lv, .int (nI d)])), (oS, .inr (1, [.ref oA, .ref oB, .int (nI h)])), (oA, .inl (cA, n, .inl P)), (oB, .inl (cB, n, .inr (.inl V)))] H := hP.sub [0, 1, 2, 3] rfl
        have hD : va_D A [(oF, .inr (2, [.int mo, .ref oS, .int th, .int om, .int sd, .int po, .int 0, .long lv, .int (nI d)])), (oS, .inr (1, [.ref oA, .ref oB, .int (nI h)])), (oA, .inl (cA, n, .inl P)), (oB, .inl (cB, n, .inr (.inl V)))] := hD.sub [0, 1, 2, 3] (by decide) rfl
        have hK : va_K (dC, dI) vwCl [(cA, .int), (cB, .long)] s := hK
        subst hw
        refine lv_goto (tgt := 39) hx hb dX1_write_35 (by decide) ?_
        refine lv_istore (lv' := [(4, .int (fPO om P h)), (0, .ref oF), (1, .int p0), (2, .long p1)]) hx hb dX1_write_39 hl (by decide) rfl (fun ls hl => ?_)
        refine lv_aload_n hx hb dX1_write_41 rfl (lv_at hl 1 rfl) ?_
        refine lv_iload hx hb dX1_write_42 (lv_at hl 0 rfl) ?_
        have hPc := hP.sub (ws' := [(oF, .inr (2, [.int mo, .ref oS, .int th, .int om, .int sd, .int po, .int 0, .long lv, .int (nI d)])), (oS, .inr (1, [.ref oA, .ref oB, .int (nI h)])), (oA, .inl (cA, n, .inl P)), (oB, .inl (cB, n, .inr (.inl V)))]) [0, 1, 2, 3] rfl
        have hDc := hD.sub (ws' := [(oF, .inr (2, [.int mo, .ref oS, .int th, .int om, .int sd, .int po, .int 0, .long lv, .int (nI d)])), (oS, .inr (1, [.ref oA, .ref oB, .int (nI h)])), (oA, .inl (cA, n, .inl P)), (oB, .inl (cB, n, .inr (.inl V)))]) [0, 1, 2, 3] (by decide) rfl
        have hKc := hK.sub (tys' := [(cA, .int), (cB, .long)]) [0, 1] rfl
        have hFc := va_free (wc := [(oF, .inr (2, [.int mo, .ref oS, .int th, .int om, .int sd, .int po, .int 0, .long lv, .int (nI d)])), (oS, .inr (1, [.ref oA, .ref oB, .int (nI h)])), (oA, .inl (cA, n, .inl P)), (oB, .inl (cB, n, .inr (.inl V)))]) hD hS hA [0, 1, 2, 3] rfl
        refine va_calli (va_runV (As := [.int (fPO om P h)]) (rest := []) ⟨hx, hb, hml, hown, hts⟩ (kX1_isPlace l dC dI oF oS oA oB cA cB n h d mo th om sd po 0 lv P V (fPO om P h) H.size hh hn) (cwV 1 hts gX1_write_X1_isPlace rfl rfl rfl (by decide +kernel) ⟨Nat.le_of_ble_eq_true rfl, Nat.le_of_ble_eq_true rfl⟩) ⟨fun a U g mk q => by obtain ⟨q0, q1, qP, qK, qD⟩ := q; exact ⟨q0, q1, qP, va_K.moved (u := U) (U := U.calling g mk a) (Vm.Alike.refl U.vm) qK, qD⟩, va_recv hKc hPc (ci := 2) (q0 := 0) rfl rfl, fun U hU hW => ⟨rfl, by rw [hU], by rw [hU]; exact hPc, va_K.moved hW.alike hKc, hDc.weaken (fun _ _ _ _ => trivial)⟩⟩ rfl rfl hl.1 rfl (lv_room (Nat.le_of_ble_eq_true rfl)) dX1_write_44 ⟨Nat.le_of_ble_eq_true rfl, Nat.le_of_ble_eq_true rfl⟩) hS (fun q _ h => hFc q h) hFc (fun r_19 u t H1 locs ht hvm hw hB hz1 hk1 hS => ?_)
        obtain ⟨hP1, hK1, hD1⟩ := hB
        rw [ht] at hP1
        have hK1 := va_K.moved hvm.symm hK1
        try dsimp only at hw
        obtain ⟨hP, hD⟩ := va_join (wr := []) (w1 := [(oF, .inr (2, [.int mo, .ref oS, .int th, .int om, .int sd, .int po, .int 0, .long lv, .int (nI d)])), (oS, .inr (1, [.ref oA, .ref oB, .int (nI h)])), (oA, .inl (cA, n, .inl P)), (oB, .inl (cB, n, .inr (.inl V)))]) hP hD [0, 1, 2, 3] [] rfl rfl (by decide) (by decide) hk1 hFc hP1 hD1
        generalize H1 = H at hP hS ⊢
        have hP : va_P (dC, dI) vwCl [(oF, .inr (2, [.int mo, .ref oS, .int th, .int om, .int sd, .int po, .int 0, .long lv, .int (nI d)])), (oS, .inr (1, [.ref oA, .ref oB, .int (nI h)])), (oA, .inl (cA, n, .inl P)), (oB, .inl (cB, n, .inr (.inl V)))] H := hP.sub [0, 1, 2, 3] rfl
        have hD : va_D A [(oF, .inr (2, [.int mo, .ref oS, .int th, .int om, .int sd, .int po, .int 0, .long lv, .int (nI d)])), (oS, .inr (1, [.ref oA, .ref oB, .int (nI h)])), (oA, .inl (cA, n, .inl P)), (oB, .inl (cB, n, .inr (.inl V)))] := hD.sub [0, 1, 2, 3] (by decide) rfl
        have hK : va_K (dC, dI) vwCl [(cA, .int), (cB, .long)] s := hK
        rcases hw with ⟨b_20, hw⟩ | ⟨b_20, hw⟩
        · -- isPl mo (fPO om P h)
          subst hw
          refine lv_if_eq (tgt := 59) hx hb dX1_write_47 (by decide) (fun c_21 => ?_) (fun c_21 => ?_)
          · -- taken at 47: 1 = 0
            exact absurd c_21 (by decide)
          · -- not taken at 47: ¬ 1 = 0
            refine lv_aload_n hx hb dX1_write_50 rfl (lv_at hl 1 rfl) ?_
            refine lv_iload hx hb dX1_write_51 (lv_at hl 0 rfl) ?_
            have hPc := hP.sub (ws' := [(oF, .inr (2, [.int mo, .ref oS, .int th, .int om, .int sd, .int po, .int 0, .long lv, .int (nI d)])), (oS, .inr (1, [.ref oA, .ref oB, .int (nI h)])), (oA, .inl (cA, n, .inl P)), (oB, .inl (cB, n, .inr (.inl V)))]) [0, 1, 2, 3] rfl
            have hDc := hD.sub (ws' := [(oF, .inr (2, [.int mo, .ref oS, .int th, .int om, .int sd, .int po, .int 0, .long lv, .int (nI d)])), (oS, .inr (1, [.ref oA, .ref oB, .int (nI h)])), (oA, .inl (cA, n, .inl P)), (oB, .inl (cB, n, .inr (.inl V)))]) [0, 1, 2, 3] (by decide) rfl
            have hKc := hK.sub (tys' := [(cA, .int), (cB, .long)]) [0, 1] rfl
            have hFc := va_free (wc := [(oF, .inr (2, [.int mo, .ref oS, .int th, .int om, .int sd, .int po, .int 0, .long lv, .int (nI d)])), (oS, .inr (1, [.ref oA, .ref oB, .int (nI h)])), (oA, .inl (cA, n, .inl P)), (oB, .inl (cB, n, .inr (.inl V)))]) hD hS hA [0, 1, 2, 3] rfl
            refine va_calli (va_runV (As := [.int (fPO om P h)]) (rest := []) ⟨hx, hb, hml, hown, hts⟩ (kX1_isTooLong l dC dI oF oS oA oB cA cB n h d mo th om sd po 0 lv P V (fPO om P h) H.size hh hn hd) (cwV 1 hts gX1_write_X1_isTooLong rfl rfl rfl (by decide +kernel) ⟨Nat.le_of_ble_eq_true rfl, Nat.le_of_ble_eq_true rfl⟩) ⟨fun a U g mk q => by obtain ⟨q0, q1, qP, qK, qD⟩ := q; exact ⟨q0, q1, qP, va_K.moved (u := U) (U := U.calling g mk a) (Vm.Alike.refl U.vm) qK, qD⟩, va_recv hKc hPc (ci := 2) (q0 := 0) rfl rfl, fun U hU hW => ⟨rfl, by rw [hU], by rw [hU]; exact hPc, va_K.moved hW.alike hKc, hDc.weaken (fun _ _ _ _ => trivial)⟩⟩ rfl rfl hl.1 rfl (lv_room (Nat.le_of_ble_eq_true rfl)) dX1_write_53 ⟨Nat.le_of_ble_eq_true rfl, Nat.le_of_ble_eq_true rfl⟩) hS (fun q _ h => hFc q h) hFc (fun r_22 u t H1 locs ht hvm hw hB hz1 hk1 hS => ?_)
            obtain ⟨hP1, hK1, hD1⟩ := hB
            rw [ht] at hP1
            have hK1 := va_K.moved hvm.symm hK1
            try dsimp only at hw
            obtain ⟨hP, hD⟩ := va_join (wr := []) (w1 := [(oF, .inr (2, [.int mo, .ref oS, .int th, .int om, .int sd, .int po, .int 0, .long lv, .int (nI d)])), (oS, .inr (1, [.ref oA, .ref oB, .int (nI h)])), (oA, .inl (cA, n, .inl P)), (oB, .inl (cB, n, .inr (.inl V)))]) hP hD [0, 1, 2, 3] [] rfl rfl (by decide) (by decide) hk1 hFc hP1 hD1
            generalize H1 = H at hP hS ⊢
            have hP : va_P (dC, dI) vwCl [(oF, .inr (2, [.int mo, .ref oS, .int th, .int om, .int sd, .int po, .int 0, .long lv, .int (nI d)])), (oS, .inr (1, [.ref oA, .ref oB, .int (nI h)])), (oA, .inl (cA, n, .inl P)), (oB, .inl (cB, n, .inr (.inl V)))] H := hP.sub [0, 1, 2, 3] rfl
            have hD : va_D A [(oF, .inr (2, [.int mo, .ref oS, .int th, .int om, .int sd, .int po, .int 0, .long lv, .int (nI d)])), (oS, .inr (1, [.ref oA, .ref oB, .int (nI h)])), (oA, .inl (cA, n, .inl P)), (oB, .inl (cB, n, .inr (.inl V)))] := hD.sub [0, 1, 2, 3] (by decide) rfl
            have hK : va_K (dC, dI) vwCl [(cA, .int), (cB, .long)] s := hK
            rcases hw with ⟨b_23, hw⟩ | ⟨b_23, hw⟩
            · -- tooL (fPO om P h) d
              subst hw
              refine lv_if_eq (tgt := 62) hx hb dX1_write_56 (by decide) (fun c_24 => ?_) (fun c_24 => ?_)
              · -- taken at 56: 1 = 0
                exact absurd c_24 (by decide)
              · -- not taken at 56: ¬ 1 = 0
                refine lv_bipush (v := 24) hx hb dX1_write_59 (by decide) ?_
                subst hQ9
                have e9 : fWrite mo p0 p1 (th, om, sd, po, lr, lv, d, P, V, h) = (24, (th, om, sd, po, 0, lv, d, P, V, h)) := by simp only [fWrite, fWr2, if_neg c_1, if_neg c_2, if_pos c_3, if_pos b_20, if_pos b_23]
                rw [e9]
                exact W.iret (v := 24) hx hb hr (fun t ht hW => ⟨⟨24, (), rfl, rfl, by rw [ht]; exact hP, va_K.moved hW.alike hK, hD⟩, hS.F ht⟩) hS.2.2 dX1_write_61
            · -- ¬ (tooL (fPO om P h) d)
              subst hw
              refine lv_if_eq (tgt := 62) hx hb dX1_write_56 (by decide) (fun c_25 => ?_) (fun c_25 => ?_)
              · -- taken at 56: 0 = 0
                refine lv_aload_n hx hb dX1_write_62 rfl (lv_at hl 1 rfl) ?_
                refine va_get (D := (dC, dI)) (ci := 2) (v := .ref oS) (C := RX1) (T := TX1) (N := 9) hx hb hts (by decide +kernel) hown hK hP 0 rfl rfl 1 (by decide) (hts (.fieldLink RX1 28 "RelativeFiles" "shelf" "LRelativeFiles$Shelf;") (by decide +kernel)) (fun _ h9 => h9) rfl dX1_write_63 ?_
                refine lv_iload hx hb dX1_write_66 (lv_at hl 0 rfl) ?_
                have hPc := hP.sub (ws' := [(oS, .inr (1, [.ref oA, .ref oB, .int (nI h)])), (oA, .inl (cA, n, .inl P)), (oB, .inl (cB, n, .inr (.inl V)))]) [1, 2, 3] rfl
                have hDc := hD.sub (ws' := [(oS, .inr (1, [.ref oA, .ref oB, .int (nI h)])), (oA, .inl (cA, n, .inl P)), (oB, .inl (cB, n, .inr (.inl V)))]) [1, 2, 3] (by decide) rfl
                have hKc := hK.sub (tys' := [(cA, .int), (cB, .long)]) [0, 1] rfl
                have hFc := va_free (wc := [(oS, .inr (1, [.ref oA, .ref oB, .int (nI h)])), (oA, .inl (cA, n, .inl P)), (oB, .inl (cB, n, .inr (.inl V)))]) hD hS hA [1, 2, 3] rfl
                refine va_calli (va_runV (As := [.int (fPO om P h)]) (rest := []) ⟨hx, hb, hml, hown, hts⟩ (kX0_has l dC dI oS oA oB cA cB n h P V (fPO om P h) H.size hh hn) (cwV 1 hts gX1_write_X0_has rfl rfl rfl (by decide +kernel) ⟨Nat.le_of_ble_eq_true rfl, Nat.le_of_ble_eq_true rfl⟩) ⟨fun a U g mk q => by obtain ⟨q0, q1, qP, qK, qD⟩ := q; exact ⟨q0, q1, qP, va_K.moved (u := U) (U := U.calling g mk a) (Vm.Alike.refl U.vm) qK, qD⟩, va_recv hKc hPc (ci := 1) (q0 := 0) rfl rfl, fun U hU hW => ⟨rfl, by rw [hU], by rw [hU]; exact hPc, va_K.moved hW.alike hKc, hDc.weaken (fun _ _ _ _ => trivial)⟩⟩ rfl rfl hl.1 rfl (lv_room (Nat.le_of_ble_eq_true rfl)) dX1_write_68 ⟨Nat.le_of_ble_eq_true rfl, Nat.le_of_ble_eq_true rfl⟩) hS (fun q _ h => hFc q h) hFc (fun r_26 u t H1 locs ht hvm hw hB hz1 hk1 hS => ?_)
                obtain ⟨hP1, hK1, hD1⟩ := hB
                rw [ht] at hP1
                have hK1 := va_K.moved hvm.symm hK1
                try dsimp only at hw
                obtain ⟨hP, hD⟩ := va_join (wr := [(oF, .inr (2, [.int mo, .ref oS, .int th, .int om, .int sd, .int po, .int 0, .long lv, .int (nI d)]))]) (w1 := [(oS, .inr (1, [.ref oA, .ref oB, .int (nI h)])), (oA, .inl (cA, n, .inl P)), (oB, .inl (cB, n, .inr (.inl V)))]) hP hD [1, 2, 3] [0] rfl rfl (by decide) (by decide) hk1 hFc hP1 hD1
                generalize H1 = H at hP hS ⊢
                have hP : va_P (dC, dI) vwCl [(oF, .inr (2, [.int mo, .ref oS, .int th, .int om, .int sd, .int po, .int 0, .long lv, .int (nI d)])), (oS, .inr (1, [.ref oA, .ref oB, .int (nI h)])), (oA, .inl (cA, n, .inl P)), (oB, .inl (cB, n, .inr (.inl V)))] H := hP.sub [0, 1, 2, 3] rfl
                have hD : va_D A [(oF, .inr (2, [.int mo, .ref oS, .int th, .int om, .int sd, .int po, .int 0, .long lv, .int (nI d)])), (oS, .inr (1, [.ref oA, .ref oB, .int (nI h)])), (oA, .inl (cA, n, .inl P)), (oB, .inl (cB, n, .inr (.inl V)))] := hD.sub [0, 1, 2, 3] (by decide) rfl
                have hK : va_K (dC, dI) vwCl [(cA, .int), (cB, .long)] s := hK
                rcases hw with ⟨b_27, hw⟩ | ⟨b_27, hw⟩
                · -- hasS P h (fPO om P h)
                  subst hw
                  refine lv_if_eq (tgt := 77) hx hb dX1_write_71 (by decide) (fun c_28 => ?_) (fun c_28 => ?_)
                  · -- taken at 71: 1 = 0
                    exact absurd c_28 (by decide)
                  · -- not taken at 71: ¬ 1 = 0
                    refine lv_bipush (v := 22) hx hb dX1_write_74 (by decide) ?_
                    subst hQ9
                    have e9 : fWrite mo p0 p1 (th, om, sd, po, lr, lv, d, P, V, h) = (22, (th, om, sd, po, 0, lv, d, P, V, h)) := by simp only [fWrite, fWr2, if_neg c_1, if_neg c_2, if_pos c_3, if_pos b_20, if_neg b_23, if_pos b_27]
                    rw [e9]
                    exact W.iret (v := 22) hx hb hr (fun t ht hW => ⟨⟨22, (), rfl, rfl, by rw [ht]; exact hP, va_K.moved hW.alike hK, hD⟩, hS.F ht⟩) hS.2.2 dX1_write_76
                · -- ¬ (hasS P h (fPO om P h))
                  subst hw
                  refine lv_if_eq (tgt := 77) hx hb dX1_write_71 (by decide) (fun c_29 => ?_) (fun c_29 => ?_)
                  · -- taken at 71: 0 = 0
                    refine lv_aload_n hx hb dX1_write_77 rfl (lv_at hl 1 rfl) ?_
                    refine va_get (D := (dC, dI)) (ci := 2) (v := .ref oS) (C := RX1) (T := TX1) (N := 9) hx hb hts (by decide +kernel) hown hK hP 0 rfl rfl 1 (by decide) (hts (.fieldLink RX1 28 "RelativeFiles" "shelf" "LRelativeFiles$Shelf;") (by decide +kernel)) (fun _ h9 => h9) rfl dX1_write_78 ?_
                    refine lv_iload hx hb dX1_write_81 (lv_at hl 0 rfl) ?_
                    refine lv_lload_n hx hb dX1_write_83 rfl (lv_at hl 3 rfl) ?_
                    have hlt : h < n := hfree _ b_20 b_27
                    have hPc := hP.sub (ws' := [(oS, .inr (1, [.ref oA, .ref oB, .int (nI h)])), (oA, .inl (cA, n, .inl P)), (oB, .inl (cB, n, .inr (.inl V)))]) [1, 2, 3] rfl
                    have hDc := hD.sub (ws' := [(oS, .inr (1, [.ref oA, .ref oB, .int (nI h)])), (oA, .inl (cA, n, .inl P)), (oB, .inl (cB, n, .inr (.inl V)))]) [1, 2, 3] (by decide) rfl
                    have hKc := hK.sub (tys' := [(cA, .int), (cB, .long)]) [0, 1] rfl
                    have hFc := va_free (wc := [(oS, .inr (1, [.ref oA, .ref oB, .int (nI h)])), (oA, .inl (cA, n, .inl P)), (oB, .inl (cB, n, .inr (.inl V)))]) hD hS hA [1, 2, 3] rfl
                    refine va_calli (va_runV (As := [.int (fPO om P h), .long p1]) (rest := []) ⟨hx, hb, hml, hown, hts⟩ (kX0_add l dC dI oS oA oB cA cB n h P V (fPO om P h) p1 H.size hh hn hlt) (cwV 2 hts gX1_write_X0_add rfl rfl rfl (by decide +kernel) ⟨Nat.le_of_ble_eq_true rfl, Nat.le_of_ble_eq_true rfl⟩) ⟨fun a U g mk q => by obtain ⟨q0, q1, qP, qK, qD⟩ := q; exact ⟨q0, q1, qP, va_K.moved (u := U) (U := U.calling g mk a) (Vm.Alike.refl U.vm) qK, qD⟩, va_recv hKc hPc (ci := 1) (q0 := 0) rfl rfl, fun U hU hW => ⟨rfl, by rw [hU], by rw [hU]; exact hPc, va_K.moved hW.alike hKc, hDc.weaken (fun _ _ _ _ => trivial)⟩⟩ rfl rfl hl.1 rfl (lv_room (Nat.le_of_ble_eq_true rfl)) dX1_write_84 ⟨Nat.le_of_ble_eq_true rfl, Nat.le_of_ble_eq_true rfl⟩) hS (fun q _ h => hFc q h) hFc (fun r_30 u t H1 locs ht hvm hw hB hz1 hk1 hS => ?_)
                    obtain ⟨hP1, hK1, hD1⟩ := hB
                    rw [ht] at hP1
                    have hK1 := va_K.moved hvm.symm hK1
                    try dsimp only at hw
                    obtain ⟨hP, hD⟩ := va_join (wr := [(oF, .inr (2, [.int mo, .ref oS, .int th, .int om, .int sd, .int po, .int 0, .long lv, .int (nI d)]))]) (w1 := [(oS, .inr (1, [.ref oA, .ref oB, .int (nI (h + 1))])), (oA, .inl (cA, n, .inl (insA P (rk P (fPO om P h) h) (fPO om P h) h))), (oB, .inl (cB, n, .inr (.inl (insA V (rk P (fPO om P h) h) p1 h))))]) hP hD [1, 2, 3] [0] rfl rfl (by decide) (by decide) hk1 hFc hP1 hD1
                    generalize H1 = H at hP hS ⊢
                    have hP : va_P (dC, dI) vwCl [(oF, .inr (2, [.int mo, .ref oS, .int th, .int om, .int sd, .int po, .int 0, .long lv, .int (nI d)])), (oS, .inr (1, [.ref oA, .ref oB, .int (nI (h + 1))])), (oA, .inl (cA, n, .inl (insA P (rk P (fPO om P h) h) (fPO om P h) h))), (oB, .inl (cB, n, .inr (.inl (insA V (rk P (fPO om P h) h) p1 h))))] H := hP.sub [0, 1, 2, 3] rfl
                    have hD : va_D A [(oF, .inr (2, [.int mo, .ref oS, .int th, .int om, .int sd, .int po, .int 0, .long lv, .int (nI d)])), (oS, .inr (1, [.ref oA, .ref oB, .int (nI (h + 1))])), (oA, .inl (cA, n, .inl (insA P (rk P (fPO om P h) h) (fPO om P h) h))), (oB, .inl (cB, n, .inr (.inl (insA V (rk P (fPO om P h) h) p1 h))))] := hD.sub [0, 1, 2, 3] (by decide) rfl
                    have hK : va_K (dC, dI) vwCl [(cA, .int), (cB, .long)] s := hK
                    subst hw
                    refine lv_if_ne (tgt := 93) hx hb dX1_write_87 (by decide) (fun c_31 => ?_) (fun c_31 => ?_)
                    · -- taken at 87: ¬ 1 = 0
                      refine lv_aload_n hx hb dX1_write_93 rfl (lv_at hl 1 rfl) ?_
                      refine lv_lload_n hx hb dX1_write_94 rfl (lv_at hl 3 rfl) ?_
                      refine va_put (D := (dC, dI)) (ci := 2) (v := .long p1) (ty := .long) (C := RX1) (T := TX1) (N := 9) hx hb hts (by decide +kernel) tyX1 tyX1_ok nmX1 hown hK hP hD hS 0 rfl rfl 7 (by decide) (hts (.fieldLink RX1 48 "RelativeFiles" "lastValue" "J") (by decide +kernel)) (fun _ h9 => h9) rfl (by decide +kernel) rfl rfl (Nat.le_of_ble_eq_true rfl) dX1_write_95 (fun H locs hP hD hS => ?_)
                      have hP : va_P (dC, dI) vwCl [(oF, .inr (2, [.int mo, .ref oS, .int th, .int om, .int sd, .int po, .int 0, .long p1, .int (nI d)])), (oS, .inr (1, [.ref oA, .ref oB, .int (nI (h + 1))])), (oA, .inl (cA, n, .inl (insA P (rk P (fPO om P h) h) (fPO om P h) h))), (oB, .inl (cB, n, .inr (.inl (insA V (rk P (fPO om P h) h) p1 h))))] H := hP
                      have hD : va_D A [(oF, .inr (2, [.int mo, .ref oS, .int th, .int om, .int sd, .int po, .int 0, .long p1, .int (nI d)])), (oS, .inr (1, [.ref oA, .ref oB, .int (nI (h + 1))])), (oA, .inl (cA, n, .inl (insA P (rk P (fPO om P h) h) (fPO om P h) h))), (oB, .inl (cB, n, .inr (.inl (insA V (rk P (fPO om P h) h) p1 h))))] := hD
                      refine lv_iconst (v := 0) hx hb dX1_write_98 (by decide) ?_
                      subst hQ9
                      have e9 : fWrite mo p0 p1 (th, om, sd, po, lr, lv, d, P, V, h) = (0, (th, om, sd, po, 0, p1, d, insA P (rk P (fPO om P h) h) (fPO om P h) h, insA V (rk P (fPO om P h) h) p1 h, (h + 1))) := by simp only [fWrite, fWr2, if_neg c_1, if_neg c_2, if_pos c_3, if_pos b_20, if_neg b_23, if_neg b_27]
                      rw [e9]
                      exact W.iret (v := 0) hx hb hr (fun t ht hW => ⟨⟨0, (), rfl, rfl, by rw [ht]; exact hP, va_K.moved hW.alike hK, hD⟩, hS.F ht⟩) hS.2.2 dX1_write_99
                    · -- not taken at 87: 1 = 0
                      exact absurd c_31 (by decide)
                  · -- not taken at 71: ¬ 0 = 0
                    exact absurd c_29 (by decide)
              · -- not taken at 56: ¬ 0 = 0
                exact absurd c_25 (by decide)
        · -- ¬ (isPl mo (fPO om P h))
          subst hw
          refine lv_if_eq (tgt := 59) hx hb dX1_write_47 (by decide) (fun c_32 => ?_) (fun c_32 => ?_)
          · -- taken at 47: 0 = 0
            refine lv_bipush (v := 24) hx hb dX1_write_59 (by decide) ?_
            subst hQ9
            have e9 : fWrite mo p0 p1 (th, om, sd, po, lr, lv, d, P, V, h) = (24, (th, om, sd, po, 0, lv, d, P, V, h)) := by simp only [fWrite, fWr2, if_neg c_1, if_neg c_2, if_pos c_3, if_neg b_20]
            rw [e9]
            exact W.iret (v := 24) hx hb hr (fun t ht hW => ⟨⟨24, (), rfl, rfl, by rw [ht]; exact hP, va_K.moved hW.alike hK, hD⟩, hS.F ht⟩) hS.2.2 dX1_write_61
          · -- not taken at 47: ¬ 0 = 0
            exact absurd c_32 (by decide)
    · -- not taken at 15: om = 0
      refine lv_bipush (v := 48) hx hb dX1_write_18 (by decide) ?_
      subst hQ9
      have e9 : fWrite mo p0 p1 (th, om, sd, po, lr, lv, d, P, V, h) = (48, (th, om, sd, po, lr, lv, d, P, V, h)) := by simp only [fWrite, fWr2, if_neg c_1, if_pos c_2]
      rw [e9]
      exact W.iret (v := 48) hx hb hr (fun t ht hW => ⟨⟨48, (), rfl, rfl, by rw [ht]; exact hP, va_K.moved hW.alike hK, hD⟩, hS.F ht⟩) hS.2.2 dX1_write_20
  · -- not taken at 5: om = (-1)
    refine lv_bipush (v := 42) hx hb dX1_write_8 (by decide) ?_
    subst hQ9
    have e9 : fWrite mo p0 p1 (th, om, sd, po, lr, lv, d, P, V, h) = (42, (th, om, sd, po, lr, lv, d, P, V, h)) := by simp only [fWrite, fWr2, if_pos c_1]
    rw [e9]
    exact W.iret (v := 42) hx hb hr (fun t ht hW => ⟨⟨42, (), rfl, rfl, by rw [ht]; exact hP, va_K.moved hW.alike hK, hD⟩, hS.F ht⟩) hS.2.2 dX1_write_10

set_option maxHeartbeats 1000000 in
set_option maxRecDepth 100000 in
theorem kX1_read (l : Launch) (dC : Nat → ClassId) (dI : Nat → Nat → Nat) (oF oS oA oB : Nat) (cA cB : ClassId) (n h d : Nat) (mo th om sd po lr : Int32) (lv : Int64) (P : Nat → Int32) (V : Nat → Int64) (p0 : Int32) (sz : Nat) (hh : h ≤ n) (hn : n ≤ 512) : Met l yX1_read wsX1_read ({ frames := 3, cells := 0, slots := 0, locals := 65 }) (va_Pc [.ref oF, .int p0] (fun U => U.heap.size = sz ∧ va_P (dC, dI) vwCl [(oF, .inr (2, [.int mo, .ref oS, .int th, .int om, .int sd, .int po, .int lr, .long lv, .int (nI d)])), (oS, .inr (1, [.ref oA, .ref oB, .int (nI h)])), (oA, .inl (cA, n, .inl P)), (oB, .inl (cB, n, .inr (.inl V)))] U.heap ∧ va_K (dC, dI) vwCl [(cA, .int), (cB, .long)] U ∧ va_D (fun _ => True) [(oF, .inr (2, [.int mo, .ref oS, .int th, .int om, .int sd, .int po, .int lr, .long lv, .int (nI d)])), (oS, .inr (1, [.ref oA, .ref oB, .int (nI h)])), (oA, .inl (cA, n, .inl P)), (oB, .inl (cB, n, .inr (.inl V)))])) (va_Qi (fun (r : Int32) (_ : Unit) => r = (fRead p0 (th, om, sd, po, lr, lv, d, P, V, h)).1) (fun (_ : Unit) (t : State) => va_P (dC, dI) vwCl (wF oF oS oA oB cA cB n mo (fRead p0 (th, om, sd, po, lr, lv, d, P, V, h)).2) t.heap ∧ va_K (dC, dI) vwCl [(cA, .int), (cB, .long)] t ∧ va_D (va_A [(oF, .inr (2, [.int mo, .ref oS, .int th, .int om, .int sd, .int po, .int lr, .long lv, .int (nI d)])), (oS, .inr (1, [.ref oA, .ref oB, .int (nI h)])), (oA, .inl (cA, n, .inl P)), (oB, .inl (cB, n, .inr (.inl V)))] sz) (wF oF oS oA oB cA cB n mo (fRead p0 (th, om, sd, po, lr, lv, d, P, V, h)).2)) (va_A [(oF, .inr (2, [.int mo, .ref oS, .int th, .int om, .int sd, .int po, .int lr, .long lv, .int (nI d)])), (oS, .inr (1, [.ref oA, .ref oB, .int (nI h)])), (oA, .inl (cA, n, .inl P)), (oB, .inl (cB, n, .inr (.inl V)))] sz)) 0 0 (va_A [(oF, .inr (2, [.int mo, .ref oS, .int th, .int om, .int sd, .int po, .int lr, .long lv, .int (nI d)])), (oS, .inr (1, [.ref oA, .ref oB, .int (nI h)])), (oA, .inl (cA, n, .inl P)), (oB, .inl (cB, n, .inr (.inl V)))] sz) := by
  refine Met.ofW (cc := cX1_read) (maxL := 3) (ret := (some .int)) (by decide) rfl ?_
  intro p e s m args below meth c s₁ B hml hv
  obtain ⟨rfl, hsz, hP, hK, hD0⟩ := hv
  have hx := B.exec
  have hb := B.bytes
  have hr := B.returns
  have hts := atoms_spec (ws := wsX1_read) B.pre
  have hown : s.vm.findClass RX1 = some m.cls := findClass_of_methodNamed B.named
  have hlocks := B.notSynchronized
  subst hsz
  have hD := hD0.self (sz := s.heap.size)
  generalize hAe : va_A [(oF, .inr (2, [.int mo, .ref oS, .int th, .int om, .int sd, .int po, .int lr, .long lv, .int (nI d)])), (oS, .inr (1, [.ref oA, .ref oB, .int (nI h)])), (oA, .inl (cA, n, .inl P)), (oB, .inl (cB, n, .inr (.inl V)))] s.heap.size = A at hD ⊢
  have hA : ∀ q : Nat, s.heap.size ≤ q → A q := fun q h => by rw [← hAe]; exact Or.inr h
  have hS : va_S A s.heap s.heap [] := va_S.rf
  have hP : va_P (dC, dI) vwCl [(oF, .inr (2, [.int mo, .ref oS, .int th, .int om, .int sd, .int po, .int lr, .long lv, .int (nI d)])), (oS, .inr (1, [.ref oA, .ref oB, .int (nI h)])), (oA, .inl (cA, n, .inl P)), (oB, .inl (cB, n, .inr (.inl V)))] s.heap := hP
  have hl := lv_entry ([.ref oF, .int p0]) (n := 3) (Nat.le_of_ble_eq_true rfl)
  rw [lg_entry_eq]
  generalize (lg_sl ([.ref oF, .int p0]) ++ List.replicate (3 - (lg_sl ([.ref oF, .int p0])).length) Slot.unset).toArray = ls at hl ⊢
  have hl : lv_has ls 3 [(0, .ref oF), (1, .int p0)] := hl
  refine W_name (fun Q hQ9 => ?_)
  refine lv_aload_n hx hb dX1_read_0 rfl (lv_at hl 0 rfl) ?_
  have hPc := hP.sub (ws' := [(oF, .inr (2, [.int mo, .ref oS, .int th, .int om, .int sd, .int po, .int lr, .long lv, .int (nI d)])), (oS, .inr (1, [.ref oA, .ref oB, .int (nI h)])), (oA, .inl (cA, n, .inl P)), (oB, .inl (cB, n, .inr (.inl V)))]) [0, 1, 2, 3] rfl
  have hDc := hD.sub (ws' := [(oF, .inr (2, [.int mo, .ref oS, .int th, .int om, .int sd, .int po, .int lr, .long lv, .int (nI d)])), (oS, .inr (1, [.ref oA, .ref oB, .int (nI h)])), (oA, .inl (cA, n, .inl P)), (oB, .inl (cB, n, .inr (.inl V)))]) [0, 1, 2, 3] (by decide) rfl
  have hKc := hK.sub (tys' := [(cA, .int), (cB, .long)]) [0, 1] rfl
  have hFc := va_free (wc := [(oF, .inr (2, [.int mo, .ref oS, .int th, .int om, .int sd, .int po, .int lr, .long lv, .int (nI d)])), (oS, .inr (1, [.ref oA, .ref oB, .int (nI h)])), (oA, .inl (cA, n, .inl P)), (oB, .inl (cB, n, .inr (.inl V)))]) hD hS hA [0, 1, 2, 3] rfl
  refine va_calli (va_runV (As := []) (rest := []) ⟨hx, hb, hml, hown, hts⟩ (kX1_refusalToRead l dC dI oF oS oA oB cA cB n h d mo th om sd po lr lv P V  s.heap.size hh hn) (cwV 0 hts gX1_read_X1_refusalToRead rfl rfl rfl (by decide +kernel) ⟨Nat.le_of_ble_eq_true rfl, Nat.le_of_ble_eq_true rfl⟩) ⟨fun a U g mk q => by obtain ⟨q0, q1, qP, qK, qD⟩ := q; exact ⟨q0, q1, qP, va_K.moved (u := U) (U := U.calling g mk a) (Vm.Alike.refl U.vm) qK, qD⟩, va_recv hKc hPc (ci := 2) (q0 := 0) rfl rfl, fun U hU hW => ⟨rfl, by rw [hU], by rw [hU]; exact hPc, va_K.moved hW.alike hKc, hDc.weaken (fun _ _ _ _ => trivial)⟩⟩ rfl rfl hl.1 rfl (lv_room (Nat.le_of_ble_eq_true rfl)) dX1_read_1 ⟨Nat.le_of_ble_eq_true rfl, Nat.le_of_ble_eq_true rfl⟩) hS (fun q _ h => hFc q h) hFc (fun r_1 u t H1 locs ht hvm hw hB hz1 hk1 hS => ?_)
  obtain ⟨hP1, hK1, hD1⟩ := hB
  rw [ht] at hP1
  have hK1 := va_K.moved hvm.symm hK1
  try dsimp only at hw
  obtain ⟨hP, hD⟩ := va_join (wr := []) (w1 := [(oF, .inr (2, [.int mo, .ref oS, .int th, .int om, .int sd, .int po, .int lr, .long lv, .int (nI d)])), (oS, .inr (1, [.ref oA, .ref oB, .int (nI h)])), (oA, .inl (cA, n, .inl P)), (oB, .inl (cB, n, .inr (.inl V)))]) hP hD [0, 1, 2, 3] [] rfl rfl (by decide) (by decide) hk1 hFc hP1 hD1
  generalize H1 = H at hP hS ⊢
  have hP : va_P (dC, dI) vwCl [(oF, .inr (2, [.int mo, .ref oS, .int th, .int om, .int sd, .int po, .int lr, .long lv, .int (nI d)])), (oS, .inr (1, [.ref oA, .ref oB, .int (nI h)])), (oA, .inl (cA, n, .inl P)), (oB, .inl (cB, n, .inr (.inl V)))] H := hP.sub [0, 1, 2, 3] rfl
  have hD : va_D A [(oF, .inr (2, [.int mo, .ref oS, .int th, .int om, .int sd, .int po, .int lr, .long lv, .int (nI d)])), (oS, .inr (1, [.ref oA, .ref oB, .int (nI h)])), (oA, .inl (cA, n, .inl P)), (oB, .inl (cB, n, .inr (.inl V)))] := hD.sub [0, 1, 2, 3] (by decide) rfl
  have hK : va_K (dC, dI) vwCl [(cA, .int), (cB, .long)] s := hK
  subst hw
  refine lv_istore_n (lv' := [(2, .int (fRef om)), (0, .ref oF), (1, .int p0)]) hx hb dX1_read_4 rfl hl (by decide) rfl (fun ls hl => ?_)
  refine lv_iload_n hx hb dX1_read_5 rfl (lv_at hl 0 rfl) ?_
  refine lv_if_eq (tgt := 11) hx hb dX1_read_6 (by decide) (fun c_2 => ?_) (fun c_2 => ?_)
  · -- taken at 6: (fRef om) = 0
    refine lv_aload_n hx hb dX1_read_11 rfl (lv_at hl 1 rfl) ?_
    refine va_get (D := (dC, dI)) (ci := 2) (v := .ref oS) (C := RX1) (T := TX1) (N := 9) hx hb hts (by decide +kernel) hown hK hP 0 rfl rfl 1 (by decide) (hts (.fieldLink RX1 28 "RelativeFiles" "shelf" "LRelativeFiles$Shelf;") (by decide +kernel)) (fun _ h9 => h9) rfl dX1_read_12 ?_
    refine lv_iload_n hx hb dX1_read_15 rfl (lv_at hl 2 rfl) ?_
    have hPc := hP.sub (ws' := [(oS, .inr (1, [.ref oA, .ref oB, .int (nI h)])), (oA, .inl (cA, n, .inl P)), (oB, .inl (cB, n, .inr (.inl V)))]) [1, 2, 3] rfl
    have hDc := hD.sub (ws' := [(oS, .inr (1, [.ref oA, .ref oB, .int (nI h)])), (oA, .inl (cA, n, .inl P)), (oB, .inl (cB, n, .inr (.inl V)))]) [1, 2, 3] (by decide) rfl
    have hKc := hK.sub (tys' := [(cA, .int), (cB, .long)]) [0, 1] rfl
    have hFc := va_free (wc := [(oS, .inr (1, [.ref oA, .ref oB, .int (nI h)])), (oA, .inl (cA, n, .inl P)), (oB, .inl (cB, n, .inr (.inl V)))]) hD hS hA [1, 2, 3] rfl
    refine va_calli (va_runV (As := [.int p0]) (rest := []) ⟨hx, hb, hml, hown, hts⟩ (kX0_has l dC dI oS oA oB cA cB n h P V p0 H.size hh hn) (cwV 1 hts gX1_read_X0_has rfl rfl rfl (by decide +kernel) ⟨Nat.le_of_ble_eq_true rfl, Nat.le_of_ble_eq_true rfl⟩) ⟨fun a U g mk q => by obtain ⟨q0, q1, qP, qK, qD⟩ := q; exact ⟨q0, q1, qP, va_K.moved (u := U) (U := U.calling g mk a) (Vm.Alike.refl U.vm) qK, qD⟩, va_recv hKc hPc (ci := 1) (q0 := 0) rfl rfl, fun U hU hW => ⟨rfl, by rw [hU], by rw [hU]; exact hPc, va_K.moved hW.alike hKc, hDc.weaken (fun _ _ _ _ => trivial)⟩⟩ rfl rfl hl.1 rfl (lv_room (Nat.le_of_ble_eq_true rfl)) dX1_read_16 ⟨Nat.le_of_ble_eq_true rfl, Nat.le_of_ble_eq_true rfl⟩) hS (fun q _ h => hFc q h) hFc (fun r_3 u t H1 locs ht hvm hw hB hz1 hk1 hS => ?_)
    obtain ⟨hP1, hK1, hD1⟩ := hB
    rw [ht] at hP1
    have hK1 := va_K.moved hvm.symm hK1
    try dsimp only at hw
    obtain ⟨hP, hD⟩ := va_join (wr := [(oF, .inr (2, [.int mo, .ref oS, .int th, .int om, .int sd, .int po, .int lr, .long lv, .int (nI d)]))]) (w1 := [(oS, .inr (1, [.ref oA, .ref oB, .int (nI h)])), (oA, .inl (cA, n, .inl P)), (oB, .inl (cB, n, .inr (.inl V)))]) hP hD [1, 2, 3] [0] rfl rfl (by decide) (by decide) hk1 hFc hP1 hD1
    generalize H1 = H at hP hS ⊢
    have hP : va_P (dC, dI) vwCl [(oF, .inr (2, [.int mo, .ref oS, .int th, .int om, .int sd, .int po, .int lr, .long lv, .int (nI d)])), (oS, .inr (1, [.ref oA, .ref oB, .int (nI h)])), (oA, .inl (cA, n, .inl P)), (oB, .inl (cB, n, .inr (.inl V)))] H := hP.sub [0, 1, 2, 3] rfl
    have hD : va_D A [(oF, .inr (2, [.int mo, .ref oS, .int th, .int om, .int sd, .int po, .int lr, .long lv, .int (nI d)])), (oS, .inr (1, [.ref oA, .ref oB, .int (nI h)])), (oA, .inl (cA, n, .inl P)), (oB, .inl (cB, n, .inr (.inl V)))] := hD.sub [0, 1, 2, 3] (by decide) rfl
    have hK : va_K (dC, dI) vwCl [(cA, .int), (cB, .long)] s := hK
    rcases hw with ⟨b_4, hw⟩ | ⟨b_4, hw⟩
    · -- hasS P h p0
      subst hw
      refine lv_if_ne (tgt := 29) hx hb dX1_read_19 (by decide) (fun c_5 => ?_) (fun c_5 => ?_)
      · -- taken at 19: ¬ 1 = 0
        refine lv_aload_n hx hb dX1_read_29 rfl (lv_at hl 1 rfl) ?_
        refine lv_iload_n hx hb dX1_read_30 rfl (lv_at hl 2 rfl) ?_
        have hPc := hP.sub (ws' := [(oF, .inr (2, [.int mo, .ref oS, .int th, .int om, .int sd, .int po, .int lr, .long lv, .int (nI d)])), (oS, .inr (1, [.ref oA, .ref oB, .int (nI h)])), (oA, .inl (cA, n, .inl P)), (oB, .inl (cB, n, .inr (.inl V)))]) [0, 1, 2, 3] rfl
        have hDc := hD.sub (ws' := [(oF, .inr (2, [.int mo, .ref oS, .int th, .int om, .int sd, .int po, .int lr, .long lv, .int (nI d)])), (oS, .inr (1, [.ref oA, .ref oB, .int (nI h)])), (oA, .inl (cA, n, .inl P)), (oB, .inl (cB, n, .inr (.inl V)))]) [0, 1, 2, 3] (by decide) rfl
        have hKc := hK.sub (tys' := [(cA, .int), (cB, .long)]) [0, 1] rfl
        have hFc := va_free (wc := [(oF, .inr (2, [.int mo, .ref oS, .int th, .int om, .int sd, .int po, .int lr, .long lv, .int (nI d)])), (oS, .inr (1, [.ref oA, .ref oB, .int (nI h)])), (oA, .inl (cA, n, .inl P)), (oB, .inl (cB, n, .inr (.inl V)))]) hD hS hA [0, 1, 2, 3] rfl
        refine va_callv (va_runV (As := [.int p0]) (rest := []) ⟨hx, hb, hml, hown, hts⟩ (kX1_take l dC dI oF oS oA oB cA cB n h d mo th om sd po lr lv P V p0 H.size hh hn) (cwV 1 hts gX1_read_X1_take rfl rfl rfl (by decide +kernel) ⟨Nat.le_of_ble_eq_true rfl, Nat.le_of_ble_eq_true rfl⟩) ⟨fun a U g mk q => by obtain ⟨q0, q1, qP, qK, qD⟩ := q; exact ⟨q0, q1, qP, va_K.moved (u := U) (U := U.calling g mk a) (Vm.Alike.refl U.vm) qK, qD⟩, va_recv hKc hPc (ci := 2) (q0 := 0) rfl rfl, fun U hU hW => ⟨rfl, by rw [hU], by rw [hU]; exact hPc, va_K.moved hW.alike hKc, hDc.weaken (fun _ _ _ _ => trivial)⟩⟩ rfl rfl hl.1 rfl (lv_room (Nat.le_of_ble_eq_true rfl)) dX1_read_31 ⟨Nat.le_of_ble_eq_true rfl, Nat.le_of_ble_eq_true rfl⟩) hS (fun q _ h => hFc q h) hFc (fun u t H1 locs ht hvm hw hB hz1 hk1 hS => ?_)
        obtain ⟨hP1, hK1, hD1⟩ := hB
        rw [ht] at hP1
        have hK1 := va_K.moved hvm.symm hK1
        try dsimp only at hw
        obtain ⟨hP, hD⟩ := va_join (wr := []) (w1 := [(oF, .inr (2, [.int mo, .ref oS, .int th, .int om, .int 0, .int p0, .int p0, .long (fRec P V h p0), .int (nI d)])), (oS, .inr (1, [.ref oA, .ref oB, .int (nI h)])), (oA, .inl (cA, n, .inl P)), (oB, .inl (cB, n, .inr (.inl V)))]) hP hD [0, 1, 2, 3] [] rfl rfl (by decide) (by decide) hk1 hFc hP1 hD1
        generalize H1 = H at hP hS ⊢
        have hP : va_P (dC, dI) vwCl [(oF, .inr (2, [.int mo, .ref oS, .int th, .int om, .int 0, .int p0, .int p0, .long (fRec P V h p0), .int (nI d)])), (oS, .inr (1, [.ref oA, .ref oB, .int (nI h)])), (oA, .inl (cA, n, .inl P)), (oB, .inl (cB, n, .inr (.inl V)))] H := hP.sub [0, 1, 2, 3] rfl
        have hD : va_D A [(oF, .inr (2, [.int mo, .ref oS, .int th, .int om, .int 0, .int p0, .int p0, .long (fRec P V h p0), .int (nI d)])), (oS, .inr (1, [.ref oA, .ref oB, .int (nI h)])), (oA, .inl (cA, n, .inl P)), (oB, .inl (cB, n, .inr (.inl V)))] := hD.sub [0, 1, 2, 3] (by decide) rfl
        have hK : va_K (dC, dI) vwCl [(cA, .int), (cB, .long)] s := hK
        refine lv_iconst (v := 0) hx hb dX1_read_34 (by decide) ?_
        subst hQ9
        have e9 : fRead p0 (th, om, sd, po, lr, lv, d, P, V, h) = (0, (th, om, 0, p0, p0, fRec P V h p0, d, P, V, h)) := by simp only [fRead, if_pos c_2, if_pos b_4]
        rw [e9]
        exact W.iret (v := 0) hx hb hr (fun t ht hW => ⟨⟨0, (), rfl, rfl, by rw [ht]; exact hP, va_K.moved hW.alike hK, hD⟩, hS.F ht⟩) hS.2.2 dX1_read_35
      · -- not taken at 19: 1 = 0
        exact absurd c_5 (by decide)
    · -- ¬ (hasS P h p0)
      subst hw
      refine lv_if_ne (tgt := 29) hx hb dX1_read_19 (by decide) (fun c_7 => ?_) (fun c_7 => ?_)
      · -- taken at 19: ¬ 0 = 0
        exact absurd c_7 (by decide)
      · -- not taken at 19: 0 = 0
        refine lv_aload_n hx hb dX1_read_22 rfl (lv_at hl 1 rfl) ?_
        have hPc := hP.sub (ws' := [(oF, .inr (2, [.int mo, .ref oS, .int th, .int om, .int sd, .int po, .int lr, .long lv, .int (nI d)])), (oS, .inr (1, [.ref oA, .ref oB, .int (nI h)])), (oA, .inl (cA, n, .inl P)), (oB, .inl (cB, n, .inr (.inl V)))]) [0, 1, 2, 3] rfl
        have hDc := hD.sub (ws' := [(oF, .inr (2, [.int mo, .ref oS, .int th, .int om, .int sd, .int po, .int lr, .long lv, .int (nI d)])), (oS, .inr (1, [.ref oA, .ref oB, .int (nI h)])), (oA, .inl (cA, n, .inl P)), (oB, .inl (cB, n, .inr (.inl V)))]) [0, 1, 2, 3] (by decide) rfl
        have hKc := hK.sub (tys' := [(cA, .int), (cB, .long)]) [0, 1] rfl
        have hFc := va_free (wc := [(oF, .inr (2, [.int mo, .ref oS, .int th, .int om, .int sd, .int po, .int lr, .long lv, .int (nI d)])), (oS, .inr (1, [.ref oA, .ref oB, .int (nI h)])), (oA, .inl (cA, n, .inl P)), (oB, .inl (cB, n, .inr (.inl V)))]) hD hS hA [0, 1, 2, 3] rfl
        refine va_callv (va_runV (As := []) (rest := []) ⟨hx, hb, hml, hown, hts⟩ (kX1_losePosition l dC dI oF oS oA oB cA cB n h d mo th om sd po lr lv P V  H.size hh hn) (cwV 0 hts gX1_read_X1_losePosition rfl rfl rfl (by decide +kernel) ⟨Nat.le_of_ble_eq_true rfl, Nat.le_of_ble_eq_true rfl⟩) ⟨fun a U g mk q => by obtain ⟨q0, q1, qP, qK, qD⟩ := q; exact ⟨q0, q1, qP, va_K.moved (u := U) (U := U.calling g mk a) (Vm.Alike.refl U.vm) qK, qD⟩, va_recv hKc hPc (ci := 2) (q0 := 0) rfl rfl, fun U hU hW => ⟨rfl, by rw [hU], by rw [hU]; exact hPc, va_K.moved hW.alike hKc, hDc.weaken (fun _ _ _ _ => trivial)⟩⟩ rfl rfl hl.1 rfl (lv_room (Nat.le_of_ble_eq_true rfl)) dX1_read_23 ⟨Nat.le_of_ble_eq_true rfl, Nat.le_of_ble_eq_true rfl⟩) hS (fun q _ h => hFc q h) hFc (fun u t H1 locs ht hvm hw hB hz1 hk1 hS => ?_)
        obtain ⟨hP1, hK1, hD1⟩ := hB
        rw [ht] at hP1
        have hK1 := va_K.moved hvm.symm hK1
        try dsimp only at hw
        obtain ⟨hP, hD⟩ := va_join (wr := []) (w1 := [(oF, .inr (2, [.int mo, .ref oS, .int th, .int om, .int 2, .int 0, .int 0, .long lv, .int (nI d)])), (oS, .inr (1, [.ref oA, .ref oB, .int (nI h)])), (oA, .inl (cA, n, .inl P)), (oB, .inl (cB, n, .inr (.inl V)))]) hP hD [0, 1, 2, 3] [] rfl rfl (by decide) (by decide) hk1 hFc hP1 hD1
        generalize H1 = H at hP hS ⊢
        have hP : va_P (dC, dI) vwCl [(oF, .inr (2, [.int mo, .ref oS, .int th, .int om, .int 2, .int 0, .int 0, .long lv, .int (nI d)])), (oS, .inr (1, [.ref oA, .ref oB, .int (nI h)])), (oA, .inl (cA, n, .inl P)), (oB, .inl (cB, n, .inr (.inl V)))] H := hP.sub [0, 1, 2, 3] rfl
        have hD : va_D A [(oF, .inr (2, [.int mo, .ref oS, .int th, .int om, .int 2, .int 0, .int 0, .long lv, .int (nI d)])), (oS, .inr (1, [.ref oA, .ref oB, .int (nI h)])), (oA, .inl (cA, n, .inl P)), (oB, .inl (cB, n, .inr (.inl V)))] := hD.sub [0, 1, 2, 3] (by decide) rfl
        have hK : va_K (dC, dI) vwCl [(cA, .int), (cB, .long)] s := hK
        refine lv_bipush (v := 23) hx hb dX1_read_26 (by decide) ?_
        subst hQ9
        have e9 : fRead p0 (th, om, sd, po, lr, lv, d, P, V, h) = (23, (th, om, 2, 0, 0, lv, d, P, V, h)) := by simp only [fRead, if_pos c_2, if_neg b_4]
        rw [e9]
        exact W.iret (v := 23) hx hb hr (fun t ht hW => ⟨⟨23, (), rfl, rfl, by rw [ht]; exact hP, va_K.moved hW.alike hK, hD⟩, hS.F ht⟩) hS.2.2 dX1_read_28
  · -- not taken at 6: ¬ (fRef om) = 0
    refine lv_iload_n hx hb dX1_read_9 rfl (lv_at hl 0 rfl) ?_
    subst hQ9
    have e9 : fRead p0 (th, om, sd, po, lr, lv, d, P, V, h) = (fRef om, (th, om, sd, po, lr, lv, d, P, V, h)) := by simp only [fRead, if_neg c_2]
    rw [e9]
    exact W.iret (v := fRef om) hx hb hr (fun t ht hW => ⟨⟨fRef om, (), rfl, rfl, by rw [ht]; exact hP, va_K.moved hW.alike hK, hD⟩, hS.F ht⟩) hS.2.2 dX1_read_10

set_option maxHeartbeats 1000000 in
set_option maxRecDepth 100000 in
theorem kX1_value (l : Launch) (dC : Nat → ClassId) (dI : Nat → Nat → Nat) (oF oS oA oB : Nat) (cA cB : ClassId) (n h d : Nat) (mo th om sd po lr : Int32) (lv : Int64) (P : Nat → Int32) (V : Nat → Int64) (sz : Nat) (hh : h ≤ n) (hn : n ≤ 512) : Met l yX1_value wsX1_value ({ frames := 0, cells := 0, slots := 0, locals := 0 }) (va_Pc [.ref oF] (fun U => U.heap.size = sz ∧ va_P (dC, dI) vwCl [(oF, .inr (2, [.int mo, .ref oS, .int th, .int om, .int sd, .int po, .int lr, .long lv, .int (nI d)])), (oS, .inr (1, [.ref oA, .ref oB, .int (nI h)])), (oA, .inl (cA, n, .inl P)), (oB, .inl (cB, n, .inr (.inl V)))] U.heap ∧ va_K (dC, dI) vwCl [(cA, .int), (cB, .long)] U ∧ va_D (fun _ => True) [(oF, .inr (2, [.int mo, .ref oS, .int th, .int om, .int sd, .int po, .int lr, .long lv, .int (nI d)])), (oS, .inr (1, [.ref oA, .ref oB, .int (nI h)])), (oA, .inl (cA, n, .inl P)), (oB, .inl (cB, n, .inr (.inl V)))])) (va_Ql (fun (r : Int64) (_ : Unit) => r = lv) (fun (_ : Unit) (t : State) => va_P (dC, dI) vwCl [(oF, .inr (2, [.int mo, .ref oS, .int th, .int om, .int sd, .int po, .int lr, .long lv, .int (nI d)])), (oS, .inr (1, [.ref oA, .ref oB, .int (nI h)])), (oA, .inl (cA, n, .inl P)), (oB, .inl (cB, n, .inr (.inl V)))] t.heap ∧ va_K (dC, dI) vwCl [(cA, .int), (cB, .long)] t ∧ va_D (va_A [(oF, .inr (2, [.int mo, .ref oS, .int th, .int om, .int sd, .int po, .int lr, .long lv, .int (nI d)])), (oS, .inr (1, [.ref oA, .ref oB, .int (nI h)])), (oA, .inl (cA, n, .inl P)), (oB, .inl (cB, n, .inr (.inl V)))] sz) [(oF, .inr (2, [.int mo, .ref oS, .int th, .int om, .int sd, .int po, .int lr, .long lv, .int (nI d)])), (oS, .inr (1, [.ref oA, .ref oB, .int (nI h)])), (oA, .inl (cA, n, .inl P)), (oB, .inl (cB, n, .inr (.inl V)))]) (va_A [(oF, .inr (2, [.int mo, .ref oS, .int th, .int om, .int sd, .int po, .int lr, .long lv, .int (nI d)])), (oS, .inr (1, [.ref oA, .ref oB, .int (nI h)])), (oA, .inl (cA, n, .inl P)), (oB, .inl (cB, n, .inr (.inl V)))] sz)) 0 0 (va_A [(oF, .inr (2, [.int mo, .ref oS, .int th, .int om, .int sd, .int po, .int lr, .long lv, .int (nI d)])), (oS, .inr (1, [.ref oA, .ref oB, .int (nI h)])), (oA, .inl (cA, n, .inl P)), (oB, .inl (cB, n, .inr (.inl V)))] sz) := by
  refine Met.ofW (cc := cX1_value) (maxL := 1) (ret := (some .long)) (by decide) rfl ?_
  intro p e s m args below meth c s₁ B hml hv
  obtain ⟨rfl, hsz, hP, hK, hD0⟩ := hv
  have hx := B.exec
  have hb := B.bytes
  have hr := B.returns
  have hts := atoms_spec (ws := wsX1_value) B.pre
  have hown : s.vm.findClass RX1 = some m.cls := findClass_of_methodNamed B.named
  have hlocks := B.notSynchronized
  subst hsz
  have hD := hD0.self (sz := s.heap.size)
  generalize hAe : va_A [(oF, .inr (2, [.int mo, .ref oS, .int th, .int om, .int sd, .int po, .int lr, .long lv, .int (nI d)])), (oS, .inr (1, [.ref oA, .ref oB, .int (nI h)])), (oA, .inl (cA, n, .inl P)), (oB, .inl (cB, n, .inr (.inl V)))] s.heap.size = A at hD ⊢
  have hA : ∀ q : Nat, s.heap.size ≤ q → A q := fun q h => by rw [← hAe]; exact Or.inr h
  have hS : va_S A s.heap s.heap [] := va_S.rf
  have hP : va_P (dC, dI) vwCl [(oF, .inr (2, [.int mo, .ref oS, .int th, .int om, .int sd, .int po, .int lr, .long lv, .int (nI d)])), (oS, .inr (1, [.ref oA, .ref oB, .int (nI h)])), (oA, .inl (cA, n, .inl P)), (oB, .inl (cB, n, .inr (.inl V)))] s.heap := hP
  have hl := lv_entry ([.ref oF]) (n := 1) (Nat.le_of_ble_eq_true rfl)
  rw [lg_entry_eq]
  generalize (lg_sl ([.ref oF]) ++ List.replicate (1 - (lg_sl ([.ref oF])).length) Slot.unset).toArray = ls at hl ⊢
  have hl : lv_has ls 1 [(0, .ref oF)] := hl
  refine W_name (fun Q hQ9 => ?_)
  refine lv_aload_n hx hb dX1_value_0 rfl (lv_at hl 0 rfl) ?_
  refine va_get (D := (dC, dI)) (ci := 2) (v := .long lv) (C := RX1) (T := TX1) (N := 9) hx hb hts (by decide +kernel) hown hK hP 0 rfl rfl 7 (by decide) (hts (.fieldLink RX1 48 "RelativeFiles" "lastValue" "J") (by decide +kernel)) (fun _ h9 => h9) rfl dX1_value_1 ?_
  subst hQ9
  exact W.lret (v := lv) hx hb hr (fun t ht hW => ⟨⟨lv, (), rfl, rfl, by rw [ht]; exact hP, va_K.moved hW.alike hK, hD⟩, hS.F ht⟩) hS.2.2 dX1_value_4

set_option maxHeartbeats 1000000 in
set_option maxRecDepth 100000 in
theorem kX1_number (l : Launch) (dC : Nat → ClassId) (dI : Nat → Nat → Nat) (oF oS oA oB : Nat) (cA cB : ClassId) (n h d : Nat) (mo th om sd po lr : Int32) (lv : Int64) (P : Nat → Int32) (V : Nat → Int64) (sz : Nat) (hh : h ≤ n) (hn : n ≤ 512) : Met l yX1_number wsX1_number ({ frames := 0, cells := 0, slots := 0, locals := 0 }) (va_Pc [.ref oF] (fun U => U.heap.size = sz ∧ va_P (dC, dI) vwCl [(oF, .inr (2, [.int mo, .ref oS, .int th, .int om, .int sd, .int po, .int lr, .long lv, .int (nI d)])), (oS, .inr (1, [.ref oA, .ref oB, .int (nI h)])), (oA, .inl (cA, n, .inl P)), (oB, .inl (cB, n, .inr (.inl V)))] U.heap ∧ va_K (dC, dI) vwCl [(cA, .int), (cB, .long)] U ∧ va_D (fun _ => True) [(oF, .inr (2, [.int mo, .ref oS, .int th, .int om, .int sd, .int po, .int lr, .long lv, .int (nI d)])), (oS, .inr (1, [.ref oA, .ref oB, .int (nI h)])), (oA, .inl (cA, n, .inl P)), (oB, .inl (cB, n, .inr (.inl V)))])) (va_Qi (fun (r : Int32) (_ : Unit) => r = lr) (fun (_ : Unit) (t : State) => va_P (dC, dI) vwCl [(oF, .inr (2, [.int mo, .ref oS, .int th, .int om, .int sd, .int po, .int lr, .long lv, .int (nI d)])), (oS, .inr (1, [.ref oA, .ref oB, .int (nI h)])), (oA, .inl (cA, n, .inl P)), (oB, .inl (cB, n, .inr (.inl V)))] t.heap ∧ va_K (dC, dI) vwCl [(cA, .int), (cB, .long)] t ∧ va_D (va_A [(oF, .inr (2, [.int mo, .ref oS, .int th, .int om, .int sd, .int po, .int lr, .long lv, .int (nI d)])), (oS, .inr (1, [.ref oA, .ref oB, .int (nI h)])), (oA, .inl (cA, n, .inl P)), (oB, .inl (cB, n, .inr (.inl V)))] sz) [(oF, .inr (2, [.int mo, .ref oS, .int th, .int om, .int sd, .int po, .int lr, .long lv, .int (nI d)])), (oS, .inr (1, [.ref oA, .ref oB, .int (nI h)])), (oA, .inl (cA, n, .inl P)), (oB, .inl (cB, n, .inr (.inl V)))]) (va_A [(oF, .inr (2, [.int mo, .ref oS, .int th, .int om, .int sd, .int po, .int lr, .long lv, .int (nI d)])), (oS, .inr (1, [.ref oA, .ref oB, .int (nI h)])), (oA, .inl (cA, n, .inl P)), (oB, .inl (cB, n, .inr (.inl V)))] sz)) 0 0 (va_A [(oF, .inr (2, [.int mo, .ref oS, .int th, .int om, .int sd, .int po, .int lr, .long lv, .int (nI d)])), (oS, .inr (1, [.ref oA, .ref oB, .int (nI h)])), (oA, .inl (cA, n, .inl P)), (oB, .inl (cB, n, .inr (.inl V)))] sz) := by
  refine Met.ofW (cc := cX1_number) (maxL := 1) (ret := (some .int)) (by decide) rfl ?_
  intro p e s m args below meth c s₁ B hml hv
  obtain ⟨rfl, hsz, hP, hK, hD0⟩ := hv
  have hx := B.exec
  have hb := B.bytes
  have hr := B.returns
  have hts := atoms_spec (ws := wsX1_number) B.pre
  have hown : s.vm.findClass RX1 = some m.cls := findClass_of_methodNamed B.named
  have hlocks := B.notSynchronized
  subst hsz
  have hD := hD0.self (sz := s.heap.size)
  generalize hAe : va_A [(oF, .inr (2, [.int mo, .ref oS, .int th, .int om, .int sd, .int po, .int lr, .long lv, .int (nI d)])), (oS, .inr (1, [.ref oA, .ref oB, .int (nI h)])), (oA, .inl (cA, n, .inl P)), (oB, .inl (cB, n, .inr (.inl V)))] s.heap.size = A at hD ⊢
  have hA : ∀ q : Nat, s.heap.size ≤ q → A q := fun q h => by rw [← hAe]; exact Or.inr h
  have hS : va_S A s.heap s.heap [] := va_S.rf
  have hP : va_P (dC, dI) vwCl [(oF, .inr (2, [.int mo, .ref oS, .int th, .int om, .int sd, .int po, .int lr, .long lv, .int (nI d)])), (oS, .inr (1, [.ref oA, .ref oB, .int (nI h)])), (oA, .inl (cA, n, .inl P)), (oB, .inl (cB, n, .inr (.inl V)))] s.heap := hP
  have hl := lv_entry ([.ref oF]) (n := 1) (Nat.le_of_ble_eq_true rfl)
  rw [lg_entry_eq]
  generalize (lg_sl ([.ref oF]) ++ List.replicate (1 - (lg_sl ([.ref oF])).length) Slot.unset).toArray = ls at hl ⊢
  have hl : lv_has ls 1 [(0, .ref oF)] := hl
  refine W_name (fun Q hQ9 => ?_)
  refine lv_aload_n hx hb dX1_number_0 rfl (lv_at hl 0 rfl) ?_
  refine va_get (D := (dC, dI)) (ci := 2) (v := .int lr) (C := RX1) (T := TX1) (N := 9) hx hb hts (by decide +kernel) hown hK hP 0 rfl rfl 6 (by decide) (hts (.fieldLink RX1 45 "RelativeFiles" "lastRead" "I") (by decide +kernel)) (fun _ h9 => h9) rfl dX1_number_1 ?_
  subst hQ9
  exact W.iret (v := lr) hx hb hr (fun t ht hW => ⟨⟨lr, (), rfl, rfl, by rw [ht]; exact hP, va_K.moved hW.alike hK, hD⟩, hS.F ht⟩) hS.2.2 dX1_number_4

set_option maxHeartbeats 1000000 in
set_option maxRecDepth 100000 in
theorem kX1_records (l : Launch) (dC : Nat → ClassId) (dI : Nat → Nat → Nat) (oF oS oA oB : Nat) (cA cB : ClassId) (n h d : Nat) (mo th om sd po lr : Int32) (lv : Int64) (P : Nat → Int32) (V : Nat → Int64) (sz : Nat) (hh : h ≤ n) (hn : n ≤ 512) : Met l yX1_records wsX1_records ({ frames := 1, cells := 0, slots := 0, locals := 20 }) (va_Pc [.ref oF] (fun U => U.heap.size = sz ∧ va_P (dC, dI) vwCl [(oF, .inr (2, [.int mo, .ref oS, .int th, .int om, .int sd, .int po, .int lr, .long lv, .int (nI d)])), (oS, .inr (1, [.ref oA, .ref oB, .int (nI h)])), (oA, .inl (cA, n, .inl P)), (oB, .inl (cB, n, .inr (.inl V)))] U.heap ∧ va_K (dC, dI) vwCl [(cA, .int), (cB, .long)] U ∧ va_D (fun _ => True) [(oF, .inr (2, [.int mo, .ref oS, .int th, .int om, .int sd, .int po, .int lr, .long lv, .int (nI d)])), (oS, .inr (1, [.ref oA, .ref oB, .int (nI h)])), (oA, .inl (cA, n, .inl P)), (oB, .inl (cB, n, .inr (.inl V)))])) (va_Qi (fun (r : Int32) (_ : Unit) => r = nI h) (fun (_ : Unit) (t : State) => va_P (dC, dI) vwCl [(oF, .inr (2, [.int mo, .ref oS, .int th, .int om, .int sd, .int po, .int lr, .long lv, .int (nI d)])), (oS, .inr (1, [.ref oA, .ref oB, .int (nI h)])), (oA, .inl (cA, n, .inl P)), (oB, .inl (cB, n, .inr (.inl V)))] t.heap ∧ va_K (dC, dI) vwCl [(cA, .int), (cB, .long)] t ∧ va_D (va_A [(oF, .inr (2, [.int mo, .ref oS, .int th, .int om, .int sd, .int po, .int lr, .long lv, .int (nI d)])), (oS, .inr (1, [.ref oA, .ref oB, .int (nI h)])), (oA, .inl (cA, n, .inl P)), (oB, .inl (cB, n, .inr (.inl V)))] sz) [(oF, .inr (2, [.int mo, .ref oS, .int th, .int om, .int sd, .int po, .int lr, .long lv, .int (nI d)])), (oS, .inr (1, [.ref oA, .ref oB, .int (nI h)])), (oA, .inl (cA, n, .inl P)), (oB, .inl (cB, n, .inr (.inl V)))]) (va_A [(oF, .inr (2, [.int mo, .ref oS, .int th, .int om, .int sd, .int po, .int lr, .long lv, .int (nI d)])), (oS, .inr (1, [.ref oA, .ref oB, .int (nI h)])), (oA, .inl (cA, n, .inl P)), (oB, .inl (cB, n, .inr (.inl V)))] sz)) 0 0 (va_A [(oF, .inr (2, [.int mo, .ref oS, .int th, .int om, .int sd, .int po, .int lr, .long lv, .int (nI d)])), (oS, .inr (1, [.ref oA, .ref oB, .int (nI h)])), (oA, .inl (cA, n, .inl P)), (oB, .inl (cB, n, .inr (.inl V)))] sz) := by
  refine Met.ofW (cc := cX1_records) (maxL := 1) (ret := (some .int)) (by decide) rfl ?_
  intro p e s m args below meth c s₁ B hml hv
  obtain ⟨rfl, hsz, hP, hK, hD0⟩ := hv
  have hx := B.exec
  have hb := B.bytes
  have hr := B.returns
  have hts := atoms_spec (ws := wsX1_records) B.pre
  have hown : s.vm.findClass RX1 = some m.cls := findClass_of_methodNamed B.named
  have hlocks := B.notSynchronized
  subst hsz
  have hD := hD0.self (sz := s.heap.size)
  generalize hAe : va_A [(oF, .inr (2, [.int mo, .ref oS, .int th, .int om, .int sd, .int po, .int lr, .long lv, .int (nI d)])), (oS, .inr (1, [.ref oA, .ref oB, .int (nI h)])), (oA, .inl (cA, n, .inl P)), (oB, .inl (cB, n, .inr (.inl V)))] s.heap.size = A at hD ⊢
  have hA : ∀ q : Nat, s.heap.size ≤ q → A q := fun q h => by rw [← hAe]; exact Or.inr h
  have hS : va_S A s.heap s.heap [] := va_S.rf
  have hP : va_P (dC, dI) vwCl [(oF, .inr (2, [.int mo, .ref oS, .int th, .int om, .int sd, .int po, .int lr, .long lv, .int (nI d)])), (oS, .inr (1, [.ref oA, .ref oB, .int (nI h)])), (oA, .inl (cA, n, .inl P)), (oB, .inl (cB, n, .inr (.inl V)))] s.heap := hP
  have hl := lv_entry ([.ref oF]) (n := 1) (Nat.le_of_ble_eq_true rfl)
  rw [lg_entry_eq]
  generalize (lg_sl ([.ref oF]) ++ List.replicate (1 - (lg_sl ([.ref oF])).length) Slot.unset).toArray = ls at hl ⊢
  have hl : lv_has ls 1 [(0, .ref oF)] := hl
  refine W_name (fun Q hQ9 => ?_)
  refine lv_aload_n hx hb dX1_records_0 rfl (lv_at hl 0 rfl) ?_
  refine va_get (D := (dC, dI)) (ci := 2) (v := .ref oS) (C := RX1) (T := TX1) (N := 9) hx hb hts (by decide +kernel) hown hK hP 0 rfl rfl 1 (by decide) (hts (.fieldLink RX1 28 "RelativeFiles" "shelf" "LRelativeFiles$Shelf;") (by decide +kernel)) (fun _ h9 => h9) rfl dX1_records_1 ?_
  have hPc := hP.sub (ws' := [(oS, .inr (1, [.ref oA, .ref oB, .int (nI h)])), (oA, .inl (cA, n, .inl P)), (oB, .inl (cB, n, .inr (.inl V)))]) [1, 2, 3] rfl
  have hDc := hD.sub (ws' := [(oS, .inr (1, [.ref oA, .ref oB, .int (nI h)])), (oA, .inl (cA, n, .inl P)), (oB, .inl (cB, n, .inr (.inl V)))]) [1, 2, 3] (by decide) rfl
  have hKc := hK.sub (tys' := [(cA, .int), (cB, .long)]) [0, 1] rfl
  have hFc := va_free (wc := [(oS, .inr (1, [.ref oA, .ref oB, .int (nI h)])), (oA, .inl (cA, n, .inl P)), (oB, .inl (cB, n, .inr (.inl V)))]) hD hS hA [1, 2, 3] rfl
  refine va_calli (va_runV (As := []) (rest := []) ⟨hx, hb, hml, hown, hts⟩ (kX0_size l dC dI oS oA oB cA cB n h P V  s.heap.size hh hn) (cwV 0 hts gX1_records_X0_size rfl rfl rfl (by decide +kernel) ⟨Nat.le_of_ble_eq_true rfl, Nat.le_of_ble_eq_true rfl⟩) ⟨fun a U g mk q => by obtain ⟨q0, q1, qP, qK, qD⟩ := q; exact ⟨q0, q1, qP, va_K.moved (u := U) (U := U.calling g mk a) (Vm.Alike.refl U.vm) qK, qD⟩, va_recv hKc hPc (ci := 1) (q0 := 0) rfl rfl, fun U hU hW => ⟨rfl, by rw [hU], by rw [hU]; exact hPc, va_K.moved hW.alike hKc, hDc.weaken (fun _ _ _ _ => trivial)⟩⟩ rfl rfl hl.1 rfl (lv_room (Nat.le_of_ble_eq_true rfl)) dX1_records_4 ⟨Nat.le_of_ble_eq_true rfl, Nat.le_of_ble_eq_true rfl⟩) hS (fun q _ h => hFc q h) hFc (fun r_1 u t H1 locs ht hvm hw hB hz1 hk1 hS => ?_)
  obtain ⟨hP1, hK1, hD1⟩ := hB
  rw [ht] at hP1
  have hK1 := va_K.moved hvm.symm hK1
  try dsimp only at hw
  obtain ⟨hP, hD⟩ := va_join (wr := [(oF, .inr (2, [.int mo, .ref oS, .int th, .int om, .int sd, .int po, .int lr, .long lv, .int (nI d)]))]) (w1 := [(oS, .inr (1, [.ref oA, .ref oB, .int (nI h)])), (oA, .inl (cA, n, .inl P)), (oB, .inl (cB, n, .inr (.inl V)))]) hP hD [1, 2, 3] [0] rfl rfl (by decide) (by decide) hk1 hFc hP1 hD1
  generalize H1 = H at hP hS ⊢
  have hP : va_P (dC, dI) vwCl [(oF, .inr (2, [.int mo, .ref oS, .int th, .int om, .int sd, .int po, .int lr, .long lv, .int (nI d)])), (oS, .inr (1, [.ref oA, .ref oB, .int (nI h)])), (oA, .inl (cA, n, .inl P)), (oB, .inl (cB, n, .inr (.inl V)))] H := hP.sub [0, 1, 2, 3] rfl
  have hD : va_D A [(oF, .inr (2, [.int mo, .ref oS, .int th, .int om, .int sd, .int po, .int lr, .long lv, .int (nI d)])), (oS, .inr (1, [.ref oA, .ref oB, .int (nI h)])), (oA, .inl (cA, n, .inl P)), (oB, .inl (cB, n, .inr (.inl V)))] := hD.sub [0, 1, 2, 3] (by decide) rfl
  have hK : va_K (dC, dI) vwCl [(cA, .int), (cB, .long)] s := hK
  subst hw
  subst hQ9
  exact W.iret (v := nI h) hx hb hr (fun t ht hW => ⟨⟨nI h, (), rfl, rfl, by rw [ht]; exact hP, va_K.moved hW.alike hK, hD⟩, hS.F ht⟩) hS.2.2 dX1_records_7

set_option maxHeartbeats 1000000 in
set_option maxRecDepth 100000 in
theorem kX1_digits (l : Launch) (dC : Nat → ClassId) (dI : Nat → Nat → Nat) (oF oS oA oB : Nat) (cA cB : ClassId) (n h d : Nat) (mo th om sd po lr : Int32) (lv : Int64) (P : Nat → Int32) (V : Nat → Int64) (p0 : Int32) (sz : Nat) (hh : h ≤ n) (hn : n ≤ 512) : Met l yX1_digits wsX1_digits ({ frames := 0, cells := 0, slots := 0, locals := 0 }) (va_Pc [.ref oF, .int p0] (fun U => U.heap.size = sz ∧ va_P (dC, dI) vwCl [(oF, .inr (2, [.int mo, .ref oS, .int th, .int om, .int sd, .int po, .int lr, .long lv, .int (nI d)])), (oS, .inr (1, [.ref oA, .ref oB, .int (nI h)])), (oA, .inl (cA, n, .inl P)), (oB, .inl (cB, n, .inr (.inl V)))] U.heap ∧ va_K (dC, dI) vwCl [(cA, .int), (cB, .long)] U ∧ va_D (fun _ => True) [(oF, .inr (2, [.int mo, .ref oS, .int th, .int om, .int sd, .int po, .int lr, .long lv, .int (nI d)])), (oS, .inr (1, [.ref oA, .ref oB, .int (nI h)])), (oA, .inl (cA, n, .inl P)), (oB, .inl (cB, n, .inr (.inl V)))])) (va_Qi (fun (r : Int32) (_ : Unit) => r = (fDig p0 (th, om, sd, po, lr, lv, d, P, V, h)).1) (fun (_ : Unit) (t : State) => va_P (dC, dI) vwCl (wF oF oS oA oB cA cB n mo (fDig p0 (th, om, sd, po, lr, lv, d, P, V, h)).2) t.heap ∧ va_K (dC, dI) vwCl [(cA, .int), (cB, .long)] t ∧ va_D (va_A [(oF, .inr (2, [.int mo, .ref oS, .int th, .int om, .int sd, .int po, .int lr, .long lv, .int (nI d)])), (oS, .inr (1, [.ref oA, .ref oB, .int (nI h)])), (oA, .inl (cA, n, .inl P)), (oB, .inl (cB, n, .inr (.inl V)))] sz) (wF oF oS oA oB cA cB n mo (fDig p0 (th, om, sd, po, lr, lv, d, P, V, h)).2)) (va_A [(oF, .inr (2, [.int mo, .ref oS, .int th, .int om, .int sd, .int po, .int lr, .long lv, .int (nI d)])), (oS, .inr (1, [.ref oA, .ref oB, .int (nI h)])), (oA, .inl (cA, n, .inl P)), (oB, .inl (cB, n, .inr (.inl V)))] sz)) 0 0 (va_A [(oF, .inr (2, [.int mo, .ref oS, .int th, .int om, .int sd, .int po, .int lr, .long lv, .int (nI d)])), (oS, .inr (1, [.ref oA, .ref oB, .int (nI h)])), (oA, .inl (cA, n, .inl P)), (oB, .inl (cB, n, .inr (.inl V)))] sz) := by
  refine Met.ofW (cc := cX1_digits) (maxL := 3) (ret := (some .int)) (by decide) rfl ?_
  intro p e s m args below meth c s₁ B hml hv
  obtain ⟨rfl, hsz, hP, hK, hD0⟩ := hv
  have hx := B.exec
  have hb := B.bytes
  have hr := B.returns
  have hts := atoms_spec (ws := wsX1_digits) B.pre
  have hown : s.vm.findClass RX1 = some m.cls := findClass_of_methodNamed B.named
  have hlocks := B.notSynchronized
  subst hsz
  have hD := hD0.self (sz := s.heap.size)
  generalize hAe : va_A [(oF, .inr (2, [.int mo, .ref oS, .int th, .int om, .int sd, .int po, .int lr, .long lv, .int (nI d)])), (oS, .inr (1, [.ref oA, .ref oB, .int (nI h)])), (oA, .inl (cA, n, .inl P)), (oB, .inl (cB, n, .inr (.inl V)))] s.heap.size = A at hD ⊢
  have hA : ∀ q : Nat, s.heap.size ≤ q → A q := fun q h => by rw [← hAe]; exact Or.inr h
  have hS : va_S A s.heap s.heap [] := va_S.rf
  have hP : va_P (dC, dI) vwCl [(oF, .inr (2, [.int mo, .ref oS, .int th, .int om, .int sd, .int po, .int lr, .long lv, .int (nI d)])), (oS, .inr (1, [.ref oA, .ref oB, .int (nI h)])), (oA, .inl (cA, n, .inl P)), (oB, .inl (cB, n, .inr (.inl V)))] s.heap := hP
  have hl := lv_entry ([.ref oF, .int p0]) (n := 3) (Nat.le_of_ble_eq_true rfl)
  rw [lg_entry_eq]
  generalize (lg_sl ([.ref oF, .int p0]) ++ List.replicate (3 - (lg_sl ([.ref oF, .int p0])).length) Slot.unset).toArray = ls at hl ⊢
  have hl : lv_has ls 3 [(0, .ref oF), (1, .int p0)] := hl
  refine W_name (fun Q hQ9 => ?_)
  refine lv_iload_n hx hb dX1_digits_0 rfl (lv_at hl 1 rfl) ?_
  refine lv_iconst (v := 1) hx hb dX1_digits_1 (by decide) ?_
  refine lv_icmp_lt (tgt := 11) hx hb dX1_digits_2 (by decide) (fun c_1 => ?_) (fun c_1 => ?_)
  · -- taken at 2: p0 < 1
    refine lv_iconst (v := (-1)) hx hb dX1_digits_11 (by decide) ?_
    subst hQ9
    have e9 : fDig p0 (th, om, sd, po, lr, lv, d, P, V, h) = (-1, (th, om, sd, po, lr, lv, d, P, V, h)) := by simp only [fDig, if_pos c_1]
    rw [e9]
    exact W.iret (v := (-1)) hx hb hr (fun t ht hW => ⟨⟨(-1), (), rfl, rfl, by rw [ht]; exact hP, va_K.moved hW.alike hK, hD⟩, hS.F ht⟩) hS.2.2 dX1_digits_12
  · -- not taken at 2: ¬ p0 < 1
    refine lv_iload_n hx hb dX1_digits_5 rfl (lv_at hl 1 rfl) ?_
    refine lv_bipush (v := 9) hx hb dX1_digits_6 (by decide) ?_
    refine lv_icmp_le (tgt := 13) hx hb dX1_digits_8 (by decide) (fun c_2 => ?_) (fun c_2 => ?_)
    · -- taken at 8: p0 ≤ 9
      obtain ⟨d2, hd2, rfl⟩ : ∃ j : Nat, j < 2 ^ 31 ∧ p0 = nI j := nI_of (fun q => c_1 (by rw [Int32.lt_iff_toInt_lt] at q ⊢; have e1 : (1 : Int32).toInt = 1 := rfl; have e0 : (0 : Int32).toInt = 0 := rfl; omega))
      refine lv_aload_n hx hb dX1_digits_13 rfl (lv_at hl 0 rfl) ?_
      refine va_get (D := (dC, dI)) (ci := 2) (v := .int (nI d)) (C := RX1) (T := TX1) (N := 9) hx hb hts (by decide +kernel) hown hK hP 0 rfl rfl 8 (by decide) (hts (.fieldLink RX1 52 "RelativeFiles" "keyDigits" "I") (by decide +kernel)) (fun _ h9 => h9) rfl dX1_digits_14 ?_
      refine lv_istore_n (lv' := [(2, .int (nI d)), (0, .ref oF), (1, .int (nI d2))]) hx hb dX1_digits_17 rfl hl (by decide) rfl (fun ls hl => ?_)
      refine lv_aload_n hx hb dX1_digits_18 rfl (lv_at hl 1 rfl) ?_
      refine lv_iload_n hx hb dX1_digits_19 rfl (lv_at hl 2 rfl) ?_
      refine va_put (D := (dC, dI)) (ci := 2) (v := .int (nI d2)) (ty := .int) (C := RX1) (T := TX1) (N := 9) hx hb hts (by decide +kernel) tyX1 tyX1_ok nmX1 hown hK hP hD hS 0 rfl rfl 8 (by decide) (hts (.fieldLink RX1 52 "RelativeFiles" "keyDigits" "I") (by decide +kernel)) (fun _ h9 => h9) rfl (by decide +kernel) rfl rfl (Nat.le_of_ble_eq_true rfl) dX1_digits_20 (fun H locs hP hD hS => ?_)
      have hP : va_P (dC, dI) vwCl [(oF, .inr (2, [.int mo, .ref oS, .int th, .int om, .int sd, .int po, .int lr, .long lv, .int (nI d2)])), (oS, .inr (1, [.ref oA, .ref oB, .int (nI h)])), (oA, .inl (cA, n, .inl P)), (oB, .inl (cB, n, .inr (.inl V)))] H := hP
      have hD : va_D A [(oF, .inr (2, [.int mo, .ref oS, .int th, .int om, .int sd, .int po, .int lr, .long lv, .int (nI d2)])), (oS, .inr (1, [.ref oA, .ref oB, .int (nI h)])), (oA, .inl (cA, n, .inl P)), (oB, .inl (cB, n, .inr (.inl V)))] := hD
      refine lv_iload_n hx hb dX1_digits_23 rfl (lv_at hl 0 rfl) ?_
      subst hQ9
      have e9 : fDig (nI d2) (th, om, sd, po, lr, lv, d, P, V, h) = (nI d, (th, om, sd, po, lr, lv, d2, P, V, h)) := by simp only [fDig, if_neg c_1, if_pos c_2, nI_clamp hd2]
      rw [e9]
      exact W.iret (v := nI d) hx hb hr (fun t ht hW => ⟨⟨nI d, (), rfl, rfl, by rw [ht]; exact hP, va_K.moved hW.alike hK, hD⟩, hS.F ht⟩) hS.2.2 dX1_digits_24
    · -- not taken at 8: ¬ p0 ≤ 9
      refine lv_iconst (v := (-1)) hx hb dX1_digits_11 (by decide) ?_
      subst hQ9
      have e9 : fDig p0 (th, om, sd, po, lr, lv, d, P, V, h) = (-1, (th, om, sd, po, lr, lv, d, P, V, h)) := by simp only [fDig, if_neg c_1, if_neg c_2]
      rw [e9]
      exact W.iret (v := (-1)) hx hb hr (fun t ht hW => ⟨⟨(-1), (), rfl, rfl, by rw [ht]; exact hP, va_K.moved hW.alike hK, hD⟩, hS.F ht⟩) hS.2.2 dX1_digits_12

set_option maxHeartbeats 1000000 in
set_option maxRecDepth 100000 in
theorem kX1_count (l : Launch) (dC : Nat → ClassId) (dI : Nat → Nat → Nat) (oF oS oA oB : Nat) (cA cB : ClassId) (n h d : Nat) (mo th om sd po lr : Int32) (lv : Int64) (P : Nat → Int32) (V : Nat → Int64) (p0 : Int32) (sz : Nat) (hh : h ≤ n) (hn : n ≤ 512) : Met l yX1_count wsX1_count ({ frames := 2, cells := 0, slots := 0, locals := 41 }) (va_Pc [.ref oF, .int p0] (fun U => U.heap.size = sz ∧ va_P (dC, dI) vwCl [(oF, .inr (2, [.int mo, .ref oS, .int th, .int om, .int sd, .int po, .int lr, .long lv, .int (nI d)])), (oS, .inr (1, [.ref oA, .ref oB, .int (nI h)])), (oA, .inl (cA, n, .inl P)), (oB, .inl (cB, n, .inr (.inl V)))] U.heap ∧ va_K (dC, dI) vwCl [(cA, .int), (cB, .long)] U ∧ va_D (fun _ => True) [(oF, .inr (2, [.int mo, .ref oS, .int th, .int om, .int sd, .int po, .int lr, .long lv, .int (nI d)])), (oS, .inr (1, [.ref oA, .ref oB, .int (nI h)])), (oA, .inl (cA, n, .inl P)), (oB, .inl (cB, n, .inr (.inl V)))])) (va_Qi (fun (r : Int32) (_ : Unit) => r = fCount mo p0 (th, om, sd, po, lr, lv, d, P, V, h)) (fun (_ : Unit) (t : State) => va_P (dC, dI) vwCl [(oF, .inr (2, [.int mo, .ref oS, .int th, .int om, .int sd, .int po, .int lr, .long lv, .int (nI d)])), (oS, .inr (1, [.ref oA, .ref oB, .int (nI h)])), (oA, .inl (cA, n, .inl P)), (oB, .inl (cB, n, .inr (.inl V)))] t.heap ∧ va_K (dC, dI) vwCl [(cA, .int), (cB, .long)] t ∧ va_D (va_A [(oF, .inr (2, [.int mo, .ref oS, .int th, .int om, .int sd, .int po, .int lr, .long lv, .int (nI d)])), (oS, .inr (1, [.ref oA, .ref oB, .int (nI h)])), (oA, .inl (cA, n, .inl P)), (oB, .inl (cB, n, .inr (.inl V)))] sz) [(oF, .inr (2, [.int mo, .ref oS, .int th, .int om, .int sd, .int po, .int lr, .long lv, .int (nI d)])), (oS, .inr (1, [.ref oA, .ref oB, .int (nI h)])), (oA, .inl (cA, n, .inl P)), (oB, .inl (cB, n, .inr (.inl V)))]) (va_A [(oF, .inr (2, [.int mo, .ref oS, .int th, .int om, .int sd, .int po, .int lr, .long lv, .int (nI d)])), (oS, .inr (1, [.ref oA, .ref oB, .int (nI h)])), (oA, .inl (cA, n, .inl P)), (oB, .inl (cB, n, .inr (.inl V)))] sz)) 0 0 (va_A [(oF, .inr (2, [.int mo, .ref oS, .int th, .int om, .int sd, .int po, .int lr, .long lv, .int (nI d)])), (oS, .inr (1, [.ref oA, .ref oB, .int (nI h)])), (oA, .inl (cA, n, .inl P)), (oB, .inl (cB, n, .inr (.inl V)))] sz) := by
  refine Met.ofW (cc := cX1_count) (maxL := 2) (ret := (some .int)) (by decide) rfl ?_
  intro p e s m args below meth c s₁ B hml hv
  obtain ⟨rfl, hsz, hP, hK, hD0⟩ := hv
  have hx := B.exec
  have hb := B.bytes
  have hr := B.returns
  have hts := atoms_spec (ws := wsX1_count) B.pre
  have hown : s.vm.findClass RX1 = some m.cls := findClass_of_methodNamed B.named
  have hlocks := B.notSynchronized
  subst hsz
  have hD := hD0.self (sz := s.heap.size)
  generalize hAe : va_A [(oF, .inr (2, [.int mo, .ref oS, .int th, .int om, .int sd, .int po, .int lr, .long lv, .int (nI d)])), (oS, .inr (1, [.ref oA, .ref oB, .int (nI h)])), (oA, .inl (cA, n, .inl P)), (oB, .inl (cB, n, .inr (.inl V)))] s.heap.size = A at hD ⊢
  have hA : ∀ q : Nat, s.heap.size ≤ q → A q := fun q h => by rw [← hAe]; exact Or.inr h
  have hS : va_S A s.heap s.heap [] := va_S.rf
  have hP : va_P (dC, dI) vwCl [(oF, .inr (2, [.int mo, .ref oS, .int th, .int om, .int sd, .int po, .int lr, .long lv, .int (nI d)])), (oS, .inr (1, [.ref oA, .ref oB, .int (nI h)])), (oA, .inl (cA, n, .inl P)), (oB, .inl (cB, n, .inr (.inl V)))] s.heap := hP
  have hl := lv_entry ([.ref oF, .int p0]) (n := 2) (Nat.le_of_ble_eq_true rfl)
  rw [lg_entry_eq]
  generalize (lg_sl ([.ref oF, .int p0]) ++ List.replicate (2 - (lg_sl ([.ref oF, .int p0])).length) Slot.unset).toArray = ls at hl ⊢
  have hl : lv_has ls 2 [(0, .ref oF), (1, .int p0)] := hl
  refine W_name (fun Q hQ9 => ?_)
  refine lv_iload_n hx hb dX1_count_0 rfl (lv_at hl 1 rfl) ?_
  by_cases s_1 : p0 = 0
  · -- case 0
    refine lv_tableIn (tgt := 36) hx hb dX1_count_1 (by rw [s_1]; decide) (by rw [s_1]; decide) (by rw [s_1]; rfl) (by decide) ?_
    refine lv_aload_n hx hb dX1_count_36 rfl (lv_at hl 0 rfl) ?_
    refine va_get (D := (dC, dI)) (ci := 2) (v := .int mo) (C := RX1) (T := TX1) (N := 9) hx hb hts (by decide +kernel) hown hK hP 0 rfl rfl 0 (by decide) (hts (.fieldLink RX1 19 "RelativeFiles" "most" "I") (by decide +kernel)) (fun _ h9 => h9) rfl dX1_count_37 ?_
    subst hQ9
    have e9 : fCount mo p0 (th, om, sd, po, lr, lv, d, P, V, h) = mo := by simp only [fCount, if_pos s_1]
    rw [e9]
    exact W.iret (v := mo) hx hb hr (fun t ht hW => ⟨⟨mo, (), rfl, rfl, by rw [ht]; exact hP, va_K.moved hW.alike hK, hD⟩, hS.F ht⟩) hS.2.2 dX1_count_40
  by_cases s_2 : p0 = 1
  · -- case 1
    refine lv_tableIn (tgt := 41) hx hb dX1_count_1 (by rw [s_2]; decide) (by rw [s_2]; decide) (by rw [s_2]; rfl) (by decide) ?_
    refine lv_aload_n hx hb dX1_count_41 rfl (lv_at hl 0 rfl) ?_
    refine va_get (D := (dC, dI)) (ci := 2) (v := .int th) (C := RX1) (T := TX1) (N := 9) hx hb hts (by decide +kernel) hown hK hP 0 rfl rfl 2 (by decide) (hts (.fieldLink RX1 32 "RelativeFiles" "there" "Z") (by decide +kernel)) (fun _ h9 => h9) rfl dX1_count_42 ?_
    refine lv_if_eq (tgt := 52) hx hb dX1_count_45 (by decide) (fun c_3 => ?_) (fun c_3 => ?_)
    · -- taken at 45: th = 0
      refine lv_iconst (v := 0) hx hb dX1_count_52 (by decide) ?_
      subst hQ9
      have e9 : fCount mo p0 (th, om, sd, po, lr, lv, d, P, V, h) = 0 := by simp only [fCount, if_neg s_1, if_pos s_2, if_pos c_3]
      rw [e9]
      exact W.iret (v := 0) hx hb hr (fun t ht hW => ⟨⟨0, (), rfl, rfl, by rw [ht]; exact hP, va_K.moved hW.alike hK, hD⟩, hS.F ht⟩) hS.2.2 dX1_count_53
    · -- not taken at 45: ¬ th = 0
      refine lv_iconst (v := 1) hx hb dX1_count_48 (by decide) ?_
      refine lv_goto (tgt := 53) hx hb dX1_count_49 (by decide) ?_
      subst hQ9
      have e9 : fCount mo p0 (th, om, sd, po, lr, lv, d, P, V, h) = 1 := by simp only [fCount, if_neg s_1, if_pos s_2, if_neg c_3]
      rw [e9]
      exact W.iret (v := 1) hx hb hr (fun t ht hW => ⟨⟨1, (), rfl, rfl, by rw [ht]; exact hP, va_K.moved hW.alike hK, hD⟩, hS.F ht⟩) hS.2.2 dX1_count_53
  by_cases s_4 : p0 = 2
  · -- case 2
    refine lv_tableIn (tgt := 54) hx hb dX1_count_1 (by rw [s_4]; decide) (by rw [s_4]; decide) (by rw [s_4]; rfl) (by decide) ?_
    refine lv_aload_n hx hb dX1_count_54 rfl (lv_at hl 0 rfl) ?_
    refine va_get (D := (dC, dI)) (ci := 2) (v := .int om) (C := RX1) (T := TX1) (N := 9) hx hb hts (by decide +kernel) hown hK hP 0 rfl rfl 3 (by decide) (hts (.fieldLink RX1 36 "RelativeFiles" "openMode" "I") (by decide +kernel)) (fun _ h9 => h9) rfl dX1_count_55 ?_
    subst hQ9
    have e9 : fCount mo p0 (th, om, sd, po, lr, lv, d, P, V, h) = om := by simp only [fCount, if_neg s_1, if_neg s_2, if_pos s_4]
    rw [e9]
    exact W.iret (v := om) hx hb hr (fun t ht hW => ⟨⟨om, (), rfl, rfl, by rw [ht]; exact hP, va_K.moved hW.alike hK, hD⟩, hS.F ht⟩) hS.2.2 dX1_count_58
  by_cases s_5 : p0 = 3
  · -- case 3
    refine lv_tableIn (tgt := 59) hx hb dX1_count_1 (by rw [s_5]; decide) (by rw [s_5]; decide) (by rw [s_5]; rfl) (by decide) ?_
    refine lv_aload_n hx hb dX1_count_59 rfl (lv_at hl 0 rfl) ?_
    refine va_get (D := (dC, dI)) (ci := 2) (v := .ref oS) (C := RX1) (T := TX1) (N := 9) hx hb hts (by decide +kernel) hown hK hP 0 rfl rfl 1 (by decide) (hts (.fieldLink RX1 28 "RelativeFiles" "shelf" "LRelativeFiles$Shelf;") (by decide +kernel)) (fun _ h9 => h9) rfl dX1_count_60 ?_
    have hPc := hP.sub (ws' := [(oS, .inr (1, [.ref oA, .ref oB, .int (nI h)])), (oA, .inl (cA, n, .inl P)), (oB, .inl (cB, n, .inr (.inl V)))]) [1, 2, 3] rfl
    have hDc := hD.sub (ws' := [(oS, .inr (1, [.ref oA, .ref oB, .int (nI h)])), (oA, .inl (cA, n, .inl P)), (oB, .inl (cB, n, .inr (.inl V)))]) [1, 2, 3] (by decide) rfl
    have hKc := hK.sub (tys' := [(cA, .int), (cB, .long)]) [0, 1] rfl
    have hFc := va_free (wc := [(oS, .inr (1, [.ref oA, .ref oB, .int (nI h)])), (oA, .inl (cA, n, .inl P)), (oB, .inl (cB, n, .inr (.inl V)))]) hD hS hA [1, 2, 3] rfl
    refine va_calli (va_runV (As := []) (rest := []) ⟨hx, hb, hml, hown, hts⟩ (kX0_greatest l dC dI oS oA oB cA cB n h P V  s.heap.size hh hn) (cwV 0 hts gX1_count_X0_greatest rfl rfl rfl (by decide +kernel) ⟨Nat.le_of_ble_eq_true rfl, Nat.le_of_ble_eq_true rfl⟩) ⟨fun a U g mk q => by obtain ⟨q0, q1, qP, qK, qD⟩ := q; exact ⟨q0, q1, qP, va_K.moved (u := U) (U := U.calling g mk a) (Vm.Alike.refl U.vm) qK, qD⟩, va_recv hKc hPc (ci := 1) (q0 := 0) rfl rfl, fun U hU hW => ⟨rfl, by rw [hU], by rw [hU]; exact hPc, va_K.moved hW.alike hKc, hDc.weaken (fun _ _ _ _ => trivial)⟩⟩ rfl rfl hl.1 rfl (lv_room (Nat.le_of_ble_eq_true rfl)) dX1_count_63 ⟨Nat.le_of_ble_eq_true rfl, Nat.le_of_ble_eq_true rfl⟩) hS (fun q _ h => hFc q h) hFc (fun r_6 u t H1 locs ht hvm hw hB hz1 hk1 hS => ?_)
    obtain ⟨hP1, hK1, hD1⟩ := hB
    rw [ht] at hP1
    have hK1 := va_K.moved hvm.symm hK1
    try dsimp only at hw
    obtain ⟨hP, hD⟩ := va_join (wr := [(oF, .inr (2, [.int mo, .ref oS, .int th, .int om, .int sd, .int po, .int lr, .long lv, .int (nI d)]))]) (w1 := [(oS, .inr (1, [.ref oA, .ref oB, .int (nI h)])), (oA, .inl (cA, n, .inl P)), (oB, .inl (cB, n, .inr (.inl V)))]) hP hD [1, 2, 3] [0] rfl rfl (by decide) (by decide) hk1 hFc hP1 hD1
    generalize H1 = H at hP hS ⊢
    have hP : va_P (dC, dI) vwCl [(oF, .inr (2, [.int mo, .ref oS, .int th, .int om, .int sd, .int po, .int lr, .long lv, .int (nI d)])), (oS, .inr (1, [.ref oA, .ref oB, .int (nI h)])), (oA, .inl (cA, n, .inl P)), (oB, .inl (cB, n, .inr (.inl V)))] H := hP.sub [0, 1, 2, 3] rfl
    have hD : va_D A [(oF, .inr (2, [.int mo, .ref oS, .int th, .int om, .int sd, .int po, .int lr, .long lv, .int (nI d)])), (oS, .inr (1, [.ref oA, .ref oB, .int (nI h)])), (oA, .inl (cA, n, .inl P)), (oB, .inl (cB, n, .inr (.inl V)))] := hD.sub [0, 1, 2, 3] (by decide) rfl
    have hK : va_K (dC, dI) vwCl [(cA, .int), (cB, .long)] s := hK
    subst hw
    subst hQ9
    have e9 : fCount mo p0 (th, om, sd, po, lr, lv, d, P, V, h) = fGr P h := by simp only [fCount, if_neg s_1, if_neg s_2, if_neg s_4, if_pos s_5]
    rw [e9]
    exact W.iret (v := fGr P h) hx hb hr (fun t ht hW => ⟨⟨fGr P h, (), rfl, rfl, by rw [ht]; exact hP, va_K.moved hW.alike hK, hD⟩, hS.F ht⟩) hS.2.2 dX1_count_66
  by_cases s_7 : p0 = 4
  · -- case 4
    refine lv_tableIn (tgt := 67) hx hb dX1_count_1 (by rw [s_7]; decide) (by rw [s_7]; decide) (by rw [s_7]; rfl) (by decide) ?_
    refine lv_aload_n hx hb dX1_count_67 rfl (lv_at hl 0 rfl) ?_
    refine va_get (D := (dC, dI)) (ci := 2) (v := .ref oS) (C := RX1) (T := TX1) (N := 9) hx hb hts (by decide +kernel) hown hK hP 0 rfl rfl 1 (by decide) (hts (.fieldLink RX1 28 "RelativeFiles" "shelf" "LRelativeFiles$Shelf;") (by decide +kernel)) (fun _ h9 => h9) rfl dX1_count_68 ?_
    have hPc := hP.sub (ws' := [(oS, .inr (1, [.ref oA, .ref oB, .int (nI h)])), (oA, .inl (cA, n, .inl P)), (oB, .inl (cB, n, .inr (.inl V)))]) [1, 2, 3] rfl
    have hDc := hD.sub (ws' := [(oS, .inr (1, [.ref oA, .ref oB, .int (nI h)])), (oA, .inl (cA, n, .inl P)), (oB, .inl (cB, n, .inr (.inl V)))]) [1, 2, 3] (by decide) rfl
    have hKc := hK.sub (tys' := [(cA, .int), (cB, .long)]) [0, 1] rfl
    have hFc := va_free (wc := [(oS, .inr (1, [.ref oA, .ref oB, .int (nI h)])), (oA, .inl (cA, n, .inl P)), (oB, .inl (cB, n, .inr (.inl V)))]) hD hS hA [1, 2, 3] rfl
    refine va_calli (va_runV (As := []) (rest := []) ⟨hx, hb, hml, hown, hts⟩ (kX0_least l dC dI oS oA oB cA cB n h P V  s.heap.size hh hn) (cwV 0 hts gX1_count_X0_least rfl rfl rfl (by decide +kernel) ⟨Nat.le_of_ble_eq_true rfl, Nat.le_of_ble_eq_true rfl⟩) ⟨fun a U g mk q => by obtain ⟨q0, q1, qP, qK, qD⟩ := q; exact ⟨q0, q1, qP, va_K.moved (u := U) (U := U.calling g mk a) (Vm.Alike.refl U.vm) qK, qD⟩, va_recv hKc hPc (ci := 1) (q0 := 0) rfl rfl, fun U hU hW => ⟨rfl, by rw [hU], by rw [hU]; exact hPc, va_K.moved hW.alike hKc, hDc.weaken (fun _ _ _ _ => trivial)⟩⟩ rfl rfl hl.1 rfl (lv_room (Nat.le_of_ble_eq_true rfl)) dX1_count_71 ⟨Nat.le_of_ble_eq_true rfl, Nat.le_of_ble_eq_true rfl⟩) hS (fun q _ h => hFc q h) hFc (fun r_8 u t H1 locs ht hvm hw hB hz1 hk1 hS => ?_)
    obtain ⟨hP1, hK1, hD1⟩ := hB
    rw [ht] at hP1
    have hK1 := va_K.moved hvm.symm hK1
    try dsimp only at hw
    obtain ⟨hP, hD⟩ := va_join (wr := [(oF, .inr (2, [.int mo, .ref oS, .int th, .int om, .int sd, .int po, .int lr, .long lv, .int (nI d)]))]) (w1 := [(oS, .inr (1, [.ref oA, .ref oB, .int (nI h)])), (oA, .inl (cA, n, .inl P)), (oB, .inl (cB, n, .inr (.inl V)))]) hP hD [1, 2, 3] [0] rfl rfl (by decide) (by decide) hk1 hFc hP1 hD1
    generalize H1 = H at hP hS ⊢
    have hP : va_P (dC, dI) vwCl [(oF, .inr (2, [.int mo, .ref oS, .int th, .int om, .int sd, .int po, .int lr, .long lv, .int (nI d)])), (oS, .inr (1, [.ref oA, .ref oB, .int (nI h)])), (oA, .inl (cA, n, .inl P)), (oB, .inl (cB, n, .inr (.inl V)))] H := hP.sub [0, 1, 2, 3] rfl
    have hD : va_D A [(oF, .inr (2, [.int mo, .ref oS, .int th, .int om, .int sd, .int po, .int lr, .long lv, .int (nI d)])), (oS, .inr (1, [.ref oA, .ref oB, .int (nI h)])), (oA, .inl (cA, n, .inl P)), (oB, .inl (cB, n, .inr (.inl V)))] := hD.sub [0, 1, 2, 3] (by decide) rfl
    have hK : va_K (dC, dI) vwCl [(cA, .int), (cB, .long)] s := hK
    subst hw
    subst hQ9
    have e9 : fCount mo p0 (th, om, sd, po, lr, lv, d, P, V, h) = fLe P h := by simp only [fCount, if_neg s_1, if_neg s_2, if_neg s_4, if_neg s_5, if_pos s_7]
    rw [e9]
    exact W.iret (v := fLe P h) hx hb hr (fun t ht hW => ⟨⟨fLe P h, (), rfl, rfl, by rw [ht]; exact hP, va_K.moved hW.alike hK, hD⟩, hS.F ht⟩) hS.2.2 dX1_count_74
  refine lv_tableOut (tgt := 75) hx hb dX1_count_1 (sw_out4 s_1 s_2 s_4 s_5 s_7) (by decide) ?_
  refine lv_iconst (v := (-1)) hx hb dX1_count_75 (by decide) ?_
  subst hQ9
  have e9 : fCount mo p0 (th, om, sd, po, lr, lv, d, P, V, h) = (-1) := by simp only [fCount, if_neg s_1, if_neg s_2, if_neg s_4, if_neg s_5, if_neg s_7]
  rw [e9]
  exact W.iret (v := (-1)) hx hb hr (fun t ht hW => ⟨⟨(-1), (), rfl, rfl, by rw [ht]; exact hP, va_K.moved hW.alike hK, hD⟩, hS.F ht⟩) hS.2.2 dX1_count_76

set_option maxHeartbeats 1000000 in
set_option maxRecDepth 100000 in
theorem kX1_cell (l : Launch) (dC : Nat → ClassId) (dI : Nat → Nat → Nat) (oF oS oA oB : Nat) (cA cB : ClassId) (n h d : Nat) (mo th om sd po lr : Int32) (lv : Int64) (P : Nat → Int32) (V : Nat → Int64) (p0 : Int32) (sz : Nat) (hh : h ≤ n) (hn : n ≤ 512) (hpl : isPl mo p0) : Met l yX1_cell wsX1_cell ({ frames := 2, cells := 0, slots := 0, locals := 44 }) (va_Pc [.ref oF, .int p0] (fun U => U.heap.size = sz ∧ va_P (dC, dI) vwCl [(oF, .inr (2, [.int mo, .ref oS, .int th, .int om, .int sd, .int po, .int lr, .long lv, .int (nI d)])), (oS, .inr (1, [.ref oA, .ref oB, .int (nI h)])), (oA, .inl (cA, n, .inl P)), (oB, .inl (cB, n, .inr (.inl V)))] U.heap ∧ va_K (dC, dI) vwCl [(cA, .int), (cB, .long)] U ∧ va_D (fun _ => True) [(oF, .inr (2, [.int mo, .ref oS, .int th, .int om, .int sd, .int po, .int lr, .long lv, .int (nI d)])), (oS, .inr (1, [.ref oA, .ref oB, .int (nI h)])), (oA, .inl (cA, n, .inl P)), (oB, .inl (cB, n, .inr (.inl V)))])) (va_Ql (fun (r : Int64) (_ : Unit) => r = fRec P V h p0) (fun (_ : Unit) (t : State) => va_P (dC, dI) vwCl [(oF, .inr (2, [.int mo, .ref oS, .int th, .int om, .int sd, .int po, .int lr, .long lv, .int (nI d)])), (oS, .inr (1, [.ref oA, .ref oB, .int (nI h)])), (oA, .inl (cA, n, .inl P)), (oB, .inl (cB, n, .inr (.inl V)))] t.heap ∧ va_K (dC, dI) vwCl [(cA, .int), (cB, .long)] t ∧ va_D (va_A [(oF, .inr (2, [.int mo, .ref oS, .int th, .int om, .int sd, .int po, .int lr, .long lv, .int (nI d)])), (oS, .inr (1, [.ref oA, .ref oB, .int (nI h)])), (oA, .inl (cA, n, .inl P)), (oB, .inl (cB, n, .inr (.inl V)))] sz) [(oF, .inr (2, [.int mo, .ref oS, .int th, .int om, .int sd, .int po, .int lr, .long lv, .int (nI d)])), (oS, .inr (1, [.ref oA, .ref oB, .int (nI h)])), (oA, .inl (cA, n, .inl P)), (oB, .inl (cB, n, .inr (.inl V)))]) (va_A [(oF, .inr (2, [.int mo, .ref oS, .int th, .int om, .int sd, .int po, .int lr, .long lv, .int (nI d)])), (oS, .inr (1, [.ref oA, .ref oB, .int (nI h)])), (oA, .inl (cA, n, .inl P)), (oB, .inl (cB, n, .inr (.inl V)))] sz)) 0 0 (va_A [(oF, .inr (2, [.int mo, .ref oS, .int th, .int om, .int sd, .int po, .int lr, .long lv, .int (nI d)])), (oS, .inr (1, [.ref oA, .ref oB, .int (nI h)])), (oA, .inl (cA, n, .inl P)), (oB, .inl (cB, n, .inr (.inl V)))] sz) := by
  refine Met.ofW (cc := cX1_cell) (maxL := 2) (ret := (some .long)) (by decide) rfl ?_
  intro p e s m args below meth c s₁ B hml hv
  obtain ⟨rfl, hsz, hP, hK, hD0⟩ := hv
  have hx := B.exec
  have hb := B.bytes
  have hr := B.returns
  have hts := atoms_spec (ws := wsX1_cell) B.pre
  have hown : s.vm.findClass RX1 = some m.cls := findClass_of_methodNamed B.named
  have hlocks := B.notSynchronized
  subst hsz
  have hD := hD0.self (sz := s.heap.size)
  generalize hAe : va_A [(oF, .inr (2, [.int mo, .ref oS, .int th, .int om, .int sd, .int po, .int lr, .long lv, .int (nI d)])), (oS, .inr (1, [.ref oA, .ref oB, .int (nI h)])), (oA, .inl (cA, n, .inl P)), (oB, .inl (cB, n, .inr (.inl V)))] s.heap.size = A at hD ⊢
  have hA : ∀ q : Nat, s.heap.size ≤ q → A q := fun q h => by rw [← hAe]; exact Or.inr h
  have hS : va_S A s.heap s.heap [] := va_S.rf
  have hP : va_P (dC, dI) vwCl [(oF, .inr (2, [.int mo, .ref oS, .int th, .int om, .int sd, .int po, .int lr, .long lv, .int (nI d)])), (oS, .inr (1, [.ref oA, .ref oB, .int (nI h)])), (oA, .inl (cA, n, .inl P)), (oB, .inl (cB, n, .inr (.inl V)))] s.heap := hP
  have hl := lv_entry ([.ref oF, .int p0]) (n := 2) (Nat.le_of_ble_eq_true rfl)
  rw [lg_entry_eq]
  generalize (lg_sl ([.ref oF, .int p0]) ++ List.replicate (2 - (lg_sl ([.ref oF, .int p0])).length) Slot.unset).toArray = ls at hl ⊢
  have hl : lv_has ls 2 [(0, .ref oF), (1, .int p0)] := hl
  refine W_name (fun Q hQ9 => ?_)
  refine lv_aload_n hx hb dX1_cell_0 rfl (lv_at hl 0 rfl) ?_
  refine lv_iload_n hx hb dX1_cell_1 rfl (lv_at hl 1 rfl) ?_
  have hPc := hP.sub (ws' := [(oF, .inr (2, [.int mo, .ref oS, .int th, .int om, .int sd, .int po, .int lr, .long lv, .int (nI d)])), (oS, .inr (1, [.ref oA, .ref oB, .int (nI h)])), (oA, .inl (cA, n, .inl P)), (oB, .inl (cB, n, .inr (.inl V)))]) [0, 1, 2, 3] rfl
  have hDc := hD.sub (ws' := [(oF, .inr (2, [.int mo, .ref oS, .int th, .int om, .int sd, .int po, .int lr, .long lv, .int (nI d)])), (oS, .inr (1, [.ref oA, .ref oB, .int (nI h)])), (oA, .inl (cA, n, .inl P)), (oB, .inl (cB, n, .inr (.inl V)))]) [0, 1, 2, 3] (by decide) rfl
  have hKc := hK.sub (tys' := [(cA, .int), (cB, .long)]) [0, 1] rfl
  have hFc := va_free (wc := [(oF, .inr (2, [.int mo, .ref oS, .int th, .int om, .int sd, .int po, .int lr, .long lv, .int (nI d)])), (oS, .inr (1, [.ref oA, .ref oB, .int (nI h)])), (oA, .inl (cA, n, .inl P)), (oB, .inl (cB, n, .inr (.inl V)))]) hD hS hA [0, 1, 2, 3] rfl
  refine va_calli (va_runV (As := [.int p0]) (rest := []) ⟨hx, hb, hml, hown, hts⟩ (kX1_isPlace l dC dI oF oS oA oB cA cB n h d mo th om sd po lr lv P V p0 s.heap.size hh hn) (cwV 1 hts gX1_cell_X1_isPlace rfl rfl rfl (by decide +kernel) ⟨Nat.le_of_ble_eq_true rfl, Nat.le_of_ble_eq_true rfl⟩) ⟨fun a U g mk q => by obtain ⟨q0, q1, qP, qK, qD⟩ := q; exact ⟨q0, q1, qP, va_K.moved (u := U) (U := U.calling g mk a) (Vm.Alike.refl U.vm) qK, qD⟩, va_recv hKc hPc (ci := 2) (q0 := 0) rfl rfl, fun U hU hW => ⟨rfl, by rw [hU], by rw [hU]; exact hPc, va_K.moved hW.alike hKc, hDc.weaken (fun _ _ _ _ => trivial)⟩⟩ rfl rfl hl.1 rfl (lv_room (Nat.le_of_ble_eq_true rfl)) dX1_cell_2 ⟨Nat.le_of_ble_eq_true rfl, Nat.le_of_ble_eq_true rfl⟩) hS (fun q _ h => hFc q h) hFc (fun r_1 u t H1 locs ht hvm hw hB hz1 hk1 hS => ?_)
  obtain ⟨hP1, hK1, hD1⟩ := hB
  rw [ht] at hP1
  have hK1 := va_K.moved hvm.symm hK1
  try dsimp only at hw
  obtain ⟨hP, hD⟩ := va_join (wr := []) (w1 := [(oF, .inr (2, [.int mo, .ref oS, .int th, .int om, .int sd, .int po, .int lr, .long lv, .int (nI d)])), (oS, .inr (1, [.ref oA, .ref oB, .int (nI h)])), (oA, .inl (cA, n, .inl P)), (oB, .inl (cB, n, .inr (.inl V)))]) hP hD [0, 1, 2, 3] [] rfl rfl (by decide) (by decide) hk1 hFc hP1 hD1
  generalize H1 = H at hP hS ⊢
  have hP : va_P (dC, dI) vwCl [(oF, .inr (2, [.int mo, .ref oS, .int th, .int om, .int sd, .int po, .int lr, .long lv, .int (nI d)])), (oS, .inr (1, [.ref oA, .ref oB, .int (nI h)])), (oA, .inl (cA, n, .inl P)), (oB, .inl (cB, n, .inr (.inl V)))] H := hP.sub [0, 1, 2, 3] rfl
  have hD : va_D A [(oF, .inr (2, [.int mo, .ref oS, .int th, .int om, .int sd, .int po, .int lr, .long lv, .int (nI d)])), (oS, .inr (1, [.ref oA, .ref oB, .int (nI h)])), (oA, .inl (cA, n, .inl P)), (oB, .inl (cB, n, .inr (.inl V)))] := hD.sub [0, 1, 2, 3] (by decide) rfl
  have hK : va_K (dC, dI) vwCl [(cA, .int), (cB, .long)] s := hK
  rcases hw with ⟨b_2, hw⟩ | ⟨b_2, hw⟩
  · -- isPl mo p0
    subst hw
    refine lv_if_ne (tgt := 18) hx hb dX1_cell_5 (by decide) (fun c_3 => ?_) (fun c_3 => ?_)
    · -- taken at 5: ¬ 1 = 0
      refine lv_aload_n hx hb dX1_cell_18 rfl (lv_at hl 0 rfl) ?_
      refine va_get (D := (dC, dI)) (ci := 2) (v := .ref oS) (C := RX1) (T := TX1) (N := 9) hx hb hts (by decide +kernel) hown hK hP 0 rfl rfl 1 (by decide) (hts (.fieldLink RX1 28 "RelativeFiles" "shelf" "LRelativeFiles$Shelf;") (by decide +kernel)) (fun _ h9 => h9) rfl dX1_cell_19 ?_
      refine lv_iload_n hx hb dX1_cell_22 rfl (lv_at hl 1 rfl) ?_
      have hPc := hP.sub (ws' := [(oS, .inr (1, [.ref oA, .ref oB, .int (nI h)])), (oA, .inl (cA, n, .inl P)), (oB, .inl (cB, n, .inr (.inl V)))]) [1, 2, 3] rfl
      have hDc := hD.sub (ws' := [(oS, .inr (1, [.ref oA, .ref oB, .int (nI h)])), (oA, .inl (cA, n, .inl P)), (oB, .inl (cB, n, .inr (.inl V)))]) [1, 2, 3] (by decide) rfl
      have hKc := hK.sub (tys' := [(cA, .int), (cB, .long)]) [0, 1] rfl
      have hFc := va_free (wc := [(oS, .inr (1, [.ref oA, .ref oB, .int (nI h)])), (oA, .inl (cA, n, .inl P)), (oB, .inl (cB, n, .inr (.inl V)))]) hD hS hA [1, 2, 3] rfl
      refine va_calll (va_runV (As := [.int p0]) (rest := []) ⟨hx, hb, hml, hown, hts⟩ (kX0_recordOf l dC dI oS oA oB cA cB n h P V p0 H.size hh hn) (cwV 1 hts gX1_cell_X0_recordOf rfl rfl rfl (by decide +kernel) ⟨Nat.le_of_ble_eq_true rfl, Nat.le_of_ble_eq_true rfl⟩) ⟨fun a U g mk q => by obtain ⟨q0, q1, qP, qK, qD⟩ := q; exact ⟨q0, q1, qP, va_K.moved (u := U) (U := U.calling g mk a) (Vm.Alike.refl U.vm) qK, qD⟩, va_recv hKc hPc (ci := 1) (q0 := 0) rfl rfl, fun U hU hW => ⟨rfl, by rw [hU], by rw [hU]; exact hPc, va_K.moved hW.alike hKc, hDc.weaken (fun _ _ _ _ => trivial)⟩⟩ rfl rfl hl.1 rfl (lv_room (Nat.le_of_ble_eq_true rfl)) dX1_cell_23 ⟨Nat.le_of_ble_eq_true rfl, Nat.le_of_ble_eq_true rfl⟩) hS (fun q _ h => hFc q h) hFc (fun r_4 u t H1 locs ht hvm hw hB hz1 hk1 hS => ?_)
      obtain ⟨hP1, hK1, hD1⟩ := hB
      rw [ht] at hP1
      have hK1 := va_K.moved hvm.symm hK1
      try dsimp only at hw
      obtain ⟨hP, hD⟩ := va_join (wr := [(oF, .inr (2, [.int mo, .ref oS, .int th, .int om, .int sd, .int po, .int lr, .long lv, .int (nI d)]))]) (w1 := [(oS, .inr (1, [.ref oA, .ref oB, .int (nI h)])), (oA, .inl (cA, n, .inl P)), (oB, .inl (cB, n, .inr (.inl V)))]) hP hD [1, 2, 3] [0] rfl rfl (by decide) (by decide) hk1 hFc hP1 hD1
      generalize H1 = H at hP hS ⊢
      have hP : va_P (dC, dI) vwCl [(oF, .inr (2, [.int mo, .ref oS, .int th, .int om, .int sd, .int po, .int lr, .long lv, .int (nI d)])), (oS, .inr (1, [.ref oA, .ref oB, .int (nI h)])), (oA, .inl (cA, n, .inl P)), (oB, .inl (cB, n, .inr (.inl V)))] H := hP.sub [0, 1, 2, 3] rfl
      have hD : va_D A [(oF, .inr (2, [.int mo, .ref oS, .int th, .int om, .int sd, .int po, .int lr, .long lv, .int (nI d)])), (oS, .inr (1, [.ref oA, .ref oB, .int (nI h)])), (oA, .inl (cA, n, .inl P)), (oB, .inl (cB, n, .inr (.inl V)))] := hD.sub [0, 1, 2, 3] (by decide) rfl
      have hK : va_K (dC, dI) vwCl [(cA, .int), (cB, .long)] s := hK
      subst hw
      subst hQ9
      exact W.lret (v := fRec P V h p0) hx hb hr (fun t ht hW => ⟨⟨fRec P V h p0, (), rfl, rfl, by rw [ht]; exact hP, va_K.moved hW.alike hK, hD⟩, hS.F ht⟩) hS.2.2 dX1_cell_26
    · -- not taken at 5: 1 = 0
      exact absurd c_3 (by decide)
  · -- ¬ (isPl mo p0)
    subst hw
    exact absurd hpl b_2

set_option maxHeartbeats 1000000 in
set_option maxRecDepth 100000 in
theorem kX1_init (l : Launch) (dC : Nat → ClassId) (dI : Nat → Nat → Nat) (oF : Nat) (p0 : Int32) (sz : Nat) : Met l yX1_init wsX1_init ({ frames := 2, cells := 3, slots := 1027, locals := 60 }) (va_Pc [.ref oF, .int p0] (fun U => U.heap.size = sz ∧ va_P (dC, dI) vwCl [(oF, .inr (2, [.int 0, .null, .int 0, .int 0, .int 0, .int 0, .int 0, .long 0, .int 0]))] U.heap ∧ va_K (dC, dI) vwCl [] U ∧ va_D (fun _ => True) [(oF, .inr (2, [.int 0, .null, .int 0, .int 0, .int 0, .int 0, .int 0, .long 0, .int 0]))])) (va_Qv (fun (_ : Unit) => True) (fun (_ : Unit) (t : State) => ∃ (oS oA oB : Nat) (cA cB : ClassId), va_P (dC, dI) vwCl (wF oF oS oA oB cA cB (min (cM p0) 512) (nI (cM p0)) (0, -1, 0, 0, 0, 0, 9, (fun _ => 0), (fun _ => 0), 0)) t.heap ∧ va_K (dC, dI) vwCl [(cA, .int), (cB, .long)] t ∧ va_D (va_A [(oF, .inr (2, [.int 0, .null, .int 0, .int 0, .int 0, .int 0, .int 0, .long 0, .int 0]))] sz) (wF oF oS oA oB cA cB (min (cM p0) 512) (nI (cM p0)) (0, -1, 0, 0, 0, 0, 9, (fun _ => 0), (fun _ => 0), 0))) (va_A [(oF, .inr (2, [.int 0, .null, .int 0, .int 0, .int 0, .int 0, .int 0, .long 0, .int 0]))] sz)) 3 1027 (va_A [(oF, .inr (2, [.int 0, .null, .int 0, .int 0, .int 0, .int 0, .int 0, .long 0, .int 0]))] sz) := by
  refine Met.ofW (cc := cX1_init) (maxL := 2) (ret := none) (by decide) rfl ?_
  intro p e s m args below meth c s₁ B hml hv
  obtain ⟨rfl, hsz, hP, hK, hD0⟩ := hv
  have hx := B.exec
  have hb := B.bytes
  have hr := B.returns
  have hts := atoms_spec (ws := wsX1_init) B.pre
  have hown : s.vm.findClass RX1 = some m.cls := findClass_of_methodNamed B.named
  have hlocks := B.notSynchronized
  have hin : meth.name = "<init>" := (name_of_methodNamed B.named B.method).1
  subst hsz
  have hD := hD0.self (sz := s.heap.size)
  generalize hAe : va_A [(oF, .inr (2, [.int 0, .null, .int 0, .int 0, .int 0, .int 0, .int 0, .long 0, .int 0]))] s.heap.size = A at hD ⊢
  have hA : ∀ q : Nat, s.heap.size ≤ q → A q := fun q h => by rw [← hAe]; exact Or.inr h
  have hS : va_S A s.heap s.heap [] := va_S.rf
  have hP : va_P (dC, dI) vwCl [(oF, .inr (2, [.int 0, .null, .int 0, .int 0, .int 0, .int 0, .int 0, .long 0, .int 0]))] s.heap := hP
  have hl := lv_entry ([.ref oF, .int p0]) (n := 2) (Nat.le_of_ble_eq_true rfl)
  rw [lg_entry_eq]
  generalize (lg_sl ([.ref oF, .int p0]) ++ List.replicate (2 - (lg_sl ([.ref oF, .int p0])).length) Slot.unset).toArray = ls at hl ⊢
  have hl : lv_has ls 2 [(0, .ref oF), (1, .int p0)] := hl
  refine W_name (fun Q hQ9 => ?_)
  refine lv_aload_n hx hb dX1_init_0 rfl (lv_at hl 0 rfl) ?_
  refine W.objInit hx hb hown (hts (.methodLink RX1 1 objectInit) (by decide +kernel)) (hts (.instanceMethod objectInit) (by decide +kernel)) (hts (.code objectInit ⟨#[0xb1]⟩ 1 none) (by decide +kernel)) rfl (by rw [hml]; exact hl.1) rfl dX1_init_1 (Nat.le_of_ble_eq_true rfl) (Nat.le_of_ble_eq_true rfl) ?_
  refine W.eq (g2 := F0 m 4 ls []) rfl ?_
  refine lv_aload_n hx hb dX1_init_4 rfl (lv_at hl 0 rfl) ?_
  refine lv_iconst (v := 0) hx hb dX1_init_5 (by decide) ?_
  refine lv_iload_n hx hb dX1_init_6 rfl (lv_at hl 1 rfl) ?_
  refine lv_ldc (v := 65536) hx hb hown (hts (.constant RX1 9 65536) (by decide +kernel)) dX1_init_7 ?_
  refine va_mmin hx hb (by rw [hml]; exact hl.1.symm) hown (hts (.methodLink RX1 10 Lib.Math.min.name) (by decide +kernel)) (hts (.static Lib.Math.min.name) (by decide +kernel)) (hts (.initialized "java/lang/Math") (by decide +kernel)) (hts (.code Lib.Math.min.name Lib.Math.min.code 2 (some .int)) (by decide +kernel)) (Nat.le_of_ble_eq_true rfl) (Nat.le_of_ble_eq_true rfl) (Nat.le_of_ble_eq_true rfl) (Nat.le_of_ble_eq_true rfl) dX1_init_9 ?_
  refine va_mmax hx hb (by rw [hml]; exact hl.1.symm) hown (hts (.methodLink RX1 16 Lib.Math.max.name) (by decide +kernel)) (hts (.static Lib.Math.max.name) (by decide +kernel)) (hts (.initialized "java/lang/Math") (by decide +kernel)) (hts (.code Lib.Math.max.name Lib.Math.max.code 2 (some .int)) (by decide +kernel)) (Nat.le_of_ble_eq_true rfl) (Nat.le_of_ble_eq_true rfl) (Nat.le_of_ble_eq_true rfl) (Nat.le_of_ble_eq_true rfl) dX1_init_12 ?_
  rw [show (if 0 < if 65536 < p0 then 65536 else p0 then if 65536 < p0 then 65536 else p0 else 0 : Int32) = nI (cM p0) from cM_cls p0]
  refine va_putF (D := (dC, dI)) (ci := 2) (v := .int (nI (cM p0))) (ty := .int) (C := RX1) (T := TX1) (N := 9) hx hb hts (by decide +kernel) tyX1 tyX1_ok nmX1 hown hK hP hD hS 0 rfl rfl 0 (by decide) (hts (.fieldLink RX1 19 "RelativeFiles" "most" "I") (by decide +kernel)) (fun _ h9 => h9) rfl hin rfl (by decide +kernel) rfl rfl (Nat.le_of_ble_eq_true rfl) dX1_init_15 (fun H locs hP hD hS => ?_)
  have hP : va_P (dC, dI) vwCl [(oF, .inr (2, [.int (nI (cM p0)), .null, .int 0, .int 0, .int 0, .int 0, .int 0, .long 0, .int 0]))] H := hP
  have hD : va_D A [(oF, .inr (2, [.int (nI (cM p0)), .null, .int 0, .int 0, .int 0, .int 0, .int 0, .long 0, .int 0]))] := hD
  refine lv_aload_n hx hb dX1_init_18 rfl (lv_at hl 0 rfl) ?_
  refine va_new (ci := 1) (fs := [.null, .null, .int 0]) (C := RX0) (T := TX0) (N := 3) hx hb hts (by decide +kernel) tyX0 tyX0_ok hown (hts (.classLink RX1 23 RX0) (by decide +kernel)) (hts (.instantiable RX0 3) (by decide +kernel)) (hts (.initialized RX0) (by decide +kernel)) hK hP hD hS hA rfl (fun j hj => by rcases (show j = 0 ∨ j = 1 ∨ j = 2 by omega) with rfl | rfl | rfl <;> rfl) (show 0 + 1 ≤ 3 by omega) (show 0 + 3 ≤ 1027 by omega) dX1_init_19 (fun q_1 H hP hD hS => ?_)
  have hP : va_P (dC, dI) vwCl [(oF, .inr (2, [.int (nI (cM p0)), .null, .int 0, .int 0, .int 0, .int 0, .int 0, .long 0, .int 0])), (q_1, .inr (1, [.null, .null, .int 0]))] H := hP
  have hD : va_D A [(oF, .inr (2, [.int (nI (cM p0)), .null, .int 0, .int 0, .int 0, .int 0, .int 0, .long 0, .int 0])), (q_1, .inr (1, [.null, .null, .int 0]))] := hD
  refine lv_dup hx hb dX1_init_22 rfl ?_
  refine lv_aload_n hx hb dX1_init_23 rfl (lv_at hl 0 rfl) ?_
  refine va_get (D := (dC, dI)) (ci := 2) (v := .int (nI (cM p0))) (C := RX1) (T := TX1) (N := 9) hx hb hts (by decide +kernel) hown hK hP 0 rfl rfl 0 (by decide) (hts (.fieldLink RX1 19 "RelativeFiles" "most" "I") (by decide +kernel)) (fun _ h9 => h9) rfl dX1_init_24 ?_
  refine lv_sipush (v := 512) hx hb dX1_init_27 (by decide) ?_
  refine va_mmin hx hb (by rw [hml]; exact hl.1.symm) hown (hts (.methodLink RX1 10 Lib.Math.min.name) (by decide +kernel)) (hts (.static Lib.Math.min.name) (by decide +kernel)) (hts (.initialized "java/lang/Math") (by decide +kernel)) (hts (.code Lib.Math.min.name Lib.Math.min.code 2 (some .int)) (by decide +kernel)) (Nat.le_of_ble_eq_true rfl) (Nat.le_of_ble_eq_true rfl) (Nat.le_of_ble_eq_true rfl) (Nat.le_of_ble_eq_true rfl) dX1_init_30 ?_
  rw [show (if 512 < nI (cM p0) then 512 else nI (cM p0) : Int32) = nI (min (cM p0) 512) from nI_min (cM p0) 512 (by have := cM_le p0; omega) (by decide)]
  have hPc := hP.sub (ws' := [(q_1, .inr (1, [.null, .null, .int 0]))]) [1] rfl
  have hDc := hD.sub (ws' := [(q_1, .inr (1, [.null, .null, .int 0]))]) [1] (by decide) rfl
  have hKc := hK.sub (tys' := []) [] rfl
  have hFc := va_free (wc := [(q_1, .inr (1, [.null, .null, .int 0]))]) hD hS hA [1] rfl
  refine va_callv (va_runI (As := [.int (nI (min (cM p0) 512))]) (rest := [.ref q_1, .ref oF]) ⟨hx, hb, hml, hown, hts⟩ (kX0_init l dC dI q_1 (min (cM p0) 512) H.size (by omega)) (cwI 1 hts gX1_init_X0_init rfl rfl rfl (hts (.initialized RX0) (by decide +kernel)) (hts (.methodLink RX1 25 yX0_init) (by decide +kernel)) (hts (.instanceMethod yX0_init) (by decide +kernel)) rfl (by decide +kernel) ⟨Nat.le_of_ble_eq_true rfl, Nat.le_of_ble_eq_true rfl⟩) ⟨fun a U g mk q => by obtain ⟨q0, q1, qP, qK, qD⟩ := q; exact ⟨q0, q1, qP, va_K.moved (u := U) (U := U.calling g mk a) (Vm.Alike.refl U.vm) qK, qD⟩, fun U hU hW => ⟨rfl, by rw [hU], by rw [hU]; exact hPc, va_K.moved hW.alike hKc, hDc.weaken (fun _ _ _ _ => trivial)⟩⟩ rfl rfl hl.1 rfl (lv_room (Nat.le_of_ble_eq_true rfl)) dX1_init_33 ⟨Nat.le_of_ble_eq_true rfl, Nat.le_of_ble_eq_true rfl⟩) hS (fun q _ h => hFc q h) hFc (fun u t H1 locs ht hvm hw hB hz1 hk1 hS => ?_)
  obtain ⟨oA_2, oB_3, cA_4, cB_5, hP1, hK1, hD1⟩ := hB
  rw [ht] at hP1
  have hK1 := va_K.moved hvm.symm hK1
  try dsimp only at hw
  obtain ⟨hP, hD⟩ := va_join (wr := [(oF, .inr (2, [.int (nI (cM p0)), .null, .int 0, .int 0, .int 0, .int 0, .int 0, .long 0, .int 0]))]) (w1 := [(q_1, .inr (1, [.ref oA_2, .ref oB_3, .int (nI 0)])), (oA_2, .inl (cA_4, (min (cM p0) 512), .inl (fun _ => 0))), (oB_3, .inl (cB_5, (min (cM p0) 512), .inr (.inl (fun _ => 0))))]) hP hD [1] [0] rfl rfl (by decide) (by decide) hk1 hFc hP1 hD1
  have hK := hK.app hK1
  generalize H1 = H at hP hS ⊢
  have hP : va_P (dC, dI) vwCl [(oF, .inr (2, [.int (nI (cM p0)), .null, .int 0, .int 0, .int 0, .int 0, .int 0, .long 0, .int 0])), (q_1, .inr (1, [.ref oA_2, .ref oB_3, .int (nI 0)])), (oA_2, .inl (cA_4, (min (cM p0) 512), .inl (fun _ => 0))), (oB_3, .inl (cB_5, (min (cM p0) 512), .inr (.inl (fun _ => 0))))] H := hP.sub [0, 1, 2, 3] rfl
  have hD : va_D A [(oF, .inr (2, [.int (nI (cM p0)), .null, .int 0, .int 0, .int 0, .int 0, .int 0, .long 0, .int 0])), (q_1, .inr (1, [.ref oA_2, .ref oB_3, .int (nI 0)])), (oA_2, .inl (cA_4, (min (cM p0) 512), .inl (fun _ => 0))), (oB_3, .inl (cB_5, (min (cM p0) 512), .inr (.inl (fun _ => 0))))] := hD.sub [0, 1, 2, 3] (by decide) rfl
  have hK : va_K (dC, dI) vwCl [(cA_4, .int), (cB_5, .long)] s := hK
  refine va_putF (D := (dC, dI)) (ci := 2) (v := .ref q_1) (ty := (.object "RelativeFiles$Shelf")) (C := RX1) (T := TX1) (N := 9) hx hb hts (by decide +kernel) tyX1 tyX1_ok nmX1 hown hK hP hD hS 0 rfl rfl 1 (by decide) (hts (.fieldLink RX1 28 "RelativeFiles" "shelf" "LRelativeFiles$Shelf;") (by decide +kernel)) (fun _ h9 => h9) rfl hin rfl (by decide +kernel) rfl rfl (Nat.le_of_ble_eq_true rfl) dX1_init_36 (fun H locs hP hD hS => ?_)
  have hP : va_P (dC, dI) vwCl [(oF, .inr (2, [.int (nI (cM p0)), .ref q_1, .int 0, .int 0, .int 0, .int 0, .int 0, .long 0, .int 0])), (q_1, .inr (1, [.ref oA_2, .ref oB_3, .int (nI 0)])), (oA_2, .inl (cA_4, (min (cM p0) 512), .inl (fun _ => 0))), (oB_3, .inl (cB_5, (min (cM p0) 512), .inr (.inl (fun _ => 0))))] H := hP
  have hD : va_D A [(oF, .inr (2, [.int (nI (cM p0)), .ref q_1, .int 0, .int 0, .int 0, .int 0, .int 0, .long 0, .int 0])), (q_1, .inr (1, [.ref oA_2, .ref oB_3, .int (nI 0)])), (oA_2, .inl (cA_4, (min (cM p0) 512), .inl (fun _ => 0))), (oB_3, .inl (cB_5, (min (cM p0) 512), .inr (.inl (fun _ => 0))))] := hD
  refine lv_aload_n hx hb dX1_init_39 rfl (lv_at hl 0 rfl) ?_
  refine lv_iconst (v := 0) hx hb dX1_init_40 (by decide) ?_
  refine va_put (D := (dC, dI)) (ci := 2) (v := .int 0) (ty := .boolean) (C := RX1) (T := TX1) (N := 9) hx hb hts (by decide +kernel) tyX1 tyX1_ok nmX1 hown hK hP hD hS 0 rfl rfl 2 (by decide) (hts (.fieldLink RX1 32 "RelativeFiles" "there" "Z") (by decide +kernel)) (fun _ h9 => h9) rfl (by decide +kernel) (by decide) (by decide) (Nat.le_of_ble_eq_true rfl) dX1_init_41 (fun H locs hP hD hS => ?_)
  have hP : va_P (dC, dI) vwCl [(oF, .inr (2, [.int (nI (cM p0)), .ref q_1, .int 0, .int 0, .int 0, .int 0, .int 0, .long 0, .int 0])), (q_1, .inr (1, [.ref oA_2, .ref oB_3, .int (nI 0)])), (oA_2, .inl (cA_4, (min (cM p0) 512), .inl (fun _ => 0))), (oB_3, .inl (cB_5, (min (cM p0) 512), .inr (.inl (fun _ => 0))))] H := hP
  have hD : va_D A [(oF, .inr (2, [.int (nI (cM p0)), .ref q_1, .int 0, .int 0, .int 0, .int 0, .int 0, .long 0, .int 0])), (q_1, .inr (1, [.ref oA_2, .ref oB_3, .int (nI 0)])), (oA_2, .inl (cA_4, (min (cM p0) 512), .inl (fun _ => 0))), (oB_3, .inl (cB_5, (min (cM p0) 512), .inr (.inl (fun _ => 0))))] := hD
  refine lv_aload_n hx hb dX1_init_44 rfl (lv_at hl 0 rfl) ?_
  refine lv_iconst (v := (-1)) hx hb dX1_init_45 (by decide) ?_
  refine va_put (D := (dC, dI)) (ci := 2) (v := .int (-1)) (ty := .int) (C := RX1) (T := TX1) (N := 9) hx hb hts (by decide +kernel) tyX1 tyX1_ok nmX1 hown hK hP hD hS 0 rfl rfl 3 (by decide) (hts (.fieldLink RX1 36 "RelativeFiles" "openMode" "I") (by decide +kernel)) (fun _ h9 => h9) rfl (by decide +kernel) rfl rfl (Nat.le_of_ble_eq_true rfl) dX1_init_46 (fun H locs hP hD hS => ?_)
  have hP : va_P (dC, dI) vwCl [(oF, .inr (2, [.int (nI (cM p0)), .ref q_1, .int 0, .int (-1), .int 0, .int 0, .int 0, .long 0, .int 0])), (q_1, .inr (1, [.ref oA_2, .ref oB_3, .int (nI 0)])), (oA_2, .inl (cA_4, (min (cM p0) 512), .inl (fun _ => 0))), (oB_3, .inl (cB_5, (min (cM p0) 512), .inr (.inl (fun _ => 0))))] H := hP
  have hD : va_D A [(oF, .inr (2, [.int (nI (cM p0)), .ref q_1, .int 0, .int (-1), .int 0, .int 0, .int 0, .long 0, .int 0])), (q_1, .inr (1, [.ref oA_2, .ref oB_3, .int (nI 0)])), (oA_2, .inl (cA_4, (min (cM p0) 512), .inl (fun _ => 0))), (oB_3, .inl (cB_5, (min (cM p0) 512), .inr (.inl (fun _ => 0))))] := hD
  refine lv_aload_n hx hb dX1_init_49 rfl (lv_at hl 0 rfl) ?_
  refine lv_iconst (v := 0) hx hb dX1_init_50 (by decide) ?_
  refine va_put (D := (dC, dI)) (ci := 2) (v := .int 0) (ty := .int) (C := RX1) (T := TX1) (N := 9) hx hb hts (by decide +kernel) tyX1 tyX1_ok nmX1 hown hK hP hD hS 0 rfl rfl 4 (by decide) (hts (.fieldLink RX1 39 "RelativeFiles" "standing" "I") (by decide +kernel)) (fun _ h9 => h9) rfl (by decide +kernel) rfl rfl (Nat.le_of_ble_eq_true rfl) dX1_init_51 (fun H locs hP hD hS => ?_)
  have hP : va_P (dC, dI) vwCl [(oF, .inr (2, [.int (nI (cM p0)), .ref q_1, .int 0, .int (-1), .int 0, .int 0, .int 0, .long 0, .int 0])), (q_1, .inr (1, [.ref oA_2, .ref oB_3, .int (nI 0)])), (oA_2, .inl (cA_4, (min (cM p0) 512), .inl (fun _ => 0))), (oB_3, .inl (cB_5, (min (cM p0) 512), .inr (.inl (fun _ => 0))))] H := hP
  have hD : va_D A [(oF, .inr (2, [.int (nI (cM p0)), .ref q_1, .int 0, .int (-1), .int 0, .int 0, .int 0, .long 0, .int 0])), (q_1, .inr (1, [.ref oA_2, .ref oB_3, .int (nI 0)])), (oA_2, .inl (cA_4, (min (cM p0) 512), .inl (fun _ => 0))), (oB_3, .inl (cB_5, (min (cM p0) 512), .inr (.inl (fun _ => 0))))] := hD
  refine lv_aload_n hx hb dX1_init_54 rfl (lv_at hl 0 rfl) ?_
  refine lv_iconst (v := 0) hx hb dX1_init_55 (by decide) ?_
  refine va_put (D := (dC, dI)) (ci := 2) (v := .int 0) (ty := .int) (C := RX1) (T := TX1) (N := 9) hx hb hts (by decide +kernel) tyX1 tyX1_ok nmX1 hown hK hP hD hS 0 rfl rfl 5 (by decide) (hts (.fieldLink RX1 42 "RelativeFiles" "position" "I") (by decide +kernel)) (fun _ h9 => h9) rfl (by decide +kernel) rfl rfl (Nat.le_of_ble_eq_true rfl) dX1_init_56 (fun H locs hP hD hS => ?_)
  have hP : va_P (dC, dI) vwCl [(oF, .inr (2, [.int (nI (cM p0)), .ref q_1, .int 0, .int (-1), .int 0, .int 0, .int 0, .long 0, .int 0])), (q_1, .inr (1, [.ref oA_2, .ref oB_3, .int (nI 0)])), (oA_2, .inl (cA_4, (min (cM p0) 512), .inl (fun _ => 0))), (oB_3, .inl (cB_5, (min (cM p0) 512), .inr (.inl (fun _ => 0))))] H := hP
  have hD : va_D A [(oF, .inr (2, [.int (nI (cM p0)), .ref q_1, .int 0, .int (-1), .int 0, .int 0, .int 0, .long 0, .int 0])), (q_1, .inr (1, [.ref oA_2, .ref oB_3, .int (nI 0)])), (oA_2, .inl (cA_4, (min (cM p0) 512), .inl (fun _ => 0))), (oB_3, .inl (cB_5, (min (cM p0) 512), .inr (.inl (fun _ => 0))))] := hD
  refine lv_aload_n hx hb dX1_init_59 rfl (lv_at hl 0 rfl) ?_
  refine lv_iconst (v := 0) hx hb dX1_init_60 (by decide) ?_
  refine va_put (D := (dC, dI)) (ci := 2) (v := .int 0) (ty := .int) (C := RX1) (T := TX1) (N := 9) hx hb hts (by decide +kernel) tyX1 tyX1_ok nmX1 hown hK hP hD hS 0 rfl rfl 6 (by decide) (hts (.fieldLink RX1 45 "RelativeFiles" "lastRead" "I") (by decide +kernel)) (fun _ h9 => h9) rfl (by decide +kernel) rfl rfl (Nat.le_of_ble_eq_true rfl) dX1_init_61 (fun H locs hP hD hS => ?_)
  have hP : va_P (dC, dI) vwCl [(oF, .inr (2, [.int (nI (cM p0)), .ref q_1, .int 0, .int (-1), .int 0, .int 0, .int 0, .long 0, .int 0])), (q_1, .inr (1, [.ref oA_2, .ref oB_3, .int (nI 0)])), (oA_2, .inl (cA_4, (min (cM p0) 512), .inl (fun _ => 0))), (oB_3, .inl (cB_5, (min (cM p0) 512), .inr (.inl (fun _ => 0))))] H := hP
  have hD : va_D A [(oF, .inr (2, [.int (nI (cM p0)), .ref q_1, .int 0, .int (-1), .int 0, .int 0, .int 0, .long 0, .int 0])), (q_1, .inr (1, [.ref oA_2, .ref oB_3, .int (nI 0)])), (oA_2, .inl (cA_4, (min (cM p0) 512), .inl (fun _ => 0))), (oB_3, .inl (cB_5, (min (cM p0) 512), .inr (.inl (fun _ => 0))))] := hD
  refine lv_aload_n hx hb dX1_init_64 rfl (lv_at hl 0 rfl) ?_
  refine lv_lconst (v := 0) hx hb dX1_init_65 (by decide) ?_
  refine va_put (D := (dC, dI)) (ci := 2) (v := .long 0) (ty := .long) (C := RX1) (T := TX1) (N := 9) hx hb hts (by decide +kernel) tyX1 tyX1_ok nmX1 hown hK hP hD hS 0 rfl rfl 7 (by decide) (hts (.fieldLink RX1 48 "RelativeFiles" "lastValue" "J") (by decide +kernel)) (fun _ h9 => h9) rfl (by decide +kernel) rfl rfl (Nat.le_of_ble_eq_true rfl) dX1_init_66 (fun H locs hP hD hS => ?_)
  have hP : va_P (dC, dI) vwCl [(oF, .inr (2, [.int (nI (cM p0)), .ref q_1, .int 0, .int (-1), .int 0, .int 0, .int 0, .long 0, .int 0])), (q_1, .inr (1, [.ref oA_2, .ref oB_3, .int (nI 0)])), (oA_2, .inl (cA_4, (min (cM p0) 512), .inl (fun _ => 0))), (oB_3, .inl (cB_5, (min (cM p0) 512), .inr (.inl (fun _ => 0))))] H := hP
  have hD : va_D A [(oF, .inr (2, [.int (nI (cM p0)), .ref q_1, .int 0, .int (-1), .int 0, .int 0, .int 0, .long 0, .int 0])), (q_1, .inr (1, [.ref oA_2, .ref oB_3, .int (nI 0)])), (oA_2, .inl (cA_4, (min (cM p0) 512), .inl (fun _ => 0))), (oB_3, .inl (cB_5, (min (cM p0) 512), .inr (.inl (fun _ => 0))))] := hD
  refine lv_aload_n hx hb dX1_init_69 rfl (lv_at hl 0 rfl) ?_
  refine lv_bipush (v := 9) hx hb dX1_init_70 (by decide) ?_
  refine va_put (D := (dC, dI)) (ci := 2) (v := .int 9) (ty := .int) (C := RX1) (T := TX1) (N := 9) hx hb hts (by decide +kernel) tyX1 tyX1_ok nmX1 hown hK hP hD hS 0 rfl rfl 8 (by decide) (hts (.fieldLink RX1 52 "RelativeFiles" "keyDigits" "I") (by decide +kernel)) (fun _ h9 => h9) rfl (by decide +kernel) rfl rfl (Nat.le_of_ble_eq_true rfl) dX1_init_72 (fun H locs hP hD hS => ?_)
  have hP : va_P (dC, dI) vwCl [(oF, .inr (2, [.int (nI (cM p0)), .ref q_1, .int 0, .int (-1), .int 0, .int 0, .int 0, .long 0, .int 9])), (q_1, .inr (1, [.ref oA_2, .ref oB_3, .int (nI 0)])), (oA_2, .inl (cA_4, (min (cM p0) 512), .inl (fun _ => 0))), (oB_3, .inl (cB_5, (min (cM p0) 512), .inr (.inl (fun _ => 0))))] H := hP
  have hD : va_D A [(oF, .inr (2, [.int (nI (cM p0)), .ref q_1, .int 0, .int (-1), .int 0, .int 0, .int 0, .long 0, .int 9])), (q_1, .inr (1, [.ref oA_2, .ref oB_3, .int (nI 0)])), (oA_2, .inl (cA_4, (min (cM p0) 512), .inl (fun _ => 0))), (oB_3, .inl (cB_5, (min (cM p0) 512), .inr (.inl (fun _ => 0))))] := hD
  subst hQ9
  refine W.widen (k := 3) (n := 1027) (by omega) (by omega) ?_
  exact W.vret hx hb hr (fun t ht hW => ⟨⟨(), rfl, trivial, q_1, oA_2, oB_3, cA_4, cB_5, by rw [ht]; exact hP, va_K.moved hW.alike hK, hD⟩, hS.F ht⟩) hS.2.2 dX1_init_75
