set_option maxHeartbeats 1000000 in
set_option maxRecDepth 100000 in
theorem kX1_start (l : Launch) (dC : Nat → ClassId) (dI : Nat → Nat → Nat) (oF oS oA oB : Nat) (cA cB : ClassId) (n h d : Nat) (mo th om sd po lr : Int32) (lv : Int64) (P : Nat → Int32) (V : Nat → Int64) (p0 p1 : Int32) (sz : Nat) (hh : h ≤ n) (hn : n ≤ 512) : Met l yX1_start wsX1_start ({ frames := 3, cells := 0, slots := 0, locals := 66 }) (va_Pc [.ref oF, .int p0, .int p1] (fun U => U.heap.size = sz ∧ va_P (dC, dI) vwCl [(oF, .inr (2, [.int mo, .ref oS, .int th, .int om, .int sd, .int po, .int lr, .long lv, .int (nI d)])), (oS, .inr (1, [.ref oA, .ref oB, .int (nI h)])), (oA, .inl (cA, n, .inl P)), (oB, .inl (cB, n, .inr (.inl V)))] U.heap ∧ va_K (dC, dI) vwCl [(cA, .int), (cB, .long)] U ∧ va_D (fun _ => True) [(oF, .inr (2, [.int mo, .ref oS, .int th, .int om, .int sd, .int po, .int lr, .long lv, .int (nI d)])), (oS, .inr (1, [.ref oA, .ref oB, .int (nI h)])), (oA, .inl (cA, n, .inl P)), (oB, .inl (cB, n, .inr (.inl V)))])) (va_Qi (fun (r : Int32) (_ : Unit) => r = (fStart p0 p1 (th, om, sd, po, lr, lv, d, P, V, h)).1) (fun (_ : Unit) (t : State) => va_P (dC, dI) vwCl (wF oF oS oA oB cA cB n mo (fStart p0 p1 (th, om, sd, po, lr, lv, d, P, V, h)).2) t.heap ∧ va_K (dC, dI) vwCl [(cA, .int), (cB, .long)] t ∧ va_D (va_A [(oF, .inr (2, [.int mo, .ref oS, .int th, .int om, .int sd, .int po, .int lr, .long lv, .int (nI d)])), (oS, .inr (1, [.ref oA, .ref oB, .int (nI h)])), (oA, .inl (cA, n, .inl P)), (oB, .inl (cB, n, .inr (.inl V)))] sz) (wF oF oS oA oB cA cB n mo (fStart p0 p1 (th, om, sd, po, lr, lv, d, P, V, h)).2)) (va_A [(oF, .inr (2, [.int mo, .ref oS, .int th, .int om, .int sd, .int po, .int lr, .long lv, .int (nI d)])), (oS, .inr (1, [.ref oA, .ref oB, .int (nI h)])), (oA, .inl (cA, n, .inl P)), (oB, .inl (cB, n, .inr (.inl V)))] sz)) 0 0 (va_A [(oF, .inr (2, [.int mo, .ref oS, .int th, .int om, .int sd, .int po, .int lr, .long lv, .int (nI d)])), (oS, .inr (1, [.ref oA, .ref oB, .int (nI h)])), (oA, .inl (cA, n, .inl P)), (oB, .inl (cB, n, .inr (.inl V)))] sz) := by
  refine Met.ofW (cc := cX1_start) (maxL := 5) (ret := (some .int)) (by decide) rfl ?_
  intro p e s m args below meth c s₁ B hml hv
  obtain ⟨rfl, hsz, hP, hK, hD0⟩ := hv
  have hx := B.exec
  have hb := B.bytes
  have hr := B.returns
  have hts := atoms_spec (ws := wsX1_start) B.pre
  have hown : s.vm.findClass RX1 = some m.cls := findClass_of_methodNamed B.named
  have hlocks := B.notSynchronized
  subst hsz
  have hD := hD0.self (sz := s.heap.size)
  generalize hAe : va_A [(oF, .inr (2, [.int mo, .ref oS, .int th, .int om, .int sd, .int po, .int lr, .long lv, .int (nI d)])), (oS, .inr (1, [.ref oA, .ref oB, .int (nI h)])), (oA, .inl (cA, n, .inl P)), (oB, .inl (cB, n, .inr (.inl V)))] s.heap.size = A at hD ⊢
  have hA : ∀ q : Nat, s.heap.size ≤ q → A q := fun q h => by rw [← hAe]; exact Or.inr h
  have hS : va_S A s.heap s.heap [] := va_S.rf
  have hP : va_P (dC, dI) vwCl [(oF, .inr (2, [.int mo, .ref oS, .int th, .int om, .int sd, .int po, .int lr, .long lv, .int (nI d)])), (oS, .inr (1, [.ref oA, .ref oB, .int (nI h)])), (oA, .inl (cA, n, .inl P)), (oB, .inl (cB, n, .inr (.inl V)))] s.heap := hP
  have hl := lv_entry ([.ref oF, .int p0, .int p1]) (n := 5) (Nat.le_of_ble_eq_true rfl)
  rw [lg_entry_eq]
  generalize (lg_sl ([.ref oF, .int p0, .int p1]) ++ List.replicate (5 - (lg_sl ([.ref oF, .int p0, .int p1])).length) Slot.unset).toArray = ls at hl ⊢
  have hl : lv_has ls 5 [(0, .ref oF), (1, .int p0), (2, .int p1)] := hl
  refine W_name (fun Q hQ9 => ?_)
  refine lv_iload_n hx hb dX1_start_0 rfl (lv_at hl 1 rfl) ?_
  refine lv_if_lt (tgt := 9) hx hb dX1_start_1 (by decide) (fun c_1 => ?_) (fun c_1 => ?_)
  · -- taken at 1: p0 < 0
    refine lv_iconst (v := (-1)) hx hb dX1_start_9 (by decide) ?_
    subst hQ9
    have e9 : fStart p0 p1 (th, om, sd, po, lr, lv, d, P, V, h) = ((-1), (th, om, sd, po, lr, lv, d, P, V, h)) := by simp only [fStart, if_pos c_1]
    rw [e9]
    exact W.iret (v := (-1)) hx hb hr (fun t ht hW => ⟨⟨(-1), (), rfl, rfl, by rw [ht]; exact hP, va_K.moved hW.alike hK, hD⟩, hS.F ht⟩) hS.2.2 dX1_start_10
  · -- not taken at 1: ¬ p0 < 0
    refine lv_iload_n hx hb dX1_start_4 rfl (lv_at hl 1 rfl) ?_
    refine lv_iconst (v := 4) hx hb dX1_start_5 (by decide) ?_
    refine lv_icmp_le (tgt := 11) hx hb dX1_start_6 (by decide) (fun c_2 => ?_) (fun c_2 => ?_)
    · -- taken at 6: p0 ≤ 4
      refine lv_aload_n hx hb dX1_start_11 rfl (lv_at hl 0 rfl) ?_
      have hPc := hP.sub (ws' := [(oF, .inr (2, [.int mo, .ref oS, .int th, .int om, .int sd, .int po, .int lr, .long lv, .int (nI d)])), (oS, .inr (1, [.ref oA, .ref oB, .int (nI h)])), (oA, .inl (cA, n, .inl P)), (oB, .inl (cB, n, .inr (.inl V)))]) [0, 1, 2, 3] rfl
      have hDc := hD.sub (ws' := [(oF, .inr (2, [.int mo, .ref oS, .int th, .int om, .int sd, .int po, .int lr, .long lv, .int (nI d)])), (oS, .inr (1, [.ref oA, .ref oB, .int (nI h)])), (oA, .inl (cA, n, .inl P)), (oB, .inl (cB, n, .inr (.inl V)))]) [0, 1, 2, 3] (by decide) rfl
      have hKc := hK.sub (tys' := [(cA, .int), (cB, .long)]) [0, 1] rfl
      have hFc := va_free (wc := [(oF, .inr (2, [.int mo, .ref oS, .int th, .int om, .int sd, .int po, .int lr, .long lv, .int (nI d)])), (oS, .inr (1, [.ref oA, .ref oB, .int (nI h)])), (oA, .inl (cA, n, .inl P)), (oB, .inl (cB, n, .inr (.inl V)))]) hD hS hA [0, 1, 2, 3] rfl
      refine va_calli (va_runV (As := []) (rest := []) ⟨hx, hb, hml, hown, hts⟩ (kX1_refusalToRead l dC dI oF oS oA oB cA cB n h d mo th om sd po lr lv P V  s.heap.size hh hn) (cwV 0 hts gX1_start_X1_refusalToRead rfl rfl rfl (by decide +kernel) ⟨Nat.le_of_ble_eq_true rfl, Nat.le_of_ble_eq_true rfl⟩) ⟨fun a U g mk q => by obtain ⟨q0, q1, qP, qK, qD⟩ := q; exact ⟨q0, q1, qP, va_K.moved (u := U) (U := U.calling g mk a) (Vm.Alike.refl U.vm) qK, qD⟩, va_recv hKc hPc (ci := 2) (q0 := 0) rfl rfl, fun U hU hW => ⟨rfl, by rw [hU], by rw [hU]; exact hPc, va_K.moved hW.alike hKc, hDc.weaken (fun _ _ _ _ => trivial)⟩⟩ rfl rfl hl.1 rfl (lv_room (Nat.le_of_ble_eq_true rfl)) dX1_start_12 ⟨Nat.le_of_ble_eq_true rfl, Nat.le_of_ble_eq_true rfl⟩) hS (fun q _ h => hFc q h) hFc (fun r_3 u t H1 locs ht hvm hw hB hz1 hk1 hS => ?_)
      obtain ⟨hP1, hK1, hD1⟩ := hB
      rw [ht] at hP1
      have hK1 := va_K.moved hvm.symm hK1
      try dsimp only at hw
      obtain ⟨hP, hD⟩ := va_join (wr := []) (w1 := [(oF, .inr (2, [.int mo, .ref oS, .int th, .int om, .int sd, .int po, .int lr, .long lv, .int (nI d)])), (oS, .inr (1, [.ref oA, .ref oB, .int (nI h)])), (oA, .inl (cA, n, .inl P)), (oB, .inl (cB, n, .inr (.inl V)))]) hP hD [0, 1, 2, 3] [] rfl rfl (by decide) (by decide) hk1 hFc hP1 hD1
      generalize H1 = H at hP hS ⊢
      have hP : va_P (dC, dI) vwCl [(oF, .inr (2, [.int mo, .ref oS, .int th, .int om, .int sd, .int po, .int lr, .long lv, .int (nI d)])), (oS, .inr (1, [.ref oA, .ref oB, .int (nI h)])), (oA, .inl (cA, n, .inl P)), (oB, .inl (cB, n, .inr (.inl V)))] H := hP.sub [0, 1, 2, 3] rfl
      have hD : va_D A [(oF, .inr (2, [.int mo, .ref oS, .int th, .int om, .int sd, .int po, .int lr, .long lv, .int (nI d)])), (oS, .inr (1, [.ref oA, .ref oB, .int (nI h)])), (oA, .inl (cA, n, .inl P)), (oB, .inl (cB, n, .inr (.inl V)))] := hD.sub [0, 1, 2, 3] (by decide) rfl
      have hK : va_K (dC, dI) vwCl [(cA, .int), (cB, .long)] s := hK
      subst hw
      refine lv_istore_n (lv' := [(3, .int (fRef om)), (0, .ref oF), (1, .int p0), (2, .int p1)]) hx hb dX1_start_15 rfl hl (by decide) rfl (fun ls hl => ?_)
      refine lv_iload_n hx hb dX1_start_16 rfl (lv_at hl 0 rfl) ?_
      refine lv_if_eq (tgt := 22) hx hb dX1_start_17 (by decide) (fun c_4 => ?_) (fun c_4 => ?_)
      · -- taken at 17: (fRef om) = 0
        refine lv_aload_n hx hb dX1_start_22 rfl (lv_at hl 1 rfl) ?_
        refine lv_iload_n hx hb dX1_start_23 rfl (lv_at hl 2 rfl) ?_
        refine lv_iload_n hx hb dX1_start_24 rfl (lv_at hl 3 rfl) ?_
        have hPc := hP.sub (ws' := [(oF, .inr (2, [.int mo, .ref oS, .int th, .int om, .int sd, .int po, .int lr, .long lv, .int (nI d)])), (oS, .inr (1, [.ref oA, .ref oB, .int (nI h)])), (oA, .inl (cA, n, .inl P)), (oB, .inl (cB, n, .inr (.inl V)))]) [0, 1, 2, 3] rfl
        have hDc := hD.sub (ws' := [(oF, .inr (2, [.int mo, .ref oS, .int th, .int om, .int sd, .int po, .int lr, .long lv, .int (nI d)])), (oS, .inr (1, [.ref oA, .ref oB, .int (nI h)])), (oA, .inl (cA, n, .inl P)), (oB, .inl (cB, n, .inr (.inl V)))]) [0, 1, 2, 3] (by decide) rfl
        have hKc := hK.sub (tys' := [(cA, .int), (cB, .long)]) [0, 1] rfl
        have hFc := va_free (wc := [(oF, .inr (2, [.int mo, .ref oS, .int th, .int om, .int sd, .int po, .int lr, .long lv, .int (nI d)])), (oS, .inr (1, [.ref oA, .ref oB, .int (nI h)])), (oA, .inl (cA, n, .inl P)), (oB, .inl (cB, n, .inr (.inl V)))]) hD hS hA [0, 1, 2, 3] rfl
        refine va_calli (va_runV (As := [.int p0, .int p1]) (rest := []) ⟨hx, hb, hml, hown, hts⟩ (kX1_placeToStart l dC dI oF oS oA oB cA cB n h d mo th om sd po lr lv P V p0 p1 H.size hh hn) (cwV 2 hts gX1_start_X1_placeToStart rfl rfl rfl (by decide +kernel) ⟨Nat.le_of_ble_eq_true rfl, Nat.le_of_ble_eq_true rfl⟩) ⟨fun a U g mk q => by obtain ⟨q0, q1, qP, qK, qD⟩ := q; exact ⟨q0, q1, qP, va_K.moved (u := U) (U := U.calling g mk a) (Vm.Alike.refl U.vm) qK, qD⟩, va_recv hKc hPc (ci := 2) (q0 := 0) rfl rfl, fun U hU hW => ⟨rfl, by rw [hU], by rw [hU]; exact hPc, va_K.moved hW.alike hKc, hDc.weaken (fun _ _ _ _ => trivial)⟩⟩ rfl rfl hl.1 rfl (lv_room (Nat.le_of_ble_eq_true rfl)) dX1_start_25 ⟨Nat.le_of_ble_eq_true rfl, Nat.le_of_ble_eq_true rfl⟩) hS (fun q _ h => hFc q h) hFc (fun r_5 u t H1 locs ht hvm hw hB hz1 hk1 hS => ?_)
        obtain ⟨hP1, hK1, hD1⟩ := hB
        rw [ht] at hP1
        have hK1 := va_K.moved hvm.symm hK1
        try dsimp only at hw
        obtain ⟨hP, hD⟩ := va_join (wr := []) (w1 := [(oF, .inr (2, [.int mo, .ref oS, .int th, .int om, .int sd, .int po, .int lr, .long lv, .int (nI d)])), (oS, .inr (1, [.ref oA, .ref oB, .int (nI h)])), (oA, .inl (cA, n, .inl P)), (oB, .inl (cB, n, .inr (.inl V)))]) hP hD [0, 1, 2, 3] [] rfl rfl (by decide) (by decide) hk1 hFc hP1 hD1
        generalize H1 = H at hP hS ⊢
        have hP : va_P (dC, dI) vwCl [(oF, .inr (2, [.int mo, .ref oS, .int th, .int om, .int sd, .int po, .int lr, .long lv, .int (nI d)])), (oS, .inr (1, [.ref oA, .ref oB, .int (nI h)])), (oA, .inl (cA, n, .inl P)), (oB, .inl (cB, n, .inr (.inl V)))] H := hP.sub [0, 1, 2, 3] rfl
        have hD : va_D A [(oF, .inr (2, [.int mo, .ref oS, .int th, .int om, .int sd, .int po, .int lr, .long lv, .int (nI d)])), (oS, .inr (1, [.ref oA, .ref oB, .int (nI h)])), (oA, .inl (cA, n, .inl P)), (oB, .inl (cB, n, .inr (.inl V)))] := hD.sub [0, 1, 2, 3] (by decide) rfl
        have hK : va_K (dC, dI) vwCl [(cA, .int), (cB, .long)] s := hK
        subst hw
        refine lv_istore (lv' := [(4, .int (fPS P h p0 p1)), (3, .int (fRef om)), (0, .ref oF), (1, .int p0), (2, .int p1)]) hx hb dX1_start_28 hl (by decide) rfl (fun ls hl => ?_)
        refine lv_iload hx hb dX1_start_30 (lv_at hl 0 rfl) ?_
        refine lv_if_ne (tgt := 42) hx hb dX1_start_32 (by decide) (fun c_6 => ?_) (fun c_6 => ?_)
        · -- taken at 32: ¬ (fPS P h p0 p1) = 0
          refine lv_aload_n hx hb dX1_start_42 rfl (lv_at hl 2 rfl) ?_
          refine lv_iconst (v := 1) hx hb dX1_start_43 (by decide) ?_
          refine lv_iload hx hb dX1_start_44 (lv_at hl 0 rfl) ?_
          have hPc := hP.sub (ws' := [(oF, .inr (2, [.int mo, .ref oS, .int th, .int om, .int sd, .int po, .int lr, .long lv, .int (nI d)])), (oS, .inr (1, [.ref oA, .ref oB, .int (nI h)])), (oA, .inl (cA, n, .inl P)), (oB, .inl (cB, n, .inr (.inl V)))]) [0, 1, 2, 3] rfl
          have hDc := hD.sub (ws' := [(oF, .inr (2, [.int mo, .ref oS, .int th, .int om, .int sd, .int po, .int lr, .long lv, .int (nI d)])), (oS, .inr (1, [.ref oA, .ref oB, .int (nI h)])), (oA, .inl (cA, n, .inl P)), (oB, .inl (cB, n, .inr (.inl V)))]) [0, 1, 2, 3] (by decide) rfl
          have hKc := hK.sub (tys' := [(cA, .int), (cB, .long)]) [0, 1] rfl
          have hFc := va_free (wc := [(oF, .inr (2, [.int mo, .ref oS, .int th, .int om, .int sd, .int po, .int lr, .long lv, .int (nI d)])), (oS, .inr (1, [.ref oA, .ref oB, .int (nI h)])), (oA, .inl (cA, n, .inl P)), (oB, .inl (cB, n, .inr (.inl V)))]) hD hS hA [0, 1, 2, 3] rfl
          refine va_callv (va_runV (As := [.int 1, .int (fPS P h p0 p1)]) (rest := []) ⟨hx, hb, hml, hown, hts⟩ (kX1_stand l dC dI oF oS oA oB cA cB n h d mo th om sd po lr lv P V 1 (fPS P h p0 p1) H.size hh hn) (cwV 2 hts gX1_start_X1_stand rfl rfl rfl (by decide +kernel) ⟨Nat.le_of_ble_eq_true rfl, Nat.le_of_ble_eq_true rfl⟩) ⟨fun a U g mk q => by obtain ⟨q0, q1, qP, qK, qD⟩ := q; exact ⟨q0, q1, qP, va_K.moved (u := U) (U := U.calling g mk a) (Vm.Alike.refl U.vm) qK, qD⟩, va_recv hKc hPc (ci := 2) (q0 := 0) rfl rfl, fun U hU hW => ⟨rfl, by rw [hU], by rw [hU]; exact hPc, va_K.moved hW.alike hKc, hDc.weaken (fun _ _ _ _ => trivial)⟩⟩ rfl rfl hl.1 rfl (lv_room (Nat.le_of_ble_eq_true rfl)) dX1_start_46 ⟨Nat.le_of_ble_eq_true rfl, Nat.le_of_ble_eq_true rfl⟩) hS (fun q _ h => hFc q h) hFc (fun u t H1 locs ht hvm hw hB hz1 hk1 hS => ?_)
          obtain ⟨hP1, hK1, hD1⟩ := hB
          rw [ht] at hP1
          have hK1 := va_K.moved hvm.symm hK1
          try dsimp only at hw
          obtain ⟨hP, hD⟩ := va_join (wr := []) (w1 := [(oF, .inr (2, [.int mo, .ref oS, .int th, .int om, .int 1, .int (fPS P h p0 p1), .int 0, .long lv, .int (nI d)])), (oS, .inr (1, [.ref oA, .ref oB, .int (nI h)])), (oA, .inl (cA, n, .inl P)), (oB, .inl (cB, n, .inr (.inl V)))]) hP hD [0, 1, 2, 3] [] rfl rfl (by decide) (by decide) hk1 hFc hP1 hD1
          generalize H1 = H at hP hS ⊢
          have hP : va_P (dC, dI) vwCl [(oF, .inr (2, [.int mo, .ref oS, .int th, .int om, .int 1, .int (fPS P h p0 p1), .int 0, .long lv, .int (nI d)])), (oS, .inr (1, [.ref oA, .ref oB, .int (nI h)])), (oA, .inl (cA, n, .inl P)), (oB, .inl (cB, n, .inr (.inl V)))] H := hP.sub [0, 1, 2, 3] rfl
          have hD : va_D A [(oF, .inr (2, [.int mo, .ref oS, .int th, .int om, .int 1, .int (fPS P h p0 p1), .int 0, .long lv, .int (nI d)])), (oS, .inr (1, [.ref oA, .ref oB, .int (nI h)])), (oA, .inl (cA, n, .inl P)), (oB, .inl (cB, n, .inr (.inl V)))] := hD.sub [0, 1, 2, 3] (by decide) rfl
          have hK : va_K (dC, dI) vwCl [(cA, .int), (cB, .long)] s := hK
          refine lv_iconst (v := 0) hx hb dX1_start_49 (by decide) ?_
          subst hQ9
          have e9 : fStart p0 p1 (th, om, sd, po, lr, lv, d, P, V, h) = (0, (th, om, 1, fPS P h p0 p1, 0, lv, d, P, V, h)) := by simp only [fStart, if_neg c_1, if_pos c_2, if_pos c_4, if_neg c_6]
          rw [e9]
          exact W.iret (v := 0) hx hb hr (fun t ht hW => ⟨⟨0, (), rfl, rfl, by rw [ht]; exact hP, va_K.moved hW.alike hK, hD⟩, hS.F ht⟩) hS.2.2 dX1_start_50
        · -- not taken at 32: (fPS P h p0 p1) = 0
          refine lv_aload_n hx hb dX1_start_35 rfl (lv_at hl 2 rfl) ?_
          have hPc := hP.sub (ws' := [(oF, .inr (2, [.int mo, .ref oS, .int th, .int om, .int sd, .int po, .int lr, .long lv, .int (nI d)])), (oS, .inr (1, [.ref oA, .ref oB, .int (nI h)])), (oA, .inl (cA, n, .inl P)), (oB, .inl (cB, n, .inr (.inl V)))]) [0, 1, 2, 3] rfl
          have hDc := hD.sub (ws' := [(oF, .inr (2, [.int mo, .ref oS, .int th, .int om, .int sd, .int po, .int lr, .long lv, .int (nI d)])), (oS, .inr (1, [.ref oA, .ref oB, .int (nI h)])), (oA, .inl (cA, n, .inl P)), (oB, .inl (cB, n, .inr (.inl V)))]) [0, 1, 2, 3] (by decide) rfl
          have hKc := hK.sub (tys' := [(cA, .int), (cB, .long)]) [0, 1] rfl
          have hFc := va_free (wc := [(oF, .inr (2, [.int mo, .ref oS, .int th, .int om, .int sd, .int po, .int lr, .long lv, .int (nI d)])), (oS, .inr (1, [.ref oA, .ref oB, .int (nI h)])), (oA, .inl (cA, n, .inl P)), (oB, .inl (cB, n, .inr (.inl V)))]) hD hS hA [0, 1, 2, 3] rfl
          refine va_callv (va_runV (As := []) (rest := []) ⟨hx, hb, hml, hown, hts⟩ (kX1_losePosition l dC dI oF oS oA oB cA cB n h d mo th om sd po lr lv P V  H.size hh hn) (cwV 0 hts gX1_start_X1_losePosition rfl rfl rfl (by decide +kernel) ⟨Nat.le_of_ble_eq_true rfl, Nat.le_of_ble_eq_true rfl⟩) ⟨fun a U g mk q => by obtain ⟨q0, q1, qP, qK, qD⟩ := q; exact ⟨q0, q1, qP, va_K.moved (u := U) (U := U.calling g mk a) (Vm.Alike.refl U.vm) qK, qD⟩, va_recv hKc hPc (ci := 2) (q0 := 0) rfl rfl, fun U hU hW => ⟨rfl, by rw [hU], by rw [hU]; exact hPc, va_K.moved hW.alike hKc, hDc.weaken (fun _ _ _ _ => trivial)⟩⟩ rfl rfl hl.1 rfl (lv_room (Nat.le_of_ble_eq_true rfl)) dX1_start_36 ⟨Nat.le_of_ble_eq_true rfl, Nat.le_of_ble_eq_true rfl⟩) hS (fun q _ h => hFc q h) hFc (fun u t H1 locs ht hvm hw hB hz1 hk1 hS => ?_)
          obtain ⟨hP1, hK1, hD1⟩ := hB
          rw [ht] at hP1
          have hK1 := va_K.moved hvm.symm hK1
          try dsimp only at hw
          obtain ⟨hP, hD⟩ := va_join (wr := []) (w1 := [(oF, .inr (2, [.int mo, .ref oS, .int th, .int om, .int 2, .int 0, .int 0, .long lv, .int (nI d)])), (oS, .inr (1, [.ref oA, .ref oB, .int (nI h)])), (oA, .inl (cA, n, .inl P)), (oB, .inl (cB, n, .inr (.inl V)))]) hP hD [0, 1, 2, 3] [] rfl rfl (by decide) (by decide) hk1 hFc hP1 hD1
          generalize H1 = H at hP hS ⊢
          have hP : va_P (dC, dI) vwCl [(oF, .inr (2, [.int mo, .ref oS, .int th, .int om, .int 2, .int 0, .int 0, .long lv, .int (nI d)])), (oS, .inr (1, [.ref oA, .ref oB, .int (nI h)])), (oA, .inl (cA, n, .inl P)), (oB, .inl (cB, n, .inr (.inl V)))] H := hP.sub [0, 1, 2, 3] rfl
          have hD : va_D A [(oF, .inr (2, [.int mo, .ref oS, .int th, .int om, .int 2, .int 0, .int 0, .long lv, .int (nI d)])), (oS, .inr (1, [.ref oA, .ref oB, .int (nI h)])), (oA, .inl (cA, n, .inl P)), (oB, .inl (cB, n, .inr (.inl V)))] := hD.sub [0, 1, 2, 3] (by decide) rfl
          have hK : va_K (dC, dI) vwCl [(cA, .int), (cB, .long)] s := hK
          refine lv_bipush (v := 23) hx hb dX1_start_39 (by decide) ?_
          subst hQ9
          have e9 : fStart p0 p1 (th, om, sd, po, lr, lv, d, P, V, h) = (23, (th, om, 2, 0, 0, lv, d, P, V, h)) := by simp only [fStart, if_neg c_1, if_pos c_2, if_pos c_4, if_pos c_6]
          rw [e9]
          exact W.iret (v := 23) hx hb hr (fun t ht hW => ⟨⟨23, (), rfl, rfl, by rw [ht]; exact hP, va_K.moved hW.alike hK, hD⟩, hS.F ht⟩) hS.2.2 dX1_start_41
      · -- not taken at 17: ¬ (fRef om) = 0
        refine lv_iload_n hx hb dX1_start_20 rfl (lv_at hl 0 rfl) ?_
        subst hQ9
        have e9 : fStart p0 p1 (th, om, sd, po, lr, lv, d, P, V, h) = (fRef om, (th, om, sd, po, lr, lv, d, P, V, h)) := by simp only [fStart, if_neg c_1, if_pos c_2, if_neg c_4]
        rw [e9]
        exact W.iret (v := fRef om) hx hb hr (fun t ht hW => ⟨⟨fRef om, (), rfl, rfl, by rw [ht]; exact hP, va_K.moved hW.alike hK, hD⟩, hS.F ht⟩) hS.2.2 dX1_start_21
    · -- not taken at 6: ¬ p0 ≤ 4
      refine lv_iconst (v := (-1)) hx hb dX1_start_9 (by decide) ?_
      subst hQ9
      have e9 : fStart p0 p1 (th, om, sd, po, lr, lv, d, P, V, h) = ((-1), (th, om, sd, po, lr, lv, d, P, V, h)) := by simp only [fStart, if_neg c_1, if_neg c_2]
      rw [e9]
      exact W.iret (v := (-1)) hx hb hr (fun t ht hW => ⟨⟨(-1), (), rfl, rfl, by rw [ht]; exact hP, va_K.moved hW.alike hK, hD⟩, hS.F ht⟩) hS.2.2 dX1_start_10

set_option maxHeartbeats 1000000 in
set_option maxRecDepth 100000 in
theorem kX1_next (l : Launch) (dC : Nat → ClassId) (dI : Nat → Nat → Nat) (oF oS oA oB : Nat) (cA cB : ClassId) (n h d : Nat) (mo th om sd po lr : Int32) (lv : Int64) (P : Nat → Int32) (V : Nat → Int64) (p0 : Int32) (sz : Nat) (hh : h ≤ n) (hn : n ≤ 512) (hd : d ≤ 9) : Met l yX1_next wsX1_next ({ frames := 3, cells := 0, slots := 0, locals := 65 }) (va_Pc [.ref oF, .int p0] (fun U => U.heap.size = sz ∧ va_P (dC, dI) vwCl [(oF, .inr (2, [.int mo, .ref oS, .int th, .int om, .int sd, .int po, .int lr, .long lv, .int (nI d)])), (oS, .inr (1, [.ref oA, .ref oB, .int (nI h)])), (oA, .inl (cA, n, .inl P)), (oB, .inl (cB, n, .inr (.inl V)))] U.heap ∧ va_K (dC, dI) vwCl [(cA, .int), (cB, .long)] U ∧ va_D (fun _ => True) [(oF, .inr (2, [.int mo, .ref oS, .int th, .int om, .int sd, .int po, .int lr, .long lv, .int (nI d)])), (oS, .inr (1, [.ref oA, .ref oB, .int (nI h)])), (oA, .inl (cA, n, .inl P)), (oB, .inl (cB, n, .inr (.inl V)))])) (va_Qi (fun (r : Int32) (_ : Unit) => r = (fNext p0 (th, om, sd, po, lr, lv, d, P, V, h)).1) (fun (_ : Unit) (t : State) => va_P (dC, dI) vwCl (wF oF oS oA oB cA cB n mo (fNext p0 (th, om, sd, po, lr, lv, d, P, V, h)).2) t.heap ∧ va_K (dC, dI) vwCl [(cA, .int), (cB, .long)] t ∧ va_D (va_A [(oF, .inr (2, [.int mo, .ref oS, .int th, .int om, .int sd, .int po, .int lr, .long lv, .int (nI d)])), (oS, .inr (1, [.ref oA, .ref oB, .int (nI h)])), (oA, .inl (cA, n, .inl P)), (oB, .inl (cB, n, .inr (.inl V)))] sz) (wF oF oS oA oB cA cB n mo (fNext p0 (th, om, sd, po, lr, lv, d, P, V, h)).2)) (va_A [(oF, .inr (2, [.int mo, .ref oS, .int th, .int om, .int sd, .int po, .int lr, .long lv, .int (nI d)])), (oS, .inr (1, [.ref oA, .ref oB, .int (nI h)])), (oA, .inl (cA, n, .inl P)), (oB, .inl (cB, n, .inr (.inl V)))] sz)) 0 0 (va_A [(oF, .inr (2, [.int mo, .ref oS, .int th, .int om, .int sd, .int po, .int lr, .long lv, .int (nI d)])), (oS, .inr (1, [.ref oA, .ref oB, .int (nI h)])), (oA, .inl (cA, n, .inl P)), (oB, .inl (cB, n, .inr (.inl V)))] sz) := by
  refine Met.ofW (cc := cX1_next) (maxL := 4) (ret := (some .int)) (by decide) rfl ?_
  intro p e s m args below meth c s₁ B hml hv
  obtain ⟨rfl, hsz, hP, hK, hD0⟩ := hv
  have hx := B.exec
  have hb := B.bytes
  have hr := B.returns
  have hts := atoms_spec (ws := wsX1_next) B.pre
  have hown : s.vm.findClass RX1 = some m.cls := findClass_of_methodNamed B.named
  have hlocks := B.notSynchronized
  subst hsz
  have hD := hD0.self (sz := s.heap.size)
  generalize hAe : va_A [(oF, .inr (2, [.int mo, .ref oS, .int th, .int om, .int sd, .int po, .int lr, .long lv, .int (nI d)])), (oS, .inr (1, [.ref oA, .ref oB, .int (nI h)])), (oA, .inl (cA, n, .inl P)), (oB, .inl (cB, n, .inr (.inl V)))] s.heap.size = A at hD ⊢
  have hA : ∀ q : Nat, s.heap.size ≤ q → A q := fun q h => by rw [← hAe]; exact Or.inr h
  have hS : va_S A s.heap s.heap [] := va_S.rf
  have hP : va_P (dC, dI) vwCl [(oF, .inr (2, [.int mo, .ref oS, .int th, .int om, .int sd, .int po, .int lr, .long lv, .int (nI d)])), (oS, .inr (1, [.ref oA, .ref oB, .int (nI h)])), (oA, .inl (cA, n, .inl P)), (oB, .inl (cB, n, .inr (.inl V)))] s.heap := hP
  have hl := lv_entry ([.ref oF, .int p0]) (n := 4) (Nat.le_of_ble_eq_true rfl)
  rw [lg_entry_eq]
  generalize (lg_sl ([.ref oF, .int p0]) ++ List.replicate (4 - (lg_sl ([.ref oF, .int p0])).length) Slot.unset).toArray = ls at hl ⊢
  have hl : lv_has ls 4 [(0, .ref oF), (1, .int p0)] := hl
  refine W_name (fun Q hQ9 => ?_)
  refine lv_aload_n hx hb dX1_next_0 rfl (lv_at hl 0 rfl) ?_
  have hPc := hP.sub (ws' := [(oF, .inr (2, [.int mo, .ref oS, .int th, .int om, .int sd, .int po, .int lr, .long lv, .int (nI d)])), (oS, .inr (1, [.ref oA, .ref oB, .int (nI h)])), (oA, .inl (cA, n, .inl P)), (oB, .inl (cB, n, .inr (.inl V)))]) [0, 1, 2, 3] rfl
  have hDc := hD.sub (ws' := [(oF, .inr (2, [.int mo, .ref oS, .int th, .int om, .int sd, .int po, .int lr, .long lv, .int (nI d)])), (oS, .inr (1, [.ref oA, .ref oB, .int (nI h)])), (oA, .inl (cA, n, .inl P)), (oB, .inl (cB, n, .inr (.inl V)))]) [0, 1, 2, 3] (by decide) rfl
  have hKc := hK.sub (tys' := [(cA, .int), (cB, .long)]) [0, 1] rfl
  have hFc := va_free (wc := [(oF, .inr (2, [.int mo, .ref oS, .int th, .int om, .int sd, .int po, .int lr, .long lv, .int (nI d)])), (oS, .inr (1, [.ref oA, .ref oB, .int (nI h)])), (oA, .inl (cA, n, .inl P)), (oB, .inl (cB, n, .inr (.inl V)))]) hD hS hA [0, 1, 2, 3] rfl
  refine va_calli (va_runV (As := []) (rest := []) ⟨hx, hb, hml, hown, hts⟩ (kX1_refusalToRead l dC dI oF oS oA oB cA cB n h d mo th om sd po lr lv P V  s.heap.size hh hn) (cwV 0 hts gX1_next_X1_refusalToRead rfl rfl rfl (by decide +kernel) ⟨Nat.le_of_ble_eq_true rfl, Nat.le_of_ble_eq_true rfl⟩) ⟨fun a U g mk q => by obtain ⟨q0, q1, qP, qK, qD⟩ := q; exact ⟨q0, q1, qP, va_K.moved (u := U) (U := U.calling g mk a) (Vm.Alike.refl U.vm) qK, qD⟩, va_recv hKc hPc (ci := 2) (q0 := 0) rfl rfl, fun U hU hW => ⟨rfl, by rw [hU], by rw [hU]; exact hPc, va_K.moved hW.alike hKc, hDc.weaken (fun _ _ _ _ => trivial)⟩⟩ rfl rfl hl.1 rfl (lv_room (Nat.le_of_ble_eq_true rfl)) dX1_next_1 ⟨Nat.le_of_ble_eq_true rfl, Nat.le_of_ble_eq_true rfl⟩) hS (fun q _ h => hFc q h) hFc (fun r_1 u t H1 locs ht hvm hw hB hz1 hk1 hS => ?_)
  obtain ⟨hP1, hK1, hD1⟩ := hB
  rw [ht] at hP1
  have hK1 := va_K.moved hvm.symm hK1
  try dsimp only at hw
  obtain ⟨hP, hD⟩ := va_join (wr := []) (w1 := [(oF, .inr (2, [.int mo, .ref oS, .int th, .int om, .int sd, .int po, .int lr, .long lv, .int (nI d)])), (oS, .inr (1, [.ref oA, .ref oB, .int (nI h)])), (oA, .inl (cA, n, .inl P)), (oB, .inl (cB, n, .inr (.inl V)))]) hP hD [0, 1, 2, 3] [] rfl rfl (by decide) (by decide) hk1 hFc hP1 hD1
  generalize H1 = H at hP hS ⊢
  have hP : va_P (dC, dI) vwCl [(oF, .inr (2, [.int mo, .ref oS, .int th, .int om, .int sd, .int po, .int lr, .long lv, .int (nI d)])), (oS, .inr (1, [.ref oA, .ref oB, .int (nI h)])), (oA, .inl (cA, n, .inl P)), (oB, .inl (cB, n, .inr (.inl V)))] H := hP.sub [0, 1, 2, 3] rfl
  have hD : va_D A [(oF, .inr (2, [.int mo, .ref oS, .int th, .int om, .int sd, .int po, .int lr, .long lv, .int (nI d)])), (oS, .inr (1, [.ref oA, .ref oB, .int (nI h)])), (oA, .inl (cA, n, .inl P)), (oB, .inl (cB, n, .inr (.inl V)))] := hD.sub [0, 1, 2, 3] (by decide) rfl
  have hK : va_K (dC, dI) vwCl [(cA, .int), (cB, .long)] s := hK
  subst hw
  refine lv_istore_n (lv' := [(2, .int (fRef om)), (0, .ref oF), (1, .int p0)]) hx hb dX1_next_4 rfl hl (by decide) rfl (fun ls hl => ?_)
  refine lv_iload_n hx hb dX1_next_5 rfl (lv_at hl 0 rfl) ?_
  refine lv_if_eq (tgt := 11) hx hb dX1_next_6 (by decide) (fun c_2 => ?_) (fun c_2 => ?_)
  · -- taken at 6: (fRef om) = 0
    refine lv_aload_n hx hb dX1_next_11 rfl (lv_at hl 1 rfl) ?_
    refine va_get (D := (dC, dI)) (ci := 2) (v := .int sd) (C := RX1) (T := TX1) (N := 9) hx hb hts (by decide +kernel) hown hK hP 0 rfl rfl 4 (by decide) (hts (.fieldLink RX1 39 "RelativeFiles" "standing" "I") (by decide +kernel)) (fun _ h9 => h9) rfl dX1_next_12 ?_
    refine lv_iconst (v := 2) hx hb dX1_next_15 (by decide) ?_
    refine lv_icmp_ne (tgt := 27) hx hb dX1_next_16 (by decide) (fun c_3 => ?_) (fun c_3 => ?_)
    · -- taken at 16: ¬ sd = 2
      refine lv_aload_n hx hb dX1_next_27 rfl (lv_at hl 1 rfl) ?_
      refine lv_iload_n hx hb dX1_next_28 rfl (lv_at hl 2 rfl) ?_
      have hPc := hP.sub (ws' := [(oF, .inr (2, [.int mo, .ref oS, .int th, .int om, .int sd, .int po, .int lr, .long lv, .int (nI d)])), (oS, .inr (1, [.ref oA, .ref oB, .int (nI h)])), (oA, .inl (cA, n, .inl P)), (oB, .inl (cB, n, .inr (.inl V)))]) [0, 1, 2, 3] rfl
      have hDc := hD.sub (ws' := [(oF, .inr (2, [.int mo, .ref oS, .int th, .int om, .int sd, .int po, .int lr, .long lv, .int (nI d)])), (oS, .inr (1, [.ref oA, .ref oB, .int (nI h)])), (oA, .inl (cA, n, .inl P)), (oB, .inl (cB, n, .inr (.inl V)))]) [0, 1, 2, 3] (by decide) rfl
      have hKc := hK.sub (tys' := [(cA, .int), (cB, .long)]) [0, 1] rfl
      have hFc := va_free (wc := [(oF, .inr (2, [.int mo, .ref oS, .int th, .int om, .int sd, .int po, .int lr, .long lv, .int (nI d)])), (oS, .inr (1, [.ref oA, .ref oB, .int (nI h)])), (oA, .inl (cA, n, .inl P)), (oB, .inl (cB, n, .inr (.inl V)))]) hD hS hA [0, 1, 2, 3] rfl
      refine va_calli (va_runV (As := [.int p0]) (rest := []) ⟨hx, hb, hml, hown, hts⟩ (kX1_placeFromPosition l dC dI oF oS oA oB cA cB n h d mo th om sd po lr lv P V p0 H.size hh hn) (cwV 1 hts gX1_next_X1_placeFromPosition rfl rfl rfl (by decide +kernel) ⟨Nat.le_of_ble_eq_true rfl, Nat.le_of_ble_eq_true rfl⟩) ⟨fun a U g mk q => by obtain ⟨q0, q1, qP, qK, qD⟩ := q; exact ⟨q0, q1, qP, va_K.moved (u := U) (U := U.calling g mk a) (Vm.Alike.refl U.vm) qK, qD⟩, va_recv hKc hPc (ci := 2) (q0 := 0) rfl rfl, fun U hU hW => ⟨rfl, by rw [hU], by rw [hU]; exact hPc, va_K.moved hW.alike hKc, hDc.weaken (fun _ _ _ _ => trivial)⟩⟩ rfl rfl hl.1 rfl (lv_room (Nat.le_of_ble_eq_true rfl)) dX1_next_29 ⟨Nat.le_of_ble_eq_true rfl, Nat.le_of_ble_eq_true rfl⟩) hS (fun q _ h => hFc q h) hFc (fun r_4 u t H1 locs ht hvm hw hB hz1 hk1 hS => ?_)
      obtain ⟨hP1, hK1, hD1⟩ := hB
      rw [ht] at hP1
      have hK1 := va_K.moved hvm.symm hK1
      try dsimp only at hw
      obtain ⟨hP, hD⟩ := va_join (wr := []) (w1 := [(oF, .inr (2, [.int mo, .ref oS, .int th, .int om, .int sd, .int po, .int lr, .long lv, .int (nI d)])), (oS, .inr (1, [.ref oA, .ref oB, .int (nI h)])), (oA, .inl (cA, n, .inl P)), (oB, .inl (cB, n, .inr (.inl V)))]) hP hD [0, 1, 2, 3] [] rfl rfl (by decide) (by decide) hk1 hFc hP1 hD1
      generalize H1 = H at hP hS ⊢
      have hP : va_P (dC, dI) vwCl [(oF, .inr (2, [.int mo, .ref oS, .int th, .int om, .int sd, .int po, .int lr, .long lv, .int (nI d)])), (oS, .inr (1, [.ref oA, .ref oB, .int (nI h)])), (oA, .inl (cA, n, .inl P)), (oB, .inl (cB, n, .inr (.inl V)))] H := hP.sub [0, 1, 2, 3] rfl
      have hD : va_D A [(oF, .inr (2, [.int mo, .ref oS, .int th, .int om, .int sd, .int po, .int lr, .long lv, .int (nI d)])), (oS, .inr (1, [.ref oA, .ref oB, .int (nI h)])), (oA, .inl (cA, n, .inl P)), (oB, .inl (cB, n, .inr (.inl V)))] := hD.sub [0, 1, 2, 3] (by decide) rfl
      have hK : va_K (dC, dI) vwCl [(cA, .int), (cB, .long)] s := hK
      subst hw
      refine lv_istore_n (lv' := [(3, .int (fPF sd po P h p0)), (2, .int (fRef om)), (0, .ref oF), (1, .int p0)]) hx hb dX1_next_32 rfl hl (by decide) rfl (fun ls hl => ?_)
      refine lv_iload_n hx hb dX1_next_33 rfl (lv_at hl 0 rfl) ?_
      refine lv_if_ne (tgt := 44) hx hb dX1_next_34 (by decide) (fun c_5 => ?_) (fun c_5 => ?_)
      · -- taken at 34: ¬ (fPF sd po P h p0) = 0
        refine lv_aload_n hx hb dX1_next_44 rfl (lv_at hl 2 rfl) ?_
        refine lv_iload_n hx hb dX1_next_45 rfl (lv_at hl 0 rfl) ?_
        have hPc := hP.sub (ws' := [(oF, .inr (2, [.int mo, .ref oS, .int th, .int om, .int sd, .int po, .int lr, .long lv, .int (nI d)])), (oS, .inr (1, [.ref oA, .ref oB, .int (nI h)])), (oA, .inl (cA, n, .inl P)), (oB, .inl (cB, n, .inr (.inl V)))]) [0, 1, 2, 3] rfl
        have hDc := hD.sub (ws' := [(oF, .inr (2, [.int mo, .ref oS, .int th, .int om, .int sd, .int po, .int lr, .long lv, .int (nI d)])), (oS, .inr (1, [.ref oA, .ref oB, .int (nI h)])), (oA, .inl (cA, n, .inl P)), (oB, .inl (cB, n, .inr (.inl V)))]) [0, 1, 2, 3] (by decide) rfl
        have hKc := hK.sub (tys' := [(cA, .int), (cB, .long)]) [0, 1] rfl
        have hFc := va_free (wc := [(oF, .inr (2, [.int mo, .ref oS, .int th, .int om, .int sd, .int po, .int lr, .long lv, .int (nI d)])), (oS, .inr (1, [.ref oA, .ref oB, .int (nI h)])), (oA, .inl (cA, n, .inl P)), (oB, .inl (cB, n, .inr (.inl V)))]) hD hS hA [0, 1, 2, 3] rfl
        refine va_calli (va_runV (As := [.int (fPF sd po P h p0)]) (rest := []) ⟨hx, hb, hml, hown, hts⟩ (kX1_isTooLong l dC dI oF oS oA oB cA cB n h d mo th om sd po lr lv P V (fPF sd po P h p0) H.size hh hn hd) (cwV 1 hts gX1_next_X1_isTooLong rfl rfl rfl (by decide +kernel) ⟨Nat.le_of_ble_eq_true rfl, Nat.le_of_ble_eq_true rfl⟩) ⟨fun a U g mk q => by obtain ⟨q0, q1, qP, qK, qD⟩ := q; exact ⟨q0, q1, qP, va_K.moved (u := U) (U := U.calling g mk a) (Vm.Alike.refl U.vm) qK, qD⟩, va_recv hKc hPc (ci := 2) (q0 := 0) rfl rfl, fun U hU hW => ⟨rfl, by rw [hU], by rw [hU]; exact hPc, va_K.moved hW.alike hKc, hDc.weaken (fun _ _ _ _ => trivial)⟩⟩ rfl rfl hl.1 rfl (lv_room (Nat.le_of_ble_eq_true rfl)) dX1_next_46 ⟨Nat.le_of_ble_eq_true rfl, Nat.le_of_ble_eq_true rfl⟩) hS (fun q _ h => hFc q h) hFc (fun r_6 u t H1 locs ht hvm hw hB hz1 hk1 hS => ?_)
        obtain ⟨hP1, hK1, hD1⟩ := hB
        rw [ht] at hP1
        have hK1 := va_K.moved hvm.symm hK1
        try dsimp only at hw
        obtain ⟨hP, hD⟩ := va_join (wr := []) (w1 := [(oF, .inr (2, [.int mo, .ref oS, .int th, .int om, .int sd, .int po, .int lr, .long lv, .int (nI d)])), (oS, .inr (1, [.ref oA, .ref oB, .int (nI h)])), (oA, .inl (cA, n, .inl P)), (oB, .inl (cB, n, .inr (.inl V)))]) hP hD [0, 1, 2, 3] [] rfl rfl (by decide) (by decide) hk1 hFc hP1 hD1
        generalize H1 = H at hP hS ⊢
        have hP : va_P (dC, dI) vwCl [(oF, .inr (2, [.int mo, .ref oS, .int th, .int om, .int sd, .int po, .int lr, .long lv, .int (nI d)])), (oS, .inr (1, [.ref oA, .ref oB, .int (nI h)])), (oA, .inl (cA, n, .inl P)), (oB, .inl (cB, n, .inr (.inl V)))] H := hP.sub [0, 1, 2, 3] rfl
        have hD : va_D A [(oF, .inr (2, [.int mo, .ref oS, .int th, .int om, .int sd, .int po, .int lr, .long lv, .int (nI d)])), (oS, .inr (1, [.ref oA, .ref oB, .int (nI h)])), (oA, .inl (cA, n, .inl P)), (oB, .inl (cB, n, .inr (.inl V)))] := hD.sub [0, 1, 2, 3] (by decide) rfl
        have hK : va_K (dC, dI) vwCl [(cA, .int), (cB, .long)] s := hK
        rcases hw with ⟨b_7, hw⟩ | ⟨b_7, hw⟩
        · -- tooL (fPF sd po P h p0) d
          subst hw
          refine lv_if_eq (tgt := 59) hx hb dX1_next_49 (by decide) (fun c_8 => ?_) (fun c_8 => ?_)
          · -- taken at 49: 1 = 0
            exact absurd c_8 (by decide)
          · -- not taken at 49: ¬ 1 = 0
            refine lv_aload_n hx hb dX1_next_52 rfl (lv_at hl 2 rfl) ?_
            have hPc := hP.sub (ws' := [(oF, .inr (2, [.int mo, .ref oS, .int th, .int om, .int sd, .int po, .int lr, .long lv, .int (nI d)])), (oS, .inr (1, [.ref oA, .ref oB, .int (nI h)])), (oA, .inl (cA, n, .inl P)), (oB, .inl (cB, n, .inr (.inl V)))]) [0, 1, 2, 3] rfl
            have hDc := hD.sub (ws' := [(oF, .inr (2, [.int mo, .ref oS, .int th, .int om, .int sd, .int po, .int lr, .long lv, .int (nI d)])), (oS, .inr (1, [.ref oA, .ref oB, .int (nI h)])), (oA, .inl (cA, n, .inl P)), (oB, .inl (cB, n, .inr (.inl V)))]) [0, 1, 2, 3] (by decide) rfl
            have hKc := hK.sub (tys' := [(cA, .int), (cB, .long)]) [0, 1] rfl
            have hFc := va_free (wc := [(oF, .inr (2, [.int mo, .ref oS, .int th, .int om, .int sd, .int po, .int lr, .long lv, .int (nI d)])), (oS, .inr (1, [.ref oA, .ref oB, .int (nI h)])), (oA, .inl (cA, n, .inl P)), (oB, .inl (cB, n, .inr (.inl V)))]) hD hS hA [0, 1, 2, 3] rfl
            refine va_callv (va_runV (As := []) (rest := []) ⟨hx, hb, hml, hown, hts⟩ (kX1_losePosition l dC dI oF oS oA oB cA cB n h d mo th om sd po lr lv P V  H.size hh hn) (cwV 0 hts gX1_next_X1_losePosition rfl rfl rfl (by decide +kernel) ⟨Nat.le_of_ble_eq_true rfl, Nat.le_of_ble_eq_true rfl⟩) ⟨fun a U g mk q => by obtain ⟨q0, q1, qP, qK, qD⟩ := q; exact ⟨q0, q1, qP, va_K.moved (u := U) (U := U.calling g mk a) (Vm.Alike.refl U.vm) qK, qD⟩, va_recv hKc hPc (ci := 2) (q0 := 0) rfl rfl, fun U hU hW => ⟨rfl, by rw [hU], by rw [hU]; exact hPc, va_K.moved hW.alike hKc, hDc.weaken (fun _ _ _ _ => trivial)⟩⟩ rfl rfl hl.1 rfl (lv_room (Nat.le_of_ble_eq_true rfl)) dX1_next_53 ⟨Nat.le_of_ble_eq_true rfl, Nat.le_of_ble_eq_true rfl⟩) hS (fun q _ h => hFc q h) hFc (fun u t H1 locs ht hvm hw hB hz1 hk1 hS => ?_)
            obtain ⟨hP1, hK1, hD1⟩ := hB
            rw [ht] at hP1
            have hK1 := va_K.moved hvm.symm hK1
            try dsimp only at hw
            obtain ⟨hP, hD⟩ := va_join (wr := []) (w1 := [(oF, .inr (2, [.int mo, .ref oS, .int th, .int om, .int 2, .int 0, .int 0, .long lv, .int (nI d)])), (oS, .inr (1, [.ref oA, .ref oB, .int (nI h)])), (oA, .inl (cA, n, .inl P)), (oB, .inl (cB, n, .inr (.inl V)))]) hP hD [0, 1, 2, 3] [] rfl rfl (by decide) (by decide) hk1 hFc hP1 hD1
            generalize H1 = H at hP hS ⊢
            have hP : va_P (dC, dI) vwCl [(oF, .inr (2, [.int mo, .ref oS, .int th, .int om, .int 2, .int 0, .int 0, .long lv, .int (nI d)])), (oS, .inr (1, [.ref oA, .ref oB, .int (nI h)])), (oA, .inl (cA, n, .inl P)), (oB, .inl (cB, n, .inr (.inl V)))] H := hP.sub [0, 1, 2, 3] rfl
            have hD : va_D A [(oF, .inr (2, [.int mo, .ref oS, .int th, .int om, .int 2, .int 0, .int 0, .long lv, .int (nI d)])), (oS, .inr (1, [.ref oA, .ref oB, .int (nI h)])), (oA, .inl (cA, n, .inl P)), (oB, .inl (cB, n, .inr (.inl V)))] := hD.sub [0, 1, 2, 3] (by decide) rfl
            have hK : va_K (dC, dI) vwCl [(cA, .int), (cB, .long)] s := hK
            refine lv_bipush (v := 14) hx hb dX1_next_56 (by decide) ?_
            subst hQ9
            have e9 : fNext p0 (th, om, sd, po, lr, lv, d, P, V, h) = (14, (th, om, 2, 0, 0, lv, d, P, V, h)) := by simp only [fNext, fNx2, if_pos c_2, if_neg c_3, if_neg c_5, if_pos b_7]
            rw [e9]
            exact W.iret (v := 14) hx hb hr (fun t ht hW => ⟨⟨14, (), rfl, rfl, by rw [ht]; exact hP, va_K.moved hW.alike hK, hD⟩, hS.F ht⟩) hS.2.2 dX1_next_58
        · -- ¬ (tooL (fPF sd po P h p0) d)
          subst hw
          refine lv_if_eq (tgt := 59) hx hb dX1_next_49 (by decide) (fun c_10 => ?_) (fun c_10 => ?_)
          · -- taken at 49: 0 = 0
            refine lv_aload_n hx hb dX1_next_59 rfl (lv_at hl 2 rfl) ?_
            refine lv_iload_n hx hb dX1_next_60 rfl (lv_at hl 0 rfl) ?_
            have hPc := hP.sub (ws' := [(oF, .inr (2, [.int mo, .ref oS, .int th, .int om, .int sd, .int po, .int lr, .long lv, .int (nI d)])), (oS, .inr (1, [.ref oA, .ref oB, .int (nI h)])), (oA, .inl (cA, n, .inl P)), (oB, .inl (cB, n, .inr (.inl V)))]) [0, 1, 2, 3] rfl
            have hDc := hD.sub (ws' := [(oF, .inr (2, [.int mo, .ref oS, .int th, .int om, .int sd, .int po, .int lr, .long lv, .int (nI d)])), (oS, .inr (1, [.ref oA, .ref oB, .int (nI h)])), (oA, .inl (cA, n, .inl P)), (oB, .inl (cB, n, .inr (.inl V)))]) [0, 1, 2, 3] (by decide) rfl
            have hKc := hK.sub (tys' := [(cA, .int), (cB, .long)]) [0, 1] rfl
            have hFc := va_free (wc := [(oF, .inr (2, [.int mo, .ref oS, .int th, .int om, .int sd, .int po, .int lr, .long lv, .int (nI d)])), (oS, .inr (1, [.ref oA, .ref oB, .int (nI h)])), (oA, .inl (cA, n, .inl P)), (oB, .inl (cB, n, .inr (.inl V)))]) hD hS hA [0, 1, 2, 3] rfl
            refine va_callv (va_runV (As := [.int (fPF sd po P h p0)]) (rest := []) ⟨hx, hb, hml, hown, hts⟩ (kX1_take l dC dI oF oS oA oB cA cB n h d mo th om sd po lr lv P V (fPF sd po P h p0) H.size hh hn) (cwV 1 hts gX1_next_X1_take rfl rfl rfl (by decide +kernel) ⟨Nat.le_of_ble_eq_true rfl, Nat.le_of_ble_eq_true rfl⟩) ⟨fun a U g mk q => by obtain ⟨q0, q1, qP, qK, qD⟩ := q; exact ⟨q0, q1, qP, va_K.moved (u := U) (U := U.calling g mk a) (Vm.Alike.refl U.vm) qK, qD⟩, va_recv hKc hPc (ci := 2) (q0 := 0) rfl rfl, fun U hU hW => ⟨rfl, by rw [hU], by rw [hU]; exact hPc, va_K.moved hW.alike hKc, hDc.weaken (fun _ _ _ _ => trivial)⟩⟩ rfl rfl hl.1 rfl (lv_room (Nat.le_of_ble_eq_true rfl)) dX1_next_61 ⟨Nat.le_of_ble_eq_true rfl, Nat.le_of_ble_eq_true rfl⟩) hS (fun q _ h => hFc q h) hFc (fun u t H1 locs ht hvm hw hB hz1 hk1 hS => ?_)
            obtain ⟨hP1, hK1, hD1⟩ := hB
            rw [ht] at hP1
            have hK1 := va_K.moved hvm.symm hK1
            try dsimp only at hw
            obtain ⟨hP, hD⟩ := va_join (wr := []) (w1 := [(oF, .inr (2, [.int mo, .ref oS, .int th, .int om, .int 0, .int (fPF sd po P h p0), .int (fPF sd po P h p0), .long (fRec P V h (fPF sd po P h p0)), .int (nI d)])), (oS, .inr (1, [.ref oA, .ref oB, .int (nI h)])), (oA, .inl (cA, n, .inl P)), (oB, .inl (cB, n, .inr (.inl V)))]) hP hD [0, 1, 2, 3] [] rfl rfl (by decide) (by decide) hk1 hFc hP1 hD1
            generalize H1 = H at hP hS ⊢
            have hP : va_P (dC, dI) vwCl [(oF, .inr (2, [.int mo, .ref oS, .int th, .int om, .int 0, .int (fPF sd po P h p0), .int (fPF sd po P h p0), .long (fRec P V h (fPF sd po P h p0)), .int (nI d)])), (oS, .inr (1, [.ref oA, .ref oB, .int (nI h)])), (oA, .inl (cA, n, .inl P)), (oB, .inl (cB, n, .inr (.inl V)))] H := hP.sub [0, 1, 2, 3] rfl
            have hD : va_D A [(oF, .inr (2, [.int mo, .ref oS, .int th, .int om, .int 0, .int (fPF sd po P h p0), .int (fPF sd po P h p0), .long (fRec P V h (fPF sd po P h p0)), .int (nI d)])), (oS, .inr (1, [.ref oA, .ref oB, .int (nI h)])), (oA, .inl (cA, n, .inl P)), (oB, .inl (cB, n, .inr (.inl V)))] := hD.sub [0, 1, 2, 3] (by decide) rfl
            have hK : va_K (dC, dI) vwCl [(cA, .int), (cB, .long)] s := hK
            refine lv_iconst (v := 0) hx hb dX1_next_64 (by decide) ?_
            subst hQ9
            have e9 : fNext p0 (th, om, sd, po, lr, lv, d, P, V, h) = (0, (th, om, 0, fPF sd po P h p0, fPF sd po P h p0, fRec P V h (fPF sd po P h p0), d, P, V, h)) := by simp only [fNext, fNx2, if_pos c_2, if_neg c_3, if_neg c_5, if_neg b_7]
            rw [e9]
            exact W.iret (v := 0) hx hb hr (fun t ht hW => ⟨⟨0, (), rfl, rfl, by rw [ht]; exact hP, va_K.moved hW.alike hK, hD⟩, hS.F ht⟩) hS.2.2 dX1_next_65
          · -- not taken at 49: ¬ 0 = 0
            exact absurd c_10 (by decide)
      · -- not taken at 34: (fPF sd po P h p0) = 0
        refine lv_aload_n hx hb dX1_next_37 rfl (lv_at hl 2 rfl) ?_
        have hPc := hP.sub (ws' := [(oF, .inr (2, [.int mo, .ref oS, .int th, .int om, .int sd, .int po, .int lr, .long lv, .int (nI d)])), (oS, .inr (1, [.ref oA, .ref oB, .int (nI h)])), (oA, .inl (cA, n, .inl P)), (oB, .inl (cB, n, .inr (.inl V)))]) [0, 1, 2, 3] rfl
        have hDc := hD.sub (ws' := [(oF, .inr (2, [.int mo, .ref oS, .int th, .int om, .int sd, .int po, .int lr, .long lv, .int (nI d)])), (oS, .inr (1, [.ref oA, .ref oB, .int (nI h)])), (oA, .inl (cA, n, .inl P)), (oB, .inl (cB, n, .inr (.inl V)))]) [0, 1, 2, 3] (by decide) rfl
        have hKc := hK.sub (tys' := [(cA, .int), (cB, .long)]) [0, 1] rfl
        have hFc := va_free (wc := [(oF, .inr (2, [.int mo, .ref oS, .int th, .int om, .int sd, .int po, .int lr, .long lv, .int (nI d)])), (oS, .inr (1, [.ref oA, .ref oB, .int (nI h)])), (oA, .inl (cA, n, .inl P)), (oB, .inl (cB, n, .inr (.inl V)))]) hD hS hA [0, 1, 2, 3] rfl
        refine va_callv (va_runV (As := []) (rest := []) ⟨hx, hb, hml, hown, hts⟩ (kX1_losePosition l dC dI oF oS oA oB cA cB n h d mo th om sd po lr lv P V  H.size hh hn) (cwV 0 hts gX1_next_X1_losePosition rfl rfl rfl (by decide +kernel) ⟨Nat.le_of_ble_eq_true rfl, Nat.le_of_ble_eq_true rfl⟩) ⟨fun a U g mk q => by obtain ⟨q0, q1, qP, qK, qD⟩ := q; exact ⟨q0, q1, qP, va_K.moved (u := U) (U := U.calling g mk a) (Vm.Alike.refl U.vm) qK, qD⟩, va_recv hKc hPc (ci := 2) (q0 := 0) rfl rfl, fun U hU hW => ⟨rfl, by rw [hU], by rw [hU]; exact hPc, va_K.moved hW.alike hKc, hDc.weaken (fun _ _ _ _ => trivial)⟩⟩ rfl rfl hl.1 rfl (lv_room (Nat.le_of_ble_eq_true rfl)) dX1_next_38 ⟨Nat.le_of_ble_eq_true rfl, Nat.le_of_ble_eq_true rfl⟩) hS (fun q _ h => hFc q h) hFc (fun u t H1 locs ht hvm hw hB hz1 hk1 hS => ?_)
        obtain ⟨hP1, hK1, hD1⟩ := hB
        rw [ht] at hP1
        have hK1 := va_K.moved hvm.symm hK1
        try dsimp only at hw
        obtain ⟨hP, hD⟩ := va_join (wr := []) (w1 := [(oF, .inr (2, [.int mo, .ref oS, .int th, .int om, .int 2, .int 0, .int 0, .long lv, .int (nI d)])), (oS, .inr (1, [.ref oA, .ref oB, .int (nI h)])), (oA, .inl (cA, n, .inl P)), (oB, .inl (cB, n, .inr (.inl V)))]) hP hD [0, 1, 2, 3] [] rfl rfl (by decide) (by decide) hk1 hFc hP1 hD1
        generalize H1 = H at hP hS ⊢
        have hP : va_P (dC, dI) vwCl [(oF, .inr (2, [.int mo, .ref oS, .int th, .int om, .int 2, .int 0, .int 0, .long lv, .int (nI d)])), (oS, .inr (1, [.ref oA, .ref oB, .int (nI h)])), (oA, .inl (cA, n, .inl P)), (oB, .inl (cB, n, .inr (.inl V)))] H := hP.sub [0, 1, 2, 3] rfl
        have hD : va_D A [(oF, .inr (2, [.int mo, .ref oS, .int th, .int om, .int 2, .int 0, .int 0, .long lv, .int (nI d)])), (oS, .inr (1, [.ref oA, .ref oB, .int (nI h)])), (oA, .inl (cA, n, .inl P)), (oB, .inl (cB, n, .inr (.inl V)))] := hD.sub [0, 1, 2, 3] (by decide) rfl
        have hK : va_K (dC, dI) vwCl [(cA, .int), (cB, .long)] s := hK
        refine lv_bipush (v := 10) hx hb dX1_next_41 (by decide) ?_
        subst hQ9
        have e9 : fNext p0 (th, om, sd, po, lr, lv, d, P, V, h) = (10, (th, om, 2, 0, 0, lv, d, P, V, h)) := by simp only [fNext, fNx2, if_pos c_2, if_neg c_3, if_pos c_5]
        rw [e9]
        exact W.iret (v := 10) hx hb hr (fun t ht hW => ⟨⟨10, (), rfl, rfl, by rw [ht]; exact hP, va_K.moved hW.alike hK, hD⟩, hS.F ht⟩) hS.2.2 dX1_next_43
    · -- not taken at 16: sd = 2
      refine lv_aload_n hx hb dX1_next_19 rfl (lv_at hl 1 rfl) ?_
      refine lv_iconst (v := 0) hx hb dX1_next_20 (by decide) ?_
      refine va_put (D := (dC, dI)) (ci := 2) (v := .int 0) (ty := .int) (C := RX1) (T := TX1) (N := 9) hx hb hts (by decide +kernel) tyX1 tyX1_ok nmX1 hown hK hP hD hS 0 rfl rfl 6 (by decide) (hts (.fieldLink RX1 45 "RelativeFiles" "lastRead" "I") (by decide +kernel)) (fun _ h9 => h9) rfl (by decide +kernel) rfl rfl (Nat.le_of_ble_eq_true rfl) dX1_next_21 (fun H locs hP hD hS => ?_)
      have hP : va_P (dC, dI) vwCl [(oF, .inr (2, [.int mo, .ref oS, .int th, .int om, .int sd, .int po, .int 0, .long lv, .int (nI d)])), (oS, .inr (1, [.ref oA, .ref oB, .int (nI h)])), (oA, .inl (cA, n, .inl P)), (oB, .inl (cB, n, .inr (.inl V)))] H := hP
      have hD : va_D A [(oF, .inr (2, [.int mo, .ref oS, .int th, .int om, .int sd, .int po, .int 0, .long lv, .int (nI d)])), (oS, .inr (1, [.ref oA, .ref oB, .int (nI h)])), (oA, .inl (cA, n, .inl P)), (oB, .inl (cB, n, .inr (.inl V)))] := hD
      refine lv_bipush (v := 46) hx hb dX1_next_24 (by decide) ?_
      subst hQ9
      have e9 : fNext p0 (th, om, sd, po, lr, lv, d, P, V, h) = (46, (th, om, sd, po, 0, lv, d, P, V, h)) := by simp only [fNext, fNx2, if_pos c_2, if_pos c_3]
      rw [e9]
      exact W.iret (v := 46) hx hb hr (fun t ht hW => ⟨⟨46, (), rfl, rfl, by rw [ht]; exact hP, va_K.moved hW.alike hK, hD⟩, hS.F ht⟩) hS.2.2 dX1_next_26
  · -- not taken at 6: ¬ (fRef om) = 0
    refine lv_iload_n hx hb dX1_next_9 rfl (lv_at hl 0 rfl) ?_
    subst hQ9
    have e9 : fNext p0 (th, om, sd, po, lr, lv, d, P, V, h) = (fRef om, (th, om, sd, po, lr, lv, d, P, V, h)) := by simp only [fNext, fNx2, if_neg c_2]
    rw [e9]
    exact W.iret (v := fRef om) hx hb hr (fun t ht hW => ⟨⟨fRef om, (), rfl, rfl, by rw [ht]; exact hP, va_K.moved hW.alike hK, hD⟩, hS.F ht⟩) hS.2.2 dX1_next_10

set_option maxHeartbeats 1000000 in
set_option maxRecDepth 100000 in
theorem kX1_rewrite (l : Launch) (dC : Nat → ClassId) (dI : Nat → Nat → Nat) (oF oS oA oB : Nat) (cA cB : ClassId) (n h d : Nat) (mo th om sd po lr : Int32) (lv : Int64) (P : Nat → Int32) (V : Nat → Int64) (p0 : Int32) (p1 : Int64) (sz : Nat) (hh : h ≤ n) (hn : n ≤ 512) : Met l yX1_rewrite wsX1_rewrite ({ frames := 3, cells := 0, slots := 0, locals := 65 }) (va_Pc [.ref oF, .int p0, .long p1] (fun U => U.heap.size = sz ∧ va_P (dC, dI) vwCl [(oF, .inr (2, [.int mo, .ref oS, .int th, .int om, .int sd, .int po, .int lr, .long lv, .int (nI d)])), (oS, .inr (1, [.ref oA, .ref oB, .int (nI h)])), (oA, .inl (cA, n, .inl P)), (oB, .inl (cB, n, .inr (.inl V)))] U.heap ∧ va_K (dC, dI) vwCl [(cA, .int), (cB, .long)] U ∧ va_D (fun _ => True) [(oF, .inr (2, [.int mo, .ref oS, .int th, .int om, .int sd, .int po, .int lr, .long lv, .int (nI d)])), (oS, .inr (1, [.ref oA, .ref oB, .int (nI h)])), (oA, .inl (cA, n, .inl P)), (oB, .inl (cB, n, .inr (.inl V)))])) (va_Qi (fun (r : Int32) (_ : Unit) => r = (fRewr p0 p1 (th, om, sd, po, lr, lv, d, P, V, h)).1) (fun (_ : Unit) (t : State) => va_P (dC, dI) vwCl (wF oF oS oA oB cA cB n mo (fRewr p0 p1 (th, om, sd, po, lr, lv, d, P, V, h)).2) t.heap ∧ va_K (dC, dI) vwCl [(cA, .int), (cB, .long)] t ∧ va_D (va_A [(oF, .inr (2, [.int mo, .ref oS, .int th, .int om, .int sd, .int po, .int lr, .long lv, .int (nI d)])), (oS, .inr (1, [.ref oA, .ref oB, .int (nI h)])), (oA, .inl (cA, n, .inl P)), (oB, .inl (cB, n, .inr (.inl V)))] sz) (wF oF oS oA oB cA cB n mo (fRewr p0 p1 (th, om, sd, po, lr, lv, d, P, V, h)).2)) (va_A [(oF, .inr (2, [.int mo, .ref oS, .int th, .int om, .int sd, .int po, .int lr, .long lv, .int (nI d)])), (oS, .inr (1, [.ref oA, .ref oB, .int (nI h)])), (oA, .inl (cA, n, .inl P)), (oB, .inl (cB, n, .inr (.inl V)))] sz)) 0 0 (va_A [(oF, .inr (2, [.int mo, .ref oS, .int th, .int om, .int sd, .int po, .int lr, .long lv, .int (nI d)])), (oS, .inr (1, [.ref oA, .ref oB, .int (nI h)])), (oA, .inl (cA, n, .inl P)), (oB, .inl (cB, n, .inr (.inl V)))] sz) := by
  refine Met.ofW (cc := cX1_rewrite) (maxL := 6) (ret := (some .int)) (by decide) rfl ?_
  intro p e s m args below meth c s₁ B hml hv
  obtain ⟨rfl, hsz, hP, hK, hD0⟩ := hv
  have hx := B.exec
  have hb := B.bytes
  have hr := B.returns
  have hts := atoms_spec (ws := wsX1_rewrite) B.pre
  have hown : s.vm.findClass RX1 = some m.cls := findClass_of_methodNamed B.named
  have hlocks := B.notSynchronized
  subst hsz
  have hD := hD0.self (sz := s.heap.size)
  generalize hAe : va_A [(oF, .inr (2, [.int mo, .ref oS, .int th, .int om, .int sd, .int po, .int lr, .long lv, .int (nI d)])), (oS, .inr (1, [.ref oA, .ref oB, .int (nI h)])), (oA, .inl (cA, n, .inl P)), (oB, .inl (cB, n, .inr (.inl V)))] s.heap.size = A at hD ⊢
  have hA : ∀ q : Nat, s.heap.size ≤ q → A q := fun q h => by rw [← hAe]; exact Or.inr h
  have hS : va_S A s.heap s.heap [] := va_S.rf
  have hP : va_P (dC, dI) vwCl [(oF, .inr (2, [.int mo, .ref oS, .int th, .int om, .int sd, .int po, .int lr, .long lv, .int (nI d)])), (oS, .inr (1, [.ref oA, .ref oB, .int (nI h)])), (oA, .inl (cA, n, .inl P)), (oB, .inl (cB, n, .inr (.inl V)))] s.heap := hP
  have hl := lv_entry ([.ref oF, .int p0, .long p1]) (n := 6) (Nat.le_of_ble_eq_true rfl)
  rw [lg_entry_eq]
  generalize (lg_sl ([.ref oF, .int p0, .long p1]) ++ List.replicate (6 - (lg_sl ([.ref oF, .int p0, .long p1])).length) Slot.unset).toArray = ls at hl ⊢
  have hl : lv_has ls 6 [(0, .ref oF), (1, .int p0), (2, .long p1)] := hl
  refine W_name (fun Q hQ9 => ?_)
  refine lv_aload_n hx hb dX1_rewrite_0 rfl (lv_at hl 0 rfl) ?_
  refine lv_iload_n hx hb dX1_rewrite_1 rfl (lv_at hl 1 rfl) ?_
  have hPc := hP.sub (ws' := [(oF, .inr (2, [.int mo, .ref oS, .int th, .int om, .int sd, .int po, .int lr, .long lv, .int (nI d)])), (oS, .inr (1, [.ref oA, .ref oB, .int (nI h)])), (oA, .inl (cA, n, .inl P)), (oB, .inl (cB, n, .inr (.inl V)))]) [0, 1, 2, 3] rfl
  have hDc := hD.sub (ws' := [(oF, .inr (2, [.int mo, .ref oS, .int th, .int om, .int sd, .int po, .int lr, .long lv, .int (nI d)])), (oS, .inr (1, [.ref oA, .ref oB, .int (nI h)])), (oA, .inl (cA, n, .inl P)), (oB, .inl (cB, n, .inr (.inl V)))]) [0, 1, 2, 3] (by decide) rfl
  have hKc := hK.sub (tys' := [(cA, .int), (cB, .long)]) [0, 1] rfl
  have hFc := va_free (wc := [(oF, .inr (2, [.int mo, .ref oS, .int th, .int om, .int sd, .int po, .int lr, .long lv, .int (nI d)])), (oS, .inr (1, [.ref oA, .ref oB, .int (nI h)])), (oA, .inl (cA, n, .inl P)), (oB, .inl (cB, n, .inr (.inl V)))]) hD hS hA [0, 1, 2, 3] rfl
  refine va_calli (va_runV (As := [.int p0]) (rest := []) ⟨hx, hb, hml, hown, hts⟩ (kX1_placeToChange l dC dI oF oS oA oB cA cB n h d mo th om sd po lr lv P V p0 s.heap.size hh hn) (cwV 1 hts gX1_rewrite_X1_placeToChange rfl rfl rfl (by decide +kernel) ⟨Nat.le_of_ble_eq_true rfl, Nat.le_of_ble_eq_true rfl⟩) ⟨fun a U g mk q => by obtain ⟨q0, q1, qP, qK, qD⟩ := q; exact ⟨q0, q1, qP, va_K.moved (u := U) (U := U.calling g mk a) (Vm.Alike.refl U.vm) qK, qD⟩, va_recv hKc hPc (ci := 2) (q0 := 0) rfl rfl, fun U hU hW => ⟨rfl, by rw [hU], by rw [hU]; exact hPc, va_K.moved hW.alike hKc, hDc.weaken (fun _ _ _ _ => trivial)⟩⟩ rfl rfl hl.1 rfl (lv_room (Nat.le_of_ble_eq_true rfl)) dX1_rewrite_2 ⟨Nat.le_of_ble_eq_true rfl, Nat.le_of_ble_eq_true rfl⟩) hS (fun q _ h => hFc q h) hFc (fun r_1 u t H1 locs ht hvm hw hB hz1 hk1 hS => ?_)
  obtain ⟨hP1, hK1, hD1⟩ := hB
  rw [ht] at hP1
  have hK1 := va_K.moved hvm.symm hK1
  try dsimp only at hw
  obtain ⟨hP, hD⟩ := va_join (wr := []) (w1 := [(oF, .inr (2, [.int mo, .ref oS, .int th, .int om, .int sd, .int po, .int lr, .long lv, .int (nI d)])), (oS, .inr (1, [.ref oA, .ref oB, .int (nI h)])), (oA, .inl (cA, n, .inl P)), (oB, .inl (cB, n, .inr (.inl V)))]) hP hD [0, 1, 2, 3] [] rfl rfl (by decide) (by decide) hk1 hFc hP1 hD1
  generalize H1 = H at hP hS ⊢
  have hP : va_P (dC, dI) vwCl [(oF, .inr (2, [.int mo, .ref oS, .int th, .int om, .int sd, .int po, .int lr, .long lv, .int (nI d)])), (oS, .inr (1, [.ref oA, .ref oB, .int (nI h)])), (oA, .inl (cA, n, .inl P)), (oB, .inl (cB, n, .inr (.inl V)))] H := hP.sub [0, 1, 2, 3] rfl
  have hD : va_D A [(oF, .inr (2, [.int mo, .ref oS, .int th, .int om, .int sd, .int po, .int lr, .long lv, .int (nI d)])), (oS, .inr (1, [.ref oA, .ref oB, .int (nI h)])), (oA, .inl (cA, n, .inl P)), (oB, .inl (cB, n, .inr (.inl V)))] := hD.sub [0, 1, 2, 3] (by decide) rfl
  have hK : va_K (dC, dI) vwCl [(cA, .int), (cB, .long)] s := hK
  subst hw
  refine lv_istore (lv' := [(4, .int (fPC lr p0)), (0, .ref oF), (1, .int p0), (2, .long p1)]) hx hb dX1_rewrite_5 hl (by decide) rfl (fun ls hl => ?_)
  refine lv_aload_n hx hb dX1_rewrite_7 rfl (lv_at hl 1 rfl) ?_
  refine lv_iload_n hx hb dX1_rewrite_8 rfl (lv_at hl 2 rfl) ?_
  refine lv_iload hx hb dX1_rewrite_9 (lv_at hl 0 rfl) ?_
  have hPc := hP.sub (ws' := [(oF, .inr (2, [.int mo, .ref oS, .int th, .int om, .int sd, .int po, .int lr, .long lv, .int (nI d)])), (oS, .inr (1, [.ref oA, .ref oB, .int (nI h)])), (oA, .inl (cA, n, .inl P)), (oB, .inl (cB, n, .inr (.inl V)))]) [0, 1, 2, 3] rfl
  have hDc := hD.sub (ws' := [(oF, .inr (2, [.int mo, .ref oS, .int th, .int om, .int sd, .int po, .int lr, .long lv, .int (nI d)])), (oS, .inr (1, [.ref oA, .ref oB, .int (nI h)])), (oA, .inl (cA, n, .inl P)), (oB, .inl (cB, n, .inr (.inl V)))]) [0, 1, 2, 3] (by decide) rfl
  have hKc := hK.sub (tys' := [(cA, .int), (cB, .long)]) [0, 1] rfl
  have hFc := va_free (wc := [(oF, .inr (2, [.int mo, .ref oS, .int th, .int om, .int sd, .int po, .int lr, .long lv, .int (nI d)])), (oS, .inr (1, [.ref oA, .ref oB, .int (nI h)])), (oA, .inl (cA, n, .inl P)), (oB, .inl (cB, n, .inr (.inl V)))]) hD hS hA [0, 1, 2, 3] rfl
  refine va_calli (va_runV (As := [.int p0, .int (fPC lr p0)]) (rest := []) ⟨hx, hb, hml, hown, hts⟩ (kX1_statusOfChange l dC dI oF oS oA oB cA cB n h d mo th om sd po lr lv P V p0 (fPC lr p0) H.size hh hn) (cwV 2 hts gX1_rewrite_X1_statusOfChange rfl rfl rfl (by decide +kernel) ⟨Nat.le_of_ble_eq_true rfl, Nat.le_of_ble_eq_true rfl⟩) ⟨fun a U g mk q => by obtain ⟨q0, q1, qP, qK, qD⟩ := q; exact ⟨q0, q1, qP, va_K.moved (u := U) (U := U.calling g mk a) (Vm.Alike.refl U.vm) qK, qD⟩, va_recv hKc hPc (ci := 2) (q0 := 0) rfl rfl, fun U hU hW => ⟨rfl, by rw [hU], by rw [hU]; exact hPc, va_K.moved hW.alike hKc, hDc.weaken (fun _ _ _ _ => trivial)⟩⟩ rfl rfl hl.1 rfl (lv_room (Nat.le_of_ble_eq_true rfl)) dX1_rewrite_11 ⟨Nat.le_of_ble_eq_true rfl, Nat.le_of_ble_eq_true rfl⟩) hS (fun q _ h => hFc q h) hFc (fun r_2 u t H1 locs ht hvm hw hB hz1 hk1 hS => ?_)
  obtain ⟨hP1, hK1, hD1⟩ := hB
  rw [ht] at hP1
  have hK1 := va_K.moved hvm.symm hK1
  try dsimp only at hw
  obtain ⟨hP, hD⟩ := va_join (wr := []) (w1 := [(oF, .inr (2, [.int mo, .ref oS, .int th, .int om, .int sd, .int po, .int (fSL om lr), .long lv, .int (nI d)])), (oS, .inr (1, [.ref oA, .ref oB, .int (nI h)])), (oA, .inl (cA, n, .inl P)), (oB, .inl (cB, n, .inr (.inl V)))]) hP hD [0, 1, 2, 3] [] rfl rfl (by decide) (by decide) hk1 hFc hP1 hD1
  generalize H1 = H at hP hS ⊢
  have hP : va_P (dC, dI) vwCl [(oF, .inr (2, [.int mo, .ref oS, .int th, .int om, .int sd, .int po, .int (fSL om lr), .long lv, .int (nI d)])), (oS, .inr (1, [.ref oA, .ref oB, .int (nI h)])), (oA, .inl (cA, n, .inl P)), (oB, .inl (cB, n, .inr (.inl V)))] H := hP.sub [0, 1, 2, 3] rfl
  have hD : va_D A [(oF, .inr (2, [.int mo, .ref oS, .int th, .int om, .int sd, .int po, .int (fSL om lr), .long lv, .int (nI d)])), (oS, .inr (1, [.ref oA, .ref oB, .int (nI h)])), (oA, .inl (cA, n, .inl P)), (oB, .inl (cB, n, .inr (.inl V)))] := hD.sub [0, 1, 2, 3] (by decide) rfl
  have hK : va_K (dC, dI) vwCl [(cA, .int), (cB, .long)] s := hK
  subst hw
  refine lv_istore (lv' := [(5, .int (fSC om P h p0 (fPC lr p0))), (4, .int (fPC lr p0)), (0, .ref oF), (1, .int p0), (2, .long p1)]) hx hb dX1_rewrite_14 hl (by decide) rfl (fun ls hl => ?_)
  refine lv_iload hx hb dX1_rewrite_16 (lv_at hl 0 rfl) ?_
  refine lv_if_ne (tgt := 36) hx hb dX1_rewrite_18 (by decide) (fun c_3 => ?_) (fun c_3 => ?_)
  · -- taken at 18: ¬ (fSC om P h p0 (fPC lr p0)) = 0
    refine lv_iload hx hb dX1_rewrite_36 (lv_at hl 0 rfl) ?_
    subst hQ9
    have e9 : fRewr p0 p1 (th, om, sd, po, lr, lv, d, P, V, h) = (fSC om P h p0 (fPC lr p0), (th, om, sd, po, fSL om lr, lv, d, P, V, h)) := by simp only [fRewr, if_neg c_3]
    rw [e9]
    exact W.iret (v := fSC om P h p0 (fPC lr p0)) hx hb hr (fun t ht hW => ⟨⟨fSC om P h p0 (fPC lr p0), (), rfl, rfl, by rw [ht]; exact hP, va_K.moved hW.alike hK, hD⟩, hS.F ht⟩) hS.2.2 dX1_rewrite_38
  · -- not taken at 18: (fSC om P h p0 (fPC lr p0)) = 0
    refine lv_aload_n hx hb dX1_rewrite_21 rfl (lv_at hl 2 rfl) ?_
    refine va_get (D := (dC, dI)) (ci := 2) (v := .ref oS) (C := RX1) (T := TX1) (N := 9) hx hb hts (by decide +kernel) hown hK hP 0 rfl rfl 1 (by decide) (hts (.fieldLink RX1 28 "RelativeFiles" "shelf" "LRelativeFiles$Shelf;") (by decide +kernel)) (fun _ h9 => h9) rfl dX1_rewrite_22 ?_
    refine lv_iload hx hb dX1_rewrite_25 (lv_at hl 1 rfl) ?_
    refine lv_lload_n hx hb dX1_rewrite_27 rfl (lv_at hl 4 rfl) ?_
    have hq := fSC_has c_3
    have hPc := hP.sub (ws' := [(oS, .inr (1, [.ref oA, .ref oB, .int (nI h)])), (oA, .inl (cA, n, .inl P)), (oB, .inl (cB, n, .inr (.inl V)))]) [1, 2, 3] rfl
    have hDc := hD.sub (ws' := [(oS, .inr (1, [.ref oA, .ref oB, .int (nI h)])), (oA, .inl (cA, n, .inl P)), (oB, .inl (cB, n, .inr (.inl V)))]) [1, 2, 3] (by decide) rfl
    have hKc := hK.sub (tys' := [(cA, .int), (cB, .long)]) [0, 1] rfl
    have hFc := va_free (wc := [(oS, .inr (1, [.ref oA, .ref oB, .int (nI h)])), (oA, .inl (cA, n, .inl P)), (oB, .inl (cB, n, .inr (.inl V)))]) hD hS hA [1, 2, 3] rfl
    refine va_callv (va_runV (As := [.int (fPC lr p0), .long p1]) (rest := []) ⟨hx, hb, hml, hown, hts⟩ (kX0_replace l dC dI oS oA oB cA cB n h P V (fPC lr p0) p1 H.size hh hn hq) (cwV 2 hts gX1_rewrite_X0_replace rfl rfl rfl (by decide +kernel) ⟨Nat.le_of_ble_eq_true rfl, Nat.le_of_ble_eq_true rfl⟩) ⟨fun a U g mk q => by obtain ⟨q0, q1, qP, qK, qD⟩ := q; exact ⟨q0, q1, qP, va_K.moved (u := U) (U := U.calling g mk a) (Vm.Alike.refl U.vm) qK, qD⟩, va_recv hKc hPc (ci := 1) (q0 := 0) rfl rfl, fun U hU hW => ⟨rfl, by rw [hU], by rw [hU]; exact hPc, va_K.moved hW.alike hKc, hDc.weaken (fun _ _ _ _ => trivial)⟩⟩ rfl rfl hl.1 rfl (lv_room (Nat.le_of_ble_eq_true rfl)) dX1_rewrite_28 ⟨Nat.le_of_ble_eq_true rfl, Nat.le_of_ble_eq_true rfl⟩) hS (fun q _ h => hFc q h) hFc (fun u t H1 locs ht hvm hw hB hz1 hk1 hS => ?_)
    obtain ⟨hP1, hK1, hD1⟩ := hB
    rw [ht] at hP1
    have hK1 := va_K.moved hvm.symm hK1
    try dsimp only at hw
    obtain ⟨hP, hD⟩ := va_join (wr := [(oF, .inr (2, [.int mo, .ref oS, .int th, .int om, .int sd, .int po, .int (fSL om lr), .long lv, .int (nI d)]))]) (w1 := [(oS, .inr (1, [.ref oA, .ref oB, .int (nI h)])), (oA, .inl (cA, n, .inl P)), (oB, .inl (cB, n, .inr (.inl (vp_updL V (rk P (fPC lr p0) h) p1))))]) hP hD [1, 2, 3] [0] rfl rfl (by decide) (by decide) hk1 hFc hP1 hD1
    generalize H1 = H at hP hS ⊢
    have hP : va_P (dC, dI) vwCl [(oF, .inr (2, [.int mo, .ref oS, .int th, .int om, .int sd, .int po, .int (fSL om lr), .long lv, .int (nI d)])), (oS, .inr (1, [.ref oA, .ref oB, .int (nI h)])), (oA, .inl (cA, n, .inl P)), (oB, .inl (cB, n, .inr (.inl (vp_updL V (rk P (fPC lr p0) h) p1))))] H := hP.sub [0, 1, 2, 3] rfl
    have hD : va_D A [(oF, .inr (2, [.int mo, .ref oS, .int th, .int om, .int sd, .int po, .int (fSL om lr), .long lv, .int (nI d)])), (oS, .inr (1, [.ref oA, .ref oB, .int (nI h)])), (oA, .inl (cA, n, .inl P)), (oB, .inl (cB, n, .inr (.inl (vp_updL V (rk P (fPC lr p0) h) p1))))] := hD.sub [0, 1, 2, 3] (by decide) rfl
    have hK : va_K (dC, dI) vwCl [(cA, .int), (cB, .long)] s := hK
    refine lv_aload_n hx hb dX1_rewrite_31 rfl (lv_at hl 2 rfl) ?_
    refine lv_lload_n hx hb dX1_rewrite_32 rfl (lv_at hl 4 rfl) ?_
    refine va_put (D := (dC, dI)) (ci := 2) (v := .long p1) (ty := .long) (C := RX1) (T := TX1) (N := 9) hx hb hts (by decide +kernel) tyX1 tyX1_ok nmX1 hown hK hP hD hS 0 rfl rfl 7 (by decide) (hts (.fieldLink RX1 48 "RelativeFiles" "lastValue" "J") (by decide +kernel)) (fun _ h9 => h9) rfl (by decide +kernel) rfl rfl (Nat.le_of_ble_eq_true rfl) dX1_rewrite_33 (fun H locs hP hD hS => ?_)
    have hP : va_P (dC, dI) vwCl [(oF, .inr (2, [.int mo, .ref oS, .int th, .int om, .int sd, .int po, .int (fSL om lr), .long p1, .int (nI d)])), (oS, .inr (1, [.ref oA, .ref oB, .int (nI h)])), (oA, .inl (cA, n, .inl P)), (oB, .inl (cB, n, .inr (.inl (vp_updL V (rk P (fPC lr p0) h) p1))))] H := hP
    have hD : va_D A [(oF, .inr (2, [.int mo, .ref oS, .int th, .int om, .int sd, .int po, .int (fSL om lr), .long p1, .int (nI d)])), (oS, .inr (1, [.ref oA, .ref oB, .int (nI h)])), (oA, .inl (cA, n, .inl P)), (oB, .inl (cB, n, .inr (.inl (vp_updL V (rk P (fPC lr p0) h) p1))))] := hD
    refine lv_iload hx hb dX1_rewrite_36 (lv_at hl 0 rfl) ?_
    subst hQ9
    have e9 : fRewr p0 p1 (th, om, sd, po, lr, lv, d, P, V, h) = (fSC om P h p0 (fPC lr p0), (th, om, sd, po, fSL om lr, p1, d, P, vp_updL V (rk P (fPC lr p0) h) p1, h)) := by simp only [fRewr, if_pos c_3]
    rw [e9]
    exact W.iret (v := fSC om P h p0 (fPC lr p0)) hx hb hr (fun t ht hW => ⟨⟨fSC om P h p0 (fPC lr p0), (), rfl, rfl, by rw [ht]; exact hP, va_K.moved hW.alike hK, hD⟩, hS.F ht⟩) hS.2.2 dX1_rewrite_38

set_option maxHeartbeats 1000000 in
set_option maxRecDepth 100000 in
theorem kX1_remove (l : Launch) (dC : Nat → ClassId) (dI : Nat → Nat → Nat) (oF oS oA oB : Nat) (cA cB : ClassId) (n h d : Nat) (mo th om sd po lr : Int32) (lv : Int64) (P : Nat → Int32) (V : Nat → Int64) (p0 : Int32) (sz : Nat) (hh : h ≤ n) (hn : n ≤ 512) : Met l yX1_remove wsX1_remove ({ frames := 3, cells := 0, slots := 0, locals := 65 }) (va_Pc [.ref oF, .int p0] (fun U => U.heap.size = sz ∧ va_P (dC, dI) vwCl [(oF, .inr (2, [.int mo, .ref oS, .int th, .int om, .int sd, .int po, .int lr, .long lv, .int (nI d)])), (oS, .inr (1, [.ref oA, .ref oB, .int (nI h)])), (oA, .inl (cA, n, .inl P)), (oB, .inl (cB, n, .inr (.inl V)))] U.heap ∧ va_K (dC, dI) vwCl [(cA, .int), (cB, .long)] U ∧ va_D (fun _ => True) [(oF, .inr (2, [.int mo, .ref oS, .int th, .int om, .int sd, .int po, .int lr, .long lv, .int (nI d)])), (oS, .inr (1, [.ref oA, .ref oB, .int (nI h)])), (oA, .inl (cA, n, .inl P)), (oB, .inl (cB, n, .inr (.inl V)))])) (va_Qi (fun (r : Int32) (_ : Unit) => r = (fRem p0 (th, om, sd, po, lr, lv, d, P, V, h)).1) (fun (_ : Unit) (t : State) => va_P (dC, dI) vwCl (wF oF oS oA oB cA cB n mo (fRem p0 (th, om, sd, po, lr, lv, d, P, V, h)).2) t.heap ∧ va_K (dC, dI) vwCl [(cA, .int), (cB, .long)] t ∧ va_D (va_A [(oF, .inr (2, [.int mo, .ref oS, .int th, .int om, .int sd, .int po, .int lr, .long lv, .int (nI d)])), (oS, .inr (1, [.ref oA, .ref oB, .int (nI h)])), (oA, .inl (cA, n, .inl P)), (oB, .inl (cB, n, .inr (.inl V)))] sz) (wF oF oS oA oB cA cB n mo (fRem p0 (th, om, sd, po, lr, lv, d, P, V, h)).2)) (va_A [(oF, .inr (2, [.int mo, .ref oS, .int th, .int om, .int sd, .int po, .int lr, .long lv, .int (nI d)])), (oS, .inr (1, [.ref oA, .ref oB, .int (nI h)])), (oA, .inl (cA, n, .inl P)), (oB, .inl (cB, n, .inr (.inl V)))] sz)) 0 0 (va_A [(oF, .inr (2, [.int mo, .ref oS, .int th, .int om, .int sd, .int po, .int lr, .long lv, .int (nI d)])), (oS, .inr (1, [.ref oA, .ref oB, .int (nI h)])), (oA, .inl (cA, n, .inl P)), (oB, .inl (cB, n, .inr (.inl V)))] sz) := by
  refine Met.ofW (cc := cX1_remove) (maxL := 4) (ret := (some .int)) (by decide) rfl ?_
  intro p e s m args below meth c s₁ B hml hv
  obtain ⟨rfl, hsz, hP, hK, hD0⟩ := hv
  have hx := B.exec
  have hb := B.bytes
  have hr := B.returns
  have hts := atoms_spec (ws := wsX1_remove) B.pre
  have hown : s.vm.findClass RX1 = some m.cls := findClass_of_methodNamed B.named
  have hlocks := B.notSynchronized
  subst hsz
  have hD := hD0.self (sz := s.heap.size)
  generalize hAe : va_A [(oF, .inr (2, [.int mo, .ref oS, .int th, .int om, .int sd, .int po, .int lr, .long lv, .int (nI d)])), (oS, .inr (1, [.ref oA, .ref oB, .int (nI h)])), (oA, .inl (cA, n, .inl P)), (oB, .inl (cB, n, .inr (.inl V)))] s.heap.size = A at hD ⊢
  have hA : ∀ q : Nat, s.heap.size ≤ q → A q := fun q h => by rw [← hAe]; exact Or.inr h
  have hS : va_S A s.heap s.heap [] := va_S.rf
  have hP : va_P (dC, dI) vwCl [(oF, .inr (2, [.int mo, .ref oS, .int th, .int om, .int sd, .int po, .int lr, .long lv, .int (nI d)])), (oS, .inr (1, [.ref oA, .ref oB, .int (nI h)])), (oA, .inl (cA, n, .inl P)), (oB, .inl (cB, n, .inr (.inl V)))] s.heap := hP
  have hl := lv_entry ([.ref oF, .int p0]) (n := 4) (Nat.le_of_ble_eq_true rfl)
  rw [lg_entry_eq]
  generalize (lg_sl ([.ref oF, .int p0]) ++ List.replicate (4 - (lg_sl ([.ref oF, .int p0])).length) Slot.unset).toArray = ls at hl ⊢
  have hl : lv_has ls 4 [(0, .ref oF), (1, .int p0)] := hl
  refine W_name (fun Q hQ9 => ?_)
  refine lv_aload_n hx hb dX1_remove_0 rfl (lv_at hl 0 rfl) ?_
  refine lv_iload_n hx hb dX1_remove_1 rfl (lv_at hl 1 rfl) ?_
  have hPc := hP.sub (ws' := [(oF, .inr (2, [.int mo, .ref oS, .int th, .int om, .int sd, .int po, .int lr, .long lv, .int (nI d)])), (oS, .inr (1, [.ref oA, .ref oB, .int (nI h)])), (oA, .inl (cA, n, .inl P)), (oB, .inl (cB, n, .inr (.inl V)))]) [0, 1, 2, 3] rfl
  have hDc := hD.sub (ws' := [(oF, .inr (2, [.int mo, .ref oS, .int th, .int om, .int sd, .int po, .int lr, .long lv, .int (nI d)])), (oS, .inr (1, [.ref oA, .ref oB, .int (nI h)])), (oA, .inl (cA, n, .inl P)), (oB, .inl (cB, n, .inr (.inl V)))]) [0, 1, 2, 3] (by decide) rfl
  have hKc := hK.sub (tys' := [(cA, .int), (cB, .long)]) [0, 1] rfl
  have hFc := va_free (wc := [(oF, .inr (2, [.int mo, .ref oS, .int th, .int om, .int sd, .int po, .int lr, .long lv, .int (nI d)])), (oS, .inr (1, [.ref oA, .ref oB, .int (nI h)])), (oA, .inl (cA, n, .inl P)), (oB, .inl (cB, n, .inr (.inl V)))]) hD hS hA [0, 1, 2, 3] rfl
  refine va_calli (va_runV (As := [.int p0]) (rest := []) ⟨hx, hb, hml, hown, hts⟩ (kX1_placeToChange l dC dI oF oS oA oB cA cB n h d mo th om sd po lr lv P V p0 s.heap.size hh hn) (cwV 1 hts gX1_remove_X1_placeToChange rfl rfl rfl (by decide +kernel) ⟨Nat.le_of_ble_eq_true rfl, Nat.le_of_ble_eq_true rfl⟩) ⟨fun a U g mk q => by obtain ⟨q0, q1, qP, qK, qD⟩ := q; exact ⟨q0, q1, qP, va_K.moved (u := U) (U := U.calling g mk a) (Vm.Alike.refl U.vm) qK, qD⟩, va_recv hKc hPc (ci := 2) (q0 := 0) rfl rfl, fun U hU hW => ⟨rfl, by rw [hU], by rw [hU]; exact hPc, va_K.moved hW.alike hKc, hDc.weaken (fun _ _ _ _ => trivial)⟩⟩ rfl rfl hl.1 rfl (lv_room (Nat.le_of_ble_eq_true rfl)) dX1_remove_2 ⟨Nat.le_of_ble_eq_true rfl, Nat.le_of_ble_eq_true rfl⟩) hS (fun q _ h => hFc q h) hFc (fun r_1 u t H1 locs ht hvm hw hB hz1 hk1 hS => ?_)
  obtain ⟨hP1, hK1, hD1⟩ := hB
  rw [ht] at hP1
  have hK1 := va_K.moved hvm.symm hK1
  try dsimp only at hw
  obtain ⟨hP, hD⟩ := va_join (wr := []) (w1 := [(oF, .inr (2, [.int mo, .ref oS, .int th, .int om, .int sd, .int po, .int lr, .long lv, .int (nI d)])), (oS, .inr (1, [.ref oA, .ref oB, .int (nI h)])), (oA, .inl (cA, n, .inl P)), (oB, .inl (cB, n, .inr (.inl V)))]) hP hD [0, 1, 2, 3] [] rfl rfl (by decide) (by decide) hk1 hFc hP1 hD1
  generalize H1 = H at hP hS ⊢
  have hP : va_P (dC, dI) vwCl [(oF, .inr (2, [.int mo, .ref oS, .int th, .int om, .int sd, .int po, .int lr, .long lv, .int (nI d)])), (oS, .inr (1, [.ref oA, .ref oB, .int (nI h)])), (oA, .inl (cA, n, .inl P)), (oB, .inl (cB, n, .inr (.inl V)))] H := hP.sub [0, 1, 2, 3] rfl
  have hD : va_D A [(oF, .inr (2, [.int mo, .ref oS, .int th, .int om, .int sd, .int po, .int lr, .long lv, .int (nI d)])), (oS, .inr (1, [.ref oA, .ref oB, .int (nI h)])), (oA, .inl (cA, n, .inl P)), (oB, .inl (cB, n, .inr (.inl V)))] := hD.sub [0, 1, 2, 3] (by decide) rfl
  have hK : va_K (dC, dI) vwCl [(cA, .int), (cB, .long)] s := hK
  subst hw
  refine lv_istore_n (lv' := [(2, .int (fPC lr p0)), (0, .ref oF), (1, .int p0)]) hx hb dX1_remove_5 rfl hl (by decide) rfl (fun ls hl => ?_)
  refine lv_aload_n hx hb dX1_remove_6 rfl (lv_at hl 1 rfl) ?_
  refine lv_iload_n hx hb dX1_remove_7 rfl (lv_at hl 2 rfl) ?_
  refine lv_iload_n hx hb dX1_remove_8 rfl (lv_at hl 0 rfl) ?_
  have hPc := hP.sub (ws' := [(oF, .inr (2, [.int mo, .ref oS, .int th, .int om, .int sd, .int po, .int lr, .long lv, .int (nI d)])), (oS, .inr (1, [.ref oA, .ref oB, .int (nI h)])), (oA, .inl (cA, n, .inl P)), (oB, .inl (cB, n, .inr (.inl V)))]) [0, 1, 2, 3] rfl
  have hDc := hD.sub (ws' := [(oF, .inr (2, [.int mo, .ref oS, .int th, .int om, .int sd, .int po, .int lr, .long lv, .int (nI d)])), (oS, .inr (1, [.ref oA, .ref oB, .int (nI h)])), (oA, .inl (cA, n, .inl P)), (oB, .inl (cB, n, .inr (.inl V)))]) [0, 1, 2, 3] (by decide) rfl
  have hKc := hK.sub (tys' := [(cA, .int), (cB, .long)]) [0, 1] rfl
  have hFc := va_free (wc := [(oF, .inr (2, [.int mo, .ref oS, .int th, .int om, .int sd, .int po, .int lr, .long lv, .int (nI d)])), (oS, .inr (1, [.ref oA, .ref oB, .int (nI h)])), (oA, .inl (cA, n, .inl P)), (oB, .inl (cB, n, .inr (.inl V)))]) hD hS hA [0, 1, 2, 3] rfl
  refine va_calli (va_runV (As := [.int p0, .int (fPC lr p0)]) (rest := []) ⟨hx, hb, hml, hown, hts⟩ (kX1_statusOfChange l dC dI oF oS oA oB cA cB n h d mo th om sd po lr lv P V p0 (fPC lr p0) H.size hh hn) (cwV 2 hts gX1_remove_X1_statusOfChange rfl rfl rfl (by decide +kernel) ⟨Nat.le_of_ble_eq_true rfl, Nat.le_of_ble_eq_true rfl⟩) ⟨fun a U g mk q => by obtain ⟨q0, q1, qP, qK, qD⟩ := q; exact ⟨q0, q1, qP, va_K.moved (u := U) (U := U.calling g mk a) (Vm.Alike.refl U.vm) qK, qD⟩, va_recv hKc hPc (ci := 2) (q0 := 0) rfl rfl, fun U hU hW => ⟨rfl, by rw [hU], by rw [hU]; exact hPc, va_K.moved hW.alike hKc, hDc.weaken (fun _ _ _ _ => trivial)⟩⟩ rfl rfl hl.1 rfl (lv_room (Nat.le_of_ble_eq_true rfl)) dX1_remove_9 ⟨Nat.le_of_ble_eq_true rfl, Nat.le_of_ble_eq_true rfl⟩) hS (fun q _ h => hFc q h) hFc (fun r_2 u t H1 locs ht hvm hw hB hz1 hk1 hS => ?_)
  obtain ⟨hP1, hK1, hD1⟩ := hB
  rw [ht] at hP1
  have hK1 := va_K.moved hvm.symm hK1
  try dsimp only at hw
  obtain ⟨hP, hD⟩ := va_join (wr := []) (w1 := [(oF, .inr (2, [.int mo, .ref oS, .int th, .int om, .int sd, .int po, .int (fSL om lr), .long lv, .int (nI d)])), (oS, .inr (1, [.ref oA, .ref oB, .int (nI h)])), (oA, .inl (cA, n, .inl P)), (oB, .inl (cB, n, .inr (.inl V)))]) hP hD [0, 1, 2, 3] [] rfl rfl (by decide) (by decide) hk1 hFc hP1 hD1
  generalize H1 = H at hP hS ⊢
  have hP : va_P (dC, dI) vwCl [(oF, .inr (2, [.int mo, .ref oS, .int th, .int om, .int sd, .int po, .int (fSL om lr), .long lv, .int (nI d)])), (oS, .inr (1, [.ref oA, .ref oB, .int (nI h)])), (oA, .inl (cA, n, .inl P)), (oB, .inl (cB, n, .inr (.inl V)))] H := hP.sub [0, 1, 2, 3] rfl
  have hD : va_D A [(oF, .inr (2, [.int mo, .ref oS, .int th, .int om, .int sd, .int po, .int (fSL om lr), .long lv, .int (nI d)])), (oS, .inr (1, [.ref oA, .ref oB, .int (nI h)])), (oA, .inl (cA, n, .inl P)), (oB, .inl (cB, n, .inr (.inl V)))] := hD.sub [0, 1, 2, 3] (by decide) rfl
  have hK : va_K (dC, dI) vwCl [(cA, .int), (cB, .long)] s := hK
  subst hw
  refine lv_istore_n (lv' := [(3, .int (fSC om P h p0 (fPC lr p0))), (2, .int (fPC lr p0)), (0, .ref oF), (1, .int p0)]) hx hb dX1_remove_12 rfl hl (by decide) rfl (fun ls hl => ?_)
  refine lv_iload_n hx hb dX1_remove_13 rfl (lv_at hl 0 rfl) ?_
  refine lv_if_ne (tgt := 25) hx hb dX1_remove_14 (by decide) (fun c_3 => ?_) (fun c_3 => ?_)
  · -- taken at 14: ¬ (fSC om P h p0 (fPC lr p0)) = 0
    refine lv_iload_n hx hb dX1_remove_25 rfl (lv_at hl 0 rfl) ?_
    subst hQ9
    have e9 : fRem p0 (th, om, sd, po, lr, lv, d, P, V, h) = (fSC om P h p0 (fPC lr p0), (th, om, sd, po, fSL om lr, lv, d, P, V, h)) := by simp only [fRem, if_neg c_3]
    rw [e9]
    exact W.iret (v := fSC om P h p0 (fPC lr p0)) hx hb hr (fun t ht hW => ⟨⟨fSC om P h p0 (fPC lr p0), (), rfl, rfl, by rw [ht]; exact hP, va_K.moved hW.alike hK, hD⟩, hS.F ht⟩) hS.2.2 dX1_remove_26
  · -- not taken at 14: (fSC om P h p0 (fPC lr p0)) = 0
    refine lv_aload_n hx hb dX1_remove_17 rfl (lv_at hl 2 rfl) ?_
    refine va_get (D := (dC, dI)) (ci := 2) (v := .ref oS) (C := RX1) (T := TX1) (N := 9) hx hb hts (by decide +kernel) hown hK hP 0 rfl rfl 1 (by decide) (hts (.fieldLink RX1 28 "RelativeFiles" "shelf" "LRelativeFiles$Shelf;") (by decide +kernel)) (fun _ h9 => h9) rfl dX1_remove_18 ?_
    refine lv_iload_n hx hb dX1_remove_21 rfl (lv_at hl 1 rfl) ?_
    have hq := fSC_has c_3
    have hPc := hP.sub (ws' := [(oS, .inr (1, [.ref oA, .ref oB, .int (nI h)])), (oA, .inl (cA, n, .inl P)), (oB, .inl (cB, n, .inr (.inl V)))]) [1, 2, 3] rfl
    have hDc := hD.sub (ws' := [(oS, .inr (1, [.ref oA, .ref oB, .int (nI h)])), (oA, .inl (cA, n, .inl P)), (oB, .inl (cB, n, .inr (.inl V)))]) [1, 2, 3] (by decide) rfl
    have hKc := hK.sub (tys' := [(cA, .int), (cB, .long)]) [0, 1] rfl
    have hFc := va_free (wc := [(oS, .inr (1, [.ref oA, .ref oB, .int (nI h)])), (oA, .inl (cA, n, .inl P)), (oB, .inl (cB, n, .inr (.inl V)))]) hD hS hA [1, 2, 3] rfl
    refine va_callv (va_runV (As := [.int (fPC lr p0)]) (rest := []) ⟨hx, hb, hml, hown, hts⟩ (kX0_drop l dC dI oS oA oB cA cB n h P V (fPC lr p0) H.size hh hn hq) (cwV 1 hts gX1_remove_X0_drop rfl rfl rfl (by decide +kernel) ⟨Nat.le_of_ble_eq_true rfl, Nat.le_of_ble_eq_true rfl⟩) ⟨fun a U g mk q => by obtain ⟨q0, q1, qP, qK, qD⟩ := q; exact ⟨q0, q1, qP, va_K.moved (u := U) (U := U.calling g mk a) (Vm.Alike.refl U.vm) qK, qD⟩, va_recv hKc hPc (ci := 1) (q0 := 0) rfl rfl, fun U hU hW => ⟨rfl, by rw [hU], by rw [hU]; exact hPc, va_K.moved hW.alike hKc, hDc.weaken (fun _ _ _ _ => trivial)⟩⟩ rfl rfl hl.1 rfl (lv_room (Nat.le_of_ble_eq_true rfl)) dX1_remove_22 ⟨Nat.le_of_ble_eq_true rfl, Nat.le_of_ble_eq_true rfl⟩) hS (fun q _ h => hFc q h) hFc (fun u t H1 locs ht hvm hw hB hz1 hk1 hS => ?_)
    obtain ⟨hP1, hK1, hD1⟩ := hB
    rw [ht] at hP1
    have hK1 := va_K.moved hvm.symm hK1
    try dsimp only at hw
    obtain ⟨hP, hD⟩ := va_join (wr := [(oF, .inr (2, [.int mo, .ref oS, .int th, .int om, .int sd, .int po, .int (fSL om lr), .long lv, .int (nI d)]))]) (w1 := [(oS, .inr (1, [.ref oA, .ref oB, .int (nI (h - 1))])), (oA, .inl (cA, n, .inl (delA P (rk P (fPC lr p0) h) (h - 1)))), (oB, .inl (cB, n, .inr (.inl (delA V (rk P (fPC lr p0) h) (h - 1)))))]) hP hD [1, 2, 3] [0] rfl rfl (by decide) (by decide) hk1 hFc hP1 hD1
    generalize H1 = H at hP hS ⊢
    have hP : va_P (dC, dI) vwCl [(oF, .inr (2, [.int mo, .ref oS, .int th, .int om, .int sd, .int po, .int (fSL om lr), .long lv, .int (nI d)])), (oS, .inr (1, [.ref oA, .ref oB, .int (nI (h - 1))])), (oA, .inl (cA, n, .inl (delA P (rk P (fPC lr p0) h) (h - 1)))), (oB, .inl (cB, n, .inr (.inl (delA V (rk P (fPC lr p0) h) (h - 1)))))] H := hP.sub [0, 1, 2, 3] rfl
    have hD : va_D A [(oF, .inr (2, [.int mo, .ref oS, .int th, .int om, .int sd, .int po, .int (fSL om lr), .long lv, .int (nI d)])), (oS, .inr (1, [.ref oA, .ref oB, .int (nI (h - 1))])), (oA, .inl (cA, n, .inl (delA P (rk P (fPC lr p0) h) (h - 1)))), (oB, .inl (cB, n, .inr (.inl (delA V (rk P (fPC lr p0) h) (h - 1)))))] := hD.sub [0, 1, 2, 3] (by decide) rfl
    have hK : va_K (dC, dI) vwCl [(cA, .int), (cB, .long)] s := hK
    refine lv_iload_n hx hb dX1_remove_25 rfl (lv_at hl 0 rfl) ?_
    subst hQ9
    have e9 : fRem p0 (th, om, sd, po, lr, lv, d, P, V, h) = (fSC om P h p0 (fPC lr p0), (th, om, sd, po, fSL om lr, lv, d, delA P (rk P (fPC lr p0) h) (h - 1), delA V (rk P (fPC lr p0) h) (h - 1), (h - 1))) := by simp only [fRem, if_pos c_3]
    rw [e9]
    exact W.iret (v := fSC om P h p0 (fPC lr p0)) hx hb hr (fun t ht hW => ⟨⟨fSC om P h p0 (fPC lr p0), (), rfl, rfl, by rw [ht]; exact hP, va_K.moved hW.alike hK, hD⟩, hS.F ht⟩) hS.2.2 dX1_remove_26
