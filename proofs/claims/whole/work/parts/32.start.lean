set_option maxHeartbeats 1000000 in
set_option maxRecDepth 100000 in
theorem whole_start {p : Program} {e : Env} {s : State} {m : MethodId} {below : List Frame} {meth : Method} {c : Code} (l : Launch) (hl9 : l.stackTraces = false) {b L : Nat} {xs : Nat → Int32} (hL : L ≤ 2049) (C0 : lw_At p s m meth c b L xs) : W p l e room_1 s m #[Value.ref b] below meth c s.heap [] 0 0 (lw_Z below #[Value.ref b] s) (entryFrame m ([Value.ref b] : List Value).toArray 8) := by
  obtain ⟨hx, hb, hr, hml, hown0, hts0, hX, hbl, hlocks, hgv⟩ := id C0
  have hown : s.vm.findClass RL = some m.cls := hown0
  have hts : ∀ w ∈ wsL_law, w.before #[Value.ref b] s = true := fun w h => hts0 w (wsL_law_in w h)
  have hA : ∀ q : Nat, s.heap.size ≤ q → (fun q : Nat => s.heap.size ≤ q) q := fun _ h => h
  have hbA : ¬ (fun q : Nat => s.heap.size ≤ q) b := Nat.not_le.mpr hbl
  have hfl := flat_of_before _ hgv
  have hok := zt_ok0 hts0 (hfl _ (by decide +kernel)) (hfl _ (by decide +kernel))
  obtain ⟨sa, hstr⟩ := zt_str (s := s) (hts0 _ (by decide +kernel)) (hfl _ (by decide +kernel))
  obtain ⟨c0, iS0, hKn0⟩ := u_known (C := RJx00060) (T := TJx00060) (N := 6) (n := 6) hts0 inJx00060 (hts0 (.instantiable RJx00060 6) (by decide +kernel))
  obtain ⟨c1, iS1, hKn1⟩ := u_known (C := RX0) (T := TX0) (N := 3) (n := 3) hts0 inX0 (hts0 (.instantiable RX0 3) (by decide +kernel))
  obtain ⟨c2, iS2, hKn2⟩ := u_known (C := RX1) (T := TX1) (N := 9) (n := 9) hts0 inX1 (hts0 (.instantiable RX1 9) (by decide +kernel))
  obtain ⟨c3, iS3, hKn3⟩ := u_known (C := RX2) (T := TX2) (N := 13) (n := 13) hts0 inX2 (hts0 (.instantiable RX2 13) (by decide +kernel))
  obtain ⟨dC, dI, hKc⟩ : ∃ (dC : Nat → ClassId) (dI : Nat → Nat → Nat), ∀ (k : Nat) (q : vw_C), vwCl[k]? = some q → u_Kn s q.1 q.2.1 q.2.2 (dC k) (dI k) := by
    refine ⟨fun k => if k = 0 then c0 else if k = 1 then c1 else if k = 2 then c2 else c3, fun k => if k = 0 then iS0 else if k = 1 then iS1 else if k = 2 then iS2 else iS3, ?_⟩
    intro k q hq
    match k, hq with
    | 0, hq => cases hq; exact hKn0
    | 1, hq => cases hq; exact hKn1
    | 2, hq => cases hq; exact hKn2
    | 3, hq => cases hq; exact hKn3
    | k + 4, hq => simp [vwCl] at hq
  have hS : va_S (fun q : Nat => s.heap.size ≤ q) s.heap s.heap [] := va_S.rf
  have hK : va_K (dC, dI) vwCl [] s := ⟨hKc, fun k q h => by simp at h⟩
  have hP : va_P (dC, dI) vwCl [] s.heap := fun k q h => by simp at h
  have hD : va_D (fun q : Nat => s.heap.size ≤ q) [] := ⟨fun i j p q h => by simp at h, fun k q h => by simp at h⟩
  have hl := lv_entry ([.ref b]) (n := 8) (Nat.le_of_ble_eq_true rfl)
  rw [lg_entry_eq]
  generalize (lg_sl ([.ref b]) ++ List.replicate (8 - (lg_sl ([.ref b])).length) Slot.unset).toArray = ls at hl ⊢
  have hl : lv_has ls 8 [(0, .ref b)] := hl
  refine va_new (ci := 2) (fs := [.int 0, .null, .int 0, .int 0, .int 0, .int 0, .int 0, .long 0, .int 0]) (C := RX1) (T := TX1) (N := 9) hx hb hts (by decide +kernel) tyX1 tyX1_ok hown (hts (.classLink RL 8 RX1) (by decide +kernel)) (hts (.instantiable RX1 9) (by decide +kernel)) (hts (.initialized RX1) (by decide +kernel)) hK hP hD hS hA rfl (fun j hj => by rcases (show j = 0 ∨ j = 1 ∨ j = 2 ∨ j = 3 ∨ j = 4 ∨ j = 5 ∨ j = 6 ∨ j = 7 ∨ j = 8 by omega) with rfl | rfl | rfl | rfl | rfl | rfl | rfl | rfl | rfl <;> rfl) (show 0 + 1 ≤ 601024 by omega) (show 0 + 9 ≤ 7293000 by omega) dL_law_0 (fun q_1 H hP hD hS => ?_)
  have hP : va_P (dC, dI) vwCl [(q_1, .inr (2, [.int 0, .null, .int 0, .int 0, .int 0, .int 0, .int 0, .long 0, .int 0]))] H := hP
  have hD : va_D (fun q : Nat => s.heap.size ≤ q) [(q_1, .inr (2, [.int 0, .null, .int 0, .int 0, .int 0, .int 0, .int 0, .long 0, .int 0]))] := hD
  refine lv_dup hx hb dL_law_3 rfl ?_
  refine lv_aload_n hx hb dL_law_4 rfl (lv_at hl 0 rfl) ?_
  refine lv_iconst (v := 0) hx hb dL_law_5 (by decide) ?_
  have hFc := va_free (wc := []) hD hS hA [] rfl
  refine va_calli (va_runS (As := [.ref b, .int 0]) (rest := [.ref q_1, .ref q_1]) ⟨hx, hb, hml, hown, hts⟩ (kL_cell l b L xs H.size hL) (va_cwS 2 hts gL_law_L_cell rfl rfl rfl (by decide +kernel) ⟨Nat.le_of_ble_eq_true rfl, Nat.le_of_ble_eq_true rfl⟩) ⟨fun a U g mk q => by obtain ⟨q0, q1, qX, qb⟩ := q; exact ⟨q0, q1, va_X.moved (u := U) (U := U.calling g mk a) (Vm.Alike.refl U.vm) qX, qb⟩, fun U hU hW => ⟨rfl, by rw [hU], by rw [hU]; exact va_X.moved hW.alike (va_X.kept hX (hS.2.1 b hbl hbA)), Nat.lt_of_lt_of_le hbl hS.1⟩⟩ rfl rfl hl.1 rfl (lv_room (Nat.le_of_ble_eq_true rfl)) dL_law_6 ⟨(show (0 + 1) + 0 ≤ 601024 by omega), (show (0 + 9) + 0 ≤ 7293000 by omega)⟩) hS (fun q _ h => hFc q h) hFc (fun r_2 u9 t9 H1 locs ht9 hvm hw_3 hB hz1 hk1 hS => ?_)
  obtain ⟨hP, hD⟩ := va_join (wr := [(q_1, .inr (2, [.int 0, .null, .int 0, .int 0, .int 0, .int 0, .int 0, .long 0, .int 0]))]) (w1 := []) hP hD [] [0] rfl rfl (by decide) (by decide) hk1 hFc (fun k q h => by simp at h) ⟨fun i j p q h => by simp at h, fun k q h => by simp at h⟩
  generalize H1 = H at hP hS ⊢
  have hP : va_P (dC, dI) vwCl [(q_1, .inr (2, [.int 0, .null, .int 0, .int 0, .int 0, .int 0, .int 0, .long 0, .int 0]))] H := hP
  have hD : va_D (fun q : Nat => s.heap.size ≤ q) [(q_1, .inr (2, [.int 0, .null, .int 0, .int 0, .int 0, .int 0, .int 0, .long 0, .int 0]))] := hD
  have hw_3 : r_2 = if 0 < L then xs 0 else 0 := hw_3
  have hPc := hP.sub (ws' := [(q_1, .inr (2, [.int 0, .null, .int 0, .int 0, .int 0, .int 0, .int 0, .long 0, .int 0]))]) [0] rfl
  have hDc := hD.sub (ws' := [(q_1, .inr (2, [.int 0, .null, .int 0, .int 0, .int 0, .int 0, .int 0, .long 0, .int 0]))]) [0] (by decide) rfl
  have hKc := hK.sub (tys' := []) [] rfl
  have hFc := va_free (wc := [(q_1, .inr (2, [.int 0, .null, .int 0, .int 0, .int 0, .int 0, .int 0, .long 0, .int 0]))]) hD hS hA [0] rfl
  refine va_callv (va_runI (As := [.int r_2]) (rest := [.ref q_1]) ⟨hx, hb, hml, hown, hts⟩ (kX1_init l dC dI q_1 r_2 H.size) (cwI 1 hts gL_law_X1_init rfl rfl rfl (hts (.initialized RX1) (by decide +kernel)) (hts (.methodLink RL 20 yX1_init) (by decide +kernel)) (hts (.instanceMethod yX1_init) (by decide +kernel)) rfl (by decide +kernel) ⟨Nat.le_of_ble_eq_true rfl, Nat.le_of_ble_eq_true rfl⟩) ⟨fun a U g mk q => by obtain ⟨q0, q1, qP, qK, qD⟩ := q; exact ⟨q0, q1, qP, va_K.moved (u := U) (U := U.calling g mk a) (Vm.Alike.refl U.vm) qK, qD⟩, fun U hU hW => ⟨rfl, by rw [hU], by rw [hU]; exact hPc, va_K.moved hW.alike hKc, hDc.weaken (fun _ _ _ _ => trivial)⟩⟩ rfl rfl hl.1 rfl (lv_room (Nat.le_of_ble_eq_true rfl)) dL_law_9 ⟨(show (0 + 1) + 3 ≤ 601024 by omega), (show (0 + 9) + 1027 ≤ 7293000 by omega)⟩) hS (fun q _ h => hFc q h) hFc (fun u9 t9 H1 locs ht9 hvm hw hB hz1 hk1 hS => ?_)
  obtain ⟨oS, oA, oB, cA, cB, hP1, hK1, hD1⟩ := hB
  rw [ht9] at hP1
  have hK1 := va_K.moved hvm.symm hK1
  try dsimp only at hw
  obtain ⟨hP, hD⟩ := va_join (wr := []) (w1 := [(q_1, .inr (2, [.int (nI (cM r_2)), .ref oS, .int 0, .int (-1), .int 0, .int 0, .int 0, .long 0, .int (nI 9)])), (oS, .inr (1, [.ref oA, .ref oB, .int (nI 0)])), (oA, .inl (cA, (min (cM r_2) 512), .inl (fun _ => 0))), (oB, .inl (cB, (min (cM r_2) 512), .inr (.inl (fun _ => 0))))]) hP hD [0] [] rfl rfl (by decide) (by decide) hk1 hFc hP1 hD1
  have hK := hK.app hK1
  generalize H1 = H at hP hS ⊢
  have hP : va_P (dC, dI) vwCl [(q_1, .inr (2, [.int (nI (cM r_2)), .ref oS, .int 0, .int (-1), .int 0, .int 0, .int 0, .long 0, .int (nI 9)])), (oS, .inr (1, [.ref oA, .ref oB, .int (nI 0)])), (oA, .inl (cA, (min (cM r_2) 512), .inl (fun _ => 0))), (oB, .inl (cB, (min (cM r_2) 512), .inr (.inl (fun _ => 0))))] H := hP.sub [0, 1, 2, 3] rfl
  have hD : va_D (fun q : Nat => s.heap.size ≤ q) [(q_1, .inr (2, [.int (nI (cM r_2)), .ref oS, .int 0, .int (-1), .int 0, .int 0, .int 0, .long 0, .int (nI 9)])), (oS, .inr (1, [.ref oA, .ref oB, .int (nI 0)])), (oA, .inl (cA, (min (cM r_2) 512), .inl (fun _ => 0))), (oB, .inl (cB, (min (cM r_2) 512), .inr (.inl (fun _ => 0))))] := hD.sub [0, 1, 2, 3] (by decide) rfl
  have hK : va_K (dC, dI) vwCl [(cA, .int), (cB, .long)] s := hK
  refine lv_astore_n (lv' := [(1, .ref q_1), (0, .ref b)]) hx hb dL_law_12 rfl hl (by decide) rfl (fun ls hl => ?_)
  refine va_new (ci := 3) (fs := [.int 0, .int 0, .null, .null, .int 0, .int 0, .int 0, .int 0, .int 0, .int 0, .int 0, .int 0, .long 0]) (C := RX2) (T := TX2) (N := 13) hx hb hts (by decide +kernel) tyX2 tyX2_ok hown (hts (.classLink RL 23 RX2) (by decide +kernel)) (hts (.instantiable RX2 13) (by decide +kernel)) (hts (.initialized RX2) (by decide +kernel)) hK hP hD hS hA rfl (fun j hj => by rcases (show j = 0 ∨ j = 1 ∨ j = 2 ∨ j = 3 ∨ j = 4 ∨ j = 5 ∨ j = 6 ∨ j = 7 ∨ j = 8 ∨ j = 9 ∨ j = 10 ∨ j = 11 ∨ j = 12 by omega) with rfl | rfl | rfl | rfl | rfl | rfl | rfl | rfl | rfl | rfl | rfl | rfl | rfl <;> rfl) (show ((0 + 1) + 3) + 1 ≤ 601024 by omega) (show ((0 + 9) + 1027) + 13 ≤ 7293000 by omega) dL_law_13 (fun q_5 H hP hD hS => ?_)
  have hP : va_P (dC, dI) vwCl [(q_1, .inr (2, [.int (nI (cM r_2)), .ref oS, .int 0, .int (-1), .int 0, .int 0, .int 0, .long 0, .int (nI 9)])), (oS, .inr (1, [.ref oA, .ref oB, .int (nI 0)])), (oA, .inl (cA, (min (cM r_2) 512), .inl (fun _ => 0))), (oB, .inl (cB, (min (cM r_2) 512), .inr (.inl (fun _ => 0)))), (q_5, .inr (3, [.int 0, .int 0, .null, .null, .int 0, .int 0, .int 0, .int 0, .int 0, .int 0, .int 0, .int 0, .long 0]))] H := hP
  have hD : va_D (fun q : Nat => s.heap.size ≤ q) [(q_1, .inr (2, [.int (nI (cM r_2)), .ref oS, .int 0, .int (-1), .int 0, .int 0, .int 0, .long 0, .int (nI 9)])), (oS, .inr (1, [.ref oA, .ref oB, .int (nI 0)])), (oA, .inl (cA, (min (cM r_2) 512), .inl (fun _ => 0))), (oB, .inl (cB, (min (cM r_2) 512), .inr (.inl (fun _ => 0)))), (q_5, .inr (3, [.int 0, .int 0, .null, .null, .int 0, .int 0, .int 0, .int 0, .int 0, .int 0, .int 0, .int 0, .long 0]))] := hD
  refine lv_dup hx hb dL_law_16 rfl ?_
  refine lv_aload_n hx hb dL_law_17 rfl (lv_at hl 1 rfl) ?_
  refine lv_iconst (v := 0) hx hb dL_law_18 (by decide) ?_
  have hFc := va_free (wc := []) hD hS hA [] rfl
  refine va_calli (va_runS (As := [.ref b, .int 0]) (rest := [.ref q_5, .ref q_5]) ⟨hx, hb, hml, hown, hts⟩ (kL_cell l b L xs H.size hL) (va_cwS 2 hts gL_law_L_cell rfl rfl rfl (by decide +kernel) ⟨Nat.le_of_ble_eq_true rfl, Nat.le_of_ble_eq_true rfl⟩) ⟨fun a U g mk q => by obtain ⟨q0, q1, qX, qb⟩ := q; exact ⟨q0, q1, va_X.moved (u := U) (U := U.calling g mk a) (Vm.Alike.refl U.vm) qX, qb⟩, fun U hU hW => ⟨rfl, by rw [hU], by rw [hU]; exact va_X.moved hW.alike (va_X.kept hX (hS.2.1 b hbl hbA)), Nat.lt_of_lt_of_le hbl hS.1⟩⟩ rfl rfl hl.1 rfl (lv_room (Nat.le_of_ble_eq_true rfl)) dL_law_19 ⟨(show (((0 + 1) + 3) + 1) + 0 ≤ 601024 by omega), (show (((0 + 9) + 1027) + 13) + 0 ≤ 7293000 by omega)⟩) hS (fun q _ h => hFc q h) hFc (fun r_6 u9 t9 H1 locs ht9 hvm hw_7 hB hz1 hk1 hS => ?_)
  obtain ⟨hP, hD⟩ := va_join (wr := [(q_1, .inr (2, [.int (nI (cM r_2)), .ref oS, .int 0, .int (-1), .int 0, .int 0, .int 0, .long 0, .int (nI 9)])), (oS, .inr (1, [.ref oA, .ref oB, .int (nI 0)])), (oA, .inl (cA, (min (cM r_2) 512), .inl (fun _ => 0))), (oB, .inl (cB, (min (cM r_2) 512), .inr (.inl (fun _ => 0)))), (q_5, .inr (3, [.int 0, .int 0, .null, .null, .int 0, .int 0, .int 0, .int 0, .int 0, .int 0, .int 0, .int 0, .long 0]))]) (w1 := []) hP hD [] [0, 1, 2, 3, 4] rfl rfl (by decide) (by decide) hk1 hFc (fun k q h => by simp at h) ⟨fun i j p q h => by simp at h, fun k q h => by simp at h⟩
  generalize H1 = H at hP hS ⊢
  have hP : va_P (dC, dI) vwCl [(q_1, .inr (2, [.int (nI (cM r_2)), .ref oS, .int 0, .int (-1), .int 0, .int 0, .int 0, .long 0, .int (nI 9)])), (oS, .inr (1, [.ref oA, .ref oB, .int (nI 0)])), (oA, .inl (cA, (min (cM r_2) 512), .inl (fun _ => 0))), (oB, .inl (cB, (min (cM r_2) 512), .inr (.inl (fun _ => 0)))), (q_5, .inr (3, [.int 0, .int 0, .null, .null, .int 0, .int 0, .int 0, .int 0, .int 0, .int 0, .int 0, .int 0, .long 0]))] H := hP
  have hD : va_D (fun q : Nat => s.heap.size ≤ q) [(q_1, .inr (2, [.int (nI (cM r_2)), .ref oS, .int 0, .int (-1), .int 0, .int 0, .int 0, .long 0, .int (nI 9)])), (oS, .inr (1, [.ref oA, .ref oB, .int (nI 0)])), (oA, .inl (cA, (min (cM r_2) 512), .inl (fun _ => 0))), (oB, .inl (cB, (min (cM r_2) 512), .inr (.inl (fun _ => 0)))), (q_5, .inr (3, [.int 0, .int 0, .null, .null, .int 0, .int 0, .int 0, .int 0, .int 0, .int 0, .int 0, .int 0, .long 0]))] := hD
  have hw_7 : r_6 = if 0 < L then xs 0 else 0 := hw_7
  have e9 : r_6 = r_2 := hw_7.trans hw_3.symm
  rw [e9]
  have hPc := hP.sub (ws' := [(q_5, .inr (3, [.int 0, .int 0, .null, .null, .int 0, .int 0, .int 0, .int 0, .int 0, .int 0, .int 0, .int 0, .long 0]))]) [4] rfl
  have hDc := hD.sub (ws' := [(q_5, .inr (3, [.int 0, .int 0, .null, .null, .int 0, .int 0, .int 0, .int 0, .int 0, .int 0, .int 0, .int 0, .long 0]))]) [4] (by decide) rfl
  have hKc := hK.sub (tys' := []) [] rfl
  have hFc := va_free (wc := [(q_5, .inr (3, [.int 0, .int 0, .null, .null, .int 0, .int 0, .int 0, .int 0, .int 0, .int 0, .int 0, .int 0, .long 0]))]) hD hS hA [4] rfl
  refine va_callv (va_runI (As := [.int r_2]) (rest := [.ref q_5]) ⟨hx, hb, hml, hown, hts⟩ (kX2_init l dC dI q_5 r_2 H.size) (cwI 1 hts gL_law_X2_init rfl rfl rfl (hts (.initialized RX2) (by decide +kernel)) (hts (.methodLink RL 25 yX2_init) (by decide +kernel)) (hts (.instanceMethod yX2_init) (by decide +kernel)) rfl (by decide +kernel) ⟨Nat.le_of_ble_eq_true rfl, Nat.le_of_ble_eq_true rfl⟩) ⟨fun a U g mk q => by obtain ⟨q0, q1, qP, qK, qD⟩ := q; exact ⟨q0, q1, qP, va_K.moved (u := U) (U := U.calling g mk a) (Vm.Alike.refl U.vm) qK, qD⟩, fun U hU hW => ⟨rfl, by rw [hU], by rw [hU]; exact hPc, va_K.moved hW.alike hKc, hDc.weaken (fun _ _ _ _ => trivial)⟩⟩ rfl rfl hl.1 rfl (lv_room (Nat.le_of_ble_eq_true rfl)) dL_law_22 ⟨(show (((0 + 1) + 3) + 1) + 2 ≤ 601024 by omega), (show (((0 + 9) + 1027) + 13) + 2200 ≤ 7293000 by omega)⟩) hS (fun q _ h => hFc q h) hFc (fun u9 t9 H1 locs ht9 hvm hw hB hz1 hk1 hS => ?_)
  obtain ⟨oN, oU, cN, cU, hP1, hK1, hD1⟩ := hB
  rw [ht9] at hP1
  have hK1 := va_K.moved hvm.symm hK1
  try dsimp only at hw
  obtain ⟨hP, hD⟩ := va_join (wr := [(q_1, .inr (2, [.int (nI (cM r_2)), .ref oS, .int 0, .int (-1), .int 0, .int 0, .int 0, .long 0, .int (nI 9)])), (oS, .inr (1, [.ref oA, .ref oB, .int (nI 0)])), (oA, .inl (cA, (min (cM r_2) 512), .inl (fun _ => 0))), (oB, .inl (cB, (min (cM r_2) 512), .inr (.inl (fun _ => 0))))]) (w1 := [(q_5, .inr (3, [.int 0, .int (nI (cM r_2)), .ref oN, .ref oU, .int (nI 0), .int 0, .int 0, .int (-1), .int 0, .int 0, .int 0, .int (nI 9), .long 0])), (oN, .inl (cN, 1100, .inl (fun _ => 0))), (oU, .inl (cU, 1100, .inr (.inl (fun _ => 0))))]) hP hD [4] [0, 1, 2, 3] rfl rfl (by decide) (by decide) hk1 hFc hP1 hD1
  have hK := hK.app hK1
  generalize H1 = H at hP hS ⊢
  have hP : va_P (dC, dI) vwCl [(q_1, .inr (2, [.int (nI (cM r_2)), .ref oS, .int 0, .int (-1), .int 0, .int 0, .int 0, .long 0, .int (nI 9)])), (oS, .inr (1, [.ref oA, .ref oB, .int (nI 0)])), (oA, .inl (cA, (min (cM r_2) 512), .inl (fun _ => 0))), (oB, .inl (cB, (min (cM r_2) 512), .inr (.inl (fun _ => 0)))), (q_5, .inr (3, [.int 0, .int (nI (cM r_2)), .ref oN, .ref oU, .int (nI 0), .int 0, .int 0, .int (-1), .int 0, .int 0, .int 0, .int (nI 9), .long 0])), (oN, .inl (cN, 1100, .inl (fun _ => 0))), (oU, .inl (cU, 1100, .inr (.inl (fun _ => 0))))] H := hP.sub [0, 1, 2, 3, 4, 5, 6] rfl
  have hD : va_D (fun q : Nat => s.heap.size ≤ q) [(q_1, .inr (2, [.int (nI (cM r_2)), .ref oS, .int 0, .int (-1), .int 0, .int 0, .int 0, .long 0, .int (nI 9)])), (oS, .inr (1, [.ref oA, .ref oB, .int (nI 0)])), (oA, .inl (cA, (min (cM r_2) 512), .inl (fun _ => 0))), (oB, .inl (cB, (min (cM r_2) 512), .inr (.inl (fun _ => 0)))), (q_5, .inr (3, [.int 0, .int (nI (cM r_2)), .ref oN, .ref oU, .int (nI 0), .int 0, .int 0, .int (-1), .int 0, .int 0, .int 0, .int (nI 9), .long 0])), (oN, .inl (cN, 1100, .inl (fun _ => 0))), (oU, .inl (cU, 1100, .inr (.inl (fun _ => 0))))] := hD.sub [0, 1, 2, 3, 4, 5, 6] (by decide) rfl
  have hK : va_K (dC, dI) vwCl [(cA, .int), (cB, .long), (cN, .int), (cU, .long)] s := hK
  refine lv_astore_n (lv' := [(2, .ref q_5), (1, .ref q_1), (0, .ref b)]) hx hb dL_law_25 rfl hl (by decide) rfl (fun ls hl => ?_)
  refine lv_iconst (v := 1) hx hb dL_law_26 (by decide) ?_
  refine va_newa (atype := .long) (ty := .long) (n := 1) (N' := 1) (a0 := (1, .inr (.inl (fun _ => 0)))) hx hb (hts (.arrayClass .long) (by decide +kernel)) rfl hK hP hD hS hA (fun _ => rfl) (by decide) (by decide) (by decide) (show ((((0 + 1) + 3) + 1) + 2) + 1 ≤ 601024 by omega) (show ((((0 + 9) + 1027) + 13) + 2200) + 1 ≤ 7293000 by omega) dL_law_27 (fun q_9 ca_10 H hK hP hD hS => ?_)
  have hP : va_P (dC, dI) vwCl [(q_1, .inr (2, [.int (nI (cM r_2)), .ref oS, .int 0, .int (-1), .int 0, .int 0, .int 0, .long 0, .int (nI 9)])), (oS, .inr (1, [.ref oA, .ref oB, .int (nI 0)])), (oA, .inl (cA, (min (cM r_2) 512), .inl (fun _ => 0))), (oB, .inl (cB, (min (cM r_2) 512), .inr (.inl (fun _ => 0)))), (q_5, .inr (3, [.int 0, .int (nI (cM r_2)), .ref oN, .ref oU, .int (nI 0), .int 0, .int 0, .int (-1), .int 0, .int 0, .int 0, .int (nI 9), .long 0])), (oN, .inl (cN, 1100, .inl (fun _ => 0))), (oU, .inl (cU, 1100, .inr (.inl (fun _ => 0)))), (q_9, .inl (ca_10, 1, .inr (.inl (fun _ => 0))))] H := hP
  have hD : va_D (fun q : Nat => s.heap.size ≤ q) [(q_1, .inr (2, [.int (nI (cM r_2)), .ref oS, .int 0, .int (-1), .int 0, .int 0, .int 0, .long 0, .int (nI 9)])), (oS, .inr (1, [.ref oA, .ref oB, .int (nI 0)])), (oA, .inl (cA, (min (cM r_2) 512), .inl (fun _ => 0))), (oB, .inl (cB, (min (cM r_2) 512), .inr (.inl (fun _ => 0)))), (q_5, .inr (3, [.int 0, .int (nI (cM r_2)), .ref oN, .ref oU, .int (nI 0), .int 0, .int 0, .int (-1), .int 0, .int 0, .int 0, .int (nI 9), .long 0])), (oN, .inl (cN, 1100, .inl (fun _ => 0))), (oU, .inl (cU, 1100, .inr (.inl (fun _ => 0)))), (q_9, .inl (ca_10, 1, .inr (.inl (fun _ => 0))))] := hD
  have hK : va_K (dC, dI) vwCl [(cA, .int), (cB, .long), (cN, .int), (cU, .long), (ca_10, .long)] s := hK
  refine lv_astore_n (lv' := [(3, .ref q_9), (2, .ref q_5), (1, .ref q_1), (0, .ref b)]) hx hb dL_law_29 rfl hl (by decide) rfl (fun ls hl => ?_)
  refine lv_iconst (v := 1) hx hb dL_law_30 (by decide) ?_
  refine lv_istore (lv' := [(4, .int 1), (3, .ref q_9), (2, .ref q_5), (1, .ref q_1), (0, .ref b)]) hx hb dL_law_31 hl (by decide) rfl (fun ls hl => ?_)
  have hl : lv_has ls 8 [(4, .int (nI (1 + 4 * 0))), (3, .ref q_9), (2, .ref q_5), (1, .ref q_1), (0, .ref b)] := lv_sub hl [0, 1, 2, 3, 4] rfl
  refine W.widen (k := 8 + 0) (n := 3250 + 6 * 0) (by omega) (by omega) ?_
  exact law_loop hl9 hL C0 hok hstr (cM_le r_2) hK (L + 1) 0 (0, -1, 0, 0, 0, 0, 9, (fun _ => 0), (fun _ => 0), 0) (0, 0, 0, 0, -1, 0, 0, 0, 9, 0, (fun _ => 0), (fun _ => 0)) (fun _ => 0) ls _ _ (by omega) (by omega) (Nat.le_refl 0) (Rel0 _) hl hP hD hS
