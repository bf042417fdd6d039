set_option maxHeartbeats 1000000 in
set_option maxRecDepth 100000 in
theorem law_9 {p : Program} {l : Launch} {e : Env} {s : State} {m : MethodId} {below : List Frame} {meth : Method} {c : Code} {dC : Nat → ClassId} {dI : Nat → Nat → Nat} {b L : Nat} {xs : Nat → Int32} {Q : State → Prop} (hL : L ≤ 2049) (C0 : lw_At p s m meth c b L xs) {oF oS oA oB oM oN oU oO : Nat} {cA cB cN cU cO : ClassId} {M t : Nat} (hM : M ≤ 65536) (ht : 1 + 4 * t + 3 < L) {th om sd po lr : Int32} {lv : Int64} {d : Nat} {P : Nat → Int32} {V : Nat → Int64} {h : Nat} {co th' en md po' pl la : Int32} {z d' : Nat} {va : Int64} {N : Nat → Int32} {U : Nat → Int64} {g : Nat → Int64} (R : Rel M (th, om, sd, po, lr, lv, d, P, V, h) (co, z, th', en, md, po', pl, la, d', va, N, U)) (hht : h ≤ t) (hK : va_K (dC, dI) vwCl [(cA, .int), (cB, .long), (cN, .int), (cU, .long), (cO, .long)] s) (hl9 : l.stackTraces = false) (hok : zt_OK (fun q : Nat => s.heap.size ≤ q) zW2 s) {sa : Nat} (hstr : vk_R RX1 115 "no such place" sa s) (cont : ∀ (u : CSt) (w : MSt) (g : Nat → Int64) (ls : Array Slot) (H : Heap) (locs : List Loc), hOf u ≤ t + 1 → Rel M u w → lv_has ls 8 [(4, .int (nI (1 + 4 * t))), (3, .ref oO), (2, .ref oM), (1, .ref oF), (0, .ref b)] → va_P (dC, dI) vwCl (wF oF oS oA oB cA cB (min M 512) (nI M) u ++ (wM oM oN oU cN cU (nI M) w ++ [(oO, .inl (cO, 1, .inr (.inl g)))])) H → va_D (fun q : Nat => s.heap.size ≤ q) (wF oF oS oA oB cA cB (min M 512) (nI M) u ++ (wM oM oN oU cN cU (nI M) w ++ [(oO, .inl (cO, 1, .inr (.inl g)))])) → va_S (fun q : Nat => s.heap.size ≤ q) s.heap H locs → W p l e room_1 s m #[Value.ref b] below meth c H locs (8 + (t + 1)) (3250 + 6 * (t + 1)) Q (F0 m 552 ls [])) {ls : Array Slot} {H : Heap} {locs : List Loc} (hl : lv_has ls 8 [(4, .int (nI (1 + 4 * t))), (3, .ref oO), (2, .ref oM), (1, .ref oF), (0, .ref b)]) (hP : va_P (dC, dI) vwCl (wF oF oS oA oB cA cB (min M 512) (nI M) (th, om, sd, po, lr, lv, d, P, V, h) ++ (wM oM oN oU cN cU (nI M) (co, z, th', en, md, po', pl, la, d', va, N, U) ++ [(oO, .inl (cO, 1, .inr (.inl g)))])) H) (hD : va_D (fun q : Nat => s.heap.size ≤ q) (wF oF oS oA oB cA cB (min M 512) (nI M) (th, om, sd, po, lr, lv, d, P, V, h) ++ (wM oM oN oU cN cU (nI M) (co, z, th', en, md, po', pl, la, d', va, N, U) ++ [(oO, .inl (cO, 1, .inr (.inl g)))]))) (hS : va_S (fun q : Nat => s.heap.size ≤ q) s.heap H locs) : W p l e room_1 s m #[Value.ref b] below meth c H locs (8 + t) (3250 + 6 * t) Q (F0 m 434 ls []) := by
  obtain ⟨hx, hb, hr, hml, hown0, hts0, hX, hbl, hlocks, hgv⟩ := C0
  have hown : s.vm.findClass RL = some m.cls := hown0
  have hts : ∀ w ∈ wsL_law, w.before #[Value.ref b] s = true := fun w h => hts0 w (wsL_law_in w h)
  have hA : ∀ q : Nat, s.heap.size ≤ q → (fun q : Nat => s.heap.size ≤ q) q := fun _ h => h
  have hbA : ¬ (fun q : Nat => s.heap.size ≤ q) b := Nat.not_le.mpr hbl
  obtain ⟨ez, eth, emd, ela, ed, eva, hd, hlr, hRows, hPos⟩ := id R
  have hcap := hRows.cap
  have hh : h ≤ min M 512 := Nat.le_min.mpr ⟨hcap, by omega⟩
  have hn : min M 512 ≤ 512 := Nat.min_le_right _ _
  have hz : z ≤ 1100 := by omega
  have hz2 : z < 1100 := by omega
  have hh2 : h ≤ 1100 := by omega
  have hM2 : M < 2 ^ 31 := by omega
  have hd' : d' ≤ 9 := by omega
  have hP : va_P (dC, dI) vwCl [(oF, .inr (2, [.int (nI M), .ref oS, .int th, .int om, .int sd, .int po, .int lr, .long lv, .int (nI d)])), (oS, .inr (1, [.ref oA, .ref oB, .int (nI h)])), (oA, .inl (cA, (min M 512), .inl P)), (oB, .inl (cB, (min M 512), .inr (.inl V))), (oM, .inr (3, [.int co, .int (nI M), .ref oN, .ref oU, .int (nI z), .int th', .int en, .int md, .int po', .int pl, .int la, .int (nI d'), .long va])), (oN, .inl (cN, 1100, .inl N)), (oU, .inl (cU, 1100, .inr (.inl U))), (oO, .inl (cO, 1, .inr (.inl g)))] H := hP
  have hD : va_D (fun q : Nat => s.heap.size ≤ q) [(oF, .inr (2, [.int (nI M), .ref oS, .int th, .int om, .int sd, .int po, .int lr, .long lv, .int (nI d)])), (oS, .inr (1, [.ref oA, .ref oB, .int (nI h)])), (oA, .inl (cA, (min M 512), .inl P)), (oB, .inl (cB, (min M 512), .inr (.inl V))), (oM, .inr (3, [.int co, .int (nI M), .ref oN, .ref oU, .int (nI z), .int th', .int en, .int md, .int po', .int pl, .int la, .int (nI d'), .long va])), (oN, .inl (cN, 1100, .inl N)), (oU, .inl (cU, 1100, .inr (.inl U))), (oO, .inl (cO, 1, .inr (.inl g)))] := hD
  by_cases hpl : isPl (nI M) (xs (1 + 4 * t + 1))
  · -- a place
    refine lv_aload_n hx hb dL_law_434 rfl (lv_at hl 3 rfl) ?_
    refine lv_aload_n hx hb dL_law_435 rfl (lv_at hl 4 rfl) ?_
    refine lv_iload hx hb dL_law_436 (lv_at hl 0 rfl) ?_
    refine lv_iconst (v := 1) hx hb dL_law_438 (by decide) ?_
    refine lv_iadd hx hb dL_law_439 ?_
    rw [show (nI (1 + 4 * t)) + 1 = nI (1 + 4 * t + 1) from nI_add (1 + 4 * t) 1]
    refine va_sld hx hb hX hbl hbA hS (vp_in_nI (by omega) (by omega)) dL_law_440 ?_
    refine W_topi (xs (1 + 4 * t + 1)) (by rw [nI_clamp (by omega)]) ?_
    refine lv_aload_n hx hb dL_law_441 rfl (lv_at hl 1 rfl) ?_
    have hPc := hP.sub (ws' := [(oF, .inr (2, [.int (nI M), .ref oS, .int th, .int om, .int sd, .int po, .int lr, .long lv, .int (nI d)])), (oS, .inr (1, [.ref oA, .ref oB, .int (nI h)])), (oA, .inl (cA, (min M 512), .inl P)), (oB, .inl (cB, (min M 512), .inr (.inl V))), (oO, .inl (cO, 1, .inr (.inl g)))]) [0, 1, 2, 3, 7] rfl
    have hDc := hD.sub (ws' := [(oF, .inr (2, [.int (nI M), .ref oS, .int th, .int om, .int sd, .int po, .int lr, .long lv, .int (nI d)])), (oS, .inr (1, [.ref oA, .ref oB, .int (nI h)])), (oA, .inl (cA, (min M 512), .inl P)), (oB, .inl (cB, (min M 512), .inr (.inl V))), (oO, .inl (cO, 1, .inr (.inl g)))]) [0, 1, 2, 3, 7] (by decide) rfl
    have hKc := hK.sub (tys' := [(cA, .int), (cB, .long), (cO, .long)]) [0, 1, 4] rfl
    have hFc := va_free (wc := [(oF, .inr (2, [.int (nI M), .ref oS, .int th, .int om, .int sd, .int po, .int lr, .long lv, .int (nI d)])), (oS, .inr (1, [.ref oA, .ref oB, .int (nI h)])), (oA, .inl (cA, (min M 512), .inl P)), (oB, .inl (cB, (min M 512), .inr (.inl V))), (oO, .inl (cO, 1, .inr (.inl g)))]) hD hS hA [0, 1, 2, 3, 7] rfl
    refine va_calli (zt_runS (n := 3) (hh := [(0, 8, 11, 13)]) (As := [.ref oF, .int (xs (1 + 4 * t + 1)), .ref oO]) (rest := []) ⟨hx, hb, hml, hown, hts⟩ (kL_cellR l dC dI oF oS oA oB cA cB (min M 512) h d (nI M) th om sd po lr lv P V oO cO g (xs (1 + 4 * t + 1)) H.size hh hn hpl) gL_law_L_cell_ rfl rfl rfl ⟨Nat.le_of_ble_eq_true rfl, Nat.le_of_ble_eq_true rfl⟩ (by decide +kernel) ⟨fun a U g mk q => by obtain ⟨q0, q1, qP, qK, qD⟩ := q; exact ⟨q0, q1, qP, va_K.moved (u := U) (U := U.calling g mk a) (Vm.Alike.refl U.vm) qK, qD⟩, fun U hU hW => ⟨rfl, by rw [hU], by rw [hU]; exact hPc, va_K.moved hW.alike hKc, hDc.weaken (fun _ _ _ _ => trivial)⟩⟩ rfl rfl hl.1 rfl (lv_room (Nat.le_of_ble_eq_true rfl)) dL_law_442 ⟨(show (8 + t) + 1 ≤ 601024 by omega), (show (3250 + 6 * t) + 6 ≤ 7293000 by omega)⟩) hS (fun q _ h => hFc q h) hFc (fun r_1 u9 t9 H1 locs ht9 hvm hw hB hz1 hk1 hS => ?_)
    obtain ⟨hP1, hK1, hD1⟩ := hB
    rw [ht9] at hP1
    have hK1 := va_K.moved hvm.symm hK1
    try dsimp only at hw
    obtain ⟨hP, hD⟩ := va_join (wr := [(oM, .inr (3, [.int co, .int (nI M), .ref oN, .ref oU, .int (nI z), .int th', .int en, .int md, .int po', .int pl, .int la, .int (nI d'), .long va])), (oN, .inl (cN, 1100, .inl N)), (oU, .inl (cU, 1100, .inr (.inl U)))]) (w1 := [(oF, .inr (2, [.int (nI M), .ref oS, .int th, .int om, .int sd, .int po, .int lr, .long lv, .int (nI d)])), (oS, .inr (1, [.ref oA, .ref oB, .int (nI h)])), (oA, .inl (cA, (min M 512), .inl P)), (oB, .inl (cB, (min M 512), .inr (.inl V))), (oO, .inl (cO, 1, .inr (.inl (vp_updL g 0 (fRec P V h (xs (1 + 4 * t + 1)))))))]) hP hD [0, 1, 2, 3, 7] [4, 5, 6] rfl rfl (by decide) (by decide) hk1 hFc hP1 hD1
    generalize H1 = H at hP hS ⊢
    have hP : va_P (dC, dI) vwCl [(oF, .inr (2, [.int (nI M), .ref oS, .int th, .int om, .int sd, .int po, .int lr, .long lv, .int (nI d)])), (oS, .inr (1, [.ref oA, .ref oB, .int (nI h)])), (oA, .inl (cA, (min M 512), .inl P)), (oB, .inl (cB, (min M 512), .inr (.inl V))), (oM, .inr (3, [.int co, .int (nI M), .ref oN, .ref oU, .int (nI z), .int th', .int en, .int md, .int po', .int pl, .int la, .int (nI d'), .long va])), (oN, .inl (cN, 1100, .inl N)), (oU, .inl (cU, 1100, .inr (.inl U))), (oO, .inl (cO, 1, .inr (.inl (vp_updL g 0 (fRec P V h (xs (1 + 4 * t + 1)))))))] H := hP.sub [3, 4, 5, 6, 0, 1, 2, 7] rfl
    have hD : va_D (fun q : Nat => s.heap.size ≤ q) [(oF, .inr (2, [.int (nI M), .ref oS, .int th, .int om, .int sd, .int po, .int lr, .long lv, .int (nI d)])), (oS, .inr (1, [.ref oA, .ref oB, .int (nI h)])), (oA, .inl (cA, (min M 512), .inl P)), (oB, .inl (cB, (min M 512), .inr (.inl V))), (oM, .inr (3, [.int co, .int (nI M), .ref oN, .ref oU, .int (nI z), .int th', .int en, .int md, .int po', .int pl, .int la, .int (nI d'), .long va])), (oN, .inl (cN, 1100, .inl N)), (oU, .inl (cU, 1100, .inr (.inl U))), (oO, .inl (cO, 1, .inr (.inl (vp_updL g 0 (fRec P V h (xs (1 + 4 * t + 1)))))))] := hD.sub [3, 4, 5, 6, 0, 1, 2, 7] (by decide) rfl
    have hK : va_K (dC, dI) vwCl [(cA, .int), (cB, .long), (cN, .int), (cU, .long), (cO, .long)] s := hK
    have hw : r_1 = 0 := hw
    rw [hw]
    refine lv_istore (lv' := [(5, .int 0), (4, .int (nI (1 + 4 * t))), (3, .ref oO), (2, .ref oM), (1, .ref oF), (0, .ref b)]) hx hb dL_law_445 hl (by decide) rfl (fun ls hl => ?_)
    refine lv_aload_n hx hb dL_law_447 rfl (lv_at hl 3 rfl) ?_
    refine lv_aload_n hx hb dL_law_448 rfl (lv_at hl 5 rfl) ?_
    refine lv_iload hx hb dL_law_449 (lv_at hl 1 rfl) ?_
    refine lv_iconst (v := 1) hx hb dL_law_451 (by decide) ?_
    refine lv_iadd hx hb dL_law_452 ?_
    rw [show (nI (1 + 4 * t)) + 1 = nI (1 + 4 * t + 1) from nI_add (1 + 4 * t) 1]
    refine va_sld hx hb hX hbl hbA hS (vp_in_nI (by omega) (by omega)) dL_law_453 ?_
    refine W_topi (xs (1 + 4 * t + 1)) (by rw [nI_clamp (by omega)]) ?_
    have hPc := hP.sub (ws' := [(oM, .inr (3, [.int co, .int (nI M), .ref oN, .ref oU, .int (nI z), .int th', .int en, .int md, .int po', .int pl, .int la, .int (nI d'), .long va])), (oN, .inl (cN, 1100, .inl N)), (oU, .inl (cU, 1100, .inr (.inl U)))]) [4, 5, 6] rfl
    have hDc := hD.sub (ws' := [(oM, .inr (3, [.int co, .int (nI M), .ref oN, .ref oU, .int (nI z), .int th', .int en, .int md, .int po', .int pl, .int la, .int (nI d'), .long va])), (oN, .inl (cN, 1100, .inl N)), (oU, .inl (cU, 1100, .inr (.inl U)))]) [4, 5, 6] (by decide) rfl
    have hKc := hK.sub (tys' := [(cN, .int), (cU, .long)]) [2, 3] rfl
    have hFc := va_free (wc := [(oM, .inr (3, [.int co, .int (nI M), .ref oN, .ref oU, .int (nI z), .int th', .int en, .int md, .int po', .int pl, .int la, .int (nI d'), .long va])), (oN, .inl (cN, 1100, .inl N)), (oU, .inl (cU, 1100, .inr (.inl U)))]) hD hS hA [4, 5, 6] rfl
    refine va_calll (va_runV (As := [.int (xs (1 + 4 * t + 1))]) (rest := []) ⟨hx, hb, hml, hown, hts⟩ (kX2_cell l dC dI oM oN oU cN cU z d' co (nI M) th' en md po' pl la va N U (xs (1 + 4 * t + 1)) H.size hz) (cwV 1 hts gL_law_X2_cell rfl rfl rfl (by decide +kernel) ⟨Nat.le_of_ble_eq_true rfl, Nat.le_of_ble_eq_true rfl⟩) ⟨fun a U g mk q => by obtain ⟨q0, q1, qP, qK, qD⟩ := q; exact ⟨q0, q1, qP, va_K.moved (u := U) (U := U.calling g mk a) (Vm.Alike.refl U.vm) qK, qD⟩, va_recv hKc hPc (ci := 3) (q0 := 0) rfl rfl, fun U hU hW => ⟨rfl, by rw [hU], by rw [hU]; exact hPc, va_K.moved hW.alike hKc, hDc.weaken (fun _ _ _ _ => trivial)⟩⟩ rfl rfl hl.1 rfl (lv_room (Nat.le_of_ble_eq_true rfl)) dL_law_454 ⟨(show ((8 + t) + 1) + 0 ≤ 601024 by omega), (show ((3250 + 6 * t) + 6) + 0 ≤ 7293000 by omega)⟩) hS (fun q _ h => hFc q h) hFc (fun r_2 u9 t9 H1 locs ht9 hvm hw hB hz1 hk1 hS => ?_)
    obtain ⟨hP1, hK1, hD1⟩ := hB
    rw [ht9] at hP1
    have hK1 := va_K.moved hvm.symm hK1
    try dsimp only at hw
    obtain ⟨S1, S2⟩ := s_cell hM2 hh2 R hpl
    rw [S2] at hP1 hD1
    have hP1 : va_P (dC, dI) vwCl [(oM, .inr (3, [.int 0, .int (nI M), .ref oN, .ref oU, .int (nI z), .int th', .int en, .int md, .int po', .int pl, .int la, .int (nI d'), .long va])), (oN, .inl (cN, 1100, .inl N)), (oU, .inl (cU, 1100, .inr (.inl U)))] H1 := hP1
    have hD1 : va_D _ [(oM, .inr (3, [.int 0, .int (nI M), .ref oN, .ref oU, .int (nI z), .int th', .int en, .int md, .int po', .int pl, .int la, .int (nI d'), .long va])), (oN, .inl (cN, 1100, .inl N)), (oU, .inl (cU, 1100, .inr (.inl U)))] := hD1
    obtain ⟨hP, hD⟩ := va_join (wr := [(oF, .inr (2, [.int (nI M), .ref oS, .int th, .int om, .int sd, .int po, .int lr, .long lv, .int (nI d)])), (oS, .inr (1, [.ref oA, .ref oB, .int (nI h)])), (oA, .inl (cA, (min M 512), .inl P)), (oB, .inl (cB, (min M 512), .inr (.inl V))), (oO, .inl (cO, 1, .inr (.inl (vp_updL g 0 (fRec P V h (xs (1 + 4 * t + 1)))))))]) (w1 := [(oM, .inr (3, [.int 0, .int (nI M), .ref oN, .ref oU, .int (nI z), .int th', .int en, .int md, .int po', .int pl, .int la, .int (nI d'), .long va])), (oN, .inl (cN, 1100, .inl N)), (oU, .inl (cU, 1100, .inr (.inl U)))]) hP hD [4, 5, 6] [0, 1, 2, 3, 7] rfl rfl (by decide) (by decide) hk1 hFc hP1 hD1
    generalize H1 = H at hP hS ⊢
    have hP : va_P (dC, dI) vwCl [(oF, .inr (2, [.int (nI M), .ref oS, .int th, .int om, .int sd, .int po, .int lr, .long lv, .int (nI d)])), (oS, .inr (1, [.ref oA, .ref oB, .int (nI h)])), (oA, .inl (cA, (min M 512), .inl P)), (oB, .inl (cB, (min M 512), .inr (.inl V))), (oM, .inr (3, [.int 0, .int (nI M), .ref oN, .ref oU, .int (nI z), .int th', .int en, .int md, .int po', .int pl, .int la, .int (nI d'), .long va])), (oN, .inl (cN, 1100, .inl N)), (oU, .inl (cU, 1100, .inr (.inl U))), (oO, .inl (cO, 1, .inr (.inl (vp_updL g 0 (fRec P V h (xs (1 + 4 * t + 1)))))))] H := hP.sub [0, 1, 2, 3, 5, 6, 7, 4] rfl
    have hD : va_D (fun q : Nat => s.heap.size ≤ q) [(oF, .inr (2, [.int (nI M), .ref oS, .int th, .int om, .int sd, .int po, .int lr, .long lv, .int (nI d)])), (oS, .inr (1, [.ref oA, .ref oB, .int (nI h)])), (oA, .inl (cA, (min M 512), .inl P)), (oB, .inl (cB, (min M 512), .inr (.inl V))), (oM, .inr (3, [.int 0, .int (nI M), .ref oN, .ref oU, .int (nI z), .int th', .int en, .int md, .int po', .int pl, .int la, .int (nI d'), .long va])), (oN, .inl (cN, 1100, .inl N)), (oU, .inl (cU, 1100, .inr (.inl U))), (oO, .inl (cO, 1, .inr (.inl (vp_updL g 0 (fRec P V h (xs (1 + 4 * t + 1)))))))] := hD.sub [0, 1, 2, 3, 5, 6, 7, 4] (by decide) rfl
    have hK : va_K (dC, dI) vwCl [(cA, .int), (cB, .long), (cN, .int), (cU, .long), (cO, .long)] s := hK
    have hw : r_2 = fRec P V h (xs (1 + 4 * t + 1)) := hw.trans S1.symm
    rw [hw]
    refine lv_lstore (lv' := [(6, .long (fRec P V h (xs (1 + 4 * t + 1)))), (5, .int 0), (4, .int (nI (1 + 4 * t))), (3, .ref oO), (2, .ref oM), (1, .ref oF), (0, .ref b)]) hx hb dL_law_457 hl (by decide) rfl (fun ls hl => ?_)
    refine lv_aload_n hx hb dL_law_459 rfl (lv_at hl 4 rfl) ?_
    have hPc := hP.sub (ws' := [(oM, .inr (3, [.int 0, .int (nI M), .ref oN, .ref oU, .int (nI z), .int th', .int en, .int md, .int po', .int pl, .int la, .int (nI d'), .long va])), (oN, .inl (cN, 1100, .inl N)), (oU, .inl (cU, 1100, .inr (.inl U)))]) [4, 5, 6] rfl
    have hDc := hD.sub (ws' := [(oM, .inr (3, [.int 0, .int (nI M), .ref oN, .ref oU, .int (nI z), .int th', .int en, .int md, .int po', .int pl, .int la, .int (nI d'), .long va])), (oN, .inl (cN, 1100, .inl N)), (oU, .inl (cU, 1100, .inr (.inl U)))]) [4, 5, 6] (by decide) rfl
    have hKc := hK.sub (tys' := [(cN, .int), (cU, .long)]) [2, 3] rfl
    have hFc := va_free (wc := [(oM, .inr (3, [.int 0, .int (nI M), .ref oN, .ref oU, .int (nI z), .int th', .int en, .int md, .int po', .int pl, .int la, .int (nI d'), .long va])), (oN, .inl (cN, 1100, .inl N)), (oU, .inl (cU, 1100, .inr (.inl U)))]) hD hS hA [4, 5, 6] rfl
    refine va_calli (va_runV (As := []) (rest := []) ⟨hx, hb, hml, hown, hts⟩ (kX2_thrown l dC dI oM oN oU cN cU z d' 0 (nI M) th' en md po' pl la va N U  H.size hz) (cwV 0 hts gL_law_X2_thrown rfl rfl rfl (by decide +kernel) ⟨Nat.le_of_ble_eq_true rfl, Nat.le_of_ble_eq_true rfl⟩) ⟨fun a U g mk q => by obtain ⟨q0, q1, qP, qK, qD⟩ := q; exact ⟨q0, q1, qP, va_K.moved (u := U) (U := U.calling g mk a) (Vm.Alike.refl U.vm) qK, qD⟩, va_recv hKc hPc (ci := 3) (q0 := 0) rfl rfl, fun U hU hW => ⟨rfl, by rw [hU], by rw [hU]; exact hPc, va_K.moved hW.alike hKc, hDc.weaken (fun _ _ _ _ => trivial)⟩⟩ rfl rfl hl.1 rfl (lv_room (Nat.le_of_ble_eq_true rfl)) dL_law_460 ⟨(show ((8 + t) + 1) + 0 ≤ 601024 by omega), (show ((3250 + 6 * t) + 6) + 0 ≤ 7293000 by omega)⟩) hS (fun q _ h => hFc q h) hFc (fun r_3 u9 t9 H1 locs ht9 hvm hw hB hz1 hk1 hS => ?_)
    obtain ⟨hP1, hK1, hD1⟩ := hB
    rw [ht9] at hP1
    have hK1 := va_K.moved hvm.symm hK1
    try dsimp only at hw
    obtain ⟨hP, hD⟩ := va_join (wr := [(oF, .inr (2, [.int (nI M), .ref oS, .int th, .int om, .int sd, .int po, .int lr, .long lv, .int (nI d)])), (oS, .inr (1, [.ref oA, .ref oB, .int (nI h)])), (oA, .inl (cA, (min M 512), .inl P)), (oB, .inl (cB, (min M 512), .inr (.inl V))), (oO, .inl (cO, 1, .inr (.inl (vp_updL g 0 (fRec P V h (xs (1 + 4 * t + 1)))))))]) (w1 := [(oM, .inr (3, [.int 0, .int (nI M), .ref oN, .ref oU, .int (nI z), .int th', .int en, .int md, .int po', .int pl, .int la, .int (nI d'), .long va])), (oN, .inl (cN, 1100, .inl N)), (oU, .inl (cU, 1100, .inr (.inl U)))]) hP hD [4, 5, 6] [0, 1, 2, 3, 7] rfl rfl (by decide) (by decide) hk1 hFc hP1 hD1
    generalize H1 = H at hP hS ⊢
    have hP : va_P (dC, dI) vwCl [(oF, .inr (2, [.int (nI M), .ref oS, .int th, .int om, .int sd, .int po, .int lr, .long lv, .int (nI d)])), (oS, .inr (1, [.ref oA, .ref oB, .int (nI h)])), (oA, .inl (cA, (min M 512), .inl P)), (oB, .inl (cB, (min M 512), .inr (.inl V))), (oM, .inr (3, [.int 0, .int (nI M), .ref oN, .ref oU, .int (nI z), .int th', .int en, .int md, .int po', .int pl, .int la, .int (nI d'), .long va])), (oN, .inl (cN, 1100, .inl N)), (oU, .inl (cU, 1100, .inr (.inl U))), (oO, .inl (cO, 1, .inr (.inl (vp_updL g 0 (fRec P V h (xs (1 + 4 * t + 1)))))))] H := hP.sub [0, 1, 2, 3, 5, 6, 7, 4] rfl
    have hD : va_D (fun q : Nat => s.heap.size ≤ q) [(oF, .inr (2, [.int (nI M), .ref oS, .int th, .int om, .int sd, .int po, .int lr, .long lv, .int (nI d)])), (oS, .inr (1, [.ref oA, .ref oB, .int (nI h)])), (oA, .inl (cA, (min M 512), .inl P)), (oB, .inl (cB, (min M 512), .inr (.inl V))), (oM, .inr (3, [.int 0, .int (nI M), .ref oN, .ref oU, .int (nI z), .int th', .int en, .int md, .int po', .int pl, .int la, .int (nI d'), .long va])), (oN, .inl (cN, 1100, .inl N)), (oU, .inl (cU, 1100, .inr (.inl U))), (oO, .inl (cO, 1, .inr (.inl (vp_updL g 0 (fRec P V h (xs (1 + 4 * t + 1)))))))] := hD.sub [0, 1, 2, 3, 5, 6, 7, 4] (by decide) rfl
    have hK : va_K (dC, dI) vwCl [(cA, .int), (cB, .long), (cN, .int), (cU, .long), (cO, .long)] s := hK
    have hw : r_3 = 0 := hw
    rw [hw]
    refine lv_iload hx hb dL_law_463 (lv_at hl 1 rfl) ?_
    refine lv_icmp_eq (tgt := 470) hx hb dL_law_465 (by decide) (fun c_4 => ?_) (fun c_4 => ?_)
    · -- taken at 465: 0 = 0
      refine lv_iload hx hb dL_law_470 (lv_at hl 1 rfl) ?_
      refine lv_if_ne (tgt := 486) hx hb dL_law_472 (by decide) (fun c_5 => ?_) (fun c_5 => ?_)
      · -- taken at 472: ¬ 0 = 0
        exact absurd c_5 (by decide)
      · -- not taken at 472: 0 = 0
        refine lv_aload_n hx hb dL_law_475 rfl (lv_at hl 3 rfl) ?_
        refine lv_iconst (v := 0) hx hb dL_law_476 (by decide) ?_
        refine va_lald hx hb hK hP 7 4 rfl rfl (vp_in_nI (n := 0) (N := 1) (by decide) (by decide)) dL_law_477 ?_
        refine W_topl (fRec P V h (xs (1 + 4 * t + 1))) (if_pos (show (0 : Int32).toNatClampNeg = 0 from by decide)) ?_
        refine lv_lload hx hb dL_law_478 (lv_at hl 0 rfl) ?_
        refine W.lcmp hx hb dL_law_480 ?_
        refine lv_if_eq (tgt := 486) hx hb dL_law_481 (by decide) (fun c_6 => ?_) (fun c_6 => ?_)
        · -- taken at 481: (lg_cmp (fRec P V h (xs (1 + 4 * t + 1))) (fRec P V h (xs (1 + 4 * t + 1)))) = 0
          refine lv_goto (tgt := 552) hx hb dL_law_486 (by decide) ?_
          refine W.widen (k := 8 + (t + 1)) (n := 3250 + 6 * (t + 1)) (by omega) (by omega) ?_
          exact cont (th, om, sd, po, lr, lv, d, P, V, h) (0, z, th', en, md, po', pl, la, d', va, N, U) (vp_updL g 0 (fRec P V h (xs (1 + 4 * t + 1)))) ls _ _ (show h ≤ t + 1 by omega) R.code (lv_sub hl [2, 3, 4, 5, 6] rfl) hP hD hS
        · -- not taken at 481: ¬ (lg_cmp (fRec P V h (xs (1 + 4 * t + 1))) (fRec P V h (xs (1 + 4 * t + 1)))) = 0
          exact absurd ((lg_cmp_eq _ _).mpr rfl) c_6
    · -- not taken at 465: ¬ 0 = 0
      exact absurd c_4 (by decide)
  · -- no place
    refine lv_aload_n hx hb dL_law_434 rfl (lv_at hl 3 rfl) ?_
    refine lv_aload_n hx hb dL_law_435 rfl (lv_at hl 4 rfl) ?_
    refine lv_iload hx hb dL_law_436 (lv_at hl 0 rfl) ?_
    refine lv_iconst (v := 1) hx hb dL_law_438 (by decide) ?_
    refine lv_iadd hx hb dL_law_439 ?_
    rw [show (nI (1 + 4 * t)) + 1 = nI (1 + 4 * t + 1) from nI_add (1 + 4 * t) 1]
    refine va_sld hx hb hX hbl hbA hS (vp_in_nI (by omega) (by omega)) dL_law_440 ?_
    refine W_topi (xs (1 + 4 * t + 1)) (by rw [nI_clamp (by omega)]) ?_
    refine lv_aload_n hx hb dL_law_441 rfl (lv_at hl 1 rfl) ?_
    have hPc := hP.sub (ws' := [(oF, .inr (2, [.int (nI M), .ref oS, .int th, .int om, .int sd, .int po, .int lr, .long lv, .int (nI d)])), (oS, .inr (1, [.ref oA, .ref oB, .int (nI h)])), (oA, .inl (cA, (min M 512), .inl P)), (oB, .inl (cB, (min M 512), .inr (.inl V))), (oO, .inl (cO, 1, .inr (.inl g)))]) [0, 1, 2, 3, 7] rfl
    have hDc := hD.sub (ws' := [(oF, .inr (2, [.int (nI M), .ref oS, .int th, .int om, .int sd, .int po, .int lr, .long lv, .int (nI d)])), (oS, .inr (1, [.ref oA, .ref oB, .int (nI h)])), (oA, .inl (cA, (min M 512), .inl P)), (oB, .inl (cB, (min M 512), .inr (.inl V))), (oO, .inl (cO, 1, .inr (.inl g)))]) [0, 1, 2, 3, 7] (by decide) rfl
    have hKc := hK.sub (tys' := [(cA, .int), (cB, .long), (cO, .long)]) [0, 1, 4] rfl
    have hFc := va_free (wc := [(oF, .inr (2, [.int (nI M), .ref oS, .int th, .int om, .int sd, .int po, .int lr, .long lv, .int (nI d)])), (oS, .inr (1, [.ref oA, .ref oB, .int (nI h)])), (oA, .inl (cA, (min M 512), .inl P)), (oB, .inl (cB, (min M 512), .inr (.inl V))), (oO, .inl (cO, 1, .inr (.inl g)))]) hD hS hA [0, 1, 2, 3, 7] rfl
    refine va_calli (zt_runS (n := 3) (hh := [(0, 8, 11, 13)]) (As := [.ref oF, .int (xs (1 + 4 * t + 1)), .ref oO]) (rest := []) ⟨hx, hb, hml, hown, hts⟩ (kL_cellT l hl9 dC dI oF oS oA oB cA cB (min M 512) h d (nI M) th om sd po lr lv P V oO cO g (xs (1 + 4 * t + 1)) sa H.size hh hn hpl) gL_law_L_cell_ rfl rfl rfl ⟨Nat.le_of_ble_eq_true rfl, Nat.le_of_ble_eq_true rfl⟩ (by decide +kernel) ⟨fun a U g mk q => by obtain ⟨q0, q1, qP, qK, qD, qO, qR⟩ := q; exact ⟨q0, q1, qP, va_K.moved (u := U) (U := U.calling g mk a) (Vm.Alike.refl U.vm) qK, qD, qO, vk_R.same (u := U) rfl qR⟩, fun U hU hW => ⟨rfl, by rw [hU], by rw [hU]; exact hPc, va_K.moved hW.alike hKc, hDc.weaken (fun _ _ _ _ => trivial), zt_OK.down hok hW (by rw [hU]; exact hS.1) (fun q h1 h2 => by rw [hU]; exact hS.2.1 q h1 h2) hFc, vk_R.warm hW hstr⟩⟩ rfl rfl hl.1 rfl (lv_room (Nat.le_of_ble_eq_true rfl)) dL_law_442 ⟨(show (8 + t) + 1 ≤ 601024 by omega), (show (3250 + 6 * t) + 6 ≤ 7293000 by omega)⟩) hS (fun q _ h => hFc q h) hFc (fun r_7 u9 t9 H1 locs ht9 hvm hw hB hz1 hk1 hS => ?_)
    obtain ⟨hP1, hK1, hD1⟩ := hB
    rw [ht9] at hP1
    have hK1 := va_K.moved hvm.symm hK1
    try dsimp only at hw
    obtain ⟨hP, hD⟩ := va_join (wr := [(oM, .inr (3, [.int co, .int (nI M), .ref oN, .ref oU, .int (nI z), .int th', .int en, .int md, .int po', .int pl, .int la, .int (nI d'), .long va])), (oN, .inl (cN, 1100, .inl N)), (oU, .inl (cU, 1100, .inr (.inl U)))]) (w1 := [(oF, .inr (2, [.int (nI M), .ref oS, .int th, .int om, .int sd, .int po, .int lr, .long lv, .int (nI d)])), (oS, .inr (1, [.ref oA, .ref oB, .int (nI h)])), (oA, .inl (cA, (min M 512), .inl P)), (oB, .inl (cB, (min M 512), .inr (.inl V))), (oO, .inl (cO, 1, .inr (.inl g)))]) hP hD [0, 1, 2, 3, 7] [4, 5, 6] rfl rfl (by decide) (by decide) hk1 hFc hP1 hD1
    generalize H1 = H at hP hS ⊢
    have hP : va_P (dC, dI) vwCl [(oF, .inr (2, [.int (nI M), .ref oS, .int th, .int om, .int sd, .int po, .int lr, .long lv, .int (nI d)])), (oS, .inr (1, [.ref oA, .ref oB, .int (nI h)])), (oA, .inl (cA, (min M 512), .inl P)), (oB, .inl (cB, (min M 512), .inr (.inl V))), (oM, .inr (3, [.int co, .int (nI M), .ref oN, .ref oU, .int (nI z), .int th', .int en, .int md, .int po', .int pl, .int la, .int (nI d'), .long va])), (oN, .inl (cN, 1100, .inl N)), (oU, .inl (cU, 1100, .inr (.inl U))), (oO, .inl (cO, 1, .inr (.inl g)))] H := hP.sub [3, 4, 5, 6, 0, 1, 2, 7] rfl
    have hD : va_D (fun q : Nat => s.heap.size ≤ q) [(oF, .inr (2, [.int (nI M), .ref oS, .int th, .int om, .int sd, .int po, .int lr, .long lv, .int (nI d)])), (oS, .inr (1, [.ref oA, .ref oB, .int (nI h)])), (oA, .inl (cA, (min M 512), .inl P)), (oB, .inl (cB, (min M 512), .inr (.inl V))), (oM, .inr (3, [.int co, .int (nI M), .ref oN, .ref oU, .int (nI z), .int th', .int en, .int md, .int po', .int pl, .int la, .int (nI d'), .long va])), (oN, .inl (cN, 1100, .inl N)), (oU, .inl (cU, 1100, .inr (.inl U))), (oO, .inl (cO, 1, .inr (.inl g)))] := hD.sub [3, 4, 5, 6, 0, 1, 2, 7] (by decide) rfl
    have hK : va_K (dC, dI) vwCl [(cA, .int), (cB, .long), (cN, .int), (cU, .long), (cO, .long)] s := hK
    have hw : r_7 = 1 := hw
    rw [hw]
    refine lv_istore (lv' := [(5, .int 1), (4, .int (nI (1 + 4 * t))), (3, .ref oO), (2, .ref oM), (1, .ref oF), (0, .ref b)]) hx hb dL_law_445 hl (by decide) rfl (fun ls hl => ?_)
    refine lv_aload_n hx hb dL_law_447 rfl (lv_at hl 3 rfl) ?_
    refine lv_aload_n hx hb dL_law_448 rfl (lv_at hl 5 rfl) ?_
    refine lv_iload hx hb dL_law_449 (lv_at hl 1 rfl) ?_
    refine lv_iconst (v := 1) hx hb dL_law_451 (by decide) ?_
    refine lv_iadd hx hb dL_law_452 ?_
    rw [show (nI (1 + 4 * t)) + 1 = nI (1 + 4 * t + 1) from nI_add (1 + 4 * t) 1]
    refine va_sld hx hb hX hbl hbA hS (vp_in_nI (by omega) (by omega)) dL_law_453 ?_
    refine W_topi (xs (1 + 4 * t + 1)) (by rw [nI_clamp (by omega)]) ?_
    have hPc := hP.sub (ws' := [(oM, .inr (3, [.int co, .int (nI M), .ref oN, .ref oU, .int (nI z), .int th', .int en, .int md, .int po', .int pl, .int la, .int (nI d'), .long va])), (oN, .inl (cN, 1100, .inl N)), (oU, .inl (cU, 1100, .inr (.inl U)))]) [4, 5, 6] rfl
    have hDc := hD.sub (ws' := [(oM, .inr (3, [.int co, .int (nI M), .ref oN, .ref oU, .int (nI z), .int th', .int en, .int md, .int po', .int pl, .int la, .int (nI d'), .long va])), (oN, .inl (cN, 1100, .inl N)), (oU, .inl (cU, 1100, .inr (.inl U)))]) [4, 5, 6] (by decide) rfl
    have hKc := hK.sub (tys' := [(cN, .int), (cU, .long)]) [2, 3] rfl
    have hFc := va_free (wc := [(oM, .inr (3, [.int co, .int (nI M), .ref oN, .ref oU, .int (nI z), .int th', .int en, .int md, .int po', .int pl, .int la, .int (nI d'), .long va])), (oN, .inl (cN, 1100, .inl N)), (oU, .inl (cU, 1100, .inr (.inl U)))]) hD hS hA [4, 5, 6] rfl
    refine va_calll (va_runV (As := [.int (xs (1 + 4 * t + 1))]) (rest := []) ⟨hx, hb, hml, hown, hts⟩ (kX2_cell l dC dI oM oN oU cN cU z d' co (nI M) th' en md po' pl la va N U (xs (1 + 4 * t + 1)) H.size hz) (cwV 1 hts gL_law_X2_cell rfl rfl rfl (by decide +kernel) ⟨Nat.le_of_ble_eq_true rfl, Nat.le_of_ble_eq_true rfl⟩) ⟨fun a U g mk q => by obtain ⟨q0, q1, qP, qK, qD⟩ := q; exact ⟨q0, q1, qP, va_K.moved (u := U) (U := U.calling g mk a) (Vm.Alike.refl U.vm) qK, qD⟩, va_recv hKc hPc (ci := 3) (q0 := 0) rfl rfl, fun U hU hW => ⟨rfl, by rw [hU], by rw [hU]; exact hPc, va_K.moved hW.alike hKc, hDc.weaken (fun _ _ _ _ => trivial)⟩⟩ rfl rfl hl.1 rfl (lv_room (Nat.le_of_ble_eq_true rfl)) dL_law_454 ⟨(show ((8 + t) + 1) + 0 ≤ 601024 by omega), (show ((3250 + 6 * t) + 6) + 0 ≤ 7293000 by omega)⟩) hS (fun q _ h => hFc q h) hFc (fun r_8 u9 t9 H1 locs ht9 hvm hw hB hz1 hk1 hS => ?_)
    obtain ⟨hP1, hK1, hD1⟩ := hB
    rw [ht9] at hP1
    have hK1 := va_K.moved hvm.symm hK1
    try dsimp only at hw
    rw [s_cell2 hM2 hpl] at hP1 hD1
    have hP1 : va_P (dC, dI) vwCl [(oM, .inr (3, [.int 1, .int (nI M), .ref oN, .ref oU, .int (nI z), .int th', .int en, .int md, .int po', .int pl, .int la, .int (nI d'), .long va])), (oN, .inl (cN, 1100, .inl N)), (oU, .inl (cU, 1100, .inr (.inl U)))] H1 := hP1
    have hD1 : va_D _ [(oM, .inr (3, [.int 1, .int (nI M), .ref oN, .ref oU, .int (nI z), .int th', .int en, .int md, .int po', .int pl, .int la, .int (nI d'), .long va])), (oN, .inl (cN, 1100, .inl N)), (oU, .inl (cU, 1100, .inr (.inl U)))] := hD1
    obtain ⟨hP, hD⟩ := va_join (wr := [(oF, .inr (2, [.int (nI M), .ref oS, .int th, .int om, .int sd, .int po, .int lr, .long lv, .int (nI d)])), (oS, .inr (1, [.ref oA, .ref oB, .int (nI h)])), (oA, .inl (cA, (min M 512), .inl P)), (oB, .inl (cB, (min M 512), .inr (.inl V))), (oO, .inl (cO, 1, .inr (.inl g)))]) (w1 := [(oM, .inr (3, [.int 1, .int (nI M), .ref oN, .ref oU, .int (nI z), .int th', .int en, .int md, .int po', .int pl, .int la, .int (nI d'), .long va])), (oN, .inl (cN, 1100, .inl N)), (oU, .inl (cU, 1100, .inr (.inl U)))]) hP hD [4, 5, 6] [0, 1, 2, 3, 7] rfl rfl (by decide) (by decide) hk1 hFc hP1 hD1
    generalize H1 = H at hP hS ⊢
    have hP : va_P (dC, dI) vwCl [(oF, .inr (2, [.int (nI M), .ref oS, .int th, .int om, .int sd, .int po, .int lr, .long lv, .int (nI d)])), (oS, .inr (1, [.ref oA, .ref oB, .int (nI h)])), (oA, .inl (cA, (min M 512), .inl P)), (oB, .inl (cB, (min M 512), .inr (.inl V))), (oM, .inr (3, [.int 1, .int (nI M), .ref oN, .ref oU, .int (nI z), .int th', .int en, .int md, .int po', .int pl, .int la, .int (nI d'), .long va])), (oN, .inl (cN, 1100, .inl N)), (oU, .inl (cU, 1100, .inr (.inl U))), (oO, .inl (cO, 1, .inr (.inl g)))] H := hP.sub [0, 1, 2, 3, 5, 6, 7, 4] rfl
    have hD : va_D (fun q : Nat => s.heap.size ≤ q) [(oF, .inr (2, [.int (nI M), .ref oS, .int th, .int om, .int sd, .int po, .int lr, .long lv, .int (nI d)])), (oS, .inr (1, [.ref oA, .ref oB, .int (nI h)])), (oA, .inl (cA, (min M 512), .inl P)), (oB, .inl (cB, (min M 512), .inr (.inl V))), (oM, .inr (3, [.int 1, .int (nI M), .ref oN, .ref oU, .int (nI z), .int th', .int en, .int md, .int po', .int pl, .int la, .int (nI d'), .long va])), (oN, .inl (cN, 1100, .inl N)), (oU, .inl (cU, 1100, .inr (.inl U))), (oO, .inl (cO, 1, .inr (.inl g)))] := hD.sub [0, 1, 2, 3, 5, 6, 7, 4] (by decide) rfl
    have hK : va_K (dC, dI) vwCl [(cA, .int), (cB, .long), (cN, .int), (cU, .long), (cO, .long)] s := hK
    refine lv_lstore (lv' := [(6, .long r_8), (5, .int 1), (4, .int (nI (1 + 4 * t))), (3, .ref oO), (2, .ref oM), (1, .ref oF), (0, .ref b)]) hx hb dL_law_457 hl (by decide) rfl (fun ls hl => ?_)
    refine lv_aload_n hx hb dL_law_459 rfl (lv_at hl 4 rfl) ?_
    have hPc := hP.sub (ws' := [(oM, .inr (3, [.int 1, .int (nI M), .ref oN, .ref oU, .int (nI z), .int th', .int en, .int md, .int po', .int pl, .int la, .int (nI d'), .long va])), (oN, .inl (cN, 1100, .inl N)), (oU, .inl (cU, 1100, .inr (.inl U)))]) [4, 5, 6] rfl
    have hDc := hD.sub (ws' := [(oM, .inr (3, [.int 1, .int (nI M), .ref oN, .ref oU, .int (nI z), .int th', .int en, .int md, .int po', .int pl, .int la, .int (nI d'), .long va])), (oN, .inl (cN, 1100, .inl N)), (oU, .inl (cU, 1100, .inr (.inl U)))]) [4, 5, 6] (by decide) rfl
    have hKc := hK.sub (tys' := [(cN, .int), (cU, .long)]) [2, 3] rfl
    have hFc := va_free (wc := [(oM, .inr (3, [.int 1, .int (nI M), .ref oN, .ref oU, .int (nI z), .int th', .int en, .int md, .int po', .int pl, .int la, .int (nI d'), .long va])), (oN, .inl (cN, 1100, .inl N)), (oU, .inl (cU, 1100, .inr (.inl U)))]) hD hS hA [4, 5, 6] rfl
    refine va_calli (va_runV (As := []) (rest := []) ⟨hx, hb, hml, hown, hts⟩ (kX2_thrown l dC dI oM oN oU cN cU z d' 1 (nI M) th' en md po' pl la va N U  H.size hz) (cwV 0 hts gL_law_X2_thrown rfl rfl rfl (by decide +kernel) ⟨Nat.le_of_ble_eq_true rfl, Nat.le_of_ble_eq_true rfl⟩) ⟨fun a U g mk q => by obtain ⟨q0, q1, qP, qK, qD⟩ := q; exact ⟨q0, q1, qP, va_K.moved (u := U) (U := U.calling g mk a) (Vm.Alike.refl U.vm) qK, qD⟩, va_recv hKc hPc (ci := 3) (q0 := 0) rfl rfl, fun U hU hW => ⟨rfl, by rw [hU], by rw [hU]; exact hPc, va_K.moved hW.alike hKc, hDc.weaken (fun _ _ _ _ => trivial)⟩⟩ rfl rfl hl.1 rfl (lv_room (Nat.le_of_ble_eq_true rfl)) dL_law_460 ⟨(show ((8 + t) + 1) + 0 ≤ 601024 by omega), (show ((3250 + 6 * t) + 6) + 0 ≤ 7293000 by omega)⟩) hS (fun q _ h => hFc q h) hFc (fun r_9 u9 t9 H1 locs ht9 hvm hw hB hz1 hk1 hS => ?_)
    obtain ⟨hP1, hK1, hD1⟩ := hB
    rw [ht9] at hP1
    have hK1 := va_K.moved hvm.symm hK1
    try dsimp only at hw
    obtain ⟨hP, hD⟩ := va_join (wr := [(oF, .inr (2, [.int (nI M), .ref oS, .int th, .int om, .int sd, .int po, .int lr, .long lv, .int (nI d)])), (oS, .inr (1, [.ref oA, .ref oB, .int (nI h)])), (oA, .inl (cA, (min M 512), .inl P)), (oB, .inl (cB, (min M 512), .inr (.inl V))), (oO, .inl (cO, 1, .inr (.inl g)))]) (w1 := [(oM, .inr (3, [.int 1, .int (nI M), .ref oN, .ref oU, .int (nI z), .int th', .int en, .int md, .int po', .int pl, .int la, .int (nI d'), .long va])), (oN, .inl (cN, 1100, .inl N)), (oU, .inl (cU, 1100, .inr (.inl U)))]) hP hD [4, 5, 6] [0, 1, 2, 3, 7] rfl rfl (by decide) (by decide) hk1 hFc hP1 hD1
    generalize H1 = H at hP hS ⊢
    have hP : va_P (dC, dI) vwCl [(oF, .inr (2, [.int (nI M), .ref oS, .int th, .int om, .int sd, .int po, .int lr, .long lv, .int (nI d)])), (oS, .inr (1, [.ref oA, .ref oB, .int (nI h)])), (oA, .inl (cA, (min M 512), .inl P)), (oB, .inl (cB, (min M 512), .inr (.inl V))), (oM, .inr (3, [.int 1, .int (nI M), .ref oN, .ref oU, .int (nI z), .int th', .int en, .int md, .int po', .int pl, .int la, .int (nI d'), .long va])), (oN, .inl (cN, 1100, .inl N)), (oU, .inl (cU, 1100, .inr (.inl U))), (oO, .inl (cO, 1, .inr (.inl g)))] H := hP.sub [0, 1, 2, 3, 5, 6, 7, 4] rfl
    have hD : va_D (fun q : Nat => s.heap.size ≤ q) [(oF, .inr (2, [.int (nI M), .ref oS, .int th, .int om, .int sd, .int po, .int lr, .long lv, .int (nI d)])), (oS, .inr (1, [.ref oA, .ref oB, .int (nI h)])), (oA, .inl (cA, (min M 512), .inl P)), (oB, .inl (cB, (min M 512), .inr (.inl V))), (oM, .inr (3, [.int 1, .int (nI M), .ref oN, .ref oU, .int (nI z), .int th', .int en, .int md, .int po', .int pl, .int la, .int (nI d'), .long va])), (oN, .inl (cN, 1100, .inl N)), (oU, .inl (cU, 1100, .inr (.inl U))), (oO, .inl (cO, 1, .inr (.inl g)))] := hD.sub [0, 1, 2, 3, 5, 6, 7, 4] (by decide) rfl
    have hK : va_K (dC, dI) vwCl [(cA, .int), (cB, .long), (cN, .int), (cU, .long), (cO, .long)] s := hK
    have hw : r_9 = 1 := hw
    rw [hw]
    refine lv_iload hx hb dL_law_463 (lv_at hl 1 rfl) ?_
    refine lv_icmp_eq (tgt := 470) hx hb dL_law_465 (by decide) (fun c_10 => ?_) (fun c_10 => ?_)
    · -- taken at 465: 1 = 1
      refine lv_iload hx hb dL_law_470 (lv_at hl 1 rfl) ?_
      refine lv_if_ne (tgt := 486) hx hb dL_law_472 (by decide) (fun c_11 => ?_) (fun c_11 => ?_)
      · -- taken at 472: ¬ 1 = 0
        refine lv_goto (tgt := 552) hx hb dL_law_486 (by decide) ?_
        refine W.widen (k := 8 + (t + 1)) (n := 3250 + 6 * (t + 1)) (by omega) (by omega) ?_
        exact cont (th, om, sd, po, lr, lv, d, P, V, h) (1, z, th', en, md, po', pl, la, d', va, N, U) g ls _ _ (show h ≤ t + 1 by omega) R.code (lv_sub hl [2, 3, 4, 5, 6] rfl) hP hD hS
      · -- not taken at 472: 1 = 0
        exact absurd c_11 (by decide)
    · -- not taken at 465: ¬ 1 = 1
      exact absurd c_10 (by decide)
