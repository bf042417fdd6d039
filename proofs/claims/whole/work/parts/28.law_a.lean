set_option maxHeartbeats 1000000 in
set_option maxRecDepth 100000 in
theorem law_0 {p : Program} {l : Launch} {e : Env} {s : State} {m : MethodId} {below : List Frame} {meth : Method} {c : Code} {dC : Nat → ClassId} {dI : Nat → Nat → Nat} {b L : Nat} {xs : Nat → Int32} {Q : State → Prop} (hL : L ≤ 2049) (C0 : lw_At p s m meth c b L xs) {oF oS oA oB oM oN oU oO : Nat} {cA cB cN cU cO : ClassId} {M t : Nat} (hM : M ≤ 65536) (ht : 1 + 4 * t + 3 < L) {th om sd po lr : Int32} {lv : Int64} {d : Nat} {P : Nat → Int32} {V : Nat → Int64} {h : Nat} {co th' en md po' pl la : Int32} {z d' : Nat} {va : Int64} {N : Nat → Int32} {U : Nat → Int64} {g : Nat → Int64} (R : Rel M (th, om, sd, po, lr, lv, d, P, V, h) (co, z, th', en, md, po', pl, la, d', va, N, U)) (hht : h ≤ t) (hK : va_K (dC, dI) vwCl [(cA, .int), (cB, .long), (cN, .int), (cU, .long), (cO, .long)] s) (cont : ∀ (u : CSt) (w : MSt) (g : Nat → Int64) (ls : Array Slot) (H : Heap) (locs : List Loc), hOf u ≤ t + 1 → Rel M u w → lv_has ls 8 [(4, .int (nI (1 + 4 * t))), (3, .ref oO), (2, .ref oM), (1, .ref oF), (0, .ref b)] → va_P (dC, dI) vwCl (wF oF oS oA oB cA cB (min M 512) (nI M) u ++ (wM oM oN oU cN cU (nI M) w ++ [(oO, .inl (cO, 1, .inr (.inl g)))])) H → va_D (fun q : Nat => s.heap.size ≤ q) (wF oF oS oA oB cA cB (min M 512) (nI M) u ++ (wM oM oN oU cN cU (nI M) w ++ [(oO, .inl (cO, 1, .inr (.inl g)))])) → va_S (fun q : Nat => s.heap.size ≤ q) s.heap H locs → W p l e room_1 s m #[Value.ref b] below meth c H locs (8 + (t + 1)) (3250 + 6 * (t + 1)) Q (F0 m 552 ls [])) {ls : Array Slot} {H : Heap} {locs : List Loc} (hl : lv_has ls 8 [(4, .int (nI (1 + 4 * t))), (3, .ref oO), (2, .ref oM), (1, .ref oF), (0, .ref b)]) (hP : va_P (dC, dI) vwCl (wF oF oS oA oB cA cB (min M 512) (nI M) (th, om, sd, po, lr, lv, d, P, V, h) ++ (wM oM oN oU cN cU (nI M) (co, z, th', en, md, po', pl, la, d', va, N, U) ++ [(oO, .inl (cO, 1, .inr (.inl g)))])) H) (hD : va_D (fun q : Nat => s.heap.size ≤ q) (wF oF oS oA oB cA cB (min M 512) (nI M) (th, om, sd, po, lr, lv, d, P, V, h) ++ (wM oM oN oU cN cU (nI M) (co, z, th', en, md, po', pl, la, d', va, N, U) ++ [(oO, .inl (cO, 1, .inr (.inl g)))]))) (hS : va_S (fun q : Nat => s.heap.size ≤ q) s.heap H locs) : W p l e room_1 s m #[Value.ref b] below meth c H locs (8 + t) (3250 + 6 * t) Q (F0 m 116 ls []) := by
  obtain ⟨hx, hb, hr, hml, hown0, hts0, hX, hbl, hlocks, hgv⟩ := C0
  have hown : s.vm.findClass RL = some m.cls := hown0
  have hts : ∀ w ∈ wsL_law, w.before #[Value.ref b] s = true := fun w h => hts0 w (wsL_law_in w h)
  have hA : ∀ q : Nat, s.heap.size ≤ q → (fun q : Nat => s.heap.size ≤ q) q := fun _ h => h
  have hbA : ¬ (fun q : Nat => s.heap.size ≤ q) b := Nat.not_le.mpr hbl
  obtain ⟨ez, eth, emd, ela, ed, eva, hd, hlr, hRows, hPos⟩ := id R
  have hcap := hRows.cap
  have hh : h ≤ min M 512 := Nat.le_min.mpr ⟨hcap, by omega⟩
  have hn : min M 512 ≤ 512 := Nat.min_le_right _ _
  have hz : z ≤ 1100 := by omega
  have hz2 : z < 1100 := by omega
  have hh2 : h ≤ 1100 := by omega
  have hM2 : M < 2 ^ 31 := by omega
  have hd' : d' ≤ 9 := by omega
  have hP : va_P (dC, dI) vwCl [(oF, .inr (2, [.int (nI M), .ref oS, .int th, .int om, .int sd, .int po, .int lr, .long lv, .int (nI d)])), (oS, .inr (1, [.ref oA, .ref oB, .int (nI h)])), (oA, .inl (cA, (min M 512), .inl P)), (oB, .inl (cB, (min M 512), .inr (.inl V))), (oM, .inr (3, [.int co, .int (nI M), .ref oN, .ref oU, .int (nI z), .int th', .int en, .int md, .int po', .int pl, .int la, .int (nI d'), .long va])), (oN, .inl (cN, 1100, .inl N)), (oU, .inl (cU, 1100, .inr (.inl U))), (oO, .inl (cO, 1, .inr (.inl g)))] H := hP
  have hD : va_D (fun q : Nat => s.heap.size ≤ q) [(oF, .inr (2, [.int (nI M), .ref oS, .int th, .int om, .int sd, .int po, .int lr, .long lv, .int (nI d)])), (oS, .inr (1, [.ref oA, .ref oB, .int (nI h)])), (oA, .inl (cA, (min M 512), .inl P)), (oB, .inl (cB, (min M 512), .inr (.inl V))), (oM, .inr (3, [.int co, .int (nI M), .ref oN, .ref oU, .int (nI z), .int th', .int en, .int md, .int po', .int pl, .int la, .int (nI d'), .long va])), (oN, .inl (cN, 1100, .inl N)), (oU, .inl (cU, 1100, .inr (.inl U))), (oO, .inl (cO, 1, .inr (.inl g)))] := hD
  refine lv_aload_n hx hb dL_law_116 rfl (lv_at hl 3 rfl) ?_
  refine lv_aload_n hx hb dL_law_117 rfl (lv_at hl 4 rfl) ?_
  refine lv_iload hx hb dL_law_118 (lv_at hl 0 rfl) ?_
  refine lv_iconst (v := 1) hx hb dL_law_120 (by decide) ?_
  refine lv_iadd hx hb dL_law_121 ?_
  rw [show (nI (1 + 4 * t)) + 1 = nI (1 + 4 * t + 1) from nI_add (1 + 4 * t) 1]
  refine va_sld hx hb hX hbl hbA hS (vp_in_nI (by omega) (by omega)) dL_law_122 ?_
  refine W_topi (xs (1 + 4 * t + 1)) (by rw [nI_clamp (by omega)]) ?_
  have hPc := hP.sub (ws' := [(oF, .inr (2, [.int (nI M), .ref oS, .int th, .int om, .int sd, .int po, .int lr, .long lv, .int (nI d)])), (oS, .inr (1, [.ref oA, .ref oB, .int (nI h)])), (oA, .inl (cA, (min M 512), .inl P)), (oB, .inl (cB, (min M 512), .inr (.inl V)))]) [0, 1, 2, 3] rfl
  have hDc := hD.sub (ws' := [(oF, .inr (2, [.int (nI M), .ref oS, .int th, .int om, .int sd, .int po, .int lr, .long lv, .int (nI d)])), (oS, .inr (1, [.ref oA, .ref oB, .int (nI h)])), (oA, .inl (cA, (min M 512), .inl P)), (oB, .inl (cB, (min M 512), .inr (.inl V)))]) [0, 1, 2, 3] (by decide) rfl
  have hKc := hK.sub (tys' := [(cA, .int), (cB, .long)]) [0, 1] rfl
  have hFc := va_free (wc := [(oF, .inr (2, [.int (nI M), .ref oS, .int th, .int om, .int sd, .int po, .int lr, .long lv, .int (nI d)])), (oS, .inr (1, [.ref oA, .ref oB, .int (nI h)])), (oA, .inl (cA, (min M 512), .inl P)), (oB, .inl (cB, (min M 512), .inr (.inl V)))]) hD hS hA [0, 1, 2, 3] rfl
  refine va_calli (va_runV (As := [.int (xs (1 + 4 * t + 1))]) (rest := []) ⟨hx, hb, hml, hown, hts⟩ (kX1_open l dC dI oF oS oA oB cA cB (min M 512) h d (nI M) th om sd po lr lv P V (xs (1 + 4 * t + 1)) H.size hh hn) (cwV 1 hts gL_law_X1_open rfl rfl rfl (by decide +kernel) ⟨Nat.le_of_ble_eq_true rfl, Nat.le_of_ble_eq_true rfl⟩) ⟨fun a U g mk q => by obtain ⟨q0, q1, qP, qK, qD⟩ := q; exact ⟨q0, q1, qP, va_K.moved (u := U) (U := U.calling g mk a) (Vm.Alike.refl U.vm) qK, qD⟩, va_recv hKc hPc (ci := 2) (q0 := 0) rfl rfl, fun U hU hW => ⟨rfl, by rw [hU], by rw [hU]; exact hPc, va_K.moved hW.alike hKc, hDc.weaken (fun _ _ _ _ => trivial)⟩⟩ rfl rfl hl.1 rfl (lv_room (Nat.le_of_ble_eq_true rfl)) dL_law_123 ⟨(show (8 + t) + 0 ≤ 601024 by omega), (show (3250 + 6 * t) + 0 ≤ 7293000 by omega)⟩) hS (fun q _ h => hFc q h) hFc (fun r_2 u9 t9 H1 locs ht9 hvm hw hB hz1 hk1 hS => ?_)
  obtain ⟨hP1, hK1, hD1⟩ := hB
  rw [ht9] at hP1
  have hK1 := va_K.moved hvm.symm hK1
  try dsimp only at hw
  obtain ⟨fa_1, fth_1, fom_1, fsd_1, fpo_1, flr_1, flv_1, fd_1, fP_1, fV_1, fh_1, ef_1⟩ : ∃ (a9 : Int32) (th9 om9 sd9 po9 lr9 : Int32) (lv9 : Int64) (d9 : Nat) (P9 : Nat → Int32) (V9 : Nat → Int64) (h9 : Nat), fOpen (xs (1 + 4 * t + 1)) (th, om, sd, po, lr, lv, d, P, V, h) = (a9, th9, om9, sd9, po9, lr9, lv9, d9, P9, V9, h9) := ⟨_, _, _, _, _, _, _, _, _, _, _, rfl⟩
  rw [ef_1] at hP1 hD1 hw
  have hP1 : va_P (dC, dI) vwCl [(oF, .inr (2, [.int (nI M), .ref oS, .int fth_1, .int fom_1, .int fsd_1, .int fpo_1, .int flr_1, .long flv_1, .int (nI fd_1)])), (oS, .inr (1, [.ref oA, .ref oB, .int (nI fh_1)])), (oA, .inl (cA, (min M 512), .inl fP_1)), (oB, .inl (cB, (min M 512), .inr (.inl fV_1)))] H1 := hP1
  have hD1 : va_D _ [(oF, .inr (2, [.int (nI M), .ref oS, .int fth_1, .int fom_1, .int fsd_1, .int fpo_1, .int flr_1, .long flv_1, .int (nI fd_1)])), (oS, .inr (1, [.ref oA, .ref oB, .int (nI fh_1)])), (oA, .inl (cA, (min M 512), .inl fP_1)), (oB, .inl (cB, (min M 512), .inr (.inl fV_1)))] := hD1
  obtain ⟨hP, hD⟩ := va_join (wr := [(oM, .inr (3, [.int co, .int (nI M), .ref oN, .ref oU, .int (nI z), .int th', .int en, .int md, .int po', .int pl, .int la, .int (nI d'), .long va])), (oN, .inl (cN, 1100, .inl N)), (oU, .inl (cU, 1100, .inr (.inl U))), (oO, .inl (cO, 1, .inr (.inl g)))]) (w1 := [(oF, .inr (2, [.int (nI M), .ref oS, .int fth_1, .int fom_1, .int fsd_1, .int fpo_1, .int flr_1, .long flv_1, .int (nI fd_1)])), (oS, .inr (1, [.ref oA, .ref oB, .int (nI fh_1)])), (oA, .inl (cA, (min M 512), .inl fP_1)), (oB, .inl (cB, (min M 512), .inr (.inl fV_1)))]) hP hD [0, 1, 2, 3] [4, 5, 6, 7] rfl rfl (by decide) (by decide) hk1 hFc hP1 hD1
  generalize H1 = H at hP hS ⊢
  have hP : va_P (dC, dI) vwCl [(oF, .inr (2, [.int (nI M), .ref oS, .int fth_1, .int fom_1, .int fsd_1, .int fpo_1, .int flr_1, .long flv_1, .int (nI fd_1)])), (oS, .inr (1, [.ref oA, .ref oB, .int (nI fh_1)])), (oA, .inl (cA, (min M 512), .inl fP_1)), (oB, .inl (cB, (min M 512), .inr (.inl fV_1))), (oM, .inr (3, [.int co, .int (nI M), .ref oN, .ref oU, .int (nI z), .int th', .int en, .int md, .int po', .int pl, .int la, .int (nI d'), .long va])), (oN, .inl (cN, 1100, .inl N)), (oU, .inl (cU, 1100, .inr (.inl U))), (oO, .inl (cO, 1, .inr (.inl g)))] H := hP.sub [4, 5, 6, 7, 0, 1, 2, 3] rfl
  have hD : va_D (fun q : Nat => s.heap.size ≤ q) [(oF, .inr (2, [.int (nI M), .ref oS, .int fth_1, .int fom_1, .int fsd_1, .int fpo_1, .int flr_1, .long flv_1, .int (nI fd_1)])), (oS, .inr (1, [.ref oA, .ref oB, .int (nI fh_1)])), (oA, .inl (cA, (min M 512), .inl fP_1)), (oB, .inl (cB, (min M 512), .inr (.inl fV_1))), (oM, .inr (3, [.int co, .int (nI M), .ref oN, .ref oU, .int (nI z), .int th', .int en, .int md, .int po', .int pl, .int la, .int (nI d'), .long va])), (oN, .inl (cN, 1100, .inl N)), (oU, .inl (cU, 1100, .inr (.inl U))), (oO, .inl (cO, 1, .inr (.inl g)))] := hD.sub [4, 5, 6, 7, 0, 1, 2, 3] (by decide) rfl
  have hK : va_K (dC, dI) vwCl [(cA, .int), (cB, .long), (cN, .int), (cU, .long), (cO, .long)] s := hK
  have hw : r_2 = fa_1 := hw
  rw [hw]
  refine lv_aload_n hx hb dL_law_126 rfl (lv_at hl 2 rfl) ?_
  refine lv_aload_n hx hb dL_law_127 rfl (lv_at hl 4 rfl) ?_
  refine lv_iload hx hb dL_law_128 (lv_at hl 0 rfl) ?_
  refine lv_iconst (v := 1) hx hb dL_law_130 (by decide) ?_
  refine lv_iadd hx hb dL_law_131 ?_
  rw [show (nI (1 + 4 * t)) + 1 = nI (1 + 4 * t + 1) from nI_add (1 + 4 * t) 1]
  refine va_sld hx hb hX hbl hbA hS (vp_in_nI (by omega) (by omega)) dL_law_132 ?_
  refine W_topi (xs (1 + 4 * t + 1)) (by rw [nI_clamp (by omega)]) ?_
  have hPc := hP.sub (ws' := [(oM, .inr (3, [.int co, .int (nI M), .ref oN, .ref oU, .int (nI z), .int th', .int en, .int md, .int po', .int pl, .int la, .int (nI d'), .long va])), (oN, .inl (cN, 1100, .inl N)), (oU, .inl (cU, 1100, .inr (.inl U)))]) [4, 5, 6] rfl
  have hDc := hD.sub (ws' := [(oM, .inr (3, [.int co, .int (nI M), .ref oN, .ref oU, .int (nI z), .int th', .int en, .int md, .int po', .int pl, .int la, .int (nI d'), .long va])), (oN, .inl (cN, 1100, .inl N)), (oU, .inl (cU, 1100, .inr (.inl U)))]) [4, 5, 6] (by decide) rfl
  have hKc := hK.sub (tys' := [(cN, .int), (cU, .long)]) [2, 3] rfl
  have hFc := va_free (wc := [(oM, .inr (3, [.int co, .int (nI M), .ref oN, .ref oU, .int (nI z), .int th', .int en, .int md, .int po', .int pl, .int la, .int (nI d'), .long va])), (oN, .inl (cN, 1100, .inl N)), (oU, .inl (cU, 1100, .inr (.inl U)))]) hD hS hA [4, 5, 6] rfl
  refine va_calli (va_runV (As := [.int (xs (1 + 4 * t + 1))]) (rest := [.int fa_1]) ⟨hx, hb, hml, hown, hts⟩ (kX2_open l dC dI oM oN oU cN cU z d' co (nI M) th' en md po' pl la va N U (xs (1 + 4 * t + 1)) H.size hz) (cwV 1 hts gL_law_X2_open rfl rfl rfl (by decide +kernel) ⟨Nat.le_of_ble_eq_true rfl, Nat.le_of_ble_eq_true rfl⟩) ⟨fun a U g mk q => by obtain ⟨q0, q1, qP, qK, qD⟩ := q; exact ⟨q0, q1, qP, va_K.moved (u := U) (U := U.calling g mk a) (Vm.Alike.refl U.vm) qK, qD⟩, va_recv hKc hPc (ci := 3) (q0 := 0) rfl rfl, fun U hU hW => ⟨rfl, by rw [hU], by rw [hU]; exact hPc, va_K.moved hW.alike hKc, hDc.weaken (fun _ _ _ _ => trivial)⟩⟩ rfl rfl hl.1 rfl (lv_room (Nat.le_of_ble_eq_true rfl)) dL_law_133 ⟨(show (8 + t) + 0 ≤ 601024 by omega), (show (3250 + 6 * t) + 0 ≤ 7293000 by omega)⟩) hS (fun q _ h => hFc q h) hFc (fun r_4 u9 t9 H1 locs ht9 hvm hw hB hz1 hk1 hS => ?_)
  obtain ⟨hP1, hK1, hD1⟩ := hB
  rw [ht9] at hP1
  have hK1 := va_K.moved hvm.symm hK1
  try dsimp only at hw
  obtain ⟨ga_3, gco_3, gz_3, gth_3, gen_3, gmd_3, gpo_3, gpl_3, gla_3, gd_3, gva_3, gN_3, gU_3, eg_3⟩ : ∃ (a9 : Int32) (co9 : Int32) (z9 : Nat) (th9 en9 md9 po9 pl9 la9 : Int32) (d9 : Nat) (va9 : Int64) (N9 : Nat → Int32) (U9 : Nat → Int64), gOpen (xs (1 + 4 * t + 1)) (co, z, th', en, md, po', pl, la, d', va, N, U) = (a9, co9, z9, th9, en9, md9, po9, pl9, la9, d9, va9, N9, U9) := ⟨_, _, _, _, _, _, _, _, _, _, _, _, _, rfl⟩
  rw [eg_3] at hP1 hD1 hw
  have hP1 : va_P (dC, dI) vwCl [(oM, .inr (3, [.int gco_3, .int (nI M), .ref oN, .ref oU, .int (nI gz_3), .int gth_3, .int gen_3, .int gmd_3, .int gpo_3, .int gpl_3, .int gla_3, .int (nI gd_3), .long gva_3])), (oN, .inl (cN, 1100, .inl gN_3)), (oU, .inl (cU, 1100, .inr (.inl gU_3)))] H1 := hP1
  have hD1 : va_D _ [(oM, .inr (3, [.int gco_3, .int (nI M), .ref oN, .ref oU, .int (nI gz_3), .int gth_3, .int gen_3, .int gmd_3, .int gpo_3, .int gpl_3, .int gla_3, .int (nI gd_3), .long gva_3])), (oN, .inl (cN, 1100, .inl gN_3)), (oU, .inl (cU, 1100, .inr (.inl gU_3)))] := hD1
  obtain ⟨hP, hD⟩ := va_join (wr := [(oF, .inr (2, [.int (nI M), .ref oS, .int fth_1, .int fom_1, .int fsd_1, .int fpo_1, .int flr_1, .long flv_1, .int (nI fd_1)])), (oS, .inr (1, [.ref oA, .ref oB, .int (nI fh_1)])), (oA, .inl (cA, (min M 512), .inl fP_1)), (oB, .inl (cB, (min M 512), .inr (.inl fV_1))), (oO, .inl (cO, 1, .inr (.inl g)))]) (w1 := [(oM, .inr (3, [.int gco_3, .int (nI M), .ref oN, .ref oU, .int (nI gz_3), .int gth_3, .int gen_3, .int gmd_3, .int gpo_3, .int gpl_3, .int gla_3, .int (nI gd_3), .long gva_3])), (oN, .inl (cN, 1100, .inl gN_3)), (oU, .inl (cU, 1100, .inr (.inl gU_3)))]) hP hD [4, 5, 6] [0, 1, 2, 3, 7] rfl rfl (by decide) (by decide) hk1 hFc hP1 hD1
  generalize H1 = H at hP hS ⊢
  have hP : va_P (dC, dI) vwCl [(oF, .inr (2, [.int (nI M), .ref oS, .int fth_1, .int fom_1, .int fsd_1, .int fpo_1, .int flr_1, .long flv_1, .int (nI fd_1)])), (oS, .inr (1, [.ref oA, .ref oB, .int (nI fh_1)])), (oA, .inl (cA, (min M 512), .inl fP_1)), (oB, .inl (cB, (min M 512), .inr (.inl fV_1))), (oM, .inr (3, [.int gco_3, .int (nI M), .ref oN, .ref oU, .int (nI gz_3), .int gth_3, .int gen_3, .int gmd_3, .int gpo_3, .int gpl_3, .int gla_3, .int (nI gd_3), .long gva_3])), (oN, .inl (cN, 1100, .inl gN_3)), (oU, .inl (cU, 1100, .inr (.inl gU_3))), (oO, .inl (cO, 1, .inr (.inl g)))] H := hP.sub [0, 1, 2, 3, 5, 6, 7, 4] rfl
  have hD : va_D (fun q : Nat => s.heap.size ≤ q) [(oF, .inr (2, [.int (nI M), .ref oS, .int fth_1, .int fom_1, .int fsd_1, .int fpo_1, .int flr_1, .long flv_1, .int (nI fd_1)])), (oS, .inr (1, [.ref oA, .ref oB, .int (nI fh_1)])), (oA, .inl (cA, (min M 512), .inl fP_1)), (oB, .inl (cB, (min M 512), .inr (.inl fV_1))), (oM, .inr (3, [.int gco_3, .int (nI M), .ref oN, .ref oU, .int (nI gz_3), .int gth_3, .int gen_3, .int gmd_3, .int gpo_3, .int gpl_3, .int gla_3, .int (nI gd_3), .long gva_3])), (oN, .inl (cN, 1100, .inl gN_3)), (oU, .inl (cU, 1100, .inr (.inl gU_3))), (oO, .inl (cO, 1, .inr (.inl g)))] := hD.sub [0, 1, 2, 3, 5, 6, 7, 4] (by decide) rfl
  have hK : va_K (dC, dI) vwCl [(cA, .int), (cB, .long), (cN, .int), (cU, .long), (cO, .long)] s := hK
  have hw : r_4 = ga_3 := hw
  rw [hw]
  obtain ⟨S1, S2, S3⟩ := s_open R (xs (1 + 4 * t + 1))
  rw [ef_1, eg_3] at S1 S2
  rw [ef_1] at S3
  have S1 : fa_1 = ga_3 := S1
  have S2 : Rel M (fth_1, fom_1, fsd_1, fpo_1, flr_1, flv_1, fd_1, fP_1, fV_1, fh_1) (gco_3, gz_3, gth_3, gen_3, gmd_3, gpo_3, gpl_3, gla_3, gd_3, gva_3, gN_3, gU_3) := S2
  have S3 : fh_1 ≤ h + 1 := S3
  refine lv_icmp_eq (tgt := 552) hx hb dL_law_136 (by decide) (fun c_5 => ?_) (fun c_5 => ?_)
  · -- taken at 136: fa_1 = ga_3
    refine W.widen (k := 8 + (t + 1)) (n := 3250 + 6 * (t + 1)) (by omega) (by omega) ?_
    exact cont (fth_1, fom_1, fsd_1, fpo_1, flr_1, flv_1, fd_1, fP_1, fV_1, fh_1) (gco_3, gz_3, gth_3, gen_3, gmd_3, gpo_3, gpl_3, gla_3, gd_3, gva_3, gN_3, gU_3) g ls _ _ (show fh_1 ≤ t + 1 by omega) S2 (lv_sub hl [0, 1, 2, 3, 4] rfl) hP hD hS
  · -- not taken at 136: ¬ fa_1 = ga_3
    exact absurd S1 c_5

set_option maxHeartbeats 1000000 in
set_option maxRecDepth 100000 in
theorem law_1 {p : Program} {l : Launch} {e : Env} {s : State} {m : MethodId} {below : List Frame} {meth : Method} {c : Code} {dC : Nat → ClassId} {dI : Nat → Nat → Nat} {b L : Nat} {xs : Nat → Int32} {Q : State → Prop} (hL : L ≤ 2049) (C0 : lw_At p s m meth c b L xs) {oF oS oA oB oM oN oU oO : Nat} {cA cB cN cU cO : ClassId} {M t : Nat} (hM : M ≤ 65536) (ht : 1 + 4 * t + 3 < L) {th om sd po lr : Int32} {lv : Int64} {d : Nat} {P : Nat → Int32} {V : Nat → Int64} {h : Nat} {co th' en md po' pl la : Int32} {z d' : Nat} {va : Int64} {N : Nat → Int32} {U : Nat → Int64} {g : Nat → Int64} (R : Rel M (th, om, sd, po, lr, lv, d, P, V, h) (co, z, th', en, md, po', pl, la, d', va, N, U)) (hht : h ≤ t) (hK : va_K (dC, dI) vwCl [(cA, .int), (cB, .long), (cN, .int), (cU, .long), (cO, .long)] s) (cont : ∀ (u : CSt) (w : MSt) (g : Nat → Int64) (ls : Array Slot) (H : Heap) (locs : List Loc), hOf u ≤ t + 1 → Rel M u w → lv_has ls 8 [(4, .int (nI (1 + 4 * t))), (3, .ref oO), (2, .ref oM), (1, .ref oF), (0, .ref b)] → va_P (dC, dI) vwCl (wF oF oS oA oB cA cB (min M 512) (nI M) u ++ (wM oM oN oU cN cU (nI M) w ++ [(oO, .inl (cO, 1, .inr (.inl g)))])) H → va_D (fun q : Nat => s.heap.size ≤ q) (wF oF oS oA oB cA cB (min M 512) (nI M) u ++ (wM oM oN oU cN cU (nI M) w ++ [(oO, .inl (cO, 1, .inr (.inl g)))])) → va_S (fun q : Nat => s.heap.size ≤ q) s.heap H locs → W p l e room_1 s m #[Value.ref b] below meth c H locs (8 + (t + 1)) (3250 + 6 * (t + 1)) Q (F0 m 552 ls [])) {ls : Array Slot} {H : Heap} {locs : List Loc} (hl : lv_has ls 8 [(4, .int (nI (1 + 4 * t))), (3, .ref oO), (2, .ref oM), (1, .ref oF), (0, .ref b)]) (hP : va_P (dC, dI) vwCl (wF oF oS oA oB cA cB (min M 512) (nI M) (th, om, sd, po, lr, lv, d, P, V, h) ++ (wM oM oN oU cN cU (nI M) (co, z, th', en, md, po', pl, la, d', va, N, U) ++ [(oO, .inl (cO, 1, .inr (.inl g)))])) H) (hD : va_D (fun q : Nat => s.heap.size ≤ q) (wF oF oS oA oB cA cB (min M 512) (nI M) (th, om, sd, po, lr, lv, d, P, V, h) ++ (wM oM oN oU cN cU (nI M) (co, z, th', en, md, po', pl, la, d', va, N, U) ++ [(oO, .inl (cO, 1, .inr (.inl g)))]))) (hS : va_S (fun q : Nat => s.heap.size ≤ q) s.heap H locs) : W p l e room_1 s m #[Value.ref b] below meth c H locs (8 + t) (3250 + 6 * t) Q (F0 m 141 ls []) := by
  obtain ⟨hx, hb, hr, hml, hown0, hts0, hX, hbl, hlocks, hgv⟩ := C0
  have hown : s.vm.findClass RL = some m.cls := hown0
  have hts : ∀ w ∈ wsL_law, w.before #[Value.ref b] s = true := fun w h => hts0 w (wsL_law_in w h)
  have hA : ∀ q : Nat, s.heap.size ≤ q → (fun q : Nat => s.heap.size ≤ q) q := fun _ h => h
  have hbA : ¬ (fun q : Nat => s.heap.size ≤ q) b := Nat.not_le.mpr hbl
  obtain ⟨ez, eth, emd, ela, ed, eva, hd, hlr, hRows, hPos⟩ := id R
  have hcap := hRows.cap
  have hh : h ≤ min M 512 := Nat.le_min.mpr ⟨hcap, by omega⟩
  have hn : min M 512 ≤ 512 := Nat.min_le_right _ _
  have hz : z ≤ 1100 := by omega
  have hz2 : z < 1100 := by omega
  have hh2 : h ≤ 1100 := by omega
  have hM2 : M < 2 ^ 31 := by omega
  have hd' : d' ≤ 9 := by omega
  have hP : va_P (dC, dI) vwCl [(oF, .inr (2, [.int (nI M), .ref oS, .int th, .int om, .int sd, .int po, .int lr, .long lv, .int (nI d)])), (oS, .inr (1, [.ref oA, .ref oB, .int (nI h)])), (oA, .inl (cA, (min M 512), .inl P)), (oB, .inl (cB, (min M 512), .inr (.inl V))), (oM, .inr (3, [.int co, .int (nI M), .ref oN, .ref oU, .int (nI z), .int th', .int en, .int md, .int po', .int pl, .int la, .int (nI d'), .long va])), (oN, .inl (cN, 1100, .inl N)), (oU, .inl (cU, 1100, .inr (.inl U))), (oO, .inl (cO, 1, .inr (.inl g)))] H := hP
  have hD : va_D (fun q : Nat => s.heap.size ≤ q) [(oF, .inr (2, [.int (nI M), .ref oS, .int th, .int om, .int sd, .int po, .int lr, .long lv, .int (nI d)])), (oS, .inr (1, [.ref oA, .ref oB, .int (nI h)])), (oA, .inl (cA, (min M 512), .inl P)), (oB, .inl (cB, (min M 512), .inr (.inl V))), (oM, .inr (3, [.int co, .int (nI M), .ref oN, .ref oU, .int (nI z), .int th', .int en, .int md, .int po', .int pl, .int la, .int (nI d'), .long va])), (oN, .inl (cN, 1100, .inl N)), (oU, .inl (cU, 1100, .inr (.inl U))), (oO, .inl (cO, 1, .inr (.inl g)))] := hD
  refine lv_aload_n hx hb dL_law_141 rfl (lv_at hl 3 rfl) ?_
  refine lv_aload_n hx hb dL_law_142 rfl (lv_at hl 4 rfl) ?_
  refine lv_iload hx hb dL_law_143 (lv_at hl 0 rfl) ?_
  refine lv_iconst (v := 1) hx hb dL_law_145 (by decide) ?_
  refine lv_iadd hx hb dL_law_146 ?_
  rw [show (nI (1 + 4 * t)) + 1 = nI (1 + 4 * t + 1) from nI_add (1 + 4 * t) 1]
  refine va_sld hx hb hX hbl hbA hS (vp_in_nI (by omega) (by omega)) dL_law_147 ?_
  refine W_topi (xs (1 + 4 * t + 1)) (by rw [nI_clamp (by omega)]) ?_
  refine lv_aload_n hx hb dL_law_148 rfl (lv_at hl 4 rfl) ?_
  refine lv_iload hx hb dL_law_149 (lv_at hl 0 rfl) ?_
  refine lv_iconst (v := 2) hx hb dL_law_151 (by decide) ?_
  refine lv_iadd hx hb dL_law_152 ?_
  rw [show (nI (1 + 4 * t)) + 2 = nI (1 + 4 * t + 2) from nI_add (1 + 4 * t) 2]
  refine va_sld hx hb hX hbl hbA hS (vp_in_nI (by omega) (by omega)) dL_law_153 ?_
  refine W_topi (xs (1 + 4 * t + 2)) (by rw [nI_clamp (by omega)]) ?_
  refine lv_i2l (v := (xs (1 + 4 * t + 2)).toInt64) hx hb dL_law_154 rfl ?_
  refine lv_bipush (v := 32) hx hb dL_law_155 (by decide) ?_
  refine lv_lshl (v := ((xs (1 + 4 * t + 2)).toInt64) <<< ((32 : Int32).toInt64 &&& 63)) hx hb dL_law_157 rfl ?_
  refine lv_aload_n hx hb dL_law_158 rfl (lv_at hl 4 rfl) ?_
  refine lv_iload hx hb dL_law_159 (lv_at hl 0 rfl) ?_
  refine lv_iconst (v := 3) hx hb dL_law_161 (by decide) ?_
  refine lv_iadd hx hb dL_law_162 ?_
  rw [show (nI (1 + 4 * t)) + 3 = nI (1 + 4 * t + 3) from nI_add (1 + 4 * t) 3]
  refine va_sld hx hb hX hbl hbA hS (vp_in_nI (by omega) (by omega)) dL_law_163 ?_
  refine W_topi (xs (1 + 4 * t + 3)) (by rw [nI_clamp (by omega)]) ?_
  refine lv_i2l (v := (xs (1 + 4 * t + 3)).toInt64) hx hb dL_law_164 rfl ?_
  refine lv_ldc2 (v := 4294967295) hx hb hown (hts (.constantLong RL 31 4294967295) (by decide +kernel)) dL_law_165 ?_
  refine lv_land hx hb dL_law_168 ?_
  refine lv_lor hx hb dL_law_169 ?_
  refine W_topl (zL (xs (1 + 4 * t + 2)) (xs (1 + 4 * t + 3))) rfl ?_
  have hPc := hP.sub (ws' := [(oF, .inr (2, [.int (nI M), .ref oS, .int th, .int om, .int sd, .int po, .int lr, .long lv, .int (nI d)])), (oS, .inr (1, [.ref oA, .ref oB, .int (nI h)])), (oA, .inl (cA, (min M 512), .inl P)), (oB, .inl (cB, (min M 512), .inr (.inl V)))]) [0, 1, 2, 3] rfl
  have hDc := hD.sub (ws' := [(oF, .inr (2, [.int (nI M), .ref oS, .int th, .int om, .int sd, .int po, .int lr, .long lv, .int (nI d)])), (oS, .inr (1, [.ref oA, .ref oB, .int (nI h)])), (oA, .inl (cA, (min M 512), .inl P)), (oB, .inl (cB, (min M 512), .inr (.inl V)))]) [0, 1, 2, 3] (by decide) rfl
  have hKc := hK.sub (tys' := [(cA, .int), (cB, .long)]) [0, 1] rfl
  have hFc := va_free (wc := [(oF, .inr (2, [.int (nI M), .ref oS, .int th, .int om, .int sd, .int po, .int lr, .long lv, .int (nI d)])), (oS, .inr (1, [.ref oA, .ref oB, .int (nI h)])), (oA, .inl (cA, (min M 512), .inl P)), (oB, .inl (cB, (min M 512), .inr (.inl V)))]) hD hS hA [0, 1, 2, 3] rfl
  refine va_calli (va_runV (As := [.int (xs (1 + 4 * t + 1)), .long (zL (xs (1 + 4 * t + 2)) (xs (1 + 4 * t + 3)))]) (rest := []) ⟨hx, hb, hml, hown, hts⟩ (kX1_write l dC dI oF oS oA oB cA cB (min M 512) h d (nI M) th om sd po lr lv P V (xs (1 + 4 * t + 1)) (zL (xs (1 + 4 * t + 2)) (xs (1 + 4 * t + 3))) H.size hh hn hd (fun x q1 q2 => Nat.lt_min.mpr ⟨hRows.room ((isPl_iff hM2 x).mp q1).1 ((isPl_iff hM2 x).mp q1).2 q2, by omega⟩)) (cwV 2 hts gL_law_X1_write rfl rfl rfl (by decide +kernel) ⟨Nat.le_of_ble_eq_true rfl, Nat.le_of_ble_eq_true rfl⟩) ⟨fun a U g mk q => by obtain ⟨q0, q1, qP, qK, qD⟩ := q; exact ⟨q0, q1, qP, va_K.moved (u := U) (U := U.calling g mk a) (Vm.Alike.refl U.vm) qK, qD⟩, va_recv hKc hPc (ci := 2) (q0 := 0) rfl rfl, fun U hU hW => ⟨rfl, by rw [hU], by rw [hU]; exact hPc, va_K.moved hW.alike hKc, hDc.weaken (fun _ _ _ _ => trivial)⟩⟩ rfl rfl hl.1 rfl (lv_room (Nat.le_of_ble_eq_true rfl)) dL_law_170 ⟨(show (8 + t) + 0 ≤ 601024 by omega), (show (3250 + 6 * t) + 0 ≤ 7293000 by omega)⟩) hS (fun q _ h => hFc q h) hFc (fun r_2 u9 t9 H1 locs ht9 hvm hw hB hz1 hk1 hS => ?_)
  obtain ⟨hP1, hK1, hD1⟩ := hB
  rw [ht9] at hP1
  have hK1 := va_K.moved hvm.symm hK1
  try dsimp only at hw
  obtain ⟨fa_1, fth_1, fom_1, fsd_1, fpo_1, flr_1, flv_1, fd_1, fP_1, fV_1, fh_1, ef_1⟩ : ∃ (a9 : Int32) (th9 om9 sd9 po9 lr9 : Int32) (lv9 : Int64) (d9 : Nat) (P9 : Nat → Int32) (V9 : Nat → Int64) (h9 : Nat), fWrite (nI M) (xs (1 + 4 * t + 1)) (zL (xs (1 + 4 * t + 2)) (xs (1 + 4 * t + 3))) (th, om, sd, po, lr, lv, d, P, V, h) = (a9, th9, om9, sd9, po9, lr9, lv9, d9, P9, V9, h9) := ⟨_, _, _, _, _, _, _, _, _, _, _, rfl⟩
  rw [ef_1] at hP1 hD1 hw
  have hP1 : va_P (dC, dI) vwCl [(oF, .inr (2, [.int (nI M), .ref oS, .int fth_1, .int fom_1, .int fsd_1, .int fpo_1, .int flr_1, .long flv_1, .int (nI fd_1)])), (oS, .inr (1, [.ref oA, .ref oB, .int (nI fh_1)])), (oA, .inl (cA, (min M 512), .inl fP_1)), (oB, .inl (cB, (min M 512), .inr (.inl fV_1)))] H1 := hP1
  have hD1 : va_D _ [(oF, .inr (2, [.int (nI M), .ref oS, .int fth_1, .int fom_1, .int fsd_1, .int fpo_1, .int flr_1, .long flv_1, .int (nI fd_1)])), (oS, .inr (1, [.ref oA, .ref oB, .int (nI fh_1)])), (oA, .inl (cA, (min M 512), .inl fP_1)), (oB, .inl (cB, (min M 512), .inr (.inl fV_1)))] := hD1
  obtain ⟨hP, hD⟩ := va_join (wr := [(oM, .inr (3, [.int co, .int (nI M), .ref oN, .ref oU, .int (nI z), .int th', .int en, .int md, .int po', .int pl, .int la, .int (nI d'), .long va])), (oN, .inl (cN, 1100, .inl N)), (oU, .inl (cU, 1100, .inr (.inl U))), (oO, .inl (cO, 1, .inr (.inl g)))]) (w1 := [(oF, .inr (2, [.int (nI M), .ref oS, .int fth_1, .int fom_1, .int fsd_1, .int fpo_1, .int flr_1, .long flv_1, .int (nI fd_1)])), (oS, .inr (1, [.ref oA, .ref oB, .int (nI fh_1)])), (oA, .inl (cA, (min M 512), .inl fP_1)), (oB, .inl (cB, (min M 512), .inr (.inl fV_1)))]) hP hD [0, 1, 2, 3] [4, 5, 6, 7] rfl rfl (by decide) (by decide) hk1 hFc hP1 hD1
  generalize H1 = H at hP hS ⊢
  have hP : va_P (dC, dI) vwCl [(oF, .inr (2, [.int (nI M), .ref oS, .int fth_1, .int fom_1, .int fsd_1, .int fpo_1, .int flr_1, .long flv_1, .int (nI fd_1)])), (oS, .inr (1, [.ref oA, .ref oB, .int (nI fh_1)])), (oA, .inl (cA, (min M 512), .inl fP_1)), (oB, .inl (cB, (min M 512), .inr (.inl fV_1))), (oM, .inr (3, [.int co, .int (nI M), .ref oN, .ref oU, .int (nI z), .int th', .int en, .int md, .int po', .int pl, .int la, .int (nI d'), .long va])), (oN, .inl (cN, 1100, .inl N)), (oU, .inl (cU, 1100, .inr (.inl U))), (oO, .inl (cO, 1, .inr (.inl g)))] H := hP.sub [4, 5, 6, 7, 0, 1, 2, 3] rfl
  have hD : va_D (fun q : Nat => s.heap.size ≤ q) [(oF, .inr (2, [.int (nI M), .ref oS, .int fth_1, .int fom_1, .int fsd_1, .int fpo_1, .int flr_1, .long flv_1, .int (nI fd_1)])), (oS, .inr (1, [.ref oA, .ref oB, .int (nI fh_1)])), (oA, .inl (cA, (min M 512), .inl fP_1)), (oB, .inl (cB, (min M 512), .inr (.inl fV_1))), (oM, .inr (3, [.int co, .int (nI M), .ref oN, .ref oU, .int (nI z), .int th', .int en, .int md, .int po', .int pl, .int la, .int (nI d'), .long va])), (oN, .inl (cN, 1100, .inl N)), (oU, .inl (cU, 1100, .inr (.inl U))), (oO, .inl (cO, 1, .inr (.inl g)))] := hD.sub [4, 5, 6, 7, 0, 1, 2, 3] (by decide) rfl
  have hK : va_K (dC, dI) vwCl [(cA, .int), (cB, .long), (cN, .int), (cU, .long), (cO, .long)] s := hK
  have hw : r_2 = fa_1 := hw
  rw [hw]
  refine lv_aload_n hx hb dL_law_173 rfl (lv_at hl 2 rfl) ?_
  refine lv_aload_n hx hb dL_law_174 rfl (lv_at hl 4 rfl) ?_
  refine lv_iload hx hb dL_law_175 (lv_at hl 0 rfl) ?_
  refine lv_iconst (v := 1) hx hb dL_law_177 (by decide) ?_
  refine lv_iadd hx hb dL_law_178 ?_
  rw [show (nI (1 + 4 * t)) + 1 = nI (1 + 4 * t + 1) from nI_add (1 + 4 * t) 1]
  refine va_sld hx hb hX hbl hbA hS (vp_in_nI (by omega) (by omega)) dL_law_179 ?_
  refine W_topi (xs (1 + 4 * t + 1)) (by rw [nI_clamp (by omega)]) ?_
  refine lv_aload_n hx hb dL_law_180 rfl (lv_at hl 4 rfl) ?_
  refine lv_iload hx hb dL_law_181 (lv_at hl 0 rfl) ?_
  refine lv_iconst (v := 2) hx hb dL_law_183 (by decide) ?_
  refine lv_iadd hx hb dL_law_184 ?_
  rw [show (nI (1 + 4 * t)) + 2 = nI (1 + 4 * t + 2) from nI_add (1 + 4 * t) 2]
  refine va_sld hx hb hX hbl hbA hS (vp_in_nI (by omega) (by omega)) dL_law_185 ?_
  refine W_topi (xs (1 + 4 * t + 2)) (by rw [nI_clamp (by omega)]) ?_
  refine lv_i2l (v := (xs (1 + 4 * t + 2)).toInt64) hx hb dL_law_186 rfl ?_
  refine lv_bipush (v := 32) hx hb dL_law_187 (by decide) ?_
  refine lv_lshl (v := ((xs (1 + 4 * t + 2)).toInt64) <<< ((32 : Int32).toInt64 &&& 63)) hx hb dL_law_189 rfl ?_
  refine lv_aload_n hx hb dL_law_190 rfl (lv_at hl 4 rfl) ?_
  refine lv_iload hx hb dL_law_191 (lv_at hl 0 rfl) ?_
  refine lv_iconst (v := 3) hx hb dL_law_193 (by decide) ?_
  refine lv_iadd hx hb dL_law_194 ?_
  rw [show (nI (1 + 4 * t)) + 3 = nI (1 + 4 * t + 3) from nI_add (1 + 4 * t) 3]
  refine va_sld hx hb hX hbl hbA hS (vp_in_nI (by omega) (by omega)) dL_law_195 ?_
  refine W_topi (xs (1 + 4 * t + 3)) (by rw [nI_clamp (by omega)]) ?_
  refine lv_i2l (v := (xs (1 + 4 * t + 3)).toInt64) hx hb dL_law_196 rfl ?_
  refine lv_ldc2 (v := 4294967295) hx hb hown (hts (.constantLong RL 31 4294967295) (by decide +kernel)) dL_law_197 ?_
  refine lv_land hx hb dL_law_200 ?_
  refine lv_lor hx hb dL_law_201 ?_
  refine W_topl (zL (xs (1 + 4 * t + 2)) (xs (1 + 4 * t + 3))) rfl ?_
  have hPc := hP.sub (ws' := [(oM, .inr (3, [.int co, .int (nI M), .ref oN, .ref oU, .int (nI z), .int th', .int en, .int md, .int po', .int pl, .int la, .int (nI d'), .long va])), (oN, .inl (cN, 1100, .inl N)), (oU, .inl (cU, 1100, .inr (.inl U)))]) [4, 5, 6] rfl
  have hDc := hD.sub (ws' := [(oM, .inr (3, [.int co, .int (nI M), .ref oN, .ref oU, .int (nI z), .int th', .int en, .int md, .int po', .int pl, .int la, .int (nI d'), .long va])), (oN, .inl (cN, 1100, .inl N)), (oU, .inl (cU, 1100, .inr (.inl U)))]) [4, 5, 6] (by decide) rfl
  have hKc := hK.sub (tys' := [(cN, .int), (cU, .long)]) [2, 3] rfl
  have hFc := va_free (wc := [(oM, .inr (3, [.int co, .int (nI M), .ref oN, .ref oU, .int (nI z), .int th', .int en, .int md, .int po', .int pl, .int la, .int (nI d'), .long va])), (oN, .inl (cN, 1100, .inl N)), (oU, .inl (cU, 1100, .inr (.inl U)))]) hD hS hA [4, 5, 6] rfl
  refine va_calli (va_runV (As := [.int (xs (1 + 4 * t + 1)), .long (zL (xs (1 + 4 * t + 2)) (xs (1 + 4 * t + 3)))]) (rest := [.int fa_1]) ⟨hx, hb, hml, hown, hts⟩ (kX2_write l dC dI oM oN oU cN cU z d' co (nI M) th' en md po' pl la va N U (xs (1 + 4 * t + 1)) (zL (xs (1 + 4 * t + 2)) (xs (1 + 4 * t + 3))) H.size hz hd' hz2) (cwV 2 hts gL_law_X2_write rfl rfl rfl (by decide +kernel) ⟨Nat.le_of_ble_eq_true rfl, Nat.le_of_ble_eq_true rfl⟩) ⟨fun a U g mk q => by obtain ⟨q0, q1, qP, qK, qD⟩ := q; exact ⟨q0, q1, qP, va_K.moved (u := U) (U := U.calling g mk a) (Vm.Alike.refl U.vm) qK, qD⟩, va_recv hKc hPc (ci := 3) (q0 := 0) rfl rfl, fun U hU hW => ⟨rfl, by rw [hU], by rw [hU]; exact hPc, va_K.moved hW.alike hKc, hDc.weaken (fun _ _ _ _ => trivial)⟩⟩ rfl rfl hl.1 rfl (lv_room (Nat.le_of_ble_eq_true rfl)) dL_law_202 ⟨(show (8 + t) + 0 ≤ 601024 by omega), (show (3250 + 6 * t) + 0 ≤ 7293000 by omega)⟩) hS (fun q _ h => hFc q h) hFc (fun r_4 u9 t9 H1 locs ht9 hvm hw hB hz1 hk1 hS => ?_)
  obtain ⟨hP1, hK1, hD1⟩ := hB
  rw [ht9] at hP1
  have hK1 := va_K.moved hvm.symm hK1
  try dsimp only at hw
  obtain ⟨ga_3, gco_3, gz_3, gth_3, gen_3, gmd_3, gpo_3, gpl_3, gla_3, gd_3, gva_3, gN_3, gU_3, eg_3⟩ : ∃ (a9 : Int32) (co9 : Int32) (z9 : Nat) (th9 en9 md9 po9 pl9 la9 : Int32) (d9 : Nat) (va9 : Int64) (N9 : Nat → Int32) (U9 : Nat → Int64), gWrite (nI M) (xs (1 + 4 * t + 1)) (zL (xs (1 + 4 * t + 2)) (xs (1 + 4 * t + 3))) (co, z, th', en, md, po', pl, la, d', va, N, U) = (a9, co9, z9, th9, en9, md9, po9, pl9, la9, d9, va9, N9, U9) := ⟨_, _, _, _, _, _, _, _, _, _, _, _, _, rfl⟩
  rw [eg_3] at hP1 hD1 hw
  have hP1 : va_P (dC, dI) vwCl [(oM, .inr (3, [.int gco_3, .int (nI M), .ref oN, .ref oU, .int (nI gz_3), .int gth_3, .int gen_3, .int gmd_3, .int gpo_3, .int gpl_3, .int gla_3, .int (nI gd_3), .long gva_3])), (oN, .inl (cN, 1100, .inl gN_3)), (oU, .inl (cU, 1100, .inr (.inl gU_3)))] H1 := hP1
  have hD1 : va_D _ [(oM, .inr (3, [.int gco_3, .int (nI M), .ref oN, .ref oU, .int (nI gz_3), .int gth_3, .int gen_3, .int gmd_3, .int gpo_3, .int gpl_3, .int gla_3, .int (nI gd_3), .long gva_3])), (oN, .inl (cN, 1100, .inl gN_3)), (oU, .inl (cU, 1100, .inr (.inl gU_3)))] := hD1
  obtain ⟨hP, hD⟩ := va_join (wr := [(oF, .inr (2, [.int (nI M), .ref oS, .int fth_1, .int fom_1, .int fsd_1, .int fpo_1, .int flr_1, .long flv_1, .int (nI fd_1)])), (oS, .inr (1, [.ref oA, .ref oB, .int (nI fh_1)])), (oA, .inl (cA, (min M 512), .inl fP_1)), (oB, .inl (cB, (min M 512), .inr (.inl fV_1))), (oO, .inl (cO, 1, .inr (.inl g)))]) (w1 := [(oM, .inr (3, [.int gco_3, .int (nI M), .ref oN, .ref oU, .int (nI gz_3), .int gth_3, .int gen_3, .int gmd_3, .int gpo_3, .int gpl_3, .int gla_3, .int (nI gd_3), .long gva_3])), (oN, .inl (cN, 1100, .inl gN_3)), (oU, .inl (cU, 1100, .inr (.inl gU_3)))]) hP hD [4, 5, 6] [0, 1, 2, 3, 7] rfl rfl (by decide) (by decide) hk1 hFc hP1 hD1
  generalize H1 = H at hP hS ⊢
  have hP : va_P (dC, dI) vwCl [(oF, .inr (2, [.int (nI M), .ref oS, .int fth_1, .int fom_1, .int fsd_1, .int fpo_1, .int flr_1, .long flv_1, .int (nI fd_1)])), (oS, .inr (1, [.ref oA, .ref oB, .int (nI fh_1)])), (oA, .inl (cA, (min M 512), .inl fP_1)), (oB, .inl (cB, (min M 512), .inr (.inl fV_1))), (oM, .inr (3, [.int gco_3, .int (nI M), .ref oN, .ref oU, .int (nI gz_3), .int gth_3, .int gen_3, .int gmd_3, .int gpo_3, .int gpl_3, .int gla_3, .int (nI gd_3), .long gva_3])), (oN, .inl (cN, 1100, .inl gN_3)), (oU, .inl (cU, 1100, .inr (.inl gU_3))), (oO, .inl (cO, 1, .inr (.inl g)))] H := hP.sub [0, 1, 2, 3, 5, 6, 7, 4] rfl
  have hD : va_D (fun q : Nat => s.heap.size ≤ q) [(oF, .inr (2, [.int (nI M), .ref oS, .int fth_1, .int fom_1, .int fsd_1, .int fpo_1, .int flr_1, .long flv_1, .int (nI fd_1)])), (oS, .inr (1, [.ref oA, .ref oB, .int (nI fh_1)])), (oA, .inl (cA, (min M 512), .inl fP_1)), (oB, .inl (cB, (min M 512), .inr (.inl fV_1))), (oM, .inr (3, [.int gco_3, .int (nI M), .ref oN, .ref oU, .int (nI gz_3), .int gth_3, .int gen_3, .int gmd_3, .int gpo_3, .int gpl_3, .int gla_3, .int (nI gd_3), .long gva_3])), (oN, .inl (cN, 1100, .inl gN_3)), (oU, .inl (cU, 1100, .inr (.inl gU_3))), (oO, .inl (cO, 1, .inr (.inl g)))] := hD.sub [0, 1, 2, 3, 5, 6, 7, 4] (by decide) rfl
  have hK : va_K (dC, dI) vwCl [(cA, .int), (cB, .long), (cN, .int), (cU, .long), (cO, .long)] s := hK
  have hw : r_4 = ga_3 := hw
  rw [hw]
  obtain ⟨S1, S2, S3⟩ := s_write hM2 hh2 R (xs (1 + 4 * t + 1)) (zL (xs (1 + 4 * t + 2)) (xs (1 + 4 * t + 3)))
  rw [ef_1, eg_3] at S1 S2
  rw [ef_1] at S3
  have S1 : fa_1 = ga_3 := S1
  have S2 : Rel M (fth_1, fom_1, fsd_1, fpo_1, flr_1, flv_1, fd_1, fP_1, fV_1, fh_1) (gco_3, gz_3, gth_3, gen_3, gmd_3, gpo_3, gpl_3, gla_3, gd_3, gva_3, gN_3, gU_3) := S2
  have S3 : fh_1 ≤ h + 1 := S3
  refine lv_icmp_eq (tgt := 552) hx hb dL_law_205 (by decide) (fun c_5 => ?_) (fun c_5 => ?_)
  · -- taken at 205: fa_1 = ga_3
    refine W.widen (k := 8 + (t + 1)) (n := 3250 + 6 * (t + 1)) (by omega) (by omega) ?_
    exact cont (fth_1, fom_1, fsd_1, fpo_1, flr_1, flv_1, fd_1, fP_1, fV_1, fh_1) (gco_3, gz_3, gth_3, gen_3, gmd_3, gpo_3, gpl_3, gla_3, gd_3, gva_3, gN_3, gU_3) g ls _ _ (show fh_1 ≤ t + 1 by omega) S2 (lv_sub hl [0, 1, 2, 3, 4] rfl) hP hD hS
  · -- not taken at 205: ¬ fa_1 = ga_3
    exact absurd S1 c_5

set_option maxHeartbeats 1000000 in
set_option maxRecDepth 100000 in
theorem law_2 {p : Program} {l : Launch} {e : Env} {s : State} {m : MethodId} {below : List Frame} {meth : Method} {c : Code} {dC : Nat → ClassId} {dI : Nat → Nat → Nat} {b L : Nat} {xs : Nat → Int32} {Q : State → Prop} (hL : L ≤ 2049) (C0 : lw_At p s m meth c b L xs) {oF oS oA oB oM oN oU oO : Nat} {cA cB cN cU cO : ClassId} {M t : Nat} (hM : M ≤ 65536) (ht : 1 + 4 * t + 3 < L) {th om sd po lr : Int32} {lv : Int64} {d : Nat} {P : Nat → Int32} {V : Nat → Int64} {h : Nat} {co th' en md po' pl la : Int32} {z d' : Nat} {va : Int64} {N : Nat → Int32} {U : Nat → Int64} {g : Nat → Int64} (R : Rel M (th, om, sd, po, lr, lv, d, P, V, h) (co, z, th', en, md, po', pl, la, d', va, N, U)) (hht : h ≤ t) (hK : va_K (dC, dI) vwCl [(cA, .int), (cB, .long), (cN, .int), (cU, .long), (cO, .long)] s) (cont : ∀ (u : CSt) (w : MSt) (g : Nat → Int64) (ls : Array Slot) (H : Heap) (locs : List Loc), hOf u ≤ t + 1 → Rel M u w → lv_has ls 8 [(4, .int (nI (1 + 4 * t))), (3, .ref oO), (2, .ref oM), (1, .ref oF), (0, .ref b)] → va_P (dC, dI) vwCl (wF oF oS oA oB cA cB (min M 512) (nI M) u ++ (wM oM oN oU cN cU (nI M) w ++ [(oO, .inl (cO, 1, .inr (.inl g)))])) H → va_D (fun q : Nat => s.heap.size ≤ q) (wF oF oS oA oB cA cB (min M 512) (nI M) u ++ (wM oM oN oU cN cU (nI M) w ++ [(oO, .inl (cO, 1, .inr (.inl g)))])) → va_S (fun q : Nat => s.heap.size ≤ q) s.heap H locs → W p l e room_1 s m #[Value.ref b] below meth c H locs (8 + (t + 1)) (3250 + 6 * (t + 1)) Q (F0 m 552 ls [])) {ls : Array Slot} {H : Heap} {locs : List Loc} (hl : lv_has ls 8 [(4, .int (nI (1 + 4 * t))), (3, .ref oO), (2, .ref oM), (1, .ref oF), (0, .ref b)]) (hP : va_P (dC, dI) vwCl (wF oF oS oA oB cA cB (min M 512) (nI M) (th, om, sd, po, lr, lv, d, P, V, h) ++ (wM oM oN oU cN cU (nI M) (co, z, th', en, md, po', pl, la, d', va, N, U) ++ [(oO, .inl (cO, 1, .inr (.inl g)))])) H) (hD : va_D (fun q : Nat => s.heap.size ≤ q) (wF oF oS oA oB cA cB (min M 512) (nI M) (th, om, sd, po, lr, lv, d, P, V, h) ++ (wM oM oN oU cN cU (nI M) (co, z, th', en, md, po', pl, la, d', va, N, U) ++ [(oO, .inl (cO, 1, .inr (.inl g)))]))) (hS : va_S (fun q : Nat => s.heap.size ≤ q) s.heap H locs) : W p l e room_1 s m #[Value.ref b] below meth c H locs (8 + t) (3250 + 6 * t) Q (F0 m 210 ls []) := by
  obtain ⟨hx, hb, hr, hml, hown0, hts0, hX, hbl, hlocks, hgv⟩ := C0
  have hown : s.vm.findClass RL = some m.cls := hown0
  have hts : ∀ w ∈ wsL_law, w.before #[Value.ref b] s = true := fun w h => hts0 w (wsL_law_in w h)
  have hA : ∀ q : Nat, s.heap.size ≤ q → (fun q : Nat => s.heap.size ≤ q) q := fun _ h => h
  have hbA : ¬ (fun q : Nat => s.heap.size ≤ q) b := Nat.not_le.mpr hbl
  obtain ⟨ez, eth, emd, ela, ed, eva, hd, hlr, hRows, hPos⟩ := id R
  have hcap := hRows.cap
  have hh : h ≤ min M 512 := Nat.le_min.mpr ⟨hcap, by omega⟩
  have hn : min M 512 ≤ 512 := Nat.min_le_right _ _
  have hz : z ≤ 1100 := by omega
  have hz2 : z < 1100 := by omega
  have hh2 : h ≤ 1100 := by omega
  have hM2 : M < 2 ^ 31 := by omega
  have hd' : d' ≤ 9 := by omega
  have hP : va_P (dC, dI) vwCl [(oF, .inr (2, [.int (nI M), .ref oS, .int th, .int om, .int sd, .int po, .int lr, .long lv, .int (nI d)])), (oS, .inr (1, [.ref oA, .ref oB, .int (nI h)])), (oA, .inl (cA, (min M 512), .inl P)), (oB, .inl (cB, (min M 512), .inr (.inl V))), (oM, .inr (3, [.int co, .int (nI M), .ref oN, .ref oU, .int (nI z), .int th', .int en, .int md, .int po', .int pl, .int la, .int (nI d'), .long va])), (oN, .inl (cN, 1100, .inl N)), (oU, .inl (cU, 1100, .inr (.inl U))), (oO, .inl (cO, 1, .inr (.inl g)))] H := hP
  have hD : va_D (fun q : Nat => s.heap.size ≤ q) [(oF, .inr (2, [.int (nI M), .ref oS, .int th, .int om, .int sd, .int po, .int lr, .long lv, .int (nI d)])), (oS, .inr (1, [.ref oA, .ref oB, .int (nI h)])), (oA, .inl (cA, (min M 512), .inl P)), (oB, .inl (cB, (min M 512), .inr (.inl V))), (oM, .inr (3, [.int co, .int (nI M), .ref oN, .ref oU, .int (nI z), .int th', .int en, .int md, .int po', .int pl, .int la, .int (nI d'), .long va])), (oN, .inl (cN, 1100, .inl N)), (oU, .inl (cU, 1100, .inr (.inl U))), (oO, .inl (cO, 1, .inr (.inl g)))] := hD
  refine lv_aload_n hx hb dL_law_210 rfl (lv_at hl 3 rfl) ?_
  refine lv_aload_n hx hb dL_law_211 rfl (lv_at hl 4 rfl) ?_
  refine lv_iload hx hb dL_law_212 (lv_at hl 0 rfl) ?_
  refine lv_iconst (v := 1) hx hb dL_law_214 (by decide) ?_
  refine lv_iadd hx hb dL_law_215 ?_
  rw [show (nI (1 + 4 * t)) + 1 = nI (1 + 4 * t + 1) from nI_add (1 + 4 * t) 1]
  refine va_sld hx hb hX hbl hbA hS (vp_in_nI (by omega) (by omega)) dL_law_216 ?_
  refine W_topi (xs (1 + 4 * t + 1)) (by rw [nI_clamp (by omega)]) ?_
  have hPc := hP.sub (ws' := [(oF, .inr (2, [.int (nI M), .ref oS, .int th, .int om, .int sd, .int po, .int lr, .long lv, .int (nI d)])), (oS, .inr (1, [.ref oA, .ref oB, .int (nI h)])), (oA, .inl (cA, (min M 512), .inl P)), (oB, .inl (cB, (min M 512), .inr (.inl V)))]) [0, 1, 2, 3] rfl
  have hDc := hD.sub (ws' := [(oF, .inr (2, [.int (nI M), .ref oS, .int th, .int om, .int sd, .int po, .int lr, .long lv, .int (nI d)])), (oS, .inr (1, [.ref oA, .ref oB, .int (nI h)])), (oA, .inl (cA, (min M 512), .inl P)), (oB, .inl (cB, (min M 512), .inr (.inl V)))]) [0, 1, 2, 3] (by decide) rfl
  have hKc := hK.sub (tys' := [(cA, .int), (cB, .long)]) [0, 1] rfl
  have hFc := va_free (wc := [(oF, .inr (2, [.int (nI M), .ref oS, .int th, .int om, .int sd, .int po, .int lr, .long lv, .int (nI d)])), (oS, .inr (1, [.ref oA, .ref oB, .int (nI h)])), (oA, .inl (cA, (min M 512), .inl P)), (oB, .inl (cB, (min M 512), .inr (.inl V)))]) hD hS hA [0, 1, 2, 3] rfl
  refine va_calli (va_runV (As := [.int (xs (1 + 4 * t + 1))]) (rest := []) ⟨hx, hb, hml, hown, hts⟩ (kX1_read l dC dI oF oS oA oB cA cB (min M 512) h d (nI M) th om sd po lr lv P V (xs (1 + 4 * t + 1)) H.size hh hn) (cwV 1 hts gL_law_X1_read rfl rfl rfl (by decide +kernel) ⟨Nat.le_of_ble_eq_true rfl, Nat.le_of_ble_eq_true rfl⟩) ⟨fun a U g mk q => by obtain ⟨q0, q1, qP, qK, qD⟩ := q; exact ⟨q0, q1, qP, va_K.moved (u := U) (U := U.calling g mk a) (Vm.Alike.refl U.vm) qK, qD⟩, va_recv hKc hPc (ci := 2) (q0 := 0) rfl rfl, fun U hU hW => ⟨rfl, by rw [hU], by rw [hU]; exact hPc, va_K.moved hW.alike hKc, hDc.weaken (fun _ _ _ _ => trivial)⟩⟩ rfl rfl hl.1 rfl (lv_room (Nat.le_of_ble_eq_true rfl)) dL_law_217 ⟨(show (8 + t) + 0 ≤ 601024 by omega), (show (3250 + 6 * t) + 0 ≤ 7293000 by omega)⟩) hS (fun q _ h => hFc q h) hFc (fun r_2 u9 t9 H1 locs ht9 hvm hw hB hz1 hk1 hS => ?_)
  obtain ⟨hP1, hK1, hD1⟩ := hB
  rw [ht9] at hP1
  have hK1 := va_K.moved hvm.symm hK1
  try dsimp only at hw
  obtain ⟨fa_1, fth_1, fom_1, fsd_1, fpo_1, flr_1, flv_1, fd_1, fP_1, fV_1, fh_1, ef_1⟩ : ∃ (a9 : Int32) (th9 om9 sd9 po9 lr9 : Int32) (lv9 : Int64) (d9 : Nat) (P9 : Nat → Int32) (V9 : Nat → Int64) (h9 : Nat), fRead (xs (1 + 4 * t + 1)) (th, om, sd, po, lr, lv, d, P, V, h) = (a9, th9, om9, sd9, po9, lr9, lv9, d9, P9, V9, h9) := ⟨_, _, _, _, _, _, _, _, _, _, _, rfl⟩
  rw [ef_1] at hP1 hD1 hw
  have hP1 : va_P (dC, dI) vwCl [(oF, .inr (2, [.int (nI M), .ref oS, .int fth_1, .int fom_1, .int fsd_1, .int fpo_1, .int flr_1, .long flv_1, .int (nI fd_1)])), (oS, .inr (1, [.ref oA, .ref oB, .int (nI fh_1)])), (oA, .inl (cA, (min M 512), .inl fP_1)), (oB, .inl (cB, (min M 512), .inr (.inl fV_1)))] H1 := hP1
  have hD1 : va_D _ [(oF, .inr (2, [.int (nI M), .ref oS, .int fth_1, .int fom_1, .int fsd_1, .int fpo_1, .int flr_1, .long flv_1, .int (nI fd_1)])), (oS, .inr (1, [.ref oA, .ref oB, .int (nI fh_1)])), (oA, .inl (cA, (min M 512), .inl fP_1)), (oB, .inl (cB, (min M 512), .inr (.inl fV_1)))] := hD1
  obtain ⟨hP, hD⟩ := va_join (wr := [(oM, .inr (3, [.int co, .int (nI M), .ref oN, .ref oU, .int (nI z), .int th', .int en, .int md, .int po', .int pl, .int la, .int (nI d'), .long va])), (oN, .inl (cN, 1100, .inl N)), (oU, .inl (cU, 1100, .inr (.inl U))), (oO, .inl (cO, 1, .inr (.inl g)))]) (w1 := [(oF, .inr (2, [.int (nI M), .ref oS, .int fth_1, .int fom_1, .int fsd_1, .int fpo_1, .int flr_1, .long flv_1, .int (nI fd_1)])), (oS, .inr (1, [.ref oA, .ref oB, .int (nI fh_1)])), (oA, .inl (cA, (min M 512), .inl fP_1)), (oB, .inl (cB, (min M 512), .inr (.inl fV_1)))]) hP hD [0, 1, 2, 3] [4, 5, 6, 7] rfl rfl (by decide) (by decide) hk1 hFc hP1 hD1
  generalize H1 = H at hP hS ⊢
  have hP : va_P (dC, dI) vwCl [(oF, .inr (2, [.int (nI M), .ref oS, .int fth_1, .int fom_1, .int fsd_1, .int fpo_1, .int flr_1, .long flv_1, .int (nI fd_1)])), (oS, .inr (1, [.ref oA, .ref oB, .int (nI fh_1)])), (oA, .inl (cA, (min M 512), .inl fP_1)), (oB, .inl (cB, (min M 512), .inr (.inl fV_1))), (oM, .inr (3, [.int co, .int (nI M), .ref oN, .ref oU, .int (nI z), .int th', .int en, .int md, .int po', .int pl, .int la, .int (nI d'), .long va])), (oN, .inl (cN, 1100, .inl N)), (oU, .inl (cU, 1100, .inr (.inl U))), (oO, .inl (cO, 1, .inr (.inl g)))] H := hP.sub [4, 5, 6, 7, 0, 1, 2, 3] rfl
  have hD : va_D (fun q : Nat => s.heap.size ≤ q) [(oF, .inr (2, [.int (nI M), .ref oS, .int fth_1, .int fom_1, .int fsd_1, .int fpo_1, .int flr_1, .long flv_1, .int (nI fd_1)])), (oS, .inr (1, [.ref oA, .ref oB, .int (nI fh_1)])), (oA, .inl (cA, (min M 512), .inl fP_1)), (oB, .inl (cB, (min M 512), .inr (.inl fV_1))), (oM, .inr (3, [.int co, .int (nI M), .ref oN, .ref oU, .int (nI z), .int th', .int en, .int md, .int po', .int pl, .int la, .int (nI d'), .long va])), (oN, .inl (cN, 1100, .inl N)), (oU, .inl (cU, 1100, .inr (.inl U))), (oO, .inl (cO, 1, .inr (.inl g)))] := hD.sub [4, 5, 6, 7, 0, 1, 2, 3] (by decide) rfl
  have hK : va_K (dC, dI) vwCl [(cA, .int), (cB, .long), (cN, .int), (cU, .long), (cO, .long)] s := hK
  have hw : r_2 = fa_1 := hw
  rw [hw]
  refine lv_aload_n hx hb dL_law_220 rfl (lv_at hl 2 rfl) ?_
  refine lv_aload_n hx hb dL_law_221 rfl (lv_at hl 4 rfl) ?_
  refine lv_iload hx hb dL_law_222 (lv_at hl 0 rfl) ?_
  refine lv_iconst (v := 1) hx hb dL_law_224 (by decide) ?_
  refine lv_iadd hx hb dL_law_225 ?_
  rw [show (nI (1 + 4 * t)) + 1 = nI (1 + 4 * t + 1) from nI_add (1 + 4 * t) 1]
  refine va_sld hx hb hX hbl hbA hS (vp_in_nI (by omega) (by omega)) dL_law_226 ?_
  refine W_topi (xs (1 + 4 * t + 1)) (by rw [nI_clamp (by omega)]) ?_
  have hPc := hP.sub (ws' := [(oM, .inr (3, [.int co, .int (nI M), .ref oN, .ref oU, .int (nI z), .int th', .int en, .int md, .int po', .int pl, .int la, .int (nI d'), .long va])), (oN, .inl (cN, 1100, .inl N)), (oU, .inl (cU, 1100, .inr (.inl U)))]) [4, 5, 6] rfl
  have hDc := hD.sub (ws' := [(oM, .inr (3, [.int co, .int (nI M), .ref oN, .ref oU, .int (nI z), .int th', .int en, .int md, .int po', .int pl, .int la, .int (nI d'), .long va])), (oN, .inl (cN, 1100, .inl N)), (oU, .inl (cU, 1100, .inr (.inl U)))]) [4, 5, 6] (by decide) rfl
  have hKc := hK.sub (tys' := [(cN, .int), (cU, .long)]) [2, 3] rfl
  have hFc := va_free (wc := [(oM, .inr (3, [.int co, .int (nI M), .ref oN, .ref oU, .int (nI z), .int th', .int en, .int md, .int po', .int pl, .int la, .int (nI d'), .long va])), (oN, .inl (cN, 1100, .inl N)), (oU, .inl (cU, 1100, .inr (.inl U)))]) hD hS hA [4, 5, 6] rfl
  refine va_calli (va_runV (As := [.int (xs (1 + 4 * t + 1))]) (rest := [.int fa_1]) ⟨hx, hb, hml, hown, hts⟩ (kX2_read l dC dI oM oN oU cN cU z d' co (nI M) th' en md po' pl la va N U (xs (1 + 4 * t + 1)) H.size hz) (cwV 1 hts gL_law_X2_read rfl rfl rfl (by decide +kernel) ⟨Nat.le_of_ble_eq_true rfl, Nat.le_of_ble_eq_true rfl⟩) ⟨fun a U g mk q => by obtain ⟨q0, q1, qP, qK, qD⟩ := q; exact ⟨q0, q1, qP, va_K.moved (u := U) (U := U.calling g mk a) (Vm.Alike.refl U.vm) qK, qD⟩, va_recv hKc hPc (ci := 3) (q0 := 0) rfl rfl, fun U hU hW => ⟨rfl, by rw [hU], by rw [hU]; exact hPc, va_K.moved hW.alike hKc, hDc.weaken (fun _ _ _ _ => trivial)⟩⟩ rfl rfl hl.1 rfl (lv_room (Nat.le_of_ble_eq_true rfl)) dL_law_227 ⟨(show (8 + t) + 0 ≤ 601024 by omega), (show (3250 + 6 * t) + 0 ≤ 7293000 by omega)⟩) hS (fun q _ h => hFc q h) hFc (fun r_4 u9 t9 H1 locs ht9 hvm hw hB hz1 hk1 hS => ?_)
  obtain ⟨hP1, hK1, hD1⟩ := hB
  rw [ht9] at hP1
  have hK1 := va_K.moved hvm.symm hK1
  try dsimp only at hw
  obtain ⟨ga_3, gco_3, gz_3, gth_3, gen_3, gmd_3, gpo_3, gpl_3, gla_3, gd_3, gva_3, gN_3, gU_3, eg_3⟩ : ∃ (a9 : Int32) (co9 : Int32) (z9 : Nat) (th9 en9 md9 po9 pl9 la9 : Int32) (d9 : Nat) (va9 : Int64) (N9 : Nat → Int32) (U9 : Nat → Int64), gRead (xs (1 + 4 * t + 1)) (co, z, th', en, md, po', pl, la, d', va, N, U) = (a9, co9, z9, th9, en9, md9, po9, pl9, la9, d9, va9, N9, U9) := ⟨_, _, _, _, _, _, _, _, _, _, _, _, _, rfl⟩
  rw [eg_3] at hP1 hD1 hw
  have hP1 : va_P (dC, dI) vwCl [(oM, .inr (3, [.int gco_3, .int (nI M), .ref oN, .ref oU, .int (nI gz_3), .int gth_3, .int gen_3, .int gmd_3, .int gpo_3, .int gpl_3, .int gla_3, .int (nI gd_3), .long gva_3])), (oN, .inl (cN, 1100, .inl gN_3)), (oU, .inl (cU, 1100, .inr (.inl gU_3)))] H1 := hP1
  have hD1 : va_D _ [(oM, .inr (3, [.int gco_3, .int (nI M), .ref oN, .ref oU, .int (nI gz_3), .int gth_3, .int gen_3, .int gmd_3, .int gpo_3, .int gpl_3, .int gla_3, .int (nI gd_3), .long gva_3])), (oN, .inl (cN, 1100, .inl gN_3)), (oU, .inl (cU, 1100, .inr (.inl gU_3)))] := hD1
  obtain ⟨hP, hD⟩ := va_join (wr := [(oF, .inr (2, [.int (nI M), .ref oS, .int fth_1, .int fom_1, .int fsd_1, .int fpo_1, .int flr_1, .long flv_1, .int (nI fd_1)])), (oS, .inr (1, [.ref oA, .ref oB, .int (nI fh_1)])), (oA, .inl (cA, (min M 512), .inl fP_1)), (oB, .inl (cB, (min M 512), .inr (.inl fV_1))), (oO, .inl (cO, 1, .inr (.inl g)))]) (w1 := [(oM, .inr (3, [.int gco_3, .int (nI M), .ref oN, .ref oU, .int (nI gz_3), .int gth_3, .int gen_3, .int gmd_3, .int gpo_3, .int gpl_3, .int gla_3, .int (nI gd_3), .long gva_3])), (oN, .inl (cN, 1100, .inl gN_3)), (oU, .inl (cU, 1100, .inr (.inl gU_3)))]) hP hD [4, 5, 6] [0, 1, 2, 3, 7] rfl rfl (by decide) (by decide) hk1 hFc hP1 hD1
  generalize H1 = H at hP hS ⊢
  have hP : va_P (dC, dI) vwCl [(oF, .inr (2, [.int (nI M), .ref oS, .int fth_1, .int fom_1, .int fsd_1, .int fpo_1, .int flr_1, .long flv_1, .int (nI fd_1)])), (oS, .inr (1, [.ref oA, .ref oB, .int (nI fh_1)])), (oA, .inl (cA, (min M 512), .inl fP_1)), (oB, .inl (cB, (min M 512), .inr (.inl fV_1))), (oM, .inr (3, [.int gco_3, .int (nI M), .ref oN, .ref oU, .int (nI gz_3), .int gth_3, .int gen_3, .int gmd_3, .int gpo_3, .int gpl_3, .int gla_3, .int (nI gd_3), .long gva_3])), (oN, .inl (cN, 1100, .inl gN_3)), (oU, .inl (cU, 1100, .inr (.inl gU_3))), (oO, .inl (cO, 1, .inr (.inl g)))] H := hP.sub [0, 1, 2, 3, 5, 6, 7, 4] rfl
  have hD : va_D (fun q : Nat => s.heap.size ≤ q) [(oF, .inr (2, [.int (nI M), .ref oS, .int fth_1, .int fom_1, .int fsd_1, .int fpo_1, .int flr_1, .long flv_1, .int (nI fd_1)])), (oS, .inr (1, [.ref oA, .ref oB, .int (nI fh_1)])), (oA, .inl (cA, (min M 512), .inl fP_1)), (oB, .inl (cB, (min M 512), .inr (.inl fV_1))), (oM, .inr (3, [.int gco_3, .int (nI M), .ref oN, .ref oU, .int (nI gz_3), .int gth_3, .int gen_3, .int gmd_3, .int gpo_3, .int gpl_3, .int gla_3, .int (nI gd_3), .long gva_3])), (oN, .inl (cN, 1100, .inl gN_3)), (oU, .inl (cU, 1100, .inr (.inl gU_3))), (oO, .inl (cO, 1, .inr (.inl g)))] := hD.sub [0, 1, 2, 3, 5, 6, 7, 4] (by decide) rfl
  have hK : va_K (dC, dI) vwCl [(cA, .int), (cB, .long), (cN, .int), (cU, .long), (cO, .long)] s := hK
  have hw : r_4 = ga_3 := hw
  rw [hw]
  obtain ⟨S1, S2, S3⟩ := s_read hh2 R (xs (1 + 4 * t + 1))
  rw [ef_1, eg_3] at S1 S2
  rw [ef_1] at S3
  have S1 : fa_1 = ga_3 := S1
  have S2 : Rel M (fth_1, fom_1, fsd_1, fpo_1, flr_1, flv_1, fd_1, fP_1, fV_1, fh_1) (gco_3, gz_3, gth_3, gen_3, gmd_3, gpo_3, gpl_3, gla_3, gd_3, gva_3, gN_3, gU_3) := S2
  have S3 : fh_1 ≤ h + 1 := S3
  refine lv_icmp_eq (tgt := 552) hx hb dL_law_230 (by decide) (fun c_5 => ?_) (fun c_5 => ?_)
  · -- taken at 230: fa_1 = ga_3
    refine W.widen (k := 8 + (t + 1)) (n := 3250 + 6 * (t + 1)) (by omega) (by omega) ?_
    exact cont (fth_1, fom_1, fsd_1, fpo_1, flr_1, flv_1, fd_1, fP_1, fV_1, fh_1) (gco_3, gz_3, gth_3, gen_3, gmd_3, gpo_3, gpl_3, gla_3, gd_3, gva_3, gN_3, gU_3) g ls _ _ (show fh_1 ≤ t + 1 by omega) S2 (lv_sub hl [0, 1, 2, 3, 4] rfl) hP hD hS
  · -- not taken at 230: ¬ fa_1 = ga_3
    exact absurd S1 c_5

set_option maxHeartbeats 1000000 in
set_option maxRecDepth 100000 in
theorem law_3 {p : Program} {l : Launch} {e : Env} {s : State} {m : MethodId} {below : List Frame} {meth : Method} {c : Code} {dC : Nat → ClassId} {dI : Nat → Nat → Nat} {b L : Nat} {xs : Nat → Int32} {Q : State → Prop} (hL : L ≤ 2049) (C0 : lw_At p s m meth c b L xs) {oF oS oA oB oM oN oU oO : Nat} {cA cB cN cU cO : ClassId} {M t : Nat} (hM : M ≤ 65536) (ht : 1 + 4 * t + 3 < L) {th om sd po lr : Int32} {lv : Int64} {d : Nat} {P : Nat → Int32} {V : Nat → Int64} {h : Nat} {co th' en md po' pl la : Int32} {z d' : Nat} {va : Int64} {N : Nat → Int32} {U : Nat → Int64} {g : Nat → Int64} (R : Rel M (th, om, sd, po, lr, lv, d, P, V, h) (co, z, th', en, md, po', pl, la, d', va, N, U)) (hht : h ≤ t) (hK : va_K (dC, dI) vwCl [(cA, .int), (cB, .long), (cN, .int), (cU, .long), (cO, .long)] s) (cont : ∀ (u : CSt) (w : MSt) (g : Nat → Int64) (ls : Array Slot) (H : Heap) (locs : List Loc), hOf u ≤ t + 1 → Rel M u w → lv_has ls 8 [(4, .int (nI (1 + 4 * t))), (3, .ref oO), (2, .ref oM), (1, .ref oF), (0, .ref b)] → va_P (dC, dI) vwCl (wF oF oS oA oB cA cB (min M 512) (nI M) u ++ (wM oM oN oU cN cU (nI M) w ++ [(oO, .inl (cO, 1, .inr (.inl g)))])) H → va_D (fun q : Nat => s.heap.size ≤ q) (wF oF oS oA oB cA cB (min M 512) (nI M) u ++ (wM oM oN oU cN cU (nI M) w ++ [(oO, .inl (cO, 1, .inr (.inl g)))])) → va_S (fun q : Nat => s.heap.size ≤ q) s.heap H locs → W p l e room_1 s m #[Value.ref b] below meth c H locs (8 + (t + 1)) (3250 + 6 * (t + 1)) Q (F0 m 552 ls [])) {ls : Array Slot} {H : Heap} {locs : List Loc} (hl : lv_has ls 8 [(4, .int (nI (1 + 4 * t))), (3, .ref oO), (2, .ref oM), (1, .ref oF), (0, .ref b)]) (hP : va_P (dC, dI) vwCl (wF oF oS oA oB cA cB (min M 512) (nI M) (th, om, sd, po, lr, lv, d, P, V, h) ++ (wM oM oN oU cN cU (nI M) (co, z, th', en, md, po', pl, la, d', va, N, U) ++ [(oO, .inl (cO, 1, .inr (.inl g)))])) H) (hD : va_D (fun q : Nat => s.heap.size ≤ q) (wF oF oS oA oB cA cB (min M 512) (nI M) (th, om, sd, po, lr, lv, d, P, V, h) ++ (wM oM oN oU cN cU (nI M) (co, z, th', en, md, po', pl, la, d', va, N, U) ++ [(oO, .inl (cO, 1, .inr (.inl g)))]))) (hS : va_S (fun q : Nat => s.heap.size ≤ q) s.heap H locs) : W p l e room_1 s m #[Value.ref b] below meth c H locs (8 + t) (3250 + 6 * t) Q (F0 m 235 ls []) := by
  obtain ⟨hx, hb, hr, hml, hown0, hts0, hX, hbl, hlocks, hgv⟩ := C0
  have hown : s.vm.findClass RL = some m.cls := hown0
  have hts : ∀ w ∈ wsL_law, w.before #[Value.ref b] s = true := fun w h => hts0 w (wsL_law_in w h)
  have hA : ∀ q : Nat, s.heap.size ≤ q → (fun q : Nat => s.heap.size ≤ q) q := fun _ h => h
  have hbA : ¬ (fun q : Nat => s.heap.size ≤ q) b := Nat.not_le.mpr hbl
  obtain ⟨ez, eth, emd, ela, ed, eva, hd, hlr, hRows, hPos⟩ := id R
  have hcap := hRows.cap
  have hh : h ≤ min M 512 := Nat.le_min.mpr ⟨hcap, by omega⟩
  have hn : min M 512 ≤ 512 := Nat.min_le_right _ _
  have hz : z ≤ 1100 := by omega
  have hz2 : z < 1100 := by omega
  have hh2 : h ≤ 1100 := by omega
  have hM2 : M < 2 ^ 31 := by omega
  have hd' : d' ≤ 9 := by omega
  have hP : va_P (dC, dI) vwCl [(oF, .inr (2, [.int (nI M), .ref oS, .int th, .int om, .int sd, .int po, .int lr, .long lv, .int (nI d)])), (oS, .inr (1, [.ref oA, .ref oB, .int (nI h)])), (oA, .inl (cA, (min M 512), .inl P)), (oB, .inl (cB, (min M 512), .inr (.inl V))), (oM, .inr (3, [.int co, .int (nI M), .ref oN, .ref oU, .int (nI z), .int th', .int en, .int md, .int po', .int pl, .int la, .int (nI d'), .long va])), (oN, .inl (cN, 1100, .inl N)), (oU, .inl (cU, 1100, .inr (.inl U))), (oO, .inl (cO, 1, .inr (.inl g)))] H := hP
  have hD : va_D (fun q : Nat => s.heap.size ≤ q) [(oF, .inr (2, [.int (nI M), .ref oS, .int th, .int om, .int sd, .int po, .int lr, .long lv, .int (nI d)])), (oS, .inr (1, [.ref oA, .ref oB, .int (nI h)])), (oA, .inl (cA, (min M 512), .inl P)), (oB, .inl (cB, (min M 512), .inr (.inl V))), (oM, .inr (3, [.int co, .int (nI M), .ref oN, .ref oU, .int (nI z), .int th', .int en, .int md, .int po', .int pl, .int la, .int (nI d'), .long va])), (oN, .inl (cN, 1100, .inl N)), (oU, .inl (cU, 1100, .inr (.inl U))), (oO, .inl (cO, 1, .inr (.inl g)))] := hD
  refine lv_aload_n hx hb dL_law_235 rfl (lv_at hl 3 rfl) ?_
  have hPc := hP.sub (ws' := [(oF, .inr (2, [.int (nI M), .ref oS, .int th, .int om, .int sd, .int po, .int lr, .long lv, .int (nI d)])), (oS, .inr (1, [.ref oA, .ref oB, .int (nI h)])), (oA, .inl (cA, (min M 512), .inl P)), (oB, .inl (cB, (min M 512), .inr (.inl V)))]) [0, 1, 2, 3] rfl
  have hDc := hD.sub (ws' := [(oF, .inr (2, [.int (nI M), .ref oS, .int th, .int om, .int sd, .int po, .int lr, .long lv, .int (nI d)])), (oS, .inr (1, [.ref oA, .ref oB, .int (nI h)])), (oA, .inl (cA, (min M 512), .inl P)), (oB, .inl (cB, (min M 512), .inr (.inl V)))]) [0, 1, 2, 3] (by decide) rfl
  have hKc := hK.sub (tys' := [(cA, .int), (cB, .long)]) [0, 1] rfl
  have hFc := va_free (wc := [(oF, .inr (2, [.int (nI M), .ref oS, .int th, .int om, .int sd, .int po, .int lr, .long lv, .int (nI d)])), (oS, .inr (1, [.ref oA, .ref oB, .int (nI h)])), (oA, .inl (cA, (min M 512), .inl P)), (oB, .inl (cB, (min M 512), .inr (.inl V)))]) hD hS hA [0, 1, 2, 3] rfl
  refine va_calll (va_runV (As := []) (rest := []) ⟨hx, hb, hml, hown, hts⟩ (kX1_value l dC dI oF oS oA oB cA cB (min M 512) h d (nI M) th om sd po lr lv P V  H.size hh hn) (cwV 0 hts gL_law_X1_value rfl rfl rfl (by decide +kernel) ⟨Nat.le_of_ble_eq_true rfl, Nat.le_of_ble_eq_true rfl⟩) ⟨fun a U g mk q => by obtain ⟨q0, q1, qP, qK, qD⟩ := q; exact ⟨q0, q1, qP, va_K.moved (u := U) (U := U.calling g mk a) (Vm.Alike.refl U.vm) qK, qD⟩, va_recv hKc hPc (ci := 2) (q0 := 0) rfl rfl, fun U hU hW => ⟨rfl, by rw [hU], by rw [hU]; exact hPc, va_K.moved hW.alike hKc, hDc.weaken (fun _ _ _ _ => trivial)⟩⟩ rfl rfl hl.1 rfl (lv_room (Nat.le_of_ble_eq_true rfl)) dL_law_236 ⟨(show (8 + t) + 0 ≤ 601024 by omega), (show (3250 + 6 * t) + 0 ≤ 7293000 by omega)⟩) hS (fun q _ h => hFc q h) hFc (fun r_1 u9 t9 H1 locs ht9 hvm hw hB hz1 hk1 hS => ?_)
  obtain ⟨hP1, hK1, hD1⟩ := hB
  rw [ht9] at hP1
  have hK1 := va_K.moved hvm.symm hK1
  try dsimp only at hw
  obtain ⟨hP, hD⟩ := va_join (wr := [(oM, .inr (3, [.int co, .int (nI M), .ref oN, .ref oU, .int (nI z), .int th', .int en, .int md, .int po', .int pl, .int la, .int (nI d'), .long va])), (oN, .inl (cN, 1100, .inl N)), (oU, .inl (cU, 1100, .inr (.inl U))), (oO, .inl (cO, 1, .inr (.inl g)))]) (w1 := [(oF, .inr (2, [.int (nI M), .ref oS, .int th, .int om, .int sd, .int po, .int lr, .long lv, .int (nI d)])), (oS, .inr (1, [.ref oA, .ref oB, .int (nI h)])), (oA, .inl (cA, (min M 512), .inl P)), (oB, .inl (cB, (min M 512), .inr (.inl V)))]) hP hD [0, 1, 2, 3] [4, 5, 6, 7] rfl rfl (by decide) (by decide) hk1 hFc hP1 hD1
  generalize H1 = H at hP hS ⊢
  have hP : va_P (dC, dI) vwCl [(oF, .inr (2, [.int (nI M), .ref oS, .int th, .int om, .int sd, .int po, .int lr, .long lv, .int (nI d)])), (oS, .inr (1, [.ref oA, .ref oB, .int (nI h)])), (oA, .inl (cA, (min M 512), .inl P)), (oB, .inl (cB, (min M 512), .inr (.inl V))), (oM, .inr (3, [.int co, .int (nI M), .ref oN, .ref oU, .int (nI z), .int th', .int en, .int md, .int po', .int pl, .int la, .int (nI d'), .long va])), (oN, .inl (cN, 1100, .inl N)), (oU, .inl (cU, 1100, .inr (.inl U))), (oO, .inl (cO, 1, .inr (.inl g)))] H := hP.sub [4, 5, 6, 7, 0, 1, 2, 3] rfl
  have hD : va_D (fun q : Nat => s.heap.size ≤ q) [(oF, .inr (2, [.int (nI M), .ref oS, .int th, .int om, .int sd, .int po, .int lr, .long lv, .int (nI d)])), (oS, .inr (1, [.ref oA, .ref oB, .int (nI h)])), (oA, .inl (cA, (min M 512), .inl P)), (oB, .inl (cB, (min M 512), .inr (.inl V))), (oM, .inr (3, [.int co, .int (nI M), .ref oN, .ref oU, .int (nI z), .int th', .int en, .int md, .int po', .int pl, .int la, .int (nI d'), .long va])), (oN, .inl (cN, 1100, .inl N)), (oU, .inl (cU, 1100, .inr (.inl U))), (oO, .inl (cO, 1, .inr (.inl g)))] := hD.sub [4, 5, 6, 7, 0, 1, 2, 3] (by decide) rfl
  have hK : va_K (dC, dI) vwCl [(cA, .int), (cB, .long), (cN, .int), (cU, .long), (cO, .long)] s := hK
  have hw : r_1 = lv := hw
  rw [hw]
  refine lv_aload_n hx hb dL_law_239 rfl (lv_at hl 2 rfl) ?_
  have hPc := hP.sub (ws' := [(oM, .inr (3, [.int co, .int (nI M), .ref oN, .ref oU, .int (nI z), .int th', .int en, .int md, .int po', .int pl, .int la, .int (nI d'), .long va])), (oN, .inl (cN, 1100, .inl N)), (oU, .inl (cU, 1100, .inr (.inl U)))]) [4, 5, 6] rfl
  have hDc := hD.sub (ws' := [(oM, .inr (3, [.int co, .int (nI M), .ref oN, .ref oU, .int (nI z), .int th', .int en, .int md, .int po', .int pl, .int la, .int (nI d'), .long va])), (oN, .inl (cN, 1100, .inl N)), (oU, .inl (cU, 1100, .inr (.inl U)))]) [4, 5, 6] (by decide) rfl
  have hKc := hK.sub (tys' := [(cN, .int), (cU, .long)]) [2, 3] rfl
  have hFc := va_free (wc := [(oM, .inr (3, [.int co, .int (nI M), .ref oN, .ref oU, .int (nI z), .int th', .int en, .int md, .int po', .int pl, .int la, .int (nI d'), .long va])), (oN, .inl (cN, 1100, .inl N)), (oU, .inl (cU, 1100, .inr (.inl U)))]) hD hS hA [4, 5, 6] rfl
  refine va_calll (va_runV (As := []) (rest := [.long lv]) ⟨hx, hb, hml, hown, hts⟩ (kX2_value l dC dI oM oN oU cN cU z d' co (nI M) th' en md po' pl la va N U  H.size hz) (cwV 0 hts gL_law_X2_value rfl rfl rfl (by decide +kernel) ⟨Nat.le_of_ble_eq_true rfl, Nat.le_of_ble_eq_true rfl⟩) ⟨fun a U g mk q => by obtain ⟨q0, q1, qP, qK, qD⟩ := q; exact ⟨q0, q1, qP, va_K.moved (u := U) (U := U.calling g mk a) (Vm.Alike.refl U.vm) qK, qD⟩, va_recv hKc hPc (ci := 3) (q0 := 0) rfl rfl, fun U hU hW => ⟨rfl, by rw [hU], by rw [hU]; exact hPc, va_K.moved hW.alike hKc, hDc.weaken (fun _ _ _ _ => trivial)⟩⟩ rfl rfl hl.1 rfl (lv_room (Nat.le_of_ble_eq_true rfl)) dL_law_240 ⟨(show (8 + t) + 0 ≤ 601024 by omega), (show (3250 + 6 * t) + 0 ≤ 7293000 by omega)⟩) hS (fun q _ h => hFc q h) hFc (fun r_2 u9 t9 H1 locs ht9 hvm hw hB hz1 hk1 hS => ?_)
  obtain ⟨hP1, hK1, hD1⟩ := hB
  rw [ht9] at hP1
  have hK1 := va_K.moved hvm.symm hK1
  try dsimp only at hw
  obtain ⟨hP, hD⟩ := va_join (wr := [(oF, .inr (2, [.int (nI M), .ref oS, .int th, .int om, .int sd, .int po, .int lr, .long lv, .int (nI d)])), (oS, .inr (1, [.ref oA, .ref oB, .int (nI h)])), (oA, .inl (cA, (min M 512), .inl P)), (oB, .inl (cB, (min M 512), .inr (.inl V))), (oO, .inl (cO, 1, .inr (.inl g)))]) (w1 := [(oM, .inr (3, [.int 0, .int (nI M), .ref oN, .ref oU, .int (nI z), .int th', .int en, .int md, .int po', .int pl, .int la, .int (nI d'), .long va])), (oN, .inl (cN, 1100, .inl N)), (oU, .inl (cU, 1100, .inr (.inl U)))]) hP hD [4, 5, 6] [0, 1, 2, 3, 7] rfl rfl (by decide) (by decide) hk1 hFc hP1 hD1
  generalize H1 = H at hP hS ⊢
  have hP : va_P (dC, dI) vwCl [(oF, .inr (2, [.int (nI M), .ref oS, .int th, .int om, .int sd, .int po, .int lr, .long lv, .int (nI d)])), (oS, .inr (1, [.ref oA, .ref oB, .int (nI h)])), (oA, .inl (cA, (min M 512), .inl P)), (oB, .inl (cB, (min M 512), .inr (.inl V))), (oM, .inr (3, [.int 0, .int (nI M), .ref oN, .ref oU, .int (nI z), .int th', .int en, .int md, .int po', .int pl, .int la, .int (nI d'), .long va])), (oN, .inl (cN, 1100, .inl N)), (oU, .inl (cU, 1100, .inr (.inl U))), (oO, .inl (cO, 1, .inr (.inl g)))] H := hP.sub [0, 1, 2, 3, 5, 6, 7, 4] rfl
  have hD : va_D (fun q : Nat => s.heap.size ≤ q) [(oF, .inr (2, [.int (nI M), .ref oS, .int th, .int om, .int sd, .int po, .int lr, .long lv, .int (nI d)])), (oS, .inr (1, [.ref oA, .ref oB, .int (nI h)])), (oA, .inl (cA, (min M 512), .inl P)), (oB, .inl (cB, (min M 512), .inr (.inl V))), (oM, .inr (3, [.int 0, .int (nI M), .ref oN, .ref oU, .int (nI z), .int th', .int en, .int md, .int po', .int pl, .int la, .int (nI d'), .long va])), (oN, .inl (cN, 1100, .inl N)), (oU, .inl (cU, 1100, .inr (.inl U))), (oO, .inl (cO, 1, .inr (.inl g)))] := hD.sub [0, 1, 2, 3, 5, 6, 7, 4] (by decide) rfl
  have hK : va_K (dC, dI) vwCl [(cA, .int), (cB, .long), (cN, .int), (cU, .long), (cO, .long)] s := hK
  have hw : r_2 = va := hw
  rw [hw]
  refine W.lcmp hx hb dL_law_243 ?_
  refine lv_if_eq (tgt := 552) hx hb dL_law_244 (by decide) (fun c_3 => ?_) (fun c_3 => ?_)
  · -- taken at 244: (lg_cmp lv va) = 0
    refine W.widen (k := 8 + (t + 1)) (n := 3250 + 6 * (t + 1)) (by omega) (by omega) ?_
    exact cont (th, om, sd, po, lr, lv, d, P, V, h) (0, z, th', en, md, po', pl, la, d', va, N, U) g ls _ _ (show h ≤ t + 1 by omega) R.code (lv_sub hl [0, 1, 2, 3, 4] rfl) hP hD hS
  · -- not taken at 244: ¬ (lg_cmp lv va) = 0
    exact absurd ((lg_cmp_eq _ _).mpr eva.symm) c_3

set_option maxHeartbeats 1000000 in
set_option maxRecDepth 100000 in
theorem law_4 {p : Program} {l : Launch} {e : Env} {s : State} {m : MethodId} {below : List Frame} {meth : Method} {c : Code} {dC : Nat → ClassId} {dI : Nat → Nat → Nat} {b L : Nat} {xs : Nat → Int32} {Q : State → Prop} (hL : L ≤ 2049) (C0 : lw_At p s m meth c b L xs) {oF oS oA oB oM oN oU oO : Nat} {cA cB cN cU cO : ClassId} {M t : Nat} (hM : M ≤ 65536) (ht : 1 + 4 * t + 3 < L) {th om sd po lr : Int32} {lv : Int64} {d : Nat} {P : Nat → Int32} {V : Nat → Int64} {h : Nat} {co th' en md po' pl la : Int32} {z d' : Nat} {va : Int64} {N : Nat → Int32} {U : Nat → Int64} {g : Nat → Int64} (R : Rel M (th, om, sd, po, lr, lv, d, P, V, h) (co, z, th', en, md, po', pl, la, d', va, N, U)) (hht : h ≤ t) (hK : va_K (dC, dI) vwCl [(cA, .int), (cB, .long), (cN, .int), (cU, .long), (cO, .long)] s) (cont : ∀ (u : CSt) (w : MSt) (g : Nat → Int64) (ls : Array Slot) (H : Heap) (locs : List Loc), hOf u ≤ t + 1 → Rel M u w → lv_has ls 8 [(4, .int (nI (1 + 4 * t))), (3, .ref oO), (2, .ref oM), (1, .ref oF), (0, .ref b)] → va_P (dC, dI) vwCl (wF oF oS oA oB cA cB (min M 512) (nI M) u ++ (wM oM oN oU cN cU (nI M) w ++ [(oO, .inl (cO, 1, .inr (.inl g)))])) H → va_D (fun q : Nat => s.heap.size ≤ q) (wF oF oS oA oB cA cB (min M 512) (nI M) u ++ (wM oM oN oU cN cU (nI M) w ++ [(oO, .inl (cO, 1, .inr (.inl g)))])) → va_S (fun q : Nat => s.heap.size ≤ q) s.heap H locs → W p l e room_1 s m #[Value.ref b] below meth c H locs (8 + (t + 1)) (3250 + 6 * (t + 1)) Q (F0 m 552 ls [])) {ls : Array Slot} {H : Heap} {locs : List Loc} (hl : lv_has ls 8 [(4, .int (nI (1 + 4 * t))), (3, .ref oO), (2, .ref oM), (1, .ref oF), (0, .ref b)]) (hP : va_P (dC, dI) vwCl (wF oF oS oA oB cA cB (min M 512) (nI M) (th, om, sd, po, lr, lv, d, P, V, h) ++ (wM oM oN oU cN cU (nI M) (co, z, th', en, md, po', pl, la, d', va, N, U) ++ [(oO, .inl (cO, 1, .inr (.inl g)))])) H) (hD : va_D (fun q : Nat => s.heap.size ≤ q) (wF oF oS oA oB cA cB (min M 512) (nI M) (th, om, sd, po, lr, lv, d, P, V, h) ++ (wM oM oN oU cN cU (nI M) (co, z, th', en, md, po', pl, la, d', va, N, U) ++ [(oO, .inl (cO, 1, .inr (.inl g)))]))) (hS : va_S (fun q : Nat => s.heap.size ≤ q) s.heap H locs) : W p l e room_1 s m #[Value.ref b] below meth c H locs (8 + t) (3250 + 6 * t) Q (F0 m 249 ls []) := by
  obtain ⟨hx, hb, hr, hml, hown0, hts0, hX, hbl, hlocks, hgv⟩ := C0
  have hown : s.vm.findClass RL = some m.cls := hown0
  have hts : ∀ w ∈ wsL_law, w.before #[Value.ref b] s = true := fun w h => hts0 w (wsL_law_in w h)
  have hA : ∀ q : Nat, s.heap.size ≤ q → (fun q : Nat => s.heap.size ≤ q) q := fun _ h => h
  have hbA : ¬ (fun q : Nat => s.heap.size ≤ q) b := Nat.not_le.mpr hbl
  obtain ⟨ez, eth, emd, ela, ed, eva, hd, hlr, hRows, hPos⟩ := id R
  have hcap := hRows.cap
  have hh : h ≤ min M 512 := Nat.le_min.mpr ⟨hcap, by omega⟩
  have hn : min M 512 ≤ 512 := Nat.min_le_right _ _
  have hz : z ≤ 1100 := by omega
  have hz2 : z < 1100 := by omega
  have hh2 : h ≤ 1100 := by omega
  have hM2 : M < 2 ^ 31 := by omega
  have hd' : d' ≤ 9 := by omega
  have hP : va_P (dC, dI) vwCl [(oF, .inr (2, [.int (nI M), .ref oS, .int th, .int om, .int sd, .int po, .int lr, .long lv, .int (nI d)])), (oS, .inr (1, [.ref oA, .ref oB, .int (nI h)])), (oA, .inl (cA, (min M 512), .inl P)), (oB, .inl (cB, (min M 512), .inr (.inl V))), (oM, .inr (3, [.int co, .int (nI M), .ref oN, .ref oU, .int (nI z), .int th', .int en, .int md, .int po', .int pl, .int la, .int (nI d'), .long va])), (oN, .inl (cN, 1100, .inl N)), (oU, .inl (cU, 1100, .inr (.inl U))), (oO, .inl (cO, 1, .inr (.inl g)))] H := hP
  have hD : va_D (fun q : Nat => s.heap.size ≤ q) [(oF, .inr (2, [.int (nI M), .ref oS, .int th, .int om, .int sd, .int po, .int lr, .long lv, .int (nI d)])), (oS, .inr (1, [.ref oA, .ref oB, .int (nI h)])), (oA, .inl (cA, (min M 512), .inl P)), (oB, .inl (cB, (min M 512), .inr (.inl V))), (oM, .inr (3, [.int co, .int (nI M), .ref oN, .ref oU, .int (nI z), .int th', .int en, .int md, .int po', .int pl, .int la, .int (nI d'), .long va])), (oN, .inl (cN, 1100, .inl N)), (oU, .inl (cU, 1100, .inr (.inl U))), (oO, .inl (cO, 1, .inr (.inl g)))] := hD
  refine lv_aload_n hx hb dL_law_249 rfl (lv_at hl 3 rfl) ?_
  refine lv_aload_n hx hb dL_law_250 rfl (lv_at hl 4 rfl) ?_
  refine lv_iload hx hb dL_law_251 (lv_at hl 0 rfl) ?_
  refine lv_iconst (v := 1) hx hb dL_law_253 (by decide) ?_
  refine lv_iadd hx hb dL_law_254 ?_
  rw [show (nI (1 + 4 * t)) + 1 = nI (1 + 4 * t + 1) from nI_add (1 + 4 * t) 1]
  refine va_sld hx hb hX hbl hbA hS (vp_in_nI (by omega) (by omega)) dL_law_255 ?_
  refine W_topi (xs (1 + 4 * t + 1)) (by rw [nI_clamp (by omega)]) ?_
  refine lv_aload_n hx hb dL_law_256 rfl (lv_at hl 4 rfl) ?_
  refine lv_iload hx hb dL_law_257 (lv_at hl 0 rfl) ?_
  refine lv_iconst (v := 2) hx hb dL_law_259 (by decide) ?_
  refine lv_iadd hx hb dL_law_260 ?_
  rw [show (nI (1 + 4 * t)) + 2 = nI (1 + 4 * t + 2) from nI_add (1 + 4 * t) 2]
  refine va_sld hx hb hX hbl hbA hS (vp_in_nI (by omega) (by omega)) dL_law_261 ?_
  refine W_topi (xs (1 + 4 * t + 2)) (by rw [nI_clamp (by omega)]) ?_
  have hPc := hP.sub (ws' := [(oF, .inr (2, [.int (nI M), .ref oS, .int th, .int om, .int sd, .int po, .int lr, .long lv, .int (nI d)])), (oS, .inr (1, [.ref oA, .ref oB, .int (nI h)])), (oA, .inl (cA, (min M 512), .inl P)), (oB, .inl (cB, (min M 512), .inr (.inl V)))]) [0, 1, 2, 3] rfl
  have hDc := hD.sub (ws' := [(oF, .inr (2, [.int (nI M), .ref oS, .int th, .int om, .int sd, .int po, .int lr, .long lv, .int (nI d)])), (oS, .inr (1, [.ref oA, .ref oB, .int (nI h)])), (oA, .inl (cA, (min M 512), .inl P)), (oB, .inl (cB, (min M 512), .inr (.inl V)))]) [0, 1, 2, 3] (by decide) rfl
  have hKc := hK.sub (tys' := [(cA, .int), (cB, .long)]) [0, 1] rfl
  have hFc := va_free (wc := [(oF, .inr (2, [.int (nI M), .ref oS, .int th, .int om, .int sd, .int po, .int lr, .long lv, .int (nI d)])), (oS, .inr (1, [.ref oA, .ref oB, .int (nI h)])), (oA, .inl (cA, (min M 512), .inl P)), (oB, .inl (cB, (min M 512), .inr (.inl V)))]) hD hS hA [0, 1, 2, 3] rfl
  refine va_calli (va_runV (As := [.int (xs (1 + 4 * t + 1)), .int (xs (1 + 4 * t + 2))]) (rest := []) ⟨hx, hb, hml, hown, hts⟩ (kX1_start l dC dI oF oS oA oB cA cB (min M 512) h d (nI M) th om sd po lr lv P V (xs (1 + 4 * t + 1)) (xs (1 + 4 * t + 2)) H.size hh hn) (cwV 2 hts gL_law_X1_start rfl rfl rfl (by decide +kernel) ⟨Nat.le_of_ble_eq_true rfl, Nat.le_of_ble_eq_true rfl⟩) ⟨fun a U g mk q => by obtain ⟨q0, q1, qP, qK, qD⟩ := q; exact ⟨q0, q1, qP, va_K.moved (u := U) (U := U.calling g mk a) (Vm.Alike.refl U.vm) qK, qD⟩, va_recv hKc hPc (ci := 2) (q0 := 0) rfl rfl, fun U hU hW => ⟨rfl, by rw [hU], by rw [hU]; exact hPc, va_K.moved hW.alike hKc, hDc.weaken (fun _ _ _ _ => trivial)⟩⟩ rfl rfl hl.1 rfl (lv_room (Nat.le_of_ble_eq_true rfl)) dL_law_262 ⟨(show (8 + t) + 0 ≤ 601024 by omega), (show (3250 + 6 * t) + 0 ≤ 7293000 by omega)⟩) hS (fun q _ h => hFc q h) hFc (fun r_2 u9 t9 H1 locs ht9 hvm hw hB hz1 hk1 hS => ?_)
  obtain ⟨hP1, hK1, hD1⟩ := hB
  rw [ht9] at hP1
  have hK1 := va_K.moved hvm.symm hK1
  try dsimp only at hw
  obtain ⟨fa_1, fth_1, fom_1, fsd_1, fpo_1, flr_1, flv_1, fd_1, fP_1, fV_1, fh_1, ef_1⟩ : ∃ (a9 : Int32) (th9 om9 sd9 po9 lr9 : Int32) (lv9 : Int64) (d9 : Nat) (P9 : Nat → Int32) (V9 : Nat → Int64) (h9 : Nat), fStart (xs (1 + 4 * t + 1)) (xs (1 + 4 * t + 2)) (th, om, sd, po, lr, lv, d, P, V, h) = (a9, th9, om9, sd9, po9, lr9, lv9, d9, P9, V9, h9) := ⟨_, _, _, _, _, _, _, _, _, _, _, rfl⟩
  rw [ef_1] at hP1 hD1 hw
  have hP1 : va_P (dC, dI) vwCl [(oF, .inr (2, [.int (nI M), .ref oS, .int fth_1, .int fom_1, .int fsd_1, .int fpo_1, .int flr_1, .long flv_1, .int (nI fd_1)])), (oS, .inr (1, [.ref oA, .ref oB, .int (nI fh_1)])), (oA, .inl (cA, (min M 512), .inl fP_1)), (oB, .inl (cB, (min M 512), .inr (.inl fV_1)))] H1 := hP1
  have hD1 : va_D _ [(oF, .inr (2, [.int (nI M), .ref oS, .int fth_1, .int fom_1, .int fsd_1, .int fpo_1, .int flr_1, .long flv_1, .int (nI fd_1)])), (oS, .inr (1, [.ref oA, .ref oB, .int (nI fh_1)])), (oA, .inl (cA, (min M 512), .inl fP_1)), (oB, .inl (cB, (min M 512), .inr (.inl fV_1)))] := hD1
  obtain ⟨hP, hD⟩ := va_join (wr := [(oM, .inr (3, [.int co, .int (nI M), .ref oN, .ref oU, .int (nI z), .int th', .int en, .int md, .int po', .int pl, .int la, .int (nI d'), .long va])), (oN, .inl (cN, 1100, .inl N)), (oU, .inl (cU, 1100, .inr (.inl U))), (oO, .inl (cO, 1, .inr (.inl g)))]) (w1 := [(oF, .inr (2, [.int (nI M), .ref oS, .int fth_1, .int fom_1, .int fsd_1, .int fpo_1, .int flr_1, .long flv_1, .int (nI fd_1)])), (oS, .inr (1, [.ref oA, .ref oB, .int (nI fh_1)])), (oA, .inl (cA, (min M 512), .inl fP_1)), (oB, .inl (cB, (min M 512), .inr (.inl fV_1)))]) hP hD [0, 1, 2, 3] [4, 5, 6, 7] rfl rfl (by decide) (by decide) hk1 hFc hP1 hD1
  generalize H1 = H at hP hS ⊢
  have hP : va_P (dC, dI) vwCl [(oF, .inr (2, [.int (nI M), .ref oS, .int fth_1, .int fom_1, .int fsd_1, .int fpo_1, .int flr_1, .long flv_1, .int (nI fd_1)])), (oS, .inr (1, [.ref oA, .ref oB, .int (nI fh_1)])), (oA, .inl (cA, (min M 512), .inl fP_1)), (oB, .inl (cB, (min M 512), .inr (.inl fV_1))), (oM, .inr (3, [.int co, .int (nI M), .ref oN, .ref oU, .int (nI z), .int th', .int en, .int md, .int po', .int pl, .int la, .int (nI d'), .long va])), (oN, .inl (cN, 1100, .inl N)), (oU, .inl (cU, 1100, .inr (.inl U))), (oO, .inl (cO, 1, .inr (.inl g)))] H := hP.sub [4, 5, 6, 7, 0, 1, 2, 3] rfl
  have hD : va_D (fun q : Nat => s.heap.size ≤ q) [(oF, .inr (2, [.int (nI M), .ref oS, .int fth_1, .int fom_1, .int fsd_1, .int fpo_1, .int flr_1, .long flv_1, .int (nI fd_1)])), (oS, .inr (1, [.ref oA, .ref oB, .int (nI fh_1)])), (oA, .inl (cA, (min M 512), .inl fP_1)), (oB, .inl (cB, (min M 512), .inr (.inl fV_1))), (oM, .inr (3, [.int co, .int (nI M), .ref oN, .ref oU, .int (nI z), .int th', .int en, .int md, .int po', .int pl, .int la, .int (nI d'), .long va])), (oN, .inl (cN, 1100, .inl N)), (oU, .inl (cU, 1100, .inr (.inl U))), (oO, .inl (cO, 1, .inr (.inl g)))] := hD.sub [4, 5, 6, 7, 0, 1, 2, 3] (by decide) rfl
  have hK : va_K (dC, dI) vwCl [(cA, .int), (cB, .long), (cN, .int), (cU, .long), (cO, .long)] s := hK
  have hw : r_2 = fa_1 := hw
  rw [hw]
  refine lv_aload_n hx hb dL_law_265 rfl (lv_at hl 2 rfl) ?_
  refine lv_aload_n hx hb dL_law_266 rfl (lv_at hl 4 rfl) ?_
  refine lv_iload hx hb dL_law_267 (lv_at hl 0 rfl) ?_
  refine lv_iconst (v := 1) hx hb dL_law_269 (by decide) ?_
  refine lv_iadd hx hb dL_law_270 ?_
  rw [show (nI (1 + 4 * t)) + 1 = nI (1 + 4 * t + 1) from nI_add (1 + 4 * t) 1]
  refine va_sld hx hb hX hbl hbA hS (vp_in_nI (by omega) (by omega)) dL_law_271 ?_
  refine W_topi (xs (1 + 4 * t + 1)) (by rw [nI_clamp (by omega)]) ?_
  refine lv_aload_n hx hb dL_law_272 rfl (lv_at hl 4 rfl) ?_
  refine lv_iload hx hb dL_law_273 (lv_at hl 0 rfl) ?_
  refine lv_iconst (v := 2) hx hb dL_law_275 (by decide) ?_
  refine lv_iadd hx hb dL_law_276 ?_
  rw [show (nI (1 + 4 * t)) + 2 = nI (1 + 4 * t + 2) from nI_add (1 + 4 * t) 2]
  refine va_sld hx hb hX hbl hbA hS (vp_in_nI (by omega) (by omega)) dL_law_277 ?_
  refine W_topi (xs (1 + 4 * t + 2)) (by rw [nI_clamp (by omega)]) ?_
  have hPc := hP.sub (ws' := [(oM, .inr (3, [.int co, .int (nI M), .ref oN, .ref oU, .int (nI z), .int th', .int en, .int md, .int po', .int pl, .int la, .int (nI d'), .long va])), (oN, .inl (cN, 1100, .inl N)), (oU, .inl (cU, 1100, .inr (.inl U)))]) [4, 5, 6] rfl
  have hDc := hD.sub (ws' := [(oM, .inr (3, [.int co, .int (nI M), .ref oN, .ref oU, .int (nI z), .int th', .int en, .int md, .int po', .int pl, .int la, .int (nI d'), .long va])), (oN, .inl (cN, 1100, .inl N)), (oU, .inl (cU, 1100, .inr (.inl U)))]) [4, 5, 6] (by decide) rfl
  have hKc := hK.sub (tys' := [(cN, .int), (cU, .long)]) [2, 3] rfl
  have hFc := va_free (wc := [(oM, .inr (3, [.int co, .int (nI M), .ref oN, .ref oU, .int (nI z), .int th', .int en, .int md, .int po', .int pl, .int la, .int (nI d'), .long va])), (oN, .inl (cN, 1100, .inl N)), (oU, .inl (cU, 1100, .inr (.inl U)))]) hD hS hA [4, 5, 6] rfl
  refine va_calli (va_runV (As := [.int (xs (1 + 4 * t + 1)), .int (xs (1 + 4 * t + 2))]) (rest := [.int fa_1]) ⟨hx, hb, hml, hown, hts⟩ (kX2_start l dC dI oM oN oU cN cU z d' co (nI M) th' en md po' pl la va N U (xs (1 + 4 * t + 1)) (xs (1 + 4 * t + 2)) H.size hz) (cwV 2 hts gL_law_X2_start rfl rfl rfl (by decide +kernel) ⟨Nat.le_of_ble_eq_true rfl, Nat.le_of_ble_eq_true rfl⟩) ⟨fun a U g mk q => by obtain ⟨q0, q1, qP, qK, qD⟩ := q; exact ⟨q0, q1, qP, va_K.moved (u := U) (U := U.calling g mk a) (Vm.Alike.refl U.vm) qK, qD⟩, va_recv hKc hPc (ci := 3) (q0 := 0) rfl rfl, fun U hU hW => ⟨rfl, by rw [hU], by rw [hU]; exact hPc, va_K.moved hW.alike hKc, hDc.weaken (fun _ _ _ _ => trivial)⟩⟩ rfl rfl hl.1 rfl (lv_room (Nat.le_of_ble_eq_true rfl)) dL_law_278 ⟨(show (8 + t) + 0 ≤ 601024 by omega), (show (3250 + 6 * t) + 0 ≤ 7293000 by omega)⟩) hS (fun q _ h => hFc q h) hFc (fun r_4 u9 t9 H1 locs ht9 hvm hw hB hz1 hk1 hS => ?_)
  obtain ⟨hP1, hK1, hD1⟩ := hB
  rw [ht9] at hP1
  have hK1 := va_K.moved hvm.symm hK1
  try dsimp only at hw
  obtain ⟨ga_3, gco_3, gz_3, gth_3, gen_3, gmd_3, gpo_3, gpl_3, gla_3, gd_3, gva_3, gN_3, gU_3, eg_3⟩ : ∃ (a9 : Int32) (co9 : Int32) (z9 : Nat) (th9 en9 md9 po9 pl9 la9 : Int32) (d9 : Nat) (va9 : Int64) (N9 : Nat → Int32) (U9 : Nat → Int64), gStart (xs (1 + 4 * t + 1)) (xs (1 + 4 * t + 2)) (co, z, th', en, md, po', pl, la, d', va, N, U) = (a9, co9, z9, th9, en9, md9, po9, pl9, la9, d9, va9, N9, U9) := ⟨_, _, _, _, _, _, _, _, _, _, _, _, _, rfl⟩
  rw [eg_3] at hP1 hD1 hw
  have hP1 : va_P (dC, dI) vwCl [(oM, .inr (3, [.int gco_3, .int (nI M), .ref oN, .ref oU, .int (nI gz_3), .int gth_3, .int gen_3, .int gmd_3, .int gpo_3, .int gpl_3, .int gla_3, .int (nI gd_3), .long gva_3])), (oN, .inl (cN, 1100, .inl gN_3)), (oU, .inl (cU, 1100, .inr (.inl gU_3)))] H1 := hP1
  have hD1 : va_D _ [(oM, .inr (3, [.int gco_3, .int (nI M), .ref oN, .ref oU, .int (nI gz_3), .int gth_3, .int gen_3, .int gmd_3, .int gpo_3, .int gpl_3, .int gla_3, .int (nI gd_3), .long gva_3])), (oN, .inl (cN, 1100, .inl gN_3)), (oU, .inl (cU, 1100, .inr (.inl gU_3)))] := hD1
  obtain ⟨hP, hD⟩ := va_join (wr := [(oF, .inr (2, [.int (nI M), .ref oS, .int fth_1, .int fom_1, .int fsd_1, .int fpo_1, .int flr_1, .long flv_1, .int (nI fd_1)])), (oS, .inr (1, [.ref oA, .ref oB, .int (nI fh_1)])), (oA, .inl (cA, (min M 512), .inl fP_1)), (oB, .inl (cB, (min M 512), .inr (.inl fV_1))), (oO, .inl (cO, 1, .inr (.inl g)))]) (w1 := [(oM, .inr (3, [.int gco_3, .int (nI M), .ref oN, .ref oU, .int (nI gz_3), .int gth_3, .int gen_3, .int gmd_3, .int gpo_3, .int gpl_3, .int gla_3, .int (nI gd_3), .long gva_3])), (oN, .inl (cN, 1100, .inl gN_3)), (oU, .inl (cU, 1100, .inr (.inl gU_3)))]) hP hD [4, 5, 6] [0, 1, 2, 3, 7] rfl rfl (by decide) (by decide) hk1 hFc hP1 hD1
  generalize H1 = H at hP hS ⊢
  have hP : va_P (dC, dI) vwCl [(oF, .inr (2, [.int (nI M), .ref oS, .int fth_1, .int fom_1, .int fsd_1, .int fpo_1, .int flr_1, .long flv_1, .int (nI fd_1)])), (oS, .inr (1, [.ref oA, .ref oB, .int (nI fh_1)])), (oA, .inl (cA, (min M 512), .inl fP_1)), (oB, .inl (cB, (min M 512), .inr (.inl fV_1))), (oM, .inr (3, [.int gco_3, .int (nI M), .ref oN, .ref oU, .int (nI gz_3), .int gth_3, .int gen_3, .int gmd_3, .int gpo_3, .int gpl_3, .int gla_3, .int (nI gd_3), .long gva_3])), (oN, .inl (cN, 1100, .inl gN_3)), (oU, .inl (cU, 1100, .inr (.inl gU_3))), (oO, .inl (cO, 1, .inr (.inl g)))] H := hP.sub [0, 1, 2, 3, 5, 6, 7, 4] rfl
  have hD : va_D (fun q : Nat => s.heap.size ≤ q) [(oF, .inr (2, [.int (nI M), .ref oS, .int fth_1, .int fom_1, .int fsd_1, .int fpo_1, .int flr_1, .long flv_1, .int (nI fd_1)])), (oS, .inr (1, [.ref oA, .ref oB, .int (nI fh_1)])), (oA, .inl (cA, (min M 512), .inl fP_1)), (oB, .inl (cB, (min M 512), .inr (.inl fV_1))), (oM, .inr (3, [.int gco_3, .int (nI M), .ref oN, .ref oU, .int (nI gz_3), .int gth_3, .int gen_3, .int gmd_3, .int gpo_3, .int gpl_3, .int gla_3, .int (nI gd_3), .long gva_3])), (oN, .inl (cN, 1100, .inl gN_3)), (oU, .inl (cU, 1100, .inr (.inl gU_3))), (oO, .inl (cO, 1, .inr (.inl g)))] := hD.sub [0, 1, 2, 3, 5, 6, 7, 4] (by decide) rfl
  have hK : va_K (dC, dI) vwCl [(cA, .int), (cB, .long), (cN, .int), (cU, .long), (cO, .long)] s := hK
  have hw : r_4 = ga_3 := hw
  rw [hw]
  obtain ⟨S1, S2, S3⟩ := s_start hh2 R (xs (1 + 4 * t + 1)) (xs (1 + 4 * t + 2))
  rw [ef_1, eg_3] at S1 S2
  rw [ef_1] at S3
  have S1 : fa_1 = ga_3 := S1
  have S2 : Rel M (fth_1, fom_1, fsd_1, fpo_1, flr_1, flv_1, fd_1, fP_1, fV_1, fh_1) (gco_3, gz_3, gth_3, gen_3, gmd_3, gpo_3, gpl_3, gla_3, gd_3, gva_3, gN_3, gU_3) := S2
  have S3 : fh_1 ≤ h + 1 := S3
  refine lv_icmp_eq (tgt := 552) hx hb dL_law_281 (by decide) (fun c_5 => ?_) (fun c_5 => ?_)
  · -- taken at 281: fa_1 = ga_3
    refine W.widen (k := 8 + (t + 1)) (n := 3250 + 6 * (t + 1)) (by omega) (by omega) ?_
    exact cont (fth_1, fom_1, fsd_1, fpo_1, flr_1, flv_1, fd_1, fP_1, fV_1, fh_1) (gco_3, gz_3, gth_3, gen_3, gmd_3, gpo_3, gpl_3, gla_3, gd_3, gva_3, gN_3, gU_3) g ls _ _ (show fh_1 ≤ t + 1 by omega) S2 (lv_sub hl [0, 1, 2, 3, 4] rfl) hP hD hS
  · -- not taken at 281: ¬ fa_1 = ga_3
    exact absurd S1 c_5
