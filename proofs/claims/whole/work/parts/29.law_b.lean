set_option maxHeartbeats 1000000 in
set_option maxRecDepth 100000 in
theorem law_5 {p : Program} {l : Launch} {e : Env} {s : State} {m : MethodId} {below : List Frame} {meth : Method} {c : Code} {dC : Nat → ClassId} {dI : Nat → Nat → Nat} {b L : Nat} {xs : Nat → Int32} {Q : State → Prop} (hL : L ≤ 2049) (C0 : lw_At p s m meth c b L xs) {oF oS oA oB oM oN oU oO : Nat} {cA cB cN cU cO : ClassId} {M t : Nat} (hM : M ≤ 65536) (ht : 1 + 4 * t + 3 < L) {th om sd po lr : Int32} {lv : Int64} {d : Nat} {P : Nat → Int32} {V : Nat → Int64} {h : Nat} {co th' en md po' pl la : Int32} {z d' : Nat} {va : Int64} {N : Nat → Int32} {U : Nat → Int64} {g : Nat → Int64} (R : Rel M (th, om, sd, po, lr, lv, d, P, V, h) (co, z, th', en, md, po', pl, la, d', va, N, U)) (hht : h ≤ t) (hK : va_K (dC, dI) vwCl [(cA, .int), (cB, .long), (cN, .int), (cU, .long), (cO, .long)] s) (cont : ∀ (u : CSt) (w : MSt) (g : Nat → Int64) (ls : Array Slot) (H : Heap) (locs : List Loc), hOf u ≤ t + 1 → Rel M u w → lv_has ls 8 [(4, .int (nI (1 + 4 * t))), (3, .ref oO), (2, .ref oM), (1, .ref oF), (0, .ref b)] → va_P (dC, dI) vwCl (wF oF oS oA oB cA cB (min M 512) (nI M) u ++ (wM oM oN oU cN cU (nI M) w ++ [(oO, .inl (cO, 1, .inr (.inl g)))])) H → va_D (fun q : Nat => s.heap.size ≤ q) (wF oF oS oA oB cA cB (min M 512) (nI M) u ++ (wM oM oN oU cN cU (nI M) w ++ [(oO, .inl (cO, 1, .inr (.inl g)))])) → va_S (fun q : Nat => s.heap.size ≤ q) s.heap H locs → W p l e room_1 s m #[Value.ref b] below meth c H locs (8 + (t + 1)) (3250 + 6 * (t + 1)) Q (F0 m 552 ls [])) {ls : Array Slot} {H : Heap} {locs : List Loc} (hl : lv_has ls 8 [(4, .int (nI (1 + 4 * t))), (3, .ref oO), (2, .ref oM), (1, .ref oF), (0, .ref b)]) (hP : va_P (dC, dI) vwCl (wF oF oS oA oB cA cB (min M 512) (nI M) (th, om, sd, po, lr, lv, d, P, V, h) ++ (wM oM oN oU cN cU (nI M) (co, z, th', en, md, po', pl, la, d', va, N, U) ++ [(oO, .inl (cO, 1, .inr (.inl g)))])) H) (hD : va_D (fun q : Nat => s.heap.size ≤ q) (wF oF oS oA oB cA cB (min M 512) (nI M) (th, om, sd, po, lr, lv, d, P, V, h) ++ (wM oM oN oU cN cU (nI M) (co, z, th', en, md, po', pl, la, d', va, N, U) ++ [(oO, .inl (cO, 1, .inr (.inl g)))]))) (hS : va_S (fun q : Nat => s.heap.size ≤ q) s.heap H locs) : W p l e room_1 s m #[Value.ref b] below meth c H locs (8 + t) (3250 + 6 * t) Q (F0 m 286 ls []) := by
  obtain ⟨hx, hb, hr, hml, hown0, hts0, hX, hbl, hlocks, hgv⟩ := C0
  have hown : s.vm.findClass RL = some m.cls := hown0
  have hts : ∀ w ∈ wsL_law, w.before #[Value.ref b] s = true := fun w h => hts0 w (wsL_law_in w h)
  have hA : ∀ q : Nat, s.heap.size ≤ q → (fun q : Nat => s.heap.size ≤ q) q := fun _ h => h
  have hbA : ¬ (fun q : Nat => s.heap.size ≤ q) b := Nat.not_le.mpr hbl
  obtain ⟨ez, eth, emd, ela, ed, eva, hd, hlr, hRows, hPos⟩ := id R
  have hcap := hRows.cap
  have hh : h ≤ min M 512 := Nat.le_min.mpr ⟨hcap, by omega⟩
  have hn : min M 512 ≤ 512 := Nat.min_le_right _ _
  have hz : z ≤ 1100 := by omega
  have hz2 : z < 1100 := by omega
  have hh2 : h ≤ 1100 := by omega
  have hM2 : M < 2 ^ 31 := by omega
  have hd' : d' ≤ 9 := by omega
  have hP : va_P (dC, dI) vwCl [(oF, .inr (2, [.int (nI M), .ref oS, .int th, .int om, .int sd, .int po, .int lr, .long lv, .int (nI d)])), (oS, .inr (1, [.ref oA, .ref oB, .int (nI h)])), (oA, .inl (cA, (min M 512), .inl P)), (oB, .inl (cB, (min M 512), .inr (.inl V))), (oM, .inr (3, [.int co, .int (nI M), .ref oN, .ref oU, .int (nI z), .int th', .int en, .int md, .int po', .int pl, .int la, .int (nI d'), .long va])), (oN, .inl (cN, 1100, .inl N)), (oU, .inl (cU, 1100, .inr (.inl U))), (oO, .inl (cO, 1, .inr (.inl g)))] H := hP
  have hD : va_D (fun q : Nat => s.heap.size ≤ q) [(oF, .inr (2, [.int (nI M), .ref oS, .int th, .int om, .int sd, .int po, .int lr, .long lv, .int (nI d)])), (oS, .inr (1, [.ref oA, .ref oB, .int (nI h)])), (oA, .inl (cA, (min M 512), .inl P)), (oB, .inl (cB, (min M 512), .inr (.inl V))), (oM, .inr (3, [.int co, .int (nI M), .ref oN, .ref oU, .int (nI z), .int th', .int en, .int md, .int po', .int pl, .int la, .int (nI d'), .long va])), (oN, .inl (cN, 1100, .inl N)), (oU, .inl (cU, 1100, .inr (.inl U))), (oO, .inl (cO, 1, .inr (.inl g)))] := hD
  refine lv_aload_n hx hb dL_law_286 rfl (lv_at hl 3 rfl) ?_
  refine lv_aload_n hx hb dL_law_287 rfl (lv_at hl 4 rfl) ?_
  refine lv_iload hx hb dL_law_288 (lv_at hl 0 rfl) ?_
  refine lv_iconst (v := 1) hx hb dL_law_290 (by decide) ?_
  refine lv_iadd hx hb dL_law_291 ?_
  rw [show (nI (1 + 4 * t)) + 1 = nI (1 + 4 * t + 1) from nI_add (1 + 4 * t) 1]
  refine va_sld hx hb hX hbl hbA hS (vp_in_nI (by omega) (by omega)) dL_law_292 ?_
  refine W_topi (xs (1 + 4 * t + 1)) (by rw [nI_clamp (by omega)]) ?_
  refine lv_if_eq (tgt := 300) hx hb dL_law_293 (by decide) (fun c_1 => ?_) (fun c_1 => ?_)
  · -- taken at 293: (xs (1 + 4 * t + 1)) = 0
    refine lv_iconst (v := 0) hx hb dL_law_300 (by decide) ?_
    have hPc := hP.sub (ws' := [(oF, .inr (2, [.int (nI M), .ref oS, .int th, .int om, .int sd, .int po, .int lr, .long lv, .int (nI d)])), (oS, .inr (1, [.ref oA, .ref oB, .int (nI h)])), (oA, .inl (cA, (min M 512), .inl P)), (oB, .inl (cB, (min M 512), .inr (.inl V)))]) [0, 1, 2, 3] rfl
    have hDc := hD.sub (ws' := [(oF, .inr (2, [.int (nI M), .ref oS, .int th, .int om, .int sd, .int po, .int lr, .long lv, .int (nI d)])), (oS, .inr (1, [.ref oA, .ref oB, .int (nI h)])), (oA, .inl (cA, (min M 512), .inl P)), (oB, .inl (cB, (min M 512), .inr (.inl V)))]) [0, 1, 2, 3] (by decide) rfl
    have hKc := hK.sub (tys' := [(cA, .int), (cB, .long)]) [0, 1] rfl
    have hFc := va_free (wc := [(oF, .inr (2, [.int (nI M), .ref oS, .int th, .int om, .int sd, .int po, .int lr, .long lv, .int (nI d)])), (oS, .inr (1, [.ref oA, .ref oB, .int (nI h)])), (oA, .inl (cA, (min M 512), .inl P)), (oB, .inl (cB, (min M 512), .inr (.inl V)))]) hD hS hA [0, 1, 2, 3] rfl
    refine va_calli (va_runV (As := [.int 0]) (rest := []) ⟨hx, hb, hml, hown, hts⟩ (kX1_next l dC dI oF oS oA oB cA cB (min M 512) h d (nI M) th om sd po lr lv P V 0 H.size hh hn hd) (cwV 1 hts gL_law_X1_next rfl rfl rfl (by decide +kernel) ⟨Nat.le_of_ble_eq_true rfl, Nat.le_of_ble_eq_true rfl⟩) ⟨fun a U g mk q => by obtain ⟨q0, q1, qP, qK, qD⟩ := q; exact ⟨q0, q1, qP, va_K.moved (u := U) (U := U.calling g mk a) (Vm.Alike.refl U.vm) qK, qD⟩, va_recv hKc hPc (ci := 2) (q0 := 0) rfl rfl, fun U hU hW => ⟨rfl, by rw [hU], by rw [hU]; exact hPc, va_K.moved hW.alike hKc, hDc.weaken (fun _ _ _ _ => trivial)⟩⟩ rfl rfl hl.1 rfl (lv_room (Nat.le_of_ble_eq_true rfl)) dL_law_301 ⟨(show (8 + t) + 0 ≤ 601024 by omega), (show (3250 + 6 * t) + 0 ≤ 7293000 by omega)⟩) hS (fun q _ h => hFc q h) hFc (fun r_3 u9 t9 H1 locs ht9 hvm hw hB hz1 hk1 hS => ?_)
    obtain ⟨hP1, hK1, hD1⟩ := hB
    rw [ht9] at hP1
    have hK1 := va_K.moved hvm.symm hK1
    try dsimp only at hw
    obtain ⟨fa_2, fth_2, fom_2, fsd_2, fpo_2, flr_2, flv_2, fd_2, fP_2, fV_2, fh_2, ef_2⟩ : ∃ (a9 : Int32) (th9 om9 sd9 po9 lr9 : Int32) (lv9 : Int64) (d9 : Nat) (P9 : Nat → Int32) (V9 : Nat → Int64) (h9 : Nat), fNext 0 (th, om, sd, po, lr, lv, d, P, V, h) = (a9, th9, om9, sd9, po9, lr9, lv9, d9, P9, V9, h9) := ⟨_, _, _, _, _, _, _, _, _, _, _, rfl⟩
    rw [ef_2] at hP1 hD1 hw
    have hP1 : va_P (dC, dI) vwCl [(oF, .inr (2, [.int (nI M), .ref oS, .int fth_2, .int fom_2, .int fsd_2, .int fpo_2, .int flr_2, .long flv_2, .int (nI fd_2)])), (oS, .inr (1, [.ref oA, .ref oB, .int (nI fh_2)])), (oA, .inl (cA, (min M 512), .inl fP_2)), (oB, .inl (cB, (min M 512), .inr (.inl fV_2)))] H1 := hP1
    have hD1 : va_D _ [(oF, .inr (2, [.int (nI M), .ref oS, .int fth_2, .int fom_2, .int fsd_2, .int fpo_2, .int flr_2, .long flv_2, .int (nI fd_2)])), (oS, .inr (1, [.ref oA, .ref oB, .int (nI fh_2)])), (oA, .inl (cA, (min M 512), .inl fP_2)), (oB, .inl (cB, (min M 512), .inr (.inl fV_2)))] := hD1
    obtain ⟨hP, hD⟩ := va_join (wr := [(oM, .inr (3, [.int co, .int (nI M), .ref oN, .ref oU, .int (nI z), .int th', .int en, .int md, .int po', .int pl, .int la, .int (nI d'), .long va])), (oN, .inl (cN, 1100, .inl N)), (oU, .inl (cU, 1100, .inr (.inl U))), (oO, .inl (cO, 1, .inr (.inl g)))]) (w1 := [(oF, .inr (2, [.int (nI M), .ref oS, .int fth_2, .int fom_2, .int fsd_2, .int fpo_2, .int flr_2, .long flv_2, .int (nI fd_2)])), (oS, .inr (1, [.ref oA, .ref oB, .int (nI fh_2)])), (oA, .inl (cA, (min M 512), .inl fP_2)), (oB, .inl (cB, (min M 512), .inr (.inl fV_2)))]) hP hD [0, 1, 2, 3] [4, 5, 6, 7] rfl rfl (by decide) (by decide) hk1 hFc hP1 hD1
    generalize H1 = H at hP hS ⊢
    have hP : va_P (dC, dI) vwCl [(oF, .inr (2, [.int (nI M), .ref oS, .int fth_2, .int fom_2, .int fsd_2, .int fpo_2, .int flr_2, .long flv_2, .int (nI fd_2)])), (oS, .inr (1, [.ref oA, .ref oB, .int (nI fh_2)])), (oA, .inl (cA, (min M 512), .inl fP_2)), (oB, .inl (cB, (min M 512), .inr (.inl fV_2))), (oM, .inr (3, [.int co, .int (nI M), .ref oN, .ref oU, .int (nI z), .int th', .int en, .int md, .int po', .int pl, .int la, .int (nI d'), .long va])), (oN, .inl (cN, 1100, .inl N)), (oU, .inl (cU, 1100, .inr (.inl U))), (oO, .inl (cO, 1, .inr (.inl g)))] H := hP.sub [4, 5, 6, 7, 0, 1, 2, 3] rfl
    have hD : va_D (fun q : Nat => s.heap.size ≤ q) [(oF, .inr (2, [.int (nI M), .ref oS, .int fth_2, .int fom_2, .int fsd_2, .int fpo_2, .int flr_2, .long flv_2, .int (nI fd_2)])), (oS, .inr (1, [.ref oA, .ref oB, .int (nI fh_2)])), (oA, .inl (cA, (min M 512), .inl fP_2)), (oB, .inl (cB, (min M 512), .inr (.inl fV_2))), (oM, .inr (3, [.int co, .int (nI M), .ref oN, .ref oU, .int (nI z), .int th', .int en, .int md, .int po', .int pl, .int la, .int (nI d'), .long va])), (oN, .inl (cN, 1100, .inl N)), (oU, .inl (cU, 1100, .inr (.inl U))), (oO, .inl (cO, 1, .inr (.inl g)))] := hD.sub [4, 5, 6, 7, 0, 1, 2, 3] (by decide) rfl
    have hK : va_K (dC, dI) vwCl [(cA, .int), (cB, .long), (cN, .int), (cU, .long), (cO, .long)] s := hK
    have hw : r_3 = fa_2 := hw
    rw [hw]
    refine lv_aload_n hx hb dL_law_304 rfl (lv_at hl 2 rfl) ?_
    refine lv_aload_n hx hb dL_law_305 rfl (lv_at hl 4 rfl) ?_
    refine lv_iload hx hb dL_law_306 (lv_at hl 0 rfl) ?_
    refine lv_iconst (v := 1) hx hb dL_law_308 (by decide) ?_
    refine lv_iadd hx hb dL_law_309 ?_
    rw [show (nI (1 + 4 * t)) + 1 = nI (1 + 4 * t + 1) from nI_add (1 + 4 * t) 1]
    refine va_sld hx hb hX hbl hbA hS (vp_in_nI (by omega) (by omega)) dL_law_310 ?_
    refine W_topi (xs (1 + 4 * t + 1)) (by rw [nI_clamp (by omega)]) ?_
    refine lv_if_eq (tgt := 318) hx hb dL_law_311 (by decide) (fun c_4 => ?_) (fun c_4 => ?_)
    · -- taken at 311: (xs (1 + 4 * t + 1)) = 0
      refine lv_iconst (v := 0) hx hb dL_law_318 (by decide) ?_
      have hPc := hP.sub (ws' := [(oM, .inr (3, [.int co, .int (nI M), .ref oN, .ref oU, .int (nI z), .int th', .int en, .int md, .int po', .int pl, .int la, .int (nI d'), .long va])), (oN, .inl (cN, 1100, .inl N)), (oU, .inl (cU, 1100, .inr (.inl U)))]) [4, 5, 6] rfl
      have hDc := hD.sub (ws' := [(oM, .inr (3, [.int co, .int (nI M), .ref oN, .ref oU, .int (nI z), .int th', .int en, .int md, .int po', .int pl, .int la, .int (nI d'), .long va])), (oN, .inl (cN, 1100, .inl N)), (oU, .inl (cU, 1100, .inr (.inl U)))]) [4, 5, 6] (by decide) rfl
      have hKc := hK.sub (tys' := [(cN, .int), (cU, .long)]) [2, 3] rfl
      have hFc := va_free (wc := [(oM, .inr (3, [.int co, .int (nI M), .ref oN, .ref oU, .int (nI z), .int th', .int en, .int md, .int po', .int pl, .int la, .int (nI d'), .long va])), (oN, .inl (cN, 1100, .inl N)), (oU, .inl (cU, 1100, .inr (.inl U)))]) hD hS hA [4, 5, 6] rfl
      refine va_calli (va_runV (As := [.int 0]) (rest := [.int fa_2]) ⟨hx, hb, hml, hown, hts⟩ (kX2_next l dC dI oM oN oU cN cU z d' co (nI M) th' en md po' pl la va N U 0 H.size hz hd' (fun q => by rw [ez] at q ⊢; exact fun e => (hRows.find hh2 _).mp e (gNx_in hh2 hRows q))) (cwV 1 hts gL_law_X2_next rfl rfl rfl (by decide +kernel) ⟨Nat.le_of_ble_eq_true rfl, Nat.le_of_ble_eq_true rfl⟩) ⟨fun a U g mk q => by obtain ⟨q0, q1, qP, qK, qD⟩ := q; exact ⟨q0, q1, qP, va_K.moved (u := U) (U := U.calling g mk a) (Vm.Alike.refl U.vm) qK, qD⟩, va_recv hKc hPc (ci := 3) (q0 := 0) rfl rfl, fun U hU hW => ⟨rfl, by rw [hU], by rw [hU]; exact hPc, va_K.moved hW.alike hKc, hDc.weaken (fun _ _ _ _ => trivial)⟩⟩ rfl rfl hl.1 rfl (lv_room (Nat.le_of_ble_eq_true rfl)) dL_law_319 ⟨(show (8 + t) + 0 ≤ 601024 by omega), (show (3250 + 6 * t) + 0 ≤ 7293000 by omega)⟩) hS (fun q _ h => hFc q h) hFc (fun r_6 u9 t9 H1 locs ht9 hvm hw hB hz1 hk1 hS => ?_)
      obtain ⟨hP1, hK1, hD1⟩ := hB
      rw [ht9] at hP1
      have hK1 := va_K.moved hvm.symm hK1
      try dsimp only at hw
      obtain ⟨ga_5, gco_5, gz_5, gth_5, gen_5, gmd_5, gpo_5, gpl_5, gla_5, gd_5, gva_5, gN_5, gU_5, eg_5⟩ : ∃ (a9 : Int32) (co9 : Int32) (z9 : Nat) (th9 en9 md9 po9 pl9 la9 : Int32) (d9 : Nat) (va9 : Int64) (N9 : Nat → Int32) (U9 : Nat → Int64), gNext 0 (co, z, th', en, md, po', pl, la, d', va, N, U) = (a9, co9, z9, th9, en9, md9, po9, pl9, la9, d9, va9, N9, U9) := ⟨_, _, _, _, _, _, _, _, _, _, _, _, _, rfl⟩
      rw [eg_5] at hP1 hD1 hw
      have hP1 : va_P (dC, dI) vwCl [(oM, .inr (3, [.int gco_5, .int (nI M), .ref oN, .ref oU, .int (nI gz_5), .int gth_5, .int gen_5, .int gmd_5, .int gpo_5, .int gpl_5, .int gla_5, .int (nI gd_5), .long gva_5])), (oN, .inl (cN, 1100, .inl gN_5)), (oU, .inl (cU, 1100, .inr (.inl gU_5)))] H1 := hP1
      have hD1 : va_D _ [(oM, .inr (3, [.int gco_5, .int (nI M), .ref oN, .ref oU, .int (nI gz_5), .int gth_5, .int gen_5, .int gmd_5, .int gpo_5, .int gpl_5, .int gla_5, .int (nI gd_5), .long gva_5])), (oN, .inl (cN, 1100, .inl gN_5)), (oU, .inl (cU, 1100, .inr (.inl gU_5)))] := hD1
      obtain ⟨hP, hD⟩ := va_join (wr := [(oF, .inr (2, [.int (nI M), .ref oS, .int fth_2, .int fom_2, .int fsd_2, .int fpo_2, .int flr_2, .long flv_2, .int (nI fd_2)])), (oS, .inr (1, [.ref oA, .ref oB, .int (nI fh_2)])), (oA, .inl (cA, (min M 512), .inl fP_2)), (oB, .inl (cB, (min M 512), .inr (.inl fV_2))), (oO, .inl (cO, 1, .inr (.inl g)))]) (w1 := [(oM, .inr (3, [.int gco_5, .int (nI M), .ref oN, .ref oU, .int (nI gz_5), .int gth_5, .int gen_5, .int gmd_5, .int gpo_5, .int gpl_5, .int gla_5, .int (nI gd_5), .long gva_5])), (oN, .inl (cN, 1100, .inl gN_5)), (oU, .inl (cU, 1100, .inr (.inl gU_5)))]) hP hD [4, 5, 6] [0, 1, 2, 3, 7] rfl rfl (by decide) (by decide) hk1 hFc hP1 hD1
      generalize H1 = H at hP hS ⊢
      have hP : va_P (dC, dI) vwCl [(oF, .inr (2, [.int (nI M), .ref oS, .int fth_2, .int fom_2, .int fsd_2, .int fpo_2, .int flr_2, .long flv_2, .int (nI fd_2)])), (oS, .inr (1, [.ref oA, .ref oB, .int (nI fh_2)])), (oA, .inl (cA, (min M 512), .inl fP_2)), (oB, .inl (cB, (min M 512), .inr (.inl fV_2))), (oM, .inr (3, [.int gco_5, .int (nI M), .ref oN, .ref oU, .int (nI gz_5), .int gth_5, .int gen_5, .int gmd_5, .int gpo_5, .int gpl_5, .int gla_5, .int (nI gd_5), .long gva_5])), (oN, .inl (cN, 1100, .inl gN_5)), (oU, .inl (cU, 1100, .inr (.inl gU_5))), (oO, .inl (cO, 1, .inr (.inl g)))] H := hP.sub [0, 1, 2, 3, 5, 6, 7, 4] rfl
      have hD : va_D (fun q : Nat => s.heap.size ≤ q) [(oF, .inr (2, [.int (nI M), .ref oS, .int fth_2, .int fom_2, .int fsd_2, .int fpo_2, .int flr_2, .long flv_2, .int (nI fd_2)])), (oS, .inr (1, [.ref oA, .ref oB, .int (nI fh_2)])), (oA, .inl (cA, (min M 512), .inl fP_2)), (oB, .inl (cB, (min M 512), .inr (.inl fV_2))), (oM, .inr (3, [.int gco_5, .int (nI M), .ref oN, .ref oU, .int (nI gz_5), .int gth_5, .int gen_5, .int gmd_5, .int gpo_5, .int gpl_5, .int gla_5, .int (nI gd_5), .long gva_5])), (oN, .inl (cN, 1100, .inl gN_5)), (oU, .inl (cU, 1100, .inr (.inl gU_5))), (oO, .inl (cO, 1, .inr (.inl g)))] := hD.sub [0, 1, 2, 3, 5, 6, 7, 4] (by decide) rfl
      have hK : va_K (dC, dI) vwCl [(cA, .int), (cB, .long), (cN, .int), (cU, .long), (cO, .long)] s := hK
      have hw : r_6 = ga_5 := hw
      rw [hw]
      obtain ⟨S1, S2, S3⟩ := s_next hh2 R 0
      rw [ef_2, eg_5] at S1 S2
      rw [ef_2] at S3
      have S1 : fa_2 = ga_5 := S1
      have S2 : Rel M (fth_2, fom_2, fsd_2, fpo_2, flr_2, flv_2, fd_2, fP_2, fV_2, fh_2) (gco_5, gz_5, gth_5, gen_5, gmd_5, gpo_5, gpl_5, gla_5, gd_5, gva_5, gN_5, gU_5) := S2
      have S3 : fh_2 ≤ h + 1 := S3
      refine lv_icmp_eq (tgt := 552) hx hb dL_law_322 (by decide) (fun c_7 => ?_) (fun c_7 => ?_)
      · -- taken at 322: fa_2 = ga_5
        refine W.widen (k := 8 + (t + 1)) (n := 3250 + 6 * (t + 1)) (by omega) (by omega) ?_
        exact cont (fth_2, fom_2, fsd_2, fpo_2, flr_2, flv_2, fd_2, fP_2, fV_2, fh_2) (gco_5, gz_5, gth_5, gen_5, gmd_5, gpo_5, gpl_5, gla_5, gd_5, gva_5, gN_5, gU_5) g ls _ _ (show fh_2 ≤ t + 1 by omega) S2 (lv_sub hl [0, 1, 2, 3, 4] rfl) hP hD hS
      · -- not taken at 322: ¬ fa_2 = ga_5
        exact absurd S1 c_7
    · -- not taken at 311: ¬ (xs (1 + 4 * t + 1)) = 0
      exact absurd c_1 c_4
  · -- not taken at 293: ¬ (xs (1 + 4 * t + 1)) = 0
    refine lv_iconst (v := 1) hx hb dL_law_296 (by decide) ?_
    refine lv_goto (tgt := 301) hx hb dL_law_297 (by decide) ?_
    have hPc := hP.sub (ws' := [(oF, .inr (2, [.int (nI M), .ref oS, .int th, .int om, .int sd, .int po, .int lr, .long lv, .int (nI d)])), (oS, .inr (1, [.ref oA, .ref oB, .int (nI h)])), (oA, .inl (cA, (min M 512), .inl P)), (oB, .inl (cB, (min M 512), .inr (.inl V)))]) [0, 1, 2, 3] rfl
    have hDc := hD.sub (ws' := [(oF, .inr (2, [.int (nI M), .ref oS, .int th, .int om, .int sd, .int po, .int lr, .long lv, .int (nI d)])), (oS, .inr (1, [.ref oA, .ref oB, .int (nI h)])), (oA, .inl (cA, (min M 512), .inl P)), (oB, .inl (cB, (min M 512), .inr (.inl V)))]) [0, 1, 2, 3] (by decide) rfl
    have hKc := hK.sub (tys' := [(cA, .int), (cB, .long)]) [0, 1] rfl
    have hFc := va_free (wc := [(oF, .inr (2, [.int (nI M), .ref oS, .int th, .int om, .int sd, .int po, .int lr, .long lv, .int (nI d)])), (oS, .inr (1, [.ref oA, .ref oB, .int (nI h)])), (oA, .inl (cA, (min M 512), .inl P)), (oB, .inl (cB, (min M 512), .inr (.inl V)))]) hD hS hA [0, 1, 2, 3] rfl
    refine va_calli (va_runV (As := [.int 1]) (rest := []) ⟨hx, hb, hml, hown, hts⟩ (kX1_next l dC dI oF oS oA oB cA cB (min M 512) h d (nI M) th om sd po lr lv P V 1 H.size hh hn hd) (cwV 1 hts gL_law_X1_next rfl rfl rfl (by decide +kernel) ⟨Nat.le_of_ble_eq_true rfl, Nat.le_of_ble_eq_true rfl⟩) ⟨fun a U g mk q => by obtain ⟨q0, q1, qP, qK, qD⟩ := q; exact ⟨q0, q1, qP, va_K.moved (u := U) (U := U.calling g mk a) (Vm.Alike.refl U.vm) qK, qD⟩, va_recv hKc hPc (ci := 2) (q0 := 0) rfl rfl, fun U hU hW => ⟨rfl, by rw [hU], by rw [hU]; exact hPc, va_K.moved hW.alike hKc, hDc.weaken (fun _ _ _ _ => trivial)⟩⟩ rfl rfl hl.1 rfl (lv_room (Nat.le_of_ble_eq_true rfl)) dL_law_301 ⟨(show (8 + t) + 0 ≤ 601024 by omega), (show (3250 + 6 * t) + 0 ≤ 7293000 by omega)⟩) hS (fun q _ h => hFc q h) hFc (fun r_9 u9 t9 H1 locs ht9 hvm hw hB hz1 hk1 hS => ?_)
    obtain ⟨hP1, hK1, hD1⟩ := hB
    rw [ht9] at hP1
    have hK1 := va_K.moved hvm.symm hK1
    try dsimp only at hw
    obtain ⟨fa_8, fth_8, fom_8, fsd_8, fpo_8, flr_8, flv_8, fd_8, fP_8, fV_8, fh_8, ef_8⟩ : ∃ (a9 : Int32) (th9 om9 sd9 po9 lr9 : Int32) (lv9 : Int64) (d9 : Nat) (P9 : Nat → Int32) (V9 : Nat → Int64) (h9 : Nat), fNext 1 (th, om, sd, po, lr, lv, d, P, V, h) = (a9, th9, om9, sd9, po9, lr9, lv9, d9, P9, V9, h9) := ⟨_, _, _, _, _, _, _, _, _, _, _, rfl⟩
    rw [ef_8] at hP1 hD1 hw
    have hP1 : va_P (dC, dI) vwCl [(oF, .inr (2, [.int (nI M), .ref oS, .int fth_8, .int fom_8, .int fsd_8, .int fpo_8, .int flr_8, .long flv_8, .int (nI fd_8)])), (oS, .inr (1, [.ref oA, .ref oB, .int (nI fh_8)])), (oA, .inl (cA, (min M 512), .inl fP_8)), (oB, .inl (cB, (min M 512), .inr (.inl fV_8)))] H1 := hP1
    have hD1 : va_D _ [(oF, .inr (2, [.int (nI M), .ref oS, .int fth_8, .int fom_8, .int fsd_8, .int fpo_8, .int flr_8, .long flv_8, .int (nI fd_8)])), (oS, .inr (1, [.ref oA, .ref oB, .int (nI fh_8)])), (oA, .inl (cA, (min M 512), .inl fP_8)), (oB, .inl (cB, (min M 512), .inr (.inl fV_8)))] := hD1
    obtain ⟨hP, hD⟩ := va_join (wr := [(oM, .inr (3, [.int co, .int (nI M), .ref oN, .ref oU, .int (nI z), .int th', .int en, .int md, .int po', .int pl, .int la, .int (nI d'), .long va])), (oN, .inl (cN, 1100, .inl N)), (oU, .inl (cU, 1100, .inr (.inl U))), (oO, .inl (cO, 1, .inr (.inl g)))]) (w1 := [(oF, .inr (2, [.int (nI M), .ref oS, .int fth_8, .int fom_8, .int fsd_8, .int fpo_8, .int flr_8, .long flv_8, .int (nI fd_8)])), (oS, .inr (1, [.ref oA, .ref oB, .int (nI fh_8)])), (oA, .inl (cA, (min M 512), .inl fP_8)), (oB, .inl (cB, (min M 512), .inr (.inl fV_8)))]) hP hD [0, 1, 2, 3] [4, 5, 6, 7] rfl rfl (by decide) (by decide) hk1 hFc hP1 hD1
    generalize H1 = H at hP hS ⊢
    have hP : va_P (dC, dI) vwCl [(oF, .inr (2, [.int (nI M), .ref oS, .int fth_8, .int fom_8, .int fsd_8, .int fpo_8, .int flr_8, .long flv_8, .int (nI fd_8)])), (oS, .inr (1, [.ref oA, .ref oB, .int (nI fh_8)])), (oA, .inl (cA, (min M 512), .inl fP_8)), (oB, .inl (cB, (min M 512), .inr (.inl fV_8))), (oM, .inr (3, [.int co, .int (nI M), .ref oN, .ref oU, .int (nI z), .int th', .int en, .int md, .int po', .int pl, .int la, .int (nI d'), .long va])), (oN, .inl (cN, 1100, .inl N)), (oU, .inl (cU, 1100, .inr (.inl U))), (oO, .inl (cO, 1, .inr (.inl g)))] H := hP.sub [4, 5, 6, 7, 0, 1, 2, 3] rfl
    have hD : va_D (fun q : Nat => s.heap.size ≤ q) [(oF, .inr (2, [.int (nI M), .ref oS, .int fth_8, .int fom_8, .int fsd_8, .int fpo_8, .int flr_8, .long flv_8, .int (nI fd_8)])), (oS, .inr (1, [.ref oA, .ref oB, .int (nI fh_8)])), (oA, .inl (cA, (min M 512), .inl fP_8)), (oB, .inl (cB, (min M 512), .inr (.inl fV_8))), (oM, .inr (3, [.int co, .int (nI M), .ref oN, .ref oU, .int (nI z), .int th', .int en, .int md, .int po', .int pl, .int la, .int (nI d'), .long va])), (oN, .inl (cN, 1100, .inl N)), (oU, .inl (cU, 1100, .inr (.inl U))), (oO, .inl (cO, 1, .inr (.inl g)))] := hD.sub [4, 5, 6, 7, 0, 1, 2, 3] (by decide) rfl
    have hK : va_K (dC, dI) vwCl [(cA, .int), (cB, .long), (cN, .int), (cU, .long), (cO, .long)] s := hK
    have hw : r_9 = fa_8 := hw
    rw [hw]
    refine lv_aload_n hx hb dL_law_304 rfl (lv_at hl 2 rfl) ?_
    refine lv_aload_n hx hb dL_law_305 rfl (lv_at hl 4 rfl) ?_
    refine lv_iload hx hb dL_law_306 (lv_at hl 0 rfl) ?_
    refine lv_iconst (v := 1) hx hb dL_law_308 (by decide) ?_
    refine lv_iadd hx hb dL_law_309 ?_
    rw [show (nI (1 + 4 * t)) + 1 = nI (1 + 4 * t + 1) from nI_add (1 + 4 * t) 1]
    refine va_sld hx hb hX hbl hbA hS (vp_in_nI (by omega) (by omega)) dL_law_310 ?_
    refine W_topi (xs (1 + 4 * t + 1)) (by rw [nI_clamp (by omega)]) ?_
    refine lv_if_eq (tgt := 318) hx hb dL_law_311 (by decide) (fun c_10 => ?_) (fun c_10 => ?_)
    · -- taken at 311: (xs (1 + 4 * t + 1)) = 0
      exact absurd c_10 c_1
    · -- not taken at 311: ¬ (xs (1 + 4 * t + 1)) = 0
      refine lv_iconst (v := 1) hx hb dL_law_314 (by decide) ?_
      refine lv_goto (tgt := 319) hx hb dL_law_315 (by decide) ?_
      have hPc := hP.sub (ws' := [(oM, .inr (3, [.int co, .int (nI M), .ref oN, .ref oU, .int (nI z), .int th', .int en, .int md, .int po', .int pl, .int la, .int (nI d'), .long va])), (oN, .inl (cN, 1100, .inl N)), (oU, .inl (cU, 1100, .inr (.inl U)))]) [4, 5, 6] rfl
      have hDc := hD.sub (ws' := [(oM, .inr (3, [.int co, .int (nI M), .ref oN, .ref oU, .int (nI z), .int th', .int en, .int md, .int po', .int pl, .int la, .int (nI d'), .long va])), (oN, .inl (cN, 1100, .inl N)), (oU, .inl (cU, 1100, .inr (.inl U)))]) [4, 5, 6] (by decide) rfl
      have hKc := hK.sub (tys' := [(cN, .int), (cU, .long)]) [2, 3] rfl
      have hFc := va_free (wc := [(oM, .inr (3, [.int co, .int (nI M), .ref oN, .ref oU, .int (nI z), .int th', .int en, .int md, .int po', .int pl, .int la, .int (nI d'), .long va])), (oN, .inl (cN, 1100, .inl N)), (oU, .inl (cU, 1100, .inr (.inl U)))]) hD hS hA [4, 5, 6] rfl
      refine va_calli (va_runV (As := [.int 1]) (rest := [.int fa_8]) ⟨hx, hb, hml, hown, hts⟩ (kX2_next l dC dI oM oN oU cN cU z d' co (nI M) th' en md po' pl la va N U 1 H.size hz hd' (fun q => by rw [ez] at q ⊢; exact fun e => (hRows.find hh2 _).mp e (gNx_in hh2 hRows q))) (cwV 1 hts gL_law_X2_next rfl rfl rfl (by decide +kernel) ⟨Nat.le_of_ble_eq_true rfl, Nat.le_of_ble_eq_true rfl⟩) ⟨fun a U g mk q => by obtain ⟨q0, q1, qP, qK, qD⟩ := q; exact ⟨q0, q1, qP, va_K.moved (u := U) (U := U.calling g mk a) (Vm.Alike.refl U.vm) qK, qD⟩, va_recv hKc hPc (ci := 3) (q0 := 0) rfl rfl, fun U hU hW => ⟨rfl, by rw [hU], by rw [hU]; exact hPc, va_K.moved hW.alike hKc, hDc.weaken (fun _ _ _ _ => trivial)⟩⟩ rfl rfl hl.1 rfl (lv_room (Nat.le_of_ble_eq_true rfl)) dL_law_319 ⟨(show (8 + t) + 0 ≤ 601024 by omega), (show (3250 + 6 * t) + 0 ≤ 7293000 by omega)⟩) hS (fun q _ h => hFc q h) hFc (fun r_12 u9 t9 H1 locs ht9 hvm hw hB hz1 hk1 hS => ?_)
      obtain ⟨hP1, hK1, hD1⟩ := hB
      rw [ht9] at hP1
      have hK1 := va_K.moved hvm.symm hK1
      try dsimp only at hw
      obtain ⟨ga_11, gco_11, gz_11, gth_11, gen_11, gmd_11, gpo_11, gpl_11, gla_11, gd_11, gva_11, gN_11, gU_11, eg_11⟩ : ∃ (a9 : Int32) (co9 : Int32) (z9 : Nat) (th9 en9 md9 po9 pl9 la9 : Int32) (d9 : Nat) (va9 : Int64) (N9 : Nat → Int32) (U9 : Nat → Int64), gNext 1 (co, z, th', en, md, po', pl, la, d', va, N, U) = (a9, co9, z9, th9, en9, md9, po9, pl9, la9, d9, va9, N9, U9) := ⟨_, _, _, _, _, _, _, _, _, _, _, _, _, rfl⟩
      rw [eg_11] at hP1 hD1 hw
      have hP1 : va_P (dC, dI) vwCl [(oM, .inr (3, [.int gco_11, .int (nI M), .ref oN, .ref oU, .int (nI gz_11), .int gth_11, .int gen_11, .int gmd_11, .int gpo_11, .int gpl_11, .int gla_11, .int (nI gd_11), .long gva_11])), (oN, .inl (cN, 1100, .inl gN_11)), (oU, .inl (cU, 1100, .inr (.inl gU_11)))] H1 := hP1
      have hD1 : va_D _ [(oM, .inr (3, [.int gco_11, .int (nI M), .ref oN, .ref oU, .int (nI gz_11), .int gth_11, .int gen_11, .int gmd_11, .int gpo_11, .int gpl_11, .int gla_11, .int (nI gd_11), .long gva_11])), (oN, .inl (cN, 1100, .inl gN_11)), (oU, .inl (cU, 1100, .inr (.inl gU_11)))] := hD1
      obtain ⟨hP, hD⟩ := va_join (wr := [(oF, .inr (2, [.int (nI M), .ref oS, .int fth_8, .int fom_8, .int fsd_8, .int fpo_8, .int flr_8, .long flv_8, .int (nI fd_8)])), (oS, .inr (1, [.ref oA, .ref oB, .int (nI fh_8)])), (oA, .inl (cA, (min M 512), .inl fP_8)), (oB, .inl (cB, (min M 512), .inr (.inl fV_8))), (oO, .inl (cO, 1, .inr (.inl g)))]) (w1 := [(oM, .inr (3, [.int gco_11, .int (nI M), .ref oN, .ref oU, .int (nI gz_11), .int gth_11, .int gen_11, .int gmd_11, .int gpo_11, .int gpl_11, .int gla_11, .int (nI gd_11), .long gva_11])), (oN, .inl (cN, 1100, .inl gN_11)), (oU, .inl (cU, 1100, .inr (.inl gU_11)))]) hP hD [4, 5, 6] [0, 1, 2, 3, 7] rfl rfl (by decide) (by decide) hk1 hFc hP1 hD1
      generalize H1 = H at hP hS ⊢
      have hP : va_P (dC, dI) vwCl [(oF, .inr (2, [.int (nI M), .ref oS, .int fth_8, .int fom_8, .int fsd_8, .int fpo_8, .int flr_8, .long flv_8, .int (nI fd_8)])), (oS, .inr (1, [.ref oA, .ref oB, .int (nI fh_8)])), (oA, .inl (cA, (min M 512), .inl fP_8)), (oB, .inl (cB, (min M 512), .inr (.inl fV_8))), (oM, .inr (3, [.int gco_11, .int (nI M), .ref oN, .ref oU, .int (nI gz_11), .int gth_11, .int gen_11, .int gmd_11, .int gpo_11, .int gpl_11, .int gla_11, .int (nI gd_11), .long gva_11])), (oN, .inl (cN, 1100, .inl gN_11)), (oU, .inl (cU, 1100, .inr (.inl gU_11))), (oO, .inl (cO, 1, .inr (.inl g)))] H := hP.sub [0, 1, 2, 3, 5, 6, 7, 4] rfl
      have hD : va_D (fun q : Nat => s.heap.size ≤ q) [(oF, .inr (2, [.int (nI M), .ref oS, .int fth_8, .int fom_8, .int fsd_8, .int fpo_8, .int flr_8, .long flv_8, .int (nI fd_8)])), (oS, .inr (1, [.ref oA, .ref oB, .int (nI fh_8)])), (oA, .inl (cA, (min M 512), .inl fP_8)), (oB, .inl (cB, (min M 512), .inr (.inl fV_8))), (oM, .inr (3, [.int gco_11, .int (nI M), .ref oN, .ref oU, .int (nI gz_11), .int gth_11, .int gen_11, .int gmd_11, .int gpo_11, .int gpl_11, .int gla_11, .int (nI gd_11), .long gva_11])), (oN, .inl (cN, 1100, .inl gN_11)), (oU, .inl (cU, 1100, .inr (.inl gU_11))), (oO, .inl (cO, 1, .inr (.inl g)))] := hD.sub [0, 1, 2, 3, 5, 6, 7, 4] (by decide) rfl
      have hK : va_K (dC, dI) vwCl [(cA, .int), (cB, .long), (cN, .int), (cU, .long), (cO, .long)] s := hK
      have hw : r_12 = ga_11 := hw
      rw [hw]
      obtain ⟨S1, S2, S3⟩ := s_next hh2 R 1
      rw [ef_8, eg_11] at S1 S2
      rw [ef_8] at S3
      have S1 : fa_8 = ga_11 := S1
      have S2 : Rel M (fth_8, fom_8, fsd_8, fpo_8, flr_8, flv_8, fd_8, fP_8, fV_8, fh_8) (gco_11, gz_11, gth_11, gen_11, gmd_11, gpo_11, gpl_11, gla_11, gd_11, gva_11, gN_11, gU_11) := S2
      have S3 : fh_8 ≤ h + 1 := S3
      refine lv_icmp_eq (tgt := 552) hx hb dL_law_322 (by decide) (fun c_13 => ?_) (fun c_13 => ?_)
      · -- taken at 322: fa_8 = ga_11
        refine W.widen (k := 8 + (t + 1)) (n := 3250 + 6 * (t + 1)) (by omega) (by omega) ?_
        exact cont (fth_8, fom_8, fsd_8, fpo_8, flr_8, flv_8, fd_8, fP_8, fV_8, fh_8) (gco_11, gz_11, gth_11, gen_11, gmd_11, gpo_11, gpl_11, gla_11, gd_11, gva_11, gN_11, gU_11) g ls _ _ (show fh_8 ≤ t + 1 by omega) S2 (lv_sub hl [0, 1, 2, 3, 4] rfl) hP hD hS
      · -- not taken at 322: ¬ fa_8 = ga_11
        exact absurd S1 c_13

set_option maxHeartbeats 1000000 in
set_option maxRecDepth 100000 in
theorem law_6 {p : Program} {l : Launch} {e : Env} {s : State} {m : MethodId} {below : List Frame} {meth : Method} {c : Code} {dC : Nat → ClassId} {dI : Nat → Nat → Nat} {b L : Nat} {xs : Nat → Int32} {Q : State → Prop} (hL : L ≤ 2049) (C0 : lw_At p s m meth c b L xs) {oF oS oA oB oM oN oU oO : Nat} {cA cB cN cU cO : ClassId} {M t : Nat} (hM : M ≤ 65536) (ht : 1 + 4 * t + 3 < L) {th om sd po lr : Int32} {lv : Int64} {d : Nat} {P : Nat → Int32} {V : Nat → Int64} {h : Nat} {co th' en md po' pl la : Int32} {z d' : Nat} {va : Int64} {N : Nat → Int32} {U : Nat → Int64} {g : Nat → Int64} (R : Rel M (th, om, sd, po, lr, lv, d, P, V, h) (co, z, th', en, md, po', pl, la, d', va, N, U)) (hht : h ≤ t) (hK : va_K (dC, dI) vwCl [(cA, .int), (cB, .long), (cN, .int), (cU, .long), (cO, .long)] s) (cont : ∀ (u : CSt) (w : MSt) (g : Nat → Int64) (ls : Array Slot) (H : Heap) (locs : List Loc), hOf u ≤ t + 1 → Rel M u w → lv_has ls 8 [(4, .int (nI (1 + 4 * t))), (3, .ref oO), (2, .ref oM), (1, .ref oF), (0, .ref b)] → va_P (dC, dI) vwCl (wF oF oS oA oB cA cB (min M 512) (nI M) u ++ (wM oM oN oU cN cU (nI M) w ++ [(oO, .inl (cO, 1, .inr (.inl g)))])) H → va_D (fun q : Nat => s.heap.size ≤ q) (wF oF oS oA oB cA cB (min M 512) (nI M) u ++ (wM oM oN oU cN cU (nI M) w ++ [(oO, .inl (cO, 1, .inr (.inl g)))])) → va_S (fun q : Nat => s.heap.size ≤ q) s.heap H locs → W p l e room_1 s m #[Value.ref b] below meth c H locs (8 + (t + 1)) (3250 + 6 * (t + 1)) Q (F0 m 552 ls [])) {ls : Array Slot} {H : Heap} {locs : List Loc} (hl : lv_has ls 8 [(4, .int (nI (1 + 4 * t))), (3, .ref oO), (2, .ref oM), (1, .ref oF), (0, .ref b)]) (hP : va_P (dC, dI) vwCl (wF oF oS oA oB cA cB (min M 512) (nI M) (th, om, sd, po, lr, lv, d, P, V, h) ++ (wM oM oN oU cN cU (nI M) (co, z, th', en, md, po', pl, la, d', va, N, U) ++ [(oO, .inl (cO, 1, .inr (.inl g)))])) H) (hD : va_D (fun q : Nat => s.heap.size ≤ q) (wF oF oS oA oB cA cB (min M 512) (nI M) (th, om, sd, po, lr, lv, d, P, V, h) ++ (wM oM oN oU cN cU (nI M) (co, z, th', en, md, po', pl, la, d', va, N, U) ++ [(oO, .inl (cO, 1, .inr (.inl g)))]))) (hS : va_S (fun q : Nat => s.heap.size ≤ q) s.heap H locs) : W p l e room_1 s m #[Value.ref b] below meth c H locs (8 + t) (3250 + 6 * t) Q (F0 m 327 ls []) := by
  obtain ⟨hx, hb, hr, hml, hown0, hts0, hX, hbl, hlocks, hgv⟩ := C0
  have hown : s.vm.findClass RL = some m.cls := hown0
  have hts : ∀ w ∈ wsL_law, w.before #[Value.ref b] s = true := fun w h => hts0 w (wsL_law_in w h)
  have hA : ∀ q : Nat, s.heap.size ≤ q → (fun q : Nat => s.heap.size ≤ q) q := fun _ h => h
  have hbA : ¬ (fun q : Nat => s.heap.size ≤ q) b := Nat.not_le.mpr hbl
  obtain ⟨ez, eth, emd, ela, ed, eva, hd, hlr, hRows, hPos⟩ := id R
  have hcap := hRows.cap
  have hh : h ≤ min M 512 := Nat.le_min.mpr ⟨hcap, by omega⟩
  have hn : min M 512 ≤ 512 := Nat.min_le_right _ _
  have hz : z ≤ 1100 := by omega
  have hz2 : z < 1100 := by omega
  have hh2 : h ≤ 1100 := by omega
  have hM2 : M < 2 ^ 31 := by omega
  have hd' : d' ≤ 9 := by omega
  have hP : va_P (dC, dI) vwCl [(oF, .inr (2, [.int (nI M), .ref oS, .int th, .int om, .int sd, .int po, .int lr, .long lv, .int (nI d)])), (oS, .inr (1, [.ref oA, .ref oB, .int (nI h)])), (oA, .inl (cA, (min M 512), .inl P)), (oB, .inl (cB, (min M 512), .inr (.inl V))), (oM, .inr (3, [.int co, .int (nI M), .ref oN, .ref oU, .int (nI z), .int th', .int en, .int md, .int po', .int pl, .int la, .int (nI d'), .long va])), (oN, .inl (cN, 1100, .inl N)), (oU, .inl (cU, 1100, .inr (.inl U))), (oO, .inl (cO, 1, .inr (.inl g)))] H := hP
  have hD : va_D (fun q : Nat => s.heap.size ≤ q) [(oF, .inr (2, [.int (nI M), .ref oS, .int th, .int om, .int sd, .int po, .int lr, .long lv, .int (nI d)])), (oS, .inr (1, [.ref oA, .ref oB, .int (nI h)])), (oA, .inl (cA, (min M 512), .inl P)), (oB, .inl (cB, (min M 512), .inr (.inl V))), (oM, .inr (3, [.int co, .int (nI M), .ref oN, .ref oU, .int (nI z), .int th', .int en, .int md, .int po', .int pl, .int la, .int (nI d'), .long va])), (oN, .inl (cN, 1100, .inl N)), (oU, .inl (cU, 1100, .inr (.inl U))), (oO, .inl (cO, 1, .inr (.inl g)))] := hD
  refine lv_aload_n hx hb dL_law_327 rfl (lv_at hl 3 rfl) ?_
  refine lv_aload_n hx hb dL_law_328 rfl (lv_at hl 4 rfl) ?_
  refine lv_iload hx hb dL_law_329 (lv_at hl 0 rfl) ?_
  refine lv_iconst (v := 1) hx hb dL_law_331 (by decide) ?_
  refine lv_iadd hx hb dL_law_332 ?_
  rw [show (nI (1 + 4 * t)) + 1 = nI (1 + 4 * t + 1) from nI_add (1 + 4 * t) 1]
  refine va_sld hx hb hX hbl hbA hS (vp_in_nI (by omega) (by omega)) dL_law_333 ?_
  refine W_topi (xs (1 + 4 * t + 1)) (by rw [nI_clamp (by omega)]) ?_
  refine lv_aload_n hx hb dL_law_334 rfl (lv_at hl 4 rfl) ?_
  refine lv_iload hx hb dL_law_335 (lv_at hl 0 rfl) ?_
  refine lv_iconst (v := 2) hx hb dL_law_337 (by decide) ?_
  refine lv_iadd hx hb dL_law_338 ?_
  rw [show (nI (1 + 4 * t)) + 2 = nI (1 + 4 * t + 2) from nI_add (1 + 4 * t) 2]
  refine va_sld hx hb hX hbl hbA hS (vp_in_nI (by omega) (by omega)) dL_law_339 ?_
  refine W_topi (xs (1 + 4 * t + 2)) (by rw [nI_clamp (by omega)]) ?_
  refine lv_i2l (v := (xs (1 + 4 * t + 2)).toInt64) hx hb dL_law_340 rfl ?_
  refine lv_bipush (v := 32) hx hb dL_law_341 (by decide) ?_
  refine lv_lshl (v := ((xs (1 + 4 * t + 2)).toInt64) <<< ((32 : Int32).toInt64 &&& 63)) hx hb dL_law_343 rfl ?_
  refine lv_aload_n hx hb dL_law_344 rfl (lv_at hl 4 rfl) ?_
  refine lv_iload hx hb dL_law_345 (lv_at hl 0 rfl) ?_
  refine lv_iconst (v := 3) hx hb dL_law_347 (by decide) ?_
  refine lv_iadd hx hb dL_law_348 ?_
  rw [show (nI (1 + 4 * t)) + 3 = nI (1 + 4 * t + 3) from nI_add (1 + 4 * t) 3]
  refine va_sld hx hb hX hbl hbA hS (vp_in_nI (by omega) (by omega)) dL_law_349 ?_
  refine W_topi (xs (1 + 4 * t + 3)) (by rw [nI_clamp (by omega)]) ?_
  refine lv_i2l (v := (xs (1 + 4 * t + 3)).toInt64) hx hb dL_law_350 rfl ?_
  refine lv_ldc2 (v := 4294967295) hx hb hown (hts (.constantLong RL 31 4294967295) (by decide +kernel)) dL_law_351 ?_
  refine lv_land hx hb dL_law_354 ?_
  refine lv_lor hx hb dL_law_355 ?_
  refine W_topl (zL (xs (1 + 4 * t + 2)) (xs (1 + 4 * t + 3))) rfl ?_
  have hPc := hP.sub (ws' := [(oF, .inr (2, [.int (nI M), .ref oS, .int th, .int om, .int sd, .int po, .int lr, .long lv, .int (nI d)])), (oS, .inr (1, [.ref oA, .ref oB, .int (nI h)])), (oA, .inl (cA, (min M 512), .inl P)), (oB, .inl (cB, (min M 512), .inr (.inl V)))]) [0, 1, 2, 3] rfl
  have hDc := hD.sub (ws' := [(oF, .inr (2, [.int (nI M), .ref oS, .int th, .int om, .int sd, .int po, .int lr, .long lv, .int (nI d)])), (oS, .inr (1, [.ref oA, .ref oB, .int (nI h)])), (oA, .inl (cA, (min M 512), .inl P)), (oB, .inl (cB, (min M 512), .inr (.inl V)))]) [0, 1, 2, 3] (by decide) rfl
  have hKc := hK.sub (tys' := [(cA, .int), (cB, .long)]) [0, 1] rfl
  have hFc := va_free (wc := [(oF, .inr (2, [.int (nI M), .ref oS, .int th, .int om, .int sd, .int po, .int lr, .long lv, .int (nI d)])), (oS, .inr (1, [.ref oA, .ref oB, .int (nI h)])), (oA, .inl (cA, (min M 512), .inl P)), (oB, .inl (cB, (min M 512), .inr (.inl V)))]) hD hS hA [0, 1, 2, 3] rfl
  refine va_calli (va_runV (As := [.int (xs (1 + 4 * t + 1)), .long (zL (xs (1 + 4 * t + 2)) (xs (1 + 4 * t + 3)))]) (rest := []) ⟨hx, hb, hml, hown, hts⟩ (kX1_rewrite l dC dI oF oS oA oB cA cB (min M 512) h d (nI M) th om sd po lr lv P V (xs (1 + 4 * t + 1)) (zL (xs (1 + 4 * t + 2)) (xs (1 + 4 * t + 3))) H.size hh hn) (cwV 2 hts gL_law_X1_rewrite rfl rfl rfl (by decide +kernel) ⟨Nat.le_of_ble_eq_true rfl, Nat.le_of_ble_eq_true rfl⟩) ⟨fun a U g mk q => by obtain ⟨q0, q1, qP, qK, qD⟩ := q; exact ⟨q0, q1, qP, va_K.moved (u := U) (U := U.calling g mk a) (Vm.Alike.refl U.vm) qK, qD⟩, va_recv hKc hPc (ci := 2) (q0 := 0) rfl rfl, fun U hU hW => ⟨rfl, by rw [hU], by rw [hU]; exact hPc, va_K.moved hW.alike hKc, hDc.weaken (fun _ _ _ _ => trivial)⟩⟩ rfl rfl hl.1 rfl (lv_room (Nat.le_of_ble_eq_true rfl)) dL_law_356 ⟨(show (8 + t) + 0 ≤ 601024 by omega), (show (3250 + 6 * t) + 0 ≤ 7293000 by omega)⟩) hS (fun q _ h => hFc q h) hFc (fun r_2 u9 t9 H1 locs ht9 hvm hw hB hz1 hk1 hS => ?_)
  obtain ⟨hP1, hK1, hD1⟩ := hB
  rw [ht9] at hP1
  have hK1 := va_K.moved hvm.symm hK1
  try dsimp only at hw
  obtain ⟨fa_1, fth_1, fom_1, fsd_1, fpo_1, flr_1, flv_1, fd_1, fP_1, fV_1, fh_1, ef_1⟩ : ∃ (a9 : Int32) (th9 om9 sd9 po9 lr9 : Int32) (lv9 : Int64) (d9 : Nat) (P9 : Nat → Int32) (V9 : Nat → Int64) (h9 : Nat), fRewr (xs (1 + 4 * t + 1)) (zL (xs (1 + 4 * t + 2)) (xs (1 + 4 * t + 3))) (th, om, sd, po, lr, lv, d, P, V, h) = (a9, th9, om9, sd9, po9, lr9, lv9, d9, P9, V9, h9) := ⟨_, _, _, _, _, _, _, _, _, _, _, rfl⟩
  rw [ef_1] at hP1 hD1 hw
  have hP1 : va_P (dC, dI) vwCl [(oF, .inr (2, [.int (nI M), .ref oS, .int fth_1, .int fom_1, .int fsd_1, .int fpo_1, .int flr_1, .long flv_1, .int (nI fd_1)])), (oS, .inr (1, [.ref oA, .ref oB, .int (nI fh_1)])), (oA, .inl (cA, (min M 512), .inl fP_1)), (oB, .inl (cB, (min M 512), .inr (.inl fV_1)))] H1 := hP1
  have hD1 : va_D _ [(oF, .inr (2, [.int (nI M), .ref oS, .int fth_1, .int fom_1, .int fsd_1, .int fpo_1, .int flr_1, .long flv_1, .int (nI fd_1)])), (oS, .inr (1, [.ref oA, .ref oB, .int (nI fh_1)])), (oA, .inl (cA, (min M 512), .inl fP_1)), (oB, .inl (cB, (min M 512), .inr (.inl fV_1)))] := hD1
  obtain ⟨hP, hD⟩ := va_join (wr := [(oM, .inr (3, [.int co, .int (nI M), .ref oN, .ref oU, .int (nI z), .int th', .int en, .int md, .int po', .int pl, .int la, .int (nI d'), .long va])), (oN, .inl (cN, 1100, .inl N)), (oU, .inl (cU, 1100, .inr (.inl U))), (oO, .inl (cO, 1, .inr (.inl g)))]) (w1 := [(oF, .inr (2, [.int (nI M), .ref oS, .int fth_1, .int fom_1, .int fsd_1, .int fpo_1, .int flr_1, .long flv_1, .int (nI fd_1)])), (oS, .inr (1, [.ref oA, .ref oB, .int (nI fh_1)])), (oA, .inl (cA, (min M 512), .inl fP_1)), (oB, .inl (cB, (min M 512), .inr (.inl fV_1)))]) hP hD [0, 1, 2, 3] [4, 5, 6, 7] rfl rfl (by decide) (by decide) hk1 hFc hP1 hD1
  generalize H1 = H at hP hS ⊢
  have hP : va_P (dC, dI) vwCl [(oF, .inr (2, [.int (nI M), .ref oS, .int fth_1, .int fom_1, .int fsd_1, .int fpo_1, .int flr_1, .long flv_1, .int (nI fd_1)])), (oS, .inr (1, [.ref oA, .ref oB, .int (nI fh_1)])), (oA, .inl (cA, (min M 512), .inl fP_1)), (oB, .inl (cB, (min M 512), .inr (.inl fV_1))), (oM, .inr (3, [.int co, .int (nI M), .ref oN, .ref oU, .int (nI z), .int th', .int en, .int md, .int po', .int pl, .int la, .int (nI d'), .long va])), (oN, .inl (cN, 1100, .inl N)), (oU, .inl (cU, 1100, .inr (.inl U))), (oO, .inl (cO, 1, .inr (.inl g)))] H := hP.sub [4, 5, 6, 7, 0, 1, 2, 3] rfl
  have hD : va_D (fun q : Nat => s.heap.size ≤ q) [(oF, .inr (2, [.int (nI M), .ref oS, .int fth_1, .int fom_1, .int fsd_1, .int fpo_1, .int flr_1, .long flv_1, .int (nI fd_1)])), (oS, .inr (1, [.ref oA, .ref oB, .int (nI fh_1)])), (oA, .inl (cA, (min M 512), .inl fP_1)), (oB, .inl (cB, (min M 512), .inr (.inl fV_1))), (oM, .inr (3, [.int co, .int (nI M), .ref oN, .ref oU, .int (nI z), .int th', .int en, .int md, .int po', .int pl, .int la, .int (nI d'), .long va])), (oN, .inl (cN, 1100, .inl N)), (oU, .inl (cU, 1100, .inr (.inl U))), (oO, .inl (cO, 1, .inr (.inl g)))] := hD.sub [4, 5, 6, 7, 0, 1, 2, 3] (by decide) rfl
  have hK : va_K (dC, dI) vwCl [(cA, .int), (cB, .long), (cN, .int), (cU, .long), (cO, .long)] s := hK
  have hw : r_2 = fa_1 := hw
  rw [hw]
  refine lv_aload_n hx hb dL_law_359 rfl (lv_at hl 2 rfl) ?_
  refine lv_aload_n hx hb dL_law_360 rfl (lv_at hl 4 rfl) ?_
  refine lv_iload hx hb dL_law_361 (lv_at hl 0 rfl) ?_
  refine lv_iconst (v := 1) hx hb dL_law_363 (by decide) ?_
  refine lv_iadd hx hb dL_law_364 ?_
  rw [show (nI (1 + 4 * t)) + 1 = nI (1 + 4 * t + 1) from nI_add (1 + 4 * t) 1]
  refine va_sld hx hb hX hbl hbA hS (vp_in_nI (by omega) (by omega)) dL_law_365 ?_
  refine W_topi (xs (1 + 4 * t + 1)) (by rw [nI_clamp (by omega)]) ?_
  refine lv_aload_n hx hb dL_law_366 rfl (lv_at hl 4 rfl) ?_
  refine lv_iload hx hb dL_law_367 (lv_at hl 0 rfl) ?_
  refine lv_iconst (v := 2) hx hb dL_law_369 (by decide) ?_
  refine lv_iadd hx hb dL_law_370 ?_
  rw [show (nI (1 + 4 * t)) + 2 = nI (1 + 4 * t + 2) from nI_add (1 + 4 * t) 2]
  refine va_sld hx hb hX hbl hbA hS (vp_in_nI (by omega) (by omega)) dL_law_371 ?_
  refine W_topi (xs (1 + 4 * t + 2)) (by rw [nI_clamp (by omega)]) ?_
  refine lv_i2l (v := (xs (1 + 4 * t + 2)).toInt64) hx hb dL_law_372 rfl ?_
  refine lv_bipush (v := 32) hx hb dL_law_373 (by decide) ?_
  refine lv_lshl (v := ((xs (1 + 4 * t + 2)).toInt64) <<< ((32 : Int32).toInt64 &&& 63)) hx hb dL_law_375 rfl ?_
  refine lv_aload_n hx hb dL_law_376 rfl (lv_at hl 4 rfl) ?_
  refine lv_iload hx hb dL_law_377 (lv_at hl 0 rfl) ?_
  refine lv_iconst (v := 3) hx hb dL_law_379 (by decide) ?_
  refine lv_iadd hx hb dL_law_380 ?_
  rw [show (nI (1 + 4 * t)) + 3 = nI (1 + 4 * t + 3) from nI_add (1 + 4 * t) 3]
  refine va_sld hx hb hX hbl hbA hS (vp_in_nI (by omega) (by omega)) dL_law_381 ?_
  refine W_topi (xs (1 + 4 * t + 3)) (by rw [nI_clamp (by omega)]) ?_
  refine lv_i2l (v := (xs (1 + 4 * t + 3)).toInt64) hx hb dL_law_382 rfl ?_
  refine lv_ldc2 (v := 4294967295) hx hb hown (hts (.constantLong RL 31 4294967295) (by decide +kernel)) dL_law_383 ?_
  refine lv_land hx hb dL_law_386 ?_
  refine lv_lor hx hb dL_law_387 ?_
  refine W_topl (zL (xs (1 + 4 * t + 2)) (xs (1 + 4 * t + 3))) rfl ?_
  have hPc := hP.sub (ws' := [(oM, .inr (3, [.int co, .int (nI M), .ref oN, .ref oU, .int (nI z), .int th', .int en, .int md, .int po', .int pl, .int la, .int (nI d'), .long va])), (oN, .inl (cN, 1100, .inl N)), (oU, .inl (cU, 1100, .inr (.inl U)))]) [4, 5, 6] rfl
  have hDc := hD.sub (ws' := [(oM, .inr (3, [.int co, .int (nI M), .ref oN, .ref oU, .int (nI z), .int th', .int en, .int md, .int po', .int pl, .int la, .int (nI d'), .long va])), (oN, .inl (cN, 1100, .inl N)), (oU, .inl (cU, 1100, .inr (.inl U)))]) [4, 5, 6] (by decide) rfl
  have hKc := hK.sub (tys' := [(cN, .int), (cU, .long)]) [2, 3] rfl
  have hFc := va_free (wc := [(oM, .inr (3, [.int co, .int (nI M), .ref oN, .ref oU, .int (nI z), .int th', .int en, .int md, .int po', .int pl, .int la, .int (nI d'), .long va])), (oN, .inl (cN, 1100, .inl N)), (oU, .inl (cU, 1100, .inr (.inl U)))]) hD hS hA [4, 5, 6] rfl
  refine va_calli (va_runV (As := [.int (xs (1 + 4 * t + 1)), .long (zL (xs (1 + 4 * t + 2)) (xs (1 + 4 * t + 3)))]) (rest := [.int fa_1]) ⟨hx, hb, hml, hown, hts⟩ (kX2_rewrite l dC dI oM oN oU cN cU z d' co (nI M) th' en md po' pl la va N U (xs (1 + 4 * t + 1)) (zL (xs (1 + 4 * t + 2)) (xs (1 + 4 * t + 3))) H.size hz) (cwV 2 hts gL_law_X2_rewrite rfl rfl rfl (by decide +kernel) ⟨Nat.le_of_ble_eq_true rfl, Nat.le_of_ble_eq_true rfl⟩) ⟨fun a U g mk q => by obtain ⟨q0, q1, qP, qK, qD⟩ := q; exact ⟨q0, q1, qP, va_K.moved (u := U) (U := U.calling g mk a) (Vm.Alike.refl U.vm) qK, qD⟩, va_recv hKc hPc (ci := 3) (q0 := 0) rfl rfl, fun U hU hW => ⟨rfl, by rw [hU], by rw [hU]; exact hPc, va_K.moved hW.alike hKc, hDc.weaken (fun _ _ _ _ => trivial)⟩⟩ rfl rfl hl.1 rfl (lv_room (Nat.le_of_ble_eq_true rfl)) dL_law_388 ⟨(show (8 + t) + 0 ≤ 601024 by omega), (show (3250 + 6 * t) + 0 ≤ 7293000 by omega)⟩) hS (fun q _ h => hFc q h) hFc (fun r_4 u9 t9 H1 locs ht9 hvm hw hB hz1 hk1 hS => ?_)
  obtain ⟨hP1, hK1, hD1⟩ := hB
  rw [ht9] at hP1
  have hK1 := va_K.moved hvm.symm hK1
  try dsimp only at hw
  obtain ⟨ga_3, gco_3, gz_3, gth_3, gen_3, gmd_3, gpo_3, gpl_3, gla_3, gd_3, gva_3, gN_3, gU_3, eg_3⟩ : ∃ (a9 : Int32) (co9 : Int32) (z9 : Nat) (th9 en9 md9 po9 pl9 la9 : Int32) (d9 : Nat) (va9 : Int64) (N9 : Nat → Int32) (U9 : Nat → Int64), gRewr (xs (1 + 4 * t + 1)) (zL (xs (1 + 4 * t + 2)) (xs (1 + 4 * t + 3))) (co, z, th', en, md, po', pl, la, d', va, N, U) = (a9, co9, z9, th9, en9, md9, po9, pl9, la9, d9, va9, N9, U9) := ⟨_, _, _, _, _, _, _, _, _, _, _, _, _, rfl⟩
  rw [eg_3] at hP1 hD1 hw
  have hP1 : va_P (dC, dI) vwCl [(oM, .inr (3, [.int gco_3, .int (nI M), .ref oN, .ref oU, .int (nI gz_3), .int gth_3, .int gen_3, .int gmd_3, .int gpo_3, .int gpl_3, .int gla_3, .int (nI gd_3), .long gva_3])), (oN, .inl (cN, 1100, .inl gN_3)), (oU, .inl (cU, 1100, .inr (.inl gU_3)))] H1 := hP1
  have hD1 : va_D _ [(oM, .inr (3, [.int gco_3, .int (nI M), .ref oN, .ref oU, .int (nI gz_3), .int gth_3, .int gen_3, .int gmd_3, .int gpo_3, .int gpl_3, .int gla_3, .int (nI gd_3), .long gva_3])), (oN, .inl (cN, 1100, .inl gN_3)), (oU, .inl (cU, 1100, .inr (.inl gU_3)))] := hD1
  obtain ⟨hP, hD⟩ := va_join (wr := [(oF, .inr (2, [.int (nI M), .ref oS, .int fth_1, .int fom_1, .int fsd_1, .int fpo_1, .int flr_1, .long flv_1, .int (nI fd_1)])), (oS, .inr (1, [.ref oA, .ref oB, .int (nI fh_1)])), (oA, .inl (cA, (min M 512), .inl fP_1)), (oB, .inl (cB, (min M 512), .inr (.inl fV_1))), (oO, .inl (cO, 1, .inr (.inl g)))]) (w1 := [(oM, .inr (3, [.int gco_3, .int (nI M), .ref oN, .ref oU, .int (nI gz_3), .int gth_3, .int gen_3, .int gmd_3, .int gpo_3, .int gpl_3, .int gla_3, .int (nI gd_3), .long gva_3])), (oN, .inl (cN, 1100, .inl gN_3)), (oU, .inl (cU, 1100, .inr (.inl gU_3)))]) hP hD [4, 5, 6] [0, 1, 2, 3, 7] rfl rfl (by decide) (by decide) hk1 hFc hP1 hD1
  generalize H1 = H at hP hS ⊢
  have hP : va_P (dC, dI) vwCl [(oF, .inr (2, [.int (nI M), .ref oS, .int fth_1, .int fom_1, .int fsd_1, .int fpo_1, .int flr_1, .long flv_1, .int (nI fd_1)])), (oS, .inr (1, [.ref oA, .ref oB, .int (nI fh_1)])), (oA, .inl (cA, (min M 512), .inl fP_1)), (oB, .inl (cB, (min M 512), .inr (.inl fV_1))), (oM, .inr (3, [.int gco_3, .int (nI M), .ref oN, .ref oU, .int (nI gz_3), .int gth_3, .int gen_3, .int gmd_3, .int gpo_3, .int gpl_3, .int gla_3, .int (nI gd_3), .long gva_3])), (oN, .inl (cN, 1100, .inl gN_3)), (oU, .inl (cU, 1100, .inr (.inl gU_3))), (oO, .inl (cO, 1, .inr (.inl g)))] H := hP.sub [0, 1, 2, 3, 5, 6, 7, 4] rfl
  have hD : va_D (fun q : Nat => s.heap.size ≤ q) [(oF, .inr (2, [.int (nI M), .ref oS, .int fth_1, .int fom_1, .int fsd_1, .int fpo_1, .int flr_1, .long flv_1, .int (nI fd_1)])), (oS, .inr (1, [.ref oA, .ref oB, .int (nI fh_1)])), (oA, .inl (cA, (min M 512), .inl fP_1)), (oB, .inl (cB, (min M 512), .inr (.inl fV_1))), (oM, .inr (3, [.int gco_3, .int (nI M), .ref oN, .ref oU, .int (nI gz_3), .int gth_3, .int gen_3, .int gmd_3, .int gpo_3, .int gpl_3, .int gla_3, .int (nI gd_3), .long gva_3])), (oN, .inl (cN, 1100, .inl gN_3)), (oU, .inl (cU, 1100, .inr (.inl gU_3))), (oO, .inl (cO, 1, .inr (.inl g)))] := hD.sub [0, 1, 2, 3, 5, 6, 7, 4] (by decide) rfl
  have hK : va_K (dC, dI) vwCl [(cA, .int), (cB, .long), (cN, .int), (cU, .long), (cO, .long)] s := hK
  have hw : r_4 = ga_3 := hw
  rw [hw]
  obtain ⟨S1, S2, S3⟩ := s_rewr hh2 R (xs (1 + 4 * t + 1)) (zL (xs (1 + 4 * t + 2)) (xs (1 + 4 * t + 3)))
  rw [ef_1, eg_3] at S1 S2
  rw [ef_1] at S3
  have S1 : fa_1 = ga_3 := S1
  have S2 : Rel M (fth_1, fom_1, fsd_1, fpo_1, flr_1, flv_1, fd_1, fP_1, fV_1, fh_1) (gco_3, gz_3, gth_3, gen_3, gmd_3, gpo_3, gpl_3, gla_3, gd_3, gva_3, gN_3, gU_3) := S2
  have S3 : fh_1 ≤ h + 1 := S3
  refine lv_icmp_eq (tgt := 552) hx hb dL_law_391 (by decide) (fun c_5 => ?_) (fun c_5 => ?_)
  · -- taken at 391: fa_1 = ga_3
    refine W.widen (k := 8 + (t + 1)) (n := 3250 + 6 * (t + 1)) (by omega) (by omega) ?_
    exact cont (fth_1, fom_1, fsd_1, fpo_1, flr_1, flv_1, fd_1, fP_1, fV_1, fh_1) (gco_3, gz_3, gth_3, gen_3, gmd_3, gpo_3, gpl_3, gla_3, gd_3, gva_3, gN_3, gU_3) g ls _ _ (show fh_1 ≤ t + 1 by omega) S2 (lv_sub hl [0, 1, 2, 3, 4] rfl) hP hD hS
  · -- not taken at 391: ¬ fa_1 = ga_3
    exact absurd S1 c_5

set_option maxHeartbeats 1000000 in
set_option maxRecDepth 100000 in
theorem law_7 {p : Program} {l : Launch} {e : Env} {s : State} {m : MethodId} {below : List Frame} {meth : Method} {c : Code} {dC : Nat → ClassId} {dI : Nat → Nat → Nat} {b L : Nat} {xs : Nat → Int32} {Q : State → Prop} (hL : L ≤ 2049) (C0 : lw_At p s m meth c b L xs) {oF oS oA oB oM oN oU oO : Nat} {cA cB cN cU cO : ClassId} {M t : Nat} (hM : M ≤ 65536) (ht : 1 + 4 * t + 3 < L) {th om sd po lr : Int32} {lv : Int64} {d : Nat} {P : Nat → Int32} {V : Nat → Int64} {h : Nat} {co th' en md po' pl la : Int32} {z d' : Nat} {va : Int64} {N : Nat → Int32} {U : Nat → Int64} {g : Nat → Int64} (R : Rel M (th, om, sd, po, lr, lv, d, P, V, h) (co, z, th', en, md, po', pl, la, d', va, N, U)) (hht : h ≤ t) (hK : va_K (dC, dI) vwCl [(cA, .int), (cB, .long), (cN, .int), (cU, .long), (cO, .long)] s) (cont : ∀ (u : CSt) (w : MSt) (g : Nat → Int64) (ls : Array Slot) (H : Heap) (locs : List Loc), hOf u ≤ t + 1 → Rel M u w → lv_has ls 8 [(4, .int (nI (1 + 4 * t))), (3, .ref oO), (2, .ref oM), (1, .ref oF), (0, .ref b)] → va_P (dC, dI) vwCl (wF oF oS oA oB cA cB (min M 512) (nI M) u ++ (wM oM oN oU cN cU (nI M) w ++ [(oO, .inl (cO, 1, .inr (.inl g)))])) H → va_D (fun q : Nat => s.heap.size ≤ q) (wF oF oS oA oB cA cB (min M 512) (nI M) u ++ (wM oM oN oU cN cU (nI M) w ++ [(oO, .inl (cO, 1, .inr (.inl g)))])) → va_S (fun q : Nat => s.heap.size ≤ q) s.heap H locs → W p l e room_1 s m #[Value.ref b] below meth c H locs (8 + (t + 1)) (3250 + 6 * (t + 1)) Q (F0 m 552 ls [])) {ls : Array Slot} {H : Heap} {locs : List Loc} (hl : lv_has ls 8 [(4, .int (nI (1 + 4 * t))), (3, .ref oO), (2, .ref oM), (1, .ref oF), (0, .ref b)]) (hP : va_P (dC, dI) vwCl (wF oF oS oA oB cA cB (min M 512) (nI M) (th, om, sd, po, lr, lv, d, P, V, h) ++ (wM oM oN oU cN cU (nI M) (co, z, th', en, md, po', pl, la, d', va, N, U) ++ [(oO, .inl (cO, 1, .inr (.inl g)))])) H) (hD : va_D (fun q : Nat => s.heap.size ≤ q) (wF oF oS oA oB cA cB (min M 512) (nI M) (th, om, sd, po, lr, lv, d, P, V, h) ++ (wM oM oN oU cN cU (nI M) (co, z, th', en, md, po', pl, la, d', va, N, U) ++ [(oO, .inl (cO, 1, .inr (.inl g)))]))) (hS : va_S (fun q : Nat => s.heap.size ≤ q) s.heap H locs) : W p l e room_1 s m #[Value.ref b] below meth c H locs (8 + t) (3250 + 6 * t) Q (F0 m 396 ls []) := by
  obtain ⟨hx, hb, hr, hml, hown0, hts0, hX, hbl, hlocks, hgv⟩ := C0
  have hown : s.vm.findClass RL = some m.cls := hown0
  have hts : ∀ w ∈ wsL_law, w.before #[Value.ref b] s = true := fun w h => hts0 w (wsL_law_in w h)
  have hA : ∀ q : Nat, s.heap.size ≤ q → (fun q : Nat => s.heap.size ≤ q) q := fun _ h => h
  have hbA : ¬ (fun q : Nat => s.heap.size ≤ q) b := Nat.not_le.mpr hbl
  obtain ⟨ez, eth, emd, ela, ed, eva, hd, hlr, hRows, hPos⟩ := id R
  have hcap := hRows.cap
  have hh : h ≤ min M 512 := Nat.le_min.mpr ⟨hcap, by omega⟩
  have hn : min M 512 ≤ 512 := Nat.min_le_right _ _
  have hz : z ≤ 1100 := by omega
  have hz2 : z < 1100 := by omega
  have hh2 : h ≤ 1100 := by omega
  have hM2 : M < 2 ^ 31 := by omega
  have hd' : d' ≤ 9 := by omega
  have hP : va_P (dC, dI) vwCl [(oF, .inr (2, [.int (nI M), .ref oS, .int th, .int om, .int sd, .int po, .int lr, .long lv, .int (nI d)])), (oS, .inr (1, [.ref oA, .ref oB, .int (nI h)])), (oA, .inl (cA, (min M 512), .inl P)), (oB, .inl (cB, (min M 512), .inr (.inl V))), (oM, .inr (3, [.int co, .int (nI M), .ref oN, .ref oU, .int (nI z), .int th', .int en, .int md, .int po', .int pl, .int la, .int (nI d'), .long va])), (oN, .inl (cN, 1100, .inl N)), (oU, .inl (cU, 1100, .inr (.inl U))), (oO, .inl (cO, 1, .inr (.inl g)))] H := hP
  have hD : va_D (fun q : Nat => s.heap.size ≤ q) [(oF, .inr (2, [.int (nI M), .ref oS, .int th, .int om, .int sd, .int po, .int lr, .long lv, .int (nI d)])), (oS, .inr (1, [.ref oA, .ref oB, .int (nI h)])), (oA, .inl (cA, (min M 512), .inl P)), (oB, .inl (cB, (min M 512), .inr (.inl V))), (oM, .inr (3, [.int co, .int (nI M), .ref oN, .ref oU, .int (nI z), .int th', .int en, .int md, .int po', .int pl, .int la, .int (nI d'), .long va])), (oN, .inl (cN, 1100, .inl N)), (oU, .inl (cU, 1100, .inr (.inl U))), (oO, .inl (cO, 1, .inr (.inl g)))] := hD
  refine lv_aload_n hx hb dL_law_396 rfl (lv_at hl 3 rfl) ?_
  refine lv_aload_n hx hb dL_law_397 rfl (lv_at hl 4 rfl) ?_
  refine lv_iload hx hb dL_law_398 (lv_at hl 0 rfl) ?_
  refine lv_iconst (v := 1) hx hb dL_law_400 (by decide) ?_
  refine lv_iadd hx hb dL_law_401 ?_
  rw [show (nI (1 + 4 * t)) + 1 = nI (1 + 4 * t + 1) from nI_add (1 + 4 * t) 1]
  refine va_sld hx hb hX hbl hbA hS (vp_in_nI (by omega) (by omega)) dL_law_402 ?_
  refine W_topi (xs (1 + 4 * t + 1)) (by rw [nI_clamp (by omega)]) ?_
  have hPc := hP.sub (ws' := [(oF, .inr (2, [.int (nI M), .ref oS, .int th, .int om, .int sd, .int po, .int lr, .long lv, .int (nI d)])), (oS, .inr (1, [.ref oA, .ref oB, .int (nI h)])), (oA, .inl (cA, (min M 512), .inl P)), (oB, .inl (cB, (min M 512), .inr (.inl V)))]) [0, 1, 2, 3] rfl
  have hDc := hD.sub (ws' := [(oF, .inr (2, [.int (nI M), .ref oS, .int th, .int om, .int sd, .int po, .int lr, .long lv, .int (nI d)])), (oS, .inr (1, [.ref oA, .ref oB, .int (nI h)])), (oA, .inl (cA, (min M 512), .inl P)), (oB, .inl (cB, (min M 512), .inr (.inl V)))]) [0, 1, 2, 3] (by decide) rfl
  have hKc := hK.sub (tys' := [(cA, .int), (cB, .long)]) [0, 1] rfl
  have hFc := va_free (wc := [(oF, .inr (2, [.int (nI M), .ref oS, .int th, .int om, .int sd, .int po, .int lr, .long lv, .int (nI d)])), (oS, .inr (1, [.ref oA, .ref oB, .int (nI h)])), (oA, .inl (cA, (min M 512), .inl P)), (oB, .inl (cB, (min M 512), .inr (.inl V)))]) hD hS hA [0, 1, 2, 3] rfl
  refine va_calli (va_runV (As := [.int (xs (1 + 4 * t + 1))]) (rest := []) ⟨hx, hb, hml, hown, hts⟩ (kX1_remove l dC dI oF oS oA oB cA cB (min M 512) h d (nI M) th om sd po lr lv P V (xs (1 + 4 * t + 1)) H.size hh hn) (cwV 1 hts gL_law_X1_remove rfl rfl rfl (by decide +kernel) ⟨Nat.le_of_ble_eq_true rfl, Nat.le_of_ble_eq_true rfl⟩) ⟨fun a U g mk q => by obtain ⟨q0, q1, qP, qK, qD⟩ := q; exact ⟨q0, q1, qP, va_K.moved (u := U) (U := U.calling g mk a) (Vm.Alike.refl U.vm) qK, qD⟩, va_recv hKc hPc (ci := 2) (q0 := 0) rfl rfl, fun U hU hW => ⟨rfl, by rw [hU], by rw [hU]; exact hPc, va_K.moved hW.alike hKc, hDc.weaken (fun _ _ _ _ => trivial)⟩⟩ rfl rfl hl.1 rfl (lv_room (Nat.le_of_ble_eq_true rfl)) dL_law_403 ⟨(show (8 + t) + 0 ≤ 601024 by omega), (show (3250 + 6 * t) + 0 ≤ 7293000 by omega)⟩) hS (fun q _ h => hFc q h) hFc (fun r_2 u9 t9 H1 locs ht9 hvm hw hB hz1 hk1 hS => ?_)
  obtain ⟨hP1, hK1, hD1⟩ := hB
  rw [ht9] at hP1
  have hK1 := va_K.moved hvm.symm hK1
  try dsimp only at hw
  obtain ⟨fa_1, fth_1, fom_1, fsd_1, fpo_1, flr_1, flv_1, fd_1, fP_1, fV_1, fh_1, ef_1⟩ : ∃ (a9 : Int32) (th9 om9 sd9 po9 lr9 : Int32) (lv9 : Int64) (d9 : Nat) (P9 : Nat → Int32) (V9 : Nat → Int64) (h9 : Nat), fRem (xs (1 + 4 * t + 1)) (th, om, sd, po, lr, lv, d, P, V, h) = (a9, th9, om9, sd9, po9, lr9, lv9, d9, P9, V9, h9) := ⟨_, _, _, _, _, _, _, _, _, _, _, rfl⟩
  rw [ef_1] at hP1 hD1 hw
  have hP1 : va_P (dC, dI) vwCl [(oF, .inr (2, [.int (nI M), .ref oS, .int fth_1, .int fom_1, .int fsd_1, .int fpo_1, .int flr_1, .long flv_1, .int (nI fd_1)])), (oS, .inr (1, [.ref oA, .ref oB, .int (nI fh_1)])), (oA, .inl (cA, (min M 512), .inl fP_1)), (oB, .inl (cB, (min M 512), .inr (.inl fV_1)))] H1 := hP1
  have hD1 : va_D _ [(oF, .inr (2, [.int (nI M), .ref oS, .int fth_1, .int fom_1, .int fsd_1, .int fpo_1, .int flr_1, .long flv_1, .int (nI fd_1)])), (oS, .inr (1, [.ref oA, .ref oB, .int (nI fh_1)])), (oA, .inl (cA, (min M 512), .inl fP_1)), (oB, .inl (cB, (min M 512), .inr (.inl fV_1)))] := hD1
  obtain ⟨hP, hD⟩ := va_join (wr := [(oM, .inr (3, [.int co, .int (nI M), .ref oN, .ref oU, .int (nI z), .int th', .int en, .int md, .int po', .int pl, .int la, .int (nI d'), .long va])), (oN, .inl (cN, 1100, .inl N)), (oU, .inl (cU, 1100, .inr (.inl U))), (oO, .inl (cO, 1, .inr (.inl g)))]) (w1 := [(oF, .inr (2, [.int (nI M), .ref oS, .int fth_1, .int fom_1, .int fsd_1, .int fpo_1, .int flr_1, .long flv_1, .int (nI fd_1)])), (oS, .inr (1, [.ref oA, .ref oB, .int (nI fh_1)])), (oA, .inl (cA, (min M 512), .inl fP_1)), (oB, .inl (cB, (min M 512), .inr (.inl fV_1)))]) hP hD [0, 1, 2, 3] [4, 5, 6, 7] rfl rfl (by decide) (by decide) hk1 hFc hP1 hD1
  generalize H1 = H at hP hS ⊢
  have hP : va_P (dC, dI) vwCl [(oF, .inr (2, [.int (nI M), .ref oS, .int fth_1, .int fom_1, .int fsd_1, .int fpo_1, .int flr_1, .long flv_1, .int (nI fd_1)])), (oS, .inr (1, [.ref oA, .ref oB, .int (nI fh_1)])), (oA, .inl (cA, (min M 512), .inl fP_1)), (oB, .inl (cB, (min M 512), .inr (.inl fV_1))), (oM, .inr (3, [.int co, .int (nI M), .ref oN, .ref oU, .int (nI z), .int th', .int en, .int md, .int po', .int pl, .int la, .int (nI d'), .long va])), (oN, .inl (cN, 1100, .inl N)), (oU, .inl (cU, 1100, .inr (.inl U))), (oO, .inl (cO, 1, .inr (.inl g)))] H := hP.sub [4, 5, 6, 7, 0, 1, 2, 3] rfl
  have hD : va_D (fun q : Nat => s.heap.size ≤ q) [(oF, .inr (2, [.int (nI M), .ref oS, .int fth_1, .int fom_1, .int fsd_1, .int fpo_1, .int flr_1, .long flv_1, .int (nI fd_1)])), (oS, .inr (1, [.ref oA, .ref oB, .int (nI fh_1)])), (oA, .inl (cA, (min M 512), .inl fP_1)), (oB, .inl (cB, (min M 512), .inr (.inl fV_1))), (oM, .inr (3, [.int co, .int (nI M), .ref oN, .ref oU, .int (nI z), .int th', .int en, .int md, .int po', .int pl, .int la, .int (nI d'), .long va])), (oN, .inl (cN, 1100, .inl N)), (oU, .inl (cU, 1100, .inr (.inl U))), (oO, .inl (cO, 1, .inr (.inl g)))] := hD.sub [4, 5, 6, 7, 0, 1, 2, 3] (by decide) rfl
  have hK : va_K (dC, dI) vwCl [(cA, .int), (cB, .long), (cN, .int), (cU, .long), (cO, .long)] s := hK
  have hw : r_2 = fa_1 := hw
  rw [hw]
  refine lv_aload_n hx hb dL_law_406 rfl (lv_at hl 2 rfl) ?_
  refine lv_aload_n hx hb dL_law_407 rfl (lv_at hl 4 rfl) ?_
  refine lv_iload hx hb dL_law_408 (lv_at hl 0 rfl) ?_
  refine lv_iconst (v := 1) hx hb dL_law_410 (by decide) ?_
  refine lv_iadd hx hb dL_law_411 ?_
  rw [show (nI (1 + 4 * t)) + 1 = nI (1 + 4 * t + 1) from nI_add (1 + 4 * t) 1]
  refine va_sld hx hb hX hbl hbA hS (vp_in_nI (by omega) (by omega)) dL_law_412 ?_
  refine W_topi (xs (1 + 4 * t + 1)) (by rw [nI_clamp (by omega)]) ?_
  have hPc := hP.sub (ws' := [(oM, .inr (3, [.int co, .int (nI M), .ref oN, .ref oU, .int (nI z), .int th', .int en, .int md, .int po', .int pl, .int la, .int (nI d'), .long va])), (oN, .inl (cN, 1100, .inl N)), (oU, .inl (cU, 1100, .inr (.inl U)))]) [4, 5, 6] rfl
  have hDc := hD.sub (ws' := [(oM, .inr (3, [.int co, .int (nI M), .ref oN, .ref oU, .int (nI z), .int th', .int en, .int md, .int po', .int pl, .int la, .int (nI d'), .long va])), (oN, .inl (cN, 1100, .inl N)), (oU, .inl (cU, 1100, .inr (.inl U)))]) [4, 5, 6] (by decide) rfl
  have hKc := hK.sub (tys' := [(cN, .int), (cU, .long)]) [2, 3] rfl
  have hFc := va_free (wc := [(oM, .inr (3, [.int co, .int (nI M), .ref oN, .ref oU, .int (nI z), .int th', .int en, .int md, .int po', .int pl, .int la, .int (nI d'), .long va])), (oN, .inl (cN, 1100, .inl N)), (oU, .inl (cU, 1100, .inr (.inl U)))]) hD hS hA [4, 5, 6] rfl
  refine va_calli (va_runV (As := [.int (xs (1 + 4 * t + 1))]) (rest := [.int fa_1]) ⟨hx, hb, hml, hown, hts⟩ (kX2_remove l dC dI oM oN oU cN cU z d' co (nI M) th' en md po' pl la va N U (xs (1 + 4 * t + 1)) H.size hz) (cwV 1 hts gL_law_X2_remove rfl rfl rfl (by decide +kernel) ⟨Nat.le_of_ble_eq_true rfl, Nat.le_of_ble_eq_true rfl⟩) ⟨fun a U g mk q => by obtain ⟨q0, q1, qP, qK, qD⟩ := q; exact ⟨q0, q1, qP, va_K.moved (u := U) (U := U.calling g mk a) (Vm.Alike.refl U.vm) qK, qD⟩, va_recv hKc hPc (ci := 3) (q0 := 0) rfl rfl, fun U hU hW => ⟨rfl, by rw [hU], by rw [hU]; exact hPc, va_K.moved hW.alike hKc, hDc.weaken (fun _ _ _ _ => trivial)⟩⟩ rfl rfl hl.1 rfl (lv_room (Nat.le_of_ble_eq_true rfl)) dL_law_413 ⟨(show (8 + t) + 0 ≤ 601024 by omega), (show (3250 + 6 * t) + 0 ≤ 7293000 by omega)⟩) hS (fun q _ h => hFc q h) hFc (fun r_4 u9 t9 H1 locs ht9 hvm hw hB hz1 hk1 hS => ?_)
  obtain ⟨hP1, hK1, hD1⟩ := hB
  rw [ht9] at hP1
  have hK1 := va_K.moved hvm.symm hK1
  try dsimp only at hw
  obtain ⟨ga_3, gco_3, gz_3, gth_3, gen_3, gmd_3, gpo_3, gpl_3, gla_3, gd_3, gva_3, gN_3, gU_3, eg_3⟩ : ∃ (a9 : Int32) (co9 : Int32) (z9 : Nat) (th9 en9 md9 po9 pl9 la9 : Int32) (d9 : Nat) (va9 : Int64) (N9 : Nat → Int32) (U9 : Nat → Int64), gRem (xs (1 + 4 * t + 1)) (co, z, th', en, md, po', pl, la, d', va, N, U) = (a9, co9, z9, th9, en9, md9, po9, pl9, la9, d9, va9, N9, U9) := ⟨_, _, _, _, _, _, _, _, _, _, _, _, _, rfl⟩
  rw [eg_3] at hP1 hD1 hw
  have hP1 : va_P (dC, dI) vwCl [(oM, .inr (3, [.int gco_3, .int (nI M), .ref oN, .ref oU, .int (nI gz_3), .int gth_3, .int gen_3, .int gmd_3, .int gpo_3, .int gpl_3, .int gla_3, .int (nI gd_3), .long gva_3])), (oN, .inl (cN, 1100, .inl gN_3)), (oU, .inl (cU, 1100, .inr (.inl gU_3)))] H1 := hP1
  have hD1 : va_D _ [(oM, .inr (3, [.int gco_3, .int (nI M), .ref oN, .ref oU, .int (nI gz_3), .int gth_3, .int gen_3, .int gmd_3, .int gpo_3, .int gpl_3, .int gla_3, .int (nI gd_3), .long gva_3])), (oN, .inl (cN, 1100, .inl gN_3)), (oU, .inl (cU, 1100, .inr (.inl gU_3)))] := hD1
  obtain ⟨hP, hD⟩ := va_join (wr := [(oF, .inr (2, [.int (nI M), .ref oS, .int fth_1, .int fom_1, .int fsd_1, .int fpo_1, .int flr_1, .long flv_1, .int (nI fd_1)])), (oS, .inr (1, [.ref oA, .ref oB, .int (nI fh_1)])), (oA, .inl (cA, (min M 512), .inl fP_1)), (oB, .inl (cB, (min M 512), .inr (.inl fV_1))), (oO, .inl (cO, 1, .inr (.inl g)))]) (w1 := [(oM, .inr (3, [.int gco_3, .int (nI M), .ref oN, .ref oU, .int (nI gz_3), .int gth_3, .int gen_3, .int gmd_3, .int gpo_3, .int gpl_3, .int gla_3, .int (nI gd_3), .long gva_3])), (oN, .inl (cN, 1100, .inl gN_3)), (oU, .inl (cU, 1100, .inr (.inl gU_3)))]) hP hD [4, 5, 6] [0, 1, 2, 3, 7] rfl rfl (by decide) (by decide) hk1 hFc hP1 hD1
  generalize H1 = H at hP hS ⊢
  have hP : va_P (dC, dI) vwCl [(oF, .inr (2, [.int (nI M), .ref oS, .int fth_1, .int fom_1, .int fsd_1, .int fpo_1, .int flr_1, .long flv_1, .int (nI fd_1)])), (oS, .inr (1, [.ref oA, .ref oB, .int (nI fh_1)])), (oA, .inl (cA, (min M 512), .inl fP_1)), (oB, .inl (cB, (min M 512), .inr (.inl fV_1))), (oM, .inr (3, [.int gco_3, .int (nI M), .ref oN, .ref oU, .int (nI gz_3), .int gth_3, .int gen_3, .int gmd_3, .int gpo_3, .int gpl_3, .int gla_3, .int (nI gd_3), .long gva_3])), (oN, .inl (cN, 1100, .inl gN_3)), (oU, .inl (cU, 1100, .inr (.inl gU_3))), (oO, .inl (cO, 1, .inr (.inl g)))] H := hP.sub [0, 1, 2, 3, 5, 6, 7, 4] rfl
  have hD : va_D (fun q : Nat => s.heap.size ≤ q) [(oF, .inr (2, [.int (nI M), .ref oS, .int fth_1, .int fom_1, .int fsd_1, .int fpo_1, .int flr_1, .long flv_1, .int (nI fd_1)])), (oS, .inr (1, [.ref oA, .ref oB, .int (nI fh_1)])), (oA, .inl (cA, (min M 512), .inl fP_1)), (oB, .inl (cB, (min M 512), .inr (.inl fV_1))), (oM, .inr (3, [.int gco_3, .int (nI M), .ref oN, .ref oU, .int (nI gz_3), .int gth_3, .int gen_3, .int gmd_3, .int gpo_3, .int gpl_3, .int gla_3, .int (nI gd_3), .long gva_3])), (oN, .inl (cN, 1100, .inl gN_3)), (oU, .inl (cU, 1100, .inr (.inl gU_3))), (oO, .inl (cO, 1, .inr (.inl g)))] := hD.sub [0, 1, 2, 3, 5, 6, 7, 4] (by decide) rfl
  have hK : va_K (dC, dI) vwCl [(cA, .int), (cB, .long), (cN, .int), (cU, .long), (cO, .long)] s := hK
  have hw : r_4 = ga_3 := hw
  rw [hw]
  obtain ⟨S1, S2, S3⟩ := s_rem hh2 R (xs (1 + 4 * t + 1))
  rw [ef_1, eg_3] at S1 S2
  rw [ef_1] at S3
  have S1 : fa_1 = ga_3 := S1
  have S2 : Rel M (fth_1, fom_1, fsd_1, fpo_1, flr_1, flv_1, fd_1, fP_1, fV_1, fh_1) (gco_3, gz_3, gth_3, gen_3, gmd_3, gpo_3, gpl_3, gla_3, gd_3, gva_3, gN_3, gU_3) := S2
  have S3 : fh_1 ≤ h + 1 := S3
  refine lv_icmp_eq (tgt := 552) hx hb dL_law_416 (by decide) (fun c_5 => ?_) (fun c_5 => ?_)
  · -- taken at 416: fa_1 = ga_3
    refine W.widen (k := 8 + (t + 1)) (n := 3250 + 6 * (t + 1)) (by omega) (by omega) ?_
    exact cont (fth_1, fom_1, fsd_1, fpo_1, flr_1, flv_1, fd_1, fP_1, fV_1, fh_1) (gco_3, gz_3, gth_3, gen_3, gmd_3, gpo_3, gpl_3, gla_3, gd_3, gva_3, gN_3, gU_3) g ls _ _ (show fh_1 ≤ t + 1 by omega) S2 (lv_sub hl [0, 1, 2, 3, 4] rfl) hP hD hS
  · -- not taken at 416: ¬ fa_1 = ga_3
    exact absurd S1 c_5

set_option maxHeartbeats 1000000 in
set_option maxRecDepth 100000 in
theorem law_8 {p : Program} {l : Launch} {e : Env} {s : State} {m : MethodId} {below : List Frame} {meth : Method} {c : Code} {dC : Nat → ClassId} {dI : Nat → Nat → Nat} {b L : Nat} {xs : Nat → Int32} {Q : State → Prop} (hL : L ≤ 2049) (C0 : lw_At p s m meth c b L xs) {oF oS oA oB oM oN oU oO : Nat} {cA cB cN cU cO : ClassId} {M t : Nat} (hM : M ≤ 65536) (ht : 1 + 4 * t + 3 < L) {th om sd po lr : Int32} {lv : Int64} {d : Nat} {P : Nat → Int32} {V : Nat → Int64} {h : Nat} {co th' en md po' pl la : Int32} {z d' : Nat} {va : Int64} {N : Nat → Int32} {U : Nat → Int64} {g : Nat → Int64} (R : Rel M (th, om, sd, po, lr, lv, d, P, V, h) (co, z, th', en, md, po', pl, la, d', va, N, U)) (hht : h ≤ t) (hK : va_K (dC, dI) vwCl [(cA, .int), (cB, .long), (cN, .int), (cU, .long), (cO, .long)] s) (cont : ∀ (u : CSt) (w : MSt) (g : Nat → Int64) (ls : Array Slot) (H : Heap) (locs : List Loc), hOf u ≤ t + 1 → Rel M u w → lv_has ls 8 [(4, .int (nI (1 + 4 * t))), (3, .ref oO), (2, .ref oM), (1, .ref oF), (0, .ref b)] → va_P (dC, dI) vwCl (wF oF oS oA oB cA cB (min M 512) (nI M) u ++ (wM oM oN oU cN cU (nI M) w ++ [(oO, .inl (cO, 1, .inr (.inl g)))])) H → va_D (fun q : Nat => s.heap.size ≤ q) (wF oF oS oA oB cA cB (min M 512) (nI M) u ++ (wM oM oN oU cN cU (nI M) w ++ [(oO, .inl (cO, 1, .inr (.inl g)))])) → va_S (fun q : Nat => s.heap.size ≤ q) s.heap H locs → W p l e room_1 s m #[Value.ref b] below meth c H locs (8 + (t + 1)) (3250 + 6 * (t + 1)) Q (F0 m 552 ls [])) {ls : Array Slot} {H : Heap} {locs : List Loc} (hl : lv_has ls 8 [(4, .int (nI (1 + 4 * t))), (3, .ref oO), (2, .ref oM), (1, .ref oF), (0, .ref b)]) (hP : va_P (dC, dI) vwCl (wF oF oS oA oB cA cB (min M 512) (nI M) (th, om, sd, po, lr, lv, d, P, V, h) ++ (wM oM oN oU cN cU (nI M) (co, z, th', en, md, po', pl, la, d', va, N, U) ++ [(oO, .inl (cO, 1, .inr (.inl g)))])) H) (hD : va_D (fun q : Nat => s.heap.size ≤ q) (wF oF oS oA oB cA cB (min M 512) (nI M) (th, om, sd, po, lr, lv, d, P, V, h) ++ (wM oM oN oU cN cU (nI M) (co, z, th', en, md, po', pl, la, d', va, N, U) ++ [(oO, .inl (cO, 1, .inr (.inl g)))]))) (hS : va_S (fun q : Nat => s.heap.size ≤ q) s.heap H locs) : W p l e room_1 s m #[Value.ref b] below meth c H locs (8 + t) (3250 + 6 * t) Q (F0 m 421 ls []) := by
  obtain ⟨hx, hb, hr, hml, hown0, hts0, hX, hbl, hlocks, hgv⟩ := C0
  have hown : s.vm.findClass RL = some m.cls := hown0
  have hts : ∀ w ∈ wsL_law, w.before #[Value.ref b] s = true := fun w h => hts0 w (wsL_law_in w h)
  have hA : ∀ q : Nat, s.heap.size ≤ q → (fun q : Nat => s.heap.size ≤ q) q := fun _ h => h
  have hbA : ¬ (fun q : Nat => s.heap.size ≤ q) b := Nat.not_le.mpr hbl
  obtain ⟨ez, eth, emd, ela, ed, eva, hd, hlr, hRows, hPos⟩ := id R
  have hcap := hRows.cap
  have hh : h ≤ min M 512 := Nat.le_min.mpr ⟨hcap, by omega⟩
  have hn : min M 512 ≤ 512 := Nat.min_le_right _ _
  have hz : z ≤ 1100 := by omega
  have hz2 : z < 1100 := by omega
  have hh2 : h ≤ 1100 := by omega
  have hM2 : M < 2 ^ 31 := by omega
  have hd' : d' ≤ 9 := by omega
  have hP : va_P (dC, dI) vwCl [(oF, .inr (2, [.int (nI M), .ref oS, .int th, .int om, .int sd, .int po, .int lr, .long lv, .int (nI d)])), (oS, .inr (1, [.ref oA, .ref oB, .int (nI h)])), (oA, .inl (cA, (min M 512), .inl P)), (oB, .inl (cB, (min M 512), .inr (.inl V))), (oM, .inr (3, [.int co, .int (nI M), .ref oN, .ref oU, .int (nI z), .int th', .int en, .int md, .int po', .int pl, .int la, .int (nI d'), .long va])), (oN, .inl (cN, 1100, .inl N)), (oU, .inl (cU, 1100, .inr (.inl U))), (oO, .inl (cO, 1, .inr (.inl g)))] H := hP
  have hD : va_D (fun q : Nat => s.heap.size ≤ q) [(oF, .inr (2, [.int (nI M), .ref oS, .int th, .int om, .int sd, .int po, .int lr, .long lv, .int (nI d)])), (oS, .inr (1, [.ref oA, .ref oB, .int (nI h)])), (oA, .inl (cA, (min M 512), .inl P)), (oB, .inl (cB, (min M 512), .inr (.inl V))), (oM, .inr (3, [.int co, .int (nI M), .ref oN, .ref oU, .int (nI z), .int th', .int en, .int md, .int po', .int pl, .int la, .int (nI d'), .long va])), (oN, .inl (cN, 1100, .inl N)), (oU, .inl (cU, 1100, .inr (.inl U))), (oO, .inl (cO, 1, .inr (.inl g)))] := hD
  refine lv_aload_n hx hb dL_law_421 rfl (lv_at hl 3 rfl) ?_
  have hPc := hP.sub (ws' := [(oF, .inr (2, [.int (nI M), .ref oS, .int th, .int om, .int sd, .int po, .int lr, .long lv, .int (nI d)])), (oS, .inr (1, [.ref oA, .ref oB, .int (nI h)])), (oA, .inl (cA, (min M 512), .inl P)), (oB, .inl (cB, (min M 512), .inr (.inl V)))]) [0, 1, 2, 3] rfl
  have hDc := hD.sub (ws' := [(oF, .inr (2, [.int (nI M), .ref oS, .int th, .int om, .int sd, .int po, .int lr, .long lv, .int (nI d)])), (oS, .inr (1, [.ref oA, .ref oB, .int (nI h)])), (oA, .inl (cA, (min M 512), .inl P)), (oB, .inl (cB, (min M 512), .inr (.inl V)))]) [0, 1, 2, 3] (by decide) rfl
  have hKc := hK.sub (tys' := [(cA, .int), (cB, .long)]) [0, 1] rfl
  have hFc := va_free (wc := [(oF, .inr (2, [.int (nI M), .ref oS, .int th, .int om, .int sd, .int po, .int lr, .long lv, .int (nI d)])), (oS, .inr (1, [.ref oA, .ref oB, .int (nI h)])), (oA, .inl (cA, (min M 512), .inl P)), (oB, .inl (cB, (min M 512), .inr (.inl V)))]) hD hS hA [0, 1, 2, 3] rfl
  refine va_calli (va_runV (As := []) (rest := []) ⟨hx, hb, hml, hown, hts⟩ (kX1_number l dC dI oF oS oA oB cA cB (min M 512) h d (nI M) th om sd po lr lv P V  H.size hh hn) (cwV 0 hts gL_law_X1_number rfl rfl rfl (by decide +kernel) ⟨Nat.le_of_ble_eq_true rfl, Nat.le_of_ble_eq_true rfl⟩) ⟨fun a U g mk q => by obtain ⟨q0, q1, qP, qK, qD⟩ := q; exact ⟨q0, q1, qP, va_K.moved (u := U) (U := U.calling g mk a) (Vm.Alike.refl U.vm) qK, qD⟩, va_recv hKc hPc (ci := 2) (q0 := 0) rfl rfl, fun U hU hW => ⟨rfl, by rw [hU], by rw [hU]; exact hPc, va_K.moved hW.alike hKc, hDc.weaken (fun _ _ _ _ => trivial)⟩⟩ rfl rfl hl.1 rfl (lv_room (Nat.le_of_ble_eq_true rfl)) dL_law_422 ⟨(show (8 + t) + 0 ≤ 601024 by omega), (show (3250 + 6 * t) + 0 ≤ 7293000 by omega)⟩) hS (fun q _ h => hFc q h) hFc (fun r_1 u9 t9 H1 locs ht9 hvm hw hB hz1 hk1 hS => ?_)
  obtain ⟨hP1, hK1, hD1⟩ := hB
  rw [ht9] at hP1
  have hK1 := va_K.moved hvm.symm hK1
  try dsimp only at hw
  obtain ⟨hP, hD⟩ := va_join (wr := [(oM, .inr (3, [.int co, .int (nI M), .ref oN, .ref oU, .int (nI z), .int th', .int en, .int md, .int po', .int pl, .int la, .int (nI d'), .long va])), (oN, .inl (cN, 1100, .inl N)), (oU, .inl (cU, 1100, .inr (.inl U))), (oO, .inl (cO, 1, .inr (.inl g)))]) (w1 := [(oF, .inr (2, [.int (nI M), .ref oS, .int th, .int om, .int sd, .int po, .int lr, .long lv, .int (nI d)])), (oS, .inr (1, [.ref oA, .ref oB, .int (nI h)])), (oA, .inl (cA, (min M 512), .inl P)), (oB, .inl (cB, (min M 512), .inr (.inl V)))]) hP hD [0, 1, 2, 3] [4, 5, 6, 7] rfl rfl (by decide) (by decide) hk1 hFc hP1 hD1
  generalize H1 = H at hP hS ⊢
  have hP : va_P (dC, dI) vwCl [(oF, .inr (2, [.int (nI M), .ref oS, .int th, .int om, .int sd, .int po, .int lr, .long lv, .int (nI d)])), (oS, .inr (1, [.ref oA, .ref oB, .int (nI h)])), (oA, .inl (cA, (min M 512), .inl P)), (oB, .inl (cB, (min M 512), .inr (.inl V))), (oM, .inr (3, [.int co, .int (nI M), .ref oN, .ref oU, .int (nI z), .int th', .int en, .int md, .int po', .int pl, .int la, .int (nI d'), .long va])), (oN, .inl (cN, 1100, .inl N)), (oU, .inl (cU, 1100, .inr (.inl U))), (oO, .inl (cO, 1, .inr (.inl g)))] H := hP.sub [4, 5, 6, 7, 0, 1, 2, 3] rfl
  have hD : va_D (fun q : Nat => s.heap.size ≤ q) [(oF, .inr (2, [.int (nI M), .ref oS, .int th, .int om, .int sd, .int po, .int lr, .long lv, .int (nI d)])), (oS, .inr (1, [.ref oA, .ref oB, .int (nI h)])), (oA, .inl (cA, (min M 512), .inl P)), (oB, .inl (cB, (min M 512), .inr (.inl V))), (oM, .inr (3, [.int co, .int (nI M), .ref oN, .ref oU, .int (nI z), .int th', .int en, .int md, .int po', .int pl, .int la, .int (nI d'), .long va])), (oN, .inl (cN, 1100, .inl N)), (oU, .inl (cU, 1100, .inr (.inl U))), (oO, .inl (cO, 1, .inr (.inl g)))] := hD.sub [4, 5, 6, 7, 0, 1, 2, 3] (by decide) rfl
  have hK : va_K (dC, dI) vwCl [(cA, .int), (cB, .long), (cN, .int), (cU, .long), (cO, .long)] s := hK
  have hw : r_1 = lr := hw
  rw [hw]
  refine lv_aload_n hx hb dL_law_425 rfl (lv_at hl 2 rfl) ?_
  have hPc := hP.sub (ws' := [(oM, .inr (3, [.int co, .int (nI M), .ref oN, .ref oU, .int (nI z), .int th', .int en, .int md, .int po', .int pl, .int la, .int (nI d'), .long va])), (oN, .inl (cN, 1100, .inl N)), (oU, .inl (cU, 1100, .inr (.inl U)))]) [4, 5, 6] rfl
  have hDc := hD.sub (ws' := [(oM, .inr (3, [.int co, .int (nI M), .ref oN, .ref oU, .int (nI z), .int th', .int en, .int md, .int po', .int pl, .int la, .int (nI d'), .long va])), (oN, .inl (cN, 1100, .inl N)), (oU, .inl (cU, 1100, .inr (.inl U)))]) [4, 5, 6] (by decide) rfl
  have hKc := hK.sub (tys' := [(cN, .int), (cU, .long)]) [2, 3] rfl
  have hFc := va_free (wc := [(oM, .inr (3, [.int co, .int (nI M), .ref oN, .ref oU, .int (nI z), .int th', .int en, .int md, .int po', .int pl, .int la, .int (nI d'), .long va])), (oN, .inl (cN, 1100, .inl N)), (oU, .inl (cU, 1100, .inr (.inl U)))]) hD hS hA [4, 5, 6] rfl
  refine va_calli (va_runV (As := []) (rest := [.int lr]) ⟨hx, hb, hml, hown, hts⟩ (kX2_number l dC dI oM oN oU cN cU z d' co (nI M) th' en md po' pl la va N U  H.size hz) (cwV 0 hts gL_law_X2_number rfl rfl rfl (by decide +kernel) ⟨Nat.le_of_ble_eq_true rfl, Nat.le_of_ble_eq_true rfl⟩) ⟨fun a U g mk q => by obtain ⟨q0, q1, qP, qK, qD⟩ := q; exact ⟨q0, q1, qP, va_K.moved (u := U) (U := U.calling g mk a) (Vm.Alike.refl U.vm) qK, qD⟩, va_recv hKc hPc (ci := 3) (q0 := 0) rfl rfl, fun U hU hW => ⟨rfl, by rw [hU], by rw [hU]; exact hPc, va_K.moved hW.alike hKc, hDc.weaken (fun _ _ _ _ => trivial)⟩⟩ rfl rfl hl.1 rfl (lv_room (Nat.le_of_ble_eq_true rfl)) dL_law_426 ⟨(show (8 + t) + 0 ≤ 601024 by omega), (show (3250 + 6 * t) + 0 ≤ 7293000 by omega)⟩) hS (fun q _ h => hFc q h) hFc (fun r_2 u9 t9 H1 locs ht9 hvm hw hB hz1 hk1 hS => ?_)
  obtain ⟨hP1, hK1, hD1⟩ := hB
  rw [ht9] at hP1
  have hK1 := va_K.moved hvm.symm hK1
  try dsimp only at hw
  obtain ⟨hP, hD⟩ := va_join (wr := [(oF, .inr (2, [.int (nI M), .ref oS, .int th, .int om, .int sd, .int po, .int lr, .long lv, .int (nI d)])), (oS, .inr (1, [.ref oA, .ref oB, .int (nI h)])), (oA, .inl (cA, (min M 512), .inl P)), (oB, .inl (cB, (min M 512), .inr (.inl V))), (oO, .inl (cO, 1, .inr (.inl g)))]) (w1 := [(oM, .inr (3, [.int 0, .int (nI M), .ref oN, .ref oU, .int (nI z), .int th', .int en, .int md, .int po', .int pl, .int la, .int (nI d'), .long va])), (oN, .inl (cN, 1100, .inl N)), (oU, .inl (cU, 1100, .inr (.inl U)))]) hP hD [4, 5, 6] [0, 1, 2, 3, 7] rfl rfl (by decide) (by decide) hk1 hFc hP1 hD1
  generalize H1 = H at hP hS ⊢
  have hP : va_P (dC, dI) vwCl [(oF, .inr (2, [.int (nI M), .ref oS, .int th, .int om, .int sd, .int po, .int lr, .long lv, .int (nI d)])), (oS, .inr (1, [.ref oA, .ref oB, .int (nI h)])), (oA, .inl (cA, (min M 512), .inl P)), (oB, .inl (cB, (min M 512), .inr (.inl V))), (oM, .inr (3, [.int 0, .int (nI M), .ref oN, .ref oU, .int (nI z), .int th', .int en, .int md, .int po', .int pl, .int la, .int (nI d'), .long va])), (oN, .inl (cN, 1100, .inl N)), (oU, .inl (cU, 1100, .inr (.inl U))), (oO, .inl (cO, 1, .inr (.inl g)))] H := hP.sub [0, 1, 2, 3, 5, 6, 7, 4] rfl
  have hD : va_D (fun q : Nat => s.heap.size ≤ q) [(oF, .inr (2, [.int (nI M), .ref oS, .int th, .int om, .int sd, .int po, .int lr, .long lv, .int (nI d)])), (oS, .inr (1, [.ref oA, .ref oB, .int (nI h)])), (oA, .inl (cA, (min M 512), .inl P)), (oB, .inl (cB, (min M 512), .inr (.inl V))), (oM, .inr (3, [.int 0, .int (nI M), .ref oN, .ref oU, .int (nI z), .int th', .int en, .int md, .int po', .int pl, .int la, .int (nI d'), .long va])), (oN, .inl (cN, 1100, .inl N)), (oU, .inl (cU, 1100, .inr (.inl U))), (oO, .inl (cO, 1, .inr (.inl g)))] := hD.sub [0, 1, 2, 3, 5, 6, 7, 4] (by decide) rfl
  have hK : va_K (dC, dI) vwCl [(cA, .int), (cB, .long), (cN, .int), (cU, .long), (cO, .long)] s := hK
  have hw : r_2 = la := hw
  rw [hw]
  refine lv_icmp_eq (tgt := 552) hx hb dL_law_429 (by decide) (fun c_3 => ?_) (fun c_3 => ?_)
  · -- taken at 429: lr = la
    refine W.widen (k := 8 + (t + 1)) (n := 3250 + 6 * (t + 1)) (by omega) (by omega) ?_
    exact cont (th, om, sd, po, lr, lv, d, P, V, h) (0, z, th', en, md, po', pl, la, d', va, N, U) g ls _ _ (show h ≤ t + 1 by omega) R.code (lv_sub hl [0, 1, 2, 3, 4] rfl) hP hD hS
  · -- not taken at 429: ¬ lr = la
    exact absurd ela.symm c_3

set_option maxHeartbeats 1000000 in
set_option maxRecDepth 100000 in
theorem law_10 {p : Program} {l : Launch} {e : Env} {s : State} {m : MethodId} {below : List Frame} {meth : Method} {c : Code} {dC : Nat → ClassId} {dI : Nat → Nat → Nat} {b L : Nat} {xs : Nat → Int32} {Q : State → Prop} (hL : L ≤ 2049) (C0 : lw_At p s m meth c b L xs) {oF oS oA oB oM oN oU oO : Nat} {cA cB cN cU cO : ClassId} {M t : Nat} (hM : M ≤ 65536) (ht : 1 + 4 * t + 3 < L) {th om sd po lr : Int32} {lv : Int64} {d : Nat} {P : Nat → Int32} {V : Nat → Int64} {h : Nat} {co th' en md po' pl la : Int32} {z d' : Nat} {va : Int64} {N : Nat → Int32} {U : Nat → Int64} {g : Nat → Int64} (R : Rel M (th, om, sd, po, lr, lv, d, P, V, h) (co, z, th', en, md, po', pl, la, d', va, N, U)) (hht : h ≤ t) (hK : va_K (dC, dI) vwCl [(cA, .int), (cB, .long), (cN, .int), (cU, .long), (cO, .long)] s) (cont : ∀ (u : CSt) (w : MSt) (g : Nat → Int64) (ls : Array Slot) (H : Heap) (locs : List Loc), hOf u ≤ t + 1 → Rel M u w → lv_has ls 8 [(4, .int (nI (1 + 4 * t))), (3, .ref oO), (2, .ref oM), (1, .ref oF), (0, .ref b)] → va_P (dC, dI) vwCl (wF oF oS oA oB cA cB (min M 512) (nI M) u ++ (wM oM oN oU cN cU (nI M) w ++ [(oO, .inl (cO, 1, .inr (.inl g)))])) H → va_D (fun q : Nat => s.heap.size ≤ q) (wF oF oS oA oB cA cB (min M 512) (nI M) u ++ (wM oM oN oU cN cU (nI M) w ++ [(oO, .inl (cO, 1, .inr (.inl g)))])) → va_S (fun q : Nat => s.heap.size ≤ q) s.heap H locs → W p l e room_1 s m #[Value.ref b] below meth c H locs (8 + (t + 1)) (3250 + 6 * (t + 1)) Q (F0 m 552 ls [])) {ls : Array Slot} {H : Heap} {locs : List Loc} (hl : lv_has ls 8 [(4, .int (nI (1 + 4 * t))), (3, .ref oO), (2, .ref oM), (1, .ref oF), (0, .ref b)]) (hP : va_P (dC, dI) vwCl (wF oF oS oA oB cA cB (min M 512) (nI M) (th, om, sd, po, lr, lv, d, P, V, h) ++ (wM oM oN oU cN cU (nI M) (co, z, th', en, md, po', pl, la, d', va, N, U) ++ [(oO, .inl (cO, 1, .inr (.inl g)))])) H) (hD : va_D (fun q : Nat => s.heap.size ≤ q) (wF oF oS oA oB cA cB (min M 512) (nI M) (th, om, sd, po, lr, lv, d, P, V, h) ++ (wM oM oN oU cN cU (nI M) (co, z, th', en, md, po', pl, la, d', va, N, U) ++ [(oO, .inl (cO, 1, .inr (.inl g)))]))) (hS : va_S (fun q : Nat => s.heap.size ≤ q) s.heap H locs) : W p l e room_1 s m #[Value.ref b] below meth c H locs (8 + t) (3250 + 6 * t) Q (F0 m 489 ls []) := by
  obtain ⟨hx, hb, hr, hml, hown0, hts0, hX, hbl, hlocks, hgv⟩ := C0
  have hown : s.vm.findClass RL = some m.cls := hown0
  have hts : ∀ w ∈ wsL_law, w.before #[Value.ref b] s = true := fun w h => hts0 w (wsL_law_in w h)
  have hA : ∀ q : Nat, s.heap.size ≤ q → (fun q : Nat => s.heap.size ≤ q) q := fun _ h => h
  have hbA : ¬ (fun q : Nat => s.heap.size ≤ q) b := Nat.not_le.mpr hbl
  obtain ⟨ez, eth, emd, ela, ed, eva, hd, hlr, hRows, hPos⟩ := id R
  have hcap := hRows.cap
  have hh : h ≤ min M 512 := Nat.le_min.mpr ⟨hcap, by omega⟩
  have hn : min M 512 ≤ 512 := Nat.min_le_right _ _
  have hz : z ≤ 1100 := by omega
  have hz2 : z < 1100 := by omega
  have hh2 : h ≤ 1100 := by omega
  have hM2 : M < 2 ^ 31 := by omega
  have hd' : d' ≤ 9 := by omega
  have hP : va_P (dC, dI) vwCl [(oF, .inr (2, [.int (nI M), .ref oS, .int th, .int om, .int sd, .int po, .int lr, .long lv, .int (nI d)])), (oS, .inr (1, [.ref oA, .ref oB, .int (nI h)])), (oA, .inl (cA, (min M 512), .inl P)), (oB, .inl (cB, (min M 512), .inr (.inl V))), (oM, .inr (3, [.int co, .int (nI M), .ref oN, .ref oU, .int (nI z), .int th', .int en, .int md, .int po', .int pl, .int la, .int (nI d'), .long va])), (oN, .inl (cN, 1100, .inl N)), (oU, .inl (cU, 1100, .inr (.inl U))), (oO, .inl (cO, 1, .inr (.inl g)))] H := hP
  have hD : va_D (fun q : Nat => s.heap.size ≤ q) [(oF, .inr (2, [.int (nI M), .ref oS, .int th, .int om, .int sd, .int po, .int lr, .long lv, .int (nI d)])), (oS, .inr (1, [.ref oA, .ref oB, .int (nI h)])), (oA, .inl (cA, (min M 512), .inl P)), (oB, .inl (cB, (min M 512), .inr (.inl V))), (oM, .inr (3, [.int co, .int (nI M), .ref oN, .ref oU, .int (nI z), .int th', .int en, .int md, .int po', .int pl, .int la, .int (nI d'), .long va])), (oN, .inl (cN, 1100, .inl N)), (oU, .inl (cU, 1100, .inr (.inl U))), (oO, .inl (cO, 1, .inr (.inl g)))] := hD
  refine lv_aload_n hx hb dL_law_489 rfl (lv_at hl 3 rfl) ?_
  have hPc := hP.sub (ws' := [(oF, .inr (2, [.int (nI M), .ref oS, .int th, .int om, .int sd, .int po, .int lr, .long lv, .int (nI d)])), (oS, .inr (1, [.ref oA, .ref oB, .int (nI h)])), (oA, .inl (cA, (min M 512), .inl P)), (oB, .inl (cB, (min M 512), .inr (.inl V)))]) [0, 1, 2, 3] rfl
  have hDc := hD.sub (ws' := [(oF, .inr (2, [.int (nI M), .ref oS, .int th, .int om, .int sd, .int po, .int lr, .long lv, .int (nI d)])), (oS, .inr (1, [.ref oA, .ref oB, .int (nI h)])), (oA, .inl (cA, (min M 512), .inl P)), (oB, .inl (cB, (min M 512), .inr (.inl V)))]) [0, 1, 2, 3] (by decide) rfl
  have hKc := hK.sub (tys' := [(cA, .int), (cB, .long)]) [0, 1] rfl
  have hFc := va_free (wc := [(oF, .inr (2, [.int (nI M), .ref oS, .int th, .int om, .int sd, .int po, .int lr, .long lv, .int (nI d)])), (oS, .inr (1, [.ref oA, .ref oB, .int (nI h)])), (oA, .inl (cA, (min M 512), .inl P)), (oB, .inl (cB, (min M 512), .inr (.inl V)))]) hD hS hA [0, 1, 2, 3] rfl
  refine va_calli (va_runV (As := []) (rest := []) ⟨hx, hb, hml, hown, hts⟩ (kX1_records l dC dI oF oS oA oB cA cB (min M 512) h d (nI M) th om sd po lr lv P V  H.size hh hn) (cwV 0 hts gL_law_X1_records rfl rfl rfl (by decide +kernel) ⟨Nat.le_of_ble_eq_true rfl, Nat.le_of_ble_eq_true rfl⟩) ⟨fun a U g mk q => by obtain ⟨q0, q1, qP, qK, qD⟩ := q; exact ⟨q0, q1, qP, va_K.moved (u := U) (U := U.calling g mk a) (Vm.Alike.refl U.vm) qK, qD⟩, va_recv hKc hPc (ci := 2) (q0 := 0) rfl rfl, fun U hU hW => ⟨rfl, by rw [hU], by rw [hU]; exact hPc, va_K.moved hW.alike hKc, hDc.weaken (fun _ _ _ _ => trivial)⟩⟩ rfl rfl hl.1 rfl (lv_room (Nat.le_of_ble_eq_true rfl)) dL_law_490 ⟨(show (8 + t) + 0 ≤ 601024 by omega), (show (3250 + 6 * t) + 0 ≤ 7293000 by omega)⟩) hS (fun q _ h => hFc q h) hFc (fun r_1 u9 t9 H1 locs ht9 hvm hw hB hz1 hk1 hS => ?_)
  obtain ⟨hP1, hK1, hD1⟩ := hB
  rw [ht9] at hP1
  have hK1 := va_K.moved hvm.symm hK1
  try dsimp only at hw
  obtain ⟨hP, hD⟩ := va_join (wr := [(oM, .inr (3, [.int co, .int (nI M), .ref oN, .ref oU, .int (nI z), .int th', .int en, .int md, .int po', .int pl, .int la, .int (nI d'), .long va])), (oN, .inl (cN, 1100, .inl N)), (oU, .inl (cU, 1100, .inr (.inl U))), (oO, .inl (cO, 1, .inr (.inl g)))]) (w1 := [(oF, .inr (2, [.int (nI M), .ref oS, .int th, .int om, .int sd, .int po, .int lr, .long lv, .int (nI d)])), (oS, .inr (1, [.ref oA, .ref oB, .int (nI h)])), (oA, .inl (cA, (min M 512), .inl P)), (oB, .inl (cB, (min M 512), .inr (.inl V)))]) hP hD [0, 1, 2, 3] [4, 5, 6, 7] rfl rfl (by decide) (by decide) hk1 hFc hP1 hD1
  generalize H1 = H at hP hS ⊢
  have hP : va_P (dC, dI) vwCl [(oF, .inr (2, [.int (nI M), .ref oS, .int th, .int om, .int sd, .int po, .int lr, .long lv, .int (nI d)])), (oS, .inr (1, [.ref oA, .ref oB, .int (nI h)])), (oA, .inl (cA, (min M 512), .inl P)), (oB, .inl (cB, (min M 512), .inr (.inl V))), (oM, .inr (3, [.int co, .int (nI M), .ref oN, .ref oU, .int (nI z), .int th', .int en, .int md, .int po', .int pl, .int la, .int (nI d'), .long va])), (oN, .inl (cN, 1100, .inl N)), (oU, .inl (cU, 1100, .inr (.inl U))), (oO, .inl (cO, 1, .inr (.inl g)))] H := hP.sub [4, 5, 6, 7, 0, 1, 2, 3] rfl
  have hD : va_D (fun q : Nat => s.heap.size ≤ q) [(oF, .inr (2, [.int (nI M), .ref oS, .int th, .int om, .int sd, .int po, .int lr, .long lv, .int (nI d)])), (oS, .inr (1, [.ref oA, .ref oB, .int (nI h)])), (oA, .inl (cA, (min M 512), .inl P)), (oB, .inl (cB, (min M 512), .inr (.inl V))), (oM, .inr (3, [.int co, .int (nI M), .ref oN, .ref oU, .int (nI z), .int th', .int en, .int md, .int po', .int pl, .int la, .int (nI d'), .long va])), (oN, .inl (cN, 1100, .inl N)), (oU, .inl (cU, 1100, .inr (.inl U))), (oO, .inl (cO, 1, .inr (.inl g)))] := hD.sub [4, 5, 6, 7, 0, 1, 2, 3] (by decide) rfl
  have hK : va_K (dC, dI) vwCl [(cA, .int), (cB, .long), (cN, .int), (cU, .long), (cO, .long)] s := hK
  have hw : r_1 = nI h := hw
  rw [hw]
  refine lv_aload_n hx hb dL_law_493 rfl (lv_at hl 2 rfl) ?_
  have hPc := hP.sub (ws' := [(oM, .inr (3, [.int co, .int (nI M), .ref oN, .ref oU, .int (nI z), .int th', .int en, .int md, .int po', .int pl, .int la, .int (nI d'), .long va])), (oN, .inl (cN, 1100, .inl N)), (oU, .inl (cU, 1100, .inr (.inl U)))]) [4, 5, 6] rfl
  have hDc := hD.sub (ws' := [(oM, .inr (3, [.int co, .int (nI M), .ref oN, .ref oU, .int (nI z), .int th', .int en, .int md, .int po', .int pl, .int la, .int (nI d'), .long va])), (oN, .inl (cN, 1100, .inl N)), (oU, .inl (cU, 1100, .inr (.inl U)))]) [4, 5, 6] (by decide) rfl
  have hKc := hK.sub (tys' := [(cN, .int), (cU, .long)]) [2, 3] rfl
  have hFc := va_free (wc := [(oM, .inr (3, [.int co, .int (nI M), .ref oN, .ref oU, .int (nI z), .int th', .int en, .int md, .int po', .int pl, .int la, .int (nI d'), .long va])), (oN, .inl (cN, 1100, .inl N)), (oU, .inl (cU, 1100, .inr (.inl U)))]) hD hS hA [4, 5, 6] rfl
  refine va_calli (va_runV (As := []) (rest := [.int (nI h)]) ⟨hx, hb, hml, hown, hts⟩ (kX2_records l dC dI oM oN oU cN cU z d' co (nI M) th' en md po' pl la va N U  H.size hz) (cwV 0 hts gL_law_X2_records rfl rfl rfl (by decide +kernel) ⟨Nat.le_of_ble_eq_true rfl, Nat.le_of_ble_eq_true rfl⟩) ⟨fun a U g mk q => by obtain ⟨q0, q1, qP, qK, qD⟩ := q; exact ⟨q0, q1, qP, va_K.moved (u := U) (U := U.calling g mk a) (Vm.Alike.refl U.vm) qK, qD⟩, va_recv hKc hPc (ci := 3) (q0 := 0) rfl rfl, fun U hU hW => ⟨rfl, by rw [hU], by rw [hU]; exact hPc, va_K.moved hW.alike hKc, hDc.weaken (fun _ _ _ _ => trivial)⟩⟩ rfl rfl hl.1 rfl (lv_room (Nat.le_of_ble_eq_true rfl)) dL_law_494 ⟨(show (8 + t) + 0 ≤ 601024 by omega), (show (3250 + 6 * t) + 0 ≤ 7293000 by omega)⟩) hS (fun q _ h => hFc q h) hFc (fun r_2 u9 t9 H1 locs ht9 hvm hw hB hz1 hk1 hS => ?_)
  obtain ⟨hP1, hK1, hD1⟩ := hB
  rw [ht9] at hP1
  have hK1 := va_K.moved hvm.symm hK1
  try dsimp only at hw
  obtain ⟨hP, hD⟩ := va_join (wr := [(oF, .inr (2, [.int (nI M), .ref oS, .int th, .int om, .int sd, .int po, .int lr, .long lv, .int (nI d)])), (oS, .inr (1, [.ref oA, .ref oB, .int (nI h)])), (oA, .inl (cA, (min M 512), .inl P)), (oB, .inl (cB, (min M 512), .inr (.inl V))), (oO, .inl (cO, 1, .inr (.inl g)))]) (w1 := [(oM, .inr (3, [.int 0, .int (nI M), .ref oN, .ref oU, .int (nI z), .int th', .int en, .int md, .int po', .int pl, .int la, .int (nI d'), .long va])), (oN, .inl (cN, 1100, .inl N)), (oU, .inl (cU, 1100, .inr (.inl U)))]) hP hD [4, 5, 6] [0, 1, 2, 3, 7] rfl rfl (by decide) (by decide) hk1 hFc hP1 hD1
  generalize H1 = H at hP hS ⊢
  have hP : va_P (dC, dI) vwCl [(oF, .inr (2, [.int (nI M), .ref oS, .int th, .int om, .int sd, .int po, .int lr, .long lv, .int (nI d)])), (oS, .inr (1, [.ref oA, .ref oB, .int (nI h)])), (oA, .inl (cA, (min M 512), .inl P)), (oB, .inl (cB, (min M 512), .inr (.inl V))), (oM, .inr (3, [.int 0, .int (nI M), .ref oN, .ref oU, .int (nI z), .int th', .int en, .int md, .int po', .int pl, .int la, .int (nI d'), .long va])), (oN, .inl (cN, 1100, .inl N)), (oU, .inl (cU, 1100, .inr (.inl U))), (oO, .inl (cO, 1, .inr (.inl g)))] H := hP.sub [0, 1, 2, 3, 5, 6, 7, 4] rfl
  have hD : va_D (fun q : Nat => s.heap.size ≤ q) [(oF, .inr (2, [.int (nI M), .ref oS, .int th, .int om, .int sd, .int po, .int lr, .long lv, .int (nI d)])), (oS, .inr (1, [.ref oA, .ref oB, .int (nI h)])), (oA, .inl (cA, (min M 512), .inl P)), (oB, .inl (cB, (min M 512), .inr (.inl V))), (oM, .inr (3, [.int 0, .int (nI M), .ref oN, .ref oU, .int (nI z), .int th', .int en, .int md, .int po', .int pl, .int la, .int (nI d'), .long va])), (oN, .inl (cN, 1100, .inl N)), (oU, .inl (cU, 1100, .inr (.inl U))), (oO, .inl (cO, 1, .inr (.inl g)))] := hD.sub [0, 1, 2, 3, 5, 6, 7, 4] (by decide) rfl
  have hK : va_K (dC, dI) vwCl [(cA, .int), (cB, .long), (cN, .int), (cU, .long), (cO, .long)] s := hK
  have hw : r_2 = nI z := hw
  rw [hw]
  refine lv_icmp_eq (tgt := 552) hx hb dL_law_497 (by decide) (fun c_3 => ?_) (fun c_3 => ?_)
  · -- taken at 497: (nI h) = (nI z)
    refine W.widen (k := 8 + (t + 1)) (n := 3250 + 6 * (t + 1)) (by omega) (by omega) ?_
    exact cont (th, om, sd, po, lr, lv, d, P, V, h) (0, z, th', en, md, po', pl, la, d', va, N, U) g ls _ _ (show h ≤ t + 1 by omega) R.code (lv_sub hl [0, 1, 2, 3, 4] rfl) hP hD hS
  · -- not taken at 497: ¬ (nI h) = (nI z)
    exact absurd (congrArg nI ez.symm) c_3

set_option maxHeartbeats 1000000 in
set_option maxRecDepth 100000 in
theorem law_11 {p : Program} {l : Launch} {e : Env} {s : State} {m : MethodId} {below : List Frame} {meth : Method} {c : Code} {dC : Nat → ClassId} {dI : Nat → Nat → Nat} {b L : Nat} {xs : Nat → Int32} {Q : State → Prop} (hL : L ≤ 2049) (C0 : lw_At p s m meth c b L xs) {oF oS oA oB oM oN oU oO : Nat} {cA cB cN cU cO : ClassId} {M t : Nat} (hM : M ≤ 65536) (ht : 1 + 4 * t + 3 < L) {th om sd po lr : Int32} {lv : Int64} {d : Nat} {P : Nat → Int32} {V : Nat → Int64} {h : Nat} {co th' en md po' pl la : Int32} {z d' : Nat} {va : Int64} {N : Nat → Int32} {U : Nat → Int64} {g : Nat → Int64} (R : Rel M (th, om, sd, po, lr, lv, d, P, V, h) (co, z, th', en, md, po', pl, la, d', va, N, U)) (hht : h ≤ t) (hK : va_K (dC, dI) vwCl [(cA, .int), (cB, .long), (cN, .int), (cU, .long), (cO, .long)] s) (cont : ∀ (u : CSt) (w : MSt) (g : Nat → Int64) (ls : Array Slot) (H : Heap) (locs : List Loc), hOf u ≤ t + 1 → Rel M u w → lv_has ls 8 [(4, .int (nI (1 + 4 * t))), (3, .ref oO), (2, .ref oM), (1, .ref oF), (0, .ref b)] → va_P (dC, dI) vwCl (wF oF oS oA oB cA cB (min M 512) (nI M) u ++ (wM oM oN oU cN cU (nI M) w ++ [(oO, .inl (cO, 1, .inr (.inl g)))])) H → va_D (fun q : Nat => s.heap.size ≤ q) (wF oF oS oA oB cA cB (min M 512) (nI M) u ++ (wM oM oN oU cN cU (nI M) w ++ [(oO, .inl (cO, 1, .inr (.inl g)))])) → va_S (fun q : Nat => s.heap.size ≤ q) s.heap H locs → W p l e room_1 s m #[Value.ref b] below meth c H locs (8 + (t + 1)) (3250 + 6 * (t + 1)) Q (F0 m 552 ls [])) {ls : Array Slot} {H : Heap} {locs : List Loc} (hl : lv_has ls 8 [(4, .int (nI (1 + 4 * t))), (3, .ref oO), (2, .ref oM), (1, .ref oF), (0, .ref b)]) (hP : va_P (dC, dI) vwCl (wF oF oS oA oB cA cB (min M 512) (nI M) (th, om, sd, po, lr, lv, d, P, V, h) ++ (wM oM oN oU cN cU (nI M) (co, z, th', en, md, po', pl, la, d', va, N, U) ++ [(oO, .inl (cO, 1, .inr (.inl g)))])) H) (hD : va_D (fun q : Nat => s.heap.size ≤ q) (wF oF oS oA oB cA cB (min M 512) (nI M) (th, om, sd, po, lr, lv, d, P, V, h) ++ (wM oM oN oU cN cU (nI M) (co, z, th', en, md, po', pl, la, d', va, N, U) ++ [(oO, .inl (cO, 1, .inr (.inl g)))]))) (hS : va_S (fun q : Nat => s.heap.size ≤ q) s.heap H locs) : W p l e room_1 s m #[Value.ref b] below meth c H locs (8 + t) (3250 + 6 * t) Q (F0 m 502 ls []) := by
  obtain ⟨hx, hb, hr, hml, hown0, hts0, hX, hbl, hlocks, hgv⟩ := C0
  have hown : s.vm.findClass RL = some m.cls := hown0
  have hts : ∀ w ∈ wsL_law, w.before #[Value.ref b] s = true := fun w h => hts0 w (wsL_law_in w h)
  have hA : ∀ q : Nat, s.heap.size ≤ q → (fun q : Nat => s.heap.size ≤ q) q := fun _ h => h
  have hbA : ¬ (fun q : Nat => s.heap.size ≤ q) b := Nat.not_le.mpr hbl
  obtain ⟨ez, eth, emd, ela, ed, eva, hd, hlr, hRows, hPos⟩ := id R
  have hcap := hRows.cap
  have hh : h ≤ min M 512 := Nat.le_min.mpr ⟨hcap, by omega⟩
  have hn : min M 512 ≤ 512 := Nat.min_le_right _ _
  have hz : z ≤ 1100 := by omega
  have hz2 : z < 1100 := by omega
  have hh2 : h ≤ 1100 := by omega
  have hM2 : M < 2 ^ 31 := by omega
  have hd' : d' ≤ 9 := by omega
  have hP : va_P (dC, dI) vwCl [(oF, .inr (2, [.int (nI M), .ref oS, .int th, .int om, .int sd, .int po, .int lr, .long lv, .int (nI d)])), (oS, .inr (1, [.ref oA, .ref oB, .int (nI h)])), (oA, .inl (cA, (min M 512), .inl P)), (oB, .inl (cB, (min M 512), .inr (.inl V))), (oM, .inr (3, [.int co, .int (nI M), .ref oN, .ref oU, .int (nI z), .int th', .int en, .int md, .int po', .int pl, .int la, .int (nI d'), .long va])), (oN, .inl (cN, 1100, .inl N)), (oU, .inl (cU, 1100, .inr (.inl U))), (oO, .inl (cO, 1, .inr (.inl g)))] H := hP
  have hD : va_D (fun q : Nat => s.heap.size ≤ q) [(oF, .inr (2, [.int (nI M), .ref oS, .int th, .int om, .int sd, .int po, .int lr, .long lv, .int (nI d)])), (oS, .inr (1, [.ref oA, .ref oB, .int (nI h)])), (oA, .inl (cA, (min M 512), .inl P)), (oB, .inl (cB, (min M 512), .inr (.inl V))), (oM, .inr (3, [.int co, .int (nI M), .ref oN, .ref oU, .int (nI z), .int th', .int en, .int md, .int po', .int pl, .int la, .int (nI d'), .long va])), (oN, .inl (cN, 1100, .inl N)), (oU, .inl (cU, 1100, .inr (.inl U))), (oO, .inl (cO, 1, .inr (.inl g)))] := hD
  refine lv_aload_n hx hb dL_law_502 rfl (lv_at hl 3 rfl) ?_
  refine lv_aload_n hx hb dL_law_503 rfl (lv_at hl 4 rfl) ?_
  refine lv_iload hx hb dL_law_504 (lv_at hl 0 rfl) ?_
  refine lv_iconst (v := 1) hx hb dL_law_506 (by decide) ?_
  refine lv_iadd hx hb dL_law_507 ?_
  rw [show (nI (1 + 4 * t)) + 1 = nI (1 + 4 * t + 1) from nI_add (1 + 4 * t) 1]
  refine va_sld hx hb hX hbl hbA hS (vp_in_nI (by omega) (by omega)) dL_law_508 ?_
  refine W_topi (xs (1 + 4 * t + 1)) (by rw [nI_clamp (by omega)]) ?_
  have hPc := hP.sub (ws' := [(oF, .inr (2, [.int (nI M), .ref oS, .int th, .int om, .int sd, .int po, .int lr, .long lv, .int (nI d)])), (oS, .inr (1, [.ref oA, .ref oB, .int (nI h)])), (oA, .inl (cA, (min M 512), .inl P)), (oB, .inl (cB, (min M 512), .inr (.inl V)))]) [0, 1, 2, 3] rfl
  have hDc := hD.sub (ws' := [(oF, .inr (2, [.int (nI M), .ref oS, .int th, .int om, .int sd, .int po, .int lr, .long lv, .int (nI d)])), (oS, .inr (1, [.ref oA, .ref oB, .int (nI h)])), (oA, .inl (cA, (min M 512), .inl P)), (oB, .inl (cB, (min M 512), .inr (.inl V)))]) [0, 1, 2, 3] (by decide) rfl
  have hKc := hK.sub (tys' := [(cA, .int), (cB, .long)]) [0, 1] rfl
  have hFc := va_free (wc := [(oF, .inr (2, [.int (nI M), .ref oS, .int th, .int om, .int sd, .int po, .int lr, .long lv, .int (nI d)])), (oS, .inr (1, [.ref oA, .ref oB, .int (nI h)])), (oA, .inl (cA, (min M 512), .inl P)), (oB, .inl (cB, (min M 512), .inr (.inl V)))]) hD hS hA [0, 1, 2, 3] rfl
  refine va_calli (va_runV (As := [.int (xs (1 + 4 * t + 1))]) (rest := []) ⟨hx, hb, hml, hown, hts⟩ (kX1_digits l dC dI oF oS oA oB cA cB (min M 512) h d (nI M) th om sd po lr lv P V (xs (1 + 4 * t + 1)) H.size hh hn) (cwV 1 hts gL_law_X1_digits rfl rfl rfl (by decide +kernel) ⟨Nat.le_of_ble_eq_true rfl, Nat.le_of_ble_eq_true rfl⟩) ⟨fun a U g mk q => by obtain ⟨q0, q1, qP, qK, qD⟩ := q; exact ⟨q0, q1, qP, va_K.moved (u := U) (U := U.calling g mk a) (Vm.Alike.refl U.vm) qK, qD⟩, va_recv hKc hPc (ci := 2) (q0 := 0) rfl rfl, fun U hU hW => ⟨rfl, by rw [hU], by rw [hU]; exact hPc, va_K.moved hW.alike hKc, hDc.weaken (fun _ _ _ _ => trivial)⟩⟩ rfl rfl hl.1 rfl (lv_room (Nat.le_of_ble_eq_true rfl)) dL_law_509 ⟨(show (8 + t) + 0 ≤ 601024 by omega), (show (3250 + 6 * t) + 0 ≤ 7293000 by omega)⟩) hS (fun q _ h => hFc q h) hFc (fun r_2 u9 t9 H1 locs ht9 hvm hw hB hz1 hk1 hS => ?_)
  obtain ⟨hP1, hK1, hD1⟩ := hB
  rw [ht9] at hP1
  have hK1 := va_K.moved hvm.symm hK1
  try dsimp only at hw
  obtain ⟨fa_1, fth_1, fom_1, fsd_1, fpo_1, flr_1, flv_1, fd_1, fP_1, fV_1, fh_1, ef_1⟩ : ∃ (a9 : Int32) (th9 om9 sd9 po9 lr9 : Int32) (lv9 : Int64) (d9 : Nat) (P9 : Nat → Int32) (V9 : Nat → Int64) (h9 : Nat), fDig (xs (1 + 4 * t + 1)) (th, om, sd, po, lr, lv, d, P, V, h) = (a9, th9, om9, sd9, po9, lr9, lv9, d9, P9, V9, h9) := ⟨_, _, _, _, _, _, _, _, _, _, _, rfl⟩
  rw [ef_1] at hP1 hD1 hw
  have hP1 : va_P (dC, dI) vwCl [(oF, .inr (2, [.int (nI M), .ref oS, .int fth_1, .int fom_1, .int fsd_1, .int fpo_1, .int flr_1, .long flv_1, .int (nI fd_1)])), (oS, .inr (1, [.ref oA, .ref oB, .int (nI fh_1)])), (oA, .inl (cA, (min M 512), .inl fP_1)), (oB, .inl (cB, (min M 512), .inr (.inl fV_1)))] H1 := hP1
  have hD1 : va_D _ [(oF, .inr (2, [.int (nI M), .ref oS, .int fth_1, .int fom_1, .int fsd_1, .int fpo_1, .int flr_1, .long flv_1, .int (nI fd_1)])), (oS, .inr (1, [.ref oA, .ref oB, .int (nI fh_1)])), (oA, .inl (cA, (min M 512), .inl fP_1)), (oB, .inl (cB, (min M 512), .inr (.inl fV_1)))] := hD1
  obtain ⟨hP, hD⟩ := va_join (wr := [(oM, .inr (3, [.int co, .int (nI M), .ref oN, .ref oU, .int (nI z), .int th', .int en, .int md, .int po', .int pl, .int la, .int (nI d'), .long va])), (oN, .inl (cN, 1100, .inl N)), (oU, .inl (cU, 1100, .inr (.inl U))), (oO, .inl (cO, 1, .inr (.inl g)))]) (w1 := [(oF, .inr (2, [.int (nI M), .ref oS, .int fth_1, .int fom_1, .int fsd_1, .int fpo_1, .int flr_1, .long flv_1, .int (nI fd_1)])), (oS, .inr (1, [.ref oA, .ref oB, .int (nI fh_1)])), (oA, .inl (cA, (min M 512), .inl fP_1)), (oB, .inl (cB, (min M 512), .inr (.inl fV_1)))]) hP hD [0, 1, 2, 3] [4, 5, 6, 7] rfl rfl (by decide) (by decide) hk1 hFc hP1 hD1
  generalize H1 = H at hP hS ⊢
  have hP : va_P (dC, dI) vwCl [(oF, .inr (2, [.int (nI M), .ref oS, .int fth_1, .int fom_1, .int fsd_1, .int fpo_1, .int flr_1, .long flv_1, .int (nI fd_1)])), (oS, .inr (1, [.ref oA, .ref oB, .int (nI fh_1)])), (oA, .inl (cA, (min M 512), .inl fP_1)), (oB, .inl (cB, (min M 512), .inr (.inl fV_1))), (oM, .inr (3, [.int co, .int (nI M), .ref oN, .ref oU, .int (nI z), .int th', .int en, .int md, .int po', .int pl, .int la, .int (nI d'), .long va])), (oN, .inl (cN, 1100, .inl N)), (oU, .inl (cU, 1100, .inr (.inl U))), (oO, .inl (cO, 1, .inr (.inl g)))] H := hP.sub [4, 5, 6, 7, 0, 1, 2, 3] rfl
  have hD : va_D (fun q : Nat => s.heap.size ≤ q) [(oF, .inr (2, [.int (nI M), .ref oS, .int fth_1, .int fom_1, .int fsd_1, .int fpo_1, .int flr_1, .long flv_1, .int (nI fd_1)])), (oS, .inr (1, [.ref oA, .ref oB, .int (nI fh_1)])), (oA, .inl (cA, (min M 512), .inl fP_1)), (oB, .inl (cB, (min M 512), .inr (.inl fV_1))), (oM, .inr (3, [.int co, .int (nI M), .ref oN, .ref oU, .int (nI z), .int th', .int en, .int md, .int po', .int pl, .int la, .int (nI d'), .long va])), (oN, .inl (cN, 1100, .inl N)), (oU, .inl (cU, 1100, .inr (.inl U))), (oO, .inl (cO, 1, .inr (.inl g)))] := hD.sub [4, 5, 6, 7, 0, 1, 2, 3] (by decide) rfl
  have hK : va_K (dC, dI) vwCl [(cA, .int), (cB, .long), (cN, .int), (cU, .long), (cO, .long)] s := hK
  have hw : r_2 = fa_1 := hw
  rw [hw]
  refine lv_aload_n hx hb dL_law_512 rfl (lv_at hl 2 rfl) ?_
  refine lv_aload_n hx hb dL_law_513 rfl (lv_at hl 4 rfl) ?_
  refine lv_iload hx hb dL_law_514 (lv_at hl 0 rfl) ?_
  refine lv_iconst (v := 1) hx hb dL_law_516 (by decide) ?_
  refine lv_iadd hx hb dL_law_517 ?_
  rw [show (nI (1 + 4 * t)) + 1 = nI (1 + 4 * t + 1) from nI_add (1 + 4 * t) 1]
  refine va_sld hx hb hX hbl hbA hS (vp_in_nI (by omega) (by omega)) dL_law_518 ?_
  refine W_topi (xs (1 + 4 * t + 1)) (by rw [nI_clamp (by omega)]) ?_
  have hPc := hP.sub (ws' := [(oM, .inr (3, [.int co, .int (nI M), .ref oN, .ref oU, .int (nI z), .int th', .int en, .int md, .int po', .int pl, .int la, .int (nI d'), .long va])), (oN, .inl (cN, 1100, .inl N)), (oU, .inl (cU, 1100, .inr (.inl U)))]) [4, 5, 6] rfl
  have hDc := hD.sub (ws' := [(oM, .inr (3, [.int co, .int (nI M), .ref oN, .ref oU, .int (nI z), .int th', .int en, .int md, .int po', .int pl, .int la, .int (nI d'), .long va])), (oN, .inl (cN, 1100, .inl N)), (oU, .inl (cU, 1100, .inr (.inl U)))]) [4, 5, 6] (by decide) rfl
  have hKc := hK.sub (tys' := [(cN, .int), (cU, .long)]) [2, 3] rfl
  have hFc := va_free (wc := [(oM, .inr (3, [.int co, .int (nI M), .ref oN, .ref oU, .int (nI z), .int th', .int en, .int md, .int po', .int pl, .int la, .int (nI d'), .long va])), (oN, .inl (cN, 1100, .inl N)), (oU, .inl (cU, 1100, .inr (.inl U)))]) hD hS hA [4, 5, 6] rfl
  refine va_calli (va_runV (As := [.int (xs (1 + 4 * t + 1))]) (rest := [.int fa_1]) ⟨hx, hb, hml, hown, hts⟩ (kX2_digits l dC dI oM oN oU cN cU z d' co (nI M) th' en md po' pl la va N U (xs (1 + 4 * t + 1)) H.size hz) (cwV 1 hts gL_law_X2_digits rfl rfl rfl (by decide +kernel) ⟨Nat.le_of_ble_eq_true rfl, Nat.le_of_ble_eq_true rfl⟩) ⟨fun a U g mk q => by obtain ⟨q0, q1, qP, qK, qD⟩ := q; exact ⟨q0, q1, qP, va_K.moved (u := U) (U := U.calling g mk a) (Vm.Alike.refl U.vm) qK, qD⟩, va_recv hKc hPc (ci := 3) (q0 := 0) rfl rfl, fun U hU hW => ⟨rfl, by rw [hU], by rw [hU]; exact hPc, va_K.moved hW.alike hKc, hDc.weaken (fun _ _ _ _ => trivial)⟩⟩ rfl rfl hl.1 rfl (lv_room (Nat.le_of_ble_eq_true rfl)) dL_law_519 ⟨(show (8 + t) + 0 ≤ 601024 by omega), (show (3250 + 6 * t) + 0 ≤ 7293000 by omega)⟩) hS (fun q _ h => hFc q h) hFc (fun r_4 u9 t9 H1 locs ht9 hvm hw hB hz1 hk1 hS => ?_)
  obtain ⟨hP1, hK1, hD1⟩ := hB
  rw [ht9] at hP1
  have hK1 := va_K.moved hvm.symm hK1
  try dsimp only at hw
  obtain ⟨ga_3, gco_3, gz_3, gth_3, gen_3, gmd_3, gpo_3, gpl_3, gla_3, gd_3, gva_3, gN_3, gU_3, eg_3⟩ : ∃ (a9 : Int32) (co9 : Int32) (z9 : Nat) (th9 en9 md9 po9 pl9 la9 : Int32) (d9 : Nat) (va9 : Int64) (N9 : Nat → Int32) (U9 : Nat → Int64), gDig (xs (1 + 4 * t + 1)) (co, z, th', en, md, po', pl, la, d', va, N, U) = (a9, co9, z9, th9, en9, md9, po9, pl9, la9, d9, va9, N9, U9) := ⟨_, _, _, _, _, _, _, _, _, _, _, _, _, rfl⟩
  rw [eg_3] at hP1 hD1 hw
  have hP1 : va_P (dC, dI) vwCl [(oM, .inr (3, [.int gco_3, .int (nI M), .ref oN, .ref oU, .int (nI gz_3), .int gth_3, .int gen_3, .int gmd_3, .int gpo_3, .int gpl_3, .int gla_3, .int (nI gd_3), .long gva_3])), (oN, .inl (cN, 1100, .inl gN_3)), (oU, .inl (cU, 1100, .inr (.inl gU_3)))] H1 := hP1
  have hD1 : va_D _ [(oM, .inr (3, [.int gco_3, .int (nI M), .ref oN, .ref oU, .int (nI gz_3), .int gth_3, .int gen_3, .int gmd_3, .int gpo_3, .int gpl_3, .int gla_3, .int (nI gd_3), .long gva_3])), (oN, .inl (cN, 1100, .inl gN_3)), (oU, .inl (cU, 1100, .inr (.inl gU_3)))] := hD1
  obtain ⟨hP, hD⟩ := va_join (wr := [(oF, .inr (2, [.int (nI M), .ref oS, .int fth_1, .int fom_1, .int fsd_1, .int fpo_1, .int flr_1, .long flv_1, .int (nI fd_1)])), (oS, .inr (1, [.ref oA, .ref oB, .int (nI fh_1)])), (oA, .inl (cA, (min M 512), .inl fP_1)), (oB, .inl (cB, (min M 512), .inr (.inl fV_1))), (oO, .inl (cO, 1, .inr (.inl g)))]) (w1 := [(oM, .inr (3, [.int gco_3, .int (nI M), .ref oN, .ref oU, .int (nI gz_3), .int gth_3, .int gen_3, .int gmd_3, .int gpo_3, .int gpl_3, .int gla_3, .int (nI gd_3), .long gva_3])), (oN, .inl (cN, 1100, .inl gN_3)), (oU, .inl (cU, 1100, .inr (.inl gU_3)))]) hP hD [4, 5, 6] [0, 1, 2, 3, 7] rfl rfl (by decide) (by decide) hk1 hFc hP1 hD1
  generalize H1 = H at hP hS ⊢
  have hP : va_P (dC, dI) vwCl [(oF, .inr (2, [.int (nI M), .ref oS, .int fth_1, .int fom_1, .int fsd_1, .int fpo_1, .int flr_1, .long flv_1, .int (nI fd_1)])), (oS, .inr (1, [.ref oA, .ref oB, .int (nI fh_1)])), (oA, .inl (cA, (min M 512), .inl fP_1)), (oB, .inl (cB, (min M 512), .inr (.inl fV_1))), (oM, .inr (3, [.int gco_3, .int (nI M), .ref oN, .ref oU, .int (nI gz_3), .int gth_3, .int gen_3, .int gmd_3, .int gpo_3, .int gpl_3, .int gla_3, .int (nI gd_3), .long gva_3])), (oN, .inl (cN, 1100, .inl gN_3)), (oU, .inl (cU, 1100, .inr (.inl gU_3))), (oO, .inl (cO, 1, .inr (.inl g)))] H := hP.sub [0, 1, 2, 3, 5, 6, 7, 4] rfl
  have hD : va_D (fun q : Nat => s.heap.size ≤ q) [(oF, .inr (2, [.int (nI M), .ref oS, .int fth_1, .int fom_1, .int fsd_1, .int fpo_1, .int flr_1, .long flv_1, .int (nI fd_1)])), (oS, .inr (1, [.ref oA, .ref oB, .int (nI fh_1)])), (oA, .inl (cA, (min M 512), .inl fP_1)), (oB, .inl (cB, (min M 512), .inr (.inl fV_1))), (oM, .inr (3, [.int gco_3, .int (nI M), .ref oN, .ref oU, .int (nI gz_3), .int gth_3, .int gen_3, .int gmd_3, .int gpo_3, .int gpl_3, .int gla_3, .int (nI gd_3), .long gva_3])), (oN, .inl (cN, 1100, .inl gN_3)), (oU, .inl (cU, 1100, .inr (.inl gU_3))), (oO, .inl (cO, 1, .inr (.inl g)))] := hD.sub [0, 1, 2, 3, 5, 6, 7, 4] (by decide) rfl
  have hK : va_K (dC, dI) vwCl [(cA, .int), (cB, .long), (cN, .int), (cU, .long), (cO, .long)] s := hK
  have hw : r_4 = ga_3 := hw
  rw [hw]
  obtain ⟨S1, S2, S3⟩ := s_dig R (xs (1 + 4 * t + 1))
  rw [ef_1, eg_3] at S1 S2
  rw [ef_1] at S3
  have S1 : fa_1 = ga_3 := S1
  have S2 : Rel M (fth_1, fom_1, fsd_1, fpo_1, flr_1, flv_1, fd_1, fP_1, fV_1, fh_1) (gco_3, gz_3, gth_3, gen_3, gmd_3, gpo_3, gpl_3, gla_3, gd_3, gva_3, gN_3, gU_3) := S2
  have S3 : fh_1 ≤ h + 1 := S3
  refine lv_icmp_eq (tgt := 552) hx hb dL_law_522 (by decide) (fun c_5 => ?_) (fun c_5 => ?_)
  · -- taken at 522: fa_1 = ga_3
    refine W.widen (k := 8 + (t + 1)) (n := 3250 + 6 * (t + 1)) (by omega) (by omega) ?_
    exact cont (fth_1, fom_1, fsd_1, fpo_1, flr_1, flv_1, fd_1, fP_1, fV_1, fh_1) (gco_3, gz_3, gth_3, gen_3, gmd_3, gpo_3, gpl_3, gla_3, gd_3, gva_3, gN_3, gU_3) g ls _ _ (show fh_1 ≤ t + 1 by omega) S2 (lv_sub hl [0, 1, 2, 3, 4] rfl) hP hD hS
  · -- not taken at 522: ¬ fa_1 = ga_3
    exact absurd S1 c_5

set_option maxHeartbeats 1000000 in
set_option maxRecDepth 100000 in
theorem law_12 {p : Program} {l : Launch} {e : Env} {s : State} {m : MethodId} {below : List Frame} {meth : Method} {c : Code} {dC : Nat → ClassId} {dI : Nat → Nat → Nat} {b L : Nat} {xs : Nat → Int32} {Q : State → Prop} (hL : L ≤ 2049) (C0 : lw_At p s m meth c b L xs) {oF oS oA oB oM oN oU oO : Nat} {cA cB cN cU cO : ClassId} {M t : Nat} (hM : M ≤ 65536) (ht : 1 + 4 * t + 3 < L) {th om sd po lr : Int32} {lv : Int64} {d : Nat} {P : Nat → Int32} {V : Nat → Int64} {h : Nat} {co th' en md po' pl la : Int32} {z d' : Nat} {va : Int64} {N : Nat → Int32} {U : Nat → Int64} {g : Nat → Int64} (R : Rel M (th, om, sd, po, lr, lv, d, P, V, h) (co, z, th', en, md, po', pl, la, d', va, N, U)) (hht : h ≤ t) (hK : va_K (dC, dI) vwCl [(cA, .int), (cB, .long), (cN, .int), (cU, .long), (cO, .long)] s) (cont : ∀ (u : CSt) (w : MSt) (g : Nat → Int64) (ls : Array Slot) (H : Heap) (locs : List Loc), hOf u ≤ t + 1 → Rel M u w → lv_has ls 8 [(4, .int (nI (1 + 4 * t))), (3, .ref oO), (2, .ref oM), (1, .ref oF), (0, .ref b)] → va_P (dC, dI) vwCl (wF oF oS oA oB cA cB (min M 512) (nI M) u ++ (wM oM oN oU cN cU (nI M) w ++ [(oO, .inl (cO, 1, .inr (.inl g)))])) H → va_D (fun q : Nat => s.heap.size ≤ q) (wF oF oS oA oB cA cB (min M 512) (nI M) u ++ (wM oM oN oU cN cU (nI M) w ++ [(oO, .inl (cO, 1, .inr (.inl g)))])) → va_S (fun q : Nat => s.heap.size ≤ q) s.heap H locs → W p l e room_1 s m #[Value.ref b] below meth c H locs (8 + (t + 1)) (3250 + 6 * (t + 1)) Q (F0 m 552 ls [])) {ls : Array Slot} {H : Heap} {locs : List Loc} (hl : lv_has ls 8 [(4, .int (nI (1 + 4 * t))), (3, .ref oO), (2, .ref oM), (1, .ref oF), (0, .ref b)]) (hP : va_P (dC, dI) vwCl (wF oF oS oA oB cA cB (min M 512) (nI M) (th, om, sd, po, lr, lv, d, P, V, h) ++ (wM oM oN oU cN cU (nI M) (co, z, th', en, md, po', pl, la, d', va, N, U) ++ [(oO, .inl (cO, 1, .inr (.inl g)))])) H) (hD : va_D (fun q : Nat => s.heap.size ≤ q) (wF oF oS oA oB cA cB (min M 512) (nI M) (th, om, sd, po, lr, lv, d, P, V, h) ++ (wM oM oN oU cN cU (nI M) (co, z, th', en, md, po', pl, la, d', va, N, U) ++ [(oO, .inl (cO, 1, .inr (.inl g)))]))) (hS : va_S (fun q : Nat => s.heap.size ≤ q) s.heap H locs) : W p l e room_1 s m #[Value.ref b] below meth c H locs (8 + t) (3250 + 6 * t) Q (F0 m 527 ls []) := by
  obtain ⟨hx, hb, hr, hml, hown0, hts0, hX, hbl, hlocks, hgv⟩ := C0
  have hown : s.vm.findClass RL = some m.cls := hown0
  have hts : ∀ w ∈ wsL_law, w.before #[Value.ref b] s = true := fun w h => hts0 w (wsL_law_in w h)
  have hA : ∀ q : Nat, s.heap.size ≤ q → (fun q : Nat => s.heap.size ≤ q) q := fun _ h => h
  have hbA : ¬ (fun q : Nat => s.heap.size ≤ q) b := Nat.not_le.mpr hbl
  obtain ⟨ez, eth, emd, ela, ed, eva, hd, hlr, hRows, hPos⟩ := id R
  have hcap := hRows.cap
  have hh : h ≤ min M 512 := Nat.le_min.mpr ⟨hcap, by omega⟩
  have hn : min M 512 ≤ 512 := Nat.min_le_right _ _
  have hz : z ≤ 1100 := by omega
  have hz2 : z < 1100 := by omega
  have hh2 : h ≤ 1100 := by omega
  have hM2 : M < 2 ^ 31 := by omega
  have hd' : d' ≤ 9 := by omega
  have hP : va_P (dC, dI) vwCl [(oF, .inr (2, [.int (nI M), .ref oS, .int th, .int om, .int sd, .int po, .int lr, .long lv, .int (nI d)])), (oS, .inr (1, [.ref oA, .ref oB, .int (nI h)])), (oA, .inl (cA, (min M 512), .inl P)), (oB, .inl (cB, (min M 512), .inr (.inl V))), (oM, .inr (3, [.int co, .int (nI M), .ref oN, .ref oU, .int (nI z), .int th', .int en, .int md, .int po', .int pl, .int la, .int (nI d'), .long va])), (oN, .inl (cN, 1100, .inl N)), (oU, .inl (cU, 1100, .inr (.inl U))), (oO, .inl (cO, 1, .inr (.inl g)))] H := hP
  have hD : va_D (fun q : Nat => s.heap.size ≤ q) [(oF, .inr (2, [.int (nI M), .ref oS, .int th, .int om, .int sd, .int po, .int lr, .long lv, .int (nI d)])), (oS, .inr (1, [.ref oA, .ref oB, .int (nI h)])), (oA, .inl (cA, (min M 512), .inl P)), (oB, .inl (cB, (min M 512), .inr (.inl V))), (oM, .inr (3, [.int co, .int (nI M), .ref oN, .ref oU, .int (nI z), .int th', .int en, .int md, .int po', .int pl, .int la, .int (nI d'), .long va])), (oN, .inl (cN, 1100, .inl N)), (oU, .inl (cU, 1100, .inr (.inl U))), (oO, .inl (cO, 1, .inr (.inl g)))] := hD
  refine lv_aload_n hx hb dL_law_527 rfl (lv_at hl 3 rfl) ?_
  refine lv_aload_n hx hb dL_law_528 rfl (lv_at hl 4 rfl) ?_
  refine lv_iload hx hb dL_law_529 (lv_at hl 0 rfl) ?_
  refine lv_iconst (v := 1) hx hb dL_law_531 (by decide) ?_
  refine lv_iadd hx hb dL_law_532 ?_
  rw [show (nI (1 + 4 * t)) + 1 = nI (1 + 4 * t + 1) from nI_add (1 + 4 * t) 1]
  refine va_sld hx hb hX hbl hbA hS (vp_in_nI (by omega) (by omega)) dL_law_533 ?_
  refine W_topi (xs (1 + 4 * t + 1)) (by rw [nI_clamp (by omega)]) ?_
  have hPc := hP.sub (ws' := [(oF, .inr (2, [.int (nI M), .ref oS, .int th, .int om, .int sd, .int po, .int lr, .long lv, .int (nI d)])), (oS, .inr (1, [.ref oA, .ref oB, .int (nI h)])), (oA, .inl (cA, (min M 512), .inl P)), (oB, .inl (cB, (min M 512), .inr (.inl V)))]) [0, 1, 2, 3] rfl
  have hDc := hD.sub (ws' := [(oF, .inr (2, [.int (nI M), .ref oS, .int th, .int om, .int sd, .int po, .int lr, .long lv, .int (nI d)])), (oS, .inr (1, [.ref oA, .ref oB, .int (nI h)])), (oA, .inl (cA, (min M 512), .inl P)), (oB, .inl (cB, (min M 512), .inr (.inl V)))]) [0, 1, 2, 3] (by decide) rfl
  have hKc := hK.sub (tys' := [(cA, .int), (cB, .long)]) [0, 1] rfl
  have hFc := va_free (wc := [(oF, .inr (2, [.int (nI M), .ref oS, .int th, .int om, .int sd, .int po, .int lr, .long lv, .int (nI d)])), (oS, .inr (1, [.ref oA, .ref oB, .int (nI h)])), (oA, .inl (cA, (min M 512), .inl P)), (oB, .inl (cB, (min M 512), .inr (.inl V)))]) hD hS hA [0, 1, 2, 3] rfl
  refine va_calli (va_runV (As := [.int (xs (1 + 4 * t + 1))]) (rest := []) ⟨hx, hb, hml, hown, hts⟩ (kX1_count l dC dI oF oS oA oB cA cB (min M 512) h d (nI M) th om sd po lr lv P V (xs (1 + 4 * t + 1)) H.size hh hn) (cwV 1 hts gL_law_X1_count rfl rfl rfl (by decide +kernel) ⟨Nat.le_of_ble_eq_true rfl, Nat.le_of_ble_eq_true rfl⟩) ⟨fun a U g mk q => by obtain ⟨q0, q1, qP, qK, qD⟩ := q; exact ⟨q0, q1, qP, va_K.moved (u := U) (U := U.calling g mk a) (Vm.Alike.refl U.vm) qK, qD⟩, va_recv hKc hPc (ci := 2) (q0 := 0) rfl rfl, fun U hU hW => ⟨rfl, by rw [hU], by rw [hU]; exact hPc, va_K.moved hW.alike hKc, hDc.weaken (fun _ _ _ _ => trivial)⟩⟩ rfl rfl hl.1 rfl (lv_room (Nat.le_of_ble_eq_true rfl)) dL_law_534 ⟨(show (8 + t) + 0 ≤ 601024 by omega), (show (3250 + 6 * t) + 0 ≤ 7293000 by omega)⟩) hS (fun q _ h => hFc q h) hFc (fun r_1 u9 t9 H1 locs ht9 hvm hw hB hz1 hk1 hS => ?_)
  obtain ⟨hP1, hK1, hD1⟩ := hB
  rw [ht9] at hP1
  have hK1 := va_K.moved hvm.symm hK1
  try dsimp only at hw
  obtain ⟨hP, hD⟩ := va_join (wr := [(oM, .inr (3, [.int co, .int (nI M), .ref oN, .ref oU, .int (nI z), .int th', .int en, .int md, .int po', .int pl, .int la, .int (nI d'), .long va])), (oN, .inl (cN, 1100, .inl N)), (oU, .inl (cU, 1100, .inr (.inl U))), (oO, .inl (cO, 1, .inr (.inl g)))]) (w1 := [(oF, .inr (2, [.int (nI M), .ref oS, .int th, .int om, .int sd, .int po, .int lr, .long lv, .int (nI d)])), (oS, .inr (1, [.ref oA, .ref oB, .int (nI h)])), (oA, .inl (cA, (min M 512), .inl P)), (oB, .inl (cB, (min M 512), .inr (.inl V)))]) hP hD [0, 1, 2, 3] [4, 5, 6, 7] rfl rfl (by decide) (by decide) hk1 hFc hP1 hD1
  generalize H1 = H at hP hS ⊢
  have hP : va_P (dC, dI) vwCl [(oF, .inr (2, [.int (nI M), .ref oS, .int th, .int om, .int sd, .int po, .int lr, .long lv, .int (nI d)])), (oS, .inr (1, [.ref oA, .ref oB, .int (nI h)])), (oA, .inl (cA, (min M 512), .inl P)), (oB, .inl (cB, (min M 512), .inr (.inl V))), (oM, .inr (3, [.int co, .int (nI M), .ref oN, .ref oU, .int (nI z), .int th', .int en, .int md, .int po', .int pl, .int la, .int (nI d'), .long va])), (oN, .inl (cN, 1100, .inl N)), (oU, .inl (cU, 1100, .inr (.inl U))), (oO, .inl (cO, 1, .inr (.inl g)))] H := hP.sub [4, 5, 6, 7, 0, 1, 2, 3] rfl
  have hD : va_D (fun q : Nat => s.heap.size ≤ q) [(oF, .inr (2, [.int (nI M), .ref oS, .int th, .int om, .int sd, .int po, .int lr, .long lv, .int (nI d)])), (oS, .inr (1, [.ref oA, .ref oB, .int (nI h)])), (oA, .inl (cA, (min M 512), .inl P)), (oB, .inl (cB, (min M 512), .inr (.inl V))), (oM, .inr (3, [.int co, .int (nI M), .ref oN, .ref oU, .int (nI z), .int th', .int en, .int md, .int po', .int pl, .int la, .int (nI d'), .long va])), (oN, .inl (cN, 1100, .inl N)), (oU, .inl (cU, 1100, .inr (.inl U))), (oO, .inl (cO, 1, .inr (.inl g)))] := hD.sub [4, 5, 6, 7, 0, 1, 2, 3] (by decide) rfl
  have hK : va_K (dC, dI) vwCl [(cA, .int), (cB, .long), (cN, .int), (cU, .long), (cO, .long)] s := hK
  have hw : r_1 = fCount (nI M) (xs (1 + 4 * t + 1)) (th, om, sd, po, lr, lv, d, P, V, h) := hw
  rw [hw]
  refine lv_aload_n hx hb dL_law_537 rfl (lv_at hl 2 rfl) ?_
  refine lv_aload_n hx hb dL_law_538 rfl (lv_at hl 4 rfl) ?_
  refine lv_iload hx hb dL_law_539 (lv_at hl 0 rfl) ?_
  refine lv_iconst (v := 1) hx hb dL_law_541 (by decide) ?_
  refine lv_iadd hx hb dL_law_542 ?_
  rw [show (nI (1 + 4 * t)) + 1 = nI (1 + 4 * t + 1) from nI_add (1 + 4 * t) 1]
  refine va_sld hx hb hX hbl hbA hS (vp_in_nI (by omega) (by omega)) dL_law_543 ?_
  refine W_topi (xs (1 + 4 * t + 1)) (by rw [nI_clamp (by omega)]) ?_
  have hPc := hP.sub (ws' := [(oM, .inr (3, [.int co, .int (nI M), .ref oN, .ref oU, .int (nI z), .int th', .int en, .int md, .int po', .int pl, .int la, .int (nI d'), .long va])), (oN, .inl (cN, 1100, .inl N)), (oU, .inl (cU, 1100, .inr (.inl U)))]) [4, 5, 6] rfl
  have hDc := hD.sub (ws' := [(oM, .inr (3, [.int co, .int (nI M), .ref oN, .ref oU, .int (nI z), .int th', .int en, .int md, .int po', .int pl, .int la, .int (nI d'), .long va])), (oN, .inl (cN, 1100, .inl N)), (oU, .inl (cU, 1100, .inr (.inl U)))]) [4, 5, 6] (by decide) rfl
  have hKc := hK.sub (tys' := [(cN, .int), (cU, .long)]) [2, 3] rfl
  have hFc := va_free (wc := [(oM, .inr (3, [.int co, .int (nI M), .ref oN, .ref oU, .int (nI z), .int th', .int en, .int md, .int po', .int pl, .int la, .int (nI d'), .long va])), (oN, .inl (cN, 1100, .inl N)), (oU, .inl (cU, 1100, .inr (.inl U)))]) hD hS hA [4, 5, 6] rfl
  refine va_calli (va_runV (As := [.int (xs (1 + 4 * t + 1))]) (rest := [.int (fCount (nI M) (xs (1 + 4 * t + 1)) (th, om, sd, po, lr, lv, d, P, V, h))]) ⟨hx, hb, hml, hown, hts⟩ (kX2_count l dC dI oM oN oU cN cU z d' co (nI M) th' en md po' pl la va N U (xs (1 + 4 * t + 1)) H.size hz) (cwV 1 hts gL_law_X2_count rfl rfl rfl (by decide +kernel) ⟨Nat.le_of_ble_eq_true rfl, Nat.le_of_ble_eq_true rfl⟩) ⟨fun a U g mk q => by obtain ⟨q0, q1, qP, qK, qD⟩ := q; exact ⟨q0, q1, qP, va_K.moved (u := U) (U := U.calling g mk a) (Vm.Alike.refl U.vm) qK, qD⟩, va_recv hKc hPc (ci := 3) (q0 := 0) rfl rfl, fun U hU hW => ⟨rfl, by rw [hU], by rw [hU]; exact hPc, va_K.moved hW.alike hKc, hDc.weaken (fun _ _ _ _ => trivial)⟩⟩ rfl rfl hl.1 rfl (lv_room (Nat.le_of_ble_eq_true rfl)) dL_law_544 ⟨(show (8 + t) + 0 ≤ 601024 by omega), (show (3250 + 6 * t) + 0 ≤ 7293000 by omega)⟩) hS (fun q _ h => hFc q h) hFc (fun r_2 u9 t9 H1 locs ht9 hvm hw hB hz1 hk1 hS => ?_)
  obtain ⟨hP1, hK1, hD1⟩ := hB
  rw [ht9] at hP1
  have hK1 := va_K.moved hvm.symm hK1
  try dsimp only at hw
  obtain ⟨hP, hD⟩ := va_join (wr := [(oF, .inr (2, [.int (nI M), .ref oS, .int th, .int om, .int sd, .int po, .int lr, .long lv, .int (nI d)])), (oS, .inr (1, [.ref oA, .ref oB, .int (nI h)])), (oA, .inl (cA, (min M 512), .inl P)), (oB, .inl (cB, (min M 512), .inr (.inl V))), (oO, .inl (cO, 1, .inr (.inl g)))]) (w1 := [(oM, .inr (3, [.int 0, .int (nI M), .ref oN, .ref oU, .int (nI z), .int th', .int en, .int md, .int po', .int pl, .int la, .int (nI d'), .long va])), (oN, .inl (cN, 1100, .inl N)), (oU, .inl (cU, 1100, .inr (.inl U)))]) hP hD [4, 5, 6] [0, 1, 2, 3, 7] rfl rfl (by decide) (by decide) hk1 hFc hP1 hD1
  generalize H1 = H at hP hS ⊢
  have hP : va_P (dC, dI) vwCl [(oF, .inr (2, [.int (nI M), .ref oS, .int th, .int om, .int sd, .int po, .int lr, .long lv, .int (nI d)])), (oS, .inr (1, [.ref oA, .ref oB, .int (nI h)])), (oA, .inl (cA, (min M 512), .inl P)), (oB, .inl (cB, (min M 512), .inr (.inl V))), (oM, .inr (3, [.int 0, .int (nI M), .ref oN, .ref oU, .int (nI z), .int th', .int en, .int md, .int po', .int pl, .int la, .int (nI d'), .long va])), (oN, .inl (cN, 1100, .inl N)), (oU, .inl (cU, 1100, .inr (.inl U))), (oO, .inl (cO, 1, .inr (.inl g)))] H := hP.sub [0, 1, 2, 3, 5, 6, 7, 4] rfl
  have hD : va_D (fun q : Nat => s.heap.size ≤ q) [(oF, .inr (2, [.int (nI M), .ref oS, .int th, .int om, .int sd, .int po, .int lr, .long lv, .int (nI d)])), (oS, .inr (1, [.ref oA, .ref oB, .int (nI h)])), (oA, .inl (cA, (min M 512), .inl P)), (oB, .inl (cB, (min M 512), .inr (.inl V))), (oM, .inr (3, [.int 0, .int (nI M), .ref oN, .ref oU, .int (nI z), .int th', .int en, .int md, .int po', .int pl, .int la, .int (nI d'), .long va])), (oN, .inl (cN, 1100, .inl N)), (oU, .inl (cU, 1100, .inr (.inl U))), (oO, .inl (cO, 1, .inr (.inl g)))] := hD.sub [0, 1, 2, 3, 5, 6, 7, 4] (by decide) rfl
  have hK : va_K (dC, dI) vwCl [(cA, .int), (cB, .long), (cN, .int), (cU, .long), (cO, .long)] s := hK
  have hw : r_2 = gCount (nI M) (xs (1 + 4 * t + 1)) (co, z, th', en, md, po', pl, la, d', va, N, U) := hw
  rw [hw]
  refine lv_icmp_eq (tgt := 552) hx hb dL_law_547 (by decide) (fun c_3 => ?_) (fun c_3 => ?_)
  · -- taken at 547: (fCount (nI M) (xs (1 + 4 * t + 1)) (th, om, sd, po, lr, lv, d, P, V, h)) = (gCount (nI M) (xs (1 + 4 * t + 1)) (co, z, th', en, md, po', pl, la, d', va, N, U))
    refine W.widen (k := 8 + (t + 1)) (n := 3250 + 6 * (t + 1)) (by omega) (by omega) ?_
    exact cont (th, om, sd, po, lr, lv, d, P, V, h) (0, z, th', en, md, po', pl, la, d', va, N, U) g ls _ _ (show h ≤ t + 1 by omega) R.code (lv_sub hl [0, 1, 2, 3, 4] rfl) hP hD hS
  · -- not taken at 547: ¬ (fCount (nI M) (xs (1 + 4 * t + 1)) (th, om, sd, po, lr, lv, d, P, V, h)) = (gCount (nI M) (xs (1 + 4 * t + 1)) (co, z, th', en, md, po', pl, la, d', va, N, U))
    exact absurd (s_count hM2 R _) c_3
