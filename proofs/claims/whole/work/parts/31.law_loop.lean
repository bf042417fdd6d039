set_option maxHeartbeats 1000000 in
set_option maxRecDepth 100000 in
theorem law_loop {p : Program} {l : Launch} {e : Env} {s : State} {m : MethodId} {below : List Frame} {meth : Method} {c : Code} {dC : Nat → ClassId} {dI : Nat → Nat → Nat} {b L : Nat} {xs : Nat → Int32} (hl9 : l.stackTraces = false) (hL : L ≤ 2049) (C0 : lw_At p s m meth c b L xs) (hok : zt_OK (fun q : Nat => s.heap.size ≤ q) zW2 s) {sa : Nat} (hstr : vk_R RX1 115 "no such place" sa s) {oF oS oA oB oM oN oU oO : Nat} {cA cB cN cU cO : ClassId} {M : Nat} (hM : M ≤ 65536) (hK : va_K (dC, dI) vwCl [(cA, .int), (cB, .long), (cN, .int), (cU, .long), (cO, .long)] s) :
    ∀ (k t : Nat) (u : CSt) (w : MSt) (g : Nat → Int64) (ls : Array Slot) (H : Heap) (locs : List Loc), L + 1 ≤ t + k → 4 * t ≤ L + 3 → hOf u ≤ t → Rel M u w → lv_has ls 8 [(4, .int (nI (1 + 4 * t))), (3, .ref oO), (2, .ref oM), (1, .ref oF), (0, .ref b)] → va_P (dC, dI) vwCl (wF oF oS oA oB cA cB (min M 512) (nI M) u ++ (wM oM oN oU cN cU (nI M) w ++ [(oO, .inl (cO, 1, .inr (.inl g)))])) H → va_D (fun q : Nat => s.heap.size ≤ q) (wF oF oS oA oB cA cB (min M 512) (nI M) u ++ (wM oM oN oU cN cU (nI M) w ++ [(oO, .inl (cO, 1, .inr (.inl g)))])) → va_S (fun q : Nat => s.heap.size ≤ q) s.heap H locs → W p l e room_1 s m #[Value.ref b] below meth c H locs (8 + t) (3250 + 6 * t) (lw_Z below #[Value.ref b] s) (F0 m 33 ls []) := by
  intro k
  induction k with
  | zero => intro t u w g ls H locs h1 h2; exact absurd h1 (by omega)
  | succ k ih =>
    intro t u w g ls H locs hk hb4 hu R hl hP hD hS
    obtain ⟨hx, hb, hr, hml, hown0, hts0, hX, hbl, hlocks, hgv⟩ := id C0
    have hbA : ¬ (fun q : Nat => s.heap.size ≤ q) b := Nat.not_le.mpr hbl
    refine lv_iload hx hb dL_law_33 (lv_at hl 0 rfl) ?_
    refine lv_aload_n hx hb dL_law_35 rfl (lv_at hl 4 rfl) ?_
    refine va_slen hx hb hX hbl hbA hS dL_law_36 ?_
    refine lv_iconst (v := 4) hx hb dL_law_37 (by decide) ?_
    refine lv_isub hx hb dL_law_38 ?_
    refine lv_icmp_gt (tgt := 558) hx hb dL_law_39 (by decide) (fun c_1 => ?_) (fun c_1 => ?_)
    · refine lv_iconst (v := 1) hx hb dL_law_558 (by decide) ?_
      refine va_forget (fun q hq => hS.2.2 q hq) ?_
      refine W.widen (k := 601024) (n := 7293000) (by omega) (by omega) ?_
      exact lw_ret hx hb hr hlocks dL_law_559
    · have ht : 1 + 4 * t + 3 < L := by
        have c_2 : ¬ nI L - 4 < nI (1 + 4 * t) := c_1
        rw [lt_toInt, len4 hL, nI_toInt (by omega)] at c_2
        omega
      have cont : ∀ (u : CSt) (w : MSt) (g : Nat → Int64) (ls : Array Slot) (H : Heap) (locs : List Loc), hOf u ≤ t + 1 → Rel M u w → lv_has ls 8 [(4, .int (nI (1 + 4 * t))), (3, .ref oO), (2, .ref oM), (1, .ref oF), (0, .ref b)] → va_P (dC, dI) vwCl (wF oF oS oA oB cA cB (min M 512) (nI M) u ++ (wM oM oN oU cN cU (nI M) w ++ [(oO, .inl (cO, 1, .inr (.inl g)))])) H → va_D (fun q : Nat => s.heap.size ≤ q) (wF oF oS oA oB cA cB (min M 512) (nI M) u ++ (wM oM oN oU cN cU (nI M) w ++ [(oO, .inl (cO, 1, .inr (.inl g)))])) → va_S (fun q : Nat => s.heap.size ≤ q) s.heap H locs → W p l e room_1 s m #[Value.ref b] below meth c H locs (8 + (t + 1)) (3250 + 6 * (t + 1)) (lw_Z below #[Value.ref b] s) (F0 m 552 ls []) := by
        intro u w g ls H locs hu R hl hP hD hS
        refine lv_iinc (v := nI (1 + 4 * (t + 1))) (lv' := [(4, .int (nI (1 + 4 * (t + 1)))), (3, .ref oO), (2, .ref oM), (1, .ref oF), (0, .ref b)]) hx hb dL_law_552 hl (k := 0) rfl (by rw [show 1 + 4 * (t + 1) = 1 + 4 * t + 4 from by omega]; exact nI_add (1 + 4 * t) 4) (by decide) rfl (fun ls hl => ?_)
        refine lv_goto (tgt := 33) hx hb dL_law_555 (by decide) ?_
        exact ih (t + 1) u w g ls H locs (by omega) (by omega) hu R hl hP hD hS
      obtain ⟨th, om, sd, po, lr, lv, d, P, V, h⟩ := u
      obtain ⟨co, z, th', en, md, po', pl, la, d', va, N, U⟩ := w
      have hu : h ≤ t := hu
      refine lv_aload_n hx hb dL_law_42 rfl (lv_at hl 4 rfl) ?_
      refine lv_iload hx hb dL_law_43 (lv_at hl 0 rfl) ?_
      refine va_sld hx hb hX hbl hbA hS (vp_in_nI (by omega) (by omega)) dL_law_45 ?_
      refine lv_bipush (v := 15) hx hb dL_law_46 (by decide) ?_
      refine lv_iand hx hb dL_law_48 ?_
      refine lv_topi (fun sv esv => ?_)
      by_cases s0 : sv = 0
      · refine lv_tableIn (tgt := 116) hx hb dL_law_49 (by rw [s0]; decide) (by rw [s0]; decide) (by rw [s0]; rfl) (by decide) ?_
        exact law_0 hL C0 hM ht R hu hK cont hl hP hD hS
      by_cases s1 : sv = 1
      · refine lv_tableIn (tgt := 141) hx hb dL_law_49 (by rw [s1]; decide) (by rw [s1]; decide) (by rw [s1]; rfl) (by decide) ?_
        exact law_1 hL C0 hM ht R hu hK cont hl hP hD hS
      by_cases s2 : sv = 2
      · refine lv_tableIn (tgt := 210) hx hb dL_law_49 (by rw [s2]; decide) (by rw [s2]; decide) (by rw [s2]; rfl) (by decide) ?_
        exact law_2 hL C0 hM ht R hu hK cont hl hP hD hS
      by_cases s3 : sv = 3
      · refine lv_tableIn (tgt := 235) hx hb dL_law_49 (by rw [s3]; decide) (by rw [s3]; decide) (by rw [s3]; rfl) (by decide) ?_
        exact law_3 hL C0 hM ht R hu hK cont hl hP hD hS
      by_cases s4 : sv = 4
      · refine lv_tableIn (tgt := 249) hx hb dL_law_49 (by rw [s4]; decide) (by rw [s4]; decide) (by rw [s4]; rfl) (by decide) ?_
        exact law_4 hL C0 hM ht R hu hK cont hl hP hD hS
      by_cases s5 : sv = 5
      · refine lv_tableIn (tgt := 286) hx hb dL_law_49 (by rw [s5]; decide) (by rw [s5]; decide) (by rw [s5]; rfl) (by decide) ?_
        exact law_5 hL C0 hM ht R hu hK cont hl hP hD hS
      by_cases s6 : sv = 6
      · refine lv_tableIn (tgt := 327) hx hb dL_law_49 (by rw [s6]; decide) (by rw [s6]; decide) (by rw [s6]; rfl) (by decide) ?_
        exact law_6 hL C0 hM ht R hu hK cont hl hP hD hS
      by_cases s7 : sv = 7
      · refine lv_tableIn (tgt := 396) hx hb dL_law_49 (by rw [s7]; decide) (by rw [s7]; decide) (by rw [s7]; rfl) (by decide) ?_
        exact law_7 hL C0 hM ht R hu hK cont hl hP hD hS
      by_cases s8 : sv = 8
      · refine lv_tableIn (tgt := 421) hx hb dL_law_49 (by rw [s8]; decide) (by rw [s8]; decide) (by rw [s8]; rfl) (by decide) ?_
        exact law_8 hL C0 hM ht R hu hK cont hl hP hD hS
      by_cases s9 : sv = 9
      · refine lv_tableIn (tgt := 434) hx hb dL_law_49 (by rw [s9]; decide) (by rw [s9]; decide) (by rw [s9]; rfl) (by decide) ?_
        exact law_9 hL C0 hM ht R hu hK hl9 hok hstr cont hl hP hD hS
      by_cases s10 : sv = 10
      · refine lv_tableIn (tgt := 489) hx hb dL_law_49 (by rw [s10]; decide) (by rw [s10]; decide) (by rw [s10]; rfl) (by decide) ?_
        exact law_10 hL C0 hM ht R hu hK cont hl hP hD hS
      by_cases s11 : sv = 11
      · refine lv_tableIn (tgt := 502) hx hb dL_law_49 (by rw [s11]; decide) (by rw [s11]; decide) (by rw [s11]; rfl) (by decide) ?_
        exact law_11 hL C0 hM ht R hu hK cont hl hP hD hS
      by_cases s12 : sv = 12
      · refine lv_tableIn (tgt := 527) hx hb dL_law_49 (by rw [s12]; decide) (by rw [s12]; decide) (by rw [s12]; rfl) (by decide) ?_
        exact law_12 hL C0 hM ht R hu hK cont hl hP hD hS
      refine lv_tableOut (tgt := 552) hx hb dL_law_49 (sw_out12 s0 s1 s2 s3 s4 s5 s6 s7 s8 s9 s10 s11 s12) (by decide) ?_
      refine W.widen (k := 8 + (t + 1)) (n := 3250 + 6 * (t + 1)) (by omega) (by omega) ?_
      exact cont (th, om, sd, po, lr, lv, d, P, V, h) (co, z, th', en, md, po', pl, la, d', va, N, U) g ls _ _ (show h ≤ t + 1 by omega) R hl hP hD hS
