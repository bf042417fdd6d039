set_option maxHeartbeats 1000000 in
set_option maxRecDepth 100000 in
theorem kX2_start (l : Launch) (dC : Nat → ClassId) (dI : Nat → Nat → Nat) (oM oN oU : Nat) (cN cU : ClassId) (z d : Nat) (co mo th en md po pl la : Int32) (va : Int64) (N : Nat → Int32) (U : Nat → Int64) (p0 p1 : Int32) (sz : Nat) (hz : z ≤ 1100) : Met l yX2_start wsX2_start ({ frames := 1, cells := 0, slots := 0, locals := 24 }) (va_Pc [.ref oM, .int p0, .int p1] (fun U9 => U9.heap.size = sz ∧ va_P (dC, dI) vwCl [(oM, .inr (3, [.int co, .int mo, .ref oN, .ref oU, .int (nI z), .int th, .int en, .int md, .int po, .int pl, .int la, .int (nI d), .long va])), (oN, .inl (cN, 1100, .inl N)), (oU, .inl (cU, 1100, .inr (.inl U)))] U9.heap ∧ va_K (dC, dI) vwCl [(cN, .int), (cU, .long)] U9 ∧ va_D (fun _ => True) [(oM, .inr (3, [.int co, .int mo, .ref oN, .ref oU, .int (nI z), .int th, .int en, .int md, .int po, .int pl, .int la, .int (nI d), .long va])), (oN, .inl (cN, 1100, .inl N)), (oU, .inl (cU, 1100, .inr (.inl U)))])) (va_Qi (fun (r : Int32) (_ : Unit) => r = (gStart p0 p1 (co, z, th, en, md, po, pl, la, d, va, N, U)).1) (fun (_ : Unit) (t : State) => va_P (dC, dI) vwCl (wM oM oN oU cN cU mo (gStart p0 p1 (co, z, th, en, md, po, pl, la, d, va, N, U)).2) t.heap ∧ va_K (dC, dI) vwCl [(cN, .int), (cU, .long)] t ∧ va_D (va_A [(oM, .inr (3, [.int co, .int mo, .ref oN, .ref oU, .int (nI z), .int th, .int en, .int md, .int po, .int pl, .int la, .int (nI d), .long va])), (oN, .inl (cN, 1100, .inl N)), (oU, .inl (cU, 1100, .inr (.inl U)))] sz) (wM oM oN oU cN cU mo (gStart p0 p1 (co, z, th, en, md, po, pl, la, d, va, N, U)).2)) (va_A [(oM, .inr (3, [.int co, .int mo, .ref oN, .ref oU, .int (nI z), .int th, .int en, .int md, .int po, .int pl, .int la, .int (nI d), .long va])), (oN, .inl (cN, 1100, .inl N)), (oU, .inl (cU, 1100, .inr (.inl U)))] sz)) 0 0 (va_A [(oM, .inr (3, [.int co, .int mo, .ref oN, .ref oU, .int (nI z), .int th, .int en, .int md, .int po, .int pl, .int la, .int (nI d), .long va])), (oN, .inl (cN, 1100, .inl N)), (oU, .inl (cU, 1100, .inr (.inl U)))] sz) := by
  refine Met.ofW (cc := cX2_start) (maxL := 4) (ret := (some .int)) (by decide) rfl ?_
  intro p e s m args below meth c s₁ B hml hv
  obtain ⟨rfl, hsz, hP, hK, hD0⟩ := hv
  have hx := B.exec
  have hb := B.bytes
  have hr := B.returns
  have hts := atoms_spec (ws := wsX2_start) B.pre
  have hown : s.vm.findClass RX2 = some m.cls := findClass_of_methodNamed B.named
  have hlocks := B.notSynchronized
  subst hsz
  have hD := hD0.self (sz := s.heap.size)
  generalize hAe : va_A [(oM, .inr (3, [.int co, .int mo, .ref oN, .ref oU, .int (nI z), .int th, .int en, .int md, .int po, .int pl, .int la, .int (nI d), .long va])), (oN, .inl (cN, 1100, .inl N)), (oU, .inl (cU, 1100, .inr (.inl U)))] s.heap.size = A at hD ⊢
  have hA : ∀ q : Nat, s.heap.size ≤ q → A q := fun q h => by rw [← hAe]; exact Or.inr h
  have hS : va_S A s.heap s.heap [] := va_S.rf
  have hP : va_P (dC, dI) vwCl [(oM, .inr (3, [.int co, .int mo, .ref oN, .ref oU, .int (nI z), .int th, .int en, .int md, .int po, .int pl, .int la, .int (nI d), .long va])), (oN, .inl (cN, 1100, .inl N)), (oU, .inl (cU, 1100, .inr (.inl U)))] s.heap := hP
  have hl := lv_entry ([.ref oM, .int p0, .int p1]) (n := 4) (Nat.le_of_ble_eq_true rfl)
  rw [lg_entry_eq]
  generalize (lg_sl ([.ref oM, .int p0, .int p1]) ++ List.replicate (4 - (lg_sl ([.ref oM, .int p0, .int p1])).length) Slot.unset).toArray = ls at hl ⊢
  have hl : lv_has ls 4 [(0, .ref oM), (1, .int p0), (2, .int p1)] := hl
  refine W_name (fun Q hQ9 => ?_)
  refine lv_aload_n hx hb dX2_start_0 rfl (lv_at hl 0 rfl) ?_
  refine lv_iconst (v := 0) hx hb dX2_start_1 (by decide) ?_
  refine va_put (D := (dC, dI)) (ci := 3) (v := .int 0) (ty := .int) (C := RX2) (T := TX2) (N := 13) hx hb hts (by decide +kernel) tyX2 tyX2_ok nmX2 hown hK hP hD hS 0 rfl rfl 0 (by decide) (hts (.fieldLink RX2 28 "RelativeFilesModel" "code" "I") (by decide +kernel)) (fun _ h9 => h9) rfl (by decide +kernel) rfl rfl (Nat.le_of_ble_eq_true rfl) dX2_start_2 (fun H locs hP hD hS => ?_)
  have hP : va_P (dC, dI) vwCl [(oM, .inr (3, [.int 0, .int mo, .ref oN, .ref oU, .int (nI z), .int th, .int en, .int md, .int po, .int pl, .int la, .int (nI d), .long va])), (oN, .inl (cN, 1100, .inl N)), (oU, .inl (cU, 1100, .inr (.inl U)))] H := hP
  have hD : va_D A [(oM, .inr (3, [.int 0, .int mo, .ref oN, .ref oU, .int (nI z), .int th, .int en, .int md, .int po, .int pl, .int la, .int (nI d), .long va])), (oN, .inl (cN, 1100, .inl N)), (oU, .inl (cU, 1100, .inr (.inl U)))] := hD
  refine lv_iload_n hx hb dX2_start_5 rfl (lv_at hl 1 rfl) ?_
  refine lv_if_lt (tgt := 14) hx hb dX2_start_6 (by decide) (fun c_1 => ?_) (fun c_1 => ?_)
  · -- taken at 6: p0 < 0
    refine lv_iconst (v := (-1)) hx hb dX2_start_14 (by decide) ?_
    subst hQ9
    have e9 : gStart p0 p1 (co, z, th, en, md, po, pl, la, d, va, N, U) = ((-1), (0, z, th, en, md, po, pl, la, d, va, N, U)) := by simp only [gStart, if_pos c_1]
    rw [e9]
    exact W.iret (v := (-1)) hx hb hr (fun t ht hW => ⟨⟨(-1), (), rfl, rfl, by rw [ht]; exact hP, va_K.moved hW.alike hK, hD⟩, hS.F ht⟩) hS.2.2 dX2_start_15
  · -- not taken at 6: ¬ p0 < 0
    refine lv_iload_n hx hb dX2_start_9 rfl (lv_at hl 1 rfl) ?_
    refine lv_iconst (v := 4) hx hb dX2_start_10 (by decide) ?_
    refine lv_icmp_le (tgt := 16) hx hb dX2_start_11 (by decide) (fun c_2 => ?_) (fun c_2 => ?_)
    · -- taken at 11: p0 ≤ 4
      refine lv_aload_n hx hb dX2_start_16 rfl (lv_at hl 0 rfl) ?_
      refine va_get (D := (dC, dI)) (ci := 3) (v := .int md) (C := RX2) (T := TX2) (N := 13) hx hb hts (by decide +kernel) hown hK hP 0 rfl rfl 7 (by decide) (hts (.fieldLink RX2 17 "RelativeFilesModel" "mode" "I") (by decide +kernel)) (fun _ h9 => h9) rfl dX2_start_17 ?_
      refine lv_iconst (v := (-1)) hx hb dX2_start_20 (by decide) ?_
      refine lv_icmp_ne (tgt := 27) hx hb dX2_start_21 (by decide) (fun c_3 => ?_) (fun c_3 => ?_)
      · -- taken at 21: ¬ md = (-1)
        refine lv_aload_n hx hb dX2_start_27 rfl (lv_at hl 0 rfl) ?_
        have hPc := hP.sub (ws' := [(oM, .inr (3, [.int 0, .int mo, .ref oN, .ref oU, .int (nI z), .int th, .int en, .int md, .int po, .int pl, .int la, .int (nI d), .long va])), (oN, .inl (cN, 1100, .inl N)), (oU, .inl (cU, 1100, .inr (.inl U)))]) [0, 1, 2] rfl
        have hDc := hD.sub (ws' := [(oM, .inr (3, [.int 0, .int mo, .ref oN, .ref oU, .int (nI z), .int th, .int en, .int md, .int po, .int pl, .int la, .int (nI d), .long va])), (oN, .inl (cN, 1100, .inl N)), (oU, .inl (cU, 1100, .inr (.inl U)))]) [0, 1, 2] (by decide) rfl
        have hKc := hK.sub (tys' := [(cN, .int), (cU, .long)]) [0, 1] rfl
        have hFc := va_free (wc := [(oM, .inr (3, [.int 0, .int mo, .ref oN, .ref oU, .int (nI z), .int th, .int en, .int md, .int po, .int pl, .int la, .int (nI d), .long va])), (oN, .inl (cN, 1100, .inl N)), (oU, .inl (cU, 1100, .inr (.inl U)))]) hD hS hA [0, 1, 2] rfl
        refine va_calli (va_runV (As := []) (rest := []) ⟨hx, hb, hml, hown, hts⟩ (kX2_reads l dC dI oM oN oU cN cU z d 0 mo th en md po pl la va N U  H.size hz) (cwV 0 hts gX2_start_X2_reads rfl rfl rfl (by decide +kernel) ⟨Nat.le_of_ble_eq_true rfl, Nat.le_of_ble_eq_true rfl⟩) ⟨fun a U g mk q => by obtain ⟨q0, q1, qP, qK, qD⟩ := q; exact ⟨q0, q1, qP, va_K.moved (u := U) (U := U.calling g mk a) (Vm.Alike.refl U.vm) qK, qD⟩, va_recv hKc hPc (ci := 3) (q0 := 0) rfl rfl, fun U hU hW => ⟨rfl, by rw [hU], by rw [hU]; exact hPc, va_K.moved hW.alike hKc, hDc.weaken (fun _ _ _ _ => trivial)⟩⟩ rfl rfl hl.1 rfl (lv_room (Nat.le_of_ble_eq_true rfl)) dX2_start_28 ⟨Nat.le_of_ble_eq_true rfl, Nat.le_of_ble_eq_true rfl⟩) hS (fun q _ h => hFc q h) hFc (fun r_4 u t H1 locs ht hvm hw hB hz1 hk1 hS => ?_)
        obtain ⟨hP1, hK1, hD1⟩ := hB
        rw [ht] at hP1
        have hK1 := va_K.moved hvm.symm hK1
        try dsimp only at hw
        obtain ⟨hP, hD⟩ := va_join (wr := []) (w1 := [(oM, .inr (3, [.int 0, .int mo, .ref oN, .ref oU, .int (nI z), .int th, .int en, .int md, .int po, .int pl, .int la, .int (nI d), .long va])), (oN, .inl (cN, 1100, .inl N)), (oU, .inl (cU, 1100, .inr (.inl U)))]) hP hD [0, 1, 2] [] rfl rfl (by decide) (by decide) hk1 hFc hP1 hD1
        generalize H1 = H at hP hS ⊢
        have hP : va_P (dC, dI) vwCl [(oM, .inr (3, [.int 0, .int mo, .ref oN, .ref oU, .int (nI z), .int th, .int en, .int md, .int po, .int pl, .int la, .int (nI d), .long va])), (oN, .inl (cN, 1100, .inl N)), (oU, .inl (cU, 1100, .inr (.inl U)))] H := hP.sub [0, 1, 2] rfl
        have hD : va_D A [(oM, .inr (3, [.int 0, .int mo, .ref oN, .ref oU, .int (nI z), .int th, .int en, .int md, .int po, .int pl, .int la, .int (nI d), .long va])), (oN, .inl (cN, 1100, .inl N)), (oU, .inl (cU, 1100, .inr (.inl U)))] := hD.sub [0, 1, 2] (by decide) rfl
        have hK : va_K (dC, dI) vwCl [(cN, .int), (cU, .long)] s := hK
        rcases hw with ⟨b_5, hw⟩ | ⟨b_5, hw⟩
        · -- gRd md
          subst hw
          refine lv_if_ne (tgt := 37) hx hb dX2_start_31 (by decide) (fun c_6 => ?_) (fun c_6 => ?_)
          · -- taken at 31: ¬ 1 = 0
            refine lv_aload_n hx hb dX2_start_37 rfl (lv_at hl 0 rfl) ?_
            refine lv_iconst (v := 0) hx hb dX2_start_38 (by decide) ?_
            refine va_put (D := (dC, dI)) (ci := 3) (v := .int 0) (ty := .int) (C := RX2) (T := TX2) (N := 13) hx hb hts (by decide +kernel) tyX2 tyX2_ok nmX2 hown hK hP hD hS 0 rfl rfl 10 (by decide) (hts (.fieldLink RX2 36 "RelativeFilesModel" "last" "I") (by decide +kernel)) (fun _ h9 => h9) rfl (by decide +kernel) rfl rfl (Nat.le_of_ble_eq_true rfl) dX2_start_39 (fun H locs hP hD hS => ?_)
            have hP : va_P (dC, dI) vwCl [(oM, .inr (3, [.int 0, .int mo, .ref oN, .ref oU, .int (nI z), .int th, .int en, .int md, .int po, .int pl, .int 0, .int (nI d), .long va])), (oN, .inl (cN, 1100, .inl N)), (oU, .inl (cU, 1100, .inr (.inl U)))] H := hP
            have hD : va_D A [(oM, .inr (3, [.int 0, .int mo, .ref oN, .ref oU, .int (nI z), .int th, .int en, .int md, .int po, .int pl, .int 0, .int (nI d), .long va])), (oN, .inl (cN, 1100, .inl N)), (oU, .inl (cU, 1100, .inr (.inl U)))] := hD
            refine lv_aload_n hx hb dX2_start_42 rfl (lv_at hl 0 rfl) ?_
            refine lv_iconst (v := 0) hx hb dX2_start_43 (by decide) ?_
            refine va_put (D := (dC, dI)) (ci := 3) (v := .int 0) (ty := .boolean) (C := RX2) (T := TX2) (N := 13) hx hb hts (by decide +kernel) tyX2 tyX2_ok nmX2 hown hK hP hD hS 0 rfl rfl 6 (by decide) (hts (.fieldLink RX2 46 "RelativeFilesModel" "ended" "Z") (by decide +kernel)) (fun _ h9 => h9) rfl (by decide +kernel) (by decide) (by decide) (Nat.le_of_ble_eq_true rfl) dX2_start_44 (fun H locs hP hD hS => ?_)
            have hP : va_P (dC, dI) vwCl [(oM, .inr (3, [.int 0, .int mo, .ref oN, .ref oU, .int (nI z), .int th, .int 0, .int md, .int po, .int pl, .int 0, .int (nI d), .long va])), (oN, .inl (cN, 1100, .inl N)), (oU, .inl (cU, 1100, .inr (.inl U)))] H := hP
            have hD : va_D A [(oM, .inr (3, [.int 0, .int mo, .ref oN, .ref oU, .int (nI z), .int th, .int 0, .int md, .int po, .int pl, .int 0, .int (nI d), .long va])), (oN, .inl (cN, 1100, .inl N)), (oU, .inl (cU, 1100, .inr (.inl U)))] := hD
            refine lv_iconst (v := 0) hx hb dX2_start_47 (by decide) ?_
            refine lv_istore_n (lv' := [(3, .int 0), (0, .ref oM), (1, .int p0), (2, .int p1)]) hx hb dX2_start_48 rfl hl (by decide) rfl (fun ls hl => ?_)
            have K9 : ∀ (ls : Array Slot) (H : Heap) (locs : List Loc), lv_has ls 4 [(3, .int (gSt N z p0 p1)), (0, .ref oM), (1, .int p0), (2, .int p1)] → va_P (dC, dI) vwCl [(oM, .inr (3, [.int 0, .int mo, .ref oN, .ref oU, .int (nI z), .int th, .int 0, .int md, .int po, .int pl, .int 0, .int (nI d), .long va])), (oN, .inl (cN, 1100, .inl N)), (oU, .inl (cU, 1100, .inr (.inl U)))] H → va_D A [(oM, .inr (3, [.int 0, .int mo, .ref oN, .ref oU, .int (nI z), .int th, .int 0, .int md, .int po, .int pl, .int 0, .int (nI d), .long va])), (oN, .inl (cN, 1100, .inl N)), (oU, .inl (cU, 1100, .inr (.inl U)))] → va_S A s.heap H locs → W p l e (headSpec wsX2_start ({ frames := 1, cells := 0, slots := 0, locals := 24 })).room s m #[(Value.ref oM), (Value.int p0), (Value.int p1)] below meth c H locs 0 0 Q (F0 m 139 ls []) := by
              intro ls H locs hl hP hD hS
              refine lv_aload_n hx hb dX2_start_139 rfl (lv_at hl 1 rfl) ?_
              refine lv_iload_n hx hb dX2_start_140 rfl (lv_at hl 0 rfl) ?_
              refine lv_if_ne (tgt := 148) hx hb dX2_start_141 (by decide) (fun c_7 => ?_) (fun c_7 => ?_)
              · -- taken at 141: ¬ (gSt N z p0 p1) = 0
                refine lv_iconst (v := 2) hx hb dX2_start_148 (by decide) ?_
                refine va_put (D := (dC, dI)) (ci := 3) (v := .int 2) (ty := .int) (C := RX2) (T := TX2) (N := 13) hx hb hts (by decide +kernel) tyX2 tyX2_ok nmX2 hown hK hP hD hS 0 rfl rfl 8 (by decide) (hts (.fieldLink RX2 43 "RelativeFilesModel" "position" "I") (by decide +kernel)) (fun _ h9 => h9) rfl (by decide +kernel) rfl rfl (Nat.le_of_ble_eq_true rfl) dX2_start_149 (fun H locs hP hD hS => ?_)
                have hP : va_P (dC, dI) vwCl [(oM, .inr (3, [.int 0, .int mo, .ref oN, .ref oU, .int (nI z), .int th, .int 0, .int md, .int 2, .int pl, .int 0, .int (nI d), .long va])), (oN, .inl (cN, 1100, .inl N)), (oU, .inl (cU, 1100, .inr (.inl U)))] H := hP
                have hD : va_D A [(oM, .inr (3, [.int 0, .int mo, .ref oN, .ref oU, .int (nI z), .int th, .int 0, .int md, .int 2, .int pl, .int 0, .int (nI d), .long va])), (oN, .inl (cN, 1100, .inl N)), (oU, .inl (cU, 1100, .inr (.inl U)))] := hD
                refine lv_aload_n hx hb dX2_start_152 rfl (lv_at hl 1 rfl) ?_
                refine lv_iload_n hx hb dX2_start_153 rfl (lv_at hl 0 rfl) ?_
                refine va_put (D := (dC, dI)) (ci := 3) (v := .int (gSt N z p0 p1)) (ty := .int) (C := RX2) (T := TX2) (N := 13) hx hb hts (by decide +kernel) tyX2 tyX2_ok nmX2 hown hK hP hD hS 0 rfl rfl 9 (by decide) (hts (.fieldLink RX2 72 "RelativeFilesModel" "place" "I") (by decide +kernel)) (fun _ h9 => h9) rfl (by decide +kernel) rfl rfl (Nat.le_of_ble_eq_true rfl) dX2_start_154 (fun H locs hP hD hS => ?_)
                have hP : va_P (dC, dI) vwCl [(oM, .inr (3, [.int 0, .int mo, .ref oN, .ref oU, .int (nI z), .int th, .int 0, .int md, .int 2, .int (gSt N z p0 p1), .int 0, .int (nI d), .long va])), (oN, .inl (cN, 1100, .inl N)), (oU, .inl (cU, 1100, .inr (.inl U)))] H := hP
                have hD : va_D A [(oM, .inr (3, [.int 0, .int mo, .ref oN, .ref oU, .int (nI z), .int th, .int 0, .int md, .int 2, .int (gSt N z p0 p1), .int 0, .int (nI d), .long va])), (oN, .inl (cN, 1100, .inl N)), (oU, .inl (cU, 1100, .inr (.inl U)))] := hD
                refine lv_iload_n hx hb dX2_start_157 rfl (lv_at hl 0 rfl) ?_
                refine lv_if_ne (tgt := 166) hx hb dX2_start_158 (by decide) (fun c_8 => ?_) (fun c_8 => ?_)
                · -- taken at 158: ¬ (gSt N z p0 p1) = 0
                  refine lv_iconst (v := 0) hx hb dX2_start_166 (by decide) ?_
                  subst hQ9
                  have e9 : gStart p0 p1 (co, z, th, en, md, po, pl, la, d, va, N, U) = (0, (0, z, th, 0, md, 2, gSt N z p0 p1, 0, d, va, N, U)) := by simp only [gStart, if_neg c_1, if_pos c_2, if_neg c_3, if_pos b_5, if_neg c_7]
                  rw [e9]
                  exact W.iret (v := 0) hx hb hr (fun t ht hW => ⟨⟨0, (), rfl, rfl, by rw [ht]; exact hP, va_K.moved hW.alike hK, hD⟩, hS.F ht⟩) hS.2.2 dX2_start_167
                · -- not taken at 158: (gSt N z p0 p1) = 0
                  exact absurd c_8 c_7
              · -- not taken at 141: (gSt N z p0 p1) = 0
                refine lv_iconst (v := 3) hx hb dX2_start_144 (by decide) ?_
                refine lv_goto (tgt := 149) hx hb dX2_start_145 (by decide) ?_
                refine va_put (D := (dC, dI)) (ci := 3) (v := .int 3) (ty := .int) (C := RX2) (T := TX2) (N := 13) hx hb hts (by decide +kernel) tyX2 tyX2_ok nmX2 hown hK hP hD hS 0 rfl rfl 8 (by decide) (hts (.fieldLink RX2 43 "RelativeFilesModel" "position" "I") (by decide +kernel)) (fun _ h9 => h9) rfl (by decide +kernel) rfl rfl (Nat.le_of_ble_eq_true rfl) dX2_start_149 (fun H locs hP hD hS => ?_)
                have hP : va_P (dC, dI) vwCl [(oM, .inr (3, [.int 0, .int mo, .ref oN, .ref oU, .int (nI z), .int th, .int 0, .int md, .int 3, .int pl, .int 0, .int (nI d), .long va])), (oN, .inl (cN, 1100, .inl N)), (oU, .inl (cU, 1100, .inr (.inl U)))] H := hP
                have hD : va_D A [(oM, .inr (3, [.int 0, .int mo, .ref oN, .ref oU, .int (nI z), .int th, .int 0, .int md, .int 3, .int pl, .int 0, .int (nI d), .long va])), (oN, .inl (cN, 1100, .inl N)), (oU, .inl (cU, 1100, .inr (.inl U)))] := hD
                refine lv_aload_n hx hb dX2_start_152 rfl (lv_at hl 1 rfl) ?_
                refine lv_iload_n hx hb dX2_start_153 rfl (lv_at hl 0 rfl) ?_
                refine va_put (D := (dC, dI)) (ci := 3) (v := .int (gSt N z p0 p1)) (ty := .int) (C := RX2) (T := TX2) (N := 13) hx hb hts (by decide +kernel) tyX2 tyX2_ok nmX2 hown hK hP hD hS 0 rfl rfl 9 (by decide) (hts (.fieldLink RX2 72 "RelativeFilesModel" "place" "I") (by decide +kernel)) (fun _ h9 => h9) rfl (by decide +kernel) rfl rfl (Nat.le_of_ble_eq_true rfl) dX2_start_154 (fun H locs hP hD hS => ?_)
                have hP : va_P (dC, dI) vwCl [(oM, .inr (3, [.int 0, .int mo, .ref oN, .ref oU, .int (nI z), .int th, .int 0, .int md, .int 3, .int (gSt N z p0 p1), .int 0, .int (nI d), .long va])), (oN, .inl (cN, 1100, .inl N)), (oU, .inl (cU, 1100, .inr (.inl U)))] H := hP
                have hD : va_D A [(oM, .inr (3, [.int 0, .int mo, .ref oN, .ref oU, .int (nI z), .int th, .int 0, .int md, .int 3, .int (gSt N z p0 p1), .int 0, .int (nI d), .long va])), (oN, .inl (cN, 1100, .inl N)), (oU, .inl (cU, 1100, .inr (.inl U)))] := hD
                refine lv_iload_n hx hb dX2_start_157 rfl (lv_at hl 0 rfl) ?_
                refine lv_if_ne (tgt := 166) hx hb dX2_start_158 (by decide) (fun c_9 => ?_) (fun c_9 => ?_)
                · -- taken at 158: ¬ (gSt N z p0 p1) = 0
                  exact absurd c_7 c_9
                · -- not taken at 158: (gSt N z p0 p1) = 0
                  refine lv_bipush (v := 23) hx hb dX2_start_161 (by decide) ?_
                  refine lv_goto (tgt := 167) hx hb dX2_start_163 (by decide) ?_
                  subst hQ9
                  have e9 : gStart p0 p1 (co, z, th, en, md, po, pl, la, d, va, N, U) = (23, (0, z, th, 0, md, 3, gSt N z p0 p1, 0, d, va, N, U)) := by simp only [gStart, if_neg c_1, if_pos c_2, if_neg c_3, if_pos b_5, if_pos c_7]
                  rw [e9]
                  exact W.iret (v := 23) hx hb hr (fun t ht hW => ⟨⟨23, (), rfl, rfl, by rw [ht]; exact hP, va_K.moved hW.alike hK, hD⟩, hS.F ht⟩) hS.2.2 dX2_start_167
            refine lv_iload_n hx hb dX2_start_49 rfl (lv_at hl 2 rfl) ?_
            by_cases s_10 : p0 = 0
            · -- case 0
              refine lv_tableIn (tgt := 80) hx hb dX2_start_50 (by rw [s_10]; decide) (by rw [s_10]; decide) (by rw [s_10]; rfl) (by decide) ?_
              refine lv_aload_n hx hb dX2_start_80 rfl (lv_at hl 1 rfl) ?_
              refine lv_iload_n hx hb dX2_start_81 rfl (lv_at hl 3 rfl) ?_
              have hPc := hP.sub (ws' := [(oM, .inr (3, [.int 0, .int mo, .ref oN, .ref oU, .int (nI z), .int th, .int 0, .int md, .int po, .int pl, .int 0, .int (nI d), .long va])), (oN, .inl (cN, 1100, .inl N)), (oU, .inl (cU, 1100, .inr (.inl U)))]) [0, 1, 2] rfl
              have hDc := hD.sub (ws' := [(oM, .inr (3, [.int 0, .int mo, .ref oN, .ref oU, .int (nI z), .int th, .int 0, .int md, .int po, .int pl, .int 0, .int (nI d), .long va])), (oN, .inl (cN, 1100, .inl N)), (oU, .inl (cU, 1100, .inr (.inl U)))]) [0, 1, 2] (by decide) rfl
              have hKc := hK.sub (tys' := [(cN, .int), (cU, .long)]) [0, 1] rfl
              have hFc := va_free (wc := [(oM, .inr (3, [.int 0, .int mo, .ref oN, .ref oU, .int (nI z), .int th, .int 0, .int md, .int po, .int pl, .int 0, .int (nI d), .long va])), (oN, .inl (cN, 1100, .inl N)), (oU, .inl (cU, 1100, .inr (.inl U)))]) hD hS hA [0, 1, 2] rfl
              refine va_calli (va_runV (As := [.int p1]) (rest := []) ⟨hx, hb, hml, hown, hts⟩ (kX2_find l dC dI oM oN oU cN cU z d 0 mo th 0 md po pl 0 va N U p1 H.size hz) (cwV 1 hts gX2_start_X2_find rfl rfl rfl (by decide +kernel) ⟨Nat.le_of_ble_eq_true rfl, Nat.le_of_ble_eq_true rfl⟩) ⟨fun a U g mk q => by obtain ⟨q0, q1, qP, qK, qD⟩ := q; exact ⟨q0, q1, qP, va_K.moved (u := U) (U := U.calling g mk a) (Vm.Alike.refl U.vm) qK, qD⟩, va_recv hKc hPc (ci := 3) (q0 := 0) rfl rfl, fun U hU hW => ⟨rfl, by rw [hU], by rw [hU]; exact hPc, va_K.moved hW.alike hKc, hDc.weaken (fun _ _ _ _ => trivial)⟩⟩ rfl rfl hl.1 rfl (lv_room (Nat.le_of_ble_eq_true rfl)) dX2_start_82 ⟨Nat.le_of_ble_eq_true rfl, Nat.le_of_ble_eq_true rfl⟩) hS (fun q _ h => hFc q h) hFc (fun r_11 u t H1 locs ht hvm hw hB hz1 hk1 hS => ?_)
              obtain ⟨hP1, hK1, hD1⟩ := hB
              rw [ht] at hP1
              have hK1 := va_K.moved hvm.symm hK1
              try dsimp only at hw
              obtain ⟨hP, hD⟩ := va_join (wr := []) (w1 := [(oM, .inr (3, [.int 0, .int mo, .ref oN, .ref oU, .int (nI z), .int th, .int 0, .int md, .int po, .int pl, .int 0, .int (nI d), .long va])), (oN, .inl (cN, 1100, .inl N)), (oU, .inl (cU, 1100, .inr (.inl U)))]) hP hD [0, 1, 2] [] rfl rfl (by decide) (by decide) hk1 hFc hP1 hD1
              generalize H1 = H at hP hS ⊢
              have hP : va_P (dC, dI) vwCl [(oM, .inr (3, [.int 0, .int mo, .ref oN, .ref oU, .int (nI z), .int th, .int 0, .int md, .int po, .int pl, .int 0, .int (nI d), .long va])), (oN, .inl (cN, 1100, .inl N)), (oU, .inl (cU, 1100, .inr (.inl U)))] H := hP.sub [0, 1, 2] rfl
              have hD : va_D A [(oM, .inr (3, [.int 0, .int mo, .ref oN, .ref oU, .int (nI z), .int th, .int 0, .int md, .int po, .int pl, .int 0, .int (nI d), .long va])), (oN, .inl (cN, 1100, .inl N)), (oU, .inl (cU, 1100, .inr (.inl U)))] := hD.sub [0, 1, 2] (by decide) rfl
              have hK : va_K (dC, dI) vwCl [(cN, .int), (cU, .long)] s := hK
              subst hw
              refine lv_iconst (v := (-1)) hx hb dX2_start_85 (by decide) ?_
              refine lv_icmp_ne (tgt := 93) hx hb dX2_start_86 (by decide) (fun c_12 => ?_) (fun c_12 => ?_)
              · -- taken at 86: ¬ (rFind N p1 z) = (-1)
                refine lv_iload_n hx hb dX2_start_93 rfl (lv_at hl 3 rfl) ?_
                refine W_topi (gSt N z p0 p1) (by simp only [gSt, if_neg c_1, if_pos c_2, if_neg c_3, if_pos b_5, if_pos s_10, if_neg c_12]) ?_
                refine lv_istore_n (lv' := [(3, .int (gSt N z p0 p1)), (0, .ref oM), (1, .int p0), (2, .int p1)]) hx hb dX2_start_94 rfl hl (by decide) rfl (fun ls hl => ?_)
                refine lv_goto (tgt := 139) hx hb dX2_start_95 (by decide) ?_
                exact K9 ls _ _ (lv_sub hl [0, 1, 2, 3] rfl) hP hD hS
              · -- not taken at 86: (rFind N p1 z) = (-1)
                refine lv_iconst (v := 0) hx hb dX2_start_89 (by decide) ?_
                refine lv_goto (tgt := 94) hx hb dX2_start_90 (by decide) ?_
                refine W_topi (gSt N z p0 p1) (by simp only [gSt, if_neg c_1, if_pos c_2, if_neg c_3, if_pos b_5, if_pos s_10, if_pos c_12]) ?_
                refine lv_istore_n (lv' := [(3, .int (gSt N z p0 p1)), (0, .ref oM), (1, .int p0), (2, .int p1)]) hx hb dX2_start_94 rfl hl (by decide) rfl (fun ls hl => ?_)
                refine lv_goto (tgt := 139) hx hb dX2_start_95 (by decide) ?_
                exact K9 ls _ _ (lv_sub hl [0, 1, 2, 3] rfl) hP hD hS
            by_cases s_13 : p0 = 1
            · -- case 1
              refine lv_tableIn (tgt := 98) hx hb dX2_start_50 (by rw [s_13]; decide) (by rw [s_13]; decide) (by rw [s_13]; rfl) (by decide) ?_
              refine lv_aload_n hx hb dX2_start_98 rfl (lv_at hl 1 rfl) ?_
              refine lv_iload_n hx hb dX2_start_99 rfl (lv_at hl 3 rfl) ?_
              refine lv_i2l (v := p1.toInt64) hx hb dX2_start_100 rfl ?_
              refine lv_lconst (v := 1) hx hb dX2_start_101 (by decide) ?_
              refine lv_ladd hx hb dX2_start_102 ?_
              have hPc := hP.sub (ws' := [(oM, .inr (3, [.int 0, .int mo, .ref oN, .ref oU, .int (nI z), .int th, .int 0, .int md, .int po, .int pl, .int 0, .int (nI d), .long va])), (oN, .inl (cN, 1100, .inl N)), (oU, .inl (cU, 1100, .inr (.inl U)))]) [0, 1, 2] rfl
              have hDc := hD.sub (ws' := [(oM, .inr (3, [.int 0, .int mo, .ref oN, .ref oU, .int (nI z), .int th, .int 0, .int md, .int po, .int pl, .int 0, .int (nI d), .long va])), (oN, .inl (cN, 1100, .inl N)), (oU, .inl (cU, 1100, .inr (.inl U)))]) [0, 1, 2] (by decide) rfl
              have hKc := hK.sub (tys' := [(cN, .int), (cU, .long)]) [0, 1] rfl
              have hFc := va_free (wc := [(oM, .inr (3, [.int 0, .int mo, .ref oN, .ref oU, .int (nI z), .int th, .int 0, .int md, .int po, .int pl, .int 0, .int (nI d), .long va])), (oN, .inl (cN, 1100, .inl N)), (oU, .inl (cU, 1100, .inr (.inl U)))]) hD hS hA [0, 1, 2] rfl
              refine va_calli (va_runV (As := [.long (p1.toInt64 + 1)]) (rest := []) ⟨hx, hb, hml, hown, hts⟩ (kX2_from l dC dI oM oN oU cN cU z d 0 mo th 0 md po pl 0 va N U (p1.toInt64 + 1) H.size hz) (cwV 1 hts gX2_start_X2_from rfl rfl rfl (by decide +kernel) ⟨Nat.le_of_ble_eq_true rfl, Nat.le_of_ble_eq_true rfl⟩) ⟨fun a U g mk q => by obtain ⟨q0, q1, qP, qK, qD⟩ := q; exact ⟨q0, q1, qP, va_K.moved (u := U) (U := U.calling g mk a) (Vm.Alike.refl U.vm) qK, qD⟩, va_recv hKc hPc (ci := 3) (q0 := 0) rfl rfl, fun U hU hW => ⟨rfl, by rw [hU], by rw [hU]; exact hPc, va_K.moved hW.alike hKc, hDc.weaken (fun _ _ _ _ => trivial)⟩⟩ rfl rfl hl.1 rfl (lv_room (Nat.le_of_ble_eq_true rfl)) dX2_start_103 ⟨Nat.le_of_ble_eq_true rfl, Nat.le_of_ble_eq_true rfl⟩) hS (fun q _ h => hFc q h) hFc (fun r_14 u t H1 locs ht hvm hw hB hz1 hk1 hS => ?_)
              obtain ⟨hP1, hK1, hD1⟩ := hB
              rw [ht] at hP1
              have hK1 := va_K.moved hvm.symm hK1
              try dsimp only at hw
              obtain ⟨hP, hD⟩ := va_join (wr := []) (w1 := [(oM, .inr (3, [.int 0, .int mo, .ref oN, .ref oU, .int (nI z), .int th, .int 0, .int md, .int po, .int pl, .int 0, .int (nI d), .long va])), (oN, .inl (cN, 1100, .inl N)), (oU, .inl (cU, 1100, .inr (.inl U)))]) hP hD [0, 1, 2] [] rfl rfl (by decide) (by decide) hk1 hFc hP1 hD1
              generalize H1 = H at hP hS ⊢
              have hP : va_P (dC, dI) vwCl [(oM, .inr (3, [.int 0, .int mo, .ref oN, .ref oU, .int (nI z), .int th, .int 0, .int md, .int po, .int pl, .int 0, .int (nI d), .long va])), (oN, .inl (cN, 1100, .inl N)), (oU, .inl (cU, 1100, .inr (.inl U)))] H := hP.sub [0, 1, 2] rfl
              have hD : va_D A [(oM, .inr (3, [.int 0, .int mo, .ref oN, .ref oU, .int (nI z), .int th, .int 0, .int md, .int po, .int pl, .int 0, .int (nI d), .long va])), (oN, .inl (cN, 1100, .inl N)), (oU, .inl (cU, 1100, .inr (.inl U)))] := hD.sub [0, 1, 2] (by decide) rfl
              have hK : va_K (dC, dI) vwCl [(cN, .int), (cU, .long)] s := hK
              subst hw
              refine W_topi (gSt N z p0 p1) (by simp only [gSt, if_neg c_1, if_pos c_2, if_neg c_3, if_pos b_5, if_neg s_10, if_pos s_13]) ?_
              refine lv_istore_n (lv' := [(3, .int (gSt N z p0 p1)), (0, .ref oM), (1, .int p0), (2, .int p1)]) hx hb dX2_start_106 rfl hl (by decide) rfl (fun ls hl => ?_)
              refine lv_goto (tgt := 139) hx hb dX2_start_107 (by decide) ?_
              exact K9 ls _ _ (lv_sub hl [0, 1, 2, 3] rfl) hP hD hS
            by_cases s_15 : p0 = 2
            · -- case 2
              refine lv_tableIn (tgt := 110) hx hb dX2_start_50 (by rw [s_15]; decide) (by rw [s_15]; decide) (by rw [s_15]; rfl) (by decide) ?_
              refine lv_aload_n hx hb dX2_start_110 rfl (lv_at hl 1 rfl) ?_
              refine lv_iload_n hx hb dX2_start_111 rfl (lv_at hl 3 rfl) ?_
              refine lv_i2l (v := p1.toInt64) hx hb dX2_start_112 rfl ?_
              have hPc := hP.sub (ws' := [(oM, .inr (3, [.int 0, .int mo, .ref oN, .ref oU, .int (nI z), .int th, .int 0, .int md, .int po, .int pl, .int 0, .int (nI d), .long va])), (oN, .inl (cN, 1100, .inl N)), (oU, .inl (cU, 1100, .inr (.inl U)))]) [0, 1, 2] rfl
              have hDc := hD.sub (ws' := [(oM, .inr (3, [.int 0, .int mo, .ref oN, .ref oU, .int (nI z), .int th, .int 0, .int md, .int po, .int pl, .int 0, .int (nI d), .long va])), (oN, .inl (cN, 1100, .inl N)), (oU, .inl (cU, 1100, .inr (.inl U)))]) [0, 1, 2] (by decide) rfl
              have hKc := hK.sub (tys' := [(cN, .int), (cU, .long)]) [0, 1] rfl
              have hFc := va_free (wc := [(oM, .inr (3, [.int 0, .int mo, .ref oN, .ref oU, .int (nI z), .int th, .int 0, .int md, .int po, .int pl, .int 0, .int (nI d), .long va])), (oN, .inl (cN, 1100, .inl N)), (oU, .inl (cU, 1100, .inr (.inl U)))]) hD hS hA [0, 1, 2] rfl
              refine va_calli (va_runV (As := [.long p1.toInt64]) (rest := []) ⟨hx, hb, hml, hown, hts⟩ (kX2_from l dC dI oM oN oU cN cU z d 0 mo th 0 md po pl 0 va N U p1.toInt64 H.size hz) (cwV 1 hts gX2_start_X2_from rfl rfl rfl (by decide +kernel) ⟨Nat.le_of_ble_eq_true rfl, Nat.le_of_ble_eq_true rfl⟩) ⟨fun a U g mk q => by obtain ⟨q0, q1, qP, qK, qD⟩ := q; exact ⟨q0, q1, qP, va_K.moved (u := U) (U := U.calling g mk a) (Vm.Alike.refl U.vm) qK, qD⟩, va_recv hKc hPc (ci := 3) (q0 := 0) rfl rfl, fun U hU hW => ⟨rfl, by rw [hU], by rw [hU]; exact hPc, va_K.moved hW.alike hKc, hDc.weaken (fun _ _ _ _ => trivial)⟩⟩ rfl rfl hl.1 rfl (lv_room (Nat.le_of_ble_eq_true rfl)) dX2_start_113 ⟨Nat.le_of_ble_eq_true rfl, Nat.le_of_ble_eq_true rfl⟩) hS (fun q _ h => hFc q h) hFc (fun r_16 u t H1 locs ht hvm hw hB hz1 hk1 hS => ?_)
              obtain ⟨hP1, hK1, hD1⟩ := hB
              rw [ht] at hP1
              have hK1 := va_K.moved hvm.symm hK1
              try dsimp only at hw
              obtain ⟨hP, hD⟩ := va_join (wr := []) (w1 := [(oM, .inr (3, [.int 0, .int mo, .ref oN, .ref oU, .int (nI z), .int th, .int 0, .int md, .int po, .int pl, .int 0, .int (nI d), .long va])), (oN, .inl (cN, 1100, .inl N)), (oU, .inl (cU, 1100, .inr (.inl U)))]) hP hD [0, 1, 2] [] rfl rfl (by decide) (by decide) hk1 hFc hP1 hD1
              generalize H1 = H at hP hS ⊢
              have hP : va_P (dC, dI) vwCl [(oM, .inr (3, [.int 0, .int mo, .ref oN, .ref oU, .int (nI z), .int th, .int 0, .int md, .int po, .int pl, .int 0, .int (nI d), .long va])), (oN, .inl (cN, 1100, .inl N)), (oU, .inl (cU, 1100, .inr (.inl U)))] H := hP.sub [0, 1, 2] rfl
              have hD : va_D A [(oM, .inr (3, [.int 0, .int mo, .ref oN, .ref oU, .int (nI z), .int th, .int 0, .int md, .int po, .int pl, .int 0, .int (nI d), .long va])), (oN, .inl (cN, 1100, .inl N)), (oU, .inl (cU, 1100, .inr (.inl U)))] := hD.sub [0, 1, 2] (by decide) rfl
              have hK : va_K (dC, dI) vwCl [(cN, .int), (cU, .long)] s := hK
              subst hw
              refine W_topi (gSt N z p0 p1) (by simp only [gSt, if_neg c_1, if_pos c_2, if_neg c_3, if_pos b_5, if_neg s_10, if_neg s_13, if_pos s_15]) ?_
              refine lv_istore_n (lv' := [(3, .int (gSt N z p0 p1)), (0, .ref oM), (1, .int p0), (2, .int p1)]) hx hb dX2_start_116 rfl hl (by decide) rfl (fun ls hl => ?_)
              refine lv_goto (tgt := 139) hx hb dX2_start_117 (by decide) ?_
              exact K9 ls _ _ (lv_sub hl [0, 1, 2, 3] rfl) hP hD hS
            by_cases s_17 : p0 = 3
            · -- case 3
              refine lv_tableIn (tgt := 120) hx hb dX2_start_50 (by rw [s_17]; decide) (by rw [s_17]; decide) (by rw [s_17]; rfl) (by decide) ?_
              refine lv_aload_n hx hb dX2_start_120 rfl (lv_at hl 1 rfl) ?_
              refine lv_iload_n hx hb dX2_start_121 rfl (lv_at hl 3 rfl) ?_
              refine lv_i2l (v := p1.toInt64) hx hb dX2_start_122 rfl ?_
              refine lv_lconst (v := 1) hx hb dX2_start_123 (by decide) ?_
              refine lv_lsub hx hb dX2_start_124 ?_
              have hPc := hP.sub (ws' := [(oM, .inr (3, [.int 0, .int mo, .ref oN, .ref oU, .int (nI z), .int th, .int 0, .int md, .int po, .int pl, .int 0, .int (nI d), .long va])), (oN, .inl (cN, 1100, .inl N)), (oU, .inl (cU, 1100, .inr (.inl U)))]) [0, 1, 2] rfl
              have hDc := hD.sub (ws' := [(oM, .inr (3, [.int 0, .int mo, .ref oN, .ref oU, .int (nI z), .int th, .int 0, .int md, .int po, .int pl, .int 0, .int (nI d), .long va])), (oN, .inl (cN, 1100, .inl N)), (oU, .inl (cU, 1100, .inr (.inl U)))]) [0, 1, 2] (by decide) rfl
              have hKc := hK.sub (tys' := [(cN, .int), (cU, .long)]) [0, 1] rfl
              have hFc := va_free (wc := [(oM, .inr (3, [.int 0, .int mo, .ref oN, .ref oU, .int (nI z), .int th, .int 0, .int md, .int po, .int pl, .int 0, .int (nI d), .long va])), (oN, .inl (cN, 1100, .inl N)), (oU, .inl (cU, 1100, .inr (.inl U)))]) hD hS hA [0, 1, 2] rfl
              refine va_calli (va_runV (As := [.long (p1.toInt64 - 1)]) (rest := []) ⟨hx, hb, hml, hown, hts⟩ (kX2_upTo l dC dI oM oN oU cN cU z d 0 mo th 0 md po pl 0 va N U (p1.toInt64 - 1) H.size hz) (cwV 1 hts gX2_start_X2_upTo rfl rfl rfl (by decide +kernel) ⟨Nat.le_of_ble_eq_true rfl, Nat.le_of_ble_eq_true rfl⟩) ⟨fun a U g mk q => by obtain ⟨q0, q1, qP, qK, qD⟩ := q; exact ⟨q0, q1, qP, va_K.moved (u := U) (U := U.calling g mk a) (Vm.Alike.refl U.vm) qK, qD⟩, va_recv hKc hPc (ci := 3) (q0 := 0) rfl rfl, fun U hU hW => ⟨rfl, by rw [hU], by rw [hU]; exact hPc, va_K.moved hW.alike hKc, hDc.weaken (fun _ _ _ _ => trivial)⟩⟩ rfl rfl hl.1 rfl (lv_room (Nat.le_of_ble_eq_true rfl)) dX2_start_125 ⟨Nat.le_of_ble_eq_true rfl, Nat.le_of_ble_eq_true rfl⟩) hS (fun q _ h => hFc q h) hFc (fun r_18 u t H1 locs ht hvm hw hB hz1 hk1 hS => ?_)
              obtain ⟨hP1, hK1, hD1⟩ := hB
              rw [ht] at hP1
              have hK1 := va_K.moved hvm.symm hK1
              try dsimp only at hw
              obtain ⟨hP, hD⟩ := va_join (wr := []) (w1 := [(oM, .inr (3, [.int 0, .int mo, .ref oN, .ref oU, .int (nI z), .int th, .int 0, .int md, .int po, .int pl, .int 0, .int (nI d), .long va])), (oN, .inl (cN, 1100, .inl N)), (oU, .inl (cU, 1100, .inr (.inl U)))]) hP hD [0, 1, 2] [] rfl rfl (by decide) (by decide) hk1 hFc hP1 hD1
              generalize H1 = H at hP hS ⊢
              have hP : va_P (dC, dI) vwCl [(oM, .inr (3, [.int 0, .int mo, .ref oN, .ref oU, .int (nI z), .int th, .int 0, .int md, .int po, .int pl, .int 0, .int (nI d), .long va])), (oN, .inl (cN, 1100, .inl N)), (oU, .inl (cU, 1100, .inr (.inl U)))] H := hP.sub [0, 1, 2] rfl
              have hD : va_D A [(oM, .inr (3, [.int 0, .int mo, .ref oN, .ref oU, .int (nI z), .int th, .int 0, .int md, .int po, .int pl, .int 0, .int (nI d), .long va])), (oN, .inl (cN, 1100, .inl N)), (oU, .inl (cU, 1100, .inr (.inl U)))] := hD.sub [0, 1, 2] (by decide) rfl
              have hK : va_K (dC, dI) vwCl [(cN, .int), (cU, .long)] s := hK
              subst hw
              refine W_topi (gSt N z p0 p1) (by simp only [gSt, if_neg c_1, if_pos c_2, if_neg c_3, if_pos b_5, if_neg s_10, if_neg s_13, if_neg s_15, if_pos s_17]) ?_
              refine lv_istore_n (lv' := [(3, .int (gSt N z p0 p1)), (0, .ref oM), (1, .int p0), (2, .int p1)]) hx hb dX2_start_128 rfl hl (by decide) rfl (fun ls hl => ?_)
              refine lv_goto (tgt := 139) hx hb dX2_start_129 (by decide) ?_
              exact K9 ls _ _ (lv_sub hl [0, 1, 2, 3] rfl) hP hD hS
            refine lv_tableOut (tgt := 132) hx hb dX2_start_50 (sw_out3 s_10 s_13 s_15 s_17) (by decide) ?_
            refine lv_aload_n hx hb dX2_start_132 rfl (lv_at hl 1 rfl) ?_
            refine lv_iload_n hx hb dX2_start_133 rfl (lv_at hl 3 rfl) ?_
            refine lv_i2l (v := p1.toInt64) hx hb dX2_start_134 rfl ?_
            have hPc := hP.sub (ws' := [(oM, .inr (3, [.int 0, .int mo, .ref oN, .ref oU, .int (nI z), .int th, .int 0, .int md, .int po, .int pl, .int 0, .int (nI d), .long va])), (oN, .inl (cN, 1100, .inl N)), (oU, .inl (cU, 1100, .inr (.inl U)))]) [0, 1, 2] rfl
            have hDc := hD.sub (ws' := [(oM, .inr (3, [.int 0, .int mo, .ref oN, .ref oU, .int (nI z), .int th, .int 0, .int md, .int po, .int pl, .int 0, .int (nI d), .long va])), (oN, .inl (cN, 1100, .inl N)), (oU, .inl (cU, 1100, .inr (.inl U)))]) [0, 1, 2] (by decide) rfl
            have hKc := hK.sub (tys' := [(cN, .int), (cU, .long)]) [0, 1] rfl
            have hFc := va_free (wc := [(oM, .inr (3, [.int 0, .int mo, .ref oN, .ref oU, .int (nI z), .int th, .int 0, .int md, .int po, .int pl, .int 0, .int (nI d), .long va])), (oN, .inl (cN, 1100, .inl N)), (oU, .inl (cU, 1100, .inr (.inl U)))]) hD hS hA [0, 1, 2] rfl
            refine va_calli (va_runV (As := [.long p1.toInt64]) (rest := []) ⟨hx, hb, hml, hown, hts⟩ (kX2_upTo l dC dI oM oN oU cN cU z d 0 mo th 0 md po pl 0 va N U p1.toInt64 H.size hz) (cwV 1 hts gX2_start_X2_upTo rfl rfl rfl (by decide +kernel) ⟨Nat.le_of_ble_eq_true rfl, Nat.le_of_ble_eq_true rfl⟩) ⟨fun a U g mk q => by obtain ⟨q0, q1, qP, qK, qD⟩ := q; exact ⟨q0, q1, qP, va_K.moved (u := U) (U := U.calling g mk a) (Vm.Alike.refl U.vm) qK, qD⟩, va_recv hKc hPc (ci := 3) (q0 := 0) rfl rfl, fun U hU hW => ⟨rfl, by rw [hU], by rw [hU]; exact hPc, va_K.moved hW.alike hKc, hDc.weaken (fun _ _ _ _ => trivial)⟩⟩ rfl rfl hl.1 rfl (lv_room (Nat.le_of_ble_eq_true rfl)) dX2_start_135 ⟨Nat.le_of_ble_eq_true rfl, Nat.le_of_ble_eq_true rfl⟩) hS (fun q _ h => hFc q h) hFc (fun r_19 u t H1 locs ht hvm hw hB hz1 hk1 hS => ?_)
            obtain ⟨hP1, hK1, hD1⟩ := hB
            rw [ht] at hP1
            have hK1 := va_K.moved hvm.symm hK1
            try dsimp only at hw
            obtain ⟨hP, hD⟩ := va_join (wr := []) (w1 := [(oM, .inr (3, [.int 0, .int mo, .ref oN, .ref oU, .int (nI z), .int th, .int 0, .int md, .int po, .int pl, .int 0, .int (nI d), .long va])), (oN, .inl (cN, 1100, .inl N)), (oU, .inl (cU, 1100, .inr (.inl U)))]) hP hD [0, 1, 2] [] rfl rfl (by decide) (by decide) hk1 hFc hP1 hD1
            generalize H1 = H at hP hS ⊢
            have hP : va_P (dC, dI) vwCl [(oM, .inr (3, [.int 0, .int mo, .ref oN, .ref oU, .int (nI z), .int th, .int 0, .int md, .int po, .int pl, .int 0, .int (nI d), .long va])), (oN, .inl (cN, 1100, .inl N)), (oU, .inl (cU, 1100, .inr (.inl U)))] H := hP.sub [0, 1, 2] rfl
            have hD : va_D A [(oM, .inr (3, [.int 0, .int mo, .ref oN, .ref oU, .int (nI z), .int th, .int 0, .int md, .int po, .int pl, .int 0, .int (nI d), .long va])), (oN, .inl (cN, 1100, .inl N)), (oU, .inl (cU, 1100, .inr (.inl U)))] := hD.sub [0, 1, 2] (by decide) rfl
            have hK : va_K (dC, dI) vwCl [(cN, .int), (cU, .long)] s := hK
            subst hw
            refine W_topi (gSt N z p0 p1) (by simp only [gSt, if_neg c_1, if_pos c_2, if_neg c_3, if_pos b_5, if_neg s_10, if_neg s_13, if_neg s_15, if_neg s_17]) ?_
            refine lv_istore_n (lv' := [(3, .int (gSt N z p0 p1)), (0, .ref oM), (1, .int p0), (2, .int p1)]) hx hb dX2_start_138 rfl hl (by decide) rfl (fun ls hl => ?_)
            exact K9 ls _ _ (lv_sub hl [0, 1, 2, 3] rfl) hP hD hS
          · -- not taken at 31: 1 = 0
            exact absurd c_6 (by decide)
        · -- ¬ (gRd md)
          subst hw
          refine lv_if_ne (tgt := 37) hx hb dX2_start_31 (by decide) (fun c_20 => ?_) (fun c_20 => ?_)
          · -- taken at 31: ¬ 0 = 0
            exact absurd c_20 (by decide)
          · -- not taken at 31: 0 = 0
            refine lv_bipush (v := 47) hx hb dX2_start_34 (by decide) ?_
            subst hQ9
            have e9 : gStart p0 p1 (co, z, th, en, md, po, pl, la, d, va, N, U) = (47, (0, z, th, en, md, po, pl, la, d, va, N, U)) := by simp only [gStart, if_neg c_1, if_pos c_2, if_neg c_3, if_neg b_5]
            rw [e9]
            exact W.iret (v := 47) hx hb hr (fun t ht hW => ⟨⟨47, (), rfl, rfl, by rw [ht]; exact hP, va_K.moved hW.alike hK, hD⟩, hS.F ht⟩) hS.2.2 dX2_start_36
      · -- not taken at 21: md = (-1)
        refine lv_bipush (v := 42) hx hb dX2_start_24 (by decide) ?_
        subst hQ9
        have e9 : gStart p0 p1 (co, z, th, en, md, po, pl, la, d, va, N, U) = (42, (0, z, th, en, md, po, pl, la, d, va, N, U)) := by simp only [gStart, if_neg c_1, if_pos c_2, if_pos c_3]
        rw [e9]
        exact W.iret (v := 42) hx hb hr (fun t ht hW => ⟨⟨42, (), rfl, rfl, by rw [ht]; exact hP, va_K.moved hW.alike hK, hD⟩, hS.F ht⟩) hS.2.2 dX2_start_26
    · -- not taken at 11: ¬ p0 ≤ 4
      refine lv_iconst (v := (-1)) hx hb dX2_start_14 (by decide) ?_
      subst hQ9
      have e9 : gStart p0 p1 (co, z, th, en, md, po, pl, la, d, va, N, U) = ((-1), (0, z, th, en, md, po, pl, la, d, va, N, U)) := by simp only [gStart, if_neg c_1, if_neg c_2]
      rw [e9]
      exact W.iret (v := (-1)) hx hb hr (fun t ht hW => ⟨⟨(-1), (), rfl, rfl, by rw [ht]; exact hP, va_K.moved hW.alike hK, hD⟩, hS.F ht⟩) hS.2.2 dX2_start_15

set_option maxHeartbeats 1000000 in
set_option maxRecDepth 100000 in
theorem kX2_next (l : Launch) (dC : Nat → ClassId) (dI : Nat → Nat → Nat) (oM oN oU : Nat) (cN cU : ClassId) (z d : Nat) (co mo th en md po pl la : Int32) (va : Int64) (N : Nat → Int32) (U : Nat → Int64) (p0 : Int32) (sz : Nat) (hz : z ≤ 1100) (hd : d ≤ 9) (hqn : ¬ gNx po pl p0 N z = 0 → ¬ rFind N (gNx po pl p0 N z) z = -1) : Met l yX2_next wsX2_next ({ frames := 2, cells := 0, slots := 0, locals := 44 }) (va_Pc [.ref oM, .int p0] (fun U9 => U9.heap.size = sz ∧ va_P (dC, dI) vwCl [(oM, .inr (3, [.int co, .int mo, .ref oN, .ref oU, .int (nI z), .int th, .int en, .int md, .int po, .int pl, .int la, .int (nI d), .long va])), (oN, .inl (cN, 1100, .inl N)), (oU, .inl (cU, 1100, .inr (.inl U)))] U9.heap ∧ va_K (dC, dI) vwCl [(cN, .int), (cU, .long)] U9 ∧ va_D (fun _ => True) [(oM, .inr (3, [.int co, .int mo, .ref oN, .ref oU, .int (nI z), .int th, .int en, .int md, .int po, .int pl, .int la, .int (nI d), .long va])), (oN, .inl (cN, 1100, .inl N)), (oU, .inl (cU, 1100, .inr (.inl U)))])) (va_Qi (fun (r : Int32) (_ : Unit) => r = (gNext p0 (co, z, th, en, md, po, pl, la, d, va, N, U)).1) (fun (_ : Unit) (t : State) => va_P (dC, dI) vwCl (wM oM oN oU cN cU mo (gNext p0 (co, z, th, en, md, po, pl, la, d, va, N, U)).2) t.heap ∧ va_K (dC, dI) vwCl [(cN, .int), (cU, .long)] t ∧ va_D (va_A [(oM, .inr (3, [.int co, .int mo, .ref oN, .ref oU, .int (nI z), .int th, .int en, .int md, .int po, .int pl, .int la, .int (nI d), .long va])), (oN, .inl (cN, 1100, .inl N)), (oU, .inl (cU, 1100, .inr (.inl U)))] sz) (wM oM oN oU cN cU mo (gNext p0 (co, z, th, en, md, po, pl, la, d, va, N, U)).2)) (va_A [(oM, .inr (3, [.int co, .int mo, .ref oN, .ref oU, .int (nI z), .int th, .int en, .int md, .int po, .int pl, .int la, .int (nI d), .long va])), (oN, .inl (cN, 1100, .inl N)), (oU, .inl (cU, 1100, .inr (.inl U)))] sz)) 0 0 (va_A [(oM, .inr (3, [.int co, .int mo, .ref oN, .ref oU, .int (nI z), .int th, .int en, .int md, .int po, .int pl, .int la, .int (nI d), .long va])), (oN, .inl (cN, 1100, .inl N)), (oU, .inl (cU, 1100, .inr (.inl U)))] sz) := by
  refine Met.ofW (cc := cX2_next) (maxL := 5) (ret := (some .int)) (by decide) rfl ?_
  intro p e s m args below meth c s₁ B hml hv
  obtain ⟨rfl, hsz, hP, hK, hD0⟩ := hv
  have hx := B.exec
  have hb := B.bytes
  have hr := B.returns
  have hts := atoms_spec (ws := wsX2_next) B.pre
  have hown : s.vm.findClass RX2 = some m.cls := findClass_of_methodNamed B.named
  have hlocks := B.notSynchronized
  subst hsz
  have hD := hD0.self (sz := s.heap.size)
  generalize hAe : va_A [(oM, .inr (3, [.int co, .int mo, .ref oN, .ref oU, .int (nI z), .int th, .int en, .int md, .int po, .int pl, .int la, .int (nI d), .long va])), (oN, .inl (cN, 1100, .inl N)), (oU, .inl (cU, 1100, .inr (.inl U)))] s.heap.size = A at hD ⊢
  have hA : ∀ q : Nat, s.heap.size ≤ q → A q := fun q h => by rw [← hAe]; exact Or.inr h
  have hS : va_S A s.heap s.heap [] := va_S.rf
  have hP : va_P (dC, dI) vwCl [(oM, .inr (3, [.int co, .int mo, .ref oN, .ref oU, .int (nI z), .int th, .int en, .int md, .int po, .int pl, .int la, .int (nI d), .long va])), (oN, .inl (cN, 1100, .inl N)), (oU, .inl (cU, 1100, .inr (.inl U)))] s.heap := hP
  have hl := lv_entry ([.ref oM, .int p0]) (n := 5) (Nat.le_of_ble_eq_true rfl)
  rw [lg_entry_eq]
  generalize (lg_sl ([.ref oM, .int p0]) ++ List.replicate (5 - (lg_sl ([.ref oM, .int p0])).length) Slot.unset).toArray = ls at hl ⊢
  have hl : lv_has ls 5 [(0, .ref oM), (1, .int p0)] := hl
  refine W_name (fun Q hQ9 => ?_)
  refine lv_aload_n hx hb dX2_next_0 rfl (lv_at hl 0 rfl) ?_
  refine lv_iconst (v := 0) hx hb dX2_next_1 (by decide) ?_
  refine va_put (D := (dC, dI)) (ci := 3) (v := .int 0) (ty := .int) (C := RX2) (T := TX2) (N := 13) hx hb hts (by decide +kernel) tyX2 tyX2_ok nmX2 hown hK hP hD hS 0 rfl rfl 0 (by decide) (hts (.fieldLink RX2 28 "RelativeFilesModel" "code" "I") (by decide +kernel)) (fun _ h9 => h9) rfl (by decide +kernel) rfl rfl (Nat.le_of_ble_eq_true rfl) dX2_next_2 (fun H locs hP hD hS => ?_)
  have hP : va_P (dC, dI) vwCl [(oM, .inr (3, [.int 0, .int mo, .ref oN, .ref oU, .int (nI z), .int th, .int en, .int md, .int po, .int pl, .int la, .int (nI d), .long va])), (oN, .inl (cN, 1100, .inl N)), (oU, .inl (cU, 1100, .inr (.inl U)))] H := hP
  have hD : va_D A [(oM, .inr (3, [.int 0, .int mo, .ref oN, .ref oU, .int (nI z), .int th, .int en, .int md, .int po, .int pl, .int la, .int (nI d), .long va])), (oN, .inl (cN, 1100, .inl N)), (oU, .inl (cU, 1100, .inr (.inl U)))] := hD
  refine lv_aload_n hx hb dX2_next_5 rfl (lv_at hl 0 rfl) ?_
  refine va_get (D := (dC, dI)) (ci := 3) (v := .int md) (C := RX2) (T := TX2) (N := 13) hx hb hts (by decide +kernel) hown hK hP 0 rfl rfl 7 (by decide) (hts (.fieldLink RX2 17 "RelativeFilesModel" "mode" "I") (by decide +kernel)) (fun _ h9 => h9) rfl dX2_next_6 ?_
  refine lv_iconst (v := (-1)) hx hb dX2_next_9 (by decide) ?_
  refine lv_icmp_ne (tgt := 16) hx hb dX2_next_10 (by decide) (fun c_1 => ?_) (fun c_1 => ?_)
  · -- taken at 10: ¬ md = (-1)
    refine lv_aload_n hx hb dX2_next_16 rfl (lv_at hl 0 rfl) ?_
    have hPc := hP.sub (ws' := [(oM, .inr (3, [.int 0, .int mo, .ref oN, .ref oU, .int (nI z), .int th, .int en, .int md, .int po, .int pl, .int la, .int (nI d), .long va])), (oN, .inl (cN, 1100, .inl N)), (oU, .inl (cU, 1100, .inr (.inl U)))]) [0, 1, 2] rfl
    have hDc := hD.sub (ws' := [(oM, .inr (3, [.int 0, .int mo, .ref oN, .ref oU, .int (nI z), .int th, .int en, .int md, .int po, .int pl, .int la, .int (nI d), .long va])), (oN, .inl (cN, 1100, .inl N)), (oU, .inl (cU, 1100, .inr (.inl U)))]) [0, 1, 2] (by decide) rfl
    have hKc := hK.sub (tys' := [(cN, .int), (cU, .long)]) [0, 1] rfl
    have hFc := va_free (wc := [(oM, .inr (3, [.int 0, .int mo, .ref oN, .ref oU, .int (nI z), .int th, .int en, .int md, .int po, .int pl, .int la, .int (nI d), .long va])), (oN, .inl (cN, 1100, .inl N)), (oU, .inl (cU, 1100, .inr (.inl U)))]) hD hS hA [0, 1, 2] rfl
    refine va_calli (va_runV (As := []) (rest := []) ⟨hx, hb, hml, hown, hts⟩ (kX2_reads l dC dI oM oN oU cN cU z d 0 mo th en md po pl la va N U  H.size hz) (cwV 0 hts gX2_next_X2_reads rfl rfl rfl (by decide +kernel) ⟨Nat.le_of_ble_eq_true rfl, Nat.le_of_ble_eq_true rfl⟩) ⟨fun a U g mk q => by obtain ⟨q0, q1, qP, qK, qD⟩ := q; exact ⟨q0, q1, qP, va_K.moved (u := U) (U := U.calling g mk a) (Vm.Alike.refl U.vm) qK, qD⟩, va_recv hKc hPc (ci := 3) (q0 := 0) rfl rfl, fun U hU hW => ⟨rfl, by rw [hU], by rw [hU]; exact hPc, va_K.moved hW.alike hKc, hDc.weaken (fun _ _ _ _ => trivial)⟩⟩ rfl rfl hl.1 rfl (lv_room (Nat.le_of_ble_eq_true rfl)) dX2_next_17 ⟨Nat.le_of_ble_eq_true rfl, Nat.le_of_ble_eq_true rfl⟩) hS (fun q _ h => hFc q h) hFc (fun r_2 u t H1 locs ht hvm hw hB hz1 hk1 hS => ?_)
    obtain ⟨hP1, hK1, hD1⟩ := hB
    rw [ht] at hP1
    have hK1 := va_K.moved hvm.symm hK1
    try dsimp only at hw
    obtain ⟨hP, hD⟩ := va_join (wr := []) (w1 := [(oM, .inr (3, [.int 0, .int mo, .ref oN, .ref oU, .int (nI z), .int th, .int en, .int md, .int po, .int pl, .int la, .int (nI d), .long va])), (oN, .inl (cN, 1100, .inl N)), (oU, .inl (cU, 1100, .inr (.inl U)))]) hP hD [0, 1, 2] [] rfl rfl (by decide) (by decide) hk1 hFc hP1 hD1
    generalize H1 = H at hP hS ⊢
    have hP : va_P (dC, dI) vwCl [(oM, .inr (3, [.int 0, .int mo, .ref oN, .ref oU, .int (nI z), .int th, .int en, .int md, .int po, .int pl, .int la, .int (nI d), .long va])), (oN, .inl (cN, 1100, .inl N)), (oU, .inl (cU, 1100, .inr (.inl U)))] H := hP.sub [0, 1, 2] rfl
    have hD : va_D A [(oM, .inr (3, [.int 0, .int mo, .ref oN, .ref oU, .int (nI z), .int th, .int en, .int md, .int po, .int pl, .int la, .int (nI d), .long va])), (oN, .inl (cN, 1100, .inl N)), (oU, .inl (cU, 1100, .inr (.inl U)))] := hD.sub [0, 1, 2] (by decide) rfl
    have hK : va_K (dC, dI) vwCl [(cN, .int), (cU, .long)] s := hK
    rcases hw with ⟨b_3, hw⟩ | ⟨b_3, hw⟩
    · -- gRd md
      subst hw
      refine lv_if_ne (tgt := 26) hx hb dX2_next_20 (by decide) (fun c_4 => ?_) (fun c_4 => ?_)
      · -- taken at 20: ¬ 1 = 0
        refine lv_aload_n hx hb dX2_next_26 rfl (lv_at hl 0 rfl) ?_
        refine lv_iconst (v := 0) hx hb dX2_next_27 (by decide) ?_
        refine va_put (D := (dC, dI)) (ci := 3) (v := .int 0) (ty := .int) (C := RX2) (T := TX2) (N := 13) hx hb hts (by decide +kernel) tyX2 tyX2_ok nmX2 hown hK hP hD hS 0 rfl rfl 10 (by decide) (hts (.fieldLink RX2 36 "RelativeFilesModel" "last" "I") (by decide +kernel)) (fun _ h9 => h9) rfl (by decide +kernel) rfl rfl (Nat.le_of_ble_eq_true rfl) dX2_next_28 (fun H locs hP hD hS => ?_)
        have hP : va_P (dC, dI) vwCl [(oM, .inr (3, [.int 0, .int mo, .ref oN, .ref oU, .int (nI z), .int th, .int en, .int md, .int po, .int pl, .int 0, .int (nI d), .long va])), (oN, .inl (cN, 1100, .inl N)), (oU, .inl (cU, 1100, .inr (.inl U)))] H := hP
        have hD : va_D A [(oM, .inr (3, [.int 0, .int mo, .ref oN, .ref oU, .int (nI z), .int th, .int en, .int md, .int po, .int pl, .int 0, .int (nI d), .long va])), (oN, .inl (cN, 1100, .inl N)), (oU, .inl (cU, 1100, .inr (.inl U)))] := hD
        refine lv_aload_n hx hb dX2_next_31 rfl (lv_at hl 0 rfl) ?_
        refine va_get (D := (dC, dI)) (ci := 3) (v := .int po) (C := RX2) (T := TX2) (N := 13) hx hb hts (by decide +kernel) hown hK hP 0 rfl rfl 8 (by decide) (hts (.fieldLink RX2 43 "RelativeFilesModel" "position" "I") (by decide +kernel)) (fun _ h9 => h9) rfl dX2_next_32 ?_
        refine lv_iconst (v := 3) hx hb dX2_next_35 (by decide) ?_
        refine lv_icmp_eq (tgt := 46) hx hb dX2_next_36 (by decide) (fun c_5 => ?_) (fun c_5 => ?_)
        · -- taken at 36: po = 3
          refine lv_bipush (v := 46) hx hb dX2_next_46 (by decide) ?_
          subst hQ9
          have e9 : gNext p0 (co, z, th, en, md, po, pl, la, d, va, N, U) = (46, (0, z, th, en, md, po, pl, 0, d, va, N, U)) := by simp only [gNext, gN2, if_neg c_1, if_pos b_3, if_pos c_5]
          rw [e9]
          exact W.iret (v := 46) hx hb hr (fun t ht hW => ⟨⟨46, (), rfl, rfl, by rw [ht]; exact hP, va_K.moved hW.alike hK, hD⟩, hS.F ht⟩) hS.2.2 dX2_next_48
        · -- not taken at 36: ¬ po = 3
          refine lv_aload_n hx hb dX2_next_39 rfl (lv_at hl 0 rfl) ?_
          refine va_get (D := (dC, dI)) (ci := 3) (v := .int en) (C := RX2) (T := TX2) (N := 13) hx hb hts (by decide +kernel) hown hK hP 0 rfl rfl 6 (by decide) (hts (.fieldLink RX2 46 "RelativeFilesModel" "ended" "Z") (by decide +kernel)) (fun _ h9 => h9) rfl dX2_next_40 ?_
          refine lv_if_eq (tgt := 49) hx hb dX2_next_43 (by decide) (fun c_6 => ?_) (fun c_6 => ?_)
          · -- taken at 43: en = 0
            have K9 : ∀ (ls : Array Slot) (H : Heap) (locs : List Loc), lv_has ls 5 [(0, .ref oM), (1, .int p0)] → va_P (dC, dI) vwCl [(oM, .inr (3, [.int 0, .int mo, .ref oN, .ref oU, .int (nI z), .int th, .int en, .int md, .int po, .int pl, .int 0, .int (nI d), .long va])), (oN, .inl (cN, 1100, .inl N)), (oU, .inl (cU, 1100, .inr (.inl U)))] H → va_D A [(oM, .inr (3, [.int 0, .int mo, .ref oN, .ref oU, .int (nI z), .int th, .int en, .int md, .int po, .int pl, .int 0, .int (nI d), .long va])), (oN, .inl (cN, 1100, .inl N)), (oU, .inl (cU, 1100, .inr (.inl U)))] → va_S A s.heap H locs → W p l e (headSpec wsX2_next ({ frames := 2, cells := 0, slots := 0, locals := 44 })).room s m #[(Value.ref oM), (Value.int p0)] below meth c H locs 0 0 Q (F0 m 97 ls [.long (gBd po pl p0)]) := by
              intro ls H locs hl hP hD hS
              refine lv_lstore_n (lv' := [(2, .long (gBd po pl p0)), (0, .ref oM), (1, .int p0)]) hx hb dX2_next_97 rfl hl (by decide) rfl (fun ls hl => ?_)
              have K8 : ∀ (ls : Array Slot) (H : Heap) (locs : List Loc), lv_has ls 5 [(2, .long (gBd po pl p0)), (0, .ref oM), (1, .int p0)] → va_P (dC, dI) vwCl [(oM, .inr (3, [.int 0, .int mo, .ref oN, .ref oU, .int (nI z), .int th, .int en, .int md, .int po, .int pl, .int 0, .int (nI d), .long va])), (oN, .inl (cN, 1100, .inl N)), (oU, .inl (cU, 1100, .inr (.inl U)))] H → va_D A [(oM, .inr (3, [.int 0, .int mo, .ref oN, .ref oU, .int (nI z), .int th, .int en, .int md, .int po, .int pl, .int 0, .int (nI d), .long va])), (oN, .inl (cN, 1100, .inl N)), (oU, .inl (cU, 1100, .inr (.inl U)))] → va_S A s.heap H locs → W p l e (headSpec wsX2_next ({ frames := 2, cells := 0, slots := 0, locals := 44 })).room s m #[(Value.ref oM), (Value.int p0)] below meth c H locs 0 0 Q (F0 m 115 ls [.int (gNx po pl p0 N z)]) := by
                intro ls H locs hl hP hD hS
                refine lv_istore (lv' := [(4, .int (gNx po pl p0 N z)), (2, .long (gBd po pl p0)), (0, .ref oM), (1, .int p0)]) hx hb dX2_next_115 hl (by decide) rfl (fun ls hl => ?_)
                refine lv_aload_n hx hb dX2_next_117 rfl (lv_at hl 2 rfl) ?_
                refine lv_iload hx hb dX2_next_118 (lv_at hl 0 rfl) ?_
                refine lv_if_ne (tgt := 127) hx hb dX2_next_120 (by decide) (fun c_7 => ?_) (fun c_7 => ?_)
                · -- taken at 120: ¬ (gNx po pl p0 N z) = 0
                  refine lv_iconst (v := 0) hx hb dX2_next_127 (by decide) ?_
                  refine va_put (D := (dC, dI)) (ci := 3) (v := .int 0) (ty := .boolean) (C := RX2) (T := TX2) (N := 13) hx hb hts (by decide +kernel) tyX2 tyX2_ok nmX2 hown hK hP hD hS 0 rfl rfl 6 (by decide) (hts (.fieldLink RX2 46 "RelativeFilesModel" "ended" "Z") (by decide +kernel)) (fun _ h9 => h9) rfl (by decide +kernel) (by decide) (by decide) (Nat.le_of_ble_eq_true rfl) dX2_next_128 (fun H locs hP hD hS => ?_)
                  have hP : va_P (dC, dI) vwCl [(oM, .inr (3, [.int 0, .int mo, .ref oN, .ref oU, .int (nI z), .int th, .int 0, .int md, .int po, .int pl, .int 0, .int (nI d), .long va])), (oN, .inl (cN, 1100, .inl N)), (oU, .inl (cU, 1100, .inr (.inl U)))] H := hP
                  have hD : va_D A [(oM, .inr (3, [.int 0, .int mo, .ref oN, .ref oU, .int (nI z), .int th, .int 0, .int md, .int po, .int pl, .int 0, .int (nI d), .long va])), (oN, .inl (cN, 1100, .inl N)), (oU, .inl (cU, 1100, .inr (.inl U)))] := hD
                  refine lv_aload_n hx hb dX2_next_131 rfl (lv_at hl 2 rfl) ?_
                  refine va_get (D := (dC, dI)) (ci := 3) (v := .int 0) (C := RX2) (T := TX2) (N := 13) hx hb hts (by decide +kernel) hown hK hP 0 rfl rfl 6 (by decide) (hts (.fieldLink RX2 46 "RelativeFilesModel" "ended" "Z") (by decide +kernel)) (fun _ h9 => h9) rfl dX2_next_132 ?_
                  refine lv_if_eq (tgt := 141) hx hb dX2_next_135 (by decide) (fun c_8 => ?_) (fun c_8 => ?_)
                  · -- taken at 135: 0 = 0
                    refine lv_aload_n hx hb dX2_next_141 rfl (lv_at hl 2 rfl) ?_
                    refine lv_iload hx hb dX2_next_142 (lv_at hl 0 rfl) ?_
                    have hPc := hP.sub (ws' := [(oM, .inr (3, [.int 0, .int mo, .ref oN, .ref oU, .int (nI z), .int th, .int 0, .int md, .int po, .int pl, .int 0, .int (nI d), .long va])), (oN, .inl (cN, 1100, .inl N)), (oU, .inl (cU, 1100, .inr (.inl U)))]) [0, 1, 2] rfl
                    have hDc := hD.sub (ws' := [(oM, .inr (3, [.int 0, .int mo, .ref oN, .ref oU, .int (nI z), .int th, .int 0, .int md, .int po, .int pl, .int 0, .int (nI d), .long va])), (oN, .inl (cN, 1100, .inl N)), (oU, .inl (cU, 1100, .inr (.inl U)))]) [0, 1, 2] (by decide) rfl
                    have hKc := hK.sub (tys' := [(cN, .int), (cU, .long)]) [0, 1] rfl
                    have hFc := va_free (wc := [(oM, .inr (3, [.int 0, .int mo, .ref oN, .ref oU, .int (nI z), .int th, .int 0, .int md, .int po, .int pl, .int 0, .int (nI d), .long va])), (oN, .inl (cN, 1100, .inl N)), (oU, .inl (cU, 1100, .inr (.inl U)))]) hD hS hA [0, 1, 2] rfl
                    refine va_calli (va_runV (As := [.int (gNx po pl p0 N z)]) (rest := []) ⟨hx, hb, hml, hown, hts⟩ (kX2_isLong l dC dI oM oN oU cN cU z d 0 mo th 0 md po pl 0 va N U (gNx po pl p0 N z) H.size hz hd) (cwV 1 hts gX2_next_X2_isLong rfl rfl rfl (by decide +kernel) ⟨Nat.le_of_ble_eq_true rfl, Nat.le_of_ble_eq_true rfl⟩) ⟨fun a U g mk q => by obtain ⟨q0, q1, qP, qK, qD⟩ := q; exact ⟨q0, q1, qP, va_K.moved (u := U) (U := U.calling g mk a) (Vm.Alike.refl U.vm) qK, qD⟩, va_recv hKc hPc (ci := 3) (q0 := 0) rfl rfl, fun U hU hW => ⟨rfl, by rw [hU], by rw [hU]; exact hPc, va_K.moved hW.alike hKc, hDc.weaken (fun _ _ _ _ => trivial)⟩⟩ rfl rfl hl.1 rfl (lv_room (Nat.le_of_ble_eq_true rfl)) dX2_next_144 ⟨Nat.le_of_ble_eq_true rfl, Nat.le_of_ble_eq_true rfl⟩) hS (fun q _ h => hFc q h) hFc (fun r_9 u t H1 locs ht hvm hw hB hz1 hk1 hS => ?_)
                    obtain ⟨hP1, hK1, hD1⟩ := hB
                    rw [ht] at hP1
                    have hK1 := va_K.moved hvm.symm hK1
                    try dsimp only at hw
                    obtain ⟨hP, hD⟩ := va_join (wr := []) (w1 := [(oM, .inr (3, [.int 0, .int mo, .ref oN, .ref oU, .int (nI z), .int th, .int 0, .int md, .int po, .int pl, .int 0, .int (nI d), .long va])), (oN, .inl (cN, 1100, .inl N)), (oU, .inl (cU, 1100, .inr (.inl U)))]) hP hD [0, 1, 2] [] rfl rfl (by decide) (by decide) hk1 hFc hP1 hD1
                    generalize H1 = H at hP hS ⊢
                    have hP : va_P (dC, dI) vwCl [(oM, .inr (3, [.int 0, .int mo, .ref oN, .ref oU, .int (nI z), .int th, .int 0, .int md, .int po, .int pl, .int 0, .int (nI d), .long va])), (oN, .inl (cN, 1100, .inl N)), (oU, .inl (cU, 1100, .inr (.inl U)))] H := hP.sub [0, 1, 2] rfl
                    have hD : va_D A [(oM, .inr (3, [.int 0, .int mo, .ref oN, .ref oU, .int (nI z), .int th, .int 0, .int md, .int po, .int pl, .int 0, .int (nI d), .long va])), (oN, .inl (cN, 1100, .inl N)), (oU, .inl (cU, 1100, .inr (.inl U)))] := hD.sub [0, 1, 2] (by decide) rfl
                    have hK : va_K (dC, dI) vwCl [(cN, .int), (cU, .long)] s := hK
                    rcases hw with ⟨b_10, hw⟩ | ⟨b_10, hw⟩
                    · -- gLong (gNx po pl p0 N z) d
                      subst hw
                      refine lv_if_eq (tgt := 158) hx hb dX2_next_147 (by decide) (fun c_11 => ?_) (fun c_11 => ?_)
                      · -- taken at 147: 1 = 0
                        exact absurd c_11 (by decide)
                      · -- not taken at 147: ¬ 1 = 0
                        refine lv_aload_n hx hb dX2_next_150 rfl (lv_at hl 2 rfl) ?_
                        refine lv_iconst (v := 3) hx hb dX2_next_151 (by decide) ?_
                        refine va_put (D := (dC, dI)) (ci := 3) (v := .int 3) (ty := .int) (C := RX2) (T := TX2) (N := 13) hx hb hts (by decide +kernel) tyX2 tyX2_ok nmX2 hown hK hP hD hS 0 rfl rfl 8 (by decide) (hts (.fieldLink RX2 43 "RelativeFilesModel" "position" "I") (by decide +kernel)) (fun _ h9 => h9) rfl (by decide +kernel) rfl rfl (Nat.le_of_ble_eq_true rfl) dX2_next_152 (fun H locs hP hD hS => ?_)
                        have hP : va_P (dC, dI) vwCl [(oM, .inr (3, [.int 0, .int mo, .ref oN, .ref oU, .int (nI z), .int th, .int 0, .int md, .int 3, .int pl, .int 0, .int (nI d), .long va])), (oN, .inl (cN, 1100, .inl N)), (oU, .inl (cU, 1100, .inr (.inl U)))] H := hP
                        have hD : va_D A [(oM, .inr (3, [.int 0, .int mo, .ref oN, .ref oU, .int (nI z), .int th, .int 0, .int md, .int 3, .int pl, .int 0, .int (nI d), .long va])), (oN, .inl (cN, 1100, .inl N)), (oU, .inl (cU, 1100, .inr (.inl U)))] := hD
                        refine lv_bipush (v := 14) hx hb dX2_next_155 (by decide) ?_
                        subst hQ9
                        have e9 : gNext p0 (co, z, th, en, md, po, pl, la, d, va, N, U) = (14, (0, z, th, 0, md, 3, pl, 0, d, va, N, U)) := by simp only [gNext, gN2, if_neg c_1, if_pos b_3, if_neg c_5, if_pos c_6, if_neg c_7, if_pos b_10]
                        rw [e9]
                        exact W.iret (v := 14) hx hb hr (fun t ht hW => ⟨⟨14, (), rfl, rfl, by rw [ht]; exact hP, va_K.moved hW.alike hK, hD⟩, hS.F ht⟩) hS.2.2 dX2_next_157
                    · -- ¬ (gLong (gNx po pl p0 N z) d)
                      subst hw
                      refine lv_if_eq (tgt := 158) hx hb dX2_next_147 (by decide) (fun c_12 => ?_) (fun c_12 => ?_)
                      · -- taken at 147: 0 = 0
                        refine lv_aload_n hx hb dX2_next_158 rfl (lv_at hl 2 rfl) ?_
                        refine lv_iload hx hb dX2_next_159 (lv_at hl 0 rfl) ?_
                        have hq := hqn c_7
                        have hPc := hP.sub (ws' := [(oM, .inr (3, [.int 0, .int mo, .ref oN, .ref oU, .int (nI z), .int th, .int 0, .int md, .int po, .int pl, .int 0, .int (nI d), .long va])), (oN, .inl (cN, 1100, .inl N)), (oU, .inl (cU, 1100, .inr (.inl U)))]) [0, 1, 2] rfl
                        have hDc := hD.sub (ws' := [(oM, .inr (3, [.int 0, .int mo, .ref oN, .ref oU, .int (nI z), .int th, .int 0, .int md, .int po, .int pl, .int 0, .int (nI d), .long va])), (oN, .inl (cN, 1100, .inl N)), (oU, .inl (cU, 1100, .inr (.inl U)))]) [0, 1, 2] (by decide) rfl
                        have hKc := hK.sub (tys' := [(cN, .int), (cU, .long)]) [0, 1] rfl
                        have hFc := va_free (wc := [(oM, .inr (3, [.int 0, .int mo, .ref oN, .ref oU, .int (nI z), .int th, .int 0, .int md, .int po, .int pl, .int 0, .int (nI d), .long va])), (oN, .inl (cN, 1100, .inl N)), (oU, .inl (cU, 1100, .inr (.inl U)))]) hD hS hA [0, 1, 2] rfl
                        refine va_callv (va_runV (As := [.int (gNx po pl p0 N z)]) (rest := []) ⟨hx, hb, hml, hown, hts⟩ (kX2_take l dC dI oM oN oU cN cU z d 0 mo th 0 md po pl 0 va N U (gNx po pl p0 N z) H.size hz hq) (cwV 1 hts gX2_next_X2_take rfl rfl rfl (by decide +kernel) ⟨Nat.le_of_ble_eq_true rfl, Nat.le_of_ble_eq_true rfl⟩) ⟨fun a U g mk q => by obtain ⟨q0, q1, qP, qK, qD⟩ := q; exact ⟨q0, q1, qP, va_K.moved (u := U) (U := U.calling g mk a) (Vm.Alike.refl U.vm) qK, qD⟩, va_recv hKc hPc (ci := 3) (q0 := 0) rfl rfl, fun U hU hW => ⟨rfl, by rw [hU], by rw [hU]; exact hPc, va_K.moved hW.alike hKc, hDc.weaken (fun _ _ _ _ => trivial)⟩⟩ rfl rfl hl.1 rfl (lv_room (Nat.le_of_ble_eq_true rfl)) dX2_next_161 ⟨Nat.le_of_ble_eq_true rfl, Nat.le_of_ble_eq_true rfl⟩) hS (fun q _ h => hFc q h) hFc (fun u t H1 locs ht hvm hw hB hz1 hk1 hS => ?_)
                        obtain ⟨hP1, hK1, hD1⟩ := hB
                        rw [ht] at hP1
                        have hK1 := va_K.moved hvm.symm hK1
                        try dsimp only at hw
                        obtain ⟨hP, hD⟩ := va_join (wr := []) (w1 := [(oM, .inr (3, [.int 0, .int mo, .ref oN, .ref oU, .int (nI z), .int th, .int 0, .int md, .int 1, .int (gNx po pl p0 N z), .int (gNx po pl p0 N z), .int (nI d), .long (U (rFind N (gNx po pl p0 N z) z).toNatClampNeg)])), (oN, .inl (cN, 1100, .inl N)), (oU, .inl (cU, 1100, .inr (.inl U)))]) hP hD [0, 1, 2] [] rfl rfl (by decide) (by decide) hk1 hFc hP1 hD1
                        generalize H1 = H at hP hS ⊢
                        have hP : va_P (dC, dI) vwCl [(oM, .inr (3, [.int 0, .int mo, .ref oN, .ref oU, .int (nI z), .int th, .int 0, .int md, .int 1, .int (gNx po pl p0 N z), .int (gNx po pl p0 N z), .int (nI d), .long (U (rFind N (gNx po pl p0 N z) z).toNatClampNeg)])), (oN, .inl (cN, 1100, .inl N)), (oU, .inl (cU, 1100, .inr (.inl U)))] H := hP.sub [0, 1, 2] rfl
                        have hD : va_D A [(oM, .inr (3, [.int 0, .int mo, .ref oN, .ref oU, .int (nI z), .int th, .int 0, .int md, .int 1, .int (gNx po pl p0 N z), .int (gNx po pl p0 N z), .int (nI d), .long (U (rFind N (gNx po pl p0 N z) z).toNatClampNeg)])), (oN, .inl (cN, 1100, .inl N)), (oU, .inl (cU, 1100, .inr (.inl U)))] := hD.sub [0, 1, 2] (by decide) rfl
                        have hK : va_K (dC, dI) vwCl [(cN, .int), (cU, .long)] s := hK
                        refine lv_iconst (v := 0) hx hb dX2_next_164 (by decide) ?_
                        subst hQ9
                        have e9 : gNext p0 (co, z, th, en, md, po, pl, la, d, va, N, U) = (0, (0, z, th, 0, md, 1, gNx po pl p0 N z, gNx po pl p0 N z, d, U (rFind N (gNx po pl p0 N z) z).toNatClampNeg, N, U)) := by simp only [gNext, gN2, if_neg c_1, if_pos b_3, if_neg c_5, if_pos c_6, if_neg c_7, if_neg b_10]
                        rw [e9]
                        exact W.iret (v := 0) hx hb hr (fun t ht hW => ⟨⟨0, (), rfl, rfl, by rw [ht]; exact hP, va_K.moved hW.alike hK, hD⟩, hS.F ht⟩) hS.2.2 dX2_next_165
                      · -- not taken at 147: ¬ 0 = 0
                        exact absurd c_12 (by decide)
                  · -- not taken at 135: ¬ 0 = 0
                    exact absurd c_8 (by decide)
                · -- not taken at 120: (gNx po pl p0 N z) = 0
                  refine lv_iconst (v := 1) hx hb dX2_next_123 (by decide) ?_
                  refine lv_goto (tgt := 128) hx hb dX2_next_124 (by decide) ?_
                  refine va_put (D := (dC, dI)) (ci := 3) (v := .int 1) (ty := .boolean) (C := RX2) (T := TX2) (N := 13) hx hb hts (by decide +kernel) tyX2 tyX2_ok nmX2 hown hK hP hD hS 0 rfl rfl 6 (by decide) (hts (.fieldLink RX2 46 "RelativeFilesModel" "ended" "Z") (by decide +kernel)) (fun _ h9 => h9) rfl (by decide +kernel) (by decide) (by decide) (Nat.le_of_ble_eq_true rfl) dX2_next_128 (fun H locs hP hD hS => ?_)
                  have hP : va_P (dC, dI) vwCl [(oM, .inr (3, [.int 0, .int mo, .ref oN, .ref oU, .int (nI z), .int th, .int 1, .int md, .int po, .int pl, .int 0, .int (nI d), .long va])), (oN, .inl (cN, 1100, .inl N)), (oU, .inl (cU, 1100, .inr (.inl U)))] H := hP
                  have hD : va_D A [(oM, .inr (3, [.int 0, .int mo, .ref oN, .ref oU, .int (nI z), .int th, .int 1, .int md, .int po, .int pl, .int 0, .int (nI d), .long va])), (oN, .inl (cN, 1100, .inl N)), (oU, .inl (cU, 1100, .inr (.inl U)))] := hD
                  refine lv_aload_n hx hb dX2_next_131 rfl (lv_at hl 2 rfl) ?_
                  refine va_get (D := (dC, dI)) (ci := 3) (v := .int 1) (C := RX2) (T := TX2) (N := 13) hx hb hts (by decide +kernel) hown hK hP 0 rfl rfl 6 (by decide) (hts (.fieldLink RX2 46 "RelativeFilesModel" "ended" "Z") (by decide +kernel)) (fun _ h9 => h9) rfl dX2_next_132 ?_
                  refine lv_if_eq (tgt := 141) hx hb dX2_next_135 (by decide) (fun c_14 => ?_) (fun c_14 => ?_)
                  · -- taken at 135: 1 = 0
                    exact absurd c_14 (by decide)
                  · -- not taken at 135: ¬ 1 = 0
                    refine lv_bipush (v := 10) hx hb dX2_next_138 (by decide) ?_
                    subst hQ9
                    have e9 : gNext p0 (co, z, th, en, md, po, pl, la, d, va, N, U) = (10, (0, z, th, 1, md, po, pl, 0, d, va, N, U)) := by simp only [gNext, gN2, if_neg c_1, if_pos b_3, if_neg c_5, if_pos c_6, if_pos c_7]
                    rw [e9]
                    exact W.iret (v := 10) hx hb hr (fun t ht hW => ⟨⟨10, (), rfl, rfl, by rw [ht]; exact hP, va_K.moved hW.alike hK, hD⟩, hS.F ht⟩) hS.2.2 dX2_next_140
              refine lv_iload_n hx hb dX2_next_98 rfl (lv_at hl 2 rfl) ?_
              refine lv_if_eq (tgt := 110) hx hb dX2_next_99 (by decide) (fun c_15 => ?_) (fun c_15 => ?_)
              · -- taken at 99: p0 = 0
                refine lv_aload_n hx hb dX2_next_110 rfl (lv_at hl 1 rfl) ?_
                refine lv_lload_n hx hb dX2_next_111 rfl (lv_at hl 0 rfl) ?_
                have hPc := hP.sub (ws' := [(oM, .inr (3, [.int 0, .int mo, .ref oN, .ref oU, .int (nI z), .int th, .int en, .int md, .int po, .int pl, .int 0, .int (nI d), .long va])), (oN, .inl (cN, 1100, .inl N)), (oU, .inl (cU, 1100, .inr (.inl U)))]) [0, 1, 2] rfl
                have hDc := hD.sub (ws' := [(oM, .inr (3, [.int 0, .int mo, .ref oN, .ref oU, .int (nI z), .int th, .int en, .int md, .int po, .int pl, .int 0, .int (nI d), .long va])), (oN, .inl (cN, 1100, .inl N)), (oU, .inl (cU, 1100, .inr (.inl U)))]) [0, 1, 2] (by decide) rfl
                have hKc := hK.sub (tys' := [(cN, .int), (cU, .long)]) [0, 1] rfl
                have hFc := va_free (wc := [(oM, .inr (3, [.int 0, .int mo, .ref oN, .ref oU, .int (nI z), .int th, .int en, .int md, .int po, .int pl, .int 0, .int (nI d), .long va])), (oN, .inl (cN, 1100, .inl N)), (oU, .inl (cU, 1100, .inr (.inl U)))]) hD hS hA [0, 1, 2] rfl
                refine va_calli (va_runV (As := [.long (gBd po pl p0)]) (rest := []) ⟨hx, hb, hml, hown, hts⟩ (kX2_from l dC dI oM oN oU cN cU z d 0 mo th en md po pl 0 va N U (gBd po pl p0) H.size hz) (cwV 1 hts gX2_next_X2_from rfl rfl rfl (by decide +kernel) ⟨Nat.le_of_ble_eq_true rfl, Nat.le_of_ble_eq_true rfl⟩) ⟨fun a U g mk q => by obtain ⟨q0, q1, qP, qK, qD⟩ := q; exact ⟨q0, q1, qP, va_K.moved (u := U) (U := U.calling g mk a) (Vm.Alike.refl U.vm) qK, qD⟩, va_recv hKc hPc (ci := 3) (q0 := 0) rfl rfl, fun U hU hW => ⟨rfl, by rw [hU], by rw [hU]; exact hPc, va_K.moved hW.alike hKc, hDc.weaken (fun _ _ _ _ => trivial)⟩⟩ rfl rfl hl.1 rfl (lv_room (Nat.le_of_ble_eq_true rfl)) dX2_next_112 ⟨Nat.le_of_ble_eq_true rfl, Nat.le_of_ble_eq_true rfl⟩) hS (fun q _ h => hFc q h) hFc (fun r_16 u t H1 locs ht hvm hw hB hz1 hk1 hS => ?_)
                obtain ⟨hP1, hK1, hD1⟩ := hB
                rw [ht] at hP1
                have hK1 := va_K.moved hvm.symm hK1
                try dsimp only at hw
                obtain ⟨hP, hD⟩ := va_join (wr := []) (w1 := [(oM, .inr (3, [.int 0, .int mo, .ref oN, .ref oU, .int (nI z), .int th, .int en, .int md, .int po, .int pl, .int 0, .int (nI d), .long va])), (oN, .inl (cN, 1100, .inl N)), (oU, .inl (cU, 1100, .inr (.inl U)))]) hP hD [0, 1, 2] [] rfl rfl (by decide) (by decide) hk1 hFc hP1 hD1
                generalize H1 = H at hP hS ⊢
                have hP : va_P (dC, dI) vwCl [(oM, .inr (3, [.int 0, .int mo, .ref oN, .ref oU, .int (nI z), .int th, .int en, .int md, .int po, .int pl, .int 0, .int (nI d), .long va])), (oN, .inl (cN, 1100, .inl N)), (oU, .inl (cU, 1100, .inr (.inl U)))] H := hP.sub [0, 1, 2] rfl
                have hD : va_D A [(oM, .inr (3, [.int 0, .int mo, .ref oN, .ref oU, .int (nI z), .int th, .int en, .int md, .int po, .int pl, .int 0, .int (nI d), .long va])), (oN, .inl (cN, 1100, .inl N)), (oU, .inl (cU, 1100, .inr (.inl U)))] := hD.sub [0, 1, 2] (by decide) rfl
                have hK : va_K (dC, dI) vwCl [(cN, .int), (cU, .long)] s := hK
                subst hw
                refine W_topi (gNx po pl p0 N z) (by simp only [gNx, if_neg c_1, if_pos b_3, if_neg c_5, if_pos c_6, if_pos c_15]) ?_
                exact K8 ls _ _ hl hP hD hS
              · -- not taken at 99: ¬ p0 = 0
                refine lv_aload_n hx hb dX2_next_102 rfl (lv_at hl 1 rfl) ?_
                refine lv_lload_n hx hb dX2_next_103 rfl (lv_at hl 0 rfl) ?_
                have hPc := hP.sub (ws' := [(oM, .inr (3, [.int 0, .int mo, .ref oN, .ref oU, .int (nI z), .int th, .int en, .int md, .int po, .int pl, .int 0, .int (nI d), .long va])), (oN, .inl (cN, 1100, .inl N)), (oU, .inl (cU, 1100, .inr (.inl U)))]) [0, 1, 2] rfl
                have hDc := hD.sub (ws' := [(oM, .inr (3, [.int 0, .int mo, .ref oN, .ref oU, .int (nI z), .int th, .int en, .int md, .int po, .int pl, .int 0, .int (nI d), .long va])), (oN, .inl (cN, 1100, .inl N)), (oU, .inl (cU, 1100, .inr (.inl U)))]) [0, 1, 2] (by decide) rfl
                have hKc := hK.sub (tys' := [(cN, .int), (cU, .long)]) [0, 1] rfl
                have hFc := va_free (wc := [(oM, .inr (3, [.int 0, .int mo, .ref oN, .ref oU, .int (nI z), .int th, .int en, .int md, .int po, .int pl, .int 0, .int (nI d), .long va])), (oN, .inl (cN, 1100, .inl N)), (oU, .inl (cU, 1100, .inr (.inl U)))]) hD hS hA [0, 1, 2] rfl
                refine va_calli (va_runV (As := [.long (gBd po pl p0)]) (rest := []) ⟨hx, hb, hml, hown, hts⟩ (kX2_upTo l dC dI oM oN oU cN cU z d 0 mo th en md po pl 0 va N U (gBd po pl p0) H.size hz) (cwV 1 hts gX2_next_X2_upTo rfl rfl rfl (by decide +kernel) ⟨Nat.le_of_ble_eq_true rfl, Nat.le_of_ble_eq_true rfl⟩) ⟨fun a U g mk q => by obtain ⟨q0, q1, qP, qK, qD⟩ := q; exact ⟨q0, q1, qP, va_K.moved (u := U) (U := U.calling g mk a) (Vm.Alike.refl U.vm) qK, qD⟩, va_recv hKc hPc (ci := 3) (q0 := 0) rfl rfl, fun U hU hW => ⟨rfl, by rw [hU], by rw [hU]; exact hPc, va_K.moved hW.alike hKc, hDc.weaken (fun _ _ _ _ => trivial)⟩⟩ rfl rfl hl.1 rfl (lv_room (Nat.le_of_ble_eq_true rfl)) dX2_next_104 ⟨Nat.le_of_ble_eq_true rfl, Nat.le_of_ble_eq_true rfl⟩) hS (fun q _ h => hFc q h) hFc (fun r_17 u t H1 locs ht hvm hw hB hz1 hk1 hS => ?_)
                obtain ⟨hP1, hK1, hD1⟩ := hB
                rw [ht] at hP1
                have hK1 := va_K.moved hvm.symm hK1
                try dsimp only at hw
                obtain ⟨hP, hD⟩ := va_join (wr := []) (w1 := [(oM, .inr (3, [.int 0, .int mo, .ref oN, .ref oU, .int (nI z), .int th, .int en, .int md, .int po, .int pl, .int 0, .int (nI d), .long va])), (oN, .inl (cN, 1100, .inl N)), (oU, .inl (cU, 1100, .inr (.inl U)))]) hP hD [0, 1, 2] [] rfl rfl (by decide) (by decide) hk1 hFc hP1 hD1
                generalize H1 = H at hP hS ⊢
                have hP : va_P (dC, dI) vwCl [(oM, .inr (3, [.int 0, .int mo, .ref oN, .ref oU, .int (nI z), .int th, .int en, .int md, .int po, .int pl, .int 0, .int (nI d), .long va])), (oN, .inl (cN, 1100, .inl N)), (oU, .inl (cU, 1100, .inr (.inl U)))] H := hP.sub [0, 1, 2] rfl
                have hD : va_D A [(oM, .inr (3, [.int 0, .int mo, .ref oN, .ref oU, .int (nI z), .int th, .int en, .int md, .int po, .int pl, .int 0, .int (nI d), .long va])), (oN, .inl (cN, 1100, .inl N)), (oU, .inl (cU, 1100, .inr (.inl U)))] := hD.sub [0, 1, 2] (by decide) rfl
                have hK : va_K (dC, dI) vwCl [(cN, .int), (cU, .long)] s := hK
                subst hw
                refine lv_goto (tgt := 115) hx hb dX2_next_107 (by decide) ?_
                refine W_topi (gNx po pl p0 N z) (by simp only [gNx, if_neg c_1, if_pos b_3, if_neg c_5, if_pos c_6, if_neg c_15]) ?_
                exact K8 ls _ _ hl hP hD hS
            refine lv_aload_n hx hb dX2_next_49 rfl (lv_at hl 0 rfl) ?_
            refine va_get (D := (dC, dI)) (ci := 3) (v := .int po) (C := RX2) (T := TX2) (N := 13) hx hb hts (by decide +kernel) hown hK hP 0 rfl rfl 8 (by decide) (hts (.fieldLink RX2 43 "RelativeFilesModel" "position" "I") (by decide +kernel)) (fun _ h9 => h9) rfl dX2_next_50 ?_
            refine lv_if_ne (tgt := 60) hx hb dX2_next_53 (by decide) (fun c_18 => ?_) (fun c_18 => ?_)
            · -- taken at 53: ¬ po = 0
              refine lv_aload_n hx hb dX2_next_60 rfl (lv_at hl 0 rfl) ?_
              refine va_get (D := (dC, dI)) (ci := 3) (v := .int po) (C := RX2) (T := TX2) (N := 13) hx hb hts (by decide +kernel) hown hK hP 0 rfl rfl 8 (by decide) (hts (.fieldLink RX2 43 "RelativeFilesModel" "position" "I") (by decide +kernel)) (fun _ h9 => h9) rfl dX2_next_61 ?_
              refine lv_iconst (v := 2) hx hb dX2_next_64 (by decide) ?_
              refine lv_icmp_ne (tgt := 76) hx hb dX2_next_65 (by decide) (fun c_19 => ?_) (fun c_19 => ?_)
              · -- taken at 65: ¬ po = 2
                refine lv_iload_n hx hb dX2_next_76 rfl (lv_at hl 1 rfl) ?_
                refine lv_if_eq (tgt := 90) hx hb dX2_next_77 (by decide) (fun c_20 => ?_) (fun c_20 => ?_)
                · -- taken at 77: p0 = 0
                  refine lv_aload_n hx hb dX2_next_90 rfl (lv_at hl 0 rfl) ?_
                  refine va_get (D := (dC, dI)) (ci := 3) (v := .int pl) (C := RX2) (T := TX2) (N := 13) hx hb hts (by decide +kernel) hown hK hP 0 rfl rfl 9 (by decide) (hts (.fieldLink RX2 72 "RelativeFilesModel" "place" "I") (by decide +kernel)) (fun _ h9 => h9) rfl dX2_next_91 ?_
                  refine lv_i2l (v := pl.toInt64) hx hb dX2_next_94 rfl ?_
                  refine lv_lconst (v := 1) hx hb dX2_next_95 (by decide) ?_
                  refine lv_ladd hx hb dX2_next_96 ?_
                  refine W_topl (gBd po pl p0) (by simp only [gBd, if_neg c_1, if_pos b_3, if_neg c_5, if_pos c_6, if_neg c_18, if_neg c_19, if_pos c_20]) ?_
                  exact K9 ls _ _ hl hP hD hS
                · -- not taken at 77: ¬ p0 = 0
                  refine lv_aload_n hx hb dX2_next_80 rfl (lv_at hl 0 rfl) ?_
                  refine va_get (D := (dC, dI)) (ci := 3) (v := .int pl) (C := RX2) (T := TX2) (N := 13) hx hb hts (by decide +kernel) hown hK hP 0 rfl rfl 9 (by decide) (hts (.fieldLink RX2 72 "RelativeFilesModel" "place" "I") (by decide +kernel)) (fun _ h9 => h9) rfl dX2_next_81 ?_
                  refine lv_i2l (v := pl.toInt64) hx hb dX2_next_84 rfl ?_
                  refine lv_lconst (v := 1) hx hb dX2_next_85 (by decide) ?_
                  refine lv_lsub hx hb dX2_next_86 ?_
                  refine lv_goto (tgt := 97) hx hb dX2_next_87 (by decide) ?_
                  refine W_topl (gBd po pl p0) (by simp only [gBd, if_neg c_1, if_pos b_3, if_neg c_5, if_pos c_6, if_neg c_18, if_neg c_19, if_neg c_20]) ?_
                  exact K9 ls _ _ hl hP hD hS
              · -- not taken at 65: po = 2
                refine lv_aload_n hx hb dX2_next_68 rfl (lv_at hl 0 rfl) ?_
                refine va_get (D := (dC, dI)) (ci := 3) (v := .int pl) (C := RX2) (T := TX2) (N := 13) hx hb hts (by decide +kernel) hown hK hP 0 rfl rfl 9 (by decide) (hts (.fieldLink RX2 72 "RelativeFilesModel" "place" "I") (by decide +kernel)) (fun _ h9 => h9) rfl dX2_next_69 ?_
                refine lv_i2l (v := pl.toInt64) hx hb dX2_next_72 rfl ?_
                refine lv_goto (tgt := 97) hx hb dX2_next_73 (by decide) ?_
                refine W_topl (gBd po pl p0) (by simp only [gBd, if_neg c_1, if_pos b_3, if_neg c_5, if_pos c_6, if_neg c_18, if_pos c_19]) ?_
                exact K9 ls _ _ hl hP hD hS
            · -- not taken at 53: po = 0
              refine lv_lconst (v := 0) hx hb dX2_next_56 (by decide) ?_
              refine lv_goto (tgt := 97) hx hb dX2_next_57 (by decide) ?_
              refine W_topl (gBd po pl p0) (by simp only [gBd, if_neg c_1, if_pos b_3, if_neg c_5, if_pos c_6, if_pos c_18]) ?_
              exact K9 ls _ _ hl hP hD hS
          · -- not taken at 43: ¬ en = 0
            refine lv_bipush (v := 46) hx hb dX2_next_46 (by decide) ?_
            subst hQ9
            have e9 : gNext p0 (co, z, th, en, md, po, pl, la, d, va, N, U) = (46, (0, z, th, en, md, po, pl, 0, d, va, N, U)) := by simp only [gNext, gN2, if_neg c_1, if_pos b_3, if_neg c_5, if_neg c_6]
            rw [e9]
            exact W.iret (v := 46) hx hb hr (fun t ht hW => ⟨⟨46, (), rfl, rfl, by rw [ht]; exact hP, va_K.moved hW.alike hK, hD⟩, hS.F ht⟩) hS.2.2 dX2_next_48
      · -- not taken at 20: 1 = 0
        exact absurd c_4 (by decide)
    · -- ¬ (gRd md)
      subst hw
      refine lv_if_ne (tgt := 26) hx hb dX2_next_20 (by decide) (fun c_21 => ?_) (fun c_21 => ?_)
      · -- taken at 20: ¬ 0 = 0
        exact absurd c_21 (by decide)
      · -- not taken at 20: 0 = 0
        refine lv_bipush (v := 47) hx hb dX2_next_23 (by decide) ?_
        subst hQ9
        have e9 : gNext p0 (co, z, th, en, md, po, pl, la, d, va, N, U) = (47, (0, z, th, en, md, po, pl, la, d, va, N, U)) := by simp only [gNext, gN2, if_neg c_1, if_neg b_3]
        rw [e9]
        exact W.iret (v := 47) hx hb hr (fun t ht hW => ⟨⟨47, (), rfl, rfl, by rw [ht]; exact hP, va_K.moved hW.alike hK, hD⟩, hS.F ht⟩) hS.2.2 dX2_next_25
  · -- not taken at 10: md = (-1)
    refine lv_bipush (v := 42) hx hb dX2_next_13 (by decide) ?_
    subst hQ9
    have e9 : gNext p0 (co, z, th, en, md, po, pl, la, d, va, N, U) = (42, (0, z, th, en, md, po, pl, la, d, va, N, U)) := by simp only [gNext, gN2, if_pos c_1]
    rw [e9]
    exact W.iret (v := 42) hx hb hr (fun t ht hW => ⟨⟨42, (), rfl, rfl, by rw [ht]; exact hP, va_K.moved hW.alike hK, hD⟩, hS.F ht⟩) hS.2.2 dX2_next_15

set_option maxHeartbeats 1000000 in
set_option maxRecDepth 100000 in
theorem kX2_rewrite (l : Launch) (dC : Nat → ClassId) (dI : Nat → Nat → Nat) (oM oN oU : Nat) (cN cU : ClassId) (z d : Nat) (co mo th en md po pl la : Int32) (va : Int64) (N : Nat → Int32) (U : Nat → Int64) (p0 : Int32) (p1 : Int64) (sz : Nat) (hz : z ≤ 1100) : Met l yX2_rewrite wsX2_rewrite ({ frames := 2, cells := 0, slots := 0, locals := 44 }) (va_Pc [.ref oM, .int p0, .long p1] (fun U9 => U9.heap.size = sz ∧ va_P (dC, dI) vwCl [(oM, .inr (3, [.int co, .int mo, .ref oN, .ref oU, .int (nI z), .int th, .int en, .int md, .int po, .int pl, .int la, .int (nI d), .long va])), (oN, .inl (cN, 1100, .inl N)), (oU, .inl (cU, 1100, .inr (.inl U)))] U9.heap ∧ va_K (dC, dI) vwCl [(cN, .int), (cU, .long)] U9 ∧ va_D (fun _ => True) [(oM, .inr (3, [.int co, .int mo, .ref oN, .ref oU, .int (nI z), .int th, .int en, .int md, .int po, .int pl, .int la, .int (nI d), .long va])), (oN, .inl (cN, 1100, .inl N)), (oU, .inl (cU, 1100, .inr (.inl U)))])) (va_Qi (fun (r : Int32) (_ : Unit) => r = (gRewr p0 p1 (co, z, th, en, md, po, pl, la, d, va, N, U)).1) (fun (_ : Unit) (t : State) => va_P (dC, dI) vwCl (wM oM oN oU cN cU mo (gRewr p0 p1 (co, z, th, en, md, po, pl, la, d, va, N, U)).2) t.heap ∧ va_K (dC, dI) vwCl [(cN, .int), (cU, .long)] t ∧ va_D (va_A [(oM, .inr (3, [.int co, .int mo, .ref oN, .ref oU, .int (nI z), .int th, .int en, .int md, .int po, .int pl, .int la, .int (nI d), .long va])), (oN, .inl (cN, 1100, .inl N)), (oU, .inl (cU, 1100, .inr (.inl U)))] sz) (wM oM oN oU cN cU mo (gRewr p0 p1 (co, z, th, en, md, po, pl, la, d, va, N, U)).2)) (va_A [(oM, .inr (3, [.int co, .int mo, .ref oN, .ref oU, .int (nI z), .int th, .int en, .int md, .int po, .int pl, .int la, .int (nI d), .long va])), (oN, .inl (cN, 1100, .inl N)), (oU, .inl (cU, 1100, .inr (.inl U)))] sz)) 0 0 (va_A [(oM, .inr (3, [.int co, .int mo, .ref oN, .ref oU, .int (nI z), .int th, .int en, .int md, .int po, .int pl, .int la, .int (nI d), .long va])), (oN, .inl (cN, 1100, .inl N)), (oU, .inl (cU, 1100, .inr (.inl U)))] sz) := by
  refine Met.ofW (cc := cX2_rewrite) (maxL := 5) (ret := (some .int)) (by decide) rfl ?_
  intro p e s m args below meth c s₁ B hml hv
  obtain ⟨rfl, hsz, hP, hK, hD0⟩ := hv
  have hx := B.exec
  have hb := B.bytes
  have hr := B.returns
  have hts := atoms_spec (ws := wsX2_rewrite) B.pre
  have hown : s.vm.findClass RX2 = some m.cls := findClass_of_methodNamed B.named
  have hlocks := B.notSynchronized
  subst hsz
  have hD := hD0.self (sz := s.heap.size)
  generalize hAe : va_A [(oM, .inr (3, [.int co, .int mo, .ref oN, .ref oU, .int (nI z), .int th, .int en, .int md, .int po, .int pl, .int la, .int (nI d), .long va])), (oN, .inl (cN, 1100, .inl N)), (oU, .inl (cU, 1100, .inr (.inl U)))] s.heap.size = A at hD ⊢
  have hA : ∀ q : Nat, s.heap.size ≤ q → A q := fun q h => by rw [← hAe]; exact Or.inr h
  have hS : va_S A s.heap s.heap [] := va_S.rf
  have hP : va_P (dC, dI) vwCl [(oM, .inr (3, [.int co, .int mo, .ref oN, .ref oU, .int (nI z), .int th, .int en, .int md, .int po, .int pl, .int la, .int (nI d), .long va])), (oN, .inl (cN, 1100, .inl N)), (oU, .inl (cU, 1100, .inr (.inl U)))] s.heap := hP
  have hl := lv_entry ([.ref oM, .int p0, .long p1]) (n := 5) (Nat.le_of_ble_eq_true rfl)
  rw [lg_entry_eq]
  generalize (lg_sl ([.ref oM, .int p0, .long p1]) ++ List.replicate (5 - (lg_sl ([.ref oM, .int p0, .long p1])).length) Slot.unset).toArray = ls at hl ⊢
  have hl : lv_has ls 5 [(0, .ref oM), (1, .int p0), (2, .long p1)] := hl
  refine W_name (fun Q hQ9 => ?_)
  refine lv_aload_n hx hb dX2_rewrite_0 rfl (lv_at hl 0 rfl) ?_
  refine lv_iconst (v := 0) hx hb dX2_rewrite_1 (by decide) ?_
  refine va_put (D := (dC, dI)) (ci := 3) (v := .int 0) (ty := .int) (C := RX2) (T := TX2) (N := 13) hx hb hts (by decide +kernel) tyX2 tyX2_ok nmX2 hown hK hP hD hS 0 rfl rfl 0 (by decide) (hts (.fieldLink RX2 28 "RelativeFilesModel" "code" "I") (by decide +kernel)) (fun _ h9 => h9) rfl (by decide +kernel) rfl rfl (Nat.le_of_ble_eq_true rfl) dX2_rewrite_2 (fun H locs hP hD hS => ?_)
  have hP : va_P (dC, dI) vwCl [(oM, .inr (3, [.int 0, .int mo, .ref oN, .ref oU, .int (nI z), .int th, .int en, .int md, .int po, .int pl, .int la, .int (nI d), .long va])), (oN, .inl (cN, 1100, .inl N)), (oU, .inl (cU, 1100, .inr (.inl U)))] H := hP
  have hD : va_D A [(oM, .inr (3, [.int 0, .int mo, .ref oN, .ref oU, .int (nI z), .int th, .int en, .int md, .int po, .int pl, .int la, .int (nI d), .long va])), (oN, .inl (cN, 1100, .inl N)), (oU, .inl (cU, 1100, .inr (.inl U)))] := hD
  refine lv_aload_n hx hb dX2_rewrite_5 rfl (lv_at hl 0 rfl) ?_
  refine va_get (D := (dC, dI)) (ci := 3) (v := .int md) (C := RX2) (T := TX2) (N := 13) hx hb hts (by decide +kernel) hown hK hP 0 rfl rfl 7 (by decide) (hts (.fieldLink RX2 17 "RelativeFilesModel" "mode" "I") (by decide +kernel)) (fun _ h9 => h9) rfl dX2_rewrite_6 ?_
  refine lv_iconst (v := (-1)) hx hb dX2_rewrite_9 (by decide) ?_
  refine lv_icmp_ne (tgt := 16) hx hb dX2_rewrite_10 (by decide) (fun c_1 => ?_) (fun c_1 => ?_)
  · -- taken at 10: ¬ md = (-1)
    refine lv_aload_n hx hb dX2_rewrite_16 rfl (lv_at hl 0 rfl) ?_
    refine va_get (D := (dC, dI)) (ci := 3) (v := .int md) (C := RX2) (T := TX2) (N := 13) hx hb hts (by decide +kernel) hown hK hP 0 rfl rfl 7 (by decide) (hts (.fieldLink RX2 17 "RelativeFilesModel" "mode" "I") (by decide +kernel)) (fun _ h9 => h9) rfl dX2_rewrite_17 ?_
    refine lv_iconst (v := 2) hx hb dX2_rewrite_20 (by decide) ?_
    refine lv_icmp_eq (tgt := 27) hx hb dX2_rewrite_21 (by decide) (fun c_2 => ?_) (fun c_2 => ?_)
    · -- taken at 21: md = 2
      refine lv_aload_n hx hb dX2_rewrite_27 rfl (lv_at hl 0 rfl) ?_
      refine lv_iload_n hx hb dX2_rewrite_28 rfl (lv_at hl 1 rfl) ?_
      have hPc := hP.sub (ws' := [(oM, .inr (3, [.int 0, .int mo, .ref oN, .ref oU, .int (nI z), .int th, .int en, .int md, .int po, .int pl, .int la, .int (nI d), .long va])), (oN, .inl (cN, 1100, .inl N)), (oU, .inl (cU, 1100, .inr (.inl U)))]) [0, 1, 2] rfl
      have hDc := hD.sub (ws' := [(oM, .inr (3, [.int 0, .int mo, .ref oN, .ref oU, .int (nI z), .int th, .int en, .int md, .int po, .int pl, .int la, .int (nI d), .long va])), (oN, .inl (cN, 1100, .inl N)), (oU, .inl (cU, 1100, .inr (.inl U)))]) [0, 1, 2] (by decide) rfl
      have hKc := hK.sub (tys' := [(cN, .int), (cU, .long)]) [0, 1] rfl
      have hFc := va_free (wc := [(oM, .inr (3, [.int 0, .int mo, .ref oN, .ref oU, .int (nI z), .int th, .int en, .int md, .int po, .int pl, .int la, .int (nI d), .long va])), (oN, .inl (cN, 1100, .inl N)), (oU, .inl (cU, 1100, .inr (.inl U)))]) hD hS hA [0, 1, 2] rfl
      refine va_calli (va_runV (As := [.int p0]) (rest := []) ⟨hx, hb, hml, hown, hts⟩ (kX2_meant l dC dI oM oN oU cN cU z d 0 mo th en md po pl la va N U p0 H.size hz) (cwV 1 hts gX2_rewrite_X2_meant rfl rfl rfl (by decide +kernel) ⟨Nat.le_of_ble_eq_true rfl, Nat.le_of_ble_eq_true rfl⟩) ⟨fun a U g mk q => by obtain ⟨q0, q1, qP, qK, qD⟩ := q; exact ⟨q0, q1, qP, va_K.moved (u := U) (U := U.calling g mk a) (Vm.Alike.refl U.vm) qK, qD⟩, va_recv hKc hPc (ci := 3) (q0 := 0) rfl rfl, fun U hU hW => ⟨rfl, by rw [hU], by rw [hU]; exact hPc, va_K.moved hW.alike hKc, hDc.weaken (fun _ _ _ _ => trivial)⟩⟩ rfl rfl hl.1 rfl (lv_room (Nat.le_of_ble_eq_true rfl)) dX2_rewrite_29 ⟨Nat.le_of_ble_eq_true rfl, Nat.le_of_ble_eq_true rfl⟩) hS (fun q _ h => hFc q h) hFc (fun r_3 u t H1 locs ht hvm hw hB hz1 hk1 hS => ?_)
      obtain ⟨hP1, hK1, hD1⟩ := hB
      rw [ht] at hP1
      have hK1 := va_K.moved hvm.symm hK1
      try dsimp only at hw
      obtain ⟨hP, hD⟩ := va_join (wr := []) (w1 := [(oM, .inr (3, [.int 0, .int mo, .ref oN, .ref oU, .int (nI z), .int th, .int en, .int md, .int po, .int pl, .int la, .int (nI d), .long va])), (oN, .inl (cN, 1100, .inl N)), (oU, .inl (cU, 1100, .inr (.inl U)))]) hP hD [0, 1, 2] [] rfl rfl (by decide) (by decide) hk1 hFc hP1 hD1
      generalize H1 = H at hP hS ⊢
      have hP : va_P (dC, dI) vwCl [(oM, .inr (3, [.int 0, .int mo, .ref oN, .ref oU, .int (nI z), .int th, .int en, .int md, .int po, .int pl, .int la, .int (nI d), .long va])), (oN, .inl (cN, 1100, .inl N)), (oU, .inl (cU, 1100, .inr (.inl U)))] H := hP.sub [0, 1, 2] rfl
      have hD : va_D A [(oM, .inr (3, [.int 0, .int mo, .ref oN, .ref oU, .int (nI z), .int th, .int en, .int md, .int po, .int pl, .int la, .int (nI d), .long va])), (oN, .inl (cN, 1100, .inl N)), (oU, .inl (cU, 1100, .inr (.inl U)))] := hD.sub [0, 1, 2] (by decide) rfl
      have hK : va_K (dC, dI) vwCl [(cN, .int), (cU, .long)] s := hK
      subst hw
      refine lv_istore (lv' := [(4, .int (gMe la p0 N z)), (0, .ref oM), (1, .int p0), (2, .long p1)]) hx hb dX2_rewrite_32 hl (by decide) rfl (fun ls hl => ?_)
      refine lv_aload_n hx hb dX2_rewrite_34 rfl (lv_at hl 1 rfl) ?_
      refine lv_iconst (v := 0) hx hb dX2_rewrite_35 (by decide) ?_
      refine va_put (D := (dC, dI)) (ci := 3) (v := .int 0) (ty := .int) (C := RX2) (T := TX2) (N := 13) hx hb hts (by decide +kernel) tyX2 tyX2_ok nmX2 hown hK hP hD hS 0 rfl rfl 10 (by decide) (hts (.fieldLink RX2 36 "RelativeFilesModel" "last" "I") (by decide +kernel)) (fun _ h9 => h9) rfl (by decide +kernel) rfl rfl (Nat.le_of_ble_eq_true rfl) dX2_rewrite_36 (fun H locs hP hD hS => ?_)
      have hP : va_P (dC, dI) vwCl [(oM, .inr (3, [.int 0, .int mo, .ref oN, .ref oU, .int (nI z), .int th, .int en, .int md, .int po, .int pl, .int 0, .int (nI d), .long va])), (oN, .inl (cN, 1100, .inl N)), (oU, .inl (cU, 1100, .inr (.inl U)))] H := hP
      have hD : va_D A [(oM, .inr (3, [.int 0, .int mo, .ref oN, .ref oU, .int (nI z), .int th, .int en, .int md, .int po, .int pl, .int 0, .int (nI d), .long va])), (oN, .inl (cN, 1100, .inl N)), (oU, .inl (cU, 1100, .inr (.inl U)))] := hD
      refine lv_iload hx hb dX2_rewrite_39 (lv_at hl 0 rfl) ?_
      refine lv_iconst (v := (-1)) hx hb dX2_rewrite_41 (by decide) ?_
      refine lv_icmp_ne (tgt := 58) hx hb dX2_rewrite_42 (by decide) (fun c_4 => ?_) (fun c_4 => ?_)
      · -- taken at 42: ¬ (gMe la p0 N z) = (-1)
        obtain ⟨hk1, hk2⟩ := gMe_in c_4 hz
        refine lv_aload_n hx hb dX2_rewrite_58 rfl (lv_at hl 1 rfl) ?_
        refine va_get (D := (dC, dI)) (ci := 3) (v := .ref oU) (C := RX2) (T := TX2) (N := 13) hx hb hts (by decide +kernel) hown hK hP 0 rfl rfl 3 (by decide) (hts (.fieldLink RX2 13 "RelativeFilesModel" "values" "[J") (by decide +kernel)) (fun _ h9 => h9) rfl dX2_rewrite_59 ?_
        refine lv_iload hx hb dX2_rewrite_62 (lv_at hl 0 rfl) ?_
        refine lv_lload_n hx hb dX2_rewrite_64 rfl (lv_at hl 3 rfl) ?_
        refine va_last hx hb hK hP hD hS 2 1 rfl rfl hk1 dX2_rewrite_65 (fun H locs hP hD hS => ?_)
        have hP : va_P (dC, dI) vwCl [(oM, .inr (3, [.int 0, .int mo, .ref oN, .ref oU, .int (nI z), .int th, .int en, .int md, .int po, .int pl, .int 0, .int (nI d), .long va])), (oN, .inl (cN, 1100, .inl N)), (oU, .inl (cU, 1100, .inr (.inl (vp_updL U (gMe la p0 N z).toNatClampNeg p1))))] H := hP
        have hD : va_D A [(oM, .inr (3, [.int 0, .int mo, .ref oN, .ref oU, .int (nI z), .int th, .int en, .int md, .int po, .int pl, .int 0, .int (nI d), .long va])), (oN, .inl (cN, 1100, .inl N)), (oU, .inl (cU, 1100, .inr (.inl (vp_updL U (gMe la p0 N z).toNatClampNeg p1))))] := hD
        refine lv_aload_n hx hb dX2_rewrite_66 rfl (lv_at hl 1 rfl) ?_
        refine lv_lload_n hx hb dX2_rewrite_67 rfl (lv_at hl 3 rfl) ?_
        refine va_put (D := (dC, dI)) (ci := 3) (v := .long p1) (ty := .long) (C := RX2) (T := TX2) (N := 13) hx hb hts (by decide +kernel) tyX2 tyX2_ok nmX2 hown hK hP hD hS 0 rfl rfl 12 (by decide) (hts (.fieldLink RX2 49 "RelativeFilesModel" "value" "J") (by decide +kernel)) (fun _ h9 => h9) rfl (by decide +kernel) rfl rfl (Nat.le_of_ble_eq_true rfl) dX2_rewrite_68 (fun H locs hP hD hS => ?_)
        have hP : va_P (dC, dI) vwCl [(oM, .inr (3, [.int 0, .int mo, .ref oN, .ref oU, .int (nI z), .int th, .int en, .int md, .int po, .int pl, .int 0, .int (nI d), .long p1])), (oN, .inl (cN, 1100, .inl N)), (oU, .inl (cU, 1100, .inr (.inl (vp_updL U (gMe la p0 N z).toNatClampNeg p1))))] H := hP
        have hD : va_D A [(oM, .inr (3, [.int 0, .int mo, .ref oN, .ref oU, .int (nI z), .int th, .int en, .int md, .int po, .int pl, .int 0, .int (nI d), .long p1])), (oN, .inl (cN, 1100, .inl N)), (oU, .inl (cU, 1100, .inr (.inl (vp_updL U (gMe la p0 N z).toNatClampNeg p1))))] := hD
        refine lv_iconst (v := 0) hx hb dX2_rewrite_71 (by decide) ?_
        subst hQ9
        have e9 : gRewr p0 p1 (co, z, th, en, md, po, pl, la, d, va, N, U) = (0, (0, z, th, en, md, po, pl, 0, d, p1, N, vp_updL U (gMe la p0 N z).toNatClampNeg p1)) := by simp only [gRewr, if_neg c_1, if_pos c_2, if_neg c_4]
        rw [e9]
        exact W.iret (v := 0) hx hb hr (fun t ht hW => ⟨⟨0, (), rfl, rfl, by rw [ht]; exact hP, va_K.moved hW.alike hK, hD⟩, hS.F ht⟩) hS.2.2 dX2_rewrite_72
      · -- not taken at 42: (gMe la p0 N z) = (-1)
        refine lv_iload_n hx hb dX2_rewrite_45 rfl (lv_at hl 2 rfl) ?_
        refine lv_iconst (v := (-1)) hx hb dX2_rewrite_46 (by decide) ?_
        refine lv_icmp_ne (tgt := 55) hx hb dX2_rewrite_47 (by decide) (fun c_5 => ?_) (fun c_5 => ?_)
        · -- taken at 47: ¬ p0 = (-1)
          refine lv_bipush (v := 23) hx hb dX2_rewrite_55 (by decide) ?_
          subst hQ9
          have e9 : gRewr p0 p1 (co, z, th, en, md, po, pl, la, d, va, N, U) = (23, (0, z, th, en, md, po, pl, 0, d, va, N, U)) := by simp only [gRewr, if_neg c_1, if_pos c_2, if_pos c_4, if_neg c_5]
          rw [e9]
          exact W.iret (v := 23) hx hb hr (fun t ht hW => ⟨⟨23, (), rfl, rfl, by rw [ht]; exact hP, va_K.moved hW.alike hK, hD⟩, hS.F ht⟩) hS.2.2 dX2_rewrite_57
        · -- not taken at 47: p0 = (-1)
          refine lv_bipush (v := 43) hx hb dX2_rewrite_50 (by decide) ?_
          refine lv_goto (tgt := 57) hx hb dX2_rewrite_52 (by decide) ?_
          subst hQ9
          have e9 : gRewr p0 p1 (co, z, th, en, md, po, pl, la, d, va, N, U) = (43, (0, z, th, en, md, po, pl, 0, d, va, N, U)) := by simp only [gRewr, if_neg c_1, if_pos c_2, if_pos c_4, if_pos c_5]
          rw [e9]
          exact W.iret (v := 43) hx hb hr (fun t ht hW => ⟨⟨43, (), rfl, rfl, by rw [ht]; exact hP, va_K.moved hW.alike hK, hD⟩, hS.F ht⟩) hS.2.2 dX2_rewrite_57
    · -- not taken at 21: ¬ md = 2
      refine lv_bipush (v := 49) hx hb dX2_rewrite_24 (by decide) ?_
      subst hQ9
      have e9 : gRewr p0 p1 (co, z, th, en, md, po, pl, la, d, va, N, U) = (49, (0, z, th, en, md, po, pl, la, d, va, N, U)) := by simp only [gRewr, if_neg c_1, if_neg c_2]
      rw [e9]
      exact W.iret (v := 49) hx hb hr (fun t ht hW => ⟨⟨49, (), rfl, rfl, by rw [ht]; exact hP, va_K.moved hW.alike hK, hD⟩, hS.F ht⟩) hS.2.2 dX2_rewrite_26
  · -- not taken at 10: md = (-1)
    refine lv_bipush (v := 42) hx hb dX2_rewrite_13 (by decide) ?_
    subst hQ9
    have e9 : gRewr p0 p1 (co, z, th, en, md, po, pl, la, d, va, N, U) = (42, (0, z, th, en, md, po, pl, la, d, va, N, U)) := by simp only [gRewr, if_pos c_1]
    rw [e9]
    exact W.iret (v := 42) hx hb hr (fun t ht hW => ⟨⟨42, (), rfl, rfl, by rw [ht]; exact hP, va_K.moved hW.alike hK, hD⟩, hS.F ht⟩) hS.2.2 dX2_rewrite_15

set_option maxHeartbeats 1000000 in
set_option maxRecDepth 100000 in
theorem kX2_remove (l : Launch) (dC : Nat → ClassId) (dI : Nat → Nat → Nat) (oM oN oU : Nat) (cN cU : ClassId) (z d : Nat) (co mo th en md po pl la : Int32) (va : Int64) (N : Nat → Int32) (U : Nat → Int64) (p0 : Int32) (sz : Nat) (hz : z ≤ 1100) : Met l yX2_remove wsX2_remove ({ frames := 2, cells := 0, slots := 0, locals := 44 }) (va_Pc [.ref oM, .int p0] (fun U9 => U9.heap.size = sz ∧ va_P (dC, dI) vwCl [(oM, .inr (3, [.int co, .int mo, .ref oN, .ref oU, .int (nI z), .int th, .int en, .int md, .int po, .int pl, .int la, .int (nI d), .long va])), (oN, .inl (cN, 1100, .inl N)), (oU, .inl (cU, 1100, .inr (.inl U)))] U9.heap ∧ va_K (dC, dI) vwCl [(cN, .int), (cU, .long)] U9 ∧ va_D (fun _ => True) [(oM, .inr (3, [.int co, .int mo, .ref oN, .ref oU, .int (nI z), .int th, .int en, .int md, .int po, .int pl, .int la, .int (nI d), .long va])), (oN, .inl (cN, 1100, .inl N)), (oU, .inl (cU, 1100, .inr (.inl U)))])) (va_Qi (fun (r : Int32) (_ : Unit) => r = (gRem p0 (co, z, th, en, md, po, pl, la, d, va, N, U)).1) (fun (_ : Unit) (t : State) => va_P (dC, dI) vwCl (wM oM oN oU cN cU mo (gRem p0 (co, z, th, en, md, po, pl, la, d, va, N, U)).2) t.heap ∧ va_K (dC, dI) vwCl [(cN, .int), (cU, .long)] t ∧ va_D (va_A [(oM, .inr (3, [.int co, .int mo, .ref oN, .ref oU, .int (nI z), .int th, .int en, .int md, .int po, .int pl, .int la, .int (nI d), .long va])), (oN, .inl (cN, 1100, .inl N)), (oU, .inl (cU, 1100, .inr (.inl U)))] sz) (wM oM oN oU cN cU mo (gRem p0 (co, z, th, en, md, po, pl, la, d, va, N, U)).2)) (va_A [(oM, .inr (3, [.int co, .int mo, .ref oN, .ref oU, .int (nI z), .int th, .int en, .int md, .int po, .int pl, .int la, .int (nI d), .long va])), (oN, .inl (cN, 1100, .inl N)), (oU, .inl (cU, 1100, .inr (.inl U)))] sz)) 0 0 (va_A [(oM, .inr (3, [.int co, .int mo, .ref oN, .ref oU, .int (nI z), .int th, .int en, .int md, .int po, .int pl, .int la, .int (nI d), .long va])), (oN, .inl (cN, 1100, .inl N)), (oU, .inl (cU, 1100, .inr (.inl U)))] sz) := by
  refine Met.ofW (cc := cX2_remove) (maxL := 3) (ret := (some .int)) (by decide) rfl ?_
  intro p e s m args below meth c s₁ B hml hv
  obtain ⟨rfl, hsz, hP, hK, hD0⟩ := hv
  have hx := B.exec
  have hb := B.bytes
  have hr := B.returns
  have hts := atoms_spec (ws := wsX2_remove) B.pre
  have hown : s.vm.findClass RX2 = some m.cls := findClass_of_methodNamed B.named
  have hlocks := B.notSynchronized
  subst hsz
  have hD := hD0.self (sz := s.heap.size)
  generalize hAe : va_A [(oM, .inr (3, [.int co, .int mo, .ref oN, .ref oU, .int (nI z), .int th, .int en, .int md, .int po, .int pl, .int la, .int (nI d), .long va])), (oN, .inl (cN, 1100, .inl N)), (oU, .inl (cU, 1100, .inr (.inl U)))] s.heap.size = A at hD ⊢
  have hA : ∀ q : Nat, s.heap.size ≤ q → A q := fun q h => by rw [← hAe]; exact Or.inr h
  have hS : va_S A s.heap s.heap [] := va_S.rf
  have hP : va_P (dC, dI) vwCl [(oM, .inr (3, [.int co, .int mo, .ref oN, .ref oU, .int (nI z), .int th, .int en, .int md, .int po, .int pl, .int la, .int (nI d), .long va])), (oN, .inl (cN, 1100, .inl N)), (oU, .inl (cU, 1100, .inr (.inl U)))] s.heap := hP
  have hl := lv_entry ([.ref oM, .int p0]) (n := 3) (Nat.le_of_ble_eq_true rfl)
  rw [lg_entry_eq]
  generalize (lg_sl ([.ref oM, .int p0]) ++ List.replicate (3 - (lg_sl ([.ref oM, .int p0])).length) Slot.unset).toArray = ls at hl ⊢
  have hl : lv_has ls 3 [(0, .ref oM), (1, .int p0)] := hl
  refine W_name (fun Q hQ9 => ?_)
  refine lv_aload_n hx hb dX2_remove_0 rfl (lv_at hl 0 rfl) ?_
  refine lv_iconst (v := 0) hx hb dX2_remove_1 (by decide) ?_
  refine va_put (D := (dC, dI)) (ci := 3) (v := .int 0) (ty := .int) (C := RX2) (T := TX2) (N := 13) hx hb hts (by decide +kernel) tyX2 tyX2_ok nmX2 hown hK hP hD hS 0 rfl rfl 0 (by decide) (hts (.fieldLink RX2 28 "RelativeFilesModel" "code" "I") (by decide +kernel)) (fun _ h9 => h9) rfl (by decide +kernel) rfl rfl (Nat.le_of_ble_eq_true rfl) dX2_remove_2 (fun H locs hP hD hS => ?_)
  have hP : va_P (dC, dI) vwCl [(oM, .inr (3, [.int 0, .int mo, .ref oN, .ref oU, .int (nI z), .int th, .int en, .int md, .int po, .int pl, .int la, .int (nI d), .long va])), (oN, .inl (cN, 1100, .inl N)), (oU, .inl (cU, 1100, .inr (.inl U)))] H := hP
  have hD : va_D A [(oM, .inr (3, [.int 0, .int mo, .ref oN, .ref oU, .int (nI z), .int th, .int en, .int md, .int po, .int pl, .int la, .int (nI d), .long va])), (oN, .inl (cN, 1100, .inl N)), (oU, .inl (cU, 1100, .inr (.inl U)))] := hD
  refine lv_aload_n hx hb dX2_remove_5 rfl (lv_at hl 0 rfl) ?_
  refine va_get (D := (dC, dI)) (ci := 3) (v := .int md) (C := RX2) (T := TX2) (N := 13) hx hb hts (by decide +kernel) hown hK hP 0 rfl rfl 7 (by decide) (hts (.fieldLink RX2 17 "RelativeFilesModel" "mode" "I") (by decide +kernel)) (fun _ h9 => h9) rfl dX2_remove_6 ?_
  refine lv_iconst (v := (-1)) hx hb dX2_remove_9 (by decide) ?_
  refine lv_icmp_ne (tgt := 16) hx hb dX2_remove_10 (by decide) (fun c_1 => ?_) (fun c_1 => ?_)
  · -- taken at 10: ¬ md = (-1)
    refine lv_aload_n hx hb dX2_remove_16 rfl (lv_at hl 0 rfl) ?_
    refine va_get (D := (dC, dI)) (ci := 3) (v := .int md) (C := RX2) (T := TX2) (N := 13) hx hb hts (by decide +kernel) hown hK hP 0 rfl rfl 7 (by decide) (hts (.fieldLink RX2 17 "RelativeFilesModel" "mode" "I") (by decide +kernel)) (fun _ h9 => h9) rfl dX2_remove_17 ?_
    refine lv_iconst (v := 2) hx hb dX2_remove_20 (by decide) ?_
    refine lv_icmp_eq (tgt := 27) hx hb dX2_remove_21 (by decide) (fun c_2 => ?_) (fun c_2 => ?_)
    · -- taken at 21: md = 2
      refine lv_aload_n hx hb dX2_remove_27 rfl (lv_at hl 0 rfl) ?_
      refine lv_iload_n hx hb dX2_remove_28 rfl (lv_at hl 1 rfl) ?_
      have hPc := hP.sub (ws' := [(oM, .inr (3, [.int 0, .int mo, .ref oN, .ref oU, .int (nI z), .int th, .int en, .int md, .int po, .int pl, .int la, .int (nI d), .long va])), (oN, .inl (cN, 1100, .inl N)), (oU, .inl (cU, 1100, .inr (.inl U)))]) [0, 1, 2] rfl
      have hDc := hD.sub (ws' := [(oM, .inr (3, [.int 0, .int mo, .ref oN, .ref oU, .int (nI z), .int th, .int en, .int md, .int po, .int pl, .int la, .int (nI d), .long va])), (oN, .inl (cN, 1100, .inl N)), (oU, .inl (cU, 1100, .inr (.inl U)))]) [0, 1, 2] (by decide) rfl
      have hKc := hK.sub (tys' := [(cN, .int), (cU, .long)]) [0, 1] rfl
      have hFc := va_free (wc := [(oM, .inr (3, [.int 0, .int mo, .ref oN, .ref oU, .int (nI z), .int th, .int en, .int md, .int po, .int pl, .int la, .int (nI d), .long va])), (oN, .inl (cN, 1100, .inl N)), (oU, .inl (cU, 1100, .inr (.inl U)))]) hD hS hA [0, 1, 2] rfl
      refine va_calli (va_runV (As := [.int p0]) (rest := []) ⟨hx, hb, hml, hown, hts⟩ (kX2_meant l dC dI oM oN oU cN cU z d 0 mo th en md po pl la va N U p0 H.size hz) (cwV 1 hts gX2_remove_X2_meant rfl rfl rfl (by decide +kernel) ⟨Nat.le_of_ble_eq_true rfl, Nat.le_of_ble_eq_true rfl⟩) ⟨fun a U g mk q => by obtain ⟨q0, q1, qP, qK, qD⟩ := q; exact ⟨q0, q1, qP, va_K.moved (u := U) (U := U.calling g mk a) (Vm.Alike.refl U.vm) qK, qD⟩, va_recv hKc hPc (ci := 3) (q0 := 0) rfl rfl, fun U hU hW => ⟨rfl, by rw [hU], by rw [hU]; exact hPc, va_K.moved hW.alike hKc, hDc.weaken (fun _ _ _ _ => trivial)⟩⟩ rfl rfl hl.1 rfl (lv_room (Nat.le_of_ble_eq_true rfl)) dX2_remove_29 ⟨Nat.le_of_ble_eq_true rfl, Nat.le_of_ble_eq_true rfl⟩) hS (fun q _ h => hFc q h) hFc (fun r_3 u t H1 locs ht hvm hw hB hz1 hk1 hS => ?_)
      obtain ⟨hP1, hK1, hD1⟩ := hB
      rw [ht] at hP1
      have hK1 := va_K.moved hvm.symm hK1
      try dsimp only at hw
      obtain ⟨hP, hD⟩ := va_join (wr := []) (w1 := [(oM, .inr (3, [.int 0, .int mo, .ref oN, .ref oU, .int (nI z), .int th, .int en, .int md, .int po, .int pl, .int la, .int (nI d), .long va])), (oN, .inl (cN, 1100, .inl N)), (oU, .inl (cU, 1100, .inr (.inl U)))]) hP hD [0, 1, 2] [] rfl rfl (by decide) (by decide) hk1 hFc hP1 hD1
      generalize H1 = H at hP hS ⊢
      have hP : va_P (dC, dI) vwCl [(oM, .inr (3, [.int 0, .int mo, .ref oN, .ref oU, .int (nI z), .int th, .int en, .int md, .int po, .int pl, .int la, .int (nI d), .long va])), (oN, .inl (cN, 1100, .inl N)), (oU, .inl (cU, 1100, .inr (.inl U)))] H := hP.sub [0, 1, 2] rfl
      have hD : va_D A [(oM, .inr (3, [.int 0, .int mo, .ref oN, .ref oU, .int (nI z), .int th, .int en, .int md, .int po, .int pl, .int la, .int (nI d), .long va])), (oN, .inl (cN, 1100, .inl N)), (oU, .inl (cU, 1100, .inr (.inl U)))] := hD.sub [0, 1, 2] (by decide) rfl
      have hK : va_K (dC, dI) vwCl [(cN, .int), (cU, .long)] s := hK
      subst hw
      refine lv_istore_n (lv' := [(2, .int (gMe la p0 N z)), (0, .ref oM), (1, .int p0)]) hx hb dX2_remove_32 rfl hl (by decide) rfl (fun ls hl => ?_)
      refine lv_aload_n hx hb dX2_remove_33 rfl (lv_at hl 1 rfl) ?_
      refine lv_iconst (v := 0) hx hb dX2_remove_34 (by decide) ?_
      refine va_put (D := (dC, dI)) (ci := 3) (v := .int 0) (ty := .int) (C := RX2) (T := TX2) (N := 13) hx hb hts (by decide +kernel) tyX2 tyX2_ok nmX2 hown hK hP hD hS 0 rfl rfl 10 (by decide) (hts (.fieldLink RX2 36 "RelativeFilesModel" "last" "I") (by decide +kernel)) (fun _ h9 => h9) rfl (by decide +kernel) rfl rfl (Nat.le_of_ble_eq_true rfl) dX2_remove_35 (fun H locs hP hD hS => ?_)
      have hP : va_P (dC, dI) vwCl [(oM, .inr (3, [.int 0, .int mo, .ref oN, .ref oU, .int (nI z), .int th, .int en, .int md, .int po, .int pl, .int 0, .int (nI d), .long va])), (oN, .inl (cN, 1100, .inl N)), (oU, .inl (cU, 1100, .inr (.inl U)))] H := hP
      have hD : va_D A [(oM, .inr (3, [.int 0, .int mo, .ref oN, .ref oU, .int (nI z), .int th, .int en, .int md, .int po, .int pl, .int 0, .int (nI d), .long va])), (oN, .inl (cN, 1100, .inl N)), (oU, .inl (cU, 1100, .inr (.inl U)))] := hD
      refine lv_iload_n hx hb dX2_remove_38 rfl (lv_at hl 0 rfl) ?_
      refine lv_iconst (v := (-1)) hx hb dX2_remove_39 (by decide) ?_
      refine lv_icmp_ne (tgt := 56) hx hb dX2_remove_40 (by decide) (fun c_4 => ?_) (fun c_4 => ?_)
      · -- taken at 40: ¬ (gMe la p0 N z) = (-1)
        obtain ⟨hk1, hk2⟩ := gMe_in c_4 hz
        refine lv_aload_n hx hb dX2_remove_56 rfl (lv_at hl 1 rfl) ?_
        refine lv_dup hx hb dX2_remove_57 rfl ?_
        refine va_get (D := (dC, dI)) (ci := 3) (v := .int (nI z)) (C := RX2) (T := TX2) (N := 13) hx hb hts (by decide +kernel) hown hK hP 0 rfl rfl 4 (by decide) (hts (.fieldLink RX2 31 "RelativeFilesModel" "size" "I") (by decide +kernel)) (fun _ h9 => h9) rfl dX2_remove_58 ?_
        refine lv_iconst (v := 1) hx hb dX2_remove_61 (by decide) ?_
        refine lv_isub hx hb dX2_remove_62 ?_
        rw [show (nI z) - 1 = nI (z - 1) from by rw [← nI_pred (z - 1), Nat.sub_add_cancel (by omega)]]
        refine va_put (D := (dC, dI)) (ci := 3) (v := .int (nI (z - 1))) (ty := .int) (C := RX2) (T := TX2) (N := 13) hx hb hts (by decide +kernel) tyX2 tyX2_ok nmX2 hown hK hP hD hS 0 rfl rfl 4 (by decide) (hts (.fieldLink RX2 31 "RelativeFilesModel" "size" "I") (by decide +kernel)) (fun _ h9 => h9) rfl (by decide +kernel) rfl rfl (Nat.le_of_ble_eq_true rfl) dX2_remove_63 (fun H locs hP hD hS => ?_)
        have hP : va_P (dC, dI) vwCl [(oM, .inr (3, [.int 0, .int mo, .ref oN, .ref oU, .int (nI (z - 1)), .int th, .int en, .int md, .int po, .int pl, .int 0, .int (nI d), .long va])), (oN, .inl (cN, 1100, .inl N)), (oU, .inl (cU, 1100, .inr (.inl U)))] H := hP
        have hD : va_D A [(oM, .inr (3, [.int 0, .int mo, .ref oN, .ref oU, .int (nI (z - 1)), .int th, .int en, .int md, .int po, .int pl, .int 0, .int (nI d), .long va])), (oN, .inl (cN, 1100, .inl N)), (oU, .inl (cU, 1100, .inr (.inl U)))] := hD
        refine lv_aload_n hx hb dX2_remove_66 rfl (lv_at hl 1 rfl) ?_
        refine va_get (D := (dC, dI)) (ci := 3) (v := .ref oN) (C := RX2) (T := TX2) (N := 13) hx hb hts (by decide +kernel) hown hK hP 0 rfl rfl 2 (by decide) (hts (.fieldLink RX2 7 "RelativeFilesModel" "numbers" "[I") (by decide +kernel)) (fun _ h9 => h9) rfl dX2_remove_67 ?_
        refine lv_iload_n hx hb dX2_remove_70 rfl (lv_at hl 0 rfl) ?_
        refine lv_aload_n hx hb dX2_remove_71 rfl (lv_at hl 1 rfl) ?_
        refine va_get (D := (dC, dI)) (ci := 3) (v := .ref oN) (C := RX2) (T := TX2) (N := 13) hx hb hts (by decide +kernel) hown hK hP 0 rfl rfl 2 (by decide) (hts (.fieldLink RX2 7 "RelativeFilesModel" "numbers" "[I") (by decide +kernel)) (fun _ h9 => h9) rfl dX2_remove_72 ?_
        refine lv_aload_n hx hb dX2_remove_75 rfl (lv_at hl 1 rfl) ?_
        refine va_get (D := (dC, dI)) (ci := 3) (v := .int (nI (z - 1))) (C := RX2) (T := TX2) (N := 13) hx hb hts (by decide +kernel) hown hK hP 0 rfl rfl 4 (by decide) (hts (.fieldLink RX2 31 "RelativeFilesModel" "size" "I") (by decide +kernel)) (fun _ h9 => h9) rfl dX2_remove_76 ?_
        refine va_iald hx hb hK hP 1 0 rfl rfl (vp_in_nI (by omega) (by omega)) dX2_remove_79 ?_
        rw [show N ((nI (z - 1)).toNatClampNeg) = N (z - 1) from by rw [nI_clamp (by omega)]]
        refine va_iast hx hb hK hP hD hS 1 0 rfl rfl hk1 dX2_remove_80 (fun H locs hP hD hS => ?_)
        have hP : va_P (dC, dI) vwCl [(oM, .inr (3, [.int 0, .int mo, .ref oN, .ref oU, .int (nI (z - 1)), .int th, .int en, .int md, .int po, .int pl, .int 0, .int (nI d), .long va])), (oN, .inl (cN, 1100, .inl (upd N (gMe la p0 N z).toNatClampNeg (N (z - 1))))), (oU, .inl (cU, 1100, .inr (.inl U)))] H := hP
        have hD : va_D A [(oM, .inr (3, [.int 0, .int mo, .ref oN, .ref oU, .int (nI (z - 1)), .int th, .int en, .int md, .int po, .int pl, .int 0, .int (nI d), .long va])), (oN, .inl (cN, 1100, .inl (upd N (gMe la p0 N z).toNatClampNeg (N (z - 1))))), (oU, .inl (cU, 1100, .inr (.inl U)))] := hD
        refine lv_aload_n hx hb dX2_remove_81 rfl (lv_at hl 1 rfl) ?_
        refine va_get (D := (dC, dI)) (ci := 3) (v := .ref oU) (C := RX2) (T := TX2) (N := 13) hx hb hts (by decide +kernel) hown hK hP 0 rfl rfl 3 (by decide) (hts (.fieldLink RX2 13 "RelativeFilesModel" "values" "[J") (by decide +kernel)) (fun _ h9 => h9) rfl dX2_remove_82 ?_
        refine lv_iload_n hx hb dX2_remove_85 rfl (lv_at hl 0 rfl) ?_
        refine lv_aload_n hx hb dX2_remove_86 rfl (lv_at hl 1 rfl) ?_
        refine va_get (D := (dC, dI)) (ci := 3) (v := .ref oU) (C := RX2) (T := TX2) (N := 13) hx hb hts (by decide +kernel) hown hK hP 0 rfl rfl 3 (by decide) (hts (.fieldLink RX2 13 "RelativeFilesModel" "values" "[J") (by decide +kernel)) (fun _ h9 => h9) rfl dX2_remove_87 ?_
        refine lv_aload_n hx hb dX2_remove_90 rfl (lv_at hl 1 rfl) ?_
        refine va_get (D := (dC, dI)) (ci := 3) (v := .int (nI (z - 1))) (C := RX2) (T := TX2) (N := 13) hx hb hts (by decide +kernel) hown hK hP 0 rfl rfl 4 (by decide) (hts (.fieldLink RX2 31 "RelativeFilesModel" "size" "I") (by decide +kernel)) (fun _ h9 => h9) rfl dX2_remove_91 ?_
        refine va_lald hx hb hK hP 2 1 rfl rfl (vp_in_nI (by omega) (by omega)) dX2_remove_94 ?_
        rw [show U ((nI (z - 1)).toNatClampNeg) = U (z - 1) from by rw [nI_clamp (by omega)]]
        refine va_last hx hb hK hP hD hS 2 1 rfl rfl hk1 dX2_remove_95 (fun H locs hP hD hS => ?_)
        have hP : va_P (dC, dI) vwCl [(oM, .inr (3, [.int 0, .int mo, .ref oN, .ref oU, .int (nI (z - 1)), .int th, .int en, .int md, .int po, .int pl, .int 0, .int (nI d), .long va])), (oN, .inl (cN, 1100, .inl (upd N (gMe la p0 N z).toNatClampNeg (N (z - 1))))), (oU, .inl (cU, 1100, .inr (.inl (vp_updL U (gMe la p0 N z).toNatClampNeg (U (z - 1))))))] H := hP
        have hD : va_D A [(oM, .inr (3, [.int 0, .int mo, .ref oN, .ref oU, .int (nI (z - 1)), .int th, .int en, .int md, .int po, .int pl, .int 0, .int (nI d), .long va])), (oN, .inl (cN, 1100, .inl (upd N (gMe la p0 N z).toNatClampNeg (N (z - 1))))), (oU, .inl (cU, 1100, .inr (.inl (vp_updL U (gMe la p0 N z).toNatClampNeg (U (z - 1))))))] := hD
        refine lv_iconst (v := 0) hx hb dX2_remove_96 (by decide) ?_
        subst hQ9
        have e9 : gRem p0 (co, z, th, en, md, po, pl, la, d, va, N, U) = (0, (0, (z - 1), th, en, md, po, pl, 0, d, va, upd N (gMe la p0 N z).toNatClampNeg (N (z - 1)), vp_updL U (gMe la p0 N z).toNatClampNeg (U (z - 1)))) := by simp only [gRem, if_neg c_1, if_pos c_2, if_neg c_4]
        rw [e9]
        exact W.iret (v := 0) hx hb hr (fun t ht hW => ⟨⟨0, (), rfl, rfl, by rw [ht]; exact hP, va_K.moved hW.alike hK, hD⟩, hS.F ht⟩) hS.2.2 dX2_remove_97
      · -- not taken at 40: (gMe la p0 N z) = (-1)
        refine lv_iload_n hx hb dX2_remove_43 rfl (lv_at hl 2 rfl) ?_
        refine lv_iconst (v := (-1)) hx hb dX2_remove_44 (by decide) ?_
        refine lv_icmp_ne (tgt := 53) hx hb dX2_remove_45 (by decide) (fun c_5 => ?_) (fun c_5 => ?_)
        · -- taken at 45: ¬ p0 = (-1)
          refine lv_bipush (v := 23) hx hb dX2_remove_53 (by decide) ?_
          subst hQ9
          have e9 : gRem p0 (co, z, th, en, md, po, pl, la, d, va, N, U) = (23, (0, z, th, en, md, po, pl, 0, d, va, N, U)) := by simp only [gRem, if_neg c_1, if_pos c_2, if_pos c_4, if_neg c_5]
          rw [e9]
          exact W.iret (v := 23) hx hb hr (fun t ht hW => ⟨⟨23, (), rfl, rfl, by rw [ht]; exact hP, va_K.moved hW.alike hK, hD⟩, hS.F ht⟩) hS.2.2 dX2_remove_55
        · -- not taken at 45: p0 = (-1)
          refine lv_bipush (v := 43) hx hb dX2_remove_48 (by decide) ?_
          refine lv_goto (tgt := 55) hx hb dX2_remove_50 (by decide) ?_
          subst hQ9
          have e9 : gRem p0 (co, z, th, en, md, po, pl, la, d, va, N, U) = (43, (0, z, th, en, md, po, pl, 0, d, va, N, U)) := by simp only [gRem, if_neg c_1, if_pos c_2, if_pos c_4, if_pos c_5]
          rw [e9]
          exact W.iret (v := 43) hx hb hr (fun t ht hW => ⟨⟨43, (), rfl, rfl, by rw [ht]; exact hP, va_K.moved hW.alike hK, hD⟩, hS.F ht⟩) hS.2.2 dX2_remove_55
    · -- not taken at 21: ¬ md = 2
      refine lv_bipush (v := 49) hx hb dX2_remove_24 (by decide) ?_
      subst hQ9
      have e9 : gRem p0 (co, z, th, en, md, po, pl, la, d, va, N, U) = (49, (0, z, th, en, md, po, pl, la, d, va, N, U)) := by simp only [gRem, if_neg c_1, if_neg c_2]
      rw [e9]
      exact W.iret (v := 49) hx hb hr (fun t ht hW => ⟨⟨49, (), rfl, rfl, by rw [ht]; exact hP, va_K.moved hW.alike hK, hD⟩, hS.F ht⟩) hS.2.2 dX2_remove_26
  · -- not taken at 10: md = (-1)
    refine lv_bipush (v := 42) hx hb dX2_remove_13 (by decide) ?_
    subst hQ9
    have e9 : gRem p0 (co, z, th, en, md, po, pl, la, d, va, N, U) = (42, (0, z, th, en, md, po, pl, la, d, va, N, U)) := by simp only [gRem, if_pos c_1]
    rw [e9]
    exact W.iret (v := 42) hx hb hr (fun t ht hW => ⟨⟨42, (), rfl, rfl, by rw [ht]; exact hP, va_K.moved hW.alike hK, hD⟩, hS.F ht⟩) hS.2.2 dX2_remove_15

set_option maxHeartbeats 1000000 in
set_option maxRecDepth 100000 in
theorem kX2_cell (l : Launch) (dC : Nat → ClassId) (dI : Nat → Nat → Nat) (oM oN oU : Nat) (cN cU : ClassId) (z d : Nat) (co mo th en md po pl la : Int32) (va : Int64) (N : Nat → Int32) (U : Nat → Int64) (p0 : Int32) (sz : Nat) (hz : z ≤ 1100) : Met l yX2_cell wsX2_cell ({ frames := 1, cells := 0, slots := 0, locals := 23 }) (va_Pc [.ref oM, .int p0] (fun U9 => U9.heap.size = sz ∧ va_P (dC, dI) vwCl [(oM, .inr (3, [.int co, .int mo, .ref oN, .ref oU, .int (nI z), .int th, .int en, .int md, .int po, .int pl, .int la, .int (nI d), .long va])), (oN, .inl (cN, 1100, .inl N)), (oU, .inl (cU, 1100, .inr (.inl U)))] U9.heap ∧ va_K (dC, dI) vwCl [(cN, .int), (cU, .long)] U9 ∧ va_D (fun _ => True) [(oM, .inr (3, [.int co, .int mo, .ref oN, .ref oU, .int (nI z), .int th, .int en, .int md, .int po, .int pl, .int la, .int (nI d), .long va])), (oN, .inl (cN, 1100, .inl N)), (oU, .inl (cU, 1100, .inr (.inl U)))])) (va_Ql (fun (r : Int64) (_ : Unit) => r = (gCell mo p0 (co, z, th, en, md, po, pl, la, d, va, N, U)).1) (fun (_ : Unit) (t : State) => va_P (dC, dI) vwCl (wM oM oN oU cN cU mo (gCell mo p0 (co, z, th, en, md, po, pl, la, d, va, N, U)).2) t.heap ∧ va_K (dC, dI) vwCl [(cN, .int), (cU, .long)] t ∧ va_D (va_A [(oM, .inr (3, [.int co, .int mo, .ref oN, .ref oU, .int (nI z), .int th, .int en, .int md, .int po, .int pl, .int la, .int (nI d), .long va])), (oN, .inl (cN, 1100, .inl N)), (oU, .inl (cU, 1100, .inr (.inl U)))] sz) (wM oM oN oU cN cU mo (gCell mo p0 (co, z, th, en, md, po, pl, la, d, va, N, U)).2)) (va_A [(oM, .inr (3, [.int co, .int mo, .ref oN, .ref oU, .int (nI z), .int th, .int en, .int md, .int po, .int pl, .int la, .int (nI d), .long va])), (oN, .inl (cN, 1100, .inl N)), (oU, .inl (cU, 1100, .inr (.inl U)))] sz)) 0 0 (va_A [(oM, .inr (3, [.int co, .int mo, .ref oN, .ref oU, .int (nI z), .int th, .int en, .int md, .int po, .int pl, .int la, .int (nI d), .long va])), (oN, .inl (cN, 1100, .inl N)), (oU, .inl (cU, 1100, .inr (.inl U)))] sz) := by
  refine Met.ofW (cc := cX2_cell) (maxL := 3) (ret := (some .long)) (by decide) rfl ?_
  intro p e s m args below meth c s₁ B hml hv
  obtain ⟨rfl, hsz, hP, hK, hD0⟩ := hv
  have hx := B.exec
  have hb := B.bytes
  have hr := B.returns
  have hts := atoms_spec (ws := wsX2_cell) B.pre
  have hown : s.vm.findClass RX2 = some m.cls := findClass_of_methodNamed B.named
  have hlocks := B.notSynchronized
  subst hsz
  have hD := hD0.self (sz := s.heap.size)
  generalize hAe : va_A [(oM, .inr (3, [.int co, .int mo, .ref oN, .ref oU, .int (nI z), .int th, .int en, .int md, .int po, .int pl, .int la, .int (nI d), .long va])), (oN, .inl (cN, 1100, .inl N)), (oU, .inl (cU, 1100, .inr (.inl U)))] s.heap.size = A at hD ⊢
  have hA : ∀ q : Nat, s.heap.size ≤ q → A q := fun q h => by rw [← hAe]; exact Or.inr h
  have hS : va_S A s.heap s.heap [] := va_S.rf
  have hP : va_P (dC, dI) vwCl [(oM, .inr (3, [.int co, .int mo, .ref oN, .ref oU, .int (nI z), .int th, .int en, .int md, .int po, .int pl, .int la, .int (nI d), .long va])), (oN, .inl (cN, 1100, .inl N)), (oU, .inl (cU, 1100, .inr (.inl U)))] s.heap := hP
  have hl := lv_entry ([.ref oM, .int p0]) (n := 3) (Nat.le_of_ble_eq_true rfl)
  rw [lg_entry_eq]
  generalize (lg_sl ([.ref oM, .int p0]) ++ List.replicate (3 - (lg_sl ([.ref oM, .int p0])).length) Slot.unset).toArray = ls at hl ⊢
  have hl : lv_has ls 3 [(0, .ref oM), (1, .int p0)] := hl
  refine W_name (fun Q hQ9 => ?_)
  refine lv_aload_n hx hb dX2_cell_0 rfl (lv_at hl 0 rfl) ?_
  refine lv_aload_n hx hb dX2_cell_1 rfl (lv_at hl 0 rfl) ?_
  refine lv_iload_n hx hb dX2_cell_2 rfl (lv_at hl 1 rfl) ?_
  have hPc := hP.sub (ws' := [(oM, .inr (3, [.int co, .int mo, .ref oN, .ref oU, .int (nI z), .int th, .int en, .int md, .int po, .int pl, .int la, .int (nI d), .long va])), (oN, .inl (cN, 1100, .inl N)), (oU, .inl (cU, 1100, .inr (.inl U)))]) [0, 1, 2] rfl
  have hDc := hD.sub (ws' := [(oM, .inr (3, [.int co, .int mo, .ref oN, .ref oU, .int (nI z), .int th, .int en, .int md, .int po, .int pl, .int la, .int (nI d), .long va])), (oN, .inl (cN, 1100, .inl N)), (oU, .inl (cU, 1100, .inr (.inl U)))]) [0, 1, 2] (by decide) rfl
  have hKc := hK.sub (tys' := [(cN, .int), (cU, .long)]) [0, 1] rfl
  have hFc := va_free (wc := [(oM, .inr (3, [.int co, .int mo, .ref oN, .ref oU, .int (nI z), .int th, .int en, .int md, .int po, .int pl, .int la, .int (nI d), .long va])), (oN, .inl (cN, 1100, .inl N)), (oU, .inl (cU, 1100, .inr (.inl U)))]) hD hS hA [0, 1, 2] rfl
  refine va_calli (va_runV (As := [.int p0]) (rest := [.ref oM]) ⟨hx, hb, hml, hown, hts⟩ (kX2_isPlace l dC dI oM oN oU cN cU z d co mo th en md po pl la va N U p0 s.heap.size hz) (cwV 1 hts gX2_cell_X2_isPlace rfl rfl rfl (by decide +kernel) ⟨Nat.le_of_ble_eq_true rfl, Nat.le_of_ble_eq_true rfl⟩) ⟨fun a U g mk q => by obtain ⟨q0, q1, qP, qK, qD⟩ := q; exact ⟨q0, q1, qP, va_K.moved (u := U) (U := U.calling g mk a) (Vm.Alike.refl U.vm) qK, qD⟩, va_recv hKc hPc (ci := 3) (q0 := 0) rfl rfl, fun U hU hW => ⟨rfl, by rw [hU], by rw [hU]; exact hPc, va_K.moved hW.alike hKc, hDc.weaken (fun _ _ _ _ => trivial)⟩⟩ rfl rfl hl.1 rfl (lv_room (Nat.le_of_ble_eq_true rfl)) dX2_cell_3 ⟨Nat.le_of_ble_eq_true rfl, Nat.le_of_ble_eq_true rfl⟩) hS (fun q _ h => hFc q h) hFc (fun r_1 u t H1 locs ht hvm hw hB hz1 hk1 hS => ?_)
  obtain ⟨hP1, hK1, hD1⟩ := hB
  rw [ht] at hP1
  have hK1 := va_K.moved hvm.symm hK1
  try dsimp only at hw
  obtain ⟨hP, hD⟩ := va_join (wr := []) (w1 := [(oM, .inr (3, [.int co, .int mo, .ref oN, .ref oU, .int (nI z), .int th, .int en, .int md, .int po, .int pl, .int la, .int (nI d), .long va])), (oN, .inl (cN, 1100, .inl N)), (oU, .inl (cU, 1100, .inr (.inl U)))]) hP hD [0, 1, 2] [] rfl rfl (by decide) (by decide) hk1 hFc hP1 hD1
  generalize H1 = H at hP hS ⊢
  have hP : va_P (dC, dI) vwCl [(oM, .inr (3, [.int co, .int mo, .ref oN, .ref oU, .int (nI z), .int th, .int en, .int md, .int po, .int pl, .int la, .int (nI d), .long va])), (oN, .inl (cN, 1100, .inl N)), (oU, .inl (cU, 1100, .inr (.inl U)))] H := hP.sub [0, 1, 2] rfl
  have hD : va_D A [(oM, .inr (3, [.int co, .int mo, .ref oN, .ref oU, .int (nI z), .int th, .int en, .int md, .int po, .int pl, .int la, .int (nI d), .long va])), (oN, .inl (cN, 1100, .inl N)), (oU, .inl (cU, 1100, .inr (.inl U)))] := hD.sub [0, 1, 2] (by decide) rfl
  have hK : va_K (dC, dI) vwCl [(cN, .int), (cU, .long)] s := hK
  rcases hw with ⟨b_2, hw⟩ | ⟨b_2, hw⟩
  · -- gPl mo p0
    subst hw
    refine lv_if_eq (tgt := 13) hx hb dX2_cell_6 (by decide) (fun c_3 => ?_) (fun c_3 => ?_)
    · -- taken at 6: 1 = 0
      exact absurd c_3 (by decide)
    · -- not taken at 6: ¬ 1 = 0
      refine lv_iconst (v := 0) hx hb dX2_cell_9 (by decide) ?_
      refine lv_goto (tgt := 14) hx hb dX2_cell_10 (by decide) ?_
      refine va_put (D := (dC, dI)) (ci := 3) (v := .int 0) (ty := .int) (C := RX2) (T := TX2) (N := 13) hx hb hts (by decide +kernel) tyX2 tyX2_ok nmX2 hown hK hP hD hS 0 rfl rfl 0 (by decide) (hts (.fieldLink RX2 28 "RelativeFilesModel" "code" "I") (by decide +kernel)) (fun _ h9 => h9) rfl (by decide +kernel) rfl rfl (Nat.le_of_ble_eq_true rfl) dX2_cell_14 (fun H locs hP hD hS => ?_)
      have hP : va_P (dC, dI) vwCl [(oM, .inr (3, [.int 0, .int mo, .ref oN, .ref oU, .int (nI z), .int th, .int en, .int md, .int po, .int pl, .int la, .int (nI d), .long va])), (oN, .inl (cN, 1100, .inl N)), (oU, .inl (cU, 1100, .inr (.inl U)))] H := hP
      have hD : va_D A [(oM, .inr (3, [.int 0, .int mo, .ref oN, .ref oU, .int (nI z), .int th, .int en, .int md, .int po, .int pl, .int la, .int (nI d), .long va])), (oN, .inl (cN, 1100, .inl N)), (oU, .inl (cU, 1100, .inr (.inl U)))] := hD
      refine lv_aload_n hx hb dX2_cell_17 rfl (lv_at hl 0 rfl) ?_
      refine lv_iload_n hx hb dX2_cell_18 rfl (lv_at hl 1 rfl) ?_
      have hPc := hP.sub (ws' := [(oM, .inr (3, [.int 0, .int mo, .ref oN, .ref oU, .int (nI z), .int th, .int en, .int md, .int po, .int pl, .int la, .int (nI d), .long va])), (oN, .inl (cN, 1100, .inl N)), (oU, .inl (cU, 1100, .inr (.inl U)))]) [0, 1, 2] rfl
      have hDc := hD.sub (ws' := [(oM, .inr (3, [.int 0, .int mo, .ref oN, .ref oU, .int (nI z), .int th, .int en, .int md, .int po, .int pl, .int la, .int (nI d), .long va])), (oN, .inl (cN, 1100, .inl N)), (oU, .inl (cU, 1100, .inr (.inl U)))]) [0, 1, 2] (by decide) rfl
      have hKc := hK.sub (tys' := [(cN, .int), (cU, .long)]) [0, 1] rfl
      have hFc := va_free (wc := [(oM, .inr (3, [.int 0, .int mo, .ref oN, .ref oU, .int (nI z), .int th, .int en, .int md, .int po, .int pl, .int la, .int (nI d), .long va])), (oN, .inl (cN, 1100, .inl N)), (oU, .inl (cU, 1100, .inr (.inl U)))]) hD hS hA [0, 1, 2] rfl
      refine va_calli (va_runV (As := [.int p0]) (rest := []) ⟨hx, hb, hml, hown, hts⟩ (kX2_find l dC dI oM oN oU cN cU z d 0 mo th en md po pl la va N U p0 H.size hz) (cwV 1 hts gX2_cell_X2_find rfl rfl rfl (by decide +kernel) ⟨Nat.le_of_ble_eq_true rfl, Nat.le_of_ble_eq_true rfl⟩) ⟨fun a U g mk q => by obtain ⟨q0, q1, qP, qK, qD⟩ := q; exact ⟨q0, q1, qP, va_K.moved (u := U) (U := U.calling g mk a) (Vm.Alike.refl U.vm) qK, qD⟩, va_recv hKc hPc (ci := 3) (q0 := 0) rfl rfl, fun U hU hW => ⟨rfl, by rw [hU], by rw [hU]; exact hPc, va_K.moved hW.alike hKc, hDc.weaken (fun _ _ _ _ => trivial)⟩⟩ rfl rfl hl.1 rfl (lv_room (Nat.le_of_ble_eq_true rfl)) dX2_cell_19 ⟨Nat.le_of_ble_eq_true rfl, Nat.le_of_ble_eq_true rfl⟩) hS (fun q _ h => hFc q h) hFc (fun r_4 u t H1 locs ht hvm hw hB hz1 hk1 hS => ?_)
      obtain ⟨hP1, hK1, hD1⟩ := hB
      rw [ht] at hP1
      have hK1 := va_K.moved hvm.symm hK1
      try dsimp only at hw
      obtain ⟨hP, hD⟩ := va_join (wr := []) (w1 := [(oM, .inr (3, [.int 0, .int mo, .ref oN, .ref oU, .int (nI z), .int th, .int en, .int md, .int po, .int pl, .int la, .int (nI d), .long va])), (oN, .inl (cN, 1100, .inl N)), (oU, .inl (cU, 1100, .inr (.inl U)))]) hP hD [0, 1, 2] [] rfl rfl (by decide) (by decide) hk1 hFc hP1 hD1
      generalize H1 = H at hP hS ⊢
      have hP : va_P (dC, dI) vwCl [(oM, .inr (3, [.int 0, .int mo, .ref oN, .ref oU, .int (nI z), .int th, .int en, .int md, .int po, .int pl, .int la, .int (nI d), .long va])), (oN, .inl (cN, 1100, .inl N)), (oU, .inl (cU, 1100, .inr (.inl U)))] H := hP.sub [0, 1, 2] rfl
      have hD : va_D A [(oM, .inr (3, [.int 0, .int mo, .ref oN, .ref oU, .int (nI z), .int th, .int en, .int md, .int po, .int pl, .int la, .int (nI d), .long va])), (oN, .inl (cN, 1100, .inl N)), (oU, .inl (cU, 1100, .inr (.inl U)))] := hD.sub [0, 1, 2] (by decide) rfl
      have hK : va_K (dC, dI) vwCl [(cN, .int), (cU, .long)] s := hK
      subst hw
      refine lv_istore_n (lv' := [(2, .int (rFind N p0 z)), (0, .ref oM), (1, .int p0)]) hx hb dX2_cell_22 rfl hl (by decide) rfl (fun ls hl => ?_)
      refine lv_aload_n hx hb dX2_cell_23 rfl (lv_at hl 1 rfl) ?_
      refine va_get (D := (dC, dI)) (ci := 3) (v := .int 0) (C := RX2) (T := TX2) (N := 13) hx hb hts (by decide +kernel) hown hK hP 0 rfl rfl 0 (by decide) (hts (.fieldLink RX2 28 "RelativeFilesModel" "code" "I") (by decide +kernel)) (fun _ h9 => h9) rfl dX2_cell_24 ?_
      refine lv_if_gt (tgt := 35) hx hb dX2_cell_27 (by decide) (fun c_5 => ?_) (fun c_5 => ?_)
      · -- taken at 27: 0 < 0
        exact absurd c_5 (by decide)
      · -- not taken at 27: ¬ 0 < 0
        refine lv_iload_n hx hb dX2_cell_30 rfl (lv_at hl 0 rfl) ?_
        refine lv_iconst (v := (-1)) hx hb dX2_cell_31 (by decide) ?_
        refine lv_icmp_ne (tgt := 39) hx hb dX2_cell_32 (by decide) (fun c_6 => ?_) (fun c_6 => ?_)
        · -- taken at 32: ¬ (rFind N p0 z) = (-1)
          refine lv_aload_n hx hb dX2_cell_39 rfl (lv_at hl 1 rfl) ?_
          refine va_get (D := (dC, dI)) (ci := 3) (v := .ref oU) (C := RX2) (T := TX2) (N := 13) hx hb hts (by decide +kernel) hown hK hP 0 rfl rfl 3 (by decide) (hts (.fieldLink RX2 13 "RelativeFilesModel" "values" "[J") (by decide +kernel)) (fun _ h9 => h9) rfl dX2_cell_40 ?_
          refine lv_iload_n hx hb dX2_cell_43 rfl (lv_at hl 0 rfl) ?_
          refine va_lald hx hb hK hP 2 1 rfl rfl (rFind_in c_6 hz) dX2_cell_44 ?_
          subst hQ9
          have e9 : gCell mo p0 (co, z, th, en, md, po, pl, la, d, va, N, U) = (U ((rFind N p0 z).toNatClampNeg), (0, z, th, en, md, po, pl, la, d, va, N, U)) := by simp only [gCell, if_pos b_2, if_neg c_6]
          rw [e9]
          exact W.lret (v := U ((rFind N p0 z).toNatClampNeg)) hx hb hr (fun t ht hW => ⟨⟨U ((rFind N p0 z).toNatClampNeg), (), rfl, rfl, by rw [ht]; exact hP, va_K.moved hW.alike hK, hD⟩, hS.F ht⟩) hS.2.2 dX2_cell_45
        · -- not taken at 32: (rFind N p0 z) = (-1)
          refine lv_lconst (v := 0) hx hb dX2_cell_35 (by decide) ?_
          refine lv_goto (tgt := 45) hx hb dX2_cell_36 (by decide) ?_
          subst hQ9
          have e9 : gCell mo p0 (co, z, th, en, md, po, pl, la, d, va, N, U) = (0, (0, z, th, en, md, po, pl, la, d, va, N, U)) := by simp only [gCell, if_pos b_2, if_pos c_6]
          rw [e9]
          exact W.lret (v := 0) hx hb hr (fun t ht hW => ⟨⟨0, (), rfl, rfl, by rw [ht]; exact hP, va_K.moved hW.alike hK, hD⟩, hS.F ht⟩) hS.2.2 dX2_cell_45
  · -- ¬ (gPl mo p0)
    subst hw
    refine lv_if_eq (tgt := 13) hx hb dX2_cell_6 (by decide) (fun c_7 => ?_) (fun c_7 => ?_)
    · -- taken at 6: 0 = 0
      refine lv_iconst (v := 1) hx hb dX2_cell_13 (by decide) ?_
      refine va_put (D := (dC, dI)) (ci := 3) (v := .int 1) (ty := .int) (C := RX2) (T := TX2) (N := 13) hx hb hts (by decide +kernel) tyX2 tyX2_ok nmX2 hown hK hP hD hS 0 rfl rfl 0 (by decide) (hts (.fieldLink RX2 28 "RelativeFilesModel" "code" "I") (by decide +kernel)) (fun _ h9 => h9) rfl (by decide +kernel) rfl rfl (Nat.le_of_ble_eq_true rfl) dX2_cell_14 (fun H locs hP hD hS => ?_)
      have hP : va_P (dC, dI) vwCl [(oM, .inr (3, [.int 1, .int mo, .ref oN, .ref oU, .int (nI z), .int th, .int en, .int md, .int po, .int pl, .int la, .int (nI d), .long va])), (oN, .inl (cN, 1100, .inl N)), (oU, .inl (cU, 1100, .inr (.inl U)))] H := hP
      have hD : va_D A [(oM, .inr (3, [.int 1, .int mo, .ref oN, .ref oU, .int (nI z), .int th, .int en, .int md, .int po, .int pl, .int la, .int (nI d), .long va])), (oN, .inl (cN, 1100, .inl N)), (oU, .inl (cU, 1100, .inr (.inl U)))] := hD
      refine lv_aload_n hx hb dX2_cell_17 rfl (lv_at hl 0 rfl) ?_
      refine lv_iload_n hx hb dX2_cell_18 rfl (lv_at hl 1 rfl) ?_
      have hPc := hP.sub (ws' := [(oM, .inr (3, [.int 1, .int mo, .ref oN, .ref oU, .int (nI z), .int th, .int en, .int md, .int po, .int pl, .int la, .int (nI d), .long va])), (oN, .inl (cN, 1100, .inl N)), (oU, .inl (cU, 1100, .inr (.inl U)))]) [0, 1, 2] rfl
      have hDc := hD.sub (ws' := [(oM, .inr (3, [.int 1, .int mo, .ref oN, .ref oU, .int (nI z), .int th, .int en, .int md, .int po, .int pl, .int la, .int (nI d), .long va])), (oN, .inl (cN, 1100, .inl N)), (oU, .inl (cU, 1100, .inr (.inl U)))]) [0, 1, 2] (by decide) rfl
      have hKc := hK.sub (tys' := [(cN, .int), (cU, .long)]) [0, 1] rfl
      have hFc := va_free (wc := [(oM, .inr (3, [.int 1, .int mo, .ref oN, .ref oU, .int (nI z), .int th, .int en, .int md, .int po, .int pl, .int la, .int (nI d), .long va])), (oN, .inl (cN, 1100, .inl N)), (oU, .inl (cU, 1100, .inr (.inl U)))]) hD hS hA [0, 1, 2] rfl
      refine va_calli (va_runV (As := [.int p0]) (rest := []) ⟨hx, hb, hml, hown, hts⟩ (kX2_find l dC dI oM oN oU cN cU z d 1 mo th en md po pl la va N U p0 H.size hz) (cwV 1 hts gX2_cell_X2_find rfl rfl rfl (by decide +kernel) ⟨Nat.le_of_ble_eq_true rfl, Nat.le_of_ble_eq_true rfl⟩) ⟨fun a U g mk q => by obtain ⟨q0, q1, qP, qK, qD⟩ := q; exact ⟨q0, q1, qP, va_K.moved (u := U) (U := U.calling g mk a) (Vm.Alike.refl U.vm) qK, qD⟩, va_recv hKc hPc (ci := 3) (q0 := 0) rfl rfl, fun U hU hW => ⟨rfl, by rw [hU], by rw [hU]; exact hPc, va_K.moved hW.alike hKc, hDc.weaken (fun _ _ _ _ => trivial)⟩⟩ rfl rfl hl.1 rfl (lv_room (Nat.le_of_ble_eq_true rfl)) dX2_cell_19 ⟨Nat.le_of_ble_eq_true rfl, Nat.le_of_ble_eq_true rfl⟩) hS (fun q _ h => hFc q h) hFc (fun r_8 u t H1 locs ht hvm hw hB hz1 hk1 hS => ?_)
      obtain ⟨hP1, hK1, hD1⟩ := hB
      rw [ht] at hP1
      have hK1 := va_K.moved hvm.symm hK1
      try dsimp only at hw
      obtain ⟨hP, hD⟩ := va_join (wr := []) (w1 := [(oM, .inr (3, [.int 1, .int mo, .ref oN, .ref oU, .int (nI z), .int th, .int en, .int md, .int po, .int pl, .int la, .int (nI d), .long va])), (oN, .inl (cN, 1100, .inl N)), (oU, .inl (cU, 1100, .inr (.inl U)))]) hP hD [0, 1, 2] [] rfl rfl (by decide) (by decide) hk1 hFc hP1 hD1
      generalize H1 = H at hP hS ⊢
      have hP : va_P (dC, dI) vwCl [(oM, .inr (3, [.int 1, .int mo, .ref oN, .ref oU, .int (nI z), .int th, .int en, .int md, .int po, .int pl, .int la, .int (nI d), .long va])), (oN, .inl (cN, 1100, .inl N)), (oU, .inl (cU, 1100, .inr (.inl U)))] H := hP.sub [0, 1, 2] rfl
      have hD : va_D A [(oM, .inr (3, [.int 1, .int mo, .ref oN, .ref oU, .int (nI z), .int th, .int en, .int md, .int po, .int pl, .int la, .int (nI d), .long va])), (oN, .inl (cN, 1100, .inl N)), (oU, .inl (cU, 1100, .inr (.inl U)))] := hD.sub [0, 1, 2] (by decide) rfl
      have hK : va_K (dC, dI) vwCl [(cN, .int), (cU, .long)] s := hK
      subst hw
      refine lv_istore_n (lv' := [(2, .int (rFind N p0 z)), (0, .ref oM), (1, .int p0)]) hx hb dX2_cell_22 rfl hl (by decide) rfl (fun ls hl => ?_)
      refine lv_aload_n hx hb dX2_cell_23 rfl (lv_at hl 1 rfl) ?_
      refine va_get (D := (dC, dI)) (ci := 3) (v := .int 1) (C := RX2) (T := TX2) (N := 13) hx hb hts (by decide +kernel) hown hK hP 0 rfl rfl 0 (by decide) (hts (.fieldLink RX2 28 "RelativeFilesModel" "code" "I") (by decide +kernel)) (fun _ h9 => h9) rfl dX2_cell_24 ?_
      refine lv_if_gt (tgt := 35) hx hb dX2_cell_27 (by decide) (fun c_9 => ?_) (fun c_9 => ?_)
      · -- taken at 27: 0 < 1
        refine lv_lconst (v := 0) hx hb dX2_cell_35 (by decide) ?_
        refine lv_goto (tgt := 45) hx hb dX2_cell_36 (by decide) ?_
        subst hQ9
        have e9 : gCell mo p0 (co, z, th, en, md, po, pl, la, d, va, N, U) = (0, (1, z, th, en, md, po, pl, la, d, va, N, U)) := by simp only [gCell, if_neg b_2]
        rw [e9]
        exact W.lret (v := 0) hx hb hr (fun t ht hW => ⟨⟨0, (), rfl, rfl, by rw [ht]; exact hP, va_K.moved hW.alike hK, hD⟩, hS.F ht⟩) hS.2.2 dX2_cell_45
      · -- not taken at 27: ¬ 0 < 1
        exact absurd c_9 (by decide)
    · -- not taken at 6: ¬ 0 = 0
      exact absurd c_7 (by decide)
