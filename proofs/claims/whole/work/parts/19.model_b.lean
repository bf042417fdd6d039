set_option maxHeartbeats 1000000 in
set_option maxRecDepth 100000 in
theorem kX2_open (l : Launch) (dC : Nat → ClassId) (dI : Nat → Nat → Nat) (oM oN oU : Nat) (cN cU : ClassId) (z d : Nat) (co mo th en md po pl la : Int32) (va : Int64) (N : Nat → Int32) (U : Nat → Int64) (p0 : Int32) (sz : Nat) (hz : z ≤ 1100) : Met l yX2_open wsX2_open ({ frames := 0, cells := 0, slots := 0, locals := 0 }) (va_Pc [.ref oM, .int p0] (fun U9 => U9.heap.size = sz ∧ va_P (dC, dI) vwCl [(oM, .inr (3, [.int co, .int mo, .ref oN, .ref oU, .int (nI z), .int th, .int en, .int md, .int po, .int pl, .int la, .int (nI d), .long va])), (oN, .inl (cN, 1100, .inl N)), (oU, .inl (cU, 1100, .inr (.inl U)))] U9.heap ∧ va_K (dC, dI) vwCl [(cN, .int), (cU, .long)] U9 ∧ va_D (fun _ => True) [(oM, .inr (3, [.int co, .int mo, .ref oN, .ref oU, .int (nI z), .int th, .int en, .int md, .int po, .int pl, .int la, .int (nI d), .long va])), (oN, .inl (cN, 1100, .inl N)), (oU, .inl (cU, 1100, .inr (.inl U)))])) (va_Qi (fun (r : Int32) (_ : Unit) => r = (gOpen p0 (co, z, th, en, md, po, pl, la, d, va, N, U)).1) (fun (_ : Unit) (t : State) => va_P (dC, dI) vwCl (wM oM oN oU cN cU mo (gOpen p0 (co, z, th, en, md, po, pl, la, d, va, N, U)).2) t.heap ∧ va_K (dC, dI) vwCl [(cN, .int), (cU, .long)] t ∧ va_D (va_A [(oM, .inr (3, [.int co, .int mo, .ref oN, .ref oU, .int (nI z), .int th, .int en, .int md, .int po, .int pl, .int la, .int (nI d), .long va])), (oN, .inl (cN, 1100, .inl N)), (oU, .inl (cU, 1100, .inr (.inl U)))] sz) (wM oM oN oU cN cU mo (gOpen p0 (co, z, th, en, md, po, pl, la, d, va, N, U)).2)) (va_A [(oM, .inr (3, [.int co, .int mo, .ref oN, .ref oU, .int (nI z), .int th, .int en, .int md, .int po, .int pl, .int la, .int (nI d), .long va])), (oN, .inl (cN, 1100, .inl N)), (oU, .inl (cU, 1100, .inr (.inl U)))] sz)) 0 0 (va_A [(oM, .inr (3, [.int co, .int mo, .ref oN, .ref oU, .int (nI z), .int th, .int en, .int md, .int po, .int pl, .int la, .int (nI d), .long va])), (oN, .inl (cN, 1100, .inl N)), (oU, .inl (cU, 1100, .inr (.inl U)))] sz) := by
  refine Met.ofW (cc := cX2_open) (maxL := 3) (ret := (some .int)) (by decide) rfl ?_
  intro p e s m args below meth c s₁ B hml hv
  obtain ⟨rfl, hsz, hP, hK, hD0⟩ := hv
  have hx := B.exec
  have hb := B.bytes
  have hr := B.returns
  have hts := atoms_spec (ws := wsX2_open) B.pre
  have hown : s.vm.findClass RX2 = some m.cls := findClass_of_methodNamed B.named
  have hlocks := B.notSynchronized
  subst hsz
  have hD := hD0.self (sz := s.heap.size)
  generalize hAe : va_A [(oM, .inr (3, [.int co, .int mo, .ref oN, .ref oU, .int (nI z), .int th, .int en, .int md, .int po, .int pl, .int la, .int (nI d), .long va])), (oN, .inl (cN, 1100, .inl N)), (oU, .inl (cU, 1100, .inr (.inl U)))] s.heap.size = A at hD ⊢
  have hA : ∀ q : Nat, s.heap.size ≤ q → A q := fun q h => by rw [← hAe]; exact Or.inr h
  have hS : va_S A s.heap s.heap [] := va_S.rf
  have hP : va_P (dC, dI) vwCl [(oM, .inr (3, [.int co, .int mo, .ref oN, .ref oU, .int (nI z), .int th, .int en, .int md, .int po, .int pl, .int la, .int (nI d), .long va])), (oN, .inl (cN, 1100, .inl N)), (oU, .inl (cU, 1100, .inr (.inl U)))] s.heap := hP
  have hl := lv_entry ([.ref oM, .int p0]) (n := 3) (Nat.le_of_ble_eq_true rfl)
  rw [lg_entry_eq]
  generalize (lg_sl ([.ref oM, .int p0]) ++ List.replicate (3 - (lg_sl ([.ref oM, .int p0])).length) Slot.unset).toArray = ls at hl ⊢
  have hl : lv_has ls 3 [(0, .ref oM), (1, .int p0)] := hl
  refine W_name (fun Q hQ9 => ?_)
  refine lv_aload_n hx hb dX2_open_0 rfl (lv_at hl 0 rfl) ?_
  refine lv_iconst (v := 0) hx hb dX2_open_1 (by decide) ?_
  refine va_put (D := (dC, dI)) (ci := 3) (v := .int 0) (ty := .int) (C := RX2) (T := TX2) (N := 13) hx hb hts (by decide +kernel) tyX2 tyX2_ok nmX2 hown hK hP hD hS 0 rfl rfl 0 (by decide) (hts (.fieldLink RX2 28 "RelativeFilesModel" "code" "I") (by decide +kernel)) (fun _ h9 => h9) rfl (by decide +kernel) rfl rfl (Nat.le_of_ble_eq_true rfl) dX2_open_2 (fun H locs hP hD hS => ?_)
  have hP : va_P (dC, dI) vwCl [(oM, .inr (3, [.int 0, .int mo, .ref oN, .ref oU, .int (nI z), .int th, .int en, .int md, .int po, .int pl, .int la, .int (nI d), .long va])), (oN, .inl (cN, 1100, .inl N)), (oU, .inl (cU, 1100, .inr (.inl U)))] H := hP
  have hD : va_D A [(oM, .inr (3, [.int 0, .int mo, .ref oN, .ref oU, .int (nI z), .int th, .int en, .int md, .int po, .int pl, .int la, .int (nI d), .long va])), (oN, .inl (cN, 1100, .inl N)), (oU, .inl (cU, 1100, .inr (.inl U)))] := hD
  refine lv_iload_n hx hb dX2_open_5 rfl (lv_at hl 1 rfl) ?_
  refine lv_if_lt (tgt := 14) hx hb dX2_open_6 (by decide) (fun c_1 => ?_) (fun c_1 => ?_)
  · -- taken at 6: p0 < 0
    refine lv_iconst (v := (-1)) hx hb dX2_open_14 (by decide) ?_
    subst hQ9
    have e9 : gOpen p0 (co, z, th, en, md, po, pl, la, d, va, N, U) = ((-1), (0, z, th, en, md, po, pl, la, d, va, N, U)) := by simp only [gOpen, gO2, if_pos c_1]
    rw [e9]
    exact W.iret (v := (-1)) hx hb hr (fun t ht hW => ⟨⟨(-1), (), rfl, rfl, by rw [ht]; exact hP, va_K.moved hW.alike hK, hD⟩, hS.F ht⟩) hS.2.2 dX2_open_15
  · -- not taken at 6: ¬ p0 < 0
    refine lv_iload_n hx hb dX2_open_9 rfl (lv_at hl 1 rfl) ?_
    refine lv_iconst (v := 4) hx hb dX2_open_10 (by decide) ?_
    refine lv_icmp_le (tgt := 16) hx hb dX2_open_11 (by decide) (fun c_2 => ?_) (fun c_2 => ?_)
    · -- taken at 11: p0 ≤ 4
      refine lv_iload_n hx hb dX2_open_16 rfl (lv_at hl 1 rfl) ?_
      refine lv_iconst (v := 4) hx hb dX2_open_17 (by decide) ?_
      refine lv_icmp_ne (tgt := 44) hx hb dX2_open_18 (by decide) (fun c_3 => ?_) (fun c_3 => ?_)
      · -- taken at 18: ¬ p0 = 4
        refine lv_aload_n hx hb dX2_open_44 rfl (lv_at hl 0 rfl) ?_
        refine va_get (D := (dC, dI)) (ci := 3) (v := .int md) (C := RX2) (T := TX2) (N := 13) hx hb hts (by decide +kernel) hown hK hP 0 rfl rfl 7 (by decide) (hts (.fieldLink RX2 17 "RelativeFilesModel" "mode" "I") (by decide +kernel)) (fun _ h9 => h9) rfl dX2_open_45 ?_
        refine lv_iconst (v := (-1)) hx hb dX2_open_48 (by decide) ?_
        refine lv_icmp_eq (tgt := 55) hx hb dX2_open_49 (by decide) (fun c_4 => ?_) (fun c_4 => ?_)
        · -- taken at 49: md = (-1)
          refine lv_aload_n hx hb dX2_open_55 rfl (lv_at hl 0 rfl) ?_
          refine va_get (D := (dC, dI)) (ci := 3) (v := .int th) (C := RX2) (T := TX2) (N := 13) hx hb hts (by decide +kernel) hown hK hP 0 rfl rfl 5 (by decide) (hts (.fieldLink RX2 39 "RelativeFilesModel" "there" "Z") (by decide +kernel)) (fun _ h9 => h9) rfl dX2_open_56 ?_
          refine lv_if_ne (tgt := 74) hx hb dX2_open_59 (by decide) (fun c_5 => ?_) (fun c_5 => ?_)
          · -- taken at 59: ¬ th = 0
            refine lv_aload_n hx hb dX2_open_74 rfl (lv_at hl 0 rfl) ?_
            refine va_get (D := (dC, dI)) (ci := 3) (v := .int th) (C := RX2) (T := TX2) (N := 13) hx hb hts (by decide +kernel) hown hK hP 0 rfl rfl 5 (by decide) (hts (.fieldLink RX2 39 "RelativeFilesModel" "there" "Z") (by decide +kernel)) (fun _ h9 => h9) rfl dX2_open_75 ?_
            refine lv_if_ne (tgt := 85) hx hb dX2_open_78 (by decide) (fun c_6 => ?_) (fun c_6 => ?_)
            · -- taken at 78: ¬ th = 0
              refine lv_iconst (v := 0) hx hb dX2_open_85 (by decide) ?_
              refine lv_istore_n (lv' := [(2, .int 0), (0, .ref oM), (1, .int p0)]) hx hb dX2_open_86 rfl hl (by decide) rfl (fun ls hl => ?_)
              refine lv_aload_n hx hb dX2_open_87 rfl (lv_at hl 1 rfl) ?_
              refine lv_iconst (v := 1) hx hb dX2_open_88 (by decide) ?_
              refine va_put (D := (dC, dI)) (ci := 3) (v := .int 1) (ty := .boolean) (C := RX2) (T := TX2) (N := 13) hx hb hts (by decide +kernel) tyX2 tyX2_ok nmX2 hown hK hP hD hS 0 rfl rfl 5 (by decide) (hts (.fieldLink RX2 39 "RelativeFilesModel" "there" "Z") (by decide +kernel)) (fun _ h9 => h9) rfl (by decide +kernel) (by decide) (by decide) (Nat.le_of_ble_eq_true rfl) dX2_open_89 (fun H locs hP hD hS => ?_)
              have hP : va_P (dC, dI) vwCl [(oM, .inr (3, [.int 0, .int mo, .ref oN, .ref oU, .int (nI z), .int 1, .int en, .int md, .int po, .int pl, .int la, .int (nI d), .long va])), (oN, .inl (cN, 1100, .inl N)), (oU, .inl (cU, 1100, .inr (.inl U)))] H := hP
              have hD : va_D A [(oM, .inr (3, [.int 0, .int mo, .ref oN, .ref oU, .int (nI z), .int 1, .int en, .int md, .int po, .int pl, .int la, .int (nI d), .long va])), (oN, .inl (cN, 1100, .inl N)), (oU, .inl (cU, 1100, .inr (.inl U)))] := hD
              refine lv_aload_n hx hb dX2_open_92 rfl (lv_at hl 1 rfl) ?_
              refine lv_iload_n hx hb dX2_open_93 rfl (lv_at hl 2 rfl) ?_
              refine lv_iconst (v := 1) hx hb dX2_open_94 (by decide) ?_
              refine lv_icmp_ne (tgt := 102) hx hb dX2_open_95 (by decide) (fun c_7 => ?_) (fun c_7 => ?_)
              · -- taken at 95: ¬ p0 = 1
                refine lv_aload_n hx hb dX2_open_102 rfl (lv_at hl 1 rfl) ?_
                refine va_get (D := (dC, dI)) (ci := 3) (v := .int (nI z)) (C := RX2) (T := TX2) (N := 13) hx hb hts (by decide +kernel) hown hK hP 0 rfl rfl 4 (by decide) (hts (.fieldLink RX2 31 "RelativeFilesModel" "size" "I") (by decide +kernel)) (fun _ h9 => h9) rfl dX2_open_103 ?_
                refine va_put (D := (dC, dI)) (ci := 3) (v := .int (nI z)) (ty := .int) (C := RX2) (T := TX2) (N := 13) hx hb hts (by decide +kernel) tyX2 tyX2_ok nmX2 hown hK hP hD hS 0 rfl rfl 4 (by decide) (hts (.fieldLink RX2 31 "RelativeFilesModel" "size" "I") (by decide +kernel)) (fun _ h9 => h9) rfl (by decide +kernel) rfl rfl (Nat.le_of_ble_eq_true rfl) dX2_open_106 (fun H locs hP hD hS => ?_)
                have hP : va_P (dC, dI) vwCl [(oM, .inr (3, [.int 0, .int mo, .ref oN, .ref oU, .int (nI z), .int 1, .int en, .int md, .int po, .int pl, .int la, .int (nI d), .long va])), (oN, .inl (cN, 1100, .inl N)), (oU, .inl (cU, 1100, .inr (.inl U)))] H := hP
                have hD : va_D A [(oM, .inr (3, [.int 0, .int mo, .ref oN, .ref oU, .int (nI z), .int 1, .int en, .int md, .int po, .int pl, .int la, .int (nI d), .long va])), (oN, .inl (cN, 1100, .inl N)), (oU, .inl (cU, 1100, .inr (.inl U)))] := hD
                refine lv_aload_n hx hb dX2_open_109 rfl (lv_at hl 1 rfl) ?_
                refine lv_iload_n hx hb dX2_open_110 rfl (lv_at hl 2 rfl) ?_
                refine va_put (D := (dC, dI)) (ci := 3) (v := .int p0) (ty := .int) (C := RX2) (T := TX2) (N := 13) hx hb hts (by decide +kernel) tyX2 tyX2_ok nmX2 hown hK hP hD hS 0 rfl rfl 7 (by decide) (hts (.fieldLink RX2 17 "RelativeFilesModel" "mode" "I") (by decide +kernel)) (fun _ h9 => h9) rfl (by decide +kernel) rfl rfl (Nat.le_of_ble_eq_true rfl) dX2_open_111 (fun H locs hP hD hS => ?_)
                have hP : va_P (dC, dI) vwCl [(oM, .inr (3, [.int 0, .int mo, .ref oN, .ref oU, .int (nI z), .int 1, .int en, .int p0, .int po, .int pl, .int la, .int (nI d), .long va])), (oN, .inl (cN, 1100, .inl N)), (oU, .inl (cU, 1100, .inr (.inl U)))] H := hP
                have hD : va_D A [(oM, .inr (3, [.int 0, .int mo, .ref oN, .ref oU, .int (nI z), .int 1, .int en, .int p0, .int po, .int pl, .int la, .int (nI d), .long va])), (oN, .inl (cN, 1100, .inl N)), (oU, .inl (cU, 1100, .inr (.inl U)))] := hD
                refine lv_aload_n hx hb dX2_open_114 rfl (lv_at hl 1 rfl) ?_
                refine lv_iconst (v := 0) hx hb dX2_open_115 (by decide) ?_
                refine va_put (D := (dC, dI)) (ci := 3) (v := .int 0) (ty := .int) (C := RX2) (T := TX2) (N := 13) hx hb hts (by decide +kernel) tyX2 tyX2_ok nmX2 hown hK hP hD hS 0 rfl rfl 8 (by decide) (hts (.fieldLink RX2 43 "RelativeFilesModel" "position" "I") (by decide +kernel)) (fun _ h9 => h9) rfl (by decide +kernel) rfl rfl (Nat.le_of_ble_eq_true rfl) dX2_open_116 (fun H locs hP hD hS => ?_)
                have hP : va_P (dC, dI) vwCl [(oM, .inr (3, [.int 0, .int mo, .ref oN, .ref oU, .int (nI z), .int 1, .int en, .int p0, .int 0, .int pl, .int la, .int (nI d), .long va])), (oN, .inl (cN, 1100, .inl N)), (oU, .inl (cU, 1100, .inr (.inl U)))] H := hP
                have hD : va_D A [(oM, .inr (3, [.int 0, .int mo, .ref oN, .ref oU, .int (nI z), .int 1, .int en, .int p0, .int 0, .int pl, .int la, .int (nI d), .long va])), (oN, .inl (cN, 1100, .inl N)), (oU, .inl (cU, 1100, .inr (.inl U)))] := hD
                refine lv_aload_n hx hb dX2_open_119 rfl (lv_at hl 1 rfl) ?_
                refine lv_iconst (v := 0) hx hb dX2_open_120 (by decide) ?_
                refine va_put (D := (dC, dI)) (ci := 3) (v := .int 0) (ty := .boolean) (C := RX2) (T := TX2) (N := 13) hx hb hts (by decide +kernel) tyX2 tyX2_ok nmX2 hown hK hP hD hS 0 rfl rfl 6 (by decide) (hts (.fieldLink RX2 46 "RelativeFilesModel" "ended" "Z") (by decide +kernel)) (fun _ h9 => h9) rfl (by decide +kernel) (by decide) (by decide) (Nat.le_of_ble_eq_true rfl) dX2_open_121 (fun H locs hP hD hS => ?_)
                have hP : va_P (dC, dI) vwCl [(oM, .inr (3, [.int 0, .int mo, .ref oN, .ref oU, .int (nI z), .int 1, .int 0, .int p0, .int 0, .int pl, .int la, .int (nI d), .long va])), (oN, .inl (cN, 1100, .inl N)), (oU, .inl (cU, 1100, .inr (.inl U)))] H := hP
                have hD : va_D A [(oM, .inr (3, [.int 0, .int mo, .ref oN, .ref oU, .int (nI z), .int 1, .int 0, .int p0, .int 0, .int pl, .int la, .int (nI d), .long va])), (oN, .inl (cN, 1100, .inl N)), (oU, .inl (cU, 1100, .inr (.inl U)))] := hD
                refine lv_aload_n hx hb dX2_open_124 rfl (lv_at hl 1 rfl) ?_
                refine lv_iconst (v := 0) hx hb dX2_open_125 (by decide) ?_
                refine va_put (D := (dC, dI)) (ci := 3) (v := .int 0) (ty := .int) (C := RX2) (T := TX2) (N := 13) hx hb hts (by decide +kernel) tyX2 tyX2_ok nmX2 hown hK hP hD hS 0 rfl rfl 10 (by decide) (hts (.fieldLink RX2 36 "RelativeFilesModel" "last" "I") (by decide +kernel)) (fun _ h9 => h9) rfl (by decide +kernel) rfl rfl (Nat.le_of_ble_eq_true rfl) dX2_open_126 (fun H locs hP hD hS => ?_)
                have hP : va_P (dC, dI) vwCl [(oM, .inr (3, [.int 0, .int mo, .ref oN, .ref oU, .int (nI z), .int 1, .int 0, .int p0, .int 0, .int pl, .int 0, .int (nI d), .long va])), (oN, .inl (cN, 1100, .inl N)), (oU, .inl (cU, 1100, .inr (.inl U)))] H := hP
                have hD : va_D A [(oM, .inr (3, [.int 0, .int mo, .ref oN, .ref oU, .int (nI z), .int 1, .int 0, .int p0, .int 0, .int pl, .int 0, .int (nI d), .long va])), (oN, .inl (cN, 1100, .inl N)), (oU, .inl (cU, 1100, .inr (.inl U)))] := hD
                refine lv_iload_n hx hb dX2_open_129 rfl (lv_at hl 2 rfl) ?_
                refine lv_iconst (v := 3) hx hb dX2_open_130 (by decide) ?_
                refine lv_icmp_ne (tgt := 142) hx hb dX2_open_131 (by decide) (fun c_8 => ?_) (fun c_8 => ?_)
                · -- taken at 131: ¬ p0 = 3
                  refine lv_iconst (v := 0) hx hb dX2_open_142 (by decide) ?_
                  subst hQ9
                  have e9 : gOpen p0 (co, z, th, en, md, po, pl, la, d, va, N, U) = (0, (0, z, 1, 0, p0, 0, pl, 0, d, va, N, U)) := by simp only [gOpen, gO2, if_neg c_1, if_pos c_2, if_neg c_3, if_pos c_4, if_neg c_5, if_neg c_7, if_neg c_8]
                  rw [e9]
                  exact W.iret (v := 0) hx hb hr (fun t ht hW => ⟨⟨0, (), rfl, rfl, by rw [ht]; exact hP, va_K.moved hW.alike hK, hD⟩, hS.F ht⟩) hS.2.2 dX2_open_143
                · -- not taken at 131: p0 = 3
                  refine lv_iload_n hx hb dX2_open_134 rfl (lv_at hl 0 rfl) ?_
                  refine lv_if_eq (tgt := 142) hx hb dX2_open_135 (by decide) (fun c_9 => ?_) (fun c_9 => ?_)
                  · -- taken at 135: 0 = 0
                    refine lv_iconst (v := 0) hx hb dX2_open_142 (by decide) ?_
                    subst hQ9
                    have e9 : gOpen p0 (co, z, th, en, md, po, pl, la, d, va, N, U) = (0, (0, z, 1, 0, p0, 0, pl, 0, d, va, N, U)) := by simp only [gOpen, gO2, if_neg c_1, if_pos c_2, if_neg c_3, if_pos c_4, if_neg c_5, if_neg c_7, if_pos c_8]
                    rw [e9]
                    exact W.iret (v := 0) hx hb hr (fun t ht hW => ⟨⟨0, (), rfl, rfl, by rw [ht]; exact hP, va_K.moved hW.alike hK, hD⟩, hS.F ht⟩) hS.2.2 dX2_open_143
                  · -- not taken at 135: ¬ 0 = 0
                    exact absurd c_9 (by decide)
              · -- not taken at 95: p0 = 1
                refine lv_iconst (v := 0) hx hb dX2_open_98 (by decide) ?_
                refine lv_goto (tgt := 106) hx hb dX2_open_99 (by decide) ?_
                refine va_put (D := (dC, dI)) (ci := 3) (v := .int 0) (ty := .int) (C := RX2) (T := TX2) (N := 13) hx hb hts (by decide +kernel) tyX2 tyX2_ok nmX2 hown hK hP hD hS 0 rfl rfl 4 (by decide) (hts (.fieldLink RX2 31 "RelativeFilesModel" "size" "I") (by decide +kernel)) (fun _ h9 => h9) rfl (by decide +kernel) rfl rfl (Nat.le_of_ble_eq_true rfl) dX2_open_106 (fun H locs hP hD hS => ?_)
                have hP : va_P (dC, dI) vwCl [(oM, .inr (3, [.int 0, .int mo, .ref oN, .ref oU, .int 0, .int 1, .int en, .int md, .int po, .int pl, .int la, .int (nI d), .long va])), (oN, .inl (cN, 1100, .inl N)), (oU, .inl (cU, 1100, .inr (.inl U)))] H := hP
                have hD : va_D A [(oM, .inr (3, [.int 0, .int mo, .ref oN, .ref oU, .int 0, .int 1, .int en, .int md, .int po, .int pl, .int la, .int (nI d), .long va])), (oN, .inl (cN, 1100, .inl N)), (oU, .inl (cU, 1100, .inr (.inl U)))] := hD
                refine lv_aload_n hx hb dX2_open_109 rfl (lv_at hl 1 rfl) ?_
                refine lv_iload_n hx hb dX2_open_110 rfl (lv_at hl 2 rfl) ?_
                refine va_put (D := (dC, dI)) (ci := 3) (v := .int p0) (ty := .int) (C := RX2) (T := TX2) (N := 13) hx hb hts (by decide +kernel) tyX2 tyX2_ok nmX2 hown hK hP hD hS 0 rfl rfl 7 (by decide) (hts (.fieldLink RX2 17 "RelativeFilesModel" "mode" "I") (by decide +kernel)) (fun _ h9 => h9) rfl (by decide +kernel) rfl rfl (Nat.le_of_ble_eq_true rfl) dX2_open_111 (fun H locs hP hD hS => ?_)
                have hP : va_P (dC, dI) vwCl [(oM, .inr (3, [.int 0, .int mo, .ref oN, .ref oU, .int 0, .int 1, .int en, .int p0, .int po, .int pl, .int la, .int (nI d), .long va])), (oN, .inl (cN, 1100, .inl N)), (oU, .inl (cU, 1100, .inr (.inl U)))] H := hP
                have hD : va_D A [(oM, .inr (3, [.int 0, .int mo, .ref oN, .ref oU, .int 0, .int 1, .int en, .int p0, .int po, .int pl, .int la, .int (nI d), .long va])), (oN, .inl (cN, 1100, .inl N)), (oU, .inl (cU, 1100, .inr (.inl U)))] := hD
                refine lv_aload_n hx hb dX2_open_114 rfl (lv_at hl 1 rfl) ?_
                refine lv_iconst (v := 0) hx hb dX2_open_115 (by decide) ?_
                refine va_put (D := (dC, dI)) (ci := 3) (v := .int 0) (ty := .int) (C := RX2) (T := TX2) (N := 13) hx hb hts (by decide +kernel) tyX2 tyX2_ok nmX2 hown hK hP hD hS 0 rfl rfl 8 (by decide) (hts (.fieldLink RX2 43 "RelativeFilesModel" "position" "I") (by decide +kernel)) (fun _ h9 => h9) rfl (by decide +kernel) rfl rfl (Nat.le_of_ble_eq_true rfl) dX2_open_116 (fun H locs hP hD hS => ?_)
                have hP : va_P (dC, dI) vwCl [(oM, .inr (3, [.int 0, .int mo, .ref oN, .ref oU, .int 0, .int 1, .int en, .int p0, .int 0, .int pl, .int la, .int (nI d), .long va])), (oN, .inl (cN, 1100, .inl N)), (oU, .inl (cU, 1100, .inr (.inl U)))] H := hP
                have hD : va_D A [(oM, .inr (3, [.int 0, .int mo, .ref oN, .ref oU, .int 0, .int 1, .int en, .int p0, .int 0, .int pl, .int la, .int (nI d), .long va])), (oN, .inl (cN, 1100, .inl N)), (oU, .inl (cU, 1100, .inr (.inl U)))] := hD
                refine lv_aload_n hx hb dX2_open_119 rfl (lv_at hl 1 rfl) ?_
                refine lv_iconst (v := 0) hx hb dX2_open_120 (by decide) ?_
                refine va_put (D := (dC, dI)) (ci := 3) (v := .int 0) (ty := .boolean) (C := RX2) (T := TX2) (N := 13) hx hb hts (by decide +kernel) tyX2 tyX2_ok nmX2 hown hK hP hD hS 0 rfl rfl 6 (by decide) (hts (.fieldLink RX2 46 "RelativeFilesModel" "ended" "Z") (by decide +kernel)) (fun _ h9 => h9) rfl (by decide +kernel) (by decide) (by decide) (Nat.le_of_ble_eq_true rfl) dX2_open_121 (fun H locs hP hD hS => ?_)
                have hP : va_P (dC, dI) vwCl [(oM, .inr (3, [.int 0, .int mo, .ref oN, .ref oU, .int 0, .int 1, .int 0, .int p0, .int 0, .int pl, .int la, .int (nI d), .long va])), (oN, .inl (cN, 1100, .inl N)), (oU, .inl (cU, 1100, .inr (.inl U)))] H := hP
                have hD : va_D A [(oM, .inr (3, [.int 0, .int mo, .ref oN, .ref oU, .int 0, .int 1, .int 0, .int p0, .int 0, .int pl, .int la, .int (nI d), .long va])), (oN, .inl (cN, 1100, .inl N)), (oU, .inl (cU, 1100, .inr (.inl U)))] := hD
                refine lv_aload_n hx hb dX2_open_124 rfl (lv_at hl 1 rfl) ?_
                refine lv_iconst (v := 0) hx hb dX2_open_125 (by decide) ?_
                refine va_put (D := (dC, dI)) (ci := 3) (v := .int 0) (ty := .int) (C := RX2) (T := TX2) (N := 13) hx hb hts (by decide +kernel) tyX2 tyX2_ok nmX2 hown hK hP hD hS 0 rfl rfl 10 (by decide) (hts (.fieldLink RX2 36 "RelativeFilesModel" "last" "I") (by decide +kernel)) (fun _ h9 => h9) rfl (by decide +kernel) rfl rfl (Nat.le_of_ble_eq_true rfl) dX2_open_126 (fun H locs hP hD hS => ?_)
                have hP : va_P (dC, dI) vwCl [(oM, .inr (3, [.int 0, .int mo, .ref oN, .ref oU, .int 0, .int 1, .int 0, .int p0, .int 0, .int pl, .int 0, .int (nI d), .long va])), (oN, .inl (cN, 1100, .inl N)), (oU, .inl (cU, 1100, .inr (.inl U)))] H := hP
                have hD : va_D A [(oM, .inr (3, [.int 0, .int mo, .ref oN, .ref oU, .int 0, .int 1, .int 0, .int p0, .int 0, .int pl, .int 0, .int (nI d), .long va])), (oN, .inl (cN, 1100, .inl N)), (oU, .inl (cU, 1100, .inr (.inl U)))] := hD
                refine lv_iload_n hx hb dX2_open_129 rfl (lv_at hl 2 rfl) ?_
                refine lv_iconst (v := 3) hx hb dX2_open_130 (by decide) ?_
                refine lv_icmp_ne (tgt := 142) hx hb dX2_open_131 (by decide) (fun c_10 => ?_) (fun c_10 => ?_)
                · -- taken at 131: ¬ p0 = 3
                  refine lv_iconst (v := 0) hx hb dX2_open_142 (by decide) ?_
                  subst hQ9
                  have e9 : gOpen p0 (co, z, th, en, md, po, pl, la, d, va, N, U) = (0, (0, 0, 1, 0, p0, 0, pl, 0, d, va, N, U)) := by simp only [gOpen, gO2, if_neg c_1, if_pos c_2, if_neg c_3, if_pos c_4, if_neg c_5, if_pos c_7, if_neg c_10]
                  rw [e9]
                  exact W.iret (v := 0) hx hb hr (fun t ht hW => ⟨⟨0, (), rfl, rfl, by rw [ht]; exact hP, va_K.moved hW.alike hK, hD⟩, hS.F ht⟩) hS.2.2 dX2_open_143
                · -- not taken at 131: p0 = 3
                  refine lv_iload_n hx hb dX2_open_134 rfl (lv_at hl 0 rfl) ?_
                  refine lv_if_eq (tgt := 142) hx hb dX2_open_135 (by decide) (fun c_11 => ?_) (fun c_11 => ?_)
                  · -- taken at 135: 0 = 0
                    refine lv_iconst (v := 0) hx hb dX2_open_142 (by decide) ?_
                    subst hQ9
                    have e9 : gOpen p0 (co, z, th, en, md, po, pl, la, d, va, N, U) = (0, (0, 0, 1, 0, p0, 0, pl, 0, d, va, N, U)) := by simp only [gOpen, gO2, if_neg c_1, if_pos c_2, if_neg c_3, if_pos c_4, if_neg c_5, if_pos c_7, if_pos c_10]
                    rw [e9]
                    exact W.iret (v := 0) hx hb hr (fun t ht hW => ⟨⟨0, (), rfl, rfl, by rw [ht]; exact hP, va_K.moved hW.alike hK, hD⟩, hS.F ht⟩) hS.2.2 dX2_open_143
                  · -- not taken at 135: ¬ 0 = 0
                    exact absurd c_11 (by decide)
            · -- not taken at 78: th = 0
              exact absurd c_6 c_5
          · -- not taken at 59: th = 0
            refine lv_iload_n hx hb dX2_open_62 rfl (lv_at hl 1 rfl) ?_
            refine lv_if_eq (tgt := 71) hx hb dX2_open_63 (by decide) (fun c_12 => ?_) (fun c_12 => ?_)
            · -- taken at 63: p0 = 0
              refine lv_bipush (v := 35) hx hb dX2_open_71 (by decide) ?_
              subst hQ9
              have e9 : gOpen p0 (co, z, th, en, md, po, pl, la, d, va, N, U) = (35, (0, z, th, en, md, po, pl, la, d, va, N, U)) := by simp only [gOpen, gO2, if_neg c_1, if_pos c_2, if_neg c_3, if_pos c_4, if_pos c_5, if_pos c_12]
              rw [e9]
              exact W.iret (v := 35) hx hb hr (fun t ht hW => ⟨⟨35, (), rfl, rfl, by rw [ht]; exact hP, va_K.moved hW.alike hK, hD⟩, hS.F ht⟩) hS.2.2 dX2_open_73
            · -- not taken at 63: ¬ p0 = 0
              refine lv_iload_n hx hb dX2_open_66 rfl (lv_at hl 1 rfl) ?_
              refine lv_iconst (v := 2) hx hb dX2_open_67 (by decide) ?_
              refine lv_icmp_ne (tgt := 74) hx hb dX2_open_68 (by decide) (fun c_13 => ?_) (fun c_13 => ?_)
              · -- taken at 68: ¬ p0 = 2
                refine lv_aload_n hx hb dX2_open_74 rfl (lv_at hl 0 rfl) ?_
                refine va_get (D := (dC, dI)) (ci := 3) (v := .int th) (C := RX2) (T := TX2) (N := 13) hx hb hts (by decide +kernel) hown hK hP 0 rfl rfl 5 (by decide) (hts (.fieldLink RX2 39 "RelativeFilesModel" "there" "Z") (by decide +kernel)) (fun _ h9 => h9) rfl dX2_open_75 ?_
                refine lv_if_ne (tgt := 85) hx hb dX2_open_78 (by decide) (fun c_14 => ?_) (fun c_14 => ?_)
                · -- taken at 78: ¬ th = 0
                  exact absurd c_5 c_14
                · -- not taken at 78: th = 0
                  refine lv_iconst (v := 1) hx hb dX2_open_81 (by decide) ?_
                  refine lv_goto (tgt := 86) hx hb dX2_open_82 (by decide) ?_
                  refine lv_istore_n (lv' := [(2, .int 1), (0, .ref oM), (1, .int p0)]) hx hb dX2_open_86 rfl hl (by decide) rfl (fun ls hl => ?_)
                  refine lv_aload_n hx hb dX2_open_87 rfl (lv_at hl 1 rfl) ?_
                  refine lv_iconst (v := 1) hx hb dX2_open_88 (by decide) ?_
                  refine va_put (D := (dC, dI)) (ci := 3) (v := .int 1) (ty := .boolean) (C := RX2) (T := TX2) (N := 13) hx hb hts (by decide +kernel) tyX2 tyX2_ok nmX2 hown hK hP hD hS 0 rfl rfl 5 (by decide) (hts (.fieldLink RX2 39 "RelativeFilesModel" "there" "Z") (by decide +kernel)) (fun _ h9 => h9) rfl (by decide +kernel) (by decide) (by decide) (Nat.le_of_ble_eq_true rfl) dX2_open_89 (fun H locs hP hD hS => ?_)
                  have hP : va_P (dC, dI) vwCl [(oM, .inr (3, [.int 0, .int mo, .ref oN, .ref oU, .int (nI z), .int 1, .int en, .int md, .int po, .int pl, .int la, .int (nI d), .long va])), (oN, .inl (cN, 1100, .inl N)), (oU, .inl (cU, 1100, .inr (.inl U)))] H := hP
                  have hD : va_D A [(oM, .inr (3, [.int 0, .int mo, .ref oN, .ref oU, .int (nI z), .int 1, .int en, .int md, .int po, .int pl, .int la, .int (nI d), .long va])), (oN, .inl (cN, 1100, .inl N)), (oU, .inl (cU, 1100, .inr (.inl U)))] := hD
                  refine lv_aload_n hx hb dX2_open_92 rfl (lv_at hl 1 rfl) ?_
                  refine lv_iload_n hx hb dX2_open_93 rfl (lv_at hl 2 rfl) ?_
                  refine lv_iconst (v := 1) hx hb dX2_open_94 (by decide) ?_
                  refine lv_icmp_ne (tgt := 102) hx hb dX2_open_95 (by decide) (fun c_15 => ?_) (fun c_15 => ?_)
                  · -- taken at 95: ¬ p0 = 1
                    refine lv_aload_n hx hb dX2_open_102 rfl (lv_at hl 1 rfl) ?_
                    refine va_get (D := (dC, dI)) (ci := 3) (v := .int (nI z)) (C := RX2) (T := TX2) (N := 13) hx hb hts (by decide +kernel) hown hK hP 0 rfl rfl 4 (by decide) (hts (.fieldLink RX2 31 "RelativeFilesModel" "size" "I") (by decide +kernel)) (fun _ h9 => h9) rfl dX2_open_103 ?_
                    refine va_put (D := (dC, dI)) (ci := 3) (v := .int (nI z)) (ty := .int) (C := RX2) (T := TX2) (N := 13) hx hb hts (by decide +kernel) tyX2 tyX2_ok nmX2 hown hK hP hD hS 0 rfl rfl 4 (by decide) (hts (.fieldLink RX2 31 "RelativeFilesModel" "size" "I") (by decide +kernel)) (fun _ h9 => h9) rfl (by decide +kernel) rfl rfl (Nat.le_of_ble_eq_true rfl) dX2_open_106 (fun H locs hP hD hS => ?_)
                    have hP : va_P (dC, dI) vwCl [(oM, .inr (3, [.int 0, .int mo, .ref oN, .ref oU, .int (nI z), .int 1, .int en, .int md, .int po, .int pl, .int la, .int (nI d), .long va])), (oN, .inl (cN, 1100, .inl N)), (oU, .inl (cU, 1100, .inr (.inl U)))] H := hP
                    have hD : va_D A [(oM, .inr (3, [.int 0, .int mo, .ref oN, .ref oU, .int (nI z), .int 1, .int en, .int md, .int po, .int pl, .int la, .int (nI d), .long va])), (oN, .inl (cN, 1100, .inl N)), (oU, .inl (cU, 1100, .inr (.inl U)))] := hD
                    refine lv_aload_n hx hb dX2_open_109 rfl (lv_at hl 1 rfl) ?_
                    refine lv_iload_n hx hb dX2_open_110 rfl (lv_at hl 2 rfl) ?_
                    refine va_put (D := (dC, dI)) (ci := 3) (v := .int p0) (ty := .int) (C := RX2) (T := TX2) (N := 13) hx hb hts (by decide +kernel) tyX2 tyX2_ok nmX2 hown hK hP hD hS 0 rfl rfl 7 (by decide) (hts (.fieldLink RX2 17 "RelativeFilesModel" "mode" "I") (by decide +kernel)) (fun _ h9 => h9) rfl (by decide +kernel) rfl rfl (Nat.le_of_ble_eq_true rfl) dX2_open_111 (fun H locs hP hD hS => ?_)
                    have hP : va_P (dC, dI) vwCl [(oM, .inr (3, [.int 0, .int mo, .ref oN, .ref oU, .int (nI z), .int 1, .int en, .int p0, .int po, .int pl, .int la, .int (nI d), .long va])), (oN, .inl (cN, 1100, .inl N)), (oU, .inl (cU, 1100, .inr (.inl U)))] H := hP
                    have hD : va_D A [(oM, .inr (3, [.int 0, .int mo, .ref oN, .ref oU, .int (nI z), .int 1, .int en, .int p0, .int po, .int pl, .int la, .int (nI d), .long va])), (oN, .inl (cN, 1100, .inl N)), (oU, .inl (cU, 1100, .inr (.inl U)))] := hD
                    refine lv_aload_n hx hb dX2_open_114 rfl (lv_at hl 1 rfl) ?_
                    refine lv_iconst (v := 0) hx hb dX2_open_115 (by decide) ?_
                    refine va_put (D := (dC, dI)) (ci := 3) (v := .int 0) (ty := .int) (C := RX2) (T := TX2) (N := 13) hx hb hts (by decide +kernel) tyX2 tyX2_ok nmX2 hown hK hP hD hS 0 rfl rfl 8 (by decide) (hts (.fieldLink RX2 43 "RelativeFilesModel" "position" "I") (by decide +kernel)) (fun _ h9 => h9) rfl (by decide +kernel) rfl rfl (Nat.le_of_ble_eq_true rfl) dX2_open_116 (fun H locs hP hD hS => ?_)
                    have hP : va_P (dC, dI) vwCl [(oM, .inr (3, [.int 0, .int mo, .ref oN, .ref oU, .int (nI z), .int 1, .int en, .int p0, .int 0, .int pl, .int la, .int (nI d), .long va])), (oN, .inl (cN, 1100, .inl N)), (oU, .inl (cU, 1100, .inr (.inl U)))] H := hP
                    have hD : va_D A [(oM, .inr (3, [.int 0, .int mo, .ref oN, .ref oU, .int (nI z), .int 1, .int en, .int p0, .int 0, .int pl, .int la, .int (nI d), .long va])), (oN, .inl (cN, 1100, .inl N)), (oU, .inl (cU, 1100, .inr (.inl U)))] := hD
                    refine lv_aload_n hx hb dX2_open_119 rfl (lv_at hl 1 rfl) ?_
                    refine lv_iconst (v := 0) hx hb dX2_open_120 (by decide) ?_
                    refine va_put (D := (dC, dI)) (ci := 3) (v := .int 0) (ty := .boolean) (C := RX2) (T := TX2) (N := 13) hx hb hts (by decide +kernel) tyX2 tyX2_ok nmX2 hown hK hP hD hS 0 rfl rfl 6 (by decide) (hts (.fieldLink RX2 46 "RelativeFilesModel" "ended" "Z") (by decide +kernel)) (fun _ h9 => h9) rfl (by decide +kernel) (by decide) (by decide) (Nat.le_of_ble_eq_true rfl) dX2_open_121 (fun H locs hP hD hS => ?_)
                    have hP : va_P (dC, dI) vwCl [(oM, .inr (3, [.int 0, .int mo, .ref oN, .ref oU, .int (nI z), .int 1, .int 0, .int p0, .int 0, .int pl, .int la, .int (nI d), .long va])), (oN, .inl (cN, 1100, .inl N)), (oU, .inl (cU, 1100, .inr (.inl U)))] H := hP
                    have hD : va_D A [(oM, .inr (3, [.int 0, .int mo, .ref oN, .ref oU, .int (nI z), .int 1, .int 0, .int p0, .int 0, .int pl, .int la, .int (nI d), .long va])), (oN, .inl (cN, 1100, .inl N)), (oU, .inl (cU, 1100, .inr (.inl U)))] := hD
                    refine lv_aload_n hx hb dX2_open_124 rfl (lv_at hl 1 rfl) ?_
                    refine lv_iconst (v := 0) hx hb dX2_open_125 (by decide) ?_
                    refine va_put (D := (dC, dI)) (ci := 3) (v := .int 0) (ty := .int) (C := RX2) (T := TX2) (N := 13) hx hb hts (by decide +kernel) tyX2 tyX2_ok nmX2 hown hK hP hD hS 0 rfl rfl 10 (by decide) (hts (.fieldLink RX2 36 "RelativeFilesModel" "last" "I") (by decide +kernel)) (fun _ h9 => h9) rfl (by decide +kernel) rfl rfl (Nat.le_of_ble_eq_true rfl) dX2_open_126 (fun H locs hP hD hS => ?_)
                    have hP : va_P (dC, dI) vwCl [(oM, .inr (3, [.int 0, .int mo, .ref oN, .ref oU, .int (nI z), .int 1, .int 0, .int p0, .int 0, .int pl, .int 0, .int (nI d), .long va])), (oN, .inl (cN, 1100, .inl N)), (oU, .inl (cU, 1100, .inr (.inl U)))] H := hP
                    have hD : va_D A [(oM, .inr (3, [.int 0, .int mo, .ref oN, .ref oU, .int (nI z), .int 1, .int 0, .int p0, .int 0, .int pl, .int 0, .int (nI d), .long va])), (oN, .inl (cN, 1100, .inl N)), (oU, .inl (cU, 1100, .inr (.inl U)))] := hD
                    refine lv_iload_n hx hb dX2_open_129 rfl (lv_at hl 2 rfl) ?_
                    refine lv_iconst (v := 3) hx hb dX2_open_130 (by decide) ?_
                    refine lv_icmp_ne (tgt := 142) hx hb dX2_open_131 (by decide) (fun c_16 => ?_) (fun c_16 => ?_)
                    · -- taken at 131: ¬ p0 = 3
                      refine lv_iconst (v := 0) hx hb dX2_open_142 (by decide) ?_
                      subst hQ9
                      have e9 : gOpen p0 (co, z, th, en, md, po, pl, la, d, va, N, U) = (0, (0, z, 1, 0, p0, 0, pl, 0, d, va, N, U)) := by simp only [gOpen, gO2, if_neg c_1, if_pos c_2, if_neg c_3, if_pos c_4, if_pos c_5, if_neg c_12, if_neg c_13, if_neg c_15, if_neg c_16]
                      rw [e9]
                      exact W.iret (v := 0) hx hb hr (fun t ht hW => ⟨⟨0, (), rfl, rfl, by rw [ht]; exact hP, va_K.moved hW.alike hK, hD⟩, hS.F ht⟩) hS.2.2 dX2_open_143
                    · -- not taken at 131: p0 = 3
                      refine lv_iload_n hx hb dX2_open_134 rfl (lv_at hl 0 rfl) ?_
                      refine lv_if_eq (tgt := 142) hx hb dX2_open_135 (by decide) (fun c_17 => ?_) (fun c_17 => ?_)
                      · -- taken at 135: 1 = 0
                        exact absurd c_17 (by decide)
                      · -- not taken at 135: ¬ 1 = 0
                        refine lv_iconst (v := 5) hx hb dX2_open_138 (by decide) ?_
                        refine lv_goto (tgt := 143) hx hb dX2_open_139 (by decide) ?_
                        subst hQ9
                        have e9 : gOpen p0 (co, z, th, en, md, po, pl, la, d, va, N, U) = (5, (0, z, 1, 0, p0, 0, pl, 0, d, va, N, U)) := by simp only [gOpen, gO2, if_neg c_1, if_pos c_2, if_neg c_3, if_pos c_4, if_pos c_5, if_neg c_12, if_neg c_13, if_neg c_15, if_pos c_16]
                        rw [e9]
                        exact W.iret (v := 5) hx hb hr (fun t ht hW => ⟨⟨5, (), rfl, rfl, by rw [ht]; exact hP, va_K.moved hW.alike hK, hD⟩, hS.F ht⟩) hS.2.2 dX2_open_143
                  · -- not taken at 95: p0 = 1
                    refine lv_iconst (v := 0) hx hb dX2_open_98 (by decide) ?_
                    refine lv_goto (tgt := 106) hx hb dX2_open_99 (by decide) ?_
                    refine va_put (D := (dC, dI)) (ci := 3) (v := .int 0) (ty := .int) (C := RX2) (T := TX2) (N := 13) hx hb hts (by decide +kernel) tyX2 tyX2_ok nmX2 hown hK hP hD hS 0 rfl rfl 4 (by decide) (hts (.fieldLink RX2 31 "RelativeFilesModel" "size" "I") (by decide +kernel)) (fun _ h9 => h9) rfl (by decide +kernel) rfl rfl (Nat.le_of_ble_eq_true rfl) dX2_open_106 (fun H locs hP hD hS => ?_)
                    have hP : va_P (dC, dI) vwCl [(oM, .inr (3, [.int 0, .int mo, .ref oN, .ref oU, .int 0, .int 1, .int en, .int md, .int po, .int pl, .int la, .int (nI d), .long va])), (oN, .inl (cN, 1100, .inl N)), (oU, .inl (cU, 1100, .inr (.inl U)))] H := hP
                    have hD : va_D A [(oM, .inr (3, [.int 0, .int mo, .ref oN, .ref oU, .int 0, .int 1, .int en, .int md, .int po, .int pl, .int la, .int (nI d), .long va])), (oN, .inl (cN, 1100, .inl N)), (oU, .inl (cU, 1100, .inr (.inl U)))] := hD
                    refine lv_aload_n hx hb dX2_open_109 rfl (lv_at hl 1 rfl) ?_
                    refine lv_iload_n hx hb dX2_open_110 rfl (lv_at hl 2 rfl) ?_
                    refine va_put (D := (dC, dI)) (ci := 3) (v := .int p0) (ty := .int) (C := RX2) (T := TX2) (N := 13) hx hb hts (by decide +kernel) tyX2 tyX2_ok nmX2 hown hK hP hD hS 0 rfl rfl 7 (by decide) (hts (.fieldLink RX2 17 "RelativeFilesModel" "mode" "I") (by decide +kernel)) (fun _ h9 => h9) rfl (by decide +kernel) rfl rfl (Nat.le_of_ble_eq_true rfl) dX2_open_111 (fun H locs hP hD hS => ?_)
                    have hP : va_P (dC, dI) vwCl [(oM, .inr (3, [.int 0, .int mo, .ref oN, .ref oU, .int 0, .int 1, .int en, .int p0, .int po, .int pl, .int la, .int (nI d), .long va])), (oN, .inl (cN, 1100, .inl N)), (oU, .inl (cU, 1100, .inr (.inl U)))] H := hP
                    have hD : va_D A [(oM, .inr (3, [.int 0, .int mo, .ref oN, .ref oU, .int 0, .int 1, .int en, .int p0, .int po, .int pl, .int la, .int (nI d), .long va])), (oN, .inl (cN, 1100, .inl N)), (oU, .inl (cU, 1100, .inr (.inl U)))] := hD
                    refine lv_aload_n hx hb dX2_open_114 rfl (lv_at hl 1 rfl) ?_
                    refine lv_iconst (v := 0) hx hb dX2_open_115 (by decide) ?_
                    refine va_put (D := (dC, dI)) (ci := 3) (v := .int 0) (ty := .int) (C := RX2) (T := TX2) (N := 13) hx hb hts (by decide +kernel) tyX2 tyX2_ok nmX2 hown hK hP hD hS 0 rfl rfl 8 (by decide) (hts (.fieldLink RX2 43 "RelativeFilesModel" "position" "I") (by decide +kernel)) (fun _ h9 => h9) rfl (by decide +kernel) rfl rfl (Nat.le_of_ble_eq_true rfl) dX2_open_116 (fun H locs hP hD hS => ?_)
                    have hP : va_P (dC, dI) vwCl [(oM, .inr (3, [.int 0, .int mo, .ref oN, .ref oU, .int 0, .int 1, .int en, .int p0, .int 0, .int pl, .int la, .int (nI d), .long va])), (oN, .inl (cN, 1100, .inl N)), (oU, .inl (cU, 1100, .inr (.inl U)))] H := hP
                    have hD : va_D A [(oM, .inr (3, [.int 0, .int mo, .ref oN, .ref oU, .int 0, .int 1, .int en, .int p0, .int 0, .int pl, .int la, .int (nI d), .long va])), (oN, .inl (cN, 1100, .inl N)), (oU, .inl (cU, 1100, .inr (.inl U)))] := hD
                    refine lv_aload_n hx hb dX2_open_119 rfl (lv_at hl 1 rfl) ?_
                    refine lv_iconst (v := 0) hx hb dX2_open_120 (by decide) ?_
                    refine va_put (D := (dC, dI)) (ci := 3) (v := .int 0) (ty := .boolean) (C := RX2) (T := TX2) (N := 13) hx hb hts (by decide +kernel) tyX2 tyX2_ok nmX2 hown hK hP hD hS 0 rfl rfl 6 (by decide) (hts (.fieldLink RX2 46 "RelativeFilesModel" "ended" "Z") (by decide +kernel)) (fun _ h9 => h9) rfl (by decide +kernel) (by decide) (by decide) (Nat.le_of_ble_eq_true rfl) dX2_open_121 (fun H locs hP hD hS => ?_)
                    have hP : va_P (dC, dI) vwCl [(oM, .inr (3, [.int 0, .int mo, .ref oN, .ref oU, .int 0, .int 1, .int 0, .int p0, .int 0, .int pl, .int la, .int (nI d), .long va])), (oN, .inl (cN, 1100, .inl N)), (oU, .inl (cU, 1100, .inr (.inl U)))] H := hP
                    have hD : va_D A [(oM, .inr (3, [.int 0, .int mo, .ref oN, .ref oU, .int 0, .int 1, .int 0, .int p0, .int 0, .int pl, .int la, .int (nI d), .long va])), (oN, .inl (cN, 1100, .inl N)), (oU, .inl (cU, 1100, .inr (.inl U)))] := hD
                    refine lv_aload_n hx hb dX2_open_124 rfl (lv_at hl 1 rfl) ?_
                    refine lv_iconst (v := 0) hx hb dX2_open_125 (by decide) ?_
                    refine va_put (D := (dC, dI)) (ci := 3) (v := .int 0) (ty := .int) (C := RX2) (T := TX2) (N := 13) hx hb hts (by decide +kernel) tyX2 tyX2_ok nmX2 hown hK hP hD hS 0 rfl rfl 10 (by decide) (hts (.fieldLink RX2 36 "RelativeFilesModel" "last" "I") (by decide +kernel)) (fun _ h9 => h9) rfl (by decide +kernel) rfl rfl (Nat.le_of_ble_eq_true rfl) dX2_open_126 (fun H locs hP hD hS => ?_)
                    have hP : va_P (dC, dI) vwCl [(oM, .inr (3, [.int 0, .int mo, .ref oN, .ref oU, .int 0, .int 1, .int 0, .int p0, .int 0, .int pl, .int 0, .int (nI d), .long va])), (oN, .inl (cN, 1100, .inl N)), (oU, .inl (cU, 1100, .inr (.inl U)))] H := hP
                    have hD : va_D A [(oM, .inr (3, [.int 0, .int mo, .ref oN, .ref oU, .int 0, .int 1, .int 0, .int p0, .int 0, .int pl, .int 0, .int (nI d), .long va])), (oN, .inl (cN, 1100, .inl N)), (oU, .inl (cU, 1100, .inr (.inl U)))] := hD
                    refine lv_iload_n hx hb dX2_open_129 rfl (lv_at hl 2 rfl) ?_
                    refine lv_iconst (v := 3) hx hb dX2_open_130 (by decide) ?_
                    refine lv_icmp_ne (tgt := 142) hx hb dX2_open_131 (by decide) (fun c_18 => ?_) (fun c_18 => ?_)
                    · -- taken at 131: ¬ p0 = 3
                      refine lv_iconst (v := 0) hx hb dX2_open_142 (by decide) ?_
                      subst hQ9
                      have e9 : gOpen p0 (co, z, th, en, md, po, pl, la, d, va, N, U) = (0, (0, 0, 1, 0, p0, 0, pl, 0, d, va, N, U)) := by simp only [gOpen, gO2, if_neg c_1, if_pos c_2, if_neg c_3, if_pos c_4, if_pos c_5, if_neg c_12, if_neg c_13, if_pos c_15, if_neg c_18]
                      rw [e9]
                      exact W.iret (v := 0) hx hb hr (fun t ht hW => ⟨⟨0, (), rfl, rfl, by rw [ht]; exact hP, va_K.moved hW.alike hK, hD⟩, hS.F ht⟩) hS.2.2 dX2_open_143
                    · -- not taken at 131: p0 = 3
                      refine lv_iload_n hx hb dX2_open_134 rfl (lv_at hl 0 rfl) ?_
                      refine lv_if_eq (tgt := 142) hx hb dX2_open_135 (by decide) (fun c_19 => ?_) (fun c_19 => ?_)
                      · -- taken at 135: 1 = 0
                        exact absurd c_19 (by decide)
                      · -- not taken at 135: ¬ 1 = 0
                        refine lv_iconst (v := 5) hx hb dX2_open_138 (by decide) ?_
                        refine lv_goto (tgt := 143) hx hb dX2_open_139 (by decide) ?_
                        subst hQ9
                        have e9 : gOpen p0 (co, z, th, en, md, po, pl, la, d, va, N, U) = (5, (0, 0, 1, 0, p0, 0, pl, 0, d, va, N, U)) := by simp only [gOpen, gO2, if_neg c_1, if_pos c_2, if_neg c_3, if_pos c_4, if_pos c_5, if_neg c_12, if_neg c_13, if_pos c_15, if_pos c_18]
                        rw [e9]
                        exact W.iret (v := 5) hx hb hr (fun t ht hW => ⟨⟨5, (), rfl, rfl, by rw [ht]; exact hP, va_K.moved hW.alike hK, hD⟩, hS.F ht⟩) hS.2.2 dX2_open_143
              · -- not taken at 68: p0 = 2
                refine lv_bipush (v := 35) hx hb dX2_open_71 (by decide) ?_
                subst hQ9
                have e9 : gOpen p0 (co, z, th, en, md, po, pl, la, d, va, N, U) = (35, (0, z, th, en, md, po, pl, la, d, va, N, U)) := by simp only [gOpen, gO2, if_neg c_1, if_pos c_2, if_neg c_3, if_pos c_4, if_pos c_5, if_neg c_12, if_pos c_13]
                rw [e9]
                exact W.iret (v := 35) hx hb hr (fun t ht hW => ⟨⟨35, (), rfl, rfl, by rw [ht]; exact hP, va_K.moved hW.alike hK, hD⟩, hS.F ht⟩) hS.2.2 dX2_open_73
        · -- not taken at 49: ¬ md = (-1)
          refine lv_bipush (v := 41) hx hb dX2_open_52 (by decide) ?_
          subst hQ9
          have e9 : gOpen p0 (co, z, th, en, md, po, pl, la, d, va, N, U) = (41, (0, z, th, en, md, po, pl, la, d, va, N, U)) := by simp only [gOpen, gO2, if_neg c_1, if_pos c_2, if_neg c_3, if_neg c_4]
          rw [e9]
          exact W.iret (v := 41) hx hb hr (fun t ht hW => ⟨⟨41, (), rfl, rfl, by rw [ht]; exact hP, va_K.moved hW.alike hK, hD⟩, hS.F ht⟩) hS.2.2 dX2_open_54
      · -- not taken at 18: p0 = 4
        refine lv_aload_n hx hb dX2_open_21 rfl (lv_at hl 0 rfl) ?_
        refine va_get (D := (dC, dI)) (ci := 3) (v := .int md) (C := RX2) (T := TX2) (N := 13) hx hb hts (by decide +kernel) hown hK hP 0 rfl rfl 7 (by decide) (hts (.fieldLink RX2 17 "RelativeFilesModel" "mode" "I") (by decide +kernel)) (fun _ h9 => h9) rfl dX2_open_22 ?_
        refine lv_iconst (v := (-1)) hx hb dX2_open_25 (by decide) ?_
        refine lv_icmp_ne (tgt := 32) hx hb dX2_open_26 (by decide) (fun c_20 => ?_) (fun c_20 => ?_)
        · -- taken at 26: ¬ md = (-1)
          refine lv_aload_n hx hb dX2_open_32 rfl (lv_at hl 0 rfl) ?_
          refine lv_iconst (v := (-1)) hx hb dX2_open_33 (by decide) ?_
          refine va_put (D := (dC, dI)) (ci := 3) (v := .int (-1)) (ty := .int) (C := RX2) (T := TX2) (N := 13) hx hb hts (by decide +kernel) tyX2 tyX2_ok nmX2 hown hK hP hD hS 0 rfl rfl 7 (by decide) (hts (.fieldLink RX2 17 "RelativeFilesModel" "mode" "I") (by decide +kernel)) (fun _ h9 => h9) rfl (by decide +kernel) rfl rfl (Nat.le_of_ble_eq_true rfl) dX2_open_34 (fun H locs hP hD hS => ?_)
          have hP : va_P (dC, dI) vwCl [(oM, .inr (3, [.int 0, .int mo, .ref oN, .ref oU, .int (nI z), .int th, .int en, .int (-1), .int po, .int pl, .int la, .int (nI d), .long va])), (oN, .inl (cN, 1100, .inl N)), (oU, .inl (cU, 1100, .inr (.inl U)))] H := hP
          have hD : va_D A [(oM, .inr (3, [.int 0, .int mo, .ref oN, .ref oU, .int (nI z), .int th, .int en, .int (-1), .int po, .int pl, .int la, .int (nI d), .long va])), (oN, .inl (cN, 1100, .inl N)), (oU, .inl (cU, 1100, .inr (.inl U)))] := hD
          refine lv_aload_n hx hb dX2_open_37 rfl (lv_at hl 0 rfl) ?_
          refine lv_iconst (v := 0) hx hb dX2_open_38 (by decide) ?_
          refine va_put (D := (dC, dI)) (ci := 3) (v := .int 0) (ty := .int) (C := RX2) (T := TX2) (N := 13) hx hb hts (by decide +kernel) tyX2 tyX2_ok nmX2 hown hK hP hD hS 0 rfl rfl 10 (by decide) (hts (.fieldLink RX2 36 "RelativeFilesModel" "last" "I") (by decide +kernel)) (fun _ h9 => h9) rfl (by decide +kernel) rfl rfl (Nat.le_of_ble_eq_true rfl) dX2_open_39 (fun H locs hP hD hS => ?_)
          have hP : va_P (dC, dI) vwCl [(oM, .inr (3, [.int 0, .int mo, .ref oN, .ref oU, .int (nI z), .int th, .int en, .int (-1), .int po, .int pl, .int 0, .int (nI d), .long va])), (oN, .inl (cN, 1100, .inl N)), (oU, .inl (cU, 1100, .inr (.inl U)))] H := hP
          have hD : va_D A [(oM, .inr (3, [.int 0, .int mo, .ref oN, .ref oU, .int (nI z), .int th, .int en, .int (-1), .int po, .int pl, .int 0, .int (nI d), .long va])), (oN, .inl (cN, 1100, .inl N)), (oU, .inl (cU, 1100, .inr (.inl U)))] := hD
          refine lv_iconst (v := 0) hx hb dX2_open_42 (by decide) ?_
          subst hQ9
          have e9 : gOpen p0 (co, z, th, en, md, po, pl, la, d, va, N, U) = (0, (0, z, th, en, (-1), po, pl, 0, d, va, N, U)) := by simp only [gOpen, gO2, if_neg c_1, if_pos c_2, if_pos c_3, if_neg c_20]
          rw [e9]
          exact W.iret (v := 0) hx hb hr (fun t ht hW => ⟨⟨0, (), rfl, rfl, by rw [ht]; exact hP, va_K.moved hW.alike hK, hD⟩, hS.F ht⟩) hS.2.2 dX2_open_43
        · -- not taken at 26: md = (-1)
          refine lv_bipush (v := 42) hx hb dX2_open_29 (by decide) ?_
          subst hQ9
          have e9 : gOpen p0 (co, z, th, en, md, po, pl, la, d, va, N, U) = (42, (0, z, th, en, md, po, pl, la, d, va, N, U)) := by simp only [gOpen, gO2, if_neg c_1, if_pos c_2, if_pos c_3, if_pos c_20]
          rw [e9]
          exact W.iret (v := 42) hx hb hr (fun t ht hW => ⟨⟨42, (), rfl, rfl, by rw [ht]; exact hP, va_K.moved hW.alike hK, hD⟩, hS.F ht⟩) hS.2.2 dX2_open_31
    · -- not taken at 11: ¬ p0 ≤ 4
      refine lv_iconst (v := (-1)) hx hb dX2_open_14 (by decide) ?_
      subst hQ9
      have e9 : gOpen p0 (co, z, th, en, md, po, pl, la, d, va, N, U) = ((-1), (0, z, th, en, md, po, pl, la, d, va, N, U)) := by simp only [gOpen, gO2, if_neg c_1, if_neg c_2]
      rw [e9]
      exact W.iret (v := (-1)) hx hb hr (fun t ht hW => ⟨⟨(-1), (), rfl, rfl, by rw [ht]; exact hP, va_K.moved hW.alike hK, hD⟩, hS.F ht⟩) hS.2.2 dX2_open_15

set_option maxHeartbeats 1000000 in
set_option maxRecDepth 100000 in
theorem kX2_write (l : Launch) (dC : Nat → ClassId) (dI : Nat → Nat → Nat) (oM oN oU : Nat) (cN cU : ClassId) (z d : Nat) (co mo th en md po pl la : Int32) (va : Int64) (N : Nat → Int32) (U : Nat → Int64) (p0 : Int32) (p1 : Int64) (sz : Nat) (hz : z ≤ 1100) (hd : d ≤ 9) (hz2 : z < 1100) : Met l yX2_write wsX2_write ({ frames := 1, cells := 0, slots := 0, locals := 24 }) (va_Pc [.ref oM, .int p0, .long p1] (fun U9 => U9.heap.size = sz ∧ va_P (dC, dI) vwCl [(oM, .inr (3, [.int co, .int mo, .ref oN, .ref oU, .int (nI z), .int th, .int en, .int md, .int po, .int pl, .int la, .int (nI d), .long va])), (oN, .inl (cN, 1100, .inl N)), (oU, .inl (cU, 1100, .inr (.inl U)))] U9.heap ∧ va_K (dC, dI) vwCl [(cN, .int), (cU, .long)] U9 ∧ va_D (fun _ => True) [(oM, .inr (3, [.int co, .int mo, .ref oN, .ref oU, .int (nI z), .int th, .int en, .int md, .int po, .int pl, .int la, .int (nI d), .long va])), (oN, .inl (cN, 1100, .inl N)), (oU, .inl (cU, 1100, .inr (.inl U)))])) (va_Qi (fun (r : Int32) (_ : Unit) => r = (gWrite mo p0 p1 (co, z, th, en, md, po, pl, la, d, va, N, U)).1) (fun (_ : Unit) (t : State) => va_P (dC, dI) vwCl (wM oM oN oU cN cU mo (gWrite mo p0 p1 (co, z, th, en, md, po, pl, la, d, va, N, U)).2) t.heap ∧ va_K (dC, dI) vwCl [(cN, .int), (cU, .long)] t ∧ va_D (va_A [(oM, .inr (3, [.int co, .int mo, .ref oN, .ref oU, .int (nI z), .int th, .int en, .int md, .int po, .int pl, .int la, .int (nI d), .long va])), (oN, .inl (cN, 1100, .inl N)), (oU, .inl (cU, 1100, .inr (.inl U)))] sz) (wM oM oN oU cN cU mo (gWrite mo p0 p1 (co, z, th, en, md, po, pl, la, d, va, N, U)).2)) (va_A [(oM, .inr (3, [.int co, .int mo, .ref oN, .ref oU, .int (nI z), .int th, .int en, .int md, .int po, .int pl, .int la, .int (nI d), .long va])), (oN, .inl (cN, 1100, .inl N)), (oU, .inl (cU, 1100, .inr (.inl U)))] sz)) 0 0 (va_A [(oM, .inr (3, [.int co, .int mo, .ref oN, .ref oU, .int (nI z), .int th, .int en, .int md, .int po, .int pl, .int la, .int (nI d), .long va])), (oN, .inl (cN, 1100, .inl N)), (oU, .inl (cU, 1100, .inr (.inl U)))] sz) := by
  refine Met.ofW (cc := cX2_write) (maxL := 5) (ret := (some .int)) (by decide) rfl ?_
  intro p e s m args below meth c s₁ B hml hv
  obtain ⟨rfl, hsz, hP, hK, hD0⟩ := hv
  have hx := B.exec
  have hb := B.bytes
  have hr := B.returns
  have hts := atoms_spec (ws := wsX2_write) B.pre
  have hown : s.vm.findClass RX2 = some m.cls := findClass_of_methodNamed B.named
  have hlocks := B.notSynchronized
  subst hsz
  have hD := hD0.self (sz := s.heap.size)
  generalize hAe : va_A [(oM, .inr (3, [.int co, .int mo, .ref oN, .ref oU, .int (nI z), .int th, .int en, .int md, .int po, .int pl, .int la, .int (nI d), .long va])), (oN, .inl (cN, 1100, .inl N)), (oU, .inl (cU, 1100, .inr (.inl U)))] s.heap.size = A at hD ⊢
  have hA : ∀ q : Nat, s.heap.size ≤ q → A q := fun q h => by rw [← hAe]; exact Or.inr h
  have hS : va_S A s.heap s.heap [] := va_S.rf
  have hP : va_P (dC, dI) vwCl [(oM, .inr (3, [.int co, .int mo, .ref oN, .ref oU, .int (nI z), .int th, .int en, .int md, .int po, .int pl, .int la, .int (nI d), .long va])), (oN, .inl (cN, 1100, .inl N)), (oU, .inl (cU, 1100, .inr (.inl U)))] s.heap := hP
  have hl := lv_entry ([.ref oM, .int p0, .long p1]) (n := 5) (Nat.le_of_ble_eq_true rfl)
  rw [lg_entry_eq]
  generalize (lg_sl ([.ref oM, .int p0, .long p1]) ++ List.replicate (5 - (lg_sl ([.ref oM, .int p0, .long p1])).length) Slot.unset).toArray = ls at hl ⊢
  have hl : lv_has ls 5 [(0, .ref oM), (1, .int p0), (2, .long p1)] := hl
  refine W_name (fun Q hQ9 => ?_)
  refine lv_aload_n hx hb dX2_write_0 rfl (lv_at hl 0 rfl) ?_
  refine lv_iconst (v := 0) hx hb dX2_write_1 (by decide) ?_
  refine va_put (D := (dC, dI)) (ci := 3) (v := .int 0) (ty := .int) (C := RX2) (T := TX2) (N := 13) hx hb hts (by decide +kernel) tyX2 tyX2_ok nmX2 hown hK hP hD hS 0 rfl rfl 0 (by decide) (hts (.fieldLink RX2 28 "RelativeFilesModel" "code" "I") (by decide +kernel)) (fun _ h9 => h9) rfl (by decide +kernel) rfl rfl (Nat.le_of_ble_eq_true rfl) dX2_write_2 (fun H locs hP hD hS => ?_)
  have hP : va_P (dC, dI) vwCl [(oM, .inr (3, [.int 0, .int mo, .ref oN, .ref oU, .int (nI z), .int th, .int en, .int md, .int po, .int pl, .int la, .int (nI d), .long va])), (oN, .inl (cN, 1100, .inl N)), (oU, .inl (cU, 1100, .inr (.inl U)))] H := hP
  have hD : va_D A [(oM, .inr (3, [.int 0, .int mo, .ref oN, .ref oU, .int (nI z), .int th, .int en, .int md, .int po, .int pl, .int la, .int (nI d), .long va])), (oN, .inl (cN, 1100, .inl N)), (oU, .inl (cU, 1100, .inr (.inl U)))] := hD
  refine lv_aload_n hx hb dX2_write_5 rfl (lv_at hl 0 rfl) ?_
  refine va_get (D := (dC, dI)) (ci := 3) (v := .int md) (C := RX2) (T := TX2) (N := 13) hx hb hts (by decide +kernel) hown hK hP 0 rfl rfl 7 (by decide) (hts (.fieldLink RX2 17 "RelativeFilesModel" "mode" "I") (by decide +kernel)) (fun _ h9 => h9) rfl dX2_write_6 ?_
  refine lv_iconst (v := (-1)) hx hb dX2_write_9 (by decide) ?_
  refine lv_icmp_ne (tgt := 16) hx hb dX2_write_10 (by decide) (fun c_1 => ?_) (fun c_1 => ?_)
  · -- taken at 10: ¬ md = (-1)
    refine lv_aload_n hx hb dX2_write_16 rfl (lv_at hl 0 rfl) ?_
    refine va_get (D := (dC, dI)) (ci := 3) (v := .int md) (C := RX2) (T := TX2) (N := 13) hx hb hts (by decide +kernel) hown hK hP 0 rfl rfl 7 (by decide) (hts (.fieldLink RX2 17 "RelativeFilesModel" "mode" "I") (by decide +kernel)) (fun _ h9 => h9) rfl dX2_write_17 ?_
    refine lv_if_ne (tgt := 26) hx hb dX2_write_20 (by decide) (fun c_2 => ?_) (fun c_2 => ?_)
    · -- taken at 20: ¬ md = 0
      refine lv_aload_n hx hb dX2_write_26 rfl (lv_at hl 0 rfl) ?_
      refine lv_iconst (v := 0) hx hb dX2_write_27 (by decide) ?_
      refine va_put (D := (dC, dI)) (ci := 3) (v := .int 0) (ty := .int) (C := RX2) (T := TX2) (N := 13) hx hb hts (by decide +kernel) tyX2 tyX2_ok nmX2 hown hK hP hD hS 0 rfl rfl 10 (by decide) (hts (.fieldLink RX2 36 "RelativeFilesModel" "last" "I") (by decide +kernel)) (fun _ h9 => h9) rfl (by decide +kernel) rfl rfl (Nat.le_of_ble_eq_true rfl) dX2_write_28 (fun H locs hP hD hS => ?_)
      have hP : va_P (dC, dI) vwCl [(oM, .inr (3, [.int 0, .int mo, .ref oN, .ref oU, .int (nI z), .int th, .int en, .int md, .int po, .int pl, .int 0, .int (nI d), .long va])), (oN, .inl (cN, 1100, .inl N)), (oU, .inl (cU, 1100, .inr (.inl U)))] H := hP
      have hD : va_D A [(oM, .inr (3, [.int 0, .int mo, .ref oN, .ref oU, .int (nI z), .int th, .int en, .int md, .int po, .int pl, .int 0, .int (nI d), .long va])), (oN, .inl (cN, 1100, .inl N)), (oU, .inl (cU, 1100, .inr (.inl U)))] := hD
      refine lv_iload_n hx hb dX2_write_31 rfl (lv_at hl 1 rfl) ?_
      refine lv_iconst (v := (-1)) hx hb dX2_write_32 (by decide) ?_
      refine lv_icmp_ne (tgt := 47) hx hb dX2_write_33 (by decide) (fun c_3 => ?_) (fun c_3 => ?_)
      · -- taken at 33: ¬ p0 = (-1)
        refine lv_iload_n hx hb dX2_write_47 rfl (lv_at hl 1 rfl) ?_
        refine lv_iconst (v := (-1)) hx hb dX2_write_48 (by decide) ?_
        refine lv_icmp_ne (tgt := 66) hx hb dX2_write_49 (by decide) (fun c_4 => ?_) (fun c_4 => ?_)
        · -- taken at 49: ¬ p0 = (-1)
          refine lv_iload_n hx hb dX2_write_66 rfl (lv_at hl 1 rfl) ?_
          refine lv_istore (lv' := [(4, .int p0), (0, .ref oM), (1, .int p0), (2, .long p1)]) hx hb dX2_write_67 hl (by decide) rfl (fun ls hl => ?_)
          refine lv_aload_n hx hb dX2_write_69 rfl (lv_at hl 1 rfl) ?_
          refine lv_iload hx hb dX2_write_70 (lv_at hl 0 rfl) ?_
          have hPc := hP.sub (ws' := [(oM, .inr (3, [.int 0, .int mo, .ref oN, .ref oU, .int (nI z), .int th, .int en, .int md, .int po, .int pl, .int 0, .int (nI d), .long va])), (oN, .inl (cN, 1100, .inl N)), (oU, .inl (cU, 1100, .inr (.inl U)))]) [0, 1, 2] rfl
          have hDc := hD.sub (ws' := [(oM, .inr (3, [.int 0, .int mo, .ref oN, .ref oU, .int (nI z), .int th, .int en, .int md, .int po, .int pl, .int 0, .int (nI d), .long va])), (oN, .inl (cN, 1100, .inl N)), (oU, .inl (cU, 1100, .inr (.inl U)))]) [0, 1, 2] (by decide) rfl
          have hKc := hK.sub (tys' := [(cN, .int), (cU, .long)]) [0, 1] rfl
          have hFc := va_free (wc := [(oM, .inr (3, [.int 0, .int mo, .ref oN, .ref oU, .int (nI z), .int th, .int en, .int md, .int po, .int pl, .int 0, .int (nI d), .long va])), (oN, .inl (cN, 1100, .inl N)), (oU, .inl (cU, 1100, .inr (.inl U)))]) hD hS hA [0, 1, 2] rfl
          refine va_calli (va_runV (As := [.int p0]) (rest := []) ⟨hx, hb, hml, hown, hts⟩ (kX2_isPlace l dC dI oM oN oU cN cU z d 0 mo th en md po pl 0 va N U p0 H.size hz) (cwV 1 hts gX2_write_X2_isPlace rfl rfl rfl (by decide +kernel) ⟨Nat.le_of_ble_eq_true rfl, Nat.le_of_ble_eq_true rfl⟩) ⟨fun a U g mk q => by obtain ⟨q0, q1, qP, qK, qD⟩ := q; exact ⟨q0, q1, qP, va_K.moved (u := U) (U := U.calling g mk a) (Vm.Alike.refl U.vm) qK, qD⟩, va_recv hKc hPc (ci := 3) (q0 := 0) rfl rfl, fun U hU hW => ⟨rfl, by rw [hU], by rw [hU]; exact hPc, va_K.moved hW.alike hKc, hDc.weaken (fun _ _ _ _ => trivial)⟩⟩ rfl rfl hl.1 rfl (lv_room (Nat.le_of_ble_eq_true rfl)) dX2_write_72 ⟨Nat.le_of_ble_eq_true rfl, Nat.le_of_ble_eq_true rfl⟩) hS (fun q _ h => hFc q h) hFc (fun r_5 u t H1 locs ht hvm hw hB hz1 hk1 hS => ?_)
          obtain ⟨hP1, hK1, hD1⟩ := hB
          rw [ht] at hP1
          have hK1 := va_K.moved hvm.symm hK1
          try dsimp only at hw
          obtain ⟨hP, hD⟩ := va_join (wr := []) (w1 := [(oM, .inr (3, [.int 0, .int mo, .ref oN, .ref oU, .int (nI z), .int th, .int en, .int md, .int po, .int pl, .int 0, .int (nI d), .long va])), (oN, .inl (cN, 1100, .inl N)), (oU, .inl (cU, 1100, .inr (.inl U)))]) hP hD [0, 1, 2] [] rfl rfl (by decide) (by decide) hk1 hFc hP1 hD1
          generalize H1 = H at hP hS ⊢
          have hP : va_P (dC, dI) vwCl [(oM, .inr (3, [.int 0, .int mo, .ref oN, .ref oU, .int (nI z), .int th, .int en, .int md, .int po, .int pl, .int 0, .int (nI d), .long va])), (oN, .inl (cN, 1100, .inl N)), (oU, .inl (cU, 1100, .inr (.inl U)))] H := hP.sub [0, 1, 2] rfl
          have hD : va_D A [(oM, .inr (3, [.int 0, .int mo, .ref oN, .ref oU, .int (nI z), .int th, .int en, .int md, .int po, .int pl, .int 0, .int (nI d), .long va])), (oN, .inl (cN, 1100, .inl N)), (oU, .inl (cU, 1100, .inr (.inl U)))] := hD.sub [0, 1, 2] (by decide) rfl
          have hK : va_K (dC, dI) vwCl [(cN, .int), (cU, .long)] s := hK
          rcases hw with ⟨b_6, hw⟩ | ⟨b_6, hw⟩
          · -- gPl mo p0
            subst hw
            refine lv_if_eq (tgt := 87) hx hb dX2_write_75 (by decide) (fun c_7 => ?_) (fun c_7 => ?_)
            · -- taken at 75: 1 = 0
              exact absurd c_7 (by decide)
            · -- not taken at 75: ¬ 1 = 0
              refine lv_aload_n hx hb dX2_write_78 rfl (lv_at hl 1 rfl) ?_
              refine lv_iload hx hb dX2_write_79 (lv_at hl 0 rfl) ?_
              have hPc := hP.sub (ws' := [(oM, .inr (3, [.int 0, .int mo, .ref oN, .ref oU, .int (nI z), .int th, .int en, .int md, .int po, .int pl, .int 0, .int (nI d), .long va])), (oN, .inl (cN, 1100, .inl N)), (oU, .inl (cU, 1100, .inr (.inl U)))]) [0, 1, 2] rfl
              have hDc := hD.sub (ws' := [(oM, .inr (3, [.int 0, .int mo, .ref oN, .ref oU, .int (nI z), .int th, .int en, .int md, .int po, .int pl, .int 0, .int (nI d), .long va])), (oN, .inl (cN, 1100, .inl N)), (oU, .inl (cU, 1100, .inr (.inl U)))]) [0, 1, 2] (by decide) rfl
              have hKc := hK.sub (tys' := [(cN, .int), (cU, .long)]) [0, 1] rfl
              have hFc := va_free (wc := [(oM, .inr (3, [.int 0, .int mo, .ref oN, .ref oU, .int (nI z), .int th, .int en, .int md, .int po, .int pl, .int 0, .int (nI d), .long va])), (oN, .inl (cN, 1100, .inl N)), (oU, .inl (cU, 1100, .inr (.inl U)))]) hD hS hA [0, 1, 2] rfl
              refine va_calli (va_runV (As := [.int p0]) (rest := []) ⟨hx, hb, hml, hown, hts⟩ (kX2_isLong l dC dI oM oN oU cN cU z d 0 mo th en md po pl 0 va N U p0 H.size hz hd) (cwV 1 hts gX2_write_X2_isLong rfl rfl rfl (by decide +kernel) ⟨Nat.le_of_ble_eq_true rfl, Nat.le_of_ble_eq_true rfl⟩) ⟨fun a U g mk q => by obtain ⟨q0, q1, qP, qK, qD⟩ := q; exact ⟨q0, q1, qP, va_K.moved (u := U) (U := U.calling g mk a) (Vm.Alike.refl U.vm) qK, qD⟩, va_recv hKc hPc (ci := 3) (q0 := 0) rfl rfl, fun U hU hW => ⟨rfl, by rw [hU], by rw [hU]; exact hPc, va_K.moved hW.alike hKc, hDc.weaken (fun _ _ _ _ => trivial)⟩⟩ rfl rfl hl.1 rfl (lv_room (Nat.le_of_ble_eq_true rfl)) dX2_write_81 ⟨Nat.le_of_ble_eq_true rfl, Nat.le_of_ble_eq_true rfl⟩) hS (fun q _ h => hFc q h) hFc (fun r_8 u t H1 locs ht hvm hw hB hz1 hk1 hS => ?_)
              obtain ⟨hP1, hK1, hD1⟩ := hB
              rw [ht] at hP1
              have hK1 := va_K.moved hvm.symm hK1
              try dsimp only at hw
              obtain ⟨hP, hD⟩ := va_join (wr := []) (w1 := [(oM, .inr (3, [.int 0, .int mo, .ref oN, .ref oU, .int (nI z), .int th, .int en, .int md, .int po, .int pl, .int 0, .int (nI d), .long va])), (oN, .inl (cN, 1100, .inl N)), (oU, .inl (cU, 1100, .inr (.inl U)))]) hP hD [0, 1, 2] [] rfl rfl (by decide) (by decide) hk1 hFc hP1 hD1
              generalize H1 = H at hP hS ⊢
              have hP : va_P (dC, dI) vwCl [(oM, .inr (3, [.int 0, .int mo, .ref oN, .ref oU, .int (nI z), .int th, .int en, .int md, .int po, .int pl, .int 0, .int (nI d), .long va])), (oN, .inl (cN, 1100, .inl N)), (oU, .inl (cU, 1100, .inr (.inl U)))] H := hP.sub [0, 1, 2] rfl
              have hD : va_D A [(oM, .inr (3, [.int 0, .int mo, .ref oN, .ref oU, .int (nI z), .int th, .int en, .int md, .int po, .int pl, .int 0, .int (nI d), .long va])), (oN, .inl (cN, 1100, .inl N)), (oU, .inl (cU, 1100, .inr (.inl U)))] := hD.sub [0, 1, 2] (by decide) rfl
              have hK : va_K (dC, dI) vwCl [(cN, .int), (cU, .long)] s := hK
              rcases hw with ⟨b_9, hw⟩ | ⟨b_9, hw⟩
              · -- gLong p0 d
                subst hw
                refine lv_if_eq (tgt := 90) hx hb dX2_write_84 (by decide) (fun c_10 => ?_) (fun c_10 => ?_)
                · -- taken at 84: 1 = 0
                  exact absurd c_10 (by decide)
                · -- not taken at 84: ¬ 1 = 0
                  refine lv_bipush (v := 24) hx hb dX2_write_87 (by decide) ?_
                  subst hQ9
                  have e9 : gWrite mo p0 p1 (co, z, th, en, md, po, pl, la, d, va, N, U) = (24, (0, z, th, en, md, po, pl, 0, d, va, N, U)) := by simp only [gWrite, gW2, if_neg c_1, if_neg c_2, if_neg c_3, if_pos b_6, if_pos b_9]
                  rw [e9]
                  exact W.iret (v := 24) hx hb hr (fun t ht hW => ⟨⟨24, (), rfl, rfl, by rw [ht]; exact hP, va_K.moved hW.alike hK, hD⟩, hS.F ht⟩) hS.2.2 dX2_write_89
              · -- ¬ (gLong p0 d)
                subst hw
                refine lv_if_eq (tgt := 90) hx hb dX2_write_84 (by decide) (fun c_11 => ?_) (fun c_11 => ?_)
                · -- taken at 84: 0 = 0
                  refine lv_aload_n hx hb dX2_write_90 rfl (lv_at hl 1 rfl) ?_
                  refine lv_iload hx hb dX2_write_91 (lv_at hl 0 rfl) ?_
                  have hPc := hP.sub (ws' := [(oM, .inr (3, [.int 0, .int mo, .ref oN, .ref oU, .int (nI z), .int th, .int en, .int md, .int po, .int pl, .int 0, .int (nI d), .long va])), (oN, .inl (cN, 1100, .inl N)), (oU, .inl (cU, 1100, .inr (.inl U)))]) [0, 1, 2] rfl
                  have hDc := hD.sub (ws' := [(oM, .inr (3, [.int 0, .int mo, .ref oN, .ref oU, .int (nI z), .int th, .int en, .int md, .int po, .int pl, .int 0, .int (nI d), .long va])), (oN, .inl (cN, 1100, .inl N)), (oU, .inl (cU, 1100, .inr (.inl U)))]) [0, 1, 2] (by decide) rfl
                  have hKc := hK.sub (tys' := [(cN, .int), (cU, .long)]) [0, 1] rfl
                  have hFc := va_free (wc := [(oM, .inr (3, [.int 0, .int mo, .ref oN, .ref oU, .int (nI z), .int th, .int en, .int md, .int po, .int pl, .int 0, .int (nI d), .long va])), (oN, .inl (cN, 1100, .inl N)), (oU, .inl (cU, 1100, .inr (.inl U)))]) hD hS hA [0, 1, 2] rfl
                  refine va_calli (va_runV (As := [.int p0]) (rest := []) ⟨hx, hb, hml, hown, hts⟩ (kX2_find l dC dI oM oN oU cN cU z d 0 mo th en md po pl 0 va N U p0 H.size hz) (cwV 1 hts gX2_write_X2_find rfl rfl rfl (by decide +kernel) ⟨Nat.le_of_ble_eq_true rfl, Nat.le_of_ble_eq_true rfl⟩) ⟨fun a U g mk q => by obtain ⟨q0, q1, qP, qK, qD⟩ := q; exact ⟨q0, q1, qP, va_K.moved (u := U) (U := U.calling g mk a) (Vm.Alike.refl U.vm) qK, qD⟩, va_recv hKc hPc (ci := 3) (q0 := 0) rfl rfl, fun U hU hW => ⟨rfl, by rw [hU], by rw [hU]; exact hPc, va_K.moved hW.alike hKc, hDc.weaken (fun _ _ _ _ => trivial)⟩⟩ rfl rfl hl.1 rfl (lv_room (Nat.le_of_ble_eq_true rfl)) dX2_write_93 ⟨Nat.le_of_ble_eq_true rfl, Nat.le_of_ble_eq_true rfl⟩) hS (fun q _ h => hFc q h) hFc (fun r_12 u t H1 locs ht hvm hw hB hz1 hk1 hS => ?_)
                  obtain ⟨hP1, hK1, hD1⟩ := hB
                  rw [ht] at hP1
                  have hK1 := va_K.moved hvm.symm hK1
                  try dsimp only at hw
                  obtain ⟨hP, hD⟩ := va_join (wr := []) (w1 := [(oM, .inr (3, [.int 0, .int mo, .ref oN, .ref oU, .int (nI z), .int th, .int en, .int md, .int po, .int pl, .int 0, .int (nI d), .long va])), (oN, .inl (cN, 1100, .inl N)), (oU, .inl (cU, 1100, .inr (.inl U)))]) hP hD [0, 1, 2] [] rfl rfl (by decide) (by decide) hk1 hFc hP1 hD1
                  generalize H1 = H at hP hS ⊢
                  have hP : va_P (dC, dI) vwCl [(oM, .inr (3, [.int 0, .int mo, .ref oN, .ref oU, .int (nI z), .int th, .int en, .int md, .int po, .int pl, .int 0, .int (nI d), .long va])), (oN, .inl (cN, 1100, .inl N)), (oU, .inl (cU, 1100, .inr (.inl U)))] H := hP.sub [0, 1, 2] rfl
                  have hD : va_D A [(oM, .inr (3, [.int 0, .int mo, .ref oN, .ref oU, .int (nI z), .int th, .int en, .int md, .int po, .int pl, .int 0, .int (nI d), .long va])), (oN, .inl (cN, 1100, .inl N)), (oU, .inl (cU, 1100, .inr (.inl U)))] := hD.sub [0, 1, 2] (by decide) rfl
                  have hK : va_K (dC, dI) vwCl [(cN, .int), (cU, .long)] s := hK
                  subst hw
                  refine lv_iconst (v := (-1)) hx hb dX2_write_96 (by decide) ?_
                  refine lv_icmp_eq (tgt := 103) hx hb dX2_write_97 (by decide) (fun c_13 => ?_) (fun c_13 => ?_)
                  · -- taken at 97: (rFind N p0 z) = (-1)
                    refine lv_aload_n hx hb dX2_write_103 rfl (lv_at hl 1 rfl) ?_
                    refine lv_iload hx hb dX2_write_104 (lv_at hl 0 rfl) ?_
                    refine lv_lload_n hx hb dX2_write_106 rfl (lv_at hl 3 rfl) ?_
                    have hPc := hP.sub (ws' := [(oM, .inr (3, [.int 0, .int mo, .ref oN, .ref oU, .int (nI z), .int th, .int en, .int md, .int po, .int pl, .int 0, .int (nI d), .long va])), (oN, .inl (cN, 1100, .inl N)), (oU, .inl (cU, 1100, .inr (.inl U)))]) [0, 1, 2] rfl
                    have hDc := hD.sub (ws' := [(oM, .inr (3, [.int 0, .int mo, .ref oN, .ref oU, .int (nI z), .int th, .int en, .int md, .int po, .int pl, .int 0, .int (nI d), .long va])), (oN, .inl (cN, 1100, .inl N)), (oU, .inl (cU, 1100, .inr (.inl U)))]) [0, 1, 2] (by decide) rfl
                    have hKc := hK.sub (tys' := [(cN, .int), (cU, .long)]) [0, 1] rfl
                    have hFc := va_free (wc := [(oM, .inr (3, [.int 0, .int mo, .ref oN, .ref oU, .int (nI z), .int th, .int en, .int md, .int po, .int pl, .int 0, .int (nI d), .long va])), (oN, .inl (cN, 1100, .inl N)), (oU, .inl (cU, 1100, .inr (.inl U)))]) hD hS hA [0, 1, 2] rfl
                    refine va_callv (va_runV (As := [.int p0, .long p1]) (rest := []) ⟨hx, hb, hml, hown, hts⟩ (kX2_add l dC dI oM oN oU cN cU z d 0 mo th en md po pl 0 va N U p0 p1 H.size hz hz2) (cwV 2 hts gX2_write_X2_add rfl rfl rfl (by decide +kernel) ⟨Nat.le_of_ble_eq_true rfl, Nat.le_of_ble_eq_true rfl⟩) ⟨fun a U g mk q => by obtain ⟨q0, q1, qP, qK, qD⟩ := q; exact ⟨q0, q1, qP, va_K.moved (u := U) (U := U.calling g mk a) (Vm.Alike.refl U.vm) qK, qD⟩, va_recv hKc hPc (ci := 3) (q0 := 0) rfl rfl, fun U hU hW => ⟨rfl, by rw [hU], by rw [hU]; exact hPc, va_K.moved hW.alike hKc, hDc.weaken (fun _ _ _ _ => trivial)⟩⟩ rfl rfl hl.1 rfl (lv_room (Nat.le_of_ble_eq_true rfl)) dX2_write_107 ⟨Nat.le_of_ble_eq_true rfl, Nat.le_of_ble_eq_true rfl⟩) hS (fun q _ h => hFc q h) hFc (fun u t H1 locs ht hvm hw hB hz1 hk1 hS => ?_)
                    obtain ⟨hP1, hK1, hD1⟩ := hB
                    rw [ht] at hP1
                    have hK1 := va_K.moved hvm.symm hK1
                    try dsimp only at hw
                    obtain ⟨hP, hD⟩ := va_join (wr := []) (w1 := [(oM, .inr (3, [.int 0, .int mo, .ref oN, .ref oU, .int (nI (z + 1)), .int th, .int en, .int md, .int po, .int pl, .int 0, .int (nI d), .long p1])), (oN, .inl (cN, 1100, .inl (upd N z p0))), (oU, .inl (cU, 1100, .inr (.inl (vp_updL U z p1))))]) hP hD [0, 1, 2] [] rfl rfl (by decide) (by decide) hk1 hFc hP1 hD1
                    generalize H1 = H at hP hS ⊢
                    have hP : va_P (dC, dI) vwCl [(oM, .inr (3, [.int 0, .int mo, .ref oN, .ref oU, .int (nI (z + 1)), .int th, .int en, .int md, .int po, .int pl, .int 0, .int (nI d), .long p1])), (oN, .inl (cN, 1100, .inl (upd N z p0))), (oU, .inl (cU, 1100, .inr (.inl (vp_updL U z p1))))] H := hP.sub [0, 1, 2] rfl
                    have hD : va_D A [(oM, .inr (3, [.int 0, .int mo, .ref oN, .ref oU, .int (nI (z + 1)), .int th, .int en, .int md, .int po, .int pl, .int 0, .int (nI d), .long p1])), (oN, .inl (cN, 1100, .inl (upd N z p0))), (oU, .inl (cU, 1100, .inr (.inl (vp_updL U z p1))))] := hD.sub [0, 1, 2] (by decide) rfl
                    have hK : va_K (dC, dI) vwCl [(cN, .int), (cU, .long)] s := hK
                    refine lv_iconst (v := 0) hx hb dX2_write_110 (by decide) ?_
                    subst hQ9
                    have e9 : gWrite mo p0 p1 (co, z, th, en, md, po, pl, la, d, va, N, U) = (0, (0, (z + 1), th, en, md, po, pl, 0, d, p1, upd N z p0, vp_updL U z p1)) := by simp only [gWrite, gW2, if_neg c_1, if_neg c_2, if_neg c_3, if_pos b_6, if_neg b_9, if_pos c_13]
                    rw [e9]
                    exact W.iret (v := 0) hx hb hr (fun t ht hW => ⟨⟨0, (), rfl, rfl, by rw [ht]; exact hP, va_K.moved hW.alike hK, hD⟩, hS.F ht⟩) hS.2.2 dX2_write_111
                  · -- not taken at 97: ¬ (rFind N p0 z) = (-1)
                    refine lv_bipush (v := 22) hx hb dX2_write_100 (by decide) ?_
                    subst hQ9
                    have e9 : gWrite mo p0 p1 (co, z, th, en, md, po, pl, la, d, va, N, U) = (22, (0, z, th, en, md, po, pl, 0, d, va, N, U)) := by simp only [gWrite, gW2, if_neg c_1, if_neg c_2, if_neg c_3, if_pos b_6, if_neg b_9, if_neg c_13]
                    rw [e9]
                    exact W.iret (v := 22) hx hb hr (fun t ht hW => ⟨⟨22, (), rfl, rfl, by rw [ht]; exact hP, va_K.moved hW.alike hK, hD⟩, hS.F ht⟩) hS.2.2 dX2_write_102
                · -- not taken at 84: ¬ 0 = 0
                  exact absurd c_11 (by decide)
          · -- ¬ (gPl mo p0)
            subst hw
            refine lv_if_eq (tgt := 87) hx hb dX2_write_75 (by decide) (fun c_15 => ?_) (fun c_15 => ?_)
            · -- taken at 75: 0 = 0
              refine lv_bipush (v := 24) hx hb dX2_write_87 (by decide) ?_
              subst hQ9
              have e9 : gWrite mo p0 p1 (co, z, th, en, md, po, pl, la, d, va, N, U) = (24, (0, z, th, en, md, po, pl, 0, d, va, N, U)) := by simp only [gWrite, gW2, if_neg c_1, if_neg c_2, if_neg c_3, if_neg b_6]
              rw [e9]
              exact W.iret (v := 24) hx hb hr (fun t ht hW => ⟨⟨24, (), rfl, rfl, by rw [ht]; exact hP, va_K.moved hW.alike hK, hD⟩, hS.F ht⟩) hS.2.2 dX2_write_89
            · -- not taken at 75: ¬ 0 = 0
              exact absurd c_15 (by decide)
        · -- not taken at 49: p0 = (-1)
          exact absurd c_4 c_3
      · -- not taken at 33: p0 = (-1)
        refine lv_aload_n hx hb dX2_write_36 rfl (lv_at hl 0 rfl) ?_
        refine va_get (D := (dC, dI)) (ci := 3) (v := .int md) (C := RX2) (T := TX2) (N := 13) hx hb hts (by decide +kernel) hown hK hP 0 rfl rfl 7 (by decide) (hts (.fieldLink RX2 17 "RelativeFilesModel" "mode" "I") (by decide +kernel)) (fun _ h9 => h9) rfl dX2_write_37 ?_
        refine lv_iconst (v := 2) hx hb dX2_write_40 (by decide) ?_
        refine lv_icmp_ne (tgt := 47) hx hb dX2_write_41 (by decide) (fun c_16 => ?_) (fun c_16 => ?_)
        · -- taken at 41: ¬ md = 2
          refine lv_iload_n hx hb dX2_write_47 rfl (lv_at hl 1 rfl) ?_
          refine lv_iconst (v := (-1)) hx hb dX2_write_48 (by decide) ?_
          refine lv_icmp_ne (tgt := 66) hx hb dX2_write_49 (by decide) (fun c_17 => ?_) (fun c_17 => ?_)
          · -- taken at 49: ¬ p0 = (-1)
            exact absurd c_3 c_17
          · -- not taken at 49: p0 = (-1)
            refine lv_aload_n hx hb dX2_write_52 rfl (lv_at hl 0 rfl) ?_
            refine lv_aload_n hx hb dX2_write_53 rfl (lv_at hl 0 rfl) ?_
            refine va_get (D := (dC, dI)) (ci := 3) (v := .int mo) (C := RX2) (T := TX2) (N := 13) hx hb hts (by decide +kernel) hown hK hP 0 rfl rfl 1 (by decide) (hts (.fieldLink RX2 25 "RelativeFilesModel" "most" "I") (by decide +kernel)) (fun _ h9 => h9) rfl dX2_write_54 ?_
            refine lv_i2l (v := mo.toInt64) hx hb dX2_write_57 rfl ?_
            have hPc := hP.sub (ws' := [(oM, .inr (3, [.int 0, .int mo, .ref oN, .ref oU, .int (nI z), .int th, .int en, .int md, .int po, .int pl, .int 0, .int (nI d), .long va])), (oN, .inl (cN, 1100, .inl N)), (oU, .inl (cU, 1100, .inr (.inl U)))]) [0, 1, 2] rfl
            have hDc := hD.sub (ws' := [(oM, .inr (3, [.int 0, .int mo, .ref oN, .ref oU, .int (nI z), .int th, .int en, .int md, .int po, .int pl, .int 0, .int (nI d), .long va])), (oN, .inl (cN, 1100, .inl N)), (oU, .inl (cU, 1100, .inr (.inl U)))]) [0, 1, 2] (by decide) rfl
            have hKc := hK.sub (tys' := [(cN, .int), (cU, .long)]) [0, 1] rfl
            have hFc := va_free (wc := [(oM, .inr (3, [.int 0, .int mo, .ref oN, .ref oU, .int (nI z), .int th, .int en, .int md, .int po, .int pl, .int 0, .int (nI d), .long va])), (oN, .inl (cN, 1100, .inl N)), (oU, .inl (cU, 1100, .inr (.inl U)))]) hD hS hA [0, 1, 2] rfl
            refine va_calli (va_runV (As := [.long mo.toInt64]) (rest := []) ⟨hx, hb, hml, hown, hts⟩ (kX2_upTo l dC dI oM oN oU cN cU z d 0 mo th en md po pl 0 va N U mo.toInt64 H.size hz) (cwV 1 hts gX2_write_X2_upTo rfl rfl rfl (by decide +kernel) ⟨Nat.le_of_ble_eq_true rfl, Nat.le_of_ble_eq_true rfl⟩) ⟨fun a U g mk q => by obtain ⟨q0, q1, qP, qK, qD⟩ := q; exact ⟨q0, q1, qP, va_K.moved (u := U) (U := U.calling g mk a) (Vm.Alike.refl U.vm) qK, qD⟩, va_recv hKc hPc (ci := 3) (q0 := 0) rfl rfl, fun U hU hW => ⟨rfl, by rw [hU], by rw [hU]; exact hPc, va_K.moved hW.alike hKc, hDc.weaken (fun _ _ _ _ => trivial)⟩⟩ rfl rfl hl.1 rfl (lv_room (Nat.le_of_ble_eq_true rfl)) dX2_write_58 ⟨Nat.le_of_ble_eq_true rfl, Nat.le_of_ble_eq_true rfl⟩) hS (fun q _ h => hFc q h) hFc (fun r_18 u t H1 locs ht hvm hw hB hz1 hk1 hS => ?_)
            obtain ⟨hP1, hK1, hD1⟩ := hB
            rw [ht] at hP1
            have hK1 := va_K.moved hvm.symm hK1
            try dsimp only at hw
            obtain ⟨hP, hD⟩ := va_join (wr := []) (w1 := [(oM, .inr (3, [.int 0, .int mo, .ref oN, .ref oU, .int (nI z), .int th, .int en, .int md, .int po, .int pl, .int 0, .int (nI d), .long va])), (oN, .inl (cN, 1100, .inl N)), (oU, .inl (cU, 1100, .inr (.inl U)))]) hP hD [0, 1, 2] [] rfl rfl (by decide) (by decide) hk1 hFc hP1 hD1
            generalize H1 = H at hP hS ⊢
            have hP : va_P (dC, dI) vwCl [(oM, .inr (3, [.int 0, .int mo, .ref oN, .ref oU, .int (nI z), .int th, .int en, .int md, .int po, .int pl, .int 0, .int (nI d), .long va])), (oN, .inl (cN, 1100, .inl N)), (oU, .inl (cU, 1100, .inr (.inl U)))] H := hP.sub [0, 1, 2] rfl
            have hD : va_D A [(oM, .inr (3, [.int 0, .int mo, .ref oN, .ref oU, .int (nI z), .int th, .int en, .int md, .int po, .int pl, .int 0, .int (nI d), .long va])), (oN, .inl (cN, 1100, .inl N)), (oU, .inl (cU, 1100, .inr (.inl U)))] := hD.sub [0, 1, 2] (by decide) rfl
            have hK : va_K (dC, dI) vwCl [(cN, .int), (cU, .long)] s := hK
            subst hw
            refine lv_iconst (v := 1) hx hb dX2_write_61 (by decide) ?_
            refine lv_iadd hx hb dX2_write_62 ?_
            refine lv_goto (tgt := 67) hx hb dX2_write_63 (by decide) ?_
            refine lv_istore (lv' := [(4, .int ((gUpTo N mo.toInt64 z) + 1)), (0, .ref oM), (1, .int p0), (2, .long p1)]) hx hb dX2_write_67 hl (by decide) rfl (fun ls hl => ?_)
            refine lv_aload_n hx hb dX2_write_69 rfl (lv_at hl 1 rfl) ?_
            refine lv_iload hx hb dX2_write_70 (lv_at hl 0 rfl) ?_
            have hPc := hP.sub (ws' := [(oM, .inr (3, [.int 0, .int mo, .ref oN, .ref oU, .int (nI z), .int th, .int en, .int md, .int po, .int pl, .int 0, .int (nI d), .long va])), (oN, .inl (cN, 1100, .inl N)), (oU, .inl (cU, 1100, .inr (.inl U)))]) [0, 1, 2] rfl
            have hDc := hD.sub (ws' := [(oM, .inr (3, [.int 0, .int mo, .ref oN, .ref oU, .int (nI z), .int th, .int en, .int md, .int po, .int pl, .int 0, .int (nI d), .long va])), (oN, .inl (cN, 1100, .inl N)), (oU, .inl (cU, 1100, .inr (.inl U)))]) [0, 1, 2] (by decide) rfl
            have hKc := hK.sub (tys' := [(cN, .int), (cU, .long)]) [0, 1] rfl
            have hFc := va_free (wc := [(oM, .inr (3, [.int 0, .int mo, .ref oN, .ref oU, .int (nI z), .int th, .int en, .int md, .int po, .int pl, .int 0, .int (nI d), .long va])), (oN, .inl (cN, 1100, .inl N)), (oU, .inl (cU, 1100, .inr (.inl U)))]) hD hS hA [0, 1, 2] rfl
            refine va_calli (va_runV (As := [.int ((gUpTo N mo.toInt64 z) + 1)]) (rest := []) ⟨hx, hb, hml, hown, hts⟩ (kX2_isPlace l dC dI oM oN oU cN cU z d 0 mo th en md po pl 0 va N U ((gUpTo N mo.toInt64 z) + 1) H.size hz) (cwV 1 hts gX2_write_X2_isPlace rfl rfl rfl (by decide +kernel) ⟨Nat.le_of_ble_eq_true rfl, Nat.le_of_ble_eq_true rfl⟩) ⟨fun a U g mk q => by obtain ⟨q0, q1, qP, qK, qD⟩ := q; exact ⟨q0, q1, qP, va_K.moved (u := U) (U := U.calling g mk a) (Vm.Alike.refl U.vm) qK, qD⟩, va_recv hKc hPc (ci := 3) (q0 := 0) rfl rfl, fun U hU hW => ⟨rfl, by rw [hU], by rw [hU]; exact hPc, va_K.moved hW.alike hKc, hDc.weaken (fun _ _ _ _ => trivial)⟩⟩ rfl rfl hl.1 rfl (lv_room (Nat.le_of_ble_eq_true rfl)) dX2_write_72 ⟨Nat.le_of_ble_eq_true rfl, Nat.le_of_ble_eq_true rfl⟩) hS (fun q _ h => hFc q h) hFc (fun r_19 u t H1 locs ht hvm hw hB hz1 hk1 hS => ?_)
            obtain ⟨hP1, hK1, hD1⟩ := hB
            rw [ht] at hP1
            have hK1 := va_K.moved hvm.symm hK1
            try dsimp only at hw
            obtain ⟨hP, hD⟩ := va_join (wr := []) (w1 := [(oM, .inr (3, [.int 0, .int mo, .ref oN, .ref oU, .int (nI z), .int th, .int en, .int md, .int po, .int pl, .int 0, .int (nI d), .long va])), (oN, .inl (cN, 1100, .inl N)), (oU, .inl (cU, 1100, .inr (.inl U)))]) hP hD [0, 1, 2] [] rfl rfl (by decide) (by decide) hk1 hFc hP1 hD1
            generalize H1 = H at hP hS ⊢
            have hP : va_P (dC, dI) vwCl [(oM, .inr (3, [.int 0, .int mo, .ref oN, .ref oU, .int (nI z), .int th, .int en, .int md, .int po, .int pl, .int 0, .int (nI d), .long va])), (oN, .inl (cN, 1100, .inl N)), (oU, .inl (cU, 1100, .inr (.inl U)))] H := hP.sub [0, 1, 2] rfl
            have hD : va_D A [(oM, .inr (3, [.int 0, .int mo, .ref oN, .ref oU, .int (nI z), .int th, .int en, .int md, .int po, .int pl, .int 0, .int (nI d), .long va])), (oN, .inl (cN, 1100, .inl N)), (oU, .inl (cU, 1100, .inr (.inl U)))] := hD.sub [0, 1, 2] (by decide) rfl
            have hK : va_K (dC, dI) vwCl [(cN, .int), (cU, .long)] s := hK
            rcases hw with ⟨b_20, hw⟩ | ⟨b_20, hw⟩
            · -- gPl mo ((gUpTo N mo.toInt64 z) + 1)
              subst hw
              refine lv_if_eq (tgt := 87) hx hb dX2_write_75 (by decide) (fun c_21 => ?_) (fun c_21 => ?_)
              · -- taken at 75: 1 = 0
                exact absurd c_21 (by decide)
              · -- not taken at 75: ¬ 1 = 0
                refine lv_aload_n hx hb dX2_write_78 rfl (lv_at hl 1 rfl) ?_
                refine lv_iload hx hb dX2_write_79 (lv_at hl 0 rfl) ?_
                have hPc := hP.sub (ws' := [(oM, .inr (3, [.int 0, .int mo, .ref oN, .ref oU, .int (nI z), .int th, .int en, .int md, .int po, .int pl, .int 0, .int (nI d), .long va])), (oN, .inl (cN, 1100, .inl N)), (oU, .inl (cU, 1100, .inr (.inl U)))]) [0, 1, 2] rfl
                have hDc := hD.sub (ws' := [(oM, .inr (3, [.int 0, .int mo, .ref oN, .ref oU, .int (nI z), .int th, .int en, .int md, .int po, .int pl, .int 0, .int (nI d), .long va])), (oN, .inl (cN, 1100, .inl N)), (oU, .inl (cU, 1100, .inr (.inl U)))]) [0, 1, 2] (by decide) rfl
                have hKc := hK.sub (tys' := [(cN, .int), (cU, .long)]) [0, 1] rfl
                have hFc := va_free (wc := [(oM, .inr (3, [.int 0, .int mo, .ref oN, .ref oU, .int (nI z), .int th, .int en, .int md, .int po, .int pl, .int 0, .int (nI d), .long va])), (oN, .inl (cN, 1100, .inl N)), (oU, .inl (cU, 1100, .inr (.inl U)))]) hD hS hA [0, 1, 2] rfl
                refine va_calli (va_runV (As := [.int ((gUpTo N mo.toInt64 z) + 1)]) (rest := []) ⟨hx, hb, hml, hown, hts⟩ (kX2_isLong l dC dI oM oN oU cN cU z d 0 mo th en md po pl 0 va N U ((gUpTo N mo.toInt64 z) + 1) H.size hz hd) (cwV 1 hts gX2_write_X2_isLong rfl rfl rfl (by decide +kernel) ⟨Nat.le_of_ble_eq_true rfl, Nat.le_of_ble_eq_true rfl⟩) ⟨fun a U g mk q => by obtain ⟨q0, q1, qP, qK, qD⟩ := q; exact ⟨q0, q1, qP, va_K.moved (u := U) (U := U.calling g mk a) (Vm.Alike.refl U.vm) qK, qD⟩, va_recv hKc hPc (ci := 3) (q0 := 0) rfl rfl, fun U hU hW => ⟨rfl, by rw [hU], by rw [hU]; exact hPc, va_K.moved hW.alike hKc, hDc.weaken (fun _ _ _ _ => trivial)⟩⟩ rfl rfl hl.1 rfl (lv_room (Nat.le_of_ble_eq_true rfl)) dX2_write_81 ⟨Nat.le_of_ble_eq_true rfl, Nat.le_of_ble_eq_true rfl⟩) hS (fun q _ h => hFc q h) hFc (fun r_22 u t H1 locs ht hvm hw hB hz1 hk1 hS => ?_)
                obtain ⟨hP1, hK1, hD1⟩ := hB
                rw [ht] at hP1
                have hK1 := va_K.moved hvm.symm hK1
                try dsimp only at hw
                obtain ⟨hP, hD⟩ := va_join (wr := []) (w1 := [(oM, .inr (3, [.int 0, .int mo, .ref oN, .ref oU, .int (nI z), .int th, .int en, .int md, .int po, .int pl, .int 0, .int (nI d), .long va])), (oN, .inl (cN, 1100, .inl N)), (oU, .inl (cU, 1100, .inr (.inl U)))]) hP hD [0, 1, 2] [] rfl rfl (by decide) (by decide) hk1 hFc hP1 hD1
                generalize H1 = H at hP hS ⊢
                have hP : va_P (dC, dI) vwCl [(oM, .inr (3, [.int 0, .int mo, .ref oN, .ref oU, .int (nI z), .int th, .int en, .int md, .int po, .int pl, .int 0, .int (nI d), .long va])), (oN, .inl (cN, 1100, .inl N)), (oU, .inl (cU, 1100, .inr (.inl U)))] H := hP.sub [0, 1, 2] rfl
                have hD : va_D A [(oM, .inr (3, [.int 0, .int mo, .ref oN, .ref oU, .int (nI z), .int th, .int en, .int md, .int po, .int pl, .int 0, .int (nI d), .long va])), (oN, .inl (cN, 1100, .inl N)), (oU, .inl (cU, 1100, .inr (.inl U)))] := hD.sub [0, 1, 2] (by decide) rfl
                have hK : va_K (dC, dI) vwCl [(cN, .int), (cU, .long)] s := hK
                rcases hw with ⟨b_23, hw⟩ | ⟨b_23, hw⟩
                · -- gLong ((gUpTo N mo.toInt64 z) + 1) d
                  subst hw
                  refine lv_if_eq (tgt := 90) hx hb dX2_write_84 (by decide) (fun c_24 => ?_) (fun c_24 => ?_)
                  · -- taken at 84: 1 = 0
                    exact absurd c_24 (by decide)
                  · -- not taken at 84: ¬ 1 = 0
                    refine lv_bipush (v := 24) hx hb dX2_write_87 (by decide) ?_
                    subst hQ9
                    have e9 : gWrite mo p0 p1 (co, z, th, en, md, po, pl, la, d, va, N, U) = (24, (0, z, th, en, md, po, pl, 0, d, va, N, U)) := by simp only [gWrite, gW2, if_neg c_1, if_neg c_2, if_pos c_3, if_neg c_16, if_pos b_20, if_pos b_23]
                    rw [e9]
                    exact W.iret (v := 24) hx hb hr (fun t ht hW => ⟨⟨24, (), rfl, rfl, by rw [ht]; exact hP, va_K.moved hW.alike hK, hD⟩, hS.F ht⟩) hS.2.2 dX2_write_89
                · -- ¬ (gLong ((gUpTo N mo.toInt64 z) + 1) d)
                  subst hw
                  refine lv_if_eq (tgt := 90) hx hb dX2_write_84 (by decide) (fun c_25 => ?_) (fun c_25 => ?_)
                  · -- taken at 84: 0 = 0
                    refine lv_aload_n hx hb dX2_write_90 rfl (lv_at hl 1 rfl) ?_
                    refine lv_iload hx hb dX2_write_91 (lv_at hl 0 rfl) ?_
                    have hPc := hP.sub (ws' := [(oM, .inr (3, [.int 0, .int mo, .ref oN, .ref oU, .int (nI z), .int th, .int en, .int md, .int po, .int pl, .int 0, .int (nI d), .long va])), (oN, .inl (cN, 1100, .inl N)), (oU, .inl (cU, 1100, .inr (.inl U)))]) [0, 1, 2] rfl
                    have hDc := hD.sub (ws' := [(oM, .inr (3, [.int 0, .int mo, .ref oN, .ref oU, .int (nI z), .int th, .int en, .int md, .int po, .int pl, .int 0, .int (nI d), .long va])), (oN, .inl (cN, 1100, .inl N)), (oU, .inl (cU, 1100, .inr (.inl U)))]) [0, 1, 2] (by decide) rfl
                    have hKc := hK.sub (tys' := [(cN, .int), (cU, .long)]) [0, 1] rfl
                    have hFc := va_free (wc := [(oM, .inr (3, [.int 0, .int mo, .ref oN, .ref oU, .int (nI z), .int th, .int en, .int md, .int po, .int pl, .int 0, .int (nI d), .long va])), (oN, .inl (cN, 1100, .inl N)), (oU, .inl (cU, 1100, .inr (.inl U)))]) hD hS hA [0, 1, 2] rfl
                    refine va_calli (va_runV (As := [.int ((gUpTo N mo.toInt64 z) + 1)]) (rest := []) ⟨hx, hb, hml, hown, hts⟩ (kX2_find l dC dI oM oN oU cN cU z d 0 mo th en md po pl 0 va N U ((gUpTo N mo.toInt64 z) + 1) H.size hz) (cwV 1 hts gX2_write_X2_find rfl rfl rfl (by decide +kernel) ⟨Nat.le_of_ble_eq_true rfl, Nat.le_of_ble_eq_true rfl⟩) ⟨fun a U g mk q => by obtain ⟨q0, q1, qP, qK, qD⟩ := q; exact ⟨q0, q1, qP, va_K.moved (u := U) (U := U.calling g mk a) (Vm.Alike.refl U.vm) qK, qD⟩, va_recv hKc hPc (ci := 3) (q0 := 0) rfl rfl, fun U hU hW => ⟨rfl, by rw [hU], by rw [hU]; exact hPc, va_K.moved hW.alike hKc, hDc.weaken (fun _ _ _ _ => trivial)⟩⟩ rfl rfl hl.1 rfl (lv_room (Nat.le_of_ble_eq_true rfl)) dX2_write_93 ⟨Nat.le_of_ble_eq_true rfl, Nat.le_of_ble_eq_true rfl⟩) hS (fun q _ h => hFc q h) hFc (fun r_26 u t H1 locs ht hvm hw hB hz1 hk1 hS => ?_)
                    obtain ⟨hP1, hK1, hD1⟩ := hB
                    rw [ht] at hP1
                    have hK1 := va_K.moved hvm.symm hK1
                    try dsimp only at hw
                    obtain ⟨hP, hD⟩ := va_join (wr := []) (w1 := [(oM, .inr (3, [.int 0, .int mo, .ref oN, .ref oU, .int (nI z), .int th, .int en, .int md, .int po, .int pl, .int 0, .int (nI d), .long va])), (oN, .inl (cN, 1100, .inl N)), (oU, .inl (cU, 1100, .inr (.inl U)))]) hP hD [0, 1, 2] [] rfl rfl (by decide) (by decide) hk1 hFc hP1 hD1
                    generalize H1 = H at hP hS ⊢
                    have hP : va_P (dC, dI) vwCl [(oM, .inr (3, [.int 0, .int mo, .ref oN, .ref oU, .int (nI z), .int th, .int en, .int md, .int po, .int pl, .int 0, .int (nI d), .long va])), (oN, .inl (cN, 1100, .inl N)), (oU, .inl (cU, 1100, .inr (.inl U)))] H := hP.sub [0, 1, 2] rfl
                    have hD : va_D A [(oM, .inr (3, [.int 0, .int mo, .ref oN, .ref oU, .int (nI z), .int th, .int en, .int md, .int po, .int pl, .int 0, .int (nI d), .long va])), (oN, .inl (cN, 1100, .inl N)), (oU, .inl (cU, 1100, .inr (.inl U)))] := hD.sub [0, 1, 2] (by decide) rfl
                    have hK : va_K (dC, dI) vwCl [(cN, .int), (cU, .long)] s := hK
                    subst hw
                    refine lv_iconst (v := (-1)) hx hb dX2_write_96 (by decide) ?_
                    refine lv_icmp_eq (tgt := 103) hx hb dX2_write_97 (by decide) (fun c_27 => ?_) (fun c_27 => ?_)
                    · -- taken at 97: (rFind N ((gUpTo N mo.toInt64 z) + 1) z) = (-1)
                      refine lv_aload_n hx hb dX2_write_103 rfl (lv_at hl 1 rfl) ?_
                      refine lv_iload hx hb dX2_write_104 (lv_at hl 0 rfl) ?_
                      refine lv_lload_n hx hb dX2_write_106 rfl (lv_at hl 3 rfl) ?_
                      have hPc := hP.sub (ws' := [(oM, .inr (3, [.int 0, .int mo, .ref oN, .ref oU, .int (nI z), .int th, .int en, .int md, .int po, .int pl, .int 0, .int (nI d), .long va])), (oN, .inl (cN, 1100, .inl N)), (oU, .inl (cU, 1100, .inr (.inl U)))]) [0, 1, 2] rfl
                      have hDc := hD.sub (ws' := [(oM, .inr (3, [.int 0, .int mo, .ref oN, .ref oU, .int (nI z), .int th, .int en, .int md, .int po, .int pl, .int 0, .int (nI d), .long va])), (oN, .inl (cN, 1100, .inl N)), (oU, .inl (cU, 1100, .inr (.inl U)))]) [0, 1, 2] (by decide) rfl
                      have hKc := hK.sub (tys' := [(cN, .int), (cU, .long)]) [0, 1] rfl
                      have hFc := va_free (wc := [(oM, .inr (3, [.int 0, .int mo, .ref oN, .ref oU, .int (nI z), .int th, .int en, .int md, .int po, .int pl, .int 0, .int (nI d), .long va])), (oN, .inl (cN, 1100, .inl N)), (oU, .inl (cU, 1100, .inr (.inl U)))]) hD hS hA [0, 1, 2] rfl
                      refine va_callv (va_runV (As := [.int ((gUpTo N mo.toInt64 z) + 1), .long p1]) (rest := []) ⟨hx, hb, hml, hown, hts⟩ (kX2_add l dC dI oM oN oU cN cU z d 0 mo th en md po pl 0 va N U ((gUpTo N mo.toInt64 z) + 1) p1 H.size hz hz2) (cwV 2 hts gX2_write_X2_add rfl rfl rfl (by decide +kernel) ⟨Nat.le_of_ble_eq_true rfl, Nat.le_of_ble_eq_true rfl⟩) ⟨fun a U g mk q => by obtain ⟨q0, q1, qP, qK, qD⟩ := q; exact ⟨q0, q1, qP, va_K.moved (u := U) (U := U.calling g mk a) (Vm.Alike.refl U.vm) qK, qD⟩, va_recv hKc hPc (ci := 3) (q0 := 0) rfl rfl, fun U hU hW => ⟨rfl, by rw [hU], by rw [hU]; exact hPc, va_K.moved hW.alike hKc, hDc.weaken (fun _ _ _ _ => trivial)⟩⟩ rfl rfl hl.1 rfl (lv_room (Nat.le_of_ble_eq_true rfl)) dX2_write_107 ⟨Nat.le_of_ble_eq_true rfl, Nat.le_of_ble_eq_true rfl⟩) hS (fun q _ h => hFc q h) hFc (fun u t H1 locs ht hvm hw hB hz1 hk1 hS => ?_)
                      obtain ⟨hP1, hK1, hD1⟩ := hB
                      rw [ht] at hP1
                      have hK1 := va_K.moved hvm.symm hK1
                      try dsimp only at hw
                      obtain ⟨hP, hD⟩ := va_join (wr := []) (w1 := [(oM, .inr (3, [.int 0, .int mo, .ref oN, .ref oU, .int (nI (z + 1)), .int th, .int en, .int md, .int po, .int pl, .int 0, .int (nI d), .long p1])), (oN, .inl (cN, 1100, .inl (upd N z ((gUpTo N mo.toInt64 z) + 1)))), (oU, .inl (cU, 1100, .inr (.inl (vp_updL U z p1))))]) hP hD [0, 1, 2] [] rfl rfl (by decide) (by decide) hk1 hFc hP1 hD1
                      generalize H1 = H at hP hS ⊢
                      have hP : va_P (dC, dI) vwCl [(oM, .inr (3, [.int 0, .int mo, .ref oN, .ref oU, .int (nI (z + 1)), .int th, .int en, .int md, .int po, .int pl, .int 0, .int (nI d), .long p1])), (oN, .inl (cN, 1100, .inl (upd N z ((gUpTo N mo.toInt64 z) + 1)))), (oU, .inl (cU, 1100, .inr (.inl (vp_updL U z p1))))] H := hP.sub [0, 1, 2] rfl
                      have hD : va_D A [(oM, .inr (3, [.int 0, .int mo, .ref oN, .ref oU, .int (nI (z + 1)), .int th, .int en, .int md, .int po, .int pl, .int 0, .int (nI d), .long p1])), (oN, .inl (cN, 1100, .inl (upd N z ((gUpTo N mo.toInt64 z) + 1)))), (oU, .inl (cU, 1100, .inr (.inl (vp_updL U z p1))))] := hD.sub [0, 1, 2] (by decide) rfl
                      have hK : va_K (dC, dI) vwCl [(cN, .int), (cU, .long)] s := hK
                      refine lv_iconst (v := 0) hx hb dX2_write_110 (by decide) ?_
                      subst hQ9
                      have e9 : gWrite mo p0 p1 (co, z, th, en, md, po, pl, la, d, va, N, U) = (0, (0, (z + 1), th, en, md, po, pl, 0, d, p1, upd N z ((gUpTo N mo.toInt64 z) + 1), vp_updL U z p1)) := by simp only [gWrite, gW2, if_neg c_1, if_neg c_2, if_pos c_3, if_neg c_16, if_pos b_20, if_neg b_23, if_pos c_27]
                      rw [e9]
                      exact W.iret (v := 0) hx hb hr (fun t ht hW => ⟨⟨0, (), rfl, rfl, by rw [ht]; exact hP, va_K.moved hW.alike hK, hD⟩, hS.F ht⟩) hS.2.2 dX2_write_111
                    · -- not taken at 97: ¬ (rFind N ((gUpTo N mo.toInt64 z) + 1) z) = (-1)
                      refine lv_bipush (v := 22) hx hb dX2_write_100 (by decide) ?_
                      subst hQ9
                      have e9 : gWrite mo p0 p1 (co, z, th, en, md, po, pl, la, d, va, N, U) = (22, (0, z, th, en, md, po, pl, 0, d, va, N, U)) := by simp only [gWrite, gW2, if_neg c_1, if_neg c_2, if_pos c_3, if_neg c_16, if_pos b_20, if_neg b_23, if_neg c_27]
                      rw [e9]
                      exact W.iret (v := 22) hx hb hr (fun t ht hW => ⟨⟨22, (), rfl, rfl, by rw [ht]; exact hP, va_K.moved hW.alike hK, hD⟩, hS.F ht⟩) hS.2.2 dX2_write_102
                  · -- not taken at 84: ¬ 0 = 0
                    exact absurd c_25 (by decide)
            · -- ¬ (gPl mo ((gUpTo N mo.toInt64 z) + 1))
              subst hw
              refine lv_if_eq (tgt := 87) hx hb dX2_write_75 (by decide) (fun c_29 => ?_) (fun c_29 => ?_)
              · -- taken at 75: 0 = 0
                refine lv_bipush (v := 24) hx hb dX2_write_87 (by decide) ?_
                subst hQ9
                have e9 : gWrite mo p0 p1 (co, z, th, en, md, po, pl, la, d, va, N, U) = (24, (0, z, th, en, md, po, pl, 0, d, va, N, U)) := by simp only [gWrite, gW2, if_neg c_1, if_neg c_2, if_pos c_3, if_neg c_16, if_neg b_20]
                rw [e9]
                exact W.iret (v := 24) hx hb hr (fun t ht hW => ⟨⟨24, (), rfl, rfl, by rw [ht]; exact hP, va_K.moved hW.alike hK, hD⟩, hS.F ht⟩) hS.2.2 dX2_write_89
              · -- not taken at 75: ¬ 0 = 0
                exact absurd c_29 (by decide)
        · -- not taken at 41: md = 2
          refine lv_bipush (v := 24) hx hb dX2_write_44 (by decide) ?_
          subst hQ9
          have e9 : gWrite mo p0 p1 (co, z, th, en, md, po, pl, la, d, va, N, U) = (24, (0, z, th, en, md, po, pl, 0, d, va, N, U)) := by simp only [gWrite, gW2, if_neg c_1, if_neg c_2, if_pos c_3, if_pos c_16]
          rw [e9]
          exact W.iret (v := 24) hx hb hr (fun t ht hW => ⟨⟨24, (), rfl, rfl, by rw [ht]; exact hP, va_K.moved hW.alike hK, hD⟩, hS.F ht⟩) hS.2.2 dX2_write_46
    · -- not taken at 20: md = 0
      refine lv_bipush (v := 48) hx hb dX2_write_23 (by decide) ?_
      subst hQ9
      have e9 : gWrite mo p0 p1 (co, z, th, en, md, po, pl, la, d, va, N, U) = (48, (0, z, th, en, md, po, pl, la, d, va, N, U)) := by simp only [gWrite, gW2, if_neg c_1, if_pos c_2]
      rw [e9]
      exact W.iret (v := 48) hx hb hr (fun t ht hW => ⟨⟨48, (), rfl, rfl, by rw [ht]; exact hP, va_K.moved hW.alike hK, hD⟩, hS.F ht⟩) hS.2.2 dX2_write_25
  · -- not taken at 10: md = (-1)
    refine lv_bipush (v := 42) hx hb dX2_write_13 (by decide) ?_
    subst hQ9
    have e9 : gWrite mo p0 p1 (co, z, th, en, md, po, pl, la, d, va, N, U) = (42, (0, z, th, en, md, po, pl, la, d, va, N, U)) := by simp only [gWrite, gW2, if_pos c_1]
    rw [e9]
    exact W.iret (v := 42) hx hb hr (fun t ht hW => ⟨⟨42, (), rfl, rfl, by rw [ht]; exact hP, va_K.moved hW.alike hK, hD⟩, hS.F ht⟩) hS.2.2 dX2_write_15

set_option maxHeartbeats 1000000 in
set_option maxRecDepth 100000 in
theorem kX2_read (l : Launch) (dC : Nat → ClassId) (dI : Nat → Nat → Nat) (oM oN oU : Nat) (cN cU : ClassId) (z d : Nat) (co mo th en md po pl la : Int32) (va : Int64) (N : Nat → Int32) (U : Nat → Int64) (p0 : Int32) (sz : Nat) (hz : z ≤ 1100) : Met l yX2_read wsX2_read ({ frames := 2, cells := 0, slots := 0, locals := 44 }) (va_Pc [.ref oM, .int p0] (fun U9 => U9.heap.size = sz ∧ va_P (dC, dI) vwCl [(oM, .inr (3, [.int co, .int mo, .ref oN, .ref oU, .int (nI z), .int th, .int en, .int md, .int po, .int pl, .int la, .int (nI d), .long va])), (oN, .inl (cN, 1100, .inl N)), (oU, .inl (cU, 1100, .inr (.inl U)))] U9.heap ∧ va_K (dC, dI) vwCl [(cN, .int), (cU, .long)] U9 ∧ va_D (fun _ => True) [(oM, .inr (3, [.int co, .int mo, .ref oN, .ref oU, .int (nI z), .int th, .int en, .int md, .int po, .int pl, .int la, .int (nI d), .long va])), (oN, .inl (cN, 1100, .inl N)), (oU, .inl (cU, 1100, .inr (.inl U)))])) (va_Qi (fun (r : Int32) (_ : Unit) => r = (gRead p0 (co, z, th, en, md, po, pl, la, d, va, N, U)).1) (fun (_ : Unit) (t : State) => va_P (dC, dI) vwCl (wM oM oN oU cN cU mo (gRead p0 (co, z, th, en, md, po, pl, la, d, va, N, U)).2) t.heap ∧ va_K (dC, dI) vwCl [(cN, .int), (cU, .long)] t ∧ va_D (va_A [(oM, .inr (3, [.int co, .int mo, .ref oN, .ref oU, .int (nI z), .int th, .int en, .int md, .int po, .int pl, .int la, .int (nI d), .long va])), (oN, .inl (cN, 1100, .inl N)), (oU, .inl (cU, 1100, .inr (.inl U)))] sz) (wM oM oN oU cN cU mo (gRead p0 (co, z, th, en, md, po, pl, la, d, va, N, U)).2)) (va_A [(oM, .inr (3, [.int co, .int mo, .ref oN, .ref oU, .int (nI z), .int th, .int en, .int md, .int po, .int pl, .int la, .int (nI d), .long va])), (oN, .inl (cN, 1100, .inl N)), (oU, .inl (cU, 1100, .inr (.inl U)))] sz)) 0 0 (va_A [(oM, .inr (3, [.int co, .int mo, .ref oN, .ref oU, .int (nI z), .int th, .int en, .int md, .int po, .int pl, .int la, .int (nI d), .long va])), (oN, .inl (cN, 1100, .inl N)), (oU, .inl (cU, 1100, .inr (.inl U)))] sz) := by
  refine Met.ofW (cc := cX2_read) (maxL := 2) (ret := (some .int)) (by decide) rfl ?_
  intro p e s m args below meth c s₁ B hml hv
  obtain ⟨rfl, hsz, hP, hK, hD0⟩ := hv
  have hx := B.exec
  have hb := B.bytes
  have hr := B.returns
  have hts := atoms_spec (ws := wsX2_read) B.pre
  have hown : s.vm.findClass RX2 = some m.cls := findClass_of_methodNamed B.named
  have hlocks := B.notSynchronized
  subst hsz
  have hD := hD0.self (sz := s.heap.size)
  generalize hAe : va_A [(oM, .inr (3, [.int co, .int mo, .ref oN, .ref oU, .int (nI z), .int th, .int en, .int md, .int po, .int pl, .int la, .int (nI d), .long va])), (oN, .inl (cN, 1100, .inl N)), (oU, .inl (cU, 1100, .inr (.inl U)))] s.heap.size = A at hD ⊢
  have hA : ∀ q : Nat, s.heap.size ≤ q → A q := fun q h => by rw [← hAe]; exact Or.inr h
  have hS : va_S A s.heap s.heap [] := va_S.rf
  have hP : va_P (dC, dI) vwCl [(oM, .inr (3, [.int co, .int mo, .ref oN, .ref oU, .int (nI z), .int th, .int en, .int md, .int po, .int pl, .int la, .int (nI d), .long va])), (oN, .inl (cN, 1100, .inl N)), (oU, .inl (cU, 1100, .inr (.inl U)))] s.heap := hP
  have hl := lv_entry ([.ref oM, .int p0]) (n := 2) (Nat.le_of_ble_eq_true rfl)
  rw [lg_entry_eq]
  generalize (lg_sl ([.ref oM, .int p0]) ++ List.replicate (2 - (lg_sl ([.ref oM, .int p0])).length) Slot.unset).toArray = ls at hl ⊢
  have hl : lv_has ls 2 [(0, .ref oM), (1, .int p0)] := hl
  refine W_name (fun Q hQ9 => ?_)
  refine lv_aload_n hx hb dX2_read_0 rfl (lv_at hl 0 rfl) ?_
  refine lv_iconst (v := 0) hx hb dX2_read_1 (by decide) ?_
  refine va_put (D := (dC, dI)) (ci := 3) (v := .int 0) (ty := .int) (C := RX2) (T := TX2) (N := 13) hx hb hts (by decide +kernel) tyX2 tyX2_ok nmX2 hown hK hP hD hS 0 rfl rfl 0 (by decide) (hts (.fieldLink RX2 28 "RelativeFilesModel" "code" "I") (by decide +kernel)) (fun _ h9 => h9) rfl (by decide +kernel) rfl rfl (Nat.le_of_ble_eq_true rfl) dX2_read_2 (fun H locs hP hD hS => ?_)
  have hP : va_P (dC, dI) vwCl [(oM, .inr (3, [.int 0, .int mo, .ref oN, .ref oU, .int (nI z), .int th, .int en, .int md, .int po, .int pl, .int la, .int (nI d), .long va])), (oN, .inl (cN, 1100, .inl N)), (oU, .inl (cU, 1100, .inr (.inl U)))] H := hP
  have hD : va_D A [(oM, .inr (3, [.int 0, .int mo, .ref oN, .ref oU, .int (nI z), .int th, .int en, .int md, .int po, .int pl, .int la, .int (nI d), .long va])), (oN, .inl (cN, 1100, .inl N)), (oU, .inl (cU, 1100, .inr (.inl U)))] := hD
  refine lv_aload_n hx hb dX2_read_5 rfl (lv_at hl 0 rfl) ?_
  refine va_get (D := (dC, dI)) (ci := 3) (v := .int md) (C := RX2) (T := TX2) (N := 13) hx hb hts (by decide +kernel) hown hK hP 0 rfl rfl 7 (by decide) (hts (.fieldLink RX2 17 "RelativeFilesModel" "mode" "I") (by decide +kernel)) (fun _ h9 => h9) rfl dX2_read_6 ?_
  refine lv_iconst (v := (-1)) hx hb dX2_read_9 (by decide) ?_
  refine lv_icmp_ne (tgt := 16) hx hb dX2_read_10 (by decide) (fun c_1 => ?_) (fun c_1 => ?_)
  · -- taken at 10: ¬ md = (-1)
    refine lv_aload_n hx hb dX2_read_16 rfl (lv_at hl 0 rfl) ?_
    have hPc := hP.sub (ws' := [(oM, .inr (3, [.int 0, .int mo, .ref oN, .ref oU, .int (nI z), .int th, .int en, .int md, .int po, .int pl, .int la, .int (nI d), .long va])), (oN, .inl (cN, 1100, .inl N)), (oU, .inl (cU, 1100, .inr (.inl U)))]) [0, 1, 2] rfl
    have hDc := hD.sub (ws' := [(oM, .inr (3, [.int 0, .int mo, .ref oN, .ref oU, .int (nI z), .int th, .int en, .int md, .int po, .int pl, .int la, .int (nI d), .long va])), (oN, .inl (cN, 1100, .inl N)), (oU, .inl (cU, 1100, .inr (.inl U)))]) [0, 1, 2] (by decide) rfl
    have hKc := hK.sub (tys' := [(cN, .int), (cU, .long)]) [0, 1] rfl
    have hFc := va_free (wc := [(oM, .inr (3, [.int 0, .int mo, .ref oN, .ref oU, .int (nI z), .int th, .int en, .int md, .int po, .int pl, .int la, .int (nI d), .long va])), (oN, .inl (cN, 1100, .inl N)), (oU, .inl (cU, 1100, .inr (.inl U)))]) hD hS hA [0, 1, 2] rfl
    refine va_calli (va_runV (As := []) (rest := []) ⟨hx, hb, hml, hown, hts⟩ (kX2_reads l dC dI oM oN oU cN cU z d 0 mo th en md po pl la va N U  H.size hz) (cwV 0 hts gX2_read_X2_reads rfl rfl rfl (by decide +kernel) ⟨Nat.le_of_ble_eq_true rfl, Nat.le_of_ble_eq_true rfl⟩) ⟨fun a U g mk q => by obtain ⟨q0, q1, qP, qK, qD⟩ := q; exact ⟨q0, q1, qP, va_K.moved (u := U) (U := U.calling g mk a) (Vm.Alike.refl U.vm) qK, qD⟩, va_recv hKc hPc (ci := 3) (q0 := 0) rfl rfl, fun U hU hW => ⟨rfl, by rw [hU], by rw [hU]; exact hPc, va_K.moved hW.alike hKc, hDc.weaken (fun _ _ _ _ => trivial)⟩⟩ rfl rfl hl.1 rfl (lv_room (Nat.le_of_ble_eq_true rfl)) dX2_read_17 ⟨Nat.le_of_ble_eq_true rfl, Nat.le_of_ble_eq_true rfl⟩) hS (fun q _ h => hFc q h) hFc (fun r_2 u t H1 locs ht hvm hw hB hz1 hk1 hS => ?_)
    obtain ⟨hP1, hK1, hD1⟩ := hB
    rw [ht] at hP1
    have hK1 := va_K.moved hvm.symm hK1
    try dsimp only at hw
    obtain ⟨hP, hD⟩ := va_join (wr := []) (w1 := [(oM, .inr (3, [.int 0, .int mo, .ref oN, .ref oU, .int (nI z), .int th, .int en, .int md, .int po, .int pl, .int la, .int (nI d), .long va])), (oN, .inl (cN, 1100, .inl N)), (oU, .inl (cU, 1100, .inr (.inl U)))]) hP hD [0, 1, 2] [] rfl rfl (by decide) (by decide) hk1 hFc hP1 hD1
    generalize H1 = H at hP hS ⊢
    have hP : va_P (dC, dI) vwCl [(oM, .inr (3, [.int 0, .int mo, .ref oN, .ref oU, .int (nI z), .int th, .int en, .int md, .int po, .int pl, .int la, .int (nI d), .long va])), (oN, .inl (cN, 1100, .inl N)), (oU, .inl (cU, 1100, .inr (.inl U)))] H := hP.sub [0, 1, 2] rfl
    have hD : va_D A [(oM, .inr (3, [.int 0, .int mo, .ref oN, .ref oU, .int (nI z), .int th, .int en, .int md, .int po, .int pl, .int la, .int (nI d), .long va])), (oN, .inl (cN, 1100, .inl N)), (oU, .inl (cU, 1100, .inr (.inl U)))] := hD.sub [0, 1, 2] (by decide) rfl
    have hK : va_K (dC, dI) vwCl [(cN, .int), (cU, .long)] s := hK
    rcases hw with ⟨b_3, hw⟩ | ⟨b_3, hw⟩
    · -- gRd md
      subst hw
      refine lv_if_ne (tgt := 26) hx hb dX2_read_20 (by decide) (fun c_4 => ?_) (fun c_4 => ?_)
      · -- taken at 20: ¬ 1 = 0
        refine lv_aload_n hx hb dX2_read_26 rfl (lv_at hl 0 rfl) ?_
        refine lv_iconst (v := 0) hx hb dX2_read_27 (by decide) ?_
        refine va_put (D := (dC, dI)) (ci := 3) (v := .int 0) (ty := .int) (C := RX2) (T := TX2) (N := 13) hx hb hts (by decide +kernel) tyX2 tyX2_ok nmX2 hown hK hP hD hS 0 rfl rfl 10 (by decide) (hts (.fieldLink RX2 36 "RelativeFilesModel" "last" "I") (by decide +kernel)) (fun _ h9 => h9) rfl (by decide +kernel) rfl rfl (Nat.le_of_ble_eq_true rfl) dX2_read_28 (fun H locs hP hD hS => ?_)
        have hP : va_P (dC, dI) vwCl [(oM, .inr (3, [.int 0, .int mo, .ref oN, .ref oU, .int (nI z), .int th, .int en, .int md, .int po, .int pl, .int 0, .int (nI d), .long va])), (oN, .inl (cN, 1100, .inl N)), (oU, .inl (cU, 1100, .inr (.inl U)))] H := hP
        have hD : va_D A [(oM, .inr (3, [.int 0, .int mo, .ref oN, .ref oU, .int (nI z), .int th, .int en, .int md, .int po, .int pl, .int 0, .int (nI d), .long va])), (oN, .inl (cN, 1100, .inl N)), (oU, .inl (cU, 1100, .inr (.inl U)))] := hD
        refine lv_aload_n hx hb dX2_read_31 rfl (lv_at hl 0 rfl) ?_
        refine lv_iconst (v := 0) hx hb dX2_read_32 (by decide) ?_
        refine va_put (D := (dC, dI)) (ci := 3) (v := .int 0) (ty := .boolean) (C := RX2) (T := TX2) (N := 13) hx hb hts (by decide +kernel) tyX2 tyX2_ok nmX2 hown hK hP hD hS 0 rfl rfl 6 (by decide) (hts (.fieldLink RX2 46 "RelativeFilesModel" "ended" "Z") (by decide +kernel)) (fun _ h9 => h9) rfl (by decide +kernel) (by decide) (by decide) (Nat.le_of_ble_eq_true rfl) dX2_read_33 (fun H locs hP hD hS => ?_)
        have hP : va_P (dC, dI) vwCl [(oM, .inr (3, [.int 0, .int mo, .ref oN, .ref oU, .int (nI z), .int th, .int 0, .int md, .int po, .int pl, .int 0, .int (nI d), .long va])), (oN, .inl (cN, 1100, .inl N)), (oU, .inl (cU, 1100, .inr (.inl U)))] H := hP
        have hD : va_D A [(oM, .inr (3, [.int 0, .int mo, .ref oN, .ref oU, .int (nI z), .int th, .int 0, .int md, .int po, .int pl, .int 0, .int (nI d), .long va])), (oN, .inl (cN, 1100, .inl N)), (oU, .inl (cU, 1100, .inr (.inl U)))] := hD
        refine lv_aload_n hx hb dX2_read_36 rfl (lv_at hl 0 rfl) ?_
        refine lv_iconst (v := 3) hx hb dX2_read_37 (by decide) ?_
        refine va_put (D := (dC, dI)) (ci := 3) (v := .int 3) (ty := .int) (C := RX2) (T := TX2) (N := 13) hx hb hts (by decide +kernel) tyX2 tyX2_ok nmX2 hown hK hP hD hS 0 rfl rfl 8 (by decide) (hts (.fieldLink RX2 43 "RelativeFilesModel" "position" "I") (by decide +kernel)) (fun _ h9 => h9) rfl (by decide +kernel) rfl rfl (Nat.le_of_ble_eq_true rfl) dX2_read_38 (fun H locs hP hD hS => ?_)
        have hP : va_P (dC, dI) vwCl [(oM, .inr (3, [.int 0, .int mo, .ref oN, .ref oU, .int (nI z), .int th, .int 0, .int md, .int 3, .int pl, .int 0, .int (nI d), .long va])), (oN, .inl (cN, 1100, .inl N)), (oU, .inl (cU, 1100, .inr (.inl U)))] H := hP
        have hD : va_D A [(oM, .inr (3, [.int 0, .int mo, .ref oN, .ref oU, .int (nI z), .int th, .int 0, .int md, .int 3, .int pl, .int 0, .int (nI d), .long va])), (oN, .inl (cN, 1100, .inl N)), (oU, .inl (cU, 1100, .inr (.inl U)))] := hD
        refine lv_aload_n hx hb dX2_read_41 rfl (lv_at hl 0 rfl) ?_
        refine lv_iload_n hx hb dX2_read_42 rfl (lv_at hl 1 rfl) ?_
        have hPc := hP.sub (ws' := [(oM, .inr (3, [.int 0, .int mo, .ref oN, .ref oU, .int (nI z), .int th, .int 0, .int md, .int 3, .int pl, .int 0, .int (nI d), .long va])), (oN, .inl (cN, 1100, .inl N)), (oU, .inl (cU, 1100, .inr (.inl U)))]) [0, 1, 2] rfl
        have hDc := hD.sub (ws' := [(oM, .inr (3, [.int 0, .int mo, .ref oN, .ref oU, .int (nI z), .int th, .int 0, .int md, .int 3, .int pl, .int 0, .int (nI d), .long va])), (oN, .inl (cN, 1100, .inl N)), (oU, .inl (cU, 1100, .inr (.inl U)))]) [0, 1, 2] (by decide) rfl
        have hKc := hK.sub (tys' := [(cN, .int), (cU, .long)]) [0, 1] rfl
        have hFc := va_free (wc := [(oM, .inr (3, [.int 0, .int mo, .ref oN, .ref oU, .int (nI z), .int th, .int 0, .int md, .int 3, .int pl, .int 0, .int (nI d), .long va])), (oN, .inl (cN, 1100, .inl N)), (oU, .inl (cU, 1100, .inr (.inl U)))]) hD hS hA [0, 1, 2] rfl
        refine va_calli (va_runV (As := [.int p0]) (rest := []) ⟨hx, hb, hml, hown, hts⟩ (kX2_find l dC dI oM oN oU cN cU z d 0 mo th 0 md 3 pl 0 va N U p0 H.size hz) (cwV 1 hts gX2_read_X2_find rfl rfl rfl (by decide +kernel) ⟨Nat.le_of_ble_eq_true rfl, Nat.le_of_ble_eq_true rfl⟩) ⟨fun a U g mk q => by obtain ⟨q0, q1, qP, qK, qD⟩ := q; exact ⟨q0, q1, qP, va_K.moved (u := U) (U := U.calling g mk a) (Vm.Alike.refl U.vm) qK, qD⟩, va_recv hKc hPc (ci := 3) (q0 := 0) rfl rfl, fun U hU hW => ⟨rfl, by rw [hU], by rw [hU]; exact hPc, va_K.moved hW.alike hKc, hDc.weaken (fun _ _ _ _ => trivial)⟩⟩ rfl rfl hl.1 rfl (lv_room (Nat.le_of_ble_eq_true rfl)) dX2_read_43 ⟨Nat.le_of_ble_eq_true rfl, Nat.le_of_ble_eq_true rfl⟩) hS (fun q _ h => hFc q h) hFc (fun r_5 u t H1 locs ht hvm hw hB hz1 hk1 hS => ?_)
        obtain ⟨hP1, hK1, hD1⟩ := hB
        rw [ht] at hP1
        have hK1 := va_K.moved hvm.symm hK1
        try dsimp only at hw
        obtain ⟨hP, hD⟩ := va_join (wr := []) (w1 := [(oM, .inr (3, [.int 0, .int mo, .ref oN, .ref oU, .int (nI z), .int th, .int 0, .int md, .int 3, .int pl, .int 0, .int (nI d), .long va])), (oN, .inl (cN, 1100, .inl N)), (oU, .inl (cU, 1100, .inr (.inl U)))]) hP hD [0, 1, 2] [] rfl rfl (by decide) (by decide) hk1 hFc hP1 hD1
        generalize H1 = H at hP hS ⊢
        have hP : va_P (dC, dI) vwCl [(oM, .inr (3, [.int 0, .int mo, .ref oN, .ref oU, .int (nI z), .int th, .int 0, .int md, .int 3, .int pl, .int 0, .int (nI d), .long va])), (oN, .inl (cN, 1100, .inl N)), (oU, .inl (cU, 1100, .inr (.inl U)))] H := hP.sub [0, 1, 2] rfl
        have hD : va_D A [(oM, .inr (3, [.int 0, .int mo, .ref oN, .ref oU, .int (nI z), .int th, .int 0, .int md, .int 3, .int pl, .int 0, .int (nI d), .long va])), (oN, .inl (cN, 1100, .inl N)), (oU, .inl (cU, 1100, .inr (.inl U)))] := hD.sub [0, 1, 2] (by decide) rfl
        have hK : va_K (dC, dI) vwCl [(cN, .int), (cU, .long)] s := hK
        subst hw
        refine lv_iconst (v := (-1)) hx hb dX2_read_46 (by decide) ?_
        refine lv_icmp_ne (tgt := 53) hx hb dX2_read_47 (by decide) (fun c_6 => ?_) (fun c_6 => ?_)
        · -- taken at 47: ¬ (rFind N p0 z) = (-1)
          refine lv_aload_n hx hb dX2_read_53 rfl (lv_at hl 0 rfl) ?_
          refine lv_iload_n hx hb dX2_read_54 rfl (lv_at hl 1 rfl) ?_
          have hq := c_6
          have hPc := hP.sub (ws' := [(oM, .inr (3, [.int 0, .int mo, .ref oN, .ref oU, .int (nI z), .int th, .int 0, .int md, .int 3, .int pl, .int 0, .int (nI d), .long va])), (oN, .inl (cN, 1100, .inl N)), (oU, .inl (cU, 1100, .inr (.inl U)))]) [0, 1, 2] rfl
          have hDc := hD.sub (ws' := [(oM, .inr (3, [.int 0, .int mo, .ref oN, .ref oU, .int (nI z), .int th, .int 0, .int md, .int 3, .int pl, .int 0, .int (nI d), .long va])), (oN, .inl (cN, 1100, .inl N)), (oU, .inl (cU, 1100, .inr (.inl U)))]) [0, 1, 2] (by decide) rfl
          have hKc := hK.sub (tys' := [(cN, .int), (cU, .long)]) [0, 1] rfl
          have hFc := va_free (wc := [(oM, .inr (3, [.int 0, .int mo, .ref oN, .ref oU, .int (nI z), .int th, .int 0, .int md, .int 3, .int pl, .int 0, .int (nI d), .long va])), (oN, .inl (cN, 1100, .inl N)), (oU, .inl (cU, 1100, .inr (.inl U)))]) hD hS hA [0, 1, 2] rfl
          refine va_callv (va_runV (As := [.int p0]) (rest := []) ⟨hx, hb, hml, hown, hts⟩ (kX2_take l dC dI oM oN oU cN cU z d 0 mo th 0 md 3 pl 0 va N U p0 H.size hz hq) (cwV 1 hts gX2_read_X2_take rfl rfl rfl (by decide +kernel) ⟨Nat.le_of_ble_eq_true rfl, Nat.le_of_ble_eq_true rfl⟩) ⟨fun a U g mk q => by obtain ⟨q0, q1, qP, qK, qD⟩ := q; exact ⟨q0, q1, qP, va_K.moved (u := U) (U := U.calling g mk a) (Vm.Alike.refl U.vm) qK, qD⟩, va_recv hKc hPc (ci := 3) (q0 := 0) rfl rfl, fun U hU hW => ⟨rfl, by rw [hU], by rw [hU]; exact hPc, va_K.moved hW.alike hKc, hDc.weaken (fun _ _ _ _ => trivial)⟩⟩ rfl rfl hl.1 rfl (lv_room (Nat.le_of_ble_eq_true rfl)) dX2_read_55 ⟨Nat.le_of_ble_eq_true rfl, Nat.le_of_ble_eq_true rfl⟩) hS (fun q _ h => hFc q h) hFc (fun u t H1 locs ht hvm hw hB hz1 hk1 hS => ?_)
          obtain ⟨hP1, hK1, hD1⟩ := hB
          rw [ht] at hP1
          have hK1 := va_K.moved hvm.symm hK1
          try dsimp only at hw
          obtain ⟨hP, hD⟩ := va_join (wr := []) (w1 := [(oM, .inr (3, [.int 0, .int mo, .ref oN, .ref oU, .int (nI z), .int th, .int 0, .int md, .int 1, .int p0, .int p0, .int (nI d), .long (U (rFind N p0 z).toNatClampNeg)])), (oN, .inl (cN, 1100, .inl N)), (oU, .inl (cU, 1100, .inr (.inl U)))]) hP hD [0, 1, 2] [] rfl rfl (by decide) (by decide) hk1 hFc hP1 hD1
          generalize H1 = H at hP hS ⊢
          have hP : va_P (dC, dI) vwCl [(oM, .inr (3, [.int 0, .int mo, .ref oN, .ref oU, .int (nI z), .int th, .int 0, .int md, .int 1, .int p0, .int p0, .int (nI d), .long (U (rFind N p0 z).toNatClampNeg)])), (oN, .inl (cN, 1100, .inl N)), (oU, .inl (cU, 1100, .inr (.inl U)))] H := hP.sub [0, 1, 2] rfl
          have hD : va_D A [(oM, .inr (3, [.int 0, .int mo, .ref oN, .ref oU, .int (nI z), .int th, .int 0, .int md, .int 1, .int p0, .int p0, .int (nI d), .long (U (rFind N p0 z).toNatClampNeg)])), (oN, .inl (cN, 1100, .inl N)), (oU, .inl (cU, 1100, .inr (.inl U)))] := hD.sub [0, 1, 2] (by decide) rfl
          have hK : va_K (dC, dI) vwCl [(cN, .int), (cU, .long)] s := hK
          refine lv_iconst (v := 0) hx hb dX2_read_58 (by decide) ?_
          subst hQ9
          have e9 : gRead p0 (co, z, th, en, md, po, pl, la, d, va, N, U) = (0, (0, z, th, 0, md, 1, p0, p0, d, U (rFind N p0 z).toNatClampNeg, N, U)) := by simp only [gRead, if_neg c_1, if_pos b_3, if_neg c_6]
          rw [e9]
          exact W.iret (v := 0) hx hb hr (fun t ht hW => ⟨⟨0, (), rfl, rfl, by rw [ht]; exact hP, va_K.moved hW.alike hK, hD⟩, hS.F ht⟩) hS.2.2 dX2_read_59
        · -- not taken at 47: (rFind N p0 z) = (-1)
          refine lv_bipush (v := 23) hx hb dX2_read_50 (by decide) ?_
          subst hQ9
          have e9 : gRead p0 (co, z, th, en, md, po, pl, la, d, va, N, U) = (23, (0, z, th, 0, md, 3, pl, 0, d, va, N, U)) := by simp only [gRead, if_neg c_1, if_pos b_3, if_pos c_6]
          rw [e9]
          exact W.iret (v := 23) hx hb hr (fun t ht hW => ⟨⟨23, (), rfl, rfl, by rw [ht]; exact hP, va_K.moved hW.alike hK, hD⟩, hS.F ht⟩) hS.2.2 dX2_read_52
      · -- not taken at 20: 1 = 0
        exact absurd c_4 (by decide)
    · -- ¬ (gRd md)
      subst hw
      refine lv_if_ne (tgt := 26) hx hb dX2_read_20 (by decide) (fun c_8 => ?_) (fun c_8 => ?_)
      · -- taken at 20: ¬ 0 = 0
        exact absurd c_8 (by decide)
      · -- not taken at 20: 0 = 0
        refine lv_bipush (v := 47) hx hb dX2_read_23 (by decide) ?_
        subst hQ9
        have e9 : gRead p0 (co, z, th, en, md, po, pl, la, d, va, N, U) = (47, (0, z, th, en, md, po, pl, la, d, va, N, U)) := by simp only [gRead, if_neg c_1, if_neg b_3]
        rw [e9]
        exact W.iret (v := 47) hx hb hr (fun t ht hW => ⟨⟨47, (), rfl, rfl, by rw [ht]; exact hP, va_K.moved hW.alike hK, hD⟩, hS.F ht⟩) hS.2.2 dX2_read_25
  · -- not taken at 10: md = (-1)
    refine lv_bipush (v := 42) hx hb dX2_read_13 (by decide) ?_
    subst hQ9
    have e9 : gRead p0 (co, z, th, en, md, po, pl, la, d, va, N, U) = (42, (0, z, th, en, md, po, pl, la, d, va, N, U)) := by simp only [gRead, if_pos c_1]
    rw [e9]
    exact W.iret (v := 42) hx hb hr (fun t ht hW => ⟨⟨42, (), rfl, rfl, by rw [ht]; exact hP, va_K.moved hW.alike hK, hD⟩, hS.F ht⟩) hS.2.2 dX2_read_15

set_option maxHeartbeats 1000000 in
set_option maxRecDepth 100000 in
theorem kX2_value (l : Launch) (dC : Nat → ClassId) (dI : Nat → Nat → Nat) (oM oN oU : Nat) (cN cU : ClassId) (z d : Nat) (co mo th en md po pl la : Int32) (va : Int64) (N : Nat → Int32) (U : Nat → Int64) (sz : Nat) (hz : z ≤ 1100) : Met l yX2_value wsX2_value ({ frames := 0, cells := 0, slots := 0, locals := 0 }) (va_Pc [.ref oM] (fun U9 => U9.heap.size = sz ∧ va_P (dC, dI) vwCl [(oM, .inr (3, [.int co, .int mo, .ref oN, .ref oU, .int (nI z), .int th, .int en, .int md, .int po, .int pl, .int la, .int (nI d), .long va])), (oN, .inl (cN, 1100, .inl N)), (oU, .inl (cU, 1100, .inr (.inl U)))] U9.heap ∧ va_K (dC, dI) vwCl [(cN, .int), (cU, .long)] U9 ∧ va_D (fun _ => True) [(oM, .inr (3, [.int co, .int mo, .ref oN, .ref oU, .int (nI z), .int th, .int en, .int md, .int po, .int pl, .int la, .int (nI d), .long va])), (oN, .inl (cN, 1100, .inl N)), (oU, .inl (cU, 1100, .inr (.inl U)))])) (va_Ql (fun (r : Int64) (_ : Unit) => r = va) (fun (_ : Unit) (t : State) => va_P (dC, dI) vwCl [(oM, .inr (3, [.int 0, .int mo, .ref oN, .ref oU, .int (nI z), .int th, .int en, .int md, .int po, .int pl, .int la, .int (nI d), .long va])), (oN, .inl (cN, 1100, .inl N)), (oU, .inl (cU, 1100, .inr (.inl U)))] t.heap ∧ va_K (dC, dI) vwCl [(cN, .int), (cU, .long)] t ∧ va_D (va_A [(oM, .inr (3, [.int co, .int mo, .ref oN, .ref oU, .int (nI z), .int th, .int en, .int md, .int po, .int pl, .int la, .int (nI d), .long va])), (oN, .inl (cN, 1100, .inl N)), (oU, .inl (cU, 1100, .inr (.inl U)))] sz) [(oM, .inr (3, [.int 0, .int mo, .ref oN, .ref oU, .int (nI z), .int th, .int en, .int md, .int po, .int pl, .int la, .int (nI d), .long va])), (oN, .inl (cN, 1100, .inl N)), (oU, .inl (cU, 1100, .inr (.inl U)))]) (va_A [(oM, .inr (3, [.int co, .int mo, .ref oN, .ref oU, .int (nI z), .int th, .int en, .int md, .int po, .int pl, .int la, .int (nI d), .long va])), (oN, .inl (cN, 1100, .inl N)), (oU, .inl (cU, 1100, .inr (.inl U)))] sz)) 0 0 (va_A [(oM, .inr (3, [.int co, .int mo, .ref oN, .ref oU, .int (nI z), .int th, .int en, .int md, .int po, .int pl, .int la, .int (nI d), .long va])), (oN, .inl (cN, 1100, .inl N)), (oU, .inl (cU, 1100, .inr (.inl U)))] sz) := by
  refine Met.ofW (cc := cX2_value) (maxL := 1) (ret := (some .long)) (by decide) rfl ?_
  intro p e s m args below meth c s₁ B hml hv
  obtain ⟨rfl, hsz, hP, hK, hD0⟩ := hv
  have hx := B.exec
  have hb := B.bytes
  have hr := B.returns
  have hts := atoms_spec (ws := wsX2_value) B.pre
  have hown : s.vm.findClass RX2 = some m.cls := findClass_of_methodNamed B.named
  have hlocks := B.notSynchronized
  subst hsz
  have hD := hD0.self (sz := s.heap.size)
  generalize hAe : va_A [(oM, .inr (3, [.int co, .int mo, .ref oN, .ref oU, .int (nI z), .int th, .int en, .int md, .int po, .int pl, .int la, .int (nI d), .long va])), (oN, .inl (cN, 1100, .inl N)), (oU, .inl (cU, 1100, .inr (.inl U)))] s.heap.size = A at hD ⊢
  have hA : ∀ q : Nat, s.heap.size ≤ q → A q := fun q h => by rw [← hAe]; exact Or.inr h
  have hS : va_S A s.heap s.heap [] := va_S.rf
  have hP : va_P (dC, dI) vwCl [(oM, .inr (3, [.int co, .int mo, .ref oN, .ref oU, .int (nI z), .int th, .int en, .int md, .int po, .int pl, .int la, .int (nI d), .long va])), (oN, .inl (cN, 1100, .inl N)), (oU, .inl (cU, 1100, .inr (.inl U)))] s.heap := hP
  have hl := lv_entry ([.ref oM]) (n := 1) (Nat.le_of_ble_eq_true rfl)
  rw [lg_entry_eq]
  generalize (lg_sl ([.ref oM]) ++ List.replicate (1 - (lg_sl ([.ref oM])).length) Slot.unset).toArray = ls at hl ⊢
  have hl : lv_has ls 1 [(0, .ref oM)] := hl
  refine W_name (fun Q hQ9 => ?_)
  refine lv_aload_n hx hb dX2_value_0 rfl (lv_at hl 0 rfl) ?_
  refine lv_iconst (v := 0) hx hb dX2_value_1 (by decide) ?_
  refine va_put (D := (dC, dI)) (ci := 3) (v := .int 0) (ty := .int) (C := RX2) (T := TX2) (N := 13) hx hb hts (by decide +kernel) tyX2 tyX2_ok nmX2 hown hK hP hD hS 0 rfl rfl 0 (by decide) (hts (.fieldLink RX2 28 "RelativeFilesModel" "code" "I") (by decide +kernel)) (fun _ h9 => h9) rfl (by decide +kernel) rfl rfl (Nat.le_of_ble_eq_true rfl) dX2_value_2 (fun H locs hP hD hS => ?_)
  have hP : va_P (dC, dI) vwCl [(oM, .inr (3, [.int 0, .int mo, .ref oN, .ref oU, .int (nI z), .int th, .int en, .int md, .int po, .int pl, .int la, .int (nI d), .long va])), (oN, .inl (cN, 1100, .inl N)), (oU, .inl (cU, 1100, .inr (.inl U)))] H := hP
  have hD : va_D A [(oM, .inr (3, [.int 0, .int mo, .ref oN, .ref oU, .int (nI z), .int th, .int en, .int md, .int po, .int pl, .int la, .int (nI d), .long va])), (oN, .inl (cN, 1100, .inl N)), (oU, .inl (cU, 1100, .inr (.inl U)))] := hD
  refine lv_aload_n hx hb dX2_value_5 rfl (lv_at hl 0 rfl) ?_
  refine va_get (D := (dC, dI)) (ci := 3) (v := .long va) (C := RX2) (T := TX2) (N := 13) hx hb hts (by decide +kernel) hown hK hP 0 rfl rfl 12 (by decide) (hts (.fieldLink RX2 49 "RelativeFilesModel" "value" "J") (by decide +kernel)) (fun _ h9 => h9) rfl dX2_value_6 ?_
  subst hQ9
  exact W.lret (v := va) hx hb hr (fun t ht hW => ⟨⟨va, (), rfl, rfl, by rw [ht]; exact hP, va_K.moved hW.alike hK, hD⟩, hS.F ht⟩) hS.2.2 dX2_value_9

set_option maxHeartbeats 1000000 in
set_option maxRecDepth 100000 in
theorem kX2_number (l : Launch) (dC : Nat → ClassId) (dI : Nat → Nat → Nat) (oM oN oU : Nat) (cN cU : ClassId) (z d : Nat) (co mo th en md po pl la : Int32) (va : Int64) (N : Nat → Int32) (U : Nat → Int64) (sz : Nat) (hz : z ≤ 1100) : Met l yX2_number wsX2_number ({ frames := 0, cells := 0, slots := 0, locals := 0 }) (va_Pc [.ref oM] (fun U9 => U9.heap.size = sz ∧ va_P (dC, dI) vwCl [(oM, .inr (3, [.int co, .int mo, .ref oN, .ref oU, .int (nI z), .int th, .int en, .int md, .int po, .int pl, .int la, .int (nI d), .long va])), (oN, .inl (cN, 1100, .inl N)), (oU, .inl (cU, 1100, .inr (.inl U)))] U9.heap ∧ va_K (dC, dI) vwCl [(cN, .int), (cU, .long)] U9 ∧ va_D (fun _ => True) [(oM, .inr (3, [.int co, .int mo, .ref oN, .ref oU, .int (nI z), .int th, .int en, .int md, .int po, .int pl, .int la, .int (nI d), .long va])), (oN, .inl (cN, 1100, .inl N)), (oU, .inl (cU, 1100, .inr (.inl U)))])) (va_Qi (fun (r : Int32) (_ : Unit) => r = la) (fun (_ : Unit) (t : State) => va_P (dC, dI) vwCl [(oM, .inr (3, [.int 0, .int mo, .ref oN, .ref oU, .int (nI z), .int th, .int en, .int md, .int po, .int pl, .int la, .int (nI d), .long va])), (oN, .inl (cN, 1100, .inl N)), (oU, .inl (cU, 1100, .inr (.inl U)))] t.heap ∧ va_K (dC, dI) vwCl [(cN, .int), (cU, .long)] t ∧ va_D (va_A [(oM, .inr (3, [.int co, .int mo, .ref oN, .ref oU, .int (nI z), .int th, .int en, .int md, .int po, .int pl, .int la, .int (nI d), .long va])), (oN, .inl (cN, 1100, .inl N)), (oU, .inl (cU, 1100, .inr (.inl U)))] sz) [(oM, .inr (3, [.int 0, .int mo, .ref oN, .ref oU, .int (nI z), .int th, .int en, .int md, .int po, .int pl, .int la, .int (nI d), .long va])), (oN, .inl (cN, 1100, .inl N)), (oU, .inl (cU, 1100, .inr (.inl U)))]) (va_A [(oM, .inr (3, [.int co, .int mo, .ref oN, .ref oU, .int (nI z), .int th, .int en, .int md, .int po, .int pl, .int la, .int (nI d), .long va])), (oN, .inl (cN, 1100, .inl N)), (oU, .inl (cU, 1100, .inr (.inl U)))] sz)) 0 0 (va_A [(oM, .inr (3, [.int co, .int mo, .ref oN, .ref oU, .int (nI z), .int th, .int en, .int md, .int po, .int pl, .int la, .int (nI d), .long va])), (oN, .inl (cN, 1100, .inl N)), (oU, .inl (cU, 1100, .inr (.inl U)))] sz) := by
  refine Met.ofW (cc := cX2_number) (maxL := 1) (ret := (some .int)) (by decide) rfl ?_
  intro p e s m args below meth c s₁ B hml hv
  obtain ⟨rfl, hsz, hP, hK, hD0⟩ := hv
  have hx := B.exec
  have hb := B.bytes
  have hr := B.returns
  have hts := atoms_spec (ws := wsX2_number) B.pre
  have hown : s.vm.findClass RX2 = some m.cls := findClass_of_methodNamed B.named
  have hlocks := B.notSynchronized
  subst hsz
  have hD := hD0.self (sz := s.heap.size)
  generalize hAe : va_A [(oM, .inr (3, [.int co, .int mo, .ref oN, .ref oU, .int (nI z), .int th, .int en, .int md, .int po, .int pl, .int la, .int (nI d), .long va])), (oN, .inl (cN, 1100, .inl N)), (oU, .inl (cU, 1100, .inr (.inl U)))] s.heap.size = A at hD ⊢
  have hA : ∀ q : Nat, s.heap.size ≤ q → A q := fun q h => by rw [← hAe]; exact Or.inr h
  have hS : va_S A s.heap s.heap [] := va_S.rf
  have hP : va_P (dC, dI) vwCl [(oM, .inr (3, [.int co, .int mo, .ref oN, .ref oU, .int (nI z), .int th, .int en, .int md, .int po, .int pl, .int la, .int (nI d), .long va])), (oN, .inl (cN, 1100, .inl N)), (oU, .inl (cU, 1100, .inr (.inl U)))] s.heap := hP
  have hl := lv_entry ([.ref oM]) (n := 1) (Nat.le_of_ble_eq_true rfl)
  rw [lg_entry_eq]
  generalize (lg_sl ([.ref oM]) ++ List.replicate (1 - (lg_sl ([.ref oM])).length) Slot.unset).toArray = ls at hl ⊢
  have hl : lv_has ls 1 [(0, .ref oM)] := hl
  refine W_name (fun Q hQ9 => ?_)
  refine lv_aload_n hx hb dX2_number_0 rfl (lv_at hl 0 rfl) ?_
  refine lv_iconst (v := 0) hx hb dX2_number_1 (by decide) ?_
  refine va_put (D := (dC, dI)) (ci := 3) (v := .int 0) (ty := .int) (C := RX2) (T := TX2) (N := 13) hx hb hts (by decide +kernel) tyX2 tyX2_ok nmX2 hown hK hP hD hS 0 rfl rfl 0 (by decide) (hts (.fieldLink RX2 28 "RelativeFilesModel" "code" "I") (by decide +kernel)) (fun _ h9 => h9) rfl (by decide +kernel) rfl rfl (Nat.le_of_ble_eq_true rfl) dX2_number_2 (fun H locs hP hD hS => ?_)
  have hP : va_P (dC, dI) vwCl [(oM, .inr (3, [.int 0, .int mo, .ref oN, .ref oU, .int (nI z), .int th, .int en, .int md, .int po, .int pl, .int la, .int (nI d), .long va])), (oN, .inl (cN, 1100, .inl N)), (oU, .inl (cU, 1100, .inr (.inl U)))] H := hP
  have hD : va_D A [(oM, .inr (3, [.int 0, .int mo, .ref oN, .ref oU, .int (nI z), .int th, .int en, .int md, .int po, .int pl, .int la, .int (nI d), .long va])), (oN, .inl (cN, 1100, .inl N)), (oU, .inl (cU, 1100, .inr (.inl U)))] := hD
  refine lv_aload_n hx hb dX2_number_5 rfl (lv_at hl 0 rfl) ?_
  refine va_get (D := (dC, dI)) (ci := 3) (v := .int la) (C := RX2) (T := TX2) (N := 13) hx hb hts (by decide +kernel) hown hK hP 0 rfl rfl 10 (by decide) (hts (.fieldLink RX2 36 "RelativeFilesModel" "last" "I") (by decide +kernel)) (fun _ h9 => h9) rfl dX2_number_6 ?_
  subst hQ9
  exact W.iret (v := la) hx hb hr (fun t ht hW => ⟨⟨la, (), rfl, rfl, by rw [ht]; exact hP, va_K.moved hW.alike hK, hD⟩, hS.F ht⟩) hS.2.2 dX2_number_9

set_option maxHeartbeats 1000000 in
set_option maxRecDepth 100000 in
theorem kX2_records (l : Launch) (dC : Nat → ClassId) (dI : Nat → Nat → Nat) (oM oN oU : Nat) (cN cU : ClassId) (z d : Nat) (co mo th en md po pl la : Int32) (va : Int64) (N : Nat → Int32) (U : Nat → Int64) (sz : Nat) (hz : z ≤ 1100) : Met l yX2_records wsX2_records ({ frames := 0, cells := 0, slots := 0, locals := 0 }) (va_Pc [.ref oM] (fun U9 => U9.heap.size = sz ∧ va_P (dC, dI) vwCl [(oM, .inr (3, [.int co, .int mo, .ref oN, .ref oU, .int (nI z), .int th, .int en, .int md, .int po, .int pl, .int la, .int (nI d), .long va])), (oN, .inl (cN, 1100, .inl N)), (oU, .inl (cU, 1100, .inr (.inl U)))] U9.heap ∧ va_K (dC, dI) vwCl [(cN, .int), (cU, .long)] U9 ∧ va_D (fun _ => True) [(oM, .inr (3, [.int co, .int mo, .ref oN, .ref oU, .int (nI z), .int th, .int en, .int md, .int po, .int pl, .int la, .int (nI d), .long va])), (oN, .inl (cN, 1100, .inl N)), (oU, .inl (cU, 1100, .inr (.inl U)))])) (va_Qi (fun (r : Int32) (_ : Unit) => r = nI z) (fun (_ : Unit) (t : State) => va_P (dC, dI) vwCl [(oM, .inr (3, [.int 0, .int mo, .ref oN, .ref oU, .int (nI z), .int th, .int en, .int md, .int po, .int pl, .int la, .int (nI d), .long va])), (oN, .inl (cN, 1100, .inl N)), (oU, .inl (cU, 1100, .inr (.inl U)))] t.heap ∧ va_K (dC, dI) vwCl [(cN, .int), (cU, .long)] t ∧ va_D (va_A [(oM, .inr (3, [.int co, .int mo, .ref oN, .ref oU, .int (nI z), .int th, .int en, .int md, .int po, .int pl, .int la, .int (nI d), .long va])), (oN, .inl (cN, 1100, .inl N)), (oU, .inl (cU, 1100, .inr (.inl U)))] sz) [(oM, .inr (3, [.int 0, .int mo, .ref oN, .ref oU, .int (nI z), .int th, .int en, .int md, .int po, .int pl, .int la, .int (nI d), .long va])), (oN, .inl (cN, 1100, .inl N)), (oU, .inl (cU, 1100, .inr (.inl U)))]) (va_A [(oM, .inr (3, [.int co, .int mo, .ref oN, .ref oU, .int (nI z), .int th, .int en, .int md, .int po, .int pl, .int la, .int (nI d), .long va])), (oN, .inl (cN, 1100, .inl N)), (oU, .inl (cU, 1100, .inr (.inl U)))] sz)) 0 0 (va_A [(oM, .inr (3, [.int co, .int mo, .ref oN, .ref oU, .int (nI z), .int th, .int en, .int md, .int po, .int pl, .int la, .int (nI d), .long va])), (oN, .inl (cN, 1100, .inl N)), (oU, .inl (cU, 1100, .inr (.inl U)))] sz) := by
  refine Met.ofW (cc := cX2_records) (maxL := 1) (ret := (some .int)) (by decide) rfl ?_
  intro p e s m args below meth c s₁ B hml hv
  obtain ⟨rfl, hsz, hP, hK, hD0⟩ := hv
  have hx := B.exec
  have hb := B.bytes
  have hr := B.returns
  have hts := atoms_spec (ws := wsX2_records) B.pre
  have hown : s.vm.findClass RX2 = some m.cls := findClass_of_methodNamed B.named
  have hlocks := B.notSynchronized
  subst hsz
  have hD := hD0.self (sz := s.heap.size)
  generalize hAe : va_A [(oM, .inr (3, [.int co, .int mo, .ref oN, .ref oU, .int (nI z), .int th, .int en, .int md, .int po, .int pl, .int la, .int (nI d), .long va])), (oN, .inl (cN, 1100, .inl N)), (oU, .inl (cU, 1100, .inr (.inl U)))] s.heap.size = A at hD ⊢
  have hA : ∀ q : Nat, s.heap.size ≤ q → A q := fun q h => by rw [← hAe]; exact Or.inr h
  have hS : va_S A s.heap s.heap [] := va_S.rf
  have hP : va_P (dC, dI) vwCl [(oM, .inr (3, [.int co, .int mo, .ref oN, .ref oU, .int (nI z), .int th, .int en, .int md, .int po, .int pl, .int la, .int (nI d), .long va])), (oN, .inl (cN, 1100, .inl N)), (oU, .inl (cU, 1100, .inr (.inl U)))] s.heap := hP
  have hl := lv_entry ([.ref oM]) (n := 1) (Nat.le_of_ble_eq_true rfl)
  rw [lg_entry_eq]
  generalize (lg_sl ([.ref oM]) ++ List.replicate (1 - (lg_sl ([.ref oM])).length) Slot.unset).toArray = ls at hl ⊢
  have hl : lv_has ls 1 [(0, .ref oM)] := hl
  refine W_name (fun Q hQ9 => ?_)
  refine lv_aload_n hx hb dX2_records_0 rfl (lv_at hl 0 rfl) ?_
  refine lv_iconst (v := 0) hx hb dX2_records_1 (by decide) ?_
  refine va_put (D := (dC, dI)) (ci := 3) (v := .int 0) (ty := .int) (C := RX2) (T := TX2) (N := 13) hx hb hts (by decide +kernel) tyX2 tyX2_ok nmX2 hown hK hP hD hS 0 rfl rfl 0 (by decide) (hts (.fieldLink RX2 28 "RelativeFilesModel" "code" "I") (by decide +kernel)) (fun _ h9 => h9) rfl (by decide +kernel) rfl rfl (Nat.le_of_ble_eq_true rfl) dX2_records_2 (fun H locs hP hD hS => ?_)
  have hP : va_P (dC, dI) vwCl [(oM, .inr (3, [.int 0, .int mo, .ref oN, .ref oU, .int (nI z), .int th, .int en, .int md, .int po, .int pl, .int la, .int (nI d), .long va])), (oN, .inl (cN, 1100, .inl N)), (oU, .inl (cU, 1100, .inr (.inl U)))] H := hP
  have hD : va_D A [(oM, .inr (3, [.int 0, .int mo, .ref oN, .ref oU, .int (nI z), .int th, .int en, .int md, .int po, .int pl, .int la, .int (nI d), .long va])), (oN, .inl (cN, 1100, .inl N)), (oU, .inl (cU, 1100, .inr (.inl U)))] := hD
  refine lv_aload_n hx hb dX2_records_5 rfl (lv_at hl 0 rfl) ?_
  refine va_get (D := (dC, dI)) (ci := 3) (v := .int (nI z)) (C := RX2) (T := TX2) (N := 13) hx hb hts (by decide +kernel) hown hK hP 0 rfl rfl 4 (by decide) (hts (.fieldLink RX2 31 "RelativeFilesModel" "size" "I") (by decide +kernel)) (fun _ h9 => h9) rfl dX2_records_6 ?_
  subst hQ9
  exact W.iret (v := nI z) hx hb hr (fun t ht hW => ⟨⟨nI z, (), rfl, rfl, by rw [ht]; exact hP, va_K.moved hW.alike hK, hD⟩, hS.F ht⟩) hS.2.2 dX2_records_9

set_option maxHeartbeats 1000000 in
set_option maxRecDepth 100000 in
theorem kX2_thrown (l : Launch) (dC : Nat → ClassId) (dI : Nat → Nat → Nat) (oM oN oU : Nat) (cN cU : ClassId) (z d : Nat) (co mo th en md po pl la : Int32) (va : Int64) (N : Nat → Int32) (U : Nat → Int64) (sz : Nat) (hz : z ≤ 1100) : Met l yX2_thrown wsX2_thrown ({ frames := 0, cells := 0, slots := 0, locals := 0 }) (va_Pc [.ref oM] (fun U9 => U9.heap.size = sz ∧ va_P (dC, dI) vwCl [(oM, .inr (3, [.int co, .int mo, .ref oN, .ref oU, .int (nI z), .int th, .int en, .int md, .int po, .int pl, .int la, .int (nI d), .long va])), (oN, .inl (cN, 1100, .inl N)), (oU, .inl (cU, 1100, .inr (.inl U)))] U9.heap ∧ va_K (dC, dI) vwCl [(cN, .int), (cU, .long)] U9 ∧ va_D (fun _ => True) [(oM, .inr (3, [.int co, .int mo, .ref oN, .ref oU, .int (nI z), .int th, .int en, .int md, .int po, .int pl, .int la, .int (nI d), .long va])), (oN, .inl (cN, 1100, .inl N)), (oU, .inl (cU, 1100, .inr (.inl U)))])) (va_Qi (fun (r : Int32) (_ : Unit) => r = co) (fun (_ : Unit) (t : State) => va_P (dC, dI) vwCl [(oM, .inr (3, [.int co, .int mo, .ref oN, .ref oU, .int (nI z), .int th, .int en, .int md, .int po, .int pl, .int la, .int (nI d), .long va])), (oN, .inl (cN, 1100, .inl N)), (oU, .inl (cU, 1100, .inr (.inl U)))] t.heap ∧ va_K (dC, dI) vwCl [(cN, .int), (cU, .long)] t ∧ va_D (va_A [(oM, .inr (3, [.int co, .int mo, .ref oN, .ref oU, .int (nI z), .int th, .int en, .int md, .int po, .int pl, .int la, .int (nI d), .long va])), (oN, .inl (cN, 1100, .inl N)), (oU, .inl (cU, 1100, .inr (.inl U)))] sz) [(oM, .inr (3, [.int co, .int mo, .ref oN, .ref oU, .int (nI z), .int th, .int en, .int md, .int po, .int pl, .int la, .int (nI d), .long va])), (oN, .inl (cN, 1100, .inl N)), (oU, .inl (cU, 1100, .inr (.inl U)))]) (va_A [(oM, .inr (3, [.int co, .int mo, .ref oN, .ref oU, .int (nI z), .int th, .int en, .int md, .int po, .int pl, .int la, .int (nI d), .long va])), (oN, .inl (cN, 1100, .inl N)), (oU, .inl (cU, 1100, .inr (.inl U)))] sz)) 0 0 (va_A [(oM, .inr (3, [.int co, .int mo, .ref oN, .ref oU, .int (nI z), .int th, .int en, .int md, .int po, .int pl, .int la, .int (nI d), .long va])), (oN, .inl (cN, 1100, .inl N)), (oU, .inl (cU, 1100, .inr (.inl U)))] sz) := by
  refine Met.ofW (cc := cX2_thrown) (maxL := 1) (ret := (some .int)) (by decide) rfl ?_
  intro p e s m args below meth c s₁ B hml hv
  obtain ⟨rfl, hsz, hP, hK, hD0⟩ := hv
  have hx := B.exec
  have hb := B.bytes
  have hr := B.returns
  have hts := atoms_spec (ws := wsX2_thrown) B.pre
  have hown : s.vm.findClass RX2 = some m.cls := findClass_of_methodNamed B.named
  have hlocks := B.notSynchronized
  subst hsz
  have hD := hD0.self (sz := s.heap.size)
  generalize hAe : va_A [(oM, .inr (3, [.int co, .int mo, .ref oN, .ref oU, .int (nI z), .int th, .int en, .int md, .int po, .int pl, .int la, .int (nI d), .long va])), (oN, .inl (cN, 1100, .inl N)), (oU, .inl (cU, 1100, .inr (.inl U)))] s.heap.size = A at hD ⊢
  have hA : ∀ q : Nat, s.heap.size ≤ q → A q := fun q h => by rw [← hAe]; exact Or.inr h
  have hS : va_S A s.heap s.heap [] := va_S.rf
  have hP : va_P (dC, dI) vwCl [(oM, .inr (3, [.int co, .int mo, .ref oN, .ref oU, .int (nI z), .int th, .int en, .int md, .int po, .int pl, .int la, .int (nI d), .long va])), (oN, .inl (cN, 1100, .inl N)), (oU, .inl (cU, 1100, .inr (.inl U)))] s.heap := hP
  have hl := lv_entry ([.ref oM]) (n := 1) (Nat.le_of_ble_eq_true rfl)
  rw [lg_entry_eq]
  generalize (lg_sl ([.ref oM]) ++ List.replicate (1 - (lg_sl ([.ref oM])).length) Slot.unset).toArray = ls at hl ⊢
  have hl : lv_has ls 1 [(0, .ref oM)] := hl
  refine W_name (fun Q hQ9 => ?_)
  refine lv_aload_n hx hb dX2_thrown_0 rfl (lv_at hl 0 rfl) ?_
  refine va_get (D := (dC, dI)) (ci := 3) (v := .int co) (C := RX2) (T := TX2) (N := 13) hx hb hts (by decide +kernel) hown hK hP 0 rfl rfl 0 (by decide) (hts (.fieldLink RX2 28 "RelativeFilesModel" "code" "I") (by decide +kernel)) (fun _ h9 => h9) rfl dX2_thrown_1 ?_
  subst hQ9
  exact W.iret (v := co) hx hb hr (fun t ht hW => ⟨⟨co, (), rfl, rfl, by rw [ht]; exact hP, va_K.moved hW.alike hK, hD⟩, hS.F ht⟩) hS.2.2 dX2_thrown_4

set_option maxHeartbeats 1000000 in
set_option maxRecDepth 100000 in
theorem kX2_digits (l : Launch) (dC : Nat → ClassId) (dI : Nat → Nat → Nat) (oM oN oU : Nat) (cN cU : ClassId) (z d : Nat) (co mo th en md po pl la : Int32) (va : Int64) (N : Nat → Int32) (U : Nat → Int64) (p0 : Int32) (sz : Nat) (hz : z ≤ 1100) : Met l yX2_digits wsX2_digits ({ frames := 0, cells := 0, slots := 0, locals := 0 }) (va_Pc [.ref oM, .int p0] (fun U9 => U9.heap.size = sz ∧ va_P (dC, dI) vwCl [(oM, .inr (3, [.int co, .int mo, .ref oN, .ref oU, .int (nI z), .int th, .int en, .int md, .int po, .int pl, .int la, .int (nI d), .long va])), (oN, .inl (cN, 1100, .inl N)), (oU, .inl (cU, 1100, .inr (.inl U)))] U9.heap ∧ va_K (dC, dI) vwCl [(cN, .int), (cU, .long)] U9 ∧ va_D (fun _ => True) [(oM, .inr (3, [.int co, .int mo, .ref oN, .ref oU, .int (nI z), .int th, .int en, .int md, .int po, .int pl, .int la, .int (nI d), .long va])), (oN, .inl (cN, 1100, .inl N)), (oU, .inl (cU, 1100, .inr (.inl U)))])) (va_Qi (fun (r : Int32) (_ : Unit) => r = (gDig p0 (co, z, th, en, md, po, pl, la, d, va, N, U)).1) (fun (_ : Unit) (t : State) => va_P (dC, dI) vwCl (wM oM oN oU cN cU mo (gDig p0 (co, z, th, en, md, po, pl, la, d, va, N, U)).2) t.heap ∧ va_K (dC, dI) vwCl [(cN, .int), (cU, .long)] t ∧ va_D (va_A [(oM, .inr (3, [.int co, .int mo, .ref oN, .ref oU, .int (nI z), .int th, .int en, .int md, .int po, .int pl, .int la, .int (nI d), .long va])), (oN, .inl (cN, 1100, .inl N)), (oU, .inl (cU, 1100, .inr (.inl U)))] sz) (wM oM oN oU cN cU mo (gDig p0 (co, z, th, en, md, po, pl, la, d, va, N, U)).2)) (va_A [(oM, .inr (3, [.int co, .int mo, .ref oN, .ref oU, .int (nI z), .int th, .int en, .int md, .int po, .int pl, .int la, .int (nI d), .long va])), (oN, .inl (cN, 1100, .inl N)), (oU, .inl (cU, 1100, .inr (.inl U)))] sz)) 0 0 (va_A [(oM, .inr (3, [.int co, .int mo, .ref oN, .ref oU, .int (nI z), .int th, .int en, .int md, .int po, .int pl, .int la, .int (nI d), .long va])), (oN, .inl (cN, 1100, .inl N)), (oU, .inl (cU, 1100, .inr (.inl U)))] sz) := by
  refine Met.ofW (cc := cX2_digits) (maxL := 3) (ret := (some .int)) (by decide) rfl ?_
  intro p e s m args below meth c s₁ B hml hv
  obtain ⟨rfl, hsz, hP, hK, hD0⟩ := hv
  have hx := B.exec
  have hb := B.bytes
  have hr := B.returns
  have hts := atoms_spec (ws := wsX2_digits) B.pre
  have hown : s.vm.findClass RX2 = some m.cls := findClass_of_methodNamed B.named
  have hlocks := B.notSynchronized
  subst hsz
  have hD := hD0.self (sz := s.heap.size)
  generalize hAe : va_A [(oM, .inr (3, [.int co, .int mo, .ref oN, .ref oU, .int (nI z), .int th, .int en, .int md, .int po, .int pl, .int la, .int (nI d), .long va])), (oN, .inl (cN, 1100, .inl N)), (oU, .inl (cU, 1100, .inr (.inl U)))] s.heap.size = A at hD ⊢
  have hA : ∀ q : Nat, s.heap.size ≤ q → A q := fun q h => by rw [← hAe]; exact Or.inr h
  have hS : va_S A s.heap s.heap [] := va_S.rf
  have hP : va_P (dC, dI) vwCl [(oM, .inr (3, [.int co, .int mo, .ref oN, .ref oU, .int (nI z), .int th, .int en, .int md, .int po, .int pl, .int la, .int (nI d), .long va])), (oN, .inl (cN, 1100, .inl N)), (oU, .inl (cU, 1100, .inr (.inl U)))] s.heap := hP
  have hl := lv_entry ([.ref oM, .int p0]) (n := 3) (Nat.le_of_ble_eq_true rfl)
  rw [lg_entry_eq]
  generalize (lg_sl ([.ref oM, .int p0]) ++ List.replicate (3 - (lg_sl ([.ref oM, .int p0])).length) Slot.unset).toArray = ls at hl ⊢
  have hl : lv_has ls 3 [(0, .ref oM), (1, .int p0)] := hl
  refine W_name (fun Q hQ9 => ?_)
  refine lv_aload_n hx hb dX2_digits_0 rfl (lv_at hl 0 rfl) ?_
  refine lv_iconst (v := 0) hx hb dX2_digits_1 (by decide) ?_
  refine va_put (D := (dC, dI)) (ci := 3) (v := .int 0) (ty := .int) (C := RX2) (T := TX2) (N := 13) hx hb hts (by decide +kernel) tyX2 tyX2_ok nmX2 hown hK hP hD hS 0 rfl rfl 0 (by decide) (hts (.fieldLink RX2 28 "RelativeFilesModel" "code" "I") (by decide +kernel)) (fun _ h9 => h9) rfl (by decide +kernel) rfl rfl (Nat.le_of_ble_eq_true rfl) dX2_digits_2 (fun H locs hP hD hS => ?_)
  have hP : va_P (dC, dI) vwCl [(oM, .inr (3, [.int 0, .int mo, .ref oN, .ref oU, .int (nI z), .int th, .int en, .int md, .int po, .int pl, .int la, .int (nI d), .long va])), (oN, .inl (cN, 1100, .inl N)), (oU, .inl (cU, 1100, .inr (.inl U)))] H := hP
  have hD : va_D A [(oM, .inr (3, [.int 0, .int mo, .ref oN, .ref oU, .int (nI z), .int th, .int en, .int md, .int po, .int pl, .int la, .int (nI d), .long va])), (oN, .inl (cN, 1100, .inl N)), (oU, .inl (cU, 1100, .inr (.inl U)))] := hD
  refine lv_iload_n hx hb dX2_digits_5 rfl (lv_at hl 1 rfl) ?_
  refine lv_iconst (v := 1) hx hb dX2_digits_6 (by decide) ?_
  refine lv_icmp_lt (tgt := 16) hx hb dX2_digits_7 (by decide) (fun c_1 => ?_) (fun c_1 => ?_)
  · -- taken at 7: p0 < 1
    refine lv_iconst (v := (-1)) hx hb dX2_digits_16 (by decide) ?_
    subst hQ9
    have e9 : gDig p0 (co, z, th, en, md, po, pl, la, d, va, N, U) = (-1, (0, z, th, en, md, po, pl, la, d, va, N, U)) := by simp only [gDig, if_pos c_1]
    rw [e9]
    exact W.iret (v := (-1)) hx hb hr (fun t ht hW => ⟨⟨(-1), (), rfl, rfl, by rw [ht]; exact hP, va_K.moved hW.alike hK, hD⟩, hS.F ht⟩) hS.2.2 dX2_digits_17
  · -- not taken at 7: ¬ p0 < 1
    refine lv_iload_n hx hb dX2_digits_10 rfl (lv_at hl 1 rfl) ?_
    refine lv_bipush (v := 9) hx hb dX2_digits_11 (by decide) ?_
    refine lv_icmp_le (tgt := 18) hx hb dX2_digits_13 (by decide) (fun c_2 => ?_) (fun c_2 => ?_)
    · -- taken at 13: p0 ≤ 9
      obtain ⟨d2, hd2, rfl⟩ : ∃ j : Nat, j < 2 ^ 31 ∧ p0 = nI j := nI_of (fun q => c_1 (by rw [Int32.lt_iff_toInt_lt] at q ⊢; have e1 : (1 : Int32).toInt = 1 := rfl; have e0 : (0 : Int32).toInt = 0 := rfl; omega))
      refine lv_aload_n hx hb dX2_digits_18 rfl (lv_at hl 0 rfl) ?_
      refine va_get (D := (dC, dI)) (ci := 3) (v := .int (nI d)) (C := RX2) (T := TX2) (N := 13) hx hb hts (by decide +kernel) hown hK hP 0 rfl rfl 11 (by decide) (hts (.fieldLink RX2 21 "RelativeFilesModel" "digits" "I") (by decide +kernel)) (fun _ h9 => h9) rfl dX2_digits_19 ?_
      refine lv_istore_n (lv' := [(2, .int (nI d)), (0, .ref oM), (1, .int (nI d2))]) hx hb dX2_digits_22 rfl hl (by decide) rfl (fun ls hl => ?_)
      refine lv_aload_n hx hb dX2_digits_23 rfl (lv_at hl 1 rfl) ?_
      refine lv_iload_n hx hb dX2_digits_24 rfl (lv_at hl 2 rfl) ?_
      refine va_put (D := (dC, dI)) (ci := 3) (v := .int (nI d2)) (ty := .int) (C := RX2) (T := TX2) (N := 13) hx hb hts (by decide +kernel) tyX2 tyX2_ok nmX2 hown hK hP hD hS 0 rfl rfl 11 (by decide) (hts (.fieldLink RX2 21 "RelativeFilesModel" "digits" "I") (by decide +kernel)) (fun _ h9 => h9) rfl (by decide +kernel) rfl rfl (Nat.le_of_ble_eq_true rfl) dX2_digits_25 (fun H locs hP hD hS => ?_)
      have hP : va_P (dC, dI) vwCl [(oM, .inr (3, [.int 0, .int mo, .ref oN, .ref oU, .int (nI z), .int th, .int en, .int md, .int po, .int pl, .int la, .int (nI d2), .long va])), (oN, .inl (cN, 1100, .inl N)), (oU, .inl (cU, 1100, .inr (.inl U)))] H := hP
      have hD : va_D A [(oM, .inr (3, [.int 0, .int mo, .ref oN, .ref oU, .int (nI z), .int th, .int en, .int md, .int po, .int pl, .int la, .int (nI d2), .long va])), (oN, .inl (cN, 1100, .inl N)), (oU, .inl (cU, 1100, .inr (.inl U)))] := hD
      refine lv_iload_n hx hb dX2_digits_28 rfl (lv_at hl 0 rfl) ?_
      subst hQ9
      have e9 : gDig (nI d2) (co, z, th, en, md, po, pl, la, d, va, N, U) = (nI d, (0, z, th, en, md, po, pl, la, d2, va, N, U)) := by simp only [gDig, if_neg c_1, if_pos c_2, nI_clamp hd2]
      rw [e9]
      exact W.iret (v := nI d) hx hb hr (fun t ht hW => ⟨⟨nI d, (), rfl, rfl, by rw [ht]; exact hP, va_K.moved hW.alike hK, hD⟩, hS.F ht⟩) hS.2.2 dX2_digits_29
    · -- not taken at 13: ¬ p0 ≤ 9
      refine lv_iconst (v := (-1)) hx hb dX2_digits_16 (by decide) ?_
      subst hQ9
      have e9 : gDig p0 (co, z, th, en, md, po, pl, la, d, va, N, U) = (-1, (0, z, th, en, md, po, pl, la, d, va, N, U)) := by simp only [gDig, if_neg c_1, if_neg c_2]
      rw [e9]
      exact W.iret (v := (-1)) hx hb hr (fun t ht hW => ⟨⟨(-1), (), rfl, rfl, by rw [ht]; exact hP, va_K.moved hW.alike hK, hD⟩, hS.F ht⟩) hS.2.2 dX2_digits_17

set_option maxHeartbeats 1000000 in
set_option maxRecDepth 100000 in
theorem kX2_count (l : Launch) (dC : Nat → ClassId) (dI : Nat → Nat → Nat) (oM oN oU : Nat) (cN cU : ClassId) (z d : Nat) (co mo th en md po pl la : Int32) (va : Int64) (N : Nat → Int32) (U : Nat → Int64) (p0 : Int32) (sz : Nat) (hz : z ≤ 1100) : Met l yX2_count wsX2_count ({ frames := 1, cells := 0, slots := 0, locals := 24 }) (va_Pc [.ref oM, .int p0] (fun U9 => U9.heap.size = sz ∧ va_P (dC, dI) vwCl [(oM, .inr (3, [.int co, .int mo, .ref oN, .ref oU, .int (nI z), .int th, .int en, .int md, .int po, .int pl, .int la, .int (nI d), .long va])), (oN, .inl (cN, 1100, .inl N)), (oU, .inl (cU, 1100, .inr (.inl U)))] U9.heap ∧ va_K (dC, dI) vwCl [(cN, .int), (cU, .long)] U9 ∧ va_D (fun _ => True) [(oM, .inr (3, [.int co, .int mo, .ref oN, .ref oU, .int (nI z), .int th, .int en, .int md, .int po, .int pl, .int la, .int (nI d), .long va])), (oN, .inl (cN, 1100, .inl N)), (oU, .inl (cU, 1100, .inr (.inl U)))])) (va_Qi (fun (r : Int32) (_ : Unit) => r = gCount mo p0 (co, z, th, en, md, po, pl, la, d, va, N, U)) (fun (_ : Unit) (t : State) => va_P (dC, dI) vwCl [(oM, .inr (3, [.int 0, .int mo, .ref oN, .ref oU, .int (nI z), .int th, .int en, .int md, .int po, .int pl, .int la, .int (nI d), .long va])), (oN, .inl (cN, 1100, .inl N)), (oU, .inl (cU, 1100, .inr (.inl U)))] t.heap ∧ va_K (dC, dI) vwCl [(cN, .int), (cU, .long)] t ∧ va_D (va_A [(oM, .inr (3, [.int co, .int mo, .ref oN, .ref oU, .int (nI z), .int th, .int en, .int md, .int po, .int pl, .int la, .int (nI d), .long va])), (oN, .inl (cN, 1100, .inl N)), (oU, .inl (cU, 1100, .inr (.inl U)))] sz) [(oM, .inr (3, [.int 0, .int mo, .ref oN, .ref oU, .int (nI z), .int th, .int en, .int md, .int po, .int pl, .int la, .int (nI d), .long va])), (oN, .inl (cN, 1100, .inl N)), (oU, .inl (cU, 1100, .inr (.inl U)))]) (va_A [(oM, .inr (3, [.int co, .int mo, .ref oN, .ref oU, .int (nI z), .int th, .int en, .int md, .int po, .int pl, .int la, .int (nI d), .long va])), (oN, .inl (cN, 1100, .inl N)), (oU, .inl (cU, 1100, .inr (.inl U)))] sz)) 0 0 (va_A [(oM, .inr (3, [.int co, .int mo, .ref oN, .ref oU, .int (nI z), .int th, .int en, .int md, .int po, .int pl, .int la, .int (nI d), .long va])), (oN, .inl (cN, 1100, .inl N)), (oU, .inl (cU, 1100, .inr (.inl U)))] sz) := by
  refine Met.ofW (cc := cX2_count) (maxL := 2) (ret := (some .int)) (by decide) rfl ?_
  intro p e s m args below meth c s₁ B hml hv
  obtain ⟨rfl, hsz, hP, hK, hD0⟩ := hv
  have hx := B.exec
  have hb := B.bytes
  have hr := B.returns
  have hts := atoms_spec (ws := wsX2_count) B.pre
  have hown : s.vm.findClass RX2 = some m.cls := findClass_of_methodNamed B.named
  have hlocks := B.notSynchronized
  subst hsz
  have hD := hD0.self (sz := s.heap.size)
  generalize hAe : va_A [(oM, .inr (3, [.int co, .int mo, .ref oN, .ref oU, .int (nI z), .int th, .int en, .int md, .int po, .int pl, .int la, .int (nI d), .long va])), (oN, .inl (cN, 1100, .inl N)), (oU, .inl (cU, 1100, .inr (.inl U)))] s.heap.size = A at hD ⊢
  have hA : ∀ q : Nat, s.heap.size ≤ q → A q := fun q h => by rw [← hAe]; exact Or.inr h
  have hS : va_S A s.heap s.heap [] := va_S.rf
  have hP : va_P (dC, dI) vwCl [(oM, .inr (3, [.int co, .int mo, .ref oN, .ref oU, .int (nI z), .int th, .int en, .int md, .int po, .int pl, .int la, .int (nI d), .long va])), (oN, .inl (cN, 1100, .inl N)), (oU, .inl (cU, 1100, .inr (.inl U)))] s.heap := hP
  have hl := lv_entry ([.ref oM, .int p0]) (n := 2) (Nat.le_of_ble_eq_true rfl)
  rw [lg_entry_eq]
  generalize (lg_sl ([.ref oM, .int p0]) ++ List.replicate (2 - (lg_sl ([.ref oM, .int p0])).length) Slot.unset).toArray = ls at hl ⊢
  have hl : lv_has ls 2 [(0, .ref oM), (1, .int p0)] := hl
  refine W_name (fun Q hQ9 => ?_)
  refine lv_aload_n hx hb dX2_count_0 rfl (lv_at hl 0 rfl) ?_
  refine lv_iconst (v := 0) hx hb dX2_count_1 (by decide) ?_
  refine va_put (D := (dC, dI)) (ci := 3) (v := .int 0) (ty := .int) (C := RX2) (T := TX2) (N := 13) hx hb hts (by decide +kernel) tyX2 tyX2_ok nmX2 hown hK hP hD hS 0 rfl rfl 0 (by decide) (hts (.fieldLink RX2 28 "RelativeFilesModel" "code" "I") (by decide +kernel)) (fun _ h9 => h9) rfl (by decide +kernel) rfl rfl (Nat.le_of_ble_eq_true rfl) dX2_count_2 (fun H locs hP hD hS => ?_)
  have hP : va_P (dC, dI) vwCl [(oM, .inr (3, [.int 0, .int mo, .ref oN, .ref oU, .int (nI z), .int th, .int en, .int md, .int po, .int pl, .int la, .int (nI d), .long va])), (oN, .inl (cN, 1100, .inl N)), (oU, .inl (cU, 1100, .inr (.inl U)))] H := hP
  have hD : va_D A [(oM, .inr (3, [.int 0, .int mo, .ref oN, .ref oU, .int (nI z), .int th, .int en, .int md, .int po, .int pl, .int la, .int (nI d), .long va])), (oN, .inl (cN, 1100, .inl N)), (oU, .inl (cU, 1100, .inr (.inl U)))] := hD
  refine lv_iload_n hx hb dX2_count_5 rfl (lv_at hl 1 rfl) ?_
  by_cases s_1 : p0 = 0
  · -- case 0
    refine lv_tableIn (tgt := 40) hx hb dX2_count_6 (by rw [s_1]; decide) (by rw [s_1]; decide) (by rw [s_1]; rfl) (by decide) ?_
    refine lv_aload_n hx hb dX2_count_40 rfl (lv_at hl 0 rfl) ?_
    refine va_get (D := (dC, dI)) (ci := 3) (v := .int mo) (C := RX2) (T := TX2) (N := 13) hx hb hts (by decide +kernel) hown hK hP 0 rfl rfl 1 (by decide) (hts (.fieldLink RX2 25 "RelativeFilesModel" "most" "I") (by decide +kernel)) (fun _ h9 => h9) rfl dX2_count_41 ?_
    subst hQ9
    have e9 : gCount mo p0 (co, z, th, en, md, po, pl, la, d, va, N, U) = mo := by simp only [gCount, if_pos s_1]
    rw [e9]
    exact W.iret (v := mo) hx hb hr (fun t ht hW => ⟨⟨mo, (), rfl, rfl, by rw [ht]; exact hP, va_K.moved hW.alike hK, hD⟩, hS.F ht⟩) hS.2.2 dX2_count_44
  by_cases s_2 : p0 = 1
  · -- case 1
    refine lv_tableIn (tgt := 45) hx hb dX2_count_6 (by rw [s_2]; decide) (by rw [s_2]; decide) (by rw [s_2]; rfl) (by decide) ?_
    refine lv_aload_n hx hb dX2_count_45 rfl (lv_at hl 0 rfl) ?_
    refine va_get (D := (dC, dI)) (ci := 3) (v := .int th) (C := RX2) (T := TX2) (N := 13) hx hb hts (by decide +kernel) hown hK hP 0 rfl rfl 5 (by decide) (hts (.fieldLink RX2 39 "RelativeFilesModel" "there" "Z") (by decide +kernel)) (fun _ h9 => h9) rfl dX2_count_46 ?_
    refine lv_if_eq (tgt := 56) hx hb dX2_count_49 (by decide) (fun c_3 => ?_) (fun c_3 => ?_)
    · -- taken at 49: th = 0
      refine lv_iconst (v := 0) hx hb dX2_count_56 (by decide) ?_
      subst hQ9
      have e9 : gCount mo p0 (co, z, th, en, md, po, pl, la, d, va, N, U) = 0 := by simp only [gCount, if_neg s_1, if_pos s_2, if_pos c_3]
      rw [e9]
      exact W.iret (v := 0) hx hb hr (fun t ht hW => ⟨⟨0, (), rfl, rfl, by rw [ht]; exact hP, va_K.moved hW.alike hK, hD⟩, hS.F ht⟩) hS.2.2 dX2_count_57
    · -- not taken at 49: ¬ th = 0
      refine lv_iconst (v := 1) hx hb dX2_count_52 (by decide) ?_
      refine lv_goto (tgt := 57) hx hb dX2_count_53 (by decide) ?_
      subst hQ9
      have e9 : gCount mo p0 (co, z, th, en, md, po, pl, la, d, va, N, U) = 1 := by simp only [gCount, if_neg s_1, if_pos s_2, if_neg c_3]
      rw [e9]
      exact W.iret (v := 1) hx hb hr (fun t ht hW => ⟨⟨1, (), rfl, rfl, by rw [ht]; exact hP, va_K.moved hW.alike hK, hD⟩, hS.F ht⟩) hS.2.2 dX2_count_57
  by_cases s_4 : p0 = 2
  · -- case 2
    refine lv_tableIn (tgt := 58) hx hb dX2_count_6 (by rw [s_4]; decide) (by rw [s_4]; decide) (by rw [s_4]; rfl) (by decide) ?_
    refine lv_aload_n hx hb dX2_count_58 rfl (lv_at hl 0 rfl) ?_
    refine va_get (D := (dC, dI)) (ci := 3) (v := .int md) (C := RX2) (T := TX2) (N := 13) hx hb hts (by decide +kernel) hown hK hP 0 rfl rfl 7 (by decide) (hts (.fieldLink RX2 17 "RelativeFilesModel" "mode" "I") (by decide +kernel)) (fun _ h9 => h9) rfl dX2_count_59 ?_
    subst hQ9
    have e9 : gCount mo p0 (co, z, th, en, md, po, pl, la, d, va, N, U) = md := by simp only [gCount, if_neg s_1, if_neg s_2, if_pos s_4]
    rw [e9]
    exact W.iret (v := md) hx hb hr (fun t ht hW => ⟨⟨md, (), rfl, rfl, by rw [ht]; exact hP, va_K.moved hW.alike hK, hD⟩, hS.F ht⟩) hS.2.2 dX2_count_62
  by_cases s_5 : p0 = 3
  · -- case 3
    refine lv_tableIn (tgt := 63) hx hb dX2_count_6 (by rw [s_5]; decide) (by rw [s_5]; decide) (by rw [s_5]; rfl) (by decide) ?_
    refine lv_aload_n hx hb dX2_count_63 rfl (lv_at hl 0 rfl) ?_
    refine lv_aload_n hx hb dX2_count_64 rfl (lv_at hl 0 rfl) ?_
    refine va_get (D := (dC, dI)) (ci := 3) (v := .int mo) (C := RX2) (T := TX2) (N := 13) hx hb hts (by decide +kernel) hown hK hP 0 rfl rfl 1 (by decide) (hts (.fieldLink RX2 25 "RelativeFilesModel" "most" "I") (by decide +kernel)) (fun _ h9 => h9) rfl dX2_count_65 ?_
    refine lv_i2l (v := mo.toInt64) hx hb dX2_count_68 rfl ?_
    have hPc := hP.sub (ws' := [(oM, .inr (3, [.int 0, .int mo, .ref oN, .ref oU, .int (nI z), .int th, .int en, .int md, .int po, .int pl, .int la, .int (nI d), .long va])), (oN, .inl (cN, 1100, .inl N)), (oU, .inl (cU, 1100, .inr (.inl U)))]) [0, 1, 2] rfl
    have hDc := hD.sub (ws' := [(oM, .inr (3, [.int 0, .int mo, .ref oN, .ref oU, .int (nI z), .int th, .int en, .int md, .int po, .int pl, .int la, .int (nI d), .long va])), (oN, .inl (cN, 1100, .inl N)), (oU, .inl (cU, 1100, .inr (.inl U)))]) [0, 1, 2] (by decide) rfl
    have hKc := hK.sub (tys' := [(cN, .int), (cU, .long)]) [0, 1] rfl
    have hFc := va_free (wc := [(oM, .inr (3, [.int 0, .int mo, .ref oN, .ref oU, .int (nI z), .int th, .int en, .int md, .int po, .int pl, .int la, .int (nI d), .long va])), (oN, .inl (cN, 1100, .inl N)), (oU, .inl (cU, 1100, .inr (.inl U)))]) hD hS hA [0, 1, 2] rfl
    refine va_calli (va_runV (As := [.long mo.toInt64]) (rest := []) ⟨hx, hb, hml, hown, hts⟩ (kX2_upTo l dC dI oM oN oU cN cU z d 0 mo th en md po pl la va N U mo.toInt64 H.size hz) (cwV 1 hts gX2_count_X2_upTo rfl rfl rfl (by decide +kernel) ⟨Nat.le_of_ble_eq_true rfl, Nat.le_of_ble_eq_true rfl⟩) ⟨fun a U g mk q => by obtain ⟨q0, q1, qP, qK, qD⟩ := q; exact ⟨q0, q1, qP, va_K.moved (u := U) (U := U.calling g mk a) (Vm.Alike.refl U.vm) qK, qD⟩, va_recv hKc hPc (ci := 3) (q0 := 0) rfl rfl, fun U hU hW => ⟨rfl, by rw [hU], by rw [hU]; exact hPc, va_K.moved hW.alike hKc, hDc.weaken (fun _ _ _ _ => trivial)⟩⟩ rfl rfl hl.1 rfl (lv_room (Nat.le_of_ble_eq_true rfl)) dX2_count_69 ⟨Nat.le_of_ble_eq_true rfl, Nat.le_of_ble_eq_true rfl⟩) hS (fun q _ h => hFc q h) hFc (fun r_6 u t H1 locs ht hvm hw hB hz1 hk1 hS => ?_)
    obtain ⟨hP1, hK1, hD1⟩ := hB
    rw [ht] at hP1
    have hK1 := va_K.moved hvm.symm hK1
    try dsimp only at hw
    obtain ⟨hP, hD⟩ := va_join (wr := []) (w1 := [(oM, .inr (3, [.int 0, .int mo, .ref oN, .ref oU, .int (nI z), .int th, .int en, .int md, .int po, .int pl, .int la, .int (nI d), .long va])), (oN, .inl (cN, 1100, .inl N)), (oU, .inl (cU, 1100, .inr (.inl U)))]) hP hD [0, 1, 2] [] rfl rfl (by decide) (by decide) hk1 hFc hP1 hD1
    generalize H1 = H at hP hS ⊢
    have hP : va_P (dC, dI) vwCl [(oM, .inr (3, [.int 0, .int mo, .ref oN, .ref oU, .int (nI z), .int th, .int en, .int md, .int po, .int pl, .int la, .int (nI d), .long va])), (oN, .inl (cN, 1100, .inl N)), (oU, .inl (cU, 1100, .inr (.inl U)))] H := hP.sub [0, 1, 2] rfl
    have hD : va_D A [(oM, .inr (3, [.int 0, .int mo, .ref oN, .ref oU, .int (nI z), .int th, .int en, .int md, .int po, .int pl, .int la, .int (nI d), .long va])), (oN, .inl (cN, 1100, .inl N)), (oU, .inl (cU, 1100, .inr (.inl U)))] := hD.sub [0, 1, 2] (by decide) rfl
    have hK : va_K (dC, dI) vwCl [(cN, .int), (cU, .long)] s := hK
    subst hw
    subst hQ9
    have e9 : gCount mo p0 (co, z, th, en, md, po, pl, la, d, va, N, U) = gUpTo N mo.toInt64 z := by simp only [gCount, if_neg s_1, if_neg s_2, if_neg s_4, if_pos s_5]
    rw [e9]
    exact W.iret (v := gUpTo N mo.toInt64 z) hx hb hr (fun t ht hW => ⟨⟨gUpTo N mo.toInt64 z, (), rfl, rfl, by rw [ht]; exact hP, va_K.moved hW.alike hK, hD⟩, hS.F ht⟩) hS.2.2 dX2_count_72
  by_cases s_7 : p0 = 4
  · -- case 4
    refine lv_tableIn (tgt := 73) hx hb dX2_count_6 (by rw [s_7]; decide) (by rw [s_7]; decide) (by rw [s_7]; rfl) (by decide) ?_
    refine lv_aload_n hx hb dX2_count_73 rfl (lv_at hl 0 rfl) ?_
    refine lv_lconst (v := 1) hx hb dX2_count_74 (by decide) ?_
    have hPc := hP.sub (ws' := [(oM, .inr (3, [.int 0, .int mo, .ref oN, .ref oU, .int (nI z), .int th, .int en, .int md, .int po, .int pl, .int la, .int (nI d), .long va])), (oN, .inl (cN, 1100, .inl N)), (oU, .inl (cU, 1100, .inr (.inl U)))]) [0, 1, 2] rfl
    have hDc := hD.sub (ws' := [(oM, .inr (3, [.int 0, .int mo, .ref oN, .ref oU, .int (nI z), .int th, .int en, .int md, .int po, .int pl, .int la, .int (nI d), .long va])), (oN, .inl (cN, 1100, .inl N)), (oU, .inl (cU, 1100, .inr (.inl U)))]) [0, 1, 2] (by decide) rfl
    have hKc := hK.sub (tys' := [(cN, .int), (cU, .long)]) [0, 1] rfl
    have hFc := va_free (wc := [(oM, .inr (3, [.int 0, .int mo, .ref oN, .ref oU, .int (nI z), .int th, .int en, .int md, .int po, .int pl, .int la, .int (nI d), .long va])), (oN, .inl (cN, 1100, .inl N)), (oU, .inl (cU, 1100, .inr (.inl U)))]) hD hS hA [0, 1, 2] rfl
    refine va_calli (va_runV (As := [.long 1]) (rest := []) ⟨hx, hb, hml, hown, hts⟩ (kX2_from l dC dI oM oN oU cN cU z d 0 mo th en md po pl la va N U 1 H.size hz) (cwV 1 hts gX2_count_X2_from rfl rfl rfl (by decide +kernel) ⟨Nat.le_of_ble_eq_true rfl, Nat.le_of_ble_eq_true rfl⟩) ⟨fun a U g mk q => by obtain ⟨q0, q1, qP, qK, qD⟩ := q; exact ⟨q0, q1, qP, va_K.moved (u := U) (U := U.calling g mk a) (Vm.Alike.refl U.vm) qK, qD⟩, va_recv hKc hPc (ci := 3) (q0 := 0) rfl rfl, fun U hU hW => ⟨rfl, by rw [hU], by rw [hU]; exact hPc, va_K.moved hW.alike hKc, hDc.weaken (fun _ _ _ _ => trivial)⟩⟩ rfl rfl hl.1 rfl (lv_room (Nat.le_of_ble_eq_true rfl)) dX2_count_75 ⟨Nat.le_of_ble_eq_true rfl, Nat.le_of_ble_eq_true rfl⟩) hS (fun q _ h => hFc q h) hFc (fun r_8 u t H1 locs ht hvm hw hB hz1 hk1 hS => ?_)
    obtain ⟨hP1, hK1, hD1⟩ := hB
    rw [ht] at hP1
    have hK1 := va_K.moved hvm.symm hK1
    try dsimp only at hw
    obtain ⟨hP, hD⟩ := va_join (wr := []) (w1 := [(oM, .inr (3, [.int 0, .int mo, .ref oN, .ref oU, .int (nI z), .int th, .int en, .int md, .int po, .int pl, .int la, .int (nI d), .long va])), (oN, .inl (cN, 1100, .inl N)), (oU, .inl (cU, 1100, .inr (.inl U)))]) hP hD [0, 1, 2] [] rfl rfl (by decide) (by decide) hk1 hFc hP1 hD1
    generalize H1 = H at hP hS ⊢
    have hP : va_P (dC, dI) vwCl [(oM, .inr (3, [.int 0, .int mo, .ref oN, .ref oU, .int (nI z), .int th, .int en, .int md, .int po, .int pl, .int la, .int (nI d), .long va])), (oN, .inl (cN, 1100, .inl N)), (oU, .inl (cU, 1100, .inr (.inl U)))] H := hP.sub [0, 1, 2] rfl
    have hD : va_D A [(oM, .inr (3, [.int 0, .int mo, .ref oN, .ref oU, .int (nI z), .int th, .int en, .int md, .int po, .int pl, .int la, .int (nI d), .long va])), (oN, .inl (cN, 1100, .inl N)), (oU, .inl (cU, 1100, .inr (.inl U)))] := hD.sub [0, 1, 2] (by decide) rfl
    have hK : va_K (dC, dI) vwCl [(cN, .int), (cU, .long)] s := hK
    subst hw
    subst hQ9
    have e9 : gCount mo p0 (co, z, th, en, md, po, pl, la, d, va, N, U) = gFrom N 1 z := by simp only [gCount, if_neg s_1, if_neg s_2, if_neg s_4, if_neg s_5, if_pos s_7]
    rw [e9]
    exact W.iret (v := gFrom N 1 z) hx hb hr (fun t ht hW => ⟨⟨gFrom N 1 z, (), rfl, rfl, by rw [ht]; exact hP, va_K.moved hW.alike hK, hD⟩, hS.F ht⟩) hS.2.2 dX2_count_78
  refine lv_tableOut (tgt := 79) hx hb dX2_count_6 (sw_out4 s_1 s_2 s_4 s_5 s_7) (by decide) ?_
  refine lv_iconst (v := (-1)) hx hb dX2_count_79 (by decide) ?_
  subst hQ9
  have e9 : gCount mo p0 (co, z, th, en, md, po, pl, la, d, va, N, U) = (-1) := by simp only [gCount, if_neg s_1, if_neg s_2, if_neg s_4, if_neg s_5, if_neg s_7]
  rw [e9]
  exact W.iret (v := (-1)) hx hb hr (fun t ht hW => ⟨⟨(-1), (), rfl, rfl, by rw [ht]; exact hP, va_K.moved hW.alike hK, hD⟩, hS.F ht⟩) hS.2.2 dX2_count_80

set_option maxHeartbeats 1000000 in
set_option maxRecDepth 100000 in
theorem kX2_init (l : Launch) (dC : Nat → ClassId) (dI : Nat → Nat → Nat) (oM : Nat) (p0 : Int32) (sz : Nat) : Met l yX2_init wsX2_init ({ frames := 1, cells := 2, slots := 2200, locals := 20 }) (va_Pc [.ref oM, .int p0] (fun U9 => U9.heap.size = sz ∧ va_P (dC, dI) vwCl [(oM, .inr (3, [.int 0, .int 0, .null, .null, .int 0, .int 0, .int 0, .int 0, .int 0, .int 0, .int 0, .int 0, .long 0]))] U9.heap ∧ va_K (dC, dI) vwCl [] U9 ∧ va_D (fun _ => True) [(oM, .inr (3, [.int 0, .int 0, .null, .null, .int 0, .int 0, .int 0, .int 0, .int 0, .int 0, .int 0, .int 0, .long 0]))])) (va_Qv (fun (_ : Unit) => True) (fun (_ : Unit) (t : State) => ∃ (oN oU : Nat) (cN cU : ClassId), va_P (dC, dI) vwCl (wM oM oN oU cN cU (nI (cM p0)) (0, 0, 0, 0, -1, 0, 0, 0, 9, 0, (fun _ => 0), (fun _ => 0))) t.heap ∧ va_K (dC, dI) vwCl [(cN, .int), (cU, .long)] t ∧ va_D (va_A [(oM, .inr (3, [.int 0, .int 0, .null, .null, .int 0, .int 0, .int 0, .int 0, .int 0, .int 0, .int 0, .int 0, .long 0]))] sz) (wM oM oN oU cN cU (nI (cM p0)) (0, 0, 0, 0, -1, 0, 0, 0, 9, 0, (fun _ => 0), (fun _ => 0)))) (va_A [(oM, .inr (3, [.int 0, .int 0, .null, .null, .int 0, .int 0, .int 0, .int 0, .int 0, .int 0, .int 0, .int 0, .long 0]))] sz)) 2 2200 (va_A [(oM, .inr (3, [.int 0, .int 0, .null, .null, .int 0, .int 0, .int 0, .int 0, .int 0, .int 0, .int 0, .int 0, .long 0]))] sz) := by
  refine Met.ofW (cc := cX2_init) (maxL := 2) (ret := none) (by decide) rfl ?_
  intro p e s m args below meth c s₁ B hml hv
  obtain ⟨rfl, hsz, hP, hK, hD0⟩ := hv
  have hx := B.exec
  have hb := B.bytes
  have hr := B.returns
  have hts := atoms_spec (ws := wsX2_init) B.pre
  have hown : s.vm.findClass RX2 = some m.cls := findClass_of_methodNamed B.named
  have hlocks := B.notSynchronized
  have hin : meth.name = "<init>" := (name_of_methodNamed B.named B.method).1
  subst hsz
  have hD := hD0.self (sz := s.heap.size)
  generalize hAe : va_A [(oM, .inr (3, [.int 0, .int 0, .null, .null, .int 0, .int 0, .int 0, .int 0, .int 0, .int 0, .int 0, .int 0, .long 0]))] s.heap.size = A at hD ⊢
  have hA : ∀ q : Nat, s.heap.size ≤ q → A q := fun q h => by rw [← hAe]; exact Or.inr h
  have hS : va_S A s.heap s.heap [] := va_S.rf
  have hP : va_P (dC, dI) vwCl [(oM, .inr (3, [.int 0, .int 0, .null, .null, .int 0, .int 0, .int 0, .int 0, .int 0, .int 0, .int 0, .int 0, .long 0]))] s.heap := hP
  have hl := lv_entry ([.ref oM, .int p0]) (n := 2) (Nat.le_of_ble_eq_true rfl)
  rw [lg_entry_eq]
  generalize (lg_sl ([.ref oM, .int p0]) ++ List.replicate (2 - (lg_sl ([.ref oM, .int p0])).length) Slot.unset).toArray = ls at hl ⊢
  have hl : lv_has ls 2 [(0, .ref oM), (1, .int p0)] := hl
  refine W_name (fun Q hQ9 => ?_)
  refine lv_aload_n hx hb dX2_init_0 rfl (lv_at hl 0 rfl) ?_
  refine W.objInit hx hb hown (hts (.methodLink RX2 1 objectInit) (by decide +kernel)) (hts (.instanceMethod objectInit) (by decide +kernel)) (hts (.code objectInit ⟨#[0xb1]⟩ 1 none) (by decide +kernel)) rfl (by rw [hml]; exact hl.1) rfl dX2_init_1 (Nat.le_of_ble_eq_true rfl) (Nat.le_of_ble_eq_true rfl) ?_
  refine W.eq (g2 := F0 m 4 ls []) rfl ?_
  refine lv_aload_n hx hb dX2_init_4 rfl (lv_at hl 0 rfl) ?_
  refine lv_sipush (v := 1100) hx hb dX2_init_5 (by decide) ?_
  refine va_newa (atype := .int) (ty := .int) (n := 1100) (N' := 1100) (a0 := (1100, .inl (fun _ => 0))) hx hb (hts (.arrayClass .int) (by decide +kernel)) rfl hK hP hD hS hA (fun _ => rfl) (by decide) (by decide) (by decide) (show 0 + 1 ≤ 2 by omega) (show 0 + 1100 ≤ 2200 by omega) dX2_init_8 (fun q_1 ca_2 H hK hP hD hS => ?_)
  have hP : va_P (dC, dI) vwCl [(oM, .inr (3, [.int 0, .int 0, .null, .null, .int 0, .int 0, .int 0, .int 0, .int 0, .int 0, .int 0, .int 0, .long 0])), (q_1, .inl (ca_2, 1100, .inl (fun _ => 0)))] H := hP
  have hD : va_D A [(oM, .inr (3, [.int 0, .int 0, .null, .null, .int 0, .int 0, .int 0, .int 0, .int 0, .int 0, .int 0, .int 0, .long 0])), (q_1, .inl (ca_2, 1100, .inl (fun _ => 0)))] := hD
  have hK : va_K (dC, dI) vwCl [(ca_2, .int)] s := hK
  refine va_putF (D := (dC, dI)) (ci := 3) (v := .ref q_1) (ty := (.array .int)) (C := RX2) (T := TX2) (N := 13) hx hb hts (by decide +kernel) tyX2 tyX2_ok nmX2 hown hK hP hD hS 0 rfl rfl 2 (by decide) (hts (.fieldLink RX2 7 "RelativeFilesModel" "numbers" "[I") (by decide +kernel)) (fun _ h9 => h9) rfl hin rfl (by decide +kernel) rfl rfl (Nat.le_of_ble_eq_true rfl) dX2_init_10 (fun H locs hP hD hS => ?_)
  have hP : va_P (dC, dI) vwCl [(oM, .inr (3, [.int 0, .int 0, .ref q_1, .null, .int 0, .int 0, .int 0, .int 0, .int 0, .int 0, .int 0, .int 0, .long 0])), (q_1, .inl (ca_2, 1100, .inl (fun _ => 0)))] H := hP
  have hD : va_D A [(oM, .inr (3, [.int 0, .int 0, .ref q_1, .null, .int 0, .int 0, .int 0, .int 0, .int 0, .int 0, .int 0, .int 0, .long 0])), (q_1, .inl (ca_2, 1100, .inl (fun _ => 0)))] := hD
  refine lv_aload_n hx hb dX2_init_13 rfl (lv_at hl 0 rfl) ?_
  refine lv_sipush (v := 1100) hx hb dX2_init_14 (by decide) ?_
  refine va_newa (atype := .long) (ty := .long) (n := 1100) (N' := 1100) (a0 := (1100, .inr (.inl (fun _ => 0)))) hx hb (hts (.arrayClass .long) (by decide +kernel)) rfl hK hP hD hS hA (fun _ => rfl) (by decide) (by decide) (by decide) (show (0 + 1) + 1 ≤ 2 by omega) (show (0 + 1100) + 1100 ≤ 2200 by omega) dX2_init_17 (fun q_3 ca_4 H hK hP hD hS => ?_)
  have hP : va_P (dC, dI) vwCl [(oM, .inr (3, [.int 0, .int 0, .ref q_1, .null, .int 0, .int 0, .int 0, .int 0, .int 0, .int 0, .int 0, .int 0, .long 0])), (q_1, .inl (ca_2, 1100, .inl (fun _ => 0))), (q_3, .inl (ca_4, 1100, .inr (.inl (fun _ => 0))))] H := hP
  have hD : va_D A [(oM, .inr (3, [.int 0, .int 0, .ref q_1, .null, .int 0, .int 0, .int 0, .int 0, .int 0, .int 0, .int 0, .int 0, .long 0])), (q_1, .inl (ca_2, 1100, .inl (fun _ => 0))), (q_3, .inl (ca_4, 1100, .inr (.inl (fun _ => 0))))] := hD
  have hK : va_K (dC, dI) vwCl [(ca_2, .int), (ca_4, .long)] s := hK
  refine va_putF (D := (dC, dI)) (ci := 3) (v := .ref q_3) (ty := (.array .long)) (C := RX2) (T := TX2) (N := 13) hx hb hts (by decide +kernel) tyX2 tyX2_ok nmX2 hown hK hP hD hS 0 rfl rfl 3 (by decide) (hts (.fieldLink RX2 13 "RelativeFilesModel" "values" "[J") (by decide +kernel)) (fun _ h9 => h9) rfl hin rfl (by decide +kernel) rfl rfl (Nat.le_of_ble_eq_true rfl) dX2_init_19 (fun H locs hP hD hS => ?_)
  have hP : va_P (dC, dI) vwCl [(oM, .inr (3, [.int 0, .int 0, .ref q_1, .ref q_3, .int 0, .int 0, .int 0, .int 0, .int 0, .int 0, .int 0, .int 0, .long 0])), (q_1, .inl (ca_2, 1100, .inl (fun _ => 0))), (q_3, .inl (ca_4, 1100, .inr (.inl (fun _ => 0))))] H := hP
  have hD : va_D A [(oM, .inr (3, [.int 0, .int 0, .ref q_1, .ref q_3, .int 0, .int 0, .int 0, .int 0, .int 0, .int 0, .int 0, .int 0, .long 0])), (q_1, .inl (ca_2, 1100, .inl (fun _ => 0))), (q_3, .inl (ca_4, 1100, .inr (.inl (fun _ => 0))))] := hD
  refine lv_aload_n hx hb dX2_init_22 rfl (lv_at hl 0 rfl) ?_
  refine lv_iconst (v := (-1)) hx hb dX2_init_23 (by decide) ?_
  refine va_put (D := (dC, dI)) (ci := 3) (v := .int (-1)) (ty := .int) (C := RX2) (T := TX2) (N := 13) hx hb hts (by decide +kernel) tyX2 tyX2_ok nmX2 hown hK hP hD hS 0 rfl rfl 7 (by decide) (hts (.fieldLink RX2 17 "RelativeFilesModel" "mode" "I") (by decide +kernel)) (fun _ h9 => h9) rfl (by decide +kernel) rfl rfl (Nat.le_of_ble_eq_true rfl) dX2_init_24 (fun H locs hP hD hS => ?_)
  have hP : va_P (dC, dI) vwCl [(oM, .inr (3, [.int 0, .int 0, .ref q_1, .ref q_3, .int 0, .int 0, .int 0, .int (-1), .int 0, .int 0, .int 0, .int 0, .long 0])), (q_1, .inl (ca_2, 1100, .inl (fun _ => 0))), (q_3, .inl (ca_4, 1100, .inr (.inl (fun _ => 0))))] H := hP
  have hD : va_D A [(oM, .inr (3, [.int 0, .int 0, .ref q_1, .ref q_3, .int 0, .int 0, .int 0, .int (-1), .int 0, .int 0, .int 0, .int 0, .long 0])), (q_1, .inl (ca_2, 1100, .inl (fun _ => 0))), (q_3, .inl (ca_4, 1100, .inr (.inl (fun _ => 0))))] := hD
  refine lv_aload_n hx hb dX2_init_27 rfl (lv_at hl 0 rfl) ?_
  refine lv_bipush (v := 9) hx hb dX2_init_28 (by decide) ?_
  refine va_put (D := (dC, dI)) (ci := 3) (v := .int 9) (ty := .int) (C := RX2) (T := TX2) (N := 13) hx hb hts (by decide +kernel) tyX2 tyX2_ok nmX2 hown hK hP hD hS 0 rfl rfl 11 (by decide) (hts (.fieldLink RX2 21 "RelativeFilesModel" "digits" "I") (by decide +kernel)) (fun _ h9 => h9) rfl (by decide +kernel) rfl rfl (Nat.le_of_ble_eq_true rfl) dX2_init_30 (fun H locs hP hD hS => ?_)
  have hP : va_P (dC, dI) vwCl [(oM, .inr (3, [.int 0, .int 0, .ref q_1, .ref q_3, .int 0, .int 0, .int 0, .int (-1), .int 0, .int 0, .int 0, .int 9, .long 0])), (q_1, .inl (ca_2, 1100, .inl (fun _ => 0))), (q_3, .inl (ca_4, 1100, .inr (.inl (fun _ => 0))))] H := hP
  have hD : va_D A [(oM, .inr (3, [.int 0, .int 0, .ref q_1, .ref q_3, .int 0, .int 0, .int 0, .int (-1), .int 0, .int 0, .int 0, .int 9, .long 0])), (q_1, .inl (ca_2, 1100, .inl (fun _ => 0))), (q_3, .inl (ca_4, 1100, .inr (.inl (fun _ => 0))))] := hD
  refine lv_aload_n hx hb dX2_init_33 rfl (lv_at hl 0 rfl) ?_
  refine lv_iload_n hx hb dX2_init_34 rfl (lv_at hl 1 rfl) ?_
  refine lv_if_ge (tgt := 42) hx hb dX2_init_35 (by decide) (fun c_5 => ?_) (fun c_5 => ?_)
  · -- taken at 35: 0 ≤ p0
    refine lv_iload_n hx hb dX2_init_42 rfl (lv_at hl 1 rfl) ?_
    refine lv_ldc (v := 65536) hx hb hown (hts (.constant RX2 24 65536) (by decide +kernel)) dX2_init_43 ?_
    refine lv_icmp_le (tgt := 53) hx hb dX2_init_45 (by decide) (fun c_6 => ?_) (fun c_6 => ?_)
    · -- taken at 45: p0 ≤ 65536
      refine lv_iload_n hx hb dX2_init_53 rfl (lv_at hl 1 rfl) ?_
      refine W_topi (nI (cM p0)) (cM_ref3 c_5 c_6) ?_
      refine va_putF (D := (dC, dI)) (ci := 3) (v := .int (nI (cM p0))) (ty := .int) (C := RX2) (T := TX2) (N := 13) hx hb hts (by decide +kernel) tyX2 tyX2_ok nmX2 hown hK hP hD hS 0 rfl rfl 1 (by decide) (hts (.fieldLink RX2 25 "RelativeFilesModel" "most" "I") (by decide +kernel)) (fun _ h9 => h9) rfl hin rfl (by decide +kernel) rfl rfl (Nat.le_of_ble_eq_true rfl) dX2_init_54 (fun H locs hP hD hS => ?_)
      have hP : va_P (dC, dI) vwCl [(oM, .inr (3, [.int 0, .int (nI (cM p0)), .ref q_1, .ref q_3, .int 0, .int 0, .int 0, .int (-1), .int 0, .int 0, .int 0, .int 9, .long 0])), (q_1, .inl (ca_2, 1100, .inl (fun _ => 0))), (q_3, .inl (ca_4, 1100, .inr (.inl (fun _ => 0))))] H := hP
      have hD : va_D A [(oM, .inr (3, [.int 0, .int (nI (cM p0)), .ref q_1, .ref q_3, .int 0, .int 0, .int 0, .int (-1), .int 0, .int 0, .int 0, .int 9, .long 0])), (q_1, .inl (ca_2, 1100, .inl (fun _ => 0))), (q_3, .inl (ca_4, 1100, .inr (.inl (fun _ => 0))))] := hD
      subst hQ9
      refine W.widen (k := 2) (n := 2200) (by omega) (by omega) ?_
      exact W.vret hx hb hr (fun t ht hW => ⟨⟨(), rfl, trivial, q_1, q_3, ca_2, ca_4, by rw [ht]; exact hP, va_K.moved hW.alike hK, hD⟩, hS.F ht⟩) hS.2.2 dX2_init_57
    · -- not taken at 45: ¬ p0 ≤ 65536
      refine lv_ldc (v := 65536) hx hb hown (hts (.constant RX2 24 65536) (by decide +kernel)) dX2_init_48 ?_
      refine lv_goto (tgt := 54) hx hb dX2_init_50 (by decide) ?_
      refine W_topi (nI (cM p0)) (cM_ref2 c_5 c_6) ?_
      refine va_putF (D := (dC, dI)) (ci := 3) (v := .int (nI (cM p0))) (ty := .int) (C := RX2) (T := TX2) (N := 13) hx hb hts (by decide +kernel) tyX2 tyX2_ok nmX2 hown hK hP hD hS 0 rfl rfl 1 (by decide) (hts (.fieldLink RX2 25 "RelativeFilesModel" "most" "I") (by decide +kernel)) (fun _ h9 => h9) rfl hin rfl (by decide +kernel) rfl rfl (Nat.le_of_ble_eq_true rfl) dX2_init_54 (fun H locs hP hD hS => ?_)
      have hP : va_P (dC, dI) vwCl [(oM, .inr (3, [.int 0, .int (nI (cM p0)), .ref q_1, .ref q_3, .int 0, .int 0, .int 0, .int (-1), .int 0, .int 0, .int 0, .int 9, .long 0])), (q_1, .inl (ca_2, 1100, .inl (fun _ => 0))), (q_3, .inl (ca_4, 1100, .inr (.inl (fun _ => 0))))] H := hP
      have hD : va_D A [(oM, .inr (3, [.int 0, .int (nI (cM p0)), .ref q_1, .ref q_3, .int 0, .int 0, .int 0, .int (-1), .int 0, .int 0, .int 0, .int 9, .long 0])), (q_1, .inl (ca_2, 1100, .inl (fun _ => 0))), (q_3, .inl (ca_4, 1100, .inr (.inl (fun _ => 0))))] := hD
      subst hQ9
      refine W.widen (k := 2) (n := 2200) (by omega) (by omega) ?_
      exact W.vret hx hb hr (fun t ht hW => ⟨⟨(), rfl, trivial, q_1, q_3, ca_2, ca_4, by rw [ht]; exact hP, va_K.moved hW.alike hK, hD⟩, hS.F ht⟩) hS.2.2 dX2_init_57
  · -- not taken at 35: ¬ 0 ≤ p0
    refine lv_iconst (v := 0) hx hb dX2_init_38 (by decide) ?_
    refine lv_goto (tgt := 54) hx hb dX2_init_39 (by decide) ?_
    refine W_topi (nI (cM p0)) (cM_ref1 c_5) ?_
    refine va_putF (D := (dC, dI)) (ci := 3) (v := .int (nI (cM p0))) (ty := .int) (C := RX2) (T := TX2) (N := 13) hx hb hts (by decide +kernel) tyX2 tyX2_ok nmX2 hown hK hP hD hS 0 rfl rfl 1 (by decide) (hts (.fieldLink RX2 25 "RelativeFilesModel" "most" "I") (by decide +kernel)) (fun _ h9 => h9) rfl hin rfl (by decide +kernel) rfl rfl (Nat.le_of_ble_eq_true rfl) dX2_init_54 (fun H locs hP hD hS => ?_)
    have hP : va_P (dC, dI) vwCl [(oM, .inr (3, [.int 0, .int (nI (cM p0)), .ref q_1, .ref q_3, .int 0, .int 0, .int 0, .int (-1), .int 0, .int 0, .int 0, .int 9, .long 0])), (q_1, .inl (ca_2, 1100, .inl (fun _ => 0))), (q_3, .inl (ca_4, 1100, .inr (.inl (fun _ => 0))))] H := hP
    have hD : va_D A [(oM, .inr (3, [.int 0, .int (nI (cM p0)), .ref q_1, .ref q_3, .int 0, .int 0, .int 0, .int (-1), .int 0, .int 0, .int 0, .int 9, .long 0])), (q_1, .inl (ca_2, 1100, .inl (fun _ => 0))), (q_3, .inl (ca_4, 1100, .inr (.inl (fun _ => 0))))] := hD
    subst hQ9
    refine W.widen (k := 2) (n := 2200) (by omega) (by omega) ?_
    exact W.vret hx hb hr (fun t ht hW => ⟨⟨(), rfl, trivial, q_1, q_3, ca_2, ca_4, by rw [ht]; exact hP, va_K.moved hW.alike hK, hD⟩, hS.F ht⟩) hS.2.2 dX2_init_57
