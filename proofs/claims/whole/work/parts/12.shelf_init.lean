set_option maxHeartbeats 1000000 in
set_option maxRecDepth 100000 in
theorem kX0_init (l : Launch) (dC : Nat → ClassId) (dI : Nat → Nat → Nat) (oS k : Nat) (sz : Nat) (hk : k ≤ 512) : Met l yX0_init wsX0_init ({ frames := 1, cells := 2, slots := 1024, locals := 20 }) (va_Pc [.ref oS, .int (nI k)] (fun U => U.heap.size = sz ∧ va_P (dC, dI) vwCl [(oS, .inr (1, [.null, .null, .int 0]))] U.heap ∧ va_K (dC, dI) vwCl [] U ∧ va_D (fun _ => True) [(oS, .inr (1, [.null, .null, .int 0]))])) (va_Qv (fun (_ : Unit) => True) (fun (_ : Unit) (t : State) => ∃ (qa qb : Nat) (ca cb : ClassId), va_P (dC, dI) vwCl [(oS, .inr (1, [.ref qa, .ref qb, .int (nI 0)])), (qa, .inl (ca, k, .inl (fun _ => 0))), (qb, .inl (cb, k, .inr (.inl (fun _ => 0))))] t.heap ∧ va_K (dC, dI) vwCl [(ca, .int), (cb, .long)] t ∧ va_D (va_A [(oS, .inr (1, [.null, .null, .int 0]))] sz) [(oS, .inr (1, [.ref qa, .ref qb, .int (nI 0)])), (qa, .inl (ca, k, .inl (fun _ => 0))), (qb, .inl (cb, k, .inr (.inl (fun _ => 0))))]) (va_A [(oS, .inr (1, [.null, .null, .int 0]))] sz)) 2 1024 (va_A [(oS, .inr (1, [.null, .null, .int 0]))] sz) := by
  refine Met.ofW (cc := cX0_init) (maxL := 3) (ret := none) (by decide) rfl ?_
  intro p e s m args below meth c s₁ B hml hv
  obtain ⟨rfl, hsz, hP, hK, hD0⟩ := hv
  have hx := B.exec
  have hb := B.bytes
  have hr := B.returns
  have hts := atoms_spec (ws := wsX0_init) B.pre
  have hown : s.vm.findClass RX0 = some m.cls := findClass_of_methodNamed B.named
  have hlocks := B.notSynchronized
  have hin : meth.name = "<init>" := (name_of_methodNamed B.named B.method).1
  subst hsz
  have hD := hD0.self (sz := s.heap.size)
  generalize hAe : va_A [(oS, .inr (1, [.null, .null, .int 0]))] s.heap.size = A at hD ⊢
  have hA : ∀ q : Nat, s.heap.size ≤ q → A q := fun q h => by rw [← hAe]; exact Or.inr h
  have hS : va_S A s.heap s.heap [] := va_S.rf
  have hP : va_P (dC, dI) vwCl [(oS, .inr (1, [.null, .null, .int 0]))] s.heap := hP
  have hl := lv_entry ([.ref oS, .int (nI k)]) (n := 3) (Nat.le_of_ble_eq_true rfl)
  rw [lg_entry_eq]
  generalize (lg_sl ([.ref oS, .int (nI k)]) ++ List.replicate (3 - (lg_sl ([.ref oS, .int (nI k)])).length) Slot.unset).toArray = ls at hl ⊢
  have hl : lv_has ls 3 [(0, .ref oS), (1, .int (nI k))] := hl
  refine W_name (fun Q hQ9 => ?_)
  refine lv_aload_n hx hb dX0_init_0 rfl (lv_at hl 0 rfl) ?_
  refine W.objInit hx hb hown (hts (.methodLink RX0 3 objectInit) (by decide +kernel)) (hts (.instanceMethod objectInit) (by decide +kernel)) (hts (.code objectInit ⟨#[0xb1]⟩ 1 none) (by decide +kernel)) rfl (by rw [hml]; exact hl.1) rfl dX0_init_1 (Nat.le_of_ble_eq_true rfl) (Nat.le_of_ble_eq_true rfl) ?_
  refine W.eq (g2 := F0 m 4 ls []) rfl ?_
  refine lv_iconst (v := 0) hx hb dX0_init_4 (by decide) ?_
  refine lv_iload_n hx hb dX0_init_5 rfl (lv_at hl 1 rfl) ?_
  refine va_mmax hx hb (by rw [hml]; exact hl.1.symm) hown (hts (.methodLink RX0 9 Lib.Math.max.name) (by decide +kernel)) (hts (.static Lib.Math.max.name) (by decide +kernel)) (hts (.initialized "java/lang/Math") (by decide +kernel)) (hts (.code Lib.Math.max.name Lib.Math.max.code 2 (some .int)) (by decide +kernel)) (Nat.le_of_ble_eq_true rfl) (Nat.le_of_ble_eq_true rfl) (Nat.le_of_ble_eq_true rfl) (Nat.le_of_ble_eq_true rfl) dX0_init_6 ?_
  rw [show (if 0 < nI k then nI k else 0 : Int32) = nI k from by by_cases q : 0 < k; exact if_pos (by rw [← nI_0]; exact nI_lt q (by omega)); have e : k = 0 := (by omega); subst e; rfl]
  refine lv_istore_n (lv' := [(2, .int (nI k)), (0, .ref oS), (1, .int (nI k))]) hx hb dX0_init_9 rfl hl (by decide) rfl (fun ls hl => ?_)
  refine lv_aload_n hx hb dX0_init_10 rfl (lv_at hl 1 rfl) ?_
  refine lv_iload_n hx hb dX0_init_11 rfl (lv_at hl 0 rfl) ?_
  refine va_newa (atype := .int) (ty := .int) (n := nI k) (N' := k) (a0 := (k, .inl (fun _ => 0))) hx hb (hts (.arrayClass .int) (by decide +kernel)) rfl hK hP hD hS hA (fun _ => rfl) (nI_pos (by omega)) (nI_clamp (by omega)) (by simp only [componentBytes]; omega) (show 0 + 1 ≤ 2 by omega) (show 0 + k ≤ 1024 by omega) dX0_init_12 (fun q_1 ca_2 H hK hP hD hS => ?_)
  have hP : va_P (dC, dI) vwCl [(oS, .inr (1, [.null, .null, .int 0])), (q_1, .inl (ca_2, k, .inl (fun _ => 0)))] H := hP
  have hD : va_D A [(oS, .inr (1, [.null, .null, .int 0])), (q_1, .inl (ca_2, k, .inl (fun _ => 0)))] := hD
  have hK : va_K (dC, dI) vwCl [(ca_2, .int)] s := hK
  refine va_putF (D := (dC, dI)) (ci := 1) (v := .ref q_1) (ty := (.array .int)) (C := RX0) (T := TX0) (N := 3) hx hb hts (by decide +kernel) tyX0 tyX0_ok nmX0 hown hK hP hD hS 0 rfl rfl 0 (by decide) (hts (.fieldLink RX0 15 "RelativeFiles$Shelf" "places" "[I") (by decide +kernel)) (fun _ h9 => h9) rfl hin rfl (by decide +kernel) rfl rfl (Nat.le_of_ble_eq_true rfl) dX0_init_14 (fun H locs hP hD hS => ?_)
  have hP : va_P (dC, dI) vwCl [(oS, .inr (1, [.ref q_1, .null, .int 0])), (q_1, .inl (ca_2, k, .inl (fun _ => 0)))] H := hP
  have hD : va_D A [(oS, .inr (1, [.ref q_1, .null, .int 0])), (q_1, .inl (ca_2, k, .inl (fun _ => 0)))] := hD
  refine lv_aload_n hx hb dX0_init_17 rfl (lv_at hl 1 rfl) ?_
  refine lv_iload_n hx hb dX0_init_18 rfl (lv_at hl 0 rfl) ?_
  refine va_newa (atype := .long) (ty := .long) (n := nI k) (N' := k) (a0 := (k, .inr (.inl (fun _ => 0)))) hx hb (hts (.arrayClass .long) (by decide +kernel)) rfl hK hP hD hS hA (fun _ => rfl) (nI_pos (by omega)) (nI_clamp (by omega)) (by simp only [componentBytes]; omega) (show (0 + 1) + 1 ≤ 2 by omega) (show (0 + k) + k ≤ 1024 by omega) dX0_init_19 (fun q_3 ca_4 H hK hP hD hS => ?_)
  have hP : va_P (dC, dI) vwCl [(oS, .inr (1, [.ref q_1, .null, .int 0])), (q_1, .inl (ca_2, k, .inl (fun _ => 0))), (q_3, .inl (ca_4, k, .inr (.inl (fun _ => 0))))] H := hP
  have hD : va_D A [(oS, .inr (1, [.ref q_1, .null, .int 0])), (q_1, .inl (ca_2, k, .inl (fun _ => 0))), (q_3, .inl (ca_4, k, .inr (.inl (fun _ => 0))))] := hD
  have hK : va_K (dC, dI) vwCl [(ca_2, .int), (ca_4, .long)] s := hK
  refine va_putF (D := (dC, dI)) (ci := 1) (v := .ref q_3) (ty := (.array .long)) (C := RX0) (T := TX0) (N := 3) hx hb hts (by decide +kernel) tyX0 tyX0_ok nmX0 hown hK hP hD hS 0 rfl rfl 1 (by decide) (hts (.fieldLink RX0 21 "RelativeFiles$Shelf" "values" "[J") (by decide +kernel)) (fun _ h9 => h9) rfl hin rfl (by decide +kernel) rfl rfl (Nat.le_of_ble_eq_true rfl) dX0_init_21 (fun H locs hP hD hS => ?_)
  have hP : va_P (dC, dI) vwCl [(oS, .inr (1, [.ref q_1, .ref q_3, .int 0])), (q_1, .inl (ca_2, k, .inl (fun _ => 0))), (q_3, .inl (ca_4, k, .inr (.inl (fun _ => 0))))] H := hP
  have hD : va_D A [(oS, .inr (1, [.ref q_1, .ref q_3, .int 0])), (q_1, .inl (ca_2, k, .inl (fun _ => 0))), (q_3, .inl (ca_4, k, .inr (.inl (fun _ => 0))))] := hD
  refine lv_aload_n hx hb dX0_init_24 rfl (lv_at hl 1 rfl) ?_
  refine lv_iconst (v := 0) hx hb dX0_init_25 (by decide) ?_
  refine va_put (D := (dC, dI)) (ci := 1) (v := .int 0) (ty := .int) (C := RX0) (T := TX0) (N := 3) hx hb hts (by decide +kernel) tyX0 tyX0_ok nmX0 hown hK hP hD hS 0 rfl rfl 2 (by decide) (hts (.fieldLink RX0 25 "RelativeFiles$Shelf" "held" "I") (by decide +kernel)) (fun _ h9 => h9) rfl (by decide +kernel) rfl rfl (Nat.le_of_ble_eq_true rfl) dX0_init_26 (fun H locs hP hD hS => ?_)
  have hP : va_P (dC, dI) vwCl [(oS, .inr (1, [.ref q_1, .ref q_3, .int 0])), (q_1, .inl (ca_2, k, .inl (fun _ => 0))), (q_3, .inl (ca_4, k, .inr (.inl (fun _ => 0))))] H := hP
  have hD : va_D A [(oS, .inr (1, [.ref q_1, .ref q_3, .int 0])), (q_1, .inl (ca_2, k, .inl (fun _ => 0))), (q_3, .inl (ca_4, k, .inr (.inl (fun _ => 0))))] := hD
  subst hQ9
  refine W.widen (k := 2) (n := 1024) (by omega) (by omega) ?_
  exact W.vret hx hb hr (fun t ht hW => ⟨⟨(), rfl, trivial, q_1, q_3, ca_2, ca_4, by rw [ht]; exact hP, va_K.moved hW.alike hK, hD⟩, hS.F ht⟩) hS.2.2 dX0_init_29
