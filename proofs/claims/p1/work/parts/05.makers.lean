set_option maxHeartbeats 4000000 in
set_option maxRecDepth 100000 in
theorem m_chainInit (l : Launch) (dC : Nat → ClassId) (dI : Nat → Nat → Nat) (sz : Nat) (h0 : Nat) : Met l yX0_init (pw_ws yX0_init cX0_init 1 none) ({ frames := 1, cells := 9, slots := 36, locals := 20 } : Room) (va_Pc [.ref h0] (fun U => U.heap.size = sz ∧ va_P (dC, dI) vwCl [(h0, .inr (5, [.null, .null, .null, .null, .null, .null, .null, .null, .null, .int 0, .long 0]))] U.heap ∧ va_K (dC, dI) vwCl [] U ∧ va_D (fun _ => True) [(h0, .inr (5, [.null, .null, .null, .null, .null, .null, .null, .null, .null, .int 0, .long 0]))])) (va_Qv (fun (_ : Unit) => True) (fun (_ : Unit) (t : State) => va_P (dC, dI) vwCl [] t.heap ∧ va_K (dC, dI) vwCl [] t ∧ va_D (va_A [(h0, .inr (5, [.null, .null, .null, .null, .null, .null, .null, .null, .null, .int 0, .long 0]))] sz) []) (va_A [(h0, .inr (5, [.null, .null, .null, .null, .null, .null, .null, .null, .null, .int 0, .long 0]))] sz)) 9 36 (va_A [(h0, .inr (5, [.null, .null, .null, .null, .null, .null, .null, .null, .null, .int 0, .long 0]))] sz) := by
  refine Met.ofW (cc := cX0_init) (maxL := 1) (ret := none) (by decide) rfl ?_
  intro p e s m args below meth c s₁ B hml hv
  obtain ⟨rfl, hsz, hP, hK, hD0⟩ := hv
  have hx := B.exec
  have hb := B.bytes
  have hr := B.returns
  have hts0 := atoms_spec (ws := (pw_ws yX0_init cX0_init 1 none)) B.pre
  have hts : ∀ w ∈ pw_all, w.before _ s = true := fun w h => hts0 w (List.mem_cons_of_mem _ h)
  have hown : s.vm.findClass RX0 = some m.cls := findClass_of_methodNamed B.named
  have hlocks := B.notSynchronized
  have hin : meth.name = "<init>" := (name_of_methodNamed B.named B.method).1
  subst hsz
  have hD := hD0.self (sz := s.heap.size)
  generalize hAe : va_A [(h0, .inr (5, [.null, .null, .null, .null, .null, .null, .null, .null, .null, .int 0, .long 0]))] s.heap.size = A at hD ⊢
  have hA : ∀ q : Nat, s.heap.size ≤ q → A q := fun q h => by rw [← hAe]; exact Or.inr h
  have hS : va_S A s.heap s.heap [] := va_S.rf
  have hP : va_P (dC, dI) vwCl [(h0, .inr (5, [.null, .null, .null, .null, .null, .null, .null, .null, .null, .int 0, .long 0]))] s.heap := hP
  have hl := lv_entry ([.ref h0]) (n := 1) (Nat.le_of_ble_eq_true rfl)
  rw [lg_entry_eq]
  generalize (lg_sl ([.ref h0]) ++ List.replicate (1 - (lg_sl ([.ref h0])).length) Slot.unset).toArray = ls at hl ⊢
  have hl : lv_has ls 1 [(0, .ref h0)] := hl
  skip
  refine lv_aload_n hx hb dX0_init_0 rfl (lv_at hl 0 rfl) ?_
  refine W.objInit hx hb hown (hts _ q149) (hts _ q86) (hts _ q87) rfl (by rw [hml]; exact hl.1) rfl dX0_init_1 (Nat.le_of_ble_eq_true rfl) (Nat.le_of_ble_eq_true rfl) ?_
  refine W.eq (g2 := F0 m 4 ls []) rfl ?_
  refine lv_aload_n hx hb dX0_init_4 rfl (lv_at hl 0 rfl) ?_
  refine lv_iconst (v := 4) hx hb dX0_init_5 (by decide) ?_
  refine va_newa (atype := .int) (N' := 4) (a0 := (4, .inl (fun _ => 0))) (ty := .int) (n := 4) hx hb (hts _ q143) rfl hK hP hD hS hA (fun _ => rfl) (by decide) (by decide) (Nat.le_of_ble_eq_true rfl) (Nat.le_of_ble_eq_true rfl) (Nat.le_of_ble_eq_true rfl) dX0_init_6 (fun q_20 cA_21 H hK hP hD hS => ?_)
  have hP : va_P (dC, dI) vwCl [(h0, .inr (5, [.null, .null, .null, .null, .null, .null, .null, .null, .null, .int 0, .long 0])), (q_20, .inl (cA_21, 4, .inl (fun _ => 0)))] H := hP
  have hD : va_D A [(h0, .inr (5, [.null, .null, .null, .null, .null, .null, .null, .null, .null, .int 0, .long 0])), (q_20, .inl (cA_21, 4, .inl (fun _ => 0)))] := hD
  have hK : va_K (dC, dI) vwCl [(cA_21, .int)] s := hK
  refine W.widen (k := 1) (n := 4) (Nat.le_of_ble_eq_true rfl) (Nat.le_of_ble_eq_true rfl) ?_
  refine va_putF (D := (dC, dI)) (ci := 5) (v := .ref q_20) (ty := .array .int) (C := RX0) (T := TX0) (N := 11) hx hb hts inX0 tyX0 tyX0_ok nmX0 hown hK hP hD hS 0 rfl rfl 0 (by decide) (hts _ q150) (fun _ h9 => h9) rfl hin rfl (by decide +kernel) rfl rfl (Nat.le_of_ble_eq_true rfl) dX0_init_8 (fun H locs hP hD hS => ?_)
  have hP : va_P (dC, dI) vwCl [(h0, .inr (5, [.ref q_20, .null, .null, .null, .null, .null, .null, .null, .null, .int 0, .long 0])), (q_20, .inl (cA_21, 4, .inl (fun _ => 0)))] H := hP
  have hD : va_D A [(h0, .inr (5, [.ref q_20, .null, .null, .null, .null, .null, .null, .null, .null, .int 0, .long 0])), (q_20, .inl (cA_21, 4, .inl (fun _ => 0)))] := hD
  refine lv_aload_n hx hb dX0_init_11 rfl (lv_at hl 0 rfl) ?_
  refine lv_iconst (v := 4) hx hb dX0_init_12 (by decide) ?_
  refine va_newa (atype := .int) (N' := 4) (a0 := (4, .inl (fun _ => 0))) (ty := .int) (n := 4) hx hb (hts _ q143) rfl hK hP hD hS hA (fun _ => rfl) (by decide) (by decide) (Nat.le_of_ble_eq_true rfl) (Nat.le_of_ble_eq_true rfl) (Nat.le_of_ble_eq_true rfl) dX0_init_13 (fun q_22 cA_23 H hK hP hD hS => ?_)
  have hP : va_P (dC, dI) vwCl [(h0, .inr (5, [.ref q_20, .null, .null, .null, .null, .null, .null, .null, .null, .int 0, .long 0])), (q_20, .inl (cA_21, 4, .inl (fun _ => 0))), (q_22, .inl (cA_23, 4, .inl (fun _ => 0)))] H := hP
  have hD : va_D A [(h0, .inr (5, [.ref q_20, .null, .null, .null, .null, .null, .null, .null, .null, .int 0, .long 0])), (q_20, .inl (cA_21, 4, .inl (fun _ => 0))), (q_22, .inl (cA_23, 4, .inl (fun _ => 0)))] := hD
  have hK : va_K (dC, dI) vwCl [(cA_21, .int), (cA_23, .int)] s := hK
  refine W.widen (k := 2) (n := 8) (Nat.le_of_ble_eq_true rfl) (Nat.le_of_ble_eq_true rfl) ?_
  refine va_putF (D := (dC, dI)) (ci := 5) (v := .ref q_22) (ty := .array .int) (C := RX0) (T := TX0) (N := 11) hx hb hts inX0 tyX0 tyX0_ok nmX0 hown hK hP hD hS 0 rfl rfl 1 (by decide) (hts _ q151) (fun _ h9 => h9) rfl hin rfl (by decide +kernel) rfl rfl (Nat.le_of_ble_eq_true rfl) dX0_init_15 (fun H locs hP hD hS => ?_)
  have hP : va_P (dC, dI) vwCl [(h0, .inr (5, [.ref q_20, .ref q_22, .null, .null, .null, .null, .null, .null, .null, .int 0, .long 0])), (q_20, .inl (cA_21, 4, .inl (fun _ => 0))), (q_22, .inl (cA_23, 4, .inl (fun _ => 0)))] H := hP
  have hD : va_D A [(h0, .inr (5, [.ref q_20, .ref q_22, .null, .null, .null, .null, .null, .null, .null, .int 0, .long 0])), (q_20, .inl (cA_21, 4, .inl (fun _ => 0))), (q_22, .inl (cA_23, 4, .inl (fun _ => 0)))] := hD
  refine lv_aload_n hx hb dX0_init_18 rfl (lv_at hl 0 rfl) ?_
  refine lv_iconst (v := 4) hx hb dX0_init_19 (by decide) ?_
  refine va_newa (atype := .int) (N' := 4) (a0 := (4, .inl (fun _ => 0))) (ty := .int) (n := 4) hx hb (hts _ q143) rfl hK hP hD hS hA (fun _ => rfl) (by decide) (by decide) (Nat.le_of_ble_eq_true rfl) (Nat.le_of_ble_eq_true rfl) (Nat.le_of_ble_eq_true rfl) dX0_init_20 (fun q_24 cA_25 H hK hP hD hS => ?_)
  have hP : va_P (dC, dI) vwCl [(h0, .inr (5, [.ref q_20, .ref q_22, .null, .null, .null, .null, .null, .null, .null, .int 0, .long 0])), (q_20, .inl (cA_21, 4, .inl (fun _ => 0))), (q_22, .inl (cA_23, 4, .inl (fun _ => 0))), (q_24, .inl (cA_25, 4, .inl (fun _ => 0)))] H := hP
  have hD : va_D A [(h0, .inr (5, [.ref q_20, .ref q_22, .null, .null, .null, .null, .null, .null, .null, .int 0, .long 0])), (q_20, .inl (cA_21, 4, .inl (fun _ => 0))), (q_22, .inl (cA_23, 4, .inl (fun _ => 0))), (q_24, .inl (cA_25, 4, .inl (fun _ => 0)))] := hD
  have hK : va_K (dC, dI) vwCl [(cA_21, .int), (cA_23, .int), (cA_25, .int)] s := hK
  refine W.widen (k := 3) (n := 12) (Nat.le_of_ble_eq_true rfl) (Nat.le_of_ble_eq_true rfl) ?_
  refine va_putF (D := (dC, dI)) (ci := 5) (v := .ref q_24) (ty := .array .int) (C := RX0) (T := TX0) (N := 11) hx hb hts inX0 tyX0 tyX0_ok nmX0 hown hK hP hD hS 0 rfl rfl 2 (by decide) (hts _ q152) (fun _ h9 => h9) rfl hin rfl (by decide +kernel) rfl rfl (Nat.le_of_ble_eq_true rfl) dX0_init_22 (fun H locs hP hD hS => ?_)
  have hP : va_P (dC, dI) vwCl [(h0, .inr (5, [.ref q_20, .ref q_22, .ref q_24, .null, .null, .null, .null, .null, .null, .int 0, .long 0])), (q_20, .inl (cA_21, 4, .inl (fun _ => 0))), (q_22, .inl (cA_23, 4, .inl (fun _ => 0))), (q_24, .inl (cA_25, 4, .inl (fun _ => 0)))] H := hP
  have hD : va_D A [(h0, .inr (5, [.ref q_20, .ref q_22, .ref q_24, .null, .null, .null, .null, .null, .null, .int 0, .long 0])), (q_20, .inl (cA_21, 4, .inl (fun _ => 0))), (q_22, .inl (cA_23, 4, .inl (fun _ => 0))), (q_24, .inl (cA_25, 4, .inl (fun _ => 0)))] := hD
  refine lv_aload_n hx hb dX0_init_25 rfl (lv_at hl 0 rfl) ?_
  refine lv_iconst (v := 4) hx hb dX0_init_26 (by decide) ?_
  refine va_newa (atype := .int) (N' := 4) (a0 := (4, .inl (fun _ => 0))) (ty := .int) (n := 4) hx hb (hts _ q143) rfl hK hP hD hS hA (fun _ => rfl) (by decide) (by decide) (Nat.le_of_ble_eq_true rfl) (Nat.le_of_ble_eq_true rfl) (Nat.le_of_ble_eq_true rfl) dX0_init_27 (fun q_26 cA_27 H hK hP hD hS => ?_)
  have hP : va_P (dC, dI) vwCl [(h0, .inr (5, [.ref q_20, .ref q_22, .ref q_24, .null, .null, .null, .null, .null, .null, .int 0, .long 0])), (q_20, .inl (cA_21, 4, .inl (fun _ => 0))), (q_22, .inl (cA_23, 4, .inl (fun _ => 0))), (q_24, .inl (cA_25, 4, .inl (fun _ => 0))), (q_26, .inl (cA_27, 4, .inl (fun _ => 0)))] H := hP
  have hD : va_D A [(h0, .inr (5, [.ref q_20, .ref q_22, .ref q_24, .null, .null, .null, .null, .null, .null, .int 0, .long 0])), (q_20, .inl (cA_21, 4, .inl (fun _ => 0))), (q_22, .inl (cA_23, 4, .inl (fun _ => 0))), (q_24, .inl (cA_25, 4, .inl (fun _ => 0))), (q_26, .inl (cA_27, 4, .inl (fun _ => 0)))] := hD
  have hK : va_K (dC, dI) vwCl [(cA_21, .int), (cA_23, .int), (cA_25, .int), (cA_27, .int)] s := hK
  refine W.widen (k := 4) (n := 16) (Nat.le_of_ble_eq_true rfl) (Nat.le_of_ble_eq_true rfl) ?_
  refine va_putF (D := (dC, dI)) (ci := 5) (v := .ref q_26) (ty := .array .int) (C := RX0) (T := TX0) (N := 11) hx hb hts inX0 tyX0 tyX0_ok nmX0 hown hK hP hD hS 0 rfl rfl 3 (by decide) (hts _ q154) (fun _ h9 => h9) rfl hin rfl (by decide +kernel) rfl rfl (Nat.le_of_ble_eq_true rfl) dX0_init_29 (fun H locs hP hD hS => ?_)
  have hP : va_P (dC, dI) vwCl [(h0, .inr (5, [.ref q_20, .ref q_22, .ref q_24, .ref q_26, .null, .null, .null, .null, .null, .int 0, .long 0])), (q_20, .inl (cA_21, 4, .inl (fun _ => 0))), (q_22, .inl (cA_23, 4, .inl (fun _ => 0))), (q_24, .inl (cA_25, 4, .inl (fun _ => 0))), (q_26, .inl (cA_27, 4, .inl (fun _ => 0)))] H := hP
  have hD : va_D A [(h0, .inr (5, [.ref q_20, .ref q_22, .ref q_24, .ref q_26, .null, .null, .null, .null, .null, .int 0, .long 0])), (q_20, .inl (cA_21, 4, .inl (fun _ => 0))), (q_22, .inl (cA_23, 4, .inl (fun _ => 0))), (q_24, .inl (cA_25, 4, .inl (fun _ => 0))), (q_26, .inl (cA_27, 4, .inl (fun _ => 0)))] := hD
  refine lv_aload_n hx hb dX0_init_32 rfl (lv_at hl 0 rfl) ?_
  refine lv_iconst (v := 4) hx hb dX0_init_33 (by decide) ?_
  refine va_newa (atype := .int) (N' := 4) (a0 := (4, .inl (fun _ => 0))) (ty := .int) (n := 4) hx hb (hts _ q143) rfl hK hP hD hS hA (fun _ => rfl) (by decide) (by decide) (Nat.le_of_ble_eq_true rfl) (Nat.le_of_ble_eq_true rfl) (Nat.le_of_ble_eq_true rfl) dX0_init_34 (fun q_28 cA_29 H hK hP hD hS => ?_)
  have hP : va_P (dC, dI) vwCl [(h0, .inr (5, [.ref q_20, .ref q_22, .ref q_24, .ref q_26, .null, .null, .null, .null, .null, .int 0, .long 0])), (q_20, .inl (cA_21, 4, .inl (fun _ => 0))), (q_22, .inl (cA_23, 4, .inl (fun _ => 0))), (q_24, .inl (cA_25, 4, .inl (fun _ => 0))), (q_26, .inl (cA_27, 4, .inl (fun _ => 0))), (q_28, .inl (cA_29, 4, .inl (fun _ => 0)))] H := hP
  have hD : va_D A [(h0, .inr (5, [.ref q_20, .ref q_22, .ref q_24, .ref q_26, .null, .null, .null, .null, .null, .int 0, .long 0])), (q_20, .inl (cA_21, 4, .inl (fun _ => 0))), (q_22, .inl (cA_23, 4, .inl (fun _ => 0))), (q_24, .inl (cA_25, 4, .inl (fun _ => 0))), (q_26, .inl (cA_27, 4, .inl (fun _ => 0))), (q_28, .inl (cA_29, 4, .inl (fun _ => 0)))] := hD
  have hK : va_K (dC, dI) vwCl [(cA_21, .int), (cA_23, .int), (cA_25, .int), (cA_27, .int), (cA_29, .int)] s := hK
  refine W.widen (k := 5) (n := 20) (Nat.le_of_ble_eq_true rfl) (Nat.le_of_ble_eq_true rfl) ?_
  refine va_putF (D := (dC, dI)) (ci := 5) (v := .ref q_28) (ty := .array .int) (C := RX0) (T := TX0) (N := 11) hx hb hts inX0 tyX0 tyX0_ok nmX0 hown hK hP hD hS 0 rfl rfl 4 (by decide) (hts _ q155) (fun _ h9 => h9) rfl hin rfl (by decide +kernel) rfl rfl (Nat.le_of_ble_eq_true rfl) dX0_init_36 (fun H locs hP hD hS => ?_)
  have hP : va_P (dC, dI) vwCl [(h0, .inr (5, [.ref q_20, .ref q_22, .ref q_24, .ref q_26, .ref q_28, .null, .null, .null, .null, .int 0, .long 0])), (q_20, .inl (cA_21, 4, .inl (fun _ => 0))), (q_22, .inl (cA_23, 4, .inl (fun _ => 0))), (q_24, .inl (cA_25, 4, .inl (fun _ => 0))), (q_26, .inl (cA_27, 4, .inl (fun _ => 0))), (q_28, .inl (cA_29, 4, .inl (fun _ => 0)))] H := hP
  have hD : va_D A [(h0, .inr (5, [.ref q_20, .ref q_22, .ref q_24, .ref q_26, .ref q_28, .null, .null, .null, .null, .int 0, .long 0])), (q_20, .inl (cA_21, 4, .inl (fun _ => 0))), (q_22, .inl (cA_23, 4, .inl (fun _ => 0))), (q_24, .inl (cA_25, 4, .inl (fun _ => 0))), (q_26, .inl (cA_27, 4, .inl (fun _ => 0))), (q_28, .inl (cA_29, 4, .inl (fun _ => 0)))] := hD
  refine lv_aload_n hx hb dX0_init_39 rfl (lv_at hl 0 rfl) ?_
  refine lv_iconst (v := 4) hx hb dX0_init_40 (by decide) ?_
  refine va_newa (atype := .long) (N' := 4) (a0 := (4, .inr (.inl (fun _ => 0)))) (ty := .long) (n := 4) hx hb (hts _ q192) rfl hK hP hD hS hA (fun _ => rfl) (by decide) (by decide) (Nat.le_of_ble_eq_true rfl) (Nat.le_of_ble_eq_true rfl) (Nat.le_of_ble_eq_true rfl) dX0_init_41 (fun q_30 cA_31 H hK hP hD hS => ?_)
  have hP : va_P (dC, dI) vwCl [(h0, .inr (5, [.ref q_20, .ref q_22, .ref q_24, .ref q_26, .ref q_28, .null, .null, .null, .null, .int 0, .long 0])), (q_20, .inl (cA_21, 4, .inl (fun _ => 0))), (q_22, .inl (cA_23, 4, .inl (fun _ => 0))), (q_24, .inl (cA_25, 4, .inl (fun _ => 0))), (q_26, .inl (cA_27, 4, .inl (fun _ => 0))), (q_28, .inl (cA_29, 4, .inl (fun _ => 0))), (q_30, .inl (cA_31, 4, .inr (.inl (fun _ => 0))))] H := hP
  have hD : va_D A [(h0, .inr (5, [.ref q_20, .ref q_22, .ref q_24, .ref q_26, .ref q_28, .null, .null, .null, .null, .int 0, .long 0])), (q_20, .inl (cA_21, 4, .inl (fun _ => 0))), (q_22, .inl (cA_23, 4, .inl (fun _ => 0))), (q_24, .inl (cA_25, 4, .inl (fun _ => 0))), (q_26, .inl (cA_27, 4, .inl (fun _ => 0))), (q_28, .inl (cA_29, 4, .inl (fun _ => 0))), (q_30, .inl (cA_31, 4, .inr (.inl (fun _ => 0))))] := hD
  have hK : va_K (dC, dI) vwCl [(cA_21, .int), (cA_23, .int), (cA_25, .int), (cA_27, .int), (cA_29, .int), (cA_31, .long)] s := hK
  refine W.widen (k := 6) (n := 24) (Nat.le_of_ble_eq_true rfl) (Nat.le_of_ble_eq_true rfl) ?_
  refine va_putF (D := (dC, dI)) (ci := 5) (v := .ref q_30) (ty := .array .long) (C := RX0) (T := TX0) (N := 11) hx hb hts inX0 tyX0 tyX0_ok nmX0 hown hK hP hD hS 0 rfl rfl 5 (by decide) (hts _ q158) (fun _ h9 => h9) rfl hin rfl (by decide +kernel) rfl rfl (Nat.le_of_ble_eq_true rfl) dX0_init_43 (fun H locs hP hD hS => ?_)
  have hP : va_P (dC, dI) vwCl [(h0, .inr (5, [.ref q_20, .ref q_22, .ref q_24, .ref q_26, .ref q_28, .ref q_30, .null, .null, .null, .int 0, .long 0])), (q_20, .inl (cA_21, 4, .inl (fun _ => 0))), (q_22, .inl (cA_23, 4, .inl (fun _ => 0))), (q_24, .inl (cA_25, 4, .inl (fun _ => 0))), (q_26, .inl (cA_27, 4, .inl (fun _ => 0))), (q_28, .inl (cA_29, 4, .inl (fun _ => 0))), (q_30, .inl (cA_31, 4, .inr (.inl (fun _ => 0))))] H := hP
  have hD : va_D A [(h0, .inr (5, [.ref q_20, .ref q_22, .ref q_24, .ref q_26, .ref q_28, .ref q_30, .null, .null, .null, .int 0, .long 0])), (q_20, .inl (cA_21, 4, .inl (fun _ => 0))), (q_22, .inl (cA_23, 4, .inl (fun _ => 0))), (q_24, .inl (cA_25, 4, .inl (fun _ => 0))), (q_26, .inl (cA_27, 4, .inl (fun _ => 0))), (q_28, .inl (cA_29, 4, .inl (fun _ => 0))), (q_30, .inl (cA_31, 4, .inr (.inl (fun _ => 0))))] := hD
  refine lv_aload_n hx hb dX0_init_46 rfl (lv_at hl 0 rfl) ?_
  refine lv_iconst (v := 4) hx hb dX0_init_47 (by decide) ?_
  refine va_newa (atype := .long) (N' := 4) (a0 := (4, .inr (.inl (fun _ => 0)))) (ty := .long) (n := 4) hx hb (hts _ q192) rfl hK hP hD hS hA (fun _ => rfl) (by decide) (by decide) (Nat.le_of_ble_eq_true rfl) (Nat.le_of_ble_eq_true rfl) (Nat.le_of_ble_eq_true rfl) dX0_init_48 (fun q_32 cA_33 H hK hP hD hS => ?_)
  have hP : va_P (dC, dI) vwCl [(h0, .inr (5, [.ref q_20, .ref q_22, .ref q_24, .ref q_26, .ref q_28, .ref q_30, .null, .null, .null, .int 0, .long 0])), (q_20, .inl (cA_21, 4, .inl (fun _ => 0))), (q_22, .inl (cA_23, 4, .inl (fun _ => 0))), (q_24, .inl (cA_25, 4, .inl (fun _ => 0))), (q_26, .inl (cA_27, 4, .inl (fun _ => 0))), (q_28, .inl (cA_29, 4, .inl (fun _ => 0))), (q_30, .inl (cA_31, 4, .inr (.inl (fun _ => 0)))), (q_32, .inl (cA_33, 4, .inr (.inl (fun _ => 0))))] H := hP
  have hD : va_D A [(h0, .inr (5, [.ref q_20, .ref q_22, .ref q_24, .ref q_26, .ref q_28, .ref q_30, .null, .null, .null, .int 0, .long 0])), (q_20, .inl (cA_21, 4, .inl (fun _ => 0))), (q_22, .inl (cA_23, 4, .inl (fun _ => 0))), (q_24, .inl (cA_25, 4, .inl (fun _ => 0))), (q_26, .inl (cA_27, 4, .inl (fun _ => 0))), (q_28, .inl (cA_29, 4, .inl (fun _ => 0))), (q_30, .inl (cA_31, 4, .inr (.inl (fun _ => 0)))), (q_32, .inl (cA_33, 4, .inr (.inl (fun _ => 0))))] := hD
  have hK : va_K (dC, dI) vwCl [(cA_21, .int), (cA_23, .int), (cA_25, .int), (cA_27, .int), (cA_29, .int), (cA_31, .long), (cA_33, .long)] s := hK
  refine W.widen (k := 7) (n := 28) (Nat.le_of_ble_eq_true rfl) (Nat.le_of_ble_eq_true rfl) ?_
  refine va_putF (D := (dC, dI)) (ci := 5) (v := .ref q_32) (ty := .array .long) (C := RX0) (T := TX0) (N := 11) hx hb hts inX0 tyX0 tyX0_ok nmX0 hown hK hP hD hS 0 rfl rfl 6 (by decide) (hts _ q160) (fun _ h9 => h9) rfl hin rfl (by decide +kernel) rfl rfl (Nat.le_of_ble_eq_true rfl) dX0_init_50 (fun H locs hP hD hS => ?_)
  have hP : va_P (dC, dI) vwCl [(h0, .inr (5, [.ref q_20, .ref q_22, .ref q_24, .ref q_26, .ref q_28, .ref q_30, .ref q_32, .null, .null, .int 0, .long 0])), (q_20, .inl (cA_21, 4, .inl (fun _ => 0))), (q_22, .inl (cA_23, 4, .inl (fun _ => 0))), (q_24, .inl (cA_25, 4, .inl (fun _ => 0))), (q_26, .inl (cA_27, 4, .inl (fun _ => 0))), (q_28, .inl (cA_29, 4, .inl (fun _ => 0))), (q_30, .inl (cA_31, 4, .inr (.inl (fun _ => 0)))), (q_32, .inl (cA_33, 4, .inr (.inl (fun _ => 0))))] H := hP
  have hD : va_D A [(h0, .inr (5, [.ref q_20, .ref q_22, .ref q_24, .ref q_26, .ref q_28, .ref q_30, .ref q_32, .null, .null, .int 0, .long 0])), (q_20, .inl (cA_21, 4, .inl (fun _ => 0))), (q_22, .inl (cA_23, 4, .inl (fun _ => 0))), (q_24, .inl (cA_25, 4, .inl (fun _ => 0))), (q_26, .inl (cA_27, 4, .inl (fun _ => 0))), (q_28, .inl (cA_29, 4, .inl (fun _ => 0))), (q_30, .inl (cA_31, 4, .inr (.inl (fun _ => 0)))), (q_32, .inl (cA_33, 4, .inr (.inl (fun _ => 0))))] := hD
  refine lv_aload_n hx hb dX0_init_53 rfl (lv_at hl 0 rfl) ?_
  refine lv_iconst (v := 4) hx hb dX0_init_54 (by decide) ?_
  refine va_newa (atype := .long) (N' := 4) (a0 := (4, .inr (.inl (fun _ => 0)))) (ty := .long) (n := 4) hx hb (hts _ q192) rfl hK hP hD hS hA (fun _ => rfl) (by decide) (by decide) (Nat.le_of_ble_eq_true rfl) (Nat.le_of_ble_eq_true rfl) (Nat.le_of_ble_eq_true rfl) dX0_init_55 (fun q_34 cA_35 H hK hP hD hS => ?_)
  have hP : va_P (dC, dI) vwCl [(h0, .inr (5, [.ref q_20, .ref q_22, .ref q_24, .ref q_26, .ref q_28, .ref q_30, .ref q_32, .null, .null, .int 0, .long 0])), (q_20, .inl (cA_21, 4, .inl (fun _ => 0))), (q_22, .inl (cA_23, 4, .inl (fun _ => 0))), (q_24, .inl (cA_25, 4, .inl (fun _ => 0))), (q_26, .inl (cA_27, 4, .inl (fun _ => 0))), (q_28, .inl (cA_29, 4, .inl (fun _ => 0))), (q_30, .inl (cA_31, 4, .inr (.inl (fun _ => 0)))), (q_32, .inl (cA_33, 4, .inr (.inl (fun _ => 0)))), (q_34, .inl (cA_35, 4, .inr (.inl (fun _ => 0))))] H := hP
  have hD : va_D A [(h0, .inr (5, [.ref q_20, .ref q_22, .ref q_24, .ref q_26, .ref q_28, .ref q_30, .ref q_32, .null, .null, .int 0, .long 0])), (q_20, .inl (cA_21, 4, .inl (fun _ => 0))), (q_22, .inl (cA_23, 4, .inl (fun _ => 0))), (q_24, .inl (cA_25, 4, .inl (fun _ => 0))), (q_26, .inl (cA_27, 4, .inl (fun _ => 0))), (q_28, .inl (cA_29, 4, .inl (fun _ => 0))), (q_30, .inl (cA_31, 4, .inr (.inl (fun _ => 0)))), (q_32, .inl (cA_33, 4, .inr (.inl (fun _ => 0)))), (q_34, .inl (cA_35, 4, .inr (.inl (fun _ => 0))))] := hD
  have hK : va_K (dC, dI) vwCl [(cA_21, .int), (cA_23, .int), (cA_25, .int), (cA_27, .int), (cA_29, .int), (cA_31, .long), (cA_33, .long), (cA_35, .long)] s := hK
  refine W.widen (k := 8) (n := 32) (Nat.le_of_ble_eq_true rfl) (Nat.le_of_ble_eq_true rfl) ?_
  refine va_putF (D := (dC, dI)) (ci := 5) (v := .ref q_34) (ty := .array .long) (C := RX0) (T := TX0) (N := 11) hx hb hts inX0 tyX0 tyX0_ok nmX0 hown hK hP hD hS 0 rfl rfl 7 (by decide) (hts _ q161) (fun _ h9 => h9) rfl hin rfl (by decide +kernel) rfl rfl (Nat.le_of_ble_eq_true rfl) dX0_init_57 (fun H locs hP hD hS => ?_)
  have hP : va_P (dC, dI) vwCl [(h0, .inr (5, [.ref q_20, .ref q_22, .ref q_24, .ref q_26, .ref q_28, .ref q_30, .ref q_32, .ref q_34, .null, .int 0, .long 0])), (q_20, .inl (cA_21, 4, .inl (fun _ => 0))), (q_22, .inl (cA_23, 4, .inl (fun _ => 0))), (q_24, .inl (cA_25, 4, .inl (fun _ => 0))), (q_26, .inl (cA_27, 4, .inl (fun _ => 0))), (q_28, .inl (cA_29, 4, .inl (fun _ => 0))), (q_30, .inl (cA_31, 4, .inr (.inl (fun _ => 0)))), (q_32, .inl (cA_33, 4, .inr (.inl (fun _ => 0)))), (q_34, .inl (cA_35, 4, .inr (.inl (fun _ => 0))))] H := hP
  have hD : va_D A [(h0, .inr (5, [.ref q_20, .ref q_22, .ref q_24, .ref q_26, .ref q_28, .ref q_30, .ref q_32, .ref q_34, .null, .int 0, .long 0])), (q_20, .inl (cA_21, 4, .inl (fun _ => 0))), (q_22, .inl (cA_23, 4, .inl (fun _ => 0))), (q_24, .inl (cA_25, 4, .inl (fun _ => 0))), (q_26, .inl (cA_27, 4, .inl (fun _ => 0))), (q_28, .inl (cA_29, 4, .inl (fun _ => 0))), (q_30, .inl (cA_31, 4, .inr (.inl (fun _ => 0)))), (q_32, .inl (cA_33, 4, .inr (.inl (fun _ => 0)))), (q_34, .inl (cA_35, 4, .inr (.inl (fun _ => 0))))] := hD
  refine lv_aload_n hx hb dX0_init_60 rfl (lv_at hl 0 rfl) ?_
  refine lv_iconst (v := 4) hx hb dX0_init_61 (by decide) ?_
  refine va_newa (atype := .int) (N' := 4) (a0 := (4, .inl (fun _ => 0))) (ty := .int) (n := 4) hx hb (hts _ q143) rfl hK hP hD hS hA (fun _ => rfl) (by decide) (by decide) (Nat.le_of_ble_eq_true rfl) (Nat.le_of_ble_eq_true rfl) (Nat.le_of_ble_eq_true rfl) dX0_init_62 (fun q_36 cA_37 H hK hP hD hS => ?_)
  have hP : va_P (dC, dI) vwCl [(h0, .inr (5, [.ref q_20, .ref q_22, .ref q_24, .ref q_26, .ref q_28, .ref q_30, .ref q_32, .ref q_34, .null, .int 0, .long 0])), (q_20, .inl (cA_21, 4, .inl (fun _ => 0))), (q_22, .inl (cA_23, 4, .inl (fun _ => 0))), (q_24, .inl (cA_25, 4, .inl (fun _ => 0))), (q_26, .inl (cA_27, 4, .inl (fun _ => 0))), (q_28, .inl (cA_29, 4, .inl (fun _ => 0))), (q_30, .inl (cA_31, 4, .inr (.inl (fun _ => 0)))), (q_32, .inl (cA_33, 4, .inr (.inl (fun _ => 0)))), (q_34, .inl (cA_35, 4, .inr (.inl (fun _ => 0)))), (q_36, .inl (cA_37, 4, .inl (fun _ => 0)))] H := hP
  have hD : va_D A [(h0, .inr (5, [.ref q_20, .ref q_22, .ref q_24, .ref q_26, .ref q_28, .ref q_30, .ref q_32, .ref q_34, .null, .int 0, .long 0])), (q_20, .inl (cA_21, 4, .inl (fun _ => 0))), (q_22, .inl (cA_23, 4, .inl (fun _ => 0))), (q_24, .inl (cA_25, 4, .inl (fun _ => 0))), (q_26, .inl (cA_27, 4, .inl (fun _ => 0))), (q_28, .inl (cA_29, 4, .inl (fun _ => 0))), (q_30, .inl (cA_31, 4, .inr (.inl (fun _ => 0)))), (q_32, .inl (cA_33, 4, .inr (.inl (fun _ => 0)))), (q_34, .inl (cA_35, 4, .inr (.inl (fun _ => 0)))), (q_36, .inl (cA_37, 4, .inl (fun _ => 0)))] := hD
  have hK : va_K (dC, dI) vwCl [(cA_21, .int), (cA_23, .int), (cA_25, .int), (cA_27, .int), (cA_29, .int), (cA_31, .long), (cA_33, .long), (cA_35, .long), (cA_37, .int)] s := hK
  refine W.widen (k := 9) (n := 36) (Nat.le_of_ble_eq_true rfl) (Nat.le_of_ble_eq_true rfl) ?_
  refine va_putF (D := (dC, dI)) (ci := 5) (v := .ref q_36) (ty := .array .int) (C := RX0) (T := TX0) (N := 11) hx hb hts inX0 tyX0 tyX0_ok nmX0 hown hK hP hD hS 0 rfl rfl 8 (by decide) (hts _ q162) (fun _ h9 => h9) rfl hin rfl (by decide +kernel) rfl rfl (Nat.le_of_ble_eq_true rfl) dX0_init_64 (fun H locs hP hD hS => ?_)
  have hP : va_P (dC, dI) vwCl [(h0, .inr (5, [.ref q_20, .ref q_22, .ref q_24, .ref q_26, .ref q_28, .ref q_30, .ref q_32, .ref q_34, .ref q_36, .int 0, .long 0])), (q_20, .inl (cA_21, 4, .inl (fun _ => 0))), (q_22, .inl (cA_23, 4, .inl (fun _ => 0))), (q_24, .inl (cA_25, 4, .inl (fun _ => 0))), (q_26, .inl (cA_27, 4, .inl (fun _ => 0))), (q_28, .inl (cA_29, 4, .inl (fun _ => 0))), (q_30, .inl (cA_31, 4, .inr (.inl (fun _ => 0)))), (q_32, .inl (cA_33, 4, .inr (.inl (fun _ => 0)))), (q_34, .inl (cA_35, 4, .inr (.inl (fun _ => 0)))), (q_36, .inl (cA_37, 4, .inl (fun _ => 0)))] H := hP
  have hD : va_D A [(h0, .inr (5, [.ref q_20, .ref q_22, .ref q_24, .ref q_26, .ref q_28, .ref q_30, .ref q_32, .ref q_34, .ref q_36, .int 0, .long 0])), (q_20, .inl (cA_21, 4, .inl (fun _ => 0))), (q_22, .inl (cA_23, 4, .inl (fun _ => 0))), (q_24, .inl (cA_25, 4, .inl (fun _ => 0))), (q_26, .inl (cA_27, 4, .inl (fun _ => 0))), (q_28, .inl (cA_29, 4, .inl (fun _ => 0))), (q_30, .inl (cA_31, 4, .inr (.inl (fun _ => 0)))), (q_32, .inl (cA_33, 4, .inr (.inl (fun _ => 0)))), (q_34, .inl (cA_35, 4, .inr (.inl (fun _ => 0)))), (q_36, .inl (cA_37, 4, .inl (fun _ => 0)))] := hD
  have hP9 := hP.sub (ws' := []) [] rfl
  have hD9 := hD.sub (ws' := []) [] (by decide) rfl
  have hK9 := hK.sub (tys' := []) [] rfl
  refine W.widen (k := 9) (n := 36) (Nat.le_of_ble_eq_true rfl) (Nat.le_of_ble_eq_true rfl) ?_
  exact W.vret hx hb hr (fun t ht hW => ⟨⟨(), rfl, trivial, ⟨by rw [ht]; exact hP9, va_K.moved hW.alike hK9, hD9⟩⟩, hS.F ht⟩) hS.2.2 dX0_init_67
set_option maxHeartbeats 4000000 in
set_option maxRecDepth 100000 in
theorem m_rainInit (l : Launch) (dC : Nat → ClassId) (dI : Nat → Nat → Nat) (sz : Nat) (h0 : Nat) : Met l yX1_init (pw_ws yX1_init cX1_init 1 none) ({ frames := 1, cells := 2, slots := 178, locals := 20 } : Room) (va_Pc [.ref h0] (fun U => U.heap.size = sz ∧ va_P (dC, dI) vwCl [(h0, .inr (6, [.null, .null, .int 0, .int 0, .long 0, .long 0]))] U.heap ∧ va_K (dC, dI) vwCl [] U ∧ va_D (fun _ => True) [(h0, .inr (6, [.null, .null, .int 0, .int 0, .long 0, .long 0]))])) (va_Qv (fun (_ : Unit) => True) (fun (_ : Unit) (t : State) => ∃ (t1 : Nat), ∃ (t2 : Nat), va_P (dC, dI) vwCl [(h0, .inr (6, [.ref t1, .ref t2, .int 0, .int 0, .long 0, .long 0]))] t.heap ∧ va_K (dC, dI) vwCl [] t ∧ va_D (va_A [(h0, .inr (6, [.null, .null, .int 0, .int 0, .long 0, .long 0]))] sz) [(h0, .inr (6, [.ref t1, .ref t2, .int 0, .int 0, .long 0, .long 0]))]) (va_A [(h0, .inr (6, [.null, .null, .int 0, .int 0, .long 0, .long 0]))] sz)) 2 178 (va_A [(h0, .inr (6, [.null, .null, .int 0, .int 0, .long 0, .long 0]))] sz) := by
  refine Met.ofW (cc := cX1_init) (maxL := 1) (ret := none) (by decide) rfl ?_
  intro p e s m args below meth c s₁ B hml hv
  obtain ⟨rfl, hsz, hP, hK, hD0⟩ := hv
  have hx := B.exec
  have hb := B.bytes
  have hr := B.returns
  have hts0 := atoms_spec (ws := (pw_ws yX1_init cX1_init 1 none)) B.pre
  have hts : ∀ w ∈ pw_all, w.before _ s = true := fun w h => hts0 w (List.mem_cons_of_mem _ h)
  have hown : s.vm.findClass RX1 = some m.cls := findClass_of_methodNamed B.named
  have hlocks := B.notSynchronized
  have hin : meth.name = "<init>" := (name_of_methodNamed B.named B.method).1
  subst hsz
  have hD := hD0.self (sz := s.heap.size)
  generalize hAe : va_A [(h0, .inr (6, [.null, .null, .int 0, .int 0, .long 0, .long 0]))] s.heap.size = A at hD ⊢
  have hA : ∀ q : Nat, s.heap.size ≤ q → A q := fun q h => by rw [← hAe]; exact Or.inr h
  have hS : va_S A s.heap s.heap [] := va_S.rf
  have hP : va_P (dC, dI) vwCl [(h0, .inr (6, [.null, .null, .int 0, .int 0, .long 0, .long 0]))] s.heap := hP
  have hl := lv_entry ([.ref h0]) (n := 1) (Nat.le_of_ble_eq_true rfl)
  rw [lg_entry_eq]
  generalize (lg_sl ([.ref h0]) ++ List.replicate (1 - (lg_sl ([.ref h0])).length) Slot.unset).toArray = ls at hl ⊢
  have hl : lv_has ls 1 [(0, .ref h0)] := hl
  skip
  refine lv_aload_n hx hb dX1_init_0 rfl (lv_at hl 0 rfl) ?_
  refine W.objInit hx hb hown (hts _ q122) (hts _ q86) (hts _ q87) rfl (by rw [hml]; exact hl.1) rfl dX1_init_1 (Nat.le_of_ble_eq_true rfl) (Nat.le_of_ble_eq_true rfl) ?_
  refine W.eq (g2 := F0 m 4 ls []) rfl ?_
  refine lv_aload_n hx hb dX1_init_4 rfl (lv_at hl 0 rfl) ?_
  refine lv_bipush (v := 89) hx hb dX1_init_5 (by decide) ?_
  refine va_newa (atype := .int) (N' := 89) (a0 := (89, .inl (fun _ => 0))) (ty := .int) (n := 89) hx hb (hts _ q143) rfl hK hP hD hS hA (fun _ => rfl) (by decide) (by decide) (Nat.le_of_ble_eq_true rfl) (Nat.le_of_ble_eq_true rfl) (Nat.le_of_ble_eq_true rfl) dX1_init_7 (fun q_38 cA_39 H hK hP hD hS => ?_)
  have hP : va_P (dC, dI) vwCl [(h0, .inr (6, [.null, .null, .int 0, .int 0, .long 0, .long 0])), (q_38, .inl (cA_39, 89, .inl (fun _ => 0)))] H := hP
  have hD : va_D A [(h0, .inr (6, [.null, .null, .int 0, .int 0, .long 0, .long 0])), (q_38, .inl (cA_39, 89, .inl (fun _ => 0)))] := hD
  have hK : va_K (dC, dI) vwCl [(cA_39, .int)] s := hK
  refine W.widen (k := 1) (n := 89) (Nat.le_of_ble_eq_true rfl) (Nat.le_of_ble_eq_true rfl) ?_
  refine va_putF (D := (dC, dI)) (ci := 6) (v := .ref q_38) (ty := .array .int) (C := RX1) (T := TX1) (N := 6) hx hb hts inX1 tyX1 tyX1_ok nmX1 hown hK hP hD hS 0 rfl rfl 0 (by decide) (hts _ q123) (fun _ h9 => h9) rfl hin rfl (by decide +kernel) rfl rfl (Nat.le_of_ble_eq_true rfl) dX1_init_9 (fun H locs hP hD hS => ?_)
  have hP : va_P (dC, dI) vwCl [(h0, .inr (6, [.ref q_38, .null, .int 0, .int 0, .long 0, .long 0])), (q_38, .inl (cA_39, 89, .inl (fun _ => 0)))] H := hP
  have hD : va_D A [(h0, .inr (6, [.ref q_38, .null, .int 0, .int 0, .long 0, .long 0])), (q_38, .inl (cA_39, 89, .inl (fun _ => 0)))] := hD
  refine lv_aload_n hx hb dX1_init_12 rfl (lv_at hl 0 rfl) ?_
  refine lv_bipush (v := 89) hx hb dX1_init_13 (by decide) ?_
  refine va_newa (atype := .int) (N' := 89) (a0 := (89, .inl (fun _ => 0))) (ty := .int) (n := 89) hx hb (hts _ q143) rfl hK hP hD hS hA (fun _ => rfl) (by decide) (by decide) (Nat.le_of_ble_eq_true rfl) (Nat.le_of_ble_eq_true rfl) (Nat.le_of_ble_eq_true rfl) dX1_init_15 (fun q_40 cA_41 H hK hP hD hS => ?_)
  have hP : va_P (dC, dI) vwCl [(h0, .inr (6, [.ref q_38, .null, .int 0, .int 0, .long 0, .long 0])), (q_38, .inl (cA_39, 89, .inl (fun _ => 0))), (q_40, .inl (cA_41, 89, .inl (fun _ => 0)))] H := hP
  have hD : va_D A [(h0, .inr (6, [.ref q_38, .null, .int 0, .int 0, .long 0, .long 0])), (q_38, .inl (cA_39, 89, .inl (fun _ => 0))), (q_40, .inl (cA_41, 89, .inl (fun _ => 0)))] := hD
  have hK : va_K (dC, dI) vwCl [(cA_39, .int), (cA_41, .int)] s := hK
  refine W.widen (k := 2) (n := 178) (Nat.le_of_ble_eq_true rfl) (Nat.le_of_ble_eq_true rfl) ?_
  refine va_putF (D := (dC, dI)) (ci := 6) (v := .ref q_40) (ty := .array .int) (C := RX1) (T := TX1) (N := 6) hx hb hts inX1 tyX1 tyX1_ok nmX1 hown hK hP hD hS 0 rfl rfl 1 (by decide) (hts _ q124) (fun _ h9 => h9) rfl hin rfl (by decide +kernel) rfl rfl (Nat.le_of_ble_eq_true rfl) dX1_init_17 (fun H locs hP hD hS => ?_)
  have hP : va_P (dC, dI) vwCl [(h0, .inr (6, [.ref q_38, .ref q_40, .int 0, .int 0, .long 0, .long 0])), (q_38, .inl (cA_39, 89, .inl (fun _ => 0))), (q_40, .inl (cA_41, 89, .inl (fun _ => 0)))] H := hP
  have hD : va_D A [(h0, .inr (6, [.ref q_38, .ref q_40, .int 0, .int 0, .long 0, .long 0])), (q_38, .inl (cA_39, 89, .inl (fun _ => 0))), (q_40, .inl (cA_41, 89, .inl (fun _ => 0)))] := hD
  have hP9 := hP.sub (ws' := [(h0, .inr (6, [.ref q_38, .ref q_40, .int 0, .int 0, .long 0, .long 0]))]) [0] rfl
  have hD9 := hD.sub (ws' := [(h0, .inr (6, [.ref q_38, .ref q_40, .int 0, .int 0, .long 0, .long 0]))]) [0] (by decide) rfl
  have hK9 := hK.sub (tys' := []) [] rfl
  refine W.widen (k := 2) (n := 178) (Nat.le_of_ble_eq_true rfl) (Nat.le_of_ble_eq_true rfl) ?_
  exact W.vret hx hb hr (fun t ht hW => ⟨⟨(), rfl, trivial, ⟨q_38, q_40, by rw [ht]; exact hP9, va_K.moved hW.alike hK9, hD9⟩⟩, hS.F ht⟩) hS.2.2 dX1_init_20
set_option maxHeartbeats 4000000 in
set_option maxRecDepth 100000 in
theorem m_structInit (l : Launch) (dC : Nat → ClassId) (dI : Nat → Nat → Nat) (sz : Nat) (h0 : Nat) : Met l yX5_init (pw_ws yX5_init cX5_init 1 none) ({ frames := 2, cells := 11, slots := 55, locals := 40 } : Room) (va_Pc [.ref h0] (fun U => U.heap.size = sz ∧ va_P (dC, dI) vwCl [(h0, .inr (10, [.null, .null, .int 0, .long 0, .int 0, .int 0, .int 0]))] U.heap ∧ va_K (dC, dI) vwCl [] U ∧ va_D (fun _ => True) [(h0, .inr (10, [.null, .null, .int 0, .long 0, .int 0, .int 0, .int 0]))])) (va_Qv (fun (_ : Unit) => True) (fun (_ : Unit) (t : State) => ∃ (f0 : Value), ∃ (f1 : Value), ∃ (f2 : Value), ∃ (f3 : Value), ∃ (f4 : Value), ∃ (f5 : Value), ∃ (f6 : Value), va_P (dC, dI) vwCl [(h0, .inr (10, [f0, f1, f2, f3, f4, f5, f6]))] t.heap ∧ va_K (dC, dI) vwCl [] t ∧ va_D (va_A [(h0, .inr (10, [.null, .null, .int 0, .long 0, .int 0, .int 0, .int 0]))] sz) [(h0, .inr (10, [f0, f1, f2, f3, f4, f5, f6]))]) (va_A [(h0, .inr (10, [.null, .null, .int 0, .long 0, .int 0, .int 0, .int 0]))] sz)) 11 55 (va_A [(h0, .inr (10, [.null, .null, .int 0, .long 0, .int 0, .int 0, .int 0]))] sz) := by
  refine Met.ofW (cc := cX5_init) (maxL := 1) (ret := none) (by decide) rfl ?_
  intro p e s m args below meth c s₁ B hml hv
  obtain ⟨rfl, hsz, hP, hK, hD0⟩ := hv
  have hx := B.exec
  have hb := B.bytes
  have hr := B.returns
  have hts0 := atoms_spec (ws := (pw_ws yX5_init cX5_init 1 none)) B.pre
  have hts : ∀ w ∈ pw_all, w.before _ s = true := fun w h => hts0 w (List.mem_cons_of_mem _ h)
  have hown : s.vm.findClass RX5 = some m.cls := findClass_of_methodNamed B.named
  have hlocks := B.notSynchronized
  have hin : meth.name = "<init>" := (name_of_methodNamed B.named B.method).1
  subst hsz
  have hD := hD0.self (sz := s.heap.size)
  generalize hAe : va_A [(h0, .inr (10, [.null, .null, .int 0, .long 0, .int 0, .int 0, .int 0]))] s.heap.size = A at hD ⊢
  have hA : ∀ q : Nat, s.heap.size ≤ q → A q := fun q h => by rw [← hAe]; exact Or.inr h
  have hS : va_S A s.heap s.heap [] := va_S.rf
  have hP : va_P (dC, dI) vwCl [(h0, .inr (10, [.null, .null, .int 0, .long 0, .int 0, .int 0, .int 0]))] s.heap := hP
  have hl := lv_entry ([.ref h0]) (n := 1) (Nat.le_of_ble_eq_true rfl)
  rw [lg_entry_eq]
  generalize (lg_sl ([.ref h0]) ++ List.replicate (1 - (lg_sl ([.ref h0])).length) Slot.unset).toArray = ls at hl ⊢
  have hl : lv_has ls 1 [(0, .ref h0)] := hl
  skip
  refine lv_aload_n hx hb dX5_init_0 rfl (lv_at hl 0 rfl) ?_
  refine W.objInit hx hb hown (hts _ q397) (hts _ q86) (hts _ q87) rfl (by rw [hml]; exact hl.1) rfl dX5_init_1 (Nat.le_of_ble_eq_true rfl) (Nat.le_of_ble_eq_true rfl) ?_
  refine W.eq (g2 := F0 m 4 ls []) rfl ?_
  refine lv_aload_n hx hb dX5_init_4 rfl (lv_at hl 0 rfl) ?_
  refine va_new (ci := 5) (fs := [.null, .null, .null, .null, .null, .null, .null, .null, .null, .int 0, .long 0]) (C := RX0) (T := TX0) (N := 11) hx hb hts inX0 tyX0 tyX0_ok hown (hts _ q398) (hts _ q145) (hts _ q48) hK hP hD hS hA rfl (fun j hj => by rcases (show j = 0 ∨ j = 1 ∨ j = 2 ∨ j = 3 ∨ j = 4 ∨ j = 5 ∨ j = 6 ∨ j = 7 ∨ j = 8 ∨ j = 9 ∨ j = 10 by omega) with rfl | rfl | rfl | rfl | rfl | rfl | rfl | rfl | rfl | rfl | rfl <;> rfl) (Nat.le_of_ble_eq_true rfl) (Nat.le_of_ble_eq_true rfl) dX5_init_5 (fun q_42 H hP hD hS => ?_)
  have hP : va_P (dC, dI) vwCl [(h0, .inr (10, [.null, .null, .int 0, .long 0, .int 0, .int 0, .int 0])), (q_42, .inr (5, [.null, .null, .null, .null, .null, .null, .null, .null, .null, .int 0, .long 0]))] H := hP
  have hD : va_D A [(h0, .inr (10, [.null, .null, .int 0, .long 0, .int 0, .int 0, .int 0])), (q_42, .inr (5, [.null, .null, .null, .null, .null, .null, .null, .null, .null, .int 0, .long 0]))] := hD
  refine W.widen (k := 1) (n := 11) (Nat.le_of_ble_eq_true rfl) (Nat.le_of_ble_eq_true rfl) ?_
  refine lv_dup hx hb dX5_init_8 rfl ?_
  have hPc := hP.sub (ws' := [(q_42, .inr (5, [.null, .null, .null, .null, .null, .null, .null, .null, .null, .int 0, .long 0]))]) [1] rfl
  have hDc := hD.sub (ws' := [(q_42, .inr (5, [.null, .null, .null, .null, .null, .null, .null, .null, .null, .int 0, .long 0]))]) [1] (by decide) rfl
  have hKc := hK.sub (tys' := []) [] rfl
  have hFc := va_free (wc := [(q_42, .inr (5, [.null, .null, .null, .null, .null, .null, .null, .null, .null, .int 0, .long 0]))]) hD hS hA [1] rfl
  refine va_callv (va_runI (As := []) (rest := [.ref q_42, .ref h0]) ⟨hx, hb, hml, hown, hts⟩ (m_chainInit l dC dI H.size q_42) (cwI 0 hts (pw_c q148) rfl rfl rfl (hts _ q48) (hts _ q399) (hts _ q147) rfl (by decide +kernel) ⟨(Nat.le_of_ble_eq_true rfl), (Nat.le_of_ble_eq_true rfl)⟩) ⟨fun a U g mk q => by obtain ⟨q0, q1, qP, qK, qD⟩ := q; exact ⟨q0, q1, qP, va_K.moved (u := U) (U := U.calling g mk a) (Vm.Alike.refl U.vm) qK, qD⟩, fun U hU hW => ⟨rfl, by rw [hU], by rw [hU]; exact hPc, va_K.moved hW.alike hKc, hDc.weaken (fun _ _ _ _ => trivial)⟩⟩ rfl rfl hl.1 rfl (lv_room (Nat.le_of_ble_eq_true rfl)) dX5_init_9 ⟨(Nat.le_of_ble_eq_true rfl), (Nat.le_of_ble_eq_true rfl)⟩) hS (fun q _ h => hFc q h) hFc (fun u t H1 locs ht hvm hw hB hz1 hk1 hS => ?_)
  obtain ⟨hP1, hK1, hD1⟩ := hB
  rw [ht] at hP1
  have hK1 := va_K.moved hvm.symm hK1
  obtain ⟨hP, hD⟩ := va_join (wr := [(h0, .inr (10, [.null, .null, .int 0, .long 0, .int 0, .int 0, .int 0]))]) (w1 := []) hP hD [1] [0] rfl rfl (by decide) (by decide) hk1 hFc hP1 hD1
  have hK := (hK.sub (tys' := []) [] rfl).app hK1
  generalize H1 = H at hP hS ⊢
  have hP : va_P (dC, dI) vwCl [(h0, .inr (10, [.null, .null, .int 0, .long 0, .int 0, .int 0, .int 0]))] H := hP
  have hD : va_D A [(h0, .inr (10, [.null, .null, .int 0, .long 0, .int 0, .int 0, .int 0]))] := hD
  have hK : va_K (dC, dI) vwCl [] s := hK
  refine W.widen (k := 10) (n := 47) (Nat.le_of_ble_eq_true rfl) (Nat.le_of_ble_eq_true rfl) ?_
  refine va_putF (D := (dC, dI)) (ci := 10) (v := .ref q_42) (ty := .object "Shakerhall$Chain") (C := RX5) (T := TX5) (N := 7) hx hb hts inX5 tyX5 tyX5_ok nmX5 hown hK hP hD hS 0 rfl rfl 0 (by decide) (hts _ q401) (fun _ h9 => h9) rfl hin rfl (by decide +kernel) rfl rfl (Nat.le_of_ble_eq_true rfl) dX5_init_12 (fun H locs hP hD hS => ?_)
  have hP : va_P (dC, dI) vwCl [(h0, .inr (10, [.ref q_42, .null, .int 0, .long 0, .int 0, .int 0, .int 0]))] H := hP
  have hD : va_D A [(h0, .inr (10, [.ref q_42, .null, .int 0, .long 0, .int 0, .int 0, .int 0]))] := hD
  refine lv_aload_n hx hb dX5_init_15 rfl (lv_at hl 0 rfl) ?_
  refine lv_bipush (v := 8) hx hb dX5_init_16 (by decide) ?_
  refine va_newa (atype := .int) (N' := 8) (a0 := (8, .inl (fun _ => 0))) (ty := .int) (n := 8) hx hb (hts _ q143) rfl hK hP hD hS hA (fun _ => rfl) (by decide) (by decide) (Nat.le_of_ble_eq_true rfl) (Nat.le_of_ble_eq_true rfl) (Nat.le_of_ble_eq_true rfl) dX5_init_18 (fun q_44 cA_45 H hK hP hD hS => ?_)
  have hP : va_P (dC, dI) vwCl [(h0, .inr (10, [.ref q_42, .null, .int 0, .long 0, .int 0, .int 0, .int 0])), (q_44, .inl (cA_45, 8, .inl (fun _ => 0)))] H := hP
  have hD : va_D A [(h0, .inr (10, [.ref q_42, .null, .int 0, .long 0, .int 0, .int 0, .int 0])), (q_44, .inl (cA_45, 8, .inl (fun _ => 0)))] := hD
  have hK : va_K (dC, dI) vwCl [(cA_45, .int)] s := hK
  refine W.widen (k := 11) (n := 55) (Nat.le_of_ble_eq_true rfl) (Nat.le_of_ble_eq_true rfl) ?_
  refine va_putF (D := (dC, dI)) (ci := 10) (v := .ref q_44) (ty := .array .int) (C := RX5) (T := TX5) (N := 7) hx hb hts inX5 tyX5 tyX5_ok nmX5 hown hK hP hD hS 0 rfl rfl 1 (by decide) (hts _ q404) (fun _ h9 => h9) rfl hin rfl (by decide +kernel) rfl rfl (Nat.le_of_ble_eq_true rfl) dX5_init_20 (fun H locs hP hD hS => ?_)
  have hP : va_P (dC, dI) vwCl [(h0, .inr (10, [.ref q_42, .ref q_44, .int 0, .long 0, .int 0, .int 0, .int 0])), (q_44, .inl (cA_45, 8, .inl (fun _ => 0)))] H := hP
  have hD : va_D A [(h0, .inr (10, [.ref q_42, .ref q_44, .int 0, .long 0, .int 0, .int 0, .int 0])), (q_44, .inl (cA_45, 8, .inl (fun _ => 0)))] := hD
  refine lv_aload_n hx hb dX5_init_23 rfl (lv_at hl 0 rfl) ?_
  refine lv_ldc (v := 1000000000) hx hb hown (hts _ q400) dX5_init_24 ?_
  refine va_put (D := (dC, dI)) (ci := 10) (v := .int 1000000000) (ty := .int) (C := RX5) (T := TX5) (N := 7) hx hb hts inX5 tyX5 tyX5_ok nmX5 hown hK hP hD hS 0 rfl rfl 2 (by decide) (hts _ q407) (fun _ h9 => h9) rfl (by decide +kernel) rfl rfl (Nat.le_of_ble_eq_true rfl) dX5_init_26 (fun H locs hP hD hS => ?_)
  have hP : va_P (dC, dI) vwCl [(h0, .inr (10, [.ref q_42, .ref q_44, .int 1000000000, .long 0, .int 0, .int 0, .int 0])), (q_44, .inl (cA_45, 8, .inl (fun _ => 0)))] H := hP
  have hD : va_D A [(h0, .inr (10, [.ref q_42, .ref q_44, .int 1000000000, .long 0, .int 0, .int 0, .int 0])), (q_44, .inl (cA_45, 8, .inl (fun _ => 0)))] := hD
  have hP9 := hP.sub (ws' := [(h0, .inr (10, [.ref q_42, .ref q_44, .int 1000000000, .long 0, .int 0, .int 0, .int 0]))]) [0] rfl
  have hD9 := hD.sub (ws' := [(h0, .inr (10, [.ref q_42, .ref q_44, .int 1000000000, .long 0, .int 0, .int 0, .int 0]))]) [0] (by decide) rfl
  have hK9 := hK.sub (tys' := []) [] rfl
  refine W.widen (k := 11) (n := 55) (Nat.le_of_ble_eq_true rfl) (Nat.le_of_ble_eq_true rfl) ?_
  exact W.vret hx hb hr (fun t ht hW => ⟨⟨(), rfl, trivial, ⟨(.ref q_42), (.ref q_44), (.int 1000000000), (.long 0), (.int 0), (.int 0), (.int 0), by rw [ht]; exact hP9, va_K.moved hW.alike hK9, hD9⟩⟩, hS.F ht⟩) hS.2.2 dX5_init_29
set_option maxHeartbeats 4000000 in
set_option maxRecDepth 100000 in
theorem m_specInit (l : Launch) (dC : Nat → ClassId) (dI : Nat → Nat → Nat) (sz : Nat) (h0 : Nat) : Met l yX4_init (pw_ws yX4_init cX4_init 1 none) ({ frames := 1, cells := 2, slots := 16, locals := 20 } : Room) (va_Pc [.ref h0] (fun U => U.heap.size = sz ∧ va_P (dC, dI) vwCl [(h0, .inr (9, [.null, .null]))] U.heap ∧ va_K (dC, dI) vwCl [] U ∧ va_D (fun _ => True) [(h0, .inr (9, [.null, .null]))])) (va_Qv (fun (_ : Unit) => True) (fun (_ : Unit) (t : State) => ∃ (f0 : Value), ∃ (f1 : Value), va_P (dC, dI) vwCl [(h0, .inr (9, [f0, f1]))] t.heap ∧ va_K (dC, dI) vwCl [] t ∧ va_D (va_A [(h0, .inr (9, [.null, .null]))] sz) [(h0, .inr (9, [f0, f1]))]) (va_A [(h0, .inr (9, [.null, .null]))] sz)) 2 16 (va_A [(h0, .inr (9, [.null, .null]))] sz) := by
  refine Met.ofW (cc := cX4_init) (maxL := 1) (ret := none) (by decide) rfl ?_
  intro p e s m args below meth c s₁ B hml hv
  obtain ⟨rfl, hsz, hP, hK, hD0⟩ := hv
  have hx := B.exec
  have hb := B.bytes
  have hr := B.returns
  have hts0 := atoms_spec (ws := (pw_ws yX4_init cX4_init 1 none)) B.pre
  have hts : ∀ w ∈ pw_all, w.before _ s = true := fun w h => hts0 w (List.mem_cons_of_mem _ h)
  have hown : s.vm.findClass RX4 = some m.cls := findClass_of_methodNamed B.named
  have hlocks := B.notSynchronized
  have hin : meth.name = "<init>" := (name_of_methodNamed B.named B.method).1
  subst hsz
  have hD := hD0.self (sz := s.heap.size)
  generalize hAe : va_A [(h0, .inr (9, [.null, .null]))] s.heap.size = A at hD ⊢
  have hA : ∀ q : Nat, s.heap.size ≤ q → A q := fun q h => by rw [← hAe]; exact Or.inr h
  have hS : va_S A s.heap s.heap [] := va_S.rf
  have hP : va_P (dC, dI) vwCl [(h0, .inr (9, [.null, .null]))] s.heap := hP
  have hl := lv_entry ([.ref h0]) (n := 1) (Nat.le_of_ble_eq_true rfl)
  rw [lg_entry_eq]
  generalize (lg_sl ([.ref h0]) ++ List.replicate (1 - (lg_sl ([.ref h0])).length) Slot.unset).toArray = ls at hl ⊢
  have hl : lv_has ls 1 [(0, .ref h0)] := hl
  skip
  refine lv_aload_n hx hb dX4_init_0 rfl (lv_at hl 0 rfl) ?_
  refine W.objInit hx hb hown (hts _ q724) (hts _ q86) (hts _ q87) rfl (by rw [hml]; exact hl.1) rfl dX4_init_1 (Nat.le_of_ble_eq_true rfl) (Nat.le_of_ble_eq_true rfl) ?_
  refine W.eq (g2 := F0 m 4 ls []) rfl ?_
  refine lv_aload_n hx hb dX4_init_4 rfl (lv_at hl 0 rfl) ?_
  refine lv_bipush (v := 8) hx hb dX4_init_5 (by decide) ?_
  refine va_newa (atype := .int) (N' := 8) (a0 := (8, .inl (fun _ => 0))) (ty := .int) (n := 8) hx hb (hts _ q143) rfl hK hP hD hS hA (fun _ => rfl) (by decide) (by decide) (Nat.le_of_ble_eq_true rfl) (Nat.le_of_ble_eq_true rfl) (Nat.le_of_ble_eq_true rfl) dX4_init_7 (fun q_46 cA_47 H hK hP hD hS => ?_)
  have hP : va_P (dC, dI) vwCl [(h0, .inr (9, [.null, .null])), (q_46, .inl (cA_47, 8, .inl (fun _ => 0)))] H := hP
  have hD : va_D A [(h0, .inr (9, [.null, .null])), (q_46, .inl (cA_47, 8, .inl (fun _ => 0)))] := hD
  have hK : va_K (dC, dI) vwCl [(cA_47, .int)] s := hK
  refine W.widen (k := 1) (n := 8) (Nat.le_of_ble_eq_true rfl) (Nat.le_of_ble_eq_true rfl) ?_
  refine va_putF (D := (dC, dI)) (ci := 9) (v := .ref q_46) (ty := .array .int) (C := RX4) (T := TX4) (N := 2) hx hb hts inX4 tyX4 tyX4_ok nmX4 hown hK hP hD hS 0 rfl rfl 0 (by decide) (hts _ q725) (fun _ h9 => h9) rfl hin rfl (by decide +kernel) rfl rfl (Nat.le_of_ble_eq_true rfl) dX4_init_9 (fun H locs hP hD hS => ?_)
  have hP : va_P (dC, dI) vwCl [(h0, .inr (9, [.ref q_46, .null])), (q_46, .inl (cA_47, 8, .inl (fun _ => 0)))] H := hP
  have hD : va_D A [(h0, .inr (9, [.ref q_46, .null])), (q_46, .inl (cA_47, 8, .inl (fun _ => 0)))] := hD
  refine lv_aload_n hx hb dX4_init_12 rfl (lv_at hl 0 rfl) ?_
  refine lv_bipush (v := 8) hx hb dX4_init_13 (by decide) ?_
  refine va_newa (atype := .int) (N' := 8) (a0 := (8, .inl (fun _ => 0))) (ty := .int) (n := 8) hx hb (hts _ q143) rfl hK hP hD hS hA (fun _ => rfl) (by decide) (by decide) (Nat.le_of_ble_eq_true rfl) (Nat.le_of_ble_eq_true rfl) (Nat.le_of_ble_eq_true rfl) dX4_init_15 (fun q_48 cA_49 H hK hP hD hS => ?_)
  have hP : va_P (dC, dI) vwCl [(h0, .inr (9, [.ref q_46, .null])), (q_46, .inl (cA_47, 8, .inl (fun _ => 0))), (q_48, .inl (cA_49, 8, .inl (fun _ => 0)))] H := hP
  have hD : va_D A [(h0, .inr (9, [.ref q_46, .null])), (q_46, .inl (cA_47, 8, .inl (fun _ => 0))), (q_48, .inl (cA_49, 8, .inl (fun _ => 0)))] := hD
  have hK : va_K (dC, dI) vwCl [(cA_47, .int), (cA_49, .int)] s := hK
  refine W.widen (k := 2) (n := 16) (Nat.le_of_ble_eq_true rfl) (Nat.le_of_ble_eq_true rfl) ?_
  refine lv_dup hx hb dX4_init_17 rfl ?_
  refine lv_iconst (v := 0) hx hb dX4_init_18 (by decide) ?_
  refine lv_bipush (v := 10) hx hb dX4_init_19 (by decide) ?_
  refine va_iast hx hb hK hP hD hS 2 1 rfl rfl (by unfold vp_in; decide) dX4_init_21 (fun H locs hP hD hS => ?_)
  have hP : va_P (dC, dI) vwCl [(h0, .inr (9, [.ref q_46, .null])), (q_46, .inl (cA_47, 8, .inl (fun _ => 0))), (q_48, .inl (cA_49, 8, .inl (upd (fun _ => 0) (0 : Int32).toNatClampNeg 10)))] H := hP
  have hD : va_D A [(h0, .inr (9, [.ref q_46, .null])), (q_46, .inl (cA_47, 8, .inl (fun _ => 0))), (q_48, .inl (cA_49, 8, .inl (upd (fun _ => 0) (0 : Int32).toNatClampNeg 10)))] := hD
  generalize (upd (fun _ => 0) (0 : Int32).toNatClampNeg 10) = f_50 at hP hD
  refine lv_dup hx hb dX4_init_22 rfl ?_
  refine lv_iconst (v := 1) hx hb dX4_init_23 (by decide) ?_
  refine lv_bipush (v := 10) hx hb dX4_init_24 (by decide) ?_
  refine va_iast hx hb hK hP hD hS 2 1 rfl rfl (by unfold vp_in; decide) dX4_init_26 (fun H locs hP hD hS => ?_)
  have hP : va_P (dC, dI) vwCl [(h0, .inr (9, [.ref q_46, .null])), (q_46, .inl (cA_47, 8, .inl (fun _ => 0))), (q_48, .inl (cA_49, 8, .inl (upd f_50 (1 : Int32).toNatClampNeg 10)))] H := hP
  have hD : va_D A [(h0, .inr (9, [.ref q_46, .null])), (q_46, .inl (cA_47, 8, .inl (fun _ => 0))), (q_48, .inl (cA_49, 8, .inl (upd f_50 (1 : Int32).toNatClampNeg 10)))] := hD
  generalize (upd f_50 (1 : Int32).toNatClampNeg 10) = f_51 at hP hD
  refine lv_dup hx hb dX4_init_27 rfl ?_
  refine lv_iconst (v := 2) hx hb dX4_init_28 (by decide) ?_
  refine lv_bipush (v := 10) hx hb dX4_init_29 (by decide) ?_
  refine va_iast hx hb hK hP hD hS 2 1 rfl rfl (by unfold vp_in; decide) dX4_init_31 (fun H locs hP hD hS => ?_)
  have hP : va_P (dC, dI) vwCl [(h0, .inr (9, [.ref q_46, .null])), (q_46, .inl (cA_47, 8, .inl (fun _ => 0))), (q_48, .inl (cA_49, 8, .inl (upd f_51 (2 : Int32).toNatClampNeg 10)))] H := hP
  have hD : va_D A [(h0, .inr (9, [.ref q_46, .null])), (q_46, .inl (cA_47, 8, .inl (fun _ => 0))), (q_48, .inl (cA_49, 8, .inl (upd f_51 (2 : Int32).toNatClampNeg 10)))] := hD
  generalize (upd f_51 (2 : Int32).toNatClampNeg 10) = f_52 at hP hD
  refine lv_dup hx hb dX4_init_32 rfl ?_
  refine lv_iconst (v := 3) hx hb dX4_init_33 (by decide) ?_
  refine lv_bipush (v := 10) hx hb dX4_init_34 (by decide) ?_
  refine va_iast hx hb hK hP hD hS 2 1 rfl rfl (by unfold vp_in; decide) dX4_init_36 (fun H locs hP hD hS => ?_)
  have hP : va_P (dC, dI) vwCl [(h0, .inr (9, [.ref q_46, .null])), (q_46, .inl (cA_47, 8, .inl (fun _ => 0))), (q_48, .inl (cA_49, 8, .inl (upd f_52 (3 : Int32).toNatClampNeg 10)))] H := hP
  have hD : va_D A [(h0, .inr (9, [.ref q_46, .null])), (q_46, .inl (cA_47, 8, .inl (fun _ => 0))), (q_48, .inl (cA_49, 8, .inl (upd f_52 (3 : Int32).toNatClampNeg 10)))] := hD
  generalize (upd f_52 (3 : Int32).toNatClampNeg 10) = f_53 at hP hD
  refine lv_dup hx hb dX4_init_37 rfl ?_
  refine lv_iconst (v := 4) hx hb dX4_init_38 (by decide) ?_
  refine lv_bipush (v := 10) hx hb dX4_init_39 (by decide) ?_
  refine va_iast hx hb hK hP hD hS 2 1 rfl rfl (by unfold vp_in; decide) dX4_init_41 (fun H locs hP hD hS => ?_)
  have hP : va_P (dC, dI) vwCl [(h0, .inr (9, [.ref q_46, .null])), (q_46, .inl (cA_47, 8, .inl (fun _ => 0))), (q_48, .inl (cA_49, 8, .inl (upd f_53 (4 : Int32).toNatClampNeg 10)))] H := hP
  have hD : va_D A [(h0, .inr (9, [.ref q_46, .null])), (q_46, .inl (cA_47, 8, .inl (fun _ => 0))), (q_48, .inl (cA_49, 8, .inl (upd f_53 (4 : Int32).toNatClampNeg 10)))] := hD
  generalize (upd f_53 (4 : Int32).toNatClampNeg 10) = f_54 at hP hD
  refine lv_dup hx hb dX4_init_42 rfl ?_
  refine lv_iconst (v := 5) hx hb dX4_init_43 (by decide) ?_
  refine lv_bipush (v := 10) hx hb dX4_init_44 (by decide) ?_
  refine va_iast hx hb hK hP hD hS 2 1 rfl rfl (by unfold vp_in; decide) dX4_init_46 (fun H locs hP hD hS => ?_)
  have hP : va_P (dC, dI) vwCl [(h0, .inr (9, [.ref q_46, .null])), (q_46, .inl (cA_47, 8, .inl (fun _ => 0))), (q_48, .inl (cA_49, 8, .inl (upd f_54 (5 : Int32).toNatClampNeg 10)))] H := hP
  have hD : va_D A [(h0, .inr (9, [.ref q_46, .null])), (q_46, .inl (cA_47, 8, .inl (fun _ => 0))), (q_48, .inl (cA_49, 8, .inl (upd f_54 (5 : Int32).toNatClampNeg 10)))] := hD
  generalize (upd f_54 (5 : Int32).toNatClampNeg 10) = f_55 at hP hD
  refine lv_dup hx hb dX4_init_47 rfl ?_
  refine lv_bipush (v := 6) hx hb dX4_init_48 (by decide) ?_
  refine lv_bipush (v := 10) hx hb dX4_init_50 (by decide) ?_
  refine va_iast hx hb hK hP hD hS 2 1 rfl rfl (by unfold vp_in; decide) dX4_init_52 (fun H locs hP hD hS => ?_)
  have hP : va_P (dC, dI) vwCl [(h0, .inr (9, [.ref q_46, .null])), (q_46, .inl (cA_47, 8, .inl (fun _ => 0))), (q_48, .inl (cA_49, 8, .inl (upd f_55 (6 : Int32).toNatClampNeg 10)))] H := hP
  have hD : va_D A [(h0, .inr (9, [.ref q_46, .null])), (q_46, .inl (cA_47, 8, .inl (fun _ => 0))), (q_48, .inl (cA_49, 8, .inl (upd f_55 (6 : Int32).toNatClampNeg 10)))] := hD
  generalize (upd f_55 (6 : Int32).toNatClampNeg 10) = f_56 at hP hD
  refine lv_dup hx hb dX4_init_53 rfl ?_
  refine lv_bipush (v := 7) hx hb dX4_init_54 (by decide) ?_
  refine lv_bipush (v := 10) hx hb dX4_init_56 (by decide) ?_
  refine va_iast hx hb hK hP hD hS 2 1 rfl rfl (by unfold vp_in; decide) dX4_init_58 (fun H locs hP hD hS => ?_)
  have hP : va_P (dC, dI) vwCl [(h0, .inr (9, [.ref q_46, .null])), (q_46, .inl (cA_47, 8, .inl (fun _ => 0))), (q_48, .inl (cA_49, 8, .inl (upd f_56 (7 : Int32).toNatClampNeg 10)))] H := hP
  have hD : va_D A [(h0, .inr (9, [.ref q_46, .null])), (q_46, .inl (cA_47, 8, .inl (fun _ => 0))), (q_48, .inl (cA_49, 8, .inl (upd f_56 (7 : Int32).toNatClampNeg 10)))] := hD
  generalize (upd f_56 (7 : Int32).toNatClampNeg 10) = f_57 at hP hD
  refine va_putF (D := (dC, dI)) (ci := 9) (v := .ref q_48) (ty := .array .int) (C := RX4) (T := TX4) (N := 2) hx hb hts inX4 tyX4 tyX4_ok nmX4 hown hK hP hD hS 0 rfl rfl 1 (by decide) (hts _ q728) (fun _ h9 => h9) rfl hin rfl (by decide +kernel) rfl rfl (Nat.le_of_ble_eq_true rfl) dX4_init_59 (fun H locs hP hD hS => ?_)
  have hP : va_P (dC, dI) vwCl [(h0, .inr (9, [.ref q_46, .ref q_48])), (q_46, .inl (cA_47, 8, .inl (fun _ => 0))), (q_48, .inl (cA_49, 8, .inl f_57))] H := hP
  have hD : va_D A [(h0, .inr (9, [.ref q_46, .ref q_48])), (q_46, .inl (cA_47, 8, .inl (fun _ => 0))), (q_48, .inl (cA_49, 8, .inl f_57))] := hD
  have hP9 := hP.sub (ws' := [(h0, .inr (9, [.ref q_46, .ref q_48]))]) [0] rfl
  have hD9 := hD.sub (ws' := [(h0, .inr (9, [.ref q_46, .ref q_48]))]) [0] (by decide) rfl
  have hK9 := hK.sub (tys' := []) [] rfl
  refine W.widen (k := 2) (n := 16) (Nat.le_of_ble_eq_true rfl) (Nat.le_of_ble_eq_true rfl) ?_
  exact W.vret hx hb hr (fun t ht hW => ⟨⟨(), rfl, trivial, ⟨(.ref q_46), (.ref q_48), by rw [ht]; exact hP9, va_K.moved hW.alike hK9, hD9⟩⟩, hS.F ht⟩) hS.2.2 dX4_init_62
set_option maxHeartbeats 4000000 in
set_option maxRecDepth 100000 in
theorem m_hallInit (l : Launch) (dC : Nat → ClassId) (dI : Nat → Nat → Nat) (sz : Nat) (ed : Nat) (h0 : Nat) : Met l yX6_init (pw_ws yX6_init cX6_init 1 none) ({ frames := 4, cells := 18, slots := 267, locals := 80 } : Room) (va_Pc [.ref h0] (fun U => U.heap.size = sz ∧ va_P (dC, dI) vwCl [(h0, .inr (11, [.null, .null, .null, .null, .null, .int 0, .null, .null]))] U.heap ∧ va_K (dC, dI) vwCl [] U ∧ va_D (fun _ => True) [(h0, .inr (11, [.null, .null, .null, .null, .null, .int 0, .null, .null]))] ∧ pz ed (va_A [(h0, .inr (11, [.null, .null, .null, .null, .null, .int 0, .null, .null]))] sz) U U.heap)) (va_Qv (fun (_ : Unit) => True) (fun (_ : Unit) (t : State) => ∃ (a1 : Nat), ∃ (a2 : Nat), ∃ (a3 : Nat), ∃ (a4 : Nat), ∃ (tt : Nat), ∃ (rr : Nat), ∃ (cq : Nat), ∃ (t1 : Nat), ∃ (t2 : Nat), ∃ (cT : ClassId), va_P (dC, dI) vwCl [(h0, .inr (11, [.ref a1, .ref a2, .ref a3, .ref a4, .ref tt, .int 0, .ref rr, .ref cq])), (a1, .inr (4, [.int 0, .ref ed, .int 0])), (a2, .inr (4, [.int 0, .ref ed, .int 0])), (a3, .inr (4, [.int 0, .ref ed, .int 0])), (a4, .inr (4, [.int 0, .ref ed, .int 0])), (tt, .inl (cT, 24, .inl (fun _ => 0))), (rr, .inr (6, [.ref t1, .ref t2, .int 0, .int 0, .long 0, .long 0]))] t.heap ∧ va_K (dC, dI) vwCl [(cT, .int)] t ∧ va_D (va_A [(h0, .inr (11, [.null, .null, .null, .null, .null, .int 0, .null, .null]))] sz) [(h0, .inr (11, [.ref a1, .ref a2, .ref a3, .ref a4, .ref tt, .int 0, .ref rr, .ref cq])), (a1, .inr (4, [.int 0, .ref ed, .int 0])), (a2, .inr (4, [.int 0, .ref ed, .int 0])), (a3, .inr (4, [.int 0, .ref ed, .int 0])), (a4, .inr (4, [.int 0, .ref ed, .int 0])), (tt, .inl (cT, 24, .inl (fun _ => 0))), (rr, .inr (6, [.ref t1, .ref t2, .int 0, .int 0, .long 0, .long 0]))]) (va_A [(h0, .inr (11, [.null, .null, .null, .null, .null, .int 0, .null, .null]))] sz)) 18 267 (va_A [(h0, .inr (11, [.null, .null, .null, .null, .null, .int 0, .null, .null]))] sz) := by
  refine Met.ofW (cc := cX6_init) (maxL := 1) (ret := none) (by decide) rfl ?_
  intro p e s m args below meth c s₁ B hml hv
  obtain ⟨rfl, hsz, hP, hK, hD0, hZ⟩ := hv
  have hx := B.exec
  have hb := B.bytes
  have hr := B.returns
  have hts0 := atoms_spec (ws := (pw_ws yX6_init cX6_init 1 none)) B.pre
  have hts : ∀ w ∈ pw_all, w.before _ s = true := fun w h => hts0 w (List.mem_cons_of_mem _ h)
  have hown : s.vm.findClass RX6 = some m.cls := findClass_of_methodNamed B.named
  have hlocks := B.notSynchronized
  have hin : meth.name = "<init>" := (name_of_methodNamed B.named B.method).1
  subst hsz
  have hD := hD0.self (sz := s.heap.size)
  generalize hAe : va_A [(h0, .inr (11, [.null, .null, .null, .null, .null, .int 0, .null, .null]))] s.heap.size = A at hD hZ ⊢
  have hA : ∀ q : Nat, s.heap.size ≤ q → A q := fun q h => by rw [← hAe]; exact Or.inr h
  have hS : va_S A s.heap s.heap [] := va_S.rf
  have hP : va_P (dC, dI) vwCl [(h0, .inr (11, [.null, .null, .null, .null, .null, .int 0, .null, .null]))] s.heap := hP
  have hl := lv_entry ([.ref h0]) (n := 1) (Nat.le_of_ble_eq_true rfl)
  rw [lg_entry_eq]
  generalize (lg_sl ([.ref h0]) ++ List.replicate (1 - (lg_sl ([.ref h0])).length) Slot.unset).toArray = ls at hl ⊢
  have hl : lv_has ls 1 [(0, .ref h0)] := hl
  skip
  refine lv_aload_n hx hb dX6_init_0 rfl (lv_at hl 0 rfl) ?_
  refine W.objInit hx hb hown (hts _ q85) (hts _ q86) (hts _ q87) rfl (by rw [hml]; exact hl.1) rfl dX6_init_1 (Nat.le_of_ble_eq_true rfl) (Nat.le_of_ble_eq_true rfl) ?_
  refine W.eq (g2 := F0 m 4 ls []) rfl ?_
  refine lv_aload_n hx hb dX6_init_4 rfl (lv_at hl 0 rfl) ?_
  refine va_new (ci := 4) (fs := [.int 0, .null, .int 0]) (C := RJx4a65c) (T := TJx4a65c) (N := 3) hx hb hts inJx4a65c tyJx4a65c tyJx4a65c_ok hown (hts _ q88) (hts _ q89) (hts _ q46) hK hP hD hS hA rfl (fun j hj => by rcases (show j = 0 ∨ j = 1 ∨ j = 2 by omega) with rfl | rfl | rfl <;> rfl) (Nat.le_of_ble_eq_true rfl) (Nat.le_of_ble_eq_true rfl) dX6_init_5 (fun q_58 H hP hD hS => ?_)
  have hP : va_P (dC, dI) vwCl [(h0, .inr (11, [.null, .null, .null, .null, .null, .int 0, .null, .null])), (q_58, .inr (4, [.int 0, .null, .int 0]))] H := hP
  have hD : va_D A [(h0, .inr (11, [.null, .null, .null, .null, .null, .int 0, .null, .null])), (q_58, .inr (4, [.int 0, .null, .int 0]))] := hD
  refine W.widen (k := 1) (n := 3) (Nat.le_of_ble_eq_true rfl) (Nat.le_of_ble_eq_true rfl) ?_
  refine lv_dup hx hb dX6_init_8 rfl ?_
  have hPc := hP.sub (ws' := [(q_58, .inr (4, [.int 0, .null, .int 0]))]) [1] rfl
  have hDc := hD.sub (ws' := [(q_58, .inr (4, [.int 0, .null, .int 0]))]) [1] (by decide) rfl
  have hKc := hK.sub (tys' := []) [] rfl
  have hFc := va_free (wc := [(q_58, .inr (4, [.int 0, .null, .int 0]))]) hD hS hA [1] rfl
  refine va_callv (va_runI (As := []) (rest := [.ref q_58, .ref h0]) ⟨hx, hb, hml, hown, hts⟩ (m_listInit l dC dI H.size ed q_58 (.int 0) .null 0) (cwI 0 hts (pw_c q92) rfl rfl rfl (hts _ q46) (hts _ q90) (hts _ q91) rfl (by decide +kernel) ⟨(Nat.le_of_ble_eq_true rfl), (Nat.le_of_ble_eq_true rfl)⟩) ⟨fun a U g mk q => by obtain ⟨q0, q1, qP, qK, qD, qZ⟩ := q; exact ⟨q0, q1, qP, va_K.moved (u := U) (U := U.calling g mk a) (Vm.Alike.refl U.vm) qK, qD, qZ.same rfl⟩, fun U hU hW => ⟨rfl, by rw [hU], by rw [hU]; exact hPc, va_K.moved hW.alike hKc, hDc.weaken (fun _ _ _ _ => trivial), hZ.call hS hFc hU hW⟩⟩ rfl rfl hl.1 rfl (lv_room (Nat.le_of_ble_eq_true rfl)) dX6_init_9 ⟨(Nat.le_of_ble_eq_true rfl), (Nat.le_of_ble_eq_true rfl)⟩) hS (fun q _ h => hFc q h) hFc (fun u t H1 locs ht hvm hw hB hz1 hk1 hS => ?_)
  obtain ⟨hP1, hK1, hD1⟩ := hB
  rw [ht] at hP1
  have hK1 := va_K.moved hvm.symm hK1
  obtain ⟨hP, hD⟩ := va_join (wr := [(h0, .inr (11, [.null, .null, .null, .null, .null, .int 0, .null, .null]))]) (w1 := [(q_58, .inr (4, [.int 0, .ref ed, .int 0]))]) hP hD [1] [0] rfl rfl (by decide) (by decide) hk1 hFc hP1 hD1
  have hK := (hK.sub (tys' := []) [] rfl).app hK1
  generalize H1 = H at hP hS ⊢
  have hP : va_P (dC, dI) vwCl [(h0, .inr (11, [.null, .null, .null, .null, .null, .int 0, .null, .null])), (q_58, .inr (4, [.int 0, .ref ed, .int 0]))] H := hP
  have hD : va_D A [(h0, .inr (11, [.null, .null, .null, .null, .null, .int 0, .null, .null])), (q_58, .inr (4, [.int 0, .ref ed, .int 0]))] := hD
  have hK : va_K (dC, dI) vwCl [] s := hK
  refine W.widen (k := 1) (n := 3) (Nat.le_of_ble_eq_true rfl) (Nat.le_of_ble_eq_true rfl) ?_
  refine va_putF (D := (dC, dI)) (ci := 11) (v := .ref q_58) (ty := .object "java/util/ArrayList") (C := RX6) (T := TX6) (N := 8) hx hb hts inX6 tyX6 tyX6_ok nmX6 hown hK hP hD hS 0 rfl rfl 0 (by decide) (hts _ q193) (fun _ h9 => h9) rfl hin rfl (by decide +kernel) rfl rfl (Nat.le_of_ble_eq_true rfl) dX6_init_12 (fun H locs hP hD hS => ?_)
  have hP : va_P (dC, dI) vwCl [(h0, .inr (11, [.ref q_58, .null, .null, .null, .null, .int 0, .null, .null])), (q_58, .inr (4, [.int 0, .ref ed, .int 0]))] H := hP
  have hD : va_D A [(h0, .inr (11, [.ref q_58, .null, .null, .null, .null, .int 0, .null, .null])), (q_58, .inr (4, [.int 0, .ref ed, .int 0]))] := hD
  refine lv_aload_n hx hb dX6_init_15 rfl (lv_at hl 0 rfl) ?_
  refine va_new (ci := 4) (fs := [.int 0, .null, .int 0]) (C := RJx4a65c) (T := TJx4a65c) (N := 3) hx hb hts inJx4a65c tyJx4a65c tyJx4a65c_ok hown (hts _ q88) (hts _ q89) (hts _ q46) hK hP hD hS hA rfl (fun j hj => by rcases (show j = 0 ∨ j = 1 ∨ j = 2 by omega) with rfl | rfl | rfl <;> rfl) (Nat.le_of_ble_eq_true rfl) (Nat.le_of_ble_eq_true rfl) dX6_init_16 (fun q_60 H hP hD hS => ?_)
  have hP : va_P (dC, dI) vwCl [(h0, .inr (11, [.ref q_58, .null, .null, .null, .null, .int 0, .null, .null])), (q_58, .inr (4, [.int 0, .ref ed, .int 0])), (q_60, .inr (4, [.int 0, .null, .int 0]))] H := hP
  have hD : va_D A [(h0, .inr (11, [.ref q_58, .null, .null, .null, .null, .int 0, .null, .null])), (q_58, .inr (4, [.int 0, .ref ed, .int 0])), (q_60, .inr (4, [.int 0, .null, .int 0]))] := hD
  refine W.widen (k := 2) (n := 6) (Nat.le_of_ble_eq_true rfl) (Nat.le_of_ble_eq_true rfl) ?_
  refine lv_dup hx hb dX6_init_19 rfl ?_
  have hPc := hP.sub (ws' := [(q_60, .inr (4, [.int 0, .null, .int 0]))]) [2] rfl
  have hDc := hD.sub (ws' := [(q_60, .inr (4, [.int 0, .null, .int 0]))]) [2] (by decide) rfl
  have hKc := hK.sub (tys' := []) [] rfl
  have hFc := va_free (wc := [(q_60, .inr (4, [.int 0, .null, .int 0]))]) hD hS hA [2] rfl
  refine va_callv (va_runI (As := []) (rest := [.ref q_60, .ref h0]) ⟨hx, hb, hml, hown, hts⟩ (m_listInit l dC dI H.size ed q_60 (.int 0) .null 0) (cwI 0 hts (pw_c q92) rfl rfl rfl (hts _ q46) (hts _ q90) (hts _ q91) rfl (by decide +kernel) ⟨(Nat.le_of_ble_eq_true rfl), (Nat.le_of_ble_eq_true rfl)⟩) ⟨fun a U g mk q => by obtain ⟨q0, q1, qP, qK, qD, qZ⟩ := q; exact ⟨q0, q1, qP, va_K.moved (u := U) (U := U.calling g mk a) (Vm.Alike.refl U.vm) qK, qD, qZ.same rfl⟩, fun U hU hW => ⟨rfl, by rw [hU], by rw [hU]; exact hPc, va_K.moved hW.alike hKc, hDc.weaken (fun _ _ _ _ => trivial), hZ.call hS hFc hU hW⟩⟩ rfl rfl hl.1 rfl (lv_room (Nat.le_of_ble_eq_true rfl)) dX6_init_20 ⟨(Nat.le_of_ble_eq_true rfl), (Nat.le_of_ble_eq_true rfl)⟩) hS (fun q _ h => hFc q h) hFc (fun u t H1 locs ht hvm hw hB hz1 hk1 hS => ?_)
  obtain ⟨hP1, hK1, hD1⟩ := hB
  rw [ht] at hP1
  have hK1 := va_K.moved hvm.symm hK1
  obtain ⟨hP, hD⟩ := va_join (wr := [(h0, .inr (11, [.ref q_58, .null, .null, .null, .null, .int 0, .null, .null])), (q_58, .inr (4, [.int 0, .ref ed, .int 0]))]) (w1 := [(q_60, .inr (4, [.int 0, .ref ed, .int 0]))]) hP hD [2] [0, 1] rfl rfl (by decide) (by decide) hk1 hFc hP1 hD1
  have hK := (hK.sub (tys' := []) [] rfl).app hK1
  generalize H1 = H at hP hS ⊢
  have hP : va_P (dC, dI) vwCl [(h0, .inr (11, [.ref q_58, .null, .null, .null, .null, .int 0, .null, .null])), (q_58, .inr (4, [.int 0, .ref ed, .int 0])), (q_60, .inr (4, [.int 0, .ref ed, .int 0]))] H := hP
  have hD : va_D A [(h0, .inr (11, [.ref q_58, .null, .null, .null, .null, .int 0, .null, .null])), (q_58, .inr (4, [.int 0, .ref ed, .int 0])), (q_60, .inr (4, [.int 0, .ref ed, .int 0]))] := hD
  have hK : va_K (dC, dI) vwCl [] s := hK
  refine W.widen (k := 2) (n := 6) (Nat.le_of_ble_eq_true rfl) (Nat.le_of_ble_eq_true rfl) ?_
  refine va_putF (D := (dC, dI)) (ci := 11) (v := .ref q_60) (ty := .object "java/util/ArrayList") (C := RX6) (T := TX6) (N := 8) hx hb hts inX6 tyX6 tyX6_ok nmX6 hown hK hP hD hS 0 rfl rfl 1 (by decide) (hts _ q194) (fun _ h9 => h9) rfl hin rfl (by decide +kernel) rfl rfl (Nat.le_of_ble_eq_true rfl) dX6_init_23 (fun H locs hP hD hS => ?_)
  have hP : va_P (dC, dI) vwCl [(h0, .inr (11, [.ref q_58, .ref q_60, .null, .null, .null, .int 0, .null, .null])), (q_58, .inr (4, [.int 0, .ref ed, .int 0])), (q_60, .inr (4, [.int 0, .ref ed, .int 0]))] H := hP
  have hD : va_D A [(h0, .inr (11, [.ref q_58, .ref q_60, .null, .null, .null, .int 0, .null, .null])), (q_58, .inr (4, [.int 0, .ref ed, .int 0])), (q_60, .inr (4, [.int 0, .ref ed, .int 0]))] := hD
  refine lv_aload_n hx hb dX6_init_26 rfl (lv_at hl 0 rfl) ?_
  refine va_new (ci := 4) (fs := [.int 0, .null, .int 0]) (C := RJx4a65c) (T := TJx4a65c) (N := 3) hx hb hts inJx4a65c tyJx4a65c tyJx4a65c_ok hown (hts _ q88) (hts _ q89) (hts _ q46) hK hP hD hS hA rfl (fun j hj => by rcases (show j = 0 ∨ j = 1 ∨ j = 2 by omega) with rfl | rfl | rfl <;> rfl) (Nat.le_of_ble_eq_true rfl) (Nat.le_of_ble_eq_true rfl) dX6_init_27 (fun q_62 H hP hD hS => ?_)
  have hP : va_P (dC, dI) vwCl [(h0, .inr (11, [.ref q_58, .ref q_60, .null, .null, .null, .int 0, .null, .null])), (q_58, .inr (4, [.int 0, .ref ed, .int 0])), (q_60, .inr (4, [.int 0, .ref ed, .int 0])), (q_62, .inr (4, [.int 0, .null, .int 0]))] H := hP
  have hD : va_D A [(h0, .inr (11, [.ref q_58, .ref q_60, .null, .null, .null, .int 0, .null, .null])), (q_58, .inr (4, [.int 0, .ref ed, .int 0])), (q_60, .inr (4, [.int 0, .ref ed, .int 0])), (q_62, .inr (4, [.int 0, .null, .int 0]))] := hD
  refine W.widen (k := 3) (n := 9) (Nat.le_of_ble_eq_true rfl) (Nat.le_of_ble_eq_true rfl) ?_
  refine lv_dup hx hb dX6_init_30 rfl ?_
  have hPc := hP.sub (ws' := [(q_62, .inr (4, [.int 0, .null, .int 0]))]) [3] rfl
  have hDc := hD.sub (ws' := [(q_62, .inr (4, [.int 0, .null, .int 0]))]) [3] (by decide) rfl
  have hKc := hK.sub (tys' := []) [] rfl
  have hFc := va_free (wc := [(q_62, .inr (4, [.int 0, .null, .int 0]))]) hD hS hA [3] rfl
  refine va_callv (va_runI (As := []) (rest := [.ref q_62, .ref h0]) ⟨hx, hb, hml, hown, hts⟩ (m_listInit l dC dI H.size ed q_62 (.int 0) .null 0) (cwI 0 hts (pw_c q92) rfl rfl rfl (hts _ q46) (hts _ q90) (hts _ q91) rfl (by decide +kernel) ⟨(Nat.le_of_ble_eq_true rfl), (Nat.le_of_ble_eq_true rfl)⟩) ⟨fun a U g mk q => by obtain ⟨q0, q1, qP, qK, qD, qZ⟩ := q; exact ⟨q0, q1, qP, va_K.moved (u := U) (U := U.calling g mk a) (Vm.Alike.refl U.vm) qK, qD, qZ.same rfl⟩, fun U hU hW => ⟨rfl, by rw [hU], by rw [hU]; exact hPc, va_K.moved hW.alike hKc, hDc.weaken (fun _ _ _ _ => trivial), hZ.call hS hFc hU hW⟩⟩ rfl rfl hl.1 rfl (lv_room (Nat.le_of_ble_eq_true rfl)) dX6_init_31 ⟨(Nat.le_of_ble_eq_true rfl), (Nat.le_of_ble_eq_true rfl)⟩) hS (fun q _ h => hFc q h) hFc (fun u t H1 locs ht hvm hw hB hz1 hk1 hS => ?_)
  obtain ⟨hP1, hK1, hD1⟩ := hB
  rw [ht] at hP1
  have hK1 := va_K.moved hvm.symm hK1
  obtain ⟨hP, hD⟩ := va_join (wr := [(h0, .inr (11, [.ref q_58, .ref q_60, .null, .null, .null, .int 0, .null, .null])), (q_58, .inr (4, [.int 0, .ref ed, .int 0])), (q_60, .inr (4, [.int 0, .ref ed, .int 0]))]) (w1 := [(q_62, .inr (4, [.int 0, .ref ed, .int 0]))]) hP hD [3] [0, 1, 2] rfl rfl (by decide) (by decide) hk1 hFc hP1 hD1
  have hK := (hK.sub (tys' := []) [] rfl).app hK1
  generalize H1 = H at hP hS ⊢
  have hP : va_P (dC, dI) vwCl [(h0, .inr (11, [.ref q_58, .ref q_60, .null, .null, .null, .int 0, .null, .null])), (q_58, .inr (4, [.int 0, .ref ed, .int 0])), (q_60, .inr (4, [.int 0, .ref ed, .int 0])), (q_62, .inr (4, [.int 0, .ref ed, .int 0]))] H := hP
  have hD : va_D A [(h0, .inr (11, [.ref q_58, .ref q_60, .null, .null, .null, .int 0, .null, .null])), (q_58, .inr (4, [.int 0, .ref ed, .int 0])), (q_60, .inr (4, [.int 0, .ref ed, .int 0])), (q_62, .inr (4, [.int 0, .ref ed, .int 0]))] := hD
  have hK : va_K (dC, dI) vwCl [] s := hK
  refine W.widen (k := 3) (n := 9) (Nat.le_of_ble_eq_true rfl) (Nat.le_of_ble_eq_true rfl) ?_
  refine va_putF (D := (dC, dI)) (ci := 11) (v := .ref q_62) (ty := .object "java/util/ArrayList") (C := RX6) (T := TX6) (N := 8) hx hb hts inX6 tyX6 tyX6_ok nmX6 hown hK hP hD hS 0 rfl rfl 2 (by decide) (hts _ q195) (fun _ h9 => h9) rfl hin rfl (by decide +kernel) rfl rfl (Nat.le_of_ble_eq_true rfl) dX6_init_34 (fun H locs hP hD hS => ?_)
  have hP : va_P (dC, dI) vwCl [(h0, .inr (11, [.ref q_58, .ref q_60, .ref q_62, .null, .null, .int 0, .null, .null])), (q_58, .inr (4, [.int 0, .ref ed, .int 0])), (q_60, .inr (4, [.int 0, .ref ed, .int 0])), (q_62, .inr (4, [.int 0, .ref ed, .int 0]))] H := hP
  have hD : va_D A [(h0, .inr (11, [.ref q_58, .ref q_60, .ref q_62, .null, .null, .int 0, .null, .null])), (q_58, .inr (4, [.int 0, .ref ed, .int 0])), (q_60, .inr (4, [.int 0, .ref ed, .int 0])), (q_62, .inr (4, [.int 0, .ref ed, .int 0]))] := hD
  refine lv_aload_n hx hb dX6_init_37 rfl (lv_at hl 0 rfl) ?_
  refine va_new (ci := 4) (fs := [.int 0, .null, .int 0]) (C := RJx4a65c) (T := TJx4a65c) (N := 3) hx hb hts inJx4a65c tyJx4a65c tyJx4a65c_ok hown (hts _ q88) (hts _ q89) (hts _ q46) hK hP hD hS hA rfl (fun j hj => by rcases (show j = 0 ∨ j = 1 ∨ j = 2 by omega) with rfl | rfl | rfl <;> rfl) (Nat.le_of_ble_eq_true rfl) (Nat.le_of_ble_eq_true rfl) dX6_init_38 (fun q_64 H hP hD hS => ?_)
  have hP : va_P (dC, dI) vwCl [(h0, .inr (11, [.ref q_58, .ref q_60, .ref q_62, .null, .null, .int 0, .null, .null])), (q_58, .inr (4, [.int 0, .ref ed, .int 0])), (q_60, .inr (4, [.int 0, .ref ed, .int 0])), (q_62, .inr (4, [.int 0, .ref ed, .int 0])), (q_64, .inr (4, [.int 0, .null, .int 0]))] H := hP
  have hD : va_D A [(h0, .inr (11, [.ref q_58, .ref q_60, .ref q_62, .null, .null, .int 0, .null, .null])), (q_58, .inr (4, [.int 0, .ref ed, .int 0])), (q_60, .inr (4, [.int 0, .ref ed, .int 0])), (q_62, .inr (4, [.int 0, .ref ed, .int 0])), (q_64, .inr (4, [.int 0, .null, .int 0]))] := hD
  refine W.widen (k := 4) (n := 12) (Nat.le_of_ble_eq_true rfl) (Nat.le_of_ble_eq_true rfl) ?_
  refine lv_dup hx hb dX6_init_41 rfl ?_
  have hPc := hP.sub (ws' := [(q_64, .inr (4, [.int 0, .null, .int 0]))]) [4] rfl
  have hDc := hD.sub (ws' := [(q_64, .inr (4, [.int 0, .null, .int 0]))]) [4] (by decide) rfl
  have hKc := hK.sub (tys' := []) [] rfl
  have hFc := va_free (wc := [(q_64, .inr (4, [.int 0, .null, .int 0]))]) hD hS hA [4] rfl
  refine va_callv (va_runI (As := []) (rest := [.ref q_64, .ref h0]) ⟨hx, hb, hml, hown, hts⟩ (m_listInit l dC dI H.size ed q_64 (.int 0) .null 0) (cwI 0 hts (pw_c q92) rfl rfl rfl (hts _ q46) (hts _ q90) (hts _ q91) rfl (by decide +kernel) ⟨(Nat.le_of_ble_eq_true rfl), (Nat.le_of_ble_eq_true rfl)⟩) ⟨fun a U g mk q => by obtain ⟨q0, q1, qP, qK, qD, qZ⟩ := q; exact ⟨q0, q1, qP, va_K.moved (u := U) (U := U.calling g mk a) (Vm.Alike.refl U.vm) qK, qD, qZ.same rfl⟩, fun U hU hW => ⟨rfl, by rw [hU], by rw [hU]; exact hPc, va_K.moved hW.alike hKc, hDc.weaken (fun _ _ _ _ => trivial), hZ.call hS hFc hU hW⟩⟩ rfl rfl hl.1 rfl (lv_room (Nat.le_of_ble_eq_true rfl)) dX6_init_42 ⟨(Nat.le_of_ble_eq_true rfl), (Nat.le_of_ble_eq_true rfl)⟩) hS (fun q _ h => hFc q h) hFc (fun u t H1 locs ht hvm hw hB hz1 hk1 hS => ?_)
  obtain ⟨hP1, hK1, hD1⟩ := hB
  rw [ht] at hP1
  have hK1 := va_K.moved hvm.symm hK1
  obtain ⟨hP, hD⟩ := va_join (wr := [(h0, .inr (11, [.ref q_58, .ref q_60, .ref q_62, .null, .null, .int 0, .null, .null])), (q_58, .inr (4, [.int 0, .ref ed, .int 0])), (q_60, .inr (4, [.int 0, .ref ed, .int 0])), (q_62, .inr (4, [.int 0, .ref ed, .int 0]))]) (w1 := [(q_64, .inr (4, [.int 0, .ref ed, .int 0]))]) hP hD [4] [0, 1, 2, 3] rfl rfl (by decide) (by decide) hk1 hFc hP1 hD1
  have hK := (hK.sub (tys' := []) [] rfl).app hK1
  generalize H1 = H at hP hS ⊢
  have hP : va_P (dC, dI) vwCl [(h0, .inr (11, [.ref q_58, .ref q_60, .ref q_62, .null, .null, .int 0, .null, .null])), (q_58, .inr (4, [.int 0, .ref ed, .int 0])), (q_60, .inr (4, [.int 0, .ref ed, .int 0])), (q_62, .inr (4, [.int 0, .ref ed, .int 0])), (q_64, .inr (4, [.int 0, .ref ed, .int 0]))] H := hP
  have hD : va_D A [(h0, .inr (11, [.ref q_58, .ref q_60, .ref q_62, .null, .null, .int 0, .null, .null])), (q_58, .inr (4, [.int 0, .ref ed, .int 0])), (q_60, .inr (4, [.int 0, .ref ed, .int 0])), (q_62, .inr (4, [.int 0, .ref ed, .int 0])), (q_64, .inr (4, [.int 0, .ref ed, .int 0]))] := hD
  have hK : va_K (dC, dI) vwCl [] s := hK
  refine W.widen (k := 4) (n := 12) (Nat.le_of_ble_eq_true rfl) (Nat.le_of_ble_eq_true rfl) ?_
  refine va_putF (D := (dC, dI)) (ci := 11) (v := .ref q_64) (ty := .object "java/util/ArrayList") (C := RX6) (T := TX6) (N := 8) hx hb hts inX6 tyX6 tyX6_ok nmX6 hown hK hP hD hS 0 rfl rfl 3 (by decide) (hts _ q196) (fun _ h9 => h9) rfl hin rfl (by decide +kernel) rfl rfl (Nat.le_of_ble_eq_true rfl) dX6_init_45 (fun H locs hP hD hS => ?_)
  have hP : va_P (dC, dI) vwCl [(h0, .inr (11, [.ref q_58, .ref q_60, .ref q_62, .ref q_64, .null, .int 0, .null, .null])), (q_58, .inr (4, [.int 0, .ref ed, .int 0])), (q_60, .inr (4, [.int 0, .ref ed, .int 0])), (q_62, .inr (4, [.int 0, .ref ed, .int 0])), (q_64, .inr (4, [.int 0, .ref ed, .int 0]))] H := hP
  have hD : va_D A [(h0, .inr (11, [.ref q_58, .ref q_60, .ref q_62, .ref q_64, .null, .int 0, .null, .null])), (q_58, .inr (4, [.int 0, .ref ed, .int 0])), (q_60, .inr (4, [.int 0, .ref ed, .int 0])), (q_62, .inr (4, [.int 0, .ref ed, .int 0])), (q_64, .inr (4, [.int 0, .ref ed, .int 0]))] := hD
  refine lv_aload_n hx hb dX6_init_48 rfl (lv_at hl 0 rfl) ?_
  refine lv_bipush (v := 24) hx hb dX6_init_49 (by decide) ?_
  refine va_newa (atype := .int) (N' := 24) (a0 := (24, .inl (fun _ => 0))) (ty := .int) (n := 24) hx hb (hts _ q143) rfl hK hP hD hS hA (fun _ => rfl) (by decide) (by decide) (Nat.le_of_ble_eq_true rfl) (Nat.le_of_ble_eq_true rfl) (Nat.le_of_ble_eq_true rfl) dX6_init_51 (fun q_66 cA_67 H hK hP hD hS => ?_)
  have hP : va_P (dC, dI) vwCl [(h0, .inr (11, [.ref q_58, .ref q_60, .ref q_62, .ref q_64, .null, .int 0, .null, .null])), (q_58, .inr (4, [.int 0, .ref ed, .int 0])), (q_60, .inr (4, [.int 0, .ref ed, .int 0])), (q_62, .inr (4, [.int 0, .ref ed, .int 0])), (q_64, .inr (4, [.int 0, .ref ed, .int 0])), (q_66, .inl (cA_67, 24, .inl (fun _ => 0)))] H := hP
  have hD : va_D A [(h0, .inr (11, [.ref q_58, .ref q_60, .ref q_62, .ref q_64, .null, .int 0, .null, .null])), (q_58, .inr (4, [.int 0, .ref ed, .int 0])), (q_60, .inr (4, [.int 0, .ref ed, .int 0])), (q_62, .inr (4, [.int 0, .ref ed, .int 0])), (q_64, .inr (4, [.int 0, .ref ed, .int 0])), (q_66, .inl (cA_67, 24, .inl (fun _ => 0)))] := hD
  have hK : va_K (dC, dI) vwCl [(cA_67, .int)] s := hK
  refine W.widen (k := 5) (n := 36) (Nat.le_of_ble_eq_true rfl) (Nat.le_of_ble_eq_true rfl) ?_
  refine va_putF (D := (dC, dI)) (ci := 11) (v := .ref q_66) (ty := .array .int) (C := RX6) (T := TX6) (N := 8) hx hb hts inX6 tyX6 tyX6_ok nmX6 hown hK hP hD hS 0 rfl rfl 4 (by decide) (hts _ q197) (fun _ h9 => h9) rfl hin rfl (by decide +kernel) rfl rfl (Nat.le_of_ble_eq_true rfl) dX6_init_53 (fun H locs hP hD hS => ?_)
  have hP : va_P (dC, dI) vwCl [(h0, .inr (11, [.ref q_58, .ref q_60, .ref q_62, .ref q_64, .ref q_66, .int 0, .null, .null])), (q_58, .inr (4, [.int 0, .ref ed, .int 0])), (q_60, .inr (4, [.int 0, .ref ed, .int 0])), (q_62, .inr (4, [.int 0, .ref ed, .int 0])), (q_64, .inr (4, [.int 0, .ref ed, .int 0])), (q_66, .inl (cA_67, 24, .inl (fun _ => 0)))] H := hP
  have hD : va_D A [(h0, .inr (11, [.ref q_58, .ref q_60, .ref q_62, .ref q_64, .ref q_66, .int 0, .null, .null])), (q_58, .inr (4, [.int 0, .ref ed, .int 0])), (q_60, .inr (4, [.int 0, .ref ed, .int 0])), (q_62, .inr (4, [.int 0, .ref ed, .int 0])), (q_64, .inr (4, [.int 0, .ref ed, .int 0])), (q_66, .inl (cA_67, 24, .inl (fun _ => 0)))] := hD
  refine lv_aload_n hx hb dX6_init_56 rfl (lv_at hl 0 rfl) ?_
  refine va_new (ci := 6) (fs := [.null, .null, .int 0, .int 0, .long 0, .long 0]) (C := RX1) (T := TX1) (N := 6) hx hb hts inX1 tyX1 tyX1_ok hown (hts _ q117) (hts _ q118) (hts _ q47) hK hP hD hS hA rfl (fun j hj => by rcases (show j = 0 ∨ j = 1 ∨ j = 2 ∨ j = 3 ∨ j = 4 ∨ j = 5 by omega) with rfl | rfl | rfl | rfl | rfl | rfl <;> rfl) (Nat.le_of_ble_eq_true rfl) (Nat.le_of_ble_eq_true rfl) dX6_init_57 (fun q_68 H hP hD hS => ?_)
  have hP : va_P (dC, dI) vwCl [(h0, .inr (11, [.ref q_58, .ref q_60, .ref q_62, .ref q_64, .ref q_66, .int 0, .null, .null])), (q_58, .inr (4, [.int 0, .ref ed, .int 0])), (q_60, .inr (4, [.int 0, .ref ed, .int 0])), (q_62, .inr (4, [.int 0, .ref ed, .int 0])), (q_64, .inr (4, [.int 0, .ref ed, .int 0])), (q_66, .inl (cA_67, 24, .inl (fun _ => 0))), (q_68, .inr (6, [.null, .null, .int 0, .int 0, .long 0, .long 0]))] H := hP
  have hD : va_D A [(h0, .inr (11, [.ref q_58, .ref q_60, .ref q_62, .ref q_64, .ref q_66, .int 0, .null, .null])), (q_58, .inr (4, [.int 0, .ref ed, .int 0])), (q_60, .inr (4, [.int 0, .ref ed, .int 0])), (q_62, .inr (4, [.int 0, .ref ed, .int 0])), (q_64, .inr (4, [.int 0, .ref ed, .int 0])), (q_66, .inl (cA_67, 24, .inl (fun _ => 0))), (q_68, .inr (6, [.null, .null, .int 0, .int 0, .long 0, .long 0]))] := hD
  refine W.widen (k := 6) (n := 42) (Nat.le_of_ble_eq_true rfl) (Nat.le_of_ble_eq_true rfl) ?_
  refine lv_dup hx hb dX6_init_60 rfl ?_
  have hPc := hP.sub (ws' := [(q_68, .inr (6, [.null, .null, .int 0, .int 0, .long 0, .long 0]))]) [6] rfl
  have hDc := hD.sub (ws' := [(q_68, .inr (6, [.null, .null, .int 0, .int 0, .long 0, .long 0]))]) [6] (by decide) rfl
  have hKc := hK.sub (tys' := []) [] rfl
  have hFc := va_free (wc := [(q_68, .inr (6, [.null, .null, .int 0, .int 0, .long 0, .long 0]))]) hD hS hA [6] rfl
  refine va_callv (va_runI (As := []) (rest := [.ref q_68, .ref h0]) ⟨hx, hb, hml, hown, hts⟩ (m_rainInit l dC dI H.size q_68) (cwI 0 hts (pw_c q121) rfl rfl rfl (hts _ q47) (hts _ q119) (hts _ q120) rfl (by decide +kernel) ⟨(Nat.le_of_ble_eq_true rfl), (Nat.le_of_ble_eq_true rfl)⟩) ⟨fun a U g mk q => by obtain ⟨q0, q1, qP, qK, qD⟩ := q; exact ⟨q0, q1, qP, va_K.moved (u := U) (U := U.calling g mk a) (Vm.Alike.refl U.vm) qK, qD⟩, fun U hU hW => ⟨rfl, by rw [hU], by rw [hU]; exact hPc, va_K.moved hW.alike hKc, hDc.weaken (fun _ _ _ _ => trivial)⟩⟩ rfl rfl hl.1 rfl (lv_room (Nat.le_of_ble_eq_true rfl)) dX6_init_61 ⟨(Nat.le_of_ble_eq_true rfl), (Nat.le_of_ble_eq_true rfl)⟩) hS (fun q _ h => hFc q h) hFc (fun u t H1 locs ht hvm hw hB hz1 hk1 hS => ?_)
  obtain ⟨t1_70, t2_71, hP1, hK1, hD1⟩ := hB
  rw [ht] at hP1
  have hK1 := va_K.moved hvm.symm hK1
  obtain ⟨hP, hD⟩ := va_join (wr := [(h0, .inr (11, [.ref q_58, .ref q_60, .ref q_62, .ref q_64, .ref q_66, .int 0, .null, .null])), (q_58, .inr (4, [.int 0, .ref ed, .int 0])), (q_60, .inr (4, [.int 0, .ref ed, .int 0])), (q_62, .inr (4, [.int 0, .ref ed, .int 0])), (q_64, .inr (4, [.int 0, .ref ed, .int 0])), (q_66, .inl (cA_67, 24, .inl (fun _ => 0)))]) (w1 := [(q_68, .inr (6, [.ref t1_70, .ref t2_71, .int 0, .int 0, .long 0, .long 0]))]) hP hD [6] [0, 1, 2, 3, 4, 5] rfl rfl (by decide) (by decide) hk1 hFc hP1 hD1
  have hK := (hK.sub (tys' := [(cA_67, .int)]) [0] rfl).app hK1
  generalize H1 = H at hP hS ⊢
  have hP : va_P (dC, dI) vwCl [(h0, .inr (11, [.ref q_58, .ref q_60, .ref q_62, .ref q_64, .ref q_66, .int 0, .null, .null])), (q_58, .inr (4, [.int 0, .ref ed, .int 0])), (q_60, .inr (4, [.int 0, .ref ed, .int 0])), (q_62, .inr (4, [.int 0, .ref ed, .int 0])), (q_64, .inr (4, [.int 0, .ref ed, .int 0])), (q_66, .inl (cA_67, 24, .inl (fun _ => 0))), (q_68, .inr (6, [.ref t1_70, .ref t2_71, .int 0, .int 0, .long 0, .long 0]))] H := hP
  have hD : va_D A [(h0, .inr (11, [.ref q_58, .ref q_60, .ref q_62, .ref q_64, .ref q_66, .int 0, .null, .null])), (q_58, .inr (4, [.int 0, .ref ed, .int 0])), (q_60, .inr (4, [.int 0, .ref ed, .int 0])), (q_62, .inr (4, [.int 0, .ref ed, .int 0])), (q_64, .inr (4, [.int 0, .ref ed, .int 0])), (q_66, .inl (cA_67, 24, .inl (fun _ => 0))), (q_68, .inr (6, [.ref t1_70, .ref t2_71, .int 0, .int 0, .long 0, .long 0]))] := hD
  have hK : va_K (dC, dI) vwCl [(cA_67, .int)] s := hK
  refine W.widen (k := 8) (n := 220) (Nat.le_of_ble_eq_true rfl) (Nat.le_of_ble_eq_true rfl) ?_
  refine va_putF (D := (dC, dI)) (ci := 11) (v := .ref q_68) (ty := .object "Shakerhall$Rain") (C := RX6) (T := TX6) (N := 8) hx hb hts inX6 tyX6 tyX6_ok nmX6 hown hK hP hD hS 0 rfl rfl 6 (by decide) (hts _ q199) (fun _ h9 => h9) rfl hin rfl (by decide +kernel) rfl rfl (Nat.le_of_ble_eq_true rfl) dX6_init_64 (fun H locs hP hD hS => ?_)
  have hP : va_P (dC, dI) vwCl [(h0, .inr (11, [.ref q_58, .ref q_60, .ref q_62, .ref q_64, .ref q_66, .int 0, .ref q_68, .null])), (q_58, .inr (4, [.int 0, .ref ed, .int 0])), (q_60, .inr (4, [.int 0, .ref ed, .int 0])), (q_62, .inr (4, [.int 0, .ref ed, .int 0])), (q_64, .inr (4, [.int 0, .ref ed, .int 0])), (q_66, .inl (cA_67, 24, .inl (fun _ => 0))), (q_68, .inr (6, [.ref t1_70, .ref t2_71, .int 0, .int 0, .long 0, .long 0]))] H := hP
  have hD : va_D A [(h0, .inr (11, [.ref q_58, .ref q_60, .ref q_62, .ref q_64, .ref q_66, .int 0, .ref q_68, .null])), (q_58, .inr (4, [.int 0, .ref ed, .int 0])), (q_60, .inr (4, [.int 0, .ref ed, .int 0])), (q_62, .inr (4, [.int 0, .ref ed, .int 0])), (q_64, .inr (4, [.int 0, .ref ed, .int 0])), (q_66, .inl (cA_67, 24, .inl (fun _ => 0))), (q_68, .inr (6, [.ref t1_70, .ref t2_71, .int 0, .int 0, .long 0, .long 0]))] := hD
  refine lv_aload_n hx hb dX6_init_67 rfl (lv_at hl 0 rfl) ?_
  refine va_new (ci := 5) (fs := [.null, .null, .null, .null, .null, .null, .null, .null, .null, .int 0, .long 0]) (C := RX0) (T := TX0) (N := 11) hx hb hts inX0 tyX0 tyX0_ok hown (hts _ q144) (hts _ q145) (hts _ q48) hK hP hD hS hA rfl (fun j hj => by rcases (show j = 0 ∨ j = 1 ∨ j = 2 ∨ j = 3 ∨ j = 4 ∨ j = 5 ∨ j = 6 ∨ j = 7 ∨ j = 8 ∨ j = 9 ∨ j = 10 by omega) with rfl | rfl | rfl | rfl | rfl | rfl | rfl | rfl | rfl | rfl | rfl <;> rfl) (Nat.le_of_ble_eq_true rfl) (Nat.le_of_ble_eq_true rfl) dX6_init_68 (fun q_72 H hP hD hS => ?_)
  have hP : va_P (dC, dI) vwCl [(h0, .inr (11, [.ref q_58, .ref q_60, .ref q_62, .ref q_64, .ref q_66, .int 0, .ref q_68, .null])), (q_58, .inr (4, [.int 0, .ref ed, .int 0])), (q_60, .inr (4, [.int 0, .ref ed, .int 0])), (q_62, .inr (4, [.int 0, .ref ed, .int 0])), (q_64, .inr (4, [.int 0, .ref ed, .int 0])), (q_66, .inl (cA_67, 24, .inl (fun _ => 0))), (q_68, .inr (6, [.ref t1_70, .ref t2_71, .int 0, .int 0, .long 0, .long 0])), (q_72, .inr (5, [.null, .null, .null, .null, .null, .null, .null, .null, .null, .int 0, .long 0]))] H := hP
  have hD : va_D A [(h0, .inr (11, [.ref q_58, .ref q_60, .ref q_62, .ref q_64, .ref q_66, .int 0, .ref q_68, .null])), (q_58, .inr (4, [.int 0, .ref ed, .int 0])), (q_60, .inr (4, [.int 0, .ref ed, .int 0])), (q_62, .inr (4, [.int 0, .ref ed, .int 0])), (q_64, .inr (4, [.int 0, .ref ed, .int 0])), (q_66, .inl (cA_67, 24, .inl (fun _ => 0))), (q_68, .inr (6, [.ref t1_70, .ref t2_71, .int 0, .int 0, .long 0, .long 0])), (q_72, .inr (5, [.null, .null, .null, .null, .null, .null, .null, .null, .null, .int 0, .long 0]))] := hD
  refine W.widen (k := 9) (n := 231) (Nat.le_of_ble_eq_true rfl) (Nat.le_of_ble_eq_true rfl) ?_
  refine lv_dup hx hb dX6_init_71 rfl ?_
  have hPc := hP.sub (ws' := [(q_72, .inr (5, [.null, .null, .null, .null, .null, .null, .null, .null, .null, .int 0, .long 0]))]) [7] rfl
  have hDc := hD.sub (ws' := [(q_72, .inr (5, [.null, .null, .null, .null, .null, .null, .null, .null, .null, .int 0, .long 0]))]) [7] (by decide) rfl
  have hKc := hK.sub (tys' := []) [] rfl
  have hFc := va_free (wc := [(q_72, .inr (5, [.null, .null, .null, .null, .null, .null, .null, .null, .null, .int 0, .long 0]))]) hD hS hA [7] rfl
  refine va_callv (va_runI (As := []) (rest := [.ref q_72, .ref h0]) ⟨hx, hb, hml, hown, hts⟩ (m_chainInit l dC dI H.size q_72) (cwI 0 hts (pw_c q148) rfl rfl rfl (hts _ q48) (hts _ q146) (hts _ q147) rfl (by decide +kernel) ⟨(Nat.le_of_ble_eq_true rfl), (Nat.le_of_ble_eq_true rfl)⟩) ⟨fun a U g mk q => by obtain ⟨q0, q1, qP, qK, qD⟩ := q; exact ⟨q0, q1, qP, va_K.moved (u := U) (U := U.calling g mk a) (Vm.Alike.refl U.vm) qK, qD⟩, fun U hU hW => ⟨rfl, by rw [hU], by rw [hU]; exact hPc, va_K.moved hW.alike hKc, hDc.weaken (fun _ _ _ _ => trivial)⟩⟩ rfl rfl hl.1 rfl (lv_room (Nat.le_of_ble_eq_true rfl)) dX6_init_72 ⟨(Nat.le_of_ble_eq_true rfl), (Nat.le_of_ble_eq_true rfl)⟩) hS (fun q _ h => hFc q h) hFc (fun u t H1 locs ht hvm hw hB hz1 hk1 hS => ?_)
  obtain ⟨hP1, hK1, hD1⟩ := hB
  rw [ht] at hP1
  have hK1 := va_K.moved hvm.symm hK1
  obtain ⟨hP, hD⟩ := va_join (wr := [(h0, .inr (11, [.ref q_58, .ref q_60, .ref q_62, .ref q_64, .ref q_66, .int 0, .ref q_68, .null])), (q_58, .inr (4, [.int 0, .ref ed, .int 0])), (q_60, .inr (4, [.int 0, .ref ed, .int 0])), (q_62, .inr (4, [.int 0, .ref ed, .int 0])), (q_64, .inr (4, [.int 0, .ref ed, .int 0])), (q_66, .inl (cA_67, 24, .inl (fun _ => 0))), (q_68, .inr (6, [.ref t1_70, .ref t2_71, .int 0, .int 0, .long 0, .long 0]))]) (w1 := []) hP hD [7] [0, 1, 2, 3, 4, 5, 6] rfl rfl (by decide) (by decide) hk1 hFc hP1 hD1
  have hK := (hK.sub (tys' := [(cA_67, .int)]) [0] rfl).app hK1
  generalize H1 = H at hP hS ⊢
  have hP : va_P (dC, dI) vwCl [(h0, .inr (11, [.ref q_58, .ref q_60, .ref q_62, .ref q_64, .ref q_66, .int 0, .ref q_68, .null])), (q_58, .inr (4, [.int 0, .ref ed, .int 0])), (q_60, .inr (4, [.int 0, .ref ed, .int 0])), (q_62, .inr (4, [.int 0, .ref ed, .int 0])), (q_64, .inr (4, [.int 0, .ref ed, .int 0])), (q_66, .inl (cA_67, 24, .inl (fun _ => 0))), (q_68, .inr (6, [.ref t1_70, .ref t2_71, .int 0, .int 0, .long 0, .long 0]))] H := hP
  have hD : va_D A [(h0, .inr (11, [.ref q_58, .ref q_60, .ref q_62, .ref q_64, .ref q_66, .int 0, .ref q_68, .null])), (q_58, .inr (4, [.int 0, .ref ed, .int 0])), (q_60, .inr (4, [.int 0, .ref ed, .int 0])), (q_62, .inr (4, [.int 0, .ref ed, .int 0])), (q_64, .inr (4, [.int 0, .ref ed, .int 0])), (q_66, .inl (cA_67, 24, .inl (fun _ => 0))), (q_68, .inr (6, [.ref t1_70, .ref t2_71, .int 0, .int 0, .long 0, .long 0]))] := hD
  have hK : va_K (dC, dI) vwCl [(cA_67, .int)] s := hK
  refine W.widen (k := 18) (n := 267) (Nat.le_of_ble_eq_true rfl) (Nat.le_of_ble_eq_true rfl) ?_
  refine va_putF (D := (dC, dI)) (ci := 11) (v := .ref q_72) (ty := .object "Shakerhall$Chain") (C := RX6) (T := TX6) (N := 8) hx hb hts inX6 tyX6 tyX6_ok nmX6 hown hK hP hD hS 0 rfl rfl 7 (by decide) (hts _ q200) (fun _ h9 => h9) rfl hin rfl (by decide +kernel) rfl rfl (Nat.le_of_ble_eq_true rfl) dX6_init_75 (fun H locs hP hD hS => ?_)
  have hP : va_P (dC, dI) vwCl [(h0, .inr (11, [.ref q_58, .ref q_60, .ref q_62, .ref q_64, .ref q_66, .int 0, .ref q_68, .ref q_72])), (q_58, .inr (4, [.int 0, .ref ed, .int 0])), (q_60, .inr (4, [.int 0, .ref ed, .int 0])), (q_62, .inr (4, [.int 0, .ref ed, .int 0])), (q_64, .inr (4, [.int 0, .ref ed, .int 0])), (q_66, .inl (cA_67, 24, .inl (fun _ => 0))), (q_68, .inr (6, [.ref t1_70, .ref t2_71, .int 0, .int 0, .long 0, .long 0]))] H := hP
  have hD : va_D A [(h0, .inr (11, [.ref q_58, .ref q_60, .ref q_62, .ref q_64, .ref q_66, .int 0, .ref q_68, .ref q_72])), (q_58, .inr (4, [.int 0, .ref ed, .int 0])), (q_60, .inr (4, [.int 0, .ref ed, .int 0])), (q_62, .inr (4, [.int 0, .ref ed, .int 0])), (q_64, .inr (4, [.int 0, .ref ed, .int 0])), (q_66, .inl (cA_67, 24, .inl (fun _ => 0))), (q_68, .inr (6, [.ref t1_70, .ref t2_71, .int 0, .int 0, .long 0, .long 0]))] := hD
  have hP9 := hP.sub (ws' := [(h0, .inr (11, [.ref q_58, .ref q_60, .ref q_62, .ref q_64, .ref q_66, .int 0, .ref q_68, .ref q_72])), (q_58, .inr (4, [.int 0, .ref ed, .int 0])), (q_60, .inr (4, [.int 0, .ref ed, .int 0])), (q_62, .inr (4, [.int 0, .ref ed, .int 0])), (q_64, .inr (4, [.int 0, .ref ed, .int 0])), (q_66, .inl (cA_67, 24, .inl (fun _ => 0))), (q_68, .inr (6, [.ref t1_70, .ref t2_71, .int 0, .int 0, .long 0, .long 0]))]) [0, 1, 2, 3, 4, 5, 6] rfl
  have hD9 := hD.sub (ws' := [(h0, .inr (11, [.ref q_58, .ref q_60, .ref q_62, .ref q_64, .ref q_66, .int 0, .ref q_68, .ref q_72])), (q_58, .inr (4, [.int 0, .ref ed, .int 0])), (q_60, .inr (4, [.int 0, .ref ed, .int 0])), (q_62, .inr (4, [.int 0, .ref ed, .int 0])), (q_64, .inr (4, [.int 0, .ref ed, .int 0])), (q_66, .inl (cA_67, 24, .inl (fun _ => 0))), (q_68, .inr (6, [.ref t1_70, .ref t2_71, .int 0, .int 0, .long 0, .long 0]))]) [0, 1, 2, 3, 4, 5, 6] (by decide) rfl
  have hK9 := hK.sub (tys' := [(cA_67, .int)]) [0] rfl
  refine W.widen (k := 18) (n := 267) (Nat.le_of_ble_eq_true rfl) (Nat.le_of_ble_eq_true rfl) ?_
  exact W.vret hx hb hr (fun t ht hW => ⟨⟨(), rfl, trivial, ⟨q_58, q_60, q_62, q_64, q_66, q_68, q_72, t1_70, t2_71, cA_67, by rw [ht]; exact hP9, va_K.moved hW.alike hK9, hD9⟩⟩, hS.F ht⟩) hS.2.2 dX6_init_78
