set_option maxHeartbeats 4000000 in
set_option maxRecDepth 100000 in
theorem m_chainInit (l : Launch) (dC : Nat → ClassId) (dI : Nat → Nat → Nat) (sz : Nat) (h0 : Nat) : Met l yX0_init (pw_ws yX0_init cX0_init 1 none) ({ frames := 1, cells := 9, slots := 36, locals := 20 } : Room) (va_Pc [.ref h0] (fun U => U.heap.size = sz ∧ va_P (dC, dI) vwCl [(h0, .inr (5, [.null, .null, .null, .null, .null, .null, .null, .null, .null, .int 0, .long 0]))] U.heap ∧ va_K (dC, dI) vwCl [] U ∧ va_D (fun _ => True) [(h0, .inr (5, [.null, .null, .null, .null, .null, .null, .null, .null, .null, .int 0, .long 0]))])) (va_Qv (fun (_ : Unit) => True) (fun (_ : Unit) (t : State) => va_P (dC, dI) vwCl [] t.heap ∧ va_K (dC, dI) vwCl [] t ∧ va_D (va_A [(h0, .inr (5, [.null, .null, .null, .null, .null, .null, .null, .null, .null, .int 0, .long 0]))] sz) []) (va_A [(h0, .inr (5, [.null, .null, .null, .null, .null, .null, .null, .null, .null, .int 0, .long 0]))] sz)) 9 36 (va_A [(h0, .inr (5, [.null, .null, .null, .null, .null, .null, .null, .null, .null, .int 0, .long 0]))] sz) := by
  refine Met.ofW (cc := cX0_init) (maxL := 1) (ret := none) (by decide) rfl ?_
  intro p e s m args below meth c s₁ B hml hv
  obtain ⟨rfl, hsz, hP, hK, hD0⟩ := hv
  have hx := B.exec
  have hb := B.bytes
  have hr := B.returns
  have hts0 := atoms_spec (ws := (pw_ws yX0_init cX0_init 1 none)) B.pre
  have hts : ∀ w ∈ pw_all, w.before _ s = true := fun w h => hts0 w (List.mem_cons_of_mem _ h)
  have hown : s.vm.findClass RX0 = some m.cls := findClass_of_methodNamed B.named
  have hlocks := B.notSynchronized
  have hin : meth.name = "<init>" := (name_of_methodNamed B.named B.method).1
  subst hsz
  have hD := hD0.self (sz := s.heap.size)
  generalize hAe : va_A [(h0, .inr (5, [.null, .null, .null, .null, .null, .null, .null, .null, .null, .int 0, .long 0]))] s.heap.size = A at hD ⊢
  have hA : ∀ q : Nat, s.heap.size ≤ q → A q := fun q h => by rw [← hAe]; exact Or.inr h
  have hS : va_S A s.heap s.heap [] := va_S.rf
  have hP : va_P (dC, dI) vwCl [(h0, .inr (5, [.null, .null, .null, .null, .null, .null, .null, .null, .null, .int 0, .long 0]))] s.heap := hP
  have hl := lv_entry ([.ref h0]) (n := 1) (Nat.le_of_ble_eq_true rfl)
  rw [lg_entry_eq]
  generalize (lg_sl ([.ref h0]) ++ List.replicate (1 - (lg_sl ([.ref h0])).length) Slot.unset).toArray = ls at hl ⊢
  have hl : lv_has ls 1 [(0, .ref h0)] := hl
  skip
  refine lv_aload_n hx hb dX0_init_0 rfl (lv_at hl 0 rfl) ?_
  refine W.objInit hx hb hown (hts _ q149) (hts _ q86) (hts _ q87) rfl (by rw [hml]; exact hl.1) rfl dX0_init_1 (Nat.le_of_ble_eq_true rfl) (Nat.le_of_ble_eq_true rfl) ?_
  refine W.eq (g2 := F0 m 4 ls []) rfl ?_
  refine lv_aload_n hx hb dX0_init_4 rfl (lv_at hl 0 rfl) ?_
  refine lv_iconst (v := 4) hx hb dX0_init_5 (by decide) ?_
  refine va_newa (atype := .int) (N' := 4) (a0 := (4, .inl (fun _ => 0))) (ty := .int) (n := 4) hx hb (hts _ q143) rfl hK hP hD hS hA (fun _ => rfl) (by decide) (by decide) (Nat.le_of_ble_eq_true rfl) (Nat.le_of_ble_eq_true rfl) (Nat.le_of_ble_eq_true rfl) dX0_init_6 (fun q_17 cA_18 H hK hP hD hS => ?_)
  have hP : va_P (dC, dI) vwCl [(h0, .inr (5, [.null, .null, .null, .null, .null, .null, .null, .null, .null, .int 0, .long 0])), (q_17, .inl (cA_18, 4, .inl (fun _ => 0)))] H := hP
  have hD : va_D A [(h0, .inr (5, [.null, .null, .null, .null, .null, .null, .null, .null, .null, .int 0, .long 0])), (q_17, .inl (cA_18, 4, .inl (fun _ => 0)))] := hD
  have hK : va_K (dC, dI) vwCl [(cA_18, .int)] s := hK
  refine W.widen (k := 1) (n := 4) (Nat.le_of_ble_eq_true rfl) (Nat.le_of_ble_eq_true rfl) ?_
  refine va_putF (D := (dC, dI)) (ci := 5) (v := .ref q_17) (ty := .array .int) (C := RX0) (T := TX0) (N := 11) hx hb hts inX0 tyX0 tyX0_ok nmX0 hown hK hP hD hS 0 rfl rfl 0 (by decide) (hts _ q150) (fun _ h9 => h9) rfl hin rfl (by decide +kernel) rfl rfl (Nat.le_of_ble_eq_true rfl) dX0_init_8 (fun H locs hP hD hS => ?_)
  have hP : va_P (dC, dI) vwCl [(h0, .inr (5, [.ref q_17, .null, .null, .null, .null, .null, .null, .null, .null, .int 0, .long 0])), (q_17, .inl (cA_18, 4, .inl (fun _ => 0)))] H := hP
  have hD : va_D A [(h0, .inr (5, [.ref q_17, .null, .null, .null, .null, .null, .null, .null, .null, .int 0, .long 0])), (q_17, .inl (cA_18, 4, .inl (fun _ => 0)))] := hD
  refine lv_aload_n hx hb dX0_init_11 rfl (lv_at hl 0 rfl) ?_
  refine lv_iconst (v := 4) hx hb dX0_init_12 (by decide) ?_
  refine va_newa (atype := .int) (N' := 4) (a0 := (4, .inl (fun _ => 0))) (ty := .int) (n := 4) hx hb (hts _ q143) rfl hK hP hD hS hA (fun _ => rfl) (by decide) (by decide) (Nat.le_of_ble_eq_true rfl) (Nat.le_of_ble_eq_true rfl) (Nat.le_of_ble_eq_true rfl) dX0_init_13 (fun q_19 cA_20 H hK hP hD hS => ?_)
  have hP : va_P (dC, dI) vwCl [(h0, .inr (5, [.ref q_17, .null, .null, .null, .null, .null, .null, .null, .null, .int 0, .long 0])), (q_17, .inl (cA_18, 4, .inl (fun _ => 0))), (q_19, .inl (cA_20, 4, .inl (fun _ => 0)))] H := hP
  have hD : va_D A [(h0, .inr (5, [.ref q_17, .null, .null, .null, .null, .null, .null, .null, .null, .int 0, .long 0])), (q_17, .inl (cA_18, 4, .inl (fun _ => 0))), (q_19, .inl (cA_20, 4, .inl (fun _ => 0)))] := hD
  have hK : va_K (dC, dI) vwCl [(cA_18, .int), (cA_20, .int)] s := hK
  refine W.widen (k := 2) (n := 8) (Nat.le_of_ble_eq_true rfl) (Nat.le_of_ble_eq_true rfl) ?_
  refine va_putF (D := (dC, dI)) (ci := 5) (v := .ref q_19) (ty := .array .int) (C := RX0) (T := TX0) (N := 11) hx hb hts inX0 tyX0 tyX0_ok nmX0 hown hK hP hD hS 0 rfl rfl 1 (by decide) (hts _ q151) (fun _ h9 => h9) rfl hin rfl (by decide +kernel) rfl rfl (Nat.le_of_ble_eq_true rfl) dX0_init_15 (fun H locs hP hD hS => ?_)
  have hP : va_P (dC, dI) vwCl [(h0, .inr (5, [.ref q_17, .ref q_19, .null, .null, .null, .null, .null, .null, .null, .int 0, .long 0])), (q_17, .inl (cA_18, 4, .inl (fun _ => 0))), (q_19, .inl (cA_20, 4, .inl (fun _ => 0)))] H := hP
  have hD : va_D A [(h0, .inr (5, [.ref q_17, .ref q_19, .null, .null, .null, .null, .null, .null, .null, .int 0, .long 0])), (q_17, .inl (cA_18, 4, .inl (fun _ => 0))), (q_19, .inl (cA_20, 4, .inl (fun _ => 0)))] := hD
  refine lv_aload_n hx hb dX0_init_18 rfl (lv_at hl 0 rfl) ?_
  refine lv_iconst (v := 4) hx hb dX0_init_19 (by decide) ?_
  refine va_newa (atype := .int) (N' := 4) (a0 := (4, .inl (fun _ => 0))) (ty := .int) (n := 4) hx hb (hts _ q143) rfl hK hP hD hS hA (fun _ => rfl) (by decide) (by decide) (Nat.le_of_ble_eq_true rfl) (Nat.le_of_ble_eq_true rfl) (Nat.le_of_ble_eq_true rfl) dX0_init_20 (fun q_21 cA_22 H hK hP hD hS => ?_)
  have hP : va_P (dC, dI) vwCl [(h0, .inr (5, [.ref q_17, .ref q_19, .null, .null, .null, .null, .null, .null, .null, .int 0, .long 0])), (q_17, .inl (cA_18, 4, .inl (fun _ => 0))), (q_19, .inl (cA_20, 4, .inl (fun _ => 0))), (q_21, .inl (cA_22, 4, .inl (fun _ => 0)))] H := hP
  have hD : va_D A [(h0, .inr (5, [.ref q_17, .ref q_19, .null, .null, .null, .null, .null, .null, .null, .int 0, .long 0])), (q_17, .inl (cA_18, 4, .inl (fun _ => 0))), (q_19, .inl (cA_20, 4, .inl (fun _ => 0))), (q_21, .inl (cA_22, 4, .inl (fun _ => 0)))] := hD
  have hK : va_K (dC, dI) vwCl [(cA_18, .int), (cA_20, .int), (cA_22, .int)] s := hK
  refine W.widen (k := 3) (n := 12) (Nat.le_of_ble_eq_true rfl) (Nat.le_of_ble_eq_true rfl) ?_
  refine va_putF (D := (dC, dI)) (ci := 5) (v := .ref q_21) (ty := .array .int) (C := RX0) (T := TX0) (N := 11) hx hb hts inX0 tyX0 tyX0_ok nmX0 hown hK hP hD hS 0 rfl rfl 2 (by decide) (hts _ q152) (fun _ h9 => h9) rfl hin rfl (by decide +kernel) rfl rfl (Nat.le_of_ble_eq_true rfl) dX0_init_22 (fun H locs hP hD hS => ?_)
  have hP : va_P (dC, dI) vwCl [(h0, .inr (5, [.ref q_17, .ref q_19, .ref q_21, .null, .null, .null, .null, .null, .null, .int 0, .long 0])), (q_17, .inl (cA_18, 4, .inl (fun _ => 0))), (q_19, .inl (cA_20, 4, .inl (fun _ => 0))), (q_21, .inl (cA_22, 4, .inl (fun _ => 0)))] H := hP
  have hD : va_D A [(h0, .inr (5, [.ref q_17, .ref q_19, .ref q_21, .null, .null, .null, .null, .null, .null, .int 0, .long 0])), (q_17, .inl (cA_18, 4, .inl (fun _ => 0))), (q_19, .inl (cA_20, 4, .inl (fun _ => 0))), (q_21, .inl (cA_22, 4, .inl (fun _ => 0)))] := hD
  refine lv_aload_n hx hb dX0_init_25 rfl (lv_at hl 0 rfl) ?_
  refine lv_iconst (v := 4) hx hb dX0_init_26 (by decide) ?_
  refine va_newa (atype := .int) (N' := 4) (a0 := (4, .inl (fun _ => 0))) (ty := .int) (n := 4) hx hb (hts _ q143) rfl hK hP hD hS hA (fun _ => rfl) (by decide) (by decide) (Nat.le_of_ble_eq_true rfl) (Nat.le_of_ble_eq_true rfl) (Nat.le_of_ble_eq_true rfl) dX0_init_27 (fun q_23 cA_24 H hK hP hD hS => ?_)
  have hP : va_P (dC, dI) vwCl [(h0, .inr (5, [.ref q_17, .ref q_19, .ref q_21, .null, .null, .null, .null, .null, .null, .int 0, .long 0])), (q_17, .inl (cA_18, 4, .inl (fun _ => 0))), (q_19, .inl (cA_20, 4, .inl (fun _ => 0))), (q_21, .inl (cA_22, 4, .inl (fun _ => 0))), (q_23, .inl (cA_24, 4, .inl (fun _ => 0)))] H := hP
  have hD : va_D A [(h0, .inr (5, [.ref q_17, .ref q_19, .ref q_21, .null, .null, .null, .null, .null, .null, .int 0, .long 0])), (q_17, .inl (cA_18, 4, .inl (fun _ => 0))), (q_19, .inl (cA_20, 4, .inl (fun _ => 0))), (q_21, .inl (cA_22, 4, .inl (fun _ => 0))), (q_23, .inl (cA_24, 4, .inl (fun _ => 0)))] := hD
  have hK : va_K (dC, dI) vwCl [(cA_18, .int), (cA_20, .int), (cA_22, .int), (cA_24, .int)] s := hK
  refine W.widen (k := 4) (n := 16) (Nat.le_of_ble_eq_true rfl) (Nat.le_of_ble_eq_true rfl) ?_
  refine va_putF (D := (dC, dI)) (ci := 5) (v := .ref q_23) (ty := .array .int) (C := RX0) (T := TX0) (N := 11) hx hb hts inX0 tyX0 tyX0_ok nmX0 hown hK hP hD hS 0 rfl rfl 3 (by decide) (hts _ q154) (fun _ h9 => h9) rfl hin rfl (by decide +kernel) rfl rfl (Nat.le_of_ble_eq_true rfl) dX0_init_29 (fun H locs hP hD hS => ?_)
  have hP : va_P (dC, dI) vwCl [(h0, .inr (5, [.ref q_17, .ref q_19, .ref q_21, .ref q_23, .null, .null, .null, .null, .null, .int 0, .long 0])), (q_17, .inl (cA_18, 4, .inl (fun _ => 0))), (q_19, .inl (cA_20, 4, .inl (fun _ => 0))), (q_21, .inl (cA_22, 4, .inl (fun _ => 0))), (q_23, .inl (cA_24, 4, .inl (fun _ => 0)))] H := hP
  have hD : va_D A [(h0, .inr (5, [.ref q_17, .ref q_19, .ref q_21, .ref q_23, .null, .null, .null, .null, .null, .int 0, .long 0])), (q_17, .inl (cA_18, 4, .inl (fun _ => 0))), (q_19, .inl (cA_20, 4, .inl (fun _ => 0))), (q_21, .inl (cA_22, 4, .inl (fun _ => 0))), (q_23, .inl (cA_24, 4, .inl (fun _ => 0)))] := hD
  refine lv_aload_n hx hb dX0_init_32 rfl (lv_at hl 0 rfl) ?_
  refine lv_iconst (v := 4) hx hb dX0_init_33 (by decide) ?_
  refine va_newa (atype := .int) (N' := 4) (a0 := (4, .inl (fun _ => 0))) (ty := .int) (n := 4) hx hb (hts _ q143) rfl hK hP hD hS hA (fun _ => rfl) (by decide) (by decide) (Nat.le_of_ble_eq_true rfl) (Nat.le_of_ble_eq_true rfl) (Nat.le_of_ble_eq_true rfl) dX0_init_34 (fun q_25 cA_26 H hK hP hD hS => ?_)
  have hP : va_P (dC, dI) vwCl [(h0, .inr (5, [.ref q_17, .ref q_19, .ref q_21, .ref q_23, .null, .null, .null, .null, .null, .int 0, .long 0])), (q_17, .inl (cA_18, 4, .inl (fun _ => 0))), (q_19, .inl (cA_20, 4, .inl (fun _ => 0))), (q_21, .inl (cA_22, 4, .inl (fun _ => 0))), (q_23, .inl (cA_24, 4, .inl (fun _ => 0))), (q_25, .inl (cA_26, 4, .inl (fun _ => 0)))] H := hP
  have hD : va_D A [(h0, .inr (5, [.ref q_17, .ref q_19, .ref q_21, .ref q_23, .null, .null, .null, .null, .null, .int 0, .long 0])), (q_17, .inl (cA_18, 4, .inl (fun _ => 0))), (q_19, .inl (cA_20, 4, .inl (fun _ => 0))), (q_21, .inl (cA_22, 4, .inl (fun _ => 0))), (q_23, .inl (cA_24, 4, .inl (fun _ => 0))), (q_25, .inl (cA_26, 4, .inl (fun _ => 0)))] := hD
  have hK : va_K (dC, dI) vwCl [(cA_18, .int), (cA_20, .int), (cA_22, .int), (cA_24, .int), (cA_26, .int)] s := hK
  refine W.widen (k := 5) (n := 20) (Nat.le_of_ble_eq_true rfl) (Nat.le_of_ble_eq_true rfl) ?_
  refine va_putF (D := (dC, dI)) (ci := 5) (v := .ref q_25) (ty := .array .int) (C := RX0) (T := TX0) (N := 11) hx hb hts inX0 tyX0 tyX0_ok nmX0 hown hK hP hD hS 0 rfl rfl 4 (by decide) (hts _ q155) (fun _ h9 => h9) rfl hin rfl (by decide +kernel) rfl rfl (Nat.le_of_ble_eq_true rfl) dX0_init_36 (fun H locs hP hD hS => ?_)
  have hP : va_P (dC, dI) vwCl [(h0, .inr (5, [.ref q_17, .ref q_19, .ref q_21, .ref q_23, .ref q_25, .null, .null, .null, .null, .int 0, .long 0])), (q_17, .inl (cA_18, 4, .inl (fun _ => 0))), (q_19, .inl (cA_20, 4, .inl (fun _ => 0))), (q_21, .inl (cA_22, 4, .inl (fun _ => 0))), (q_23, .inl (cA_24, 4, .inl (fun _ => 0))), (q_25, .inl (cA_26, 4, .inl (fun _ => 0)))] H := hP
  have hD : va_D A [(h0, .inr (5, [.ref q_17, .ref q_19, .ref q_21, .ref q_23, .ref q_25, .null, .null, .null, .null, .int 0, .long 0])), (q_17, .inl (cA_18, 4, .inl (fun _ => 0))), (q_19, .inl (cA_20, 4, .inl (fun _ => 0))), (q_21, .inl (cA_22, 4, .inl (fun _ => 0))), (q_23, .inl (cA_24, 4, .inl (fun _ => 0))), (q_25, .inl (cA_26, 4, .inl (fun _ => 0)))] := hD
  refine lv_aload_n hx hb dX0_init_39 rfl (lv_at hl 0 rfl) ?_
  refine lv_iconst (v := 4) hx hb dX0_init_40 (by decide) ?_
  refine va_newa (atype := .long) (N' := 4) (a0 := (4, .inr (.inl (fun _ => 0)))) (ty := .long) (n := 4) hx hb (hts _ q192) rfl hK hP hD hS hA (fun _ => rfl) (by decide) (by decide) (Nat.le_of_ble_eq_true rfl) (Nat.le_of_ble_eq_true rfl) (Nat.le_of_ble_eq_true rfl) dX0_init_41 (fun q_27 cA_28 H hK hP hD hS => ?_)
  have hP : va_P (dC, dI) vwCl [(h0, .inr (5, [.ref q_17, .ref q_19, .ref q_21, .ref q_23, .ref q_25, .null, .null, .null, .null, .int 0, .long 0])), (q_17, .inl (cA_18, 4, .inl (fun _ => 0))), (q_19, .inl (cA_20, 4, .inl (fun _ => 0))), (q_21, .inl (cA_22, 4, .inl (fun _ => 0))), (q_23, .inl (cA_24, 4, .inl (fun _ => 0))), (q_25, .inl (cA_26, 4, .inl (fun _ => 0))), (q_27, .inl (cA_28, 4, .inr (.inl (fun _ => 0))))] H := hP
  have hD : va_D A [(h0, .inr (5, [.ref q_17, .ref q_19, .ref q_21, .ref q_23, .ref q_25, .null, .null, .null, .null, .int 0, .long 0])), (q_17, .inl (cA_18, 4, .inl (fun _ => 0))), (q_19, .inl (cA_20, 4, .inl (fun _ => 0))), (q_21, .inl (cA_22, 4, .inl (fun _ => 0))), (q_23, .inl (cA_24, 4, .inl (fun _ => 0))), (q_25, .inl (cA_26, 4, .inl (fun _ => 0))), (q_27, .inl (cA_28, 4, .inr (.inl (fun _ => 0))))] := hD
  have hK : va_K (dC, dI) vwCl [(cA_18, .int), (cA_20, .int), (cA_22, .int), (cA_24, .int), (cA_26, .int), (cA_28, .long)] s := hK
  refine W.widen (k := 6) (n := 24) (Nat.le_of_ble_eq_true rfl) (Nat.le_of_ble_eq_true rfl) ?_
  refine va_putF (D := (dC, dI)) (ci := 5) (v := .ref q_27) (ty := .array .long) (C := RX0) (T := TX0) (N := 11) hx hb hts inX0 tyX0 tyX0_ok nmX0 hown hK hP hD hS 0 rfl rfl 5 (by decide) (hts _ q158) (fun _ h9 => h9) rfl hin rfl (by decide +kernel) rfl rfl (Nat.le_of_ble_eq_true rfl) dX0_init_43 (fun H locs hP hD hS => ?_)
  have hP : va_P (dC, dI) vwCl [(h0, .inr (5, [.ref q_17, .ref q_19, .ref q_21, .ref q_23, .ref q_25, .ref q_27, .null, .null, .null, .int 0, .long 0])), (q_17, .inl (cA_18, 4, .inl (fun _ => 0))), (q_19, .inl (cA_20, 4, .inl (fun _ => 0))), (q_21, .inl (cA_22, 4, .inl (fun _ => 0))), (q_23, .inl (cA_24, 4, .inl (fun _ => 0))), (q_25, .inl (cA_26, 4, .inl (fun _ => 0))), (q_27, .inl (cA_28, 4, .inr (.inl (fun _ => 0))))] H := hP
  have hD : va_D A [(h0, .inr (5, [.ref q_17, .ref q_19, .ref q_21, .ref q_23, .ref q_25, .ref q_27, .null, .null, .null, .int 0, .long 0])), (q_17, .inl (cA_18, 4, .inl (fun _ => 0))), (q_19, .inl (cA_20, 4, .inl (fun _ => 0))), (q_21, .inl (cA_22, 4, .inl (fun _ => 0))), (q_23, .inl (cA_24, 4, .inl (fun _ => 0))), (q_25, .inl (cA_26, 4, .inl (fun _ => 0))), (q_27, .inl (cA_28, 4, .inr (.inl (fun _ => 0))))] := hD
  refine lv_aload_n hx hb dX0_init_46 rfl (lv_at hl 0 rfl) ?_
  refine lv_iconst (v := 4) hx hb dX0_init_47 (by decide) ?_
  refine va_newa (atype := .long) (N' := 4) (a0 := (4, .inr (.inl (fun _ => 0)))) (ty := .long) (n := 4) hx hb (hts _ q192) rfl hK hP hD hS hA (fun _ => rfl) (by decide) (by decide) (Nat.le_of_ble_eq_true rfl) (Nat.le_of_ble_eq_true rfl) (Nat.le_of_ble_eq_true rfl) dX0_init_48 (fun q_29 cA_30 H hK hP hD hS => ?_)
  have hP : va_P (dC, dI) vwCl [(h0, .inr (5, [.ref q_17, .ref q_19, .ref q_21, .ref q_23, .ref q_25, .ref q_27, .null, .null, .null, .int 0, .long 0])), (q_17, .inl (cA_18, 4, .inl (fun _ => 0))), (q_19, .inl (cA_20, 4, .inl (fun _ => 0))), (q_21, .inl (cA_22, 4, .inl (fun _ => 0))), (q_23, .inl (cA_24, 4, .inl (fun _ => 0))), (q_25, .inl (cA_26, 4, .inl (fun _ => 0))), (q_27, .inl (cA_28, 4, .inr (.inl (fun _ => 0)))), (q_29, .inl (cA_30, 4, .inr (.inl (fun _ => 0))))] H := hP
  have hD : va_D A [(h0, .inr (5, [.ref q_17, .ref q_19, .ref q_21, .ref q_23, .ref q_25, .ref q_27, .null, .null, .null, .int 0, .long 0])), (q_17, .inl (cA_18, 4, .inl (fun _ => 0))), (q_19, .inl (cA_20, 4, .inl (fun _ => 0))), (q_21, .inl (cA_22, 4, .inl (fun _ => 0))), (q_23, .inl (cA_24, 4, .inl (fun _ => 0))), (q_25, .inl (cA_26, 4, .inl (fun _ => 0))), (q_27, .inl (cA_28, 4, .inr (.inl (fun _ => 0)))), (q_29, .inl (cA_30, 4, .inr (.inl (fun _ => 0))))] := hD
  have hK : va_K (dC, dI) vwCl [(cA_18, .int), (cA_20, .int), (cA_22, .int), (cA_24, .int), (cA_26, .int), (cA_28, .long), (cA_30, .long)] s := hK
  refine W.widen (k := 7) (n := 28) (Nat.le_of_ble_eq_true rfl) (Nat.le_of_ble_eq_true rfl) ?_
  refine va_putF (D := (dC, dI)) (ci := 5) (v := .ref q_29) (ty := .array .long) (C := RX0) (T := TX0) (N := 11) hx hb hts inX0 tyX0 tyX0_ok nmX0 hown hK hP hD hS 0 rfl rfl 6 (by decide) (hts _ q160) (fun _ h9 => h9) rfl hin rfl (by decide +kernel) rfl rfl (Nat.le_of_ble_eq_true rfl) dX0_init_50 (fun H locs hP hD hS => ?_)
  have hP : va_P (dC, dI) vwCl [(h0, .inr (5, [.ref q_17, .ref q_19, .ref q_21, .ref q_23, .ref q_25, .ref q_27, .ref q_29, .null, .null, .int 0, .long 0])), (q_17, .inl (cA_18, 4, .inl (fun _ => 0))), (q_19, .inl (cA_20, 4, .inl (fun _ => 0))), (q_21, .inl (cA_22, 4, .inl (fun _ => 0))), (q_23, .inl (cA_24, 4, .inl (fun _ => 0))), (q_25, .inl (cA_26, 4, .inl (fun _ => 0))), (q_27, .inl (cA_28, 4, .inr (.inl (fun _ => 0)))), (q_29, .inl (cA_30, 4, .inr (.inl (fun _ => 0))))] H := hP
  have hD : va_D A [(h0, .inr (5, [.ref q_17, .ref q_19, .ref q_21, .ref q_23, .ref q_25, .ref q_27, .ref q_29, .null, .null, .int 0, .long 0])), (q_17, .inl (cA_18, 4, .inl (fun _ => 0))), (q_19, .inl (cA_20, 4, .inl (fun _ => 0))), (q_21, .inl (cA_22, 4, .inl (fun _ => 0))), (q_23, .inl (cA_24, 4, .inl (fun _ => 0))), (q_25, .inl (cA_26, 4, .inl (fun _ => 0))), (q_27, .inl (cA_28, 4, .inr (.inl (fun _ => 0)))), (q_29, .inl (cA_30, 4, .inr (.inl (fun _ => 0))))] := hD
  refine lv_aload_n hx hb dX0_init_53 rfl (lv_at hl 0 rfl) ?_
  refine lv_iconst (v := 4) hx hb dX0_init_54 (by decide) ?_
  refine va_newa (atype := .long) (N' := 4) (a0 := (4, .inr (.inl (fun _ => 0)))) (ty := .long) (n := 4) hx hb (hts _ q192) rfl hK hP hD hS hA (fun _ => rfl) (by decide) (by decide) (Nat.le_of_ble_eq_true rfl) (Nat.le_of_ble_eq_true rfl) (Nat.le_of_ble_eq_true rfl) dX0_init_55 (fun q_31 cA_32 H hK hP hD hS => ?_)
  have hP : va_P (dC, dI) vwCl [(h0, .inr (5, [.ref q_17, .ref q_19, .ref q_21, .ref q_23, .ref q_25, .ref q_27, .ref q_29, .null, .null, .int 0, .long 0])), (q_17, .inl (cA_18, 4, .inl (fun _ => 0))), (q_19, .inl (cA_20, 4, .inl (fun _ => 0))), (q_21, .inl (cA_22, 4, .inl (fun _ => 0))), (q_23, .inl (cA_24, 4, .inl (fun _ => 0))), (q_25, .inl (cA_26, 4, .inl (fun _ => 0))), (q_27, .inl (cA_28, 4, .inr (.inl (fun _ => 0)))), (q_29, .inl (cA_30, 4, .inr (.inl (fun _ => 0)))), (q_31, .inl (cA_32, 4, .inr (.inl (fun _ => 0))))] H := hP
  have hD : va_D A [(h0, .inr (5, [.ref q_17, .ref q_19, .ref q_21, .ref q_23, .ref q_25, .ref q_27, .ref q_29, .null, .null, .int 0, .long 0])), (q_17, .inl (cA_18, 4, .inl (fun _ => 0))), (q_19, .inl (cA_20, 4, .inl (fun _ => 0))), (q_21, .inl (cA_22, 4, .inl (fun _ => 0))), (q_23, .inl (cA_24, 4, .inl (fun _ => 0))), (q_25, .inl (cA_26, 4, .inl (fun _ => 0))), (q_27, .inl (cA_28, 4, .inr (.inl (fun _ => 0)))), (q_29, .inl (cA_30, 4, .inr (.inl (fun _ => 0)))), (q_31, .inl (cA_32, 4, .inr (.inl (fun _ => 0))))] := hD
  have hK : va_K (dC, dI) vwCl [(cA_18, .int), (cA_20, .int), (cA_22, .int), (cA_24, .int), (cA_26, .int), (cA_28, .long), (cA_30, .long), (cA_32, .long)] s := hK
  refine W.widen (k := 8) (n := 32) (Nat.le_of_ble_eq_true rfl) (Nat.le_of_ble_eq_true rfl) ?_
  refine va_putF (D := (dC, dI)) (ci := 5) (v := .ref q_31) (ty := .array .long) (C := RX0) (T := TX0) (N := 11) hx hb hts inX0 tyX0 tyX0_ok nmX0 hown hK hP hD hS 0 rfl rfl 7 (by decide) (hts _ q161) (fun _ h9 => h9) rfl hin rfl (by decide +kernel) rfl rfl (Nat.le_of_ble_eq_true rfl) dX0_init_57 (fun H locs hP hD hS => ?_)
  have hP : va_P (dC, dI) vwCl [(h0, .inr (5, [.ref q_17, .ref q_19, .ref q_21, .ref q_23, .ref q_25, .ref q_27, .ref q_29, .ref q_31, .null, .int 0, .long 0])), (q_17, .inl (cA_18, 4, .inl (fun _ => 0))), (q_19, .inl (cA_20, 4, .inl (fun _ => 0))), (q_21, .inl (cA_22, 4, .inl (fun _ => 0))), (q_23, .inl (cA_24, 4, .inl (fun _ => 0))), (q_25, .inl (cA_26, 4, .inl (fun _ => 0))), (q_27, .inl (cA_28, 4, .inr (.inl (fun _ => 0)))), (q_29, .inl (cA_30, 4, .inr (.inl (fun _ => 0)))), (q_31, .inl (cA_32, 4, .inr (.inl (fun _ => 0))))] H := hP
  have hD : va_D A [(h0, .inr (5, [.ref q_17, .ref q_19, .ref q_21, .ref q_23, .ref q_25, .ref q_27, .ref q_29, .ref q_31, .null, .int 0, .long 0])), (q_17, .inl (cA_18, 4, .inl (fun _ => 0))), (q_19, .inl (cA_20, 4, .inl (fun _ => 0))), (q_21, .inl (cA_22, 4, .inl (fun _ => 0))), (q_23, .inl (cA_24, 4, .inl (fun _ => 0))), (q_25, .inl (cA_26, 4, .inl (fun _ => 0))), (q_27, .inl (cA_28, 4, .inr (.inl (fun _ => 0)))), (q_29, .inl (cA_30, 4, .inr (.inl (fun _ => 0)))), (q_31, .inl (cA_32, 4, .inr (.inl (fun _ => 0))))] := hD
  refine lv_aload_n hx hb dX0_init_60 rfl (lv_at hl 0 rfl) ?_
  refine lv_iconst (v := 4) hx hb dX0_init_61 (by decide) ?_
  refine va_newa (atype := .int) (N' := 4) (a0 := (4, .inl (fun _ => 0))) (ty := .int) (n := 4) hx hb (hts _ q143) rfl hK hP hD hS hA (fun _ => rfl) (by decide) (by decide) (Nat.le_of_ble_eq_true rfl) (Nat.le_of_ble_eq_true rfl) (Nat.le_of_ble_eq_true rfl) dX0_init_62 (fun q_33 cA_34 H hK hP hD hS => ?_)
  have hP : va_P (dC, dI) vwCl [(h0, .inr (5, [.ref q_17, .ref q_19, .ref q_21, .ref q_23, .ref q_25, .ref q_27, .ref q_29, .ref q_31, .null, .int 0, .long 0])), (q_17, .inl (cA_18, 4, .inl (fun _ => 0))), (q_19, .inl (cA_20, 4, .inl (fun _ => 0))), (q_21, .inl (cA_22, 4, .inl (fun _ => 0))), (q_23, .inl (cA_24, 4, .inl (fun _ => 0))), (q_25, .inl (cA_26, 4, .inl (fun _ => 0))), (q_27, .inl (cA_28, 4, .inr (.inl (fun _ => 0)))), (q_29, .inl (cA_30, 4, .inr (.inl (fun _ => 0)))), (q_31, .inl (cA_32, 4, .inr (.inl (fun _ => 0)))), (q_33, .inl (cA_34, 4, .inl (fun _ => 0)))] H := hP
  have hD : va_D A [(h0, .inr (5, [.ref q_17, .ref q_19, .ref q_21, .ref q_23, .ref q_25, .ref q_27, .ref q_29, .ref q_31, .null, .int 0, .long 0])), (q_17, .inl (cA_18, 4, .inl (fun _ => 0))), (q_19, .inl (cA_20, 4, .inl (fun _ => 0))), (q_21, .inl (cA_22, 4, .inl (fun _ => 0))), (q_23, .inl (cA_24, 4, .inl (fun _ => 0))), (q_25, .inl (cA_26, 4, .inl (fun _ => 0))), (q_27, .inl (cA_28, 4, .inr (.inl (fun _ => 0)))), (q_29, .inl (cA_30, 4, .inr (.inl (fun _ => 0)))), (q_31, .inl (cA_32, 4, .inr (.inl (fun _ => 0)))), (q_33, .inl (cA_34, 4, .inl (fun _ => 0)))] := hD
  have hK : va_K (dC, dI) vwCl [(cA_18, .int), (cA_20, .int), (cA_22, .int), (cA_24, .int), (cA_26, .int), (cA_28, .long), (cA_30, .long), (cA_32, .long), (cA_34, .int)] s := hK
  refine W.widen (k := 9) (n := 36) (Nat.le_of_ble_eq_true rfl) (Nat.le_of_ble_eq_true rfl) ?_
  refine va_putF (D := (dC, dI)) (ci := 5) (v := .ref q_33) (ty := .array .int) (C := RX0) (T := TX0) (N := 11) hx hb hts inX0 tyX0 tyX0_ok nmX0 hown hK hP hD hS 0 rfl rfl 8 (by decide) (hts _ q162) (fun _ h9 => h9) rfl hin rfl (by decide +kernel) rfl rfl (Nat.le_of_ble_eq_true rfl) dX0_init_64 (fun H locs hP hD hS => ?_)
  have hP : va_P (dC, dI) vwCl [(h0, .inr (5, [.ref q_17, .ref q_19, .ref q_21, .ref q_23, .ref q_25, .ref q_27, .ref q_29, .ref q_31, .ref q_33, .int 0, .long 0])), (q_17, .inl (cA_18, 4, .inl (fun _ => 0))), (q_19, .inl (cA_20, 4, .inl (fun _ => 0))), (q_21, .inl (cA_22, 4, .inl (fun _ => 0))), (q_23, .inl (cA_24, 4, .inl (fun _ => 0))), (q_25, .inl (cA_26, 4, .inl (fun _ => 0))), (q_27, .inl (cA_28, 4, .inr (.inl (fun _ => 0)))), (q_29, .inl (cA_30, 4, .inr (.inl (fun _ => 0)))), (q_31, .inl (cA_32, 4, .inr (.inl (fun _ => 0)))), (q_33, .inl (cA_34, 4, .inl (fun _ => 0)))] H := hP
  have hD : va_D A [(h0, .inr (5, [.ref q_17, .ref q_19, .ref q_21, .ref q_23, .ref q_25, .ref q_27, .ref q_29, .ref q_31, .ref q_33, .int 0, .long 0])), (q_17, .inl (cA_18, 4, .inl (fun _ => 0))), (q_19, .inl (cA_20, 4, .inl (fun _ => 0))), (q_21, .inl (cA_22, 4, .inl (fun _ => 0))), (q_23, .inl (cA_24, 4, .inl (fun _ => 0))), (q_25, .inl (cA_26, 4, .inl (fun _ => 0))), (q_27, .inl (cA_28, 4, .inr (.inl (fun _ => 0)))), (q_29, .inl (cA_30, 4, .inr (.inl (fun _ => 0)))), (q_31, .inl (cA_32, 4, .inr (.inl (fun _ => 0)))), (q_33, .inl (cA_34, 4, .inl (fun _ => 0)))] := hD
  have hP9 := hP.sub (ws' := []) [] rfl
  have hD9 := hD.sub (ws' := []) [] (by decide) rfl
  have hK9 := hK.sub (tys' := []) [] rfl
  refine W.widen (k := 9) (n := 36) (Nat.le_of_ble_eq_true rfl) (Nat.le_of_ble_eq_true rfl) ?_
  exact W.vret hx hb hr (fun t ht hW => ⟨⟨(), rfl, trivial, ⟨by rw [ht]; exact hP9, va_K.moved hW.alike hK9, hD9⟩⟩, hS.F ht⟩) hS.2.2 dX0_init_67
set_option maxHeartbeats 4000000 in
set_option maxRecDepth 100000 in
theorem m_rainInit (l : Launch) (dC : Nat → ClassId) (dI : Nat → Nat → Nat) (sz : Nat) (h0 : Nat) : Met l yX1_init (pw_ws yX1_init cX1_init 1 none) ({ frames := 1, cells := 2, slots := 178, locals := 20 } : Room) (va_Pc [.ref h0] (fun U => U.heap.size = sz ∧ va_P (dC, dI) vwCl [(h0, .inr (6, [.null, .null, .int 0, .int 0, .long 0, .long 0]))] U.heap ∧ va_K (dC, dI) vwCl [] U ∧ va_D (fun _ => True) [(h0, .inr (6, [.null, .null, .int 0, .int 0, .long 0, .long 0]))])) (va_Qv (fun (_ : Unit) => True) (fun (_ : Unit) (t : State) => ∃ (t1 : Nat), ∃ (t2 : Nat), va_P (dC, dI) vwCl [(h0, .inr (6, [.ref t1, .ref t2, .int 0, .int 0, .long 0, .long 0]))] t.heap ∧ va_K (dC, dI) vwCl [] t ∧ va_D (va_A [(h0, .inr (6, [.null, .null, .int 0, .int 0, .long 0, .long 0]))] sz) [(h0, .inr (6, [.ref t1, .ref t2, .int 0, .int 0, .long 0, .long 0]))]) (va_A [(h0, .inr (6, [.null, .null, .int 0, .int 0, .long 0, .long 0]))] sz)) 2 178 (va_A [(h0, .inr (6, [.null, .null, .int 0, .int 0, .long 0, .long 0]))] sz) := by
  refine Met.ofW (cc := cX1_init) (maxL := 1) (ret := none) (by decide) rfl ?_
  intro p e s m args below meth c s₁ B hml hv
  obtain ⟨rfl, hsz, hP, hK, hD0⟩ := hv
  have hx := B.exec
  have hb := B.bytes
  have hr := B.returns
  have hts0 := atoms_spec (ws := (pw_ws yX1_init cX1_init 1 none)) B.pre
  have hts : ∀ w ∈ pw_all, w.before _ s = true := fun w h => hts0 w (List.mem_cons_of_mem _ h)
  have hown : s.vm.findClass RX1 = some m.cls := findClass_of_methodNamed B.named
  have hlocks := B.notSynchronized
  have hin : meth.name = "<init>" := (name_of_methodNamed B.named B.method).1
  subst hsz
  have hD := hD0.self (sz := s.heap.size)
  generalize hAe : va_A [(h0, .inr (6, [.null, .null, .int 0, .int 0, .long 0, .long 0]))] s.heap.size = A at hD ⊢
  have hA : ∀ q : Nat, s.heap.size ≤ q → A q := fun q h => by rw [← hAe]; exact Or.inr h
  have hS : va_S A s.heap s.heap [] := va_S.rf
  have hP : va_P (dC, dI) vwCl [(h0, .inr (6, [.null, .null, .int 0, .int 0, .long 0, .long 0]))] s.heap := hP
  have hl := lv_entry ([.ref h0]) (n := 1) (Nat.le_of_ble_eq_true rfl)
  rw [lg_entry_eq]
  generalize (lg_sl ([.ref h0]) ++ List.replicate (1 - (lg_sl ([.ref h0])).length) Slot.unset).toArray = ls at hl ⊢
  have hl : lv_has ls 1 [(0, .ref h0)] := hl
  skip
  refine lv_aload_n hx hb dX1_init_0 rfl (lv_at hl 0 rfl) ?_
  refine W.objInit hx hb hown (hts _ q122) (hts _ q86) (hts _ q87) rfl (by rw [hml]; exact hl.1) rfl dX1_init_1 (Nat.le_of_ble_eq_true rfl) (Nat.le_of_ble_eq_true rfl) ?_
  refine W.eq (g2 := F0 m 4 ls []) rfl ?_
  refine lv_aload_n hx hb dX1_init_4 rfl (lv_at hl 0 rfl) ?_
  refine lv_bipush (v := 89) hx hb dX1_init_5 (by decide) ?_
  refine va_newa (atype := .int) (N' := 89) (a0 := (89, .inl (fun _ => 0))) (ty := .int) (n := 89) hx hb (hts _ q143) rfl hK hP hD hS hA (fun _ => rfl) (by decide) (by decide) (Nat.le_of_ble_eq_true rfl) (Nat.le_of_ble_eq_true rfl) (Nat.le_of_ble_eq_true rfl) dX1_init_7 (fun q_35 cA_36 H hK hP hD hS => ?_)
  have hP : va_P (dC, dI) vwCl [(h0, .inr (6, [.null, .null, .int 0, .int 0, .long 0, .long 0])), (q_35, .inl (cA_36, 89, .inl (fun _ => 0)))] H := hP
  have hD : va_D A [(h0, .inr (6, [.null, .null, .int 0, .int 0, .long 0, .long 0])), (q_35, .inl (cA_36, 89, .inl (fun _ => 0)))] := hD
  have hK : va_K (dC, dI) vwCl [(cA_36, .int)] s := hK
  refine W.widen (k := 1) (n := 89) (Nat.le_of_ble_eq_true rfl) (Nat.le_of_ble_eq_true rfl) ?_
  refine va_putF (D := (dC, dI)) (ci := 6) (v := .ref q_35) (ty := .array .int) (C := RX1) (T := TX1) (N := 6) hx hb hts inX1 tyX1 tyX1_ok nmX1 hown hK hP hD hS 0 rfl rfl 0 (by decide) (hts _ q123) (fun _ h9 => h9) rfl hin rfl (by decide +kernel) rfl rfl (Nat.le_of_ble_eq_true rfl) dX1_init_9 (fun H locs hP hD hS => ?_)
  have hP : va_P (dC, dI) vwCl [(h0, .inr (6, [.ref q_35, .null, .int 0, .int 0, .long 0, .long 0])), (q_35, .inl (cA_36, 89, .inl (fun _ => 0)))] H := hP
  have hD : va_D A [(h0, .inr (6, [.ref q_35, .null, .int 0, .int 0, .long 0, .long 0])), (q_35, .inl (cA_36, 89, .inl (fun _ => 0)))] := hD
  refine lv_aload_n hx hb dX1_init_12 rfl (lv_at hl 0 rfl) ?_
  refine lv_bipush (v := 89) hx hb dX1_init_13 (by decide) ?_
  refine va_newa (atype := .int) (N' := 89) (a0 := (89, .inl (fun _ => 0))) (ty := .int) (n := 89) hx hb (hts _ q143) rfl hK hP hD hS hA (fun _ => rfl) (by decide) (by decide) (Nat.le_of_ble_eq_true rfl) (Nat.le_of_ble_eq_true rfl) (Nat.le_of_ble_eq_true rfl) dX1_init_15 (fun q_37 cA_38 H hK hP hD hS => ?_)
  have hP : va_P (dC, dI) vwCl [(h0, .inr (6, [.ref q_35, .null, .int 0, .int 0, .long 0, .long 0])), (q_35, .inl (cA_36, 89, .inl (fun _ => 0))), (q_37, .inl (cA_38, 89, .inl (fun _ => 0)))] H := hP
  have hD : va_D A [(h0, .inr (6, [.ref q_35, .null, .int 0, .int 0, .long 0, .long 0])), (q_35, .inl (cA_36, 89, .inl (fun _ => 0))), (q_37, .inl (cA_38, 89, .inl (fun _ => 0)))] := hD
  have hK : va_K (dC, dI) vwCl [(cA_36, .int), (cA_38, .int)] s := hK
  refine W.widen (k := 2) (n := 178) (Nat.le_of_ble_eq_true rfl) (Nat.le_of_ble_eq_true rfl) ?_
  refine va_putF (D := (dC, dI)) (ci := 6) (v := .ref q_37) (ty := .array .int) (C := RX1) (T := TX1) (N := 6) hx hb hts inX1 tyX1 tyX1_ok nmX1 hown hK hP hD hS 0 rfl rfl 1 (by decide) (hts _ q124) (fun _ h9 => h9) rfl hin rfl (by decide +kernel) rfl rfl (Nat.le_of_ble_eq_true rfl) dX1_init_17 (fun H locs hP hD hS => ?_)
  have hP : va_P (dC, dI) vwCl [(h0, .inr (6, [.ref q_35, .ref q_37, .int 0, .int 0, .long 0, .long 0])), (q_35, .inl (cA_36, 89, .inl (fun _ => 0))), (q_37, .inl (cA_38, 89, .inl (fun _ => 0)))] H := hP
  have hD : va_D A [(h0, .inr (6, [.ref q_35, .ref q_37, .int 0, .int 0, .long 0, .long 0])), (q_35, .inl (cA_36, 89, .inl (fun _ => 0))), (q_37, .inl (cA_38, 89, .inl (fun _ => 0)))] := hD
  have hP9 := hP.sub (ws' := [(h0, .inr (6, [.ref q_35, .ref q_37, .int 0, .int 0, .long 0, .long 0]))]) [0] rfl
  have hD9 := hD.sub (ws' := [(h0, .inr (6, [.ref q_35, .ref q_37, .int 0, .int 0, .long 0, .long 0]))]) [0] (by decide) rfl
  have hK9 := hK.sub (tys' := []) [] rfl
  refine W.widen (k := 2) (n := 178) (Nat.le_of_ble_eq_true rfl) (Nat.le_of_ble_eq_true rfl) ?_
  exact W.vret hx hb hr (fun t ht hW => ⟨⟨(), rfl, trivial, ⟨q_35, q_37, by rw [ht]; exact hP9, va_K.moved hW.alike hK9, hD9⟩⟩, hS.F ht⟩) hS.2.2 dX1_init_20
set_option maxHeartbeats 4000000 in
set_option maxRecDepth 100000 in
theorem m_structInit (l : Launch) (dC : Nat → ClassId) (dI : Nat → Nat → Nat) (sz : Nat) (h0 : Nat) : Met l yX5_init (pw_ws yX5_init cX5_init 1 none) ({ frames := 2, cells := 11, slots := 55, locals := 40 } : Room) (va_Pc [.ref h0] (fun U => U.heap.size = sz ∧ va_P (dC, dI) vwCl [(h0, .inr (10, [.null, .null, .int 0, .long 0, .int 0, .int 0, .int 0]))] U.heap ∧ va_K (dC, dI) vwCl [] U ∧ va_D (fun _ => True) [(h0, .inr (10, [.null, .null, .int 0, .long 0, .int 0, .int 0, .int 0]))])) (va_Qv (fun (_ : Unit) => True) (fun (_ : Unit) (t : State) => ∃ (f0 : Value), ∃ (f1 : Value), ∃ (f2 : Value), ∃ (f3 : Value), ∃ (f4 : Value), ∃ (f5 : Value), ∃ (f6 : Value), va_P (dC, dI) vwCl [(h0, .inr (10, [f0, f1, f2, f3, f4, f5, f6]))] t.heap ∧ va_K (dC, dI) vwCl [] t ∧ va_D (va_A [(h0, .inr (10, [.null, .null, .int 0, .long 0, .int 0, .int 0, .int 0]))] sz) [(h0, .inr (10, [f0, f1, f2, f3, f4, f5, f6]))]) (va_A [(h0, .inr (10, [.null, .null, .int 0, .long 0, .int 0, .int 0, .int 0]))] sz)) 11 55 (va_A [(h0, .inr (10, [.null, .null, .int 0, .long 0, .int 0, .int 0, .int 0]))] sz) := by
  refine Met.ofW (cc := cX5_init) (maxL := 1) (ret := none) (by decide) rfl ?_
  intro p e s m args below meth c s₁ B hml hv
  obtain ⟨rfl, hsz, hP, hK, hD0⟩ := hv
  have hx := B.exec
  have hb := B.bytes
  have hr := B.returns
  have hts0 := atoms_spec (ws := (pw_ws yX5_init cX5_init 1 none)) B.pre
  have hts : ∀ w ∈ pw_all, w.before _ s = true := fun w h => hts0 w (List.mem_cons_of_mem _ h)
  have hown : s.vm.findClass RX5 = some m.cls := findClass_of_methodNamed B.named
  have hlocks := B.notSynchronized
  have hin : meth.name = "<init>" := (name_of_methodNamed B.named B.method).1
  subst hsz
  have hD := hD0.self (sz := s.heap.size)
  generalize hAe : va_A [(h0, .inr (10, [.null, .null, .int 0, .long 0, .int 0, .int 0, .int 0]))] s.heap.size = A at hD ⊢
  have hA : ∀ q : Nat, s.heap.size ≤ q → A q := fun q h => by rw [← hAe]; exact Or.inr h
  have hS : va_S A s.heap s.heap [] := va_S.rf
  have hP : va_P (dC, dI) vwCl [(h0, .inr (10, [.null, .null, .int 0, .long 0, .int 0, .int 0, .int 0]))] s.heap := hP
  have hl := lv_entry ([.ref h0]) (n := 1) (Nat.le_of_ble_eq_true rfl)
  rw [lg_entry_eq]
  generalize (lg_sl ([.ref h0]) ++ List.replicate (1 - (lg_sl ([.ref h0])).length) Slot.unset).toArray = ls at hl ⊢
  have hl : lv_has ls 1 [(0, .ref h0)] := hl
  skip
  refine lv_aload_n hx hb dX5_init_0 rfl (lv_at hl 0 rfl) ?_
  refine W.objInit hx hb hown (hts _ q397) (hts _ q86) (hts _ q87) rfl (by rw [hml]; exact hl.1) rfl dX5_init_1 (Nat.le_of_ble_eq_true rfl) (Nat.le_of_ble_eq_true rfl) ?_
  refine W.eq (g2 := F0 m 4 ls []) rfl ?_
  refine lv_aload_n hx hb dX5_init_4 rfl (lv_at hl 0 rfl) ?_
  refine va_new (ci := 5) (fs := [.null, .null, .null, .null, .null, .null, .null, .null, .null, .int 0, .long 0]) (C := RX0) (T := TX0) (N := 11) hx hb hts inX0 tyX0 tyX0_ok hown (hts _ q398) (hts _ q145) (hts _ q48) hK hP hD hS hA rfl (fun j hj => by rcases (show j = 0 ∨ j = 1 ∨ j = 2 ∨ j = 3 ∨ j = 4 ∨ j = 5 ∨ j = 6 ∨ j = 7 ∨ j = 8 ∨ j = 9 ∨ j = 10 by omega) with rfl | rfl | rfl | rfl | rfl | rfl | rfl | rfl | rfl | rfl | rfl <;> rfl) (Nat.le_of_ble_eq_true rfl) (Nat.le_of_ble_eq_true rfl) dX5_init_5 (fun q_39 H hP hD hS => ?_)
  have hP : va_P (dC, dI) vwCl [(h0, .inr (10, [.null, .null, .int 0, .long 0, .int 0, .int 0, .int 0])), (q_39, .inr (5, [.null, .null, .null, .null, .null, .null, .null, .null, .null, .int 0, .long 0]))] H := hP
  have hD : va_D A [(h0, .inr (10, [.null, .null, .int 0, .long 0, .int 0, .int 0, .int 0])), (q_39, .inr (5, [.null, .null, .null, .null, .null, .null, .null, .null, .null, .int 0, .long 0]))] := hD
  refine W.widen (k := 1) (n := 11) (Nat.le_of_ble_eq_true rfl) (Nat.le_of_ble_eq_true rfl) ?_
  refine lv_dup hx hb dX5_init_8 rfl ?_
  have hPc := hP.sub (ws' := [(q_39, .inr (5, [.null, .null, .null, .null, .null, .null, .null, .null, .null, .int 0, .long 0]))]) [1] rfl
  have hDc := hD.sub (ws' := [(q_39, .inr (5, [.null, .null, .null, .null, .null, .null, .null, .null, .null, .int 0, .long 0]))]) [1] (by decide) rfl
  have hKc := hK.sub (tys' := []) [] rfl
  have hFc := va_free (wc := [(q_39, .inr (5, [.null, .null, .null, .null, .null, .null, .null, .null, .null, .int 0, .long 0]))]) hD hS hA [1] rfl
  refine va_callv (va_runI (As := []) (rest := [.ref q_39, .ref h0]) ⟨hx, hb, hml, hown, hts⟩ (m_chainInit l dC dI H.size q_39) (cwI 0 hts (pw_c q148) rfl rfl rfl (hts _ q48) (hts _ q399) (hts _ q147) rfl (by decide +kernel) ⟨(Nat.le_of_ble_eq_true rfl), (Nat.le_of_ble_eq_true rfl)⟩) ⟨fun a U g mk q => by obtain ⟨q0, q1, qP, qK, qD⟩ := q; exact ⟨q0, q1, qP, va_K.moved (u := U) (U := U.calling g mk a) (Vm.Alike.refl U.vm) qK, qD⟩, fun U hU hW => ⟨rfl, by rw [hU], by rw [hU]; exact hPc, va_K.moved hW.alike hKc, hDc.weaken (fun _ _ _ _ => trivial)⟩⟩ rfl rfl hl.1 rfl (lv_room (Nat.le_of_ble_eq_true rfl)) dX5_init_9 ⟨(Nat.le_of_ble_eq_true rfl), (Nat.le_of_ble_eq_true rfl)⟩) hS (fun q _ h => hFc q h) hFc (fun u t H1 locs ht hvm hw hB hz1 hk1 hS => ?_)
  obtain ⟨hP1, hK1, hD1⟩ := hB
  rw [ht] at hP1
  have hK1 := va_K.moved hvm.symm hK1
  obtain ⟨hP, hD⟩ := va_join (wr := [(h0, .inr (10, [.null, .null, .int 0, .long 0, .int 0, .int 0, .int 0]))]) (w1 := []) hP hD [1] [0] rfl rfl (by decide) (by decide) hk1 hFc hP1 hD1
  have hK := (hK.sub (tys' := []) [] rfl).app hK1
  generalize H1 = H at hP hS ⊢
  have hP : va_P (dC, dI) vwCl [(h0, .inr (10, [.null, .null, .int 0, .long 0, .int 0, .int 0, .int 0]))] H := hP
  have hD : va_D A [(h0, .inr (10, [.null, .null, .int 0, .long 0, .int 0, .int 0, .int 0]))] := hD
  have hK : va_K (dC, dI) vwCl [] s := hK
  refine W.widen (k := 10) (n := 47) (Nat.le_of_ble_eq_true rfl) (Nat.le_of_ble_eq_true rfl) ?_
  refine va_putF (D := (dC, dI)) (ci := 10) (v := .ref q_39) (ty := .object "Shakerhall$Chain") (C := RX5) (T := TX5) (N := 7) hx hb hts inX5 tyX5 tyX5_ok nmX5 hown hK hP hD hS 0 rfl rfl 0 (by decide) (hts _ q401) (fun _ h9 => h9) rfl hin rfl (by decide +kernel) rfl rfl (Nat.le_of_ble_eq_true rfl) dX5_init_12 (fun H locs hP hD hS => ?_)
  have hP : va_P (dC, dI) vwCl [(h0, .inr (10, [.ref q_39, .null, .int 0, .long 0, .int 0, .int 0, .int 0]))] H := hP
  have hD : va_D A [(h0, .inr (10, [.ref q_39, .null, .int 0, .long 0, .int 0, .int 0, .int 0]))] := hD
  refine lv_aload_n hx hb dX5_init_15 rfl (lv_at hl 0 rfl) ?_
  refine lv_bipush (v := 8) hx hb dX5_init_16 (by decide) ?_
  refine va_newa (atype := .int) (N' := 8) (a0 := (8, .inl (fun _ => 0))) (ty := .int) (n := 8) hx hb (hts _ q143) rfl hK hP hD hS hA (fun _ => rfl) (by decide) (by decide) (Nat.le_of_ble_eq_true rfl) (Nat.le_of_ble_eq_true rfl) (Nat.le_of_ble_eq_true rfl) dX5_init_18 (fun q_41 cA_42 H hK hP hD hS => ?_)
  have hP : va_P (dC, dI) vwCl [(h0, .inr (10, [.ref q_39, .null, .int 0, .long 0, .int 0, .int 0, .int 0])), (q_41, .inl (cA_42, 8, .inl (fun _ => 0)))] H := hP
  have hD : va_D A [(h0, .inr (10, [.ref q_39, .null, .int 0, .long 0, .int 0, .int 0, .int 0])), (q_41, .inl (cA_42, 8, .inl (fun _ => 0)))] := hD
  have hK : va_K (dC, dI) vwCl [(cA_42, .int)] s := hK
  refine W.widen (k := 11) (n := 55) (Nat.le_of_ble_eq_true rfl) (Nat.le_of_ble_eq_true rfl) ?_
  refine va_putF (D := (dC, dI)) (ci := 10) (v := .ref q_41) (ty := .array .int) (C := RX5) (T := TX5) (N := 7) hx hb hts inX5 tyX5 tyX5_ok nmX5 hown hK hP hD hS 0 rfl rfl 1 (by decide) (hts _ q404) (fun _ h9 => h9) rfl hin rfl (by decide +kernel) rfl rfl (Nat.le_of_ble_eq_true rfl) dX5_init_20 (fun H locs hP hD hS => ?_)
  have hP : va_P (dC, dI) vwCl [(h0, .inr (10, [.ref q_39, .ref q_41, .int 0, .long 0, .int 0, .int 0, .int 0])), (q_41, .inl (cA_42, 8, .inl (fun _ => 0)))] H := hP
  have hD : va_D A [(h0, .inr (10, [.ref q_39, .ref q_41, .int 0, .long 0, .int 0, .int 0, .int 0])), (q_41, .inl (cA_42, 8, .inl (fun _ => 0)))] := hD
  refine lv_aload_n hx hb dX5_init_23 rfl (lv_at hl 0 rfl) ?_
  refine lv_ldc (v := 1000000000) hx hb hown (hts _ q400) dX5_init_24 ?_
  refine va_put (D := (dC, dI)) (ci := 10) (v := .int 1000000000) (ty := .int) (C := RX5) (T := TX5) (N := 7) hx hb hts inX5 tyX5 tyX5_ok nmX5 hown hK hP hD hS 0 rfl rfl 2 (by decide) (hts _ q407) (fun _ h9 => h9) rfl (by decide +kernel) rfl rfl (Nat.le_of_ble_eq_true rfl) dX5_init_26 (fun H locs hP hD hS => ?_)
  have hP : va_P (dC, dI) vwCl [(h0, .inr (10, [.ref q_39, .ref q_41, .int 1000000000, .long 0, .int 0, .int 0, .int 0])), (q_41, .inl (cA_42, 8, .inl (fun _ => 0)))] H := hP
  have hD : va_D A [(h0, .inr (10, [.ref q_39, .ref q_41, .int 1000000000, .long 0, .int 0, .int 0, .int 0])), (q_41, .inl (cA_42, 8, .inl (fun _ => 0)))] := hD
  have hP9 := hP.sub (ws' := [(h0, .inr (10, [.ref q_39, .ref q_41, .int 1000000000, .long 0, .int 0, .int 0, .int 0]))]) [0] rfl
  have hD9 := hD.sub (ws' := [(h0, .inr (10, [.ref q_39, .ref q_41, .int 1000000000, .long 0, .int 0, .int 0, .int 0]))]) [0] (by decide) rfl
  have hK9 := hK.sub (tys' := []) [] rfl
  refine W.widen (k := 11) (n := 55) (Nat.le_of_ble_eq_true rfl) (Nat.le_of_ble_eq_true rfl) ?_
  exact W.vret hx hb hr (fun t ht hW => ⟨⟨(), rfl, trivial, ⟨(.ref q_39), (.ref q_41), (.int 1000000000), (.long 0), (.int 0), (.int 0), (.int 0), by rw [ht]; exact hP9, va_K.moved hW.alike hK9, hD9⟩⟩, hS.F ht⟩) hS.2.2 dX5_init_29
set_option maxHeartbeats 4000000 in
set_option maxRecDepth 100000 in
theorem m_specInit (l : Launch) (dC : Nat → ClassId) (dI : Nat → Nat → Nat) (sz : Nat) (h0 : Nat) : Met l yX4_init (pw_ws yX4_init cX4_init 1 none) ({ frames := 1, cells := 2, slots := 16, locals := 20 } : Room) (va_Pc [.ref h0] (fun U => U.heap.size = sz ∧ va_P (dC, dI) vwCl [(h0, .inr (9, [.null, .null]))] U.heap ∧ va_K (dC, dI) vwCl [] U ∧ va_D (fun _ => True) [(h0, .inr (9, [.null, .null]))])) (va_Qv (fun (_ : Unit) => True) (fun (_ : Unit) (t : State) => ∃ (f0 : Value), ∃ (f1 : Value), va_P (dC, dI) vwCl [(h0, .inr (9, [f0, f1]))] t.heap ∧ va_K (dC, dI) vwCl [] t ∧ va_D (va_A [(h0, .inr (9, [.null, .null]))] sz) [(h0, .inr (9, [f0, f1]))]) (va_A [(h0, .inr (9, [.null, .null]))] sz)) 2 16 (va_A [(h0, .inr (9, [.null, .null]))] sz) := by
  refine Met.ofW (cc := cX4_init) (maxL := 1) (ret := none) (by decide) rfl ?_
  intro p e s m args below meth c s₁ B hml hv
  obtain ⟨rfl, hsz, hP, hK, hD0⟩ := hv
  have hx := B.exec
  have hb := B.bytes
  have hr := B.returns
  have hts0 := atoms_spec (ws := (pw_ws yX4_init cX4_init 1 none)) B.pre
  have hts : ∀ w ∈ pw_all, w.before _ s = true := fun w h => hts0 w (List.mem_cons_of_mem _ h)
  have hown : s.vm.findClass RX4 = some m.cls := findClass_of_methodNamed B.named
  have hlocks := B.notSynchronized
  have hin : meth.name = "<init>" := (name_of_methodNamed B.named B.method).1
  subst hsz
  have hD := hD0.self (sz := s.heap.size)
  generalize hAe : va_A [(h0, .inr (9, [.null, .null]))] s.heap.size = A at hD ⊢
  have hA : ∀ q : Nat, s.heap.size ≤ q → A q := fun q h => by rw [← hAe]; exact Or.inr h
  have hS : va_S A s.heap s.heap [] := va_S.rf
  have hP : va_P (dC, dI) vwCl [(h0, .inr (9, [.null, .null]))] s.heap := hP
  have hl := lv_entry ([.ref h0]) (n := 1) (Nat.le_of_ble_eq_true rfl)
  rw [lg_entry_eq]
  generalize (lg_sl ([.ref h0]) ++ List.replicate (1 - (lg_sl ([.ref h0])).length) Slot.unset).toArray = ls at hl ⊢
  have hl : lv_has ls 1 [(0, .ref h0)] := hl
  skip
  refine lv_aload_n hx hb dX4_init_0 rfl (lv_at hl 0 rfl) ?_
  refine W.objInit hx hb hown (hts _ q724) (hts _ q86) (hts _ q87) rfl (by rw [hml]; exact hl.1) rfl dX4_init_1 (Nat.le_of_ble_eq_true rfl) (Nat.le_of_ble_eq_true rfl) ?_
  refine W.eq (g2 := F0 m 4 ls []) rfl ?_
  refine lv_aload_n hx hb dX4_init_4 rfl (lv_at hl 0 rfl) ?_
  refine lv_bipush (v := 8) hx hb dX4_init_5 (by decide) ?_
  refine va_newa (atype := .int) (N' := 8) (a0 := (8, .inl (fun _ => 0))) (ty := .int) (n := 8) hx hb (hts _ q143) rfl hK hP hD hS hA (fun _ => rfl) (by decide) (by decide) (Nat.le_of_ble_eq_true rfl) (Nat.le_of_ble_eq_true rfl) (Nat.le_of_ble_eq_true rfl) dX4_init_7 (fun q_43 cA_44 H hK hP hD hS => ?_)
  have hP : va_P (dC, dI) vwCl [(h0, .inr (9, [.null, .null])), (q_43, .inl (cA_44, 8, .inl (fun _ => 0)))] H := hP
  have hD : va_D A [(h0, .inr (9, [.null, .null])), (q_43, .inl (cA_44, 8, .inl (fun _ => 0)))] := hD
  have hK : va_K (dC, dI) vwCl [(cA_44, .int)] s := hK
  refine W.widen (k := 1) (n := 8) (Nat.le_of_ble_eq_true rfl) (Nat.le_of_ble_eq_true rfl) ?_
  refine va_putF (D := (dC, dI)) (ci := 9) (v := .ref q_43) (ty := .array .int) (C := RX4) (T := TX4) (N := 2) hx hb hts inX4 tyX4 tyX4_ok nmX4 hown hK hP hD hS 0 rfl rfl 0 (by decide) (hts _ q725) (fun _ h9 => h9) rfl hin rfl (by decide +kernel) rfl rfl (Nat.le_of_ble_eq_true rfl) dX4_init_9 (fun H locs hP hD hS => ?_)
  have hP : va_P (dC, dI) vwCl [(h0, .inr (9, [.ref q_43, .null])), (q_43, .inl (cA_44, 8, .inl (fun _ => 0)))] H := hP
  have hD : va_D A [(h0, .inr (9, [.ref q_43, .null])), (q_43, .inl (cA_44, 8, .inl (fun _ => 0)))] := hD
  refine lv_aload_n hx hb dX4_init_12 rfl (lv_at hl 0 rfl) ?_
  refine lv_bipush (v := 8) hx hb dX4_init_13 (by decide) ?_
  refine va_newa (atype := .int) (N' := 8) (a0 := (8, .inl (fun _ => 0))) (ty := .int) (n := 8) hx hb (hts _ q143) rfl hK hP hD hS hA (fun _ => rfl) (by decide) (by decide) (Nat.le_of_ble_eq_true rfl) (Nat.le_of_ble_eq_true rfl) (Nat.le_of_ble_eq_true rfl) dX4_init_15 (fun q_45 cA_46 H hK hP hD hS => ?_)
  have hP : va_P (dC, dI) vwCl [(h0, .inr (9, [.ref q_43, .null])), (q_43, .inl (cA_44, 8, .inl (fun _ => 0))), (q_45, .inl (cA_46, 8, .inl (fun _ => 0)))] H := hP
  have hD : va_D A [(h0, .inr (9, [.ref q_43, .null])), (q_43, .inl (cA_44, 8, .inl (fun _ => 0))), (q_45, .inl (cA_46, 8, .inl (fun _ => 0)))] := hD
  have hK : va_K (dC, dI) vwCl [(cA_44, .int), (cA_46, .int)] s := hK
  refine W.widen (k := 2) (n := 16) (Nat.le_of_ble_eq_true rfl) (Nat.le_of_ble_eq_true rfl) ?_
  refine lv_dup hx hb dX4_init_17 rfl ?_
  refine lv_iconst (v := 0) hx hb dX4_init_18 (by decide) ?_
  refine lv_bipush (v := 10) hx hb dX4_init_19 (by decide) ?_
  refine va_iast hx hb hK hP hD hS 2 1 rfl rfl (by unfold vp_in; decide) dX4_init_21 (fun H locs hP hD hS => ?_)
  have hP : va_P (dC, dI) vwCl [(h0, .inr (9, [.ref q_43, .null])), (q_43, .inl (cA_44, 8, .inl (fun _ => 0))), (q_45, .inl (cA_46, 8, .inl (upd (fun _ => 0) (0 : Int32).toNatClampNeg 10)))] H := hP
  have hD : va_D A [(h0, .inr (9, [.ref q_43, .null])), (q_43, .inl (cA_44, 8, .inl (fun _ => 0))), (q_45, .inl (cA_46, 8, .inl (upd (fun _ => 0) (0 : Int32).toNatClampNeg 10)))] := hD
  generalize (upd (fun _ => 0) (0 : Int32).toNatClampNeg 10) = f_47 at hP hD
  refine lv_dup hx hb dX4_init_22 rfl ?_
  refine lv_iconst (v := 1) hx hb dX4_init_23 (by decide) ?_
  refine lv_bipush (v := 10) hx hb dX4_init_24 (by decide) ?_
  refine va_iast hx hb hK hP hD hS 2 1 rfl rfl (by unfold vp_in; decide) dX4_init_26 (fun H locs hP hD hS => ?_)
  have hP : va_P (dC, dI) vwCl [(h0, .inr (9, [.ref q_43, .null])), (q_43, .inl (cA_44, 8, .inl (fun _ => 0))), (q_45, .inl (cA_46, 8, .inl (upd f_47 (1 : Int32).toNatClampNeg 10)))] H := hP
  have hD : va_D A [(h0, .inr (9, [.ref q_43, .null])), (q_43, .inl (cA_44, 8, .inl (fun _ => 0))), (q_45, .inl (cA_46, 8, .inl (upd f_47 (1 : Int32).toNatClampNeg 10)))] := hD
  generalize (upd f_47 (1 : Int32).toNatClampNeg 10) = f_48 at hP hD
  refine lv_dup hx hb dX4_init_27 rfl ?_
  refine lv_iconst (v := 2) hx hb dX4_init_28 (by decide) ?_
  refine lv_bipush (v := 10) hx hb dX4_init_29 (by decide) ?_
  refine va_iast hx hb hK hP hD hS 2 1 rfl rfl (by unfold vp_in; decide) dX4_init_31 (fun H locs hP hD hS => ?_)
  have hP : va_P (dC, dI) vwCl [(h0, .inr (9, [.ref q_43, .null])), (q_43, .inl (cA_44, 8, .inl (fun _ => 0))), (q_45, .inl (cA_46, 8, .inl (upd f_48 (2 : Int32).toNatClampNeg 10)))] H := hP
  have hD : va_D A [(h0, .inr (9, [.ref q_43, .null])), (q_43, .inl (cA_44, 8, .inl (fun _ => 0))), (q_45, .inl (cA_46, 8, .inl (upd f_48 (2 : Int32).toNatClampNeg 10)))] := hD
  generalize (upd f_48 (2 : Int32).toNatClampNeg 10) = f_49 at hP hD
  refine lv_dup hx hb dX4_init_32 rfl ?_
  refine lv_iconst (v := 3) hx hb dX4_init_33 (by decide) ?_
  refine lv_bipush (v := 10) hx hb dX4_init_34 (by decide) ?_
  refine va_iast hx hb hK hP hD hS 2 1 rfl rfl (by unfold vp_in; decide) dX4_init_36 (fun H locs hP hD hS => ?_)
  have hP : va_P (dC, dI) vwCl [(h0, .inr (9, [.ref q_43, .null])), (q_43, .inl (cA_44, 8, .inl (fun _ => 0))), (q_45, .inl (cA_46, 8, .inl (upd f_49 (3 : Int32).toNatClampNeg 10)))] H := hP
  have hD : va_D A [(h0, .inr (9, [.ref q_43, .null])), (q_43, .inl (cA_44, 8, .inl (fun _ => 0))), (q_45, .inl (cA_46, 8, .inl (upd f_49 (3 : Int32).toNatClampNeg 10)))] := hD
  generalize (upd f_49 (3 : Int32).toNatClampNeg 10) = f_50 at hP hD
  refine lv_dup hx hb dX4_init_37 rfl ?_
  refine lv_iconst (v := 4) hx hb dX4_init_38 (by decide) ?_
  refine lv_bipush (v := 10) hx hb dX4_init_39 (by decide) ?_
  refine va_iast hx hb hK hP hD hS 2 1 rfl rfl (by unfold vp_in; decide) dX4_init_41 (fun H locs hP hD hS => ?_)
  have hP : va_P (dC, dI) vwCl [(h0, .inr (9, [.ref q_43, .null])), (q_43, .inl (cA_44, 8, .inl (fun _ => 0))), (q_45, .inl (cA_46, 8, .inl (upd f_50 (4 : Int32).toNatClampNeg 10)))] H := hP
  have hD : va_D A [(h0, .inr (9, [.ref q_43, .null])), (q_43, .inl (cA_44, 8, .inl (fun _ => 0))), (q_45, .inl (cA_46, 8, .inl (upd f_50 (4 : Int32).toNatClampNeg 10)))] := hD
  generalize (upd f_50 (4 : Int32).toNatClampNeg 10) = f_51 at hP hD
  refine lv_dup hx hb dX4_init_42 rfl ?_
  refine lv_iconst (v := 5) hx hb dX4_init_43 (by decide) ?_
  refine lv_bipush (v := 10) hx hb dX4_init_44 (by decide) ?_
  refine va_iast hx hb hK hP hD hS 2 1 rfl rfl (by unfold vp_in; decide) dX4_init_46 (fun H locs hP hD hS => ?_)
  have hP : va_P (dC, dI) vwCl [(h0, .inr (9, [.ref q_43, .null])), (q_43, .inl (cA_44, 8, .inl (fun _ => 0))), (q_45, .inl (cA_46, 8, .inl (upd f_51 (5 : Int32).toNatClampNeg 10)))] H := hP
  have hD : va_D A [(h0, .inr (9, [.ref q_43, .null])), (q_43, .inl (cA_44, 8, .inl (fun _ => 0))), (q_45, .inl (cA_46, 8, .inl (upd f_51 (5 : Int32).toNatClampNeg 10)))] := hD
  generalize (upd f_51 (5 : Int32).toNatClampNeg 10) = f_52 at hP hD
  refine lv_dup hx hb dX4_init_47 rfl ?_
  refine lv_bipush (v := 6) hx hb dX4_init_48 (by decide) ?_
  refine lv_bipush (v := 10) hx hb dX4_init_50 (by decide) ?_
  refine va_iast hx hb hK hP hD hS 2 1 rfl rfl (by unfold vp_in; decide) dX4_init_52 (fun H locs hP hD hS => ?_)
  have hP : va_P (dC, dI) vwCl [(h0, .inr (9, [.ref q_43, .null])), (q_43, .inl (cA_44, 8, .inl (fun _ => 0))), (q_45, .inl (cA_46, 8, .inl (upd f_52 (6 : Int32).toNatClampNeg 10)))] H := hP
  have hD : va_D A [(h0, .inr (9, [.ref q_43, .null])), (q_43, .inl (cA_44, 8, .inl (fun _ => 0))), (q_45, .inl (cA_46, 8, .inl (upd f_52 (6 : Int32).toNatClampNeg 10)))] := hD
  generalize (upd f_52 (6 : Int32).toNatClampNeg 10) = f_53 at hP hD
  refine lv_dup hx hb dX4_init_53 rfl ?_
  refine lv_bipush (v := 7) hx hb dX4_init_54 (by decide) ?_
  refine lv_bipush (v := 10) hx hb dX4_init_56 (by decide) ?_
  refine va_iast hx hb hK hP hD hS 2 1 rfl rfl (by unfold vp_in; decide) dX4_init_58 (fun H locs hP hD hS => ?_)
  have hP : va_P (dC, dI) vwCl [(h0, .inr (9, [.ref q_43, .null])), (q_43, .inl (cA_44, 8, .inl (fun _ => 0))), (q_45, .inl (cA_46, 8, .inl (upd f_53 (7 : Int32).toNatClampNeg 10)))] H := hP
  have hD : va_D A [(h0, .inr (9, [.ref q_43, .null])), (q_43, .inl (cA_44, 8, .inl (fun _ => 0))), (q_45, .inl (cA_46, 8, .inl (upd f_53 (7 : Int32).toNatClampNeg 10)))] := hD
  generalize (upd f_53 (7 : Int32).toNatClampNeg 10) = f_54 at hP hD
  refine va_putF (D := (dC, dI)) (ci := 9) (v := .ref q_45) (ty := .array .int) (C := RX4) (T := TX4) (N := 2) hx hb hts inX4 tyX4 tyX4_ok nmX4 hown hK hP hD hS 0 rfl rfl 1 (by decide) (hts _ q728) (fun _ h9 => h9) rfl hin rfl (by decide +kernel) rfl rfl (Nat.le_of_ble_eq_true rfl) dX4_init_59 (fun H locs hP hD hS => ?_)
  have hP : va_P (dC, dI) vwCl [(h0, .inr (9, [.ref q_43, .ref q_45])), (q_43, .inl (cA_44, 8, .inl (fun _ => 0))), (q_45, .inl (cA_46, 8, .inl f_54))] H := hP
  have hD : va_D A [(h0, .inr (9, [.ref q_43, .ref q_45])), (q_43, .inl (cA_44, 8, .inl (fun _ => 0))), (q_45, .inl (cA_46, 8, .inl f_54))] := hD
  have hP9 := hP.sub (ws' := [(h0, .inr (9, [.ref q_43, .ref q_45]))]) [0] rfl
  have hD9 := hD.sub (ws' := [(h0, .inr (9, [.ref q_43, .ref q_45]))]) [0] (by decide) rfl
  have hK9 := hK.sub (tys' := []) [] rfl
  refine W.widen (k := 2) (n := 16) (Nat.le_of_ble_eq_true rfl) (Nat.le_of_ble_eq_true rfl) ?_
  exact W.vret hx hb hr (fun t ht hW => ⟨⟨(), rfl, trivial, ⟨(.ref q_43), (.ref q_45), by rw [ht]; exact hP9, va_K.moved hW.alike hK9, hD9⟩⟩, hS.F ht⟩) hS.2.2 dX4_init_62
set_option maxHeartbeats 4000000 in
set_option maxRecDepth 100000 in
theorem m_hallInit (l : Launch) (dC : Nat → ClassId) (dI : Nat → Nat → Nat) (sz : Nat) (ed : Nat) (h0 : Nat) : Met l yX6_init (pw_ws yX6_init cX6_init 1 none) ({ frames := 4, cells := 18, slots := 267, locals := 80 } : Room) (va_Pc [.ref h0] (fun U => U.heap.size = sz ∧ va_P (dC, dI) vwCl [(h0, .inr (11, [.null, .null, .null, .null, .null, .int 0, .null, .null]))] U.heap ∧ va_K (dC, dI) vwCl [] U ∧ va_D (fun _ => True) [(h0, .inr (11, [.null, .null, .null, .null, .null, .int 0, .null, .null]))] ∧ pz ed (va_A [(h0, .inr (11, [.null, .null, .null, .null, .null, .int 0, .null, .null]))] sz) U U.heap)) (va_Qv (fun (_ : Unit) => True) (fun (_ : Unit) (t : State) => ∃ (a1 : Nat), ∃ (a2 : Nat), ∃ (a3 : Nat), ∃ (a4 : Nat), ∃ (t : Nat), ∃ (r : Nat), ∃ (cq : Nat), ∃ (t1 : Nat), ∃ (t2 : Nat), ∃ (cT : ClassId), va_P (dC, dI) vwCl [(h0, .inr (11, [.ref a1, .ref a2, .ref a3, .ref a4, .ref t, .int 0, .ref r, .ref cq])), (a1, .inr (4, [.int 0, .ref ed, .int 0])), (a2, .inr (4, [.int 0, .ref ed, .int 0])), (a3, .inr (4, [.int 0, .ref ed, .int 0])), (a4, .inr (4, [.int 0, .ref ed, .int 0])), (t, .inl (cT, 24, .inl (fun _ => 0))), (r, .inr (6, [.ref t1, .ref t2, .int 0, .int 0, .long 0, .long 0]))] t.heap ∧ va_K (dC, dI) vwCl [(cT, .int)] t ∧ va_D (va_A [(h0, .inr (11, [.null, .null, .null, .null, .null, .int 0, .null, .null]))] sz) [(h0, .inr (11, [.ref a1, .ref a2, .ref a3, .ref a4, .ref t, .int 0, .ref r, .ref cq])), (a1, .inr (4, [.int 0, .ref ed, .int 0])), (a2, .inr (4, [.int 0, .ref ed, .int 0])), (a3, .inr (4, [.int 0, .ref ed, .int 0])), (a4, .inr (4, [.int 0, .ref ed, .int 0])), (t, .inl (cT, 24, .inl (fun _ => 0))), (r, .inr (6, [.ref t1, .ref t2, .int 0, .int 0, .long 0, .long 0]))]) (va_A [(h0, .inr (11, [.null, .null, .null, .null, .null, .int 0, .null, .null]))] sz)) 18 267 (va_A [(h0, .inr (11, [.null, .null, .null, .null, .null, .int 0, .null, .null]))] sz) := by
  refine Met.ofW (cc := cX6_init) (maxL := 1) (ret := none) (by decide) rfl ?_
  intro p e s m args below meth c s₁ B hml hv
  obtain ⟨rfl, hsz, hP, hK, hD0, hZ⟩ := hv
  have hx := B.exec
  have hb := B.bytes
  have hr := B.returns
  have hts0 := atoms_spec (ws := (pw_ws yX6_init cX6_init 1 none)) B.pre
  have hts : ∀ w ∈ pw_all, w.before _ s = true := fun w h => hts0 w (List.mem_cons_of_mem _ h)
  have hown : s.vm.findClass RX6 = some m.cls := findClass_of_methodNamed B.named
  have hlocks := B.notSynchronized
  have hin : meth.name = "<init>" := (name_of_methodNamed B.named B.method).1
  subst hsz
  have hD := hD0.self (sz := s.heap.size)
  generalize hAe : va_A [(h0, .inr (11, [.null, .null, .null, .null, .null, .int 0, .null, .null]))] s.heap.size = A at hD hZ ⊢
  have hA : ∀ q : Nat, s.heap.size ≤ q → A q := fun q h => by rw [← hAe]; exact Or.inr h
  have hS : va_S A s.heap s.heap [] := va_S.rf
  have hP : va_P (dC, dI) vwCl [(h0, .inr (11, [.null, .null, .null, .null, .null, .int 0, .null, .null]))] s.heap := hP
  have hl := lv_entry ([.ref h0]) (n := 1) (Nat.le_of_ble_eq_true rfl)
  rw [lg_entry_eq]
  generalize (lg_sl ([.ref h0]) ++ List.replicate (1 - (lg_sl ([.ref h0])).length) Slot.unset).toArray = ls at hl ⊢
  have hl : lv_has ls 1 [(0, .ref h0)] := hl
  skip
  refine lv_aload_n hx hb dX6_init_0 rfl (lv_at hl 0 rfl) ?_
  refine W.objInit hx hb hown (hts _ q85) (hts _ q86) (hts _ q87) rfl (by rw [hml]; exact hl.1) rfl dX6_init_1 (Nat.le_of_ble_eq_true rfl) (Nat.le_of_ble_eq_true rfl) ?_
  refine W.eq (g2 := F0 m 4 ls []) rfl ?_
  refine lv_aload_n hx hb dX6_init_4 rfl (lv_at hl 0 rfl) ?_
  refine va_new (ci := 4) (fs := [.int 0, .null, .int 0]) (C := RJx4a65c) (T := TJx4a65c) (N := 3) hx hb hts inJx4a65c tyJx4a65c tyJx4a65c_ok hown (hts _ q88) (hts _ q89) (hts _ q46) hK hP hD hS hA rfl (fun j hj => by rcases (show j = 0 ∨ j = 1 ∨ j = 2 by omega) with rfl | rfl | rfl <;> rfl) (Nat.le_of_ble_eq_true rfl) (Nat.le_of_ble_eq_true rfl) dX6_init_5 (fun q_55 H hP hD hS => ?_)
  have hP : va_P (dC, dI) vwCl [(h0, .inr (11, [.null, .null, .null, .null, .null, .int 0, .null, .null])), (q_55, .inr (4, [.int 0, .null, .int 0]))] H := hP
  have hD : va_D A [(h0, .inr (11, [.null, .null, .null, .null, .null, .int 0, .null, .null])), (q_55, .inr (4, [.int 0, .null, .int 0]))] := hD
  refine W.widen (k := 1) (n := 3) (Nat.le_of_ble_eq_true rfl) (Nat.le_of_ble_eq_true rfl) ?_
  refine lv_dup hx hb dX6_init_8 rfl ?_
  have hPc := hP.sub (ws' := [(q_55, .inr (4, [.int 0, .null, .int 0]))]) [1] rfl
  have hDc := hD.sub (ws' := [(q_55, .inr (4, [.int 0, .null, .int 0]))]) [1] (by decide) rfl
  have hKc := hK.sub (tys' := []) [] rfl
  have hFc := va_free (wc := [(q_55, .inr (4, [.int 0, .null, .int 0]))]) hD hS hA [1] rfl
  refine va_callv (va_runI (As := []) (rest := [.ref q_55, .ref h0]) ⟨hx, hb, hml, hown, hts⟩ (m_listInit l dC dI H.size ed q_55 (.int 0) .null 0) (cwI 0 hts (pw_c q92) rfl rfl rfl (hts _ q46) (hts _ q90) (hts _ q91) rfl (by decide +kernel) ⟨(Nat.le_of_ble_eq_true rfl), (Nat.le_of_ble_eq_true rfl)⟩) ⟨fun a U g mk q => by obtain ⟨q0, q1, qP, qK, qD, qZ⟩ := q; exact ⟨q0, q1, qP, va_K.moved (u := U) (U := U.calling g mk a) (Vm.Alike.refl U.vm) qK, qD, qZ.same rfl⟩, fun U hU hW => ⟨rfl, by rw [hU], by rw [hU]; exact hPc, va_K.moved hW.alike hKc, hDc.weaken (fun _ _ _ _ => trivial), hZ.call hS hFc hU hW⟩⟩ rfl rfl hl.1 rfl (lv_room (Nat.le_of_ble_eq_true rfl)) dX6_init_9 ⟨(Nat.le_of_ble_eq_true rfl), (Nat.le_of_ble_eq_true rfl)⟩) hS (fun q _ h => hFc q h) hFc (fun u t H1 locs ht hvm hw hB hz1 hk1 hS => ?_)
  obtain ⟨hP1, hK1, hD1⟩ := hB
  rw [ht] at hP1
  have hK1 := va_K.moved hvm.symm hK1
  obtain ⟨hP, hD⟩ := va_join (wr := [(h0, .inr (11, [.null, .null, .null, .null, .null, .int 0, .null, .null]))]) (w1 := [(q_55, .inr (4, [.int 0, .ref ed, .int 0]))]) hP hD [1] [0] rfl rfl (by decide) (by decide) hk1 hFc hP1 hD1
  have hK := (hK.sub (tys' := []) [] rfl).app hK1
  generalize H1 = H at hP hS ⊢
  have hP : va_P (dC, dI) vwCl [(h0, .inr (11, [.null, .null, .null, .null, .null, .int 0, .null, .null])), (q_55, .inr (4, [.int 0, .ref ed, .int 0]))] H := hP
  have hD : va_D A [(h0, .inr (11, [.null, .null, .null, .null, .null, .int 0, .null, .null])), (q_55, .inr (4, [.int 0, .ref ed, .int 0]))] := hD
  have hK : va_K (dC, dI) vwCl [] s := hK
  refine W.widen (k := 1) (n := 3) (Nat.le_of_ble_eq_true rfl) (Nat.le_of_ble_eq_true rfl) ?_
  refine va_putF (D := (dC, dI)) (ci := 11) (v := .ref q_55) (ty := .object "java/util/ArrayList") (C := RX6) (T := TX6) (N := 8) hx hb hts inX6 tyX6 tyX6_ok nmX6 hown hK hP hD hS 0 rfl rfl 0 (by decide) (hts _ q193) (fun _ h9 => h9) rfl hin rfl (by decide +kernel) rfl rfl (Nat.le_of_ble_eq_true rfl) dX6_init_12 (fun H locs hP hD hS => ?_)
  have hP : va_P (dC, dI) vwCl [(h0, .inr (11, [.ref q_55, .null, .null, .null, .null, .int 0, .null, .null])), (q_55, .inr (4, [.int 0, .ref ed, .int 0]))] H := hP
  have hD : va_D A [(h0, .inr (11, [.ref q_55, .null, .null, .null, .null, .int 0, .null, .null])), (q_55, .inr (4, [.int 0, .ref ed, .int 0]))] := hD
  refine lv_aload_n hx hb dX6_init_15 rfl (lv_at hl 0 rfl) ?_
  refine va_new (ci := 4) (fs := [.int 0, .null, .int 0]) (C := RJx4a65c) (T := TJx4a65c) (N := 3) hx hb hts inJx4a65c tyJx4a65c tyJx4a65c_ok hown (hts _ q88) (hts _ q89) (hts _ q46) hK hP hD hS hA rfl (fun j hj => by rcases (show j = 0 ∨ j = 1 ∨ j = 2 by omega) with rfl | rfl | rfl <;> rfl) (Nat.le_of_ble_eq_true rfl) (Nat.le_of_ble_eq_true rfl) dX6_init_16 (fun q_57 H hP hD hS => ?_)
  have hP : va_P (dC, dI) vwCl [(h0, .inr (11, [.ref q_55, .null, .null, .null, .null, .int 0, .null, .null])), (q_55, .inr (4, [.int 0, .ref ed, .int 0])), (q_57, .inr (4, [.int 0, .null, .int 0]))] H := hP
  have hD : va_D A [(h0, .inr (11, [.ref q_55, .null, .null, .null, .null, .int 0, .null, .null])), (q_55, .inr (4, [.int 0, .ref ed, .int 0])), (q_57, .inr (4, [.int 0, .null, .int 0]))] := hD
  refine W.widen (k := 2) (n := 6) (Nat.le_of_ble_eq_true rfl) (Nat.le_of_ble_eq_true rfl) ?_
  refine lv_dup hx hb dX6_init_19 rfl ?_
  have hPc := hP.sub (ws' := [(q_57, .inr (4, [.int 0, .null, .int 0]))]) [2] rfl
  have hDc := hD.sub (ws' := [(q_57, .inr (4, [.int 0, .null, .int 0]))]) [2] (by decide) rfl
  have hKc := hK.sub (tys' := []) [] rfl
  have hFc := va_free (wc := [(q_57, .inr (4, [.int 0, .null, .int 0]))]) hD hS hA [2] rfl
  refine va_callv (va_runI (As := []) (rest := [.ref q_57, .ref h0]) ⟨hx, hb, hml, hown, hts⟩ (m_listInit l dC dI H.size ed q_57 (.int 0) .null 0) (cwI 0 hts (pw_c q92) rfl rfl rfl (hts _ q46) (hts _ q90) (hts _ q91) rfl (by decide +kernel) ⟨(Nat.le_of_ble_eq_true rfl), (Nat.le_of_ble_eq_true rfl)⟩) ⟨fun a U g mk q => by obtain ⟨q0, q1, qP, qK, qD, qZ⟩ := q; exact ⟨q0, q1, qP, va_K.moved (u := U) (U := U.calling g mk a) (Vm.Alike.refl U.vm) qK, qD, qZ.same rfl⟩, fun U hU hW => ⟨rfl, by rw [hU], by rw [hU]; exact hPc, va_K.moved hW.alike hKc, hDc.weaken (fun _ _ _ _ => trivial), hZ.call hS hFc hU hW⟩⟩ rfl rfl hl.1 rfl (lv_room (Nat.le_of_ble_eq_true rfl)) dX6_init_20 ⟨(Nat.le_of_ble_eq_true rfl), (Nat.le_of_ble_eq_true rfl)⟩) hS (fun q _ h => hFc q h) hFc (fun u t H1 locs ht hvm hw hB hz1 hk1 hS => ?_)
  obtain ⟨hP1, hK1, hD1⟩ := hB
  rw [ht] at hP1
  have hK1 := va_K.moved hvm.symm hK1
  obtain ⟨hP, hD⟩ := va_join (wr := [(h0, .inr (11, [.ref q_55, .null, .null, .null, .null, .int 0, .null, .null])), (q_55, .inr (4, [.int 0, .ref ed, .int 0]))]) (w1 := [(q_57, .inr (4, [.int 0, .ref ed, .int 0]))]) hP hD [2] [0, 1] rfl rfl (by decide) (by decide) hk1 hFc hP1 hD1
  have hK := (hK.sub (tys' := []) [] rfl).app hK1
  generalize H1 = H at hP hS ⊢
  have hP : va_P (dC, dI) vwCl [(h0, .inr (11, [.ref q_55, .null, .null, .null, .null, .int 0, .null, .null])), (q_55, .inr (4, [.int 0, .ref ed, .int 0])), (q_57, .inr (4, [.int 0, .ref ed, .int 0]))] H := hP
  have hD : va_D A [(h0, .inr (11, [.ref q_55, .null, .null, .null, .null, .int 0, .null, .null])), (q_55, .inr (4, [.int 0, .ref ed, .int 0])), (q_57, .inr (4, [.int 0, .ref ed, .int 0]))] := hD
  have hK : va_K (dC, dI) vwCl [] s := hK
  refine W.widen (k := 2) (n := 6) (Nat.le_of_ble_eq_true rfl) (Nat.le_of_ble_eq_true rfl) ?_
  refine va_putF (D := (dC, dI)) (ci := 11) (v := .ref q_57) (ty := .object "java/util/ArrayList") (C := RX6) (T := TX6) (N := 8) hx hb hts inX6 tyX6 tyX6_ok nmX6 hown hK hP hD hS 0 rfl rfl 1 (by decide) (hts _ q194) (fun _ h9 => h9) rfl hin rfl (by decide +kernel) rfl rfl (Nat.le_of_ble_eq_true rfl) dX6_init_23 (fun H locs hP hD hS => ?_)
  have hP : va_P (dC, dI) vwCl [(h0, .inr (11, [.ref q_55, .ref q_57, .null, .null, .null, .int 0, .null, .null])), (q_55, .inr (4, [.int 0, .ref ed, .int 0])), (q_57, .inr (4, [.int 0, .ref ed, .int 0]))] H := hP
  have hD : va_D A [(h0, .inr (11, [.ref q_55, .ref q_57, .null, .null, .null, .int 0, .null, .null])), (q_55, .inr (4, [.int 0, .ref ed, .int 0])), (q_57, .inr (4, [.int 0, .ref ed, .int 0]))] := hD
  refine lv_aload_n hx hb dX6_init_26 rfl (lv_at hl 0 rfl) ?_
  refine va_new (ci := 4) (fs := [.int 0, .null, .int 0]) (C := RJx4a65c) (T := TJx4a65c) (N := 3) hx hb hts inJx4a65c tyJx4a65c tyJx4a65c_ok hown (hts _ q88) (hts _ q89) (hts _ q46) hK hP hD hS hA rfl (fun j hj => by rcases (show j = 0 ∨ j = 1 ∨ j = 2 by omega) with rfl | rfl | rfl <;> rfl) (Nat.le_of_ble_eq_true rfl) (Nat.le_of_ble_eq_true rfl) dX6_init_27 (fun q_59 H hP hD hS => ?_)
  have hP : va_P (dC, dI) vwCl [(h0, .inr (11, [.ref q_55, .ref q_57, .null, .null, .null, .int 0, .null, .null])), (q_55, .inr (4, [.int 0, .ref ed, .int 0])), (q_57, .inr (4, [.int 0, .ref ed, .int 0])), (q_59, .inr (4, [.int 0, .null, .int 0]))] H := hP
  have hD : va_D A [(h0, .inr (11, [.ref q_55, .ref q_57, .null, .null, .null, .int 0, .null, .null])), (q_55, .inr (4, [.int 0, .ref ed, .int 0])), (q_57, .inr (4, [.int 0, .ref ed, .int 0])), (q_59, .inr (4, [.int 0, .null, .int 0]))] := hD
  refine W.widen (k := 3) (n := 9) (Nat.le_of_ble_eq_true rfl) (Nat.le_of_ble_eq_true rfl) ?_
  refine lv_dup hx hb dX6_init_30 rfl ?_
  have hPc := hP.sub (ws' := [(q_59, .inr (4, [.int 0, .null, .int 0]))]) [3] rfl
  have hDc := hD.sub (ws' := [(q_59, .inr (4, [.int 0, .null, .int 0]))]) [3] (by decide) rfl
  have hKc := hK.sub (tys' := []) [] rfl
  have hFc := va_free (wc := [(q_59, .inr (4, [.int 0, .null, .int 0]))]) hD hS hA [3] rfl
  refine va_callv (va_runI (As := []) (rest := [.ref q_59, .ref h0]) ⟨hx, hb, hml, hown, hts⟩ (m_listInit l dC dI H.size ed q_59 (.int 0) .null 0) (cwI 0 hts (pw_c q92) rfl rfl rfl (hts _ q46) (hts _ q90) (hts _ q91) rfl (by decide +kernel) ⟨(Nat.le_of_ble_eq_true rfl), (Nat.le_of_ble_eq_true rfl)⟩) ⟨fun a U g mk q => by obtain ⟨q0, q1, qP, qK, qD, qZ⟩ := q; exact ⟨q0, q1, qP, va_K.moved (u := U) (U := U.calling g mk a) (Vm.Alike.refl U.vm) qK, qD, qZ.same rfl⟩, fun U hU hW => ⟨rfl, by rw [hU], by rw [hU]; exact hPc, va_K.moved hW.alike hKc, hDc.weaken (fun _ _ _ _ => trivial), hZ.call hS hFc hU hW⟩⟩ rfl rfl hl.1 rfl (lv_room (Nat.le_of_ble_eq_true rfl)) dX6_init_31 ⟨(Nat.le_of_ble_eq_true rfl), (Nat.le_of_ble_eq_true rfl)⟩) hS (fun q _ h => hFc q h) hFc (fun u t H1 locs ht hvm hw hB hz1 hk1 hS => ?_)
  obtain ⟨hP1, hK1, hD1⟩ := hB
  rw [ht] at hP1
  have hK1 := va_K.moved hvm.symm hK1
  obtain ⟨hP, hD⟩ := va_join (wr := [(h0, .inr (11, [.ref q_55, .ref q_57, .null, .null, .null, .int 0, .null, .null])), (q_55, .inr (4, [.int 0, .ref ed, .int 0])), (q_57, .inr (4, [.int 0, .ref ed, .int 0]))]) (w1 := [(q_59, .inr (4, [.int 0, .ref ed, .int 0]))]) hP hD [3] [0, 1, 2] rfl rfl (by decide) (by decide) hk1 hFc hP1 hD1
  have hK := (hK.sub (tys' := []) [] rfl).app hK1
  generalize H1 = H at hP hS ⊢
  have hP : va_P (dC, dI) vwCl [(h0, .inr (11, [.ref q_55, .ref q_57, .null, .null, .null, .int 0, .null, .null])), (q_55, .inr (4, [.int 0, .ref ed, .int 0])), (q_57, .inr (4, [.int 0, .ref ed, .int 0])), (q_59, .inr (4, [.int 0, .ref ed, .int 0]))] H := hP
  have hD : va_D A [(h0, .inr (11, [.ref q_55, .ref q_57, .null, .null, .null, .int 0, .null, .null])), (q_55, .inr (4, [.int 0, .ref ed, .int 0])), (q_57, .inr (4, [.int 0, .ref ed, .int 0])), (q_59, .inr (4, [.int 0, .ref ed, .int 0]))] := hD
  have hK : va_K (dC, dI) vwCl [] s := hK
  refine W.widen (k := 3) (n := 9) (Nat.le_of_ble_eq_true rfl) (Nat.le_of_ble_eq_true rfl) ?_
  refine va_putF (D := (dC, dI)) (ci := 11) (v := .ref q_59) (ty := .object "java/util/ArrayList") (C := RX6) (T := TX6) (N := 8) hx hb hts inX6 tyX6 tyX6_ok nmX6 hown hK hP hD hS 0 rfl rfl 2 (by decide) (hts _ q195) (fun _ h9 => h9) rfl hin rfl (by decide +kernel) rfl rfl (Nat.le_of_ble_eq_true rfl) dX6_init_34 (fun H locs hP hD hS => ?_)
  have hP : va_P (dC, dI) vwCl [(h0, .inr (11, [.ref q_55, .ref q_57, .ref q_59, .null, .null, .int 0, .null, .null])), (q_55, .inr (4, [.int 0, .ref ed, .int 0])), (q_57, .inr (4, [.int 0, .ref ed, .int 0])), (q_59, .inr (4, [.int 0, .ref ed, .int 0]))] H := hP
  have hD : va_D A [(h0, .inr (11, [.ref q_55, .ref q_57, .ref q_59, .null, .null, .int 0, .null, .null])), (q_55, .inr (4, [.int 0, .ref ed, .int 0])), (q_57, .inr (4, [.int 0, .ref ed, .int 0])), (q_59, .inr (4, [.int 0, .ref ed, .int 0]))] := hD
  refine lv_aload_n hx hb dX6_init_37 rfl (lv_at hl 0 rfl) ?_
  refine va_new (ci := 4) (fs := [.int 0, .null, .int 0]) (C := RJx4a65c) (T := TJx4a65c) (N := 3) hx hb hts inJx4a65c tyJx4a65c tyJx4a65c_ok hown (hts _ q88) (hts _ q89) (hts _ q46) hK hP hD hS hA rfl (fun j hj => by rcases (show j = 0 ∨ j = 1 ∨ j = 2 by omega) with rfl | rfl | rfl <;> rfl) (Nat.le_of_ble_eq_true rfl) (Nat.le_of_ble_eq_true rfl) dX6_init_38 (fun q_61 H hP hD hS => ?_)
  have hP : va_P (dC, dI) vwCl [(h0, .inr (11, [.ref q_55, .ref q_57, .ref q_59, .null, .null, .int 0, .null, .null])), (q_55, .inr (4, [.int 0, .ref ed, .int 0])), (q_57, .inr (4, [.int 0, .ref ed, .int 0])), (q_59, .inr (4, [.int 0, .ref ed, .int 0])), (q_61, .inr (4, [.int 0, .null, .int 0]))] H := hP
  have hD : va_D A [(h0, .inr (11, [.ref q_55, .ref q_57, .ref q_59, .null, .null, .int 0, .null, .null])), (q_55, .inr (4, [.int 0, .ref ed, .int 0])), (q_57, .inr (4, [.int 0, .ref ed, .int 0])), (q_59, .inr (4, [.int 0, .ref ed, .int 0])), (q_61, .inr (4, [.int 0, .null, .int 0]))] := hD
  refine W.widen (k := 4) (n := 12) (Nat.le_of_ble_eq_true rfl) (Nat.le_of_ble_eq_true rfl) ?_
  refine lv_dup hx hb dX6_init_41 rfl ?_
  have hPc := hP.sub (ws' := [(q_61, .inr (4, [.int 0, .null, .int 0]))]) [4] rfl
  have hDc := hD.sub (ws' := [(q_61, .inr (4, [.int 0, .null, .int 0]))]) [4] (by decide) rfl
  have hKc := hK.sub (tys' := []) [] rfl
  have hFc := va_free (wc := [(q_61, .inr (4, [.int 0, .null, .int 0]))]) hD hS hA [4] rfl
  refine va_callv (va_runI (As := []) (rest := [.ref q_61, .ref h0]) ⟨hx, hb, hml, hown, hts⟩ (m_listInit l dC dI H.size ed q_61 (.int 0) .null 0) (cwI 0 hts (pw_c q92) rfl rfl rfl (hts _ q46) (hts _ q90) (hts _ q91) rfl (by decide +kernel) ⟨(Nat.le_of_ble_eq_true rfl), (Nat.le_of_ble_eq_true rfl)⟩) ⟨fun a U g mk q => by obtain ⟨q0, q1, qP, qK, qD, qZ⟩ := q; exact ⟨q0, q1, qP, va_K.moved (u := U) (U := U.calling g mk a) (Vm.Alike.refl U.vm) qK, qD, qZ.same rfl⟩, fun U hU hW => ⟨rfl, by rw [hU], by rw [hU]; exact hPc, va_K.moved hW.alike hKc, hDc.weaken (fun _ _ _ _ => trivial), hZ.call hS hFc hU hW⟩⟩ rfl rfl hl.1 rfl (lv_room (Nat.le_of_ble_eq_true rfl)) dX6_init_42 ⟨(Nat.le_of_ble_eq_true rfl), (Nat.le_of_ble_eq_true rfl)⟩) hS (fun q _ h => hFc q h) hFc (fun u t H1 locs ht hvm hw hB hz1 hk1 hS => ?_)
  obtain ⟨hP1, hK1, hD1⟩ := hB
  rw [ht] at hP1
  have hK1 := va_K.moved hvm.symm hK1
  obtain ⟨hP, hD⟩ := va_join (wr := [(h0, .inr (11, [.ref q_55, .ref q_57, .ref q_59, .null, .null, .int 0, .null, .null])), (q_55, .inr (4, [.int 0, .ref ed, .int 0])), (q_57, .inr (4, [.int 0, .ref ed, .int 0])), (q_59, .inr (4, [.int 0, .ref ed, .int 0]))]) (w1 := [(q_61, .inr (4, [.int 0, .ref ed, .int 0]))]) hP hD [4] [0, 1, 2, 3] rfl rfl (by decide) (by decide) hk1 hFc hP1 hD1
  have hK := (hK.sub (tys' := []) [] rfl).app hK1
  generalize H1 = H at hP hS ⊢
  have hP : va_P (dC, dI) vwCl [(h0, .inr (11, [.ref q_55, .ref q_57, .ref q_59, .null, .null, .int 0, .null, .null])), (q_55, .inr (4, [.int 0, .ref ed, .int 0])), (q_57, .inr (4, [.int 0, .ref ed, .int 0])), (q_59, .inr (4, [.int 0, .ref ed, .int 0])), (q_61, .inr (4, [.int 0, .ref ed, .int 0]))] H := hP
  have hD : va_D A [(h0, .inr (11, [.ref q_55, .ref q_57, .ref q_59, .null, .null, .int 0, .null, .null])), (q_55, .inr (4, [.int 0, .ref ed, .int 0])), (q_57, .inr (4, [.int 0, .ref ed, .int 0])), (q_59, .inr (4, [.int 0, .ref ed, .int 0])), (q_61, .inr (4, [.int 0, .ref ed, .int 0]))] := hD
  have hK : va_K (dC, dI) vwCl [] s := hK
  refine W.widen (k := 4) (n := 12) (Nat.le_of_ble_eq_true rfl) (Nat.le_of_ble_eq_true rfl) ?_
  refine va_putF (D := (dC, dI)) (ci := 11) (v := .ref q_61) (ty := .object "java/util/ArrayList") (C := RX6) (T := TX6) (N := 8) hx hb hts inX6 tyX6 tyX6_ok nmX6 hown hK hP hD hS 0 rfl rfl 3 (by decide) (hts _ q196) (fun _ h9 => h9) rfl hin rfl (by decide +kernel) rfl rfl (Nat.le_of_ble_eq_true rfl) dX6_init_45 (fun H locs hP hD hS => ?_)
  have hP : va_P (dC, dI) vwCl [(h0, .inr (11, [.ref q_55, .ref q_57, .ref q_59, .ref q_61, .null, .int 0, .null, .null])), (q_55, .inr (4, [.int 0, .ref ed, .int 0])), (q_57, .inr (4, [.int 0, .ref ed, .int 0])), (q_59, .inr (4, [.int 0, .ref ed, .int 0])), (q_61, .inr (4, [.int 0, .ref ed, .int 0]))] H := hP
  have hD : va_D A [(h0, .inr (11, [.ref q_55, .ref q_57, .ref q_59, .ref q_61, .null, .int 0, .null, .null])), (q_55, .inr (4, [.int 0, .ref ed, .int 0])), (q_57, .inr (4, [.int 0, .ref ed, .int 0])), (q_59, .inr (4, [.int 0, .ref ed, .int 0])), (q_61, .inr (4, [.int 0, .ref ed, .int 0]))] := hD
  refine lv_aload_n hx hb dX6_init_48 rfl (lv_at hl 0 rfl) ?_
  refine lv_bipush (v := 24) hx hb dX6_init_49 (by decide) ?_
  refine va_newa (atype := .int) (N' := 24) (a0 := (24, .inl (fun _ => 0))) (ty := .int) (n := 24) hx hb (hts _ q143) rfl hK hP hD hS hA (fun _ => rfl) (by decide) (by decide) (Nat.le_of_ble_eq_true rfl) (Nat.le_of_ble_eq_true rfl) (Nat.le_of_ble_eq_true rfl) dX6_init_51 (fun q_63 cA_64 H hK hP hD hS => ?_)
  have hP : va_P (dC, dI) vwCl [(h0, .inr (11, [.ref q_55, .ref q_57, .ref q_59, .ref q_61, .null, .int 0, .null, .null])), (q_55, .inr (4, [.int 0, .ref ed, .int 0])), (q_57, .inr (4, [.int 0, .ref ed, .int 0])), (q_59, .inr (4, [.int 0, .ref ed, .int 0])), (q_61, .inr (4, [.int 0, .ref ed, .int 0])), (q_63, .inl (cA_64, 24, .inl (fun _ => 0)))] H := hP
  have hD : va_D A [(h0, .inr (11, [.ref q_55, .ref q_57, .ref q_59, .ref q_61, .null, .int 0, .null, .null])), (q_55, .inr (4, [.int 0, .ref ed, .int 0])), (q_57, .inr (4, [.int 0, .ref ed, .int 0])), (q_59, .inr (4, [.int 0, .ref ed, .int 0])), (q_61, .inr (4, [.int 0, .ref ed, .int 0])), (q_63, .inl (cA_64, 24, .inl (fun _ => 0)))] := hD
  have hK : va_K (dC, dI) vwCl [(cA_64, .int)] s := hK
  refine W.widen (k := 5) (n := 36) (Nat.le_of_ble_eq_true rfl) (Nat.le_of_ble_eq_true rfl) ?_
  refine va_putF (D := (dC, dI)) (ci := 11) (v := .ref q_63) (ty := .array .int) (C := RX6) (T := TX6) (N := 8) hx hb hts inX6 tyX6 tyX6_ok nmX6 hown hK hP hD hS 0 rfl rfl 4 (by decide) (hts _ q197) (fun _ h9 => h9) rfl hin rfl (by decide +kernel) rfl rfl (Nat.le_of_ble_eq_true rfl) dX6_init_53 (fun H locs hP hD hS => ?_)
  have hP : va_P (dC, dI) vwCl [(h0, .inr (11, [.ref q_55, .ref q_57, .ref q_59, .ref q_61, .ref q_63, .int 0, .null, .null])), (q_55, .inr (4, [.int 0, .ref ed, .int 0])), (q_57, .inr (4, [.int 0, .ref ed, .int 0])), (q_59, .inr (4, [.int 0, .ref ed, .int 0])), (q_61, .inr (4, [.int 0, .ref ed, .int 0])), (q_63, .inl (cA_64, 24, .inl (fun _ => 0)))] H := hP
  have hD : va_D A [(h0, .inr (11, [.ref q_55, .ref q_57, .ref q_59, .ref q_61, .ref q_63, .int 0, .null, .null])), (q_55, .inr (4, [.int 0, .ref ed, .int 0])), (q_57, .inr (4, [.int 0, .ref ed, .int 0])), (q_59, .inr (4, [.int 0, .ref ed, .int 0])), (q_61, .inr (4, [.int 0, .ref ed, .int 0])), (q_63, .inl (cA_64, 24, .inl (fun _ => 0)))] := hD
  refine lv_aload_n hx hb dX6_init_56 rfl (lv_at hl 0 rfl) ?_
  refine va_new (ci := 6) (fs := [.null, .null, .int 0, .int 0, .long 0, .long 0]) (C := RX1) (T := TX1) (N := 6) hx hb hts inX1 tyX1 tyX1_ok hown (hts _ q117) (hts _ q118) (hts _ q47) hK hP hD hS hA rfl (fun j hj => by rcases (show j = 0 ∨ j = 1 ∨ j = 2 ∨ j = 3 ∨ j = 4 ∨ j = 5 by omega) with rfl | rfl | rfl | rfl | rfl | rfl <;> rfl) (Nat.le_of_ble_eq_true rfl) (Nat.le_of_ble_eq_true rfl) dX6_init_57 (fun q_65 H hP hD hS => ?_)
  have hP : va_P (dC, dI) vwCl [(h0, .inr (11, [.ref q_55, .ref q_57, .ref q_59, .ref q_61, .ref q_63, .int 0, .null, .null])), (q_55, .inr (4, [.int 0, .ref ed, .int 0])), (q_57, .inr (4, [.int 0, .ref ed, .int 0])), (q_59, .inr (4, [.int 0, .ref ed, .int 0])), (q_61, .inr (4, [.int 0, .ref ed, .int 0])), (q_63, .inl (cA_64, 24, .inl (fun _ => 0))), (q_65, .inr (6, [.null, .null, .int 0, .int 0, .long 0, .long 0]))] H := hP
  have hD : va_D A [(h0, .inr (11, [.ref q_55, .ref q_57, .ref q_59, .ref q_61, .ref q_63, .int 0, .null, .null])), (q_55, .inr (4, [.int 0, .ref ed, .int 0])), (q_57, .inr (4, [.int 0, .ref ed, .int 0])), (q_59, .inr (4, [.int 0, .ref ed, .int 0])), (q_61, .inr (4, [.int 0, .ref ed, .int 0])), (q_63, .inl (cA_64, 24, .inl (fun _ => 0))), (q_65, .inr (6, [.null, .null, .int 0, .int 0, .long 0, .long 0]))] := hD
  refine W.widen (k := 6) (n := 42) (Nat.le_of_ble_eq_true rfl) (Nat.le_of_ble_eq_true rfl) ?_
  refine lv_dup hx hb dX6_init_60 rfl ?_
  have hPc := hP.sub (ws' := [(q_65, .inr (6, [.null, .null, .int 0, .int 0, .long 0, .long 0]))]) [6] rfl
  have hDc := hD.sub (ws' := [(q_65, .inr (6, [.null, .null, .int 0, .int 0, .long 0, .long 0]))]) [6] (by decide) rfl
  have hKc := hK.sub (tys' := []) [] rfl
  have hFc := va_free (wc := [(q_65, .inr (6, [.null, .null, .int 0, .int 0, .long 0, .long 0]))]) hD hS hA [6] rfl
  refine va_callv (va_runI (As := []) (rest := [.ref q_65, .ref h0]) ⟨hx, hb, hml, hown, hts⟩ (m_rainInit l dC dI H.size q_65) (cwI 0 hts (pw_c q121) rfl rfl rfl (hts _ q47) (hts _ q119) (hts _ q120) rfl (by decide +kernel) ⟨(Nat.le_of_ble_eq_true rfl), (Nat.le_of_ble_eq_true rfl)⟩) ⟨fun a U g mk q => by obtain ⟨q0, q1, qP, qK, qD⟩ := q; exact ⟨q0, q1, qP, va_K.moved (u := U) (U := U.calling g mk a) (Vm.Alike.refl U.vm) qK, qD⟩, fun U hU hW => ⟨rfl, by rw [hU], by rw [hU]; exact hPc, va_K.moved hW.alike hKc, hDc.weaken (fun _ _ _ _ => trivial)⟩⟩ rfl rfl hl.1 rfl (lv_room (Nat.le_of_ble_eq_true rfl)) dX6_init_61 ⟨(Nat.le_of_ble_eq_true rfl), (Nat.le_of_ble_eq_true rfl)⟩) hS (fun q _ h => hFc q h) hFc (fun u t H1 locs ht hvm hw hB hz1 hk1 hS => ?_)
  obtain ⟨t1_67, t2_68, hP1, hK1, hD1⟩ := hB
  rw [ht] at hP1
  have hK1 := va_K.moved hvm.symm hK1
  obtain ⟨hP, hD⟩ := va_join (wr := [(h0, .inr (11, [.ref q_55, .ref q_57, .ref q_59, .ref q_61, .ref q_63, .int 0, .null, .null])), (q_55, .inr (4, [.int 0, .ref ed, .int 0])), (q_57, .inr (4, [.int 0, .ref ed, .int 0])), (q_59, .inr (4, [.int 0, .ref ed, .int 0])), (q_61, .inr (4, [.int 0, .ref ed, .int 0])), (q_63, .inl (cA_64, 24, .inl (fun _ => 0)))]) (w1 := [(q_65, .inr (6, [.ref t1_67, .ref t2_68, .int 0, .int 0, .long 0, .long 0]))]) hP hD [6] [0, 1, 2, 3, 4, 5] rfl rfl (by decide) (by decide) hk1 hFc hP1 hD1
  have hK := (hK.sub (tys' := [(cA_64, .int)]) [0] rfl).app hK1
  generalize H1 = H at hP hS ⊢
  have hP : va_P (dC, dI) vwCl [(h0, .inr (11, [.ref q_55, .ref q_57, .ref q_59, .ref q_61, .ref q_63, .int 0, .null, .null])), (q_55, .inr (4, [.int 0, .ref ed, .int 0])), (q_57, .inr (4, [.int 0, .ref ed, .int 0])), (q_59, .inr (4, [.int 0, .ref ed, .int 0])), (q_61, .inr (4, [.int 0, .ref ed, .int 0])), (q_63, .inl (cA_64, 24, .inl (fun _ => 0))), (q_65, .inr (6, [.ref t1_67, .ref t2_68, .int 0, .int 0, .long 0, .long 0]))] H := hP
  have hD : va_D A [(h0, .inr (11, [.ref q_55, .ref q_57, .ref q_59, .ref q_61, .ref q_63, .int 0, .null, .null])), (q_55, .inr (4, [.int 0, .ref ed, .int 0])), (q_57, .inr (4, [.int 0, .ref ed, .int 0])), (q_59, .inr (4, [.int 0, .ref ed, .int 0])), (q_61, .inr (4, [.int 0, .ref ed, .int 0])), (q_63, .inl (cA_64, 24, .inl (fun _ => 0))), (q_65, .inr (6, [.ref t1_67, .ref t2_68, .int 0, .int 0, .long 0, .long 0]))] := hD
  have hK : va_K (dC, dI) vwCl [(cA_64, .int)] s := hK
  refine W.widen (k := 8) (n := 220) (Nat.le_of_ble_eq_true rfl) (Nat.le_of_ble_eq_true rfl) ?_
  refine va_putF (D := (dC, dI)) (ci := 11) (v := .ref q_65) (ty := .object "Shakerhall$Rain") (C := RX6) (T := TX6) (N := 8) hx hb hts inX6 tyX6 tyX6_ok nmX6 hown hK hP hD hS 0 rfl rfl 6 (by decide) (hts _ q199) (fun _ h9 => h9) rfl hin rfl (by decide +kernel) rfl rfl (Nat.le_of_ble_eq_true rfl) dX6_init_64 (fun H locs hP hD hS => ?_)
  have hP : va_P (dC, dI) vwCl [(h0, .inr (11, [.ref q_55, .ref q_57, .ref q_59, .ref q_61, .ref q_63, .int 0, .ref q_65, .null])), (q_55, .inr (4, [.int 0, .ref ed, .int 0])), (q_57, .inr (4, [.int 0, .ref ed, .int 0])), (q_59, .inr (4, [.int 0, .ref ed, .int 0])), (q_61, .inr (4, [.int 0, .ref ed, .int 0])), (q_63, .inl (cA_64, 24, .inl (fun _ => 0))), (q_65, .inr (6, [.ref t1_67, .ref t2_68, .int 0, .int 0, .long 0, .long 0]))] H := hP
  have hD : va_D A [(h0, .inr (11, [.ref q_55, .ref q_57, .ref q_59, .ref q_61, .ref q_63, .int 0, .ref q_65, .null])), (q_55, .inr (4, [.int 0, .ref ed, .int 0])), (q_57, .inr (4, [.int 0, .ref ed, .int 0])), (q_59, .inr (4, [.int 0, .ref ed, .int 0])), (q_61, .inr (4, [.int 0, .ref ed, .int 0])), (q_63, .inl (cA_64, 24, .inl (fun _ => 0))), (q_65, .inr (6, [.ref t1_67, .ref t2_68, .int 0, .int 0, .long 0, .long 0]))] := hD
  refine lv_aload_n hx hb dX6_init_67 rfl (lv_at hl 0 rfl) ?_
  refine va_new (ci := 5) (fs := [.null, .null, .null, .null, .null, .null, .null, .null, .null, .int 0, .long 0]) (C := RX0) (T := TX0) (N := 11) hx hb hts inX0 tyX0 tyX0_ok hown (hts _ q144) (hts _ q145) (hts _ q48) hK hP hD hS hA rfl (fun j hj => by rcases (show j = 0 ∨ j = 1 ∨ j = 2 ∨ j = 3 ∨ j = 4 ∨ j = 5 ∨ j = 6 ∨ j = 7 ∨ j = 8 ∨ j = 9 ∨ j = 10 by omega) with rfl | rfl | rfl | rfl | rfl | rfl | rfl | rfl | rfl | rfl | rfl <;> rfl) (Nat.le_of_ble_eq_true rfl) (Nat.le_of_ble_eq_true rfl) dX6_init_68 (fun q_69 H hP hD hS => ?_)
  have hP : va_P (dC, dI) vwCl [(h0, .inr (11, [.ref q_55, .ref q_57, .ref q_59, .ref q_61, .ref q_63, .int 0, .ref q_65, .null])), (q_55, .inr (4, [.int 0, .ref ed, .int 0])), (q_57, .inr (4, [.int 0, .ref ed, .int 0])), (q_59, .inr (4, [.int 0, .ref ed, .int 0])), (q_61, .inr (4, [.int 0, .ref ed, .int 0])), (q_63, .inl (cA_64, 24, .inl (fun _ => 0))), (q_65, .inr (6, [.ref t1_67, .ref t2_68, .int 0, .int 0, .long 0, .long 0])), (q_69, .inr (5, [.null, .null, .null, .null, .null, .null, .null, .null, .null, .int 0, .long 0]))] H := hP
  have hD : va_D A [(h0, .inr (11, [.ref q_55, .ref q_57, .ref q_59, .ref q_61, .ref q_63, .int 0, .ref q_65, .null])), (q_55, .inr (4, [.int 0, .ref ed, .int 0])), (q_57, .inr (4, [.int 0, .ref ed, .int 0])), (q_59, .inr (4, [.int 0, .ref ed, .int 0])), (q_61, .inr (4, [.int 0, .ref ed, .int 0])), (q_63, .inl (cA_64, 24, .inl (fun _ => 0))), (q_65, .inr (6, [.ref t1_67, .ref t2_68, .int 0, .int 0, .long 0, .long 0])), (q_69, .inr (5, [.null, .null, .null, .null, .null, .null, .null, .null, .null, .int 0, .long 0]))] := hD
  refine W.widen (k := 9) (n := 231) (Nat.le_of_ble_eq_true rfl) (Nat.le_of_ble_eq_true rfl) ?_
  refine lv_dup hx hb dX6_init_71 rfl ?_
  have hPc := hP.sub (ws' := [(q_69, .inr (5, [.null, .null, .null, .null, .null, .null, .null, .null, .null, .int 0, .long 0]))]) [7] rfl
  have hDc := hD.sub (ws' := [(q_69, .inr (5, [.null, .null, .null, .null, .null, .null, .null, .null, .null, .int 0, .long 0]))]) [7] (by decide) rfl
  have hKc := hK.sub (tys' := []) [] rfl
  have hFc := va_free (wc := [(q_69, .inr (5, [.null, .null, .null, .null, .null, .null, .null, .null, .null, .int 0, .long 0]))]) hD hS hA [7] rfl
  refine va_callv (va_runI (As := []) (rest := [.ref q_69, .ref h0]) ⟨hx, hb, hml, hown, hts⟩ (m_chainInit l dC dI H.size q_69) (cwI 0 hts (pw_c q148) rfl rfl rfl (hts _ q48) (hts _ q146) (hts _ q147) rfl (by decide +kernel) ⟨(Nat.le_of_ble_eq_true rfl), (Nat.le_of_ble_eq_true rfl)⟩) ⟨fun a U g mk q => by obtain ⟨q0, q1, qP, qK, qD⟩ := q; exact ⟨q0, q1, qP, va_K.moved (u := U) (U := U.calling g mk a) (Vm.Alike.refl U.vm) qK, qD⟩, fun U hU hW => ⟨rfl, by rw [hU], by rw [hU]; exact hPc, va_K.moved hW.alike hKc, hDc.weaken (fun _ _ _ _ => trivial)⟩⟩ rfl rfl hl.1 rfl (lv_room (Nat.le_of_ble_eq_true rfl)) dX6_init_72 ⟨(Nat.le_of_ble_eq_true rfl), (Nat.le_of_ble_eq_true rfl)⟩) hS (fun q _ h => hFc q h) hFc (fun u t H1 locs ht hvm hw hB hz1 hk1 hS => ?_)
  obtain ⟨hP1, hK1, hD1⟩ := hB
  rw [ht] at hP1
  have hK1 := va_K.moved hvm.symm hK1
  obtain ⟨hP, hD⟩ := va_join (wr := [(h0, .inr (11, [.ref q_55, .ref q_57, .ref q_59, .ref q_61, .ref q_63, .int 0, .ref q_65, .null])), (q_55, .inr (4, [.int 0, .ref ed, .int 0])), (q_57, .inr (4, [.int 0, .ref ed, .int 0])), (q_59, .inr (4, [.int 0, .ref ed, .int 0])), (q_61, .inr (4, [.int 0, .ref ed, .int 0])), (q_63, .inl (cA_64, 24, .inl (fun _ => 0))), (q_65, .inr (6, [.ref t1_67, .ref t2_68, .int 0, .int 0, .long 0, .long 0]))]) (w1 := []) hP hD [7] [0, 1, 2, 3, 4, 5, 6] rfl rfl (by decide) (by decide) hk1 hFc hP1 hD1
  have hK := (hK.sub (tys' := [(cA_64, .int)]) [0] rfl).app hK1
  generalize H1 = H at hP hS ⊢
  have hP : va_P (dC, dI) vwCl [(h0, .inr (11, [.ref q_55, .ref q_57, .ref q_59, .ref q_61, .ref q_63, .int 0, .ref q_65, .null])), (q_55, .inr (4, [.int 0, .ref ed, .int 0])), (q_57, .inr (4, [.int 0, .ref ed, .int 0])), (q_59, .inr (4, [.int 0, .ref ed, .int 0])), (q_61, .inr (4, [.int 0, .ref ed, .int 0])), (q_63, .inl (cA_64, 24, .inl (fun _ => 0))), (q_65, .inr (6, [.ref t1_67, .ref t2_68, .int 0, .int 0, .long 0, .long 0]))] H := hP
  have hD : va_D A [(h0, .inr (11, [.ref q_55, .ref q_57, .ref q_59, .ref q_61, .ref q_63, .int 0, .ref q_65, .null])), (q_55, .inr (4, [.int 0, .ref ed, .int 0])), (q_57, .inr (4, [.int 0, .ref ed, .int 0])), (q_59, .inr (4, [.int 0, .ref ed, .int 0])), (q_61, .inr (4, [.int 0, .ref ed, .int 0])), (q_63, .inl (cA_64, 24, .inl (fun _ => 0))), (q_65, .inr (6, [.ref t1_67, .ref t2_68, .int 0, .int 0, .long 0, .long 0]))] := hD
  have hK : va_K (dC, dI) vwCl [(cA_64, .int)] s := hK
  refine W.widen (k := 18) (n := 267) (Nat.le_of_ble_eq_true rfl) (Nat.le_of_ble_eq_true rfl) ?_
  refine va_putF (D := (dC, dI)) (ci := 11) (v := .ref q_69) (ty := .object "Shakerhall$Chain") (C := RX6) (T := TX6) (N := 8) hx hb hts inX6 tyX6 tyX6_ok nmX6 hown hK hP hD hS 0 rfl rfl 7 (by decide) (hts _ q200) (fun _ h9 => h9) rfl hin rfl (by decide +kernel) rfl rfl (Nat.le_of_ble_eq_true rfl) dX6_init_75 (fun H locs hP hD hS => ?_)
  have hP : va_P (dC, dI) vwCl [(h0, .inr (11, [.ref q_55, .ref q_57, .ref q_59, .ref q_61, .ref q_63, .int 0, .ref q_65, .ref q_69])), (q_55, .inr (4, [.int 0, .ref ed, .int 0])), (q_57, .inr (4, [.int 0, .ref ed, .int 0])), (q_59, .inr (4, [.int 0, .ref ed, .int 0])), (q_61, .inr (4, [.int 0, .ref ed, .int 0])), (q_63, .inl (cA_64, 24, .inl (fun _ => 0))), (q_65, .inr (6, [.ref t1_67, .ref t2_68, .int 0, .int 0, .long 0, .long 0]))] H := hP
  have hD : va_D A [(h0, .inr (11, [.ref q_55, .ref q_57, .ref q_59, .ref q_61, .ref q_63, .int 0, .ref q_65, .ref q_69])), (q_55, .inr (4, [.int 0, .ref ed, .int 0])), (q_57, .inr (4, [.int 0, .ref ed, .int 0])), (q_59, .inr (4, [.int 0, .ref ed, .int 0])), (q_61, .inr (4, [.int 0, .ref ed, .int 0])), (q_63, .inl (cA_64, 24, .inl (fun _ => 0))), (q_65, .inr (6, [.ref t1_67, .ref t2_68, .int 0, .int 0, .long 0, .long 0]))] := hD
  have hP9 := hP.sub (ws' := [(h0, .inr (11, [.ref q_55, .ref q_57, .ref q_59, .ref q_61, .ref q_63, .int 0, .ref q_65, .ref q_69])), (q_55, .inr (4, [.int 0, .ref ed, .int 0])), (q_57, .inr (4, [.int 0, .ref ed, .int 0])), (q_59, .inr (4, [.int 0, .ref ed, .int 0])), (q_61, .inr (4, [.int 0, .ref ed, .int 0])), (q_63, .inl (cA_64, 24, .inl (fun _ => 0))), (q_65, .inr (6, [.ref t1_67, .ref t2_68, .int 0, .int 0, .long 0, .long 0]))]) [0, 1, 2, 3, 4, 5, 6] rfl
  have hD9 := hD.sub (ws' := [(h0, .inr (11, [.ref q_55, .ref q_57, .ref q_59, .ref q_61, .ref q_63, .int 0, .ref q_65, .ref q_69])), (q_55, .inr (4, [.int 0, .ref ed, .int 0])), (q_57, .inr (4, [.int 0, .ref ed, .int 0])), (q_59, .inr (4, [.int 0, .ref ed, .int 0])), (q_61, .inr (4, [.int 0, .ref ed, .int 0])), (q_63, .inl (cA_64, 24, .inl (fun _ => 0))), (q_65, .inr (6, [.ref t1_67, .ref t2_68, .int 0, .int 0, .long 0, .long 0]))]) [0, 1, 2, 3, 4, 5, 6] (by decide) rfl
  have hK9 := hK.sub (tys' := [(cA_64, .int)]) [0] rfl
  refine W.widen (k := 18) (n := 267) (Nat.le_of_ble_eq_true rfl) (Nat.le_of_ble_eq_true rfl) ?_
  exact W.vret hx hb hr (fun t ht hW => ⟨⟨(), rfl, trivial, ⟨q_55, q_57, q_59, q_61, q_63, q_65, q_69, t1_67, t2_68, cA_64, by rw [ht]; exact hP9, va_K.moved hW.alike hK9, hD9⟩⟩, hS.F ht⟩) hS.2.2 dX6_init_78
