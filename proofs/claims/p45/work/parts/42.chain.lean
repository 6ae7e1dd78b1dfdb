set_option maxHeartbeats 4000000 in
set_option maxRecDepth 100000 in
theorem r_chainInit (l : Launch) (dC : Nat → ClassId) (dI : Nat → Nat → Nat) (sz : Nat) (h : Nat) : Met l yX0_init (pw_ws yX0_init cX0_init 1 none) ({ frames := 1, cells := 9, slots := 36, locals := 20 } : Room) (va_Pc [.ref h] (fun U => U.heap.size = sz ∧ va_P (dC, dI) vwCl [(h, .inr (5, [.null, .null, .null, .null, .null, .null, .null, .null, .null, .int 0, .long 0]))] U.heap ∧ va_K (dC, dI) vwCl [] U ∧ va_D (fun _ => True) [(h, .inr (5, [.null, .null, .null, .null, .null, .null, .null, .null, .null, .int 0, .long 0]))])) (va_Qv (fun (_ : Unit) => True) (fun (_ : Unit) (t : State) => ∃ (we : Nat), ∃ (to : Nat), ∃ (sp : Nat), ∃ (da : Nat), ∃ (cr : Nat), ∃ (pl : Nat), ∃ (sd : Nat), ∃ (pu : Nat), ∃ (pk : Nat), ∃ (cwe : ClassId), ∃ (cto : ClassId), ∃ (csp : ClassId), ∃ (cda : ClassId), ∃ (ccr : ClassId), ∃ (cpl : ClassId), ∃ (csd : ClassId), ∃ (cpu : ClassId), ∃ (cpk : ClassId), va_P (dC, dI) vwCl [(h, .inr (5, [.ref we, .ref to, .ref sp, .ref da, .ref cr, .ref pl, .ref sd, .ref pu, .ref pk, .int 0, .long 0])), (we, .inl (cwe, 4, .inl (fun _ => 0))), (to, .inl (cto, 4, .inl (fun _ => 0))), (sp, .inl (csp, 4, .inl (fun _ => 0))), (da, .inl (cda, 4, .inl (fun _ => 0))), (cr, .inl (ccr, 4, .inl (fun _ => 0))), (pl, .inl (cpl, 4, .inr (.inl (fun _ => 0)))), (sd, .inl (csd, 4, .inr (.inl (fun _ => 0)))), (pu, .inl (cpu, 4, .inr (.inl (fun _ => 0)))), (pk, .inl (cpk, 4, .inl (fun _ => 0)))] t.heap ∧ va_K (dC, dI) vwCl [(cwe, .int), (cto, .int), (csp, .int), (cda, .int), (ccr, .int), (cpl, .long), (csd, .long), (cpu, .long), (cpk, .int)] t ∧ va_D (va_A [(h, .inr (5, [.null, .null, .null, .null, .null, .null, .null, .null, .null, .int 0, .long 0]))] sz) [(h, .inr (5, [.ref we, .ref to, .ref sp, .ref da, .ref cr, .ref pl, .ref sd, .ref pu, .ref pk, .int 0, .long 0])), (we, .inl (cwe, 4, .inl (fun _ => 0))), (to, .inl (cto, 4, .inl (fun _ => 0))), (sp, .inl (csp, 4, .inl (fun _ => 0))), (da, .inl (cda, 4, .inl (fun _ => 0))), (cr, .inl (ccr, 4, .inl (fun _ => 0))), (pl, .inl (cpl, 4, .inr (.inl (fun _ => 0)))), (sd, .inl (csd, 4, .inr (.inl (fun _ => 0)))), (pu, .inl (cpu, 4, .inr (.inl (fun _ => 0)))), (pk, .inl (cpk, 4, .inl (fun _ => 0)))]) (va_A [(h, .inr (5, [.null, .null, .null, .null, .null, .null, .null, .null, .null, .int 0, .long 0]))] sz)) 9 36 (va_A [(h, .inr (5, [.null, .null, .null, .null, .null, .null, .null, .null, .null, .int 0, .long 0]))] sz) := by
  refine Met.ofW (cc := cX0_init) (maxL := 1) (ret := none) (by decide) rfl ?_
  intro p e s m args below meth c s₁ B hml hv
  obtain ⟨rfl, hsz, hP, hK, hD0⟩ := hv
  have hx := B.exec
  have hb := B.bytes
  have hr := B.returns
  have hts0 := atoms_spec (ws := (pw_ws yX0_init cX0_init 1 none)) B.pre
  have hts : ∀ w ∈ pw_all, w.before _ s = true := fun w h => hts0 w (List.mem_cons_of_mem _ h)
  have hown : s.vm.findClass RX0 = some m.cls := findClass_of_methodNamed B.named
  have hlocks := B.notSynchronized
  have hin : meth.name = "<init>" := (name_of_methodNamed B.named B.method).1
  subst hsz
  have hD := hD0.self (sz := s.heap.size)
  generalize hAe : va_A [(h, .inr (5, [.null, .null, .null, .null, .null, .null, .null, .null, .null, .int 0, .long 0]))] s.heap.size = A at hD ⊢
  have hA : ∀ q : Nat, s.heap.size ≤ q → A q := fun q h => by rw [← hAe]; exact Or.inr h
  have hS : va_S A s.heap s.heap [] := va_S.rf
  have hP : va_P (dC, dI) vwCl [(h, .inr (5, [.null, .null, .null, .null, .null, .null, .null, .null, .null, .int 0, .long 0]))] s.heap := hP
  have hl := lv_entry ([.ref h]) (n := 1) (Nat.le_of_ble_eq_true rfl)
  rw [lg_entry_eq]
  generalize (lg_sl ([.ref h]) ++ List.replicate (1 - (lg_sl ([.ref h])).length) Slot.unset).toArray = ls at hl ⊢
  have hl : lv_has ls 1 [(0, .ref h)] := hl
  skip
  refine lv_aload_n hx hb dX0_init_0 rfl (lv_at hl 0 rfl) ?_
  refine W.objInit hx hb hown (hts _ q149) (hts _ q86) (hts _ q87) rfl (by rw [hml]; exact hl.1) rfl dX0_init_1 (Nat.le_of_ble_eq_true rfl) (Nat.le_of_ble_eq_true rfl) ?_
  refine W.eq (g2 := F0 m 4 ls []) rfl ?_
  refine lv_aload_n hx hb dX0_init_4 rfl (lv_at hl 0 rfl) ?_
  refine lv_iconst (v := 4) hx hb dX0_init_5 (by decide) ?_
  refine va_newa (atype := .int) (N' := 4) (a0 := (4, .inl (fun _ => 0))) (ty := .int) (n := 4) hx hb (hts _ q143) rfl hK hP hD hS hA (fun _ => rfl) (by decide) (by decide) (Nat.le_of_ble_eq_true rfl) (Nat.le_of_ble_eq_true rfl) (Nat.le_of_ble_eq_true rfl) dX0_init_6 (fun q_1492 cA_1493 H hK hP hD hS => ?_)
  have hP : va_P (dC, dI) vwCl [(h, .inr (5, [.null, .null, .null, .null, .null, .null, .null, .null, .null, .int 0, .long 0])), (q_1492, .inl (cA_1493, 4, .inl (fun _ => 0)))] H := hP
  have hD : va_D A [(h, .inr (5, [.null, .null, .null, .null, .null, .null, .null, .null, .null, .int 0, .long 0])), (q_1492, .inl (cA_1493, 4, .inl (fun _ => 0)))] := hD
  have hK : va_K (dC, dI) vwCl [(cA_1493, .int)] s := hK
  refine W.widen (k := 1) (n := 4) (Nat.le_of_ble_eq_true rfl) (Nat.le_of_ble_eq_true rfl) ?_
  refine va_putF (D := (dC, dI)) (ci := 5) (v := .ref q_1492) (ty := .array .int) (C := RX0) (T := TX0) (N := 11) hx hb hts inX0 tyX0 tyX0_ok nmX0 hown hK hP hD hS 0 rfl rfl 0 (by decide) (hts _ q150) (fun _ h9 => h9) rfl hin rfl (by decide +kernel) rfl rfl (Nat.le_of_ble_eq_true rfl) dX0_init_8 (fun H locs hP hD hS => ?_)
  have hP : va_P (dC, dI) vwCl [(h, .inr (5, [.ref q_1492, .null, .null, .null, .null, .null, .null, .null, .null, .int 0, .long 0])), (q_1492, .inl (cA_1493, 4, .inl (fun _ => 0)))] H := hP
  have hD : va_D A [(h, .inr (5, [.ref q_1492, .null, .null, .null, .null, .null, .null, .null, .null, .int 0, .long 0])), (q_1492, .inl (cA_1493, 4, .inl (fun _ => 0)))] := hD
  refine lv_aload_n hx hb dX0_init_11 rfl (lv_at hl 0 rfl) ?_
  refine lv_iconst (v := 4) hx hb dX0_init_12 (by decide) ?_
  refine va_newa (atype := .int) (N' := 4) (a0 := (4, .inl (fun _ => 0))) (ty := .int) (n := 4) hx hb (hts _ q143) rfl hK hP hD hS hA (fun _ => rfl) (by decide) (by decide) (Nat.le_of_ble_eq_true rfl) (Nat.le_of_ble_eq_true rfl) (Nat.le_of_ble_eq_true rfl) dX0_init_13 (fun q_1494 cA_1495 H hK hP hD hS => ?_)
  have hP : va_P (dC, dI) vwCl [(h, .inr (5, [.ref q_1492, .null, .null, .null, .null, .null, .null, .null, .null, .int 0, .long 0])), (q_1492, .inl (cA_1493, 4, .inl (fun _ => 0))), (q_1494, .inl (cA_1495, 4, .inl (fun _ => 0)))] H := hP
  have hD : va_D A [(h, .inr (5, [.ref q_1492, .null, .null, .null, .null, .null, .null, .null, .null, .int 0, .long 0])), (q_1492, .inl (cA_1493, 4, .inl (fun _ => 0))), (q_1494, .inl (cA_1495, 4, .inl (fun _ => 0)))] := hD
  have hK : va_K (dC, dI) vwCl [(cA_1493, .int), (cA_1495, .int)] s := hK
  refine W.widen (k := 2) (n := 8) (Nat.le_of_ble_eq_true rfl) (Nat.le_of_ble_eq_true rfl) ?_
  refine va_putF (D := (dC, dI)) (ci := 5) (v := .ref q_1494) (ty := .array .int) (C := RX0) (T := TX0) (N := 11) hx hb hts inX0 tyX0 tyX0_ok nmX0 hown hK hP hD hS 0 rfl rfl 1 (by decide) (hts _ q151) (fun _ h9 => h9) rfl hin rfl (by decide +kernel) rfl rfl (Nat.le_of_ble_eq_true rfl) dX0_init_15 (fun H locs hP hD hS => ?_)
  have hP : va_P (dC, dI) vwCl [(h, .inr (5, [.ref q_1492, .ref q_1494, .null, .null, .null, .null, .null, .null, .null, .int 0, .long 0])), (q_1492, .inl (cA_1493, 4, .inl (fun _ => 0))), (q_1494, .inl (cA_1495, 4, .inl (fun _ => 0)))] H := hP
  have hD : va_D A [(h, .inr (5, [.ref q_1492, .ref q_1494, .null, .null, .null, .null, .null, .null, .null, .int 0, .long 0])), (q_1492, .inl (cA_1493, 4, .inl (fun _ => 0))), (q_1494, .inl (cA_1495, 4, .inl (fun _ => 0)))] := hD
  refine lv_aload_n hx hb dX0_init_18 rfl (lv_at hl 0 rfl) ?_
  refine lv_iconst (v := 4) hx hb dX0_init_19 (by decide) ?_
  refine va_newa (atype := .int) (N' := 4) (a0 := (4, .inl (fun _ => 0))) (ty := .int) (n := 4) hx hb (hts _ q143) rfl hK hP hD hS hA (fun _ => rfl) (by decide) (by decide) (Nat.le_of_ble_eq_true rfl) (Nat.le_of_ble_eq_true rfl) (Nat.le_of_ble_eq_true rfl) dX0_init_20 (fun q_1496 cA_1497 H hK hP hD hS => ?_)
  have hP : va_P (dC, dI) vwCl [(h, .inr (5, [.ref q_1492, .ref q_1494, .null, .null, .null, .null, .null, .null, .null, .int 0, .long 0])), (q_1492, .inl (cA_1493, 4, .inl (fun _ => 0))), (q_1494, .inl (cA_1495, 4, .inl (fun _ => 0))), (q_1496, .inl (cA_1497, 4, .inl (fun _ => 0)))] H := hP
  have hD : va_D A [(h, .inr (5, [.ref q_1492, .ref q_1494, .null, .null, .null, .null, .null, .null, .null, .int 0, .long 0])), (q_1492, .inl (cA_1493, 4, .inl (fun _ => 0))), (q_1494, .inl (cA_1495, 4, .inl (fun _ => 0))), (q_1496, .inl (cA_1497, 4, .inl (fun _ => 0)))] := hD
  have hK : va_K (dC, dI) vwCl [(cA_1493, .int), (cA_1495, .int), (cA_1497, .int)] s := hK
  refine W.widen (k := 3) (n := 12) (Nat.le_of_ble_eq_true rfl) (Nat.le_of_ble_eq_true rfl) ?_
  refine va_putF (D := (dC, dI)) (ci := 5) (v := .ref q_1496) (ty := .array .int) (C := RX0) (T := TX0) (N := 11) hx hb hts inX0 tyX0 tyX0_ok nmX0 hown hK hP hD hS 0 rfl rfl 2 (by decide) (hts _ q152) (fun _ h9 => h9) rfl hin rfl (by decide +kernel) rfl rfl (Nat.le_of_ble_eq_true rfl) dX0_init_22 (fun H locs hP hD hS => ?_)
  have hP : va_P (dC, dI) vwCl [(h, .inr (5, [.ref q_1492, .ref q_1494, .ref q_1496, .null, .null, .null, .null, .null, .null, .int 0, .long 0])), (q_1492, .inl (cA_1493, 4, .inl (fun _ => 0))), (q_1494, .inl (cA_1495, 4, .inl (fun _ => 0))), (q_1496, .inl (cA_1497, 4, .inl (fun _ => 0)))] H := hP
  have hD : va_D A [(h, .inr (5, [.ref q_1492, .ref q_1494, .ref q_1496, .null, .null, .null, .null, .null, .null, .int 0, .long 0])), (q_1492, .inl (cA_1493, 4, .inl (fun _ => 0))), (q_1494, .inl (cA_1495, 4, .inl (fun _ => 0))), (q_1496, .inl (cA_1497, 4, .inl (fun _ => 0)))] := hD
  refine lv_aload_n hx hb dX0_init_25 rfl (lv_at hl 0 rfl) ?_
  refine lv_iconst (v := 4) hx hb dX0_init_26 (by decide) ?_
  refine va_newa (atype := .int) (N' := 4) (a0 := (4, .inl (fun _ => 0))) (ty := .int) (n := 4) hx hb (hts _ q143) rfl hK hP hD hS hA (fun _ => rfl) (by decide) (by decide) (Nat.le_of_ble_eq_true rfl) (Nat.le_of_ble_eq_true rfl) (Nat.le_of_ble_eq_true rfl) dX0_init_27 (fun q_1498 cA_1499 H hK hP hD hS => ?_)
  have hP : va_P (dC, dI) vwCl [(h, .inr (5, [.ref q_1492, .ref q_1494, .ref q_1496, .null, .null, .null, .null, .null, .null, .int 0, .long 0])), (q_1492, .inl (cA_1493, 4, .inl (fun _ => 0))), (q_1494, .inl (cA_1495, 4, .inl (fun _ => 0))), (q_1496, .inl (cA_1497, 4, .inl (fun _ => 0))), (q_1498, .inl (cA_1499, 4, .inl (fun _ => 0)))] H := hP
  have hD : va_D A [(h, .inr (5, [.ref q_1492, .ref q_1494, .ref q_1496, .null, .null, .null, .null, .null, .null, .int 0, .long 0])), (q_1492, .inl (cA_1493, 4, .inl (fun _ => 0))), (q_1494, .inl (cA_1495, 4, .inl (fun _ => 0))), (q_1496, .inl (cA_1497, 4, .inl (fun _ => 0))), (q_1498, .inl (cA_1499, 4, .inl (fun _ => 0)))] := hD
  have hK : va_K (dC, dI) vwCl [(cA_1493, .int), (cA_1495, .int), (cA_1497, .int), (cA_1499, .int)] s := hK
  refine W.widen (k := 4) (n := 16) (Nat.le_of_ble_eq_true rfl) (Nat.le_of_ble_eq_true rfl) ?_
  refine va_putF (D := (dC, dI)) (ci := 5) (v := .ref q_1498) (ty := .array .int) (C := RX0) (T := TX0) (N := 11) hx hb hts inX0 tyX0 tyX0_ok nmX0 hown hK hP hD hS 0 rfl rfl 3 (by decide) (hts _ q154) (fun _ h9 => h9) rfl hin rfl (by decide +kernel) rfl rfl (Nat.le_of_ble_eq_true rfl) dX0_init_29 (fun H locs hP hD hS => ?_)
  have hP : va_P (dC, dI) vwCl [(h, .inr (5, [.ref q_1492, .ref q_1494, .ref q_1496, .ref q_1498, .null, .null, .null, .null, .null, .int 0, .long 0])), (q_1492, .inl (cA_1493, 4, .inl (fun _ => 0))), (q_1494, .inl (cA_1495, 4, .inl (fun _ => 0))), (q_1496, .inl (cA_1497, 4, .inl (fun _ => 0))), (q_1498, .inl (cA_1499, 4, .inl (fun _ => 0)))] H := hP
  have hD : va_D A [(h, .inr (5, [.ref q_1492, .ref q_1494, .ref q_1496, .ref q_1498, .null, .null, .null, .null, .null, .int 0, .long 0])), (q_1492, .inl (cA_1493, 4, .inl (fun _ => 0))), (q_1494, .inl (cA_1495, 4, .inl (fun _ => 0))), (q_1496, .inl (cA_1497, 4, .inl (fun _ => 0))), (q_1498, .inl (cA_1499, 4, .inl (fun _ => 0)))] := hD
  refine lv_aload_n hx hb dX0_init_32 rfl (lv_at hl 0 rfl) ?_
  refine lv_iconst (v := 4) hx hb dX0_init_33 (by decide) ?_
  refine va_newa (atype := .int) (N' := 4) (a0 := (4, .inl (fun _ => 0))) (ty := .int) (n := 4) hx hb (hts _ q143) rfl hK hP hD hS hA (fun _ => rfl) (by decide) (by decide) (Nat.le_of_ble_eq_true rfl) (Nat.le_of_ble_eq_true rfl) (Nat.le_of_ble_eq_true rfl) dX0_init_34 (fun q_1500 cA_1501 H hK hP hD hS => ?_)
  have hP : va_P (dC, dI) vwCl [(h, .inr (5, [.ref q_1492, .ref q_1494, .ref q_1496, .ref q_1498, .null, .null, .null, .null, .null, .int 0, .long 0])), (q_1492, .inl (cA_1493, 4, .inl (fun _ => 0))), (q_1494, .inl (cA_1495, 4, .inl (fun _ => 0))), (q_1496, .inl (cA_1497, 4, .inl (fun _ => 0))), (q_1498, .inl (cA_1499, 4, .inl (fun _ => 0))), (q_1500, .inl (cA_1501, 4, .inl (fun _ => 0)))] H := hP
  have hD : va_D A [(h, .inr (5, [.ref q_1492, .ref q_1494, .ref q_1496, .ref q_1498, .null, .null, .null, .null, .null, .int 0, .long 0])), (q_1492, .inl (cA_1493, 4, .inl (fun _ => 0))), (q_1494, .inl (cA_1495, 4, .inl (fun _ => 0))), (q_1496, .inl (cA_1497, 4, .inl (fun _ => 0))), (q_1498, .inl (cA_1499, 4, .inl (fun _ => 0))), (q_1500, .inl (cA_1501, 4, .inl (fun _ => 0)))] := hD
  have hK : va_K (dC, dI) vwCl [(cA_1493, .int), (cA_1495, .int), (cA_1497, .int), (cA_1499, .int), (cA_1501, .int)] s := hK
  refine W.widen (k := 5) (n := 20) (Nat.le_of_ble_eq_true rfl) (Nat.le_of_ble_eq_true rfl) ?_
  refine va_putF (D := (dC, dI)) (ci := 5) (v := .ref q_1500) (ty := .array .int) (C := RX0) (T := TX0) (N := 11) hx hb hts inX0 tyX0 tyX0_ok nmX0 hown hK hP hD hS 0 rfl rfl 4 (by decide) (hts _ q155) (fun _ h9 => h9) rfl hin rfl (by decide +kernel) rfl rfl (Nat.le_of_ble_eq_true rfl) dX0_init_36 (fun H locs hP hD hS => ?_)
  have hP : va_P (dC, dI) vwCl [(h, .inr (5, [.ref q_1492, .ref q_1494, .ref q_1496, .ref q_1498, .ref q_1500, .null, .null, .null, .null, .int 0, .long 0])), (q_1492, .inl (cA_1493, 4, .inl (fun _ => 0))), (q_1494, .inl (cA_1495, 4, .inl (fun _ => 0))), (q_1496, .inl (cA_1497, 4, .inl (fun _ => 0))), (q_1498, .inl (cA_1499, 4, .inl (fun _ => 0))), (q_1500, .inl (cA_1501, 4, .inl (fun _ => 0)))] H := hP
  have hD : va_D A [(h, .inr (5, [.ref q_1492, .ref q_1494, .ref q_1496, .ref q_1498, .ref q_1500, .null, .null, .null, .null, .int 0, .long 0])), (q_1492, .inl (cA_1493, 4, .inl (fun _ => 0))), (q_1494, .inl (cA_1495, 4, .inl (fun _ => 0))), (q_1496, .inl (cA_1497, 4, .inl (fun _ => 0))), (q_1498, .inl (cA_1499, 4, .inl (fun _ => 0))), (q_1500, .inl (cA_1501, 4, .inl (fun _ => 0)))] := hD
  refine lv_aload_n hx hb dX0_init_39 rfl (lv_at hl 0 rfl) ?_
  refine lv_iconst (v := 4) hx hb dX0_init_40 (by decide) ?_
  refine va_newa (atype := .long) (N' := 4) (a0 := (4, .inr (.inl (fun _ => 0)))) (ty := .long) (n := 4) hx hb (hts _ q192) rfl hK hP hD hS hA (fun _ => rfl) (by decide) (by decide) (Nat.le_of_ble_eq_true rfl) (Nat.le_of_ble_eq_true rfl) (Nat.le_of_ble_eq_true rfl) dX0_init_41 (fun q_1502 cA_1503 H hK hP hD hS => ?_)
  have hP : va_P (dC, dI) vwCl [(h, .inr (5, [.ref q_1492, .ref q_1494, .ref q_1496, .ref q_1498, .ref q_1500, .null, .null, .null, .null, .int 0, .long 0])), (q_1492, .inl (cA_1493, 4, .inl (fun _ => 0))), (q_1494, .inl (cA_1495, 4, .inl (fun _ => 0))), (q_1496, .inl (cA_1497, 4, .inl (fun _ => 0))), (q_1498, .inl (cA_1499, 4, .inl (fun _ => 0))), (q_1500, .inl (cA_1501, 4, .inl (fun _ => 0))), (q_1502, .inl (cA_1503, 4, .inr (.inl (fun _ => 0))))] H := hP
  have hD : va_D A [(h, .inr (5, [.ref q_1492, .ref q_1494, .ref q_1496, .ref q_1498, .ref q_1500, .null, .null, .null, .null, .int 0, .long 0])), (q_1492, .inl (cA_1493, 4, .inl (fun _ => 0))), (q_1494, .inl (cA_1495, 4, .inl (fun _ => 0))), (q_1496, .inl (cA_1497, 4, .inl (fun _ => 0))), (q_1498, .inl (cA_1499, 4, .inl (fun _ => 0))), (q_1500, .inl (cA_1501, 4, .inl (fun _ => 0))), (q_1502, .inl (cA_1503, 4, .inr (.inl (fun _ => 0))))] := hD
  have hK : va_K (dC, dI) vwCl [(cA_1493, .int), (cA_1495, .int), (cA_1497, .int), (cA_1499, .int), (cA_1501, .int), (cA_1503, .long)] s := hK
  refine W.widen (k := 6) (n := 24) (Nat.le_of_ble_eq_true rfl) (Nat.le_of_ble_eq_true rfl) ?_
  refine va_putF (D := (dC, dI)) (ci := 5) (v := .ref q_1502) (ty := .array .long) (C := RX0) (T := TX0) (N := 11) hx hb hts inX0 tyX0 tyX0_ok nmX0 hown hK hP hD hS 0 rfl rfl 5 (by decide) (hts _ q158) (fun _ h9 => h9) rfl hin rfl (by decide +kernel) rfl rfl (Nat.le_of_ble_eq_true rfl) dX0_init_43 (fun H locs hP hD hS => ?_)
  have hP : va_P (dC, dI) vwCl [(h, .inr (5, [.ref q_1492, .ref q_1494, .ref q_1496, .ref q_1498, .ref q_1500, .ref q_1502, .null, .null, .null, .int 0, .long 0])), (q_1492, .inl (cA_1493, 4, .inl (fun _ => 0))), (q_1494, .inl (cA_1495, 4, .inl (fun _ => 0))), (q_1496, .inl (cA_1497, 4, .inl (fun _ => 0))), (q_1498, .inl (cA_1499, 4, .inl (fun _ => 0))), (q_1500, .inl (cA_1501, 4, .inl (fun _ => 0))), (q_1502, .inl (cA_1503, 4, .inr (.inl (fun _ => 0))))] H := hP
  have hD : va_D A [(h, .inr (5, [.ref q_1492, .ref q_1494, .ref q_1496, .ref q_1498, .ref q_1500, .ref q_1502, .null, .null, .null, .int 0, .long 0])), (q_1492, .inl (cA_1493, 4, .inl (fun _ => 0))), (q_1494, .inl (cA_1495, 4, .inl (fun _ => 0))), (q_1496, .inl (cA_1497, 4, .inl (fun _ => 0))), (q_1498, .inl (cA_1499, 4, .inl (fun _ => 0))), (q_1500, .inl (cA_1501, 4, .inl (fun _ => 0))), (q_1502, .inl (cA_1503, 4, .inr (.inl (fun _ => 0))))] := hD
  refine lv_aload_n hx hb dX0_init_46 rfl (lv_at hl 0 rfl) ?_
  refine lv_iconst (v := 4) hx hb dX0_init_47 (by decide) ?_
  refine va_newa (atype := .long) (N' := 4) (a0 := (4, .inr (.inl (fun _ => 0)))) (ty := .long) (n := 4) hx hb (hts _ q192) rfl hK hP hD hS hA (fun _ => rfl) (by decide) (by decide) (Nat.le_of_ble_eq_true rfl) (Nat.le_of_ble_eq_true rfl) (Nat.le_of_ble_eq_true rfl) dX0_init_48 (fun q_1504 cA_1505 H hK hP hD hS => ?_)
  have hP : va_P (dC, dI) vwCl [(h, .inr (5, [.ref q_1492, .ref q_1494, .ref q_1496, .ref q_1498, .ref q_1500, .ref q_1502, .null, .null, .null, .int 0, .long 0])), (q_1492, .inl (cA_1493, 4, .inl (fun _ => 0))), (q_1494, .inl (cA_1495, 4, .inl (fun _ => 0))), (q_1496, .inl (cA_1497, 4, .inl (fun _ => 0))), (q_1498, .inl (cA_1499, 4, .inl (fun _ => 0))), (q_1500, .inl (cA_1501, 4, .inl (fun _ => 0))), (q_1502, .inl (cA_1503, 4, .inr (.inl (fun _ => 0)))), (q_1504, .inl (cA_1505, 4, .inr (.inl (fun _ => 0))))] H := hP
  have hD : va_D A [(h, .inr (5, [.ref q_1492, .ref q_1494, .ref q_1496, .ref q_1498, .ref q_1500, .ref q_1502, .null, .null, .null, .int 0, .long 0])), (q_1492, .inl (cA_1493, 4, .inl (fun _ => 0))), (q_1494, .inl (cA_1495, 4, .inl (fun _ => 0))), (q_1496, .inl (cA_1497, 4, .inl (fun _ => 0))), (q_1498, .inl (cA_1499, 4, .inl (fun _ => 0))), (q_1500, .inl (cA_1501, 4, .inl (fun _ => 0))), (q_1502, .inl (cA_1503, 4, .inr (.inl (fun _ => 0)))), (q_1504, .inl (cA_1505, 4, .inr (.inl (fun _ => 0))))] := hD
  have hK : va_K (dC, dI) vwCl [(cA_1493, .int), (cA_1495, .int), (cA_1497, .int), (cA_1499, .int), (cA_1501, .int), (cA_1503, .long), (cA_1505, .long)] s := hK
  refine W.widen (k := 7) (n := 28) (Nat.le_of_ble_eq_true rfl) (Nat.le_of_ble_eq_true rfl) ?_
  refine va_putF (D := (dC, dI)) (ci := 5) (v := .ref q_1504) (ty := .array .long) (C := RX0) (T := TX0) (N := 11) hx hb hts inX0 tyX0 tyX0_ok nmX0 hown hK hP hD hS 0 rfl rfl 6 (by decide) (hts _ q160) (fun _ h9 => h9) rfl hin rfl (by decide +kernel) rfl rfl (Nat.le_of_ble_eq_true rfl) dX0_init_50 (fun H locs hP hD hS => ?_)
  have hP : va_P (dC, dI) vwCl [(h, .inr (5, [.ref q_1492, .ref q_1494, .ref q_1496, .ref q_1498, .ref q_1500, .ref q_1502, .ref q_1504, .null, .null, .int 0, .long 0])), (q_1492, .inl (cA_1493, 4, .inl (fun _ => 0))), (q_1494, .inl (cA_1495, 4, .inl (fun _ => 0))), (q_1496, .inl (cA_1497, 4, .inl (fun _ => 0))), (q_1498, .inl (cA_1499, 4, .inl (fun _ => 0))), (q_1500, .inl (cA_1501, 4, .inl (fun _ => 0))), (q_1502, .inl (cA_1503, 4, .inr (.inl (fun _ => 0)))), (q_1504, .inl (cA_1505, 4, .inr (.inl (fun _ => 0))))] H := hP
  have hD : va_D A [(h, .inr (5, [.ref q_1492, .ref q_1494, .ref q_1496, .ref q_1498, .ref q_1500, .ref q_1502, .ref q_1504, .null, .null, .int 0, .long 0])), (q_1492, .inl (cA_1493, 4, .inl (fun _ => 0))), (q_1494, .inl (cA_1495, 4, .inl (fun _ => 0))), (q_1496, .inl (cA_1497, 4, .inl (fun _ => 0))), (q_1498, .inl (cA_1499, 4, .inl (fun _ => 0))), (q_1500, .inl (cA_1501, 4, .inl (fun _ => 0))), (q_1502, .inl (cA_1503, 4, .inr (.inl (fun _ => 0)))), (q_1504, .inl (cA_1505, 4, .inr (.inl (fun _ => 0))))] := hD
  refine lv_aload_n hx hb dX0_init_53 rfl (lv_at hl 0 rfl) ?_
  refine lv_iconst (v := 4) hx hb dX0_init_54 (by decide) ?_
  refine va_newa (atype := .long) (N' := 4) (a0 := (4, .inr (.inl (fun _ => 0)))) (ty := .long) (n := 4) hx hb (hts _ q192) rfl hK hP hD hS hA (fun _ => rfl) (by decide) (by decide) (Nat.le_of_ble_eq_true rfl) (Nat.le_of_ble_eq_true rfl) (Nat.le_of_ble_eq_true rfl) dX0_init_55 (fun q_1506 cA_1507 H hK hP hD hS => ?_)
  have hP : va_P (dC, dI) vwCl [(h, .inr (5, [.ref q_1492, .ref q_1494, .ref q_1496, .ref q_1498, .ref q_1500, .ref q_1502, .ref q_1504, .null, .null, .int 0, .long 0])), (q_1492, .inl (cA_1493, 4, .inl (fun _ => 0))), (q_1494, .inl (cA_1495, 4, .inl (fun _ => 0))), (q_1496, .inl (cA_1497, 4, .inl (fun _ => 0))), (q_1498, .inl (cA_1499, 4, .inl (fun _ => 0))), (q_1500, .inl (cA_1501, 4, .inl (fun _ => 0))), (q_1502, .inl (cA_1503, 4, .inr (.inl (fun _ => 0)))), (q_1504, .inl (cA_1505, 4, .inr (.inl (fun _ => 0)))), (q_1506, .inl (cA_1507, 4, .inr (.inl (fun _ => 0))))] H := hP
  have hD : va_D A [(h, .inr (5, [.ref q_1492, .ref q_1494, .ref q_1496, .ref q_1498, .ref q_1500, .ref q_1502, .ref q_1504, .null, .null, .int 0, .long 0])), (q_1492, .inl (cA_1493, 4, .inl (fun _ => 0))), (q_1494, .inl (cA_1495, 4, .inl (fun _ => 0))), (q_1496, .inl (cA_1497, 4, .inl (fun _ => 0))), (q_1498, .inl (cA_1499, 4, .inl (fun _ => 0))), (q_1500, .inl (cA_1501, 4, .inl (fun _ => 0))), (q_1502, .inl (cA_1503, 4, .inr (.inl (fun _ => 0)))), (q_1504, .inl (cA_1505, 4, .inr (.inl (fun _ => 0)))), (q_1506, .inl (cA_1507, 4, .inr (.inl (fun _ => 0))))] := hD
  have hK : va_K (dC, dI) vwCl [(cA_1493, .int), (cA_1495, .int), (cA_1497, .int), (cA_1499, .int), (cA_1501, .int), (cA_1503, .long), (cA_1505, .long), (cA_1507, .long)] s := hK
  refine W.widen (k := 8) (n := 32) (Nat.le_of_ble_eq_true rfl) (Nat.le_of_ble_eq_true rfl) ?_
  refine va_putF (D := (dC, dI)) (ci := 5) (v := .ref q_1506) (ty := .array .long) (C := RX0) (T := TX0) (N := 11) hx hb hts inX0 tyX0 tyX0_ok nmX0 hown hK hP hD hS 0 rfl rfl 7 (by decide) (hts _ q161) (fun _ h9 => h9) rfl hin rfl (by decide +kernel) rfl rfl (Nat.le_of_ble_eq_true rfl) dX0_init_57 (fun H locs hP hD hS => ?_)
  have hP : va_P (dC, dI) vwCl [(h, .inr (5, [.ref q_1492, .ref q_1494, .ref q_1496, .ref q_1498, .ref q_1500, .ref q_1502, .ref q_1504, .ref q_1506, .null, .int 0, .long 0])), (q_1492, .inl (cA_1493, 4, .inl (fun _ => 0))), (q_1494, .inl (cA_1495, 4, .inl (fun _ => 0))), (q_1496, .inl (cA_1497, 4, .inl (fun _ => 0))), (q_1498, .inl (cA_1499, 4, .inl (fun _ => 0))), (q_1500, .inl (cA_1501, 4, .inl (fun _ => 0))), (q_1502, .inl (cA_1503, 4, .inr (.inl (fun _ => 0)))), (q_1504, .inl (cA_1505, 4, .inr (.inl (fun _ => 0)))), (q_1506, .inl (cA_1507, 4, .inr (.inl (fun _ => 0))))] H := hP
  have hD : va_D A [(h, .inr (5, [.ref q_1492, .ref q_1494, .ref q_1496, .ref q_1498, .ref q_1500, .ref q_1502, .ref q_1504, .ref q_1506, .null, .int 0, .long 0])), (q_1492, .inl (cA_1493, 4, .inl (fun _ => 0))), (q_1494, .inl (cA_1495, 4, .inl (fun _ => 0))), (q_1496, .inl (cA_1497, 4, .inl (fun _ => 0))), (q_1498, .inl (cA_1499, 4, .inl (fun _ => 0))), (q_1500, .inl (cA_1501, 4, .inl (fun _ => 0))), (q_1502, .inl (cA_1503, 4, .inr (.inl (fun _ => 0)))), (q_1504, .inl (cA_1505, 4, .inr (.inl (fun _ => 0)))), (q_1506, .inl (cA_1507, 4, .inr (.inl (fun _ => 0))))] := hD
  refine lv_aload_n hx hb dX0_init_60 rfl (lv_at hl 0 rfl) ?_
  refine lv_iconst (v := 4) hx hb dX0_init_61 (by decide) ?_
  refine va_newa (atype := .int) (N' := 4) (a0 := (4, .inl (fun _ => 0))) (ty := .int) (n := 4) hx hb (hts _ q143) rfl hK hP hD hS hA (fun _ => rfl) (by decide) (by decide) (Nat.le_of_ble_eq_true rfl) (Nat.le_of_ble_eq_true rfl) (Nat.le_of_ble_eq_true rfl) dX0_init_62 (fun q_1508 cA_1509 H hK hP hD hS => ?_)
  have hP : va_P (dC, dI) vwCl [(h, .inr (5, [.ref q_1492, .ref q_1494, .ref q_1496, .ref q_1498, .ref q_1500, .ref q_1502, .ref q_1504, .ref q_1506, .null, .int 0, .long 0])), (q_1492, .inl (cA_1493, 4, .inl (fun _ => 0))), (q_1494, .inl (cA_1495, 4, .inl (fun _ => 0))), (q_1496, .inl (cA_1497, 4, .inl (fun _ => 0))), (q_1498, .inl (cA_1499, 4, .inl (fun _ => 0))), (q_1500, .inl (cA_1501, 4, .inl (fun _ => 0))), (q_1502, .inl (cA_1503, 4, .inr (.inl (fun _ => 0)))), (q_1504, .inl (cA_1505, 4, .inr (.inl (fun _ => 0)))), (q_1506, .inl (cA_1507, 4, .inr (.inl (fun _ => 0)))), (q_1508, .inl (cA_1509, 4, .inl (fun _ => 0)))] H := hP
  have hD : va_D A [(h, .inr (5, [.ref q_1492, .ref q_1494, .ref q_1496, .ref q_1498, .ref q_1500, .ref q_1502, .ref q_1504, .ref q_1506, .null, .int 0, .long 0])), (q_1492, .inl (cA_1493, 4, .inl (fun _ => 0))), (q_1494, .inl (cA_1495, 4, .inl (fun _ => 0))), (q_1496, .inl (cA_1497, 4, .inl (fun _ => 0))), (q_1498, .inl (cA_1499, 4, .inl (fun _ => 0))), (q_1500, .inl (cA_1501, 4, .inl (fun _ => 0))), (q_1502, .inl (cA_1503, 4, .inr (.inl (fun _ => 0)))), (q_1504, .inl (cA_1505, 4, .inr (.inl (fun _ => 0)))), (q_1506, .inl (cA_1507, 4, .inr (.inl (fun _ => 0)))), (q_1508, .inl (cA_1509, 4, .inl (fun _ => 0)))] := hD
  have hK : va_K (dC, dI) vwCl [(cA_1493, .int), (cA_1495, .int), (cA_1497, .int), (cA_1499, .int), (cA_1501, .int), (cA_1503, .long), (cA_1505, .long), (cA_1507, .long), (cA_1509, .int)] s := hK
  refine W.widen (k := 9) (n := 36) (Nat.le_of_ble_eq_true rfl) (Nat.le_of_ble_eq_true rfl) ?_
  refine va_putF (D := (dC, dI)) (ci := 5) (v := .ref q_1508) (ty := .array .int) (C := RX0) (T := TX0) (N := 11) hx hb hts inX0 tyX0 tyX0_ok nmX0 hown hK hP hD hS 0 rfl rfl 8 (by decide) (hts _ q162) (fun _ h9 => h9) rfl hin rfl (by decide +kernel) rfl rfl (Nat.le_of_ble_eq_true rfl) dX0_init_64 (fun H locs hP hD hS => ?_)
  have hP : va_P (dC, dI) vwCl [(h, .inr (5, [.ref q_1492, .ref q_1494, .ref q_1496, .ref q_1498, .ref q_1500, .ref q_1502, .ref q_1504, .ref q_1506, .ref q_1508, .int 0, .long 0])), (q_1492, .inl (cA_1493, 4, .inl (fun _ => 0))), (q_1494, .inl (cA_1495, 4, .inl (fun _ => 0))), (q_1496, .inl (cA_1497, 4, .inl (fun _ => 0))), (q_1498, .inl (cA_1499, 4, .inl (fun _ => 0))), (q_1500, .inl (cA_1501, 4, .inl (fun _ => 0))), (q_1502, .inl (cA_1503, 4, .inr (.inl (fun _ => 0)))), (q_1504, .inl (cA_1505, 4, .inr (.inl (fun _ => 0)))), (q_1506, .inl (cA_1507, 4, .inr (.inl (fun _ => 0)))), (q_1508, .inl (cA_1509, 4, .inl (fun _ => 0)))] H := hP
  have hD : va_D A [(h, .inr (5, [.ref q_1492, .ref q_1494, .ref q_1496, .ref q_1498, .ref q_1500, .ref q_1502, .ref q_1504, .ref q_1506, .ref q_1508, .int 0, .long 0])), (q_1492, .inl (cA_1493, 4, .inl (fun _ => 0))), (q_1494, .inl (cA_1495, 4, .inl (fun _ => 0))), (q_1496, .inl (cA_1497, 4, .inl (fun _ => 0))), (q_1498, .inl (cA_1499, 4, .inl (fun _ => 0))), (q_1500, .inl (cA_1501, 4, .inl (fun _ => 0))), (q_1502, .inl (cA_1503, 4, .inr (.inl (fun _ => 0)))), (q_1504, .inl (cA_1505, 4, .inr (.inl (fun _ => 0)))), (q_1506, .inl (cA_1507, 4, .inr (.inl (fun _ => 0)))), (q_1508, .inl (cA_1509, 4, .inl (fun _ => 0)))] := hD
  have hP9 := hP.sub (ws' := [(h, .inr (5, [.ref q_1492, .ref q_1494, .ref q_1496, .ref q_1498, .ref q_1500, .ref q_1502, .ref q_1504, .ref q_1506, .ref q_1508, .int 0, .long 0])), (q_1492, .inl (cA_1493, 4, .inl (fun _ => 0))), (q_1494, .inl (cA_1495, 4, .inl (fun _ => 0))), (q_1496, .inl (cA_1497, 4, .inl (fun _ => 0))), (q_1498, .inl (cA_1499, 4, .inl (fun _ => 0))), (q_1500, .inl (cA_1501, 4, .inl (fun _ => 0))), (q_1502, .inl (cA_1503, 4, .inr (.inl (fun _ => 0)))), (q_1504, .inl (cA_1505, 4, .inr (.inl (fun _ => 0)))), (q_1506, .inl (cA_1507, 4, .inr (.inl (fun _ => 0)))), (q_1508, .inl (cA_1509, 4, .inl (fun _ => 0)))]) [0, 1, 2, 3, 4, 5, 6, 7, 8, 9] rfl
  have hD9 := hD.sub (ws' := [(h, .inr (5, [.ref q_1492, .ref q_1494, .ref q_1496, .ref q_1498, .ref q_1500, .ref q_1502, .ref q_1504, .ref q_1506, .ref q_1508, .int 0, .long 0])), (q_1492, .inl (cA_1493, 4, .inl (fun _ => 0))), (q_1494, .inl (cA_1495, 4, .inl (fun _ => 0))), (q_1496, .inl (cA_1497, 4, .inl (fun _ => 0))), (q_1498, .inl (cA_1499, 4, .inl (fun _ => 0))), (q_1500, .inl (cA_1501, 4, .inl (fun _ => 0))), (q_1502, .inl (cA_1503, 4, .inr (.inl (fun _ => 0)))), (q_1504, .inl (cA_1505, 4, .inr (.inl (fun _ => 0)))), (q_1506, .inl (cA_1507, 4, .inr (.inl (fun _ => 0)))), (q_1508, .inl (cA_1509, 4, .inl (fun _ => 0)))]) [0, 1, 2, 3, 4, 5, 6, 7, 8, 9] (by decide) rfl
  have hK9 := hK.sub (tys' := [(cA_1493, .int), (cA_1495, .int), (cA_1497, .int), (cA_1499, .int), (cA_1501, .int), (cA_1503, .long), (cA_1505, .long), (cA_1507, .long), (cA_1509, .int)]) [0, 1, 2, 3, 4, 5, 6, 7, 8] rfl
  refine W.widen (k := 9) (n := 36) (Nat.le_of_ble_eq_true rfl) (Nat.le_of_ble_eq_true rfl) ?_
  exact W.vret hx hb hr (fun t ht hW => ⟨⟨(), rfl, trivial, ⟨q_1492, q_1494, q_1496, q_1498, q_1500, q_1502, q_1504, q_1506, q_1508, cA_1493, cA_1495, cA_1497, cA_1499, cA_1501, cA_1503, cA_1505, cA_1507, cA_1509, by rw [ht]; exact hP9, va_K.moved hW.alike hK9, hD9⟩⟩, hS.F ht⟩) hS.2.2 dX0_init_67
set_option maxHeartbeats 4000000 in
set_option maxRecDepth 100000 in
theorem r_hang (l : Launch) (dC : Nat → ClassId) (dI : Nat → Nat → Nat) (sz : Nat) (h : Nat) (we : Nat) (to : Nat) (sp : Nat) (da : Nat) (cr : Nat) (pl : Nat) (sd : Nat) (pu : Nat) (pk : Nat) (cwe : ClassId) (cto : ClassId) (csp : ClassId) (cda : ClassId) (tb : Int64) : Met l yX0_hang (pw_ws yX0_hang cX0_hang 4 none) ({ frames := 1, cells := 0, slots := 0, locals := 20 } : Room) (va_Pc [.ref h, .int 1, .int 1, .int 0] (fun U => U.heap.size = sz ∧ va_P (dC, dI) vwCl [(h, .inr (5, [.ref we, .ref to, .ref sp, .ref da, .ref cr, .ref pl, .ref sd, .ref pu, .ref pk, .int 0, .long tb])), (we, .inl (cwe, 4, .inl (fun _ => 0))), (to, .inl (cto, 4, .inl (fun _ => 0))), (sp, .inl (csp, 4, .inl (fun _ => 0))), (da, .inl (cda, 4, .inl (fun _ => 0)))] U.heap ∧ va_K (dC, dI) vwCl [(cwe, .int), (cto, .int), (csp, .int), (cda, .int)] U ∧ va_D (fun _ => True) [(h, .inr (5, [.ref we, .ref to, .ref sp, .ref da, .ref cr, .ref pl, .ref sd, .ref pu, .ref pk, .int 0, .long tb])), (we, .inl (cwe, 4, .inl (fun _ => 0))), (to, .inl (cto, 4, .inl (fun _ => 0))), (sp, .inl (csp, 4, .inl (fun _ => 0))), (da, .inl (cda, 4, .inl (fun _ => 0)))])) (va_Qv (fun (_ : Unit) => True) (fun (_ : Unit) (t : State) => va_P (dC, dI) vwCl [(h, .inr (5, [.ref we, .ref to, .ref sp, .ref da, .ref cr, .ref pl, .ref sd, .ref pu, .ref pk, .int 1, .long tb])), (we, .inl (cwe, 4, .inl (upd (fun _ => 0) 0 1))), (to, .inl (cto, 4, .inl (upd (fun _ => 0) 0 1))), (sp, .inl (csp, 4, .inl (upd (fun _ => 0) 0 1))), (da, .inl (cda, 4, .inl (upd (fun _ => 0) 0 0)))] t.heap ∧ va_K (dC, dI) vwCl [(cwe, .int), (cto, .int), (csp, .int), (cda, .int)] t ∧ va_D (va_A [(h, .inr (5, [.ref we, .ref to, .ref sp, .ref da, .ref cr, .ref pl, .ref sd, .ref pu, .ref pk, .int 0, .long tb])), (we, .inl (cwe, 4, .inl (fun _ => 0))), (to, .inl (cto, 4, .inl (fun _ => 0))), (sp, .inl (csp, 4, .inl (fun _ => 0))), (da, .inl (cda, 4, .inl (fun _ => 0)))] sz) [(h, .inr (5, [.ref we, .ref to, .ref sp, .ref da, .ref cr, .ref pl, .ref sd, .ref pu, .ref pk, .int 1, .long tb])), (we, .inl (cwe, 4, .inl (upd (fun _ => 0) 0 1))), (to, .inl (cto, 4, .inl (upd (fun _ => 0) 0 1))), (sp, .inl (csp, 4, .inl (upd (fun _ => 0) 0 1))), (da, .inl (cda, 4, .inl (upd (fun _ => 0) 0 0)))]) (va_A [(h, .inr (5, [.ref we, .ref to, .ref sp, .ref da, .ref cr, .ref pl, .ref sd, .ref pu, .ref pk, .int 0, .long tb])), (we, .inl (cwe, 4, .inl (fun _ => 0))), (to, .inl (cto, 4, .inl (fun _ => 0))), (sp, .inl (csp, 4, .inl (fun _ => 0))), (da, .inl (cda, 4, .inl (fun _ => 0)))] sz)) 0 0 (va_A [(h, .inr (5, [.ref we, .ref to, .ref sp, .ref da, .ref cr, .ref pl, .ref sd, .ref pu, .ref pk, .int 0, .long tb])), (we, .inl (cwe, 4, .inl (fun _ => 0))), (to, .inl (cto, 4, .inl (fun _ => 0))), (sp, .inl (csp, 4, .inl (fun _ => 0))), (da, .inl (cda, 4, .inl (fun _ => 0)))] sz) := by
  refine Met.ofW (cc := cX0_hang) (maxL := 4) (ret := none) (by decide) rfl ?_
  intro p e s m args below meth c s₁ B hml hv
  obtain ⟨rfl, hsz, hP, hK, hD0⟩ := hv
  have hx := B.exec
  have hb := B.bytes
  have hr := B.returns
  have hts0 := atoms_spec (ws := (pw_ws yX0_hang cX0_hang 4 none)) B.pre
  have hts : ∀ w ∈ pw_all, w.before _ s = true := fun w h => hts0 w (List.mem_cons_of_mem _ h)
  have hown : s.vm.findClass RX0 = some m.cls := findClass_of_methodNamed B.named
  have hlocks := B.notSynchronized
  subst hsz
  have hD := hD0.self (sz := s.heap.size)
  generalize hAe : va_A [(h, .inr (5, [.ref we, .ref to, .ref sp, .ref da, .ref cr, .ref pl, .ref sd, .ref pu, .ref pk, .int 0, .long tb])), (we, .inl (cwe, 4, .inl (fun _ => 0))), (to, .inl (cto, 4, .inl (fun _ => 0))), (sp, .inl (csp, 4, .inl (fun _ => 0))), (da, .inl (cda, 4, .inl (fun _ => 0)))] s.heap.size = A at hD ⊢
  have hA : ∀ q : Nat, s.heap.size ≤ q → A q := fun q h => by rw [← hAe]; exact Or.inr h
  have hS : va_S A s.heap s.heap [] := va_S.rf
  have hP : va_P (dC, dI) vwCl [(h, .inr (5, [.ref we, .ref to, .ref sp, .ref da, .ref cr, .ref pl, .ref sd, .ref pu, .ref pk, .int 0, .long tb])), (we, .inl (cwe, 4, .inl (fun _ => 0))), (to, .inl (cto, 4, .inl (fun _ => 0))), (sp, .inl (csp, 4, .inl (fun _ => 0))), (da, .inl (cda, 4, .inl (fun _ => 0)))] s.heap := hP
  have hl := lv_entry ([.ref h, .int 1, .int 1, .int 0]) (n := 4) (Nat.le_of_ble_eq_true rfl)
  rw [lg_entry_eq]
  generalize (lg_sl ([.ref h, .int 1, .int 1, .int 0]) ++ List.replicate (4 - (lg_sl ([.ref h, .int 1, .int 1, .int 0])).length) Slot.unset).toArray = ls at hl ⊢
  have hl : lv_has ls 4 [(0, .ref h), (1, .int 1), (2, .int 1), (3, .int 0)] := hl
  skip
  refine lv_aload_n hx hb dX0_hang_0 rfl (lv_at hl 0 rfl) ?_
  refine va_get (D := (dC, dI)) (ci := 5) (v := .ref we) (C := RX0) (T := TX0) (N := 11) hx hb hts inX0 hown hK hP 0 rfl rfl 0 (by decide) (hts _ q150) (fun _ h9 => h9) rfl dX0_hang_1 ?_
  refine lv_aload_n hx hb dX0_hang_4 rfl (lv_at hl 0 rfl) ?_
  refine va_get (D := (dC, dI)) (ci := 5) (v := .int 0) (C := RX0) (T := TX0) (N := 11) hx hb hts inX0 hown hK hP 0 rfl rfl 9 (by decide) (hts _ q165) (fun _ h9 => h9) rfl dX0_hang_5 ?_
  refine lv_iload_n hx hb dX0_hang_8 rfl (lv_at hl 1 rfl) ?_
  refine va_iast hx hb hK hP hD hS 1 0 rfl rfl (by unfold vp_in; decide) dX0_hang_9 (fun H locs hP hD hS => ?_)
  rw [show (0 : Int32).toNatClampNeg = 0 from by decide] at hP hD
  have hP : va_P (dC, dI) vwCl [(h, .inr (5, [.ref we, .ref to, .ref sp, .ref da, .ref cr, .ref pl, .ref sd, .ref pu, .ref pk, .int 0, .long tb])), (we, .inl (cwe, 4, .inl (upd (fun _ => 0) 0 1))), (to, .inl (cto, 4, .inl (fun _ => 0))), (sp, .inl (csp, 4, .inl (fun _ => 0))), (da, .inl (cda, 4, .inl (fun _ => 0)))] H := hP
  have hD : va_D A [(h, .inr (5, [.ref we, .ref to, .ref sp, .ref da, .ref cr, .ref pl, .ref sd, .ref pu, .ref pk, .int 0, .long tb])), (we, .inl (cwe, 4, .inl (upd (fun _ => 0) 0 1))), (to, .inl (cto, 4, .inl (fun _ => 0))), (sp, .inl (csp, 4, .inl (fun _ => 0))), (da, .inl (cda, 4, .inl (fun _ => 0)))] := hD
  refine lv_aload_n hx hb dX0_hang_10 rfl (lv_at hl 0 rfl) ?_
  refine va_get (D := (dC, dI)) (ci := 5) (v := .ref to) (C := RX0) (T := TX0) (N := 11) hx hb hts inX0 hown hK hP 0 rfl rfl 1 (by decide) (hts _ q151) (fun _ h9 => h9) rfl dX0_hang_11 ?_
  refine lv_aload_n hx hb dX0_hang_14 rfl (lv_at hl 0 rfl) ?_
  refine va_get (D := (dC, dI)) (ci := 5) (v := .int 0) (C := RX0) (T := TX0) (N := 11) hx hb hts inX0 hown hK hP 0 rfl rfl 9 (by decide) (hts _ q165) (fun _ h9 => h9) rfl dX0_hang_15 ?_
  refine lv_iload_n hx hb dX0_hang_18 rfl (lv_at hl 2 rfl) ?_
  refine va_iast hx hb hK hP hD hS 2 1 rfl rfl (by unfold vp_in; decide) dX0_hang_19 (fun H locs hP hD hS => ?_)
  rw [show (0 : Int32).toNatClampNeg = 0 from by decide] at hP hD
  have hP : va_P (dC, dI) vwCl [(h, .inr (5, [.ref we, .ref to, .ref sp, .ref da, .ref cr, .ref pl, .ref sd, .ref pu, .ref pk, .int 0, .long tb])), (we, .inl (cwe, 4, .inl (upd (fun _ => 0) 0 1))), (to, .inl (cto, 4, .inl (upd (fun _ => 0) 0 1))), (sp, .inl (csp, 4, .inl (fun _ => 0))), (da, .inl (cda, 4, .inl (fun _ => 0)))] H := hP
  have hD : va_D A [(h, .inr (5, [.ref we, .ref to, .ref sp, .ref da, .ref cr, .ref pl, .ref sd, .ref pu, .ref pk, .int 0, .long tb])), (we, .inl (cwe, 4, .inl (upd (fun _ => 0) 0 1))), (to, .inl (cto, 4, .inl (upd (fun _ => 0) 0 1))), (sp, .inl (csp, 4, .inl (fun _ => 0))), (da, .inl (cda, 4, .inl (fun _ => 0)))] := hD
  refine lv_aload_n hx hb dX0_hang_20 rfl (lv_at hl 0 rfl) ?_
  refine va_get (D := (dC, dI)) (ci := 5) (v := .ref sp) (C := RX0) (T := TX0) (N := 11) hx hb hts inX0 hown hK hP 0 rfl rfl 2 (by decide) (hts _ q152) (fun _ h9 => h9) rfl dX0_hang_21 ?_
  refine lv_aload_n hx hb dX0_hang_24 rfl (lv_at hl 0 rfl) ?_
  refine va_get (D := (dC, dI)) (ci := 5) (v := .int 0) (C := RX0) (T := TX0) (N := 11) hx hb hts inX0 hown hK hP 0 rfl rfl 9 (by decide) (hts _ q165) (fun _ h9 => h9) rfl dX0_hang_25 ?_
  refine lv_iload_n hx hb dX0_hang_28 rfl (lv_at hl 2 rfl) ?_
  refine va_iast hx hb hK hP hD hS 3 2 rfl rfl (by unfold vp_in; decide) dX0_hang_29 (fun H locs hP hD hS => ?_)
  rw [show (0 : Int32).toNatClampNeg = 0 from by decide] at hP hD
  have hP : va_P (dC, dI) vwCl [(h, .inr (5, [.ref we, .ref to, .ref sp, .ref da, .ref cr, .ref pl, .ref sd, .ref pu, .ref pk, .int 0, .long tb])), (we, .inl (cwe, 4, .inl (upd (fun _ => 0) 0 1))), (to, .inl (cto, 4, .inl (upd (fun _ => 0) 0 1))), (sp, .inl (csp, 4, .inl (upd (fun _ => 0) 0 1))), (da, .inl (cda, 4, .inl (fun _ => 0)))] H := hP
  have hD : va_D A [(h, .inr (5, [.ref we, .ref to, .ref sp, .ref da, .ref cr, .ref pl, .ref sd, .ref pu, .ref pk, .int 0, .long tb])), (we, .inl (cwe, 4, .inl (upd (fun _ => 0) 0 1))), (to, .inl (cto, 4, .inl (upd (fun _ => 0) 0 1))), (sp, .inl (csp, 4, .inl (upd (fun _ => 0) 0 1))), (da, .inl (cda, 4, .inl (fun _ => 0)))] := hD
  refine lv_aload_n hx hb dX0_hang_30 rfl (lv_at hl 0 rfl) ?_
  refine va_get (D := (dC, dI)) (ci := 5) (v := .ref da) (C := RX0) (T := TX0) (N := 11) hx hb hts inX0 hown hK hP 0 rfl rfl 3 (by decide) (hts _ q154) (fun _ h9 => h9) rfl dX0_hang_31 ?_
  refine lv_aload_n hx hb dX0_hang_34 rfl (lv_at hl 0 rfl) ?_
  refine va_get (D := (dC, dI)) (ci := 5) (v := .int 0) (C := RX0) (T := TX0) (N := 11) hx hb hts inX0 hown hK hP 0 rfl rfl 9 (by decide) (hts _ q165) (fun _ h9 => h9) rfl dX0_hang_35 ?_
  refine lv_iload_n hx hb dX0_hang_38 rfl (lv_at hl 3 rfl) ?_
  refine va_iast hx hb hK hP hD hS 4 3 rfl rfl (by unfold vp_in; decide) dX0_hang_39 (fun H locs hP hD hS => ?_)
  rw [show (0 : Int32).toNatClampNeg = 0 from by decide] at hP hD
  have hP : va_P (dC, dI) vwCl [(h, .inr (5, [.ref we, .ref to, .ref sp, .ref da, .ref cr, .ref pl, .ref sd, .ref pu, .ref pk, .int 0, .long tb])), (we, .inl (cwe, 4, .inl (upd (fun _ => 0) 0 1))), (to, .inl (cto, 4, .inl (upd (fun _ => 0) 0 1))), (sp, .inl (csp, 4, .inl (upd (fun _ => 0) 0 1))), (da, .inl (cda, 4, .inl (upd (fun _ => 0) 0 0)))] H := hP
  have hD : va_D A [(h, .inr (5, [.ref we, .ref to, .ref sp, .ref da, .ref cr, .ref pl, .ref sd, .ref pu, .ref pk, .int 0, .long tb])), (we, .inl (cwe, 4, .inl (upd (fun _ => 0) 0 1))), (to, .inl (cto, 4, .inl (upd (fun _ => 0) 0 1))), (sp, .inl (csp, 4, .inl (upd (fun _ => 0) 0 1))), (da, .inl (cda, 4, .inl (upd (fun _ => 0) 0 0)))] := hD
  refine lv_aload_n hx hb dX0_hang_40 rfl (lv_at hl 0 rfl) ?_
  refine lv_dup hx hb dX0_hang_41 rfl ?_
  refine va_get (D := (dC, dI)) (ci := 5) (v := .int 0) (C := RX0) (T := TX0) (N := 11) hx hb hts inX0 hown hK hP 0 rfl rfl 9 (by decide) (hts _ q165) (fun _ h9 => h9) rfl dX0_hang_42 ?_
  refine lv_iconst (v := 1) hx hb dX0_hang_45 (by decide) ?_
  refine lv_iadd hx hb dX0_hang_46 ?_
  refine lv_numI (v := 1) (by decide) ?_
  refine va_put (D := (dC, dI)) (ci := 5) (v := .int 1) (ty := .int) (C := RX0) (T := TX0) (N := 11) hx hb hts inX0 tyX0 tyX0_ok nmX0 hown hK hP hD hS 0 rfl rfl 9 (by decide) (hts _ q165) (fun _ h9 => h9) rfl (by decide +kernel) rfl rfl (Nat.le_of_ble_eq_true rfl) dX0_hang_47 (fun H locs hP hD hS => ?_)
  have hP : va_P (dC, dI) vwCl [(h, .inr (5, [.ref we, .ref to, .ref sp, .ref da, .ref cr, .ref pl, .ref sd, .ref pu, .ref pk, .int 1, .long tb])), (we, .inl (cwe, 4, .inl (upd (fun _ => 0) 0 1))), (to, .inl (cto, 4, .inl (upd (fun _ => 0) 0 1))), (sp, .inl (csp, 4, .inl (upd (fun _ => 0) 0 1))), (da, .inl (cda, 4, .inl (upd (fun _ => 0) 0 0)))] H := hP
  have hD : va_D A [(h, .inr (5, [.ref we, .ref to, .ref sp, .ref da, .ref cr, .ref pl, .ref sd, .ref pu, .ref pk, .int 1, .long tb])), (we, .inl (cwe, 4, .inl (upd (fun _ => 0) 0 1))), (to, .inl (cto, 4, .inl (upd (fun _ => 0) 0 1))), (sp, .inl (csp, 4, .inl (upd (fun _ => 0) 0 1))), (da, .inl (cda, 4, .inl (upd (fun _ => 0) 0 0)))] := hD
  have hP9 := hP.sub (ws' := [(h, .inr (5, [.ref we, .ref to, .ref sp, .ref da, .ref cr, .ref pl, .ref sd, .ref pu, .ref pk, .int 1, .long tb])), (we, .inl (cwe, 4, .inl (upd (fun _ => 0) 0 1))), (to, .inl (cto, 4, .inl (upd (fun _ => 0) 0 1))), (sp, .inl (csp, 4, .inl (upd (fun _ => 0) 0 1))), (da, .inl (cda, 4, .inl (upd (fun _ => 0) 0 0)))]) [0, 1, 2, 3, 4] rfl
  have hD9 := hD.sub (ws' := [(h, .inr (5, [.ref we, .ref to, .ref sp, .ref da, .ref cr, .ref pl, .ref sd, .ref pu, .ref pk, .int 1, .long tb])), (we, .inl (cwe, 4, .inl (upd (fun _ => 0) 0 1))), (to, .inl (cto, 4, .inl (upd (fun _ => 0) 0 1))), (sp, .inl (csp, 4, .inl (upd (fun _ => 0) 0 1))), (da, .inl (cda, 4, .inl (upd (fun _ => 0) 0 0)))]) [0, 1, 2, 3, 4] (by decide) rfl
  have hK9 := hK.sub (tys' := [(cwe, .int), (cto, .int), (csp, .int), (cda, .int)]) [0, 1, 2, 3] rfl
  refine W.widen (k := 0) (n := 0) (Nat.le_of_ble_eq_true rfl) (Nat.le_of_ble_eq_true rfl) ?_
  exact W.vret hx hb hr (fun t ht hW => ⟨⟨(), rfl, trivial, ⟨by rw [ht]; exact hP9, va_K.moved hW.alike hK9, hD9⟩⟩, hS.F ht⟩) hS.2.2 dX0_hang_50
set_option maxHeartbeats 4000000 in
set_option maxRecDepth 100000 in
theorem r_rest (l : Launch) (dC : Nat → ClassId) (dI : Nat → Nat → Nat) (sz : Nat) (h : Nat) (we : Nat) (to : Nat) (sp : Nat) (da : Nat) (cr : Nat) (pl : Nat) (sd : Nat) (pu : Nat) (pk : Nat) (cpl : ClassId) (csd : ClassId) (cpk : ClassId) (fpl : Nat → Int64) (fsd : Nat → Int64) (fpk : Nat → Int32) (tb : Int64) : Met l yX0_rest (pw_ws yX0_rest cX0_rest 2 none) ({ frames := 1, cells := 0, slots := 0, locals := 20 } : Room) (va_Pc [.ref h] (fun U => U.heap.size = sz ∧ va_P (dC, dI) vwCl [(h, .inr (5, [.ref we, .ref to, .ref sp, .ref da, .ref cr, .ref pl, .ref sd, .ref pu, .ref pk, .int 1, .long tb])), (pl, .inl (cpl, 4, .inr (.inl fpl))), (sd, .inl (csd, 4, .inr (.inl fsd))), (pk, .inl (cpk, 4, .inl fpk))] U.heap ∧ va_K (dC, dI) vwCl [(cpl, .long), (csd, .long), (cpk, .int)] U ∧ va_D (fun _ => True) [(h, .inr (5, [.ref we, .ref to, .ref sp, .ref da, .ref cr, .ref pl, .ref sd, .ref pu, .ref pk, .int 1, .long tb])), (pl, .inl (cpl, 4, .inr (.inl fpl))), (sd, .inl (csd, 4, .inr (.inl fsd))), (pk, .inl (cpk, 4, .inl fpk))])) (va_Qv (fun (_ : Unit) => True) (fun (_ : Unit) (t : State) => ∃ (gpl : Nat → Int64), ∃ (gsd : Nat → Int64), ∃ (gpk : Nat → Int32), va_P (dC, dI) vwCl [(h, .inr (5, [.ref we, .ref to, .ref sp, .ref da, .ref cr, .ref pl, .ref sd, .ref pu, .ref pk, .int 1, .long 0])), (pl, .inl (cpl, 4, .inr (.inl gpl))), (sd, .inl (csd, 4, .inr (.inl gsd))), (pk, .inl (cpk, 4, .inl gpk))] t.heap ∧ va_K (dC, dI) vwCl [(cpl, .long), (csd, .long), (cpk, .int)] t ∧ va_D (va_A [(h, .inr (5, [.ref we, .ref to, .ref sp, .ref da, .ref cr, .ref pl, .ref sd, .ref pu, .ref pk, .int 1, .long tb])), (pl, .inl (cpl, 4, .inr (.inl fpl))), (sd, .inl (csd, 4, .inr (.inl fsd))), (pk, .inl (cpk, 4, .inl fpk))] sz) [(h, .inr (5, [.ref we, .ref to, .ref sp, .ref da, .ref cr, .ref pl, .ref sd, .ref pu, .ref pk, .int 1, .long 0])), (pl, .inl (cpl, 4, .inr (.inl gpl))), (sd, .inl (csd, 4, .inr (.inl gsd))), (pk, .inl (cpk, 4, .inl gpk))]) (va_A [(h, .inr (5, [.ref we, .ref to, .ref sp, .ref da, .ref cr, .ref pl, .ref sd, .ref pu, .ref pk, .int 1, .long tb])), (pl, .inl (cpl, 4, .inr (.inl fpl))), (sd, .inl (csd, 4, .inr (.inl fsd))), (pk, .inl (cpk, 4, .inl fpk))] sz)) 0 0 (va_A [(h, .inr (5, [.ref we, .ref to, .ref sp, .ref da, .ref cr, .ref pl, .ref sd, .ref pu, .ref pk, .int 1, .long tb])), (pl, .inl (cpl, 4, .inr (.inl fpl))), (sd, .inl (csd, 4, .inr (.inl fsd))), (pk, .inl (cpk, 4, .inl fpk))] sz) := by
  refine Met.ofW (cc := cX0_rest) (maxL := 2) (ret := none) (by decide) rfl ?_
  intro p e s m args below meth c s₁ B hml hv
  obtain ⟨rfl, hsz, hP, hK, hD0⟩ := hv
  have hx := B.exec
  have hb := B.bytes
  have hr := B.returns
  have hts0 := atoms_spec (ws := (pw_ws yX0_rest cX0_rest 2 none)) B.pre
  have hts : ∀ w ∈ pw_all, w.before _ s = true := fun w h => hts0 w (List.mem_cons_of_mem _ h)
  have hown : s.vm.findClass RX0 = some m.cls := findClass_of_methodNamed B.named
  have hlocks := B.notSynchronized
  subst hsz
  have hD := hD0.self (sz := s.heap.size)
  generalize hAe : va_A [(h, .inr (5, [.ref we, .ref to, .ref sp, .ref da, .ref cr, .ref pl, .ref sd, .ref pu, .ref pk, .int 1, .long tb])), (pl, .inl (cpl, 4, .inr (.inl fpl))), (sd, .inl (csd, 4, .inr (.inl fsd))), (pk, .inl (cpk, 4, .inl fpk))] s.heap.size = A at hD ⊢
  have hA : ∀ q : Nat, s.heap.size ≤ q → A q := fun q h => by rw [← hAe]; exact Or.inr h
  have hS : va_S A s.heap s.heap [] := va_S.rf
  have hP : va_P (dC, dI) vwCl [(h, .inr (5, [.ref we, .ref to, .ref sp, .ref da, .ref cr, .ref pl, .ref sd, .ref pu, .ref pk, .int 1, .long tb])), (pl, .inl (cpl, 4, .inr (.inl fpl))), (sd, .inl (csd, 4, .inr (.inl fsd))), (pk, .inl (cpk, 4, .inl fpk))] s.heap := hP
  have hl := lv_entry ([.ref h]) (n := 2) (Nat.le_of_ble_eq_true rfl)
  rw [lg_entry_eq]
  generalize (lg_sl ([.ref h]) ++ List.replicate (2 - (lg_sl ([.ref h])).length) Slot.unset).toArray = ls at hl ⊢
  have hl : lv_has ls 2 [(0, .ref h)] := hl
  skip
  refine lv_aload_n hx hb dX0_rest_0 rfl (lv_at hl 0 rfl) ?_
  refine lv_lconst (v := 0) hx hb dX0_rest_1 (by decide) ?_
  refine va_put (D := (dC, dI)) (ci := 5) (v := .long 0) (ty := .long) (C := RX0) (T := TX0) (N := 11) hx hb hts inX0 tyX0 tyX0_ok nmX0 hown hK hP hD hS 0 rfl rfl 10 (by decide) (hts _ q168) (fun _ h9 => h9) rfl (by decide +kernel) rfl rfl (Nat.le_of_ble_eq_true rfl) dX0_rest_2 (fun H locs hP hD hS => ?_)
  have hP : va_P (dC, dI) vwCl [(h, .inr (5, [.ref we, .ref to, .ref sp, .ref da, .ref cr, .ref pl, .ref sd, .ref pu, .ref pk, .int 1, .long 0])), (pl, .inl (cpl, 4, .inr (.inl fpl))), (sd, .inl (csd, 4, .inr (.inl fsd))), (pk, .inl (cpk, 4, .inl fpk))] H := hP
  have hD : va_D A [(h, .inr (5, [.ref we, .ref to, .ref sp, .ref da, .ref cr, .ref pl, .ref sd, .ref pu, .ref pk, .int 1, .long 0])), (pl, .inl (cpl, 4, .inr (.inl fpl))), (sd, .inl (csd, 4, .inr (.inl fsd))), (pk, .inl (cpk, 4, .inl fpk))] := hD
  refine lv_iconst (v := 0) hx hb dX0_rest_5 (by decide) ?_
  refine lv_istore_n (lv' := [(1, .int 0), (0, .ref h)]) hx hb dX0_rest_6 rfl hl (by decide) rfl (fun ls hl => ?_)
  refine lv_iload_n hx hb dX0_rest_7 rfl (lv_at hl 0 rfl) ?_
  refine lv_iconst (v := 4) hx hb dX0_rest_8 (by decide) ?_
  refine lv_icmp_ge (tgt := 39) hx hb dX0_rest_9 (by decide) (fun c_1510 => absurd c_1510 (by decide)) (fun c_1510 => ?_)
  refine lv_aload_n hx hb dX0_rest_12 rfl (lv_at hl 1 rfl) ?_
  refine va_get (D := (dC, dI)) (ci := 5) (v := .ref pl) (C := RX0) (T := TX0) (N := 11) hx hb hts inX0 hown hK hP 0 rfl rfl 5 (by decide) (hts _ q158) (fun _ h9 => h9) rfl dX0_rest_13 ?_
  refine lv_iload_n hx hb dX0_rest_16 rfl (lv_at hl 0 rfl) ?_
  refine lv_lconst (v := 0) hx hb dX0_rest_17 (by decide) ?_
  refine va_last hx hb hK hP hD hS 1 0 rfl rfl (by unfold vp_in; decide) dX0_rest_18 (fun H locs hP hD hS => ?_)
  have hP : va_P (dC, dI) vwCl [(h, .inr (5, [.ref we, .ref to, .ref sp, .ref da, .ref cr, .ref pl, .ref sd, .ref pu, .ref pk, .int 1, .long 0])), (pl, .inl (cpl, 4, .inr (.inl (vp_updL fpl (0 : Int32).toNatClampNeg 0)))), (sd, .inl (csd, 4, .inr (.inl fsd))), (pk, .inl (cpk, 4, .inl fpk))] H := hP
  have hD : va_D A [(h, .inr (5, [.ref we, .ref to, .ref sp, .ref da, .ref cr, .ref pl, .ref sd, .ref pu, .ref pk, .int 1, .long 0])), (pl, .inl (cpl, 4, .inr (.inl (vp_updL fpl (0 : Int32).toNatClampNeg 0)))), (sd, .inl (csd, 4, .inr (.inl fsd))), (pk, .inl (cpk, 4, .inl fpk))] := hD
  generalize (vp_updL fpl (0 : Int32).toNatClampNeg 0) = f_1511 at hP hD
  refine lv_aload_n hx hb dX0_rest_19 rfl (lv_at hl 1 rfl) ?_
  refine va_get (D := (dC, dI)) (ci := 5) (v := .ref sd) (C := RX0) (T := TX0) (N := 11) hx hb hts inX0 hown hK hP 0 rfl rfl 6 (by decide) (hts _ q160) (fun _ h9 => h9) rfl dX0_rest_20 ?_
  refine lv_iload_n hx hb dX0_rest_23 rfl (lv_at hl 0 rfl) ?_
  refine lv_lconst (v := 0) hx hb dX0_rest_24 (by decide) ?_
  refine va_last hx hb hK hP hD hS 2 1 rfl rfl (by unfold vp_in; decide) dX0_rest_25 (fun H locs hP hD hS => ?_)
  have hP : va_P (dC, dI) vwCl [(h, .inr (5, [.ref we, .ref to, .ref sp, .ref da, .ref cr, .ref pl, .ref sd, .ref pu, .ref pk, .int 1, .long 0])), (pl, .inl (cpl, 4, .inr (.inl f_1511))), (sd, .inl (csd, 4, .inr (.inl (vp_updL fsd (0 : Int32).toNatClampNeg 0)))), (pk, .inl (cpk, 4, .inl fpk))] H := hP
  have hD : va_D A [(h, .inr (5, [.ref we, .ref to, .ref sp, .ref da, .ref cr, .ref pl, .ref sd, .ref pu, .ref pk, .int 1, .long 0])), (pl, .inl (cpl, 4, .inr (.inl f_1511))), (sd, .inl (csd, 4, .inr (.inl (vp_updL fsd (0 : Int32).toNatClampNeg 0)))), (pk, .inl (cpk, 4, .inl fpk))] := hD
  generalize (vp_updL fsd (0 : Int32).toNatClampNeg 0) = f_1512 at hP hD
  refine lv_aload_n hx hb dX0_rest_26 rfl (lv_at hl 1 rfl) ?_
  refine va_get (D := (dC, dI)) (ci := 5) (v := .ref pk) (C := RX0) (T := TX0) (N := 11) hx hb hts inX0 hown hK hP 0 rfl rfl 8 (by decide) (hts _ q162) (fun _ h9 => h9) rfl dX0_rest_27 ?_
  refine lv_iload_n hx hb dX0_rest_30 rfl (lv_at hl 0 rfl) ?_
  refine lv_iconst (v := 0) hx hb dX0_rest_31 (by decide) ?_
  refine va_iast hx hb hK hP hD hS 3 2 rfl rfl (by unfold vp_in; decide) dX0_rest_32 (fun H locs hP hD hS => ?_)
  have hP : va_P (dC, dI) vwCl [(h, .inr (5, [.ref we, .ref to, .ref sp, .ref da, .ref cr, .ref pl, .ref sd, .ref pu, .ref pk, .int 1, .long 0])), (pl, .inl (cpl, 4, .inr (.inl f_1511))), (sd, .inl (csd, 4, .inr (.inl f_1512))), (pk, .inl (cpk, 4, .inl (upd fpk (0 : Int32).toNatClampNeg 0)))] H := hP
  have hD : va_D A [(h, .inr (5, [.ref we, .ref to, .ref sp, .ref da, .ref cr, .ref pl, .ref sd, .ref pu, .ref pk, .int 1, .long 0])), (pl, .inl (cpl, 4, .inr (.inl f_1511))), (sd, .inl (csd, 4, .inr (.inl f_1512))), (pk, .inl (cpk, 4, .inl (upd fpk (0 : Int32).toNatClampNeg 0)))] := hD
  generalize (upd fpk (0 : Int32).toNatClampNeg 0) = f_1513 at hP hD
  refine lv_iinc (v := 1) (lv' := [(1, .int 1), (0, .ref h)]) hx hb dX0_rest_33 hl (k := 0) rfl (by decide) (by decide) rfl (fun ls hl => ?_)
  refine lv_goto (tgt := 7) hx hb dX0_rest_36 (by decide) ?_
  refine lv_iload_n hx hb dX0_rest_7 rfl (lv_at hl 0 rfl) ?_
  refine lv_iconst (v := 4) hx hb dX0_rest_8 (by decide) ?_
  refine lv_icmp_ge (tgt := 39) hx hb dX0_rest_9 (by decide) (fun c_1514 => absurd c_1514 (by decide)) (fun c_1514 => ?_)
  refine lv_aload_n hx hb dX0_rest_12 rfl (lv_at hl 1 rfl) ?_
  refine va_get (D := (dC, dI)) (ci := 5) (v := .ref pl) (C := RX0) (T := TX0) (N := 11) hx hb hts inX0 hown hK hP 0 rfl rfl 5 (by decide) (hts _ q158) (fun _ h9 => h9) rfl dX0_rest_13 ?_
  refine lv_iload_n hx hb dX0_rest_16 rfl (lv_at hl 0 rfl) ?_
  refine lv_lconst (v := 0) hx hb dX0_rest_17 (by decide) ?_
  refine va_last hx hb hK hP hD hS 1 0 rfl rfl (by unfold vp_in; decide) dX0_rest_18 (fun H locs hP hD hS => ?_)
  have hP : va_P (dC, dI) vwCl [(h, .inr (5, [.ref we, .ref to, .ref sp, .ref da, .ref cr, .ref pl, .ref sd, .ref pu, .ref pk, .int 1, .long 0])), (pl, .inl (cpl, 4, .inr (.inl (vp_updL f_1511 (1 : Int32).toNatClampNeg 0)))), (sd, .inl (csd, 4, .inr (.inl f_1512))), (pk, .inl (cpk, 4, .inl f_1513))] H := hP
  have hD : va_D A [(h, .inr (5, [.ref we, .ref to, .ref sp, .ref da, .ref cr, .ref pl, .ref sd, .ref pu, .ref pk, .int 1, .long 0])), (pl, .inl (cpl, 4, .inr (.inl (vp_updL f_1511 (1 : Int32).toNatClampNeg 0)))), (sd, .inl (csd, 4, .inr (.inl f_1512))), (pk, .inl (cpk, 4, .inl f_1513))] := hD
  generalize (vp_updL f_1511 (1 : Int32).toNatClampNeg 0) = f_1515 at hP hD
  refine lv_aload_n hx hb dX0_rest_19 rfl (lv_at hl 1 rfl) ?_
  refine va_get (D := (dC, dI)) (ci := 5) (v := .ref sd) (C := RX0) (T := TX0) (N := 11) hx hb hts inX0 hown hK hP 0 rfl rfl 6 (by decide) (hts _ q160) (fun _ h9 => h9) rfl dX0_rest_20 ?_
  refine lv_iload_n hx hb dX0_rest_23 rfl (lv_at hl 0 rfl) ?_
  refine lv_lconst (v := 0) hx hb dX0_rest_24 (by decide) ?_
  refine va_last hx hb hK hP hD hS 2 1 rfl rfl (by unfold vp_in; decide) dX0_rest_25 (fun H locs hP hD hS => ?_)
  have hP : va_P (dC, dI) vwCl [(h, .inr (5, [.ref we, .ref to, .ref sp, .ref da, .ref cr, .ref pl, .ref sd, .ref pu, .ref pk, .int 1, .long 0])), (pl, .inl (cpl, 4, .inr (.inl f_1515))), (sd, .inl (csd, 4, .inr (.inl (vp_updL f_1512 (1 : Int32).toNatClampNeg 0)))), (pk, .inl (cpk, 4, .inl f_1513))] H := hP
  have hD : va_D A [(h, .inr (5, [.ref we, .ref to, .ref sp, .ref da, .ref cr, .ref pl, .ref sd, .ref pu, .ref pk, .int 1, .long 0])), (pl, .inl (cpl, 4, .inr (.inl f_1515))), (sd, .inl (csd, 4, .inr (.inl (vp_updL f_1512 (1 : Int32).toNatClampNeg 0)))), (pk, .inl (cpk, 4, .inl f_1513))] := hD
  generalize (vp_updL f_1512 (1 : Int32).toNatClampNeg 0) = f_1516 at hP hD
  refine lv_aload_n hx hb dX0_rest_26 rfl (lv_at hl 1 rfl) ?_
  refine va_get (D := (dC, dI)) (ci := 5) (v := .ref pk) (C := RX0) (T := TX0) (N := 11) hx hb hts inX0 hown hK hP 0 rfl rfl 8 (by decide) (hts _ q162) (fun _ h9 => h9) rfl dX0_rest_27 ?_
  refine lv_iload_n hx hb dX0_rest_30 rfl (lv_at hl 0 rfl) ?_
  refine lv_iconst (v := 0) hx hb dX0_rest_31 (by decide) ?_
  refine va_iast hx hb hK hP hD hS 3 2 rfl rfl (by unfold vp_in; decide) dX0_rest_32 (fun H locs hP hD hS => ?_)
  have hP : va_P (dC, dI) vwCl [(h, .inr (5, [.ref we, .ref to, .ref sp, .ref da, .ref cr, .ref pl, .ref sd, .ref pu, .ref pk, .int 1, .long 0])), (pl, .inl (cpl, 4, .inr (.inl f_1515))), (sd, .inl (csd, 4, .inr (.inl f_1516))), (pk, .inl (cpk, 4, .inl (upd f_1513 (1 : Int32).toNatClampNeg 0)))] H := hP
  have hD : va_D A [(h, .inr (5, [.ref we, .ref to, .ref sp, .ref da, .ref cr, .ref pl, .ref sd, .ref pu, .ref pk, .int 1, .long 0])), (pl, .inl (cpl, 4, .inr (.inl f_1515))), (sd, .inl (csd, 4, .inr (.inl f_1516))), (pk, .inl (cpk, 4, .inl (upd f_1513 (1 : Int32).toNatClampNeg 0)))] := hD
  generalize (upd f_1513 (1 : Int32).toNatClampNeg 0) = f_1517 at hP hD
  refine lv_iinc (v := 2) (lv' := [(1, .int 2), (0, .ref h)]) hx hb dX0_rest_33 hl (k := 0) rfl (by decide) (by decide) rfl (fun ls hl => ?_)
  refine lv_goto (tgt := 7) hx hb dX0_rest_36 (by decide) ?_
  refine lv_iload_n hx hb dX0_rest_7 rfl (lv_at hl 0 rfl) ?_
  refine lv_iconst (v := 4) hx hb dX0_rest_8 (by decide) ?_
  refine lv_icmp_ge (tgt := 39) hx hb dX0_rest_9 (by decide) (fun c_1518 => absurd c_1518 (by decide)) (fun c_1518 => ?_)
  refine lv_aload_n hx hb dX0_rest_12 rfl (lv_at hl 1 rfl) ?_
  refine va_get (D := (dC, dI)) (ci := 5) (v := .ref pl) (C := RX0) (T := TX0) (N := 11) hx hb hts inX0 hown hK hP 0 rfl rfl 5 (by decide) (hts _ q158) (fun _ h9 => h9) rfl dX0_rest_13 ?_
  refine lv_iload_n hx hb dX0_rest_16 rfl (lv_at hl 0 rfl) ?_
  refine lv_lconst (v := 0) hx hb dX0_rest_17 (by decide) ?_
  refine va_last hx hb hK hP hD hS 1 0 rfl rfl (by unfold vp_in; decide) dX0_rest_18 (fun H locs hP hD hS => ?_)
  have hP : va_P (dC, dI) vwCl [(h, .inr (5, [.ref we, .ref to, .ref sp, .ref da, .ref cr, .ref pl, .ref sd, .ref pu, .ref pk, .int 1, .long 0])), (pl, .inl (cpl, 4, .inr (.inl (vp_updL f_1515 (2 : Int32).toNatClampNeg 0)))), (sd, .inl (csd, 4, .inr (.inl f_1516))), (pk, .inl (cpk, 4, .inl f_1517))] H := hP
  have hD : va_D A [(h, .inr (5, [.ref we, .ref to, .ref sp, .ref da, .ref cr, .ref pl, .ref sd, .ref pu, .ref pk, .int 1, .long 0])), (pl, .inl (cpl, 4, .inr (.inl (vp_updL f_1515 (2 : Int32).toNatClampNeg 0)))), (sd, .inl (csd, 4, .inr (.inl f_1516))), (pk, .inl (cpk, 4, .inl f_1517))] := hD
  generalize (vp_updL f_1515 (2 : Int32).toNatClampNeg 0) = f_1519 at hP hD
  refine lv_aload_n hx hb dX0_rest_19 rfl (lv_at hl 1 rfl) ?_
  refine va_get (D := (dC, dI)) (ci := 5) (v := .ref sd) (C := RX0) (T := TX0) (N := 11) hx hb hts inX0 hown hK hP 0 rfl rfl 6 (by decide) (hts _ q160) (fun _ h9 => h9) rfl dX0_rest_20 ?_
  refine lv_iload_n hx hb dX0_rest_23 rfl (lv_at hl 0 rfl) ?_
  refine lv_lconst (v := 0) hx hb dX0_rest_24 (by decide) ?_
  refine va_last hx hb hK hP hD hS 2 1 rfl rfl (by unfold vp_in; decide) dX0_rest_25 (fun H locs hP hD hS => ?_)
  have hP : va_P (dC, dI) vwCl [(h, .inr (5, [.ref we, .ref to, .ref sp, .ref da, .ref cr, .ref pl, .ref sd, .ref pu, .ref pk, .int 1, .long 0])), (pl, .inl (cpl, 4, .inr (.inl f_1519))), (sd, .inl (csd, 4, .inr (.inl (vp_updL f_1516 (2 : Int32).toNatClampNeg 0)))), (pk, .inl (cpk, 4, .inl f_1517))] H := hP
  have hD : va_D A [(h, .inr (5, [.ref we, .ref to, .ref sp, .ref da, .ref cr, .ref pl, .ref sd, .ref pu, .ref pk, .int 1, .long 0])), (pl, .inl (cpl, 4, .inr (.inl f_1519))), (sd, .inl (csd, 4, .inr (.inl (vp_updL f_1516 (2 : Int32).toNatClampNeg 0)))), (pk, .inl (cpk, 4, .inl f_1517))] := hD
  generalize (vp_updL f_1516 (2 : Int32).toNatClampNeg 0) = f_1520 at hP hD
  refine lv_aload_n hx hb dX0_rest_26 rfl (lv_at hl 1 rfl) ?_
  refine va_get (D := (dC, dI)) (ci := 5) (v := .ref pk) (C := RX0) (T := TX0) (N := 11) hx hb hts inX0 hown hK hP 0 rfl rfl 8 (by decide) (hts _ q162) (fun _ h9 => h9) rfl dX0_rest_27 ?_
  refine lv_iload_n hx hb dX0_rest_30 rfl (lv_at hl 0 rfl) ?_
  refine lv_iconst (v := 0) hx hb dX0_rest_31 (by decide) ?_
  refine va_iast hx hb hK hP hD hS 3 2 rfl rfl (by unfold vp_in; decide) dX0_rest_32 (fun H locs hP hD hS => ?_)
  have hP : va_P (dC, dI) vwCl [(h, .inr (5, [.ref we, .ref to, .ref sp, .ref da, .ref cr, .ref pl, .ref sd, .ref pu, .ref pk, .int 1, .long 0])), (pl, .inl (cpl, 4, .inr (.inl f_1519))), (sd, .inl (csd, 4, .inr (.inl f_1520))), (pk, .inl (cpk, 4, .inl (upd f_1517 (2 : Int32).toNatClampNeg 0)))] H := hP
  have hD : va_D A [(h, .inr (5, [.ref we, .ref to, .ref sp, .ref da, .ref cr, .ref pl, .ref sd, .ref pu, .ref pk, .int 1, .long 0])), (pl, .inl (cpl, 4, .inr (.inl f_1519))), (sd, .inl (csd, 4, .inr (.inl f_1520))), (pk, .inl (cpk, 4, .inl (upd f_1517 (2 : Int32).toNatClampNeg 0)))] := hD
  generalize (upd f_1517 (2 : Int32).toNatClampNeg 0) = f_1521 at hP hD
  refine lv_iinc (v := 3) (lv' := [(1, .int 3), (0, .ref h)]) hx hb dX0_rest_33 hl (k := 0) rfl (by decide) (by decide) rfl (fun ls hl => ?_)
  refine lv_goto (tgt := 7) hx hb dX0_rest_36 (by decide) ?_
  refine lv_iload_n hx hb dX0_rest_7 rfl (lv_at hl 0 rfl) ?_
  refine lv_iconst (v := 4) hx hb dX0_rest_8 (by decide) ?_
  refine lv_icmp_ge (tgt := 39) hx hb dX0_rest_9 (by decide) (fun c_1522 => absurd c_1522 (by decide)) (fun c_1522 => ?_)
  refine lv_aload_n hx hb dX0_rest_12 rfl (lv_at hl 1 rfl) ?_
  refine va_get (D := (dC, dI)) (ci := 5) (v := .ref pl) (C := RX0) (T := TX0) (N := 11) hx hb hts inX0 hown hK hP 0 rfl rfl 5 (by decide) (hts _ q158) (fun _ h9 => h9) rfl dX0_rest_13 ?_
  refine lv_iload_n hx hb dX0_rest_16 rfl (lv_at hl 0 rfl) ?_
  refine lv_lconst (v := 0) hx hb dX0_rest_17 (by decide) ?_
  refine va_last hx hb hK hP hD hS 1 0 rfl rfl (by unfold vp_in; decide) dX0_rest_18 (fun H locs hP hD hS => ?_)
  have hP : va_P (dC, dI) vwCl [(h, .inr (5, [.ref we, .ref to, .ref sp, .ref da, .ref cr, .ref pl, .ref sd, .ref pu, .ref pk, .int 1, .long 0])), (pl, .inl (cpl, 4, .inr (.inl (vp_updL f_1519 (3 : Int32).toNatClampNeg 0)))), (sd, .inl (csd, 4, .inr (.inl f_1520))), (pk, .inl (cpk, 4, .inl f_1521))] H := hP
  have hD : va_D A [(h, .inr (5, [.ref we, .ref to, .ref sp, .ref da, .ref cr, .ref pl, .ref sd, .ref pu, .ref pk, .int 1, .long 0])), (pl, .inl (cpl, 4, .inr (.inl (vp_updL f_1519 (3 : Int32).toNatClampNeg 0)))), (sd, .inl (csd, 4, .inr (.inl f_1520))), (pk, .inl (cpk, 4, .inl f_1521))] := hD
  generalize (vp_updL f_1519 (3 : Int32).toNatClampNeg 0) = f_1523 at hP hD
  refine lv_aload_n hx hb dX0_rest_19 rfl (lv_at hl 1 rfl) ?_
  refine va_get (D := (dC, dI)) (ci := 5) (v := .ref sd) (C := RX0) (T := TX0) (N := 11) hx hb hts inX0 hown hK hP 0 rfl rfl 6 (by decide) (hts _ q160) (fun _ h9 => h9) rfl dX0_rest_20 ?_
  refine lv_iload_n hx hb dX0_rest_23 rfl (lv_at hl 0 rfl) ?_
  refine lv_lconst (v := 0) hx hb dX0_rest_24 (by decide) ?_
  refine va_last hx hb hK hP hD hS 2 1 rfl rfl (by unfold vp_in; decide) dX0_rest_25 (fun H locs hP hD hS => ?_)
  have hP : va_P (dC, dI) vwCl [(h, .inr (5, [.ref we, .ref to, .ref sp, .ref da, .ref cr, .ref pl, .ref sd, .ref pu, .ref pk, .int 1, .long 0])), (pl, .inl (cpl, 4, .inr (.inl f_1523))), (sd, .inl (csd, 4, .inr (.inl (vp_updL f_1520 (3 : Int32).toNatClampNeg 0)))), (pk, .inl (cpk, 4, .inl f_1521))] H := hP
  have hD : va_D A [(h, .inr (5, [.ref we, .ref to, .ref sp, .ref da, .ref cr, .ref pl, .ref sd, .ref pu, .ref pk, .int 1, .long 0])), (pl, .inl (cpl, 4, .inr (.inl f_1523))), (sd, .inl (csd, 4, .inr (.inl (vp_updL f_1520 (3 : Int32).toNatClampNeg 0)))), (pk, .inl (cpk, 4, .inl f_1521))] := hD
  generalize (vp_updL f_1520 (3 : Int32).toNatClampNeg 0) = f_1524 at hP hD
  refine lv_aload_n hx hb dX0_rest_26 rfl (lv_at hl 1 rfl) ?_
  refine va_get (D := (dC, dI)) (ci := 5) (v := .ref pk) (C := RX0) (T := TX0) (N := 11) hx hb hts inX0 hown hK hP 0 rfl rfl 8 (by decide) (hts _ q162) (fun _ h9 => h9) rfl dX0_rest_27 ?_
  refine lv_iload_n hx hb dX0_rest_30 rfl (lv_at hl 0 rfl) ?_
  refine lv_iconst (v := 0) hx hb dX0_rest_31 (by decide) ?_
  refine va_iast hx hb hK hP hD hS 3 2 rfl rfl (by unfold vp_in; decide) dX0_rest_32 (fun H locs hP hD hS => ?_)
  have hP : va_P (dC, dI) vwCl [(h, .inr (5, [.ref we, .ref to, .ref sp, .ref da, .ref cr, .ref pl, .ref sd, .ref pu, .ref pk, .int 1, .long 0])), (pl, .inl (cpl, 4, .inr (.inl f_1523))), (sd, .inl (csd, 4, .inr (.inl f_1524))), (pk, .inl (cpk, 4, .inl (upd f_1521 (3 : Int32).toNatClampNeg 0)))] H := hP
  have hD : va_D A [(h, .inr (5, [.ref we, .ref to, .ref sp, .ref da, .ref cr, .ref pl, .ref sd, .ref pu, .ref pk, .int 1, .long 0])), (pl, .inl (cpl, 4, .inr (.inl f_1523))), (sd, .inl (csd, 4, .inr (.inl f_1524))), (pk, .inl (cpk, 4, .inl (upd f_1521 (3 : Int32).toNatClampNeg 0)))] := hD
  generalize (upd f_1521 (3 : Int32).toNatClampNeg 0) = f_1525 at hP hD
  refine lv_iinc (v := 4) (lv' := [(1, .int 4), (0, .ref h)]) hx hb dX0_rest_33 hl (k := 0) rfl (by decide) (by decide) rfl (fun ls hl => ?_)
  refine lv_goto (tgt := 7) hx hb dX0_rest_36 (by decide) ?_
  refine lv_iload_n hx hb dX0_rest_7 rfl (lv_at hl 0 rfl) ?_
  refine lv_iconst (v := 4) hx hb dX0_rest_8 (by decide) ?_
  refine lv_icmp_ge (tgt := 39) hx hb dX0_rest_9 (by decide) (fun c_1526 => ?_) (fun c_1526 => absurd (by decide) c_1526)
  have hP9 := hP.sub (ws' := [(h, .inr (5, [.ref we, .ref to, .ref sp, .ref da, .ref cr, .ref pl, .ref sd, .ref pu, .ref pk, .int 1, .long 0])), (pl, .inl (cpl, 4, .inr (.inl f_1523))), (sd, .inl (csd, 4, .inr (.inl f_1524))), (pk, .inl (cpk, 4, .inl f_1525))]) [0, 1, 2, 3] rfl
  have hD9 := hD.sub (ws' := [(h, .inr (5, [.ref we, .ref to, .ref sp, .ref da, .ref cr, .ref pl, .ref sd, .ref pu, .ref pk, .int 1, .long 0])), (pl, .inl (cpl, 4, .inr (.inl f_1523))), (sd, .inl (csd, 4, .inr (.inl f_1524))), (pk, .inl (cpk, 4, .inl f_1525))]) [0, 1, 2, 3] (by decide) rfl
  have hK9 := hK.sub (tys' := [(cpl, .long), (csd, .long), (cpk, .int)]) [0, 1, 2] rfl
  refine W.widen (k := 0) (n := 0) (Nat.le_of_ble_eq_true rfl) (Nat.le_of_ble_eq_true rfl) ?_
  exact W.vret hx hb hr (fun t ht hW => ⟨⟨(), rfl, trivial, ⟨f_1523, f_1524, f_1525, by rw [ht]; exact hP9, va_K.moved hW.alike hK9, hD9⟩⟩, hS.F ht⟩) hS.2.2 dX0_rest_39
set_option maxHeartbeats 4000000 in
set_option maxRecDepth 100000 in
theorem r_pullAll (l : Launch) (dC : Nat → ClassId) (dI : Nat → Nat → Nat) (sz : Nat) (h : Nat) (we : Nat) (to : Nat) (sp : Nat) (da : Nat) (cr : Nat) (pl : Nat) (sd : Nat) (pu : Nat) (pk : Nat) (csp : ClassId) (cpl : ClassId) (cda : ClassId) (csd : ClassId) (cpu : ClassId) (fsp : Nat → Int32) (fpl : Nat → Int64) (fda : Nat → Int32) (fsd : Nat → Int64) (fpu : Nat → Int64) (tb : Int64) (p0 : Int64) (p1 : Int64) : Met l yX0_pullAll (pw_ws yX0_pullAll cX0_pullAll 10 none) ({ frames := 1, cells := 0, slots := 0, locals := 20 } : Room) (va_Pc [.ref h, .long p0, .long p1] (fun U => U.heap.size = sz ∧ va_P (dC, dI) vwCl [(h, .inr (5, [.ref we, .ref to, .ref sp, .ref da, .ref cr, .ref pl, .ref sd, .ref pu, .ref pk, .int 1, .long tb])), (sp, .inl (csp, 4, .inl fsp)), (pl, .inl (cpl, 4, .inr (.inl fpl))), (da, .inl (cda, 4, .inl fda)), (sd, .inl (csd, 4, .inr (.inl fsd))), (pu, .inl (cpu, 4, .inr (.inl fpu)))] U.heap ∧ va_K (dC, dI) vwCl [(csp, .int), (cpl, .long), (cda, .int), (csd, .long), (cpu, .long)] U ∧ va_D (fun _ => True) [(h, .inr (5, [.ref we, .ref to, .ref sp, .ref da, .ref cr, .ref pl, .ref sd, .ref pu, .ref pk, .int 1, .long tb])), (sp, .inl (csp, 4, .inl fsp)), (pl, .inl (cpl, 4, .inr (.inl fpl))), (da, .inl (cda, 4, .inl fda)), (sd, .inl (csd, 4, .inr (.inl fsd))), (pu, .inl (cpu, 4, .inr (.inl fpu)))])) (va_Qv (fun (_ : Unit) => True) (fun (_ : Unit) (t : State) => ∃ (gpu : Nat → Int64), va_P (dC, dI) vwCl [(h, .inr (5, [.ref we, .ref to, .ref sp, .ref da, .ref cr, .ref pl, .ref sd, .ref pu, .ref pk, .int 1, .long tb])), (sp, .inl (csp, 4, .inl fsp)), (pl, .inl (cpl, 4, .inr (.inl fpl))), (da, .inl (cda, 4, .inl fda)), (sd, .inl (csd, 4, .inr (.inl fsd))), (pu, .inl (cpu, 4, .inr (.inl gpu)))] t.heap ∧ va_K (dC, dI) vwCl [(csp, .int), (cpl, .long), (cda, .int), (csd, .long), (cpu, .long)] t ∧ va_D (va_A [(h, .inr (5, [.ref we, .ref to, .ref sp, .ref da, .ref cr, .ref pl, .ref sd, .ref pu, .ref pk, .int 1, .long tb])), (sp, .inl (csp, 4, .inl fsp)), (pl, .inl (cpl, 4, .inr (.inl fpl))), (da, .inl (cda, 4, .inl fda)), (sd, .inl (csd, 4, .inr (.inl fsd))), (pu, .inl (cpu, 4, .inr (.inl fpu)))] sz) [(h, .inr (5, [.ref we, .ref to, .ref sp, .ref da, .ref cr, .ref pl, .ref sd, .ref pu, .ref pk, .int 1, .long tb])), (sp, .inl (csp, 4, .inl fsp)), (pl, .inl (cpl, 4, .inr (.inl fpl))), (da, .inl (cda, 4, .inl fda)), (sd, .inl (csd, 4, .inr (.inl fsd))), (pu, .inl (cpu, 4, .inr (.inl gpu)))]) (va_A [(h, .inr (5, [.ref we, .ref to, .ref sp, .ref da, .ref cr, .ref pl, .ref sd, .ref pu, .ref pk, .int 1, .long tb])), (sp, .inl (csp, 4, .inl fsp)), (pl, .inl (cpl, 4, .inr (.inl fpl))), (da, .inl (cda, 4, .inl fda)), (sd, .inl (csd, 4, .inr (.inl fsd))), (pu, .inl (cpu, 4, .inr (.inl fpu)))] sz)) 0 0 (va_A [(h, .inr (5, [.ref we, .ref to, .ref sp, .ref da, .ref cr, .ref pl, .ref sd, .ref pu, .ref pk, .int 1, .long tb])), (sp, .inl (csp, 4, .inl fsp)), (pl, .inl (cpl, 4, .inr (.inl fpl))), (da, .inl (cda, 4, .inl fda)), (sd, .inl (csd, 4, .inr (.inl fsd))), (pu, .inl (cpu, 4, .inr (.inl fpu)))] sz) := by
  refine Met.ofW (cc := cX0_pullAll) (maxL := 10) (ret := none) (by decide) rfl ?_
  intro p e s m args below meth c s₁ B hml hv
  obtain ⟨rfl, hsz, hP, hK, hD0⟩ := hv
  have hx := B.exec
  have hb := B.bytes
  have hr := B.returns
  have hts0 := atoms_spec (ws := (pw_ws yX0_pullAll cX0_pullAll 10 none)) B.pre
  have hts : ∀ w ∈ pw_all, w.before _ s = true := fun w h => hts0 w (List.mem_cons_of_mem _ h)
  have hown : s.vm.findClass RX0 = some m.cls := findClass_of_methodNamed B.named
  have hlocks := B.notSynchronized
  subst hsz
  have hD := hD0.self (sz := s.heap.size)
  generalize hAe : va_A [(h, .inr (5, [.ref we, .ref to, .ref sp, .ref da, .ref cr, .ref pl, .ref sd, .ref pu, .ref pk, .int 1, .long tb])), (sp, .inl (csp, 4, .inl fsp)), (pl, .inl (cpl, 4, .inr (.inl fpl))), (da, .inl (cda, 4, .inl fda)), (sd, .inl (csd, 4, .inr (.inl fsd))), (pu, .inl (cpu, 4, .inr (.inl fpu)))] s.heap.size = A at hD ⊢
  have hA : ∀ q : Nat, s.heap.size ≤ q → A q := fun q h => by rw [← hAe]; exact Or.inr h
  have hS : va_S A s.heap s.heap [] := va_S.rf
  have hP : va_P (dC, dI) vwCl [(h, .inr (5, [.ref we, .ref to, .ref sp, .ref da, .ref cr, .ref pl, .ref sd, .ref pu, .ref pk, .int 1, .long tb])), (sp, .inl (csp, 4, .inl fsp)), (pl, .inl (cpl, 4, .inr (.inl fpl))), (da, .inl (cda, 4, .inl fda)), (sd, .inl (csd, 4, .inr (.inl fsd))), (pu, .inl (cpu, 4, .inr (.inl fpu)))] s.heap := hP
  have hl := lv_entry ([.ref h, .long p0, .long p1]) (n := 10) (Nat.le_of_ble_eq_true rfl)
  rw [lg_entry_eq]
  generalize (lg_sl ([.ref h, .long p0, .long p1]) ++ List.replicate (10 - (lg_sl ([.ref h, .long p0, .long p1])).length) Slot.unset).toArray = ls at hl ⊢
  have hl : lv_has ls 10 [(0, .ref h), (1, .long p0), (3, .long p1)] := hl
  skip
  refine lv_lload_n hx hb dX0_pullAll_0 rfl (lv_at hl 1 rfl) ?_
  refine lv_lstore (lv' := [(5, .long p0), (0, .ref h), (1, .long p0), (3, .long p1)]) hx hb dX0_pullAll_1 hl (by decide) rfl (fun ls hl => ?_)
  refine lv_lload_n hx hb dX0_pullAll_3 rfl (lv_at hl 3 rfl) ?_
  refine lv_lstore (lv' := [(7, .long p1), (5, .long p0), (0, .ref h), (1, .long p0), (3, .long p1)]) hx hb dX0_pullAll_4 hl (by decide) rfl (fun ls hl => ?_)
  refine lv_iconst (v := 0) hx hb dX0_pullAll_6 (by decide) ?_
  refine lv_istore (lv' := [(9, .int 0), (7, .long p1), (5, .long p0), (0, .ref h), (1, .long p0), (3, .long p1)]) hx hb dX0_pullAll_7 hl (by decide) rfl (fun ls hl => ?_)
  refine lv_iload hx hb dX0_pullAll_9 (lv_at hl 0 rfl) ?_
  refine lv_aload_n hx hb dX0_pullAll_11 rfl (lv_at hl 3 rfl) ?_
  refine va_get (D := (dC, dI)) (ci := 5) (v := .int 1) (C := RX0) (T := TX0) (N := 11) hx hb hts inX0 hown hK hP 0 rfl rfl 9 (by decide) (hts _ q165) (fun _ h9 => h9) rfl dX0_pullAll_12 ?_
  refine lv_icmp_ge (tgt := 88) hx hb dX0_pullAll_15 (by decide) (fun c_1527 => absurd c_1527 (by decide)) (fun c_1527 => ?_)
  refine lv_aload_n hx hb dX0_pullAll_18 rfl (lv_at hl 3 rfl) ?_
  refine va_get (D := (dC, dI)) (ci := 5) (v := .ref pu) (C := RX0) (T := TX0) (N := 11) hx hb hts inX0 hown hK hP 0 rfl rfl 7 (by decide) (hts _ q161) (fun _ h9 => h9) rfl dX0_pullAll_19 ?_
  refine lv_iload hx hb dX0_pullAll_22 (lv_at hl 0 rfl) ?_
  refine lv_aload_n hx hb dX0_pullAll_24 rfl (lv_at hl 3 rfl) ?_
  refine va_get (D := (dC, dI)) (ci := 5) (v := .ref sp) (C := RX0) (T := TX0) (N := 11) hx hb hts inX0 hown hK hP 0 rfl rfl 2 (by decide) (hts _ q152) (fun _ h9 => h9) rfl dX0_pullAll_25 ?_
  refine lv_iload hx hb dX0_pullAll_28 (lv_at hl 0 rfl) ?_
  refine va_iald hx hb hK hP 1 0 rfl rfl (by unfold vp_in; decide) dX0_pullAll_30 ?_
  refine lv_topi (fun x_1528 ex_1528 => ?_)
  refine lv_i2l hx hb dX0_pullAll_31 rfl ?_
  refine lv_topl (fun x_1529 ex_1529 => ?_)
  refine lv_lload hx hb dX0_pullAll_32 (lv_at hl 2 rfl) ?_
  refine lv_aload_n hx hb dX0_pullAll_34 rfl (lv_at hl 3 rfl) ?_
  refine va_get (D := (dC, dI)) (ci := 5) (v := .ref pl) (C := RX0) (T := TX0) (N := 11) hx hb hts inX0 hown hK hP 0 rfl rfl 5 (by decide) (hts _ q158) (fun _ h9 => h9) rfl dX0_pullAll_35 ?_
  refine lv_iload hx hb dX0_pullAll_38 (lv_at hl 0 rfl) ?_
  refine va_lald hx hb hK hP 2 1 rfl rfl (by unfold vp_in; decide) dX0_pullAll_40 ?_
  refine lv_topl (fun x_1530 ex_1530 => ?_)
  refine lv_lsub hx hb dX0_pullAll_41 ?_
  refine lv_topl (fun x_1531 ex_1531 => ?_)
  refine lv_lmul hx hb dX0_pullAll_42 ?_
  refine lv_topl (fun x_1532 ex_1532 => ?_)
  refine lv_aload_n hx hb dX0_pullAll_43 rfl (lv_at hl 3 rfl) ?_
  refine va_get (D := (dC, dI)) (ci := 5) (v := .ref da) (C := RX0) (T := TX0) (N := 11) hx hb hts inX0 hown hK hP 0 rfl rfl 3 (by decide) (hts _ q154) (fun _ h9 => h9) rfl dX0_pullAll_44 ?_
  refine lv_iload hx hb dX0_pullAll_47 (lv_at hl 0 rfl) ?_
  refine va_iald hx hb hK hP 3 2 rfl rfl (by unfold vp_in; decide) dX0_pullAll_49 ?_
  refine lv_topi (fun x_1533 ex_1533 => ?_)
  refine lv_i2l hx hb dX0_pullAll_50 rfl ?_
  refine lv_topl (fun x_1534 ex_1534 => ?_)
  refine lv_lload hx hb dX0_pullAll_51 (lv_at hl 1 rfl) ?_
  refine lv_aload_n hx hb dX0_pullAll_53 rfl (lv_at hl 3 rfl) ?_
  refine va_get (D := (dC, dI)) (ci := 5) (v := .ref sd) (C := RX0) (T := TX0) (N := 11) hx hb hts inX0 hown hK hP 0 rfl rfl 6 (by decide) (hts _ q160) (fun _ h9 => h9) rfl dX0_pullAll_54 ?_
  refine lv_iload hx hb dX0_pullAll_57 (lv_at hl 0 rfl) ?_
  refine va_lald hx hb hK hP 4 3 rfl rfl (by unfold vp_in; decide) dX0_pullAll_59 ?_
  refine lv_topl (fun x_1535 ex_1535 => ?_)
  refine lv_lsub hx hb dX0_pullAll_60 ?_
  refine lv_topl (fun x_1536 ex_1536 => ?_)
  refine lv_lmul hx hb dX0_pullAll_61 ?_
  refine lv_topl (fun x_1537 ex_1537 => ?_)
  refine lv_ladd hx hb dX0_pullAll_62 ?_
  refine lv_topl (fun x_1538 ex_1538 => ?_)
  refine va_last hx hb hK hP hD hS 5 4 rfl rfl (by unfold vp_in; decide) dX0_pullAll_63 (fun H locs hP hD hS => ?_)
  have hP : va_P (dC, dI) vwCl [(h, .inr (5, [.ref we, .ref to, .ref sp, .ref da, .ref cr, .ref pl, .ref sd, .ref pu, .ref pk, .int 1, .long tb])), (sp, .inl (csp, 4, .inl fsp)), (pl, .inl (cpl, 4, .inr (.inl fpl))), (da, .inl (cda, 4, .inl fda)), (sd, .inl (csd, 4, .inr (.inl fsd))), (pu, .inl (cpu, 4, .inr (.inl (vp_updL fpu (0 : Int32).toNatClampNeg x_1538))))] H := hP
  have hD : va_D A [(h, .inr (5, [.ref we, .ref to, .ref sp, .ref da, .ref cr, .ref pl, .ref sd, .ref pu, .ref pk, .int 1, .long tb])), (sp, .inl (csp, 4, .inl fsp)), (pl, .inl (cpl, 4, .inr (.inl fpl))), (da, .inl (cda, 4, .inl fda)), (sd, .inl (csd, 4, .inr (.inl fsd))), (pu, .inl (cpu, 4, .inr (.inl (vp_updL fpu (0 : Int32).toNatClampNeg x_1538))))] := hD
  generalize (vp_updL fpu (0 : Int32).toNatClampNeg x_1538) = f_1539 at hP hD
  refine lv_aload_n hx hb dX0_pullAll_64 rfl (lv_at hl 3 rfl) ?_
  refine va_get (D := (dC, dI)) (ci := 5) (v := .ref pl) (C := RX0) (T := TX0) (N := 11) hx hb hts inX0 hown hK hP 0 rfl rfl 5 (by decide) (hts _ q158) (fun _ h9 => h9) rfl dX0_pullAll_65 ?_
  refine lv_iload hx hb dX0_pullAll_68 (lv_at hl 0 rfl) ?_
  refine va_lald hx hb hK hP 2 1 rfl rfl (by unfold vp_in; decide) dX0_pullAll_70 ?_
  refine lv_topl (fun x_1540 ex_1540 => ?_)
  refine lv_lstore (lv' := [(5, .long x_1540), (9, .int 0), (7, .long p1), (0, .ref h), (1, .long p0), (3, .long p1)]) hx hb dX0_pullAll_71 hl (by decide) rfl (fun ls hl => ?_)
  refine lv_aload_n hx hb dX0_pullAll_73 rfl (lv_at hl 3 rfl) ?_
  refine va_get (D := (dC, dI)) (ci := 5) (v := .ref sd) (C := RX0) (T := TX0) (N := 11) hx hb hts inX0 hown hK hP 0 rfl rfl 6 (by decide) (hts _ q160) (fun _ h9 => h9) rfl dX0_pullAll_74 ?_
  refine lv_iload hx hb dX0_pullAll_77 (lv_at hl 1 rfl) ?_
  refine va_lald hx hb hK hP 4 3 rfl rfl (by unfold vp_in; decide) dX0_pullAll_79 ?_
  refine lv_topl (fun x_1541 ex_1541 => ?_)
  refine lv_lstore (lv' := [(7, .long x_1541), (5, .long x_1540), (9, .int 0), (0, .ref h), (1, .long p0), (3, .long p1)]) hx hb dX0_pullAll_80 hl (by decide) rfl (fun ls hl => ?_)
  refine lv_iinc (v := 1) (lv' := [(9, .int 1), (7, .long x_1541), (5, .long x_1540), (0, .ref h), (1, .long p0), (3, .long p1)]) hx hb dX0_pullAll_82 hl (k := 2) rfl (by decide) (by decide) rfl (fun ls hl => ?_)
  refine lv_goto (tgt := 9) hx hb dX0_pullAll_85 (by decide) ?_
  refine lv_iload hx hb dX0_pullAll_9 (lv_at hl 0 rfl) ?_
  refine lv_aload_n hx hb dX0_pullAll_11 rfl (lv_at hl 3 rfl) ?_
  refine va_get (D := (dC, dI)) (ci := 5) (v := .int 1) (C := RX0) (T := TX0) (N := 11) hx hb hts inX0 hown hK hP 0 rfl rfl 9 (by decide) (hts _ q165) (fun _ h9 => h9) rfl dX0_pullAll_12 ?_
  refine lv_icmp_ge (tgt := 88) hx hb dX0_pullAll_15 (by decide) (fun c_1542 => ?_) (fun c_1542 => absurd (by decide) c_1542)
  have hP9 := hP.sub (ws' := [(h, .inr (5, [.ref we, .ref to, .ref sp, .ref da, .ref cr, .ref pl, .ref sd, .ref pu, .ref pk, .int 1, .long tb])), (sp, .inl (csp, 4, .inl fsp)), (pl, .inl (cpl, 4, .inr (.inl fpl))), (da, .inl (cda, 4, .inl fda)), (sd, .inl (csd, 4, .inr (.inl fsd))), (pu, .inl (cpu, 4, .inr (.inl f_1539)))]) [0, 1, 2, 3, 4, 5] rfl
  have hD9 := hD.sub (ws' := [(h, .inr (5, [.ref we, .ref to, .ref sp, .ref da, .ref cr, .ref pl, .ref sd, .ref pu, .ref pk, .int 1, .long tb])), (sp, .inl (csp, 4, .inl fsp)), (pl, .inl (cpl, 4, .inr (.inl fpl))), (da, .inl (cda, 4, .inl fda)), (sd, .inl (csd, 4, .inr (.inl fsd))), (pu, .inl (cpu, 4, .inr (.inl f_1539)))]) [0, 1, 2, 3, 4, 5] (by decide) rfl
  have hK9 := hK.sub (tys' := [(csp, .int), (cpl, .long), (cda, .int), (csd, .long), (cpu, .long)]) [0, 1, 2, 3, 4] rfl
  refine W.widen (k := 0) (n := 0) (Nat.le_of_ble_eq_true rfl) (Nat.le_of_ble_eq_true rfl) ?_
  exact W.vret hx hb hr (fun t ht hW => ⟨⟨(), rfl, trivial, ⟨f_1539, by rw [ht]; exact hP9, va_K.moved hW.alike hK9, hD9⟩⟩, hS.F ht⟩) hS.2.2 dX0_pullAll_88
set_option maxHeartbeats 4000000 in
set_option maxRecDepth 100000 in
theorem r_within (l : Launch) (dC : Nat → ClassId) (dI : Nat → Nat → Nat) (sz : Nat) (p0 : Int64) : Met l yX0_within (pw_ws yX0_within cX0_within 2 (some .long)) ({ frames := 1, cells := 0, slots := 0, locals := 20 } : Room) (va_Pc [.long p0] (fun U => U.heap.size = sz ∧ va_P (dC, dI) vwCl [] U.heap ∧ va_K (dC, dI) vwCl [] U ∧ va_D (fun _ => True) [])) (va_Ql (fun (_ : Int64) (_ : Unit) => True) (fun (_ : Unit) (t : State) => va_P (dC, dI) vwCl [] t.heap ∧ va_K (dC, dI) vwCl [] t ∧ va_D (va_A [] sz) []) (va_A [] sz)) 0 0 (va_A [] sz) := by
  refine Met.ofW (cc := cX0_within) (maxL := 2) (ret := (some .long)) (by decide) rfl ?_
  intro p e s m args below meth c s₁ B hml hv
  obtain ⟨rfl, hsz, hP, hK, hD0⟩ := hv
  have hx := B.exec
  have hb := B.bytes
  have hr := B.returns
  have hts0 := atoms_spec (ws := (pw_ws yX0_within cX0_within 2 (some .long))) B.pre
  have hts : ∀ w ∈ pw_all, w.before _ s = true := fun w h => hts0 w (List.mem_cons_of_mem _ h)
  have hown : s.vm.findClass RX0 = some m.cls := findClass_of_methodNamed B.named
  have hlocks := B.notSynchronized
  subst hsz
  have hD := hD0.self (sz := s.heap.size)
  generalize hAe : va_A [] s.heap.size = A at hD ⊢
  have hA : ∀ q : Nat, s.heap.size ≤ q → A q := fun q h => by rw [← hAe]; exact Or.inr h
  have hS : va_S A s.heap s.heap [] := va_S.rf
  have hP : va_P (dC, dI) vwCl [] s.heap := hP
  have hl := lv_entry ([.long p0]) (n := 2) (Nat.le_of_ble_eq_true rfl)
  rw [lg_entry_eq]
  generalize (lg_sl ([.long p0]) ++ List.replicate (2 - (lg_sl ([.long p0])).length) Slot.unset).toArray = ls at hl ⊢
  have hl : lv_has ls 2 [(0, .long p0)] := hl
  skip
  refine lv_lload_n hx hb dX0_within_0 rfl (lv_at hl 0 rfl) ?_
  refine lv_ldc2 (v := 1000000) hx hb hown (hts _ q609) dX0_within_1 ?_
  refine W.lcmp hx hb dX0_within_4 ?_
  refine lv_topi (fun x_1543 ex_1543 => ?_)
  refine lv_if_le (tgt := 12) hx hb dX0_within_5 (by decide) (fun c_1544 => ?_) (fun c_1544 => ?_)
  · skip
    refine lv_lload_n hx hb dX0_within_12 rfl (lv_at hl 0 rfl) ?_
    refine lv_ldc2 (v := -1000000) hx hb hown (hts _ q610) dX0_within_13 ?_
    refine W.lcmp hx hb dX0_within_16 ?_
    refine lv_topi (fun x_1545 ex_1545 => ?_)
    refine lv_if_ge (tgt := 26) hx hb dX0_within_17 (by decide) (fun c_1546 => ?_) (fun c_1546 => ?_)
    · skip
      refine lv_lload_n hx hb dX0_within_26 rfl (lv_at hl 0 rfl) ?_
      have hP9 := hP.sub (ws' := []) [] rfl
      have hD9 := hD.sub (ws' := []) [] (by decide) rfl
      have hK9 := hK.sub (tys' := []) [] rfl
      refine W.widen (k := 0) (n := 0) (Nat.le_of_ble_eq_true rfl) (Nat.le_of_ble_eq_true rfl) ?_
      exact W.lret (v := p0) hx hb hr (fun t ht hW => ⟨⟨p0, (), rfl, trivial, ⟨by rw [ht]; exact hP9, va_K.moved hW.alike hK9, hD9⟩⟩, hS.F ht⟩) hS.2.2 dX0_within_27
    · skip
      refine lv_ldc2 (v := -1000000) hx hb hown (hts _ q610) dX0_within_20 ?_
      refine lv_goto (tgt := 27) hx hb dX0_within_23 (by decide) ?_
      have hP9 := hP.sub (ws' := []) [] rfl
      have hD9 := hD.sub (ws' := []) [] (by decide) rfl
      have hK9 := hK.sub (tys' := []) [] rfl
      refine W.widen (k := 0) (n := 0) (Nat.le_of_ble_eq_true rfl) (Nat.le_of_ble_eq_true rfl) ?_
      exact W.lret (v := -1000000) hx hb hr (fun t ht hW => ⟨⟨-1000000, (), rfl, trivial, ⟨by rw [ht]; exact hP9, va_K.moved hW.alike hK9, hD9⟩⟩, hS.F ht⟩) hS.2.2 dX0_within_27
  · skip
    refine lv_ldc2 (v := 1000000) hx hb hown (hts _ q609) dX0_within_8 ?_
    have hP9 := hP.sub (ws' := []) [] rfl
    have hD9 := hD.sub (ws' := []) [] (by decide) rfl
    have hK9 := hK.sub (tys' := []) [] rfl
    refine W.widen (k := 0) (n := 0) (Nat.le_of_ble_eq_true rfl) (Nat.le_of_ble_eq_true rfl) ?_
    exact W.lret (v := 1000000) hx hb hr (fun t ht hW => ⟨⟨1000000, (), rfl, trivial, ⟨by rw [ht]; exact hP9, va_K.moved hW.alike hK9, hD9⟩⟩, hS.F ht⟩) hS.2.2 dX0_within_11
set_option maxHeartbeats 4000000 in
set_option maxRecDepth 100000 in
theorem r_stepTo (l : Launch) (dC : Nat → ClassId) (dI : Nat → Nat → Nat) (sz : Nat) (h : Nat) (we : Nat) (to : Nat) (sp : Nat) (da : Nat) (cr : Nat) (pl : Nat) (sd : Nat) (pu : Nat) (pk : Nat) (cwe : ClassId) (csp : ClassId) (cda : ClassId) (cpl : ClassId) (csd : ClassId) (cpu : ClassId) (cpk : ClassId) (fsp : Nat → Int32) (fda : Nat → Int32) (fpl : Nat → Int64) (fsd : Nat → Int64) (fpu : Nat → Int64) (fpk : Nat → Int32) (tb : Int64) (p0 : Int32) : Met l yX0_stepTo (pw_ws yX0_stepTo cX0_stepTo 7 none) ({ frames := 2, cells := 0, slots := 0, locals := 60 } : Room) (va_Pc [.ref h, .int p0] (fun U => U.heap.size = sz ∧ va_P (dC, dI) vwCl [(h, .inr (5, [.ref we, .ref to, .ref sp, .ref da, .ref cr, .ref pl, .ref sd, .ref pu, .ref pk, .int 1, .long tb])), (we, .inl (cwe, 4, .inl (upd (fun _ => 0) 0 1))), (sp, .inl (csp, 4, .inl fsp)), (da, .inl (cda, 4, .inl fda)), (pl, .inl (cpl, 4, .inr (.inl fpl))), (sd, .inl (csd, 4, .inr (.inl fsd))), (pu, .inl (cpu, 4, .inr (.inl fpu))), (pk, .inl (cpk, 4, .inl fpk))] U.heap ∧ va_K (dC, dI) vwCl [(cwe, .int), (csp, .int), (cda, .int), (cpl, .long), (csd, .long), (cpu, .long), (cpk, .int)] U ∧ va_D (fun _ => True) [(h, .inr (5, [.ref we, .ref to, .ref sp, .ref da, .ref cr, .ref pl, .ref sd, .ref pu, .ref pk, .int 1, .long tb])), (we, .inl (cwe, 4, .inl (upd (fun _ => 0) 0 1))), (sp, .inl (csp, 4, .inl fsp)), (da, .inl (cda, 4, .inl fda)), (pl, .inl (cpl, 4, .inr (.inl fpl))), (sd, .inl (csd, 4, .inr (.inl fsd))), (pu, .inl (cpu, 4, .inr (.inl fpu))), (pk, .inl (cpk, 4, .inl fpk))])) (va_Qv (fun (_ : Unit) => True) (fun (_ : Unit) (t : State) => ∃ (gpl : Nat → Int64), ∃ (gsd : Nat → Int64), ∃ (gpu : Nat → Int64), ∃ (gpk : Nat → Int32), ∃ (tb2 : Int64), va_P (dC, dI) vwCl [(h, .inr (5, [.ref we, .ref to, .ref sp, .ref da, .ref cr, .ref pl, .ref sd, .ref pu, .ref pk, .int 1, .long tb2])), (we, .inl (cwe, 4, .inl (upd (fun _ => 0) 0 1))), (sp, .inl (csp, 4, .inl fsp)), (da, .inl (cda, 4, .inl fda)), (pl, .inl (cpl, 4, .inr (.inl gpl))), (sd, .inl (csd, 4, .inr (.inl gsd))), (pu, .inl (cpu, 4, .inr (.inl gpu))), (pk, .inl (cpk, 4, .inl gpk))] t.heap ∧ va_K (dC, dI) vwCl [(cwe, .int), (csp, .int), (cda, .int), (cpl, .long), (csd, .long), (cpu, .long), (cpk, .int)] t ∧ va_D (va_A [(h, .inr (5, [.ref we, .ref to, .ref sp, .ref da, .ref cr, .ref pl, .ref sd, .ref pu, .ref pk, .int 1, .long tb])), (we, .inl (cwe, 4, .inl (upd (fun _ => 0) 0 1))), (sp, .inl (csp, 4, .inl fsp)), (da, .inl (cda, 4, .inl fda)), (pl, .inl (cpl, 4, .inr (.inl fpl))), (sd, .inl (csd, 4, .inr (.inl fsd))), (pu, .inl (cpu, 4, .inr (.inl fpu))), (pk, .inl (cpk, 4, .inl fpk))] sz) [(h, .inr (5, [.ref we, .ref to, .ref sp, .ref da, .ref cr, .ref pl, .ref sd, .ref pu, .ref pk, .int 1, .long tb2])), (we, .inl (cwe, 4, .inl (upd (fun _ => 0) 0 1))), (sp, .inl (csp, 4, .inl fsp)), (da, .inl (cda, 4, .inl fda)), (pl, .inl (cpl, 4, .inr (.inl gpl))), (sd, .inl (csd, 4, .inr (.inl gsd))), (pu, .inl (cpu, 4, .inr (.inl gpu))), (pk, .inl (cpk, 4, .inl gpk))]) (va_A [(h, .inr (5, [.ref we, .ref to, .ref sp, .ref da, .ref cr, .ref pl, .ref sd, .ref pu, .ref pk, .int 1, .long tb])), (we, .inl (cwe, 4, .inl (upd (fun _ => 0) 0 1))), (sp, .inl (csp, 4, .inl fsp)), (da, .inl (cda, 4, .inl fda)), (pl, .inl (cpl, 4, .inr (.inl fpl))), (sd, .inl (csd, 4, .inr (.inl fsd))), (pu, .inl (cpu, 4, .inr (.inl fpu))), (pk, .inl (cpk, 4, .inl fpk))] sz)) 0 0 (va_A [(h, .inr (5, [.ref we, .ref to, .ref sp, .ref da, .ref cr, .ref pl, .ref sd, .ref pu, .ref pk, .int 1, .long tb])), (we, .inl (cwe, 4, .inl (upd (fun _ => 0) 0 1))), (sp, .inl (csp, 4, .inl fsp)), (da, .inl (cda, 4, .inl fda)), (pl, .inl (cpl, 4, .inr (.inl fpl))), (sd, .inl (csd, 4, .inr (.inl fsd))), (pu, .inl (cpu, 4, .inr (.inl fpu))), (pk, .inl (cpk, 4, .inl fpk))] sz) := by
  refine Met.ofW (cc := cX0_stepTo) (maxL := 7) (ret := none) (by decide) rfl ?_
  intro p e s m args below meth c s₁ B hml hv
  obtain ⟨rfl, hsz, hP, hK, hD0⟩ := hv
  have hx := B.exec
  have hb := B.bytes
  have hr := B.returns
  have hts0 := atoms_spec (ws := (pw_ws yX0_stepTo cX0_stepTo 7 none)) B.pre
  have hts : ∀ w ∈ pw_all, w.before _ s = true := fun w h => hts0 w (List.mem_cons_of_mem _ h)
  have hown : s.vm.findClass RX0 = some m.cls := findClass_of_methodNamed B.named
  have hlocks := B.notSynchronized
  subst hsz
  have hD := hD0.self (sz := s.heap.size)
  generalize hAe : va_A [(h, .inr (5, [.ref we, .ref to, .ref sp, .ref da, .ref cr, .ref pl, .ref sd, .ref pu, .ref pk, .int 1, .long tb])), (we, .inl (cwe, 4, .inl (upd (fun _ => 0) 0 1))), (sp, .inl (csp, 4, .inl fsp)), (da, .inl (cda, 4, .inl fda)), (pl, .inl (cpl, 4, .inr (.inl fpl))), (sd, .inl (csd, 4, .inr (.inl fsd))), (pu, .inl (cpu, 4, .inr (.inl fpu))), (pk, .inl (cpk, 4, .inl fpk))] s.heap.size = A at hD ⊢
  have hA : ∀ q : Nat, s.heap.size ≤ q → A q := fun q h => by rw [← hAe]; exact Or.inr h
  have hS : va_S A s.heap s.heap [] := va_S.rf
  have hP : va_P (dC, dI) vwCl [(h, .inr (5, [.ref we, .ref to, .ref sp, .ref da, .ref cr, .ref pl, .ref sd, .ref pu, .ref pk, .int 1, .long tb])), (we, .inl (cwe, 4, .inl (upd (fun _ => 0) 0 1))), (sp, .inl (csp, 4, .inl fsp)), (da, .inl (cda, 4, .inl fda)), (pl, .inl (cpl, 4, .inr (.inl fpl))), (sd, .inl (csd, 4, .inr (.inl fsd))), (pu, .inl (cpu, 4, .inr (.inl fpu))), (pk, .inl (cpk, 4, .inl fpk))] s.heap := hP
  have hl := lv_entry ([.ref h, .int p0]) (n := 7) (Nat.le_of_ble_eq_true rfl)
  rw [lg_entry_eq]
  generalize (lg_sl ([.ref h, .int p0]) ++ List.replicate (7 - (lg_sl ([.ref h, .int p0])).length) Slot.unset).toArray = ls at hl ⊢
  have hl : lv_has ls 7 [(0, .ref h), (1, .int p0)] := hl
  skip
  refine lv_aload_n hx hb dX0_stepTo_0 rfl (lv_at hl 0 rfl) ?_
  refine lv_iload_n hx hb dX0_stepTo_1 rfl (lv_at hl 1 rfl) ?_
  refine lv_i2l hx hb dX0_stepTo_2 rfl ?_
  refine lv_topl (fun x_1547 ex_1547 => ?_)
  refine lv_ldc2 (v := 16) hx hb hown (hts _ q601) dX0_stepTo_3 ?_
  refine lv_iload_n hx hb dX0_stepTo_6 rfl (lv_at hl 1 rfl) ?_
  refine lv_i2l hx hb dX0_stepTo_7 rfl ?_
  refine lv_topl (fun x_1548 ex_1548 => ?_)
  refine lv_aload_n hx hb dX0_stepTo_8 rfl (lv_at hl 0 rfl) ?_
  refine va_get (D := (dC, dI)) (ci := 5) (v := .long tb) (C := RX0) (T := TX0) (N := 11) hx hb hts inX0 hown hK hP 0 rfl rfl 10 (by decide) (hts _ q168) (fun _ h9 => h9) rfl dX0_stepTo_9 ?_
  refine lv_lsub hx hb dX0_stepTo_12 ?_
  refine lv_topl (fun x_1549 ex_1549 => ?_)
  refine lv_lmul hx hb dX0_stepTo_13 ?_
  refine lv_topl (fun x_1550 ex_1550 => ?_)
  have hPc := hP.sub (ws' := [(h, .inr (5, [.ref we, .ref to, .ref sp, .ref da, .ref cr, .ref pl, .ref sd, .ref pu, .ref pk, .int 1, .long tb])), (sp, .inl (csp, 4, .inl fsp)), (pl, .inl (cpl, 4, .inr (.inl fpl))), (da, .inl (cda, 4, .inl fda)), (sd, .inl (csd, 4, .inr (.inl fsd))), (pu, .inl (cpu, 4, .inr (.inl fpu)))]) [0, 2, 4, 3, 5, 6] rfl
  have hDc := hD.sub (ws' := [(h, .inr (5, [.ref we, .ref to, .ref sp, .ref da, .ref cr, .ref pl, .ref sd, .ref pu, .ref pk, .int 1, .long tb])), (sp, .inl (csp, 4, .inl fsp)), (pl, .inl (cpl, 4, .inr (.inl fpl))), (da, .inl (cda, 4, .inl fda)), (sd, .inl (csd, 4, .inr (.inl fsd))), (pu, .inl (cpu, 4, .inr (.inl fpu)))]) [0, 2, 4, 3, 5, 6] (by decide) rfl
  have hKc := hK.sub (tys' := [(csp, .int), (cpl, .long), (cda, .int), (csd, .long), (cpu, .long)]) [1, 3, 2, 4, 5] rfl
  have hFc := va_free (wc := [(h, .inr (5, [.ref we, .ref to, .ref sp, .ref da, .ref cr, .ref pl, .ref sd, .ref pu, .ref pk, .int 1, .long tb])), (sp, .inl (csp, 4, .inl fsp)), (pl, .inl (cpl, 4, .inr (.inl fpl))), (da, .inl (cda, 4, .inl fda)), (sd, .inl (csd, 4, .inr (.inl fsd))), (pu, .inl (cpu, 4, .inr (.inl fpu)))]) hD hS hA [0, 2, 4, 3, 5, 6] rfl
  refine va_callv (va_runV (As := [.long x_1547, .long x_1550]) (rest := []) ⟨hx, hb, hml, hown, hts⟩ (r_pullAll l dC dI s.heap.size h we to sp da cr pl sd pu pk csp cpl cda csd cpu fsp fpl fda fsd fpu tb x_1547 x_1550) (cwV 2 hts (pw_V q602 q604 q8 q48 q605) rfl rfl rfl (by decide +kernel) ⟨(Nat.le_of_ble_eq_true rfl), (Nat.le_of_ble_eq_true rfl)⟩) ⟨fun a U g mk q => by obtain ⟨q0, q1, qP, qK, qD⟩ := q; exact ⟨q0, q1, qP, va_K.moved (u := U) (U := U.calling g mk a) (Vm.Alike.refl U.vm) qK, qD⟩, va_recv hKc hPc (ci := 5) (q0 := 0) rfl rfl, fun U hU hW => ⟨rfl, by rw [hU], by rw [hU]; exact hPc, va_K.moved hW.alike hKc, hDc.weaken (fun _ _ _ _ => trivial)⟩⟩ rfl rfl hl.1 rfl (lv_room (Nat.le_of_ble_eq_true rfl)) dX0_stepTo_14 ⟨(Nat.le_of_ble_eq_true rfl), (Nat.le_of_ble_eq_true rfl)⟩) hS (fun q _ h => hFc q h) hFc (fun u t H1 locs ht hvm hw hB hz1 hk1 hS => ?_)
  obtain ⟨gpu_1552, hP1, hK1, hD1⟩ := hB
  rw [ht] at hP1
  have hK1 := va_K.moved hvm.symm hK1
  obtain ⟨hP, hD⟩ := va_join (wr := [(we, .inl (cwe, 4, .inl (upd (fun _ => 0) 0 1))), (pk, .inl (cpk, 4, .inl fpk))]) (w1 := [(h, .inr (5, [.ref we, .ref to, .ref sp, .ref da, .ref cr, .ref pl, .ref sd, .ref pu, .ref pk, .int 1, .long tb])), (sp, .inl (csp, 4, .inl fsp)), (pl, .inl (cpl, 4, .inr (.inl fpl))), (da, .inl (cda, 4, .inl fda)), (sd, .inl (csd, 4, .inr (.inl fsd))), (pu, .inl (cpu, 4, .inr (.inl gpu_1552)))]) hP hD [0, 2, 4, 3, 5, 6] [1, 7] rfl rfl (by decide) (by decide) hk1 hFc hP1 hD1
  have hK := (hK.sub (tys' := [(cwe, .int), (cpk, .int)]) [0, 6] rfl).app hK1
  generalize H1 = H at hP hS ⊢
  have hP : va_P (dC, dI) vwCl [(we, .inl (cwe, 4, .inl (upd (fun _ => 0) 0 1))), (pk, .inl (cpk, 4, .inl fpk)), (h, .inr (5, [.ref we, .ref to, .ref sp, .ref da, .ref cr, .ref pl, .ref sd, .ref pu, .ref pk, .int 1, .long tb])), (sp, .inl (csp, 4, .inl fsp)), (pl, .inl (cpl, 4, .inr (.inl fpl))), (da, .inl (cda, 4, .inl fda)), (sd, .inl (csd, 4, .inr (.inl fsd))), (pu, .inl (cpu, 4, .inr (.inl gpu_1552)))] H := hP
  have hD : va_D A [(we, .inl (cwe, 4, .inl (upd (fun _ => 0) 0 1))), (pk, .inl (cpk, 4, .inl fpk)), (h, .inr (5, [.ref we, .ref to, .ref sp, .ref da, .ref cr, .ref pl, .ref sd, .ref pu, .ref pk, .int 1, .long tb])), (sp, .inl (csp, 4, .inl fsp)), (pl, .inl (cpl, 4, .inr (.inl fpl))), (da, .inl (cda, 4, .inl fda)), (sd, .inl (csd, 4, .inr (.inl fsd))), (pu, .inl (cpu, 4, .inr (.inl gpu_1552)))] := hD
  have hK : va_K (dC, dI) vwCl [(cwe, .int), (cpk, .int), (csp, .int), (cpl, .long), (cda, .int), (csd, .long), (cpu, .long)] s := hK
  refine W.widen (k := 0) (n := 0) (Nat.le_of_ble_eq_true rfl) (Nat.le_of_ble_eq_true rfl) ?_
  refine lv_aload_n hx hb dX0_stepTo_17 rfl (lv_at hl 0 rfl) ?_
  refine lv_iload_n hx hb dX0_stepTo_18 rfl (lv_at hl 1 rfl) ?_
  refine lv_i2l hx hb dX0_stepTo_19 rfl ?_
  refine lv_topl (fun x_1553 ex_1553 => ?_)
  refine va_put (D := (dC, dI)) (ci := 5) (v := .long x_1553) (ty := .long) (C := RX0) (T := TX0) (N := 11) hx hb hts inX0 tyX0 tyX0_ok nmX0 hown hK hP hD hS 2 rfl rfl 10 (by decide) (hts _ q168) (fun _ h9 => h9) rfl (by decide +kernel) rfl rfl (Nat.le_of_ble_eq_true rfl) dX0_stepTo_20 (fun H locs hP hD hS => ?_)
  have hP : va_P (dC, dI) vwCl [(we, .inl (cwe, 4, .inl (upd (fun _ => 0) 0 1))), (pk, .inl (cpk, 4, .inl fpk)), (h, .inr (5, [.ref we, .ref to, .ref sp, .ref da, .ref cr, .ref pl, .ref sd, .ref pu, .ref pk, .int 1, .long x_1553])), (sp, .inl (csp, 4, .inl fsp)), (pl, .inl (cpl, 4, .inr (.inl fpl))), (da, .inl (cda, 4, .inl fda)), (sd, .inl (csd, 4, .inr (.inl fsd))), (pu, .inl (cpu, 4, .inr (.inl gpu_1552)))] H := hP
  have hD : va_D A [(we, .inl (cwe, 4, .inl (upd (fun _ => 0) 0 1))), (pk, .inl (cpk, 4, .inl fpk)), (h, .inr (5, [.ref we, .ref to, .ref sp, .ref da, .ref cr, .ref pl, .ref sd, .ref pu, .ref pk, .int 1, .long x_1553])), (sp, .inl (csp, 4, .inl fsp)), (pl, .inl (cpl, 4, .inr (.inl fpl))), (da, .inl (cda, 4, .inl fda)), (sd, .inl (csd, 4, .inr (.inl fsd))), (pu, .inl (cpu, 4, .inr (.inl gpu_1552)))] := hD
  refine lv_iconst (v := 0) hx hb dX0_stepTo_23 (by decide) ?_
  refine lv_istore_n (lv' := [(2, .int 0), (0, .ref h), (1, .int p0)]) hx hb dX0_stepTo_24 rfl hl (by decide) rfl (fun ls hl => ?_)
  refine lv_iload_n hx hb dX0_stepTo_25 rfl (lv_at hl 0 rfl) ?_
  refine lv_aload_n hx hb dX0_stepTo_26 rfl (lv_at hl 1 rfl) ?_
  refine va_get (D := (dC, dI)) (ci := 5) (v := .int 1) (C := RX0) (T := TX0) (N := 11) hx hb hts inX0 hown hK hP 2 rfl rfl 9 (by decide) (hts _ q165) (fun _ h9 => h9) rfl dX0_stepTo_27 ?_
  refine lv_icmp_ge (tgt := 153) hx hb dX0_stepTo_30 (by decide) (fun c_1554 => absurd c_1554 (by decide)) (fun c_1554 => ?_)
  refine lv_iload_n hx hb dX0_stepTo_33 rfl (lv_at hl 0 rfl) ?_
  refine lv_iconst (v := 1) hx hb dX0_stepTo_34 (by decide) ?_
  refine lv_iadd hx hb dX0_stepTo_35 ?_
  refine lv_numI (v := 1) (by decide) ?_
  refine lv_aload_n hx hb dX0_stepTo_36 rfl (lv_at hl 1 rfl) ?_
  refine va_get (D := (dC, dI)) (ci := 5) (v := .int 1) (C := RX0) (T := TX0) (N := 11) hx hb hts inX0 hown hK hP 2 rfl rfl 9 (by decide) (hts _ q165) (fun _ h9 => h9) rfl dX0_stepTo_37 ?_
  refine lv_icmp_ge (tgt := 54) hx hb dX0_stepTo_40 (by decide) (fun c_1555 => ?_) (fun c_1555 => absurd (by decide) c_1555)
  refine lv_lconst (v := 0) hx hb dX0_stepTo_54 (by decide) ?_
  refine lv_lstore_n (lv' := [(3, .long 0), (2, .int 0), (0, .ref h), (1, .int p0)]) hx hb dX0_stepTo_55 rfl hl (by decide) rfl (fun ls hl => ?_)
  refine lv_aload_n hx hb dX0_stepTo_56 rfl (lv_at hl 2 rfl) ?_
  refine va_get (D := (dC, dI)) (ci := 5) (v := .ref pu) (C := RX0) (T := TX0) (N := 11) hx hb hts inX0 hown hK hP 2 rfl rfl 7 (by decide) (hts _ q161) (fun _ h9 => h9) rfl dX0_stepTo_57 ?_
  refine lv_iload_n hx hb dX0_stepTo_60 rfl (lv_at hl 1 rfl) ?_
  refine va_lald hx hb hK hP 7 6 rfl rfl (by unfold vp_in; decide) dX0_stepTo_61 ?_
  refine lv_topl (fun x_1556 ex_1556 => ?_)
  refine lv_lload_n hx hb dX0_stepTo_62 rfl (lv_at hl 0 rfl) ?_
  refine lv_lsub hx hb dX0_stepTo_63 ?_
  refine lv_topl (fun x_1557 ex_1557 => ?_)
  refine lv_ldc2 (v := 16) hx hb hown (hts _ q601) dX0_stepTo_64 ?_
  refine lv_aload_n hx hb dX0_stepTo_67 rfl (lv_at hl 2 rfl) ?_
  refine va_get (D := (dC, dI)) (ci := 5) (v := .ref we) (C := RX0) (T := TX0) (N := 11) hx hb hts inX0 hown hK hP 2 rfl rfl 0 (by decide) (hts _ q150) (fun _ h9 => h9) rfl dX0_stepTo_68 ?_
  refine lv_iload_n hx hb dX0_stepTo_71 rfl (lv_at hl 1 rfl) ?_
  refine va_iald hx hb hK hP 0 0 rfl rfl (by unfold vp_in; decide) dX0_stepTo_72 ?_
  refine lv_numI (v := 1) (by decide) ?_
  refine lv_i2l (v := 1) hx hb dX0_stepTo_73 (by decide) ?_
  refine lv_lmul hx hb dX0_stepTo_74 ?_
  refine lv_numL (v := 16) (by decide) ?_
  refine lv_ldiv hx hb dX0_stepTo_75 (by decide) ?_
  refine lv_topl (fun x_1558 ex_1558 => ?_)
  refine lv_lstore (lv' := [(5, .long x_1558), (3, .long 0), (2, .int 0), (0, .ref h), (1, .int p0)]) hx hb dX0_stepTo_76 hl (by decide) rfl (fun ls hl => ?_)
  refine lv_aload_n hx hb dX0_stepTo_78 rfl (lv_at hl 3 rfl) ?_
  refine va_get (D := (dC, dI)) (ci := 5) (v := .ref sd) (C := RX0) (T := TX0) (N := 11) hx hb hts inX0 hown hK hP 2 rfl rfl 6 (by decide) (hts _ q160) (fun _ h9 => h9) rfl dX0_stepTo_79 ?_
  refine lv_iload_n hx hb dX0_stepTo_82 rfl (lv_at hl 2 rfl) ?_
  refine lv_aload_n hx hb dX0_stepTo_83 rfl (lv_at hl 3 rfl) ?_
  refine va_get (D := (dC, dI)) (ci := 5) (v := .ref sd) (C := RX0) (T := TX0) (N := 11) hx hb hts inX0 hown hK hP 2 rfl rfl 6 (by decide) (hts _ q160) (fun _ h9 => h9) rfl dX0_stepTo_84 ?_
  refine lv_iload_n hx hb dX0_stepTo_87 rfl (lv_at hl 2 rfl) ?_
  refine va_lald hx hb hK hP 6 5 rfl rfl (by unfold vp_in; decide) dX0_stepTo_88 ?_
  refine lv_topl (fun x_1559 ex_1559 => ?_)
  refine lv_lload hx hb dX0_stepTo_89 (lv_at hl 0 rfl) ?_
  refine lv_ladd hx hb dX0_stepTo_91 ?_
  refine lv_topl (fun x_1560 ex_1560 => ?_)
  have hPc := hP.sub (ws' := []) [] rfl
  have hDc := hD.sub (ws' := []) [] (by decide) rfl
  have hKc := hK.sub (tys' := []) [] rfl
  have hFc := va_free (wc := []) hD hS hA [] rfl
  refine va_calll (va_runS (As := [.long x_1560]) (rest := [.int 0, .ref sd]) ⟨hx, hb, hml, hown, hts⟩ (r_within l dC dI H.size x_1560) (va_cwS 1 hts (pw_S q606 q607 q48 q608) rfl rfl rfl (by decide +kernel) ⟨(Nat.le_of_ble_eq_true rfl), (Nat.le_of_ble_eq_true rfl)⟩) ⟨fun a U g mk q => by obtain ⟨q0, q1, qP, qK, qD⟩ := q; exact ⟨q0, q1, qP, va_K.moved (u := U) (U := U.calling g mk a) (Vm.Alike.refl U.vm) qK, qD⟩, fun U hU hW => ⟨rfl, by rw [hU], by rw [hU]; exact hPc, va_K.moved hW.alike hKc, hDc.weaken (fun _ _ _ _ => trivial)⟩⟩ rfl rfl hl.1 rfl (lv_room (Nat.le_of_ble_eq_true rfl)) dX0_stepTo_92 ⟨(Nat.le_of_ble_eq_true rfl), (Nat.le_of_ble_eq_true rfl)⟩) hS (fun q _ h => hFc q h) hFc (fun r_1561 u t H1 locs ht hvm hw hB hz1 hk1 hS => ?_)
  obtain ⟨hP1, hK1, hD1⟩ := hB
  rw [ht] at hP1
  have hK1 := va_K.moved hvm.symm hK1
  obtain ⟨hP, hD⟩ := va_join (wr := [(we, .inl (cwe, 4, .inl (upd (fun _ => 0) 0 1))), (pk, .inl (cpk, 4, .inl fpk)), (h, .inr (5, [.ref we, .ref to, .ref sp, .ref da, .ref cr, .ref pl, .ref sd, .ref pu, .ref pk, .int 1, .long x_1553])), (sp, .inl (csp, 4, .inl fsp)), (pl, .inl (cpl, 4, .inr (.inl fpl))), (da, .inl (cda, 4, .inl fda)), (sd, .inl (csd, 4, .inr (.inl fsd))), (pu, .inl (cpu, 4, .inr (.inl gpu_1552)))]) (w1 := []) hP hD [] [0, 1, 2, 3, 4, 5, 6, 7] rfl rfl (by decide) (by decide) hk1 hFc hP1 hD1
  have hK := (hK.sub (tys' := [(cwe, .int), (cpk, .int), (csp, .int), (cpl, .long), (cda, .int), (csd, .long), (cpu, .long)]) [0, 1, 2, 3, 4, 5, 6] rfl).app hK1
  generalize H1 = H at hP hS ⊢
  have hP : va_P (dC, dI) vwCl [(we, .inl (cwe, 4, .inl (upd (fun _ => 0) 0 1))), (pk, .inl (cpk, 4, .inl fpk)), (h, .inr (5, [.ref we, .ref to, .ref sp, .ref da, .ref cr, .ref pl, .ref sd, .ref pu, .ref pk, .int 1, .long x_1553])), (sp, .inl (csp, 4, .inl fsp)), (pl, .inl (cpl, 4, .inr (.inl fpl))), (da, .inl (cda, 4, .inl fda)), (sd, .inl (csd, 4, .inr (.inl fsd))), (pu, .inl (cpu, 4, .inr (.inl gpu_1552)))] H := hP
  have hD : va_D A [(we, .inl (cwe, 4, .inl (upd (fun _ => 0) 0 1))), (pk, .inl (cpk, 4, .inl fpk)), (h, .inr (5, [.ref we, .ref to, .ref sp, .ref da, .ref cr, .ref pl, .ref sd, .ref pu, .ref pk, .int 1, .long x_1553])), (sp, .inl (csp, 4, .inl fsp)), (pl, .inl (cpl, 4, .inr (.inl fpl))), (da, .inl (cda, 4, .inl fda)), (sd, .inl (csd, 4, .inr (.inl fsd))), (pu, .inl (cpu, 4, .inr (.inl gpu_1552)))] := hD
  have hK : va_K (dC, dI) vwCl [(cwe, .int), (cpk, .int), (csp, .int), (cpl, .long), (cda, .int), (csd, .long), (cpu, .long)] s := hK
  refine W.widen (k := 0) (n := 0) (Nat.le_of_ble_eq_true rfl) (Nat.le_of_ble_eq_true rfl) ?_
  refine va_last hx hb hK hP hD hS 6 5 rfl rfl (by unfold vp_in; decide) dX0_stepTo_95 (fun H locs hP hD hS => ?_)
  have hP : va_P (dC, dI) vwCl [(we, .inl (cwe, 4, .inl (upd (fun _ => 0) 0 1))), (pk, .inl (cpk, 4, .inl fpk)), (h, .inr (5, [.ref we, .ref to, .ref sp, .ref da, .ref cr, .ref pl, .ref sd, .ref pu, .ref pk, .int 1, .long x_1553])), (sp, .inl (csp, 4, .inl fsp)), (pl, .inl (cpl, 4, .inr (.inl fpl))), (da, .inl (cda, 4, .inl fda)), (sd, .inl (csd, 4, .inr (.inl (vp_updL fsd (0 : Int32).toNatClampNeg r_1561)))), (pu, .inl (cpu, 4, .inr (.inl gpu_1552)))] H := hP
  have hD : va_D A [(we, .inl (cwe, 4, .inl (upd (fun _ => 0) 0 1))), (pk, .inl (cpk, 4, .inl fpk)), (h, .inr (5, [.ref we, .ref to, .ref sp, .ref da, .ref cr, .ref pl, .ref sd, .ref pu, .ref pk, .int 1, .long x_1553])), (sp, .inl (csp, 4, .inl fsp)), (pl, .inl (cpl, 4, .inr (.inl fpl))), (da, .inl (cda, 4, .inl fda)), (sd, .inl (csd, 4, .inr (.inl (vp_updL fsd (0 : Int32).toNatClampNeg r_1561)))), (pu, .inl (cpu, 4, .inr (.inl gpu_1552)))] := hD
  generalize (vp_updL fsd (0 : Int32).toNatClampNeg r_1561) = f_1562 at hP hD
  refine lv_aload_n hx hb dX0_stepTo_96 rfl (lv_at hl 3 rfl) ?_
  refine va_get (D := (dC, dI)) (ci := 5) (v := .ref pl) (C := RX0) (T := TX0) (N := 11) hx hb hts inX0 hown hK hP 2 rfl rfl 5 (by decide) (hts _ q158) (fun _ h9 => h9) rfl dX0_stepTo_97 ?_
  refine lv_iload_n hx hb dX0_stepTo_100 rfl (lv_at hl 2 rfl) ?_
  refine lv_aload_n hx hb dX0_stepTo_101 rfl (lv_at hl 3 rfl) ?_
  refine va_get (D := (dC, dI)) (ci := 5) (v := .ref pl) (C := RX0) (T := TX0) (N := 11) hx hb hts inX0 hown hK hP 2 rfl rfl 5 (by decide) (hts _ q158) (fun _ h9 => h9) rfl dX0_stepTo_102 ?_
  refine lv_iload_n hx hb dX0_stepTo_105 rfl (lv_at hl 2 rfl) ?_
  refine va_lald hx hb hK hP 4 3 rfl rfl (by unfold vp_in; decide) dX0_stepTo_106 ?_
  refine lv_topl (fun x_1563 ex_1563 => ?_)
  refine lv_aload_n hx hb dX0_stepTo_107 rfl (lv_at hl 3 rfl) ?_
  refine va_get (D := (dC, dI)) (ci := 5) (v := .ref sd) (C := RX0) (T := TX0) (N := 11) hx hb hts inX0 hown hK hP 2 rfl rfl 6 (by decide) (hts _ q160) (fun _ h9 => h9) rfl dX0_stepTo_108 ?_
  refine lv_iload_n hx hb dX0_stepTo_111 rfl (lv_at hl 2 rfl) ?_
  refine va_lald hx hb hK hP 6 5 rfl rfl (by unfold vp_in; decide) dX0_stepTo_112 ?_
  refine lv_topl (fun x_1564 ex_1564 => ?_)
  refine lv_ldc2 (v := 16) hx hb hown (hts _ q601) dX0_stepTo_113 ?_
  refine lv_ldiv hx hb dX0_stepTo_116 (by decide) ?_
  refine lv_topl (fun x_1565 ex_1565 => ?_)
  refine lv_ladd hx hb dX0_stepTo_117 ?_
  refine lv_topl (fun x_1566 ex_1566 => ?_)
  have hPc := hP.sub (ws' := []) [] rfl
  have hDc := hD.sub (ws' := []) [] (by decide) rfl
  have hKc := hK.sub (tys' := []) [] rfl
  have hFc := va_free (wc := []) hD hS hA [] rfl
  refine va_calll (va_runS (As := [.long x_1566]) (rest := [.int 0, .ref pl]) ⟨hx, hb, hml, hown, hts⟩ (r_within l dC dI H.size x_1566) (va_cwS 1 hts (pw_S q606 q607 q48 q608) rfl rfl rfl (by decide +kernel) ⟨(Nat.le_of_ble_eq_true rfl), (Nat.le_of_ble_eq_true rfl)⟩) ⟨fun a U g mk q => by obtain ⟨q0, q1, qP, qK, qD⟩ := q; exact ⟨q0, q1, qP, va_K.moved (u := U) (U := U.calling g mk a) (Vm.Alike.refl U.vm) qK, qD⟩, fun U hU hW => ⟨rfl, by rw [hU], by rw [hU]; exact hPc, va_K.moved hW.alike hKc, hDc.weaken (fun _ _ _ _ => trivial)⟩⟩ rfl rfl hl.1 rfl (lv_room (Nat.le_of_ble_eq_true rfl)) dX0_stepTo_118 ⟨(Nat.le_of_ble_eq_true rfl), (Nat.le_of_ble_eq_true rfl)⟩) hS (fun q _ h => hFc q h) hFc (fun r_1567 u t H1 locs ht hvm hw hB hz1 hk1 hS => ?_)
  obtain ⟨hP1, hK1, hD1⟩ := hB
  rw [ht] at hP1
  have hK1 := va_K.moved hvm.symm hK1
  obtain ⟨hP, hD⟩ := va_join (wr := [(we, .inl (cwe, 4, .inl (upd (fun _ => 0) 0 1))), (pk, .inl (cpk, 4, .inl fpk)), (h, .inr (5, [.ref we, .ref to, .ref sp, .ref da, .ref cr, .ref pl, .ref sd, .ref pu, .ref pk, .int 1, .long x_1553])), (sp, .inl (csp, 4, .inl fsp)), (pl, .inl (cpl, 4, .inr (.inl fpl))), (da, .inl (cda, 4, .inl fda)), (sd, .inl (csd, 4, .inr (.inl f_1562))), (pu, .inl (cpu, 4, .inr (.inl gpu_1552)))]) (w1 := []) hP hD [] [0, 1, 2, 3, 4, 5, 6, 7] rfl rfl (by decide) (by decide) hk1 hFc hP1 hD1
  have hK := (hK.sub (tys' := [(cwe, .int), (cpk, .int), (csp, .int), (cpl, .long), (cda, .int), (csd, .long), (cpu, .long)]) [0, 1, 2, 3, 4, 5, 6] rfl).app hK1
  generalize H1 = H at hP hS ⊢
  have hP : va_P (dC, dI) vwCl [(we, .inl (cwe, 4, .inl (upd (fun _ => 0) 0 1))), (pk, .inl (cpk, 4, .inl fpk)), (h, .inr (5, [.ref we, .ref to, .ref sp, .ref da, .ref cr, .ref pl, .ref sd, .ref pu, .ref pk, .int 1, .long x_1553])), (sp, .inl (csp, 4, .inl fsp)), (pl, .inl (cpl, 4, .inr (.inl fpl))), (da, .inl (cda, 4, .inl fda)), (sd, .inl (csd, 4, .inr (.inl f_1562))), (pu, .inl (cpu, 4, .inr (.inl gpu_1552)))] H := hP
  have hD : va_D A [(we, .inl (cwe, 4, .inl (upd (fun _ => 0) 0 1))), (pk, .inl (cpk, 4, .inl fpk)), (h, .inr (5, [.ref we, .ref to, .ref sp, .ref da, .ref cr, .ref pl, .ref sd, .ref pu, .ref pk, .int 1, .long x_1553])), (sp, .inl (csp, 4, .inl fsp)), (pl, .inl (cpl, 4, .inr (.inl fpl))), (da, .inl (cda, 4, .inl fda)), (sd, .inl (csd, 4, .inr (.inl f_1562))), (pu, .inl (cpu, 4, .inr (.inl gpu_1552)))] := hD
  have hK : va_K (dC, dI) vwCl [(cwe, .int), (cpk, .int), (csp, .int), (cpl, .long), (cda, .int), (csd, .long), (cpu, .long)] s := hK
  refine W.widen (k := 0) (n := 0) (Nat.le_of_ble_eq_true rfl) (Nat.le_of_ble_eq_true rfl) ?_
  refine va_last hx hb hK hP hD hS 4 3 rfl rfl (by unfold vp_in; decide) dX0_stepTo_121 (fun H locs hP hD hS => ?_)
  have hP : va_P (dC, dI) vwCl [(we, .inl (cwe, 4, .inl (upd (fun _ => 0) 0 1))), (pk, .inl (cpk, 4, .inl fpk)), (h, .inr (5, [.ref we, .ref to, .ref sp, .ref da, .ref cr, .ref pl, .ref sd, .ref pu, .ref pk, .int 1, .long x_1553])), (sp, .inl (csp, 4, .inl fsp)), (pl, .inl (cpl, 4, .inr (.inl (vp_updL fpl (0 : Int32).toNatClampNeg r_1567)))), (da, .inl (cda, 4, .inl fda)), (sd, .inl (csd, 4, .inr (.inl f_1562))), (pu, .inl (cpu, 4, .inr (.inl gpu_1552)))] H := hP
  have hD : va_D A [(we, .inl (cwe, 4, .inl (upd (fun _ => 0) 0 1))), (pk, .inl (cpk, 4, .inl fpk)), (h, .inr (5, [.ref we, .ref to, .ref sp, .ref da, .ref cr, .ref pl, .ref sd, .ref pu, .ref pk, .int 1, .long x_1553])), (sp, .inl (csp, 4, .inl fsp)), (pl, .inl (cpl, 4, .inr (.inl (vp_updL fpl (0 : Int32).toNatClampNeg r_1567)))), (da, .inl (cda, 4, .inl fda)), (sd, .inl (csd, 4, .inr (.inl f_1562))), (pu, .inl (cpu, 4, .inr (.inl gpu_1552)))] := hD
  generalize (vp_updL fpl (0 : Int32).toNatClampNeg r_1567) = f_1568 at hP hD
  refine lv_aload_n hx hb dX0_stepTo_122 rfl (lv_at hl 3 rfl) ?_
  refine va_get (D := (dC, dI)) (ci := 5) (v := .ref pk) (C := RX0) (T := TX0) (N := 11) hx hb hts inX0 hown hK hP 2 rfl rfl 8 (by decide) (hts _ q162) (fun _ h9 => h9) rfl dX0_stepTo_123 ?_
  refine lv_iload_n hx hb dX0_stepTo_126 rfl (lv_at hl 2 rfl) ?_
  refine lv_aload_n hx hb dX0_stepTo_127 rfl (lv_at hl 3 rfl) ?_
  refine va_get (D := (dC, dI)) (ci := 5) (v := .ref pk) (C := RX0) (T := TX0) (N := 11) hx hb hts inX0 hown hK hP 2 rfl rfl 8 (by decide) (hts _ q162) (fun _ h9 => h9) rfl dX0_stepTo_128 ?_
  refine lv_iload_n hx hb dX0_stepTo_131 rfl (lv_at hl 2 rfl) ?_
  refine va_iald hx hb hK hP 1 1 rfl rfl (by unfold vp_in; decide) dX0_stepTo_132 ?_
  refine lv_topi (fun x_1569 ex_1569 => ?_)
  refine lv_aload_n hx hb dX0_stepTo_133 rfl (lv_at hl 3 rfl) ?_
  refine va_get (D := (dC, dI)) (ci := 5) (v := .ref pl) (C := RX0) (T := TX0) (N := 11) hx hb hts inX0 hown hK hP 2 rfl rfl 5 (by decide) (hts _ q158) (fun _ h9 => h9) rfl dX0_stepTo_134 ?_
  refine lv_iload_n hx hb dX0_stepTo_137 rfl (lv_at hl 2 rfl) ?_
  refine va_lald hx hb hK hP 4 3 rfl rfl (by unfold vp_in; decide) dX0_stepTo_138 ?_
  refine lv_topl (fun x_1570 ex_1570 => ?_)
  refine va_mabs_long hx hb (hml.trans hl.1.symm) hown (hts _ q611) (hts _ q612) (hts _ q56) (hts _ q613) (Nat.le_of_ble_eq_true rfl) (Nat.le_of_ble_eq_true rfl) (Nat.le_of_ble_eq_true rfl) (Nat.le_of_ble_eq_true rfl) dX0_stepTo_139 ?_
  refine lv_topl (fun x_1571 ex_1571 => ?_)
  refine lv_l2i hx hb dX0_stepTo_142 rfl ?_
  refine lv_topi (fun x_1572 ex_1572 => ?_)
  refine va_mmax hx hb (hml.trans hl.1.symm) hown (hts _ q614) (hts _ q451) (hts _ q56) (hts _ q452) (Nat.le_of_ble_eq_true rfl) (Nat.le_of_ble_eq_true rfl) (Nat.le_of_ble_eq_true rfl) (Nat.le_of_ble_eq_true rfl) dX0_stepTo_143 ?_
  refine lv_topi (fun x_1573 ex_1573 => ?_)
  refine va_iast hx hb hK hP hD hS 1 1 rfl rfl (by unfold vp_in; decide) dX0_stepTo_146 (fun H locs hP hD hS => ?_)
  have hP : va_P (dC, dI) vwCl [(we, .inl (cwe, 4, .inl (upd (fun _ => 0) 0 1))), (pk, .inl (cpk, 4, .inl (upd fpk (0 : Int32).toNatClampNeg x_1573))), (h, .inr (5, [.ref we, .ref to, .ref sp, .ref da, .ref cr, .ref pl, .ref sd, .ref pu, .ref pk, .int 1, .long x_1553])), (sp, .inl (csp, 4, .inl fsp)), (pl, .inl (cpl, 4, .inr (.inl f_1568))), (da, .inl (cda, 4, .inl fda)), (sd, .inl (csd, 4, .inr (.inl f_1562))), (pu, .inl (cpu, 4, .inr (.inl gpu_1552)))] H := hP
  have hD : va_D A [(we, .inl (cwe, 4, .inl (upd (fun _ => 0) 0 1))), (pk, .inl (cpk, 4, .inl (upd fpk (0 : Int32).toNatClampNeg x_1573))), (h, .inr (5, [.ref we, .ref to, .ref sp, .ref da, .ref cr, .ref pl, .ref sd, .ref pu, .ref pk, .int 1, .long x_1553])), (sp, .inl (csp, 4, .inl fsp)), (pl, .inl (cpl, 4, .inr (.inl f_1568))), (da, .inl (cda, 4, .inl fda)), (sd, .inl (csd, 4, .inr (.inl f_1562))), (pu, .inl (cpu, 4, .inr (.inl gpu_1552)))] := hD
  generalize (upd fpk (0 : Int32).toNatClampNeg x_1573) = f_1574 at hP hD
  refine lv_iinc (v := 1) (lv' := [(2, .int 1), (5, .long x_1558), (3, .long 0), (0, .ref h), (1, .int p0)]) hx hb dX0_stepTo_147 hl (k := 2) rfl (by decide) (by decide) rfl (fun ls hl => ?_)
  refine lv_goto (tgt := 25) hx hb dX0_stepTo_150 (by decide) ?_
  refine lv_iload_n hx hb dX0_stepTo_25 rfl (lv_at hl 0 rfl) ?_
  refine lv_aload_n hx hb dX0_stepTo_26 rfl (lv_at hl 3 rfl) ?_
  refine va_get (D := (dC, dI)) (ci := 5) (v := .int 1) (C := RX0) (T := TX0) (N := 11) hx hb hts inX0 hown hK hP 2 rfl rfl 9 (by decide) (hts _ q165) (fun _ h9 => h9) rfl dX0_stepTo_27 ?_
  refine lv_icmp_ge (tgt := 153) hx hb dX0_stepTo_30 (by decide) (fun c_1575 => ?_) (fun c_1575 => absurd (by decide) c_1575)
  have hP9 := hP.sub (ws' := [(h, .inr (5, [.ref we, .ref to, .ref sp, .ref da, .ref cr, .ref pl, .ref sd, .ref pu, .ref pk, .int 1, .long x_1553])), (we, .inl (cwe, 4, .inl (upd (fun _ => 0) 0 1))), (sp, .inl (csp, 4, .inl fsp)), (da, .inl (cda, 4, .inl fda)), (pl, .inl (cpl, 4, .inr (.inl f_1568))), (sd, .inl (csd, 4, .inr (.inl f_1562))), (pu, .inl (cpu, 4, .inr (.inl gpu_1552))), (pk, .inl (cpk, 4, .inl f_1574))]) [2, 0, 3, 5, 4, 6, 7, 1] rfl
  have hD9 := hD.sub (ws' := [(h, .inr (5, [.ref we, .ref to, .ref sp, .ref da, .ref cr, .ref pl, .ref sd, .ref pu, .ref pk, .int 1, .long x_1553])), (we, .inl (cwe, 4, .inl (upd (fun _ => 0) 0 1))), (sp, .inl (csp, 4, .inl fsp)), (da, .inl (cda, 4, .inl fda)), (pl, .inl (cpl, 4, .inr (.inl f_1568))), (sd, .inl (csd, 4, .inr (.inl f_1562))), (pu, .inl (cpu, 4, .inr (.inl gpu_1552))), (pk, .inl (cpk, 4, .inl f_1574))]) [2, 0, 3, 5, 4, 6, 7, 1] (by decide) rfl
  have hK9 := hK.sub (tys' := [(cwe, .int), (csp, .int), (cda, .int), (cpl, .long), (csd, .long), (cpu, .long), (cpk, .int)]) [0, 2, 4, 3, 5, 6, 1] rfl
  refine W.widen (k := 0) (n := 0) (Nat.le_of_ble_eq_true rfl) (Nat.le_of_ble_eq_true rfl) ?_
  exact W.vret hx hb hr (fun t ht hW => ⟨⟨(), rfl, trivial, ⟨f_1568, f_1562, gpu_1552, f_1574, x_1553, by rw [ht]; exact hP9, va_K.moved hW.alike hK9, hD9⟩⟩, hS.F ht⟩) hS.2.2 dX0_stepTo_153
set_option maxHeartbeats 4000000 in
set_option maxRecDepth 100000 in
theorem r_goOn (l : Launch) (dC : Nat → ClassId) (dI : Nat → Nat → Nat) (sz : Nat) (h : Nat) (we : Nat) (to : Nat) (sp : Nat) (da : Nat) (cr : Nat) (pl : Nat) (sd : Nat) (pu : Nat) (pk : Nat) (cwe : ClassId) (csp : ClassId) (cda : ClassId) (cpl : ClassId) (csd : ClassId) (cpu : ClassId) (cpk : ClassId) (fsp : Nat → Int32) (fda : Nat → Int32) (fpl : Nat → Int64) (fsd : Nat → Int64) (fpu : Nat → Int64) (fpk : Nat → Int32) (tb : Int64) (p0 : Int32) (h1 : ¬ p0 = 0) : Met l yX0_goOn (pw_ws yX0_goOn cX0_goOn 4 none) ({ frames := 3, cells := 0, slots := 0, locals := 86 } : Room) (va_Pc [.ref h, .int p0, .int 256] (fun U => U.heap.size = sz ∧ va_P (dC, dI) vwCl [(h, .inr (5, [.ref we, .ref to, .ref sp, .ref da, .ref cr, .ref pl, .ref sd, .ref pu, .ref pk, .int 1, .long tb])), (we, .inl (cwe, 4, .inl (upd (fun _ => 0) 0 1))), (sp, .inl (csp, 4, .inl fsp)), (da, .inl (cda, 4, .inl fda)), (pl, .inl (cpl, 4, .inr (.inl fpl))), (sd, .inl (csd, 4, .inr (.inl fsd))), (pu, .inl (cpu, 4, .inr (.inl fpu))), (pk, .inl (cpk, 4, .inl fpk))] U.heap ∧ va_K (dC, dI) vwCl [(cwe, .int), (csp, .int), (cda, .int), (cpl, .long), (csd, .long), (cpu, .long), (cpk, .int)] U ∧ va_D (fun _ => True) [(h, .inr (5, [.ref we, .ref to, .ref sp, .ref da, .ref cr, .ref pl, .ref sd, .ref pu, .ref pk, .int 1, .long tb])), (we, .inl (cwe, 4, .inl (upd (fun _ => 0) 0 1))), (sp, .inl (csp, 4, .inl fsp)), (da, .inl (cda, 4, .inl fda)), (pl, .inl (cpl, 4, .inr (.inl fpl))), (sd, .inl (csd, 4, .inr (.inl fsd))), (pu, .inl (cpu, 4, .inr (.inl fpu))), (pk, .inl (cpk, 4, .inl fpk))])) (va_Qv (fun (_ : Unit) => True) (fun (_ : Unit) (t : State) => ∃ (gpl : Nat → Int64), ∃ (gsd : Nat → Int64), ∃ (gpu : Nat → Int64), ∃ (gpk : Nat → Int32), ∃ (tb2 : Int64), va_P (dC, dI) vwCl [(h, .inr (5, [.ref we, .ref to, .ref sp, .ref da, .ref cr, .ref pl, .ref sd, .ref pu, .ref pk, .int 1, .long tb2])), (we, .inl (cwe, 4, .inl (upd (fun _ => 0) 0 1))), (sp, .inl (csp, 4, .inl fsp)), (da, .inl (cda, 4, .inl fda)), (pl, .inl (cpl, 4, .inr (.inl gpl))), (sd, .inl (csd, 4, .inr (.inl gsd))), (pu, .inl (cpu, 4, .inr (.inl gpu))), (pk, .inl (cpk, 4, .inl gpk))] t.heap ∧ va_K (dC, dI) vwCl [(cwe, .int), (csp, .int), (cda, .int), (cpl, .long), (csd, .long), (cpu, .long), (cpk, .int)] t ∧ va_D (va_A [(h, .inr (5, [.ref we, .ref to, .ref sp, .ref da, .ref cr, .ref pl, .ref sd, .ref pu, .ref pk, .int 1, .long tb])), (we, .inl (cwe, 4, .inl (upd (fun _ => 0) 0 1))), (sp, .inl (csp, 4, .inl fsp)), (da, .inl (cda, 4, .inl fda)), (pl, .inl (cpl, 4, .inr (.inl fpl))), (sd, .inl (csd, 4, .inr (.inl fsd))), (pu, .inl (cpu, 4, .inr (.inl fpu))), (pk, .inl (cpk, 4, .inl fpk))] sz) [(h, .inr (5, [.ref we, .ref to, .ref sp, .ref da, .ref cr, .ref pl, .ref sd, .ref pu, .ref pk, .int 1, .long tb2])), (we, .inl (cwe, 4, .inl (upd (fun _ => 0) 0 1))), (sp, .inl (csp, 4, .inl fsp)), (da, .inl (cda, 4, .inl fda)), (pl, .inl (cpl, 4, .inr (.inl gpl))), (sd, .inl (csd, 4, .inr (.inl gsd))), (pu, .inl (cpu, 4, .inr (.inl gpu))), (pk, .inl (cpk, 4, .inl gpk))]) (va_A [(h, .inr (5, [.ref we, .ref to, .ref sp, .ref da, .ref cr, .ref pl, .ref sd, .ref pu, .ref pk, .int 1, .long tb])), (we, .inl (cwe, 4, .inl (upd (fun _ => 0) 0 1))), (sp, .inl (csp, 4, .inl fsp)), (da, .inl (cda, 4, .inl fda)), (pl, .inl (cpl, 4, .inr (.inl fpl))), (sd, .inl (csd, 4, .inr (.inl fsd))), (pu, .inl (cpu, 4, .inr (.inl fpu))), (pk, .inl (cpk, 4, .inl fpk))] sz)) 0 0 (va_A [(h, .inr (5, [.ref we, .ref to, .ref sp, .ref da, .ref cr, .ref pl, .ref sd, .ref pu, .ref pk, .int 1, .long tb])), (we, .inl (cwe, 4, .inl (upd (fun _ => 0) 0 1))), (sp, .inl (csp, 4, .inl fsp)), (da, .inl (cda, 4, .inl fda)), (pl, .inl (cpl, 4, .inr (.inl fpl))), (sd, .inl (csd, 4, .inr (.inl fsd))), (pu, .inl (cpu, 4, .inr (.inl fpu))), (pk, .inl (cpk, 4, .inl fpk))] sz) := by
  refine Met.ofW (cc := cX0_goOn) (maxL := 4) (ret := none) (by decide) rfl ?_
  intro p e s m args below meth c s₁ B hml hv
  obtain ⟨rfl, hsz, hP, hK, hD0⟩ := hv
  have hx := B.exec
  have hb := B.bytes
  have hr := B.returns
  have hts0 := atoms_spec (ws := (pw_ws yX0_goOn cX0_goOn 4 none)) B.pre
  have hts : ∀ w ∈ pw_all, w.before _ s = true := fun w h => hts0 w (List.mem_cons_of_mem _ h)
  have hown : s.vm.findClass RX0 = some m.cls := findClass_of_methodNamed B.named
  have hlocks := B.notSynchronized
  subst hsz
  have hD := hD0.self (sz := s.heap.size)
  generalize hAe : va_A [(h, .inr (5, [.ref we, .ref to, .ref sp, .ref da, .ref cr, .ref pl, .ref sd, .ref pu, .ref pk, .int 1, .long tb])), (we, .inl (cwe, 4, .inl (upd (fun _ => 0) 0 1))), (sp, .inl (csp, 4, .inl fsp)), (da, .inl (cda, 4, .inl fda)), (pl, .inl (cpl, 4, .inr (.inl fpl))), (sd, .inl (csd, 4, .inr (.inl fsd))), (pu, .inl (cpu, 4, .inr (.inl fpu))), (pk, .inl (cpk, 4, .inl fpk))] s.heap.size = A at hD ⊢
  have hA : ∀ q : Nat, s.heap.size ≤ q → A q := fun q h => by rw [← hAe]; exact Or.inr h
  have hS : va_S A s.heap s.heap [] := va_S.rf
  have hP : va_P (dC, dI) vwCl [(h, .inr (5, [.ref we, .ref to, .ref sp, .ref da, .ref cr, .ref pl, .ref sd, .ref pu, .ref pk, .int 1, .long tb])), (we, .inl (cwe, 4, .inl (upd (fun _ => 0) 0 1))), (sp, .inl (csp, 4, .inl fsp)), (da, .inl (cda, 4, .inl fda)), (pl, .inl (cpl, 4, .inr (.inl fpl))), (sd, .inl (csd, 4, .inr (.inl fsd))), (pu, .inl (cpu, 4, .inr (.inl fpu))), (pk, .inl (cpk, 4, .inl fpk))] s.heap := hP
  have hl := lv_entry ([.ref h, .int p0, .int 256]) (n := 4) (Nat.le_of_ble_eq_true rfl)
  rw [lg_entry_eq]
  generalize (lg_sl ([.ref h, .int p0, .int 256]) ++ List.replicate (4 - (lg_sl ([.ref h, .int p0, .int 256])).length) Slot.unset).toArray = ls at hl ⊢
  have hl : lv_has ls 4 [(0, .ref h), (1, .int p0), (2, .int 256)] := hl
  skip
  refine pl_name (fun QQ hQQ => ?_)
  refine lv_iconst (v := 0) hx hb dX0_goOn_0 (by decide) ?_
  refine lv_istore_n (lv' := [(3, .int 0), (0, .ref h), (1, .int p0), (2, .int 256)]) hx hb dX0_goOn_1 rfl hl (by decide) rfl (fun ls hl => ?_)
  have loop2 : ∀ (n k : Nat), (0 ≤ k ∧ k + n = 256) → ∀ (tbk : Int64) (F_1576 : Nat → Int64) (F_1577 : Nat → Int64) (F_1578 : Nat → Int64) (F_1579 : Nat → Int32) (H : Heap) (locs : List Loc), va_K (dC, dI) vwCl [(cwe, .int), (csp, .int), (cda, .int), (cpl, .long), (csd, .long), (cpu, .long), (cpk, .int)] s → va_P (dC, dI) vwCl [(h, .inr (5, [.ref we, .ref to, .ref sp, .ref da, .ref cr, .ref pl, .ref sd, .ref pu, .ref pk, .int 1, .long tbk])), (we, .inl (cwe, 4, .inl (upd (fun _ => 0) 0 1))), (sp, .inl (csp, 4, .inl fsp)), (da, .inl (cda, 4, .inl fda)), (pl, .inl (cpl, 4, .inr (.inl F_1576))), (sd, .inl (csd, 4, .inr (.inl F_1577))), (pu, .inl (cpu, 4, .inr (.inl F_1578))), (pk, .inl (cpk, 4, .inl F_1579))] H → va_D A [(h, .inr (5, [.ref we, .ref to, .ref sp, .ref da, .ref cr, .ref pl, .ref sd, .ref pu, .ref pk, .int 1, .long tbk])), (we, .inl (cwe, 4, .inl (upd (fun _ => 0) 0 1))), (sp, .inl (csp, 4, .inl fsp)), (da, .inl (cda, 4, .inl fda)), (pl, .inl (cpl, 4, .inr (.inl F_1576))), (sd, .inl (csd, 4, .inr (.inl F_1577))), (pu, .inl (cpu, 4, .inr (.inl F_1578))), (pk, .inl (cpk, 4, .inl F_1579))] → va_S A s.heap H locs → ∀ (ls : Array Slot), lv_has ls 4 [(3, .int (nI k)), (0, .ref h), (1, .int p0), (2, .int 256)] → W p l e (headSpec (pw_ws yX0_goOn cX0_goOn 4 none) ({ frames := 3, cells := 0, slots := 0, locals := 86 } : Room)).room s m ([.ref h, .int p0, .int 256] : List Value).toArray below meth c H locs (0) (0) QQ (F0 m 2 ls []) := by
    intro n
    induction n with
    | zero =>
      intro k hk tbk F_1576 F_1577 F_1578 F_1579 H locs hK hP hD hS ls hl
      have hkN : k = 256 := by omega
      refine lv_iload_n hx hb dX0_goOn_2 rfl (lv_at hl 0 rfl) ?_
      refine lv_iload_n hx hb dX0_goOn_3 rfl (lv_at hl 3 rfl) ?_
      refine lv_icmp_ge (tgt := 35) hx hb dX0_goOn_4 (by decide) (fun c_1580 => ?_) (fun c_1580 => absurd (by rw [hkN]; decide) c_1580)
      have hP9 := hP.sub (ws' := [(h, .inr (5, [.ref we, .ref to, .ref sp, .ref da, .ref cr, .ref pl, .ref sd, .ref pu, .ref pk, .int 1, .long tbk])), (we, .inl (cwe, 4, .inl (upd (fun _ => 0) 0 1))), (sp, .inl (csp, 4, .inl fsp)), (da, .inl (cda, 4, .inl fda)), (pl, .inl (cpl, 4, .inr (.inl F_1576))), (sd, .inl (csd, 4, .inr (.inl F_1577))), (pu, .inl (cpu, 4, .inr (.inl F_1578))), (pk, .inl (cpk, 4, .inl F_1579))]) [0, 1, 2, 3, 4, 5, 6, 7] rfl
      have hD9 := hD.sub (ws' := [(h, .inr (5, [.ref we, .ref to, .ref sp, .ref da, .ref cr, .ref pl, .ref sd, .ref pu, .ref pk, .int 1, .long tbk])), (we, .inl (cwe, 4, .inl (upd (fun _ => 0) 0 1))), (sp, .inl (csp, 4, .inl fsp)), (da, .inl (cda, 4, .inl fda)), (pl, .inl (cpl, 4, .inr (.inl F_1576))), (sd, .inl (csd, 4, .inr (.inl F_1577))), (pu, .inl (cpu, 4, .inr (.inl F_1578))), (pk, .inl (cpk, 4, .inl F_1579))]) [0, 1, 2, 3, 4, 5, 6, 7] (by decide) rfl
      have hK9 := hK.sub (tys' := [(cwe, .int), (csp, .int), (cda, .int), (cpl, .long), (csd, .long), (cpu, .long), (cpk, .int)]) [0, 1, 2, 3, 4, 5, 6] rfl
      refine W.widen (k := 0) (n := 0) (Nat.le_of_ble_eq_true rfl) (Nat.le_of_ble_eq_true rfl) ?_
      subst hQQ
      exact W.vret hx hb hr (fun t ht hW => ⟨⟨(), rfl, trivial, ⟨F_1576, F_1577, F_1578, F_1579, tbk, by rw [ht]; exact hP9, va_K.moved hW.alike hK9, hD9⟩⟩, hS.F ht⟩) hS.2.2 dX0_goOn_35
    | succ n ih =>
      intro k hk tbk F_1576 F_1577 F_1578 F_1579 H locs hK hP hD hS ls hl
      have hkN : k < 256 := by omega
      refine lv_iload_n hx hb dX0_goOn_2 rfl (lv_at hl 0 rfl) ?_
      refine lv_iload_n hx hb dX0_goOn_3 rfl (lv_at hl 3 rfl) ?_
      refine lv_icmp_ge (tgt := 35) hx hb dX0_goOn_4 (by decide) (fun c_1581 => absurd c_1581 (nI_ge (a := k) (b := 256) (by omega) (by decide))) (fun c_1581 => ?_)
      refine lv_aload_n hx hb dX0_goOn_7 rfl (lv_at hl 1 rfl) ?_
      refine lv_iload_n hx hb dX0_goOn_8 rfl (lv_at hl 0 rfl) ?_
      refine lv_iload_n hx hb dX0_goOn_9 rfl (lv_at hl 2 rfl) ?_
      refine lv_irem hx hb dX0_goOn_10 h1 ?_
      refine lv_topi (fun x_1582 ex_1582 => ?_)
      refine lv_iload_n hx hb dX0_goOn_11 rfl (lv_at hl 2 rfl) ?_
      refine lv_iconst (v := 2) hx hb dX0_goOn_12 (by decide) ?_
      refine lv_idiv hx hb dX0_goOn_13 (by decide) ?_
      refine lv_topi (fun x_1583 ex_1583 => ?_)
      refine lv_icmp_ge (tgt := 23) hx hb dX0_goOn_14 (by decide) (fun c_1584 => ?_) (fun c_1584 => ?_)
      · skip
        refine lv_sipush (v := -1600) hx hb dX0_goOn_23 (by decide) ?_
        have hPc := hP.sub (ws' := [(h, .inr (5, [.ref we, .ref to, .ref sp, .ref da, .ref cr, .ref pl, .ref sd, .ref pu, .ref pk, .int 1, .long tbk])), (we, .inl (cwe, 4, .inl (upd (fun _ => 0) 0 1))), (sp, .inl (csp, 4, .inl fsp)), (da, .inl (cda, 4, .inl fda)), (pl, .inl (cpl, 4, .inr (.inl F_1576))), (sd, .inl (csd, 4, .inr (.inl F_1577))), (pu, .inl (cpu, 4, .inr (.inl F_1578))), (pk, .inl (cpk, 4, .inl F_1579))]) [0, 1, 2, 3, 4, 5, 6, 7] rfl
        have hDc := hD.sub (ws' := [(h, .inr (5, [.ref we, .ref to, .ref sp, .ref da, .ref cr, .ref pl, .ref sd, .ref pu, .ref pk, .int 1, .long tbk])), (we, .inl (cwe, 4, .inl (upd (fun _ => 0) 0 1))), (sp, .inl (csp, 4, .inl fsp)), (da, .inl (cda, 4, .inl fda)), (pl, .inl (cpl, 4, .inr (.inl F_1576))), (sd, .inl (csd, 4, .inr (.inl F_1577))), (pu, .inl (cpu, 4, .inr (.inl F_1578))), (pk, .inl (cpk, 4, .inl F_1579))]) [0, 1, 2, 3, 4, 5, 6, 7] (by decide) rfl
        have hKc := hK.sub (tys' := [(cwe, .int), (csp, .int), (cda, .int), (cpl, .long), (csd, .long), (cpu, .long), (cpk, .int)]) [0, 1, 2, 3, 4, 5, 6] rfl
        have hFc := va_free (wc := [(h, .inr (5, [.ref we, .ref to, .ref sp, .ref da, .ref cr, .ref pl, .ref sd, .ref pu, .ref pk, .int 1, .long tbk])), (we, .inl (cwe, 4, .inl (upd (fun _ => 0) 0 1))), (sp, .inl (csp, 4, .inl fsp)), (da, .inl (cda, 4, .inl fda)), (pl, .inl (cpl, 4, .inr (.inl F_1576))), (sd, .inl (csd, 4, .inr (.inl F_1577))), (pu, .inl (cpu, 4, .inr (.inl F_1578))), (pk, .inl (cpk, 4, .inl F_1579))]) hD hS hA [0, 1, 2, 3, 4, 5, 6, 7] rfl
        refine va_callv (va_runV (As := [.int (-1600)]) (rest := []) ⟨hx, hb, hml, hown, hts⟩ (r_stepTo l dC dI H.size h we to sp da cr pl sd pu pk cwe csp cda cpl csd cpu cpk fsp fda F_1576 F_1577 F_1578 F_1579 tbk (-1600)) (cwV 1 hts (pw_V q597 q598 q599 q48 q600) rfl rfl rfl (by decide +kernel) ⟨(Nat.le_of_ble_eq_true rfl), (Nat.le_of_ble_eq_true rfl)⟩) ⟨fun a U g mk q => by obtain ⟨q0, q1, qP, qK, qD⟩ := q; exact ⟨q0, q1, qP, va_K.moved (u := U) (U := U.calling g mk a) (Vm.Alike.refl U.vm) qK, qD⟩, va_recv hKc hPc (ci := 5) (q0 := 0) rfl rfl, fun U hU hW => ⟨rfl, by rw [hU], by rw [hU]; exact hPc, va_K.moved hW.alike hKc, hDc.weaken (fun _ _ _ _ => trivial)⟩⟩ rfl rfl hl.1 rfl (lv_room (Nat.le_of_ble_eq_true rfl)) dX0_goOn_26 ⟨(Nat.le_of_ble_eq_true rfl), (Nat.le_of_ble_eq_true rfl)⟩) hS (fun q _ h => hFc q h) hFc (fun u t H1 locs ht hvm hw hB hz1 hk1 hS => ?_)
        obtain ⟨gpl_1586, gsd_1587, gpu_1588, gpk_1589, tb2_1590, hP1, hK1, hD1⟩ := hB
        rw [ht] at hP1
        have hK1 := va_K.moved hvm.symm hK1
        obtain ⟨hP, hD⟩ := va_join (wr := []) (w1 := [(h, .inr (5, [.ref we, .ref to, .ref sp, .ref da, .ref cr, .ref pl, .ref sd, .ref pu, .ref pk, .int 1, .long tb2_1590])), (we, .inl (cwe, 4, .inl (upd (fun _ => 0) 0 1))), (sp, .inl (csp, 4, .inl fsp)), (da, .inl (cda, 4, .inl fda)), (pl, .inl (cpl, 4, .inr (.inl gpl_1586))), (sd, .inl (csd, 4, .inr (.inl gsd_1587))), (pu, .inl (cpu, 4, .inr (.inl gpu_1588))), (pk, .inl (cpk, 4, .inl gpk_1589))]) hP hD [0, 1, 2, 3, 4, 5, 6, 7] [] rfl rfl (by decide) (by decide) hk1 hFc hP1 hD1
        have hK := (hK.sub (tys' := []) [] rfl).app hK1
        generalize H1 = H at hP hS ⊢
        have hP : va_P (dC, dI) vwCl [(h, .inr (5, [.ref we, .ref to, .ref sp, .ref da, .ref cr, .ref pl, .ref sd, .ref pu, .ref pk, .int 1, .long tb2_1590])), (we, .inl (cwe, 4, .inl (upd (fun _ => 0) 0 1))), (sp, .inl (csp, 4, .inl fsp)), (da, .inl (cda, 4, .inl fda)), (pl, .inl (cpl, 4, .inr (.inl gpl_1586))), (sd, .inl (csd, 4, .inr (.inl gsd_1587))), (pu, .inl (cpu, 4, .inr (.inl gpu_1588))), (pk, .inl (cpk, 4, .inl gpk_1589))] H := hP
        have hD : va_D A [(h, .inr (5, [.ref we, .ref to, .ref sp, .ref da, .ref cr, .ref pl, .ref sd, .ref pu, .ref pk, .int 1, .long tb2_1590])), (we, .inl (cwe, 4, .inl (upd (fun _ => 0) 0 1))), (sp, .inl (csp, 4, .inl fsp)), (da, .inl (cda, 4, .inl fda)), (pl, .inl (cpl, 4, .inr (.inl gpl_1586))), (sd, .inl (csd, 4, .inr (.inl gsd_1587))), (pu, .inl (cpu, 4, .inr (.inl gpu_1588))), (pk, .inl (cpk, 4, .inl gpk_1589))] := hD
        have hK : va_K (dC, dI) vwCl [(cwe, .int), (csp, .int), (cda, .int), (cpl, .long), (csd, .long), (cpu, .long), (cpk, .int)] s := hK
        refine W.widen (k := 0) (n := 0) (Nat.le_of_ble_eq_true rfl) (Nat.le_of_ble_eq_true rfl) ?_
        refine lv_iinc (v := (nI (k + 1))) (lv' := [(3, .int (nI (k + 1))), (0, .ref h), (1, .int p0), (2, .int 256)]) hx hb dX0_goOn_29 hl (k := 0) rfl (by rw [show Int32.ofInt 1 = 1 from by decide]; exact nI_1 _) (by decide) rfl (fun ls hl => ?_)
        refine lv_goto (tgt := 2) hx hb dX0_goOn_32 (by decide) ?_
        exact ih (k + 1) (by omega) tb2_1590 gpl_1586 gsd_1587 gpu_1588 gpk_1589 _ _ (hK.sub [0, 1, 2, 3, 4, 5, 6] rfl) (hP.sub [0, 1, 2, 3, 4, 5, 6, 7] rfl) (hD.sub [0, 1, 2, 3, 4, 5, 6, 7] (by decide) rfl) hS _ (lv_sub hl [0, 1, 2, 3] rfl)
      · skip
        refine lv_sipush (v := 1600) hx hb dX0_goOn_17 (by decide) ?_
        refine lv_goto (tgt := 26) hx hb dX0_goOn_20 (by decide) ?_
        have hPc := hP.sub (ws' := [(h, .inr (5, [.ref we, .ref to, .ref sp, .ref da, .ref cr, .ref pl, .ref sd, .ref pu, .ref pk, .int 1, .long tbk])), (we, .inl (cwe, 4, .inl (upd (fun _ => 0) 0 1))), (sp, .inl (csp, 4, .inl fsp)), (da, .inl (cda, 4, .inl fda)), (pl, .inl (cpl, 4, .inr (.inl F_1576))), (sd, .inl (csd, 4, .inr (.inl F_1577))), (pu, .inl (cpu, 4, .inr (.inl F_1578))), (pk, .inl (cpk, 4, .inl F_1579))]) [0, 1, 2, 3, 4, 5, 6, 7] rfl
        have hDc := hD.sub (ws' := [(h, .inr (5, [.ref we, .ref to, .ref sp, .ref da, .ref cr, .ref pl, .ref sd, .ref pu, .ref pk, .int 1, .long tbk])), (we, .inl (cwe, 4, .inl (upd (fun _ => 0) 0 1))), (sp, .inl (csp, 4, .inl fsp)), (da, .inl (cda, 4, .inl fda)), (pl, .inl (cpl, 4, .inr (.inl F_1576))), (sd, .inl (csd, 4, .inr (.inl F_1577))), (pu, .inl (cpu, 4, .inr (.inl F_1578))), (pk, .inl (cpk, 4, .inl F_1579))]) [0, 1, 2, 3, 4, 5, 6, 7] (by decide) rfl
        have hKc := hK.sub (tys' := [(cwe, .int), (csp, .int), (cda, .int), (cpl, .long), (csd, .long), (cpu, .long), (cpk, .int)]) [0, 1, 2, 3, 4, 5, 6] rfl
        have hFc := va_free (wc := [(h, .inr (5, [.ref we, .ref to, .ref sp, .ref da, .ref cr, .ref pl, .ref sd, .ref pu, .ref pk, .int 1, .long tbk])), (we, .inl (cwe, 4, .inl (upd (fun _ => 0) 0 1))), (sp, .inl (csp, 4, .inl fsp)), (da, .inl (cda, 4, .inl fda)), (pl, .inl (cpl, 4, .inr (.inl F_1576))), (sd, .inl (csd, 4, .inr (.inl F_1577))), (pu, .inl (cpu, 4, .inr (.inl F_1578))), (pk, .inl (cpk, 4, .inl F_1579))]) hD hS hA [0, 1, 2, 3, 4, 5, 6, 7] rfl
        refine va_callv (va_runV (As := [.int 1600]) (rest := []) ⟨hx, hb, hml, hown, hts⟩ (r_stepTo l dC dI H.size h we to sp da cr pl sd pu pk cwe csp cda cpl csd cpu cpk fsp fda F_1576 F_1577 F_1578 F_1579 tbk 1600) (cwV 1 hts (pw_V q597 q598 q599 q48 q600) rfl rfl rfl (by decide +kernel) ⟨(Nat.le_of_ble_eq_true rfl), (Nat.le_of_ble_eq_true rfl)⟩) ⟨fun a U g mk q => by obtain ⟨q0, q1, qP, qK, qD⟩ := q; exact ⟨q0, q1, qP, va_K.moved (u := U) (U := U.calling g mk a) (Vm.Alike.refl U.vm) qK, qD⟩, va_recv hKc hPc (ci := 5) (q0 := 0) rfl rfl, fun U hU hW => ⟨rfl, by rw [hU], by rw [hU]; exact hPc, va_K.moved hW.alike hKc, hDc.weaken (fun _ _ _ _ => trivial)⟩⟩ rfl rfl hl.1 rfl (lv_room (Nat.le_of_ble_eq_true rfl)) dX0_goOn_26 ⟨(Nat.le_of_ble_eq_true rfl), (Nat.le_of_ble_eq_true rfl)⟩) hS (fun q _ h => hFc q h) hFc (fun u t H1 locs ht hvm hw hB hz1 hk1 hS => ?_)
        obtain ⟨gpl_1592, gsd_1593, gpu_1594, gpk_1595, tb2_1596, hP1, hK1, hD1⟩ := hB
        rw [ht] at hP1
        have hK1 := va_K.moved hvm.symm hK1
        obtain ⟨hP, hD⟩ := va_join (wr := []) (w1 := [(h, .inr (5, [.ref we, .ref to, .ref sp, .ref da, .ref cr, .ref pl, .ref sd, .ref pu, .ref pk, .int 1, .long tb2_1596])), (we, .inl (cwe, 4, .inl (upd (fun _ => 0) 0 1))), (sp, .inl (csp, 4, .inl fsp)), (da, .inl (cda, 4, .inl fda)), (pl, .inl (cpl, 4, .inr (.inl gpl_1592))), (sd, .inl (csd, 4, .inr (.inl gsd_1593))), (pu, .inl (cpu, 4, .inr (.inl gpu_1594))), (pk, .inl (cpk, 4, .inl gpk_1595))]) hP hD [0, 1, 2, 3, 4, 5, 6, 7] [] rfl rfl (by decide) (by decide) hk1 hFc hP1 hD1
        have hK := (hK.sub (tys' := []) [] rfl).app hK1
        generalize H1 = H at hP hS ⊢
        have hP : va_P (dC, dI) vwCl [(h, .inr (5, [.ref we, .ref to, .ref sp, .ref da, .ref cr, .ref pl, .ref sd, .ref pu, .ref pk, .int 1, .long tb2_1596])), (we, .inl (cwe, 4, .inl (upd (fun _ => 0) 0 1))), (sp, .inl (csp, 4, .inl fsp)), (da, .inl (cda, 4, .inl fda)), (pl, .inl (cpl, 4, .inr (.inl gpl_1592))), (sd, .inl (csd, 4, .inr (.inl gsd_1593))), (pu, .inl (cpu, 4, .inr (.inl gpu_1594))), (pk, .inl (cpk, 4, .inl gpk_1595))] H := hP
        have hD : va_D A [(h, .inr (5, [.ref we, .ref to, .ref sp, .ref da, .ref cr, .ref pl, .ref sd, .ref pu, .ref pk, .int 1, .long tb2_1596])), (we, .inl (cwe, 4, .inl (upd (fun _ => 0) 0 1))), (sp, .inl (csp, 4, .inl fsp)), (da, .inl (cda, 4, .inl fda)), (pl, .inl (cpl, 4, .inr (.inl gpl_1592))), (sd, .inl (csd, 4, .inr (.inl gsd_1593))), (pu, .inl (cpu, 4, .inr (.inl gpu_1594))), (pk, .inl (cpk, 4, .inl gpk_1595))] := hD
        have hK : va_K (dC, dI) vwCl [(cwe, .int), (csp, .int), (cda, .int), (cpl, .long), (csd, .long), (cpu, .long), (cpk, .int)] s := hK
        refine W.widen (k := 0) (n := 0) (Nat.le_of_ble_eq_true rfl) (Nat.le_of_ble_eq_true rfl) ?_
        refine lv_iinc (v := (nI (k + 1))) (lv' := [(3, .int (nI (k + 1))), (0, .ref h), (1, .int p0), (2, .int 256)]) hx hb dX0_goOn_29 hl (k := 0) rfl (by rw [show Int32.ofInt 1 = 1 from by decide]; exact nI_1 _) (by decide) rfl (fun ls hl => ?_)
        refine lv_goto (tgt := 2) hx hb dX0_goOn_32 (by decide) ?_
        exact ih (k + 1) (by omega) tb2_1596 gpl_1592 gsd_1593 gpu_1594 gpk_1595 _ _ (hK.sub [0, 1, 2, 3, 4, 5, 6] rfl) (hP.sub [0, 1, 2, 3, 4, 5, 6, 7] rfl) (hD.sub [0, 1, 2, 3, 4, 5, 6, 7] (by decide) rfl) hS _ (lv_sub hl [0, 1, 2, 3] rfl)
  exact loop2 256 0 (by decide) tb fpl fsd fpu fpk _ _ (hK.sub [0, 1, 2, 3, 4, 5, 6] rfl) (hP.sub [0, 1, 2, 3, 4, 5, 6, 7] rfl) (hD.sub [0, 1, 2, 3, 4, 5, 6, 7] (by decide) rfl) hS _ (lv_sub hl [0, 1, 2, 3] rfl)
set_option maxHeartbeats 4000000 in
set_option maxRecDepth 100000 in
theorem r_playTone (l : Launch) (dC : Nat → ClassId) (dI : Nat → Nat → Nat) (sz : Nat) (h : Nat) (we : Nat) (to : Nat) (sp : Nat) (da : Nat) (cr : Nat) (pl : Nat) (sd : Nat) (pu : Nat) (pk : Nat) (cwe : ClassId) (csp : ClassId) (cda : ClassId) (cpl : ClassId) (csd : ClassId) (cpu : ClassId) (cpk : ClassId) (fsp : Nat → Int32) (fda : Nat → Int32) (fpl : Nat → Int64) (fsd : Nat → Int64) (fpu : Nat → Int64) (fpk : Nat → Int32) (tb : Int64) (p0 : Int32) (h1 : ¬ p0 = 0) : Met l yX0_playTone (pw_ws yX0_playTone cX0_playTone 2 none) ({ frames := 4, cells := 0, slots := 0, locals := 109 } : Room) (va_Pc [.ref h, .int p0] (fun U => U.heap.size = sz ∧ va_P (dC, dI) vwCl [(h, .inr (5, [.ref we, .ref to, .ref sp, .ref da, .ref cr, .ref pl, .ref sd, .ref pu, .ref pk, .int 1, .long tb])), (we, .inl (cwe, 4, .inl (upd (fun _ => 0) 0 1))), (sp, .inl (csp, 4, .inl fsp)), (da, .inl (cda, 4, .inl fda)), (pl, .inl (cpl, 4, .inr (.inl fpl))), (sd, .inl (csd, 4, .inr (.inl fsd))), (pu, .inl (cpu, 4, .inr (.inl fpu))), (pk, .inl (cpk, 4, .inl fpk))] U.heap ∧ va_K (dC, dI) vwCl [(cwe, .int), (csp, .int), (cda, .int), (cpl, .long), (csd, .long), (cpu, .long), (cpk, .int)] U ∧ va_D (fun _ => True) [(h, .inr (5, [.ref we, .ref to, .ref sp, .ref da, .ref cr, .ref pl, .ref sd, .ref pu, .ref pk, .int 1, .long tb])), (we, .inl (cwe, 4, .inl (upd (fun _ => 0) 0 1))), (sp, .inl (csp, 4, .inl fsp)), (da, .inl (cda, 4, .inl fda)), (pl, .inl (cpl, 4, .inr (.inl fpl))), (sd, .inl (csd, 4, .inr (.inl fsd))), (pu, .inl (cpu, 4, .inr (.inl fpu))), (pk, .inl (cpk, 4, .inl fpk))])) (va_Qv (fun (_ : Unit) => True) (fun (_ : Unit) (t : State) => ∃ (gpl : Nat → Int64), ∃ (gsd : Nat → Int64), ∃ (gpu : Nat → Int64), ∃ (gpk : Nat → Int32), ∃ (tb2 : Int64), va_P (dC, dI) vwCl [(h, .inr (5, [.ref we, .ref to, .ref sp, .ref da, .ref cr, .ref pl, .ref sd, .ref pu, .ref pk, .int 1, .long tb2])), (we, .inl (cwe, 4, .inl (upd (fun _ => 0) 0 1))), (sp, .inl (csp, 4, .inl fsp)), (da, .inl (cda, 4, .inl fda)), (pl, .inl (cpl, 4, .inr (.inl gpl))), (sd, .inl (csd, 4, .inr (.inl gsd))), (pu, .inl (cpu, 4, .inr (.inl gpu))), (pk, .inl (cpk, 4, .inl gpk))] t.heap ∧ va_K (dC, dI) vwCl [(cwe, .int), (csp, .int), (cda, .int), (cpl, .long), (csd, .long), (cpu, .long), (cpk, .int)] t ∧ va_D (va_A [(h, .inr (5, [.ref we, .ref to, .ref sp, .ref da, .ref cr, .ref pl, .ref sd, .ref pu, .ref pk, .int 1, .long tb])), (we, .inl (cwe, 4, .inl (upd (fun _ => 0) 0 1))), (sp, .inl (csp, 4, .inl fsp)), (da, .inl (cda, 4, .inl fda)), (pl, .inl (cpl, 4, .inr (.inl fpl))), (sd, .inl (csd, 4, .inr (.inl fsd))), (pu, .inl (cpu, 4, .inr (.inl fpu))), (pk, .inl (cpk, 4, .inl fpk))] sz) [(h, .inr (5, [.ref we, .ref to, .ref sp, .ref da, .ref cr, .ref pl, .ref sd, .ref pu, .ref pk, .int 1, .long tb2])), (we, .inl (cwe, 4, .inl (upd (fun _ => 0) 0 1))), (sp, .inl (csp, 4, .inl fsp)), (da, .inl (cda, 4, .inl fda)), (pl, .inl (cpl, 4, .inr (.inl gpl))), (sd, .inl (csd, 4, .inr (.inl gsd))), (pu, .inl (cpu, 4, .inr (.inl gpu))), (pk, .inl (cpk, 4, .inl gpk))]) (va_A [(h, .inr (5, [.ref we, .ref to, .ref sp, .ref da, .ref cr, .ref pl, .ref sd, .ref pu, .ref pk, .int 1, .long tb])), (we, .inl (cwe, 4, .inl (upd (fun _ => 0) 0 1))), (sp, .inl (csp, 4, .inl fsp)), (da, .inl (cda, 4, .inl fda)), (pl, .inl (cpl, 4, .inr (.inl fpl))), (sd, .inl (csd, 4, .inr (.inl fsd))), (pu, .inl (cpu, 4, .inr (.inl fpu))), (pk, .inl (cpk, 4, .inl fpk))] sz)) 0 0 (va_A [(h, .inr (5, [.ref we, .ref to, .ref sp, .ref da, .ref cr, .ref pl, .ref sd, .ref pu, .ref pk, .int 1, .long tb])), (we, .inl (cwe, 4, .inl (upd (fun _ => 0) 0 1))), (sp, .inl (csp, 4, .inl fsp)), (da, .inl (cda, 4, .inl fda)), (pl, .inl (cpl, 4, .inr (.inl fpl))), (sd, .inl (csd, 4, .inr (.inl fsd))), (pu, .inl (cpu, 4, .inr (.inl fpu))), (pk, .inl (cpk, 4, .inl fpk))] sz) := by
  refine Met.ofW (cc := cX0_playTone) (maxL := 2) (ret := none) (by decide) rfl ?_
  intro p e s m args below meth c s₁ B hml hv
  obtain ⟨rfl, hsz, hP, hK, hD0⟩ := hv
  have hx := B.exec
  have hb := B.bytes
  have hr := B.returns
  have hts0 := atoms_spec (ws := (pw_ws yX0_playTone cX0_playTone 2 none)) B.pre
  have hts : ∀ w ∈ pw_all, w.before _ s = true := fun w h => hts0 w (List.mem_cons_of_mem _ h)
  have hown : s.vm.findClass RX0 = some m.cls := findClass_of_methodNamed B.named
  have hlocks := B.notSynchronized
  subst hsz
  have hD := hD0.self (sz := s.heap.size)
  generalize hAe : va_A [(h, .inr (5, [.ref we, .ref to, .ref sp, .ref da, .ref cr, .ref pl, .ref sd, .ref pu, .ref pk, .int 1, .long tb])), (we, .inl (cwe, 4, .inl (upd (fun _ => 0) 0 1))), (sp, .inl (csp, 4, .inl fsp)), (da, .inl (cda, 4, .inl fda)), (pl, .inl (cpl, 4, .inr (.inl fpl))), (sd, .inl (csd, 4, .inr (.inl fsd))), (pu, .inl (cpu, 4, .inr (.inl fpu))), (pk, .inl (cpk, 4, .inl fpk))] s.heap.size = A at hD ⊢
  have hA : ∀ q : Nat, s.heap.size ≤ q → A q := fun q h => by rw [← hAe]; exact Or.inr h
  have hS : va_S A s.heap s.heap [] := va_S.rf
  have hP : va_P (dC, dI) vwCl [(h, .inr (5, [.ref we, .ref to, .ref sp, .ref da, .ref cr, .ref pl, .ref sd, .ref pu, .ref pk, .int 1, .long tb])), (we, .inl (cwe, 4, .inl (upd (fun _ => 0) 0 1))), (sp, .inl (csp, 4, .inl fsp)), (da, .inl (cda, 4, .inl fda)), (pl, .inl (cpl, 4, .inr (.inl fpl))), (sd, .inl (csd, 4, .inr (.inl fsd))), (pu, .inl (cpu, 4, .inr (.inl fpu))), (pk, .inl (cpk, 4, .inl fpk))] s.heap := hP
  have hl := lv_entry ([.ref h, .int p0]) (n := 2) (Nat.le_of_ble_eq_true rfl)
  rw [lg_entry_eq]
  generalize (lg_sl ([.ref h, .int p0]) ++ List.replicate (2 - (lg_sl ([.ref h, .int p0])).length) Slot.unset).toArray = ls at hl ⊢
  have hl : lv_has ls 2 [(0, .ref h), (1, .int p0)] := hl
  skip
  refine lv_aload_n hx hb dX0_playTone_0 rfl (lv_at hl 0 rfl) ?_
  have hPc := hP.sub (ws' := [(h, .inr (5, [.ref we, .ref to, .ref sp, .ref da, .ref cr, .ref pl, .ref sd, .ref pu, .ref pk, .int 1, .long tb])), (pl, .inl (cpl, 4, .inr (.inl fpl))), (sd, .inl (csd, 4, .inr (.inl fsd))), (pk, .inl (cpk, 4, .inl fpk))]) [0, 4, 5, 7] rfl
  have hDc := hD.sub (ws' := [(h, .inr (5, [.ref we, .ref to, .ref sp, .ref da, .ref cr, .ref pl, .ref sd, .ref pu, .ref pk, .int 1, .long tb])), (pl, .inl (cpl, 4, .inr (.inl fpl))), (sd, .inl (csd, 4, .inr (.inl fsd))), (pk, .inl (cpk, 4, .inl fpk))]) [0, 4, 5, 7] (by decide) rfl
  have hKc := hK.sub (tys' := [(cpl, .long), (csd, .long), (cpk, .int)]) [3, 4, 6] rfl
  have hFc := va_free (wc := [(h, .inr (5, [.ref we, .ref to, .ref sp, .ref da, .ref cr, .ref pl, .ref sd, .ref pu, .ref pk, .int 1, .long tb])), (pl, .inl (cpl, 4, .inr (.inl fpl))), (sd, .inl (csd, 4, .inr (.inl fsd))), (pk, .inl (cpk, 4, .inl fpk))]) hD hS hA [0, 4, 5, 7] rfl
  refine va_callv (va_runV (As := []) (rest := []) ⟨hx, hb, hml, hown, hts⟩ (r_rest l dC dI s.heap.size h we to sp da cr pl sd pu pk cpl csd cpk fpl fsd fpk tb) (cwV 0 hts (pw_V q589 q590 q591 q48 q592) rfl rfl rfl (by decide +kernel) ⟨(Nat.le_of_ble_eq_true rfl), (Nat.le_of_ble_eq_true rfl)⟩) ⟨fun a U g mk q => by obtain ⟨q0, q1, qP, qK, qD⟩ := q; exact ⟨q0, q1, qP, va_K.moved (u := U) (U := U.calling g mk a) (Vm.Alike.refl U.vm) qK, qD⟩, va_recv hKc hPc (ci := 5) (q0 := 0) rfl rfl, fun U hU hW => ⟨rfl, by rw [hU], by rw [hU]; exact hPc, va_K.moved hW.alike hKc, hDc.weaken (fun _ _ _ _ => trivial)⟩⟩ rfl rfl hl.1 rfl (lv_room (Nat.le_of_ble_eq_true rfl)) dX0_playTone_1 ⟨(Nat.le_of_ble_eq_true rfl), (Nat.le_of_ble_eq_true rfl)⟩) hS (fun q _ h => hFc q h) hFc (fun u t H1 locs ht hvm hw hB hz1 hk1 hS => ?_)
  obtain ⟨gpl_1598, gsd_1599, gpk_1600, hP1, hK1, hD1⟩ := hB
  rw [ht] at hP1
  have hK1 := va_K.moved hvm.symm hK1
  obtain ⟨hP, hD⟩ := va_join (wr := [(we, .inl (cwe, 4, .inl (upd (fun _ => 0) 0 1))), (sp, .inl (csp, 4, .inl fsp)), (da, .inl (cda, 4, .inl fda)), (pu, .inl (cpu, 4, .inr (.inl fpu)))]) (w1 := [(h, .inr (5, [.ref we, .ref to, .ref sp, .ref da, .ref cr, .ref pl, .ref sd, .ref pu, .ref pk, .int 1, .long 0])), (pl, .inl (cpl, 4, .inr (.inl gpl_1598))), (sd, .inl (csd, 4, .inr (.inl gsd_1599))), (pk, .inl (cpk, 4, .inl gpk_1600))]) hP hD [0, 4, 5, 7] [1, 2, 3, 6] rfl rfl (by decide) (by decide) hk1 hFc hP1 hD1
  have hK := (hK.sub (tys' := [(cwe, .int), (csp, .int), (cda, .int), (cpu, .long)]) [0, 1, 2, 5] rfl).app hK1
  generalize H1 = H at hP hS ⊢
  have hP : va_P (dC, dI) vwCl [(we, .inl (cwe, 4, .inl (upd (fun _ => 0) 0 1))), (sp, .inl (csp, 4, .inl fsp)), (da, .inl (cda, 4, .inl fda)), (pu, .inl (cpu, 4, .inr (.inl fpu))), (h, .inr (5, [.ref we, .ref to, .ref sp, .ref da, .ref cr, .ref pl, .ref sd, .ref pu, .ref pk, .int 1, .long 0])), (pl, .inl (cpl, 4, .inr (.inl gpl_1598))), (sd, .inl (csd, 4, .inr (.inl gsd_1599))), (pk, .inl (cpk, 4, .inl gpk_1600))] H := hP
  have hD : va_D A [(we, .inl (cwe, 4, .inl (upd (fun _ => 0) 0 1))), (sp, .inl (csp, 4, .inl fsp)), (da, .inl (cda, 4, .inl fda)), (pu, .inl (cpu, 4, .inr (.inl fpu))), (h, .inr (5, [.ref we, .ref to, .ref sp, .ref da, .ref cr, .ref pl, .ref sd, .ref pu, .ref pk, .int 1, .long 0])), (pl, .inl (cpl, 4, .inr (.inl gpl_1598))), (sd, .inl (csd, 4, .inr (.inl gsd_1599))), (pk, .inl (cpk, 4, .inl gpk_1600))] := hD
  have hK : va_K (dC, dI) vwCl [(cwe, .int), (csp, .int), (cda, .int), (cpu, .long), (cpl, .long), (csd, .long), (cpk, .int)] s := hK
  refine W.widen (k := 0) (n := 0) (Nat.le_of_ble_eq_true rfl) (Nat.le_of_ble_eq_true rfl) ?_
  refine lv_aload_n hx hb dX0_playTone_4 rfl (lv_at hl 0 rfl) ?_
  refine lv_iload_n hx hb dX0_playTone_5 rfl (lv_at hl 1 rfl) ?_
  refine lv_sipush (v := 256) hx hb dX0_playTone_6 (by decide) ?_
  have hPc := hP.sub (ws' := [(h, .inr (5, [.ref we, .ref to, .ref sp, .ref da, .ref cr, .ref pl, .ref sd, .ref pu, .ref pk, .int 1, .long 0])), (we, .inl (cwe, 4, .inl (upd (fun _ => 0) 0 1))), (sp, .inl (csp, 4, .inl fsp)), (da, .inl (cda, 4, .inl fda)), (pl, .inl (cpl, 4, .inr (.inl gpl_1598))), (sd, .inl (csd, 4, .inr (.inl gsd_1599))), (pu, .inl (cpu, 4, .inr (.inl fpu))), (pk, .inl (cpk, 4, .inl gpk_1600))]) [4, 0, 1, 2, 5, 6, 3, 7] rfl
  have hDc := hD.sub (ws' := [(h, .inr (5, [.ref we, .ref to, .ref sp, .ref da, .ref cr, .ref pl, .ref sd, .ref pu, .ref pk, .int 1, .long 0])), (we, .inl (cwe, 4, .inl (upd (fun _ => 0) 0 1))), (sp, .inl (csp, 4, .inl fsp)), (da, .inl (cda, 4, .inl fda)), (pl, .inl (cpl, 4, .inr (.inl gpl_1598))), (sd, .inl (csd, 4, .inr (.inl gsd_1599))), (pu, .inl (cpu, 4, .inr (.inl fpu))), (pk, .inl (cpk, 4, .inl gpk_1600))]) [4, 0, 1, 2, 5, 6, 3, 7] (by decide) rfl
  have hKc := hK.sub (tys' := [(cwe, .int), (csp, .int), (cda, .int), (cpl, .long), (csd, .long), (cpu, .long), (cpk, .int)]) [0, 1, 2, 4, 5, 3, 6] rfl
  have hFc := va_free (wc := [(h, .inr (5, [.ref we, .ref to, .ref sp, .ref da, .ref cr, .ref pl, .ref sd, .ref pu, .ref pk, .int 1, .long 0])), (we, .inl (cwe, 4, .inl (upd (fun _ => 0) 0 1))), (sp, .inl (csp, 4, .inl fsp)), (da, .inl (cda, 4, .inl fda)), (pl, .inl (cpl, 4, .inr (.inl gpl_1598))), (sd, .inl (csd, 4, .inr (.inl gsd_1599))), (pu, .inl (cpu, 4, .inr (.inl fpu))), (pk, .inl (cpk, 4, .inl gpk_1600))]) hD hS hA [4, 0, 1, 2, 5, 6, 3, 7] rfl
  refine va_callv (va_runV (As := [.int p0, .int 256]) (rest := []) ⟨hx, hb, hml, hown, hts⟩ (r_goOn l dC dI H.size h we to sp da cr pl sd pu pk cwe csp cda cpl csd cpu cpk fsp fda gpl_1598 gsd_1599 fpu gpk_1600 0 p0 h1) (cwV 2 hts (pw_V q593 q594 q595 q48 q596) rfl rfl rfl (by decide +kernel) ⟨(Nat.le_of_ble_eq_true rfl), (Nat.le_of_ble_eq_true rfl)⟩) ⟨fun a U g mk q => by obtain ⟨q0, q1, qP, qK, qD⟩ := q; exact ⟨q0, q1, qP, va_K.moved (u := U) (U := U.calling g mk a) (Vm.Alike.refl U.vm) qK, qD⟩, va_recv hKc hPc (ci := 5) (q0 := 0) rfl rfl, fun U hU hW => ⟨rfl, by rw [hU], by rw [hU]; exact hPc, va_K.moved hW.alike hKc, hDc.weaken (fun _ _ _ _ => trivial)⟩⟩ rfl rfl hl.1 rfl (lv_room (Nat.le_of_ble_eq_true rfl)) dX0_playTone_9 ⟨(Nat.le_of_ble_eq_true rfl), (Nat.le_of_ble_eq_true rfl)⟩) hS (fun q _ h => hFc q h) hFc (fun u t H1 locs ht hvm hw hB hz1 hk1 hS => ?_)
  obtain ⟨gpl_1602, gsd_1603, gpu_1604, gpk_1605, tb2_1606, hP1, hK1, hD1⟩ := hB
  rw [ht] at hP1
  have hK1 := va_K.moved hvm.symm hK1
  obtain ⟨hP, hD⟩ := va_join (wr := []) (w1 := [(h, .inr (5, [.ref we, .ref to, .ref sp, .ref da, .ref cr, .ref pl, .ref sd, .ref pu, .ref pk, .int 1, .long tb2_1606])), (we, .inl (cwe, 4, .inl (upd (fun _ => 0) 0 1))), (sp, .inl (csp, 4, .inl fsp)), (da, .inl (cda, 4, .inl fda)), (pl, .inl (cpl, 4, .inr (.inl gpl_1602))), (sd, .inl (csd, 4, .inr (.inl gsd_1603))), (pu, .inl (cpu, 4, .inr (.inl gpu_1604))), (pk, .inl (cpk, 4, .inl gpk_1605))]) hP hD [4, 0, 1, 2, 5, 6, 3, 7] [] rfl rfl (by decide) (by decide) hk1 hFc hP1 hD1
  have hK := (hK.sub (tys' := []) [] rfl).app hK1
  generalize H1 = H at hP hS ⊢
  have hP : va_P (dC, dI) vwCl [(h, .inr (5, [.ref we, .ref to, .ref sp, .ref da, .ref cr, .ref pl, .ref sd, .ref pu, .ref pk, .int 1, .long tb2_1606])), (we, .inl (cwe, 4, .inl (upd (fun _ => 0) 0 1))), (sp, .inl (csp, 4, .inl fsp)), (da, .inl (cda, 4, .inl fda)), (pl, .inl (cpl, 4, .inr (.inl gpl_1602))), (sd, .inl (csd, 4, .inr (.inl gsd_1603))), (pu, .inl (cpu, 4, .inr (.inl gpu_1604))), (pk, .inl (cpk, 4, .inl gpk_1605))] H := hP
  have hD : va_D A [(h, .inr (5, [.ref we, .ref to, .ref sp, .ref da, .ref cr, .ref pl, .ref sd, .ref pu, .ref pk, .int 1, .long tb2_1606])), (we, .inl (cwe, 4, .inl (upd (fun _ => 0) 0 1))), (sp, .inl (csp, 4, .inl fsp)), (da, .inl (cda, 4, .inl fda)), (pl, .inl (cpl, 4, .inr (.inl gpl_1602))), (sd, .inl (csd, 4, .inr (.inl gsd_1603))), (pu, .inl (cpu, 4, .inr (.inl gpu_1604))), (pk, .inl (cpk, 4, .inl gpk_1605))] := hD
  have hK : va_K (dC, dI) vwCl [(cwe, .int), (csp, .int), (cda, .int), (cpl, .long), (csd, .long), (cpu, .long), (cpk, .int)] s := hK
  refine W.widen (k := 0) (n := 0) (Nat.le_of_ble_eq_true rfl) (Nat.le_of_ble_eq_true rfl) ?_
  have hP9 := hP.sub (ws' := [(h, .inr (5, [.ref we, .ref to, .ref sp, .ref da, .ref cr, .ref pl, .ref sd, .ref pu, .ref pk, .int 1, .long tb2_1606])), (we, .inl (cwe, 4, .inl (upd (fun _ => 0) 0 1))), (sp, .inl (csp, 4, .inl fsp)), (da, .inl (cda, 4, .inl fda)), (pl, .inl (cpl, 4, .inr (.inl gpl_1602))), (sd, .inl (csd, 4, .inr (.inl gsd_1603))), (pu, .inl (cpu, 4, .inr (.inl gpu_1604))), (pk, .inl (cpk, 4, .inl gpk_1605))]) [0, 1, 2, 3, 4, 5, 6, 7] rfl
  have hD9 := hD.sub (ws' := [(h, .inr (5, [.ref we, .ref to, .ref sp, .ref da, .ref cr, .ref pl, .ref sd, .ref pu, .ref pk, .int 1, .long tb2_1606])), (we, .inl (cwe, 4, .inl (upd (fun _ => 0) 0 1))), (sp, .inl (csp, 4, .inl fsp)), (da, .inl (cda, 4, .inl fda)), (pl, .inl (cpl, 4, .inr (.inl gpl_1602))), (sd, .inl (csd, 4, .inr (.inl gsd_1603))), (pu, .inl (cpu, 4, .inr (.inl gpu_1604))), (pk, .inl (cpk, 4, .inl gpk_1605))]) [0, 1, 2, 3, 4, 5, 6, 7] (by decide) rfl
  have hK9 := hK.sub (tys' := [(cwe, .int), (csp, .int), (cda, .int), (cpl, .long), (csd, .long), (cpu, .long), (cpk, .int)]) [0, 1, 2, 3, 4, 5, 6] rfl
  refine W.widen (k := 0) (n := 0) (Nat.le_of_ble_eq_true rfl) (Nat.le_of_ble_eq_true rfl) ?_
  exact W.vret hx hb hr (fun t ht hW => ⟨⟨(), rfl, trivial, ⟨gpl_1602, gsd_1603, gpu_1604, gpk_1605, tb2_1606, by rw [ht]; exact hP9, va_K.moved hW.alike hK9, hD9⟩⟩, hS.F ht⟩) hS.2.2 dX0_playTone_12
set_option maxHeartbeats 4000000 in
set_option maxRecDepth 100000 in
theorem r_lastPeak (l : Launch) (dC : Nat → ClassId) (dI : Nat → Nat → Nat) (sz : Nat) (h : Nat) (we : Nat) (to : Nat) (sp : Nat) (da : Nat) (cr : Nat) (pl : Nat) (sd : Nat) (pu : Nat) (pk : Nat) (cpk : ClassId) (fpk : Nat → Int32) (tb : Int64) : Met l yX0_lastPeak (pw_ws yX0_lastPeak cX0_lastPeak 1 (some .int)) ({ frames := 1, cells := 0, slots := 0, locals := 20 } : Room) (va_Pc [.ref h] (fun U => U.heap.size = sz ∧ va_P (dC, dI) vwCl [(h, .inr (5, [.ref we, .ref to, .ref sp, .ref da, .ref cr, .ref pl, .ref sd, .ref pu, .ref pk, .int 1, .long tb])), (pk, .inl (cpk, 4, .inl fpk))] U.heap ∧ va_K (dC, dI) vwCl [(cpk, .int)] U ∧ va_D (fun _ => True) [(h, .inr (5, [.ref we, .ref to, .ref sp, .ref da, .ref cr, .ref pl, .ref sd, .ref pu, .ref pk, .int 1, .long tb])), (pk, .inl (cpk, 4, .inl fpk))])) (va_Qi (fun (_ : Int32) (_ : Unit) => True) (fun (_ : Unit) (t : State) => va_P (dC, dI) vwCl [(h, .inr (5, [.ref we, .ref to, .ref sp, .ref da, .ref cr, .ref pl, .ref sd, .ref pu, .ref pk, .int 1, .long tb])), (pk, .inl (cpk, 4, .inl fpk))] t.heap ∧ va_K (dC, dI) vwCl [(cpk, .int)] t ∧ va_D (va_A [(h, .inr (5, [.ref we, .ref to, .ref sp, .ref da, .ref cr, .ref pl, .ref sd, .ref pu, .ref pk, .int 1, .long tb])), (pk, .inl (cpk, 4, .inl fpk))] sz) [(h, .inr (5, [.ref we, .ref to, .ref sp, .ref da, .ref cr, .ref pl, .ref sd, .ref pu, .ref pk, .int 1, .long tb])), (pk, .inl (cpk, 4, .inl fpk))]) (va_A [(h, .inr (5, [.ref we, .ref to, .ref sp, .ref da, .ref cr, .ref pl, .ref sd, .ref pu, .ref pk, .int 1, .long tb])), (pk, .inl (cpk, 4, .inl fpk))] sz)) 0 0 (va_A [(h, .inr (5, [.ref we, .ref to, .ref sp, .ref da, .ref cr, .ref pl, .ref sd, .ref pu, .ref pk, .int 1, .long tb])), (pk, .inl (cpk, 4, .inl fpk))] sz) := by
  refine Met.ofW (cc := cX0_lastPeak) (maxL := 1) (ret := (some .int)) (by decide) rfl ?_
  intro p e s m args below meth c s₁ B hml hv
  obtain ⟨rfl, hsz, hP, hK, hD0⟩ := hv
  have hx := B.exec
  have hb := B.bytes
  have hr := B.returns
  have hts0 := atoms_spec (ws := (pw_ws yX0_lastPeak cX0_lastPeak 1 (some .int))) B.pre
  have hts : ∀ w ∈ pw_all, w.before _ s = true := fun w h => hts0 w (List.mem_cons_of_mem _ h)
  have hown : s.vm.findClass RX0 = some m.cls := findClass_of_methodNamed B.named
  have hlocks := B.notSynchronized
  subst hsz
  have hD := hD0.self (sz := s.heap.size)
  generalize hAe : va_A [(h, .inr (5, [.ref we, .ref to, .ref sp, .ref da, .ref cr, .ref pl, .ref sd, .ref pu, .ref pk, .int 1, .long tb])), (pk, .inl (cpk, 4, .inl fpk))] s.heap.size = A at hD ⊢
  have hA : ∀ q : Nat, s.heap.size ≤ q → A q := fun q h => by rw [← hAe]; exact Or.inr h
  have hS : va_S A s.heap s.heap [] := va_S.rf
  have hP : va_P (dC, dI) vwCl [(h, .inr (5, [.ref we, .ref to, .ref sp, .ref da, .ref cr, .ref pl, .ref sd, .ref pu, .ref pk, .int 1, .long tb])), (pk, .inl (cpk, 4, .inl fpk))] s.heap := hP
  have hl := lv_entry ([.ref h]) (n := 1) (Nat.le_of_ble_eq_true rfl)
  rw [lg_entry_eq]
  generalize (lg_sl ([.ref h]) ++ List.replicate (1 - (lg_sl ([.ref h])).length) Slot.unset).toArray = ls at hl ⊢
  have hl : lv_has ls 1 [(0, .ref h)] := hl
  skip
  refine lv_aload_n hx hb dX0_lastPeak_0 rfl (lv_at hl 0 rfl) ?_
  refine va_get (D := (dC, dI)) (ci := 5) (v := .int 1) (C := RX0) (T := TX0) (N := 11) hx hb hts inX0 hown hK hP 0 rfl rfl 9 (by decide) (hts _ q165) (fun _ h9 => h9) rfl dX0_lastPeak_1 ?_
  refine lv_iconst (v := 1) hx hb dX0_lastPeak_4 (by decide) ?_
  refine lv_icmp_ge (tgt := 12) hx hb dX0_lastPeak_5 (by decide) (fun c_1607 => ?_) (fun c_1607 => absurd (by decide) c_1607)
  refine lv_aload_n hx hb dX0_lastPeak_12 rfl (lv_at hl 0 rfl) ?_
  refine va_get (D := (dC, dI)) (ci := 5) (v := .ref pk) (C := RX0) (T := TX0) (N := 11) hx hb hts inX0 hown hK hP 0 rfl rfl 8 (by decide) (hts _ q162) (fun _ h9 => h9) rfl dX0_lastPeak_13 ?_
  refine lv_aload_n hx hb dX0_lastPeak_16 rfl (lv_at hl 0 rfl) ?_
  refine va_get (D := (dC, dI)) (ci := 5) (v := .int 1) (C := RX0) (T := TX0) (N := 11) hx hb hts inX0 hown hK hP 0 rfl rfl 9 (by decide) (hts _ q165) (fun _ h9 => h9) rfl dX0_lastPeak_17 ?_
  refine lv_iconst (v := 1) hx hb dX0_lastPeak_20 (by decide) ?_
  refine lv_isub hx hb dX0_lastPeak_21 ?_
  refine lv_numI (v := 0) (by decide) ?_
  refine va_iald hx hb hK hP 1 0 rfl rfl (by unfold vp_in; decide) dX0_lastPeak_22 ?_
  refine lv_topi (fun x_1608 ex_1608 => ?_)
  have hP9 := hP.sub (ws' := [(h, .inr (5, [.ref we, .ref to, .ref sp, .ref da, .ref cr, .ref pl, .ref sd, .ref pu, .ref pk, .int 1, .long tb])), (pk, .inl (cpk, 4, .inl fpk))]) [0, 1] rfl
  have hD9 := hD.sub (ws' := [(h, .inr (5, [.ref we, .ref to, .ref sp, .ref da, .ref cr, .ref pl, .ref sd, .ref pu, .ref pk, .int 1, .long tb])), (pk, .inl (cpk, 4, .inl fpk))]) [0, 1] (by decide) rfl
  have hK9 := hK.sub (tys' := [(cpk, .int)]) [0] rfl
  refine W.widen (k := 0) (n := 0) (Nat.le_of_ble_eq_true rfl) (Nat.le_of_ble_eq_true rfl) ?_
  exact W.iret (v := x_1608) hx hb hr (fun t ht hW => ⟨⟨x_1608, (), rfl, trivial, ⟨by rw [ht]; exact hP9, va_K.moved hW.alike hK9, hD9⟩⟩, hS.F ht⟩) hS.2.2 dX0_lastPeak_23
set_option maxHeartbeats 4000000 in
set_option maxRecDepth 100000 in
theorem r_findResonance (l : Launch) (dC : Nat → ClassId) (dI : Nat → Nat → Nat) (sz : Nat) (h : Nat) (we : Nat) (to : Nat) (sp : Nat) (da : Nat) (cr : Nat) (pl : Nat) (sd : Nat) (pu : Nat) (pk : Nat) (cwe : ClassId) (csp : ClassId) (cda : ClassId) (cpl : ClassId) (csd : ClassId) (cpu : ClassId) (cpk : ClassId) (fsp : Nat → Int32) (fda : Nat → Int32) (fpl : Nat → Int64) (fsd : Nat → Int64) (fpu : Nat → Int64) (fpk : Nat → Int32) (tb : Int64) : Met l yX0_findResonance (pw_ws yX0_findResonance cX0_findResonance 4 (some .int)) ({ frames := 5, cells := 0, slots := 0, locals := 130 } : Room) (va_Pc [.ref h] (fun U => U.heap.size = sz ∧ va_P (dC, dI) vwCl [(h, .inr (5, [.ref we, .ref to, .ref sp, .ref da, .ref cr, .ref pl, .ref sd, .ref pu, .ref pk, .int 1, .long tb])), (we, .inl (cwe, 4, .inl (upd (fun _ => 0) 0 1))), (sp, .inl (csp, 4, .inl fsp)), (da, .inl (cda, 4, .inl fda)), (pl, .inl (cpl, 4, .inr (.inl fpl))), (sd, .inl (csd, 4, .inr (.inl fsd))), (pu, .inl (cpu, 4, .inr (.inl fpu))), (pk, .inl (cpk, 4, .inl fpk))] U.heap ∧ va_K (dC, dI) vwCl [(cwe, .int), (csp, .int), (cda, .int), (cpl, .long), (csd, .long), (cpu, .long), (cpk, .int)] U ∧ va_D (fun _ => True) [(h, .inr (5, [.ref we, .ref to, .ref sp, .ref da, .ref cr, .ref pl, .ref sd, .ref pu, .ref pk, .int 1, .long tb])), (we, .inl (cwe, 4, .inl (upd (fun _ => 0) 0 1))), (sp, .inl (csp, 4, .inl fsp)), (da, .inl (cda, 4, .inl fda)), (pl, .inl (cpl, 4, .inr (.inl fpl))), (sd, .inl (csd, 4, .inr (.inl fsd))), (pu, .inl (cpu, 4, .inr (.inl fpu))), (pk, .inl (cpk, 4, .inl fpk))])) (va_Qi (fun (_ : Int32) (_ : Unit) => True) (fun (_ : Unit) (t : State) => ∃ (gpl : Nat → Int64), ∃ (gsd : Nat → Int64), ∃ (gpu : Nat → Int64), ∃ (gpk : Nat → Int32), ∃ (tb2 : Int64), va_P (dC, dI) vwCl [(h, .inr (5, [.ref we, .ref to, .ref sp, .ref da, .ref cr, .ref pl, .ref sd, .ref pu, .ref pk, .int 1, .long tb2])), (we, .inl (cwe, 4, .inl (upd (fun _ => 0) 0 1))), (sp, .inl (csp, 4, .inl fsp)), (da, .inl (cda, 4, .inl fda)), (pl, .inl (cpl, 4, .inr (.inl gpl))), (sd, .inl (csd, 4, .inr (.inl gsd))), (pu, .inl (cpu, 4, .inr (.inl gpu))), (pk, .inl (cpk, 4, .inl gpk))] t.heap ∧ va_K (dC, dI) vwCl [(cwe, .int), (csp, .int), (cda, .int), (cpl, .long), (csd, .long), (cpu, .long), (cpk, .int)] t ∧ va_D (va_A [(h, .inr (5, [.ref we, .ref to, .ref sp, .ref da, .ref cr, .ref pl, .ref sd, .ref pu, .ref pk, .int 1, .long tb])), (we, .inl (cwe, 4, .inl (upd (fun _ => 0) 0 1))), (sp, .inl (csp, 4, .inl fsp)), (da, .inl (cda, 4, .inl fda)), (pl, .inl (cpl, 4, .inr (.inl fpl))), (sd, .inl (csd, 4, .inr (.inl fsd))), (pu, .inl (cpu, 4, .inr (.inl fpu))), (pk, .inl (cpk, 4, .inl fpk))] sz) [(h, .inr (5, [.ref we, .ref to, .ref sp, .ref da, .ref cr, .ref pl, .ref sd, .ref pu, .ref pk, .int 1, .long tb2])), (we, .inl (cwe, 4, .inl (upd (fun _ => 0) 0 1))), (sp, .inl (csp, 4, .inl fsp)), (da, .inl (cda, 4, .inl fda)), (pl, .inl (cpl, 4, .inr (.inl gpl))), (sd, .inl (csd, 4, .inr (.inl gsd))), (pu, .inl (cpu, 4, .inr (.inl gpu))), (pk, .inl (cpk, 4, .inl gpk))]) (va_A [(h, .inr (5, [.ref we, .ref to, .ref sp, .ref da, .ref cr, .ref pl, .ref sd, .ref pu, .ref pk, .int 1, .long tb])), (we, .inl (cwe, 4, .inl (upd (fun _ => 0) 0 1))), (sp, .inl (csp, 4, .inl fsp)), (da, .inl (cda, 4, .inl fda)), (pl, .inl (cpl, 4, .inr (.inl fpl))), (sd, .inl (csd, 4, .inr (.inl fsd))), (pu, .inl (cpu, 4, .inr (.inl fpu))), (pk, .inl (cpk, 4, .inl fpk))] sz)) 0 0 (va_A [(h, .inr (5, [.ref we, .ref to, .ref sp, .ref da, .ref cr, .ref pl, .ref sd, .ref pu, .ref pk, .int 1, .long tb])), (we, .inl (cwe, 4, .inl (upd (fun _ => 0) 0 1))), (sp, .inl (csp, 4, .inl fsp)), (da, .inl (cda, 4, .inl fda)), (pl, .inl (cpl, 4, .inr (.inl fpl))), (sd, .inl (csd, 4, .inr (.inl fsd))), (pu, .inl (cpu, 4, .inr (.inl fpu))), (pk, .inl (cpk, 4, .inl fpk))] sz) := by
  refine Met.ofW (cc := cX0_findResonance) (maxL := 4) (ret := (some .int)) (by decide) rfl ?_
  intro p e s m args below meth c s₁ B hml hv
  obtain ⟨rfl, hsz, hP, hK, hD0⟩ := hv
  have hx := B.exec
  have hb := B.bytes
  have hr := B.returns
  have hts0 := atoms_spec (ws := (pw_ws yX0_findResonance cX0_findResonance 4 (some .int))) B.pre
  have hts : ∀ w ∈ pw_all, w.before _ s = true := fun w h => hts0 w (List.mem_cons_of_mem _ h)
  have hown : s.vm.findClass RX0 = some m.cls := findClass_of_methodNamed B.named
  have hlocks := B.notSynchronized
  subst hsz
  have hD := hD0.self (sz := s.heap.size)
  generalize hAe : va_A [(h, .inr (5, [.ref we, .ref to, .ref sp, .ref da, .ref cr, .ref pl, .ref sd, .ref pu, .ref pk, .int 1, .long tb])), (we, .inl (cwe, 4, .inl (upd (fun _ => 0) 0 1))), (sp, .inl (csp, 4, .inl fsp)), (da, .inl (cda, 4, .inl fda)), (pl, .inl (cpl, 4, .inr (.inl fpl))), (sd, .inl (csd, 4, .inr (.inl fsd))), (pu, .inl (cpu, 4, .inr (.inl fpu))), (pk, .inl (cpk, 4, .inl fpk))] s.heap.size = A at hD ⊢
  have hA : ∀ q : Nat, s.heap.size ≤ q → A q := fun q h => by rw [← hAe]; exact Or.inr h
  have hS : va_S A s.heap s.heap [] := va_S.rf
  have hP : va_P (dC, dI) vwCl [(h, .inr (5, [.ref we, .ref to, .ref sp, .ref da, .ref cr, .ref pl, .ref sd, .ref pu, .ref pk, .int 1, .long tb])), (we, .inl (cwe, 4, .inl (upd (fun _ => 0) 0 1))), (sp, .inl (csp, 4, .inl fsp)), (da, .inl (cda, 4, .inl fda)), (pl, .inl (cpl, 4, .inr (.inl fpl))), (sd, .inl (csd, 4, .inr (.inl fsd))), (pu, .inl (cpu, 4, .inr (.inl fpu))), (pk, .inl (cpk, 4, .inl fpk))] s.heap := hP
  have hl := lv_entry ([.ref h]) (n := 4) (Nat.le_of_ble_eq_true rfl)
  rw [lg_entry_eq]
  generalize (lg_sl ([.ref h]) ++ List.replicate (4 - (lg_sl ([.ref h])).length) Slot.unset).toArray = ls at hl ⊢
  have hl : lv_has ls 4 [(0, .ref h)] := hl
  skip
  refine pl_name (fun QQ hQQ => ?_)
  refine lv_iconst (v := 4) hx hb dX0_findResonance_0 (by decide) ?_
  refine lv_istore_n (lv' := [(1, .int 4), (0, .ref h)]) hx hb dX0_findResonance_1 rfl hl (by decide) rfl (fun ls hl => ?_)
  refine lv_iconst (v := -1) hx hb dX0_findResonance_2 (by decide) ?_
  refine lv_istore_n (lv' := [(2, .int (-1)), (1, .int 4), (0, .ref h)]) hx hb dX0_findResonance_3 rfl hl (by decide) rfl (fun ls hl => ?_)
  refine lv_iconst (v := 4) hx hb dX0_findResonance_4 (by decide) ?_
  refine lv_istore_n (lv' := [(3, .int 4), (2, .int (-1)), (1, .int 4), (0, .ref h)]) hx hb dX0_findResonance_5 rfl hl (by decide) rfl (fun ls hl => ?_)
  have loop6 : ∀ (n k : Nat), (4 ≤ k ∧ k + n = 65) → ∀ (vm : Int32) (vf : Int32) (tbk : Int64) (F_1609 : Nat → Int64) (F_1610 : Nat → Int64) (F_1611 : Nat → Int64) (F_1612 : Nat → Int32) (H : Heap) (locs : List Loc), va_K (dC, dI) vwCl [(cwe, .int), (csp, .int), (cda, .int), (cpl, .long), (csd, .long), (cpu, .long), (cpk, .int)] s → va_P (dC, dI) vwCl [(h, .inr (5, [.ref we, .ref to, .ref sp, .ref da, .ref cr, .ref pl, .ref sd, .ref pu, .ref pk, .int 1, .long tbk])), (we, .inl (cwe, 4, .inl (upd (fun _ => 0) 0 1))), (sp, .inl (csp, 4, .inl fsp)), (da, .inl (cda, 4, .inl fda)), (pl, .inl (cpl, 4, .inr (.inl F_1609))), (sd, .inl (csd, 4, .inr (.inl F_1610))), (pu, .inl (cpu, 4, .inr (.inl F_1611))), (pk, .inl (cpk, 4, .inl F_1612))] H → va_D A [(h, .inr (5, [.ref we, .ref to, .ref sp, .ref da, .ref cr, .ref pl, .ref sd, .ref pu, .ref pk, .int 1, .long tbk])), (we, .inl (cwe, 4, .inl (upd (fun _ => 0) 0 1))), (sp, .inl (csp, 4, .inl fsp)), (da, .inl (cda, 4, .inl fda)), (pl, .inl (cpl, 4, .inr (.inl F_1609))), (sd, .inl (csd, 4, .inr (.inl F_1610))), (pu, .inl (cpu, 4, .inr (.inl F_1611))), (pk, .inl (cpk, 4, .inl F_1612))] → va_S A s.heap H locs → ∀ (ls : Array Slot), lv_has ls 4 [(3, .int (nI k)), (2, .int vm), (1, .int vf), (0, .ref h)] → W p l e (headSpec (pw_ws yX0_findResonance cX0_findResonance 4 (some .int)) ({ frames := 5, cells := 0, slots := 0, locals := 130 } : Room)).room s m ([.ref h] : List Value).toArray below meth c H locs (0) (0) QQ (F0 m 6 ls []) := by
    intro n
    induction n with
    | zero =>
      intro k hk vm vf tbk F_1609 F_1610 F_1611 F_1612 H locs hK hP hD hS ls hl
      have hkN : k = 65 := by omega
      refine lv_iload_n hx hb dX0_findResonance_6 rfl (lv_at hl 0 rfl) ?_
      refine lv_bipush (v := 64) hx hb dX0_findResonance_7 (by decide) ?_
      refine lv_icmp_gt (tgt := 38) hx hb dX0_findResonance_9 (by decide) (fun c_1613 => ?_) (fun c_1613 => absurd (by rw [hkN]; decide) c_1613)
      refine lv_iload_n hx hb dX0_findResonance_38 rfl (lv_at hl 2 rfl) ?_
      have hP9 := hP.sub (ws' := [(h, .inr (5, [.ref we, .ref to, .ref sp, .ref da, .ref cr, .ref pl, .ref sd, .ref pu, .ref pk, .int 1, .long tbk])), (we, .inl (cwe, 4, .inl (upd (fun _ => 0) 0 1))), (sp, .inl (csp, 4, .inl fsp)), (da, .inl (cda, 4, .inl fda)), (pl, .inl (cpl, 4, .inr (.inl F_1609))), (sd, .inl (csd, 4, .inr (.inl F_1610))), (pu, .inl (cpu, 4, .inr (.inl F_1611))), (pk, .inl (cpk, 4, .inl F_1612))]) [0, 1, 2, 3, 4, 5, 6, 7] rfl
      have hD9 := hD.sub (ws' := [(h, .inr (5, [.ref we, .ref to, .ref sp, .ref da, .ref cr, .ref pl, .ref sd, .ref pu, .ref pk, .int 1, .long tbk])), (we, .inl (cwe, 4, .inl (upd (fun _ => 0) 0 1))), (sp, .inl (csp, 4, .inl fsp)), (da, .inl (cda, 4, .inl fda)), (pl, .inl (cpl, 4, .inr (.inl F_1609))), (sd, .inl (csd, 4, .inr (.inl F_1610))), (pu, .inl (cpu, 4, .inr (.inl F_1611))), (pk, .inl (cpk, 4, .inl F_1612))]) [0, 1, 2, 3, 4, 5, 6, 7] (by decide) rfl
      have hK9 := hK.sub (tys' := [(cwe, .int), (csp, .int), (cda, .int), (cpl, .long), (csd, .long), (cpu, .long), (cpk, .int)]) [0, 1, 2, 3, 4, 5, 6] rfl
      refine W.widen (k := 0) (n := 0) (Nat.le_of_ble_eq_true rfl) (Nat.le_of_ble_eq_true rfl) ?_
      subst hQQ
      exact W.iret (v := vf) hx hb hr (fun t ht hW => ⟨⟨vf, (), rfl, trivial, ⟨F_1609, F_1610, F_1611, F_1612, tbk, by rw [ht]; exact hP9, va_K.moved hW.alike hK9, hD9⟩⟩, hS.F ht⟩) hS.2.2 dX0_findResonance_39
    | succ n ih =>
      intro k hk vm vf tbk F_1609 F_1610 F_1611 F_1612 H locs hK hP hD hS ls hl
      have hkN : k < 65 := by omega
      refine lv_iload_n hx hb dX0_findResonance_6 rfl (lv_at hl 0 rfl) ?_
      refine lv_bipush (v := 64) hx hb dX0_findResonance_7 (by decide) ?_
      refine lv_icmp_gt (tgt := 38) hx hb dX0_findResonance_9 (by decide) (fun c_1614 => absurd c_1614 (nI_nlt (a := 64) (b := k) (by omega) (by decide))) (fun c_1614 => ?_)
      refine lv_aload_n hx hb dX0_findResonance_12 rfl (lv_at hl 3 rfl) ?_
      refine lv_iload_n hx hb dX0_findResonance_13 rfl (lv_at hl 0 rfl) ?_
      have hPc := hP.sub (ws' := [(h, .inr (5, [.ref we, .ref to, .ref sp, .ref da, .ref cr, .ref pl, .ref sd, .ref pu, .ref pk, .int 1, .long tbk])), (we, .inl (cwe, 4, .inl (upd (fun _ => 0) 0 1))), (sp, .inl (csp, 4, .inl fsp)), (da, .inl (cda, 4, .inl fda)), (pl, .inl (cpl, 4, .inr (.inl F_1609))), (sd, .inl (csd, 4, .inr (.inl F_1610))), (pu, .inl (cpu, 4, .inr (.inl F_1611))), (pk, .inl (cpk, 4, .inl F_1612))]) [0, 1, 2, 3, 4, 5, 6, 7] rfl
      have hDc := hD.sub (ws' := [(h, .inr (5, [.ref we, .ref to, .ref sp, .ref da, .ref cr, .ref pl, .ref sd, .ref pu, .ref pk, .int 1, .long tbk])), (we, .inl (cwe, 4, .inl (upd (fun _ => 0) 0 1))), (sp, .inl (csp, 4, .inl fsp)), (da, .inl (cda, 4, .inl fda)), (pl, .inl (cpl, 4, .inr (.inl F_1609))), (sd, .inl (csd, 4, .inr (.inl F_1610))), (pu, .inl (cpu, 4, .inr (.inl F_1611))), (pk, .inl (cpk, 4, .inl F_1612))]) [0, 1, 2, 3, 4, 5, 6, 7] (by decide) rfl
      have hKc := hK.sub (tys' := [(cwe, .int), (csp, .int), (cda, .int), (cpl, .long), (csd, .long), (cpu, .long), (cpk, .int)]) [0, 1, 2, 3, 4, 5, 6] rfl
      have hFc := va_free (wc := [(h, .inr (5, [.ref we, .ref to, .ref sp, .ref da, .ref cr, .ref pl, .ref sd, .ref pu, .ref pk, .int 1, .long tbk])), (we, .inl (cwe, 4, .inl (upd (fun _ => 0) 0 1))), (sp, .inl (csp, 4, .inl fsp)), (da, .inl (cda, 4, .inl fda)), (pl, .inl (cpl, 4, .inr (.inl F_1609))), (sd, .inl (csd, 4, .inr (.inl F_1610))), (pu, .inl (cpu, 4, .inr (.inl F_1611))), (pk, .inl (cpk, 4, .inl F_1612))]) hD hS hA [0, 1, 2, 3, 4, 5, 6, 7] rfl
      refine va_callv (va_runV (As := [.int (nI k)]) (rest := []) ⟨hx, hb, hml, hown, hts⟩ (r_playTone l dC dI H.size h we to sp da cr pl sd pu pk cwe csp cda cpl csd cpu cpk fsp fda F_1609 F_1610 F_1611 F_1612 tbk (nI k) (nI_ne0 (by omega) (by omega))) (cwV 1 hts (pw_V q646 q586 q587 q48 q588) rfl rfl rfl (by decide +kernel) ⟨(Nat.le_of_ble_eq_true rfl), (Nat.le_of_ble_eq_true rfl)⟩) ⟨fun a U g mk q => by obtain ⟨q0, q1, qP, qK, qD⟩ := q; exact ⟨q0, q1, qP, va_K.moved (u := U) (U := U.calling g mk a) (Vm.Alike.refl U.vm) qK, qD⟩, va_recv hKc hPc (ci := 5) (q0 := 0) rfl rfl, fun U hU hW => ⟨rfl, by rw [hU], by rw [hU]; exact hPc, va_K.moved hW.alike hKc, hDc.weaken (fun _ _ _ _ => trivial)⟩⟩ rfl rfl hl.1 rfl (lv_room (Nat.le_of_ble_eq_true rfl)) dX0_findResonance_14 ⟨(Nat.le_of_ble_eq_true rfl), (Nat.le_of_ble_eq_true rfl)⟩) hS (fun q _ h => hFc q h) hFc (fun u t H1 locs ht hvm hw hB hz1 hk1 hS => ?_)
      obtain ⟨gpl_1616, gsd_1617, gpu_1618, gpk_1619, tb2_1620, hP1, hK1, hD1⟩ := hB
      rw [ht] at hP1
      have hK1 := va_K.moved hvm.symm hK1
      obtain ⟨hP, hD⟩ := va_join (wr := []) (w1 := [(h, .inr (5, [.ref we, .ref to, .ref sp, .ref da, .ref cr, .ref pl, .ref sd, .ref pu, .ref pk, .int 1, .long tb2_1620])), (we, .inl (cwe, 4, .inl (upd (fun _ => 0) 0 1))), (sp, .inl (csp, 4, .inl fsp)), (da, .inl (cda, 4, .inl fda)), (pl, .inl (cpl, 4, .inr (.inl gpl_1616))), (sd, .inl (csd, 4, .inr (.inl gsd_1617))), (pu, .inl (cpu, 4, .inr (.inl gpu_1618))), (pk, .inl (cpk, 4, .inl gpk_1619))]) hP hD [0, 1, 2, 3, 4, 5, 6, 7] [] rfl rfl (by decide) (by decide) hk1 hFc hP1 hD1
      have hK := (hK.sub (tys' := []) [] rfl).app hK1
      generalize H1 = H at hP hS ⊢
      have hP : va_P (dC, dI) vwCl [(h, .inr (5, [.ref we, .ref to, .ref sp, .ref da, .ref cr, .ref pl, .ref sd, .ref pu, .ref pk, .int 1, .long tb2_1620])), (we, .inl (cwe, 4, .inl (upd (fun _ => 0) 0 1))), (sp, .inl (csp, 4, .inl fsp)), (da, .inl (cda, 4, .inl fda)), (pl, .inl (cpl, 4, .inr (.inl gpl_1616))), (sd, .inl (csd, 4, .inr (.inl gsd_1617))), (pu, .inl (cpu, 4, .inr (.inl gpu_1618))), (pk, .inl (cpk, 4, .inl gpk_1619))] H := hP
      have hD : va_D A [(h, .inr (5, [.ref we, .ref to, .ref sp, .ref da, .ref cr, .ref pl, .ref sd, .ref pu, .ref pk, .int 1, .long tb2_1620])), (we, .inl (cwe, 4, .inl (upd (fun _ => 0) 0 1))), (sp, .inl (csp, 4, .inl fsp)), (da, .inl (cda, 4, .inl fda)), (pl, .inl (cpl, 4, .inr (.inl gpl_1616))), (sd, .inl (csd, 4, .inr (.inl gsd_1617))), (pu, .inl (cpu, 4, .inr (.inl gpu_1618))), (pk, .inl (cpk, 4, .inl gpk_1619))] := hD
      have hK : va_K (dC, dI) vwCl [(cwe, .int), (csp, .int), (cda, .int), (cpl, .long), (csd, .long), (cpu, .long), (cpk, .int)] s := hK
      refine W.widen (k := 0) (n := 0) (Nat.le_of_ble_eq_true rfl) (Nat.le_of_ble_eq_true rfl) ?_
      refine lv_aload_n hx hb dX0_findResonance_17 rfl (lv_at hl 3 rfl) ?_
      have hPc := hP.sub (ws' := [(h, .inr (5, [.ref we, .ref to, .ref sp, .ref da, .ref cr, .ref pl, .ref sd, .ref pu, .ref pk, .int 1, .long tb2_1620])), (pk, .inl (cpk, 4, .inl gpk_1619))]) [0, 7] rfl
      have hDc := hD.sub (ws' := [(h, .inr (5, [.ref we, .ref to, .ref sp, .ref da, .ref cr, .ref pl, .ref sd, .ref pu, .ref pk, .int 1, .long tb2_1620])), (pk, .inl (cpk, 4, .inl gpk_1619))]) [0, 7] (by decide) rfl
      have hKc := hK.sub (tys' := [(cpk, .int)]) [6] rfl
      have hFc := va_free (wc := [(h, .inr (5, [.ref we, .ref to, .ref sp, .ref da, .ref cr, .ref pl, .ref sd, .ref pu, .ref pk, .int 1, .long tb2_1620])), (pk, .inl (cpk, 4, .inl gpk_1619))]) hD hS hA [0, 7] rfl
      refine va_calli (va_runV (As := []) (rest := []) ⟨hx, hb, hml, hown, hts⟩ (r_lastPeak l dC dI H.size h we to sp da cr pl sd pu pk cpk gpk_1619 tb2_1620) (cwV 0 hts (pw_V q647 q648 q649 q48 q650) rfl rfl rfl (by decide +kernel) ⟨(Nat.le_of_ble_eq_true rfl), (Nat.le_of_ble_eq_true rfl)⟩) ⟨fun a U g mk q => by obtain ⟨q0, q1, qP, qK, qD⟩ := q; exact ⟨q0, q1, qP, va_K.moved (u := U) (U := U.calling g mk a) (Vm.Alike.refl U.vm) qK, qD⟩, va_recv hKc hPc (ci := 5) (q0 := 0) rfl rfl, fun U hU hW => ⟨rfl, by rw [hU], by rw [hU]; exact hPc, va_K.moved hW.alike hKc, hDc.weaken (fun _ _ _ _ => trivial)⟩⟩ rfl rfl hl.1 rfl (lv_room (Nat.le_of_ble_eq_true rfl)) dX0_findResonance_18 ⟨(Nat.le_of_ble_eq_true rfl), (Nat.le_of_ble_eq_true rfl)⟩) hS (fun q _ h => hFc q h) hFc (fun r_1621 u t H1 locs ht hvm hw hB hz1 hk1 hS => ?_)
      obtain ⟨hP1, hK1, hD1⟩ := hB
      rw [ht] at hP1
      have hK1 := va_K.moved hvm.symm hK1
      obtain ⟨hP, hD⟩ := va_join (wr := [(we, .inl (cwe, 4, .inl (upd (fun _ => 0) 0 1))), (sp, .inl (csp, 4, .inl fsp)), (da, .inl (cda, 4, .inl fda)), (pl, .inl (cpl, 4, .inr (.inl gpl_1616))), (sd, .inl (csd, 4, .inr (.inl gsd_1617))), (pu, .inl (cpu, 4, .inr (.inl gpu_1618)))]) (w1 := [(h, .inr (5, [.ref we, .ref to, .ref sp, .ref da, .ref cr, .ref pl, .ref sd, .ref pu, .ref pk, .int 1, .long tb2_1620])), (pk, .inl (cpk, 4, .inl gpk_1619))]) hP hD [0, 7] [1, 2, 3, 4, 5, 6] rfl rfl (by decide) (by decide) hk1 hFc hP1 hD1
      have hK := (hK.sub (tys' := [(cwe, .int), (csp, .int), (cda, .int), (cpl, .long), (csd, .long), (cpu, .long)]) [0, 1, 2, 3, 4, 5] rfl).app hK1
      generalize H1 = H at hP hS ⊢
      have hP : va_P (dC, dI) vwCl [(we, .inl (cwe, 4, .inl (upd (fun _ => 0) 0 1))), (sp, .inl (csp, 4, .inl fsp)), (da, .inl (cda, 4, .inl fda)), (pl, .inl (cpl, 4, .inr (.inl gpl_1616))), (sd, .inl (csd, 4, .inr (.inl gsd_1617))), (pu, .inl (cpu, 4, .inr (.inl gpu_1618))), (h, .inr (5, [.ref we, .ref to, .ref sp, .ref da, .ref cr, .ref pl, .ref sd, .ref pu, .ref pk, .int 1, .long tb2_1620])), (pk, .inl (cpk, 4, .inl gpk_1619))] H := hP
      have hD : va_D A [(we, .inl (cwe, 4, .inl (upd (fun _ => 0) 0 1))), (sp, .inl (csp, 4, .inl fsp)), (da, .inl (cda, 4, .inl fda)), (pl, .inl (cpl, 4, .inr (.inl gpl_1616))), (sd, .inl (csd, 4, .inr (.inl gsd_1617))), (pu, .inl (cpu, 4, .inr (.inl gpu_1618))), (h, .inr (5, [.ref we, .ref to, .ref sp, .ref da, .ref cr, .ref pl, .ref sd, .ref pu, .ref pk, .int 1, .long tb2_1620])), (pk, .inl (cpk, 4, .inl gpk_1619))] := hD
      have hK : va_K (dC, dI) vwCl [(cwe, .int), (csp, .int), (cda, .int), (cpl, .long), (csd, .long), (cpu, .long), (cpk, .int)] s := hK
      refine W.widen (k := 0) (n := 0) (Nat.le_of_ble_eq_true rfl) (Nat.le_of_ble_eq_true rfl) ?_
      refine lv_iload_n hx hb dX0_findResonance_21 rfl (lv_at hl 1 rfl) ?_
      refine lv_icmp_le (tgt := 32) hx hb dX0_findResonance_22 (by decide) (fun c_1622 => ?_) (fun c_1622 => ?_)
      · skip
        refine lv_iinc (v := (nI (k + 1))) (lv' := [(3, .int (nI (k + 1))), (2, .int vm), (1, .int vf), (0, .ref h)]) hx hb dX0_findResonance_32 hl (k := 0) rfl (by rw [show Int32.ofInt 1 = 1 from by decide]; exact nI_1 _) (by decide) rfl (fun ls hl => ?_)
        refine lv_goto (tgt := 6) hx hb dX0_findResonance_35 (by decide) ?_
        exact ih (k + 1) (by omega) vm vf tb2_1620 gpl_1616 gsd_1617 gpu_1618 gpk_1619 _ _ (hK.sub [0, 1, 2, 3, 4, 5, 6] rfl) (hP.sub [6, 0, 1, 2, 3, 4, 5, 7] rfl) (hD.sub [6, 0, 1, 2, 3, 4, 5, 7] (by decide) rfl) hS _ (lv_sub hl [0, 1, 2, 3] rfl)
      · skip
        refine lv_aload_n hx hb dX0_findResonance_25 rfl (lv_at hl 3 rfl) ?_
        have hPc := hP.sub (ws' := [(h, .inr (5, [.ref we, .ref to, .ref sp, .ref da, .ref cr, .ref pl, .ref sd, .ref pu, .ref pk, .int 1, .long tb2_1620])), (pk, .inl (cpk, 4, .inl gpk_1619))]) [6, 7] rfl
        have hDc := hD.sub (ws' := [(h, .inr (5, [.ref we, .ref to, .ref sp, .ref da, .ref cr, .ref pl, .ref sd, .ref pu, .ref pk, .int 1, .long tb2_1620])), (pk, .inl (cpk, 4, .inl gpk_1619))]) [6, 7] (by decide) rfl
        have hKc := hK.sub (tys' := [(cpk, .int)]) [6] rfl
        have hFc := va_free (wc := [(h, .inr (5, [.ref we, .ref to, .ref sp, .ref da, .ref cr, .ref pl, .ref sd, .ref pu, .ref pk, .int 1, .long tb2_1620])), (pk, .inl (cpk, 4, .inl gpk_1619))]) hD hS hA [6, 7] rfl
        refine va_calli (va_runV (As := []) (rest := []) ⟨hx, hb, hml, hown, hts⟩ (r_lastPeak l dC dI H.size h we to sp da cr pl sd pu pk cpk gpk_1619 tb2_1620) (cwV 0 hts (pw_V q647 q648 q649 q48 q650) rfl rfl rfl (by decide +kernel) ⟨(Nat.le_of_ble_eq_true rfl), (Nat.le_of_ble_eq_true rfl)⟩) ⟨fun a U g mk q => by obtain ⟨q0, q1, qP, qK, qD⟩ := q; exact ⟨q0, q1, qP, va_K.moved (u := U) (U := U.calling g mk a) (Vm.Alike.refl U.vm) qK, qD⟩, va_recv hKc hPc (ci := 5) (q0 := 0) rfl rfl, fun U hU hW => ⟨rfl, by rw [hU], by rw [hU]; exact hPc, va_K.moved hW.alike hKc, hDc.weaken (fun _ _ _ _ => trivial)⟩⟩ rfl rfl hl.1 rfl (lv_room (Nat.le_of_ble_eq_true rfl)) dX0_findResonance_26 ⟨(Nat.le_of_ble_eq_true rfl), (Nat.le_of_ble_eq_true rfl)⟩) hS (fun q _ h => hFc q h) hFc (fun r_1623 u t H1 locs ht hvm hw hB hz1 hk1 hS => ?_)
        obtain ⟨hP1, hK1, hD1⟩ := hB
        rw [ht] at hP1
        have hK1 := va_K.moved hvm.symm hK1
        obtain ⟨hP, hD⟩ := va_join (wr := [(we, .inl (cwe, 4, .inl (upd (fun _ => 0) 0 1))), (sp, .inl (csp, 4, .inl fsp)), (da, .inl (cda, 4, .inl fda)), (pl, .inl (cpl, 4, .inr (.inl gpl_1616))), (sd, .inl (csd, 4, .inr (.inl gsd_1617))), (pu, .inl (cpu, 4, .inr (.inl gpu_1618)))]) (w1 := [(h, .inr (5, [.ref we, .ref to, .ref sp, .ref da, .ref cr, .ref pl, .ref sd, .ref pu, .ref pk, .int 1, .long tb2_1620])), (pk, .inl (cpk, 4, .inl gpk_1619))]) hP hD [6, 7] [0, 1, 2, 3, 4, 5] rfl rfl (by decide) (by decide) hk1 hFc hP1 hD1
        have hK := (hK.sub (tys' := [(cwe, .int), (csp, .int), (cda, .int), (cpl, .long), (csd, .long), (cpu, .long)]) [0, 1, 2, 3, 4, 5] rfl).app hK1
        generalize H1 = H at hP hS ⊢
        have hP : va_P (dC, dI) vwCl [(we, .inl (cwe, 4, .inl (upd (fun _ => 0) 0 1))), (sp, .inl (csp, 4, .inl fsp)), (da, .inl (cda, 4, .inl fda)), (pl, .inl (cpl, 4, .inr (.inl gpl_1616))), (sd, .inl (csd, 4, .inr (.inl gsd_1617))), (pu, .inl (cpu, 4, .inr (.inl gpu_1618))), (h, .inr (5, [.ref we, .ref to, .ref sp, .ref da, .ref cr, .ref pl, .ref sd, .ref pu, .ref pk, .int 1, .long tb2_1620])), (pk, .inl (cpk, 4, .inl gpk_1619))] H := hP
        have hD : va_D A [(we, .inl (cwe, 4, .inl (upd (fun _ => 0) 0 1))), (sp, .inl (csp, 4, .inl fsp)), (da, .inl (cda, 4, .inl fda)), (pl, .inl (cpl, 4, .inr (.inl gpl_1616))), (sd, .inl (csd, 4, .inr (.inl gsd_1617))), (pu, .inl (cpu, 4, .inr (.inl gpu_1618))), (h, .inr (5, [.ref we, .ref to, .ref sp, .ref da, .ref cr, .ref pl, .ref sd, .ref pu, .ref pk, .int 1, .long tb2_1620])), (pk, .inl (cpk, 4, .inl gpk_1619))] := hD
        have hK : va_K (dC, dI) vwCl [(cwe, .int), (csp, .int), (cda, .int), (cpl, .long), (csd, .long), (cpu, .long), (cpk, .int)] s := hK
        refine W.widen (k := 0) (n := 0) (Nat.le_of_ble_eq_true rfl) (Nat.le_of_ble_eq_true rfl) ?_
        refine lv_istore_n (lv' := [(2, .int r_1623), (3, .int (nI k)), (1, .int vf), (0, .ref h)]) hx hb dX0_findResonance_29 rfl hl (by decide) rfl (fun ls hl => ?_)
        refine lv_iload_n hx hb dX0_findResonance_30 rfl (lv_at hl 1 rfl) ?_
        refine lv_istore_n (lv' := [(1, .int (nI k)), (2, .int r_1623), (3, .int (nI k)), (0, .ref h)]) hx hb dX0_findResonance_31 rfl hl (by decide) rfl (fun ls hl => ?_)
        refine lv_iinc (v := (nI (k + 1))) (lv' := [(3, .int (nI (k + 1))), (1, .int (nI k)), (2, .int r_1623), (0, .ref h)]) hx hb dX0_findResonance_32 hl (k := 2) rfl (by rw [show Int32.ofInt 1 = 1 from by decide]; exact nI_1 _) (by decide) rfl (fun ls hl => ?_)
        refine lv_goto (tgt := 6) hx hb dX0_findResonance_35 (by decide) ?_
        exact ih (k + 1) (by omega) r_1623 (nI k) tb2_1620 gpl_1616 gsd_1617 gpu_1618 gpk_1619 _ _ (hK.sub [0, 1, 2, 3, 4, 5, 6] rfl) (hP.sub [6, 0, 1, 2, 3, 4, 5, 7] rfl) (hD.sub [6, 0, 1, 2, 3, 4, 5, 7] (by decide) rfl) hS _ (lv_sub hl [0, 2, 1, 3] rfl)
  exact loop6 61 4 (by decide) (-1) 4 tb fpl fsd fpu fpk _ _ (hK.sub [0, 1, 2, 3, 4, 5, 6] rfl) (hP.sub [0, 1, 2, 3, 4, 5, 6, 7] rfl) (hD.sub [0, 1, 2, 3, 4, 5, 6, 7] (by decide) rfl) hS _ (lv_sub hl [0, 1, 2, 3] rfl)
