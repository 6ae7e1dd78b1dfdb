set_option maxHeartbeats 4000000 in
set_option maxRecDepth 100000 in
theorem q_structInit (l : Launch) (dC : Nat → ClassId) (dI : Nat → Nat → Nat) (sz : Nat) (ed : Nat) (h : Nat) : Met l yX9_init (pw_ws yX9_init cX9_init 1 none) ({ frames := 4, cells := 2, slots := 11, locals := 80 } : Room) (va_Pc [.ref h] (fun U => U.heap.size = sz ∧ va_P (dC, dI) vwCl [(h, .inr (14, [.null, .null, .long 0, .int 0, .int 0, .int 0]))] U.heap ∧ va_K (dC, dI) vwCl [] U ∧ va_D (fun _ => True) [(h, .inr (14, [.null, .null, .long 0, .int 0, .int 0, .int 0]))] ∧ pz ed (va_A [(h, .inr (14, [.null, .null, .long 0, .int 0, .int 0, .int 0]))] sz) U U.heap)) (va_Qv (fun (_ : Unit) => True) (fun (_ : Unit) (t : State) => ∃ (ml : Nat), ∃ (u1 : Value), ∃ (u2 : Value), ∃ (u3 : Value), ∃ (u4 : Value), ∃ (u5 : Value), va_P (dC, dI) vwCl [(h, .inr (14, [.ref ml, u1, u2, u3, u4, u5])), (ml, .inr (4, [.int 0, .ref ed, .int 0]))] t.heap ∧ va_K (dC, dI) vwCl [] t ∧ va_D (va_A [(h, .inr (14, [.null, .null, .long 0, .int 0, .int 0, .int 0]))] sz) [(h, .inr (14, [.ref ml, u1, u2, u3, u4, u5])), (ml, .inr (4, [.int 0, .ref ed, .int 0]))]) (va_A [(h, .inr (14, [.null, .null, .long 0, .int 0, .int 0, .int 0]))] sz)) 2 11 (va_A [(h, .inr (14, [.null, .null, .long 0, .int 0, .int 0, .int 0]))] sz) := by
  refine Met.ofW (cc := cX9_init) (maxL := 1) (ret := none) (by decide) rfl ?_
  intro p e s m args below meth c s₁ B hml hv
  obtain ⟨rfl, hsz, hP, hK, hD0, hZ⟩ := hv
  have hx := B.exec
  have hb := B.bytes
  have hr := B.returns
  have hts0 := atoms_spec (ws := (pw_ws yX9_init cX9_init 1 none)) B.pre
  have hts : ∀ w ∈ pw_all, w.before _ s = true := fun w h => hts0 w (List.mem_cons_of_mem _ h)
  have hown : s.vm.findClass RX9 = some m.cls := findClass_of_methodNamed B.named
  have hlocks := B.notSynchronized
  have hin : meth.name = "<init>" := (name_of_methodNamed B.named B.method).1
  subst hsz
  have hD := hD0.self (sz := s.heap.size)
  generalize hAe : va_A [(h, .inr (14, [.null, .null, .long 0, .int 0, .int 0, .int 0]))] s.heap.size = A at hD hZ ⊢
  have hA : ∀ q : Nat, s.heap.size ≤ q → A q := fun q h => by rw [← hAe]; exact Or.inr h
  have hS : va_S A s.heap s.heap [] := va_S.rf
  have hP : va_P (dC, dI) vwCl [(h, .inr (14, [.null, .null, .long 0, .int 0, .int 0, .int 0]))] s.heap := hP
  have hl := lv_entry ([.ref h]) (n := 1) (Nat.le_of_ble_eq_true rfl)
  rw [lg_entry_eq]
  generalize (lg_sl ([.ref h]) ++ List.replicate (1 - (lg_sl ([.ref h])).length) Slot.unset).toArray = ls at hl ⊢
  have hl : lv_has ls 1 [(0, .ref h)] := hl
  skip
  refine lv_aload_n hx hb dX9_init_0 rfl (lv_at hl 0 rfl) ?_
  refine W.objInit hx hb hown (hts _ q1262) (hts _ q86) (hts _ q87) rfl (by rw [hml]; exact hl.1) rfl dX9_init_1 (Nat.le_of_ble_eq_true rfl) (Nat.le_of_ble_eq_true rfl) ?_
  refine W.eq (g2 := F0 m 4 ls []) rfl ?_
  refine lv_aload_n hx hb dX9_init_4 rfl (lv_at hl 0 rfl) ?_
  refine va_new (ci := 4) (fs := [.int 0, .null, .int 0]) (C := RJx4a65c) (T := TJx4a65c) (N := 3) hx hb hts inJx4a65c tyJx4a65c tyJx4a65c_ok hown (hts _ q1263) (hts _ q89) (hts _ q46) hK hP hD hS hA rfl (fun j hj => by rcases (show j = 0 ∨ j = 1 ∨ j = 2 by omega) with rfl | rfl | rfl <;> rfl) (Nat.le_of_ble_eq_true rfl) (Nat.le_of_ble_eq_true rfl) dX9_init_5 (fun q_1740 H hP hD hS => ?_)
  have hP : va_P (dC, dI) vwCl [(h, .inr (14, [.null, .null, .long 0, .int 0, .int 0, .int 0])), (q_1740, .inr (4, [.int 0, .null, .int 0]))] H := hP
  have hD : va_D A [(h, .inr (14, [.null, .null, .long 0, .int 0, .int 0, .int 0])), (q_1740, .inr (4, [.int 0, .null, .int 0]))] := hD
  refine W.widen (k := 1) (n := 3) (Nat.le_of_ble_eq_true rfl) (Nat.le_of_ble_eq_true rfl) ?_
  refine lv_dup hx hb dX9_init_8 rfl ?_
  have hPc := hP.sub (ws' := [(q_1740, .inr (4, [.int 0, .null, .int 0]))]) [1] rfl
  have hDc := hD.sub (ws' := [(q_1740, .inr (4, [.int 0, .null, .int 0]))]) [1] (by decide) rfl
  have hKc := hK.sub (tys' := []) [] rfl
  have hFc := va_free (wc := [(q_1740, .inr (4, [.int 0, .null, .int 0]))]) hD hS hA [1] rfl
  refine va_callv (va_runI (As := []) (rest := [.ref q_1740, .ref h]) ⟨hx, hb, hml, hown, hts⟩ (m_listInit l dC dI H.size ed q_1740 (.int 0) .null 0) (cwI 0 hts (pw_c q92) rfl rfl rfl (hts _ q46) (hts _ q1264) (hts _ q91) rfl (by decide +kernel) ⟨(Nat.le_of_ble_eq_true rfl), (Nat.le_of_ble_eq_true rfl)⟩) ⟨fun a U g mk q => by obtain ⟨q0, q1, qP, qK, qD, qZ⟩ := q; exact ⟨q0, q1, qP, va_K.moved (u := U) (U := U.calling g mk a) (Vm.Alike.refl U.vm) qK, qD, qZ.same rfl⟩, fun U hU hW => ⟨rfl, by rw [hU], by rw [hU]; exact hPc, va_K.moved hW.alike hKc, hDc.weaken (fun _ _ _ _ => trivial), hZ.call hS hFc hU hW⟩⟩ rfl rfl hl.1 rfl (lv_room (Nat.le_of_ble_eq_true rfl)) dX9_init_9 ⟨(Nat.le_of_ble_eq_true rfl), (Nat.le_of_ble_eq_true rfl)⟩) hS (fun q _ h => hFc q h) hFc (fun u t H1 locs ht hvm hw hB hz1 hk1 hS => ?_)
  obtain ⟨hP1, hK1, hD1⟩ := hB
  rw [ht] at hP1
  have hK1 := va_K.moved hvm.symm hK1
  obtain ⟨hP, hD⟩ := va_join (wr := [(h, .inr (14, [.null, .null, .long 0, .int 0, .int 0, .int 0]))]) (w1 := [(q_1740, .inr (4, [.int 0, .ref ed, .int 0]))]) hP hD [1] [0] rfl rfl (by decide) (by decide) hk1 hFc hP1 hD1
  have hK := (hK.sub (tys' := []) [] rfl).app hK1
  generalize H1 = H at hP hS ⊢
  have hP : va_P (dC, dI) vwCl [(h, .inr (14, [.null, .null, .long 0, .int 0, .int 0, .int 0])), (q_1740, .inr (4, [.int 0, .ref ed, .int 0]))] H := hP
  have hD : va_D A [(h, .inr (14, [.null, .null, .long 0, .int 0, .int 0, .int 0])), (q_1740, .inr (4, [.int 0, .ref ed, .int 0]))] := hD
  have hK : va_K (dC, dI) vwCl [] s := hK
  refine W.widen (k := 1) (n := 3) (Nat.le_of_ble_eq_true rfl) (Nat.le_of_ble_eq_true rfl) ?_
  refine va_putF (D := (dC, dI)) (ci := 14) (v := .ref q_1740) (ty := .object "java/util/ArrayList") (C := RX9) (T := TX9) (N := 6) hx hb hts inX9 tyX9 tyX9_ok nmX9 hown hK hP hD hS 0 rfl rfl 0 (by decide) (hts _ q1267) (fun _ h9 => h9) rfl hin rfl (by decide +kernel) rfl rfl (Nat.le_of_ble_eq_true rfl) dX9_init_12 (fun H locs hP hD hS => ?_)
  have hP : va_P (dC, dI) vwCl [(h, .inr (14, [.ref q_1740, .null, .long 0, .int 0, .int 0, .int 0])), (q_1740, .inr (4, [.int 0, .ref ed, .int 0]))] H := hP
  have hD : va_D A [(h, .inr (14, [.ref q_1740, .null, .long 0, .int 0, .int 0, .int 0])), (q_1740, .inr (4, [.int 0, .ref ed, .int 0]))] := hD
  refine lv_aload_n hx hb dX9_init_15 rfl (lv_at hl 0 rfl) ?_
  refine lv_bipush (v := 8) hx hb dX9_init_16 (by decide) ?_
  refine va_newa (atype := .int) (N' := 8) (a0 := (8, .inl (fun _ => 0))) (ty := .int) (n := 8) hx hb (hts _ q143) rfl hK hP hD hS hA (fun _ => rfl) (by decide) (by decide) (Nat.le_of_ble_eq_true rfl) (Nat.le_of_ble_eq_true rfl) (Nat.le_of_ble_eq_true rfl) dX9_init_18 (fun q_1742 cA_1743 H hK hP hD hS => ?_)
  have hP : va_P (dC, dI) vwCl [(h, .inr (14, [.ref q_1740, .null, .long 0, .int 0, .int 0, .int 0])), (q_1740, .inr (4, [.int 0, .ref ed, .int 0])), (q_1742, .inl (cA_1743, 8, .inl (fun _ => 0)))] H := hP
  have hD : va_D A [(h, .inr (14, [.ref q_1740, .null, .long 0, .int 0, .int 0, .int 0])), (q_1740, .inr (4, [.int 0, .ref ed, .int 0])), (q_1742, .inl (cA_1743, 8, .inl (fun _ => 0)))] := hD
  have hK : va_K (dC, dI) vwCl [(cA_1743, .int)] s := hK
  refine W.widen (k := 2) (n := 11) (Nat.le_of_ble_eq_true rfl) (Nat.le_of_ble_eq_true rfl) ?_
  refine va_putF (D := (dC, dI)) (ci := 14) (v := .ref q_1742) (ty := .array .int) (C := RX9) (T := TX9) (N := 6) hx hb hts inX9 tyX9 tyX9_ok nmX9 hown hK hP hD hS 0 rfl rfl 1 (by decide) (hts _ q1269) (fun _ h9 => h9) rfl hin rfl (by decide +kernel) rfl rfl (Nat.le_of_ble_eq_true rfl) dX9_init_20 (fun H locs hP hD hS => ?_)
  have hP : va_P (dC, dI) vwCl [(h, .inr (14, [.ref q_1740, .ref q_1742, .long 0, .int 0, .int 0, .int 0])), (q_1740, .inr (4, [.int 0, .ref ed, .int 0])), (q_1742, .inl (cA_1743, 8, .inl (fun _ => 0)))] H := hP
  have hD : va_D A [(h, .inr (14, [.ref q_1740, .ref q_1742, .long 0, .int 0, .int 0, .int 0])), (q_1740, .inr (4, [.int 0, .ref ed, .int 0])), (q_1742, .inl (cA_1743, 8, .inl (fun _ => 0)))] := hD
  refine lv_aload_n hx hb dX9_init_23 rfl (lv_at hl 0 rfl) ?_
  refine lv_ldc (v := 1000000000) hx hb hown (hts _ q1265) dX9_init_24 ?_
  refine va_put (D := (dC, dI)) (ci := 14) (v := .int 1000000000) (ty := .int) (C := RX9) (T := TX9) (N := 6) hx hb hts inX9 tyX9 tyX9_ok nmX9 hown hK hP hD hS 0 rfl rfl 3 (by decide) (hts _ q1272) (fun _ h9 => h9) rfl (by decide +kernel) rfl rfl (Nat.le_of_ble_eq_true rfl) dX9_init_26 (fun H locs hP hD hS => ?_)
  have hP : va_P (dC, dI) vwCl [(h, .inr (14, [.ref q_1740, .ref q_1742, .long 0, .int 1000000000, .int 0, .int 0])), (q_1740, .inr (4, [.int 0, .ref ed, .int 0])), (q_1742, .inl (cA_1743, 8, .inl (fun _ => 0)))] H := hP
  have hD : va_D A [(h, .inr (14, [.ref q_1740, .ref q_1742, .long 0, .int 1000000000, .int 0, .int 0])), (q_1740, .inr (4, [.int 0, .ref ed, .int 0])), (q_1742, .inl (cA_1743, 8, .inl (fun _ => 0)))] := hD
  refine lv_aload_n hx hb dX9_init_29 rfl (lv_at hl 0 rfl) ?_
  refine lv_iconst (v := -1) hx hb dX9_init_30 (by decide) ?_
  refine va_put (D := (dC, dI)) (ci := 14) (v := .int (-1)) (ty := .int) (C := RX9) (T := TX9) (N := 6) hx hb hts inX9 tyX9 tyX9_ok nmX9 hown hK hP hD hS 0 rfl rfl 4 (by decide) (hts _ q1274) (fun _ h9 => h9) rfl (by decide +kernel) rfl rfl (Nat.le_of_ble_eq_true rfl) dX9_init_31 (fun H locs hP hD hS => ?_)
  have hP : va_P (dC, dI) vwCl [(h, .inr (14, [.ref q_1740, .ref q_1742, .long 0, .int 1000000000, .int (-1), .int 0])), (q_1740, .inr (4, [.int 0, .ref ed, .int 0])), (q_1742, .inl (cA_1743, 8, .inl (fun _ => 0)))] H := hP
  have hD : va_D A [(h, .inr (14, [.ref q_1740, .ref q_1742, .long 0, .int 1000000000, .int (-1), .int 0])), (q_1740, .inr (4, [.int 0, .ref ed, .int 0])), (q_1742, .inl (cA_1743, 8, .inl (fun _ => 0)))] := hD
  have hP9 := hP.sub (ws' := [(h, .inr (14, [.ref q_1740, .ref q_1742, .long 0, .int 1000000000, .int (-1), .int 0])), (q_1740, .inr (4, [.int 0, .ref ed, .int 0]))]) [0, 1] rfl
  have hD9 := hD.sub (ws' := [(h, .inr (14, [.ref q_1740, .ref q_1742, .long 0, .int 1000000000, .int (-1), .int 0])), (q_1740, .inr (4, [.int 0, .ref ed, .int 0]))]) [0, 1] (by decide) rfl
  have hK9 := hK.sub (tys' := []) [] rfl
  refine W.widen (k := 2) (n := 11) (Nat.le_of_ble_eq_true rfl) (Nat.le_of_ble_eq_true rfl) ?_
  exact W.vret hx hb hr (fun t ht hW => ⟨⟨(), rfl, trivial, ⟨q_1740, (.ref q_1742), (.long 0), (.int 1000000000), (.int (-1)), (.int 0), by rw [ht]; exact hP9, va_K.moved hW.alike hK9, hD9⟩⟩, hS.F ht⟩) hS.2.2 dX9_init_34
set_option maxHeartbeats 4000000 in
set_option maxRecDepth 100000 in
theorem q_addStructure (l : Launch) (dC : Nat → ClassId) (dI : Nat → Nat → Nat) (sz : Nat) (ed : Nat) (h0 : Nat) (a : Nat) (v1 : Value) (v2 : Value) (v3 : Value) (v4 : Value) (th : Int32) (m0 : Int32) : Met l yX10_addStructure (pw_ws yX10_addStructure cX10_addStructure 1 (some .int)) ({ frames := 5, cells := 4, slots := 27, locals := 107 } : Room) (va_Pc [.ref h0] (fun U => U.heap.size = sz ∧ va_P (dC, dI) vwCl [(h0, .inr (15, [.ref a, v1, v2, v3, v4, .int th])), (a, .inr (4, [.int m0, .ref ed, .int 0]))] U.heap ∧ va_K (dC, dI) vwCl [] U ∧ va_D (fun _ => True) [(h0, .inr (15, [.ref a, v1, v2, v3, v4, .int th])), (a, .inr (4, [.int m0, .ref ed, .int 0]))] ∧ pz ed (va_A [(h0, .inr (15, [.ref a, v1, v2, v3, v4, .int th])), (a, .inr (4, [.int m0, .ref ed, .int 0]))] sz) U U.heap)) (va_Qi (fun (r : Int32) (_ : Unit) => r = 0) (fun (_ : Unit) (t : State) => ∃ (ea : Nat), ∃ (s2 : Nat), ∃ (ml : Nat), ∃ (ce : ClassId), ∃ (u1 : Value), ∃ (u2 : Value), ∃ (u3 : Value), ∃ (u4 : Value), ∃ (u5 : Value), ∃ (m1 : Int32), va_P (dC, dI) vwCl [(h0, .inr (15, [.ref a, v1, v2, v3, v4, .int 0])), (a, .inr (4, [.int m1, .ref ea, .int 1])), (ea, .inl (ce, 10, .inr (.inr (.inr (.inr (va_up (fun _ => none) 0 (some s2))))))), (s2, .inr (14, [.ref ml, u1, u2, u3, u4, u5])), (ml, .inr (4, [.int 0, .ref ed, .int 0]))] t.heap ∧ va_K (dC, dI) vwCl [(ce, .object "java/lang/Object")] t ∧ va_D (va_A [(h0, .inr (15, [.ref a, v1, v2, v3, v4, .int th])), (a, .inr (4, [.int m0, .ref ed, .int 0]))] sz) [(h0, .inr (15, [.ref a, v1, v2, v3, v4, .int 0])), (a, .inr (4, [.int m1, .ref ea, .int 1])), (ea, .inl (ce, 10, .inr (.inr (.inr (.inr (va_up (fun _ => none) 0 (some s2))))))), (s2, .inr (14, [.ref ml, u1, u2, u3, u4, u5])), (ml, .inr (4, [.int 0, .ref ed, .int 0]))]) (va_A [(h0, .inr (15, [.ref a, v1, v2, v3, v4, .int th])), (a, .inr (4, [.int m0, .ref ed, .int 0]))] sz)) 4 27 (va_A [(h0, .inr (15, [.ref a, v1, v2, v3, v4, .int th])), (a, .inr (4, [.int m0, .ref ed, .int 0]))] sz) := by
  refine Met.ofW (cc := cX10_addStructure) (maxL := 1) (ret := (some .int)) (by decide) rfl ?_
  intro p e s m args below meth c s₁ B hml hv
  obtain ⟨rfl, hsz, hP, hK, hD0, hZ⟩ := hv
  have hx := B.exec
  have hb := B.bytes
  have hr := B.returns
  have hts0 := atoms_spec (ws := (pw_ws yX10_addStructure cX10_addStructure 1 (some .int))) B.pre
  have hts : ∀ w ∈ pw_all, w.before _ s = true := fun w h => hts0 w (List.mem_cons_of_mem _ h)
  have hown : s.vm.findClass RX10 = some m.cls := findClass_of_methodNamed B.named
  have hlocks := B.notSynchronized
  subst hsz
  have hD := hD0.self (sz := s.heap.size)
  generalize hAe : va_A [(h0, .inr (15, [.ref a, v1, v2, v3, v4, .int th])), (a, .inr (4, [.int m0, .ref ed, .int 0]))] s.heap.size = A at hD hZ ⊢
  have hA : ∀ q : Nat, s.heap.size ≤ q → A q := fun q h => by rw [← hAe]; exact Or.inr h
  have hS : va_S A s.heap s.heap [] := va_S.rf
  have hP : va_P (dC, dI) vwCl [(h0, .inr (15, [.ref a, v1, v2, v3, v4, .int th])), (a, .inr (4, [.int m0, .ref ed, .int 0]))] s.heap := hP
  have hl := lv_entry ([.ref h0]) (n := 1) (Nat.le_of_ble_eq_true rfl)
  rw [lg_entry_eq]
  generalize (lg_sl ([.ref h0]) ++ List.replicate (1 - (lg_sl ([.ref h0])).length) Slot.unset).toArray = ls at hl ⊢
  have hl : lv_has ls 1 [(0, .ref h0)] := hl
  skip
  refine lv_aload_n hx hb dX10_addStructure_0 rfl (lv_at hl 0 rfl) ?_
  refine lv_aload_n hx hb dX10_addStructure_1 rfl (lv_at hl 0 rfl) ?_
  refine va_get (D := (dC, dI)) (ci := 15) (v := .ref a) (C := RX10) (T := TX10) (N := 6) hx hb hts inX10 hown hK hP 0 rfl rfl 0 (by decide) (hts _ q1225) (fun _ h9 => h9) rfl dX10_addStructure_2 ?_
  have hPc := hP.sub (ws' := [(a, .inr (4, [.int m0, .ref ed, .int 0]))]) [1] rfl
  have hDc := hD.sub (ws' := [(a, .inr (4, [.int m0, .ref ed, .int 0]))]) [1] (by decide) rfl
  have hKc := hK.sub (tys' := []) [] rfl
  have hFc := va_free (wc := [(a, .inr (4, [.int m0, .ref ed, .int 0]))]) hD hS hA [1] rfl
  refine va_calli (va_runV (As := []) (rest := [.ref h0]) ⟨hx, hb, hml, hown, hts⟩ (m_size l dC dI s.heap.size a (.int m0) (.ref ed) 0) (cwV 0 hts (pw_V q1252 q274 q275 q46 q276) rfl rfl rfl (by decide +kernel) ⟨(Nat.le_of_ble_eq_true rfl), (Nat.le_of_ble_eq_true rfl)⟩) ⟨fun a U g mk q => by obtain ⟨q0, q1, qP, qK, qD⟩ := q; exact ⟨q0, q1, qP, va_K.moved (u := U) (U := U.calling g mk a) (Vm.Alike.refl U.vm) qK, qD⟩, va_recv hKc hPc (ci := 4) (q0 := 0) rfl rfl, fun U hU hW => ⟨rfl, by rw [hU], by rw [hU]; exact hPc, va_K.moved hW.alike hKc, hDc.weaken (fun _ _ _ _ => trivial)⟩⟩ rfl rfl hl.1 rfl (lv_room (Nat.le_of_ble_eq_true rfl)) dX10_addStructure_5 ⟨(Nat.le_of_ble_eq_true rfl), (Nat.le_of_ble_eq_true rfl)⟩) hS (fun q _ h => hFc q h) hFc (fun r_1744 u t H1 locs ht hvm hw hB hz1 hk1 hS => ?_)
  obtain ⟨hP1, hK1, hD1⟩ := hB
  rw [ht] at hP1
  have hK1 := va_K.moved hvm.symm hK1
  obtain ⟨hP, hD⟩ := va_join (wr := [(h0, .inr (15, [.ref a, v1, v2, v3, v4, .int th]))]) (w1 := [(a, .inr (4, [.int m0, .ref ed, .int 0]))]) hP hD [1] [0] rfl rfl (by decide) (by decide) hk1 hFc hP1 hD1
  have hK := (hK.sub (tys' := []) [] rfl).app hK1
  generalize H1 = H at hP hS ⊢
  have hP : va_P (dC, dI) vwCl [(h0, .inr (15, [.ref a, v1, v2, v3, v4, .int th])), (a, .inr (4, [.int m0, .ref ed, .int 0]))] H := hP
  have hD : va_D A [(h0, .inr (15, [.ref a, v1, v2, v3, v4, .int th])), (a, .inr (4, [.int m0, .ref ed, .int 0]))] := hD
  have hK : va_K (dC, dI) vwCl [] s := hK
  refine W.widen (k := 0) (n := 0) (Nat.le_of_ble_eq_true rfl) (Nat.le_of_ble_eq_true rfl) ?_
  have hw : r_1744 = 0 := hw
  subst hw
  refine lv_bipush (v := 6) hx hb dX10_addStructure_8 (by decide) ?_
  refine lv_icmp_ne (tgt := 17) hx hb dX10_addStructure_10 (by decide) (fun c_1745 => ?_) (fun c_1745 => absurd c_1745 (by decide))
  refine lv_iconst (v := 0) hx hb dX10_addStructure_17 (by decide) ?_
  refine lv_iconst (v := 1) hx hb dX10_addStructure_18 (by decide) ?_
  have hPc := hP.sub (ws' := [(h0, .inr (15, [.ref a, v1, v2, v3, v4, .int th]))]) [0] rfl
  have hDc := hD.sub (ws' := [(h0, .inr (15, [.ref a, v1, v2, v3, v4, .int th]))]) [0] (by decide) rfl
  have hKc := hK.sub (tys' := []) [] rfl
  have hFc := va_free (wc := [(h0, .inr (15, [.ref a, v1, v2, v3, v4, .int th]))]) hD hS hA [0] rfl
  refine va_calli (va_runV (As := [.int 0, .int 1]) (rest := []) ⟨hx, hb, hml, hown, hts⟩ (n_isThrown0 l dC dI H.size h0 (.ref a) v1 v2 v3 v4 th 1) (cwV 2 hts (pw_V q1253 q1255 q19 q49 q1256) rfl rfl rfl (by decide +kernel) ⟨(Nat.le_of_ble_eq_true rfl), (Nat.le_of_ble_eq_true rfl)⟩) ⟨fun a U g mk q => by obtain ⟨q0, q1, qP, qK, qD⟩ := q; exact ⟨q0, q1, qP, va_K.moved (u := U) (U := U.calling g mk a) (Vm.Alike.refl U.vm) qK, qD⟩, va_recv hKc hPc (ci := 15) (q0 := 0) rfl rfl, fun U hU hW => ⟨rfl, by rw [hU], by rw [hU]; exact hPc, va_K.moved hW.alike hKc, hDc.weaken (fun _ _ _ _ => trivial)⟩⟩ rfl rfl hl.1 rfl (lv_room (Nat.le_of_ble_eq_true rfl)) dX10_addStructure_19 ⟨(Nat.le_of_ble_eq_true rfl), (Nat.le_of_ble_eq_true rfl)⟩) hS (fun q _ h => hFc q h) hFc (fun r_1746 u t H1 locs ht hvm hw hB hz1 hk1 hS => ?_)
  obtain ⟨hP1, hK1, hD1⟩ := hB
  rw [ht] at hP1
  have hK1 := va_K.moved hvm.symm hK1
  obtain ⟨hP, hD⟩ := va_join (wr := [(a, .inr (4, [.int m0, .ref ed, .int 0]))]) (w1 := [(h0, .inr (15, [.ref a, v1, v2, v3, v4, .int 0]))]) hP hD [0] [1] rfl rfl (by decide) (by decide) hk1 hFc hP1 hD1
  have hK := (hK.sub (tys' := []) [] rfl).app hK1
  generalize H1 = H at hP hS ⊢
  have hP : va_P (dC, dI) vwCl [(a, .inr (4, [.int m0, .ref ed, .int 0])), (h0, .inr (15, [.ref a, v1, v2, v3, v4, .int 0]))] H := hP
  have hD : va_D A [(a, .inr (4, [.int m0, .ref ed, .int 0])), (h0, .inr (15, [.ref a, v1, v2, v3, v4, .int 0]))] := hD
  have hK : va_K (dC, dI) vwCl [] s := hK
  refine W.widen (k := 0) (n := 0) (Nat.le_of_ble_eq_true rfl) (Nat.le_of_ble_eq_true rfl) ?_
  have hw : r_1746 = 0 := hw
  subst hw
  refine lv_if_eq (tgt := 27) hx hb dX10_addStructure_22 (by decide) (fun c_1747 => ?_) (fun c_1747 => absurd (by decide) c_1747)
  refine lv_aload_n hx hb dX10_addStructure_27 rfl (lv_at hl 0 rfl) ?_
  refine va_get (D := (dC, dI)) (ci := 15) (v := .ref a) (C := RX10) (T := TX10) (N := 6) hx hb hts inX10 hown hK hP 1 rfl rfl 0 (by decide) (hts _ q1225) (fun _ h9 => h9) rfl dX10_addStructure_28 ?_
  refine va_new (ci := 14) (fs := [.null, .null, .long 0, .int 0, .int 0, .int 0]) (C := RX9) (T := TX9) (N := 6) hx hb hts inX9 tyX9 tyX9_ok hown (hts _ q1257) (hts _ q1258) (hts _ q59) hK hP hD hS hA rfl (fun j hj => by rcases (show j = 0 ∨ j = 1 ∨ j = 2 ∨ j = 3 ∨ j = 4 ∨ j = 5 by omega) with rfl | rfl | rfl | rfl | rfl | rfl <;> rfl) (Nat.le_of_ble_eq_true rfl) (Nat.le_of_ble_eq_true rfl) dX10_addStructure_31 (fun q_1748 H hP hD hS => ?_)
  have hP : va_P (dC, dI) vwCl [(a, .inr (4, [.int m0, .ref ed, .int 0])), (h0, .inr (15, [.ref a, v1, v2, v3, v4, .int 0])), (q_1748, .inr (14, [.null, .null, .long 0, .int 0, .int 0, .int 0]))] H := hP
  have hD : va_D A [(a, .inr (4, [.int m0, .ref ed, .int 0])), (h0, .inr (15, [.ref a, v1, v2, v3, v4, .int 0])), (q_1748, .inr (14, [.null, .null, .long 0, .int 0, .int 0, .int 0]))] := hD
  refine W.widen (k := 1) (n := 6) (Nat.le_of_ble_eq_true rfl) (Nat.le_of_ble_eq_true rfl) ?_
  refine lv_dup hx hb dX10_addStructure_34 rfl ?_
  have hPc := hP.sub (ws' := [(q_1748, .inr (14, [.null, .null, .long 0, .int 0, .int 0, .int 0]))]) [2] rfl
  have hDc := hD.sub (ws' := [(q_1748, .inr (14, [.null, .null, .long 0, .int 0, .int 0, .int 0]))]) [2] (by decide) rfl
  have hKc := hK.sub (tys' := []) [] rfl
  have hFc := va_free (wc := [(q_1748, .inr (14, [.null, .null, .long 0, .int 0, .int 0, .int 0]))]) hD hS hA [2] rfl
  refine va_callv (va_runIN (As := []) (rest := [.ref q_1748, .ref a]) ⟨hx, hb, hml, hown, hts⟩ (q_structInit l dC dI H.size ed q_1748) ⟨va_cnB 0 hts (pw_c q1261) rfl rfl rfl hZ.nestM (hts _ q59) (by decide +kernel) ⟨(Nat.le_of_ble_eq_true rfl), (Nat.le_of_ble_eq_true rfl)⟩, rfl, (hts _ q1260)⟩ ⟨fun a U g mk q => by obtain ⟨q0, q1, qP, qK, qD, qZ⟩ := q; exact ⟨q0, q1, qP, va_K.moved (u := U) (U := U.calling g mk a) (Vm.Alike.refl U.vm) qK, qD, qZ.same rfl⟩, fun U hU hW => ⟨rfl, by rw [hU], by rw [hU]; exact hPc, va_K.moved hW.alike hKc, hDc.weaken (fun _ _ _ _ => trivial), hZ.call hS hFc hU hW⟩⟩ rfl rfl hl.1 rfl (lv_room (Nat.le_of_ble_eq_true rfl)) dX10_addStructure_35 ⟨(Nat.le_of_ble_eq_true rfl), (Nat.le_of_ble_eq_true rfl)⟩) hS (fun q _ h => hFc q h) hFc (fun u t H1 locs ht hvm hw hB hz1 hk1 hS => ?_)
  obtain ⟨ml_1750, u1_1751, u2_1752, u3_1753, u4_1754, u5_1755, hP1, hK1, hD1⟩ := hB
  rw [ht] at hP1
  have hK1 := va_K.moved hvm.symm hK1
  obtain ⟨hP, hD⟩ := va_join (wr := [(a, .inr (4, [.int m0, .ref ed, .int 0])), (h0, .inr (15, [.ref a, v1, v2, v3, v4, .int 0]))]) (w1 := [(q_1748, .inr (14, [.ref ml_1750, u1_1751, u2_1752, u3_1753, u4_1754, u5_1755])), (ml_1750, .inr (4, [.int 0, .ref ed, .int 0]))]) hP hD [2] [0, 1] rfl rfl (by decide) (by decide) hk1 hFc hP1 hD1
  have hK := (hK.sub (tys' := []) [] rfl).app hK1
  generalize H1 = H at hP hS ⊢
  have hP : va_P (dC, dI) vwCl [(a, .inr (4, [.int m0, .ref ed, .int 0])), (h0, .inr (15, [.ref a, v1, v2, v3, v4, .int 0])), (q_1748, .inr (14, [.ref ml_1750, u1_1751, u2_1752, u3_1753, u4_1754, u5_1755])), (ml_1750, .inr (4, [.int 0, .ref ed, .int 0]))] H := hP
  have hD : va_D A [(a, .inr (4, [.int m0, .ref ed, .int 0])), (h0, .inr (15, [.ref a, v1, v2, v3, v4, .int 0])), (q_1748, .inr (14, [.ref ml_1750, u1_1751, u2_1752, u3_1753, u4_1754, u5_1755])), (ml_1750, .inr (4, [.int 0, .ref ed, .int 0]))] := hD
  have hK : va_K (dC, dI) vwCl [] s := hK
  refine W.widen (k := 3) (n := 17) (Nat.le_of_ble_eq_true rfl) (Nat.le_of_ble_eq_true rfl) ?_
  have hPc := hP.sub (ws' := [(a, .inr (4, [.int m0, .ref ed, .int 0]))]) [0] rfl
  have hDc := hD.sub (ws' := [(a, .inr (4, [.int m0, .ref ed, .int 0]))]) [0] (by decide) rfl
  have hKc := hK.sub (tys' := []) [] rfl
  have hFc := va_free (wc := [(a, .inr (4, [.int m0, .ref ed, .int 0]))]) hD hS hA [0] rfl
  have hEk := pe.of hK hP (i := 2) (ci := 14) rfl rfl (va_Nw.of rfl (hZ.cast (args := #[]) (C := "ShakerhallModel$Structure") (T := "java/lang/Object") (by decide))) (pe_ne hP hD (i := 2) rfl [0] (wc := [(a, .inr (4, [.int m0, .ref ed, .int 0]))]) rfl (by decide))
  refine va_calli (va_runV (As := [.ref q_1748]) (rest := []) ⟨hx, hb, hml, hown, hts⟩ (r_add l dC dI H.size ed a q_1748 m0) (cwV 1 hts (pw_V q1290 q432 q433 q46 q434) rfl rfl rfl (by decide +kernel) ⟨(Nat.le_of_ble_eq_true rfl), (Nat.le_of_ble_eq_true rfl)⟩) ⟨fun a U g mk q => by obtain ⟨q0, q1, qP, qK, qD, qZ, qE⟩ := q; exact ⟨q0, q1, qP, va_K.moved (u := U) (U := U.calling g mk a) (Vm.Alike.refl U.vm) qK, qD, qZ.same rfl, qE.same rfl⟩, va_recv hKc hPc (ci := 4) (q0 := 0) rfl rfl, fun U hU hW => ⟨rfl, by rw [hU], by rw [hU]; exact hPc, va_K.moved hW.alike hKc, hDc.weaken (fun _ _ _ _ => trivial), hZ.call hS hFc hU hW, (hEk.warm hW).heap hU⟩⟩ rfl rfl hl.1 rfl (lv_room (Nat.le_of_ble_eq_true rfl)) dX10_addStructure_38 ⟨(Nat.le_of_ble_eq_true rfl), (Nat.le_of_ble_eq_true rfl)⟩) hS (fun q _ h => hFc q h) hFc (fun r_1756 u t H1 locs ht hvm hw hB hz1 hk1 hS => ?_)
  obtain ⟨qa_1757, ce_1758, m1_1759, hP1, hK1, hD1⟩ := hB
  rw [ht] at hP1
  have hK1 := va_K.moved hvm.symm hK1
  obtain ⟨hP, hD⟩ := va_join (wr := [(h0, .inr (15, [.ref a, v1, v2, v3, v4, .int 0])), (q_1748, .inr (14, [.ref ml_1750, u1_1751, u2_1752, u3_1753, u4_1754, u5_1755])), (ml_1750, .inr (4, [.int 0, .ref ed, .int 0]))]) (w1 := [(a, .inr (4, [.int m1_1759, .ref qa_1757, .int 1])), (qa_1757, .inl (ce_1758, 10, .inr (.inr (.inr (.inr (va_up (fun _ => none) 0 (some q_1748)))))))]) hP hD [0] [1, 2, 3] rfl rfl (by decide) (by decide) hk1 hFc hP1 hD1
  have hK := (hK.sub (tys' := []) [] rfl).app hK1
  generalize H1 = H at hP hS ⊢
  have hP : va_P (dC, dI) vwCl [(h0, .inr (15, [.ref a, v1, v2, v3, v4, .int 0])), (q_1748, .inr (14, [.ref ml_1750, u1_1751, u2_1752, u3_1753, u4_1754, u5_1755])), (ml_1750, .inr (4, [.int 0, .ref ed, .int 0])), (a, .inr (4, [.int m1_1759, .ref qa_1757, .int 1])), (qa_1757, .inl (ce_1758, 10, .inr (.inr (.inr (.inr (va_up (fun _ => none) 0 (some q_1748)))))))] H := hP
  have hD : va_D A [(h0, .inr (15, [.ref a, v1, v2, v3, v4, .int 0])), (q_1748, .inr (14, [.ref ml_1750, u1_1751, u2_1752, u3_1753, u4_1754, u5_1755])), (ml_1750, .inr (4, [.int 0, .ref ed, .int 0])), (a, .inr (4, [.int m1_1759, .ref qa_1757, .int 1])), (qa_1757, .inl (ce_1758, 10, .inr (.inr (.inr (.inr (va_up (fun _ => none) 0 (some q_1748)))))))] := hD
  have hK : va_K (dC, dI) vwCl [(ce_1758, .object "java/lang/Object")] s := hK
  refine W.widen (k := 4) (n := 27) (Nat.le_of_ble_eq_true rfl) (Nat.le_of_ble_eq_true rfl) ?_
  have hw : r_1756 = 1 := hw
  subst hw
  refine lv_pop hx hb dX10_addStructure_41 rfl ?_
  refine lv_aload_n hx hb dX10_addStructure_42 rfl (lv_at hl 0 rfl) ?_
  refine va_get (D := (dC, dI)) (ci := 15) (v := .ref a) (C := RX10) (T := TX10) (N := 6) hx hb hts inX10 hown hK hP 0 rfl rfl 0 (by decide) (hts _ q1225) (fun _ h9 => h9) rfl dX10_addStructure_43 ?_
  have hPc := hP.sub (ws' := [(a, .inr (4, [.int m1_1759, .ref qa_1757, .int 1]))]) [3] rfl
  have hDc := hD.sub (ws' := [(a, .inr (4, [.int m1_1759, .ref qa_1757, .int 1]))]) [3] (by decide) rfl
  have hKc := hK.sub (tys' := []) [] rfl
  have hFc := va_free (wc := [(a, .inr (4, [.int m1_1759, .ref qa_1757, .int 1]))]) hD hS hA [3] rfl
  refine va_calli (va_runV (As := []) (rest := []) ⟨hx, hb, hml, hown, hts⟩ (m_size l dC dI H.size a (.int m1_1759) (.ref qa_1757) 1) (cwV 0 hts (pw_V q1252 q274 q275 q46 q276) rfl rfl rfl (by decide +kernel) ⟨(Nat.le_of_ble_eq_true rfl), (Nat.le_of_ble_eq_true rfl)⟩) ⟨fun a U g mk q => by obtain ⟨q0, q1, qP, qK, qD⟩ := q; exact ⟨q0, q1, qP, va_K.moved (u := U) (U := U.calling g mk a) (Vm.Alike.refl U.vm) qK, qD⟩, va_recv hKc hPc (ci := 4) (q0 := 0) rfl rfl, fun U hU hW => ⟨rfl, by rw [hU], by rw [hU]; exact hPc, va_K.moved hW.alike hKc, hDc.weaken (fun _ _ _ _ => trivial)⟩⟩ rfl rfl hl.1 rfl (lv_room (Nat.le_of_ble_eq_true rfl)) dX10_addStructure_46 ⟨(Nat.le_of_ble_eq_true rfl), (Nat.le_of_ble_eq_true rfl)⟩) hS (fun q _ h => hFc q h) hFc (fun r_1760 u t H1 locs ht hvm hw hB hz1 hk1 hS => ?_)
  obtain ⟨hP1, hK1, hD1⟩ := hB
  rw [ht] at hP1
  have hK1 := va_K.moved hvm.symm hK1
  obtain ⟨hP, hD⟩ := va_join (wr := [(h0, .inr (15, [.ref a, v1, v2, v3, v4, .int 0])), (q_1748, .inr (14, [.ref ml_1750, u1_1751, u2_1752, u3_1753, u4_1754, u5_1755])), (ml_1750, .inr (4, [.int 0, .ref ed, .int 0])), (qa_1757, .inl (ce_1758, 10, .inr (.inr (.inr (.inr (va_up (fun _ => none) 0 (some q_1748)))))))]) (w1 := [(a, .inr (4, [.int m1_1759, .ref qa_1757, .int 1]))]) hP hD [3] [0, 1, 2, 4] rfl rfl (by decide) (by decide) hk1 hFc hP1 hD1
  have hK := (hK.sub (tys' := [(ce_1758, .object "java/lang/Object")]) [0] rfl).app hK1
  generalize H1 = H at hP hS ⊢
  have hP : va_P (dC, dI) vwCl [(h0, .inr (15, [.ref a, v1, v2, v3, v4, .int 0])), (q_1748, .inr (14, [.ref ml_1750, u1_1751, u2_1752, u3_1753, u4_1754, u5_1755])), (ml_1750, .inr (4, [.int 0, .ref ed, .int 0])), (qa_1757, .inl (ce_1758, 10, .inr (.inr (.inr (.inr (va_up (fun _ => none) 0 (some q_1748))))))), (a, .inr (4, [.int m1_1759, .ref qa_1757, .int 1]))] H := hP
  have hD : va_D A [(h0, .inr (15, [.ref a, v1, v2, v3, v4, .int 0])), (q_1748, .inr (14, [.ref ml_1750, u1_1751, u2_1752, u3_1753, u4_1754, u5_1755])), (ml_1750, .inr (4, [.int 0, .ref ed, .int 0])), (qa_1757, .inl (ce_1758, 10, .inr (.inr (.inr (.inr (va_up (fun _ => none) 0 (some q_1748))))))), (a, .inr (4, [.int m1_1759, .ref qa_1757, .int 1]))] := hD
  have hK : va_K (dC, dI) vwCl [(ce_1758, .object "java/lang/Object")] s := hK
  refine W.widen (k := 4) (n := 27) (Nat.le_of_ble_eq_true rfl) (Nat.le_of_ble_eq_true rfl) ?_
  have hw : r_1760 = 1 := hw
  subst hw
  refine lv_iconst (v := 1) hx hb dX10_addStructure_49 (by decide) ?_
  refine lv_isub hx hb dX10_addStructure_50 ?_
  refine lv_numI (v := 0) (by decide) ?_
  have hP9 := hP.sub (ws' := [(h0, .inr (15, [.ref a, v1, v2, v3, v4, .int 0])), (a, .inr (4, [.int m1_1759, .ref qa_1757, .int 1])), (qa_1757, .inl (ce_1758, 10, .inr (.inr (.inr (.inr (va_up (fun _ => none) 0 (some q_1748))))))), (q_1748, .inr (14, [.ref ml_1750, u1_1751, u2_1752, u3_1753, u4_1754, u5_1755])), (ml_1750, .inr (4, [.int 0, .ref ed, .int 0]))]) [0, 4, 3, 1, 2] rfl
  have hD9 := hD.sub (ws' := [(h0, .inr (15, [.ref a, v1, v2, v3, v4, .int 0])), (a, .inr (4, [.int m1_1759, .ref qa_1757, .int 1])), (qa_1757, .inl (ce_1758, 10, .inr (.inr (.inr (.inr (va_up (fun _ => none) 0 (some q_1748))))))), (q_1748, .inr (14, [.ref ml_1750, u1_1751, u2_1752, u3_1753, u4_1754, u5_1755])), (ml_1750, .inr (4, [.int 0, .ref ed, .int 0]))]) [0, 4, 3, 1, 2] (by decide) rfl
  have hK9 := hK.sub (tys' := [(ce_1758, .object "java/lang/Object")]) [0] rfl
  refine W.widen (k := 4) (n := 27) (Nat.le_of_ble_eq_true rfl) (Nat.le_of_ble_eq_true rfl) ?_
  exact W.iret (v := 0) hx hb hr (fun t ht hW => ⟨⟨0, (), rfl, rfl, ⟨qa_1757, q_1748, ml_1750, ce_1758, u1_1751, u2_1752, u3_1753, u4_1754, u5_1755, m1_1759, by rw [ht]; exact hP9, va_K.moved hW.alike hK9, hD9⟩⟩, hS.F ht⟩) hS.2.2 dX10_addStructure_51
set_option maxHeartbeats 4000000 in
set_option maxRecDepth 100000 in
theorem q_isNoStructure (l : Launch) (dC : Nat → ClassId) (dI : Nat → Nat → Nat) (sz : Nat) (h0 : Nat) (a : Nat) (v1 : Value) (v2 : Value) (v3 : Value) (v4 : Value) (v5 : Value) (w0 : Value) (w1 : Value) : Met l yX10_isNoStructure (pw_ws yX10_isNoStructure cX10_isNoStructure 2 (some .boolean)) ({ frames := 2, cells := 0, slots := 0, locals := 42 } : Room) (va_Pc [.ref h0, .int 0] (fun U => U.heap.size = sz ∧ va_P (dC, dI) vwCl [(h0, .inr (15, [.ref a, v1, v2, v3, v4, v5])), (a, .inr (4, [w0, w1, .int 1]))] U.heap ∧ va_K (dC, dI) vwCl [] U ∧ va_D (fun _ => True) [(h0, .inr (15, [.ref a, v1, v2, v3, v4, v5])), (a, .inr (4, [w0, w1, .int 1]))])) (va_Qi (fun (r : Int32) (_ : Unit) => r = 0) (fun (_ : Unit) (t : State) => va_P (dC, dI) vwCl [(h0, .inr (15, [.ref a, v1, v2, v3, v4, v5])), (a, .inr (4, [w0, w1, .int 1]))] t.heap ∧ va_K (dC, dI) vwCl [] t ∧ va_D (va_A [(h0, .inr (15, [.ref a, v1, v2, v3, v4, v5])), (a, .inr (4, [w0, w1, .int 1]))] sz) [(h0, .inr (15, [.ref a, v1, v2, v3, v4, v5])), (a, .inr (4, [w0, w1, .int 1]))]) (va_A [(h0, .inr (15, [.ref a, v1, v2, v3, v4, v5])), (a, .inr (4, [w0, w1, .int 1]))] sz)) 0 0 (va_A [(h0, .inr (15, [.ref a, v1, v2, v3, v4, v5])), (a, .inr (4, [w0, w1, .int 1]))] sz) := by
  refine Met.ofW (cc := cX10_isNoStructure) (maxL := 2) (ret := (some .boolean)) (by decide) rfl ?_
  intro p e s m args below meth c s₁ B hml hv
  obtain ⟨rfl, hsz, hP, hK, hD0⟩ := hv
  have hx := B.exec
  have hb := B.bytes
  have hr := B.returns
  have hts0 := atoms_spec (ws := (pw_ws yX10_isNoStructure cX10_isNoStructure 2 (some .boolean))) B.pre
  have hts : ∀ w ∈ pw_all, w.before _ s = true := fun w h => hts0 w (List.mem_cons_of_mem _ h)
  have hown : s.vm.findClass RX10 = some m.cls := findClass_of_methodNamed B.named
  have hlocks := B.notSynchronized
  subst hsz
  have hD := hD0.self (sz := s.heap.size)
  generalize hAe : va_A [(h0, .inr (15, [.ref a, v1, v2, v3, v4, v5])), (a, .inr (4, [w0, w1, .int 1]))] s.heap.size = A at hD ⊢
  have hA : ∀ q : Nat, s.heap.size ≤ q → A q := fun q h => by rw [← hAe]; exact Or.inr h
  have hS : va_S A s.heap s.heap [] := va_S.rf
  have hP : va_P (dC, dI) vwCl [(h0, .inr (15, [.ref a, v1, v2, v3, v4, v5])), (a, .inr (4, [w0, w1, .int 1]))] s.heap := hP
  have hl := lv_entry ([.ref h0, .int 0]) (n := 2) (Nat.le_of_ble_eq_true rfl)
  rw [lg_entry_eq]
  generalize (lg_sl ([.ref h0, .int 0]) ++ List.replicate (2 - (lg_sl ([.ref h0, .int 0])).length) Slot.unset).toArray = ls at hl ⊢
  have hl : lv_has ls 2 [(0, .ref h0), (1, .int 0)] := hl
  skip
  refine lv_iload_n hx hb dX10_isNoStructure_0 rfl (lv_at hl 1 rfl) ?_
  refine lv_iconst (v := 0) hx hb dX10_isNoStructure_1 (by decide) ?_
  refine lv_aload_n hx hb dX10_isNoStructure_2 rfl (lv_at hl 0 rfl) ?_
  refine va_get (D := (dC, dI)) (ci := 15) (v := .ref a) (C := RX10) (T := TX10) (N := 6) hx hb hts inX10 hown hK hP 0 rfl rfl 0 (by decide) (hts _ q1225) (fun _ h9 => h9) rfl dX10_isNoStructure_3 ?_
  have hPc := hP.sub (ws' := [(a, .inr (4, [w0, w1, .int 1]))]) [1] rfl
  have hDc := hD.sub (ws' := [(a, .inr (4, [w0, w1, .int 1]))]) [1] (by decide) rfl
  have hKc := hK.sub (tys' := []) [] rfl
  have hFc := va_free (wc := [(a, .inr (4, [w0, w1, .int 1]))]) hD hS hA [1] rfl
  refine va_calli (va_runV (As := []) (rest := [.int 0, .int 0]) ⟨hx, hb, hml, hown, hts⟩ (m_size l dC dI s.heap.size a w0 w1 1) (cwV 0 hts (pw_V q1252 q274 q275 q46 q276) rfl rfl rfl (by decide +kernel) ⟨(Nat.le_of_ble_eq_true rfl), (Nat.le_of_ble_eq_true rfl)⟩) ⟨fun a U g mk q => by obtain ⟨q0, q1, qP, qK, qD⟩ := q; exact ⟨q0, q1, qP, va_K.moved (u := U) (U := U.calling g mk a) (Vm.Alike.refl U.vm) qK, qD⟩, va_recv hKc hPc (ci := 4) (q0 := 0) rfl rfl, fun U hU hW => ⟨rfl, by rw [hU], by rw [hU]; exact hPc, va_K.moved hW.alike hKc, hDc.weaken (fun _ _ _ _ => trivial)⟩⟩ rfl rfl hl.1 rfl (lv_room (Nat.le_of_ble_eq_true rfl)) dX10_isNoStructure_6 ⟨(Nat.le_of_ble_eq_true rfl), (Nat.le_of_ble_eq_true rfl)⟩) hS (fun q _ h => hFc q h) hFc (fun r_1761 u t H1 locs ht hvm hw hB hz1 hk1 hS => ?_)
  obtain ⟨hP1, hK1, hD1⟩ := hB
  rw [ht] at hP1
  have hK1 := va_K.moved hvm.symm hK1
  obtain ⟨hP, hD⟩ := va_join (wr := [(h0, .inr (15, [.ref a, v1, v2, v3, v4, v5]))]) (w1 := [(a, .inr (4, [w0, w1, .int 1]))]) hP hD [1] [0] rfl rfl (by decide) (by decide) hk1 hFc hP1 hD1
  have hK := (hK.sub (tys' := []) [] rfl).app hK1
  generalize H1 = H at hP hS ⊢
  have hP : va_P (dC, dI) vwCl [(h0, .inr (15, [.ref a, v1, v2, v3, v4, v5])), (a, .inr (4, [w0, w1, .int 1]))] H := hP
  have hD : va_D A [(h0, .inr (15, [.ref a, v1, v2, v3, v4, v5])), (a, .inr (4, [w0, w1, .int 1]))] := hD
  have hK : va_K (dC, dI) vwCl [] s := hK
  refine W.widen (k := 0) (n := 0) (Nat.le_of_ble_eq_true rfl) (Nat.le_of_ble_eq_true rfl) ?_
  have hw : r_1761 = 1 := hw
  subst hw
  refine lv_iconst (v := 1) hx hb dX10_isNoStructure_9 (by decide) ?_
  refine lv_isub hx hb dX10_isNoStructure_10 ?_
  refine lv_numI (v := 0) (by decide) ?_
  have hPc := hP.sub (ws' := []) [] rfl
  have hDc := hD.sub (ws' := []) [] (by decide) rfl
  have hKc := hK.sub (tys' := []) [] rfl
  have hFc := va_free (wc := []) hD hS hA [] rfl
  refine va_calli (va_runS (As := [.int 0, .int 0, .int 0]) (rest := []) ⟨hx, hb, hml, hown, hts⟩ (n_isIn1 l dC dI H.size 0 0 0 (by decide) (by decide)) (va_cwS 3 hts (pw_S q1299 q1300 q49 q1301) rfl rfl rfl (by decide +kernel) ⟨(Nat.le_of_ble_eq_true rfl), (Nat.le_of_ble_eq_true rfl)⟩) ⟨fun a U g mk q => by obtain ⟨q0, q1, qP, qK, qD⟩ := q; exact ⟨q0, q1, qP, va_K.moved (u := U) (U := U.calling g mk a) (Vm.Alike.refl U.vm) qK, qD⟩, fun U hU hW => ⟨rfl, by rw [hU], by rw [hU]; exact hPc, va_K.moved hW.alike hKc, hDc.weaken (fun _ _ _ _ => trivial)⟩⟩ rfl rfl hl.1 rfl (lv_room (Nat.le_of_ble_eq_true rfl)) dX10_isNoStructure_11 ⟨(Nat.le_of_ble_eq_true rfl), (Nat.le_of_ble_eq_true rfl)⟩) hS (fun q _ h => hFc q h) hFc (fun r_1762 u t H1 locs ht hvm hw hB hz1 hk1 hS => ?_)
  obtain ⟨hP1, hK1, hD1⟩ := hB
  rw [ht] at hP1
  have hK1 := va_K.moved hvm.symm hK1
  obtain ⟨hP, hD⟩ := va_join (wr := [(h0, .inr (15, [.ref a, v1, v2, v3, v4, v5])), (a, .inr (4, [w0, w1, .int 1]))]) (w1 := []) hP hD [] [0, 1] rfl rfl (by decide) (by decide) hk1 hFc hP1 hD1
  have hK := (hK.sub (tys' := []) [] rfl).app hK1
  generalize H1 = H at hP hS ⊢
  have hP : va_P (dC, dI) vwCl [(h0, .inr (15, [.ref a, v1, v2, v3, v4, v5])), (a, .inr (4, [w0, w1, .int 1]))] H := hP
  have hD : va_D A [(h0, .inr (15, [.ref a, v1, v2, v3, v4, v5])), (a, .inr (4, [w0, w1, .int 1]))] := hD
  have hK : va_K (dC, dI) vwCl [] s := hK
  refine W.widen (k := 0) (n := 0) (Nat.le_of_ble_eq_true rfl) (Nat.le_of_ble_eq_true rfl) ?_
  have hw : r_1762 = 1 := hw
  subst hw
  refine lv_if_ne (tgt := 21) hx hb dX10_isNoStructure_14 (by decide) (fun c_1763 => ?_) (fun c_1763 => absurd c_1763 (by decide))
  refine lv_iconst (v := 0) hx hb dX10_isNoStructure_21 (by decide) ?_
  have hP9 := hP.sub (ws' := [(h0, .inr (15, [.ref a, v1, v2, v3, v4, v5])), (a, .inr (4, [w0, w1, .int 1]))]) [0, 1] rfl
  have hD9 := hD.sub (ws' := [(h0, .inr (15, [.ref a, v1, v2, v3, v4, v5])), (a, .inr (4, [w0, w1, .int 1]))]) [0, 1] (by decide) rfl
  have hK9 := hK.sub (tys' := []) [] rfl
  refine W.widen (k := 0) (n := 0) (Nat.le_of_ble_eq_true rfl) (Nat.le_of_ble_eq_true rfl) ?_
  exact W.zret (v := 0) hx hb hr (by decide) (fun t ht hW => ⟨⟨0, (), rfl, rfl, ⟨by rw [ht]; exact hP9, va_K.moved hW.alike hK9, hD9⟩⟩, hS.F ht⟩) hS.2.2 dX10_isNoStructure_22
set_option maxHeartbeats 4000000 in
set_option maxRecDepth 100000 in
theorem q_addMass (l : Launch) (dC : Nat → ClassId) (dI : Nat → Nat → Nat) (sz : Nat) (ed : Nat) (h0 : Nat) (a : Nat) (ea : Nat) (s2 : Nat) (ml : Nat) (ce : ClassId) (m0 : Int32) (u1 : Value) (u2 : Value) (u3 : Value) (u4 : Value) (u5 : Value) (v1 : Value) (v2 : Value) (v3 : Value) (v4 : Value) (th : Int32) (k0 : Int32) : Met l yX10_addMass (pw_ws yX10_addMass cX10_addMass 5 (some .int)) ({ frames := 5, cells := 2, slots := 14, locals := 107 } : Room) (va_Pc [.ref h0, .int 0, .int 1, .int 1, .int 0] (fun U => U.heap.size = sz ∧ va_P (dC, dI) vwCl [(h0, .inr (15, [.ref a, v1, v2, v3, v4, .int th])), (a, .inr (4, [.int m0, .ref ea, .int 1])), (ea, .inl (ce, 10, .inr (.inr (.inr (.inr (va_up (fun _ => none) 0 (some s2))))))), (s2, .inr (14, [.ref ml, u1, u2, u3, u4, u5])), (ml, .inr (4, [.int k0, .ref ed, .int 0]))] U.heap ∧ va_K (dC, dI) vwCl [(ce, .object "java/lang/Object")] U ∧ va_D (fun _ => True) [(h0, .inr (15, [.ref a, v1, v2, v3, v4, .int th])), (a, .inr (4, [.int m0, .ref ea, .int 1])), (ea, .inl (ce, 10, .inr (.inr (.inr (.inr (va_up (fun _ => none) 0 (some s2))))))), (s2, .inr (14, [.ref ml, u1, u2, u3, u4, u5])), (ml, .inr (4, [.int k0, .ref ed, .int 0]))] ∧ pz ed (va_A [(h0, .inr (15, [.ref a, v1, v2, v3, v4, .int th])), (a, .inr (4, [.int m0, .ref ea, .int 1])), (ea, .inl (ce, 10, .inr (.inr (.inr (.inr (va_up (fun _ => none) 0 (some s2))))))), (s2, .inr (14, [.ref ml, u1, u2, u3, u4, u5])), (ml, .inr (4, [.int k0, .ref ed, .int 0]))] sz) U U.heap ∧ pr U)) (va_Qi (fun (r : Int32) (_ : Unit) => r = 1) (fun (_ : Unit) (t : State) => ∃ (eml : Nat), ∃ (mr : Nat), ∃ (cel : ClassId), ∃ (cmr : ClassId), ∃ (k1 : Int32), va_P (dC, dI) vwCl [(h0, .inr (15, [.ref a, v1, v2, v3, v4, .int 0])), (a, .inr (4, [.int m0, .ref ea, .int 1])), (ea, .inl (ce, 10, .inr (.inr (.inr (.inr (va_up (fun _ => none) 0 (some s2))))))), (s2, .inr (14, [.ref ml, u1, u2, u3, u4, u5])), (ml, .inr (4, [.int k1, .ref eml, .int 1])), (eml, .inl (cel, 10, .inr (.inr (.inr (.inr (va_up (fun _ => none) 0 (some mr))))))), (mr, .inl (cmr, 4, .inl (upd (upd (upd (upd (fun _ => 0) 0 1) 1 1) 2 0) 3 0)))] t.heap ∧ va_K (dC, dI) vwCl [(ce, .object "java/lang/Object"), (cel, .object "java/lang/Object"), (cmr, .int)] t ∧ va_D (va_A [(h0, .inr (15, [.ref a, v1, v2, v3, v4, .int th])), (a, .inr (4, [.int m0, .ref ea, .int 1])), (ea, .inl (ce, 10, .inr (.inr (.inr (.inr (va_up (fun _ => none) 0 (some s2))))))), (s2, .inr (14, [.ref ml, u1, u2, u3, u4, u5])), (ml, .inr (4, [.int k0, .ref ed, .int 0]))] sz) [(h0, .inr (15, [.ref a, v1, v2, v3, v4, .int 0])), (a, .inr (4, [.int m0, .ref ea, .int 1])), (ea, .inl (ce, 10, .inr (.inr (.inr (.inr (va_up (fun _ => none) 0 (some s2))))))), (s2, .inr (14, [.ref ml, u1, u2, u3, u4, u5])), (ml, .inr (4, [.int k1, .ref eml, .int 1])), (eml, .inl (cel, 10, .inr (.inr (.inr (.inr (va_up (fun _ => none) 0 (some mr))))))), (mr, .inl (cmr, 4, .inl (upd (upd (upd (upd (fun _ => 0) 0 1) 1 1) 2 0) 3 0)))]) (va_A [(h0, .inr (15, [.ref a, v1, v2, v3, v4, .int th])), (a, .inr (4, [.int m0, .ref ea, .int 1])), (ea, .inl (ce, 10, .inr (.inr (.inr (.inr (va_up (fun _ => none) 0 (some s2))))))), (s2, .inr (14, [.ref ml, u1, u2, u3, u4, u5])), (ml, .inr (4, [.int k0, .ref ed, .int 0]))] sz)) 2 14 (va_A [(h0, .inr (15, [.ref a, v1, v2, v3, v4, .int th])), (a, .inr (4, [.int m0, .ref ea, .int 1])), (ea, .inl (ce, 10, .inr (.inr (.inr (.inr (va_up (fun _ => none) 0 (some s2))))))), (s2, .inr (14, [.ref ml, u1, u2, u3, u4, u5])), (ml, .inr (4, [.int k0, .ref ed, .int 0]))] sz) := by
  refine Met.ofW (cc := cX10_addMass) (maxL := 5) (ret := (some .int)) (by decide) rfl ?_
  intro p e s m args below meth c s₁ B hml hv
  obtain ⟨rfl, hsz, hP, hK, hD0, hZ, hR⟩ := hv
  have hx := B.exec
  have hb := B.bytes
  have hr := B.returns
  have hts0 := atoms_spec (ws := (pw_ws yX10_addMass cX10_addMass 5 (some .int))) B.pre
  have hts : ∀ w ∈ pw_all, w.before _ s = true := fun w h => hts0 w (List.mem_cons_of_mem _ h)
  have hown : s.vm.findClass RX10 = some m.cls := findClass_of_methodNamed B.named
  have hlocks := B.notSynchronized
  subst hsz
  have hD := hD0.self (sz := s.heap.size)
  generalize hAe : va_A [(h0, .inr (15, [.ref a, v1, v2, v3, v4, .int th])), (a, .inr (4, [.int m0, .ref ea, .int 1])), (ea, .inl (ce, 10, .inr (.inr (.inr (.inr (va_up (fun _ => none) 0 (some s2))))))), (s2, .inr (14, [.ref ml, u1, u2, u3, u4, u5])), (ml, .inr (4, [.int k0, .ref ed, .int 0]))] s.heap.size = A at hD hZ ⊢
  have hA : ∀ q : Nat, s.heap.size ≤ q → A q := fun q h => by rw [← hAe]; exact Or.inr h
  have hS : va_S A s.heap s.heap [] := va_S.rf
  have hP : va_P (dC, dI) vwCl [(h0, .inr (15, [.ref a, v1, v2, v3, v4, .int th])), (a, .inr (4, [.int m0, .ref ea, .int 1])), (ea, .inl (ce, 10, .inr (.inr (.inr (.inr (va_up (fun _ => none) 0 (some s2))))))), (s2, .inr (14, [.ref ml, u1, u2, u3, u4, u5])), (ml, .inr (4, [.int k0, .ref ed, .int 0]))] s.heap := hP
  have hl := lv_entry ([.ref h0, .int 0, .int 1, .int 1, .int 0]) (n := 5) (Nat.le_of_ble_eq_true rfl)
  rw [lg_entry_eq]
  generalize (lg_sl ([.ref h0, .int 0, .int 1, .int 1, .int 0]) ++ List.replicate (5 - (lg_sl ([.ref h0, .int 0, .int 1, .int 1, .int 0])).length) Slot.unset).toArray = ls at hl ⊢
  have hl : lv_has ls 5 [(0, .ref h0), (1, .int 0), (2, .int 1), (3, .int 1), (4, .int 0)] := hl
  skip
  refine lv_aload_n hx hb dX10_addMass_0 rfl (lv_at hl 0 rfl) ?_
  refine lv_aload_n hx hb dX10_addMass_1 rfl (lv_at hl 0 rfl) ?_
  refine lv_iload_n hx hb dX10_addMass_2 rfl (lv_at hl 1 rfl) ?_
  have hPc := hP.sub (ws' := [(h0, .inr (15, [.ref a, v1, v2, v3, v4, .int th])), (a, .inr (4, [.int m0, .ref ea, .int 1]))]) [0, 1] rfl
  have hDc := hD.sub (ws' := [(h0, .inr (15, [.ref a, v1, v2, v3, v4, .int th])), (a, .inr (4, [.int m0, .ref ea, .int 1]))]) [0, 1] (by decide) rfl
  have hKc := hK.sub (tys' := []) [] rfl
  have hFc := va_free (wc := [(h0, .inr (15, [.ref a, v1, v2, v3, v4, .int th])), (a, .inr (4, [.int m0, .ref ea, .int 1]))]) hD hS hA [0, 1] rfl
  refine va_calli (va_runV (As := [.int 0]) (rest := [.ref h0]) ⟨hx, hb, hml, hown, hts⟩ (q_isNoStructure l dC dI s.heap.size h0 a v1 v2 v3 v4 (.int th) (.int m0) (.ref ea)) (cwV 1 hts (pw_V q1295 q1297 q20 q49 q1298) rfl rfl rfl (by decide +kernel) ⟨(Nat.le_of_ble_eq_true rfl), (Nat.le_of_ble_eq_true rfl)⟩) ⟨fun a U g mk q => by obtain ⟨q0, q1, qP, qK, qD⟩ := q; exact ⟨q0, q1, qP, va_K.moved (u := U) (U := U.calling g mk a) (Vm.Alike.refl U.vm) qK, qD⟩, va_recv hKc hPc (ci := 15) (q0 := 0) rfl rfl, fun U hU hW => ⟨rfl, by rw [hU], by rw [hU]; exact hPc, va_K.moved hW.alike hKc, hDc.weaken (fun _ _ _ _ => trivial)⟩⟩ rfl rfl hl.1 rfl (lv_room (Nat.le_of_ble_eq_true rfl)) dX10_addMass_3 ⟨(Nat.le_of_ble_eq_true rfl), (Nat.le_of_ble_eq_true rfl)⟩) hS (fun q _ h => hFc q h) hFc (fun r_1764 u t H1 locs ht hvm hw hB hz1 hk1 hS => ?_)
  obtain ⟨hP1, hK1, hD1⟩ := hB
  rw [ht] at hP1
  have hK1 := va_K.moved hvm.symm hK1
  obtain ⟨hP, hD⟩ := va_join (wr := [(ea, .inl (ce, 10, .inr (.inr (.inr (.inr (va_up (fun _ => none) 0 (some s2))))))), (s2, .inr (14, [.ref ml, u1, u2, u3, u4, u5])), (ml, .inr (4, [.int k0, .ref ed, .int 0]))]) (w1 := [(h0, .inr (15, [.ref a, v1, v2, v3, v4, .int th])), (a, .inr (4, [.int m0, .ref ea, .int 1]))]) hP hD [0, 1] [2, 3, 4] rfl rfl (by decide) (by decide) hk1 hFc hP1 hD1
  have hK := (hK.sub (tys' := [(ce, .object "java/lang/Object")]) [0] rfl).app hK1
  generalize H1 = H at hP hS ⊢
  have hP : va_P (dC, dI) vwCl [(ea, .inl (ce, 10, .inr (.inr (.inr (.inr (va_up (fun _ => none) 0 (some s2))))))), (s2, .inr (14, [.ref ml, u1, u2, u3, u4, u5])), (ml, .inr (4, [.int k0, .ref ed, .int 0])), (h0, .inr (15, [.ref a, v1, v2, v3, v4, .int th])), (a, .inr (4, [.int m0, .ref ea, .int 1]))] H := hP
  have hD : va_D A [(ea, .inl (ce, 10, .inr (.inr (.inr (.inr (va_up (fun _ => none) 0 (some s2))))))), (s2, .inr (14, [.ref ml, u1, u2, u3, u4, u5])), (ml, .inr (4, [.int k0, .ref ed, .int 0])), (h0, .inr (15, [.ref a, v1, v2, v3, v4, .int th])), (a, .inr (4, [.int m0, .ref ea, .int 1]))] := hD
  have hK : va_K (dC, dI) vwCl [(ce, .object "java/lang/Object")] s := hK
  refine W.widen (k := 0) (n := 0) (Nat.le_of_ble_eq_true rfl) (Nat.le_of_ble_eq_true rfl) ?_
  have hw : r_1764 = 0 := hw
  subst hw
  refine lv_iconst (v := 1) hx hb dX10_addMass_6 (by decide) ?_
  have hPc := hP.sub (ws' := [(h0, .inr (15, [.ref a, v1, v2, v3, v4, .int th]))]) [3] rfl
  have hDc := hD.sub (ws' := [(h0, .inr (15, [.ref a, v1, v2, v3, v4, .int th]))]) [3] (by decide) rfl
  have hKc := hK.sub (tys' := []) [] rfl
  have hFc := va_free (wc := [(h0, .inr (15, [.ref a, v1, v2, v3, v4, .int th]))]) hD hS hA [3] rfl
  refine va_calli (va_runV (As := [.int 0, .int 1]) (rest := []) ⟨hx, hb, hml, hown, hts⟩ (n_isThrown0 l dC dI H.size h0 (.ref a) v1 v2 v3 v4 th 1) (cwV 2 hts (pw_V q1253 q1255 q19 q49 q1256) rfl rfl rfl (by decide +kernel) ⟨(Nat.le_of_ble_eq_true rfl), (Nat.le_of_ble_eq_true rfl)⟩) ⟨fun a U g mk q => by obtain ⟨q0, q1, qP, qK, qD⟩ := q; exact ⟨q0, q1, qP, va_K.moved (u := U) (U := U.calling g mk a) (Vm.Alike.refl U.vm) qK, qD⟩, va_recv hKc hPc (ci := 15) (q0 := 0) rfl rfl, fun U hU hW => ⟨rfl, by rw [hU], by rw [hU]; exact hPc, va_K.moved hW.alike hKc, hDc.weaken (fun _ _ _ _ => trivial)⟩⟩ rfl rfl hl.1 rfl (lv_room (Nat.le_of_ble_eq_true rfl)) dX10_addMass_7 ⟨(Nat.le_of_ble_eq_true rfl), (Nat.le_of_ble_eq_true rfl)⟩) hS (fun q _ h => hFc q h) hFc (fun r_1765 u t H1 locs ht hvm hw hB hz1 hk1 hS => ?_)
  obtain ⟨hP1, hK1, hD1⟩ := hB
  rw [ht] at hP1
  have hK1 := va_K.moved hvm.symm hK1
  obtain ⟨hP, hD⟩ := va_join (wr := [(ea, .inl (ce, 10, .inr (.inr (.inr (.inr (va_up (fun _ => none) 0 (some s2))))))), (s2, .inr (14, [.ref ml, u1, u2, u3, u4, u5])), (ml, .inr (4, [.int k0, .ref ed, .int 0])), (a, .inr (4, [.int m0, .ref ea, .int 1]))]) (w1 := [(h0, .inr (15, [.ref a, v1, v2, v3, v4, .int 0]))]) hP hD [3] [0, 1, 2, 4] rfl rfl (by decide) (by decide) hk1 hFc hP1 hD1
  have hK := (hK.sub (tys' := [(ce, .object "java/lang/Object")]) [0] rfl).app hK1
  generalize H1 = H at hP hS ⊢
  have hP : va_P (dC, dI) vwCl [(ea, .inl (ce, 10, .inr (.inr (.inr (.inr (va_up (fun _ => none) 0 (some s2))))))), (s2, .inr (14, [.ref ml, u1, u2, u3, u4, u5])), (ml, .inr (4, [.int k0, .ref ed, .int 0])), (a, .inr (4, [.int m0, .ref ea, .int 1])), (h0, .inr (15, [.ref a, v1, v2, v3, v4, .int 0]))] H := hP
  have hD : va_D A [(ea, .inl (ce, 10, .inr (.inr (.inr (.inr (va_up (fun _ => none) 0 (some s2))))))), (s2, .inr (14, [.ref ml, u1, u2, u3, u4, u5])), (ml, .inr (4, [.int k0, .ref ed, .int 0])), (a, .inr (4, [.int m0, .ref ea, .int 1])), (h0, .inr (15, [.ref a, v1, v2, v3, v4, .int 0]))] := hD
  have hK : va_K (dC, dI) vwCl [(ce, .object "java/lang/Object")] s := hK
  refine W.widen (k := 0) (n := 0) (Nat.le_of_ble_eq_true rfl) (Nat.le_of_ble_eq_true rfl) ?_
  have hw : r_1765 = 0 := hw
  subst hw
  refine lv_if_ne (tgt := 92) hx hb dX10_addMass_10 (by decide) (fun c_1766 => absurd (by decide) c_1766) (fun c_1766 => ?_)
  refine lv_aload_n hx hb dX10_addMass_13 rfl (lv_at hl 0 rfl) ?_
  refine lv_iload_n hx hb dX10_addMass_14 rfl (lv_at hl 2 rfl) ?_
  refine lv_iconst (v := 1) hx hb dX10_addMass_15 (by decide) ?_
  refine lv_bipush (v := 99) hx hb dX10_addMass_16 (by decide) ?_
  have hPc := hP.sub (ws' := []) [] rfl
  have hDc := hD.sub (ws' := []) [] (by decide) rfl
  have hKc := hK.sub (tys' := []) [] rfl
  have hFc := va_free (wc := []) hD hS hA [] rfl
  refine va_calli (va_runS (As := [.int 1, .int 1, .int 99]) (rest := [.ref h0]) ⟨hx, hb, hml, hown, hts⟩ (n_isIn1 l dC dI H.size 1 1 99 (by decide) (by decide)) (va_cwS 3 hts (pw_S q1299 q1300 q49 q1301) rfl rfl rfl (by decide +kernel) ⟨(Nat.le_of_ble_eq_true rfl), (Nat.le_of_ble_eq_true rfl)⟩) ⟨fun a U g mk q => by obtain ⟨q0, q1, qP, qK, qD⟩ := q; exact ⟨q0, q1, qP, va_K.moved (u := U) (U := U.calling g mk a) (Vm.Alike.refl U.vm) qK, qD⟩, fun U hU hW => ⟨rfl, by rw [hU], by rw [hU]; exact hPc, va_K.moved hW.alike hKc, hDc.weaken (fun _ _ _ _ => trivial)⟩⟩ rfl rfl hl.1 rfl (lv_room (Nat.le_of_ble_eq_true rfl)) dX10_addMass_18 ⟨(Nat.le_of_ble_eq_true rfl), (Nat.le_of_ble_eq_true rfl)⟩) hS (fun q _ h => hFc q h) hFc (fun r_1767 u t H1 locs ht hvm hw hB hz1 hk1 hS => ?_)
  obtain ⟨hP1, hK1, hD1⟩ := hB
  rw [ht] at hP1
  have hK1 := va_K.moved hvm.symm hK1
  obtain ⟨hP, hD⟩ := va_join (wr := [(ea, .inl (ce, 10, .inr (.inr (.inr (.inr (va_up (fun _ => none) 0 (some s2))))))), (s2, .inr (14, [.ref ml, u1, u2, u3, u4, u5])), (ml, .inr (4, [.int k0, .ref ed, .int 0])), (a, .inr (4, [.int m0, .ref ea, .int 1])), (h0, .inr (15, [.ref a, v1, v2, v3, v4, .int 0]))]) (w1 := []) hP hD [] [0, 1, 2, 3, 4] rfl rfl (by decide) (by decide) hk1 hFc hP1 hD1
  have hK := (hK.sub (tys' := [(ce, .object "java/lang/Object")]) [0] rfl).app hK1
  generalize H1 = H at hP hS ⊢
  have hP : va_P (dC, dI) vwCl [(ea, .inl (ce, 10, .inr (.inr (.inr (.inr (va_up (fun _ => none) 0 (some s2))))))), (s2, .inr (14, [.ref ml, u1, u2, u3, u4, u5])), (ml, .inr (4, [.int k0, .ref ed, .int 0])), (a, .inr (4, [.int m0, .ref ea, .int 1])), (h0, .inr (15, [.ref a, v1, v2, v3, v4, .int 0]))] H := hP
  have hD : va_D A [(ea, .inl (ce, 10, .inr (.inr (.inr (.inr (va_up (fun _ => none) 0 (some s2))))))), (s2, .inr (14, [.ref ml, u1, u2, u3, u4, u5])), (ml, .inr (4, [.int k0, .ref ed, .int 0])), (a, .inr (4, [.int m0, .ref ea, .int 1])), (h0, .inr (15, [.ref a, v1, v2, v3, v4, .int 0]))] := hD
  have hK : va_K (dC, dI) vwCl [(ce, .object "java/lang/Object")] s := hK
  refine W.widen (k := 0) (n := 0) (Nat.le_of_ble_eq_true rfl) (Nat.le_of_ble_eq_true rfl) ?_
  have hw : r_1767 = 1 := hw
  subst hw
  refine lv_if_eq (tgt := 46) hx hb dX10_addMass_21 (by decide) (fun c_1768 => absurd c_1768 (by decide)) (fun c_1768 => ?_)
  refine lv_iload_n hx hb dX10_addMass_24 rfl (lv_at hl 3 rfl) ?_
  refine lv_iconst (v := 1) hx hb dX10_addMass_25 (by decide) ?_
  refine lv_sipush (v := 9999) hx hb dX10_addMass_26 (by decide) ?_
  have hPc := hP.sub (ws' := []) [] rfl
  have hDc := hD.sub (ws' := []) [] (by decide) rfl
  have hKc := hK.sub (tys' := []) [] rfl
  have hFc := va_free (wc := []) hD hS hA [] rfl
  refine va_calli (va_runS (As := [.int 1, .int 1, .int 9999]) (rest := [.ref h0]) ⟨hx, hb, hml, hown, hts⟩ (n_isIn1 l dC dI H.size 1 1 9999 (by decide) (by decide)) (va_cwS 3 hts (pw_S q1299 q1300 q49 q1301) rfl rfl rfl (by decide +kernel) ⟨(Nat.le_of_ble_eq_true rfl), (Nat.le_of_ble_eq_true rfl)⟩) ⟨fun a U g mk q => by obtain ⟨q0, q1, qP, qK, qD⟩ := q; exact ⟨q0, q1, qP, va_K.moved (u := U) (U := U.calling g mk a) (Vm.Alike.refl U.vm) qK, qD⟩, fun U hU hW => ⟨rfl, by rw [hU], by rw [hU]; exact hPc, va_K.moved hW.alike hKc, hDc.weaken (fun _ _ _ _ => trivial)⟩⟩ rfl rfl hl.1 rfl (lv_room (Nat.le_of_ble_eq_true rfl)) dX10_addMass_29 ⟨(Nat.le_of_ble_eq_true rfl), (Nat.le_of_ble_eq_true rfl)⟩) hS (fun q _ h => hFc q h) hFc (fun r_1769 u t H1 locs ht hvm hw hB hz1 hk1 hS => ?_)
  obtain ⟨hP1, hK1, hD1⟩ := hB
  rw [ht] at hP1
  have hK1 := va_K.moved hvm.symm hK1
  obtain ⟨hP, hD⟩ := va_join (wr := [(ea, .inl (ce, 10, .inr (.inr (.inr (.inr (va_up (fun _ => none) 0 (some s2))))))), (s2, .inr (14, [.ref ml, u1, u2, u3, u4, u5])), (ml, .inr (4, [.int k0, .ref ed, .int 0])), (a, .inr (4, [.int m0, .ref ea, .int 1])), (h0, .inr (15, [.ref a, v1, v2, v3, v4, .int 0]))]) (w1 := []) hP hD [] [0, 1, 2, 3, 4] rfl rfl (by decide) (by decide) hk1 hFc hP1 hD1
  have hK := (hK.sub (tys' := [(ce, .object "java/lang/Object")]) [0] rfl).app hK1
  generalize H1 = H at hP hS ⊢
  have hP : va_P (dC, dI) vwCl [(ea, .inl (ce, 10, .inr (.inr (.inr (.inr (va_up (fun _ => none) 0 (some s2))))))), (s2, .inr (14, [.ref ml, u1, u2, u3, u4, u5])), (ml, .inr (4, [.int k0, .ref ed, .int 0])), (a, .inr (4, [.int m0, .ref ea, .int 1])), (h0, .inr (15, [.ref a, v1, v2, v3, v4, .int 0]))] H := hP
  have hD : va_D A [(ea, .inl (ce, 10, .inr (.inr (.inr (.inr (va_up (fun _ => none) 0 (some s2))))))), (s2, .inr (14, [.ref ml, u1, u2, u3, u4, u5])), (ml, .inr (4, [.int k0, .ref ed, .int 0])), (a, .inr (4, [.int m0, .ref ea, .int 1])), (h0, .inr (15, [.ref a, v1, v2, v3, v4, .int 0]))] := hD
  have hK : va_K (dC, dI) vwCl [(ce, .object "java/lang/Object")] s := hK
  refine W.widen (k := 0) (n := 0) (Nat.le_of_ble_eq_true rfl) (Nat.le_of_ble_eq_true rfl) ?_
  have hw : r_1769 = 1 := hw
  subst hw
  refine lv_if_eq (tgt := 46) hx hb dX10_addMass_32 (by decide) (fun c_1770 => absurd c_1770 (by decide)) (fun c_1770 => ?_)
  refine lv_iload hx hb dX10_addMass_35 (lv_at hl 4 rfl) ?_
  refine lv_iconst (v := 0) hx hb dX10_addMass_37 (by decide) ?_
  refine lv_bipush (v := 99) hx hb dX10_addMass_38 (by decide) ?_
  have hPc := hP.sub (ws' := []) [] rfl
  have hDc := hD.sub (ws' := []) [] (by decide) rfl
  have hKc := hK.sub (tys' := []) [] rfl
  have hFc := va_free (wc := []) hD hS hA [] rfl
  refine va_calli (va_runS (As := [.int 0, .int 0, .int 99]) (rest := [.ref h0]) ⟨hx, hb, hml, hown, hts⟩ (n_isIn1 l dC dI H.size 0 0 99 (by decide) (by decide)) (va_cwS 3 hts (pw_S q1299 q1300 q49 q1301) rfl rfl rfl (by decide +kernel) ⟨(Nat.le_of_ble_eq_true rfl), (Nat.le_of_ble_eq_true rfl)⟩) ⟨fun a U g mk q => by obtain ⟨q0, q1, qP, qK, qD⟩ := q; exact ⟨q0, q1, qP, va_K.moved (u := U) (U := U.calling g mk a) (Vm.Alike.refl U.vm) qK, qD⟩, fun U hU hW => ⟨rfl, by rw [hU], by rw [hU]; exact hPc, va_K.moved hW.alike hKc, hDc.weaken (fun _ _ _ _ => trivial)⟩⟩ rfl rfl hl.1 rfl (lv_room (Nat.le_of_ble_eq_true rfl)) dX10_addMass_40 ⟨(Nat.le_of_ble_eq_true rfl), (Nat.le_of_ble_eq_true rfl)⟩) hS (fun q _ h => hFc q h) hFc (fun r_1771 u t H1 locs ht hvm hw hB hz1 hk1 hS => ?_)
  obtain ⟨hP1, hK1, hD1⟩ := hB
  rw [ht] at hP1
  have hK1 := va_K.moved hvm.symm hK1
  obtain ⟨hP, hD⟩ := va_join (wr := [(ea, .inl (ce, 10, .inr (.inr (.inr (.inr (va_up (fun _ => none) 0 (some s2))))))), (s2, .inr (14, [.ref ml, u1, u2, u3, u4, u5])), (ml, .inr (4, [.int k0, .ref ed, .int 0])), (a, .inr (4, [.int m0, .ref ea, .int 1])), (h0, .inr (15, [.ref a, v1, v2, v3, v4, .int 0]))]) (w1 := []) hP hD [] [0, 1, 2, 3, 4] rfl rfl (by decide) (by decide) hk1 hFc hP1 hD1
  have hK := (hK.sub (tys' := [(ce, .object "java/lang/Object")]) [0] rfl).app hK1
  generalize H1 = H at hP hS ⊢
  have hP : va_P (dC, dI) vwCl [(ea, .inl (ce, 10, .inr (.inr (.inr (.inr (va_up (fun _ => none) 0 (some s2))))))), (s2, .inr (14, [.ref ml, u1, u2, u3, u4, u5])), (ml, .inr (4, [.int k0, .ref ed, .int 0])), (a, .inr (4, [.int m0, .ref ea, .int 1])), (h0, .inr (15, [.ref a, v1, v2, v3, v4, .int 0]))] H := hP
  have hD : va_D A [(ea, .inl (ce, 10, .inr (.inr (.inr (.inr (va_up (fun _ => none) 0 (some s2))))))), (s2, .inr (14, [.ref ml, u1, u2, u3, u4, u5])), (ml, .inr (4, [.int k0, .ref ed, .int 0])), (a, .inr (4, [.int m0, .ref ea, .int 1])), (h0, .inr (15, [.ref a, v1, v2, v3, v4, .int 0]))] := hD
  have hK : va_K (dC, dI) vwCl [(ce, .object "java/lang/Object")] s := hK
  refine W.widen (k := 0) (n := 0) (Nat.le_of_ble_eq_true rfl) (Nat.le_of_ble_eq_true rfl) ?_
  have hw : r_1771 = 1 := hw
  subst hw
  refine lv_if_ne (tgt := 50) hx hb dX10_addMass_43 (by decide) (fun c_1772 => ?_) (fun c_1772 => absurd c_1772 (by decide))
  refine lv_iconst (v := 0) hx hb dX10_addMass_50 (by decide) ?_
  refine lv_iconst (v := 2) hx hb dX10_addMass_51 (by decide) ?_
  have hPc := hP.sub (ws' := [(h0, .inr (15, [.ref a, v1, v2, v3, v4, .int 0]))]) [4] rfl
  have hDc := hD.sub (ws' := [(h0, .inr (15, [.ref a, v1, v2, v3, v4, .int 0]))]) [4] (by decide) rfl
  have hKc := hK.sub (tys' := []) [] rfl
  have hFc := va_free (wc := [(h0, .inr (15, [.ref a, v1, v2, v3, v4, .int 0]))]) hD hS hA [4] rfl
  refine va_calli (va_runV (As := [.int 0, .int 2]) (rest := []) ⟨hx, hb, hml, hown, hts⟩ (n_isThrown0 l dC dI H.size h0 (.ref a) v1 v2 v3 v4 0 2) (cwV 2 hts (pw_V q1253 q1255 q19 q49 q1256) rfl rfl rfl (by decide +kernel) ⟨(Nat.le_of_ble_eq_true rfl), (Nat.le_of_ble_eq_true rfl)⟩) ⟨fun a U g mk q => by obtain ⟨q0, q1, qP, qK, qD⟩ := q; exact ⟨q0, q1, qP, va_K.moved (u := U) (U := U.calling g mk a) (Vm.Alike.refl U.vm) qK, qD⟩, va_recv hKc hPc (ci := 15) (q0 := 0) rfl rfl, fun U hU hW => ⟨rfl, by rw [hU], by rw [hU]; exact hPc, va_K.moved hW.alike hKc, hDc.weaken (fun _ _ _ _ => trivial)⟩⟩ rfl rfl hl.1 rfl (lv_room (Nat.le_of_ble_eq_true rfl)) dX10_addMass_52 ⟨(Nat.le_of_ble_eq_true rfl), (Nat.le_of_ble_eq_true rfl)⟩) hS (fun q _ h => hFc q h) hFc (fun r_1773 u t H1 locs ht hvm hw hB hz1 hk1 hS => ?_)
  obtain ⟨hP1, hK1, hD1⟩ := hB
  rw [ht] at hP1
  have hK1 := va_K.moved hvm.symm hK1
  obtain ⟨hP, hD⟩ := va_join (wr := [(ea, .inl (ce, 10, .inr (.inr (.inr (.inr (va_up (fun _ => none) 0 (some s2))))))), (s2, .inr (14, [.ref ml, u1, u2, u3, u4, u5])), (ml, .inr (4, [.int k0, .ref ed, .int 0])), (a, .inr (4, [.int m0, .ref ea, .int 1]))]) (w1 := [(h0, .inr (15, [.ref a, v1, v2, v3, v4, .int 0]))]) hP hD [4] [0, 1, 2, 3] rfl rfl (by decide) (by decide) hk1 hFc hP1 hD1
  have hK := (hK.sub (tys' := [(ce, .object "java/lang/Object")]) [0] rfl).app hK1
  generalize H1 = H at hP hS ⊢
  have hP : va_P (dC, dI) vwCl [(ea, .inl (ce, 10, .inr (.inr (.inr (.inr (va_up (fun _ => none) 0 (some s2))))))), (s2, .inr (14, [.ref ml, u1, u2, u3, u4, u5])), (ml, .inr (4, [.int k0, .ref ed, .int 0])), (a, .inr (4, [.int m0, .ref ea, .int 1])), (h0, .inr (15, [.ref a, v1, v2, v3, v4, .int 0]))] H := hP
  have hD : va_D A [(ea, .inl (ce, 10, .inr (.inr (.inr (.inr (va_up (fun _ => none) 0 (some s2))))))), (s2, .inr (14, [.ref ml, u1, u2, u3, u4, u5])), (ml, .inr (4, [.int k0, .ref ed, .int 0])), (a, .inr (4, [.int m0, .ref ea, .int 1])), (h0, .inr (15, [.ref a, v1, v2, v3, v4, .int 0]))] := hD
  have hK : va_K (dC, dI) vwCl [(ce, .object "java/lang/Object")] s := hK
  refine W.widen (k := 0) (n := 0) (Nat.le_of_ble_eq_true rfl) (Nat.le_of_ble_eq_true rfl) ?_
  have hw : r_1773 = 0 := hw
  subst hw
  refine lv_if_ne (tgt := 92) hx hb dX10_addMass_55 (by decide) (fun c_1774 => absurd (by decide) c_1774) (fun c_1774 => ?_)
  refine lv_aload_n hx hb dX10_addMass_58 rfl (lv_at hl 0 rfl) ?_
  refine lv_aload_n hx hb dX10_addMass_59 rfl (lv_at hl 0 rfl) ?_
  refine va_get (D := (dC, dI)) (ci := 15) (v := .ref a) (C := RX10) (T := TX10) (N := 6) hx hb hts inX10 hown hK hP 4 rfl rfl 0 (by decide) (hts _ q1225) (fun _ h9 => h9) rfl dX10_addMass_60 ?_
  refine lv_iload_n hx hb dX10_addMass_63 rfl (lv_at hl 1 rfl) ?_
  have hPc := hP.sub (ws' := [(a, .inr (4, [.int m0, .ref ea, .int 1])), (ea, .inl (ce, 10, .inr (.inr (.inr (.inr (va_up (fun _ => none) 0 (some s2)))))))]) [3, 0] rfl
  have hDc := hD.sub (ws' := [(a, .inr (4, [.int m0, .ref ea, .int 1])), (ea, .inl (ce, 10, .inr (.inr (.inr (.inr (va_up (fun _ => none) 0 (some s2)))))))]) [3, 0] (by decide) rfl
  have hKc := hK.sub (tys' := [(ce, .object "java/lang/Object")]) [0] rfl
  have hFc := va_free (wc := [(a, .inr (4, [.int m0, .ref ea, .int 1])), (ea, .inl (ce, 10, .inr (.inr (.inr (.inr (va_up (fun _ => none) 0 (some s2)))))))]) hD hS hA [3, 0] rfl
  refine va_callr (va_runV (As := [.int 0]) (rest := [.ref h0]) ⟨hx, hb, hml, hown, hts⟩ (r_get l dC dI H.size a ea s2 ce m0) (cwV 1 hts (pw_V q1302 q278 q279 q46 q280) rfl rfl rfl (by decide +kernel) ⟨(Nat.le_of_ble_eq_true rfl), (Nat.le_of_ble_eq_true rfl)⟩) ⟨fun a U g mk q => by obtain ⟨q0, q1, qP, qK, qD⟩ := q; exact ⟨q0, q1, qP, va_K.moved (u := U) (U := U.calling g mk a) (Vm.Alike.refl U.vm) qK, qD⟩, va_recv hKc hPc (ci := 4) (q0 := 0) rfl rfl, fun U hU hW => ⟨rfl, by rw [hU], by rw [hU]; exact hPc, va_K.moved hW.alike hKc, hDc.weaken (fun _ _ _ _ => trivial)⟩⟩ rfl rfl hl.1 rfl (lv_room (Nat.le_of_ble_eq_true rfl)) dX10_addMass_64 ⟨(Nat.le_of_ble_eq_true rfl), (Nat.le_of_ble_eq_true rfl)⟩) hS (fun q _ h => hFc q h) hFc (fun u r_1775 t H1 locs ht hvm hw hB hz1 hk1 hS => ?_)
  obtain ⟨hra, hP1, hK1, hD1⟩ := hB
  rw [ht] at hP1
  have hK1 := va_K.moved hvm.symm hK1
  obtain ⟨hP, hD⟩ := va_join (wr := [(s2, .inr (14, [.ref ml, u1, u2, u3, u4, u5])), (ml, .inr (4, [.int k0, .ref ed, .int 0])), (h0, .inr (15, [.ref a, v1, v2, v3, v4, .int 0]))]) (w1 := [(a, .inr (4, [.int m0, .ref ea, .int 1])), (ea, .inl (ce, 10, .inr (.inr (.inr (.inr (va_up (fun _ => none) 0 (some s2)))))))]) hP hD [3, 0] [1, 2, 4] rfl rfl (by decide) (by decide) hk1 hFc hP1 hD1
  have hK := (hK.sub (tys' := []) [] rfl).app hK1
  generalize H1 = H at hP hS ⊢
  have hP : va_P (dC, dI) vwCl [(s2, .inr (14, [.ref ml, u1, u2, u3, u4, u5])), (ml, .inr (4, [.int k0, .ref ed, .int 0])), (h0, .inr (15, [.ref a, v1, v2, v3, v4, .int 0])), (a, .inr (4, [.int m0, .ref ea, .int 1])), (ea, .inl (ce, 10, .inr (.inr (.inr (.inr (va_up (fun _ => none) 0 (some s2)))))))] H := hP
  have hD : va_D A [(s2, .inr (14, [.ref ml, u1, u2, u3, u4, u5])), (ml, .inr (4, [.int k0, .ref ed, .int 0])), (h0, .inr (15, [.ref a, v1, v2, v3, v4, .int 0])), (a, .inr (4, [.int m0, .ref ea, .int 1])), (ea, .inl (ce, 10, .inr (.inr (.inr (.inr (va_up (fun _ => none) 0 (some s2)))))))] := hD
  have hK : va_K (dC, dI) vwCl [(ce, .object "java/lang/Object")] s := hK
  refine W.widen (k := 0) (n := 0) (Nat.le_of_ble_eq_true rfl) (Nat.le_of_ble_eq_true rfl) ?_
  replace hra := hra.symm; subst hra
  refine va_castS (nm := "ShakerhallModel$Structure") hx hb hown (hts _ q1257) (hK.1 14 _ rfl).2 (va_recv hK hP (ci := 14) (q0 := 0) rfl rfl) dX10_addMass_67 ?_
  refine va_getN (D := (dC, dI)) (ci := 14) (v := .ref ml) (C := RX9) (T := TX9) (N := 6) hx hb hts inX9 hown hK hP 0 rfl rfl 0 (by decide) (va_Nw.use rfl hR.nest_ShakerhallModel53) (fun _ h9 => h9) rfl dX10_addMass_70 ?_
  have hPc := hP.sub (ws' := [(ml, .inr (4, [.int k0, .ref ed, .int 0]))]) [1] rfl
  have hDc := hD.sub (ws' := [(ml, .inr (4, [.int k0, .ref ed, .int 0]))]) [1] (by decide) rfl
  have hKc := hK.sub (tys' := []) [] rfl
  have hFc := va_free (wc := [(ml, .inr (4, [.int k0, .ref ed, .int 0]))]) hD hS hA [1] rfl
  refine va_calli (va_runV (As := []) (rest := [.ref h0]) ⟨hx, hb, hml, hown, hts⟩ (m_size l dC dI H.size ml (.int k0) (.ref ed) 0) (cwV 0 hts (pw_V q1252 q274 q275 q46 q276) rfl rfl rfl (by decide +kernel) ⟨(Nat.le_of_ble_eq_true rfl), (Nat.le_of_ble_eq_true rfl)⟩) ⟨fun a U g mk q => by obtain ⟨q0, q1, qP, qK, qD⟩ := q; exact ⟨q0, q1, qP, va_K.moved (u := U) (U := U.calling g mk a) (Vm.Alike.refl U.vm) qK, qD⟩, va_recv hKc hPc (ci := 4) (q0 := 0) rfl rfl, fun U hU hW => ⟨rfl, by rw [hU], by rw [hU]; exact hPc, va_K.moved hW.alike hKc, hDc.weaken (fun _ _ _ _ => trivial)⟩⟩ rfl rfl hl.1 rfl (lv_room (Nat.le_of_ble_eq_true rfl)) dX10_addMass_73 ⟨(Nat.le_of_ble_eq_true rfl), (Nat.le_of_ble_eq_true rfl)⟩) hS (fun q _ h => hFc q h) hFc (fun r_1776 u t H1 locs ht hvm hw hB hz1 hk1 hS => ?_)
  obtain ⟨hP1, hK1, hD1⟩ := hB
  rw [ht] at hP1
  have hK1 := va_K.moved hvm.symm hK1
  obtain ⟨hP, hD⟩ := va_join (wr := [(s2, .inr (14, [.ref ml, u1, u2, u3, u4, u5])), (h0, .inr (15, [.ref a, v1, v2, v3, v4, .int 0])), (a, .inr (4, [.int m0, .ref ea, .int 1])), (ea, .inl (ce, 10, .inr (.inr (.inr (.inr (va_up (fun _ => none) 0 (some s2)))))))]) (w1 := [(ml, .inr (4, [.int k0, .ref ed, .int 0]))]) hP hD [1] [0, 2, 3, 4] rfl rfl (by decide) (by decide) hk1 hFc hP1 hD1
  have hK := (hK.sub (tys' := [(ce, .object "java/lang/Object")]) [0] rfl).app hK1
  generalize H1 = H at hP hS ⊢
  have hP : va_P (dC, dI) vwCl [(s2, .inr (14, [.ref ml, u1, u2, u3, u4, u5])), (h0, .inr (15, [.ref a, v1, v2, v3, v4, .int 0])), (a, .inr (4, [.int m0, .ref ea, .int 1])), (ea, .inl (ce, 10, .inr (.inr (.inr (.inr (va_up (fun _ => none) 0 (some s2))))))), (ml, .inr (4, [.int k0, .ref ed, .int 0]))] H := hP
  have hD : va_D A [(s2, .inr (14, [.ref ml, u1, u2, u3, u4, u5])), (h0, .inr (15, [.ref a, v1, v2, v3, v4, .int 0])), (a, .inr (4, [.int m0, .ref ea, .int 1])), (ea, .inl (ce, 10, .inr (.inr (.inr (.inr (va_up (fun _ => none) 0 (some s2))))))), (ml, .inr (4, [.int k0, .ref ed, .int 0]))] := hD
  have hK : va_K (dC, dI) vwCl [(ce, .object "java/lang/Object")] s := hK
  refine W.widen (k := 0) (n := 0) (Nat.le_of_ble_eq_true rfl) (Nat.le_of_ble_eq_true rfl) ?_
  have hw : r_1776 = 0 := hw
  subst hw
  refine lv_iconst (v := 4) hx hb dX10_addMass_76 (by decide) ?_
  refine lv_icmp_ne (tgt := 84) hx hb dX10_addMass_77 (by decide) (fun c_1777 => ?_) (fun c_1777 => absurd c_1777 (by decide))
  refine lv_iconst (v := 0) hx hb dX10_addMass_84 (by decide) ?_
  refine lv_iconst (v := 3) hx hb dX10_addMass_85 (by decide) ?_
  have hPc := hP.sub (ws' := [(h0, .inr (15, [.ref a, v1, v2, v3, v4, .int 0]))]) [1] rfl
  have hDc := hD.sub (ws' := [(h0, .inr (15, [.ref a, v1, v2, v3, v4, .int 0]))]) [1] (by decide) rfl
  have hKc := hK.sub (tys' := []) [] rfl
  have hFc := va_free (wc := [(h0, .inr (15, [.ref a, v1, v2, v3, v4, .int 0]))]) hD hS hA [1] rfl
  refine va_calli (va_runV (As := [.int 0, .int 3]) (rest := []) ⟨hx, hb, hml, hown, hts⟩ (n_isThrown0 l dC dI H.size h0 (.ref a) v1 v2 v3 v4 0 3) (cwV 2 hts (pw_V q1253 q1255 q19 q49 q1256) rfl rfl rfl (by decide +kernel) ⟨(Nat.le_of_ble_eq_true rfl), (Nat.le_of_ble_eq_true rfl)⟩) ⟨fun a U g mk q => by obtain ⟨q0, q1, qP, qK, qD⟩ := q; exact ⟨q0, q1, qP, va_K.moved (u := U) (U := U.calling g mk a) (Vm.Alike.refl U.vm) qK, qD⟩, va_recv hKc hPc (ci := 15) (q0 := 0) rfl rfl, fun U hU hW => ⟨rfl, by rw [hU], by rw [hU]; exact hPc, va_K.moved hW.alike hKc, hDc.weaken (fun _ _ _ _ => trivial)⟩⟩ rfl rfl hl.1 rfl (lv_room (Nat.le_of_ble_eq_true rfl)) dX10_addMass_86 ⟨(Nat.le_of_ble_eq_true rfl), (Nat.le_of_ble_eq_true rfl)⟩) hS (fun q _ h => hFc q h) hFc (fun r_1778 u t H1 locs ht hvm hw hB hz1 hk1 hS => ?_)
  obtain ⟨hP1, hK1, hD1⟩ := hB
  rw [ht] at hP1
  have hK1 := va_K.moved hvm.symm hK1
  obtain ⟨hP, hD⟩ := va_join (wr := [(s2, .inr (14, [.ref ml, u1, u2, u3, u4, u5])), (a, .inr (4, [.int m0, .ref ea, .int 1])), (ea, .inl (ce, 10, .inr (.inr (.inr (.inr (va_up (fun _ => none) 0 (some s2))))))), (ml, .inr (4, [.int k0, .ref ed, .int 0]))]) (w1 := [(h0, .inr (15, [.ref a, v1, v2, v3, v4, .int 0]))]) hP hD [1] [0, 2, 3, 4] rfl rfl (by decide) (by decide) hk1 hFc hP1 hD1
  have hK := (hK.sub (tys' := [(ce, .object "java/lang/Object")]) [0] rfl).app hK1
  generalize H1 = H at hP hS ⊢
  have hP : va_P (dC, dI) vwCl [(s2, .inr (14, [.ref ml, u1, u2, u3, u4, u5])), (a, .inr (4, [.int m0, .ref ea, .int 1])), (ea, .inl (ce, 10, .inr (.inr (.inr (.inr (va_up (fun _ => none) 0 (some s2))))))), (ml, .inr (4, [.int k0, .ref ed, .int 0])), (h0, .inr (15, [.ref a, v1, v2, v3, v4, .int 0]))] H := hP
  have hD : va_D A [(s2, .inr (14, [.ref ml, u1, u2, u3, u4, u5])), (a, .inr (4, [.int m0, .ref ea, .int 1])), (ea, .inl (ce, 10, .inr (.inr (.inr (.inr (va_up (fun _ => none) 0 (some s2))))))), (ml, .inr (4, [.int k0, .ref ed, .int 0])), (h0, .inr (15, [.ref a, v1, v2, v3, v4, .int 0]))] := hD
  have hK : va_K (dC, dI) vwCl [(ce, .object "java/lang/Object")] s := hK
  refine W.widen (k := 0) (n := 0) (Nat.le_of_ble_eq_true rfl) (Nat.le_of_ble_eq_true rfl) ?_
  have hw : r_1778 = 0 := hw
  subst hw
  refine lv_if_eq (tgt := 94) hx hb dX10_addMass_89 (by decide) (fun c_1779 => ?_) (fun c_1779 => absurd (by decide) c_1779)
  refine lv_aload_n hx hb dX10_addMass_94 rfl (lv_at hl 0 rfl) ?_
  refine va_get (D := (dC, dI)) (ci := 15) (v := .ref a) (C := RX10) (T := TX10) (N := 6) hx hb hts inX10 hown hK hP 4 rfl rfl 0 (by decide) (hts _ q1225) (fun _ h9 => h9) rfl dX10_addMass_95 ?_
  refine lv_iload_n hx hb dX10_addMass_98 rfl (lv_at hl 1 rfl) ?_
  have hPc := hP.sub (ws' := [(a, .inr (4, [.int m0, .ref ea, .int 1])), (ea, .inl (ce, 10, .inr (.inr (.inr (.inr (va_up (fun _ => none) 0 (some s2)))))))]) [1, 2] rfl
  have hDc := hD.sub (ws' := [(a, .inr (4, [.int m0, .ref ea, .int 1])), (ea, .inl (ce, 10, .inr (.inr (.inr (.inr (va_up (fun _ => none) 0 (some s2)))))))]) [1, 2] (by decide) rfl
  have hKc := hK.sub (tys' := [(ce, .object "java/lang/Object")]) [0] rfl
  have hFc := va_free (wc := [(a, .inr (4, [.int m0, .ref ea, .int 1])), (ea, .inl (ce, 10, .inr (.inr (.inr (.inr (va_up (fun _ => none) 0 (some s2)))))))]) hD hS hA [1, 2] rfl
  refine va_callr (va_runV (As := [.int 0]) (rest := []) ⟨hx, hb, hml, hown, hts⟩ (r_get l dC dI H.size a ea s2 ce m0) (cwV 1 hts (pw_V q1302 q278 q279 q46 q280) rfl rfl rfl (by decide +kernel) ⟨(Nat.le_of_ble_eq_true rfl), (Nat.le_of_ble_eq_true rfl)⟩) ⟨fun a U g mk q => by obtain ⟨q0, q1, qP, qK, qD⟩ := q; exact ⟨q0, q1, qP, va_K.moved (u := U) (U := U.calling g mk a) (Vm.Alike.refl U.vm) qK, qD⟩, va_recv hKc hPc (ci := 4) (q0 := 0) rfl rfl, fun U hU hW => ⟨rfl, by rw [hU], by rw [hU]; exact hPc, va_K.moved hW.alike hKc, hDc.weaken (fun _ _ _ _ => trivial)⟩⟩ rfl rfl hl.1 rfl (lv_room (Nat.le_of_ble_eq_true rfl)) dX10_addMass_99 ⟨(Nat.le_of_ble_eq_true rfl), (Nat.le_of_ble_eq_true rfl)⟩) hS (fun q _ h => hFc q h) hFc (fun u r_1780 t H1 locs ht hvm hw hB hz1 hk1 hS => ?_)
  obtain ⟨hra, hP1, hK1, hD1⟩ := hB
  rw [ht] at hP1
  have hK1 := va_K.moved hvm.symm hK1
  obtain ⟨hP, hD⟩ := va_join (wr := [(s2, .inr (14, [.ref ml, u1, u2, u3, u4, u5])), (ml, .inr (4, [.int k0, .ref ed, .int 0])), (h0, .inr (15, [.ref a, v1, v2, v3, v4, .int 0]))]) (w1 := [(a, .inr (4, [.int m0, .ref ea, .int 1])), (ea, .inl (ce, 10, .inr (.inr (.inr (.inr (va_up (fun _ => none) 0 (some s2)))))))]) hP hD [1, 2] [0, 3, 4] rfl rfl (by decide) (by decide) hk1 hFc hP1 hD1
  have hK := (hK.sub (tys' := []) [] rfl).app hK1
  generalize H1 = H at hP hS ⊢
  have hP : va_P (dC, dI) vwCl [(s2, .inr (14, [.ref ml, u1, u2, u3, u4, u5])), (ml, .inr (4, [.int k0, .ref ed, .int 0])), (h0, .inr (15, [.ref a, v1, v2, v3, v4, .int 0])), (a, .inr (4, [.int m0, .ref ea, .int 1])), (ea, .inl (ce, 10, .inr (.inr (.inr (.inr (va_up (fun _ => none) 0 (some s2)))))))] H := hP
  have hD : va_D A [(s2, .inr (14, [.ref ml, u1, u2, u3, u4, u5])), (ml, .inr (4, [.int k0, .ref ed, .int 0])), (h0, .inr (15, [.ref a, v1, v2, v3, v4, .int 0])), (a, .inr (4, [.int m0, .ref ea, .int 1])), (ea, .inl (ce, 10, .inr (.inr (.inr (.inr (va_up (fun _ => none) 0 (some s2)))))))] := hD
  have hK : va_K (dC, dI) vwCl [(ce, .object "java/lang/Object")] s := hK
  refine W.widen (k := 0) (n := 0) (Nat.le_of_ble_eq_true rfl) (Nat.le_of_ble_eq_true rfl) ?_
  replace hra := hra.symm; subst hra
  refine va_castS (nm := "ShakerhallModel$Structure") hx hb hown (hts _ q1257) (hK.1 14 _ rfl).2 (va_recv hK hP (ci := 14) (q0 := 0) rfl rfl) dX10_addMass_102 ?_
  refine va_getN (D := (dC, dI)) (ci := 14) (v := .ref ml) (C := RX9) (T := TX9) (N := 6) hx hb hts inX9 hown hK hP 0 rfl rfl 0 (by decide) (va_Nw.use rfl hR.nest_ShakerhallModel53) (fun _ h9 => h9) rfl dX10_addMass_105 ?_
  refine lv_iconst (v := 4) hx hb dX10_addMass_108 (by decide) ?_
  refine va_newa (atype := .int) (N' := 4) (a0 := (4, .inl (fun _ => 0))) (ty := .int) (n := 4) hx hb (hts _ q143) rfl hK hP hD hS hA (fun _ => rfl) (by decide) (by decide) (Nat.le_of_ble_eq_true rfl) (Nat.le_of_ble_eq_true rfl) (Nat.le_of_ble_eq_true rfl) dX10_addMass_109 (fun q_1781 cA_1782 H hK hP hD hS => ?_)
  have hP : va_P (dC, dI) vwCl [(s2, .inr (14, [.ref ml, u1, u2, u3, u4, u5])), (ml, .inr (4, [.int k0, .ref ed, .int 0])), (h0, .inr (15, [.ref a, v1, v2, v3, v4, .int 0])), (a, .inr (4, [.int m0, .ref ea, .int 1])), (ea, .inl (ce, 10, .inr (.inr (.inr (.inr (va_up (fun _ => none) 0 (some s2))))))), (q_1781, .inl (cA_1782, 4, .inl (fun _ => 0)))] H := hP
  have hD : va_D A [(s2, .inr (14, [.ref ml, u1, u2, u3, u4, u5])), (ml, .inr (4, [.int k0, .ref ed, .int 0])), (h0, .inr (15, [.ref a, v1, v2, v3, v4, .int 0])), (a, .inr (4, [.int m0, .ref ea, .int 1])), (ea, .inl (ce, 10, .inr (.inr (.inr (.inr (va_up (fun _ => none) 0 (some s2))))))), (q_1781, .inl (cA_1782, 4, .inl (fun _ => 0)))] := hD
  have hK : va_K (dC, dI) vwCl [(ce, .object "java/lang/Object"), (cA_1782, .int)] s := hK
  refine W.widen (k := 1) (n := 4) (Nat.le_of_ble_eq_true rfl) (Nat.le_of_ble_eq_true rfl) ?_
  refine lv_dup hx hb dX10_addMass_111 rfl ?_
  refine lv_iconst (v := 0) hx hb dX10_addMass_112 (by decide) ?_
  refine lv_iload_n hx hb dX10_addMass_113 rfl (lv_at hl 2 rfl) ?_
  refine va_iast hx hb hK hP hD hS 5 1 rfl rfl (by unfold vp_in; decide) dX10_addMass_114 (fun H locs hP hD hS => ?_)
  rw [show (0 : Int32).toNatClampNeg = 0 from by decide] at hP hD
  have hP : va_P (dC, dI) vwCl [(s2, .inr (14, [.ref ml, u1, u2, u3, u4, u5])), (ml, .inr (4, [.int k0, .ref ed, .int 0])), (h0, .inr (15, [.ref a, v1, v2, v3, v4, .int 0])), (a, .inr (4, [.int m0, .ref ea, .int 1])), (ea, .inl (ce, 10, .inr (.inr (.inr (.inr (va_up (fun _ => none) 0 (some s2))))))), (q_1781, .inl (cA_1782, 4, .inl (upd (fun _ => 0) 0 1)))] H := hP
  have hD : va_D A [(s2, .inr (14, [.ref ml, u1, u2, u3, u4, u5])), (ml, .inr (4, [.int k0, .ref ed, .int 0])), (h0, .inr (15, [.ref a, v1, v2, v3, v4, .int 0])), (a, .inr (4, [.int m0, .ref ea, .int 1])), (ea, .inl (ce, 10, .inr (.inr (.inr (.inr (va_up (fun _ => none) 0 (some s2))))))), (q_1781, .inl (cA_1782, 4, .inl (upd (fun _ => 0) 0 1)))] := hD
  refine lv_dup hx hb dX10_addMass_115 rfl ?_
  refine lv_iconst (v := 1) hx hb dX10_addMass_116 (by decide) ?_
  refine lv_iload_n hx hb dX10_addMass_117 rfl (lv_at hl 3 rfl) ?_
  refine va_iast hx hb hK hP hD hS 5 1 rfl rfl (by unfold vp_in; decide) dX10_addMass_118 (fun H locs hP hD hS => ?_)
  rw [show (1 : Int32).toNatClampNeg = 1 from by decide] at hP hD
  have hP : va_P (dC, dI) vwCl [(s2, .inr (14, [.ref ml, u1, u2, u3, u4, u5])), (ml, .inr (4, [.int k0, .ref ed, .int 0])), (h0, .inr (15, [.ref a, v1, v2, v3, v4, .int 0])), (a, .inr (4, [.int m0, .ref ea, .int 1])), (ea, .inl (ce, 10, .inr (.inr (.inr (.inr (va_up (fun _ => none) 0 (some s2))))))), (q_1781, .inl (cA_1782, 4, .inl (upd (upd (fun _ => 0) 0 1) 1 1)))] H := hP
  have hD : va_D A [(s2, .inr (14, [.ref ml, u1, u2, u3, u4, u5])), (ml, .inr (4, [.int k0, .ref ed, .int 0])), (h0, .inr (15, [.ref a, v1, v2, v3, v4, .int 0])), (a, .inr (4, [.int m0, .ref ea, .int 1])), (ea, .inl (ce, 10, .inr (.inr (.inr (.inr (va_up (fun _ => none) 0 (some s2))))))), (q_1781, .inl (cA_1782, 4, .inl (upd (upd (fun _ => 0) 0 1) 1 1)))] := hD
  refine lv_dup hx hb dX10_addMass_119 rfl ?_
  refine lv_iconst (v := 2) hx hb dX10_addMass_120 (by decide) ?_
  refine lv_iload hx hb dX10_addMass_121 (lv_at hl 4 rfl) ?_
  refine va_iast hx hb hK hP hD hS 5 1 rfl rfl (by unfold vp_in; decide) dX10_addMass_123 (fun H locs hP hD hS => ?_)
  rw [show (2 : Int32).toNatClampNeg = 2 from by decide] at hP hD
  have hP : va_P (dC, dI) vwCl [(s2, .inr (14, [.ref ml, u1, u2, u3, u4, u5])), (ml, .inr (4, [.int k0, .ref ed, .int 0])), (h0, .inr (15, [.ref a, v1, v2, v3, v4, .int 0])), (a, .inr (4, [.int m0, .ref ea, .int 1])), (ea, .inl (ce, 10, .inr (.inr (.inr (.inr (va_up (fun _ => none) 0 (some s2))))))), (q_1781, .inl (cA_1782, 4, .inl (upd (upd (upd (fun _ => 0) 0 1) 1 1) 2 0)))] H := hP
  have hD : va_D A [(s2, .inr (14, [.ref ml, u1, u2, u3, u4, u5])), (ml, .inr (4, [.int k0, .ref ed, .int 0])), (h0, .inr (15, [.ref a, v1, v2, v3, v4, .int 0])), (a, .inr (4, [.int m0, .ref ea, .int 1])), (ea, .inl (ce, 10, .inr (.inr (.inr (.inr (va_up (fun _ => none) 0 (some s2))))))), (q_1781, .inl (cA_1782, 4, .inl (upd (upd (upd (fun _ => 0) 0 1) 1 1) 2 0)))] := hD
  refine lv_dup hx hb dX10_addMass_124 rfl ?_
  refine lv_iconst (v := 3) hx hb dX10_addMass_125 (by decide) ?_
  refine lv_iconst (v := 0) hx hb dX10_addMass_126 (by decide) ?_
  refine va_iast hx hb hK hP hD hS 5 1 rfl rfl (by unfold vp_in; decide) dX10_addMass_127 (fun H locs hP hD hS => ?_)
  rw [show (3 : Int32).toNatClampNeg = 3 from by decide] at hP hD
  have hP : va_P (dC, dI) vwCl [(s2, .inr (14, [.ref ml, u1, u2, u3, u4, u5])), (ml, .inr (4, [.int k0, .ref ed, .int 0])), (h0, .inr (15, [.ref a, v1, v2, v3, v4, .int 0])), (a, .inr (4, [.int m0, .ref ea, .int 1])), (ea, .inl (ce, 10, .inr (.inr (.inr (.inr (va_up (fun _ => none) 0 (some s2))))))), (q_1781, .inl (cA_1782, 4, .inl (upd (upd (upd (upd (fun _ => 0) 0 1) 1 1) 2 0) 3 0)))] H := hP
  have hD : va_D A [(s2, .inr (14, [.ref ml, u1, u2, u3, u4, u5])), (ml, .inr (4, [.int k0, .ref ed, .int 0])), (h0, .inr (15, [.ref a, v1, v2, v3, v4, .int 0])), (a, .inr (4, [.int m0, .ref ea, .int 1])), (ea, .inl (ce, 10, .inr (.inr (.inr (.inr (va_up (fun _ => none) 0 (some s2))))))), (q_1781, .inl (cA_1782, 4, .inl (upd (upd (upd (upd (fun _ => 0) 0 1) 1 1) 2 0) 3 0)))] := hD
  have hPc := hP.sub (ws' := [(ml, .inr (4, [.int k0, .ref ed, .int 0]))]) [1] rfl
  have hDc := hD.sub (ws' := [(ml, .inr (4, [.int k0, .ref ed, .int 0]))]) [1] (by decide) rfl
  have hKc := hK.sub (tys' := []) [] rfl
  have hFc := va_free (wc := [(ml, .inr (4, [.int k0, .ref ed, .int 0]))]) hD hS hA [1] rfl
  have hEk : pe q_1781 (va_A [(ml, .inr (4, [.int k0, .ref ed, .int 0]))] H.size) s H := ⟨pe_arr1 hK hP (i := 5) (t := 1) rfl rfl hR.cast_I, pe_ne hP hD (i := 5) rfl [1] (wc := [(ml, .inr (4, [.int k0, .ref ed, .int 0]))]) rfl (by decide)⟩
  refine va_calli (va_runV (As := [.ref q_1781]) (rest := []) ⟨hx, hb, hml, hown, hts⟩ (r_add l dC dI H.size ed ml q_1781 k0) (cwV 1 hts (pw_V q1290 q432 q433 q46 q434) rfl rfl rfl (by decide +kernel) ⟨(Nat.le_of_ble_eq_true rfl), (Nat.le_of_ble_eq_true rfl)⟩) ⟨fun a U g mk q => by obtain ⟨q0, q1, qP, qK, qD, qZ, qE⟩ := q; exact ⟨q0, q1, qP, va_K.moved (u := U) (U := U.calling g mk a) (Vm.Alike.refl U.vm) qK, qD, qZ.same rfl, qE.same rfl⟩, va_recv hKc hPc (ci := 4) (q0 := 0) rfl rfl, fun U hU hW => ⟨rfl, by rw [hU], by rw [hU]; exact hPc, va_K.moved hW.alike hKc, hDc.weaken (fun _ _ _ _ => trivial), hZ.call hS hFc hU hW, (hEk.warm hW).heap hU⟩⟩ rfl rfl hl.1 rfl (lv_room (Nat.le_of_ble_eq_true rfl)) dX10_addMass_128 ⟨(Nat.le_of_ble_eq_true rfl), (Nat.le_of_ble_eq_true rfl)⟩) hS (fun q _ h => hFc q h) hFc (fun r_1783 u t H1 locs ht hvm hw hB hz1 hk1 hS => ?_)
  obtain ⟨qa_1784, ce_1785, m1_1786, hP1, hK1, hD1⟩ := hB
  rw [ht] at hP1
  have hK1 := va_K.moved hvm.symm hK1
  obtain ⟨hP, hD⟩ := va_join (wr := [(s2, .inr (14, [.ref ml, u1, u2, u3, u4, u5])), (h0, .inr (15, [.ref a, v1, v2, v3, v4, .int 0])), (a, .inr (4, [.int m0, .ref ea, .int 1])), (ea, .inl (ce, 10, .inr (.inr (.inr (.inr (va_up (fun _ => none) 0 (some s2))))))), (q_1781, .inl (cA_1782, 4, .inl (upd (upd (upd (upd (fun _ => 0) 0 1) 1 1) 2 0) 3 0)))]) (w1 := [(ml, .inr (4, [.int m1_1786, .ref qa_1784, .int 1])), (qa_1784, .inl (ce_1785, 10, .inr (.inr (.inr (.inr (va_up (fun _ => none) 0 (some q_1781)))))))]) hP hD [1] [0, 2, 3, 4, 5] rfl rfl (by decide) (by decide) hk1 hFc hP1 hD1
  have hK := (hK.sub (tys' := [(ce, .object "java/lang/Object"), (cA_1782, .int)]) [0, 1] rfl).app hK1
  generalize H1 = H at hP hS ⊢
  have hP : va_P (dC, dI) vwCl [(s2, .inr (14, [.ref ml, u1, u2, u3, u4, u5])), (h0, .inr (15, [.ref a, v1, v2, v3, v4, .int 0])), (a, .inr (4, [.int m0, .ref ea, .int 1])), (ea, .inl (ce, 10, .inr (.inr (.inr (.inr (va_up (fun _ => none) 0 (some s2))))))), (q_1781, .inl (cA_1782, 4, .inl (upd (upd (upd (upd (fun _ => 0) 0 1) 1 1) 2 0) 3 0))), (ml, .inr (4, [.int m1_1786, .ref qa_1784, .int 1])), (qa_1784, .inl (ce_1785, 10, .inr (.inr (.inr (.inr (va_up (fun _ => none) 0 (some q_1781)))))))] H := hP
  have hD : va_D A [(s2, .inr (14, [.ref ml, u1, u2, u3, u4, u5])), (h0, .inr (15, [.ref a, v1, v2, v3, v4, .int 0])), (a, .inr (4, [.int m0, .ref ea, .int 1])), (ea, .inl (ce, 10, .inr (.inr (.inr (.inr (va_up (fun _ => none) 0 (some s2))))))), (q_1781, .inl (cA_1782, 4, .inl (upd (upd (upd (upd (fun _ => 0) 0 1) 1 1) 2 0) 3 0))), (ml, .inr (4, [.int m1_1786, .ref qa_1784, .int 1])), (qa_1784, .inl (ce_1785, 10, .inr (.inr (.inr (.inr (va_up (fun _ => none) 0 (some q_1781)))))))] := hD
  have hK : va_K (dC, dI) vwCl [(ce, .object "java/lang/Object"), (cA_1782, .int), (ce_1785, .object "java/lang/Object")] s := hK
  refine W.widen (k := 2) (n := 14) (Nat.le_of_ble_eq_true rfl) (Nat.le_of_ble_eq_true rfl) ?_
  have hw : r_1783 = 1 := hw
  subst hw
  refine lv_pop hx hb dX10_addMass_131 rfl ?_
  refine lv_aload_n hx hb dX10_addMass_132 rfl (lv_at hl 0 rfl) ?_
  refine va_get (D := (dC, dI)) (ci := 15) (v := .ref a) (C := RX10) (T := TX10) (N := 6) hx hb hts inX10 hown hK hP 1 rfl rfl 0 (by decide) (hts _ q1225) (fun _ h9 => h9) rfl dX10_addMass_133 ?_
  refine lv_iload_n hx hb dX10_addMass_136 rfl (lv_at hl 1 rfl) ?_
  have hPc := hP.sub (ws' := [(a, .inr (4, [.int m0, .ref ea, .int 1])), (ea, .inl (ce, 10, .inr (.inr (.inr (.inr (va_up (fun _ => none) 0 (some s2)))))))]) [2, 3] rfl
  have hDc := hD.sub (ws' := [(a, .inr (4, [.int m0, .ref ea, .int 1])), (ea, .inl (ce, 10, .inr (.inr (.inr (.inr (va_up (fun _ => none) 0 (some s2)))))))]) [2, 3] (by decide) rfl
  have hKc := hK.sub (tys' := [(ce, .object "java/lang/Object")]) [0] rfl
  have hFc := va_free (wc := [(a, .inr (4, [.int m0, .ref ea, .int 1])), (ea, .inl (ce, 10, .inr (.inr (.inr (.inr (va_up (fun _ => none) 0 (some s2)))))))]) hD hS hA [2, 3] rfl
  refine va_callr (va_runV (As := [.int 0]) (rest := []) ⟨hx, hb, hml, hown, hts⟩ (r_get l dC dI H.size a ea s2 ce m0) (cwV 1 hts (pw_V q1302 q278 q279 q46 q280) rfl rfl rfl (by decide +kernel) ⟨(Nat.le_of_ble_eq_true rfl), (Nat.le_of_ble_eq_true rfl)⟩) ⟨fun a U g mk q => by obtain ⟨q0, q1, qP, qK, qD⟩ := q; exact ⟨q0, q1, qP, va_K.moved (u := U) (U := U.calling g mk a) (Vm.Alike.refl U.vm) qK, qD⟩, va_recv hKc hPc (ci := 4) (q0 := 0) rfl rfl, fun U hU hW => ⟨rfl, by rw [hU], by rw [hU]; exact hPc, va_K.moved hW.alike hKc, hDc.weaken (fun _ _ _ _ => trivial)⟩⟩ rfl rfl hl.1 rfl (lv_room (Nat.le_of_ble_eq_true rfl)) dX10_addMass_137 ⟨(Nat.le_of_ble_eq_true rfl), (Nat.le_of_ble_eq_true rfl)⟩) hS (fun q _ h => hFc q h) hFc (fun u r_1787 t H1 locs ht hvm hw hB hz1 hk1 hS => ?_)
  obtain ⟨hra, hP1, hK1, hD1⟩ := hB
  rw [ht] at hP1
  have hK1 := va_K.moved hvm.symm hK1
  obtain ⟨hP, hD⟩ := va_join (wr := [(s2, .inr (14, [.ref ml, u1, u2, u3, u4, u5])), (h0, .inr (15, [.ref a, v1, v2, v3, v4, .int 0])), (q_1781, .inl (cA_1782, 4, .inl (upd (upd (upd (upd (fun _ => 0) 0 1) 1 1) 2 0) 3 0))), (ml, .inr (4, [.int m1_1786, .ref qa_1784, .int 1])), (qa_1784, .inl (ce_1785, 10, .inr (.inr (.inr (.inr (va_up (fun _ => none) 0 (some q_1781)))))))]) (w1 := [(a, .inr (4, [.int m0, .ref ea, .int 1])), (ea, .inl (ce, 10, .inr (.inr (.inr (.inr (va_up (fun _ => none) 0 (some s2)))))))]) hP hD [2, 3] [0, 1, 4, 5, 6] rfl rfl (by decide) (by decide) hk1 hFc hP1 hD1
  have hK := (hK.sub (tys' := [(cA_1782, .int), (ce_1785, .object "java/lang/Object")]) [1, 2] rfl).app hK1
  generalize H1 = H at hP hS ⊢
  have hP : va_P (dC, dI) vwCl [(s2, .inr (14, [.ref ml, u1, u2, u3, u4, u5])), (h0, .inr (15, [.ref a, v1, v2, v3, v4, .int 0])), (q_1781, .inl (cA_1782, 4, .inl (upd (upd (upd (upd (fun _ => 0) 0 1) 1 1) 2 0) 3 0))), (ml, .inr (4, [.int m1_1786, .ref qa_1784, .int 1])), (qa_1784, .inl (ce_1785, 10, .inr (.inr (.inr (.inr (va_up (fun _ => none) 0 (some q_1781))))))), (a, .inr (4, [.int m0, .ref ea, .int 1])), (ea, .inl (ce, 10, .inr (.inr (.inr (.inr (va_up (fun _ => none) 0 (some s2)))))))] H := hP
  have hD : va_D A [(s2, .inr (14, [.ref ml, u1, u2, u3, u4, u5])), (h0, .inr (15, [.ref a, v1, v2, v3, v4, .int 0])), (q_1781, .inl (cA_1782, 4, .inl (upd (upd (upd (upd (fun _ => 0) 0 1) 1 1) 2 0) 3 0))), (ml, .inr (4, [.int m1_1786, .ref qa_1784, .int 1])), (qa_1784, .inl (ce_1785, 10, .inr (.inr (.inr (.inr (va_up (fun _ => none) 0 (some q_1781))))))), (a, .inr (4, [.int m0, .ref ea, .int 1])), (ea, .inl (ce, 10, .inr (.inr (.inr (.inr (va_up (fun _ => none) 0 (some s2)))))))] := hD
  have hK : va_K (dC, dI) vwCl [(cA_1782, .int), (ce_1785, .object "java/lang/Object"), (ce, .object "java/lang/Object")] s := hK
  refine W.widen (k := 2) (n := 14) (Nat.le_of_ble_eq_true rfl) (Nat.le_of_ble_eq_true rfl) ?_
  replace hra := hra.symm; subst hra
  refine va_castS (nm := "ShakerhallModel$Structure") hx hb hown (hts _ q1257) (hK.1 14 _ rfl).2 (va_recv hK hP (ci := 14) (q0 := 0) rfl rfl) dX10_addMass_140 ?_
  refine va_getN (D := (dC, dI)) (ci := 14) (v := .ref ml) (C := RX9) (T := TX9) (N := 6) hx hb hts inX9 hown hK hP 0 rfl rfl 0 (by decide) (va_Nw.use rfl hR.nest_ShakerhallModel53) (fun _ h9 => h9) rfl dX10_addMass_143 ?_
  have hPc := hP.sub (ws' := [(ml, .inr (4, [.int m1_1786, .ref qa_1784, .int 1]))]) [3] rfl
  have hDc := hD.sub (ws' := [(ml, .inr (4, [.int m1_1786, .ref qa_1784, .int 1]))]) [3] (by decide) rfl
  have hKc := hK.sub (tys' := []) [] rfl
  have hFc := va_free (wc := [(ml, .inr (4, [.int m1_1786, .ref qa_1784, .int 1]))]) hD hS hA [3] rfl
  refine va_calli (va_runV (As := []) (rest := []) ⟨hx, hb, hml, hown, hts⟩ (m_size l dC dI H.size ml (.int m1_1786) (.ref qa_1784) 1) (cwV 0 hts (pw_V q1252 q274 q275 q46 q276) rfl rfl rfl (by decide +kernel) ⟨(Nat.le_of_ble_eq_true rfl), (Nat.le_of_ble_eq_true rfl)⟩) ⟨fun a U g mk q => by obtain ⟨q0, q1, qP, qK, qD⟩ := q; exact ⟨q0, q1, qP, va_K.moved (u := U) (U := U.calling g mk a) (Vm.Alike.refl U.vm) qK, qD⟩, va_recv hKc hPc (ci := 4) (q0 := 0) rfl rfl, fun U hU hW => ⟨rfl, by rw [hU], by rw [hU]; exact hPc, va_K.moved hW.alike hKc, hDc.weaken (fun _ _ _ _ => trivial)⟩⟩ rfl rfl hl.1 rfl (lv_room (Nat.le_of_ble_eq_true rfl)) dX10_addMass_146 ⟨(Nat.le_of_ble_eq_true rfl), (Nat.le_of_ble_eq_true rfl)⟩) hS (fun q _ h => hFc q h) hFc (fun r_1788 u t H1 locs ht hvm hw hB hz1 hk1 hS => ?_)
  obtain ⟨hP1, hK1, hD1⟩ := hB
  rw [ht] at hP1
  have hK1 := va_K.moved hvm.symm hK1
  obtain ⟨hP, hD⟩ := va_join (wr := [(s2, .inr (14, [.ref ml, u1, u2, u3, u4, u5])), (h0, .inr (15, [.ref a, v1, v2, v3, v4, .int 0])), (q_1781, .inl (cA_1782, 4, .inl (upd (upd (upd (upd (fun _ => 0) 0 1) 1 1) 2 0) 3 0))), (qa_1784, .inl (ce_1785, 10, .inr (.inr (.inr (.inr (va_up (fun _ => none) 0 (some q_1781))))))), (a, .inr (4, [.int m0, .ref ea, .int 1])), (ea, .inl (ce, 10, .inr (.inr (.inr (.inr (va_up (fun _ => none) 0 (some s2)))))))]) (w1 := [(ml, .inr (4, [.int m1_1786, .ref qa_1784, .int 1]))]) hP hD [3] [0, 1, 2, 4, 5, 6] rfl rfl (by decide) (by decide) hk1 hFc hP1 hD1
  have hK := (hK.sub (tys' := [(cA_1782, .int), (ce_1785, .object "java/lang/Object"), (ce, .object "java/lang/Object")]) [0, 1, 2] rfl).app hK1
  generalize H1 = H at hP hS ⊢
  have hP : va_P (dC, dI) vwCl [(s2, .inr (14, [.ref ml, u1, u2, u3, u4, u5])), (h0, .inr (15, [.ref a, v1, v2, v3, v4, .int 0])), (q_1781, .inl (cA_1782, 4, .inl (upd (upd (upd (upd (fun _ => 0) 0 1) 1 1) 2 0) 3 0))), (qa_1784, .inl (ce_1785, 10, .inr (.inr (.inr (.inr (va_up (fun _ => none) 0 (some q_1781))))))), (a, .inr (4, [.int m0, .ref ea, .int 1])), (ea, .inl (ce, 10, .inr (.inr (.inr (.inr (va_up (fun _ => none) 0 (some s2))))))), (ml, .inr (4, [.int m1_1786, .ref qa_1784, .int 1]))] H := hP
  have hD : va_D A [(s2, .inr (14, [.ref ml, u1, u2, u3, u4, u5])), (h0, .inr (15, [.ref a, v1, v2, v3, v4, .int 0])), (q_1781, .inl (cA_1782, 4, .inl (upd (upd (upd (upd (fun _ => 0) 0 1) 1 1) 2 0) 3 0))), (qa_1784, .inl (ce_1785, 10, .inr (.inr (.inr (.inr (va_up (fun _ => none) 0 (some q_1781))))))), (a, .inr (4, [.int m0, .ref ea, .int 1])), (ea, .inl (ce, 10, .inr (.inr (.inr (.inr (va_up (fun _ => none) 0 (some s2))))))), (ml, .inr (4, [.int m1_1786, .ref qa_1784, .int 1]))] := hD
  have hK : va_K (dC, dI) vwCl [(cA_1782, .int), (ce_1785, .object "java/lang/Object"), (ce, .object "java/lang/Object")] s := hK
  refine W.widen (k := 2) (n := 14) (Nat.le_of_ble_eq_true rfl) (Nat.le_of_ble_eq_true rfl) ?_
  have hw : r_1788 = 1 := hw
  subst hw
  have hP9 := hP.sub (ws' := [(h0, .inr (15, [.ref a, v1, v2, v3, v4, .int 0])), (a, .inr (4, [.int m0, .ref ea, .int 1])), (ea, .inl (ce, 10, .inr (.inr (.inr (.inr (va_up (fun _ => none) 0 (some s2))))))), (s2, .inr (14, [.ref ml, u1, u2, u3, u4, u5])), (ml, .inr (4, [.int m1_1786, .ref qa_1784, .int 1])), (qa_1784, .inl (ce_1785, 10, .inr (.inr (.inr (.inr (va_up (fun _ => none) 0 (some q_1781))))))), (q_1781, .inl (cA_1782, 4, .inl (upd (upd (upd (upd (fun _ => 0) 0 1) 1 1) 2 0) 3 0)))]) [1, 4, 5, 0, 6, 3, 2] rfl
  have hD9 := hD.sub (ws' := [(h0, .inr (15, [.ref a, v1, v2, v3, v4, .int 0])), (a, .inr (4, [.int m0, .ref ea, .int 1])), (ea, .inl (ce, 10, .inr (.inr (.inr (.inr (va_up (fun _ => none) 0 (some s2))))))), (s2, .inr (14, [.ref ml, u1, u2, u3, u4, u5])), (ml, .inr (4, [.int m1_1786, .ref qa_1784, .int 1])), (qa_1784, .inl (ce_1785, 10, .inr (.inr (.inr (.inr (va_up (fun _ => none) 0 (some q_1781))))))), (q_1781, .inl (cA_1782, 4, .inl (upd (upd (upd (upd (fun _ => 0) 0 1) 1 1) 2 0) 3 0)))]) [1, 4, 5, 0, 6, 3, 2] (by decide) rfl
  have hK9 := hK.sub (tys' := [(ce, .object "java/lang/Object"), (ce_1785, .object "java/lang/Object"), (cA_1782, .int)]) [2, 1, 0] rfl
  refine W.widen (k := 2) (n := 14) (Nat.le_of_ble_eq_true rfl) (Nat.le_of_ble_eq_true rfl) ?_
  exact W.iret (v := 1) hx hb hr (fun t ht hW => ⟨⟨1, (), rfl, rfl, ⟨qa_1784, q_1781, ce_1785, cA_1782, m1_1786, by rw [ht]; exact hP9, va_K.moved hW.alike hK9, hD9⟩⟩, hS.F ht⟩) hS.2.2 dX10_addMass_149
set_option maxHeartbeats 4000000 in
set_option maxRecDepth 100000 in
theorem q_isBare (l : Launch) (dC : Nat → ClassId) (dI : Nat → Nat → Nat) (sz : Nat) (h0 : Nat) (a : Nat) (ea : Nat) (s2 : Nat) (ml : Nat) (ce : ClassId) (m0 : Int32) (u1 : Value) (u2 : Value) (u3 : Value) (u4 : Value) (u5 : Value) (v1 : Value) (v2 : Value) (v3 : Value) (v4 : Value) (v5 : Value) (eml : Nat) (k0 : Int32) : Met l yX10_isBare (pw_ws yX10_isBare cX10_isBare 2 (some .boolean)) ({ frames := 4, cells := 0, slots := 0, locals := 84 } : Room) (va_Pc [.ref h0, .int 0] (fun U => U.heap.size = sz ∧ va_P (dC, dI) vwCl [(h0, .inr (15, [.ref a, v1, v2, v3, v4, v5])), (a, .inr (4, [.int m0, .ref ea, .int 1])), (ea, .inl (ce, 10, .inr (.inr (.inr (.inr (va_up (fun _ => none) 0 (some s2))))))), (s2, .inr (14, [.ref ml, u1, u2, u3, u4, u5])), (ml, .inr (4, [.int k0, .ref eml, .int 1]))] U.heap ∧ va_K (dC, dI) vwCl [(ce, .object "java/lang/Object")] U ∧ va_D (fun _ => True) [(h0, .inr (15, [.ref a, v1, v2, v3, v4, v5])), (a, .inr (4, [.int m0, .ref ea, .int 1])), (ea, .inl (ce, 10, .inr (.inr (.inr (.inr (va_up (fun _ => none) 0 (some s2))))))), (s2, .inr (14, [.ref ml, u1, u2, u3, u4, u5])), (ml, .inr (4, [.int k0, .ref eml, .int 1]))] ∧ pr U)) (va_Qi (fun (r : Int32) (_ : Unit) => r = 0) (fun (_ : Unit) (t : State) => va_P (dC, dI) vwCl [(h0, .inr (15, [.ref a, v1, v2, v3, v4, v5])), (a, .inr (4, [.int m0, .ref ea, .int 1])), (ea, .inl (ce, 10, .inr (.inr (.inr (.inr (va_up (fun _ => none) 0 (some s2))))))), (s2, .inr (14, [.ref ml, u1, u2, u3, u4, u5])), (ml, .inr (4, [.int k0, .ref eml, .int 1]))] t.heap ∧ va_K (dC, dI) vwCl [(ce, .object "java/lang/Object")] t ∧ va_D (va_A [(h0, .inr (15, [.ref a, v1, v2, v3, v4, v5])), (a, .inr (4, [.int m0, .ref ea, .int 1])), (ea, .inl (ce, 10, .inr (.inr (.inr (.inr (va_up (fun _ => none) 0 (some s2))))))), (s2, .inr (14, [.ref ml, u1, u2, u3, u4, u5])), (ml, .inr (4, [.int k0, .ref eml, .int 1]))] sz) [(h0, .inr (15, [.ref a, v1, v2, v3, v4, v5])), (a, .inr (4, [.int m0, .ref ea, .int 1])), (ea, .inl (ce, 10, .inr (.inr (.inr (.inr (va_up (fun _ => none) 0 (some s2))))))), (s2, .inr (14, [.ref ml, u1, u2, u3, u4, u5])), (ml, .inr (4, [.int k0, .ref eml, .int 1]))]) (va_A [(h0, .inr (15, [.ref a, v1, v2, v3, v4, v5])), (a, .inr (4, [.int m0, .ref ea, .int 1])), (ea, .inl (ce, 10, .inr (.inr (.inr (.inr (va_up (fun _ => none) 0 (some s2))))))), (s2, .inr (14, [.ref ml, u1, u2, u3, u4, u5])), (ml, .inr (4, [.int k0, .ref eml, .int 1]))] sz)) 0 0 (va_A [(h0, .inr (15, [.ref a, v1, v2, v3, v4, v5])), (a, .inr (4, [.int m0, .ref ea, .int 1])), (ea, .inl (ce, 10, .inr (.inr (.inr (.inr (va_up (fun _ => none) 0 (some s2))))))), (s2, .inr (14, [.ref ml, u1, u2, u3, u4, u5])), (ml, .inr (4, [.int k0, .ref eml, .int 1]))] sz) := by
  refine Met.ofW (cc := cX10_isBare) (maxL := 2) (ret := (some .boolean)) (by decide) rfl ?_
  intro p e s m args below meth c s₁ B hml hv
  obtain ⟨rfl, hsz, hP, hK, hD0, hR⟩ := hv
  have hx := B.exec
  have hb := B.bytes
  have hr := B.returns
  have hts0 := atoms_spec (ws := (pw_ws yX10_isBare cX10_isBare 2 (some .boolean))) B.pre
  have hts : ∀ w ∈ pw_all, w.before _ s = true := fun w h => hts0 w (List.mem_cons_of_mem _ h)
  have hown : s.vm.findClass RX10 = some m.cls := findClass_of_methodNamed B.named
  have hlocks := B.notSynchronized
  subst hsz
  have hD := hD0.self (sz := s.heap.size)
  generalize hAe : va_A [(h0, .inr (15, [.ref a, v1, v2, v3, v4, v5])), (a, .inr (4, [.int m0, .ref ea, .int 1])), (ea, .inl (ce, 10, .inr (.inr (.inr (.inr (va_up (fun _ => none) 0 (some s2))))))), (s2, .inr (14, [.ref ml, u1, u2, u3, u4, u5])), (ml, .inr (4, [.int k0, .ref eml, .int 1]))] s.heap.size = A at hD ⊢
  have hA : ∀ q : Nat, s.heap.size ≤ q → A q := fun q h => by rw [← hAe]; exact Or.inr h
  have hS : va_S A s.heap s.heap [] := va_S.rf
  have hP : va_P (dC, dI) vwCl [(h0, .inr (15, [.ref a, v1, v2, v3, v4, v5])), (a, .inr (4, [.int m0, .ref ea, .int 1])), (ea, .inl (ce, 10, .inr (.inr (.inr (.inr (va_up (fun _ => none) 0 (some s2))))))), (s2, .inr (14, [.ref ml, u1, u2, u3, u4, u5])), (ml, .inr (4, [.int k0, .ref eml, .int 1]))] s.heap := hP
  have hl := lv_entry ([.ref h0, .int 0]) (n := 2) (Nat.le_of_ble_eq_true rfl)
  rw [lg_entry_eq]
  generalize (lg_sl ([.ref h0, .int 0]) ++ List.replicate (2 - (lg_sl ([.ref h0, .int 0])).length) Slot.unset).toArray = ls at hl ⊢
  have hl : lv_has ls 2 [(0, .ref h0), (1, .int 0)] := hl
  skip
  refine lv_aload_n hx hb dX10_isBare_0 rfl (lv_at hl 0 rfl) ?_
  refine va_get (D := (dC, dI)) (ci := 15) (v := .ref a) (C := RX10) (T := TX10) (N := 6) hx hb hts inX10 hown hK hP 0 rfl rfl 0 (by decide) (hts _ q1225) (fun _ h9 => h9) rfl dX10_isBare_1 ?_
  refine lv_iload_n hx hb dX10_isBare_4 rfl (lv_at hl 1 rfl) ?_
  have hPc := hP.sub (ws' := [(a, .inr (4, [.int m0, .ref ea, .int 1])), (ea, .inl (ce, 10, .inr (.inr (.inr (.inr (va_up (fun _ => none) 0 (some s2)))))))]) [1, 2] rfl
  have hDc := hD.sub (ws' := [(a, .inr (4, [.int m0, .ref ea, .int 1])), (ea, .inl (ce, 10, .inr (.inr (.inr (.inr (va_up (fun _ => none) 0 (some s2)))))))]) [1, 2] (by decide) rfl
  have hKc := hK.sub (tys' := [(ce, .object "java/lang/Object")]) [0] rfl
  have hFc := va_free (wc := [(a, .inr (4, [.int m0, .ref ea, .int 1])), (ea, .inl (ce, 10, .inr (.inr (.inr (.inr (va_up (fun _ => none) 0 (some s2)))))))]) hD hS hA [1, 2] rfl
  refine va_callr (va_runV (As := [.int 0]) (rest := []) ⟨hx, hb, hml, hown, hts⟩ (r_get l dC dI s.heap.size a ea s2 ce m0) (cwV 1 hts (pw_V q1302 q278 q279 q46 q280) rfl rfl rfl (by decide +kernel) ⟨(Nat.le_of_ble_eq_true rfl), (Nat.le_of_ble_eq_true rfl)⟩) ⟨fun a U g mk q => by obtain ⟨q0, q1, qP, qK, qD⟩ := q; exact ⟨q0, q1, qP, va_K.moved (u := U) (U := U.calling g mk a) (Vm.Alike.refl U.vm) qK, qD⟩, va_recv hKc hPc (ci := 4) (q0 := 0) rfl rfl, fun U hU hW => ⟨rfl, by rw [hU], by rw [hU]; exact hPc, va_K.moved hW.alike hKc, hDc.weaken (fun _ _ _ _ => trivial)⟩⟩ rfl rfl hl.1 rfl (lv_room (Nat.le_of_ble_eq_true rfl)) dX10_isBare_5 ⟨(Nat.le_of_ble_eq_true rfl), (Nat.le_of_ble_eq_true rfl)⟩) hS (fun q _ h => hFc q h) hFc (fun u r_1789 t H1 locs ht hvm hw hB hz1 hk1 hS => ?_)
  obtain ⟨hra, hP1, hK1, hD1⟩ := hB
  rw [ht] at hP1
  have hK1 := va_K.moved hvm.symm hK1
  obtain ⟨hP, hD⟩ := va_join (wr := [(h0, .inr (15, [.ref a, v1, v2, v3, v4, v5])), (s2, .inr (14, [.ref ml, u1, u2, u3, u4, u5])), (ml, .inr (4, [.int k0, .ref eml, .int 1]))]) (w1 := [(a, .inr (4, [.int m0, .ref ea, .int 1])), (ea, .inl (ce, 10, .inr (.inr (.inr (.inr (va_up (fun _ => none) 0 (some s2)))))))]) hP hD [1, 2] [0, 3, 4] rfl rfl (by decide) (by decide) hk1 hFc hP1 hD1
  have hK := (hK.sub (tys' := []) [] rfl).app hK1
  generalize H1 = H at hP hS ⊢
  have hP : va_P (dC, dI) vwCl [(h0, .inr (15, [.ref a, v1, v2, v3, v4, v5])), (s2, .inr (14, [.ref ml, u1, u2, u3, u4, u5])), (ml, .inr (4, [.int k0, .ref eml, .int 1])), (a, .inr (4, [.int m0, .ref ea, .int 1])), (ea, .inl (ce, 10, .inr (.inr (.inr (.inr (va_up (fun _ => none) 0 (some s2)))))))] H := hP
  have hD : va_D A [(h0, .inr (15, [.ref a, v1, v2, v3, v4, v5])), (s2, .inr (14, [.ref ml, u1, u2, u3, u4, u5])), (ml, .inr (4, [.int k0, .ref eml, .int 1])), (a, .inr (4, [.int m0, .ref ea, .int 1])), (ea, .inl (ce, 10, .inr (.inr (.inr (.inr (va_up (fun _ => none) 0 (some s2)))))))] := hD
  have hK : va_K (dC, dI) vwCl [(ce, .object "java/lang/Object")] s := hK
  refine W.widen (k := 0) (n := 0) (Nat.le_of_ble_eq_true rfl) (Nat.le_of_ble_eq_true rfl) ?_
  replace hra := hra.symm; subst hra
  refine va_castS (nm := "ShakerhallModel$Structure") hx hb hown (hts _ q1257) (hK.1 14 _ rfl).2 (va_recv hK hP (ci := 14) (q0 := 1) rfl rfl) dX10_isBare_8 ?_
  refine va_getN (D := (dC, dI)) (ci := 14) (v := .ref ml) (C := RX9) (T := TX9) (N := 6) hx hb hts inX9 hown hK hP 1 rfl rfl 0 (by decide) (va_Nw.use rfl hR.nest_ShakerhallModel53) (fun _ h9 => h9) rfl dX10_isBare_11 ?_
  have hPc := hP.sub (ws' := [(ml, .inr (4, [.int k0, .ref eml, .int 1]))]) [2] rfl
  have hDc := hD.sub (ws' := [(ml, .inr (4, [.int k0, .ref eml, .int 1]))]) [2] (by decide) rfl
  have hKc := hK.sub (tys' := []) [] rfl
  have hFc := va_free (wc := [(ml, .inr (4, [.int k0, .ref eml, .int 1]))]) hD hS hA [2] rfl
  refine va_calli (va_runV (As := []) (rest := []) ⟨hx, hb, hml, hown, hts⟩ (r_notEmpty l dC dI H.size ml (.int k0) (.ref eml)) (cwV 0 hts (pw_V q1389 q1390 q1391 q46 q1392) rfl rfl rfl (by decide +kernel) ⟨(Nat.le_of_ble_eq_true rfl), (Nat.le_of_ble_eq_true rfl)⟩) ⟨fun a U g mk q => by obtain ⟨q0, q1, qP, qK, qD⟩ := q; exact ⟨q0, q1, qP, va_K.moved (u := U) (U := U.calling g mk a) (Vm.Alike.refl U.vm) qK, qD⟩, va_recv hKc hPc (ci := 4) (q0 := 0) rfl rfl, fun U hU hW => ⟨rfl, by rw [hU], by rw [hU]; exact hPc, va_K.moved hW.alike hKc, hDc.weaken (fun _ _ _ _ => trivial)⟩⟩ rfl rfl hl.1 rfl (lv_room (Nat.le_of_ble_eq_true rfl)) dX10_isBare_14 ⟨(Nat.le_of_ble_eq_true rfl), (Nat.le_of_ble_eq_true rfl)⟩) hS (fun q _ h => hFc q h) hFc (fun r_1790 u t H1 locs ht hvm hw hB hz1 hk1 hS => ?_)
  obtain ⟨hP1, hK1, hD1⟩ := hB
  rw [ht] at hP1
  have hK1 := va_K.moved hvm.symm hK1
  obtain ⟨hP, hD⟩ := va_join (wr := [(h0, .inr (15, [.ref a, v1, v2, v3, v4, v5])), (s2, .inr (14, [.ref ml, u1, u2, u3, u4, u5])), (a, .inr (4, [.int m0, .ref ea, .int 1])), (ea, .inl (ce, 10, .inr (.inr (.inr (.inr (va_up (fun _ => none) 0 (some s2)))))))]) (w1 := [(ml, .inr (4, [.int k0, .ref eml, .int 1]))]) hP hD [2] [0, 1, 3, 4] rfl rfl (by decide) (by decide) hk1 hFc hP1 hD1
  have hK := (hK.sub (tys' := [(ce, .object "java/lang/Object")]) [0] rfl).app hK1
  generalize H1 = H at hP hS ⊢
  have hP : va_P (dC, dI) vwCl [(h0, .inr (15, [.ref a, v1, v2, v3, v4, v5])), (s2, .inr (14, [.ref ml, u1, u2, u3, u4, u5])), (a, .inr (4, [.int m0, .ref ea, .int 1])), (ea, .inl (ce, 10, .inr (.inr (.inr (.inr (va_up (fun _ => none) 0 (some s2))))))), (ml, .inr (4, [.int k0, .ref eml, .int 1]))] H := hP
  have hD : va_D A [(h0, .inr (15, [.ref a, v1, v2, v3, v4, v5])), (s2, .inr (14, [.ref ml, u1, u2, u3, u4, u5])), (a, .inr (4, [.int m0, .ref ea, .int 1])), (ea, .inl (ce, 10, .inr (.inr (.inr (.inr (va_up (fun _ => none) 0 (some s2))))))), (ml, .inr (4, [.int k0, .ref eml, .int 1]))] := hD
  have hK : va_K (dC, dI) vwCl [(ce, .object "java/lang/Object")] s := hK
  refine W.widen (k := 0) (n := 0) (Nat.le_of_ble_eq_true rfl) (Nat.le_of_ble_eq_true rfl) ?_
  have hw : r_1790 = 0 := hw
  subst hw
  have hP9 := hP.sub (ws' := [(h0, .inr (15, [.ref a, v1, v2, v3, v4, v5])), (a, .inr (4, [.int m0, .ref ea, .int 1])), (ea, .inl (ce, 10, .inr (.inr (.inr (.inr (va_up (fun _ => none) 0 (some s2))))))), (s2, .inr (14, [.ref ml, u1, u2, u3, u4, u5])), (ml, .inr (4, [.int k0, .ref eml, .int 1]))]) [0, 2, 3, 1, 4] rfl
  have hD9 := hD.sub (ws' := [(h0, .inr (15, [.ref a, v1, v2, v3, v4, v5])), (a, .inr (4, [.int m0, .ref ea, .int 1])), (ea, .inl (ce, 10, .inr (.inr (.inr (.inr (va_up (fun _ => none) 0 (some s2))))))), (s2, .inr (14, [.ref ml, u1, u2, u3, u4, u5])), (ml, .inr (4, [.int k0, .ref eml, .int 1]))]) [0, 2, 3, 1, 4] (by decide) rfl
  have hK9 := hK.sub (tys' := [(ce, .object "java/lang/Object")]) [0] rfl
  refine W.widen (k := 0) (n := 0) (Nat.le_of_ble_eq_true rfl) (Nat.le_of_ble_eq_true rfl) ?_
  exact W.zret (v := 0) hx hb hr (by decide) (fun t ht hW => ⟨⟨0, (), rfl, rfl, ⟨by rw [ht]; exact hP9, va_K.moved hW.alike hK9, hD9⟩⟩, hS.F ht⟩) hS.2.2 dX10_isBare_17
set_option maxHeartbeats 4000000 in
set_option maxRecDepth 100000 in
theorem q_last (l : Launch) (dC : Nat → ClassId) (dI : Nat → Nat → Nat) (sz : Nat) (s2 : Nat) (ml : Nat) (eml : Nat) (u1 : Value) (u2 : Value) (u3 : Value) (u4 : Value) (u5 : Value) (k0 : Int32) : Met l yX9_last (pw_ws yX9_last cX9_last 1 (some .int)) ({ frames := 2, cells := 0, slots := 0, locals := 40 } : Room) (va_Pc [.ref s2] (fun U => U.heap.size = sz ∧ va_P (dC, dI) vwCl [(s2, .inr (14, [.ref ml, u1, u2, u3, u4, u5])), (ml, .inr (4, [.int k0, .ref eml, .int 1]))] U.heap ∧ va_K (dC, dI) vwCl [] U ∧ va_D (fun _ => True) [(s2, .inr (14, [.ref ml, u1, u2, u3, u4, u5])), (ml, .inr (4, [.int k0, .ref eml, .int 1]))])) (va_Qi (fun (r : Int32) (_ : Unit) => r = 0) (fun (_ : Unit) (t : State) => va_P (dC, dI) vwCl [(s2, .inr (14, [.ref ml, u1, u2, u3, u4, u5])), (ml, .inr (4, [.int k0, .ref eml, .int 1]))] t.heap ∧ va_K (dC, dI) vwCl [] t ∧ va_D (va_A [(s2, .inr (14, [.ref ml, u1, u2, u3, u4, u5])), (ml, .inr (4, [.int k0, .ref eml, .int 1]))] sz) [(s2, .inr (14, [.ref ml, u1, u2, u3, u4, u5])), (ml, .inr (4, [.int k0, .ref eml, .int 1]))]) (va_A [(s2, .inr (14, [.ref ml, u1, u2, u3, u4, u5])), (ml, .inr (4, [.int k0, .ref eml, .int 1]))] sz)) 0 0 (va_A [(s2, .inr (14, [.ref ml, u1, u2, u3, u4, u5])), (ml, .inr (4, [.int k0, .ref eml, .int 1]))] sz) := by
  refine Met.ofW (cc := cX9_last) (maxL := 1) (ret := (some .int)) (by decide) rfl ?_
  intro p e s m args below meth c s₁ B hml hv
  obtain ⟨rfl, hsz, hP, hK, hD0⟩ := hv
  have hx := B.exec
  have hb := B.bytes
  have hr := B.returns
  have hts0 := atoms_spec (ws := (pw_ws yX9_last cX9_last 1 (some .int))) B.pre
  have hts : ∀ w ∈ pw_all, w.before _ s = true := fun w h => hts0 w (List.mem_cons_of_mem _ h)
  have hown : s.vm.findClass RX9 = some m.cls := findClass_of_methodNamed B.named
  have hlocks := B.notSynchronized
  subst hsz
  have hD := hD0.self (sz := s.heap.size)
  generalize hAe : va_A [(s2, .inr (14, [.ref ml, u1, u2, u3, u4, u5])), (ml, .inr (4, [.int k0, .ref eml, .int 1]))] s.heap.size = A at hD ⊢
  have hA : ∀ q : Nat, s.heap.size ≤ q → A q := fun q h => by rw [← hAe]; exact Or.inr h
  have hS : va_S A s.heap s.heap [] := va_S.rf
  have hP : va_P (dC, dI) vwCl [(s2, .inr (14, [.ref ml, u1, u2, u3, u4, u5])), (ml, .inr (4, [.int k0, .ref eml, .int 1]))] s.heap := hP
  have hl := lv_entry ([.ref s2]) (n := 1) (Nat.le_of_ble_eq_true rfl)
  rw [lg_entry_eq]
  generalize (lg_sl ([.ref s2]) ++ List.replicate (1 - (lg_sl ([.ref s2])).length) Slot.unset).toArray = ls at hl ⊢
  have hl : lv_has ls 1 [(0, .ref s2)] := hl
  skip
  refine lv_aload_n hx hb dX9_last_0 rfl (lv_at hl 0 rfl) ?_
  refine va_get (D := (dC, dI)) (ci := 14) (v := .ref ml) (C := RX9) (T := TX9) (N := 6) hx hb hts inX9 hown hK hP 0 rfl rfl 0 (by decide) (hts _ q1267) (fun _ h9 => h9) rfl dX9_last_1 ?_
  have hPc := hP.sub (ws' := [(ml, .inr (4, [.int k0, .ref eml, .int 1]))]) [1] rfl
  have hDc := hD.sub (ws' := [(ml, .inr (4, [.int k0, .ref eml, .int 1]))]) [1] (by decide) rfl
  have hKc := hK.sub (tys' := []) [] rfl
  have hFc := va_free (wc := [(ml, .inr (4, [.int k0, .ref eml, .int 1]))]) hD hS hA [1] rfl
  refine va_calli (va_runV (As := []) (rest := []) ⟨hx, hb, hml, hown, hts⟩ (m_size l dC dI s.heap.size ml (.int k0) (.ref eml) 1) (cwV 0 hts (pw_V q1315 q274 q275 q46 q276) rfl rfl rfl (by decide +kernel) ⟨(Nat.le_of_ble_eq_true rfl), (Nat.le_of_ble_eq_true rfl)⟩) ⟨fun a U g mk q => by obtain ⟨q0, q1, qP, qK, qD⟩ := q; exact ⟨q0, q1, qP, va_K.moved (u := U) (U := U.calling g mk a) (Vm.Alike.refl U.vm) qK, qD⟩, va_recv hKc hPc (ci := 4) (q0 := 0) rfl rfl, fun U hU hW => ⟨rfl, by rw [hU], by rw [hU]; exact hPc, va_K.moved hW.alike hKc, hDc.weaken (fun _ _ _ _ => trivial)⟩⟩ rfl rfl hl.1 rfl (lv_room (Nat.le_of_ble_eq_true rfl)) dX9_last_4 ⟨(Nat.le_of_ble_eq_true rfl), (Nat.le_of_ble_eq_true rfl)⟩) hS (fun q _ h => hFc q h) hFc (fun r_1791 u t H1 locs ht hvm hw hB hz1 hk1 hS => ?_)
  obtain ⟨hP1, hK1, hD1⟩ := hB
  rw [ht] at hP1
  have hK1 := va_K.moved hvm.symm hK1
  obtain ⟨hP, hD⟩ := va_join (wr := [(s2, .inr (14, [.ref ml, u1, u2, u3, u4, u5]))]) (w1 := [(ml, .inr (4, [.int k0, .ref eml, .int 1]))]) hP hD [1] [0] rfl rfl (by decide) (by decide) hk1 hFc hP1 hD1
  have hK := (hK.sub (tys' := []) [] rfl).app hK1
  generalize H1 = H at hP hS ⊢
  have hP : va_P (dC, dI) vwCl [(s2, .inr (14, [.ref ml, u1, u2, u3, u4, u5])), (ml, .inr (4, [.int k0, .ref eml, .int 1]))] H := hP
  have hD : va_D A [(s2, .inr (14, [.ref ml, u1, u2, u3, u4, u5])), (ml, .inr (4, [.int k0, .ref eml, .int 1]))] := hD
  have hK : va_K (dC, dI) vwCl [] s := hK
  refine W.widen (k := 0) (n := 0) (Nat.le_of_ble_eq_true rfl) (Nat.le_of_ble_eq_true rfl) ?_
  have hw : r_1791 = 1 := hw
  subst hw
  refine lv_iconst (v := 1) hx hb dX9_last_7 (by decide) ?_
  refine lv_isub hx hb dX9_last_8 ?_
  refine lv_numI (v := 0) (by decide) ?_
  have hP9 := hP.sub (ws' := [(s2, .inr (14, [.ref ml, u1, u2, u3, u4, u5])), (ml, .inr (4, [.int k0, .ref eml, .int 1]))]) [0, 1] rfl
  have hD9 := hD.sub (ws' := [(s2, .inr (14, [.ref ml, u1, u2, u3, u4, u5])), (ml, .inr (4, [.int k0, .ref eml, .int 1]))]) [0, 1] (by decide) rfl
  have hK9 := hK.sub (tys' := []) [] rfl
  refine W.widen (k := 0) (n := 0) (Nat.le_of_ble_eq_true rfl) (Nat.le_of_ble_eq_true rfl) ?_
  exact W.iret (v := 0) hx hb hr (fun t ht hW => ⟨⟨0, (), rfl, rfl, ⟨by rw [ht]; exact hP9, va_K.moved hW.alike hK9, hD9⟩⟩, hS.F ht⟩) hS.2.2 dX9_last_9
set_option maxHeartbeats 4000000 in
set_option maxRecDepth 100000 in
theorem q_spring (l : Launch) (dC : Nat → ClassId) (dI : Nat → Nat → Nat) (sz : Nat) (s2 : Nat) (ml : Nat) (u1 : Value) (u2 : Value) (u3 : Value) (u4 : Value) (u5 : Value) (eml : Nat) (mr : Nat) (cel : ClassId) (cmr : ClassId) (k0 : Int32) : Met l yX9_spring (pw_ws yX9_spring cX9_spring 3 (some .int)) ({ frames := 4, cells := 0, slots := 0, locals := 84 } : Room) (va_Pc [.ref s2, .int 0] (fun U => U.heap.size = sz ∧ va_P (dC, dI) vwCl [(s2, .inr (14, [.ref ml, u1, u2, u3, u4, u5])), (ml, .inr (4, [.int k0, .ref eml, .int 1])), (eml, .inl (cel, 10, .inr (.inr (.inr (.inr (va_up (fun _ => none) 0 (some mr))))))), (mr, .inl (cmr, 4, .inl (upd (upd (upd (upd (fun _ => 0) 0 1) 1 1) 2 0) 3 0)))] U.heap ∧ va_K (dC, dI) vwCl [(cel, .object "java/lang/Object"), (cmr, .int)] U ∧ va_D (fun _ => True) [(s2, .inr (14, [.ref ml, u1, u2, u3, u4, u5])), (ml, .inr (4, [.int k0, .ref eml, .int 1])), (eml, .inl (cel, 10, .inr (.inr (.inr (.inr (va_up (fun _ => none) 0 (some mr))))))), (mr, .inl (cmr, 4, .inl (upd (upd (upd (upd (fun _ => 0) 0 1) 1 1) 2 0) 3 0)))])) (va_Qi (fun (_ : Int32) (_ : Unit) => True) (fun (_ : Unit) (t : State) => va_P (dC, dI) vwCl [(s2, .inr (14, [.ref ml, u1, u2, u3, u4, u5])), (ml, .inr (4, [.int k0, .ref eml, .int 1])), (eml, .inl (cel, 10, .inr (.inr (.inr (.inr (va_up (fun _ => none) 0 (some mr))))))), (mr, .inl (cmr, 4, .inl (upd (upd (upd (upd (fun _ => 0) 0 1) 1 1) 2 0) 3 0)))] t.heap ∧ va_K (dC, dI) vwCl [(cel, .object "java/lang/Object"), (cmr, .int)] t ∧ va_D (va_A [(s2, .inr (14, [.ref ml, u1, u2, u3, u4, u5])), (ml, .inr (4, [.int k0, .ref eml, .int 1])), (eml, .inl (cel, 10, .inr (.inr (.inr (.inr (va_up (fun _ => none) 0 (some mr))))))), (mr, .inl (cmr, 4, .inl (upd (upd (upd (upd (fun _ => 0) 0 1) 1 1) 2 0) 3 0)))] sz) [(s2, .inr (14, [.ref ml, u1, u2, u3, u4, u5])), (ml, .inr (4, [.int k0, .ref eml, .int 1])), (eml, .inl (cel, 10, .inr (.inr (.inr (.inr (va_up (fun _ => none) 0 (some mr))))))), (mr, .inl (cmr, 4, .inl (upd (upd (upd (upd (fun _ => 0) 0 1) 1 1) 2 0) 3 0)))]) (va_A [(s2, .inr (14, [.ref ml, u1, u2, u3, u4, u5])), (ml, .inr (4, [.int k0, .ref eml, .int 1])), (eml, .inl (cel, 10, .inr (.inr (.inr (.inr (va_up (fun _ => none) 0 (some mr))))))), (mr, .inl (cmr, 4, .inl (upd (upd (upd (upd (fun _ => 0) 0 1) 1 1) 2 0) 3 0)))] sz)) 0 0 (va_A [(s2, .inr (14, [.ref ml, u1, u2, u3, u4, u5])), (ml, .inr (4, [.int k0, .ref eml, .int 1])), (eml, .inl (cel, 10, .inr (.inr (.inr (.inr (va_up (fun _ => none) 0 (some mr))))))), (mr, .inl (cmr, 4, .inl (upd (upd (upd (upd (fun _ => 0) 0 1) 1 1) 2 0) 3 0)))] sz) := by
  refine Met.ofW (cc := cX9_spring) (maxL := 3) (ret := (some .int)) (by decide) rfl ?_
  intro p e s m args below meth c s₁ B hml hv
  obtain ⟨rfl, hsz, hP, hK, hD0⟩ := hv
  have hx := B.exec
  have hb := B.bytes
  have hr := B.returns
  have hts0 := atoms_spec (ws := (pw_ws yX9_spring cX9_spring 3 (some .int))) B.pre
  have hts : ∀ w ∈ pw_all, w.before _ s = true := fun w h => hts0 w (List.mem_cons_of_mem _ h)
  have hown : s.vm.findClass RX9 = some m.cls := findClass_of_methodNamed B.named
  have hlocks := B.notSynchronized
  subst hsz
  have hD := hD0.self (sz := s.heap.size)
  generalize hAe : va_A [(s2, .inr (14, [.ref ml, u1, u2, u3, u4, u5])), (ml, .inr (4, [.int k0, .ref eml, .int 1])), (eml, .inl (cel, 10, .inr (.inr (.inr (.inr (va_up (fun _ => none) 0 (some mr))))))), (mr, .inl (cmr, 4, .inl (upd (upd (upd (upd (fun _ => 0) 0 1) 1 1) 2 0) 3 0)))] s.heap.size = A at hD ⊢
  have hA : ∀ q : Nat, s.heap.size ≤ q → A q := fun q h => by rw [← hAe]; exact Or.inr h
  have hS : va_S A s.heap s.heap [] := va_S.rf
  have hP : va_P (dC, dI) vwCl [(s2, .inr (14, [.ref ml, u1, u2, u3, u4, u5])), (ml, .inr (4, [.int k0, .ref eml, .int 1])), (eml, .inl (cel, 10, .inr (.inr (.inr (.inr (va_up (fun _ => none) 0 (some mr))))))), (mr, .inl (cmr, 4, .inl (upd (upd (upd (upd (fun _ => 0) 0 1) 1 1) 2 0) 3 0)))] s.heap := hP
  have hl := lv_entry ([.ref s2, .int 0]) (n := 3) (Nat.le_of_ble_eq_true rfl)
  rw [lg_entry_eq]
  generalize (lg_sl ([.ref s2, .int 0]) ++ List.replicate (3 - (lg_sl ([.ref s2, .int 0])).length) Slot.unset).toArray = ls at hl ⊢
  have hl : lv_has ls 3 [(0, .ref s2), (1, .int 0)] := hl
  skip
  refine lv_aload_n hx hb dX9_spring_0 rfl (lv_at hl 0 rfl) ?_
  refine va_get (D := (dC, dI)) (ci := 14) (v := .ref ml) (C := RX9) (T := TX9) (N := 6) hx hb hts inX9 hown hK hP 0 rfl rfl 0 (by decide) (hts _ q1267) (fun _ h9 => h9) rfl dX9_spring_1 ?_
  refine lv_iload_n hx hb dX9_spring_4 rfl (lv_at hl 1 rfl) ?_
  have hPc := hP.sub (ws' := [(ml, .inr (4, [.int k0, .ref eml, .int 1])), (eml, .inl (cel, 10, .inr (.inr (.inr (.inr (va_up (fun _ => none) 0 (some mr)))))))]) [1, 2] rfl
  have hDc := hD.sub (ws' := [(ml, .inr (4, [.int k0, .ref eml, .int 1])), (eml, .inl (cel, 10, .inr (.inr (.inr (.inr (va_up (fun _ => none) 0 (some mr)))))))]) [1, 2] (by decide) rfl
  have hKc := hK.sub (tys' := [(cel, .object "java/lang/Object")]) [0] rfl
  have hFc := va_free (wc := [(ml, .inr (4, [.int k0, .ref eml, .int 1])), (eml, .inl (cel, 10, .inr (.inr (.inr (.inr (va_up (fun _ => none) 0 (some mr)))))))]) hD hS hA [1, 2] rfl
  refine va_callr (va_runV (As := [.int 0]) (rest := []) ⟨hx, hb, hml, hown, hts⟩ (r_get l dC dI s.heap.size ml eml mr cel k0) (cwV 1 hts (pw_V q1325 q278 q279 q46 q280) rfl rfl rfl (by decide +kernel) ⟨(Nat.le_of_ble_eq_true rfl), (Nat.le_of_ble_eq_true rfl)⟩) ⟨fun a U g mk q => by obtain ⟨q0, q1, qP, qK, qD⟩ := q; exact ⟨q0, q1, qP, va_K.moved (u := U) (U := U.calling g mk a) (Vm.Alike.refl U.vm) qK, qD⟩, va_recv hKc hPc (ci := 4) (q0 := 0) rfl rfl, fun U hU hW => ⟨rfl, by rw [hU], by rw [hU]; exact hPc, va_K.moved hW.alike hKc, hDc.weaken (fun _ _ _ _ => trivial)⟩⟩ rfl rfl hl.1 rfl (lv_room (Nat.le_of_ble_eq_true rfl)) dX9_spring_5 ⟨(Nat.le_of_ble_eq_true rfl), (Nat.le_of_ble_eq_true rfl)⟩) hS (fun q _ h => hFc q h) hFc (fun u r_1792 t H1 locs ht hvm hw hB hz1 hk1 hS => ?_)
  obtain ⟨hra, hP1, hK1, hD1⟩ := hB
  rw [ht] at hP1
  have hK1 := va_K.moved hvm.symm hK1
  obtain ⟨hP, hD⟩ := va_join (wr := [(s2, .inr (14, [.ref ml, u1, u2, u3, u4, u5])), (mr, .inl (cmr, 4, .inl (upd (upd (upd (upd (fun _ => 0) 0 1) 1 1) 2 0) 3 0)))]) (w1 := [(ml, .inr (4, [.int k0, .ref eml, .int 1])), (eml, .inl (cel, 10, .inr (.inr (.inr (.inr (va_up (fun _ => none) 0 (some mr)))))))]) hP hD [1, 2] [0, 3] rfl rfl (by decide) (by decide) hk1 hFc hP1 hD1
  have hK := (hK.sub (tys' := [(cmr, .int)]) [1] rfl).app hK1
  generalize H1 = H at hP hS ⊢
  have hP : va_P (dC, dI) vwCl [(s2, .inr (14, [.ref ml, u1, u2, u3, u4, u5])), (mr, .inl (cmr, 4, .inl (upd (upd (upd (upd (fun _ => 0) 0 1) 1 1) 2 0) 3 0))), (ml, .inr (4, [.int k0, .ref eml, .int 1])), (eml, .inl (cel, 10, .inr (.inr (.inr (.inr (va_up (fun _ => none) 0 (some mr)))))))] H := hP
  have hD : va_D A [(s2, .inr (14, [.ref ml, u1, u2, u3, u4, u5])), (mr, .inl (cmr, 4, .inl (upd (upd (upd (upd (fun _ => 0) 0 1) 1 1) 2 0) 3 0))), (ml, .inr (4, [.int k0, .ref eml, .int 1])), (eml, .inl (cel, 10, .inr (.inr (.inr (.inr (va_up (fun _ => none) 0 (some mr)))))))] := hD
  have hK : va_K (dC, dI) vwCl [(cmr, .int), (cel, .object "java/lang/Object")] s := hK
  refine W.widen (k := 0) (n := 0) (Nat.le_of_ble_eq_true rfl) (Nat.le_of_ble_eq_true rfl) ?_
  replace hra := hra.symm; subst hra
  refine va_castA hx hb hown (hts _ q1326) hP 1 rfl ((hK.2 0 _ rfl).2) dX9_spring_8 ?_
  refine lv_astore_n (lv' := [(2, .ref mr), (0, .ref s2), (1, .int 0)]) hx hb dX9_spring_11 rfl hl (by decide) rfl (fun ls hl => ?_)
  refine lv_aload_n hx hb dX9_spring_12 rfl (lv_at hl 0 rfl) ?_
  refine lv_iconst (v := 1) hx hb dX9_spring_13 (by decide) ?_
  refine va_iald hx hb hK hP 1 0 rfl rfl (by unfold vp_in; decide) dX9_spring_14 ?_
  refine lv_numI (v := 1) (by decide) ?_
  refine lv_bipush (v := 10) hx hb dX9_spring_15 (by decide) ?_
  refine lv_aload_n hx hb dX9_spring_17 rfl (lv_at hl 0 rfl) ?_
  refine lv_iconst (v := 3) hx hb dX9_spring_18 (by decide) ?_
  refine va_iald hx hb hK hP 1 0 rfl rfl (by unfold vp_in; decide) dX9_spring_19 ?_
  refine lv_numI (v := 0) (by decide) ?_
  refine lv_isub hx hb dX9_spring_20 ?_
  refine lv_numI (v := 10) (by decide) ?_
  refine lv_imul hx hb dX9_spring_21 ?_
  refine lv_numI (v := 10) (by decide) ?_
  refine lv_bipush (v := 10) hx hb dX9_spring_22 (by decide) ?_
  refine lv_idiv hx hb dX9_spring_24 (by decide) ?_
  refine lv_numI (v := 1) (by decide) ?_
  have hP9 := hP.sub (ws' := [(s2, .inr (14, [.ref ml, u1, u2, u3, u4, u5])), (ml, .inr (4, [.int k0, .ref eml, .int 1])), (eml, .inl (cel, 10, .inr (.inr (.inr (.inr (va_up (fun _ => none) 0 (some mr))))))), (mr, .inl (cmr, 4, .inl (upd (upd (upd (upd (fun _ => 0) 0 1) 1 1) 2 0) 3 0)))]) [0, 2, 3, 1] rfl
  have hD9 := hD.sub (ws' := [(s2, .inr (14, [.ref ml, u1, u2, u3, u4, u5])), (ml, .inr (4, [.int k0, .ref eml, .int 1])), (eml, .inl (cel, 10, .inr (.inr (.inr (.inr (va_up (fun _ => none) 0 (some mr))))))), (mr, .inl (cmr, 4, .inl (upd (upd (upd (upd (fun _ => 0) 0 1) 1 1) 2 0) 3 0)))]) [0, 2, 3, 1] (by decide) rfl
  have hK9 := hK.sub (tys' := [(cel, .object "java/lang/Object"), (cmr, .int)]) [1, 0] rfl
  refine W.widen (k := 0) (n := 0) (Nat.le_of_ble_eq_true rfl) (Nat.le_of_ble_eq_true rfl) ?_
  exact W.iret (v := 1) hx hb hr (fun t ht hW => ⟨⟨1, (), rfl, trivial, ⟨by rw [ht]; exact hP9, va_K.moved hW.alike hK9, hD9⟩⟩, hS.F ht⟩) hS.2.2 dX9_spring_25
set_option maxHeartbeats 4000000 in
set_option maxRecDepth 100000 in
theorem q_motionInit (l : Launch) (dC : Nat → ClassId) (dI : Nat → Nat → Nat) (sz : Nat) (h : Nat) (s2 : Nat) (ml : Nat) (eml : Nat) (u1 : Value) (u2 : Value) (u3 : Value) (u4 : Value) (u5 : Value) (k0 : Int32) : Met l yX7_init (pw_ws yX7_init cX7_init 2 none) ({ frames := 2, cells := 2, slots := 2, locals := 40 } : Room) (va_Pc [.ref h, .ref s2] (fun U => U.heap.size = sz ∧ va_P (dC, dI) vwCl [(h, .inr (12, [.null, .null, .null, .int 0])), (s2, .inr (14, [.ref ml, u1, u2, u3, u4, u5])), (ml, .inr (4, [.int k0, .ref eml, .int 1]))] U.heap ∧ va_K (dC, dI) vwCl [] U ∧ va_D (fun _ => True) [(h, .inr (12, [.null, .null, .null, .int 0])), (s2, .inr (14, [.ref ml, u1, u2, u3, u4, u5])), (ml, .inr (4, [.int k0, .ref eml, .int 1]))] ∧ pr U)) (va_Qv (fun (_ : Unit) => True) (fun (_ : Unit) (t : State) => ∃ (mp : Nat), ∃ (ms : Nat), ∃ (cmp : ClassId), ∃ (cms : ClassId), va_P (dC, dI) vwCl [(h, .inr (12, [.ref s2, .ref mp, .ref ms, .int 0])), (mp, .inl (cmp, 1, .inl (fun _ => 0))), (ms, .inl (cms, 1, .inl (fun _ => 0))), (s2, .inr (14, [.ref ml, u1, u2, u3, u4, u5])), (ml, .inr (4, [.int k0, .ref eml, .int 1]))] t.heap ∧ va_K (dC, dI) vwCl [(cmp, .int), (cms, .int)] t ∧ va_D (va_A [(h, .inr (12, [.null, .null, .null, .int 0])), (s2, .inr (14, [.ref ml, u1, u2, u3, u4, u5])), (ml, .inr (4, [.int k0, .ref eml, .int 1]))] sz) [(h, .inr (12, [.ref s2, .ref mp, .ref ms, .int 0])), (mp, .inl (cmp, 1, .inl (fun _ => 0))), (ms, .inl (cms, 1, .inl (fun _ => 0))), (s2, .inr (14, [.ref ml, u1, u2, u3, u4, u5])), (ml, .inr (4, [.int k0, .ref eml, .int 1]))]) (va_A [(h, .inr (12, [.null, .null, .null, .int 0])), (s2, .inr (14, [.ref ml, u1, u2, u3, u4, u5])), (ml, .inr (4, [.int k0, .ref eml, .int 1]))] sz)) 2 2 (va_A [(h, .inr (12, [.null, .null, .null, .int 0])), (s2, .inr (14, [.ref ml, u1, u2, u3, u4, u5])), (ml, .inr (4, [.int k0, .ref eml, .int 1]))] sz) := by
  refine Met.ofW (cc := cX7_init) (maxL := 2) (ret := none) (by decide) rfl ?_
  intro p e s m args below meth c s₁ B hml hv
  obtain ⟨rfl, hsz, hP, hK, hD0, hR⟩ := hv
  have hx := B.exec
  have hb := B.bytes
  have hr := B.returns
  have hts0 := atoms_spec (ws := (pw_ws yX7_init cX7_init 2 none)) B.pre
  have hts : ∀ w ∈ pw_all, w.before _ s = true := fun w h => hts0 w (List.mem_cons_of_mem _ h)
  have hown : s.vm.findClass RX7 = some m.cls := findClass_of_methodNamed B.named
  have hlocks := B.notSynchronized
  have hin : meth.name = "<init>" := (name_of_methodNamed B.named B.method).1
  subst hsz
  have hD := hD0.self (sz := s.heap.size)
  generalize hAe : va_A [(h, .inr (12, [.null, .null, .null, .int 0])), (s2, .inr (14, [.ref ml, u1, u2, u3, u4, u5])), (ml, .inr (4, [.int k0, .ref eml, .int 1]))] s.heap.size = A at hD ⊢
  have hA : ∀ q : Nat, s.heap.size ≤ q → A q := fun q h => by rw [← hAe]; exact Or.inr h
  have hS : va_S A s.heap s.heap [] := va_S.rf
  have hP : va_P (dC, dI) vwCl [(h, .inr (12, [.null, .null, .null, .int 0])), (s2, .inr (14, [.ref ml, u1, u2, u3, u4, u5])), (ml, .inr (4, [.int k0, .ref eml, .int 1]))] s.heap := hP
  have hl := lv_entry ([.ref h, .ref s2]) (n := 2) (Nat.le_of_ble_eq_true rfl)
  rw [lg_entry_eq]
  generalize (lg_sl ([.ref h, .ref s2]) ++ List.replicate (2 - (lg_sl ([.ref h, .ref s2])).length) Slot.unset).toArray = ls at hl ⊢
  have hl : lv_has ls 2 [(0, .ref h), (1, .ref s2)] := hl
  skip
  refine lv_aload_n hx hb dX7_init_0 rfl (lv_at hl 0 rfl) ?_
  refine W.objInit hx hb hown (hts _ q1340) (hts _ q86) (hts _ q87) rfl (by rw [hml]; exact hl.1) rfl dX7_init_1 (Nat.le_of_ble_eq_true rfl) (Nat.le_of_ble_eq_true rfl) ?_
  refine W.eq (g2 := F0 m 4 ls []) rfl ?_
  refine lv_aload_n hx hb dX7_init_4 rfl (lv_at hl 0 rfl) ?_
  refine lv_aload_n hx hb dX7_init_5 rfl (lv_at hl 1 rfl) ?_
  refine va_putF (D := (dC, dI)) (ci := 12) (v := .ref s2) (ty := .object "ShakerhallModel$Structure") (C := RX7) (T := TX7) (N := 4) hx hb hts inX7 tyX7 tyX7_ok nmX7 hown hK hP hD hS 0 rfl rfl 0 (by decide) (hts _ q1342) (fun _ h9 => h9) rfl hin rfl (by decide +kernel) rfl rfl (Nat.le_of_ble_eq_true rfl) dX7_init_6 (fun H locs hP hD hS => ?_)
  have hP : va_P (dC, dI) vwCl [(h, .inr (12, [.ref s2, .null, .null, .int 0])), (s2, .inr (14, [.ref ml, u1, u2, u3, u4, u5])), (ml, .inr (4, [.int k0, .ref eml, .int 1]))] H := hP
  have hD : va_D A [(h, .inr (12, [.ref s2, .null, .null, .int 0])), (s2, .inr (14, [.ref ml, u1, u2, u3, u4, u5])), (ml, .inr (4, [.int k0, .ref eml, .int 1]))] := hD
  refine lv_aload_n hx hb dX7_init_9 rfl (lv_at hl 0 rfl) ?_
  refine lv_aload_n hx hb dX7_init_10 rfl (lv_at hl 1 rfl) ?_
  refine va_getN (D := (dC, dI)) (ci := 14) (v := .ref ml) (C := RX9) (T := TX9) (N := 6) hx hb hts inX9 hown hK hP 1 rfl rfl 0 (by decide) (va_Nw.use rfl hR.nest_ShakerhallModelMotion15) (fun _ h9 => h9) rfl dX7_init_11 ?_
  have hPc := hP.sub (ws' := [(ml, .inr (4, [.int k0, .ref eml, .int 1]))]) [2] rfl
  have hDc := hD.sub (ws' := [(ml, .inr (4, [.int k0, .ref eml, .int 1]))]) [2] (by decide) rfl
  have hKc := hK.sub (tys' := []) [] rfl
  have hFc := va_free (wc := [(ml, .inr (4, [.int k0, .ref eml, .int 1]))]) hD hS hA [2] rfl
  refine va_calli (va_runV (As := []) (rest := [.ref h]) ⟨hx, hb, hml, hown, hts⟩ (m_size l dC dI H.size ml (.int k0) (.ref eml) 1) (cwV 0 hts (pw_V q1341 q274 q275 q46 q276) rfl rfl rfl (by decide +kernel) ⟨(Nat.le_of_ble_eq_true rfl), (Nat.le_of_ble_eq_true rfl)⟩) ⟨fun a U g mk q => by obtain ⟨q0, q1, qP, qK, qD⟩ := q; exact ⟨q0, q1, qP, va_K.moved (u := U) (U := U.calling g mk a) (Vm.Alike.refl U.vm) qK, qD⟩, va_recv hKc hPc (ci := 4) (q0 := 0) rfl rfl, fun U hU hW => ⟨rfl, by rw [hU], by rw [hU]; exact hPc, va_K.moved hW.alike hKc, hDc.weaken (fun _ _ _ _ => trivial)⟩⟩ rfl rfl hl.1 rfl (lv_room (Nat.le_of_ble_eq_true rfl)) dX7_init_14 ⟨(Nat.le_of_ble_eq_true rfl), (Nat.le_of_ble_eq_true rfl)⟩) hS (fun q _ h => hFc q h) hFc (fun r_1793 u t H1 locs ht hvm hw hB hz1 hk1 hS => ?_)
  obtain ⟨hP1, hK1, hD1⟩ := hB
  rw [ht] at hP1
  have hK1 := va_K.moved hvm.symm hK1
  obtain ⟨hP, hD⟩ := va_join (wr := [(h, .inr (12, [.ref s2, .null, .null, .int 0])), (s2, .inr (14, [.ref ml, u1, u2, u3, u4, u5]))]) (w1 := [(ml, .inr (4, [.int k0, .ref eml, .int 1]))]) hP hD [2] [0, 1] rfl rfl (by decide) (by decide) hk1 hFc hP1 hD1
  have hK := (hK.sub (tys' := []) [] rfl).app hK1
  generalize H1 = H at hP hS ⊢
  have hP : va_P (dC, dI) vwCl [(h, .inr (12, [.ref s2, .null, .null, .int 0])), (s2, .inr (14, [.ref ml, u1, u2, u3, u4, u5])), (ml, .inr (4, [.int k0, .ref eml, .int 1]))] H := hP
  have hD : va_D A [(h, .inr (12, [.ref s2, .null, .null, .int 0])), (s2, .inr (14, [.ref ml, u1, u2, u3, u4, u5])), (ml, .inr (4, [.int k0, .ref eml, .int 1]))] := hD
  have hK : va_K (dC, dI) vwCl [] s := hK
  refine W.widen (k := 0) (n := 0) (Nat.le_of_ble_eq_true rfl) (Nat.le_of_ble_eq_true rfl) ?_
  have hw : r_1793 = 1 := hw
  subst hw
  refine va_newa (atype := .int) (N' := 1) (a0 := (1, .inl (fun _ => 0))) (ty := .int) (n := 1) hx hb (hts _ q143) rfl hK hP hD hS hA (fun _ => rfl) (by decide) (by decide) (Nat.le_of_ble_eq_true rfl) (Nat.le_of_ble_eq_true rfl) (Nat.le_of_ble_eq_true rfl) dX7_init_17 (fun q_1794 cA_1795 H hK hP hD hS => ?_)
  have hP : va_P (dC, dI) vwCl [(h, .inr (12, [.ref s2, .null, .null, .int 0])), (s2, .inr (14, [.ref ml, u1, u2, u3, u4, u5])), (ml, .inr (4, [.int k0, .ref eml, .int 1])), (q_1794, .inl (cA_1795, 1, .inl (fun _ => 0)))] H := hP
  have hD : va_D A [(h, .inr (12, [.ref s2, .null, .null, .int 0])), (s2, .inr (14, [.ref ml, u1, u2, u3, u4, u5])), (ml, .inr (4, [.int k0, .ref eml, .int 1])), (q_1794, .inl (cA_1795, 1, .inl (fun _ => 0)))] := hD
  have hK : va_K (dC, dI) vwCl [(cA_1795, .int)] s := hK
  refine W.widen (k := 1) (n := 1) (Nat.le_of_ble_eq_true rfl) (Nat.le_of_ble_eq_true rfl) ?_
  refine va_putF (D := (dC, dI)) (ci := 12) (v := .ref q_1794) (ty := .array .int) (C := RX7) (T := TX7) (N := 4) hx hb hts inX7 tyX7 tyX7_ok nmX7 hown hK hP hD hS 0 rfl rfl 1 (by decide) (hts _ q1343) (fun _ h9 => h9) rfl hin rfl (by decide +kernel) rfl rfl (Nat.le_of_ble_eq_true rfl) dX7_init_19 (fun H locs hP hD hS => ?_)
  have hP : va_P (dC, dI) vwCl [(h, .inr (12, [.ref s2, .ref q_1794, .null, .int 0])), (s2, .inr (14, [.ref ml, u1, u2, u3, u4, u5])), (ml, .inr (4, [.int k0, .ref eml, .int 1])), (q_1794, .inl (cA_1795, 1, .inl (fun _ => 0)))] H := hP
  have hD : va_D A [(h, .inr (12, [.ref s2, .ref q_1794, .null, .int 0])), (s2, .inr (14, [.ref ml, u1, u2, u3, u4, u5])), (ml, .inr (4, [.int k0, .ref eml, .int 1])), (q_1794, .inl (cA_1795, 1, .inl (fun _ => 0)))] := hD
  refine lv_aload_n hx hb dX7_init_22 rfl (lv_at hl 0 rfl) ?_
  refine lv_aload_n hx hb dX7_init_23 rfl (lv_at hl 0 rfl) ?_
  refine va_get (D := (dC, dI)) (ci := 12) (v := .ref q_1794) (C := RX7) (T := TX7) (N := 4) hx hb hts inX7 hown hK hP 0 rfl rfl 1 (by decide) (hts _ q1343) (fun _ h9 => h9) rfl dX7_init_24 ?_
  refine va_alen (v := 1) hx hb hK hP 3 0 rfl rfl rfl dX7_init_27 ?_
  refine va_newa (atype := .int) (N' := 1) (a0 := (1, .inl (fun _ => 0))) (ty := .int) (n := 1) hx hb (hts _ q143) rfl hK hP hD hS hA (fun _ => rfl) (by decide) (by decide) (Nat.le_of_ble_eq_true rfl) (Nat.le_of_ble_eq_true rfl) (Nat.le_of_ble_eq_true rfl) dX7_init_28 (fun q_1796 cA_1797 H hK hP hD hS => ?_)
  have hP : va_P (dC, dI) vwCl [(h, .inr (12, [.ref s2, .ref q_1794, .null, .int 0])), (s2, .inr (14, [.ref ml, u1, u2, u3, u4, u5])), (ml, .inr (4, [.int k0, .ref eml, .int 1])), (q_1794, .inl (cA_1795, 1, .inl (fun _ => 0))), (q_1796, .inl (cA_1797, 1, .inl (fun _ => 0)))] H := hP
  have hD : va_D A [(h, .inr (12, [.ref s2, .ref q_1794, .null, .int 0])), (s2, .inr (14, [.ref ml, u1, u2, u3, u4, u5])), (ml, .inr (4, [.int k0, .ref eml, .int 1])), (q_1794, .inl (cA_1795, 1, .inl (fun _ => 0))), (q_1796, .inl (cA_1797, 1, .inl (fun _ => 0)))] := hD
  have hK : va_K (dC, dI) vwCl [(cA_1795, .int), (cA_1797, .int)] s := hK
  refine W.widen (k := 2) (n := 2) (Nat.le_of_ble_eq_true rfl) (Nat.le_of_ble_eq_true rfl) ?_
  refine va_putF (D := (dC, dI)) (ci := 12) (v := .ref q_1796) (ty := .array .int) (C := RX7) (T := TX7) (N := 4) hx hb hts inX7 tyX7 tyX7_ok nmX7 hown hK hP hD hS 0 rfl rfl 2 (by decide) (hts _ q1345) (fun _ h9 => h9) rfl hin rfl (by decide +kernel) rfl rfl (Nat.le_of_ble_eq_true rfl) dX7_init_30 (fun H locs hP hD hS => ?_)
  have hP : va_P (dC, dI) vwCl [(h, .inr (12, [.ref s2, .ref q_1794, .ref q_1796, .int 0])), (s2, .inr (14, [.ref ml, u1, u2, u3, u4, u5])), (ml, .inr (4, [.int k0, .ref eml, .int 1])), (q_1794, .inl (cA_1795, 1, .inl (fun _ => 0))), (q_1796, .inl (cA_1797, 1, .inl (fun _ => 0)))] H := hP
  have hD : va_D A [(h, .inr (12, [.ref s2, .ref q_1794, .ref q_1796, .int 0])), (s2, .inr (14, [.ref ml, u1, u2, u3, u4, u5])), (ml, .inr (4, [.int k0, .ref eml, .int 1])), (q_1794, .inl (cA_1795, 1, .inl (fun _ => 0))), (q_1796, .inl (cA_1797, 1, .inl (fun _ => 0)))] := hD
  have hP9 := hP.sub (ws' := [(h, .inr (12, [.ref s2, .ref q_1794, .ref q_1796, .int 0])), (q_1794, .inl (cA_1795, 1, .inl (fun _ => 0))), (q_1796, .inl (cA_1797, 1, .inl (fun _ => 0))), (s2, .inr (14, [.ref ml, u1, u2, u3, u4, u5])), (ml, .inr (4, [.int k0, .ref eml, .int 1]))]) [0, 3, 4, 1, 2] rfl
  have hD9 := hD.sub (ws' := [(h, .inr (12, [.ref s2, .ref q_1794, .ref q_1796, .int 0])), (q_1794, .inl (cA_1795, 1, .inl (fun _ => 0))), (q_1796, .inl (cA_1797, 1, .inl (fun _ => 0))), (s2, .inr (14, [.ref ml, u1, u2, u3, u4, u5])), (ml, .inr (4, [.int k0, .ref eml, .int 1]))]) [0, 3, 4, 1, 2] (by decide) rfl
  have hK9 := hK.sub (tys' := [(cA_1795, .int), (cA_1797, .int)]) [0, 1] rfl
  refine W.widen (k := 2) (n := 2) (Nat.le_of_ble_eq_true rfl) (Nat.le_of_ble_eq_true rfl) ?_
  exact W.vret hx hb hr (fun t ht hW => ⟨⟨(), rfl, trivial, ⟨q_1794, q_1796, cA_1795, cA_1797, by rw [ht]; exact hP9, va_K.moved hW.alike hK9, hD9⟩⟩, hS.F ht⟩) hS.2.2 dX7_init_33
set_option maxHeartbeats 4000000 in
set_option maxRecDepth 100000 in
theorem q_held (l : Launch) (dC : Nat → ClassId) (dI : Nat → Nat → Nat) (sz : Nat) (p0 : Int64) : Met l yX7_held (pw_ws yX7_held cX7_held 2 (some .int)) ({ frames := 1, cells := 0, slots := 0, locals := 60 } : Room) (va_Pc [.long p0] (fun U => U.heap.size = sz ∧ va_P (dC, dI) vwCl [] U.heap ∧ va_K (dC, dI) vwCl [] U ∧ va_D (fun _ => True) [])) (va_Qi (fun (_ : Int32) (_ : Unit) => True) (fun (_ : Unit) (t : State) => va_P (dC, dI) vwCl [] t.heap ∧ va_K (dC, dI) vwCl [] t ∧ va_D (va_A [] sz) []) (va_A [] sz)) 0 0 (va_A [] sz) := by
  refine Met.ofW (cc := cX7_held) (maxL := 2) (ret := (some .int)) (by decide) rfl ?_
  intro p e s m args below meth c s₁ B hml hv
  obtain ⟨rfl, hsz, hP, hK, hD0⟩ := hv
  have hx := B.exec
  have hb := B.bytes
  have hr := B.returns
  have hts0 := atoms_spec (ws := (pw_ws yX7_held cX7_held 2 (some .int))) B.pre
  have hts : ∀ w ∈ pw_all, w.before _ s = true := fun w h => hts0 w (List.mem_cons_of_mem _ h)
  have hown : s.vm.findClass RX7 = some m.cls := findClass_of_methodNamed B.named
  have hlocks := B.notSynchronized
  subst hsz
  have hD := hD0.self (sz := s.heap.size)
  generalize hAe : va_A [] s.heap.size = A at hD ⊢
  have hA : ∀ q : Nat, s.heap.size ≤ q → A q := fun q h => by rw [← hAe]; exact Or.inr h
  have hS : va_S A s.heap s.heap [] := va_S.rf
  have hP : va_P (dC, dI) vwCl [] s.heap := hP
  have hl := lv_entry ([.long p0]) (n := 2) (Nat.le_of_ble_eq_true rfl)
  rw [lg_entry_eq]
  generalize (lg_sl ([.long p0]) ++ List.replicate (2 - (lg_sl ([.long p0])).length) Slot.unset).toArray = ls at hl ⊢
  have hl : lv_has ls 2 [(0, .long p0)] := hl
  skip
  refine lv_ldc2 (v := -1000000) hx hb hown (hts _ q1371) dX7_held_0 ?_
  refine lv_ldc2 (v := 1000000) hx hb hown (hts _ q1372) dX7_held_3 ?_
  refine lv_lload_n hx hb dX7_held_6 rfl (lv_at hl 0 rfl) ?_
  refine va_mmin_long hx hb (hml.trans hl.1.symm) hown (hts _ q1373) (hts _ q961) (hts _ q56) (hts _ q962) (Nat.le_of_ble_eq_true rfl) (Nat.le_of_ble_eq_true rfl) (Nat.le_of_ble_eq_true rfl) (Nat.le_of_ble_eq_true rfl) dX7_held_7 ?_
  refine lv_topl (fun x_1798 ex_1798 => ?_)
  refine va_mmax_long hx hb (hml.trans hl.1.symm) hown (hts _ q1374) (hts _ q964) (hts _ q56) (hts _ q965) (Nat.le_of_ble_eq_true rfl) (Nat.le_of_ble_eq_true rfl) (Nat.le_of_ble_eq_true rfl) (Nat.le_of_ble_eq_true rfl) dX7_held_10 ?_
  refine lv_topl (fun x_1799 ex_1799 => ?_)
  refine lv_l2i hx hb dX7_held_13 rfl ?_
  refine lv_topi (fun x_1800 ex_1800 => ?_)
  have hP9 := hP.sub (ws' := []) [] rfl
  have hD9 := hD.sub (ws' := []) [] (by decide) rfl
  have hK9 := hK.sub (tys' := []) [] rfl
  refine W.widen (k := 0) (n := 0) (Nat.le_of_ble_eq_true rfl) (Nat.le_of_ble_eq_true rfl) ?_
  exact W.iret (v := x_1800) hx hb hr (fun t ht hW => ⟨⟨x_1800, (), rfl, trivial, ⟨by rw [ht]; exact hP9, va_K.moved hW.alike hK9, hD9⟩⟩, hS.F ht⟩) hS.2.2 dX7_held_14
set_option maxHeartbeats 4000000 in
set_option maxRecDepth 100000 in
theorem q_moves (l : Launch) (dC : Nat → ClassId) (dI : Nat → Nat → Nat) (sz : Nat) (h : Nat) (mp : Nat) (ms : Nat) (cmp : ClassId) (cms : ClassId) (s2 : Nat) (ml : Nat) (u1 : Value) (u2 : Value) (u3 : Value) (u4 : Value) (u5 : Value) (eml : Nat) (mr : Nat) (cel : ClassId) (cmr : ClassId) (k0 : Int32) (fmp : Nat → Int32) (fms : Nat → Int32) (tb : Int32) (p0 : Int32) : Met l yX7_moves (pw_ws yX7_moves cX7_moves 12 none) ({ frames := 5, cells := 1, slots := 1, locals := 106 } : Room) (va_Pc [.ref h, .int p0] (fun U => U.heap.size = sz ∧ va_P (dC, dI) vwCl [(h, .inr (12, [.ref s2, .ref mp, .ref ms, .int tb])), (mp, .inl (cmp, 1, .inl fmp)), (ms, .inl (cms, 1, .inl fms)), (s2, .inr (14, [.ref ml, u1, u2, u3, u4, u5])), (ml, .inr (4, [.int k0, .ref eml, .int 1])), (eml, .inl (cel, 10, .inr (.inr (.inr (.inr (va_up (fun _ => none) 0 (some mr))))))), (mr, .inl (cmr, 4, .inl (upd (upd (upd (upd (fun _ => 0) 0 1) 1 1) 2 0) 3 0)))] U.heap ∧ va_K (dC, dI) vwCl [(cmp, .int), (cms, .int), (cel, .object "java/lang/Object"), (cmr, .int)] U ∧ va_D (fun _ => True) [(h, .inr (12, [.ref s2, .ref mp, .ref ms, .int tb])), (mp, .inl (cmp, 1, .inl fmp)), (ms, .inl (cms, 1, .inl fms)), (s2, .inr (14, [.ref ml, u1, u2, u3, u4, u5])), (ml, .inr (4, [.int k0, .ref eml, .int 1])), (eml, .inl (cel, 10, .inr (.inr (.inr (.inr (va_up (fun _ => none) 0 (some mr))))))), (mr, .inl (cmr, 4, .inl (upd (upd (upd (upd (fun _ => 0) 0 1) 1 1) 2 0) 3 0)))] ∧ pr U)) (va_Qv (fun (_ : Unit) => True) (fun (_ : Unit) (t : State) => ∃ (gmp : Nat → Int32), ∃ (gms : Nat → Int32), ∃ (tb2 : Int32), sz + 1 ≤ t.heap.size ∧ va_P (dC, dI) vwCl [(h, .inr (12, [.ref s2, .ref mp, .ref ms, .int tb2])), (mp, .inl (cmp, 1, .inl gmp)), (ms, .inl (cms, 1, .inl gms)), (s2, .inr (14, [.ref ml, u1, u2, u3, u4, u5])), (ml, .inr (4, [.int k0, .ref eml, .int 1])), (eml, .inl (cel, 10, .inr (.inr (.inr (.inr (va_up (fun _ => none) 0 (some mr))))))), (mr, .inl (cmr, 4, .inl (upd (upd (upd (upd (fun _ => 0) 0 1) 1 1) 2 0) 3 0)))] t.heap ∧ va_K (dC, dI) vwCl [(cmp, .int), (cms, .int), (cel, .object "java/lang/Object"), (cmr, .int)] t ∧ va_D (va_A [(h, .inr (12, [.ref s2, .ref mp, .ref ms, .int tb])), (mp, .inl (cmp, 1, .inl fmp)), (ms, .inl (cms, 1, .inl fms)), (s2, .inr (14, [.ref ml, u1, u2, u3, u4, u5])), (ml, .inr (4, [.int k0, .ref eml, .int 1])), (eml, .inl (cel, 10, .inr (.inr (.inr (.inr (va_up (fun _ => none) 0 (some mr))))))), (mr, .inl (cmr, 4, .inl (upd (upd (upd (upd (fun _ => 0) 0 1) 1 1) 2 0) 3 0)))] sz) [(h, .inr (12, [.ref s2, .ref mp, .ref ms, .int tb2])), (mp, .inl (cmp, 1, .inl gmp)), (ms, .inl (cms, 1, .inl gms)), (s2, .inr (14, [.ref ml, u1, u2, u3, u4, u5])), (ml, .inr (4, [.int k0, .ref eml, .int 1])), (eml, .inl (cel, 10, .inr (.inr (.inr (.inr (va_up (fun _ => none) 0 (some mr))))))), (mr, .inl (cmr, 4, .inl (upd (upd (upd (upd (fun _ => 0) 0 1) 1 1) 2 0) 3 0)))]) (va_A [(h, .inr (12, [.ref s2, .ref mp, .ref ms, .int tb])), (mp, .inl (cmp, 1, .inl fmp)), (ms, .inl (cms, 1, .inl fms)), (s2, .inr (14, [.ref ml, u1, u2, u3, u4, u5])), (ml, .inr (4, [.int k0, .ref eml, .int 1])), (eml, .inl (cel, 10, .inr (.inr (.inr (.inr (va_up (fun _ => none) 0 (some mr))))))), (mr, .inl (cmr, 4, .inl (upd (upd (upd (upd (fun _ => 0) 0 1) 1 1) 2 0) 3 0)))] sz)) 1 1 (va_A [(h, .inr (12, [.ref s2, .ref mp, .ref ms, .int tb])), (mp, .inl (cmp, 1, .inl fmp)), (ms, .inl (cms, 1, .inl fms)), (s2, .inr (14, [.ref ml, u1, u2, u3, u4, u5])), (ml, .inr (4, [.int k0, .ref eml, .int 1])), (eml, .inl (cel, 10, .inr (.inr (.inr (.inr (va_up (fun _ => none) 0 (some mr))))))), (mr, .inl (cmr, 4, .inl (upd (upd (upd (upd (fun _ => 0) 0 1) 1 1) 2 0) 3 0)))] sz) := by
  refine Met.ofW (cc := cX7_moves) (maxL := 12) (ret := none) (by decide) rfl ?_
  intro p e s m args below meth c s₁ B hml hv
  obtain ⟨rfl, hsz, hP, hK, hD0, hR⟩ := hv
  have hx := B.exec
  have hb := B.bytes
  have hr := B.returns
  have hts0 := atoms_spec (ws := (pw_ws yX7_moves cX7_moves 12 none)) B.pre
  have hts : ∀ w ∈ pw_all, w.before _ s = true := fun w h => hts0 w (List.mem_cons_of_mem _ h)
  have hown : s.vm.findClass RX7 = some m.cls := findClass_of_methodNamed B.named
  have hlocks := B.notSynchronized
  subst hsz
  have hD := hD0.self (sz := s.heap.size)
  generalize hAe : va_A [(h, .inr (12, [.ref s2, .ref mp, .ref ms, .int tb])), (mp, .inl (cmp, 1, .inl fmp)), (ms, .inl (cms, 1, .inl fms)), (s2, .inr (14, [.ref ml, u1, u2, u3, u4, u5])), (ml, .inr (4, [.int k0, .ref eml, .int 1])), (eml, .inl (cel, 10, .inr (.inr (.inr (.inr (va_up (fun _ => none) 0 (some mr))))))), (mr, .inl (cmr, 4, .inl (upd (upd (upd (upd (fun _ => 0) 0 1) 1 1) 2 0) 3 0)))] s.heap.size = A at hD ⊢
  have hA : ∀ q : Nat, s.heap.size ≤ q → A q := fun q h => by rw [← hAe]; exact Or.inr h
  have hS : va_S A s.heap s.heap [] := va_S.rf
  have hP : va_P (dC, dI) vwCl [(h, .inr (12, [.ref s2, .ref mp, .ref ms, .int tb])), (mp, .inl (cmp, 1, .inl fmp)), (ms, .inl (cms, 1, .inl fms)), (s2, .inr (14, [.ref ml, u1, u2, u3, u4, u5])), (ml, .inr (4, [.int k0, .ref eml, .int 1])), (eml, .inl (cel, 10, .inr (.inr (.inr (.inr (va_up (fun _ => none) 0 (some mr))))))), (mr, .inl (cmr, 4, .inl (upd (upd (upd (upd (fun _ => 0) 0 1) 1 1) 2 0) 3 0)))] s.heap := hP
  have hl := lv_entry ([.ref h, .int p0]) (n := 12) (Nat.le_of_ble_eq_true rfl)
  rw [lg_entry_eq]
  generalize (lg_sl ([.ref h, .int p0]) ++ List.replicate (12 - (lg_sl ([.ref h, .int p0])).length) Slot.unset).toArray = ls at hl ⊢
  have hl : lv_has ls 12 [(0, .ref h), (1, .int p0)] := hl
  skip
  have hsz : s.heap.size + 0 ≤ s.heap.size := Nat.le_refl _
  refine lv_ldc2 (v := 16) hx hb hown (hts _ q1364) dX7_moves_0 ?_
  refine lv_iload_n hx hb dX7_moves_3 rfl (lv_at hl 1 rfl) ?_
  refine lv_aload_n hx hb dX7_moves_4 rfl (lv_at hl 0 rfl) ?_
  refine va_get (D := (dC, dI)) (ci := 12) (v := .int tb) (C := RX7) (T := TX7) (N := 4) hx hb hts inX7 hown hK hP 0 rfl rfl 3 (by decide) (hts _ q1346) (fun _ h9 => h9) rfl dX7_moves_5 ?_
  refine lv_isub hx hb dX7_moves_8 ?_
  refine lv_topi (fun x_1801 ex_1801 => ?_)
  refine lv_i2l hx hb dX7_moves_9 rfl ?_
  refine lv_topl (fun x_1802 ex_1802 => ?_)
  refine lv_lmul hx hb dX7_moves_10 ?_
  refine lv_topl (fun x_1803 ex_1803 => ?_)
  refine lv_lstore_n (lv' := [(2, .long x_1803), (0, .ref h), (1, .int p0)]) hx hb dX7_moves_11 rfl hl (by decide) rfl (fun ls hl => ?_)
  refine lv_aload_n hx hb dX7_moves_12 rfl (lv_at hl 1 rfl) ?_
  refine lv_iload_n hx hb dX7_moves_13 rfl (lv_at hl 2 rfl) ?_
  refine va_put (D := (dC, dI)) (ci := 12) (v := .int p0) (ty := .int) (C := RX7) (T := TX7) (N := 4) hx hb hts inX7 tyX7 tyX7_ok nmX7 hown hK hP hD hS 0 rfl rfl 3 (by decide) (hts _ q1346) (fun _ h9 => h9) rfl (by decide +kernel) rfl rfl (Nat.le_of_ble_eq_true rfl) dX7_moves_14 (fun H locs hP hD hS => ?_)
  have hsz : s.heap.size + 0 ≤ H.size := hS.1
  have hP : va_P (dC, dI) vwCl [(h, .inr (12, [.ref s2, .ref mp, .ref ms, .int p0])), (mp, .inl (cmp, 1, .inl fmp)), (ms, .inl (cms, 1, .inl fms)), (s2, .inr (14, [.ref ml, u1, u2, u3, u4, u5])), (ml, .inr (4, [.int k0, .ref eml, .int 1])), (eml, .inl (cel, 10, .inr (.inr (.inr (.inr (va_up (fun _ => none) 0 (some mr))))))), (mr, .inl (cmr, 4, .inl (upd (upd (upd (upd (fun _ => 0) 0 1) 1 1) 2 0) 3 0)))] H := hP
  have hD : va_D A [(h, .inr (12, [.ref s2, .ref mp, .ref ms, .int p0])), (mp, .inl (cmp, 1, .inl fmp)), (ms, .inl (cms, 1, .inl fms)), (s2, .inr (14, [.ref ml, u1, u2, u3, u4, u5])), (ml, .inr (4, [.int k0, .ref eml, .int 1])), (eml, .inl (cel, 10, .inr (.inr (.inr (.inr (va_up (fun _ => none) 0 (some mr))))))), (mr, .inl (cmr, 4, .inl (upd (upd (upd (upd (fun _ => 0) 0 1) 1 1) 2 0) 3 0)))] := hD
  refine lv_aload_n hx hb dX7_moves_17 rfl (lv_at hl 1 rfl) ?_
  refine va_get (D := (dC, dI)) (ci := 12) (v := .ref mp) (C := RX7) (T := TX7) (N := 4) hx hb hts inX7 hown hK hP 0 rfl rfl 1 (by decide) (hts _ q1343) (fun _ h9 => h9) rfl dX7_moves_18 ?_
  refine va_alen (v := 1) hx hb hK hP 1 0 rfl rfl rfl dX7_moves_21 ?_
  refine va_newaS (atype := .long) (N' := 1) (a0 := (1, .inr (.inl (fun _ => 0)))) (ty := .long) (n := 1) hx hb (hts _ q192) rfl hK hP hD hS hA (fun _ => rfl) (by decide) (by decide) (Nat.le_of_ble_eq_true rfl) (Nat.le_of_ble_eq_true rfl) (Nat.le_of_ble_eq_true rfl) dX7_moves_22 (fun q_1804 cA_1805 H hnew hK hP hD hS => ?_)
  have hsz : s.heap.size + 0 ≤ H.size := hS.1
  have hP : va_P (dC, dI) vwCl [(h, .inr (12, [.ref s2, .ref mp, .ref ms, .int p0])), (mp, .inl (cmp, 1, .inl fmp)), (ms, .inl (cms, 1, .inl fms)), (s2, .inr (14, [.ref ml, u1, u2, u3, u4, u5])), (ml, .inr (4, [.int k0, .ref eml, .int 1])), (eml, .inl (cel, 10, .inr (.inr (.inr (.inr (va_up (fun _ => none) 0 (some mr))))))), (mr, .inl (cmr, 4, .inl (upd (upd (upd (upd (fun _ => 0) 0 1) 1 1) 2 0) 3 0))), (q_1804, .inl (cA_1805, 1, .inr (.inl (fun _ => 0))))] H := hP
  have hD : va_D A [(h, .inr (12, [.ref s2, .ref mp, .ref ms, .int p0])), (mp, .inl (cmp, 1, .inl fmp)), (ms, .inl (cms, 1, .inl fms)), (s2, .inr (14, [.ref ml, u1, u2, u3, u4, u5])), (ml, .inr (4, [.int k0, .ref eml, .int 1])), (eml, .inl (cel, 10, .inr (.inr (.inr (.inr (va_up (fun _ => none) 0 (some mr))))))), (mr, .inl (cmr, 4, .inl (upd (upd (upd (upd (fun _ => 0) 0 1) 1 1) 2 0) 3 0))), (q_1804, .inl (cA_1805, 1, .inr (.inl (fun _ => 0))))] := hD
  have hK : va_K (dC, dI) vwCl [(cmp, .int), (cms, .int), (cel, .object "java/lang/Object"), (cmr, .int), (cA_1805, .long)] s := hK
  refine W.widen (k := 1) (n := 1) (Nat.le_of_ble_eq_true rfl) (Nat.le_of_ble_eq_true rfl) ?_
  refine lv_astore (lv' := [(4, .ref q_1804), (2, .long x_1803), (0, .ref h), (1, .int p0)]) hx hb dX7_moves_24 hl (by decide) rfl (fun ls hl => ?_)
  refine lv_iconst (v := 0) hx hb dX7_moves_26 (by decide) ?_
  refine lv_istore (lv' := [(5, .int 0), (4, .ref q_1804), (2, .long x_1803), (0, .ref h), (1, .int p0)]) hx hb dX7_moves_27 hl (by decide) rfl (fun ls hl => ?_)
  refine lv_iload hx hb dX7_moves_29 (lv_at hl 0 rfl) ?_
  refine lv_aload_n hx hb dX7_moves_31 rfl (lv_at hl 3 rfl) ?_
  refine va_get (D := (dC, dI)) (ci := 12) (v := .ref mp) (C := RX7) (T := TX7) (N := 4) hx hb hts inX7 hown hK hP 0 rfl rfl 1 (by decide) (hts _ q1343) (fun _ h9 => h9) rfl dX7_moves_32 ?_
  refine va_alen (v := 1) hx hb hK hP 1 0 rfl rfl rfl dX7_moves_35 ?_
  refine lv_icmp_ge (tgt := 170) hx hb dX7_moves_36 (by decide) (fun c_1806 => absurd c_1806 (by decide)) (fun c_1806 => ?_)
  refine lv_iload hx hb dX7_moves_39 (lv_at hl 0 rfl) ?_
  refine lv_if_ne (tgt := 49) hx hb dX7_moves_41 (by decide) (fun c_1807 => absurd (by decide) c_1807) (fun c_1807 => ?_)
  refine lv_iload_n hx hb dX7_moves_44 rfl (lv_at hl 4 rfl) ?_
  refine lv_i2l hx hb dX7_moves_45 rfl ?_
  refine lv_topl (fun x_1808 ex_1808 => ?_)
  refine lv_goto (tgt := 59) hx hb dX7_moves_46 (by decide) ?_
  refine lv_lstore (lv' := [(6, .long x_1808), (5, .int 0), (4, .ref q_1804), (2, .long x_1803), (0, .ref h), (1, .int p0)]) hx hb dX7_moves_59 hl (by decide) rfl (fun ls hl => ?_)
  refine lv_iload hx hb dX7_moves_61 (lv_at hl 1 rfl) ?_
  refine lv_if_ne (tgt := 70) hx hb dX7_moves_63 (by decide) (fun c_1809 => absurd (by decide) c_1809) (fun c_1809 => ?_)
  refine lv_lload_n hx hb dX7_moves_66 rfl (lv_at hl 3 rfl) ?_
  refine lv_goto (tgt := 80) hx hb dX7_moves_67 (by decide) ?_
  refine lv_lstore (lv' := [(8, .long x_1803), (6, .long x_1808), (5, .int 0), (4, .ref q_1804), (2, .long x_1803), (0, .ref h), (1, .int p0)]) hx hb dX7_moves_80 hl (by decide) rfl (fun ls hl => ?_)
  refine lv_aload_n hx hb dX7_moves_82 rfl (lv_at hl 5 rfl) ?_
  refine va_get (D := (dC, dI)) (ci := 12) (v := .ref s2) (C := RX7) (T := TX7) (N := 4) hx hb hts inX7 hown hK hP 0 rfl rfl 0 (by decide) (hts _ q1342) (fun _ h9 => h9) rfl dX7_moves_83 ?_
  refine lv_iload hx hb dX7_moves_86 (lv_at hl 2 rfl) ?_
  have hPc := hP.sub (ws' := [(s2, .inr (14, [.ref ml, u1, u2, u3, u4, u5])), (ml, .inr (4, [.int k0, .ref eml, .int 1])), (eml, .inl (cel, 10, .inr (.inr (.inr (.inr (va_up (fun _ => none) 0 (some mr))))))), (mr, .inl (cmr, 4, .inl (upd (upd (upd (upd (fun _ => 0) 0 1) 1 1) 2 0) 3 0)))]) [3, 4, 5, 6] rfl
  have hDc := hD.sub (ws' := [(s2, .inr (14, [.ref ml, u1, u2, u3, u4, u5])), (ml, .inr (4, [.int k0, .ref eml, .int 1])), (eml, .inl (cel, 10, .inr (.inr (.inr (.inr (va_up (fun _ => none) 0 (some mr))))))), (mr, .inl (cmr, 4, .inl (upd (upd (upd (upd (fun _ => 0) 0 1) 1 1) 2 0) 3 0)))]) [3, 4, 5, 6] (by decide) rfl
  have hKc := hK.sub (tys' := [(cel, .object "java/lang/Object"), (cmr, .int)]) [2, 3] rfl
  have hFc := va_free (wc := [(s2, .inr (14, [.ref ml, u1, u2, u3, u4, u5])), (ml, .inr (4, [.int k0, .ref eml, .int 1])), (eml, .inl (cel, 10, .inr (.inr (.inr (.inr (va_up (fun _ => none) 0 (some mr))))))), (mr, .inl (cmr, 4, .inl (upd (upd (upd (upd (fun _ => 0) 0 1) 1 1) 2 0) 3 0)))]) hD hS hA [3, 4, 5, 6] rfl
  refine va_calli (va_runV (As := [.int 0]) (rest := []) ⟨hx, hb, hml, hown, hts⟩ (q_spring l dC dI H.size s2 ml u1 u2 u3 u4 u5 eml mr cel cmr k0) (cwV 1 hts (pw_V q1365 q1322 q1323 q59 q1324) rfl rfl rfl (by decide +kernel) ⟨(Nat.le_of_ble_eq_true rfl), (Nat.le_of_ble_eq_true rfl)⟩) ⟨fun a U g mk q => by obtain ⟨q0, q1, qP, qK, qD⟩ := q; exact ⟨q0, q1, qP, va_K.moved (u := U) (U := U.calling g mk a) (Vm.Alike.refl U.vm) qK, qD⟩, va_recv hKc hPc (ci := 14) (q0 := 0) rfl rfl, fun U hU hW => ⟨rfl, by rw [hU], by rw [hU]; exact hPc, va_K.moved hW.alike hKc, hDc.weaken (fun _ _ _ _ => trivial)⟩⟩ rfl rfl hl.1 rfl (lv_room (Nat.le_of_ble_eq_true rfl)) dX7_moves_88 ⟨(Nat.le_of_ble_eq_true rfl), (Nat.le_of_ble_eq_true rfl)⟩) hS (fun q _ h => hFc q h) hFc (fun r_1810 u t H1 locs ht hvm hw hB hz1 hk1 hS => ?_)
  obtain ⟨hP1, hK1, hD1⟩ := hB
  rw [ht] at hP1
  have hsz : s.heap.size + 0 ≤ H1.size := by omega
  have hK1 := va_K.moved hvm.symm hK1
  obtain ⟨hP, hD⟩ := va_join (wr := [(h, .inr (12, [.ref s2, .ref mp, .ref ms, .int p0])), (mp, .inl (cmp, 1, .inl fmp)), (ms, .inl (cms, 1, .inl fms)), (q_1804, .inl (cA_1805, 1, .inr (.inl (fun _ => 0))))]) (w1 := [(s2, .inr (14, [.ref ml, u1, u2, u3, u4, u5])), (ml, .inr (4, [.int k0, .ref eml, .int 1])), (eml, .inl (cel, 10, .inr (.inr (.inr (.inr (va_up (fun _ => none) 0 (some mr))))))), (mr, .inl (cmr, 4, .inl (upd (upd (upd (upd (fun _ => 0) 0 1) 1 1) 2 0) 3 0)))]) hP hD [3, 4, 5, 6] [0, 1, 2, 7] rfl rfl (by decide) (by decide) hk1 hFc hP1 hD1
  have hK := (hK.sub (tys' := [(cmp, .int), (cms, .int), (cA_1805, .long)]) [0, 1, 4] rfl).app hK1
  generalize H1 = H at hP hS hsz ⊢
  have hP : va_P (dC, dI) vwCl [(h, .inr (12, [.ref s2, .ref mp, .ref ms, .int p0])), (mp, .inl (cmp, 1, .inl fmp)), (ms, .inl (cms, 1, .inl fms)), (q_1804, .inl (cA_1805, 1, .inr (.inl (fun _ => 0)))), (s2, .inr (14, [.ref ml, u1, u2, u3, u4, u5])), (ml, .inr (4, [.int k0, .ref eml, .int 1])), (eml, .inl (cel, 10, .inr (.inr (.inr (.inr (va_up (fun _ => none) 0 (some mr))))))), (mr, .inl (cmr, 4, .inl (upd (upd (upd (upd (fun _ => 0) 0 1) 1 1) 2 0) 3 0)))] H := hP
  have hD : va_D A [(h, .inr (12, [.ref s2, .ref mp, .ref ms, .int p0])), (mp, .inl (cmp, 1, .inl fmp)), (ms, .inl (cms, 1, .inl fms)), (q_1804, .inl (cA_1805, 1, .inr (.inl (fun _ => 0)))), (s2, .inr (14, [.ref ml, u1, u2, u3, u4, u5])), (ml, .inr (4, [.int k0, .ref eml, .int 1])), (eml, .inl (cel, 10, .inr (.inr (.inr (.inr (va_up (fun _ => none) 0 (some mr))))))), (mr, .inl (cmr, 4, .inl (upd (upd (upd (upd (fun _ => 0) 0 1) 1 1) 2 0) 3 0)))] := hD
  have hK : va_K (dC, dI) vwCl [(cmp, .int), (cms, .int), (cA_1805, .long), (cel, .object "java/lang/Object"), (cmr, .int)] s := hK
  refine W.widen (k := 1) (n := 1) (Nat.le_of_ble_eq_true rfl) (Nat.le_of_ble_eq_true rfl) ?_
  refine lv_i2l hx hb dX7_moves_91 rfl ?_
  refine lv_topl (fun x_1811 ex_1811 => ?_)
  refine lv_lload hx hb dX7_moves_92 (lv_at hl 1 rfl) ?_
  refine lv_aload_n hx hb dX7_moves_94 rfl (lv_at hl 5 rfl) ?_
  refine va_get (D := (dC, dI)) (ci := 12) (v := .ref mp) (C := RX7) (T := TX7) (N := 4) hx hb hts inX7 hown hK hP 0 rfl rfl 1 (by decide) (hts _ q1343) (fun _ h9 => h9) rfl dX7_moves_95 ?_
  refine lv_iload hx hb dX7_moves_98 (lv_at hl 2 rfl) ?_
  refine va_iald hx hb hK hP 1 0 rfl rfl (by unfold vp_in; decide) dX7_moves_100 ?_
  refine lv_topi (fun x_1812 ex_1812 => ?_)
  refine lv_i2l hx hb dX7_moves_101 rfl ?_
  refine lv_topl (fun x_1813 ex_1813 => ?_)
  refine lv_lsub hx hb dX7_moves_102 ?_
  refine lv_topl (fun x_1814 ex_1814 => ?_)
  refine lv_lmul hx hb dX7_moves_103 ?_
  refine lv_topl (fun x_1815 ex_1815 => ?_)
  refine lv_aload_n hx hb dX7_moves_104 rfl (lv_at hl 5 rfl) ?_
  refine va_get (D := (dC, dI)) (ci := 12) (v := .ref s2) (C := RX7) (T := TX7) (N := 4) hx hb hts inX7 hown hK hP 0 rfl rfl 0 (by decide) (hts _ q1342) (fun _ h9 => h9) rfl dX7_moves_105 ?_
  refine va_getN (D := (dC, dI)) (ci := 14) (v := .ref ml) (C := RX9) (T := TX9) (N := 6) hx hb hts inX9 hown hK hP 4 rfl rfl 0 (by decide) (va_Nw.use rfl hR.nest_ShakerhallModelMotion15) (fun _ h9 => h9) rfl dX7_moves_108 ?_
  refine lv_iload hx hb dX7_moves_111 (lv_at hl 2 rfl) ?_
  have hPc := hP.sub (ws' := [(ml, .inr (4, [.int k0, .ref eml, .int 1])), (eml, .inl (cel, 10, .inr (.inr (.inr (.inr (va_up (fun _ => none) 0 (some mr)))))))]) [5, 6] rfl
  have hDc := hD.sub (ws' := [(ml, .inr (4, [.int k0, .ref eml, .int 1])), (eml, .inl (cel, 10, .inr (.inr (.inr (.inr (va_up (fun _ => none) 0 (some mr)))))))]) [5, 6] (by decide) rfl
  have hKc := hK.sub (tys' := [(cel, .object "java/lang/Object")]) [3] rfl
  have hFc := va_free (wc := [(ml, .inr (4, [.int k0, .ref eml, .int 1])), (eml, .inl (cel, 10, .inr (.inr (.inr (.inr (va_up (fun _ => none) 0 (some mr)))))))]) hD hS hA [5, 6] rfl
  refine va_callr (va_runV (As := [.int 0]) (rest := [.long x_1815]) ⟨hx, hb, hml, hown, hts⟩ (r_get l dC dI H.size ml eml mr cel k0) (cwV 1 hts (pw_V q1366 q278 q279 q46 q280) rfl rfl rfl (by decide +kernel) ⟨(Nat.le_of_ble_eq_true rfl), (Nat.le_of_ble_eq_true rfl)⟩) ⟨fun a U g mk q => by obtain ⟨q0, q1, qP, qK, qD⟩ := q; exact ⟨q0, q1, qP, va_K.moved (u := U) (U := U.calling g mk a) (Vm.Alike.refl U.vm) qK, qD⟩, va_recv hKc hPc (ci := 4) (q0 := 0) rfl rfl, fun U hU hW => ⟨rfl, by rw [hU], by rw [hU]; exact hPc, va_K.moved hW.alike hKc, hDc.weaken (fun _ _ _ _ => trivial)⟩⟩ rfl rfl hl.1 rfl (lv_room (Nat.le_of_ble_eq_true rfl)) dX7_moves_113 ⟨(Nat.le_of_ble_eq_true rfl), (Nat.le_of_ble_eq_true rfl)⟩) hS (fun q _ h => hFc q h) hFc (fun u r_1816 t H1 locs ht hvm hw hB hz1 hk1 hS => ?_)
  obtain ⟨hra, hP1, hK1, hD1⟩ := hB
  rw [ht] at hP1
  have hsz : s.heap.size + 0 ≤ H1.size := by omega
  have hK1 := va_K.moved hvm.symm hK1
  obtain ⟨hP, hD⟩ := va_join (wr := [(h, .inr (12, [.ref s2, .ref mp, .ref ms, .int p0])), (mp, .inl (cmp, 1, .inl fmp)), (ms, .inl (cms, 1, .inl fms)), (q_1804, .inl (cA_1805, 1, .inr (.inl (fun _ => 0)))), (s2, .inr (14, [.ref ml, u1, u2, u3, u4, u5])), (mr, .inl (cmr, 4, .inl (upd (upd (upd (upd (fun _ => 0) 0 1) 1 1) 2 0) 3 0)))]) (w1 := [(ml, .inr (4, [.int k0, .ref eml, .int 1])), (eml, .inl (cel, 10, .inr (.inr (.inr (.inr (va_up (fun _ => none) 0 (some mr)))))))]) hP hD [5, 6] [0, 1, 2, 3, 4, 7] rfl rfl (by decide) (by decide) hk1 hFc hP1 hD1
  have hK := (hK.sub (tys' := [(cmp, .int), (cms, .int), (cA_1805, .long), (cmr, .int)]) [0, 1, 2, 4] rfl).app hK1
  generalize H1 = H at hP hS hsz ⊢
  have hP : va_P (dC, dI) vwCl [(h, .inr (12, [.ref s2, .ref mp, .ref ms, .int p0])), (mp, .inl (cmp, 1, .inl fmp)), (ms, .inl (cms, 1, .inl fms)), (q_1804, .inl (cA_1805, 1, .inr (.inl (fun _ => 0)))), (s2, .inr (14, [.ref ml, u1, u2, u3, u4, u5])), (mr, .inl (cmr, 4, .inl (upd (upd (upd (upd (fun _ => 0) 0 1) 1 1) 2 0) 3 0))), (ml, .inr (4, [.int k0, .ref eml, .int 1])), (eml, .inl (cel, 10, .inr (.inr (.inr (.inr (va_up (fun _ => none) 0 (some mr)))))))] H := hP
  have hD : va_D A [(h, .inr (12, [.ref s2, .ref mp, .ref ms, .int p0])), (mp, .inl (cmp, 1, .inl fmp)), (ms, .inl (cms, 1, .inl fms)), (q_1804, .inl (cA_1805, 1, .inr (.inl (fun _ => 0)))), (s2, .inr (14, [.ref ml, u1, u2, u3, u4, u5])), (mr, .inl (cmr, 4, .inl (upd (upd (upd (upd (fun _ => 0) 0 1) 1 1) 2 0) 3 0))), (ml, .inr (4, [.int k0, .ref eml, .int 1])), (eml, .inl (cel, 10, .inr (.inr (.inr (.inr (va_up (fun _ => none) 0 (some mr)))))))] := hD
  have hK : va_K (dC, dI) vwCl [(cmp, .int), (cms, .int), (cA_1805, .long), (cmr, .int), (cel, .object "java/lang/Object")] s := hK
  refine W.widen (k := 1) (n := 1) (Nat.le_of_ble_eq_true rfl) (Nat.le_of_ble_eq_true rfl) ?_
  replace hra := hra.symm; subst hra
  refine va_castA hx hb hown (hts _ q1367) hP 5 rfl ((hK.2 3 _ rfl).2) dX7_moves_116 ?_
  refine lv_iconst (v := 2) hx hb dX7_moves_119 (by decide) ?_
  refine va_iald hx hb hK hP 5 3 rfl rfl (by unfold vp_in; decide) dX7_moves_120 ?_
  refine lv_numI (v := 0) (by decide) ?_
  refine lv_i2l (v := 0) hx hb dX7_moves_121 (by decide) ?_
  refine lv_lload hx hb dX7_moves_122 (lv_at hl 0 rfl) ?_
  refine lv_aload_n hx hb dX7_moves_124 rfl (lv_at hl 5 rfl) ?_
  refine va_get (D := (dC, dI)) (ci := 12) (v := .ref ms) (C := RX7) (T := TX7) (N := 4) hx hb hts inX7 hown hK hP 0 rfl rfl 2 (by decide) (hts _ q1345) (fun _ h9 => h9) rfl dX7_moves_125 ?_
  refine lv_iload hx hb dX7_moves_128 (lv_at hl 2 rfl) ?_
  refine va_iald hx hb hK hP 2 1 rfl rfl (by unfold vp_in; decide) dX7_moves_130 ?_
  refine lv_topi (fun x_1817 ex_1817 => ?_)
  refine lv_i2l hx hb dX7_moves_131 rfl ?_
  refine lv_topl (fun x_1818 ex_1818 => ?_)
  refine lv_lsub hx hb dX7_moves_132 ?_
  refine lv_topl (fun x_1819 ex_1819 => ?_)
  refine lv_lmul hx hb dX7_moves_133 ?_
  refine lv_topl (fun x_1820 ex_1820 => ?_)
  refine lv_ladd hx hb dX7_moves_134 ?_
  refine lv_topl (fun x_1821 ex_1821 => ?_)
  refine lv_lstore (lv' := [(10, .long x_1821), (8, .long x_1803), (6, .long x_1808), (5, .int 0), (4, .ref q_1804), (2, .long x_1803), (0, .ref h), (1, .int p0)]) hx hb dX7_moves_135 hl (by decide) rfl (fun ls hl => ?_)
  refine lv_aload hx hb dX7_moves_137 (lv_at hl 4 rfl) ?_
  refine lv_iload hx hb dX7_moves_139 (lv_at hl 3 rfl) ?_
  refine lv_dup2_11 hx hb dX7_moves_141 rfl rfl ?_
  refine va_lald hx hb hK hP 3 2 rfl rfl (by unfold vp_in; decide) dX7_moves_142 ?_
  refine lv_numL (v := 0) (by decide) ?_
  refine lv_lload hx hb dX7_moves_143 (lv_at hl 0 rfl) ?_
  refine lv_ladd hx hb dX7_moves_145 ?_
  refine lv_topl (fun x_1822 ex_1822 => ?_)
  refine va_last hx hb hK hP hD hS 3 2 rfl rfl (by unfold vp_in; decide) dX7_moves_146 (fun H locs hP hD hS => ?_)
  have hsz : s.heap.size + 0 ≤ H.size := hS.1
  have hP : va_P (dC, dI) vwCl [(h, .inr (12, [.ref s2, .ref mp, .ref ms, .int p0])), (mp, .inl (cmp, 1, .inl fmp)), (ms, .inl (cms, 1, .inl fms)), (q_1804, .inl (cA_1805, 1, .inr (.inl (vp_updL (fun _ => 0) (0 : Int32).toNatClampNeg x_1822)))), (s2, .inr (14, [.ref ml, u1, u2, u3, u4, u5])), (mr, .inl (cmr, 4, .inl (upd (upd (upd (upd (fun _ => 0) 0 1) 1 1) 2 0) 3 0))), (ml, .inr (4, [.int k0, .ref eml, .int 1])), (eml, .inl (cel, 10, .inr (.inr (.inr (.inr (va_up (fun _ => none) 0 (some mr)))))))] H := hP
  have hD : va_D A [(h, .inr (12, [.ref s2, .ref mp, .ref ms, .int p0])), (mp, .inl (cmp, 1, .inl fmp)), (ms, .inl (cms, 1, .inl fms)), (q_1804, .inl (cA_1805, 1, .inr (.inl (vp_updL (fun _ => 0) (0 : Int32).toNatClampNeg x_1822)))), (s2, .inr (14, [.ref ml, u1, u2, u3, u4, u5])), (mr, .inl (cmr, 4, .inl (upd (upd (upd (upd (fun _ => 0) 0 1) 1 1) 2 0) 3 0))), (ml, .inr (4, [.int k0, .ref eml, .int 1])), (eml, .inl (cel, 10, .inr (.inr (.inr (.inr (va_up (fun _ => none) 0 (some mr)))))))] := hD
  generalize (vp_updL (fun _ => 0) (0 : Int32).toNatClampNeg x_1822) = f_1823 at hP hD
  refine lv_iload hx hb dX7_moves_147 (lv_at hl 3 rfl) ?_
  refine lv_if_le (tgt := 164) hx hb dX7_moves_149 (by decide) (fun c_1824 => ?_) (fun c_1824 => absurd (by decide) c_1824)
  refine lv_iinc (v := 1) (lv' := [(5, .int 1), (10, .long x_1821), (8, .long x_1803), (6, .long x_1808), (4, .ref q_1804), (2, .long x_1803), (0, .ref h), (1, .int p0)]) hx hb dX7_moves_164 hl (k := 3) rfl (by decide) (by decide) rfl (fun ls hl => ?_)
  refine lv_goto (tgt := 29) hx hb dX7_moves_167 (by decide) ?_
  refine lv_iload hx hb dX7_moves_29 (lv_at hl 0 rfl) ?_
  refine lv_aload_n hx hb dX7_moves_31 rfl (lv_at hl 6 rfl) ?_
  refine va_get (D := (dC, dI)) (ci := 12) (v := .ref mp) (C := RX7) (T := TX7) (N := 4) hx hb hts inX7 hown hK hP 0 rfl rfl 1 (by decide) (hts _ q1343) (fun _ h9 => h9) rfl dX7_moves_32 ?_
  refine va_alen (v := 1) hx hb hK hP 1 0 rfl rfl rfl dX7_moves_35 ?_
  refine lv_icmp_ge (tgt := 170) hx hb dX7_moves_36 (by decide) (fun c_1825 => ?_) (fun c_1825 => absurd (by decide) c_1825)
  refine lv_iconst (v := 0) hx hb dX7_moves_170 (by decide) ?_
  refine lv_istore (lv' := [(5, .int 0), (10, .long x_1821), (8, .long x_1803), (6, .long x_1808), (4, .ref q_1804), (2, .long x_1803), (0, .ref h), (1, .int p0)]) hx hb dX7_moves_171 hl (by decide) rfl (fun ls hl => ?_)
  refine lv_iload hx hb dX7_moves_173 (lv_at hl 0 rfl) ?_
  refine lv_aload_n hx hb dX7_moves_175 rfl (lv_at hl 6 rfl) ?_
  refine va_get (D := (dC, dI)) (ci := 12) (v := .ref mp) (C := RX7) (T := TX7) (N := 4) hx hb hts inX7 hown hK hP 0 rfl rfl 1 (by decide) (hts _ q1343) (fun _ h9 => h9) rfl dX7_moves_176 ?_
  refine va_alen (v := 1) hx hb hK hP 1 0 rfl rfl rfl dX7_moves_179 ?_
  refine lv_icmp_ge (tgt := 266) hx hb dX7_moves_180 (by decide) (fun c_1826 => absurd c_1826 (by decide)) (fun c_1826 => ?_)
  refine lv_aload_n hx hb dX7_moves_183 rfl (lv_at hl 6 rfl) ?_
  refine va_get (D := (dC, dI)) (ci := 12) (v := .ref ms) (C := RX7) (T := TX7) (N := 4) hx hb hts inX7 hown hK hP 0 rfl rfl 2 (by decide) (hts _ q1345) (fun _ h9 => h9) rfl dX7_moves_184 ?_
  refine lv_iload hx hb dX7_moves_187 (lv_at hl 0 rfl) ?_
  refine lv_aload_n hx hb dX7_moves_189 rfl (lv_at hl 6 rfl) ?_
  refine va_get (D := (dC, dI)) (ci := 12) (v := .ref ms) (C := RX7) (T := TX7) (N := 4) hx hb hts inX7 hown hK hP 0 rfl rfl 2 (by decide) (hts _ q1345) (fun _ h9 => h9) rfl dX7_moves_190 ?_
  refine lv_iload hx hb dX7_moves_193 (lv_at hl 0 rfl) ?_
  refine va_iald hx hb hK hP 2 1 rfl rfl (by unfold vp_in; decide) dX7_moves_195 ?_
  refine lv_topi (fun x_1827 ex_1827 => ?_)
  refine lv_i2l hx hb dX7_moves_196 rfl ?_
  refine lv_topl (fun x_1828 ex_1828 => ?_)
  refine lv_aload hx hb dX7_moves_197 (lv_at hl 4 rfl) ?_
  refine lv_iload hx hb dX7_moves_199 (lv_at hl 0 rfl) ?_
  refine va_lald hx hb hK hP 3 2 rfl rfl (by unfold vp_in; decide) dX7_moves_201 ?_
  refine lv_topl (fun x_1829 ex_1829 => ?_)
  refine lv_ldc2 (v := 16) hx hb hown (hts _ q1364) dX7_moves_202 ?_
  refine lv_aload_n hx hb dX7_moves_205 rfl (lv_at hl 6 rfl) ?_
  refine va_get (D := (dC, dI)) (ci := 12) (v := .ref s2) (C := RX7) (T := TX7) (N := 4) hx hb hts inX7 hown hK hP 0 rfl rfl 0 (by decide) (hts _ q1342) (fun _ h9 => h9) rfl dX7_moves_206 ?_
  refine va_getN (D := (dC, dI)) (ci := 14) (v := .ref ml) (C := RX9) (T := TX9) (N := 6) hx hb hts inX9 hown hK hP 4 rfl rfl 0 (by decide) (va_Nw.use rfl hR.nest_ShakerhallModelMotion15) (fun _ h9 => h9) rfl dX7_moves_209 ?_
  refine lv_iload hx hb dX7_moves_212 (lv_at hl 0 rfl) ?_
  have hPc := hP.sub (ws' := [(ml, .inr (4, [.int k0, .ref eml, .int 1])), (eml, .inl (cel, 10, .inr (.inr (.inr (.inr (va_up (fun _ => none) 0 (some mr)))))))]) [6, 7] rfl
  have hDc := hD.sub (ws' := [(ml, .inr (4, [.int k0, .ref eml, .int 1])), (eml, .inl (cel, 10, .inr (.inr (.inr (.inr (va_up (fun _ => none) 0 (some mr)))))))]) [6, 7] (by decide) rfl
  have hKc := hK.sub (tys' := [(cel, .object "java/lang/Object")]) [4] rfl
  have hFc := va_free (wc := [(ml, .inr (4, [.int k0, .ref eml, .int 1])), (eml, .inl (cel, 10, .inr (.inr (.inr (.inr (va_up (fun _ => none) 0 (some mr)))))))]) hD hS hA [6, 7] rfl
  refine va_callr (va_runV (As := [.int 0]) (rest := [.long 16, .long x_1829, .long x_1828, .int 0, .ref ms]) ⟨hx, hb, hml, hown, hts⟩ (r_get l dC dI H.size ml eml mr cel k0) (cwV 1 hts (pw_V q1366 q278 q279 q46 q280) rfl rfl rfl (by decide +kernel) ⟨(Nat.le_of_ble_eq_true rfl), (Nat.le_of_ble_eq_true rfl)⟩) ⟨fun a U g mk q => by obtain ⟨q0, q1, qP, qK, qD⟩ := q; exact ⟨q0, q1, qP, va_K.moved (u := U) (U := U.calling g mk a) (Vm.Alike.refl U.vm) qK, qD⟩, va_recv hKc hPc (ci := 4) (q0 := 0) rfl rfl, fun U hU hW => ⟨rfl, by rw [hU], by rw [hU]; exact hPc, va_K.moved hW.alike hKc, hDc.weaken (fun _ _ _ _ => trivial)⟩⟩ rfl rfl hl.1 rfl (lv_room (Nat.le_of_ble_eq_true rfl)) dX7_moves_214 ⟨(Nat.le_of_ble_eq_true rfl), (Nat.le_of_ble_eq_true rfl)⟩) hS (fun q _ h => hFc q h) hFc (fun u r_1830 t H1 locs ht hvm hw hB hz1 hk1 hS => ?_)
  obtain ⟨hra, hP1, hK1, hD1⟩ := hB
  rw [ht] at hP1
  have hsz : s.heap.size + 0 ≤ H1.size := by omega
  have hK1 := va_K.moved hvm.symm hK1
  obtain ⟨hP, hD⟩ := va_join (wr := [(h, .inr (12, [.ref s2, .ref mp, .ref ms, .int p0])), (mp, .inl (cmp, 1, .inl fmp)), (ms, .inl (cms, 1, .inl fms)), (q_1804, .inl (cA_1805, 1, .inr (.inl f_1823))), (s2, .inr (14, [.ref ml, u1, u2, u3, u4, u5])), (mr, .inl (cmr, 4, .inl (upd (upd (upd (upd (fun _ => 0) 0 1) 1 1) 2 0) 3 0)))]) (w1 := [(ml, .inr (4, [.int k0, .ref eml, .int 1])), (eml, .inl (cel, 10, .inr (.inr (.inr (.inr (va_up (fun _ => none) 0 (some mr)))))))]) hP hD [6, 7] [0, 1, 2, 3, 4, 5] rfl rfl (by decide) (by decide) hk1 hFc hP1 hD1
  have hK := (hK.sub (tys' := [(cmp, .int), (cms, .int), (cA_1805, .long), (cmr, .int)]) [0, 1, 2, 3] rfl).app hK1
  generalize H1 = H at hP hS hsz ⊢
  have hP : va_P (dC, dI) vwCl [(h, .inr (12, [.ref s2, .ref mp, .ref ms, .int p0])), (mp, .inl (cmp, 1, .inl fmp)), (ms, .inl (cms, 1, .inl fms)), (q_1804, .inl (cA_1805, 1, .inr (.inl f_1823))), (s2, .inr (14, [.ref ml, u1, u2, u3, u4, u5])), (mr, .inl (cmr, 4, .inl (upd (upd (upd (upd (fun _ => 0) 0 1) 1 1) 2 0) 3 0))), (ml, .inr (4, [.int k0, .ref eml, .int 1])), (eml, .inl (cel, 10, .inr (.inr (.inr (.inr (va_up (fun _ => none) 0 (some mr)))))))] H := hP
  have hD : va_D A [(h, .inr (12, [.ref s2, .ref mp, .ref ms, .int p0])), (mp, .inl (cmp, 1, .inl fmp)), (ms, .inl (cms, 1, .inl fms)), (q_1804, .inl (cA_1805, 1, .inr (.inl f_1823))), (s2, .inr (14, [.ref ml, u1, u2, u3, u4, u5])), (mr, .inl (cmr, 4, .inl (upd (upd (upd (upd (fun _ => 0) 0 1) 1 1) 2 0) 3 0))), (ml, .inr (4, [.int k0, .ref eml, .int 1])), (eml, .inl (cel, 10, .inr (.inr (.inr (.inr (va_up (fun _ => none) 0 (some mr)))))))] := hD
  have hK : va_K (dC, dI) vwCl [(cmp, .int), (cms, .int), (cA_1805, .long), (cmr, .int), (cel, .object "java/lang/Object")] s := hK
  refine W.widen (k := 1) (n := 1) (Nat.le_of_ble_eq_true rfl) (Nat.le_of_ble_eq_true rfl) ?_
  replace hra := hra.symm; subst hra
  refine va_castA hx hb hown (hts _ q1367) hP 5 rfl ((hK.2 3 _ rfl).2) dX7_moves_217 ?_
  refine lv_iconst (v := 0) hx hb dX7_moves_220 (by decide) ?_
  refine va_iald hx hb hK hP 5 3 rfl rfl (by unfold vp_in; decide) dX7_moves_221 ?_
  refine lv_numI (v := 1) (by decide) ?_
  refine lv_i2l (v := 1) hx hb dX7_moves_222 (by decide) ?_
  refine lv_lmul hx hb dX7_moves_223 ?_
  refine lv_numL (v := 16) (by decide) ?_
  refine lv_ldiv hx hb dX7_moves_224 (by decide) ?_
  refine lv_topl (fun x_1831 ex_1831 => ?_)
  refine lv_ladd hx hb dX7_moves_225 ?_
  refine lv_topl (fun x_1832 ex_1832 => ?_)
  have hPc := hP.sub (ws' := []) [] rfl
  have hDc := hD.sub (ws' := []) [] (by decide) rfl
  have hKc := hK.sub (tys' := []) [] rfl
  have hFc := va_free (wc := []) hD hS hA [] rfl
  refine va_calli (va_runS (As := [.long x_1832]) (rest := [.int 0, .ref ms]) ⟨hx, hb, hml, hown, hts⟩ (q_held l dC dI H.size x_1832) (va_cwS 1 hts (pw_S q1368 q1369 q64 q1370) rfl rfl rfl (by decide +kernel) ⟨(Nat.le_of_ble_eq_true rfl), (Nat.le_of_ble_eq_true rfl)⟩) ⟨fun a U g mk q => by obtain ⟨q0, q1, qP, qK, qD⟩ := q; exact ⟨q0, q1, qP, va_K.moved (u := U) (U := U.calling g mk a) (Vm.Alike.refl U.vm) qK, qD⟩, fun U hU hW => ⟨rfl, by rw [hU], by rw [hU]; exact hPc, va_K.moved hW.alike hKc, hDc.weaken (fun _ _ _ _ => trivial)⟩⟩ rfl rfl hl.1 rfl (lv_room (Nat.le_of_ble_eq_true rfl)) dX7_moves_226 ⟨(Nat.le_of_ble_eq_true rfl), (Nat.le_of_ble_eq_true rfl)⟩) hS (fun q _ h => hFc q h) hFc (fun r_1833 u t H1 locs ht hvm hw hB hz1 hk1 hS => ?_)
  obtain ⟨hP1, hK1, hD1⟩ := hB
  rw [ht] at hP1
  have hsz : s.heap.size + 0 ≤ H1.size := by omega
  have hK1 := va_K.moved hvm.symm hK1
  obtain ⟨hP, hD⟩ := va_join (wr := [(h, .inr (12, [.ref s2, .ref mp, .ref ms, .int p0])), (mp, .inl (cmp, 1, .inl fmp)), (ms, .inl (cms, 1, .inl fms)), (q_1804, .inl (cA_1805, 1, .inr (.inl f_1823))), (s2, .inr (14, [.ref ml, u1, u2, u3, u4, u5])), (mr, .inl (cmr, 4, .inl (upd (upd (upd (upd (fun _ => 0) 0 1) 1 1) 2 0) 3 0))), (ml, .inr (4, [.int k0, .ref eml, .int 1])), (eml, .inl (cel, 10, .inr (.inr (.inr (.inr (va_up (fun _ => none) 0 (some mr)))))))]) (w1 := []) hP hD [] [0, 1, 2, 3, 4, 5, 6, 7] rfl rfl (by decide) (by decide) hk1 hFc hP1 hD1
  have hK := (hK.sub (tys' := [(cmp, .int), (cms, .int), (cA_1805, .long), (cmr, .int), (cel, .object "java/lang/Object")]) [0, 1, 2, 3, 4] rfl).app hK1
  generalize H1 = H at hP hS hsz ⊢
  have hP : va_P (dC, dI) vwCl [(h, .inr (12, [.ref s2, .ref mp, .ref ms, .int p0])), (mp, .inl (cmp, 1, .inl fmp)), (ms, .inl (cms, 1, .inl fms)), (q_1804, .inl (cA_1805, 1, .inr (.inl f_1823))), (s2, .inr (14, [.ref ml, u1, u2, u3, u4, u5])), (mr, .inl (cmr, 4, .inl (upd (upd (upd (upd (fun _ => 0) 0 1) 1 1) 2 0) 3 0))), (ml, .inr (4, [.int k0, .ref eml, .int 1])), (eml, .inl (cel, 10, .inr (.inr (.inr (.inr (va_up (fun _ => none) 0 (some mr)))))))] H := hP
  have hD : va_D A [(h, .inr (12, [.ref s2, .ref mp, .ref ms, .int p0])), (mp, .inl (cmp, 1, .inl fmp)), (ms, .inl (cms, 1, .inl fms)), (q_1804, .inl (cA_1805, 1, .inr (.inl f_1823))), (s2, .inr (14, [.ref ml, u1, u2, u3, u4, u5])), (mr, .inl (cmr, 4, .inl (upd (upd (upd (upd (fun _ => 0) 0 1) 1 1) 2 0) 3 0))), (ml, .inr (4, [.int k0, .ref eml, .int 1])), (eml, .inl (cel, 10, .inr (.inr (.inr (.inr (va_up (fun _ => none) 0 (some mr)))))))] := hD
  have hK : va_K (dC, dI) vwCl [(cmp, .int), (cms, .int), (cA_1805, .long), (cmr, .int), (cel, .object "java/lang/Object")] s := hK
  refine W.widen (k := 1) (n := 1) (Nat.le_of_ble_eq_true rfl) (Nat.le_of_ble_eq_true rfl) ?_
  refine va_iast hx hb hK hP hD hS 2 1 rfl rfl (by unfold vp_in; decide) dX7_moves_229 (fun H locs hP hD hS => ?_)
  have hsz : s.heap.size + 0 ≤ H.size := hS.1
  have hP : va_P (dC, dI) vwCl [(h, .inr (12, [.ref s2, .ref mp, .ref ms, .int p0])), (mp, .inl (cmp, 1, .inl fmp)), (ms, .inl (cms, 1, .inl (upd fms (0 : Int32).toNatClampNeg r_1833))), (q_1804, .inl (cA_1805, 1, .inr (.inl f_1823))), (s2, .inr (14, [.ref ml, u1, u2, u3, u4, u5])), (mr, .inl (cmr, 4, .inl (upd (upd (upd (upd (fun _ => 0) 0 1) 1 1) 2 0) 3 0))), (ml, .inr (4, [.int k0, .ref eml, .int 1])), (eml, .inl (cel, 10, .inr (.inr (.inr (.inr (va_up (fun _ => none) 0 (some mr)))))))] H := hP
  have hD : va_D A [(h, .inr (12, [.ref s2, .ref mp, .ref ms, .int p0])), (mp, .inl (cmp, 1, .inl fmp)), (ms, .inl (cms, 1, .inl (upd fms (0 : Int32).toNatClampNeg r_1833))), (q_1804, .inl (cA_1805, 1, .inr (.inl f_1823))), (s2, .inr (14, [.ref ml, u1, u2, u3, u4, u5])), (mr, .inl (cmr, 4, .inl (upd (upd (upd (upd (fun _ => 0) 0 1) 1 1) 2 0) 3 0))), (ml, .inr (4, [.int k0, .ref eml, .int 1])), (eml, .inl (cel, 10, .inr (.inr (.inr (.inr (va_up (fun _ => none) 0 (some mr)))))))] := hD
  generalize (upd fms (0 : Int32).toNatClampNeg r_1833) = f_1834 at hP hD
  refine lv_aload_n hx hb dX7_moves_230 rfl (lv_at hl 6 rfl) ?_
  refine va_get (D := (dC, dI)) (ci := 12) (v := .ref mp) (C := RX7) (T := TX7) (N := 4) hx hb hts inX7 hown hK hP 0 rfl rfl 1 (by decide) (hts _ q1343) (fun _ h9 => h9) rfl dX7_moves_231 ?_
  refine lv_iload hx hb dX7_moves_234 (lv_at hl 0 rfl) ?_
  refine lv_aload_n hx hb dX7_moves_236 rfl (lv_at hl 6 rfl) ?_
  refine va_get (D := (dC, dI)) (ci := 12) (v := .ref mp) (C := RX7) (T := TX7) (N := 4) hx hb hts inX7 hown hK hP 0 rfl rfl 1 (by decide) (hts _ q1343) (fun _ h9 => h9) rfl dX7_moves_237 ?_
  refine lv_iload hx hb dX7_moves_240 (lv_at hl 0 rfl) ?_
  refine va_iald hx hb hK hP 1 0 rfl rfl (by unfold vp_in; decide) dX7_moves_242 ?_
  refine lv_topi (fun x_1835 ex_1835 => ?_)
  refine lv_i2l hx hb dX7_moves_243 rfl ?_
  refine lv_topl (fun x_1836 ex_1836 => ?_)
  refine lv_aload_n hx hb dX7_moves_244 rfl (lv_at hl 6 rfl) ?_
  refine va_get (D := (dC, dI)) (ci := 12) (v := .ref ms) (C := RX7) (T := TX7) (N := 4) hx hb hts inX7 hown hK hP 0 rfl rfl 2 (by decide) (hts _ q1345) (fun _ h9 => h9) rfl dX7_moves_245 ?_
  refine lv_iload hx hb dX7_moves_248 (lv_at hl 0 rfl) ?_
  refine va_iald hx hb hK hP 2 1 rfl rfl (by unfold vp_in; decide) dX7_moves_250 ?_
  refine lv_topi (fun x_1837 ex_1837 => ?_)
  refine lv_bipush (v := 16) hx hb dX7_moves_251 (by decide) ?_
  refine lv_idiv hx hb dX7_moves_253 (by decide) ?_
  refine lv_topi (fun x_1838 ex_1838 => ?_)
  refine lv_i2l hx hb dX7_moves_254 rfl ?_
  refine lv_topl (fun x_1839 ex_1839 => ?_)
  refine lv_ladd hx hb dX7_moves_255 ?_
  refine lv_topl (fun x_1840 ex_1840 => ?_)
  have hPc := hP.sub (ws' := []) [] rfl
  have hDc := hD.sub (ws' := []) [] (by decide) rfl
  have hKc := hK.sub (tys' := []) [] rfl
  have hFc := va_free (wc := []) hD hS hA [] rfl
  refine va_calli (va_runS (As := [.long x_1840]) (rest := [.int 0, .ref mp]) ⟨hx, hb, hml, hown, hts⟩ (q_held l dC dI H.size x_1840) (va_cwS 1 hts (pw_S q1368 q1369 q64 q1370) rfl rfl rfl (by decide +kernel) ⟨(Nat.le_of_ble_eq_true rfl), (Nat.le_of_ble_eq_true rfl)⟩) ⟨fun a U g mk q => by obtain ⟨q0, q1, qP, qK, qD⟩ := q; exact ⟨q0, q1, qP, va_K.moved (u := U) (U := U.calling g mk a) (Vm.Alike.refl U.vm) qK, qD⟩, fun U hU hW => ⟨rfl, by rw [hU], by rw [hU]; exact hPc, va_K.moved hW.alike hKc, hDc.weaken (fun _ _ _ _ => trivial)⟩⟩ rfl rfl hl.1 rfl (lv_room (Nat.le_of_ble_eq_true rfl)) dX7_moves_256 ⟨(Nat.le_of_ble_eq_true rfl), (Nat.le_of_ble_eq_true rfl)⟩) hS (fun q _ h => hFc q h) hFc (fun r_1841 u t H1 locs ht hvm hw hB hz1 hk1 hS => ?_)
  obtain ⟨hP1, hK1, hD1⟩ := hB
  rw [ht] at hP1
  have hsz : s.heap.size + 0 ≤ H1.size := by omega
  have hK1 := va_K.moved hvm.symm hK1
  obtain ⟨hP, hD⟩ := va_join (wr := [(h, .inr (12, [.ref s2, .ref mp, .ref ms, .int p0])), (mp, .inl (cmp, 1, .inl fmp)), (ms, .inl (cms, 1, .inl f_1834)), (q_1804, .inl (cA_1805, 1, .inr (.inl f_1823))), (s2, .inr (14, [.ref ml, u1, u2, u3, u4, u5])), (mr, .inl (cmr, 4, .inl (upd (upd (upd (upd (fun _ => 0) 0 1) 1 1) 2 0) 3 0))), (ml, .inr (4, [.int k0, .ref eml, .int 1])), (eml, .inl (cel, 10, .inr (.inr (.inr (.inr (va_up (fun _ => none) 0 (some mr)))))))]) (w1 := []) hP hD [] [0, 1, 2, 3, 4, 5, 6, 7] rfl rfl (by decide) (by decide) hk1 hFc hP1 hD1
  have hK := (hK.sub (tys' := [(cmp, .int), (cms, .int), (cA_1805, .long), (cmr, .int), (cel, .object "java/lang/Object")]) [0, 1, 2, 3, 4] rfl).app hK1
  generalize H1 = H at hP hS hsz ⊢
  have hP : va_P (dC, dI) vwCl [(h, .inr (12, [.ref s2, .ref mp, .ref ms, .int p0])), (mp, .inl (cmp, 1, .inl fmp)), (ms, .inl (cms, 1, .inl f_1834)), (q_1804, .inl (cA_1805, 1, .inr (.inl f_1823))), (s2, .inr (14, [.ref ml, u1, u2, u3, u4, u5])), (mr, .inl (cmr, 4, .inl (upd (upd (upd (upd (fun _ => 0) 0 1) 1 1) 2 0) 3 0))), (ml, .inr (4, [.int k0, .ref eml, .int 1])), (eml, .inl (cel, 10, .inr (.inr (.inr (.inr (va_up (fun _ => none) 0 (some mr)))))))] H := hP
  have hD : va_D A [(h, .inr (12, [.ref s2, .ref mp, .ref ms, .int p0])), (mp, .inl (cmp, 1, .inl fmp)), (ms, .inl (cms, 1, .inl f_1834)), (q_1804, .inl (cA_1805, 1, .inr (.inl f_1823))), (s2, .inr (14, [.ref ml, u1, u2, u3, u4, u5])), (mr, .inl (cmr, 4, .inl (upd (upd (upd (upd (fun _ => 0) 0 1) 1 1) 2 0) 3 0))), (ml, .inr (4, [.int k0, .ref eml, .int 1])), (eml, .inl (cel, 10, .inr (.inr (.inr (.inr (va_up (fun _ => none) 0 (some mr)))))))] := hD
  have hK : va_K (dC, dI) vwCl [(cmp, .int), (cms, .int), (cA_1805, .long), (cmr, .int), (cel, .object "java/lang/Object")] s := hK
  refine W.widen (k := 1) (n := 1) (Nat.le_of_ble_eq_true rfl) (Nat.le_of_ble_eq_true rfl) ?_
  refine va_iast hx hb hK hP hD hS 1 0 rfl rfl (by unfold vp_in; decide) dX7_moves_259 (fun H locs hP hD hS => ?_)
  have hsz : s.heap.size + 0 ≤ H.size := hS.1
  have hP : va_P (dC, dI) vwCl [(h, .inr (12, [.ref s2, .ref mp, .ref ms, .int p0])), (mp, .inl (cmp, 1, .inl (upd fmp (0 : Int32).toNatClampNeg r_1841))), (ms, .inl (cms, 1, .inl f_1834)), (q_1804, .inl (cA_1805, 1, .inr (.inl f_1823))), (s2, .inr (14, [.ref ml, u1, u2, u3, u4, u5])), (mr, .inl (cmr, 4, .inl (upd (upd (upd (upd (fun _ => 0) 0 1) 1 1) 2 0) 3 0))), (ml, .inr (4, [.int k0, .ref eml, .int 1])), (eml, .inl (cel, 10, .inr (.inr (.inr (.inr (va_up (fun _ => none) 0 (some mr)))))))] H := hP
  have hD : va_D A [(h, .inr (12, [.ref s2, .ref mp, .ref ms, .int p0])), (mp, .inl (cmp, 1, .inl (upd fmp (0 : Int32).toNatClampNeg r_1841))), (ms, .inl (cms, 1, .inl f_1834)), (q_1804, .inl (cA_1805, 1, .inr (.inl f_1823))), (s2, .inr (14, [.ref ml, u1, u2, u3, u4, u5])), (mr, .inl (cmr, 4, .inl (upd (upd (upd (upd (fun _ => 0) 0 1) 1 1) 2 0) 3 0))), (ml, .inr (4, [.int k0, .ref eml, .int 1])), (eml, .inl (cel, 10, .inr (.inr (.inr (.inr (va_up (fun _ => none) 0 (some mr)))))))] := hD
  generalize (upd fmp (0 : Int32).toNatClampNeg r_1841) = f_1842 at hP hD
  refine lv_iinc (v := 1) (lv' := [(5, .int 1), (10, .long x_1821), (8, .long x_1803), (6, .long x_1808), (4, .ref q_1804), (2, .long x_1803), (0, .ref h), (1, .int p0)]) hx hb dX7_moves_260 hl (k := 0) rfl (by decide) (by decide) rfl (fun ls hl => ?_)
  refine lv_goto (tgt := 173) hx hb dX7_moves_263 (by decide) ?_
  refine lv_iload hx hb dX7_moves_173 (lv_at hl 0 rfl) ?_
  refine lv_aload_n hx hb dX7_moves_175 rfl (lv_at hl 6 rfl) ?_
  refine va_get (D := (dC, dI)) (ci := 12) (v := .ref mp) (C := RX7) (T := TX7) (N := 4) hx hb hts inX7 hown hK hP 0 rfl rfl 1 (by decide) (hts _ q1343) (fun _ h9 => h9) rfl dX7_moves_176 ?_
  refine va_alen (v := 1) hx hb hK hP 1 0 rfl rfl rfl dX7_moves_179 ?_
  refine lv_icmp_ge (tgt := 266) hx hb dX7_moves_180 (by decide) (fun c_1843 => ?_) (fun c_1843 => absurd (by decide) c_1843)
  have hP9 := hP.sub (ws' := [(h, .inr (12, [.ref s2, .ref mp, .ref ms, .int p0])), (mp, .inl (cmp, 1, .inl f_1842)), (ms, .inl (cms, 1, .inl f_1834)), (s2, .inr (14, [.ref ml, u1, u2, u3, u4, u5])), (ml, .inr (4, [.int k0, .ref eml, .int 1])), (eml, .inl (cel, 10, .inr (.inr (.inr (.inr (va_up (fun _ => none) 0 (some mr))))))), (mr, .inl (cmr, 4, .inl (upd (upd (upd (upd (fun _ => 0) 0 1) 1 1) 2 0) 3 0)))]) [0, 1, 2, 4, 6, 7, 5] rfl
  have hD9 := hD.sub (ws' := [(h, .inr (12, [.ref s2, .ref mp, .ref ms, .int p0])), (mp, .inl (cmp, 1, .inl f_1842)), (ms, .inl (cms, 1, .inl f_1834)), (s2, .inr (14, [.ref ml, u1, u2, u3, u4, u5])), (ml, .inr (4, [.int k0, .ref eml, .int 1])), (eml, .inl (cel, 10, .inr (.inr (.inr (.inr (va_up (fun _ => none) 0 (some mr))))))), (mr, .inl (cmr, 4, .inl (upd (upd (upd (upd (fun _ => 0) 0 1) 1 1) 2 0) 3 0)))]) [0, 1, 2, 4, 6, 7, 5] (by decide) rfl
  have hK9 := hK.sub (tys' := [(cmp, .int), (cms, .int), (cel, .object "java/lang/Object"), (cmr, .int)]) [0, 1, 4, 3] rfl
  refine W.widen (k := 1) (n := 1) (Nat.le_of_ble_eq_true rfl) (Nat.le_of_ble_eq_true rfl) ?_
  have hsz : s.heap.size + 1 ≤ H.size := Nat.lt_of_le_of_lt hnew (show q_1804 < H.size from vx_lt hP (k := 3) rfl)
  exact W.vret hx hb hr (fun t ht hW => ⟨⟨(), rfl, trivial, ⟨f_1842, f_1834, p0, by rw [ht]; omega, by rw [ht]; exact hP9, va_K.moved hW.alike hK9, hD9⟩⟩, hS.F ht⟩) hS.2.2 dX7_moves_266
set_option maxHeartbeats 4000000 in
set_option maxRecDepth 100000 in
theorem q_away (l : Launch) (dC : Nat → ClassId) (dI : Nat → Nat → Nat) (sz : Nat) (h : Nat) (mp : Nat) (ms : Nat) (cmp : ClassId) (cms : ClassId) (s2 : Nat) (fmp : Nat → Int32) (fms : Nat → Int32) (tb : Int32) : Met l yX7_away (pw_ws yX7_away cX7_away 2 (some .int)) ({ frames := 1, cells := 0, slots := 0, locals := 60 } : Room) (va_Pc [.ref h, .int 0] (fun U => U.heap.size = sz ∧ va_P (dC, dI) vwCl [(h, .inr (12, [.ref s2, .ref mp, .ref ms, .int tb])), (mp, .inl (cmp, 1, .inl fmp)), (ms, .inl (cms, 1, .inl fms))] U.heap ∧ va_K (dC, dI) vwCl [(cmp, .int), (cms, .int)] U ∧ va_D (fun _ => True) [(h, .inr (12, [.ref s2, .ref mp, .ref ms, .int tb])), (mp, .inl (cmp, 1, .inl fmp)), (ms, .inl (cms, 1, .inl fms))])) (va_Qi (fun (_ : Int32) (_ : Unit) => True) (fun (_ : Unit) (t : State) => va_P (dC, dI) vwCl [(h, .inr (12, [.ref s2, .ref mp, .ref ms, .int tb])), (mp, .inl (cmp, 1, .inl fmp)), (ms, .inl (cms, 1, .inl fms))] t.heap ∧ va_K (dC, dI) vwCl [(cmp, .int), (cms, .int)] t ∧ va_D (va_A [(h, .inr (12, [.ref s2, .ref mp, .ref ms, .int tb])), (mp, .inl (cmp, 1, .inl fmp)), (ms, .inl (cms, 1, .inl fms))] sz) [(h, .inr (12, [.ref s2, .ref mp, .ref ms, .int tb])), (mp, .inl (cmp, 1, .inl fmp)), (ms, .inl (cms, 1, .inl fms))]) (va_A [(h, .inr (12, [.ref s2, .ref mp, .ref ms, .int tb])), (mp, .inl (cmp, 1, .inl fmp)), (ms, .inl (cms, 1, .inl fms))] sz)) 0 0 (va_A [(h, .inr (12, [.ref s2, .ref mp, .ref ms, .int tb])), (mp, .inl (cmp, 1, .inl fmp)), (ms, .inl (cms, 1, .inl fms))] sz) := by
  refine Met.ofW (cc := cX7_away) (maxL := 2) (ret := (some .int)) (by decide) rfl ?_
  intro p e s m args below meth c s₁ B hml hv
  obtain ⟨rfl, hsz, hP, hK, hD0⟩ := hv
  have hx := B.exec
  have hb := B.bytes
  have hr := B.returns
  have hts0 := atoms_spec (ws := (pw_ws yX7_away cX7_away 2 (some .int))) B.pre
  have hts : ∀ w ∈ pw_all, w.before _ s = true := fun w h => hts0 w (List.mem_cons_of_mem _ h)
  have hown : s.vm.findClass RX7 = some m.cls := findClass_of_methodNamed B.named
  have hlocks := B.notSynchronized
  subst hsz
  have hD := hD0.self (sz := s.heap.size)
  generalize hAe : va_A [(h, .inr (12, [.ref s2, .ref mp, .ref ms, .int tb])), (mp, .inl (cmp, 1, .inl fmp)), (ms, .inl (cms, 1, .inl fms))] s.heap.size = A at hD ⊢
  have hA : ∀ q : Nat, s.heap.size ≤ q → A q := fun q h => by rw [← hAe]; exact Or.inr h
  have hS : va_S A s.heap s.heap [] := va_S.rf
  have hP : va_P (dC, dI) vwCl [(h, .inr (12, [.ref s2, .ref mp, .ref ms, .int tb])), (mp, .inl (cmp, 1, .inl fmp)), (ms, .inl (cms, 1, .inl fms))] s.heap := hP
  have hl := lv_entry ([.ref h, .int 0]) (n := 2) (Nat.le_of_ble_eq_true rfl)
  rw [lg_entry_eq]
  generalize (lg_sl ([.ref h, .int 0]) ++ List.replicate (2 - (lg_sl ([.ref h, .int 0])).length) Slot.unset).toArray = ls at hl ⊢
  have hl : lv_has ls 2 [(0, .ref h), (1, .int 0)] := hl
  skip
  refine lv_aload_n hx hb dX7_away_0 rfl (lv_at hl 0 rfl) ?_
  refine va_get (D := (dC, dI)) (ci := 12) (v := .ref mp) (C := RX7) (T := TX7) (N := 4) hx hb hts inX7 hown hK hP 0 rfl rfl 1 (by decide) (hts _ q1343) (fun _ h9 => h9) rfl dX7_away_1 ?_
  refine lv_iload_n hx hb dX7_away_4 rfl (lv_at hl 1 rfl) ?_
  refine va_iald hx hb hK hP 1 0 rfl rfl (by unfold vp_in; decide) dX7_away_5 ?_
  refine lv_topi (fun x_1844 ex_1844 => ?_)
  refine va_mabs hx hb (hml.trans hl.1.symm) hown (hts _ q1379) (hts _ q254) (hts _ q56) (hts _ q255) (Nat.le_of_ble_eq_true rfl) (Nat.le_of_ble_eq_true rfl) (Nat.le_of_ble_eq_true rfl) (Nat.le_of_ble_eq_true rfl) dX7_away_6 ?_
  refine lv_topi (fun x_1845 ex_1845 => ?_)
  have hP9 := hP.sub (ws' := [(h, .inr (12, [.ref s2, .ref mp, .ref ms, .int tb])), (mp, .inl (cmp, 1, .inl fmp)), (ms, .inl (cms, 1, .inl fms))]) [0, 1, 2] rfl
  have hD9 := hD.sub (ws' := [(h, .inr (12, [.ref s2, .ref mp, .ref ms, .int tb])), (mp, .inl (cmp, 1, .inl fmp)), (ms, .inl (cms, 1, .inl fms))]) [0, 1, 2] (by decide) rfl
  have hK9 := hK.sub (tys' := [(cmp, .int), (cms, .int)]) [0, 1] rfl
  refine W.widen (k := 0) (n := 0) (Nat.le_of_ble_eq_true rfl) (Nat.le_of_ble_eq_true rfl) ?_
  exact W.iret (v := x_1845) hx hb hr (fun t ht hW => ⟨⟨x_1845, (), rfl, trivial, ⟨by rw [ht]; exact hP9, va_K.moved hW.alike hK9, hD9⟩⟩, hS.F ht⟩) hS.2.2 dX7_away_9
set_option maxHeartbeats 4000000 in
set_option maxRecDepth 100000 in
theorem q_tone (l : Launch) (dC : Nat → ClassId) (dI : Nat → Nat → Nat) (sz : Nat) (p0 : Int32) (p1 : Int32) (h1 : ¬ p1 = 0) : Met l yX10_tone (pw_ws yX10_tone cX10_tone 2 (some .int)) ({ frames := 1, cells := 0, slots := 0, locals := 20 } : Room) (va_Pc [.int p0, .int p1] (fun U => U.heap.size = sz ∧ va_P (dC, dI) vwCl [] U.heap ∧ va_K (dC, dI) vwCl [] U ∧ va_D (fun _ => True) [])) (va_Qi (fun (_ : Int32) (_ : Unit) => True) (fun (_ : Unit) (t : State) => va_P (dC, dI) vwCl [] t.heap ∧ va_K (dC, dI) vwCl [] t ∧ va_D (va_A [] sz) []) (va_A [] sz)) 0 0 (va_A [] sz) := by
  refine Met.ofW (cc := cX10_tone) (maxL := 2) (ret := (some .int)) (by decide) rfl ?_
  intro p e s m args below meth c s₁ B hml hv
  obtain ⟨rfl, hsz, hP, hK, hD0⟩ := hv
  have hx := B.exec
  have hb := B.bytes
  have hr := B.returns
  have hts0 := atoms_spec (ws := (pw_ws yX10_tone cX10_tone 2 (some .int))) B.pre
  have hts : ∀ w ∈ pw_all, w.before _ s = true := fun w h => hts0 w (List.mem_cons_of_mem _ h)
  have hown : s.vm.findClass RX10 = some m.cls := findClass_of_methodNamed B.named
  have hlocks := B.notSynchronized
  subst hsz
  have hD := hD0.self (sz := s.heap.size)
  generalize hAe : va_A [] s.heap.size = A at hD ⊢
  have hA : ∀ q : Nat, s.heap.size ≤ q → A q := fun q h => by rw [← hAe]; exact Or.inr h
  have hS : va_S A s.heap s.heap [] := va_S.rf
  have hP : va_P (dC, dI) vwCl [] s.heap := hP
  have hl := lv_entry ([.int p0, .int p1]) (n := 2) (Nat.le_of_ble_eq_true rfl)
  rw [lg_entry_eq]
  generalize (lg_sl ([.int p0, .int p1]) ++ List.replicate (2 - (lg_sl ([.int p0, .int p1])).length) Slot.unset).toArray = ls at hl ⊢
  have hl : lv_has ls 2 [(0, .int p0), (1, .int p1)] := hl
  skip
  refine lv_iload_n hx hb dX10_tone_0 rfl (lv_at hl 0 rfl) ?_
  refine lv_iload_n hx hb dX10_tone_1 rfl (lv_at hl 1 rfl) ?_
  refine lv_irem hx hb dX10_tone_2 h1 ?_
  refine lv_topi (fun x_1846 ex_1846 => ?_)
  refine lv_iload_n hx hb dX10_tone_3 rfl (lv_at hl 1 rfl) ?_
  refine lv_iconst (v := 2) hx hb dX10_tone_4 (by decide) ?_
  refine lv_idiv hx hb dX10_tone_5 (by decide) ?_
  refine lv_topi (fun x_1847 ex_1847 => ?_)
  refine lv_icmp_ge (tgt := 15) hx hb dX10_tone_6 (by decide) (fun c_1848 => ?_) (fun c_1848 => ?_)
  · skip
    refine lv_sipush (v := -1600) hx hb dX10_tone_15 (by decide) ?_
    have hP9 := hP.sub (ws' := []) [] rfl
    have hD9 := hD.sub (ws' := []) [] (by decide) rfl
    have hK9 := hK.sub (tys' := []) [] rfl
    refine W.widen (k := 0) (n := 0) (Nat.le_of_ble_eq_true rfl) (Nat.le_of_ble_eq_true rfl) ?_
    exact W.iret (v := (-1600)) hx hb hr (fun t ht hW => ⟨⟨(-1600), (), rfl, trivial, ⟨by rw [ht]; exact hP9, va_K.moved hW.alike hK9, hD9⟩⟩, hS.F ht⟩) hS.2.2 dX10_tone_18
  · skip
    refine lv_sipush (v := 1600) hx hb dX10_tone_9 (by decide) ?_
    refine lv_goto (tgt := 18) hx hb dX10_tone_12 (by decide) ?_
    have hP9 := hP.sub (ws' := []) [] rfl
    have hD9 := hD.sub (ws' := []) [] (by decide) rfl
    have hK9 := hK.sub (tys' := []) [] rfl
    refine W.widen (k := 0) (n := 0) (Nat.le_of_ble_eq_true rfl) (Nat.le_of_ble_eq_true rfl) ?_
    exact W.iret (v := 1600) hx hb hr (fun t ht hW => ⟨⟨1600, (), rfl, trivial, ⟨by rw [ht]; exact hP9, va_K.moved hW.alike hK9, hD9⟩⟩, hS.F ht⟩) hS.2.2 dX10_tone_18
set_option maxHeartbeats 4000000 in
set_option maxRecDepth 100000 in
theorem q_response (l : Launch) (dC : Nat → ClassId) (dI : Nat → Nat → Nat) (sz : Nat) (h0 : Nat) (a : Nat) (ea : Nat) (s2 : Nat) (ml : Nat) (ce : ClassId) (m0 : Int32) (u1 : Value) (u2 : Value) (u3 : Value) (u4 : Value) (u5 : Value) (v1 : Value) (v2 : Value) (v3 : Value) (v4 : Value) (v5 : Value) (eml : Nat) (mr : Nat) (cel : ClassId) (cmr : ClassId) (k0 : Int32) (p0 : Int32) (h1 : ¬ p0 = 0) : Met l yX10_response (pw_ws yX10_response cX10_response 7 (some .int)) ({ frames := 6, cells := 259, slots := 262, locals := 137 } : Room) (va_Pc [.ref h0, .int 0, .int 0, .int p0] (fun U => U.heap.size = sz ∧ va_P (dC, dI) vwCl [(h0, .inr (15, [.ref a, v1, v2, v3, v4, v5])), (a, .inr (4, [.int m0, .ref ea, .int 1])), (ea, .inl (ce, 10, .inr (.inr (.inr (.inr (va_up (fun _ => none) 0 (some s2))))))), (s2, .inr (14, [.ref ml, u1, u2, u3, u4, u5])), (ml, .inr (4, [.int k0, .ref eml, .int 1])), (eml, .inl (cel, 10, .inr (.inr (.inr (.inr (va_up (fun _ => none) 0 (some mr))))))), (mr, .inl (cmr, 4, .inl (upd (upd (upd (upd (fun _ => 0) 0 1) 1 1) 2 0) 3 0)))] U.heap ∧ va_K (dC, dI) vwCl [(ce, .object "java/lang/Object"), (cel, .object "java/lang/Object"), (cmr, .int)] U ∧ va_D (fun _ => True) [(h0, .inr (15, [.ref a, v1, v2, v3, v4, v5])), (a, .inr (4, [.int m0, .ref ea, .int 1])), (ea, .inl (ce, 10, .inr (.inr (.inr (.inr (va_up (fun _ => none) 0 (some s2))))))), (s2, .inr (14, [.ref ml, u1, u2, u3, u4, u5])), (ml, .inr (4, [.int k0, .ref eml, .int 1])), (eml, .inl (cel, 10, .inr (.inr (.inr (.inr (va_up (fun _ => none) 0 (some mr))))))), (mr, .inl (cmr, 4, .inl (upd (upd (upd (upd (fun _ => 0) 0 1) 1 1) 2 0) 3 0)))] ∧ pr U)) (va_Qi (fun (_ : Int32) (_ : Unit) => True) (fun (_ : Unit) (t : State) => sz + 256 ≤ t.heap.size ∧ va_P (dC, dI) vwCl [(h0, .inr (15, [.ref a, v1, v2, v3, v4, v5])), (a, .inr (4, [.int m0, .ref ea, .int 1])), (ea, .inl (ce, 10, .inr (.inr (.inr (.inr (va_up (fun _ => none) 0 (some s2))))))), (s2, .inr (14, [.ref ml, u1, u2, u3, u4, u5])), (ml, .inr (4, [.int k0, .ref eml, .int 1])), (eml, .inl (cel, 10, .inr (.inr (.inr (.inr (va_up (fun _ => none) 0 (some mr))))))), (mr, .inl (cmr, 4, .inl (upd (upd (upd (upd (fun _ => 0) 0 1) 1 1) 2 0) 3 0)))] t.heap ∧ va_K (dC, dI) vwCl [(ce, .object "java/lang/Object"), (cel, .object "java/lang/Object"), (cmr, .int)] t ∧ va_D (va_A [(h0, .inr (15, [.ref a, v1, v2, v3, v4, v5])), (a, .inr (4, [.int m0, .ref ea, .int 1])), (ea, .inl (ce, 10, .inr (.inr (.inr (.inr (va_up (fun _ => none) 0 (some s2))))))), (s2, .inr (14, [.ref ml, u1, u2, u3, u4, u5])), (ml, .inr (4, [.int k0, .ref eml, .int 1])), (eml, .inl (cel, 10, .inr (.inr (.inr (.inr (va_up (fun _ => none) 0 (some mr))))))), (mr, .inl (cmr, 4, .inl (upd (upd (upd (upd (fun _ => 0) 0 1) 1 1) 2 0) 3 0)))] sz) [(h0, .inr (15, [.ref a, v1, v2, v3, v4, v5])), (a, .inr (4, [.int m0, .ref ea, .int 1])), (ea, .inl (ce, 10, .inr (.inr (.inr (.inr (va_up (fun _ => none) 0 (some s2))))))), (s2, .inr (14, [.ref ml, u1, u2, u3, u4, u5])), (ml, .inr (4, [.int k0, .ref eml, .int 1])), (eml, .inl (cel, 10, .inr (.inr (.inr (.inr (va_up (fun _ => none) 0 (some mr))))))), (mr, .inl (cmr, 4, .inl (upd (upd (upd (upd (fun _ => 0) 0 1) 1 1) 2 0) 3 0)))]) (va_A [(h0, .inr (15, [.ref a, v1, v2, v3, v4, v5])), (a, .inr (4, [.int m0, .ref ea, .int 1])), (ea, .inl (ce, 10, .inr (.inr (.inr (.inr (va_up (fun _ => none) 0 (some s2))))))), (s2, .inr (14, [.ref ml, u1, u2, u3, u4, u5])), (ml, .inr (4, [.int k0, .ref eml, .int 1])), (eml, .inl (cel, 10, .inr (.inr (.inr (.inr (va_up (fun _ => none) 0 (some mr))))))), (mr, .inl (cmr, 4, .inl (upd (upd (upd (upd (fun _ => 0) 0 1) 1 1) 2 0) 3 0)))] sz)) 259 262 (va_A [(h0, .inr (15, [.ref a, v1, v2, v3, v4, v5])), (a, .inr (4, [.int m0, .ref ea, .int 1])), (ea, .inl (ce, 10, .inr (.inr (.inr (.inr (va_up (fun _ => none) 0 (some s2))))))), (s2, .inr (14, [.ref ml, u1, u2, u3, u4, u5])), (ml, .inr (4, [.int k0, .ref eml, .int 1])), (eml, .inl (cel, 10, .inr (.inr (.inr (.inr (va_up (fun _ => none) 0 (some mr))))))), (mr, .inl (cmr, 4, .inl (upd (upd (upd (upd (fun _ => 0) 0 1) 1 1) 2 0) 3 0)))] sz) := by
  refine Met.ofW (cc := cX10_response) (maxL := 7) (ret := (some .int)) (by decide) rfl ?_
  intro p e s m args below meth c s₁ B hml hv
  obtain ⟨rfl, hsz, hP, hK, hD0, hR⟩ := hv
  have hx := B.exec
  have hb := B.bytes
  have hr := B.returns
  have hts0 := atoms_spec (ws := (pw_ws yX10_response cX10_response 7 (some .int))) B.pre
  have hts : ∀ w ∈ pw_all, w.before _ s = true := fun w h => hts0 w (List.mem_cons_of_mem _ h)
  have hown : s.vm.findClass RX10 = some m.cls := findClass_of_methodNamed B.named
  have hlocks := B.notSynchronized
  subst hsz
  have hD := hD0.self (sz := s.heap.size)
  generalize hAe : va_A [(h0, .inr (15, [.ref a, v1, v2, v3, v4, v5])), (a, .inr (4, [.int m0, .ref ea, .int 1])), (ea, .inl (ce, 10, .inr (.inr (.inr (.inr (va_up (fun _ => none) 0 (some s2))))))), (s2, .inr (14, [.ref ml, u1, u2, u3, u4, u5])), (ml, .inr (4, [.int k0, .ref eml, .int 1])), (eml, .inl (cel, 10, .inr (.inr (.inr (.inr (va_up (fun _ => none) 0 (some mr))))))), (mr, .inl (cmr, 4, .inl (upd (upd (upd (upd (fun _ => 0) 0 1) 1 1) 2 0) 3 0)))] s.heap.size = A at hD ⊢
  have hA : ∀ q : Nat, s.heap.size ≤ q → A q := fun q h => by rw [← hAe]; exact Or.inr h
  have hS : va_S A s.heap s.heap [] := va_S.rf
  have hP : va_P (dC, dI) vwCl [(h0, .inr (15, [.ref a, v1, v2, v3, v4, v5])), (a, .inr (4, [.int m0, .ref ea, .int 1])), (ea, .inl (ce, 10, .inr (.inr (.inr (.inr (va_up (fun _ => none) 0 (some s2))))))), (s2, .inr (14, [.ref ml, u1, u2, u3, u4, u5])), (ml, .inr (4, [.int k0, .ref eml, .int 1])), (eml, .inl (cel, 10, .inr (.inr (.inr (.inr (va_up (fun _ => none) 0 (some mr))))))), (mr, .inl (cmr, 4, .inl (upd (upd (upd (upd (fun _ => 0) 0 1) 1 1) 2 0) 3 0)))] s.heap := hP
  have hl := lv_entry ([.ref h0, .int 0, .int 0, .int p0]) (n := 7) (Nat.le_of_ble_eq_true rfl)
  rw [lg_entry_eq]
  generalize (lg_sl ([.ref h0, .int 0, .int 0, .int p0]) ++ List.replicate (7 - (lg_sl ([.ref h0, .int 0, .int 0, .int p0])).length) Slot.unset).toArray = ls at hl ⊢
  have hl : lv_has ls 7 [(0, .ref h0), (1, .int 0), (2, .int 0), (3, .int p0)] := hl
  skip
  have hsz : s.heap.size + 0 ≤ s.heap.size := Nat.le_refl _
  refine pl_name (fun QQ hQQ => ?_)
  refine va_new (ci := 12) (fs := [.null, .null, .null, .int 0]) (C := RX7) (T := TX7) (N := 4) hx hb hts inX7 tyX7 tyX7_ok hown (hts _ q1335) (hts _ q1336) (hts _ q64) hK hP hD hS hA rfl (fun j hj => by rcases (show j = 0 ∨ j = 1 ∨ j = 2 ∨ j = 3 by omega) with rfl | rfl | rfl | rfl <;> rfl) (Nat.le_of_ble_eq_true rfl) (Nat.le_of_ble_eq_true rfl) dX10_response_0 (fun q_1849 H hP hD hS => ?_)
  have hsz : s.heap.size + 0 ≤ H.size := hS.1
  have hP : va_P (dC, dI) vwCl [(h0, .inr (15, [.ref a, v1, v2, v3, v4, v5])), (a, .inr (4, [.int m0, .ref ea, .int 1])), (ea, .inl (ce, 10, .inr (.inr (.inr (.inr (va_up (fun _ => none) 0 (some s2))))))), (s2, .inr (14, [.ref ml, u1, u2, u3, u4, u5])), (ml, .inr (4, [.int k0, .ref eml, .int 1])), (eml, .inl (cel, 10, .inr (.inr (.inr (.inr (va_up (fun _ => none) 0 (some mr))))))), (mr, .inl (cmr, 4, .inl (upd (upd (upd (upd (fun _ => 0) 0 1) 1 1) 2 0) 3 0))), (q_1849, .inr (12, [.null, .null, .null, .int 0]))] H := hP
  have hD : va_D A [(h0, .inr (15, [.ref a, v1, v2, v3, v4, v5])), (a, .inr (4, [.int m0, .ref ea, .int 1])), (ea, .inl (ce, 10, .inr (.inr (.inr (.inr (va_up (fun _ => none) 0 (some s2))))))), (s2, .inr (14, [.ref ml, u1, u2, u3, u4, u5])), (ml, .inr (4, [.int k0, .ref eml, .int 1])), (eml, .inl (cel, 10, .inr (.inr (.inr (.inr (va_up (fun _ => none) 0 (some mr))))))), (mr, .inl (cmr, 4, .inl (upd (upd (upd (upd (fun _ => 0) 0 1) 1 1) 2 0) 3 0))), (q_1849, .inr (12, [.null, .null, .null, .int 0]))] := hD
  refine W.widen (k := 1) (n := 4) (Nat.le_of_ble_eq_true rfl) (Nat.le_of_ble_eq_true rfl) ?_
  refine lv_dup hx hb dX10_response_3 rfl ?_
  refine lv_aload_n hx hb dX10_response_4 rfl (lv_at hl 0 rfl) ?_
  refine va_get (D := (dC, dI)) (ci := 15) (v := .ref a) (C := RX10) (T := TX10) (N := 6) hx hb hts inX10 hown hK hP 0 rfl rfl 0 (by decide) (hts _ q1225) (fun _ h9 => h9) rfl dX10_response_5 ?_
  refine lv_iload_n hx hb dX10_response_8 rfl (lv_at hl 1 rfl) ?_
  have hPc := hP.sub (ws' := [(a, .inr (4, [.int m0, .ref ea, .int 1])), (ea, .inl (ce, 10, .inr (.inr (.inr (.inr (va_up (fun _ => none) 0 (some s2)))))))]) [1, 2] rfl
  have hDc := hD.sub (ws' := [(a, .inr (4, [.int m0, .ref ea, .int 1])), (ea, .inl (ce, 10, .inr (.inr (.inr (.inr (va_up (fun _ => none) 0 (some s2)))))))]) [1, 2] (by decide) rfl
  have hKc := hK.sub (tys' := [(ce, .object "java/lang/Object")]) [0] rfl
  have hFc := va_free (wc := [(a, .inr (4, [.int m0, .ref ea, .int 1])), (ea, .inl (ce, 10, .inr (.inr (.inr (.inr (va_up (fun _ => none) 0 (some s2)))))))]) hD hS hA [1, 2] rfl
  refine va_callr (va_runV (As := [.int 0]) (rest := [.ref q_1849, .ref q_1849]) ⟨hx, hb, hml, hown, hts⟩ (r_get l dC dI H.size a ea s2 ce m0) (cwV 1 hts (pw_V q1302 q278 q279 q46 q280) rfl rfl rfl (by decide +kernel) ⟨(Nat.le_of_ble_eq_true rfl), (Nat.le_of_ble_eq_true rfl)⟩) ⟨fun a U g mk q => by obtain ⟨q0, q1, qP, qK, qD⟩ := q; exact ⟨q0, q1, qP, va_K.moved (u := U) (U := U.calling g mk a) (Vm.Alike.refl U.vm) qK, qD⟩, va_recv hKc hPc (ci := 4) (q0 := 0) rfl rfl, fun U hU hW => ⟨rfl, by rw [hU], by rw [hU]; exact hPc, va_K.moved hW.alike hKc, hDc.weaken (fun _ _ _ _ => trivial)⟩⟩ rfl rfl hl.1 rfl (lv_room (Nat.le_of_ble_eq_true rfl)) dX10_response_9 ⟨(Nat.le_of_ble_eq_true rfl), (Nat.le_of_ble_eq_true rfl)⟩) hS (fun q _ h => hFc q h) hFc (fun u r_1850 t H1 locs ht hvm hw hB hz1 hk1 hS => ?_)
  obtain ⟨hra, hP1, hK1, hD1⟩ := hB
  rw [ht] at hP1
  have hsz : s.heap.size + 0 ≤ H1.size := by omega
  have hK1 := va_K.moved hvm.symm hK1
  obtain ⟨hP, hD⟩ := va_join (wr := [(h0, .inr (15, [.ref a, v1, v2, v3, v4, v5])), (s2, .inr (14, [.ref ml, u1, u2, u3, u4, u5])), (ml, .inr (4, [.int k0, .ref eml, .int 1])), (eml, .inl (cel, 10, .inr (.inr (.inr (.inr (va_up (fun _ => none) 0 (some mr))))))), (mr, .inl (cmr, 4, .inl (upd (upd (upd (upd (fun _ => 0) 0 1) 1 1) 2 0) 3 0))), (q_1849, .inr (12, [.null, .null, .null, .int 0]))]) (w1 := [(a, .inr (4, [.int m0, .ref ea, .int 1])), (ea, .inl (ce, 10, .inr (.inr (.inr (.inr (va_up (fun _ => none) 0 (some s2)))))))]) hP hD [1, 2] [0, 3, 4, 5, 6, 7] rfl rfl (by decide) (by decide) hk1 hFc hP1 hD1
  have hK := (hK.sub (tys' := [(cel, .object "java/lang/Object"), (cmr, .int)]) [1, 2] rfl).app hK1
  generalize H1 = H at hP hS hsz ⊢
  have hP : va_P (dC, dI) vwCl [(h0, .inr (15, [.ref a, v1, v2, v3, v4, v5])), (s2, .inr (14, [.ref ml, u1, u2, u3, u4, u5])), (ml, .inr (4, [.int k0, .ref eml, .int 1])), (eml, .inl (cel, 10, .inr (.inr (.inr (.inr (va_up (fun _ => none) 0 (some mr))))))), (mr, .inl (cmr, 4, .inl (upd (upd (upd (upd (fun _ => 0) 0 1) 1 1) 2 0) 3 0))), (q_1849, .inr (12, [.null, .null, .null, .int 0])), (a, .inr (4, [.int m0, .ref ea, .int 1])), (ea, .inl (ce, 10, .inr (.inr (.inr (.inr (va_up (fun _ => none) 0 (some s2)))))))] H := hP
  have hD : va_D A [(h0, .inr (15, [.ref a, v1, v2, v3, v4, v5])), (s2, .inr (14, [.ref ml, u1, u2, u3, u4, u5])), (ml, .inr (4, [.int k0, .ref eml, .int 1])), (eml, .inl (cel, 10, .inr (.inr (.inr (.inr (va_up (fun _ => none) 0 (some mr))))))), (mr, .inl (cmr, 4, .inl (upd (upd (upd (upd (fun _ => 0) 0 1) 1 1) 2 0) 3 0))), (q_1849, .inr (12, [.null, .null, .null, .int 0])), (a, .inr (4, [.int m0, .ref ea, .int 1])), (ea, .inl (ce, 10, .inr (.inr (.inr (.inr (va_up (fun _ => none) 0 (some s2)))))))] := hD
  have hK : va_K (dC, dI) vwCl [(cel, .object "java/lang/Object"), (cmr, .int), (ce, .object "java/lang/Object")] s := hK
  refine W.widen (k := 1) (n := 4) (Nat.le_of_ble_eq_true rfl) (Nat.le_of_ble_eq_true rfl) ?_
  replace hra := hra.symm; subst hra
  refine va_castS (nm := "ShakerhallModel$Structure") hx hb hown (hts _ q1257) (hK.1 14 _ rfl).2 (va_recv hK hP (ci := 14) (q0 := 1) rfl rfl) dX10_response_12 ?_
  have hPc := hP.sub (ws' := [(q_1849, .inr (12, [.null, .null, .null, .int 0])), (s2, .inr (14, [.ref ml, u1, u2, u3, u4, u5])), (ml, .inr (4, [.int k0, .ref eml, .int 1]))]) [5, 1, 2] rfl
  have hDc := hD.sub (ws' := [(q_1849, .inr (12, [.null, .null, .null, .int 0])), (s2, .inr (14, [.ref ml, u1, u2, u3, u4, u5])), (ml, .inr (4, [.int k0, .ref eml, .int 1]))]) [5, 1, 2] (by decide) rfl
  have hKc := hK.sub (tys' := []) [] rfl
  have hFc := va_free (wc := [(q_1849, .inr (12, [.null, .null, .null, .int 0])), (s2, .inr (14, [.ref ml, u1, u2, u3, u4, u5])), (ml, .inr (4, [.int k0, .ref eml, .int 1]))]) hD hS hA [5, 1, 2] rfl
  refine va_callv (va_runI (As := [.ref s2]) (rest := [.ref q_1849]) ⟨hx, hb, hml, hown, hts⟩ (q_motionInit l dC dI H.size q_1849 s2 ml eml u1 u2 u3 u4 u5 k0) (cwI 1 hts (pw_c q1339) rfl rfl rfl (hts _ q64) (hts _ q1337) (hts _ q1338) rfl (by decide +kernel) ⟨(Nat.le_of_ble_eq_true rfl), (Nat.le_of_ble_eq_true rfl)⟩) ⟨fun a U g mk q => by obtain ⟨q0, q1, qP, qK, qD, qR⟩ := q; exact ⟨q0, q1, qP, va_K.moved (u := U) (U := U.calling g mk a) (Vm.Alike.refl U.vm) qK, qD, qR.same rfl⟩, fun U hU hW => ⟨rfl, by rw [hU], by rw [hU]; exact hPc, va_K.moved hW.alike hKc, hDc.weaken (fun _ _ _ _ => trivial), hR.warm hW⟩⟩ rfl rfl hl.1 rfl (lv_room (Nat.le_of_ble_eq_true rfl)) dX10_response_15 ⟨(Nat.le_of_ble_eq_true rfl), (Nat.le_of_ble_eq_true rfl)⟩) hS (fun q _ h => hFc q h) hFc (fun u t H1 locs ht hvm hw hB hz1 hk1 hS => ?_)
  obtain ⟨mp_1852, ms_1853, cmp_1854, cms_1855, hP1, hK1, hD1⟩ := hB
  rw [ht] at hP1
  have hsz : s.heap.size + 0 ≤ H1.size := by omega
  have hK1 := va_K.moved hvm.symm hK1
  obtain ⟨hP, hD⟩ := va_join (wr := [(h0, .inr (15, [.ref a, v1, v2, v3, v4, v5])), (eml, .inl (cel, 10, .inr (.inr (.inr (.inr (va_up (fun _ => none) 0 (some mr))))))), (mr, .inl (cmr, 4, .inl (upd (upd (upd (upd (fun _ => 0) 0 1) 1 1) 2 0) 3 0))), (a, .inr (4, [.int m0, .ref ea, .int 1])), (ea, .inl (ce, 10, .inr (.inr (.inr (.inr (va_up (fun _ => none) 0 (some s2)))))))]) (w1 := [(q_1849, .inr (12, [.ref s2, .ref mp_1852, .ref ms_1853, .int 0])), (mp_1852, .inl (cmp_1854, 1, .inl (fun _ => 0))), (ms_1853, .inl (cms_1855, 1, .inl (fun _ => 0))), (s2, .inr (14, [.ref ml, u1, u2, u3, u4, u5])), (ml, .inr (4, [.int k0, .ref eml, .int 1]))]) hP hD [5, 1, 2] [0, 3, 4, 6, 7] rfl rfl (by decide) (by decide) hk1 hFc hP1 hD1
  have hK := (hK.sub (tys' := [(cel, .object "java/lang/Object"), (cmr, .int), (ce, .object "java/lang/Object")]) [0, 1, 2] rfl).app hK1
  generalize H1 = H at hP hS hsz ⊢
  have hP : va_P (dC, dI) vwCl [(h0, .inr (15, [.ref a, v1, v2, v3, v4, v5])), (eml, .inl (cel, 10, .inr (.inr (.inr (.inr (va_up (fun _ => none) 0 (some mr))))))), (mr, .inl (cmr, 4, .inl (upd (upd (upd (upd (fun _ => 0) 0 1) 1 1) 2 0) 3 0))), (a, .inr (4, [.int m0, .ref ea, .int 1])), (ea, .inl (ce, 10, .inr (.inr (.inr (.inr (va_up (fun _ => none) 0 (some s2))))))), (q_1849, .inr (12, [.ref s2, .ref mp_1852, .ref ms_1853, .int 0])), (mp_1852, .inl (cmp_1854, 1, .inl (fun _ => 0))), (ms_1853, .inl (cms_1855, 1, .inl (fun _ => 0))), (s2, .inr (14, [.ref ml, u1, u2, u3, u4, u5])), (ml, .inr (4, [.int k0, .ref eml, .int 1]))] H := hP
  have hD : va_D A [(h0, .inr (15, [.ref a, v1, v2, v3, v4, v5])), (eml, .inl (cel, 10, .inr (.inr (.inr (.inr (va_up (fun _ => none) 0 (some mr))))))), (mr, .inl (cmr, 4, .inl (upd (upd (upd (upd (fun _ => 0) 0 1) 1 1) 2 0) 3 0))), (a, .inr (4, [.int m0, .ref ea, .int 1])), (ea, .inl (ce, 10, .inr (.inr (.inr (.inr (va_up (fun _ => none) 0 (some s2))))))), (q_1849, .inr (12, [.ref s2, .ref mp_1852, .ref ms_1853, .int 0])), (mp_1852, .inl (cmp_1854, 1, .inl (fun _ => 0))), (ms_1853, .inl (cms_1855, 1, .inl (fun _ => 0))), (s2, .inr (14, [.ref ml, u1, u2, u3, u4, u5])), (ml, .inr (4, [.int k0, .ref eml, .int 1]))] := hD
  have hK : va_K (dC, dI) vwCl [(cel, .object "java/lang/Object"), (cmr, .int), (ce, .object "java/lang/Object"), (cmp_1854, .int), (cms_1855, .int)] s := hK
  refine W.widen (k := 3) (n := 6) (Nat.le_of_ble_eq_true rfl) (Nat.le_of_ble_eq_true rfl) ?_
  refine lv_astore (lv' := [(4, .ref q_1849), (0, .ref h0), (1, .int 0), (2, .int 0), (3, .int p0)]) hx hb dX10_response_18 hl (by decide) rfl (fun ls hl => ?_)
  refine lv_iconst (v := 0) hx hb dX10_response_20 (by decide) ?_
  refine lv_istore (lv' := [(5, .int 0), (4, .ref q_1849), (0, .ref h0), (1, .int 0), (2, .int 0), (3, .int p0)]) hx hb dX10_response_21 hl (by decide) rfl (fun ls hl => ?_)
  refine lv_iconst (v := 0) hx hb dX10_response_23 (by decide) ?_
  refine lv_istore (lv' := [(6, .int 0), (5, .int 0), (4, .ref q_1849), (0, .ref h0), (1, .int 0), (2, .int 0), (3, .int p0)]) hx hb dX10_response_24 hl (by decide) rfl (fun ls hl => ?_)
  have loop26 : ∀ (n k : Nat), (0 ≤ k ∧ k + n = 256) → ∀ (vm : Int32) (tbk : Int32) (F_1856 : Nat → Int32) (F_1857 : Nat → Int32) (H : Heap) (locs : List Loc), va_K (dC, dI) vwCl [(cel, .object "java/lang/Object"), (cmr, .int), (ce, .object "java/lang/Object"), (cmp_1854, .int), (cms_1855, .int)] s → va_P (dC, dI) vwCl [(h0, .inr (15, [.ref a, v1, v2, v3, v4, v5])), (eml, .inl (cel, 10, .inr (.inr (.inr (.inr (va_up (fun _ => none) 0 (some mr))))))), (mr, .inl (cmr, 4, .inl (upd (upd (upd (upd (fun _ => 0) 0 1) 1 1) 2 0) 3 0))), (a, .inr (4, [.int m0, .ref ea, .int 1])), (ea, .inl (ce, 10, .inr (.inr (.inr (.inr (va_up (fun _ => none) 0 (some s2))))))), (q_1849, .inr (12, [.ref s2, .ref mp_1852, .ref ms_1853, .int tbk])), (mp_1852, .inl (cmp_1854, 1, .inl F_1856)), (ms_1853, .inl (cms_1855, 1, .inl F_1857)), (s2, .inr (14, [.ref ml, u1, u2, u3, u4, u5])), (ml, .inr (4, [.int k0, .ref eml, .int 1]))] H → va_D A [(h0, .inr (15, [.ref a, v1, v2, v3, v4, v5])), (eml, .inl (cel, 10, .inr (.inr (.inr (.inr (va_up (fun _ => none) 0 (some mr))))))), (mr, .inl (cmr, 4, .inl (upd (upd (upd (upd (fun _ => 0) 0 1) 1 1) 2 0) 3 0))), (a, .inr (4, [.int m0, .ref ea, .int 1])), (ea, .inl (ce, 10, .inr (.inr (.inr (.inr (va_up (fun _ => none) 0 (some s2))))))), (q_1849, .inr (12, [.ref s2, .ref mp_1852, .ref ms_1853, .int tbk])), (mp_1852, .inl (cmp_1854, 1, .inl F_1856)), (ms_1853, .inl (cms_1855, 1, .inl F_1857)), (s2, .inr (14, [.ref ml, u1, u2, u3, u4, u5])), (ml, .inr (4, [.int k0, .ref eml, .int 1]))] → va_S A s.heap H locs → s.heap.size + k ≤ H.size → ∀ (ls : Array Slot), lv_has ls 7 [(6, .int (nI k)), (5, .int vm), (4, .ref q_1849), (0, .ref h0), (1, .int 0), (2, .int 0), (3, .int p0)] → W p l e (headSpec (pw_ws yX10_response cX10_response 7 (some .int)) ({ frames := 6, cells := 259, slots := 262, locals := 137 } : Room)).room s m ([.ref h0, .int 0, .int 0, .int p0] : List Value).toArray below meth c H locs (3 + k) (6 + k) QQ (F0 m 26 ls []) := by
    intro n
    induction n with
    | zero =>
      intro k hk vm tbk F_1856 F_1857 H locs hK hP hD hS hsz ls hl
      have hkN : k = 256 := by omega
      refine lv_iload hx hb dX10_response_26 (lv_at hl 0 rfl) ?_
      refine lv_sipush (v := 256) hx hb dX10_response_28 (by decide) ?_
      refine lv_icmp_ge (tgt := 64) hx hb dX10_response_31 (by decide) (fun c_1858 => ?_) (fun c_1858 => absurd (by rw [hkN]; decide) c_1858)
      refine lv_iload hx hb dX10_response_64 (lv_at hl 1 rfl) ?_
      have hP9 := hP.sub (ws' := [(h0, .inr (15, [.ref a, v1, v2, v3, v4, v5])), (a, .inr (4, [.int m0, .ref ea, .int 1])), (ea, .inl (ce, 10, .inr (.inr (.inr (.inr (va_up (fun _ => none) 0 (some s2))))))), (s2, .inr (14, [.ref ml, u1, u2, u3, u4, u5])), (ml, .inr (4, [.int k0, .ref eml, .int 1])), (eml, .inl (cel, 10, .inr (.inr (.inr (.inr (va_up (fun _ => none) 0 (some mr))))))), (mr, .inl (cmr, 4, .inl (upd (upd (upd (upd (fun _ => 0) 0 1) 1 1) 2 0) 3 0)))]) [0, 3, 4, 8, 9, 1, 2] rfl
      have hD9 := hD.sub (ws' := [(h0, .inr (15, [.ref a, v1, v2, v3, v4, v5])), (a, .inr (4, [.int m0, .ref ea, .int 1])), (ea, .inl (ce, 10, .inr (.inr (.inr (.inr (va_up (fun _ => none) 0 (some s2))))))), (s2, .inr (14, [.ref ml, u1, u2, u3, u4, u5])), (ml, .inr (4, [.int k0, .ref eml, .int 1])), (eml, .inl (cel, 10, .inr (.inr (.inr (.inr (va_up (fun _ => none) 0 (some mr))))))), (mr, .inl (cmr, 4, .inl (upd (upd (upd (upd (fun _ => 0) 0 1) 1 1) 2 0) 3 0)))]) [0, 3, 4, 8, 9, 1, 2] (by decide) rfl
      have hK9 := hK.sub (tys' := [(ce, .object "java/lang/Object"), (cel, .object "java/lang/Object"), (cmr, .int)]) [2, 0, 1] rfl
      refine W.widen (k := 259) (n := 262) (by omega) (by omega) ?_
      subst hQQ
      exact W.iret (v := vm) hx hb hr (fun t ht hW => ⟨⟨vm, (), rfl, trivial, ⟨by rw [ht]; omega, by rw [ht]; exact hP9, va_K.moved hW.alike hK9, hD9⟩⟩, hS.F ht⟩) hS.2.2 dX10_response_66
    | succ n ih =>
      intro k hk vm tbk F_1856 F_1857 H locs hK hP hD hS hsz ls hl
      have hkN : k < 256 := by omega
      refine lv_iload hx hb dX10_response_26 (lv_at hl 0 rfl) ?_
      refine lv_sipush (v := 256) hx hb dX10_response_28 (by decide) ?_
      refine lv_icmp_ge (tgt := 64) hx hb dX10_response_31 (by decide) (fun c_1859 => absurd c_1859 (nI_ge (a := k) (b := 256) (by omega) (by decide))) (fun c_1859 => ?_)
      refine lv_aload hx hb dX10_response_34 (lv_at hl 2 rfl) ?_
      refine lv_iload hx hb dX10_response_36 (lv_at hl 0 rfl) ?_
      refine lv_iload_n hx hb dX10_response_38 rfl (lv_at hl 6 rfl) ?_
      have hPc := hP.sub (ws' := []) [] rfl
      have hDc := hD.sub (ws' := []) [] (by decide) rfl
      have hKc := hK.sub (tys' := []) [] rfl
      have hFc := va_free (wc := []) hD hS hA [] rfl
      refine va_calli (va_runS (As := [.int (nI k), .int p0]) (rest := [.ref q_1849]) ⟨hx, hb, hml, hown, hts⟩ (q_tone l dC dI H.size (nI k) p0 h1) (va_cwS 2 hts (pw_S q1357 q1358 q49 q1359) rfl rfl rfl (by decide +kernel) ⟨(Nat.le_of_ble_eq_true rfl), (Nat.le_of_ble_eq_true rfl)⟩) ⟨fun a U g mk q => by obtain ⟨q0, q1, qP, qK, qD⟩ := q; exact ⟨q0, q1, qP, va_K.moved (u := U) (U := U.calling g mk a) (Vm.Alike.refl U.vm) qK, qD⟩, fun U hU hW => ⟨rfl, by rw [hU], by rw [hU]; exact hPc, va_K.moved hW.alike hKc, hDc.weaken (fun _ _ _ _ => trivial)⟩⟩ rfl rfl hl.1 rfl (lv_room (Nat.le_of_ble_eq_true rfl)) dX10_response_39 ⟨(show 3 + k + 0 ≤ 259 by omega), (show 6 + k + 0 ≤ 262 by omega)⟩) hS (fun q _ h => hFc q h) hFc (fun r_1860 u t H1 locs ht hvm hw hB hz1 hk1 hS => ?_)
      obtain ⟨hP1, hK1, hD1⟩ := hB
      rw [ht] at hP1
      have hsz : s.heap.size + k ≤ H1.size := by omega
      have hK1 := va_K.moved hvm.symm hK1
      obtain ⟨hP, hD⟩ := va_join (wr := [(h0, .inr (15, [.ref a, v1, v2, v3, v4, v5])), (eml, .inl (cel, 10, .inr (.inr (.inr (.inr (va_up (fun _ => none) 0 (some mr))))))), (mr, .inl (cmr, 4, .inl (upd (upd (upd (upd (fun _ => 0) 0 1) 1 1) 2 0) 3 0))), (a, .inr (4, [.int m0, .ref ea, .int 1])), (ea, .inl (ce, 10, .inr (.inr (.inr (.inr (va_up (fun _ => none) 0 (some s2))))))), (q_1849, .inr (12, [.ref s2, .ref mp_1852, .ref ms_1853, .int tbk])), (mp_1852, .inl (cmp_1854, 1, .inl F_1856)), (ms_1853, .inl (cms_1855, 1, .inl F_1857)), (s2, .inr (14, [.ref ml, u1, u2, u3, u4, u5])), (ml, .inr (4, [.int k0, .ref eml, .int 1]))]) (w1 := []) hP hD [] [0, 1, 2, 3, 4, 5, 6, 7, 8, 9] rfl rfl (by decide) (by decide) hk1 hFc hP1 hD1
      have hK := (hK.sub (tys' := [(cel, .object "java/lang/Object"), (cmr, .int), (ce, .object "java/lang/Object"), (cmp_1854, .int), (cms_1855, .int)]) [0, 1, 2, 3, 4] rfl).app hK1
      generalize H1 = H at hP hS hsz ⊢
      have hP : va_P (dC, dI) vwCl [(h0, .inr (15, [.ref a, v1, v2, v3, v4, v5])), (eml, .inl (cel, 10, .inr (.inr (.inr (.inr (va_up (fun _ => none) 0 (some mr))))))), (mr, .inl (cmr, 4, .inl (upd (upd (upd (upd (fun _ => 0) 0 1) 1 1) 2 0) 3 0))), (a, .inr (4, [.int m0, .ref ea, .int 1])), (ea, .inl (ce, 10, .inr (.inr (.inr (.inr (va_up (fun _ => none) 0 (some s2))))))), (q_1849, .inr (12, [.ref s2, .ref mp_1852, .ref ms_1853, .int tbk])), (mp_1852, .inl (cmp_1854, 1, .inl F_1856)), (ms_1853, .inl (cms_1855, 1, .inl F_1857)), (s2, .inr (14, [.ref ml, u1, u2, u3, u4, u5])), (ml, .inr (4, [.int k0, .ref eml, .int 1]))] H := hP
      have hD : va_D A [(h0, .inr (15, [.ref a, v1, v2, v3, v4, v5])), (eml, .inl (cel, 10, .inr (.inr (.inr (.inr (va_up (fun _ => none) 0 (some mr))))))), (mr, .inl (cmr, 4, .inl (upd (upd (upd (upd (fun _ => 0) 0 1) 1 1) 2 0) 3 0))), (a, .inr (4, [.int m0, .ref ea, .int 1])), (ea, .inl (ce, 10, .inr (.inr (.inr (.inr (va_up (fun _ => none) 0 (some s2))))))), (q_1849, .inr (12, [.ref s2, .ref mp_1852, .ref ms_1853, .int tbk])), (mp_1852, .inl (cmp_1854, 1, .inl F_1856)), (ms_1853, .inl (cms_1855, 1, .inl F_1857)), (s2, .inr (14, [.ref ml, u1, u2, u3, u4, u5])), (ml, .inr (4, [.int k0, .ref eml, .int 1]))] := hD
      have hK : va_K (dC, dI) vwCl [(cel, .object "java/lang/Object"), (cmr, .int), (ce, .object "java/lang/Object"), (cmp_1854, .int), (cms_1855, .int)] s := hK
      have hPc := hP.sub (ws' := [(q_1849, .inr (12, [.ref s2, .ref mp_1852, .ref ms_1853, .int tbk])), (mp_1852, .inl (cmp_1854, 1, .inl F_1856)), (ms_1853, .inl (cms_1855, 1, .inl F_1857)), (s2, .inr (14, [.ref ml, u1, u2, u3, u4, u5])), (ml, .inr (4, [.int k0, .ref eml, .int 1])), (eml, .inl (cel, 10, .inr (.inr (.inr (.inr (va_up (fun _ => none) 0 (some mr))))))), (mr, .inl (cmr, 4, .inl (upd (upd (upd (upd (fun _ => 0) 0 1) 1 1) 2 0) 3 0)))]) [5, 6, 7, 8, 9, 1, 2] rfl
      have hDc := hD.sub (ws' := [(q_1849, .inr (12, [.ref s2, .ref mp_1852, .ref ms_1853, .int tbk])), (mp_1852, .inl (cmp_1854, 1, .inl F_1856)), (ms_1853, .inl (cms_1855, 1, .inl F_1857)), (s2, .inr (14, [.ref ml, u1, u2, u3, u4, u5])), (ml, .inr (4, [.int k0, .ref eml, .int 1])), (eml, .inl (cel, 10, .inr (.inr (.inr (.inr (va_up (fun _ => none) 0 (some mr))))))), (mr, .inl (cmr, 4, .inl (upd (upd (upd (upd (fun _ => 0) 0 1) 1 1) 2 0) 3 0)))]) [5, 6, 7, 8, 9, 1, 2] (by decide) rfl
      have hKc := hK.sub (tys' := [(cmp_1854, .int), (cms_1855, .int), (cel, .object "java/lang/Object"), (cmr, .int)]) [3, 4, 0, 1] rfl
      have hFc := va_free (wc := [(q_1849, .inr (12, [.ref s2, .ref mp_1852, .ref ms_1853, .int tbk])), (mp_1852, .inl (cmp_1854, 1, .inl F_1856)), (ms_1853, .inl (cms_1855, 1, .inl F_1857)), (s2, .inr (14, [.ref ml, u1, u2, u3, u4, u5])), (ml, .inr (4, [.int k0, .ref eml, .int 1])), (eml, .inl (cel, 10, .inr (.inr (.inr (.inr (va_up (fun _ => none) 0 (some mr))))))), (mr, .inl (cmr, 4, .inl (upd (upd (upd (upd (fun _ => 0) 0 1) 1 1) 2 0) 3 0)))]) hD hS hA [5, 6, 7, 8, 9, 1, 2] rfl
      refine va_callv (va_runV (As := [.int r_1860]) (rest := []) ⟨hx, hb, hml, hown, hts⟩ (q_moves l dC dI H.size q_1849 mp_1852 ms_1853 cmp_1854 cms_1855 s2 ml u1 u2 u3 u4 u5 eml mr cel cmr k0 F_1856 F_1857 tbk r_1860) (cwV 1 hts (pw_V q1360 q1361 q1362 q64 q1363) rfl rfl rfl (by decide +kernel) ⟨(Nat.le_of_ble_eq_true rfl), (Nat.le_of_ble_eq_true rfl)⟩) ⟨fun a U g mk q => by obtain ⟨q0, q1, qP, qK, qD, qR⟩ := q; exact ⟨q0, q1, qP, va_K.moved (u := U) (U := U.calling g mk a) (Vm.Alike.refl U.vm) qK, qD, qR.same rfl⟩, va_recv hKc hPc (ci := 12) (q0 := 0) rfl rfl, fun U hU hW => ⟨rfl, by rw [hU], by rw [hU]; exact hPc, va_K.moved hW.alike hKc, hDc.weaken (fun _ _ _ _ => trivial), hR.warm hW⟩⟩ rfl rfl hl.1 rfl (lv_room (Nat.le_of_ble_eq_true rfl)) dX10_response_42 ⟨(show (3 + k + 0) + 1 ≤ 259 by omega), (show (6 + k + 0) + 1 ≤ 262 by omega)⟩) hS (fun q _ h => hFc q h) hFc (fun u t H1 locs ht hvm hw hB hz1 hk1 hS => ?_)
      obtain ⟨gmp_1862, gms_1863, tb2_1864, hgr, hP1, hK1, hD1⟩ := hB
      rw [ht] at hP1 hgr
      have hsz : s.heap.size + (k + 1) ≤ H1.size := by omega
      have hK1 := va_K.moved hvm.symm hK1
      obtain ⟨hP, hD⟩ := va_join (wr := [(h0, .inr (15, [.ref a, v1, v2, v3, v4, v5])), (a, .inr (4, [.int m0, .ref ea, .int 1])), (ea, .inl (ce, 10, .inr (.inr (.inr (.inr (va_up (fun _ => none) 0 (some s2)))))))]) (w1 := [(q_1849, .inr (12, [.ref s2, .ref mp_1852, .ref ms_1853, .int tb2_1864])), (mp_1852, .inl (cmp_1854, 1, .inl gmp_1862)), (ms_1853, .inl (cms_1855, 1, .inl gms_1863)), (s2, .inr (14, [.ref ml, u1, u2, u3, u4, u5])), (ml, .inr (4, [.int k0, .ref eml, .int 1])), (eml, .inl (cel, 10, .inr (.inr (.inr (.inr (va_up (fun _ => none) 0 (some mr))))))), (mr, .inl (cmr, 4, .inl (upd (upd (upd (upd (fun _ => 0) 0 1) 1 1) 2 0) 3 0)))]) hP hD [5, 6, 7, 8, 9, 1, 2] [0, 3, 4] rfl rfl (by decide) (by decide) hk1 hFc hP1 hD1
      have hK := (hK.sub (tys' := [(ce, .object "java/lang/Object")]) [2] rfl).app hK1
      generalize H1 = H at hP hS hsz ⊢
      have hP : va_P (dC, dI) vwCl [(h0, .inr (15, [.ref a, v1, v2, v3, v4, v5])), (a, .inr (4, [.int m0, .ref ea, .int 1])), (ea, .inl (ce, 10, .inr (.inr (.inr (.inr (va_up (fun _ => none) 0 (some s2))))))), (q_1849, .inr (12, [.ref s2, .ref mp_1852, .ref ms_1853, .int tb2_1864])), (mp_1852, .inl (cmp_1854, 1, .inl gmp_1862)), (ms_1853, .inl (cms_1855, 1, .inl gms_1863)), (s2, .inr (14, [.ref ml, u1, u2, u3, u4, u5])), (ml, .inr (4, [.int k0, .ref eml, .int 1])), (eml, .inl (cel, 10, .inr (.inr (.inr (.inr (va_up (fun _ => none) 0 (some mr))))))), (mr, .inl (cmr, 4, .inl (upd (upd (upd (upd (fun _ => 0) 0 1) 1 1) 2 0) 3 0)))] H := hP
      have hD : va_D A [(h0, .inr (15, [.ref a, v1, v2, v3, v4, v5])), (a, .inr (4, [.int m0, .ref ea, .int 1])), (ea, .inl (ce, 10, .inr (.inr (.inr (.inr (va_up (fun _ => none) 0 (some s2))))))), (q_1849, .inr (12, [.ref s2, .ref mp_1852, .ref ms_1853, .int tb2_1864])), (mp_1852, .inl (cmp_1854, 1, .inl gmp_1862)), (ms_1853, .inl (cms_1855, 1, .inl gms_1863)), (s2, .inr (14, [.ref ml, u1, u2, u3, u4, u5])), (ml, .inr (4, [.int k0, .ref eml, .int 1])), (eml, .inl (cel, 10, .inr (.inr (.inr (.inr (va_up (fun _ => none) 0 (some mr))))))), (mr, .inl (cmr, 4, .inl (upd (upd (upd (upd (fun _ => 0) 0 1) 1 1) 2 0) 3 0)))] := hD
      have hK : va_K (dC, dI) vwCl [(ce, .object "java/lang/Object"), (cmp_1854, .int), (cms_1855, .int), (cel, .object "java/lang/Object"), (cmr, .int)] s := hK
      refine lv_iload hx hb dX10_response_45 (lv_at hl 1 rfl) ?_
      refine lv_aload hx hb dX10_response_47 (lv_at hl 2 rfl) ?_
      refine lv_iload_n hx hb dX10_response_49 rfl (lv_at hl 5 rfl) ?_
      have hPc := hP.sub (ws' := [(q_1849, .inr (12, [.ref s2, .ref mp_1852, .ref ms_1853, .int tb2_1864])), (mp_1852, .inl (cmp_1854, 1, .inl gmp_1862)), (ms_1853, .inl (cms_1855, 1, .inl gms_1863))]) [3, 4, 5] rfl
      have hDc := hD.sub (ws' := [(q_1849, .inr (12, [.ref s2, .ref mp_1852, .ref ms_1853, .int tb2_1864])), (mp_1852, .inl (cmp_1854, 1, .inl gmp_1862)), (ms_1853, .inl (cms_1855, 1, .inl gms_1863))]) [3, 4, 5] (by decide) rfl
      have hKc := hK.sub (tys' := [(cmp_1854, .int), (cms_1855, .int)]) [1, 2] rfl
      have hFc := va_free (wc := [(q_1849, .inr (12, [.ref s2, .ref mp_1852, .ref ms_1853, .int tb2_1864])), (mp_1852, .inl (cmp_1854, 1, .inl gmp_1862)), (ms_1853, .inl (cms_1855, 1, .inl gms_1863))]) hD hS hA [3, 4, 5] rfl
      refine va_calli (va_runV (As := [.int 0]) (rest := [.int vm]) ⟨hx, hb, hml, hown, hts⟩ (q_away l dC dI H.size q_1849 mp_1852 ms_1853 cmp_1854 cms_1855 s2 gmp_1862 gms_1863 tb2_1864) (cwV 1 hts (pw_V q1375 q1376 q1377 q64 q1378) rfl rfl rfl (by decide +kernel) ⟨(Nat.le_of_ble_eq_true rfl), (Nat.le_of_ble_eq_true rfl)⟩) ⟨fun a U g mk q => by obtain ⟨q0, q1, qP, qK, qD⟩ := q; exact ⟨q0, q1, qP, va_K.moved (u := U) (U := U.calling g mk a) (Vm.Alike.refl U.vm) qK, qD⟩, va_recv hKc hPc (ci := 12) (q0 := 0) rfl rfl, fun U hU hW => ⟨rfl, by rw [hU], by rw [hU]; exact hPc, va_K.moved hW.alike hKc, hDc.weaken (fun _ _ _ _ => trivial)⟩⟩ rfl rfl hl.1 rfl (lv_room (Nat.le_of_ble_eq_true rfl)) dX10_response_50 ⟨(show ((3 + k + 0) + 1) + 0 ≤ 259 by omega), (show ((6 + k + 0) + 1) + 0 ≤ 262 by omega)⟩) hS (fun q _ h => hFc q h) hFc (fun r_1865 u t H1 locs ht hvm hw hB hz1 hk1 hS => ?_)
      obtain ⟨hP1, hK1, hD1⟩ := hB
      rw [ht] at hP1
      have hsz : s.heap.size + (k + 1) ≤ H1.size := by omega
      have hK1 := va_K.moved hvm.symm hK1
      obtain ⟨hP, hD⟩ := va_join (wr := [(h0, .inr (15, [.ref a, v1, v2, v3, v4, v5])), (a, .inr (4, [.int m0, .ref ea, .int 1])), (ea, .inl (ce, 10, .inr (.inr (.inr (.inr (va_up (fun _ => none) 0 (some s2))))))), (s2, .inr (14, [.ref ml, u1, u2, u3, u4, u5])), (ml, .inr (4, [.int k0, .ref eml, .int 1])), (eml, .inl (cel, 10, .inr (.inr (.inr (.inr (va_up (fun _ => none) 0 (some mr))))))), (mr, .inl (cmr, 4, .inl (upd (upd (upd (upd (fun _ => 0) 0 1) 1 1) 2 0) 3 0)))]) (w1 := [(q_1849, .inr (12, [.ref s2, .ref mp_1852, .ref ms_1853, .int tb2_1864])), (mp_1852, .inl (cmp_1854, 1, .inl gmp_1862)), (ms_1853, .inl (cms_1855, 1, .inl gms_1863))]) hP hD [3, 4, 5] [0, 1, 2, 6, 7, 8, 9] rfl rfl (by decide) (by decide) hk1 hFc hP1 hD1
      have hK := (hK.sub (tys' := [(ce, .object "java/lang/Object"), (cel, .object "java/lang/Object"), (cmr, .int)]) [0, 3, 4] rfl).app hK1
      generalize H1 = H at hP hS hsz ⊢
      have hP : va_P (dC, dI) vwCl [(h0, .inr (15, [.ref a, v1, v2, v3, v4, v5])), (a, .inr (4, [.int m0, .ref ea, .int 1])), (ea, .inl (ce, 10, .inr (.inr (.inr (.inr (va_up (fun _ => none) 0 (some s2))))))), (s2, .inr (14, [.ref ml, u1, u2, u3, u4, u5])), (ml, .inr (4, [.int k0, .ref eml, .int 1])), (eml, .inl (cel, 10, .inr (.inr (.inr (.inr (va_up (fun _ => none) 0 (some mr))))))), (mr, .inl (cmr, 4, .inl (upd (upd (upd (upd (fun _ => 0) 0 1) 1 1) 2 0) 3 0))), (q_1849, .inr (12, [.ref s2, .ref mp_1852, .ref ms_1853, .int tb2_1864])), (mp_1852, .inl (cmp_1854, 1, .inl gmp_1862)), (ms_1853, .inl (cms_1855, 1, .inl gms_1863))] H := hP
      have hD : va_D A [(h0, .inr (15, [.ref a, v1, v2, v3, v4, v5])), (a, .inr (4, [.int m0, .ref ea, .int 1])), (ea, .inl (ce, 10, .inr (.inr (.inr (.inr (va_up (fun _ => none) 0 (some s2))))))), (s2, .inr (14, [.ref ml, u1, u2, u3, u4, u5])), (ml, .inr (4, [.int k0, .ref eml, .int 1])), (eml, .inl (cel, 10, .inr (.inr (.inr (.inr (va_up (fun _ => none) 0 (some mr))))))), (mr, .inl (cmr, 4, .inl (upd (upd (upd (upd (fun _ => 0) 0 1) 1 1) 2 0) 3 0))), (q_1849, .inr (12, [.ref s2, .ref mp_1852, .ref ms_1853, .int tb2_1864])), (mp_1852, .inl (cmp_1854, 1, .inl gmp_1862)), (ms_1853, .inl (cms_1855, 1, .inl gms_1863))] := hD
      have hK : va_K (dC, dI) vwCl [(ce, .object "java/lang/Object"), (cel, .object "java/lang/Object"), (cmr, .int), (cmp_1854, .int), (cms_1855, .int)] s := hK
      refine va_mmax hx hb (hml.trans hl.1.symm) hown (hts _ q1380) (hts _ q451) (hts _ q56) (hts _ q452) (Nat.le_of_ble_eq_true rfl) (Nat.le_of_ble_eq_true rfl) (show (((3 + k + 0) + 1) + 0) + 0 ≤ 259 by omega) (show (((6 + k + 0) + 1) + 0) + 0 ≤ 262 by omega) dX10_response_53 ?_
      refine lv_topi (fun x_1866 ex_1866 => ?_)
      refine lv_istore (lv' := [(5, .int x_1866), (6, .int (nI k)), (4, .ref q_1849), (0, .ref h0), (1, .int 0), (2, .int 0), (3, .int p0)]) hx hb dX10_response_56 hl (by decide) rfl (fun ls hl => ?_)
      refine lv_iinc (v := (nI (k + 1))) (lv' := [(6, .int (nI (k + 1))), (5, .int x_1866), (4, .ref q_1849), (0, .ref h0), (1, .int 0), (2, .int 0), (3, .int p0)]) hx hb dX10_response_58 hl (k := 1) rfl (by rw [show Int32.ofInt 1 = 1 from by decide]; exact nI_1 _) (by decide) rfl (fun ls hl => ?_)
      refine lv_goto (tgt := 26) hx hb dX10_response_61 (by decide) ?_
      refine W.widen (k := 3 + (k + 1)) (n := 6 + (k + 1)) (by omega) (by omega) ?_
      exact ih (k + 1) (by omega) x_1866 tb2_1864 gmp_1862 gms_1863 _ _ (hK.sub [1, 2, 0, 3, 4] rfl) (hP.sub [0, 5, 6, 1, 2, 7, 8, 9, 3, 4] rfl) (hD.sub [0, 5, 6, 1, 2, 7, 8, 9, 3, 4] (by decide) rfl) hS (by omega) _ (lv_sub hl [0, 1, 2, 3, 4, 5, 6] rfl)
  exact loop26 256 0 (by decide) 0 0 (fun _ => 0) (fun _ => 0) _ _ (hK.sub [0, 1, 2, 3, 4] rfl) (hP.sub [0, 1, 2, 3, 4, 5, 6, 7, 8, 9] rfl) (hD.sub [0, 1, 2, 3, 4, 5, 6, 7, 8, 9] (by decide) rfl) hS (by omega) _ (lv_sub hl [0, 1, 2, 3, 4, 5, 6] rfl)
set_option maxHeartbeats 4000000 in
set_option maxRecDepth 100000 in
theorem q_lastResponse (l : Launch) (dC : Nat → ClassId) (dI : Nat → Nat → Nat) (sz : Nat) (h0 : Nat) (a : Nat) (ea : Nat) (s2 : Nat) (ml : Nat) (ce : ClassId) (m0 : Int32) (u1 : Value) (u2 : Value) (u3 : Value) (u4 : Value) (u5 : Value) (v1 : Value) (v2 : Value) (v3 : Value) (v4 : Value) (v5 : Value) (eml : Nat) (mr : Nat) (cel : ClassId) (cmr : ClassId) (k0 : Int32) (p0 : Int32) (h1 : ¬ p0 = 0) : Met l yX10_lastResponse (pw_ws yX10_lastResponse cX10_lastResponse 3 (some .int)) ({ frames := 7, cells := 259, slots := 262, locals := 163 } : Room) (va_Pc [.ref h0, .int 0, .int p0] (fun U => U.heap.size = sz ∧ va_P (dC, dI) vwCl [(h0, .inr (15, [.ref a, v1, v2, v3, v4, v5])), (a, .inr (4, [.int m0, .ref ea, .int 1])), (ea, .inl (ce, 10, .inr (.inr (.inr (.inr (va_up (fun _ => none) 0 (some s2))))))), (s2, .inr (14, [.ref ml, u1, u2, u3, u4, u5])), (ml, .inr (4, [.int k0, .ref eml, .int 1])), (eml, .inl (cel, 10, .inr (.inr (.inr (.inr (va_up (fun _ => none) 0 (some mr))))))), (mr, .inl (cmr, 4, .inl (upd (upd (upd (upd (fun _ => 0) 0 1) 1 1) 2 0) 3 0)))] U.heap ∧ va_K (dC, dI) vwCl [(ce, .object "java/lang/Object"), (cel, .object "java/lang/Object"), (cmr, .int)] U ∧ va_D (fun _ => True) [(h0, .inr (15, [.ref a, v1, v2, v3, v4, v5])), (a, .inr (4, [.int m0, .ref ea, .int 1])), (ea, .inl (ce, 10, .inr (.inr (.inr (.inr (va_up (fun _ => none) 0 (some s2))))))), (s2, .inr (14, [.ref ml, u1, u2, u3, u4, u5])), (ml, .inr (4, [.int k0, .ref eml, .int 1])), (eml, .inl (cel, 10, .inr (.inr (.inr (.inr (va_up (fun _ => none) 0 (some mr))))))), (mr, .inl (cmr, 4, .inl (upd (upd (upd (upd (fun _ => 0) 0 1) 1 1) 2 0) 3 0)))] ∧ pr U)) (va_Qi (fun (_ : Int32) (_ : Unit) => True) (fun (_ : Unit) (t : State) => sz + 256 ≤ t.heap.size ∧ va_P (dC, dI) vwCl [(h0, .inr (15, [.ref a, v1, v2, v3, v4, v5])), (a, .inr (4, [.int m0, .ref ea, .int 1])), (ea, .inl (ce, 10, .inr (.inr (.inr (.inr (va_up (fun _ => none) 0 (some s2))))))), (s2, .inr (14, [.ref ml, u1, u2, u3, u4, u5])), (ml, .inr (4, [.int k0, .ref eml, .int 1])), (eml, .inl (cel, 10, .inr (.inr (.inr (.inr (va_up (fun _ => none) 0 (some mr))))))), (mr, .inl (cmr, 4, .inl (upd (upd (upd (upd (fun _ => 0) 0 1) 1 1) 2 0) 3 0)))] t.heap ∧ va_K (dC, dI) vwCl [(ce, .object "java/lang/Object"), (cel, .object "java/lang/Object"), (cmr, .int)] t ∧ va_D (va_A [(h0, .inr (15, [.ref a, v1, v2, v3, v4, v5])), (a, .inr (4, [.int m0, .ref ea, .int 1])), (ea, .inl (ce, 10, .inr (.inr (.inr (.inr (va_up (fun _ => none) 0 (some s2))))))), (s2, .inr (14, [.ref ml, u1, u2, u3, u4, u5])), (ml, .inr (4, [.int k0, .ref eml, .int 1])), (eml, .inl (cel, 10, .inr (.inr (.inr (.inr (va_up (fun _ => none) 0 (some mr))))))), (mr, .inl (cmr, 4, .inl (upd (upd (upd (upd (fun _ => 0) 0 1) 1 1) 2 0) 3 0)))] sz) [(h0, .inr (15, [.ref a, v1, v2, v3, v4, v5])), (a, .inr (4, [.int m0, .ref ea, .int 1])), (ea, .inl (ce, 10, .inr (.inr (.inr (.inr (va_up (fun _ => none) 0 (some s2))))))), (s2, .inr (14, [.ref ml, u1, u2, u3, u4, u5])), (ml, .inr (4, [.int k0, .ref eml, .int 1])), (eml, .inl (cel, 10, .inr (.inr (.inr (.inr (va_up (fun _ => none) 0 (some mr))))))), (mr, .inl (cmr, 4, .inl (upd (upd (upd (upd (fun _ => 0) 0 1) 1 1) 2 0) 3 0)))]) (va_A [(h0, .inr (15, [.ref a, v1, v2, v3, v4, v5])), (a, .inr (4, [.int m0, .ref ea, .int 1])), (ea, .inl (ce, 10, .inr (.inr (.inr (.inr (va_up (fun _ => none) 0 (some s2))))))), (s2, .inr (14, [.ref ml, u1, u2, u3, u4, u5])), (ml, .inr (4, [.int k0, .ref eml, .int 1])), (eml, .inl (cel, 10, .inr (.inr (.inr (.inr (va_up (fun _ => none) 0 (some mr))))))), (mr, .inl (cmr, 4, .inl (upd (upd (upd (upd (fun _ => 0) 0 1) 1 1) 2 0) 3 0)))] sz)) 259 262 (va_A [(h0, .inr (15, [.ref a, v1, v2, v3, v4, v5])), (a, .inr (4, [.int m0, .ref ea, .int 1])), (ea, .inl (ce, 10, .inr (.inr (.inr (.inr (va_up (fun _ => none) 0 (some s2))))))), (s2, .inr (14, [.ref ml, u1, u2, u3, u4, u5])), (ml, .inr (4, [.int k0, .ref eml, .int 1])), (eml, .inl (cel, 10, .inr (.inr (.inr (.inr (va_up (fun _ => none) 0 (some mr))))))), (mr, .inl (cmr, 4, .inl (upd (upd (upd (upd (fun _ => 0) 0 1) 1 1) 2 0) 3 0)))] sz) := by
  refine Met.ofW (cc := cX10_lastResponse) (maxL := 3) (ret := (some .int)) (by decide) rfl ?_
  intro p e s m args below meth c s₁ B hml hv
  obtain ⟨rfl, hsz, hP, hK, hD0, hR⟩ := hv
  have hx := B.exec
  have hb := B.bytes
  have hr := B.returns
  have hts0 := atoms_spec (ws := (pw_ws yX10_lastResponse cX10_lastResponse 3 (some .int))) B.pre
  have hts : ∀ w ∈ pw_all, w.before _ s = true := fun w h => hts0 w (List.mem_cons_of_mem _ h)
  have hown : s.vm.findClass RX10 = some m.cls := findClass_of_methodNamed B.named
  have hlocks := B.notSynchronized
  subst hsz
  have hD := hD0.self (sz := s.heap.size)
  generalize hAe : va_A [(h0, .inr (15, [.ref a, v1, v2, v3, v4, v5])), (a, .inr (4, [.int m0, .ref ea, .int 1])), (ea, .inl (ce, 10, .inr (.inr (.inr (.inr (va_up (fun _ => none) 0 (some s2))))))), (s2, .inr (14, [.ref ml, u1, u2, u3, u4, u5])), (ml, .inr (4, [.int k0, .ref eml, .int 1])), (eml, .inl (cel, 10, .inr (.inr (.inr (.inr (va_up (fun _ => none) 0 (some mr))))))), (mr, .inl (cmr, 4, .inl (upd (upd (upd (upd (fun _ => 0) 0 1) 1 1) 2 0) 3 0)))] s.heap.size = A at hD ⊢
  have hA : ∀ q : Nat, s.heap.size ≤ q → A q := fun q h => by rw [← hAe]; exact Or.inr h
  have hS : va_S A s.heap s.heap [] := va_S.rf
  have hP : va_P (dC, dI) vwCl [(h0, .inr (15, [.ref a, v1, v2, v3, v4, v5])), (a, .inr (4, [.int m0, .ref ea, .int 1])), (ea, .inl (ce, 10, .inr (.inr (.inr (.inr (va_up (fun _ => none) 0 (some s2))))))), (s2, .inr (14, [.ref ml, u1, u2, u3, u4, u5])), (ml, .inr (4, [.int k0, .ref eml, .int 1])), (eml, .inl (cel, 10, .inr (.inr (.inr (.inr (va_up (fun _ => none) 0 (some mr))))))), (mr, .inl (cmr, 4, .inl (upd (upd (upd (upd (fun _ => 0) 0 1) 1 1) 2 0) 3 0)))] s.heap := hP
  have hl := lv_entry ([.ref h0, .int 0, .int p0]) (n := 3) (Nat.le_of_ble_eq_true rfl)
  rw [lg_entry_eq]
  generalize (lg_sl ([.ref h0, .int 0, .int p0]) ++ List.replicate (3 - (lg_sl ([.ref h0, .int 0, .int p0])).length) Slot.unset).toArray = ls at hl ⊢
  have hl : lv_has ls 3 [(0, .ref h0), (1, .int 0), (2, .int p0)] := hl
  skip
  have hsz : s.heap.size + 0 ≤ s.heap.size := Nat.le_refl _
  refine lv_aload_n hx hb dX10_lastResponse_0 rfl (lv_at hl 0 rfl) ?_
  refine lv_iload_n hx hb dX10_lastResponse_1 rfl (lv_at hl 1 rfl) ?_
  refine lv_aload_n hx hb dX10_lastResponse_2 rfl (lv_at hl 0 rfl) ?_
  refine va_get (D := (dC, dI)) (ci := 15) (v := .ref a) (C := RX10) (T := TX10) (N := 6) hx hb hts inX10 hown hK hP 0 rfl rfl 0 (by decide) (hts _ q1225) (fun _ h9 => h9) rfl dX10_lastResponse_3 ?_
  refine lv_iload_n hx hb dX10_lastResponse_6 rfl (lv_at hl 1 rfl) ?_
  have hPc := hP.sub (ws' := [(a, .inr (4, [.int m0, .ref ea, .int 1])), (ea, .inl (ce, 10, .inr (.inr (.inr (.inr (va_up (fun _ => none) 0 (some s2)))))))]) [1, 2] rfl
  have hDc := hD.sub (ws' := [(a, .inr (4, [.int m0, .ref ea, .int 1])), (ea, .inl (ce, 10, .inr (.inr (.inr (.inr (va_up (fun _ => none) 0 (some s2)))))))]) [1, 2] (by decide) rfl
  have hKc := hK.sub (tys' := [(ce, .object "java/lang/Object")]) [0] rfl
  have hFc := va_free (wc := [(a, .inr (4, [.int m0, .ref ea, .int 1])), (ea, .inl (ce, 10, .inr (.inr (.inr (.inr (va_up (fun _ => none) 0 (some s2)))))))]) hD hS hA [1, 2] rfl
  refine va_callr (va_runV (As := [.int 0]) (rest := [.int 0, .ref h0]) ⟨hx, hb, hml, hown, hts⟩ (r_get l dC dI s.heap.size a ea s2 ce m0) (cwV 1 hts (pw_V q1302 q278 q279 q46 q280) rfl rfl rfl (by decide +kernel) ⟨(Nat.le_of_ble_eq_true rfl), (Nat.le_of_ble_eq_true rfl)⟩) ⟨fun a U g mk q => by obtain ⟨q0, q1, qP, qK, qD⟩ := q; exact ⟨q0, q1, qP, va_K.moved (u := U) (U := U.calling g mk a) (Vm.Alike.refl U.vm) qK, qD⟩, va_recv hKc hPc (ci := 4) (q0 := 0) rfl rfl, fun U hU hW => ⟨rfl, by rw [hU], by rw [hU]; exact hPc, va_K.moved hW.alike hKc, hDc.weaken (fun _ _ _ _ => trivial)⟩⟩ rfl rfl hl.1 rfl (lv_room (Nat.le_of_ble_eq_true rfl)) dX10_lastResponse_7 ⟨(Nat.le_of_ble_eq_true rfl), (Nat.le_of_ble_eq_true rfl)⟩) hS (fun q _ h => hFc q h) hFc (fun u r_1867 t H1 locs ht hvm hw hB hz1 hk1 hS => ?_)
  obtain ⟨hra, hP1, hK1, hD1⟩ := hB
  rw [ht] at hP1
  have hsz : s.heap.size + 0 ≤ H1.size := by omega
  have hK1 := va_K.moved hvm.symm hK1
  obtain ⟨hP, hD⟩ := va_join (wr := [(h0, .inr (15, [.ref a, v1, v2, v3, v4, v5])), (s2, .inr (14, [.ref ml, u1, u2, u3, u4, u5])), (ml, .inr (4, [.int k0, .ref eml, .int 1])), (eml, .inl (cel, 10, .inr (.inr (.inr (.inr (va_up (fun _ => none) 0 (some mr))))))), (mr, .inl (cmr, 4, .inl (upd (upd (upd (upd (fun _ => 0) 0 1) 1 1) 2 0) 3 0)))]) (w1 := [(a, .inr (4, [.int m0, .ref ea, .int 1])), (ea, .inl (ce, 10, .inr (.inr (.inr (.inr (va_up (fun _ => none) 0 (some s2)))))))]) hP hD [1, 2] [0, 3, 4, 5, 6] rfl rfl (by decide) (by decide) hk1 hFc hP1 hD1
  have hK := (hK.sub (tys' := [(cel, .object "java/lang/Object"), (cmr, .int)]) [1, 2] rfl).app hK1
  generalize H1 = H at hP hS hsz ⊢
  have hP : va_P (dC, dI) vwCl [(h0, .inr (15, [.ref a, v1, v2, v3, v4, v5])), (s2, .inr (14, [.ref ml, u1, u2, u3, u4, u5])), (ml, .inr (4, [.int k0, .ref eml, .int 1])), (eml, .inl (cel, 10, .inr (.inr (.inr (.inr (va_up (fun _ => none) 0 (some mr))))))), (mr, .inl (cmr, 4, .inl (upd (upd (upd (upd (fun _ => 0) 0 1) 1 1) 2 0) 3 0))), (a, .inr (4, [.int m0, .ref ea, .int 1])), (ea, .inl (ce, 10, .inr (.inr (.inr (.inr (va_up (fun _ => none) 0 (some s2)))))))] H := hP
  have hD : va_D A [(h0, .inr (15, [.ref a, v1, v2, v3, v4, v5])), (s2, .inr (14, [.ref ml, u1, u2, u3, u4, u5])), (ml, .inr (4, [.int k0, .ref eml, .int 1])), (eml, .inl (cel, 10, .inr (.inr (.inr (.inr (va_up (fun _ => none) 0 (some mr))))))), (mr, .inl (cmr, 4, .inl (upd (upd (upd (upd (fun _ => 0) 0 1) 1 1) 2 0) 3 0))), (a, .inr (4, [.int m0, .ref ea, .int 1])), (ea, .inl (ce, 10, .inr (.inr (.inr (.inr (va_up (fun _ => none) 0 (some s2)))))))] := hD
  have hK : va_K (dC, dI) vwCl [(cel, .object "java/lang/Object"), (cmr, .int), (ce, .object "java/lang/Object")] s := hK
  refine W.widen (k := 0) (n := 0) (Nat.le_of_ble_eq_true rfl) (Nat.le_of_ble_eq_true rfl) ?_
  replace hra := hra.symm; subst hra
  refine va_castS (nm := "ShakerhallModel$Structure") hx hb hown (hts _ q1257) (hK.1 14 _ rfl).2 (va_recv hK hP (ci := 14) (q0 := 1) rfl rfl) dX10_lastResponse_10 ?_
  have hPc := hP.sub (ws' := [(s2, .inr (14, [.ref ml, u1, u2, u3, u4, u5])), (ml, .inr (4, [.int k0, .ref eml, .int 1]))]) [1, 2] rfl
  have hDc := hD.sub (ws' := [(s2, .inr (14, [.ref ml, u1, u2, u3, u4, u5])), (ml, .inr (4, [.int k0, .ref eml, .int 1]))]) [1, 2] (by decide) rfl
  have hKc := hK.sub (tys' := []) [] rfl
  have hFc := va_free (wc := [(s2, .inr (14, [.ref ml, u1, u2, u3, u4, u5])), (ml, .inr (4, [.int k0, .ref eml, .int 1]))]) hD hS hA [1, 2] rfl
  refine va_calli (va_runV (As := []) (rest := [.int 0, .ref h0]) ⟨hx, hb, hml, hown, hts⟩ (q_last l dC dI H.size s2 ml eml u1 u2 u3 u4 u5 k0) (cwV 0 hts (pw_V q1311 q1312 q1313 q59 q1314) rfl rfl rfl (by decide +kernel) ⟨(Nat.le_of_ble_eq_true rfl), (Nat.le_of_ble_eq_true rfl)⟩) ⟨fun a U g mk q => by obtain ⟨q0, q1, qP, qK, qD⟩ := q; exact ⟨q0, q1, qP, va_K.moved (u := U) (U := U.calling g mk a) (Vm.Alike.refl U.vm) qK, qD⟩, va_recv hKc hPc (ci := 14) (q0 := 0) rfl rfl, fun U hU hW => ⟨rfl, by rw [hU], by rw [hU]; exact hPc, va_K.moved hW.alike hKc, hDc.weaken (fun _ _ _ _ => trivial)⟩⟩ rfl rfl hl.1 rfl (lv_room (Nat.le_of_ble_eq_true rfl)) dX10_lastResponse_13 ⟨(Nat.le_of_ble_eq_true rfl), (Nat.le_of_ble_eq_true rfl)⟩) hS (fun q _ h => hFc q h) hFc (fun r_1868 u t H1 locs ht hvm hw hB hz1 hk1 hS => ?_)
  obtain ⟨hP1, hK1, hD1⟩ := hB
  rw [ht] at hP1
  have hsz : s.heap.size + 0 ≤ H1.size := by omega
  have hK1 := va_K.moved hvm.symm hK1
  obtain ⟨hP, hD⟩ := va_join (wr := [(h0, .inr (15, [.ref a, v1, v2, v3, v4, v5])), (eml, .inl (cel, 10, .inr (.inr (.inr (.inr (va_up (fun _ => none) 0 (some mr))))))), (mr, .inl (cmr, 4, .inl (upd (upd (upd (upd (fun _ => 0) 0 1) 1 1) 2 0) 3 0))), (a, .inr (4, [.int m0, .ref ea, .int 1])), (ea, .inl (ce, 10, .inr (.inr (.inr (.inr (va_up (fun _ => none) 0 (some s2)))))))]) (w1 := [(s2, .inr (14, [.ref ml, u1, u2, u3, u4, u5])), (ml, .inr (4, [.int k0, .ref eml, .int 1]))]) hP hD [1, 2] [0, 3, 4, 5, 6] rfl rfl (by decide) (by decide) hk1 hFc hP1 hD1
  have hK := (hK.sub (tys' := [(cel, .object "java/lang/Object"), (cmr, .int), (ce, .object "java/lang/Object")]) [0, 1, 2] rfl).app hK1
  generalize H1 = H at hP hS hsz ⊢
  have hP : va_P (dC, dI) vwCl [(h0, .inr (15, [.ref a, v1, v2, v3, v4, v5])), (eml, .inl (cel, 10, .inr (.inr (.inr (.inr (va_up (fun _ => none) 0 (some mr))))))), (mr, .inl (cmr, 4, .inl (upd (upd (upd (upd (fun _ => 0) 0 1) 1 1) 2 0) 3 0))), (a, .inr (4, [.int m0, .ref ea, .int 1])), (ea, .inl (ce, 10, .inr (.inr (.inr (.inr (va_up (fun _ => none) 0 (some s2))))))), (s2, .inr (14, [.ref ml, u1, u2, u3, u4, u5])), (ml, .inr (4, [.int k0, .ref eml, .int 1]))] H := hP
  have hD : va_D A [(h0, .inr (15, [.ref a, v1, v2, v3, v4, v5])), (eml, .inl (cel, 10, .inr (.inr (.inr (.inr (va_up (fun _ => none) 0 (some mr))))))), (mr, .inl (cmr, 4, .inl (upd (upd (upd (upd (fun _ => 0) 0 1) 1 1) 2 0) 3 0))), (a, .inr (4, [.int m0, .ref ea, .int 1])), (ea, .inl (ce, 10, .inr (.inr (.inr (.inr (va_up (fun _ => none) 0 (some s2))))))), (s2, .inr (14, [.ref ml, u1, u2, u3, u4, u5])), (ml, .inr (4, [.int k0, .ref eml, .int 1]))] := hD
  have hK : va_K (dC, dI) vwCl [(cel, .object "java/lang/Object"), (cmr, .int), (ce, .object "java/lang/Object")] s := hK
  refine W.widen (k := 0) (n := 0) (Nat.le_of_ble_eq_true rfl) (Nat.le_of_ble_eq_true rfl) ?_
  have hw : r_1868 = 0 := hw
  subst hw
  refine lv_iload_n hx hb dX10_lastResponse_16 rfl (lv_at hl 2 rfl) ?_
  have hPc := hP.sub (ws' := [(h0, .inr (15, [.ref a, v1, v2, v3, v4, v5])), (a, .inr (4, [.int m0, .ref ea, .int 1])), (ea, .inl (ce, 10, .inr (.inr (.inr (.inr (va_up (fun _ => none) 0 (some s2))))))), (s2, .inr (14, [.ref ml, u1, u2, u3, u4, u5])), (ml, .inr (4, [.int k0, .ref eml, .int 1])), (eml, .inl (cel, 10, .inr (.inr (.inr (.inr (va_up (fun _ => none) 0 (some mr))))))), (mr, .inl (cmr, 4, .inl (upd (upd (upd (upd (fun _ => 0) 0 1) 1 1) 2 0) 3 0)))]) [0, 3, 4, 5, 6, 1, 2] rfl
  have hDc := hD.sub (ws' := [(h0, .inr (15, [.ref a, v1, v2, v3, v4, v5])), (a, .inr (4, [.int m0, .ref ea, .int 1])), (ea, .inl (ce, 10, .inr (.inr (.inr (.inr (va_up (fun _ => none) 0 (some s2))))))), (s2, .inr (14, [.ref ml, u1, u2, u3, u4, u5])), (ml, .inr (4, [.int k0, .ref eml, .int 1])), (eml, .inl (cel, 10, .inr (.inr (.inr (.inr (va_up (fun _ => none) 0 (some mr))))))), (mr, .inl (cmr, 4, .inl (upd (upd (upd (upd (fun _ => 0) 0 1) 1 1) 2 0) 3 0)))]) [0, 3, 4, 5, 6, 1, 2] (by decide) rfl
  have hKc := hK.sub (tys' := [(ce, .object "java/lang/Object"), (cel, .object "java/lang/Object"), (cmr, .int)]) [2, 0, 1] rfl
  have hFc := va_free (wc := [(h0, .inr (15, [.ref a, v1, v2, v3, v4, v5])), (a, .inr (4, [.int m0, .ref ea, .int 1])), (ea, .inl (ce, 10, .inr (.inr (.inr (.inr (va_up (fun _ => none) 0 (some s2))))))), (s2, .inr (14, [.ref ml, u1, u2, u3, u4, u5])), (ml, .inr (4, [.int k0, .ref eml, .int 1])), (eml, .inl (cel, 10, .inr (.inr (.inr (.inr (va_up (fun _ => none) 0 (some mr))))))), (mr, .inl (cmr, 4, .inl (upd (upd (upd (upd (fun _ => 0) 0 1) 1 1) 2 0) 3 0)))]) hD hS hA [0, 3, 4, 5, 6, 1, 2] rfl
  refine va_calli (va_runV (As := [.int 0, .int 0, .int p0]) (rest := []) ⟨hx, hb, hml, hown, hts⟩ (q_response l dC dI H.size h0 a ea s2 ml ce m0 u1 u2 u3 u4 u5 v1 v2 v3 v4 v5 eml mr cel cmr k0 p0 h1) (cwV 3 hts (pw_V q1331 q1333 q22 q49 q1334) rfl rfl rfl (by decide +kernel) ⟨(Nat.le_of_ble_eq_true rfl), (Nat.le_of_ble_eq_true rfl)⟩) ⟨fun a U g mk q => by obtain ⟨q0, q1, qP, qK, qD, qR⟩ := q; exact ⟨q0, q1, qP, va_K.moved (u := U) (U := U.calling g mk a) (Vm.Alike.refl U.vm) qK, qD, qR.same rfl⟩, va_recv hKc hPc (ci := 15) (q0 := 0) rfl rfl, fun U hU hW => ⟨rfl, by rw [hU], by rw [hU]; exact hPc, va_K.moved hW.alike hKc, hDc.weaken (fun _ _ _ _ => trivial), hR.warm hW⟩⟩ rfl rfl hl.1 rfl (lv_room (Nat.le_of_ble_eq_true rfl)) dX10_lastResponse_17 ⟨(Nat.le_of_ble_eq_true rfl), (Nat.le_of_ble_eq_true rfl)⟩) hS (fun q _ h => hFc q h) hFc (fun r_1869 u t H1 locs ht hvm hw hB hz1 hk1 hS => ?_)
  obtain ⟨hgr, hP1, hK1, hD1⟩ := hB
  rw [ht] at hP1 hgr
  have hsz : s.heap.size + (0 + 256) ≤ H1.size := by omega
  have hK1 := va_K.moved hvm.symm hK1
  obtain ⟨hP, hD⟩ := va_join (wr := []) (w1 := [(h0, .inr (15, [.ref a, v1, v2, v3, v4, v5])), (a, .inr (4, [.int m0, .ref ea, .int 1])), (ea, .inl (ce, 10, .inr (.inr (.inr (.inr (va_up (fun _ => none) 0 (some s2))))))), (s2, .inr (14, [.ref ml, u1, u2, u3, u4, u5])), (ml, .inr (4, [.int k0, .ref eml, .int 1])), (eml, .inl (cel, 10, .inr (.inr (.inr (.inr (va_up (fun _ => none) 0 (some mr))))))), (mr, .inl (cmr, 4, .inl (upd (upd (upd (upd (fun _ => 0) 0 1) 1 1) 2 0) 3 0)))]) hP hD [0, 3, 4, 5, 6, 1, 2] [] rfl rfl (by decide) (by decide) hk1 hFc hP1 hD1
  have hK := (hK.sub (tys' := []) [] rfl).app hK1
  generalize H1 = H at hP hS hsz ⊢
  have hP : va_P (dC, dI) vwCl [(h0, .inr (15, [.ref a, v1, v2, v3, v4, v5])), (a, .inr (4, [.int m0, .ref ea, .int 1])), (ea, .inl (ce, 10, .inr (.inr (.inr (.inr (va_up (fun _ => none) 0 (some s2))))))), (s2, .inr (14, [.ref ml, u1, u2, u3, u4, u5])), (ml, .inr (4, [.int k0, .ref eml, .int 1])), (eml, .inl (cel, 10, .inr (.inr (.inr (.inr (va_up (fun _ => none) 0 (some mr))))))), (mr, .inl (cmr, 4, .inl (upd (upd (upd (upd (fun _ => 0) 0 1) 1 1) 2 0) 3 0)))] H := hP
  have hD : va_D A [(h0, .inr (15, [.ref a, v1, v2, v3, v4, v5])), (a, .inr (4, [.int m0, .ref ea, .int 1])), (ea, .inl (ce, 10, .inr (.inr (.inr (.inr (va_up (fun _ => none) 0 (some s2))))))), (s2, .inr (14, [.ref ml, u1, u2, u3, u4, u5])), (ml, .inr (4, [.int k0, .ref eml, .int 1])), (eml, .inl (cel, 10, .inr (.inr (.inr (.inr (va_up (fun _ => none) 0 (some mr))))))), (mr, .inl (cmr, 4, .inl (upd (upd (upd (upd (fun _ => 0) 0 1) 1 1) 2 0) 3 0)))] := hD
  have hK : va_K (dC, dI) vwCl [(ce, .object "java/lang/Object"), (cel, .object "java/lang/Object"), (cmr, .int)] s := hK
  refine W.widen (k := 259) (n := 262) (Nat.le_of_ble_eq_true rfl) (Nat.le_of_ble_eq_true rfl) ?_
  have hP9 := hP.sub (ws' := [(h0, .inr (15, [.ref a, v1, v2, v3, v4, v5])), (a, .inr (4, [.int m0, .ref ea, .int 1])), (ea, .inl (ce, 10, .inr (.inr (.inr (.inr (va_up (fun _ => none) 0 (some s2))))))), (s2, .inr (14, [.ref ml, u1, u2, u3, u4, u5])), (ml, .inr (4, [.int k0, .ref eml, .int 1])), (eml, .inl (cel, 10, .inr (.inr (.inr (.inr (va_up (fun _ => none) 0 (some mr))))))), (mr, .inl (cmr, 4, .inl (upd (upd (upd (upd (fun _ => 0) 0 1) 1 1) 2 0) 3 0)))]) [0, 1, 2, 3, 4, 5, 6] rfl
  have hD9 := hD.sub (ws' := [(h0, .inr (15, [.ref a, v1, v2, v3, v4, v5])), (a, .inr (4, [.int m0, .ref ea, .int 1])), (ea, .inl (ce, 10, .inr (.inr (.inr (.inr (va_up (fun _ => none) 0 (some s2))))))), (s2, .inr (14, [.ref ml, u1, u2, u3, u4, u5])), (ml, .inr (4, [.int k0, .ref eml, .int 1])), (eml, .inl (cel, 10, .inr (.inr (.inr (.inr (va_up (fun _ => none) 0 (some mr))))))), (mr, .inl (cmr, 4, .inl (upd (upd (upd (upd (fun _ => 0) 0 1) 1 1) 2 0) 3 0)))]) [0, 1, 2, 3, 4, 5, 6] (by decide) rfl
  have hK9 := hK.sub (tys' := [(ce, .object "java/lang/Object"), (cel, .object "java/lang/Object"), (cmr, .int)]) [0, 1, 2] rfl
  refine W.widen (k := 259) (n := 262) (Nat.le_of_ble_eq_true rfl) (Nat.le_of_ble_eq_true rfl) ?_
  exact W.iret (v := r_1869) hx hb hr (fun t ht hW => ⟨⟨r_1869, (), rfl, trivial, ⟨by rw [ht]; omega, by rw [ht]; exact hP9, va_K.moved hW.alike hK9, hD9⟩⟩, hS.F ht⟩) hS.2.2 dX10_lastResponse_20
set_option maxHeartbeats 4000000 in
set_option maxRecDepth 100000 in
theorem q_resonance (l : Launch) (dC : Nat → ClassId) (dI : Nat → Nat → Nat) (sz : Nat) (h0 : Nat) (a : Nat) (ea : Nat) (s2 : Nat) (ml : Nat) (ce : ClassId) (m0 : Int32) (u1 : Value) (u2 : Value) (u3 : Value) (u4 : Value) (u5 : Value) (v1 : Value) (v2 : Value) (v3 : Value) (v4 : Value) (v5 : Value) (eml : Nat) (mr : Nat) (cel : ClassId) (cmr : ClassId) (k0 : Int32) : Met l yX10_resonance (pw_ws yX10_resonance cX10_resonance 6 (some .int)) ({ frames := 8, cells := 15799, slots := 15982, locals := 185 } : Room) (va_Pc [.ref h0, .int 0] (fun U => U.heap.size = sz ∧ va_P (dC, dI) vwCl [(h0, .inr (15, [.ref a, v1, v2, v3, v4, v5])), (a, .inr (4, [.int m0, .ref ea, .int 1])), (ea, .inl (ce, 10, .inr (.inr (.inr (.inr (va_up (fun _ => none) 0 (some s2))))))), (s2, .inr (14, [.ref ml, u1, u2, u3, u4, u5])), (ml, .inr (4, [.int k0, .ref eml, .int 1])), (eml, .inl (cel, 10, .inr (.inr (.inr (.inr (va_up (fun _ => none) 0 (some mr))))))), (mr, .inl (cmr, 4, .inl (upd (upd (upd (upd (fun _ => 0) 0 1) 1 1) 2 0) 3 0)))] U.heap ∧ va_K (dC, dI) vwCl [(ce, .object "java/lang/Object"), (cel, .object "java/lang/Object"), (cmr, .int)] U ∧ va_D (fun _ => True) [(h0, .inr (15, [.ref a, v1, v2, v3, v4, v5])), (a, .inr (4, [.int m0, .ref ea, .int 1])), (ea, .inl (ce, 10, .inr (.inr (.inr (.inr (va_up (fun _ => none) 0 (some s2))))))), (s2, .inr (14, [.ref ml, u1, u2, u3, u4, u5])), (ml, .inr (4, [.int k0, .ref eml, .int 1])), (eml, .inl (cel, 10, .inr (.inr (.inr (.inr (va_up (fun _ => none) 0 (some mr))))))), (mr, .inl (cmr, 4, .inl (upd (upd (upd (upd (fun _ => 0) 0 1) 1 1) 2 0) 3 0)))] ∧ pr U)) (va_Qi (fun (_ : Int32) (_ : Unit) => True) (fun (_ : Unit) (t : State) => sz + 15616 ≤ t.heap.size ∧ va_P (dC, dI) vwCl [(h0, .inr (15, [.ref a, v1, v2, v3, v4, v5])), (a, .inr (4, [.int m0, .ref ea, .int 1])), (ea, .inl (ce, 10, .inr (.inr (.inr (.inr (va_up (fun _ => none) 0 (some s2))))))), (s2, .inr (14, [.ref ml, u1, u2, u3, u4, u5])), (ml, .inr (4, [.int k0, .ref eml, .int 1])), (eml, .inl (cel, 10, .inr (.inr (.inr (.inr (va_up (fun _ => none) 0 (some mr))))))), (mr, .inl (cmr, 4, .inl (upd (upd (upd (upd (fun _ => 0) 0 1) 1 1) 2 0) 3 0)))] t.heap ∧ va_K (dC, dI) vwCl [(ce, .object "java/lang/Object"), (cel, .object "java/lang/Object"), (cmr, .int)] t ∧ va_D (va_A [(h0, .inr (15, [.ref a, v1, v2, v3, v4, v5])), (a, .inr (4, [.int m0, .ref ea, .int 1])), (ea, .inl (ce, 10, .inr (.inr (.inr (.inr (va_up (fun _ => none) 0 (some s2))))))), (s2, .inr (14, [.ref ml, u1, u2, u3, u4, u5])), (ml, .inr (4, [.int k0, .ref eml, .int 1])), (eml, .inl (cel, 10, .inr (.inr (.inr (.inr (va_up (fun _ => none) 0 (some mr))))))), (mr, .inl (cmr, 4, .inl (upd (upd (upd (upd (fun _ => 0) 0 1) 1 1) 2 0) 3 0)))] sz) [(h0, .inr (15, [.ref a, v1, v2, v3, v4, v5])), (a, .inr (4, [.int m0, .ref ea, .int 1])), (ea, .inl (ce, 10, .inr (.inr (.inr (.inr (va_up (fun _ => none) 0 (some s2))))))), (s2, .inr (14, [.ref ml, u1, u2, u3, u4, u5])), (ml, .inr (4, [.int k0, .ref eml, .int 1])), (eml, .inl (cel, 10, .inr (.inr (.inr (.inr (va_up (fun _ => none) 0 (some mr))))))), (mr, .inl (cmr, 4, .inl (upd (upd (upd (upd (fun _ => 0) 0 1) 1 1) 2 0) 3 0)))]) (va_A [(h0, .inr (15, [.ref a, v1, v2, v3, v4, v5])), (a, .inr (4, [.int m0, .ref ea, .int 1])), (ea, .inl (ce, 10, .inr (.inr (.inr (.inr (va_up (fun _ => none) 0 (some s2))))))), (s2, .inr (14, [.ref ml, u1, u2, u3, u4, u5])), (ml, .inr (4, [.int k0, .ref eml, .int 1])), (eml, .inl (cel, 10, .inr (.inr (.inr (.inr (va_up (fun _ => none) 0 (some mr))))))), (mr, .inl (cmr, 4, .inl (upd (upd (upd (upd (fun _ => 0) 0 1) 1 1) 2 0) 3 0)))] sz)) 15799 15982 (va_A [(h0, .inr (15, [.ref a, v1, v2, v3, v4, v5])), (a, .inr (4, [.int m0, .ref ea, .int 1])), (ea, .inl (ce, 10, .inr (.inr (.inr (.inr (va_up (fun _ => none) 0 (some s2))))))), (s2, .inr (14, [.ref ml, u1, u2, u3, u4, u5])), (ml, .inr (4, [.int k0, .ref eml, .int 1])), (eml, .inl (cel, 10, .inr (.inr (.inr (.inr (va_up (fun _ => none) 0 (some mr))))))), (mr, .inl (cmr, 4, .inl (upd (upd (upd (upd (fun _ => 0) 0 1) 1 1) 2 0) 3 0)))] sz) := by
  refine Met.ofW (cc := cX10_resonance) (maxL := 6) (ret := (some .int)) (by decide) rfl ?_
  intro p e s m args below meth c s₁ B hml hv
  obtain ⟨rfl, hsz, hP, hK, hD0, hR⟩ := hv
  have hx := B.exec
  have hb := B.bytes
  have hr := B.returns
  have hts0 := atoms_spec (ws := (pw_ws yX10_resonance cX10_resonance 6 (some .int))) B.pre
  have hts : ∀ w ∈ pw_all, w.before _ s = true := fun w h => hts0 w (List.mem_cons_of_mem _ h)
  have hown : s.vm.findClass RX10 = some m.cls := findClass_of_methodNamed B.named
  have hlocks := B.notSynchronized
  subst hsz
  have hD := hD0.self (sz := s.heap.size)
  generalize hAe : va_A [(h0, .inr (15, [.ref a, v1, v2, v3, v4, v5])), (a, .inr (4, [.int m0, .ref ea, .int 1])), (ea, .inl (ce, 10, .inr (.inr (.inr (.inr (va_up (fun _ => none) 0 (some s2))))))), (s2, .inr (14, [.ref ml, u1, u2, u3, u4, u5])), (ml, .inr (4, [.int k0, .ref eml, .int 1])), (eml, .inl (cel, 10, .inr (.inr (.inr (.inr (va_up (fun _ => none) 0 (some mr))))))), (mr, .inl (cmr, 4, .inl (upd (upd (upd (upd (fun _ => 0) 0 1) 1 1) 2 0) 3 0)))] s.heap.size = A at hD ⊢
  have hA : ∀ q : Nat, s.heap.size ≤ q → A q := fun q h => by rw [← hAe]; exact Or.inr h
  have hS : va_S A s.heap s.heap [] := va_S.rf
  have hP : va_P (dC, dI) vwCl [(h0, .inr (15, [.ref a, v1, v2, v3, v4, v5])), (a, .inr (4, [.int m0, .ref ea, .int 1])), (ea, .inl (ce, 10, .inr (.inr (.inr (.inr (va_up (fun _ => none) 0 (some s2))))))), (s2, .inr (14, [.ref ml, u1, u2, u3, u4, u5])), (ml, .inr (4, [.int k0, .ref eml, .int 1])), (eml, .inl (cel, 10, .inr (.inr (.inr (.inr (va_up (fun _ => none) 0 (some mr))))))), (mr, .inl (cmr, 4, .inl (upd (upd (upd (upd (fun _ => 0) 0 1) 1 1) 2 0) 3 0)))] s.heap := hP
  have hl := lv_entry ([.ref h0, .int 0]) (n := 6) (Nat.le_of_ble_eq_true rfl)
  rw [lg_entry_eq]
  generalize (lg_sl ([.ref h0, .int 0]) ++ List.replicate (6 - (lg_sl ([.ref h0, .int 0])).length) Slot.unset).toArray = ls at hl ⊢
  have hl : lv_has ls 6 [(0, .ref h0), (1, .int 0)] := hl
  skip
  have hsz : s.heap.size + 0 ≤ s.heap.size := Nat.le_refl _
  refine pl_name (fun QQ hQQ => ?_)
  refine lv_iconst (v := 4) hx hb dX10_resonance_0 (by decide) ?_
  refine lv_istore_n (lv' := [(2, .int 4), (0, .ref h0), (1, .int 0)]) hx hb dX10_resonance_1 rfl hl (by decide) rfl (fun ls hl => ?_)
  refine lv_aload_n hx hb dX10_resonance_2 rfl (lv_at hl 1 rfl) ?_
  refine lv_iload_n hx hb dX10_resonance_3 rfl (lv_at hl 2 rfl) ?_
  refine lv_iconst (v := 4) hx hb dX10_resonance_4 (by decide) ?_
  have hPc := hP.sub (ws' := [(h0, .inr (15, [.ref a, v1, v2, v3, v4, v5])), (a, .inr (4, [.int m0, .ref ea, .int 1])), (ea, .inl (ce, 10, .inr (.inr (.inr (.inr (va_up (fun _ => none) 0 (some s2))))))), (s2, .inr (14, [.ref ml, u1, u2, u3, u4, u5])), (ml, .inr (4, [.int k0, .ref eml, .int 1])), (eml, .inl (cel, 10, .inr (.inr (.inr (.inr (va_up (fun _ => none) 0 (some mr))))))), (mr, .inl (cmr, 4, .inl (upd (upd (upd (upd (fun _ => 0) 0 1) 1 1) 2 0) 3 0)))]) [0, 1, 2, 3, 4, 5, 6] rfl
  have hDc := hD.sub (ws' := [(h0, .inr (15, [.ref a, v1, v2, v3, v4, v5])), (a, .inr (4, [.int m0, .ref ea, .int 1])), (ea, .inl (ce, 10, .inr (.inr (.inr (.inr (va_up (fun _ => none) 0 (some s2))))))), (s2, .inr (14, [.ref ml, u1, u2, u3, u4, u5])), (ml, .inr (4, [.int k0, .ref eml, .int 1])), (eml, .inl (cel, 10, .inr (.inr (.inr (.inr (va_up (fun _ => none) 0 (some mr))))))), (mr, .inl (cmr, 4, .inl (upd (upd (upd (upd (fun _ => 0) 0 1) 1 1) 2 0) 3 0)))]) [0, 1, 2, 3, 4, 5, 6] (by decide) rfl
  have hKc := hK.sub (tys' := [(ce, .object "java/lang/Object"), (cel, .object "java/lang/Object"), (cmr, .int)]) [0, 1, 2] rfl
  have hFc := va_free (wc := [(h0, .inr (15, [.ref a, v1, v2, v3, v4, v5])), (a, .inr (4, [.int m0, .ref ea, .int 1])), (ea, .inl (ce, 10, .inr (.inr (.inr (.inr (va_up (fun _ => none) 0 (some s2))))))), (s2, .inr (14, [.ref ml, u1, u2, u3, u4, u5])), (ml, .inr (4, [.int k0, .ref eml, .int 1])), (eml, .inl (cel, 10, .inr (.inr (.inr (.inr (va_up (fun _ => none) 0 (some mr))))))), (mr, .inl (cmr, 4, .inl (upd (upd (upd (upd (fun _ => 0) 0 1) 1 1) 2 0) 3 0)))]) hD hS hA [0, 1, 2, 3, 4, 5, 6] rfl
  refine va_calli (va_runV (As := [.int 0, .int 4]) (rest := []) ⟨hx, hb, hml, hown, hts⟩ (q_lastResponse l dC dI s.heap.size h0 a ea s2 ml ce m0 u1 u2 u3 u4 u5 v1 v2 v3 v4 v5 eml mr cel cmr k0 4 (by decide)) (cwV 2 hts (pw_V q1397 q1399 q25 q49 q1400) rfl rfl rfl (by decide +kernel) ⟨(Nat.le_of_ble_eq_true rfl), (Nat.le_of_ble_eq_true rfl)⟩) ⟨fun a U g mk q => by obtain ⟨q0, q1, qP, qK, qD, qR⟩ := q; exact ⟨q0, q1, qP, va_K.moved (u := U) (U := U.calling g mk a) (Vm.Alike.refl U.vm) qK, qD, qR.same rfl⟩, va_recv hKc hPc (ci := 15) (q0 := 0) rfl rfl, fun U hU hW => ⟨rfl, by rw [hU], by rw [hU]; exact hPc, va_K.moved hW.alike hKc, hDc.weaken (fun _ _ _ _ => trivial), hR.warm hW⟩⟩ rfl rfl hl.1 rfl (lv_room (Nat.le_of_ble_eq_true rfl)) dX10_resonance_5 ⟨(Nat.le_of_ble_eq_true rfl), (Nat.le_of_ble_eq_true rfl)⟩) hS (fun q _ h => hFc q h) hFc (fun r_1870 u t H1 locs ht hvm hw hB hz1 hk1 hS => ?_)
  obtain ⟨hgr, hP1, hK1, hD1⟩ := hB
  rw [ht] at hP1 hgr
  have hsz : s.heap.size + (0 + 256) ≤ H1.size := by omega
  have hK1 := va_K.moved hvm.symm hK1
  obtain ⟨hP, hD⟩ := va_join (wr := []) (w1 := [(h0, .inr (15, [.ref a, v1, v2, v3, v4, v5])), (a, .inr (4, [.int m0, .ref ea, .int 1])), (ea, .inl (ce, 10, .inr (.inr (.inr (.inr (va_up (fun _ => none) 0 (some s2))))))), (s2, .inr (14, [.ref ml, u1, u2, u3, u4, u5])), (ml, .inr (4, [.int k0, .ref eml, .int 1])), (eml, .inl (cel, 10, .inr (.inr (.inr (.inr (va_up (fun _ => none) 0 (some mr))))))), (mr, .inl (cmr, 4, .inl (upd (upd (upd (upd (fun _ => 0) 0 1) 1 1) 2 0) 3 0)))]) hP hD [0, 1, 2, 3, 4, 5, 6] [] rfl rfl (by decide) (by decide) hk1 hFc hP1 hD1
  have hK := (hK.sub (tys' := []) [] rfl).app hK1
  generalize H1 = H at hP hS hsz ⊢
  have hP : va_P (dC, dI) vwCl [(h0, .inr (15, [.ref a, v1, v2, v3, v4, v5])), (a, .inr (4, [.int m0, .ref ea, .int 1])), (ea, .inl (ce, 10, .inr (.inr (.inr (.inr (va_up (fun _ => none) 0 (some s2))))))), (s2, .inr (14, [.ref ml, u1, u2, u3, u4, u5])), (ml, .inr (4, [.int k0, .ref eml, .int 1])), (eml, .inl (cel, 10, .inr (.inr (.inr (.inr (va_up (fun _ => none) 0 (some mr))))))), (mr, .inl (cmr, 4, .inl (upd (upd (upd (upd (fun _ => 0) 0 1) 1 1) 2 0) 3 0)))] H := hP
  have hD : va_D A [(h0, .inr (15, [.ref a, v1, v2, v3, v4, v5])), (a, .inr (4, [.int m0, .ref ea, .int 1])), (ea, .inl (ce, 10, .inr (.inr (.inr (.inr (va_up (fun _ => none) 0 (some s2))))))), (s2, .inr (14, [.ref ml, u1, u2, u3, u4, u5])), (ml, .inr (4, [.int k0, .ref eml, .int 1])), (eml, .inl (cel, 10, .inr (.inr (.inr (.inr (va_up (fun _ => none) 0 (some mr))))))), (mr, .inl (cmr, 4, .inl (upd (upd (upd (upd (fun _ => 0) 0 1) 1 1) 2 0) 3 0)))] := hD
  have hK : va_K (dC, dI) vwCl [(ce, .object "java/lang/Object"), (cel, .object "java/lang/Object"), (cmr, .int)] s := hK
  refine W.widen (k := 259) (n := 262) (Nat.le_of_ble_eq_true rfl) (Nat.le_of_ble_eq_true rfl) ?_
  refine lv_istore_n (lv' := [(3, .int r_1870), (2, .int 4), (0, .ref h0), (1, .int 0)]) hx hb dX10_resonance_8 rfl hl (by decide) rfl (fun ls hl => ?_)
  refine lv_iconst (v := 5) hx hb dX10_resonance_9 (by decide) ?_
  refine lv_istore (lv' := [(4, .int 5), (3, .int r_1870), (2, .int 4), (0, .ref h0), (1, .int 0)]) hx hb dX10_resonance_10 hl (by decide) rfl (fun ls hl => ?_)
  have loop12 : ∀ (n k : Nat), (5 ≤ k ∧ k + n = 65) → ∀ (vm : Int32) (vf : Int32) (H : Heap) (locs : List Loc), va_K (dC, dI) vwCl [(ce, .object "java/lang/Object"), (cel, .object "java/lang/Object"), (cmr, .int)] s → va_P (dC, dI) vwCl [(h0, .inr (15, [.ref a, v1, v2, v3, v4, v5])), (a, .inr (4, [.int m0, .ref ea, .int 1])), (ea, .inl (ce, 10, .inr (.inr (.inr (.inr (va_up (fun _ => none) 0 (some s2))))))), (s2, .inr (14, [.ref ml, u1, u2, u3, u4, u5])), (ml, .inr (4, [.int k0, .ref eml, .int 1])), (eml, .inl (cel, 10, .inr (.inr (.inr (.inr (va_up (fun _ => none) 0 (some mr))))))), (mr, .inl (cmr, 4, .inl (upd (upd (upd (upd (fun _ => 0) 0 1) 1 1) 2 0) 3 0)))] H → va_D A [(h0, .inr (15, [.ref a, v1, v2, v3, v4, v5])), (a, .inr (4, [.int m0, .ref ea, .int 1])), (ea, .inl (ce, 10, .inr (.inr (.inr (.inr (va_up (fun _ => none) 0 (some s2))))))), (s2, .inr (14, [.ref ml, u1, u2, u3, u4, u5])), (ml, .inr (4, [.int k0, .ref eml, .int 1])), (eml, .inl (cel, 10, .inr (.inr (.inr (.inr (va_up (fun _ => none) 0 (some mr))))))), (mr, .inl (cmr, 4, .inl (upd (upd (upd (upd (fun _ => 0) 0 1) 1 1) 2 0) 3 0)))] → va_S A s.heap H locs → s.heap.size + (256 * k - 1024) ≤ H.size → ∀ (ls : Array Slot), lv_has ls 6 [(4, .int (nI k)), (3, .int vm), (2, .int vf), (0, .ref h0), (1, .int 0)] → W p l e (headSpec (pw_ws yX10_resonance cX10_resonance 6 (some .int)) ({ frames := 8, cells := 15799, slots := 15982, locals := 185 } : Room)).room s m ([.ref h0, .int 0] : List Value).toArray below meth c H locs (259 * k - 1036) (262 * k - 1048) QQ (F0 m 12 ls []) := by
    intro n
    induction n with
    | zero =>
      intro k hk vm vf H locs hK hP hD hS hsz ls hl
      have hkN : k = 65 := by omega
      refine lv_iload hx hb dX10_resonance_12 (lv_at hl 0 rfl) ?_
      refine lv_bipush (v := 64) hx hb dX10_resonance_14 (by decide) ?_
      refine lv_icmp_gt (tgt := 54) hx hb dX10_resonance_16 (by decide) (fun c_1871 => ?_) (fun c_1871 => absurd (by rw [hkN]; decide) c_1871)
      refine lv_iload_n hx hb dX10_resonance_54 rfl (lv_at hl 2 rfl) ?_
      have hP9 := hP.sub (ws' := [(h0, .inr (15, [.ref a, v1, v2, v3, v4, v5])), (a, .inr (4, [.int m0, .ref ea, .int 1])), (ea, .inl (ce, 10, .inr (.inr (.inr (.inr (va_up (fun _ => none) 0 (some s2))))))), (s2, .inr (14, [.ref ml, u1, u2, u3, u4, u5])), (ml, .inr (4, [.int k0, .ref eml, .int 1])), (eml, .inl (cel, 10, .inr (.inr (.inr (.inr (va_up (fun _ => none) 0 (some mr))))))), (mr, .inl (cmr, 4, .inl (upd (upd (upd (upd (fun _ => 0) 0 1) 1 1) 2 0) 3 0)))]) [0, 1, 2, 3, 4, 5, 6] rfl
      have hD9 := hD.sub (ws' := [(h0, .inr (15, [.ref a, v1, v2, v3, v4, v5])), (a, .inr (4, [.int m0, .ref ea, .int 1])), (ea, .inl (ce, 10, .inr (.inr (.inr (.inr (va_up (fun _ => none) 0 (some s2))))))), (s2, .inr (14, [.ref ml, u1, u2, u3, u4, u5])), (ml, .inr (4, [.int k0, .ref eml, .int 1])), (eml, .inl (cel, 10, .inr (.inr (.inr (.inr (va_up (fun _ => none) 0 (some mr))))))), (mr, .inl (cmr, 4, .inl (upd (upd (upd (upd (fun _ => 0) 0 1) 1 1) 2 0) 3 0)))]) [0, 1, 2, 3, 4, 5, 6] (by decide) rfl
      have hK9 := hK.sub (tys' := [(ce, .object "java/lang/Object"), (cel, .object "java/lang/Object"), (cmr, .int)]) [0, 1, 2] rfl
      refine W.widen (k := 15799) (n := 15982) (by omega) (by omega) ?_
      subst hQQ
      exact W.iret (v := vf) hx hb hr (fun t ht hW => ⟨⟨vf, (), rfl, trivial, ⟨by rw [ht]; omega, by rw [ht]; exact hP9, va_K.moved hW.alike hK9, hD9⟩⟩, hS.F ht⟩) hS.2.2 dX10_resonance_55
    | succ n ih =>
      intro k hk vm vf H locs hK hP hD hS hsz ls hl
      have hkN : k < 65 := by omega
      refine lv_iload hx hb dX10_resonance_12 (lv_at hl 0 rfl) ?_
      refine lv_bipush (v := 64) hx hb dX10_resonance_14 (by decide) ?_
      refine lv_icmp_gt (tgt := 54) hx hb dX10_resonance_16 (by decide) (fun c_1872 => absurd c_1872 (nI_nlt (a := 64) (b := k) (by omega) (by decide))) (fun c_1872 => ?_)
      refine lv_aload_n hx hb dX10_resonance_19 rfl (lv_at hl 3 rfl) ?_
      refine lv_iload_n hx hb dX10_resonance_20 rfl (lv_at hl 4 rfl) ?_
      refine lv_iload hx hb dX10_resonance_21 (lv_at hl 0 rfl) ?_
      have hPc := hP.sub (ws' := [(h0, .inr (15, [.ref a, v1, v2, v3, v4, v5])), (a, .inr (4, [.int m0, .ref ea, .int 1])), (ea, .inl (ce, 10, .inr (.inr (.inr (.inr (va_up (fun _ => none) 0 (some s2))))))), (s2, .inr (14, [.ref ml, u1, u2, u3, u4, u5])), (ml, .inr (4, [.int k0, .ref eml, .int 1])), (eml, .inl (cel, 10, .inr (.inr (.inr (.inr (va_up (fun _ => none) 0 (some mr))))))), (mr, .inl (cmr, 4, .inl (upd (upd (upd (upd (fun _ => 0) 0 1) 1 1) 2 0) 3 0)))]) [0, 1, 2, 3, 4, 5, 6] rfl
      have hDc := hD.sub (ws' := [(h0, .inr (15, [.ref a, v1, v2, v3, v4, v5])), (a, .inr (4, [.int m0, .ref ea, .int 1])), (ea, .inl (ce, 10, .inr (.inr (.inr (.inr (va_up (fun _ => none) 0 (some s2))))))), (s2, .inr (14, [.ref ml, u1, u2, u3, u4, u5])), (ml, .inr (4, [.int k0, .ref eml, .int 1])), (eml, .inl (cel, 10, .inr (.inr (.inr (.inr (va_up (fun _ => none) 0 (some mr))))))), (mr, .inl (cmr, 4, .inl (upd (upd (upd (upd (fun _ => 0) 0 1) 1 1) 2 0) 3 0)))]) [0, 1, 2, 3, 4, 5, 6] (by decide) rfl
      have hKc := hK.sub (tys' := [(ce, .object "java/lang/Object"), (cel, .object "java/lang/Object"), (cmr, .int)]) [0, 1, 2] rfl
      have hFc := va_free (wc := [(h0, .inr (15, [.ref a, v1, v2, v3, v4, v5])), (a, .inr (4, [.int m0, .ref ea, .int 1])), (ea, .inl (ce, 10, .inr (.inr (.inr (.inr (va_up (fun _ => none) 0 (some s2))))))), (s2, .inr (14, [.ref ml, u1, u2, u3, u4, u5])), (ml, .inr (4, [.int k0, .ref eml, .int 1])), (eml, .inl (cel, 10, .inr (.inr (.inr (.inr (va_up (fun _ => none) 0 (some mr))))))), (mr, .inl (cmr, 4, .inl (upd (upd (upd (upd (fun _ => 0) 0 1) 1 1) 2 0) 3 0)))]) hD hS hA [0, 1, 2, 3, 4, 5, 6] rfl
      refine va_calli (va_runV (As := [.int 0, .int (nI k)]) (rest := []) ⟨hx, hb, hml, hown, hts⟩ (q_lastResponse l dC dI H.size h0 a ea s2 ml ce m0 u1 u2 u3 u4 u5 v1 v2 v3 v4 v5 eml mr cel cmr k0 (nI k) (nI_ne0 (by omega) (by omega))) (cwV 2 hts (pw_V q1397 q1399 q25 q49 q1400) rfl rfl rfl (by decide +kernel) ⟨(Nat.le_of_ble_eq_true rfl), (Nat.le_of_ble_eq_true rfl)⟩) ⟨fun a U g mk q => by obtain ⟨q0, q1, qP, qK, qD, qR⟩ := q; exact ⟨q0, q1, qP, va_K.moved (u := U) (U := U.calling g mk a) (Vm.Alike.refl U.vm) qK, qD, qR.same rfl⟩, va_recv hKc hPc (ci := 15) (q0 := 0) rfl rfl, fun U hU hW => ⟨rfl, by rw [hU], by rw [hU]; exact hPc, va_K.moved hW.alike hKc, hDc.weaken (fun _ _ _ _ => trivial), hR.warm hW⟩⟩ rfl rfl hl.1 rfl (lv_room (Nat.le_of_ble_eq_true rfl)) dX10_resonance_23 ⟨(show 259 * k - 1036 + 259 ≤ 15799 by omega), (show 262 * k - 1048 + 262 ≤ 15982 by omega)⟩) hS (fun q _ h => hFc q h) hFc (fun r_1873 u t H1 locs ht hvm hw hB hz1 hk1 hS => ?_)
      obtain ⟨hgr, hP1, hK1, hD1⟩ := hB
      rw [ht] at hP1 hgr
      have hsz : s.heap.size + ((256 * k - 1024) + 256) ≤ H1.size := by omega
      have hK1 := va_K.moved hvm.symm hK1
      obtain ⟨hP, hD⟩ := va_join (wr := []) (w1 := [(h0, .inr (15, [.ref a, v1, v2, v3, v4, v5])), (a, .inr (4, [.int m0, .ref ea, .int 1])), (ea, .inl (ce, 10, .inr (.inr (.inr (.inr (va_up (fun _ => none) 0 (some s2))))))), (s2, .inr (14, [.ref ml, u1, u2, u3, u4, u5])), (ml, .inr (4, [.int k0, .ref eml, .int 1])), (eml, .inl (cel, 10, .inr (.inr (.inr (.inr (va_up (fun _ => none) 0 (some mr))))))), (mr, .inl (cmr, 4, .inl (upd (upd (upd (upd (fun _ => 0) 0 1) 1 1) 2 0) 3 0)))]) hP hD [0, 1, 2, 3, 4, 5, 6] [] rfl rfl (by decide) (by decide) hk1 hFc hP1 hD1
      have hK := (hK.sub (tys' := []) [] rfl).app hK1
      generalize H1 = H at hP hS hsz ⊢
      have hP : va_P (dC, dI) vwCl [(h0, .inr (15, [.ref a, v1, v2, v3, v4, v5])), (a, .inr (4, [.int m0, .ref ea, .int 1])), (ea, .inl (ce, 10, .inr (.inr (.inr (.inr (va_up (fun _ => none) 0 (some s2))))))), (s2, .inr (14, [.ref ml, u1, u2, u3, u4, u5])), (ml, .inr (4, [.int k0, .ref eml, .int 1])), (eml, .inl (cel, 10, .inr (.inr (.inr (.inr (va_up (fun _ => none) 0 (some mr))))))), (mr, .inl (cmr, 4, .inl (upd (upd (upd (upd (fun _ => 0) 0 1) 1 1) 2 0) 3 0)))] H := hP
      have hD : va_D A [(h0, .inr (15, [.ref a, v1, v2, v3, v4, v5])), (a, .inr (4, [.int m0, .ref ea, .int 1])), (ea, .inl (ce, 10, .inr (.inr (.inr (.inr (va_up (fun _ => none) 0 (some s2))))))), (s2, .inr (14, [.ref ml, u1, u2, u3, u4, u5])), (ml, .inr (4, [.int k0, .ref eml, .int 1])), (eml, .inl (cel, 10, .inr (.inr (.inr (.inr (va_up (fun _ => none) 0 (some mr))))))), (mr, .inl (cmr, 4, .inl (upd (upd (upd (upd (fun _ => 0) 0 1) 1 1) 2 0) 3 0)))] := hD
      have hK : va_K (dC, dI) vwCl [(ce, .object "java/lang/Object"), (cel, .object "java/lang/Object"), (cmr, .int)] s := hK
      refine lv_istore (lv' := [(5, .int r_1873), (4, .int (nI k)), (3, .int vm), (2, .int vf), (0, .ref h0), (1, .int 0)]) hx hb dX10_resonance_26 hl (by decide) rfl (fun ls hl => ?_)
      refine lv_iload hx hb dX10_resonance_28 (lv_at hl 0 rfl) ?_
      refine lv_iload_n hx hb dX10_resonance_30 rfl (lv_at hl 2 rfl) ?_
      refine lv_icmp_le (tgt := 39) hx hb dX10_resonance_31 (by decide) (fun c_1874 => ?_) (fun c_1874 => ?_)
      · skip
        refine lv_iload_n hx hb dX10_resonance_39 rfl (lv_at hl 3 rfl) ?_
        refine lv_istore_n (lv' := [(2, .int vf), (5, .int r_1873), (4, .int (nI k)), (3, .int vm), (0, .ref h0), (1, .int 0)]) hx hb dX10_resonance_40 rfl hl (by decide) rfl (fun ls hl => ?_)
        refine lv_iload_n hx hb dX10_resonance_41 rfl (lv_at hl 3 rfl) ?_
        refine lv_iload hx hb dX10_resonance_42 (lv_at hl 1 rfl) ?_
        refine va_mmax hx hb (hml.trans hl.1.symm) hown (hts _ q1380) (hts _ q451) (hts _ q56) (hts _ q452) (Nat.le_of_ble_eq_true rfl) (Nat.le_of_ble_eq_true rfl) (show (259 * k - 1036 + 259) + 0 ≤ 15799 by omega) (show (262 * k - 1048 + 262) + 0 ≤ 15982 by omega) dX10_resonance_44 ?_
        refine lv_topi (fun x_1875 ex_1875 => ?_)
        refine lv_istore_n (lv' := [(3, .int x_1875), (2, .int vf), (5, .int r_1873), (4, .int (nI k)), (0, .ref h0), (1, .int 0)]) hx hb dX10_resonance_47 rfl hl (by decide) rfl (fun ls hl => ?_)
        refine lv_iinc (v := (nI (k + 1))) (lv' := [(4, .int (nI (k + 1))), (3, .int x_1875), (2, .int vf), (5, .int r_1873), (0, .ref h0), (1, .int 0)]) hx hb dX10_resonance_48 hl (k := 3) rfl (by rw [show Int32.ofInt 1 = 1 from by decide]; exact nI_1 _) (by decide) rfl (fun ls hl => ?_)
        refine lv_goto (tgt := 12) hx hb dX10_resonance_51 (by decide) ?_
        refine W.widen (k := 259 * (k + 1) - 1036) (n := 262 * (k + 1) - 1048) (by omega) (by omega) ?_
        exact ih (k + 1) (by omega) x_1875 vf _ _ (hK.sub [0, 1, 2] rfl) (hP.sub [0, 1, 2, 3, 4, 5, 6] rfl) (hD.sub [0, 1, 2, 3, 4, 5, 6] (by decide) rfl) hS (by omega) _ (lv_sub hl [0, 1, 2, 4, 5] rfl)
      · skip
        refine lv_iload hx hb dX10_resonance_34 (lv_at hl 1 rfl) ?_
        refine lv_goto (tgt := 40) hx hb dX10_resonance_36 (by decide) ?_
        refine lv_istore_n (lv' := [(2, .int (nI k)), (5, .int r_1873), (4, .int (nI k)), (3, .int vm), (0, .ref h0), (1, .int 0)]) hx hb dX10_resonance_40 rfl hl (by decide) rfl (fun ls hl => ?_)
        refine lv_iload_n hx hb dX10_resonance_41 rfl (lv_at hl 3 rfl) ?_
        refine lv_iload hx hb dX10_resonance_42 (lv_at hl 1 rfl) ?_
        refine va_mmax hx hb (hml.trans hl.1.symm) hown (hts _ q1380) (hts _ q451) (hts _ q56) (hts _ q452) (Nat.le_of_ble_eq_true rfl) (Nat.le_of_ble_eq_true rfl) (show (259 * k - 1036 + 259) + 0 ≤ 15799 by omega) (show (262 * k - 1048 + 262) + 0 ≤ 15982 by omega) dX10_resonance_44 ?_
        refine lv_topi (fun x_1876 ex_1876 => ?_)
        refine lv_istore_n (lv' := [(3, .int x_1876), (2, .int (nI k)), (5, .int r_1873), (4, .int (nI k)), (0, .ref h0), (1, .int 0)]) hx hb dX10_resonance_47 rfl hl (by decide) rfl (fun ls hl => ?_)
        refine lv_iinc (v := (nI (k + 1))) (lv' := [(4, .int (nI (k + 1))), (3, .int x_1876), (2, .int (nI k)), (5, .int r_1873), (0, .ref h0), (1, .int 0)]) hx hb dX10_resonance_48 hl (k := 3) rfl (by rw [show Int32.ofInt 1 = 1 from by decide]; exact nI_1 _) (by decide) rfl (fun ls hl => ?_)
        refine lv_goto (tgt := 12) hx hb dX10_resonance_51 (by decide) ?_
        refine W.widen (k := 259 * (k + 1) - 1036) (n := 262 * (k + 1) - 1048) (by omega) (by omega) ?_
        exact ih (k + 1) (by omega) x_1876 (nI k) _ _ (hK.sub [0, 1, 2] rfl) (hP.sub [0, 1, 2, 3, 4, 5, 6] rfl) (hD.sub [0, 1, 2, 3, 4, 5, 6] (by decide) rfl) hS (by omega) _ (lv_sub hl [0, 1, 2, 4, 5] rfl)
  exact loop12 60 5 (by decide) r_1870 4 _ _ (hK.sub [0, 1, 2] rfl) (hP.sub [0, 1, 2, 3, 4, 5, 6] rfl) (hD.sub [0, 1, 2, 3, 4, 5, 6] (by decide) rfl) hS (by omega) _ (lv_sub hl [0, 1, 2, 3, 4] rfl)
set_option maxHeartbeats 4000000 in
set_option maxRecDepth 100000 in
theorem q_getResonance (l : Launch) (dC : Nat → ClassId) (dI : Nat → Nat → Nat) (sz : Nat) (h0 : Nat) (a : Nat) (ea : Nat) (s2 : Nat) (ml : Nat) (ce : ClassId) (m0 : Int32) (u1 : Value) (u2 : Value) (u3 : Value) (u4 : Value) (u5 : Value) (v1 : Value) (v2 : Value) (v3 : Value) (v4 : Value) (th : Int32) (eml : Nat) (mr : Nat) (cel : ClassId) (cmr : ClassId) (k0 : Int32) : Met l yX10_getResonance (pw_ws yX10_getResonance cX10_getResonance 2 (some .int)) ({ frames := 9, cells := 15799, slots := 15982, locals := 210 } : Room) (va_Pc [.ref h0, .int 0] (fun U => U.heap.size = sz ∧ va_P (dC, dI) vwCl [(h0, .inr (15, [.ref a, v1, v2, v3, v4, .int th])), (a, .inr (4, [.int m0, .ref ea, .int 1])), (ea, .inl (ce, 10, .inr (.inr (.inr (.inr (va_up (fun _ => none) 0 (some s2))))))), (s2, .inr (14, [.ref ml, u1, u2, u3, u4, u5])), (ml, .inr (4, [.int k0, .ref eml, .int 1])), (eml, .inl (cel, 10, .inr (.inr (.inr (.inr (va_up (fun _ => none) 0 (some mr))))))), (mr, .inl (cmr, 4, .inl (upd (upd (upd (upd (fun _ => 0) 0 1) 1 1) 2 0) 3 0)))] U.heap ∧ va_K (dC, dI) vwCl [(ce, .object "java/lang/Object"), (cel, .object "java/lang/Object"), (cmr, .int)] U ∧ va_D (fun _ => True) [(h0, .inr (15, [.ref a, v1, v2, v3, v4, .int th])), (a, .inr (4, [.int m0, .ref ea, .int 1])), (ea, .inl (ce, 10, .inr (.inr (.inr (.inr (va_up (fun _ => none) 0 (some s2))))))), (s2, .inr (14, [.ref ml, u1, u2, u3, u4, u5])), (ml, .inr (4, [.int k0, .ref eml, .int 1])), (eml, .inl (cel, 10, .inr (.inr (.inr (.inr (va_up (fun _ => none) 0 (some mr))))))), (mr, .inl (cmr, 4, .inl (upd (upd (upd (upd (fun _ => 0) 0 1) 1 1) 2 0) 3 0)))] ∧ pr U)) (va_Qi (fun (_ : Int32) (_ : Unit) => True) (fun (_ : Unit) (t : State) => sz + 15616 ≤ t.heap.size ∧ va_P (dC, dI) vwCl [(h0, .inr (15, [.ref a, v1, v2, v3, v4, .int 0])), (a, .inr (4, [.int m0, .ref ea, .int 1])), (ea, .inl (ce, 10, .inr (.inr (.inr (.inr (va_up (fun _ => none) 0 (some s2))))))), (s2, .inr (14, [.ref ml, u1, u2, u3, u4, u5])), (ml, .inr (4, [.int k0, .ref eml, .int 1])), (eml, .inl (cel, 10, .inr (.inr (.inr (.inr (va_up (fun _ => none) 0 (some mr))))))), (mr, .inl (cmr, 4, .inl (upd (upd (upd (upd (fun _ => 0) 0 1) 1 1) 2 0) 3 0)))] t.heap ∧ va_K (dC, dI) vwCl [(ce, .object "java/lang/Object"), (cel, .object "java/lang/Object"), (cmr, .int)] t ∧ va_D (va_A [(h0, .inr (15, [.ref a, v1, v2, v3, v4, .int th])), (a, .inr (4, [.int m0, .ref ea, .int 1])), (ea, .inl (ce, 10, .inr (.inr (.inr (.inr (va_up (fun _ => none) 0 (some s2))))))), (s2, .inr (14, [.ref ml, u1, u2, u3, u4, u5])), (ml, .inr (4, [.int k0, .ref eml, .int 1])), (eml, .inl (cel, 10, .inr (.inr (.inr (.inr (va_up (fun _ => none) 0 (some mr))))))), (mr, .inl (cmr, 4, .inl (upd (upd (upd (upd (fun _ => 0) 0 1) 1 1) 2 0) 3 0)))] sz) [(h0, .inr (15, [.ref a, v1, v2, v3, v4, .int 0])), (a, .inr (4, [.int m0, .ref ea, .int 1])), (ea, .inl (ce, 10, .inr (.inr (.inr (.inr (va_up (fun _ => none) 0 (some s2))))))), (s2, .inr (14, [.ref ml, u1, u2, u3, u4, u5])), (ml, .inr (4, [.int k0, .ref eml, .int 1])), (eml, .inl (cel, 10, .inr (.inr (.inr (.inr (va_up (fun _ => none) 0 (some mr))))))), (mr, .inl (cmr, 4, .inl (upd (upd (upd (upd (fun _ => 0) 0 1) 1 1) 2 0) 3 0)))]) (va_A [(h0, .inr (15, [.ref a, v1, v2, v3, v4, .int th])), (a, .inr (4, [.int m0, .ref ea, .int 1])), (ea, .inl (ce, 10, .inr (.inr (.inr (.inr (va_up (fun _ => none) 0 (some s2))))))), (s2, .inr (14, [.ref ml, u1, u2, u3, u4, u5])), (ml, .inr (4, [.int k0, .ref eml, .int 1])), (eml, .inl (cel, 10, .inr (.inr (.inr (.inr (va_up (fun _ => none) 0 (some mr))))))), (mr, .inl (cmr, 4, .inl (upd (upd (upd (upd (fun _ => 0) 0 1) 1 1) 2 0) 3 0)))] sz)) 15799 15982 (va_A [(h0, .inr (15, [.ref a, v1, v2, v3, v4, .int th])), (a, .inr (4, [.int m0, .ref ea, .int 1])), (ea, .inl (ce, 10, .inr (.inr (.inr (.inr (va_up (fun _ => none) 0 (some s2))))))), (s2, .inr (14, [.ref ml, u1, u2, u3, u4, u5])), (ml, .inr (4, [.int k0, .ref eml, .int 1])), (eml, .inl (cel, 10, .inr (.inr (.inr (.inr (va_up (fun _ => none) 0 (some mr))))))), (mr, .inl (cmr, 4, .inl (upd (upd (upd (upd (fun _ => 0) 0 1) 1 1) 2 0) 3 0)))] sz) := by
  refine Met.ofW (cc := cX10_getResonance) (maxL := 2) (ret := (some .int)) (by decide) rfl ?_
  intro p e s m args below meth c s₁ B hml hv
  obtain ⟨rfl, hsz, hP, hK, hD0, hR⟩ := hv
  have hx := B.exec
  have hb := B.bytes
  have hr := B.returns
  have hts0 := atoms_spec (ws := (pw_ws yX10_getResonance cX10_getResonance 2 (some .int))) B.pre
  have hts : ∀ w ∈ pw_all, w.before _ s = true := fun w h => hts0 w (List.mem_cons_of_mem _ h)
  have hown : s.vm.findClass RX10 = some m.cls := findClass_of_methodNamed B.named
  have hlocks := B.notSynchronized
  subst hsz
  have hD := hD0.self (sz := s.heap.size)
  generalize hAe : va_A [(h0, .inr (15, [.ref a, v1, v2, v3, v4, .int th])), (a, .inr (4, [.int m0, .ref ea, .int 1])), (ea, .inl (ce, 10, .inr (.inr (.inr (.inr (va_up (fun _ => none) 0 (some s2))))))), (s2, .inr (14, [.ref ml, u1, u2, u3, u4, u5])), (ml, .inr (4, [.int k0, .ref eml, .int 1])), (eml, .inl (cel, 10, .inr (.inr (.inr (.inr (va_up (fun _ => none) 0 (some mr))))))), (mr, .inl (cmr, 4, .inl (upd (upd (upd (upd (fun _ => 0) 0 1) 1 1) 2 0) 3 0)))] s.heap.size = A at hD ⊢
  have hA : ∀ q : Nat, s.heap.size ≤ q → A q := fun q h => by rw [← hAe]; exact Or.inr h
  have hS : va_S A s.heap s.heap [] := va_S.rf
  have hP : va_P (dC, dI) vwCl [(h0, .inr (15, [.ref a, v1, v2, v3, v4, .int th])), (a, .inr (4, [.int m0, .ref ea, .int 1])), (ea, .inl (ce, 10, .inr (.inr (.inr (.inr (va_up (fun _ => none) 0 (some s2))))))), (s2, .inr (14, [.ref ml, u1, u2, u3, u4, u5])), (ml, .inr (4, [.int k0, .ref eml, .int 1])), (eml, .inl (cel, 10, .inr (.inr (.inr (.inr (va_up (fun _ => none) 0 (some mr))))))), (mr, .inl (cmr, 4, .inl (upd (upd (upd (upd (fun _ => 0) 0 1) 1 1) 2 0) 3 0)))] s.heap := hP
  have hl := lv_entry ([.ref h0, .int 0]) (n := 2) (Nat.le_of_ble_eq_true rfl)
  rw [lg_entry_eq]
  generalize (lg_sl ([.ref h0, .int 0]) ++ List.replicate (2 - (lg_sl ([.ref h0, .int 0])).length) Slot.unset).toArray = ls at hl ⊢
  have hl : lv_has ls 2 [(0, .ref h0), (1, .int 0)] := hl
  skip
  have hsz : s.heap.size + 0 ≤ s.heap.size := Nat.le_refl _
  refine lv_aload_n hx hb dX10_getResonance_0 rfl (lv_at hl 0 rfl) ?_
  refine lv_aload_n hx hb dX10_getResonance_1 rfl (lv_at hl 0 rfl) ?_
  refine lv_iload_n hx hb dX10_getResonance_2 rfl (lv_at hl 1 rfl) ?_
  have hPc := hP.sub (ws' := [(h0, .inr (15, [.ref a, v1, v2, v3, v4, .int th])), (a, .inr (4, [.int m0, .ref ea, .int 1]))]) [0, 1] rfl
  have hDc := hD.sub (ws' := [(h0, .inr (15, [.ref a, v1, v2, v3, v4, .int th])), (a, .inr (4, [.int m0, .ref ea, .int 1]))]) [0, 1] (by decide) rfl
  have hKc := hK.sub (tys' := []) [] rfl
  have hFc := va_free (wc := [(h0, .inr (15, [.ref a, v1, v2, v3, v4, .int th])), (a, .inr (4, [.int m0, .ref ea, .int 1]))]) hD hS hA [0, 1] rfl
  refine va_calli (va_runV (As := [.int 0]) (rest := [.ref h0]) ⟨hx, hb, hml, hown, hts⟩ (q_isNoStructure l dC dI s.heap.size h0 a v1 v2 v3 v4 (.int th) (.int m0) (.ref ea)) (cwV 1 hts (pw_V q1295 q1297 q20 q49 q1298) rfl rfl rfl (by decide +kernel) ⟨(Nat.le_of_ble_eq_true rfl), (Nat.le_of_ble_eq_true rfl)⟩) ⟨fun a U g mk q => by obtain ⟨q0, q1, qP, qK, qD⟩ := q; exact ⟨q0, q1, qP, va_K.moved (u := U) (U := U.calling g mk a) (Vm.Alike.refl U.vm) qK, qD⟩, va_recv hKc hPc (ci := 15) (q0 := 0) rfl rfl, fun U hU hW => ⟨rfl, by rw [hU], by rw [hU]; exact hPc, va_K.moved hW.alike hKc, hDc.weaken (fun _ _ _ _ => trivial)⟩⟩ rfl rfl hl.1 rfl (lv_room (Nat.le_of_ble_eq_true rfl)) dX10_getResonance_3 ⟨(Nat.le_of_ble_eq_true rfl), (Nat.le_of_ble_eq_true rfl)⟩) hS (fun q _ h => hFc q h) hFc (fun r_1877 u t H1 locs ht hvm hw hB hz1 hk1 hS => ?_)
  obtain ⟨hP1, hK1, hD1⟩ := hB
  rw [ht] at hP1
  have hsz : s.heap.size + 0 ≤ H1.size := by omega
  have hK1 := va_K.moved hvm.symm hK1
  obtain ⟨hP, hD⟩ := va_join (wr := [(ea, .inl (ce, 10, .inr (.inr (.inr (.inr (va_up (fun _ => none) 0 (some s2))))))), (s2, .inr (14, [.ref ml, u1, u2, u3, u4, u5])), (ml, .inr (4, [.int k0, .ref eml, .int 1])), (eml, .inl (cel, 10, .inr (.inr (.inr (.inr (va_up (fun _ => none) 0 (some mr))))))), (mr, .inl (cmr, 4, .inl (upd (upd (upd (upd (fun _ => 0) 0 1) 1 1) 2 0) 3 0)))]) (w1 := [(h0, .inr (15, [.ref a, v1, v2, v3, v4, .int th])), (a, .inr (4, [.int m0, .ref ea, .int 1]))]) hP hD [0, 1] [2, 3, 4, 5, 6] rfl rfl (by decide) (by decide) hk1 hFc hP1 hD1
  have hK := (hK.sub (tys' := [(ce, .object "java/lang/Object"), (cel, .object "java/lang/Object"), (cmr, .int)]) [0, 1, 2] rfl).app hK1
  generalize H1 = H at hP hS hsz ⊢
  have hP : va_P (dC, dI) vwCl [(ea, .inl (ce, 10, .inr (.inr (.inr (.inr (va_up (fun _ => none) 0 (some s2))))))), (s2, .inr (14, [.ref ml, u1, u2, u3, u4, u5])), (ml, .inr (4, [.int k0, .ref eml, .int 1])), (eml, .inl (cel, 10, .inr (.inr (.inr (.inr (va_up (fun _ => none) 0 (some mr))))))), (mr, .inl (cmr, 4, .inl (upd (upd (upd (upd (fun _ => 0) 0 1) 1 1) 2 0) 3 0))), (h0, .inr (15, [.ref a, v1, v2, v3, v4, .int th])), (a, .inr (4, [.int m0, .ref ea, .int 1]))] H := hP
  have hD : va_D A [(ea, .inl (ce, 10, .inr (.inr (.inr (.inr (va_up (fun _ => none) 0 (some s2))))))), (s2, .inr (14, [.ref ml, u1, u2, u3, u4, u5])), (ml, .inr (4, [.int k0, .ref eml, .int 1])), (eml, .inl (cel, 10, .inr (.inr (.inr (.inr (va_up (fun _ => none) 0 (some mr))))))), (mr, .inl (cmr, 4, .inl (upd (upd (upd (upd (fun _ => 0) 0 1) 1 1) 2 0) 3 0))), (h0, .inr (15, [.ref a, v1, v2, v3, v4, .int th])), (a, .inr (4, [.int m0, .ref ea, .int 1]))] := hD
  have hK : va_K (dC, dI) vwCl [(ce, .object "java/lang/Object"), (cel, .object "java/lang/Object"), (cmr, .int)] s := hK
  refine W.widen (k := 0) (n := 0) (Nat.le_of_ble_eq_true rfl) (Nat.le_of_ble_eq_true rfl) ?_
  have hw : r_1877 = 0 := hw
  subst hw
  refine lv_iconst (v := 1) hx hb dX10_getResonance_6 (by decide) ?_
  have hPc := hP.sub (ws' := [(h0, .inr (15, [.ref a, v1, v2, v3, v4, .int th]))]) [5] rfl
  have hDc := hD.sub (ws' := [(h0, .inr (15, [.ref a, v1, v2, v3, v4, .int th]))]) [5] (by decide) rfl
  have hKc := hK.sub (tys' := []) [] rfl
  have hFc := va_free (wc := [(h0, .inr (15, [.ref a, v1, v2, v3, v4, .int th]))]) hD hS hA [5] rfl
  refine va_calli (va_runV (As := [.int 0, .int 1]) (rest := []) ⟨hx, hb, hml, hown, hts⟩ (n_isThrown0 l dC dI H.size h0 (.ref a) v1 v2 v3 v4 th 1) (cwV 2 hts (pw_V q1253 q1255 q19 q49 q1256) rfl rfl rfl (by decide +kernel) ⟨(Nat.le_of_ble_eq_true rfl), (Nat.le_of_ble_eq_true rfl)⟩) ⟨fun a U g mk q => by obtain ⟨q0, q1, qP, qK, qD⟩ := q; exact ⟨q0, q1, qP, va_K.moved (u := U) (U := U.calling g mk a) (Vm.Alike.refl U.vm) qK, qD⟩, va_recv hKc hPc (ci := 15) (q0 := 0) rfl rfl, fun U hU hW => ⟨rfl, by rw [hU], by rw [hU]; exact hPc, va_K.moved hW.alike hKc, hDc.weaken (fun _ _ _ _ => trivial)⟩⟩ rfl rfl hl.1 rfl (lv_room (Nat.le_of_ble_eq_true rfl)) dX10_getResonance_7 ⟨(Nat.le_of_ble_eq_true rfl), (Nat.le_of_ble_eq_true rfl)⟩) hS (fun q _ h => hFc q h) hFc (fun r_1878 u t H1 locs ht hvm hw hB hz1 hk1 hS => ?_)
  obtain ⟨hP1, hK1, hD1⟩ := hB
  rw [ht] at hP1
  have hsz : s.heap.size + 0 ≤ H1.size := by omega
  have hK1 := va_K.moved hvm.symm hK1
  obtain ⟨hP, hD⟩ := va_join (wr := [(ea, .inl (ce, 10, .inr (.inr (.inr (.inr (va_up (fun _ => none) 0 (some s2))))))), (s2, .inr (14, [.ref ml, u1, u2, u3, u4, u5])), (ml, .inr (4, [.int k0, .ref eml, .int 1])), (eml, .inl (cel, 10, .inr (.inr (.inr (.inr (va_up (fun _ => none) 0 (some mr))))))), (mr, .inl (cmr, 4, .inl (upd (upd (upd (upd (fun _ => 0) 0 1) 1 1) 2 0) 3 0))), (a, .inr (4, [.int m0, .ref ea, .int 1]))]) (w1 := [(h0, .inr (15, [.ref a, v1, v2, v3, v4, .int 0]))]) hP hD [5] [0, 1, 2, 3, 4, 6] rfl rfl (by decide) (by decide) hk1 hFc hP1 hD1
  have hK := (hK.sub (tys' := [(ce, .object "java/lang/Object"), (cel, .object "java/lang/Object"), (cmr, .int)]) [0, 1, 2] rfl).app hK1
  generalize H1 = H at hP hS hsz ⊢
  have hP : va_P (dC, dI) vwCl [(ea, .inl (ce, 10, .inr (.inr (.inr (.inr (va_up (fun _ => none) 0 (some s2))))))), (s2, .inr (14, [.ref ml, u1, u2, u3, u4, u5])), (ml, .inr (4, [.int k0, .ref eml, .int 1])), (eml, .inl (cel, 10, .inr (.inr (.inr (.inr (va_up (fun _ => none) 0 (some mr))))))), (mr, .inl (cmr, 4, .inl (upd (upd (upd (upd (fun _ => 0) 0 1) 1 1) 2 0) 3 0))), (a, .inr (4, [.int m0, .ref ea, .int 1])), (h0, .inr (15, [.ref a, v1, v2, v3, v4, .int 0]))] H := hP
  have hD : va_D A [(ea, .inl (ce, 10, .inr (.inr (.inr (.inr (va_up (fun _ => none) 0 (some s2))))))), (s2, .inr (14, [.ref ml, u1, u2, u3, u4, u5])), (ml, .inr (4, [.int k0, .ref eml, .int 1])), (eml, .inl (cel, 10, .inr (.inr (.inr (.inr (va_up (fun _ => none) 0 (some mr))))))), (mr, .inl (cmr, 4, .inl (upd (upd (upd (upd (fun _ => 0) 0 1) 1 1) 2 0) 3 0))), (a, .inr (4, [.int m0, .ref ea, .int 1])), (h0, .inr (15, [.ref a, v1, v2, v3, v4, .int 0]))] := hD
  have hK : va_K (dC, dI) vwCl [(ce, .object "java/lang/Object"), (cel, .object "java/lang/Object"), (cmr, .int)] s := hK
  refine W.widen (k := 0) (n := 0) (Nat.le_of_ble_eq_true rfl) (Nat.le_of_ble_eq_true rfl) ?_
  have hw : r_1878 = 0 := hw
  subst hw
  refine lv_if_ne (tgt := 26) hx hb dX10_getResonance_10 (by decide) (fun c_1879 => absurd (by decide) c_1879) (fun c_1879 => ?_)
  refine lv_aload_n hx hb dX10_getResonance_13 rfl (lv_at hl 0 rfl) ?_
  refine lv_aload_n hx hb dX10_getResonance_14 rfl (lv_at hl 0 rfl) ?_
  refine lv_iload_n hx hb dX10_getResonance_15 rfl (lv_at hl 1 rfl) ?_
  have hPc := hP.sub (ws' := [(h0, .inr (15, [.ref a, v1, v2, v3, v4, .int 0])), (a, .inr (4, [.int m0, .ref ea, .int 1])), (ea, .inl (ce, 10, .inr (.inr (.inr (.inr (va_up (fun _ => none) 0 (some s2))))))), (s2, .inr (14, [.ref ml, u1, u2, u3, u4, u5])), (ml, .inr (4, [.int k0, .ref eml, .int 1]))]) [6, 5, 0, 1, 2] rfl
  have hDc := hD.sub (ws' := [(h0, .inr (15, [.ref a, v1, v2, v3, v4, .int 0])), (a, .inr (4, [.int m0, .ref ea, .int 1])), (ea, .inl (ce, 10, .inr (.inr (.inr (.inr (va_up (fun _ => none) 0 (some s2))))))), (s2, .inr (14, [.ref ml, u1, u2, u3, u4, u5])), (ml, .inr (4, [.int k0, .ref eml, .int 1]))]) [6, 5, 0, 1, 2] (by decide) rfl
  have hKc := hK.sub (tys' := [(ce, .object "java/lang/Object")]) [0] rfl
  have hFc := va_free (wc := [(h0, .inr (15, [.ref a, v1, v2, v3, v4, .int 0])), (a, .inr (4, [.int m0, .ref ea, .int 1])), (ea, .inl (ce, 10, .inr (.inr (.inr (.inr (va_up (fun _ => none) 0 (some s2))))))), (s2, .inr (14, [.ref ml, u1, u2, u3, u4, u5])), (ml, .inr (4, [.int k0, .ref eml, .int 1]))]) hD hS hA [6, 5, 0, 1, 2] rfl
  refine va_calli (va_runV (As := [.int 0]) (rest := [.ref h0]) ⟨hx, hb, hml, hown, hts⟩ (q_isBare l dC dI H.size h0 a ea s2 ml ce m0 u1 u2 u3 u4 u5 v1 v2 v3 v4 (.int 0) eml k0) (cwV 1 hts (pw_V q1385 q1387 q23 q49 q1388) rfl rfl rfl (by decide +kernel) ⟨(Nat.le_of_ble_eq_true rfl), (Nat.le_of_ble_eq_true rfl)⟩) ⟨fun a U g mk q => by obtain ⟨q0, q1, qP, qK, qD, qR⟩ := q; exact ⟨q0, q1, qP, va_K.moved (u := U) (U := U.calling g mk a) (Vm.Alike.refl U.vm) qK, qD, qR.same rfl⟩, va_recv hKc hPc (ci := 15) (q0 := 0) rfl rfl, fun U hU hW => ⟨rfl, by rw [hU], by rw [hU]; exact hPc, va_K.moved hW.alike hKc, hDc.weaken (fun _ _ _ _ => trivial), hR.warm hW⟩⟩ rfl rfl hl.1 rfl (lv_room (Nat.le_of_ble_eq_true rfl)) dX10_getResonance_16 ⟨(Nat.le_of_ble_eq_true rfl), (Nat.le_of_ble_eq_true rfl)⟩) hS (fun q _ h => hFc q h) hFc (fun r_1880 u t H1 locs ht hvm hw hB hz1 hk1 hS => ?_)
  obtain ⟨hP1, hK1, hD1⟩ := hB
  rw [ht] at hP1
  have hsz : s.heap.size + 0 ≤ H1.size := by omega
  have hK1 := va_K.moved hvm.symm hK1
  obtain ⟨hP, hD⟩ := va_join (wr := [(eml, .inl (cel, 10, .inr (.inr (.inr (.inr (va_up (fun _ => none) 0 (some mr))))))), (mr, .inl (cmr, 4, .inl (upd (upd (upd (upd (fun _ => 0) 0 1) 1 1) 2 0) 3 0)))]) (w1 := [(h0, .inr (15, [.ref a, v1, v2, v3, v4, .int 0])), (a, .inr (4, [.int m0, .ref ea, .int 1])), (ea, .inl (ce, 10, .inr (.inr (.inr (.inr (va_up (fun _ => none) 0 (some s2))))))), (s2, .inr (14, [.ref ml, u1, u2, u3, u4, u5])), (ml, .inr (4, [.int k0, .ref eml, .int 1]))]) hP hD [6, 5, 0, 1, 2] [3, 4] rfl rfl (by decide) (by decide) hk1 hFc hP1 hD1
  have hK := (hK.sub (tys' := [(cel, .object "java/lang/Object"), (cmr, .int)]) [1, 2] rfl).app hK1
  generalize H1 = H at hP hS hsz ⊢
  have hP : va_P (dC, dI) vwCl [(eml, .inl (cel, 10, .inr (.inr (.inr (.inr (va_up (fun _ => none) 0 (some mr))))))), (mr, .inl (cmr, 4, .inl (upd (upd (upd (upd (fun _ => 0) 0 1) 1 1) 2 0) 3 0))), (h0, .inr (15, [.ref a, v1, v2, v3, v4, .int 0])), (a, .inr (4, [.int m0, .ref ea, .int 1])), (ea, .inl (ce, 10, .inr (.inr (.inr (.inr (va_up (fun _ => none) 0 (some s2))))))), (s2, .inr (14, [.ref ml, u1, u2, u3, u4, u5])), (ml, .inr (4, [.int k0, .ref eml, .int 1]))] H := hP
  have hD : va_D A [(eml, .inl (cel, 10, .inr (.inr (.inr (.inr (va_up (fun _ => none) 0 (some mr))))))), (mr, .inl (cmr, 4, .inl (upd (upd (upd (upd (fun _ => 0) 0 1) 1 1) 2 0) 3 0))), (h0, .inr (15, [.ref a, v1, v2, v3, v4, .int 0])), (a, .inr (4, [.int m0, .ref ea, .int 1])), (ea, .inl (ce, 10, .inr (.inr (.inr (.inr (va_up (fun _ => none) 0 (some s2))))))), (s2, .inr (14, [.ref ml, u1, u2, u3, u4, u5])), (ml, .inr (4, [.int k0, .ref eml, .int 1]))] := hD
  have hK : va_K (dC, dI) vwCl [(cel, .object "java/lang/Object"), (cmr, .int), (ce, .object "java/lang/Object")] s := hK
  refine W.widen (k := 0) (n := 0) (Nat.le_of_ble_eq_true rfl) (Nat.le_of_ble_eq_true rfl) ?_
  have hw : r_1880 = 0 := hw
  subst hw
  refine lv_iconst (v := 2) hx hb dX10_getResonance_19 (by decide) ?_
  have hPc := hP.sub (ws' := [(h0, .inr (15, [.ref a, v1, v2, v3, v4, .int 0]))]) [2] rfl
  have hDc := hD.sub (ws' := [(h0, .inr (15, [.ref a, v1, v2, v3, v4, .int 0]))]) [2] (by decide) rfl
  have hKc := hK.sub (tys' := []) [] rfl
  have hFc := va_free (wc := [(h0, .inr (15, [.ref a, v1, v2, v3, v4, .int 0]))]) hD hS hA [2] rfl
  refine va_calli (va_runV (As := [.int 0, .int 2]) (rest := []) ⟨hx, hb, hml, hown, hts⟩ (n_isThrown0 l dC dI H.size h0 (.ref a) v1 v2 v3 v4 0 2) (cwV 2 hts (pw_V q1253 q1255 q19 q49 q1256) rfl rfl rfl (by decide +kernel) ⟨(Nat.le_of_ble_eq_true rfl), (Nat.le_of_ble_eq_true rfl)⟩) ⟨fun a U g mk q => by obtain ⟨q0, q1, qP, qK, qD⟩ := q; exact ⟨q0, q1, qP, va_K.moved (u := U) (U := U.calling g mk a) (Vm.Alike.refl U.vm) qK, qD⟩, va_recv hKc hPc (ci := 15) (q0 := 0) rfl rfl, fun U hU hW => ⟨rfl, by rw [hU], by rw [hU]; exact hPc, va_K.moved hW.alike hKc, hDc.weaken (fun _ _ _ _ => trivial)⟩⟩ rfl rfl hl.1 rfl (lv_room (Nat.le_of_ble_eq_true rfl)) dX10_getResonance_20 ⟨(Nat.le_of_ble_eq_true rfl), (Nat.le_of_ble_eq_true rfl)⟩) hS (fun q _ h => hFc q h) hFc (fun r_1881 u t H1 locs ht hvm hw hB hz1 hk1 hS => ?_)
  obtain ⟨hP1, hK1, hD1⟩ := hB
  rw [ht] at hP1
  have hsz : s.heap.size + 0 ≤ H1.size := by omega
  have hK1 := va_K.moved hvm.symm hK1
  obtain ⟨hP, hD⟩ := va_join (wr := [(eml, .inl (cel, 10, .inr (.inr (.inr (.inr (va_up (fun _ => none) 0 (some mr))))))), (mr, .inl (cmr, 4, .inl (upd (upd (upd (upd (fun _ => 0) 0 1) 1 1) 2 0) 3 0))), (a, .inr (4, [.int m0, .ref ea, .int 1])), (ea, .inl (ce, 10, .inr (.inr (.inr (.inr (va_up (fun _ => none) 0 (some s2))))))), (s2, .inr (14, [.ref ml, u1, u2, u3, u4, u5])), (ml, .inr (4, [.int k0, .ref eml, .int 1]))]) (w1 := [(h0, .inr (15, [.ref a, v1, v2, v3, v4, .int 0]))]) hP hD [2] [0, 1, 3, 4, 5, 6] rfl rfl (by decide) (by decide) hk1 hFc hP1 hD1
  have hK := (hK.sub (tys' := [(cel, .object "java/lang/Object"), (cmr, .int), (ce, .object "java/lang/Object")]) [0, 1, 2] rfl).app hK1
  generalize H1 = H at hP hS hsz ⊢
  have hP : va_P (dC, dI) vwCl [(eml, .inl (cel, 10, .inr (.inr (.inr (.inr (va_up (fun _ => none) 0 (some mr))))))), (mr, .inl (cmr, 4, .inl (upd (upd (upd (upd (fun _ => 0) 0 1) 1 1) 2 0) 3 0))), (a, .inr (4, [.int m0, .ref ea, .int 1])), (ea, .inl (ce, 10, .inr (.inr (.inr (.inr (va_up (fun _ => none) 0 (some s2))))))), (s2, .inr (14, [.ref ml, u1, u2, u3, u4, u5])), (ml, .inr (4, [.int k0, .ref eml, .int 1])), (h0, .inr (15, [.ref a, v1, v2, v3, v4, .int 0]))] H := hP
  have hD : va_D A [(eml, .inl (cel, 10, .inr (.inr (.inr (.inr (va_up (fun _ => none) 0 (some mr))))))), (mr, .inl (cmr, 4, .inl (upd (upd (upd (upd (fun _ => 0) 0 1) 1 1) 2 0) 3 0))), (a, .inr (4, [.int m0, .ref ea, .int 1])), (ea, .inl (ce, 10, .inr (.inr (.inr (.inr (va_up (fun _ => none) 0 (some s2))))))), (s2, .inr (14, [.ref ml, u1, u2, u3, u4, u5])), (ml, .inr (4, [.int k0, .ref eml, .int 1])), (h0, .inr (15, [.ref a, v1, v2, v3, v4, .int 0]))] := hD
  have hK : va_K (dC, dI) vwCl [(cel, .object "java/lang/Object"), (cmr, .int), (ce, .object "java/lang/Object")] s := hK
  refine W.widen (k := 0) (n := 0) (Nat.le_of_ble_eq_true rfl) (Nat.le_of_ble_eq_true rfl) ?_
  have hw : r_1881 = 0 := hw
  subst hw
  refine lv_if_eq (tgt := 30) hx hb dX10_getResonance_23 (by decide) (fun c_1882 => ?_) (fun c_1882 => absurd (by decide) c_1882)
  refine lv_aload_n hx hb dX10_getResonance_30 rfl (lv_at hl 0 rfl) ?_
  refine lv_iload_n hx hb dX10_getResonance_31 rfl (lv_at hl 1 rfl) ?_
  have hPc := hP.sub (ws' := [(h0, .inr (15, [.ref a, v1, v2, v3, v4, .int 0])), (a, .inr (4, [.int m0, .ref ea, .int 1])), (ea, .inl (ce, 10, .inr (.inr (.inr (.inr (va_up (fun _ => none) 0 (some s2))))))), (s2, .inr (14, [.ref ml, u1, u2, u3, u4, u5])), (ml, .inr (4, [.int k0, .ref eml, .int 1])), (eml, .inl (cel, 10, .inr (.inr (.inr (.inr (va_up (fun _ => none) 0 (some mr))))))), (mr, .inl (cmr, 4, .inl (upd (upd (upd (upd (fun _ => 0) 0 1) 1 1) 2 0) 3 0)))]) [6, 2, 3, 4, 5, 0, 1] rfl
  have hDc := hD.sub (ws' := [(h0, .inr (15, [.ref a, v1, v2, v3, v4, .int 0])), (a, .inr (4, [.int m0, .ref ea, .int 1])), (ea, .inl (ce, 10, .inr (.inr (.inr (.inr (va_up (fun _ => none) 0 (some s2))))))), (s2, .inr (14, [.ref ml, u1, u2, u3, u4, u5])), (ml, .inr (4, [.int k0, .ref eml, .int 1])), (eml, .inl (cel, 10, .inr (.inr (.inr (.inr (va_up (fun _ => none) 0 (some mr))))))), (mr, .inl (cmr, 4, .inl (upd (upd (upd (upd (fun _ => 0) 0 1) 1 1) 2 0) 3 0)))]) [6, 2, 3, 4, 5, 0, 1] (by decide) rfl
  have hKc := hK.sub (tys' := [(ce, .object "java/lang/Object"), (cel, .object "java/lang/Object"), (cmr, .int)]) [2, 0, 1] rfl
  have hFc := va_free (wc := [(h0, .inr (15, [.ref a, v1, v2, v3, v4, .int 0])), (a, .inr (4, [.int m0, .ref ea, .int 1])), (ea, .inl (ce, 10, .inr (.inr (.inr (.inr (va_up (fun _ => none) 0 (some s2))))))), (s2, .inr (14, [.ref ml, u1, u2, u3, u4, u5])), (ml, .inr (4, [.int k0, .ref eml, .int 1])), (eml, .inl (cel, 10, .inr (.inr (.inr (.inr (va_up (fun _ => none) 0 (some mr))))))), (mr, .inl (cmr, 4, .inl (upd (upd (upd (upd (fun _ => 0) 0 1) 1 1) 2 0) 3 0)))]) hD hS hA [6, 2, 3, 4, 5, 0, 1] rfl
  refine va_calli (va_runV (As := [.int 0]) (rest := []) ⟨hx, hb, hml, hown, hts⟩ (q_resonance l dC dI H.size h0 a ea s2 ml ce m0 u1 u2 u3 u4 u5 v1 v2 v3 v4 (.int 0) eml mr cel cmr k0) (cwV 1 hts (pw_V q1393 q1395 q24 q49 q1396) rfl rfl rfl (by decide +kernel) ⟨(Nat.le_of_ble_eq_true rfl), (Nat.le_of_ble_eq_true rfl)⟩) ⟨fun a U g mk q => by obtain ⟨q0, q1, qP, qK, qD, qR⟩ := q; exact ⟨q0, q1, qP, va_K.moved (u := U) (U := U.calling g mk a) (Vm.Alike.refl U.vm) qK, qD, qR.same rfl⟩, va_recv hKc hPc (ci := 15) (q0 := 0) rfl rfl, fun U hU hW => ⟨rfl, by rw [hU], by rw [hU]; exact hPc, va_K.moved hW.alike hKc, hDc.weaken (fun _ _ _ _ => trivial), hR.warm hW⟩⟩ rfl rfl hl.1 rfl (lv_room (Nat.le_of_ble_eq_true rfl)) dX10_getResonance_32 ⟨(Nat.le_of_ble_eq_true rfl), (Nat.le_of_ble_eq_true rfl)⟩) hS (fun q _ h => hFc q h) hFc (fun r_1883 u t H1 locs ht hvm hw hB hz1 hk1 hS => ?_)
  obtain ⟨hgr, hP1, hK1, hD1⟩ := hB
  rw [ht] at hP1 hgr
  have hsz : s.heap.size + (0 + 15616) ≤ H1.size := by omega
  have hK1 := va_K.moved hvm.symm hK1
  obtain ⟨hP, hD⟩ := va_join (wr := []) (w1 := [(h0, .inr (15, [.ref a, v1, v2, v3, v4, .int 0])), (a, .inr (4, [.int m0, .ref ea, .int 1])), (ea, .inl (ce, 10, .inr (.inr (.inr (.inr (va_up (fun _ => none) 0 (some s2))))))), (s2, .inr (14, [.ref ml, u1, u2, u3, u4, u5])), (ml, .inr (4, [.int k0, .ref eml, .int 1])), (eml, .inl (cel, 10, .inr (.inr (.inr (.inr (va_up (fun _ => none) 0 (some mr))))))), (mr, .inl (cmr, 4, .inl (upd (upd (upd (upd (fun _ => 0) 0 1) 1 1) 2 0) 3 0)))]) hP hD [6, 2, 3, 4, 5, 0, 1] [] rfl rfl (by decide) (by decide) hk1 hFc hP1 hD1
  have hK := (hK.sub (tys' := []) [] rfl).app hK1
  generalize H1 = H at hP hS hsz ⊢
  have hP : va_P (dC, dI) vwCl [(h0, .inr (15, [.ref a, v1, v2, v3, v4, .int 0])), (a, .inr (4, [.int m0, .ref ea, .int 1])), (ea, .inl (ce, 10, .inr (.inr (.inr (.inr (va_up (fun _ => none) 0 (some s2))))))), (s2, .inr (14, [.ref ml, u1, u2, u3, u4, u5])), (ml, .inr (4, [.int k0, .ref eml, .int 1])), (eml, .inl (cel, 10, .inr (.inr (.inr (.inr (va_up (fun _ => none) 0 (some mr))))))), (mr, .inl (cmr, 4, .inl (upd (upd (upd (upd (fun _ => 0) 0 1) 1 1) 2 0) 3 0)))] H := hP
  have hD : va_D A [(h0, .inr (15, [.ref a, v1, v2, v3, v4, .int 0])), (a, .inr (4, [.int m0, .ref ea, .int 1])), (ea, .inl (ce, 10, .inr (.inr (.inr (.inr (va_up (fun _ => none) 0 (some s2))))))), (s2, .inr (14, [.ref ml, u1, u2, u3, u4, u5])), (ml, .inr (4, [.int k0, .ref eml, .int 1])), (eml, .inl (cel, 10, .inr (.inr (.inr (.inr (va_up (fun _ => none) 0 (some mr))))))), (mr, .inl (cmr, 4, .inl (upd (upd (upd (upd (fun _ => 0) 0 1) 1 1) 2 0) 3 0)))] := hD
  have hK : va_K (dC, dI) vwCl [(ce, .object "java/lang/Object"), (cel, .object "java/lang/Object"), (cmr, .int)] s := hK
  refine W.widen (k := 15799) (n := 15982) (Nat.le_of_ble_eq_true rfl) (Nat.le_of_ble_eq_true rfl) ?_
  have hP9 := hP.sub (ws' := [(h0, .inr (15, [.ref a, v1, v2, v3, v4, .int 0])), (a, .inr (4, [.int m0, .ref ea, .int 1])), (ea, .inl (ce, 10, .inr (.inr (.inr (.inr (va_up (fun _ => none) 0 (some s2))))))), (s2, .inr (14, [.ref ml, u1, u2, u3, u4, u5])), (ml, .inr (4, [.int k0, .ref eml, .int 1])), (eml, .inl (cel, 10, .inr (.inr (.inr (.inr (va_up (fun _ => none) 0 (some mr))))))), (mr, .inl (cmr, 4, .inl (upd (upd (upd (upd (fun _ => 0) 0 1) 1 1) 2 0) 3 0)))]) [0, 1, 2, 3, 4, 5, 6] rfl
  have hD9 := hD.sub (ws' := [(h0, .inr (15, [.ref a, v1, v2, v3, v4, .int 0])), (a, .inr (4, [.int m0, .ref ea, .int 1])), (ea, .inl (ce, 10, .inr (.inr (.inr (.inr (va_up (fun _ => none) 0 (some s2))))))), (s2, .inr (14, [.ref ml, u1, u2, u3, u4, u5])), (ml, .inr (4, [.int k0, .ref eml, .int 1])), (eml, .inl (cel, 10, .inr (.inr (.inr (.inr (va_up (fun _ => none) 0 (some mr))))))), (mr, .inl (cmr, 4, .inl (upd (upd (upd (upd (fun _ => 0) 0 1) 1 1) 2 0) 3 0)))]) [0, 1, 2, 3, 4, 5, 6] (by decide) rfl
  have hK9 := hK.sub (tys' := [(ce, .object "java/lang/Object"), (cel, .object "java/lang/Object"), (cmr, .int)]) [0, 1, 2] rfl
  refine W.widen (k := 15799) (n := 15982) (Nat.le_of_ble_eq_true rfl) (Nat.le_of_ble_eq_true rfl) ?_
  exact W.iret (v := r_1883) hx hb hr (fun t ht hW => ⟨⟨r_1883, (), rfl, trivial, ⟨by rw [ht]; omega, by rw [ht]; exact hP9, va_K.moved hW.alike hK9, hD9⟩⟩, hS.F ht⟩) hS.2.2 dX10_getResonance_35
