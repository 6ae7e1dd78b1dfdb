set_option maxHeartbeats 4000000 in
set_option maxRecDepth 100000 in
theorem m_mstructInit (l : Launch) (dC : Nat → ClassId) (dI : Nat → Nat → Nat) (sz : Nat) (ed : Nat) (h0 : Nat) : Met l yX9_init (pw_ws yX9_init cX9_init 1 none) ({ frames := 4, cells := 2, slots := 11, locals := 80 } : Room) (va_Pc [.ref h0] (fun U => U.heap.size = sz ∧ va_P (dC, dI) vwCl [(h0, .inr (14, [.null, .null, .long 0, .int 0, .int 0, .int 0]))] U.heap ∧ va_K (dC, dI) vwCl [] U ∧ va_D (fun _ => True) [(h0, .inr (14, [.null, .null, .long 0, .int 0, .int 0, .int 0]))] ∧ pz ed (va_A [(h0, .inr (14, [.null, .null, .long 0, .int 0, .int 0, .int 0]))] sz) U U.heap)) (va_Qv (fun (_ : Unit) => True) (fun (_ : Unit) (t : State) => ∃ (f0 : Value), ∃ (f1 : Value), ∃ (f2 : Value), ∃ (f3 : Value), ∃ (f4 : Value), ∃ (f5 : Value), va_P (dC, dI) vwCl [(h0, .inr (14, [f0, f1, f2, f3, f4, f5]))] t.heap ∧ va_K (dC, dI) vwCl [] t ∧ va_D (va_A [(h0, .inr (14, [.null, .null, .long 0, .int 0, .int 0, .int 0]))] sz) [(h0, .inr (14, [f0, f1, f2, f3, f4, f5]))]) (va_A [(h0, .inr (14, [.null, .null, .long 0, .int 0, .int 0, .int 0]))] sz)) 2 11 (va_A [(h0, .inr (14, [.null, .null, .long 0, .int 0, .int 0, .int 0]))] sz) := by
  refine Met.ofW (cc := cX9_init) (maxL := 1) (ret := none) (by decide) rfl ?_
  intro p e s m args below meth c s₁ B hml hv
  obtain ⟨rfl, hsz, hP, hK, hD0, hZ⟩ := hv
  have hx := B.exec
  have hb := B.bytes
  have hr := B.returns
  have hts0 := atoms_spec (ws := (pw_ws yX9_init cX9_init 1 none)) B.pre
  have hts : ∀ w ∈ pw_all, w.before _ s = true := fun w h => hts0 w (List.mem_cons_of_mem _ h)
  have hown : s.vm.findClass RX9 = some m.cls := findClass_of_methodNamed B.named
  have hlocks := B.notSynchronized
  have hin : meth.name = "<init>" := (name_of_methodNamed B.named B.method).1
  subst hsz
  have hD := hD0.self (sz := s.heap.size)
  generalize hAe : va_A [(h0, .inr (14, [.null, .null, .long 0, .int 0, .int 0, .int 0]))] s.heap.size = A at hD hZ ⊢
  have hA : ∀ q : Nat, s.heap.size ≤ q → A q := fun q h => by rw [← hAe]; exact Or.inr h
  have hS : va_S A s.heap s.heap [] := va_S.rf
  have hP : va_P (dC, dI) vwCl [(h0, .inr (14, [.null, .null, .long 0, .int 0, .int 0, .int 0]))] s.heap := hP
  have hl := lv_entry ([.ref h0]) (n := 1) (Nat.le_of_ble_eq_true rfl)
  rw [lg_entry_eq]
  generalize (lg_sl ([.ref h0]) ++ List.replicate (1 - (lg_sl ([.ref h0])).length) Slot.unset).toArray = ls at hl ⊢
  have hl : lv_has ls 1 [(0, .ref h0)] := hl
  skip
  refine lv_aload_n hx hb dX9_init_0 rfl (lv_at hl 0 rfl) ?_
  refine W.objInit hx hb hown (hts _ q1262) (hts _ q86) (hts _ q87) rfl (by rw [hml]; exact hl.1) rfl dX9_init_1 (Nat.le_of_ble_eq_true rfl) (Nat.le_of_ble_eq_true rfl) ?_
  refine W.eq (g2 := F0 m 4 ls []) rfl ?_
  refine lv_aload_n hx hb dX9_init_4 rfl (lv_at hl 0 rfl) ?_
  refine va_new (ci := 4) (fs := [.int 0, .null, .int 0]) (C := RJx4a65c) (T := TJx4a65c) (N := 3) hx hb hts inJx4a65c tyJx4a65c tyJx4a65c_ok hown (hts _ q1263) (hts _ q89) (hts _ q46) hK hP hD hS hA rfl (fun j hj => by rcases (show j = 0 ∨ j = 1 ∨ j = 2 by omega) with rfl | rfl | rfl <;> rfl) (Nat.le_of_ble_eq_true rfl) (Nat.le_of_ble_eq_true rfl) dX9_init_5 (fun q_74 H hP hD hS => ?_)
  have hP : va_P (dC, dI) vwCl [(h0, .inr (14, [.null, .null, .long 0, .int 0, .int 0, .int 0])), (q_74, .inr (4, [.int 0, .null, .int 0]))] H := hP
  have hD : va_D A [(h0, .inr (14, [.null, .null, .long 0, .int 0, .int 0, .int 0])), (q_74, .inr (4, [.int 0, .null, .int 0]))] := hD
  refine W.widen (k := 1) (n := 3) (Nat.le_of_ble_eq_true rfl) (Nat.le_of_ble_eq_true rfl) ?_
  refine lv_dup hx hb dX9_init_8 rfl ?_
  have hPc := hP.sub (ws' := [(q_74, .inr (4, [.int 0, .null, .int 0]))]) [1] rfl
  have hDc := hD.sub (ws' := [(q_74, .inr (4, [.int 0, .null, .int 0]))]) [1] (by decide) rfl
  have hKc := hK.sub (tys' := []) [] rfl
  have hFc := va_free (wc := [(q_74, .inr (4, [.int 0, .null, .int 0]))]) hD hS hA [1] rfl
  refine va_callv (va_runI (As := []) (rest := [.ref q_74, .ref h0]) ⟨hx, hb, hml, hown, hts⟩ (m_listInit l dC dI H.size ed q_74 (.int 0) .null 0) (cwI 0 hts (pw_c q92) rfl rfl rfl (hts _ q46) (hts _ q1264) (hts _ q91) rfl (by decide +kernel) ⟨(Nat.le_of_ble_eq_true rfl), (Nat.le_of_ble_eq_true rfl)⟩) ⟨fun a U g mk q => by obtain ⟨q0, q1, qP, qK, qD, qZ⟩ := q; exact ⟨q0, q1, qP, va_K.moved (u := U) (U := U.calling g mk a) (Vm.Alike.refl U.vm) qK, qD, qZ.same rfl⟩, fun U hU hW => ⟨rfl, by rw [hU], by rw [hU]; exact hPc, va_K.moved hW.alike hKc, hDc.weaken (fun _ _ _ _ => trivial), hZ.call hS hFc hU hW⟩⟩ rfl rfl hl.1 rfl (lv_room (Nat.le_of_ble_eq_true rfl)) dX9_init_9 ⟨(Nat.le_of_ble_eq_true rfl), (Nat.le_of_ble_eq_true rfl)⟩) hS (fun q _ h => hFc q h) hFc (fun u t H1 locs ht hvm hw hB hz1 hk1 hS => ?_)
  obtain ⟨hP1, hK1, hD1⟩ := hB
  rw [ht] at hP1
  have hK1 := va_K.moved hvm.symm hK1
  obtain ⟨hP, hD⟩ := va_join (wr := [(h0, .inr (14, [.null, .null, .long 0, .int 0, .int 0, .int 0]))]) (w1 := [(q_74, .inr (4, [.int 0, .ref ed, .int 0]))]) hP hD [1] [0] rfl rfl (by decide) (by decide) hk1 hFc hP1 hD1
  have hK := (hK.sub (tys' := []) [] rfl).app hK1
  generalize H1 = H at hP hS ⊢
  have hP : va_P (dC, dI) vwCl [(h0, .inr (14, [.null, .null, .long 0, .int 0, .int 0, .int 0])), (q_74, .inr (4, [.int 0, .ref ed, .int 0]))] H := hP
  have hD : va_D A [(h0, .inr (14, [.null, .null, .long 0, .int 0, .int 0, .int 0])), (q_74, .inr (4, [.int 0, .ref ed, .int 0]))] := hD
  have hK : va_K (dC, dI) vwCl [] s := hK
  refine W.widen (k := 1) (n := 3) (Nat.le_of_ble_eq_true rfl) (Nat.le_of_ble_eq_true rfl) ?_
  refine va_putF (D := (dC, dI)) (ci := 14) (v := .ref q_74) (ty := .object "java/util/ArrayList") (C := RX9) (T := TX9) (N := 6) hx hb hts inX9 tyX9 tyX9_ok nmX9 hown hK hP hD hS 0 rfl rfl 0 (by decide) (hts _ q1267) (fun _ h9 => h9) rfl hin rfl (by decide +kernel) rfl rfl (Nat.le_of_ble_eq_true rfl) dX9_init_12 (fun H locs hP hD hS => ?_)
  have hP : va_P (dC, dI) vwCl [(h0, .inr (14, [.ref q_74, .null, .long 0, .int 0, .int 0, .int 0])), (q_74, .inr (4, [.int 0, .ref ed, .int 0]))] H := hP
  have hD : va_D A [(h0, .inr (14, [.ref q_74, .null, .long 0, .int 0, .int 0, .int 0])), (q_74, .inr (4, [.int 0, .ref ed, .int 0]))] := hD
  refine lv_aload_n hx hb dX9_init_15 rfl (lv_at hl 0 rfl) ?_
  refine lv_bipush (v := 8) hx hb dX9_init_16 (by decide) ?_
  refine va_newa (atype := .int) (N' := 8) (a0 := (8, .inl (fun _ => 0))) (ty := .int) (n := 8) hx hb (hts _ q143) rfl hK hP hD hS hA (fun _ => rfl) (by decide) (by decide) (Nat.le_of_ble_eq_true rfl) (Nat.le_of_ble_eq_true rfl) (Nat.le_of_ble_eq_true rfl) dX9_init_18 (fun q_76 cA_77 H hK hP hD hS => ?_)
  have hP : va_P (dC, dI) vwCl [(h0, .inr (14, [.ref q_74, .null, .long 0, .int 0, .int 0, .int 0])), (q_74, .inr (4, [.int 0, .ref ed, .int 0])), (q_76, .inl (cA_77, 8, .inl (fun _ => 0)))] H := hP
  have hD : va_D A [(h0, .inr (14, [.ref q_74, .null, .long 0, .int 0, .int 0, .int 0])), (q_74, .inr (4, [.int 0, .ref ed, .int 0])), (q_76, .inl (cA_77, 8, .inl (fun _ => 0)))] := hD
  have hK : va_K (dC, dI) vwCl [(cA_77, .int)] s := hK
  refine W.widen (k := 2) (n := 11) (Nat.le_of_ble_eq_true rfl) (Nat.le_of_ble_eq_true rfl) ?_
  refine va_putF (D := (dC, dI)) (ci := 14) (v := .ref q_76) (ty := .array .int) (C := RX9) (T := TX9) (N := 6) hx hb hts inX9 tyX9 tyX9_ok nmX9 hown hK hP hD hS 0 rfl rfl 1 (by decide) (hts _ q1269) (fun _ h9 => h9) rfl hin rfl (by decide +kernel) rfl rfl (Nat.le_of_ble_eq_true rfl) dX9_init_20 (fun H locs hP hD hS => ?_)
  have hP : va_P (dC, dI) vwCl [(h0, .inr (14, [.ref q_74, .ref q_76, .long 0, .int 0, .int 0, .int 0])), (q_74, .inr (4, [.int 0, .ref ed, .int 0])), (q_76, .inl (cA_77, 8, .inl (fun _ => 0)))] H := hP
  have hD : va_D A [(h0, .inr (14, [.ref q_74, .ref q_76, .long 0, .int 0, .int 0, .int 0])), (q_74, .inr (4, [.int 0, .ref ed, .int 0])), (q_76, .inl (cA_77, 8, .inl (fun _ => 0)))] := hD
  refine lv_aload_n hx hb dX9_init_23 rfl (lv_at hl 0 rfl) ?_
  refine lv_ldc (v := 1000000000) hx hb hown (hts _ q1265) dX9_init_24 ?_
  refine va_put (D := (dC, dI)) (ci := 14) (v := .int 1000000000) (ty := .int) (C := RX9) (T := TX9) (N := 6) hx hb hts inX9 tyX9 tyX9_ok nmX9 hown hK hP hD hS 0 rfl rfl 3 (by decide) (hts _ q1272) (fun _ h9 => h9) rfl (by decide +kernel) rfl rfl (Nat.le_of_ble_eq_true rfl) dX9_init_26 (fun H locs hP hD hS => ?_)
  have hP : va_P (dC, dI) vwCl [(h0, .inr (14, [.ref q_74, .ref q_76, .long 0, .int 1000000000, .int 0, .int 0])), (q_74, .inr (4, [.int 0, .ref ed, .int 0])), (q_76, .inl (cA_77, 8, .inl (fun _ => 0)))] H := hP
  have hD : va_D A [(h0, .inr (14, [.ref q_74, .ref q_76, .long 0, .int 1000000000, .int 0, .int 0])), (q_74, .inr (4, [.int 0, .ref ed, .int 0])), (q_76, .inl (cA_77, 8, .inl (fun _ => 0)))] := hD
  refine lv_aload_n hx hb dX9_init_29 rfl (lv_at hl 0 rfl) ?_
  refine lv_iconst (v := -1) hx hb dX9_init_30 (by decide) ?_
  refine va_put (D := (dC, dI)) (ci := 14) (v := .int (-1)) (ty := .int) (C := RX9) (T := TX9) (N := 6) hx hb hts inX9 tyX9 tyX9_ok nmX9 hown hK hP hD hS 0 rfl rfl 4 (by decide) (hts _ q1274) (fun _ h9 => h9) rfl (by decide +kernel) rfl rfl (Nat.le_of_ble_eq_true rfl) dX9_init_31 (fun H locs hP hD hS => ?_)
  have hP : va_P (dC, dI) vwCl [(h0, .inr (14, [.ref q_74, .ref q_76, .long 0, .int 1000000000, .int (-1), .int 0])), (q_74, .inr (4, [.int 0, .ref ed, .int 0])), (q_76, .inl (cA_77, 8, .inl (fun _ => 0)))] H := hP
  have hD : va_D A [(h0, .inr (14, [.ref q_74, .ref q_76, .long 0, .int 1000000000, .int (-1), .int 0])), (q_74, .inr (4, [.int 0, .ref ed, .int 0])), (q_76, .inl (cA_77, 8, .inl (fun _ => 0)))] := hD
  have hP9 := hP.sub (ws' := [(h0, .inr (14, [.ref q_74, .ref q_76, .long 0, .int 1000000000, .int (-1), .int 0]))]) [0] rfl
  have hD9 := hD.sub (ws' := [(h0, .inr (14, [.ref q_74, .ref q_76, .long 0, .int 1000000000, .int (-1), .int 0]))]) [0] (by decide) rfl
  have hK9 := hK.sub (tys' := []) [] rfl
  refine W.widen (k := 2) (n := 11) (Nat.le_of_ble_eq_true rfl) (Nat.le_of_ble_eq_true rfl) ?_
  exact W.vret hx hb hr (fun t ht hW => ⟨⟨(), rfl, trivial, ⟨(.ref q_74), (.ref q_76), (.long 0), (.int 1000000000), (.int (-1)), (.int 0), by rw [ht]; exact hP9, va_K.moved hW.alike hK9, hD9⟩⟩, hS.F ht⟩) hS.2.2 dX9_init_34
set_option maxHeartbeats 4000000 in
set_option maxRecDepth 100000 in
theorem m_modelInit (l : Launch) (dC : Nat → ClassId) (dI : Nat → Nat → Nat) (sz : Nat) (ed : Nat) (h0 : Nat) : Met l yX10_init (pw_ws yX10_init cX10_init 1 none) ({ frames := 4, cells := 5, slots := 15, locals := 80 } : Room) (va_Pc [.ref h0] (fun U => U.heap.size = sz ∧ va_P (dC, dI) vwCl [(h0, .inr (15, [.null, .null, .null, .null, .null, .int 0]))] U.heap ∧ va_K (dC, dI) vwCl [] U ∧ va_D (fun _ => True) [(h0, .inr (15, [.null, .null, .null, .null, .null, .int 0]))] ∧ pz ed (va_A [(h0, .inr (15, [.null, .null, .null, .null, .null, .int 0]))] sz) U U.heap)) (va_Qv (fun (_ : Unit) => True) (fun (_ : Unit) (t : State) => ∃ (b1 : Nat), ∃ (b2 : Nat), ∃ (b3 : Nat), ∃ (b4 : Nat), ∃ (b5 : Nat), va_P (dC, dI) vwCl [(h0, .inr (15, [.ref b1, .ref b2, .ref b3, .ref b4, .ref b5, .int 0])), (b1, .inr (4, [.int 0, .ref ed, .int 0])), (b2, .inr (4, [.int 0, .ref ed, .int 0])), (b3, .inr (4, [.int 0, .ref ed, .int 0])), (b4, .inr (4, [.int 0, .ref ed, .int 0])), (b5, .inr (4, [.int 0, .ref ed, .int 0]))] t.heap ∧ va_K (dC, dI) vwCl [] t ∧ va_D (va_A [(h0, .inr (15, [.null, .null, .null, .null, .null, .int 0]))] sz) [(h0, .inr (15, [.ref b1, .ref b2, .ref b3, .ref b4, .ref b5, .int 0])), (b1, .inr (4, [.int 0, .ref ed, .int 0])), (b2, .inr (4, [.int 0, .ref ed, .int 0])), (b3, .inr (4, [.int 0, .ref ed, .int 0])), (b4, .inr (4, [.int 0, .ref ed, .int 0])), (b5, .inr (4, [.int 0, .ref ed, .int 0]))]) (va_A [(h0, .inr (15, [.null, .null, .null, .null, .null, .int 0]))] sz)) 5 15 (va_A [(h0, .inr (15, [.null, .null, .null, .null, .null, .int 0]))] sz) := by
  refine Met.ofW (cc := cX10_init) (maxL := 1) (ret := none) (by decide) rfl ?_
  intro p e s m args below meth c s₁ B hml hv
  obtain ⟨rfl, hsz, hP, hK, hD0, hZ⟩ := hv
  have hx := B.exec
  have hb := B.bytes
  have hr := B.returns
  have hts0 := atoms_spec (ws := (pw_ws yX10_init cX10_init 1 none)) B.pre
  have hts : ∀ w ∈ pw_all, w.before _ s = true := fun w h => hts0 w (List.mem_cons_of_mem _ h)
  have hown : s.vm.findClass RX10 = some m.cls := findClass_of_methodNamed B.named
  have hlocks := B.notSynchronized
  have hin : meth.name = "<init>" := (name_of_methodNamed B.named B.method).1
  subst hsz
  have hD := hD0.self (sz := s.heap.size)
  generalize hAe : va_A [(h0, .inr (15, [.null, .null, .null, .null, .null, .int 0]))] s.heap.size = A at hD hZ ⊢
  have hA : ∀ q : Nat, s.heap.size ≤ q → A q := fun q h => by rw [← hAe]; exact Or.inr h
  have hS : va_S A s.heap s.heap [] := va_S.rf
  have hP : va_P (dC, dI) vwCl [(h0, .inr (15, [.null, .null, .null, .null, .null, .int 0]))] s.heap := hP
  have hl := lv_entry ([.ref h0]) (n := 1) (Nat.le_of_ble_eq_true rfl)
  rw [lg_entry_eq]
  generalize (lg_sl ([.ref h0]) ++ List.replicate (1 - (lg_sl ([.ref h0])).length) Slot.unset).toArray = ls at hl ⊢
  have hl : lv_has ls 1 [(0, .ref h0)] := hl
  skip
  refine lv_aload_n hx hb dX10_init_0 rfl (lv_at hl 0 rfl) ?_
  refine W.objInit hx hb hown (hts _ q1222) (hts _ q86) (hts _ q87) rfl (by rw [hml]; exact hl.1) rfl dX10_init_1 (Nat.le_of_ble_eq_true rfl) (Nat.le_of_ble_eq_true rfl) ?_
  refine W.eq (g2 := F0 m 4 ls []) rfl ?_
  refine lv_aload_n hx hb dX10_init_4 rfl (lv_at hl 0 rfl) ?_
  refine va_new (ci := 4) (fs := [.int 0, .null, .int 0]) (C := RJx4a65c) (T := TJx4a65c) (N := 3) hx hb hts inJx4a65c tyJx4a65c tyJx4a65c_ok hown (hts _ q1223) (hts _ q89) (hts _ q46) hK hP hD hS hA rfl (fun j hj => by rcases (show j = 0 ∨ j = 1 ∨ j = 2 by omega) with rfl | rfl | rfl <;> rfl) (Nat.le_of_ble_eq_true rfl) (Nat.le_of_ble_eq_true rfl) dX10_init_5 (fun q_78 H hP hD hS => ?_)
  have hP : va_P (dC, dI) vwCl [(h0, .inr (15, [.null, .null, .null, .null, .null, .int 0])), (q_78, .inr (4, [.int 0, .null, .int 0]))] H := hP
  have hD : va_D A [(h0, .inr (15, [.null, .null, .null, .null, .null, .int 0])), (q_78, .inr (4, [.int 0, .null, .int 0]))] := hD
  refine W.widen (k := 1) (n := 3) (Nat.le_of_ble_eq_true rfl) (Nat.le_of_ble_eq_true rfl) ?_
  refine lv_dup hx hb dX10_init_8 rfl ?_
  have hPc := hP.sub (ws' := [(q_78, .inr (4, [.int 0, .null, .int 0]))]) [1] rfl
  have hDc := hD.sub (ws' := [(q_78, .inr (4, [.int 0, .null, .int 0]))]) [1] (by decide) rfl
  have hKc := hK.sub (tys' := []) [] rfl
  have hFc := va_free (wc := [(q_78, .inr (4, [.int 0, .null, .int 0]))]) hD hS hA [1] rfl
  refine va_callv (va_runI (As := []) (rest := [.ref q_78, .ref h0]) ⟨hx, hb, hml, hown, hts⟩ (m_listInit l dC dI H.size ed q_78 (.int 0) .null 0) (cwI 0 hts (pw_c q92) rfl rfl rfl (hts _ q46) (hts _ q1224) (hts _ q91) rfl (by decide +kernel) ⟨(Nat.le_of_ble_eq_true rfl), (Nat.le_of_ble_eq_true rfl)⟩) ⟨fun a U g mk q => by obtain ⟨q0, q1, qP, qK, qD, qZ⟩ := q; exact ⟨q0, q1, qP, va_K.moved (u := U) (U := U.calling g mk a) (Vm.Alike.refl U.vm) qK, qD, qZ.same rfl⟩, fun U hU hW => ⟨rfl, by rw [hU], by rw [hU]; exact hPc, va_K.moved hW.alike hKc, hDc.weaken (fun _ _ _ _ => trivial), hZ.call hS hFc hU hW⟩⟩ rfl rfl hl.1 rfl (lv_room (Nat.le_of_ble_eq_true rfl)) dX10_init_9 ⟨(Nat.le_of_ble_eq_true rfl), (Nat.le_of_ble_eq_true rfl)⟩) hS (fun q _ h => hFc q h) hFc (fun u t H1 locs ht hvm hw hB hz1 hk1 hS => ?_)
  obtain ⟨hP1, hK1, hD1⟩ := hB
  rw [ht] at hP1
  have hK1 := va_K.moved hvm.symm hK1
  obtain ⟨hP, hD⟩ := va_join (wr := [(h0, .inr (15, [.null, .null, .null, .null, .null, .int 0]))]) (w1 := [(q_78, .inr (4, [.int 0, .ref ed, .int 0]))]) hP hD [1] [0] rfl rfl (by decide) (by decide) hk1 hFc hP1 hD1
  have hK := (hK.sub (tys' := []) [] rfl).app hK1
  generalize H1 = H at hP hS ⊢
  have hP : va_P (dC, dI) vwCl [(h0, .inr (15, [.null, .null, .null, .null, .null, .int 0])), (q_78, .inr (4, [.int 0, .ref ed, .int 0]))] H := hP
  have hD : va_D A [(h0, .inr (15, [.null, .null, .null, .null, .null, .int 0])), (q_78, .inr (4, [.int 0, .ref ed, .int 0]))] := hD
  have hK : va_K (dC, dI) vwCl [] s := hK
  refine W.widen (k := 1) (n := 3) (Nat.le_of_ble_eq_true rfl) (Nat.le_of_ble_eq_true rfl) ?_
  refine va_putF (D := (dC, dI)) (ci := 15) (v := .ref q_78) (ty := .object "java/util/ArrayList") (C := RX10) (T := TX10) (N := 6) hx hb hts inX10 tyX10 tyX10_ok nmX10 hown hK hP hD hS 0 rfl rfl 0 (by decide) (hts _ q1225) (fun _ h9 => h9) rfl hin rfl (by decide +kernel) rfl rfl (Nat.le_of_ble_eq_true rfl) dX10_init_12 (fun H locs hP hD hS => ?_)
  have hP : va_P (dC, dI) vwCl [(h0, .inr (15, [.ref q_78, .null, .null, .null, .null, .int 0])), (q_78, .inr (4, [.int 0, .ref ed, .int 0]))] H := hP
  have hD : va_D A [(h0, .inr (15, [.ref q_78, .null, .null, .null, .null, .int 0])), (q_78, .inr (4, [.int 0, .ref ed, .int 0]))] := hD
  refine lv_aload_n hx hb dX10_init_15 rfl (lv_at hl 0 rfl) ?_
  refine va_new (ci := 4) (fs := [.int 0, .null, .int 0]) (C := RJx4a65c) (T := TJx4a65c) (N := 3) hx hb hts inJx4a65c tyJx4a65c tyJx4a65c_ok hown (hts _ q1223) (hts _ q89) (hts _ q46) hK hP hD hS hA rfl (fun j hj => by rcases (show j = 0 ∨ j = 1 ∨ j = 2 by omega) with rfl | rfl | rfl <;> rfl) (Nat.le_of_ble_eq_true rfl) (Nat.le_of_ble_eq_true rfl) dX10_init_16 (fun q_80 H hP hD hS => ?_)
  have hP : va_P (dC, dI) vwCl [(h0, .inr (15, [.ref q_78, .null, .null, .null, .null, .int 0])), (q_78, .inr (4, [.int 0, .ref ed, .int 0])), (q_80, .inr (4, [.int 0, .null, .int 0]))] H := hP
  have hD : va_D A [(h0, .inr (15, [.ref q_78, .null, .null, .null, .null, .int 0])), (q_78, .inr (4, [.int 0, .ref ed, .int 0])), (q_80, .inr (4, [.int 0, .null, .int 0]))] := hD
  refine W.widen (k := 2) (n := 6) (Nat.le_of_ble_eq_true rfl) (Nat.le_of_ble_eq_true rfl) ?_
  refine lv_dup hx hb dX10_init_19 rfl ?_
  have hPc := hP.sub (ws' := [(q_80, .inr (4, [.int 0, .null, .int 0]))]) [2] rfl
  have hDc := hD.sub (ws' := [(q_80, .inr (4, [.int 0, .null, .int 0]))]) [2] (by decide) rfl
  have hKc := hK.sub (tys' := []) [] rfl
  have hFc := va_free (wc := [(q_80, .inr (4, [.int 0, .null, .int 0]))]) hD hS hA [2] rfl
  refine va_callv (va_runI (As := []) (rest := [.ref q_80, .ref h0]) ⟨hx, hb, hml, hown, hts⟩ (m_listInit l dC dI H.size ed q_80 (.int 0) .null 0) (cwI 0 hts (pw_c q92) rfl rfl rfl (hts _ q46) (hts _ q1224) (hts _ q91) rfl (by decide +kernel) ⟨(Nat.le_of_ble_eq_true rfl), (Nat.le_of_ble_eq_true rfl)⟩) ⟨fun a U g mk q => by obtain ⟨q0, q1, qP, qK, qD, qZ⟩ := q; exact ⟨q0, q1, qP, va_K.moved (u := U) (U := U.calling g mk a) (Vm.Alike.refl U.vm) qK, qD, qZ.same rfl⟩, fun U hU hW => ⟨rfl, by rw [hU], by rw [hU]; exact hPc, va_K.moved hW.alike hKc, hDc.weaken (fun _ _ _ _ => trivial), hZ.call hS hFc hU hW⟩⟩ rfl rfl hl.1 rfl (lv_room (Nat.le_of_ble_eq_true rfl)) dX10_init_20 ⟨(Nat.le_of_ble_eq_true rfl), (Nat.le_of_ble_eq_true rfl)⟩) hS (fun q _ h => hFc q h) hFc (fun u t H1 locs ht hvm hw hB hz1 hk1 hS => ?_)
  obtain ⟨hP1, hK1, hD1⟩ := hB
  rw [ht] at hP1
  have hK1 := va_K.moved hvm.symm hK1
  obtain ⟨hP, hD⟩ := va_join (wr := [(h0, .inr (15, [.ref q_78, .null, .null, .null, .null, .int 0])), (q_78, .inr (4, [.int 0, .ref ed, .int 0]))]) (w1 := [(q_80, .inr (4, [.int 0, .ref ed, .int 0]))]) hP hD [2] [0, 1] rfl rfl (by decide) (by decide) hk1 hFc hP1 hD1
  have hK := (hK.sub (tys' := []) [] rfl).app hK1
  generalize H1 = H at hP hS ⊢
  have hP : va_P (dC, dI) vwCl [(h0, .inr (15, [.ref q_78, .null, .null, .null, .null, .int 0])), (q_78, .inr (4, [.int 0, .ref ed, .int 0])), (q_80, .inr (4, [.int 0, .ref ed, .int 0]))] H := hP
  have hD : va_D A [(h0, .inr (15, [.ref q_78, .null, .null, .null, .null, .int 0])), (q_78, .inr (4, [.int 0, .ref ed, .int 0])), (q_80, .inr (4, [.int 0, .ref ed, .int 0]))] := hD
  have hK : va_K (dC, dI) vwCl [] s := hK
  refine W.widen (k := 2) (n := 6) (Nat.le_of_ble_eq_true rfl) (Nat.le_of_ble_eq_true rfl) ?_
  refine va_putF (D := (dC, dI)) (ci := 15) (v := .ref q_80) (ty := .object "java/util/ArrayList") (C := RX10) (T := TX10) (N := 6) hx hb hts inX10 tyX10 tyX10_ok nmX10 hown hK hP hD hS 0 rfl rfl 1 (by decide) (hts _ q1226) (fun _ h9 => h9) rfl hin rfl (by decide +kernel) rfl rfl (Nat.le_of_ble_eq_true rfl) dX10_init_23 (fun H locs hP hD hS => ?_)
  have hP : va_P (dC, dI) vwCl [(h0, .inr (15, [.ref q_78, .ref q_80, .null, .null, .null, .int 0])), (q_78, .inr (4, [.int 0, .ref ed, .int 0])), (q_80, .inr (4, [.int 0, .ref ed, .int 0]))] H := hP
  have hD : va_D A [(h0, .inr (15, [.ref q_78, .ref q_80, .null, .null, .null, .int 0])), (q_78, .inr (4, [.int 0, .ref ed, .int 0])), (q_80, .inr (4, [.int 0, .ref ed, .int 0]))] := hD
  refine lv_aload_n hx hb dX10_init_26 rfl (lv_at hl 0 rfl) ?_
  refine va_new (ci := 4) (fs := [.int 0, .null, .int 0]) (C := RJx4a65c) (T := TJx4a65c) (N := 3) hx hb hts inJx4a65c tyJx4a65c tyJx4a65c_ok hown (hts _ q1223) (hts _ q89) (hts _ q46) hK hP hD hS hA rfl (fun j hj => by rcases (show j = 0 ∨ j = 1 ∨ j = 2 by omega) with rfl | rfl | rfl <;> rfl) (Nat.le_of_ble_eq_true rfl) (Nat.le_of_ble_eq_true rfl) dX10_init_27 (fun q_82 H hP hD hS => ?_)
  have hP : va_P (dC, dI) vwCl [(h0, .inr (15, [.ref q_78, .ref q_80, .null, .null, .null, .int 0])), (q_78, .inr (4, [.int 0, .ref ed, .int 0])), (q_80, .inr (4, [.int 0, .ref ed, .int 0])), (q_82, .inr (4, [.int 0, .null, .int 0]))] H := hP
  have hD : va_D A [(h0, .inr (15, [.ref q_78, .ref q_80, .null, .null, .null, .int 0])), (q_78, .inr (4, [.int 0, .ref ed, .int 0])), (q_80, .inr (4, [.int 0, .ref ed, .int 0])), (q_82, .inr (4, [.int 0, .null, .int 0]))] := hD
  refine W.widen (k := 3) (n := 9) (Nat.le_of_ble_eq_true rfl) (Nat.le_of_ble_eq_true rfl) ?_
  refine lv_dup hx hb dX10_init_30 rfl ?_
  have hPc := hP.sub (ws' := [(q_82, .inr (4, [.int 0, .null, .int 0]))]) [3] rfl
  have hDc := hD.sub (ws' := [(q_82, .inr (4, [.int 0, .null, .int 0]))]) [3] (by decide) rfl
  have hKc := hK.sub (tys' := []) [] rfl
  have hFc := va_free (wc := [(q_82, .inr (4, [.int 0, .null, .int 0]))]) hD hS hA [3] rfl
  refine va_callv (va_runI (As := []) (rest := [.ref q_82, .ref h0]) ⟨hx, hb, hml, hown, hts⟩ (m_listInit l dC dI H.size ed q_82 (.int 0) .null 0) (cwI 0 hts (pw_c q92) rfl rfl rfl (hts _ q46) (hts _ q1224) (hts _ q91) rfl (by decide +kernel) ⟨(Nat.le_of_ble_eq_true rfl), (Nat.le_of_ble_eq_true rfl)⟩) ⟨fun a U g mk q => by obtain ⟨q0, q1, qP, qK, qD, qZ⟩ := q; exact ⟨q0, q1, qP, va_K.moved (u := U) (U := U.calling g mk a) (Vm.Alike.refl U.vm) qK, qD, qZ.same rfl⟩, fun U hU hW => ⟨rfl, by rw [hU], by rw [hU]; exact hPc, va_K.moved hW.alike hKc, hDc.weaken (fun _ _ _ _ => trivial), hZ.call hS hFc hU hW⟩⟩ rfl rfl hl.1 rfl (lv_room (Nat.le_of_ble_eq_true rfl)) dX10_init_31 ⟨(Nat.le_of_ble_eq_true rfl), (Nat.le_of_ble_eq_true rfl)⟩) hS (fun q _ h => hFc q h) hFc (fun u t H1 locs ht hvm hw hB hz1 hk1 hS => ?_)
  obtain ⟨hP1, hK1, hD1⟩ := hB
  rw [ht] at hP1
  have hK1 := va_K.moved hvm.symm hK1
  obtain ⟨hP, hD⟩ := va_join (wr := [(h0, .inr (15, [.ref q_78, .ref q_80, .null, .null, .null, .int 0])), (q_78, .inr (4, [.int 0, .ref ed, .int 0])), (q_80, .inr (4, [.int 0, .ref ed, .int 0]))]) (w1 := [(q_82, .inr (4, [.int 0, .ref ed, .int 0]))]) hP hD [3] [0, 1, 2] rfl rfl (by decide) (by decide) hk1 hFc hP1 hD1
  have hK := (hK.sub (tys' := []) [] rfl).app hK1
  generalize H1 = H at hP hS ⊢
  have hP : va_P (dC, dI) vwCl [(h0, .inr (15, [.ref q_78, .ref q_80, .null, .null, .null, .int 0])), (q_78, .inr (4, [.int 0, .ref ed, .int 0])), (q_80, .inr (4, [.int 0, .ref ed, .int 0])), (q_82, .inr (4, [.int 0, .ref ed, .int 0]))] H := hP
  have hD : va_D A [(h0, .inr (15, [.ref q_78, .ref q_80, .null, .null, .null, .int 0])), (q_78, .inr (4, [.int 0, .ref ed, .int 0])), (q_80, .inr (4, [.int 0, .ref ed, .int 0])), (q_82, .inr (4, [.int 0, .ref ed, .int 0]))] := hD
  have hK : va_K (dC, dI) vwCl [] s := hK
  refine W.widen (k := 3) (n := 9) (Nat.le_of_ble_eq_true rfl) (Nat.le_of_ble_eq_true rfl) ?_
  refine va_putF (D := (dC, dI)) (ci := 15) (v := .ref q_82) (ty := .object "java/util/ArrayList") (C := RX10) (T := TX10) (N := 6) hx hb hts inX10 tyX10 tyX10_ok nmX10 hown hK hP hD hS 0 rfl rfl 2 (by decide) (hts _ q1227) (fun _ h9 => h9) rfl hin rfl (by decide +kernel) rfl rfl (Nat.le_of_ble_eq_true rfl) dX10_init_34 (fun H locs hP hD hS => ?_)
  have hP : va_P (dC, dI) vwCl [(h0, .inr (15, [.ref q_78, .ref q_80, .ref q_82, .null, .null, .int 0])), (q_78, .inr (4, [.int 0, .ref ed, .int 0])), (q_80, .inr (4, [.int 0, .ref ed, .int 0])), (q_82, .inr (4, [.int 0, .ref ed, .int 0]))] H := hP
  have hD : va_D A [(h0, .inr (15, [.ref q_78, .ref q_80, .ref q_82, .null, .null, .int 0])), (q_78, .inr (4, [.int 0, .ref ed, .int 0])), (q_80, .inr (4, [.int 0, .ref ed, .int 0])), (q_82, .inr (4, [.int 0, .ref ed, .int 0]))] := hD
  refine lv_aload_n hx hb dX10_init_37 rfl (lv_at hl 0 rfl) ?_
  refine va_new (ci := 4) (fs := [.int 0, .null, .int 0]) (C := RJx4a65c) (T := TJx4a65c) (N := 3) hx hb hts inJx4a65c tyJx4a65c tyJx4a65c_ok hown (hts _ q1223) (hts _ q89) (hts _ q46) hK hP hD hS hA rfl (fun j hj => by rcases (show j = 0 ∨ j = 1 ∨ j = 2 by omega) with rfl | rfl | rfl <;> rfl) (Nat.le_of_ble_eq_true rfl) (Nat.le_of_ble_eq_true rfl) dX10_init_38 (fun q_84 H hP hD hS => ?_)
  have hP : va_P (dC, dI) vwCl [(h0, .inr (15, [.ref q_78, .ref q_80, .ref q_82, .null, .null, .int 0])), (q_78, .inr (4, [.int 0, .ref ed, .int 0])), (q_80, .inr (4, [.int 0, .ref ed, .int 0])), (q_82, .inr (4, [.int 0, .ref ed, .int 0])), (q_84, .inr (4, [.int 0, .null, .int 0]))] H := hP
  have hD : va_D A [(h0, .inr (15, [.ref q_78, .ref q_80, .ref q_82, .null, .null, .int 0])), (q_78, .inr (4, [.int 0, .ref ed, .int 0])), (q_80, .inr (4, [.int 0, .ref ed, .int 0])), (q_82, .inr (4, [.int 0, .ref ed, .int 0])), (q_84, .inr (4, [.int 0, .null, .int 0]))] := hD
  refine W.widen (k := 4) (n := 12) (Nat.le_of_ble_eq_true rfl) (Nat.le_of_ble_eq_true rfl) ?_
  refine lv_dup hx hb dX10_init_41 rfl ?_
  have hPc := hP.sub (ws' := [(q_84, .inr (4, [.int 0, .null, .int 0]))]) [4] rfl
  have hDc := hD.sub (ws' := [(q_84, .inr (4, [.int 0, .null, .int 0]))]) [4] (by decide) rfl
  have hKc := hK.sub (tys' := []) [] rfl
  have hFc := va_free (wc := [(q_84, .inr (4, [.int 0, .null, .int 0]))]) hD hS hA [4] rfl
  refine va_callv (va_runI (As := []) (rest := [.ref q_84, .ref h0]) ⟨hx, hb, hml, hown, hts⟩ (m_listInit l dC dI H.size ed q_84 (.int 0) .null 0) (cwI 0 hts (pw_c q92) rfl rfl rfl (hts _ q46) (hts _ q1224) (hts _ q91) rfl (by decide +kernel) ⟨(Nat.le_of_ble_eq_true rfl), (Nat.le_of_ble_eq_true rfl)⟩) ⟨fun a U g mk q => by obtain ⟨q0, q1, qP, qK, qD, qZ⟩ := q; exact ⟨q0, q1, qP, va_K.moved (u := U) (U := U.calling g mk a) (Vm.Alike.refl U.vm) qK, qD, qZ.same rfl⟩, fun U hU hW => ⟨rfl, by rw [hU], by rw [hU]; exact hPc, va_K.moved hW.alike hKc, hDc.weaken (fun _ _ _ _ => trivial), hZ.call hS hFc hU hW⟩⟩ rfl rfl hl.1 rfl (lv_room (Nat.le_of_ble_eq_true rfl)) dX10_init_42 ⟨(Nat.le_of_ble_eq_true rfl), (Nat.le_of_ble_eq_true rfl)⟩) hS (fun q _ h => hFc q h) hFc (fun u t H1 locs ht hvm hw hB hz1 hk1 hS => ?_)
  obtain ⟨hP1, hK1, hD1⟩ := hB
  rw [ht] at hP1
  have hK1 := va_K.moved hvm.symm hK1
  obtain ⟨hP, hD⟩ := va_join (wr := [(h0, .inr (15, [.ref q_78, .ref q_80, .ref q_82, .null, .null, .int 0])), (q_78, .inr (4, [.int 0, .ref ed, .int 0])), (q_80, .inr (4, [.int 0, .ref ed, .int 0])), (q_82, .inr (4, [.int 0, .ref ed, .int 0]))]) (w1 := [(q_84, .inr (4, [.int 0, .ref ed, .int 0]))]) hP hD [4] [0, 1, 2, 3] rfl rfl (by decide) (by decide) hk1 hFc hP1 hD1
  have hK := (hK.sub (tys' := []) [] rfl).app hK1
  generalize H1 = H at hP hS ⊢
  have hP : va_P (dC, dI) vwCl [(h0, .inr (15, [.ref q_78, .ref q_80, .ref q_82, .null, .null, .int 0])), (q_78, .inr (4, [.int 0, .ref ed, .int 0])), (q_80, .inr (4, [.int 0, .ref ed, .int 0])), (q_82, .inr (4, [.int 0, .ref ed, .int 0])), (q_84, .inr (4, [.int 0, .ref ed, .int 0]))] H := hP
  have hD : va_D A [(h0, .inr (15, [.ref q_78, .ref q_80, .ref q_82, .null, .null, .int 0])), (q_78, .inr (4, [.int 0, .ref ed, .int 0])), (q_80, .inr (4, [.int 0, .ref ed, .int 0])), (q_82, .inr (4, [.int 0, .ref ed, .int 0])), (q_84, .inr (4, [.int 0, .ref ed, .int 0]))] := hD
  have hK : va_K (dC, dI) vwCl [] s := hK
  refine W.widen (k := 4) (n := 12) (Nat.le_of_ble_eq_true rfl) (Nat.le_of_ble_eq_true rfl) ?_
  refine va_putF (D := (dC, dI)) (ci := 15) (v := .ref q_84) (ty := .object "java/util/ArrayList") (C := RX10) (T := TX10) (N := 6) hx hb hts inX10 tyX10 tyX10_ok nmX10 hown hK hP hD hS 0 rfl rfl 3 (by decide) (hts _ q1228) (fun _ h9 => h9) rfl hin rfl (by decide +kernel) rfl rfl (Nat.le_of_ble_eq_true rfl) dX10_init_45 (fun H locs hP hD hS => ?_)
  have hP : va_P (dC, dI) vwCl [(h0, .inr (15, [.ref q_78, .ref q_80, .ref q_82, .ref q_84, .null, .int 0])), (q_78, .inr (4, [.int 0, .ref ed, .int 0])), (q_80, .inr (4, [.int 0, .ref ed, .int 0])), (q_82, .inr (4, [.int 0, .ref ed, .int 0])), (q_84, .inr (4, [.int 0, .ref ed, .int 0]))] H := hP
  have hD : va_D A [(h0, .inr (15, [.ref q_78, .ref q_80, .ref q_82, .ref q_84, .null, .int 0])), (q_78, .inr (4, [.int 0, .ref ed, .int 0])), (q_80, .inr (4, [.int 0, .ref ed, .int 0])), (q_82, .inr (4, [.int 0, .ref ed, .int 0])), (q_84, .inr (4, [.int 0, .ref ed, .int 0]))] := hD
  refine lv_aload_n hx hb dX10_init_48 rfl (lv_at hl 0 rfl) ?_
  refine va_new (ci := 4) (fs := [.int 0, .null, .int 0]) (C := RJx4a65c) (T := TJx4a65c) (N := 3) hx hb hts inJx4a65c tyJx4a65c tyJx4a65c_ok hown (hts _ q1223) (hts _ q89) (hts _ q46) hK hP hD hS hA rfl (fun j hj => by rcases (show j = 0 ∨ j = 1 ∨ j = 2 by omega) with rfl | rfl | rfl <;> rfl) (Nat.le_of_ble_eq_true rfl) (Nat.le_of_ble_eq_true rfl) dX10_init_49 (fun q_86 H hP hD hS => ?_)
  have hP : va_P (dC, dI) vwCl [(h0, .inr (15, [.ref q_78, .ref q_80, .ref q_82, .ref q_84, .null, .int 0])), (q_78, .inr (4, [.int 0, .ref ed, .int 0])), (q_80, .inr (4, [.int 0, .ref ed, .int 0])), (q_82, .inr (4, [.int 0, .ref ed, .int 0])), (q_84, .inr (4, [.int 0, .ref ed, .int 0])), (q_86, .inr (4, [.int 0, .null, .int 0]))] H := hP
  have hD : va_D A [(h0, .inr (15, [.ref q_78, .ref q_80, .ref q_82, .ref q_84, .null, .int 0])), (q_78, .inr (4, [.int 0, .ref ed, .int 0])), (q_80, .inr (4, [.int 0, .ref ed, .int 0])), (q_82, .inr (4, [.int 0, .ref ed, .int 0])), (q_84, .inr (4, [.int 0, .ref ed, .int 0])), (q_86, .inr (4, [.int 0, .null, .int 0]))] := hD
  refine W.widen (k := 5) (n := 15) (Nat.le_of_ble_eq_true rfl) (Nat.le_of_ble_eq_true rfl) ?_
  refine lv_dup hx hb dX10_init_52 rfl ?_
  have hPc := hP.sub (ws' := [(q_86, .inr (4, [.int 0, .null, .int 0]))]) [5] rfl
  have hDc := hD.sub (ws' := [(q_86, .inr (4, [.int 0, .null, .int 0]))]) [5] (by decide) rfl
  have hKc := hK.sub (tys' := []) [] rfl
  have hFc := va_free (wc := [(q_86, .inr (4, [.int 0, .null, .int 0]))]) hD hS hA [5] rfl
  refine va_callv (va_runI (As := []) (rest := [.ref q_86, .ref h0]) ⟨hx, hb, hml, hown, hts⟩ (m_listInit l dC dI H.size ed q_86 (.int 0) .null 0) (cwI 0 hts (pw_c q92) rfl rfl rfl (hts _ q46) (hts _ q1224) (hts _ q91) rfl (by decide +kernel) ⟨(Nat.le_of_ble_eq_true rfl), (Nat.le_of_ble_eq_true rfl)⟩) ⟨fun a U g mk q => by obtain ⟨q0, q1, qP, qK, qD, qZ⟩ := q; exact ⟨q0, q1, qP, va_K.moved (u := U) (U := U.calling g mk a) (Vm.Alike.refl U.vm) qK, qD, qZ.same rfl⟩, fun U hU hW => ⟨rfl, by rw [hU], by rw [hU]; exact hPc, va_K.moved hW.alike hKc, hDc.weaken (fun _ _ _ _ => trivial), hZ.call hS hFc hU hW⟩⟩ rfl rfl hl.1 rfl (lv_room (Nat.le_of_ble_eq_true rfl)) dX10_init_53 ⟨(Nat.le_of_ble_eq_true rfl), (Nat.le_of_ble_eq_true rfl)⟩) hS (fun q _ h => hFc q h) hFc (fun u t H1 locs ht hvm hw hB hz1 hk1 hS => ?_)
  obtain ⟨hP1, hK1, hD1⟩ := hB
  rw [ht] at hP1
  have hK1 := va_K.moved hvm.symm hK1
  obtain ⟨hP, hD⟩ := va_join (wr := [(h0, .inr (15, [.ref q_78, .ref q_80, .ref q_82, .ref q_84, .null, .int 0])), (q_78, .inr (4, [.int 0, .ref ed, .int 0])), (q_80, .inr (4, [.int 0, .ref ed, .int 0])), (q_82, .inr (4, [.int 0, .ref ed, .int 0])), (q_84, .inr (4, [.int 0, .ref ed, .int 0]))]) (w1 := [(q_86, .inr (4, [.int 0, .ref ed, .int 0]))]) hP hD [5] [0, 1, 2, 3, 4] rfl rfl (by decide) (by decide) hk1 hFc hP1 hD1
  have hK := (hK.sub (tys' := []) [] rfl).app hK1
  generalize H1 = H at hP hS ⊢
  have hP : va_P (dC, dI) vwCl [(h0, .inr (15, [.ref q_78, .ref q_80, .ref q_82, .ref q_84, .null, .int 0])), (q_78, .inr (4, [.int 0, .ref ed, .int 0])), (q_80, .inr (4, [.int 0, .ref ed, .int 0])), (q_82, .inr (4, [.int 0, .ref ed, .int 0])), (q_84, .inr (4, [.int 0, .ref ed, .int 0])), (q_86, .inr (4, [.int 0, .ref ed, .int 0]))] H := hP
  have hD : va_D A [(h0, .inr (15, [.ref q_78, .ref q_80, .ref q_82, .ref q_84, .null, .int 0])), (q_78, .inr (4, [.int 0, .ref ed, .int 0])), (q_80, .inr (4, [.int 0, .ref ed, .int 0])), (q_82, .inr (4, [.int 0, .ref ed, .int 0])), (q_84, .inr (4, [.int 0, .ref ed, .int 0])), (q_86, .inr (4, [.int 0, .ref ed, .int 0]))] := hD
  have hK : va_K (dC, dI) vwCl [] s := hK
  refine W.widen (k := 5) (n := 15) (Nat.le_of_ble_eq_true rfl) (Nat.le_of_ble_eq_true rfl) ?_
  refine va_putF (D := (dC, dI)) (ci := 15) (v := .ref q_86) (ty := .object "java/util/ArrayList") (C := RX10) (T := TX10) (N := 6) hx hb hts inX10 tyX10 tyX10_ok nmX10 hown hK hP hD hS 0 rfl rfl 4 (by decide) (hts _ q1229) (fun _ h9 => h9) rfl hin rfl (by decide +kernel) rfl rfl (Nat.le_of_ble_eq_true rfl) dX10_init_56 (fun H locs hP hD hS => ?_)
  have hP : va_P (dC, dI) vwCl [(h0, .inr (15, [.ref q_78, .ref q_80, .ref q_82, .ref q_84, .ref q_86, .int 0])), (q_78, .inr (4, [.int 0, .ref ed, .int 0])), (q_80, .inr (4, [.int 0, .ref ed, .int 0])), (q_82, .inr (4, [.int 0, .ref ed, .int 0])), (q_84, .inr (4, [.int 0, .ref ed, .int 0])), (q_86, .inr (4, [.int 0, .ref ed, .int 0]))] H := hP
  have hD : va_D A [(h0, .inr (15, [.ref q_78, .ref q_80, .ref q_82, .ref q_84, .ref q_86, .int 0])), (q_78, .inr (4, [.int 0, .ref ed, .int 0])), (q_80, .inr (4, [.int 0, .ref ed, .int 0])), (q_82, .inr (4, [.int 0, .ref ed, .int 0])), (q_84, .inr (4, [.int 0, .ref ed, .int 0])), (q_86, .inr (4, [.int 0, .ref ed, .int 0]))] := hD
  have hP9 := hP.sub (ws' := [(h0, .inr (15, [.ref q_78, .ref q_80, .ref q_82, .ref q_84, .ref q_86, .int 0])), (q_78, .inr (4, [.int 0, .ref ed, .int 0])), (q_80, .inr (4, [.int 0, .ref ed, .int 0])), (q_82, .inr (4, [.int 0, .ref ed, .int 0])), (q_84, .inr (4, [.int 0, .ref ed, .int 0])), (q_86, .inr (4, [.int 0, .ref ed, .int 0]))]) [0, 1, 2, 3, 4, 5] rfl
  have hD9 := hD.sub (ws' := [(h0, .inr (15, [.ref q_78, .ref q_80, .ref q_82, .ref q_84, .ref q_86, .int 0])), (q_78, .inr (4, [.int 0, .ref ed, .int 0])), (q_80, .inr (4, [.int 0, .ref ed, .int 0])), (q_82, .inr (4, [.int 0, .ref ed, .int 0])), (q_84, .inr (4, [.int 0, .ref ed, .int 0])), (q_86, .inr (4, [.int 0, .ref ed, .int 0]))]) [0, 1, 2, 3, 4, 5] (by decide) rfl
  have hK9 := hK.sub (tys' := []) [] rfl
  refine W.widen (k := 5) (n := 15) (Nat.le_of_ble_eq_true rfl) (Nat.le_of_ble_eq_true rfl) ?_
  exact W.vret hx hb hr (fun t ht hW => ⟨⟨(), rfl, trivial, ⟨q_78, q_80, q_82, q_84, q_86, by rw [ht]; exact hP9, va_K.moved hW.alike hK9, hD9⟩⟩, hS.F ht⟩) hS.2.2 dX10_init_59
